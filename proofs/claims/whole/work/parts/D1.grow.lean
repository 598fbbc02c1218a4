/-! Tree.grow -/
theorem d_Tree_grow_0 : decode Y_Tree_grow.2.1 0 = .ok (.aload_n 0, 1) := by decide +kernel
theorem d_Tree_grow_1 : decode Y_Tree_grow.2.1 1 = .ok (.invokevirtual 51, 3) := by decide +kernel
theorem d_Tree_grow_4 : decode Y_Tree_grow.2.1 4 = .ok (.aload_n 0, 1) := by decide +kernel
theorem d_Tree_grow_5 : decode Y_Tree_grow.2.1 5 = .ok (.getfield 12, 3) := by decide +kernel
theorem d_Tree_grow_8 : decode Y_Tree_grow.2.1 8 = .ok (.aload_n 0, 1) := by decide +kernel
theorem d_Tree_grow_9 : decode Y_Tree_grow.2.1 9 = .ok (.getfield 43, 3) := by decide +kernel
theorem d_Tree_grow_12 : decode Y_Tree_grow.2.1 12 = .ok (.invokevirtual 54, 3) := by decide +kernel
theorem d_Tree_grow_15 : decode Y_Tree_grow.2.1 15 = .ok (.ifCond .eq 13, 3) := by decide +kernel
theorem d_Tree_grow_18 : decode Y_Tree_grow.2.1 18 = .ok (.aload_n 0, 1) := by decide +kernel
theorem d_Tree_grow_19 : decode Y_Tree_grow.2.1 19 = .ok (.iconst (-1), 1) := by decide +kernel
theorem d_Tree_grow_20 : decode Y_Tree_grow.2.1 20 = .ok (.iconst 0, 1) := by decide +kernel
theorem d_Tree_grow_21 : decode Y_Tree_grow.2.1 21 = .ok (.iconst 0, 1) := by decide +kernel
theorem d_Tree_grow_22 : decode Y_Tree_grow.2.1 22 = .ok (.invokevirtual 58, 3) := by decide +kernel
theorem d_Tree_grow_25 : decode Y_Tree_grow.2.1 25 = .ok (.ifCond .ne 5, 3) := by decide +kernel
theorem d_Tree_grow_28 : decode Y_Tree_grow.2.1 28 = .ok (.iconst 0, 1) := by decide +kernel
theorem d_Tree_grow_29 : decode Y_Tree_grow.2.1 29 = .ok (.ireturn, 1) := by decide +kernel
theorem d_Tree_grow_30 : decode Y_Tree_grow.2.1 30 = .ok (.aload_n 0, 1) := by decide +kernel
theorem d_Tree_grow_31 : decode Y_Tree_grow.2.1 31 = .ok (.getfield 47, 3) := by decide +kernel
theorem d_Tree_grow_34 : decode Y_Tree_grow.2.1 34 = .ok (.ifCond .le 7, 3) := by decide +kernel
theorem d_Tree_grow_37 : decode Y_Tree_grow.2.1 37 = .ok (.iconst 0, 1) := by decide +kernel
theorem d_Tree_grow_38 : decode Y_Tree_grow.2.1 38 = .ok (.goto 4, 3) := by decide +kernel
theorem d_Tree_grow_41 : decode Y_Tree_grow.2.1 41 = .ok (.iconst (-1), 1) := by decide +kernel
theorem d_Tree_grow_42 : decode Y_Tree_grow.2.1 42 = .ok (.istore_n 1, 1) := by decide +kernel
theorem d_Tree_grow_43 : decode Y_Tree_grow.2.1 43 = .ok (.iconst 0, 1) := by decide +kernel
theorem d_Tree_grow_44 : decode Y_Tree_grow.2.1 44 = .ok (.istore_n 2, 1) := by decide +kernel
theorem d_Tree_grow_45 : decode Y_Tree_grow.2.1 45 = .ok (.iload_n 2, 1) := by decide +kernel
theorem d_Tree_grow_46 : decode Y_Tree_grow.2.1 46 = .ok (.ldc 62, 2) := by decide +kernel
theorem d_Tree_grow_48 : decode Y_Tree_grow.2.1 48 = .ok (.if_icmp .ge 89, 3) := by decide +kernel
theorem d_Tree_grow_51 : decode Y_Tree_grow.2.1 51 = .ok (.iload_n 1, 1) := by decide +kernel
theorem d_Tree_grow_52 : decode Y_Tree_grow.2.1 52 = .ok (.iconst (-1), 1) := by decide +kernel
theorem d_Tree_grow_53 : decode Y_Tree_grow.2.1 53 = .ok (.if_icmp .eq 84, 3) := by decide +kernel
theorem d_Tree_grow_56 : decode Y_Tree_grow.2.1 56 = .ok (.aload_n 0, 1) := by decide +kernel
theorem d_Tree_grow_57 : decode Y_Tree_grow.2.1 57 = .ok (.getfield 28, 3) := by decide +kernel
theorem d_Tree_grow_60 : decode Y_Tree_grow.2.1 60 = .ok (.iload_n 1, 1) := by decide +kernel
theorem d_Tree_grow_61 : decode Y_Tree_grow.2.1 61 = .ok (.invokevirtual 63, 3) := by decide +kernel
theorem d_Tree_grow_64 : decode Y_Tree_grow.2.1 64 = .ok (.checkcast 67, 3) := by decide +kernel
theorem d_Tree_grow_67 : decode Y_Tree_grow.2.1 67 = .ok (.astore_n 3, 1) := by decide +kernel
theorem d_Tree_grow_68 : decode Y_Tree_grow.2.1 68 = .ok (.aload_n 3, 1) := by decide +kernel
theorem d_Tree_grow_69 : decode Y_Tree_grow.2.1 69 = .ok (.getfield 69, 3) := by decide +kernel
theorem d_Tree_grow_72 : decode Y_Tree_grow.2.1 72 = .ok (.aload_n 3, 1) := by decide +kernel
theorem d_Tree_grow_73 : decode Y_Tree_grow.2.1 73 = .ok (.getfield 72, 3) := by decide +kernel
theorem d_Tree_grow_76 : decode Y_Tree_grow.2.1 76 = .ok (.if_icmp .ne 22, 3) := by decide +kernel
theorem d_Tree_grow_79 : decode Y_Tree_grow.2.1 79 = .ok (.aload_n 0, 1) := by decide +kernel
theorem d_Tree_grow_80 : decode Y_Tree_grow.2.1 80 = .ok (.getfield 21, 3) := by decide +kernel
theorem d_Tree_grow_83 : decode Y_Tree_grow.2.1 83 = .ok (.aload_n 3, 1) := by decide +kernel
theorem d_Tree_grow_84 : decode Y_Tree_grow.2.1 84 = .ok (.getfield 75, 3) := by decide +kernel
theorem d_Tree_grow_87 : decode Y_Tree_grow.2.1 87 = .ok (.invokevirtual 78, 3) := by decide +kernel
theorem d_Tree_grow_90 : decode Y_Tree_grow.2.1 90 = .ok (.aload_n 3, 1) := by decide +kernel
theorem d_Tree_grow_91 : decode Y_Tree_grow.2.1 91 = .ok (.getfield 82, 3) := by decide +kernel
theorem d_Tree_grow_94 : decode Y_Tree_grow.2.1 94 = .ok (.istore_n 1, 1) := by decide +kernel
theorem d_Tree_grow_95 : decode Y_Tree_grow.2.1 95 = .ok (.goto 36, 3) := by decide +kernel
theorem d_Tree_grow_98 : decode Y_Tree_grow.2.1 98 = .ok (.aload_n 0, 1) := by decide +kernel
theorem d_Tree_grow_99 : decode Y_Tree_grow.2.1 99 = .ok (.getfield 47, 3) := by decide +kernel
theorem d_Tree_grow_102 : decode Y_Tree_grow.2.1 102 = .ok (.istore 4, 2) := by decide +kernel
theorem d_Tree_grow_104 : decode Y_Tree_grow.2.1 104 = .ok (.aload_n 0, 1) := by decide +kernel
theorem d_Tree_grow_105 : decode Y_Tree_grow.2.1 105 = .ok (.iload_n 1, 1) := by decide +kernel
theorem d_Tree_grow_106 : decode Y_Tree_grow.2.1 106 = .ok (.aload_n 3, 1) := by decide +kernel
theorem d_Tree_grow_107 : decode Y_Tree_grow.2.1 107 = .ok (.invokevirtual 85, 3) := by decide +kernel
theorem d_Tree_grow_110 : decode Y_Tree_grow.2.1 110 = .ok (.ifCond .ne 5, 3) := by decide +kernel
theorem d_Tree_grow_113 : decode Y_Tree_grow.2.1 113 = .ok (.iconst 0, 1) := by decide +kernel
theorem d_Tree_grow_114 : decode Y_Tree_grow.2.1 114 = .ok (.ireturn, 1) := by decide +kernel
theorem d_Tree_grow_115 : decode Y_Tree_grow.2.1 115 = .ok (.aload_n 0, 1) := by decide +kernel
theorem d_Tree_grow_116 : decode Y_Tree_grow.2.1 116 = .ok (.getfield 47, 3) := by decide +kernel
theorem d_Tree_grow_119 : decode Y_Tree_grow.2.1 119 = .ok (.iload 4, 2) := by decide +kernel
theorem d_Tree_grow_121 : decode Y_Tree_grow.2.1 121 = .ok (.if_icmp .le 8, 3) := by decide +kernel
theorem d_Tree_grow_124 : decode Y_Tree_grow.2.1 124 = .ok (.iload 4, 2) := by decide +kernel
theorem d_Tree_grow_126 : decode Y_Tree_grow.2.1 126 = .ok (.goto 4, 3) := by decide +kernel
theorem d_Tree_grow_129 : decode Y_Tree_grow.2.1 129 = .ok (.iload_n 1, 1) := by decide +kernel
theorem d_Tree_grow_130 : decode Y_Tree_grow.2.1 130 = .ok (.istore_n 1, 1) := by decide +kernel
theorem d_Tree_grow_131 : decode Y_Tree_grow.2.1 131 = .ok (.iinc 2 1, 3) := by decide +kernel
theorem d_Tree_grow_134 : decode Y_Tree_grow.2.1 134 = .ok (.goto (-89), 3) := by decide +kernel
theorem d_Tree_grow_137 : decode Y_Tree_grow.2.1 137 = .ok (.iconst 1, 1) := by decide +kernel
theorem d_Tree_grow_138 : decode Y_Tree_grow.2.1 138 = .ok (.ireturn, 1) := by decide +kernel
section CQ
variable {E : gE} {d : Nat} {G G0 : gS} {a : Nat} {c c' c0 c1 : cS} {u u' u2 u0 : uS} {n n' n0 n1 sl sl' sl1 : Nat} {Q : gO → gS → Prop} {B SS : Nat} {P : Nat → Nat → Int32} {N t0 X C nk nk' way : Nat} {tm cp : Nat → Nat} {ob : Nat → Int32} {T : Nat → Prop} {pos plc : Nat → List Nat} {an : aAn} {ks bs sp ps ps' qs qs' qs1 ms : List Nat} {Z : List zQ} {st : aSt} {W : List (List Nat)} {Dr : List Nat} {x : qR} {z : zQ} {up via : Int32}
theorem aB_pl : ∀ (g : Nat) (L : List pRow) (st : aSt) (f : Nat), (pPl P way g L st).2.2.length ≤ f → aB P t0 f L up via way an st = aB P t0 (f - (pPl P way g L st).2.2.length) (pPl P way g L st).2.1 up via way an (pPl P way g L st).1
  | 0, L, st, f, _ => rfl
  | g + 1, [], st, f, _ => rfl
  | g + 1, A :: r, st, f, h => by
    simp only [pPl] at h ⊢
    by_cases hc : A.2.1 = [] ∧ ¬ P 12 A.1 = 0
    · rw [if_pos hc] at h ⊢
      simp only [List.length_cons] at h ⊢
      obtain ⟨f, rfl⟩ : ∃ f', f = f' + 1 := ⟨f - 1, by omega⟩
      have ih := aB_pl g (aOt A.1 (A :: r)) (stT A.1 way st) f (by omega)
      rw [Nat.add_sub_add_right, ← ih]
      simp only [aB]
      rw [hc.1]
      simp only
      rw [if_neg hc.2]
    · rw [if_neg hc]
      rfl
theorem pPl_end : ∀ (g : Nat) (L : List pRow) (st : aSt), L.length ≤ g → ∀ A r, (pPl P way g L st).2.1 = A :: r → A.2.1 = [] → P 12 A.1 = 0
  | 0, L, st, h, A, r, e, _ => by
    rw [List.length_eq_zero_iff.mp (Nat.le_zero.mp h)] at e
    cases e
  | g + 1, [], st, _, A, r, e, _ => by cases e
  | g + 1, B :: t, st, h, A, r, e, hA => by
    simp only [pPl] at e
    by_cases hc : B.2.1 = [] ∧ ¬ P 12 B.1 = 0
    · rw [if_pos hc] at e
      have hl := aOt_hd (A := B) (r := t)
      simp only [List.length_cons] at h
      exact pPl_end g _ _ (by omega) A r e hA
    · rw [if_neg hc] at e
      cases e
      exact Decidable.byContradiction (fun z => hc ⟨hA, z⟩)
/-- the tree behind an answer -/
def aFn (P : Nat → Nat → Int32) (t0 f : Nat) (R : List pRow) (π : List Nat) (i way : Nat) (an : aAn) : Nat → aSt → Option aSt := fun a st' => if 80 < (qL P t0 R π a).length then none else aB P t0 f (qL P t0 R π a) (nI i) (nI a) (way + 1) (anU an π (qX P t0 R π a)) st'
theorem aB_leaf {L : List pRow} {f : Nat} {st' : aSt} (hd : (pPl P way L.length L st).2.2.length < f) (hs : stL P t0 an way (pPl P way L.length L st).1 (pPl P way L.length L st).2.1 = some st') : aB P t0 f L up via way an st = some st' := by
  have he := pPl_end (P := P) (way := way) L.length L st (Nat.le_refl _)
  rw [aB_pl L.length L st f (by omega)]
  obtain ⟨m, hm⟩ : ∃ m, f - (pPl P way L.length L st).2.2.length = m + 1 := ⟨f - (pPl P way L.length L st).2.2.length - 1, by omega⟩
  rw [hm]
  cases hL : (pPl P way L.length L st).2.1 with
  | nil =>
    rw [hL] at hs
    exact hs
  | cons A r =>
    rw [hL] at hs
    simp only [stL] at hs
    by_cases h0 : A.2.1 = []
    · rw [if_pos h0] at hs
      simp only [aB]
      rw [h0]
      simp only
      rw [if_pos (he A r hL h0)]
      exact hs
    · rw [if_neg h0] at hs
      cases hs
theorem aB_asks {L : List pRow} {f : Nat} {A : pRow} {r : List pRow} {w : List Nat × Nat} {ws : List (List Nat × Nat)} (hd : (pPl P way L.length L st).2.2.length < f) (hL : (pPl P way L.length L st).2.1 = A :: r) (hA : A.2.1 = w :: ws) : aB P t0 f L up via way an st = if (pPl P way L.length L st).1.1.length = 1000 then none else if 800 < (pPl P way L.length L st).1.2.2.2.2.2.1 + (pPl P way L.length L st).2.1.length then none else aBs (aFn P t0 (f - (pPl P way L.length L st).2.2.length - 1) (pPl P way L.length L st).2.1 w.1 (pPl P way L.length L st).1.1.length way an) (qN P t0 (pPl P way L.length L st).2.1 w.1) 0 (stQ (pPl P way L.length L st).2.1 w.1 way up via (pPl P way L.length L st).1) := by
  rw [aB_pl L.length L st f (by omega)]
  obtain ⟨m, hm⟩ : ∃ m, f - (pPl P way L.length L st).2.2.length = m + 1 := ⟨f - (pPl P way L.length L st).2.2.length - 1, by omega⟩
  rw [hm, hL]
  simp only [aB]
  rw [hA]
  rfl
/-- what has happened since a question was begun: j; it is done -/
def rnF (c : cS) (u : uS) (n : Nat) (ks ps qs : List Nat) (Z : List zQ) (z : zQ) (Qs : List qR) (j : Nat) (c' : cS) (u' : uS) (n' : Nat) (ks' ps' qs' : List Nat) (Z' : List zQ) (Qs' : List qR) : Prop := gF c u n c' u' n' ∧ (∀ i q, i < Qs.length → i ≠ j → qs[i]? = some q → qs'[i]? = some q ∧ u'.2.2.1 q 11 = u.2.2.1 q 11) ∧ (∀ q, qs[j]? = some q → qs'[j]? = some q) ∧ (∀ i, i < z.2.2.2.1 → i ≠ z.2.2.1 → plE u u' ps ps' i) ∧ (∀ y, ps[z.2.2.1]? = some y → ps'[z.2.2.1]? = some y ∧ u'.2.2.1 y 0 = u.2.2.1 y 0) ∧ ps.length ≤ ps'.length ∧ (∃ e, Z' = Z ++ e) ∧ (∃ e, Qs' = Qs ++ e) ∧ ∃ e, ks' = ks ++ e
theorem app_at {β : Type} {l e : List β} {i : Nat} {y : β} (h : l[i]? = some y) : (l ++ e)[i]? = some y := by
  rw [List.getElem?_append_left (List.getElem?_eq_some_iff.mp h).1]
  exact h
theorem rnF_tr {j : Nat} {c2 : cS} {n2 : Nat} {ks' ks2 ps2 qs2 : List Nat} {Z' Z2 : List zQ} {Qs Qs' Qs2 : List qR} (h : rnF c u n ks ps qs Z z Qs j c' u' n' ks' ps' qs' Z' Qs') (h' : rnF c' u' n' ks' ps' qs' Z' z Qs' j c2 u2 n2 ks2 ps2 qs2 Z2 Qs2) (hQ : Qs.length ≤ Qs'.length) : rnF c u n ks ps qs Z z Qs j c2 u2 n2 ks2 ps2 qs2 Z2 Qs2 := by
  obtain ⟨a1, a2, a3, a4, a5, a6, ⟨e1, a7⟩, ⟨e2, a8⟩, ⟨e3, a9⟩⟩ := h
  obtain ⟨b1, b2, b3, b4, b5, b6, ⟨f1, b7⟩, ⟨f2, b8⟩, ⟨f3, b9⟩⟩ := h'
  refine ⟨gF_tr a1 b1, fun i q hi hj hq => ?_, fun q hq => b3 q (a3 q hq), fun i hi hp => plE_tr (a4 i hi hp) (b4 i hi hp), fun y hy => ?_, by omega, ⟨e1 ++ f1, by rw [b7, a7, List.append_assoc]⟩, ⟨e2 ++ f2, by rw [b8, a8, List.append_assoc]⟩, ⟨e3 ++ f3, by rw [b9, a9, List.append_assoc]⟩⟩
  · obtain ⟨v1, v2⟩ := a2 i q hi hj hq
    obtain ⟨w1, w2⟩ := b2 i q (by omega) hj v1
    exact ⟨w1, w2.trans v2⟩
  · obtain ⟨v1, v2⟩ := a5 y hy
    obtain ⟨w1, w2⟩ := b5 y v1
    exact ⟨w1, w2.trans v2⟩
set_option maxHeartbeats 400000 in
theorem m_T_gr1 {x1 : Int32} {s q D : Nat} (h6 : c.1 6 = nI D) (kk : GT E Y_Tree_grow d G0 45 [(0, .ref (a + 12)), (1, .int x1), (2, .int (nI (s + 1)))] [] (yW E G a c u n sl) Q) : GT E Y_Tree_grow d G0 110 [(0, .ref (a + 12)), (1, .int x1), (2, .int (nI s)), (3, .ref q), (4, .int (nI D))] [.int 1] (yW E G a c u n sl) Q := by
  refine g_if_ne (tgt := 115) d_Tree_grow_110 (by decide) (fun c_110 => ?_) (fun c_110 => absurd c_110 (by decide))
  refine g_aload_n d_Tree_grow_115 rfl ?_
  refine x_get (k := 12) (j := 7) (v := .int (c.1 6)) kc_Tree fl_Tree_47 (by decide) (by decide) rfl rfl d_Tree_grow_116 ?_
  rw [h6]
  refine g_iload d_Tree_grow_119 rfl ?_
  refine g_icmp_le (tgt := 129) d_Tree_grow_121 (by decide) (fun c_121 => ?_) (fun c_121 => ?_)
  rotate_left
  · exact absurd c_121 (fun q => q (Int32.le_refl _))
  refine g_iload_n d_Tree_grow_129 rfl ?_
  refine g_istore_n d_Tree_grow_130 (by decide) rfl ?_
  refine g_iinc (v := nI (s + 1)) d_Tree_grow_131 rfl (nI_1 s) (by decide) rfl ?_
  refine g_goto (tgt := 45) d_Tree_grow_134 (by decide) ?_
  refine g_weak (lv' := [(0, .ref (a + 12)), (1, .int x1), (2, .int (nI (s + 1)))]) (fun q hq => List.mem_append_left _ hq) (by simp) ?_
  exact kk
set_option maxHeartbeats 400000 in
theorem m_T_gr2 {x1 : Int32} {s q D : Nat} (hD : D < 10000) (h6 : c.1 6 = nI (D + 1)) (kk : GT E Y_Tree_grow d G0 45 [(0, .ref (a + 12)), (1, .int (nI D)), (2, .int (nI (s + 1)))] [] (yW E G a c u n sl) Q) : GT E Y_Tree_grow d G0 110 [(0, .ref (a + 12)), (1, .int x1), (2, .int (nI s)), (3, .ref q), (4, .int (nI D))] [.int 1] (yW E G a c u n sl) Q := by
  refine g_if_ne (tgt := 115) d_Tree_grow_110 (by decide) (fun c_110 => ?_) (fun c_110 => absurd c_110 (by decide))
  refine g_aload_n d_Tree_grow_115 rfl ?_
  refine x_get (k := 12) (j := 7) (v := .int (c.1 6)) kc_Tree fl_Tree_47 (by decide) (by decide) rfl rfl d_Tree_grow_116 ?_
  rw [h6]
  refine g_iload d_Tree_grow_119 rfl ?_
  refine g_icmp_le (tgt := 129) d_Tree_grow_121 (by decide) (fun c_121 => ?_) (fun c_121 => ?_)
  · exact absurd c_121 (fun q => by have := (le_hi (nI_hi (by omega)) (nI_hi (by omega))).mp q; omega)
  refine g_iload d_Tree_grow_124 rfl ?_
  refine g_goto (tgt := 130) d_Tree_grow_126 (by decide) ?_
  refine g_istore_n d_Tree_grow_130 (by decide) rfl ?_
  refine g_iinc (v := nI (s + 1)) d_Tree_grow_131 rfl (nI_1 s) (by decide) rfl ?_
  refine g_goto (tgt := 45) d_Tree_grow_134 (by decide) ?_
  refine g_weak (lv' := [(0, .ref (a + 12)), (1, .int (nI D)), (2, .int (nI (s + 1)))]) (fun q hq => List.mem_append_left _ hq) (by simp) ?_
  exact kk
set_option maxHeartbeats 400000 in
theorem m_T_gr0 {G' : gS} {x1 : Int32} {s q D : Nat} (kk : Q (.inl (some (.int 0))) G') : GT E Y_Tree_grow d G0 110 [(0, .ref (a + 12)), (1, .int x1), (2, .int (nI s)), (3, .ref q), (4, .int (nI D))] [.int 0] G' Q := by
  refine g_if_ne (tgt := 115) d_Tree_grow_110 (by decide) (fun c_110 => absurd c_110 (by decide)) (fun c_110 => ?_)
  refine g_iconst (v := 0) d_Tree_grow_113 (by decide) ?_
  refine g_zret rfl rfl d_Tree_grow_114 ?_
  exact kk
/-- from a question that was just asked to its end -/
def cRun (E : gE) (d : Nat) (G G0 : gS) (a B SS : Nat) (P : Nat → Nat → Int32) (N t0 : Nat) (pos : Nat → List Nat) (tm : Nat → Nat) (ob : Nat → Int32) (T : Nat → Prop) (C : Nat) (cp : Nat → Nat) (ms : List Nat) (Q : gO → gS → Prop) (f : Nat) : Prop := ∀ (j : Nat) (x : qR) (z : zQ) (q : Nat) (st : aSt) (W : List (List Nat)) (Dr : List Nat) (an : aAn) (c : cS) (u : uS) (n sl : Nat) (ks sp ps qs : List Nat) (nk : Nat) (Z : List zQ) (s rem : Nat),
    N + C < f + 1 + (W.length + Dr.length) → clT E a B SS P N t0 tm ob T C cp c u n sl ks [] sp ps qs ms nk Z st → st.1[j]? = some x → Z[j]? = some z → qs[j]? = some q → u.2.2.1 q 11 = 0 → pC P N pos t0 C W Dr an x z → wyC P t0 u ps z.2.2.2.1 z.2.2.2.2.2 an → z.2.2.2.1 ≤ ps.length → s + rem + (qN P t0 x.1 x.2.1 + 1) ≤ 10 * st.2.2.2.2.2.1 → st.2.2.1 ≤ s → st.2.2.2.2.2.2.2 ≤ 600 →
    (∀ c' u' n' sl' ks' sp' ps' qs' nk' Z' st' s', aBs (aFn P t0 f x.1 x.2.1 j W.length an) (qN P t0 x.1 x.2.1) 0 st = some st' → clT E a B SS P N t0 tm ob T C cp c' u' n' sl' ks' [] sp' ps' qs' ms nk' Z' st' → rnF c u n ks ps qs Z z st.1 j c' u' n' ks' ps' qs' Z' st'.1 → plE u u' ps ps' z.2.2.1 → s' + rem ≤ 10 * st'.2.2.2.2.2.1 → st'.2.2.1 ≤ s' → st'.2.2.2.2.2.2.2 ≤ 600 → GT E Y_Tree_grow (d + 34) G0 45 [(0, .ref (a + 12)), (1, .int x.2.2.2.1), (2, .int (nI s'))] [] (yW E G a c' u' n' sl') Q) →
    (∀ c' u' n' sl' ks' sp' ps' qs', aBs (aFn P t0 f x.1 x.2.1 j W.length an) (qN P t0 x.1 x.2.1) 0 st = none → hpOk E a B SS c' u' n' sl' ks' sp' ps' qs' ms → gF c u n c' u' n' → Q (.inl (some (.int 0))) (yW E G a c' u' n' sl')) → GT E Y_Tree_grow (d + 34) G0 45 [(0, .ref (a + 12)), (1, .int (nI j)), (2, .int (nI s))] [] (yW E G a c u n sl) Q
set_option maxHeartbeats 1000000 in
set_option maxRecDepth 100000 in
theorem m_T_run (wf : wfA P N pos) (wb : wfB P N) (wk : wfK P N) (tp : tmP P N tm ob T) (hC20 : C ≤ 20) (ht0 : t0 < 16) (hNC : N + C ≤ 511) (h09 : ∀ t, tn (P 0 t) ≤ 9) (hg01 : ∀ k, k < C → P 12 k = 0 ∨ P 12 k = 1) (hP0 : ∀ t, t < 16 → ∃ v, v ≤ 9 ∧ P 0 t = nI v) (hAr : ∀ π w, ¬ P 0 (tyP P t0 π) ≤ 1 → w < tn (P 0 (tyP P t0 π)) - 1 → ∃ a, a ≤ 4 ∧ P 1 (8 * tyP P t0 π + w) = nI a) : ∀ (f : Nat), (∀ f', f' < f → cRun E d G G0 a B SS P N t0 pos tm ob T C cp ms Q f') → cRun E d G G0 a B SS P N t0 pos tm ob T C cp ms Q f := by
  intro f IH j x z q st W Dr an c u n sl ks sp ps qs nk Z s rem hfu hT hx hZ hq h11 hC hwy hXp hst hfl hlg kk kz
  have hWd1 := pWd_ask (x := ((0 : Int32), (0 : Int32))) hC.1 hC.2.2.2.1 hC.2.2.2.2.1 hC.2.2.2.2.2.1 hC.2.2.2.2.2.2.1
  have bW := nd_le hWd1.1 (fun π h => (hWd1.2.1 π h).1)
  simp only [List.length_cons] at bW
  obtain ⟨q', z', lA, lB, g1, g2, g3, g4, g5, g6⟩ := hT.2.2.2.1 j x hx
  rw [hq] at g1
  cases g1
  rw [hZ] at g2
  cases g2
  have hpX := g6.2.2.1
  have hz2 := g6.2.1
  have han0 : (an x.2.1).1 = 0 := Decidable.byContradiction (fun h => hC.2.2.2.1 (hC.1.2.2.2.2 _ h))
  obtain ⟨y, hy, hy0, hyc⟩ := hwy.1 z.2.2.1 hpX
  rw [hz2] at hy0 hyc
  have hy1 : u.2.2.1 y 1 = 2 ∧ u.2.2.1 y 2 = 0 ∧ u.2.2.1 y 4 = 0 := by
    rcases hyc with ⟨-, v⟩ | ⟨e, -⟩ | ⟨w, ff, ar, w8, e, -⟩
    · exact v
    · rw [han0] at e
      exact absurd e (by decide)
    · rw [han0] at e
      exact absurd e.symm (nI_ne (b := 0) (by omega) (by omega) (by omega))
  have inner : ∀ (k b : Nat) (c1 : cS) (u1 : uS) (n1 sl1 : Nat) (ks1 sp1 ps1 qs1 : List Nat) (nk1 : Nat) (Z1 : List zQ) (st1 : aSt) (s1 : Nat), b + k = qN P t0 x.1 x.2.1 → clT E a B SS P N t0 tm ob T C cp c1 u1 n1 sl1 ks1 [] sp1 ps1 qs1 ms nk1 Z1 st1 → rnF c u n ks ps qs Z z st.1 j c1 u1 n1 ks1 ps1 qs1 Z1 st1.1 → u1.2.2.1 q 11 = nI b → pE P t0 u1 ps1 an x z → s1 + rem + (k + 1) ≤ 10 * st1.2.2.2.2.2.1 → st1.2.2.1 ≤ s1 → st1.2.2.2.2.2.2.2 ≤ 600 → aBs (aFn P t0 f x.1 x.2.1 j W.length an) (qN P t0 x.1 x.2.1) 0 st = aBs (aFn P t0 f x.1 x.2.1 j W.length an) k b st1 → GT E Y_Tree_grow (d + 34) G0 45 [(0, .ref (a + 12)), (1, .int (nI j)), (2, .int (nI s1))] [] (yW E G a c1 u1 n1 sl1) Q := by
    intro k
    induction k with
    | zero =>
      intro b c1 u1 n1 sl1 ks1 sp1 ps1 qs1 nk1 Z1 st1 s1 hbk hT1 hrn hfo hE hs1 hf1 hl1 heq
      obtain ⟨r1, r2, r3, r4, r5, r6, ⟨e1, r7⟩, ⟨e2, r8⟩, r9⟩ := id hrn
      have hx1 : st1.1[j]? = some x := by rw [r8]; exact app_at hx
      have hZ1 : Z1[j]? = some z := by rw [r7]; exact app_at hZ
      have hq1 := r3 q hq
      obtain ⟨q', z', lA, lB, d1, d2, d3, d4, d5, d6⟩ := hT1.2.2.2.1 j x hx1
      rw [hq1] at d1
      cases d1
      rw [hZ1] at d2
      cases d2
      obtain ⟨f6, f0, f1, f2, f3, f4, f5, fN, fA, f8, f9, f10⟩ := id d5
      have hks1 := hT1.2.2.2.2.2.2.2.2.1
      have hks8 := hT1.2.2.2.2.2.2.2.2.2.1
      have hjl := (List.getElem?_eq_some_iff.mp hx1).1
      have hj1 := hT1.2.2.2.2.2.2.2.1
      obtain ⟨hy1', hy2'⟩ := r5 y hy
      have hzy := (lOk_get hT1.1.2.1 hy1').2.2.2.2.1
      have hqy : q ≠ y := fun e => by
        have h5 := hzy.1
        rw [← e, f6.1] at h5
        exact absurd h5 (by decide)
      obtain ⟨p1, p2, p3, p4, p5⟩ := hp_pl (K := fun _ => False) (c' := c1) hT1.1 hy1' (plL_k (n := n1) hzy.1) (fun _ => rfl) (fun w hw => plL_o hw) (fun _ _ => rfl) rfl
      obtain ⟨l0, l1, l2, l4⟩ := plL_f (u := u1) (p := y)
      have hT2 := clT_pl hT1 p1 p2 p3 (Nat.le_refl _) p4
      have hb : b = qN P t0 x.1 x.2.1 := by omega
      rw [hb] at hfo
      refine g_iload_n d_Tree_grow_45 rfl ?_
      refine g_ldc cn_Tree_62 d_Tree_grow_46 ?_
      refine g_icmp_ge (tgt := 137) d_Tree_grow_48 (by decide) (fun c_48 => ?_) (fun c_48 => ?_)
      · exact absurd c_48 (fun q => by have := (le_hi (show (1000000 : Int32).toInt = ((1000000 : Nat) : Int) by decide) (nI_hi (by omega))).mp q; omega)
      refine g_iload_n d_Tree_grow_51 rfl ?_
      refine g_iconst (v := (-1)) d_Tree_grow_52 (by decide) ?_
      refine g_icmp_eq (tgt := 137) d_Tree_grow_53 (by decide) (fun c_53 => ?_) (fun c_53 => ?_)
      · exact absurd c_53 (fun q => nI_ne1 (by omega) q)
      refine g_aload_n d_Tree_grow_56 rfl ?_
      refine x_get (k := 12) (j := 4) (v := .ref (a + 17)) kc_Tree fl_Tree_28 (by decide) (by decide) rfl rfl d_Tree_grow_57 ?_
      refine g_iload_n d_Tree_grow_60 rfl ?_
      refine c_Vr (as := [.int (nI j)]) kv_ArrayList_get ml_Tree_63 rfl (x_at (k := 17) (by decide) rfl) (m_K_get lk_quests hT1.1.2.2.1 (by omega) hq1) rfl (Nat.le_of_ble_eq_true rfl) rfl d_Tree_grow_61 rfl ?_
      refine z_cast (kb := 6) cl_Tree_67 rfl f6 (by decide) d_Tree_grow_64 ?_
      refine g_astore_n d_Tree_grow_67 (by decide) rfl ?_
      refine g_aload_n d_Tree_grow_68 rfl ?_
      refine z_get (k := 6) (j := 11) (v := .int (u1.2.2.1 q 11)) kc_Question fl_Tree_69 (by decide) f6 (by decide) rfl rfl d_Tree_grow_69 ?_
      rw [hfo]
      refine g_aload_n d_Tree_grow_72 rfl ?_
      refine z_get (k := 6) (j := 7) (v := .int (u1.2.2.1 q 7)) kc_Question fl_Tree_72 (by decide) f6 (by decide) rfl rfl d_Tree_grow_73 ?_
      rw [fA]
      refine g_icmp_ne (tgt := 98) d_Tree_grow_76 (by decide) (fun c_76 => ?_) (fun c_76 => ?_)
      · exact absurd c_76 (fun q => q rfl)
      refine g_aload_n d_Tree_grow_79 rfl ?_
      refine x_get (k := 12) (j := 3) (v := .ref (a + 15)) kc_Tree fl_Tree_21 (by decide) (by decide) rfl rfl d_Tree_grow_80 ?_
      refine g_aload_n d_Tree_grow_83 rfl ?_
      refine z_get (k := 6) (j := 2) (v := .int (u1.2.2.1 q 2)) kc_Question fl_Tree_75 (by decide) f6 (by decide) rfl rfl d_Tree_grow_84 ?_
      rw [f2]
      refine c_Vr (as := [.int (nI z.2.2.1)]) kv_Places_leave ml_Tree_78 rfl (x_at (k := 15) (by decide) rfl) (m_P_leave hT1.1 hy1') rfl (Nat.le_of_ble_eq_true rfl) rfl d_Tree_grow_87 rfl ?_
      have f6b : zIs (plL u1 y) a q 6 := f6
      refine g_aload_n d_Tree_grow_90 rfl ?_
      refine z_get (k := 6) (j := 9) (v := .int ((plL u1 y).2.2.1 q 9)) kc_Question fl_Tree_82 (by decide) f6b (by decide) rfl rfl d_Tree_grow_91 ?_
      rw [show (plL u1 y).2.2.1 q 9 = x.2.2.2.1 from by rw [plL_o hqy]; exact f9]
      refine g_istore_n d_Tree_grow_94 (by decide) rfl ?_
      refine g_goto (tgt := 131) d_Tree_grow_95 (by decide) ?_
      refine g_iinc (v := nI (s1 + 1)) d_Tree_grow_131 rfl (nI_1 s1) (by decide) rfl ?_
      refine g_goto (tgt := 45) d_Tree_grow_134 (by decide) ?_
      refine g_weak (lv' := [(0, .ref (a + 12)), (1, .int x.2.2.2.1), (2, .int (nI (s1 + 1)))]) (fun q hq => List.mem_append_left _ hq) (by simp) ?_
      refine kk c1 (plL u1 y) n1 sl1 ks1 sp1 ps1 qs1 nk1 Z1 st1 (s1 + 1) heq hT2 (rnF_tr hrn ⟨gF_p p2 p3 (Nat.le_refl _), fun i w hi hij hw => ⟨hw, ?_⟩, fun w hw => hw, fun i hi hip => plE_eq (fun v hv => ⟨hv, p5 i v hip hv⟩), fun v hv => ⟨hv, ?_⟩, Nat.le_refl _, ⟨[], by simp⟩, ⟨[], by simp⟩, ⟨[], by simp⟩⟩ (by rw [r8, List.length_append]; omega)) (fun v hv => ?_) (by omega) (by omega) hl1
      · have hzw := (lOk_get hT1.1.2.2.1 hw).2.2.2.2.1.1
        rw [plL_o (fun e => by have h5 := hzy.1; rw [← e, hzw] at h5; exact absurd h5 (by decide))]
      · rw [hy1'] at hv
        cases hv
        exact l0
      · rw [hy] at hv
        cases hv
        refine ⟨hy1', l0.trans hy2', by rw [l1, hy1.1], by rw [l2, hy1.2.1], by rw [l4, hy1.2.2], fun e => ?_⟩
        rw [hy1.1] at e
        exact absurd e (by decide)
    | succ k ih =>
      intro b c1 u1 n1 sl1 ks1 sp1 ps1 qs1 nk1 Z1 st1 s1 hbk hT1 hrn hfo hE hs1 hf1 hl1 heq
      obtain ⟨r1, r2, r3, r4, r5, r6, ⟨e1, r7⟩, ⟨e2, r8⟩, r9⟩ := id hrn
      have hx1 : st1.1[j]? = some x := by rw [r8]; exact app_at hx
      have hZ1 : Z1[j]? = some z := by rw [r7]; exact app_at hZ
      have hq1 := r3 q hq
      obtain ⟨q', z', lA, lB, d1, d2, d3, d4, d5, d6⟩ := hT1.2.2.2.1 j x hx1
      rw [hq1] at d1
      cases d1
      rw [hZ1] at d2
      cases d2
      obtain ⟨f6, f0, f1, f2, f3, f4, f5, fN, fA, f8, f9, f10⟩ := id d5
      have hks1 := hT1.2.2.2.2.2.2.2.2.1
      have hks8 := hT1.2.2.2.2.2.2.2.2.2.1
      have hjl := (List.getElem?_eq_some_iff.mp hx1).1
      have hj1 := hT1.2.2.2.2.2.2.2.1
      have h6 := hT1.2.2.2.2.2.1
      have hqn : qN P t0 x.1 x.2.1 < 10000 := by
        have h1 := qN_le (t0 := t0) h09 x.1 x.2.1
        have h2 := congrArg List.length d3
        have h3 := rcs_len d4
        have h4 := congrArg List.length d6.1
        rw [List.length_map] at h4
        simp only [List.length_append] at h2
        omega
      have hlen : st.1.length ≤ st1.1.length := by rw [r8, List.length_append]; omega
      have hdr : (pPl P (W.length + 1) (qL P t0 x.1 x.2.1 b).length (qL P t0 x.1 x.2.1 b) st1).2.2.length < f := by
        have hqW : ∀ A ∈ qL P t0 x.1 x.2.1 b, pRk P N pos t0 C (x.2.1 :: W) Dr A := aAns_way wf ht0 hC.2.2.2.1 hC.2.2.2.2.2.2.1 (fun σ h => (hC.1.2.1 σ h).2.2) x.1 hC.2.2.1 (fun A hA y hy e h => (pC_kd wf wk ht0 hC A hA y hy e).2 (fun zz => h (if_pos zz)))
        obtain ⟨Dr', v1, v2, -, v4⟩ := pPl_way (way := W.length + 1) (qL P t0 x.1 x.2.1 b).length (qL P t0 x.1 x.2.1 b) st1 Dr hqW hC.1.2.2.1 hC.1.2.2.2.1
        have := nd_leN v1 v2
        omega
      obtain ⟨pl1, pl2, pl3, pl4⟩ := pPl_1 (P := P) (way := W.length + 1) (qL P t0 x.1 x.2.1 b).length (qL P t0 x.1 x.2.1 b) st1
      have hF : ∀ r, (aFn P t0 f x.1 x.2.1 j W.length an) b st1 = r → aBs (aFn P t0 f x.1 x.2.1 j W.length an) (qN P t0 x.1 x.2.1) 0 st = match r with
          | none => none
          | some st' => aBs (aFn P t0 f x.1 x.2.1 j W.length an) k (b + 1) st' := fun r hr => by
        rw [heq]
        simp only [aBs]
        rw [hr]
        cases r <;> rfl
      have KF := m_T_follow (E := E) (d := d) (G := G) (Dr := Dr) (Q := fun o G' => ∃ v, o = .inl (some (.int v)) ∧ GT E Y_Tree_grow (d + 34) G0 110 [(0, .ref (a + 12)), (1, .int (nI j)), (2, .int (nI s1)), (3, .ref q), (4, .int (nI st1.1.length))] [.int v] G' Q) wf wb wk tp hC20 ht0 hNC hg01 hP0 hAr hT1 hx1 hZ1 hq1 hC hE (by omega) (by omega) hfo (by omega)
        (fun c' u' n' sl' sp' ps' st' w0 w1 w2 w3 => ⟨1, rfl, ?_⟩) (fun c' u' n' sl' sp' ps' qs' nk' bs' z' q' A r w ws Dr' w0 w1 w2 w3 w4 w5 w6 w7 w8 w9 wA wB wC wD => ⟨1, rfl, ?_⟩) (fun c' u' n' sl' ks' sp' ps' qs' w0 w1 w2 => ⟨0, rfl, m_T_gr0 ?_⟩)
      rotate_left
      · -- a leaf
        have hst' : (aFn P t0 f x.1 x.2.1 j W.length an) b st1 = some st' := by
          unfold aFn
          rw [if_neg (by omega)]
          exact aB_leaf hdr w1
        have hs' : st'.1 = st1.1 ∧ st'.2.2.2.2.2.1 = st1.2.2.2.2.2.1 ∧ st'.2.2.1 ≤ st1.2.2.1 + 1 ∧ st'.2.2.2.2.2.2.2 = st1.2.2.2.2.2.2.2 := by
          generalize (pPl P (W.length + 1) (qL P t0 x.1 x.2.1 b).length (qL P t0 x.1 x.2.1 b) st1).2.1 = LL at w1
          cases LL with
          | nil =>
            simp only [stL, Option.some.injEq] at w1
            subst w1
            exact ⟨pl1, pl2, by show _ + 1 ≤ _ + 1; rw [pl3]; exact Nat.le_refl _, pl4⟩
          | cons A r =>
            simp only [stL] at w1
            split at w1
            · simp only [Option.some.injEq] at w1
              subst w1
              exact ⟨pl1, pl2, by show (pPl P (W.length + 1) (qL P t0 x.1 x.2.1 b).length (qL P t0 x.1 x.2.1 b) st1).1.2.2.1 ≤ _; omega, pl4⟩
            · cases w1
        obtain ⟨s1', s2', s3', s4'⟩ := hs'
        obtain ⟨v1, v2, v3, v4, v5⟩ := w3
        refine m_T_gr1 (by rw [w2.2.2.2.2.2.1, s1']) (ih (b + 1) c' u' n' sl' ks1 sp' ps' qs1 nk1 Z1 st' (s1 + 1) (by omega) w2 (rnF_tr hrn ⟨v1, fun i w hi hij hw => ⟨hw, (v2 i w hi hw).2.1 hij⟩, fun w hw => hw, v3, v4, v5, ⟨[], by simp⟩, ⟨[], by rw [s1']; simp⟩, ⟨[], by simp⟩⟩ hlen) ((v2 j q hjl hq1).2.2 rfl) (pE_fr hE v3 v4 v5) (by omega) (by omega) (by omega) (hF _ hst'))
      · -- a question
        have hR1 : 1 ≤ (pPl P (W.length + 1) (qL P t0 x.1 x.2.1 b).length (qL P t0 x.1 x.2.1 b) st1).2.1.length := by rw [w1]; simp
        have hqn' := qN_le (t0 := t0) h09 (pPl P (W.length + 1) (qL P t0 x.1 x.2.1 b).length (qL P t0 x.1 x.2.1 b) st1).2.1 w.1
        have hst' : (aFn P t0 f x.1 x.2.1 j W.length an) b st1 = aBs (aFn P t0 (f - (pPl P (W.length + 1) (qL P t0 x.1 x.2.1 b).length (qL P t0 x.1 x.2.1 b) st1).2.2.length - 1) (pPl P (W.length + 1) (qL P t0 x.1 x.2.1 b).length (qL P t0 x.1 x.2.1 b) st1).2.1 w.1 st1.1.length (x.2.1 :: W).length (anU an x.2.1 (qX P t0 x.1 x.2.1 b))) (qN P t0 (pPl P (W.length + 1) (qL P t0 x.1 x.2.1 b).length (qL P t0 x.1 x.2.1 b) st1).2.1 w.1) 0 (stQ (pPl P (W.length + 1) (qL P t0 x.1 x.2.1 b).length (qL P t0 x.1 x.2.1 b) st1).2.1 w.1 (W.length + 1) (nI j) (nI b) (pPl P (W.length + 1) (qL P t0 x.1 x.2.1 b).length (qL P t0 x.1 x.2.1 b) st1).1) := by
          unfold aFn
          rw [if_neg (by omega), aB_asks hdr w1 w2, if_neg w3, if_neg w4, pl1]
          rfl
        obtain ⟨v1, v2, v3, v4, v5⟩ := w6
        generalize (pPl P (W.length + 1) (qL P t0 x.1 x.2.1 b).length (qL P t0 x.1 x.2.1 b) st1) = pp at *
        have hlen' : (stQ pp.2.1 w.1 (W.length + 1) (nI j) (nI b) pp.1).1.length = st1.1.length + 1 := by simp [stQ, pl1]
        have hQe : (stQ pp.2.1 w.1 (W.length + 1) (nI j) (nI b) pp.1).1 = st1.1 ++ [(pp.2.1, w.1, W.length + 1, nI j, nI b)] := by simp [stQ, pl1]
        have hrw' : (stQ pp.2.1 w.1 (W.length + 1) (nI j) (nI b) pp.1).2.2.2.2.2.1 = st1.2.2.2.2.2.1 + pp.2.1.length := by show _ + _ = _; rw [pl2]
        have hZl := hT1.2.2.2.2.1.1
        have hXps : z'.2.2.2.1 ≤ ps'.length := by
          have hlast := w9.2.1
          obtain ⟨yy, hyy, -⟩ := w9.1 (z'.2.2.2.1 - 1) (by omega)
          have := (List.getElem?_eq_some_iff.mp hyy).1
          omega
        refine m_T_gr2 (by omega) (by rw [w5.2.2.2.2.2.1, hlen']) ?_
        refine IH (f - pp.2.2.length - 1) (by omega) st1.1.length (pp.2.1, w.1, W.length + 1, nI j, nI b) z' q' _ (x.2.1 :: W) Dr' _ c' u' n' sl' (ks1 ++ bs') sp' ps' qs' nk' (Z1 ++ [z']) (s1 + 1) (rem + (k + 1)) (by simp only [List.length_cons]; omega) w5 (by rw [hQe]; exact mid_at) (by rw [← hZl]; exact mid_at) wC wD w7 w9 hXps (by rw [hrw']; simp only; omega) (by show pp.1.2.2.1 ≤ _; omega) (by show max pp.1.2.2.2.2.2.2.2 (W.length + 1 + 1) ≤ 600; omega) (fun c2 u2 n2 sl2 ks2 sp2 ps2 qs2 nk2 Z2 st2 s2 x1 x2 x3 x4 x5 x6 x7 => ?_) (fun c2 u2 n2 sl2 ks2 sp2 ps2 qs2 x1 x2 x3 => ?_)
        · obtain ⟨y1, y2, y3, y4, y5, y6, ⟨ea, y7⟩, ⟨eb, y8⟩, ⟨ec, y9⟩⟩ := x3
          have plA : ∀ i, i < z'.2.2.2.1 → plE u' u2 ps' ps2 i := fun i hi => by
            by_cases e : i = z'.2.2.1
            · rw [e]
              exact x4
            · exact y4 i hi e
          have hrn2 : rnF c1 u1 n1 ks1 ps1 qs1 Z1 z st1.1 j c2 u2 n2 ks2 ps2 qs2 Z2 st2.1 := by
            refine ⟨gF_tr v1 y1, fun i ww hi hij hw => ?_, fun ww hw => ?_, fun i hi hip => plE_tr (v3 i hi hip) (plA i (by omega)), fun vv hv => ?_, by omega, ⟨[z'] ++ ea, by rw [y7, List.append_assoc]⟩, ⟨[(pp.2.1, w.1, W.length + 1, nI j, nI b)] ++ eb, by rw [y8, hQe, List.append_assoc]⟩, ⟨bs' ++ ec, by rw [y9, List.append_assoc]⟩⟩
            · obtain ⟨a1, a2, -⟩ := v2 i ww hi hw
              obtain ⟨b1, b2⟩ := y2 i ww (by rw [hlen']; omega) (by omega) a1
              exact ⟨b1, b2.trans (a2 hij)⟩
            · obtain ⟨a1, -⟩ := v2 j ww hjl hw
              exact (y2 j ww (by rw [hlen']; omega) (by omega) a1).1
            · obtain ⟨a1, a2⟩ := v4 vv hv
              obtain ⟨b1, b2, -⟩ := plA z.2.2.1 (by omega) vv a1
              exact ⟨b1, b2.trans a2⟩
          refine ih (b + 1) c2 u2 n2 sl2 ks2 sp2 ps2 qs2 nk2 Z2 st2 s2 (by omega) x2 (rnF_tr hrn hrn2 hlen) ?_ (pE_fr hE hrn2.2.2.2.1 hrn2.2.2.2.2.1 hrn2.2.2.2.2.2.1) (by omega) x6 x7 (hF (some st2) (hst'.trans x1))
          obtain ⟨a1, -, a3⟩ := v2 j q hjl hq1
          rw [(y2 j q (by rw [hlen']; omega) (by omega) a1).2]
          exact a3 rfl
        · exact kz c2 u2 n2 sl2 ks2 sp2 ps2 qs2 (hF none (hst'.trans x1)) x2 (gF_tr r1 (gF_tr v1 x3))
      · -- too great
        refine kz c' u' n' sl' ks' sp' ps' qs' (hF none ?_) w1 (gF_tr r1 w2)
        unfold aFn
        by_cases h80 : 80 < (qL P t0 x.1 x.2.1 b).length
        · rw [if_pos h80]
        · rw [if_neg h80]
          rcases w0 with w0 | ⟨A, r, w, ws, a1, a2, a3⟩
          · exact absurd w0 h80
          · rw [aB_asks hdr a1 a2]
            rcases a3 with a3 | a3
            · rw [if_pos a3]
            · split
              · rfl
              · rfl

      refine g_iload_n d_Tree_grow_45 rfl ?_
      refine g_ldc cn_Tree_62 d_Tree_grow_46 ?_
      refine g_icmp_ge (tgt := 137) d_Tree_grow_48 (by decide) (fun c_48 => ?_) (fun c_48 => ?_)
      · exact absurd c_48 (fun q => by have := (le_hi (show (1000000 : Int32).toInt = ((1000000 : Nat) : Int) by decide) (nI_hi (by omega))).mp q; omega)
      refine g_iload_n d_Tree_grow_51 rfl ?_
      refine g_iconst (v := (-1)) d_Tree_grow_52 (by decide) ?_
      refine g_icmp_eq (tgt := 137) d_Tree_grow_53 (by decide) (fun c_53 => ?_) (fun c_53 => ?_)
      · exact absurd c_53 (fun q => nI_ne1 (by omega) q)
      refine g_aload_n d_Tree_grow_56 rfl ?_
      refine x_get (k := 12) (j := 4) (v := .ref (a + 17)) kc_Tree fl_Tree_28 (by decide) (by decide) rfl rfl d_Tree_grow_57 ?_
      refine g_iload_n d_Tree_grow_60 rfl ?_
      refine c_Vr (as := [.int (nI j)]) kv_ArrayList_get ml_Tree_63 rfl (x_at (k := 17) (by decide) rfl) (m_K_get lk_quests hT1.1.2.2.1 (by omega) hq1) rfl (Nat.le_of_ble_eq_true rfl) rfl d_Tree_grow_61 rfl ?_
      refine z_cast (kb := 6) cl_Tree_67 rfl f6 (by decide) d_Tree_grow_64 ?_
      refine g_astore_n d_Tree_grow_67 (by decide) rfl ?_
      refine g_aload_n d_Tree_grow_68 rfl ?_
      refine z_get (k := 6) (j := 11) (v := .int (u1.2.2.1 q 11)) kc_Question fl_Tree_69 (by decide) f6 (by decide) rfl rfl d_Tree_grow_69 ?_
      rw [hfo]
      refine g_aload_n d_Tree_grow_72 rfl ?_
      refine z_get (k := 6) (j := 7) (v := .int (u1.2.2.1 q 7)) kc_Question fl_Tree_72 (by decide) f6 (by decide) rfl rfl d_Tree_grow_73 ?_
      rw [fA]
      refine g_icmp_ne (tgt := 98) d_Tree_grow_76 (by decide) (fun c_76 => ?_) (fun c_76 => ?_)
      rotate_left
      · exact absurd c_76 (fun q => nI_ne (by omega) (by omega) (by omega) q)
      refine g_aload_n d_Tree_grow_98 rfl ?_
      refine x_get (k := 12) (j := 7) (v := .int (c1.1 6)) kc_Tree fl_Tree_47 (by decide) (by decide) rfl rfl d_Tree_grow_99 ?_
      rw [h6]
      refine g_istore d_Tree_grow_102 (by decide) rfl ?_
      refine g_aload_n d_Tree_grow_104 rfl ?_
      refine g_iload_n d_Tree_grow_105 rfl ?_
      refine g_aload_n d_Tree_grow_106 rfl ?_
      refine c_V (as := [.int (nI j), .ref (q)]) kv_Tree_follow ml_Tree_85 rfl (x_at (k := 12) (by decide) rfl) (KF) rfl (Nat.le_of_ble_eq_true rfl) rfl d_Tree_grow_107 (fun v_107 G_107 h_107 => ?_) (fun D_107 G_107 h_107 => by obtain ⟨_, h, _⟩ := h_107; cases h)
      obtain ⟨v, ho, hk⟩ := h_107
      cases ho
      exact hk
  have hE0 : pE P t0 u ps an x z := ⟨fun i hi _ => hwy.1 i hi, ⟨y, hy, hy0⟩, hXp⟩
  exact inner (qN P t0 x.1 x.2.1) 0 c u n sl ks sp ps qs nk Z st s (by omega) hT ⟨gF_rf, fun i w _ _ hw => ⟨hw, rfl⟩, fun w hw => hw, fun i _ _ => plE_rf, fun v hv => ⟨hv, rfl⟩, Nat.le_refl _, ⟨[], by simp⟩, ⟨[], by simp⟩, ⟨[], by simp⟩⟩ h11 hE0 (by omega) hfl hlg rfl
end CQ
