/-! The reference: rows copied and looked through -/
theorem d_Model_copyRow_0 : decode Y_Model_copyRow.2.1 0 = .ok (.aload_n 0, 1) := by decide +kernel
theorem d_Model_copyRow_1 : decode Y_Model_copyRow.2.1 1 = .ok (.getfield 91, 3) := by decide +kernel
theorem d_Model_copyRow_4 : decode Y_Model_copyRow.2.1 4 = .ok (.iload_n 2, 1) := by decide +kernel
theorem d_Model_copyRow_5 : decode Y_Model_copyRow.2.1 5 = .ok (.aload_n 0, 1) := by decide +kernel
theorem d_Model_copyRow_6 : decode Y_Model_copyRow.2.1 6 = .ok (.getfield 91, 3) := by decide +kernel
theorem d_Model_copyRow_9 : decode Y_Model_copyRow.2.1 9 = .ok (.iload_n 1, 1) := by decide +kernel
theorem d_Model_copyRow_10 : decode Y_Model_copyRow.2.1 10 = .ok (.iaload, 1) := by decide +kernel
theorem d_Model_copyRow_11 : decode Y_Model_copyRow.2.1 11 = .ok (.iastore, 1) := by decide +kernel
theorem d_Model_copyRow_12 : decode Y_Model_copyRow.2.1 12 = .ok (.aload_n 0, 1) := by decide +kernel
theorem d_Model_copyRow_13 : decode Y_Model_copyRow.2.1 13 = .ok (.getfield 94, 3) := by decide +kernel
theorem d_Model_copyRow_16 : decode Y_Model_copyRow.2.1 16 = .ok (.iload_n 2, 1) := by decide +kernel
theorem d_Model_copyRow_17 : decode Y_Model_copyRow.2.1 17 = .ok (.aload_n 0, 1) := by decide +kernel
theorem d_Model_copyRow_18 : decode Y_Model_copyRow.2.1 18 = .ok (.getfield 94, 3) := by decide +kernel
theorem d_Model_copyRow_21 : decode Y_Model_copyRow.2.1 21 = .ok (.iload_n 1, 1) := by decide +kernel
theorem d_Model_copyRow_22 : decode Y_Model_copyRow.2.1 22 = .ok (.iaload, 1) := by decide +kernel
theorem d_Model_copyRow_23 : decode Y_Model_copyRow.2.1 23 = .ok (.iastore, 1) := by decide +kernel
theorem d_Model_copyRow_24 : decode Y_Model_copyRow.2.1 24 = .ok (.iconst 0, 1) := by decide +kernel
theorem d_Model_copyRow_25 : decode Y_Model_copyRow.2.1 25 = .ok (.istore_n 3, 1) := by decide +kernel
theorem d_Model_copyRow_26 : decode Y_Model_copyRow.2.1 26 = .ok (.iload_n 3, 1) := by decide +kernel
theorem d_Model_copyRow_27 : decode Y_Model_copyRow.2.1 27 = .ok (.aload_n 0, 1) := by decide +kernel
theorem d_Model_copyRow_28 : decode Y_Model_copyRow.2.1 28 = .ok (.getfield 94, 3) := by decide +kernel
theorem d_Model_copyRow_31 : decode Y_Model_copyRow.2.1 31 = .ok (.iload_n 1, 1) := by decide +kernel
theorem d_Model_copyRow_32 : decode Y_Model_copyRow.2.1 32 = .ok (.iaload, 1) := by decide +kernel
theorem d_Model_copyRow_33 : decode Y_Model_copyRow.2.1 33 = .ok (.if_icmp .ge 53, 3) := by decide +kernel
theorem d_Model_copyRow_36 : decode Y_Model_copyRow.2.1 36 = .ok (.aload_n 0, 1) := by decide +kernel
theorem d_Model_copyRow_37 : decode Y_Model_copyRow.2.1 37 = .ok (.getfield 98, 3) := by decide +kernel
theorem d_Model_copyRow_40 : decode Y_Model_copyRow.2.1 40 = .ok (.bipush 26, 2) := by decide +kernel
theorem d_Model_copyRow_42 : decode Y_Model_copyRow.2.1 42 = .ok (.iload_n 2, 1) := by decide +kernel
theorem d_Model_copyRow_43 : decode Y_Model_copyRow.2.1 43 = .ok (.imul, 1) := by decide +kernel
theorem d_Model_copyRow_44 : decode Y_Model_copyRow.2.1 44 = .ok (.iload_n 3, 1) := by decide +kernel
theorem d_Model_copyRow_45 : decode Y_Model_copyRow.2.1 45 = .ok (.iadd, 1) := by decide +kernel
theorem d_Model_copyRow_46 : decode Y_Model_copyRow.2.1 46 = .ok (.aload_n 0, 1) := by decide +kernel
theorem d_Model_copyRow_47 : decode Y_Model_copyRow.2.1 47 = .ok (.getfield 98, 3) := by decide +kernel
theorem d_Model_copyRow_50 : decode Y_Model_copyRow.2.1 50 = .ok (.bipush 26, 2) := by decide +kernel
theorem d_Model_copyRow_52 : decode Y_Model_copyRow.2.1 52 = .ok (.iload_n 1, 1) := by decide +kernel
theorem d_Model_copyRow_53 : decode Y_Model_copyRow.2.1 53 = .ok (.imul, 1) := by decide +kernel
theorem d_Model_copyRow_54 : decode Y_Model_copyRow.2.1 54 = .ok (.iload_n 3, 1) := by decide +kernel
theorem d_Model_copyRow_55 : decode Y_Model_copyRow.2.1 55 = .ok (.iadd, 1) := by decide +kernel
theorem d_Model_copyRow_56 : decode Y_Model_copyRow.2.1 56 = .ok (.iaload, 1) := by decide +kernel
theorem d_Model_copyRow_57 : decode Y_Model_copyRow.2.1 57 = .ok (.iastore, 1) := by decide +kernel
theorem d_Model_copyRow_58 : decode Y_Model_copyRow.2.1 58 = .ok (.aload_n 0, 1) := by decide +kernel
theorem d_Model_copyRow_59 : decode Y_Model_copyRow.2.1 59 = .ok (.getfield 101, 3) := by decide +kernel
theorem d_Model_copyRow_62 : decode Y_Model_copyRow.2.1 62 = .ok (.bipush 26, 2) := by decide +kernel
theorem d_Model_copyRow_64 : decode Y_Model_copyRow.2.1 64 = .ok (.iload_n 2, 1) := by decide +kernel
theorem d_Model_copyRow_65 : decode Y_Model_copyRow.2.1 65 = .ok (.imul, 1) := by decide +kernel
theorem d_Model_copyRow_66 : decode Y_Model_copyRow.2.1 66 = .ok (.iload_n 3, 1) := by decide +kernel
theorem d_Model_copyRow_67 : decode Y_Model_copyRow.2.1 67 = .ok (.iadd, 1) := by decide +kernel
theorem d_Model_copyRow_68 : decode Y_Model_copyRow.2.1 68 = .ok (.aload_n 0, 1) := by decide +kernel
theorem d_Model_copyRow_69 : decode Y_Model_copyRow.2.1 69 = .ok (.getfield 101, 3) := by decide +kernel
theorem d_Model_copyRow_72 : decode Y_Model_copyRow.2.1 72 = .ok (.bipush 26, 2) := by decide +kernel
theorem d_Model_copyRow_74 : decode Y_Model_copyRow.2.1 74 = .ok (.iload_n 1, 1) := by decide +kernel
theorem d_Model_copyRow_75 : decode Y_Model_copyRow.2.1 75 = .ok (.imul, 1) := by decide +kernel
theorem d_Model_copyRow_76 : decode Y_Model_copyRow.2.1 76 = .ok (.iload_n 3, 1) := by decide +kernel
theorem d_Model_copyRow_77 : decode Y_Model_copyRow.2.1 77 = .ok (.iadd, 1) := by decide +kernel
theorem d_Model_copyRow_78 : decode Y_Model_copyRow.2.1 78 = .ok (.iaload, 1) := by decide +kernel
theorem d_Model_copyRow_79 : decode Y_Model_copyRow.2.1 79 = .ok (.iastore, 1) := by decide +kernel
theorem d_Model_copyRow_80 : decode Y_Model_copyRow.2.1 80 = .ok (.iinc 3 1, 3) := by decide +kernel
theorem d_Model_copyRow_83 : decode Y_Model_copyRow.2.1 83 = .ok (.goto (-57), 3) := by decide +kernel
theorem d_Model_copyRow_86 : decode Y_Model_copyRow.2.1 86 = .ok (.iconst 0, 1) := by decide +kernel
theorem d_Model_copyRow_87 : decode Y_Model_copyRow.2.1 87 = .ok (.istore_n 3, 1) := by decide +kernel
theorem d_Model_copyRow_88 : decode Y_Model_copyRow.2.1 88 = .ok (.iload_n 3, 1) := by decide +kernel
theorem d_Model_copyRow_89 : decode Y_Model_copyRow.2.1 89 = .ok (.bipush 8, 2) := by decide +kernel
theorem d_Model_copyRow_91 : decode Y_Model_copyRow.2.1 91 = .ok (.if_icmp .ge 31, 3) := by decide +kernel
theorem d_Model_copyRow_94 : decode Y_Model_copyRow.2.1 94 = .ok (.aload_n 0, 1) := by decide +kernel
theorem d_Model_copyRow_95 : decode Y_Model_copyRow.2.1 95 = .ok (.getfield 105, 3) := by decide +kernel
theorem d_Model_copyRow_98 : decode Y_Model_copyRow.2.1 98 = .ok (.bipush 8, 2) := by decide +kernel
theorem d_Model_copyRow_100 : decode Y_Model_copyRow.2.1 100 = .ok (.iload_n 2, 1) := by decide +kernel
theorem d_Model_copyRow_101 : decode Y_Model_copyRow.2.1 101 = .ok (.imul, 1) := by decide +kernel
theorem d_Model_copyRow_102 : decode Y_Model_copyRow.2.1 102 = .ok (.iload_n 3, 1) := by decide +kernel
theorem d_Model_copyRow_103 : decode Y_Model_copyRow.2.1 103 = .ok (.iadd, 1) := by decide +kernel
theorem d_Model_copyRow_104 : decode Y_Model_copyRow.2.1 104 = .ok (.aload_n 0, 1) := by decide +kernel
theorem d_Model_copyRow_105 : decode Y_Model_copyRow.2.1 105 = .ok (.getfield 105, 3) := by decide +kernel
theorem d_Model_copyRow_108 : decode Y_Model_copyRow.2.1 108 = .ok (.bipush 8, 2) := by decide +kernel
theorem d_Model_copyRow_110 : decode Y_Model_copyRow.2.1 110 = .ok (.iload_n 1, 1) := by decide +kernel
theorem d_Model_copyRow_111 : decode Y_Model_copyRow.2.1 111 = .ok (.imul, 1) := by decide +kernel
theorem d_Model_copyRow_112 : decode Y_Model_copyRow.2.1 112 = .ok (.iload_n 3, 1) := by decide +kernel
theorem d_Model_copyRow_113 : decode Y_Model_copyRow.2.1 113 = .ok (.iadd, 1) := by decide +kernel
theorem d_Model_copyRow_114 : decode Y_Model_copyRow.2.1 114 = .ok (.iaload, 1) := by decide +kernel
theorem d_Model_copyRow_115 : decode Y_Model_copyRow.2.1 115 = .ok (.iastore, 1) := by decide +kernel
theorem d_Model_copyRow_116 : decode Y_Model_copyRow.2.1 116 = .ok (.iinc 3 1, 3) := by decide +kernel
theorem d_Model_copyRow_119 : decode Y_Model_copyRow.2.1 119 = .ok (.goto (-31), 3) := by decide +kernel
theorem d_Model_copyRow_122 : decode Y_Model_copyRow.2.1 122 = .ok (.return_, 1) := by decide +kernel
theorem d_Model_wish_0 : decode Y_Model_wish.2.1 0 = .ok (.iconst (-1), 1) := by decide +kernel
theorem d_Model_wish_1 : decode Y_Model_wish.2.1 1 = .ok (.istore_n 3, 1) := by decide +kernel
theorem d_Model_wish_2 : decode Y_Model_wish.2.1 2 = .ok (.iconst 0, 1) := by decide +kernel
theorem d_Model_wish_3 : decode Y_Model_wish.2.1 3 = .ok (.istore 4, 2) := by decide +kernel
theorem d_Model_wish_5 : decode Y_Model_wish.2.1 5 = .ok (.iload 4, 2) := by decide +kernel
theorem d_Model_wish_7 : decode Y_Model_wish.2.1 7 = .ok (.aload_n 0, 1) := by decide +kernel
theorem d_Model_wish_8 : decode Y_Model_wish.2.1 8 = .ok (.getfield 94, 3) := by decide +kernel
theorem d_Model_wish_11 : decode Y_Model_wish.2.1 11 = .ok (.iload_n 1, 1) := by decide +kernel
theorem d_Model_wish_12 : decode Y_Model_wish.2.1 12 = .ok (.iaload, 1) := by decide +kernel
theorem d_Model_wish_13 : decode Y_Model_wish.2.1 13 = .ok (.if_icmp .ge 32, 3) := by decide +kernel
theorem d_Model_wish_16 : decode Y_Model_wish.2.1 16 = .ok (.aload_n 0, 1) := by decide +kernel
theorem d_Model_wish_17 : decode Y_Model_wish.2.1 17 = .ok (.getfield 98, 3) := by decide +kernel
theorem d_Model_wish_20 : decode Y_Model_wish.2.1 20 = .ok (.bipush 26, 2) := by decide +kernel
theorem d_Model_wish_22 : decode Y_Model_wish.2.1 22 = .ok (.iload_n 1, 1) := by decide +kernel
theorem d_Model_wish_23 : decode Y_Model_wish.2.1 23 = .ok (.imul, 1) := by decide +kernel
theorem d_Model_wish_24 : decode Y_Model_wish.2.1 24 = .ok (.iload 4, 2) := by decide +kernel
theorem d_Model_wish_26 : decode Y_Model_wish.2.1 26 = .ok (.iadd, 1) := by decide +kernel
theorem d_Model_wish_27 : decode Y_Model_wish.2.1 27 = .ok (.iaload, 1) := by decide +kernel
theorem d_Model_wish_28 : decode Y_Model_wish.2.1 28 = .ok (.iload_n 2, 1) := by decide +kernel
theorem d_Model_wish_29 : decode Y_Model_wish.2.1 29 = .ok (.if_icmp .ne 8, 3) := by decide +kernel
theorem d_Model_wish_32 : decode Y_Model_wish.2.1 32 = .ok (.iload 4, 2) := by decide +kernel
theorem d_Model_wish_34 : decode Y_Model_wish.2.1 34 = .ok (.goto 4, 3) := by decide +kernel
theorem d_Model_wish_37 : decode Y_Model_wish.2.1 37 = .ok (.iload_n 3, 1) := by decide +kernel
theorem d_Model_wish_38 : decode Y_Model_wish.2.1 38 = .ok (.istore_n 3, 1) := by decide +kernel
theorem d_Model_wish_39 : decode Y_Model_wish.2.1 39 = .ok (.iinc 4 1, 3) := by decide +kernel
theorem d_Model_wish_42 : decode Y_Model_wish.2.1 42 = .ok (.goto (-37), 3) := by decide +kernel
theorem d_Model_wish_45 : decode Y_Model_wish.2.1 45 = .ok (.iload_n 3, 1) := by decide +kernel
theorem d_Model_wish_46 : decode Y_Model_wish.2.1 46 = .ok (.ireturn, 1) := by decide +kernel
theorem d_Model_otherRows_0 : decode Y_Model_otherRows.2.1 0 = .ok (.iconst 0, 1) := by decide +kernel
theorem d_Model_otherRows_1 : decode Y_Model_otherRows.2.1 1 = .ok (.istore 4, 2) := by decide +kernel
theorem d_Model_otherRows_3 : decode Y_Model_otherRows.2.1 3 = .ok (.iload 4, 2) := by decide +kernel
theorem d_Model_otherRows_5 : decode Y_Model_otherRows.2.1 5 = .ok (.iload_n 2, 1) := by decide +kernel
theorem d_Model_otherRows_6 : decode Y_Model_otherRows.2.1 6 = .ok (.if_icmp .ge 44, 3) := by decide +kernel
theorem d_Model_otherRows_9 : decode Y_Model_otherRows.2.1 9 = .ok (.aload_n 0, 1) := by decide +kernel
theorem d_Model_otherRows_10 : decode Y_Model_otherRows.2.1 10 = .ok (.getfield 91, 3) := by decide +kernel
theorem d_Model_otherRows_13 : decode Y_Model_otherRows.2.1 13 = .ok (.iload_n 1, 1) := by decide +kernel
theorem d_Model_otherRows_14 : decode Y_Model_otherRows.2.1 14 = .ok (.iload 4, 2) := by decide +kernel
theorem d_Model_otherRows_16 : decode Y_Model_otherRows.2.1 16 = .ok (.iadd, 1) := by decide +kernel
theorem d_Model_otherRows_17 : decode Y_Model_otherRows.2.1 17 = .ok (.iaload, 1) := by decide +kernel
theorem d_Model_otherRows_18 : decode Y_Model_otherRows.2.1 18 = .ok (.iload_n 3, 1) := by decide +kernel
theorem d_Model_otherRows_19 : decode Y_Model_otherRows.2.1 19 = .ok (.if_icmp .eq 25, 3) := by decide +kernel
theorem d_Model_otherRows_22 : decode Y_Model_otherRows.2.1 22 = .ok (.aload_n 0, 1) := by decide +kernel
theorem d_Model_otherRows_23 : decode Y_Model_otherRows.2.1 23 = .ok (.iload_n 1, 1) := by decide +kernel
theorem d_Model_otherRows_24 : decode Y_Model_otherRows.2.1 24 = .ok (.iload 4, 2) := by decide +kernel
theorem d_Model_otherRows_26 : decode Y_Model_otherRows.2.1 26 = .ok (.iadd, 1) := by decide +kernel
theorem d_Model_otherRows_27 : decode Y_Model_otherRows.2.1 27 = .ok (.aload_n 0, 1) := by decide +kernel
theorem d_Model_otherRows_28 : decode Y_Model_otherRows.2.1 28 = .ok (.getfield 192, 3) := by decide +kernel
theorem d_Model_otherRows_31 : decode Y_Model_otherRows.2.1 31 = .ok (.invokevirtual 188, 3) := by decide +kernel
theorem d_Model_otherRows_34 : decode Y_Model_otherRows.2.1 34 = .ok (.aload_n 0, 1) := by decide +kernel
theorem d_Model_otherRows_35 : decode Y_Model_otherRows.2.1 35 = .ok (.dup, 1) := by decide +kernel
theorem d_Model_otherRows_36 : decode Y_Model_otherRows.2.1 36 = .ok (.getfield 192, 3) := by decide +kernel
theorem d_Model_otherRows_39 : decode Y_Model_otherRows.2.1 39 = .ok (.iconst 1, 1) := by decide +kernel
theorem d_Model_otherRows_40 : decode Y_Model_otherRows.2.1 40 = .ok (.iadd, 1) := by decide +kernel
theorem d_Model_otherRows_41 : decode Y_Model_otherRows.2.1 41 = .ok (.putfield 192, 3) := by decide +kernel
theorem d_Model_otherRows_44 : decode Y_Model_otherRows.2.1 44 = .ok (.iinc 4 1, 3) := by decide +kernel
theorem d_Model_otherRows_47 : decode Y_Model_otherRows.2.1 47 = .ok (.goto (-44), 3) := by decide +kernel
theorem d_Model_otherRows_50 : decode Y_Model_otherRows.2.1 50 = .ok (.return_, 1) := by decide +kernel
section MG
variable {E : gE} {d : Nat} {G G0 : gS} {m n : Nat} {s : mS} {Q : gO → gS → Prop}
theorem cpy_out {f g : Nat → Int32} {b k j : Nat} (h : j < b ∨ b + k ≤ j) : cpy f b k g j = f j := if_neg (by omega)
def rC1 (s : mS) (F T k : Nat) : mS := wR (wR s 28 (cpy (s.2 28) (26 * T) k (fun j => s.2 28 (26 * F + j)))) 29 (cpy (s.2 29) (26 * T) k (fun j => s.2 29 (26 * F + j)))
def rC2 (s : mS) (F T k : Nat) : mS := wR s 30 (cpy (s.2 30) (8 * T) k (fun j => s.2 30 (8 * F + j)))
theorem rC1_0 {F T : Nat} : rC1 s F T 0 = s := by
  unfold rC1
  have e := wC_0 (s := s) (j := 28) (b := 26 * T) (g := fun j => s.2 28 (26 * F + j))
  rw [e]
  exact wC_0
theorem rC1_s {F T k : Nat} : wA (wA (rC1 s F T k) 28 (26 * T + k) (s.2 28 (26 * F + k))) 29 (26 * T + k) (s.2 29 (26 * F + k)) = rC1 s F T (k + 1) := by
  have a := cpy_s (f := s.2 28) (b := 26 * T) (k := k) (g := fun j => s.2 28 (26 * F + j))
  have b := cpy_s (f := s.2 29) (b := 26 * T) (k := k) (g := fun j => s.2 29 (26 * F + j))
  refine Prod.ext rfl (funext fun i => ?_)
  by_cases e9 : i = 29
  · subst e9
    exact b
  · by_cases e8 : i = 28
    · subst e8
      exact a
    · simp only [rC1, wA, wR, upA, if_neg e9, if_neg e8]
theorem rC2_0 {F T : Nat} : rC2 s F T 0 = s := wC_0
theorem rC2_s {F T k : Nat} : wA (rC2 s F T k) 30 (8 * T + k) (s.2 30 (8 * F + k)) = rC2 s F T (k + 1) := wC_s
set_option maxHeartbeats 400000 in
set_option maxRecDepth 100000 in
theorem m_W_copy_l1 (hmn : m < n) {f t : Int32} {F T : Nat} (hf : f.toInt = (F : Int)) (ht : t.toInt = (T : Int)) (bF : F < 41640) (bT : T < 41640) (hne : F ≠ T) (hM : ¬ s.2 27 F < 0) (bM : tn (s.2 27 F) ≤ 26) (kk : GT E Y_Model_copyRow d G0 86 [(0, .ref m), (1, .int f), (2, .int t)] [] (mW E G m n (rC1 s F T (tn (s.2 27 F)))) Q) : ∀ (w k : Nat), tn (s.2 27 F) + 1 ≤ k + w → k ≤ tn (s.2 27 F) → GT E Y_Model_copyRow d G0 26 [(0, .ref m), (1, .int f), (2, .int t), (3, .int (nI k))] [] (mW E G m n (rC1 s F T k)) Q := by
  intro w
  induction w with
  | zero => intro k h1 h2; omega
  | succ w ih =>
    intro k hm hkN
    refine g_iload_n d_Model_copyRow_26 rfl ?_
    refine g_aload_n d_Model_copyRow_27 rfl ?_
    refine w_get (k := 42) fl_Model_94 (by decide) rfl d_Model_copyRow_28 ?_
    refine g_iload_n d_Model_copyRow_31 rfl ?_
    refine w_ald (j := 27) (q := F) (x := s.2 27 F) hmn (by decide) (by decide) hf (by show _ < 41640; omega) rfl d_Model_copyRow_32 ?_
    refine g_icmp_ge (tgt := 86) d_Model_copyRow_33 (by decide) (fun c_33 => ?_) (fun c_33 => ?_)
    · have e : k = tn (s.2 27 F) := by have := (le_hi (tn_hi hM) (nI_hi (n := k) (by omega))).mp c_33; omega
      rw [← e] at kk
      exact g_weak (lv := [(0, .ref m), (1, .int f), (2, .int t), (3, .int (nI k))]) (by simp) (by simp) kk
    · have hk : k < tn (s.2 27 F) := Nat.not_le.mp (fun q => c_33 ((le_hi (tn_hi hM) (nI_hi (n := k) (by omega))).mpr q))
      refine g_aload_n d_Model_copyRow_36 rfl ?_
      refine w_get (k := 43) fl_Model_98 (by decide) rfl d_Model_copyRow_37 ?_
      refine g_bipush (v := 26) d_Model_copyRow_40 (by decide) ?_
      refine g_iload_n d_Model_copyRow_42 rfl ?_
      refine g_imul d_Model_copyRow_43 ?_
      refine g_iload_n d_Model_copyRow_44 rfl ?_
      refine g_iadd d_Model_copyRow_45 ?_
      refine g_aload_n d_Model_copyRow_46 rfl ?_
      refine w_get (k := 43) fl_Model_98 (by decide) rfl d_Model_copyRow_47 ?_
      refine g_bipush (v := 26) d_Model_copyRow_50 (by decide) ?_
      refine g_iload_n d_Model_copyRow_52 rfl ?_
      refine g_imul d_Model_copyRow_53 ?_
      refine g_iload_n d_Model_copyRow_54 rfl ?_
      refine g_iadd d_Model_copyRow_55 ?_
      refine w_ald (j := 28) (q := 26 * F + k) (x := s.2 28 (26 * F + k)) hmn (by decide) (by decide) (add_hi (mul_hi (m := 26) (by decide) hf (by omega)) (nI_hi (n := k) (by omega)) (by omega)) (by show _ < 1082640; omega) (cpy_out (f := s.2 28) (g := fun j => s.2 28 (26 * F + j)) (b := 26 * T) (k := k) (by omega)) d_Model_copyRow_56 ?_
      refine w_ast (j := 28) (q := 26 * T + k) hmn (by decide) (by decide) (add_hi (mul_hi (m := 26) (by decide) ht (by omega)) (nI_hi (n := k) (by omega)) (by omega)) (by show _ < 1082640; omega) d_Model_copyRow_57 ?_
      refine g_aload_n d_Model_copyRow_58 rfl ?_
      refine w_get (k := 44) fl_Model_101 (by decide) rfl d_Model_copyRow_59 ?_
      refine g_bipush (v := 26) d_Model_copyRow_62 (by decide) ?_
      refine g_iload_n d_Model_copyRow_64 rfl ?_
      refine g_imul d_Model_copyRow_65 ?_
      refine g_iload_n d_Model_copyRow_66 rfl ?_
      refine g_iadd d_Model_copyRow_67 ?_
      refine g_aload_n d_Model_copyRow_68 rfl ?_
      refine w_get (k := 44) fl_Model_101 (by decide) rfl d_Model_copyRow_69 ?_
      refine g_bipush (v := 26) d_Model_copyRow_72 (by decide) ?_
      refine g_iload_n d_Model_copyRow_74 rfl ?_
      refine g_imul d_Model_copyRow_75 ?_
      refine g_iload_n d_Model_copyRow_76 rfl ?_
      refine g_iadd d_Model_copyRow_77 ?_
      refine w_ald (j := 29) (q := 26 * F + k) (x := s.2 29 (26 * F + k)) hmn (by decide) (by decide) (add_hi (mul_hi (m := 26) (by decide) hf (by omega)) (nI_hi (n := k) (by omega)) (by omega)) (by show _ < 1082640; omega) (cpy_out (f := s.2 29) (g := fun j => s.2 29 (26 * F + j)) (b := 26 * T) (k := k) (by omega)) d_Model_copyRow_78 ?_
      refine w_ast (j := 29) (q := 26 * T + k) hmn (by decide) (by decide) (add_hi (mul_hi (m := 26) (by decide) ht (by omega)) (nI_hi (n := k) (by omega)) (by omega)) (by show _ < 1082640; omega) d_Model_copyRow_79 ?_
      refine g_iinc (v := nI k + 1) d_Model_copyRow_80 rfl (by rfl) (by decide) rfl ?_
      refine g_goto (tgt := 26) d_Model_copyRow_83 (by decide) ?_
      rw [rC1_s, nI_1]
      exact ih (k + 1) (by omega) (by omega)
set_option maxHeartbeats 400000 in
set_option maxRecDepth 100000 in
theorem m_W_copy_l2 (hmn : m < n) {f t : Int32} {F T : Nat} (hf : f.toInt = (F : Int)) (ht : t.toInt = (T : Int)) (bF : F < 41640) (bT : T < 41640) (hne : F ≠ T) : ∀ (w k : Nat), 9 ≤ k + w → k ≤ 8 → GT E Y_Model_copyRow d G0 88 [(0, .ref m), (1, .int f), (2, .int t), (3, .int (nI k))] [] (mW E G m n (rC2 s F T k)) (rIs none (mW E G m n (rC2 s F T 8))) := by
  intro w
  induction w with
  | zero => intro k h1 h2; omega
  | succ w ih =>
    intro k hm hkN
    refine g_iload_n d_Model_copyRow_88 rfl ?_
    refine g_bipush (v := 8) d_Model_copyRow_89 (by decide) ?_
    refine g_icmp_ge (tgt := 122) d_Model_copyRow_91 (by decide) (fun c_91 => ?_) (fun c_91 => ?_)
    · refine g_vret rfl d_Model_copyRow_122 ?_
      have e : k = 8 := by have := (le_hi (nI_hi (n := 8) (by decide)) (nI_hi (n := k) (by omega))).mp c_91; omega
      subst e
      exact ⟨rfl, rfl⟩
    · have hk : k < 8 := Nat.not_le.mp (fun q => c_91 ((le_hi (nI_hi (n := 8) (by decide)) (nI_hi (n := k) (by omega))).mpr q))
      refine g_aload_n d_Model_copyRow_94 rfl ?_
      refine w_get (k := 45) fl_Model_105 (by decide) rfl d_Model_copyRow_95 ?_
      refine g_bipush (v := 8) d_Model_copyRow_98 (by decide) ?_
      refine g_iload_n d_Model_copyRow_100 rfl ?_
      refine g_imul d_Model_copyRow_101 ?_
      refine g_iload_n d_Model_copyRow_102 rfl ?_
      refine g_iadd d_Model_copyRow_103 ?_
      refine g_aload_n d_Model_copyRow_104 rfl ?_
      refine w_get (k := 45) fl_Model_105 (by decide) rfl d_Model_copyRow_105 ?_
      refine g_bipush (v := 8) d_Model_copyRow_108 (by decide) ?_
      refine g_iload_n d_Model_copyRow_110 rfl ?_
      refine g_imul d_Model_copyRow_111 ?_
      refine g_iload_n d_Model_copyRow_112 rfl ?_
      refine g_iadd d_Model_copyRow_113 ?_
      refine w_ald (j := 30) (q := 8 * F + k) (x := s.2 30 (8 * F + k)) hmn (by decide) (by decide) (add_hi (mul_hi (m := 8) (by decide) hf (by omega)) (nI_hi (n := k) (by omega)) (by omega)) (by show _ < 333120; omega) (cpy_out (f := s.2 30) (g := fun j => s.2 30 (8 * F + j)) (b := 8 * T) (k := k) (by omega)) d_Model_copyRow_114 ?_
      refine w_ast (j := 30) (q := 8 * T + k) hmn (by decide) (by decide) (add_hi (mul_hi (m := 8) (by decide) ht (by omega)) (nI_hi (n := k) (by omega)) (by omega)) (by show _ < 333120; omega) d_Model_copyRow_115 ?_
      refine g_iinc (v := nI k + 1) d_Model_copyRow_116 rfl (by rfl) (by decide) rfl ?_
      refine g_goto (tgt := 88) d_Model_copyRow_119 (by decide) ?_
      rw [rC2_s, nI_1]
      exact ih (k + 1) (by omega) (by omega)
abbrev rC0 (s : mS) (F T : Nat) : mS := wA (wA s 26 T (s.2 26 F)) 27 T (s.2 27 F)
def rCopy (s : mS) (F T : Nat) : mS := rC2 (rC1 (rC0 s F T) F T (tn (s.2 27 F))) F T 8
theorem rC0_27 {F T : Nat} (h : F ≠ T) : (rC0 s F T).2 27 F = s.2 27 F := if_neg h
set_option maxHeartbeats 400000 in
set_option maxRecDepth 100000 in
theorem m_W_copyRow (hmn : m < n) {f t : Int32} {F T : Nat} (hf : f.toInt = (F : Int)) (ht : t.toInt = (T : Int)) (bF : F < 41640) (bT : T < 41640) (hne : F ≠ T) (hM : ¬ s.2 27 F < 0) (bM : tn (s.2 27 F) ≤ 26) : GM E Y_Model_copyRow d [.ref m, .int f, .int t] (mW E G m n s) (rIs none (mW E G m n (rCopy s F T))) := by
  refine g_entry (by decide) (by simp [Value.category]) (Nat.le_of_ble_eq_true rfl) ?_
  refine g_aload_n d_Model_copyRow_0 rfl ?_
  refine w_get (k := 41) fl_Model_91 (by decide) rfl d_Model_copyRow_1 ?_
  refine g_iload_n d_Model_copyRow_4 rfl ?_
  refine g_aload_n d_Model_copyRow_5 rfl ?_
  refine w_get (k := 41) fl_Model_91 (by decide) rfl d_Model_copyRow_6 ?_
  refine g_iload_n d_Model_copyRow_9 rfl ?_
  refine w_ald (j := 26) (q := F) (x := s.2 26 (F)) hmn (by decide) (by decide) hf (by show _ < 41640; omega) rfl d_Model_copyRow_10 ?_
  refine w_ast (j := 26) (q := T) hmn (by decide) (by decide) ht (by show _ < 41640; omega) d_Model_copyRow_11 ?_
  refine g_aload_n d_Model_copyRow_12 rfl ?_
  refine w_get (k := 42) fl_Model_94 (by decide) rfl d_Model_copyRow_13 ?_
  refine g_iload_n d_Model_copyRow_16 rfl ?_
  refine g_aload_n d_Model_copyRow_17 rfl ?_
  refine w_get (k := 42) fl_Model_94 (by decide) rfl d_Model_copyRow_18 ?_
  refine g_iload_n d_Model_copyRow_21 rfl ?_
  refine w_ald (j := 27) (q := F) (x := s.2 27 (F)) hmn (by decide) (by decide) hf (by show _ < 41640; omega) rfl d_Model_copyRow_22 ?_
  refine w_ast (j := 27) (q := T) hmn (by decide) (by decide) ht (by show _ < 41640; omega) d_Model_copyRow_23 ?_
  refine g_iconst (v := 0) d_Model_copyRow_24 (by decide) ?_
  refine g_istore_n d_Model_copyRow_25 (by decide) rfl ?_
  have e0 := rC0_27 (s := s) hne
  have hM' : ¬ (rC0 s F T).2 27 F < 0 := by rw [e0]; exact hM
  have bM' : tn ((rC0 s F T).2 27 F) ≤ 26 := by rw [e0]; exact bM
  have K := fun kk => m_W_copy_l1 (E := E) (d := d) (G0 := mW E G m n s) (G := G) (s := rC0 s F T) (Q := rIs none (mW E G m n (rCopy s F T))) hmn hf ht bF bT hne hM' bM' kk (tn ((rC0 s F T).2 27 F) + 1) 0 (by omega) (by omega)
  rw [e0, rC1_0] at K
  refine K ?_
  refine g_iconst (v := 0) d_Model_copyRow_86 (by decide) ?_
  refine g_istore_n d_Model_copyRow_87 (by decide) rfl ?_
  have K2 := m_W_copy_l2 (E := E) (d := d) (G0 := mW E G m n s) (G := G) (s := rC1 (rC0 s F T) F T (tn (s.2 27 F))) hmn hf ht bF bT hne 9 0 (by omega) (by omega)
  rw [rC2_0] at K2
  exact K2
/-- the last wish of row R for a place, below k -/
def rWish (s : mS) (R : Nat) (p : Int32) : Nat → Int32
  | 0 => -1
  | k + 1 => if s.2 28 (26 * R + k) = p then nI k else rWish s R p k
set_option maxHeartbeats 400000 in
set_option maxRecDepth 100000 in
theorem m_W_wish_l (hmn : m < n) {f p : Int32} {F : Nat} (hf : f.toInt = (F : Int)) (bF : F < 41640) (hM : ¬ s.2 27 F < 0) (bM : tn (s.2 27 F) ≤ 26) : ∀ (w k : Nat), tn (s.2 27 F) + 1 ≤ k + w → k ≤ tn (s.2 27 F) → GT E Y_Model_wish d G0 5 [(0, .ref m), (1, .int f), (2, .int p), (3, .int (rWish s F p k)), (4, .int (nI k))] [] (mW E G m n s) (rIs (some (.int (rWish s F p (tn (s.2 27 F))))) (mW E G m n s)) := by
  intro w
  induction w with
  | zero => intro k h1 h2; omega
  | succ w ih =>
    intro k hm hkN
    refine g_iload d_Model_wish_5 rfl ?_
    refine g_aload_n d_Model_wish_7 rfl ?_
    refine w_get (k := 42) fl_Model_94 (by decide) rfl d_Model_wish_8 ?_
    refine g_iload_n d_Model_wish_11 rfl ?_
    refine w_ald (j := 27) (q := F) (x := s.2 27 (F)) hmn (by decide) (by decide) hf (by show _ < 41640; omega) rfl d_Model_wish_12 ?_
    refine g_icmp_ge (tgt := 45) d_Model_wish_13 (by decide) (fun c_13 => ?_) (fun c_13 => ?_)
    · refine g_iload_n d_Model_wish_45 rfl ?_
      refine g_iret rfl d_Model_wish_46 ?_
      have e : k = tn (s.2 27 F) := by have := (le_hi (tn_hi hM) (nI_hi (n := k) (by omega))).mp c_13; omega
      rw [← e]
      exact ⟨rfl, rfl⟩
    · have hk : k < tn (s.2 27 F) := Nat.not_le.mp (fun q => c_13 ((le_hi (tn_hi hM) (nI_hi (n := k) (by omega))).mpr q))
      refine g_aload_n d_Model_wish_16 rfl ?_
      refine w_get (k := 43) fl_Model_98 (by decide) rfl d_Model_wish_17 ?_
      refine g_bipush (v := 26) d_Model_wish_20 (by decide) ?_
      refine g_iload_n d_Model_wish_22 rfl ?_
      refine g_imul d_Model_wish_23 ?_
      refine g_iload d_Model_wish_24 rfl ?_
      refine g_iadd d_Model_wish_26 ?_
      refine w_ald (j := 28) (q := 26 * F + k) (x := s.2 28 (26 * F + k)) hmn (by decide) (by decide) (add_hi (mul_hi (m := 26) (by decide) hf (by omega)) (nI_hi (n := k) (by omega)) (by omega)) (by show _ < 1082640; omega) rfl d_Model_wish_27 ?_
      refine g_iload_n d_Model_wish_28 rfl ?_
      refine g_icmp_ne (tgt := 37) d_Model_wish_29 (by decide) (fun c_29 => ?_) (fun c_29 => ?_)
      · refine g_iload_n d_Model_wish_37 rfl ?_
        refine g_istore_n d_Model_wish_38 (by decide) rfl ?_
        refine g_iinc (v := nI k + 1) d_Model_wish_39 rfl (by rfl) (by decide) rfl ?_
        refine g_goto (tgt := 5) d_Model_wish_42 (by decide) ?_
        have e : rWish s F p (k + 1) = rWish s F p k := if_neg c_29
        have K := ih (k + 1) (by omega) (by omega)
        rw [e] at K
        rw [nI_1]
        exact K
      · refine g_iload d_Model_wish_32 rfl ?_
        refine g_goto (tgt := 38) d_Model_wish_34 (by decide) ?_
        refine g_istore_n d_Model_wish_38 (by decide) rfl ?_
        refine g_iinc (v := nI k + 1) d_Model_wish_39 rfl (by rfl) (by decide) rfl ?_
        refine g_goto (tgt := 5) d_Model_wish_42 (by decide) ?_
        have e : rWish s F p (k + 1) = nI k := if_pos c_29
        have K := ih (k + 1) (by omega) (by omega)
        rw [e] at K
        rw [nI_1]
        exact K
set_option maxHeartbeats 400000 in
set_option maxRecDepth 100000 in
theorem m_W_wish (hmn : m < n) {f p : Int32} {F : Nat} (hf : f.toInt = (F : Int)) (bF : F < 41640) (hM : ¬ s.2 27 F < 0) (bM : tn (s.2 27 F) ≤ 26) : GM E Y_Model_wish d [.ref m, .int f, .int p] (mW E G m n s) (rIs (some (.int (rWish s F p (tn (s.2 27 F))))) (mW E G m n s)) := by
  refine g_entry (by decide) (by simp [Value.category]) (Nat.le_of_ble_eq_true rfl) ?_
  refine g_iconst (v := (-1)) d_Model_wish_0 (by decide) ?_
  refine g_istore_n d_Model_wish_1 (by decide) rfl ?_
  refine g_iconst (v := 0) d_Model_wish_2 (by decide) ?_
  refine g_istore d_Model_wish_3 (by decide) rfl ?_
  exact m_W_wish_l hmn hf bF hM bM (tn (s.2 27 F) + 1) 0 (by omega) (by omega)
end MG
