/-! The reference: any, number, pop, addCase, argument, question, about -/
theorem d_Model_addCase_0 : decode Y_Model_addCase.2.1 0 = .ok (.aload_n 0, 1) := by decide +kernel
theorem d_Model_addCase_1 : decode Y_Model_addCase.2.1 1 = .ok (.getfield 166, 3) := by decide +kernel
theorem d_Model_addCase_4 : decode Y_Model_addCase.2.1 4 = .ok (.ifCond .le 53, 3) := by decide +kernel
theorem d_Model_addCase_7 : decode Y_Model_addCase.2.1 7 = .ok (.aload_n 0, 1) := by decide +kernel
theorem d_Model_addCase_8 : decode Y_Model_addCase.2.1 8 = .ok (.getfield 181, 3) := by decide +kernel
theorem d_Model_addCase_11 : decode Y_Model_addCase.2.1 11 = .ok (.bipush 20, 2) := by decide +kernel
theorem d_Model_addCase_13 : decode Y_Model_addCase.2.1 13 = .ok (.if_icmp .ge 44, 3) := by decide +kernel
theorem d_Model_addCase_16 : decode Y_Model_addCase.2.1 16 = .ok (.aload_n 0, 1) := by decide +kernel
theorem d_Model_addCase_17 : decode Y_Model_addCase.2.1 17 = .ok (.getfield 181, 3) := by decide +kernel
theorem d_Model_addCase_20 : decode Y_Model_addCase.2.1 20 = .ok (.ifCond .eq 33, 3) := by decide +kernel
theorem d_Model_addCase_23 : decode Y_Model_addCase.2.1 23 = .ok (.aload_n 0, 1) := by decide +kernel
theorem d_Model_addCase_24 : decode Y_Model_addCase.2.1 24 = .ok (.getfield 22, 3) := by decide +kernel
theorem d_Model_addCase_27 : decode Y_Model_addCase.2.1 27 = .ok (.aload_n 0, 1) := by decide +kernel
theorem d_Model_addCase_28 : decode Y_Model_addCase.2.1 28 = .ok (.getfield 37, 3) := by decide +kernel
theorem d_Model_addCase_31 : decode Y_Model_addCase.2.1 31 = .ok (.aload_n 0, 1) := by decide +kernel
theorem d_Model_addCase_32 : decode Y_Model_addCase.2.1 32 = .ok (.getfield 166, 3) := by decide +kernel
theorem d_Model_addCase_35 : decode Y_Model_addCase.2.1 35 = .ok (.iconst 1, 1) := by decide +kernel
theorem d_Model_addCase_36 : decode Y_Model_addCase.2.1 36 = .ok (.isub, 1) := by decide +kernel
theorem d_Model_addCase_37 : decode Y_Model_addCase.2.1 37 = .ok (.iaload, 1) := by decide +kernel
theorem d_Model_addCase_38 : decode Y_Model_addCase.2.1 38 = .ok (.iaload, 1) := by decide +kernel
theorem d_Model_addCase_39 : decode Y_Model_addCase.2.1 39 = .ok (.aload_n 0, 1) := by decide +kernel
theorem d_Model_addCase_40 : decode Y_Model_addCase.2.1 40 = .ok (.getfield 22, 3) := by decide +kernel
theorem d_Model_addCase_43 : decode Y_Model_addCase.2.1 43 = .ok (.aload_n 0, 1) := by decide +kernel
theorem d_Model_addCase_44 : decode Y_Model_addCase.2.1 44 = .ok (.getfield 43, 3) := by decide +kernel
theorem d_Model_addCase_47 : decode Y_Model_addCase.2.1 47 = .ok (.iconst 0, 1) := by decide +kernel
theorem d_Model_addCase_48 : decode Y_Model_addCase.2.1 48 = .ok (.iaload, 1) := by decide +kernel
theorem d_Model_addCase_49 : decode Y_Model_addCase.2.1 49 = .ok (.iaload, 1) := by decide +kernel
theorem d_Model_addCase_50 : decode Y_Model_addCase.2.1 50 = .ok (.if_icmp .ne 7, 3) := by decide +kernel
theorem d_Model_addCase_53 : decode Y_Model_addCase.2.1 53 = .ok (.iconst 1, 1) := by decide +kernel
theorem d_Model_addCase_54 : decode Y_Model_addCase.2.1 54 = .ok (.goto 4, 3) := by decide +kernel
theorem d_Model_addCase_57 : decode Y_Model_addCase.2.1 57 = .ok (.iconst 0, 1) := by decide +kernel
theorem d_Model_addCase_58 : decode Y_Model_addCase.2.1 58 = .ok (.istore_n 2, 1) := by decide +kernel
theorem d_Model_addCase_59 : decode Y_Model_addCase.2.1 59 = .ok (.aload_n 0, 1) := by decide +kernel
theorem d_Model_addCase_60 : decode Y_Model_addCase.2.1 60 = .ok (.iload_n 2, 1) := by decide +kernel
theorem d_Model_addCase_61 : decode Y_Model_addCase.2.1 61 = .ok (.ifCond .eq 7, 3) := by decide +kernel
theorem d_Model_addCase_64 : decode Y_Model_addCase.2.1 64 = .ok (.iconst 0, 1) := by decide +kernel
theorem d_Model_addCase_65 : decode Y_Model_addCase.2.1 65 = .ok (.goto 4, 3) := by decide +kernel
theorem d_Model_addCase_68 : decode Y_Model_addCase.2.1 68 = .ok (.iconst 1, 1) := by decide +kernel
theorem d_Model_addCase_69 : decode Y_Model_addCase.2.1 69 = .ok (.invokevirtual 153, 3) := by decide +kernel
theorem d_Model_addCase_72 : decode Y_Model_addCase.2.1 72 = .ok (.ifCond .eq 5, 3) := by decide +kernel
theorem d_Model_addCase_75 : decode Y_Model_addCase.2.1 75 = .ok (.iconst 0, 1) := by decide +kernel
theorem d_Model_addCase_76 : decode Y_Model_addCase.2.1 76 = .ok (.ireturn, 1) := by decide +kernel
theorem d_Model_addCase_77 : decode Y_Model_addCase.2.1 77 = .ok (.aload_n 0, 1) := by decide +kernel
theorem d_Model_addCase_78 : decode Y_Model_addCase.2.1 78 = .ok (.dup, 1) := by decide +kernel
theorem d_Model_addCase_79 : decode Y_Model_addCase.2.1 79 = .ok (.getfield 166, 3) := by decide +kernel
theorem d_Model_addCase_82 : decode Y_Model_addCase.2.1 82 = .ok (.iconst 1, 1) := by decide +kernel
theorem d_Model_addCase_83 : decode Y_Model_addCase.2.1 83 = .ok (.isub, 1) := by decide +kernel
theorem d_Model_addCase_84 : decode Y_Model_addCase.2.1 84 = .ok (.putfield 166, 3) := by decide +kernel
theorem d_Model_addCase_87 : decode Y_Model_addCase.2.1 87 = .ok (.aload_n 0, 1) := by decide +kernel
theorem d_Model_addCase_88 : decode Y_Model_addCase.2.1 88 = .ok (.getfield 43, 3) := by decide +kernel
theorem d_Model_addCase_91 : decode Y_Model_addCase.2.1 91 = .ok (.aload_n 0, 1) := by decide +kernel
theorem d_Model_addCase_92 : decode Y_Model_addCase.2.1 92 = .ok (.getfield 181, 3) := by decide +kernel
theorem d_Model_addCase_95 : decode Y_Model_addCase.2.1 95 = .ok (.aload_n 0, 1) := by decide +kernel
theorem d_Model_addCase_96 : decode Y_Model_addCase.2.1 96 = .ok (.getfield 37, 3) := by decide +kernel
theorem d_Model_addCase_99 : decode Y_Model_addCase.2.1 99 = .ok (.aload_n 0, 1) := by decide +kernel
theorem d_Model_addCase_100 : decode Y_Model_addCase.2.1 100 = .ok (.getfield 166, 3) := by decide +kernel
theorem d_Model_addCase_103 : decode Y_Model_addCase.2.1 103 = .ok (.iaload, 1) := by decide +kernel
theorem d_Model_addCase_104 : decode Y_Model_addCase.2.1 104 = .ok (.iastore, 1) := by decide +kernel
theorem d_Model_addCase_105 : decode Y_Model_addCase.2.1 105 = .ok (.aload_n 0, 1) := by decide +kernel
theorem d_Model_addCase_106 : decode Y_Model_addCase.2.1 106 = .ok (.getfield 46, 3) := by decide +kernel
theorem d_Model_addCase_109 : decode Y_Model_addCase.2.1 109 = .ok (.aload_n 0, 1) := by decide +kernel
theorem d_Model_addCase_110 : decode Y_Model_addCase.2.1 110 = .ok (.getfield 181, 3) := by decide +kernel
theorem d_Model_addCase_113 : decode Y_Model_addCase.2.1 113 = .ok (.iload_n 1, 1) := by decide +kernel
theorem d_Model_addCase_114 : decode Y_Model_addCase.2.1 114 = .ok (.bastore, 1) := by decide +kernel
theorem d_Model_addCase_115 : decode Y_Model_addCase.2.1 115 = .ok (.aload_n 0, 1) := by decide +kernel
theorem d_Model_addCase_116 : decode Y_Model_addCase.2.1 116 = .ok (.dup, 1) := by decide +kernel
theorem d_Model_addCase_117 : decode Y_Model_addCase.2.1 117 = .ok (.getfield 181, 3) := by decide +kernel
theorem d_Model_addCase_120 : decode Y_Model_addCase.2.1 120 = .ok (.iconst 1, 1) := by decide +kernel
theorem d_Model_addCase_121 : decode Y_Model_addCase.2.1 121 = .ok (.iadd, 1) := by decide +kernel
theorem d_Model_addCase_122 : decode Y_Model_addCase.2.1 122 = .ok (.putfield 181, 3) := by decide +kernel
theorem d_Model_addCase_125 : decode Y_Model_addCase.2.1 125 = .ok (.aload_n 0, 1) := by decide +kernel
theorem d_Model_addCase_126 : decode Y_Model_addCase.2.1 126 = .ok (.iconst 0, 1) := by decide +kernel
theorem d_Model_addCase_127 : decode Y_Model_addCase.2.1 127 = .ok (.putfield 184, 3) := by decide +kernel
theorem d_Model_addCase_130 : decode Y_Model_addCase.2.1 130 = .ok (.aload_n 0, 1) := by decide +kernel
theorem d_Model_addCase_131 : decode Y_Model_addCase.2.1 131 = .ok (.getfield 181, 3) := by decide +kernel
theorem d_Model_addCase_134 : decode Y_Model_addCase.2.1 134 = .ok (.iconst 1, 1) := by decide +kernel
theorem d_Model_addCase_135 : decode Y_Model_addCase.2.1 135 = .ok (.isub, 1) := by decide +kernel
theorem d_Model_addCase_136 : decode Y_Model_addCase.2.1 136 = .ok (.ireturn, 1) := by decide +kernel
theorem d_Model_argument_0 : decode Y_Model_argument.2.1 0 = .ok (.aload_n 0, 1) := by decide +kernel
theorem d_Model_argument_1 : decode Y_Model_argument.2.1 1 = .ok (.iload_n 1, 1) := by decide +kernel
theorem d_Model_argument_2 : decode Y_Model_argument.2.1 2 = .ok (.iload_n 2, 1) := by decide +kernel
theorem d_Model_argument_3 : decode Y_Model_argument.2.1 3 = .ok (.invokevirtual 156, 3) := by decide +kernel
theorem d_Model_argument_6 : decode Y_Model_argument.2.1 6 = .ok (.ifCond .eq 17, 3) := by decide +kernel
theorem d_Model_argument_9 : decode Y_Model_argument.2.1 9 = .ok (.iload_n 3, 1) := by decide +kernel
theorem d_Model_argument_10 : decode Y_Model_argument.2.1 10 = .ok (.ifCond .lt 13, 3) := by decide +kernel
theorem d_Model_argument_13 : decode Y_Model_argument.2.1 13 = .ok (.iload_n 3, 1) := by decide +kernel
theorem d_Model_argument_14 : decode Y_Model_argument.2.1 14 = .ok (.bipush 16, 2) := by decide +kernel
theorem d_Model_argument_16 : decode Y_Model_argument.2.1 16 = .ok (.if_icmp .ge 7, 3) := by decide +kernel
theorem d_Model_argument_19 : decode Y_Model_argument.2.1 19 = .ok (.iconst 1, 1) := by decide +kernel
theorem d_Model_argument_20 : decode Y_Model_argument.2.1 20 = .ok (.goto 4, 3) := by decide +kernel
theorem d_Model_argument_23 : decode Y_Model_argument.2.1 23 = .ok (.iconst 0, 1) := by decide +kernel
theorem d_Model_argument_24 : decode Y_Model_argument.2.1 24 = .ok (.istore 4, 2) := by decide +kernel
theorem d_Model_argument_26 : decode Y_Model_argument.2.1 26 = .ok (.aload_n 0, 1) := by decide +kernel
theorem d_Model_argument_27 : decode Y_Model_argument.2.1 27 = .ok (.iload 4, 2) := by decide +kernel
theorem d_Model_argument_29 : decode Y_Model_argument.2.1 29 = .ok (.ifCond .ne 7, 3) := by decide +kernel
theorem d_Model_argument_32 : decode Y_Model_argument.2.1 32 = .ok (.iconst 1, 1) := by decide +kernel
theorem d_Model_argument_33 : decode Y_Model_argument.2.1 33 = .ok (.goto 30, 3) := by decide +kernel
theorem d_Model_argument_36 : decode Y_Model_argument.2.1 36 = .ok (.aload_n 0, 1) := by decide +kernel
theorem d_Model_argument_37 : decode Y_Model_argument.2.1 37 = .ok (.getfield 149, 3) := by decide +kernel
theorem d_Model_argument_40 : decode Y_Model_argument.2.1 40 = .ok (.ifCond .ne 18, 3) := by decide +kernel
theorem d_Model_argument_43 : decode Y_Model_argument.2.1 43 = .ok (.aload_n 0, 1) := by decide +kernel
theorem d_Model_argument_44 : decode Y_Model_argument.2.1 44 = .ok (.getfield 13, 3) := by decide +kernel
theorem d_Model_argument_47 : decode Y_Model_argument.2.1 47 = .ok (.bipush 8, 2) := by decide +kernel
theorem d_Model_argument_49 : decode Y_Model_argument.2.1 49 = .ok (.iload_n 1, 1) := by decide +kernel
theorem d_Model_argument_50 : decode Y_Model_argument.2.1 50 = .ok (.imul, 1) := by decide +kernel
theorem d_Model_argument_51 : decode Y_Model_argument.2.1 51 = .ok (.iload_n 2, 1) := by decide +kernel
theorem d_Model_argument_52 : decode Y_Model_argument.2.1 52 = .ok (.iadd, 1) := by decide +kernel
theorem d_Model_argument_53 : decode Y_Model_argument.2.1 53 = .ok (.iaload, 1) := by decide +kernel
theorem d_Model_argument_54 : decode Y_Model_argument.2.1 54 = .ok (.iconst 4, 1) := by decide +kernel
theorem d_Model_argument_55 : decode Y_Model_argument.2.1 55 = .ok (.if_icmp .ne 7, 3) := by decide +kernel
theorem d_Model_argument_58 : decode Y_Model_argument.2.1 58 = .ok (.iconst 2, 1) := by decide +kernel
theorem d_Model_argument_59 : decode Y_Model_argument.2.1 59 = .ok (.goto 4, 3) := by decide +kernel
theorem d_Model_argument_62 : decode Y_Model_argument.2.1 62 = .ok (.iconst 0, 1) := by decide +kernel
theorem d_Model_argument_63 : decode Y_Model_argument.2.1 63 = .ok (.invokevirtual 153, 3) := by decide +kernel
theorem d_Model_argument_66 : decode Y_Model_argument.2.1 66 = .ok (.ifCond .eq 5, 3) := by decide +kernel
theorem d_Model_argument_69 : decode Y_Model_argument.2.1 69 = .ok (.iconst 0, 1) := by decide +kernel
theorem d_Model_argument_70 : decode Y_Model_argument.2.1 70 = .ok (.ireturn, 1) := by decide +kernel
theorem d_Model_argument_71 : decode Y_Model_argument.2.1 71 = .ok (.bipush 8, 2) := by decide +kernel
theorem d_Model_argument_73 : decode Y_Model_argument.2.1 73 = .ok (.iload_n 1, 1) := by decide +kernel
theorem d_Model_argument_74 : decode Y_Model_argument.2.1 74 = .ok (.imul, 1) := by decide +kernel
theorem d_Model_argument_75 : decode Y_Model_argument.2.1 75 = .ok (.iload_n 2, 1) := by decide +kernel
theorem d_Model_argument_76 : decode Y_Model_argument.2.1 76 = .ok (.iadd, 1) := by decide +kernel
theorem d_Model_argument_77 : decode Y_Model_argument.2.1 77 = .ok (.istore 5, 2) := by decide +kernel
theorem d_Model_argument_79 : decode Y_Model_argument.2.1 79 = .ok (.aload_n 0, 1) := by decide +kernel
theorem d_Model_argument_80 : decode Y_Model_argument.2.1 80 = .ok (.getfield 16, 3) := by decide +kernel
theorem d_Model_argument_83 : decode Y_Model_argument.2.1 83 = .ok (.iconst 4, 1) := by decide +kernel
theorem d_Model_argument_84 : decode Y_Model_argument.2.1 84 = .ok (.iload 5, 2) := by decide +kernel
theorem d_Model_argument_86 : decode Y_Model_argument.2.1 86 = .ok (.imul, 1) := by decide +kernel
theorem d_Model_argument_87 : decode Y_Model_argument.2.1 87 = .ok (.aload_n 0, 1) := by decide +kernel
theorem d_Model_argument_88 : decode Y_Model_argument.2.1 88 = .ok (.getfield 13, 3) := by decide +kernel
theorem d_Model_argument_91 : decode Y_Model_argument.2.1 91 = .ok (.iload 5, 2) := by decide +kernel
theorem d_Model_argument_93 : decode Y_Model_argument.2.1 93 = .ok (.iaload, 1) := by decide +kernel
theorem d_Model_argument_94 : decode Y_Model_argument.2.1 94 = .ok (.iadd, 1) := by decide +kernel
theorem d_Model_argument_95 : decode Y_Model_argument.2.1 95 = .ok (.iload_n 3, 1) := by decide +kernel
theorem d_Model_argument_96 : decode Y_Model_argument.2.1 96 = .ok (.iastore, 1) := by decide +kernel
theorem d_Model_argument_97 : decode Y_Model_argument.2.1 97 = .ok (.aload_n 0, 1) := by decide +kernel
theorem d_Model_argument_98 : decode Y_Model_argument.2.1 98 = .ok (.getfield 13, 3) := by decide +kernel
theorem d_Model_argument_101 : decode Y_Model_argument.2.1 101 = .ok (.iload 5, 2) := by decide +kernel
theorem d_Model_argument_103 : decode Y_Model_argument.2.1 103 = .ok (.dup2, 1) := by decide +kernel
theorem d_Model_argument_104 : decode Y_Model_argument.2.1 104 = .ok (.iaload, 1) := by decide +kernel
theorem d_Model_argument_105 : decode Y_Model_argument.2.1 105 = .ok (.iconst 1, 1) := by decide +kernel
theorem d_Model_argument_106 : decode Y_Model_argument.2.1 106 = .ok (.iadd, 1) := by decide +kernel
theorem d_Model_argument_107 : decode Y_Model_argument.2.1 107 = .ok (.iastore, 1) := by decide +kernel
theorem d_Model_argument_108 : decode Y_Model_argument.2.1 108 = .ok (.aload_n 0, 1) := by decide +kernel
theorem d_Model_argument_109 : decode Y_Model_argument.2.1 109 = .ok (.getfield 13, 3) := by decide +kernel
theorem d_Model_argument_112 : decode Y_Model_argument.2.1 112 = .ok (.iload 5, 2) := by decide +kernel
theorem d_Model_argument_114 : decode Y_Model_argument.2.1 114 = .ok (.iaload, 1) := by decide +kernel
theorem d_Model_argument_115 : decode Y_Model_argument.2.1 115 = .ok (.ireturn, 1) := by decide +kernel
section MC
variable {E : gE} {d : Nat} {G : gS} {m n : Nat} {s : mS}
theorem tn_lx {x c : Int32} {k : Nat} (h0 : ¬ x < 0) (h1 : x ≤ c) (h2 : ¬ x = c) (hc : c.toInt = (k : Int)) : tn x < k := by
  have a := tn_hi h0
  have b := (le_hi a hc).mp h1
  have e : tn x ≠ k := fun q => h2 ((eq_hi a hc).mpr q)
  omega
theorem tn_ly {x c : Int32} {k : Nat} (h0 : ¬ x < 0) (h1 : x ≤ c) (hc : c.toInt = (k : Int)) : tn x ≤ k := (le_hi (tn_hi h0) hc).mp h1
theorem tn_s1 {x : Int32} (h0 : ¬ x < 0) (h1 : ¬ x = 0) : (x - 1).toInt = ((tn x - 1 : Nat) : Int) ∧ tn x - 1 < tn x := by
  have a := tn_hi h0
  have z : (0 : Int32).toInt = ((0 : Nat) : Int) := by decide
  have e : tn x ≠ 0 := fun q => h1 ((eq_hi a z).mpr q)
  exact ⟨sub_hi a i1 (by omega), by omega⟩
theorem gt0_ne {x : Int32} (h : ¬ x ≤ 0) : ¬ x = 0 := fun e => h (by rw [e]; decide)
theorem gt0_nl {x : Int32} (h : ¬ x ≤ 0) : ¬ x < 0 := fun e => h (Int32.le_of_lt e)
def rAny (s : mS) (t : Int32) : Int32 × mS := if ¬ rIsT s t then (0, wF s 0 1) else if s.1 14 = 40 then (0, wF s 0 2) else (rHt (rNode (wF s 0 0) 0 t 0 1 0) 0 + 1, rPush (rNode (wF s 0 0) 0 t 0 1 0) (s.1 5 + 1 - 1) 0)
set_option maxHeartbeats 400000 in
set_option maxRecDepth 100000 in
theorem m_W_any (hmn : m < n) (h5 : ¬ s.1 5 < 0) (b5 : tn (s.1 5) < 700) (h14 : ¬ s.1 14 < 0) (b14 : s.1 14 ≤ 40) (t : Int32) : GM E Y_Model_any (d + 1) [.ref m, .int t] (mW E G m n s) (rIs (some (.int (rAny s t).1)) (mW E G m n (rAny s t).2)) := by
  refine g_entry (by decide) (by simp [Value.category]) (Nat.le_of_ble_eq_true rfl) ?_
  refine g_aload_n d_Model_any_0 rfl ?_
  refine g_aload_n d_Model_any_1 rfl ?_
  refine g_iload_n d_Model_any_2 rfl ?_
  refine c_Vr (as := [.int (t)]) kv_Model_isType ml_Model_145 rfl mw_f (m_W_isType hmn (s := s) t) rfl (Nat.le_of_ble_eq_true rfl) rfl d_Model_any_3 rfl ?_
  refine g_if_ne (tgt := 13) d_Model_any_6 (by decide) (fun c_6 => ?_) (fun c_6 => ?_)
  · have c_6 := b32_t c_6
    refine g_aload_n d_Model_any_13 rfl ?_
    refine w_get (k := 14) (x := .int (s.1 14)) fl_Model_166 (by decide) rfl d_Model_any_14 ?_
    refine g_bipush (v := 40) d_Model_any_17 (by decide) ?_
    refine g_icmp_ne (tgt := 26) d_Model_any_19 (by decide) (fun c_19 => ?_) (fun c_19 => ?_)
    · refine g_iconst (v := 0) d_Model_any_26 (by decide) ?_
      refine c_Vr (as := [.int (0)]) kv_Model_refuses ml_Model_153 rfl mw_f (m_W_refuses0 (s := s) hmn) rfl (Nat.le_of_ble_eq_true rfl) rfl d_Model_any_27 rfl ?_
      refine g_if_eq (tgt := 35) d_Model_any_30 (by decide) (fun c_30 => ?_) (fun c_30 => absurd c_30 (by decide))
      refine g_aload_n d_Model_any_35 rfl ?_
      refine g_aload_n d_Model_any_36 rfl ?_
      refine g_iconst (v := 0) d_Model_any_37 (by decide) ?_
      refine g_iload_n d_Model_any_38 rfl ?_
      refine g_iconst (v := 0) d_Model_any_39 (by decide) ?_
      refine g_iconst (v := 1) d_Model_any_40 (by decide) ?_
      refine g_iconst (v := 0) d_Model_any_41 (by decide) ?_
      refine c_Vr (as := [.int (0), .int (t), .int (0), .int (1), .int (0)]) kv_Model_node ml_Model_169 rfl mw_f (m_W_node (s := (wF s 0 (0))) hmn h5 b5 (0) (t) (0) (1) (0)) rfl (Nat.le_of_ble_eq_true rfl) rfl d_Model_any_42 rfl ?_
      refine g_iconst (v := 0) d_Model_any_45 (by decide) ?_
      refine c_Vr (as := [.int (s.1 5 + 1 - 1), .int (0)]) kv_Model_push ml_Model_173 rfl mw_f (m_W_push (s := (rNode (wF s 0 (0)) (0) (t) (0) (1) (0))) hmn (v := 0) h14 (tn_lx h14 b14 c_19 (by decide)) (s.1 5 + 1 - 1)) rfl (Nat.le_of_ble_eq_true rfl) rfl d_Model_any_46 rfl ?_
      refine g_iret rfl d_Model_any_49 ?_
      have e : rAny s t = (rHt (rNode (wF s 0 (0)) (0) (t) (0) (1) (0)) (0) + 1, (rPush (rNode (wF s 0 (0)) (0) (t) (0) (1) (0)) (s.1 5 + 1 - 1) (0))) := by first | (simp only [rAny, b32, c_6, c_19, not_true_eq_false, not_false_eq_true, and_true, true_and, and_false, false_and, and_self, or_true, true_or, or_false, false_or, or_self, if_true, if_false, ite_true, ite_false]; done) | (simp [rAny, b32, c_6, c_19]; done) | (simp_all [rAny, b32]; done)
      rw [e]
      exact ⟨rfl, rfl⟩
    · refine g_iconst (v := 2) d_Model_any_22 (by decide) ?_
      refine g_goto (tgt := 27) d_Model_any_23 (by decide) ?_
      refine c_Vr (as := [.int (2)]) kv_Model_refuses ml_Model_153 rfl mw_f (m_W_refuses2 (s := s) hmn) rfl (Nat.le_of_ble_eq_true rfl) rfl d_Model_any_27 rfl ?_
      refine g_if_eq (tgt := 35) d_Model_any_30 (by decide) (fun c_30 => absurd c_30 (by decide)) (fun c_30 => ?_)
      refine g_iconst (v := 0) d_Model_any_33 (by decide) ?_
      refine g_iret rfl d_Model_any_34 ?_
      have e : rAny s t = (0, (wF s 0 (2))) := by first | (simp only [rAny, b32, c_6, c_19, not_true_eq_false, not_false_eq_true, and_true, true_and, and_false, false_and, and_self, or_true, true_or, or_false, false_or, or_self, if_true, if_false, ite_true, ite_false]; done) | (simp [rAny, b32, c_6, c_19]; done) | (simp_all [rAny, b32]; done)
      rw [e]
      exact ⟨rfl, rfl⟩
  · have c_6 := b32_f c_6
    refine g_iconst (v := 1) d_Model_any_9 (by decide) ?_
    refine g_goto (tgt := 27) d_Model_any_10 (by decide) ?_
    refine c_Vr (as := [.int (1)]) kv_Model_refuses ml_Model_153 rfl mw_f (m_W_refuses1 (s := s) hmn) rfl (Nat.le_of_ble_eq_true rfl) rfl d_Model_any_27 rfl ?_
    refine g_if_eq (tgt := 35) d_Model_any_30 (by decide) (fun c_30 => absurd c_30 (by decide)) (fun c_30 => ?_)
    refine g_iconst (v := 0) d_Model_any_33 (by decide) ?_
    refine g_iret rfl d_Model_any_34 ?_
    have e : rAny s t = (0, (wF s 0 (1))) := by first | (simp only [rAny, b32, c_6, not_true_eq_false, not_false_eq_true, and_true, true_and, and_false, false_and, and_self, or_true, true_or, or_false, false_or, or_self, if_true, if_false, ite_true, ite_false]; done) | (simp [rAny, b32, c_6]; done) | (simp_all [rAny, b32]; done)
    rw [e]
    exact ⟨rfl, rfl⟩
def rNumber (s : mS) (t x v : Int32) : Int32 × mS := if ¬ rIsT s t ∨ ¬ s.2 0 (tn t) = 1 then (0, wF s 0 1) else if rHt s v = 40 then (0, wF s 0 2) else (rHt (rNode (wF s 0 0) 1 t x 1 0) v + 1, rPush (rNode (wF s 0 0) 1 t x 1 0) (s.1 5 + 1 - 1) v)
set_option maxHeartbeats 400000 in
set_option maxRecDepth 100000 in
theorem m_W_number (hmn : m < n) (h5 : ¬ s.1 5 < 0) (b5 : tn (s.1 5) < 700) {v : Int32} (h14 : ¬ rHt s v < 0) (b14 : rHt s v ≤ 40) (t x : Int32) : GM E Y_Model_number (d + 1) [.ref m, .int t, .int x, .int v] (mW E G m n s) (rIs (some (.int (rNumber s t x v).1)) (mW E G m n (rNumber s t x v).2)) := by
  refine g_entry (by decide) (by simp [Value.category]) (Nat.le_of_ble_eq_true rfl) ?_
  refine g_aload_n d_Model_number_0 rfl ?_
  refine g_aload_n d_Model_number_1 rfl ?_
  refine g_iload_n d_Model_number_2 rfl ?_
  refine c_Vr (as := [.int (t)]) kv_Model_isType ml_Model_145 rfl mw_f (m_W_isType hmn (s := s) t) rfl (Nat.le_of_ble_eq_true rfl) rfl d_Model_number_3 rfl ?_
  refine g_if_eq (tgt := 19) d_Model_number_6 (by decide) (fun c_6 => ?_) (fun c_6 => ?_)
  · have c_6 := b32_f c_6
    refine g_iconst (v := 1) d_Model_number_19 (by decide) ?_
    refine g_goto (tgt := 38) d_Model_number_20 (by decide) ?_
    refine c_Vr (as := [.int (1)]) kv_Model_refuses ml_Model_153 rfl mw_f (m_W_refuses1 (s := s) hmn) rfl (Nat.le_of_ble_eq_true rfl) rfl d_Model_number_38 rfl ?_
    refine g_if_eq (tgt := 46) d_Model_number_41 (by decide) (fun c_41 => absurd c_41 (by decide)) (fun c_41 => ?_)
    refine g_iconst (v := 0) d_Model_number_44 (by decide) ?_
    refine g_iret rfl d_Model_number_45 ?_
    have e : rNumber s t x v = (0, (wF s 0 (1))) := by first | (simp only [rNumber, c_6, not_true_eq_false, not_false_eq_true, and_true, true_and, and_false, false_and, and_self, or_true, true_or, or_false, false_or, or_self, if_true, if_false, ite_true, ite_false]; done) | (simp [rNumber, c_6]; done) | (simp_all [rNumber]; done)
    rw [e]
    exact ⟨rfl, rfl⟩
  · have c_6 := b32_t c_6
    refine g_aload_n d_Model_number_9 rfl ?_
    refine w_get (k := 1) fl_Model_7 (by decide) rfl d_Model_number_10 ?_
    refine g_iload_n d_Model_number_13 rfl ?_
    refine w_ald (j := 0) (q := tn t) (x := s.2 0 (tn t)) hmn (by decide) (by decide) (tn_hi c_6.1) (tn_lt c_6.1 c_6.2.1 (n := 16) (by decide)) rfl d_Model_number_14 ?_
    refine g_iconst (v := 1) d_Model_number_15 (by decide) ?_
    refine g_icmp_eq (tgt := 23) d_Model_number_16 (by decide) (fun c_16 => ?_) (fun c_16 => ?_)
    · refine g_aload_n d_Model_number_23 rfl ?_
      refine g_iload_n d_Model_number_24 rfl ?_
      refine c_Vr (as := [.int (v)]) kv_Model_height ml_Model_177 rfl mw_f (m_W_height hmn (s := s) v) rfl (Nat.le_of_ble_eq_true rfl) rfl d_Model_number_25 rfl ?_
      refine g_bipush (v := 40) d_Model_number_28 (by decide) ?_
      refine g_icmp_ne (tgt := 37) d_Model_number_30 (by decide) (fun c_30 => ?_) (fun c_30 => ?_)
      · refine g_iconst (v := 0) d_Model_number_37 (by decide) ?_
        refine c_Vr (as := [.int (0)]) kv_Model_refuses ml_Model_153 rfl mw_f (m_W_refuses0 (s := s) hmn) rfl (Nat.le_of_ble_eq_true rfl) rfl d_Model_number_38 rfl ?_
        refine g_if_eq (tgt := 46) d_Model_number_41 (by decide) (fun c_41 => ?_) (fun c_41 => absurd c_41 (by decide))
        refine g_aload_n d_Model_number_46 rfl ?_
        refine g_aload_n d_Model_number_47 rfl ?_
        refine g_iconst (v := 1) d_Model_number_48 (by decide) ?_
        refine g_iload_n d_Model_number_49 rfl ?_
        refine g_iload_n d_Model_number_50 rfl ?_
        refine g_iconst (v := 1) d_Model_number_51 (by decide) ?_
        refine g_iconst (v := 0) d_Model_number_52 (by decide) ?_
        refine c_Vr (as := [.int (1), .int (t), .int (x), .int (1), .int (0)]) kv_Model_node ml_Model_169 rfl mw_f (m_W_node (s := (wF s 0 (0))) hmn h5 b5 (1) (t) (x) (1) (0)) rfl (Nat.le_of_ble_eq_true rfl) rfl d_Model_number_53 rfl ?_
        refine g_iload_n d_Model_number_56 rfl ?_
        refine c_Vr (as := [.int (s.1 5 + 1 - 1), .int (v)]) kv_Model_push ml_Model_173 rfl mw_f (m_W_push (s := (rNode (wF s 0 (0)) (1) (t) (x) (1) (0))) hmn (v := v) h14 (tn_lx h14 b14 c_30 (by decide)) (s.1 5 + 1 - 1)) rfl (Nat.le_of_ble_eq_true rfl) rfl d_Model_number_57 rfl ?_
        refine g_iret rfl d_Model_number_60 ?_
        have e : rNumber s t x v = (rHt (rNode (wF s 0 (0)) (1) (t) (x) (1) (0)) (v) + 1, (rPush (rNode (wF s 0 (0)) (1) (t) (x) (1) (0)) (s.1 5 + 1 - 1) (v))) := by first | (simp only [rNumber, c_6, c_16, c_30, not_true_eq_false, not_false_eq_true, and_true, true_and, and_false, false_and, and_self, or_true, true_or, or_false, false_or, or_self, if_true, if_false, ite_true, ite_false]; done) | (simp [rNumber, c_6, c_16, c_30]; done) | (simp_all [rNumber]; done)
        rw [e]
        exact ⟨rfl, rfl⟩
      · refine g_iconst (v := 2) d_Model_number_33 (by decide) ?_
        refine g_goto (tgt := 38) d_Model_number_34 (by decide) ?_
        refine c_Vr (as := [.int (2)]) kv_Model_refuses ml_Model_153 rfl mw_f (m_W_refuses2 (s := s) hmn) rfl (Nat.le_of_ble_eq_true rfl) rfl d_Model_number_38 rfl ?_
        refine g_if_eq (tgt := 46) d_Model_number_41 (by decide) (fun c_41 => absurd c_41 (by decide)) (fun c_41 => ?_)
        refine g_iconst (v := 0) d_Model_number_44 (by decide) ?_
        refine g_iret rfl d_Model_number_45 ?_
        have e : rNumber s t x v = (0, (wF s 0 (2))) := by first | (simp only [rNumber, c_6, c_16, c_30, not_true_eq_false, not_false_eq_true, and_true, true_and, and_false, false_and, and_self, or_true, true_or, or_false, false_or, or_self, if_true, if_false, ite_true, ite_false]; done) | (simp [rNumber, c_6, c_16, c_30]; done) | (simp_all [rNumber]; done)
        rw [e]
        exact ⟨rfl, rfl⟩
    · refine g_iconst (v := 1) d_Model_number_19 (by decide) ?_
      refine g_goto (tgt := 38) d_Model_number_20 (by decide) ?_
      refine c_Vr (as := [.int (1)]) kv_Model_refuses ml_Model_153 rfl mw_f (m_W_refuses1 (s := s) hmn) rfl (Nat.le_of_ble_eq_true rfl) rfl d_Model_number_38 rfl ?_
      refine g_if_eq (tgt := 46) d_Model_number_41 (by decide) (fun c_41 => absurd c_41 (by decide)) (fun c_41 => ?_)
      refine g_iconst (v := 0) d_Model_number_44 (by decide) ?_
      refine g_iret rfl d_Model_number_45 ?_
      have e : rNumber s t x v = (0, (wF s 0 (1))) := by first | (simp only [rNumber, c_6, c_16, not_true_eq_false, not_false_eq_true, and_true, true_and, and_false, false_and, and_self, or_true, true_or, or_false, false_or, or_self, if_true, if_false, ite_true, ite_false]; done) | (simp [rNumber, c_6, c_16]; done) | (simp_all [rNumber]; done)
      rw [e]
      exact ⟨rfl, rfl⟩
def rQuestion (s : mS) (q w : Int32) : Int32 × mS := if s.1 19 = 0 ∨ q < 0 ∨ s.1 20 ≤ q ∨ w < 0 ∨ ¬ w ≤ 3 then (0, wF s 0 1) else (if w = 0 then s.2 14 (tn q) else if w = 1 then s.2 15 (tn q) else if w = 2 then s.2 16 (tn q) else s.2 17 (tn q), wF s 0 0)
set_option maxHeartbeats 400000 in
set_option maxRecDepth 100000 in
theorem m_W_question (hmn : m < n) (b : s.1 20 ≤ 1001) (q w : Int32) : GM E Y_Model_question (d + 1) [.ref m, .int q, .int w] (mW E G m n s) (rIs (some (.int (rQuestion s q w).1)) (mW E G m n (rQuestion s q w).2)) := by
  refine g_entry (by decide) (by simp [Value.category]) (Nat.le_of_ble_eq_true rfl) ?_
  refine g_aload_n d_Model_question_0 rfl ?_
  refine g_aload_n d_Model_question_1 rfl ?_
  refine w_get (k := 19) (x := .int (s.1 19)) fl_Model_184 (by decide) rfl d_Model_question_2 ?_
  refine g_if_eq (tgt := 29) d_Model_question_5 (by decide) (fun c_5 => ?_) (fun c_5 => ?_)
  · refine g_iconst (v := 1) d_Model_question_29 (by decide) ?_
    refine g_goto (tgt := 34) d_Model_question_30 (by decide) ?_
    refine c_Vr (as := [.int (1)]) kv_Model_refuses ml_Model_153 rfl mw_f (m_W_refuses1 (s := s) hmn) rfl (Nat.le_of_ble_eq_true rfl) rfl d_Model_question_34 rfl ?_
    refine g_if_eq (tgt := 42) d_Model_question_37 (by decide) (fun c_37 => absurd c_37 (by decide)) (fun c_37 => ?_)
    refine g_iconst (v := 0) d_Model_question_40 (by decide) ?_
    refine g_iret rfl d_Model_question_41 ?_
    have e : rQuestion s q w = (0, (wF s 0 (1))) := by first | (simp only [rQuestion, c_5, not_true_eq_false, not_false_eq_true, and_true, true_and, and_false, false_and, and_self, or_true, true_or, or_false, false_or, or_self, if_true, if_false, ite_true, ite_false]; done) | (simp [rQuestion, c_5]; done) | (simp_all [rQuestion]; done)
    rw [e]
    exact ⟨rfl, rfl⟩
  · refine g_iload_n d_Model_question_8 rfl ?_
    refine g_if_lt (tgt := 29) d_Model_question_9 (by decide) (fun c_9 => ?_) (fun c_9 => ?_)
    · refine g_iconst (v := 1) d_Model_question_29 (by decide) ?_
      refine g_goto (tgt := 34) d_Model_question_30 (by decide) ?_
      refine c_Vr (as := [.int (1)]) kv_Model_refuses ml_Model_153 rfl mw_f (m_W_refuses1 (s := s) hmn) rfl (Nat.le_of_ble_eq_true rfl) rfl d_Model_question_34 rfl ?_
      refine g_if_eq (tgt := 42) d_Model_question_37 (by decide) (fun c_37 => absurd c_37 (by decide)) (fun c_37 => ?_)
      refine g_iconst (v := 0) d_Model_question_40 (by decide) ?_
      refine g_iret rfl d_Model_question_41 ?_
      have e : rQuestion s q w = (0, (wF s 0 (1))) := by first | (simp only [rQuestion, c_5, c_9, not_true_eq_false, not_false_eq_true, and_true, true_and, and_false, false_and, and_self, or_true, true_or, or_false, false_or, or_self, if_true, if_false, ite_true, ite_false]; done) | (simp [rQuestion, c_5, c_9]; done) | (simp_all [rQuestion]; done)
      rw [e]
      exact ⟨rfl, rfl⟩
    · refine g_iload_n d_Model_question_12 rfl ?_
      refine g_aload_n d_Model_question_13 rfl ?_
      refine w_get (k := 20) (x := .int (s.1 20)) fl_Model_225 (by decide) rfl d_Model_question_14 ?_
      refine g_icmp_ge (tgt := 29) d_Model_question_17 (by decide) (fun c_17 => ?_) (fun c_17 => ?_)
      · refine g_iconst (v := 1) d_Model_question_29 (by decide) ?_
        refine g_goto (tgt := 34) d_Model_question_30 (by decide) ?_
        refine c_Vr (as := [.int (1)]) kv_Model_refuses ml_Model_153 rfl mw_f (m_W_refuses1 (s := s) hmn) rfl (Nat.le_of_ble_eq_true rfl) rfl d_Model_question_34 rfl ?_
        refine g_if_eq (tgt := 42) d_Model_question_37 (by decide) (fun c_37 => absurd c_37 (by decide)) (fun c_37 => ?_)
        refine g_iconst (v := 0) d_Model_question_40 (by decide) ?_
        refine g_iret rfl d_Model_question_41 ?_
        have e : rQuestion s q w = (0, (wF s 0 (1))) := by first | (simp only [rQuestion, c_5, c_9, c_17, not_true_eq_false, not_false_eq_true, and_true, true_and, and_false, false_and, and_self, or_true, true_or, or_false, false_or, or_self, if_true, if_false, ite_true, ite_false]; done) | (simp [rQuestion, c_5, c_9, c_17]; done) | (simp_all [rQuestion]; done)
        rw [e]
        exact ⟨rfl, rfl⟩
      · refine g_iload_n d_Model_question_20 rfl ?_
        refine g_if_lt (tgt := 29) d_Model_question_21 (by decide) (fun c_21 => ?_) (fun c_21 => ?_)
        · refine g_iconst (v := 1) d_Model_question_29 (by decide) ?_
          refine g_goto (tgt := 34) d_Model_question_30 (by decide) ?_
          refine c_Vr (as := [.int (1)]) kv_Model_refuses ml_Model_153 rfl mw_f (m_W_refuses1 (s := s) hmn) rfl (Nat.le_of_ble_eq_true rfl) rfl d_Model_question_34 rfl ?_
          refine g_if_eq (tgt := 42) d_Model_question_37 (by decide) (fun c_37 => absurd c_37 (by decide)) (fun c_37 => ?_)
          refine g_iconst (v := 0) d_Model_question_40 (by decide) ?_
          refine g_iret rfl d_Model_question_41 ?_
          have e : rQuestion s q w = (0, (wF s 0 (1))) := by first | (simp only [rQuestion, c_5, c_9, c_17, c_21, not_true_eq_false, not_false_eq_true, and_true, true_and, and_false, false_and, and_self, or_true, true_or, or_false, false_or, or_self, if_true, if_false, ite_true, ite_false]; done) | (simp [rQuestion, c_5, c_9, c_17, c_21]; done) | (simp_all [rQuestion]; done)
          rw [e]
          exact ⟨rfl, rfl⟩
        · refine g_iload_n d_Model_question_24 rfl ?_
          refine g_iconst (v := 3) d_Model_question_25 (by decide) ?_
          refine g_icmp_le (tgt := 33) d_Model_question_26 (by decide) (fun c_26 => ?_) (fun c_26 => ?_)
          · refine g_iconst (v := 0) d_Model_question_33 (by decide) ?_
            refine c_Vr (as := [.int (0)]) kv_Model_refuses ml_Model_153 rfl mw_f (m_W_refuses0 (s := s) hmn) rfl (Nat.le_of_ble_eq_true rfl) rfl d_Model_question_34 rfl ?_
            refine g_if_eq (tgt := 42) d_Model_question_37 (by decide) (fun c_37 => ?_) (fun c_37 => absurd c_37 (by decide))
            refine g_iload_n d_Model_question_42 rfl ?_
            refine g_if_ne (tgt := 55) d_Model_question_43 (by decide) (fun c_43 => ?_) (fun c_43 => ?_)
            · refine g_iload_n d_Model_question_55 rfl ?_
              refine g_iconst (v := 1) d_Model_question_56 (by decide) ?_
              refine g_icmp_ne (tgt := 69) d_Model_question_57 (by decide) (fun c_57 => ?_) (fun c_57 => ?_)
              · refine g_iload_n d_Model_question_69 rfl ?_
                refine g_iconst (v := 2) d_Model_question_70 (by decide) ?_
                refine g_icmp_ne (tgt := 83) d_Model_question_71 (by decide) (fun c_71 => ?_) (fun c_71 => ?_)
                · refine g_aload_n d_Model_question_83 rfl ?_
                  refine w_get (k := 31) fl_Model_62 (by decide) rfl d_Model_question_84 ?_
                  refine g_iload_n d_Model_question_87 rfl ?_
                  refine w_ald (j := 17) (q := tn q) (x := s.2 17 (tn q)) hmn (by decide) (by decide) (tn_hi c_9) (tn_lt c_9 (c := 1001) (fun q => c_17 (Int32.le_trans b q)) (by decide)) rfl d_Model_question_88 ?_
                  refine g_iret rfl d_Model_question_89 ?_
                  have e : rQuestion s q w = (s.2 17 (tn q), (wF s 0 (0))) := by first | (simp only [rQuestion, c_5, c_9, c_17, c_21, c_26, c_43, c_57, c_71, not_true_eq_false, not_false_eq_true, and_true, true_and, and_false, false_and, and_self, or_true, true_or, or_false, false_or, or_self, if_true, if_false, ite_true, ite_false]; done) | (simp [rQuestion, c_5, c_9, c_17, c_21, c_26, c_43, c_57, c_71]; done) | (simp_all [rQuestion]; done)
                  rw [e]
                  exact ⟨rfl, rfl⟩
                · refine g_aload_n d_Model_question_74 rfl ?_
                  refine w_get (k := 30) fl_Model_59 (by decide) rfl d_Model_question_75 ?_
                  refine g_iload_n d_Model_question_78 rfl ?_
                  refine w_ald (j := 16) (q := tn q) (x := s.2 16 (tn q)) hmn (by decide) (by decide) (tn_hi c_9) (tn_lt c_9 (c := 1001) (fun q => c_17 (Int32.le_trans b q)) (by decide)) rfl d_Model_question_79 ?_
                  refine g_goto (tgt := 89) d_Model_question_80 (by decide) ?_
                  refine g_iret rfl d_Model_question_89 ?_
                  have e : rQuestion s q w = (s.2 16 (tn q), (wF s 0 (0))) := by first | (simp only [rQuestion, c_5, c_9, c_17, c_21, c_26, c_43, c_57, c_71, not_true_eq_false, not_false_eq_true, and_true, true_and, and_false, false_and, and_self, or_true, true_or, or_false, false_or, or_self, if_true, if_false, ite_true, ite_false]; done) | (simp [rQuestion, c_5, c_9, c_17, c_21, c_26, c_43, c_57, c_71]; done) | (simp_all [rQuestion]; done)
                  rw [e]
                  exact ⟨rfl, rfl⟩
              · refine g_aload_n d_Model_question_60 rfl ?_
                refine w_get (k := 29) fl_Model_56 (by decide) rfl d_Model_question_61 ?_
                refine g_iload_n d_Model_question_64 rfl ?_
                refine w_ald (j := 15) (q := tn q) (x := s.2 15 (tn q)) hmn (by decide) (by decide) (tn_hi c_9) (tn_lt c_9 (c := 1001) (fun q => c_17 (Int32.le_trans b q)) (by decide)) rfl d_Model_question_65 ?_
                refine g_goto (tgt := 89) d_Model_question_66 (by decide) ?_
                refine g_iret rfl d_Model_question_89 ?_
                have e : rQuestion s q w = (s.2 15 (tn q), (wF s 0 (0))) := by first | (simp only [rQuestion, c_5, c_9, c_17, c_21, c_26, c_43, c_57, not_true_eq_false, not_false_eq_true, and_true, true_and, and_false, false_and, and_self, or_true, true_or, or_false, false_or, or_self, if_true, if_false, ite_true, ite_false]; done) | (simp [rQuestion, c_5, c_9, c_17, c_21, c_26, c_43, c_57]; done) | (simp_all [rQuestion]; done)
                rw [e]
                exact ⟨rfl, rfl⟩
            · refine g_aload_n d_Model_question_46 rfl ?_
              refine w_get (k := 28) fl_Model_53 (by decide) rfl d_Model_question_47 ?_
              refine g_iload_n d_Model_question_50 rfl ?_
              refine w_ald (j := 14) (q := tn q) (x := s.2 14 (tn q)) hmn (by decide) (by decide) (tn_hi c_9) (tn_lt c_9 (c := 1001) (fun q => c_17 (Int32.le_trans b q)) (by decide)) rfl d_Model_question_51 ?_
              refine g_goto (tgt := 89) d_Model_question_52 (by decide) ?_
              refine g_iret rfl d_Model_question_89 ?_
              have e : rQuestion s q w = (s.2 14 (tn q), (wF s 0 (0))) := by first | (simp only [rQuestion, c_5, c_9, c_17, c_21, c_26, c_43, not_true_eq_false, not_false_eq_true, and_true, true_and, and_false, false_and, and_self, or_true, true_or, or_false, false_or, or_self, if_true, if_false, ite_true, ite_false]; done) | (simp [rQuestion, c_5, c_9, c_17, c_21, c_26, c_43]; done) | (simp_all [rQuestion]; done)
              rw [e]
              exact ⟨rfl, rfl⟩
          · refine g_iconst (v := 1) d_Model_question_29 (by decide) ?_
            refine g_goto (tgt := 34) d_Model_question_30 (by decide) ?_
            refine c_Vr (as := [.int (1)]) kv_Model_refuses ml_Model_153 rfl mw_f (m_W_refuses1 (s := s) hmn) rfl (Nat.le_of_ble_eq_true rfl) rfl d_Model_question_34 rfl ?_
            refine g_if_eq (tgt := 42) d_Model_question_37 (by decide) (fun c_37 => absurd c_37 (by decide)) (fun c_37 => ?_)
            refine g_iconst (v := 0) d_Model_question_40 (by decide) ?_
            refine g_iret rfl d_Model_question_41 ?_
            have e : rQuestion s q w = (0, (wF s 0 (1))) := by first | (simp only [rQuestion, c_5, c_9, c_17, c_21, c_26, not_true_eq_false, not_false_eq_true, and_true, true_and, and_false, false_and, and_self, or_true, true_or, or_false, false_or, or_self, if_true, if_false, ite_true, ite_false]; done) | (simp [rQuestion, c_5, c_9, c_17, c_21, c_26]; done) | (simp_all [rQuestion]; done)
            rw [e]
            exact ⟨rfl, rfl⟩
def rAbout (s : mS) (w : Int32) : Int32 × mS := if w < 0 ∨ ¬ w ≤ 6 then (0, wF s 0 1) else (if ¬ 3 ≤ w then (if w = 0 then s.1 16 else if w = 1 then s.1 14 else s.1 15) else if s.1 19 = 0 then 0 else if w = 3 then s.1 20 else if w = 4 then s.1 21 else if w = 5 then s.1 22 else s.1 23, wF s 0 0)
set_option maxHeartbeats 400000 in
set_option maxRecDepth 100000 in
theorem m_W_about (hmn : m < n) (w : Int32) : GM E Y_Model_about (d + 1) [.ref m, .int w] (mW E G m n s) (rIs (some (.int (rAbout s w).1)) (mW E G m n (rAbout s w).2)) := by
  refine g_entry (by decide) (by simp [Value.category]) (Nat.le_of_ble_eq_true rfl) ?_
  refine g_aload_n d_Model_about_0 rfl ?_
  refine g_iload_n d_Model_about_1 rfl ?_
  refine g_if_lt (tgt := 11) d_Model_about_2 (by decide) (fun c_2 => ?_) (fun c_2 => ?_)
  · refine g_iconst (v := 1) d_Model_about_11 (by decide) ?_
    refine g_goto (tgt := 16) d_Model_about_12 (by decide) ?_
    refine c_Vr (as := [.int (1)]) kv_Model_refuses ml_Model_153 rfl mw_f (m_W_refuses1 (s := s) hmn) rfl (Nat.le_of_ble_eq_true rfl) rfl d_Model_about_16 rfl ?_
    refine g_if_eq (tgt := 24) d_Model_about_19 (by decide) (fun c_19 => absurd c_19 (by decide)) (fun c_19 => ?_)
    refine g_iconst (v := 0) d_Model_about_22 (by decide) ?_
    refine g_iret rfl d_Model_about_23 ?_
    have e : rAbout s w = (0, (wF s 0 (1))) := by first | (simp only [rAbout, c_2, not_true_eq_false, not_false_eq_true, and_true, true_and, and_false, false_and, and_self, or_true, true_or, or_false, false_or, or_self, if_true, if_false, ite_true, ite_false]; done) | (simp [rAbout, c_2]; done) | (simp_all [rAbout]; done)
    rw [e]
    exact ⟨rfl, rfl⟩
  · refine g_iload_n d_Model_about_5 rfl ?_
    refine g_bipush (v := 6) d_Model_about_6 (by decide) ?_
    refine g_icmp_le (tgt := 15) d_Model_about_8 (by decide) (fun c_8 => ?_) (fun c_8 => ?_)
    · refine g_iconst (v := 0) d_Model_about_15 (by decide) ?_
      refine c_Vr (as := [.int (0)]) kv_Model_refuses ml_Model_153 rfl mw_f (m_W_refuses0 (s := s) hmn) rfl (Nat.le_of_ble_eq_true rfl) rfl d_Model_about_16 rfl ?_
      refine g_if_eq (tgt := 24) d_Model_about_19 (by decide) (fun c_19 => ?_) (fun c_19 => absurd c_19 (by decide))
      refine g_iload_n d_Model_about_24 rfl ?_
      refine g_iconst (v := 3) d_Model_about_25 (by decide) ?_
      refine g_icmp_ge (tgt := 57) d_Model_about_26 (by decide) (fun c_26 => ?_) (fun c_26 => ?_)
      · refine g_aload_n d_Model_about_57 rfl ?_
        refine w_get (k := 19) (x := .int (s.1 19)) fl_Model_184 (by decide) rfl d_Model_about_58 ?_
        refine g_if_ne (tgt := 68) d_Model_about_61 (by decide) (fun c_61 => ?_) (fun c_61 => ?_)
        · refine g_iload_n d_Model_about_68 rfl ?_
          refine g_iconst (v := 3) d_Model_about_69 (by decide) ?_
          refine g_icmp_ne (tgt := 80) d_Model_about_70 (by decide) (fun c_70 => ?_) (fun c_70 => ?_)
          · refine g_iload_n d_Model_about_80 rfl ?_
            refine g_iconst (v := 4) d_Model_about_81 (by decide) ?_
            refine g_icmp_ne (tgt := 92) d_Model_about_82 (by decide) (fun c_82 => ?_) (fun c_82 => ?_)
            · refine g_iload_n d_Model_about_92 rfl ?_
              refine g_iconst (v := 5) d_Model_about_93 (by decide) ?_
              refine g_icmp_ne (tgt := 104) d_Model_about_94 (by decide) (fun c_94 => ?_) (fun c_94 => ?_)
              · refine g_aload_n d_Model_about_104 rfl ?_
                refine w_get (k := 23) (x := .int (s.1 23)) fl_Model_234 (by decide) rfl d_Model_about_105 ?_
                refine g_iret rfl d_Model_about_108 ?_
                have e : rAbout s w = (s.1 23, (wF s 0 (0))) := by first | (simp only [rAbout, c_2, c_8, c_26, c_61, c_70, c_82, c_94, not_true_eq_false, not_false_eq_true, and_true, true_and, and_false, false_and, and_self, or_true, true_or, or_false, false_or, or_self, if_true, if_false, ite_true, ite_false]; done) | (simp [rAbout, c_2, c_8, c_26, c_61, c_70, c_82, c_94]; done) | (simp_all [rAbout]; done)
                rw [e]
                exact ⟨rfl, rfl⟩
              · refine g_aload_n d_Model_about_97 rfl ?_
                refine w_get (k := 22) (x := .int (s.1 22)) fl_Model_231 (by decide) rfl d_Model_about_98 ?_
                refine g_goto (tgt := 108) d_Model_about_101 (by decide) ?_
                refine g_iret rfl d_Model_about_108 ?_
                have e : rAbout s w = (s.1 22, (wF s 0 (0))) := by first | (simp only [rAbout, c_2, c_8, c_26, c_61, c_70, c_82, c_94, not_true_eq_false, not_false_eq_true, and_true, true_and, and_false, false_and, and_self, or_true, true_or, or_false, false_or, or_self, if_true, if_false, ite_true, ite_false]; done) | (simp [rAbout, c_2, c_8, c_26, c_61, c_70, c_82, c_94]; done) | (simp_all [rAbout]; done)
                rw [e]
                exact ⟨rfl, rfl⟩
            · refine g_aload_n d_Model_about_85 rfl ?_
              refine w_get (k := 21) (x := .int (s.1 21)) fl_Model_228 (by decide) rfl d_Model_about_86 ?_
              refine g_goto (tgt := 108) d_Model_about_89 (by decide) ?_
              refine g_iret rfl d_Model_about_108 ?_
              have e : rAbout s w = (s.1 21, (wF s 0 (0))) := by first | (simp only [rAbout, c_2, c_8, c_26, c_61, c_70, c_82, not_true_eq_false, not_false_eq_true, and_true, true_and, and_false, false_and, and_self, or_true, true_or, or_false, false_or, or_self, if_true, if_false, ite_true, ite_false]; done) | (simp [rAbout, c_2, c_8, c_26, c_61, c_70, c_82]; done) | (simp_all [rAbout]; done)
              rw [e]
              exact ⟨rfl, rfl⟩
          · refine g_aload_n d_Model_about_73 rfl ?_
            refine w_get (k := 20) (x := .int (s.1 20)) fl_Model_225 (by decide) rfl d_Model_about_74 ?_
            refine g_goto (tgt := 108) d_Model_about_77 (by decide) ?_
            refine g_iret rfl d_Model_about_108 ?_
            have e : rAbout s w = (s.1 20, (wF s 0 (0))) := by first | (simp only [rAbout, c_2, c_8, c_26, c_61, c_70, not_true_eq_false, not_false_eq_true, and_true, true_and, and_false, false_and, and_self, or_true, true_or, or_false, false_or, or_self, if_true, if_false, ite_true, ite_false]; done) | (simp [rAbout, c_2, c_8, c_26, c_61, c_70]; done) | (simp_all [rAbout]; done)
            rw [e]
            exact ⟨rfl, rfl⟩
        · refine g_iconst (v := 0) d_Model_about_64 (by decide) ?_
          refine g_goto (tgt := 108) d_Model_about_65 (by decide) ?_
          refine g_iret rfl d_Model_about_108 ?_
          have e : rAbout s w = (0, (wF s 0 (0))) := by first | (simp only [rAbout, c_2, c_8, c_26, c_61, not_true_eq_false, not_false_eq_true, and_true, true_and, and_false, false_and, and_self, or_true, true_or, or_false, false_or, or_self, if_true, if_false, ite_true, ite_false]; done) | (simp [rAbout, c_2, c_8, c_26, c_61]; done) | (simp_all [rAbout]; done)
          rw [e]
          exact ⟨rfl, rfl⟩
      · refine g_iload_n d_Model_about_29 rfl ?_
        refine g_if_ne (tgt := 40) d_Model_about_30 (by decide) (fun c_30 => ?_) (fun c_30 => ?_)
        · refine g_iload_n d_Model_about_40 rfl ?_
          refine g_iconst (v := 1) d_Model_about_41 (by decide) ?_
          refine g_icmp_ne (tgt := 52) d_Model_about_42 (by decide) (fun c_42 => ?_) (fun c_42 => ?_)
          · refine g_aload_n d_Model_about_52 rfl ?_
            refine w_get (k := 15) (x := .int (s.1 15)) fl_Model_163 (by decide) rfl d_Model_about_53 ?_
            refine g_iret rfl d_Model_about_56 ?_
            have e : rAbout s w = (s.1 15, (wF s 0 (0))) := by first | (simp only [rAbout, c_2, c_8, c_26, c_30, c_42, not_true_eq_false, not_false_eq_true, and_true, true_and, and_false, false_and, and_self, or_true, true_or, or_false, false_or, or_self, if_true, if_false, ite_true, ite_false]; done) | (simp [rAbout, c_2, c_8, c_26, c_30, c_42]; done) | (simp_all [rAbout]; done)
            rw [e]
            exact ⟨rfl, rfl⟩
          · refine g_aload_n d_Model_about_45 rfl ?_
            refine w_get (k := 14) (x := .int (s.1 14)) fl_Model_166 (by decide) rfl d_Model_about_46 ?_
            refine g_goto (tgt := 56) d_Model_about_49 (by decide) ?_
            refine g_iret rfl d_Model_about_56 ?_
            have e : rAbout s w = (s.1 14, (wF s 0 (0))) := by first | (simp only [rAbout, c_2, c_8, c_26, c_30, c_42, not_true_eq_false, not_false_eq_true, and_true, true_and, and_false, false_and, and_self, or_true, true_or, or_false, false_or, or_self, if_true, if_false, ite_true, ite_false]; done) | (simp [rAbout, c_2, c_8, c_26, c_30, c_42]; done) | (simp_all [rAbout]; done)
            rw [e]
            exact ⟨rfl, rfl⟩
        · refine g_aload_n d_Model_about_33 rfl ?_
          refine w_get (k := 16) (x := .int (s.1 16)) fl_Model_181 (by decide) rfl d_Model_about_34 ?_
          refine g_goto (tgt := 56) d_Model_about_37 (by decide) ?_
          refine g_iret rfl d_Model_about_56 ?_
          have e : rAbout s w = (s.1 16, (wF s 0 (0))) := by first | (simp only [rAbout, c_2, c_8, c_26, c_30, not_true_eq_false, not_false_eq_true, and_true, true_and, and_false, false_and, and_self, or_true, true_or, or_false, false_or, or_self, if_true, if_false, ite_true, ite_false]; done) | (simp [rAbout, c_2, c_8, c_26, c_30]; done) | (simp_all [rAbout]; done)
          rw [e]
          exact ⟨rfl, rfl⟩
    · refine g_iconst (v := 1) d_Model_about_11 (by decide) ?_
      refine g_goto (tgt := 16) d_Model_about_12 (by decide) ?_
      refine c_Vr (as := [.int (1)]) kv_Model_refuses ml_Model_153 rfl mw_f (m_W_refuses1 (s := s) hmn) rfl (Nat.le_of_ble_eq_true rfl) rfl d_Model_about_16 rfl ?_
      refine g_if_eq (tgt := 24) d_Model_about_19 (by decide) (fun c_19 => absurd c_19 (by decide)) (fun c_19 => ?_)
      refine g_iconst (v := 0) d_Model_about_22 (by decide) ?_
      refine g_iret rfl d_Model_about_23 ?_
      have e : rAbout s w = (0, (wF s 0 (1))) := by first | (simp only [rAbout, c_2, c_8, not_true_eq_false, not_false_eq_true, and_true, true_and, and_false, false_and, and_self, or_true, true_or, or_false, false_or, or_self, if_true, if_false, ite_true, ite_false]; done) | (simp [rAbout, c_2, c_8]; done) | (simp_all [rAbout]; done)
      rw [e]
      exact ⟨rfl, rfl⟩
abbrev rPl (s : mS) (v : Int32) (k : Nat) : Int32 := if v = 0 then s.2 9 k else s.2 10 k
def rPop (s : mS) (v : Int32) : Int32 × mS := if rHt s v = 0 then (0, wF s 0 0) else if v = 0 then (s.2 7 (tn (s.2 9 (tn (s.1 14) - 1))), wF (wF s 0 0) 14 (s.1 14 - 1)) else (s.2 7 (tn (s.2 10 (tn (s.1 15) - 1))), wF (wF s 0 0) 15 (s.1 15 - 1))
set_option maxHeartbeats 400000 in
set_option maxRecDepth 100000 in
theorem m_W_pop (hmn : m < n) {v : Int32} (h14 : ¬ rHt s v < 0) (b14 : rHt s v ≤ 40) (hp : ∀ k, k < tn (rHt s v) → ¬ rPl s v k < 0 ∧ tn (rPl s v k) < 700) : GM E Y_Model_pop (d + 1) [.ref m, .int v] (mW E G m n s) (rIs (some (.int (rPop s v).1)) (mW E G m n (rPop s v).2)) := by
  refine g_entry (by decide) (by simp [Value.category]) (Nat.le_of_ble_eq_true rfl) ?_
  refine g_aload_n d_Model_pop_0 rfl ?_
  refine g_iconst (v := 0) d_Model_pop_1 (by decide) ?_
  refine w_put (k := 0) fl_Model_138 (by decide) rfl rfl rfl rfl (Nat.le_of_ble_eq_true rfl) d_Model_pop_2 ?_
  refine g_aload_n d_Model_pop_5 rfl ?_
  refine g_iload_n d_Model_pop_6 rfl ?_
  refine c_Vr (as := [.int (v)]) kv_Model_height ml_Model_177 rfl mw_f (m_W_height hmn (s := (wF s 0 (0))) v) rfl (Nat.le_of_ble_eq_true rfl) rfl d_Model_pop_7 rfl ?_
  refine g_if_ne (tgt := 15) d_Model_pop_10 (by decide) (fun c_10 => ?_) (fun c_10 => ?_)
  · replace c_10 : ¬ rHt s v = 0 := c_10
    refine g_iload_n d_Model_pop_15 rfl ?_
    refine g_if_eq (tgt := 44) d_Model_pop_16 (by decide) (fun c_16 => ?_) (fun c_16 => ?_)
    · simp only [rHt, rPl, c_16, if_true] at h14 b14 hp c_10
      refine g_aload_n d_Model_pop_44 rfl ?_
      refine g_dup d_Model_pop_45 rfl ?_
      refine w_get (k := 14) (x := .int (s.1 14)) fl_Model_166 (by decide) rfl d_Model_pop_46 ?_
      refine g_iconst (v := 1) d_Model_pop_49 (by decide) ?_
      refine g_isub d_Model_pop_50 ?_
      refine w_put (k := 14) fl_Model_166 (by decide) rfl rfl rfl rfl (Nat.le_of_ble_eq_true rfl) d_Model_pop_51 ?_
      refine g_aload_n d_Model_pop_54 rfl ?_
      refine w_get (k := 10) fl_Model_31 (by decide) rfl d_Model_pop_55 ?_
      refine g_aload_n d_Model_pop_58 rfl ?_
      refine w_get (k := 12) fl_Model_37 (by decide) rfl d_Model_pop_59 ?_
      refine g_aload_n d_Model_pop_62 rfl ?_
      refine w_get (k := 14) (x := .int ((s.1 14) - (1))) fl_Model_166 (by decide) rfl d_Model_pop_63 ?_
      refine w_ald (j := 9) (q := tn (s.1 14) - 1) (x := s.2 9 (tn (s.1 14) - 1)) hmn (by decide) (by decide) (tn_s1 h14 c_10).1 (by show _ < 40; have := (tn_s1 h14 c_10).2; have := tn_ly h14 b14 (k := 40) (by decide); omega) rfl d_Model_pop_66 ?_
      refine w_ald (j := 7) (q := tn (s.2 9 (tn (s.1 14) - 1))) (x := s.2 7 (tn (s.2 9 (tn (s.1 14) - 1)))) hmn (by decide) (by decide) (tn_hi (hp _ (tn_s1 h14 c_10).2).1) (hp _ (tn_s1 h14 c_10).2).2 rfl d_Model_pop_67 ?_
      refine g_iret rfl d_Model_pop_68 ?_
      have e : rPop s v = (s.2 7 (tn (s.2 9 (tn (s.1 14) - 1))), (wF (wF s 0 (0)) 14 ((s.1 14) - (1)))) := by first | (simp only [rPop, rHt, c_10, c_16, not_true_eq_false, not_false_eq_true, and_true, true_and, and_false, false_and, and_self, or_true, true_or, or_false, false_or, or_self, if_true, if_false, ite_true, ite_false]; done) | (simp [rPop, rHt, c_10, c_16]; done) | (simp_all [rPop, rHt]; done)
      rw [e]
      exact ⟨rfl, rfl⟩
    · simp only [rHt, rPl, c_16, if_false] at h14 b14 hp c_10
      refine g_aload_n d_Model_pop_19 rfl ?_
      refine g_dup d_Model_pop_20 rfl ?_
      refine w_get (k := 15) (x := .int (s.1 15)) fl_Model_163 (by decide) rfl d_Model_pop_21 ?_
      refine g_iconst (v := 1) d_Model_pop_24 (by decide) ?_
      refine g_isub d_Model_pop_25 ?_
      refine w_put (k := 15) fl_Model_163 (by decide) rfl rfl rfl rfl (Nat.le_of_ble_eq_true rfl) d_Model_pop_26 ?_
      refine g_aload_n d_Model_pop_29 rfl ?_
      refine w_get (k := 10) fl_Model_31 (by decide) rfl d_Model_pop_30 ?_
      refine g_aload_n d_Model_pop_33 rfl ?_
      refine w_get (k := 13) fl_Model_40 (by decide) rfl d_Model_pop_34 ?_
      refine g_aload_n d_Model_pop_37 rfl ?_
      refine w_get (k := 15) (x := .int ((s.1 15) - (1))) fl_Model_163 (by decide) rfl d_Model_pop_38 ?_
      refine w_ald (j := 10) (q := tn (s.1 15) - 1) (x := s.2 10 (tn (s.1 15) - 1)) hmn (by decide) (by decide) (tn_s1 h14 c_10).1 (by show _ < 40; have := (tn_s1 h14 c_10).2; have := tn_ly h14 b14 (k := 40) (by decide); omega) rfl d_Model_pop_41 ?_
      refine w_ald (j := 7) (q := tn (s.2 10 (tn (s.1 15) - 1))) (x := s.2 7 (tn (s.2 10 (tn (s.1 15) - 1)))) hmn (by decide) (by decide) (tn_hi (hp _ (tn_s1 h14 c_10).2).1) (hp _ (tn_s1 h14 c_10).2).2 rfl d_Model_pop_42 ?_
      refine g_iret rfl d_Model_pop_43 ?_
      have e : rPop s v = (s.2 7 (tn (s.2 10 (tn (s.1 15) - 1))), (wF (wF s 0 (0)) 15 ((s.1 15) - (1)))) := by first | (simp only [rPop, rHt, c_10, c_16, not_true_eq_false, not_false_eq_true, and_true, true_and, and_false, false_and, and_self, or_true, true_or, or_false, false_or, or_self, if_true, if_false, ite_true, ite_false]; done) | (simp [rPop, rHt, c_10, c_16]; done) | (simp_all [rPop, rHt]; done)
      rw [e]
      exact ⟨rfl, rfl⟩
  · replace c_10 : rHt s v = 0 := c_10
    refine g_iconst (v := 0) d_Model_pop_13 (by decide) ?_
    refine g_iret rfl d_Model_pop_14 ?_
    have e : rPop s v = (0, (wF s 0 (0))) := by first | (simp only [rPop, rHt, c_10, not_true_eq_false, not_false_eq_true, and_true, true_and, and_false, false_and, and_self, or_true, true_or, or_false, false_or, or_self, if_true, if_false, ite_true, ite_false]; done) | (simp [rPop, rHt, c_10]; done) | (simp_all [rPop, rHt]; done)
    rw [e]
    exact ⟨rfl, rfl⟩
def rAddCase (s : mS) (g : Int32) : Int32 × mS := if s.1 14 ≤ 0 ∨ 20 ≤ s.1 16 ∨ (¬ s.1 16 = 0 ∧ ¬ s.2 4 (tn (s.2 9 (tn (s.1 14) - 1))) = s.2 4 (tn (s.2 11 0))) then (0, wF s 0 1) else (s.1 16 + 1 - 1, wF (wF (wA (wA (wF (wF s 0 0) 14 (s.1 14 - 1)) 11 (tn (s.1 16)) (s.2 9 (tn (s.1 14) - 1))) 12 (tn (s.1 16)) g) 16 (s.1 16 + 1)) 19 0)
set_option maxHeartbeats 400000 in
set_option maxRecDepth 100000 in
theorem m_W_addCase (hmn : m < n) {g : Int32} (h14 : ¬ s.1 14 < 0) (b14 : s.1 14 ≤ 40) (hp : ∀ k, k < tn (s.1 14) → ¬ s.2 9 k < 0 ∧ tn (s.2 9 k) < 700) (h16 : ¬ s.1 16 < 0) (hc : ¬ s.1 16 = 0 → ¬ s.2 11 0 < 0 ∧ tn (s.2 11 0) < 700) (hg : narrow .boolean (.int g) = .int g) : GM E Y_Model_addCase (d + 1) [.ref m, .int g] (mW E G m n s) (rIs (some (.int (rAddCase s g).1)) (mW E G m n (rAddCase s g).2)) := by
  refine g_entry (by decide) (by simp [Value.category]) (Nat.le_of_ble_eq_true rfl) ?_
  refine g_aload_n d_Model_addCase_0 rfl ?_
  refine w_get (k := 14) (x := .int (s.1 14)) fl_Model_166 (by decide) rfl d_Model_addCase_1 ?_
  refine g_if_le (tgt := 57) d_Model_addCase_4 (by decide) (fun c_4 => ?_) (fun c_4 => ?_)
  · refine g_iconst (v := 0) d_Model_addCase_57 (by decide) ?_
    refine g_istore_n d_Model_addCase_58 (by decide) rfl ?_
    refine g_aload_n d_Model_addCase_59 rfl ?_
    refine g_iload_n d_Model_addCase_60 rfl ?_
    refine g_if_eq (tgt := 68) d_Model_addCase_61 (by decide) (fun c_61 => ?_) (fun c_61 => absurd c_61 (by decide))
    refine g_iconst (v := 1) d_Model_addCase_68 (by decide) ?_
    refine c_Vr (as := [.int (1)]) kv_Model_refuses ml_Model_153 rfl mw_f (m_W_refuses1 (s := s) hmn) rfl (Nat.le_of_ble_eq_true rfl) rfl d_Model_addCase_69 rfl ?_
    refine g_if_eq (tgt := 77) d_Model_addCase_72 (by decide) (fun c_72 => absurd c_72 (by decide)) (fun c_72 => ?_)
    refine g_iconst (v := 0) d_Model_addCase_75 (by decide) ?_
    refine g_iret rfl d_Model_addCase_76 ?_
    have e : rAddCase s g = (0, (wF s 0 (1))) := by first | (simp only [rAddCase, c_4, not_true_eq_false, not_false_eq_true, and_true, true_and, and_false, false_and, and_self, or_true, true_or, or_false, false_or, or_self, if_true, if_false, ite_true, ite_false]; done) | (simp [rAddCase, c_4]; done) | (simp_all [rAddCase]; done)
    rw [e]
    exact ⟨rfl, rfl⟩
  · refine g_aload_n d_Model_addCase_7 rfl ?_
    refine w_get (k := 16) (x := .int (s.1 16)) fl_Model_181 (by decide) rfl d_Model_addCase_8 ?_
    refine g_bipush (v := 20) d_Model_addCase_11 (by decide) ?_
    refine g_icmp_ge (tgt := 57) d_Model_addCase_13 (by decide) (fun c_13 => ?_) (fun c_13 => ?_)
    · refine g_iconst (v := 0) d_Model_addCase_57 (by decide) ?_
      refine g_istore_n d_Model_addCase_58 (by decide) rfl ?_
      refine g_aload_n d_Model_addCase_59 rfl ?_
      refine g_iload_n d_Model_addCase_60 rfl ?_
      refine g_if_eq (tgt := 68) d_Model_addCase_61 (by decide) (fun c_61 => ?_) (fun c_61 => absurd c_61 (by decide))
      refine g_iconst (v := 1) d_Model_addCase_68 (by decide) ?_
      refine c_Vr (as := [.int (1)]) kv_Model_refuses ml_Model_153 rfl mw_f (m_W_refuses1 (s := s) hmn) rfl (Nat.le_of_ble_eq_true rfl) rfl d_Model_addCase_69 rfl ?_
      refine g_if_eq (tgt := 77) d_Model_addCase_72 (by decide) (fun c_72 => absurd c_72 (by decide)) (fun c_72 => ?_)
      refine g_iconst (v := 0) d_Model_addCase_75 (by decide) ?_
      refine g_iret rfl d_Model_addCase_76 ?_
      have e : rAddCase s g = (0, (wF s 0 (1))) := by first | (simp only [rAddCase, c_4, c_13, not_true_eq_false, not_false_eq_true, and_true, true_and, and_false, false_and, and_self, or_true, true_or, or_false, false_or, or_self, if_true, if_false, ite_true, ite_false]; done) | (simp [rAddCase, c_4, c_13]; done) | (simp_all [rAddCase]; done)
      rw [e]
      exact ⟨rfl, rfl⟩
    · refine g_aload_n d_Model_addCase_16 rfl ?_
      refine w_get (k := 16) (x := .int (s.1 16)) fl_Model_181 (by decide) rfl d_Model_addCase_17 ?_
      refine g_if_eq (tgt := 53) d_Model_addCase_20 (by decide) (fun c_20 => ?_) (fun c_20 => ?_)
      · refine g_iconst (v := 1) d_Model_addCase_53 (by decide) ?_
        refine g_goto (tgt := 58) d_Model_addCase_54 (by decide) ?_
        refine g_istore_n d_Model_addCase_58 (by decide) rfl ?_
        refine g_aload_n d_Model_addCase_59 rfl ?_
        refine g_iload_n d_Model_addCase_60 rfl ?_
        refine g_if_eq (tgt := 68) d_Model_addCase_61 (by decide) (fun c_61 => absurd c_61 (by decide)) (fun c_61 => ?_)
        refine g_iconst (v := 0) d_Model_addCase_64 (by decide) ?_
        refine g_goto (tgt := 69) d_Model_addCase_65 (by decide) ?_
        refine c_Vr (as := [.int (0)]) kv_Model_refuses ml_Model_153 rfl mw_f (m_W_refuses0 (s := s) hmn) rfl (Nat.le_of_ble_eq_true rfl) rfl d_Model_addCase_69 rfl ?_
        refine g_if_eq (tgt := 77) d_Model_addCase_72 (by decide) (fun c_72 => ?_) (fun c_72 => absurd c_72 (by decide))
        refine g_aload_n d_Model_addCase_77 rfl ?_
        refine g_dup d_Model_addCase_78 rfl ?_
        refine w_get (k := 14) (x := .int (s.1 14)) fl_Model_166 (by decide) rfl d_Model_addCase_79 ?_
        refine g_iconst (v := 1) d_Model_addCase_82 (by decide) ?_
        refine g_isub d_Model_addCase_83 ?_
        refine w_put (k := 14) fl_Model_166 (by decide) rfl rfl rfl rfl (Nat.le_of_ble_eq_true rfl) d_Model_addCase_84 ?_
        refine g_aload_n d_Model_addCase_87 rfl ?_
        refine w_get (k := 17) fl_Model_43 (by decide) rfl d_Model_addCase_88 ?_
        refine g_aload_n d_Model_addCase_91 rfl ?_
        refine w_get (k := 16) (x := .int (s.1 16)) fl_Model_181 (by decide) rfl d_Model_addCase_92 ?_
        refine g_aload_n d_Model_addCase_95 rfl ?_
        refine w_get (k := 12) fl_Model_37 (by decide) rfl d_Model_addCase_96 ?_
        refine g_aload_n d_Model_addCase_99 rfl ?_
        refine w_get (k := 14) (x := .int ((s.1 14) - (1))) fl_Model_166 (by decide) rfl d_Model_addCase_100 ?_
        refine w_ald (j := 9) (q := tn (s.1 14) - 1) (x := s.2 9 (tn (s.1 14) - 1)) hmn (by decide) (by decide) (tn_s1 h14 (gt0_ne c_4)).1 (by show _ < 40; have := (tn_s1 h14 (gt0_ne c_4)).2; have := tn_ly h14 b14 (k := 40) (by decide); omega) rfl d_Model_addCase_103 ?_
        refine w_ast (j := 11) (q := tn (s.1 16)) hmn (by decide) (by decide) (tn_hi h16) (tn_lt h16 c_13 (by decide)) d_Model_addCase_104 ?_
        refine g_aload_n d_Model_addCase_105 rfl ?_
        refine w_get (k := 18) fl_Model_46 (by decide) rfl d_Model_addCase_106 ?_
        refine g_aload_n d_Model_addCase_109 rfl ?_
        refine w_get (k := 16) (x := .int (s.1 16)) fl_Model_181 (by decide) rfl d_Model_addCase_110 ?_
        refine g_iload_n d_Model_addCase_113 rfl ?_
        refine w_zst (j := 12) (q := tn (s.1 16)) hmn (by decide) (by decide) (tn_hi h16) (tn_lt h16 c_13 (by decide)) hg d_Model_addCase_114 ?_
        refine g_aload_n d_Model_addCase_115 rfl ?_
        refine g_dup d_Model_addCase_116 rfl ?_
        refine w_get (k := 16) (x := .int (s.1 16)) fl_Model_181 (by decide) rfl d_Model_addCase_117 ?_
        refine g_iconst (v := 1) d_Model_addCase_120 (by decide) ?_
        refine g_iadd d_Model_addCase_121 ?_
        refine w_put (k := 16) fl_Model_181 (by decide) rfl rfl rfl rfl (Nat.le_of_ble_eq_true rfl) d_Model_addCase_122 ?_
        refine g_aload_n d_Model_addCase_125 rfl ?_
        refine g_iconst (v := 0) d_Model_addCase_126 (by decide) ?_
        refine w_put (k := 19) fl_Model_184 (by decide) rfl rfl rfl rfl (Nat.le_of_ble_eq_true rfl) d_Model_addCase_127 ?_
        refine g_aload_n d_Model_addCase_130 rfl ?_
        refine w_get (k := 16) (x := .int ((s.1 16) + (1))) fl_Model_181 (by decide) rfl d_Model_addCase_131 ?_
        refine g_iconst (v := 1) d_Model_addCase_134 (by decide) ?_
        refine g_isub d_Model_addCase_135 ?_
        refine g_iret rfl d_Model_addCase_136 ?_
        have e : rAddCase s g = (((s.1 16) + (1)) - (1), (wF (wF (wA (wA (wF (wF s 0 (0)) 14 ((s.1 14) - (1))) 11 (tn (s.1 16)) (s.2 9 (tn (s.1 14) - 1))) 12 (tn (s.1 16)) (g)) 16 ((s.1 16) + (1))) 19 (0))) := by first | (simp only [rAddCase, c_4, c_13, c_20, not_true_eq_false, not_false_eq_true, and_true, true_and, and_false, false_and, and_self, or_true, true_or, or_false, false_or, or_self, if_true, if_false, ite_true, ite_false]; done) | (simp [rAddCase, c_4, c_13, c_20]; done) | (simp_all [rAddCase]; done)
        rw [e]
        exact ⟨rfl, rfl⟩
      · refine g_aload_n d_Model_addCase_23 rfl ?_
        refine w_get (k := 7) fl_Model_22 (by decide) rfl d_Model_addCase_24 ?_
        refine g_aload_n d_Model_addCase_27 rfl ?_
        refine w_get (k := 12) fl_Model_37 (by decide) rfl d_Model_addCase_28 ?_
        refine g_aload_n d_Model_addCase_31 rfl ?_
        refine w_get (k := 14) (x := .int (s.1 14)) fl_Model_166 (by decide) rfl d_Model_addCase_32 ?_
        refine g_iconst (v := 1) d_Model_addCase_35 (by decide) ?_
        refine g_isub d_Model_addCase_36 ?_
        refine w_ald (j := 9) (q := tn (s.1 14) - 1) (x := s.2 9 (tn (s.1 14) - 1)) hmn (by decide) (by decide) (tn_s1 h14 (gt0_ne c_4)).1 (by show _ < 40; have := (tn_s1 h14 (gt0_ne c_4)).2; have := tn_ly h14 b14 (k := 40) (by decide); omega) rfl d_Model_addCase_37 ?_
        refine w_ald (j := 4) (q := tn (s.2 9 (tn (s.1 14) - 1))) (x := s.2 4 (tn (s.2 9 (tn (s.1 14) - 1)))) hmn (by decide) (by decide) (tn_hi (hp _ (tn_s1 h14 (gt0_ne c_4)).2).1) (hp _ (tn_s1 h14 (gt0_ne c_4)).2).2 rfl d_Model_addCase_38 ?_
        refine g_aload_n d_Model_addCase_39 rfl ?_
        refine w_get (k := 7) fl_Model_22 (by decide) rfl d_Model_addCase_40 ?_
        refine g_aload_n d_Model_addCase_43 rfl ?_
        refine w_get (k := 17) fl_Model_43 (by decide) rfl d_Model_addCase_44 ?_
        refine g_iconst (v := 0) d_Model_addCase_47 (by decide) ?_
        refine w_ald (j := 11) (q := 0) (x := s.2 11 (0)) hmn (by decide) (by decide) (by decide) (by decide) rfl d_Model_addCase_48 ?_
        refine w_ald (j := 4) (q := tn (s.2 11 0)) (x := s.2 4 (tn (s.2 11 0))) hmn (by decide) (by decide) (tn_hi (hc c_20).1) (hc c_20).2 rfl d_Model_addCase_49 ?_
        refine g_icmp_ne (tgt := 57) d_Model_addCase_50 (by decide) (fun c_50 => ?_) (fun c_50 => ?_)
        · refine g_iconst (v := 0) d_Model_addCase_57 (by decide) ?_
          refine g_istore_n d_Model_addCase_58 (by decide) rfl ?_
          refine g_aload_n d_Model_addCase_59 rfl ?_
          refine g_iload_n d_Model_addCase_60 rfl ?_
          refine g_if_eq (tgt := 68) d_Model_addCase_61 (by decide) (fun c_61 => ?_) (fun c_61 => absurd c_61 (by decide))
          refine g_iconst (v := 1) d_Model_addCase_68 (by decide) ?_
          refine c_Vr (as := [.int (1)]) kv_Model_refuses ml_Model_153 rfl mw_f (m_W_refuses1 (s := s) hmn) rfl (Nat.le_of_ble_eq_true rfl) rfl d_Model_addCase_69 rfl ?_
          refine g_if_eq (tgt := 77) d_Model_addCase_72 (by decide) (fun c_72 => absurd c_72 (by decide)) (fun c_72 => ?_)
          refine g_iconst (v := 0) d_Model_addCase_75 (by decide) ?_
          refine g_iret rfl d_Model_addCase_76 ?_
          have e : rAddCase s g = (0, (wF s 0 (1))) := by first | (simp only [rAddCase, c_4, c_13, c_20, c_50, not_true_eq_false, not_false_eq_true, and_true, true_and, and_false, false_and, and_self, or_true, true_or, or_false, false_or, or_self, if_true, if_false, ite_true, ite_false]; done) | (simp [rAddCase, c_4, c_13, c_20, c_50]; done) | (simp_all [rAddCase]; done)
          rw [e]
          exact ⟨rfl, rfl⟩
        · refine g_iconst (v := 1) d_Model_addCase_53 (by decide) ?_
          refine g_goto (tgt := 58) d_Model_addCase_54 (by decide) ?_
          refine g_istore_n d_Model_addCase_58 (by decide) rfl ?_
          refine g_aload_n d_Model_addCase_59 rfl ?_
          refine g_iload_n d_Model_addCase_60 rfl ?_
          refine g_if_eq (tgt := 68) d_Model_addCase_61 (by decide) (fun c_61 => absurd c_61 (by decide)) (fun c_61 => ?_)
          refine g_iconst (v := 0) d_Model_addCase_64 (by decide) ?_
          refine g_goto (tgt := 69) d_Model_addCase_65 (by decide) ?_
          refine c_Vr (as := [.int (0)]) kv_Model_refuses ml_Model_153 rfl mw_f (m_W_refuses0 (s := s) hmn) rfl (Nat.le_of_ble_eq_true rfl) rfl d_Model_addCase_69 rfl ?_
          refine g_if_eq (tgt := 77) d_Model_addCase_72 (by decide) (fun c_72 => ?_) (fun c_72 => absurd c_72 (by decide))
          refine g_aload_n d_Model_addCase_77 rfl ?_
          refine g_dup d_Model_addCase_78 rfl ?_
          refine w_get (k := 14) (x := .int (s.1 14)) fl_Model_166 (by decide) rfl d_Model_addCase_79 ?_
          refine g_iconst (v := 1) d_Model_addCase_82 (by decide) ?_
          refine g_isub d_Model_addCase_83 ?_
          refine w_put (k := 14) fl_Model_166 (by decide) rfl rfl rfl rfl (Nat.le_of_ble_eq_true rfl) d_Model_addCase_84 ?_
          refine g_aload_n d_Model_addCase_87 rfl ?_
          refine w_get (k := 17) fl_Model_43 (by decide) rfl d_Model_addCase_88 ?_
          refine g_aload_n d_Model_addCase_91 rfl ?_
          refine w_get (k := 16) (x := .int (s.1 16)) fl_Model_181 (by decide) rfl d_Model_addCase_92 ?_
          refine g_aload_n d_Model_addCase_95 rfl ?_
          refine w_get (k := 12) fl_Model_37 (by decide) rfl d_Model_addCase_96 ?_
          refine g_aload_n d_Model_addCase_99 rfl ?_
          refine w_get (k := 14) (x := .int ((s.1 14) - (1))) fl_Model_166 (by decide) rfl d_Model_addCase_100 ?_
          refine w_ald (j := 9) (q := tn (s.1 14) - 1) (x := s.2 9 (tn (s.1 14) - 1)) hmn (by decide) (by decide) (tn_s1 h14 (gt0_ne c_4)).1 (by show _ < 40; have := (tn_s1 h14 (gt0_ne c_4)).2; have := tn_ly h14 b14 (k := 40) (by decide); omega) rfl d_Model_addCase_103 ?_
          refine w_ast (j := 11) (q := tn (s.1 16)) hmn (by decide) (by decide) (tn_hi h16) (tn_lt h16 c_13 (by decide)) d_Model_addCase_104 ?_
          refine g_aload_n d_Model_addCase_105 rfl ?_
          refine w_get (k := 18) fl_Model_46 (by decide) rfl d_Model_addCase_106 ?_
          refine g_aload_n d_Model_addCase_109 rfl ?_
          refine w_get (k := 16) (x := .int (s.1 16)) fl_Model_181 (by decide) rfl d_Model_addCase_110 ?_
          refine g_iload_n d_Model_addCase_113 rfl ?_
          refine w_zst (j := 12) (q := tn (s.1 16)) hmn (by decide) (by decide) (tn_hi h16) (tn_lt h16 c_13 (by decide)) hg d_Model_addCase_114 ?_
          refine g_aload_n d_Model_addCase_115 rfl ?_
          refine g_dup d_Model_addCase_116 rfl ?_
          refine w_get (k := 16) (x := .int (s.1 16)) fl_Model_181 (by decide) rfl d_Model_addCase_117 ?_
          refine g_iconst (v := 1) d_Model_addCase_120 (by decide) ?_
          refine g_iadd d_Model_addCase_121 ?_
          refine w_put (k := 16) fl_Model_181 (by decide) rfl rfl rfl rfl (Nat.le_of_ble_eq_true rfl) d_Model_addCase_122 ?_
          refine g_aload_n d_Model_addCase_125 rfl ?_
          refine g_iconst (v := 0) d_Model_addCase_126 (by decide) ?_
          refine w_put (k := 19) fl_Model_184 (by decide) rfl rfl rfl rfl (Nat.le_of_ble_eq_true rfl) d_Model_addCase_127 ?_
          refine g_aload_n d_Model_addCase_130 rfl ?_
          refine w_get (k := 16) (x := .int ((s.1 16) + (1))) fl_Model_181 (by decide) rfl d_Model_addCase_131 ?_
          refine g_iconst (v := 1) d_Model_addCase_134 (by decide) ?_
          refine g_isub d_Model_addCase_135 ?_
          refine g_iret rfl d_Model_addCase_136 ?_
          have e : rAddCase s g = (((s.1 16) + (1)) - (1), (wF (wF (wA (wA (wF (wF s 0 (0)) 14 ((s.1 14) - (1))) 11 (tn (s.1 16)) (s.2 9 (tn (s.1 14) - 1))) 12 (tn (s.1 16)) (g)) 16 ((s.1 16) + (1))) 19 (0))) := by first | (simp only [rAddCase, c_4, c_13, c_20, c_50, not_true_eq_false, not_false_eq_true, and_true, true_and, and_false, false_and, and_self, or_true, true_or, or_false, false_or, or_self, if_true, if_false, ite_true, ite_false]; done) | (simp [rAddCase, c_4, c_13, c_20, c_50]; done) | (simp_all [rAddCase]; done)
          rw [e]
          exact ⟨rfl, rfl⟩
def rAt (t c : Int32) : Nat := 8 * tn t + tn c
def rArgument (s : mS) (t c y : Int32) : Int32 × mS := if ¬ (rIsM s t c ∧ ¬ y < 0 ∧ ¬ 16 ≤ y) then (0, wF s 0 1) else if ¬ s.1 4 = 0 ∨ s.2 1 (rAt t c) = 4 then (0, wF s 0 2) else (s.2 1 (rAt t c) + 1, wA (wA (wF s 0 0) 2 (4 * rAt t c + tn (s.2 1 (rAt t c))) y) 1 (rAt t c) (s.2 1 (rAt t c) + 1))
theorem rAt_hi {t c : Int32} (h1 : ¬ t < 0) (h2 : ¬ 16 ≤ t) (h3 : ¬ c < 0) (h4 : tn c < 8) : (8 * t + c).toInt = (rAt t c : Int) ∧ rAt t c < 128 := by
  have a := tn_hi h1
  have b := tn_lt h1 h2 (n := 16) (by decide)
  exact ⟨add_hi (mul_hi i8 a (by omega)) (tn_hi h3) (by omega), by unfold rAt; omega⟩
theorem rM_c {s : mS} {t c : Int32} (h : rIsM s t c) (ht : ∀ k, k < 16 → s.2 0 k ≤ 9) : tn c < 8 := by
  have a := tn_hi h.2.1
  have b := tn_lt h.1.1 h.1.2.1 (n := 16) (by decide)
  have p := tn_hi (gt0_nl h.1.2.2)
  have q := tn_ly (gt0_nl h.1.2.2) (ht _ b) (k := 9) (by decide)
  have z := (tn_s1 (gt0_nl h.1.2.2) (gt0_ne h.1.2.2))
  have e := tn_lt h.2.1 h.2.2 z.1
  omega
set_option maxHeartbeats 400000 in
set_option maxRecDepth 100000 in
theorem m_W_argument (hmn : m < n) (ht : ∀ k, k < 16 → s.2 0 k ≤ 9) (hk : ∀ k, k < 128 → ¬ s.2 1 k < 0 ∧ s.2 1 k ≤ 4) (t c y : Int32) : GM E Y_Model_argument (d + 2) [.ref m, .int t, .int c, .int y] (mW E G m n s) (rIs (some (.int (rArgument s t c y).1)) (mW E G m n (rArgument s t c y).2)) := by
  refine g_entry (by decide) (by simp [Value.category]) (Nat.le_of_ble_eq_true rfl) ?_
  refine g_aload_n d_Model_argument_0 rfl ?_
  refine g_iload_n d_Model_argument_1 rfl ?_
  refine g_iload_n d_Model_argument_2 rfl ?_
  refine c_Vr (as := [.int (t), .int (c)]) kv_Model_isMaker ml_Model_156 rfl mw_f (m_W_isMaker hmn (s := s) t c) rfl (Nat.le_of_ble_eq_true rfl) rfl d_Model_argument_3 rfl ?_
  refine g_if_eq (tgt := 23) d_Model_argument_6 (by decide) (fun c_6 => ?_) (fun c_6 => ?_)
  · have c_6 := b32_f c_6
    refine g_iconst (v := 0) d_Model_argument_23 (by decide) ?_
    refine g_istore d_Model_argument_24 (by decide) rfl ?_
    refine g_aload_n d_Model_argument_26 rfl ?_
    refine g_iload d_Model_argument_27 rfl ?_
    refine g_if_ne (tgt := 36) d_Model_argument_29 (by decide) (fun c_29 => absurd c_29 (by decide)) (fun c_29 => ?_)
    refine g_iconst (v := 1) d_Model_argument_32 (by decide) ?_
    refine g_goto (tgt := 63) d_Model_argument_33 (by decide) ?_
    refine c_Vr (as := [.int (1)]) kv_Model_refuses ml_Model_153 rfl mw_f (m_W_refuses1 (s := s) hmn) rfl (Nat.le_of_ble_eq_true rfl) rfl d_Model_argument_63 rfl ?_
    refine g_if_eq (tgt := 71) d_Model_argument_66 (by decide) (fun c_66 => absurd c_66 (by decide)) (fun c_66 => ?_)
    refine g_iconst (v := 0) d_Model_argument_69 (by decide) ?_
    refine g_iret rfl d_Model_argument_70 ?_
    have e : rArgument s t c y = (0, (wF s 0 (1))) := by first | (simp only [rArgument, wA, wR, wF, upA_at, upd, c_6, not_true_eq_false, not_false_eq_true, and_true, true_and, and_false, false_and, and_self, or_true, true_or, or_false, false_or, or_self, if_true, if_false, ite_true, ite_false]; done) | (simp [rArgument, wA, wR, wF, upA_at, upd, c_6]; done) | (simp_all [rArgument, wA, wR, wF, upA_at, upd]; done)
    rw [e]
    exact ⟨rfl, rfl⟩
  · have c_6 := b32_t c_6
    have hm_ := c_6
    refine g_iload_n d_Model_argument_9 rfl ?_
    refine g_if_lt (tgt := 23) d_Model_argument_10 (by decide) (fun c_10 => ?_) (fun c_10 => ?_)
    · refine g_iconst (v := 0) d_Model_argument_23 (by decide) ?_
      refine g_istore d_Model_argument_24 (by decide) rfl ?_
      refine g_aload_n d_Model_argument_26 rfl ?_
      refine g_iload d_Model_argument_27 rfl ?_
      refine g_if_ne (tgt := 36) d_Model_argument_29 (by decide) (fun c_29 => absurd c_29 (by decide)) (fun c_29 => ?_)
      refine g_iconst (v := 1) d_Model_argument_32 (by decide) ?_
      refine g_goto (tgt := 63) d_Model_argument_33 (by decide) ?_
      refine c_Vr (as := [.int (1)]) kv_Model_refuses ml_Model_153 rfl mw_f (m_W_refuses1 (s := s) hmn) rfl (Nat.le_of_ble_eq_true rfl) rfl d_Model_argument_63 rfl ?_
      refine g_if_eq (tgt := 71) d_Model_argument_66 (by decide) (fun c_66 => absurd c_66 (by decide)) (fun c_66 => ?_)
      refine g_iconst (v := 0) d_Model_argument_69 (by decide) ?_
      refine g_iret rfl d_Model_argument_70 ?_
      have e : rArgument s t c y = (0, (wF s 0 (1))) := by first | (simp only [rArgument, wA, wR, wF, upA_at, upd, c_6, c_10, not_true_eq_false, not_false_eq_true, and_true, true_and, and_false, false_and, and_self, or_true, true_or, or_false, false_or, or_self, if_true, if_false, ite_true, ite_false]; done) | (simp [rArgument, wA, wR, wF, upA_at, upd, c_6, c_10]; done) | (simp_all [rArgument, wA, wR, wF, upA_at, upd]; done)
      rw [e]
      exact ⟨rfl, rfl⟩
    · refine g_iload_n d_Model_argument_13 rfl ?_
      refine g_bipush (v := 16) d_Model_argument_14 (by decide) ?_
      refine g_icmp_ge (tgt := 23) d_Model_argument_16 (by decide) (fun c_16 => ?_) (fun c_16 => ?_)
      · refine g_iconst (v := 0) d_Model_argument_23 (by decide) ?_
        refine g_istore d_Model_argument_24 (by decide) rfl ?_
        refine g_aload_n d_Model_argument_26 rfl ?_
        refine g_iload d_Model_argument_27 rfl ?_
        refine g_if_ne (tgt := 36) d_Model_argument_29 (by decide) (fun c_29 => absurd c_29 (by decide)) (fun c_29 => ?_)
        refine g_iconst (v := 1) d_Model_argument_32 (by decide) ?_
        refine g_goto (tgt := 63) d_Model_argument_33 (by decide) ?_
        refine c_Vr (as := [.int (1)]) kv_Model_refuses ml_Model_153 rfl mw_f (m_W_refuses1 (s := s) hmn) rfl (Nat.le_of_ble_eq_true rfl) rfl d_Model_argument_63 rfl ?_
        refine g_if_eq (tgt := 71) d_Model_argument_66 (by decide) (fun c_66 => absurd c_66 (by decide)) (fun c_66 => ?_)
        refine g_iconst (v := 0) d_Model_argument_69 (by decide) ?_
        refine g_iret rfl d_Model_argument_70 ?_
        have e : rArgument s t c y = (0, (wF s 0 (1))) := by first | (simp only [rArgument, wA, wR, wF, upA_at, upd, c_6, c_10, c_16, not_true_eq_false, not_false_eq_true, and_true, true_and, and_false, false_and, and_self, or_true, true_or, or_false, false_or, or_self, if_true, if_false, ite_true, ite_false]; done) | (simp [rArgument, wA, wR, wF, upA_at, upd, c_6, c_10, c_16]; done) | (simp_all [rArgument, wA, wR, wF, upA_at, upd]; done)
        rw [e]
        exact ⟨rfl, rfl⟩
      · refine g_iconst (v := 1) d_Model_argument_19 (by decide) ?_
        refine g_goto (tgt := 24) d_Model_argument_20 (by decide) ?_
        refine g_istore d_Model_argument_24 (by decide) rfl ?_
        refine g_aload_n d_Model_argument_26 rfl ?_
        refine g_iload d_Model_argument_27 rfl ?_
        refine g_if_ne (tgt := 36) d_Model_argument_29 (by decide) (fun c_29 => ?_) (fun c_29 => absurd c_29 (by decide))
        refine g_aload_n d_Model_argument_36 rfl ?_
        refine w_get (k := 4) (x := .int (s.1 4)) fl_Model_149 (by decide) rfl d_Model_argument_37 ?_
        refine g_if_ne (tgt := 58) d_Model_argument_40 (by decide) (fun c_40 => ?_) (fun c_40 => ?_)
        · refine g_iconst (v := 2) d_Model_argument_58 (by decide) ?_
          refine g_goto (tgt := 63) d_Model_argument_59 (by decide) ?_
          refine c_Vr (as := [.int (2)]) kv_Model_refuses ml_Model_153 rfl mw_f (m_W_refuses2 (s := s) hmn) rfl (Nat.le_of_ble_eq_true rfl) rfl d_Model_argument_63 rfl ?_
          refine g_if_eq (tgt := 71) d_Model_argument_66 (by decide) (fun c_66 => absurd c_66 (by decide)) (fun c_66 => ?_)
          refine g_iconst (v := 0) d_Model_argument_69 (by decide) ?_
          refine g_iret rfl d_Model_argument_70 ?_
          have e : rArgument s t c y = (0, (wF s 0 (2))) := by first | (simp only [rArgument, wA, wR, wF, upA_at, upd, c_6, c_10, c_16, c_40, not_true_eq_false, not_false_eq_true, and_true, true_and, and_false, false_and, and_self, or_true, true_or, or_false, false_or, or_self, if_true, if_false, ite_true, ite_false]; done) | (simp [rArgument, wA, wR, wF, upA_at, upd, c_6, c_10, c_16, c_40]; done) | (simp_all [rArgument, wA, wR, wF, upA_at, upd]; done)
          rw [e]
          exact ⟨rfl, rfl⟩
        · refine g_aload_n d_Model_argument_43 rfl ?_
          refine w_get (k := 2) fl_Model_13 (by decide) rfl d_Model_argument_44 ?_
          refine g_bipush (v := 8) d_Model_argument_47 (by decide) ?_
          refine g_iload_n d_Model_argument_49 rfl ?_
          refine g_imul d_Model_argument_50 ?_
          refine g_iload_n d_Model_argument_51 rfl ?_
          refine g_iadd d_Model_argument_52 ?_
          refine w_ald (j := 1) (q := rAt t c) (x := s.2 1 (rAt t c)) hmn (by decide) (by decide) (rAt_hi hm_.1.1 hm_.1.2.1 hm_.2.1 (rM_c hm_ ht)).1 (rAt_hi hm_.1.1 hm_.1.2.1 hm_.2.1 (rM_c hm_ ht)).2 rfl d_Model_argument_53 ?_
          refine g_iconst (v := 4) d_Model_argument_54 (by decide) ?_
          refine g_icmp_ne (tgt := 62) d_Model_argument_55 (by decide) (fun c_55 => ?_) (fun c_55 => ?_)
          · refine g_iconst (v := 0) d_Model_argument_62 (by decide) ?_
            refine c_Vr (as := [.int (0)]) kv_Model_refuses ml_Model_153 rfl mw_f (m_W_refuses0 (s := s) hmn) rfl (Nat.le_of_ble_eq_true rfl) rfl d_Model_argument_63 rfl ?_
            refine g_if_eq (tgt := 71) d_Model_argument_66 (by decide) (fun c_66 => ?_) (fun c_66 => absurd c_66 (by decide))
            refine g_bipush (v := 8) d_Model_argument_71 (by decide) ?_
            refine g_iload_n d_Model_argument_73 rfl ?_
            refine g_imul d_Model_argument_74 ?_
            refine g_iload_n d_Model_argument_75 rfl ?_
            refine g_iadd d_Model_argument_76 ?_
            refine g_istore d_Model_argument_77 (by decide) rfl ?_
            refine g_aload_n d_Model_argument_79 rfl ?_
            refine w_get (k := 3) fl_Model_16 (by decide) rfl d_Model_argument_80 ?_
            refine g_iconst (v := 4) d_Model_argument_83 (by decide) ?_
            refine g_iload d_Model_argument_84 rfl ?_
            refine g_imul d_Model_argument_86 ?_
            refine g_aload_n d_Model_argument_87 rfl ?_
            refine w_get (k := 2) fl_Model_13 (by decide) rfl d_Model_argument_88 ?_
            refine g_iload d_Model_argument_91 rfl ?_
            refine w_ald (j := 1) (q := rAt t c) (x := s.2 1 (rAt t c)) hmn (by decide) (by decide) (rAt_hi hm_.1.1 hm_.1.2.1 hm_.2.1 (rM_c hm_ ht)).1 (rAt_hi hm_.1.1 hm_.1.2.1 hm_.2.1 (rM_c hm_ ht)).2 rfl d_Model_argument_93 ?_
            refine g_iadd d_Model_argument_94 ?_
            refine g_iload_n d_Model_argument_95 rfl ?_
            refine w_ast (j := 2) (q := 4 * rAt t c + tn (s.2 1 (rAt t c))) hmn (by decide) (by decide) (add_hi (mul_hi i4 (rAt_hi hm_.1.1 hm_.1.2.1 hm_.2.1 (rM_c hm_ ht)).1 (by have := (rAt_hi hm_.1.1 hm_.1.2.1 hm_.2.1 (rM_c hm_ ht)).2; omega)) (tn_hi (hk _ (rAt_hi hm_.1.1 hm_.1.2.1 hm_.2.1 (rM_c hm_ ht)).2).1) (by have := (rAt_hi hm_.1.1 hm_.1.2.1 hm_.2.1 (rM_c hm_ ht)).2; have := tn_ly (hk _ (rAt_hi hm_.1.1 hm_.1.2.1 hm_.2.1 (rM_c hm_ ht)).2).1 (hk _ (rAt_hi hm_.1.1 hm_.1.2.1 hm_.2.1 (rM_c hm_ ht)).2).2 i4; omega)) (by have := (rAt_hi hm_.1.1 hm_.1.2.1 hm_.2.1 (rM_c hm_ ht)).2; have := tn_lx (hk _ (rAt_hi hm_.1.1 hm_.1.2.1 hm_.2.1 (rM_c hm_ ht)).2).1 (hk _ (rAt_hi hm_.1.1 hm_.1.2.1 hm_.2.1 (rM_c hm_ ht)).2).2 c_55 i4; show _ < 512; omega) d_Model_argument_96 ?_
            refine g_aload_n d_Model_argument_97 rfl ?_
            refine w_get (k := 2) fl_Model_13 (by decide) rfl d_Model_argument_98 ?_
            refine g_iload d_Model_argument_101 rfl ?_
            refine g_dup2 d_Model_argument_103 rfl rfl ?_
            refine w_ald (j := 1) (q := rAt t c) (x := s.2 1 (rAt t c)) hmn (by decide) (by decide) (rAt_hi hm_.1.1 hm_.1.2.1 hm_.2.1 (rM_c hm_ ht)).1 (rAt_hi hm_.1.1 hm_.1.2.1 hm_.2.1 (rM_c hm_ ht)).2 rfl d_Model_argument_104 ?_
            refine g_iconst (v := 1) d_Model_argument_105 (by decide) ?_
            refine g_iadd d_Model_argument_106 ?_
            refine w_ast (j := 1) (q := rAt t c) hmn (by decide) (by decide) (rAt_hi hm_.1.1 hm_.1.2.1 hm_.2.1 (rM_c hm_ ht)).1 (rAt_hi hm_.1.1 hm_.1.2.1 hm_.2.1 (rM_c hm_ ht)).2 d_Model_argument_107 ?_
            refine g_aload_n d_Model_argument_108 rfl ?_
            refine w_get (k := 2) fl_Model_13 (by decide) rfl d_Model_argument_109 ?_
            refine g_iload d_Model_argument_112 rfl ?_
            refine w_ald (j := 1) (q := rAt t c) (x := (wA (wA (wF s 0 (0)) 2 (4 * rAt t c + tn (s.2 1 (rAt t c))) (y)) 1 (rAt t c) ((s.2 1 (rAt t c)) + (1))).2 1 (rAt t c)) hmn (by decide) (by decide) (rAt_hi hm_.1.1 hm_.1.2.1 hm_.2.1 (rM_c hm_ ht)).1 (rAt_hi hm_.1.1 hm_.1.2.1 hm_.2.1 (rM_c hm_ ht)).2 rfl d_Model_argument_114 ?_
            refine g_iret rfl d_Model_argument_115 ?_
            have e : rArgument s t c y = ((wA (wA (wF s 0 (0)) 2 (4 * rAt t c + tn (s.2 1 (rAt t c))) (y)) 1 (rAt t c) ((s.2 1 (rAt t c)) + (1))).2 1 (rAt t c), (wA (wA (wF s 0 (0)) 2 (4 * rAt t c + tn (s.2 1 (rAt t c))) (y)) 1 (rAt t c) ((s.2 1 (rAt t c)) + (1)))) := by first | (simp only [rArgument, wA, wR, wF, upA_at, upd, c_6, c_10, c_16, c_40, c_55, not_true_eq_false, not_false_eq_true, and_true, true_and, and_false, false_and, and_self, or_true, true_or, or_false, false_or, or_self, if_true, if_false, ite_true, ite_false]; done) | (simp [rArgument, wA, wR, wF, upA_at, upd, c_6, c_10, c_16, c_40, c_55]; done) | (simp_all [rArgument, wA, wR, wF, upA_at, upd]; done)
            rw [e]
            exact ⟨rfl, rfl⟩
          · refine g_iconst (v := 2) d_Model_argument_58 (by decide) ?_
            refine g_goto (tgt := 63) d_Model_argument_59 (by decide) ?_
            refine c_Vr (as := [.int (2)]) kv_Model_refuses ml_Model_153 rfl mw_f (m_W_refuses2 (s := s) hmn) rfl (Nat.le_of_ble_eq_true rfl) rfl d_Model_argument_63 rfl ?_
            refine g_if_eq (tgt := 71) d_Model_argument_66 (by decide) (fun c_66 => absurd c_66 (by decide)) (fun c_66 => ?_)
            refine g_iconst (v := 0) d_Model_argument_69 (by decide) ?_
            refine g_iret rfl d_Model_argument_70 ?_
            have e : rArgument s t c y = (0, (wF s 0 (2))) := by first | (simp only [rArgument, wA, wR, wF, upA_at, upd, c_6, c_10, c_16, c_40, c_55, not_true_eq_false, not_false_eq_true, and_true, true_and, and_false, false_and, and_self, or_true, true_or, or_false, false_or, or_self, if_true, if_false, ite_true, ite_false]; done) | (simp [rArgument, wA, wR, wF, upA_at, upd, c_6, c_10, c_16, c_40, c_55]; done) | (simp_all [rArgument, wA, wR, wF, upA_at, upd]; done)
            rw [e]
            exact ⟨rfl, rfl⟩
end MC
