/-! The reference: opens -/
theorem d_Model_opens_0 : decode Y_Model_opens.2.1 0 = .ok (.aload_n 0, 1) := by decide +kernel
theorem d_Model_opens_1 : decode Y_Model_opens.2.1 1 = .ok (.getfield 94, 3) := by decide +kernel
theorem d_Model_opens_4 : decode Y_Model_opens.2.1 4 = .ok (.iload_n 1, 1) := by decide +kernel
theorem d_Model_opens_5 : decode Y_Model_opens.2.1 5 = .ok (.iaload, 1) := by decide +kernel
theorem d_Model_opens_6 : decode Y_Model_opens.2.1 6 = .ok (.istore 4, 2) := by decide +kernel
theorem d_Model_opens_8 : decode Y_Model_opens.2.1 8 = .ok (.iload_n 3, 1) := by decide +kernel
theorem d_Model_opens_9 : decode Y_Model_opens.2.1 9 = .ok (.ifCond .ne 76, 3) := by decide +kernel
theorem d_Model_opens_12 : decode Y_Model_opens.2.1 12 = .ok (.iload_n 2, 1) := by decide +kernel
theorem d_Model_opens_13 : decode Y_Model_opens.2.1 13 = .ok (.istore 5, 2) := by decide +kernel
theorem d_Model_opens_15 : decode Y_Model_opens.2.1 15 = .ok (.iload 5, 2) := by decide +kernel
theorem d_Model_opens_17 : decode Y_Model_opens.2.1 17 = .ok (.iconst 1, 1) := by decide +kernel
theorem d_Model_opens_18 : decode Y_Model_opens.2.1 18 = .ok (.iadd, 1) := by decide +kernel
theorem d_Model_opens_19 : decode Y_Model_opens.2.1 19 = .ok (.iload 4, 2) := by decide +kernel
theorem d_Model_opens_21 : decode Y_Model_opens.2.1 21 = .ok (.if_icmp .ge 61, 3) := by decide +kernel
theorem d_Model_opens_24 : decode Y_Model_opens.2.1 24 = .ok (.aload_n 0, 1) := by decide +kernel
theorem d_Model_opens_25 : decode Y_Model_opens.2.1 25 = .ok (.getfield 98, 3) := by decide +kernel
theorem d_Model_opens_28 : decode Y_Model_opens.2.1 28 = .ok (.bipush 26, 2) := by decide +kernel
theorem d_Model_opens_30 : decode Y_Model_opens.2.1 30 = .ok (.iload_n 1, 1) := by decide +kernel
theorem d_Model_opens_31 : decode Y_Model_opens.2.1 31 = .ok (.imul, 1) := by decide +kernel
theorem d_Model_opens_32 : decode Y_Model_opens.2.1 32 = .ok (.iload 5, 2) := by decide +kernel
theorem d_Model_opens_34 : decode Y_Model_opens.2.1 34 = .ok (.iadd, 1) := by decide +kernel
theorem d_Model_opens_35 : decode Y_Model_opens.2.1 35 = .ok (.aload_n 0, 1) := by decide +kernel
theorem d_Model_opens_36 : decode Y_Model_opens.2.1 36 = .ok (.getfield 98, 3) := by decide +kernel
theorem d_Model_opens_39 : decode Y_Model_opens.2.1 39 = .ok (.bipush 26, 2) := by decide +kernel
theorem d_Model_opens_41 : decode Y_Model_opens.2.1 41 = .ok (.iload_n 1, 1) := by decide +kernel
theorem d_Model_opens_42 : decode Y_Model_opens.2.1 42 = .ok (.imul, 1) := by decide +kernel
theorem d_Model_opens_43 : decode Y_Model_opens.2.1 43 = .ok (.iload 5, 2) := by decide +kernel
theorem d_Model_opens_45 : decode Y_Model_opens.2.1 45 = .ok (.iadd, 1) := by decide +kernel
theorem d_Model_opens_46 : decode Y_Model_opens.2.1 46 = .ok (.iconst 1, 1) := by decide +kernel
theorem d_Model_opens_47 : decode Y_Model_opens.2.1 47 = .ok (.iadd, 1) := by decide +kernel
theorem d_Model_opens_48 : decode Y_Model_opens.2.1 48 = .ok (.iaload, 1) := by decide +kernel
theorem d_Model_opens_49 : decode Y_Model_opens.2.1 49 = .ok (.iastore, 1) := by decide +kernel
theorem d_Model_opens_50 : decode Y_Model_opens.2.1 50 = .ok (.aload_n 0, 1) := by decide +kernel
theorem d_Model_opens_51 : decode Y_Model_opens.2.1 51 = .ok (.getfield 101, 3) := by decide +kernel
theorem d_Model_opens_54 : decode Y_Model_opens.2.1 54 = .ok (.bipush 26, 2) := by decide +kernel
theorem d_Model_opens_56 : decode Y_Model_opens.2.1 56 = .ok (.iload_n 1, 1) := by decide +kernel
theorem d_Model_opens_57 : decode Y_Model_opens.2.1 57 = .ok (.imul, 1) := by decide +kernel
theorem d_Model_opens_58 : decode Y_Model_opens.2.1 58 = .ok (.iload 5, 2) := by decide +kernel
theorem d_Model_opens_60 : decode Y_Model_opens.2.1 60 = .ok (.iadd, 1) := by decide +kernel
theorem d_Model_opens_61 : decode Y_Model_opens.2.1 61 = .ok (.aload_n 0, 1) := by decide +kernel
theorem d_Model_opens_62 : decode Y_Model_opens.2.1 62 = .ok (.getfield 101, 3) := by decide +kernel
theorem d_Model_opens_65 : decode Y_Model_opens.2.1 65 = .ok (.bipush 26, 2) := by decide +kernel
theorem d_Model_opens_67 : decode Y_Model_opens.2.1 67 = .ok (.iload_n 1, 1) := by decide +kernel
theorem d_Model_opens_68 : decode Y_Model_opens.2.1 68 = .ok (.imul, 1) := by decide +kernel
theorem d_Model_opens_69 : decode Y_Model_opens.2.1 69 = .ok (.iload 5, 2) := by decide +kernel
theorem d_Model_opens_71 : decode Y_Model_opens.2.1 71 = .ok (.iadd, 1) := by decide +kernel
theorem d_Model_opens_72 : decode Y_Model_opens.2.1 72 = .ok (.iconst 1, 1) := by decide +kernel
theorem d_Model_opens_73 : decode Y_Model_opens.2.1 73 = .ok (.iadd, 1) := by decide +kernel
theorem d_Model_opens_74 : decode Y_Model_opens.2.1 74 = .ok (.iaload, 1) := by decide +kernel
theorem d_Model_opens_75 : decode Y_Model_opens.2.1 75 = .ok (.iastore, 1) := by decide +kernel
theorem d_Model_opens_76 : decode Y_Model_opens.2.1 76 = .ok (.iinc 5 1, 3) := by decide +kernel
theorem d_Model_opens_79 : decode Y_Model_opens.2.1 79 = .ok (.goto (-64), 3) := by decide +kernel
theorem d_Model_opens_82 : decode Y_Model_opens.2.1 82 = .ok (.goto 77, 3) := by decide +kernel
theorem d_Model_opens_85 : decode Y_Model_opens.2.1 85 = .ok (.iload 4, 2) := by decide +kernel
theorem d_Model_opens_87 : decode Y_Model_opens.2.1 87 = .ok (.iconst 1, 1) := by decide +kernel
theorem d_Model_opens_88 : decode Y_Model_opens.2.1 88 = .ok (.isub, 1) := by decide +kernel
theorem d_Model_opens_89 : decode Y_Model_opens.2.1 89 = .ok (.istore 5, 2) := by decide +kernel
theorem d_Model_opens_91 : decode Y_Model_opens.2.1 91 = .ok (.iload 5, 2) := by decide +kernel
theorem d_Model_opens_93 : decode Y_Model_opens.2.1 93 = .ok (.iload_n 2, 1) := by decide +kernel
theorem d_Model_opens_94 : decode Y_Model_opens.2.1 94 = .ok (.if_icmp .le 65, 3) := by decide +kernel
theorem d_Model_opens_97 : decode Y_Model_opens.2.1 97 = .ok (.aload_n 0, 1) := by decide +kernel
theorem d_Model_opens_98 : decode Y_Model_opens.2.1 98 = .ok (.getfield 98, 3) := by decide +kernel
theorem d_Model_opens_101 : decode Y_Model_opens.2.1 101 = .ok (.bipush 26, 2) := by decide +kernel
theorem d_Model_opens_103 : decode Y_Model_opens.2.1 103 = .ok (.iload_n 1, 1) := by decide +kernel
theorem d_Model_opens_104 : decode Y_Model_opens.2.1 104 = .ok (.imul, 1) := by decide +kernel
theorem d_Model_opens_105 : decode Y_Model_opens.2.1 105 = .ok (.iload 5, 2) := by decide +kernel
theorem d_Model_opens_107 : decode Y_Model_opens.2.1 107 = .ok (.iadd, 1) := by decide +kernel
theorem d_Model_opens_108 : decode Y_Model_opens.2.1 108 = .ok (.iload_n 3, 1) := by decide +kernel
theorem d_Model_opens_109 : decode Y_Model_opens.2.1 109 = .ok (.iadd, 1) := by decide +kernel
theorem d_Model_opens_110 : decode Y_Model_opens.2.1 110 = .ok (.iconst 1, 1) := by decide +kernel
theorem d_Model_opens_111 : decode Y_Model_opens.2.1 111 = .ok (.isub, 1) := by decide +kernel
theorem d_Model_opens_112 : decode Y_Model_opens.2.1 112 = .ok (.aload_n 0, 1) := by decide +kernel
theorem d_Model_opens_113 : decode Y_Model_opens.2.1 113 = .ok (.getfield 98, 3) := by decide +kernel
theorem d_Model_opens_116 : decode Y_Model_opens.2.1 116 = .ok (.bipush 26, 2) := by decide +kernel
theorem d_Model_opens_118 : decode Y_Model_opens.2.1 118 = .ok (.iload_n 1, 1) := by decide +kernel
theorem d_Model_opens_119 : decode Y_Model_opens.2.1 119 = .ok (.imul, 1) := by decide +kernel
theorem d_Model_opens_120 : decode Y_Model_opens.2.1 120 = .ok (.iload 5, 2) := by decide +kernel
theorem d_Model_opens_122 : decode Y_Model_opens.2.1 122 = .ok (.iadd, 1) := by decide +kernel
theorem d_Model_opens_123 : decode Y_Model_opens.2.1 123 = .ok (.iaload, 1) := by decide +kernel
theorem d_Model_opens_124 : decode Y_Model_opens.2.1 124 = .ok (.iastore, 1) := by decide +kernel
theorem d_Model_opens_125 : decode Y_Model_opens.2.1 125 = .ok (.aload_n 0, 1) := by decide +kernel
theorem d_Model_opens_126 : decode Y_Model_opens.2.1 126 = .ok (.getfield 101, 3) := by decide +kernel
theorem d_Model_opens_129 : decode Y_Model_opens.2.1 129 = .ok (.bipush 26, 2) := by decide +kernel
theorem d_Model_opens_131 : decode Y_Model_opens.2.1 131 = .ok (.iload_n 1, 1) := by decide +kernel
theorem d_Model_opens_132 : decode Y_Model_opens.2.1 132 = .ok (.imul, 1) := by decide +kernel
theorem d_Model_opens_133 : decode Y_Model_opens.2.1 133 = .ok (.iload 5, 2) := by decide +kernel
theorem d_Model_opens_135 : decode Y_Model_opens.2.1 135 = .ok (.iadd, 1) := by decide +kernel
theorem d_Model_opens_136 : decode Y_Model_opens.2.1 136 = .ok (.iload_n 3, 1) := by decide +kernel
theorem d_Model_opens_137 : decode Y_Model_opens.2.1 137 = .ok (.iadd, 1) := by decide +kernel
theorem d_Model_opens_138 : decode Y_Model_opens.2.1 138 = .ok (.iconst 1, 1) := by decide +kernel
theorem d_Model_opens_139 : decode Y_Model_opens.2.1 139 = .ok (.isub, 1) := by decide +kernel
theorem d_Model_opens_140 : decode Y_Model_opens.2.1 140 = .ok (.aload_n 0, 1) := by decide +kernel
theorem d_Model_opens_141 : decode Y_Model_opens.2.1 141 = .ok (.getfield 101, 3) := by decide +kernel
theorem d_Model_opens_144 : decode Y_Model_opens.2.1 144 = .ok (.bipush 26, 2) := by decide +kernel
theorem d_Model_opens_146 : decode Y_Model_opens.2.1 146 = .ok (.iload_n 1, 1) := by decide +kernel
theorem d_Model_opens_147 : decode Y_Model_opens.2.1 147 = .ok (.imul, 1) := by decide +kernel
theorem d_Model_opens_148 : decode Y_Model_opens.2.1 148 = .ok (.iload 5, 2) := by decide +kernel
theorem d_Model_opens_150 : decode Y_Model_opens.2.1 150 = .ok (.iadd, 1) := by decide +kernel
theorem d_Model_opens_151 : decode Y_Model_opens.2.1 151 = .ok (.iaload, 1) := by decide +kernel
theorem d_Model_opens_152 : decode Y_Model_opens.2.1 152 = .ok (.iastore, 1) := by decide +kernel
theorem d_Model_opens_153 : decode Y_Model_opens.2.1 153 = .ok (.iinc 5 (-1), 3) := by decide +kernel
theorem d_Model_opens_156 : decode Y_Model_opens.2.1 156 = .ok (.goto (-65), 3) := by decide +kernel
theorem d_Model_opens_159 : decode Y_Model_opens.2.1 159 = .ok (.aload_n 0, 1) := by decide +kernel
theorem d_Model_opens_160 : decode Y_Model_opens.2.1 160 = .ok (.getfield 94, 3) := by decide +kernel
theorem d_Model_opens_163 : decode Y_Model_opens.2.1 163 = .ok (.iload_n 1, 1) := by decide +kernel
theorem d_Model_opens_164 : decode Y_Model_opens.2.1 164 = .ok (.iload 4, 2) := by decide +kernel
theorem d_Model_opens_166 : decode Y_Model_opens.2.1 166 = .ok (.iload_n 3, 1) := by decide +kernel
theorem d_Model_opens_167 : decode Y_Model_opens.2.1 167 = .ok (.iadd, 1) := by decide +kernel
theorem d_Model_opens_168 : decode Y_Model_opens.2.1 168 = .ok (.iconst 1, 1) := by decide +kernel
theorem d_Model_opens_169 : decode Y_Model_opens.2.1 169 = .ok (.isub, 1) := by decide +kernel
theorem d_Model_opens_170 : decode Y_Model_opens.2.1 170 = .ok (.iastore, 1) := by decide +kernel
theorem d_Model_opens_171 : decode Y_Model_opens.2.1 171 = .ok (.return_, 1) := by decide +kernel
section MK
variable {E : gE} {d : Nat} {G G0 : gS} {m n : Nat} {s : mS} {Q : gO → gS → Prop}
/-- f, with the places from b + j on, up to b + e, moved one down -/
def shl (f : Nat → Int32) (b j e : Nat) : Nat → Int32 := fun x => if b + j ≤ x ∧ x < b + e then f (x + 1) else f x
theorem shl_0 {f : Nat → Int32} {b j : Nat} : shl f b j j = f := funext fun x => if_neg (by omega)
theorem shl_s {f : Nat → Int32} {b j e : Nat} (h : j ≤ e) : upd (shl f b j e) (b + e) (f (b + e + 1)) = shl f b j (e + 1) := by
  funext x
  simp only [upd, shl]
  by_cases c : x = b + e
  · subst c
    rw [if_pos rfl, if_pos (by omega)]
  · rw [if_neg c]
    by_cases q : b + j ≤ x ∧ x < b + e
    · rw [if_pos q, if_pos (by omega)]
    · rw [if_neg q, if_neg (by omega)]
theorem shl_out {f : Nat → Int32} {b j e x : Nat} (h : b + e ≤ x) : shl f b j e x = f x := if_neg (by omega)
/-- f, with the places above b + i, below b + t, moved g up -/
def shr (f : Nat → Int32) (b g i t : Nat) : Nat → Int32 := fun x => if b + i + 1 + g ≤ x ∧ x < b + t + g then f (x - g) else f x
theorem shr_0 {f : Nat → Int32} {b g t : Nat} : shr f b g (t - 1) t = f := funext fun x => if_neg (by omega)
theorem shr_s {f : Nat → Int32} {b g i t : Nat} (h : 1 ≤ i) (ht : i < t) : upd (shr f b g i t) (b + i + g) (f (b + i)) = shr f b g (i - 1) t := by
  funext x
  simp only [upd, shr]
  by_cases c : x = b + i + g
  · subst c
    rw [if_pos rfl, if_pos (by omega), Nat.add_sub_cancel]
  · rw [if_neg c]
    by_cases q : b + i + 1 + g ≤ x ∧ x < b + t + g
    · rw [if_pos q, if_pos (by omega)]
    · rw [if_neg q, if_neg (by omega)]
theorem shr_out {f : Nat → Int32} {b g i t x : Nat} (h : x < b + i + 1 + g) : shr f b g i t x = f x := if_neg (by omega)
/-- the wishes of row R, both arrays, by what F makes of an array -/
def rBoth (s : mS) (F : (Nat → Int32) → Nat → Int32) : mS := wR (wR s 28 (F (s.2 28))) 29 (F (s.2 29))
theorem rBoth_id {F : (Nat → Int32) → Nat → Int32} (h : ∀ f, F f = f) : rBoth s F = s := by
  refine Prod.ext rfl (funext fun i => ?_)
  simp only [rBoth, wR, upA, h]
  by_cases e9 : i = 29
  · rw [if_pos e9, e9]
  · rw [if_neg e9]
    by_cases e8 : i = 28
    · rw [if_pos e8, e8]
    · rw [if_neg e8]
theorem rBoth_s {F F' : (Nat → Int32) → Nat → Int32} {a b : Nat} (h : ∀ f, upd (F f) a (f b) = F' f) : wA (wA (rBoth s F) 28 a (s.2 28 b)) 29 a (s.2 29 b) = rBoth s F' := by
  refine Prod.ext rfl (funext fun i => ?_)
  by_cases e9 : i = 29
  · subst e9
    exact h (s.2 29)
  · by_cases e8 : i = 28
    · subst e8
      exact h (s.2 28)
    · simp only [rBoth, wA, wR, upA, if_neg e9, if_neg e8]
theorem nI_m1 {i : Nat} (h : 1 ≤ i) (b : i < 2 ^ 31) : nI i + (-1) = nI (i - 1) := by
  have e : nI i + (-1) = nI i - 1 := (Int32.sub_eq_add_neg (nI i) 1).symm
  rw [e]
  exact i_nI (sub_hi (nI_hi b) i1 h)
set_option maxHeartbeats 400000 in
set_option maxRecDepth 100000 in
theorem m_W_opens_a (hmn : m < n) {r k q old : Int32} {R K : Nat} (hr : r.toInt = (R : Int)) (hk : k.toInt = (K : Int)) (bR : R < 41640) (hO : ¬ old < 0) (bO : tn old ≤ 26) (bK : K < tn old) (kk : GT E Y_Model_opens d G0 159 [(0, .ref m), (1, .int r), (2, .int k), (3, .int q), (4, .int old)] [] (mW E G m n (rBoth s (fun f => shl f (26 * R) K (tn old - 1)))) Q) : ∀ (w i : Nat), tn old ≤ i + w → K ≤ i → i < tn old → GT E Y_Model_opens d G0 15 [(0, .ref m), (1, .int r), (2, .int k), (3, .int q), (4, .int old), (5, .int (nI i))] [] (mW E G m n (rBoth s (fun f => shl f (26 * R) K i))) Q := by
  intro w
  induction w with
  | zero => intro i h1 h2 h3; omega
  | succ w ih =>
    intro i hm hKi hiO
    have hi1 := add_hi (nI_hi (n := i) (by omega)) i1 (by omega)
    refine g_iload d_Model_opens_15 rfl ?_
    refine g_iconst (v := 1) d_Model_opens_17 (by decide) ?_
    refine g_iadd d_Model_opens_18 ?_
    refine g_iload d_Model_opens_19 rfl ?_
    refine g_icmp_ge (tgt := 82) d_Model_opens_21 (by decide) (fun c_21 => ?_) (fun c_21 => ?_)
    · refine g_goto (tgt := 159) d_Model_opens_82 (by decide) ?_
      have e : i = tn old - 1 := by have := (le_hi (tn_hi hO) hi1).mp c_21; omega
      rw [← e] at kk
      exact g_weak (lv := [(0, .ref m), (1, .int r), (2, .int k), (3, .int q), (4, .int old), (5, .int (nI i))]) (by simp) (by simp) kk
    · have hlt : i + 1 < tn old := Nat.not_le.mp (fun y => c_21 ((le_hi (tn_hi hO) hi1).mpr y))
      refine g_aload_n d_Model_opens_24 rfl ?_
      refine w_get (k := 43) fl_Model_98 (by decide) rfl d_Model_opens_25 ?_
      refine g_bipush (v := 26) d_Model_opens_28 (by decide) ?_
      refine g_iload_n d_Model_opens_30 rfl ?_
      refine g_imul d_Model_opens_31 ?_
      refine g_iload d_Model_opens_32 rfl ?_
      refine g_iadd d_Model_opens_34 ?_
      refine g_aload_n d_Model_opens_35 rfl ?_
      refine w_get (k := 43) fl_Model_98 (by decide) rfl d_Model_opens_36 ?_
      refine g_bipush (v := 26) d_Model_opens_39 (by decide) ?_
      refine g_iload_n d_Model_opens_41 rfl ?_
      refine g_imul d_Model_opens_42 ?_
      refine g_iload d_Model_opens_43 rfl ?_
      refine g_iadd d_Model_opens_45 ?_
      refine g_iconst (v := 1) d_Model_opens_46 (by decide) ?_
      refine g_iadd d_Model_opens_47 ?_
      refine w_ald (j := 28) (q := 26 * R + i + 1) (x := s.2 28 (26 * R + i + 1)) hmn (by decide) (by decide) (add_hi (add_hi (mul_hi (a := 26) (m := 26) (by decide) hr (by omega)) (nI_hi (n := i) (by omega)) (by omega)) i1 (by omega)) (by show _ < 1082640; omega) (shl_out (f := s.2 28) (b := 26 * R) (j := K) (e := i) (by omega)) d_Model_opens_48 ?_
      refine w_ast (j := 28) (q := 26 * R + i) hmn (by decide) (by decide) (add_hi (mul_hi (a := 26) (m := 26) (by decide) hr (by omega)) (nI_hi (n := i) (by omega)) (by omega)) (by show _ < 1082640; omega) d_Model_opens_49 ?_
      refine g_aload_n d_Model_opens_50 rfl ?_
      refine w_get (k := 44) fl_Model_101 (by decide) rfl d_Model_opens_51 ?_
      refine g_bipush (v := 26) d_Model_opens_54 (by decide) ?_
      refine g_iload_n d_Model_opens_56 rfl ?_
      refine g_imul d_Model_opens_57 ?_
      refine g_iload d_Model_opens_58 rfl ?_
      refine g_iadd d_Model_opens_60 ?_
      refine g_aload_n d_Model_opens_61 rfl ?_
      refine w_get (k := 44) fl_Model_101 (by decide) rfl d_Model_opens_62 ?_
      refine g_bipush (v := 26) d_Model_opens_65 (by decide) ?_
      refine g_iload_n d_Model_opens_67 rfl ?_
      refine g_imul d_Model_opens_68 ?_
      refine g_iload d_Model_opens_69 rfl ?_
      refine g_iadd d_Model_opens_71 ?_
      refine g_iconst (v := 1) d_Model_opens_72 (by decide) ?_
      refine g_iadd d_Model_opens_73 ?_
      refine w_ald (j := 29) (q := 26 * R + i + 1) (x := s.2 29 (26 * R + i + 1)) hmn (by decide) (by decide) (add_hi (add_hi (mul_hi (a := 26) (m := 26) (by decide) hr (by omega)) (nI_hi (n := i) (by omega)) (by omega)) i1 (by omega)) (by show _ < 1082640; omega) (shl_out (f := s.2 29) (b := 26 * R) (j := K) (e := i) (by omega)) d_Model_opens_74 ?_
      refine w_ast (j := 29) (q := 26 * R + i) hmn (by decide) (by decide) (add_hi (mul_hi (a := 26) (m := 26) (by decide) hr (by omega)) (nI_hi (n := i) (by omega)) (by omega)) (by show _ < 1082640; omega) d_Model_opens_75 ?_
      refine g_iinc (v := nI i + 1) d_Model_opens_76 rfl (by rfl) (by decide) rfl ?_
      refine g_goto (tgt := 15) d_Model_opens_79 (by decide) ?_
      rw [rBoth_s (F' := fun f => shl f (26 * R) K (i + 1)) (fun f => shl_s hKi), nI_1]
      exact ih (i + 1) (by omega) (by omega) (by omega)
set_option maxHeartbeats 400000 in
set_option maxRecDepth 100000 in
theorem m_W_opens_b (hmn : m < n) {r k q old : Int32} {R K M : Nat} (hr : r.toInt = (R : Int)) (hk : k.toInt = (K : Int)) (bR : R < 41640) (hO : ¬ old < 0) (bO : tn old ≤ 26) (bK : K < tn old) (hq : q.toInt = (M : Int)) (M1 : 1 ≤ M) (bM : tn old + M ≤ 27) (kk : GT E Y_Model_opens d G0 159 [(0, .ref m), (1, .int r), (2, .int k), (3, .int q), (4, .int old)] [] (mW E G m n (rBoth s (fun f => shr f (26 * R) (M - 1) K (tn old)))) Q) : ∀ (w i : Nat), i < K + w → K ≤ i → i < tn old → GT E Y_Model_opens d G0 91 [(0, .ref m), (1, .int r), (2, .int k), (3, .int q), (4, .int old), (5, .int (nI i))] [] (mW E G m n (rBoth s (fun f => shr f (26 * R) (M - 1) i (tn old)))) Q := by
  intro w
  induction w with
  | zero => intro i h1 h2 h3; omega
  | succ w ih =>
    intro i hm hKi hiO
    refine g_iload d_Model_opens_91 rfl ?_
    refine g_iload_n d_Model_opens_93 rfl ?_
    refine g_icmp_le (tgt := 159) d_Model_opens_94 (by decide) (fun c_94 => ?_) (fun c_94 => ?_)
    · have e : i = K := by have := (le_hi (nI_hi (n := i) (by omega)) hk).mp c_94; omega
      rw [← e] at kk
      exact g_weak (lv := [(0, .ref m), (1, .int r), (2, .int k), (3, .int q), (4, .int old), (5, .int (nI i))]) (by simp) (by simp) kk
    · have hlt : K < i := Nat.not_le.mp (fun y => c_94 ((le_hi (nI_hi (n := i) (by omega)) hk).mpr y))
      refine g_aload_n d_Model_opens_97 rfl ?_
      refine w_get (k := 43) fl_Model_98 (by decide) rfl d_Model_opens_98 ?_
      refine g_bipush (v := 26) d_Model_opens_101 (by decide) ?_
      refine g_iload_n d_Model_opens_103 rfl ?_
      refine g_imul d_Model_opens_104 ?_
      refine g_iload d_Model_opens_105 rfl ?_
      refine g_iadd d_Model_opens_107 ?_
      refine g_iload_n d_Model_opens_108 rfl ?_
      refine g_iadd d_Model_opens_109 ?_
      refine g_iconst (v := 1) d_Model_opens_110 (by decide) ?_
      refine g_isub d_Model_opens_111 ?_
      refine g_aload_n d_Model_opens_112 rfl ?_
      refine w_get (k := 43) fl_Model_98 (by decide) rfl d_Model_opens_113 ?_
      refine g_bipush (v := 26) d_Model_opens_116 (by decide) ?_
      refine g_iload_n d_Model_opens_118 rfl ?_
      refine g_imul d_Model_opens_119 ?_
      refine g_iload d_Model_opens_120 rfl ?_
      refine g_iadd d_Model_opens_122 ?_
      refine w_ald (j := 28) (q := 26 * R + i) (x := s.2 28 (26 * R + i)) hmn (by decide) (by decide) (add_hi (mul_hi (a := 26) (m := 26) (by decide) hr (by omega)) (nI_hi (n := i) (by omega)) (by omega)) (by show _ < 1082640; omega) (shr_out (f := s.2 28) (b := 26 * R) (g := M - 1) (i := i) (t := tn old) (by omega)) d_Model_opens_123 ?_
      refine w_ast (j := 28) (q := 26 * R + i + (M - 1)) hmn (by decide) (by decide) (by have y := (sub_hi (add_hi (add_hi (mul_hi (a := 26) (m := 26) (by decide) hr (by omega)) (nI_hi (n := i) (by omega)) (by omega)) hq (by omega)) i1 (by omega)); rw [y]; congr 1; omega) (by show _ < 1082640; omega) d_Model_opens_124 ?_
      refine g_aload_n d_Model_opens_125 rfl ?_
      refine w_get (k := 44) fl_Model_101 (by decide) rfl d_Model_opens_126 ?_
      refine g_bipush (v := 26) d_Model_opens_129 (by decide) ?_
      refine g_iload_n d_Model_opens_131 rfl ?_
      refine g_imul d_Model_opens_132 ?_
      refine g_iload d_Model_opens_133 rfl ?_
      refine g_iadd d_Model_opens_135 ?_
      refine g_iload_n d_Model_opens_136 rfl ?_
      refine g_iadd d_Model_opens_137 ?_
      refine g_iconst (v := 1) d_Model_opens_138 (by decide) ?_
      refine g_isub d_Model_opens_139 ?_
      refine g_aload_n d_Model_opens_140 rfl ?_
      refine w_get (k := 44) fl_Model_101 (by decide) rfl d_Model_opens_141 ?_
      refine g_bipush (v := 26) d_Model_opens_144 (by decide) ?_
      refine g_iload_n d_Model_opens_146 rfl ?_
      refine g_imul d_Model_opens_147 ?_
      refine g_iload d_Model_opens_148 rfl ?_
      refine g_iadd d_Model_opens_150 ?_
      refine w_ald (j := 29) (q := 26 * R + i) (x := s.2 29 (26 * R + i)) hmn (by decide) (by decide) (add_hi (mul_hi (a := 26) (m := 26) (by decide) hr (by omega)) (nI_hi (n := i) (by omega)) (by omega)) (by show _ < 1082640; omega) (shr_out (f := s.2 29) (b := 26 * R) (g := M - 1) (i := i) (t := tn old) (by omega)) d_Model_opens_151 ?_
      refine w_ast (j := 29) (q := 26 * R + i + (M - 1)) hmn (by decide) (by decide) (by have y := (sub_hi (add_hi (add_hi (mul_hi (a := 26) (m := 26) (by decide) hr (by omega)) (nI_hi (n := i) (by omega)) (by omega)) hq (by omega)) i1 (by omega)); rw [y]; congr 1; omega) (by show _ < 1082640; omega) d_Model_opens_152 ?_
      refine g_iinc (v := nI i + (-1)) d_Model_opens_153 rfl (by rfl) (by decide) rfl ?_
      refine g_goto (tgt := 91) d_Model_opens_156 (by decide) ?_
      rw [rBoth_s (F' := fun f => shr f (26 * R) (M - 1) (i - 1) (tn old)) (fun f => shr_s (by omega) hiO), nI_m1 (by omega) (by omega)]
      exact ih (i - 1) (by omega) (by omega) (by omega)
/-- M wishes come in the place of wish K of row R -/
def rOpen (s : mS) (R K M : Nat) (q : Int32) : mS := if q = 0 then wA (rBoth s (fun f => shl f (26 * R) K (tn (s.2 27 R) - 1))) 27 R (s.2 27 R + q - 1) else wA (rBoth s (fun f => shr f (26 * R) (M - 1) K (tn (s.2 27 R)))) 27 R (s.2 27 R + q - 1)
set_option maxHeartbeats 400000 in
set_option maxRecDepth 100000 in
theorem m_W_opens (hmn : m < n) {r k q : Int32} {R K M : Nat} (hr : r.toInt = (R : Int)) (hk : k.toInt = (K : Int)) (hq : q.toInt = (M : Int)) (bR : R < 41640) (hO : ¬ s.2 27 R < 0) (bO : tn (s.2 27 R) ≤ 26) (bK : K < tn (s.2 27 R)) (bM : tn (s.2 27 R) + M ≤ 27) : GM E Y_Model_opens d [.ref m, .int r, .int k, .int q] (mW E G m n s) (rIs none (mW E G m n (rOpen s R K M q))) := by
  refine g_entry (by decide) (by simp [Value.category]) (Nat.le_of_ble_eq_true rfl) ?_
  refine g_aload_n d_Model_opens_0 rfl ?_
  refine w_get (k := 42) fl_Model_94 (by decide) rfl d_Model_opens_1 ?_
  refine g_iload_n d_Model_opens_4 rfl ?_
  refine w_ald (j := 27) (q := R) (x := s.2 27 (R)) hmn (by decide) (by decide) hr (by show _ < 41640; omega) rfl d_Model_opens_5 ?_
  refine g_istore d_Model_opens_6 (by decide) rfl ?_
  refine g_iload_n d_Model_opens_8 rfl ?_
  refine g_if_ne (tgt := 85) d_Model_opens_9 (by decide) (fun c_9 => ?_) (fun c_9 => ?_)
  · refine g_iload d_Model_opens_85 rfl ?_
    refine g_iconst (v := 1) d_Model_opens_87 (by decide) ?_
    refine g_isub d_Model_opens_88 ?_
    refine g_istore d_Model_opens_89 (by decide) rfl ?_
    have hO1 : (s.2 27 R) - 1 = nI (tn (s.2 27 R) - 1) := i_nI (sub_hi (tn_hi hO) i1 (by omega))
    have M1 : 1 ≤ M := by
      have z : (0 : Int32).toInt = ((0 : Nat) : Int) := by decide
      have : M ≠ 0 := fun y => c_9 ((eq_hi hq z).mpr y)
      omega
    have K_ := fun kk => m_W_opens_b (E := E) (d := d) (G0 := mW E G m n s) (G := G) (s := s) (r := r) (k := k) (q := q) (old := (s.2 27 R)) (Q := rIs none (mW E G m n (rOpen s R K M q))) (M := M) hmn hr hk bR hO bO bK hq M1 bM kk (tn (s.2 27 R)) (tn (s.2 27 R) - 1) (by omega) (by omega) (by omega)
    rw [rBoth_id (s := s) (F := fun f => shr f (26 * R) (M - 1) (tn (s.2 27 R) - 1) (tn (s.2 27 R))) (fun f => shr_0), ← hO1] at K_
    refine K_ ?_
    refine g_aload_n d_Model_opens_159 rfl ?_
    refine w_get (k := 42) fl_Model_94 (by decide) rfl d_Model_opens_160 ?_
    refine g_iload_n d_Model_opens_163 rfl ?_
    refine g_iload d_Model_opens_164 rfl ?_
    refine g_iload_n d_Model_opens_166 rfl ?_
    refine g_iadd d_Model_opens_167 ?_
    refine g_iconst (v := 1) d_Model_opens_168 (by decide) ?_
    refine g_isub d_Model_opens_169 ?_
    refine w_ast (j := 27) (q := R) hmn (by decide) (by decide) hr (by show _ < 41640; omega) d_Model_opens_170 ?_
    refine g_vret rfl d_Model_opens_171 ?_
    have e : rOpen s R K M q = wA (rBoth s (fun f => shr f (26 * R) (M - 1) K (tn (s.2 27 R)))) 27 R (s.2 27 R + q - 1) := if_neg c_9
    rw [e]
    exact ⟨rfl, rfl⟩
  · refine g_iload_n d_Model_opens_12 rfl ?_
    refine g_istore d_Model_opens_13 (by decide) rfl ?_
    have K_ := fun kk => m_W_opens_a (E := E) (d := d) (G0 := mW E G m n s) (G := G) (s := s) (r := r) (k := k) (q := q) (old := (s.2 27 R)) (Q := rIs none (mW E G m n (rOpen s R K M q))) (K := K) hmn hr hk bR hO bO bK kk (tn (s.2 27 R)) K (by omega) (by omega) bK
    rw [rBoth_id (s := s) (F := fun f => shl f (26 * R) K K) (fun f => shl_0), ← i_nI hk] at K_
    refine K_ ?_
    refine g_aload_n d_Model_opens_159 rfl ?_
    refine w_get (k := 42) fl_Model_94 (by decide) rfl d_Model_opens_160 ?_
    refine g_iload_n d_Model_opens_163 rfl ?_
    refine g_iload d_Model_opens_164 rfl ?_
    refine g_iload_n d_Model_opens_166 rfl ?_
    refine g_iadd d_Model_opens_167 ?_
    refine g_iconst (v := 1) d_Model_opens_168 (by decide) ?_
    refine g_isub d_Model_opens_169 ?_
    refine w_ast (j := 27) (q := R) hmn (by decide) (by decide) hr (by show _ < 41640; omega) d_Model_opens_170 ?_
    refine g_vret rfl d_Model_opens_171 ?_
    have e : rOpen s R K M q = wA (rBoth s (fun f => shl f (26 * R) K (tn (s.2 27 R) - 1))) 27 R (s.2 27 R + q - 1) := if_pos c_9
    rw [e]
    exact ⟨rfl, rfl⟩
end MK
