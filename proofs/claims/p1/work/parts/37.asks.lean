/-! The reference: asks -/
theorem d_Model_asks_0 : decode Y_Model_asks.2.1 0 = .ok (.aload_n 0, 1) := by decide +kernel
theorem d_Model_asks_1 : decode Y_Model_asks.2.1 1 = .ok (.getfield 108, 3) := by decide +kernel
theorem d_Model_asks_4 : decode Y_Model_asks.2.1 4 = .ok (.iload_n 1, 1) := by decide +kernel
theorem d_Model_asks_5 : decode Y_Model_asks.2.1 5 = .ok (.iaload, 1) := by decide +kernel
theorem d_Model_asks_6 : decode Y_Model_asks.2.1 6 = .ok (.istore_n 3, 1) := by decide +kernel
theorem d_Model_asks_7 : decode Y_Model_asks.2.1 7 = .ok (.aload_n 0, 1) := by decide +kernel
theorem d_Model_asks_8 : decode Y_Model_asks.2.1 8 = .ok (.getfield 98, 3) := by decide +kernel
theorem d_Model_asks_11 : decode Y_Model_asks.2.1 11 = .ok (.bipush 26, 2) := by decide +kernel
theorem d_Model_asks_13 : decode Y_Model_asks.2.1 13 = .ok (.iload_n 3, 1) := by decide +kernel
theorem d_Model_asks_14 : decode Y_Model_asks.2.1 14 = .ok (.imul, 1) := by decide +kernel
theorem d_Model_asks_15 : decode Y_Model_asks.2.1 15 = .ok (.iaload, 1) := by decide +kernel
theorem d_Model_asks_16 : decode Y_Model_asks.2.1 16 = .ok (.istore 4, 2) := by decide +kernel
theorem d_Model_asks_18 : decode Y_Model_asks.2.1 18 = .ok (.iconst (-1), 1) := by decide +kernel
theorem d_Model_asks_19 : decode Y_Model_asks.2.1 19 = .ok (.istore 5, 2) := by decide +kernel
theorem d_Model_asks_21 : decode Y_Model_asks.2.1 21 = .ok (.iconst 0, 1) := by decide +kernel
theorem d_Model_asks_22 : decode Y_Model_asks.2.1 22 = .ok (.istore 6, 2) := by decide +kernel
theorem d_Model_asks_24 : decode Y_Model_asks.2.1 24 = .ok (.iconst 0, 1) := by decide +kernel
theorem d_Model_asks_25 : decode Y_Model_asks.2.1 25 = .ok (.istore 7, 2) := by decide +kernel
theorem d_Model_asks_27 : decode Y_Model_asks.2.1 27 = .ok (.iload 7, 2) := by decide +kernel
theorem d_Model_asks_29 : decode Y_Model_asks.2.1 29 = .ok (.iload_n 1, 1) := by decide +kernel
theorem d_Model_asks_30 : decode Y_Model_asks.2.1 30 = .ok (.if_icmp .ge 59, 3) := by decide +kernel
theorem d_Model_asks_33 : decode Y_Model_asks.2.1 33 = .ok (.aload_n 0, 1) := by decide +kernel
theorem d_Model_asks_34 : decode Y_Model_asks.2.1 34 = .ok (.getfield 114, 3) := by decide +kernel
theorem d_Model_asks_37 : decode Y_Model_asks.2.1 37 = .ok (.iload 7, 2) := by decide +kernel
theorem d_Model_asks_39 : decode Y_Model_asks.2.1 39 = .ok (.iaload, 1) := by decide +kernel
theorem d_Model_asks_40 : decode Y_Model_asks.2.1 40 = .ok (.iconst (-1), 1) := by decide +kernel
theorem d_Model_asks_41 : decode Y_Model_asks.2.1 41 = .ok (.if_icmp .eq 13, 3) := by decide +kernel
theorem d_Model_asks_44 : decode Y_Model_asks.2.1 44 = .ok (.aload_n 0, 1) := by decide +kernel
theorem d_Model_asks_45 : decode Y_Model_asks.2.1 45 = .ok (.getfield 114, 3) := by decide +kernel
theorem d_Model_asks_48 : decode Y_Model_asks.2.1 48 = .ok (.iload 7, 2) := by decide +kernel
theorem d_Model_asks_50 : decode Y_Model_asks.2.1 50 = .ok (.iaload, 1) := by decide +kernel
theorem d_Model_asks_51 : decode Y_Model_asks.2.1 51 = .ok (.goto 5, 3) := by decide +kernel
theorem d_Model_asks_54 : decode Y_Model_asks.2.1 54 = .ok (.iload 5, 2) := by decide +kernel
theorem d_Model_asks_56 : decode Y_Model_asks.2.1 56 = .ok (.istore 5, 2) := by decide +kernel
theorem d_Model_asks_58 : decode Y_Model_asks.2.1 58 = .ok (.aload_n 0, 1) := by decide +kernel
theorem d_Model_asks_59 : decode Y_Model_asks.2.1 59 = .ok (.getfield 114, 3) := by decide +kernel
theorem d_Model_asks_62 : decode Y_Model_asks.2.1 62 = .ok (.iload 7, 2) := by decide +kernel
theorem d_Model_asks_64 : decode Y_Model_asks.2.1 64 = .ok (.iaload, 1) := by decide +kernel
theorem d_Model_asks_65 : decode Y_Model_asks.2.1 65 = .ok (.iconst (-1), 1) := by decide +kernel
theorem d_Model_asks_66 : decode Y_Model_asks.2.1 66 = .ok (.if_icmp .eq 13, 3) := by decide +kernel
theorem d_Model_asks_69 : decode Y_Model_asks.2.1 69 = .ok (.aload_n 0, 1) := by decide +kernel
theorem d_Model_asks_70 : decode Y_Model_asks.2.1 70 = .ok (.getfield 117, 3) := by decide +kernel
theorem d_Model_asks_73 : decode Y_Model_asks.2.1 73 = .ok (.iload 7, 2) := by decide +kernel
theorem d_Model_asks_75 : decode Y_Model_asks.2.1 75 = .ok (.iaload, 1) := by decide +kernel
theorem d_Model_asks_76 : decode Y_Model_asks.2.1 76 = .ok (.goto 5, 3) := by decide +kernel
theorem d_Model_asks_79 : decode Y_Model_asks.2.1 79 = .ok (.iload 6, 2) := by decide +kernel
theorem d_Model_asks_81 : decode Y_Model_asks.2.1 81 = .ok (.istore 6, 2) := by decide +kernel
theorem d_Model_asks_83 : decode Y_Model_asks.2.1 83 = .ok (.iinc 7 1, 3) := by decide +kernel
theorem d_Model_asks_86 : decode Y_Model_asks.2.1 86 = .ok (.goto (-59), 3) := by decide +kernel
theorem d_Model_asks_89 : decode Y_Model_asks.2.1 89 = .ok (.aload_n 0, 1) := by decide +kernel
theorem d_Model_asks_90 : decode Y_Model_asks.2.1 90 = .ok (.getfield 114, 3) := by decide +kernel
theorem d_Model_asks_93 : decode Y_Model_asks.2.1 93 = .ok (.iload_n 1, 1) := by decide +kernel
theorem d_Model_asks_94 : decode Y_Model_asks.2.1 94 = .ok (.aload_n 0, 1) := by decide +kernel
theorem d_Model_asks_95 : decode Y_Model_asks.2.1 95 = .ok (.getfield 225, 3) := by decide +kernel
theorem d_Model_asks_98 : decode Y_Model_asks.2.1 98 = .ok (.iastore, 1) := by decide +kernel
theorem d_Model_asks_99 : decode Y_Model_asks.2.1 99 = .ok (.aload_n 0, 1) := by decide +kernel
theorem d_Model_asks_100 : decode Y_Model_asks.2.1 100 = .ok (.getfield 120, 3) := by decide +kernel
theorem d_Model_asks_103 : decode Y_Model_asks.2.1 103 = .ok (.iload_n 1, 1) := by decide +kernel
theorem d_Model_asks_104 : decode Y_Model_asks.2.1 104 = .ok (.iload 4, 2) := by decide +kernel
theorem d_Model_asks_106 : decode Y_Model_asks.2.1 106 = .ok (.iastore, 1) := by decide +kernel
theorem d_Model_asks_107 : decode Y_Model_asks.2.1 107 = .ok (.aload_n 0, 1) := by decide +kernel
theorem d_Model_asks_108 : decode Y_Model_asks.2.1 108 = .ok (.getfield 117, 3) := by decide +kernel
theorem d_Model_asks_111 : decode Y_Model_asks.2.1 111 = .ok (.iload_n 1, 1) := by decide +kernel
theorem d_Model_asks_112 : decode Y_Model_asks.2.1 112 = .ok (.iconst (-1), 1) := by decide +kernel
theorem d_Model_asks_113 : decode Y_Model_asks.2.1 113 = .ok (.iastore, 1) := by decide +kernel
theorem d_Model_asks_114 : decode Y_Model_asks.2.1 114 = .ok (.aload_n 0, 1) := by decide +kernel
theorem d_Model_asks_115 : decode Y_Model_asks.2.1 115 = .ok (.dup, 1) := by decide +kernel
theorem d_Model_asks_116 : decode Y_Model_asks.2.1 116 = .ok (.getfield 243, 3) := by decide +kernel
theorem d_Model_asks_119 : decode Y_Model_asks.2.1 119 = .ok (.aload_n 0, 1) := by decide +kernel
theorem d_Model_asks_120 : decode Y_Model_asks.2.1 120 = .ok (.getfield 111, 3) := by decide +kernel
theorem d_Model_asks_123 : decode Y_Model_asks.2.1 123 = .ok (.iload_n 1, 1) := by decide +kernel
theorem d_Model_asks_124 : decode Y_Model_asks.2.1 124 = .ok (.iaload, 1) := by decide +kernel
theorem d_Model_asks_125 : decode Y_Model_asks.2.1 125 = .ok (.iadd, 1) := by decide +kernel
theorem d_Model_asks_126 : decode Y_Model_asks.2.1 126 = .ok (.putfield 243, 3) := by decide +kernel
theorem d_Model_asks_129 : decode Y_Model_asks.2.1 129 = .ok (.aload_n 0, 1) := by decide +kernel
theorem d_Model_asks_130 : decode Y_Model_asks.2.1 130 = .ok (.aload_n 0, 1) := by decide +kernel
theorem d_Model_asks_131 : decode Y_Model_asks.2.1 131 = .ok (.getfield 195, 3) := by decide +kernel
theorem d_Model_asks_134 : decode Y_Model_asks.2.1 134 = .ok (.ifCond .ne 13, 3) := by decide +kernel
theorem d_Model_asks_137 : decode Y_Model_asks.2.1 137 = .ok (.aload_n 0, 1) := by decide +kernel
theorem d_Model_asks_138 : decode Y_Model_asks.2.1 138 = .ok (.getfield 243, 3) := by decide +kernel
theorem d_Model_asks_141 : decode Y_Model_asks.2.1 141 = .ok (.sipush 800, 3) := by decide +kernel
theorem d_Model_asks_144 : decode Y_Model_asks.2.1 144 = .ok (.if_icmp .le 7, 3) := by decide +kernel
theorem d_Model_asks_147 : decode Y_Model_asks.2.1 147 = .ok (.iconst 1, 1) := by decide +kernel
theorem d_Model_asks_148 : decode Y_Model_asks.2.1 148 = .ok (.goto 4, 3) := by decide +kernel
theorem d_Model_asks_151 : decode Y_Model_asks.2.1 151 = .ok (.iconst 0, 1) := by decide +kernel
theorem d_Model_asks_152 : decode Y_Model_asks.2.1 152 = .ok (.putfield 195, 3) := by decide +kernel
theorem d_Model_asks_155 : decode Y_Model_asks.2.1 155 = .ok (.aload_n 0, 1) := by decide +kernel
theorem d_Model_asks_156 : decode Y_Model_asks.2.1 156 = .ok (.getfield 53, 3) := by decide +kernel
theorem d_Model_asks_159 : decode Y_Model_asks.2.1 159 = .ok (.aload_n 0, 1) := by decide +kernel
theorem d_Model_asks_160 : decode Y_Model_asks.2.1 160 = .ok (.getfield 225, 3) := by decide +kernel
theorem d_Model_asks_163 : decode Y_Model_asks.2.1 163 = .ok (.aload_n 0, 1) := by decide +kernel
theorem d_Model_asks_164 : decode Y_Model_asks.2.1 164 = .ok (.getfield 111, 3) := by decide +kernel
theorem d_Model_asks_167 : decode Y_Model_asks.2.1 167 = .ok (.iload_n 1, 1) := by decide +kernel
theorem d_Model_asks_168 : decode Y_Model_asks.2.1 168 = .ok (.iaload, 1) := by decide +kernel
theorem d_Model_asks_169 : decode Y_Model_asks.2.1 169 = .ok (.iastore, 1) := by decide +kernel
theorem d_Model_asks_170 : decode Y_Model_asks.2.1 170 = .ok (.aload_n 0, 1) := by decide +kernel
theorem d_Model_asks_171 : decode Y_Model_asks.2.1 171 = .ok (.getfield 56, 3) := by decide +kernel
theorem d_Model_asks_174 : decode Y_Model_asks.2.1 174 = .ok (.aload_n 0, 1) := by decide +kernel
theorem d_Model_asks_175 : decode Y_Model_asks.2.1 175 = .ok (.getfield 225, 3) := by decide +kernel
theorem d_Model_asks_178 : decode Y_Model_asks.2.1 178 = .ok (.aload_n 0, 1) := by decide +kernel
theorem d_Model_asks_179 : decode Y_Model_asks.2.1 179 = .ok (.iload_n 3, 1) := by decide +kernel
theorem d_Model_asks_180 : decode Y_Model_asks.2.1 180 = .ok (.aload_n 0, 1) := by decide +kernel
theorem d_Model_asks_181 : decode Y_Model_asks.2.1 181 = .ok (.getfield 111, 3) := by decide +kernel
theorem d_Model_asks_184 : decode Y_Model_asks.2.1 184 = .ok (.iload_n 1, 1) := by decide +kernel
theorem d_Model_asks_185 : decode Y_Model_asks.2.1 185 = .ok (.iaload, 1) := by decide +kernel
theorem d_Model_asks_186 : decode Y_Model_asks.2.1 186 = .ok (.iload 4, 2) := by decide +kernel
theorem d_Model_asks_188 : decode Y_Model_asks.2.1 188 = .ok (.invokevirtual 261, 3) := by decide +kernel
theorem d_Model_asks_191 : decode Y_Model_asks.2.1 191 = .ok (.iastore, 1) := by decide +kernel
theorem d_Model_asks_192 : decode Y_Model_asks.2.1 192 = .ok (.aload_n 0, 1) := by decide +kernel
theorem d_Model_asks_193 : decode Y_Model_asks.2.1 193 = .ok (.getfield 59, 3) := by decide +kernel
theorem d_Model_asks_196 : decode Y_Model_asks.2.1 196 = .ok (.aload_n 0, 1) := by decide +kernel
theorem d_Model_asks_197 : decode Y_Model_asks.2.1 197 = .ok (.getfield 225, 3) := by decide +kernel
theorem d_Model_asks_200 : decode Y_Model_asks.2.1 200 = .ok (.iload_n 2, 1) := by decide +kernel
theorem d_Model_asks_201 : decode Y_Model_asks.2.1 201 = .ok (.iastore, 1) := by decide +kernel
theorem d_Model_asks_202 : decode Y_Model_asks.2.1 202 = .ok (.aload_n 0, 1) := by decide +kernel
theorem d_Model_asks_203 : decode Y_Model_asks.2.1 203 = .ok (.getfield 62, 3) := by decide +kernel
theorem d_Model_asks_206 : decode Y_Model_asks.2.1 206 = .ok (.aload_n 0, 1) := by decide +kernel
theorem d_Model_asks_207 : decode Y_Model_asks.2.1 207 = .ok (.getfield 225, 3) := by decide +kernel
theorem d_Model_asks_210 : decode Y_Model_asks.2.1 210 = .ok (.aload_n 0, 1) := by decide +kernel
theorem d_Model_asks_211 : decode Y_Model_asks.2.1 211 = .ok (.getfield 71, 3) := by decide +kernel
theorem d_Model_asks_214 : decode Y_Model_asks.2.1 214 = .ok (.iload 4, 2) := by decide +kernel
theorem d_Model_asks_216 : decode Y_Model_asks.2.1 216 = .ok (.iaload, 1) := by decide +kernel
theorem d_Model_asks_217 : decode Y_Model_asks.2.1 217 = .ok (.iastore, 1) := by decide +kernel
theorem d_Model_asks_218 : decode Y_Model_asks.2.1 218 = .ok (.aload_n 0, 1) := by decide +kernel
theorem d_Model_asks_219 : decode Y_Model_asks.2.1 219 = .ok (.getfield 65, 3) := by decide +kernel
theorem d_Model_asks_222 : decode Y_Model_asks.2.1 222 = .ok (.aload_n 0, 1) := by decide +kernel
theorem d_Model_asks_223 : decode Y_Model_asks.2.1 223 = .ok (.getfield 225, 3) := by decide +kernel
theorem d_Model_asks_226 : decode Y_Model_asks.2.1 226 = .ok (.iload 5, 2) := by decide +kernel
theorem d_Model_asks_228 : decode Y_Model_asks.2.1 228 = .ok (.iastore, 1) := by decide +kernel
theorem d_Model_asks_229 : decode Y_Model_asks.2.1 229 = .ok (.aload_n 0, 1) := by decide +kernel
theorem d_Model_asks_230 : decode Y_Model_asks.2.1 230 = .ok (.getfield 68, 3) := by decide +kernel
theorem d_Model_asks_233 : decode Y_Model_asks.2.1 233 = .ok (.aload_n 0, 1) := by decide +kernel
theorem d_Model_asks_234 : decode Y_Model_asks.2.1 234 = .ok (.getfield 225, 3) := by decide +kernel
theorem d_Model_asks_237 : decode Y_Model_asks.2.1 237 = .ok (.iload 6, 2) := by decide +kernel
theorem d_Model_asks_239 : decode Y_Model_asks.2.1 239 = .ok (.iastore, 1) := by decide +kernel
theorem d_Model_asks_240 : decode Y_Model_asks.2.1 240 = .ok (.aload_n 0, 1) := by decide +kernel
theorem d_Model_asks_241 : decode Y_Model_asks.2.1 241 = .ok (.dup, 1) := by decide +kernel
theorem d_Model_asks_242 : decode Y_Model_asks.2.1 242 = .ok (.getfield 225, 3) := by decide +kernel
theorem d_Model_asks_245 : decode Y_Model_asks.2.1 245 = .ok (.iconst 1, 1) := by decide +kernel
theorem d_Model_asks_246 : decode Y_Model_asks.2.1 246 = .ok (.iadd, 1) := by decide +kernel
theorem d_Model_asks_247 : decode Y_Model_asks.2.1 247 = .ok (.putfield 225, 3) := by decide +kernel
theorem d_Model_asks_250 : decode Y_Model_asks.2.1 250 = .ok (.return_, 1) := by decide +kernel
section MN
variable {E : gE} {d : Nat} {G G0 : gS} {m n : Nat} {s : mS} {Q : gO → gS → Prop}
theorem wA_same {j q : Nat} : wA s j q (s.2 j q) = s := by
  refine Prod.ext rfl (funext fun i => ?_)
  simp only [wA, wR, upA]
  by_cases e : i = j
  · subst e
    rw [if_pos rfl]
    funext x
    simp only [upd]
    by_cases c : x = q
    · rw [if_pos c, c]
    · rw [if_neg c]
  · rw [if_neg e]
def rAnsT (s : mS) (A K P : Nat) (p : Int32) : Int32 := if s.2 0 (tn (s.2 21 P)) ≤ 1 then (rCnt s A K p (K + 2) (rAb s A p 0 1 K).1 (rAb s A p 0 1 K).2 0).2 else s.2 39 0
theorem rAnsw_2 {A K P : Nat} {p : Int32} : (rAnsw s A K P p).2 = wA s 39 0 (rAnsT s A K P p) := by
  unfold rAnsw rAnsT
  by_cases c : s.2 0 (tn (s.2 21 P)) ≤ 1
  · rw [if_pos c, if_pos c]
  · rw [if_neg c, if_neg c, wA_same]
theorem m_W_answersT (hmn : m < n) {p : Int32} {P : Nat} {f q : Int32} {A K : Nat} (hf : f.toInt = (A : Int)) (hq : q.toInt = (K : Int)) (hR : ∀ R, R < A + K → ¬ s.2 27 R < 0 ∧ tn (s.2 27 R) ≤ 26) (hW : ∀ R, R < A + K → ∀ j, j < tn (s.2 27 R) → ¬ s.2 29 (26 * R + j) < 0 ∧ tn (s.2 29 (26 * R + j)) < 700) (bA : A + K ≤ 41640) (hp : p.toInt = (P : Int)) (bP : P < 2200) (hT : ¬ s.2 21 P < 0 ∧ tn (s.2 21 P) < 16) : GM E Y_Model_answers (d + 2) [.ref m, .int f, .int q, .int p] (mW E G m n s) (rIs (some (.int (rAnsw s A K P p).1)) (mW E G m n (wA s 39 0 (rAnsT s A K P p)))) := by
  have K_ := m_W_answers (E := E) (d := d) (G := G) hmn hf hq hR hW bA hp bP hT
  rw [rAnsw_2] at K_
  exact K_
/-- the question and the answer before: of the steps below k -/
def rPar (s : mS) : Nat → Int32 × Int32
  | 0 => (-1, 0)
  | k + 1 => (if s.2 33 k = -1 then (rPar s k).1 else s.2 33 k, if s.2 33 k = -1 then (rPar s k).2 else s.2 34 k)
def rTM (s : mS) (D : Nat) : Int32 := if ¬ s.1 47 = 0 ∨ ¬ s.1 26 + s.2 32 D ≤ 800 then 1 else 0
set_option maxHeartbeats 400000 in
set_option maxRecDepth 100000 in
theorem m_W_asks_l (hmn : m < n) {q1 q2 q3 q4 : Int32} {D : Nat} (hD : q1.toInt = (D : Int)) (bD : D < 520) (kk : GT E Y_Model_asks d G0 89 [(0, .ref m), (1, .int q1), (2, .int q2), (3, .int q3), (4, .int q4), (5, .int (rPar s D).1), (6, .int (rPar s D).2)] [] (mW E G m n s) Q) : ∀ (w k : Nat), D + 1 ≤ k + w → k ≤ D → GT E Y_Model_asks d G0 27 [(0, .ref m), (1, .int q1), (2, .int q2), (3, .int q3), (4, .int q4), (5, .int (rPar s k).1), (6, .int (rPar s k).2), (7, .int (nI k))] [] (mW E G m n s) Q := by
  intro w
  induction w with
  | zero => intro k h1 h2; omega
  | succ w ih =>
    intro k hm hkN
    refine g_iload d_Model_asks_27 rfl ?_
    refine g_iload_n d_Model_asks_29 rfl ?_
    refine g_icmp_ge (tgt := 89) d_Model_asks_30 (by decide) (fun c_30 => ?_) (fun c_30 => ?_)
    · have e : k = D := by have := (le_hi hD (nI_hi (n := k) (by omega))).mp c_30; omega
      subst e
      exact g_weak (lv := [(0, .ref m), (1, .int q1), (2, .int q2), (3, .int q3), (4, .int q4), (5, .int (rPar s k).1), (6, .int (rPar s k).2), (7, .int (nI k))]) (by simp) (by simp) kk
    · have hk : k < D := Nat.not_le.mp (fun y => c_30 ((le_hi hD (nI_hi (n := k) (by omega))).mpr y))
      refine g_aload_n d_Model_asks_33 rfl ?_
      refine w_get (k := 50) fl_Model_114 (by decide) rfl d_Model_asks_34 ?_
      refine g_iload d_Model_asks_37 rfl ?_
      refine w_ald (j := 33) (q := k) (x := s.2 33 (k)) hmn (by decide) (by decide) (nI_hi (n := k) (by omega)) (by show _ < 520; omega) rfl d_Model_asks_39 ?_
      refine g_iconst (v := (-1)) d_Model_asks_40 (by decide) ?_
      refine g_icmp_eq (tgt := 54) d_Model_asks_41 (by decide) (fun c_41 => ?_) (fun c_41 => ?_)
      · refine g_iload d_Model_asks_54 rfl ?_
        refine g_istore d_Model_asks_56 (by decide) rfl ?_
        refine g_aload_n d_Model_asks_58 rfl ?_
        refine w_get (k := 50) fl_Model_114 (by decide) rfl d_Model_asks_59 ?_
        refine g_iload d_Model_asks_62 rfl ?_
        refine w_ald (j := 33) (q := k) (x := s.2 33 (k)) hmn (by decide) (by decide) (nI_hi (n := k) (by omega)) (by show _ < 520; omega) rfl d_Model_asks_64 ?_
        refine g_iconst (v := (-1)) d_Model_asks_65 (by decide) ?_
        refine g_icmp_eq (tgt := 79) d_Model_asks_66 (by decide) (fun c_66 => ?_) (fun c_66 => ?_)
        rotate_left
        · exact absurd c_66 (fun y => y c_41)
        refine g_iload d_Model_asks_79 rfl ?_
        refine g_istore d_Model_asks_81 (by decide) rfl ?_
        refine g_iinc (v := nI k + 1) d_Model_asks_83 rfl (by rfl) (by decide) rfl ?_
        refine g_goto (tgt := 27) d_Model_asks_86 (by decide) ?_
        have e : rPar s (k + 1) = ((rPar s k).1, (rPar s k).2) := Prod.ext (if_pos c_41) (if_pos c_41)
        have K_ := ih (k + 1) (by omega) (by omega)
        rw [e] at K_
        dsimp only at K_
        rw [nI_1]
        exact K_
      · refine g_aload_n d_Model_asks_44 rfl ?_
        refine w_get (k := 50) fl_Model_114 (by decide) rfl d_Model_asks_45 ?_
        refine g_iload d_Model_asks_48 rfl ?_
        refine w_ald (j := 33) (q := k) (x := s.2 33 (k)) hmn (by decide) (by decide) (nI_hi (n := k) (by omega)) (by show _ < 520; omega) rfl d_Model_asks_50 ?_
        refine g_goto (tgt := 56) d_Model_asks_51 (by decide) ?_
        refine g_istore d_Model_asks_56 (by decide) rfl ?_
        refine g_aload_n d_Model_asks_58 rfl ?_
        refine w_get (k := 50) fl_Model_114 (by decide) rfl d_Model_asks_59 ?_
        refine g_iload d_Model_asks_62 rfl ?_
        refine w_ald (j := 33) (q := k) (x := s.2 33 (k)) hmn (by decide) (by decide) (nI_hi (n := k) (by omega)) (by show _ < 520; omega) rfl d_Model_asks_64 ?_
        refine g_iconst (v := (-1)) d_Model_asks_65 (by decide) ?_
        refine g_icmp_eq (tgt := 79) d_Model_asks_66 (by decide) (fun c_66 => ?_) (fun c_66 => ?_)
        · exact absurd c_66 c_41
        refine g_aload_n d_Model_asks_69 rfl ?_
        refine w_get (k := 51) fl_Model_117 (by decide) rfl d_Model_asks_70 ?_
        refine g_iload d_Model_asks_73 rfl ?_
        refine w_ald (j := 34) (q := k) (x := s.2 34 (k)) hmn (by decide) (by decide) (nI_hi (n := k) (by omega)) (by show _ < 520; omega) rfl d_Model_asks_75 ?_
        refine g_goto (tgt := 81) d_Model_asks_76 (by decide) ?_
        refine g_istore d_Model_asks_81 (by decide) rfl ?_
        refine g_iinc (v := nI k + 1) d_Model_asks_83 rfl (by rfl) (by decide) rfl ?_
        refine g_goto (tgt := 27) d_Model_asks_86 (by decide) ?_
        have e : rPar s (k + 1) = (s.2 33 (k), s.2 34 (k)) := Prod.ext (if_neg c_41) (if_neg c_41)
        have K_ := ih (k + 1) (by omega) (by omega)
        rw [e] at K_
        dsimp only at K_
        rw [nI_1]
        exact K_
def rAsks (s : mS) (D A K P : Nat) (wy : Int32) : mS := (wF (wA (wA (wA (wA (wA (wA (wA (wF (wF (wA (wA (wA s 33 (D) (s.1 20)) 35 (D) ((s.2 28 (26 * A)))) 34 (D) ((-1))) 26 ((s.1 26) + (s.2 32 (D)))) 47 (rTM s D)) 14 (tn (s.1 20)) (s.2 32 (D))) 39 (0) (rAnsT (wA (wF (wF (wA (wA (wA s 33 (D) (s.1 20)) 35 (D) ((s.2 28 (26 * A)))) 34 (D) ((-1))) 26 ((s.1 26) + (s.2 32 (D)))) 47 (rTM s D)) 14 (tn (s.1 20)) (s.2 32 (D))) A K P (s.2 28 (26 * A)))) 15 (tn (s.1 20)) ((rAnsw (wA (wF (wF (wA (wA (wA s 33 (D) (s.1 20)) 35 (D) ((s.2 28 (26 * A)))) 34 (D) ((-1))) 26 ((s.1 26) + (s.2 32 (D)))) 47 (rTM s D)) 14 (tn (s.1 20)) (s.2 32 (D))) A K P (s.2 28 (26 * A))).1)) 16 (tn (s.1 20)) (wy)) 17 (tn (s.1 20)) (s.2 20 (P))) 18 (tn (s.1 20)) ((rPar s D).1)) 19 (tn (s.1 20)) ((rPar s D).2)) 20 ((s.1 20) + (1)))
set_option maxHeartbeats 400000 in
set_option maxRecDepth 100000 in
theorem m_W_asks (hmn : m < n) {dd wy : Int32} {D A K P : Nat} (hD : dd.toInt = (D : Int)) (bD : D < 520) (hf : (s.2 31 D).toInt = (A : Int)) (hq : (s.2 32 D).toInt = (K : Int)) (hR : ∀ R, R < A + K → ¬ s.2 27 R < 0 ∧ tn (s.2 27 R) ≤ 26) (hW : ∀ R, R < A + K → ∀ j, j < tn (s.2 27 R) → ¬ s.2 29 (26 * R + j) < 0 ∧ tn (s.2 29 (26 * R + j)) < 700) (bA : A + K ≤ 41640) (K1 : 1 ≤ K) (hp : (s.2 28 (26 * A)).toInt = (P : Int)) (bP : P < 2200) (hT : ¬ s.2 21 P < 0 ∧ tn (s.2 21 P) < 16) (h20 : ¬ s.1 20 < 0) (b20 : tn (s.1 20) < 1001) : GM E Y_Model_asks (d + 3) [.ref m, .int dd, .int wy] (mW E G m n s) (rIs none (mW E G m n (rAsks s D A K P wy))) := by
  refine g_entry (by decide) (by simp [Value.category]) (Nat.le_of_ble_eq_true rfl) ?_
  refine g_aload_n d_Model_asks_0 rfl ?_
  refine w_get (k := 48) fl_Model_108 (by decide) rfl d_Model_asks_1 ?_
  refine g_iload_n d_Model_asks_4 rfl ?_
  refine w_ald (j := 31) (q := D) (x := s.2 31 (D)) hmn (by decide) (by decide) hD (by show _ < 520; omega) rfl d_Model_asks_5 ?_
  refine g_istore_n d_Model_asks_6 (by decide) rfl ?_
  refine g_aload_n d_Model_asks_7 rfl ?_
  refine w_get (k := 43) fl_Model_98 (by decide) rfl d_Model_asks_8 ?_
  refine g_bipush (v := 26) d_Model_asks_11 (by decide) ?_
  refine g_iload_n d_Model_asks_13 rfl ?_
  refine g_imul d_Model_asks_14 ?_
  refine w_ald (j := 28) (q := 26 * A) (x := s.2 28 (26 * A)) hmn (by decide) (by decide) (mul_hi (a := 26) (m := 26) (by decide) hf (by omega)) (by show _ < 1082640; omega) rfl d_Model_asks_15 ?_
  refine g_istore d_Model_asks_16 (by decide) rfl ?_
  refine g_iconst (v := (-1)) d_Model_asks_18 (by decide) ?_
  refine g_istore d_Model_asks_19 (by decide) rfl ?_
  refine g_iconst (v := 0) d_Model_asks_21 (by decide) ?_
  refine g_istore d_Model_asks_22 (by decide) rfl ?_
  refine g_iconst (v := 0) d_Model_asks_24 (by decide) ?_
  refine g_istore d_Model_asks_25 (by decide) rfl ?_
  refine m_W_asks_l (s := s) hmn hD bD ?_ (D + 1) 0 (by omega) (by omega)
  refine g_aload_n d_Model_asks_89 rfl ?_
  refine w_get (k := 50) fl_Model_114 (by decide) rfl d_Model_asks_90 ?_
  refine g_iload_n d_Model_asks_93 rfl ?_
  refine g_aload_n d_Model_asks_94 rfl ?_
  refine w_get (k := 20) (x := .int (s.1 20)) fl_Model_225 (by decide) rfl d_Model_asks_95 ?_
  refine w_ast (j := 33) (q := D) hmn (by decide) (by decide) hD (by show _ < 520; omega) d_Model_asks_98 ?_
  refine g_aload_n d_Model_asks_99 rfl ?_
  refine w_get (k := 52) fl_Model_120 (by decide) rfl d_Model_asks_100 ?_
  refine g_iload_n d_Model_asks_103 rfl ?_
  refine g_iload d_Model_asks_104 rfl ?_
  refine w_ast (j := 35) (q := D) hmn (by decide) (by decide) hD (by show _ < 520; omega) d_Model_asks_106 ?_
  refine g_aload_n d_Model_asks_107 rfl ?_
  refine w_get (k := 51) fl_Model_117 (by decide) rfl d_Model_asks_108 ?_
  refine g_iload_n d_Model_asks_111 rfl ?_
  refine g_iconst (v := (-1)) d_Model_asks_112 (by decide) ?_
  refine w_ast (j := 34) (q := D) hmn (by decide) (by decide) hD (by show _ < 520; omega) d_Model_asks_113 ?_
  refine g_aload_n d_Model_asks_114 rfl ?_
  refine g_dup d_Model_asks_115 rfl ?_
  refine w_get (k := 26) (x := .int (s.1 26)) fl_Model_243 (by decide) rfl d_Model_asks_116 ?_
  refine g_aload_n d_Model_asks_119 rfl ?_
  refine w_get (k := 49) fl_Model_111 (by decide) rfl d_Model_asks_120 ?_
  refine g_iload_n d_Model_asks_123 rfl ?_
  refine w_ald (j := 32) (q := D) (x := s.2 32 (D)) hmn (by decide) (by decide) hD (by show _ < 520; omega) rfl d_Model_asks_124 ?_
  refine g_iadd d_Model_asks_125 ?_
  refine w_put (k := 26) fl_Model_243 (by decide) rfl rfl rfl rfl (Nat.le_of_ble_eq_true rfl) d_Model_asks_126 ?_
  refine g_aload_n d_Model_asks_129 rfl ?_
  refine g_aload_n d_Model_asks_130 rfl ?_
  refine w_get (k := 47) (x := .int (s.1 47)) fl_Model_195 (by decide) rfl d_Model_asks_131 ?_
  refine g_if_ne (tgt := 147) d_Model_asks_134 (by decide) (fun c_134 => ?_) (fun c_134 => ?_)
  · refine g_iconst (v := 1) d_Model_asks_147 (by decide) ?_
    refine g_goto (tgt := 152) d_Model_asks_148 (by decide) ?_
    refine w_put (k := 47) fl_Model_195 (by decide) rfl rfl rfl rfl (Nat.le_of_ble_eq_true rfl) d_Model_asks_152 ?_
    refine g_aload_n d_Model_asks_155 rfl ?_
    refine w_get (k := 28) fl_Model_53 (by decide) rfl d_Model_asks_156 ?_
    refine g_aload_n d_Model_asks_159 rfl ?_
    refine w_get (k := 20) (x := .int (s.1 20)) fl_Model_225 (by decide) rfl d_Model_asks_160 ?_
    refine g_aload_n d_Model_asks_163 rfl ?_
    refine w_get (k := 49) fl_Model_111 (by decide) rfl d_Model_asks_164 ?_
    refine g_iload_n d_Model_asks_167 rfl ?_
    refine w_ald (j := 32) (q := D) (x := s.2 32 (D)) hmn (by decide) (by decide) hD (by show _ < 520; omega) rfl d_Model_asks_168 ?_
    refine w_ast (j := 14) (q := tn (s.1 20)) hmn (by decide) (by decide) (tn_hi h20) (by show _ < 1001; omega) d_Model_asks_169 ?_
    refine g_aload_n d_Model_asks_170 rfl ?_
    refine w_get (k := 29) fl_Model_56 (by decide) rfl d_Model_asks_171 ?_
    refine g_aload_n d_Model_asks_174 rfl ?_
    refine w_get (k := 20) (x := .int (s.1 20)) fl_Model_225 (by decide) rfl d_Model_asks_175 ?_
    refine g_aload_n d_Model_asks_178 rfl ?_
    refine g_iload_n d_Model_asks_179 rfl ?_
    refine g_aload_n d_Model_asks_180 rfl ?_
    refine w_get (k := 49) fl_Model_111 (by decide) rfl d_Model_asks_181 ?_
    refine g_iload_n d_Model_asks_184 rfl ?_
    refine w_ald (j := 32) (q := D) (x := s.2 32 (D)) hmn (by decide) (by decide) hD (by show _ < 520; omega) rfl d_Model_asks_185 ?_
    refine g_iload d_Model_asks_186 rfl ?_
    refine c_Vr (as := [.int (s.2 31 D), .int (s.2 32 (D)), .int ((s.2 28 (26 * A)))]) kv_Model_answers ml_Model_261 rfl mw_f (m_W_answersT (d := d) (s := (wA (wF (wF (wA (wA (wA s 33 (D) (s.1 20)) 35 (D) ((s.2 28 (26 * A)))) 34 (D) ((-1))) 26 ((s.1 26) + (s.2 32 (D)))) 47 (1)) 14 (tn (s.1 20)) (s.2 32 (D)))) (P := P) hmn hf hq hR hW bA hp bP hT) rfl (Nat.le_of_ble_eq_true rfl) rfl d_Model_asks_188 rfl ?_
    refine w_ast (j := 15) (q := tn (s.1 20)) hmn (by decide) (by decide) (tn_hi h20) (by show _ < 1001; omega) d_Model_asks_191 ?_
    refine g_aload_n d_Model_asks_192 rfl ?_
    refine w_get (k := 30) fl_Model_59 (by decide) rfl d_Model_asks_193 ?_
    refine g_aload_n d_Model_asks_196 rfl ?_
    refine w_get (k := 20) (x := .int (s.1 20)) fl_Model_225 (by decide) rfl d_Model_asks_197 ?_
    refine g_iload_n d_Model_asks_200 rfl ?_
    refine w_ast (j := 16) (q := tn (s.1 20)) hmn (by decide) (by decide) (tn_hi h20) (by show _ < 1001; omega) d_Model_asks_201 ?_
    refine g_aload_n d_Model_asks_202 rfl ?_
    refine w_get (k := 31) fl_Model_62 (by decide) rfl d_Model_asks_203 ?_
    refine g_aload_n d_Model_asks_206 rfl ?_
    refine w_get (k := 20) (x := .int (s.1 20)) fl_Model_225 (by decide) rfl d_Model_asks_207 ?_
    refine g_aload_n d_Model_asks_210 rfl ?_
    refine w_get (k := 35) fl_Model_71 (by decide) rfl d_Model_asks_211 ?_
    refine g_iload d_Model_asks_214 rfl ?_
    refine w_ald (j := 20) (q := P) (x := s.2 20 (P)) hmn (by decide) (by decide) hp (by show _ < 2200; omega) rfl d_Model_asks_216 ?_
    refine w_ast (j := 17) (q := tn (s.1 20)) hmn (by decide) (by decide) (tn_hi h20) (by show _ < 1001; omega) d_Model_asks_217 ?_
    refine g_aload_n d_Model_asks_218 rfl ?_
    refine w_get (k := 32) fl_Model_65 (by decide) rfl d_Model_asks_219 ?_
    refine g_aload_n d_Model_asks_222 rfl ?_
    refine w_get (k := 20) (x := .int (s.1 20)) fl_Model_225 (by decide) rfl d_Model_asks_223 ?_
    refine g_iload d_Model_asks_226 rfl ?_
    refine w_ast (j := 18) (q := tn (s.1 20)) hmn (by decide) (by decide) (tn_hi h20) (by show _ < 1001; omega) d_Model_asks_228 ?_
    refine g_aload_n d_Model_asks_229 rfl ?_
    refine w_get (k := 33) fl_Model_68 (by decide) rfl d_Model_asks_230 ?_
    refine g_aload_n d_Model_asks_233 rfl ?_
    refine w_get (k := 20) (x := .int (s.1 20)) fl_Model_225 (by decide) rfl d_Model_asks_234 ?_
    refine g_iload d_Model_asks_237 rfl ?_
    refine w_ast (j := 19) (q := tn (s.1 20)) hmn (by decide) (by decide) (tn_hi h20) (by show _ < 1001; omega) d_Model_asks_239 ?_
    refine g_aload_n d_Model_asks_240 rfl ?_
    refine g_dup d_Model_asks_241 rfl ?_
    refine w_get (k := 20) (x := .int (s.1 20)) fl_Model_225 (by decide) rfl d_Model_asks_242 ?_
    refine g_iconst (v := 1) d_Model_asks_245 (by decide) ?_
    refine g_iadd d_Model_asks_246 ?_
    refine w_put (k := 20) fl_Model_225 (by decide) rfl rfl rfl rfl (Nat.le_of_ble_eq_true rfl) d_Model_asks_247 ?_
    refine g_vret rfl d_Model_asks_250 ?_
    have eb : rTM s D = 1 := if_pos (Or.inl c_134)
    unfold rAsks
    rw [eb]
    exact ⟨rfl, rfl⟩
  · refine g_aload_n d_Model_asks_137 rfl ?_
    refine w_get (k := 26) (x := .int ((s.1 26) + (s.2 32 (D)))) fl_Model_243 (by decide) rfl d_Model_asks_138 ?_
    refine g_sipush (v := 800) d_Model_asks_141 (by decide) ?_
    refine g_icmp_le (tgt := 151) d_Model_asks_144 (by decide) (fun c_144 => ?_) (fun c_144 => ?_)
    · refine g_iconst (v := 0) d_Model_asks_151 (by decide) ?_
      refine w_put (k := 47) fl_Model_195 (by decide) rfl rfl rfl rfl (Nat.le_of_ble_eq_true rfl) d_Model_asks_152 ?_
      refine g_aload_n d_Model_asks_155 rfl ?_
      refine w_get (k := 28) fl_Model_53 (by decide) rfl d_Model_asks_156 ?_
      refine g_aload_n d_Model_asks_159 rfl ?_
      refine w_get (k := 20) (x := .int (s.1 20)) fl_Model_225 (by decide) rfl d_Model_asks_160 ?_
      refine g_aload_n d_Model_asks_163 rfl ?_
      refine w_get (k := 49) fl_Model_111 (by decide) rfl d_Model_asks_164 ?_
      refine g_iload_n d_Model_asks_167 rfl ?_
      refine w_ald (j := 32) (q := D) (x := s.2 32 (D)) hmn (by decide) (by decide) hD (by show _ < 520; omega) rfl d_Model_asks_168 ?_
      refine w_ast (j := 14) (q := tn (s.1 20)) hmn (by decide) (by decide) (tn_hi h20) (by show _ < 1001; omega) d_Model_asks_169 ?_
      refine g_aload_n d_Model_asks_170 rfl ?_
      refine w_get (k := 29) fl_Model_56 (by decide) rfl d_Model_asks_171 ?_
      refine g_aload_n d_Model_asks_174 rfl ?_
      refine w_get (k := 20) (x := .int (s.1 20)) fl_Model_225 (by decide) rfl d_Model_asks_175 ?_
      refine g_aload_n d_Model_asks_178 rfl ?_
      refine g_iload_n d_Model_asks_179 rfl ?_
      refine g_aload_n d_Model_asks_180 rfl ?_
      refine w_get (k := 49) fl_Model_111 (by decide) rfl d_Model_asks_181 ?_
      refine g_iload_n d_Model_asks_184 rfl ?_
      refine w_ald (j := 32) (q := D) (x := s.2 32 (D)) hmn (by decide) (by decide) hD (by show _ < 520; omega) rfl d_Model_asks_185 ?_
      refine g_iload d_Model_asks_186 rfl ?_
      refine c_Vr (as := [.int (s.2 31 D), .int (s.2 32 (D)), .int ((s.2 28 (26 * A)))]) kv_Model_answers ml_Model_261 rfl mw_f (m_W_answersT (d := d) (s := (wA (wF (wF (wA (wA (wA s 33 (D) (s.1 20)) 35 (D) ((s.2 28 (26 * A)))) 34 (D) ((-1))) 26 ((s.1 26) + (s.2 32 (D)))) 47 (0)) 14 (tn (s.1 20)) (s.2 32 (D)))) (P := P) hmn hf hq hR hW bA hp bP hT) rfl (Nat.le_of_ble_eq_true rfl) rfl d_Model_asks_188 rfl ?_
      refine w_ast (j := 15) (q := tn (s.1 20)) hmn (by decide) (by decide) (tn_hi h20) (by show _ < 1001; omega) d_Model_asks_191 ?_
      refine g_aload_n d_Model_asks_192 rfl ?_
      refine w_get (k := 30) fl_Model_59 (by decide) rfl d_Model_asks_193 ?_
      refine g_aload_n d_Model_asks_196 rfl ?_
      refine w_get (k := 20) (x := .int (s.1 20)) fl_Model_225 (by decide) rfl d_Model_asks_197 ?_
      refine g_iload_n d_Model_asks_200 rfl ?_
      refine w_ast (j := 16) (q := tn (s.1 20)) hmn (by decide) (by decide) (tn_hi h20) (by show _ < 1001; omega) d_Model_asks_201 ?_
      refine g_aload_n d_Model_asks_202 rfl ?_
      refine w_get (k := 31) fl_Model_62 (by decide) rfl d_Model_asks_203 ?_
      refine g_aload_n d_Model_asks_206 rfl ?_
      refine w_get (k := 20) (x := .int (s.1 20)) fl_Model_225 (by decide) rfl d_Model_asks_207 ?_
      refine g_aload_n d_Model_asks_210 rfl ?_
      refine w_get (k := 35) fl_Model_71 (by decide) rfl d_Model_asks_211 ?_
      refine g_iload d_Model_asks_214 rfl ?_
      refine w_ald (j := 20) (q := P) (x := s.2 20 (P)) hmn (by decide) (by decide) hp (by show _ < 2200; omega) rfl d_Model_asks_216 ?_
      refine w_ast (j := 17) (q := tn (s.1 20)) hmn (by decide) (by decide) (tn_hi h20) (by show _ < 1001; omega) d_Model_asks_217 ?_
      refine g_aload_n d_Model_asks_218 rfl ?_
      refine w_get (k := 32) fl_Model_65 (by decide) rfl d_Model_asks_219 ?_
      refine g_aload_n d_Model_asks_222 rfl ?_
      refine w_get (k := 20) (x := .int (s.1 20)) fl_Model_225 (by decide) rfl d_Model_asks_223 ?_
      refine g_iload d_Model_asks_226 rfl ?_
      refine w_ast (j := 18) (q := tn (s.1 20)) hmn (by decide) (by decide) (tn_hi h20) (by show _ < 1001; omega) d_Model_asks_228 ?_
      refine g_aload_n d_Model_asks_229 rfl ?_
      refine w_get (k := 33) fl_Model_68 (by decide) rfl d_Model_asks_230 ?_
      refine g_aload_n d_Model_asks_233 rfl ?_
      refine w_get (k := 20) (x := .int (s.1 20)) fl_Model_225 (by decide) rfl d_Model_asks_234 ?_
      refine g_iload d_Model_asks_237 rfl ?_
      refine w_ast (j := 19) (q := tn (s.1 20)) hmn (by decide) (by decide) (tn_hi h20) (by show _ < 1001; omega) d_Model_asks_239 ?_
      refine g_aload_n d_Model_asks_240 rfl ?_
      refine g_dup d_Model_asks_241 rfl ?_
      refine w_get (k := 20) (x := .int (s.1 20)) fl_Model_225 (by decide) rfl d_Model_asks_242 ?_
      refine g_iconst (v := 1) d_Model_asks_245 (by decide) ?_
      refine g_iadd d_Model_asks_246 ?_
      refine w_put (k := 20) fl_Model_225 (by decide) rfl rfl rfl rfl (Nat.le_of_ble_eq_true rfl) d_Model_asks_247 ?_
      refine g_vret rfl d_Model_asks_250 ?_
      have eb : rTM s D = 0 := if_neg (fun y => y.elim (fun z => z c_134) (fun z => z c_144))
      unfold rAsks
      rw [eb]
      exact ⟨rfl, rfl⟩
    · refine g_iconst (v := 1) d_Model_asks_147 (by decide) ?_
      refine g_goto (tgt := 152) d_Model_asks_148 (by decide) ?_
      refine w_put (k := 47) fl_Model_195 (by decide) rfl rfl rfl rfl (Nat.le_of_ble_eq_true rfl) d_Model_asks_152 ?_
      refine g_aload_n d_Model_asks_155 rfl ?_
      refine w_get (k := 28) fl_Model_53 (by decide) rfl d_Model_asks_156 ?_
      refine g_aload_n d_Model_asks_159 rfl ?_
      refine w_get (k := 20) (x := .int (s.1 20)) fl_Model_225 (by decide) rfl d_Model_asks_160 ?_
      refine g_aload_n d_Model_asks_163 rfl ?_
      refine w_get (k := 49) fl_Model_111 (by decide) rfl d_Model_asks_164 ?_
      refine g_iload_n d_Model_asks_167 rfl ?_
      refine w_ald (j := 32) (q := D) (x := s.2 32 (D)) hmn (by decide) (by decide) hD (by show _ < 520; omega) rfl d_Model_asks_168 ?_
      refine w_ast (j := 14) (q := tn (s.1 20)) hmn (by decide) (by decide) (tn_hi h20) (by show _ < 1001; omega) d_Model_asks_169 ?_
      refine g_aload_n d_Model_asks_170 rfl ?_
      refine w_get (k := 29) fl_Model_56 (by decide) rfl d_Model_asks_171 ?_
      refine g_aload_n d_Model_asks_174 rfl ?_
      refine w_get (k := 20) (x := .int (s.1 20)) fl_Model_225 (by decide) rfl d_Model_asks_175 ?_
      refine g_aload_n d_Model_asks_178 rfl ?_
      refine g_iload_n d_Model_asks_179 rfl ?_
      refine g_aload_n d_Model_asks_180 rfl ?_
      refine w_get (k := 49) fl_Model_111 (by decide) rfl d_Model_asks_181 ?_
      refine g_iload_n d_Model_asks_184 rfl ?_
      refine w_ald (j := 32) (q := D) (x := s.2 32 (D)) hmn (by decide) (by decide) hD (by show _ < 520; omega) rfl d_Model_asks_185 ?_
      refine g_iload d_Model_asks_186 rfl ?_
      refine c_Vr (as := [.int (s.2 31 D), .int (s.2 32 (D)), .int ((s.2 28 (26 * A)))]) kv_Model_answers ml_Model_261 rfl mw_f (m_W_answersT (d := d) (s := (wA (wF (wF (wA (wA (wA s 33 (D) (s.1 20)) 35 (D) ((s.2 28 (26 * A)))) 34 (D) ((-1))) 26 ((s.1 26) + (s.2 32 (D)))) 47 (1)) 14 (tn (s.1 20)) (s.2 32 (D)))) (P := P) hmn hf hq hR hW bA hp bP hT) rfl (Nat.le_of_ble_eq_true rfl) rfl d_Model_asks_188 rfl ?_
      refine w_ast (j := 15) (q := tn (s.1 20)) hmn (by decide) (by decide) (tn_hi h20) (by show _ < 1001; omega) d_Model_asks_191 ?_
      refine g_aload_n d_Model_asks_192 rfl ?_
      refine w_get (k := 30) fl_Model_59 (by decide) rfl d_Model_asks_193 ?_
      refine g_aload_n d_Model_asks_196 rfl ?_
      refine w_get (k := 20) (x := .int (s.1 20)) fl_Model_225 (by decide) rfl d_Model_asks_197 ?_
      refine g_iload_n d_Model_asks_200 rfl ?_
      refine w_ast (j := 16) (q := tn (s.1 20)) hmn (by decide) (by decide) (tn_hi h20) (by show _ < 1001; omega) d_Model_asks_201 ?_
      refine g_aload_n d_Model_asks_202 rfl ?_
      refine w_get (k := 31) fl_Model_62 (by decide) rfl d_Model_asks_203 ?_
      refine g_aload_n d_Model_asks_206 rfl ?_
      refine w_get (k := 20) (x := .int (s.1 20)) fl_Model_225 (by decide) rfl d_Model_asks_207 ?_
      refine g_aload_n d_Model_asks_210 rfl ?_
      refine w_get (k := 35) fl_Model_71 (by decide) rfl d_Model_asks_211 ?_
      refine g_iload d_Model_asks_214 rfl ?_
      refine w_ald (j := 20) (q := P) (x := s.2 20 (P)) hmn (by decide) (by decide) hp (by show _ < 2200; omega) rfl d_Model_asks_216 ?_
      refine w_ast (j := 17) (q := tn (s.1 20)) hmn (by decide) (by decide) (tn_hi h20) (by show _ < 1001; omega) d_Model_asks_217 ?_
      refine g_aload_n d_Model_asks_218 rfl ?_
      refine w_get (k := 32) fl_Model_65 (by decide) rfl d_Model_asks_219 ?_
      refine g_aload_n d_Model_asks_222 rfl ?_
      refine w_get (k := 20) (x := .int (s.1 20)) fl_Model_225 (by decide) rfl d_Model_asks_223 ?_
      refine g_iload d_Model_asks_226 rfl ?_
      refine w_ast (j := 18) (q := tn (s.1 20)) hmn (by decide) (by decide) (tn_hi h20) (by show _ < 1001; omega) d_Model_asks_228 ?_
      refine g_aload_n d_Model_asks_229 rfl ?_
      refine w_get (k := 33) fl_Model_68 (by decide) rfl d_Model_asks_230 ?_
      refine g_aload_n d_Model_asks_233 rfl ?_
      refine w_get (k := 20) (x := .int (s.1 20)) fl_Model_225 (by decide) rfl d_Model_asks_234 ?_
      refine g_iload d_Model_asks_237 rfl ?_
      refine w_ast (j := 19) (q := tn (s.1 20)) hmn (by decide) (by decide) (tn_hi h20) (by show _ < 1001; omega) d_Model_asks_239 ?_
      refine g_aload_n d_Model_asks_240 rfl ?_
      refine g_dup d_Model_asks_241 rfl ?_
      refine w_get (k := 20) (x := .int (s.1 20)) fl_Model_225 (by decide) rfl d_Model_asks_242 ?_
      refine g_iconst (v := 1) d_Model_asks_245 (by decide) ?_
      refine g_iadd d_Model_asks_246 ?_
      refine w_put (k := 20) fl_Model_225 (by decide) rfl rfl rfl rfl (Nat.le_of_ble_eq_true rfl) d_Model_asks_247 ?_
      refine g_vret rfl d_Model_asks_250 ?_
      have eb : rTM s D = 1 := if_pos (Or.inr c_144)
      unfold rAsks
      rw [eb]
      exact ⟨rfl, rfl⟩
end MN
