/-! The tree's state in the class; Tree.ask -/
theorem d_Tree_ask_0 : decode Y_Tree_ask.2.1 0 = .ok (.aload_n 0, 1) := by decide +kernel
theorem d_Tree_ask_1 : decode Y_Tree_ask.2.1 1 = .ok (.getfield 47, 3) := by decide +kernel
theorem d_Tree_ask_4 : decode Y_Tree_ask.2.1 4 = .ok (.sipush 1000, 3) := by decide +kernel
theorem d_Tree_ask_7 : decode Y_Tree_ask.2.1 7 = .ok (.if_icmp .ge 16, 3) := by decide +kernel
theorem d_Tree_ask_10 : decode Y_Tree_ask.2.1 10 = .ok (.aload_n 0, 1) := by decide +kernel
theorem d_Tree_ask_11 : decode Y_Tree_ask.2.1 11 = .ok (.getfield 12, 3) := by decide +kernel
theorem d_Tree_ask_14 : decode Y_Tree_ask.2.1 14 = .ok (.invokevirtual 122, 3) := by decide +kernel
theorem d_Tree_ask_17 : decode Y_Tree_ask.2.1 17 = .ok (.sipush 800, 3) := by decide +kernel
theorem d_Tree_ask_20 : decode Y_Tree_ask.2.1 20 = .ok (.if_icmp .le 5, 3) := by decide +kernel
theorem d_Tree_ask_23 : decode Y_Tree_ask.2.1 23 = .ok (.iconst 0, 1) := by decide +kernel
theorem d_Tree_ask_24 : decode Y_Tree_ask.2.1 24 = .ok (.ireturn, 1) := by decide +kernel
theorem d_Tree_ask_25 : decode Y_Tree_ask.2.1 25 = .ok (.aload_n 0, 1) := by decide +kernel
theorem d_Tree_ask_26 : decode Y_Tree_ask.2.1 26 = .ok (.invokevirtual 185, 3) := by decide +kernel
theorem d_Tree_ask_29 : decode Y_Tree_ask.2.1 29 = .ok (.astore 4, 2) := by decide +kernel
theorem d_Tree_ask_31 : decode Y_Tree_ask.2.1 31 = .ok (.aload 4, 2) := by decide +kernel
theorem d_Tree_ask_33 : decode Y_Tree_ask.2.1 33 = .ok (.iload_n 1, 1) := by decide +kernel
theorem d_Tree_ask_34 : decode Y_Tree_ask.2.1 34 = .ok (.putfield 82, 3) := by decide +kernel
theorem d_Tree_ask_37 : decode Y_Tree_ask.2.1 37 = .ok (.aload 4, 2) := by decide +kernel
theorem d_Tree_ask_39 : decode Y_Tree_ask.2.1 39 = .ok (.iload_n 2, 1) := by decide +kernel
theorem d_Tree_ask_40 : decode Y_Tree_ask.2.1 40 = .ok (.putfield 189, 3) := by decide +kernel
theorem d_Tree_ask_43 : decode Y_Tree_ask.2.1 43 = .ok (.aload 4, 2) := by decide +kernel
theorem d_Tree_ask_45 : decode Y_Tree_ask.2.1 45 = .ok (.iload_n 1, 1) := by decide +kernel
theorem d_Tree_ask_46 : decode Y_Tree_ask.2.1 46 = .ok (.iconst (-1), 1) := by decide +kernel
theorem d_Tree_ask_47 : decode Y_Tree_ask.2.1 47 = .ok (.if_icmp .ne 7, 3) := by decide +kernel
theorem d_Tree_ask_50 : decode Y_Tree_ask.2.1 50 = .ok (.iconst 0, 1) := by decide +kernel
theorem d_Tree_ask_51 : decode Y_Tree_ask.2.1 51 = .ok (.goto 19, 3) := by decide +kernel
theorem d_Tree_ask_54 : decode Y_Tree_ask.2.1 54 = .ok (.aload_n 0, 1) := by decide +kernel
theorem d_Tree_ask_55 : decode Y_Tree_ask.2.1 55 = .ok (.getfield 28, 3) := by decide +kernel
theorem d_Tree_ask_58 : decode Y_Tree_ask.2.1 58 = .ok (.iload_n 1, 1) := by decide +kernel
theorem d_Tree_ask_59 : decode Y_Tree_ask.2.1 59 = .ok (.invokevirtual 63, 3) := by decide +kernel
theorem d_Tree_ask_62 : decode Y_Tree_ask.2.1 62 = .ok (.checkcast 67, 3) := by decide +kernel
theorem d_Tree_ask_65 : decode Y_Tree_ask.2.1 65 = .ok (.getfield 192, 3) := by decide +kernel
theorem d_Tree_ask_68 : decode Y_Tree_ask.2.1 68 = .ok (.iconst 1, 1) := by decide +kernel
theorem d_Tree_ask_69 : decode Y_Tree_ask.2.1 69 = .ok (.iadd, 1) := by decide +kernel
theorem d_Tree_ask_70 : decode Y_Tree_ask.2.1 70 = .ok (.putfield 192, 3) := by decide +kernel
theorem d_Tree_ask_73 : decode Y_Tree_ask.2.1 73 = .ok (.aload 4, 2) := by decide +kernel
theorem d_Tree_ask_75 : decode Y_Tree_ask.2.1 75 = .ok (.iconst 0, 1) := by decide +kernel
theorem d_Tree_ask_76 : decode Y_Tree_ask.2.1 76 = .ok (.putfield 69, 3) := by decide +kernel
theorem d_Tree_ask_79 : decode Y_Tree_ask.2.1 79 = .ok (.aload 4, 2) := by decide +kernel
theorem d_Tree_ask_81 : decode Y_Tree_ask.2.1 81 = .ok (.iload_n 3, 1) := by decide +kernel
theorem d_Tree_ask_82 : decode Y_Tree_ask.2.1 82 = .ok (.putfield 130, 3) := by decide +kernel
theorem d_Tree_ask_85 : decode Y_Tree_ask.2.1 85 = .ok (.aload 4, 2) := by decide +kernel
theorem d_Tree_ask_87 : decode Y_Tree_ask.2.1 87 = .ok (.aload_n 0, 1) := by decide +kernel
theorem d_Tree_ask_88 : decode Y_Tree_ask.2.1 88 = .ok (.getfield 12, 3) := by decide +kernel
theorem d_Tree_ask_91 : decode Y_Tree_ask.2.1 91 = .ok (.invokevirtual 122, 3) := by decide +kernel
theorem d_Tree_ask_94 : decode Y_Tree_ask.2.1 94 = .ok (.iload_n 3, 1) := by decide +kernel
theorem d_Tree_ask_95 : decode Y_Tree_ask.2.1 95 = .ok (.isub, 1) := by decide +kernel
theorem d_Tree_ask_96 : decode Y_Tree_ask.2.1 96 = .ok (.putfield 195, 3) := by decide +kernel
theorem d_Tree_ask_99 : decode Y_Tree_ask.2.1 99 = .ok (.aload_n 0, 1) := by decide +kernel
theorem d_Tree_ask_100 : decode Y_Tree_ask.2.1 100 = .ok (.getfield 12, 3) := by decide +kernel
theorem d_Tree_ask_103 : decode Y_Tree_ask.2.1 103 = .ok (.iload_n 3, 1) := by decide +kernel
theorem d_Tree_ask_104 : decode Y_Tree_ask.2.1 104 = .ok (.invokevirtual 133, 3) := by decide +kernel
theorem d_Tree_ask_107 : decode Y_Tree_ask.2.1 107 = .ok (.astore 5, 2) := by decide +kernel
theorem d_Tree_ask_109 : decode Y_Tree_ask.2.1 109 = .ok (.aload 4, 2) := by decide +kernel
theorem d_Tree_ask_111 : decode Y_Tree_ask.2.1 111 = .ok (.aload 5, 2) := by decide +kernel
theorem d_Tree_ask_113 : decode Y_Tree_ask.2.1 113 = .ok (.getfield 197, 3) := by decide +kernel
theorem d_Tree_ask_116 : decode Y_Tree_ask.2.1 116 = .ok (.iconst 0, 1) := by decide +kernel
theorem d_Tree_ask_117 : decode Y_Tree_ask.2.1 117 = .ok (.iaload, 1) := by decide +kernel
theorem d_Tree_ask_118 : decode Y_Tree_ask.2.1 118 = .ok (.putfield 75, 3) := by decide +kernel
theorem d_Tree_ask_121 : decode Y_Tree_ask.2.1 121 = .ok (.aload 4, 2) := by decide +kernel
theorem d_Tree_ask_123 : decode Y_Tree_ask.2.1 123 = .ok (.aload_n 0, 1) := by decide +kernel
theorem d_Tree_ask_124 : decode Y_Tree_ask.2.1 124 = .ok (.getfield 21, 3) := by decide +kernel
theorem d_Tree_ask_127 : decode Y_Tree_ask.2.1 127 = .ok (.aload 4, 2) := by decide +kernel
theorem d_Tree_ask_129 : decode Y_Tree_ask.2.1 129 = .ok (.getfield 75, 3) := by decide +kernel
theorem d_Tree_ask_132 : decode Y_Tree_ask.2.1 132 = .ok (.invokevirtual 199, 3) := by decide +kernel
theorem d_Tree_ask_135 : decode Y_Tree_ask.2.1 135 = .ok (.putfield 203, 3) := by decide +kernel
theorem d_Tree_ask_138 : decode Y_Tree_ask.2.1 138 = .ok (.aload 4, 2) := by decide +kernel
theorem d_Tree_ask_140 : decode Y_Tree_ask.2.1 140 = .ok (.aload_n 0, 1) := by decide +kernel
theorem d_Tree_ask_141 : decode Y_Tree_ask.2.1 141 = .ok (.getfield 21, 3) := by decide +kernel
theorem d_Tree_ask_144 : decode Y_Tree_ask.2.1 144 = .ok (.invokevirtual 206, 3) := by decide +kernel
theorem d_Tree_ask_147 : decode Y_Tree_ask.2.1 147 = .ok (.putfield 207, 3) := by decide +kernel
theorem d_Tree_ask_150 : decode Y_Tree_ask.2.1 150 = .ok (.aload 4, 2) := by decide +kernel
theorem d_Tree_ask_152 : decode Y_Tree_ask.2.1 152 = .ok (.aload 5, 2) := by decide +kernel
theorem d_Tree_ask_154 : decode Y_Tree_ask.2.1 154 = .ok (.getfield 141, 3) := by decide +kernel
theorem d_Tree_ask_157 : decode Y_Tree_ask.2.1 157 = .ok (.iconst 0, 1) := by decide +kernel
theorem d_Tree_ask_158 : decode Y_Tree_ask.2.1 158 = .ok (.aaload, 1) := by decide +kernel
theorem d_Tree_ask_159 : decode Y_Tree_ask.2.1 159 = .ok (.getfield 209, 3) := by decide +kernel
theorem d_Tree_ask_162 : decode Y_Tree_ask.2.1 162 = .ok (.ifCond .ne 7, 3) := by decide +kernel
theorem d_Tree_ask_165 : decode Y_Tree_ask.2.1 165 = .ok (.iconst 1, 1) := by decide +kernel
theorem d_Tree_ask_166 : decode Y_Tree_ask.2.1 166 = .ok (.goto 4, 3) := by decide +kernel
theorem d_Tree_ask_169 : decode Y_Tree_ask.2.1 169 = .ok (.iconst 0, 1) := by decide +kernel
theorem d_Tree_ask_170 : decode Y_Tree_ask.2.1 170 = .ok (.putfield 137, 3) := by decide +kernel
theorem d_Tree_ask_173 : decode Y_Tree_ask.2.1 173 = .ok (.aload 4, 2) := by decide +kernel
theorem d_Tree_ask_175 : decode Y_Tree_ask.2.1 175 = .ok (.aload_n 0, 1) := by decide +kernel
theorem d_Tree_ask_176 : decode Y_Tree_ask.2.1 176 = .ok (.getfield 93, 3) := by decide +kernel
theorem d_Tree_ask_179 : decode Y_Tree_ask.2.1 179 = .ok (.putfield 212, 3) := by decide +kernel
theorem d_Tree_ask_182 : decode Y_Tree_ask.2.1 182 = .ok (.aload 4, 2) := by decide +kernel
theorem d_Tree_ask_184 : decode Y_Tree_ask.2.1 184 = .ok (.getfield 137, 3) := by decide +kernel
theorem d_Tree_ask_187 : decode Y_Tree_ask.2.1 187 = .ok (.ifCond .eq 29, 3) := by decide +kernel
theorem d_Tree_ask_190 : decode Y_Tree_ask.2.1 190 = .ok (.aload_n 0, 1) := by decide +kernel
theorem d_Tree_ask_191 : decode Y_Tree_ask.2.1 191 = .ok (.aload 4, 2) := by decide +kernel
theorem d_Tree_ask_193 : decode Y_Tree_ask.2.1 193 = .ok (.invokevirtual 215, 3) := by decide +kernel
theorem d_Tree_ask_196 : decode Y_Tree_ask.2.1 196 = .ok (.aload 4, 2) := by decide +kernel
theorem d_Tree_ask_198 : decode Y_Tree_ask.2.1 198 = .ok (.aload_n 0, 1) := by decide +kernel
theorem d_Tree_ask_199 : decode Y_Tree_ask.2.1 199 = .ok (.getfield 93, 3) := by decide +kernel
theorem d_Tree_ask_202 : decode Y_Tree_ask.2.1 202 = .ok (.aload 4, 2) := by decide +kernel
theorem d_Tree_ask_204 : decode Y_Tree_ask.2.1 204 = .ok (.getfield 212, 3) := by decide +kernel
theorem d_Tree_ask_207 : decode Y_Tree_ask.2.1 207 = .ok (.isub, 1) := by decide +kernel
theorem d_Tree_ask_208 : decode Y_Tree_ask.2.1 208 = .ok (.iconst 1, 1) := by decide +kernel
theorem d_Tree_ask_209 : decode Y_Tree_ask.2.1 209 = .ok (.iadd, 1) := by decide +kernel
theorem d_Tree_ask_210 : decode Y_Tree_ask.2.1 210 = .ok (.putfield 72, 3) := by decide +kernel
theorem d_Tree_ask_213 : decode Y_Tree_ask.2.1 213 = .ok (.goto 25, 3) := by decide +kernel
theorem d_Tree_ask_216 : decode Y_Tree_ask.2.1 216 = .ok (.aload 4, 2) := by decide +kernel
theorem d_Tree_ask_218 : decode Y_Tree_ask.2.1 218 = .ok (.aload_n 0, 1) := by decide +kernel
theorem d_Tree_ask_219 : decode Y_Tree_ask.2.1 219 = .ok (.getfield 39, 3) := by decide +kernel
theorem d_Tree_ask_222 : decode Y_Tree_ask.2.1 222 = .ok (.aload 5, 2) := by decide +kernel
theorem d_Tree_ask_224 : decode Y_Tree_ask.2.1 224 = .ok (.getfield 141, 3) := by decide +kernel
theorem d_Tree_ask_227 : decode Y_Tree_ask.2.1 227 = .ok (.iconst 0, 1) := by decide +kernel
theorem d_Tree_ask_228 : decode Y_Tree_ask.2.1 228 = .ok (.aaload, 1) := by decide +kernel
theorem d_Tree_ask_229 : decode Y_Tree_ask.2.1 229 = .ok (.getfield 147, 3) := by decide +kernel
theorem d_Tree_ask_232 : decode Y_Tree_ask.2.1 232 = .ok (.invokevirtual 219, 3) := by decide +kernel
theorem d_Tree_ask_235 : decode Y_Tree_ask.2.1 235 = .ok (.putfield 72, 3) := by decide +kernel
theorem d_Tree_ask_238 : decode Y_Tree_ask.2.1 238 = .ok (.aload_n 0, 1) := by decide +kernel
theorem d_Tree_ask_239 : decode Y_Tree_ask.2.1 239 = .ok (.aload_n 0, 1) := by decide +kernel
theorem d_Tree_ask_240 : decode Y_Tree_ask.2.1 240 = .ok (.getfield 108, 3) := by decide +kernel
theorem d_Tree_ask_243 : decode Y_Tree_ask.2.1 243 = .ok (.aload 4, 2) := by decide +kernel
theorem d_Tree_ask_245 : decode Y_Tree_ask.2.1 245 = .ok (.getfield 192, 3) := by decide +kernel
theorem d_Tree_ask_248 : decode Y_Tree_ask.2.1 248 = .ok (.iconst 1, 1) := by decide +kernel
theorem d_Tree_ask_249 : decode Y_Tree_ask.2.1 249 = .ok (.iadd, 1) := by decide +kernel
theorem d_Tree_ask_250 : decode Y_Tree_ask.2.1 250 = .ok (.invokestatic 222, 3) := by decide +kernel
theorem d_Tree_ask_253 : decode Y_Tree_ask.2.1 253 = .ok (.putfield 108, 3) := by decide +kernel
theorem d_Tree_ask_256 : decode Y_Tree_ask.2.1 256 = .ok (.iconst 1, 1) := by decide +kernel
theorem d_Tree_ask_257 : decode Y_Tree_ask.2.1 257 = .ok (.ireturn, 1) := by decide +kernel
section CI
variable {E : gE} {d : Nat} {G G0 : gS} {a : Nat} {c c' c0 : cS} {u u' u2 u0 : uS} {n n' n0 sl sl' : Nat} {Q : gO → gS → Prop} {B SS : Nat} {P : Nat → Nat → Int32} {N t0 X C nk nk' : Nat} {tm cp : Nat → Nat} {ob : Nat → Int32} {T : Nat → Prop} {pos plc : Nat → List Nat} {ks bs sp ps qs qs' ms : List Nat}
/-- a question's ghost: rows, what they hold, its place, how many places, its first number, the paths -/
abbrev zQ : Type := List Nat × List rC × Nat × Nat × Nat × (Nat → List Nat)
def zqF (P : Nat → Nat → Int32) (t0 a : Nat) (u : uS) (q : Nat) (x : qR) (fr : Nat) (z : zQ) : Prop :=
  zIs u a q 6 ∧ u.2.2.1 q 0 = nI fr ∧ u.2.2.1 q 1 = nI z.1.length ∧ u.2.2.1 q 2 = nI z.2.2.1 ∧ u.2.2.1 q 3 = nI x.2.1.length ∧ u.2.2.1 q 4 = nI z.2.2.2.1 ∧ u.2.2.1 q 5 = (if P 0 (tyP P t0 x.2.1) ≤ 1 then 1 else 0) ∧ u.2.2.1 q 6 = nI z.2.2.2.2.1 ∧ u.2.2.1 q 7 = nI (qN P t0 x.1 x.2.1) ∧ u.2.2.1 q 8 = nI x.2.2.1 ∧ u.2.2.1 q 9 = x.2.2.2.1 ∧ u.2.2.1 q 10 = x.2.2.2.2
def zqP (P : Nat → Nat → Int32) (N t0 : Nat) (ob : Nat → Int32) (T : Nat → Prop) (c : cS) (nk : Nat) (x : qR) (z : zQ) : Prop :=
  z.2.1.map (rP z.2.2.2.2.2) = x.1 ∧ z.2.2.2.2.2 z.2.2.1 = x.2.1 ∧ z.2.2.1 < z.2.2.2.1 ∧ z.2.2.2.1 ≤ 3200 ∧ rws P N ob T z.2.2.2.1 z.2.1 ∧ z.2.2.2.2.2 0 = [] ∧ (∀ i j, i < z.2.2.2.1 → j < z.2.2.2.1 → z.2.2.2.2.2 i = z.2.2.2.2.2 j → i = j) ∧ (∃ ow k ws bd Rr, z.2.1 = (ow, (z.2.2.1, k) :: ws, bd) :: Rr) ∧ (P 0 (tyP P t0 x.2.1) ≤ 1 → nuA c z.2.2.2.2.1 (qSr P x.2.1 x.1) ∧ z.2.2.2.2.1 + (qSr P x.2.1 x.1).length ≤ nk)
/-- all questions are held -/
def zqAll (P : Nat → Nat → Int32) (N t0 a : Nat) (tm : Nat → Nat) (ob : Nat → Int32) (T : Nat → Prop) (c : cS) (u : uS) (ks qs : List Nat) (nk : Nat) (Z : List zQ) (Qs : List qR) : Prop := ∀ (j : Nat) (x : qR), Qs[j]? = some x → ∃ (q : Nat) (z : zQ) (lA lB : List Nat), qs[j]? = some q ∧ Z[j]? = some z ∧ ks = lA ++ (z.1 ++ lB) ∧ rcs u tm z.1 z.2.1 ∧ zqF P t0 a u q x lA.length z ∧ zqP P N t0 ob T c nk x z
theorem zqF_fr {q fr : Nat} {x : qR} {z : zQ} (h : zqF P t0 a u q x fr z) (hk : u'.1 q = u.1 q) (hf : ∀ j, j < 11 → u'.2.2.1 q j = u.2.2.1 q j) : zqF P t0 a u' q x fr z := by
  obtain ⟨h0, h1⟩ := h
  refine ⟨⟨hk.trans h0.1, h0.2⟩, ?_⟩
  rw [hf 0 (by decide), hf 1 (by decide), hf 2 (by decide), hf 3 (by decide), hf 4 (by decide), hf 5 (by decide), hf 6 (by decide), hf 7 (by decide), hf 8 (by decide), hf 9 (by decide), hf 10 (by decide)]
  exact h1
theorem zqP_fr {x : qR} {z : zQ} (h : zqP P N t0 ob T c nk x z) (hn : nk ≤ nk') (hc : ∀ i, i < nk → c'.2.1 4 i = c.2.1 4 i) : zqP P N t0 ob T c' nk' x z := by
  obtain ⟨h1, h2, h3, h4, h5, h6, h7, h8, h9⟩ := h
  refine ⟨h1, h2, h3, h4, h5, h6, h7, h8, fun hh => ?_⟩
  obtain ⟨g1, g2⟩ := h9 hh
  refine ⟨fun i v hv => ?_, by omega⟩
  have := (List.getElem?_eq_some_iff.mp hv).1
  rw [hc _ (by omega)]
  exact g1 i v hv
theorem zqAll_fr {Z : List zQ} {Qs : List qR} (h : zqAll P N t0 a tm ob T c u ks qs nk Z Qs) (hq : ∀ j q, j < Qs.length → qs[j]? = some q → qs'[j]? = some q ∧ u'.1 q = u.1 q ∧ ∀ i, i < 11 → u'.2.2.1 q i = u.2.2.1 q i) (hx : ∀ y ∈ ks, xOf u' y = xOf u y) (hn : nk ≤ nk') (hc : ∀ i, i < nk → c'.2.1 4 i = c.2.1 4 i) : zqAll P N t0 a tm ob T c' u' ks qs' nk' Z Qs := by
  intro j x hj
  obtain ⟨q, z, lA, lB, h1, h2, h3, h4, h5, h6⟩ := h j x hj
  obtain ⟨g1, g2, g3⟩ := hq j q (List.getElem?_eq_some_iff.mp hj).1 h1
  exact ⟨q, z, lA, lB, g1, h2, h3, rcs_fr h4 (fun y hy => hx y (by rw [h3]; simp [hy])), zqF_fr h5 g2 g3, zqP_fr h6 hn hc⟩
/-- what the tree leaves as it is -/
abbrev kT : Nat → Prop := fun k => k ≠ 7 ∧ k ≠ 8 ∧ k ≠ 12
def gF (c : cS) (u : uS) (n : Nat) (c' : cS) (u' : uS) (n' : Nat) : Prop := (∀ j, j < 6 ∨ 21 ≤ j → c'.1 j = c.1 j) ∧ (∀ j, j ≠ 4 → j ≠ 5 → c'.2.1 j = c.2.1 j) ∧ c'.2.2.1 = c.2.2.1 ∧ c'.2.2.2 3 = c.2.2.2 3 ∧ kFr kT u u' n ∧ n ≤ n'
theorem gF_rf : gF c u n c u n := ⟨fun _ _ => rfl, fun _ _ _ => rfl, rfl, rfl, kFr_rf, Nat.le_refl _⟩
theorem gF_tr {c2 : cS} {n2 : Nat} (h : gF c u n c' u' n') (h' : gF c' u' n' c2 u2 n2) : gF c u n c2 u2 n2 := by
  obtain ⟨a1, a2, a3, a4, a5, a6⟩ := h
  obtain ⟨b1, b2, b3, b4, b5, b6⟩ := h'
  exact ⟨fun j hj => (b1 j hj).trans (a1 j hj), fun j x y => (b2 j x y).trans (a2 j x y), b3.trans a3, b4.trans a4, kFr_tr a5 b5 a6, by omega⟩
theorem gF_r (hc : rFc c c') (hf : rFr u u' n) (hn : n ≤ n') : gF c u n c' u' n' := ⟨fun j hj => hc.1 j (by omega) (by omega) (by omega), fun j _ _ => by rw [hc.2.1], hc.2.2.1, hc.2.2.2 3 (by decide), kFr_mono (kFr_r hf) (fun k hk => by omega), hn⟩
theorem gF_p (hc : pFc c c') (hf : kFr k5 u u' n) (hn : n ≤ n') : gF c u n c' u' n' := ⟨fun j hj => hc.1 j (by omega) (by omega) (by omega), fun j _ _ => by rw [hc.2.1], hc.2.2.1, hc.2.2.2 3 (by decide), kFr_mono hf (fun k hk => by rcases hk with z | z <;> omega), hn⟩
theorem gF_c (h1 : ∀ j, j < 6 ∨ 21 ≤ j → c'.1 j = c.1 j) (h2 : ∀ j, j ≠ 4 → j ≠ 5 → c'.2.1 j = c.2.1 j) (h3 : c'.2.2 = c.2.2) : gF c u n c' u n := ⟨h1, h2, by rw [h3], by rw [h3], kFr_rf, Nat.le_refl _⟩
theorem tmW_g (h : tmW P u a tm ob T) (ho : uOk u a n) (hf : gF c u n c' u' n') : tmW P u' a tm ob T :=
  tmW_to h (fun q hq => by
    have hn := (ho q (by rcases hq with z | z <;> rw [z] <;> decide)).2
    exact ⟨hf.2.2.2.2.1.1 q hn, hf.2.2.2.2.1.2 q hn (by rcases hq with z | z <;> rw [z] <;> decide) (by rcases hq with z | z <;> rw [z] <;> decide)⟩)
/-- cases and types, as the class holds them -/
def cK (P : Nat → Nat → Int32) (C : Nat) (cp tm : Nat → Nat) (c : cS) : Prop := c.1 3 = nI C ∧ (∀ k, k < C → c.2.1 3 k = P 12 k ∧ c.2.2.1 0 k = some (tm (cp k))) ∧ (∀ t, t < 16 → c.2.1 0 t = P 0 t - 1) ∧ ∀ t w, t < 16 → w < tn (P 0 t) - 1 → c.2.1 1 (8 * t + w) = P 1 (8 * t + w)
theorem cK_g (h : cK P C cp tm c) (hf : gF c u n c' u' n') : cK P C cp tm c' := by
  obtain ⟨a1, a2, a3, -⟩ := hf
  obtain ⟨h1, h2, h3, h4⟩ := h
  rw [cK, a1 3 (by omega), a2 3 (by decide) (by decide), a2 0 (by decide) (by decide), a2 1 (by decide) (by decide), a3]
  exact ⟨h1, h2, h3, h4⟩
/-- only that question's fields have changed -/
def zqI (u u' : uS) (q : Nat) : Prop := u'.1 = u.1 ∧ u'.2.1 = u.2.1 ∧ u'.2.2.2 = u.2.2.2 ∧ ∀ y, y ≠ q → u'.2.2.1 y = u.2.2.1 y
theorem zqI_rf {q : Nat} : zqI u u q := ⟨rfl, rfl, rfl, fun _ _ => rfl⟩
theorem zqI_tr {q : Nat} (h : zqI u u' q) (h' : zqI u' u2 q) : zqI u u2 q := ⟨h'.1.trans h.1, h'.2.1.trans h.2.1, h'.2.2.1.trans h.2.2.1, fun y hy => (h'.2.2.2 y hy).trans (h.2.2.2 y hy)⟩
theorem zqI_I {q j : Nat} {x : Int32} : zqI u (uI u q j x) q := ⟨rfl, rfl, rfl, fun _ hy => uI_o hy⟩
theorem zqI_k {q : Nat} (h : zqI u u' q) (hq : u.1 q = 6) : kFr (fun k => k = 6) u u' n := ⟨fun q _ => by rw [h.1], fun y _ _ hk => ⟨by rw [h.2.1], h.2.2.2 y (fun e => hk (by rw [e]; exact hq)), by rw [h.2.2.1]⟩⟩
theorem zqI_hp {q : Nat} (hh : hpOk E a B SS c u n sl ks sp ps qs ms) (h : zqI u u' q) (hq : u.1 q = 6) : hpOk E a B SS c u' n sl ks sp ps qs ms ∧ ∀ y ∈ ks ++ sp, xOf u' y = xOf u y := hpOk_k hh (zqI_k (n := n) h hq) (fun k z => Or.inr z) (fun q => by rw [h.1]) (fun _ _ => rfl) (fun _ => rfl)
theorem zqI_z {q y k : Nat} (h : zqI u u' q) (hz : zIs u a y k) : zIs u' a y k := ⟨by rw [h.1]; exact hz.1, hz.2⟩
set_option maxHeartbeats 400000 in
set_option maxRecDepth 100000 in
theorem m_T_askAr {D : Nat} {via fr : Int32} (h : hpOk E a B SS c u n sl ks sp ps qs ms) (h6 : c.1 6 = nI D) (hD : D ≤ qs.length) (hD3 : D < 1001) (kk : ∀ c' u2 u' n' sl' qs' q, nxP E a B SS c u n D ks sp ps qs ms c' u2 n' sl' qs' q → zqI u2 u' q → u'.2.2.1 q 8 = nI 0 → u'.2.2.1 q 9 = (-1) → u'.2.2.1 q 10 = via → GT E Y_Tree_ask (d + 8) G0 73 [(0, .ref (a + 12)), (1, .int (-1)), (2, .int via), (3, .int fr), (4, .ref q)] [] (yW E G a c' u' n' sl') Q) : GT E Y_Tree_ask (d + 8) G0 25 [(0, .ref (a + 12)), (1, .int (-1)), (2, .int via), (3, .int fr)] [] (yW E G a c u n sl) Q := by
  refine g_aload_n d_Tree_ask_25 rfl ?_
  refine c_V (as := []) kv_Tree_nextQuestion ml_Tree_185 rfl (x_at (k := 12) (by decide) rfl) (m_T_next (d := d) h h6 hD hD3) rfl (Nat.le_of_ble_eq_true rfl) rfl d_Tree_ask_26 (fun v_26 G_26 h_26 => ?_) (fun D_26 G_26 h_26 => by obtain ⟨_, _, _, _, _, _, h, _⟩ := h_26; cases h)
  obtain ⟨c1, u1, n1, sl1, qs1, q, ho1, rfl, nx⟩ := h_26
  cases ho1
  obtain ⟨h1, g2, g3, g4, g5, ⟨e, g6⟩, g7, g8⟩ := id nx
  have hz := (lOk_get h1.2.2.1 g8).2.2.2.2.1
  refine g_astore d_Tree_ask_29 (by decide) rfl ?_
  refine g_aload d_Tree_ask_31 rfl ?_
  refine g_iload_n d_Tree_ask_33 rfl ?_
  refine z_put (k := 6) (j := 9) (x := (-1)) kc_Question fl_Tree_82 (by decide) hz (by decide) (fun _ => rfl) rfl rfl rfl (Nat.le_of_ble_eq_true rfl) rfl d_Tree_ask_34 ?_
  refine g_aload d_Tree_ask_37 rfl ?_
  refine g_iload_n d_Tree_ask_39 rfl ?_
  refine z_put (k := 6) (j := 10) (x := via) kc_Question fl_Tree_189 (by decide) hz (by decide) (fun _ => rfl) rfl rfl rfl (Nat.le_of_ble_eq_true rfl) rfl d_Tree_ask_40 ?_
  refine g_aload d_Tree_ask_43 rfl ?_
  refine g_iload_n d_Tree_ask_45 rfl ?_
  refine g_iconst (v := (-1)) d_Tree_ask_46 (by decide) ?_
  refine g_icmp_ne (tgt := 54) d_Tree_ask_47 (by decide) (fun c_47 => ?_) (fun c_47 => ?_)
  · exact absurd c_47 (fun q => q rfl)
  refine g_iconst (v := 0) d_Tree_ask_50 (by decide) ?_
  refine g_goto (tgt := 70) d_Tree_ask_51 (by decide) ?_
  refine z_put (k := 6) (j := 8) (x := 0) kc_Question fl_Tree_192 (by decide) hz (by decide) (fun _ => rfl) rfl rfl rfl (Nat.le_of_ble_eq_true rfl) rfl d_Tree_ask_70 ?_
  refine kk c1 u1 _ n1 sl1 qs1 q nx (zqI_tr (zqI_tr zqI_I zqI_I) zqI_I) ?_ ?_ ?_
  · simp only [uI_j]
    rfl
  · simp only [uI_j]
    rfl
  · simp only [uI_j]
    rfl
set_option maxHeartbeats 400000 in
set_option maxRecDepth 100000 in
theorem m_T_askAc {D : Nat} {via fr : Int32} {i qu wy : Nat} (hqu : qs[i]? = some qu) (hi : i < D) (hwy : u.2.2.1 qu 8 = nI wy) (h : hpOk E a B SS c u n sl ks sp ps qs ms) (h6 : c.1 6 = nI D) (hD : D ≤ qs.length) (hD3 : D < 1001) (kk : ∀ c' u2 u' n' sl' qs' q, nxP E a B SS c u n D ks sp ps qs ms c' u2 n' sl' qs' q → zqI u2 u' q → u'.2.2.1 q 8 = nI (wy + 1) → u'.2.2.1 q 9 = (nI i) → u'.2.2.1 q 10 = via → GT E Y_Tree_ask (d + 8) G0 73 [(0, .ref (a + 12)), (1, .int (nI i)), (2, .int via), (3, .int fr), (4, .ref q)] [] (yW E G a c' u' n' sl') Q) : GT E Y_Tree_ask (d + 8) G0 25 [(0, .ref (a + 12)), (1, .int (nI i)), (2, .int via), (3, .int fr)] [] (yW E G a c u n sl) Q := by
  refine g_aload_n d_Tree_ask_25 rfl ?_
  refine c_V (as := []) kv_Tree_nextQuestion ml_Tree_185 rfl (x_at (k := 12) (by decide) rfl) (m_T_next (d := d) h h6 hD hD3) rfl (Nat.le_of_ble_eq_true rfl) rfl d_Tree_ask_26 (fun v_26 G_26 h_26 => ?_) (fun D_26 G_26 h_26 => by obtain ⟨_, _, _, _, _, _, h, _⟩ := h_26; cases h)
  obtain ⟨c1, u1, n1, sl1, qs1, q, ho1, rfl, nx⟩ := h_26
  cases ho1
  obtain ⟨h1, g2, g3, g4, g5, ⟨e, g6⟩, g7, g8⟩ := id nx
  have hz := (lOk_get h1.2.2.1 g8).2.2.2.2.1
  have hqu1 : qs1[i]? = some qu := by rw [g6, List.getElem?_append_left (List.getElem?_eq_some_iff.mp hqu).1]; exact hqu
  have hzu := (lOk_get h1.2.2.1 hqu1).2.2.2.2.1
  have hneq : qu ≠ q := nd_ne h1.2.2.2.2.2.2.2 hqu1 g8 (by omega)
  have hzq := lOk_get h.2.2.1 hqu
  have hwy1 : u1.2.2.1 qu 8 = nI wy := by
    rw [(g3.2 qu hzq.2.2.2.2.2 (by rw [hzq.2.2.2.2.1.1]; decide) (by rw [hzq.2.2.2.2.1.1]; decide)).2.1]
    exact hwy
  refine g_astore d_Tree_ask_29 (by decide) rfl ?_
  refine g_aload d_Tree_ask_31 rfl ?_
  refine g_iload_n d_Tree_ask_33 rfl ?_
  refine z_put (k := 6) (j := 9) (x := (nI i)) kc_Question fl_Tree_82 (by decide) hz (by decide) (fun _ => rfl) rfl rfl rfl (Nat.le_of_ble_eq_true rfl) rfl d_Tree_ask_34 ?_
  refine g_aload d_Tree_ask_37 rfl ?_
  refine g_iload_n d_Tree_ask_39 rfl ?_
  refine z_put (k := 6) (j := 10) (x := via) kc_Question fl_Tree_189 (by decide) hz (by decide) (fun _ => rfl) rfl rfl rfl (Nat.le_of_ble_eq_true rfl) rfl d_Tree_ask_40 ?_
  refine g_aload d_Tree_ask_43 rfl ?_
  refine g_iload_n d_Tree_ask_45 rfl ?_
  refine g_iconst (v := (-1)) d_Tree_ask_46 (by decide) ?_
  refine g_icmp_ne (tgt := 54) d_Tree_ask_47 (by decide) (fun c_47 => ?_) (fun c_47 => ?_)
  rotate_left
  · exact absurd c_47 (fun q => nI_ne1 (by omega) q)
  refine g_aload_n d_Tree_ask_54 rfl ?_
  refine x_get (k := 12) (j := 4) (v := .ref (a + 17)) kc_Tree fl_Tree_28 (by decide) (by decide) rfl rfl d_Tree_ask_55 ?_
  refine g_iload_n d_Tree_ask_58 rfl ?_
  refine c_Vr (as := [.int ((nI i))]) kv_ArrayList_get ml_Tree_63 rfl (x_at (k := 17) (by decide) rfl) (m_K_get lk_quests (u := uI (uI u1 q 9 (nI i)) q 10 via) h1.2.2.1 (by omega) hqu1) rfl (Nat.le_of_ble_eq_true rfl) rfl d_Tree_ask_59 rfl ?_
  refine z_cast (kb := 6) cl_Tree_67 rfl hzu (by decide) d_Tree_ask_62 ?_
  refine z_get (k := 6) (j := 8) (v := .int ((uI (uI u1 q 9 ((nI i))) q 10 (via)).2.2.1 qu 8)) kc_Question fl_Tree_192 (by decide) hzu (by decide) rfl rfl d_Tree_ask_65 ?_
  rw [show (uI (uI u1 q 9 ((nI i))) q 10 (via)).2.2.1 qu 8 = nI wy from by rw [uI_o hneq, uI_o hneq]; exact hwy1]
  refine g_iconst (v := 1) d_Tree_ask_68 (by decide) ?_
  refine g_iadd d_Tree_ask_69 ?_
  refine g_top (nI (wy + 1)) (nI_1 wy) ?_
  refine z_put (k := 6) (j := 8) (x := nI (wy + 1)) kc_Question fl_Tree_192 (by decide) hz (by decide) (fun _ => rfl) rfl rfl rfl (Nat.le_of_ble_eq_true rfl) rfl d_Tree_ask_70 ?_
  refine kk c1 u1 _ n1 sl1 qs1 q nx (zqI_tr (zqI_tr zqI_I zqI_I) zqI_I) ?_ ?_ ?_
  · simp only [uI_j]
    rfl
  · simp only [uI_j]
    rfl
  · simp only [uI_j]
    rfl
end CI
