/-! Tree.lead -/
theorem d_Tree_lead_0 : decode Y_Tree_lead.2.1 0 = .ok (.aload_n 3, 1) := by decide +kernel
theorem d_Tree_lead_1 : decode Y_Tree_lead.2.1 1 = .ok (.aload_n 1, 1) := by decide +kernel
theorem d_Tree_lead_2 : decode Y_Tree_lead.2.1 2 = .ok (.invokevirtual 242, 3) := by decide +kernel
theorem d_Tree_lead_5 : decode Y_Tree_lead.2.1 5 = .ok (.aload_n 0, 1) := by decide +kernel
theorem d_Tree_lead_6 : decode Y_Tree_lead.2.1 6 = .ok (.getfield 12, 3) := by decide +kernel
theorem d_Tree_lead_9 : decode Y_Tree_lead.2.1 9 = .ok (.invokevirtual 122, 3) := by decide +kernel
theorem d_Tree_lead_12 : decode Y_Tree_lead.2.1 12 = .ok (.istore 4, 2) := by decide +kernel
theorem d_Tree_lead_14 : decode Y_Tree_lead.2.1 14 = .ok (.aload_n 0, 1) := by decide +kernel
theorem d_Tree_lead_15 : decode Y_Tree_lead.2.1 15 = .ok (.getfield 12, 3) := by decide +kernel
theorem d_Tree_lead_18 : decode Y_Tree_lead.2.1 18 = .ok (.aload_n 0, 1) := by decide +kernel
theorem d_Tree_lead_19 : decode Y_Tree_lead.2.1 19 = .ok (.getfield 43, 3) := by decide +kernel
theorem d_Tree_lead_22 : decode Y_Tree_lead.2.1 22 = .ok (.invokevirtual 54, 3) := by decide +kernel
theorem d_Tree_lead_25 : decode Y_Tree_lead.2.1 25 = .ok (.ifCond .eq 13, 3) := by decide +kernel
theorem d_Tree_lead_28 : decode Y_Tree_lead.2.1 28 = .ok (.aload_n 0, 1) := by decide +kernel
theorem d_Tree_lead_29 : decode Y_Tree_lead.2.1 29 = .ok (.iload 4, 2) := by decide +kernel
theorem d_Tree_lead_31 : decode Y_Tree_lead.2.1 31 = .ok (.iload_n 2, 1) := by decide +kernel
theorem d_Tree_lead_32 : decode Y_Tree_lead.2.1 32 = .ok (.invokevirtual 247, 3) := by decide +kernel
theorem d_Tree_lead_35 : decode Y_Tree_lead.2.1 35 = .ok (.goto 4, 3) := by decide +kernel
theorem d_Tree_lead_38 : decode Y_Tree_lead.2.1 38 = .ok (.aconst_null, 1) := by decide +kernel
theorem d_Tree_lead_39 : decode Y_Tree_lead.2.1 39 = .ok (.astore 5, 2) := by decide +kernel
theorem d_Tree_lead_41 : decode Y_Tree_lead.2.1 41 = .ok (.iconst (-1), 1) := by decide +kernel
theorem d_Tree_lead_42 : decode Y_Tree_lead.2.1 42 = .ok (.istore 6, 2) := by decide +kernel
theorem d_Tree_lead_44 : decode Y_Tree_lead.2.1 44 = .ok (.iconst 0, 1) := by decide +kernel
theorem d_Tree_lead_45 : decode Y_Tree_lead.2.1 45 = .ok (.istore 7, 2) := by decide +kernel
theorem d_Tree_lead_47 : decode Y_Tree_lead.2.1 47 = .ok (.iconst 0, 1) := by decide +kernel
theorem d_Tree_lead_48 : decode Y_Tree_lead.2.1 48 = .ok (.istore 8, 2) := by decide +kernel
theorem d_Tree_lead_50 : decode Y_Tree_lead.2.1 50 = .ok (.iload 8, 2) := by decide +kernel
theorem d_Tree_lead_52 : decode Y_Tree_lead.2.1 52 = .ok (.aload_n 0, 1) := by decide +kernel
theorem d_Tree_lead_53 : decode Y_Tree_lead.2.1 53 = .ok (.getfield 47, 3) := by decide +kernel
theorem d_Tree_lead_56 : decode Y_Tree_lead.2.1 56 = .ok (.if_icmp .gt 115, 3) := by decide +kernel
theorem d_Tree_lead_59 : decode Y_Tree_lead.2.1 59 = .ok (.aload 5, 2) := by decide +kernel
theorem d_Tree_lead_61 : decode Y_Tree_lead.2.1 61 = .ok (.ifnull 110, 3) := by decide +kernel
theorem d_Tree_lead_64 : decode Y_Tree_lead.2.1 64 = .ok (.aload 5, 2) := by decide +kernel
theorem d_Tree_lead_66 : decode Y_Tree_lead.2.1 66 = .ok (.invokevirtual 158, 3) := by decide +kernel
theorem d_Tree_lead_69 : decode Y_Tree_lead.2.1 69 = .ok (.ifCond .eq 102, 3) := by decide +kernel
theorem d_Tree_lead_72 : decode Y_Tree_lead.2.1 72 = .ok (.aload_n 0, 1) := by decide +kernel
theorem d_Tree_lead_73 : decode Y_Tree_lead.2.1 73 = .ok (.iload 6, 2) := by decide +kernel
theorem d_Tree_lead_75 : decode Y_Tree_lead.2.1 75 = .ok (.iload 7, 2) := by decide +kernel
theorem d_Tree_lead_77 : decode Y_Tree_lead.2.1 77 = .ok (.invokevirtual 251, 3) := by decide +kernel
theorem d_Tree_lead_80 : decode Y_Tree_lead.2.1 80 = .ok (.istore 6, 2) := by decide +kernel
theorem d_Tree_lead_82 : decode Y_Tree_lead.2.1 82 = .ok (.aload_n 0, 1) := by decide +kernel
theorem d_Tree_lead_83 : decode Y_Tree_lead.2.1 83 = .ok (.getfield 12, 3) := by decide +kernel
theorem d_Tree_lead_86 : decode Y_Tree_lead.2.1 86 = .ok (.iload 4, 2) := by decide +kernel
theorem d_Tree_lead_88 : decode Y_Tree_lead.2.1 88 = .ok (.invokevirtual 89, 3) := by decide +kernel
theorem d_Tree_lead_91 : decode Y_Tree_lead.2.1 91 = .ok (.iload 6, 2) := by decide +kernel
theorem d_Tree_lead_93 : decode Y_Tree_lead.2.1 93 = .ok (.iconst (-1), 1) := by decide +kernel
theorem d_Tree_lead_94 : decode Y_Tree_lead.2.1 94 = .ok (.if_icmp .ne 5, 3) := by decide +kernel
theorem d_Tree_lead_97 : decode Y_Tree_lead.2.1 97 = .ok (.iconst (-1), 1) := by decide +kernel
theorem d_Tree_lead_98 : decode Y_Tree_lead.2.1 98 = .ok (.ireturn, 1) := by decide +kernel
theorem d_Tree_lead_99 : decode Y_Tree_lead.2.1 99 = .ok (.aload_n 0, 1) := by decide +kernel
theorem d_Tree_lead_100 : decode Y_Tree_lead.2.1 100 = .ok (.getfield 28, 3) := by decide +kernel
theorem d_Tree_lead_103 : decode Y_Tree_lead.2.1 103 = .ok (.iload 6, 2) := by decide +kernel
theorem d_Tree_lead_105 : decode Y_Tree_lead.2.1 105 = .ok (.invokevirtual 63, 3) := by decide +kernel
theorem d_Tree_lead_108 : decode Y_Tree_lead.2.1 108 = .ok (.checkcast 67, 3) := by decide +kernel
theorem d_Tree_lead_111 : decode Y_Tree_lead.2.1 111 = .ok (.astore 9, 2) := by decide +kernel
theorem d_Tree_lead_113 : decode Y_Tree_lead.2.1 113 = .ok (.aload_n 0, 1) := by decide +kernel
theorem d_Tree_lead_114 : decode Y_Tree_lead.2.1 114 = .ok (.aload 9, 2) := by decide +kernel
theorem d_Tree_lead_116 : decode Y_Tree_lead.2.1 116 = .ok (.aload_n 3, 1) := by decide +kernel
theorem d_Tree_lead_117 : decode Y_Tree_lead.2.1 117 = .ok (.iload 6, 2) := by decide +kernel
theorem d_Tree_lead_119 : decode Y_Tree_lead.2.1 119 = .ok (.aload 9, 2) := by decide +kernel
theorem d_Tree_lead_121 : decode Y_Tree_lead.2.1 121 = .ok (.getfield 75, 3) := by decide +kernel
theorem d_Tree_lead_124 : decode Y_Tree_lead.2.1 124 = .ok (.invokevirtual 254, 3) := by decide +kernel
theorem d_Tree_lead_127 : decode Y_Tree_lead.2.1 127 = .ok (.invokevirtual 258, 3) := by decide +kernel
theorem d_Tree_lead_130 : decode Y_Tree_lead.2.1 130 = .ok (.istore 7, 2) := by decide +kernel
theorem d_Tree_lead_132 : decode Y_Tree_lead.2.1 132 = .ok (.aload_n 0, 1) := by decide +kernel
theorem d_Tree_lead_133 : decode Y_Tree_lead.2.1 133 = .ok (.getfield 12, 3) := by decide +kernel
theorem d_Tree_lead_136 : decode Y_Tree_lead.2.1 136 = .ok (.aload 9, 2) := by decide +kernel
theorem d_Tree_lead_138 : decode Y_Tree_lead.2.1 138 = .ok (.aload_n 0, 1) := by decide +kernel
theorem d_Tree_lead_139 : decode Y_Tree_lead.2.1 139 = .ok (.aload 9, 2) := by decide +kernel
theorem d_Tree_lead_141 : decode Y_Tree_lead.2.1 141 = .ok (.iload 7, 2) := by decide +kernel
theorem d_Tree_lead_143 : decode Y_Tree_lead.2.1 143 = .ok (.invokevirtual 111, 3) := by decide +kernel
theorem d_Tree_lead_146 : decode Y_Tree_lead.2.1 146 = .ok (.invokevirtual 126, 3) := by decide +kernel
theorem d_Tree_lead_149 : decode Y_Tree_lead.2.1 149 = .ok (.ifCond .eq 13, 3) := by decide +kernel
theorem d_Tree_lead_152 : decode Y_Tree_lead.2.1 152 = .ok (.aload_n 0, 1) := by decide +kernel
theorem d_Tree_lead_153 : decode Y_Tree_lead.2.1 153 = .ok (.iload 4, 2) := by decide +kernel
theorem d_Tree_lead_155 : decode Y_Tree_lead.2.1 155 = .ok (.iload_n 2, 1) := by decide +kernel
theorem d_Tree_lead_156 : decode Y_Tree_lead.2.1 156 = .ok (.invokevirtual 247, 3) := by decide +kernel
theorem d_Tree_lead_159 : decode Y_Tree_lead.2.1 159 = .ok (.goto 4, 3) := by decide +kernel
theorem d_Tree_lead_162 : decode Y_Tree_lead.2.1 162 = .ok (.aconst_null, 1) := by decide +kernel
theorem d_Tree_lead_163 : decode Y_Tree_lead.2.1 163 = .ok (.astore 5, 2) := by decide +kernel
theorem d_Tree_lead_165 : decode Y_Tree_lead.2.1 165 = .ok (.iinc 8 1, 3) := by decide +kernel
theorem d_Tree_lead_168 : decode Y_Tree_lead.2.1 168 = .ok (.goto (-118), 3) := by decide +kernel
theorem d_Tree_lead_171 : decode Y_Tree_lead.2.1 171 = .ok (.aload_n 0, 1) := by decide +kernel
theorem d_Tree_lead_172 : decode Y_Tree_lead.2.1 172 = .ok (.getfield 12, 3) := by decide +kernel
theorem d_Tree_lead_175 : decode Y_Tree_lead.2.1 175 = .ok (.iload 4, 2) := by decide +kernel
theorem d_Tree_lead_177 : decode Y_Tree_lead.2.1 177 = .ok (.invokevirtual 89, 3) := by decide +kernel
theorem d_Tree_lead_180 : decode Y_Tree_lead.2.1 180 = .ok (.aload 5, 2) := by decide +kernel
theorem d_Tree_lead_182 : decode Y_Tree_lead.2.1 182 = .ok (.ifnonnull 5, 3) := by decide +kernel
theorem d_Tree_lead_185 : decode Y_Tree_lead.2.1 185 = .ok (.iconst (-1), 1) := by decide +kernel
theorem d_Tree_lead_186 : decode Y_Tree_lead.2.1 186 = .ok (.ireturn, 1) := by decide +kernel
theorem d_Tree_lead_187 : decode Y_Tree_lead.2.1 187 = .ok (.aload_n 3, 1) := by decide +kernel
theorem d_Tree_lead_188 : decode Y_Tree_lead.2.1 188 = .ok (.aload 5, 2) := by decide +kernel
theorem d_Tree_lead_190 : decode Y_Tree_lead.2.1 190 = .ok (.invokevirtual 262, 3) := by decide +kernel
theorem d_Tree_lead_193 : decode Y_Tree_lead.2.1 193 = .ok (.aload 5, 2) := by decide +kernel
theorem d_Tree_lead_195 : decode Y_Tree_lead.2.1 195 = .ok (.getfield 165, 3) := by decide +kernel
theorem d_Tree_lead_198 : decode Y_Tree_lead.2.1 198 = .ok (.ireturn, 1) := by decide +kernel
section CV
variable {E : gE} {d : Nat} {G G0 : gS} {a : Nat} {c c' c0 c1 : cS} {u u' u2 u0 : uS} {n n0 n' n2 n1 sl sl' sl2 : Nat} {Q : gO → gS → Prop} {B SS : Nat} {P : Nat → Nat → Int32} {N t0 X C nk : Nat} {tm cp : Nat → Nat} {ob : Nat → Int32} {T V : Nat → Prop} {pos plc : Nat → List Nat} {ks bs sp ps qs ms ms' : List Nat} {Z : List zQ} {st : aSt} {W : List (List Nat)} {Dr : List Nat}
/-- rows that ask: the guards don't matter -/
theorem hDr_d {gs : Int32} {A : pRow} {r : List pRow} : ∀ (f : Nat) (L : List pRow), hDr P gs f L = A :: r → ¬ A.2.1 = [] → aDr P f L = A :: r
  | 0, L, h, _ => h
  | f + 1, [], h, _ => by cases h
  | f + 1, B :: t, h, hA => by
    simp only [hDr, aDr] at h ⊢
    by_cases hc : B.2.1 = [] ∧ ¬ P 12 B.1 = 0
    · by_cases hb : (gs >>> (nI B.1 &&& 31)) &&& 1 = 1
      · rw [if_neg (fun z => z.2.2 hb)] at h
        cases h
        exact absurd hc.1 hA
      · rw [if_pos ⟨hc.1, hc.2, hb⟩] at h
        rw [if_pos hc]
        exact hDr_d f _ h hA
    · rw [if_neg (fun z => hc ⟨z.1, z.2.1⟩)] at h
      rw [if_neg hc]
      exact h
theorem hDr_way {gs : Int32} : ∀ (f : Nat) (L : List pRow) (Dr : List Nat), (∀ A ∈ L, pRk P N pos t0 C W Dr A) → Dr.Nodup → (∀ k ∈ Dr, k < C) → ∃ Dr', Dr'.Nodup ∧ (∀ k ∈ Dr', k < C) ∧ ∀ A ∈ hDr P gs f L, pRk P N pos t0 C W Dr' A
  | 0, L, Dr, h, h1, h2 => ⟨Dr, h1, h2, h⟩
  | f + 1, [], Dr, h, h1, h2 => ⟨Dr, h1, h2, h⟩
  | f + 1, A :: r, Dr, h, h1, h2 => by
    simp only [hDr]
    split
    · have hA := h A List.mem_cons_self
      exact hDr_way f _ (A.1 :: Dr) (aOt_way h) (List.nodup_cons.mpr ⟨hA.2.2.1, h1⟩) (fun k hk => by
        rcases List.mem_cons.mp hk with rfl | hk
        · exact hA.2.1
        · exact h2 k hk)
    · exact ⟨Dr, h1, h2, h⟩
theorem hDr_mem {gs : Int32} {A : pRow} : ∀ (f : Nat) (L : List pRow), A ∈ hDr P gs f L → A ∈ L
  | 0, L, h => h
  | f + 1, [], h => h
  | f + 1, B :: r, h => by
    simp only [hDr] at h
    split at h
    · exact (aOt_mem (hDr_mem f _ h)).1
    · exact h
theorem hDC_rws {gs : Int32} : ∀ (f : Nat) (L : List rC), rws P N ob T X L → rws P N ob T X (hDC P gs f L)
  | 0, L, h => h
  | f + 1, [], h => h
  | f + 1, B :: r, h => by
    simp only [hDC]
    split
    · exact hDC_rws f _ (oC_rws h)
    · exact h
/-- what the value has settles which wishes are opened -/
theorem qL_vP (wf : wfA P N pos) (wk : wfK P N) (hV : vOkN P N V) (ht0 : t0 < 16) {v0 k0 : Nat} (h0 : V v0) (hty : P 4 v0 = nI t0) {x : qR} (hR : ∀ A ∈ x.1, pRk P N pos t0 C W Dr A) (hp : vP P v0 x.2.1) (hk0 : k0 = vAn P t0 x.1 x.2.1 (vAt P v0 x.2.1)) (hr : ∀ A ∈ x.1, ∀ q ∈ A.2.1, vP P v0 q.1) : ∀ A ∈ qL P t0 x.1 x.2.1 k0, ∀ q ∈ A.2.1, vP P v0 q.1 := by
  obtain ⟨e4, e16⟩ := vAt_ty wf hV ht0 h0 hty x.2.1 hp
  have hv := vAt_V hV x.2.1 v0 h0 hp
  obtain ⟨hvN, hvk, -⟩ := hV _ hv
  have key : ∀ (R : List pRow), (∀ A ∈ R, pRk P N pos t0 C W Dr A ∧ ∀ q ∈ A.2.1, vP P v0 q.1) → ∀ A ∈ aAns P x.2.1 (qMd P t0 x.2.1) (qW P t0 x.1 x.2.1 k0) (qI P t0 x.1 x.2.1 k0) R, ∀ q ∈ A.2.1, vP P v0 q.1 := by
    intro R
    induction R with
    | nil => intro _ A hA; cases hA
    | cons B R ih =>
      intro hR A hA q hq
      obtain ⟨hB1, hB2⟩ := hR B List.mem_cons_self
      rcases List.mem_append.mp hA with hA | hA
      · unfold aAns1 at hA
        cases hf : aFnd x.2.1 B.2.1 with
        | none =>
          rw [hf] at hA
          rcases List.mem_singleton.mp hA with rfl
          exact hB2 q hq
        | some z =>
          rw [hf] at hA
          simp only at hA
          have hz := aFnd_some hf
          split at hA
          · rename_i hw
            obtain ⟨D, hD, rfl⟩ := List.mem_map.mp hA
            have hwz := (hB1.1.1 (x.2.1, z.2.1) (by rw [hz]; simp))
            have hNN : ∀ y ∈ z.1 ++ (aKs P (fun i => x.2.1 ++ [4 * tn (qW P t0 x.1 x.2.1 k0) + i]) z.2.1 (if qMd P t0 x.2.1 = 0 then 0 else aAr P z.2.1) ++ z.2.2), y.2 < N ∧ vP P v0 y.1 := fun y hy => by
              rcases List.mem_append.mp hy with hy | hy
              · have hm : y ∈ B.2.1 := by rw [hz]; simp [hy]
                exact ⟨(hB1.1.1 y hm).1.1, hB2 y hm⟩
              · rcases List.mem_append.mp hy with hy | hy
                · obtain ⟨i, hi, rfl⟩ := List.mem_map.mp hy
                  have hi2 := List.mem_range.mp hi
                  unfold qMd at hi2
                  by_cases hn : P 0 (tyP P t0 x.2.1) ≤ 1
                  · rw [if_pos hn, if_pos rfl] at hi2
                    omega
                  · rw [if_neg hn, if_neg (by decide)] at hi2
                    obtain ⟨-, mk2, -⟩ := made_kind wf wk hwz.1 hwz.2 (tyP_31 ht0 _)
                    have h2 := mk2 hn
                    obtain ⟨-, z4, -, -, zp⟩ := (wf.2.2 z.2.1 hwz.1.1).2.2.2 h2
                    obtain ⟨v', hv', ev, -⟩ := zp i hi2
                    have bN := wf.1.1
                    refine ⟨by show tn (P 6 (4 * z.2.1 + i)) < N; rw [ev, tnI (by have := hwz.1.1; omega)]; have := hwz.1.1; omega, ?_⟩
                    have hk3 : P 3 (vAt P v0 x.2.1) = 2 := by
                      rcases hvk with e | e
                      · have := (wk _ hvN).2.1 e
                        rw [e4, tnI (by omega)] at this
                        exact absurd (by rw [this]; exact Int32.le_refl _) hn
                      · exact e
                    obtain ⟨TT, w, hT2, hT9, eT, hwT, e5⟩ := (wk _ hvN).2.2 hk3
                    have eqW : qW P t0 x.1 x.2.1 k0 = P 5 (vAt P v0 x.2.1) := by
                      unfold qW
                      rw [if_neg hn, hk0]
                      unfold vAn
                      rw [if_neg hn, e5, tnI (by omega)]
                    have eAr : aAr P z.2.1 = aAr P (vAt P v0 x.2.1) := by
                      unfold aAr
                      rw [e4, hw.1, eqW, hwz.1.2.2]
                    refine (vP_app x.2.1 v0 _).mpr ⟨hp, hk3, ?_, ?_⟩
                    · rw [eqW]
                      omega
                    · rw [eAr] at hi2 z4
                      rw [show (4 * tn (qW P t0 x.1 x.2.1 k0) + i) % 4 = i by omega]
                      exact hi2
                · have hm : y ∈ B.2.1 := by rw [hz]; simp [hy]
                  exact ⟨(hB1.1.1 y hm).1.1, hB2 y hm⟩
            obtain ⟨q1, hq1, e1, -⟩ := aS_from wf.1 _ _ _ _ (fun y hy => (hNN y hy).1) D hD q hq
            rw [e1]
            rcases hq1 with hq1 | hq1
            · cases hq1
            · exact (hNN q1 hq1).2
          · cases hA
      · exact ih (fun D hD => hR D (List.mem_cons_of_mem _ hD)) A hA q hq
  exact key x.1 (fun A hA => ⟨hR A hA, hr A hA⟩)
theorem ixS_le {v : Int32} : ∀ (S : List Int32), ixS v S ≤ S.length
  | [] => Nat.le_refl _
  | x :: r => by
    have := ixS_le (v := v) r
    simp only [ixS, List.length_cons]
    split <;> omega
/-- what lead changes -/
def ldF (c : cS) (u : uS) (n : Nat) (c' : cS) (u' : uS) (n' : Nat) : Prop := (∀ j, j < 13 ∨ (15 < j ∧ j < 21) ∨ 23 < j → c'.1 j = c.1 j) ∧ (∀ j, j ≠ 6 → c'.2.1 j = c.2.1 j) ∧ (∀ j, j ≠ 3 → c'.2.2.1 j = c.2.2.1 j) ∧ kFr (fun k => k < 5 ∨ k = 9 ∨ k = 12) u u' n ∧ n ≤ n'
theorem ldF_rf : ldF c u n c u n := ⟨fun _ _ => rfl, fun _ _ => rfl, fun _ _ => rfl, kFr_rf, Nat.le_refl _⟩
theorem ldF_tr {c2 : cS} (h : ldF c u n c' u' n') (h' : ldF c' u' n' c2 u2 n2) : ldF c u n c2 u2 n2 := ⟨fun j hj => (h'.1 j hj).trans (h.1 j hj), fun j hj => (h'.2.1 j hj).trans (h.2.1 j hj), fun j hj => (h'.2.2.1 j hj).trans (h.2.2.1 j hj), kFr_tr h.2.2.2.1 h'.2.2.2.1 h.2.2.2.2, Nat.le_trans h.2.2.2.2 h'.2.2.2.2⟩
theorem ldF_r (hc : rFc c c') (hf : rFr u u' n) (hn : n ≤ n') : ldF c u n c' u' n' := ⟨fun j hj => hc.1 j (by omega) (by omega) (by omega), fun j _ => by rw [hc.2.1], fun j _ => by rw [hc.2.2.1], kFr_mono (kFr_r hf) (fun k hk => by omega), hn⟩
theorem ldF_p (h : pgP E a B SS c u n ks sp ps qs ms c' u' n' sl') : ldF c u n c' u' n' := ⟨fun j hj => h.2.1.1 j (by omega) (by omega) (by omega), h.2.1.2.1, h.2.1.2.2.1, kFr_mono h.2.2.1 (fun k hk => by omega), h.2.2.2.1⟩
theorem ldF_b (h : bnF c c') : ldF c u n c' u n := ⟨fun j _ => by rw [h.1], fun j _ => by rw [h.2.1], h.2.2.1, kFr_rf, Nat.le_refl _⟩
/-- what is met changes -/
theorem clT_pg (h : clT E a B SS P N t0 tm ob T C cp c u n sl ks bs sp ps qs ms nk Z st) (h' : hpOk E a B SS c' u' n' sl' (ks ++ bs) sp ps qs ms') (hF : pgF c c') (hk : kFr (fun k => k = 12) u u' n) (hn : n ≤ n') (hx : ∀ y ∈ (ks ++ bs) ++ sp, xOf u' y = xOf u y) : clT E a B SS P N t0 tm ob T C cp c' u' n' sl' ks bs sp ps qs ms' nk Z st := by
  obtain ⟨t1, t2, t3, t4, t5, t6, t7, t8, t9, tA, tB, tC1, tD⟩ := h
  have hun := hpOk_un t1
  refine ⟨h', tmW_to t2 (fun q hq => ?_), ?_, ?_, t5, by rw [hF.1 6 (by decide) (by decide) (by decide)]; exact t6, t7, t8, t9, tA, by rw [hF.1 7 (by decide) (by decide) (by decide)]; exact tB, tC1, tC_fr tD (fun j h1 h2 => hF.1 j (by omega) (by omega) (by omega)) (hF.2.1 5 (by decide))⟩
  · have hn := (hun q (by omega)).2
    exact ⟨hk.1 q hn, hk.2 q hn (by omega) (by omega)⟩
  · obtain ⟨k1, k2, k3, k4⟩ := t3
    rw [cK, hF.1 3 (by decide) (by decide) (by decide), hF.2.1 3 (by decide), hF.2.1 0 (by decide), hF.2.1 1 (by decide), hF.2.2.1 0 (by decide)]
    exact ⟨k1, k2, k3, k4⟩
  · refine zqAll_fr t4 (fun j q hj hq => ?_) (fun y hy => hx y (by simp [hy])) (Nat.le_refl _) (fun i _ => by rw [hF.2.1 4 (by decide)])
    have hz := lOk_get t1.2.2.1 hq
    exact ⟨hq, hk.1 q hz.2.2.2.2.2, fun i _ => by rw [(hk.2 q hz.2.2.2.2.2 (by rw [hz.2.2.2.2.1.1]; decide) (by rw [hz.2.2.2.2.1.1]; decide)).2.1]⟩
/-- the rows of the tree that was put last go -/
theorem clT_cut (h : clT E a B SS P N t0 tm ob T C cp c u n sl ks bs sp ps qs ms nk Z st) : clT E a B SS P N t0 tm ob T C cp (cF c 13 (nI ks.length)) u n sl ks [] (bs ++ sp) ps qs ms nk Z st := clT_rows h (by rw [List.append_nil]; exact hp_cut h.1) rFc_13 rFr_rf (Nat.le_refl _) (fun _ _ => rfl)
theorem cut_min (h : clT E a B SS P N t0 tm ob T C cp c u n sl ks bs sp ps qs ms nk Z st) : (if nI ks.length < c.1 13 then nI ks.length else c.1 13) = nI ks.length := by
  have h13 := h.1.1.2.2.2.2.2.2.1
  have hl := rw_len h.1.1
  rw [List.length_append] at hl
  rw [h13, List.length_append]
  by_cases e : bs.length = 0
  · rw [e, Nat.add_zero]
    exact if_neg (fun z => by have := (lt_hi (nI_hi (by omega)) (nI_hi (by omega))).mp z; omega)
  · exact if_pos ((lt_hi (nI_hi (by omega)) (nI_hi (by omega))).mpr (by omega))
/-- what lead gives -/
def ldQ (E : gE) (G : gS) (a B SS : Nat) (P : Nat → Nat → Int32) (N t0 : Nat) (tm : Nat → Nat) (ob : Nat → Int32) (T : Nat → Prop) (C : Nat) (cp : Nat → Nat) (c : cS) (u : uS) (n : Nat) (ks ps qs : List Nat) (nk : Nat) (Z : List zQ) (st : aSt) (v0 : Nat) (R : Option pRow × List Nat) : gO → gS → Prop := fun o G' => ∃ c' u' n' sl' sp' ms', G' = yW E G a c' u' n' sl' ∧ clT E a B SS P N t0 tm ob T C cp c' u' n' sl' ks [] sp' ps qs ms' nk Z st ∧ ldF c u n c' u' n' ∧ c'.1 21 = nI R.2.length ∧ (∀ i y, R.2[i]? = some y → c'.2.1 6 i = nI y) ∧ R.2.length ≤ 60 ∧
  ((R.1 = none ∧ o = .inl (some (.int (-1))) ∧ ∀ k, k < 8 → c'.2.2.1 3 k = none) ∨ ∃ A, R.1 = some A ∧ o = .inl (some (.int (nI A.1))) ∧ ∀ k, k < 8 → c'.2.2.1 3 k = (A.2.2 k).map (fun π => tm (vAt P v0 π)))
set_option maxHeartbeats 2000000 in
set_option maxRecDepth 100000 in
theorem m_T_ld50 (wf : wfA P N pos) (wb : wfB P N) (wk : wfK P N) (tp : tmP P N tm ob T) (hC20 : C ≤ 20) (ht0 : t0 < 16) (hNC : N + C ≤ 511) (hg01 : ∀ k, k < C → P 12 k = 0 ∨ P 12 k = 1) (hAr : ∀ π w, ¬ P 0 (tyP P t0 π) ≤ 1 → w < tn (P 0 (tyP P t0 π)) - 1 → ∃ a, a ≤ 4 ∧ P 1 (8 * tyP P t0 π + w) = nI a) (hV : vOkN P N V) (hVT : ∀ v, V v → T v) {v0 : Nat} (h0 : V v0) (hv4 : P 4 v0 = nI t0) (hv60 : tn (P 7 v0) ≤ 60) (hB : ∀ i q, st.1[i]? = some q → q.1.length ≤ 800 ∧ ∀ k, k < qN P t0 q.1 q.2.1 → bhd P st.1 (nI i) (nI k) (qL P t0 q.1 q.2.1 k) ∧ (qL P t0 q.1 q.2.1 k).length ≤ 80) (hupO : upOk st.1) {gs : Int32} {t0v : Nat} : ∀ (f : Nat) (L : List rC) (X : Nat) (plc : Nat → List Nat) (W : List (List Nat)) (Dr : List Nat) (up via : Int32) (as bs sp ms : List Nat) (c : cS) (u : uS) (n sl s fr : Nat) (fv : Value), 61 ≤ f + W.length → clT E a B SS P N t0 tm ob T C cp c u n sl ks bs sp ps qs ms nk Z st → rcs u tm bs (hDC P gs L.length L) → ((hDC P gs L.length L = [] ∧ fv = .null) ∨ ∃ b r, bs = b :: r ∧ fv = .ref b) → rws P N ob T X L → L.length ≤ 80 → bhd P st.1 up via (L.map (rP plc)) → ((up = -1 ∧ fr = 0) ∨ ∃ i k, up = nI i ∧ via = nI k ∧ i < st.1.length ∧ k < 2 ^ 31 ∧ fr = i + 1) → s ≤ fr → zR1 P t0 Z st.1 st.1.length up via X plc → pWd N pos C W Dr an0 → (∀ A ∈ L.map (rP plc), pRk P N pos t0 C W Dr A) → (∀ A ∈ L.map (rP plc), ∀ q ∈ A.2.1, vP P v0 q.1) → (∀ π ∈ W, vP P v0 π) → ms.length = X → (∀ p, p < X → ms[p]? = some (tm (vAt P v0 (plc p))) ∧ vP P v0 (plc p)) → (∀ j, j < X → ∀ ρ e, plc j = ρ ++ [e] → ρ ∈ W) → X ≤ 1 + 4 * W.length → c.1 21 = nI as.length → as.length = W.length → (∀ i y, as[i]? = some y → c.2.1 6 i = nI y) → (∀ k, k < 8 → c.2.2.1 3 k = none) → ldF c0 u0 n0 c u n →
    GT E Y_Tree_lead (d + 13) G0 50 [(0, .ref (a + 12)), (1, .ref t0v), (2, .int gs), (3, .ref (a + 20)), (4, .int (nI ks.length)), (5, fv), (6, .int up), (7, .int via), (8, .int (nI s))] [] (yW E G a c u n sl) (ldQ E G a B SS P N t0 tm ob T C cp c0 u0 n0 ks ps qs nk Z st v0 (lp P t0 st.1 gs v0 f (L.map (rP plc)) up via as)) := by
  intro f
  induction f with
  | zero =>
    intro L X plc W Dr up via as bs sp ms c u n sl s fr fv hfu hT hr hfv hw h80 hbh hup hs hcur hWd hpr hvp hWv hms hmp hcl hX4 h21 has h6 h3 hF
    exfalso
    have := sub_len (l := vPs P 512 v0) hWd.1 (fun π hπ => vPs_mem wf hV 512 v0 π h0 (by have := (hV v0 h0).1; have := wf.1.1; omega) (hWv π hπ))
    have := vPs_len wf hV 512 v0 h0
    omega
  | succ f ih =>
    intro L X plc W Dr up via as bs sp ms c u n sl s fr fv hfu hT hr hfv hw h80 hbh hup hs hcur hWd hpr hvp hWv hms hmp hcl hX4 h21 has h6 h3 hF
    have hcount := hT.2.2.2.2.2.1
    have hD1000 := hT.2.2.2.2.2.2.2.1
    have hfrD : fr ≤ st.1.length := by
      rcases hup with ⟨-, e⟩ | ⟨i, k, -, -, h1, -, e⟩ <;> omega
    have hmap := hDC_map (P := P) (plc := plc) (gs := gs) L.length L
    have hWl : W.length ≤ 60 := by
      have h1 := sub_len (l := vPs P 512 v0) hWd.1 (fun π hπ => vPs_mem wf hV 512 v0 π h0 (by have := (hV v0 h0).1; have := wf.1.1; omega) (hWv π hπ))
      have h2 := vPs_len wf hV 512 v0 h0
      omega
    have hcut := clT_cut hT
    have emin := cut_min hT
    have hwH := hDC_rws (gs := gs) L.length L hw
    rcases hfv with ⟨hH, rfl⟩ | ⟨b, bs', rfl, rfl⟩
    · rw [hH] at hmap
      have elp : lp P t0 st.1 gs v0 (f + 1) (L.map (rP plc)) up via as = (none, as) := by
        simp only [lp]
        rw [List.length_map, ← hmap]
        rfl
      rw [elp]
      refine g_iload d_Tree_lead_50 rfl ?_
      refine g_aload_n d_Tree_lead_52 rfl ?_
      refine x_get (k := 12) (j := 7) (v := .int (c.1 6)) kc_Tree fl_Tree_47 (by decide) (by decide) rfl rfl d_Tree_lead_53 ?_
      rw [hcount]
      refine g_icmp_gt (tgt := 171) d_Tree_lead_56 (by decide) (fun c_56 => ?_) (fun c_56 => ?_)
      · exact absurd c_56 (fun q => by have := (lt_hi (nI_hi (by omega)) (nI_hi (by omega))).mp q; omega)
      refine g_aloadN d_Tree_lead_59 rfl ?_
      refine g_ifnullN (tgt := 171) d_Tree_lead_61 (by decide) ?_
      refine g_aload_n d_Tree_lead_171 rfl ?_
      refine x_get (k := 12) (j := 2) (v := .ref (a + 13)) kc_Tree fl_Tree_12 (by decide) (by decide) rfl rfl d_Tree_lead_172 ?_
      refine g_iload d_Tree_lead_175 rfl ?_
      refine c_Vr (as := [.int (nI ks.length)]) kv_Rows_cutTo ml_Tree_89 rfl (x_at (k := 13) (by decide) rfl) (m_S_cutTo (nI ks.length)) rfl (Nat.le_of_ble_eq_true rfl) rfl d_Tree_lead_177 rfl ?_
      rw [emin]
      refine g_aloadN d_Tree_lead_180 rfl ?_
      refine g_ifnonnullN d_Tree_lead_182 ?_
      refine g_iconst (v := (-1)) d_Tree_lead_185 (by decide) ?_
      refine g_iret rfl d_Tree_lead_186 ?_
      exact ⟨_, u, n, sl, _, ms, rfl, hcut, ldF_tr hF (ldF_r rFc_13 rFr_rf (Nat.le_refl _)), h21, h6, (by show as.length ≤ 60; omega), Or.inl ⟨rfl, rfl, h3⟩⟩
    · cases hHH : hDC P gs L.length L with
      | nil =>
        rw [hHH] at hr
        exact hr.elim
      | cons A Hr =>
      rw [hHH] at hr hmap hwH
      obtain ⟨ow, ws, bd⟩ := A
      have hA := hwH _ List.mem_cons_self
      have hrow := (hT.1.1.2.2.2.2.2.1 b (by simp)).1
      have hwl24 : ws.length ≤ 24 := Nat.le_trans (tI_len wf.1 (fun q hq => (hA.1.1 q hq).1)) hA.1.2.2.2
      have KH := m_T_has (E := E) (d := d + 12) (G := G) (c := c) (n := n) (sl := sl) hrow hr.1 (show ws.length < 1000 by omega)
      cases ws with
      | nil =>
        rw [show (if ([] : List (Nat × Nat)) = [] then (0 : Int32) else 1) = 0 from if_pos rfl] at KH
        have elp : lp P t0 st.1 gs v0 (f + 1) (L.map (rP plc)) up via as = (some (rP plc (ow, [], bd)), as) := by
          simp only [lp]
          rw [List.length_map, ← hmap]
          rfl
        rw [elp]
        have hrow2 : rowW u a b := hrow
        have KB := m_Pg_bind (E := E) (d := d + 9) (G := G) (b := b) (ow := ow) (ws := []) (bd := bd) hcut.1 hrow2 hr.1 (fun k p hk => by rw [hms]; exact hA.2.2.2 k p hk)
        have h3o : u.2.2.1 b 3 = nI ow := hr.1.1
        refine g_iload d_Tree_lead_50 rfl ?_
        refine g_aload_n d_Tree_lead_52 rfl ?_
        refine x_get (k := 12) (j := 7) (v := .int (c.1 6)) kc_Tree fl_Tree_47 (by decide) (by decide) rfl rfl d_Tree_lead_53 ?_
        rw [hcount]
        refine g_icmp_gt (tgt := 171) d_Tree_lead_56 (by decide) (fun c_56 => ?_) (fun c_56 => ?_)
        · exact absurd c_56 (fun q => by have := (lt_hi (nI_hi (by omega)) (nI_hi (by omega))).mp q; omega)
        refine g_aload d_Tree_lead_59 rfl ?_
        refine g_ifnull d_Tree_lead_61 ?_
        refine g_aload d_Tree_lead_64 rfl ?_
        refine c_Vr (as := []) kv_Row_hasWishes ml_Tree_158 rfl (z_at hrow.1 (by decide)) (KH) rfl (Nat.le_of_ble_eq_true rfl) rfl d_Tree_lead_66 rfl ?_
        refine g_if_eq (tgt := 171) d_Tree_lead_69 (by decide) (fun c_69 => ?_) (fun c_69 => absurd c_69 (by decide))
        refine g_aload_n d_Tree_lead_171 rfl ?_
        refine x_get (k := 12) (j := 2) (v := .ref (a + 13)) kc_Tree fl_Tree_12 (by decide) (by decide) rfl rfl d_Tree_lead_172 ?_
        refine g_iload d_Tree_lead_175 rfl ?_
        refine c_Vr (as := [.int (nI ks.length)]) kv_Rows_cutTo ml_Tree_89 rfl (x_at (k := 13) (by decide) rfl) (m_S_cutTo (nI ks.length)) rfl (Nat.le_of_ble_eq_true rfl) rfl d_Tree_lead_177 rfl ?_
        rw [emin]
        refine g_aload d_Tree_lead_180 rfl ?_
        refine g_ifnonnull (tgt := 187) d_Tree_lead_182 (by decide) ?_
        refine g_aload_n d_Tree_lead_187 rfl ?_
        refine g_aload d_Tree_lead_188 rfl ?_
        refine c_Vx (as := [.ref (b)]) kv_Passage_bind ml_Tree_262 rfl (x_at (k := 20) (by decide) rfl) (KB) rfl (Nat.le_of_ble_eq_true rfl) rfl d_Tree_lead_190 rfl (fun G_190 h_190 => ?_)
        obtain ⟨c2, rfl, hbn, hbt⟩ := h_190
        refine g_aload d_Tree_lead_193 rfl ?_
        refine z_get (k := 1) (j := 3) (v := .int (u.2.2.1 b 3)) kc_Row fl_Tree_165 (by decide) hrow.1 (by decide) rfl rfl d_Tree_lead_195 ?_
        rw [h3o]
        refine g_iret rfl d_Tree_lead_198 ?_
        have hp2 := bnF_hp hcut.1 hbn
        have hT2 := clT_pg hcut hp2 ⟨fun j _ _ _ => by rw [hbn.1], fun j _ => by rw [hbn.2.1], hbn.2.2.1, fun j _ => by rw [hbn.2.2.2]⟩ kFr_rf (Nat.le_refl _) (fun _ _ => rfl)
        refine ⟨c2, u, n, sl, _, ms, rfl, hT2, ldF_tr hF (ldF_tr (ldF_r rFc_13 rFr_rf (Nat.le_refl _)) (ldF_b hbn)), by rw [hbn.1]; exact h21, fun i y hy => by rw [hbn.2.1]; exact h6 i y hy, (by show as.length ≤ 60; omega), Or.inr ⟨rP plc (ow, [], bd), rfl, rfl, fun k hk => ?_⟩⟩
        rw [hbt k hk]
        unfold bdT
        show _ = ((bd k).map plc).map _
        cases hb : bd k with
        | none => rfl
        | some p => exact (hmp p (hA.2.2.2 k p hb)).1
      | cons w ws =>
        obtain ⟨p, k⟩ := w
        rw [show (if ((p, k) :: ws : List (Nat × Nat)) = [] then (0 : Int32) else 1) = 1 from if_neg (by simp)] at KH
        have hpX : p < X := hA.2.2.1 (p, k) List.mem_cons_self
        have hdr : hDr P gs (L.map (rP plc)).length (L.map (rP plc)) = rP plc (ow, (p, k) :: ws, bd) :: Hr.map (rP plc) := by
          rw [List.length_map, ← hmap]
          rfl
        have hd : dRw P (L.map (rP plc)) = rP plc (ow, (p, k) :: ws, bd) :: Hr.map (rP plc) := hDr_d _ _ hdr (by simp [rP])
        obtain ⟨q9, hq9m, hq9a, hq9b⟩ := hbh.2 _ _ (plc p, k) (ws.map (fun q => (plc q.1, q.2))) hd rfl
        have hup1 : up + 1 = nI fr := by
          rcases hup with ⟨rfl, rfl⟩ | ⟨i, k', rfl, -, -, -, rfl⟩
          · rfl
          · exact nI_1 i
        have KQ := m_T_qb (E := E) (d := d + 9) (G := G) (up := up) (via := via) (fr := fr) hT hup1 hfrD
        refine g_iload d_Tree_lead_50 rfl ?_
        refine g_aload_n d_Tree_lead_52 rfl ?_
        refine x_get (k := 12) (j := 7) (v := .int (c.1 6)) kc_Tree fl_Tree_47 (by decide) (by decide) rfl rfl d_Tree_lead_53 ?_
        rw [hcount]
        refine g_icmp_gt (tgt := 171) d_Tree_lead_56 (by decide) (fun c_56 => ?_) (fun c_56 => ?_)
        · exact absurd c_56 (fun q => by have := (lt_hi (nI_hi (by omega)) (nI_hi (by omega))).mp q; omega)
        refine g_aload d_Tree_lead_59 rfl ?_
        refine g_ifnull d_Tree_lead_61 ?_
        refine g_aload d_Tree_lead_64 rfl ?_
        refine c_Vr (as := []) kv_Row_hasWishes ml_Tree_158 rfl (z_at hrow.1 (by decide)) (KH) rfl (Nat.le_of_ble_eq_true rfl) rfl d_Tree_lead_66 rfl ?_
        refine g_if_eq (tgt := 171) d_Tree_lead_69 (by decide) (fun c_69 => absurd c_69 (by decide)) (fun c_69 => ?_)
        refine g_aload_n d_Tree_lead_72 rfl ?_
        refine g_iload d_Tree_lead_73 rfl ?_
        refine g_iload d_Tree_lead_75 rfl ?_
        refine c_V (as := [.int (up), .int (via)]) kv_Tree_questionBehind ml_Tree_251 rfl (x_at (k := 12) (by decide) rfl) (KQ) rfl (Nat.le_of_ble_eq_true rfl) rfl d_Tree_lead_77 (fun v_77 G_77 h_77 => ?_) (fun D_77 G_77 h_77 => by obtain ⟨_, ⟨_, _, h, _⟩ | ⟨h, _⟩⟩ := h_77 <;> cases h)
        obtain ⟨rfl, ⟨j, x, ho, hx, hxu, hxv, hno⟩ | ⟨ho, hno⟩⟩ := h_77
        rotate_left
        · exfalso
          obtain ⟨i9, hi9⟩ := List.getElem?_of_mem hq9m
          refine hno i9 q9 ?_ hi9 ⟨hq9a, hq9b⟩
          rcases hupO i9 q9 hi9 with e | ⟨i', hi', e⟩
          · rcases hup with ⟨-, rfl⟩ | ⟨i, k', e2, -, h1, -, -⟩
            · exact Nat.zero_le _
            · rw [hq9a, e2] at e
              exact absurd e (nI_ne1 (by omega))
          · have hi9l := (List.getElem?_eq_some_iff.mp hi9).1
            rcases hup with ⟨e2, rfl⟩ | ⟨i, k', e2, -, h1, -, rfl⟩
            · exact Nat.zero_le _
            · rw [hq9a, e2] at e
              have : i = i' := Decidable.byContradiction (fun ne => nI_ne ne (by omega) (by omega) e)
              omega
        cases ho
        have hjD := (List.getElem?_eq_some_iff.mp hx).1
        have hfrj : fr ≤ j := by
          rcases hupO j x hx with e | ⟨i', hi', e⟩
          · rcases hup with ⟨-, rfl⟩ | ⟨i, k', e2, -, h1, -, -⟩
            · exact Nat.zero_le _
            · rw [hxu, e2] at e
              exact absurd e (nI_ne1 (by omega))
          · rcases hup with ⟨e2, rfl⟩ | ⟨i, k', e2, -, h1, -, rfl⟩
            · exact Nat.zero_le _
            · rw [hxu, e2] at e
              have : i = i' := Decidable.byContradiction (fun ne => nI_ne ne (by omega) (by omega) e)
              omega
        have hnof : ∀ i' x', i' < j → st.1[i']? = some x' → ¬ (x'.2.2.2.1 = up ∧ x'.2.2.2.2 = via) := fun i' x' hi' hx' hh => by
          by_cases hge : fr ≤ i'
          · exact hno i' x' hge hi' hx' hh
          · rcases hupO i' x' hx' with e | ⟨i2, hi2, e⟩
            · rcases hup with ⟨-, rfl⟩ | ⟨i, k', e2, -, h1, -, -⟩
              · omega
              · rw [hh.1, e2] at e
                exact absurd e (nI_ne1 (by omega))
            · rcases hup with ⟨e2, rfl⟩ | ⟨i, k', e2, -, h1, -, rfl⟩
              · omega
              · rw [hh.1, e2] at e
                have : i = i2 := Decidable.byContradiction (fun ne => nI_ne ne (by omega) (by omega) e)
                omega
        have hix : qIx st.1 up via = j := qIx_eq hx ⟨hxu, hxv⟩ hnof
        obtain ⟨A9, r9, w9, ws9, e91, e92, e93, e94⟩ := hbh.1 x (List.mem_of_getElem? hx) hxu hxv
        rw [hd] at e91
        cases e91
        have e92' : (plc p, k) = w9 := by
          have : (plc p, k) :: ws.map (fun q => (plc q.1, q.2)) = w9 :: ws9 := e92
          exact (List.cons.inj this).1
        rw [← e92'] at e94
        have e94 : x.2.1 = plc p := e94
        have hmemx : ∀ A ∈ x.1, A ∈ L.map (rP plc) := fun A hA' => by
          rw [e93, ← hdr] at hA'
          exact hDr_mem _ _ hA'
        obtain ⟨Dr', dn, dc, hprH⟩ := hDr_way (gs := gs) (L.map (rP plc)).length (L.map (rP plc)) Dr hpr hWd.2.2.1 hWd.2.2.2.1
        rw [hdr] at hprH
        have hprx : ∀ A ∈ x.1, pRk P N pos t0 C W Dr' A := fun A hA' => hprH A (by rw [e93] at hA'; exact hA')
        have hWd' : pWd N pos C W Dr' an0 := ⟨hWd.1, hWd.2.1, dn, dc, hWd.2.2.2.2⟩
        obtain ⟨q, z, lA, lB, g1, g2, g3, g4, g5, g6⟩ := hcut.2.2.2.1 j x hx
        obtain ⟨f6, f0, f1, f2, f3, f4, f5, fN, fA, f8, f9, f10⟩ := id g5
        obtain ⟨z1, z2, z3, z4, z5, z6, z7, z8, z9⟩ := id g6
        have hzR := hcut.2.2.2.2.1.2 j x z hx g2
        rw [hxu, hxv] at hzR
        have hXz : z.2.2.2.1 = X ∧ ∀ p, p < X → z.2.2.2.2.2 p = plc p := by
          rcases hup with ⟨e, -⟩ | ⟨i, k', e, ev, h1, hk', rfl⟩
          · obtain ⟨a1, a2⟩ := hzR.1 e
            obtain ⟨b1, b2⟩ := hcur.1 e
            exact ⟨a1.trans b1.symm, fun p hp => by rw [a2 p (by omega), b2 p (by omega)]⟩
          · obtain ⟨xi, hxi⟩ : ∃ xi, st.1[i]? = some xi := ⟨st.1[i], List.getElem?_eq_getElem h1⟩
            obtain ⟨zi, hzi⟩ : ∃ zi, Z[i]? = some zi := ⟨Z[i]'(by rw [hT.2.2.2.2.1.1]; exact h1), List.getElem?_eq_getElem _⟩
            obtain ⟨a1, a2⟩ := hzR.2 i xi zi k' (by omega) hk' e ev hxi hzi
            obtain ⟨b1, b2⟩ := hcur.2 i xi zi k' h1 hk' e ev hxi hzi
            exact ⟨a1.trans b1.symm, fun p hp => by rw [a2 p (by omega), b2 p hp]⟩
        obtain ⟨hzX, hzp⟩ := hXz
        have hzpX : z.2.2.1 < X := by rw [← hzX]; exact z3
        have hpath : plc z.2.2.1 = x.2.1 := by rw [← hzp _ hzpX]; exact z2
        obtain ⟨hmz, hvz⟩ := hmp z.2.2.1 hzpX
        rw [hpath] at hmz hvz
        have hvV := vAt_V hV x.2.1 v0 h0 hvz
        obtain ⟨hvN, hvk, hvq⟩ := hV _ hvV
        obtain ⟨hv4', hty16⟩ := vAt_ty wf hV ht0 h0 hv4 x.2.1 hvz
        have hvak : aK P (vAt P v0 x.2.1) := by
          rcases hvk with e | e <;> rw [aK, e] <;> decide
        obtain ⟨y1, y2, y3, y4, y5, y6, y7⟩ := tW_settled wf wk tp hcut.2.1 (bd := fun _ => none) (q := (0, vAt P v0 x.2.1)) (Or.inl (hVT _ hvV)) hvak
        simp only at y1 y2 y3 y4 y5 y6 y7
        obtain ⟨hB800, hBk⟩ := hB j x hx
        have hpCn : pC P N pos t0 C W Dr' an0 (x.1, x.2.1, W.length, up, via) z := by
          have K := pC_new (z := z) (up := up) (via := via) (W := W) (Dr := Dr') (an := an0) wf wk ht0 e93 (show (rP plc (ow, (p, k) :: ws, bd)).2.1 = (plc p, k) :: ws.map (fun q => (plc q.1, q.2)) from rfl) hWd' (fun π => Or.inl rfl) hprx (fun j hj ρ e he => hcl j (by omega) ρ e (by rw [← hzp j (by omega)]; exact he)) (by rw [hzX]; exact hX4)
          rw [e94]
          exact K
        have hπW : ¬ x.2.1 ∈ W := hpCn.2.2.2.1
        have hWd1 := pWd_ask (x := ((0 : Int32), (0 : Int32))) hWd' hπW hpCn.2.2.2.2.1 hpCn.2.2.2.2.2.1 hpCn.2.2.2.2.2.2.1
        have hW60 : W.length + 1 ≤ 60 := by
          have h1 := sub_len (W := x.2.1 :: W) (l := vPs P 512 v0) hWd1.1 (fun π hπ => vPs_mem wf hV 512 v0 π h0 (by have := (hV v0 h0).1; have := wf.1.1; omega) (by
            rcases List.mem_cons.mp hπ with rfl | hπ
            · exact hvz
            · exact hWv π hπ))
          have h2 := vPs_len wf hV 512 v0 h0
          simp only [List.length_cons] at h1
          omega
        have har4 : arC P (vAt P v0 x.2.1) ≤ 4 := by
          unfold arC
          split
          · rename_i h2
            exact ((wf.2.2 _ hvN).2.2.2 h2).2.1
          · omega
        have hT2 : ∀ i s', ((List.range (arC P (vAt P v0 x.2.1))).map (fun i => tm (tn (P 6 (4 * vAt P v0 x.2.1 + i)))))[i]? = some s' → u.2.2.2 (tm (vAt P v0 x.2.1) + 1) i = some s' ∧ zIs u a s' 7 := fun i s' hi => by
          rw [List.getElem?_map] at hi
          obtain ⟨i', hi1, rfl⟩ := Option.map_eq_some_iff.mp hi
          obtain ⟨hi3, hi4⟩ := List.getElem?_eq_some_iff.mp hi1
          simp at hi3 hi4
          subst hi4
          refine ⟨y7 i hi3, ?_⟩
          have hTp : T (tn (P 6 (4 * vAt P v0 x.2.1 + i))) := by
            unfold arC at hi3
            split at hi3
            · rename_i h2
              exact hVT _ (hvq h2 i hi3)
            · omega
          exact (hcut.2.1 _ hTp).1
        have KM := m_Pg_meet (E := E) (d := d + 5) (G := G) (c := cF c 13 (nI ks.length)) (n := n) (sl := sl) (qn := nI j) (l := as.length) (p := z.2.2.1) hcut.1 h21 (by omega) hmz (all := (List.range (arC P (vAt P v0 x.2.1))).map (fun i => tm (tn (P 6 (4 * vAt P v0 x.2.1 + i))))) (by simpa using har4) (by omega) y2 (by simpa using y6) hT2
        refine g_istore d_Tree_lead_80 (by decide) rfl ?_
        refine g_aload_n d_Tree_lead_82 rfl ?_
        refine x_get (k := 12) (j := 2) (v := .ref (a + 13)) kc_Tree fl_Tree_12 (by decide) (by decide) rfl rfl d_Tree_lead_83 ?_
        refine g_iload d_Tree_lead_86 rfl ?_
        refine c_Vr (as := [.int (nI ks.length)]) kv_Rows_cutTo ml_Tree_89 rfl (x_at (k := 13) (by decide) rfl) (m_S_cutTo (nI ks.length)) rfl (Nat.le_of_ble_eq_true rfl) rfl d_Tree_lead_88 rfl ?_
        rw [emin]
        refine g_iload d_Tree_lead_91 rfl ?_
        refine g_iconst (v := (-1)) d_Tree_lead_93 (by decide) ?_
        refine g_icmp_ne (tgt := 99) d_Tree_lead_94 (by decide) (fun c_94 => ?_) (fun c_94 => ?_)
        rotate_left
        · exact absurd c_94 (fun q => nI_ne1 (by omega) q)
        refine g_aload_n d_Tree_lead_99 rfl ?_
        refine x_get (k := 12) (j := 4) (v := .ref (a + 17)) kc_Tree fl_Tree_28 (by decide) (by decide) rfl rfl d_Tree_lead_100 ?_
        refine g_iload d_Tree_lead_103 rfl ?_
        refine c_Vr (as := [.int (nI j)]) kv_ArrayList_get ml_Tree_63 rfl (x_at (k := 17) (by decide) rfl) (m_K_get lk_quests hcut.1.2.2.1 (by omega) g1) rfl (Nat.le_of_ble_eq_true rfl) rfl d_Tree_lead_105 rfl ?_
        refine z_cast (kb := 6) cl_Tree_67 rfl f6 (by decide) d_Tree_lead_108 ?_
        refine g_astore d_Tree_lead_111 (by decide) rfl ?_
        refine g_aload_n d_Tree_lead_113 rfl ?_
        refine g_aload d_Tree_lead_114 rfl ?_
        refine g_aload_n d_Tree_lead_116 rfl ?_
        refine g_iload d_Tree_lead_117 rfl ?_
        refine g_aload d_Tree_lead_119 rfl ?_
        refine z_get (k := 6) (j := 2) (v := .int (u.2.2.1 q 2)) kc_Question fl_Tree_75 (by decide) f6 (by decide) rfl rfl d_Tree_lead_121 ?_
        rw [f2]
        refine c_Vx (as := [.int (nI j), .int (nI z.2.2.1)]) kv_Passage_meet ml_Tree_254 rfl (x_at (k := 20) (by decide) rfl) (KM) rfl (Nat.le_of_ble_eq_true rfl) rfl d_Tree_lead_124 rfl (fun G_124 h_124 => ?_)
        obtain ⟨c2, u2, n2, sl2, rfl, pg, k21, k6, k3⟩ := h_124
        have hT3 := clT_pg hcut pg.1 pg.2.1 pg.2.2.1 pg.2.2.2.1 pg.2.2.2.2
        obtain ⟨q', z', lA', lB', g1', g2', g3', g4', g5', g6'⟩ := hT3.2.2.2.1 j x hx
        rw [g1] at g1'
        cases g1'
        rw [g2] at g2'
        cases g2'
        obtain ⟨f6', f0', f1', f2', f3', f4', f5', fN', fA', -, -, -⟩ := id g5'
        obtain ⟨x1, x2, x3, x4, x5, -, -⟩ := tW_settled wf wk tp hT3.2.1 (bd := fun _ => none) (q := (0, vAt P v0 x.2.1)) (Or.inl (hVT _ hvV)) hvak
        simp only at x1 x2 x3 x4 x5
        generalize hk0 : vAn P t0 x.1 x.2.1 (vAt P v0 x.2.1) = k0 at *
        have bN := wf.1.1
        have hfacts : k0 < qN P t0 x.1 x.2.1 ∧ k0 < 1000 ∧ ((P 0 (tyP P t0 x.2.1) ≤ 1 ∧ arC P (vAt P v0 x.2.1) = 0) ∨ (¬ P 0 (tyP P t0 x.2.1) ≤ 1 ∧ P 1 (8 * tyP P t0 x.2.1 + k0) = nI (arC P (vAt P v0 x.2.1)) ∧ arC P (vAt P v0 x.2.1) ≤ 4)) ∧ (¬ P 0 (tyP P t0 x.2.1) ≤ 1 → P 3 (vAt P v0 x.2.1) = 2 ∧ P 5 (vAt P v0 x.2.1) = nI k0) := by
          by_cases hn : P 0 (tyP P t0 x.2.1) ≤ 1
          · have hS := (z9 hn).2
            have hSl : (qSr P x.2.1 x.1).length ≤ 800 := by
              have h1 := aSrt_len (l := aNs P x.2.1 x.1) (S := [])
              have h2 := aNs_len (P := P) (π := x.2.1) x.1
              unfold qSr
              simp only [List.length_nil] at h1
              omega
            have hix' := ixS_le (v := P 5 (vAt P v0 x.2.1)) (qSr P x.2.1 x.1)
            have ek : k0 = ixS (P 5 (vAt P v0 x.2.1)) (qSr P x.2.1 x.1) := by
              rw [← hk0]
              unfold vAn
              rw [if_pos hn]
            refine ⟨by unfold qN; rw [if_pos hn]; omega, by omega, Or.inl ⟨hn, ?_⟩, fun h => absurd hn h⟩
            unfold arC
            rw [if_neg (fun e => by
              obtain ⟨TT, w, hT2', hT9, eT, -⟩ := (wk _ hvN).2.2 e
              rw [hv4', tnI (by omega)] at eT
              rw [eT] at hn
              have := (le_hi (nI_hi (by omega)) (show (1 : Int32).toInt = ((1 : Nat) : Int) by decide)).mp hn
              omega)]
          · have hk3 : P 3 (vAt P v0 x.2.1) = 2 := by
              rcases hvk with e | e
              · have := (wk _ hvN).2.1 e
                rw [hv4', tnI (by omega)] at this
                exact absurd (by rw [this]; exact Int32.le_refl _) hn
              · exact e
            obtain ⟨TT, w, hT2', hT9, eT, hwT, e5⟩ := (wk _ hvN).2.2 hk3
            rw [hv4', tnI (by omega)] at eT
            have ek : k0 = w := by
              rw [← hk0]
              unfold vAn
              rw [if_neg hn, e5, tnI (by omega)]
            obtain ⟨-, a4, eP1, -⟩ := (wf.2.2 _ hvN).2.2.2 hk3
            rw [hv4', tnI (by omega), e5, tnI (by omega)] at eP1
            refine ⟨by unfold qN; rw [if_neg hn, eT, tnI (by omega)]; omega, by omega, Or.inr ⟨hn, ?_, har4⟩, fun _ => ⟨hk3, by rw [e5, ek]⟩⟩
            unfold arC
            rw [if_pos hk3, ek]
            exact eP1
        obtain ⟨hkq, hkk, hcs, hcon⟩ := hfacts
        obtain ⟨hbk1, hbk2⟩ := hBk k0 hkq
        have KA : GM E Y_Tree_answerFor (d + 12) [.ref (a + 12), .ref q, .ref (tm (vAt P v0 x.2.1))] (yW E G a c2 u2 n2 sl2) (rIs (some (.int (nI k0))) (yW E G a c2 u2 n2 sl2)) := by
          by_cases hn : P 0 (tyP P t0 x.2.1) ≤ 1
          · obtain ⟨zz1, zz2⟩ := g6'.2.2.2.2.2.2.2.2 hn
            rw [if_pos hn] at f5'
            have eS : qN P t0 x.1 x.2.1 = (qSr P x.2.1 x.1).length + 1 := by unfold qN; rw [if_pos hn]
            rw [eS] at fA'
            have K := m_T_answerFor1 (E := E) (d := d + 12) (G := G) (n := n2) (sl := sl2) f6' x1 f5' fN' fA' zz1 (by have := hT3.2.2.2.2.2.2.2.2.2.1; have := hT3.2.2.2.2.2.2.2.2.2.2.2.1; omega)
            rw [x5] at K
            have ek : ixS (P 5 (vAt P v0 x.2.1)) (qSr P x.2.1 x.1) = k0 := by
              rw [← hk0]
              unfold vAn
              rw [if_pos hn]
            rw [ek] at K
            exact K
          · rw [if_neg hn] at f5'
            have K := m_T_answerFor0 (E := E) (d := d + 12) (G := G) (c := c2) (n := n2) (sl := sl2) f6' f5' x1
            rw [x5, (hcon hn).2] at K
            exact K
        have KMn : GM E Y_Tree_meaning (d + 12) [.ref (a + 12), .ref q, .int (nI k0)] (yW E G a c2 u2 n2 sl2) (rIs (some (.int (qW P t0 x.1 x.2.1 k0))) (yW E G a c2 u2 n2 sl2)) := by
          by_cases hn : P 0 (tyP P t0 x.2.1) ≤ 1
          · obtain ⟨zz1, zz2⟩ := g6'.2.2.2.2.2.2.2.2 hn
            rw [if_pos hn] at f5'
            have eS : qN P t0 x.1 x.2.1 = (qSr P x.2.1 x.1).length + 1 := by unfold qN; rw [if_pos hn]
            rw [eS] at fA'
            have KM0 := m_T_meaning1 (E := E) (d := d + 12) (G := G) (n := n2) (sl := sl2) (k := k0) (S := qSr P x.2.1 x.1) f6' f5' fN' fA' zz1 (by have := hT3.2.2.2.2.2.2.2.2.2.1; have := hT3.2.2.2.2.2.2.2.2.2.2.2.1; omega) (by omega)
            unfold qW
            rw [if_pos hn]
            cases hS : (qSr P x.2.1 x.1)[k0]? with
            | none =>
              rw [hS] at KM0
              exact KM0
            | some v =>
              rw [hS] at KM0
              exact KM0
          · rw [if_neg hn] at f5'
            have K := m_T_meaning0 (E := E) (d := d + 12) (G := G) (c := c2) (n := n2) (sl := sl2) (x := nI k0) f6' f5'
            have eW : qW P t0 x.1 x.2.1 k0 = nI k0 := by unfold qW; rw [if_neg hn]
            rw [eW]
            exact K
        obtain ⟨m1, m2⟩ := fol_map (x := (x.1, x.2.1, W.length, up, via)) (kd := fun t => u2.2.2.1 t 1) (on := fun t => u2.2.2.1 t 5) (ar := arC P (vAt P v0 x.2.1)) (k0 := k0) wf wb wk tp (tW_kd hT3.2.1) ht0 g6' hpCn hB800 hkk hcs
        have m1 : (ansC P z.2.2.1 z.2.2.2.1 (qW P t0 x.1 x.2.1 k0) z.2.1).map (rP (plcX z.2.2.2.1 z.2.2.2.2.2 x.2.1 k0)) = qL P t0 x.1 x.2.1 k0 := m1
        have hml : (ansC P z.2.2.1 z.2.2.2.1 (qW P t0 x.1 x.2.1 k0) z.2.1).length = (qL P t0 x.1 x.2.1 k0).length := by rw [← m1, List.length_map]
        have hks3 := hT3.1.1
        rw [List.append_nil] at hks3
        have KP := m_S_putAnswer (E := E) (d := d + 3) (G := G) (wh := qW P t0 x.1 x.2.1 k0) (lA := lA') (qs := z.1) (lB := lB') (q0 := q) (p := z.2.2.1) (fp := z.2.2.2.1) (R := z.2.1) wf wb wk tp hT3.2.1 (by rw [← g3']; exact hT3.2.2.2.2.2.2.2.2.2.1) (by rw [← g3']; exact hks3) (rws_w z5 (by omega)) (by omega) (by omega) f6' f0' f1' f2' f4' g4'
        rw [← g3'] at KP
        have elp : lp P t0 st.1 gs v0 (f + 1) (L.map (rP plc)) up via as = lp P t0 st.1 gs v0 f (qL P t0 x.1 x.2.1 k0) (nI j) (nI k0) (as ++ [j]) := by
          simp only [lp]
          rw [hdr]
          show lp P t0 st.1 gs v0 f (qL P t0 (rP plc (ow, (p, k) :: ws, bd) :: Hr.map (rP plc)) (plc p) (vAn P t0 (rP plc (ow, (p, k) :: ws, bd) :: Hr.map (rP plc)) (plc p) (vAt P v0 (plc p)))) (nI (qIx st.1 up via)) (nI (vAn P t0 (rP plc (ow, (p, k) :: ws, bd) :: Hr.map (rP plc)) (plc p) (vAt P v0 (plc p)))) (as ++ [qIx st.1 up via]) = _
          rw [← e93, ← e94, hk0, hix]
        rw [elp]
        refine c_Vr (as := [.ref (q), .ref (tm (vAt P v0 x.2.1))]) kv_Tree_answerFor ml_Tree_258 rfl (x_at (k := 12) (by decide) rfl) (KA) rfl (Nat.le_of_ble_eq_true rfl) rfl d_Tree_lead_127 rfl ?_
        refine g_istore d_Tree_lead_130 (by decide) rfl ?_
        refine g_aload_n d_Tree_lead_132 rfl ?_
        refine x_get (k := 12) (j := 2) (v := .ref (a + 13)) kc_Tree fl_Tree_12 (by decide) (by decide) rfl rfl d_Tree_lead_133 ?_
        refine g_aload d_Tree_lead_136 rfl ?_
        refine g_aload_n d_Tree_lead_138 rfl ?_
        refine g_aload d_Tree_lead_139 rfl ?_
        refine g_iload d_Tree_lead_141 rfl ?_
        refine c_Vr (as := [.ref (q), .int (nI k0)]) kv_Tree_meaning ml_Tree_111 rfl (x_at (k := 12) (by decide) rfl) (KMn) rfl (Nat.le_of_ble_eq_true rfl) rfl d_Tree_lead_143 rfl ?_
        refine c_V (as := [.ref (q), .int (qW P t0 x.1 x.2.1 k0)]) kv_Rows_putAnswer ml_Tree_126 rfl (x_at (k := 13) (by decide) rfl) (KP) rfl (Nat.le_of_ble_eq_true rfl) rfl d_Tree_lead_146 (fun v_146 G_146 h_146 => ?_) (fun D_146 G_146 h_146 => by rcases h_146 with ⟨h, -⟩ | ⟨h, -⟩ <;> cases h)
        rcases h_146 with ⟨ho, c3, u3, n3, sl3, sp3, bs3, rfl, B3, hc3⟩ | ⟨ho, hbad, -⟩
        rotate_left
        · exfalso
          rw [hml] at hbad
          omega
        cases ho
        have hp3 := hpOk_rows hT3.1 (by rw [List.append_nil] at *; exact B3.1) B3.2.1 B3.2.2.1 B3.2.2.2.1
        have hT4 := clT_rows (bs' := bs3) hT3 hp3 B3.2.1 B3.2.2.1 B3.2.2.2.1 B3.2.2.2.2.1
        have hqW : ∀ A ∈ qL P t0 x.1 x.2.1 k0, pRk P N pos t0 C (x.2.1 :: W) Dr' A := aAns_way wf ht0 hπW hpCn.2.2.2.2.2.2.1 (fun σ h => (hWd.2.1 σ h).2.2) x.1 hprx (fun A hA y hy e h => (pC_kd wf wk ht0 hpCn A hA y hy e).2 (fun zz => h (if_pos zz)))
        have hpr4 : ∀ A ∈ ansC P z.2.2.1 z.2.2.2.1 (qW P t0 x.1 x.2.1 k0) z.2.1, A.1 < C ∧ A.2.1.length < 1000 := fun A hA => by
          have h1 := (hqW (rP (plcX z.2.2.2.1 z.2.2.2.2.2 x.2.1 k0) A) (by rw [← m1]; exact List.mem_map_of_mem hA)).2.1
          have h2 := m2 A hA
          have h3 := Nat.le_trans (tI_len wf.1 (fun q hq => (h2.1.1 q hq).1)) h2.1.2.2.2
          exact ⟨h1, by omega⟩
        have KF := m_T_held (E := E) (d := d + 8) (G := G) (gs := gs) hC20 hg01 hT4 hc3 hpr4 (by omega)
        refine g_if_eq (tgt := 162) d_Tree_lead_149 (by decide) (fun c_149 => absurd c_149 (by decide)) (fun c_149 => ?_)
        refine g_aload_n d_Tree_lead_152 rfl ?_
        refine g_iload d_Tree_lead_153 rfl ?_
        refine g_iload_n d_Tree_lead_155 rfl ?_
        refine c_V (as := [.int (nI ks.length), .int (gs)]) kv_Tree_firstHeld ml_Tree_247 rfl (x_at (k := 12) (by decide) rfl) (KF) rfl (Nat.le_of_ble_eq_true rfl) rfl d_Tree_lead_156 (fun v_156 G_156 h_156 => ?_) (fun D_156 G_156 h_156 => by obtain ⟨_, _, _, _, _, _, _, _, _, _, ⟨_, h⟩ | ⟨_, _, _, h⟩⟩ := h_156 <;> cases h)
        obtain ⟨c4, u4, bs4, sp4, rfl, hT5, fc4, fr4, hr4, kx4, hfv⟩ := h_156
        have hfvv : ∃ fv', v_156 = some fv' ∧ ((hDC P gs (ansC P z.2.2.1 z.2.2.2.1 (qW P t0 x.1 x.2.1 k0) z.2.1).length (ansC P z.2.2.1 z.2.2.2.1 (qW P t0 x.1 x.2.1 k0) z.2.1) = [] ∧ fv' = .null) ∨ ∃ b r, bs4 = b :: r ∧ fv' = .ref b) := by
          rcases hfv with ⟨e1, e2⟩ | ⟨b', r', e1, e2⟩
          · exact ⟨.null, Sum.inl.inj e2, Or.inl ⟨e1, rfl⟩⟩
          · exact ⟨.ref b', Sum.inl.inj e2, Or.inr ⟨b', r', e1, rfl⟩⟩
        obtain ⟨fv', rfl, hfv'⟩ := hfvv
        have hldF : ldF c0 u0 n0 c4 u4 n3 := ldF_tr hF (ldF_tr (ldF_r rFc_13 rFr_rf (Nat.le_refl _)) (ldF_tr (ldF_p pg) (ldF_tr (ldF_r B3.2.1 B3.2.2.1 B3.2.2.2.1) (ldF_r fc4 fr4 (Nat.le_refl _)))))
        have hc21 : c4.1 21 = nI (as.length + 1) := by rw [fc4.1 21 (by decide) (by decide) (by decide), B3.2.1.1 21 (by decide) (by decide) (by decide)]; exact k21
        have hc26 : c4.2.1 6 = upd (c.2.1 6) as.length (nI j) := by rw [fc4.2.1, B3.2.1.2.1]; exact k6
        have hc3n : ∀ k, k < 8 → c4.2.2.1 3 k = none := fun k hk => by rw [fc4.2.2.1, B3.2.1.2.2.1, k3]; exact h3 k hk
        have hrel : zR1 P t0 Z st.1 st.1.length (nI j) (nI k0) (z.2.2.2.1 + arC P (vAt P v0 x.2.1)) (plcX z.2.2.2.1 z.2.2.2.2.2 x.2.1 k0) := by
          refine ⟨fun e => absurd e (nI_ne1 (by omega)), fun i' xi zi k' hi' hk' e1 e2 e3 e4 => ?_⟩
          obtain rfl : j = i' := Decidable.byContradiction (fun ne => nI_ne ne (by omega) (by omega) e1)
          obtain rfl : k0 = k' := Decidable.byContradiction (fun ne => nI_ne ne (by omega) hk' e2)
          rw [hx] at e3
          cases e3
          rw [g2] at e4
          cases e4
          refine ⟨?_, fun _ _ => rfl⟩
          unfold arq
          rcases hcs with ⟨w1, w2⟩ | ⟨w1, w2, -⟩
          · rw [if_pos w1, w2]
          · rw [if_neg w1, w2, tnI (by omega)]
        have KI := ih (ansC P z.2.2.1 z.2.2.2.1 (qW P t0 x.1 x.2.1 k0) z.2.1) (z.2.2.2.1 + arC P (vAt P v0 x.2.1)) (plcX z.2.2.2.1 z.2.2.2.2.2 x.2.1 k0) (x.2.1 :: W) Dr' (nI j) (nI k0) (as ++ [j]) bs4 sp4 _ c4 u4 n3 sl3 (s + 1) (j + 1) fv' (by simp only [List.length_cons]; omega) hT5 hr4 hfv' m2 (by omega) (by rw [m1]; exact hbk1) (Or.inr ⟨j, k0, rfl, rfl, hjD, by omega, rfl⟩) (by omega) hrel ⟨hWd1.1, hWd1.2.1, dn, dc, fun π h => absurd rfl h⟩ (by rw [m1]; exact hqW) (by rw [m1]; exact qL_vP (x := x) wf wk hV ht0 h0 hv4 hprx hvz hk0.symm (fun A hA q hq => hvp A (hmemx A hA) q hq)) (fun π hπ => by
          rcases List.mem_cons.mp hπ with rfl | hπ
          · exact hvz
          · exact hWv π hπ) (by rw [List.length_append, List.length_map, List.length_range, hms, hzX]) (fun p' hp' => ?_) (fun j' hj' ρ e he => ?_) (by simp only [List.length_cons]; omega) (by rw [hc21]; simp) (by simp only [List.length_append, List.length_cons, List.length_nil]; omega) (fun i y hy => ?_) hc3n hldF
        rotate_left
        · rcases Nat.lt_or_ge p' X with hlt | hge
          · obtain ⟨a1, a2⟩ := hmp p' hlt
            rw [plcX_lt (by omega), hzp p' hlt]
            exact ⟨app_at a1, a2⟩
          · obtain ⟨kk, rfl⟩ : ∃ kk, p' = z.2.2.2.1 + kk := ⟨p' - z.2.2.2.1, by omega⟩
            have hkk2 : kk < arC P (vAt P v0 x.2.1) := by omega
            have h2 : P 3 (vAt P v0 x.2.1) = 2 := Decidable.byContradiction (fun h => by unfold arC at hkk2; rw [if_neg h] at hkk2; omega)
            have hn : ¬ P 0 (tyP P t0 x.2.1) ≤ 1 := fun hn => by
              rcases hcs with ⟨-, w2⟩ | ⟨w1, -⟩
              · omega
              · exact w1 hn
            rw [plcX_ge, vAt_app, show (4 * k0 + kk) % 4 = kk by omega]
            refine ⟨?_, (vP_app x.2.1 v0 _).mpr ⟨hvz, h2, ?_, ?_⟩⟩
            · rw [List.getElem?_append_right (by omega), show z.2.2.2.1 + kk - ms.length = kk by omega, List.getElem?_map, List.getElem?_range hkk2]
              rfl
            · rw [(hcon hn).2, tnI (by omega)]
              omega
            · rw [show (4 * k0 + kk) % 4 = kk by omega]
              unfold arC at hkk2
              rw [if_pos h2] at hkk2
              exact hkk2
        · rcases Nat.lt_or_ge j' X with hlt | hge
          · rw [plcX_lt (by omega), hzp j' hlt] at he
            exact List.mem_cons_of_mem _ (hcl j' hlt ρ e he)
          · obtain ⟨kk, rfl⟩ : ∃ kk, j' = z.2.2.2.1 + kk := ⟨j' - z.2.2.2.1, by omega⟩
            rw [plcX_ge] at he
            rw [← List.append_inj_left' he rfl]
            exact List.mem_cons_self
        · rw [hc26]
          rcases Nat.lt_or_ge i as.length with hlt | hge
          · rw [List.getElem?_append_left hlt] at hy
            rw [up_ne (by omega)]
            exact h6 i y hy
          · have hi := (List.getElem?_eq_some_iff.mp hy).1
            rw [List.length_append, List.length_cons, List.length_nil] at hi
            obtain rfl : i = as.length := by omega
            rw [mid_at] at hy
            cases hy
            exact up_at
        rw [m1] at KI
        rcases hfv' with ⟨-, rfl⟩ | ⟨b4, r4, -, rfl⟩
        · refine g_goto (tgt := 163) d_Tree_lead_159 (by decide) ?_
          refine g_astoreN d_Tree_lead_163 (by decide) rfl ?_
          refine g_iinc (v := nI (s + 1)) d_Tree_lead_165 rfl (nI_1 s) (by decide) rfl ?_
          refine g_goto (tgt := 50) d_Tree_lead_168 (by decide) ?_
          refine g_weak (lv' := [(0, .ref (a + 12)), (1, .ref t0v), (2, .int gs), (3, .ref (a + 20)), (4, .int (nI ks.length)), (5, .null), (6, .int (nI j)), (7, .int (nI k0)), (8, .int (nI (s + 1)))]) (fun q hq => List.mem_append_left _ hq) (by simp) ?_
          exact KI
        · refine g_goto (tgt := 163) d_Tree_lead_159 (by decide) ?_
          refine g_astore d_Tree_lead_163 (by decide) rfl ?_
          refine g_iinc (v := nI (s + 1)) d_Tree_lead_165 rfl (nI_1 s) (by decide) rfl ?_
          refine g_goto (tgt := 50) d_Tree_lead_168 (by decide) ?_
          refine g_weak (lv' := [(0, .ref (a + 12)), (1, .ref t0v), (2, .int gs), (3, .ref (a + 20)), (4, .int (nI ks.length)), (5, .ref b4), (6, .int (nI j)), (7, .int (nI k0)), (8, .int (nI (s + 1)))]) (fun q hq => List.mem_append_left _ hq) (by simp) ?_
          exact KI
set_option maxHeartbeats 400000 in
set_option maxRecDepth 100000 in
theorem m_T_lead (wf : wfA P N pos) (wb : wfB P N) (wk : wfK P N) (tp : tmP P N tm ob T) (hC20 : C ≤ 20) (ht0 : t0 < 16) (hNC : N + C ≤ 511) (hg01 : ∀ k, k < C → P 12 k = 0 ∨ P 12 k = 1) (hAr : ∀ π w, ¬ P 0 (tyP P t0 π) ≤ 1 → w < tn (P 0 (tyP P t0 π)) - 1 → ∃ a, a ≤ 4 ∧ P 1 (8 * tyP P t0 π + w) = nI a) (hV : vOkN P N V) (hVT : ∀ v, V v → T v) {v0 : Nat} (h0 : V v0) (hv4 : P 4 v0 = nI t0) (hv60 : tn (P 7 v0) ≤ 60) (hB : ∀ i q, st.1[i]? = some q → q.1.length ≤ 800 ∧ ∀ k, k < qN P t0 q.1 q.2.1 → bhd P st.1 (nI i) (nI k) (qL P t0 q.1 q.2.1 k) ∧ (qL P t0 q.1 q.2.1 k).length ≤ 80) (hupO : upOk st.1) {gs : Int32} (hcp : wfC P N pos t0 C cp) (hcT : ∀ k, k < C → T (cp k)) (h80 : (aF P ([] : List Nat) cp C).length ≤ 80) (hb0 : bhd P st.1 (-1) 0 (aF P [] cp C)) (hT : clT E a B SS P N t0 tm ob T C cp c u n sl ks [] sp ps qs ms nk Z st) : GM E Y_Tree_lead (d + 13) [.ref (a + 12), .ref (tm v0), .int gs, .ref (a + 20)] (yW E G a c u n sl) (ldQ E G a B SS P N t0 tm ob T C cp c u n ks ps qs nk Z st v0 (lp P t0 st.1 gs v0 61 (aF P [] cp C) (-1) 0 [])) := by
  refine g_entry (by decide) (by simp [Value.category]) (Nat.le_of_ble_eq_true rfl) ?_
  have hLen : (aF P ([] : List Nat) cp C).length = (aF P 0 cp C).length := aF_len2 C
  have hmap := rP_aF (P := P) (cp := cp) (plc := fun _ => []) rfl C
  have hpr := aF_ok wf hcp C (Nat.le_refl _)
  refine g_aload_n d_Tree_lead_0 rfl ?_
  refine g_aload_n d_Tree_lead_1 rfl ?_
  refine c_Vx (as := [.ref (tm v0)]) kv_Passage_begin ml_Tree_242 rfl (x_at (k := 20) (by decide) rfl) (m_Pg_begin (d := d + 5) hT.1 (hT.2.1 _ (hVT _ h0)).1) rfl (Nat.le_of_ble_eq_true rfl) rfl d_Tree_lead_2 rfl (fun G_2 h_2 => ?_)
  obtain ⟨c1, u1, n1, sl1, rfl, pg, k21, k3⟩ := h_2
  have hT1 := clT_pg hT pg.1 pg.2.1 pg.2.2.1 pg.2.2.2.1 pg.2.2.2.2
  have h13 := hT1.1.1.2.2.2.2.2.2.1
  rw [List.append_nil] at h13
  have hks1 := hT1.1.1
  rw [List.append_nil] at hks1
  have KC := m_S_putCases (E := E) (d := d + 3) (G := G) (l0 := ks) (C := C) (cp := cp) wf.1 wb wk tp hT1.2.1 hC20 hT1.2.2.2.2.2.2.2.2.2.1 (fun k hk => ⟨hcT k hk, (hcp k hk).2.2.1, (hT1.2.2.1.2.1 k hk).2⟩) hT1.2.2.1.1 hks1
  refine g_aload_n d_Tree_lead_5 rfl ?_
  refine x_get (k := 12) (j := 2) (v := .ref (a + 13)) kc_Tree fl_Tree_12 (by decide) (by decide) rfl rfl d_Tree_lead_6 ?_
  refine c_Vr (as := []) kv_Rows_size ml_Tree_122 rfl (x_at (k := 13) (by decide) rfl) (m_S_size) rfl (Nat.le_of_ble_eq_true rfl) rfl d_Tree_lead_9 rfl ?_
  rw [h13]
  refine g_istore d_Tree_lead_12 (by decide) rfl ?_
  refine g_aload_n d_Tree_lead_14 rfl ?_
  refine x_get (k := 12) (j := 2) (v := .ref (a + 13)) kc_Tree fl_Tree_12 (by decide) (by decide) rfl rfl d_Tree_lead_15 ?_
  refine g_aload_n d_Tree_lead_18 rfl ?_
  refine x_get (k := 12) (j := 1) (v := .ref (a + 5)) kc_Tree fl_Tree_43 (by decide) (by decide) rfl rfl d_Tree_lead_19 ?_
  refine c_V (as := [.ref (a + 5)]) kv_Rows_putCases ml_Tree_54 rfl (x_at (k := 13) (by decide) rfl) (KC) rfl (Nat.le_of_ble_eq_true rfl) rfl d_Tree_lead_22 (fun v_22 G_22 h_22 => ?_) (fun D_22 G_22 h_22 => by rcases h_22 with ⟨h, -⟩ | ⟨h, -⟩ <;> cases h)
  rcases h_22 with ⟨ho, c3, u3, n3, sl3, sp3, bs3, rfl, B3, hc3⟩ | ⟨ho, hbad, -⟩
  rotate_left
  · exfalso
    omega
  cases ho
  have hp3 := hpOk_rows hT1.1 (by rw [List.append_nil] at *; exact B3.1) B3.2.1 B3.2.2.1 B3.2.2.2.1
  have hT4 := clT_rows (bs' := bs3) hT1 hp3 B3.2.1 B3.2.2.1 B3.2.2.2.1 B3.2.2.2.2.1
  have m2 : rws P N ob T 1 (aF P 0 cp C) := cases_rws (kd := fun t => u3.2.2.1 t 1) (on := fun t => u3.2.2.1 t 5) wf.1 wb wk tp (tW_kd hT4.2.1) C (fun k hk => ⟨hcT k hk, (hcp k hk).2.2.1⟩)
  have hpr4 : ∀ A ∈ aF P 0 cp C, A.1 < C ∧ A.2.1.length < 1000 := fun A hA => by
    have h1 := (hpr (rP (fun _ => []) A) (by rw [← hmap]; exact List.mem_map_of_mem hA)).2.1
    have h2 := m2 A hA
    have h3 := Nat.le_trans (tI_len wf.1 (fun q hq => (h2.1.1 q hq).1)) h2.1.2.2.2
    exact ⟨h1, by omega⟩
  have KF := m_T_held (E := E) (d := d + 8) (G := G) (gs := gs) hC20 hg01 hT4 hc3 hpr4 (by omega)
  have hWd0 : pWd N pos C [] [] an0 := ⟨List.nodup_nil, fun π h => (by cases h), List.nodup_nil, fun k h => (by cases h), fun π h => absurd rfl h⟩
  refine g_if_eq (tgt := 38) d_Tree_lead_25 (by decide) (fun c_25 => absurd c_25 (by decide)) (fun c_25 => ?_)
  refine g_aload_n d_Tree_lead_28 rfl ?_
  refine g_iload d_Tree_lead_29 rfl ?_
  refine g_iload_n d_Tree_lead_31 rfl ?_
  refine c_V (as := [.int (nI ks.length), .int (gs)]) kv_Tree_firstHeld ml_Tree_247 rfl (x_at (k := 12) (by decide) rfl) (KF) rfl (Nat.le_of_ble_eq_true rfl) rfl d_Tree_lead_32 (fun v_32 G_32 h_32 => ?_) (fun D_32 G_32 h_32 => by obtain ⟨_, _, _, _, _, _, _, _, _, _, ⟨_, h⟩ | ⟨_, _, _, h⟩⟩ := h_32 <;> cases h)
  obtain ⟨c4, u4, bs4, sp4, rfl, hT5, fc4, fr4, hr4, kx4, hfv⟩ := h_32
  have hfvv : ∃ fv', v_32 = some fv' ∧ ((hDC P gs (aF P 0 cp C).length (aF P 0 cp C) = [] ∧ fv' = .null) ∨ ∃ b r, bs4 = b :: r ∧ fv' = .ref b) := by
    rcases hfv with ⟨e1, e2⟩ | ⟨b', r', e1, e2⟩
    · exact ⟨.null, Sum.inl.inj e2, Or.inl ⟨e1, rfl⟩⟩
    · exact ⟨.ref b', Sum.inl.inj e2, Or.inr ⟨b', r', e1, rfl⟩⟩
  obtain ⟨fv', rfl, hfv'⟩ := hfvv
  have KI := m_T_ld50 (E := E) (d := d) (G := G) (G0 := yW E G a c u n sl) (st := st) (gs := gs) (t0v := tm v0) (c0 := c) (u0 := u) (n0 := n) wf wb wk tp hC20 ht0 hNC hg01 hAr hV hVT h0 hv4 hv60 hB hupO 61 (aF P 0 cp C) 1 (fun _ => []) [] [] (-1) 0 [] bs4 sp4 _ c4 u4 n3 sl3 0 0 fv' (by decide) hT5 hr4 hfv' m2 (by omega) (by rw [hmap]; exact hb0) (Or.inl ⟨rfl, rfl⟩) (Nat.le_refl _) ⟨fun _ => ⟨rfl, fun _ _ => rfl⟩, fun i xi zi k hi _ e => absurd e.symm (nI_ne1 (by have := hT.2.2.2.2.2.2.2.1; omega))⟩ hWd0 (by rw [hmap]; exact hpr) (fun A hA q hq => ?_) (fun π h => by cases h) rfl (fun p hp => ?_) (fun j hj ρ e he => by simp at he) (Nat.le_refl _) (by rw [fc4.1 21 (by decide) (by decide) (by decide), B3.2.1.1 21 (by decide) (by decide) (by decide)]; exact k21) rfl (fun i y hy => by cases hy) (fun k hk => by rw [fc4.2.2.1, B3.2.1.2.2.1]; exact k3 k hk) (ldF_tr (ldF_p pg) (ldF_tr (ldF_r B3.2.1 B3.2.2.1 B3.2.2.2.1) (ldF_r fc4 fr4 (Nat.le_refl _))))
  rotate_left
  · obtain ⟨A', hA', rfl⟩ := List.mem_map.mp hA
    obtain ⟨q', hq', rfl⟩ := List.mem_map.mp hq
    exact trivial
  · obtain rfl : p = 0 := by omega
    exact ⟨rfl, trivial⟩
  rw [hmap] at KI
  rcases hfv' with ⟨-, rfl⟩ | ⟨b4, r4, -, rfl⟩
  · refine g_goto (tgt := 39) d_Tree_lead_35 (by decide) ?_
    refine g_astoreN d_Tree_lead_39 (by decide) rfl ?_
    refine g_iconst (v := (-1)) d_Tree_lead_41 (by decide) ?_
    refine g_istore d_Tree_lead_42 (by decide) rfl ?_
    refine g_iconst (v := 0) d_Tree_lead_44 (by decide) ?_
    refine g_istore d_Tree_lead_45 (by decide) rfl ?_
    refine g_iconst (v := 0) d_Tree_lead_47 (by decide) ?_
    refine g_istore d_Tree_lead_48 (by decide) rfl ?_
    exact KI
  · refine g_goto (tgt := 39) d_Tree_lead_35 (by decide) ?_
    refine g_astore d_Tree_lead_39 (by decide) rfl ?_
    refine g_iconst (v := (-1)) d_Tree_lead_41 (by decide) ?_
    refine g_istore d_Tree_lead_42 (by decide) rfl ?_
    refine g_iconst (v := 0) d_Tree_lead_44 (by decide) ?_
    refine g_istore d_Tree_lead_45 (by decide) rfl ?_
    refine g_iconst (v := 0) d_Tree_lead_47 (by decide) ?_
    refine g_istore d_Tree_lead_48 (by decide) rfl ?_
    exact KI
end CV
