/-! Term.partAt, Passage.toldOf -/
theorem d_Term_partAt_0 : decode Y_Term_partAt.2.1 0 = .ok (.aload_n 0, 1) := by decide +kernel
theorem d_Term_partAt_1 : decode Y_Term_partAt.2.1 1 = .ok (.astore_n 2, 1) := by decide +kernel
theorem d_Term_partAt_2 : decode Y_Term_partAt.2.1 2 = .ok (.iload_n 1, 1) := by decide +kernel
theorem d_Term_partAt_3 : decode Y_Term_partAt.2.1 3 = .ok (.istore_n 3, 1) := by decide +kernel
theorem d_Term_partAt_4 : decode Y_Term_partAt.2.1 4 = .ok (.iconst 0, 1) := by decide +kernel
theorem d_Term_partAt_5 : decode Y_Term_partAt.2.1 5 = .ok (.istore 4, 2) := by decide +kernel
theorem d_Term_partAt_7 : decode Y_Term_partAt.2.1 7 = .ok (.iload 4, 2) := by decide +kernel
theorem d_Term_partAt_9 : decode Y_Term_partAt.2.1 9 = .ok (.bipush 60, 2) := by decide +kernel
theorem d_Term_partAt_11 : decode Y_Term_partAt.2.1 11 = .ok (.if_icmp .ge 80, 3) := by decide +kernel
theorem d_Term_partAt_14 : decode Y_Term_partAt.2.1 14 = .ok (.iload_n 3, 1) := by decide +kernel
theorem d_Term_partAt_15 : decode Y_Term_partAt.2.1 15 = .ok (.ifCond .le 76, 3) := by decide +kernel
theorem d_Term_partAt_18 : decode Y_Term_partAt.2.1 18 = .ok (.aload_n 2, 1) := by decide +kernel
theorem d_Term_partAt_19 : decode Y_Term_partAt.2.1 19 = .ok (.getfield 21, 3) := by decide +kernel
theorem d_Term_partAt_22 : decode Y_Term_partAt.2.1 22 = .ok (.arraylength, 1) := by decide +kernel
theorem d_Term_partAt_23 : decode Y_Term_partAt.2.1 23 = .ok (.ifCond .le 68, 3) := by decide +kernel
theorem d_Term_partAt_26 : decode Y_Term_partAt.2.1 26 = .ok (.iinc 3 (-1), 3) := by decide +kernel
theorem d_Term_partAt_29 : decode Y_Term_partAt.2.1 29 = .ok (.iconst 0, 1) := by decide +kernel
theorem d_Term_partAt_30 : decode Y_Term_partAt.2.1 30 = .ok (.istore 5, 2) := by decide +kernel
theorem d_Term_partAt_32 : decode Y_Term_partAt.2.1 32 = .ok (.iload 5, 2) := by decide +kernel
theorem d_Term_partAt_34 : decode Y_Term_partAt.2.1 34 = .ok (.aload_n 2, 1) := by decide +kernel
theorem d_Term_partAt_35 : decode Y_Term_partAt.2.1 35 = .ok (.getfield 21, 3) := by decide +kernel
theorem d_Term_partAt_38 : decode Y_Term_partAt.2.1 38 = .ok (.arraylength, 1) := by decide +kernel
theorem d_Term_partAt_39 : decode Y_Term_partAt.2.1 39 = .ok (.iconst 1, 1) := by decide +kernel
theorem d_Term_partAt_40 : decode Y_Term_partAt.2.1 40 = .ok (.isub, 1) := by decide +kernel
theorem d_Term_partAt_41 : decode Y_Term_partAt.2.1 41 = .ok (.if_icmp .ge 36, 3) := by decide +kernel
theorem d_Term_partAt_44 : decode Y_Term_partAt.2.1 44 = .ok (.iload_n 3, 1) := by decide +kernel
theorem d_Term_partAt_45 : decode Y_Term_partAt.2.1 45 = .ok (.aload_n 2, 1) := by decide +kernel
theorem d_Term_partAt_46 : decode Y_Term_partAt.2.1 46 = .ok (.getfield 21, 3) := by decide +kernel
theorem d_Term_partAt_49 : decode Y_Term_partAt.2.1 49 = .ok (.iload 5, 2) := by decide +kernel
theorem d_Term_partAt_51 : decode Y_Term_partAt.2.1 51 = .ok (.aaload, 1) := by decide +kernel
theorem d_Term_partAt_52 : decode Y_Term_partAt.2.1 52 = .ok (.getfield 25, 3) := by decide +kernel
theorem d_Term_partAt_55 : decode Y_Term_partAt.2.1 55 = .ok (.if_icmp .lt 22, 3) := by decide +kernel
theorem d_Term_partAt_58 : decode Y_Term_partAt.2.1 58 = .ok (.iload_n 3, 1) := by decide +kernel
theorem d_Term_partAt_59 : decode Y_Term_partAt.2.1 59 = .ok (.aload_n 2, 1) := by decide +kernel
theorem d_Term_partAt_60 : decode Y_Term_partAt.2.1 60 = .ok (.getfield 21, 3) := by decide +kernel
theorem d_Term_partAt_63 : decode Y_Term_partAt.2.1 63 = .ok (.iload 5, 2) := by decide +kernel
theorem d_Term_partAt_65 : decode Y_Term_partAt.2.1 65 = .ok (.aaload, 1) := by decide +kernel
theorem d_Term_partAt_66 : decode Y_Term_partAt.2.1 66 = .ok (.getfield 25, 3) := by decide +kernel
theorem d_Term_partAt_69 : decode Y_Term_partAt.2.1 69 = .ok (.isub, 1) := by decide +kernel
theorem d_Term_partAt_70 : decode Y_Term_partAt.2.1 70 = .ok (.istore_n 3, 1) := by decide +kernel
theorem d_Term_partAt_71 : decode Y_Term_partAt.2.1 71 = .ok (.iinc 5 1, 3) := by decide +kernel
theorem d_Term_partAt_74 : decode Y_Term_partAt.2.1 74 = .ok (.goto (-42), 3) := by decide +kernel
theorem d_Term_partAt_77 : decode Y_Term_partAt.2.1 77 = .ok (.aload_n 2, 1) := by decide +kernel
theorem d_Term_partAt_78 : decode Y_Term_partAt.2.1 78 = .ok (.getfield 21, 3) := by decide +kernel
theorem d_Term_partAt_81 : decode Y_Term_partAt.2.1 81 = .ok (.iload 5, 2) := by decide +kernel
theorem d_Term_partAt_83 : decode Y_Term_partAt.2.1 83 = .ok (.aaload, 1) := by decide +kernel
theorem d_Term_partAt_84 : decode Y_Term_partAt.2.1 84 = .ok (.astore_n 2, 1) := by decide +kernel
theorem d_Term_partAt_85 : decode Y_Term_partAt.2.1 85 = .ok (.iinc 4 1, 3) := by decide +kernel
theorem d_Term_partAt_88 : decode Y_Term_partAt.2.1 88 = .ok (.goto (-81), 3) := by decide +kernel
theorem d_Term_partAt_91 : decode Y_Term_partAt.2.1 91 = .ok (.aload_n 2, 1) := by decide +kernel
theorem d_Term_partAt_92 : decode Y_Term_partAt.2.1 92 = .ok (.areturn, 1) := by decide +kernel
section DF
variable {E : gE} {d : Nat} {G G0 G1 : gS} {a : Nat} {c c' c0 c1 : cS} {u u' u2 u0 : uS} {n n' sl sl' : Nat} {Q : gO → gS → Prop} {P : Nat → Nat → Int32} {N t0 C : Nat} {pos : Nat → List Nat} {tm cp : Nat → Nat} {ob : Nat → Int32} {T V : Nat → Prop}
/-- values' sizes -/
def vS (P : Nat → Nat → Int32) (V : Nat → Prop) : Prop := ∀ v, V v → (P 3 v = 1 → P 7 v = 1) ∧ ∃ z, z ≤ 60 ∧ P 7 v = nI z
/-- parts' sizes -/
def vZ (P : Nat → Nat → Int32) (v : Nat) : Nat → Nat → Nat
  | _, 0 => 0
  | k, b + 1 => tn (P 7 (tn (P 6 (4 * v + k)))) + vZ P v (k + 1) b
theorem vZ_aZ {g : Nat → Unit} {v : Nat} : ∀ (b k : Nat), aZ P ((List.range' k b).map (fun i => (g i, tn (P 6 (4 * v + i))))) = vZ P v k b
  | 0, k => rfl
  | b + 1, k => by
    rw [List.range'_succ, List.map_cons]
    simp only [aZ, vZ]
    rw [vZ_aZ b (k + 1)]
theorem vp_len {f : Nat → List Int32} {v ar : Nat} (h : ∀ i, i < ar → (f (tn (P 6 (4 * v + i)))).length = 2 * tn (P 7 (tn (P 6 (4 * v + i))))) : ∀ (b k : Nat), k + b ≤ ar → (aVp P f v k b).length = 2 * vZ P v k b
  | 0, k, _ => rfl
  | b + 1, k, hb => by
    simp only [aVp, vZ, List.length_append]
    rw [vp_len h b (k + 1) (by omega), h k (by omega)]
    omega
theorem v_sum (wf : wfA P N pos) (hV : vOkN P N V) {v : Nat} (h : V v) (h2 : P 3 v = 2) : vZ P v 0 (aAr P v) + 1 = tn (P 7 v) := by
  have K := ((wf.2.2 v (hV v h).1).2.2.2 h2).2.2.2.1
  unfold aKs at K
  rw [List.range_eq_range', vZ_aZ] at K
  exact K
theorem v_part (wf : wfA P N pos) (hV : vOkN P N V) {v : Nat} (h : V v) (h2 : P 3 v = 2) {i : Nat} (hi : i < aAr P v) : V (tn (P 6 (4 * v + i))) ∧ tn (P 6 (4 * v + i)) < v ∧ P 6 (4 * v + i) = nI (tn (P 6 (4 * v + i))) := by
  have hvN := (hV v h).1
  have bN := wf.1.1
  obtain ⟨w, hw, e, -⟩ := ((wf.2.2 v hvN).2.2.2 h2).2.2.2.2 i hi
  have e2 : tn (P 6 (4 * v + i)) = w := by rw [e]; exact tnI (by omega)
  refine ⟨(hV v h).2.2 h2 i hi, by omega, by rw [e2, e]⟩
theorem vl_len (wf : wfA P N pos) (hV : vOkN P N V) (hS : vS P V) : ∀ (F v : Nat), V v → v < F → (aVl P F v).length = 2 * tn (P 7 v)
  | 0, v, _, h => by omega
  | F + 1, v, hv, h => by
    simp only [aVl]
    by_cases h1 : P 3 v = 1
    · rw [if_pos h1, (hS v hv).1 h1]
      rfl
    · have h2 : P 3 v = 2 := (hV v hv).2.1.resolve_left h1
      rw [if_neg h1, List.length_append, vp_len (ar := aAr P v) (fun i hi => vl_len wf hV hS F _ (v_part wf hV hv h2 hi).1 (by have := (v_part wf hV hv h2 hi).2.1; omega)) _ _ (by omega), ← v_sum wf hV hv h2]
      simp only [List.length_cons, List.length_nil]
      omega
theorem vl_0 (hV : vOkN P N V) {F v : Nat} : (aVl P (F + 1) v)[0]? = some (if P 3 v = 1 then 0 else 1) ∧ (aVl P (F + 1) v)[1]? = some (P 5 v) := by
  simp only [aVl]
  by_cases h1 : P 3 v = 1
  · rw [if_pos h1, if_pos h1]
    exact ⟨rfl, rfl⟩
  · rw [if_neg h1, if_neg h1]
    exact ⟨rfl, rfl⟩
theorem vl_s {F v l : Nat} (h1 : ¬ P 3 v = 1) : (aVl P (F + 1) v)[2 * (l + 1)]? = (aVp P (aVl P F) v 0 (aAr P v))[2 * l]? ∧ (aVl P (F + 1) v)[2 * (l + 1) + 1]? = (aVp P (aVl P F) v 0 (aAr P v))[2 * l + 1]? := by
  simp only [aVl]
  rw [if_neg h1]
  constructor
  · rw [List.getElem?_append_right (by simp only [List.length_cons, List.length_nil]; omega)]
    congr 1
  · rw [List.getElem?_append_right (by simp only [List.length_cons, List.length_nil]; omega)]
    congr 1
theorem app_r {α : Type} {A Bl : List α} {z l : Nat} (h : A.length = 2 * z) (hl : z ≤ l) : (A ++ Bl)[2 * l]? = Bl[2 * (l - z)]? ∧ (A ++ Bl)[2 * l + 1]? = Bl[2 * (l - z) + 1]? := by
  constructor
  · rw [List.getElem?_append_right (by omega), h]
    congr 1
    omega
  · rw [List.getElem?_append_right (by omega), h]
    congr 1
    omega
theorem app_l {α : Type} {A Bl : List α} {z l : Nat} (h : A.length = 2 * z) (hl : l < z) : (A ++ Bl)[2 * l]? = A[2 * l]? ∧ (A ++ Bl)[2 * l + 1]? = A[2 * l + 1]? :=
  ⟨List.getElem?_append_left (by omega), List.getElem?_append_left (by omega)⟩
/-- the class's values -/
def vTm (P : Nat → Nat → Int32) (u : uS) (a : Nat) (tm : Nat → Nat) (V : Nat → Prop) : Prop := ∀ v, V v → zIs u a (tm v) 7 ∧ zIs u a (tm v + 1) 8 ∧ u.2.2.1 (tm v) 4 = P 7 v ∧ u.2.2.1 (tm v) 1 = (if P 3 v = 1 then 0 else 1) ∧ u.2.2.1 (tm v) 2 = P 5 v ∧ (P 3 v = 1 → u.2.1 (tm v + 1) = 0) ∧ (P 3 v = 2 → u.2.1 (tm v + 1) = aAr P v ∧ ∀ i, i < aAr P v → u.2.2.2 (tm v + 1) i = some (tm (tn (P 6 (4 * v + i)))))
theorem vTm_of (hV : vOkN P N V) (hVT : ∀ v, V v → T v) (tw : tmW P u a tm ob T) (hz : ∀ v, V v → u.2.2.1 (tm v) 4 = P 7 v) : vTm P u a tm V := fun v hv => by
  obtain ⟨a1, a2, a3, a4, a5, a6, a7, a8, a9⟩ := tw v (hVT v hv)
  have k12 := (hV v hv).2.1
  have hb : bse P 512 v = v := bse_self (by rcases k12 with e | e <;> rw [e] <;> decide)
  rw [hb] at a4 a5 a7 a8 a9
  refine ⟨a1, a2, hz v hv, ?_, a5 ⟨by rcases k12 with e | e <;> rw [e] <;> decide, by rcases k12 with e | e <;> rw [e] <;> decide, by rcases k12 with e | e <;> rw [e] <;> decide⟩, a9, a8⟩
  rw [a4]
  rcases k12 with e | e <;> rw [e] <;> rfl
set_option maxHeartbeats 1000000 in
set_option maxRecDepth 100000 in
theorem m_Tm_part32 (wf : wfA P N pos) (hV : vOkN P N V) (hS : vS P V) (ht : vTm P u a tm V) {y0 F v dp : Nat} {i0 : Int32} (hv : V v) (h2 : P 3 v = 2) (hvF : v < F + 1) (hdp : dp + tn (P 7 v) ≤ 60)
    (ih : ∀ p l Q, V p → p < F → l < tn (P 7 p) → dp + 1 + tn (P 7 p) ≤ 60 → (∀ w, V w → (aVl P F p)[2 * l]? = some (if P 3 w = 1 then 0 else 1) → (aVl P F p)[2 * l + 1]? = some (P 5 w) → Q (.inl (some (.ref (tm w)))) (yW E G a c u n sl)) → GT E Y_Term_partAt d G0 7 [(0, .ref y0), (1, .int i0), (2, .ref (tm p)), (3, .int (nI l)), (4, .int (nI (dp + 1)))] [] (yW E G a c u n sl) Q) :
    ∀ (r j l : Nat), j + r + 1 = aAr P v → l < vZ P v j (r + 1) → (∀ w, V w → (aVp P (aVl P F) v j (r + 1))[2 * l]? = some (if P 3 w = 1 then 0 else 1) → (aVp P (aVl P F) v j (r + 1))[2 * l + 1]? = some (P 5 w) → Q (.inl (some (.ref (tm w)))) (yW E G a c u n sl)) → GT E Y_Term_partAt d G0 32 [(0, .ref y0), (1, .int i0), (2, .ref (tm v)), (3, .int (nI l)), (4, .int (nI dp)), (5, .int (nI j))] [] (yW E G a c u n sl) Q := by
  have hvN := (hV v hv).1
  have bN := wf.1.1
  obtain ⟨z7, z8, f4, f1, f2, -, hT2⟩ := ht v hv
  obtain ⟨tl, te⟩ := hT2 h2
  have ar4 := ((wf.2.2 v hvN).2.2.2 h2).2.1
  have hsum := v_sum wf hV hv h2
  intro r
  induction r with
  | zero =>
    intro j l hj hl hQ
    obtain ⟨vp, pv, -⟩ := v_part wf hV hv h2 (i := j) (by omega)
    have hTj := te j (by omega)
    generalize hp : tn (P 6 (4 * v + j)) = p at *
    have p7 := (ht p vp).1
    have hz : vZ P v j (0 + 1) = tn (P 7 p) := by simp only [vZ, hp, Nat.add_zero]
    rw [hz] at hl
    have hlen := vl_len wf hV hS F p vp (by omega)
    have zb := (hS p vp).2
    have hp1 : dp + 1 + tn (P 7 p) ≤ 60 := by
      have : ∀ (b k : Nat), k + b = aAr P v → k ≤ j → tn (P 7 p) ≤ vZ P v k b := fun b => by
        induction b with
        | zero => intro k h1 h2; omega
        | succ b ihb =>
          intro k h1 h2
          simp only [vZ]
          by_cases e : k = j
          · rw [e, hp]; omega
          · have := ihb (k + 1) (by omega) (by omega); omega
      have := this (aAr P v) 0 (by omega) (by omega)
      omega
    have K7 := ih p l Q vp (by omega) hl hp1 (fun w hw e1 e2 => hQ w hw (by simp only [aVp, hp]; rw [(app_l hlen hl).1]; exact e1) (by simp only [aVp, hp]; rw [(app_l hlen hl).2]; exact e2))
    refine g_iload d_Term_partAt_32 rfl ?_
    refine g_aload_n d_Term_partAt_34 rfl ?_
    refine z_get (k := 7) (j := 3) (v := .ref (tm v + 1)) kc_Term fl_Term_21 (by decide) z7 (by decide) rfl rfl d_Term_partAt_35 ?_
    refine g_tlen (z_at z8 (by decide)) rfl d_Term_partAt_38 ?_
    refine g_iconst (v := 1) d_Term_partAt_39 (by decide) ?_
    refine g_isub d_Term_partAt_40 ?_
    refine g_top (nI j) (by rw [tl, ← hj]; exact nI_s1 (by omega)) ?_
    refine g_icmp_ge (tgt := 77) d_Term_partAt_41 (by decide) (fun c_41 => ?_) (fun c_41 => ?_)
    rotate_left
    · exact absurd c_41 (fun q => q (Int32.le_refl _))
    refine g_aload_n d_Term_partAt_77 rfl ?_
    refine z_get (k := 7) (j := 3) (v := .ref (tm v + 1)) kc_Term fl_Term_21 (by decide) z7 (by decide) rfl rfl d_Term_partAt_78 ?_
    refine g_iload d_Term_partAt_81 rfl ?_
    refine z_tald (k := 8) (j := j) z8 (by decide) rfl (nI_hi (by omega)) (by rw [tl]; omega) hTj d_Term_partAt_83 ?_
    refine g_astore_n d_Term_partAt_84 (by decide) rfl ?_
    refine g_iinc (v := nI (dp + 1)) d_Term_partAt_85 rfl (nI_1 _) (by decide) rfl ?_
    refine g_goto (tgt := 7) d_Term_partAt_88 (by decide) ?_
    refine g_weak (lv' := [(0, .ref y0), (1, .int i0), (2, .ref (tm p)), (3, .int (nI l)), (4, .int (nI (dp + 1)))]) (fun q hq => List.mem_append_left _ hq) (by simp) ?_
    exact K7
  | succ r ihr =>
    intro j l hj hl hQ
    obtain ⟨vp, pv, -⟩ := v_part wf hV hv h2 (i := j) (by omega)
    have hTj := te j (by omega)
    have hz : vZ P v j (r + 1 + 1) = tn (P 7 (tn (P 6 (4 * v + j)))) + vZ P v (j + 1) (r + 1) := rfl
    have ha : aVp P (aVl P F) v j (r + 1 + 1) = aVl P F (tn (P 6 (4 * v + j))) ++ aVp P (aVl P F) v (j + 1) (r + 1) := rfl
    rw [hz] at hl
    rw [ha] at hQ
    have hp1 : dp + 1 + tn (P 7 (tn (P 6 (4 * v + j)))) ≤ 60 := by
      have : ∀ (b k : Nat), k + b = aAr P v → k ≤ j → tn (P 7 (tn (P 6 (4 * v + j)))) ≤ vZ P v k b := fun b => by
        induction b with
        | zero => intro k h1 h2; omega
        | succ b ihb =>
          intro k h1 h2
          simp only [vZ]
          by_cases e : k = j
          · rw [e]; omega
          · have := ihb (k + 1) (by omega) (by omega); omega
      have := this (aAr P v) 0 (by omega) (by omega)
      omega
    generalize hp : tn (P 6 (4 * v + j)) = p at *
    obtain ⟨p7, -, p4, -⟩ := ht p vp
    have hlen := vl_len wf hV hS F p vp (by omega)
    obtain ⟨z, z60, ez⟩ := (hS p vp).2
    have tz : tn (P 7 p) = z := by rw [ez]; exact tnI (by omega)
    rw [tz] at hlen hl hp1
    have f4z : u.2.2.1 (tm p) 4 = nI z := p4.trans ez
    have szb : vZ P v (j + 1) (r + 1) ≤ 60 := by
      have : ∀ (b k m : Nat), vZ P v k b ≤ vZ P v k (b + m) := fun b => by
        induction b with
        | zero => intro k m; exact Nat.zero_le _
        | succ b ihb =>
          intro k m
          rw [show b + 1 + m = b + m + 1 by omega]
          simp only [vZ]
          have := ihb (k + 1) m
          omega
      have h3 : ∀ (m k : Nat), k + m = j + 1 → vZ P v (j + 1) (r + 1) ≤ vZ P v k (m + (r + 1)) := fun m => by
        induction m with
        | zero => intro k hk; rw [show k = j + 1 by omega, Nat.zero_add]; exact Nat.le_refl _
        | succ m ihm =>
          intro k hk
          rw [show m + 1 + (r + 1) = m + (r + 1) + 1 by omega]
          have e : vZ P v k (m + (r + 1) + 1) = tn (P 7 (tn (P 6 (4 * v + k)))) + vZ P v (k + 1) (m + (r + 1)) := rfl
          have := ihm (k + 1) (by omega)
          omega
      have := h3 (j + 1) 0 (by omega)
      rw [show j + 1 + (r + 1) = aAr P v by omega] at this
      omega
    by_cases hlz : l < z
    · have K7 := ih p l Q vp (by omega) (by omega) (by omega) (fun w hw e1 e2 => hQ w hw (by rw [(app_l hlen hlz).1]; exact e1) (by rw [(app_l hlen hlz).2]; exact e2))
      refine g_iload d_Term_partAt_32 rfl ?_
      refine g_aload_n d_Term_partAt_34 rfl ?_
      refine z_get (k := 7) (j := 3) (v := .ref (tm v + 1)) kc_Term fl_Term_21 (by decide) z7 (by decide) rfl rfl d_Term_partAt_35 ?_
      refine g_tlen (z_at z8 (by decide)) rfl d_Term_partAt_38 ?_
      refine g_iconst (v := 1) d_Term_partAt_39 (by decide) ?_
      refine g_isub d_Term_partAt_40 ?_
      refine g_top (nI (j + (r + 1))) (by rw [tl, ← hj]; exact nI_s1 (by omega)) ?_
      refine g_icmp_ge (tgt := 77) d_Term_partAt_41 (by decide) (fun c_41 => ?_) (fun c_41 => ?_)
      · exact absurd c_41 (ige (by omega) (by omega) (by omega))
      refine g_iload_n d_Term_partAt_44 rfl ?_
      refine g_aload_n d_Term_partAt_45 rfl ?_
      refine z_get (k := 7) (j := 3) (v := .ref (tm v + 1)) kc_Term fl_Term_21 (by decide) z7 (by decide) rfl rfl d_Term_partAt_46 ?_
      refine g_iload d_Term_partAt_49 rfl ?_
      refine z_tald (k := 8) (j := j) z8 (by decide) rfl (nI_hi (by omega)) (by rw [tl]; omega) hTj d_Term_partAt_51 ?_
      refine z_get (k := 7) (j := 4) (v := .int (u.2.2.1 (tm p) 4)) kc_Term fl_Term_25 (by decide) p7 (by decide) rfl rfl d_Term_partAt_52 ?_
      rw [f4z]
      refine g_icmp_lt (tgt := 77) d_Term_partAt_55 (by decide) (fun c_55 => ?_) (fun c_55 => ?_)
      rotate_left
      · exact absurd c_55 (fun q => q (by rw [lt_hi (nI_hi (n := l) (by omega)) (nI_hi (n := z) (by omega))]; exact hlz))
      refine g_aload_n d_Term_partAt_77 rfl ?_
      refine z_get (k := 7) (j := 3) (v := .ref (tm v + 1)) kc_Term fl_Term_21 (by decide) z7 (by decide) rfl rfl d_Term_partAt_78 ?_
      refine g_iload d_Term_partAt_81 rfl ?_
      refine z_tald (k := 8) (j := j) z8 (by decide) rfl (nI_hi (by omega)) (by rw [tl]; omega) hTj d_Term_partAt_83 ?_
      refine g_astore_n d_Term_partAt_84 (by decide) rfl ?_
      refine g_iinc (v := nI (dp + 1)) d_Term_partAt_85 rfl (nI_1 _) (by decide) rfl ?_
      refine g_goto (tgt := 7) d_Term_partAt_88 (by decide) ?_
      refine g_weak (lv' := [(0, .ref y0), (1, .int i0), (2, .ref (tm p)), (3, .int (nI l)), (4, .int (nI (dp + 1)))]) (fun q hq => List.mem_append_left _ hq) (by simp) ?_
      exact K7
    · have K32 := ihr (j + 1) (l - z) (by omega) (by omega) (fun w hw e1 e2 => hQ w hw (by rw [(app_r hlen (by omega)).1]; exact e1) (by rw [(app_r hlen (by omega)).2]; exact e2))
      refine g_iload d_Term_partAt_32 rfl ?_
      refine g_aload_n d_Term_partAt_34 rfl ?_
      refine z_get (k := 7) (j := 3) (v := .ref (tm v + 1)) kc_Term fl_Term_21 (by decide) z7 (by decide) rfl rfl d_Term_partAt_35 ?_
      refine g_tlen (z_at z8 (by decide)) rfl d_Term_partAt_38 ?_
      refine g_iconst (v := 1) d_Term_partAt_39 (by decide) ?_
      refine g_isub d_Term_partAt_40 ?_
      refine g_top (nI (j + (r + 1))) (by rw [tl, ← hj]; exact nI_s1 (by omega)) ?_
      refine g_icmp_ge (tgt := 77) d_Term_partAt_41 (by decide) (fun c_41 => ?_) (fun c_41 => ?_)
      · exact absurd c_41 (ige (by omega) (by omega) (by omega))
      refine g_iload_n d_Term_partAt_44 rfl ?_
      refine g_aload_n d_Term_partAt_45 rfl ?_
      refine z_get (k := 7) (j := 3) (v := .ref (tm v + 1)) kc_Term fl_Term_21 (by decide) z7 (by decide) rfl rfl d_Term_partAt_46 ?_
      refine g_iload d_Term_partAt_49 rfl ?_
      refine z_tald (k := 8) (j := j) z8 (by decide) rfl (nI_hi (by omega)) (by rw [tl]; omega) hTj d_Term_partAt_51 ?_
      refine z_get (k := 7) (j := 4) (v := .int (u.2.2.1 (tm p) 4)) kc_Term fl_Term_25 (by decide) p7 (by decide) rfl rfl d_Term_partAt_52 ?_
      rw [f4z]
      refine g_icmp_lt (tgt := 77) d_Term_partAt_55 (by decide) (fun c_55 => ?_) (fun c_55 => ?_)
      · exact absurd c_55 (by rw [lt_hi (nI_hi (n := l) (by omega)) (nI_hi (n := z) (by omega))]; exact hlz)
      refine g_iload_n d_Term_partAt_58 rfl ?_
      refine g_aload_n d_Term_partAt_59 rfl ?_
      refine z_get (k := 7) (j := 3) (v := .ref (tm v + 1)) kc_Term fl_Term_21 (by decide) z7 (by decide) rfl rfl d_Term_partAt_60 ?_
      refine g_iload d_Term_partAt_63 rfl ?_
      refine z_tald (k := 8) (j := j) z8 (by decide) rfl (nI_hi (by omega)) (by rw [tl]; omega) hTj d_Term_partAt_65 ?_
      refine z_get (k := 7) (j := 4) (v := .int (u.2.2.1 (tm p) 4)) kc_Term fl_Term_25 (by decide) p7 (by decide) rfl rfl d_Term_partAt_66 ?_
      rw [f4z]
      refine g_isub d_Term_partAt_69 ?_
      refine g_top (nI (l - z)) (sub_nI (by omega) (by omega)) ?_
      refine g_istore_n d_Term_partAt_70 (by decide) rfl ?_
      refine g_iinc (v := nI (j + 1)) d_Term_partAt_71 rfl (nI_1 _) (by decide) rfl ?_
      refine g_goto (tgt := 32) d_Term_partAt_74 (by decide) ?_
      exact K32
set_option maxHeartbeats 1000000 in
set_option maxRecDepth 100000 in
theorem m_Tm_part7 (wf : wfA P N pos) (hV : vOkN P N V) (hS : vS P V) (ht : vTm P u a tm V) {y0 : Nat} {i0 : Int32} : ∀ (F v l dp : Nat) (Q : gO → gS → Prop), V v → v < F → l < tn (P 7 v) → dp + tn (P 7 v) ≤ 60 → (∀ w, V w → (aVl P F v)[2 * l]? = some (if P 3 w = 1 then 0 else 1) → (aVl P F v)[2 * l + 1]? = some (P 5 w) → Q (.inl (some (.ref (tm w)))) (yW E G a c u n sl)) → GT E Y_Term_partAt d G0 7 [(0, .ref y0), (1, .int i0), (2, .ref (tm v)), (3, .int (nI l)), (4, .int (nI dp))] [] (yW E G a c u n sl) Q := by
  intro F
  induction F with
  | zero => intro v l dp Q _ h; omega
  | succ F ih =>
    intro v l dp Q hv hvF hl hdp hQ
    have hvN := (hV v hv).1
    have bN := wf.1.1
    obtain ⟨z7, z8, f4, f1, f2, hT1, hT2⟩ := ht v hv
    rcases Nat.eq_zero_or_pos l with e0 | e0
    · subst e0
      have hq := hQ v hv (vl_0 hV).1 (vl_0 hV).2
      refine g_iload d_Term_partAt_7 rfl ?_
      refine g_bipush (v := 60) d_Term_partAt_9 (by decide) ?_
      refine g_icmp_ge (tgt := 91) d_Term_partAt_11 (by decide) (fun c_11 => ?_) (fun c_11 => ?_)
      · exact absurd c_11 (ige (m := 60) (by omega) (by omega) (by omega))
      refine g_iload_n d_Term_partAt_14 rfl ?_
      refine g_if_le (tgt := 91) d_Term_partAt_15 (by decide) (fun c_15 => ?_) (fun c_15 => ?_)
      rotate_left
      · exact absurd c_15 (fun q => q (Int32.le_refl _))
      refine g_aload_n d_Term_partAt_91 rfl ?_
      refine g_aret rfl (by first | exact Or.inl ⟨_, rfl⟩ | exact Or.inr ⟨_, rfl⟩) (by first | exact Or.inl rfl | exact Or.inr ⟨_, rfl⟩) d_Term_partAt_92 ?_
      exact hq
    · obtain ⟨l, rfl⟩ : ∃ k, l = k + 1 := ⟨l - 1, by omega⟩
      have h1 : ¬ P 3 v = 1 := fun e => by
        have := (hS v hv).1 e
        rw [this] at hl
        have : tn (1 : Int32) = 1 := rfl
        omega
      have h2 : P 3 v = 2 := (hV v hv).2.1.resolve_left h1
      obtain ⟨tl, te⟩ := hT2 h2
      have ar4 := ((wf.2.2 v hvN).2.2.2 h2).2.1
      have hsum := v_sum wf hV hv h2
      have har : 1 ≤ aAr P v := by
        rcases Nat.eq_zero_or_pos (aAr P v) with e | e
        · rw [e] at hsum; simp only [vZ] at hsum; omega
        · exact e
      have K32 := m_Tm_part32 (d := d) (G0 := G0) (E := E) (G := G) (c := c) (n := n) (sl := sl) (Q := Q) (y0 := y0) (i0 := i0) (dp := dp) wf hV hS ht hv h2 hvF hdp (fun p l Q a1 a2 a3 a4 a5 => ih p l (dp + 1) Q a1 a2 a3 a4 a5) (aAr P v - 1) 0 l (by omega) (by rw [show aAr P v - 1 + 1 = aAr P v by omega]; omega) (by
        rw [show aAr P v - 1 + 1 = aAr P v by omega]
        exact fun w hw e1 e2 => hQ w hw ((vl_s h1).1.trans e1) ((vl_s h1).2.trans e2))
      refine g_iload d_Term_partAt_7 rfl ?_
      refine g_bipush (v := 60) d_Term_partAt_9 (by decide) ?_
      refine g_icmp_ge (tgt := 91) d_Term_partAt_11 (by decide) (fun c_11 => ?_) (fun c_11 => ?_)
      · exact absurd c_11 (ige (m := 60) (by omega) (by omega) (by omega))
      refine g_iload_n d_Term_partAt_14 rfl ?_
      refine g_if_le (tgt := 91) d_Term_partAt_15 (by decide) (fun c_15 => ?_) (fun c_15 => ?_)
      · exact absurd c_15 (by rw [le_hi (nI_hi (n := l + 1) (by omega)) (show (0 : Int32).toInt = ((0 : Nat) : Int) by decide)]; omega)
      refine g_aload_n d_Term_partAt_18 rfl ?_
      refine z_get (k := 7) (j := 3) (v := .ref (tm v + 1)) kc_Term fl_Term_21 (by decide) z7 (by decide) rfl rfl d_Term_partAt_19 ?_
      refine g_tlen (z_at z8 (by decide)) rfl d_Term_partAt_22 ?_
      refine g_if_le (tgt := 91) d_Term_partAt_23 (by decide) (fun c_23 => ?_) (fun c_23 => ?_)
      · exact absurd c_23 (by rw [tl]; show ¬ nI (aAr P v) ≤ 0; rw [le_hi (nI_hi (n := aAr P v) (by omega)) (show (0 : Int32).toInt = ((0 : Nat) : Int) by decide)]; omega)
      refine g_iinc (v := nI l) d_Term_partAt_26 rfl (by have := nI_m1 (i := l + 1) (by omega) (by omega); exact this) (by decide) rfl ?_
      refine g_iconst (v := 0) d_Term_partAt_29 (by decide) ?_
      refine g_istore d_Term_partAt_30 (by decide) rfl ?_
      exact K32
set_option maxHeartbeats 400000 in
set_option maxRecDepth 100000 in
theorem m_Tm_partAt (wf : wfA P N pos) (hV : vOkN P N V) (hS : vS P V) (ht : vTm P u a tm V) {v l : Nat} (hv : V v) (hl : l < tn (P 7 v)) : GM E Y_Term_partAt d [.ref (tm v), .int (nI l)] (yW E G a c u n sl) (fun o G' => G' = (yW E G a c u n sl) ∧ ∃ w, V w ∧ o = .inl (some (.ref (tm w))) ∧ (aVl P 512 v)[2 * l]? = some (if P 3 w = 1 then 0 else 1) ∧ (aVl P 512 v)[2 * l + 1]? = some (P 5 w)) := by
  refine g_entry (by decide) (by simp [Value.category]) (Nat.le_of_ble_eq_true rfl) ?_
  have hvN := (hV v hv).1
  have bN := wf.1.1
  have z7 := (ht v hv).1
  obtain ⟨z, z60, ez⟩ := (hS v hv).2
  have tz : tn (P 7 v) = z := by rw [ez]; exact tnI (by omega)
  refine g_aload_n d_Term_partAt_0 rfl ?_
  refine g_astore_n d_Term_partAt_1 (by decide) rfl ?_
  refine g_iload_n d_Term_partAt_2 rfl ?_
  refine g_istore_n d_Term_partAt_3 (by decide) rfl ?_
  refine g_iconst (v := 0) d_Term_partAt_4 (by decide) ?_
  refine g_istore d_Term_partAt_5 (by decide) rfl ?_
  exact m_Tm_part7 wf hV hS ht 512 v l 0 _ hv (by omega) hl (by rw [tz] ; omega) (fun w hw e1 e2 => ⟨rfl, w, hw, rfl, e1, e2⟩)
theorem dm2 {l b : Nat} (bl : l < 1000) (hb : b < 2) : nI (2 * l + b) / 2 = nI l ∧ nI (2 * l + b) - nI (2 * l + b) / 2 * 2 = nI b := by
  have h := nI_hi (n := 2 * l + b) (by omega)
  have h8 : (2 : Int32).toInt = 2 := by decide
  have hd : nI (2 * l + b) / 2 = nI l := by
    rw [i_eq, Int32.toInt_div_of_ne_right _ _ (by decide), h, h8, nI_hi (by omega)]
    have : (((2 * l + b : Nat) : Int)).tdiv 2 = (l : Int) := by
      rw [Int.tdiv_eq_ediv_of_nonneg (by omega)]
      omega
    exact this
  refine ⟨hd, ?_⟩
  rw [hd]
  have := sub_hi h (mul_hi (nI_hi (n := l) (by omega)) (show (2 : Int32).toInt = ((2 : Nat) : Int) by decide) (by omega)) (by omega)
  rw [show 2 * l + b - l * 2 = b by omega] at this
  exact i_nI this
theorem two_z {z : Nat} (h : z ≤ 60) : (2 : Int32) * nI z = nI (2 * z) := i_nI (mul_hi (show (2 : Int32).toInt = ((2 : Nat) : Int) by decide) (nI_hi (by omega)) (by omega))
set_option maxHeartbeats 1000000 in
set_option maxRecDepth 100000 in
theorem m_Pg_told (wf : wfA P N pos) (hV : vOkN P N V) (hS : vS P V) (ht : vTm P u a tm V) {k v : Nat} {y : Int32} (hk : k < 8) (h : c.2.2.1 3 k = some (tm v)) (hv : V v) : GM E Y_Passage_toldOf (d + 1) [.ref (a + 20), .int (nI k), .int y] (yW E G a c u n sl) (rIs (some (.int (kAt (nI (aVl P 512 v).length) (fun i => (aVl P 512 v).getD i 0) y))) (yW E G a c u n sl)) := by
  refine g_entry (by decide) (by simp [Value.category]) (Nat.le_of_ble_eq_true rfl) ?_
  have hvN := (hV v hv).1
  have bN := wf.1.1
  obtain ⟨z7, -, f4, -⟩ := ht v hv
  obtain ⟨z, z60, ez⟩ := (hS v hv).2
  have tz : tn (P 7 v) = z := by rw [ez]; exact tnI (by omega)
  have fz : u.2.2.1 (tm v) 4 = nI z := f4.trans ez
  have hlen := vl_len wf hV hS 512 v hv (by omega)
  rw [tz] at hlen
  rw [hlen]
  by_cases y0 : y < 0
  · have e : kAt (nI (2 * z)) (fun i => (aVl P 512 v).getD i 0) y = -1 := if_neg (fun q => q.1 y0)
    rw [e]
    refine g_aload_n d_Passage_toldOf_0 rfl ?_
    refine x_get (k := 20) (j := 1) (v := .ref (a + 22)) kc_Passage fl_Passage_17 (by decide) (by decide) rfl rfl d_Passage_toldOf_1 ?_
    refine g_iload_n d_Passage_toldOf_4 rfl ?_
    refine g_taldS (j := k) (x_at (k := 22) (by decide) rfl) (nI_hi (by omega)) hk h d_Passage_toldOf_5 ?_
    refine g_astore_n d_Passage_toldOf_6 (by decide) rfl ?_
    refine g_aload_n d_Passage_toldOf_7 rfl ?_
    refine g_ifnull d_Passage_toldOf_8 ?_
    refine g_iload_n d_Passage_toldOf_11 rfl ?_
    refine g_if_lt (tgt := 25) d_Passage_toldOf_12 (by decide) (fun c_12 => ?_) (fun c_12 => ?_)
    rotate_left
    · exact absurd c_12 (fun q => q y0)
    refine g_iconst (v := (-1)) d_Passage_toldOf_25 (by decide) ?_
    refine g_iret rfl d_Passage_toldOf_26 ?_
    exact ⟨rfl, rfl⟩
  · by_cases y1 : y < nI (2 * z)
    · have hi2 : tn y < 2 * z := by rw [lt_hi (tn_hi y0) (nI_hi (n := 2 * z) (by omega))] at y1; exact y1
      obtain ⟨l, b, hb, elb⟩ : ∃ l b, b < 2 ∧ tn y = 2 * l + b := ⟨tn y / 2, tn y % 2, Nat.mod_lt _ (by omega), by omega⟩
      have ey : y = nI (2 * l + b) := by rw [← elb]; exact tn_nI y0
      have e : kAt (nI (2 * z)) (fun i => (aVl P 512 v).getD i 0) y = (aVl P 512 v).getD (2 * l + b) 0 := by
        rw [← elb]
        exact if_pos ⟨y0, fun q => Int32.not_lt.mpr q y1⟩
      rw [e]
      clear e
      have KP := m_Tm_partAt (E := E) (d := d) (G := G) (c := c) (n := n) (sl := sl) wf hV hS ht (v := v) (l := l) hv (by omega)
      obtain ⟨d1, d2⟩ := dm2 (l := l) (b := b) (by omega) hb
      have y31 := y1
      subst ey
      refine g_aload_n d_Passage_toldOf_0 rfl ?_
      refine x_get (k := 20) (j := 1) (v := .ref (a + 22)) kc_Passage fl_Passage_17 (by decide) (by decide) rfl rfl d_Passage_toldOf_1 ?_
      refine g_iload_n d_Passage_toldOf_4 rfl ?_
      refine g_taldS (j := k) (x_at (k := 22) (by decide) rfl) (nI_hi (by omega)) hk h d_Passage_toldOf_5 ?_
      refine g_astore_n d_Passage_toldOf_6 (by decide) rfl ?_
      refine g_aload_n d_Passage_toldOf_7 rfl ?_
      refine g_ifnull d_Passage_toldOf_8 ?_
      refine g_iload_n d_Passage_toldOf_11 rfl ?_
      refine g_if_lt (tgt := 25) d_Passage_toldOf_12 (by decide) (fun c_12 => ?_) (fun c_12 => ?_)
      · exact absurd c_12 y0
      refine g_iload_n d_Passage_toldOf_15 rfl ?_
      refine g_iconst (v := 2) d_Passage_toldOf_16 (by decide) ?_
      refine g_aload_n d_Passage_toldOf_17 rfl ?_
      refine z_get (k := 7) (j := 4) (v := .int (u.2.2.1 (tm v) 4)) kc_Term fl_Passage_58 (by decide) z7 (by decide) rfl rfl d_Passage_toldOf_18 ?_
      rw [fz]
      refine g_imul d_Passage_toldOf_21 ?_
      refine g_top (nI (2 * z)) (two_z z60) ?_
      refine g_icmp_lt (tgt := 27) d_Passage_toldOf_22 (by decide) (fun c_22 => ?_) (fun c_22 => ?_)
      rotate_left
      · exact absurd c_22 (fun q => q y1)
      refine g_aload_n d_Passage_toldOf_27 rfl ?_
      refine g_iload_n d_Passage_toldOf_28 rfl ?_
      refine g_iconst (v := 2) d_Passage_toldOf_29 (by decide) ?_
      refine g_idiv d_Passage_toldOf_30 (by decide) ?_
      refine g_top (nI l) d1 ?_
      refine c_V (as := [.int (nI l)]) kv_Term_partAt ml_Passage_60 rfl (z_at z7 (by decide)) (KP) rfl (Nat.le_of_ble_eq_true rfl) rfl d_Passage_toldOf_31 (fun v_31 G_31 h_31 => ?_) (fun D_31 G_31 h_31 => by obtain ⟨-, w, -, ho, -⟩ := h_31; cases ho)
      obtain ⟨rfl, w, hw, ho, e1, e2⟩ := h_31
      cases ho
      obtain ⟨w7, -, -, w1, w2, -⟩ := ht w hw
      rcases Nat.lt_or_ge b 1 with hb0 | hb0
      · obtain rfl : b = 0 := by omega
        refine g_astore d_Passage_toldOf_34 (by decide) rfl ?_
        refine g_iload_n d_Passage_toldOf_36 rfl ?_
        refine g_iconst (v := 2) d_Passage_toldOf_37 (by decide) ?_
        refine g_irem d_Passage_toldOf_38 (by decide) ?_
        refine g_top (nI 0) d2 ?_
        refine g_if_ne (tgt := 50) d_Passage_toldOf_39 (by decide) (fun c_39 => ?_) (fun c_39 => ?_)
        · exact absurd c_39 (fun q => q rfl)
        refine g_aload d_Passage_toldOf_42 rfl ?_
        refine z_get (k := 7) (j := 1) (v := .int (u.2.2.1 (tm w) 1)) kc_Term fl_Passage_64 (by decide) w7 (by decide) rfl rfl d_Passage_toldOf_44 ?_
        rw [w1]
        refine g_goto (tgt := 55) d_Passage_toldOf_47 (by decide) ?_
        refine g_iret rfl d_Passage_toldOf_55 ?_
        exact ⟨by rw [List.getD_eq_getElem?_getD, Nat.add_zero, e1]; rfl, rfl⟩
      · obtain rfl : b = 1 := by omega
        refine g_astore d_Passage_toldOf_34 (by decide) rfl ?_
        refine g_iload_n d_Passage_toldOf_36 rfl ?_
        refine g_iconst (v := 2) d_Passage_toldOf_37 (by decide) ?_
        refine g_irem d_Passage_toldOf_38 (by decide) ?_
        refine g_top (nI 1) d2 ?_
        refine g_if_ne (tgt := 50) d_Passage_toldOf_39 (by decide) (fun c_39 => ?_) (fun c_39 => ?_)
        rotate_left
        · exact absurd c_39 (by decide)
        refine g_aload d_Passage_toldOf_50 rfl ?_
        refine z_get (k := 7) (j := 2) (v := .int (u.2.2.1 (tm w) 2)) kc_Term fl_Passage_67 (by decide) w7 (by decide) rfl rfl d_Passage_toldOf_52 ?_
        rw [w2]
        refine g_iret rfl d_Passage_toldOf_55 ?_
        exact ⟨by rw [List.getD_eq_getElem?_getD, e2]; rfl, rfl⟩
    · have e : kAt (nI (2 * z)) (fun i => (aVl P 512 v).getD i 0) y = -1 := if_neg (fun q => q.2 (Int32.not_lt.mp y1))
      rw [e]
      refine g_aload_n d_Passage_toldOf_0 rfl ?_
      refine x_get (k := 20) (j := 1) (v := .ref (a + 22)) kc_Passage fl_Passage_17 (by decide) (by decide) rfl rfl d_Passage_toldOf_1 ?_
      refine g_iload_n d_Passage_toldOf_4 rfl ?_
      refine g_taldS (j := k) (x_at (k := 22) (by decide) rfl) (nI_hi (by omega)) hk h d_Passage_toldOf_5 ?_
      refine g_astore_n d_Passage_toldOf_6 (by decide) rfl ?_
      refine g_aload_n d_Passage_toldOf_7 rfl ?_
      refine g_ifnull d_Passage_toldOf_8 ?_
      refine g_iload_n d_Passage_toldOf_11 rfl ?_
      refine g_if_lt (tgt := 25) d_Passage_toldOf_12 (by decide) (fun c_12 => ?_) (fun c_12 => ?_)
      · exact absurd c_12 y0
      refine g_iload_n d_Passage_toldOf_15 rfl ?_
      refine g_iconst (v := 2) d_Passage_toldOf_16 (by decide) ?_
      refine g_aload_n d_Passage_toldOf_17 rfl ?_
      refine z_get (k := 7) (j := 4) (v := .int (u.2.2.1 (tm v) 4)) kc_Term fl_Passage_58 (by decide) z7 (by decide) rfl rfl d_Passage_toldOf_18 ?_
      rw [fz]
      refine g_imul d_Passage_toldOf_21 ?_
      refine g_top (nI (2 * z)) (two_z z60) ?_
      refine g_icmp_lt (tgt := 27) d_Passage_toldOf_22 (by decide) (fun c_22 => ?_) (fun c_22 => ?_)
      · exact absurd c_22 y1
      refine g_iconst (v := (-1)) d_Passage_toldOf_25 (by decide) ?_
      refine g_iret rfl d_Passage_toldOf_26 ?_
      exact ⟨rfl, rfl⟩
end DF
