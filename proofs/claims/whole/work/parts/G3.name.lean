/-! A name comes upon a pattern -/
section NI
variable {P P' : Nat → Nat → Int32} {N k a n : Nat} {tm : Nat → Nat} {ob : Nat → Int32} {T V : Nat → Prop} {u u' : uS} {rt : Nat → Nat} {rl : Nat → List Nat}
theorem bv_one {b : BitVec 32} : b &&& 1#32 = 1#32 ↔ b.getLsbD 0 = true := by
  constructor
  · intro h
    have := congrArg (fun z => BitVec.getLsbD z 0) h
    simpa using this
  · intro h
    apply BitVec.eq_of_getLsbD_eq
    intro i hi
    simp only [BitVec.getLsbD_and, BitVec.getLsbD_one]
    by_cases e : i = 0
    · subst e; simp [h]
    · simp [e]
theorem nmB_bv {x : Int32} {w : Nat} (h : w < 8) : nmB x w ↔ x.toBitVec.getLsbD w = true := by
  unfold nmB
  have key : ∀ k : Int32, k.toBitVec.smod 32 = BitVec.ofNat 32 w → (((x >>> k) &&& 1 = 1) ↔ x.toBitVec.getLsbD w = true) := by
    intro k hk
    rw [← Int32.toBitVec_inj, Int32.toBitVec_and, Int32.toBitVec_shiftRight]
    rw [hk]
    show _ &&& 1#32 = 1#32 ↔ _
    rw [bv_one]
    simp only [BitVec.sshiftRight', BitVec.toNat_ofNat]
    rw [Nat.mod_eq_of_lt (by omega), BitVec.getLsbD_sshiftRight]
    simp
    omega
  match w, h with
  | 0, _ => exact key _ (by decide)
  | 1, _ => exact key _ (by decide)
  | 2, _ => exact key _ (by decide)
  | 3, _ => exact key _ (by decide)
  | 4, _ => exact key _ (by decide)
  | 5, _ => exact key _ (by decide)
  | 6, _ => exact key _ (by decide)
  | 7, _ => exact key _ (by decide)
theorem nm_256 : ∀ (x y : Nat), x < 256 → y < 256 → ∃ z, z < 256 ∧ nI x ||| nI y = nI z := by
  intro x y hx hy
  refine ⟨x ||| y, Nat.or_lt_two_pow (n := 8) hx hy, ?_⟩
  rw [← Int32.toBitVec_inj, Int32.toBitVec_or]
  show BitVec.ofNat 32 x ||| BitVec.ofNat 32 y = BitVec.ofNat 32 (x ||| y)
  rw [BitVec.ofNat_or]
theorem nmB_or {x y : Int32} {w : Nat} (h : w < 8) : nmB (x ||| y) w ↔ (nmB x w ∨ nmB y w) := by
  rw [nmB_bv h, nmB_bv h, nmB_bv h]
  simp
theorem nmB_and {x y : Int32} {w : Nat} (h : w < 8) (e : x &&& y = 0) (hx : nmB x w) : ¬ nmB y w := by
  rw [nmB_bv h] at hx ⊢
  intro hy
  have : (x &&& y).toBitVec.getLsbD w = true := by simp [hx, hy]
  rw [e] at this
  simp at this
theorem nmB_bit {x w : Nat} (hx : x < 8) (hw : w < 8) : nmB (1 <<< (nI x &&& 31)) w ↔ w = x := by
  have : ∀ (x w : Fin 8), ((1 : Int32) <<< (nI x &&& 31)) >>> (nI w &&& 31) &&& 1 = 1 ↔ (w : Nat) = x := by
    decide +kernel
  exact this ⟨x, hx⟩ ⟨w, hw⟩
theorem nm_bit : ∀ x : Nat, x < 8 → ∃ z, z < 256 ∧ (1 : Int32) <<< (nI x &&& 31) = nI z := by
  intro x hx
  have : ∀ x : Fin 8, ∃ z : Fin 256, (1 : Int32) <<< (nI x &&& 31) = nI z := by decide +kernel
  obtain ⟨z, hz⟩ := this ⟨x, hx⟩
  exact ⟨z, z.2, hz⟩
theorem bse_fu (wf : wfN P N) : ∀ (f f' k : Nat), k < f → k < f' → k < N → bse P f k = bse P f' k
  | 0, _, _, h, _, _ => by omega
  | f + 1, 0, _, _, h, _ => by omega
  | f + 1, f' + 1, k, h, h', hN => by
    simp only [bse]
    by_cases h4 : P 3 k = 4
    · obtain ⟨w, v, -, -, hv, ev, -⟩ := (wf.2 k hN).2.1 h4
      have := wf.1
      have e : tn (P 6 (4 * k)) = v := by rw [ev, tnI (by omega)]
      rw [if_pos h4, if_pos h4, e]
      exact bse_fu wf f f' v (by omega) (by omega) (by omega)
    · rw [if_neg h4, if_neg h4]
theorem own_fu (wf : wfN P N) : ∀ (f f' k w : Nat), k < f → k < f' → k < N → (own P f k w ↔ own P f' k w)
  | 0, _, _, _, h, _, _ => by omega
  | f + 1, 0, _, _, _, h, _ => by omega
  | f + 1, f' + 1, k, w, h, h', hN => by
    simp only [own]
    by_cases h4 : P 3 k = 4
    · obtain ⟨w', v, -, -, hv, ev, -⟩ := (wf.2 k hN).2.1 h4
      have := wf.1
      have e : tn (P 6 (4 * k)) = v := by rw [ev, tnI (by omega)]
      rw [e, own_fu wf f f' v w (by omega) (by omega) (by omega)]
    · exact ⟨fun q => absurd q.1 h4, fun q => absurd q.1 h4⟩
/-- the node that a node stands in comes behind it -/
def rtO (N : Nat) (rt : Nat → Nat) : Prop := ∀ k, k < N → k ≤ rt k ∧ rt k < N
theorem rtO_N {ns : List Nat} (h : rtO N rt) : rtO (N + 1) (rtN rt ns N) := by
  intro k hk
  unfold rtN
  by_cases e : k = N
  · rw [if_pos e]
    omega
  · rw [if_neg e]
    split
    · omega
    · have := h k (by omega)
      omega
/-- a part is no root -/
theorem no_part (hr : rtO N rt) (hN : N ≤ 512) (ty : tyO P) (h : ∀ k, k < N → ndO P rt rl k) {b old : Nat} (hb : b < N) (ho : rt old = old) : (P 3 b = 3 → ¬ tn (P 6 (4 * b)) = old ∧ ¬ tn (P 6 (4 * b + 1)) = old) ∧ (P 3 b = 2 → ∀ i, i < aAr P b → ¬ tn (P 6 (4 * b + i)) = old) := by
  obtain ⟨-, -, -, -, -, -, h3, h2⟩ := h b hb
  have := (hr b hb).1
  refine ⟨fun q => ?_, fun q i hi => ?_⟩
  · obtain ⟨v, v', hv, e6, hv', e6', -, -, -, -, -, r1, -, r1', -⟩ := h3 q
    rw [e6, tnI (by omega), e6', tnI (by omega)]
    exact ⟨fun e => by subst e; omega, fun e => by subst e; omega⟩
  · obtain ⟨T, w, -, -, -, -, -, -, hp, -⟩ := h2 q
    obtain ⟨v, hv, e6, -, r1, -⟩ := hp i hi
    rw [e6, tnI (by omega)]
    exact fun e => by subst e; omega
theorem tmR_name (h : tmR P N T V tm ob a n u) (hr : rtO N rt) (hN : N < 512) (ty : tyO P) (hnd : ∀ k, k < N → ndO P rt rl k) (g : agP P P' N) {old x : Nat} (hx : x < 8) (hT : T old) (hV : ¬ V old) (ho : rt old = old) (e3 : P' 3 N = 4) (e4 : P' 4 N = P 4 old) (e5 : P' 5 N = nI x) (e6 : P' 6 (4 * N) = nI old) (e7 : P' 7 N = P 7 old) (e8 : P' 8 N = P 8 old ||| 1 <<< (nI x &&& 31)) :
    tmR P' (N + 1) (fun k => (T k ∧ k ≠ old) ∨ k = N) V (upN tm N (tm old)) (fun k => if k = N ∨ k = bse P 512 old then ob old ||| 1 <<< (nI x &&& 31) else ob k) a n (uI (uI u (tm old) 5 (u.2.2.1 (tm old) 5 ||| 1 <<< (nI x &&& 31))) (tm old) 6 (u.2.2.1 (tm old) 6 ||| 1 <<< (nI x &&& 31))) := by
  have wf := nd_wfN (by omega) hnd
  obtain ⟨tp, tw, tx, ti, tb, hv, hvT⟩ := h
  have hTN : ∀ k, T k → k < N := fun k hk => (tp k hk).1
  have hoN := hTN old hT
  have htm : ∀ k, k < N → upN tm N (tm old) k = tm k := fun k hk => upN_ne (by omega)
  have hbk : ∀ k, T k → bse P 512 k < N ∧ ¬ P 3 (bse P 512 k) = 4 := fun k hk => by
    have := bse_ok wf 512 k (by have := hTN k hk; omega) (hTN k hk)
    exact ⟨this.1, this.2.2.1⟩
  generalize hb : bse P 512 old = b
  have hbN : b < N := by rw [← hb]; exact (hbk old hT).1
  have hb4 : ¬ P 3 b = 4 := by rw [← hb]; exact (hbk old hT).2
  have neb : ∀ k, T k → k ≠ old → ¬ k = b ∧ ¬ bse P 512 k = b := fun k hk hne => by
    have e2 : ¬ bse P 512 k = b := fun e => hne (tb k old hk hT (e.trans hb.symm))
    refine ⟨fun e => e2 ?_, e2⟩
    subst e
    exact bse_self hb4
  have hob : ∀ k, T k ∧ k ≠ old → (fun k => if k = N ∨ k = b then ob old ||| 1 <<< (nI x &&& 31) else ob k) k = ob k ∧ (fun k => if k = N ∨ k = b then ob old ||| 1 <<< (nI x &&& 31) else ob k) (bse P 512 k) = ob (bse P 512 k) := fun k hk => by
    have x1 := neb k hk.1 hk.2
    have x2 := hTN k hk.1
    have x3 := (hbk k hk.1).1
    exact ⟨if_neg (fun z => z.elim (fun z => by omega) x1.1), if_neg (fun z => z.elim (fun z => by omega) x1.2)⟩
  have C1 := tmP_cg (T' := fun k => T k ∧ k ≠ old) (tm' := upN tm N (tm old)) (ob' := fun k => if k = N ∨ k = b then ob old ||| 1 <<< (nI x &&& 31) else ob k) wf g (Nat.le_succ N) tp (fun _ q => q.1) (fun k hk => by
    have y := no_part hr (by omega) ty hnd (hbk k hk.1).1 ho
    exact ⟨fun q => ⟨⟨((tp k hk.1).2.2.2.2.1 q).1, (y.1 q).1⟩, ⟨((tp k hk.1).2.2.2.2.1 q).2, (y.1 q).2⟩⟩, fun q i hi => ⟨(tp k hk.1).2.2.2.2.2 q i hi, y.2 q i hi⟩⟩) htm hob ty
  have C2 := tmW_cg (u' := uI (uI u (tm old) 5 (u.2.2.1 (tm old) 5 ||| 1 <<< (nI x &&& 31))) (tm old) 6 (u.2.2.1 (tm old) 6 ||| 1 <<< (nI x &&& 31))) (T' := fun k => T k ∧ k ≠ old) (tm' := upN tm N (tm old)) (ob' := fun k => if k = N ∨ k = b then ob old ||| 1 <<< (nI x &&& 31) else ob k) wf g tp tw (fun _ q => q.1) htm (fun k hk => (hob k hk).1) (fun k hk => ⟨rfl, rfl, rfl, rfl, fun j hj h5 => by
    by_cases e : tm k = tm old
    · have ek := ti k old hk hT e
      subst ek
      have j5 : j ≠ 5 := fun z => (h5 z).2 rfl
      rw [at_I, at_I]
      unfold upd
      rw [if_neg (by omega), if_neg j5]
    · rw [up_I e, up_I e]⟩) ty
  have e511 : bse P' 512 N = b := by
    show (if P' 3 N = 4 then bse P' 511 (tn (P' 6 (4 * N))) else N) = b
    rw [if_pos e3, e6, tnI (by omega), bse_ag wf g 511 old hoN, bse_fu wf 511 512 old (by omega) (by omega) hoN, hb]
  have eN : (fun k => if k = N ∨ k = b then ob old ||| 1 <<< (nI x &&& 31) else ob k) N = ob old ||| 1 <<< (nI x &&& 31) := if_pos (Or.inl rfl)
  have eb : (fun k => if k = N ∨ k = b then ob old ||| 1 <<< (nI x &&& 31) else ob k) b = ob old ||| 1 <<< (nI x &&& 31) := if_pos (Or.inr rfl)
  have ar4 := aAr_4 ty (k := b)
  have bN := wf.1
  refine ⟨fun k hk => ?_, fun k hk => ?_, fun k hk => ?_, fun k k' hk hk' => ?_, fun k k' hk hk' => ?_, fun v hv' => ?_, fun v hv' => ?_⟩
  · rcases hk with hk | rfl
    · obtain ⟨q1, q2, q3, q4, q5, q6⟩ := C1 k hk
      exact ⟨q1, q2, q3, q4, fun q => ⟨Or.inl (q5 q).1, Or.inl (q5 q).2⟩, fun q i hi => Or.inl (q6 q i hi)⟩
    · obtain ⟨p1, p2, p3, p4, p5, p6⟩ := tp old hT
      rw [hb] at p3 p4 p5 p6
      have y := no_part hr (by omega) ty hnd hbN ho
      rw [e511, eN, eb, htm b hbN, show upN tm k (tm old) k = tm old from upN_at, (g.2.2.2.1 b hbN).1, aAr_ag g hbN]
      refine ⟨by omega, fun w hw => ?_, rfl, p4, fun q => ?_, fun q i hi => ?_⟩
      · rw [nmB_or hw, nmB_bit hx hw, p2 w hw]
        show _ ↔ (P' 3 k = 4 ∧ (tn (P' 5 k) = w ∨ own P' 511 (tn (P' 6 (4 * k))) w))
        rw [e5, e6, tnI (by omega), tnI (by omega), own_ag wf g 511 old w hoN, own_fu wf 511 512 old w (by omega) (by omega) hoN]
        exact ⟨fun z => ⟨e3, z.elim Or.inr (fun z => Or.inl z.symm)⟩, fun z => z.2.elim (fun z => Or.inr z.symm) Or.inl⟩
      · rw [g.2.2.2.2 _ (by omega), g.2.2.2.2 _ (by omega)]
        exact ⟨Or.inl ⟨(p5 q).1, (y.1 q).1⟩, Or.inl ⟨(p5 q).2, (y.1 q).2⟩⟩
      · rw [g.2.2.2.2 _ (by omega)]
        exact Or.inl ⟨p6 q i hi, y.2 q i hi⟩
  · rcases hk with hk | rfl
    · exact C2 k hk
    · obtain ⟨w1, w2, w3, w4, w5, w6, w7, w8, w9⟩ := tw old hT
      obtain ⟨p1, p2, p3, p4, p5, p6⟩ := tp old hT
      rw [hb] at w4 w5 w7 w8 w9 p5 p6
      have f : ∀ j, j < 5 → (uI (uI u (tm old) 5 (u.2.2.1 (tm old) 5 ||| 1 <<< (nI x &&& 31))) (tm old) 6 (u.2.2.1 (tm old) 6 ||| 1 <<< (nI x &&& 31))).2.2.1 (tm old) j = u.2.2.1 (tm old) j := fun j hj => by
        rw [at_I, at_I]
        unfold upd
        rw [if_neg (by omega), if_neg (by omega)]
      have f5 : (uI (uI u (tm old) 5 (u.2.2.1 (tm old) 5 ||| 1 <<< (nI x &&& 31))) (tm old) 6 (u.2.2.1 (tm old) 6 ||| 1 <<< (nI x &&& 31))).2.2.1 (tm old) 5 = u.2.2.1 (tm old) 5 ||| 1 <<< (nI x &&& 31) := by
        rw [at_I, at_I]
        unfold upd
        rw [if_neg (by omega), if_pos rfl]
      have hK : aK P' b ↔ aK P b := by
        unfold aK
        rw [(g.2.2.2.1 _ hbN).1]
      rw [e511, show upN tm k (tm old) k = tm old from upN_at, eN, (g.2.2.2.1 b hbN).1, aAr_ag g hbN, (g.2.2.2.1 b hbN).2.2.1, e4]
      refine ⟨w1, w2, by rw [f 0 (by omega)]; exact w3, by rw [f 1 (by omega)]; exact w4, fun q => by rw [f 2 (by omega)]; exact w5 (hK.mp q), by rw [f5, w6], fun q => ?_, fun q => ?_, w9⟩
      · rw [g.2.2.2.2 _ (by omega), g.2.2.2.2 _ (by omega), htm _ (hTN _ (p5 q).1), htm _ (hTN _ (p5 q).2)]
        exact w7 q
      · refine ⟨(w8 q).1, fun i hi => ?_⟩
        rw [g.2.2.2.2 _ (by omega), htm _ (hTN _ (p6 q i hi))]
        exact (w8 q).2 i hi
  · rcases hk with hk | rfl
    · have hkN := hTN k hk.1
      obtain ⟨x1, x2, x3⟩ := tx k hk.1
      have e : ¬ tm k = tm old := fun e => hk.2 (ti k old hk.1 hT e)
      rw [htm k hkN, up_I e, up_I e, (g.2.2.2.1 k hkN).2.2.2.1, (g.2.2.2.1 k hkN).2.2.2.2]
      exact ⟨x1, x2, x3⟩
    · obtain ⟨x1, x2, x3⟩ := tx old hT
      rw [show upN tm k (tm old) k = tm old from upN_at, e7, e8, at_I, at_I]
      refine ⟨x1, ?_, ?_⟩
      · unfold upd
        rw [if_neg (by omega), if_neg (by omega)]
        exact x2
      · unfold upd
        rw [if_pos rfl, x3]
  · rcases hk with hk | rfl
    · have hkN := hTN k hk.1
      rcases hk' with hk' | rfl
      · rw [htm k hkN, htm k' (hTN k' hk'.1)]
        exact ti k k' hk.1 hk'.1
      · rw [htm k hkN, show upN tm k' (tm old) k' = tm old from upN_at]
        exact fun e => absurd (ti k old hk.1 hT e) hk.2
    · rcases hk' with hk' | rfl
      · rw [htm k' (hTN k' hk'.1), show upN tm k (tm old) k = tm old from upN_at]
        exact fun e => absurd (ti k' old hk'.1 hT e.symm) hk'.2
      · intro _
        rfl
  · rcases hk with hk | rfl
    · have hkN := hTN k hk.1
      rcases hk' with hk' | rfl
      · rw [bse_ag wf g 512 k hkN, bse_ag wf g 512 k' (hTN k' hk'.1)]
        exact tb k k' hk.1 hk'.1
      · rw [bse_ag wf g 512 k hkN, e511]
        exact fun e => absurd e (neb k hk.1 hk.2).2
    · rcases hk' with hk' | rfl
      · rw [bse_ag wf g 512 k' (hTN k' hk'.1), e511]
        exact fun e => absurd e.symm (neb k' hk'.1 hk'.2).2
      · intro _
        rfl
  · obtain ⟨y1, y2, y3⟩ := hv v hv'
    have ar4 := aAr_4 ty (k := v)
    rw [(g.2.2.2.1 v y1).1, aAr_ag g y1]
    refine ⟨by omega, y2, fun z i hi => ?_⟩
    rw [g.2.2.2.2 _ (by omega)]
    exact y3 z i hi
  · exact Or.inl ⟨hvT v hv', fun e => hV (by rw [← e]; exact hv')⟩
end NI
