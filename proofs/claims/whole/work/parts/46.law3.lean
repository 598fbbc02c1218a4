/-! The law out of one step; its start -/
section LL
variable {E : gE} {D : Nat} {G0 G : gS} {b L : Nat} {xs : Nat → Int32} {a m w : Nat}
theorem sub4_int {L : Nat} (h : L ≤ 2048) : (nI L - 4).toInt = (L : Int) - 4 := by
  have e : (nI L).toInt = (L : Int) := nI_hi (by omega)
  rw [Int32.toInt_sub, e, show (4 : Int32).toInt = 4 by decide, Int.bmod_def]
  omega
set_option maxHeartbeats 400000 in
set_option maxRecDepth 100000 in
theorem law_body {k : Nat} {J : gS → Prop} (hs : gScr E b L xs) (hk : 4 * k + 4 ≤ L) (hL : L ≤ 2048) (hst : gStep E D a m w G J) (kk : ∀ G2, J G2 → GT E Y_law (D + 1) G0 1151 [(0, .ref b), (1, .ref a), (2, .ref m), (3, .ref w), (4, .int (nI (4 * k)))] [] G2 lwQ) (kd : GT E Y_law (D + 1) G0 1151 [(0, .ref b), (1, .ref a), (2, .ref m), (3, .ref w), (4, .int (nI (4 * k)))] [] G lwQ) : GT E Y_law (D + 1) G0 32 [(0, .ref b), (1, .ref a), (2, .ref m), (3, .ref w), (4, .int (nI (4 * k)))] [] G lwQ := by
  obtain ⟨ha, h_type, h_argument, h_any, h_number, h_make, h_either, h_name, h_addCase, h_build, h_match, h_bound, h_boundAt, h_question, h_about, h_pop, h_asked, h_missing, h_unused, h_clear⟩ := hst
  refine g_aload_n d_law_32 rfl ?_
  refine g_iload d_law_33 rfl ?_
  refine g_sld hs (j := 4 * k) (nI_hi (by omega)) (by omega) d_law_35 ?_
  refine g_bipush (v := 31) d_law_36 (by decide) ?_
  refine g_iand d_law_38 ?_
  generalize xs (4 * k) &&& 31 = y
  have h : y.toInt < 0 ∨ y.toInt = 0 ∨ y.toInt = 1 ∨ y.toInt = 2 ∨ y.toInt = 3 ∨ y.toInt = 4 ∨ y.toInt = 5 ∨ y.toInt = 6 ∨ y.toInt = 7 ∨ y.toInt = 8 ∨ y.toInt = 9 ∨ y.toInt = 10 ∨ y.toInt = 11 ∨ y.toInt = 12 ∨ y.toInt = 13 ∨ y.toInt = 14 ∨ y.toInt = 15 ∨ y.toInt = 16 ∨ y.toInt = 17 ∨ y.toInt = 18 ∨ 18 < y.toInt := by omega
  rcases h with h | h | h | h | h | h | h | h | h | h | h | h | h | h | h | h | h | h | h | h | h
  · exact g_tableOut (tgt := 1151) d_law_39 (Or.inl h) (by decide) kd
  · exact g_tableIn (tgt := 128) (off := 89) d_law_39 (by rw [h]; decide) (by rw [h]; decide) (by rw [h]; rfl) (by decide) (law_type hs hk hL ha h_type kk)
  · exact g_tableIn (tgt := 176) (off := 137) d_law_39 (by rw [h]; decide) (by rw [h]; decide) (by rw [h]; rfl) (by decide) (law_argument hs hk hL ha h_argument kk)
  · exact g_tableIn (tgt := 256) (off := 217) d_law_39 (by rw [h]; decide) (by rw [h]; decide) (by rw [h]; rfl) (by decide) (law_any hs hk hL ha h_any kk)
  · exact g_tableIn (tgt := 312) (off := 273) d_law_39 (by rw [h]; decide) (by rw [h]; decide) (by rw [h]; rfl) (by decide) (law_number hs hk hL ha h_number kk)
  · exact g_tableIn (tgt := 408) (off := 369) d_law_39 (by rw [h]; decide) (by rw [h]; decide) (by rw [h]; rfl) (by decide) (law_make hs hk hL ha h_make kk)
  · exact g_tableIn (tgt := 504) (off := 465) d_law_39 (by rw [h]; decide) (by rw [h]; decide) (by rw [h]; rfl) (by decide) (law_either hs hk hL ha h_either kk)
  · exact g_tableIn (tgt := 548) (off := 509) d_law_39 (by rw [h]; decide) (by rw [h]; decide) (by rw [h]; rfl) (by decide) (law_name hs hk hL ha h_name kk)
  · exact g_tableIn (tgt := 604) (off := 565) d_law_39 (by rw [h]; decide) (by rw [h]; decide) (by rw [h]; rfl) (by decide) (law_pop hs hk hL ha h_pop kk)
  · exact g_tableIn (tgt := 645) (off := 606) d_law_39 (by rw [h]; decide) (by rw [h]; decide) (by rw [h]; rfl) (by decide) (law_addCase hs hk hL ha h_addCase kk)
  · exact g_tableIn (tgt := 717) (off := 678) d_law_39 (by rw [h]; decide) (by rw [h]; decide) (by rw [h]; rfl) (by decide) (law_build hs hk hL ha h_build kk)
  · exact g_tableIn (tgt := 761) (off := 722) d_law_39 (by rw [h]; decide) (by rw [h]; decide) (by rw [h]; rfl) (by decide) (law_match hs hk hL ha h_match kk)
  · exact g_tableIn (tgt := 817) (off := 778) d_law_39 (by rw [h]; decide) (by rw [h]; decide) (by rw [h]; rfl) (by decide) (law_asked hs hk hL ha h_asked kk)
  · exact g_tableIn (tgt := 842) (off := 803) d_law_39 (by rw [h]; decide) (by rw [h]; decide) (by rw [h]; rfl) (by decide) (law_bound hs hk hL ha h_bound kk)
  · exact g_tableIn (tgt := 898) (off := 859) d_law_39 (by rw [h]; decide) (by rw [h]; decide) (by rw [h]; rfl) (by decide) (law_boundAt hs hk hL ha h_boundAt kk)
  · exact g_tableIn (tgt := 966) (off := 927) d_law_39 (by rw [h]; decide) (by rw [h]; decide) (by rw [h]; rfl) (by decide) (law_missing hs hk hL ha h_missing kk)
  · exact g_tableIn (tgt := 991) (off := 952) d_law_39 (by rw [h]; decide) (by rw [h]; decide) (by rw [h]; rfl) (by decide) (law_unused hs hk hL ha h_unused kk)
  · exact g_tableIn (tgt := 1016) (off := 977) d_law_39 (by rw [h]; decide) (by rw [h]; decide) (by rw [h]; rfl) (by decide) (law_question hs hk hL ha h_question kk)
  · exact g_tableIn (tgt := 1084) (off := 1045) d_law_39 (by rw [h]; decide) (by rw [h]; decide) (by rw [h]; rfl) (by decide) (law_about hs hk hL ha h_about kk)
  · exact g_tableIn (tgt := 1140) (off := 1101) d_law_39 (by rw [h]; decide) (by rw [h]; decide) (by rw [h]; rfl) (by decide) (law_clear hs hk hL ha h_clear kk)
  · exact g_tableOut (tgt := 1151) d_law_39 (Or.inr h) (by decide) kd
theorem law_loop (hs : gScr E b L xs) (hL : L ≤ 2048) (I : Nat → gS → Prop) (hmono : ∀ k G, I k G → I (k + 1) G) (hstep : ∀ k G, 4 * k + 4 ≤ L → I k G → gStep E D a m w G (I (k + 1))) : ∀ (n k : Nat) (G : gS), L < 4 * (k + n) + 4 → 4 * k ≤ L → I k G → GT E Y_law (D + 1) G0 23 [(0, .ref b), (1, .ref a), (2, .ref m), (3, .ref w), (4, .int (nI (4 * k)))] [] G lwQ := by
  intro n
  induction n with
  | zero =>
    intro k G h hk hI
    refine g_iload d_law_23 rfl ?_
    refine g_aload_n d_law_25 rfl ?_
    refine g_slen hs d_law_26 ?_
    refine g_iconst (v := 4) d_law_27 (by decide) ?_
    refine g_isub d_law_28 ?_
    have e1 := sub4_int hL
    have e2 : (nI (4 * k)).toInt = ((4 * k : Nat) : Int) := nI_hi (by omega)
    refine g_icmp_gt (tgt := 1157) d_law_29 (by decide) (fun c => ?_) (fun c => ?_)
    · refine g_iconst (v := 1) d_law_1157 (by decide) ?_
      exact g_zret rfl rfl d_law_1158 rfl
    · exfalso
      rw [Int32.lt_iff_toInt_lt, e1, e2] at c
      omega
  | succ n ih =>
    intro k G h hk hI
    refine g_iload d_law_23 rfl ?_
    refine g_aload_n d_law_25 rfl ?_
    refine g_slen hs d_law_26 ?_
    refine g_iconst (v := 4) d_law_27 (by decide) ?_
    refine g_isub d_law_28 ?_
    have e1 := sub4_int hL
    have e2 : (nI (4 * k)).toInt = ((4 * k : Nat) : Int) := nI_hi (by omega)
    refine g_icmp_gt (tgt := 1157) d_law_29 (by decide) (fun c => ?_) (fun c => ?_)
    · refine g_iconst (v := 1) d_law_1157 (by decide) ?_
      exact g_zret rfl rfl d_law_1158 rfl
    · rw [Int32.lt_iff_toInt_lt, e1, e2] at c
      have hk4 : 4 * k + 4 ≤ L := by omega
      have kk : ∀ G2, I (k + 1) G2 → GT E Y_law (D + 1) G0 1151 [(0, .ref b), (1, .ref a), (2, .ref m), (3, .ref w), (4, .int (nI (4 * k)))] [] G2 lwQ := by
        intro G2 h2
        have e4 : nI (4 * k) + Int32.ofInt 4 = nI (4 * (k + 1)) := by
          rw [show 4 * (k + 1) = 4 * k + 4 by omega]
          exact i_nI (add_hi (m := 4 * k) (n := 4) (nI_hi (by omega)) (by decide) (by omega))
        refine g_iinc (v := nI (4 * (k + 1))) d_law_1151 rfl e4 (by decide) rfl ?_
        refine g_goto (tgt := 23) d_law_1154 (by decide) ?_
        exact ih (k + 1) G2 (by omega) (by omega) h2
      exact law_body hs hk4 hL (hstep k G hk4 hI) kk (kk G (hmono k G hI))
end LL
/-- a new reference -/
def s0 : mS := (upd (fun _ => 0) 54 0, fun j => if j = 38 then fillF (fun _ => 0) 8 (-1) else fun _ => 0)
/-- the class at a, the reference at a + 24, the law's array at a + 65 -/
def lIs (E : gE) (a : Nat) (G : gS) (c : cS) (s : mS) (fo : Nat → Int64) : Prop := xW E G a c = G ∧ mW E G (a + 24) (a + 25) s = G ∧ G.1 (a + 65) = some (gAJ E 1 fo)
def g00 (E : gE) : gS := (fun _ => none, E.1.heap.size, 0)
set_option maxHeartbeats 1000000 in
set_option maxRecDepth 100000 in
theorem law_start {E : gE} {d b L : Nat} {xs : Nat → Int32} (hs : gScr E b L xs) (hL : L ≤ 2048) (I : Nat → Nat → gS → Prop) (h0 : ∀ G, lIs E E.1.heap.size G (c0 E) s0 (fun _ => 0) → G.2.1 = E.1.heap.size + 66 → G.2.2 = 2698980 → I E.1.heap.size 0 G) (hmono : ∀ a k G, I a k G → I a (k + 1) G)
    (hstep : ∀ a k G, 4 * k + 4 ≤ L → I a k G → gStep E (d + 6) a (a + 24) (a + 65) G (I a (k + 1))) : GM E Y_law (d + 7) [.ref b] (g00 E) lwQ := by
  refine g_entry (by decide) (by simp [Value.category]) (Nat.le_of_ble_eq_true rfl) ?_
  have rc : 600000 ≤ room_1.cells := by decide
  have rs : 7290000 ≤ room_1.slots := by decide
  refine g_new kc_Mill cl_Law_8 ki_Mill.1 ki_Mill.2 (fs := [.null, .null, .null, .null, .null, .null, .int 0, .int 0, .int 0]) (by decide) (by show E.1.heap.size + 1 ≤ _; omega) (by show 0 + 9 ≤ _; omega) d_law_0 ?_
  refine g_dup d_law_3 rfl ?_
  refine c_Ix (as := []) kn_Mill_init ml_Law_64 (m_X_init (E := E) (a := E.1.heap.size) (sl := 9) (d := d) gNew_at rfl rfl (by omega) (by omega)) rfl (Nat.le_of_ble_eq_true rfl) rfl d_law_4 rfl (fun G1 h1 => ?_)
  obtain ⟨e1, z1, -, x1⟩ := h1
  refine g_astore_n d_law_7 (by decide) rfl ?_
  refine g_new kc_Model cl_Law_65 ki_Model.1 ki_Model.2 (fs := [.int 0, .null, .null, .null, .int 0, .int 0, .null, .null, .null, .null, .null, .null, .null, .null, .int 0, .int 0, .int 0, .null, .null, .int 0, .int 0, .int 0, .int 0, .int 0, .int 0, .int 0, .int 0, .null, .null, .null, .null, .null, .null, .null, .int 0, .null, .null, .null, .null, .null, .null, .null, .null, .null, .null, .null, .int 0, .int 0, .null, .null, .null, .null, .null, .null, .int 0, .null, .null, .null, .int 0, .int 0]) (by decide) (by omega) (by omega) d_law_8 ?_
  refine g_dup d_law_11 rfl ?_
  have m1 : (gNew G1 (.inr (13, [.int 0, .null, .null, .null, .int 0, .int 0, .null, .null, .null, .null, .null, .null, .null, .null, .int 0, .int 0, .int 0, .null, .null, .int 0, .int 0, .int 0, .int 0, .int 0, .int 0, .int 0, .int 0, .null, .null, .null, .null, .null, .null, .null, .int 0, .null, .null, .null, .null, .null, .null, .null, .null, .null, .null, .null, .int 0, .int 0, .null, .null, .null, .null, .null, .null, .int 0, .null, .null, .null, .int 0, .int 0])) 60).1 (E.1.heap.size + 24) = some (.inr (13, [.int 0, .null, .null, .null, .int 0, .int 0, .null, .null, .null, .null, .null, .null, .null, .null, .int 0, .int 0, .int 0, .null, .null, .int 0, .int 0, .int 0, .int 0, .int 0, .int 0, .int 0, .int 0, .null, .null, .null, .null, .null, .null, .null, .int 0, .null, .null, .null, .null, .null, .null, .null, .null, .null, .null, .null, .int 0, .int 0, .null, .null, .null, .null, .null, .null, .int 0, .null, .null, .null, .int 0, .int 0])) := by rw [← e1]; exact gNew_at
  have m2 : (gNew G1 (.inr (13, [.int 0, .null, .null, .null, .int 0, .int 0, .null, .null, .null, .null, .null, .null, .null, .null, .int 0, .int 0, .int 0, .null, .null, .int 0, .int 0, .int 0, .int 0, .int 0, .int 0, .int 0, .int 0, .null, .null, .null, .null, .null, .null, .null, .int 0, .null, .null, .null, .null, .null, .null, .null, .null, .null, .null, .null, .int 0, .int 0, .null, .null, .null, .null, .null, .null, .int 0, .null, .null, .null, .int 0, .int 0])) 60).2.1 = E.1.heap.size + 25 := by show G1.2.1 + 1 = _; omega
  have m3 : (gNew G1 (.inr (13, [.int 0, .null, .null, .null, .int 0, .int 0, .null, .null, .null, .null, .null, .null, .null, .null, .int 0, .int 0, .int 0, .null, .null, .int 0, .int 0, .int 0, .int 0, .int 0, .int 0, .int 0, .int 0, .null, .null, .null, .null, .null, .null, .null, .int 0, .null, .null, .null, .null, .null, .null, .null, .null, .null, .null, .null, .int 0, .int 0, .null, .null, .null, .null, .null, .null, .int 0, .null, .null, .null, .int 0, .int 0])) 60).2.2 = 8159 := by show G1.2.2 + 60 = _; omega
  have mo : ∀ q, q < E.1.heap.size + 24 → (gNew G1 (.inr (13, [.int 0, .null, .null, .null, .int 0, .int 0, .null, .null, .null, .null, .null, .null, .null, .null, .int 0, .int 0, .int 0, .null, .null, .int 0, .int 0, .int 0, .int 0, .int 0, .int 0, .int 0, .int 0, .null, .null, .null, .null, .null, .null, .null, .int 0, .null, .null, .null, .null, .null, .null, .null, .null, .null, .null, .null, .int 0, .int 0, .null, .null, .null, .null, .null, .null, .int 0, .null, .null, .null, .int 0, .int 0])) 60).1 q = G1.1 q := fun q hq => by
    show va_up G1.1 G1.2.1 _ q = _
    rw [e1]
    exact if_neg (by omega)
  rw [e1]
  generalize gNew G1 (.inr (13, [.int 0, .null, .null, .null, .int 0, .int 0, .null, .null, .null, .null, .null, .null, .null, .null, .int 0, .int 0, .int 0, .null, .null, .int 0, .int 0, .int 0, .int 0, .int 0, .int 0, .int 0, .int 0, .null, .null, .null, .null, .null, .null, .null, .int 0, .null, .null, .null, .null, .null, .null, .null, .null, .null, .null, .null, .int 0, .int 0, .null, .null, .null, .null, .null, .null, .int 0, .null, .null, .null, .int 0, .int 0])) 60 = G2 at m1 m2 m3 mo ⊢
  refine c_Ix (as := []) kn_Model_init ml_Law_67 (m_Model_init (E := E) (a := E.1.heap.size + 24) (n := E.1.heap.size + 25) (sl := 8159) (d := d + 5) m1 m2 m3 (by omega) (by omega) (by omega)) rfl (Nat.le_of_ble_eq_true rfl) rfl d_law_12 rfl (fun G3 h3 => ?_)
  obtain ⟨e3, z3, k3, f3, b3, a3⟩ := h3
  refine g_astore_n d_law_15 (by decide) rfl ?_
  refine g_iconst (v := 1) d_law_16 (by decide) ?_
  refine g_newJ (N := 1) wa_long (by decide) (by decide) (by omega) (by omega) d_law_17 ?_
  have w1 : (gNew G3 (gAJ E 1 (fun _ => 0)) 1).1 (E.1.heap.size + 65) = some (gAJ E 1 (fun _ => 0)) := by rw [show E.1.heap.size + 65 = G3.2.1 by omega]; exact gNew_at
  have w2 : (gNew G3 (gAJ E 1 (fun _ => 0)) 1).2.1 = E.1.heap.size + 66 := by show G3.2.1 + 1 = _; omega
  have w3 : (gNew G3 (gAJ E 1 (fun _ => 0)) 1).2.2 = 2698980 := by show G3.2.2 + 1 = _; omega
  have wo : ∀ q, q < E.1.heap.size + 65 → (gNew G3 (gAJ E 1 (fun _ => 0)) 1).1 q = G3.1 q := fun q hq => by
    show va_up G3.1 G3.2.1 _ q = _
    exact if_neg (by omega)
  rw [show G3.2.1 = E.1.heap.size + 65 by omega]
  generalize gNew G3 (gAJ E 1 (fun _ => 0)) 1 = G4 at w1 w2 w3 wo ⊢
  refine g_astore_n d_law_19 (by decide) rfl ?_
  refine g_iconst (v := 0) d_law_20 (by decide) ?_
  refine g_istore d_law_21 (by decide) rfl ?_
  have hI : I E.1.heap.size 0 G4 := by
    refine h0 G4 ⟨xw_self (fun k hk => ?_), mw_self (by omega) ?_ (fun j hj => ?_), w1⟩ w2 w3
    · rw [wo _ (by omega), k3 _ (by omega) (by omega), mo _ (by omega), ← x1]
      exact xw_k hk
    · rw [wo _ (by omega), f3]
      rfl
    · rw [wo _ (by omega)]
      by_cases e : j = 38
      · subst e
        exact b3
      · rw [a3 j hj e]
        show some (mArr E j _) = some (mArr E j (if j = 38 then _ else _))
        rw [if_neg e]
  have K := law_loop (G0 := g00 E) hs hL (I E.1.heap.size) (hmono _) (hstep _) (L + 1) 0 G4 (by omega) (by omega) hI
  rw [show nI (4 * 0) = 0 from rfl] at K
  exact K
set_option maxHeartbeats 1000000 in
set_option maxRecDepth 100000 in
theorem law_base {s : State} {a0 : Array Value} (hts : ∀ w ∈ lw_tbl, w.before a0 s = true) (hgv : (Jvm.Cond.and given_1 narrow_1).before a0 s = true) : ∃ E : gE, E.1 = s ∧ gBase gCl E := by
  obtain ⟨c0, i0, k0⟩ := u_known (C := C_ArrayList) (T := T_ArrayList) hts (fun w hw => (kc_ArrayList.2.1 w hw).1) (hts _ ki_ArrayList.1)
  obtain ⟨c1, i1, k1⟩ := u_known (C := C_Cases) (T := T_Cases) hts (fun w hw => (kc_Cases.2.1 w hw).1) (hts _ ki_Cases.1)
  obtain ⟨c2, i2, k2⟩ := u_known (C := C_Passage) (T := T_Passage) hts (fun w hw => (kc_Passage.2.1 w hw).1) (hts _ ki_Passage.1)
  obtain ⟨c3, i3, k3⟩ := u_known (C := C_Pile) (T := T_Pile) hts (fun w hw => (kc_Pile.2.1 w hw).1) (hts _ ki_Pile.1)
  obtain ⟨c4, i4, k4⟩ := u_known (C := C_Place) (T := T_Place) hts (fun w hw => (kc_Place.2.1 w hw).1) (hts _ ki_Place.1)
  obtain ⟨c5, i5, k5⟩ := u_known (C := C_Places) (T := T_Places) hts (fun w hw => (kc_Places.2.1 w hw).1) (hts _ ki_Places.1)
  obtain ⟨c6, i6, k6⟩ := u_known (C := C_Question) (T := T_Question) hts (fun w hw => (kc_Question.2.1 w hw).1) (hts _ ki_Question.1)
  obtain ⟨c7, i7, k7⟩ := u_known (C := C_Row) (T := T_Row) hts (fun w hw => (kc_Row.2.1 w hw).1) (hts _ ki_Row.1)
  obtain ⟨c8, i8, k8⟩ := u_known (C := C_Rows) (T := T_Rows) hts (fun w hw => (kc_Rows.2.1 w hw).1) (hts _ ki_Rows.1)
  obtain ⟨c9, i9, k9⟩ := u_known (C := C_Term) (T := T_Term) hts (fun w hw => (kc_Term.2.1 w hw).1) (hts _ ki_Term.1)
  obtain ⟨c10, i10, k10⟩ := u_known (C := C_Tree) (T := T_Tree) hts (fun w hw => (kc_Tree.2.1 w hw).1) (hts _ ki_Tree.1)
  obtain ⟨c11, i11, k11⟩ := u_known (C := C_Types) (T := T_Types) hts (fun w hw => (kc_Types.2.1 w hw).1) (hts _ ki_Types.1)
  obtain ⟨c12, i12, k12⟩ := u_known (C := C_Mill) (T := T_Mill) hts (fun w hw => (kc_Mill.2.1 w hw).1) (hts _ ki_Mill.1)
  obtain ⟨c13, i13, k13⟩ := u_known (C := C_Model) (T := T_Model) hts (fun w hw => (kc_Model.2.1 w hw).1) (hts _ ki_Model.1)
  have hs := flat_of_before _ hgv
  obtain ⟨a_int, q_int, r_int, x_int, y_int, z_int⟩ := Cond.arrayClass_spec (hts _ wa_int)
  obtain ⟨a_boolean, q_boolean, r_boolean, x_boolean, y_boolean, z_boolean⟩ := Cond.arrayClass_spec (hts _ wa_boolean)
  obtain ⟨a_long, q_long, r_long, x_long, y_long, z_long⟩ := Cond.arrayClass_spec (hts _ wa_long)
  obtain ⟨r_Term, a_Term, q_Term, v_Term, -, y_Term, z_Term, x_Term⟩ := Cond.arrayOver_spec (hts _ wo_Term)
  obtain ⟨r_Object, a_Object, q_Object, v_Object, -, y_Object, z_Object, x_Object⟩ := Cond.arrayOver_spec (hts _ wo_Object)
  refine ⟨(s, ((fun k => match k with | 0 => c0 | 1 => c1 | 2 => c2 | 3 => c3 | 4 => c4 | 5 => c5 | 6 => c6 | 7 => c7 | 8 => c8 | 9 => c9 | 10 => c10 | 11 => c11 | 12 => c12 | _ => c13), (fun k => match k with | 0 => i0 | 1 => i1 | 2 => i2 | 3 => i3 | 4 => i4 | 5 => i5 | 6 => i6 | 7 => i7 | 8 => i8 | 9 => i9 | 10 => i10 | 11 => i11 | 12 => i12 | _ => i13)), [(a_int, .int), (a_boolean, .boolean), (a_long, .long), (a_Term, .object "MatchMill$Term"), (a_Object, .object "java/lang/Object")]), rfl, rfl, ⟨a0, hts, hgv⟩, ⟨?_, ?_⟩, ?_, ?_, ?_, ?_⟩
  · intro c q hq
    match c, hq with
    | 0, hq => cases hq; exact k0
    | 1, hq => cases hq; exact k1
    | 2, hq => cases hq; exact k2
    | 3, hq => cases hq; exact k3
    | 4, hq => cases hq; exact k4
    | 5, hq => cases hq; exact k5
    | 6, hq => cases hq; exact k6
    | 7, hq => cases hq; exact k7
    | 8, hq => cases hq; exact k8
    | 9, hq => cases hq; exact k9
    | 10, hq => cases hq; exact k10
    | 11, hq => cases hq; exact k11
    | 12, hq => cases hq; exact k12
    | 13, hq => cases hq; exact k13
    | c + 14, hq => simp [gCl] at hq
  · intro k q hq
    match k, hq with
    | 0, hq => cases hq; exact ⟨fun n z => ⟨fun k h => (by cases h), q_int, y_int, r_int, z_int⟩, x_int⟩
    | 1, hq => cases hq; exact ⟨fun n z => ⟨fun k h => (by cases h), q_boolean, y_boolean, r_boolean, z_boolean⟩, x_boolean⟩
    | 2, hq => cases hq; exact ⟨fun n z => ⟨fun k h => (by cases h), q_long, y_long, r_long, z_long⟩, x_long⟩
    | 3, hq => cases hq; exact ⟨fun n z => ⟨fun k h => (by cases h), q_Term, y_Term, r_Term, z_Term⟩, q_Term, r_Term, y_Term, z_Term, v_Term, x_Term⟩
    | 4, hq => cases hq; exact ⟨fun n z => ⟨fun k h => (by cases h), q_Object, y_Object, r_Object, z_Object⟩, q_Object, r_Object, y_Object, z_Object, v_Object, x_Object⟩
    | k + 5, hq => simp at hq
  · exact vx_Zqof (hts _ (wI (i := 361) (by decide +kernel))) (hts _ (wI (i := 14) (by decide +kernel))) (hs _ (by decide +kernel)) (fun a ha => Nat.not_le.mpr ha)
  · exact vx_Zqof (hts _ (wI (i := 363) (by decide +kernel))) (hts _ (wI (i := 14) (by decide +kernel))) (hs _ (by decide +kernel)) (fun a ha => Nat.not_le.mpr ha)
  · exact va_Nc.of (hs _ (by decide +kernel))
  · exact va_Nc.of (hs _ (by decide +kernel))
