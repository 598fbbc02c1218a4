/-! The claim out of the law's contract -/
section EN
theorem lw_same {s t : State} {L : List Loc} {k n k' n' : Nat} (h : s.sameButNew t L k n) (hL : ∀ q ∈ L, s.heap.size ≤ q.base) (hk : k ≤ k') (hn : n ≤ n') : s.sameButNew t [] k' n' := by
  obtain ⟨h1, h2, h3, h4, h5, h6⟩ := h
  refine ⟨h1, h2, by omega, h4, by omega, fun a c hc => ?_⟩
  obtain ⟨c', g1, g2, g3, g4⟩ := h6 a c hc
  refine ⟨c', g1, g2, g3, fun i _ => g4 i (fun hm => ?_)⟩
  have q1 : s.heap.size ≤ a := hL _ hm
  have q2 := (Array.getElem?_eq_some_iff.mp hc).1
  omega
theorem lw_room {s : State} {pl : Platform} {r r' : Room} (hf : r.frames ≤ r'.frames) (hl : r.locals ≤ r'.locals) (hc : r.cells ≤ r'.cells) (hs : r.slots ≤ r'.slots) (h : s.hasRoom pl r' = true) : s.hasRoom pl r = true := by
  simp only [State.hasRoom, Bool.and_eq_true, decide_eq_true_eq] at h ⊢
  obtain ⟨⟨⟨⟨y, a, b, c, d, e⟩, f⟩, g⟩, i⟩ := h
  exact ⟨⟨⟨⟨by omega, by omega, by omega, by omega, by omega, e⟩, by omega⟩, by omega⟩, i⟩
def lw_Q (_ : Array Value) (s : State) (o : Outcome) (t : State) : Prop := o = .returned (some (.int 1)) ∧ Framed s o t [] 601024 7293034
theorem lw_pre_spec {args : Array Value} {s : State} (h : (Jvm.Cond.and given_1 narrow_1).before args s = true) (hr : rest_1_c.before args s = true) : ∃ (b : Addr) (xs : List Int32), args = #[.ref b] ∧ s.IntsAt b xs ∧ xs.length ≤ 2048 := by
  have hs := flat_of_before _ h
  have hq := flat_of_before _ hr
  have hc : (Cond.count 1).before args s = true := hs _ (by decide +kernel)
  have harr : (Cond.arrayOf (.arg 0) .int).before args s = true := hs _ (by decide +kernel)
  have hle : (Cond.le (.length (.arg 0)) (.int 2048)).before args s = true := hs _ (by decide +kernel)
  have hlen : (Cond.isInt (.length (.arg 0))).before args s = true := hq _ (by decide +kernel)
  have hall : (Cond.all (.arg 0) (.isInt (.elem (.arg 0) (.index 0)))).before args s = true := hq _ (by decide +kernel)
  obtain ⟨b, xs, hb, hx⟩ := State.ints_of_pre rfl harr hlen hall
  have hsm : xs.length < 2 ^ 31 := hx.choose_spec.2.2.2
  have hev : (Term.length (.arg 0)).eval args s none [] s = some (.int xs.length.toInt32) := hx.length_eval hb
  have hv := Cond.le_ints hev (show (Term.int 2048).eval args s none [] s = some (.int 2048) from rfl)
  have hd : xs.length.toInt32 ≤ 2048 := by
    simpa [Cond.before, Cond.holds, hv] using hle
  have hN : xs.length ≤ 2048 := (Int32.ofNat_le_ofNat hsm (by decide)).mp (show Int32.ofNat xs.length ≤ Int32.ofNat 2048 from hd)
  exact ⟨b, xs, Cond.one_arg hc (show args[0]? = some (.ref b) from hb), hx, hN⟩
set_option maxHeartbeats 1000000 in
set_option maxRecDepth 100000 in
theorem lw_comes (l : Launch) (hl : l.stackTraces = false) : Comes l x (Jvm.Cond.code x code maxLocals ret :: tables_1) room_1 (fun tb e args s => Calls_1 tb e args s ∧ rest_1 tb e args s ∧ Pre_1 tb e args s)
    (fun _ _ args s o t => lw_Q args s o t) := by
  intro p e ha hc hk s m args below hf hfit hheap happ hpre
  obtain ⟨b, xs, rfl, hx, hbd⟩ := lw_pre_spec hpre.2.2 hpre.2.1
  have hlo := ((Spec.applies_iff_loose hf).mp happ).1
  obtain ⟨a1, a2, a3, a4, a5, a6, a7, a8⟩ := (Spec.appliesLoose_iff hf).mp hlo
  have hts0 : ∀ c ∈ (Jvm.Cond.code x code maxLocals ret :: tables_1), c.before #[Value.ref b] s = true := atoms_spec (ws := Jvm.Cond.code x code maxLocals ret :: tables_1) a8
  have hts : ∀ w ∈ lw_tbl, w.before #[Value.ref b] s = true := k2_hts_sels lw_privs (fun w hw => hts0 w (List.mem_cons_of_mem _ hw)) lw_privs_ok
  obtain ⟨E, hE, hB⟩ := law_base hts hpre.2.2
  obtain ⟨scr, harrAt, hlist, hof, hsmall⟩ := hx
  obtain ⟨hcb, hkn, -, -⟩ := State.arrayAt?_spec harrAt
  have hsz : scr.slots.size = xs.length := by rw [← Array.length_toList, hlist, List.length_map]
  have hval : ∀ j : Nat, j < xs.length → scr.slots[j]? = some (.int (xs.getD j 0)) := fun j hj => by
    rw [← Array.getElem?_toList, hlist]
    simp [hj]
  have hbl : b < s.heap.size := (Array.getElem?_eq_some_iff.mp hcb).1
  have hX : va_X b xs.length (fun j => xs.getD j 0) s s.heap := ⟨scr, hcb, hof, hkn, hsz, hval⟩
  have hS : gScr E b xs.length (fun j => xs.getD j 0) := by
    unfold gScr
    rw [hE]
    exact ⟨hX, hbl⟩
  have K := law_all hB hS hbd l hl
  have hw : (headSpec [gWord Y_law] (gRoom E 100 (g00 E))).appliesLoose x e.platform s = true := by
    refine (Spec.appliesLoose_iff hf).mpr ⟨a1, a2, a3, a4, a5, a6, ?_, ?_⟩
    · refine lw_room ?_ ?_ ?_ ?_ a7
      · show 100 ≤ 2048
        decide
      · show 60 * 100 ≤ 84000
        decide
      · show 601024 - _ ≤ 601024
        omega
      · show 7293034 - _ ≤ 7293034
        omega
    · refine atoms_intro (fun c hc => ?_)
      rcases List.mem_singleton.mp hc with rfl
      exact hts0 _ List.mem_cons_self
  have hP : gPre gCl E (g00 E) [.ref b] #[.ref b] s := by
    refine ⟨rfl, ⟨hB, ?_⟩, ?_, ?_, ?_, ?_, ?_, ?_⟩
    · rw [hE]
      exact State.WarmedH.refl s
    · show s.heap.size = E.1.heap.size
      rw [hE]
    · exact Nat.le_refl _
    · intro a y h
      cases h
    · intro q _
      rw [hE]
    · show E.1.heap.size ≤ _
      omega
    · exact Nat.zero_le _
  obtain ⟨k, o, q1, q2, q3, out, G', L, w1, w2, w3, w4, w5, ⟨w6, w7⟩, w8⟩ := K p e ha hc hk s m #[.ref b] below hf hw hP trivial
  refine ⟨k, o, q1, q2, q3, ?_⟩
  have w1' : out = .inl (some (.int 1)) := w1
  subst w1'
  have w2' : o = .returned (some (.int 1)) := w2
  subst w2'
  refine ⟨rfl, ⟨_, rfl⟩, w6, lw_same w7 (by rw [← hE]; exact w8) ?_ ?_⟩
  · have := w3.2.2.2.2.1
    show G'.2.1 - E.1.heap.size ≤ 601024
    have r : room_1.cells = 601024 := rfl
    omega
  · have := w3.2.2.2.2.2
    show G'.2.2 - 0 ≤ 7293034
    have r : room_1.slots = 7293034 := rfl
    omega
theorem lw_frame {s t : State} {o : Outcome} {args : Array Value} (h : Framed s o t [] 601024 7293034) :
    Framed s o t (fieldLocs frame_1_writes args s ++ arrayLocs frame_1_arrays args s ++ staticLocs frame_1_statics s) 601024 7293034 := h
theorem lw_limb (L : Cond) (hL : ∀ (args : Array Value) (s t : State), L.after args s (.returned (some (.int 1))) t = true) :
    ArmFor flags0 classFile x code maxLocals ret World_1 tables_1 room_1 Calls_1 rest_1 Pre_1
      (fun tb e a s o t => postC L tb e a s o t ∧ Framed s o t (fieldLocs frame_1_writes a s ++ arrayLocs frame_1_arrays a s ++ staticLocs frame_1_statics s) 601024 7293034) := by
  intro l hfl _ _ p e ha hc hk s m args below hf hfit hheap happ hpre
  have hl : l.stackTraces = false := by
    unfold Launch.stackTraces
    rw [hfl]
    decide
  obtain ⟨k, o, h1, h2, h3, rfl, hF⟩ := lw_comes l hl p e ha hc hk s m args below hf hfit hheap happ hpre
  exact ⟨k, _, h1, h2, h3, hL args s _, lw_frame hF⟩
end EN
theorem i_vc : Claimed_1_1 ∧ Claimed_1_2 := ⟨lw_limb limb_1_1 (fun args s t => by simp [limb_1_1, Cond.after, Cond.holds, Cond.value]), lw_limb limb_1_2 (fun args s t => Cond.after_iff.mpr (by
  first | (rw [show limb_1_2 = Cond.eq .result (.int 1) from rfl, Cond.eq_ints (x := 1) (y := 1) rfl rfl]; simp; done) | (simp [limb_1_2, Cond.value, Term.eval]; done)))⟩
