/-! Rows of the ghost layer: a call whose exceptions this method's own table catches -/
section GH
variable {cl : List vw_C} {E : gE} {Y Y' : gY} {d : Nat} {G0 G : gS} {Q Qc : gO → gS → Prop} {pc : Nat} {lv lv' : List (Nat × Value)} {st rest as : List Value}
/-- an exception of the class D is caught at 'tgt': by the first row, or behind a row that names a class that it isn't -/
def gCaught (Y : gY) (pc : Nat) (E : gE) (D : String) (tgt : Nat) : Prop :=
  ∃ (pre suf : List (Nat × Nat × Nat × Nat)) (x : Nat × Nat × Nat × Nat), Y.2.2.2.2 = pre ++ x :: suf ∧ x.2.2.1 = tgt ∧ x.1 ≤ pc ∧ pc < x.2.1 ∧ x.2.2.2 ≠ 0 ∧ Cond.classLink Y.1.cls x.2.2.2 D ∈ lw_tbl ∧ Cond.castable D D ∈ lw_tbl ∧
    ∀ z ∈ pre, z.2.2.2 ≠ 0 ∧ ∃ nm : String, Cond.classLink Y.1.cls z.2.2.2 nm ∈ lw_tbl ∧ va_Nc D nm E.1
theorem g_callVH {b ci index N : Nat} {K : String} {T : u_T} {fs : List Value} (hM : GMc cl E Y' d (.ref b :: as) G Qc) (ha : G.1 b = some (.inr (ci, fs))) (hc : cl[ci]? = some (K, T, N)) (hw1 : Cond.methodLink Y.1.cls index Y'.1 ∈ lw_tbl) (hw2 : Cond.instanceMethod Y'.1 ∈ lw_tbl) (hw3 : Cond.selects K Y'.1 Y'.1 ∈ lw_tbl) (hw4 : gWord Y' ∈ lw_tbl) (hgw : gWarm (gWord Y') = true) (hw5 : Cond.initialized Y'.1.cls ∈ lw_tbl)
    (hy : Y'.1.cls ≠ "java/lang/invoke/MethodHandle" ∧ Y'.1.cls ≠ "java/lang/invoke/VarHandle") (hpar : (parseMethodDescriptor Y'.1.desc).map (fun d => d.parameters.length) = some as.length) (hmax : Y'.2.2.1 ≤ 41) (hst : st = as.reverse ++ .ref b :: rest) (hW : (rest.map fun v => v.category).sum ≤ 8) (hdg : decode Y.2.1 pc = .ok (.invokevirtual index, 3))
    (kr : ∀ v G', Qc (.inl v) G' → GTc cl E Y (d + 1) G0 (pc + 3) lv (v.toList ++ rest) G' Q)
    (kt : gBase cl E → ∀ D G', Qc (.inr D) G' → ∃ tgt, gCaught Y pc E D tgt ∧ ∀ q : Nat, GTc cl E Y (d + 1) G0 tgt lv [.ref q] G' Q) : GTc cl E Y (d + 1) G0 pc lv st G Q := by
  intro p l e s m args below meth c C H locs ls hM1 hL h1 h2 hl T hT X
  obtain ⟨hx, hb, hml, hown, hE, hret, hlocks, htab, hnm, hM0, htr⟩ := id C
  obtain ⟨mk, methM, hnamed, hmethM, hstM, habM⟩ := Cond.instanceMethod_spec (hE.word hw2 rfl args)
  obtain ⟨methM', cM, hmethM', -, -, -, -, -, -, hsigM⟩ := gWord_spec hnamed (hE.word hw4 hgw args)
  cases hmethM.symm.trans hmethM'
  obtain ⟨c2, r2, m2, q1, q2, q3, q4, kP, hkP, hkPi⟩ := Cond.selects_spec (hE.word hw3 rfl args)
  obtain ⟨r, g1, cellB, k1, k2, k3, -⟩ := (hM1.2.2.1 b _ ha).2
  have hr : r = (K, _, N) := Option.some.inj (g1.symm.trans hc)
  subst hr
  have hcls : s.vm.findClass K = some cellB.cls := by rw [k2]; exact (hE.K.1 ci _ hc).2.1
  cases hcls.symm.trans q1
  cases (State.methodFound?_of_named hnamed hy).symm.trans q2
  cases hnamed.symm.trans q3
  have hselP : selectMethod e.platform s.vm cellB.cls mk = .method mk := by rw [Launch.admits_selectMethod X.admits]; exact q4
  have hlen : as.length = methM.sig.parameters.length := by
    rw [hsigM] at hpar
    exact (Option.some.inj hpar).symm
  obtain ⟨vm₁, X₁, hstep₁⟩ := X.invokevirtual C.1 C.2.2.2.1 (hE.word hw1 rfl args) hnamed hmethM hstM hkP hkPi hy (a := b) (cell := cellB) (by rw [hT]; exact k1)
    (fun z h => by rw [k3] at h; cases h) hselP hmethM habM hkP hkPi (g := F0 m pc ls st) rfl (argsL := as) (rest := rest) hlen hst (by rw [C.2.1]; exact hdg)
  obtain ⟨out, G', B, L, a1, X', a2, a3, a4, a5, a6, a7, a8⟩ := g_run (T := T.setVm vm₁) hM htr X₁ (by show gMatch cl E G T.heap; rw [hT]; exact hM1) hE h1 h2 hM0.2.1 hL (g := F0 m pc ls rest) (ig := .invokevirtual index) (mk := mk) rfl (by rw [hml]; exact hl.1.1) (by rw [hb]; exact hdg) (by show 2 * 0 + (rest.map fun v => v.category).sum ≤ 8; omega) hmax (X₁.named hnamed) hw4 hgw hw5
  cases out with
  | inl v =>
    obtain ⟨t, b1, b2⟩ := kr v G' a1 p l e s m args below meth c C B.heap (locs ++ L) ls a2 a3 a4 a5 hl B rfl X'
    exact ⟨t, hstep₁ _ fun acts => by rw [doInvoke_state]; exact a8.trans b1, b2⟩
  | inr D =>
    obtain ⟨x, cell, c1, c2, c3, c4⟩ := a8
    obtain ⟨tgt, ⟨pre, suf, row, e1, e2, e3, e4, e5, e6, e7, e8⟩, kk⟩ := kt hE.1 D G' a1
    have hpl : e.platform.magicAccessors = ({} : Platform).magicAccessors := by rw [X'.admits.platform]
    obtain ⟨c5, f5, f6⟩ := Cond.classLink_spec hown (hE.word e6 rfl args) e.platform hpl
    obtain ⟨c7, c8, f7, f8, f9⟩ := Cond.castable_spec (hE.word e7 rfl args)
    cases Option.some.inj (f7.symm.trans c3)
    cases Option.some.inj (f8.symm.trans f5)
    obtain ⟨vm', X2, st2⟩ := gx_caught X' x (g := F0 m pc ls rest) rfl c1 c2 (by obtain ⟨k9, h9, -⟩ := Vm.findClass_spec c3; exact ⟨k9, h9⟩) (tableOf pre) ⟨row.1, row.2.1, row.2.2.1, row.2.2.2⟩ (tableOf suf) (by rw [htab, e1]; simp [tableOf])
      (fun z hz => by
        obtain ⟨w, hw, rfl⟩ := List.mem_map.mp hz
        obtain ⟨w0, nm, w1, w2⟩ := e8 w hw
        obtain ⟨c6, hc6, hcl6⟩ := Cond.classLink_spec hown (hE.word w1 rfl args) e.platform hpl
        obtain ⟨a9, b9, j1, j2, j3⟩ := va_Nc.moved hE.2.alike w2
        cases Option.some.inj (j1.symm.trans c3)
        cases Option.some.inj (j2.symm.trans hc6)
        exact Or.inr ⟨w0, _, hcl6, j3⟩)
      (by simp [covers, e3, e4]) e5 f6 f9
    obtain ⟨t, b1, b2⟩ := kk x p l e s m args below meth c C B.heap (locs ++ L) ls a2 a3 a4 a5 hl (B.setVm vm') rfl X2
    rw [← e2] at b1
    exact ⟨t, hstep₁ _ fun acts => by rw [doInvoke_state]; exact c4.trans (st2 _ b1), b2⟩
end GH
