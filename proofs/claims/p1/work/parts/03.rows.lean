/-! Rows of the ghost layer: ends -/
section GB
variable {cl : List vw_C} {E : gE} {Y : gY} {d : Nat} {G0 G : gS} {Q : gO → gS → Prop} {pc : Nat} {lv lv' : List (Nat × Value)} {st : List Value}
theorem g_iret {v : Int32} (hr : Y.2.2.2.1 = some .int) (hdg : decode Y.2.1 pc = .ok (.ireturn, 1)) (hq : Q (.inl (some (.int v))) G) : GTc cl E Y d G0 pc lv (.int v :: []) G Q := by
  intro p l e s m args below meth c C H locs ls hM hL h1 h2 hl T hT X
  obtain ⟨hx, hb, hml, hown, hE, hret, hlocks, htab, hnm, hM0, htr⟩ := C
  rw [hr] at hret
  obtain ⟨fs, hrt, hrun, hended, hW, hframe⟩ := X.leave (v := some (.int v)) (fun h => by rw [hret] at h; cases h)
  have hmeth' : T.vm.method? m = some meth := X.method'
  refine ⟨T.setFrames fs, ?_, .returned (some (.int v)), hrun, hended, .inl (some (.int v)), G, locs, hq, rfl, by show gMatch cl E G T.heap; rw [hT]; exact hM, h1, h2, ⟨hW, hframe⟩, hL⟩
  jvm_step X.here [X.here.top, hx, hb, hdg, hmeth', hret, narrow]
  (try refine ⟨rfl, ?_⟩); (try refine ⟨rfl, ?_⟩)
  first | (intro acts; rw [hrt _ acts rfl rfl rfl]) | rw [hrt _ _ rfl rfl rfl]
  exact Steps.refl _
theorem g_zret {v : Int32} (hr : Y.2.2.2.1 = some .boolean) (hv : narrow .boolean (.int v) = .int v) (hdg : decode Y.2.1 pc = .ok (.ireturn, 1)) (hq : Q (.inl (some (.int v))) G) : GTc cl E Y d G0 pc lv (.int v :: []) G Q := by
  intro p l e s m args below meth c C H locs ls hM hL h1 h2 hl T hT X
  obtain ⟨hx, hb, hml, hown, hE, hret, hlocks, htab, hnm, hM0, htr⟩ := C
  rw [hr] at hret
  obtain ⟨fs, hrt, hrun, hended, hW, hframe⟩ := X.leave (v := some (.int v)) (fun h => by rw [hret] at h; cases h)
  have hmeth' : T.vm.method? m = some meth := X.method'
  refine ⟨T.setFrames fs, ?_, .returned (some (.int v)), hrun, hended, .inl (some (.int v)), G, locs, hq, rfl, by show gMatch cl E G T.heap; rw [hT]; exact hM, h1, h2, ⟨hW, hframe⟩, hL⟩
  jvm_step X.here [X.here.top, hx, hb, hdg, hmeth', hret, hv]
  (try refine ⟨rfl, ?_⟩); (try refine ⟨rfl, ?_⟩)
  first | (intro acts; rw [hrt _ acts rfl rfl rfl]) | rw [hrt _ _ rfl rfl rfl]
  exact Steps.refl _
theorem g_vret (hr : Y.2.2.2.1 = none) (hdg : decode Y.2.1 pc = .ok (.return_, 1)) (hq : Q (.inl none) G) : GTc cl E Y d G0 pc lv [] G Q := by
  intro p l e s m args below meth c C H locs ls hM hL h1 h2 hl T hT X
  obtain ⟨hx, hb, hml, hown, hE, hret, hlocks, htab, hnm, hM0, htr⟩ := C
  rw [hr] at hret
  obtain ⟨fs, hrt, hrun, hended, hW, hframe⟩ := X.leave (v := none) (fun _ => rfl)
  have hmeth' : T.vm.method? m = some meth := X.method'
  refine ⟨T.setFrames fs, ?_, .returned none, hrun, hended, .inl none, G, locs, hq, rfl, by show gMatch cl E G T.heap; rw [hT]; exact hM, h1, h2, ⟨hW, hframe⟩, hL⟩
  jvm_step X.here [X.here.top, hx, hb, hdg, hmeth', hret]
  (try refine ⟨rfl, ?_⟩); (try refine ⟨rfl, ?_⟩)
  first | (intro acts; rw [hrt _ acts rfl rfl rfl]) | rw [hrt _ _ rfl rfl rfl]
  exact Steps.refl _
theorem g_aret {v : Value} {rt : FieldType} (hr : Y.2.2.2.1 = some rt) (hrt : (∃ n, rt = .object n) ∨ ∃ t, rt = .array t) (hv : v = .null ∨ ∃ a, v = .ref a) (hdg : decode Y.2.1 pc = .ok (.areturn, 1)) (hq : Q (.inl (some v)) G) : GTc cl E Y d G0 pc lv (v :: []) G Q := by
  intro p l e s m args below meth c C H locs ls hM hL h1 h2 hl T hT X
  obtain ⟨hx, hb, hml, hown, hE, hret, hlocks, htab, hnm, hM0, htr⟩ := C
  rw [hr] at hret
  obtain ⟨fs, hrt', hrun, hended, hW, hframe⟩ := X.leave (v := some v) (fun h => by rw [hret] at h; cases h)
  have hmeth' : T.vm.method? m = some meth := X.method'
  refine ⟨T.setFrames fs, ?_, .returned (some v), hrun, hended, .inl (some v), G, locs, hq, rfl, by show gMatch cl E G T.heap; rw [hT]; exact hM, h1, h2, ⟨hW, hframe⟩, hL⟩
  rcases hrt with ⟨n, rfl⟩ | ⟨t, rfl⟩ <;> rcases hv with rfl | ⟨a, rfl⟩ <;>
    (jvm_step X.here [X.here.top, hx, hb, hdg, hmeth', hret]
     (try refine ⟨rfl, ?_⟩); (try refine ⟨rfl, ?_⟩)
     first | (intro acts; rw [hrt' _ acts rfl rfl rfl]) | rw [hrt' _ _ rfl rfl rfl]
     exact Steps.refl _)
end GB
