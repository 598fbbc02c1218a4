/-! Numbers that are wished, in their order -/
section BF
def ins (v : Int32) : List Int32 → List Int32
  | [] => [v]
  | x :: r => if x < v then x :: ins v r else if x = v then x :: r else v :: x :: r
def aSrt : List Int32 → List Int32 → List Int32
  | S, [] => S
  | S, v :: r => aSrt (ins v S) r
/-- rising -/
def ris (S : List Int32) : Prop := S.Pairwise (· < ·)
theorem i_lt {x y : Int32} : x < y ↔ x.toInt < y.toInt := Int32.lt_iff_toInt_lt
theorem i_le {x y : Int32} : x ≤ y ↔ x.toInt ≤ y.toInt := Int32.le_iff_toInt_le
theorem i_eq {x y : Int32} : x = y ↔ x.toInt = y.toInt := ⟨fun h => by rw [h], fun h => Int32.toInt_inj.mp h⟩
theorem ins_mem {v w : Int32} : ∀ {S : List Int32}, w ∈ ins v S ↔ w = v ∨ w ∈ S
  | [] => by simp [ins]
  | x :: r => by
    simp only [ins]
    split
    · rw [List.mem_cons, ins_mem (S := r), List.mem_cons]
      constructor
      · rintro (h | h | h)
        · exact Or.inr (Or.inl h)
        · exact Or.inl h
        · exact Or.inr (Or.inr h)
      · rintro (h | h | h)
        · exact Or.inr (Or.inl h)
        · exact Or.inl h
        · exact Or.inr (Or.inr h)
    · split
      · rename_i e
        subst e
        constructor
        · exact Or.inr
        · rintro (h | h)
          · rw [h]
            exact List.mem_cons_self
          · exact h
      · exact List.mem_cons
theorem ins_ris {v : Int32} : ∀ {S : List Int32}, ris S → ris (ins v S)
  | [], _ => List.pairwise_singleton _ _
  | x :: r, h => by
    obtain ⟨h1, h2⟩ := List.pairwise_cons.mp h
    simp only [ins]
    split
    · rename_i e
      refine List.pairwise_cons.mpr ⟨fun w hw => ?_, ins_ris h2⟩
      rcases ins_mem.mp hw with rfl | hw
      · exact e
      · exact h1 w hw
    · split
      · exact h
      · rename_i e1 e2
        refine List.pairwise_cons.mpr ⟨fun w hw => ?_, h⟩
        have hvx : v < x := by
          rw [i_lt] at e1 ⊢
          rw [i_eq] at e2
          omega
        rcases List.mem_cons.mp hw with rfl | hw
        · exact hvx
        · have := h1 w hw
          rw [i_lt] at this hvx ⊢
          omega
theorem aSrt_mem {w : Int32} : ∀ {l S : List Int32}, w ∈ aSrt S l ↔ w ∈ S ∨ w ∈ l
  | [], S => by simp [aSrt]
  | v :: r, S => by
    simp only [aSrt]
    rw [aSrt_mem, ins_mem, List.mem_cons]
    constructor
    · rintro ((h | h) | h)
      · exact Or.inr (Or.inl h)
      · exact Or.inl h
      · exact Or.inr (Or.inr h)
    · rintro (h | h | h)
      · exact Or.inl (Or.inr h)
      · exact Or.inl (Or.inl h)
      · exact Or.inr h
theorem aSrt_ris : ∀ {l S : List Int32}, ris S → ris (aSrt S l)
  | [], _, h => h
  | v :: r, S, h => aSrt_ris (l := r) (S := ins v S) (ins_ris h)
theorem ins_len {v : Int32} : ∀ {S : List Int32}, (ins v S).length ≤ S.length + 1
  | [] => Nat.le_refl _
  | x :: r => by
    simp only [ins]
    split
    · have := ins_len (v := v) (S := r)
      simp only [List.length_cons]
      omega
    · split <;> simp
theorem aSrt_len : ∀ {l S : List Int32}, (aSrt S l).length ≤ S.length + l.length
  | [], S => by simp [aSrt]
  | v :: r, S => by
    have h1 := aSrt_len (l := r) (S := ins v S)
    have h2 := ins_len (v := v) (S := S)
    simp only [aSrt, List.length_cons]
    omega
/-- the reference's search for the next one: y, all; best and whether there is one -/
def abF (y al : Int32) : Int32 × Int32 → List Int32 → Int32 × Int32
  | b, [] => b
  | b, v :: r => abF y al (if al = 0 ∧ v ≤ y then b else if ¬ b.2 = 0 ∧ b.1 ≤ v then b else (v, 1)) r
/-- b is the least of those that count, if there is one -/
def isM (y al : Int32) (b : Int32 × Int32) (l : List Int32) : Prop := (b = (0, 0) ∧ ∀ v ∈ l, al = 0 ∧ v ≤ y) ∨ (b.2 = 1 ∧ b.1 ∈ l ∧ ¬ (al = 0 ∧ b.1 ≤ y) ∧ ∀ v ∈ l, (al = 0 ∧ v ≤ y) ∨ b.1 ≤ v)
theorem abF_is {y al : Int32} : ∀ (l l0 : List Int32) (b : Int32 × Int32), isM y al b l0 → isM y al (abF y al b l) (l0 ++ l)
  | [], l0, b, h => by rw [List.append_nil]; exact h
  | v :: r, l0, b, h => by
    have e : l0 ++ v :: r = (l0 ++ [v]) ++ r := by simp
    rw [e]
    simp only [abF]
    refine abF_is r (l0 ++ [v]) _ ?_
    by_cases c1 : al = 0 ∧ v ≤ y
    · rw [if_pos c1]
      rcases h with ⟨rfl, h⟩ | ⟨h1, h2, h3, h4⟩
      · refine Or.inl ⟨rfl, fun w hw => ?_⟩
        rcases List.mem_append.mp hw with hw | hw
        · exact h w hw
        · rcases List.mem_singleton.mp hw with rfl
          exact c1
      · refine Or.inr ⟨h1, List.mem_append_left _ h2, h3, fun w hw => ?_⟩
        rcases List.mem_append.mp hw with hw | hw
        · exact h4 w hw
        · rcases List.mem_singleton.mp hw with rfl
          exact Or.inl c1
    · rw [if_neg c1]
      by_cases c2 : ¬ b.2 = 0 ∧ b.1 ≤ v
      · rw [if_pos c2]
        rcases h with ⟨rfl, h⟩ | ⟨h1, h2, h3, h4⟩
        · exact absurd rfl c2.1
        · refine Or.inr ⟨h1, List.mem_append_left _ h2, h3, fun w hw => ?_⟩
          rcases List.mem_append.mp hw with hw | hw
          · exact h4 w hw
          · rcases List.mem_singleton.mp hw with rfl
            exact Or.inr c2.2
      · rw [if_neg c2]
        refine Or.inr ⟨rfl, List.mem_append_right _ List.mem_cons_self, c1, fun w hw => ?_⟩
        rcases List.mem_append.mp hw with hw | hw
        · rcases h with ⟨rfl, h⟩ | ⟨h1, h2, h3, h4⟩
          · exact Or.inl (h w hw)
          · rcases h4 w hw with q | q
            · exact Or.inl q
            · refine Or.inr ?_
              have : ¬ b.1 ≤ v := fun z => c2 ⟨by rw [h1]; decide, z⟩
              rw [i_le] at this q ⊢
              show v.toInt ≤ w.toInt
              omega
        · rcases List.mem_singleton.mp hw with rfl
          exact Or.inr (Int32.le_refl _)
theorem abF_all {l : List Int32} : abF 0 1 (0, 0) l = match aSrt [] l with
    | [] => (0, 0)
    | x :: _ => (x, 1) := by
  have h := abF_is (y := 0) (al := 1) l [] (0, 0) (Or.inl ⟨rfl, fun v hv => by cases hv⟩)
  rw [List.nil_append] at h
  cases hS : aSrt [] l with
  | nil =>
    rcases h with ⟨h, -⟩ | ⟨h1, h2, -⟩
    · exact h
    · have := aSrt_mem (w := (abF 0 1 (0, 0) l).1) (l := l) (S := []) |>.mpr (Or.inr h2)
      rw [hS] at this
      cases this
  | cons x r =>
    have hr : ris (x :: r) := by rw [← hS]; exact aSrt_ris List.Pairwise.nil
    have hx : x ∈ l := by
      have := aSrt_mem (w := x) (l := l) (S := []) |>.mp (by rw [hS]; exact List.mem_cons_self)
      rcases this with h | h
      · cases h
      · exact h
    rcases h with ⟨-, h⟩ | ⟨h1, h2, h3, h4⟩
    · exact absurd (h x hx).1 (by decide)
    · have e1 : (abF 0 1 (0, 0) l).1 ≤ x := by
        rcases h4 x hx with q | q
        · exact absurd q.1 (by decide)
        · exact q
      have e2 : x ≤ (abF 0 1 (0, 0) l).1 := by
        have := aSrt_mem (w := (abF 0 1 (0, 0) l).1) (l := l) (S := []) |>.mpr (Or.inr h2)
        rw [hS] at this
        rcases List.mem_cons.mp this with q | q
        · rw [q]
          exact Int32.le_refl _
        · have := (List.pairwise_cons.mp hr).1 _ q
          exact Int32.le_of_lt this
      refine Prod.ext ?_ h1
      show (abF 0 1 (0, 0) l).1 = x
      rw [i_eq]
      rw [i_le] at e1 e2
      omega
theorem abF_next {l S1 S2 : List Int32} {x : Int32} (hS : aSrt [] l = S1 ++ x :: S2) : abF x 0 (0, 0) l = match S2 with
    | [] => (0, 0)
    | z :: _ => (z, 1) := by
  have h := abF_is (y := x) (al := 0) l [] (0, 0) (Or.inl ⟨rfl, fun v hv => by cases hv⟩)
  rw [List.nil_append] at h
  have hr : ris (S1 ++ x :: S2) := by rw [← hS]; exact aSrt_ris List.Pairwise.nil
  obtain ⟨hr1, hr2, hr3⟩ := List.pairwise_append.mp hr
  obtain ⟨hr4, hr5⟩ := List.pairwise_cons.mp hr2
  have mem : ∀ v, v ∈ l ↔ v ∈ S1 ++ x :: S2 := fun v => by
    rw [← hS, aSrt_mem]
    constructor
    · exact Or.inr
    · rintro (q | q)
      · cases q
      · exact q
  have big : ∀ v, v ∈ l → ¬ v ≤ x → v ∈ S2 := fun v hv hx => by
    rcases List.mem_append.mp ((mem v).mp hv) with q | q
    · exact absurd (Int32.le_of_lt (hr3 v q x List.mem_cons_self)) hx
    · rcases List.mem_cons.mp q with q | q
      · exact absurd (by rw [q]; exact Int32.le_refl _) hx
      · exact q
  cases S2 with
  | nil =>
    rcases h with ⟨h, -⟩ | ⟨h1, h2, h3, -⟩
    · exact h
    · have := big _ h2 (fun q => h3 ⟨rfl, q⟩)
      cases this
  | cons z r =>
    have hz : z ∈ l := (mem z).mpr (by simp)
    have hxz : ¬ z ≤ x := fun q => by
      have := hr4 z List.mem_cons_self
      rw [i_le] at q
      rw [i_lt] at this
      omega
    rcases h with ⟨-, h⟩ | ⟨h1, h2, h3, h4⟩
    · exact absurd (h z hz).2 hxz
    · have e1 : (abF x 0 (0, 0) l).1 ≤ z := by
        rcases h4 z hz with q | q
        · exact absurd q.2 hxz
        · exact q
      have e2 : z ≤ (abF x 0 (0, 0) l).1 := by
        have := big _ h2 (fun q => h3 ⟨rfl, q⟩)
        rcases List.mem_cons.mp this with q | q
        · rw [q]
          exact Int32.le_refl _
        · exact Int32.le_of_lt ((List.pairwise_cons.mp hr5).1 _ q)
      refine Prod.ext ?_ h1
      show (abF x 0 (0, 0) l).1 = z
      rw [i_eq]
      rw [i_le] at e1 e2
      omega
end BF
