/-! Tree: numbers that are kept; what an answer means -/
theorem d_Tree_keepNumber_0 : decode Y_Tree_keepNumber.2.1 0 = .ok (.iload_n 1, 1) := by decide +kernel
theorem d_Tree_keepNumber_1 : decode Y_Tree_keepNumber.2.1 1 = .ok (.istore_n 3, 1) := by decide +kernel
theorem d_Tree_keepNumber_2 : decode Y_Tree_keepNumber.2.1 2 = .ok (.iload_n 3, 1) := by decide +kernel
theorem d_Tree_keepNumber_3 : decode Y_Tree_keepNumber.2.1 3 = .ok (.aload_n 0, 1) := by decide +kernel
theorem d_Tree_keepNumber_4 : decode Y_Tree_keepNumber.2.1 4 = .ok (.getfield 93, 3) := by decide +kernel
theorem d_Tree_keepNumber_7 : decode Y_Tree_keepNumber.2.1 7 = .ok (.if_icmp .ge 19, 3) := by decide +kernel
theorem d_Tree_keepNumber_10 : decode Y_Tree_keepNumber.2.1 10 = .ok (.aload_n 0, 1) := by decide +kernel
theorem d_Tree_keepNumber_11 : decode Y_Tree_keepNumber.2.1 11 = .ok (.getfield 32, 3) := by decide +kernel
theorem d_Tree_keepNumber_14 : decode Y_Tree_keepNumber.2.1 14 = .ok (.iload_n 3, 1) := by decide +kernel
theorem d_Tree_keepNumber_15 : decode Y_Tree_keepNumber.2.1 15 = .ok (.iaload, 1) := by decide +kernel
theorem d_Tree_keepNumber_16 : decode Y_Tree_keepNumber.2.1 16 = .ok (.iload_n 2, 1) := by decide +kernel
theorem d_Tree_keepNumber_17 : decode Y_Tree_keepNumber.2.1 17 = .ok (.if_icmp .ge 9, 3) := by decide +kernel
theorem d_Tree_keepNumber_20 : decode Y_Tree_keepNumber.2.1 20 = .ok (.iinc 3 1, 3) := by decide +kernel
theorem d_Tree_keepNumber_23 : decode Y_Tree_keepNumber.2.1 23 = .ok (.goto (-21), 3) := by decide +kernel
theorem d_Tree_keepNumber_26 : decode Y_Tree_keepNumber.2.1 26 = .ok (.iload_n 3, 1) := by decide +kernel
theorem d_Tree_keepNumber_27 : decode Y_Tree_keepNumber.2.1 27 = .ok (.aload_n 0, 1) := by decide +kernel
theorem d_Tree_keepNumber_28 : decode Y_Tree_keepNumber.2.1 28 = .ok (.getfield 93, 3) := by decide +kernel
theorem d_Tree_keepNumber_31 : decode Y_Tree_keepNumber.2.1 31 = .ok (.if_icmp .ge 13, 3) := by decide +kernel
theorem d_Tree_keepNumber_34 : decode Y_Tree_keepNumber.2.1 34 = .ok (.aload_n 0, 1) := by decide +kernel
theorem d_Tree_keepNumber_35 : decode Y_Tree_keepNumber.2.1 35 = .ok (.getfield 32, 3) := by decide +kernel
theorem d_Tree_keepNumber_38 : decode Y_Tree_keepNumber.2.1 38 = .ok (.iload_n 3, 1) := by decide +kernel
theorem d_Tree_keepNumber_39 : decode Y_Tree_keepNumber.2.1 39 = .ok (.iaload, 1) := by decide +kernel
theorem d_Tree_keepNumber_40 : decode Y_Tree_keepNumber.2.1 40 = .ok (.iload_n 2, 1) := by decide +kernel
theorem d_Tree_keepNumber_41 : decode Y_Tree_keepNumber.2.1 41 = .ok (.if_icmp .eq 15, 3) := by decide +kernel
theorem d_Tree_keepNumber_44 : decode Y_Tree_keepNumber.2.1 44 = .ok (.aload_n 0, 1) := by decide +kernel
theorem d_Tree_keepNumber_45 : decode Y_Tree_keepNumber.2.1 45 = .ok (.getfield 93, 3) := by decide +kernel
theorem d_Tree_keepNumber_48 : decode Y_Tree_keepNumber.2.1 48 = .ok (.aload_n 0, 1) := by decide +kernel
theorem d_Tree_keepNumber_49 : decode Y_Tree_keepNumber.2.1 49 = .ok (.getfield 32, 3) := by decide +kernel
theorem d_Tree_keepNumber_52 : decode Y_Tree_keepNumber.2.1 52 = .ok (.arraylength, 1) := by decide +kernel
theorem d_Tree_keepNumber_53 : decode Y_Tree_keepNumber.2.1 53 = .ok (.if_icmp .lt 4, 3) := by decide +kernel
theorem d_Tree_keepNumber_56 : decode Y_Tree_keepNumber.2.1 56 = .ok (.return_, 1) := by decide +kernel
theorem d_Tree_keepNumber_57 : decode Y_Tree_keepNumber.2.1 57 = .ok (.aload_n 0, 1) := by decide +kernel
theorem d_Tree_keepNumber_58 : decode Y_Tree_keepNumber.2.1 58 = .ok (.getfield 93, 3) := by decide +kernel
theorem d_Tree_keepNumber_61 : decode Y_Tree_keepNumber.2.1 61 = .ok (.istore 4, 2) := by decide +kernel
theorem d_Tree_keepNumber_63 : decode Y_Tree_keepNumber.2.1 63 = .ok (.iload 4, 2) := by decide +kernel
theorem d_Tree_keepNumber_65 : decode Y_Tree_keepNumber.2.1 65 = .ok (.iload_n 3, 1) := by decide +kernel
theorem d_Tree_keepNumber_66 : decode Y_Tree_keepNumber.2.1 66 = .ok (.if_icmp .le 25, 3) := by decide +kernel
theorem d_Tree_keepNumber_69 : decode Y_Tree_keepNumber.2.1 69 = .ok (.aload_n 0, 1) := by decide +kernel
theorem d_Tree_keepNumber_70 : decode Y_Tree_keepNumber.2.1 70 = .ok (.getfield 32, 3) := by decide +kernel
theorem d_Tree_keepNumber_73 : decode Y_Tree_keepNumber.2.1 73 = .ok (.iload 4, 2) := by decide +kernel
theorem d_Tree_keepNumber_75 : decode Y_Tree_keepNumber.2.1 75 = .ok (.aload_n 0, 1) := by decide +kernel
theorem d_Tree_keepNumber_76 : decode Y_Tree_keepNumber.2.1 76 = .ok (.getfield 32, 3) := by decide +kernel
theorem d_Tree_keepNumber_79 : decode Y_Tree_keepNumber.2.1 79 = .ok (.iload 4, 2) := by decide +kernel
theorem d_Tree_keepNumber_81 : decode Y_Tree_keepNumber.2.1 81 = .ok (.iconst 1, 1) := by decide +kernel
theorem d_Tree_keepNumber_82 : decode Y_Tree_keepNumber.2.1 82 = .ok (.isub, 1) := by decide +kernel
theorem d_Tree_keepNumber_83 : decode Y_Tree_keepNumber.2.1 83 = .ok (.iaload, 1) := by decide +kernel
theorem d_Tree_keepNumber_84 : decode Y_Tree_keepNumber.2.1 84 = .ok (.iastore, 1) := by decide +kernel
theorem d_Tree_keepNumber_85 : decode Y_Tree_keepNumber.2.1 85 = .ok (.iinc 4 (-1), 3) := by decide +kernel
theorem d_Tree_keepNumber_88 : decode Y_Tree_keepNumber.2.1 88 = .ok (.goto (-25), 3) := by decide +kernel
theorem d_Tree_keepNumber_91 : decode Y_Tree_keepNumber.2.1 91 = .ok (.aload_n 0, 1) := by decide +kernel
theorem d_Tree_keepNumber_92 : decode Y_Tree_keepNumber.2.1 92 = .ok (.getfield 32, 3) := by decide +kernel
theorem d_Tree_keepNumber_95 : decode Y_Tree_keepNumber.2.1 95 = .ok (.iload_n 3, 1) := by decide +kernel
theorem d_Tree_keepNumber_96 : decode Y_Tree_keepNumber.2.1 96 = .ok (.iload_n 2, 1) := by decide +kernel
theorem d_Tree_keepNumber_97 : decode Y_Tree_keepNumber.2.1 97 = .ok (.iastore, 1) := by decide +kernel
theorem d_Tree_keepNumber_98 : decode Y_Tree_keepNumber.2.1 98 = .ok (.aload_n 0, 1) := by decide +kernel
theorem d_Tree_keepNumber_99 : decode Y_Tree_keepNumber.2.1 99 = .ok (.dup, 1) := by decide +kernel
theorem d_Tree_keepNumber_100 : decode Y_Tree_keepNumber.2.1 100 = .ok (.getfield 93, 3) := by decide +kernel
theorem d_Tree_keepNumber_103 : decode Y_Tree_keepNumber.2.1 103 = .ok (.iconst 1, 1) := by decide +kernel
theorem d_Tree_keepNumber_104 : decode Y_Tree_keepNumber.2.1 104 = .ok (.iadd, 1) := by decide +kernel
theorem d_Tree_keepNumber_105 : decode Y_Tree_keepNumber.2.1 105 = .ok (.putfield 93, 3) := by decide +kernel
theorem d_Tree_keepNumber_108 : decode Y_Tree_keepNumber.2.1 108 = .ok (.return_, 1) := by decide +kernel
theorem d_Tree_keepNumbers_0 : decode Y_Tree_keepNumbers.2.1 0 = .ok (.aload_n 1, 1) := by decide +kernel
theorem d_Tree_keepNumbers_1 : decode Y_Tree_keepNumbers.2.1 1 = .ok (.getfield 130, 3) := by decide +kernel
theorem d_Tree_keepNumbers_4 : decode Y_Tree_keepNumbers.2.1 4 = .ok (.aload_n 1, 1) := by decide +kernel
theorem d_Tree_keepNumbers_5 : decode Y_Tree_keepNumbers.2.1 5 = .ok (.getfield 195, 3) := by decide +kernel
theorem d_Tree_keepNumbers_8 : decode Y_Tree_keepNumbers.2.1 8 = .ok (.iadd, 1) := by decide +kernel
theorem d_Tree_keepNumbers_9 : decode Y_Tree_keepNumbers.2.1 9 = .ok (.istore_n 2, 1) := by decide +kernel
theorem d_Tree_keepNumbers_10 : decode Y_Tree_keepNumbers.2.1 10 = .ok (.aload_n 1, 1) := by decide +kernel
theorem d_Tree_keepNumbers_11 : decode Y_Tree_keepNumbers.2.1 11 = .ok (.getfield 130, 3) := by decide +kernel
theorem d_Tree_keepNumbers_14 : decode Y_Tree_keepNumbers.2.1 14 = .ok (.istore_n 3, 1) := by decide +kernel
theorem d_Tree_keepNumbers_15 : decode Y_Tree_keepNumbers.2.1 15 = .ok (.iload_n 3, 1) := by decide +kernel
theorem d_Tree_keepNumbers_16 : decode Y_Tree_keepNumbers.2.1 16 = .ok (.iload_n 2, 1) := by decide +kernel
theorem d_Tree_keepNumbers_17 : decode Y_Tree_keepNumbers.2.1 17 = .ok (.if_icmp .ge 55, 3) := by decide +kernel
theorem d_Tree_keepNumbers_20 : decode Y_Tree_keepNumbers.2.1 20 = .ok (.aload_n 0, 1) := by decide +kernel
theorem d_Tree_keepNumbers_21 : decode Y_Tree_keepNumbers.2.1 21 = .ok (.getfield 12, 3) := by decide +kernel
theorem d_Tree_keepNumbers_24 : decode Y_Tree_keepNumbers.2.1 24 = .ok (.iload_n 3, 1) := by decide +kernel
theorem d_Tree_keepNumbers_25 : decode Y_Tree_keepNumbers.2.1 25 = .ok (.invokevirtual 133, 3) := by decide +kernel
theorem d_Tree_keepNumbers_28 : decode Y_Tree_keepNumbers.2.1 28 = .ok (.astore 4, 2) := by decide +kernel
theorem d_Tree_keepNumbers_30 : decode Y_Tree_keepNumbers.2.1 30 = .ok (.aload 4, 2) := by decide +kernel
theorem d_Tree_keepNumbers_32 : decode Y_Tree_keepNumbers.2.1 32 = .ok (.aload_n 1, 1) := by decide +kernel
theorem d_Tree_keepNumbers_33 : decode Y_Tree_keepNumbers.2.1 33 = .ok (.getfield 75, 3) := by decide +kernel
theorem d_Tree_keepNumbers_36 : decode Y_Tree_keepNumbers.2.1 36 = .ok (.invokevirtual 233, 3) := by decide +kernel
theorem d_Tree_keepNumbers_39 : decode Y_Tree_keepNumbers.2.1 39 = .ok (.istore 5, 2) := by decide +kernel
theorem d_Tree_keepNumbers_41 : decode Y_Tree_keepNumbers.2.1 41 = .ok (.iload 5, 2) := by decide +kernel
theorem d_Tree_keepNumbers_43 : decode Y_Tree_keepNumbers.2.1 43 = .ok (.iconst (-1), 1) := by decide +kernel
theorem d_Tree_keepNumbers_44 : decode Y_Tree_keepNumbers.2.1 44 = .ok (.if_icmp .eq 22, 3) := by decide +kernel
theorem d_Tree_keepNumbers_47 : decode Y_Tree_keepNumbers.2.1 47 = .ok (.aload_n 0, 1) := by decide +kernel
theorem d_Tree_keepNumbers_48 : decode Y_Tree_keepNumbers.2.1 48 = .ok (.aload_n 1, 1) := by decide +kernel
theorem d_Tree_keepNumbers_49 : decode Y_Tree_keepNumbers.2.1 49 = .ok (.getfield 212, 3) := by decide +kernel
theorem d_Tree_keepNumbers_52 : decode Y_Tree_keepNumbers.2.1 52 = .ok (.aload 4, 2) := by decide +kernel
theorem d_Tree_keepNumbers_54 : decode Y_Tree_keepNumbers.2.1 54 = .ok (.getfield 141, 3) := by decide +kernel
theorem d_Tree_keepNumbers_57 : decode Y_Tree_keepNumbers.2.1 57 = .ok (.iload 5, 2) := by decide +kernel
theorem d_Tree_keepNumbers_59 : decode Y_Tree_keepNumbers.2.1 59 = .ok (.aaload, 1) := by decide +kernel
theorem d_Tree_keepNumbers_60 : decode Y_Tree_keepNumbers.2.1 60 = .ok (.getfield 236, 3) := by decide +kernel
theorem d_Tree_keepNumbers_63 : decode Y_Tree_keepNumbers.2.1 63 = .ok (.invokevirtual 239, 3) := by decide +kernel
theorem d_Tree_keepNumbers_66 : decode Y_Tree_keepNumbers.2.1 66 = .ok (.iinc 3 1, 3) := by decide +kernel
theorem d_Tree_keepNumbers_69 : decode Y_Tree_keepNumbers.2.1 69 = .ok (.goto (-54), 3) := by decide +kernel
theorem d_Tree_keepNumbers_72 : decode Y_Tree_keepNumbers.2.1 72 = .ok (.return_, 1) := by decide +kernel
theorem d_Tree_meaning_0 : decode Y_Tree_meaning.2.1 0 = .ok (.aload_n 1, 1) := by decide +kernel
theorem d_Tree_meaning_1 : decode Y_Tree_meaning.2.1 1 = .ok (.getfield 137, 3) := by decide +kernel
theorem d_Tree_meaning_4 : decode Y_Tree_meaning.2.1 4 = .ok (.ifCond .ne 5, 3) := by decide +kernel
theorem d_Tree_meaning_7 : decode Y_Tree_meaning.2.1 7 = .ok (.iload_n 2, 1) := by decide +kernel
theorem d_Tree_meaning_8 : decode Y_Tree_meaning.2.1 8 = .ok (.ireturn, 1) := by decide +kernel
theorem d_Tree_meaning_9 : decode Y_Tree_meaning.2.1 9 = .ok (.iload_n 2, 1) := by decide +kernel
theorem d_Tree_meaning_10 : decode Y_Tree_meaning.2.1 10 = .ok (.aload_n 1, 1) := by decide +kernel
theorem d_Tree_meaning_11 : decode Y_Tree_meaning.2.1 11 = .ok (.getfield 72, 3) := by decide +kernel
theorem d_Tree_meaning_14 : decode Y_Tree_meaning.2.1 14 = .ok (.iconst 1, 1) := by decide +kernel
theorem d_Tree_meaning_15 : decode Y_Tree_meaning.2.1 15 = .ok (.isub, 1) := by decide +kernel
theorem d_Tree_meaning_16 : decode Y_Tree_meaning.2.1 16 = .ok (.if_icmp .ge 15, 3) := by decide +kernel
theorem d_Tree_meaning_19 : decode Y_Tree_meaning.2.1 19 = .ok (.aload_n 0, 1) := by decide +kernel
theorem d_Tree_meaning_20 : decode Y_Tree_meaning.2.1 20 = .ok (.getfield 32, 3) := by decide +kernel
theorem d_Tree_meaning_23 : decode Y_Tree_meaning.2.1 23 = .ok (.aload_n 1, 1) := by decide +kernel
theorem d_Tree_meaning_24 : decode Y_Tree_meaning.2.1 24 = .ok (.getfield 212, 3) := by decide +kernel
theorem d_Tree_meaning_27 : decode Y_Tree_meaning.2.1 27 = .ok (.iload_n 2, 1) := by decide +kernel
theorem d_Tree_meaning_28 : decode Y_Tree_meaning.2.1 28 = .ok (.iadd, 1) := by decide +kernel
theorem d_Tree_meaning_29 : decode Y_Tree_meaning.2.1 29 = .ok (.iaload, 1) := by decide +kernel
theorem d_Tree_meaning_30 : decode Y_Tree_meaning.2.1 30 = .ok (.ireturn, 1) := by decide +kernel
theorem d_Tree_meaning_31 : decode Y_Tree_meaning.2.1 31 = .ok (.iconst 0, 1) := by decide +kernel
theorem d_Tree_meaning_32 : decode Y_Tree_meaning.2.1 32 = .ok (.istore_n 3, 1) := by decide +kernel
theorem d_Tree_meaning_33 : decode Y_Tree_meaning.2.1 33 = .ok (.iconst 0, 1) := by decide +kernel
theorem d_Tree_meaning_34 : decode Y_Tree_meaning.2.1 34 = .ok (.istore 4, 2) := by decide +kernel
theorem d_Tree_meaning_36 : decode Y_Tree_meaning.2.1 36 = .ok (.iload 4, 2) := by decide +kernel
theorem d_Tree_meaning_38 : decode Y_Tree_meaning.2.1 38 = .ok (.aload_n 1, 1) := by decide +kernel
theorem d_Tree_meaning_39 : decode Y_Tree_meaning.2.1 39 = .ok (.getfield 72, 3) := by decide +kernel
theorem d_Tree_meaning_42 : decode Y_Tree_meaning.2.1 42 = .ok (.iconst 1, 1) := by decide +kernel
theorem d_Tree_meaning_43 : decode Y_Tree_meaning.2.1 43 = .ok (.isub, 1) := by decide +kernel
theorem d_Tree_meaning_44 : decode Y_Tree_meaning.2.1 44 = .ok (.if_icmp .ge 28, 3) := by decide +kernel
theorem d_Tree_meaning_47 : decode Y_Tree_meaning.2.1 47 = .ok (.aload_n 0, 1) := by decide +kernel
theorem d_Tree_meaning_48 : decode Y_Tree_meaning.2.1 48 = .ok (.getfield 32, 3) := by decide +kernel
theorem d_Tree_meaning_51 : decode Y_Tree_meaning.2.1 51 = .ok (.aload_n 1, 1) := by decide +kernel
theorem d_Tree_meaning_52 : decode Y_Tree_meaning.2.1 52 = .ok (.getfield 212, 3) := by decide +kernel
theorem d_Tree_meaning_55 : decode Y_Tree_meaning.2.1 55 = .ok (.iload 4, 2) := by decide +kernel
theorem d_Tree_meaning_57 : decode Y_Tree_meaning.2.1 57 = .ok (.iadd, 1) := by decide +kernel
theorem d_Tree_meaning_58 : decode Y_Tree_meaning.2.1 58 = .ok (.iaload, 1) := by decide +kernel
theorem d_Tree_meaning_59 : decode Y_Tree_meaning.2.1 59 = .ok (.iload_n 3, 1) := by decide +kernel
theorem d_Tree_meaning_60 : decode Y_Tree_meaning.2.1 60 = .ok (.if_icmp .ne 6, 3) := by decide +kernel
theorem d_Tree_meaning_63 : decode Y_Tree_meaning.2.1 63 = .ok (.iinc 3 1, 3) := by decide +kernel
theorem d_Tree_meaning_66 : decode Y_Tree_meaning.2.1 66 = .ok (.iinc 4 1, 3) := by decide +kernel
theorem d_Tree_meaning_69 : decode Y_Tree_meaning.2.1 69 = .ok (.goto (-33), 3) := by decide +kernel
theorem d_Tree_meaning_72 : decode Y_Tree_meaning.2.1 72 = .ok (.iload_n 3, 1) := by decide +kernel
theorem d_Tree_meaning_73 : decode Y_Tree_meaning.2.1 73 = .ok (.ireturn, 1) := by decide +kernel
theorem d_Tree_answerFor_0 : decode Y_Tree_answerFor.2.1 0 = .ok (.aload_n 1, 1) := by decide +kernel
theorem d_Tree_answerFor_1 : decode Y_Tree_answerFor.2.1 1 = .ok (.getfield 137, 3) := by decide +kernel
theorem d_Tree_answerFor_4 : decode Y_Tree_answerFor.2.1 4 = .ok (.ifCond .ne 8, 3) := by decide +kernel
theorem d_Tree_answerFor_7 : decode Y_Tree_answerFor.2.1 7 = .ok (.aload_n 2, 1) := by decide +kernel
theorem d_Tree_answerFor_8 : decode Y_Tree_answerFor.2.1 8 = .ok (.getfield 236, 3) := by decide +kernel
theorem d_Tree_answerFor_11 : decode Y_Tree_answerFor.2.1 11 = .ok (.ireturn, 1) := by decide +kernel
theorem d_Tree_answerFor_12 : decode Y_Tree_answerFor.2.1 12 = .ok (.iconst 0, 1) := by decide +kernel
theorem d_Tree_answerFor_13 : decode Y_Tree_answerFor.2.1 13 = .ok (.istore_n 3, 1) := by decide +kernel
theorem d_Tree_answerFor_14 : decode Y_Tree_answerFor.2.1 14 = .ok (.iload_n 3, 1) := by decide +kernel
theorem d_Tree_answerFor_15 : decode Y_Tree_answerFor.2.1 15 = .ok (.aload_n 1, 1) := by decide +kernel
theorem d_Tree_answerFor_16 : decode Y_Tree_answerFor.2.1 16 = .ok (.getfield 72, 3) := by decide +kernel
theorem d_Tree_answerFor_19 : decode Y_Tree_answerFor.2.1 19 = .ok (.iconst 1, 1) := by decide +kernel
theorem d_Tree_answerFor_20 : decode Y_Tree_answerFor.2.1 20 = .ok (.isub, 1) := by decide +kernel
theorem d_Tree_answerFor_21 : decode Y_Tree_answerFor.2.1 21 = .ok (.if_icmp .ge 27, 3) := by decide +kernel
theorem d_Tree_answerFor_24 : decode Y_Tree_answerFor.2.1 24 = .ok (.aload_n 0, 1) := by decide +kernel
theorem d_Tree_answerFor_25 : decode Y_Tree_answerFor.2.1 25 = .ok (.getfield 32, 3) := by decide +kernel
theorem d_Tree_answerFor_28 : decode Y_Tree_answerFor.2.1 28 = .ok (.aload_n 1, 1) := by decide +kernel
theorem d_Tree_answerFor_29 : decode Y_Tree_answerFor.2.1 29 = .ok (.getfield 212, 3) := by decide +kernel
theorem d_Tree_answerFor_32 : decode Y_Tree_answerFor.2.1 32 = .ok (.iload_n 3, 1) := by decide +kernel
theorem d_Tree_answerFor_33 : decode Y_Tree_answerFor.2.1 33 = .ok (.iadd, 1) := by decide +kernel
theorem d_Tree_answerFor_34 : decode Y_Tree_answerFor.2.1 34 = .ok (.iaload, 1) := by decide +kernel
theorem d_Tree_answerFor_35 : decode Y_Tree_answerFor.2.1 35 = .ok (.aload_n 2, 1) := by decide +kernel
theorem d_Tree_answerFor_36 : decode Y_Tree_answerFor.2.1 36 = .ok (.getfield 236, 3) := by decide +kernel
theorem d_Tree_answerFor_39 : decode Y_Tree_answerFor.2.1 39 = .ok (.if_icmp .eq 9, 3) := by decide +kernel
theorem d_Tree_answerFor_42 : decode Y_Tree_answerFor.2.1 42 = .ok (.iinc 3 1, 3) := by decide +kernel
theorem d_Tree_answerFor_45 : decode Y_Tree_answerFor.2.1 45 = .ok (.goto (-31), 3) := by decide +kernel
theorem d_Tree_answerFor_48 : decode Y_Tree_answerFor.2.1 48 = .ok (.iload_n 3, 1) := by decide +kernel
theorem d_Tree_answerFor_49 : decode Y_Tree_answerFor.2.1 49 = .ok (.ireturn, 1) := by decide +kernel
section CF
variable {E : gE} {d : Nat} {G G0 : gS} {a : Nat} {c c' c0 : cS} {u u' u2 u0 : uS} {n n' n0 sl sl' : Nat} {Q : gO → gS → Prop} {B SS : Nat} {P : Nat → Nat → Int32} {N : Nat} {tm : Nat → Nat} {ob : Nat → Int32} {T : Nat → Prop} {pos : Nat → List Nat} {ks sp ps qs ms : List Nat}
theorem ins_mid {v : Int32} {S2 : List Int32} (h : ∀ x r, S2 = x :: r → ¬ x < v ∧ ¬ x = v) : ∀ (S1 : List Int32), (∀ x ∈ S1, x < v) → ins v (S1 ++ S2) = S1 ++ v :: S2
  | [], _ => by
    cases S2 with
    | nil => rfl
    | cons x r =>
      obtain ⟨h1, h2⟩ := h x r rfl
      simp only [List.nil_append, ins]
      rw [if_neg h1, if_neg h2]
  | y :: S1, h1 => by
    simp only [List.cons_append, ins]
    rw [if_pos (h1 y List.mem_cons_self), ins_mid h S1 (fun x hx => h1 x (List.mem_cons_of_mem _ hx))]
theorem ins_has {v : Int32} {r : List Int32} : ∀ (S1 : List Int32), (∀ x ∈ S1, x < v) → ins v (S1 ++ v :: r) = S1 ++ v :: r
  | [], _ => by
    simp only [List.nil_append, ins]
    rw [if_neg (fun h => Int32.lt_irrefl h), if_pos trivial]
  | y :: S1, h1 => by
    simp only [List.cons_append, ins]
    rw [if_pos (h1 y List.mem_cons_self), ins_has S1 (fun x hx => h1 x (List.mem_cons_of_mem _ hx))]
/-- numbers from f on -/
def nuA (c : cS) (f : Nat) (S : List Int32) : Prop := ∀ i v, S[i]? = some v → c.2.1 4 (f + i) = v
/-- only the numbers have changed, from f on -/
def nuF (c c' : cS) (f : Nat) : Prop := (∀ j, j ≠ 7 → c'.1 j = c.1 j) ∧ (∀ j, j ≠ 4 → c'.2.1 j = c.2.1 j) ∧ c'.2.2 = c.2.2 ∧ ∀ i, i < f → c'.2.1 4 i = c.2.1 4 i
theorem nuF_rf {f : Nat} : nuF c c f := ⟨fun _ _ => rfl, fun _ _ => rfl, rfl, fun _ _ => rfl⟩
theorem nuF_tr {f : Nat} {c2 : cS} (h : nuF c c' f) (h' : nuF c' c2 f) : nuF c c2 f := ⟨fun j hj => (h'.1 j hj).trans (h.1 j hj), fun j hj => (h'.2.1 j hj).trans (h.2.1 j hj), h'.2.2.1.trans h.2.2.1, fun i hi => (h'.2.2.2 i hi).trans (h.2.2.2 i hi)⟩
theorem nuF_A {f q : Nat} {x : Int32} (h : f ≤ q) : nuF c (cA c 4 q x) f := ⟨fun _ _ => rfl, fun j hj => upA_ne hj, rfl, fun i hi => by
  show upA c.2.1 4 _ 4 i = _
  rw [upA_at]
  exact up_ne (by omega)⟩
theorem cA_at {q : Nat} {x : Int32} : (cA c 4 q x).2.1 4 = upd (c.2.1 4) q x := upA_at (A := c.2.1) (j := 4) (f := upd (c.2.1 4) q x)
set_option maxHeartbeats 400000 in
set_option maxRecDepth 100000 in
theorem m_T_kn63 {f W : Nat} {v : Int32} {S1 : List Int32} (hb : f + S1.length + W < 800) : ∀ (w : Nat) (c : cS), w ≤ W → c.1 7 = nI (f + S1.length + W) → (∀ j, w < j → j ≤ W → c.2.1 4 (f + S1.length + j) = c0.2.1 4 (f + S1.length + (j - 1))) → (∀ q, q ≤ f + S1.length + w → c.2.1 4 q = c0.2.1 4 q) → nuF c0 c f → (∀ c', c'.1 7 = nI (f + S1.length + W + 1) → (∀ j, 0 < j → j ≤ W → c'.2.1 4 (f + S1.length + j) = c0.2.1 4 (f + S1.length + (j - 1))) → c'.2.1 4 (f + S1.length) = v → (∀ q, q < f + S1.length → c'.2.1 4 q = c0.2.1 4 q) → nuF c0 c' f → Q (.inl none) (yW E G a c' u n sl)) → GT E Y_Tree_keepNumber d G0 63 [(0, .ref (a + 12)), (1, .int (nI f)), (2, .int v), (3, .int (nI (f + S1.length))), (4, .int (nI (f + S1.length + w)))] [] (yW E G a c u n sl) Q := by
  intro w
  induction w with
  | zero =>
    intro c hw h7 h1 h2 hF kk
    refine g_iload d_Tree_keepNumber_63 rfl ?_
    refine g_iload_n d_Tree_keepNumber_65 rfl ?_
    refine g_icmp_le (tgt := 91) d_Tree_keepNumber_66 (by decide) (fun c_66 => ?_) (fun c_66 => ?_)
    rotate_left
    · exact absurd c_66 (fun q => q (Int32.le_refl _))
    refine g_aload_n d_Tree_keepNumber_91 rfl ?_
    refine x_get (k := 12) (j := 5) (v := .ref (a + 18)) kc_Tree fl_Tree_32 (by decide) (by decide) rfl rfl d_Tree_keepNumber_92 ?_
    refine g_iload_n d_Tree_keepNumber_95 rfl ?_
    refine g_iload_n d_Tree_keepNumber_96 rfl ?_
    refine x_ast (c' := (cA c 4 (f + S1.length) (v))) (k := 18) (q := f + S1.length) (by decide) rfl (nI_hi (by omega)) (by omega) rfl xf_A4 d_Tree_keepNumber_97 ?_
    refine g_aload_n d_Tree_keepNumber_98 rfl ?_
    refine g_dup d_Tree_keepNumber_99 rfl ?_
    refine x_get (k := 12) (j := 8) (v := .int (c.1 7)) kc_Tree fl_Tree_93 (by decide) (by decide) rfl rfl d_Tree_keepNumber_100 ?_
    rw [h7]
    refine g_iconst (v := 1) d_Tree_keepNumber_103 (by decide) ?_
    refine g_iadd d_Tree_keepNumber_104 ?_
    refine g_top (nI (f + S1.length + W + 1)) (nI_1 _) ?_
    refine x_put (c' := (cF (cA c 4 (f + S1.length) (v)) 7 (nI (f + S1.length + W + 1)))) (k := 12) (j := 8) kc_Tree fl_Tree_93 (by decide) (by decide) rfl rfl rfl rfl (Nat.le_of_ble_eq_true rfl) rfl rfl xf_F7 d_Tree_keepNumber_105 ?_
    refine g_vret rfl d_Tree_keepNumber_108 ?_
    refine kk _ rfl (fun j hj1 hj2 => ?_) ?_ (fun q hq => ?_) ⟨fun j hj => (up_ne hj).trans (hF.1 j hj), fun j hj => (nuF_A (Nat.le_add_right f S1.length)).2.1 j hj |>.trans (hF.2.1 j hj), hF.2.2.1, fun i hi => ((nuF_A (c := c) (x := v) (Nat.le_add_right f S1.length)).2.2.2 i hi).trans (hF.2.2.2 i hi)⟩
    · show (cA c 4 (f + S1.length) v).2.1 4 _ = _
      rw [cA_at, up_ne (by omega)]
      exact h1 j hj1 hj2
    · show (cA c 4 (f + S1.length) v).2.1 4 _ = _
      rw [cA_at]
      exact up_at
    · show (cA c 4 (f + S1.length) v).2.1 4 _ = _
      rw [cA_at, up_ne (by omega)]
      exact h2 q (by omega)
  | succ w ih =>
    intro c hw h7 h1 h2 hF kk
    refine g_iload d_Tree_keepNumber_63 rfl ?_
    refine g_iload_n d_Tree_keepNumber_65 rfl ?_
    refine g_icmp_le (tgt := 91) d_Tree_keepNumber_66 (by decide) (fun c_66 => ?_) (fun c_66 => ?_)
    · exact absurd c_66 (ige (by omega) (by omega) (by omega))
    refine g_aload_n d_Tree_keepNumber_69 rfl ?_
    refine x_get (k := 12) (j := 5) (v := .ref (a + 18)) kc_Tree fl_Tree_32 (by decide) (by decide) rfl rfl d_Tree_keepNumber_70 ?_
    refine g_iload d_Tree_keepNumber_73 rfl ?_
    refine g_aload_n d_Tree_keepNumber_75 rfl ?_
    refine x_get (k := 12) (j := 5) (v := .ref (a + 18)) kc_Tree fl_Tree_32 (by decide) (by decide) rfl rfl d_Tree_keepNumber_76 ?_
    refine g_iload d_Tree_keepNumber_79 rfl ?_
    refine g_iconst (v := 1) d_Tree_keepNumber_81 (by decide) ?_
    refine g_isub d_Tree_keepNumber_82 ?_
    refine x_ald (k := 18) (q := f + S1.length + w) (x := c.2.1 4 (f + S1.length + w)) (by decide) rfl (by rw [show f + S1.length + (w + 1) = f + S1.length + w + 1 from rfl, nI_s1 (by omega)]; exact nI_hi (by omega)) (by omega) rfl d_Tree_keepNumber_83 ?_
    refine x_ast (c' := (cA c 4 (f + S1.length + (w + 1)) (c.2.1 4 (f + S1.length + w)))) (k := 18) (q := f + S1.length + (w + 1)) (by decide) rfl (nI_hi (by omega)) (by omega) rfl xf_A4 d_Tree_keepNumber_84 ?_
    refine g_iinc (v := nI (f + S1.length + w)) d_Tree_keepNumber_85 rfl (nI_m (by omega) (by omega)) (by decide) rfl ?_
    refine g_goto (tgt := 63) d_Tree_keepNumber_88 (by decide) ?_
    refine ih _ (by omega) h7 (fun j hj1 hj2 => ?_) (fun q hq => ?_) (nuF_tr hF (nuF_A (by omega))) kk
    · rw [cA_at]
      by_cases e : j = w + 1
      · subst e
        rw [up_at]
        exact h2 _ (by omega)
      · rw [up_ne (by omega)]
        exact h1 j (by omega) hj2
    · rw [cA_at, up_ne (by omega)]
      exact h2 q (by omega)
/-- a number is kept -/
def nuP (c c' : cS) (f : Nat) (S : List Int32) : Prop := c'.1 7 = nI (f + S.length) ∧ nuA c' f S ∧ nuF c c' f
set_option maxHeartbeats 400000 in
set_option maxRecDepth 100000 in
theorem m_T_kn57 {f : Nat} {v : Int32} {S1 S2 : List Int32} (hb : f + (S1 ++ S2).length < 800) (h7 : c.1 7 = nI (f + (S1 ++ S2).length)) (hS : nuA c f (S1 ++ S2)) : GT E Y_Tree_keepNumber d G0 57 [(0, .ref (a + 12)), (1, .int (nI f)), (2, .int v), (3, .int (nI (f + S1.length)))] [] (yW E G a c u n sl) (rPost none (fun G' => ∃ c', G' = yW E G a c' u n sl ∧ nuP c c' f (S1 ++ v :: S2))) := by
  have hl : (S1 ++ S2).length = S1.length + S2.length := List.length_append
  rw [hl, ← Nat.add_assoc] at hb h7
  refine g_aload_n d_Tree_keepNumber_57 rfl ?_
  refine x_get (k := 12) (j := 8) (v := .int (c.1 7)) kc_Tree fl_Tree_93 (by decide) (by decide) rfl rfl d_Tree_keepNumber_58 ?_
  rw [h7]
  refine g_istore d_Tree_keepNumber_61 (by decide) rfl ?_
  refine m_T_kn63 (c0 := c) (W := S2.length) hb S2.length c (Nat.le_refl _) h7 (fun j h1 h2 => by omega) (fun _ _ => rfl) nuF_rf (fun c' g1 g2 g3 g4 g5 => ⟨rfl, c', rfl, ?_, fun i x hx => ?_, g5⟩)
  · rw [g1, List.length_append, List.length_cons, Nat.add_assoc, Nat.add_assoc]
  · rcases Nat.lt_trichotomy i S1.length with hi | hi | hi
    · rw [List.getElem?_append_left hi] at hx
      rw [g4 _ (by omega)]
      exact hS i x (by rw [List.getElem?_append_left hi]; exact hx)
    · rw [hi] at hx ⊢
      rw [mid_at] at hx
      cases hx
      exact g3
    · obtain ⟨j, rfl⟩ : ∃ j, i = S1.length + (j + 1) := ⟨i - S1.length - 1, by omega⟩
      rw [List.getElem?_append_right (by omega), show S1.length + (j + 1) - S1.length = j + 1 by omega, List.getElem?_cons_succ] at hx
      have hj := (List.getElem?_eq_some_iff.mp hx).1
      rw [← Nat.add_assoc, g2 (j + 1) (by omega) (by omega), show f + S1.length + (j + 1 - 1) = f + (S1.length + j) by omega]
      exact hS _ x (by rw [List.getElem?_append_right (by omega), show S1.length + j - S1.length = j by omega]; exact hx)
set_option maxHeartbeats 400000 in
set_option maxRecDepth 100000 in
theorem m_T_kn2 {f : Nat} {v : Int32} {S : List Int32} (hb : f + S.length < 800) (h7 : c.1 7 = nI (f + S.length)) (hS : nuA c f S) : ∀ (S2 S1 : List Int32), S = S1 ++ S2 → (∀ x ∈ S1, x < v) → GT E Y_Tree_keepNumber d G0 2 [(0, .ref (a + 12)), (1, .int (nI f)), (2, .int v), (3, .int (nI (f + S1.length)))] [] (yW E G a c u n sl) (rPost none (fun G' => ∃ c', G' = yW E G a c' u n sl ∧ nuP c c' f (ins v S))) := by
  intro S2
  induction S2 with
  | nil =>
    intro S1 e h1
    subst e
    rw [ins_mid (S2 := []) (fun x r z => by cases z) S1 h1]
    have hl : (S1 ++ ([] : List Int32)).length = S1.length := by simp
    refine g_iload_n d_Tree_keepNumber_2 rfl ?_
    refine g_aload_n d_Tree_keepNumber_3 rfl ?_
    refine x_get (k := 12) (j := 8) (v := .int (c.1 7)) kc_Tree fl_Tree_93 (by decide) (by decide) rfl rfl d_Tree_keepNumber_4 ?_
    rw [h7, hl]
    refine g_icmp_ge (tgt := 26) d_Tree_keepNumber_7 (by decide) (fun c_7 => ?_) (fun c_7 => ?_)
    rotate_left
    · exact absurd c_7 (fun q => q (Int32.le_refl _))
    refine g_iload_n d_Tree_keepNumber_26 rfl ?_
    refine g_aload_n d_Tree_keepNumber_27 rfl ?_
    refine x_get (k := 12) (j := 8) (v := .int (c.1 7)) kc_Tree fl_Tree_93 (by decide) (by decide) rfl rfl d_Tree_keepNumber_28 ?_
    rw [h7, hl]
    refine g_icmp_ge (tgt := 44) d_Tree_keepNumber_31 (by decide) (fun c_31 => ?_) (fun c_31 => ?_)
    rotate_left
    · exact absurd c_31 (fun q => q (Int32.le_refl _))
    refine g_aload_n d_Tree_keepNumber_44 rfl ?_
    refine x_get (k := 12) (j := 8) (v := .int (c.1 7)) kc_Tree fl_Tree_93 (by decide) (by decide) rfl rfl d_Tree_keepNumber_45 ?_
    rw [h7, hl]
    refine g_aload_n d_Tree_keepNumber_48 rfl ?_
    refine x_get (k := 12) (j := 5) (v := .ref (a + 18)) kc_Tree fl_Tree_32 (by decide) (by decide) rfl rfl d_Tree_keepNumber_49 ?_
    refine g_ilen (x_at (k := 18) (by decide) rfl) rfl d_Tree_keepNumber_52 ?_
    refine g_icmp_lt (tgt := 57) d_Tree_keepNumber_53 (by decide) (fun c_53 => ?_) (fun c_53 => ?_)
    rotate_left
    · exact absurd c_53 (fun q => q ((lt_hi (nI_hi (by omega)) (show (Int32.ofNat 800).toInt = ((800 : Nat) : Int) by decide)).mpr (by omega)))
    exact m_T_kn57 hb h7 hS
  | cons y S2 ih =>
    intro S1 e h1
    have hl : S.length = S1.length + (S2.length + 1) := by rw [e]; simp
    have hy : c.2.1 4 (f + S1.length) = y := hS S1.length y (by rw [e]; exact mid_at)
    by_cases hlt : y < v
    · refine g_iload_n d_Tree_keepNumber_2 rfl ?_
      refine g_aload_n d_Tree_keepNumber_3 rfl ?_
      refine x_get (k := 12) (j := 8) (v := .int (c.1 7)) kc_Tree fl_Tree_93 (by decide) (by decide) rfl rfl d_Tree_keepNumber_4 ?_
      rw [h7, hl]
      refine g_icmp_ge (tgt := 26) d_Tree_keepNumber_7 (by decide) (fun c_7 => ?_) (fun c_7 => ?_)
      · exact absurd c_7 (ige (by omega) (by omega) (by omega))
      refine g_aload_n d_Tree_keepNumber_10 rfl ?_
      refine x_get (k := 12) (j := 5) (v := .ref (a + 18)) kc_Tree fl_Tree_32 (by decide) (by decide) rfl rfl d_Tree_keepNumber_11 ?_
      refine g_iload_n d_Tree_keepNumber_14 rfl ?_
      refine x_ald (k := 18) (q := f + S1.length) (x := c.2.1 4 (f + S1.length)) (by decide) rfl (nI_hi (by omega)) (by omega) rfl d_Tree_keepNumber_15 ?_
      rw [hy]
      refine g_iload_n d_Tree_keepNumber_16 rfl ?_
      refine g_icmp_ge (tgt := 26) d_Tree_keepNumber_17 (by decide) (fun c_17 => ?_) (fun c_17 => ?_)
      · exact absurd c_17 (fun q => Int32.not_lt.mpr q hlt)
      refine g_iinc (v := nI (f + (S1 ++ [y]).length)) d_Tree_keepNumber_20 rfl (by rw [List.length_append]; exact nI_1 _) (by decide) rfl ?_
      refine g_goto (tgt := 2) d_Tree_keepNumber_23 (by decide) ?_
      exact ih (S1 ++ [y]) (by rw [e]; simp) (fun x hx => (List.mem_append.mp hx).elim (h1 x) (fun z => by rcases List.mem_singleton.mp z with rfl; exact hlt))
    · have hge : v ≤ y := Int32.not_lt.mp hlt
      by_cases heq : y = v
      · subst heq
        rw [e, ins_has S1 h1, ← e]
        refine g_iload_n d_Tree_keepNumber_2 rfl ?_
        refine g_aload_n d_Tree_keepNumber_3 rfl ?_
        refine x_get (k := 12) (j := 8) (v := .int (c.1 7)) kc_Tree fl_Tree_93 (by decide) (by decide) rfl rfl d_Tree_keepNumber_4 ?_
        rw [h7, hl]
        refine g_icmp_ge (tgt := 26) d_Tree_keepNumber_7 (by decide) (fun c_7 => ?_) (fun c_7 => ?_)
        · exact absurd c_7 (ige (by omega) (by omega) (by omega))
        refine g_aload_n d_Tree_keepNumber_10 rfl ?_
        refine x_get (k := 12) (j := 5) (v := .ref (a + 18)) kc_Tree fl_Tree_32 (by decide) (by decide) rfl rfl d_Tree_keepNumber_11 ?_
        refine g_iload_n d_Tree_keepNumber_14 rfl ?_
        refine x_ald (k := 18) (q := f + S1.length) (x := c.2.1 4 (f + S1.length)) (by decide) rfl (nI_hi (by omega)) (by omega) rfl d_Tree_keepNumber_15 ?_
        rw [hy]
        refine g_iload_n d_Tree_keepNumber_16 rfl ?_
        refine g_icmp_ge (tgt := 26) d_Tree_keepNumber_17 (by decide) (fun c_17 => ?_) (fun c_17 => ?_)
        rotate_left
        · exact absurd c_17 (fun q => q (Int32.le_refl _))
        refine g_iload_n d_Tree_keepNumber_26 rfl ?_
        refine g_aload_n d_Tree_keepNumber_27 rfl ?_
        refine x_get (k := 12) (j := 8) (v := .int (c.1 7)) kc_Tree fl_Tree_93 (by decide) (by decide) rfl rfl d_Tree_keepNumber_28 ?_
        rw [h7, hl]
        refine g_icmp_ge (tgt := 44) d_Tree_keepNumber_31 (by decide) (fun c_31 => ?_) (fun c_31 => ?_)
        · exact absurd c_31 (ige (by omega) (by omega) (by omega))
        refine g_aload_n d_Tree_keepNumber_34 rfl ?_
        refine x_get (k := 12) (j := 5) (v := .ref (a + 18)) kc_Tree fl_Tree_32 (by decide) (by decide) rfl rfl d_Tree_keepNumber_35 ?_
        refine g_iload_n d_Tree_keepNumber_38 rfl ?_
        refine x_ald (k := 18) (q := f + S1.length) (x := c.2.1 4 (f + S1.length)) (by decide) rfl (nI_hi (by omega)) (by omega) rfl d_Tree_keepNumber_39 ?_
        rw [hy]
        refine g_iload_n d_Tree_keepNumber_40 rfl ?_
        refine g_icmp_eq (tgt := 56) d_Tree_keepNumber_41 (by decide) (fun c_41 => ?_) (fun c_41 => ?_)
        rotate_left
        · exact absurd c_41 (fun q => q rfl)
        refine g_vret rfl d_Tree_keepNumber_56 ?_
        exact ⟨rfl, c, rfl, h7, hS, nuF_rf⟩
      · subst e
        rw [ins_mid (fun x r z => by cases z; exact ⟨hlt, heq⟩) S1 h1]
        refine g_iload_n d_Tree_keepNumber_2 rfl ?_
        refine g_aload_n d_Tree_keepNumber_3 rfl ?_
        refine x_get (k := 12) (j := 8) (v := .int (c.1 7)) kc_Tree fl_Tree_93 (by decide) (by decide) rfl rfl d_Tree_keepNumber_4 ?_
        rw [h7, hl]
        refine g_icmp_ge (tgt := 26) d_Tree_keepNumber_7 (by decide) (fun c_7 => ?_) (fun c_7 => ?_)
        · exact absurd c_7 (ige (by omega) (by omega) (by omega))
        refine g_aload_n d_Tree_keepNumber_10 rfl ?_
        refine x_get (k := 12) (j := 5) (v := .ref (a + 18)) kc_Tree fl_Tree_32 (by decide) (by decide) rfl rfl d_Tree_keepNumber_11 ?_
        refine g_iload_n d_Tree_keepNumber_14 rfl ?_
        refine x_ald (k := 18) (q := f + S1.length) (x := c.2.1 4 (f + S1.length)) (by decide) rfl (nI_hi (by omega)) (by omega) rfl d_Tree_keepNumber_15 ?_
        rw [hy]
        refine g_iload_n d_Tree_keepNumber_16 rfl ?_
        refine g_icmp_ge (tgt := 26) d_Tree_keepNumber_17 (by decide) (fun c_17 => ?_) (fun c_17 => ?_)
        rotate_left
        · exact absurd c_17 (fun q => q hge)
        refine g_iload_n d_Tree_keepNumber_26 rfl ?_
        refine g_aload_n d_Tree_keepNumber_27 rfl ?_
        refine x_get (k := 12) (j := 8) (v := .int (c.1 7)) kc_Tree fl_Tree_93 (by decide) (by decide) rfl rfl d_Tree_keepNumber_28 ?_
        rw [h7, hl]
        refine g_icmp_ge (tgt := 44) d_Tree_keepNumber_31 (by decide) (fun c_31 => ?_) (fun c_31 => ?_)
        · exact absurd c_31 (ige (by omega) (by omega) (by omega))
        refine g_aload_n d_Tree_keepNumber_34 rfl ?_
        refine x_get (k := 12) (j := 5) (v := .ref (a + 18)) kc_Tree fl_Tree_32 (by decide) (by decide) rfl rfl d_Tree_keepNumber_35 ?_
        refine g_iload_n d_Tree_keepNumber_38 rfl ?_
        refine x_ald (k := 18) (q := f + S1.length) (x := c.2.1 4 (f + S1.length)) (by decide) rfl (nI_hi (by omega)) (by omega) rfl d_Tree_keepNumber_39 ?_
        rw [hy]
        refine g_iload_n d_Tree_keepNumber_40 rfl ?_
        refine g_icmp_eq (tgt := 56) d_Tree_keepNumber_41 (by decide) (fun c_41 => ?_) (fun c_41 => ?_)
        · exact absurd c_41 heq
        refine g_aload_n d_Tree_keepNumber_44 rfl ?_
        refine x_get (k := 12) (j := 8) (v := .int (c.1 7)) kc_Tree fl_Tree_93 (by decide) (by decide) rfl rfl d_Tree_keepNumber_45 ?_
        rw [h7, hl]
        refine g_aload_n d_Tree_keepNumber_48 rfl ?_
        refine x_get (k := 12) (j := 5) (v := .ref (a + 18)) kc_Tree fl_Tree_32 (by decide) (by decide) rfl rfl d_Tree_keepNumber_49 ?_
        refine g_ilen (x_at (k := 18) (by decide) rfl) rfl d_Tree_keepNumber_52 ?_
        refine g_icmp_lt (tgt := 57) d_Tree_keepNumber_53 (by decide) (fun c_53 => ?_) (fun c_53 => ?_)
        rotate_left
        · exact absurd c_53 (fun q => q ((lt_hi (nI_hi (by omega)) (show (Int32.ofNat 800).toInt = ((800 : Nat) : Int) by decide)).mpr (by omega)))
        exact m_T_kn57 hb h7 hS
set_option maxHeartbeats 400000 in
set_option maxRecDepth 100000 in
theorem m_T_keepNumber {f : Nat} {v : Int32} {S : List Int32} (hb : f + S.length < 800) (h7 : c.1 7 = nI (f + S.length)) (hS : nuA c f S) : GM E Y_Tree_keepNumber d [.ref (a + 12), .int (nI f), .int v] (yW E G a c u n sl) (rPost none (fun G' => ∃ c', G' = yW E G a c' u n sl ∧ nuP c c' f (ins v S))) := by
  refine g_entry (by decide) (by simp [Value.category]) (Nat.le_of_ble_eq_true rfl) ?_
  refine g_iload_n d_Tree_keepNumber_0 rfl ?_
  refine g_istore_n d_Tree_keepNumber_1 (by decide) rfl ?_
  exact m_T_kn2 hb h7 hS S [] rfl (fun x hx => by cases hx)
theorem aSrt_app : ∀ (l r S : List Int32), aSrt S (l ++ r) = aSrt (aSrt S l) r
  | [], _, _ => rfl
  | v :: l, r, S => by
    simp only [List.cons_append, aSrt]
    exact aSrt_app l r _
/-- the numbers that rows wish of a place -/
def nsC1 (P : Nat → Nat → Int32) (p : Nat) (A : rC) : List Int32 := match fndC p A.2.1 with
  | none => []
  | some z => [P 5 z.2.1]
def nsC (P : Nat → Nat → Int32) (p : Nat) (R : List rC) : List Int32 := R.flatMap (nsC1 P p)
theorem nsC1_len {p : Nat} {A : rC} : (nsC1 P p A).length ≤ 1 := by
  unfold nsC1
  split <;> simp
theorem nsC_len {p : Nat} : ∀ (R : List rC), (nsC P p R).length ≤ R.length
  | [] => Nat.le_refl _
  | A :: R => by
    have h1 := nsC_len (p := p) R
    have h2 := nsC1_len (P := P) (p := p) (A := A)
    unfold nsC at h1 ⊢
    rw [List.flatMap_cons, List.length_append, List.length_cons]
    omega
theorem nsC_app {p : Nat} {R R' : List rC} : nsC P p (R ++ R') = nsC P p R ++ nsC P p R' := List.flatMap_append
theorem nu_hp {f : Nat} (h : hpOk E a B SS c u n sl ks sp ps qs ms) (hF : nuF c c' f) : hpOk E a B SS c' u n sl ks sp ps qs ms := (hpOk_k (c' := c') (K := fun k => k = 5) h kFr_rf (fun k z => Or.inl z) (fun _ => rfl) (fun j hj => hF.1 j (by omega)) (fun j => by rw [hF.2.2.1])).1
set_option maxHeartbeats 1000000 in
set_option maxRecDepth 100000 in
theorem m_T_kns15 (wf : wfA P N pos) (wb : wfB P N) (wk : wfK P N) (tp : tmP P N tm ob T) (tw : tmW P u a tm ob T) {lA lB : List Nat} {q0 p f : Nat} {R : List rC} (h0 : hpOk E a B SS c0 u n sl ks sp ps qs ms) (hR : ∀ A ∈ R, tI P N ob T A.2.1 A.2.2 ∧ ∀ q ∈ A.2.1, aK P q.2 ∧ q.1 < 10000) (hp : p < 10000) (hq6 : zIs u a q0 6) (f2 : u.2.2.1 q0 2 = nI p) (f6 : u.2.2.1 q0 6 = nI f) (hf : f + R.length ≤ 800) (hl0 : ks.length ≤ 900)
    (kk : ∀ c', nuP c0 c' f (aSrt [] (nsC P p R)) → Q (.inl none) (yW E G a c' u n sl)) : ∀ (q2 : List Nat) (R2 : List rC) (q1 : List Nat) (R1 : List rC) (c : cS), ks = lA ++ ((q1 ++ q2) ++ lB) → R = R1 ++ R2 → rcs u tm q2 R2 → nuP c0 c f (aSrt [] (nsC P p R1)) →
    GT E Y_Tree_keepNumbers (d + 4) G0 15 [(0, .ref (a + 12)), (1, .ref q0), (2, .int (nI (lA.length + (q1 ++ q2).length))), (3, .int (nI (lA.length + q1.length)))] [] (yW E G a c u n sl) Q := by
  intro q2
  induction q2 with
  | nil =>
    intro R2 q1 R1 c hl hRR hr hc
    cases R2 with
    | cons A R2 => exact hr.elim
    | nil =>
      rw [List.append_nil] at hRR
      subst hRR
      refine g_iload_n d_Tree_keepNumbers_15 rfl ?_
      refine g_iload_n d_Tree_keepNumbers_16 rfl ?_
      refine g_icmp_ge (tgt := 72) d_Tree_keepNumbers_17 (by decide) (fun c_17 => ?_) (fun c_17 => ?_)
      rotate_left
      · exact absurd c_17 (fun q => q (by rw [List.append_nil]; exact Int32.le_refl _))
      refine g_vret rfl d_Tree_keepNumbers_72 ?_
      exact kk c hc
  | cons b q2 ih =>
    intro R2 q1 R1 c hl hRR hr hc
    cases R2 with
    | nil => exact hr.elim
    | cons A R2 =>
      obtain ⟨ow, ws, bd⟩ := A
      obtain ⟨hI, hws⟩ := hR (ow, ws, bd) (by rw [hRR]; simp)
      have hbm : b ∈ ks := by rw [hl]; simp
      have h := nu_hp h0 hc.2.2
      have hw := (h.1.2.2.2.2.2.1 b (by simp [hbm])).1
      have hx : hX (xOf u b) ow (ws.map (tmQ tm)) bd := hr.1
      have hlo := h.1.2.2.2.1
      have hl24 : ws.length ≤ 24 := Nat.le_trans (tI_len wf.1 (fun q hq => (hI.1 q hq).1)) hI.2.2.2
      have hlen := congrArg List.length hl
      simp only [List.length_append, List.length_cons] at hlen
      have hi : (ks ++ sp)[lA.length + q1.length]? = some b := by
        have e : ks ++ sp = (lA ++ q1) ++ b :: (q2 ++ lB ++ sp) := by rw [hl]; simp
        rw [e, show lA.length + q1.length = (lA ++ q1).length by simp]
        exact mid_at
      have hll : lA.length + (q1 ++ b :: q2).length = lA.length + q1.length + (q2.length + 1) := by simp; omega
      have hR1 : R1.length < R.length := by rw [hRR]; simp
      have hS1 : f + (aSrt [] (nsC P p R1)).length < 800 := by
        have h1 := aSrt_len (l := nsC P p R1) (S := [])
        have h2 := nsC_len (P := P) (p := p) R1
        simp only [List.length_nil] at h1
        omega
      have hone : aSrt [] (nsC P p (R1 ++ [(ow, ws, bd)])) = aSrt (aSrt [] (nsC P p R1)) (nsC1 P p (ow, ws, bd)) := by
        rw [nsC_app, aSrt_app]
        simp [nsC]
      have nxt : ∀ (c' : cS), nuP c0 c' f (aSrt [] (nsC P p (R1 ++ [(ow, ws, bd)]))) → GT E Y_Tree_keepNumbers (d + 4) G0 66 [(0, .ref (a + 12)), (1, .ref q0), (2, .int (nI (lA.length + (q1 ++ b :: q2).length))), (3, .int (nI (lA.length + q1.length)))] [] (yW E G a c' u n sl) Q := fun c' hc' => by
        have K := ih R2 (q1 ++ [b]) (R1 ++ [(ow, ws, bd)]) c' (by rw [hl]; simp) (by rw [hRR]; simp) hr.2 hc'
        rw [show (q1 ++ [b]) ++ q2 = q1 ++ b :: q2 by simp] at K
        refine g_iinc (v := nI (lA.length + (q1 ++ [b]).length)) d_Tree_keepNumbers_66 rfl (by rw [List.length_append]; exact nI_1 _) (by decide) rfl ?_
        refine g_goto (tgt := 15) d_Tree_keepNumbers_69 (by decide) ?_
        exact K
      cases hfn : fndC p ws with
      | none =>
        have e1 : nsC1 P p (ow, ws, bd) = [] := by simp only [nsC1, hfn]
        rw [e1] at hone
        refine g_iload_n d_Tree_keepNumbers_15 rfl ?_
        refine g_iload_n d_Tree_keepNumbers_16 rfl ?_
        refine g_icmp_ge (tgt := 72) d_Tree_keepNumbers_17 (by decide) (fun c_17 => ?_) (fun c_17 => ?_)
        · exact absurd c_17 (by rw [hll]; exact ige (by omega) (by omega) (by omega))
        refine g_aload_n d_Tree_keepNumbers_20 rfl ?_
        refine x_get (k := 12) (j := 2) (v := .ref (a + 13)) kc_Tree fl_Tree_12 (by decide) (by decide) rfl rfl d_Tree_keepNumbers_21 ?_
        refine g_iload_n d_Tree_keepNumbers_24 rfl ?_
        refine c_Vr (as := [.int (nI (lA.length + q1.length))]) kv_Rows_rowAt ml_Tree_133 rfl (x_at (k := 13) (by decide) rfl) (m_S_rowAt hlo hi) rfl (Nat.le_of_ble_eq_true rfl) rfl d_Tree_keepNumbers_25 rfl ?_
        refine g_astore d_Tree_keepNumbers_28 (by decide) rfl ?_
        refine g_aload d_Tree_keepNumbers_30 rfl ?_
        refine g_aload_n d_Tree_keepNumbers_32 rfl ?_
        refine z_get (k := 6) (j := 2) (v := .int (u.2.2.1 q0 2)) kc_Question fl_Tree_75 (by decide) hq6 (by decide) rfl rfl d_Tree_keepNumbers_33 ?_
        rw [f2]
        refine c_Vr (as := [.int (nI p)]) kv_Row_wishFor ml_Tree_233 rfl (z_at hw.1 (by decide)) (m_T_wishNone hw hx hl24 (fun q hq => (hws q hq).2) hp (fndC_none hfn)) rfl (Nat.le_of_ble_eq_true rfl) rfl d_Tree_keepNumbers_36 rfl ?_
        refine g_istore d_Tree_keepNumbers_39 (by decide) rfl ?_
        refine g_iload d_Tree_keepNumbers_41 rfl ?_
        refine g_iconst (v := (-1)) d_Tree_keepNumbers_43 (by decide) ?_
        refine g_icmp_eq (tgt := 66) d_Tree_keepNumbers_44 (by decide) (fun c_44 => ?_) (fun c_44 => ?_)
        rotate_left
        · exact absurd c_44 (fun q => q rfl)
        refine g_weak (lv' := [(0, .ref (a + 12)), (1, .ref q0), (2, .int (nI (lA.length + (q1 ++ b :: q2).length))), (3, .int (nI (lA.length + q1.length)))]) (fun q hq => List.mem_append_left _ hq) (by simp) ?_
        exact nxt c (by rw [hone]; exact hc)
      | some z =>
        obtain ⟨hz, hz1⟩ := fndC_some hfn
        have e1 : nsC1 P p (ow, ws, bd) = [P 5 z.2.1] := by simp only [nsC1, hfn]
        obtain ⟨zl, zk, zr⟩ := z
        simp only at hz hz1 e1
        rw [e1] at hone
        subst hz
        obtain ⟨hak, -⟩ := hws (p, zk) (by simp)
        obtain ⟨y1, y2, -, -, y5, -⟩ := tW_settled wf wk tp tw (q := (p, zk)) (hI.1 (p, zk) (by simp)).2 hak
        have hzl : zl.length < 24 := by simp at hl24; omega
        have hxz : (xOf u b).2.2.1 zl.length = some (tm zk) := by
          have := hx.2.2.1 zl.length (p, tm zk) (by rw [List.map_append, List.map_cons, show zl.length = (zl.map (tmQ tm)).length by simp]; exact mid_at)
          exact this.2
        refine g_iload_n d_Tree_keepNumbers_15 rfl ?_
        refine g_iload_n d_Tree_keepNumbers_16 rfl ?_
        refine g_icmp_ge (tgt := 72) d_Tree_keepNumbers_17 (by decide) (fun c_17 => ?_) (fun c_17 => ?_)
        · exact absurd c_17 (by rw [hll]; exact ige (by omega) (by omega) (by omega))
        refine g_aload_n d_Tree_keepNumbers_20 rfl ?_
        refine x_get (k := 12) (j := 2) (v := .ref (a + 13)) kc_Tree fl_Tree_12 (by decide) (by decide) rfl rfl d_Tree_keepNumbers_21 ?_
        refine g_iload_n d_Tree_keepNumbers_24 rfl ?_
        refine c_Vr (as := [.int (nI (lA.length + q1.length))]) kv_Rows_rowAt ml_Tree_133 rfl (x_at (k := 13) (by decide) rfl) (m_S_rowAt hlo hi) rfl (Nat.le_of_ble_eq_true rfl) rfl d_Tree_keepNumbers_25 rfl ?_
        refine g_astore d_Tree_keepNumbers_28 (by decide) rfl ?_
        refine g_aload d_Tree_keepNumbers_30 rfl ?_
        refine g_aload_n d_Tree_keepNumbers_32 rfl ?_
        refine z_get (k := 6) (j := 2) (v := .int (u.2.2.1 q0 2)) kc_Question fl_Tree_75 (by decide) hq6 (by decide) rfl rfl d_Tree_keepNumbers_33 ?_
        rw [f2]
        refine c_Vr (as := [.int (nI p)]) kv_Row_wishFor ml_Tree_233 rfl (z_at hw.1 (by decide)) (m_T_wishSome hw hx hl24 (fun q hq => (hws q hq).2) hz1) rfl (Nat.le_of_ble_eq_true rfl) rfl d_Tree_keepNumbers_36 rfl ?_
        refine g_istore d_Tree_keepNumbers_39 (by decide) rfl ?_
        refine g_iload d_Tree_keepNumbers_41 rfl ?_
        refine g_iconst (v := (-1)) d_Tree_keepNumbers_43 (by decide) ?_
        refine g_icmp_eq (tgt := 66) d_Tree_keepNumbers_44 (by decide) (fun c_44 => ?_) (fun c_44 => ?_)
        · exact absurd c_44 (fun q => nI_ne1 (by omega) q)
        refine g_aload_n d_Tree_keepNumbers_47 rfl ?_
        refine g_aload_n d_Tree_keepNumbers_48 rfl ?_
        refine z_get (k := 6) (j := 6) (v := .int (u.2.2.1 q0 6)) kc_Question fl_Tree_212 (by decide) hq6 (by decide) rfl rfl d_Tree_keepNumbers_49 ?_
        rw [f6]
        refine g_aload d_Tree_keepNumbers_52 rfl ?_
        refine z_get (k := 1) (j := 1) (v := .ref (b + 2)) kc_Row fl_Tree_141 (by decide) hw.1 (by decide) rfl rfl d_Tree_keepNumbers_54 ?_
        refine g_iload d_Tree_keepNumbers_57 rfl ?_
        refine z_tald (k := 3) (j := zl.length) hw.2.2.1 (by decide) rfl (nI_hi (by omega)) hzl hxz d_Tree_keepNumbers_59 ?_
        refine z_get (k := 7) (j := 2) (v := .int (u.2.2.1 (tm zk) 2)) kc_Term fl_Tree_236 (by decide) y1 (by decide) rfl rfl d_Tree_keepNumbers_60 ?_
        rw [y5]
        refine c_Vx (as := [.int (nI f), .int (P 5 zk)]) kv_Tree_keepNumber ml_Tree_239 rfl (x_at (k := 12) (by decide) rfl) (m_T_keepNumber hS1 hc.1 hc.2.1) rfl (Nat.le_of_ble_eq_true rfl) rfl d_Tree_keepNumbers_63 rfl (fun G_63 h_63 => ?_)
        obtain ⟨c1, rfl, hn1⟩ := h_63
        refine g_weak (lv' := [(0, .ref (a + 12)), (1, .ref q0), (2, .int (nI (lA.length + (q1 ++ b :: q2).length))), (3, .int (nI (lA.length + q1.length)))]) (fun q hq => List.mem_append_left _ hq) (by simp) ?_
        exact nxt c1 (by rw [hone]; exact ⟨hn1.1, hn1.2.1, nuF_tr hc.2.2 hn1.2.2⟩)
set_option maxHeartbeats 400000 in
set_option maxRecDepth 100000 in
theorem m_T_keepNumbers (wf : wfA P N pos) (wb : wfB P N) (wk : wfK P N) (tp : tmP P N tm ob T) (tw : tmW P u a tm ob T) {lA qr lB : List Nat} {q0 p f : Nat} {R : List rC} (h : hpOk E a B SS c u n sl (lA ++ (qr ++ lB)) sp ps qs ms) (hR : ∀ A ∈ R, tI P N ob T A.2.1 A.2.2 ∧ ∀ q ∈ A.2.1, aK P q.2 ∧ q.1 < 10000) (hp : p < 10000) (hq6 : zIs u a q0 6) (f0 : u.2.2.1 q0 0 = nI lA.length) (f1 : u.2.2.1 q0 1 = nI qr.length) (f2 : u.2.2.1 q0 2 = nI p) (f6 : u.2.2.1 q0 6 = nI f) (hf : f + R.length ≤ 800) (hl0 : (lA ++ (qr ++ lB)).length ≤ 900) (h7 : c.1 7 = nI f) (hr : rcs u tm qr R) : GM E Y_Tree_keepNumbers (d + 4) [.ref (a + 12), .ref q0] (yW E G a c u n sl) (rPost none (fun G' => ∃ c', G' = yW E G a c' u n sl ∧ nuP c c' f (aSrt [] (nsC P p R)))) := by
  refine g_entry (by decide) (by simp [Value.category]) (Nat.le_of_ble_eq_true rfl) ?_
  have hl1 := hl0
  simp only [List.length_append] at hl1
  refine g_aload_n d_Tree_keepNumbers_0 rfl ?_
  refine z_get (k := 6) (j := 0) (v := .int (u.2.2.1 q0 0)) kc_Question fl_Tree_130 (by decide) hq6 (by decide) rfl rfl d_Tree_keepNumbers_1 ?_
  rw [f0]
  refine g_aload_n d_Tree_keepNumbers_4 rfl ?_
  refine z_get (k := 6) (j := 1) (v := .int (u.2.2.1 q0 1)) kc_Question fl_Tree_195 (by decide) hq6 (by decide) rfl rfl d_Tree_keepNumbers_5 ?_
  rw [f1]
  refine g_iadd d_Tree_keepNumbers_8 ?_
  refine g_top (nI (lA.length + ([] ++ qr).length)) (by rw [List.nil_append]; exact i_nI (add_hi (nI_hi (by omega)) (nI_hi (by omega)) (by omega))) ?_
  refine g_istore_n d_Tree_keepNumbers_9 (by decide) rfl ?_
  refine g_aload_n d_Tree_keepNumbers_10 rfl ?_
  refine z_get (k := 6) (j := 0) (v := .int (u.2.2.1 q0 0)) kc_Question fl_Tree_130 (by decide) hq6 (by decide) rfl rfl d_Tree_keepNumbers_11 ?_
  rw [f0]
  refine g_istore_n d_Tree_keepNumbers_14 (by decide) rfl ?_
  exact m_T_kns15 (lA := lA) (lB := lB) (c0 := c) wf wb wk tp tw h hR hp hq6 f2 f6 hf hl0 (fun c' hc' => ⟨rfl, c', rfl, hc'⟩) qr R [] [] c (by simp) rfl hr ⟨h7, fun i v hv => (by cases hv), nuF_rf⟩
set_option maxHeartbeats 400000 in
set_option maxRecDepth 100000 in
theorem m_T_meaning0 {q0 : Nat} {x : Int32} (hq6 : zIs u a q0 6) (f5 : u.2.2.1 q0 5 = 0) : GM E Y_Tree_meaning d [.ref (a + 12), .ref q0, .int x] (yW E G a c u n sl) (rIs (some (.int x)) (yW E G a c u n sl)) := by
  refine g_entry (by decide) (by simp [Value.category]) (Nat.le_of_ble_eq_true rfl) ?_
  refine g_aload_n d_Tree_meaning_0 rfl ?_
  refine z_get (k := 6) (j := 5) (v := .int (u.2.2.1 q0 5)) kc_Question fl_Tree_137 (by decide) hq6 (by decide) rfl rfl d_Tree_meaning_1 ?_
  rw [f5]
  refine g_if_ne (tgt := 9) d_Tree_meaning_4 (by decide) (fun c_4 => absurd c_4 (by decide)) (fun c_4 => ?_)
  refine g_iload_n d_Tree_meaning_7 rfl ?_
  refine g_iret rfl d_Tree_meaning_8 ?_
  exact ⟨rfl, rfl⟩
set_option maxHeartbeats 400000 in
set_option maxRecDepth 100000 in
theorem m_T_mn36 {q0 f : Nat} {x : Int32} {S : List Int32} (hq6 : zIs u a q0 6) (f6 : u.2.2.1 q0 6 = nI f) (f7 : u.2.2.1 q0 7 = nI (S.length + 1)) (hS : nuA c f S) (hb : f + S.length ≤ 800) : ∀ (S2 S1 : List Int32) (v : Nat), S = S1 ++ S2 → v ≤ S1.length → GT E Y_Tree_meaning d G0 36 [(0, .ref (a + 12)), (1, .ref q0), (2, .int x), (3, .int (nI v)), (4, .int (nI S1.length))] [] (yW E G a c u n sl) (rIs (some (.int (nI (aLst v S2)))) (yW E G a c u n sl)) := by
  intro S2
  induction S2 with
  | nil =>
    intro S1 v e hv
    have hl : S.length = S1.length := by rw [e]; simp
    refine g_iload d_Tree_meaning_36 rfl ?_
    refine g_aload_n d_Tree_meaning_38 rfl ?_
    refine z_get (k := 6) (j := 7) (v := .int (u.2.2.1 q0 7)) kc_Question fl_Tree_72 (by decide) hq6 (by decide) rfl rfl d_Tree_meaning_39 ?_
    rw [f7]
    refine g_iconst (v := 1) d_Tree_meaning_42 (by decide) ?_
    refine g_isub d_Tree_meaning_43 ?_
    refine g_top (nI S.length) (nI_s1 (by omega)) ?_
    refine g_icmp_ge (tgt := 72) d_Tree_meaning_44 (by decide) (fun c_44 => ?_) (fun c_44 => ?_)
    rotate_left
    · exact absurd c_44 (fun q => q (by rw [hl]; exact Int32.le_refl _))
    refine g_iload_n d_Tree_meaning_72 rfl ?_
    refine g_iret rfl d_Tree_meaning_73 ?_
    exact ⟨rfl, rfl⟩
  | cons y S2 ih =>
    intro S1 v e hv
    have hl : S.length = S1.length + (S2.length + 1) := by rw [e]; simp
    have hy : c.2.1 4 (f + S1.length) = y := hS S1.length y (by rw [e]; exact mid_at)
    have e2 : S = (S1 ++ [y]) ++ S2 := by rw [e]; simp
    have hl2 : (S1 ++ [y]).length = S1.length + 1 := by simp
    have K1 := ih (S1 ++ [y]) (v + 1) e2 (by omega)
    have K2 := ih (S1 ++ [y]) v e2 (by omega)
    rw [hl2] at K1 K2
    simp only [aLst]
    by_cases hy2 : y = nI v
    · rw [if_pos hy2]
      refine g_iload d_Tree_meaning_36 rfl ?_
      refine g_aload_n d_Tree_meaning_38 rfl ?_
      refine z_get (k := 6) (j := 7) (v := .int (u.2.2.1 q0 7)) kc_Question fl_Tree_72 (by decide) hq6 (by decide) rfl rfl d_Tree_meaning_39 ?_
      rw [f7]
      refine g_iconst (v := 1) d_Tree_meaning_42 (by decide) ?_
      refine g_isub d_Tree_meaning_43 ?_
      refine g_top (nI S.length) (nI_s1 (by omega)) ?_
      refine g_icmp_ge (tgt := 72) d_Tree_meaning_44 (by decide) (fun c_44 => ?_) (fun c_44 => ?_)
      · exact absurd c_44 (ige (by omega) (by omega) (by omega))
      refine g_aload_n d_Tree_meaning_47 rfl ?_
      refine x_get (k := 12) (j := 5) (v := .ref (a + 18)) kc_Tree fl_Tree_32 (by decide) (by decide) rfl rfl d_Tree_meaning_48 ?_
      refine g_aload_n d_Tree_meaning_51 rfl ?_
      refine z_get (k := 6) (j := 6) (v := .int (u.2.2.1 q0 6)) kc_Question fl_Tree_212 (by decide) hq6 (by decide) rfl rfl d_Tree_meaning_52 ?_
      rw [f6]
      refine g_iload d_Tree_meaning_55 rfl ?_
      refine g_iadd d_Tree_meaning_57 ?_
      refine x_ald (k := 18) (q := f + S1.length) (x := c.2.1 4 (f + S1.length)) (by decide) rfl (add_hi (nI_hi (by omega)) (nI_hi (by omega)) (by omega)) (by omega) rfl d_Tree_meaning_58 ?_
      rw [hy]
      refine g_iload_n d_Tree_meaning_59 rfl ?_
      refine g_icmp_ne (tgt := 66) d_Tree_meaning_60 (by decide) (fun c_60 => ?_) (fun c_60 => ?_)
      · exact absurd c_60 (fun q => q hy2)
      refine g_iinc (v := nI (v + 1)) d_Tree_meaning_63 rfl (nI_1 v) (by decide) rfl ?_
      refine g_iinc (v := nI (S1.length + 1)) d_Tree_meaning_66 rfl (nI_1 _) (by decide) rfl ?_
      refine g_goto (tgt := 36) d_Tree_meaning_69 (by decide) ?_
      exact K1
    · rw [if_neg hy2]
      refine g_iload d_Tree_meaning_36 rfl ?_
      refine g_aload_n d_Tree_meaning_38 rfl ?_
      refine z_get (k := 6) (j := 7) (v := .int (u.2.2.1 q0 7)) kc_Question fl_Tree_72 (by decide) hq6 (by decide) rfl rfl d_Tree_meaning_39 ?_
      rw [f7]
      refine g_iconst (v := 1) d_Tree_meaning_42 (by decide) ?_
      refine g_isub d_Tree_meaning_43 ?_
      refine g_top (nI S.length) (nI_s1 (by omega)) ?_
      refine g_icmp_ge (tgt := 72) d_Tree_meaning_44 (by decide) (fun c_44 => ?_) (fun c_44 => ?_)
      · exact absurd c_44 (ige (by omega) (by omega) (by omega))
      refine g_aload_n d_Tree_meaning_47 rfl ?_
      refine x_get (k := 12) (j := 5) (v := .ref (a + 18)) kc_Tree fl_Tree_32 (by decide) (by decide) rfl rfl d_Tree_meaning_48 ?_
      refine g_aload_n d_Tree_meaning_51 rfl ?_
      refine z_get (k := 6) (j := 6) (v := .int (u.2.2.1 q0 6)) kc_Question fl_Tree_212 (by decide) hq6 (by decide) rfl rfl d_Tree_meaning_52 ?_
      rw [f6]
      refine g_iload d_Tree_meaning_55 rfl ?_
      refine g_iadd d_Tree_meaning_57 ?_
      refine x_ald (k := 18) (q := f + S1.length) (x := c.2.1 4 (f + S1.length)) (by decide) rfl (add_hi (nI_hi (by omega)) (nI_hi (by omega)) (by omega)) (by omega) rfl d_Tree_meaning_58 ?_
      rw [hy]
      refine g_iload_n d_Tree_meaning_59 rfl ?_
      refine g_icmp_ne (tgt := 66) d_Tree_meaning_60 (by decide) (fun c_60 => ?_) (fun c_60 => ?_)
      rotate_left
      · exact absurd c_60 (fun q => hy2 q)
      refine g_iinc (v := nI (S1.length + 1)) d_Tree_meaning_66 rfl (nI_1 _) (by decide) rfl ?_
      refine g_goto (tgt := 36) d_Tree_meaning_69 (by decide) ?_
      exact K2
set_option maxHeartbeats 400000 in
set_option maxRecDepth 100000 in
theorem m_T_meaning1 {q0 f k : Nat} {S : List Int32} (hq6 : zIs u a q0 6) (f5 : u.2.2.1 q0 5 = 1) (f6 : u.2.2.1 q0 6 = nI f) (f7 : u.2.2.1 q0 7 = nI (S.length + 1)) (hS : nuA c f S) (hb : f + S.length ≤ 800) (hk : k < 10000) : GM E Y_Tree_meaning d [.ref (a + 12), .ref q0, .int (nI k)] (yW E G a c u n sl) (rIs (some (.int (match S[k]? with | some v => v | none => nI (aLst 0 S)))) (yW E G a c u n sl)) := by
  refine g_entry (by decide) (by simp [Value.category]) (Nat.le_of_ble_eq_true rfl) ?_
  by_cases hlt : k < S.length
  · obtain ⟨v, hv⟩ : ∃ v, S[k]? = some v := ⟨S[k], List.getElem?_eq_getElem hlt⟩
    have hv2 : c.2.1 4 (f + k) = v := hS k v hv
    rw [hv]
    refine g_aload_n d_Tree_meaning_0 rfl ?_
    refine z_get (k := 6) (j := 5) (v := .int (u.2.2.1 q0 5)) kc_Question fl_Tree_137 (by decide) hq6 (by decide) rfl rfl d_Tree_meaning_1 ?_
    rw [f5]
    refine g_if_ne (tgt := 9) d_Tree_meaning_4 (by decide) (fun c_4 => ?_) (fun c_4 => absurd c_4 (by decide))
    refine g_iload_n d_Tree_meaning_9 rfl ?_
    refine g_aload_n d_Tree_meaning_10 rfl ?_
    refine z_get (k := 6) (j := 7) (v := .int (u.2.2.1 q0 7)) kc_Question fl_Tree_72 (by decide) hq6 (by decide) rfl rfl d_Tree_meaning_11 ?_
    rw [f7]
    refine g_iconst (v := 1) d_Tree_meaning_14 (by decide) ?_
    refine g_isub d_Tree_meaning_15 ?_
    refine g_top (nI S.length) (nI_s1 (by omega)) ?_
    refine g_icmp_ge (tgt := 31) d_Tree_meaning_16 (by decide) (fun c_16 => ?_) (fun c_16 => ?_)
    · exact absurd c_16 (ige (by omega) (by omega) hlt)
    refine g_aload_n d_Tree_meaning_19 rfl ?_
    refine x_get (k := 12) (j := 5) (v := .ref (a + 18)) kc_Tree fl_Tree_32 (by decide) (by decide) rfl rfl d_Tree_meaning_20 ?_
    refine g_aload_n d_Tree_meaning_23 rfl ?_
    refine z_get (k := 6) (j := 6) (v := .int (u.2.2.1 q0 6)) kc_Question fl_Tree_212 (by decide) hq6 (by decide) rfl rfl d_Tree_meaning_24 ?_
    rw [f6]
    refine g_iload_n d_Tree_meaning_27 rfl ?_
    refine g_iadd d_Tree_meaning_28 ?_
    refine x_ald (k := 18) (q := f + k) (x := c.2.1 4 (f + k)) (by decide) rfl (add_hi (nI_hi (by omega)) (nI_hi (by omega)) (by omega)) (by omega) rfl d_Tree_meaning_29 ?_
    rw [hv2]
    refine g_iret rfl d_Tree_meaning_30 ?_
    exact ⟨rfl, rfl⟩
  · rw [List.getElem?_eq_none (by omega)]
    refine g_aload_n d_Tree_meaning_0 rfl ?_
    refine z_get (k := 6) (j := 5) (v := .int (u.2.2.1 q0 5)) kc_Question fl_Tree_137 (by decide) hq6 (by decide) rfl rfl d_Tree_meaning_1 ?_
    rw [f5]
    refine g_if_ne (tgt := 9) d_Tree_meaning_4 (by decide) (fun c_4 => ?_) (fun c_4 => absurd c_4 (by decide))
    refine g_iload_n d_Tree_meaning_9 rfl ?_
    refine g_aload_n d_Tree_meaning_10 rfl ?_
    refine z_get (k := 6) (j := 7) (v := .int (u.2.2.1 q0 7)) kc_Question fl_Tree_72 (by decide) hq6 (by decide) rfl rfl d_Tree_meaning_11 ?_
    rw [f7]
    refine g_iconst (v := 1) d_Tree_meaning_14 (by decide) ?_
    refine g_isub d_Tree_meaning_15 ?_
    refine g_top (nI S.length) (nI_s1 (by omega)) ?_
    refine g_icmp_ge (tgt := 31) d_Tree_meaning_16 (by decide) (fun c_16 => ?_) (fun c_16 => ?_)
    rotate_left
    · exact absurd c_16 (ilt (by omega) (by omega) (by omega))
    refine g_iconst (v := 0) d_Tree_meaning_31 (by decide) ?_
    refine g_istore_n d_Tree_meaning_32 (by decide) rfl ?_
    refine g_iconst (v := 0) d_Tree_meaning_33 (by decide) ?_
    refine g_istore d_Tree_meaning_34 (by decide) rfl ?_
    exact m_T_mn36 hq6 f6 f7 hS hb S [] 0 rfl (Nat.zero_le _)
/-- where a number stands; behind all of them if it doesn't -/
def ixS (v : Int32) : List Int32 → Nat
  | [] => 0
  | x :: r => if x = v then 0 else 1 + ixS v r
set_option maxHeartbeats 400000 in
set_option maxRecDepth 100000 in
theorem m_T_answerFor0 {q0 t : Nat} (hq6 : zIs u a q0 6) (f5 : u.2.2.1 q0 5 = 0) (ht : zIs u a t 7) : GM E Y_Tree_answerFor d [.ref (a + 12), .ref q0, .ref t] (yW E G a c u n sl) (rIs (some (.int (u.2.2.1 t 2))) (yW E G a c u n sl)) := by
  refine g_entry (by decide) (by simp [Value.category]) (Nat.le_of_ble_eq_true rfl) ?_
  refine g_aload_n d_Tree_answerFor_0 rfl ?_
  refine z_get (k := 6) (j := 5) (v := .int (u.2.2.1 q0 5)) kc_Question fl_Tree_137 (by decide) hq6 (by decide) rfl rfl d_Tree_answerFor_1 ?_
  rw [f5]
  refine g_if_ne (tgt := 12) d_Tree_answerFor_4 (by decide) (fun c_4 => absurd c_4 (by decide)) (fun c_4 => ?_)
  refine g_aload_n d_Tree_answerFor_7 rfl ?_
  refine z_get (k := 7) (j := 2) (v := .int (u.2.2.1 t 2)) kc_Term fl_Tree_236 (by decide) ht (by decide) rfl rfl d_Tree_answerFor_8 ?_
  refine g_iret rfl d_Tree_answerFor_11 ?_
  exact ⟨rfl, rfl⟩
set_option maxHeartbeats 400000 in
set_option maxRecDepth 100000 in
theorem m_T_af14 {q0 f t : Nat} {S : List Int32} (hq6 : zIs u a q0 6) (ht : zIs u a t 7) (f6 : u.2.2.1 q0 6 = nI f) (f7 : u.2.2.1 q0 7 = nI (S.length + 1)) (hS : nuA c f S) (hb : f + S.length ≤ 800) : ∀ (S2 S1 : List Int32), S = S1 ++ S2 → GT E Y_Tree_answerFor d G0 14 [(0, .ref (a + 12)), (1, .ref q0), (2, .ref t), (3, .int (nI S1.length))] [] (yW E G a c u n sl) (rIs (some (.int (nI (S1.length + ixS (u.2.2.1 t 2) S2)))) (yW E G a c u n sl)) := by
  intro S2
  induction S2 with
  | nil =>
    intro S1 e
    have hl : S.length = S1.length := by rw [e]; simp
    refine g_iload_n d_Tree_answerFor_14 rfl ?_
    refine g_aload_n d_Tree_answerFor_15 rfl ?_
    refine z_get (k := 6) (j := 7) (v := .int (u.2.2.1 q0 7)) kc_Question fl_Tree_72 (by decide) hq6 (by decide) rfl rfl d_Tree_answerFor_16 ?_
    rw [f7]
    refine g_iconst (v := 1) d_Tree_answerFor_19 (by decide) ?_
    refine g_isub d_Tree_answerFor_20 ?_
    refine g_top (nI S.length) (nI_s1 (by omega)) ?_
    refine g_icmp_ge (tgt := 48) d_Tree_answerFor_21 (by decide) (fun c_21 => ?_) (fun c_21 => ?_)
    rotate_left
    · exact absurd c_21 (fun q => q (by rw [hl]; exact Int32.le_refl _))
    refine g_iload_n d_Tree_answerFor_48 rfl ?_
    refine g_iret rfl d_Tree_answerFor_49 ?_
    exact ⟨rfl, rfl⟩
  | cons y S2 ih =>
    intro S1 e
    have hl : S.length = S1.length + (S2.length + 1) := by rw [e]; simp
    have hy : c.2.1 4 (f + S1.length) = y := hS S1.length y (by rw [e]; exact mid_at)
    have e2 : S = (S1 ++ [y]) ++ S2 := by rw [e]; simp
    have hl2 : (S1 ++ [y]).length = S1.length + 1 := by simp
    have K1 := ih (S1 ++ [y]) e2
    rw [hl2] at K1
    simp only [ixS]
    by_cases hy2 : y = u.2.2.1 t 2
    · rw [if_pos hy2]
      refine g_iload_n d_Tree_answerFor_14 rfl ?_
      refine g_aload_n d_Tree_answerFor_15 rfl ?_
      refine z_get (k := 6) (j := 7) (v := .int (u.2.2.1 q0 7)) kc_Question fl_Tree_72 (by decide) hq6 (by decide) rfl rfl d_Tree_answerFor_16 ?_
      rw [f7]
      refine g_iconst (v := 1) d_Tree_answerFor_19 (by decide) ?_
      refine g_isub d_Tree_answerFor_20 ?_
      refine g_top (nI S.length) (nI_s1 (by omega)) ?_
      refine g_icmp_ge (tgt := 48) d_Tree_answerFor_21 (by decide) (fun c_21 => ?_) (fun c_21 => ?_)
      · exact absurd c_21 (ige (by omega) (by omega) (by omega))
      refine g_aload_n d_Tree_answerFor_24 rfl ?_
      refine x_get (k := 12) (j := 5) (v := .ref (a + 18)) kc_Tree fl_Tree_32 (by decide) (by decide) rfl rfl d_Tree_answerFor_25 ?_
      refine g_aload_n d_Tree_answerFor_28 rfl ?_
      refine z_get (k := 6) (j := 6) (v := .int (u.2.2.1 q0 6)) kc_Question fl_Tree_212 (by decide) hq6 (by decide) rfl rfl d_Tree_answerFor_29 ?_
      rw [f6]
      refine g_iload_n d_Tree_answerFor_32 rfl ?_
      refine g_iadd d_Tree_answerFor_33 ?_
      refine x_ald (k := 18) (q := f + S1.length) (x := c.2.1 4 (f + S1.length)) (by decide) rfl (add_hi (nI_hi (by omega)) (nI_hi (by omega)) (by omega)) (by omega) rfl d_Tree_answerFor_34 ?_
      rw [hy]
      refine g_aload_n d_Tree_answerFor_35 rfl ?_
      refine z_get (k := 7) (j := 2) (v := .int (u.2.2.1 t 2)) kc_Term fl_Tree_236 (by decide) ht (by decide) rfl rfl d_Tree_answerFor_36 ?_
      refine g_icmp_eq (tgt := 48) d_Tree_answerFor_39 (by decide) (fun c_39 => ?_) (fun c_39 => ?_)
      rotate_left
      · exact absurd c_39 (fun q => q hy2)
      refine g_iload_n d_Tree_answerFor_48 rfl ?_
      refine g_iret rfl d_Tree_answerFor_49 ?_
      exact ⟨rfl, rfl⟩
    · rw [if_neg hy2, ← Nat.add_assoc]
      refine g_iload_n d_Tree_answerFor_14 rfl ?_
      refine g_aload_n d_Tree_answerFor_15 rfl ?_
      refine z_get (k := 6) (j := 7) (v := .int (u.2.2.1 q0 7)) kc_Question fl_Tree_72 (by decide) hq6 (by decide) rfl rfl d_Tree_answerFor_16 ?_
      rw [f7]
      refine g_iconst (v := 1) d_Tree_answerFor_19 (by decide) ?_
      refine g_isub d_Tree_answerFor_20 ?_
      refine g_top (nI S.length) (nI_s1 (by omega)) ?_
      refine g_icmp_ge (tgt := 48) d_Tree_answerFor_21 (by decide) (fun c_21 => ?_) (fun c_21 => ?_)
      · exact absurd c_21 (ige (by omega) (by omega) (by omega))
      refine g_aload_n d_Tree_answerFor_24 rfl ?_
      refine x_get (k := 12) (j := 5) (v := .ref (a + 18)) kc_Tree fl_Tree_32 (by decide) (by decide) rfl rfl d_Tree_answerFor_25 ?_
      refine g_aload_n d_Tree_answerFor_28 rfl ?_
      refine z_get (k := 6) (j := 6) (v := .int (u.2.2.1 q0 6)) kc_Question fl_Tree_212 (by decide) hq6 (by decide) rfl rfl d_Tree_answerFor_29 ?_
      rw [f6]
      refine g_iload_n d_Tree_answerFor_32 rfl ?_
      refine g_iadd d_Tree_answerFor_33 ?_
      refine x_ald (k := 18) (q := f + S1.length) (x := c.2.1 4 (f + S1.length)) (by decide) rfl (add_hi (nI_hi (by omega)) (nI_hi (by omega)) (by omega)) (by omega) rfl d_Tree_answerFor_34 ?_
      rw [hy]
      refine g_aload_n d_Tree_answerFor_35 rfl ?_
      refine z_get (k := 7) (j := 2) (v := .int (u.2.2.1 t 2)) kc_Term fl_Tree_236 (by decide) ht (by decide) rfl rfl d_Tree_answerFor_36 ?_
      refine g_icmp_eq (tgt := 48) d_Tree_answerFor_39 (by decide) (fun c_39 => ?_) (fun c_39 => ?_)
      · exact absurd c_39 hy2
      refine g_iinc (v := nI (S1.length + 1)) d_Tree_answerFor_42 rfl (nI_1 _) (by decide) rfl ?_
      refine g_goto (tgt := 14) d_Tree_answerFor_45 (by decide) ?_
      exact K1
set_option maxHeartbeats 400000 in
set_option maxRecDepth 100000 in
theorem m_T_answerFor1 {q0 f t : Nat} {S : List Int32} (hq6 : zIs u a q0 6) (ht : zIs u a t 7) (f5 : u.2.2.1 q0 5 = 1) (f6 : u.2.2.1 q0 6 = nI f) (f7 : u.2.2.1 q0 7 = nI (S.length + 1)) (hS : nuA c f S) (hb : f + S.length ≤ 800) : GM E Y_Tree_answerFor d [.ref (a + 12), .ref q0, .ref t] (yW E G a c u n sl) (rIs (some (.int (nI (ixS (u.2.2.1 t 2) S)))) (yW E G a c u n sl)) := by
  refine g_entry (by decide) (by simp [Value.category]) (Nat.le_of_ble_eq_true rfl) ?_
  refine g_aload_n d_Tree_answerFor_0 rfl ?_
  refine z_get (k := 6) (j := 5) (v := .int (u.2.2.1 q0 5)) kc_Question fl_Tree_137 (by decide) hq6 (by decide) rfl rfl d_Tree_answerFor_1 ?_
  rw [f5]
  refine g_if_ne (tgt := 12) d_Tree_answerFor_4 (by decide) (fun c_4 => ?_) (fun c_4 => absurd c_4 (by decide))
  refine g_iconst (v := 0) d_Tree_answerFor_12 (by decide) ?_
  refine g_istore_n d_Tree_answerFor_13 (by decide) rfl ?_
  have K := m_T_af14 (E := E) (d := d) (G := G) (G0 := yW E G a c u n sl) (n := n) (sl := sl) hq6 ht f6 f7 hS hb S [] rfl
  rw [List.length_nil, Nat.zero_add] at K
  exact K
end CF
