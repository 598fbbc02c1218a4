/-! The law, on every script -/
theorem k_step {E : gE} {a k D : Nat} {G : gS} (hk : k < 512) (h : LI E a k G) : gStep E (D + 41) a (a + 24) (a + 65) G (LI E a (k + 1)) := by
  rcases h with h | ⟨c, u, n, sl, s, fo, hl, hR⟩
  · omega
  · exact ⟨lI_a hl, k_type hl hR hk, k_argument hl hR hk, k_any hl hR hk, k_number hl hR hk, k_make hl hR hk, k_either hl hR hk, k_name hl hR hk, k_addCase hl hR hk, k_build hl hR hk, k_match hl hR hk, k_bound hl hR hk, k_boundAt hl hR hk, k_question hl hR hk, k_about hl hR hk, k_pop hl hR hk, k_asked hl hR hk, k_missing hl hR hk, k_unused hl hR hk, k_clear hl hR hk⟩
theorem law_all {E : gE} {b L : Nat} {xs : Nat → Int32} (hB : gBase gCl E) (hs : gScr E b L xs) (hL : L ≤ 2048) : GM E Y_law 100 [.ref b] (g00 E) lwQ :=
  law_start (E := E) (d := 93) hs hL (LI E) (fun G h z1 z2 => LI_0 hB h z1 z2) LI_mono (fun a k G hk hI => k_step (D := 58) (by omega) hI)
