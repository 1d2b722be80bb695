
/-! the law's cases that change the cut, begin and reading -/
theorem rec_2 (ar fd : AR) (P : Nat → Int32) (o z : Nat) : (sp_record (zu ar 101 P) fd o z).2 = (sp_record ar fd o z).2 := by
  unfold sp_record
  by_cases q : 4 ≤ z
  · rw [iz_t q, iz_t q]
  · rw [iz_f q, iz_f q]
theorem cpA_101 {d : Nat} (ar : AR) (P : Nat → Int32) {k : Nat} (hk : k ≠ 101) : cpA d 1 (zu ar 101 P) k = cpA d 1 ar k := by
  unfold cpA
  rw [zu_n ar P (show 1 + 2 ≠ 101 by decide), zu_n ar P (show 1 + 4 ≠ 101 by decide), zu_n ar P (show 1 + 6 ≠ 101 by decide), zu_n ar P (show 1 + 8 ≠ 101 by decide), zu_n ar P (show 1 + 10 ≠ 101 by decide), zu_n ar P (show 1 + 12 ≠ 101 by decide), zu_n ar P (show 1 + 14 ≠ 101 by decide)]
  simp only [zu, if_neg hk]
theorem rec_101 (ar fd : AR) (P : Nat → Int32) (o z : Nat) {k : Nat} (hk : k ≠ 101) : (sp_record (zu ar 101 P) fd o z).1 k = (sp_record ar fd o z).1 k := by
  unfold sp_record
  by_cases q : 4 ≤ z
  · rw [iz_t q, iz_t q]; exact cpA_101 ar P hk
  · rw [iz_f q, iz_f q]; exact cpA_101 ar P hk
/-- both have recorded; the model's row holds the new state -/
theorem RR_rec {ar fd ar1 fd1 ar3 fd3 : AR} {w f o z n w2 f2 : Nat} (h : RR ar fd w f o z n) (hA1 : ∀ k, 16 ≤ k → ¬ SCR k → ar1 k = (sp_record ar fd o z).1 k) (hF1 : ∀ k, k ≠ 1 → k ≠ 102 → fd1 k = (sp_record ar fd o z).2 k) (hF2 : fd1 102 4 = fd 102 4 ∧ fd1 102 6 = fd 102 6) (hA3 : ∀ k, ¬ SCR k → k ≠ 103 → ar3 k = rcA ar1 z k) (hF3 : fd3 = rcF fd1 z) (hnew : RB (ar3 103) ar3 (fd3 1) w2 f2) : RR ar3 fd3 w2 f2 (oz o z) (pz z) n := by
  have e3 : ar1 103 = ar 103 := (hA1 103 (by decide) (by unfold SCR; omega)).trans (rec_ar (by decide))
  have e4 : ar1 104 = ar 104 := (hA1 104 (by decide) (by unfold SCR; omega)).trans (rec_ar (by decide))
  refine RR_step h hnew (fun k h1 h2 h3 h4 => ?_) ?_ (fun k h1 h2 => ?_) ⟨?_, ?_, ?_⟩
  · rw [hA3 k h2 h3, rcA_n h4]; exact hA1 k h1 h2
  · rw [hA3 104 (by unfold SCR; omega) (by decide)]
    unfold rcA
    rw [zu_s, e3, e4]
  · rw [hF3]; unfold rcF; rw [zu_n _ _ h2]; exact hF1 k h1 h2
  · rw [hF3]; unfold rcF; rw [zu_s, zu_s]
  · rw [hF3]; unfold rcF; rw [zu_s, zu_n _ _ (by decide)]; exact hF2.1
  · rw [hF3]; unfold rcF; rw [zu_s, zu_n _ _ (by decide)]; exact hF2.2
/-- another draft -/
theorem RB_pl {g : Nat → Int32} {A A2 : AR} {F : Nat → Int32} {w f : Nat} {P : Nat → Int32} (h10 : F 10 = 0) (hP1 : ∀ c, c < 36 → P c = -1 ∨ ∃ q, q < w - f ∧ P c = nI q) (hP2 : ∀ c, c < 36 → ¬ A 9 c = -1 → P c = -1) (hA : ∀ q, q = 3 ∨ q = 5 ∨ q = 9 ∨ q = 11 ∨ q = 13 ∨ q = 15 → A2 q = A q) (y7 : A2 7 = P) (h : RB g A F w f) : RB (bl g 79 36 P) A2 F w f := by
  obtain ⟨⟨a1, a2, a3, a4, a5⟩, ⟨b1, b2⟩, ⟨c1, c2⟩, ⟨d1, d2, d3⟩, e1, ⟨f1, f2⟩⟩ := h
  have x3 := hA 3 (by decide)
  have x5 := hA 5 (by decide)
  have x9 := hA 9 (by decide)
  have x11 := hA 11 (by decide)
  have x13 := hA 13 (by decide)
  have x15 := hA 15 (by decide)
  have o : ∀ k, k < 79 ∨ 115 ≤ k → bl g 79 36 P k = g k := fun k hk => bl_o (by omega)
  unfold RB
  rw [x3, x5, x9, x11, y7]
  refine ⟨⟨a1, a2, ?_, a4, a5⟩, ⟨b1, fun z => ⟨fun d hd => ?_, ?_⟩⟩, ⟨c1, c2⟩, ⟨hP1, d2, hP2⟩, e1, ⟨f1, fun hf => ?_⟩⟩
  · obtain ⟨h1, h2, h3, h4, h5, h6, h7, h8, h9, h10, h11, h12, h13, h14, h15', h16⟩ := a3
    refine ⟨fun d hd => ?_, fun d hd => ?_, fun d hd => ?_, fun d hd => ?_, fun d hd => ?_, ?_, ?_, ?_, ?_, ?_, ?_, h12, h13, h14, fun d hd => ?_, fun d hd => ?_⟩
    · rw [o _ (by omega), x3]; exact h1 d hd
    · rw [o _ (by omega), x5]; exact h2 d hd
    · rw [bl_in hd, y7]
    · rw [o _ (by omega), x9]; exact h4 d hd
    · rw [o _ (by omega), x13]; exact h5 d hd
    · rw [o _ (by omega), x15]; exact h6
    · rw [o _ (by omega), x15]; exact h7
    · rw [o _ (by omega)]; exact h8
    · rw [o _ (by omega)]; exact h9
    · rw [o _ (by omega)]; exact h10
    · rw [o _ (by omega)]; exact h11
    · rw [y7]
      rcases hP1 d hd with e | ⟨q, hq, e⟩
      · rw [e]; decide
      · rw [e]
        intro z
        rw [lt_iI, nI_toInt (by omega), t_m1] at z
        omega
    · rw [x9]; exact h16 d hd
  · rw [o _ (by omega)]; exact (b2 z).1 d hd
  · rw [o _ (by omega)]; exact (b2 z).2
  · rw [h10] at hf; exact absurd hf (by decide)
theorem JS_k {a b : AR} (h : JS a b) {k : Nat} (hk : ¬ SCR k) : b k = a k := h k (fun e => hk (by unfold SCR; omega)) (fun e => hk (by unfold SCR; omega)) (fun e => hk (by unfold SCR; omega))
theorem k_snake {ar fd : AR} {w f o z n : Nat} (h : RR ar fd w f o z n) (b : Int32) {c : Int32 × AR × AR} (hc : c = sp_snake ar fd w f o z n b) {ar1 ar3 fd3 : AR} {r : Int32} (hJ : JQ c.2.1 ar1) (hp : (¬ fd 1 10 = 0 ∧ r = -4 ∧ ar3 = ar1 ∧ fd3 = c.2.2) ∨ (fd 1 10 = 0 ∧ (∀ j, j < 36 → (plF (ar 9) (¬ b = 0) (36 / w)) j = ar 7 j) ∧ r = -5 ∧ JS ar1 ar3 ∧ fd3 = c.2.2) ∨ (fd 1 10 = 0 ∧ ¬ (∀ j, j < 36 → (plF (ar 9) (¬ b = 0) (36 / w)) j = ar 7 j) ∧ r = bz (rsnA (zu ar 7 (plF (ar 9) (¬ b = 0) (36 / w))) w f = nI 0) ∧ JS (zu (rcA ar1 z) 103 (bl (ar1 103) 79 36 (plF (ar 9) (¬ b = 0) (36 / w)))) ar3 ∧ fd3 = rcF c.2.2 z)) : r = c.1 ∧ ∃ w2 f2 o2 z2 n2, RR ar3 fd3 w2 f2 o2 z2 n2 := by
  have h0 := h
  obtain ⟨hci, hr, hh, ⟨hs1, hs2⟩, ⟨t1, t2, t3⟩⟩ := h0
  obtain ⟨-, -, -, -, -, ⟨f1, -⟩⟩ := id hr
  unfold sp_snake at hc
  by_cases q1 : fd 1 10 = 0
  · rw [iz_t q1] at hc
    have hpl : ∀ c, c < 36 → (plF (ar 9) (¬ b = 0) (36 / w) c = -1 ∨ ∃ q, q < w - f ∧ plF (ar 9) (¬ b = 0) (36 / w) c = nI q) ∧ (¬ ar 9 c = -1 → plF (ar 9) (¬ b = 0) (36 / w) c = -1) := fun c hc => plF_ok f1 hc
    generalize plF (ar 9) (¬ b = 0) (36 / w) = P at hc hp hpl
    have eq : (∀ i, i < 36 → zu ar 101 P 101 i = zu ar 101 P 7 i) ↔ ∀ i, i < 36 → P i = ar 7 i := by rw [zu_s, zu_n _ _ (show (7 : Nat) ≠ 101 by decide)]
    by_cases q2 : ∀ j, j < 36 → P j = ar 7 j
    · rw [iz_t (eq.mpr q2)] at hc
      rcases hp with ⟨p1, -⟩ | ⟨-, -, p2, p3, p4⟩ | ⟨-, p2, -⟩
      · exact absurd q1 p1
      · subst hc
        dsimp only at hJ p4 ⊢
        refine ⟨p2, w, f, o, z, n, ?_⟩
        rw [p4]
        refine RR_same h (fun k hk => ?_) (fun _ _ => rfl) ⟨rfl, rfl, rfl⟩
        rw [JS_k p3 hk, hJ k (fun e => hk (by unfold SCR; omega)) (fun e => hk (by unfold SCR; omega)), zu_n _ _ (fun e => hk (by unfold SCR; omega))]
      · exact absurd q2 p2
    · rw [iz_f (fun e => q2 (eq.mp e))] at hc
      rcases hp with ⟨p1, -⟩ | ⟨-, p2, -⟩ | ⟨-, -, p2, p3, p4⟩
      · exact absurd q1 p1
      · exact absurd p2 q2
      · subst hc
        dsimp only at hJ p4 ⊢
        have r101 : (sp_record (zu ar 101 P) fd o z).1 101 = P := (rec_ar (by decide)).trans (zu_s _ _ _)
        rw [r101] at hJ ⊢
        rw [rec_2] at p4
        have k1 : ∀ k, k ≠ 97 → k ≠ 99 → k ≠ 7 → k ≠ 101 → ar1 k = (sp_record ar fd o z).1 k := fun k h1 h2 h3 h4 => by rw [hJ k h1 h2, zu_n _ _ h3, rec_101 _ _ _ _ _ h4]
        have k7 : ar1 7 = P := by rw [hJ 7 (by decide) (by decide), zu_s]
        have k3 : ar1 103 = ar 103 := (k1 103 (by decide) (by decide) (by decide) (by decide)).trans (rec_ar (by decide))
        refine ⟨?_, w, f, oz o z, pz z, n, RR_rec (ar1 := ar1) (fd1 := (sp_record ar fd o z).2) h (fun k h1 h2 => k1 k (fun e => h2 (by unfold SCR; omega)) (fun e => h2 (by unfold SCR; omega)) (by omega) (fun e => h2 (by unfold SCR; omega))) (fun _ _ _ => rfl) ⟨by rw [rec_fd (by decide)], by rw [rec_fd (by decide)]⟩ (fun k h1 h2 => by rw [JS_k p3 h1, zu_n _ _ h2]) p4 ?_⟩
        · rw [p2]
          refine bz_c ?_
          rw [rsnA_c (A := zu ar 7 P) (A2 := zu (sp_record (zu ar 101 P) fd o z).1 7 P) (by rw [zu_s, zu_s]) (by rw [zu_n _ _ (by decide), zu_n _ _ (by decide), rec_101 _ _ _ _ _ (by decide)]; exact rec_ar (by decide))]
        · rw [JS_k p3 (k := 103) (by unfold SCR; omega), zu_s, k3, p4]
          refine RB_c (F := fd 1) (A := zu ar 7 P) (fun _ _ => rfl) (fun q hq => ?_) ?_ (RB_pl q1 (fun c hc => (hpl c hc).1) (fun c hc => (hpl c hc).2) (fun q hq => zu_n _ _ (by omega)) (zu_s _ _ _) hr)
          · rw [JS_k p3 (k := q) (by unfold SCR; omega), zu_n _ _ (by omega), rcA_n (by omega)]
            by_cases e7 : q = 7
            · rw [e7, k7, zu_s]
            · rw [k1 q (by omega) (by omega) e7 (by omega), zu_n _ _ e7]; exact rec_ar (by omega)
          · unfold rcF
            rw [zu_n _ _ (by decide), rec_fd (by decide)]
            exact ⟨rfl, rfl, rfl, rfl⟩
  · rw [iz_f q1] at hc
    rcases hp with ⟨-, p2, p3, p4⟩ | ⟨p1, -⟩ | ⟨p1, -⟩
    · subst hc
      dsimp only at hJ p4 ⊢
      refine ⟨p2, w, f, o, z, n, ?_⟩
      rw [p4, p3]
      exact RR_same h (fun k hk => hJ k (fun e => hk (by unfold SCR; omega)) (fun e => hk (by unfold SCR; omega))) (fun _ _ => rfl) ⟨rfl, rfl, rfl⟩
    · exact absurd p1 q1
    · exact absurd p1 q1
theorem k_adopt {ar fd : AR} {w f o z n : Nat} (h : RR ar fd w f o z n) {c : Int32 × AR × AR} (hc : c = sp_adopt ar fd w f o z n) {ar3 fd3 : AR} {r : Int32} (hp : (¬ fd 1 10 = 0 ∧ r = -4 ∧ ar3 = c.2.1 ∧ fd3 = c.2.2) ∨ (fd 1 10 = 0 ∧ f = 0 ∧ r = -4 ∧ ar3 = c.2.1 ∧ fd3 = c.2.2) ∨ (fd 1 10 = 0 ∧ ¬ f = 0 ∧ (∀ j, j < 36 → ar 11 j = ar 7 j) ∧ r = -5 ∧ JS c.2.1 ar3 ∧ fd3 = c.2.2) ∨ (fd 1 10 = 0 ∧ ¬ f = 0 ∧ ¬ (∀ j, j < 36 → ar 11 j = ar 7 j) ∧ r = nI (w - f) ∧ JS (zu (rcA c.2.1 z) 103 (bl (c.2.1 103) 79 36 (ar 11))) ar3 ∧ fd3 = rcF c.2.2 z)) : r = c.1 ∧ ∃ w2 f2 o2 z2 n2, RR ar3 fd3 w2 f2 o2 z2 n2 := by
  have h0 := h
  obtain ⟨hci, hr, hh, ⟨hs1, hs2⟩, ⟨t1, t2, t3⟩⟩ := h0
  obtain ⟨-, -, -, -, e1, -⟩ := id hr
  unfold sp_adopt at hc
  by_cases q1 : fd 1 10 = 0
  · rw [iz_t q1] at hc
    have e1 := e1 (by rw [q1]; decide)
    by_cases q2 : f = 0
    · rw [iz_t q2] at hc
      rcases hp with ⟨p1, -⟩ | ⟨-, -, p2, p3, p4⟩ | ⟨-, p2, -⟩ | ⟨-, p2, -⟩
      · exact absurd q1 p1
      · subst hc
        refine ⟨p2, w, f, o, z, n, ?_⟩
        rw [p3, p4]
        exact h
      · exact absurd q2 p2
      · exact absurd q2 p2
    · rw [iz_f q2] at hc
      by_cases q3 : ∀ j, j < 36 → ar 11 j = ar 7 j
      · rw [iz_t q3] at hc
        rcases hp with ⟨p1, -⟩ | ⟨-, p2, -⟩ | ⟨-, -, -, p2, p3, p4⟩ | ⟨-, -, p2, -⟩
        · exact absurd q1 p1
        · exact absurd p2 q2
        · subst hc
          refine ⟨p2, w, f, o, z, n, ?_⟩
          rw [p4]
          exact RR_same h (fun k hk => JS_k p3 hk) (fun _ _ => rfl) ⟨rfl, rfl, rfl⟩
        · exact absurd q3 p2
      · rw [iz_f q3] at hc
        rcases hp with ⟨p1, -⟩ | ⟨-, p2, -⟩ | ⟨-, -, p2, -⟩ | ⟨-, -, -, p2, p3, p4⟩
        · exact absurd q1 p1
        · exact absurd p2 q2
        · exact absurd p2 q3
        · subst hc
          dsimp only at p3 p4 ⊢
          have r11 : (sp_record ar fd o z).1 11 = ar 11 := rec_ar (by decide)
          rw [r11] at p3
          have k3 : zu (sp_record ar fd o z).1 7 (ar 11) 103 = ar 103 := (zu_n _ _ (by decide)).trans (rec_ar (by decide))
          refine ⟨p2, w, f, oz o z, pz z, n, RR_rec (ar1 := zu (sp_record ar fd o z).1 7 (ar 11)) (fd1 := (sp_record ar fd o z).2) h (fun k h1 h2 => zu_n _ _ (by omega)) (fun _ _ _ => rfl) ⟨by rw [rec_fd (by decide)], by rw [rec_fd (by decide)]⟩ (fun k h1 h2 => by rw [JS_k p3 h1, zu_n _ _ h2]) p4 ?_⟩
          rw [JS_k p3 (k := 103) (by unfold SCR; omega), zu_s, k3, p4]
          refine RB_c (F := fd 1) (A := zu ar 7 (ar 11)) (fun _ _ => rfl) (fun q hq => ?_) ?_ (RB_pl q1 e1.1 e1.2 (fun q hq => zu_n _ _ (by omega)) (zu_s _ _ _) hr)
          · rw [JS_k p3 (k := q) (by unfold SCR; omega), zu_n _ _ (by omega), rcA_n (by omega)]
            by_cases e7 : q = 7
            · rw [e7, zu_s, zu_s]
            · rw [zu_n _ _ e7, zu_n _ _ e7]; exact rec_ar (by omega)
          · unfold rcF
            rw [zu_n _ _ (by decide), rec_fd (by decide)]
            exact ⟨rfl, rfl, rfl, rfl⟩
  · rw [iz_f q1] at hc
    rcases hp with ⟨-, p2, p3, p4⟩ | ⟨p1, -⟩ | ⟨p1, -⟩ | ⟨p1, -⟩
    · subst hc
      refine ⟨p2, w, f, o, z, n, ?_⟩
      rw [p4, p3]
      exact h
    · exact absurd p1 q1
    · exact absurd p1 q1
    · exact absurd p1 q1
/-- the draft is a cut, and it is proposed -/
theorem RB_s {g : Nat → Int32} {A : AR} {F F2 : Nat → Int32} {w f : Nat} (h10 : F 10 = 0) (hr : rsnA A w f = nI 0) (hF : F2 7 = F 7 ∧ F2 8 = F 8 ∧ F2 9 = F 9 ∧ F2 10 = nI 1) (h : RB g A F w f) : RB (zu g 75 (nI 1)) A F2 w f := by
  obtain ⟨⟨a1, a2, a3, a4, a5⟩, ⟨b1, b2⟩, ⟨c1, c2⟩, ⟨d1, d2, d3⟩, e1, ⟨f1, f2⟩⟩ := h
  have hne : ¬ f = w := fun e => by have q := b1.mpr e; rw [h10] at q; exact absurd q (by decide)
  have hs0 : ¬ F 10 = nI 2 := by rw [h10]; decide
  unfold RB STG
  rw [hF.1, hF.2.1, hF.2.2.1, hF.2.2.2]
  refine ⟨⟨a1, a2, ?_, a4, Or.inr (Or.inl rfl), a5.2⟩, ⟨⟨fun e => absurd e (by decide), fun e => absurd e hne⟩, fun _ => ⟨fun d hd => ?_, ?_⟩⟩, ⟨c1, c2⟩, ⟨d1, d2, d3⟩, fun _ => e1 hs0, ⟨f1, fun _ => hr⟩⟩
  · obtain ⟨h1, h2, h3, h4, h5, h6, h7, h8, h9, h10, h11, h12, h13, h14, h15', h16⟩ := a3
    refine ⟨fun d hd => ?_, fun d hd => ?_, fun d hd => ?_, fun d hd => ?_, fun d hd => ?_, ?_, ?_, ?_, ?_, ?_, ?_, h12, h13, h14, h15', h16⟩
    · rw [zu_n _ _ (by omega)]; exact h1 d hd
    · rw [zu_n _ _ (by omega)]; exact h2 d hd
    · rw [zu_n _ _ (by omega)]; exact h3 d hd
    · rw [zu_n _ _ (by omega)]; exact h4 d hd
    · rw [zu_n _ _ (by omega)]; exact h5 d hd
    · rw [zu_n _ _ (by omega)]; exact h6
    · rw [zu_n _ _ (by omega)]; exact h7
    · rw [zu_n _ _ (by omega)]; exact h8
    · rw [zu_n _ _ (by omega)]; exact h9
    · rw [zu_n _ _ (by omega), hF.2.2.1]; exact h10
    · rw [zu_s, hF.2.2.2]
  · rw [zu_n _ _ (by omega)]; exact (b2 hs0).1 d hd
  · rw [zu_n _ _ (by omega)]; exact (b2 hs0).2
theorem k_propose {ar fd : AR} {w f o z n : Nat} (h : RR ar fd w f o z n) {c : Int32 × AR × AR} (hc : c = sp_propose ar fd w f o z n) {ar1 ar3 fd3 : AR} {r : Int32} (hJ : JQ c.2.1 ar1) (hp : (¬ fd 1 10 = 0 ∧ r = -4 ∧ ar3 = ar1 ∧ fd3 = c.2.2) ∨ (fd 1 10 = 0 ∧ ¬ rsnA ar w f = nI 0 ∧ r = (-10) - rsnA ar w f ∧ JM ar1 ar3 ∧ fd3 = c.2.2) ∨ (fd 1 10 = 0 ∧ rsnA ar w f = nI 0 ∧ r = nI (w - f) ∧ JM (zu (rcA ar1 z) 103 (zu (ar1 103) 75 (nI 1))) ar3 ∧ fd3 = rcF c.2.2 z)) : r = c.1 ∧ ∃ w2 f2 o2 z2 n2, RR ar3 fd3 w2 f2 o2 z2 n2 := by
  have h0 := h
  obtain ⟨hci, hr, hh, ⟨hs1, hs2⟩, ⟨t1, t2, t3⟩⟩ := h0
  obtain ⟨g1, g2, g3, g4, g5, -⟩ := id hci
  unfold sp_propose at hc
  by_cases q1 : fd 1 10 = 0
  · rw [iz_t q1] at hc
    by_cases q2 : rsnA ar w f = 0
    · rw [iz_t q2] at hc
      rcases hp with ⟨p1, -⟩ | ⟨-, p2, -⟩ | ⟨-, -, p2, p3, p4⟩
      · exact absurd q1 p1
      · exact absurd q2 p2
      · subst hc
        dsimp only at hJ p4 ⊢
        have r1 : (sp_record ar fd o z).2 1 = fd 1 := rec_fd (by decide)
        rw [r1] at p4 ⊢
        have k1 : ∀ k, k ≠ 97 → k ≠ 99 → ar1 k = (sp_record ar fd o z).1 k := hJ
        have k3 : ar1 103 = ar 103 := (k1 103 (by decide) (by decide)).trans (rec_ar (by decide))
        have mk : ∀ k, ¬ SCR k → ar3 k = zu (rcA ar1 z) 103 (zu (ar1 103) 75 (nI 1)) k := fun k hk => p3 k (fun e => hk (by unfold SCR; omega))
        refine ⟨?_, w, f, oz o z, pz z, n, RR_rec (ar1 := ar1) (fd1 := zu (sp_record ar fd o z).2 1 (zu (fd 1) 10 (nI 1))) h (fun k h1 h2 => k1 k (fun e => h2 (by unfold SCR; omega)) (fun e => h2 (by unfold SCR; omega))) (fun k h1 h2 => zu_n _ _ h1) ⟨by rw [zu_n _ _ (by decide), rec_fd (by decide)], by rw [zu_n _ _ (by decide), rec_fd (by decide)]⟩ (fun k h1 h2 => by rw [mk k h1, zu_n _ _ h2]) p4 ?_⟩
        · rw [p2, zu_s, zu_n _ _ (by decide), zu_n _ _ (by decide), g1, g2, nI_sub g3]
        · rw [mk 103 (by unfold SCR; omega), zu_s, k3, p4]
          refine RB_c (A := ar) (F := zu (fd 1) 10 (nI 1)) (fun _ _ => rfl) (fun q hq => ?_) ?_ (RB_s q1 q2 ⟨zu_n _ _ (by decide), zu_n _ _ (by decide), zu_n _ _ (by decide), zu_s _ _ _⟩ hr)
          · rw [mk q (by unfold SCR; omega), zu_n _ _ (by omega), rcA_n (by omega), k1 q (by omega) (by omega)]
            exact rec_ar (by omega)
          · unfold rcF
            rw [zu_n _ _ (by decide), zu_s]
            exact ⟨rfl, rfl, rfl, rfl⟩
    · rw [iz_f q2] at hc
      rcases hp with ⟨p1, -⟩ | ⟨-, -, p2, p3, p4⟩ | ⟨-, p2, -⟩
      · exact absurd q1 p1
      · subst hc
        dsimp only at hJ p4 ⊢
        refine ⟨p2, w, f, o, z, n, ?_⟩
        rw [p4]
        exact RR_JM h hJ p3
      · exact absurd p2 q2
  · rw [iz_f q1] at hc
    rcases hp with ⟨-, p2, p3, p4⟩ | ⟨p1, -⟩ | ⟨p1, -⟩
    · subst hc
      dsimp only at hJ p4 ⊢
      refine ⟨p2, w, f, o, z, n, ?_⟩
      rw [p4, p3]
      exact RR_JM h hJ (fun _ _ => rfl)
    · exact absurd p1 q1
    · exact absurd p1 q1
