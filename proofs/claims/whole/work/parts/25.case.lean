
/-! the law's cases, one by one -/
theorem RR_text {ar fd ar3 fd3 : AR} {w f o z n n2 : Nat} (h : RR ar fd w f o z n) (hA : ∀ k, k ≠ 94 → k ≠ 106 → ar3 k = ar k) (hF : ∀ k, k ≠ 93 → k ≠ 102 → fd3 k = fd k) (h2 : fd3 102 3 = fd 102 3 ∧ fd3 102 4 = fd 102 4) (h3 : fd3 93 1 = nI n2 ∧ n2 ≤ 60 ∧ fd3 102 6 = nI n2) (h4 : CHS (ar3 94)) (h5 : ∀ i, i < 60 → ar3 106 i = ar3 94 i) : RR ar3 fd3 w f o z n2 := by
  obtain ⟨⟨c1, c2, c3, c4, c5, c6, c7, c8, c9, c10, c11, c12⟩, hr, hh, ⟨hs1, hs2⟩, ⟨t1, t2, t3⟩⟩ := h
  have lo : ∀ k, k < 94 → ar3 k = ar k := fun k hk => hA k (by omega) (by omega)
  refine ⟨⟨?_, ?_, c3, c4, c5, ?_, ?_, c8, c9, h3.1, h3.2.1, h4⟩, ?_, by rw [hA 104 (by decide) (by decide)]; exact HS_c (fun k _ h => lo k (by omega)) (fun k _ h => hF k (by omega) (by omega)) hh, ⟨?_, fun hne => ?_⟩, ⟨?_, h3.2.2, h5⟩⟩
  · rw [hF 1 (by decide) (by decide)]; exact c1
  · rw [hF 1 (by decide) (by decide)]; exact c2
  · rw [hF 16 (by decide) (by decide)]; exact c6
  · rw [hF 16 (by decide) (by decide)]; exact c7
  · rw [hA 103 (by decide) (by decide)]
    refine RB_c (fun _ _ => rfl) (fun q hq => lo q (by omega)) ?_ hr
    rw [hF 1 (by decide) (by decide)]
    exact ⟨rfl, rfl, rfl, rfl⟩
  · rw [hF 0 (by decide) (by decide), h2.2]; exact hs1
  · rw [hF 0 (by decide) (by decide)] at hne
    obtain ⟨w1, f1, r⟩ := hs2 hne
    rw [hA 105 (by decide) (by decide)]
    refine ⟨w1, f1, RB_c (fun _ _ => rfl) (fun q hq => lo _ (by omega)) ?_ r⟩
    rw [hF 78 (by decide) (by decide)]
    exact ⟨rfl, rfl, rfl, rfl⟩
  · rw [h2.1]; exact t1
theorem k_clearText {ar fd : AR} {w f o z n : Nat} (h : RR ar fd w f o z n) : (sq_clearText (sp_clearText ar fd w f o z n).2.1 (sp_clearText ar fd w f o z n).2.2 n).1 = (sp_clearText ar fd w f o z n).1 ∧ RR (sq_clearText (sp_clearText ar fd w f o z n).2.1 (sp_clearText ar fd w f o z n).2.2 n).2.1 (sq_clearText (sp_clearText ar fd w f o z n).2.1 (sp_clearText ar fd w f o z n).2.2 n).2.2 w f o z 0 := by
  refine ⟨rfl, ?_⟩
  unfold sq_clearText sp_clearText sp_empty
  dsimp only
  have h0 := h
  obtain ⟨⟨c1, c2, c3, c4, c5, c6, c7, c8, c9, c10, c11, c12⟩, hr, hh, ⟨hs1, hs2⟩, ⟨t1, t2, t3⟩⟩ := h0
  refine RR_text h (fun _ _ _ => rfl) (fun k h1 h2 => by rw [zu_n _ _ h2, zu_n _ _ h1]) ⟨?_, ?_⟩ ⟨?_, by decide, ?_⟩ c12 t3
  · rw [zu_s, zu_n _ _ (by decide), zu_n _ _ (by decide)]
  · rw [zu_s, zu_n _ _ (by decide), zu_n _ _ (by decide)]
  · rw [zu_n _ _ (by decide), zu_s, zu_s]
  · rw [zu_s, zu_s]
theorem chs_put {g : Nat → Int32} {n : Nat} {v : Int32} (hv : narrow .char (.int (vp_nar .char v)) = .int (vp_nar .char v)) (h : CHS g) : CHS (zu g n (vp_nar .char v)) := by
  intro i hi
  by_cases e : i = n
  · rw [e, zu_s]
    exact hv
  · rw [zu_n _ _ e]; exact h i hi
theorem k_type {ar fd : AR} {w f o z n : Nat} (h : RR ar fd w f o z n) (v : Int32) (hv : narrow .char (.int (vp_nar .char v)) = .int (vp_nar .char v)) : ∃ n2, (sq_type (sp_type ar fd w f o z n v).2.1 (sp_type ar fd w f o z n v).2.2 n v).1 = (sp_type ar fd w f o z n v).1 ∧ RR (sq_type (sp_type ar fd w f o z n v).2.1 (sp_type ar fd w f o z n v).2.2 n v).2.1 (sq_type (sp_type ar fd w f o z n v).2.1 (sp_type ar fd w f o z n v).2.2 n v).2.2 w f o z n2 := by
  have h0 := h
  obtain ⟨⟨c1, c2, c3, c4, c5, c6, c7, c8, c9, c10, c11, c12⟩, hr, hh, ⟨hs1, hs2⟩, ⟨t1, t2, t3⟩⟩ := h0
  unfold sq_type sp_type
  by_cases q : n < 60
  · rw [iz_t q, iz_f (show ¬ n = 60 by omega)]
    refine ⟨n + 1, rfl, ?_⟩
    dsimp only
    refine RR_text h (fun k h1 h2 => by rw [zu_n _ _ h2, zu_n _ _ h1]) (fun k h1 h2 => by rw [zu_n _ _ h2, zu_n _ _ h1]) ⟨?_, ?_⟩ ⟨?_, by omega, ?_⟩ ?_ (fun i hi => ?_)
    · rw [zu_s, zu_n _ _ (by decide), zu_n _ _ (by decide)]
    · rw [zu_s, zu_n _ _ (by decide), zu_n _ _ (by decide)]
    · rw [zu_n _ _ (by decide), zu_s, zu_s]
    · rw [zu_s, zu_s]
    · rw [zu_n _ _ (by decide), zu_s]; exact chs_put hv c12
    · rw [zu_s, zu_n (zu ar 94 _) _ (show (94 : Nat) ≠ 106 by decide), zu_s, zu_n ar _ (show (106 : Nat) ≠ 94 by decide)]
      by_cases e : i = n
      · rw [e, zu_s, zu_s]
      · rw [zu_n _ _ e, zu_n _ _ e]; exact t3 i hi
  · rw [iz_f q, iz_t (show n = 60 by omega)]
    exact ⟨n, rfl, h⟩
