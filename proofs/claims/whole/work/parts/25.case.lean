
/-! the law's cases, one by one -/
theorem RR_text {ar fd ar3 fd3 : AR} {w f o z n n2 : Nat} (h : RR ar fd w f o z n) (hA : ∀ k, k ≠ 94 → k ≠ 106 → ar3 k = ar k) (hF : ∀ k, k ≠ 93 → k ≠ 102 → fd3 k = fd k) (h2 : fd3 102 3 = fd 102 3 ∧ fd3 102 4 = fd 102 4) (h3 : fd3 93 1 = nI n2 ∧ n2 ≤ 60 ∧ fd3 102 6 = nI n2) (h4 : CHS (ar3 94)) (h5 : ∀ i, i < 60 → ar3 106 i = ar3 94 i) : RR ar3 fd3 w f o z n2 := by
  obtain ⟨⟨c1, c2, c3, c4, c5, c6, c7, c8, c9, c10, c11, c12⟩, hr, hh, ⟨hs1, hs2⟩, ⟨t1, t2, t3⟩⟩ := h
  have lo : ∀ k, k < 94 → ar3 k = ar k := fun k hk => hA k (by omega) (by omega)
  refine ⟨⟨?_, ?_, c3, c4, c5, ?_, ?_, c8, c9, h3.1, h3.2.1, h4⟩, ?_, by rw [hA 104 (by decide) (by decide)]; exact HS_c (fun k _ h => lo k (by omega)) (fun k _ h => hF k (by omega) (by omega)) hh, ⟨?_, fun hne => ?_⟩, ⟨?_, h3.2.2, h5⟩⟩
  · rw [hF 1 (by decide) (by decide)]; exact c1
  · rw [hF 1 (by decide) (by decide)]; exact c2
  · rw [hF 16 (by decide) (by decide)]; exact c6
  · rw [hF 16 (by decide) (by decide)]; exact c7
  · rw [hA 103 (by decide) (by decide)]
    refine RB_c (fun _ _ => rfl) (fun q hq => lo q (by omega)) ?_ hr
    rw [hF 1 (by decide) (by decide)]
    exact ⟨rfl, rfl, rfl, rfl⟩
  · rw [hF 0 (by decide) (by decide), h2.2]; exact hs1
  · rw [hF 0 (by decide) (by decide)] at hne
    obtain ⟨w1, f1, r⟩ := hs2 hne
    rw [hA 105 (by decide) (by decide)]
    refine ⟨w1, f1, RB_c (fun _ _ => rfl) (fun q hq => lo _ (by omega)) ?_ r⟩
    rw [hF 78 (by decide) (by decide)]
    exact ⟨rfl, rfl, rfl, rfl⟩
  · rw [h2.1]; exact t1
theorem k_clearText {ar fd : AR} {w f o z n : Nat} (h : RR ar fd w f o z n) : (sq_clearText (sp_clearText ar fd w f o z n).2.1 (sp_clearText ar fd w f o z n).2.2 n).1 = (sp_clearText ar fd w f o z n).1 ∧ RR (sq_clearText (sp_clearText ar fd w f o z n).2.1 (sp_clearText ar fd w f o z n).2.2 n).2.1 (sq_clearText (sp_clearText ar fd w f o z n).2.1 (sp_clearText ar fd w f o z n).2.2 n).2.2 w f o z 0 := by
  refine ⟨rfl, ?_⟩
  unfold sq_clearText sp_clearText sp_empty
  dsimp only
  have h0 := h
  obtain ⟨⟨c1, c2, c3, c4, c5, c6, c7, c8, c9, c10, c11, c12⟩, hr, hh, ⟨hs1, hs2⟩, ⟨t1, t2, t3⟩⟩ := h0
  refine RR_text h (fun _ _ _ => rfl) (fun k h1 h2 => by rw [zu_n _ _ h2, zu_n _ _ h1]) ⟨?_, ?_⟩ ⟨?_, by decide, ?_⟩ c12 t3
  · rw [zu_s, zu_n _ _ (by decide), zu_n _ _ (by decide)]
  · rw [zu_s, zu_n _ _ (by decide), zu_n _ _ (by decide)]
  · rw [zu_n _ _ (by decide), zu_s, zu_s]
  · rw [zu_s, zu_s]
theorem chs_nar (v : Int32) : narrow .char (.int (vp_nar .char v)) = .int (vp_nar .char v) := by
  rw [vp_nar_char]
  show Value.int (v.toUInt32.toUInt16.toUInt32.toInt32.toUInt32.toUInt16.toUInt32.toInt32) = Value.int (v.toUInt32.toUInt16.toUInt32.toInt32)
  congr 1
  simp
  apply congrArg UInt32.toInt32
  apply UInt32.toNat_inj.mp
  simp
theorem chs_put {g : Nat → Int32} {n : Nat} {v : Int32} (hv : narrow .char (.int (vp_nar .char v)) = .int (vp_nar .char v)) (h : CHS g) : CHS (zu g n (vp_nar .char v)) := by
  intro i hi
  by_cases e : i = n
  · rw [e, zu_s]
    exact hv
  · rw [zu_n _ _ e]; exact h i hi
theorem k_type {ar fd : AR} {w f o z n : Nat} (h : RR ar fd w f o z n) (v : Int32) (hv : narrow .char (.int (vp_nar .char v)) = .int (vp_nar .char v)) : ∃ n2, (sq_type (sp_type ar fd w f o z n v).2.1 (sp_type ar fd w f o z n v).2.2 n v).1 = (sp_type ar fd w f o z n v).1 ∧ RR (sq_type (sp_type ar fd w f o z n v).2.1 (sp_type ar fd w f o z n v).2.2 n v).2.1 (sq_type (sp_type ar fd w f o z n v).2.1 (sp_type ar fd w f o z n v).2.2 n v).2.2 w f o z n2 := by
  have h0 := h
  obtain ⟨⟨c1, c2, c3, c4, c5, c6, c7, c8, c9, c10, c11, c12⟩, hr, hh, ⟨hs1, hs2⟩, ⟨t1, t2, t3⟩⟩ := h0
  unfold sq_type sp_type
  by_cases q : n < 60
  · rw [iz_t q, iz_f (show ¬ n = 60 by omega)]
    refine ⟨n + 1, rfl, ?_⟩
    dsimp only
    refine RR_text h (fun k h1 h2 => by rw [zu_n _ _ h2, zu_n _ _ h1]) (fun k h1 h2 => by rw [zu_n _ _ h2, zu_n _ _ h1]) ⟨?_, ?_⟩ ⟨?_, by omega, ?_⟩ ?_ (fun i hi => ?_)
    · rw [zu_s, zu_n _ _ (by decide), zu_n _ _ (by decide)]
    · rw [zu_s, zu_n _ _ (by decide), zu_n _ _ (by decide)]
    · rw [zu_n _ _ (by decide), zu_s, zu_s]
    · rw [zu_s, zu_s]
    · rw [zu_n _ _ (by decide), zu_s]; exact chs_put hv c12
    · rw [zu_s, zu_n (zu ar 94 _) _ (show (94 : Nat) ≠ 106 by decide), zu_s, zu_n ar _ (show (106 : Nat) ≠ 94 by decide)]
      by_cases e : i = n
      · rw [e, zu_s, zu_s]
      · rw [zu_n _ _ e, zu_n _ _ e]; exact t3 i hi
  · rw [iz_f q, iz_t (show n = 60 by omega)]
    exact ⟨n, rfl, h⟩
/-- another snapshot, or none -/
theorem k_keep {ar fd ar3 fd3 : AR} {w f o z n : Nat} (h : RR ar fd w f o z n) (hm : ar3 = zu (sp_keep ar fd w f o z n).2.1 105 (bl ((sp_keep ar fd w f o z n).2.1 105) 0 196 ((sp_keep ar fd w f o z n).2.1 103))) (hf : fd3 = zu (sp_keep ar fd w f o z n).2.2 102 (zu ((sp_keep ar fd w f o z n).2.2 102) 4 (nI 1))) : (sp_keep ar fd w f o z n).2.1 103 77 = (sp_keep ar fd w f o z n).1 ∧ RR ar3 fd3 w f o z n := by
  have h0 := h
  obtain ⟨⟨c1, c2, c3, c4, c5, c6, c7, c8, c9, c10, c11, c12⟩, hr, hh, ⟨hs1, hs2⟩, ⟨t1, t2, t3⟩⟩ := h0
  have eA : (sp_keep ar fd w f o z n).2.1 = cpA 78 1 ar := rfl
  have eF : (sp_keep ar fd w f o z n).2.2 = zu (zu fd 78 (fd 1)) 0 (zu ((zu fd 78 (fd 1)) 0) 3 (nI 1)) := rfl
  have e1 : (sp_keep ar fd w f o z n).1 = fd 1 8 := by
    show zu (zu fd 78 (fd 1)) 0 (zu ((zu fd 78 (fd 1)) 0) 3 (nI 1)) 1 8 = fd 1 8
    rw [zu_n _ _ (by decide), zu_n _ _ (by decide)]
  rw [eA] at hm
  rw [eF] at hf
  have o : ∀ k, k < 78 ∨ 92 < k → cpA 78 1 ar k = ar k := fun k hk => cpA_n (by omega)
  have oF : ∀ k, k ≠ 0 → k ≠ 78 → k ≠ 102 → fd3 k = fd k := fun k h1 h2 h3 => by rw [hf, zu_n _ _ h3, zu_n _ _ h1, zu_n _ _ h2]
  have oA : ∀ k, k < 78 ∨ 92 < k → k ≠ 105 → ar3 k = ar k := fun k h1 h2 => by rw [hm, zu_n _ _ h2]; exact o k h1
  obtain ⟨⟨a1, a2, a3, a4, a5⟩, -⟩ := id hr
  refine ⟨?_, ?_, ?_, ?_, ⟨?_, fun hne => ?_⟩, ⟨?_, ?_, fun i hi => ?_⟩⟩
  · rw [eA, e1, o 103 (by decide), c2]
    exact a3.2.2.2.2.2.2.2.2.1
  · unfold CInv
    rw [oF 1 (by decide) (by decide) (by decide), oF 16 (by decide) (by decide) (by decide), oF 93 (by decide) (by decide) (by decide), oA 94 (by decide) (by decide)]
    exact ⟨c1, c2, c3, c4, c5, c6, c7, c8, c9, c10, c11, c12⟩
  · rw [oA 103 (by decide) (by decide)]
    refine RB_c (fun _ _ => rfl) (fun q hq => oA q (by omega) (by omega)) ?_ hr
    rw [oF 1 (by decide) (by decide) (by decide)]
    exact ⟨rfl, rfl, rfl, rfl⟩
  · rw [oA 104 (by decide) (by decide)]
    exact HS_c (fun k h1 h2 => oA k (by omega) (by omega)) (fun k h1 h2 => oF k (by omega) (by omega) (by omega)) hh
  · rw [hf, zu_n _ _ (by decide), zu_s, zu_s, zu_s, zu_s]
  · refine ⟨w, f, RB_c (g := ar 103) (A := ar) (F := fd 1) (fun k hk => ?_) (fun q hq => ?_) ?_ hr⟩
    · rw [hm, zu_s, show k = 0 + k by omega, bl_in hk, o 103 (by decide), Nat.zero_add]
    · rw [hm]
      show zu (cpA 78 1 ar) 105 _ (78 - 1 + q) = ar q
      rw [zu_n _ _ (by omega)]
      exact cpA_in (by decide) hq
    · rw [hf, zu_n _ _ (by decide), zu_n _ _ (by decide), zu_s]
      exact ⟨rfl, rfl, rfl, rfl⟩
  · rw [hf, zu_s, zu_n _ _ (by decide), zu_n _ _ (by decide), zu_n _ _ (by decide)]; exact t1
  · rw [hf, zu_s, zu_n _ _ (by decide), zu_n _ _ (by decide), zu_n _ _ (by decide)]; exact t2
  · rw [oA 106 (by decide) (by decide), oA 94 (by decide) (by decide)]; exact t3 i hi
theorem cpA_back {ar : AR} {q : Nat} (hq : q = 3 ∨ q = 5 ∨ q = 7 ∨ q = 9 ∨ q = 11 ∨ q = 13 ∨ q = 15) : cpA 1 78 ar q = bA ar 78 q := by
  rcases hq with rfl | rfl | rfl | rfl | rfl | rfl | rfl <;> simp [cpA, zu, bA]
theorem k_restore {ar fd ar3 fd3 : AR} {w f o z n : Nat} {r : Int32} (h : RR ar fd w f o z n) (hp : ((sp_restore ar fd w f o z n).2.2 102 4 = 0 ∧ r = -5 ∧ ar3 = (sp_restore ar fd w f o z n).2.1 ∧ fd3 = (sp_restore ar fd w f o z n).2.2) ∨ (¬ (sp_restore ar fd w f o z n).2.2 102 4 = 0 ∧ r = (sp_restore ar fd w f o z n).2.1 105 77 ∧ ar3 = zu (rcA (sp_restore ar fd w f o z n).2.1 z) 103 (bl ((sp_restore ar fd w f o z n).2.1 103) 0 196 ((sp_restore ar fd w f o z n).2.1 105)) ∧ fd3 = rcF (sp_restore ar fd w f o z n).2.2 z)) : r = (sp_restore ar fd w f o z n).1 ∧ ∃ w2 f2 o2 z2 n2, RR ar3 fd3 w2 f2 o2 z2 n2 := by
  have h0 := h
  obtain ⟨hc, hr, hh, ⟨hs1, hs2⟩, ⟨t1, t2, t3⟩⟩ := h0
  by_cases q : fd 0 3 = 0
  · have e : sp_restore ar fd w f o z n = (-5, ar, fd) := iz_t q
    rw [e] at hp ⊢
    rcases hp with ⟨-, p2, p3, p4⟩ | ⟨p1, -⟩
    · exact ⟨p2, w, f, o, z, n, by rw [p3, p4]; exact h⟩
    · exact absurd (hs1.symm.trans q) p1
  · have e : sp_restore ar fd w f o z n = (zu (sp_record ar fd o z).2 1 ((sp_record ar fd o z).2 78) 1 8, cpA 1 78 (sp_record ar fd o z).1, zu (sp_record ar fd o z).2 1 ((sp_record ar fd o z).2 78)) := iz_f q
    have oF : ∀ k, k ≠ 1 → 77 < k → zu (sp_record ar fd o z).2 1 ((sp_record ar fd o z).2 78) k = fd k := fun k h1 h2 => by rw [zu_n _ _ h1]; exact rec_fd (by omega)
    have oA : ∀ k, 77 < k → cpA 1 78 (sp_record ar fd o z).1 k = ar k := fun k hk => (cpA_n (by omega)).trans (rec_ar (by omega))
    obtain ⟨w1, f1, b⟩ := hs2 q
    rw [e] at hp ⊢
    rcases hp with ⟨p1, -⟩ | ⟨-, p2, p3, p4⟩
    · exact absurd (hs1.trans ((congrFun (oF 102 (by decide) (by decide)) 4).symm.trans p1)) q
    · dsimp only at p2 p3 p4 ⊢
      obtain ⟨⟨a1, a2, a3, a4, a5⟩, -⟩ := id b
      refine ⟨?_, w1, f1, oz o z, pz z, n, RR_step h ?_ (fun k h1 h2 h3 h4 => ?_) ?_ (fun k h1 h2 => ?_) ⟨?_, ?_, ?_⟩⟩
      · rw [p2, oA 105 (by decide), zu_s, rec_fd (by decide), a2]
        exact a3.2.2.2.2.2.2.2.2.1
      · refine RB_c (fun k hk => ?_) (fun q hq => ?_) ?_ b
        · rw [p3, zu_s, show k = 0 + k by omega, bl_in hk, oA 105 (by decide), Nat.zero_add]
        · rw [p3, zu_n _ _ (by omega), rcA_n (by omega), cpA_back hq]
          exact rec_ar (by omega)
        · rw [p4]
          show rcF _ z 1 7 = _ ∧ rcF _ z 1 8 = _ ∧ rcF _ z 1 9 = _ ∧ rcF _ z 1 10 = _
          unfold rcF
          rw [zu_n _ _ (by decide), zu_s, rec_fd (by decide)]
          exact ⟨rfl, rfl, rfl, rfl⟩
      · rw [p3, zu_n _ _ h3, rcA_n h4]
        exact cpA_n (by omega)
      · rw [p3, zu_n _ _ (by decide)]
        unfold rcA
        rw [zu_s, oA 103 (by decide), oA 104 (by decide)]
      · rw [p4]
        unfold rcF
        rw [zu_n _ _ h2, zu_n _ _ h1]
      · rw [p4]; unfold rcF; rw [zu_s, zu_s]
      · rw [p4]; unfold rcF; rw [zu_s, zu_n _ _ (by decide), oF 102 (by decide) (by decide)]
      · rw [p4]; unfold rcF; rw [zu_s, zu_n _ _ (by decide), oF 102 (by decide) (by decide)]
theorem cpA_from {ar : AR} {b q : Nat} (hb : 1 ≤ b) (hq : q = 3 ∨ q = 5 ∨ q = 7 ∨ q = 9 ∨ q = 11 ∨ q = 13 ∨ q = 15) : cpA 1 b ar q = bA ar b q := by
  show _ = ar (b - 1 + q)
  rcases hq with rfl | rfl | rfl | rfl | rfl | rfl | rfl
  · rw [show b - 1 + 3 = b + 2 by omega]; simp [cpA, zu]
  · rw [show b - 1 + 5 = b + 4 by omega]; simp [cpA, zu]
  · rw [show b - 1 + 7 = b + 6 by omega]; simp [cpA, zu]
  · rw [show b - 1 + 9 = b + 8 by omega]; simp [cpA, zu]
  · rw [show b - 1 + 11 = b + 10 by omega]; simp [cpA, zu]
  · rw [show b - 1 + 13 = b + 12 by omega]; simp [cpA, zu]
  · rw [show b - 1 + 15 = b + 14 by omega]; simp [cpA, zu]
theorem k_undo {ar fd ar3 fd3 : AR} {w f o z n : Nat} {r : Int32} (h : RR ar fd w f o z n) (hp : (z = 0 ∧ r = -5 ∧ ar3 = (sp_undo ar fd w f o z n).2.1 ∧ fd3 = (sp_undo ar fd w f o z n).2.2) ∨ (¬ z = 0 ∧ r = nI (z - 1) ∧ ar3 = zu (sp_undo ar fd w f o z n).2.1 103 (bl ((sp_undo ar fd w f o z n).2.1 103) 0 196 (fun k => (sp_undo ar fd w f o z n).2.1 104 (196 * (z - 1) + k))) ∧ fd3 = zu (sp_undo ar fd w f o z n).2.2 102 (zu ((sp_undo ar fd w f o z n).2.2 102) 3 (nI (z - 1))))) : r = (sp_undo ar fd w f o z n).1 ∧ ∃ w2 f2 o2 z2 n2, RR ar3 fd3 w2 f2 o2 z2 n2 := by
  have h0 := h
  obtain ⟨⟨c1, c2, c3, c4, c5, c6, c7, c8, c9, c10, c11, c12⟩, hr, hh, ⟨hs1, hs2⟩, ⟨t1, t2, t3⟩⟩ := h0
  by_cases q : z = 0
  · have e : sp_undo ar fd w f o z n = (-5, ar, fd) := iz_t q
    rw [e] at hp ⊢
    rcases hp with ⟨-, p2, p3, p4⟩ | ⟨p1, -⟩
    · exact ⟨p2, w, f, o, z, n, by rw [p3, p4]; exact h⟩
    · exact absurd q p1
  · have e : sp_undo ar fd w f o z n = ((sp_takeLatest ar fd o z).2 16 2, (sp_takeLatest ar fd o z).1, (sp_takeLatest ar fd o z).2) := iz_f q
    have eA : (sp_takeLatest ar fd o z).1 = cpA 1 (hb o (z - 1)) ar := rfl
    have eF : (sp_takeLatest ar fd o z).2 = zu (zu fd 1 (fd (hb o (z - 1)))) 16 (zu ((zu fd 1 (fd (hb o (z - 1)))) 16) 2 (nI (z - 1))) := rfl
    have oA : ∀ k, 15 < k → (sp_takeLatest ar fd o z).1 k = ar k := fun k hk => by rw [eA]; exact cpA_n (by omega)
    have oF : ∀ k, k ≠ 1 → k ≠ 16 → (sp_takeLatest ar fd o z).2 k = fd k := fun k h1 h2 => by rw [eF, zu_n _ _ h2, zu_n _ _ h1]
    have g1 : (sp_takeLatest ar fd o z).2 1 = fd (hb o (z - 1)) := by rw [eF, zu_n _ _ (by decide), zu_s]
    obtain ⟨w1, f1, b⟩ := hh (z - 1) (by omega)
    rw [e] at hp ⊢
    rcases hp with ⟨p1, -⟩ | ⟨-, p2, p3, p4⟩
    · exact absurd p1 q
    · dsimp only at p2 p3 p4 ⊢
      have iA : ∀ k, 15 < k → k ≠ 103 → ar3 k = ar k := fun k h1 h2 => by rw [p3, zu_n _ _ h2]; exact oA k h1
      have iF : ∀ k, k ≠ 1 → k ≠ 16 → k ≠ 102 → fd3 k = fd k := fun k h1 h2 h3 => by rw [p4, zu_n _ _ h3]; exact oF k h1 h2
      have i1 : fd3 1 = fd (hb o (z - 1)) := by rw [p4, zu_n _ _ (by decide)]; exact g1
      have i16 : fd3 16 1 = nI o ∧ fd3 16 2 = nI (z - 1) := by
        rw [p4, zu_n _ _ (by decide), eF]
        exact ⟨(f16b _ _ _ (by decide) (by decide)).trans c6, f16a _ _ _ _ _⟩
      have hb2 := hb_rg o (z - 1)
      have nb : RB (ar3 103) ar3 (fd3 1) w1 f1 := by
        refine RB_c (fun k hk => ?_) (fun q hq => ?_) ?_ b
        · rw [p3, zu_s, show k = 0 + k by omega, bl_in hk, oA 104 (by decide), Nat.zero_add]
        · rw [p3, zu_n _ _ (by omega), eA]
          exact cpA_from (by omega) hq
        · rw [i1]; exact ⟨rfl, rfl, rfl, rfl⟩
      obtain ⟨⟨a1, a2, a3, a4, a5⟩, -⟩ := id nb
      obtain ⟨-, -, -, -, -, -, -, -, -, -, -, m1, m2, m3, -, -⟩ := a3
      refine ⟨?_, w1, f1, o, z - 1, n, ⟨a1, a2, m1, m2, m3, i16.1, i16.2, c8, by omega, ?_, c11, ?_⟩, nb, ?_, ⟨?_, fun hne => ?_⟩, ⟨?_, ?_, fun i hi => ?_⟩⟩
      · rw [p2, eF]; exact (f16a _ _ _ _ _).symm
      · rw [iF 93 (by decide) (by decide) (by decide)]; exact c10
      · rw [iA 94 (by decide) (by decide)]; exact c12
      · rw [iA 104 (by decide) (by decide)]
        exact HS_c (fun k h1 h2 => iA k (by omega) (by omega)) (fun k h1 h2 => iF k (by omega) (by omega) (by omega)) (fun i hi => hh i (by omega))
      · rw [p4, zu_n _ _ (by decide), oF 0 (by decide) (by decide), zu_s, zu_n _ _ (by decide), oF 102 (by decide) (by decide)]; exact hs1
      · rw [iF 0 (by decide) (by decide) (by decide)] at hne
        obtain ⟨w4, f4, b4⟩ := hs2 hne
        rw [iA 105 (by decide) (by decide)]
        refine ⟨w4, f4, RB_c (fun _ _ => rfl) (fun q hq => iA _ (by omega) (by omega)) ?_ b4⟩
        rw [iF 78 (by decide) (by decide) (by decide)]
        exact ⟨rfl, rfl, rfl, rfl⟩
      · rw [p4, zu_s, zu_s]
      · rw [p4, zu_s, zu_n _ _ (by decide), oF 102 (by decide) (by decide)]; exact t2
      · rw [iA 106 (by decide) (by decide), iA 94 (by decide) (by decide)]; exact t3 i hi
theorem RB_t {g : Nat → Int32} {A A2 : AR} {F : Nat → Int32} {w f c : Nat} {v : Int32} (hc : c < 2) (hA : ∀ q, q = 3 ∨ q = 5 ∨ q = 7 ∨ q = 9 ∨ q = 11 ∨ q = 13 → A2 q = A q) (h15 : A2 15 = zu (A 15) c v) (h : RB g A F w f) : RB (zu g (73 + c) v) A2 F w f := by
  obtain ⟨⟨a1, a2, a3, a4, a5⟩, ⟨b1, b2⟩, ⟨c1, c2⟩, ⟨d1, d2, d3⟩, e1, ⟨f1, f2⟩⟩ := h
  have x3 := hA 3 (by decide)
  have x5 := hA 5 (by decide)
  have x7 := hA 7 (by decide)
  have x9 := hA 9 (by decide)
  have x11 := hA 11 (by decide)
  have x13 := hA 13 (by decide)
  unfold RB
  rw [x3, x5, x7, x9, x11, rsnA_c x7 x9]
  refine ⟨⟨a1, a2, ?_, a4, a5⟩, ⟨b1, fun z => ⟨fun d hd => ?_, ?_⟩⟩, ⟨c1, c2⟩, ⟨d1, d2, d3⟩, e1, ⟨f1, f2⟩⟩
  · obtain ⟨h1, h2, h3, h4, h5, h6, h7, h8, h9, h10, h11, h12, h13, h14, h15', h16⟩ := a3
    refine ⟨fun d hd => ?_, fun d hd => ?_, fun d hd => ?_, fun d hd => ?_, fun d hd => ?_, ?_, ?_, ?_, ?_, ?_, ?_, h12, h13, h14, fun d hd => ?_, fun d hd => ?_⟩
    · by_cases e : 2 * d = 73 + c
      · exact absurd e (by omega)
      · rw [zu_n _ _ e, x3]; exact h1 d hd
    · by_cases e : 2 * d + 1 = 73 + c
      · exact absurd e (by omega)
      · rw [zu_n _ _ e, x5]; exact h2 d hd
    · rw [zu_n _ _ (by omega), x7]; exact h3 d hd
    · rw [zu_n _ _ (by omega), x9]; exact h4 d hd
    · rw [zu_n _ _ (by omega), x13]; exact h5 d hd
    · rw [h15]
      rcases (show c = 0 ∨ c = 1 by omega) with rfl | rfl
      · rw [zu_s, zu_s]
      · rw [zu_n _ _ (by decide), zu_n _ _ (by decide)]; exact h6
    · rw [h15]
      rcases (show c = 0 ∨ c = 1 by omega) with rfl | rfl
      · rw [zu_n _ _ (by decide), zu_n _ _ (by decide)]; exact h7
      · rw [zu_s, zu_s]
    · rw [zu_n _ _ (by omega)]; exact h8
    · rw [zu_n _ _ (by omega)]; exact h9
    · rw [zu_n _ _ (by omega)]; exact h10
    · rw [zu_n _ _ (by omega)]; exact h11
    · rw [x7]; exact h15' d hd
    · rw [x9]; exact h16 d hd
  · rw [zu_n _ _ (by omega)]; exact (b2 z).1 d hd
  · rw [zu_n _ _ (by omega)]; exact (b2 z).2
theorem k_setTarget {ar fd : AR} {w f o z n : Nat} (h : RR ar fd w f o z n) (a v : Int32) {c : Int32 × AR × AR} (hc : c = sp_setTarget ar fd w f o z n a v) : (sq_setTarget c.2.1 c.2.2 ar fd w f z a v).1 = c.1 ∧ ∃ w2 f2 o2 z2 n2, RR (sq_setTarget c.2.1 c.2.2 ar fd w f z a v).2.1 (sq_setTarget c.2.1 c.2.2 ar fd w f z a v).2.2 w2 f2 o2 z2 n2 := by
  have h0 := h
  obtain ⟨hci, hr, hh, ⟨hs1, hs2⟩, ⟨t1, t2, t3⟩⟩ := h0
  unfold sp_setTarget at hc
  unfold sq_setTarget
  by_cases q1 : ¬ a < nI 0 ∧ ¬ nI 1 < a
  · rw [iz_t q1] at hc ⊢
    by_cases q2 : ¬ v < nI 0 ∧ ¬ nI 9 < v
    · rw [iz_t q2] at hc ⊢
      by_cases q3 : v = ar 15 a.toNatClampNeg
      · rw [iz_t q3] at hc
        rw [iz_t q3.symm]
        subst hc
        exact ⟨rfl, w, f, o, z, n, h⟩
      · rw [iz_f q3] at hc
        rw [iz_f (fun e => q3 e.symm)]
        subst hc
        have ha : a.toNatClampNeg < 2 := (cell_of q1 (by decide)).1
        generalize a.toNatClampNeg = j at ha q3 ⊢
        dsimp only
        refine ⟨rfl, w, f, oz o z, pz z, n, RR_step h ?_ (fun k h1 h2 h3 h4 => ?_) ?_ (fun k h1 h2 => ?_) ⟨?_, ?_, ?_⟩⟩
        · rw [zu_s, zu_n _ _ (by decide), rec_ar (k := 103) (by decide)]
          refine RB_c (F := fd 1) (fun _ _ => rfl) (fun _ _ => rfl) ?_ (RB_t ha (fun q hq => ?_) ?_ hr)
          · unfold rcF
            rw [zu_n _ _ (by decide), rec_fd (by decide)]
            exact ⟨rfl, rfl, rfl, rfl⟩
          · rw [zu_n _ _ (by omega), rcA_n (by omega), zu_n _ _ (by omega)]
            exact rec_ar (by omega)
          · rw [zu_n _ _ (by decide), rcA_n (by decide), zu_s, rec_ar (k := 15) (by decide)]
        · rw [zu_n _ _ h3, rcA_n h4, zu_n _ _ (by omega)]
        · rw [zu_n _ _ (by decide)]
          unfold rcA
          rw [zu_s, zu_n _ _ (by decide), zu_n _ _ (by decide), rec_ar (k := 103) (by decide), rec_ar (k := 104) (by decide)]
        · unfold rcF; rw [zu_n _ _ h2]
        · unfold rcF; rw [zu_s, zu_s]
        · unfold rcF; rw [zu_s, zu_n _ _ (by decide), rec_fd (by decide)]
        · unfold rcF; rw [zu_s, zu_n _ _ (by decide), rec_fd (by decide)]
    · rw [iz_f q2] at hc ⊢
      subst hc
      exact ⟨rfl, w, f, o, z, n, h⟩
  · rw [iz_f q1] at hc ⊢
    subst hc
    exact ⟨rfl, w, f, o, z, n, h⟩
theorem RB_v {g : Nat → Int32} {A A2 : AR} {F : Nat → Int32} {w f c : Nat} {u v : Int32} (hc : c < 36) (hu : dig u) (hv : dig v) (hA : ∀ q, q = 7 ∨ q = 9 ∨ q = 11 ∨ q = 13 ∨ q = 15 → A2 q = A q) (y3 : A2 3 = zu (A 3) c u) (y5 : A2 5 = zu (A 5) c v) (h : RB g A F w f) : RB (zu (zu g (2 * c) u) (2 * c + 1) v) A2 F w f := by
  obtain ⟨⟨a1, a2, a3, a4, a5⟩, ⟨b1, b2⟩, ⟨c1, c2⟩, ⟨d1, d2, d3⟩, e1, ⟨f1, f2⟩⟩ := h
  have x7 := hA 7 (by decide)
  have x9 := hA 9 (by decide)
  have x11 := hA 11 (by decide)
  have x13 := hA 13 (by decide)
  have x15 := hA 15 (by decide)
  have o : ∀ k, 72 ≤ k → zu (zu g (2 * c) u) (2 * c + 1) v k = g k := fun k hk => by rw [zu_n _ _ (by omega), zu_n _ _ (by omega)]
  unfold RB
  rw [x7, x9, x11, rsnA_c x7 x9, y3, y5]
  refine ⟨⟨a1, a2, ?_, a4, a5⟩, ⟨b1, fun z => ⟨fun d hd => ?_, ?_⟩⟩, ⟨fun d hd => ?_, fun d hd => ?_⟩, ⟨d1, d2, d3⟩, e1, ⟨f1, f2⟩⟩
  · obtain ⟨h1, h2, h3, h4, h5, h6, h7, h8, h9, h10, h11, h12, h13, h14, h15', h16⟩ := a3
    refine ⟨fun d hd => ?_, fun d hd => ?_, fun d hd => ?_, fun d hd => ?_, fun d hd => ?_, ?_, ?_, ?_, ?_, ?_, ?_, h12, h13, h14, fun d hd => ?_, fun d hd => ?_⟩
    · rw [zu_n _ _ (by omega), y3]
      by_cases e : d = c
      · subst e; rw [zu_s, zu_s]
      · rw [zu_n _ _ (by omega), zu_n _ _ e]; exact h1 d hd
    · rw [y5]
      by_cases e : d = c
      · subst e; rw [zu_s, zu_s]
      · rw [zu_n _ _ (by omega), zu_n _ _ (by omega), zu_n _ _ e]; exact h2 d hd
    · rw [o _ (by omega), x7]; exact h3 d hd
    · rw [o _ (by omega), x9]; exact h4 d hd
    · rw [o _ (by omega), x13]; exact h5 d hd
    · rw [o _ (by omega), x15]; exact h6
    · rw [o _ (by omega), x15]; exact h7
    · rw [o _ (by omega)]; exact h8
    · rw [o _ (by omega)]; exact h9
    · rw [o _ (by omega)]; exact h10
    · rw [o _ (by omega)]; exact h11
    · rw [x7]; exact h15' d hd
    · rw [x9]; exact h16 d hd
  · rw [o _ (by omega)]; exact (b2 z).1 d hd
  · rw [o _ (by omega)]; exact (b2 z).2
  · by_cases e : d = c
    · subst e; rw [zu_s]; exact hu
    · rw [zu_n _ _ e]; exact c1 d hd
  · by_cases e : d = c
    · subst e; rw [zu_s]; exact hv
    · rw [zu_n _ _ e]; exact c2 d hd
theorem dig_10 {a b u v : Int32} (ha : dig a) (hb : dig b) (hu : dig u) (hv : dig v) : nI 10 * a + b = nI 10 * u + v ↔ u = a ∧ v = b := by
  obtain ⟨l1, e1⟩ := cell_of ha (by decide)
  obtain ⟨l2, e2⟩ := cell_of hb (by decide)
  obtain ⟨l3, e3⟩ := cell_of hu (by decide)
  obtain ⟨l4, e4⟩ := cell_of hv (by decide)
  rw [e1, e2, e3, e4, nI_mul, nI_mul, nI_add, nI_add, nI_eq (by omega) (by omega), nI_eq (by omega) (by omega), nI_eq (by omega) (by omega)]
  omega
theorem k_setVotes {ar fd : AR} {w f o z n : Nat} (h : RR ar fd w f o z n) (a u v : Int32) {c : Int32 × AR × AR} (hc : c = sp_setVotes ar fd w f o z n a u v) : (sq_setVotes c.2.1 c.2.2 ar fd w f z a u v).1 = c.1 ∧ ∃ w2 f2 o2 z2 n2, RR (sq_setVotes c.2.1 c.2.2 ar fd w f z a u v).2.1 (sq_setVotes c.2.1 c.2.2 ar fd w f z a u v).2.2 w2 f2 o2 z2 n2 := by
  have h0 := h
  obtain ⟨hci, hr, hh, ⟨hs1, hs2⟩, ⟨t1, t2, t3⟩⟩ := h0
  unfold sp_setVotes at hc
  unfold sq_setVotes
  by_cases q1 : ¬ a < nI 0 ∧ ¬ nI 35 < a
  · rw [iz_t q1] at hc ⊢
    by_cases q2 : ¬ u < nI 0 ∧ ¬ nI 9 < u
    · rw [iz_t q2] at hc ⊢
      by_cases q3 : ¬ v < nI 0 ∧ ¬ nI 9 < v
      · rw [iz_t q3] at hc ⊢
        have ha : a.toNatClampNeg < 36 := (cell_of q1 (by decide)).1
        generalize a.toNatClampNeg = j at ha hc ⊢
        have hd := dig_10 (hr.2.2.1.1 j ha) (hr.2.2.1.2 j ha) q2 q3
        by_cases q4 : u = ar 3 j ∧ v = ar 5 j
        · rw [iz_t q4.1, iz_t q4.2] at hc
          rw [iz_t (hd.mpr q4)]
          subst hc
          exact ⟨rfl, w, f, o, z, n, h⟩
        · rw [iz_f (fun e => q4 (hd.mp e))]
          have hc2 : c = ((nI 10) * (ar 3 j) + (ar 5 j), zu (zu ((sp_record ar fd o z).1) 3 (zu (((sp_record ar fd o z).1) 3) j u)) 5 (zu ((zu ((sp_record ar fd o z).1) 3 (zu (((sp_record ar fd o z).1) 3) j u)) 5) j v), (sp_record ar fd o z).2) := by
            by_cases q5 : u = ar 3 j
            · rw [iz_t q5, iz_f (fun e => q4 ⟨q5, e⟩)] at hc; exact hc
            · rw [iz_f q5] at hc; exact hc
          subst hc2
          dsimp only
          refine ⟨rfl, w, f, oz o z, pz z, n, RR_step h ?_ (fun k h1 h2 h3 h4 => ?_) ?_ (fun k h1 h2 => ?_) ⟨?_, ?_, ?_⟩⟩
          · rw [zu_s, zu_n _ _ (show (103 : Nat) ≠ 5 by decide), zu_n _ _ (show (103 : Nat) ≠ 3 by decide), rec_ar (k := 103) (by decide)]
            refine RB_c (F := fd 1) (fun _ _ => rfl) (fun _ _ => rfl) ?_ (RB_v ha q2 q3 (fun q hq => ?_) ?_ ?_ hr)
            · unfold rcF
              rw [zu_n _ _ (by decide), rec_fd (by decide)]
              exact ⟨rfl, rfl, rfl, rfl⟩
            · rw [zu_n _ _ (by omega), rcA_n (by omega), zu_n _ _ (by omega), zu_n _ _ (by omega)]
              exact rec_ar (by omega)
            · rw [zu_n _ _ (by decide), rcA_n (by decide), zu_n _ _ (by decide), zu_s, rec_ar (k := 3) (by decide)]
            · rw [zu_n _ _ (by decide), rcA_n (by decide), zu_s, zu_n _ _ (show (5 : Nat) ≠ 3 by decide), rec_ar (k := 5) (by decide)]
          · rw [zu_n _ _ h3, rcA_n h4, zu_n _ _ (by omega), zu_n _ _ (by omega)]
          · rw [zu_n _ _ (by decide)]
            unfold rcA
            rw [zu_s, zu_n _ _ (show (103 : Nat) ≠ 5 by decide), zu_n _ _ (show (103 : Nat) ≠ 3 by decide), zu_n _ _ (show (104 : Nat) ≠ 5 by decide), zu_n _ _ (show (104 : Nat) ≠ 3 by decide), rec_ar (k := 103) (by decide), rec_ar (k := 104) (by decide)]
          · unfold rcF; rw [zu_n _ _ h2]
          · unfold rcF; rw [zu_s, zu_s]
          · unfold rcF; rw [zu_s, zu_n _ _ (by decide), rec_fd (by decide)]
          · unfold rcF; rw [zu_s, zu_n _ _ (by decide), rec_fd (by decide)]
      · rw [iz_f q3] at hc ⊢
        subst hc
        exact ⟨rfl, w, f, o, z, n, h⟩
    · rw [iz_f q2] at hc ⊢
      subst hc
      exact ⟨rfl, w, f, o, z, n, h⟩
  · rw [iz_f q1] at hc ⊢
    subst hc
    exact ⟨rfl, w, f, o, z, n, h⟩
theorem in_m1 {w f : Nat} {v : Int32} (h1 : w ≤ 9) (h2 : f ≤ w) : (¬ v < (-1) ∧ ¬ nI (w - f) - nI 1 < v) ↔ (v = -1 ∨ (¬ v < nI 0 ∧ ¬ nI (w - f) - nI 1 < v)) := by
  have e : (nI (w - f) - nI 1).toInt = ((w - f : Nat) : Int) - 1 := by
    rcases (show w - f = 0 ∨ 1 ≤ w - f by omega) with q | q
    · rw [q]; decide
    · rw [nI_sub q, nI_toInt (by omega)]; omega
  rw [lt_iI, lt_iI, lt_iI, eq_iI, e, t_m1, nI_toInt (show 0 < 2 ^ 31 by decide)]
  omega
theorem RB_p {g : Nat → Int32} {A A2 : AR} {F : Nat → Int32} {w f c : Nat} {v : Int32} (hc : c < 36) (ho : A 9 c = -1) (h10 : F 10 = 0) (hv : v = -1 ∨ ∃ q, q < w - f ∧ v = nI q) (hA : ∀ q, q = 3 ∨ q = 5 ∨ q = 9 ∨ q = 11 ∨ q = 13 ∨ q = 15 → A2 q = A q) (y7 : A2 7 = zu (A 7) c v) (h : RB g A F w f) : RB (zu g (79 + c) v) A2 F w f := by
  obtain ⟨⟨a1, a2, a3, a4, a5⟩, ⟨b1, b2⟩, ⟨c1, c2⟩, ⟨d1, d2, d3⟩, e1, ⟨f1, f2⟩⟩ := h
  have x3 := hA 3 (by decide)
  have x5 := hA 5 (by decide)
  have x9 := hA 9 (by decide)
  have x11 := hA 11 (by decide)
  have x13 := hA 13 (by decide)
  have x15 := hA 15 (by decide)
  unfold RB
  rw [x3, x5, x9, x11, y7]
  refine ⟨⟨a1, a2, ?_, a4, a5⟩, ⟨b1, fun z => ⟨fun d hd => ?_, ?_⟩⟩, ⟨c1, c2⟩, ⟨fun d hd => ?_, d2, fun d hd hn => ?_⟩, e1, ⟨f1, fun hf => ?_⟩⟩
  · obtain ⟨h1, h2, h3, h4, h5, h6, h7, h8, h9, h10, h11, h12, h13, h14, h15', h16⟩ := a3
    refine ⟨fun d hd => ?_, fun d hd => ?_, fun d hd => ?_, fun d hd => ?_, fun d hd => ?_, ?_, ?_, ?_, ?_, ?_, ?_, h12, h13, h14, fun d hd => ?_, fun d hd => ?_⟩
    · rw [zu_n _ _ (by omega), x3]; exact h1 d hd
    · rw [zu_n _ _ (by omega), x5]; exact h2 d hd
    · rw [y7]
      by_cases e : d = c
      · subst e; rw [zu_s, zu_s]
      · rw [zu_n _ _ (by omega), zu_n _ _ e]; exact h3 d hd
    · rw [zu_n _ _ (by omega), x9]; exact h4 d hd
    · rw [zu_n _ _ (by omega), x13]; exact h5 d hd
    · rw [zu_n _ _ (by omega), x15]; exact h6
    · rw [zu_n _ _ (by omega), x15]; exact h7
    · rw [zu_n _ _ (by omega)]; exact h8
    · rw [zu_n _ _ (by omega)]; exact h9
    · rw [zu_n _ _ (by omega)]; exact h10
    · rw [zu_n _ _ (by omega)]; exact h11
    · rw [y7]
      by_cases e : d = c
      · subst e
        rw [zu_s]
        rcases hv with rfl | ⟨q, hq, rfl⟩
        · decide
        · intro z
          rw [lt_iI, nI_toInt (by omega), t_m1] at z
          omega
      · rw [zu_n _ _ e]; exact h15' d hd
    · rw [x9]; exact h16 d hd
  · rw [zu_n _ _ (by omega)]; exact (b2 z).1 d hd
  · rw [zu_n _ _ (by omega)]; exact (b2 z).2
  · by_cases e : d = c
    · subst e; rw [zu_s]; exact hv
    · rw [zu_n _ _ e]; exact d1 d hd
  · rw [zu_n _ _ (fun e => hn (by rw [e]; exact ho))]; exact d3 d hd hn
  · rw [h10] at hf; exact absurd hf (by decide)
theorem k_draft {ar fd : AR} {w f o z n : Nat} (h : RR ar fd w f o z n) (a v : Int32) {c : Int32 × AR × AR} (hc : c = sp_draft ar fd w f o z n a v) : (sq_draft c.2.1 c.2.2 ar fd w f z a v).1 = c.1 ∧ ∃ w2 f2 o2 z2 n2, RR (sq_draft c.2.1 c.2.2 ar fd w f z a v).2.1 (sq_draft c.2.1 c.2.2 ar fd w f z a v).2.2 w2 f2 o2 z2 n2 := by
  have h0 := h
  obtain ⟨hci, hr, hh, ⟨hs1, hs2⟩, ⟨t1, t2, t3⟩⟩ := h0
  obtain ⟨g1, g2, g3, g4, g5, -⟩ := id hci
  unfold sp_draft at hc
  unfold sq_draft
  by_cases q1 : ¬ a < nI 0 ∧ ¬ nI 35 < a
  · rw [iz_t q1] at hc ⊢
    have ha : a.toNatClampNeg < 36 := (cell_of q1 (by decide)).1
    generalize a.toNatClampNeg = j at ha hc ⊢
    by_cases q2 : fd 1 10 = 0
    · rw [iz_t q2] at hc
      rw [iz_t q2]
      by_cases q3 : ar 9 j = -1
      · rw [iz_t q3] at hc ⊢
        have hin := in_m1 (v := v) g4 g3
        have hpt := part_of (v := v) g1 g2 g4 g3
        by_cases q4 : v = -1 ∨ (¬ v < nI 0 ∧ ¬ nI (w - f) - nI 1 < v)
        · rw [iz_t (hin.mpr q4)]
          have hv : v = -1 ∨ ∃ q, q < w - f ∧ v = nI q := by
            rcases q4 with q4 | q4
            · exact Or.inl q4
            · exact Or.inr ⟨_, dist_of q4 (by omega)⟩
          have hc2 : c = iz (v = ar 7 j) (((-5), ar, fd)) ((ar 7 j, zu ((sp_record ar fd o z).1) 7 (zu (((sp_record ar fd o z).1) 7) j v), (sp_record ar fd o z).2)) := by
            by_cases q5 : v = -1
            · rw [iz_t q5] at hc; exact hc
            · rw [iz_f q5, iz_t (hpt.mpr (q4.resolve_left q5))] at hc; exact hc
          by_cases q6 : v = ar 7 j
          · rw [iz_t q6] at hc2
            rw [iz_t q6.symm]
            subst hc2
            exact ⟨rfl, w, f, o, z, n, h⟩
          · rw [iz_f q6] at hc2
            rw [iz_f (fun e => q6 e.symm)]
            subst hc2
            dsimp only
            refine ⟨rfl, w, f, oz o z, pz z, n, RR_step h ?_ (fun k h1 h2 h3 h4 => ?_) ?_ (fun k h1 h2 => ?_) ⟨?_, ?_, ?_⟩⟩
            · rw [zu_s, zu_n _ _ (show (103 : Nat) ≠ 7 by decide), rec_ar (k := 103) (by decide)]
              refine RB_c (F := fd 1) (fun _ _ => rfl) (fun _ _ => rfl) ?_ (RB_p ha q3 q2 hv (fun q hq => ?_) ?_ hr)
              · unfold rcF
                rw [zu_n _ _ (by decide), rec_fd (by decide)]
                exact ⟨rfl, rfl, rfl, rfl⟩
              · rw [zu_n _ _ (by omega), rcA_n (by omega), zu_n _ _ (by omega)]
                exact rec_ar (by omega)
              · rw [zu_n _ _ (by decide), rcA_n (by decide), zu_s, rec_ar (k := 7) (by decide)]
            · rw [zu_n _ _ h3, rcA_n h4, zu_n _ _ (by omega)]
            · rw [zu_n _ _ (by decide)]
              unfold rcA
              rw [zu_s, zu_n _ _ (show (103 : Nat) ≠ 7 by decide), zu_n _ _ (show (104 : Nat) ≠ 7 by decide), rec_ar (k := 103) (by decide), rec_ar (k := 104) (by decide)]
            · unfold rcF; rw [zu_n _ _ h2]
            · unfold rcF; rw [zu_s, zu_s]
            · unfold rcF; rw [zu_s, zu_n _ _ (by decide), rec_fd (by decide)]
            · unfold rcF; rw [zu_s, zu_n _ _ (by decide), rec_fd (by decide)]
        · rw [iz_f (fun e => q4 (hin.mp e))]
          rw [iz_f (fun e => q4 (Or.inl e)), iz_f (fun e => q4 (Or.inr (hpt.mp e)))] at hc
          subst hc
          exact ⟨rfl, w, f, o, z, n, h⟩
      · rw [iz_f q3] at hc ⊢
        subst hc
        exact ⟨rfl, w, f, o, z, n, h⟩
    · rw [iz_f q2] at hc
      subst hc
      by_cases q3 : ar 9 j = -1
      · rw [iz_t q3, iz_f q2]
        exact ⟨rfl, w, f, o, z, n, h⟩
      · rw [iz_f q3]
        exact ⟨rfl, w, f, o, z, n, h⟩
  · rw [iz_f q1] at hc ⊢
    subst hc
    exact ⟨rfl, w, f, o, z, n, h⟩
theorem rsn_rm {A : AR} {w f : Nat} (hw : w ≤ 9) : bz (rsnA A w f = nI 0) = iz (rmN A w f = 0) (nI 1) (nI 0) := by
  have q := (rm_all (f := f) A hw).2.2.1
  by_cases e : rmN A w f = 0
  · rw [iz_t e, bz_t (q.mp e)]; rfl
  · rw [iz_f e, bz_f (fun z => e (q.mpr z))]; rfl
/-- nothing but scratch: class, then model -/
theorem RR_JM {ar fd ar1 ar3 : AR} {w f o z n : Nat} (h : RR ar fd w f o z n) (h1 : JQ ar ar1) (h2 : JM ar1 ar3) : RR ar3 fd w f o z n :=
  RR_same h (fun k hk => (h2 k (fun e => hk (by unfold SCR; omega))).trans (h1 k (fun e => hk (by unfold SCR; omega)) (fun e => hk (by unfold SCR; omega)))) (fun _ _ => rfl) ⟨rfl, rfl, rfl⟩
theorem lt0_m1 {v : Int32} (h : ¬ v < -1) : v < 0 ↔ v = -1 := (ge_m2 h).symm
theorem ge0_m1 {v : Int32} (h : ¬ v < -1) : 0 ≤ v ↔ ¬ v = -1 := ⟨fun a b => (ge_m1 h).mp b a, fun a => Classical.byContradiction fun b => a ((ge_m1 h).mpr b)⟩
theorem k_trade {ar fd : AR} {w f o z n : Nat} (h : RR ar fd w f o z n) (a b : Int32) {c : Int32 × AR × AR} (hc : c = sp_trade ar fd w f o z n a b) {ar1 ar3 : AR} (hJ : JQ c.2.1 ar1) (hM : JM (sq_trade ar1 c.2.2 ar fd w f z a b).2.1 ar3) : (sq_trade ar1 c.2.2 ar fd w f z a b).1 = c.1 ∧ ∃ w2 f2 o2 z2 n2, RR ar3 (sq_trade ar1 c.2.2 ar fd w f z a b).2.2 w2 f2 o2 z2 n2 := by
  have h0 := h
  obtain ⟨hci, hr, hh, ⟨hs1, hs2⟩, ⟨t1, t2, t3⟩⟩ := h0
  obtain ⟨g1, g2, g3, g4, g5, -⟩ := id hci
  obtain ⟨⟨-, -, hme, -, -⟩, -, -, ⟨d1, d2, d3⟩, -, -⟩ := id hr
  have hge : ∀ k, k < 36 → ¬ ar 7 k < -1 := hme.2.2.2.2.2.2.2.2.2.2.2.2.2.2.1
  have sm : ∀ r : Int32, c = (r, ar, fd) → sq_trade ar1 c.2.2 ar fd w f z a b = (r, ar1, c.2.2) → (sq_trade ar1 c.2.2 ar fd w f z a b).1 = c.1 ∧ ∃ w2 f2 o2 z2 n2, RR ar3 (sq_trade ar1 c.2.2 ar fd w f z a b).2.2 w2 f2 o2 z2 n2 := by
    intro r e1 e2
    rw [e2] at hM ⊢
    subst e1
    exact ⟨rfl, w, f, o, z, n, RR_JM h hJ hM⟩
  by_cases q1 : ¬ a < nI 0 ∧ ¬ nI 35 < a
  · by_cases q2 : ¬ b < nI 0 ∧ ¬ nI 35 < b
    · have ha : a.toNatClampNeg < 36 := (cell_of q1 (by decide)).1
      have hb : b.toNatClampNeg < 36 := (cell_of q2 (by decide)).1
      unfold sp_trade at hc
      rw [iz_t q1, iz_t q2] at hc
      have e0 : sq_trade ar1 c.2.2 ar fd w f z a b = _ := (iz_t q1).trans (iz_t q2)
      generalize a.toNatClampNeg = i at ha hc e0
      generalize b.toNatClampNeg = j at hb hc e0
      by_cases q3 : fd 1 10 = 0
      · rw [iz_t q3] at hc e0
        by_cases q4 : ar 7 i = -1
        · rw [iz_t q4] at hc
          refine sm _ hc (e0.trans ?_)
          by_cases q5 : ar 9 i = -1
          · rw [iz_t q5]
            by_cases q6 : ar 9 j = -1
            · rw [iz_t q6, iz_t ((lt0_m1 (hge i ha)).mpr q4)]
            · rw [iz_f q6]
          · rw [iz_f q5]
        · have q5 : ar 9 i = -1 := Classical.byContradiction fun e => q4 (d3 i ha e)
          rw [iz_f q4] at hc
          rw [iz_t q5] at e0
          by_cases q6 : ar 7 j = -1
          · rw [iz_t q6] at hc
            refine sm _ hc (e0.trans ?_)
            by_cases q7 : ar 9 j = -1
            · rw [iz_t q7, iz_f (fun e => q4 ((lt0_m1 (hge i ha)).mp e)), iz_f (fun e => (ge0_m1 (hge j hb)).mp e q6)]
            · rw [iz_f q7]
          · have q7 : ar 9 j = -1 := Classical.byContradiction fun e => q6 (d3 j hb e)
            rw [iz_f q6] at hc
            rw [iz_t q7, iz_f (fun e => q4 ((lt0_m1 (hge i ha)).mp e)), iz_t ((ge0_m1 (hge j hb)).mpr q6)] at e0
            by_cases q8 : ar 7 i = ar 7 j
            · rw [iz_t q8] at hc e0
              exact sm _ hc e0
            · rw [iz_f q8] at hc e0
              have e1 : sq_trade ar1 c.2.2 ar fd w f z a b = (iz (rmN (zu (zu ar 7 (zu (ar 7) i (ar 7 j))) 7 (zu ((zu ar 7 (zu (ar 7) i (ar 7 j))) 7) j (ar 7 i))) w f = 0) (nI 1) (nI 0), zu (rcA ar1 z) 103 (zu (zu (ar1 103) (79 + i) (ar 7 j)) (79 + j) (ar 7 i)), rcF c.2.2 z) := by
                refine e0.trans ?_
                by_cases q9 : rmN (zu (zu ar 7 (zu (ar 7) i (ar 7 j))) 7 (zu ((zu ar 7 (zu (ar 7) i (ar 7 j))) 7) j (ar 7 i))) w f = 0
                · rw [iz_t q9, iz_t q9]
                · rw [iz_f q9, iz_f q9]
              rw [e1] at hM ⊢
              subst hc
              dsimp only at hJ hM ⊢
              have r7 : (sp_record ar fd o z).1 7 = ar 7 := rec_ar (by decide)
              have r9 : (sp_record ar fd o z).1 9 = ar 9 := rec_ar (by decide)
              have k1 : ∀ k, k ≠ 97 → k ≠ 99 → k ≠ 7 → ar1 k = (sp_record ar fd o z).1 k := fun k h1 h2 h3 => by rw [hJ k h1 h2, zu_n _ _ h3, zu_n _ _ h3]
              have k3 : ar1 103 = ar 103 := (k1 103 (by decide) (by decide) (by decide)).trans (rec_ar (by decide))
              have k4 : ar1 104 = ar 104 := (k1 104 (by decide) (by decide) (by decide)).trans (rec_ar (by decide))
              have k7 : ar1 7 = zu (zu (ar 7) i (ar 7 j)) j (ar 7 i) := by rw [hJ 7 (by decide) (by decide), zu_s, zu_s, r7]
              refine ⟨?_, w, f, oz o z, pz z, n, RR_step h ?_ (fun k h1 h2 h3 h4 => ?_) ?_ (fun k h1 h2 => ?_) ⟨?_, ?_, ?_⟩⟩
              · rw [← rsn_rm g4]
                refine bz_c ?_
                rw [rsnA_c (A := zu (zu ar 7 (zu (ar 7) i (ar 7 j))) 7 (zu ((zu ar 7 (zu (ar 7) i (ar 7 j))) 7) j (ar 7 i))) (A2 := zu (zu (sp_record ar fd o z).1 7 (zu ((sp_record ar fd o z).1 7) i (ar 7 j))) 7 (zu ((zu (sp_record ar fd o z).1 7 (zu ((sp_record ar fd o z).1 7) i (ar 7 j))) 7) j (ar 7 i))) (by rw [zu_s, zu_s, zu_s, zu_s, r7]) (by rw [zu_n _ _ (by decide), zu_n _ _ (by decide), zu_n _ _ (by decide), zu_n _ _ (by decide), r9])]
              · rw [hM 103 (by decide), zu_s, k3]
                refine RB_c (F := fd 1) (A := zu (zu ar 7 (zu (ar 7) i (ar 7 j))) 7 (zu ((zu ar 7 (zu (ar 7) i (ar 7 j))) 7) j (ar 7 i))) (fun _ _ => rfl) (fun q hq => ?_) ?_ (RB_p hb (A := zu ar 7 (zu (ar 7) i (ar 7 j))) (by rw [zu_n _ _ (by decide)]; exact q7) q3 (d1 i ha) (fun q hq => zu_n _ _ (by omega)) (zu_s _ _ _) (RB_p ha q5 q3 (d1 j hb) (fun q hq => zu_n _ _ (by omega)) (zu_s _ _ _) hr))
                · rw [hM q (by omega), zu_n _ _ (by omega), rcA_n (by omega)]
                  by_cases e7 : q = 7
                  · rw [e7, k7, zu_s, zu_s]
                  · rw [k1 q (by omega) (by omega) e7, zu_n _ _ e7, zu_n _ _ e7]; exact rec_ar (by omega)
                · unfold rcF
                  rw [zu_n _ _ (by decide), rec_fd (by decide)]
                  exact ⟨rfl, rfl, rfl, rfl⟩
              · rw [hM k (fun e => h2 (by unfold SCR; omega)), zu_n _ _ h3, rcA_n h4]
                exact k1 k (fun e => h2 (by unfold SCR; omega)) (fun e => h2 (by unfold SCR; omega)) (by omega)
              · rw [hM 104 (by decide), zu_n _ _ (by decide)]
                unfold rcA
                rw [zu_s, k3, k4]
              · unfold rcF; rw [zu_n _ _ h2]
              · unfold rcF; rw [zu_s, zu_s]
              · unfold rcF; rw [zu_s, zu_n _ _ (by decide), rec_fd (by decide)]
              · unfold rcF; rw [zu_s, zu_n _ _ (by decide), rec_fd (by decide)]
      · rw [iz_f q3] at hc e0
        exact sm _ hc e0
    · unfold sp_trade at hc
      rw [iz_t q1, iz_f q2] at hc
      exact sm _ hc ((iz_t q1).trans (iz_f q2))
  · unfold sp_trade at hc
    rw [iz_f q1] at hc
    exact sm _ hc (iz_f q1)
theorem iz_2 {α β : Type} {P : Prop} {a b : α × β} {y : β} (ha : a.2 = y) (hb : b.2 = y) : (iz P a b).2 = y := by
  by_cases h : P
  · rw [iz_t h]; exact ha
  · rw [iz_f h]; exact hb
theorem part_2 (ar fd : AR) (w f o z n : Nat) (v q : Int32) : (sp_part ar fd w f o z n v q).2 = (ar, fd) := iz_2 (iz_2 rfl rfl) rfl
theorem why_2 (ar fd : AR) (w f o z n : Nat) (q : Int32) : (sp_why ar fd w f o z n q).2 = (ar, fd) := iz_2 (iz_2 (iz_2 rfl rfl) rfl) rfl
theorem k_part {ar fd : AR} {w f o z n : Nat} (h : RR ar fd w f o z n) (v q : Int32) {ar1 ar3 : AR} (hJ : JQ (sp_part ar fd w f o z n v q).2.1 ar1) (hM : JM ar1 ar3) : RR ar3 fd w f o z n := RR_JM h (by rw [part_2] at hJ; exact hJ) hM
theorem k_why {ar fd : AR} {w f o z n : Nat} (h : RR ar fd w f o z n) (q : Int32) {ar1 ar3 : AR} (hJ : JQ (sp_why ar fd w f o z n q).2.1 ar1) (hM : JM ar1 ar3) : RR ar3 fd w f o z n := RR_JM h (by rw [why_2] at hJ; exact hJ) hM
set_option maxRecDepth 100000 in
set_option maxHeartbeats 4000000 in
theorem ct_R (P : Nat → Prop) : ct (fun j => P (csR j)) 36 = ct P 36 := by
  have e : ∀ k, k < 36 → csR k < 36 ∧ csR (csR k) = k := csR_36
  simp only [ct]
  simp only [show csR 0 = 0 from rfl, show csR 1 = 1 from rfl, show csR 2 = 2 from rfl, show csR 3 = 3 from rfl, show csR 4 = 4 from rfl, show csR 5 = 5 from rfl, show csR 6 = 11 from rfl, show csR 7 = 10 from rfl, show csR 8 = 9 from rfl, show csR 9 = 8 from rfl, show csR 10 = 7 from rfl, show csR 11 = 6 from rfl, show csR 12 = 12 from rfl, show csR 13 = 13 from rfl, show csR 14 = 14 from rfl, show csR 15 = 15 from rfl, show csR 16 = 16 from rfl, show csR 17 = 17 from rfl, show csR 18 = 23 from rfl, show csR 19 = 22 from rfl, show csR 20 = 21 from rfl, show csR 21 = 20 from rfl, show csR 22 = 19 from rfl, show csR 23 = 18 from rfl, show csR 24 = 24 from rfl, show csR 25 = 25 from rfl, show csR 26 = 26 from rfl, show csR 27 = 27 from rfl, show csR 28 = 28 from rfl, show csR 29 = 29 from rfl, show csR 30 = 35 from rfl, show csR 31 = 34 from rfl, show csR 32 = 33 from rfl, show csR 33 = 32 from rfl, show csR 34 = 31 from rfl, show csR 35 = 30 from rfl]
  omega
set_option maxRecDepth 100000 in
set_option maxHeartbeats 4000000 in
theorem ct_C (P : Nat → Prop) : ct (fun j => P (csC j)) 36 = ct P 36 := by
  simp only [ct]
  simp only [show csC 0 = 0 from rfl, show csC 1 = 6 from rfl, show csC 2 = 12 from rfl, show csC 3 = 18 from rfl, show csC 4 = 24 from rfl, show csC 5 = 30 from rfl, show csC 6 = 31 from rfl, show csC 7 = 25 from rfl, show csC 8 = 19 from rfl, show csC 9 = 13 from rfl, show csC 10 = 7 from rfl, show csC 11 = 1 from rfl, show csC 12 = 2 from rfl, show csC 13 = 8 from rfl, show csC 14 = 14 from rfl, show csC 15 = 20 from rfl, show csC 16 = 26 from rfl, show csC 17 = 32 from rfl, show csC 18 = 33 from rfl, show csC 19 = 27 from rfl, show csC 20 = 21 from rfl, show csC 21 = 15 from rfl, show csC 22 = 9 from rfl, show csC 23 = 3 from rfl, show csC 24 = 4 from rfl, show csC 25 = 10 from rfl, show csC 26 = 16 from rfl, show csC 27 = 22 from rfl, show csC 28 = 28 from rfl, show csC 29 = 34 from rfl, show csC 30 = 35 from rfl, show csC 31 = 29 from rfl, show csC 32 = 23 from rfl, show csC 33 = 17 from rfl, show csC 34 = 11 from rfl, show csC 35 = 5 from rfl]
  omega
theorem ct_N (P : Nat → Prop) (B : Prop) : ct (fun j => P (csN B j)) 36 = ct P 36 := by
  by_cases h : B
  · rw [show (fun j => P (csN B j)) = fun j => P (csC j) from funext fun j => by unfold csN; rw [iz_t h]]; exact ct_C P
  · rw [show (fun j => P (csN B j)) = fun j => P (csR j) from funext fun j => by unfold csN; rw [iz_f h]]; exact ct_R P
theorem ct_mono (P : Nat → Prop) : ∀ {i k : Nat}, i ≤ k → ct P i ≤ ct P k
  | i, 0, h => by rw [show i = 0 by omega]; exact Nat.le_refl _
  | i, k + 1, h => by
    by_cases e : i = k + 1
    · rw [e]; exact Nat.le_refl _
    · refine Nat.le_trans (ct_mono P (show i ≤ k by omega)) ?_
      by_cases q : P k
      · rw [ct_t q]; exact Nat.le_succ _
      · rw [ct_f q]; exact Nat.le_refl _
/-- what the snake plans: parts that are there, for open cells only -/
theorem plF_ok {D : Nat → Int32} {B : Prop} {w f c : Nat} (hct : ct (fun c => D c = -1) 36 = (w - f) * (36 / w)) (hc : c < 36) : (plF D B (36 / w) c = -1 ∨ ∃ q, q < w - f ∧ plF D B (36 / w) c = nI q) ∧ (¬ D c = -1 → plF D B (36 / w) c = -1) := by
  obtain ⟨-, -, g1, g2⟩ := csN_36 B hc
  unfold plF plV
  rw [g2]
  by_cases h : D c = -1
  · rw [iz_t h]
    refine ⟨Or.inr ⟨_, ?_, rfl⟩, fun z => absurd h z⟩
    have h1 : OQ D B (csI B c + 1) = OQ D B (csI B c) + 1 := ct_t (P := fun j => D (csN B j) = -1) (by rw [g2]; exact h)
    have h2 : OQ D B (csI B c + 1) ≤ OQ D B 36 := ct_mono _ (by omega)
    have h3 : OQ D B 36 = (w - f) * (36 / w) := (ct_N (fun c => D c = -1) B).trans hct
    exact Nat.div_lt_of_lt_mul (by rw [Nat.mul_comm]; omega)
  · rw [iz_f h]
    exact ⟨Or.inl rfl, fun _ => rfl⟩
