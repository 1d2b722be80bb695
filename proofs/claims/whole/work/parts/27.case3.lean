
/-! begin, freeze, readVotes -/
theorem ct_all {P : Nat → Prop} {n : Nat} (h : ∀ i, i < n → P i) : ct P n = n := by
  induction n with
  | zero => rfl
  | succ n ih => rw [ct_t (h n (by omega)), ih fun i hi => h i (by omega)]
theorem ct_none {P : Nat → Prop} {n : Nat} (h : ∀ i, i < n → ¬ P i) : ct P n = 0 := by
  induction n with
  | zero => rfl
  | succ n ih => rw [ct_f (h n (by omega)), ih fun i hi => h i (by omega)]
theorem ct_sub {P R Z : Nat → Prop} {n : Nat} (h1 : ∀ i, i < n → (Z i ↔ P i ∧ ¬ R i)) (h2 : ∀ i, i < n → R i → P i) : ct Z n + ct R n = ct P n := by
  induction n with
  | zero => rfl
  | succ n ih =>
    have q := ih (fun i hi => h1 i (by omega)) (fun i hi => h2 i (by omega))
    have q1 := h1 n (by omega)
    have q2 := h2 n (by omega)
    by_cases a : P n
    · by_cases b : R n
      · rw [ct_f (fun z => (q1.mp z).2 b), ct_t b, ct_t a]; omega
      · rw [ct_t (q1.mpr ⟨a, b⟩), ct_f b, ct_t a]; omega
    · rw [ct_f (fun z => a (q1.mp z).1), ct_f (fun z => a (q2 z)), ct_f a]; exact q
theorem clrF_s (g : Nat → Int32) : clrF g 75 = nI 0 ∧ clrF g 76 = nI 0 ∧ clrF g 77 = nI 0 ∧ clrF g 78 = nI 0 := by
  unfold clrF
  refine ⟨?_, ?_, ?_, ?_⟩
  · rw [bl_o (by omega), clw_o (by omega), zu_n _ _ (by decide), zu_n _ _ (by decide), zu_n _ _ (by decide), zu_s]
  · rw [bl_o (by omega), clw_o (by omega), zu_n _ _ (by decide), zu_n _ _ (by decide), zu_s]
  · rw [bl_o (by omega), clw_o (by omega), zu_n _ _ (by decide), zu_s]
  · rw [bl_o (by omega), clw_o (by omega), zu_s]
theorem clrF_m (g : Nat → Int32) {c : Nat} (hc : c < 36) : clrF g (79 + c) = -1 ∧ clrF g (115 + c) = -1 ∧ clrF g (151 + c) = -1 := by
  unfold clrF
  refine ⟨?_, ?_, ?_⟩
  · rw [bl_o (by omega)]; exact iz_t (by omega)
  · rw [bl_o (by omega)]; exact iz_t (by omega)
  · rw [bl_o (by omega)]; exact iz_t (by omega)
theorem RB_b {g : Nat → Int32} {A A2 : AR} {F F2 : Nat → Int32} {w f k : Nat} (hk : k = 2 ∨ k = 3 ∨ k = 4 ∨ k = 6 ∨ k = 9) (hF : F2 7 = nI k ∧ F2 8 = nI 0 ∧ F2 9 = nI 0 ∧ F2 10 = nI 0) (hA : ∀ q, q = 3 ∨ q = 5 ∨ q = 15 → A2 q = A q) (y7 : A2 7 = fun _ => -1) (y9 : A2 9 = fun _ => -1) (y11 : A2 11 = fun _ => -1) (h : RB g A F w f) : RB (clrF (zu g 72 (nI k))) A2 F2 k 0 := by
  obtain ⟨⟨a1, a2, a3, a4, a5⟩, ⟨b1, b2⟩, ⟨c1, c2⟩, -⟩ := h
  have x3 := hA 3 (by decide)
  have x5 := hA 5 (by decide)
  have x15 := hA 15 (by decide)
  have lo : ∀ q, q < 75 → q ≠ 72 → clrF (zu g 72 (nI k)) q = g q := fun q h1 h2 => by rw [clrF_lo h1, zu_n _ _ h2]
  obtain ⟨s1, s2, s3, s4⟩ := clrF_s (zu g 72 (nI k))
  have hk2 : 2 ≤ k ∧ k ≤ 9 := by omega
  unfold RB STG
  rw [x3, x5, y7, y9, y11, hF.1, hF.2.1, hF.2.2.1, hF.2.2.2]
  refine ⟨⟨rfl, rfl, ?_, ?_, Or.inl rfl, Or.inl rfl⟩, ⟨⟨fun e => absurd e (by decide), fun e => absurd e (by omega)⟩, fun _ => ⟨fun d hd => (clrF_m _ hd).2.2, ⟨fun _ => rfl, fun _ => s4⟩⟩⟩, ⟨c1, c2⟩, ⟨fun _ _ => Or.inl rfl, fun _ _ => Or.inl rfl, fun _ _ _ => rfl⟩, fun _ => ⟨fun _ _ => Or.inl rfl, fun _ _ _ => rfl⟩, ⟨?_, fun e => absurd e (by decide)⟩⟩
  · obtain ⟨h1, h2, h3, h4, h5, h6, h7, -⟩ := a3
    refine ⟨fun d hd => ?_, fun d hd => ?_, fun d hd => ?_, fun d hd => ?_, fun d hd => absurd hd (Nat.not_lt_zero _), ?_, ?_, ?_, s3, ?_, ?_, by omega, hk2.2, hk2.1, fun d hd => ?_, fun d hd => ?_⟩
    · rw [lo _ (by omega) (by omega), x3]; exact h1 d hd
    · rw [lo _ (by omega) (by omega), x5]; exact h2 d hd
    · rw [y7]; exact (clrF_m _ hd).1
    · rw [y9]; exact (clrF_m _ hd).2.1
    · rw [lo _ (by omega) (by omega), x15]; exact h6
    · rw [lo _ (by omega) (by omega), x15]; exact h7
    · rw [clrF_lo (by omega), zu_s]
    · rw [hF.2.2.1]; exact s2
    · rw [hF.2.2.2]; exact s1
    · rw [y7]; show ¬ (-1 : Int32) < -1; decide
    · rw [y9]; show ¬ (-1 : Int32) < -1; decide
  · refine ⟨?_, by omega⟩
    rcases hk with rfl | rfl | rfl | rfl | rfl <;> decide
  · rw [ct_all (fun _ _ => rfl)]
    rcases hk with rfl | rfl | rfl | rfl | rfl <;> decide
theorem divs_k {v : Int32} (h : divs v) : ∃ k, v = nI k ∧ (k = 2 ∨ k = 3 ∨ k = 4 ∨ k = 6 ∨ k = 9) := by
  rcases h with h | h | h | h | h
  · exact ⟨2, h, by decide⟩
  · exact ⟨3, h, by decide⟩
  · exact ⟨4, h, by decide⟩
  · exact ⟨6, h, by decide⟩
  · exact ⟨9, h, by decide⟩
theorem divs_i {v : Int32} (h1 : ¬ v < nI 2) (h2 : ¬ nI 9 < v) (h3 : 36 % v.toNatClampNeg = 0) : divs v := by
  have h0 : ¬ v < nI 0 := fun e => h1 (by rw [lt_iI, nI_toInt (by decide)] at e ⊢; omega)
  obtain ⟨l1, e⟩ := cell_of ⟨h0, h2⟩ (by decide)
  generalize v.toNatClampNeg = k at l1 e h3
  subst e
  rw [lt_iI, nI_toInt (by omega), nI_toInt (by decide)] at h1
  unfold divs
  rcases (show k = 2 ∨ k = 3 ∨ k = 4 ∨ k = 5 ∨ k = 6 ∨ k = 7 ∨ k = 8 ∨ k = 9 by omega) with rfl | rfl | rfl | rfl | rfl | rfl | rfl | rfl
  · exact Or.inl rfl
  · exact Or.inr (Or.inl rfl)
  · exact Or.inr (Or.inr (Or.inl rfl))
  · exact absurd h3 (by decide)
  · exact Or.inr (Or.inr (Or.inr (Or.inl rfl)))
  · exact absurd h3 (by decide)
  · exact absurd h3 (by decide)
  · exact Or.inr (Or.inr (Or.inr (Or.inr rfl)))
theorem k_begin {ar fd : AR} {w f o z n : Nat} (h : RR ar fd w f o z n) (v : Int32) {c : Int32 × AR × AR} (hc : c = sp_begin ar fd w f o z n v) : (sq_begin c.2.1 c.2.2 ar fd w f z v).1 = c.1 ∧ ∃ w2 f2 o2 z2 n2, RR (sq_begin c.2.1 c.2.2 ar fd w f z v).2.1 (sq_begin c.2.1 c.2.2 ar fd w f z v).2.2 w2 f2 o2 z2 n2 := by
  have h0 := h
  obtain ⟨hci, hr, hh, ⟨hs1, hs2⟩, ⟨t1, t2, t3⟩⟩ := h0
  unfold sp_begin at hc
  by_cases q1 : divs v
  · rw [iz_t q1] at hc
    obtain ⟨k, rfl, hk⟩ := divs_k q1
    have hk2 : 2 ≤ k ∧ k ≤ 9 := by omega
    have ek : (nI k).toNatClampNeg = k := nI_clamp (by omega)
    have e0 : sq_begin c.2.1 c.2.2 ar fd w f z (nI k) = (nI (36 / k), zu (rcA c.2.1 z) 103 (clrF (zu (c.2.1 103) 72 (nI k))), rcF c.2.2 z) := by
      unfold sq_begin
      rw [iz_f (show ¬ nI k < nI 2 by rw [lt_iI, nI_toInt (by omega), nI_toInt (by decide)]; omega), iz_f (show ¬ nI 9 < nI k by rw [lt_iI, nI_toInt (by omega), nI_toInt (by omega)]; omega), ek, iz_t (show 36 % k = 0 by rcases hk with rfl | rfl | rfl | rfl | rfl <;> decide)]
    rw [e0]
    rw [ek] at hc
    have fA : (sp_startAnew (sp_record ar fd o z).1 (sp_record ar fd o z).2 (nI k)).1 = zu (zu (zu (zu (sp_record ar fd o z).1 7 (fun _ => (-1))) 9 (fun _ => (-1))) 11 (fun _ => (-1))) 13 (fun _ => (-1)) := rfl
    have fF : (sp_startAnew (sp_record ar fd o z).1 (sp_record ar fd o z).2 (nI k)).2 1 = zu (zu (zu (zu (fd 1) 7 (nI k)) 8 (nI 0)) 9 (nI 0)) 10 (nI 0) := by
      unfold sp_startAnew
      simp only [zu_s]
      rw [rec_fd (by decide)]
    have fG : ∀ j, j ≠ 1 → (sp_startAnew (sp_record ar fd o z).1 (sp_record ar fd o z).2 (nI k)).2 j = (sp_record ar fd o z).2 j := fun j hj => by
      unfold sp_startAnew
      dsimp only
      rw [zu_n _ _ hj, zu_n _ _ hj, zu_n _ _ hj, zu_n _ _ hj]
    subst hc
    dsimp only
    generalize (sp_startAnew (sp_record ar fd o z).1 (sp_record ar fd o z).2 (nI k)).2 = F1 at fF fG
    rw [fA]
    have o4 : ∀ j, j ≠ 7 → j ≠ 9 → j ≠ 11 → j ≠ 13 → zu (zu (zu (zu (sp_record ar fd o z).1 7 (fun _ => (-1))) 9 (fun _ => (-1))) 11 (fun _ => (-1))) 13 (fun _ => (-1)) j = (sp_record ar fd o z).1 j := fun j h1 h2 h3 h4 => by rw [zu_n _ _ h4, zu_n _ _ h3, zu_n _ _ h2, zu_n _ _ h1]
    have v7 : zu (zu (zu (zu (sp_record ar fd o z).1 7 (fun _ => (-1))) 9 (fun _ => (-1))) 11 (fun _ => (-1))) 13 (fun _ => (-1)) 7 = fun _ => -1 := by rw [zu_n _ _ (by decide), zu_n _ _ (by decide), zu_n _ _ (by decide), zu_s]
    have v9 : zu (zu (zu (zu (sp_record ar fd o z).1 7 (fun _ => (-1))) 9 (fun _ => (-1))) 11 (fun _ => (-1))) 13 (fun _ => (-1)) 9 = fun _ => -1 := by rw [zu_n _ _ (by decide), zu_n _ _ (by decide), zu_s]
    have v11 : zu (zu (zu (zu (sp_record ar fd o z).1 7 (fun _ => (-1))) 9 (fun _ => (-1))) 11 (fun _ => (-1))) 13 (fun _ => (-1)) 11 = fun _ => -1 := by rw [zu_n _ _ (by decide), zu_s]
    generalize zu (zu (zu (zu (sp_record ar fd o z).1 7 (fun _ => (-1))) 9 (fun _ => (-1))) 11 (fun _ => (-1))) 13 (fun _ => (-1)) = A1 at o4 v7 v9 v11
    have k3 : A1 103 = ar 103 := (o4 103 (by decide) (by decide) (by decide) (by decide)).trans (rec_ar (by decide))
    refine ⟨rfl, k, 0, oz o z, pz z, n, RR_rec (ar1 := A1) (fd1 := F1) h (fun j h1 h2 => o4 j (by omega) (by omega) (by omega) (by omega)) (fun j h1 h2 => fG j h1) ⟨by rw [fG 102 (by decide), rec_fd (by decide)], by rw [fG 102 (by decide), rec_fd (by decide)]⟩ (fun j h1 h2 => zu_n _ _ h2) rfl ?_⟩
    have z1 : ∀ q, q ≠ 103 → q ≠ 104 → zu (rcA A1 z) 103 (clrF (zu (A1 103) 72 (nI k))) q = A1 q := fun q h1 h2 => by rw [zu_n _ _ h1, rcA_n h2]
    rw [zu_s, k3]
    rw [k3] at z1
    have f1 : rcF F1 z 1 = zu (zu (zu (zu (fd 1) 7 (nI k)) 8 (nI 0)) 9 (nI 0)) 10 (nI 0) := by unfold rcF; rw [zu_n _ _ (by decide)]; exact fF
    rw [f1]
    refine RB_b (A := ar) (F := fd 1) hk ⟨?_, ?_, ?_, zu_s _ _ _⟩ (fun q hq => ?_) ?_ ?_ ?_ hr
    · rw [zu_n _ _ (by decide), zu_n _ _ (by decide), zu_n _ _ (by decide), zu_s]
    · rw [zu_n _ _ (by decide), zu_n _ _ (by decide), zu_s]
    · rw [zu_n _ _ (by decide), zu_s]
    · rw [z1 q (by omega) (by omega), o4 q (by omega) (by omega) (by omega) (by omega)]; exact rec_ar (by omega)
    · rw [z1 7 (by decide) (by decide)]; exact v7
    · rw [z1 9 (by decide) (by decide)]; exact v9
    · rw [z1 11 (by decide) (by decide)]; exact v11
  · rw [iz_f q1] at hc
    subst hc
    have e0 : sq_begin ar fd ar fd w f z v = (-2, ar, fd) := by
      unfold sq_begin
      by_cases q2 : v < nI 2
      · rw [iz_t q2]
      · rw [iz_f q2]
        by_cases q3 : nI 9 < v
        · rw [iz_t q3]
        · rw [iz_f q3, iz_f (fun e => q1 (divs_i q2 q3 e))]
    dsimp only
    rw [e0]
    exact ⟨rfl, w, f, o, z, n, h⟩
