
/-! freeze -/
theorem rsn_0 {a b d : Int32} (h : rsn a b d = nI 0) : a = -1 ∧ b = -1 ∧ d = -1 := by
  unfold rsn at h
  by_cases h1 : a = -1
  · rw [iz_t h1] at h
    by_cases h2 : b = -1
    · rw [iz_t h2] at h
      by_cases h3 : d = -1
      · exact ⟨h1, h2, h3⟩
      · rw [iz_f h3] at h; exact absurd h (by decide)
    · rw [iz_f h2] at h; exact absurd h (by decide)
  · rw [iz_f h1] at h; exact absurd h (by decide)
theorem ffst_no {P : Nat → Prop} : ∀ {m i : Nat}, i + m < 2 ^ 31 → ffst P m i = -1 → ∀ j, i ≤ j → j < i + m → ¬ P j
  | 0, i, _, _, j, h1, h2 => absurd h2 (by omega)
  | m + 1, i, hb, h, j, h1, h2 => by
    have h : iz (P i) (nI i) (ffst P m (i + 1)) = -1 := h
    by_cases q : P i
    · rw [iz_t q] at h
      exact absurd h (nI_nm (by omega))
    · rw [iz_f q] at h
      by_cases e : j = i
      · rw [e]; exact q
      · exact ffst_no (by omega) h j (by omega) (by omega)
/-- a cut: every open cell has a part, every part has its size -/
theorem cut_ok {A : AR} {w f : Nat} (hw : w ≤ 9) (h : rsnA A w f = nI 0) : (∀ c, c < 36 → A 9 c = -1 → ¬ A 7 c = -1) ∧ ∀ q, q < w - f → ct (fun i => A 7 i = nI q) 36 = 36 / w := by
  obtain ⟨h1, h2, -⟩ := rsn_0 h
  refine ⟨fun c hc h3 h4 => ffst_no (by decide) h1 c (Nat.zero_le _) (by omega) ⟨h3, h4⟩, fun q hq => ?_⟩
  exact Classical.byContradiction fun z => ffst_no (by omega) h2 q (Nat.zero_le _) (by omega) z
theorem lr_rg {a : Int32} {g : Nat → Int32} {u t c : Nat} (hu : u < 100) (ht : t < u + 1) (ha : g c = a) (hg : a = -1 ∨ ∃ q, q < u + 1 ∧ a = nI q) : lrF g (nI t) c = -1 ∨ ∃ q, q < u ∧ lrF g (nI t) c = nI q := by
  unfold lrF
  rw [ha]
  by_cases h1 : a = nI t
  · rw [iz_t h1]; exact Or.inl rfl
  · rw [iz_f h1]
    rcases hg with rfl | ⟨q, hq, rfl⟩
    · rw [iz_t (by rw [le_iI, t_m1, nI_toInt (by omega)]; omega)]; exact Or.inl rfl
    · have hne : ¬ q = t := fun e => h1 (by rw [e])
      by_cases h2 : nI q ≤ nI t
      · rw [iz_t h2]
        rw [le_iI, nI_toInt (by omega), nI_toInt (by omega)] at h2
        exact Or.inr ⟨q, by omega, rfl⟩
      · rw [iz_f h2]
        rw [le_iI, nI_toInt (by omega), nI_toInt (by omega)] at h2
        refine Or.inr ⟨q - 1, by omega, ?_⟩
        rw [← sub1, nI_sub (by omega)]
theorem lr_m {g : Nat → Int32} {t c : Nat} (ht : t < 100) (h : g c = -1) : lrF g (nI t) c = -1 := by
  unfold lrF
  rw [h, iz_f (fun e => nI_nm (by omega) e.symm), iz_t (by rw [le_iI, t_m1, nI_toInt (by omega)]; omega)]
theorem fpG_o {g : Nat → Int32} {v q : Int32} {f k : Nat} (h0 : k ≠ 77) (h1 : k ≠ 187 + f) (h2 : k < 79 ∨ 115 ≤ k) (h3 : k < 115 ∨ 151 ≤ k) : fpG g v q f k = g k := by
  unfold fpG
  rw [zu_n _ _ h0, zu_n _ _ h1, fpL_o (by omega) (by omega)]
theorem fpG_p {g : Nat → Int32} {v q : Int32} {f j : Nat} (h : j < 36) : fpG g v q f (79 + j) = lrF (fun j => g (79 + j)) v j := by
  unfold fpG
  rw [zu_n _ _ (by omega), zu_n _ _ (by omega), fpL_p h]
theorem fpG_d {g : Nat → Int32} {v q : Int32} {f j : Nat} (h : j < 36) : fpG g v q f (115 + j) = iz (g (79 + j) = v) (nI f) (g (115 + j)) := by
  unfold fpG
  rw [zu_n _ _ (by omega), zu_n _ _ (by omega), fpL_d h]
theorem fpG_f {g : Nat → Int32} {v q : Int32} {f : Nat} : fpG g v q f (187 + f) = q := by
  unfold fpG
  rw [zu_n _ _ (by omega), zu_s]
theorem fpG_7 {g : Nat → Int32} {v q : Int32} {f : Nat} : fpG g v q f 77 = nI (f + 1) := zu_s _ _ _
theorem lrF_e {g1 g2 : Nat → Int32} {v : Int32} {c : Nat} (h : g1 c = g2 c) : lrF g1 v c = lrF g2 v c := by unfold lrF; rw [h]
theorem fzL_p {G : Nat → Int32} {c : Nat} (hc : c < 36) : fzL G 36 (79 + c) = -1 ∧ fzL G 36 (151 + c) = G (79 + c) := by
  unfold fzL
  refine ⟨?_, ?_⟩
  · rw [iz_f (by omega), iz_t (by omega)]
  · rw [iz_t (by omega), show 151 + c - 151 = c by omega]
/-- a district more, and more than one part left -/
theorem RB_f {g : Nat → Int32} {A A2 : AR} {F F2 : Nat → Int32} {w f t : Nat} (hst : F 10 = nI 1) (ht : t < w - f) (hl : ¬ w - (f + 1) = 1) (hF : F2 7 = F 7 ∧ F2 8 = nI (f + 1) ∧ F2 9 = nI 1 - F 9 ∧ F2 10 = nI 0) (hA : ∀ q, q = 3 ∨ q = 5 ∨ q = 15 → A2 q = A q) (y7 : A2 7 = fun _ => -1) (y9 : A2 9 = fun j => iz (A 7 j = nI t) (nI f) (A 9 j)) (y11 : A2 11 = lrF (A 7) (nI t)) (y13 : A2 13 = zu (A 13) f (nI 1 - F 9)) (h : RB g A F w f) : RB (zu (zu (zu (fzL (fpG g (nI t) (nI 1 - F 9) f) 36) 78 (nI 1)) 76 (nI 1 - F 9)) 75 (nI 0)) A2 F2 w (f + 1) := by
  obtain ⟨⟨a1, a2, a3, a4, a5⟩, ⟨b1, b2⟩, ⟨c1, c2⟩, ⟨d1, d2, d3⟩, e1, ⟨f1, f2⟩⟩ := h
  obtain ⟨h1, h2, h3, h4, h5, h6, h7, h8, h9, h10, h11, h12, h13, h14, h15, h16⟩ := a3
  obtain ⟨k1, k2⟩ := cut_ok h13 (f2 hst)
  have x3 := hA 3 (by decide)
  have x5 := hA 5 (by decide)
  have x15 := hA 15 (by decide)
  have hl0 : ¬ w - f = 1 := a4.2
  have hne : ¬ f = w := fun e => by have q := b1.mpr e; rw [hst] at q; exact absurd q (by decide)
  have o : ∀ k, k ≠ 75 → k ≠ 76 → k ≠ 78 → zu (zu (zu (fzL (fpG g (nI t) (nI 1 - F 9) f) 36) 78 (nI 1)) 76 (nI 1 - F 9)) 75 (nI 0) k = fzL (fpG g (nI t) (nI 1 - F 9) f) 36 k := fun k q1 q2 q3 => by rw [zu_n _ _ q1, zu_n _ _ q2, zu_n _ _ q3]
  have lo : ∀ k, k < 75 → zu (zu (zu (fzL (fpG g (nI t) (nI 1 - F 9) f) 36) 78 (nI 1)) 76 (nI 1 - F 9)) 75 (nI 0) k = g k := fun k hk => by rw [o k (by omega) (by omega) (by omega), fzL_o (by omega) (by omega), fpG_o (by omega) (by omega) (by omega) (by omega)]
  have hD : ∀ c, c < 36 → (iz (A 7 c = nI t) (nI f) (A 9 c) = -1 ↔ A 9 c = -1 ∧ ¬ A 7 c = nI t) := by
    intro c hc
    by_cases q : A 7 c = nI t
    · rw [iz_t q]
      exact ⟨fun e => absurd e (nI_nm (by omega)), fun e => absurd q e.2⟩
    · rw [iz_f q]
      exact ⟨fun e => ⟨e, q⟩, fun e => e.1⟩
  have hP : ∀ c, c < 36 → A 7 c = nI t → A 9 c = -1 := fun c hc e => Classical.byContradiction fun z => nI_nm (a := t) (by omega) (e.symm.trans (d3 c hc z))
  have pl : F 9 = nI 0 ∨ F 9 = nI 1 := a5.2
  unfold RB STG
  rw [x3, x5, y7, y9, y11, hF.1, hF.2.1, hF.2.2.1, hF.2.2.2]
  refine ⟨⟨a1, rfl, ?_, ⟨a4.1, hl⟩, Or.inl rfl, ?_⟩, ⟨⟨fun e => absurd e (by decide), fun e => absurd e (by omega)⟩, fun _ => ⟨fun d hd => ?_, ⟨fun e => ?_, fun e => absurd e (by omega)⟩⟩⟩, ⟨c1, c2⟩, ⟨fun _ _ => Or.inl rfl, fun d hd => ?_, fun _ _ _ => rfl⟩, fun _ => ⟨fun d hd => ?_, fun d hd hn => ?_⟩, ⟨?_, fun e => absurd e (by decide)⟩⟩
  · refine ⟨fun d hd => ?_, fun d hd => ?_, fun d hd => ?_, fun d hd => ?_, fun d hd => ?_, ?_, ?_, ?_, ?_, ?_, ?_, by omega, h13, h14, fun d hd => ?_, fun d hd => ?_⟩
    · rw [lo _ (by omega), x3]; exact h1 d hd
    · rw [lo _ (by omega), x5]; exact h2 d hd
    · rw [o _ (by omega) (by omega) (by omega), (fzL_p hd).1, y7]
    · rw [o _ (by omega) (by omega) (by omega), fzL_o (by omega) (by omega), fpG_d hd, y9, h3 d hd, h4 d hd]
    · rw [o _ (by omega) (by omega) (by omega), fzL_o (by omega) (by omega), y13]
      by_cases e : d = f
      · rw [e, fpG_f, zu_s]
      · rw [fpG_o (by omega) (by omega) (by omega) (by omega), zu_n _ _ e]; exact h5 d (by omega)
    · rw [lo _ (by omega), x15]; exact h6
    · rw [lo _ (by omega), x15]; exact h7
    · rw [lo _ (by omega)]; exact h8
    · rw [o _ (by omega) (by omega) (by omega), fzL_o (by omega) (by omega), fpG_7]
    · rw [zu_n _ _ (by decide), zu_s, hF.2.2.1]
    · rw [zu_s, hF.2.2.2]
    · rw [y7]; show ¬ (-1 : Int32) < -1; decide
    · rw [y9]
      dsimp only
      by_cases q : A 7 d = nI t
      · rw [iz_t q]
        intro z
        rw [lt_iI, nI_toInt (by omega), t_m1] at z
        omega
      · rw [iz_f q]; exact h16 d hd
  · rcases pl with e | e
    · rw [e]; exact Or.inr (by decide)
    · rw [e]; exact Or.inl (by decide)
  · rw [o _ (by omega) (by omega) (by omega), (fzL_p hd).2, fpG_p hd]
    exact lrF_e (h3 d hd)
  · rw [zu_n _ _ (by decide), zu_n _ _ (by decide), zu_s] at e
    exact absurd e (by decide)
  · by_cases q : A 7 d = nI t
    · exact Or.inr ⟨f, by omega, iz_t q⟩
    · rcases d2 d hd with e | ⟨j, hj, e⟩
      · exact Or.inl ((iz_f q).trans e)
      · exact Or.inr ⟨j, by omega, (iz_f q).trans e⟩
  · exact lr_rg (u := w - (f + 1)) (by omega) (by omega) rfl ((d1 d hd).imp id fun ⟨j, hj, e⟩ => ⟨j, by omega, e⟩)
  · by_cases q : A 7 d = nI t
    · exact iz_t q
    · have z : ¬ A 9 d = -1 := fun e => hn ((hD d hd).mpr ⟨e, q⟩)
      exact lr_m (by omega) (d3 d hd z)
  · have q := ct_sub (n := 36) (P := fun c => A 9 c = -1) (R := fun c => A 7 c = nI t) (Z := fun c => iz (A 7 c = nI t) (nI f) (A 9 c) = -1) hD hP
    rw [k2 t ht, f1, show w - f = (w - (f + 1)) + 1 by omega, Nat.succ_mul] at q
    exact Nat.add_right_cancel q
/-- the last part goes with the one before -/
theorem RB_l {g : Nat → Int32} {A A2 : AR} {F F2 : Nat → Int32} {w f t : Nat} (hst : F 10 = nI 1) (ht : t < w - f) (hl : w - (f + 1) = 1) (hF : F2 7 = F 7 ∧ F2 8 = nI (f + 1 + 1) ∧ F2 9 = F 9 ∧ F2 10 = nI 2) (hA : ∀ q, q = 3 ∨ q = 5 ∨ q = 15 → A2 q = A q) (y7 : A2 7 = fun _ => -1) (y9 : A2 9 = fun j => iz (lrF (A 7) (nI t) j = nI 0) (nI (f + 1)) (iz (A 7 j = nI t) (nI f) (A 9 j))) (y13 : A2 13 = zu (zu (A 13) f (nI 1 - F 9)) (f + 1) (F 9)) (h : RB g A F w f) : RB (zu (fpG (fpG g (nI t) (nI 1 - F 9) f) (nI 0) (F 9) (f + 1)) 75 (nI 2)) A2 F2 w (f + 1 + 1) := by
  obtain ⟨⟨a1, a2, a3, a4, a5⟩, ⟨b1, b2⟩, ⟨c1, c2⟩, ⟨d1, d2, d3⟩, e1, ⟨f1, f2⟩⟩ := h
  obtain ⟨h1, h2, h3, h4, h5, h6, h7, h8, h9, h10, h11, h12, h13, h14, h15, h16⟩ := a3
  obtain ⟨k1, k2⟩ := cut_ok h13 (f2 hst)
  have x3 := hA 3 (by decide)
  have x5 := hA 5 (by decide)
  have x15 := hA 15 (by decide)
  have o : ∀ k, k ≠ 75 → zu (fpG (fpG g (nI t) (nI 1 - F 9) f) (nI 0) (F 9) (f + 1)) 75 (nI 2) k = fpG (fpG g (nI t) (nI 1 - F 9) f) (nI 0) (F 9) (f + 1) k := fun k q1 => zu_n _ _ q1
  have lo : ∀ k, k < 75 → zu (fpG (fpG g (nI t) (nI 1 - F 9) f) (nI 0) (F 9) (f + 1)) 75 (nI 2) k = g k := fun k hk => by rw [o k (by omega), fpG_o (by omega) (by omega) (by omega) (by omega), fpG_o (by omega) (by omega) (by omega) (by omega)]
  have hlr : ∀ c, c < 36 → lrF (A 7) (nI t) c = -1 ∨ lrF (A 7) (nI t) c = nI 0 := by
    intro c hc
    rcases lr_rg (g := A 7) (t := t) (c := c) (u := 1) (by decide) (by omega) rfl ((d1 c hc).imp id fun ⟨j, hj, e⟩ => ⟨j, by omega, e⟩) with e | ⟨q, hq, e⟩
    · exact Or.inl e
    · exact Or.inr (by rw [e, show q = 0 by omega])
  have hop : ∀ c, c < 36 → A 9 c = -1 → ¬ A 7 c = nI t → lrF (A 7) (nI t) c = nI 0 := by
    intro c hc q1 q2
    refine (hlr c hc).resolve_left fun e => ?_
    have q3 := k1 c hc q1
    obtain ⟨j, hj, ej⟩ := (d1 c hc).resolve_left q3
    unfold lrF at e
    rw [iz_f q2] at e
    by_cases q4 : A 7 c ≤ nI t
    · rw [iz_t q4] at e; exact q3 e
    · rw [iz_f q4, ← sub1, ej] at e
      rw [ej, le_iI, nI_toInt (by omega), nI_toInt (by omega)] at q4
      rw [nI_sub (by omega)] at e
      exact nI_nm (by omega) e
  unfold RB STG
  rw [x3, x5, y7, y9, hF.1, hF.2.1, hF.2.2.1, hF.2.2.2]
  refine ⟨⟨a1, rfl, ?_, ⟨a4.1, by omega⟩, Or.inr (Or.inr rfl), a5.2⟩, ⟨⟨fun _ => by omega, fun _ => rfl⟩, fun e => absurd rfl e⟩, ⟨c1, c2⟩, ⟨fun _ _ => Or.inl rfl, fun d hd => ?_, fun _ _ _ => rfl⟩, fun e => absurd rfl e, ⟨?_, fun e => absurd e (by decide)⟩⟩
  · refine ⟨fun d hd => ?_, fun d hd => ?_, fun d hd => ?_, fun d hd => ?_, fun d hd => ?_, ?_, ?_, ?_, ?_, ?_, ?_, by omega, h13, h14, fun d hd => ?_, fun d hd => ?_⟩
    · rw [lo _ (by omega), x3]; exact h1 d hd
    · rw [lo _ (by omega), x5]; exact h2 d hd
    · rw [o _ (by omega), fpG_p hd, y7]
      refine (lrF_e (g2 := lrF (A 7) (nI t)) (c := d) ((fpG_p hd).trans (lrF_e (h3 d hd)))).trans ?_
      rcases hlr d hd with e | e
      · exact lr_m (by decide) e
      · exact iz_t e
    · rw [o _ (by omega), fpG_d hd, fpG_d hd, y9, fpG_p hd, lrF_e (g2 := A 7) (h3 d hd), h3 d hd, h4 d hd]
    · rw [o _ (by omega), y13]
      by_cases e : d = f + 1
      · rw [e, fpG_f, zu_s]
      · rw [fpG_o (by omega) (by omega) (by omega) (by omega), zu_n _ _ e]
        by_cases e2 : d = f
        · rw [e2, fpG_f, zu_s]
        · rw [fpG_o (by omega) (by omega) (by omega) (by omega), zu_n _ _ e2]; exact h5 d (by omega)
    · rw [lo _ (by omega), x15]; exact h6
    · rw [lo _ (by omega), x15]; exact h7
    · rw [lo _ (by omega)]; exact h8
    · rw [o _ (by omega), fpG_7]
    · rw [o _ (by omega), fpG_o (by omega) (by omega) (by omega) (by omega), fpG_o (by omega) (by omega) (by omega) (by omega), hF.2.2.1]; exact h10
    · rw [zu_s, hF.2.2.2]
    · rw [y7]; show ¬ (-1 : Int32) < -1; decide
    · rw [y9]
      dsimp only
      by_cases q0 : lrF (A 7) (nI t) d = nI 0
      · rw [iz_t q0]
        intro z
        rw [lt_iI, nI_toInt (by omega), t_m1] at z
        omega
      · rw [iz_f q0]
        by_cases q : A 7 d = nI t
        · rw [iz_t q]
          intro z
          rw [lt_iI, nI_toInt (by omega), t_m1] at z
          omega
        · rw [iz_f q]; exact h16 d hd
  · by_cases q0 : lrF (A 7) (nI t) d = nI 0
    · exact Or.inr ⟨f + 1, by omega, iz_t q0⟩
    · by_cases q : A 7 d = nI t
      · exact Or.inr ⟨f, by omega, (iz_f q0).trans (iz_t q)⟩
      · rcases d2 d hd with e | ⟨j, hj, e⟩
        · exact Or.inl ((iz_f q0).trans ((iz_f q).trans e))
        · exact Or.inr ⟨j, by omega, (iz_f q0).trans ((iz_f q).trans e)⟩
  · rw [show w - (f + 1 + 1) = 0 by omega, Nat.zero_mul]
    refine ct_none fun c hc e => ?_
    dsimp only at e
    by_cases q0 : lrF (A 7) (nI t) c = nI 0
    · rw [iz_t q0] at e; exact nI_nm (by omega) e
    · rw [iz_f q0] at e
      by_cases q : A 7 c = nI t
      · rw [iz_t q] at e; exact nI_nm (by omega) e
      · rw [iz_f q] at e
        exact q0 (hop c hc e q)
theorem k_freeze {ar fd : AR} {w f o z n : Nat} (h : RR ar fd w f o z n) (v : Int32) {c : Int32 × AR × AR} (hc : c = sp_freeze ar fd w f o z n v) {ar3 fd3 : AR} {r : Int32} (hp : (¬ fd 1 10 = nI 1 ∧ r = -4 ∧ ar3 = c.2.1 ∧ fd3 = c.2.2) ∨ (fd 1 10 = nI 1 ∧ ¬ (¬ v < nI 0 ∧ ¬ nI (w - f) - nI 1 < v) ∧ r = -1 ∧ ar3 = c.2.1 ∧ fd3 = c.2.2) ∨ (fd 1 10 = nI 1 ∧ (¬ v < nI 0 ∧ ¬ nI (w - f) - nI 1 < v) ∧ w - (f + 1) = 1 ∧ r = nI (f + 1 + 1) ∧ ar3 = zu (rcA c.2.1 z) 103 (zu (fpG (fpG (c.2.1 103) v (nI 1 - fd 1 9) f) (nI 0) (fd 1 9) (f + 1)) 75 (nI 2)) ∧ fd3 = rcF c.2.2 z) ∨ (fd 1 10 = nI 1 ∧ (¬ v < nI 0 ∧ ¬ nI (w - f) - nI 1 < v) ∧ ¬ w - (f + 1) = 1 ∧ r = nI (f + 1) ∧ ar3 = zu (rcA c.2.1 z) 103 (zu (zu (zu (fzL (fpG (c.2.1 103) v (nI 1 - fd 1 9) f) 36) 78 (nI 1)) 76 (nI 1 - fd 1 9)) 75 (nI 0)) ∧ fd3 = rcF c.2.2 z)) : r = c.1 ∧ ∃ w2 f2 o2 z2 n2, RR ar3 fd3 w2 f2 o2 z2 n2 := by
  have h0 := h
  obtain ⟨hci, hr, hh, ⟨hs1, hs2⟩, ⟨t1, t2, t3⟩⟩ := h0
  obtain ⟨g1, g2, g3, g4, g5, -⟩ := id hci
  obtain ⟨-, ⟨b1, -⟩, -⟩ := id hr
  unfold sp_freeze at hc
  by_cases q1 : fd 1 10 = nI 1
  · rw [iz_t q1] at hc
    have hpt := part_of (v := v) g1 g2 g4 g3
    by_cases q2 : ¬ v < nI 0 ∧ ¬ nI (w - f) - nI 1 < v
    · rw [iz_t (hpt.mpr q2)] at hc
      obtain ⟨ht, ev⟩ := dist_of q2 (by omega)
      generalize v.toNatClampNeg = t at ht ev
      subst ev
      have r1 : (sp_record ar fd o z).2 1 = fd 1 := rec_fd (by decide)
      have ra : ∀ k, k < 18 → (sp_record ar fd o z).1 k = ar k := fun k hk => rec_ar (by omega)
      by_cases q3 : w - (f + 1) = 1
      · rcases hp with ⟨p1, -⟩ | ⟨-, p1, -⟩ | ⟨-, -, -, p2, p3, p4⟩ | ⟨-, -, p1, -⟩
        · exact absurd q1 p1
        · exact absurd q2 p1
        · have e0 : sp_takePart (sp_record ar fd o z).1 (sp_record ar fd o z).2 w f (nI t) = _ := iz_t q3
          have fF : (sp_takePart (sp_record ar fd o z).1 (sp_record ar fd o z).2 w f (nI t)).2 1 = zu (zu (zu (fd 1) 8 (nI (f + 1))) 8 (nI (f + 1 + 1))) 10 (nI 2) := by
            rw [e0]
            simp only [zu_s]
            rw [r1]
          have fG : ∀ j, j ≠ 1 → (sp_takePart (sp_record ar fd o z).1 (sp_record ar fd o z).2 w f (nI t)).2 j = (sp_record ar fd o z).2 j := fun j hj => by
            rw [e0]
            dsimp only
            rw [zu_n _ _ hj, zu_n _ _ hj, zu_n _ _ hj]
          have o4 : ∀ j, j ≠ 7 → j ≠ 9 → j ≠ 11 → j ≠ 13 → (sp_takePart (sp_record ar fd o z).1 (sp_record ar fd o z).2 w f (nI t)).1 j = (sp_record ar fd o z).1 j := fun j h1 h2 h3 h4 => by
            rw [e0]
            dsimp only
            unfold mdA
            rw [zu_n _ _ h4, zu_n _ _ h2, zu_n _ _ h1, zu_n _ _ h3, zu_n _ _ h4, zu_n _ _ h2]
          have v7 : (sp_takePart (sp_record ar fd o z).1 (sp_record ar fd o z).2 w f (nI t)).1 7 = fun _ => -1 := by
            rw [e0]
            dsimp only
            unfold mdA
            rw [zu_n _ _ (by decide), zu_n _ _ (by decide), zu_s]
          have v9 : (sp_takePart (sp_record ar fd o z).1 (sp_record ar fd o z).2 w f (nI t)).1 9 = fun j => iz (lrF (ar 7) (nI t) j = nI 0) (nI (f + 1)) (iz (ar 7 j = nI t) (nI f) (ar 9 j)) := by
            rw [e0]
            dsimp only
            unfold mdA
            simp only [zu, show (7 : Nat) = 6 + 1 from rfl]
            simp
            rw [ra 7 (by decide), ra 9 (by decide)]
          have v13 : (sp_takePart (sp_record ar fd o z).1 (sp_record ar fd o z).2 w f (nI t)).1 13 = zu (zu (ar 13) f (nI 1 - fd 1 9)) (f + 1) (fd 1 9) := by
            rw [e0]
            dsimp only
            unfold mdA
            rw [zu_s, zu_n _ _ (show (13 : Nat) ≠ 7 by decide), zu_n _ _ (show (13 : Nat) ≠ 11 by decide), zu_s, zu_s, r1, zu_n _ _ (show (9 : Nat) ≠ 8 by decide), ra 13 (by decide)]
          subst hc
          dsimp only at p3 p4 ⊢
          generalize sp_takePart (sp_record ar fd o z).1 (sp_record ar fd o z).2 w f (nI t) = Y at fF fG o4 v7 v9 v13 p3 p4 ⊢
          obtain ⟨A1, F1⟩ := Y
          dsimp only at fF fG o4 v7 v9 v13 p3 p4 ⊢
          have k3 : A1 103 = ar 103 := (o4 103 (by decide) (by decide) (by decide) (by decide)).trans (rec_ar (by decide))
          rw [k3] at p3
          have z1 : ∀ q, q ≠ 103 → q ≠ 104 → ar3 q = A1 q := fun q h1 h2 => by rw [p3, zu_n _ _ h1, rcA_n h2]
          refine ⟨?_, w, f + 1 + 1, oz o z, pz z, n, RR_rec (ar1 := A1) (fd1 := F1) h (fun j h1 h2 => o4 j (by omega) (by omega) (by omega) (by omega)) (fun j h1 h2 => fG j h1) ⟨by rw [fG 102 (by decide), rec_fd (by decide)], by rw [fG 102 (by decide), rec_fd (by decide)]⟩ (fun j h1 h2 => by rw [p3, zu_n _ _ h2]) p4 ?_⟩
          · rw [p2, fF, zu_n _ _ (by decide), zu_s]
          · have f1 : fd3 1 = zu (zu (zu (fd 1) 8 (nI (f + 1))) 8 (nI (f + 1 + 1))) 10 (nI 2) := by rw [p4]; unfold rcF; rw [zu_n _ _ (by decide)]; exact fF
            rw [f1, show ar3 103 = _ from (congrFun p3 103).trans (zu_s _ _ _)]
            refine RB_l (A := ar) (F := fd 1) q1 ht q3 ⟨?_, ?_, ?_, zu_s _ _ _⟩ (fun q hq => ?_) ?_ ?_ ?_ hr
            · rw [zu_n _ _ (by decide), zu_n _ _ (by decide), zu_n _ _ (by decide)]
            · rw [zu_n _ _ (by decide), zu_s]
            · rw [zu_n _ _ (by decide), zu_n _ _ (by decide), zu_n _ _ (by decide)]
            · rw [z1 q (by omega) (by omega), o4 q (by omega) (by omega) (by omega) (by omega)]; exact rec_ar (by omega)
            · rw [z1 7 (by decide) (by decide)]; exact v7
            · rw [z1 9 (by decide) (by decide)]; exact v9
            · rw [z1 13 (by decide) (by decide)]; exact v13
        · exact absurd q3 p1
      · rcases hp with ⟨p1, -⟩ | ⟨-, p1, -⟩ | ⟨-, -, p1, -⟩ | ⟨-, -, -, p2, p3, p4⟩
        · exact absurd q1 p1
        · exact absurd q2 p1
        · exact absurd p1 q3
        · have e0 : sp_takePart (sp_record ar fd o z).1 (sp_record ar fd o z).2 w f (nI t) = _ := iz_f q3
          have fF : (sp_takePart (sp_record ar fd o z).1 (sp_record ar fd o z).2 w f (nI t)).2 1 = zu (zu (zu (fd 1) 8 (nI (f + 1))) 9 (nI 1 - fd 1 9)) 10 (nI 0) := by
            rw [e0]
            simp only [zu_s]
            rw [r1, zu_n _ _ (show (9 : Nat) ≠ 8 by decide)]
          have fG : ∀ j, j ≠ 1 → (sp_takePart (sp_record ar fd o z).1 (sp_record ar fd o z).2 w f (nI t)).2 j = (sp_record ar fd o z).2 j := fun j hj => by
            rw [e0]
            dsimp only
            rw [zu_n _ _ hj, zu_n _ _ hj, zu_n _ _ hj]
          have o4 : ∀ j, j ≠ 7 → j ≠ 9 → j ≠ 11 → j ≠ 13 → (sp_takePart (sp_record ar fd o z).1 (sp_record ar fd o z).2 w f (nI t)).1 j = (sp_record ar fd o z).1 j := fun j h1 h2 h3 h4 => by
            rw [e0]
            dsimp only
            unfold mdA
            rw [zu_n _ _ h1, zu_n _ _ h3, zu_n _ _ h4, zu_n _ _ h2]
          have v7 : (sp_takePart (sp_record ar fd o z).1 (sp_record ar fd o z).2 w f (nI t)).1 7 = fun _ => -1 := by
            rw [e0]
            dsimp only
            rw [zu_s]
          have v9 : (sp_takePart (sp_record ar fd o z).1 (sp_record ar fd o z).2 w f (nI t)).1 9 = fun j => iz (ar 7 j = nI t) (nI f) (ar 9 j) := by
            rw [e0]
            dsimp only
            unfold mdA
            rw [zu_n _ _ (by decide), zu_n _ _ (by decide), zu_n _ _ (by decide), zu_s, ra 9 (by decide), show (sp_record ar fd o z).1 (6 + 1) = ar 7 from ra 7 (by decide)]
          have v11 : (sp_takePart (sp_record ar fd o z).1 (sp_record ar fd o z).2 w f (nI t)).1 11 = lrF (ar 7) (nI t) := by
            rw [e0]
            dsimp only
            unfold mdA
            rw [zu_n _ _ (by decide), zu_s, zu_n _ _ (by decide), zu_n _ _ (by decide), ra 7 (by decide)]
          have v13 : (sp_takePart (sp_record ar fd o z).1 (sp_record ar fd o z).2 w f (nI t)).1 13 = zu (ar 13) f (nI 1 - fd 1 9) := by
            rw [e0]
            dsimp only
            unfold mdA
            rw [zu_n _ _ (by decide), zu_n _ _ (by decide), zu_s, r1, ra 13 (by decide)]
          subst hc
          dsimp only at p3 p4 ⊢
          generalize sp_takePart (sp_record ar fd o z).1 (sp_record ar fd o z).2 w f (nI t) = Y at fF fG o4 v7 v9 v11 v13 p3 p4 ⊢
          obtain ⟨A1, F1⟩ := Y
          dsimp only at fF fG o4 v7 v9 v11 v13 p3 p4 ⊢
          have k3 : A1 103 = ar 103 := (o4 103 (by decide) (by decide) (by decide) (by decide)).trans (rec_ar (by decide))
          rw [k3] at p3
          have z1 : ∀ q, q ≠ 103 → q ≠ 104 → ar3 q = A1 q := fun q h1 h2 => by rw [p3, zu_n _ _ h1, rcA_n h2]
          refine ⟨?_, w, f + 1, oz o z, pz z, n, RR_rec (ar1 := A1) (fd1 := F1) h (fun j h1 h2 => o4 j (by omega) (by omega) (by omega) (by omega)) (fun j h1 h2 => fG j h1) ⟨by rw [fG 102 (by decide), rec_fd (by decide)], by rw [fG 102 (by decide), rec_fd (by decide)]⟩ (fun j h1 h2 => by rw [p3, zu_n _ _ h2]) p4 ?_⟩
          · rw [p2, fF, zu_n _ _ (by decide), zu_n _ _ (by decide), zu_s]
          · have f1 : fd3 1 = zu (zu (zu (fd 1) 8 (nI (f + 1))) 9 (nI 1 - fd 1 9)) 10 (nI 0) := by rw [p4]; unfold rcF; rw [zu_n _ _ (by decide)]; exact fF
            rw [f1, show ar3 103 = _ from (congrFun p3 103).trans (zu_s _ _ _)]
            refine RB_f (A := ar) (F := fd 1) q1 ht q3 ⟨?_, ?_, ?_, zu_s _ _ _⟩ (fun q hq => ?_) ?_ ?_ ?_ ?_ hr
            · rw [zu_n _ _ (by decide), zu_n _ _ (by decide), zu_n _ _ (by decide)]
            · rw [zu_n _ _ (by decide), zu_n _ _ (by decide), zu_s]
            · rw [zu_n _ _ (by decide), zu_s]
            · rw [z1 q (by omega) (by omega), o4 q (by omega) (by omega) (by omega) (by omega)]; exact rec_ar (by omega)
            · rw [z1 7 (by decide) (by decide)]; exact v7
            · rw [z1 9 (by decide) (by decide)]; exact v9
            · rw [z1 11 (by decide) (by decide)]; exact v11
            · rw [z1 13 (by decide) (by decide)]; exact v13
    · rw [iz_f (fun e => q2 (hpt.mp e))] at hc
      subst hc
      rcases hp with ⟨p1, -⟩ | ⟨-, -, p2, p3, p4⟩ | ⟨-, p1, -⟩ | ⟨-, p1, -⟩
      · exact absurd q1 p1
      · exact ⟨p2, w, f, o, z, n, by rw [p3, p4]; exact h⟩
      · exact absurd p1 q2
      · exact absurd p1 q2
  · rw [iz_f q1] at hc
    subst hc
    rcases hp with ⟨-, p2, p3, p4⟩ | ⟨p1, -⟩ | ⟨p1, -⟩ | ⟨p1, -⟩
    · exact ⟨p2, w, f, o, z, n, by rw [p3, p4]; exact h⟩
    · exact absurd p1 q1
    · exact absurd p1 q1
    · exact absurd p1 q1
