
/-! what holds between the class's part of the world and the model's at the law's loop -/
/-- a state block at b, told as if it were now's -/
def bA (ar : AR) (b : Nat) : AR := fun q => ar (b - 1 + q)
theorem bA_1 (ar : AR) : bA ar 1 = ar := funext fun q => by show ar (1 - 1 + q) = ar q; rw [show 1 - 1 + q = q by omega]
def dig (v : Int32) : Prop := ¬ v < nI 0 ∧ ¬ nI 9 < v
/-- a row of the model holds the block (A, F), and what always holds of a block -/
def RB (g : Nat → Int32) (A : AR) (F : Nat → Int32) (w f : Nat) : Prop :=
  (F 7 = nI w ∧ F 8 = nI f ∧ ME g A F w f ∧ (36 % w = 0 ∧ ¬ w - f = 1) ∧ STG F) ∧
  ((F 10 = nI 2 ↔ f = w) ∧ (¬ F 10 = nI 2 → (∀ c, c < 36 → g (151 + c) = A 11 c) ∧ (g 78 = 0 ↔ f = 0))) ∧
  ((∀ c, c < 36 → dig (A 3 c)) ∧ (∀ c, c < 36 → dig (A 5 c))) ∧
  ((∀ c, c < 36 → A 7 c = -1 ∨ ∃ q, q < w - f ∧ A 7 c = nI q) ∧ (∀ c, c < 36 → A 9 c = -1 ∨ ∃ d, d < f ∧ A 9 c = nI d) ∧ (∀ c, c < 36 → ¬ A 9 c = -1 → A 7 c = -1)) ∧
  (¬ F 10 = nI 2 → (∀ c, c < 36 → A 11 c = -1 ∨ ∃ q, q < w - f ∧ A 11 c = nI q) ∧ (∀ c, c < 36 → ¬ A 9 c = -1 → A 11 c = -1)) ∧
  (ct (fun c => A 9 c = -1) 36 = (w - f) * (36 / w) ∧ (F 10 = nI 1 → rsnA A w f = nI 0))
theorem ME_c {g g2 : Nat → Int32} {A A2 : AR} {F F2 : Nat → Int32} {w f : Nat} (hg : ∀ k, k < 196 → g2 k = g k) (hA : ∀ q, q = 3 ∨ q = 5 ∨ q = 7 ∨ q = 9 ∨ q = 13 ∨ q = 15 → A2 q = A q) (hF : F2 9 = F 9 ∧ F2 10 = F 10) (h : ME g A F w f) : ME g2 A2 F2 w f := by
  obtain ⟨h1, h2, h3, h4, h5, h6, h7, h8, h9, h10, h11, h12, h13, h14, h15, h16⟩ := h
  refine ⟨fun c hc => ?_, fun c hc => ?_, fun c hc => ?_, fun c hc => ?_, fun d hd => ?_, ?_, ?_, ?_, ?_, ?_, ?_, h12, h13, h14, fun c hc => ?_, fun c hc => ?_⟩
  · rw [hg _ (by omega), hA 3 (by decide)]; exact h1 c hc
  · rw [hg _ (by omega), hA 5 (by decide)]; exact h2 c hc
  · rw [hg _ (by omega), hA 7 (by decide)]; exact h3 c hc
  · rw [hg _ (by omega), hA 9 (by decide)]; exact h4 c hc
  · rw [hg _ (by omega), hA 13 (by decide)]; exact h5 d hd
  · rw [hg _ (by omega), hA 15 (by decide)]; exact h6
  · rw [hg _ (by omega), hA 15 (by decide)]; exact h7
  · rw [hg _ (by omega)]; exact h8
  · rw [hg _ (by omega)]; exact h9
  · rw [hg _ (by omega), hF.1]; exact h10
  · rw [hg _ (by omega), hF.2]; exact h11
  · rw [hA 7 (by decide)]; exact h15 c hc
  · rw [hA 9 (by decide)]; exact h16 c hc
theorem rsnA_c {A A2 : AR} {w f : Nat} (h7 : A2 7 = A 7) (h9 : A2 9 = A 9) : rsnA A2 w f = rsnA A w f := by
  unfold rsnA wpI osI ncI
  rw [h7, h9]
theorem RB_c {g g2 : Nat → Int32} {A A2 : AR} {F F2 : Nat → Int32} {w f : Nat} (hg : ∀ k, k < 196 → g2 k = g k) (hA : ∀ q, q = 3 ∨ q = 5 ∨ q = 7 ∨ q = 9 ∨ q = 11 ∨ q = 13 ∨ q = 15 → A2 q = A q) (hF : F2 7 = F 7 ∧ F2 8 = F 8 ∧ F2 9 = F 9 ∧ F2 10 = F 10) (h : RB g A F w f) : RB g2 A2 F2 w f := by
  obtain ⟨⟨a1, a2, a3, a4, a5⟩, ⟨b1, b2⟩, ⟨c1, c2⟩, ⟨d1, d2, d3⟩, e1, ⟨f1, f2⟩⟩ := h
  have e3 := hA 3 (by decide)
  have e5 := hA 5 (by decide)
  have e7 := hA 7 (by decide)
  have e9 := hA 9 (by decide)
  have e11 := hA 11 (by decide)
  unfold RB STG
  rw [e3, e5, e7, e9, e11, hF.1, hF.2.1, hF.2.2.1, hF.2.2.2, rsnA_c e7 e9, hg 78 (by decide)]
  exact ⟨⟨a1, a2, ME_c hg (fun q hq => hA q (by omega)) ⟨hF.2.2.1, hF.2.2.2⟩ a3, a4, a5⟩, ⟨b1, fun z => ⟨fun c hc => (hg _ (by omega)).trans ((b2 z).1 c hc), (b2 z).2⟩⟩, ⟨c1, c2⟩, ⟨d1, d2, d3⟩, e1, ⟨f1, f2⟩⟩
/-- where the i-th of the history lies -/
def hb (o i : Nat) : Nat := 18 + 15 * ((o + i) % 4)
/-- all of it -/
def RR (ar fd : AR) (w f o z n : Nat) : Prop :=
  CInv ar fd w f o z n ∧ RB (ar 103) ar (fd 1) w f ∧
  (∀ i, i < z → ∃ w1 f1, RB (fun k => ar 104 (196 * i + k)) (bA ar (hb o i)) (fd (hb o i)) w1 f1) ∧
  (fd 0 3 = fd 102 4 ∧ (¬ fd 0 3 = 0 → ∃ w1 f1, RB (ar 105) (bA ar 78) (fd 78) w1 f1)) ∧
  (fd 102 3 = nI z ∧ fd 102 6 = nI n ∧ ∀ i, i < 60 → ar 106 i = ar 94 i)
theorem cpA_in {d q : Nat} (hd : 1 ≤ d) {ar : AR} (hq : q = 3 ∨ q = 5 ∨ q = 7 ∨ q = 9 ∨ q = 11 ∨ q = 13 ∨ q = 15) : bA (cpA d 1 ar) d q = ar q := by
  show cpA d 1 ar (d - 1 + q) = ar q
  rcases hq with rfl | rfl | rfl | rfl | rfl | rfl | rfl
  · rw [show d - 1 + 3 = d + 2 by omega]; simp [cpA, zu]
  · rw [show d - 1 + 5 = d + 4 by omega]; simp [cpA, zu]
  · rw [show d - 1 + 7 = d + 6 by omega]; simp [cpA, zu]
  · rw [show d - 1 + 9 = d + 8 by omega]; simp [cpA, zu]
  · rw [show d - 1 + 11 = d + 10 by omega]; simp [cpA, zu]
  · rw [show d - 1 + 13 = d + 12 by omega]; simp [cpA, zu]
  · rw [show d - 1 + 15 = d + 14 by omega]; simp [cpA, zu]
theorem cpA_out {d b q s2 : Nat} {ar : AR} (h : b + 15 ≤ d ∨ d + 15 ≤ b) (hb : 1 ≤ b) (hq : q = 3 ∨ q = 5 ∨ q = 7 ∨ q = 9 ∨ q = 11 ∨ q = 13 ∨ q = 15) : bA (cpA d s2 ar) b q = bA ar b q :=
  cpA_n (by omega)
/-- the history of the class and the model's past -/
def HS (P : Nat → Int32) (ar fd : AR) (o z : Nat) : Prop := ∀ i, i < z → ∃ w1 f1, RB (fun k => P (196 * i + k)) (bA ar (hb o i)) (fd (hb o i)) w1 f1
theorem HS_c {P : Nat → Int32} {ar ar2 fd fd2 : AR} {o z : Nat} (hA : ∀ k, 18 ≤ k → k < 78 → ar2 k = ar k) (hF : ∀ k, 18 ≤ k → k < 78 → fd2 k = fd k) (h : HS P ar fd o z) : HS P ar2 fd2 o z := by
  intro i hi
  obtain ⟨w1, f1, q⟩ := h i hi
  have hb1 : 18 ≤ hb o i ∧ hb o i ≤ 63 := by unfold hb; omega
  refine ⟨w1, f1, RB_c (fun _ _ => rfl) (fun q hq => hA _ (by omega) (by omega)) ?_ q⟩
  rw [hF _ hb1.1 (by omega)]
  exact ⟨rfl, rfl, rfl, rfl⟩
noncomputable def oz (o z : Nat) : Nat := iz (z = 4) ((o + 1) % 4) o
theorem HS_rec {P g : Nat → Int32} {ar fd : AR} {w f o z : Nat} (h1 : RB g ar (fd 1) w f) (h : HS P ar fd o z) (ho : o < 4) (hz : z ≤ 4) : HS (pstF g P z) (sp_record ar fd o z).1 (sp_record ar fd o z).2 (oz o z) (pz z) := by
  intro i hi
  have hb1 : 18 ≤ hb (oz o z) i ∧ hb (oz o z) i ≤ 63 := by unfold hb; omega
  have e1 : (sp_record ar fd o z).1 = cpA (hb o z) 1 ar := by
    unfold sp_record
    by_cases q : 4 ≤ z
    · rw [iz_t q]; rfl
    · rw [iz_f q]; rfl
  have e2 : (sp_record ar fd o z).2 (hb (oz o z) i) = zu fd (hb o z) (fd 1) (hb (oz o z) i) := by
    unfold sp_record
    by_cases q : 4 ≤ z
    · rw [iz_t q]; exact zu_n _ _ (by omega)
    · rw [iz_f q]; exact zu_n _ _ (by omega)
  rw [e1, e2]
  by_cases q : z = 4
  · have eo : oz o z = (o + 1) % 4 := iz_t q
    have ez : pz z = 4 := iz_t q
    have ep : pstF g P z = bl (bl P 0 588 (fun k => P (196 + k))) (196 * 3) 196 g := iz_t q
    rw [ez] at hi
    rw [eo, ep]
    by_cases i3 : i = 3
    · have eb : hb ((o + 1) % 4) i = hb o z := by unfold hb; omega
      have hb2 : 18 ≤ hb o z := by unfold hb; omega
      rw [eb, zu_s]
      refine ⟨w, f, RB_c (fun k hk => ?_) (fun q hq => cpA_in (by omega) hq) ⟨rfl, rfl, rfl, rfl⟩ h1⟩
      rw [i3]; exact bl_in hk
    · obtain ⟨w1, f1, r⟩ := h (i + 1) (by omega)
      have eb : hb ((o + 1) % 4) i = hb o (i + 1) := by unfold hb; omega
      have hne : hb o (i + 1) + 15 ≤ hb o z ∨ hb o z + 15 ≤ hb o (i + 1) := by unfold hb; omega
      have hb2 : 18 ≤ hb o (i + 1) := by unfold hb; omega
      rw [eb, zu_n _ _ (by omega)]
      refine ⟨w1, f1, RB_c (fun k hk => ?_) (fun q hq => cpA_out hne (by omega) hq) ⟨rfl, rfl, rfl, rfl⟩ r⟩
      rw [bl_o (by omega), show 196 * i + k = 0 + (196 * i + k) by omega, bl_in (by omega), show 196 + (196 * i + k) = 196 * (i + 1) + k by omega]
  · have eo : oz o z = o := iz_f q
    have ez : pz z = z + 1 := iz_f q
    have ep : pstF g P z = bl P (196 * z) 196 g := iz_f q
    rw [ez] at hi
    rw [eo, ep]
    by_cases i3 : i = z
    · have hb2 : 18 ≤ hb o z := by unfold hb; omega
      rw [i3, zu_s]
      refine ⟨w, f, RB_c (fun k hk => bl_in hk) (fun q hq => cpA_in (by omega) hq) ⟨rfl, rfl, rfl, rfl⟩ h1⟩
    · obtain ⟨w1, f1, r⟩ := h i (by omega)
      have hne : hb o i + 15 ≤ hb o z ∨ hb o z + 15 ≤ hb o i := by unfold hb; omega
      have hb2 : 18 ≤ hb o i := by unfold hb; omega
      rw [zu_n _ _ (by omega)]
      refine ⟨w1, f1, RB_c (fun k hk => ?_) (fun q hq => cpA_out hne (by omega) hq) ⟨rfl, rfl, rfl, rfl⟩ r⟩
      rw [bl_o (by omega)]
/-- a scratch place: the class's 97, 99, 101, the model's 107, 108, 109 -/
def SCR (k : Nat) : Prop := k = 97 ∨ k = 99 ∨ k = 101 ∨ k = 107 ∨ k = 108 ∨ k = 109
theorem hb_rg (o i : Nat) : 18 ≤ hb o i ∧ hb o i ≤ 63 := by unfold hb; omega
/-- nothing of weight has changed -/
theorem RR_same {ar fd ar3 fd3 : AR} {w f o z n : Nat} (h : RR ar fd w f o z n) (hA : ∀ k, ¬ SCR k → ar3 k = ar k) (hF : ∀ k, k ≠ 102 → fd3 k = fd k) (h2 : fd3 102 3 = fd 102 3 ∧ fd3 102 4 = fd 102 4 ∧ fd3 102 6 = fd 102 6) : RR ar3 fd3 w f o z n := by
  obtain ⟨hc, hr, hh, ⟨hs1, hs2⟩, ⟨t1, t2, t3⟩⟩ := h
  have lo : ∀ k, k < 97 → ar3 k = ar k := fun k hk => hA k (by unfold SCR; omega)
  refine ⟨?_, ?_, by rw [hA 104 (by unfold SCR; omega)]; exact HS_c (fun k _ h => lo k (by omega)) (fun k _ h => hF k (by omega)) hh, ⟨?_, fun hne => ?_⟩, ⟨?_, ?_, fun i hi => ?_⟩⟩
  · unfold CInv
    rw [hF 1 (by decide), hF 16 (by decide), hF 93 (by decide), lo 94 (by decide)]
    exact hc
  · rw [hA 103 (by unfold SCR; omega)]
    refine RB_c (fun _ _ => rfl) (fun q hq => lo q (by omega)) ?_ hr
    rw [hF 1 (by decide)]
    exact ⟨rfl, rfl, rfl, rfl⟩
  · rw [hF 0 (by decide), h2.2.1]; exact hs1
  · rw [hF 0 (by decide)] at hne
    obtain ⟨w1, f1, r⟩ := hs2 hne
    rw [hA 105 (by unfold SCR; omega)]
    refine ⟨w1, f1, RB_c (fun _ _ => rfl) (fun q hq => lo _ (by omega)) ?_ r⟩
    rw [hF 78 (by decide)]
    exact ⟨rfl, rfl, rfl, rfl⟩
  · rw [h2.1]; exact t1
  · rw [h2.2.2]; exact t2
  · rw [hA 106 (by unfold SCR; omega), lo 94 (by decide)]; exact t3 i hi
theorem f16a (fd : AR) (D j : Nat) (g : Nat → Int32) (v : Int32) : zu (zu fd D g) 16 (zu ((zu fd D g) 16) j v) 16 j = v := by rw [zu_s, zu_s]
theorem f16b (fd : AR) (g : Nat → Int32) (v : Int32) {D i j : Nat} (hD : 16 ≠ D) (hij : i ≠ j) : zu (zu fd D g) 16 (zu ((zu fd D g) 16) j v) 16 i = fd 16 i := by rw [zu_s, zu_n _ _ hij, zu_n _ _ hD]
/-- after recording: the state is new, what was is in the history -/
theorem RR_step {ar fd ar3 fd3 : AR} {w f o z n w2 f2 : Nat} (h : RR ar fd w f o z n) (hnew : RB (ar3 103) ar3 (fd3 1) w2 f2) (hA : ∀ k, 16 ≤ k → ¬ SCR k → k ≠ 103 → k ≠ 104 → ar3 k = (sp_record ar fd o z).1 k) (h104 : ar3 104 = pstF (ar 103) (ar 104) z) (hF : ∀ k, k ≠ 1 → k ≠ 102 → fd3 k = (sp_record ar fd o z).2 k) (h2 : fd3 102 3 = nI (pz z) ∧ fd3 102 4 = fd 102 4 ∧ fd3 102 6 = fd 102 6) : RR ar3 fd3 w2 f2 (oz o z) (pz z) n := by
  obtain ⟨hc, hr, hh, ⟨hs1, hs2⟩, ⟨t1, t2, t3⟩⟩ := h
  obtain ⟨c1, c2, c3, c4, c5, c6, c7, c8, c9, c10, c11, c12⟩ := hc
  have hi2 : ∀ k, 77 < k → k < 97 → ar3 k = ar k := fun k h1 h2 => (hA k (by omega) (by unfold SCR; omega) (by omega) (by omega)).trans (rec_ar (by omega))
  have hf2 : ∀ k, k ≠ 1 → k ≠ 102 → (k < 16 ∨ 77 < k) → fd3 k = fd k := fun k h1 h2 h3 => (hF k h1 h2).trans (rec_fd (by omega))
  have f16 : fd3 16 1 = nI (oz o z) ∧ fd3 16 2 = nI (pz z) := by
    rw [hF 16 (by decide) (by decide)]
    unfold sp_record
    have hb2 := hb_rg o z
    by_cases q : z = 4
    · rw [iz_t (show 4 ≤ z by omega), show oz o z = (o + 1) % 4 from iz_t q, show pz z = 4 from iz_t q]
      dsimp only
      exact ⟨f16a _ _ _ _ _, (f16b _ _ _ (by omega) (by decide)).trans (c7.trans (by rw [q]))⟩
    · rw [iz_f (show ¬ 4 ≤ z by omega), show oz o z = o from iz_f q, show pz z = z + 1 from iz_f q]
      dsimp only
      exact ⟨(f16b _ _ _ (by omega) (by decide)).trans c6, f16a _ _ _ _ _⟩
  have ozl : oz o z < 4 ∧ pz z ≤ 4 := by
    by_cases q : z = 4
    · rw [show oz o z = (o + 1) % 4 from iz_t q, show pz z = 4 from iz_t q]; omega
    · rw [show oz o z = o from iz_f q, show pz z = z + 1 from iz_f q]; omega
  have hn := hnew
  obtain ⟨⟨a1, a2, a3, -, -⟩, -⟩ := hn
  obtain ⟨-, -, -, -, -, -, -, -, -, -, -, m1, m2, m3, -, -⟩ := a3
  refine ⟨⟨a1, a2, m1, m2, m3, f16.1, f16.2, ozl.1, ozl.2, ?_, c11, ?_⟩, hnew, ?_, ⟨?_, fun hne => ?_⟩, ⟨h2.1, ?_, fun i hi => ?_⟩⟩
  · rw [hf2 93 (by decide) (by decide) (by omega)]; exact c10
  · rw [hi2 94 (by decide) (by decide)]; exact c12
  · rw [h104]
    exact HS_c (fun k h1 h2 => hA k (by omega) (by unfold SCR; omega) (by omega) (by omega)) (fun k h1 h2 => hF k (by omega) (by omega)) (HS_rec hr hh c8 c9)
  · rw [hf2 0 (by decide) (by decide) (by omega), h2.2.1]; exact hs1
  · rw [hf2 0 (by decide) (by decide) (by omega)] at hne
    obtain ⟨w1, f1, r⟩ := hs2 hne
    rw [show ar3 105 = ar 105 from (hA 105 (by decide) (by unfold SCR; omega) (by decide) (by decide)).trans (rec_ar (by omega))]
    refine ⟨w1, f1, RB_c (fun _ _ => rfl) (fun q hq => hi2 _ (by omega) (by omega)) ?_ r⟩
    rw [hf2 78 (by decide) (by decide) (by omega)]
    exact ⟨rfl, rfl, rfl, rfl⟩
  · rw [h2.2.2]; exact t2
  · rw [hi2 94 (by decide) (by decide), show ar3 106 = ar 106 from (hA 106 (by decide) (by unfold SCR; omega) (by decide) (by decide)).trans (rec_ar (by omega))]; exact t3 i hi
