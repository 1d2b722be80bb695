
/-! readVotes -/
theorem flt_eq {a b : Nat → Int32} {n : Nat} (h : ∀ i, i < n → a i = b i) : flt a n = flt b n := by
  unfold flt
  rw [ffst_c (P := fun i => ¬ alw a i) (R := fun i => ¬ alw b i) (m := n) (i := 0) (fun j _ hj => by unfold alw; rw [h j (by omega)])]
theorem flt_ok {t : Nat → Int32} {n : Nat} (hn : n ≤ 60) (h : flt t n = -1) : n % 3 = 2 ∧ ∀ i, i < n → alw t i := by
  unfold flt at h
  by_cases q : ffst (fun i => ¬ alw t i) n 0 = -1
  · rw [iz_t q] at h
    by_cases q2 : n % 3 = 2
    · exact ⟨q2, fun i hi => Classical.byContradiction fun z => ffst_no (by omega) q i (Nat.zero_le _) (by omega) z⟩
    · rw [iz_f q2] at h; exact absurd h (nI_nm (by omega))
  · rw [iz_f q] at h; exact absurd h q
theorem dig_48 {a : Int32} (h : ¬ a < nI 48 ∧ ¬ nI 57 < a) : dig (a - nI 48) := by
  have h0 : ¬ a < nI 0 := fun e => h.1 (by rw [lt_iI, nI_toInt (by decide)] at e ⊢; omega)
  obtain ⟨l1, e⟩ := cell_of ⟨h0, h.2⟩ (by decide)
  generalize a.toNatClampNeg = k at l1 e
  subst e
  have h1 := h.1
  rw [lt_iI, nI_toInt (by omega), nI_toInt (by omega)] at h1
  unfold dig
  rw [nI_sub (by omega), lt_iI, lt_iI, nI_toInt (by omega), nI_toInt (by omega), nI_toInt (by omega)]
  omega
theorem RB_w {g : Nat → Int32} {A A2 : AR} {F : Nat → Int32} {w f a m : Nat} {t : Nat → Int32} (ham : a + m ≤ 36) (hu : ∀ i, i < m → dig (t (i * 3) - nI 48)) (hv : ∀ i, i < m → dig (t (i * 3 + 1) - nI 48)) (hA : ∀ q, q = 7 ∨ q = 9 ∨ q = 11 ∨ q = 13 ∨ q = 15 → A2 q = A q) (y3 : A2 3 = fun j => iz (a ≤ j ∧ j < a + m) (t ((j - a) * 3) - nI 48) (A 3 j)) (y5 : A2 5 = fun j => iz (a ≤ j ∧ j < a + m) (t ((j - a) * 3 + 1) - nI 48) (A 5 j)) (h : RB g A F w f) : RB (bl g (2 * a) (2 * m) (fun k => t (k / 2 * 3 + k % 2) - nI 48)) A2 F w f := by
  obtain ⟨⟨a1, a2, a3, a4, a5⟩, ⟨b1, b2⟩, ⟨c1, c2⟩, ⟨d1, d2, d3⟩, e1, ⟨f1, f2⟩⟩ := h
  have x7 := hA 7 (by decide)
  have x9 := hA 9 (by decide)
  have x11 := hA 11 (by decide)
  have x13 := hA 13 (by decide)
  have x15 := hA 15 (by decide)
  have o : ∀ k, 72 ≤ k → bl g (2 * a) (2 * m) (fun k => t (k / 2 * 3 + k % 2) - nI 48) k = g k := fun k hk => bl_o (by omega)
  unfold RB
  rw [x7, x9, x11, rsnA_c x7 x9, y3, y5]
  refine ⟨⟨a1, a2, ?_, a4, a5⟩, ⟨b1, fun z => ⟨fun d hd => ?_, ?_⟩⟩, ⟨fun d hd => ?_, fun d hd => ?_⟩, ⟨d1, d2, d3⟩, e1, ⟨f1, f2⟩⟩
  · obtain ⟨h1, h2, h3, h4, h5, h6, h7, h8, h9, h10, h11, h12, h13, h14, h15', h16⟩ := a3
    refine ⟨fun d hd => ?_, fun d hd => ?_, fun d hd => ?_, fun d hd => ?_, fun d hd => ?_, ?_, ?_, ?_, ?_, ?_, ?_, h12, h13, h14, fun d hd => ?_, fun d hd => ?_⟩
    · rw [y3]
      dsimp only
      by_cases e : a ≤ d ∧ d < a + m
      · rw [iz_t e, show 2 * d = 2 * a + 2 * (d - a) by omega, bl_in (by omega), show 2 * (d - a) / 2 * 3 + 2 * (d - a) % 2 = (d - a) * 3 by omega]
      · rw [iz_f e, bl_o (by omega)]; exact h1 d hd
    · rw [y5]
      dsimp only
      by_cases e : a ≤ d ∧ d < a + m
      · rw [iz_t e, show 2 * d + 1 = 2 * a + (2 * (d - a) + 1) by omega, bl_in (by omega), show (2 * (d - a) + 1) / 2 * 3 + (2 * (d - a) + 1) % 2 = (d - a) * 3 + 1 by omega]
      · rw [iz_f e, bl_o (by omega)]; exact h2 d hd
    · rw [o _ (by omega), x7]; exact h3 d hd
    · rw [o _ (by omega), x9]; exact h4 d hd
    · rw [o _ (by omega), x13]; exact h5 d hd
    · rw [o _ (by omega), x15]; exact h6
    · rw [o _ (by omega), x15]; exact h7
    · rw [o _ (by omega)]; exact h8
    · rw [o _ (by omega)]; exact h9
    · rw [o _ (by omega)]; exact h10
    · rw [o _ (by omega)]; exact h11
    · rw [x7]; exact h15' d hd
    · rw [x9]; exact h16 d hd
  · rw [o _ (by omega)]; exact (b2 z).1 d hd
  · rw [o _ (by omega)]; exact (b2 z).2
  · dsimp only
    by_cases e : a ≤ d ∧ d < a + m
    · rw [iz_t e]; exact hu (d - a) (by omega)
    · rw [iz_f e]; exact c1 d hd
  · dsimp only
    by_cases e : a ≤ d ∧ d < a + m
    · rw [iz_t e]; exact hv (d - a) (by omega)
    · rw [iz_f e]; exact c2 d hd
theorem k_readVotes {ar fd : AR} {w f o z n : Nat} (h : RR ar fd w f o z n) (v : Int32) {c : Int32 × AR × AR} (hc : c = sp_readVotes ar fd w f o z n v) {ar3 fd3 : AR} {r : Int32} (hp : (¬ (¬ v < nI 0 ∧ ¬ nI 35 < v) ∧ r = -1 ∧ ar3 = c.2.1 ∧ fd3 = c.2.2) ∨ ((¬ v < nI 0 ∧ ¬ nI 35 < v) ∧ ¬ flt (c.2.1 106) n = -1 ∧ r = (-100) - flt (c.2.1 106) n ∧ (∀ q, q ≠ 107 → ar3 q = c.2.1 q) ∧ fd3 = zu c.2.2 102 (zu (c.2.2 102) 7 (flt (c.2.1 106) n))) ∨ ((¬ v < nI 0 ∧ ¬ nI 35 < v) ∧ flt (c.2.1 106) n = -1 ∧ ¬ v.toNatClampNeg + ((n + 1) / 3) ≤ 36 ∧ r = -2 ∧ (∀ q, q ≠ 107 → ar3 q = c.2.1 q) ∧ fd3 = zu c.2.2 102 (zu (c.2.2 102) 7 (nI n))) ∨ ((¬ v < nI 0 ∧ ¬ nI 35 < v) ∧ flt (c.2.1 106) n = -1 ∧ v.toNatClampNeg + ((n + 1) / 3) ≤ 36 ∧ r = nI ((n + 1) / 3) ∧ (∀ q, q ≠ 107 → ar3 q = zu (rcA c.2.1 z) 103 (bl (c.2.1 103) (2 * v.toNatClampNeg) (2 * ((n + 1) / 3)) (fun k => c.2.1 106 (k / 2 * 3 + k % 2) - nI 48)) q) ∧ fd3 = rcF (zu c.2.2 102 (zu (c.2.2 102) 7 (nI n))) z)) : r = c.1 ∧ ∃ w2 f2 o2 z2 n2, RR ar3 fd3 w2 f2 o2 z2 n2 := by
  have h0 := h
  obtain ⟨hci, hr, hh, ⟨hs1, hs2⟩, ⟨t1, t2, t3⟩⟩ := h0
  obtain ⟨-, -, -, -, -, -, -, -, -, -, g11, -⟩ := id hci
  have ef : flt (ar 106) n = flt (ar 94) n := flt_eq fun i hi => t3 i (by omega)
  have same : ∀ (u : Int32) (r2 : Int32), c = (r2, ar, fd) → (∀ q, q ≠ 107 → ar3 q = c.2.1 q) → fd3 = zu c.2.2 102 (zu (c.2.2 102) 7 u) → r = r2 → r = c.1 ∧ ∃ w2 f2 o2 z2 n2, RR ar3 fd3 w2 f2 o2 z2 n2 := by
    intro u r2 e1 e2 e3 e4
    subst e1
    refine ⟨e4, w, f, o, z, n, RR_same h (fun k hk => e2 k (fun e => hk (by unfold SCR; omega))) (fun k hk => ?_) ⟨?_, ?_, ?_⟩⟩
    · rw [e3, zu_n _ _ hk]
    · rw [e3, zu_s, zu_n _ _ (by decide)]
    · rw [e3, zu_s, zu_n _ _ (by decide)]
    · rw [e3, zu_s, zu_n _ _ (by decide)]
  unfold sp_readVotes at hc
  by_cases q1 : ¬ v < nI 0 ∧ ¬ nI 35 < v
  · rw [iz_t q1] at hc
    have hv : v.toNatClampNeg < 36 := (cell_of q1 (by decide)).1
    by_cases q2 : flt (ar 94) n = -1
    · rw [iz_t q2] at hc
      by_cases q3 : (n + 1) / 3 ≤ 36 - v.toNatClampNeg
      · rw [iz_t q3] at hc
        subst hc
        dsimp only at hp ⊢
        have r106 : rvA (sp_record ar fd o z).1 (ar 94) v.toNatClampNeg ((n + 1) / 3) 106 = ar 106 := (rv_n (by decide)).trans (rec_ar (by decide))
        have r103 : rvA (sp_record ar fd o z).1 (ar 94) v.toNatClampNeg ((n + 1) / 3) 103 = ar 103 := (rv_n (by decide)).trans (rec_ar (by decide))
        rw [r106, r103] at hp
        rcases hp with ⟨p1, -⟩ | ⟨-, p1, -⟩ | ⟨-, -, p1, -⟩ | ⟨-, -, -, p2, p3, p4⟩
        · exact absurd q1 p1
        · exact absurd (ef.trans q2) p1
        · exact absurd (by omega) p1
        · generalize v.toNatClampNeg = a at hv q3 p3 ⊢
          obtain ⟨n3, al⟩ := flt_ok g11 (ef.trans q2)
          have em : (n + 1) / 3 * 3 = n + 1 := by omega
          generalize (n + 1) / 3 = b at q3 p2 p3 em ⊢
          have dg : ∀ i, i < n → ¬ i % 3 = 2 → dig (ar 106 i - nI 48) := fun i hi h3 => dig_48 ((alw_d h3).mp (al i hi))
          have mk : ∀ k, ¬ SCR k → ar3 k = zu (rcA (rvA (sp_record ar fd o z).1 (ar 94) a b) z) 103 (bl (ar 103) (2 * a) (2 * b) (fun k => ar 106 (k / 2 * 3 + k % 2) - nI 48)) k := fun k hk => p3 k (fun e => hk (by unfold SCR; omega))
          have k1 : ∀ k, k ≠ 3 → k ≠ 5 → rvA (sp_record ar fd o z).1 (ar 94) a b k = (sp_record ar fd o z).1 k := fun k h1 h2 => rv_n ⟨h1, h2⟩
          refine ⟨p2, w, f, oz o z, pz z, n, RR_rec (ar1 := rvA (sp_record ar fd o z).1 (ar 94) a b) (fd1 := zu (sp_record ar fd o z).2 102 (zu ((sp_record ar fd o z).2 102) 7 (nI n))) h (fun k h1 h2 => k1 k (by omega) (by omega)) (fun k h1 h2 => zu_n _ _ h2) ⟨?_, ?_⟩ (fun k h1 h2 => by rw [mk k h1, zu_n _ _ h2]) p4 ?_⟩
          · rw [zu_s, zu_n _ _ (by decide), rec_fd (by decide)]
          · rw [zu_s, zu_n _ _ (by decide), rec_fd (by decide)]
          · rw [mk 103 (by unfold SCR; omega), zu_s, p4]
            refine RB_c (F := fd 1) (A := fun q => if q = 3 then (fun j => iz (a ≤ j ∧ j < a + b) (ar 106 ((j - a) * 3) - nI 48) (ar 3 j)) else if q = 5 then (fun j => iz (a ≤ j ∧ j < a + b) (ar 106 ((j - a) * 3 + 1) - nI 48) (ar 5 j)) else ar q) (fun _ _ => rfl) (fun q hq => ?_) ?_ (RB_w (by omega) (fun i hi => dg _ (by omega) (by omega)) (fun i hi => dg _ (by omega) (by omega)) (fun q hq => ?_) rfl rfl hr)
            · rw [mk q (by unfold SCR; omega), zu_n _ _ (by omega), rcA_n (by omega)]
              by_cases e3 : q = 3
              · subst e3
                show zu (zu _ 3 _) 5 _ 3 = fun j => _
                rw [zu_n _ _ (by decide), zu_s]
                funext j
                show iz (a ≤ j ∧ j < a + b) (ar 94 ((j - a) * 3) - nI 48) ((sp_record ar fd o z).1 3 j) = iz (a ≤ j ∧ j < a + b) (ar 106 ((j - a) * 3) - nI 48) (ar 3 j)
                by_cases e : a ≤ j ∧ j < a + b
                · rw [iz_t e, iz_t e, t3 _ (by omega)]
                · rw [iz_f e, iz_f e, rec_ar (by decide)]
              · by_cases e5 : q = 5
                · subst e5
                  show zu (zu _ 3 _) 5 _ 5 = fun j => _
                  rw [zu_s]
                  funext j
                  show iz (a ≤ j ∧ j < a + b) (ar 94 ((j - a) * 3 + 1) - nI 48) ((sp_record ar fd o z).1 5 j) = iz (a ≤ j ∧ j < a + b) (ar 106 ((j - a) * 3 + 1) - nI 48) (ar 5 j)
                  by_cases e : a ≤ j ∧ j < a + b
                  · rw [iz_t e, iz_t e, t3 _ (by omega)]
                  · rw [iz_f e, iz_f e, rec_ar (by decide)]
                · rw [k1 q e3 e5, rec_ar (by omega), if_neg e3, if_neg e5]
            · unfold rcF
              rw [zu_n _ _ (by decide), zu_n _ _ (by decide), rec_fd (by decide)]
              exact ⟨rfl, rfl, rfl, rfl⟩
            · show (if q = 3 then _ else if q = 5 then _ else ar q) = ar q
              rw [if_neg (by omega), if_neg (by omega)]
      · rw [iz_f q3] at hc
        rcases hp with ⟨p1, -⟩ | ⟨-, p1, -⟩ | ⟨-, -, -, p2, p3, p4⟩ | ⟨-, -, p1, -⟩
        · exact absurd q1 p1
        · rw [hc] at p1; exact absurd (ef.trans q2) p1
        · exact same _ _ hc p3 p4 p2
        · exact absurd (by omega) q3
    · rw [iz_f q2] at hc
      rcases hp with ⟨p1, -⟩ | ⟨-, -, p2, p3, p4⟩ | ⟨-, p1, -⟩ | ⟨-, p1, -⟩
      · exact absurd q1 p1
      · exact same _ _ hc p3 p4 (by rw [p2, hc, ef])
      · rw [hc] at p1; exact absurd (ef.symm.trans p1) q2
      · rw [hc] at p1; exact absurd (ef.symm.trans p1) q2
  · rw [iz_f q1] at hc
    subst hc
    rcases hp with ⟨-, p2, p3, p4⟩ | ⟨p1, -⟩ | ⟨p1, -⟩ | ⟨p1, -⟩
    · exact ⟨p2, w, f, o, z, n, by rw [p3, p4]; exact h⟩
    · exact absurd p1 q1
    · exact absurd p1 q1
    · exact absurd p1 q1
