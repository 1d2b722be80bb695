
/-! connected pieces -/
def CLS (f : Nat → Int32) (v : Int32) (S : Nat → Prop) : Prop := ∀ c, c < 36 → S c → ∀ sd, sd < 4 → ∀ d, d < 36 → nb c sd = nI d → f d = v → S d
/-- from a one can come to y, over cells of the area v -/
def RC (f : Nat → Int32) (v : Int32) (a y : Nat) : Prop := ∀ S : Nat → Prop, S a → CLS f v S → S y
theorem RC.rf {f : Nat → Int32} {v : Int32} (a : Nat) : RC f v a a := fun _ h _ => h
theorem RC.step {f : Nat → Int32} {v : Int32} {a c d sd : Nat} (h : RC f v a c) (hc : c < 36) (hs : sd < 4) (hd : d < 36) (hn : nb c sd = nI d) (hf : f d = v) : RC f v a d := fun S h1 h2 => h2 c hc (h S h1 h2) sd hs d hd hn hf
theorem RC.tr {f : Nat → Int32} {v : Int32} {a b y : Nat} (h : RC f v a b) (h2 : RC f v b y) : RC f v a y := fun S s1 s2 => h2 S (h S s1 s2) s2
def SEEN (f : Nat → Int32) (v : Int32) (i d : Nat) : Prop := ∃ b, b < i ∧ f b = v ∧ RC f v b d
def fresh (f : Nat → Int32) (v : Int32) (c : Nat) : Prop := f c = v ∧ ¬ SEEN f v c c
/-- how many connected pieces the cells below n begin -/
noncomputable def pcN (f : Nat → Int32) (v : Int32) (n : Nat) : Nat := ct (fresh f v) n
theorem pc_le (f : Nat → Int32) (v : Int32) (n : Nat) : pcN f v n ≤ n := ct_le _ _
theorem seen_cls (f : Nat → Int32) (v : Int32) (i : Nat) : CLS f v (SEEN f v i) := fun c hc ⟨b, h1, h2, h3⟩ sd hs d hd hn hf => ⟨b, h1, h2, h3.step hc hs hd hn hf⟩
theorem seen_0 {f : Nat → Int32} {v : Int32} {d : Nat} : ¬ SEEN f v 0 d := fun ⟨b, h, _⟩ => absurd h (Nat.not_lt_zero b)
theorem seen_n {f : Nat → Int32} {v : Int32} {i d : Nat} (h : ¬ f i = v) : SEEN f v (i + 1) d ↔ SEEN f v i d := by
  constructor
  · rintro ⟨b, h1, h2, h3⟩
    by_cases e : b = i
    · subst e; exact absurd h2 h
    · exact ⟨b, by omega, h2, h3⟩
  · rintro ⟨b, h1, h2, h3⟩
    exact ⟨b, by omega, h2, h3⟩
theorem seen_o {f : Nat → Int32} {v : Int32} {i d : Nat} (h : SEEN f v i i) : SEEN f v (i + 1) d ↔ SEEN f v i d := by
  constructor
  · rintro ⟨b, h1, h2, h3⟩
    by_cases e : b = i
    · subst e
      obtain ⟨b2, g1, g2, g3⟩ := h
      exact ⟨b2, g1, g2, g3.tr h3⟩
    · exact ⟨b, by omega, h2, h3⟩
  · rintro ⟨b, h1, h2, h3⟩
    exact ⟨b, by omega, h2, h3⟩
theorem seen_y {f : Nat → Int32} {v : Int32} {i d : Nat} (h : f i = v) : SEEN f v (i + 1) d ↔ SEEN f v i d ∨ RC f v i d := by
  constructor
  · rintro ⟨b, h1, h2, h3⟩
    by_cases e : b = i
    · subst e; exact Or.inr h3
    · exact Or.inl ⟨b, by omega, h2, h3⟩
  · rintro (⟨b, h1, h2, h3⟩ | h3)
    · exact ⟨b, by omega, h2, h3⟩
    · exact ⟨i, by omega, h, h3⟩
theorem ct_add {P R : Nat → Prop} {d : Nat} (hd : ¬ P d) (h : ∀ n, R n ↔ P n ∨ n = d) : ∀ n, (n ≤ d → ct R n = ct P n) ∧ (d < n → ct R n = ct P n + 1) := by
  intro n
  induction n with
  | zero => exact ⟨fun _ => rfl, fun q => absurd q (Nat.not_lt_zero d)⟩
  | succ n ih =>
    refine ⟨fun q => ?_, fun q => ?_⟩
    · rw [ct_s, ct_s, ih.1 (by omega), iz_c (P := R n) (Q := P n) ((h n).trans ⟨fun z => z.elim id (fun e => absurd e (by omega)), Or.inl⟩)]
    · by_cases e : n = d
      · subst e
        rw [ct_t ((h n).mpr (Or.inr rfl)), ct_f hd, ih.1 (Nat.le_refl _)]
      · rw [ct_s, ct_s, ih.2 (by omega), iz_c (P := R n) (Q := P n) ((h n).trans ⟨fun z => z.elim id (fun e2 => absurd e2 e), Or.inl⟩)]
        omega
theorem ct_lt {P : Nat → Prop} {d n : Nat} (hd : ¬ P d) (h : d < n) : ct P n < n := by
  have h1 := (ct_add (R := fun e => P e ∨ e = d) hd (fun _ => Iff.rfl) n).2 h
  have h2 := ct_le (fun e => P e ∨ e = d) n
  omega
def DN (f g1 : Nat → Int32) (v : Int32) (c n : Nat) : Prop := ∀ sd, sd < n → ∀ d, d < 36 → nb c sd = nI d → f d = v → ¬ g1 d = 0
/-- the search from i: what was reached before it (g), what is now (g1), the queue, of which t of wt cells are done -/
def BI (f g g1 q : Nat → Int32) (v : Int32) (i t wt : Nat) : Prop :=
  t ≤ wt ∧ (∀ j, j < wt → ∃ d, d < 36 ∧ q j = nI d ∧ RC f v i d) ∧ (∀ d, d < 36 → ¬ g d = 0 → ¬ g1 d = 0) ∧ (∀ d, d < 36 → ¬ g1 d = 0 → ¬ g d = 0 ∨ ∃ j, j < wt ∧ q j = nI d) ∧ (∀ j c, j < t → c < 36 → q j = nI c → DN f g1 v c 4) ∧ wt + ct (fun d => ¬ g d = 0) 36 = ct (fun d => ¬ g1 d = 0) 36
theorem one_n0 : ¬ nI 1 = 0 := by decide
theorem n0_put {g : Nat → Int32} {d e : Nat} (he : ¬ g e = 0) : ¬ zu g d (nI 1) e = 0 := by
  by_cases q : e = d
  · subst q; rw [zu_s]; exact one_n0
  · rw [zu_n _ _ q]; exact he
theorem ct_put {g : Nat → Int32} {d : Nat} (hd : d < 36) (h : g d = 0) : ct (fun e => ¬ zu g d (nI 1) e = 0) 36 = ct (fun e => ¬ g e = 0) 36 + 1 := by
  refine (ct_add (P := fun e => ¬ g e = 0) (d := d) (not_not_intro h) (fun n => ?_) 36).2 hd
  by_cases e : n = d
  · subst e; rw [zu_s]; exact ⟨fun _ => Or.inr rfl, fun _ => one_n0⟩
  · rw [zu_n _ _ e]; exact ⟨Or.inl, fun z => z.elim id (fun q => absurd q e)⟩
theorem bi_0 {f g q : Nat → Int32} {v : Int32} {i : Nat} (hi : i < 36) (hg : g i = 0) : BI f g (zu g i (nI 1)) (zu q 0 (nI i)) v i 0 1 := by
  refine ⟨by omega, fun j hj => ⟨i, hi, ?_, RC.rf i⟩, fun d hd h => ?_, fun d hd h => ?_, fun j c hj => absurd hj (Nat.not_lt_zero j), ?_⟩
  · rw [show j = 0 by omega, zu_s]
  · by_cases e : d = i
    · subst e; rw [zu_s]; exact one_n0
    · rw [zu_n _ _ e]; exact h
  · by_cases e : d = i
    · subst e; exact Or.inr ⟨0, by omega, zu_s _ _ _⟩
    · rw [zu_n _ _ e] at h; exact Or.inl h
  · rw [ct_put hi hg]; omega
theorem bi_lt {f g g1 q : Nat → Int32} {v : Int32} {i t wt d : Nat} (h : BI f g g1 q v i t wt) (hd : d < 36) (hg : g1 d = 0) : wt < 36 := by
  have h1 := ct_lt (P := fun e => ¬ g1 e = 0) (not_not_intro hg) hd
  have h2 := h.2.2.2.2.2
  omega
theorem bi_add {f g g1 q : Nat → Int32} {v : Int32} {i t wt c sd d : Nat} (h : BI f g g1 q v i t wt) (ht : t < wt) (hc : c < 36) (hR : RC f v i c) (hs : sd < 4) (hd : d < 36) (hn : nb c sd = nI d) (hf : f d = v) (hg : g1 d = 0) : BI f g (zu g1 d (nI 1)) (zu q wt (nI d)) v i t (wt + 1) := by
  obtain ⟨h1, h2, h3, h4, h5, h6⟩ := h
  have hup : ∀ e, ¬ g1 e = 0 → ¬ zu g1 d (nI 1) e = 0 := by
    intro e he
    by_cases q : e = d
    · subst q; rw [zu_s]; exact one_n0
    · rw [zu_n _ _ q]; exact he
  refine ⟨by omega, fun j hj => ?_, fun e he z => hup e (h3 e he z), fun e he z => ?_, fun j b hj hb hq => ?_, ?_⟩
  · by_cases q : j = wt
    · subst q; exact ⟨d, hd, zu_s _ _ _, hR.step hc hs hd hn hf⟩
    · rw [zu_n _ _ q]; exact h2 j (by omega)
  · by_cases q : e = d
    · subst q; exact Or.inr ⟨wt, by omega, zu_s _ _ _⟩
    · rw [zu_n _ _ q] at z
      rcases h4 e he z with z | ⟨j, z1, z2⟩
      · exact Or.inl z
      · exact Or.inr ⟨j, by omega, by rw [zu_n _ _ (by omega)]; exact z2⟩
  · rw [zu_n _ _ (by omega)] at hq
    exact fun s2 hs2 e he hne hfe => hup e (h5 j b hj hb hq s2 hs2 e he hne hfe)
  · rw [ct_put hd hg]; omega
theorem bi_next {f g g1 q : Nat → Int32} {v : Int32} {i t wt c : Nat} (h : BI f g g1 q v i t wt) (ht : t < wt) (hq : q t = nI c) (hc : c < 36) (hD : DN f g1 v c 4) : BI f g g1 q v i (t + 1) wt := by
  obtain ⟨h1, h2, h3, h4, h5, h6⟩ := h
  refine ⟨by omega, h2, h3, h4, fun j b hj hb e => ?_, h6⟩
  by_cases z : j = t
  · subst z
    have := (nI_eq (by omega) (by omega)).mp (hq.symm.trans e)
    subst this
    exact hD
  · exact h5 j b (by omega) hb e
theorem bi_end {f g g1 q : Nat → Int32} {v : Int32} {i t wt : Nat} (h : BI f g g1 q v i t wt) (ht : wt ≤ t) (hi : ¬ g1 i = 0) (hc : CLS f v (fun d => ¬ g d = 0)) : ∀ d, d < 36 → (¬ g1 d = 0 ↔ ¬ g d = 0 ∨ RC f v i d) := by
  obtain ⟨h1, h2, h3, h4, h5, h6⟩ := h
  refine fun d hd => ⟨fun z => ?_, fun z => ?_⟩
  · rcases h4 d hd z with z | ⟨j, z1, z2⟩
    · exact Or.inl z
    · obtain ⟨e, he, z3, z4⟩ := h2 j z1
      have := (nI_eq (by omega) (by omega)).mp (z2.symm.trans z3)
      subst this
      exact Or.inr z4
  · rcases z with z | z
    · exact h3 d hd z
    · refine z (fun d => ¬ g1 d = 0) hi (fun c hcl hc1 sd hs e he hn hf => ?_)
      rcases h4 c hcl hc1 with q | ⟨j, z1, z2⟩
      · exact h3 e he (hc c hcl q sd hs e he hn hf)
      · exact h5 j c (by omega) hcl z2 sd hs e he hn hf
theorem dn_0 {f g1 : Nat → Int32} {v : Int32} {c : Nat} : DN f g1 v c 0 := fun sd h => absurd h (Nat.not_lt_zero sd)
theorem dn_m {f g1 : Nat → Int32} {v : Int32} {c sd : Nat} (h : DN f g1 v c sd) (hn : nb c sd = -1) : DN f g1 v c (sd + 1) := by
  intro s2 hs2 d hd hn2 hf
  by_cases e : s2 = sd
  · subst e; exact absurd (hn2.symm.trans hn) (nI_nm (by omega))
  · exact h s2 (by omega) d hd hn2 hf
theorem dn_s {f g1 : Nat → Int32} {v : Int32} {c sd d : Nat} (h : DN f g1 v c sd) (hd : d < 36) (hn : nb c sd = nI d) (hz : f d = v → ¬ g1 d = 0) : DN f g1 v c (sd + 1) := by
  intro s2 hs2 e he hn2 hf
  by_cases q : s2 = sd
  · subst q
    have := (nI_eq (by omega) (by omega)).mp (hn2.symm.trans hn)
    subst this
    exact hz hf
  · exact h s2 (by omega) e he hn2 hf
theorem dn_p {f g1 : Nat → Int32} {v : Int32} {c sd d : Nat} (h : DN f g1 v c sd) (hd : d < 36) (hn : nb c sd = nI d) : DN f (zu g1 d (nI 1)) v c (sd + 1) := by
  have hup : ∀ e, ¬ g1 e = 0 → ¬ zu g1 d (nI 1) e = 0 := by
    intro e he
    by_cases q : e = d
    · subst q; rw [zu_s]; exact one_n0
    · rw [zu_n _ _ q]; exact he
  exact dn_s (fun s2 hs2 e he hn2 hf => hup e (h s2 hs2 e he hn2 hf)) hd hn (fun _ => by rw [zu_s]; exact one_n0)
theorem nb_or : ∀ c, c < 36 → ∀ sd, sd < 4 → (∃ d, d < 36 ∧ nb c sd = nI d) ∨ nb c sd = -1 := by
  have h : ∀ c, c < 36 → ∀ sd, sd < 4 → ((nb c sd).toNatClampNeg < 36 ∧ nb c sd = nI (nb c sd).toNatClampNeg) ∨ nb c sd = -1 := by decide +kernel
  intro c hc sd hs
  rcases h c hc sd hs with ⟨a, b⟩ | a
  · exact Or.inl ⟨_, a, b⟩
  · exact Or.inr a
/-- the judge's two rows alone may differ -/
def JQ (ar ar' : AR) : Prop := ∀ k, k ≠ 97 → k ≠ 99 → ar' k = ar k
theorem JQ.rf (ar : AR) : JQ ar ar := fun _ _ _ => rfl
theorem JQ.tr {a b c : AR} (h : JQ a b) (h2 : JQ b c) : JQ a c := fun k h1 h3 => (h2 k h1 h3).trans (h k h1 h3)
theorem JQ.z7 {a b : AR} (h : JQ a b) (g : Nat → Int32) : JQ a (zu b 97 g) := fun k h1 h3 => (zu_n _ _ h1).trans (h k h1 h3)
theorem JQ.z9 {a b : AR} (h : JQ a b) (g : Nat → Int32) : JQ a (zu b 99 g) := fun k h1 h3 => (zu_n _ _ h3).trans (h k h1 h3)
noncomputable def wpI (ar : AR) : Int32 := ffst (fun c => ar 9 c = -1 ∧ ar 7 c = -1) 36 0
noncomputable def osI (ar : AR) (w f : Nat) : Int32 := ffst (fun p => ¬ ct (fun i => ar 7 i = nI p) 36 = 36 / w) (w - f) 0
noncomputable def ncI (ar : AR) (w f : Nat) : Int32 := ffst (fun p => ¬ pcN (ar 7) (nI p) 36 = 1) (w - f) 0
noncomputable def rsn (A B C : Int32) : Int32 := iz (A = -1) (iz (B = -1) (iz (C = -1) (nI 0) (nI 3)) (nI 2)) (nI 1)
noncomputable def rsnA (ar : AR) (w f : Nat) : Int32 := rsn (wpI ar) (osI ar w f) (ncI ar w f)
theorem rsn_c (A B C : Int32) : rsn A B C = nI 0 ∨ rsn A B C = nI 1 ∨ rsn A B C = nI 2 ∨ rsn A B C = nI 3 := by
  unfold rsn
  by_cases h : A = -1
  · rw [iz_t h]
    by_cases h2 : B = -1
    · rw [iz_t h2]
      by_cases h3 : C = -1
      · rw [iz_t h3]; exact Or.inl rfl
      · rw [iz_f h3]; exact Or.inr (Or.inr (Or.inr rfl))
    · rw [iz_f h2]; exact Or.inr (Or.inr (Or.inl rfl))
  · rw [iz_f h]; exact Or.inr (Or.inl rfl)
theorem sw3 {x : Int32} (h : x = nI 0 ∨ x = nI 1 ∨ x = nI 2 ∨ x = nI 3) (h1 : ¬ x = nI 1) (h2 : ¬ x = nI 2) (h3 : ¬ x = nI 3) : x.toInt < 1 ∨ 3 < x.toInt := by
  rcases h with h | h | h | h
  · left; rw [h]; decide
  · exact absurd h h1
  · exact absurd h h2
  · exact absurd h h3
noncomputable def blm (ar : AR) (w f : Nat) : Int32 := iz (rsnA ar w f = nI 1) (wpI ar) (iz (rsnA ar w f = nI 2) (osI ar w f) (iz (rsnA ar w f = nI 3) (ncI ar w f) (-1)))
theorem wpI_J {a b : AR} (h : JQ a b) : wpI b = wpI a := by unfold wpI; rw [h 9 (by decide) (by decide), h 7 (by decide) (by decide)]
theorem osI_J {a b : AR} {w f : Nat} (h : JQ a b) : osI b w f = osI a w f := by unfold osI; rw [h 7 (by decide) (by decide)]
theorem ncI_J {a b : AR} {w f : Nat} (h : JQ a b) : ncI b w f = ncI a w f := by unfold ncI; rw [h 7 (by decide) (by decide)]
theorem rsnA_J {a b : AR} {w f : Nat} (h : JQ a b) : rsnA b w f = rsnA a w f := by unfold rsnA; rw [wpI_J h, osI_J h, ncI_J h]

set_option maxHeartbeats 4000000 in
set_option maxRecDepth 100000 in
/-- Judge.withoutPart -/
theorem c_X2_withoutPart (l : Launch) (x : CT) (ar fd : AR)  : CP l yX2_withoutPart cX2_withoutPart 2 (some .int) 2 42 x [.ref (xa x 1)] ar fd (fun r => r = wpI ar) := by
  refine zsP (own := RX2) rfl (by decide +kernel) (Nat.le_of_ble_eq_true rfl) ?_
  intro p e s m below meth c ls E hs hl
  have hx := E.1
  have hb := E.2.1
  have hl : lv_has ls 2 [(0, .ref (xa x 1))] := hl
  refine lv_iconst (v := nI 0) hx hb dX2_withoutPart_0 (by decide) ?_
  refine lv_istore_n (lv' := [(1, .int (nI 0)), (0, .ref (xa x 1))]) hx hb dX2_withoutPart_1 rfl hl (by decide) rfl (fun ls hl => ?_)
  have L_1 : ∀ (mm : Nat) (i : Nat), (36 - i) < mm → (i ≤ 36) → (wpI ar = ffst (fun c => ar 9 c = -1 ∧ ar 7 c = -1) (36 - i) i) → ∀ (H : Heap) (locs : List Loc) (ls : Array Slot), ST x (AA x) s.heap ar fd H locs → lv_has ls 2 [(0, .ref (xa x 1)), (1, .int (nI i))] → W p l e (rmZ 2 42) s m ([.ref (xa x 1)] : List Value).toArray below meth c H locs 0 0 (QP below x [.ref (xa x 1)] ar fd s (fun r => r = wpI ar)) (F0 m 2 ls []) := by
    intro mm
    induction mm with
    | zero => intro i hmu; exact absurd hmu (Nat.not_lt_zero _)
    | succ mm ih_1 =>
      intro i hmu hi h1 H locs ls hs hl
      refine lv_iload_n hx hb dX2_withoutPart_2 rfl (lv_at hl 1 rfl) ?_
      refine lv_bipush (v := nI 36) hx hb dX2_withoutPart_3 (by decide) ?_
      refine lv_icmp_ge (tgt := 36) hx hb dX2_withoutPart_5 (by decide) (fun c_2 => ?_) (fun c_2 => ?_)
      · have c_2 : 36 ≤ i := (nI_leI (a := 36) (b := i) (by omega) (by omega)).mp c_2
        refine lv_iconst (v := (-1)) hx hb dX2_withoutPart_36 (by decide) ?_
        exact zeP E hs (h1.trans (ffst_e (by omega))).symm dX2_withoutPart_37
      · have c_2 : ¬ (36 ≤ i) := fun h => c_2 ((nI_leI (a := 36) (b := i) (by omega) (by omega)).mpr h)
        refine lv_aload_n hx hb dX2_withoutPart_8 rfl (lv_at hl 0 rfl) ?_
        refine lv_iload_n hx hb dX2_withoutPart_9 rfl (lv_at hl 1 rfl) ?_
        refine zVP E hs lkX2_57 [] (c_X4_isOpen l x ar fd i (by omega)) (by decide) (sh3 rfl) rfl ⟨Nat.le_of_ble_eq_true rfl, Nat.le_of_ble_eq_true rfl⟩ rfl hl.1 (Nat.le_of_ble_eq_true rfl) rfl dX2_withoutPart_10 (fun r_3 H locs hp_4 hs => ?_)
        subst hp_4
        refine lv_if_eq (tgt := 30) hx hb dX2_withoutPart_13 (by decide) (fun c_5 => ?_) (fun c_5 => ?_)
        · have c_5 : ¬ (ar 9 i = -1) := bz_0 c_5
          refine lv_iinc (v := nI (i + 1)) (lv' := [(1, .int (nI (i + 1))), (0, .ref (xa x 1))]) hx hb dX2_withoutPart_30 hl (k := 1) rfl (nI_inc _) (by decide) rfl (fun ls hl => ?_)
          refine lv_goto (tgt := 2) hx hb dX2_withoutPart_33 (by decide) ?_
          exact ih_1 (i + 1) (by omega) (by omega) (h1.trans (ffst_f (by omega) (fun h => c_5 h.1))) _ _ _ hs (lvr (lv_at hl 1 rfl) (lvr (lv_at hl 0 rfl) (lvn hl)))
        · have c_5 : ar 9 i = -1 := bz_1 c_5
          refine lv_aload_n hx hb dX2_withoutPart_16 rfl (lv_at hl 0 rfl) ?_
          refine zg3 E hs (k := 1) rfl 2 (by decide) rfl q_41 dX2_withoutPart_17 ?_
          refine lv_iload_n hx hb dX2_withoutPart_20 rfl (lv_at hl 1 rfl) ?_
          refine zVP E hs lkX2_40 [] (c_X3_at l x 6 36 ro_6 ar fd (nI i)) (by decide) (sh2 rfl) rfl ⟨Nat.le_of_ble_eq_true rfl, Nat.le_of_ble_eq_true rfl⟩ rfl hl.1 (Nat.le_of_ble_eq_true rfl) rfl dX2_withoutPart_21 (fun r_6 H locs hp_7 hs => ?_)
          subst hp_7
          refine tp (b := ar 7 i) (rowAt_n (by omega) (by decide)) ?_
          refine lv_iconst (v := (-1)) hx hb dX2_withoutPart_24 (by decide) ?_
          refine lv_icmp_ne (tgt := 30) hx hb dX2_withoutPart_25 (by decide) (fun c_8 => ?_) (fun c_8 => ?_)
          · refine lv_iinc (v := nI (i + 1)) (lv' := [(1, .int (nI (i + 1))), (0, .ref (xa x 1))]) hx hb dX2_withoutPart_30 hl (k := 1) rfl (nI_inc _) (by decide) rfl (fun ls hl => ?_)
            refine lv_goto (tgt := 2) hx hb dX2_withoutPart_33 (by decide) ?_
            exact ih_1 (i + 1) (by omega) (by omega) (h1.trans (ffst_f (by omega) (fun h => c_8 h.2))) _ _ _ hs (lvr (lv_at hl 1 rfl) (lvr (lv_at hl 0 rfl) (lvn hl)))
          · refine lv_iload_n hx hb dX2_withoutPart_28 rfl (lv_at hl 1 rfl) ?_
            exact zeP E hs (h1.trans (ffst_t (by omega) ⟨c_5, c_8⟩)).symm dX2_withoutPart_29
  exact L_1 (_ + 1) 0 (Nat.lt_succ_self _) (by omega) rfl _ _ _ hs (lvr (lv_at hl 1 rfl) (lvr (lv_at hl 0 rfl) (lvn hl)))

set_option maxHeartbeats 4000000 in
set_option maxRecDepth 100000 in
/-- Judge.ofOtherSize -/
theorem c_X2_ofOtherSize (l : Launch) (x : CT) (ar fd : AR) (w f : Nat) (hw : fd 1 7 = nI w) (hf : fd 1 8 = nI f) (hfw : f ≤ w) (hw9 : w ≤ 9) (hw2 : 2 ≤ w) : CP l yX2_ofOtherSize cX2_ofOtherSize 2 (some .int) 2 44 x [.ref (xa x 1)] ar fd (fun r => r = osI ar w f) := by
  refine zsP (own := RX2) rfl (by decide +kernel) (Nat.le_of_ble_eq_true rfl) ?_
  intro p e s m below meth c ls E hs hl
  have hx := E.1
  have hb := E.2.1
  have hl : lv_has ls 2 [(0, .ref (xa x 1))] := hl
  have h36w : 36 / w ≤ 36 := Nat.div_le_self 36 w
  refine lv_iconst (v := nI 0) hx hb dX2_ofOtherSize_0 (by decide) ?_
  refine lv_istore_n (lv' := [(1, .int (nI 0)), (0, .ref (xa x 1))]) hx hb dX2_ofOtherSize_1 rfl hl (by decide) rfl (fun ls hl => ?_)
  have L_1 : ∀ (mm : Nat) (i : Nat), (w - f - i) < mm → (i ≤ w - f) → (osI ar w f = ffst (fun p => ¬ ct (fun i => ar 7 i = nI p) 36 = 36 / w) (w - f - i) i) → ∀ (H : Heap) (locs : List Loc) (ls : Array Slot), ST x (AA x) s.heap ar fd H locs → lv_has ls 2 [(0, .ref (xa x 1)), (1, .int (nI i))] → W p l e (rmZ 2 44) s m ([.ref (xa x 1)] : List Value).toArray below meth c H locs 0 0 (QP below x [.ref (xa x 1)] ar fd s (fun r => r = osI ar w f)) (F0 m 2 ls []) := by
    intro mm
    induction mm with
    | zero => intro i hmu; exact absurd hmu (Nat.not_lt_zero _)
    | succ mm ih_1 =>
      intro i hmu hi h1 H locs ls hs hl
      refine lv_iload_n hx hb dX2_ofOtherSize_2 rfl (lv_at hl 1 rfl) ?_
      refine lv_aload_n hx hb dX2_ofOtherSize_3 rfl (lv_at hl 0 rfl) ?_
      refine zVP E hs lkX2_66 [.int (nI i)] (c_X4_left l x ar fd) (by decide) (sh3 rfl) rfl ⟨Nat.le_of_ble_eq_true rfl, Nat.le_of_ble_eq_true rfl⟩ rfl hl.1 (Nat.le_of_ble_eq_true rfl) rfl dX2_ofOtherSize_4 (fun r_2 H locs hp_3 hs => ?_)
      subst hp_3
      refine tp (b := nI (w - f)) (by rw [hw, hf, nI_sub hfw]) ?_
      refine lv_icmp_ge (tgt := 33) hx hb dX2_ofOtherSize_7 (by decide) (fun c_4 => ?_) (fun c_4 => ?_)
      · have c_4 : w - f ≤ i := (nI_leI (a := w - f) (b := i) (by omega) (by omega)).mp c_4
        refine lv_iconst (v := (-1)) hx hb dX2_ofOtherSize_33 (by decide) ?_
        exact zeP E hs (h1.trans (ffst_e (by omega))).symm dX2_ofOtherSize_34
      · have c_4 : ¬ (w - f ≤ i) := fun h => c_4 ((nI_leI (a := w - f) (b := i) (by omega) (by omega)).mpr h)
        refine lv_aload_n hx hb dX2_ofOtherSize_10 rfl (lv_at hl 0 rfl) ?_
        refine zg3 E hs (k := 1) rfl 2 (by decide) rfl q_41 dX2_ofOtherSize_11 ?_
        refine lv_iload_n hx hb dX2_ofOtherSize_14 rfl (lv_at hl 1 rfl) ?_
        refine zSP E hs lkX2_70 [] (c_X0_size l x 6 ro_6 ar fd (nI i)) ⟨Nat.le_of_ble_eq_true rfl, Nat.le_of_ble_eq_true rfl⟩ rfl hl.1 (Nat.le_of_ble_eq_true rfl) rfl dX2_ofOtherSize_15 (fun r_5 H locs hp_6 hs => ?_)
        subst hp_6
        have hcl_r_5 := ct_le (fun zz => ar 7 zz = nI i) 36
        refine lv_aload_n hx hb dX2_ofOtherSize_18 rfl (lv_at hl 0 rfl) ?_
        refine zVP E hs lkX2_74 [.int (nI (ct (fun zz => ar 7 zz = nI i) 36))] (c_X4_size l x ar fd w hw hw9 hw2) (by decide) (sh3 rfl) rfl ⟨Nat.le_of_ble_eq_true rfl, Nat.le_of_ble_eq_true rfl⟩ rfl hl.1 (Nat.le_of_ble_eq_true rfl) rfl dX2_ofOtherSize_19 (fun r_7 H locs hp_8 hs => ?_)
        subst hp_8
        refine lv_icmp_eq (tgt := 27) hx hb dX2_ofOtherSize_22 (by decide) (fun c_9 => ?_) (fun c_9 => ?_)
        · have c_9 : ct (fun zz => ar 7 zz = nI i) 36 = 36 / w := (nI_eq (a := ct (fun zz => ar 7 zz = nI i) 36) (b := 36 / w) (by omega) (by omega)).mp c_9
          refine lv_iinc (v := nI (i + 1)) (lv' := [(1, .int (nI (i + 1))), (0, .ref (xa x 1))]) hx hb dX2_ofOtherSize_27 hl (k := 1) rfl (nI_inc _) (by decide) rfl (fun ls hl => ?_)
          refine lv_goto (tgt := 2) hx hb dX2_ofOtherSize_30 (by decide) ?_
          exact ih_1 (i + 1) (by omega) (by omega) (h1.trans (ffst_f (by omega) (not_not_intro c_9))) _ _ _ hs (lvr (lv_at hl 1 rfl) (lvr (lv_at hl 0 rfl) (lvn hl)))
        · have c_9 : ¬ (ct (fun zz => ar 7 zz = nI i) 36 = 36 / w) := fun h => c_9 ((nI_eq (a := ct (fun zz => ar 7 zz = nI i) 36) (b := 36 / w) (by omega) (by omega)).mpr h)
          refine lv_iload_n hx hb dX2_ofOtherSize_25 rfl (lv_at hl 1 rfl) ?_
          exact zeP E hs (h1.trans (ffst_t (by omega) c_9)).symm dX2_ofOtherSize_26
  exact L_1 (_ + 1) 0 (Nat.lt_succ_self _) (by omega) rfl _ _ _ hs (lvr (lv_at hl 1 rfl) (lvr (lv_at hl 0 rfl) (lvn hl)))

set_option maxHeartbeats 4000000 in
set_option maxRecDepth 100000 in
/-- Judge.reachFrom -/
theorem c_X2_reachFrom (l : Launch) (x : CT) (k : Nat) (hr : RO k 36) (h96 : k ≠ 96) (h98 : k ≠ 98) (ar fd : AR) (i : Nat) (hi : i < 36) (v : Int32) (hg0 : ar 97 i = 0) (hcl : CLS (ar (k + 1)) v (fun d => ¬ ar 97 d = 0)) : CV l yX2_reachFrom cX2_reachFrom 9 1 22 x [.ref (xa x 95), .int (nI i), .ref (xa x k), .int v] ar fd (fun ar' fd' => fd' = fd ∧ JQ ar ar' ∧ ∀ d, d < 36 → (¬ ar' 97 d = 0 ↔ ¬ ar 97 d = 0 ∨ RC (ar (k + 1)) v i d)) := by
  refine zsV (own := RX2) rfl (by decide +kernel) (Nat.le_of_ble_eq_true rfl) ?_
  intro p e s m below meth c ls E hs hl
  have hx := E.1
  have hb := E.2.1
  have hl : lv_has ls 9 [(0, .ref (xa x 95)), (1, .int (nI i)), (2, .ref (xa x k)), (3, .int v)] := hl
  refine lv_aload_n hx hb dX2_reachFrom_0 rfl (lv_at hl 0 rfl) ?_
  refine zg1 E hs (k := 95) rfl 0 (by decide) rfl q_121 dX2_reachFrom_1 ?_
  refine lv_iload_n hx hb dX2_reachFrom_4 rfl (lv_at hl 1 rfl) ?_
  refine lv_iconst (v := nI 1) hx hb dX2_reachFrom_5 (by decide) ?_
  refine zVV E hs lkX2_48 [] (c_X3_put l x 96 36 ro_96 ar fd (nI i) (nI 1)) (by decide) (sh2 rfl) rfl ⟨Nat.le_of_ble_eq_true rfl, Nat.le_of_ble_eq_true rfl⟩ rfl hl.1 (Nat.le_of_ble_eq_true rfl) rfl dX2_reachFrom_6 (fun arr_1 fdr_1 H locs hp_2 hs => ?_)
  rw [hp_2.1, hp_2.2] at hs
  rw [rowPut_n (j := i) (by omega) (by decide)] at hs
  refine lv_aload_n hx hb dX2_reachFrom_9 rfl (lv_at hl 0 rfl) ?_
  refine zg1 E hs (k := 95) rfl 1 (by decide) rfl q_122 dX2_reachFrom_10 ?_
  refine lv_iconst (v := nI 0) hx hb dX2_reachFrom_13 (by decide) ?_
  refine lv_iload_n hx hb dX2_reachFrom_14 rfl (lv_at hl 1 rfl) ?_
  refine zVV E hs lkX2_48 [] (c_X3_put l x 98 36 ro_98 (zu ar 97 (zu (ar 97) i (nI 1))) fd (nI 0) (nI i)) (by decide) (sh2 rfl) rfl ⟨Nat.le_of_ble_eq_true rfl, Nat.le_of_ble_eq_true rfl⟩ rfl hl.1 (Nat.le_of_ble_eq_true rfl) rfl dX2_reachFrom_15 (fun arr_3 fdr_3 H locs hp_4 hs => ?_)
  rw [hp_4.1, hp_4.2] at hs
  rw [rowPut_n (j := 0) (by omega) (by decide)] at hs
  refine lv_iconst (v := nI 1) hx hb dX2_reachFrom_18 (by decide) ?_
  refine lv_istore (lv' := [(4, .int (nI 1)), (0, .ref (xa x 95)), (1, .int (nI i)), (2, .ref (xa x k)), (3, .int v)]) hx hb dX2_reachFrom_19 hl (by decide) rfl (fun ls hl => ?_)
  refine lv_iconst (v := nI 0) hx hb dX2_reachFrom_21 (by decide) ?_
  refine lv_istore (lv' := [(5, .int (nI 0)), (4, .int (nI 1)), (0, .ref (xa x 95)), (1, .int (nI i)), (2, .ref (xa x k)), (3, .int v)]) hx hb dX2_reachFrom_22 hl (by decide) rfl (fun ls hl => ?_)
  have L_5 : ∀ (mm : Nat) (t : Nat) (wt : Nat) (ar1 : AR), (36 - t) < mm → (t ≤ 36) → (JQ ar ar1) → (BI (ar (k + 1)) (ar 97) (ar1 97) (ar1 99) v i t wt) → (¬ ar1 97 i = 0) → ∀ (H : Heap) (locs : List Loc) (ls : Array Slot), ST x (AA x) s.heap ar1 fd H locs → lv_has ls 9 [(0, .ref (xa x 95)), (1, .int (nI i)), (2, .ref (xa x k)), (3, .int v), (4, .int (nI wt)), (5, .int (nI t))] → W p l e (rmZ 1 22) s m ([.ref (xa x 95), .int (nI i), .ref (xa x k), .int v] : List Value).toArray below meth c H locs 0 0 (QV below x [.ref (xa x 95), .int (nI i), .ref (xa x k), .int v] s (fun ar' fd' => fd' = fd ∧ JQ ar ar' ∧ ∀ d, d < 36 → (¬ ar' 97 d = 0 ↔ ¬ ar 97 d = 0 ∨ RC (ar (k + 1)) v i d))) (F0 m 24 ls []) := by
    intro mm
    induction mm with
    | zero => intro t wt ar1 hmu; exact absurd hmu (Nat.not_lt_zero _)
    | succ mm ih_5 =>
      intro t wt ar1 hmu ht hJ hB hi1 H locs ls hs hl
      have hwt36 : wt ≤ 36 := by have := ct_le (fun d => ¬ ar1 97 d = 0) 36; have := hB.2.2.2.2.2; omega
      refine lv_iload hx hb dX2_reachFrom_24 (lv_at hl 5 rfl) ?_
      refine lv_bipush (v := nI 36) hx hb dX2_reachFrom_26 (by decide) ?_
      refine lv_icmp_ge (tgt := 125) hx hb dX2_reachFrom_28 (by decide) (fun c_6 => ?_) (fun c_6 => ?_)
      · have c_6 : 36 ≤ t := (nI_leI (a := 36) (b := t) (by omega) (by omega)).mp c_6
        exact zeV E hs ⟨rfl, hJ, bi_end hB (by have := ct_le (fun d => ¬ ar1 97 d = 0) 36; have := hB.2.2.2.2.2; omega) hi1 hcl⟩ dX2_reachFrom_125
      · have c_6 : ¬ (36 ≤ t) := fun h => c_6 ((nI_leI (a := 36) (b := t) (by omega) (by omega)).mpr h)
        refine lv_iload hx hb dX2_reachFrom_31 (lv_at hl 5 rfl) ?_
        refine lv_iload hx hb dX2_reachFrom_33 (lv_at hl 4 rfl) ?_
        refine lv_icmp_ge (tgt := 125) hx hb dX2_reachFrom_35 (by decide) (fun c_7 => ?_) (fun c_7 => ?_)
        · have c_7 : wt ≤ t := (nI_leI (a := wt) (b := t) (by omega) (by omega)).mp c_7
          exact zeV E hs ⟨rfl, hJ, bi_end hB (by have := ct_le (fun d => ¬ ar1 97 d = 0) 36; have := hB.2.2.2.2.2; omega) hi1 hcl⟩ dX2_reachFrom_125
        · have c_7 : ¬ (wt ≤ t) := fun h => c_7 ((nI_leI (a := wt) (b := t) (by omega) (by omega)).mpr h)
          refine lv_aload_n hx hb dX2_reachFrom_38 rfl (lv_at hl 0 rfl) ?_
          refine zg1 E hs (k := 95) rfl 1 (by decide) rfl q_122 dX2_reachFrom_39 ?_
          refine lv_iload hx hb dX2_reachFrom_42 (lv_at hl 5 rfl) ?_
          refine zVP E hs lkX2_40 [] (c_X3_at l x 98 36 ro_98 ar1 fd (nI t)) (by decide) (sh2 rfl) rfl ⟨Nat.le_of_ble_eq_true rfl, Nat.le_of_ble_eq_true rfl⟩ rfl hl.1 (Nat.le_of_ble_eq_true rfl) rfl dX2_reachFrom_44 (fun r_8 H locs hp_9 hs => ?_)
          subst hp_9
          refine tp (b := ar1 99 t) (rowAt_n (by omega) (by decide)) ?_
          obtain ⟨ce, hce, eqt, hRC⟩ := hB.2.1 t (by omega)
          refine tp (b := nI ce) eqt ?_
          refine lv_istore (lv' := [(6, .int (nI ce)), (0, .ref (xa x 95)), (1, .int (nI i)), (2, .ref (xa x k)), (3, .int v), (4, .int (nI wt)), (5, .int (nI t))]) hx hb dX2_reachFrom_47 hl (by decide) rfl (fun ls hl => ?_)
          refine lv_iconst (v := nI 0) hx hb dX2_reachFrom_49 (by decide) ?_
          refine lv_istore (lv' := [(7, .int (nI 0)), (6, .int (nI ce)), (0, .ref (xa x 95)), (1, .int (nI i)), (2, .ref (xa x k)), (3, .int v), (4, .int (nI wt)), (5, .int (nI t))]) hx hb dX2_reachFrom_50 hl (by decide) rfl (fun ls hl => ?_)
          have L_10 : ∀ (mm : Nat) (sd : Nat) (wt : Nat) (ar1 : AR), (4 - sd) < mm → (sd ≤ 4) → (t < wt) → (JQ ar ar1) → (BI (ar (k + 1)) (ar 97) (ar1 97) (ar1 99) v i t wt) → (DN (ar (k + 1)) (ar1 97) v ce sd) → (ar1 99 t = nI ce) → (¬ ar1 97 i = 0) → ∀ (H : Heap) (locs : List Loc) (ls : Array Slot), ST x (AA x) s.heap ar1 fd H locs → lv_has ls 9 [(0, .ref (xa x 95)), (1, .int (nI i)), (2, .ref (xa x k)), (3, .int v), (4, .int (nI wt)), (5, .int (nI t)), (6, .int (nI ce)), (7, .int (nI sd))] → W p l e (rmZ 1 22) s m ([.ref (xa x 95), .int (nI i), .ref (xa x k), .int v] : List Value).toArray below meth c H locs 0 0 (QV below x [.ref (xa x 95), .int (nI i), .ref (xa x k), .int v] s (fun ar' fd' => fd' = fd ∧ JQ ar ar' ∧ ∀ d, d < 36 → (¬ ar' 97 d = 0 ↔ ¬ ar 97 d = 0 ∨ RC (ar (k + 1)) v i d))) (F0 m 52 ls []) := by
            intro mm
            induction mm with
            | zero => intro sd wt ar1 hmu; exact absurd hmu (Nat.not_lt_zero _)
            | succ mm ih_10 =>
              intro sd wt ar1 hmu hsd htw hJ hB hD hq hi1 H locs ls hs hl
              refine lv_iload hx hb dX2_reachFrom_52 (lv_at hl 7 rfl) ?_
              refine lv_iconst (v := nI 4) hx hb dX2_reachFrom_54 (by decide) ?_
              refine lv_icmp_ge (tgt := 119) hx hb dX2_reachFrom_55 (by decide) (fun c_11 => ?_) (fun c_11 => ?_)
              · have c_11 : 4 ≤ sd := (nI_leI (a := 4) (b := sd) (by omega) (by omega)).mp c_11
                refine lv_iinc (v := nI (t + 1)) (lv' := [(5, .int (nI (t + 1))), (0, .ref (xa x 95)), (1, .int (nI i)), (2, .ref (xa x k)), (3, .int v), (4, .int (nI wt)), (6, .int (nI ce)), (7, .int (nI sd))]) hx hb dX2_reachFrom_119 hl (k := 5) rfl (nI_inc _) (by decide) rfl (fun ls hl => ?_)
                refine lv_goto (tgt := 24) hx hb dX2_reachFrom_122 (by decide) ?_
                exact ih_5 (t + 1) wt ar1 (by omega) (by omega) hJ (bi_next hB htw hq hce (by rw [show (4 : Nat) = sd by omega]; exact hD)) hi1 _ _ _ hs (lvr (lv_at hl 1 rfl) (lvr (lv_at hl 2 rfl) (lvr (lv_at hl 3 rfl) (lvr (lv_at hl 4 rfl) (lvr (lv_at hl 5 rfl) (lvr (lv_at hl 0 rfl) (lvn hl)))))))
              · have c_11 : ¬ (4 ≤ sd) := fun h => c_11 ((nI_leI (a := 4) (b := sd) (by omega) (by omega)).mpr h)
                refine lv_iload hx hb dX2_reachFrom_58 (lv_at hl 6 rfl) ?_
                refine lv_iload hx hb dX2_reachFrom_60 (lv_at hl 7 rfl) ?_
                refine zSP E hs lkX2_51 [] (c_X0_behind l x ar1 fd ce sd (by omega) (by omega)) ⟨Nat.le_of_ble_eq_true rfl, Nat.le_of_ble_eq_true rfl⟩ rfl hl.1 (Nat.le_of_ble_eq_true rfl) rfl dX2_reachFrom_62 (fun r_12 H locs hp_13 hs => ?_)
                subst hp_13
                refine lv_istore (lv' := [(8, .int (nb ce sd)), (0, .ref (xa x 95)), (1, .int (nI i)), (2, .ref (xa x k)), (3, .int v), (4, .int (nI wt)), (5, .int (nI t)), (6, .int (nI ce)), (7, .int (nI sd))]) hx hb dX2_reachFrom_65 hl (by decide) rfl (fun ls hl => ?_)
                rcases nb_or ce hce sd (by omega) with ⟨d, hd, ed⟩ | ed
                · rw [ed] at hl
                  refine lv_aload_n hx hb dX2_reachFrom_67 rfl (lv_at hl 3 rfl) ?_
                  refine lv_iload hx hb dX2_reachFrom_68 (lv_at hl 0 rfl) ?_
                  refine zVP E hs lkX2_40 [] (c_X3_at l x k 36 hr ar1 fd (nI d)) (kd_lt hr.1 (by decide)) (sh2 hr.1) rfl ⟨Nat.le_of_ble_eq_true rfl, Nat.le_of_ble_eq_true rfl⟩ rfl hl.1 (Nat.le_of_ble_eq_true rfl) rfl dX2_reachFrom_70 (fun r_14 H locs hp_15 hs => ?_)
                  subst hp_15
                  refine tp (b := ar1 (k + 1) d) (rowAt_n (by omega) (by decide)) ?_
                  refine tp (b := ar (k + 1) d) (by rw [hJ (k + 1) (by omega) (by omega)]) ?_
                  refine lv_iload_n hx hb dX2_reachFrom_73 rfl (lv_at hl 4 rfl) ?_
                  refine lv_icmp_ne (tgt := 113) hx hb dX2_reachFrom_74 (by decide) (fun c_16 => ?_) (fun c_16 => ?_)
                  · refine lv_iinc (v := nI (sd + 1)) (lv' := [(7, .int (nI (sd + 1))), (8, .int (nI d)), (0, .ref (xa x 95)), (1, .int (nI i)), (2, .ref (xa x k)), (3, .int v), (4, .int (nI wt)), (5, .int (nI t)), (6, .int (nI ce))]) hx hb dX2_reachFrom_113 hl (k := 8) rfl (nI_inc _) (by decide) rfl (fun ls hl => ?_)
                    refine lv_goto (tgt := 52) hx hb dX2_reachFrom_116 (by decide) ?_
                    exact ih_10 (sd + 1) wt ar1 (by omega) (by omega) (by omega) hJ hB (dn_s hD hd ed (fun z => absurd z c_16)) hq (hi1) _ _ _ hs (lvr (lv_at hl 2 rfl) (lvr (lv_at hl 3 rfl) (lvr (lv_at hl 4 rfl) (lvr (lv_at hl 5 rfl) (lvr (lv_at hl 6 rfl) (lvr (lv_at hl 7 rfl) (lvr (lv_at hl 8 rfl) (lvr (lv_at hl 0 rfl) (lvn hl)))))))))
                  · refine lv_aload_n hx hb dX2_reachFrom_77 rfl (lv_at hl 1 rfl) ?_
                    refine zg1 E hs (k := 95) rfl 0 (by decide) rfl q_121 dX2_reachFrom_78 ?_
                    refine lv_iload hx hb dX2_reachFrom_81 (lv_at hl 0 rfl) ?_
                    refine zVP E hs lkX2_40 [] (c_X3_at l x 96 36 ro_96 ar1 fd (nI d)) (by decide) (sh2 rfl) rfl ⟨Nat.le_of_ble_eq_true rfl, Nat.le_of_ble_eq_true rfl⟩ rfl hl.1 (Nat.le_of_ble_eq_true rfl) rfl dX2_reachFrom_83 (fun r_17 H locs hp_18 hs => ?_)
                    subst hp_18
                    refine tp (b := ar1 97 d) (rowAt_n (by omega) (by decide)) ?_
                    refine lv_if_ne (tgt := 113) hx hb dX2_reachFrom_86 (by decide) (fun c_19 => ?_) (fun c_19 => ?_)
                    · refine lv_iinc (v := nI (sd + 1)) (lv' := [(7, .int (nI (sd + 1))), (8, .int (nI d)), (0, .ref (xa x 95)), (1, .int (nI i)), (2, .ref (xa x k)), (3, .int v), (4, .int (nI wt)), (5, .int (nI t)), (6, .int (nI ce))]) hx hb dX2_reachFrom_113 hl (k := 8) rfl (nI_inc _) (by decide) rfl (fun ls hl => ?_)
                      refine lv_goto (tgt := 52) hx hb dX2_reachFrom_116 (by decide) ?_
                      exact ih_10 (sd + 1) wt ar1 (by omega) (by omega) (by omega) hJ hB (dn_s hD hd ed (fun _ => c_19)) hq (hi1) _ _ _ hs (lvr (lv_at hl 2 rfl) (lvr (lv_at hl 3 rfl) (lvr (lv_at hl 4 rfl) (lvr (lv_at hl 5 rfl) (lvr (lv_at hl 6 rfl) (lvr (lv_at hl 7 rfl) (lvr (lv_at hl 8 rfl) (lvr (lv_at hl 0 rfl) (lvn hl)))))))))
                    · have hwt : wt < 36 := bi_lt hB hd c_19
                      refine lv_aload_n hx hb dX2_reachFrom_89 rfl (lv_at hl 1 rfl) ?_
                      refine zg1 E hs (k := 95) rfl 0 (by decide) rfl q_121 dX2_reachFrom_90 ?_
                      refine lv_iload hx hb dX2_reachFrom_93 (lv_at hl 0 rfl) ?_
                      refine lv_iconst (v := nI 1) hx hb dX2_reachFrom_95 (by decide) ?_
                      refine zVV E hs lkX2_48 [] (c_X3_put l x 96 36 ro_96 ar1 fd (nI d) (nI 1)) (by decide) (sh2 rfl) rfl ⟨Nat.le_of_ble_eq_true rfl, Nat.le_of_ble_eq_true rfl⟩ rfl hl.1 (Nat.le_of_ble_eq_true rfl) rfl dX2_reachFrom_96 (fun arr_20 fdr_20 H locs hp_21 hs => ?_)
                      rw [hp_21.1, hp_21.2] at hs
                      rw [rowPut_n (j := d) (by omega) (by decide)] at hs
                      refine lv_aload_n hx hb dX2_reachFrom_99 rfl (lv_at hl 1 rfl) ?_
                      refine zg1 E hs (k := 95) rfl 1 (by decide) rfl q_122 dX2_reachFrom_100 ?_
                      refine lv_iload hx hb dX2_reachFrom_103 (lv_at hl 5 rfl) ?_
                      refine lv_iload hx hb dX2_reachFrom_105 (lv_at hl 0 rfl) ?_
                      refine zVV E hs lkX2_48 [] (c_X3_put l x 98 36 ro_98 (zu ar1 97 (zu (ar1 97) d (nI 1))) fd (nI wt) (nI d)) (by decide) (sh2 rfl) rfl ⟨Nat.le_of_ble_eq_true rfl, Nat.le_of_ble_eq_true rfl⟩ rfl hl.1 (Nat.le_of_ble_eq_true rfl) rfl dX2_reachFrom_107 (fun arr_22 fdr_22 H locs hp_23 hs => ?_)
                      rw [hp_23.1, hp_23.2] at hs
                      rw [rowPut_n (j := wt) (by omega) (by decide)] at hs
                      refine lv_iinc (v := nI (wt + 1)) (lv' := [(4, .int (nI (wt + 1))), (8, .int (nI d)), (0, .ref (xa x 95)), (1, .int (nI i)), (2, .ref (xa x k)), (3, .int v), (5, .int (nI t)), (6, .int (nI ce)), (7, .int (nI sd))]) hx hb dX2_reachFrom_110 hl (k := 5) rfl (nI_inc _) (by decide) rfl (fun ls hl => ?_)
                      refine lv_iinc (v := nI (sd + 1)) (lv' := [(7, .int (nI (sd + 1))), (4, .int (nI (wt + 1))), (8, .int (nI d)), (0, .ref (xa x 95)), (1, .int (nI i)), (2, .ref (xa x k)), (3, .int v), (5, .int (nI t)), (6, .int (nI ce))]) hx hb dX2_reachFrom_113 hl (k := 8) rfl (nI_inc _) (by decide) rfl (fun ls hl => ?_)
                      refine lv_goto (tgt := 52) hx hb dX2_reachFrom_116 (by decide) ?_
                      exact ih_10 (sd + 1) (wt + 1) (zu (zu ar1 97 (zu (ar1 97) d (nI 1))) 99 (zu ((zu ar1 97 (zu (ar1 97) d (nI 1))) 99) wt (nI d))) (by omega) (by omega) (by omega) ((hJ.z7 _).z9 _) (by rw [zu_n _ _ (show 97 ≠ 99 by decide), zu_s, zu_s, zu_n _ _ (show 99 ≠ 97 by decide)]; exact bi_add hB htw hce hRC (by omega) hd ed c_16 c_19) (by rw [zu_n _ _ (show 97 ≠ 99 by decide), zu_s]; exact dn_p hD hd ed) (by rw [zu_s, zu_n _ _ (by omega), zu_n _ _ (by decide)]; exact hq) (by rw [zu_n _ _ (show 97 ≠ 99 by decide), zu_s]; exact n0_put hi1) _ _ _ hs (lvr (lv_at hl 3 rfl) (lvr (lv_at hl 4 rfl) (lvr (lv_at hl 5 rfl) (lvr (lv_at hl 6 rfl) (lvr (lv_at hl 1 rfl) (lvr (lv_at hl 7 rfl) (lvr (lv_at hl 8 rfl) (lvr (lv_at hl 0 rfl) (lvn hl)))))))))
                · rw [ed] at hl
                  refine lv_aload_n hx hb dX2_reachFrom_67 rfl (lv_at hl 3 rfl) ?_
                  refine lv_iload hx hb dX2_reachFrom_68 (lv_at hl 0 rfl) ?_
                  refine zVP E hs lkX2_40 [] (c_X3_at l x k 36 hr ar1 fd (-1)) (kd_lt hr.1 (by decide)) (sh2 hr.1) rfl ⟨Nat.le_of_ble_eq_true rfl, Nat.le_of_ble_eq_true rfl⟩ rfl hl.1 (Nat.le_of_ble_eq_true rfl) rfl dX2_reachFrom_70 (fun r_24 H locs hp_25 hs => ?_)
                  subst hp_25
                  refine tp (b := (-1)) rowAt_m ?_
                  refine lv_iload_n hx hb dX2_reachFrom_73 rfl (lv_at hl 4 rfl) ?_
                  refine lv_icmp_ne (tgt := 113) hx hb dX2_reachFrom_74 (by decide) (fun c_26 => ?_) (fun c_26 => ?_)
                  · refine lv_iinc (v := nI (sd + 1)) (lv' := [(7, .int (nI (sd + 1))), (8, .int (-1)), (0, .ref (xa x 95)), (1, .int (nI i)), (2, .ref (xa x k)), (3, .int v), (4, .int (nI wt)), (5, .int (nI t)), (6, .int (nI ce))]) hx hb dX2_reachFrom_113 hl (k := 8) rfl (nI_inc _) (by decide) rfl (fun ls hl => ?_)
                    refine lv_goto (tgt := 52) hx hb dX2_reachFrom_116 (by decide) ?_
                    exact ih_10 (sd + 1) wt ar1 (by omega) (by omega) (by omega) hJ hB (dn_m hD ed) hq (hi1) _ _ _ hs (lvr (lv_at hl 2 rfl) (lvr (lv_at hl 3 rfl) (lvr (lv_at hl 4 rfl) (lvr (lv_at hl 5 rfl) (lvr (lv_at hl 6 rfl) (lvr (lv_at hl 7 rfl) (lvr (lv_at hl 8 rfl) (lvr (lv_at hl 0 rfl) (lvn hl)))))))))
                  · refine lv_aload_n hx hb dX2_reachFrom_77 rfl (lv_at hl 1 rfl) ?_
                    refine zg1 E hs (k := 95) rfl 0 (by decide) rfl q_121 dX2_reachFrom_78 ?_
                    refine lv_iload hx hb dX2_reachFrom_81 (lv_at hl 0 rfl) ?_
                    refine zVP E hs lkX2_40 [] (c_X3_at l x 96 36 ro_96 ar1 fd (-1)) (by decide) (sh2 rfl) rfl ⟨Nat.le_of_ble_eq_true rfl, Nat.le_of_ble_eq_true rfl⟩ rfl hl.1 (Nat.le_of_ble_eq_true rfl) rfl dX2_reachFrom_83 (fun r_27 H locs hp_28 hs => ?_)
                    subst hp_28
                    refine tp (b := (-1)) rowAt_m ?_
                    refine lv_if_ne (tgt := 113) hx hb dX2_reachFrom_86 (by decide) (fun _ => ?_) (fun h => absurd h (by decide))
                    refine lv_iinc (v := nI (sd + 1)) (lv' := [(7, .int (nI (sd + 1))), (8, .int (-1)), (0, .ref (xa x 95)), (1, .int (nI i)), (2, .ref (xa x k)), (3, .int v), (4, .int (nI wt)), (5, .int (nI t)), (6, .int (nI ce))]) hx hb dX2_reachFrom_113 hl (k := 8) rfl (nI_inc _) (by decide) rfl (fun ls hl => ?_)
                    refine lv_goto (tgt := 52) hx hb dX2_reachFrom_116 (by decide) ?_
                    exact ih_10 (sd + 1) wt ar1 (by omega) (by omega) (by omega) hJ hB (dn_m hD ed) hq (hi1) _ _ _ hs (lvr (lv_at hl 2 rfl) (lvr (lv_at hl 3 rfl) (lvr (lv_at hl 4 rfl) (lvr (lv_at hl 5 rfl) (lvr (lv_at hl 6 rfl) (lvr (lv_at hl 7 rfl) (lvr (lv_at hl 8 rfl) (lvr (lv_at hl 0 rfl) (lvn hl)))))))))
          exact L_10 (_ + 1) 0 wt ar1 (Nat.lt_succ_self _) (by omega) (by omega) hJ hB dn_0 eqt hi1 _ _ _ hs (lvr (lv_at hl 2 rfl) (lvr (lv_at hl 3 rfl) (lvr (lv_at hl 4 rfl) (lvr (lv_at hl 5 rfl) (lvr (lv_at hl 6 rfl) (lvr (lv_at hl 7 rfl) (lvr (lv_at hl 1 rfl) (lvr (lv_at hl 0 rfl) (lvn hl)))))))))
  exact L_5 (_ + 1) 0 1 (zu (zu ar 97 (zu (ar 97) i (nI 1))) 99 (zu ((zu ar 97 (zu (ar 97) i (nI 1))) 99) 0 (nI i))) (Nat.lt_succ_self _) (by omega) (((JQ.rf ar).z7 _).z9 _) (by rw [zu_n _ _ (show 97 ≠ 99 by decide), zu_s, zu_s, zu_n _ _ (show 99 ≠ 97 by decide)]; exact bi_0 hi hg0) (by rw [zu_n _ _ (show 97 ≠ 99 by decide), zu_s, zu_s]; exact one_n0) _ _ _ hs (lvr (lv_at hl 2 rfl) (lvr (lv_at hl 3 rfl) (lvr (lv_at hl 4 rfl) (lvr (lv_at hl 5 rfl) (lvr (lv_at hl 1 rfl) (lvr (lv_at hl 0 rfl) (lvn hl)))))))

set_option maxHeartbeats 4000000 in
set_option maxRecDepth 100000 in
/-- Judge.pieces -/
theorem c_X2_pieces (l : Launch) (x : CT) (k : Nat) (hr : RO k 36) (h96 : k ≠ 96) (h98 : k ≠ 98) (ar fd : AR) (v : Int32) : CI l yX2_pieces cX2_pieces 5 (some .int) 2 50 x [.ref (xa x 95), .ref (xa x k), .int v] ar fd (fun r ar' fd' => r = nI (pcN (ar (k + 1)) v 36) ∧ JQ ar ar' ∧ fd' = fd) := by
  refine zsI (own := RX2) rfl (by decide +kernel) (Nat.le_of_ble_eq_true rfl) ?_
  intro p e s m below meth c ls E hs hl
  have hx := E.1
  have hb := E.2.1
  have hl : lv_has ls 5 [(0, .ref (xa x 95)), (1, .ref (xa x k)), (2, .int v)] := hl
  refine lv_aload_n hx hb dX2_pieces_0 rfl (lv_at hl 0 rfl) ?_
  refine zg1 E hs (k := 95) rfl 0 (by decide) rfl q_121 dX2_pieces_1 ?_
  refine lv_iconst (v := nI 0) hx hb dX2_pieces_4 (by decide) ?_
  refine zVV E hs lkX2_36 [] (c_X3_fill l x 96 36 ro_96 ar fd (nI 0)) (by decide) (sh2 rfl) rfl ⟨Nat.le_of_ble_eq_true rfl, Nat.le_of_ble_eq_true rfl⟩ rfl hl.1 (Nat.le_of_ble_eq_true rfl) rfl dX2_pieces_5 (fun arr_1 fdr_1 H locs hp_2 hs => ?_)
  rw [hp_2.1, hp_2.2] at hs
  refine lv_iconst (v := nI 0) hx hb dX2_pieces_8 (by decide) ?_
  refine lv_istore_n (lv' := [(3, .int (nI 0)), (0, .ref (xa x 95)), (1, .ref (xa x k)), (2, .int v)]) hx hb dX2_pieces_9 rfl hl (by decide) rfl (fun ls hl => ?_)
  refine lv_iconst (v := nI 0) hx hb dX2_pieces_10 (by decide) ?_
  refine lv_istore (lv' := [(4, .int (nI 0)), (3, .int (nI 0)), (0, .ref (xa x 95)), (1, .ref (xa x k)), (2, .int v)]) hx hb dX2_pieces_11 hl (by decide) rfl (fun ls hl => ?_)
  have L_3 : ∀ (mm : Nat) (i : Nat) (ar1 : AR), (36 - i) < mm → (i ≤ 36) → (JQ ar ar1) → (∀ d, d < 36 → (¬ ar1 97 d = 0 ↔ SEEN (ar (k + 1)) v i d)) → ∀ (H : Heap) (locs : List Loc) (ls : Array Slot), ST x (AA x) s.heap ar1 fd H locs → lv_has ls 5 [(0, .ref (xa x 95)), (1, .ref (xa x k)), (2, .int v), (3, .int (nI (pcN (ar (k + 1)) v i))), (4, .int (nI i))] → W p l e (rmZ 2 50) s m ([.ref (xa x 95), .ref (xa x k), .int v] : List Value).toArray below meth c H locs 0 0 (QI below x [.ref (xa x 95), .ref (xa x k), .int v] s (fun r ar' fd' => r = nI (pcN (ar (k + 1)) v 36) ∧ JQ ar ar' ∧ fd' = fd)) (F0 m 13 ls []) := by
    intro mm
    induction mm with
    | zero => intro i ar1 hmu; exact absurd hmu (Nat.not_lt_zero _)
    | succ mm ih_3 =>
      intro i ar1 hmu hi hJ hS H locs ls hs hl
      refine lv_iload hx hb dX2_pieces_13 (lv_at hl 4 rfl) ?_
      refine lv_bipush (v := nI 36) hx hb dX2_pieces_15 (by decide) ?_
      refine lv_icmp_ge (tgt := 59) hx hb dX2_pieces_17 (by decide) (fun c_4 => ?_) (fun c_4 => ?_)
      · have c_4 : 36 ≤ i := (nI_leI (a := 36) (b := i) (by omega) (by omega)).mp c_4
        refine lv_iload_n hx hb dX2_pieces_59 rfl (lv_at hl 3 rfl) ?_
        exact zeI E hs ⟨by rw [show i = 36 by omega], hJ, rfl⟩ dX2_pieces_60
      · have c_4 : ¬ (36 ≤ i) := fun h => c_4 ((nI_leI (a := 36) (b := i) (by omega) (by omega)).mpr h)
        refine lv_aload_n hx hb dX2_pieces_20 rfl (lv_at hl 1 rfl) ?_
        refine lv_iload hx hb dX2_pieces_21 (lv_at hl 4 rfl) ?_
        refine zVP E hs lkX2_40 [] (c_X3_at l x k 36 hr ar1 fd (nI i)) (kd_lt hr.1 (by decide)) (sh2 hr.1) rfl ⟨Nat.le_of_ble_eq_true rfl, Nat.le_of_ble_eq_true rfl⟩ rfl hl.1 (Nat.le_of_ble_eq_true rfl) rfl dX2_pieces_23 (fun r_5 H locs hp_6 hs => ?_)
        subst hp_6
        refine tp (b := ar1 (k + 1) i) (rowAt_n (by omega) (by decide)) ?_
        refine tp (b := ar (k + 1) i) (by rw [hJ (k + 1) (by omega) (by omega)]) ?_
        refine lv_iload_n hx hb dX2_pieces_26 rfl (lv_at hl 2 rfl) ?_
        refine lv_icmp_ne (tgt := 53) hx hb dX2_pieces_27 (by decide) (fun c_7 => ?_) (fun c_7 => ?_)
        · refine lv_iinc (v := nI (i + 1)) (lv' := [(4, .int (nI (i + 1))), (0, .ref (xa x 95)), (1, .ref (xa x k)), (2, .int v), (3, .int (nI (pcN (ar (k + 1)) v i)))]) hx hb dX2_pieces_53 hl (k := 4) rfl (nI_inc _) (by decide) rfl (fun ls hl => ?_)
          refine lv_goto (tgt := 13) hx hb dX2_pieces_56 (by decide) ?_
          exact ih_3 (i + 1) ar1 (by omega) (by omega) hJ (fun d hd => (hS d hd).trans (seen_n c_7).symm) _ _ _ hs (lvr (lv_at hl 1 rfl) (lvr (lv_at hl 2 rfl) (lvr (lv_at hl 3 rfl) (lvc (lv_at hl 4 rfl) (by unfold pcN; rw [ct_f (fun h => c_7 h.1)]) (lvr (lv_at hl 0 rfl) (lvn hl))))))
        · refine lv_aload_n hx hb dX2_pieces_30 rfl (lv_at hl 0 rfl) ?_
          refine zg1 E hs (k := 95) rfl 0 (by decide) rfl q_121 dX2_pieces_31 ?_
          refine lv_iload hx hb dX2_pieces_34 (lv_at hl 4 rfl) ?_
          refine zVP E hs lkX2_40 [] (c_X3_at l x 96 36 ro_96 ar1 fd (nI i)) (by decide) (sh2 rfl) rfl ⟨Nat.le_of_ble_eq_true rfl, Nat.le_of_ble_eq_true rfl⟩ rfl hl.1 (Nat.le_of_ble_eq_true rfl) rfl dX2_pieces_36 (fun r_8 H locs hp_9 hs => ?_)
          subst hp_9
          refine tp (b := ar1 97 i) (rowAt_n (by omega) (by decide)) ?_
          refine lv_if_ne (tgt := 53) hx hb dX2_pieces_39 (by decide) (fun c_10 => ?_) (fun c_10 => ?_)
          · refine lv_iinc (v := nI (i + 1)) (lv' := [(4, .int (nI (i + 1))), (0, .ref (xa x 95)), (1, .ref (xa x k)), (2, .int v), (3, .int (nI (pcN (ar (k + 1)) v i)))]) hx hb dX2_pieces_53 hl (k := 4) rfl (nI_inc _) (by decide) rfl (fun ls hl => ?_)
            refine lv_goto (tgt := 13) hx hb dX2_pieces_56 (by decide) ?_
            exact ih_3 (i + 1) ar1 (by omega) (by omega) hJ (fun d hd => (hS d hd).trans (seen_o ((hS i (by omega)).mp c_10)).symm) _ _ _ hs (lvr (lv_at hl 1 rfl) (lvr (lv_at hl 2 rfl) (lvr (lv_at hl 3 rfl) (lvc (lv_at hl 4 rfl) (by unfold pcN; rw [ct_f (fun h => h.2 ((hS i (by omega)).mp c_10))]) (lvr (lv_at hl 0 rfl) (lvn hl))))))
          · refine lv_iinc (v := nI (pcN (ar (k + 1)) v i + 1)) (lv' := [(3, .int (nI (pcN (ar (k + 1)) v i + 1))), (0, .ref (xa x 95)), (1, .ref (xa x k)), (2, .int v), (4, .int (nI i))]) hx hb dX2_pieces_42 hl (k := 3) rfl (nI_inc _) (by decide) rfl (fun ls hl => ?_)
            refine lv_aload_n hx hb dX2_pieces_45 rfl (lv_at hl 1 rfl) ?_
            refine lv_iload hx hb dX2_pieces_46 (lv_at hl 4 rfl) ?_
            refine lv_aload_n hx hb dX2_pieces_48 rfl (lv_at hl 2 rfl) ?_
            refine lv_iload_n hx hb dX2_pieces_49 rfl (lv_at hl 3 rfl) ?_
            refine zVV E hs lkX2_44 [] (c_X2_reachFrom l x k hr (by omega) (by omega) ar1 fd i (by omega) v c_10 (by rw [hJ (k + 1) (by omega) (by omega)]; intro c1 q1 q2 sd q3 d q4 q5 q6; exact (hS d q4).mpr (seen_cls _ _ i c1 q1 ((hS c1 q1).mp q2) sd q3 d q4 q5 q6))) (by decide) (sh1 rfl) rfl ⟨Nat.le_of_ble_eq_true rfl, Nat.le_of_ble_eq_true rfl⟩ rfl hl.1 (Nat.le_of_ble_eq_true rfl) rfl dX2_pieces_50 (fun arr_11 fdr_11 H locs hp_12 hs => ?_)
            rw [hp_12.1] at hs
            refine lv_iinc (v := nI (i + 1)) (lv' := [(4, .int (nI (i + 1))), (3, .int (nI (pcN (ar (k + 1)) v i + 1))), (0, .ref (xa x 95)), (1, .ref (xa x k)), (2, .int v)]) hx hb dX2_pieces_53 hl (k := 4) rfl (nI_inc _) (by decide) rfl (fun ls hl => ?_)
            refine lv_goto (tgt := 13) hx hb dX2_pieces_56 (by decide) ?_
            exact ih_3 (i + 1) arr_11 (by omega) (by omega) (hJ.tr hp_12.2.1) (fun d hd => (hp_12.2.2 d hd).trans (Iff.trans (by rw [hJ (k + 1) (by omega) (by omega), hS d hd]) (seen_y c_7).symm)) _ _ _ hs (lvr (lv_at hl 2 rfl) (lvr (lv_at hl 3 rfl) (lvr (lv_at hl 4 rfl) (lvc (lv_at hl 1 rfl) (by unfold pcN; rw [ct_t ⟨c_7, fun h => (hS i (by omega)).mpr h c_10⟩]) (lvr (lv_at hl 0 rfl) (lvn hl))))))
  exact L_3 (_ + 1) 0 (zu ar 97 (fun _ => nI 0)) (Nat.lt_succ_self _) (by omega) ((JQ.rf ar).z7 _) (fun d hd => by rw [zu_s]; exact ⟨fun h => absurd nI_0 h, fun h => absurd h seen_0⟩) _ _ _ hs (lvr (lv_at hl 2 rfl) (lvr (lv_at hl 3 rfl) (lvr (lv_at hl 4 rfl) (lvc (lv_at hl 1 rfl) rfl (lvr (lv_at hl 0 rfl) (lvn hl))))))

set_option maxHeartbeats 4000000 in
set_option maxRecDepth 100000 in
/-- Judge.notConnected -/
theorem c_X2_notConnected (l : Launch) (x : CT) (ar fd : AR) (w f : Nat) (hw : fd 1 7 = nI w) (hf : fd 1 8 = nI f) (hfw : f ≤ w) (hw9 : w ≤ 9) (hw2 : 2 ≤ w) : CI l yX2_notConnected cX2_notConnected 3 (some .int) 3 74 x [.ref (xa x 95), .ref (xa x 1)] ar fd (fun r ar' fd' => r = ncI ar w f ∧ JQ ar ar' ∧ fd' = fd) := by
  refine zsI (own := RX2) rfl (by decide +kernel) (Nat.le_of_ble_eq_true rfl) ?_
  intro p e s m below meth c ls E hs hl
  have hx := E.1
  have hb := E.2.1
  have hl : lv_has ls 3 [(0, .ref (xa x 95)), (1, .ref (xa x 1))] := hl
  refine lv_iconst (v := nI 0) hx hb dX2_notConnected_0 (by decide) ?_
  refine lv_istore_n (lv' := [(2, .int (nI 0)), (0, .ref (xa x 95)), (1, .ref (xa x 1))]) hx hb dX2_notConnected_1 rfl hl (by decide) rfl (fun ls hl => ?_)
  have L_1 : ∀ (mm : Nat) (i : Nat) (ar1 : AR), (w - f - i) < mm → (i ≤ w - f) → (JQ ar ar1) → (ncI ar w f = ffst (fun p => ¬ pcN (ar 7) (nI p) 36 = 1) (w - f - i) i) → ∀ (H : Heap) (locs : List Loc) (ls : Array Slot), ST x (AA x) s.heap ar1 fd H locs → lv_has ls 3 [(0, .ref (xa x 95)), (1, .ref (xa x 1)), (2, .int (nI i))] → W p l e (rmZ 3 74) s m ([.ref (xa x 95), .ref (xa x 1)] : List Value).toArray below meth c H locs 0 0 (QI below x [.ref (xa x 95), .ref (xa x 1)] s (fun r ar' fd' => r = ncI ar w f ∧ JQ ar ar' ∧ fd' = fd)) (F0 m 2 ls []) := by
    intro mm
    induction mm with
    | zero => intro i ar1 hmu; exact absurd hmu (Nat.not_lt_zero _)
    | succ mm ih_1 =>
      intro i ar1 hmu hi hJ h1 H locs ls hs hl
      refine lv_iload_n hx hb dX2_notConnected_2 rfl (lv_at hl 2 rfl) ?_
      refine lv_aload_n hx hb dX2_notConnected_3 rfl (lv_at hl 1 rfl) ?_
      refine zVP E hs lkX2_66 [.int (nI i)] (c_X4_left l x ar1 fd) (by decide) (sh3 rfl) rfl ⟨Nat.le_of_ble_eq_true rfl, Nat.le_of_ble_eq_true rfl⟩ rfl hl.1 (Nat.le_of_ble_eq_true rfl) rfl dX2_notConnected_4 (fun r_2 H locs hp_3 hs => ?_)
      subst hp_3
      refine tp (b := nI (w - f)) (by rw [hw, hf, nI_sub hfw]) ?_
      refine lv_icmp_ge (tgt := 31) hx hb dX2_notConnected_7 (by decide) (fun c_4 => ?_) (fun c_4 => ?_)
      · have c_4 : w - f ≤ i := (nI_leI (a := w - f) (b := i) (by omega) (by omega)).mp c_4
        refine lv_iconst (v := (-1)) hx hb dX2_notConnected_31 (by decide) ?_
        exact zeI E hs ⟨(h1.trans (ffst_e (by omega))).symm, hJ, rfl⟩ dX2_notConnected_32
      · have c_4 : ¬ (w - f ≤ i) := fun h => c_4 ((nI_leI (a := w - f) (b := i) (by omega) (by omega)).mpr h)
        refine lv_aload_n hx hb dX2_notConnected_10 rfl (lv_at hl 0 rfl) ?_
        refine lv_aload_n hx hb dX2_notConnected_11 rfl (lv_at hl 1 rfl) ?_
        refine zg3 E hs (k := 1) rfl 2 (by decide) rfl q_41 dX2_notConnected_12 ?_
        refine lv_iload_n hx hb dX2_notConnected_15 rfl (lv_at hl 2 rfl) ?_
        refine zVI E hs lkX2_76 [] (c_X2_pieces l x 6 ro_6 (by decide) (by decide) ar1 fd (nI i)) (by decide) (sh1 rfl) rfl ⟨Nat.le_of_ble_eq_true rfl, Nat.le_of_ble_eq_true rfl⟩ rfl hl.1 (Nat.le_of_ble_eq_true rfl) rfl dX2_notConnected_16 (fun r_5 arr_5 fdr_5 H locs hp_6 hs => ?_)
        rw [hJ 7 (by decide) (by decide)] at hp_6
        rw [hp_6.2.2] at hs
        have hJ_r_5 := hp_6.2.1
        have hb_r_5 := pc_le (ar 7) (nI i) 36
        refine tp (b := nI (pcN (ar 7) (nI i) 36)) hp_6.1 ?_
        refine lv_iconst (v := nI 1) hx hb dX2_notConnected_19 (by decide) ?_
        refine lv_icmp_eq (tgt := 25) hx hb dX2_notConnected_20 (by decide) (fun c_7 => ?_) (fun c_7 => ?_)
        · have c_7 : pcN (ar 7) (nI i) 36 = 1 := (nI_eq (a := pcN (ar 7) (nI i) 36) (b := 1) (by omega) (by omega)).mp c_7
          refine lv_iinc (v := nI (i + 1)) (lv' := [(2, .int (nI (i + 1))), (0, .ref (xa x 95)), (1, .ref (xa x 1))]) hx hb dX2_notConnected_25 hl (k := 2) rfl (nI_inc _) (by decide) rfl (fun ls hl => ?_)
          refine lv_goto (tgt := 2) hx hb dX2_notConnected_28 (by decide) ?_
          exact ih_1 (i + 1) arr_5 (by omega) (by omega) (hJ.tr hJ_r_5) (h1.trans (ffst_f (by omega) (not_not_intro c_7))) _ _ _ hs (lvr (lv_at hl 1 rfl) (lvr (lv_at hl 2 rfl) (lvr (lv_at hl 0 rfl) (lvn hl))))
        · have c_7 : ¬ (pcN (ar 7) (nI i) 36 = 1) := fun h => c_7 ((nI_eq (a := pcN (ar 7) (nI i) 36) (b := 1) (by omega) (by omega)).mpr h)
          refine lv_iload_n hx hb dX2_notConnected_23 rfl (lv_at hl 2 rfl) ?_
          exact zeI E hs ⟨(h1.trans (ffst_t (by omega) c_7)).symm, hJ.tr hJ_r_5, rfl⟩ dX2_notConnected_24
  exact L_1 (_ + 1) 0 ar (Nat.lt_succ_self _) (by omega) (JQ.rf ar) rfl _ _ _ hs (lvr (lv_at hl 1 rfl) (lvr (lv_at hl 2 rfl) (lvr (lv_at hl 0 rfl) (lvn hl))))

set_option maxHeartbeats 4000000 in
set_option maxRecDepth 100000 in
/-- Judge.reason -/
theorem c_X2_reason (l : Launch) (x : CT) (ar fd : AR) (w f : Nat) (hw : fd 1 7 = nI w) (hf : fd 1 8 = nI f) (hfw : f ≤ w) (hw9 : w ≤ 9) (hw2 : 2 ≤ w) : CI l yX2_reason cX2_reason 2 (some .int) 4 96 x [.ref (xa x 95), .ref (xa x 1)] ar fd (fun r ar' fd' => r = rsnA ar w f ∧ JQ ar ar' ∧ fd' = fd) := by
  refine zsI (own := RX2) rfl (by decide +kernel) (Nat.le_of_ble_eq_true rfl) ?_
  intro p e s m below meth c ls E hs hl
  have hx := E.1
  have hb := E.2.1
  have hl : lv_has ls 2 [(0, .ref (xa x 95)), (1, .ref (xa x 1))] := hl
  refine lv_aload_n hx hb dX2_reason_0 rfl (lv_at hl 1 rfl) ?_
  refine zSP E hs lkX2_23 [] (c_X2_withoutPart l x ar fd) ⟨Nat.le_of_ble_eq_true rfl, Nat.le_of_ble_eq_true rfl⟩ rfl hl.1 (Nat.le_of_ble_eq_true rfl) rfl dX2_reason_1 (fun r_1 H locs hp_2 hs => ?_)
  subst hp_2
  refine lv_iconst (v := (-1)) hx hb dX2_reason_4 (by decide) ?_
  refine lv_icmp_eq (tgt := 10) hx hb dX2_reason_5 (by decide) (fun c_3 => ?_) (fun c_3 => ?_)
  · refine lv_aload_n hx hb dX2_reason_10 rfl (lv_at hl 1 rfl) ?_
    refine zSP E hs lkX2_27 [] (c_X2_ofOtherSize l x ar fd w f hw hf hfw hw9 hw2) ⟨Nat.le_of_ble_eq_true rfl, Nat.le_of_ble_eq_true rfl⟩ rfl hl.1 (Nat.le_of_ble_eq_true rfl) rfl dX2_reason_11 (fun r_4 H locs hp_5 hs => ?_)
    subst hp_5
    refine lv_iconst (v := (-1)) hx hb dX2_reason_14 (by decide) ?_
    refine lv_icmp_eq (tgt := 20) hx hb dX2_reason_15 (by decide) (fun c_6 => ?_) (fun c_6 => ?_)
    · refine lv_aload_n hx hb dX2_reason_20 rfl (lv_at hl 0 rfl) ?_
      refine lv_aload_n hx hb dX2_reason_21 rfl (lv_at hl 1 rfl) ?_
      refine zVI E hs lkX2_30 [] (c_X2_notConnected l x ar fd w f hw hf hfw hw9 hw2) (by decide) (sh1 rfl) rfl ⟨Nat.le_of_ble_eq_true rfl, Nat.le_of_ble_eq_true rfl⟩ rfl hl.1 (Nat.le_of_ble_eq_true rfl) rfl dX2_reason_22 (fun r_7 arr_7 fdr_7 H locs hp_8 hs => ?_)
      rw [hp_8.2.2] at hs
      have hJ_r_7 := hp_8.2.1
      refine tp (b := ncI ar w f) hp_8.1 ?_
      refine lv_iconst (v := (-1)) hx hb dX2_reason_25 (by decide) ?_
      refine lv_icmp_eq (tgt := 33) hx hb dX2_reason_26 (by decide) (fun c_9 => ?_) (fun c_9 => ?_)
      · refine lv_iconst (v := nI 0) hx hb dX2_reason_33 (by decide) ?_
        exact zeI E hs ⟨by unfold rsnA rsn; rw [iz_t c_3, iz_t c_6, iz_t c_9], hJ_r_7, rfl⟩ dX2_reason_34
      · refine lv_iconst (v := nI 3) hx hb dX2_reason_29 (by decide) ?_
        refine lv_goto (tgt := 34) hx hb dX2_reason_30 (by decide) ?_
        exact zeI E hs ⟨by unfold rsnA rsn; rw [iz_t c_3, iz_t c_6, iz_f c_9], hJ_r_7, rfl⟩ dX2_reason_34
    · refine lv_iconst (v := nI 2) hx hb dX2_reason_18 (by decide) ?_
      exact zeI E hs ⟨by unfold rsnA rsn; rw [iz_t c_3, iz_f c_6], JQ.rf ar, rfl⟩ dX2_reason_19
  · refine lv_iconst (v := nI 1) hx hb dX2_reason_8 (by decide) ?_
    exact zeI E hs ⟨by unfold rsnA rsn; rw [iz_f c_3], JQ.rf ar, rfl⟩ dX2_reason_9

set_option maxHeartbeats 4000000 in
set_option maxRecDepth 100000 in
/-- Judge.blamed -/
theorem c_X2_blamed (l : Launch) (x : CT) (ar fd : AR) (w f : Nat) (hw : fd 1 7 = nI w) (hf : fd 1 8 = nI f) (hfw : f ≤ w) (hw9 : w ≤ 9) (hw2 : 2 ≤ w) : CI l yX2_blamed cX2_blamed 2 (some .int) 5 117 x [.ref (xa x 95), .ref (xa x 1)] ar fd (fun r ar' fd' => r = blm ar w f ∧ JQ ar ar' ∧ fd' = fd) := by
  refine zsI (own := RX2) rfl (by decide +kernel) (Nat.le_of_ble_eq_true rfl) ?_
  intro p e s m below meth c ls E hs hl
  have hx := E.1
  have hb := E.2.1
  have hl : lv_has ls 2 [(0, .ref (xa x 95)), (1, .ref (xa x 1))] := hl
  refine lv_aload_n hx hb dX2_blamed_0 rfl (lv_at hl 0 rfl) ?_
  refine lv_aload_n hx hb dX2_blamed_1 rfl (lv_at hl 1 rfl) ?_
  refine zVI E hs lkX2_33 [] (c_X2_reason l x ar fd w f hw hf hfw hw9 hw2) (by decide) (sh1 rfl) rfl ⟨Nat.le_of_ble_eq_true rfl, Nat.le_of_ble_eq_true rfl⟩ rfl hl.1 (Nat.le_of_ble_eq_true rfl) rfl dX2_blamed_2 (fun r_1 arr_1 fdr_1 H locs hp_2 hs => ?_)
  rw [hp_2.2.2] at hs
  have hJ_r_1 := hp_2.2.1
  refine tp (b := rsnA ar w f) hp_2.1 ?_
  by_cases c_3 : rsnA ar w f = nI 1
  · refine lv_tableIn (off := 27) (tgt := 32) hx hb dX2_blamed_5 (by rw [c_3]; decide) (by rw [c_3]; decide) (by rw [c_3]; first | rfl | decide) (by decide) ?_
    refine lv_aload_n hx hb dX2_blamed_32 rfl (lv_at hl 1 rfl) ?_
    refine zSP E hs lkX2_23 [] (c_X2_withoutPart l x arr_1 fd) ⟨Nat.le_of_ble_eq_true rfl, Nat.le_of_ble_eq_true rfl⟩ rfl hl.1 (Nat.le_of_ble_eq_true rfl) rfl dX2_blamed_33 (fun r_4 H locs hp_5 hs => ?_)
    subst hp_5
    exact zeI E hs ⟨by unfold blm; rw [iz_t c_3, wpI_J hJ_r_1], hJ_r_1, rfl⟩ dX2_blamed_36
  by_cases c_6 : rsnA ar w f = nI 2
  · refine lv_tableIn (off := 32) (tgt := 37) hx hb dX2_blamed_5 (by rw [c_6]; decide) (by rw [c_6]; decide) (by rw [c_6]; first | rfl | decide) (by decide) ?_
    refine lv_aload_n hx hb dX2_blamed_37 rfl (lv_at hl 1 rfl) ?_
    refine zSP E hs lkX2_27 [] (c_X2_ofOtherSize l x arr_1 fd w f hw hf hfw hw9 hw2) ⟨Nat.le_of_ble_eq_true rfl, Nat.le_of_ble_eq_true rfl⟩ rfl hl.1 (Nat.le_of_ble_eq_true rfl) rfl dX2_blamed_38 (fun r_7 H locs hp_8 hs => ?_)
    subst hp_8
    exact zeI E hs ⟨by unfold blm; rw [iz_f c_3, iz_t c_6, osI_J hJ_r_1], hJ_r_1, rfl⟩ dX2_blamed_41
  by_cases c_9 : rsnA ar w f = nI 3
  · refine lv_tableIn (off := 37) (tgt := 42) hx hb dX2_blamed_5 (by rw [c_9]; decide) (by rw [c_9]; decide) (by rw [c_9]; first | rfl | decide) (by decide) ?_
    refine lv_aload_n hx hb dX2_blamed_42 rfl (lv_at hl 0 rfl) ?_
    refine lv_aload_n hx hb dX2_blamed_43 rfl (lv_at hl 1 rfl) ?_
    refine zVI E hs lkX2_30 [] (c_X2_notConnected l x arr_1 fd w f hw hf hfw hw9 hw2) (by decide) (sh1 rfl) rfl ⟨Nat.le_of_ble_eq_true rfl, Nat.le_of_ble_eq_true rfl⟩ rfl hl.1 (Nat.le_of_ble_eq_true rfl) rfl dX2_blamed_44 (fun r_10 arr_10 fdr_10 H locs hp_11 hs => ?_)
    rw [hp_11.2.2] at hs
    have hJ_r_10 := hp_11.2.1
    refine tp (b := ncI arr_1 w f) hp_11.1 ?_
    exact zeI E hs ⟨by unfold blm; rw [iz_f c_3, iz_f c_6, iz_t c_9, ncI_J hJ_r_1], hJ_r_1.tr hJ_r_10, rfl⟩ dX2_blamed_47
  refine lv_tableOut (tgt := 48) hx hb dX2_blamed_5 (sw3 (rsn_c _ _ _) c_3 c_6 c_9) (by decide) ?_
  refine lv_iconst (v := (-1)) hx hb dX2_blamed_48 (by decide) ?_
  exact zeI E hs ⟨by unfold blm; rw [iz_f c_3, iz_f c_6, iz_f c_9], hJ_r_1, rfl⟩ dX2_blamed_49
