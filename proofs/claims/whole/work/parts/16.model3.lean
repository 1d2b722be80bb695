
section RW9
variable {p : Program} {l : Launch} {e : Env} {R : Room} {s : State} {m : MethodId} {args : Array Value} {below : List Frame} {meth : Method} {c : Code} {H : Heap} {locs : List Loc} {cells slots : Nat} {Q : State → Prop}
variable {cc : ByteArray} {nL : Nat} {own : String} {rt : Option FieldType} {A0 : Nat → Prop} {x : CT} {H0 : Heap} {ar fd : AR} {pc : Nat} {ls : Array Slot} {rest : List Value}
theorem zast9 {v : Int32} (hv : vp_nar .boolean v = v) (E : EV p R s m args meth c cc nL own rt cells slots A0 x) (hs : ST x A0 H0 ar fd H locs) (k : Nat) {n j : Nat} (hk : kd k = 9) (hn : rl k = n) (hj : j < n) (hm : n < 2 ^ 31) (hdg : decode cc pc = .ok (.bastore, 1))
    (kk : ∀ (H : Heap) (locs : List Loc), ST x A0 H0 (zu ar k (zu (ar k) j v)) fd H locs → W p l e R s m args below meth c H locs cells slots Q (F0 m (pc + 1) ls rest)) : W p l e R s m args below meth c H locs cells slots Q (F0 m pc ls (.int v :: .int (nI j) :: .ref (xa x k) :: rest)) := by
  subst hn
  have h1 := kd_lt hk (by decide)
  refine va_zast E.1 E.2.1 E.K hs.1 (E.D ar fd) hs.2 k 2 ((wl_get h1).trans (by rw [sh9 hk])) rfl (vp_in_nI hj hm) hdg fun H1 locs1 hP _ hS => kk H1 locs1 ⟨?_, hS⟩
  rw [nI_clamp (by omega), hv, wl_setA (g := zu (ar k) j v) h1 (by rw [sh9 hk]; rfl)] at hP
  exact hP
end RW9
/-- what spreading does: seen before stays; no more than any closed set that has it; closed -/
def SPI (G : Nat → Int32) (v : Int32) (g g1 : Nat → Int32) : Prop := (∀ d, d < 36 → ¬ g d = 0 → ¬ g1 d = 0) ∧ ∀ T : Nat → Prop, CLS G v T → (∀ d, d < 36 → ¬ g d = 0 → T d) → ∀ d, d < 36 → ¬ g1 d = 0 → T d
def DNs (G : Nat → Int32) (v : Int32) (g1 : Nat → Int32) (c n : Nat) : Prop := G c = v → ¬ g1 c = 0 → ∀ s, s < n → ∀ d, d < 36 → nb c (pm s) = nI d → G d = v → ¬ g1 d = 0
theorem spi_0 {G : Nat → Int32} {v : Int32} {g : Nat → Int32} : SPI G v g g := ⟨fun _ _ h => h, fun _ _ h => h⟩
theorem spi_s {G : Nat → Int32} {v : Int32} {g g1 : Nat → Int32} {c s d : Nat} (h : SPI G v g g1) (hc : c < 36) (hs : s < 4) (hd : d < 36) (hn : nb c (pm s) = nI d) (hG : G d = v) (hg : ¬ g1 c = 0) : SPI G v g (zu g1 d (nI 1)) := by
  refine ⟨fun e he z => n0_put (h.1 e he z), fun T hT h0 e he z => ?_⟩
  by_cases q : e = d
  · subst q; exact hT c hc (h.2 T hT h0 c hc hg) (pm s) (pm_4 hs) e hd hn hG
  · rw [zu_n _ _ q] at z; exact h.2 T hT h0 e he z
theorem dns_0 {G : Nat → Int32} {v : Int32} {g1 : Nat → Int32} {c : Nat} : DNs G v g1 c 0 := fun _ _ s h => absurd h (Nat.not_lt_zero s)
theorem dns_m {G : Nat → Int32} {v : Int32} {g1 : Nat → Int32} {c s : Nat} (h : DNs G v g1 c s) (hn : nb c (pm s) = -1) : DNs G v g1 c (s + 1) := by
  intro a b s2 hs2 d hd hn2 hf
  by_cases e : s2 = s
  · subst e; exact absurd (hn2.symm.trans hn) (nI_nm (by omega))
  · exact h a b s2 (by omega) d hd hn2 hf
theorem dns_s {G : Nat → Int32} {v : Int32} {g1 : Nat → Int32} {c s d : Nat} (h : DNs G v g1 c s) (hd : d < 36) (hn : nb c (pm s) = nI d) (hz : G c = v → G d = v → ¬ g1 d = 0) : DNs G v g1 c (s + 1) := by
  intro a b s2 hs2 e he hn2 hf
  by_cases q : s2 = s
  · subst q
    have := (nI_eq (by omega) (by omega)).mp (hn2.symm.trans hn)
    subst this
    exact hz a hf
  · exact h a b s2 (by omega) e he hn2 hf
/-- behind spreading from i, what is seen is what the cells up to i have begun -/
theorem spr_end {G : Nat → Int32} {v : Int32} {g g1 : Nat → Int32} {i : Nat} (hi : i < 36) (hG : G i = v) (hS : ∀ d, d < 36 → (¬ g d = 0 ↔ SEEN G v i d ∨ d = i)) (hI : SPI G v g g1) (hC : ∀ c, c < 36 → DNs G v g1 c 4) : ∀ d, d < 36 → (¬ g1 d = 0 ↔ SEEN G v (i + 1) d) := by
  have up : ∀ d, d < 36 → ¬ g1 d = 0 → SEEN G v (i + 1) d := hI.2 _ (seen_cls G v (i + 1)) (fun d hd z => (seen_y hG).mpr (((hS d hd).mp z).elim Or.inl (fun e => Or.inr (by rw [e]; exact RC.rf i))))
  have inG : ∀ d, SEEN G v (i + 1) d → G d = v := by
    rintro d ⟨b, h1, h2, h3⟩
    exact h3 (fun y => G y = v) h2 (fun c hc hgc sd hs e he hn hf => hf)
  have clo : CLS G v (fun d => d < 36 ∧ ¬ g1 d = 0) := by
    rintro c hc ⟨-, hg⟩ sd hs d hd hn hf
    obtain ⟨t, ht, rfl⟩ := pm_on sd hs
    exact ⟨hd, hC c hc (inG c (up c hc hg)) hg t ht d hd hn hf⟩
  refine fun d hd => ⟨up d hd, fun z => ?_⟩
  rcases (seen_y hG).mp z with z | z
  · exact hI.1 d hd ((hS d hd).mpr (Or.inl z))
  · exact (z (fun y => y < 36 ∧ ¬ g1 y = 0) ⟨hi, hI.1 i hi ((hS i hi).mpr (Or.inr rfl))⟩ clo).2
/-- ten times what is to blame, and the reason -/
noncomputable def rmN (A : AR) (w f : Nat) : Nat := iz (wpI A = -1) (iz (osI A w f = -1) (iz (ncI A w f = -1) 0 (10 * (ncI A w f).toNatClampNeg + 3)) (10 * (osI A w f).toNatClampNeg + 2)) (10 * (wpI A).toNatClampNeg + 1)
theorem ffst_form (P : Nat → Prop) : ∀ m i, ffst P m i = -1 ∨ ∃ j, j < i + m ∧ ffst P m i = nI j
  | 0, _ => Or.inl rfl
  | m + 1, i => by
    by_cases h : P i
    · exact Or.inr ⟨i, by omega, iz_t h⟩
    · rw [show ffst P (m + 1) i = ffst P m (i + 1) from iz_f h]
      rcases ffst_form P m (i + 1) with q | ⟨j, a, b⟩
      · exact Or.inl q
      · exact Or.inr ⟨j, by omega, b⟩
theorem rm_all (A : AR) {w f : Nat} (hw : w ≤ 9) : rmN A w f < 400 ∧ nI (rmN A w f % 10) = rsnA A w f ∧ (rmN A w f = 0 ↔ rsnA A w f = nI 0) ∧ (¬ rmN A w f = 0 → nI (rmN A w f / 10) = nnI (blm A w f)) ∧ (rmN A w f = 0 → nnI (blm A w f) = -5) := by
  have n1 : ∀ j : Nat, j < 36 → (nI j).toNatClampNeg = j := fun j hj => nI_clamp (by omega)
  rcases ffst_form (fun c => A 9 c = -1 ∧ A 7 c = -1) 36 0 with h | ⟨j, hj, h⟩
  · have h : wpI A = -1 := h
    rcases ffst_form (fun p => ¬ ct (fun i => A 7 i = nI p) 36 = 36 / w) (w - f) 0 with h2 | ⟨j, hj, h2⟩
    · have h2 : osI A w f = -1 := h2
      rcases ffst_form (fun p => ¬ pcN (A 7) (nI p) 36 = 1) (w - f) 0 with h3 | ⟨j, hj, h3⟩
      · have h3 : ncI A w f = -1 := h3
        have e1 : rmN A w f = 0 := by unfold rmN; rw [iz_t h, iz_t h2, iz_t h3]
        have e2 : rsnA A w f = nI 0 := by unfold rsnA rsn; rw [iz_t h, iz_t h2, iz_t h3]
        have e3 : blm A w f = -1 := by unfold blm; rw [e2, iz_f (by decide), iz_f (by decide), iz_f (by decide)]
        rw [e1, e2, e3]
        exact ⟨by decide, rfl, ⟨fun _ => rfl, fun _ => rfl⟩, fun q => absurd rfl q, fun _ => nnI_m⟩
      · have h3 : ncI A w f = nI j := h3
        have h4 : ¬ ncI A w f = -1 := by rw [h3]; exact nI_nm (by omega)
        have e1 : rmN A w f = 10 * j + 3 := by unfold rmN; rw [iz_t h, iz_t h2, iz_f h4, h3, n1 j (by omega)]
        have e2 : rsnA A w f = nI 3 := by unfold rsnA rsn; rw [iz_t h, iz_t h2, iz_f h4]
        have e3 : blm A w f = nI j := by unfold blm; rw [e2, iz_f (by decide), iz_f (by decide), iz_t rfl, h3]
        rw [e1, e2, e3]
        exact ⟨by omega, by rw [show (10 * j + 3) % 10 = 3 by omega], ⟨fun q => absurd q (by omega), fun q => absurd q (by decide)⟩, fun _ => by rw [nnI_n (by omega), show (10 * j + 3) / 10 = j by omega], fun q => absurd q (by omega)⟩
    · have h2 : osI A w f = nI j := h2
      have h4 : ¬ osI A w f = -1 := by rw [h2]; exact nI_nm (by omega)
      have e1 : rmN A w f = 10 * j + 2 := by unfold rmN; rw [iz_t h, iz_f h4, h2, n1 j (by omega)]
      have e2 : rsnA A w f = nI 2 := by unfold rsnA rsn; rw [iz_t h, iz_f h4]
      have e3 : blm A w f = nI j := by unfold blm; rw [e2, iz_f (by decide), iz_t rfl, h2]
      rw [e1, e2, e3]
      exact ⟨by omega, by rw [show (10 * j + 2) % 10 = 2 by omega], ⟨fun q => absurd q (by omega), fun q => absurd q (by decide)⟩, fun _ => by rw [nnI_n (by omega), show (10 * j + 2) / 10 = j by omega], fun q => absurd q (by omega)⟩
  · have h : wpI A = nI j := h
    have h4 : ¬ wpI A = -1 := by rw [h]; exact nI_nm (by omega)
    have e1 : rmN A w f = 10 * j + 1 := by unfold rmN; rw [iz_f h4, h, n1 j (by omega)]
    have e2 : rsnA A w f = nI 1 := by unfold rsnA rsn; rw [iz_f h4]
    have e3 : blm A w f = nI j := by unfold blm; rw [e2, iz_t rfl, h]
    rw [e1, e2, e3]
    exact ⟨by omega, by rw [show (10 * j + 1) % 10 = 1 by omega], ⟨fun q => absurd q (by omega), fun q => absurd q (by decide)⟩, fun _ => by rw [nnI_n (by omega), show (10 * j + 1) / 10 = j by omega], fun q => absurd q (by omega)⟩

set_option maxHeartbeats 4000000 in
set_option maxRecDepth 100000 in
/-- spread -/
theorem c_X7_spread (l : Launch) (x : CT) (ar fd : AR) (G : Nat → Int32) (hG : ∀ c, c < 36 → ar 103 (79 + c) = G c) (v : Int32) : CV l yX7_spread cX7_spread 6 2 45 x [.ref (xa x 102), .int v] ar fd (fun ar' fd' => fd' = fd ∧ JM ar ar' ∧ SPI G v (ar 109) (ar' 109) ∧ ∀ c, c < 36 → DNs G v (ar' 109) c 4) := by
  refine zsV (own := RX7) rfl (by decide +kernel) (Nat.le_of_ble_eq_true rfl) ?_
  intro p e s m below meth c ls E hs hl
  have hx := E.1
  have hb := E.2.1
  have hl : lv_has ls 6 [(0, .ref (xa x 102)), (1, .int v)] := hl
  refine lv_iconst (v := nI 1) hx hb dX7_spread_0 (by decide) ?_
  refine lv_istore_n (lv' := [(2, .int (nI 1)), (0, .ref (xa x 102)), (1, .int v)]) hx hb dX7_spread_1 rfl hl (by decide) rfl (fun ls hl => ?_)
  have L_1 : ∀ (mm : Nat) (mr : Nat) (ar1 : AR), (2 * (36 - ct (fun d => ¬ ar1 109 d = 0) 36) + mr) < mm → (mr ≤ 1) → (JM ar ar1) → (SPI G v (ar 109) (ar1 109)) → (mr = 0 → ∀ c, c < 36 → DNs G v (ar1 109) c 4) → ∀ (H : Heap) (locs : List Loc) (ls : Array Slot), ST x (AA x) s.heap ar1 fd H locs → lv_has ls 6 [(0, .ref (xa x 102)), (1, .int v), (2, .int (nI mr))] → W p l e (rmZ 2 45) s m ([.ref (xa x 102), .int v] : List Value).toArray below meth c H locs 0 0 (QV below x [.ref (xa x 102), .int v] s (fun ar' fd' => fd' = fd ∧ JM ar ar' ∧ SPI G v (ar 109) (ar' 109) ∧ ∀ c, c < 36 → DNs G v (ar' 109) c 4)) (F0 m 2 ls []) := by
    intro mm
    induction mm with
    | zero => intro mr ar1 hmu; exact absurd hmu (Nat.not_lt_zero _)
    | succ mm ih_1 =>
      intro mr ar1 hmu hmr hJ1 hI1 hC1 H locs ls hs hl
      refine lv_iload_n hx hb dX7_spread_2 rfl (lv_at hl 2 rfl) ?_
      refine lv_if_eq (tgt := 109) hx hb dX7_spread_3 (by decide) (fun c_2 => ?_) (fun c_2 => ?_)
      · have c_2 : mr = 0 := (nI_eq (a := mr) (b := 0) (by omega) (by omega)).mp c_2
        exact zeV E hs ⟨rfl, hJ1, hI1, hC1 c_2⟩ dX7_spread_109
      · have c_2 : ¬ (mr = 0) := fun h => c_2 ((nI_eq (a := mr) (b := 0) (by omega) (by omega)).mpr h)
        refine lv_iconst (v := nI 0) hx hb dX7_spread_6 (by decide) ?_
        refine lv_istore_n (lv' := [(2, .int (nI 0)), (0, .ref (xa x 102)), (1, .int v)]) hx hb dX7_spread_7 rfl hl (by decide) rfl (fun ls hl => ?_)
        refine lv_iconst (v := nI 0) hx hb dX7_spread_8 (by decide) ?_
        refine lv_istore_n (lv' := [(3, .int (nI 0)), (2, .int (nI 0)), (0, .ref (xa x 102)), (1, .int v)]) hx hb dX7_spread_9 rfl hl (by decide) rfl (fun ls hl => ?_)
        have L_3 : ∀ (mm : Nat) (cc : Nat) (m2 : Nat) (ar2 : AR), (36 - cc) < mm → (cc ≤ 36) → (m2 ≤ 1) → (JM ar ar2) → (SPI G v (ar 109) (ar2 109)) → (ct (fun d => ¬ ar1 109 d = 0) 36 + m2 ≤ ct (fun d => ¬ ar2 109 d = 0) 36) → (m2 = 0 → ∀ c1, c1 < cc → DNs G v (ar2 109) c1 4) → ∀ (H : Heap) (locs : List Loc) (ls : Array Slot), ST x (AA x) s.heap ar2 fd H locs → lv_has ls 6 [(0, .ref (xa x 102)), (1, .int v), (2, .int (nI m2)), (3, .int (nI cc))] → W p l e (rmZ 2 45) s m ([.ref (xa x 102), .int v] : List Value).toArray below meth c H locs 0 0 (QV below x [.ref (xa x 102), .int v] s (fun ar' fd' => fd' = fd ∧ JM ar ar' ∧ SPI G v (ar 109) (ar' 109) ∧ ∀ c, c < 36 → DNs G v (ar' 109) c 4)) (F0 m 10 ls []) := by
          intro mm
          induction mm with
          | zero => intro cc m2 ar2 hmu; exact absurd hmu (Nat.not_lt_zero _)
          | succ mm ih_3 =>
            intro cc m2 ar2 hmu hc hm2 hJ2 hI2 hct2 h02 H locs ls hs hl
            refine lv_iload_n hx hb dX7_spread_10 rfl (lv_at hl 3 rfl) ?_
            refine lv_bipush (v := nI 36) hx hb dX7_spread_11 (by decide) ?_
            refine lv_icmp_ge (tgt := 106) hx hb dX7_spread_13 (by decide) (fun c_4 => ?_) (fun c_4 => ?_)
            · have c_4 : 36 ≤ cc := (nI_leI (a := 36) (b := cc) (by omega) (by omega)).mp c_4
              refine lv_goto (tgt := 2) hx hb dX7_spread_106 (by decide) ?_
              exact ih_1 m2 ar2 (by have := ct_le (fun d => ¬ ar2 109 d = 0) 36; omega) hm2 hJ2 hI2 (fun h c1 hc1 => h02 h c1 (by omega)) _ _ _ hs (lvr (lv_at hl 0 rfl) (lvr (lv_at hl 1 rfl) (lvr (lv_at hl 2 rfl) (lvn hl))))
            · have c_4 : ¬ (36 ≤ cc) := fun h => c_4 ((nI_leI (a := 36) (b := cc) (by omega) (by omega)).mpr h)
              refine lv_iconst (v := nI 0) hx hb dX7_spread_16 (by decide) ?_
              refine lv_istore (lv' := [(4, .int (nI 0)), (0, .ref (xa x 102)), (1, .int v), (2, .int (nI m2)), (3, .int (nI cc))]) hx hb dX7_spread_17 hl (by decide) rfl (fun ls hl => ?_)
              have L_5 : ∀ (mm : Nat) (sd : Nat) (m3 : Nat) (ar3 : AR), (4 - sd) < mm → (sd ≤ 4) → (m3 ≤ 1) → (JM ar ar3) → (SPI G v (ar 109) (ar3 109)) → (ct (fun d => ¬ ar1 109 d = 0) 36 + m3 ≤ ct (fun d => ¬ ar3 109 d = 0) 36) → (m3 = 0 → (∀ c1, c1 < cc → DNs G v (ar3 109) c1 4) ∧ DNs G v (ar3 109) cc sd) → ∀ (H : Heap) (locs : List Loc) (ls : Array Slot), ST x (AA x) s.heap ar3 fd H locs → lv_has ls 6 [(0, .ref (xa x 102)), (1, .int v), (2, .int (nI m3)), (3, .int (nI cc)), (4, .int (nI sd))] → W p l e (rmZ 2 45) s m ([.ref (xa x 102), .int v] : List Value).toArray below meth c H locs 0 0 (QV below x [.ref (xa x 102), .int v] s (fun ar' fd' => fd' = fd ∧ JM ar ar' ∧ SPI G v (ar 109) (ar' 109) ∧ ∀ c, c < 36 → DNs G v (ar' 109) c 4)) (F0 m 19 ls []) := by
                intro mm
                induction mm with
                | zero => intro sd m3 ar3 hmu; exact absurd hmu (Nat.not_lt_zero _)
                | succ mm ih_5 =>
                  intro sd m3 ar3 hmu hsd hm3 hJ3 hI3 hct3 h03 H locs ls hs hl
                  refine lv_iload hx hb dX7_spread_19 (lv_at hl 4 rfl) ?_
                  refine lv_iconst (v := nI 4) hx hb dX7_spread_21 (by decide) ?_
                  refine lv_icmp_ge (tgt := 100) hx hb dX7_spread_22 (by decide) (fun c_6 => ?_) (fun c_6 => ?_)
                  · have c_6 : 4 ≤ sd := (nI_leI (a := 4) (b := sd) (by omega) (by omega)).mp c_6
                    refine lv_iinc (v := nI (cc + 1)) (lv' := [(3, .int (nI (cc + 1))), (0, .ref (xa x 102)), (1, .int v), (2, .int (nI m3)), (4, .int (nI sd))]) hx hb dX7_spread_100 hl (k := 3) rfl (nI_inc _) (by decide) rfl (fun ls hl => ?_)
                    refine lv_goto (tgt := 10) hx hb dX7_spread_103 (by decide) ?_
                    exact ih_3 (cc + 1) m3 ar3 (by omega) (by omega) hm3 hJ3 hI3 hct3 (fun h c1 hc1 => by
                            by_cases e : c1 = cc
                            · subst e; exact (show sd = 4 by omega) ▸ (h03 h).2
                            · exact (h03 h).1 c1 (by omega)) _ _ _ hs (lvr (lv_at hl 1 rfl) (lvr (lv_at hl 2 rfl) (lvr (lv_at hl 3 rfl) (lvr (lv_at hl 0 rfl) (lvn hl)))))
                  · have c_6 : ¬ (4 ≤ sd) := fun h => c_6 ((nI_leI (a := 4) (b := sd) (by omega) (by omega)).mpr h)
                    refine lv_aload_n hx hb dX7_spread_25 rfl (lv_at hl 0 rfl) ?_
                    refine zg6 E hs (k := 102) rfl 10 (by decide) rfl q_524 dX7_spread_26 ?_
                    refine lv_iload_n hx hb dX7_spread_29 rfl (lv_at hl 3 rfl) ?_
                    refine zald9 E hs 109 (n := 36) (j := cc) rfl rfl (by omega) (by decide) dX7_spread_30 ?_
                    refine lv_if_eq (tgt := 100) hx hb dX7_spread_31 (by decide) (fun c_7 => ?_) (fun c_7 => ?_)
                    · refine lv_iinc (v := nI (cc + 1)) (lv' := [(3, .int (nI (cc + 1))), (0, .ref (xa x 102)), (1, .int v), (2, .int (nI m3)), (4, .int (nI sd))]) hx hb dX7_spread_100 hl (k := 3) rfl (nI_inc _) (by decide) rfl (fun ls hl => ?_)
                      refine lv_goto (tgt := 10) hx hb dX7_spread_103 (by decide) ?_
                      exact ih_3 (cc + 1) m3 ar3 (by omega) (by omega) hm3 hJ3 hI3 hct3 (fun h c1 hc1 => by
                              by_cases e : c1 = cc
                              · subst e; exact fun _ q => absurd c_7 q
                              · exact (h03 h).1 c1 (by omega)) _ _ _ hs (lvr (lv_at hl 1 rfl) (lvr (lv_at hl 2 rfl) (lvr (lv_at hl 3 rfl) (lvr (lv_at hl 0 rfl) (lvn hl)))))
                    · refine lv_iload_n hx hb dX7_spread_34 rfl (lv_at hl 3 rfl) ?_
                      refine lv_iload hx hb dX7_spread_35 (lv_at hl 4 rfl) ?_
                      refine zSP E hs lkX7_67 [] (c_X7_beside l x ar3 fd cc sd (by omega) (by omega)) ⟨Nat.le_of_ble_eq_true rfl, Nat.le_of_ble_eq_true rfl⟩ rfl hl.1 (Nat.le_of_ble_eq_true rfl) rfl dX7_spread_37 (fun r_8 H locs hp_9 hs => ?_)
                      subst hp_9
                      refine lv_istore (lv' := [(5, .int (nb cc (pm sd))), (0, .ref (xa x 102)), (1, .int v), (2, .int (nI m3)), (3, .int (nI cc)), (4, .int (nI sd))]) hx hb dX7_spread_40 hl (by decide) rfl (fun ls hl => ?_)
                      rcases nb_or cc (by omega) (pm sd) (pm_4 (by omega)) with ⟨d, hd, ed⟩ | ed
                      · rw [ed] at hl
                        refine lv_iload hx hb dX7_spread_42 (lv_at hl 0 rfl) ?_
                        refine lv_if_lt (tgt := 94) hx hb dX7_spread_44 (by decide) (fun c_10 => ?_) (fun c_10 => ?_)
                        · have c_10 : d < 0 := (nI_ltI (a := d) (b := 0) (by omega) (by omega)).mp c_10
                          exfalso; omega
                        · have c_10 : ¬ (d < 0) := fun h => c_10 ((nI_ltI (a := d) (b := 0) (by omega) (by omega)).mpr h)
                          refine lv_aload_n hx hb dX7_spread_47 rfl (lv_at hl 1 rfl) ?_
                          refine zg6 E hs (k := 102) rfl 0 (by decide) rfl q_514 dX7_spread_48 ?_
                          refine lv_bipush (v := nI 79) hx hb dX7_spread_51 (by decide) ?_
                          refine lv_iload hx hb dX7_spread_53 (lv_at hl 0 rfl) ?_
                          refine lv_iadd hx hb dX7_spread_55 ?_
                          refine tp (b := nI (79 + d)) (nI_add _ _) ?_
                          refine zald E hs 103 (n := 196) (j := (79 + d)) rfl rfl (by omega) (by decide) dX7_spread_56 ?_
                          refine tp (b := G d) (by rw [hJ3 103 (by decide)]; exact hG _ (by omega)) ?_
                          refine lv_iload_n hx hb dX7_spread_57 rfl (lv_at hl 2 rfl) ?_
                          refine lv_icmp_ne (tgt := 94) hx hb dX7_spread_58 (by decide) (fun c_11 => ?_) (fun c_11 => ?_)
                          · refine lv_iinc (v := nI (sd + 1)) (lv' := [(4, .int (nI (sd + 1))), (5, .int (nI d)), (0, .ref (xa x 102)), (1, .int v), (2, .int (nI m3)), (3, .int (nI cc))]) hx hb dX7_spread_94 hl (k := 5) rfl (nI_inc _) (by decide) rfl (fun ls hl => ?_)
                            refine lv_goto (tgt := 19) hx hb dX7_spread_97 (by decide) ?_
                            exact ih_5 (sd + 1) m3 ar3 (by omega) (by omega) hm3 hJ3 hI3 hct3 (fun h => ⟨(h03 h).1, dns_s (h03 h).2 hd ed (fun _ q => absurd q c_11)⟩) _ _ _ hs (lvr (lv_at hl 2 rfl) (lvr (lv_at hl 3 rfl) (lvr (lv_at hl 4 rfl) (lvr (lv_at hl 5 rfl) (lvr (lv_at hl 0 rfl) (lvn hl))))))
                          · refine lv_aload_n hx hb dX7_spread_61 rfl (lv_at hl 1 rfl) ?_
                            refine zg6 E hs (k := 102) rfl 0 (by decide) rfl q_514 dX7_spread_62 ?_
                            refine lv_bipush (v := nI 79) hx hb dX7_spread_65 (by decide) ?_
                            refine lv_iload_n hx hb dX7_spread_67 rfl (lv_at hl 4 rfl) ?_
                            refine lv_iadd hx hb dX7_spread_68 ?_
                            refine tp (b := nI (79 + cc)) (nI_add _ _) ?_
                            refine zald E hs 103 (n := 196) (j := (79 + cc)) rfl rfl (by omega) (by decide) dX7_spread_69 ?_
                            refine tp (b := G cc) (by rw [hJ3 103 (by decide)]; exact hG _ (by omega)) ?_
                            refine lv_iload_n hx hb dX7_spread_70 rfl (lv_at hl 2 rfl) ?_
                            refine lv_icmp_ne (tgt := 94) hx hb dX7_spread_71 (by decide) (fun c_12 => ?_) (fun c_12 => ?_)
                            · refine lv_iinc (v := nI (sd + 1)) (lv' := [(4, .int (nI (sd + 1))), (5, .int (nI d)), (0, .ref (xa x 102)), (1, .int v), (2, .int (nI m3)), (3, .int (nI cc))]) hx hb dX7_spread_94 hl (k := 5) rfl (nI_inc _) (by decide) rfl (fun ls hl => ?_)
                              refine lv_goto (tgt := 19) hx hb dX7_spread_97 (by decide) ?_
                              exact ih_5 (sd + 1) m3 ar3 (by omega) (by omega) hm3 hJ3 hI3 hct3 (fun h => ⟨(h03 h).1, dns_s (h03 h).2 hd ed (fun q _ => absurd q c_12)⟩) _ _ _ hs (lvr (lv_at hl 2 rfl) (lvr (lv_at hl 3 rfl) (lvr (lv_at hl 4 rfl) (lvr (lv_at hl 5 rfl) (lvr (lv_at hl 0 rfl) (lvn hl))))))
                            · refine lv_aload_n hx hb dX7_spread_74 rfl (lv_at hl 1 rfl) ?_
                              refine zg6 E hs (k := 102) rfl 10 (by decide) rfl q_524 dX7_spread_75 ?_
                              refine lv_iload hx hb dX7_spread_78 (lv_at hl 0 rfl) ?_
                              refine zald9 E hs 109 (n := 36) (j := d) rfl rfl (by omega) (by decide) dX7_spread_80 ?_
                              refine lv_if_ne (tgt := 94) hx hb dX7_spread_81 (by decide) (fun c_13 => ?_) (fun c_13 => ?_)
                              · refine lv_iinc (v := nI (sd + 1)) (lv' := [(4, .int (nI (sd + 1))), (5, .int (nI d)), (0, .ref (xa x 102)), (1, .int v), (2, .int (nI m3)), (3, .int (nI cc))]) hx hb dX7_spread_94 hl (k := 5) rfl (nI_inc _) (by decide) rfl (fun ls hl => ?_)
                                refine lv_goto (tgt := 19) hx hb dX7_spread_97 (by decide) ?_
                                exact ih_5 (sd + 1) m3 ar3 (by omega) (by omega) hm3 hJ3 hI3 hct3 (fun h => ⟨(h03 h).1, dns_s (h03 h).2 hd ed (fun _ _ => c_13)⟩) _ _ _ hs (lvr (lv_at hl 2 rfl) (lvr (lv_at hl 3 rfl) (lvr (lv_at hl 4 rfl) (lvr (lv_at hl 5 rfl) (lvr (lv_at hl 0 rfl) (lvn hl))))))
                              · refine lv_aload_n hx hb dX7_spread_84 rfl (lv_at hl 1 rfl) ?_
                                refine zg6 E hs (k := 102) rfl 10 (by decide) rfl q_524 dX7_spread_85 ?_
                                refine lv_iload hx hb dX7_spread_88 (lv_at hl 0 rfl) ?_
                                refine lv_iconst (v := nI 1) hx hb dX7_spread_90 (by decide) ?_
                                refine zast9 (v := nI 1) (by decide) E hs 109 (n := 36) (j := d) rfl rfl (by omega) (by decide) dX7_spread_91 (fun H locs hs => ?_)
                                refine lv_iconst (v := nI 1) hx hb dX7_spread_92 (by decide) ?_
                                refine lv_istore_n (lv' := [(2, .int (nI 1)), (5, .int (nI d)), (0, .ref (xa x 102)), (1, .int v), (3, .int (nI cc)), (4, .int (nI sd))]) hx hb dX7_spread_93 rfl hl (by decide) rfl (fun ls hl => ?_)
                                refine lv_iinc (v := nI (sd + 1)) (lv' := [(4, .int (nI (sd + 1))), (2, .int (nI 1)), (5, .int (nI d)), (0, .ref (xa x 102)), (1, .int v), (3, .int (nI cc))]) hx hb dX7_spread_94 hl (k := 5) rfl (nI_inc _) (by decide) rfl (fun ls hl => ?_)
                                refine lv_goto (tgt := 19) hx hb dX7_spread_97 (by decide) ?_
                                exact ih_5 (sd + 1) 1 (zu ar3 109 (zu (ar3 109) d (nI 1))) (by omega) (by omega) (Nat.le_refl _) (fun k hk => (zu_n _ _ hk).trans (hJ3 k hk)) (by rw [zu_s]; exact spi_s hI3 (by omega) (by omega) hd ed c_11 c_7) (by rw [zu_s, ct_put hd c_13]; omega) (fun h => absurd h (by decide)) _ _ _ hs (lvr (lv_at hl 3 rfl) (lvr (lv_at hl 4 rfl) (lvr (lv_at hl 1 rfl) (lvr (lv_at hl 5 rfl) (lvr (lv_at hl 0 rfl) (lvn hl))))))
                      · rw [ed] at hl
                        refine lv_iload hx hb dX7_spread_42 (lv_at hl 0 rfl) ?_
                        refine lv_if_lt (tgt := 94) hx hb dX7_spread_44 (by decide) (fun _ => ?_) (fun h => absurd h (by decide))
                        refine lv_iinc (v := nI (sd + 1)) (lv' := [(4, .int (nI (sd + 1))), (5, .int (-1)), (0, .ref (xa x 102)), (1, .int v), (2, .int (nI m3)), (3, .int (nI cc))]) hx hb dX7_spread_94 hl (k := 5) rfl (nI_inc _) (by decide) rfl (fun ls hl => ?_)
                        refine lv_goto (tgt := 19) hx hb dX7_spread_97 (by decide) ?_
                        exact ih_5 (sd + 1) m3 ar3 (by omega) (by omega) hm3 hJ3 hI3 hct3 (fun h => ⟨(h03 h).1, dns_m (h03 h).2 ed⟩) _ _ _ hs (lvr (lv_at hl 2 rfl) (lvr (lv_at hl 3 rfl) (lvr (lv_at hl 4 rfl) (lvr (lv_at hl 5 rfl) (lvr (lv_at hl 0 rfl) (lvn hl))))))
              exact L_5 (_ + 1) 0 m2 ar2 (Nat.lt_succ_self _) (by omega) hm2 hJ2 hI2 hct2 (fun h => ⟨h02 h, dns_0⟩) _ _ _ hs (lvr (lv_at hl 1 rfl) (lvr (lv_at hl 2 rfl) (lvr (lv_at hl 3 rfl) (lvr (lv_at hl 4 rfl) (lvr (lv_at hl 0 rfl) (lvn hl))))))
        exact L_3 (_ + 1) 0 0 ar1 (Nat.lt_succ_self _) (by omega) (by omega) hJ1 hI1 (by omega) (fun _ c1 h => absurd h (Nat.not_lt_zero c1)) _ _ _ hs (lvr (lv_at hl 2 rfl) (lvr (lv_at hl 3 rfl) (lvr (lv_at hl 1 rfl) (lvr (lv_at hl 0 rfl) (lvn hl)))))
  exact L_1 (_ + 1) 1 ar (Nat.lt_succ_self _) (by omega) (JM.rf ar) spi_0 (fun h => absurd h (by decide)) _ _ _ hs (lvr (lv_at hl 1 rfl) (lvr (lv_at hl 2 rfl) (lvr (lv_at hl 0 rfl) (lvn hl))))

theorem put_seen {G g : Nat → Int32} {v : Int32} {i d : Nat} (hS : ∀ d, d < 36 → (¬ g d = 0 ↔ SEEN G v i d)) (hd : d < 36) : ¬ zu g i (nI 1) d = 0 ↔ SEEN G v i d ∨ d = i := by
  by_cases e : d = i
  · subst e; rw [zu_s]; exact ⟨fun _ => Or.inr rfl, fun _ => one_n0⟩
  · rw [zu_n _ _ e, hS d hd]; exact ⟨Or.inl, fun h => h.elim id (fun q => absurd q e)⟩
set_option maxHeartbeats 4000000 in
set_option maxRecDepth 100000 in
/-- pieces -/
theorem c_X7_pieces (l : Launch) (x : CT) (ar fd : AR) (G : Nat → Int32) (hG : ∀ c, c < 36 → ar 103 (79 + c) = G c) (v : Int32) : CI l yX7_pieces cX7_pieces 4 (some .int) 3 70 x [.ref (xa x 102), .int v] ar fd (fun r ar' fd' => r = nI (pcN G v 36) ∧ JM ar ar' ∧ fd' = fd) := by
  refine zsI (own := RX7) rfl (by decide +kernel) (Nat.le_of_ble_eq_true rfl) ?_
  intro p e s m below meth c ls E hs hl
  have hx := E.1
  have hb := E.2.1
  have hl : lv_has ls 4 [(0, .ref (xa x 102)), (1, .int v)] := hl
  refine lv_iconst (v := nI 0) hx hb dX7_pieces_0 (by decide) ?_
  refine lv_istore_n (lv' := [(2, .int (nI 0)), (0, .ref (xa x 102)), (1, .int v)]) hx hb dX7_pieces_1 rfl hl (by decide) rfl (fun ls hl => ?_)
  have L_1 : ∀ (mm : Nat) (i : Nat) (ar1 : AR), (36 - i) < mm → (i ≤ 36) → (JM ar ar1) → (∀ d, d < i → ar1 109 d = nI 0) → ∀ (H : Heap) (locs : List Loc) (ls : Array Slot), ST x (AA x) s.heap ar1 fd H locs → lv_has ls 4 [(0, .ref (xa x 102)), (1, .int v), (2, .int (nI i))] → W p l e (rmZ 3 70) s m ([.ref (xa x 102), .int v] : List Value).toArray below meth c H locs 0 0 (QI below x [.ref (xa x 102), .int v] s (fun r ar' fd' => r = nI (pcN G v 36) ∧ JM ar ar' ∧ fd' = fd)) (F0 m 2 ls []) := by
    intro mm
    induction mm with
    | zero => intro i ar1 hmu; exact absurd hmu (Nat.not_lt_zero _)
    | succ mm ih_1 =>
      intro i ar1 hmu hi hJ1 h1 H locs ls hs hl
      refine lv_iload_n hx hb dX7_pieces_2 rfl (lv_at hl 2 rfl) ?_
      refine lv_bipush (v := nI 36) hx hb dX7_pieces_3 (by decide) ?_
      refine lv_icmp_ge (tgt := 21) hx hb dX7_pieces_5 (by decide) (fun c_2 => ?_) (fun c_2 => ?_)
      · have c_2 : 36 ≤ i := (nI_leI (a := 36) (b := i) (by omega) (by omega)).mp c_2
        refine lv_iconst (v := nI 0) hx hb dX7_pieces_21 (by decide) ?_
        refine lv_istore_n (lv' := [(2, .int (nI 0)), (0, .ref (xa x 102)), (1, .int v)]) hx hb dX7_pieces_22 rfl hl (by decide) rfl (fun ls hl => ?_)
        refine lv_iconst (v := nI 0) hx hb dX7_pieces_23 (by decide) ?_
        refine lv_istore_n (lv' := [(3, .int (nI 0)), (2, .int (nI 0)), (0, .ref (xa x 102)), (1, .int v)]) hx hb dX7_pieces_24 rfl hl (by decide) rfl (fun ls hl => ?_)
        have L_3 : ∀ (mm : Nat) (i : Nat) (ar2 : AR), (36 - i) < mm → (i ≤ 36) → (JM ar ar2) → (∀ d, d < 36 → (¬ ar2 109 d = 0 ↔ SEEN G v i d)) → ∀ (H : Heap) (locs : List Loc) (ls : Array Slot), ST x (AA x) s.heap ar2 fd H locs → lv_has ls 4 [(0, .ref (xa x 102)), (1, .int v), (2, .int (nI (pcN G v i))), (3, .int (nI i))] → W p l e (rmZ 3 70) s m ([.ref (xa x 102), .int v] : List Value).toArray below meth c H locs 0 0 (QI below x [.ref (xa x 102), .int v] s (fun r ar' fd' => r = nI (pcN G v 36) ∧ JM ar ar' ∧ fd' = fd)) (F0 m 25 ls []) := by
          intro mm
          induction mm with
          | zero => intro i ar2 hmu; exact absurd hmu (Nat.not_lt_zero _)
          | succ mm ih_3 =>
            intro i ar2 hmu hi hJ2 hS H locs ls hs hl
            refine lv_iload_n hx hb dX7_pieces_25 rfl (lv_at hl 3 rfl) ?_
            refine lv_bipush (v := nI 36) hx hb dX7_pieces_26 (by decide) ?_
            refine lv_icmp_ge (tgt := 74) hx hb dX7_pieces_28 (by decide) (fun c_4 => ?_) (fun c_4 => ?_)
            · have c_4 : 36 ≤ i := (nI_leI (a := 36) (b := i) (by omega) (by omega)).mp c_4
              refine lv_iload_n hx hb dX7_pieces_74 rfl (lv_at hl 2 rfl) ?_
              exact zeI E hs ⟨by rw [show i = 36 by omega], hJ2, rfl⟩ dX7_pieces_75
            · have c_4 : ¬ (36 ≤ i) := fun h => c_4 ((nI_leI (a := 36) (b := i) (by omega) (by omega)).mpr h)
              refine lv_aload_n hx hb dX7_pieces_31 rfl (lv_at hl 0 rfl) ?_
              refine zg6 E hs (k := 102) rfl 0 (by decide) rfl q_514 dX7_pieces_32 ?_
              refine lv_bipush (v := nI 79) hx hb dX7_pieces_35 (by decide) ?_
              refine lv_iload_n hx hb dX7_pieces_37 rfl (lv_at hl 3 rfl) ?_
              refine lv_iadd hx hb dX7_pieces_38 ?_
              refine tp (b := nI (79 + i)) (nI_add _ _) ?_
              refine zald E hs 103 (n := 196) (j := (79 + i)) rfl rfl (by omega) (by decide) dX7_pieces_39 ?_
              refine tp (b := G i) (by rw [hJ2 103 (by decide)]; exact hG _ (by omega)) ?_
              refine lv_iload_n hx hb dX7_pieces_40 rfl (lv_at hl 1 rfl) ?_
              refine lv_icmp_ne (tgt := 68) hx hb dX7_pieces_41 (by decide) (fun c_5 => ?_) (fun c_5 => ?_)
              · refine lv_iinc (v := nI (i + 1)) (lv' := [(3, .int (nI (i + 1))), (0, .ref (xa x 102)), (1, .int v), (2, .int (nI (pcN G v i)))]) hx hb dX7_pieces_68 hl (k := 3) rfl (nI_inc _) (by decide) rfl (fun ls hl => ?_)
                refine lv_goto (tgt := 25) hx hb dX7_pieces_71 (by decide) ?_
                exact ih_3 (i + 1) ar2 (by omega) (by omega) hJ2 (fun d hd => (hS d hd).trans (seen_n c_5).symm) _ _ _ hs (lvr (lv_at hl 1 rfl) (lvr (lv_at hl 2 rfl) (lvc (lv_at hl 3 rfl) (by unfold pcN; rw [ct_f (fun h => c_5 h.1)]) (lvr (lv_at hl 0 rfl) (lvn hl)))))
              · refine lv_aload_n hx hb dX7_pieces_44 rfl (lv_at hl 0 rfl) ?_
                refine zg6 E hs (k := 102) rfl 10 (by decide) rfl q_524 dX7_pieces_45 ?_
                refine lv_iload_n hx hb dX7_pieces_48 rfl (lv_at hl 3 rfl) ?_
                refine zald9 E hs 109 (n := 36) (j := i) rfl rfl (by omega) (by decide) dX7_pieces_49 ?_
                refine lv_if_ne (tgt := 68) hx hb dX7_pieces_50 (by decide) (fun c_6 => ?_) (fun c_6 => ?_)
                · refine lv_iinc (v := nI (i + 1)) (lv' := [(3, .int (nI (i + 1))), (0, .ref (xa x 102)), (1, .int v), (2, .int (nI (pcN G v i)))]) hx hb dX7_pieces_68 hl (k := 3) rfl (nI_inc _) (by decide) rfl (fun ls hl => ?_)
                  refine lv_goto (tgt := 25) hx hb dX7_pieces_71 (by decide) ?_
                  exact ih_3 (i + 1) ar2 (by omega) (by omega) hJ2 (fun d hd => (hS d hd).trans (seen_o ((hS i (by omega)).mp c_6)).symm) _ _ _ hs (lvr (lv_at hl 1 rfl) (lvr (lv_at hl 2 rfl) (lvc (lv_at hl 3 rfl) (by unfold pcN; rw [ct_f (fun h => h.2 ((hS i (by omega)).mp c_6))]) (lvr (lv_at hl 0 rfl) (lvn hl)))))
                · refine lv_iinc (v := nI (pcN G v i + 1)) (lv' := [(2, .int (nI (pcN G v i + 1))), (0, .ref (xa x 102)), (1, .int v), (3, .int (nI i))]) hx hb dX7_pieces_53 hl (k := 2) rfl (nI_inc _) (by decide) rfl (fun ls hl => ?_)
                  refine lv_aload_n hx hb dX7_pieces_56 rfl (lv_at hl 1 rfl) ?_
                  refine zg6 E hs (k := 102) rfl 10 (by decide) rfl q_524 dX7_pieces_57 ?_
                  refine lv_iload_n hx hb dX7_pieces_60 rfl (lv_at hl 3 rfl) ?_
                  refine lv_iconst (v := nI 1) hx hb dX7_pieces_61 (by decide) ?_
                  refine zast9 (v := nI 1) (by decide) E hs 109 (n := 36) (j := i) rfl rfl (by omega) (by decide) dX7_pieces_62 (fun H locs hs => ?_)
                  refine lv_aload_n hx hb dX7_pieces_63 rfl (lv_at hl 1 rfl) ?_
                  refine lv_iload_n hx hb dX7_pieces_64 rfl (lv_at hl 2 rfl) ?_
                  refine zVV E hs lkX7_70 [] (c_X7_spread l x (zu ar2 109 (zu (ar2 109) i (nI 1))) fd G (by intro c1 h1; rw [(show JM ar (zu ar2 109 (zu (ar2 109) i (nI 1))) from fun k hk => (zu_n _ _ hk).trans (hJ2 k hk)) 103 (by decide)]; exact hG c1 h1) v) (by decide) (sh6 rfl) rfl ⟨Nat.le_of_ble_eq_true rfl, Nat.le_of_ble_eq_true rfl⟩ rfl hl.1 (Nat.le_of_ble_eq_true rfl) rfl dX7_pieces_65 (fun arr_7 fdr_7 H locs hp_8 hs => ?_)
                  rw [hp_8.1] at hs
                  refine lv_iinc (v := nI (i + 1)) (lv' := [(3, .int (nI (i + 1))), (2, .int (nI (pcN G v i + 1))), (0, .ref (xa x 102)), (1, .int v)]) hx hb dX7_pieces_68 hl (k := 3) rfl (nI_inc _) (by decide) rfl (fun ls hl => ?_)
                  refine lv_goto (tgt := 25) hx hb dX7_pieces_71 (by decide) ?_
                  exact ih_3 (i + 1) arr_7 (by omega) (by omega) (JM.tr (fun k hk => (zu_n _ _ hk).trans (hJ2 k hk)) hp_8.2.1) (spr_end (g := zu (ar2 109) i (nI 1)) (by omega) c_5 (fun d hd => put_seen hS hd) (by have h := hp_8.2.2.1; rw [zu_s] at h; exact h) hp_8.2.2.2) _ _ _ hs (lvr (lv_at hl 2 rfl) (lvr (lv_at hl 3 rfl) (lvc (lv_at hl 1 rfl) (by unfold pcN; rw [ct_t ⟨c_5, fun h => (hS i (by omega)).mpr h c_6⟩]) (lvr (lv_at hl 0 rfl) (lvn hl)))))
        exact L_3 (_ + 1) 0 ar1 (Nat.lt_succ_self _) (by omega) hJ1 (fun d hd => by rw [h1 d (by omega)]; exact ⟨fun h => absurd nI_0 h, fun h => absurd h seen_0⟩) _ _ _ hs (lvr (lv_at hl 2 rfl) (lvr (lv_at hl 3 rfl) (lvc (lv_at hl 1 rfl) rfl (lvr (lv_at hl 0 rfl) (lvn hl)))))
      · have c_2 : ¬ (36 ≤ i) := fun h => c_2 ((nI_leI (a := 36) (b := i) (by omega) (by omega)).mpr h)
        refine lv_aload_n hx hb dX7_pieces_8 rfl (lv_at hl 0 rfl) ?_
        refine zg6 E hs (k := 102) rfl 10 (by decide) rfl q_524 dX7_pieces_9 ?_
        refine lv_iload_n hx hb dX7_pieces_12 rfl (lv_at hl 2 rfl) ?_
        refine lv_iconst (v := nI 0) hx hb dX7_pieces_13 (by decide) ?_
        refine zast9 (v := nI 0) (by decide) E hs 109 (n := 36) (j := i) rfl rfl (by omega) (by decide) dX7_pieces_14 (fun H locs hs => ?_)
        refine lv_iinc (v := nI (i + 1)) (lv' := [(2, .int (nI (i + 1))), (0, .ref (xa x 102)), (1, .int v)]) hx hb dX7_pieces_15 hl (k := 2) rfl (nI_inc _) (by decide) rfl (fun ls hl => ?_)
        refine lv_goto (tgt := 2) hx hb dX7_pieces_18 (by decide) ?_
        exact ih_1 (i + 1) (zu ar1 109 (zu (ar1 109) i (nI 0))) (by omega) (by omega) (fun k hk => (zu_n _ _ hk).trans (hJ1 k hk)) (fun d hd => by
              rw [zu_s]
              by_cases e : d = i
              · rw [e, zu_s]
              · rw [zu_n _ _ e]; exact h1 d (by omega)) _ _ _ hs (lvr (lv_at hl 1 rfl) (lvr (lv_at hl 2 rfl) (lvr (lv_at hl 0 rfl) (lvn hl))))
  exact L_1 (_ + 1) 0 ar (Nat.lt_succ_self _) (by omega) (JM.rf ar) (fun d h => absurd h (Nat.not_lt_zero d)) _ _ _ hs (lvr (lv_at hl 1 rfl) (lvr (lv_at hl 2 rfl) (lvr (lv_at hl 0 rfl) (lvn hl))))

set_option maxHeartbeats 4000000 in
set_option maxRecDepth 100000 in
/-- reason -/
theorem c_X7_reason (l : Launch) (x : CT) (ar fd A B : AR) (w f : Nat) (hM : ME (ar 103) A (B 1) w f) : CI l yX7_reason cX7_reason 2 (some .int) 4 93 x [.ref (xa x 102)] ar fd (fun r ar' fd' => r = nI (rmN A w f) ∧ JM ar ar' ∧ fd' = fd) := by
  refine zsI (own := RX7) rfl (by decide +kernel) (Nat.le_of_ble_eq_true rfl) ?_
  intro p e s m below meth c ls E hs hl
  have hx := E.1
  have hb := E.2.1
  have hl : lv_has ls 2 [(0, .ref (xa x 102))] := hl
  obtain ⟨hE1, hE2, hE3, hE4, hE5, hE6, hE7, hEw, hEf, hEc, hEs, hfw, hw9, hw2, hP, hD⟩ := id hM
  have h36w : 36 / w ≤ 36 := Nat.div_le_self 36 w
  refine lv_iconst (v := nI 0) hx hb dX7_reason_0 (by decide) ?_
  refine lv_istore_n (lv' := [(1, .int (nI 0)), (0, .ref (xa x 102))]) hx hb dX7_reason_1 rfl hl (by decide) rfl (fun ls hl => ?_)
  have L_1 : ∀ (mm : Nat) (i : Nat), (36 - i) < mm → (i ≤ 36) → (wpI A = ffst (fun c => A 9 c = -1 ∧ A 7 c = -1) (36 - i) i) → ∀ (H : Heap) (locs : List Loc) (ls : Array Slot), ST x (AA x) s.heap ar fd H locs → lv_has ls 2 [(0, .ref (xa x 102)), (1, .int (nI i))] → W p l e (rmZ 4 93) s m ([.ref (xa x 102)] : List Value).toArray below meth c H locs 0 0 (QI below x [.ref (xa x 102)] s (fun r ar' fd' => r = nI (rmN A w f) ∧ JM ar ar' ∧ fd' = fd)) (F0 m 2 ls []) := by
    intro mm
    induction mm with
    | zero => intro i hmu; exact absurd hmu (Nat.not_lt_zero _)
    | succ mm ih_1 =>
      intro i hmu hi h1 H locs ls hs hl
      refine lv_iload_n hx hb dX7_reason_2 rfl (lv_at hl 1 rfl) ?_
      refine lv_bipush (v := nI 36) hx hb dX7_reason_3 (by decide) ?_
      refine lv_icmp_ge (tgt := 41) hx hb dX7_reason_5 (by decide) (fun c_2 => ?_) (fun c_2 => ?_)
      · have c_2 : 36 ≤ i := (nI_leI (a := 36) (b := i) (by omega) (by omega)).mp c_2
        have hwp : wpI A = -1 := h1.trans (ffst_e (by omega))
        refine lv_iconst (v := nI 0) hx hb dX7_reason_41 (by decide) ?_
        refine lv_istore_n (lv' := [(1, .int (nI 0)), (0, .ref (xa x 102))]) hx hb dX7_reason_42 rfl hl (by decide) rfl (fun ls hl => ?_)
        have L_3 : ∀ (mm : Nat) (p2 : Nat), (w - f - p2) < mm → (p2 ≤ w - f) → (osI A w f = ffst (fun p => ¬ ct (fun i => A 7 i = nI p) 36 = 36 / w) (w - f - p2) p2) → ∀ (H : Heap) (locs : List Loc) (ls : Array Slot), ST x (AA x) s.heap ar fd H locs → lv_has ls 2 [(0, .ref (xa x 102)), (1, .int (nI p2))] → W p l e (rmZ 4 93) s m ([.ref (xa x 102)] : List Value).toArray below meth c H locs 0 0 (QI below x [.ref (xa x 102)] s (fun r ar' fd' => r = nI (rmN A w f) ∧ JM ar ar' ∧ fd' = fd)) (F0 m 43 ls []) := by
          intro mm
          induction mm with
          | zero => intro p2 hmu; exact absurd hmu (Nat.not_lt_zero _)
          | succ mm ih_3 =>
            intro p2 hmu hp2 h2 H locs ls hs hl
            refine lv_iload_n hx hb dX7_reason_43 rfl (lv_at hl 1 rfl) ?_
            refine lv_aload_n hx hb dX7_reason_44 rfl (lv_at hl 0 rfl) ?_
            refine zVP E hs lkX7_77 [.int (nI p2)] (c_X7_left l x ar fd A B w f hM) (by decide) (sh6 rfl) rfl ⟨Nat.le_of_ble_eq_true rfl, Nat.le_of_ble_eq_true rfl⟩ rfl hl.1 (Nat.le_of_ble_eq_true rfl) rfl dX7_reason_45 (fun r_4 H locs hp_5 hs => ?_)
            subst hp_5
            refine lv_icmp_ge (tgt := 78) hx hb dX7_reason_48 (by decide) (fun c_6 => ?_) (fun c_6 => ?_)
            · have c_6 : w - f ≤ p2 := (nI_leI (a := w - f) (b := p2) (by omega) (by omega)).mp c_6
              have hos : osI A w f = -1 := h2.trans (ffst_e (by omega))
              refine lv_iconst (v := nI 0) hx hb dX7_reason_78 (by decide) ?_
              refine lv_istore_n (lv' := [(1, .int (nI 0)), (0, .ref (xa x 102))]) hx hb dX7_reason_79 rfl hl (by decide) rfl (fun ls hl => ?_)
              have L_7 : ∀ (mm : Nat) (p3 : Nat) (ar1 : AR), (w - f - p3) < mm → (p3 ≤ w - f) → (JM ar ar1) → (ncI A w f = ffst (fun p => ¬ pcN (A 7) (nI p) 36 = 1) (w - f - p3) p3) → ∀ (H : Heap) (locs : List Loc) (ls : Array Slot), ST x (AA x) s.heap ar1 fd H locs → lv_has ls 2 [(0, .ref (xa x 102)), (1, .int (nI p3))] → W p l e (rmZ 4 93) s m ([.ref (xa x 102)] : List Value).toArray below meth c H locs 0 0 (QI below x [.ref (xa x 102)] s (fun r ar' fd' => r = nI (rmN A w f) ∧ JM ar ar' ∧ fd' = fd)) (F0 m 80 ls []) := by
                intro mm
                induction mm with
                | zero => intro p3 ar1 hmu; exact absurd hmu (Nat.not_lt_zero _)
                | succ mm ih_7 =>
                  intro p3 ar1 hmu hp3 hJ1 h3 H locs ls hs hl
                  refine lv_iload_n hx hb dX7_reason_80 rfl (lv_at hl 1 rfl) ?_
                  refine lv_aload_n hx hb dX7_reason_81 rfl (lv_at hl 0 rfl) ?_
                  refine zVP E hs lkX7_77 [.int (nI p3)] (c_X7_left l x ar1 fd A B w f (by rw [hJ1 103 (by decide)]; exact hM)) (by decide) (sh6 rfl) rfl ⟨Nat.le_of_ble_eq_true rfl, Nat.le_of_ble_eq_true rfl⟩ rfl hl.1 (Nat.le_of_ble_eq_true rfl) rfl dX7_reason_82 (fun r_8 H locs hp_9 hs => ?_)
                  subst hp_9
                  refine lv_icmp_ge (tgt := 110) hx hb dX7_reason_85 (by decide) (fun c_10 => ?_) (fun c_10 => ?_)
                  · have c_10 : w - f ≤ p3 := (nI_leI (a := w - f) (b := p3) (by omega) (by omega)).mp c_10
                    refine lv_iconst (v := nI 0) hx hb dX7_reason_110 (by decide) ?_
                    exact zeI E hs ⟨by unfold rmN; rw [iz_t (hwp.trans rfl), iz_t hos, iz_t (h3.trans (ffst_e (by omega)))], hJ1, rfl⟩ dX7_reason_111
                  · have c_10 : ¬ (w - f ≤ p3) := fun h => c_10 ((nI_leI (a := w - f) (b := p3) (by omega) (by omega)).mpr h)
                    refine lv_aload_n hx hb dX7_reason_88 rfl (lv_at hl 0 rfl) ?_
                    refine lv_iload_n hx hb dX7_reason_89 rfl (lv_at hl 1 rfl) ?_
                    refine zVI E hs lkX7_83 [] (c_X7_pieces l x ar1 fd (A 7) (by intro c1 q1; rw [hJ1 103 (by decide)]; exact hE3 c1 q1) (nI p3)) (by decide) (sh6 rfl) rfl ⟨Nat.le_of_ble_eq_true rfl, Nat.le_of_ble_eq_true rfl⟩ rfl hl.1 (Nat.le_of_ble_eq_true rfl) rfl dX7_reason_90 (fun r_11 arr_11 fdr_11 H locs hp_12 hs => ?_)
                    rw [hp_12.2.2] at hs
                    have hJ_r_11 := hp_12.2.1
                    have hb_r_11 := pc_le (A 7) (nI p3) 36
                    refine tp (b := nI (pcN (A 7) (nI p3) 36)) hp_12.1 ?_
                    refine lv_iconst (v := nI 1) hx hb dX7_reason_93 (by decide) ?_
                    refine lv_icmp_eq (tgt := 104) hx hb dX7_reason_94 (by decide) (fun c_13 => ?_) (fun c_13 => ?_)
                    · have c_13 : pcN (A 7) (nI p3) 36 = 1 := (nI_eq (a := pcN (A 7) (nI p3) 36) (b := 1) (by omega) (by omega)).mp c_13
                      refine lv_iinc (v := nI (p3 + 1)) (lv' := [(1, .int (nI (p3 + 1))), (0, .ref (xa x 102))]) hx hb dX7_reason_104 hl (k := 1) rfl (nI_inc _) (by decide) rfl (fun ls hl => ?_)
                      refine lv_goto (tgt := 80) hx hb dX7_reason_107 (by decide) ?_
                      exact ih_7 (p3 + 1) arr_11 (by omega) (by omega) (hJ1.tr hJ_r_11) (h3.trans (ffst_f (by omega) (not_not_intro c_13))) _ _ _ hs (lvr (lv_at hl 1 rfl) (lvr (lv_at hl 0 rfl) (lvn hl)))
                    · have c_13 : ¬ (pcN (A 7) (nI p3) 36 = 1) := fun h => c_13 ((nI_eq (a := pcN (A 7) (nI p3) 36) (b := 1) (by omega) (by omega)).mpr h)
                      refine lv_bipush (v := nI 10) hx hb dX7_reason_97 (by decide) ?_
                      refine lv_iload_n hx hb dX7_reason_99 rfl (lv_at hl 1 rfl) ?_
                      refine lv_imul hx hb dX7_reason_100 ?_
                      refine tp (b := nI (10 * p3)) (nI_mul _ _) ?_
                      refine lv_iconst (v := nI 3) hx hb dX7_reason_101 (by decide) ?_
                      refine lv_iadd hx hb dX7_reason_102 ?_
                      refine tp (b := nI ((10 * p3) + 3)) (nI_add _ _) ?_
                      exact zeI E hs ⟨by unfold rmN; rw [iz_t hwp, iz_t hos, show ncI A w f = nI p3 from h3.trans (ffst_t (by omega) c_13), iz_f (nI_nm (by omega)), nI_clamp (by omega)], hJ1.tr hJ_r_11, rfl⟩ dX7_reason_103
              exact L_7 (_ + 1) 0 ar (Nat.lt_succ_self _) (by omega) (JM.rf ar) rfl _ _ _ hs (lvr (lv_at hl 1 rfl) (lvr (lv_at hl 0 rfl) (lvn hl)))
            · have c_6 : ¬ (w - f ≤ p2) := fun h => c_6 ((nI_leI (a := w - f) (b := p2) (by omega) (by omega)).mpr h)
              refine lv_aload_n hx hb dX7_reason_51 rfl (lv_at hl 0 rfl) ?_
              refine lv_bipush (v := nI 79) hx hb dX7_reason_52 (by decide) ?_
              refine lv_iload_n hx hb dX7_reason_54 rfl (lv_at hl 1 rfl) ?_
              refine zVP E hs lkX7_80 [] (c_X7_cells l x ar fd 79 (by decide) (A 7) hE3 (nI p2)) (by decide) (sh6 rfl) rfl ⟨Nat.le_of_ble_eq_true rfl, Nat.le_of_ble_eq_true rfl⟩ rfl hl.1 (Nat.le_of_ble_eq_true rfl) rfl dX7_reason_55 (fun r_14 H locs hp_15 hs => ?_)
              subst hp_15
              have hcl_r_14 := ct_le (fun zz => A 7 zz = nI p2) 36
              refine lv_aload_n hx hb dX7_reason_58 rfl (lv_at hl 0 rfl) ?_
              refine zVP E hs lkX7_55 [.int (nI (ct (fun zz => A 7 zz = nI p2) 36))] (c_X7_size l x ar fd A B w f hM) (by decide) (sh6 rfl) rfl ⟨Nat.le_of_ble_eq_true rfl, Nat.le_of_ble_eq_true rfl⟩ rfl hl.1 (Nat.le_of_ble_eq_true rfl) rfl dX7_reason_59 (fun r_16 H locs hp_17 hs => ?_)
              subst hp_17
              refine lv_icmp_eq (tgt := 72) hx hb dX7_reason_62 (by decide) (fun c_18 => ?_) (fun c_18 => ?_)
              · have c_18 : ct (fun zz => A 7 zz = nI p2) 36 = 36 / w := (nI_eq (a := ct (fun zz => A 7 zz = nI p2) 36) (b := 36 / w) (by omega) (by omega)).mp c_18
                refine lv_iinc (v := nI (p2 + 1)) (lv' := [(1, .int (nI (p2 + 1))), (0, .ref (xa x 102))]) hx hb dX7_reason_72 hl (k := 1) rfl (nI_inc _) (by decide) rfl (fun ls hl => ?_)
                refine lv_goto (tgt := 43) hx hb dX7_reason_75 (by decide) ?_
                exact ih_3 (p2 + 1) (by omega) (by omega) (h2.trans (ffst_f (by omega) (not_not_intro c_18))) _ _ _ hs (lvr (lv_at hl 1 rfl) (lvr (lv_at hl 0 rfl) (lvn hl)))
              · have c_18 : ¬ (ct (fun zz => A 7 zz = nI p2) 36 = 36 / w) := fun h => c_18 ((nI_eq (a := ct (fun zz => A 7 zz = nI p2) 36) (b := 36 / w) (by omega) (by omega)).mpr h)
                refine lv_bipush (v := nI 10) hx hb dX7_reason_65 (by decide) ?_
                refine lv_iload_n hx hb dX7_reason_67 rfl (lv_at hl 1 rfl) ?_
                refine lv_imul hx hb dX7_reason_68 ?_
                refine tp (b := nI (10 * p2)) (nI_mul _ _) ?_
                refine lv_iconst (v := nI 2) hx hb dX7_reason_69 (by decide) ?_
                refine lv_iadd hx hb dX7_reason_70 ?_
                refine tp (b := nI ((10 * p2) + 2)) (nI_add _ _) ?_
                exact zeI E hs ⟨by unfold rmN; rw [iz_t hwp, show osI A w f = nI p2 from h2.trans (ffst_t (by omega) c_18), iz_f (nI_nm (by omega)), nI_clamp (by omega)], JM.rf ar, rfl⟩ dX7_reason_71
        exact L_3 (_ + 1) 0 (Nat.lt_succ_self _) (by omega) rfl _ _ _ hs (lvr (lv_at hl 1 rfl) (lvr (lv_at hl 0 rfl) (lvn hl)))
      · have c_2 : ¬ (36 ≤ i) := fun h => c_2 ((nI_leI (a := 36) (b := i) (by omega) (by omega)).mpr h)
        refine lv_aload_n hx hb dX7_reason_8 rfl (lv_at hl 0 rfl) ?_
        refine lv_iload_n hx hb dX7_reason_9 rfl (lv_at hl 1 rfl) ?_
        refine zVP E hs lkX7_74 [] (c_X7_isOpen l x ar fd A B w f hM i (by omega)) (by decide) (sh6 rfl) rfl ⟨Nat.le_of_ble_eq_true rfl, Nat.le_of_ble_eq_true rfl⟩ rfl hl.1 (Nat.le_of_ble_eq_true rfl) rfl dX7_reason_10 (fun r_19 H locs hp_20 hs => ?_)
        subst hp_20
        refine lv_if_eq (tgt := 35) hx hb dX7_reason_13 (by decide) (fun c_21 => ?_) (fun c_21 => ?_)
        · have c_21 : ¬ (A 9 i = -1) := bz_0 c_21
          refine lv_iinc (v := nI (i + 1)) (lv' := [(1, .int (nI (i + 1))), (0, .ref (xa x 102))]) hx hb dX7_reason_35 hl (k := 1) rfl (nI_inc _) (by decide) rfl (fun ls hl => ?_)
          refine lv_goto (tgt := 2) hx hb dX7_reason_38 (by decide) ?_
          exact ih_1 (i + 1) (by omega) (by omega) (h1.trans (ffst_f (by omega) (fun h => c_21 h.1))) _ _ _ hs (lvr (lv_at hl 1 rfl) (lvr (lv_at hl 0 rfl) (lvn hl)))
        · have c_21 : A 9 i = -1 := bz_1 c_21
          refine lv_aload_n hx hb dX7_reason_16 rfl (lv_at hl 0 rfl) ?_
          refine zg6 E hs (k := 102) rfl 0 (by decide) rfl q_514 dX7_reason_17 ?_
          refine lv_bipush (v := nI 79) hx hb dX7_reason_20 (by decide) ?_
          refine lv_iload_n hx hb dX7_reason_22 rfl (lv_at hl 1 rfl) ?_
          refine lv_iadd hx hb dX7_reason_23 ?_
          refine tp (b := nI (79 + i)) (nI_add _ _) ?_
          refine zald E hs 103 (n := 196) (j := (79 + i)) rfl rfl (by omega) (by decide) dX7_reason_24 ?_
          refine tp (b := A 7 i) (hE3 _ (by omega)) ?_
          refine lv_if_ge (tgt := 35) hx hb dX7_reason_25 (by decide) (fun c_22 => ?_) (fun c_22 => ?_)
          · refine lv_iinc (v := nI (i + 1)) (lv' := [(1, .int (nI (i + 1))), (0, .ref (xa x 102))]) hx hb dX7_reason_35 hl (k := 1) rfl (nI_inc _) (by decide) rfl (fun ls hl => ?_)
            refine lv_goto (tgt := 2) hx hb dX7_reason_38 (by decide) ?_
            exact ih_1 (i + 1) (by omega) (by omega) (h1.trans (ffst_f (by omega) (fun h => (ge_m1 (hP i (by omega))).mp h.2 c_22))) _ _ _ hs (lvr (lv_at hl 1 rfl) (lvr (lv_at hl 0 rfl) (lvn hl)))
          · refine lv_bipush (v := nI 10) hx hb dX7_reason_28 (by decide) ?_
            refine lv_iload_n hx hb dX7_reason_30 rfl (lv_at hl 1 rfl) ?_
            refine lv_imul hx hb dX7_reason_31 ?_
            refine tp (b := nI (10 * i)) (nI_mul _ _) ?_
            refine lv_iconst (v := nI 1) hx hb dX7_reason_32 (by decide) ?_
            refine lv_iadd hx hb dX7_reason_33 ?_
            refine tp (b := nI ((10 * i) + 1)) (nI_add _ _) ?_
            exact zeI E hs ⟨by unfold rmN; rw [show wpI A = nI i from h1.trans (ffst_t (by omega) ⟨c_21, (ge_m1 (hP i (by omega))).mpr c_22⟩), iz_f (nI_nm (by omega)), nI_clamp (by omega)], JM.rf ar, rfl⟩ dX7_reason_34
  exact L_1 (_ + 1) 0 (Nat.lt_succ_self _) (by omega) rfl _ _ _ hs (lvr (lv_at hl 1 rfl) (lvr (lv_at hl 0 rfl) (lvn hl)))
