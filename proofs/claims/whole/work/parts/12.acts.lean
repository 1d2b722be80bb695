
theorem rv_n {A : AR} {t : Nat → Int32} {c m q : Nat} (h : q ≠ 3 ∧ q ≠ 5) : rvA A t c m q = A q := by unfold rvA; rw [zu_n _ _ h.2, zu_n _ _ h.1]
theorem rv_0 (A : AR) (t : Nat → Int32) (c : Nat) : rvA A t c 0 = A := by
  funext q
  by_cases h5 : q = 5
  · subst h5; unfold rvA; rw [zu_s]; funext j; exact iz_f (by omega)
  · by_cases h3 : q = 3
    · subst h3; unfold rvA; rw [zu_n _ _ h5, zu_s]; funext j; exact iz_f (by omega)
    · exact rv_n ⟨h3, h5⟩
theorem rv_s (A : AR) (t : Nat → Int32) (c m : Nat) : zu (zu (rvA A t c m) 3 (zu (rvA A t c m 3) (c + m) (t (m * 3 + 0) - nI 48))) 5 (zu (zu (rvA A t c m) 3 (zu (rvA A t c m 3) (c + m) (t (m * 3 + 0) - nI 48)) 5) (c + m) (t (m * 3 + 1) - nI 48)) = rvA A t c (m + 1) := by
  funext q
  by_cases h5 : q = 5
  · subst h5
    rw [zu_s, zu_n _ _ (by decide)]
    unfold rvA
    rw [zu_s, zu_s]
    funext j
    by_cases e : j = c + m
    · subst e; rw [zu_s, iz_t (by omega), show c + m - c = m by omega]
    · rw [zu_n _ _ e, iz_c (P := c ≤ j ∧ j < c + m) (Q := c ≤ j ∧ j < c + (m + 1)) (by omega)]
  · rw [zu_n _ _ h5]
    by_cases h3 : q = 3
    · subst h3
      rw [zu_s]
      unfold rvA
      rw [zu_n _ _ (show (3 : Nat) ≠ 5 by decide), zu_n _ _ (show (3 : Nat) ≠ 5 by decide), zu_s, zu_s]
      funext j
      by_cases e : j = c + m
      · subst e; rw [zu_s, iz_t (by omega), show c + m - c = m by omega]; rfl
      · rw [zu_n _ _ e, iz_c (P := c ≤ j ∧ j < c + m) (Q := c ≤ j ∧ j < c + (m + 1)) (by omega)]
    · rw [zu_n _ _ h3, rv_n ⟨h3, h5⟩, rv_n ⟨h3, h5⟩]
noncomputable def sp_readVotes (ar fd : AR) (w f o z n : Nat) (a : Int32) : Int32 × AR × AR :=
  iz (¬ a < nI 0 ∧ ¬ nI 35 < a) (iz (flt (ar 94) n = -1) (iz ((n + 1) / 3 ≤ 36 - a.toNatClampNeg) (nI ((n + 1) / 3), rvA (sp_record ar fd o z).1 (ar 94) a.toNatClampNeg ((n + 1) / 3), (sp_record ar fd o z).2) (-2, ar, fd)) ((-100) - flt (ar 94) n, ar, fd)) (-1, ar, fd)

noncomputable def sp_adopt (ar fd : AR) (w f o z n : Nat) : Int32 × AR × AR := iz (fd 1 10 = 0) (iz (f = 0) (((-4), ar, fd)) (iz (∀ i, i < 36 → ar 11 i = ar 7 i) (((-5), ar, fd)) ((nI (w - f), zu ((sp_record ar fd o z).1) 7 (((sp_record ar fd o z).1) 11), (sp_record ar fd o z).2)))) (((-4), ar, fd))
set_option maxHeartbeats 4000000 in
set_option maxRecDepth 100000 in
/-- adopt -/
theorem c_X6_adopt (l : Launch) (x : CT) (ar fd : AR) (w f o z n : Nat) (hc : CInv ar fd w f o z n) : CI l yX6_adopt cX6_adopt 1 (some .int) 4 86 x [.ref (xa x 0)] ar fd (fun r ar' fd' => (r, ar', fd') = sp_adopt ar fd w f o z n) := by
  refine zsI (own := RX6) rfl (by decide +kernel) (Nat.le_of_ble_eq_true rfl) ?_
  intro p e s m below meth c ls E hs hl
  have hx := E.1
  have hb := E.2.1
  have hl : lv_has ls 1 [(0, .ref (xa x 0))] := hl
  obtain ⟨hw, hf, hfw, hw9, hw2, hof, hz, ho, hz4, hn, hn60, hC⟩ := id hc
  have hf9 : f ≤ 9 := by omega
  refine lv_aload_n hx hb dX6_adopt_0 rfl (lv_at hl 0 rfl) ?_
  refine zg5 E hs (k := 0) rfl 0 (by decide) rfl q_130 dX6_adopt_1 ?_
  refine zg3 E hs (k := 1) rfl 10 (by decide) rfl q_56 dX6_adopt_4 ?_
  refine lv_if_ne (tgt := 20) hx hb dX6_adopt_7 (by decide) (fun c_1 => ?_) (fun c_1 => ?_)
  · refine lv_bipush (v := (-4)) hx hb dX6_adopt_20 (by decide) ?_
    exact zeI E hs (by show (_, _, _) = sp_adopt ar fd w f o z n; unfold sp_adopt; rw [iz_f c_1]) dX6_adopt_22
  · refine lv_aload_n hx hb dX6_adopt_10 rfl (lv_at hl 0 rfl) ?_
    refine zg5 E hs (k := 0) rfl 0 (by decide) rfl q_130 dX6_adopt_11 ?_
    refine zg3 E hs (k := 1) rfl 8 (by decide) rfl q_53 dX6_adopt_14 ?_
    refine tp (b := nI f) hf ?_
    refine lv_if_ne (tgt := 23) hx hb dX6_adopt_17 (by decide) (fun c_2 => ?_) (fun c_2 => ?_)
    · have c_2 : ¬ (f = 0) := fun h => c_2 ((nI_eq (a := f) (b := 0) (by omega) (by omega)).mpr h)
      refine lv_aload_n hx hb dX6_adopt_23 rfl (lv_at hl 0 rfl) ?_
      refine zg5 E hs (k := 0) rfl 0 (by decide) rfl q_130 dX6_adopt_24 ?_
      refine zg3 E hs (k := 1) rfl 4 (by decide) rfl q_45 dX6_adopt_27 ?_
      refine lv_aload_n hx hb dX6_adopt_30 rfl (lv_at hl 0 rfl) ?_
      refine zg5 E hs (k := 0) rfl 0 (by decide) rfl q_130 dX6_adopt_31 ?_
      refine zg3 E hs (k := 1) rfl 2 (by decide) rfl q_40 dX6_adopt_34 ?_
      refine zVP E hs lkX6_115 [] (c_X3_isLike l x 10 6 36 ro_10 ro_6 ar fd) (by decide) (sh2 rfl) rfl ⟨Nat.le_of_ble_eq_true rfl, Nat.le_of_ble_eq_true rfl⟩ rfl hl.1 (Nat.le_of_ble_eq_true rfl) rfl dX6_adopt_37 (fun r_3 H locs hp_4 hs => ?_)
      subst hp_4
      refine lv_if_eq (tgt := 46) hx hb dX6_adopt_40 (by decide) (fun c_5 => ?_) (fun c_5 => ?_)
      · have c_5 : ¬ (∀ i, i < 36 → ar 11 i = ar 7 i) := bz_0 c_5
        refine lv_aload_n hx hb dX6_adopt_46 rfl (lv_at hl 0 rfl) ?_
        refine zg5 E hs (k := 0) rfl 1 (by decide) rfl q_131 dX6_adopt_47 ?_
        refine lv_aload_n hx hb dX6_adopt_50 rfl (lv_at hl 0 rfl) ?_
        refine zg5 E hs (k := 0) rfl 0 (by decide) rfl q_130 dX6_adopt_51 ?_
        refine zVV E hs lkX6_71 [] (c_X1_record l x ar fd o z hof hz ho hz4) (by decide) (sh0 rfl) rfl ⟨Nat.le_of_ble_eq_true rfl, Nat.le_of_ble_eq_true rfl⟩ rfl hl.1 (Nat.le_of_ble_eq_true rfl) rfl dX6_adopt_54 (fun arr_6 fdr_6 H locs hp_7 hs => ?_)
        rw [show arr_6 = (sp_record ar fd o z).1 from congrArg Prod.fst hp_7, show fdr_6 = (sp_record ar fd o z).2 from congrArg Prod.snd hp_7] at hs
        refine lv_aload_n hx hb dX6_adopt_57 rfl (lv_at hl 0 rfl) ?_
        refine zg5 E hs (k := 0) rfl 0 (by decide) rfl q_130 dX6_adopt_58 ?_
        refine zg3 E hs (k := 1) rfl 2 (by decide) rfl q_40 dX6_adopt_61 ?_
        refine lv_aload_n hx hb dX6_adopt_64 rfl (lv_at hl 0 rfl) ?_
        refine zg5 E hs (k := 0) rfl 0 (by decide) rfl q_130 dX6_adopt_65 ?_
        refine zg3 E hs (k := 1) rfl 4 (by decide) rfl q_45 dX6_adopt_68 ?_
        refine zVV E hs lkX6_119 [] (c_X3_copy l x 6 10 36 ro_6 ro_10 (by decide) ((sp_record ar fd o z).1) ((sp_record ar fd o z).2)) (by decide) (sh2 rfl) rfl ⟨Nat.le_of_ble_eq_true rfl, Nat.le_of_ble_eq_true rfl⟩ rfl hl.1 (Nat.le_of_ble_eq_true rfl) rfl dX6_adopt_71 (fun arr_8 fdr_8 H locs hp_9 hs => ?_)
        rw [hp_9.1, hp_9.2] at hs
        refine lv_aload_n hx hb dX6_adopt_74 rfl (lv_at hl 0 rfl) ?_
        refine zg5 E hs (k := 0) rfl 0 (by decide) rfl q_130 dX6_adopt_75 ?_
        refine zVP E hs lkX6_129 [] (c_X4_left l x (zu ((sp_record ar fd o z).1) 7 (((sp_record ar fd o z).1) 11)) ((sp_record ar fd o z).2)) (by decide) (sh3 rfl) rfl ⟨Nat.le_of_ble_eq_true rfl, Nat.le_of_ble_eq_true rfl⟩ rfl hl.1 (Nat.le_of_ble_eq_true rfl) rfl dX6_adopt_78 (fun r_10 H locs hp_11 hs => ?_)
        subst hp_11
        refine tp (b := nI (w - f)) (by rw [rec_fd (by decide), hw, hf, nI_sub hfw]) ?_
        exact zeI E hs (by show (_, _, _) = sp_adopt ar fd w f o z n; unfold sp_adopt; rw [iz_t c_1, iz_f c_2, iz_f c_5]) dX6_adopt_81
      · have c_5 : ∀ i, i < 36 → ar 11 i = ar 7 i := bz_1 c_5
        refine lv_bipush (v := (-5)) hx hb dX6_adopt_43 (by decide) ?_
        exact zeI E hs (by show (_, _, _) = sp_adopt ar fd w f o z n; unfold sp_adopt; rw [iz_t c_1, iz_f c_2, iz_t c_5]) dX6_adopt_45
    · have c_2 : f = 0 := (nI_eq (a := f) (b := 0) (by omega) (by omega)).mp c_2
      refine lv_bipush (v := (-4)) hx hb dX6_adopt_20 (by decide) ?_
      exact zeI E hs (by show (_, _, _) = sp_adopt ar fd w f o z n; unfold sp_adopt; rw [iz_t c_1, iz_t c_2]) dX6_adopt_22

noncomputable def sp_propose (ar fd : AR) (w f o z n : Nat) : Int32 × AR × AR := iz (fd 1 10 = 0) (iz (rsnA ar w f = 0) (((zu ((sp_record ar fd o z).2) 1 (zu (((sp_record ar fd o z).2) 1) 10 (nI 1))) 1 7 - (zu ((sp_record ar fd o z).2) 1 (zu (((sp_record ar fd o z).2) 1) 10 (nI 1))) 1 8, (sp_record ar fd o z).1, zu ((sp_record ar fd o z).2) 1 (zu (((sp_record ar fd o z).2) 1) 10 (nI 1)))) (((-10) - (rsnA ar w f), ar, fd))) (((-4), ar, fd))
set_option maxHeartbeats 4000000 in
set_option maxRecDepth 100000 in
/-- propose -/
theorem c_X6_propose (l : Launch) (x : CT) (ar fd : AR) (w f o z n : Nat) (hc : CInv ar fd w f o z n) : CI l yX6_propose cX6_propose 2 (some .int) 5 117 x [.ref (xa x 0)] ar fd (fun r ar' fd' => r = (sp_propose ar fd w f o z n).1 ∧ JQ (sp_propose ar fd w f o z n).2.1 ar' ∧ fd' = (sp_propose ar fd w f o z n).2.2) := by
  refine zsI (own := RX6) rfl (by decide +kernel) (Nat.le_of_ble_eq_true rfl) ?_
  intro p e s m below meth c ls E hs hl
  have hx := E.1
  have hb := E.2.1
  have hl : lv_has ls 2 [(0, .ref (xa x 0))] := hl
  obtain ⟨hw, hf, hfw, hw9, hw2, hof, hz, ho, hz4, hn, hn60, hC⟩ := id hc
  have hf9 : f ≤ 9 := by omega
  refine lv_aload_n hx hb dX6_propose_0 rfl (lv_at hl 0 rfl) ?_
  refine zg5 E hs (k := 0) rfl 0 (by decide) rfl q_130 dX6_propose_1 ?_
  refine zg3 E hs (k := 1) rfl 10 (by decide) rfl q_56 dX6_propose_4 ?_
  refine lv_if_eq (tgt := 13) hx hb dX6_propose_7 (by decide) (fun c_1 => ?_) (fun c_1 => ?_)
  · refine lv_aload_n hx hb dX6_propose_13 rfl (lv_at hl 0 rfl) ?_
    refine zg5 E hs (k := 0) rfl 5 (by decide) rfl q_135 dX6_propose_14 ?_
    refine lv_aload_n hx hb dX6_propose_17 rfl (lv_at hl 0 rfl) ?_
    refine zg5 E hs (k := 0) rfl 0 (by decide) rfl q_130 dX6_propose_18 ?_
    refine zVI E hs lkX6_132 [] (c_X2_reason l x ar fd w f hw hf hfw hw9 hw2) (by decide) (sh1 rfl) rfl ⟨Nat.le_of_ble_eq_true rfl, Nat.le_of_ble_eq_true rfl⟩ rfl hl.1 (Nat.le_of_ble_eq_true rfl) rfl dX6_propose_21 (fun r_2 arr_2 fdr_2 H locs hp_3 hs => ?_)
    rw [hp_3.2.2] at hs
    have hJ_r_2 := hp_3.2.1
    refine tp (b := rsnA ar w f) hp_3.1 ?_
    refine lv_istore_n (lv' := [(1, .int (rsnA ar w f)), (0, .ref (xa x 0))]) hx hb dX6_propose_24 rfl hl (by decide) rfl (fun ls hl => ?_)
    refine lv_iload_n hx hb dX6_propose_25 rfl (lv_at hl 0 rfl) ?_
    refine lv_if_eq (tgt := 34) hx hb dX6_propose_26 (by decide) (fun c_4 => ?_) (fun c_4 => ?_)
    · refine lv_aload_n hx hb dX6_propose_34 rfl (lv_at hl 1 rfl) ?_
      refine zg5 E hs (k := 0) rfl 1 (by decide) rfl q_131 dX6_propose_35 ?_
      refine lv_aload_n hx hb dX6_propose_38 rfl (lv_at hl 1 rfl) ?_
      refine zg5 E hs (k := 0) rfl 0 (by decide) rfl q_130 dX6_propose_39 ?_
      refine zVV E hs lkX6_71 [] (c_X1_record l x arr_2 fd o z hof hz ho hz4) (by decide) (sh0 rfl) rfl ⟨Nat.le_of_ble_eq_true rfl, Nat.le_of_ble_eq_true rfl⟩ rfl hl.1 (Nat.le_of_ble_eq_true rfl) rfl dX6_propose_42 (fun arr_5 fdr_5 H locs hp_6 hs => ?_)
      rw [show arr_5 = (sp_record arr_2 fd o z).1 from congrArg Prod.fst hp_6, show fdr_5 = (sp_record arr_2 fd o z).2 from congrArg Prod.snd hp_6] at hs
      rw [(rec_J hJ_r_2).2] at hs
      refine lv_aload_n hx hb dX6_propose_45 rfl (lv_at hl 1 rfl) ?_
      refine zg5 E hs (k := 0) rfl 0 (by decide) rfl q_130 dX6_propose_46 ?_
      refine lv_iconst (v := nI 1) hx hb dX6_propose_49 (by decide) ?_
      refine zp3_10 E hs (k := 1) (hk := rfl)  q_56 dX6_propose_50 (fun H locs hs => ?_)
      refine lv_aload_n hx hb dX6_propose_53 rfl (lv_at hl 1 rfl) ?_
      refine zg5 E hs (k := 0) rfl 0 (by decide) rfl q_130 dX6_propose_54 ?_
      refine zVP E hs lkX6_129 [] (c_X4_left l x ((sp_record arr_2 fd o z).1) (zu ((sp_record ar fd o z).2) 1 (zu (((sp_record ar fd o z).2) 1) 10 (nI 1)))) (by decide) (sh3 rfl) rfl ⟨Nat.le_of_ble_eq_true rfl, Nat.le_of_ble_eq_true rfl⟩ rfl hl.1 (Nat.le_of_ble_eq_true rfl) rfl dX6_propose_57 (fun r_7 H locs hp_8 hs => ?_)
      subst hp_8
      exact zeI E hs ⟨(by unfold sp_propose; rw [iz_t c_1, iz_t c_4]), (by unfold sp_propose; rw [iz_t c_1, iz_t c_4]; exact (rec_J hJ_r_2).1), (by unfold sp_propose; rw [iz_t c_1, iz_t c_4])⟩ dX6_propose_60
    · refine lv_bipush (v := (-10)) hx hb dX6_propose_29 (by decide) ?_
      refine lv_iload_n hx hb dX6_propose_31 rfl (lv_at hl 0 rfl) ?_
      refine lv_isub hx hb dX6_propose_32 ?_
      exact zeI E hs ⟨(by unfold sp_propose; rw [iz_t c_1, iz_f c_4]), (by unfold sp_propose; rw [iz_t c_1, iz_f c_4]; exact hJ_r_2), (by unfold sp_propose; rw [iz_t c_1, iz_f c_4])⟩ dX6_propose_33
  · refine lv_bipush (v := (-4)) hx hb dX6_propose_10 (by decide) ?_
    exact zeI E hs ⟨(by unfold sp_propose; rw [iz_f c_1]), (by unfold sp_propose; rw [iz_f c_1]; exact JQ.rf _), (by unfold sp_propose; rw [iz_f c_1])⟩ dX6_propose_12

noncomputable def sp_freeze (ar fd : AR) (w f o z n : Nat) (v : Int32) : Int32 × AR × AR := iz (fd 1 10 = nI 1) (iz (¬ v < 0 ∧ ¬ fd 1 7 - fd 1 8 ≤ v) ((((sp_takePart ((sp_record ar fd o z).1) ((sp_record ar fd o z).2) w f v).2) 1 8, (sp_takePart ((sp_record ar fd o z).1) ((sp_record ar fd o z).2) w f v).1, (sp_takePart ((sp_record ar fd o z).1) ((sp_record ar fd o z).2) w f v).2)) (((-1), ar, fd))) (((-4), ar, fd))
set_option maxHeartbeats 4000000 in
set_option maxRecDepth 100000 in
/-- freeze -/
theorem c_X6_freeze (l : Launch) (x : CT) (ar fd : AR) (w f o z n : Nat) (hc : CInv ar fd w f o z n) (hst : fd 1 10 = nI 1 → f < w) (v : Int32) : CI l yX6_freeze cX6_freeze 2 (some .int) 4 86 x [.ref (xa x 0), .int v] ar fd (fun r ar' fd' => (r, ar', fd') = sp_freeze ar fd w f o z n v) := by
  refine zsI (own := RX6) rfl (by decide +kernel) (Nat.le_of_ble_eq_true rfl) ?_
  intro p e s m below meth c ls E hs hl
  have hx := E.1
  have hb := E.2.1
  have hl : lv_has ls 2 [(0, .ref (xa x 0)), (1, .int v)] := hl
  obtain ⟨hw, hf, hfw, hw9, hw2, hof, hz, ho, hz4, hn, hn60, hC⟩ := id hc
  have hf9 : f ≤ 9 := by omega
  refine lv_aload_n hx hb dX6_freeze_0 rfl (lv_at hl 0 rfl) ?_
  refine zg5 E hs (k := 0) rfl 0 (by decide) rfl q_130 dX6_freeze_1 ?_
  refine zg3 E hs (k := 1) rfl 10 (by decide) rfl q_56 dX6_freeze_4 ?_
  refine lv_iconst (v := nI 1) hx hb dX6_freeze_7 (by decide) ?_
  refine lv_icmp_eq (tgt := 14) hx hb dX6_freeze_8 (by decide) (fun c_1 => ?_) (fun c_1 => ?_)
  · refine lv_aload_n hx hb dX6_freeze_14 rfl (lv_at hl 0 rfl) ?_
    refine zg5 E hs (k := 0) rfl 0 (by decide) rfl q_130 dX6_freeze_15 ?_
    refine lv_iload_n hx hb dX6_freeze_18 rfl (lv_at hl 1 rfl) ?_
    refine zVP E hs lkX6_102 [] (c_X4_isPart l x ar fd v) (by decide) (sh3 rfl) rfl ⟨Nat.le_of_ble_eq_true rfl, Nat.le_of_ble_eq_true rfl⟩ rfl hl.1 (Nat.le_of_ble_eq_true rfl) rfl dX6_freeze_19 (fun r_2 H locs hp_3 hs => ?_)
    subst hp_3
    refine lv_if_ne (tgt := 27) hx hb dX6_freeze_22 (by decide) (fun c_4 => ?_) (fun c_4 => ?_)
    · have c_4 : ¬ v < 0 ∧ ¬ fd 1 7 - fd 1 8 ≤ v := bz_1 c_4
      have hfl := hst c_1
      refine lv_aload_n hx hb dX6_freeze_27 rfl (lv_at hl 0 rfl) ?_
      refine zg5 E hs (k := 0) rfl 1 (by decide) rfl q_131 dX6_freeze_28 ?_
      refine lv_aload_n hx hb dX6_freeze_31 rfl (lv_at hl 0 rfl) ?_
      refine zg5 E hs (k := 0) rfl 0 (by decide) rfl q_130 dX6_freeze_32 ?_
      refine zVV E hs lkX6_71 [] (c_X1_record l x ar fd o z hof hz ho hz4) (by decide) (sh0 rfl) rfl ⟨Nat.le_of_ble_eq_true rfl, Nat.le_of_ble_eq_true rfl⟩ rfl hl.1 (Nat.le_of_ble_eq_true rfl) rfl dX6_freeze_35 (fun arr_5 fdr_5 H locs hp_6 hs => ?_)
      rw [show arr_5 = (sp_record ar fd o z).1 from congrArg Prod.fst hp_6, show fdr_5 = (sp_record ar fd o z).2 from congrArg Prod.snd hp_6] at hs
      refine lv_aload_n hx hb dX6_freeze_38 rfl (lv_at hl 0 rfl) ?_
      refine zg5 E hs (k := 0) rfl 0 (by decide) rfl q_130 dX6_freeze_39 ?_
      refine lv_iload_n hx hb dX6_freeze_42 rfl (lv_at hl 1 rfl) ?_
      refine zVV E hs lkX6_136 [] (c_X4_takePart l x ((sp_record ar fd o z).1) ((sp_record ar fd o z).2) w f (by rw [rec_fd (by decide)]; exact hw) (by rw [rec_fd (by decide)]; exact hf) hfw hw9 hw2 (by omega) v) (by decide) (sh3 rfl) rfl ⟨Nat.le_of_ble_eq_true rfl, Nat.le_of_ble_eq_true rfl⟩ rfl hl.1 (Nat.le_of_ble_eq_true rfl) rfl dX6_freeze_43 (fun arr_7 fdr_7 H locs hp_8 hs => ?_)
      rw [show arr_7 = (sp_takePart ((sp_record ar fd o z).1) ((sp_record ar fd o z).2) w f v).1 from congrArg Prod.fst hp_8, show fdr_7 = (sp_takePart ((sp_record ar fd o z).1) ((sp_record ar fd o z).2) w f v).2 from congrArg Prod.snd hp_8] at hs
      refine lv_aload_n hx hb dX6_freeze_46 rfl (lv_at hl 0 rfl) ?_
      refine zg5 E hs (k := 0) rfl 0 (by decide) rfl q_130 dX6_freeze_47 ?_
      refine zg3 E hs (k := 1) rfl 8 (by decide) rfl q_53 dX6_freeze_50 ?_
      exact zeI E hs (by show (_, _, _) = sp_freeze ar fd w f o z n v; unfold sp_freeze; rw [iz_t c_1, iz_t c_4]) dX6_freeze_53
    · have c_4 : ¬ (¬ v < 0 ∧ ¬ fd 1 7 - fd 1 8 ≤ v) := bz_0 c_4
      refine lv_iconst (v := (-1)) hx hb dX6_freeze_25 (by decide) ?_
      exact zeI E hs (by show (_, _, _) = sp_freeze ar fd w f o z n v; unfold sp_freeze; rw [iz_t c_1, iz_f c_4]) dX6_freeze_26
  · refine lv_bipush (v := (-4)) hx hb dX6_freeze_11 (by decide) ?_
    exact zeI E hs (by show (_, _, _) = sp_freeze ar fd w f o z n v; unfold sp_freeze; rw [iz_f c_1]) dX6_freeze_13

noncomputable def sp_type (ar fd : AR) (w f o z n : Nat) (ch : Int32) : Int32 × AR × AR := iz (n < 60) ((nI (n + 1), zu ar 94 (zu (ar 94) n (vp_nar .char ch)), zu fd 93 (zu (fd 93) 1 (nI (n + 1))))) (((-3), ar, fd))
set_option maxHeartbeats 4000000 in
set_option maxRecDepth 100000 in
/-- type -/
theorem c_X6_type (l : Launch) (x : CT) (ar fd : AR) (w f o z n : Nat) (hc : CInv ar fd w f o z n) (ch : Int32) : CI l yX6_type cX6_type 2 (some .int) 1 21 x [.ref (xa x 0), .int ch] ar fd (fun r ar' fd' => (r, ar', fd') = sp_type ar fd w f o z n ch) := by
  refine zsI (own := RX6) rfl (by decide +kernel) (Nat.le_of_ble_eq_true rfl) ?_
  intro p e s m below meth c ls E hs hl
  have hx := E.1
  have hb := E.2.1
  have hl : lv_has ls 2 [(0, .ref (xa x 0)), (1, .int ch)] := hl
  obtain ⟨hw, hf, hfw, hw9, hw2, hof, hz, ho, hz4, hn, hn60, hC⟩ := id hc
  have hf9 : f ≤ 9 := by omega
  refine lv_aload_n hx hb dX6_type_0 rfl (lv_at hl 0 rfl) ?_
  refine zg5 E hs (k := 0) rfl 4 (by decide) rfl q_134 dX6_type_1 ?_
  refine lv_iload_n hx hb dX6_type_4 rfl (lv_at hl 1 rfl) ?_
  refine zVI E hs lkX6_139 [] (c_X5_append l x ar fd n hn hn60 ch) (by decide) (sh4 rfl) rfl ⟨Nat.le_of_ble_eq_true rfl, Nat.le_of_ble_eq_true rfl⟩ rfl hl.1 (Nat.le_of_ble_eq_true rfl) rfl dX6_type_5 (fun r_1 arr_1 fdr_1 H locs hp_2 hs => ?_)
  have hq_r_1 : r_1 = bz (n < 60) ∧ arr_1 = iz (n < 60) (zu ar 94 (zu (ar 94) n (vp_nar .char ch))) ar ∧ fdr_1 = iz (n < 60) (zu fd 93 (zu (fd 93) 1 (nI (n + 1)))) fd := by
    unfold sp_append at hp_2
    by_cases h6 : n < 60
    · rw [iz_t h6] at hp_2; rw [bz_t h6, iz_t h6, iz_t h6]; exact ⟨congrArg (fun u => u.1) hp_2, congrArg (fun u => u.2.1) hp_2, congrArg (fun u => u.2.2) hp_2⟩
    · rw [iz_f h6] at hp_2; rw [bz_f h6, iz_f h6, iz_f h6]; exact ⟨congrArg (fun u => u.1) hp_2, congrArg (fun u => u.2.1) hp_2, congrArg (fun u => u.2.2) hp_2⟩
  rw [hq_r_1.2.1, hq_r_1.2.2] at hs
  refine tp (b := bz (n < 60)) hq_r_1.1 ?_
  refine lv_if_ne (tgt := 14) hx hb dX6_type_8 (by decide) (fun c_3 => ?_) (fun c_3 => ?_)
  · have c_3 : n < 60 := bz_1 c_3
    rw [iz_t c_3, iz_t c_3] at hs
    refine lv_aload_n hx hb dX6_type_14 rfl (lv_at hl 0 rfl) ?_
    refine zg5 E hs (k := 0) rfl 4 (by decide) rfl q_134 dX6_type_15 ?_
    refine zVP E hs lkX6_143 [] (c_X5_length l x (zu ar 94 (zu (ar 94) n (vp_nar .char ch))) (zu fd 93 (zu (fd 93) 1 (nI (n + 1)))) (n + 1) (by rw [zu_s, zu_s]) (by omega)) (by decide) (sh4 rfl) rfl ⟨Nat.le_of_ble_eq_true rfl, Nat.le_of_ble_eq_true rfl⟩ rfl hl.1 (Nat.le_of_ble_eq_true rfl) rfl dX6_type_18 (fun r_4 H locs hp_5 hs => ?_)
    subst hp_5
    exact zeI E hs (by show (_, _, _) = sp_type ar fd w f o z n ch; unfold sp_type; rw [iz_t c_3]) dX6_type_21
  · have c_3 : ¬ (n < 60) := bz_0 c_3
    rw [iz_f c_3, iz_f c_3] at hs
    refine lv_bipush (v := (-3)) hx hb dX6_type_11 (by decide) ?_
    exact zeI E hs (by show (_, _, _) = sp_type ar fd w f o z n ch; unfold sp_type; rw [iz_f c_3]) dX6_type_13

noncomputable def sp_clearText (ar fd : AR) (w f o z n : Nat) : Int32 × AR × AR := (nI n, (sp_empty ar fd).1, (sp_empty ar fd).2)
set_option maxHeartbeats 4000000 in
set_option maxRecDepth 100000 in
/-- clearText -/
theorem c_X6_clearText (l : Launch) (x : CT) (ar fd : AR) (w f o z n : Nat) (hc : CInv ar fd w f o z n) : CI l yX6_clearText cX6_clearText 2 (some .int) 1 20 x [.ref (xa x 0)] ar fd (fun r ar' fd' => (r, ar', fd') = sp_clearText ar fd w f o z n) := by
  refine zsI (own := RX6) rfl (by decide +kernel) (Nat.le_of_ble_eq_true rfl) ?_
  intro p e s m below meth c ls E hs hl
  have hx := E.1
  have hb := E.2.1
  have hl : lv_has ls 2 [(0, .ref (xa x 0))] := hl
  obtain ⟨hw, hf, hfw, hw9, hw2, hof, hz, ho, hz4, hn, hn60, hC⟩ := id hc
  have hf9 : f ≤ 9 := by omega
  refine lv_aload_n hx hb dX6_clearText_0 rfl (lv_at hl 0 rfl) ?_
  refine zg5 E hs (k := 0) rfl 4 (by decide) rfl q_134 dX6_clearText_1 ?_
  refine zVP E hs lkX6_143 [] (c_X5_length l x ar fd n hn hn60) (by decide) (sh4 rfl) rfl ⟨Nat.le_of_ble_eq_true rfl, Nat.le_of_ble_eq_true rfl⟩ rfl hl.1 (Nat.le_of_ble_eq_true rfl) rfl dX6_clearText_4 (fun r_1 H locs hp_2 hs => ?_)
  subst hp_2
  refine lv_istore_n (lv' := [(1, .int (nI n)), (0, .ref (xa x 0))]) hx hb dX6_clearText_7 rfl hl (by decide) rfl (fun ls hl => ?_)
  refine lv_aload_n hx hb dX6_clearText_8 rfl (lv_at hl 1 rfl) ?_
  refine zg5 E hs (k := 0) rfl 4 (by decide) rfl q_134 dX6_clearText_9 ?_
  refine zVV E hs lkX6_146 [] (c_X5_empty l x ar fd) (by decide) (sh4 rfl) rfl ⟨Nat.le_of_ble_eq_true rfl, Nat.le_of_ble_eq_true rfl⟩ rfl hl.1 (Nat.le_of_ble_eq_true rfl) rfl dX6_clearText_12 (fun arr_3 fdr_3 H locs hp_4 hs => ?_)
  rw [show arr_3 = (sp_empty ar fd).1 from congrArg Prod.fst hp_4, show fdr_3 = (sp_empty ar fd).2 from congrArg Prod.snd hp_4] at hs
  refine lv_iload_n hx hb dX6_clearText_15 rfl (lv_at hl 0 rfl) ?_
  exact zeI E hs (by show (_, _, _) = sp_clearText ar fd w f o z n; unfold sp_clearText; rfl) dX6_clearText_16

set_option maxHeartbeats 4000000 in
set_option maxRecDepth 100000 in
/-- readVotes -/
theorem c_X6_readVotes (l : Launch) (x : CT) (ar fd : AR) (w f o z n : Nat) (hc : CInv ar fd w f o z n) (a : Int32) : CI l yX6_readVotes cX6_readVotes 5 (some .int) 4 86 x [.ref (xa x 0), .int a] ar fd (fun r ar' fd' => (r, ar', fd') = sp_readVotes ar fd w f o z n a) := by
  refine zsI (own := RX6) rfl (by decide +kernel) (Nat.le_of_ble_eq_true rfl) ?_
  intro p e s m below meth c ls E hs hl
  have hx := E.1
  have hb := E.2.1
  have hl : lv_has ls 5 [(0, .ref (xa x 0)), (1, .int a)] := hl
  obtain ⟨hw, hf, hfw, hw9, hw2, hof, hz, ho, hz4, hn, hn60, hC⟩ := id hc
  have hf9 : f ≤ 9 := by omega
  refine lv_iload_n hx hb dX6_readVotes_0 rfl (lv_at hl 1 rfl) ?_
  refine zSP E hs lkX6_53 [] (c_X6_isCell l x ar fd a) ⟨Nat.le_of_ble_eq_true rfl, Nat.le_of_ble_eq_true rfl⟩ rfl hl.1 (Nat.le_of_ble_eq_true rfl) rfl dX6_readVotes_1 (fun r_1 H locs hp_2 hs => ?_)
  subst hp_2
  refine lv_if_ne (tgt := 9) hx hb dX6_readVotes_4 (by decide) (fun c_3 => ?_) (fun c_3 => ?_)
  · have c_3 : ¬ a < nI 0 ∧ ¬ nI 35 < a := bz_1 c_3
    obtain ⟨hlt_a, heq_a⟩ := cell_of c_3 (by decide)
    rw [heq_a] at hl
    refine lv_aload_n hx hb dX6_readVotes_9 rfl (lv_at hl 0 rfl) ?_
    refine zg5 E hs (k := 0) rfl 4 (by decide) rfl q_134 dX6_readVotes_10 ?_
    refine zVP E hs lkX6_149 [] (c_X5_fault l x ar fd n hn hn60 hC) (by decide) (sh4 rfl) rfl ⟨Nat.le_of_ble_eq_true rfl, Nat.le_of_ble_eq_true rfl⟩ rfl hl.1 (Nat.le_of_ble_eq_true rfl) rfl dX6_readVotes_13 (fun r_4 H locs hp_5 hs => ?_)
    subst hp_5
    refine lv_istore_n (lv' := [(2, .int (flt (ar 94) n)), (0, .ref (xa x 0)), (1, .int (nI a.toNatClampNeg))]) hx hb dX6_readVotes_16 rfl hl (by decide) rfl (fun ls hl => ?_)
    refine lv_iload_n hx hb dX6_readVotes_17 rfl (lv_at hl 0 rfl) ?_
    refine lv_iconst (v := (-1)) hx hb dX6_readVotes_18 (by decide) ?_
    refine lv_icmp_eq (tgt := 27) hx hb dX6_readVotes_19 (by decide) (fun c_6 => ?_) (fun c_6 => ?_)
    · refine lv_aload_n hx hb dX6_readVotes_27 rfl (lv_at hl 1 rfl) ?_
      refine zg5 E hs (k := 0) rfl 4 (by decide) rfl q_134 dX6_readVotes_28 ?_
      refine zVP E hs lkX6_152 [] (c_X5_pairs l x ar fd n hn hn60) (by decide) (sh4 rfl) rfl ⟨Nat.le_of_ble_eq_true rfl, Nat.le_of_ble_eq_true rfl⟩ rfl hl.1 (Nat.le_of_ble_eq_true rfl) rfl dX6_readVotes_31 (fun r_7 H locs hp_8 hs => ?_)
      subst hp_8
      refine lv_istore_n (lv' := [(3, .int (nI ((n + 1) / 3))), (2, .int (flt (ar 94) n)), (0, .ref (xa x 0)), (1, .int (nI a.toNatClampNeg))]) hx hb dX6_readVotes_34 rfl hl (by decide) rfl (fun ls hl => ?_)
      refine lv_iload_n hx hb dX6_readVotes_35 rfl (lv_at hl 0 rfl) ?_
      refine lv_bipush (v := nI 36) hx hb dX6_readVotes_36 (by decide) ?_
      refine lv_iload_n hx hb dX6_readVotes_38 rfl (lv_at hl 3 rfl) ?_
      refine lv_isub hx hb dX6_readVotes_39 ?_
      refine tp (b := nI (36 - a.toNatClampNeg)) (nI_sub (by omega)) ?_
      refine lv_icmp_le (tgt := 46) hx hb dX6_readVotes_40 (by decide) (fun c_9 => ?_) (fun c_9 => ?_)
      · have c_9 : (n + 1) / 3 ≤ 36 - a.toNatClampNeg := (nI_leI (a := (n + 1) / 3) (b := 36 - a.toNatClampNeg) (by omega) (by omega)).mp c_9
        refine lv_aload_n hx hb dX6_readVotes_46 rfl (lv_at hl 2 rfl) ?_
        refine zg5 E hs (k := 0) rfl 1 (by decide) rfl q_131 dX6_readVotes_47 ?_
        refine lv_aload_n hx hb dX6_readVotes_50 rfl (lv_at hl 2 rfl) ?_
        refine zg5 E hs (k := 0) rfl 0 (by decide) rfl q_130 dX6_readVotes_51 ?_
        refine zVV E hs lkX6_71 [] (c_X1_record l x ar fd o z hof hz ho hz4) (by decide) (sh0 rfl) rfl ⟨Nat.le_of_ble_eq_true rfl, Nat.le_of_ble_eq_true rfl⟩ rfl hl.1 (Nat.le_of_ble_eq_true rfl) rfl dX6_readVotes_54 (fun arr_10 fdr_10 H locs hp_11 hs => ?_)
        rw [show arr_10 = (sp_record ar fd o z).1 from congrArg Prod.fst hp_11, show fdr_10 = (sp_record ar fd o z).2 from congrArg Prod.snd hp_11] at hs
        refine lv_iconst (v := nI 0) hx hb dX6_readVotes_57 (by decide) ?_
        refine lv_istore (lv' := [(4, .int (nI 0)), (3, .int (nI ((n + 1) / 3))), (2, .int (flt (ar 94) n)), (0, .ref (xa x 0)), (1, .int (nI a.toNatClampNeg))]) hx hb dX6_readVotes_58 hl (by decide) rfl (fun ls hl => ?_)
        have L_12 : ∀ (mm : Nat) (j : Nat), ((n + 1) / 3 - j) < mm → (j ≤ (n + 1) / 3) → ∀ (H : Heap) (locs : List Loc) (ls : Array Slot), ST x (AA x) s.heap (rvA (sp_record ar fd o z).1 (ar 94) a.toNatClampNeg j) ((sp_record ar fd o z).2) H locs → lv_has ls 5 [(0, .ref (xa x 0)), (1, .int (nI a.toNatClampNeg)), (3, .int (nI ((n + 1) / 3))), (4, .int (nI j))] → W p l e (rmZ 4 86) s m ([.ref (xa x 0), .int a] : List Value).toArray below meth c H locs 0 0 (QI below x [.ref (xa x 0), .int a] s (fun r ar' fd' => (r, ar', fd') = sp_readVotes ar fd w f o z n a)) (F0 m 60 ls []) := by
          intro mm
          induction mm with
          | zero => intro j hmu; exact absurd hmu (Nat.not_lt_zero _)
          | succ mm ih_12 =>
            intro j hmu hj H locs ls hs hl
            refine lv_iload hx hb dX6_readVotes_60 (lv_at hl 3 rfl) ?_
            refine lv_iload_n hx hb dX6_readVotes_62 rfl (lv_at hl 2 rfl) ?_
            refine lv_icmp_ge (tgt := 120) hx hb dX6_readVotes_63 (by decide) (fun c_13 => ?_) (fun c_13 => ?_)
            · have c_13 : (n + 1) / 3 ≤ j := (nI_leI (a := (n + 1) / 3) (b := j) (by omega) (by omega)).mp c_13
              refine lv_iload_n hx hb dX6_readVotes_120 rfl (lv_at hl 2 rfl) ?_
              have hjm : j = (n + 1) / 3 := by omega
              subst hjm
              exact zeI E hs (by show (_, _, _) = sp_readVotes ar fd w f o z n a; unfold sp_readVotes; rw [iz_t c_3, iz_t c_6, iz_t c_9]) dX6_readVotes_121
            · have c_13 : ¬ ((n + 1) / 3 ≤ j) := fun h => c_13 ((nI_leI (a := (n + 1) / 3) (b := j) (by omega) (by omega)).mpr h)
              refine lv_aload_n hx hb dX6_readVotes_66 rfl (lv_at hl 0 rfl) ?_
              refine zg5 E hs (k := 0) rfl 0 (by decide) rfl q_130 dX6_readVotes_67 ?_
              refine zg3 E hs (k := 1) rfl 0 (by decide) rfl q_36 dX6_readVotes_70 ?_
              refine lv_iload_n hx hb dX6_readVotes_73 rfl (lv_at hl 1 rfl) ?_
              refine lv_iload hx hb dX6_readVotes_74 (lv_at hl 3 rfl) ?_
              refine lv_iadd hx hb dX6_readVotes_76 ?_
              refine tp (b := nI (a.toNatClampNeg + j)) (nI_add _ _) ?_
              refine lv_aload_n hx hb dX6_readVotes_77 rfl (lv_at hl 0 rfl) ?_
              refine zg5 E hs (k := 0) rfl 4 (by decide) rfl q_134 dX6_readVotes_78 ?_
              refine lv_iload hx hb dX6_readVotes_81 (lv_at hl 3 rfl) ?_
              refine lv_iconst (v := nI 0) hx hb dX6_readVotes_83 (by decide) ?_
              refine zVP E hs lkX6_155 [.int (nI (a.toNatClampNeg + j)), .ref (xa x 2)] (c_X5_votes l x (rvA (sp_record ar fd o z).1 (ar 94) a.toNatClampNeg j) ((sp_record ar fd o z).2) j 0 (by omega) (by rw [show (rvA (sp_record ar fd o z).1 (ar 94) a.toNatClampNeg j) 94 = ar 94 by rw [rv_n (by decide), rec_ar (by decide)]]; exact hC)) (by decide) (sh4 rfl) rfl ⟨Nat.le_of_ble_eq_true rfl, Nat.le_of_ble_eq_true rfl⟩ rfl hl.1 (Nat.le_of_ble_eq_true rfl) rfl dX6_readVotes_84 (fun r_14 H locs hp_15 hs => ?_)
              rw [show (rvA (sp_record ar fd o z).1 (ar 94) a.toNatClampNeg j) 94 = ar 94 by rw [rv_n (by decide), rec_ar (by decide)]] at hp_15
              subst hp_15
              refine zVV E hs lkX6_75 [] (c_X3_put l x 2 36 ro_2 (rvA (sp_record ar fd o z).1 (ar 94) a.toNatClampNeg j) ((sp_record ar fd o z).2) (nI (a.toNatClampNeg + j)) (ar 94 (j * 3 + 0) - nI 48)) (by decide) (sh2 rfl) rfl ⟨Nat.le_of_ble_eq_true rfl, Nat.le_of_ble_eq_true rfl⟩ rfl hl.1 (Nat.le_of_ble_eq_true rfl) rfl dX6_readVotes_87 (fun arr_16 fdr_16 H locs hp_17 hs => ?_)
              rw [hp_17.1, hp_17.2] at hs
              rw [rowPut_n (j := (a.toNatClampNeg + j)) (by omega) (by decide)] at hs
              refine lv_aload_n hx hb dX6_readVotes_90 rfl (lv_at hl 0 rfl) ?_
              refine zg5 E hs (k := 0) rfl 0 (by decide) rfl q_130 dX6_readVotes_91 ?_
              refine zg3 E hs (k := 1) rfl 1 (by decide) rfl q_38 dX6_readVotes_94 ?_
              refine lv_iload_n hx hb dX6_readVotes_97 rfl (lv_at hl 1 rfl) ?_
              refine lv_iload hx hb dX6_readVotes_98 (lv_at hl 3 rfl) ?_
              refine lv_iadd hx hb dX6_readVotes_100 ?_
              refine tp (b := nI (a.toNatClampNeg + j)) (nI_add _ _) ?_
              refine lv_aload_n hx hb dX6_readVotes_101 rfl (lv_at hl 0 rfl) ?_
              refine zg5 E hs (k := 0) rfl 4 (by decide) rfl q_134 dX6_readVotes_102 ?_
              refine lv_iload hx hb dX6_readVotes_105 (lv_at hl 3 rfl) ?_
              refine lv_iconst (v := nI 1) hx hb dX6_readVotes_107 (by decide) ?_
              refine zVP E hs lkX6_155 [.int (nI (a.toNatClampNeg + j)), .ref (xa x 4)] (c_X5_votes l x (zu (rvA (sp_record ar fd o z).1 (ar 94) a.toNatClampNeg j) 3 (zu ((rvA (sp_record ar fd o z).1 (ar 94) a.toNatClampNeg j) 3) (a.toNatClampNeg + j) (ar 94 (j * 3 + 0) - nI 48))) ((sp_record ar fd o z).2) j 1 (by omega) (by rw [show (zu (rvA (sp_record ar fd o z).1 (ar 94) a.toNatClampNeg j) 3 (zu ((rvA (sp_record ar fd o z).1 (ar 94) a.toNatClampNeg j) 3) (a.toNatClampNeg + j) (ar 94 (j * 3 + 0) - nI 48))) 94 = ar 94 by rw [zu_n _ _ (by decide), rv_n (by decide), rec_ar (by decide)]]; exact hC)) (by decide) (sh4 rfl) rfl ⟨Nat.le_of_ble_eq_true rfl, Nat.le_of_ble_eq_true rfl⟩ rfl hl.1 (Nat.le_of_ble_eq_true rfl) rfl dX6_readVotes_108 (fun r_18 H locs hp_19 hs => ?_)
              rw [show (zu (rvA (sp_record ar fd o z).1 (ar 94) a.toNatClampNeg j) 3 (zu ((rvA (sp_record ar fd o z).1 (ar 94) a.toNatClampNeg j) 3) (a.toNatClampNeg + j) (ar 94 (j * 3 + 0) - nI 48))) 94 = ar 94 by rw [zu_n _ _ (by decide), rv_n (by decide), rec_ar (by decide)]] at hp_19
              subst hp_19
              refine zVV E hs lkX6_75 [] (c_X3_put l x 4 36 ro_4 (zu (rvA (sp_record ar fd o z).1 (ar 94) a.toNatClampNeg j) 3 (zu ((rvA (sp_record ar fd o z).1 (ar 94) a.toNatClampNeg j) 3) (a.toNatClampNeg + j) (ar 94 (j * 3 + 0) - nI 48))) ((sp_record ar fd o z).2) (nI (a.toNatClampNeg + j)) (ar 94 (j * 3 + 1) - nI 48)) (by decide) (sh2 rfl) rfl ⟨Nat.le_of_ble_eq_true rfl, Nat.le_of_ble_eq_true rfl⟩ rfl hl.1 (Nat.le_of_ble_eq_true rfl) rfl dX6_readVotes_111 (fun arr_20 fdr_20 H locs hp_21 hs => ?_)
              rw [hp_21.1, hp_21.2] at hs
              rw [rowPut_n (j := (a.toNatClampNeg + j)) (by omega) (by decide)] at hs
              refine lv_iinc (v := nI (j + 1)) (lv' := [(4, .int (nI (j + 1))), (0, .ref (xa x 0)), (1, .int (nI a.toNatClampNeg)), (3, .int (nI ((n + 1) / 3)))]) hx hb dX6_readVotes_114 hl (k := 3) rfl (nI_inc _) (by decide) rfl (fun ls hl => ?_)
              refine lv_goto (tgt := 60) hx hb dX6_readVotes_117 (by decide) ?_
              exact ih_12 (j + 1) (by omega) (by omega) _ _ _ (by rw [rv_s] at hs; exact hs) (lvr (lv_at hl 1 rfl) (lvr (lv_at hl 2 rfl) (lvr (lv_at hl 3 rfl) (lvr (lv_at hl 0 rfl) (lvn hl)))))
        exact L_12 (_ + 1) 0 (Nat.lt_succ_self _) (by omega) _ _ _ (by rw [rv_0]; exact hs) (lvr (lv_at hl 3 rfl) (lvr (lv_at hl 4 rfl) (lvr (lv_at hl 1 rfl) (lvr (lv_at hl 0 rfl) (lvn hl)))))
      · have c_9 : ¬ ((n + 1) / 3 ≤ 36 - a.toNatClampNeg) := fun h => c_9 ((nI_leI (a := (n + 1) / 3) (b := 36 - a.toNatClampNeg) (by omega) (by omega)).mpr h)
        refine lv_bipush (v := (-2)) hx hb dX6_readVotes_43 (by decide) ?_
        exact zeI E hs (by show (_, _, _) = sp_readVotes ar fd w f o z n a; unfold sp_readVotes; rw [iz_t c_3, iz_t c_6, iz_f c_9]) dX6_readVotes_45
    · refine lv_bipush (v := (-100)) hx hb dX6_readVotes_22 (by decide) ?_
      refine lv_iload_n hx hb dX6_readVotes_24 rfl (lv_at hl 0 rfl) ?_
      refine lv_isub hx hb dX6_readVotes_25 ?_
      exact zeI E hs (by show (_, _, _) = sp_readVotes ar fd w f o z n a; unfold sp_readVotes; rw [iz_t c_3, iz_f c_6]) dX6_readVotes_26
  · have c_3 : ¬ (¬ a < nI 0 ∧ ¬ nI 35 < a) := bz_0 c_3
    refine lv_iconst (v := (-1)) hx hb dX6_readVotes_7 (by decide) ?_
    exact zeI E hs (by show (_, _, _) = sp_readVotes ar fd w f o z n a; unfold sp_readVotes; rw [iz_f c_3]) dX6_readVotes_8

noncomputable def sp_undo (ar fd : AR) (w f o z n : Nat) : Int32 × AR × AR := iz (z = 0) (((-5), ar, fd)) ((((sp_takeLatest ar fd o z).2) 16 2, (sp_takeLatest ar fd o z).1, (sp_takeLatest ar fd o z).2))
set_option maxHeartbeats 4000000 in
set_option maxRecDepth 100000 in
/-- undo -/
theorem c_X6_undo (l : Launch) (x : CT) (ar fd : AR) (w f o z n : Nat) (hc : CInv ar fd w f o z n) : CI l yX6_undo cX6_undo 1 (some .int) 4 86 x [.ref (xa x 0)] ar fd (fun r ar' fd' => (r, ar', fd') = sp_undo ar fd w f o z n) := by
  refine zsI (own := RX6) rfl (by decide +kernel) (Nat.le_of_ble_eq_true rfl) ?_
  intro p e s m below meth c ls E hs hl
  have hx := E.1
  have hb := E.2.1
  have hl : lv_has ls 1 [(0, .ref (xa x 0))] := hl
  obtain ⟨hw, hf, hfw, hw9, hw2, hof, hz, ho, hz4, hn, hn60, hC⟩ := id hc
  have hf9 : f ≤ 9 := by omega
  refine lv_aload_n hx hb dX6_undo_0 rfl (lv_at hl 0 rfl) ?_
  refine zg5 E hs (k := 0) rfl 1 (by decide) rfl q_131 dX6_undo_1 ?_
  refine zVP E hs lkX6_159 [] (c_X1_size l x ar fd) (by decide) (sh0 rfl) rfl ⟨Nat.le_of_ble_eq_true rfl, Nat.le_of_ble_eq_true rfl⟩ rfl hl.1 (Nat.le_of_ble_eq_true rfl) rfl dX6_undo_4 (fun r_1 H locs hp_2 hs => ?_)
  subst hp_2
  refine tp (b := nI z) hz ?_
  refine lv_if_ne (tgt := 13) hx hb dX6_undo_7 (by decide) (fun c_3 => ?_) (fun c_3 => ?_)
  · have c_3 : ¬ (z = 0) := fun h => c_3 ((nI_eq (a := z) (b := 0) (by omega) (by omega)).mpr h)
    refine lv_aload_n hx hb dX6_undo_13 rfl (lv_at hl 0 rfl) ?_
    refine zg5 E hs (k := 0) rfl 1 (by decide) rfl q_131 dX6_undo_14 ?_
    refine lv_aload_n hx hb dX6_undo_17 rfl (lv_at hl 0 rfl) ?_
    refine zg5 E hs (k := 0) rfl 0 (by decide) rfl q_130 dX6_undo_18 ?_
    refine zVV E hs lkX6_160 [] (c_X1_takeLatest l x ar fd o z hof hz ho hz4 (by omega)) (by decide) (sh0 rfl) rfl ⟨Nat.le_of_ble_eq_true rfl, Nat.le_of_ble_eq_true rfl⟩ rfl hl.1 (Nat.le_of_ble_eq_true rfl) rfl dX6_undo_21 (fun arr_4 fdr_4 H locs hp_5 hs => ?_)
    rw [show arr_4 = (sp_takeLatest ar fd o z).1 from congrArg Prod.fst hp_5, show fdr_4 = (sp_takeLatest ar fd o z).2 from congrArg Prod.snd hp_5] at hs
    refine lv_aload_n hx hb dX6_undo_24 rfl (lv_at hl 0 rfl) ?_
    refine zg5 E hs (k := 0) rfl 1 (by decide) rfl q_131 dX6_undo_25 ?_
    refine zVP E hs lkX6_159 [] (c_X1_size l x ((sp_takeLatest ar fd o z).1) ((sp_takeLatest ar fd o z).2)) (by decide) (sh0 rfl) rfl ⟨Nat.le_of_ble_eq_true rfl, Nat.le_of_ble_eq_true rfl⟩ rfl hl.1 (Nat.le_of_ble_eq_true rfl) rfl dX6_undo_28 (fun r_6 H locs hp_7 hs => ?_)
    subst hp_7
    exact zeI E hs (by show (_, _, _) = sp_undo ar fd w f o z n; unfold sp_undo; rw [iz_f c_3]) dX6_undo_31
  · have c_3 : z = 0 := (nI_eq (a := z) (b := 0) (by omega) (by omega)).mp c_3
    refine lv_bipush (v := (-5)) hx hb dX6_undo_10 (by decide) ?_
    exact zeI E hs (by show (_, _, _) = sp_undo ar fd w f o z n; unfold sp_undo; rw [iz_t c_3]) dX6_undo_12

noncomputable def sp_keep (ar fd : AR) (w f o z n : Nat) : Int32 × AR × AR := ((zu (zu fd 78 (fd 1)) 0 (zu ((zu fd 78 (fd 1)) 0) 3 (nI 1))) 1 8, cpA 78 1 ar, zu (zu fd 78 (fd 1)) 0 (zu ((zu fd 78 (fd 1)) 0) 3 (nI 1)))
set_option maxHeartbeats 4000000 in
set_option maxRecDepth 100000 in
/-- keep -/
theorem c_X6_keep (l : Launch) (x : CT) (ar fd : AR) (w f o z n : Nat) (hc : CInv ar fd w f o z n) : CI l yX6_keep cX6_keep 1 (some .int) 3 64 x [.ref (xa x 0)] ar fd (fun r ar' fd' => (r, ar', fd') = sp_keep ar fd w f o z n) := by
  refine zsI (own := RX6) rfl (by decide +kernel) (Nat.le_of_ble_eq_true rfl) ?_
  intro p e s m below meth c ls E hs hl
  have hx := E.1
  have hb := E.2.1
  have hl : lv_has ls 1 [(0, .ref (xa x 0))] := hl
  obtain ⟨hw, hf, hfw, hw9, hw2, hof, hz, ho, hz4, hn, hn60, hC⟩ := id hc
  have hf9 : f ≤ 9 := by omega
  refine lv_aload_n hx hb dX6_keep_0 rfl (lv_at hl 0 rfl) ?_
  refine zg5 E hs (k := 0) rfl 2 (by decide) rfl q_132 dX6_keep_1 ?_
  refine lv_aload_n hx hb dX6_keep_4 rfl (lv_at hl 0 rfl) ?_
  refine zg5 E hs (k := 0) rfl 0 (by decide) rfl q_130 dX6_keep_5 ?_
  refine zVV E hs lkX6_163 [] (c_X4_copy l x 78 1 sb_78 sb_1 (by decide) ar fd) (by decide) (sh3 rfl) rfl ⟨Nat.le_of_ble_eq_true rfl, Nat.le_of_ble_eq_true rfl⟩ rfl hl.1 (Nat.le_of_ble_eq_true rfl) rfl dX6_keep_8 (fun arr_1 fdr_1 H locs hp_2 hs => ?_)
  rw [hp_2.1, hp_2.2] at hs
  refine lv_aload_n hx hb dX6_keep_11 rfl (lv_at hl 0 rfl) ?_
  refine lv_iconst (v := nI 1) hx hb dX6_keep_12 (by decide) ?_
  refine zp5_3 E hs (k := 0) (hk := rfl) (hb1 := Or.inr rfl)  q_133 dX6_keep_13 (fun H locs hs => ?_)
  refine lv_aload_n hx hb dX6_keep_16 rfl (lv_at hl 0 rfl) ?_
  refine zg5 E hs (k := 0) rfl 0 (by decide) rfl q_130 dX6_keep_17 ?_
  refine zg3 E hs (k := 1) rfl 8 (by decide) rfl q_53 dX6_keep_20 ?_
  exact zeI E hs (by show (_, _, _) = sp_keep ar fd w f o z n; unfold sp_keep; rfl) dX6_keep_23

noncomputable def sp_restore (ar fd : AR) (w f o z n : Nat) : Int32 × AR × AR := iz (fd 0 3 = 0) (((-5), ar, fd)) (((zu ((sp_record ar fd o z).2) 1 (((sp_record ar fd o z).2) 78)) 1 8, cpA 1 78 ((sp_record ar fd o z).1), zu ((sp_record ar fd o z).2) 1 (((sp_record ar fd o z).2) 78)))
set_option maxHeartbeats 4000000 in
set_option maxRecDepth 100000 in
/-- restore -/
theorem c_X6_restore (l : Launch) (x : CT) (ar fd : AR) (w f o z n : Nat) (hc : CInv ar fd w f o z n) : CI l yX6_restore cX6_restore 1 (some .int) 4 86 x [.ref (xa x 0)] ar fd (fun r ar' fd' => (r, ar', fd') = sp_restore ar fd w f o z n) := by
  refine zsI (own := RX6) rfl (by decide +kernel) (Nat.le_of_ble_eq_true rfl) ?_
  intro p e s m below meth c ls E hs hl
  have hx := E.1
  have hb := E.2.1
  have hl : lv_has ls 1 [(0, .ref (xa x 0))] := hl
  obtain ⟨hw, hf, hfw, hw9, hw2, hof, hz, ho, hz4, hn, hn60, hC⟩ := id hc
  have hf9 : f ≤ 9 := by omega
  refine lv_aload_n hx hb dX6_restore_0 rfl (lv_at hl 0 rfl) ?_
  refine zg5 E hs (k := 0) rfl 3 (by decide) rfl q_133 dX6_restore_1 ?_
  refine lv_if_ne (tgt := 10) hx hb dX6_restore_4 (by decide) (fun c_1 => ?_) (fun c_1 => ?_)
  · refine lv_aload_n hx hb dX6_restore_10 rfl (lv_at hl 0 rfl) ?_
    refine zg5 E hs (k := 0) rfl 1 (by decide) rfl q_131 dX6_restore_11 ?_
    refine lv_aload_n hx hb dX6_restore_14 rfl (lv_at hl 0 rfl) ?_
    refine zg5 E hs (k := 0) rfl 0 (by decide) rfl q_130 dX6_restore_15 ?_
    refine zVV E hs lkX6_71 [] (c_X1_record l x ar fd o z hof hz ho hz4) (by decide) (sh0 rfl) rfl ⟨Nat.le_of_ble_eq_true rfl, Nat.le_of_ble_eq_true rfl⟩ rfl hl.1 (Nat.le_of_ble_eq_true rfl) rfl dX6_restore_18 (fun arr_2 fdr_2 H locs hp_3 hs => ?_)
    rw [show arr_2 = (sp_record ar fd o z).1 from congrArg Prod.fst hp_3, show fdr_2 = (sp_record ar fd o z).2 from congrArg Prod.snd hp_3] at hs
    refine lv_aload_n hx hb dX6_restore_21 rfl (lv_at hl 0 rfl) ?_
    refine zg5 E hs (k := 0) rfl 0 (by decide) rfl q_130 dX6_restore_22 ?_
    refine lv_aload_n hx hb dX6_restore_25 rfl (lv_at hl 0 rfl) ?_
    refine zg5 E hs (k := 0) rfl 2 (by decide) rfl q_132 dX6_restore_26 ?_
    refine zVV E hs lkX6_163 [] (c_X4_copy l x 1 78 sb_1 sb_78 (by decide) ((sp_record ar fd o z).1) ((sp_record ar fd o z).2)) (by decide) (sh3 rfl) rfl ⟨Nat.le_of_ble_eq_true rfl, Nat.le_of_ble_eq_true rfl⟩ rfl hl.1 (Nat.le_of_ble_eq_true rfl) rfl dX6_restore_29 (fun arr_4 fdr_4 H locs hp_5 hs => ?_)
    rw [hp_5.1, hp_5.2] at hs
    refine lv_aload_n hx hb dX6_restore_32 rfl (lv_at hl 0 rfl) ?_
    refine zg5 E hs (k := 0) rfl 0 (by decide) rfl q_130 dX6_restore_33 ?_
    refine zg3 E hs (k := 1) rfl 8 (by decide) rfl q_53 dX6_restore_36 ?_
    exact zeI E hs (by show (_, _, _) = sp_restore ar fd w f o z n; unfold sp_restore; rw [iz_f c_1]) dX6_restore_39
  · refine lv_bipush (v := (-5)) hx hb dX6_restore_7 (by decide) ?_
    exact zeI E hs (by show (_, _, _) = sp_restore ar fd w f o z n; unfold sp_restore; rw [iz_t c_1]) dX6_restore_9
