noncomputable def sp_cell (ar fd : AR) (w f o z n : Nat) (a q : Int32) : Int32 := iz (¬ a < nI 0 ∧ ¬ nI 35 < a) (iz (q = nI 0) (ar 3 a.toNatClampNeg) (iz (q = nI 1) (ar 5 a.toNatClampNeg) (iz (q = nI 2) (nnI (ar 7 a.toNatClampNeg)) (iz (q = nI 3) (nnI (ar 9 a.toNatClampNeg)) (iz (q = nI 4) (iz (ar 9 a.toNatClampNeg = -1) (alI (ar 7) a.toNatClampNeg) (alI (ar 9) a.toNatClampNeg)) ((-2))))))) ((-1))
set_option maxHeartbeats 4000000 in
set_option maxRecDepth 100000 in
/-- cell -/
theorem c_X6_cell (l : Launch) (x : CT) (ar fd : AR) (w f o z n : Nat) (hc : CInv ar fd w f o z n) (a q : Int32) : CP l yX6_cell cX6_cell 3 (some .int) 2 46 x [.ref (xa x 0), .int a, .int q] ar fd (fun r => r = sp_cell ar fd w f o z n a q) := by
  refine zsP (own := RX6) rfl (by decide +kernel) (Nat.le_of_ble_eq_true rfl) ?_
  intro p e s m below meth c ls E hs hl
  have hx := E.1
  have hb := E.2.1
  have hl : lv_has ls 3 [(0, .ref (xa x 0)), (1, .int a), (2, .int q)] := hl
  obtain ⟨hw, hf, hfw, hw9, hw2, hof, hz, ho, hz4, hn, hn60, hC⟩ := id hc
  have hf9 : f ≤ 9 := by omega
  refine lv_iload_n hx hb dX6_cell_0 rfl (lv_at hl 1 rfl) ?_
  refine zSP E hs lkX6_53 [] (c_X6_isCell l x ar fd a) ⟨Nat.le_of_ble_eq_true rfl, Nat.le_of_ble_eq_true rfl⟩ rfl hl.1 (Nat.le_of_ble_eq_true rfl) rfl dX6_cell_1 (fun r_1 H locs hp_2 hs => ?_)
  subst hp_2
  refine lv_if_ne (tgt := 9) hx hb dX6_cell_4 (by decide) (fun c_3 => ?_) (fun c_3 => ?_)
  · have c_3 : ¬ a < nI 0 ∧ ¬ nI 35 < a := bz_1 c_3
    obtain ⟨hlt_a, heq_a⟩ := cell_of c_3 (by decide)
    rw [heq_a] at hl
    refine lv_iload_n hx hb dX6_cell_9 rfl (lv_at hl 2 rfl) ?_
    by_cases c_4 : q = nI 0
    · refine lv_tableIn (off := 34) (tgt := 44) hx hb dX6_cell_10 (by rw [c_4]; decide) (by rw [c_4]; decide) (by rw [c_4]; first | rfl | decide) (by decide) ?_
      refine lv_aload_n hx hb dX6_cell_44 rfl (lv_at hl 0 rfl) ?_
      refine zg5 E hs (k := 0) rfl 0 (by decide) rfl q_130 dX6_cell_45 ?_
      refine zg3 E hs (k := 1) rfl 0 (by decide) rfl q_36 dX6_cell_48 ?_
      refine lv_iload_n hx hb dX6_cell_51 rfl (lv_at hl 1 rfl) ?_
      refine zVP E hs lkX6_64 [] (c_X3_at l x 2 36 ro_2 ar fd (nI a.toNatClampNeg)) (by decide) (sh2 rfl) rfl ⟨Nat.le_of_ble_eq_true rfl, Nat.le_of_ble_eq_true rfl⟩ rfl hl.1 (Nat.le_of_ble_eq_true rfl) rfl dX6_cell_52 (fun r_5 H locs hp_6 hs => ?_)
      subst hp_6
      refine tp (b := ar 3 a.toNatClampNeg) (rowAt_n (by omega) (by decide)) ?_
      exact zeP E hs (by show _ = sp_cell ar fd w f o z n a q; unfold sp_cell; rw [iz_t c_3, iz_t c_4]) dX6_cell_55
    by_cases c_7 : q = nI 1
    · refine lv_tableIn (off := 46) (tgt := 56) hx hb dX6_cell_10 (by rw [c_7]; decide) (by rw [c_7]; decide) (by rw [c_7]; first | rfl | decide) (by decide) ?_
      refine lv_aload_n hx hb dX6_cell_56 rfl (lv_at hl 0 rfl) ?_
      refine zg5 E hs (k := 0) rfl 0 (by decide) rfl q_130 dX6_cell_57 ?_
      refine zg3 E hs (k := 1) rfl 1 (by decide) rfl q_38 dX6_cell_60 ?_
      refine lv_iload_n hx hb dX6_cell_63 rfl (lv_at hl 1 rfl) ?_
      refine zVP E hs lkX6_64 [] (c_X3_at l x 4 36 ro_4 ar fd (nI a.toNatClampNeg)) (by decide) (sh2 rfl) rfl ⟨Nat.le_of_ble_eq_true rfl, Nat.le_of_ble_eq_true rfl⟩ rfl hl.1 (Nat.le_of_ble_eq_true rfl) rfl dX6_cell_64 (fun r_8 H locs hp_9 hs => ?_)
      subst hp_9
      refine tp (b := ar 5 a.toNatClampNeg) (rowAt_n (by omega) (by decide)) ?_
      exact zeP E hs (by show _ = sp_cell ar fd w f o z n a q; unfold sp_cell; rw [iz_t c_3, iz_f c_4, iz_t c_7]) dX6_cell_67
    by_cases c_10 : q = nI 2
    · refine lv_tableIn (off := 58) (tgt := 68) hx hb dX6_cell_10 (by rw [c_10]; decide) (by rw [c_10]; decide) (by rw [c_10]; first | rfl | decide) (by decide) ?_
      refine lv_aload_n hx hb dX6_cell_68 rfl (lv_at hl 0 rfl) ?_
      refine zg5 E hs (k := 0) rfl 0 (by decide) rfl q_130 dX6_cell_69 ?_
      refine zg3 E hs (k := 1) rfl 2 (by decide) rfl q_40 dX6_cell_72 ?_
      refine lv_iload_n hx hb dX6_cell_75 rfl (lv_at hl 1 rfl) ?_
      refine zVP E hs lkX6_64 [] (c_X3_at l x 6 36 ro_6 ar fd (nI a.toNatClampNeg)) (by decide) (sh2 rfl) rfl ⟨Nat.le_of_ble_eq_true rfl, Nat.le_of_ble_eq_true rfl⟩ rfl hl.1 (Nat.le_of_ble_eq_true rfl) rfl dX6_cell_76 (fun r_11 H locs hp_12 hs => ?_)
      subst hp_12
      refine tp (b := ar 7 a.toNatClampNeg) (rowAt_n (by omega) (by decide)) ?_
      refine zSP E hs lkX6_165 [] (c_X6_noneIfNothing l x ar fd (ar 7 a.toNatClampNeg)) ⟨Nat.le_of_ble_eq_true rfl, Nat.le_of_ble_eq_true rfl⟩ rfl hl.1 (Nat.le_of_ble_eq_true rfl) rfl dX6_cell_79 (fun r_13 H locs hp_14 hs => ?_)
      subst hp_14
      exact zeP E hs (by show _ = sp_cell ar fd w f o z n a q; unfold sp_cell; rw [iz_t c_3, iz_f c_4, iz_f c_7, iz_t c_10]) dX6_cell_82
    by_cases c_15 : q = nI 3
    · refine lv_tableIn (off := 73) (tgt := 83) hx hb dX6_cell_10 (by rw [c_15]; decide) (by rw [c_15]; decide) (by rw [c_15]; first | rfl | decide) (by decide) ?_
      refine lv_aload_n hx hb dX6_cell_83 rfl (lv_at hl 0 rfl) ?_
      refine zg5 E hs (k := 0) rfl 0 (by decide) rfl q_130 dX6_cell_84 ?_
      refine zg3 E hs (k := 1) rfl 3 (by decide) rfl q_43 dX6_cell_87 ?_
      refine lv_iload_n hx hb dX6_cell_90 rfl (lv_at hl 1 rfl) ?_
      refine zVP E hs lkX6_64 [] (c_X3_at l x 8 36 ro_8 ar fd (nI a.toNatClampNeg)) (by decide) (sh2 rfl) rfl ⟨Nat.le_of_ble_eq_true rfl, Nat.le_of_ble_eq_true rfl⟩ rfl hl.1 (Nat.le_of_ble_eq_true rfl) rfl dX6_cell_91 (fun r_16 H locs hp_17 hs => ?_)
      subst hp_17
      refine tp (b := ar 9 a.toNatClampNeg) (rowAt_n (by omega) (by decide)) ?_
      refine zSP E hs lkX6_165 [] (c_X6_noneIfNothing l x ar fd (ar 9 a.toNatClampNeg)) ⟨Nat.le_of_ble_eq_true rfl, Nat.le_of_ble_eq_true rfl⟩ rfl hl.1 (Nat.le_of_ble_eq_true rfl) rfl dX6_cell_94 (fun r_18 H locs hp_19 hs => ?_)
      subst hp_19
      exact zeP E hs (by show _ = sp_cell ar fd w f o z n a q; unfold sp_cell; rw [iz_t c_3, iz_f c_4, iz_f c_7, iz_f c_10, iz_t c_15]) dX6_cell_97
    by_cases c_20 : q = nI 4
    · refine lv_tableIn (off := 88) (tgt := 98) hx hb dX6_cell_10 (by rw [c_20]; decide) (by rw [c_20]; decide) (by rw [c_20]; first | rfl | decide) (by decide) ?_
      refine lv_aload_n hx hb dX6_cell_98 rfl (lv_at hl 0 rfl) ?_
      refine zg5 E hs (k := 0) rfl 0 (by decide) rfl q_130 dX6_cell_99 ?_
      refine lv_iload_n hx hb dX6_cell_102 rfl (lv_at hl 1 rfl) ?_
      refine zVP E hs lkX6_99 [] (c_X4_isOpen l x ar fd a.toNatClampNeg (by omega)) (by decide) (sh3 rfl) rfl ⟨Nat.le_of_ble_eq_true rfl, Nat.le_of_ble_eq_true rfl⟩ rfl hl.1 (Nat.le_of_ble_eq_true rfl) rfl dX6_cell_103 (fun r_21 H locs hp_22 hs => ?_)
      subst hp_22
      refine lv_if_eq (tgt := 123) hx hb dX6_cell_106 (by decide) (fun c_23 => ?_) (fun c_23 => ?_)
      · have c_23 : ¬ (ar 9 a.toNatClampNeg = -1) := bz_0 c_23
        refine lv_aload_n hx hb dX6_cell_123 rfl (lv_at hl 0 rfl) ?_
        refine zg5 E hs (k := 0) rfl 0 (by decide) rfl q_130 dX6_cell_124 ?_
        refine zg3 E hs (k := 1) rfl 3 (by decide) rfl q_43 dX6_cell_127 ?_
        refine lv_iload_n hx hb dX6_cell_130 rfl (lv_at hl 1 rfl) ?_
        refine zSP E hs lkX6_171 [] (c_X0_alike l x 8 ro_8 ar fd a.toNatClampNeg (by omega)) ⟨Nat.le_of_ble_eq_true rfl, Nat.le_of_ble_eq_true rfl⟩ rfl hl.1 (Nat.le_of_ble_eq_true rfl) rfl dX6_cell_131 (fun r_24 H locs hp_25 hs => ?_)
        subst hp_25
        exact zeP E hs (by show _ = sp_cell ar fd w f o z n a q; unfold sp_cell; rw [iz_t c_3, iz_f c_4, iz_f c_7, iz_f c_10, iz_f c_15, iz_t c_20, iz_f c_23]) dX6_cell_134
      · have c_23 : ar 9 a.toNatClampNeg = -1 := bz_1 c_23
        refine lv_aload_n hx hb dX6_cell_109 rfl (lv_at hl 0 rfl) ?_
        refine zg5 E hs (k := 0) rfl 0 (by decide) rfl q_130 dX6_cell_110 ?_
        refine zg3 E hs (k := 1) rfl 2 (by decide) rfl q_40 dX6_cell_113 ?_
        refine lv_iload_n hx hb dX6_cell_116 rfl (lv_at hl 1 rfl) ?_
        refine zSP E hs lkX6_171 [] (c_X0_alike l x 6 ro_6 ar fd a.toNatClampNeg (by omega)) ⟨Nat.le_of_ble_eq_true rfl, Nat.le_of_ble_eq_true rfl⟩ rfl hl.1 (Nat.le_of_ble_eq_true rfl) rfl dX6_cell_117 (fun r_26 H locs hp_27 hs => ?_)
        subst hp_27
        refine lv_goto (tgt := 134) hx hb dX6_cell_120 (by decide) ?_
        exact zeP E hs (by show _ = sp_cell ar fd w f o z n a q; unfold sp_cell; rw [iz_t c_3, iz_f c_4, iz_f c_7, iz_f c_10, iz_f c_15, iz_t c_20, iz_t c_23]) dX6_cell_134
    refine lv_tableOut (tgt := 135) hx hb dX6_cell_10 (sw_out (n := 4) (by decide) (fun k hk => by rcases (show k = 0 ∨ k = 1 ∨ k = 2 ∨ k = 3 ∨ k = 4 by omega) with rfl | rfl | rfl | rfl | rfl <;> assumption)) (by decide) ?_
    refine lv_bipush (v := (-2)) hx hb dX6_cell_135 (by decide) ?_
    exact zeP E hs (by show _ = sp_cell ar fd w f o z n a q; unfold sp_cell; rw [iz_t c_3, iz_f c_4, iz_f c_7, iz_f c_10, iz_f c_15, iz_f c_20]) dX6_cell_137
  · have c_3 : ¬ (¬ a < nI 0 ∧ ¬ nI 35 < a) := bz_0 c_3
    refine lv_iconst (v := (-1)) hx hb dX6_cell_7 (by decide) ?_
    exact zeP E hs (by show _ = sp_cell ar fd w f o z n a q; unfold sp_cell; rw [iz_f c_3]) dX6_cell_8

noncomputable def sp_part (ar fd : AR) (w f o z n : Nat) (v q : Int32) : Int32 × AR × AR := iz (¬ v < 0 ∧ ¬ fd 1 7 - fd 1 8 ≤ v) (iz (q = nI 1) ((nI (pcN (ar 7) v 36), ar, fd)) ((sp_tellArea ar 6 v q, ar, fd))) (((-1), ar, fd))
set_option maxHeartbeats 4000000 in
set_option maxRecDepth 100000 in
/-- part -/
theorem c_X6_part (l : Launch) (x : CT) (ar fd : AR) (w f o z n : Nat) (hc : CInv ar fd w f o z n) (v q : Int32) : CI l yX6_part cX6_part 3 (some .int) 5 114 x [.ref (xa x 0), .int v, .int q] ar fd (fun r ar' fd' => r = (sp_part ar fd w f o z n v q).1 ∧ JQ (sp_part ar fd w f o z n v q).2.1 ar' ∧ fd' = (sp_part ar fd w f o z n v q).2.2) := by
  refine zsI (own := RX6) rfl (by decide +kernel) (Nat.le_of_ble_eq_true rfl) ?_
  intro p e s m below meth c ls E hs hl
  have hx := E.1
  have hb := E.2.1
  have hl : lv_has ls 3 [(0, .ref (xa x 0)), (1, .int v), (2, .int q)] := hl
  obtain ⟨hw, hf, hfw, hw9, hw2, hof, hz, ho, hz4, hn, hn60, hC⟩ := id hc
  have hf9 : f ≤ 9 := by omega
  refine lv_aload_n hx hb dX6_part_0 rfl (lv_at hl 0 rfl) ?_
  refine zg5 E hs (k := 0) rfl 0 (by decide) rfl q_130 dX6_part_1 ?_
  refine lv_iload_n hx hb dX6_part_4 rfl (lv_at hl 1 rfl) ?_
  refine zVP E hs lkX6_102 [] (c_X4_isPart l x ar fd v) (by decide) (sh3 rfl) rfl ⟨Nat.le_of_ble_eq_true rfl, Nat.le_of_ble_eq_true rfl⟩ rfl hl.1 (Nat.le_of_ble_eq_true rfl) rfl dX6_part_5 (fun r_1 H locs hp_2 hs => ?_)
  subst hp_2
  refine lv_if_ne (tgt := 13) hx hb dX6_part_8 (by decide) (fun c_3 => ?_) (fun c_3 => ?_)
  · have c_3 : ¬ v < 0 ∧ ¬ fd 1 7 - fd 1 8 ≤ v := bz_1 c_3
    refine lv_iload_n hx hb dX6_part_13 rfl (lv_at hl 2 rfl) ?_
    refine lv_iconst (v := nI 1) hx hb dX6_part_14 (by decide) ?_
    refine lv_icmp_ne (tgt := 34) hx hb dX6_part_15 (by decide) (fun c_4 => ?_) (fun c_4 => ?_)
    · refine lv_aload_n hx hb dX6_part_34 rfl (lv_at hl 0 rfl) ?_
      refine lv_aload_n hx hb dX6_part_35 rfl (lv_at hl 0 rfl) ?_
      refine zg5 E hs (k := 0) rfl 0 (by decide) rfl q_130 dX6_part_36 ?_
      refine zg3 E hs (k := 1) rfl 2 (by decide) rfl q_40 dX6_part_39 ?_
      refine lv_iload_n hx hb dX6_part_42 rfl (lv_at hl 1 rfl) ?_
      refine lv_iload_n hx hb dX6_part_43 rfl (lv_at hl 2 rfl) ?_
      refine zVP E hs lkX6_180 [] (c_X6_tellArea l x 6 ro_6 ar fd v q) (by decide) (sh5 rfl) rfl ⟨Nat.le_of_ble_eq_true rfl, Nat.le_of_ble_eq_true rfl⟩ rfl hl.1 (Nat.le_of_ble_eq_true rfl) rfl dX6_part_44 (fun r_5 H locs hp_6 hs => ?_)
      subst hp_6
      exact zeI E hs ⟨(by unfold sp_part; rw [iz_t c_3, iz_f c_4]), (by unfold sp_part; rw [iz_t c_3, iz_f c_4]; exact JQ.rf _), (by unfold sp_part; rw [iz_t c_3, iz_f c_4])⟩ dX6_part_47
    · refine lv_aload_n hx hb dX6_part_18 rfl (lv_at hl 0 rfl) ?_
      refine zg5 E hs (k := 0) rfl 5 (by decide) rfl q_135 dX6_part_19 ?_
      refine lv_aload_n hx hb dX6_part_22 rfl (lv_at hl 0 rfl) ?_
      refine zg5 E hs (k := 0) rfl 0 (by decide) rfl q_130 dX6_part_23 ?_
      refine zg3 E hs (k := 1) rfl 2 (by decide) rfl q_40 dX6_part_26 ?_
      refine lv_iload_n hx hb dX6_part_29 rfl (lv_at hl 1 rfl) ?_
      refine zVI E hs lkX6_177 [] (c_X2_pieces l x 6 ro_6 (by decide) (by decide) ar fd v) (by decide) (sh1 rfl) rfl ⟨Nat.le_of_ble_eq_true rfl, Nat.le_of_ble_eq_true rfl⟩ rfl hl.1 (Nat.le_of_ble_eq_true rfl) rfl dX6_part_30 (fun r_7 arr_7 fdr_7 H locs hp_8 hs => ?_)
      rw [hp_8.2.2] at hs
      have hJ_r_7 := hp_8.2.1
      refine tp (b := nI (pcN (ar 7) v 36)) hp_8.1 ?_
      exact zeI E hs ⟨(by unfold sp_part; rw [iz_t c_3, iz_t c_4]), (by unfold sp_part; rw [iz_t c_3, iz_t c_4]; exact hJ_r_7), (by unfold sp_part; rw [iz_t c_3, iz_t c_4])⟩ dX6_part_33
  · have c_3 : ¬ (¬ v < 0 ∧ ¬ fd 1 7 - fd 1 8 ≤ v) := bz_0 c_3
    refine lv_iconst (v := (-1)) hx hb dX6_part_11 (by decide) ?_
    exact zeI E hs ⟨(by unfold sp_part; rw [iz_f c_3]), (by unfold sp_part; rw [iz_f c_3]; exact JQ.rf _), (by unfold sp_part; rw [iz_f c_3])⟩ dX6_part_12

noncomputable def sp_district (ar fd : AR) (w f o z n : Nat) (a q : Int32) : Int32 := iz (¬ a < nI 0 ∧ ¬ (nI f) - (nI 1) < a) (iz (q = nI 1) (ar 13 a.toNatClampNeg) (iz (q = nI 6) (wst ar (nI a.toNatClampNeg) (nI 0)) (iz (q = nI 7) (wst ar (nI a.toNatClampNeg) (nI 1)) (sp_tellArea ar 8 (nI a.toNatClampNeg) q)))) ((-1))
set_option maxHeartbeats 4000000 in
set_option maxRecDepth 100000 in
/-- district -/
theorem c_X6_district (l : Launch) (x : CT) (ar fd : AR) (w f o z n : Nat) (hc : CInv ar fd w f o z n) (a q : Int32) : CP l yX6_district cX6_district 3 (some .int) 5 114 x [.ref (xa x 0), .int a, .int q] ar fd (fun r => r = sp_district ar fd w f o z n a q) := by
  refine zsP (own := RX6) rfl (by decide +kernel) (Nat.le_of_ble_eq_true rfl) ?_
  intro p e s m below meth c ls E hs hl
  have hx := E.1
  have hb := E.2.1
  have hl : lv_has ls 3 [(0, .ref (xa x 0)), (1, .int a), (2, .int q)] := hl
  obtain ⟨hw, hf, hfw, hw9, hw2, hof, hz, ho, hz4, hn, hn60, hC⟩ := id hc
  have hf9 : f ≤ 9 := by omega
  refine lv_iload_n hx hb dX6_district_0 rfl (lv_at hl 1 rfl) ?_
  refine lv_iconst (v := nI 0) hx hb dX6_district_1 (by decide) ?_
  refine lv_aload_n hx hb dX6_district_2 rfl (lv_at hl 0 rfl) ?_
  refine zg5 E hs (k := 0) rfl 0 (by decide) rfl q_130 dX6_district_3 ?_
  refine zg3 E hs (k := 1) rfl 8 (by decide) rfl q_53 dX6_district_6 ?_
  refine tp (b := nI f) hf ?_
  refine lv_iconst (v := nI 1) hx hb dX6_district_9 (by decide) ?_
  refine lv_isub hx hb dX6_district_10 ?_
  refine zSP E hs lkX6_57 [] (c_X6_isFromTo l x ar fd a (nI 0) ((nI f) - (nI 1))) ⟨Nat.le_of_ble_eq_true rfl, Nat.le_of_ble_eq_true rfl⟩ rfl hl.1 (Nat.le_of_ble_eq_true rfl) rfl dX6_district_11 (fun r_1 H locs hp_2 hs => ?_)
  subst hp_2
  refine lv_if_ne (tgt := 19) hx hb dX6_district_14 (by decide) (fun c_3 => ?_) (fun c_3 => ?_)
  · have c_3 : ¬ a < nI 0 ∧ ¬ (nI f) - (nI 1) < a := bz_1 c_3
    obtain ⟨hlt_a, heq_a⟩ := dist_of c_3 (by omega)
    rw [heq_a] at hl
    refine lv_iload_n hx hb dX6_district_19 rfl (lv_at hl 2 rfl) ?_
    by_cases c_4 : q = nI 1
    · refine lv_lookup (off := 36) (tgt := 56) hx hb dX6_district_20 (by decide) (by rw [c_4]; decide) (by decide) ?_
      refine lv_aload_n hx hb dX6_district_56 rfl (lv_at hl 0 rfl) ?_
      refine zg5 E hs (k := 0) rfl 0 (by decide) rfl q_130 dX6_district_57 ?_
      refine zg3 E hs (k := 1) rfl 5 (by decide) rfl q_47 dX6_district_60 ?_
      refine lv_iload_n hx hb dX6_district_63 rfl (lv_at hl 1 rfl) ?_
      refine zVP E hs lkX6_64 [] (c_X3_at l x 12 9 ro_12 ar fd (nI a.toNatClampNeg)) (by decide) (sh2 rfl) rfl ⟨Nat.le_of_ble_eq_true rfl, Nat.le_of_ble_eq_true rfl⟩ rfl hl.1 (Nat.le_of_ble_eq_true rfl) rfl dX6_district_64 (fun r_5 H locs hp_6 hs => ?_)
      subst hp_6
      refine tp (b := ar 13 a.toNatClampNeg) (rowAt_n (by omega) (by decide)) ?_
      exact zeP E hs (by show _ = sp_district ar fd w f o z n a q; unfold sp_district; rw [iz_t c_3, iz_t c_4]) dX6_district_67
    by_cases c_7 : q = nI 6
    · refine lv_lookup (off := 48) (tgt := 68) hx hb dX6_district_20 (by decide) (by rw [c_7]; decide) (by decide) ?_
      refine lv_aload_n hx hb dX6_district_68 rfl (lv_at hl 0 rfl) ?_
      refine zg5 E hs (k := 0) rfl 0 (by decide) rfl q_130 dX6_district_69 ?_
      refine lv_iload_n hx hb dX6_district_72 rfl (lv_at hl 1 rfl) ?_
      refine lv_iconst (v := nI 0) hx hb dX6_district_73 (by decide) ?_
      refine zVP E hs lkX6_187 [] (c_X4_wasted l x ar fd (nI a.toNatClampNeg) (nI 0)) (by decide) (sh3 rfl) rfl ⟨Nat.le_of_ble_eq_true rfl, Nat.le_of_ble_eq_true rfl⟩ rfl hl.1 (Nat.le_of_ble_eq_true rfl) rfl dX6_district_74 (fun r_8 H locs hp_9 hs => ?_)
      subst hp_9
      exact zeP E hs (by show _ = sp_district ar fd w f o z n a q; unfold sp_district; rw [iz_t c_3, iz_f c_4, iz_t c_7]) dX6_district_77
    by_cases c_10 : q = nI 7
    · refine lv_lookup (off := 58) (tgt := 78) hx hb dX6_district_20 (by decide) (by rw [c_10]; decide) (by decide) ?_
      refine lv_aload_n hx hb dX6_district_78 rfl (lv_at hl 0 rfl) ?_
      refine zg5 E hs (k := 0) rfl 0 (by decide) rfl q_130 dX6_district_79 ?_
      refine lv_iload_n hx hb dX6_district_82 rfl (lv_at hl 1 rfl) ?_
      refine lv_iconst (v := nI 1) hx hb dX6_district_83 (by decide) ?_
      refine zVP E hs lkX6_187 [] (c_X4_wasted l x ar fd (nI a.toNatClampNeg) (nI 1)) (by decide) (sh3 rfl) rfl ⟨Nat.le_of_ble_eq_true rfl, Nat.le_of_ble_eq_true rfl⟩ rfl hl.1 (Nat.le_of_ble_eq_true rfl) rfl dX6_district_84 (fun r_11 H locs hp_12 hs => ?_)
      subst hp_12
      exact zeP E hs (by show _ = sp_district ar fd w f o z n a q; unfold sp_district; rw [iz_t c_3, iz_f c_4, iz_f c_7, iz_t c_10]) dX6_district_87
    refine lv_lookup (off := 68) (tgt := 88) hx hb dX6_district_20 (by decide) (by show Op.lookupswitch.offset [((1 : Int), (36 : Int)), ((6 : Int), (48 : Int)), ((7 : Int), (58 : Int))] 68 _ = _; rw [lv_osw (a := 1) c_4 rfl]; rw [lv_osw (a := 6) c_7 rfl]; rw [lv_osw (a := 7) c_10 rfl]; rfl) (by decide) ?_
    refine lv_aload_n hx hb dX6_district_88 rfl (lv_at hl 0 rfl) ?_
    refine lv_aload_n hx hb dX6_district_89 rfl (lv_at hl 0 rfl) ?_
    refine zg5 E hs (k := 0) rfl 0 (by decide) rfl q_130 dX6_district_90 ?_
    refine zg3 E hs (k := 1) rfl 3 (by decide) rfl q_43 dX6_district_93 ?_
    refine lv_iload_n hx hb dX6_district_96 rfl (lv_at hl 1 rfl) ?_
    refine lv_iload_n hx hb dX6_district_97 rfl (lv_at hl 2 rfl) ?_
    refine zVP E hs lkX6_180 [] (c_X6_tellArea l x 8 ro_8 ar fd (nI a.toNatClampNeg) q) (by decide) (sh5 rfl) rfl ⟨Nat.le_of_ble_eq_true rfl, Nat.le_of_ble_eq_true rfl⟩ rfl hl.1 (Nat.le_of_ble_eq_true rfl) rfl dX6_district_98 (fun r_13 H locs hp_14 hs => ?_)
    subst hp_14
    exact zeP E hs (by show _ = sp_district ar fd w f o z n a q; unfold sp_district; rw [iz_t c_3, iz_f c_4, iz_f c_7, iz_f c_10]) dX6_district_101
  · have c_3 : ¬ (¬ a < nI 0 ∧ ¬ (nI f) - (nI 1) < a) := bz_0 c_3
    refine lv_iconst (v := (-1)) hx hb dX6_district_17 (by decide) ?_
    exact zeP E hs (by show _ = sp_district ar fd w f o z n a q; unfold sp_district; rw [iz_f c_3]) dX6_district_18

noncomputable def sp_why (ar fd : AR) (w f o z n : Nat) (q : Int32) : Int32 × AR × AR := iz (¬ q < nI 0 ∧ ¬ nI 1 < q) (iz (fd 1 10 = 0) (iz (q = 0) ((rsnA ar w f, ar, fd)) ((nnI (blm ar w f), ar, fd))) (((-4), ar, fd))) (((-2), ar, fd))
set_option maxHeartbeats 4000000 in
set_option maxRecDepth 100000 in
/-- why -/
theorem c_X6_why (l : Launch) (x : CT) (ar fd : AR) (w f o z n : Nat) (hc : CInv ar fd w f o z n) (q : Int32) : CI l yX6_why cX6_why 2 (some .int) 6 138 x [.ref (xa x 0), .int q] ar fd (fun r ar' fd' => r = (sp_why ar fd w f o z n q).1 ∧ JQ (sp_why ar fd w f o z n q).2.1 ar' ∧ fd' = (sp_why ar fd w f o z n q).2.2) := by
  refine zsI (own := RX6) rfl (by decide +kernel) (Nat.le_of_ble_eq_true rfl) ?_
  intro p e s m below meth c ls E hs hl
  have hx := E.1
  have hb := E.2.1
  have hl : lv_has ls 2 [(0, .ref (xa x 0)), (1, .int q)] := hl
  obtain ⟨hw, hf, hfw, hw9, hw2, hof, hz, ho, hz4, hn, hn60, hC⟩ := id hc
  have hf9 : f ≤ 9 := by omega
  refine lv_iload_n hx hb dX6_why_0 rfl (lv_at hl 1 rfl) ?_
  refine lv_iconst (v := nI 0) hx hb dX6_why_1 (by decide) ?_
  refine lv_iconst (v := nI 1) hx hb dX6_why_2 (by decide) ?_
  refine zSP E hs lkX6_57 [] (c_X6_isFromTo l x ar fd q (nI 0) (nI 1)) ⟨Nat.le_of_ble_eq_true rfl, Nat.le_of_ble_eq_true rfl⟩ rfl hl.1 (Nat.le_of_ble_eq_true rfl) rfl dX6_why_3 (fun r_1 H locs hp_2 hs => ?_)
  subst hp_2
  refine lv_if_ne (tgt := 12) hx hb dX6_why_6 (by decide) (fun c_3 => ?_) (fun c_3 => ?_)
  · have c_3 : ¬ q < nI 0 ∧ ¬ nI 1 < q := bz_1 c_3
    refine lv_aload_n hx hb dX6_why_12 rfl (lv_at hl 0 rfl) ?_
    refine zg5 E hs (k := 0) rfl 0 (by decide) rfl q_130 dX6_why_13 ?_
    refine zg3 E hs (k := 1) rfl 10 (by decide) rfl q_56 dX6_why_16 ?_
    refine lv_if_eq (tgt := 25) hx hb dX6_why_19 (by decide) (fun c_4 => ?_) (fun c_4 => ?_)
    · refine lv_iload_n hx hb dX6_why_25 rfl (lv_at hl 1 rfl) ?_
      refine lv_if_ne (tgt := 43) hx hb dX6_why_26 (by decide) (fun c_5 => ?_) (fun c_5 => ?_)
      · refine lv_aload_n hx hb dX6_why_43 rfl (lv_at hl 0 rfl) ?_
        refine zg5 E hs (k := 0) rfl 5 (by decide) rfl q_135 dX6_why_44 ?_
        refine lv_aload_n hx hb dX6_why_47 rfl (lv_at hl 0 rfl) ?_
        refine zg5 E hs (k := 0) rfl 0 (by decide) rfl q_130 dX6_why_48 ?_
        refine zVI E hs lkX6_190 [] (c_X2_blamed l x ar fd w f hw hf hfw hw9 hw2) (by decide) (sh1 rfl) rfl ⟨Nat.le_of_ble_eq_true rfl, Nat.le_of_ble_eq_true rfl⟩ rfl hl.1 (Nat.le_of_ble_eq_true rfl) rfl dX6_why_51 (fun r_6 arr_6 fdr_6 H locs hp_7 hs => ?_)
        rw [hp_7.2.2] at hs
        have hJ_r_6 := hp_7.2.1
        refine tp (b := blm ar w f) hp_7.1 ?_
        refine zSP E hs lkX6_165 [] (c_X6_noneIfNothing l x arr_6 fd (blm ar w f)) ⟨Nat.le_of_ble_eq_true rfl, Nat.le_of_ble_eq_true rfl⟩ rfl hl.1 (Nat.le_of_ble_eq_true rfl) rfl dX6_why_54 (fun r_8 H locs hp_9 hs => ?_)
        subst hp_9
        exact zeI E hs ⟨(by unfold sp_why; rw [iz_t c_3, iz_t c_4, iz_f c_5]), (by unfold sp_why; rw [iz_t c_3, iz_t c_4, iz_f c_5]; exact hJ_r_6), (by unfold sp_why; rw [iz_t c_3, iz_t c_4, iz_f c_5])⟩ dX6_why_57
      · refine lv_aload_n hx hb dX6_why_29 rfl (lv_at hl 0 rfl) ?_
        refine zg5 E hs (k := 0) rfl 5 (by decide) rfl q_135 dX6_why_30 ?_
        refine lv_aload_n hx hb dX6_why_33 rfl (lv_at hl 0 rfl) ?_
        refine zg5 E hs (k := 0) rfl 0 (by decide) rfl q_130 dX6_why_34 ?_
        refine zVI E hs lkX6_132 [] (c_X2_reason l x ar fd w f hw hf hfw hw9 hw2) (by decide) (sh1 rfl) rfl ⟨Nat.le_of_ble_eq_true rfl, Nat.le_of_ble_eq_true rfl⟩ rfl hl.1 (Nat.le_of_ble_eq_true rfl) rfl dX6_why_37 (fun r_10 arr_10 fdr_10 H locs hp_11 hs => ?_)
        rw [hp_11.2.2] at hs
        have hJ_r_10 := hp_11.2.1
        refine tp (b := rsnA ar w f) hp_11.1 ?_
        refine lv_goto (tgt := 57) hx hb dX6_why_40 (by decide) ?_
        exact zeI E hs ⟨(by unfold sp_why; rw [iz_t c_3, iz_t c_4, iz_t c_5]), (by unfold sp_why; rw [iz_t c_3, iz_t c_4, iz_t c_5]; exact hJ_r_10), (by unfold sp_why; rw [iz_t c_3, iz_t c_4, iz_t c_5])⟩ dX6_why_57
    · refine lv_bipush (v := (-4)) hx hb dX6_why_22 (by decide) ?_
      exact zeI E hs ⟨(by unfold sp_why; rw [iz_t c_3, iz_f c_4]), (by unfold sp_why; rw [iz_t c_3, iz_f c_4]; exact JQ.rf _), (by unfold sp_why; rw [iz_t c_3, iz_f c_4])⟩ dX6_why_24
  · have c_3 : ¬ (¬ q < nI 0 ∧ ¬ nI 1 < q) := bz_0 c_3
    refine lv_bipush (v := (-2)) hx hb dX6_why_9 (by decide) ?_
    exact zeI E hs ⟨(by unfold sp_why; rw [iz_f c_3]), (by unfold sp_why; rw [iz_f c_3]; exact JQ.rf _), (by unfold sp_why; rw [iz_f c_3])⟩ dX6_why_11

noncomputable def sp_advice (ar fd : AR) (w f o z n : Nat) : Int32 := iz (fd 1 10 = nI 1) (iz ((clS (fun zz => mg ar 6 (nI zz) (sp_player fd)) (w - f)).1 = (-1)) (nI (mlS (fun zz => mg ar 6 (nI zz) (nI 1 - (sp_player fd))) (w - f))) ((clS (fun zz => mg ar 6 (nI zz) (sp_player fd)) (w - f)).1)) ((-4))
set_option maxHeartbeats 4000000 in
set_option maxRecDepth 100000 in
/-- advice -/
theorem c_X6_advice (l : Launch) (x : CT) (ar fd : AR) (w f o z n : Nat) (hc : CInv ar fd w f o z n) (hst : fd 1 10 = nI 1 → f < w) : CP l yX6_advice cX6_advice 3 (some .int) 4 93 x [.ref (xa x 0)] ar fd (fun r => r = sp_advice ar fd w f o z n) := by
  refine zsP (own := RX6) rfl (by decide +kernel) (Nat.le_of_ble_eq_true rfl) ?_
  intro p e s m below meth c ls E hs hl
  have hx := E.1
  have hb := E.2.1
  have hl : lv_has ls 3 [(0, .ref (xa x 0))] := hl
  obtain ⟨hw, hf, hfw, hw9, hw2, hof, hz, ho, hz4, hn, hn60, hC⟩ := id hc
  have hf9 : f ≤ 9 := by omega
  refine lv_aload_n hx hb dX6_advice_0 rfl (lv_at hl 0 rfl) ?_
  refine zg5 E hs (k := 0) rfl 0 (by decide) rfl q_130 dX6_advice_1 ?_
  refine zg3 E hs (k := 1) rfl 10 (by decide) rfl q_56 dX6_advice_4 ?_
  refine lv_iconst (v := nI 1) hx hb dX6_advice_7 (by decide) ?_
  refine lv_icmp_eq (tgt := 14) hx hb dX6_advice_8 (by decide) (fun c_1 => ?_) (fun c_1 => ?_)
  · have hL : 1 ≤ w - f := by have := hst c_1; omega
    refine lv_aload_n hx hb dX6_advice_14 rfl (lv_at hl 0 rfl) ?_
    refine zg5 E hs (k := 0) rfl 0 (by decide) rfl q_130 dX6_advice_15 ?_
    refine zVP E hs lkX6_193 [] (c_X4_player l x ar fd) (by decide) (sh3 rfl) rfl ⟨Nat.le_of_ble_eq_true rfl, Nat.le_of_ble_eq_true rfl⟩ rfl hl.1 (Nat.le_of_ble_eq_true rfl) rfl dX6_advice_18 (fun r_2 H locs hp_3 hs => ?_)
    subst hp_3
    refine lv_istore_n (lv' := [(1, .int (sp_player fd)), (0, .ref (xa x 0))]) hx hb dX6_advice_21 rfl hl (by decide) rfl (fun ls hl => ?_)
    refine lv_aload_n hx hb dX6_advice_22 rfl (lv_at hl 1 rfl) ?_
    refine zg5 E hs (k := 0) rfl 0 (by decide) rfl q_130 dX6_advice_23 ?_
    refine lv_iload_n hx hb dX6_advice_26 rfl (lv_at hl 0 rfl) ?_
    refine zVP E hs lkX6_196 [] (c_X4_closestWon l x ar fd w f hw hf hfw hw9 hw2 (sp_player fd)) (by decide) (sh3 rfl) rfl ⟨Nat.le_of_ble_eq_true rfl, Nat.le_of_ble_eq_true rfl⟩ rfl hl.1 (Nat.le_of_ble_eq_true rfl) rfl dX6_advice_27 (fun r_4 H locs hp_5 hs => ?_)
    subst hp_5
    refine lv_istore_n (lv' := [(2, .int ((clS (fun zz => mg ar 6 (nI zz) (sp_player fd)) (w - f)).1)), (1, .int (sp_player fd)), (0, .ref (xa x 0))]) hx hb dX6_advice_30 rfl hl (by decide) rfl (fun ls hl => ?_)
    refine lv_iload_n hx hb dX6_advice_31 rfl (lv_at hl 0 rfl) ?_
    refine lv_iconst (v := (-1)) hx hb dX6_advice_32 (by decide) ?_
    refine lv_icmp_eq (tgt := 40) hx hb dX6_advice_33 (by decide) (fun c_6 => ?_) (fun c_6 => ?_)
    · refine lv_aload_n hx hb dX6_advice_40 rfl (lv_at hl 2 rfl) ?_
      refine zg5 E hs (k := 0) rfl 0 (by decide) rfl q_130 dX6_advice_41 ?_
      refine lv_iload_n hx hb dX6_advice_44 rfl (lv_at hl 1 rfl) ?_
      refine zVP E hs lkX6_199 [] (c_X4_mostLost l x ar fd w f hw hf hfw hw9 hw2 hL (sp_player fd)) (by decide) (sh3 rfl) rfl ⟨Nat.le_of_ble_eq_true rfl, Nat.le_of_ble_eq_true rfl⟩ rfl hl.1 (Nat.le_of_ble_eq_true rfl) rfl dX6_advice_45 (fun r_7 H locs hp_8 hs => ?_)
      subst hp_8
      exact zeP E hs (by show _ = sp_advice ar fd w f o z n; unfold sp_advice; rw [iz_t c_1, iz_t c_6]) dX6_advice_48
    · refine lv_iload_n hx hb dX6_advice_36 rfl (lv_at hl 0 rfl) ?_
      refine lv_goto (tgt := 48) hx hb dX6_advice_37 (by decide) ?_
      exact zeP E hs (by show _ = sp_advice ar fd w f o z n; unfold sp_advice; rw [iz_t c_1, iz_f c_6]) dX6_advice_48
  · refine lv_bipush (v := (-4)) hx hb dX6_advice_11 (by decide) ?_
    exact zeP E hs (by show _ = sp_advice ar fd w f o z n; unfold sp_advice; rw [iz_f c_1]) dX6_advice_13

noncomputable def sp_party (ar fd : AR) (w f o z n : Nat) (a q : Int32) : Int32 := iz (¬ a < nI 0 ∧ ¬ nI 1 < a) (iz (q = nI 0) (nI (ct (fun zz => wnI (mg ar 8 (nI zz) (nI 0)) = nI a.toNatClampNeg) f)) (iz (q = nI 1) (smI (ar (vk (nI a.toNatClampNeg) + 1)) 36) (iz (q = nI 2) (smI (fun zz => wst ar (nI zz) (nI a.toNatClampNeg)) f) (iz (q = nI 3) ((nI (1000 + (ct (fun zz => wnI (mg ar 8 (nI zz) (nI 0)) = nI a.toNatClampNeg) f))) - (ar 15 a.toNatClampNeg)) (iz (q = nI 4) (nI (ct (fun zz => wnI (mg ar 6 (nI zz) (nI 0)) = nI a.toNatClampNeg) (w - f))) ((-2))))))) ((-1))
set_option maxHeartbeats 4000000 in
set_option maxRecDepth 100000 in
/-- party -/
theorem c_X6_party (l : Launch) (x : CT) (ar fd : AR) (w f o z n : Nat) (hc : CInv ar fd w f o z n) (a q : Int32) : CP l yX6_party cX6_party 3 (some .int) 6 137 x [.ref (xa x 0), .int a, .int q] ar fd (fun r => r = sp_party ar fd w f o z n a q) := by
  refine zsP (own := RX6) rfl (by decide +kernel) (Nat.le_of_ble_eq_true rfl) ?_
  intro p e s m below meth c ls E hs hl
  have hx := E.1
  have hb := E.2.1
  have hl : lv_has ls 3 [(0, .ref (xa x 0)), (1, .int a), (2, .int q)] := hl
  obtain ⟨hw, hf, hfw, hw9, hw2, hof, hz, ho, hz4, hn, hn60, hC⟩ := id hc
  have hf9 : f ≤ 9 := by omega
  refine lv_iload_n hx hb dX6_party_0 rfl (lv_at hl 1 rfl) ?_
  refine zSP E hs lkX6_89 [] (c_X6_isParty l x ar fd a) ⟨Nat.le_of_ble_eq_true rfl, Nat.le_of_ble_eq_true rfl⟩ rfl hl.1 (Nat.le_of_ble_eq_true rfl) rfl dX6_party_1 (fun r_1 H locs hp_2 hs => ?_)
  subst hp_2
  refine lv_if_ne (tgt := 9) hx hb dX6_party_4 (by decide) (fun c_3 => ?_) (fun c_3 => ?_)
  · have c_3 : ¬ a < nI 0 ∧ ¬ nI 1 < a := bz_1 c_3
    obtain ⟨hlt_a, heq_a⟩ := cell_of c_3 (by decide)
    rw [heq_a] at hl
    refine lv_iload_n hx hb dX6_party_9 rfl (lv_at hl 2 rfl) ?_
    by_cases c_4 : q = nI 0
    · refine lv_tableIn (off := 34) (tgt := 44) hx hb dX6_party_10 (by rw [c_4]; decide) (by rw [c_4]; decide) (by rw [c_4]; first | rfl | decide) (by decide) ?_
      refine lv_aload_n hx hb dX6_party_44 rfl (lv_at hl 0 rfl) ?_
      refine zg5 E hs (k := 0) rfl 0 (by decide) rfl q_130 dX6_party_45 ?_
      refine lv_iload_n hx hb dX6_party_48 rfl (lv_at hl 1 rfl) ?_
      refine zVP E hs lkX6_202 [] (c_X4_seats l x ar fd f hf hf9 (nI a.toNatClampNeg)) (by decide) (sh3 rfl) rfl ⟨Nat.le_of_ble_eq_true rfl, Nat.le_of_ble_eq_true rfl⟩ rfl hl.1 (Nat.le_of_ble_eq_true rfl) rfl dX6_party_49 (fun r_5 H locs hp_6 hs => ?_)
      subst hp_6
      exact zeP E hs (by show _ = sp_party ar fd w f o z n a q; unfold sp_party; rw [iz_t c_3, iz_t c_4]) dX6_party_52
    by_cases c_7 : q = nI 1
    · refine lv_tableIn (off := 43) (tgt := 53) hx hb dX6_party_10 (by rw [c_7]; decide) (by rw [c_7]; decide) (by rw [c_7]; first | rfl | decide) (by decide) ?_
      refine lv_aload_n hx hb dX6_party_53 rfl (lv_at hl 0 rfl) ?_
      refine zg5 E hs (k := 0) rfl 0 (by decide) rfl q_130 dX6_party_54 ?_
      refine lv_iload_n hx hb dX6_party_57 rfl (lv_at hl 1 rfl) ?_
      refine zVR E hs lkX6_205 [] (c_X4_votesOf l x ar fd (nI a.toNatClampNeg)) (by decide) (sh3 rfl) rfl ⟨Nat.le_of_ble_eq_true rfl, Nat.le_of_ble_eq_true rfl⟩ rfl hl.1 (Nat.le_of_ble_eq_true rfl) rfl dX6_party_58 (fun r_8 H locs hp_9 hs => ?_)
      subst hp_9
      refine zVP E hs lkX6_209 [] (c_X3_sum l x (vk (nI a.toNatClampNeg)) 36 (ro_vk (nI a.toNatClampNeg)) ar fd) (kd_lt (ro_vk (nI a.toNatClampNeg)).1 (by decide)) (sh2 (ro_vk (nI a.toNatClampNeg)).1) rfl ⟨Nat.le_of_ble_eq_true rfl, Nat.le_of_ble_eq_true rfl⟩ rfl hl.1 (Nat.le_of_ble_eq_true rfl) rfl dX6_party_61 (fun r_10 H locs hp_11 hs => ?_)
      subst hp_11
      exact zeP E hs (by show _ = sp_party ar fd w f o z n a q; unfold sp_party; rw [iz_t c_3, iz_f c_4, iz_t c_7]) dX6_party_64
    by_cases c_12 : q = nI 2
    · refine lv_tableIn (off := 55) (tgt := 65) hx hb dX6_party_10 (by rw [c_12]; decide) (by rw [c_12]; decide) (by rw [c_12]; first | rfl | decide) (by decide) ?_
      refine lv_aload_n hx hb dX6_party_65 rfl (lv_at hl 0 rfl) ?_
      refine zg5 E hs (k := 0) rfl 0 (by decide) rfl q_130 dX6_party_66 ?_
      refine lv_iload_n hx hb dX6_party_69 rfl (lv_at hl 1 rfl) ?_
      refine zVP E hs lkX6_212 [] (c_X4_wastedInAll l x ar fd f hf hf9 (nI a.toNatClampNeg)) (by decide) (sh3 rfl) rfl ⟨Nat.le_of_ble_eq_true rfl, Nat.le_of_ble_eq_true rfl⟩ rfl hl.1 (Nat.le_of_ble_eq_true rfl) rfl dX6_party_70 (fun r_13 H locs hp_14 hs => ?_)
      subst hp_14
      exact zeP E hs (by show _ = sp_party ar fd w f o z n a q; unfold sp_party; rw [iz_t c_3, iz_f c_4, iz_f c_7, iz_t c_12]) dX6_party_73
    by_cases c_15 : q = nI 3
    · refine lv_tableIn (off := 64) (tgt := 74) hx hb dX6_party_10 (by rw [c_15]; decide) (by rw [c_15]; decide) (by rw [c_15]; first | rfl | decide) (by decide) ?_
      refine lv_sipush (v := nI 1000) hx hb dX6_party_74 (by decide) ?_
      refine lv_aload_n hx hb dX6_party_77 rfl (lv_at hl 0 rfl) ?_
      refine zg5 E hs (k := 0) rfl 0 (by decide) rfl q_130 dX6_party_78 ?_
      refine lv_iload_n hx hb dX6_party_81 rfl (lv_at hl 1 rfl) ?_
      refine zVP E hs lkX6_202 [.int (nI 1000)] (c_X4_seats l x ar fd f hf hf9 (nI a.toNatClampNeg)) (by decide) (sh3 rfl) rfl ⟨Nat.le_of_ble_eq_true rfl, Nat.le_of_ble_eq_true rfl⟩ rfl hl.1 (Nat.le_of_ble_eq_true rfl) rfl dX6_party_82 (fun r_16 H locs hp_17 hs => ?_)
      subst hp_17
      refine lv_iadd hx hb dX6_party_85 ?_
      refine tp (b := nI (1000 + (ct (fun zz => wnI (mg ar 8 (nI zz) (nI 0)) = nI a.toNatClampNeg) f))) (nI_add _ _) ?_
      refine lv_aload_n hx hb dX6_party_86 rfl (lv_at hl 0 rfl) ?_
      refine zg5 E hs (k := 0) rfl 0 (by decide) rfl q_130 dX6_party_87 ?_
      refine zg3 E hs (k := 1) rfl 6 (by decide) rfl q_49 dX6_party_90 ?_
      refine lv_iload_n hx hb dX6_party_93 rfl (lv_at hl 1 rfl) ?_
      refine zVP E hs lkX6_64 [.int (nI (1000 + (ct (fun zz => wnI (mg ar 8 (nI zz) (nI 0)) = nI a.toNatClampNeg) f)))] (c_X3_at l x 14 2 ro_14 ar fd (nI a.toNatClampNeg)) (by decide) (sh2 rfl) rfl ⟨Nat.le_of_ble_eq_true rfl, Nat.le_of_ble_eq_true rfl⟩ rfl hl.1 (Nat.le_of_ble_eq_true rfl) rfl dX6_party_94 (fun r_18 H locs hp_19 hs => ?_)
      subst hp_19
      refine tp (b := ar 15 a.toNatClampNeg) (rowAt_n (by omega) (by decide)) ?_
      refine lv_isub hx hb dX6_party_97 ?_
      exact zeP E hs (by show _ = sp_party ar fd w f o z n a q; unfold sp_party; rw [iz_t c_3, iz_f c_4, iz_f c_7, iz_f c_12, iz_t c_15]) dX6_party_98
    by_cases c_20 : q = nI 4
    · refine lv_tableIn (off := 89) (tgt := 99) hx hb dX6_party_10 (by rw [c_20]; decide) (by rw [c_20]; decide) (by rw [c_20]; first | rfl | decide) (by decide) ?_
      refine lv_aload_n hx hb dX6_party_99 rfl (lv_at hl 0 rfl) ?_
      refine zg5 E hs (k := 0) rfl 0 (by decide) rfl q_130 dX6_party_100 ?_
      refine lv_aload_n hx hb dX6_party_103 rfl (lv_at hl 0 rfl) ?_
      refine zg5 E hs (k := 0) rfl 0 (by decide) rfl q_130 dX6_party_104 ?_
      refine zg3 E hs (k := 1) rfl 2 (by decide) rfl q_40 dX6_party_107 ?_
      refine lv_aload_n hx hb dX6_party_110 rfl (lv_at hl 0 rfl) ?_
      refine zg5 E hs (k := 0) rfl 0 (by decide) rfl q_130 dX6_party_111 ?_
      refine zVP E hs lkX6_129 [.ref (xa x 6), .ref (xa x 1)] (c_X4_left l x ar fd) (by decide) (sh3 rfl) rfl ⟨Nat.le_of_ble_eq_true rfl, Nat.le_of_ble_eq_true rfl⟩ rfl hl.1 (Nat.le_of_ble_eq_true rfl) rfl dX6_party_114 (fun r_21 H locs hp_22 hs => ?_)
      subst hp_22
      refine tp (b := nI (w - f)) (by rw [hw, hf, nI_sub hfw]) ?_
      refine lv_iload_n hx hb dX6_party_117 rfl (lv_at hl 1 rfl) ?_
      refine zVP E hs lkX6_215 [] (c_X4_won l x 6 ro_6 ar fd (w - f) (by omega) (nI a.toNatClampNeg)) (by decide) (sh3 rfl) rfl ⟨Nat.le_of_ble_eq_true rfl, Nat.le_of_ble_eq_true rfl⟩ rfl hl.1 (Nat.le_of_ble_eq_true rfl) rfl dX6_party_118 (fun r_23 H locs hp_24 hs => ?_)
      subst hp_24
      exact zeP E hs (by show _ = sp_party ar fd w f o z n a q; unfold sp_party; rw [iz_t c_3, iz_f c_4, iz_f c_7, iz_f c_12, iz_f c_15, iz_t c_20]) dX6_party_121
    refine lv_tableOut (tgt := 122) hx hb dX6_party_10 (sw_out (n := 4) (by decide) (fun k hk => by rcases (show k = 0 ∨ k = 1 ∨ k = 2 ∨ k = 3 ∨ k = 4 by omega) with rfl | rfl | rfl | rfl | rfl <;> assumption)) (by decide) ?_
    refine lv_bipush (v := (-2)) hx hb dX6_party_122 (by decide) ?_
    exact zeP E hs (by show _ = sp_party ar fd w f o z n a q; unfold sp_party; rw [iz_t c_3, iz_f c_4, iz_f c_7, iz_f c_12, iz_f c_15, iz_f c_20]) dX6_party_124
  · have c_3 : ¬ (¬ a < nI 0 ∧ ¬ nI 1 < a) := bz_0 c_3
    refine lv_iconst (v := (-1)) hx hb dX6_party_7 (by decide) ?_
    exact zeP E hs (by show _ = sp_party ar fd w f o z n a q; unfold sp_party; rw [iz_f c_3]) dX6_party_8

noncomputable def sp_fairness (ar fd : AR) (w f o z n : Nat) : Int32 := (100000 + ((nI (ct (fun zz => wnI (mg ar 8 (nI zz) (nI 0)) = nI 0) f)) * ((smI (ar 3) 36) + (smI (ar 5) 36)))) - ((nI f) * (smI (ar 3) 36))
set_option maxHeartbeats 4000000 in
set_option maxRecDepth 100000 in
/-- fairness -/
theorem c_X6_fairness (l : Launch) (x : CT) (ar fd : AR) (w f o z n : Nat) (hc : CInv ar fd w f o z n) : CP l yX6_fairness cX6_fairness 3 (some .int) 6 137 x [.ref (xa x 0)] ar fd (fun r => r = sp_fairness ar fd w f o z n) := by
  refine zsP (own := RX6) rfl (by decide +kernel) (Nat.le_of_ble_eq_true rfl) ?_
  intro p e s m below meth c ls E hs hl
  have hx := E.1
  have hb := E.2.1
  have hl : lv_has ls 3 [(0, .ref (xa x 0))] := hl
  obtain ⟨hw, hf, hfw, hw9, hw2, hof, hz, ho, hz4, hn, hn60, hC⟩ := id hc
  have hf9 : f ≤ 9 := by omega
  refine lv_aload_n hx hb dX6_fairness_0 rfl (lv_at hl 0 rfl) ?_
  refine zg5 E hs (k := 0) rfl 0 (by decide) rfl q_130 dX6_fairness_1 ?_
  refine zg3 E hs (k := 1) rfl 0 (by decide) rfl q_36 dX6_fairness_4 ?_
  refine zVP E hs lkX6_209 [] (c_X3_sum l x 2 36 ro_2 ar fd) (by decide) (sh2 rfl) rfl ⟨Nat.le_of_ble_eq_true rfl, Nat.le_of_ble_eq_true rfl⟩ rfl hl.1 (Nat.le_of_ble_eq_true rfl) rfl dX6_fairness_7 (fun r_1 H locs hp_2 hs => ?_)
  subst hp_2
  refine lv_istore_n (lv' := [(1, .int (smI (ar 3) 36)), (0, .ref (xa x 0))]) hx hb dX6_fairness_10 rfl hl (by decide) rfl (fun ls hl => ?_)
  refine lv_iload_n hx hb dX6_fairness_11 rfl (lv_at hl 0 rfl) ?_
  refine lv_aload_n hx hb dX6_fairness_12 rfl (lv_at hl 1 rfl) ?_
  refine zg5 E hs (k := 0) rfl 0 (by decide) rfl q_130 dX6_fairness_13 ?_
  refine zg3 E hs (k := 1) rfl 1 (by decide) rfl q_38 dX6_fairness_16 ?_
  refine zVP E hs lkX6_209 [.int (smI (ar 3) 36)] (c_X3_sum l x 4 36 ro_4 ar fd) (by decide) (sh2 rfl) rfl ⟨Nat.le_of_ble_eq_true rfl, Nat.le_of_ble_eq_true rfl⟩ rfl hl.1 (Nat.le_of_ble_eq_true rfl) rfl dX6_fairness_19 (fun r_3 H locs hp_4 hs => ?_)
  subst hp_4
  refine lv_iadd hx hb dX6_fairness_22 ?_
  refine lv_istore_n (lv' := [(2, .int ((smI (ar 3) 36) + (smI (ar 5) 36))), (1, .int (smI (ar 3) 36)), (0, .ref (xa x 0))]) hx hb dX6_fairness_23 rfl hl (by decide) rfl (fun ls hl => ?_)
  refine lv_ldc (v := 100000) hx hb E.2.2.2.1 (E.tb q_489) dX6_fairness_24 ?_
  refine lv_aload_n hx hb dX6_fairness_26 rfl (lv_at hl 2 rfl) ?_
  refine zg5 E hs (k := 0) rfl 0 (by decide) rfl q_130 dX6_fairness_27 ?_
  refine lv_iconst (v := nI 0) hx hb dX6_fairness_30 (by decide) ?_
  refine zVP E hs lkX6_202 [.int 100000] (c_X4_seats l x ar fd f hf hf9 (nI 0)) (by decide) (sh3 rfl) rfl ⟨Nat.le_of_ble_eq_true rfl, Nat.le_of_ble_eq_true rfl⟩ rfl hl.1 (Nat.le_of_ble_eq_true rfl) rfl dX6_fairness_31 (fun r_5 H locs hp_6 hs => ?_)
  subst hp_6
  refine lv_iload_n hx hb dX6_fairness_34 rfl (lv_at hl 0 rfl) ?_
  refine lv_imul hx hb dX6_fairness_35 ?_
  refine lv_iadd hx hb dX6_fairness_36 ?_
  refine lv_aload_n hx hb dX6_fairness_37 rfl (lv_at hl 2 rfl) ?_
  refine zg5 E hs (k := 0) rfl 0 (by decide) rfl q_130 dX6_fairness_38 ?_
  refine zg3 E hs (k := 1) rfl 8 (by decide) rfl q_53 dX6_fairness_41 ?_
  refine tp (b := nI f) hf ?_
  refine lv_iload_n hx hb dX6_fairness_44 rfl (lv_at hl 1 rfl) ?_
  refine lv_imul hx hb dX6_fairness_45 ?_
  refine lv_isub hx hb dX6_fairness_46 ?_
  exact zeP E hs (by show _ = sp_fairness ar fd w f o z n; unfold sp_fairness; rfl) dX6_fairness_47

noncomputable def sp_count (ar fd : AR) (w f o z n : Nat) (q : Int32) : Int32 := iz (q = nI 0) (nI w) (iz (q = nI 1) (nI (36 / w)) (iz (q = nI 2) (nI f) (iz (q = nI 3) (nI (w - f)) (iz (q = nI 4) (fd 1 10) (iz (q = nI 5) (nnI (sp_player fd)) (iz (q = nI 6) (nI (ct (fun zz => ar 9 zz = (-1)) 36)) (iz (q = nI 7) (nI (ct (fun zz => ar 9 zz = -1 ∧ ar 7 zz = -1) 36)) (iz (q = nI 8) (smI (fun zz => bdI (ar 9) (nI zz)) f) (iz (q = nI 9) (nI (ct (fun zz => wnI (mg ar 8 (nI zz) (nI 0)) = nI 2) f)) (iz (q = nI 10) (nI z) (iz (q = nI 11) (nI n) ((-2)))))))))))))
set_option maxHeartbeats 4000000 in
set_option maxRecDepth 100000 in
/-- count -/
theorem c_X6_count (l : Launch) (x : CT) (ar fd : AR) (w f o z n : Nat) (hc : CInv ar fd w f o z n) (q : Int32) : CP l yX6_count cX6_count 2 (some .int) 5 116 x [.ref (xa x 0), .int q] ar fd (fun r => r = sp_count ar fd w f o z n q) := by
  refine zsP (own := RX6) rfl (by decide +kernel) (Nat.le_of_ble_eq_true rfl) ?_
  intro p e s m below meth c ls E hs hl
  have hx := E.1
  have hb := E.2.1
  have hl : lv_has ls 2 [(0, .ref (xa x 0)), (1, .int q)] := hl
  obtain ⟨hw, hf, hfw, hw9, hw2, hof, hz, ho, hz4, hn, hn60, hC⟩ := id hc
  have hf9 : f ≤ 9 := by omega
  refine lv_iload_n hx hb dX6_count_0 rfl (lv_at hl 1 rfl) ?_
  by_cases c_1 : q = nI 0
  · refine lv_tableIn (off := 63) (tgt := 64) hx hb dX6_count_1 (by rw [c_1]; decide) (by rw [c_1]; decide) (by rw [c_1]; first | rfl | decide) (by decide) ?_
    refine lv_aload_n hx hb dX6_count_64 rfl (lv_at hl 0 rfl) ?_
    refine zg5 E hs (k := 0) rfl 0 (by decide) rfl q_130 dX6_count_65 ?_
    refine zg3 E hs (k := 1) rfl 7 (by decide) rfl q_51 dX6_count_68 ?_
    refine tp (b := nI w) hw ?_
    exact zeP E hs (by show _ = sp_count ar fd w f o z n q; unfold sp_count; rw [iz_t c_1]) dX6_count_71
  by_cases c_2 : q = nI 1
  · refine lv_tableIn (off := 71) (tgt := 72) hx hb dX6_count_1 (by rw [c_2]; decide) (by rw [c_2]; decide) (by rw [c_2]; first | rfl | decide) (by decide) ?_
    refine lv_aload_n hx hb dX6_count_72 rfl (lv_at hl 0 rfl) ?_
    refine zg5 E hs (k := 0) rfl 0 (by decide) rfl q_130 dX6_count_73 ?_
    refine zVP E hs lkX6_85 [] (c_X4_size l x ar fd w hw hw9 hw2) (by decide) (sh3 rfl) rfl ⟨Nat.le_of_ble_eq_true rfl, Nat.le_of_ble_eq_true rfl⟩ rfl hl.1 (Nat.le_of_ble_eq_true rfl) rfl dX6_count_76 (fun r_3 H locs hp_4 hs => ?_)
    subst hp_4
    exact zeP E hs (by show _ = sp_count ar fd w f o z n q; unfold sp_count; rw [iz_f c_1, iz_t c_2]) dX6_count_79
  by_cases c_5 : q = nI 2
  · refine lv_tableIn (off := 79) (tgt := 80) hx hb dX6_count_1 (by rw [c_5]; decide) (by rw [c_5]; decide) (by rw [c_5]; first | rfl | decide) (by decide) ?_
    refine lv_aload_n hx hb dX6_count_80 rfl (lv_at hl 0 rfl) ?_
    refine zg5 E hs (k := 0) rfl 0 (by decide) rfl q_130 dX6_count_81 ?_
    refine zg3 E hs (k := 1) rfl 8 (by decide) rfl q_53 dX6_count_84 ?_
    refine tp (b := nI f) hf ?_
    exact zeP E hs (by show _ = sp_count ar fd w f o z n q; unfold sp_count; rw [iz_f c_1, iz_f c_2, iz_t c_5]) dX6_count_87
  by_cases c_6 : q = nI 3
  · refine lv_tableIn (off := 87) (tgt := 88) hx hb dX6_count_1 (by rw [c_6]; decide) (by rw [c_6]; decide) (by rw [c_6]; first | rfl | decide) (by decide) ?_
    refine lv_aload_n hx hb dX6_count_88 rfl (lv_at hl 0 rfl) ?_
    refine zg5 E hs (k := 0) rfl 0 (by decide) rfl q_130 dX6_count_89 ?_
    refine zVP E hs lkX6_129 [] (c_X4_left l x ar fd) (by decide) (sh3 rfl) rfl ⟨Nat.le_of_ble_eq_true rfl, Nat.le_of_ble_eq_true rfl⟩ rfl hl.1 (Nat.le_of_ble_eq_true rfl) rfl dX6_count_92 (fun r_7 H locs hp_8 hs => ?_)
    subst hp_8
    refine tp (b := nI (w - f)) (by rw [hw, hf, nI_sub hfw]) ?_
    exact zeP E hs (by show _ = sp_count ar fd w f o z n q; unfold sp_count; rw [iz_f c_1, iz_f c_2, iz_f c_5, iz_t c_6]) dX6_count_95
  by_cases c_9 : q = nI 4
  · refine lv_tableIn (off := 95) (tgt := 96) hx hb dX6_count_1 (by rw [c_9]; decide) (by rw [c_9]; decide) (by rw [c_9]; first | rfl | decide) (by decide) ?_
    refine lv_aload_n hx hb dX6_count_96 rfl (lv_at hl 0 rfl) ?_
    refine zg5 E hs (k := 0) rfl 0 (by decide) rfl q_130 dX6_count_97 ?_
    refine zg3 E hs (k := 1) rfl 10 (by decide) rfl q_56 dX6_count_100 ?_
    exact zeP E hs (by show _ = sp_count ar fd w f o z n q; unfold sp_count; rw [iz_f c_1, iz_f c_2, iz_f c_5, iz_f c_6, iz_t c_9]) dX6_count_103
  by_cases c_10 : q = nI 5
  · refine lv_tableIn (off := 103) (tgt := 104) hx hb dX6_count_1 (by rw [c_10]; decide) (by rw [c_10]; decide) (by rw [c_10]; first | rfl | decide) (by decide) ?_
    refine lv_aload_n hx hb dX6_count_104 rfl (lv_at hl 0 rfl) ?_
    refine zg5 E hs (k := 0) rfl 0 (by decide) rfl q_130 dX6_count_105 ?_
    refine zVP E hs lkX6_193 [] (c_X4_player l x ar fd) (by decide) (sh3 rfl) rfl ⟨Nat.le_of_ble_eq_true rfl, Nat.le_of_ble_eq_true rfl⟩ rfl hl.1 (Nat.le_of_ble_eq_true rfl) rfl dX6_count_108 (fun r_11 H locs hp_12 hs => ?_)
    subst hp_12
    refine zSP E hs lkX6_165 [] (c_X6_noneIfNothing l x ar fd (sp_player fd)) ⟨Nat.le_of_ble_eq_true rfl, Nat.le_of_ble_eq_true rfl⟩ rfl hl.1 (Nat.le_of_ble_eq_true rfl) rfl dX6_count_111 (fun r_13 H locs hp_14 hs => ?_)
    subst hp_14
    exact zeP E hs (by show _ = sp_count ar fd w f o z n q; unfold sp_count; rw [iz_f c_1, iz_f c_2, iz_f c_5, iz_f c_6, iz_f c_9, iz_t c_10]) dX6_count_114
  by_cases c_15 : q = nI 6
  · refine lv_tableIn (off := 114) (tgt := 115) hx hb dX6_count_1 (by rw [c_15]; decide) (by rw [c_15]; decide) (by rw [c_15]; first | rfl | decide) (by decide) ?_
    refine lv_aload_n hx hb dX6_count_115 rfl (lv_at hl 0 rfl) ?_
    refine zg5 E hs (k := 0) rfl 0 (by decide) rfl q_130 dX6_count_116 ?_
    refine zg3 E hs (k := 1) rfl 3 (by decide) rfl q_43 dX6_count_119 ?_
    refine lv_iconst (v := (-1)) hx hb dX6_count_122 (by decide) ?_
    refine zSP E hs lkX6_222 [] (c_X0_size l x 8 ro_8 ar fd (-1)) ⟨Nat.le_of_ble_eq_true rfl, Nat.le_of_ble_eq_true rfl⟩ rfl hl.1 (Nat.le_of_ble_eq_true rfl) rfl dX6_count_123 (fun r_16 H locs hp_17 hs => ?_)
    subst hp_17
    exact zeP E hs (by show _ = sp_count ar fd w f o z n q; unfold sp_count; rw [iz_f c_1, iz_f c_2, iz_f c_5, iz_f c_6, iz_f c_9, iz_f c_10, iz_t c_15]) dX6_count_126
  by_cases c_18 : q = nI 7
  · refine lv_tableIn (off := 126) (tgt := 127) hx hb dX6_count_1 (by rw [c_18]; decide) (by rw [c_18]; decide) (by rw [c_18]; first | rfl | decide) (by decide) ?_
    refine lv_aload_n hx hb dX6_count_127 rfl (lv_at hl 0 rfl) ?_
    refine zg5 E hs (k := 0) rfl 0 (by decide) rfl q_130 dX6_count_128 ?_
    refine zVP E hs lkX6_224 [] (c_X4_openWithoutPart l x ar fd) (by decide) (sh3 rfl) rfl ⟨Nat.le_of_ble_eq_true rfl, Nat.le_of_ble_eq_true rfl⟩ rfl hl.1 (Nat.le_of_ble_eq_true rfl) rfl dX6_count_131 (fun r_19 H locs hp_20 hs => ?_)
    subst hp_20
    exact zeP E hs (by show _ = sp_count ar fd w f o z n q; unfold sp_count; rw [iz_f c_1, iz_f c_2, iz_f c_5, iz_f c_6, iz_f c_9, iz_f c_10, iz_f c_15, iz_t c_18]) dX6_count_134
  by_cases c_21 : q = nI 8
  · refine lv_tableIn (off := 134) (tgt := 135) hx hb dX6_count_1 (by rw [c_21]; decide) (by rw [c_21]; decide) (by rw [c_21]; first | rfl | decide) (by decide) ?_
    refine lv_aload_n hx hb dX6_count_135 rfl (lv_at hl 0 rfl) ?_
    refine zg5 E hs (k := 0) rfl 0 (by decide) rfl q_130 dX6_count_136 ?_
    refine zVP E hs lkX6_227 [] (c_X4_bordersOfAll l x ar fd f hf hf9) (by decide) (sh3 rfl) rfl ⟨Nat.le_of_ble_eq_true rfl, Nat.le_of_ble_eq_true rfl⟩ rfl hl.1 (Nat.le_of_ble_eq_true rfl) rfl dX6_count_139 (fun r_22 H locs hp_23 hs => ?_)
    subst hp_23
    exact zeP E hs (by show _ = sp_count ar fd w f o z n q; unfold sp_count; rw [iz_f c_1, iz_f c_2, iz_f c_5, iz_f c_6, iz_f c_9, iz_f c_10, iz_f c_15, iz_f c_18, iz_t c_21]) dX6_count_142
  by_cases c_24 : q = nI 9
  · refine lv_tableIn (off := 142) (tgt := 143) hx hb dX6_count_1 (by rw [c_24]; decide) (by rw [c_24]; decide) (by rw [c_24]; first | rfl | decide) (by decide) ?_
    refine lv_aload_n hx hb dX6_count_143 rfl (lv_at hl 0 rfl) ?_
    refine zg5 E hs (k := 0) rfl 0 (by decide) rfl q_130 dX6_count_144 ?_
    refine lv_aload_n hx hb dX6_count_147 rfl (lv_at hl 0 rfl) ?_
    refine zg5 E hs (k := 0) rfl 0 (by decide) rfl q_130 dX6_count_148 ?_
    refine zg3 E hs (k := 1) rfl 3 (by decide) rfl q_43 dX6_count_151 ?_
    refine lv_aload_n hx hb dX6_count_154 rfl (lv_at hl 0 rfl) ?_
    refine zg5 E hs (k := 0) rfl 0 (by decide) rfl q_130 dX6_count_155 ?_
    refine zg3 E hs (k := 1) rfl 8 (by decide) rfl q_53 dX6_count_158 ?_
    refine tp (b := nI f) hf ?_
    refine lv_iconst (v := nI 2) hx hb dX6_count_161 (by decide) ?_
    refine zVP E hs lkX6_215 [] (c_X4_won l x 8 ro_8 ar fd f (by omega) (nI 2)) (by decide) (sh3 rfl) rfl ⟨Nat.le_of_ble_eq_true rfl, Nat.le_of_ble_eq_true rfl⟩ rfl hl.1 (Nat.le_of_ble_eq_true rfl) rfl dX6_count_162 (fun r_25 H locs hp_26 hs => ?_)
    subst hp_26
    exact zeP E hs (by show _ = sp_count ar fd w f o z n q; unfold sp_count; rw [iz_f c_1, iz_f c_2, iz_f c_5, iz_f c_6, iz_f c_9, iz_f c_10, iz_f c_15, iz_f c_18, iz_f c_21, iz_t c_24]) dX6_count_165
  by_cases c_27 : q = nI 10
  · refine lv_tableIn (off := 165) (tgt := 166) hx hb dX6_count_1 (by rw [c_27]; decide) (by rw [c_27]; decide) (by rw [c_27]; first | rfl | decide) (by decide) ?_
    refine lv_aload_n hx hb dX6_count_166 rfl (lv_at hl 0 rfl) ?_
    refine zg5 E hs (k := 0) rfl 1 (by decide) rfl q_131 dX6_count_167 ?_
    refine zVP E hs lkX6_159 [] (c_X1_size l x ar fd) (by decide) (sh0 rfl) rfl ⟨Nat.le_of_ble_eq_true rfl, Nat.le_of_ble_eq_true rfl⟩ rfl hl.1 (Nat.le_of_ble_eq_true rfl) rfl dX6_count_170 (fun r_28 H locs hp_29 hs => ?_)
    subst hp_29
    refine tp (b := nI z) hz ?_
    exact zeP E hs (by show _ = sp_count ar fd w f o z n q; unfold sp_count; rw [iz_f c_1, iz_f c_2, iz_f c_5, iz_f c_6, iz_f c_9, iz_f c_10, iz_f c_15, iz_f c_18, iz_f c_21, iz_f c_24, iz_t c_27]) dX6_count_173
  by_cases c_30 : q = nI 11
  · refine lv_tableIn (off := 173) (tgt := 174) hx hb dX6_count_1 (by rw [c_30]; decide) (by rw [c_30]; decide) (by rw [c_30]; first | rfl | decide) (by decide) ?_
    refine lv_aload_n hx hb dX6_count_174 rfl (lv_at hl 0 rfl) ?_
    refine zg5 E hs (k := 0) rfl 4 (by decide) rfl q_134 dX6_count_175 ?_
    refine zVP E hs lkX6_143 [] (c_X5_length l x ar fd n hn hn60) (by decide) (sh4 rfl) rfl ⟨Nat.le_of_ble_eq_true rfl, Nat.le_of_ble_eq_true rfl⟩ rfl hl.1 (Nat.le_of_ble_eq_true rfl) rfl dX6_count_178 (fun r_31 H locs hp_32 hs => ?_)
    subst hp_32
    exact zeP E hs (by show _ = sp_count ar fd w f o z n q; unfold sp_count; rw [iz_f c_1, iz_f c_2, iz_f c_5, iz_f c_6, iz_f c_9, iz_f c_10, iz_f c_15, iz_f c_18, iz_f c_21, iz_f c_24, iz_f c_27, iz_t c_30]) dX6_count_181
  refine lv_tableOut (tgt := 182) hx hb dX6_count_1 (sw_out (n := 11) (by decide) (fun k hk => by rcases (show k = 0 ∨ k = 1 ∨ k = 2 ∨ k = 3 ∨ k = 4 ∨ k = 5 ∨ k = 6 ∨ k = 7 ∨ k = 8 ∨ k = 9 ∨ k = 10 ∨ k = 11 by omega) with rfl | rfl | rfl | rfl | rfl | rfl | rfl | rfl | rfl | rfl | rfl | rfl <;> assumption)) (by decide) ?_
  refine lv_bipush (v := (-2)) hx hb dX6_count_182 (by decide) ?_
  exact zeP E hs (by show _ = sp_count ar fd w f o z n q; unfold sp_count; rw [iz_f c_1, iz_f c_2, iz_f c_5, iz_f c_6, iz_f c_9, iz_f c_10, iz_f c_15, iz_f c_18, iz_f c_21, iz_f c_24, iz_f c_27, iz_f c_30]) dX6_count_184
