
/-! the model's acts: rows written cell by cell -/
noncomputable def bl (X : Nat → Int32) (a n : Nat) (h : Nat → Int32) : Nat → Int32 := fun k => iz (a ≤ k ∧ k < a + n) (h (k - a)) (X k)
theorem bl_in {X h : Nat → Int32} {a n j : Nat} (hj : j < n) : bl X a n h (a + j) = h j := by
  unfold bl
  rw [iz_t (by omega), show a + j - a = j by omega]
theorem bl_o {X h : Nat → Int32} {a n k : Nat} (hk : k < a ∨ a + n ≤ k) : bl X a n h k = X k := iz_f (by omega)
theorem bl_0 (X : Nat → Int32) (a : Nat) (h : Nat → Int32) : bl X a 0 h = X := funext fun k => bl_o (by omega)
theorem bl_s {X h : Nat → Int32} {a i : Nat} {v : Int32} (hv : v = h i) : zu (bl X a i h) (a + i) v = bl X a (i + 1) h := by
  funext k
  by_cases e : k = a + i
  · subst e; rw [zu_s, bl_in (by omega)]; exact hv
  · rw [zu_n _ _ e]
    unfold bl
    rw [iz_c (P := a ≤ k ∧ k < a + i) (Q := a ≤ k ∧ k < a + (i + 1)) (by omega)]
theorem zu_zu {α : Type} (f : Nat → α) (k : Nat) (a b : α) : zu (zu f k a) k b = zu f k b := by
  funext j
  by_cases h : j = k
  · subst h; rw [zu_s, zu_s]
  · rw [zu_n _ _ h, zu_n _ _ h, zu_n _ _ h]
theorem zb {B : AR} {k0 a i : Nat} {X h : Nat → Int32} {v : Int32} (hv : v = h i) : zu (zu B k0 (bl X a i h)) k0 (zu ((zu B k0 (bl X a i h)) k0) (a + i) v) = zu B k0 (bl X a (i + 1) h) := by
  rw [zu_s, zu_zu, bl_s hv]
theorem zb0 {B : AR} {k0 i : Nat} {X h : Nat → Int32} {v : Int32} (hv : v = h i) : zu (zu B k0 (bl X 0 i h)) k0 (zu ((zu B k0 (bl X 0 i h)) k0) i v) = zu B k0 (bl X 0 (i + 1) h) := by
  rw [zu_s, zu_zu]
  have := bl_s (X := X) (a := 0) hv
  rw [Nat.zero_add] at this
  rw [this]
/-- the row of B, written once, written again -/
theorem zx0 {B : AR} {R : Nat → Int32} {j : Nat} {v : Int32} (h : B 103 = R) : zu B 103 (zu (B 103) j v) = zu B 103 (zu R j v) := by rw [h]
theorem zx {B : AR} {R : Nat → Int32} {j : Nat} {v : Int32} : zu (zu B 103 R) 103 (zu ((zu B 103 R) 103) j v) = zu B 103 (zu R j v) := by rw [zu_s, zu_zu]
noncomputable def pz (z : Nat) : Nat := iz (z = 4) 4 (z + 1)
noncomputable def pstF (g p : Nat → Int32) (z : Nat) : Nat → Int32 := iz (z = 4) (bl (bl p 0 588 (fun k => p (196 + k))) (196 * 3) 196 g) (bl p (196 * z) 196 g)
noncomputable def rcA (ar : AR) (z : Nat) : AR := zu ar 104 (pstF (ar 103) (ar 104) z)
noncomputable def rcF (fd : AR) (z : Nat) : AR := zu fd 102 (zu (fd 102) 3 (nI (pz z)))
theorem rcA_n {ar : AR} {z k : Nat} (h : k ≠ 104) : rcA ar z k = ar k := zu_n _ _ h
theorem rcF_j {fd : AR} {z j : Nat} (h : j ≠ 3) : rcF fd z 102 j = fd 102 j := by unfold rcF; rw [zu_s, zu_n _ _ h]
noncomputable def clw (g : Nat → Int32) (i : Nat) : Nat → Int32 := fun k => iz ((79 ≤ k ∧ k < 79 + i) ∨ (115 ≤ k ∧ k < 115 + i) ∨ (151 ≤ k ∧ k < 151 + i)) (-1) (g k)
theorem clw_0 (g : Nat → Int32) : clw g 0 = g := funext fun k => iz_f (by omega)
theorem clw_s (g : Nat → Int32) (i : Nat) (hi : i < 36) : zu (zu (zu (clw g i) (79 + i) (-1)) (115 + i) (-1)) (151 + i) (-1) = clw g (i + 1) := by
  funext k
  by_cases h1 : k = 151 + i
  · subst h1; rw [zu_s]; exact (iz_t (by omega)).symm
  · rw [zu_n _ _ h1]
    by_cases h2 : k = 115 + i
    · subst h2; rw [zu_s]; exact (iz_t (by omega)).symm
    · rw [zu_n _ _ h2]
      by_cases h3 : k = 79 + i
      · subst h3; rw [zu_s]; exact (iz_t (by omega)).symm
      · rw [zu_n _ _ h3]
        unfold clw
        rw [iz_c (P := (79 ≤ k ∧ k < 79 + i) ∨ (115 ≤ k ∧ k < 115 + i) ∨ (151 ≤ k ∧ k < 151 + i)) (Q := (79 ≤ k ∧ k < 79 + (i + 1)) ∨ (115 ≤ k ∧ k < 115 + (i + 1)) ∨ (151 ≤ k ∧ k < 151 + (i + 1))) (by omega)]
noncomputable def clrF (g : Nat → Int32) : Nat → Int32 := bl (clw (zu (zu (zu (zu g 75 (nI 0)) 76 (nI 0)) 77 (nI 0)) 78 (nI 0)) 36) 187 9 (fun _ => nI 0)

/-- a part's number: the class's test and the model's -/
theorem part_of {B : AR} {w f : Nat} {v : Int32} (hw : B 1 7 = nI w) (hf : B 1 8 = nI f) (h1 : w ≤ 9) (h2 : f ≤ w) : (¬ v < 0 ∧ ¬ B 1 7 - B 1 8 ≤ v) ↔ (¬ v < nI 0 ∧ ¬ nI (w - f) - nI 1 < v) := by
  rw [hw, hf, nI_sub h2]
  have e : (nI (w - f) - nI 1).toInt = ((w - f : Nat) : Int) - 1 := by
    rcases (show w - f = 0 ∨ 1 ≤ w - f by omega) with q | q
    · rw [q]; decide
    · rw [nI_sub q, nI_toInt (by omega)]; omega
  rw [lt_iI, lt_iI, le_iI, lt_iI, e, nI_toInt (show w - f < 2 ^ 31 by omega), nI_toInt (show 0 < 2 ^ 31 by decide), t_z]
  omega
set_option maxHeartbeats 4000000 in
set_option maxRecDepth 100000 in
/-- part -/
theorem c_X7_part (l : Launch) (x : CT) (ar fd A B : AR) (w f : Nat) (hM : ME (ar 103) A (B 1) w f) (o z n : Nat) (hBw : B 1 7 = nI w) (hBf : B 1 8 = nI f) (v q : Int32) : CI l yX7_part cX7_part 3 (some .int) 4 93 x [.ref (xa x 102), .int v, .int q] ar fd (fun r ar' fd' => r = (sp_part A B w f o z n v q).1 ∧ JM ar ar' ∧ fd' = fd) := by
  refine zsI (own := RX7) rfl (by decide +kernel) (Nat.le_of_ble_eq_true rfl) ?_
  intro p e s m below meth c ls E hs hl
  have hx := E.1
  have hb := E.2.1
  have hl : lv_has ls 3 [(0, .ref (xa x 102)), (1, .int v), (2, .int q)] := hl
  obtain ⟨hE1, hE2, hE3, hE4, hE5, hE6, hE7, hEw, hEf, hEc, hEs, hfw, hw9, hw2, hP, hD⟩ := id hM
  have hfl := hw9
  refine lv_iload_n hx hb dX7_part_0 rfl (lv_at hl 1 rfl) ?_
  refine lv_iconst (v := nI 0) hx hb dX7_part_1 (by decide) ?_
  refine lv_aload_n hx hb dX7_part_2 rfl (lv_at hl 0 rfl) ?_
  refine zVP E hs lkX7_77 [.int (nI 0), .int v] (c_X7_left l x ar fd A B w f hM) (by decide) (sh6 rfl) rfl ⟨Nat.le_of_ble_eq_true rfl, Nat.le_of_ble_eq_true rfl⟩ rfl hl.1 (Nat.le_of_ble_eq_true rfl) rfl dX7_part_3 (fun r_1 H locs hp_2 hs => ?_)
  subst hp_2
  refine lv_iconst (v := nI 1) hx hb dX7_part_6 (by decide) ?_
  refine lv_isub hx hb dX7_part_7 ?_
  refine zSP E hs lkX7_36 [] (c_X7_in l x ar fd v (nI 0) ((nI (w - f)) - (nI 1))) ⟨Nat.le_of_ble_eq_true rfl, Nat.le_of_ble_eq_true rfl⟩ rfl hl.1 (Nat.le_of_ble_eq_true rfl) rfl dX7_part_8 (fun r_3 H locs hp_4 hs => ?_)
  subst hp_4
  refine lv_if_ne (tgt := 16) hx hb dX7_part_11 (by decide) (fun c_5 => ?_) (fun c_5 => ?_)
  · have c_5 : ¬ v < nI 0 ∧ ¬ (nI (w - f)) - (nI 1) < v := bz_1 c_5
    obtain ⟨hlt_v, heq_v⟩ := dist_of c_5 (by omega)
    rw [heq_v] at hl
    refine lv_iload_n hx hb dX7_part_16 rfl (lv_at hl 2 rfl) ?_
    by_cases c_6 : q = nI 0
    · refine lv_tableIn (off := 39) (tgt := 56) hx hb dX7_part_17 (by rw [c_6]; decide) (by rw [c_6]; decide) (by rw [c_6]; first | rfl | decide) (by decide) ?_
      rw [c_6] at hl
      refine lv_aload_n hx hb dX7_part_56 rfl (lv_at hl 0 rfl) ?_
      refine lv_bipush (v := nI 79) hx hb dX7_part_57 (by decide) ?_
      refine lv_iload_n hx hb dX7_part_59 rfl (lv_at hl 1 rfl) ?_
      refine zVP E hs lkX7_80 [] (c_X7_cells l x ar fd 79 (by decide) (A 7) hE3 (nI v.toNatClampNeg)) (by decide) (sh6 rfl) rfl ⟨Nat.le_of_ble_eq_true rfl, Nat.le_of_ble_eq_true rfl⟩ rfl hl.1 (Nat.le_of_ble_eq_true rfl) rfl dX7_part_60 (fun r_7 H locs hp_8 hs => ?_)
      subst hp_8
      exact zeI E hs ⟨by rw [← heq_v]; unfold sp_part sp_tellArea; rw [iz_t ((part_of hBw hBf hfl hfw).mpr c_5), c_6, iz_f (show ¬ nI 0 = nI 1 by decide), iz_t rfl] <;> rfl, JM.rf ar, rfl⟩ dX7_part_63
    by_cases c_9 : q = nI 1
    · refine lv_tableIn (off := 47) (tgt := 64) hx hb dX7_part_17 (by rw [c_9]; decide) (by rw [c_9]; decide) (by rw [c_9]; first | rfl | decide) (by decide) ?_
      rw [c_9] at hl
      refine lv_aload_n hx hb dX7_part_64 rfl (lv_at hl 0 rfl) ?_
      refine lv_iload_n hx hb dX7_part_65 rfl (lv_at hl 1 rfl) ?_
      refine zVI E hs lkX7_83 [] (c_X7_pieces l x ar fd (A 7) hE3 (nI v.toNatClampNeg)) (by decide) (sh6 rfl) rfl ⟨Nat.le_of_ble_eq_true rfl, Nat.le_of_ble_eq_true rfl⟩ rfl hl.1 (Nat.le_of_ble_eq_true rfl) rfl dX7_part_66 (fun r_10 arr_10 fdr_10 H locs hp_11 hs => ?_)
      rw [hp_11.2.2] at hs
      have hJ_r_10 := hp_11.2.1
      refine tp (b := nI (pcN (A 7) (nI v.toNatClampNeg) 36)) hp_11.1 ?_
      have hb_r_10 := pc_le (A 7) (nI v.toNatClampNeg) 36
      exact zeI E hs ⟨by rw [← heq_v]; unfold sp_part sp_tellArea; rw [iz_t ((part_of hBw hBf hfl hfw).mpr c_5), c_9, iz_t rfl] <;> rfl, hJ_r_10, rfl⟩ dX7_part_69
    by_cases c_12 : q = nI 2
    · refine lv_tableIn (off := 53) (tgt := 70) hx hb dX7_part_17 (by rw [c_12]; decide) (by rw [c_12]; decide) (by rw [c_12]; first | rfl | decide) (by decide) ?_
      rw [c_12] at hl
      refine lv_aload_n hx hb dX7_part_70 rfl (lv_at hl 0 rfl) ?_
      refine lv_bipush (v := nI 79) hx hb dX7_part_71 (by decide) ?_
      refine lv_iload_n hx hb dX7_part_73 rfl (lv_at hl 1 rfl) ?_
      refine zVP E hs lkX7_120 [] (c_X7_borders l x ar fd 79 (by decide) (A 7) hE3 (nI v.toNatClampNeg) (nI_nm (by omega))) (by decide) (sh6 rfl) rfl ⟨Nat.le_of_ble_eq_true rfl, Nat.le_of_ble_eq_true rfl⟩ rfl hl.1 (Nat.le_of_ble_eq_true rfl) rfl dX7_part_74 (fun r_13 H locs hp_14 hs => ?_)
      subst hp_14
      exact zeI E hs ⟨by rw [← heq_v]; unfold sp_part sp_tellArea; rw [iz_t ((part_of hBw hBf hfl hfw).mpr c_5), c_12, iz_f (show ¬ nI 2 = nI 1 by decide), iz_f (show ¬ nI 2 = nI 0 by decide), iz_f (show ¬ nI 2 = nI 1 by decide), iz_t rfl] <;> rfl, JM.rf ar, rfl⟩ dX7_part_77
    by_cases c_15 : q = nI 3
    · refine lv_tableIn (off := 61) (tgt := 78) hx hb dX7_part_17 (by rw [c_15]; decide) (by rw [c_15]; decide) (by rw [c_15]; first | rfl | decide) (by decide) ?_
      rw [c_15] at hl
      refine lv_sipush (v := nI 1000) hx hb dX7_part_78 (by decide) ?_
      refine lv_aload_n hx hb dX7_part_81 rfl (lv_at hl 0 rfl) ?_
      refine lv_bipush (v := nI 79) hx hb dX7_part_82 (by decide) ?_
      refine lv_iload_n hx hb dX7_part_84 rfl (lv_at hl 1 rfl) ?_
      refine zVP E hs lkX7_63 [.int (nI 1000)] (c_X7_margin l x ar fd A B w f hM 79 (by decide) 6 hE3 (nI v.toNatClampNeg)) (by decide) (sh6 rfl) rfl ⟨Nat.le_of_ble_eq_true rfl, Nat.le_of_ble_eq_true rfl⟩ rfl hl.1 (Nat.le_of_ble_eq_true rfl) rfl dX7_part_85 (fun r_16 H locs hp_17 hs => ?_)
      subst hp_17
      refine lv_iadd hx hb dX7_part_88 ?_
      exact zeI E hs ⟨by rw [← heq_v]; unfold sp_part sp_tellArea; rw [iz_t ((part_of hBw hBf hfl hfw).mpr c_5), c_15, iz_f (show ¬ nI 3 = nI 1 by decide), iz_f (show ¬ nI 3 = nI 0 by decide), iz_f (show ¬ nI 3 = nI 1 by decide), iz_f (show ¬ nI 3 = nI 2 by decide), iz_t rfl] <;> rfl, JM.rf ar, rfl⟩ dX7_part_89
    by_cases c_18 : q = nI 4
    · refine lv_tableIn (off := 73) (tgt := 90) hx hb dX7_part_17 (by rw [c_18]; decide) (by rw [c_18]; decide) (by rw [c_18]; first | rfl | decide) (by decide) ?_
      rw [c_18] at hl
      refine lv_aload_n hx hb dX7_part_90 rfl (lv_at hl 0 rfl) ?_
      refine lv_bipush (v := nI 79) hx hb dX7_part_91 (by decide) ?_
      refine lv_iload_n hx hb dX7_part_93 rfl (lv_at hl 1 rfl) ?_
      refine zVP E hs lkX7_123 [] (c_X7_winner l x ar fd A B w f hM 79 (by decide) 6 hE3 (nI v.toNatClampNeg)) (by decide) (sh6 rfl) rfl ⟨Nat.le_of_ble_eq_true rfl, Nat.le_of_ble_eq_true rfl⟩ rfl hl.1 (Nat.le_of_ble_eq_true rfl) rfl dX7_part_94 (fun r_19 H locs hp_20 hs => ?_)
      subst hp_20
      exact zeI E hs ⟨by rw [← heq_v]; unfold sp_part sp_tellArea; rw [iz_t ((part_of hBw hBf hfl hfw).mpr c_5), c_18, iz_f (show ¬ nI 4 = nI 1 by decide), iz_f (show ¬ nI 4 = nI 0 by decide), iz_f (show ¬ nI 4 = nI 1 by decide), iz_f (show ¬ nI 4 = nI 2 by decide), iz_f (show ¬ nI 4 = nI 3 by decide), iz_t rfl] <;> rfl, JM.rf ar, rfl⟩ dX7_part_97
    by_cases c_21 : q = nI 5
    · refine lv_tableIn (off := 81) (tgt := 98) hx hb dX7_part_17 (by rw [c_21]; decide) (by rw [c_21]; decide) (by rw [c_21]; first | rfl | decide) (by decide) ?_
      rw [c_21] at hl
      refine lv_aload_n hx hb dX7_part_98 rfl (lv_at hl 0 rfl) ?_
      refine lv_bipush (v := nI 79) hx hb dX7_part_99 (by decide) ?_
      refine lv_iload_n hx hb dX7_part_101 rfl (lv_at hl 1 rfl) ?_
      refine zVP E hs lkX7_126 [] (c_X7_lowest l x ar fd 79 (by decide) (A 7) hE3 (nI v.toNatClampNeg)) (by decide) (sh6 rfl) rfl ⟨Nat.le_of_ble_eq_true rfl, Nat.le_of_ble_eq_true rfl⟩ rfl hl.1 (Nat.le_of_ble_eq_true rfl) rfl dX7_part_102 (fun r_22 H locs hp_23 hs => ?_)
      subst hp_23
      exact zeI E hs ⟨by rw [← heq_v]; unfold sp_part sp_tellArea; rw [iz_t ((part_of hBw hBf hfl hfw).mpr c_5), c_21, iz_f (show ¬ nI 5 = nI 1 by decide), iz_f (show ¬ nI 5 = nI 0 by decide), iz_f (show ¬ nI 5 = nI 1 by decide), iz_f (show ¬ nI 5 = nI 2 by decide), iz_f (show ¬ nI 5 = nI 3 by decide), iz_f (show ¬ nI 5 = nI 4 by decide), iz_t rfl] <;> rfl, JM.rf ar, rfl⟩ dX7_part_105
    refine lv_tableOut (tgt := 106) hx hb dX7_part_17 (sw_out (n := 5) (by decide) (fun k hk => by rcases (show k = 0 ∨ k = 1 ∨ k = 2 ∨ k = 3 ∨ k = 4 ∨ k = 5 by omega) with rfl | rfl | rfl | rfl | rfl | rfl <;> assumption)) (by decide) ?_
    refine lv_bipush (v := (-2)) hx hb dX7_part_106 (by decide) ?_
    exact zeI E hs ⟨by unfold sp_part sp_tellArea; rw [iz_t ((part_of hBw hBf hfl hfw).mpr c_5), iz_f c_9, iz_f c_6, iz_f c_9, iz_f c_12, iz_f c_15, iz_f c_18, iz_f c_21] <;> rfl, JM.rf ar, rfl⟩ dX7_part_108
  · have c_5 : ¬ (¬ v < nI 0 ∧ ¬ (nI (w - f)) - (nI 1) < v) := bz_0 c_5
    refine lv_iconst (v := (-1)) hx hb dX7_part_14 (by decide) ?_
    exact zeI E hs ⟨by unfold sp_part; rw [iz_f (fun h => c_5 ((part_of hBw hBf hfl hfw).mp h))], JM.rf ar, rfl⟩ dX7_part_15

set_option maxHeartbeats 4000000 in
set_option maxRecDepth 100000 in
/-- why -/
theorem c_X7_why (l : Launch) (x : CT) (ar fd A B : AR) (w f : Nat) (hM : ME (ar 103) A (B 1) w f) (o z n : Nat) (q : Int32) : CI l yX7_why cX7_why 3 (some .int) 5 114 x [.ref (xa x 102), .int q] ar fd (fun r ar' fd' => r = (sp_why A B w f o z n q).1 ∧ JM ar ar' ∧ fd' = fd) := by
  refine zsI (own := RX7) rfl (by decide +kernel) (Nat.le_of_ble_eq_true rfl) ?_
  intro p e s m below meth c ls E hs hl
  have hx := E.1
  have hb := E.2.1
  have hl : lv_has ls 3 [(0, .ref (xa x 102)), (1, .int q)] := hl
  obtain ⟨hE1, hE2, hE3, hE4, hE5, hE6, hE7, hEw, hEf, hEc, hEs, hfw, hw9, hw2, hP, hD⟩ := id hM
  refine lv_iload_n hx hb dX7_why_0 rfl (lv_at hl 1 rfl) ?_
  refine lv_iconst (v := nI 0) hx hb dX7_why_1 (by decide) ?_
  refine lv_iconst (v := nI 1) hx hb dX7_why_2 (by decide) ?_
  refine zSP E hs lkX7_36 [] (c_X7_in l x ar fd q (nI 0) (nI 1)) ⟨Nat.le_of_ble_eq_true rfl, Nat.le_of_ble_eq_true rfl⟩ rfl hl.1 (Nat.le_of_ble_eq_true rfl) rfl dX7_why_3 (fun r_1 H locs hp_2 hs => ?_)
  subst hp_2
  refine lv_if_ne (tgt := 12) hx hb dX7_why_6 (by decide) (fun c_3 => ?_) (fun c_3 => ?_)
  · have c_3 : ¬ q < nI 0 ∧ ¬ nI 1 < q := bz_1 c_3
    refine lv_aload_n hx hb dX7_why_12 rfl (lv_at hl 0 rfl) ?_
    refine zVP E hs lkX7_87 [] (c_X7_noDraft l x ar fd A B w f hM) (by decide) (sh6 rfl) rfl ⟨Nat.le_of_ble_eq_true rfl, Nat.le_of_ble_eq_true rfl⟩ rfl hl.1 (Nat.le_of_ble_eq_true rfl) rfl dX7_why_13 (fun r_4 H locs hp_5 hs => ?_)
    subst hp_5
    refine lv_if_eq (tgt := 22) hx hb dX7_why_16 (by decide) (fun c_6 => ?_) (fun c_6 => ?_)
    · have c_6 : ¬ (¬ (B 1 10 = 0)) := bz_0 c_6
      refine lv_aload_n hx hb dX7_why_22 rfl (lv_at hl 0 rfl) ?_
      refine zVI E hs lkX7_91 [] (c_X7_reason l x ar fd A B w f hM) (by decide) (sh6 rfl) rfl ⟨Nat.le_of_ble_eq_true rfl, Nat.le_of_ble_eq_true rfl⟩ rfl hl.1 (Nat.le_of_ble_eq_true rfl) rfl dX7_why_23 (fun r_7 arr_7 fdr_7 H locs hp_8 hs => ?_)
      rw [hp_8.2.2] at hs
      have hJ_r_7 := hp_8.2.1
      refine tp (b := nI (rmN A w f)) hp_8.1 ?_
      have hrm_r_7 := rm_all (w := w) (f := f) A hw9
      have hrl_r_7 := hrm_r_7.1
      refine lv_istore_n (lv' := [(2, .int (nI (rmN A w f))), (0, .ref (xa x 102)), (1, .int q)]) hx hb dX7_why_26 rfl hl (by decide) rfl (fun ls hl => ?_)
      refine lv_iload_n hx hb dX7_why_27 rfl (lv_at hl 2 rfl) ?_
      refine lv_if_ne (tgt := 38) hx hb dX7_why_28 (by decide) (fun c_9 => ?_) (fun c_9 => ?_)
      · refine lv_iload_n hx hb dX7_why_38 rfl (lv_at hl 0 rfl) ?_
        refine lv_if_ne (tgt := 47) hx hb dX7_why_39 (by decide) (fun c_10 => ?_) (fun c_10 => ?_)
        · have c_10 : ¬ (rmN A w f = 0) := fun h => c_10 ((nI_eq (a := rmN A w f) (b := 0) (by omega) (by omega)).mpr h)
          refine lv_iload_n hx hb dX7_why_47 rfl (lv_at hl 0 rfl) ?_
          refine lv_bipush (v := nI 10) hx hb dX7_why_48 (by decide) ?_
          refine lv_idiv hx hb dX7_why_50 (by decide) ?_
          refine tp (b := nI ((rmN A w f) / 10)) (nI_div (by omega) (by omega)) ?_
          exact zeI E hs ⟨by unfold sp_why; rw [iz_t c_3, iz_t (Classical.not_not.mp c_6), iz_f c_9]; exact hrm_r_7.2.2.2.1 c_10, hJ_r_7, rfl⟩ dX7_why_51
        · have c_10 : rmN A w f = 0 := (nI_eq (a := rmN A w f) (b := 0) (by omega) (by omega)).mp c_10
          refine lv_bipush (v := (-5)) hx hb dX7_why_42 (by decide) ?_
          refine lv_goto (tgt := 51) hx hb dX7_why_44 (by decide) ?_
          exact zeI E hs ⟨by unfold sp_why; rw [iz_t c_3, iz_t (Classical.not_not.mp c_6), iz_f c_9]; exact (hrm_r_7.2.2.2.2 c_10).symm, hJ_r_7, rfl⟩ dX7_why_51
      · refine lv_iload_n hx hb dX7_why_31 rfl (lv_at hl 0 rfl) ?_
        refine lv_bipush (v := nI 10) hx hb dX7_why_32 (by decide) ?_
        refine lv_irem hx hb dX7_why_34 (by decide) ?_
        refine tp (b := nI ((rmN A w f) % 10)) (nI_rem (by omega) (by omega)) ?_
        refine lv_goto (tgt := 51) hx hb dX7_why_35 (by decide) ?_
        exact zeI E hs ⟨by unfold sp_why; rw [iz_t c_3, iz_t (Classical.not_not.mp c_6), iz_t c_9]; exact hrm_r_7.2.1, hJ_r_7, rfl⟩ dX7_why_51
    · have c_6 : ¬ (B 1 10 = 0) := bz_1 c_6
      refine lv_bipush (v := (-4)) hx hb dX7_why_19 (by decide) ?_
      exact zeI E hs ⟨by unfold sp_why; rw [iz_t c_3, iz_f c_6], JM.rf ar, rfl⟩ dX7_why_21
  · have c_3 : ¬ (¬ q < nI 0 ∧ ¬ nI 1 < q) := bz_0 c_3
    refine lv_bipush (v := (-2)) hx hb dX7_why_9 (by decide) ?_
    exact zeI E hs ⟨by unfold sp_why; rw [iz_f c_3], JM.rf ar, rfl⟩ dX7_why_11

set_option maxHeartbeats 4000000 in
set_option maxRecDepth 100000 in
/-- clear -/
theorem c_X7_clear (l : Launch) (x : CT) (ar fd : AR)  : CV l yX7_clear cX7_clear 2 0 0 x [.ref (xa x 102)] ar fd (fun ar' fd' => ar' = zu ar 103 (clrF (ar 103)) ∧ fd' = fd) := by
  refine zsV (own := RX7) rfl (by decide +kernel) (Nat.le_of_ble_eq_true rfl) ?_
  intro p e s m below meth c ls E hs hl
  have hx := E.1
  have hb := E.2.1
  have hl : lv_has ls 2 [(0, .ref (xa x 102))] := hl
  refine lv_aload_n hx hb dX7_clear_0 rfl (lv_at hl 0 rfl) ?_
  refine zg6 E hs (k := 102) rfl 0 (by decide) rfl q_514 dX7_clear_1 ?_
  refine lv_bipush (v := nI 75) hx hb dX7_clear_4 (by decide) ?_
  refine lv_iconst (v := nI 0) hx hb dX7_clear_6 (by decide) ?_
  refine zast E hs 103 (n := 196) (j := 75) rfl rfl (by omega) (by decide) dX7_clear_7 (fun H locs hs => ?_)
  rw [zx0 rfl] at hs
  refine lv_aload_n hx hb dX7_clear_8 rfl (lv_at hl 0 rfl) ?_
  refine zg6 E hs (k := 102) rfl 0 (by decide) rfl q_514 dX7_clear_9 ?_
  refine lv_bipush (v := nI 76) hx hb dX7_clear_12 (by decide) ?_
  refine lv_iconst (v := nI 0) hx hb dX7_clear_14 (by decide) ?_
  refine zast E hs 103 (n := 196) (j := 76) rfl rfl (by omega) (by decide) dX7_clear_15 (fun H locs hs => ?_)
  rw [zx] at hs
  refine lv_aload_n hx hb dX7_clear_16 rfl (lv_at hl 0 rfl) ?_
  refine zg6 E hs (k := 102) rfl 0 (by decide) rfl q_514 dX7_clear_17 ?_
  refine lv_bipush (v := nI 77) hx hb dX7_clear_20 (by decide) ?_
  refine lv_iconst (v := nI 0) hx hb dX7_clear_22 (by decide) ?_
  refine zast E hs 103 (n := 196) (j := 77) rfl rfl (by omega) (by decide) dX7_clear_23 (fun H locs hs => ?_)
  rw [zx] at hs
  refine lv_aload_n hx hb dX7_clear_24 rfl (lv_at hl 0 rfl) ?_
  refine zg6 E hs (k := 102) rfl 0 (by decide) rfl q_514 dX7_clear_25 ?_
  refine lv_bipush (v := nI 78) hx hb dX7_clear_28 (by decide) ?_
  refine lv_iconst (v := nI 0) hx hb dX7_clear_30 (by decide) ?_
  refine zast E hs 103 (n := 196) (j := 78) rfl rfl (by omega) (by decide) dX7_clear_31 (fun H locs hs => ?_)
  rw [zx] at hs
  refine lv_iconst (v := nI 0) hx hb dX7_clear_32 (by decide) ?_
  refine lv_istore_n (lv' := [(1, .int (nI 0)), (0, .ref (xa x 102))]) hx hb dX7_clear_33 rfl hl (by decide) rfl (fun ls hl => ?_)
  have L_1 : ∀ (mm : Nat) (i : Nat), (36 - i) < mm → (i ≤ 36) → ∀ (H : Heap) (locs : List Loc) (ls : Array Slot), ST x (AA x) s.heap (zu ar 103 (clw (zu (zu (zu (zu (ar 103) 75 (nI 0)) 76 (nI 0)) 77 (nI 0)) 78 (nI 0)) i)) fd H locs → lv_has ls 2 [(0, .ref (xa x 102)), (1, .int (nI i))] → W p l e (rmZ 0 0) s m ([.ref (xa x 102)] : List Value).toArray below meth c H locs 0 0 (QV below x [.ref (xa x 102)] s (fun ar' fd' => ar' = zu ar 103 (clrF (ar 103)) ∧ fd' = fd)) (F0 m 34 ls []) := by
    intro mm
    induction mm with
    | zero => intro i hmu; exact absurd hmu (Nat.not_lt_zero _)
    | succ mm ih_1 =>
      intro i hmu hi H locs ls hs hl
      refine lv_iload_n hx hb dX7_clear_34 rfl (lv_at hl 1 rfl) ?_
      refine lv_bipush (v := nI 36) hx hb dX7_clear_35 (by decide) ?_
      refine lv_icmp_ge (tgt := 77) hx hb dX7_clear_37 (by decide) (fun c_2 => ?_) (fun c_2 => ?_)
      · have c_2 : 36 ≤ i := (nI_leI (a := 36) (b := i) (by omega) (by omega)).mp c_2
        have hi36 : i = 36 := by omega
        subst hi36
        refine lv_iconst (v := nI 0) hx hb dX7_clear_77 (by decide) ?_
        refine lv_istore_n (lv' := [(1, .int (nI 0)), (0, .ref (xa x 102))]) hx hb dX7_clear_78 rfl hl (by decide) rfl (fun ls hl => ?_)
        have L_3 : ∀ (mm : Nat) (i : Nat), (9 - i) < mm → (i ≤ 9) → ∀ (H : Heap) (locs : List Loc) (ls : Array Slot), ST x (AA x) s.heap (zu ar 103 (bl (clw (zu (zu (zu (zu (ar 103) 75 (nI 0)) 76 (nI 0)) 77 (nI 0)) 78 (nI 0)) 36) 187 i (fun _ => nI 0))) fd H locs → lv_has ls 2 [(0, .ref (xa x 102)), (1, .int (nI i))] → W p l e (rmZ 0 0) s m ([.ref (xa x 102)] : List Value).toArray below meth c H locs 0 0 (QV below x [.ref (xa x 102)] s (fun ar' fd' => ar' = zu ar 103 (clrF (ar 103)) ∧ fd' = fd)) (F0 m 79 ls []) := by
          intro mm
          induction mm with
          | zero => intro i hmu; exact absurd hmu (Nat.not_lt_zero _)
          | succ mm ih_3 =>
            intro i hmu hi H locs ls hs hl
            refine lv_iload_n hx hb dX7_clear_79 rfl (lv_at hl 1 rfl) ?_
            refine lv_bipush (v := nI 9) hx hb dX7_clear_80 (by decide) ?_
            refine lv_icmp_ge (tgt := 102) hx hb dX7_clear_82 (by decide) (fun c_4 => ?_) (fun c_4 => ?_)
            · have c_4 : 9 ≤ i := (nI_leI (a := 9) (b := i) (by omega) (by omega)).mp c_4
              exact zeV E hs ⟨by rw [show i = 9 by omega]; rfl, rfl⟩ dX7_clear_102
            · have c_4 : ¬ (9 ≤ i) := fun h => c_4 ((nI_leI (a := 9) (b := i) (by omega) (by omega)).mpr h)
              refine lv_aload_n hx hb dX7_clear_85 rfl (lv_at hl 0 rfl) ?_
              refine zg6 E hs (k := 102) rfl 0 (by decide) rfl q_514 dX7_clear_86 ?_
              refine lv_sipush (v := nI 187) hx hb dX7_clear_89 (by decide) ?_
              refine lv_iload_n hx hb dX7_clear_92 rfl (lv_at hl 1 rfl) ?_
              refine lv_iadd hx hb dX7_clear_93 ?_
              refine tp (b := nI (187 + i)) (nI_add _ _) ?_
              refine lv_iconst (v := nI 0) hx hb dX7_clear_94 (by decide) ?_
              refine zast E hs 103 (n := 196) (j := (187 + i)) rfl rfl (by omega) (by decide) dX7_clear_95 (fun H locs hs => ?_)
              rw [zx] at hs
              refine lv_iinc (v := nI (i + 1)) (lv' := [(1, .int (nI (i + 1))), (0, .ref (xa x 102))]) hx hb dX7_clear_96 hl (k := 1) rfl (nI_inc _) (by decide) rfl (fun ls hl => ?_)
              refine lv_goto (tgt := 79) hx hb dX7_clear_99 (by decide) ?_
              exact ih_3 (i + 1) (by omega) (by omega) _ _ _ (by rw [bl_s (h := fun _ => nI 0) (i := i) rfl] at hs; exact hs) (lvr (lv_at hl 1 rfl) (lvr (lv_at hl 0 rfl) (lvn hl)))
        exact L_3 (_ + 1) 0 (Nat.lt_succ_self _) (by omega) _ _ _ (by rw [bl_0]; exact hs) (lvr (lv_at hl 1 rfl) (lvr (lv_at hl 0 rfl) (lvn hl)))
      · have c_2 : ¬ (36 ≤ i) := fun h => c_2 ((nI_leI (a := 36) (b := i) (by omega) (by omega)).mpr h)
        refine lv_aload_n hx hb dX7_clear_40 rfl (lv_at hl 0 rfl) ?_
        refine zg6 E hs (k := 102) rfl 0 (by decide) rfl q_514 dX7_clear_41 ?_
        refine lv_bipush (v := nI 79) hx hb dX7_clear_44 (by decide) ?_
        refine lv_iload_n hx hb dX7_clear_46 rfl (lv_at hl 1 rfl) ?_
        refine lv_iadd hx hb dX7_clear_47 ?_
        refine tp (b := nI (79 + i)) (nI_add _ _) ?_
        refine lv_iconst (v := (-1)) hx hb dX7_clear_48 (by decide) ?_
        refine zast E hs 103 (n := 196) (j := (79 + i)) rfl rfl (by omega) (by decide) dX7_clear_49 (fun H locs hs => ?_)
        rw [zx] at hs
        refine lv_aload_n hx hb dX7_clear_50 rfl (lv_at hl 0 rfl) ?_
        refine zg6 E hs (k := 102) rfl 0 (by decide) rfl q_514 dX7_clear_51 ?_
        refine lv_bipush (v := nI 115) hx hb dX7_clear_54 (by decide) ?_
        refine lv_iload_n hx hb dX7_clear_56 rfl (lv_at hl 1 rfl) ?_
        refine lv_iadd hx hb dX7_clear_57 ?_
        refine tp (b := nI (115 + i)) (nI_add _ _) ?_
        refine lv_iconst (v := (-1)) hx hb dX7_clear_58 (by decide) ?_
        refine zast E hs 103 (n := 196) (j := (115 + i)) rfl rfl (by omega) (by decide) dX7_clear_59 (fun H locs hs => ?_)
        rw [zx] at hs
        refine lv_aload_n hx hb dX7_clear_60 rfl (lv_at hl 0 rfl) ?_
        refine zg6 E hs (k := 102) rfl 0 (by decide) rfl q_514 dX7_clear_61 ?_
        refine lv_sipush (v := nI 151) hx hb dX7_clear_64 (by decide) ?_
        refine lv_iload_n hx hb dX7_clear_67 rfl (lv_at hl 1 rfl) ?_
        refine lv_iadd hx hb dX7_clear_68 ?_
        refine tp (b := nI (151 + i)) (nI_add _ _) ?_
        refine lv_iconst (v := (-1)) hx hb dX7_clear_69 (by decide) ?_
        refine zast E hs 103 (n := 196) (j := (151 + i)) rfl rfl (by omega) (by decide) dX7_clear_70 (fun H locs hs => ?_)
        rw [zx] at hs
        refine lv_iinc (v := nI (i + 1)) (lv' := [(1, .int (nI (i + 1))), (0, .ref (xa x 102))]) hx hb dX7_clear_71 hl (k := 1) rfl (nI_inc _) (by decide) rfl (fun ls hl => ?_)
        refine lv_goto (tgt := 34) hx hb dX7_clear_74 (by decide) ?_
        exact ih_1 (i + 1) (by omega) (by omega) _ _ _ (by rw [clw_s _ _ (by omega)] at hs; exact hs) (lvr (lv_at hl 1 rfl) (lvr (lv_at hl 0 rfl) (lvn hl)))
  exact L_1 (_ + 1) 0 (Nat.lt_succ_self _) (by omega) _ _ _ (by rw [clw_0]; exact hs) (lvr (lv_at hl 1 rfl) (lvr (lv_at hl 0 rfl) (lvn hl)))

set_option maxHeartbeats 4000000 in
set_option maxRecDepth 100000 in
/-- record -/
theorem c_X7_record (l : Launch) (x : CT) (ar fd : AR) (z : Nat) (hz : fd 102 3 = nI z) (hz4 : z ≤ 4) : CV l yX7_record cX7_record 2 0 0 x [.ref (xa x 102)] ar fd (fun ar' fd' => ar' = rcA ar z ∧ fd' = rcF fd z) := by
  refine zsV (own := RX7) rfl (by decide +kernel) (Nat.le_of_ble_eq_true rfl) ?_
  intro p e s m below meth c ls E hs hl
  have hx := E.1
  have hb := E.2.1
  have hl : lv_has ls 2 [(0, .ref (xa x 102))] := hl
  refine lv_aload_n hx hb dX7_record_0 rfl (lv_at hl 0 rfl) ?_
  refine zg6 E hs (k := 102) rfl 3 (by decide) rfl q_517 dX7_record_1 ?_
  refine tp (b := nI z) hz ?_
  refine lv_iconst (v := nI 4) hx hb dX7_record_4 (by decide) ?_
  refine lv_icmp_ne (tgt := 49) hx hb dX7_record_5 (by decide) (fun c_1 => ?_) (fun c_1 => ?_)
  · have c_1 : ¬ (z = 4) := fun h => c_1 ((nI_eq (a := z) (b := 4) (by omega) (by omega)).mpr h)
    refine lv_iconst (v := nI 0) hx hb dX7_record_49 (by decide) ?_
    refine lv_istore_n (lv' := [(1, .int (nI 0)), (0, .ref (xa x 102))]) hx hb dX7_record_50 rfl hl (by decide) rfl (fun ls hl => ?_)
    have L_2 : ∀ (mm : Nat) (i : Nat), (196 - i) < mm → (i ≤ 196) → ∀ (H : Heap) (locs : List Loc) (ls : Array Slot), ST x (AA x) s.heap (zu ar 104 (bl (ar 104) (196 * z) i (ar 103))) fd H locs → lv_has ls 2 [(0, .ref (xa x 102)), (1, .int (nI i))] → W p l e (rmZ 0 0) s m ([.ref (xa x 102)] : List Value).toArray below meth c H locs 0 0 (QV below x [.ref (xa x 102)] s (fun ar' fd' => ar' = rcA ar z ∧ fd' = rcF fd z)) (F0 m 51 ls []) := by
      intro mm
      induction mm with
      | zero => intro i hmu; exact absurd hmu (Nat.not_lt_zero _)
      | succ mm ih_2 =>
        intro i hmu hi H locs ls hs hl
        refine lv_iload_n hx hb dX7_record_51 rfl (lv_at hl 1 rfl) ?_
        refine lv_sipush (v := nI 196) hx hb dX7_record_52 (by decide) ?_
        refine lv_icmp_ge (tgt := 85) hx hb dX7_record_55 (by decide) (fun c_3 => ?_) (fun c_3 => ?_)
        · have c_3 : 196 ≤ i := (nI_leI (a := 196) (b := i) (by omega) (by omega)).mp c_3
          refine lv_aload_n hx hb dX7_record_85 rfl (lv_at hl 0 rfl) ?_
          refine lv_dup hx hb dX7_record_86 rfl ?_
          refine zg6 E hs (k := 102) rfl 3 (by decide) rfl q_517 dX7_record_87 ?_
          refine tp (b := nI z) hz ?_
          refine lv_iconst (v := nI 1) hx hb dX7_record_90 (by decide) ?_
          refine lv_iadd hx hb dX7_record_91 ?_
          refine tp (b := nI (z + 1)) (nI_add _ _) ?_
          refine zp6_3 E hs (k := 102) (hk := rfl)  q_517 dX7_record_92 (fun H locs hs => ?_)
          exact zeV E hs ⟨by unfold rcA pstF; rw [iz_f c_1, show i = 196 by omega], by unfold rcF pz; rw [iz_f c_1]⟩ dX7_record_95
        · have c_3 : ¬ (196 ≤ i) := fun h => c_3 ((nI_leI (a := 196) (b := i) (by omega) (by omega)).mpr h)
          refine lv_aload_n hx hb dX7_record_58 rfl (lv_at hl 0 rfl) ?_
          refine zg6 E hs (k := 102) rfl 1 (by decide) rfl q_515 dX7_record_59 ?_
          refine lv_sipush (v := nI 196) hx hb dX7_record_62 (by decide) ?_
          refine lv_aload_n hx hb dX7_record_65 rfl (lv_at hl 0 rfl) ?_
          refine zg6 E hs (k := 102) rfl 3 (by decide) rfl q_517 dX7_record_66 ?_
          refine tp (b := nI z) hz ?_
          refine lv_imul hx hb dX7_record_69 ?_
          refine tp (b := nI (196 * z)) (nI_mul _ _) ?_
          refine lv_iload_n hx hb dX7_record_70 rfl (lv_at hl 1 rfl) ?_
          refine lv_iadd hx hb dX7_record_71 ?_
          refine tp (b := nI ((196 * z) + i)) (nI_add _ _) ?_
          refine lv_aload_n hx hb dX7_record_72 rfl (lv_at hl 0 rfl) ?_
          refine zg6 E hs (k := 102) rfl 0 (by decide) rfl q_514 dX7_record_73 ?_
          refine lv_iload_n hx hb dX7_record_76 rfl (lv_at hl 1 rfl) ?_
          refine zald E hs 103 (n := 196) (j := i) rfl rfl (by omega) (by decide) dX7_record_77 ?_
          refine tp (b := ar 103 i) (congrFun (zu_n _ _ (by decide)) _) ?_
          refine zast E hs 104 (n := 784) (j := ((196 * z) + i)) rfl rfl (by omega) (by decide) dX7_record_78 (fun H locs hs => ?_)
          refine lv_iinc (v := nI (i + 1)) (lv' := [(1, .int (nI (i + 1))), (0, .ref (xa x 102))]) hx hb dX7_record_79 hl (k := 1) rfl (nI_inc _) (by decide) rfl (fun ls hl => ?_)
          refine lv_goto (tgt := 51) hx hb dX7_record_82 (by decide) ?_
          exact ih_2 (i + 1) (by omega) (by omega) _ _ _ (by rw [zb (h := ar 103) rfl] at hs; exact hs) (lvr (lv_at hl 1 rfl) (lvr (lv_at hl 0 rfl) (lvn hl)))
    exact L_2 (_ + 1) 0 (Nat.lt_succ_self _) (by omega) _ _ _ (by rw [bl_0, zu_id]; exact hs) (lvr (lv_at hl 1 rfl) (lvr (lv_at hl 0 rfl) (lvn hl)))
  · have c_1 : z = 4 := (nI_eq (a := z) (b := 4) (by omega) (by omega)).mp c_1
    refine lv_iconst (v := nI 0) hx hb dX7_record_8 (by decide) ?_
    refine lv_istore_n (lv' := [(1, .int (nI 0)), (0, .ref (xa x 102))]) hx hb dX7_record_9 rfl hl (by decide) rfl (fun ls hl => ?_)
    have L_4 : ∀ (mm : Nat) (i : Nat), (588 - i) < mm → (i ≤ 588) → ∀ (H : Heap) (locs : List Loc) (ls : Array Slot), ST x (AA x) s.heap (zu ar 104 (bl (ar 104) 0 i (fun k => ar 104 (196 + k)))) fd H locs → lv_has ls 2 [(0, .ref (xa x 102)), (1, .int (nI i))] → W p l e (rmZ 0 0) s m ([.ref (xa x 102)] : List Value).toArray below meth c H locs 0 0 (QV below x [.ref (xa x 102)] s (fun ar' fd' => ar' = rcA ar z ∧ fd' = rcF fd z)) (F0 m 10 ls []) := by
      intro mm
      induction mm with
      | zero => intro i hmu; exact absurd hmu (Nat.not_lt_zero _)
      | succ mm ih_4 =>
        intro i hmu hi H locs ls hs hl
        refine lv_iload_n hx hb dX7_record_10 rfl (lv_at hl 1 rfl) ?_
        refine lv_sipush (v := nI 588) hx hb dX7_record_11 (by decide) ?_
        refine lv_icmp_ge (tgt := 39) hx hb dX7_record_14 (by decide) (fun c_5 => ?_) (fun c_5 => ?_)
        · have c_5 : 588 ≤ i := (nI_leI (a := 588) (b := i) (by omega) (by omega)).mp c_5
          have hi588 : i = 588 := by omega
          subst hi588
          refine lv_aload_n hx hb dX7_record_39 rfl (lv_at hl 0 rfl) ?_
          refine lv_dup hx hb dX7_record_40 rfl ?_
          refine zg6 E hs (k := 102) rfl 3 (by decide) rfl q_517 dX7_record_41 ?_
          refine tp (b := nI z) hz ?_
          refine lv_iconst (v := nI 1) hx hb dX7_record_44 (by decide) ?_
          refine lv_isub hx hb dX7_record_45 ?_
          refine tp (b := nI (z - 1)) (nI_sub (by omega)) ?_
          refine zp6_3 E hs (k := 102) (hk := rfl)  q_517 dX7_record_46 (fun H locs hs => ?_)
          refine lv_iconst (v := nI 0) hx hb dX7_record_49 (by decide) ?_
          refine lv_istore_n (lv' := [(1, .int (nI 0)), (0, .ref (xa x 102))]) hx hb dX7_record_50 rfl hl (by decide) rfl (fun ls hl => ?_)
          have L_6 : ∀ (mm : Nat) (i : Nat), (196 - i) < mm → (i ≤ 196) → ∀ (H : Heap) (locs : List Loc) (ls : Array Slot), ST x (AA x) s.heap (zu ar 104 (bl (bl (ar 104) 0 588 (fun k => ar 104 (196 + k))) (196 * (z - 1)) i (ar 103))) (zu fd 102 (zu (fd 102) 3 (nI (z - 1)))) H locs → lv_has ls 2 [(0, .ref (xa x 102)), (1, .int (nI i))] → W p l e (rmZ 0 0) s m ([.ref (xa x 102)] : List Value).toArray below meth c H locs 0 0 (QV below x [.ref (xa x 102)] s (fun ar' fd' => ar' = rcA ar z ∧ fd' = rcF fd z)) (F0 m 51 ls []) := by
            intro mm
            induction mm with
            | zero => intro i hmu; exact absurd hmu (Nat.not_lt_zero _)
            | succ mm ih_6 =>
              intro i hmu hi H locs ls hs hl
              refine lv_iload_n hx hb dX7_record_51 rfl (lv_at hl 1 rfl) ?_
              refine lv_sipush (v := nI 196) hx hb dX7_record_52 (by decide) ?_
              refine lv_icmp_ge (tgt := 85) hx hb dX7_record_55 (by decide) (fun c_7 => ?_) (fun c_7 => ?_)
              · have c_7 : 196 ≤ i := (nI_leI (a := 196) (b := i) (by omega) (by omega)).mp c_7
                refine lv_aload_n hx hb dX7_record_85 rfl (lv_at hl 0 rfl) ?_
                refine lv_dup hx hb dX7_record_86 rfl ?_
                refine zg6 E hs (k := 102) rfl 3 (by decide) rfl q_517 dX7_record_87 ?_
                refine tp (b := nI (z - 1)) (by rw [zu_s, zu_s]) ?_
                refine lv_iconst (v := nI 1) hx hb dX7_record_90 (by decide) ?_
                refine lv_iadd hx hb dX7_record_91 ?_
                refine tp (b := nI ((z - 1) + 1)) (nI_add _ _) ?_
                refine zp6_3 E hs (k := 102) (hk := rfl)  q_517 dX7_record_92 (fun H locs hs => ?_)
                exact zeV E hs ⟨by unfold rcA pstF; rw [iz_t c_1, show i = 196 by omega, show z - 1 = 3 by omega], by unfold rcF pz; rw [iz_t c_1, zu_s, zu_zu, zu_zu, show z - 1 + 1 = 4 by omega]⟩ dX7_record_95
              · have c_7 : ¬ (196 ≤ i) := fun h => c_7 ((nI_leI (a := 196) (b := i) (by omega) (by omega)).mpr h)
                refine lv_aload_n hx hb dX7_record_58 rfl (lv_at hl 0 rfl) ?_
                refine zg6 E hs (k := 102) rfl 1 (by decide) rfl q_515 dX7_record_59 ?_
                refine lv_sipush (v := nI 196) hx hb dX7_record_62 (by decide) ?_
                refine lv_aload_n hx hb dX7_record_65 rfl (lv_at hl 0 rfl) ?_
                refine zg6 E hs (k := 102) rfl 3 (by decide) rfl q_517 dX7_record_66 ?_
                refine tp (b := nI (z - 1)) (by rw [zu_s, zu_s]) ?_
                refine lv_imul hx hb dX7_record_69 ?_
                refine tp (b := nI (196 * (z - 1))) (nI_mul _ _) ?_
                refine lv_iload_n hx hb dX7_record_70 rfl (lv_at hl 1 rfl) ?_
                refine lv_iadd hx hb dX7_record_71 ?_
                refine tp (b := nI ((196 * (z - 1)) + i)) (nI_add _ _) ?_
                refine lv_aload_n hx hb dX7_record_72 rfl (lv_at hl 0 rfl) ?_
                refine zg6 E hs (k := 102) rfl 0 (by decide) rfl q_514 dX7_record_73 ?_
                refine lv_iload_n hx hb dX7_record_76 rfl (lv_at hl 1 rfl) ?_
                refine zald E hs 103 (n := 196) (j := i) rfl rfl (by omega) (by decide) dX7_record_77 ?_
                refine tp (b := ar 103 i) (congrFun (zu_n _ _ (by decide)) _) ?_
                refine zast E hs 104 (n := 784) (j := ((196 * (z - 1)) + i)) rfl rfl (by omega) (by decide) dX7_record_78 (fun H locs hs => ?_)
                refine lv_iinc (v := nI (i + 1)) (lv' := [(1, .int (nI (i + 1))), (0, .ref (xa x 102))]) hx hb dX7_record_79 hl (k := 1) rfl (nI_inc _) (by decide) rfl (fun ls hl => ?_)
                refine lv_goto (tgt := 51) hx hb dX7_record_82 (by decide) ?_
                exact ih_6 (i + 1) (by omega) (by omega) _ _ _ (by rw [zb (h := ar 103) rfl] at hs; exact hs) (lvr (lv_at hl 1 rfl) (lvr (lv_at hl 0 rfl) (lvn hl)))
          exact L_6 (_ + 1) 0 (Nat.lt_succ_self _) (by omega) _ _ _ (by rw [bl_0]; exact hs) (lvr (lv_at hl 1 rfl) (lvr (lv_at hl 0 rfl) (lvn hl)))
        · have c_5 : ¬ (588 ≤ i) := fun h => c_5 ((nI_leI (a := 588) (b := i) (by omega) (by omega)).mpr h)
          refine lv_aload_n hx hb dX7_record_17 rfl (lv_at hl 0 rfl) ?_
          refine zg6 E hs (k := 102) rfl 1 (by decide) rfl q_515 dX7_record_18 ?_
          refine lv_iload_n hx hb dX7_record_21 rfl (lv_at hl 1 rfl) ?_
          refine lv_aload_n hx hb dX7_record_22 rfl (lv_at hl 0 rfl) ?_
          refine zg6 E hs (k := 102) rfl 1 (by decide) rfl q_515 dX7_record_23 ?_
          refine lv_sipush (v := nI 196) hx hb dX7_record_26 (by decide) ?_
          refine lv_iload_n hx hb dX7_record_29 rfl (lv_at hl 1 rfl) ?_
          refine lv_iadd hx hb dX7_record_30 ?_
          refine tp (b := nI (196 + i)) (nI_add _ _) ?_
          refine zald E hs 104 (n := 784) (j := (196 + i)) rfl rfl (by omega) (by decide) dX7_record_31 ?_
          refine tp (b := ar 104 (196 + i)) (by rw [zu_s, bl_o (by omega)]) ?_
          refine zast E hs 104 (n := 784) (j := i) rfl rfl (by omega) (by decide) dX7_record_32 (fun H locs hs => ?_)
          refine lv_iinc (v := nI (i + 1)) (lv' := [(1, .int (nI (i + 1))), (0, .ref (xa x 102))]) hx hb dX7_record_33 hl (k := 1) rfl (nI_inc _) (by decide) rfl (fun ls hl => ?_)
          refine lv_goto (tgt := 10) hx hb dX7_record_36 (by decide) ?_
          exact ih_4 (i + 1) (by omega) (by omega) _ _ _ (by rw [zb0 (h := fun k => ar 104 (196 + k)) rfl] at hs; exact hs) (lvr (lv_at hl 1 rfl) (lvr (lv_at hl 0 rfl) (lvn hl)))
    exact L_4 (_ + 1) 0 (Nat.lt_succ_self _) (by omega) _ _ _ (by rw [bl_0, zu_id]; exact hs) (lvr (lv_at hl 1 rfl) (lvr (lv_at hl 0 rfl) (lvn hl)))

set_option maxHeartbeats 4000000 in
set_option maxRecDepth 100000 in
/-- undo -/
theorem c_X7_undo (l : Launch) (x : CT) (ar fd : AR) (z : Nat) (hz : fd 102 3 = nI z) (hz4 : z ≤ 4) : CI l yX7_undo cX7_undo 2 (some .int) 0 0 x [.ref (xa x 102)] ar fd (fun r ar' fd' => (z = 0 ∧ r = -5 ∧ ar' = ar ∧ fd' = fd) ∨ (¬ z = 0 ∧ r = nI (z - 1) ∧ ar' = zu ar 103 (bl (ar 103) 0 196 (fun k => ar 104 (196 * (z - 1) + k))) ∧ fd' = zu fd 102 (zu (fd 102) 3 (nI (z - 1))))) := by
  refine zsI (own := RX7) rfl (by decide +kernel) (Nat.le_of_ble_eq_true rfl) ?_
  intro p e s m below meth c ls E hs hl
  have hx := E.1
  have hb := E.2.1
  have hl : lv_has ls 2 [(0, .ref (xa x 102))] := hl
  refine lv_aload_n hx hb dX7_undo_0 rfl (lv_at hl 0 rfl) ?_
  refine zg6 E hs (k := 102) rfl 3 (by decide) rfl q_517 dX7_undo_1 ?_
  refine tp (b := nI z) hz ?_
  refine lv_if_ne (tgt := 10) hx hb dX7_undo_4 (by decide) (fun c_1 => ?_) (fun c_1 => ?_)
  · have c_1 : ¬ (z = 0) := fun h => c_1 ((nI_eq (a := z) (b := 0) (by omega) (by omega)).mpr h)
    refine lv_aload_n hx hb dX7_undo_10 rfl (lv_at hl 0 rfl) ?_
    refine lv_dup hx hb dX7_undo_11 rfl ?_
    refine zg6 E hs (k := 102) rfl 3 (by decide) rfl q_517 dX7_undo_12 ?_
    refine tp (b := nI z) hz ?_
    refine lv_iconst (v := nI 1) hx hb dX7_undo_15 (by decide) ?_
    refine lv_isub hx hb dX7_undo_16 ?_
    refine tp (b := nI (z - 1)) (nI_sub (by omega)) ?_
    refine zp6_3 E hs (k := 102) (hk := rfl)  q_517 dX7_undo_17 (fun H locs hs => ?_)
    refine lv_iconst (v := nI 0) hx hb dX7_undo_20 (by decide) ?_
    refine lv_istore_n (lv' := [(1, .int (nI 0)), (0, .ref (xa x 102))]) hx hb dX7_undo_21 rfl hl (by decide) rfl (fun ls hl => ?_)
    have L_2 : ∀ (mm : Nat) (i : Nat), (196 - i) < mm → (i ≤ 196) → ∀ (H : Heap) (locs : List Loc) (ls : Array Slot), ST x (AA x) s.heap (zu ar 103 (bl (ar 103) 0 i (fun k => ar 104 (196 * (z - 1) + k)))) (zu fd 102 (zu (fd 102) 3 (nI (z - 1)))) H locs → lv_has ls 2 [(0, .ref (xa x 102)), (1, .int (nI i))] → W p l e (rmZ 0 0) s m ([.ref (xa x 102)] : List Value).toArray below meth c H locs 0 0 (QI below x [.ref (xa x 102)] s (fun r ar' fd' => (z = 0 ∧ r = -5 ∧ ar' = ar ∧ fd' = fd) ∨ (¬ z = 0 ∧ r = nI (z - 1) ∧ ar' = zu ar 103 (bl (ar 103) 0 196 (fun k => ar 104 (196 * (z - 1) + k))) ∧ fd' = zu fd 102 (zu (fd 102) 3 (nI (z - 1)))))) (F0 m 22 ls []) := by
      intro mm
      induction mm with
      | zero => intro i hmu; exact absurd hmu (Nat.not_lt_zero _)
      | succ mm ih_2 =>
        intro i hmu hi H locs ls hs hl
        refine lv_iload_n hx hb dX7_undo_22 rfl (lv_at hl 1 rfl) ?_
        refine lv_sipush (v := nI 196) hx hb dX7_undo_23 (by decide) ?_
        refine lv_icmp_ge (tgt := 56) hx hb dX7_undo_26 (by decide) (fun c_3 => ?_) (fun c_3 => ?_)
        · have c_3 : 196 ≤ i := (nI_leI (a := 196) (b := i) (by omega) (by omega)).mp c_3
          refine lv_aload_n hx hb dX7_undo_56 rfl (lv_at hl 0 rfl) ?_
          refine zg6 E hs (k := 102) rfl 3 (by decide) rfl q_517 dX7_undo_57 ?_
          refine tp (b := nI (z - 1)) (by rw [zu_s, zu_s]) ?_
          exact zeI E hs (Or.inr ⟨c_1, rfl, by rw [show i = 196 by omega], rfl⟩) dX7_undo_60
        · have c_3 : ¬ (196 ≤ i) := fun h => c_3 ((nI_leI (a := 196) (b := i) (by omega) (by omega)).mpr h)
          refine lv_aload_n hx hb dX7_undo_29 rfl (lv_at hl 0 rfl) ?_
          refine zg6 E hs (k := 102) rfl 0 (by decide) rfl q_514 dX7_undo_30 ?_
          refine lv_iload_n hx hb dX7_undo_33 rfl (lv_at hl 1 rfl) ?_
          refine lv_aload_n hx hb dX7_undo_34 rfl (lv_at hl 0 rfl) ?_
          refine zg6 E hs (k := 102) rfl 1 (by decide) rfl q_515 dX7_undo_35 ?_
          refine lv_sipush (v := nI 196) hx hb dX7_undo_38 (by decide) ?_
          refine lv_aload_n hx hb dX7_undo_41 rfl (lv_at hl 0 rfl) ?_
          refine zg6 E hs (k := 102) rfl 3 (by decide) rfl q_517 dX7_undo_42 ?_
          refine tp (b := nI (z - 1)) (by rw [zu_s, zu_s]) ?_
          refine lv_imul hx hb dX7_undo_45 ?_
          refine tp (b := nI (196 * (z - 1))) (nI_mul _ _) ?_
          refine lv_iload_n hx hb dX7_undo_46 rfl (lv_at hl 1 rfl) ?_
          refine lv_iadd hx hb dX7_undo_47 ?_
          refine tp (b := nI ((196 * (z - 1)) + i)) (nI_add _ _) ?_
          refine zald E hs 104 (n := 784) (j := ((196 * (z - 1)) + i)) rfl rfl (by omega) (by decide) dX7_undo_48 ?_
          refine tp (b := ar 104 ((196 * (z - 1)) + i)) (congrFun (zu_n _ _ (by decide)) _) ?_
          refine zast E hs 103 (n := 196) (j := i) rfl rfl (by omega) (by decide) dX7_undo_49 (fun H locs hs => ?_)
          refine lv_iinc (v := nI (i + 1)) (lv' := [(1, .int (nI (i + 1))), (0, .ref (xa x 102))]) hx hb dX7_undo_50 hl (k := 1) rfl (nI_inc _) (by decide) rfl (fun ls hl => ?_)
          refine lv_goto (tgt := 22) hx hb dX7_undo_53 (by decide) ?_
          exact ih_2 (i + 1) (by omega) (by omega) _ _ _ (by rw [zb0 (h := (fun k => ar 104 (196 * (z - 1) + k))) rfl] at hs; exact hs) (lvr (lv_at hl 1 rfl) (lvr (lv_at hl 0 rfl) (lvn hl)))
    exact L_2 (_ + 1) 0 (Nat.lt_succ_self _) (by omega) _ _ _ (by rw [bl_0, zu_id]; exact hs) (lvr (lv_at hl 1 rfl) (lvr (lv_at hl 0 rfl) (lvn hl)))
  · have c_1 : z = 0 := (nI_eq (a := z) (b := 0) (by omega) (by omega)).mp c_1
    refine lv_bipush (v := (-5)) hx hb dX7_undo_7 (by decide) ?_
    exact zeI E hs (Or.inl ⟨c_1, rfl, rfl, rfl⟩) dX7_undo_9

set_option maxHeartbeats 4000000 in
set_option maxRecDepth 100000 in
/-- keep -/
theorem c_X7_keep (l : Launch) (x : CT) (ar fd : AR)  : CI l yX7_keep cX7_keep 2 (some .int) 0 0 x [.ref (xa x 102)] ar fd (fun r ar' fd' => r = ar 103 77 ∧ ar' = zu ar 105 (bl (ar 105) 0 196 (ar 103)) ∧ fd' = zu fd 102 (zu (fd 102) 4 (nI 1))) := by
  refine zsI (own := RX7) rfl (by decide +kernel) (Nat.le_of_ble_eq_true rfl) ?_
  intro p e s m below meth c ls E hs hl
  have hx := E.1
  have hb := E.2.1
  have hl : lv_has ls 2 [(0, .ref (xa x 102))] := hl
  refine lv_iconst (v := nI 0) hx hb dX7_keep_0 (by decide) ?_
  refine lv_istore_n (lv' := [(1, .int (nI 0)), (0, .ref (xa x 102))]) hx hb dX7_keep_1 rfl hl (by decide) rfl (fun ls hl => ?_)
  have L_1 : ∀ (mm : Nat) (i : Nat), (196 - i) < mm → (i ≤ 196) → ∀ (H : Heap) (locs : List Loc) (ls : Array Slot), ST x (AA x) s.heap (zu ar 105 (bl (ar 105) 0 i (ar 103))) fd H locs → lv_has ls 2 [(0, .ref (xa x 102)), (1, .int (nI i))] → W p l e (rmZ 0 0) s m ([.ref (xa x 102)] : List Value).toArray below meth c H locs 0 0 (QI below x [.ref (xa x 102)] s (fun r ar' fd' => r = ar 103 77 ∧ ar' = zu ar 105 (bl (ar 105) 0 196 (ar 103)) ∧ fd' = zu fd 102 (zu (fd 102) 4 (nI 1)))) (F0 m 2 ls []) := by
    intro mm
    induction mm with
    | zero => intro i hmu; exact absurd hmu (Nat.not_lt_zero _)
    | succ mm ih_1 =>
      intro i hmu hi H locs ls hs hl
      refine lv_iload_n hx hb dX7_keep_2 rfl (lv_at hl 1 rfl) ?_
      refine lv_sipush (v := nI 196) hx hb dX7_keep_3 (by decide) ?_
      refine lv_icmp_ge (tgt := 27) hx hb dX7_keep_6 (by decide) (fun c_2 => ?_) (fun c_2 => ?_)
      · have c_2 : 196 ≤ i := (nI_leI (a := 196) (b := i) (by omega) (by omega)).mp c_2
        refine lv_aload_n hx hb dX7_keep_27 rfl (lv_at hl 0 rfl) ?_
        refine lv_iconst (v := nI 1) hx hb dX7_keep_28 (by decide) ?_
        refine zp6_4 E hs (k := 102) (hk := rfl) (hb1 := Or.inr rfl)  q_518 dX7_keep_29 (fun H locs hs => ?_)
        refine lv_aload_n hx hb dX7_keep_32 rfl (lv_at hl 0 rfl) ?_
        refine zg6 E hs (k := 102) rfl 0 (by decide) rfl q_514 dX7_keep_33 ?_
        refine lv_bipush (v := nI 77) hx hb dX7_keep_36 (by decide) ?_
        refine zald E hs 103 (n := 196) (j := 77) rfl rfl (by omega) (by decide) dX7_keep_38 ?_
        refine tp (b := ar 103 77) (congrFun (zu_n _ _ (by decide)) _) ?_
        exact zeI E hs ⟨rfl, by rw [show i = 196 by omega], rfl⟩ dX7_keep_39
      · have c_2 : ¬ (196 ≤ i) := fun h => c_2 ((nI_leI (a := 196) (b := i) (by omega) (by omega)).mpr h)
        refine lv_aload_n hx hb dX7_keep_9 rfl (lv_at hl 0 rfl) ?_
        refine zg6 E hs (k := 102) rfl 2 (by decide) rfl q_516 dX7_keep_10 ?_
        refine lv_iload_n hx hb dX7_keep_13 rfl (lv_at hl 1 rfl) ?_
        refine lv_aload_n hx hb dX7_keep_14 rfl (lv_at hl 0 rfl) ?_
        refine zg6 E hs (k := 102) rfl 0 (by decide) rfl q_514 dX7_keep_15 ?_
        refine lv_iload_n hx hb dX7_keep_18 rfl (lv_at hl 1 rfl) ?_
        refine zald E hs 103 (n := 196) (j := i) rfl rfl (by omega) (by decide) dX7_keep_19 ?_
        refine tp (b := ar 103 i) (congrFun (zu_n _ _ (by decide)) _) ?_
        refine zast E hs 105 (n := 196) (j := i) rfl rfl (by omega) (by decide) dX7_keep_20 (fun H locs hs => ?_)
        refine lv_iinc (v := nI (i + 1)) (lv' := [(1, .int (nI (i + 1))), (0, .ref (xa x 102))]) hx hb dX7_keep_21 hl (k := 1) rfl (nI_inc _) (by decide) rfl (fun ls hl => ?_)
        refine lv_goto (tgt := 2) hx hb dX7_keep_24 (by decide) ?_
        exact ih_1 (i + 1) (by omega) (by omega) _ _ _ (by rw [zb0 (h := ar 103) rfl] at hs; exact hs) (lvr (lv_at hl 1 rfl) (lvr (lv_at hl 0 rfl) (lvn hl)))
  exact L_1 (_ + 1) 0 (Nat.lt_succ_self _) (by omega) _ _ _ (by rw [bl_0, zu_id]; exact hs) (lvr (lv_at hl 1 rfl) (lvr (lv_at hl 0 rfl) (lvn hl)))

set_option maxHeartbeats 4000000 in
set_option maxRecDepth 100000 in
/-- restore -/
theorem c_X7_restore (l : Launch) (x : CT) (ar fd : AR) (z : Nat) (hz : fd 102 3 = nI z) (hz4 : z ≤ 4) : CI l yX7_restore cX7_restore 2 (some .int) 1 21 x [.ref (xa x 102)] ar fd (fun r ar' fd' => (fd 102 4 = 0 ∧ r = -5 ∧ ar' = ar ∧ fd' = fd) ∨ (¬ fd 102 4 = 0 ∧ r = ar 105 77 ∧ ar' = zu (rcA ar z) 103 (bl (ar 103) 0 196 (ar 105)) ∧ fd' = rcF fd z)) := by
  refine zsI (own := RX7) rfl (by decide +kernel) (Nat.le_of_ble_eq_true rfl) ?_
  intro p e s m below meth c ls E hs hl
  have hx := E.1
  have hb := E.2.1
  have hl : lv_has ls 2 [(0, .ref (xa x 102))] := hl
  refine lv_aload_n hx hb dX7_restore_0 rfl (lv_at hl 0 rfl) ?_
  refine zg6 E hs (k := 102) rfl 4 (by decide) rfl q_518 dX7_restore_1 ?_
  refine lv_if_ne (tgt := 10) hx hb dX7_restore_4 (by decide) (fun c_1 => ?_) (fun c_1 => ?_)
  · refine lv_aload_n hx hb dX7_restore_10 rfl (lv_at hl 0 rfl) ?_
    refine zVV E hs lkX7_48 [] (c_X7_record l x ar fd z hz hz4) (by decide) (sh6 rfl) rfl ⟨Nat.le_of_ble_eq_true rfl, Nat.le_of_ble_eq_true rfl⟩ rfl hl.1 (Nat.le_of_ble_eq_true rfl) rfl dX7_restore_11 (fun arr_2 fdr_2 H locs hp_3 hs => ?_)
    rw [hp_3.1, hp_3.2] at hs
    refine lv_iconst (v := nI 0) hx hb dX7_restore_14 (by decide) ?_
    refine lv_istore_n (lv' := [(1, .int (nI 0)), (0, .ref (xa x 102))]) hx hb dX7_restore_15 rfl hl (by decide) rfl (fun ls hl => ?_)
    have L_4 : ∀ (mm : Nat) (i : Nat), (196 - i) < mm → (i ≤ 196) → ∀ (H : Heap) (locs : List Loc) (ls : Array Slot), ST x (AA x) s.heap (zu (rcA ar z) 103 (bl (ar 103) 0 i (ar 105))) (rcF fd z) H locs → lv_has ls 2 [(0, .ref (xa x 102)), (1, .int (nI i))] → W p l e (rmZ 1 21) s m ([.ref (xa x 102)] : List Value).toArray below meth c H locs 0 0 (QI below x [.ref (xa x 102)] s (fun r ar' fd' => (fd 102 4 = 0 ∧ r = -5 ∧ ar' = ar ∧ fd' = fd) ∨ (¬ fd 102 4 = 0 ∧ r = ar 105 77 ∧ ar' = zu (rcA ar z) 103 (bl (ar 103) 0 196 (ar 105)) ∧ fd' = rcF fd z))) (F0 m 16 ls []) := by
      intro mm
      induction mm with
      | zero => intro i hmu; exact absurd hmu (Nat.not_lt_zero _)
      | succ mm ih_4 =>
        intro i hmu hi H locs ls hs hl
        refine lv_iload_n hx hb dX7_restore_16 rfl (lv_at hl 1 rfl) ?_
        refine lv_sipush (v := nI 196) hx hb dX7_restore_17 (by decide) ?_
        refine lv_icmp_ge (tgt := 41) hx hb dX7_restore_20 (by decide) (fun c_5 => ?_) (fun c_5 => ?_)
        · have c_5 : 196 ≤ i := (nI_leI (a := 196) (b := i) (by omega) (by omega)).mp c_5
          refine lv_aload_n hx hb dX7_restore_41 rfl (lv_at hl 0 rfl) ?_
          refine zg6 E hs (k := 102) rfl 0 (by decide) rfl q_514 dX7_restore_42 ?_
          refine lv_bipush (v := nI 77) hx hb dX7_restore_45 (by decide) ?_
          refine zald E hs 103 (n := 196) (j := 77) rfl rfl (by omega) (by decide) dX7_restore_47 ?_
          refine tp (b := ar 105 77) (by rw [zu_s, show i = 196 by omega, show (77 : Nat) = 0 + 77 from rfl, bl_in (by decide)]) ?_
          exact zeI E hs (Or.inr ⟨c_1, rfl, by rw [show i = 196 by omega], rfl⟩) dX7_restore_48
        · have c_5 : ¬ (196 ≤ i) := fun h => c_5 ((nI_leI (a := 196) (b := i) (by omega) (by omega)).mpr h)
          refine lv_aload_n hx hb dX7_restore_23 rfl (lv_at hl 0 rfl) ?_
          refine zg6 E hs (k := 102) rfl 0 (by decide) rfl q_514 dX7_restore_24 ?_
          refine lv_iload_n hx hb dX7_restore_27 rfl (lv_at hl 1 rfl) ?_
          refine lv_aload_n hx hb dX7_restore_28 rfl (lv_at hl 0 rfl) ?_
          refine zg6 E hs (k := 102) rfl 2 (by decide) rfl q_516 dX7_restore_29 ?_
          refine lv_iload_n hx hb dX7_restore_32 rfl (lv_at hl 1 rfl) ?_
          refine zald E hs 105 (n := 196) (j := i) rfl rfl (by omega) (by decide) dX7_restore_33 ?_
          refine tp (b := ar 105 i) ((congrFun (zu_n _ _ (by decide)) _).trans (congrFun (rcA_n (by decide)) _)) ?_
          refine zast E hs 103 (n := 196) (j := i) rfl rfl (by omega) (by decide) dX7_restore_34 (fun H locs hs => ?_)
          refine lv_iinc (v := nI (i + 1)) (lv' := [(1, .int (nI (i + 1))), (0, .ref (xa x 102))]) hx hb dX7_restore_35 hl (k := 1) rfl (nI_inc _) (by decide) rfl (fun ls hl => ?_)
          refine lv_goto (tgt := 16) hx hb dX7_restore_38 (by decide) ?_
          exact ih_4 (i + 1) (by omega) (by omega) _ _ _ (by rw [zb0 (h := ar 105) rfl] at hs; exact hs) (lvr (lv_at hl 1 rfl) (lvr (lv_at hl 0 rfl) (lvn hl)))
    exact L_4 (_ + 1) 0 (Nat.lt_succ_self _) (by omega) _ _ _ (by rw [bl_0, show ar 103 = rcA ar z 103 from (rcA_n (by decide)).symm, zu_id]; exact hs) (lvr (lv_at hl 1 rfl) (lvr (lv_at hl 0 rfl) (lvn hl)))
  · refine lv_bipush (v := (-5)) hx hb dX7_restore_7 (by decide) ?_
    exact zeI E hs (Or.inl ⟨c_1, rfl, rfl, rfl⟩) dX7_restore_9
