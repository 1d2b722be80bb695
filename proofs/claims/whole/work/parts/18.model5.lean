
theorem two_of {v : Int32} (h1 : ¬ v < nI 2) (h2 : ¬ nI 9 < v) : 2 ≤ v.toNatClampNeg ∧ v.toNatClampNeg ≤ 9 ∧ v = nI v.toNatClampNeg := by
  obtain ⟨j, hj, rfl⟩ := nI_of (x := v) (fun q => h1 (by
    rw [lt_iI] at q ⊢
    rw [show (nI 2).toInt = 2 by decide]
    have : (0 : Int32).toInt = 0 := by decide
    omega))
  rw [nI_clamp hj]
  refine ⟨?_, ?_, rfl⟩
  · rcases Nat.lt_or_ge j 2 with q | q
    · exact absurd (nI_lt q (by decide)) h1
    · exact q
  · rcases Nat.lt_or_ge 9 j with q | q
    · exact absurd (nI_lt q hj) h2
    · exact q
theorem clw_o {g : Nat → Int32} {i k : Nat} (h : ¬ ((79 ≤ k ∧ k < 79 + i) ∨ (115 ≤ k ∧ k < 115 + i) ∨ (151 ≤ k ∧ k < 151 + i))) : clw g i k = g k := iz_f h
theorem clrF_lo {g : Nat → Int32} {k : Nat} (h : k < 75) : clrF g k = g k := by
  unfold clrF
  rw [bl_o (by omega), clw_o (by omega), zu_n _ _ (by omega), zu_n _ _ (by omega), zu_n _ _ (by omega), zu_n _ _ (by omega)]
theorem me_p {g : Nat → Int32} {A : AR} {F : Nat → Int32} {w f c : Nat} {v : Int32} (h : ME g A F w f) (hc : c < 36) (hv : ¬ v < -1) : ME (zu g (79 + c) v) (zu A 7 (zu (A 7) c v)) F w f := by
  obtain ⟨hE1, hE2, hE3, hE4, hE5, hE6, hE7, hEw, hEf, hEc, hEs, hfw, hw9, hw2, hP, hD⟩ := h
  have o : ∀ q, q ≠ 7 → zu A 7 (zu (A 7) c v) q = A q := fun q hq => zu_n _ _ hq
  refine ⟨fun d hd => ?_, fun d hd => ?_, fun d hd => ?_, fun d hd => ?_, fun d hd => ?_, ?_, ?_, ?_, ?_, ?_, ?_, hfw, hw9, hw2, fun d hd => ?_, fun d hd => ?_⟩
  · rw [zu_n _ _ (by omega), o 3 (by decide)]; exact hE1 d hd
  · rw [zu_n _ _ (by omega), o 5 (by decide)]; exact hE2 d hd
  · rw [zu_s]
    by_cases e : d = c
    · subst e; rw [zu_s, zu_s]
    · rw [zu_n _ _ (by omega), zu_n _ _ e]; exact hE3 d hd
  · rw [zu_n _ _ (by omega), o 9 (by decide)]; exact hE4 d hd
  · rw [zu_n _ _ (by omega), o 13 (by decide)]; exact hE5 d hd
  · rw [zu_n _ _ (by omega), o 15 (by decide)]; exact hE6
  · rw [zu_n _ _ (by omega), o 15 (by decide)]; exact hE7
  · rw [zu_n _ _ (by omega)]; exact hEw
  · rw [zu_n _ _ (by omega)]; exact hEf
  · rw [zu_n _ _ (by omega)]; exact hEc
  · rw [zu_n _ _ (by omega)]; exact hEs
  · rw [zu_s]
    by_cases e : d = c
    · subst e; rw [zu_s]; exact hv
    · rw [zu_n _ _ e]; exact hP d hd
  · rw [o 9 (by decide)]; exact hD d hd
theorem me_b {g : Nat → Int32} {A : AR} {F : Nat → Int32} {w f : Nat} {T : Nat → Int32} (h : ME g A F w f) (hT : ∀ c, c < 36 → ¬ T c < -1) : ME (bl g 79 36 T) (zu A 7 T) F w f := by
  obtain ⟨hE1, hE2, hE3, hE4, hE5, hE6, hE7, hEw, hEf, hEc, hEs, hfw, hw9, hw2, hP, hD⟩ := h
  have o : ∀ q, q ≠ 7 → zu A 7 T q = A q := fun q hq => zu_n _ _ hq
  refine ⟨fun d hd => ?_, fun d hd => ?_, fun d hd => ?_, fun d hd => ?_, fun d hd => ?_, ?_, ?_, ?_, ?_, ?_, ?_, hfw, hw9, hw2, fun d hd => ?_, fun d hd => ?_⟩
  · rw [bl_o (by omega), o 3 (by decide)]; exact hE1 d hd
  · rw [bl_o (by omega), o 5 (by decide)]; exact hE2 d hd
  · rw [zu_s, bl_in hd]
  · rw [bl_o (by omega), o 9 (by decide)]; exact hE4 d hd
  · rw [bl_o (by omega), o 13 (by decide)]; exact hE5 d hd
  · rw [bl_o (by omega), o 15 (by decide)]; exact hE6
  · rw [bl_o (by omega), o 15 (by decide)]; exact hE7
  · rw [bl_o (by omega)]; exact hEw
  · rw [bl_o (by omega)]; exact hEf
  · rw [bl_o (by omega)]; exact hEc
  · rw [bl_o (by omega)]; exact hEs
  · rw [zu_s]; exact hT d hd
  · rw [o 9 (by decide)]; exact hD d hd
theorem bl_c {X h h2 : Nat → Int32} {a n : Nat} (h0 : ∀ j, j < n → h j = h2 j) : bl X a n h = bl X a n h2 := by
  funext k
  unfold bl
  by_cases q : a ≤ k ∧ k < a + n
  · rw [iz_t q, iz_t q, h0 (k - a) (by omega)]
  · rw [iz_f q, iz_f q]
theorem plF_ge {D : Nat → Int32} {B : Prop} {sz c : Nat} (hc : c < 36) : ¬ plF D B sz c < -1 := by
  unfold plF plV
  by_cases h : D (csN B (csI B c)) = -1
  · rw [iz_t h]
    have h1 := ct_le (fun j => D (csN B j) = -1) (csI B c)
    have h2 := (csN_36 B hc).2.2.1
    have h3 := Nat.div_le_self (OQ D B (csI B c)) sz
    have h4 : OQ D B (csI B c) ≤ 36 := by unfold OQ; omega
    generalize OQ D B (csI B c) / sz = e at h3 ⊢
    rw [lt_iI, nI_toInt (by omega), t_m1]
    omega
  · rw [iz_f h]; decide
/-- the scratch rows alone may differ: read, tried, seen -/
def JS (ar ar' : AR) : Prop := ∀ k, k ≠ 107 → k ≠ 108 → k ≠ 109 → ar' k = ar k
theorem JS.rf (ar : AR) : JS ar ar := fun _ _ _ _ => rfl
theorem rcA_J {a b : AR} {z : Nat} (h : JM a b) : JM (rcA a z) (rcA b z) := by
  intro k hk
  unfold rcA
  rw [h 103 (by decide), h 104 (by decide)]
  by_cases e : k = 104
  · subst e; rw [zu_s, zu_s]
  · rw [zu_n _ _ e, zu_n _ _ e]; exact h k hk
theorem zuJ {a b : AR} {R : Nat → Int32} (h : JM a b) : JM (zu a 103 R) (zu b 103 R) := by
  intro k hk
  by_cases e : k = 103
  · subst e; rw [zu_s, zu_s]
  · rw [zu_n _ _ e, zu_n _ _ e]; exact h k hk

set_option maxHeartbeats 4000000 in
set_option maxRecDepth 100000 in
/-- size, again -/
theorem c_X7_sizeW (l : Launch) (x : CT) (ar fd : AR) (w : Nat) (hEw : ar 103 72 = nI w) (hw9 : w ≤ 9) (hw2 : 2 ≤ w) : CP l yX7_size cX7_size 1 (some .int) 0 0 x [.ref (xa x 102)] ar fd (fun r => r = nI (36 / w)) := by
  refine zsP (own := RX7) rfl (by decide +kernel) (Nat.le_of_ble_eq_true rfl) ?_
  intro p e s m below meth c ls E hs hl
  have hx := E.1
  have hb := E.2.1
  have hl : lv_has ls 1 [(0, .ref (xa x 102))] := hl
  refine lv_bipush (v := nI 36) hx hb dX7_size_0 (by decide) ?_
  refine lv_aload_n hx hb dX7_size_2 rfl (lv_at hl 0 rfl) ?_
  refine zg6 E hs (k := 102) rfl 0 (by decide) rfl q_514 dX7_size_3 ?_
  refine lv_bipush (v := nI 72) hx hb dX7_size_6 (by decide) ?_
  refine zald E hs 103 (n := 196) (j := 72) rfl rfl (by omega) (by decide) dX7_size_8 ?_
  refine tp (b := nI w) hEw ?_
  refine lv_idiv hx hb dX7_size_9 (nI_ne0 (by omega) (by omega)) ?_
  refine tp (b := nI (36 / w)) (nI_div (by omega) (by omega)) ?_
  exact zeP E hs rfl dX7_size_10

set_option maxHeartbeats 4000000 in
set_option maxRecDepth 100000 in
/-- left, again -/
theorem c_X7_leftW (l : Launch) (x : CT) (ar fd : AR) (w f : Nat) (hEw : ar 103 72 = nI w) (hEf : ar 103 77 = nI f) (hfw : f ≤ w) : CP l yX7_left cX7_left 1 (some .int) 0 0 x [.ref (xa x 102)] ar fd (fun r => r = nI (w - f)) := by
  refine zsP (own := RX7) rfl (by decide +kernel) (Nat.le_of_ble_eq_true rfl) ?_
  intro p e s m below meth c ls E hs hl
  have hx := E.1
  have hb := E.2.1
  have hl : lv_has ls 1 [(0, .ref (xa x 102))] := hl
  refine lv_aload_n hx hb dX7_left_0 rfl (lv_at hl 0 rfl) ?_
  refine zg6 E hs (k := 102) rfl 0 (by decide) rfl q_514 dX7_left_1 ?_
  refine lv_bipush (v := nI 72) hx hb dX7_left_4 (by decide) ?_
  refine zald E hs 103 (n := 196) (j := 72) rfl rfl (by omega) (by decide) dX7_left_6 ?_
  refine tp (b := nI w) hEw ?_
  refine lv_aload_n hx hb dX7_left_7 rfl (lv_at hl 0 rfl) ?_
  refine zg6 E hs (k := 102) rfl 0 (by decide) rfl q_514 dX7_left_8 ?_
  refine lv_bipush (v := nI 77) hx hb dX7_left_11 (by decide) ?_
  refine zald E hs 103 (n := 196) (j := 77) rfl rfl (by omega) (by decide) dX7_left_13 ?_
  refine tp (b := nI f) hEf ?_
  refine lv_isub hx hb dX7_left_14 ?_
  refine tp (b := nI (w - f)) (nI_sub (by omega)) ?_
  exact zeP E hs rfl dX7_left_15

noncomputable def sq_setVotes (ar fd A B : AR) (w f z : Nat) (a u v : Int32) : Int32 × AR × AR := iz (¬ a < nI 0 ∧ ¬ nI 35 < a) (iz (¬ u < nI 0 ∧ ¬ nI 9 < u) (iz (¬ v < nI 0 ∧ ¬ nI 9 < v) (iz (((nI 10) * (A 3 a.toNatClampNeg)) + (A 5 a.toNatClampNeg) = ((nI 10) * u) + v) (((-5), ar, fd)) ((((nI 10) * (A 3 a.toNatClampNeg)) + (A 5 a.toNatClampNeg), zu (rcA ar z) 103 (zu (zu (ar 103) (2 * a.toNatClampNeg) u) ((2 * a.toNatClampNeg) + 1) v), rcF fd z))) (((-2), ar, fd))) (((-2), ar, fd))) (((-1), ar, fd))
set_option maxHeartbeats 4000000 in
set_option maxRecDepth 100000 in
/-- setVotes -/
theorem c_X7_setVotes (l : Launch) (x : CT) (ar fd A B : AR) (w f : Nat) (hM : ME (ar 103) A (B 1) w f) (z : Nat) (hz : fd 102 3 = nI z) (hz4 : z ≤ 4) (a u v : Int32) : CI l yX7_setVotes cX7_setVotes 5 (some .int) 2 42 x [.ref (xa x 102), .int a, .int u, .int v] ar fd (fun r ar' fd' => (r, ar', fd') = sq_setVotes ar fd A B w f z a u v) := by
  refine zsI (own := RX7) rfl (by decide +kernel) (Nat.le_of_ble_eq_true rfl) ?_
  intro p e s m below meth c ls E hs hl
  have hx := E.1
  have hb := E.2.1
  have hl : lv_has ls 5 [(0, .ref (xa x 102)), (1, .int a), (2, .int u), (3, .int v)] := hl
  obtain ⟨hE1, hE2, hE3, hE4, hE5, hE6, hE7, hEw, hEf, hEc, hEs, hfw, hw9, hw2, hP, hD⟩ := id hM
  refine lv_iload_n hx hb dX7_setVotes_0 rfl (lv_at hl 1 rfl) ?_
  refine zSP E hs lkX7_51 [] (c_X7_noCell l x ar fd a) ⟨Nat.le_of_ble_eq_true rfl, Nat.le_of_ble_eq_true rfl⟩ rfl hl.1 (Nat.le_of_ble_eq_true rfl) rfl dX7_setVotes_1 (fun r_1 H locs hp_2 hs => ?_)
  subst hp_2
  refine lv_if_eq (tgt := 9) hx hb dX7_setVotes_4 (by decide) (fun c_3 => ?_) (fun c_3 => ?_)
  · have c_3 : ¬ (¬ (¬ a < nI 0 ∧ ¬ nI 35 < a)) := bz_0 c_3
    obtain ⟨hlt_a, heq_a⟩ := cell_of (Classical.not_not.mp c_3) (by decide)
    rw [heq_a] at hl
    refine lv_iload_n hx hb dX7_setVotes_9 rfl (lv_at hl 2 rfl) ?_
    refine lv_iconst (v := nI 0) hx hb dX7_setVotes_10 (by decide) ?_
    refine lv_bipush (v := nI 9) hx hb dX7_setVotes_11 (by decide) ?_
    refine zSP E hs lkX7_36 [] (c_X7_in l x ar fd u (nI 0) (nI 9)) ⟨Nat.le_of_ble_eq_true rfl, Nat.le_of_ble_eq_true rfl⟩ rfl hl.1 (Nat.le_of_ble_eq_true rfl) rfl dX7_setVotes_13 (fun r_4 H locs hp_5 hs => ?_)
    subst hp_5
    refine lv_if_eq (tgt := 29) hx hb dX7_setVotes_16 (by decide) (fun c_6 => ?_) (fun c_6 => ?_)
    · have c_6 : ¬ (¬ u < nI 0 ∧ ¬ nI 9 < u) := bz_0 c_6
      refine lv_bipush (v := (-2)) hx hb dX7_setVotes_29 (by decide) ?_
      exact zeI E hs (by show (_, _, _) = sq_setVotes ar fd A B w f z a u v; unfold sq_setVotes; rw [iz_t (Classical.not_not.mp c_3), iz_f c_6]) dX7_setVotes_31
    · have c_6 : ¬ u < nI 0 ∧ ¬ nI 9 < u := bz_1 c_6
      refine lv_iload_n hx hb dX7_setVotes_19 rfl (lv_at hl 3 rfl) ?_
      refine lv_iconst (v := nI 0) hx hb dX7_setVotes_20 (by decide) ?_
      refine lv_bipush (v := nI 9) hx hb dX7_setVotes_21 (by decide) ?_
      refine zSP E hs lkX7_36 [] (c_X7_in l x ar fd v (nI 0) (nI 9)) ⟨Nat.le_of_ble_eq_true rfl, Nat.le_of_ble_eq_true rfl⟩ rfl hl.1 (Nat.le_of_ble_eq_true rfl) rfl dX7_setVotes_23 (fun r_7 H locs hp_8 hs => ?_)
      subst hp_8
      refine lv_if_ne (tgt := 32) hx hb dX7_setVotes_26 (by decide) (fun c_9 => ?_) (fun c_9 => ?_)
      · have c_9 : ¬ v < nI 0 ∧ ¬ nI 9 < v := bz_1 c_9
        refine lv_bipush (v := nI 10) hx hb dX7_setVotes_32 (by decide) ?_
        refine lv_aload_n hx hb dX7_setVotes_34 rfl (lv_at hl 0 rfl) ?_
        refine zg6 E hs (k := 102) rfl 0 (by decide) rfl q_514 dX7_setVotes_35 ?_
        refine lv_iconst (v := nI 2) hx hb dX7_setVotes_38 (by decide) ?_
        refine lv_iload_n hx hb dX7_setVotes_39 rfl (lv_at hl 1 rfl) ?_
        refine lv_imul hx hb dX7_setVotes_40 ?_
        refine tp (b := nI (2 * a.toNatClampNeg)) (nI_mul _ _) ?_
        refine zald E hs 103 (n := 196) (j := (2 * a.toNatClampNeg)) rfl rfl (by omega) (by decide) dX7_setVotes_41 ?_
        refine tp (b := A 3 a.toNatClampNeg) (hE1 _ (by omega)) ?_
        refine lv_imul hx hb dX7_setVotes_42 ?_
        refine lv_aload_n hx hb dX7_setVotes_43 rfl (lv_at hl 0 rfl) ?_
        refine zg6 E hs (k := 102) rfl 0 (by decide) rfl q_514 dX7_setVotes_44 ?_
        refine lv_iconst (v := nI 2) hx hb dX7_setVotes_47 (by decide) ?_
        refine lv_iload_n hx hb dX7_setVotes_48 rfl (lv_at hl 1 rfl) ?_
        refine lv_imul hx hb dX7_setVotes_49 ?_
        refine tp (b := nI (2 * a.toNatClampNeg)) (nI_mul _ _) ?_
        refine lv_iconst (v := nI 1) hx hb dX7_setVotes_50 (by decide) ?_
        refine lv_iadd hx hb dX7_setVotes_51 ?_
        refine tp (b := nI ((2 * a.toNatClampNeg) + 1)) (nI_add _ _) ?_
        refine zald E hs 103 (n := 196) (j := ((2 * a.toNatClampNeg) + 1)) rfl rfl (by omega) (by decide) dX7_setVotes_52 ?_
        refine tp (b := A 5 a.toNatClampNeg) (hE2 _ (by omega)) ?_
        refine lv_iadd hx hb dX7_setVotes_53 ?_
        refine lv_istore (lv' := [(4, .int (((nI 10) * (A 3 a.toNatClampNeg)) + (A 5 a.toNatClampNeg))), (0, .ref (xa x 102)), (1, .int (nI a.toNatClampNeg)), (2, .int u), (3, .int v)]) hx hb dX7_setVotes_54 hl (by decide) rfl (fun ls hl => ?_)
        refine lv_iload hx hb dX7_setVotes_56 (lv_at hl 0 rfl) ?_
        refine lv_bipush (v := nI 10) hx hb dX7_setVotes_58 (by decide) ?_
        refine lv_iload_n hx hb dX7_setVotes_60 rfl (lv_at hl 3 rfl) ?_
        refine lv_imul hx hb dX7_setVotes_61 ?_
        refine lv_iload_n hx hb dX7_setVotes_62 rfl (lv_at hl 4 rfl) ?_
        refine lv_iadd hx hb dX7_setVotes_63 ?_
        refine lv_icmp_ne (tgt := 70) hx hb dX7_setVotes_64 (by decide) (fun c_10 => ?_) (fun c_10 => ?_)
        · refine lv_aload_n hx hb dX7_setVotes_70 rfl (lv_at hl 1 rfl) ?_
          refine zVV E hs lkX7_48 [] (c_X7_record l x ar fd z hz hz4) (by decide) (sh6 rfl) rfl ⟨Nat.le_of_ble_eq_true rfl, Nat.le_of_ble_eq_true rfl⟩ rfl hl.1 (Nat.le_of_ble_eq_true rfl) rfl dX7_setVotes_71 (fun arr_11 fdr_11 H locs hp_12 hs => ?_)
          rw [hp_12.1, hp_12.2] at hs
          refine lv_aload_n hx hb dX7_setVotes_74 rfl (lv_at hl 1 rfl) ?_
          refine zg6 E hs (k := 102) rfl 0 (by decide) rfl q_514 dX7_setVotes_75 ?_
          refine lv_iconst (v := nI 2) hx hb dX7_setVotes_78 (by decide) ?_
          refine lv_iload_n hx hb dX7_setVotes_79 rfl (lv_at hl 2 rfl) ?_
          refine lv_imul hx hb dX7_setVotes_80 ?_
          refine tp (b := nI (2 * a.toNatClampNeg)) (nI_mul _ _) ?_
          refine lv_iload_n hx hb dX7_setVotes_81 rfl (lv_at hl 3 rfl) ?_
          refine zast E hs 103 (n := 196) (j := (2 * a.toNatClampNeg)) rfl rfl (by omega) (by decide) dX7_setVotes_82 (fun H locs hs => ?_)
          rw [zx0 (rcA_n (by decide))] at hs
          refine lv_aload_n hx hb dX7_setVotes_83 rfl (lv_at hl 1 rfl) ?_
          refine zg6 E hs (k := 102) rfl 0 (by decide) rfl q_514 dX7_setVotes_84 ?_
          refine lv_iconst (v := nI 2) hx hb dX7_setVotes_87 (by decide) ?_
          refine lv_iload_n hx hb dX7_setVotes_88 rfl (lv_at hl 2 rfl) ?_
          refine lv_imul hx hb dX7_setVotes_89 ?_
          refine tp (b := nI (2 * a.toNatClampNeg)) (nI_mul _ _) ?_
          refine lv_iconst (v := nI 1) hx hb dX7_setVotes_90 (by decide) ?_
          refine lv_iadd hx hb dX7_setVotes_91 ?_
          refine tp (b := nI ((2 * a.toNatClampNeg) + 1)) (nI_add _ _) ?_
          refine lv_iload_n hx hb dX7_setVotes_92 rfl (lv_at hl 4 rfl) ?_
          refine zast E hs 103 (n := 196) (j := ((2 * a.toNatClampNeg) + 1)) rfl rfl (by omega) (by decide) dX7_setVotes_93 (fun H locs hs => ?_)
          rw [zx] at hs
          refine lv_iload hx hb dX7_setVotes_94 (lv_at hl 0 rfl) ?_
          exact zeI E hs (by show (_, _, _) = sq_setVotes ar fd A B w f z a u v; unfold sq_setVotes; rw [iz_t (Classical.not_not.mp c_3), iz_t c_6, iz_t c_9, iz_f c_10]) dX7_setVotes_96
        · refine lv_bipush (v := (-5)) hx hb dX7_setVotes_67 (by decide) ?_
          exact zeI E hs (by show (_, _, _) = sq_setVotes ar fd A B w f z a u v; unfold sq_setVotes; rw [iz_t (Classical.not_not.mp c_3), iz_t c_6, iz_t c_9, iz_t c_10]) dX7_setVotes_69
      · have c_9 : ¬ (¬ v < nI 0 ∧ ¬ nI 9 < v) := bz_0 c_9
        refine lv_bipush (v := (-2)) hx hb dX7_setVotes_29 (by decide) ?_
        exact zeI E hs (by show (_, _, _) = sq_setVotes ar fd A B w f z a u v; unfold sq_setVotes; rw [iz_t (Classical.not_not.mp c_3), iz_t c_6, iz_f c_9]) dX7_setVotes_31
  · have c_3 : ¬ (¬ a < nI 0 ∧ ¬ nI 35 < a) := bz_1 c_3
    refine lv_iconst (v := (-1)) hx hb dX7_setVotes_7 (by decide) ?_
    exact zeI E hs (by show (_, _, _) = sq_setVotes ar fd A B w f z a u v; unfold sq_setVotes; rw [iz_f c_3]) dX7_setVotes_8

noncomputable def sq_begin (ar fd A B : AR) (w f z : Nat) (v : Int32) : Int32 × AR × AR := iz (v < nI 2) (((-2), ar, fd)) (iz (nI 9 < v) (((-2), ar, fd)) (iz (36 % v.toNatClampNeg = 0) ((nI (36 / v.toNatClampNeg), zu (rcA ar z) 103 (clrF (zu (ar 103) 72 (nI v.toNatClampNeg))), rcF fd z)) (((-2), ar, fd))))
set_option maxHeartbeats 4000000 in
set_option maxRecDepth 100000 in
/-- begin -/
theorem c_X7_begin (l : Launch) (x : CT) (ar fd A B : AR) (w f : Nat) (hM : ME (ar 103) A (B 1) w f) (z : Nat) (hz : fd 102 3 = nI z) (hz4 : z ≤ 4) (v : Int32) : CI l yX7_begin cX7_begin 2 (some .int) 1 21 x [.ref (xa x 102), .int v] ar fd (fun r ar' fd' => (r, ar', fd') = sq_begin ar fd A B w f z v) := by
  refine zsI (own := RX7) rfl (by decide +kernel) (Nat.le_of_ble_eq_true rfl) ?_
  intro p e s m below meth c ls E hs hl
  have hx := E.1
  have hb := E.2.1
  have hl : lv_has ls 2 [(0, .ref (xa x 102)), (1, .int v)] := hl
  obtain ⟨hE1, hE2, hE3, hE4, hE5, hE6, hE7, hEw, hEf, hEc, hEs, hfw, hw9, hw2, hP, hD⟩ := id hM
  refine lv_iload_n hx hb dX7_begin_0 rfl (lv_at hl 1 rfl) ?_
  refine lv_iconst (v := nI 2) hx hb dX7_begin_1 (by decide) ?_
  refine lv_icmp_lt (tgt := 18) hx hb dX7_begin_2 (by decide) (fun c_1 => ?_) (fun c_1 => ?_)
  · refine lv_bipush (v := (-2)) hx hb dX7_begin_18 (by decide) ?_
    exact zeI E hs (by show (_, _, _) = sq_begin ar fd A B w f z v; unfold sq_begin; rw [iz_t c_1]) dX7_begin_20
  · refine lv_iload_n hx hb dX7_begin_5 rfl (lv_at hl 1 rfl) ?_
    refine lv_bipush (v := nI 9) hx hb dX7_begin_6 (by decide) ?_
    refine lv_icmp_gt (tgt := 18) hx hb dX7_begin_8 (by decide) (fun c_2 => ?_) (fun c_2 => ?_)
    · refine lv_bipush (v := (-2)) hx hb dX7_begin_18 (by decide) ?_
      exact zeI E hs (by show (_, _, _) = sq_begin ar fd A B w f z v; unfold sq_begin; rw [iz_f c_1, iz_t c_2]) dX7_begin_20
    · obtain ⟨hv2, hv9, heq_v⟩ := two_of c_1 c_2
      rw [heq_v] at hl
      have hmd : 36 % v.toNatClampNeg ≤ 36 := Nat.mod_le _ _
      refine lv_bipush (v := nI 36) hx hb dX7_begin_11 (by decide) ?_
      refine lv_iload_n hx hb dX7_begin_13 rfl (lv_at hl 1 rfl) ?_
      refine lv_irem hx hb dX7_begin_14 (nI_ne0 (by omega) (by omega)) ?_
      refine tp (b := nI (36 % v.toNatClampNeg)) (nI_rem (by omega) (by omega)) ?_
      refine lv_if_eq (tgt := 21) hx hb dX7_begin_15 (by decide) (fun c_3 => ?_) (fun c_3 => ?_)
      · have c_3 : 36 % v.toNatClampNeg = 0 := (nI_eq (a := 36 % v.toNatClampNeg) (b := 0) (by omega) (by omega)).mp c_3
        refine lv_aload_n hx hb dX7_begin_21 rfl (lv_at hl 0 rfl) ?_
        refine zVV E hs lkX7_48 [] (c_X7_record l x ar fd z hz hz4) (by decide) (sh6 rfl) rfl ⟨Nat.le_of_ble_eq_true rfl, Nat.le_of_ble_eq_true rfl⟩ rfl hl.1 (Nat.le_of_ble_eq_true rfl) rfl dX7_begin_22 (fun arr_4 fdr_4 H locs hp_5 hs => ?_)
        rw [hp_5.1, hp_5.2] at hs
        refine lv_aload_n hx hb dX7_begin_25 rfl (lv_at hl 0 rfl) ?_
        refine zg6 E hs (k := 102) rfl 0 (by decide) rfl q_514 dX7_begin_26 ?_
        refine lv_bipush (v := nI 72) hx hb dX7_begin_29 (by decide) ?_
        refine lv_iload_n hx hb dX7_begin_31 rfl (lv_at hl 1 rfl) ?_
        refine zast E hs 103 (n := 196) (j := 72) rfl rfl (by omega) (by decide) dX7_begin_32 (fun H locs hs => ?_)
        rw [zx0 (rcA_n (by decide))] at hs
        refine lv_aload_n hx hb dX7_begin_33 rfl (lv_at hl 0 rfl) ?_
        refine zVV E hs lkX7_33 [] (c_X7_clear l x (zu (rcA ar z) 103 (zu (ar 103) 72 (nI v.toNatClampNeg))) (rcF fd z)) (by decide) (sh6 rfl) rfl ⟨Nat.le_of_ble_eq_true rfl, Nat.le_of_ble_eq_true rfl⟩ rfl hl.1 (Nat.le_of_ble_eq_true rfl) rfl dX7_begin_34 (fun arr_6 fdr_6 H locs hp_7 hs => ?_)
        rw [hp_7.1, hp_7.2, zu_s, zu_zu] at hs
        refine lv_aload_n hx hb dX7_begin_37 rfl (lv_at hl 0 rfl) ?_
        refine zVP E hs lkX7_55 [] (c_X7_sizeW l x (zu (rcA ar z) 103 (clrF (zu (ar 103) 72 (nI v.toNatClampNeg)))) (rcF fd z) v.toNatClampNeg (by rw [zu_s, clrF_lo (by decide), zu_s]) hv9 hv2) (by decide) (sh6 rfl) rfl ⟨Nat.le_of_ble_eq_true rfl, Nat.le_of_ble_eq_true rfl⟩ rfl hl.1 (Nat.le_of_ble_eq_true rfl) rfl dX7_begin_38 (fun r_8 H locs hp_9 hs => ?_)
        subst hp_9
        exact zeI E hs (by show (_, _, _) = sq_begin ar fd A B w f z v; unfold sq_begin; rw [iz_f c_1, iz_f c_2, iz_t c_3]) dX7_begin_41
      · have c_3 : ¬ (36 % v.toNatClampNeg = 0) := fun h => c_3 ((nI_eq (a := 36 % v.toNatClampNeg) (b := 0) (by omega) (by omega)).mpr h)
        refine lv_bipush (v := (-2)) hx hb dX7_begin_18 (by decide) ?_
        exact zeI E hs (by show (_, _, _) = sq_begin ar fd A B w f z v; unfold sq_begin; rw [iz_f c_1, iz_f c_2, iz_f c_3]) dX7_begin_20

noncomputable def sq_setTarget (ar fd A B : AR) (w f z : Nat) (a v : Int32) : Int32 × AR × AR := iz (¬ a < nI 0 ∧ ¬ nI 1 < a) (iz (¬ v < nI 0 ∧ ¬ nI 9 < v) (iz (A 15 a.toNatClampNeg = v) (((-5), ar, fd)) ((A 15 a.toNatClampNeg, zu (rcA ar z) 103 (zu (ar 103) (73 + a.toNatClampNeg) v), rcF fd z))) (((-2), ar, fd))) (((-1), ar, fd))
set_option maxHeartbeats 4000000 in
set_option maxRecDepth 100000 in
/-- setTarget -/
theorem c_X7_setTarget (l : Launch) (x : CT) (ar fd A B : AR) (w f : Nat) (hM : ME (ar 103) A (B 1) w f) (z : Nat) (hz : fd 102 3 = nI z) (hz4 : z ≤ 4) (a v : Int32) : CI l yX7_setTarget cX7_setTarget 4 (some .int) 1 22 x [.ref (xa x 102), .int a, .int v] ar fd (fun r ar' fd' => (r, ar', fd') = sq_setTarget ar fd A B w f z a v) := by
  refine zsI (own := RX7) rfl (by decide +kernel) (Nat.le_of_ble_eq_true rfl) ?_
  intro p e s m below meth c ls E hs hl
  have hx := E.1
  have hb := E.2.1
  have hl : lv_has ls 4 [(0, .ref (xa x 102)), (1, .int a), (2, .int v)] := hl
  obtain ⟨hE1, hE2, hE3, hE4, hE5, hE6, hE7, hEw, hEf, hEc, hEs, hfw, hw9, hw2, hP, hD⟩ := id hM
  refine lv_iload_n hx hb dX7_setTarget_0 rfl (lv_at hl 1 rfl) ?_
  refine lv_iconst (v := nI 0) hx hb dX7_setTarget_1 (by decide) ?_
  refine lv_iconst (v := nI 1) hx hb dX7_setTarget_2 (by decide) ?_
  refine zSP E hs lkX7_36 [] (c_X7_in l x ar fd a (nI 0) (nI 1)) ⟨Nat.le_of_ble_eq_true rfl, Nat.le_of_ble_eq_true rfl⟩ rfl hl.1 (Nat.le_of_ble_eq_true rfl) rfl dX7_setTarget_3 (fun r_1 H locs hp_2 hs => ?_)
  subst hp_2
  refine lv_if_ne (tgt := 11) hx hb dX7_setTarget_6 (by decide) (fun c_3 => ?_) (fun c_3 => ?_)
  · have c_3 : ¬ a < nI 0 ∧ ¬ nI 1 < a := bz_1 c_3
    obtain ⟨hlt_a, heq_a⟩ := cell_of c_3 (by decide)
    rw [heq_a] at hl
    refine lv_iload_n hx hb dX7_setTarget_11 rfl (lv_at hl 2 rfl) ?_
    refine lv_iconst (v := nI 0) hx hb dX7_setTarget_12 (by decide) ?_
    refine lv_bipush (v := nI 9) hx hb dX7_setTarget_13 (by decide) ?_
    refine zSP E hs lkX7_36 [] (c_X7_in l x ar fd v (nI 0) (nI 9)) ⟨Nat.le_of_ble_eq_true rfl, Nat.le_of_ble_eq_true rfl⟩ rfl hl.1 (Nat.le_of_ble_eq_true rfl) rfl dX7_setTarget_15 (fun r_4 H locs hp_5 hs => ?_)
    subst hp_5
    refine lv_if_ne (tgt := 24) hx hb dX7_setTarget_18 (by decide) (fun c_6 => ?_) (fun c_6 => ?_)
    · have c_6 : ¬ v < nI 0 ∧ ¬ nI 9 < v := bz_1 c_6
      refine lv_aload_n hx hb dX7_setTarget_24 rfl (lv_at hl 0 rfl) ?_
      refine zg6 E hs (k := 102) rfl 0 (by decide) rfl q_514 dX7_setTarget_25 ?_
      refine lv_bipush (v := nI 73) hx hb dX7_setTarget_28 (by decide) ?_
      refine lv_iload_n hx hb dX7_setTarget_30 rfl (lv_at hl 1 rfl) ?_
      refine lv_iadd hx hb dX7_setTarget_31 ?_
      refine tp (b := nI (73 + a.toNatClampNeg)) (nI_add _ _) ?_
      refine zald E hs 103 (n := 196) (j := (73 + a.toNatClampNeg)) rfl rfl (by omega) (by decide) dX7_setTarget_32 ?_
      refine tp (b := A 15 a.toNatClampNeg) (me_t hM (by omega)) ?_
      refine lv_istore_n (lv' := [(3, .int (A 15 a.toNatClampNeg)), (0, .ref (xa x 102)), (1, .int (nI a.toNatClampNeg)), (2, .int v)]) hx hb dX7_setTarget_33 rfl hl (by decide) rfl (fun ls hl => ?_)
      refine lv_iload_n hx hb dX7_setTarget_34 rfl (lv_at hl 0 rfl) ?_
      refine lv_iload_n hx hb dX7_setTarget_35 rfl (lv_at hl 3 rfl) ?_
      refine lv_icmp_ne (tgt := 42) hx hb dX7_setTarget_36 (by decide) (fun c_7 => ?_) (fun c_7 => ?_)
      · refine lv_aload_n hx hb dX7_setTarget_42 rfl (lv_at hl 1 rfl) ?_
        refine zVV E hs lkX7_48 [] (c_X7_record l x ar fd z hz hz4) (by decide) (sh6 rfl) rfl ⟨Nat.le_of_ble_eq_true rfl, Nat.le_of_ble_eq_true rfl⟩ rfl hl.1 (Nat.le_of_ble_eq_true rfl) rfl dX7_setTarget_43 (fun arr_8 fdr_8 H locs hp_9 hs => ?_)
        rw [hp_9.1, hp_9.2] at hs
        refine lv_aload_n hx hb dX7_setTarget_46 rfl (lv_at hl 1 rfl) ?_
        refine zg6 E hs (k := 102) rfl 0 (by decide) rfl q_514 dX7_setTarget_47 ?_
        refine lv_bipush (v := nI 73) hx hb dX7_setTarget_50 (by decide) ?_
        refine lv_iload_n hx hb dX7_setTarget_52 rfl (lv_at hl 2 rfl) ?_
        refine lv_iadd hx hb dX7_setTarget_53 ?_
        refine tp (b := nI (73 + a.toNatClampNeg)) (nI_add _ _) ?_
        refine lv_iload_n hx hb dX7_setTarget_54 rfl (lv_at hl 3 rfl) ?_
        refine zast E hs 103 (n := 196) (j := (73 + a.toNatClampNeg)) rfl rfl (by omega) (by decide) dX7_setTarget_55 (fun H locs hs => ?_)
        rw [zx0 (rcA_n (by decide))] at hs
        refine lv_iload_n hx hb dX7_setTarget_56 rfl (lv_at hl 0 rfl) ?_
        exact zeI E hs (by show (_, _, _) = sq_setTarget ar fd A B w f z a v; unfold sq_setTarget; rw [iz_t c_3, iz_t c_6, iz_f c_7]) dX7_setTarget_57
      · refine lv_bipush (v := (-5)) hx hb dX7_setTarget_39 (by decide) ?_
        exact zeI E hs (by show (_, _, _) = sq_setTarget ar fd A B w f z a v; unfold sq_setTarget; rw [iz_t c_3, iz_t c_6, iz_t c_7]) dX7_setTarget_41
    · have c_6 : ¬ (¬ v < nI 0 ∧ ¬ nI 9 < v) := bz_0 c_6
      refine lv_bipush (v := (-2)) hx hb dX7_setTarget_21 (by decide) ?_
      exact zeI E hs (by show (_, _, _) = sq_setTarget ar fd A B w f z a v; unfold sq_setTarget; rw [iz_t c_3, iz_f c_6]) dX7_setTarget_23
  · have c_3 : ¬ (¬ a < nI 0 ∧ ¬ nI 1 < a) := bz_0 c_3
    refine lv_iconst (v := (-1)) hx hb dX7_setTarget_9 (by decide) ?_
    exact zeI E hs (by show (_, _, _) = sq_setTarget ar fd A B w f z a v; unfold sq_setTarget; rw [iz_f c_3]) dX7_setTarget_10

noncomputable def sq_draft (ar fd A B : AR) (w f z : Nat) (a v : Int32) : Int32 × AR × AR := iz (¬ a < nI 0 ∧ ¬ nI 35 < a) (iz (A 9 a.toNatClampNeg = -1) (iz (B 1 10 = 0) (iz (¬ v < (-1) ∧ ¬ (nI (w - f)) - (nI 1) < v) (iz (A 7 a.toNatClampNeg = v) (((-5), ar, fd)) ((A 7 a.toNatClampNeg, zu (rcA ar z) 103 (zu (ar 103) (79 + a.toNatClampNeg) v), rcF fd z))) (((-2), ar, fd))) (((-4), ar, fd))) (((-4), ar, fd))) (((-1), ar, fd))
set_option maxHeartbeats 4000000 in
set_option maxRecDepth 100000 in
/-- draft -/
theorem c_X7_draft (l : Launch) (x : CT) (ar fd A B : AR) (w f : Nat) (hM : ME (ar 103) A (B 1) w f) (z : Nat) (hz : fd 102 3 = nI z) (hz4 : z ≤ 4) (a v : Int32) : CI l yX7_draft cX7_draft 4 (some .int) 2 42 x [.ref (xa x 102), .int a, .int v] ar fd (fun r ar' fd' => (r, ar', fd') = sq_draft ar fd A B w f z a v) := by
  refine zsI (own := RX7) rfl (by decide +kernel) (Nat.le_of_ble_eq_true rfl) ?_
  intro p e s m below meth c ls E hs hl
  have hx := E.1
  have hb := E.2.1
  have hl : lv_has ls 4 [(0, .ref (xa x 102)), (1, .int a), (2, .int v)] := hl
  obtain ⟨hE1, hE2, hE3, hE4, hE5, hE6, hE7, hEw, hEf, hEc, hEs, hfw, hw9, hw2, hP, hD⟩ := id hM
  refine lv_iload_n hx hb dX7_draft_0 rfl (lv_at hl 1 rfl) ?_
  refine zSP E hs lkX7_51 [] (c_X7_noCell l x ar fd a) ⟨Nat.le_of_ble_eq_true rfl, Nat.le_of_ble_eq_true rfl⟩ rfl hl.1 (Nat.le_of_ble_eq_true rfl) rfl dX7_draft_1 (fun r_1 H locs hp_2 hs => ?_)
  subst hp_2
  refine lv_if_eq (tgt := 9) hx hb dX7_draft_4 (by decide) (fun c_3 => ?_) (fun c_3 => ?_)
  · have c_3 : ¬ (¬ (¬ a < nI 0 ∧ ¬ nI 35 < a)) := bz_0 c_3
    obtain ⟨hlt_a, heq_a⟩ := cell_of (Classical.not_not.mp c_3) (by decide)
    rw [heq_a] at hl
    refine lv_aload_n hx hb dX7_draft_9 rfl (lv_at hl 0 rfl) ?_
    refine lv_iload_n hx hb dX7_draft_10 rfl (lv_at hl 1 rfl) ?_
    refine zVP E hs lkX7_74 [] (c_X7_isOpen l x ar fd A B w f hM a.toNatClampNeg (by omega)) (by decide) (sh6 rfl) rfl ⟨Nat.le_of_ble_eq_true rfl, Nat.le_of_ble_eq_true rfl⟩ rfl hl.1 (Nat.le_of_ble_eq_true rfl) rfl dX7_draft_11 (fun r_4 H locs hp_5 hs => ?_)
    subst hp_5
    refine lv_if_eq (tgt := 24) hx hb dX7_draft_14 (by decide) (fun c_6 => ?_) (fun c_6 => ?_)
    · have c_6 : ¬ (A 9 a.toNatClampNeg = -1) := bz_0 c_6
      refine lv_bipush (v := (-4)) hx hb dX7_draft_24 (by decide) ?_
      exact zeI E hs (by show (_, _, _) = sq_draft ar fd A B w f z a v; unfold sq_draft; rw [iz_t (Classical.not_not.mp c_3), iz_f c_6]) dX7_draft_26
    · have c_6 : A 9 a.toNatClampNeg = -1 := bz_1 c_6
      refine lv_aload_n hx hb dX7_draft_17 rfl (lv_at hl 0 rfl) ?_
      refine zVP E hs lkX7_87 [] (c_X7_noDraft l x ar fd A B w f hM) (by decide) (sh6 rfl) rfl ⟨Nat.le_of_ble_eq_true rfl, Nat.le_of_ble_eq_true rfl⟩ rfl hl.1 (Nat.le_of_ble_eq_true rfl) rfl dX7_draft_18 (fun r_7 H locs hp_8 hs => ?_)
      subst hp_8
      refine lv_if_eq (tgt := 27) hx hb dX7_draft_21 (by decide) (fun c_9 => ?_) (fun c_9 => ?_)
      · have c_9 : ¬ (¬ (B 1 10 = 0)) := bz_0 c_9
        refine lv_iload_n hx hb dX7_draft_27 rfl (lv_at hl 2 rfl) ?_
        refine lv_iconst (v := (-1)) hx hb dX7_draft_28 (by decide) ?_
        refine lv_aload_n hx hb dX7_draft_29 rfl (lv_at hl 0 rfl) ?_
        refine zVP E hs lkX7_77 [.int (-1), .int v] (c_X7_left l x ar fd A B w f hM) (by decide) (sh6 rfl) rfl ⟨Nat.le_of_ble_eq_true rfl, Nat.le_of_ble_eq_true rfl⟩ rfl hl.1 (Nat.le_of_ble_eq_true rfl) rfl dX7_draft_30 (fun r_10 H locs hp_11 hs => ?_)
        subst hp_11
        refine lv_iconst (v := nI 1) hx hb dX7_draft_33 (by decide) ?_
        refine lv_isub hx hb dX7_draft_34 ?_
        refine zSP E hs lkX7_36 [] (c_X7_in l x ar fd v (-1) ((nI (w - f)) - (nI 1))) ⟨Nat.le_of_ble_eq_true rfl, Nat.le_of_ble_eq_true rfl⟩ rfl hl.1 (Nat.le_of_ble_eq_true rfl) rfl dX7_draft_35 (fun r_12 H locs hp_13 hs => ?_)
        subst hp_13
        refine lv_if_ne (tgt := 44) hx hb dX7_draft_38 (by decide) (fun c_14 => ?_) (fun c_14 => ?_)
        · have c_14 : ¬ v < (-1) ∧ ¬ (nI (w - f)) - (nI 1) < v := bz_1 c_14
          refine lv_aload_n hx hb dX7_draft_44 rfl (lv_at hl 0 rfl) ?_
          refine zg6 E hs (k := 102) rfl 0 (by decide) rfl q_514 dX7_draft_45 ?_
          refine lv_bipush (v := nI 79) hx hb dX7_draft_48 (by decide) ?_
          refine lv_iload_n hx hb dX7_draft_50 rfl (lv_at hl 1 rfl) ?_
          refine lv_iadd hx hb dX7_draft_51 ?_
          refine tp (b := nI (79 + a.toNatClampNeg)) (nI_add _ _) ?_
          refine zald E hs 103 (n := 196) (j := (79 + a.toNatClampNeg)) rfl rfl (by omega) (by decide) dX7_draft_52 ?_
          refine tp (b := A 7 a.toNatClampNeg) (hE3 _ (by omega)) ?_
          refine lv_istore_n (lv' := [(3, .int (A 7 a.toNatClampNeg)), (0, .ref (xa x 102)), (1, .int (nI a.toNatClampNeg)), (2, .int v)]) hx hb dX7_draft_53 rfl hl (by decide) rfl (fun ls hl => ?_)
          refine lv_iload_n hx hb dX7_draft_54 rfl (lv_at hl 0 rfl) ?_
          refine lv_iload_n hx hb dX7_draft_55 rfl (lv_at hl 3 rfl) ?_
          refine lv_icmp_ne (tgt := 62) hx hb dX7_draft_56 (by decide) (fun c_15 => ?_) (fun c_15 => ?_)
          · refine lv_aload_n hx hb dX7_draft_62 rfl (lv_at hl 1 rfl) ?_
            refine zVV E hs lkX7_48 [] (c_X7_record l x ar fd z hz hz4) (by decide) (sh6 rfl) rfl ⟨Nat.le_of_ble_eq_true rfl, Nat.le_of_ble_eq_true rfl⟩ rfl hl.1 (Nat.le_of_ble_eq_true rfl) rfl dX7_draft_63 (fun arr_16 fdr_16 H locs hp_17 hs => ?_)
            rw [hp_17.1, hp_17.2] at hs
            refine lv_aload_n hx hb dX7_draft_66 rfl (lv_at hl 1 rfl) ?_
            refine zg6 E hs (k := 102) rfl 0 (by decide) rfl q_514 dX7_draft_67 ?_
            refine lv_bipush (v := nI 79) hx hb dX7_draft_70 (by decide) ?_
            refine lv_iload_n hx hb dX7_draft_72 rfl (lv_at hl 2 rfl) ?_
            refine lv_iadd hx hb dX7_draft_73 ?_
            refine tp (b := nI (79 + a.toNatClampNeg)) (nI_add _ _) ?_
            refine lv_iload_n hx hb dX7_draft_74 rfl (lv_at hl 3 rfl) ?_
            refine zast E hs 103 (n := 196) (j := (79 + a.toNatClampNeg)) rfl rfl (by omega) (by decide) dX7_draft_75 (fun H locs hs => ?_)
            rw [zx0 (rcA_n (by decide))] at hs
            refine lv_iload_n hx hb dX7_draft_76 rfl (lv_at hl 0 rfl) ?_
            exact zeI E hs (by show (_, _, _) = sq_draft ar fd A B w f z a v; unfold sq_draft; rw [iz_t (Classical.not_not.mp c_3), iz_t c_6, iz_t (Classical.not_not.mp c_9), iz_t c_14, iz_f c_15]) dX7_draft_77
          · refine lv_bipush (v := (-5)) hx hb dX7_draft_59 (by decide) ?_
            exact zeI E hs (by show (_, _, _) = sq_draft ar fd A B w f z a v; unfold sq_draft; rw [iz_t (Classical.not_not.mp c_3), iz_t c_6, iz_t (Classical.not_not.mp c_9), iz_t c_14, iz_t c_15]) dX7_draft_61
        · have c_14 : ¬ (¬ v < (-1) ∧ ¬ (nI (w - f)) - (nI 1) < v) := bz_0 c_14
          refine lv_bipush (v := (-2)) hx hb dX7_draft_41 (by decide) ?_
          exact zeI E hs (by show (_, _, _) = sq_draft ar fd A B w f z a v; unfold sq_draft; rw [iz_t (Classical.not_not.mp c_3), iz_t c_6, iz_t (Classical.not_not.mp c_9), iz_f c_14]) dX7_draft_43
      · have c_9 : ¬ (B 1 10 = 0) := bz_1 c_9
        refine lv_bipush (v := (-4)) hx hb dX7_draft_24 (by decide) ?_
        exact zeI E hs (by show (_, _, _) = sq_draft ar fd A B w f z a v; unfold sq_draft; rw [iz_t (Classical.not_not.mp c_3), iz_t c_6, iz_f c_9]) dX7_draft_26
  · have c_3 : ¬ (¬ a < nI 0 ∧ ¬ nI 35 < a) := bz_1 c_3
    refine lv_iconst (v := (-1)) hx hb dX7_draft_7 (by decide) ?_
    exact zeI E hs (by show (_, _, _) = sq_draft ar fd A B w f z a v; unfold sq_draft; rw [iz_f c_3]) dX7_draft_8

noncomputable def sq_trade (ar fd A B : AR) (w f z : Nat) (a b : Int32) : Int32 × AR × AR := iz (¬ a < nI 0 ∧ ¬ nI 35 < a) (iz (¬ b < nI 0 ∧ ¬ nI 35 < b) (iz (B 1 10 = 0) (iz (A 9 a.toNatClampNeg = -1) (iz (A 9 b.toNatClampNeg = -1) (iz (A 7 a.toNatClampNeg < 0) (((-4), ar, fd)) (iz (0 ≤ A 7 b.toNatClampNeg) (iz (A 7 a.toNatClampNeg = A 7 b.toNatClampNeg) (((-5), ar, fd)) (iz (rmN (zu (zu A 7 (zu (A 7) a.toNatClampNeg (A 7 b.toNatClampNeg))) 7 (zu ((zu A 7 (zu (A 7) a.toNatClampNeg (A 7 b.toNatClampNeg))) 7) b.toNatClampNeg (A 7 a.toNatClampNeg))) w f = 0) ((nI 1, zu (rcA ar z) 103 (zu (zu (ar 103) (79 + a.toNatClampNeg) (A 7 b.toNatClampNeg)) (79 + b.toNatClampNeg) (A 7 a.toNatClampNeg)), rcF fd z)) ((nI 0, zu (rcA ar z) 103 (zu (zu (ar 103) (79 + a.toNatClampNeg) (A 7 b.toNatClampNeg)) (79 + b.toNatClampNeg) (A 7 a.toNatClampNeg)), rcF fd z)))) (((-4), ar, fd)))) (((-4), ar, fd))) (((-4), ar, fd))) (((-4), ar, fd))) (((-1), ar, fd))) (((-1), ar, fd))
set_option maxHeartbeats 4000000 in
set_option maxRecDepth 100000 in
/-- trade -/
theorem c_X7_trade (l : Launch) (x : CT) (ar fd A B : AR) (w f : Nat) (hM : ME (ar 103) A (B 1) w f) (z : Nat) (hz : fd 102 3 = nI z) (hz4 : z ≤ 4) (a b : Int32) : CI l yX7_trade cX7_trade 5 (some .int) 5 114 x [.ref (xa x 102), .int a, .int b] ar fd (fun r ar' fd' => r = (sq_trade ar fd A B w f z a b).1 ∧ JM (sq_trade ar fd A B w f z a b).2.1 ar' ∧ fd' = (sq_trade ar fd A B w f z a b).2.2) := by
  refine zsI (own := RX7) rfl (by decide +kernel) (Nat.le_of_ble_eq_true rfl) ?_
  intro p e s m below meth c ls E hs hl
  have hx := E.1
  have hb := E.2.1
  have hl : lv_has ls 5 [(0, .ref (xa x 102)), (1, .int a), (2, .int b)] := hl
  obtain ⟨hE1, hE2, hE3, hE4, hE5, hE6, hE7, hEw, hEf, hEc, hEs, hfw, hw9, hw2, hP, hD⟩ := id hM
  refine lv_iload_n hx hb dX7_trade_0 rfl (lv_at hl 1 rfl) ?_
  refine zSP E hs lkX7_51 [] (c_X7_noCell l x ar fd a) ⟨Nat.le_of_ble_eq_true rfl, Nat.le_of_ble_eq_true rfl⟩ rfl hl.1 (Nat.le_of_ble_eq_true rfl) rfl dX7_trade_1 (fun r_1 H locs hp_2 hs => ?_)
  subst hp_2
  refine lv_if_ne (tgt := 14) hx hb dX7_trade_4 (by decide) (fun c_3 => ?_) (fun c_3 => ?_)
  · have c_3 : ¬ (¬ a < nI 0 ∧ ¬ nI 35 < a) := bz_1 c_3
    refine lv_iconst (v := (-1)) hx hb dX7_trade_14 (by decide) ?_
    exact zeI E hs ⟨(by unfold sq_trade; rw [iz_f c_3]), (by unfold sq_trade; rw [iz_f c_3]; exact JM.rf _), (by unfold sq_trade; rw [iz_f c_3])⟩ dX7_trade_15
  · have c_3 : ¬ (¬ (¬ a < nI 0 ∧ ¬ nI 35 < a)) := bz_0 c_3
    refine lv_iload_n hx hb dX7_trade_7 rfl (lv_at hl 2 rfl) ?_
    refine zSP E hs lkX7_51 [] (c_X7_noCell l x ar fd b) ⟨Nat.le_of_ble_eq_true rfl, Nat.le_of_ble_eq_true rfl⟩ rfl hl.1 (Nat.le_of_ble_eq_true rfl) rfl dX7_trade_8 (fun r_4 H locs hp_5 hs => ?_)
    subst hp_5
    refine lv_if_eq (tgt := 16) hx hb dX7_trade_11 (by decide) (fun c_6 => ?_) (fun c_6 => ?_)
    · have c_6 : ¬ (¬ (¬ b < nI 0 ∧ ¬ nI 35 < b)) := bz_0 c_6
      obtain ⟨hlt_a, heq_a⟩ := cell_of (Classical.not_not.mp c_3) (by decide)
      rw [heq_a] at hl
      obtain ⟨hlt_b, heq_b⟩ := cell_of (Classical.not_not.mp c_6) (by decide)
      rw [heq_b] at hl
      refine lv_aload_n hx hb dX7_trade_16 rfl (lv_at hl 0 rfl) ?_
      refine zg6 E hs (k := 102) rfl 0 (by decide) rfl q_514 dX7_trade_17 ?_
      refine lv_bipush (v := nI 79) hx hb dX7_trade_20 (by decide) ?_
      refine lv_iload_n hx hb dX7_trade_22 rfl (lv_at hl 1 rfl) ?_
      refine lv_iadd hx hb dX7_trade_23 ?_
      refine tp (b := nI (79 + a.toNatClampNeg)) (nI_add _ _) ?_
      refine zald E hs 103 (n := 196) (j := (79 + a.toNatClampNeg)) rfl rfl (by omega) (by decide) dX7_trade_24 ?_
      refine tp (b := A 7 a.toNatClampNeg) (hE3 _ (by omega)) ?_
      refine lv_istore_n (lv' := [(3, .int (A 7 a.toNatClampNeg)), (0, .ref (xa x 102)), (1, .int (nI a.toNatClampNeg)), (2, .int (nI b.toNatClampNeg))]) hx hb dX7_trade_25 rfl hl (by decide) rfl (fun ls hl => ?_)
      refine lv_aload_n hx hb dX7_trade_26 rfl (lv_at hl 1 rfl) ?_
      refine zg6 E hs (k := 102) rfl 0 (by decide) rfl q_514 dX7_trade_27 ?_
      refine lv_bipush (v := nI 79) hx hb dX7_trade_30 (by decide) ?_
      refine lv_iload_n hx hb dX7_trade_32 rfl (lv_at hl 3 rfl) ?_
      refine lv_iadd hx hb dX7_trade_33 ?_
      refine tp (b := nI (79 + b.toNatClampNeg)) (nI_add _ _) ?_
      refine zald E hs 103 (n := 196) (j := (79 + b.toNatClampNeg)) rfl rfl (by omega) (by decide) dX7_trade_34 ?_
      refine tp (b := A 7 b.toNatClampNeg) (hE3 _ (by omega)) ?_
      refine lv_istore (lv' := [(4, .int (A 7 b.toNatClampNeg)), (3, .int (A 7 a.toNatClampNeg)), (0, .ref (xa x 102)), (1, .int (nI a.toNatClampNeg)), (2, .int (nI b.toNatClampNeg))]) hx hb dX7_trade_35 hl (by decide) rfl (fun ls hl => ?_)
      refine lv_aload_n hx hb dX7_trade_37 rfl (lv_at hl 2 rfl) ?_
      refine zVP E hs lkX7_87 [] (c_X7_noDraft l x ar fd A B w f hM) (by decide) (sh6 rfl) rfl ⟨Nat.le_of_ble_eq_true rfl, Nat.le_of_ble_eq_true rfl⟩ rfl hl.1 (Nat.le_of_ble_eq_true rfl) rfl dX7_trade_38 (fun r_7 H locs hp_8 hs => ?_)
      subst hp_8
      refine lv_if_ne (tgt := 69) hx hb dX7_trade_41 (by decide) (fun c_9 => ?_) (fun c_9 => ?_)
      · have c_9 : ¬ (B 1 10 = 0) := bz_1 c_9
        refine lv_bipush (v := (-4)) hx hb dX7_trade_69 (by decide) ?_
        exact zeI E hs ⟨(by unfold sq_trade; rw [iz_t (Classical.not_not.mp c_3), iz_t (Classical.not_not.mp c_6), iz_f c_9]), (by unfold sq_trade; rw [iz_t (Classical.not_not.mp c_3), iz_t (Classical.not_not.mp c_6), iz_f c_9]; exact JM.rf _), (by unfold sq_trade; rw [iz_t (Classical.not_not.mp c_3), iz_t (Classical.not_not.mp c_6), iz_f c_9])⟩ dX7_trade_71
      · have c_9 : ¬ (¬ (B 1 10 = 0)) := bz_0 c_9
        refine lv_aload_n hx hb dX7_trade_44 rfl (lv_at hl 2 rfl) ?_
        refine lv_iload_n hx hb dX7_trade_45 rfl (lv_at hl 3 rfl) ?_
        refine zVP E hs lkX7_74 [] (c_X7_isOpen l x ar fd A B w f hM a.toNatClampNeg (by omega)) (by decide) (sh6 rfl) rfl ⟨Nat.le_of_ble_eq_true rfl, Nat.le_of_ble_eq_true rfl⟩ rfl hl.1 (Nat.le_of_ble_eq_true rfl) rfl dX7_trade_46 (fun r_10 H locs hp_11 hs => ?_)
        subst hp_11
        refine lv_if_eq (tgt := 69) hx hb dX7_trade_49 (by decide) (fun c_12 => ?_) (fun c_12 => ?_)
        · have c_12 : ¬ (A 9 a.toNatClampNeg = -1) := bz_0 c_12
          refine lv_bipush (v := (-4)) hx hb dX7_trade_69 (by decide) ?_
          exact zeI E hs ⟨(by unfold sq_trade; rw [iz_t (Classical.not_not.mp c_3), iz_t (Classical.not_not.mp c_6), iz_t (Classical.not_not.mp c_9), iz_f c_12]), (by unfold sq_trade; rw [iz_t (Classical.not_not.mp c_3), iz_t (Classical.not_not.mp c_6), iz_t (Classical.not_not.mp c_9), iz_f c_12]; exact JM.rf _), (by unfold sq_trade; rw [iz_t (Classical.not_not.mp c_3), iz_t (Classical.not_not.mp c_6), iz_t (Classical.not_not.mp c_9), iz_f c_12])⟩ dX7_trade_71
        · have c_12 : A 9 a.toNatClampNeg = -1 := bz_1 c_12
          refine lv_aload_n hx hb dX7_trade_52 rfl (lv_at hl 2 rfl) ?_
          refine lv_iload_n hx hb dX7_trade_53 rfl (lv_at hl 4 rfl) ?_
          refine zVP E hs lkX7_74 [] (c_X7_isOpen l x ar fd A B w f hM b.toNatClampNeg (by omega)) (by decide) (sh6 rfl) rfl ⟨Nat.le_of_ble_eq_true rfl, Nat.le_of_ble_eq_true rfl⟩ rfl hl.1 (Nat.le_of_ble_eq_true rfl) rfl dX7_trade_54 (fun r_13 H locs hp_14 hs => ?_)
          subst hp_14
          refine lv_if_eq (tgt := 69) hx hb dX7_trade_57 (by decide) (fun c_15 => ?_) (fun c_15 => ?_)
          · have c_15 : ¬ (A 9 b.toNatClampNeg = -1) := bz_0 c_15
            refine lv_bipush (v := (-4)) hx hb dX7_trade_69 (by decide) ?_
            exact zeI E hs ⟨(by unfold sq_trade; rw [iz_t (Classical.not_not.mp c_3), iz_t (Classical.not_not.mp c_6), iz_t (Classical.not_not.mp c_9), iz_t c_12, iz_f c_15]), (by unfold sq_trade; rw [iz_t (Classical.not_not.mp c_3), iz_t (Classical.not_not.mp c_6), iz_t (Classical.not_not.mp c_9), iz_t c_12, iz_f c_15]; exact JM.rf _), (by unfold sq_trade; rw [iz_t (Classical.not_not.mp c_3), iz_t (Classical.not_not.mp c_6), iz_t (Classical.not_not.mp c_9), iz_t c_12, iz_f c_15])⟩ dX7_trade_71
          · have c_15 : A 9 b.toNatClampNeg = -1 := bz_1 c_15
            refine lv_iload_n hx hb dX7_trade_60 rfl (lv_at hl 1 rfl) ?_
            refine lv_if_lt (tgt := 69) hx hb dX7_trade_61 (by decide) (fun c_16 => ?_) (fun c_16 => ?_)
            · refine lv_bipush (v := (-4)) hx hb dX7_trade_69 (by decide) ?_
              exact zeI E hs ⟨(by unfold sq_trade; rw [iz_t (Classical.not_not.mp c_3), iz_t (Classical.not_not.mp c_6), iz_t (Classical.not_not.mp c_9), iz_t c_12, iz_t c_15, iz_t c_16]), (by unfold sq_trade; rw [iz_t (Classical.not_not.mp c_3), iz_t (Classical.not_not.mp c_6), iz_t (Classical.not_not.mp c_9), iz_t c_12, iz_t c_15, iz_t c_16]; exact JM.rf _), (by unfold sq_trade; rw [iz_t (Classical.not_not.mp c_3), iz_t (Classical.not_not.mp c_6), iz_t (Classical.not_not.mp c_9), iz_t c_12, iz_t c_15, iz_t c_16])⟩ dX7_trade_71
            · refine lv_iload hx hb dX7_trade_64 (lv_at hl 0 rfl) ?_
              refine lv_if_ge (tgt := 72) hx hb dX7_trade_66 (by decide) (fun c_17 => ?_) (fun c_17 => ?_)
              · refine lv_iload_n hx hb dX7_trade_72 rfl (lv_at hl 1 rfl) ?_
                refine lv_iload hx hb dX7_trade_73 (lv_at hl 0 rfl) ?_
                refine lv_icmp_ne (tgt := 81) hx hb dX7_trade_75 (by decide) (fun c_18 => ?_) (fun c_18 => ?_)
                · refine lv_aload_n hx hb dX7_trade_81 rfl (lv_at hl 2 rfl) ?_
                  refine zVV E hs lkX7_48 [] (c_X7_record l x ar fd z hz hz4) (by decide) (sh6 rfl) rfl ⟨Nat.le_of_ble_eq_true rfl, Nat.le_of_ble_eq_true rfl⟩ rfl hl.1 (Nat.le_of_ble_eq_true rfl) rfl dX7_trade_82 (fun arr_19 fdr_19 H locs hp_20 hs => ?_)
                  rw [hp_20.1, hp_20.2] at hs
                  refine lv_aload_n hx hb dX7_trade_85 rfl (lv_at hl 2 rfl) ?_
                  refine zg6 E hs (k := 102) rfl 0 (by decide) rfl q_514 dX7_trade_86 ?_
                  refine lv_bipush (v := nI 79) hx hb dX7_trade_89 (by decide) ?_
                  refine lv_iload_n hx hb dX7_trade_91 rfl (lv_at hl 3 rfl) ?_
                  refine lv_iadd hx hb dX7_trade_92 ?_
                  refine tp (b := nI (79 + a.toNatClampNeg)) (nI_add _ _) ?_
                  refine lv_iload hx hb dX7_trade_93 (lv_at hl 0 rfl) ?_
                  refine zast E hs 103 (n := 196) (j := (79 + a.toNatClampNeg)) rfl rfl (by omega) (by decide) dX7_trade_95 (fun H locs hs => ?_)
                  rw [zx0 (rcA_n (by decide))] at hs
                  refine lv_aload_n hx hb dX7_trade_96 rfl (lv_at hl 2 rfl) ?_
                  refine zg6 E hs (k := 102) rfl 0 (by decide) rfl q_514 dX7_trade_97 ?_
                  refine lv_bipush (v := nI 79) hx hb dX7_trade_100 (by decide) ?_
                  refine lv_iload_n hx hb dX7_trade_102 rfl (lv_at hl 4 rfl) ?_
                  refine lv_iadd hx hb dX7_trade_103 ?_
                  refine tp (b := nI (79 + b.toNatClampNeg)) (nI_add _ _) ?_
                  refine lv_iload_n hx hb dX7_trade_104 rfl (lv_at hl 1 rfl) ?_
                  refine zast E hs 103 (n := 196) (j := (79 + b.toNatClampNeg)) rfl rfl (by omega) (by decide) dX7_trade_105 (fun H locs hs => ?_)
                  rw [zx] at hs
                  refine lv_aload_n hx hb dX7_trade_106 rfl (lv_at hl 2 rfl) ?_
                  refine zVI E hs lkX7_91 [] (c_X7_reason l x (zu (rcA ar z) 103 (zu (zu (ar 103) (79 + a.toNatClampNeg) (A 7 b.toNatClampNeg)) (79 + b.toNatClampNeg) (A 7 a.toNatClampNeg))) (rcF fd z) (zu (zu A 7 (zu (A 7) a.toNatClampNeg (A 7 b.toNatClampNeg))) 7 (zu ((zu A 7 (zu (A 7) a.toNatClampNeg (A 7 b.toNatClampNeg))) 7) b.toNatClampNeg (A 7 a.toNatClampNeg))) B w f (by rw [zu_s]; exact me_p (me_p hM (by omega) (hP _ (by omega))) (by omega) (hP _ (by omega)))) (by decide) (sh6 rfl) rfl ⟨Nat.le_of_ble_eq_true rfl, Nat.le_of_ble_eq_true rfl⟩ rfl hl.1 (Nat.le_of_ble_eq_true rfl) rfl dX7_trade_107 (fun r_21 arr_21 fdr_21 H locs hp_22 hs => ?_)
                  rw [hp_22.2.2] at hs
                  have hJ_r_21 := hp_22.2.1
                  refine tp (b := nI (rmN (zu (zu A 7 (zu (A 7) a.toNatClampNeg (A 7 b.toNatClampNeg))) 7 (zu ((zu A 7 (zu (A 7) a.toNatClampNeg (A 7 b.toNatClampNeg))) 7) b.toNatClampNeg (A 7 a.toNatClampNeg))) w f)) hp_22.1 ?_
                  have hrm_r_21 := rm_all (w := w) (f := f) (zu (zu A 7 (zu (A 7) a.toNatClampNeg (A 7 b.toNatClampNeg))) 7 (zu ((zu A 7 (zu (A 7) a.toNatClampNeg (A 7 b.toNatClampNeg))) 7) b.toNatClampNeg (A 7 a.toNatClampNeg))) hw9
                  have hrl_r_21 := hrm_r_21.1
                  refine lv_if_ne (tgt := 117) hx hb dX7_trade_110 (by decide) (fun c_23 => ?_) (fun c_23 => ?_)
                  · have c_23 : ¬ (rmN (zu (zu A 7 (zu (A 7) a.toNatClampNeg (A 7 b.toNatClampNeg))) 7 (zu ((zu A 7 (zu (A 7) a.toNatClampNeg (A 7 b.toNatClampNeg))) 7) b.toNatClampNeg (A 7 a.toNatClampNeg))) w f = 0) := fun h => c_23 ((nI_eq (a := rmN (zu (zu A 7 (zu (A 7) a.toNatClampNeg (A 7 b.toNatClampNeg))) 7 (zu ((zu A 7 (zu (A 7) a.toNatClampNeg (A 7 b.toNatClampNeg))) 7) b.toNatClampNeg (A 7 a.toNatClampNeg))) w f) (b := 0) (by omega) (by omega)).mpr h)
                    refine lv_iconst (v := nI 0) hx hb dX7_trade_117 (by decide) ?_
                    exact zeI E hs ⟨(by unfold sq_trade; rw [iz_t (Classical.not_not.mp c_3), iz_t (Classical.not_not.mp c_6), iz_t (Classical.not_not.mp c_9), iz_t c_12, iz_t c_15, iz_f c_16, iz_t c_17, iz_f c_18, iz_f c_23]), (by unfold sq_trade; rw [iz_t (Classical.not_not.mp c_3), iz_t (Classical.not_not.mp c_6), iz_t (Classical.not_not.mp c_9), iz_t c_12, iz_t c_15, iz_f c_16, iz_t c_17, iz_f c_18, iz_f c_23]; exact hJ_r_21), (by unfold sq_trade; rw [iz_t (Classical.not_not.mp c_3), iz_t (Classical.not_not.mp c_6), iz_t (Classical.not_not.mp c_9), iz_t c_12, iz_t c_15, iz_f c_16, iz_t c_17, iz_f c_18, iz_f c_23])⟩ dX7_trade_118
                  · have c_23 : rmN (zu (zu A 7 (zu (A 7) a.toNatClampNeg (A 7 b.toNatClampNeg))) 7 (zu ((zu A 7 (zu (A 7) a.toNatClampNeg (A 7 b.toNatClampNeg))) 7) b.toNatClampNeg (A 7 a.toNatClampNeg))) w f = 0 := (nI_eq (a := rmN (zu (zu A 7 (zu (A 7) a.toNatClampNeg (A 7 b.toNatClampNeg))) 7 (zu ((zu A 7 (zu (A 7) a.toNatClampNeg (A 7 b.toNatClampNeg))) 7) b.toNatClampNeg (A 7 a.toNatClampNeg))) w f) (b := 0) (by omega) (by omega)).mp c_23
                    refine lv_iconst (v := nI 1) hx hb dX7_trade_113 (by decide) ?_
                    refine lv_goto (tgt := 118) hx hb dX7_trade_114 (by decide) ?_
                    exact zeI E hs ⟨(by unfold sq_trade; rw [iz_t (Classical.not_not.mp c_3), iz_t (Classical.not_not.mp c_6), iz_t (Classical.not_not.mp c_9), iz_t c_12, iz_t c_15, iz_f c_16, iz_t c_17, iz_f c_18, iz_t c_23]), (by unfold sq_trade; rw [iz_t (Classical.not_not.mp c_3), iz_t (Classical.not_not.mp c_6), iz_t (Classical.not_not.mp c_9), iz_t c_12, iz_t c_15, iz_f c_16, iz_t c_17, iz_f c_18, iz_t c_23]; exact hJ_r_21), (by unfold sq_trade; rw [iz_t (Classical.not_not.mp c_3), iz_t (Classical.not_not.mp c_6), iz_t (Classical.not_not.mp c_9), iz_t c_12, iz_t c_15, iz_f c_16, iz_t c_17, iz_f c_18, iz_t c_23])⟩ dX7_trade_118
                · refine lv_bipush (v := (-5)) hx hb dX7_trade_78 (by decide) ?_
                  exact zeI E hs ⟨(by unfold sq_trade; rw [iz_t (Classical.not_not.mp c_3), iz_t (Classical.not_not.mp c_6), iz_t (Classical.not_not.mp c_9), iz_t c_12, iz_t c_15, iz_f c_16, iz_t c_17, iz_t c_18]), (by unfold sq_trade; rw [iz_t (Classical.not_not.mp c_3), iz_t (Classical.not_not.mp c_6), iz_t (Classical.not_not.mp c_9), iz_t c_12, iz_t c_15, iz_f c_16, iz_t c_17, iz_t c_18]; exact JM.rf _), (by unfold sq_trade; rw [iz_t (Classical.not_not.mp c_3), iz_t (Classical.not_not.mp c_6), iz_t (Classical.not_not.mp c_9), iz_t c_12, iz_t c_15, iz_f c_16, iz_t c_17, iz_t c_18])⟩ dX7_trade_80
              · refine lv_bipush (v := (-4)) hx hb dX7_trade_69 (by decide) ?_
                exact zeI E hs ⟨(by unfold sq_trade; rw [iz_t (Classical.not_not.mp c_3), iz_t (Classical.not_not.mp c_6), iz_t (Classical.not_not.mp c_9), iz_t c_12, iz_t c_15, iz_f c_16, iz_f c_17]), (by unfold sq_trade; rw [iz_t (Classical.not_not.mp c_3), iz_t (Classical.not_not.mp c_6), iz_t (Classical.not_not.mp c_9), iz_t c_12, iz_t c_15, iz_f c_16, iz_f c_17]; exact JM.rf _), (by unfold sq_trade; rw [iz_t (Classical.not_not.mp c_3), iz_t (Classical.not_not.mp c_6), iz_t (Classical.not_not.mp c_9), iz_t c_12, iz_t c_15, iz_f c_16, iz_f c_17])⟩ dX7_trade_71
    · have c_6 : ¬ (¬ b < nI 0 ∧ ¬ nI 35 < b) := bz_1 c_6
      refine lv_iconst (v := (-1)) hx hb dX7_trade_14 (by decide) ?_
      exact zeI E hs ⟨(by unfold sq_trade; rw [iz_t (Classical.not_not.mp c_3), iz_f c_6]), (by unfold sq_trade; rw [iz_t (Classical.not_not.mp c_3), iz_f c_6]; exact JM.rf _), (by unfold sq_trade; rw [iz_t (Classical.not_not.mp c_3), iz_f c_6])⟩ dX7_trade_15

theorem same_s {f g : Nat → Int32} {i : Nat} (h : ∀ j, j < i → f (79 + j) = g j) (h2 : f (79 + i) = g i) : ∀ j, j < i + 1 → f (79 + j) = g j := by
  intro j hj
  by_cases e : j = i
  · rw [e]; exact h2
  · exact h j (by omega)
set_option maxHeartbeats 4000000 in
set_option maxRecDepth 100000 in
/-- take -/
theorem c_X7_take (l : Launch) (x : CT) (ar fd : AR) (z : Nat) (hz : fd 102 3 = nI z) (hz4 : z ≤ 4) : CI l yX7_take cX7_take 3 (some .boolean) 1 21 x [.ref (xa x 102)] ar fd (fun r ar' fd' => ((∀ j, j < 36 → ar 103 (79 + j) = ar 108 j) ∧ r = nI 0 ∧ ar' = ar ∧ fd' = fd) ∨ (¬ (∀ j, j < 36 → ar 103 (79 + j) = ar 108 j) ∧ r = nI 1 ∧ ar' = zu (rcA ar z) 103 (bl (ar 103) 79 36 (ar 108)) ∧ fd' = rcF fd z)) := by
  refine zsI (own := RX7) rfl (by decide +kernel) (Nat.le_of_ble_eq_true rfl) ?_
  intro p e s m below meth c ls E hs hl
  have hx := E.1
  have hb := E.2.1
  have hl : lv_has ls 3 [(0, .ref (xa x 102))] := hl
  refine lv_iconst (v := nI 1) hx hb dX7_take_0 (by decide) ?_
  refine lv_istore_n (lv' := [(1, .int (nI 1)), (0, .ref (xa x 102))]) hx hb dX7_take_1 rfl hl (by decide) rfl (fun ls hl => ?_)
  refine lv_iconst (v := nI 0) hx hb dX7_take_2 (by decide) ?_
  refine lv_istore_n (lv' := [(2, .int (nI 0)), (1, .int (nI 1)), (0, .ref (xa x 102))]) hx hb dX7_take_3 rfl hl (by decide) rfl (fun ls hl => ?_)
  have L_1 : ∀ (mm : Nat) (i : Nat), (36 - i) < mm → (i ≤ 36) → ∀ (H : Heap) (locs : List Loc) (ls : Array Slot), ST x (AA x) s.heap ar fd H locs → lv_has ls 3 [(0, .ref (xa x 102)), (1, .int (bz (∀ j, j < i → ar 103 (79 + j) = ar 108 j))), (2, .int (nI i))] → W p l e (rmZ 1 21) s m ([.ref (xa x 102)] : List Value).toArray below meth c H locs 0 0 (QI below x [.ref (xa x 102)] s (fun r ar' fd' => ((∀ j, j < 36 → ar 103 (79 + j) = ar 108 j) ∧ r = nI 0 ∧ ar' = ar ∧ fd' = fd) ∨ (¬ (∀ j, j < 36 → ar 103 (79 + j) = ar 108 j) ∧ r = nI 1 ∧ ar' = zu (rcA ar z) 103 (bl (ar 103) 79 36 (ar 108)) ∧ fd' = rcF fd z))) (F0 m 4 ls []) := by
    intro mm
    induction mm with
    | zero => intro i hmu; exact absurd hmu (Nat.not_lt_zero _)
    | succ mm ih_1 =>
      intro i hmu hi H locs ls hs hl
      refine lv_iload_n hx hb dX7_take_4 rfl (lv_at hl 2 rfl) ?_
      refine lv_bipush (v := nI 36) hx hb dX7_take_5 (by decide) ?_
      refine lv_icmp_ge (tgt := 44) hx hb dX7_take_7 (by decide) (fun c_2 => ?_) (fun c_2 => ?_)
      · have c_2 : 36 ≤ i := (nI_leI (a := 36) (b := i) (by omega) (by omega)).mp c_2
        have hi36 : i = 36 := by omega
        subst hi36
        refine lv_iload_n hx hb dX7_take_44 rfl (lv_at hl 1 rfl) ?_
        refine lv_if_eq (tgt := 50) hx hb dX7_take_45 (by decide) (fun c_3 => ?_) (fun c_3 => ?_)
        · have c_3 : ¬ (∀ j, j < 36 → ar 103 (79 + j) = ar 108 j) := bz_0 c_3
          refine lv_aload_n hx hb dX7_take_50 rfl (lv_at hl 0 rfl) ?_
          refine zVV E hs lkX7_48 [] (c_X7_record l x ar fd z hz hz4) (by decide) (sh6 rfl) rfl ⟨Nat.le_of_ble_eq_true rfl, Nat.le_of_ble_eq_true rfl⟩ rfl hl.1 (Nat.le_of_ble_eq_true rfl) rfl dX7_take_51 (fun arr_4 fdr_4 H locs hp_5 hs => ?_)
          rw [hp_5.1, hp_5.2] at hs
          refine lv_iconst (v := nI 0) hx hb dX7_take_54 (by decide) ?_
          refine lv_istore_n (lv' := [(2, .int (nI 0)), (0, .ref (xa x 102)), (1, .int (bz (∀ j, j < 36 → ar 103 (79 + j) = ar 108 j)))]) hx hb dX7_take_55 rfl hl (by decide) rfl (fun ls hl => ?_)
          have L_6 : ∀ (mm : Nat) (i : Nat), (36 - i) < mm → (i ≤ 36) → ∀ (H : Heap) (locs : List Loc) (ls : Array Slot), ST x (AA x) s.heap (zu (rcA ar z) 103 (bl (ar 103) 79 i (ar 108))) (rcF fd z) H locs → lv_has ls 3 [(0, .ref (xa x 102)), (2, .int (nI i))] → W p l e (rmZ 1 21) s m ([.ref (xa x 102)] : List Value).toArray below meth c H locs 0 0 (QI below x [.ref (xa x 102)] s (fun r ar' fd' => ((∀ j, j < 36 → ar 103 (79 + j) = ar 108 j) ∧ r = nI 0 ∧ ar' = ar ∧ fd' = fd) ∨ (¬ (∀ j, j < 36 → ar 103 (79 + j) = ar 108 j) ∧ r = nI 1 ∧ ar' = zu (rcA ar z) 103 (bl (ar 103) 79 36 (ar 108)) ∧ fd' = rcF fd z))) (F0 m 56 ls []) := by
            intro mm
            induction mm with
            | zero => intro i hmu; exact absurd hmu (Nat.not_lt_zero _)
            | succ mm ih_6 =>
              intro i hmu hi H locs ls hs hl
              refine lv_iload_n hx hb dX7_take_56 rfl (lv_at hl 1 rfl) ?_
              refine lv_bipush (v := nI 36) hx hb dX7_take_57 (by decide) ?_
              refine lv_icmp_ge (tgt := 83) hx hb dX7_take_59 (by decide) (fun c_7 => ?_) (fun c_7 => ?_)
              · have c_7 : 36 ≤ i := (nI_leI (a := 36) (b := i) (by omega) (by omega)).mp c_7
                refine lv_iconst (v := nI 1) hx hb dX7_take_83 (by decide) ?_
                exact zeIn E hs rfl (Or.inr ⟨c_3, rfl, by rw [show i = 36 by omega], rfl⟩) dX7_take_84
              · have c_7 : ¬ (36 ≤ i) := fun h => c_7 ((nI_leI (a := 36) (b := i) (by omega) (by omega)).mpr h)
                refine lv_aload_n hx hb dX7_take_62 rfl (lv_at hl 0 rfl) ?_
                refine zg6 E hs (k := 102) rfl 0 (by decide) rfl q_514 dX7_take_63 ?_
                refine lv_bipush (v := nI 79) hx hb dX7_take_66 (by decide) ?_
                refine lv_iload_n hx hb dX7_take_68 rfl (lv_at hl 1 rfl) ?_
                refine lv_iadd hx hb dX7_take_69 ?_
                refine tp (b := nI (79 + i)) (nI_add _ _) ?_
                refine lv_aload_n hx hb dX7_take_70 rfl (lv_at hl 0 rfl) ?_
                refine zg6 E hs (k := 102) rfl 9 (by decide) rfl q_523 dX7_take_71 ?_
                refine lv_iload_n hx hb dX7_take_74 rfl (lv_at hl 1 rfl) ?_
                refine zald E hs 108 (n := 36) (j := i) rfl rfl (by omega) (by decide) dX7_take_75 ?_
                refine tp (b := ar 108 i) ((congrFun (zu_n _ _ (by decide)) _).trans (congrFun (rcA_n (by decide)) _)) ?_
                refine zast E hs 103 (n := 196) (j := (79 + i)) rfl rfl (by omega) (by decide) dX7_take_76 (fun H locs hs => ?_)
                refine lv_iinc (v := nI (i + 1)) (lv' := [(2, .int (nI (i + 1))), (0, .ref (xa x 102))]) hx hb dX7_take_77 hl (k := 1) rfl (nI_inc _) (by decide) rfl (fun ls hl => ?_)
                refine lv_goto (tgt := 56) hx hb dX7_take_80 (by decide) ?_
                exact ih_6 (i + 1) (by omega) (by omega) _ _ _ (by rw [zb (h := ar 108) rfl] at hs; exact hs) (lvr (lv_at hl 1 rfl) (lvr (lv_at hl 0 rfl) (lvn hl)))
          exact L_6 (_ + 1) 0 (Nat.lt_succ_self _) (by omega) _ _ _ (by rw [bl_0, show ar 103 = rcA ar z 103 from (rcA_n (by decide)).symm, zu_id]; exact hs) (lvr (lv_at hl 1 rfl) (lvr (lv_at hl 0 rfl) (lvn hl)))
        · have c_3 : ∀ j, j < 36 → ar 103 (79 + j) = ar 108 j := bz_1 c_3
          refine lv_iconst (v := nI 0) hx hb dX7_take_48 (by decide) ?_
          exact zeIn E hs rfl (Or.inl ⟨c_3, rfl, rfl, rfl⟩) dX7_take_49
      · have c_2 : ¬ (36 ≤ i) := fun h => c_2 ((nI_leI (a := 36) (b := i) (by omega) (by omega)).mpr h)
        refine lv_iload_n hx hb dX7_take_10 rfl (lv_at hl 1 rfl) ?_
        refine lv_if_eq (tgt := 36) hx hb dX7_take_11 (by decide) (fun c_8 => ?_) (fun c_8 => ?_)
        · have c_8 : ¬ (∀ j, j < i → ar 103 (79 + j) = ar 108 j) := bz_0 c_8
          refine lv_iconst (v := nI 0) hx hb dX7_take_36 (by decide) ?_
          refine lv_istore_n (lv' := [(1, .int (nI 0)), (0, .ref (xa x 102)), (2, .int (nI i))]) hx hb dX7_take_37 rfl hl (by decide) rfl (fun ls hl => ?_)
          refine lv_iinc (v := nI (i + 1)) (lv' := [(2, .int (nI (i + 1))), (1, .int (nI 0)), (0, .ref (xa x 102))]) hx hb dX7_take_38 hl (k := 2) rfl (nI_inc _) (by decide) rfl (fun ls hl => ?_)
          refine lv_goto (tgt := 4) hx hb dX7_take_41 (by decide) ?_
          exact ih_1 (i + 1) (by omega) (by omega) _ _ _ hs (lvr (lv_at hl 2 rfl) (lvc (lv_at hl 1 rfl) (bz_f (fun h => c_8 (fun j hj => h j (by omega)))).symm (lvr (lv_at hl 0 rfl) (lvn hl))))
        · have c_8 : ∀ j, j < i → ar 103 (79 + j) = ar 108 j := bz_1 c_8
          refine lv_aload_n hx hb dX7_take_14 rfl (lv_at hl 0 rfl) ?_
          refine zg6 E hs (k := 102) rfl 0 (by decide) rfl q_514 dX7_take_15 ?_
          refine lv_bipush (v := nI 79) hx hb dX7_take_18 (by decide) ?_
          refine lv_iload_n hx hb dX7_take_20 rfl (lv_at hl 2 rfl) ?_
          refine lv_iadd hx hb dX7_take_21 ?_
          refine tp (b := nI (79 + i)) (nI_add _ _) ?_
          refine zald E hs 103 (n := 196) (j := (79 + i)) rfl rfl (by omega) (by decide) dX7_take_22 ?_
          refine lv_aload_n hx hb dX7_take_23 rfl (lv_at hl 0 rfl) ?_
          refine zg6 E hs (k := 102) rfl 9 (by decide) rfl q_523 dX7_take_24 ?_
          refine lv_iload_n hx hb dX7_take_27 rfl (lv_at hl 2 rfl) ?_
          refine zald E hs 108 (n := 36) (j := i) rfl rfl (by omega) (by decide) dX7_take_28 ?_
          refine lv_icmp_ne (tgt := 36) hx hb dX7_take_29 (by decide) (fun c_9 => ?_) (fun c_9 => ?_)
          · refine lv_iconst (v := nI 0) hx hb dX7_take_36 (by decide) ?_
            refine lv_istore_n (lv' := [(1, .int (nI 0)), (0, .ref (xa x 102)), (2, .int (nI i))]) hx hb dX7_take_37 rfl hl (by decide) rfl (fun ls hl => ?_)
            refine lv_iinc (v := nI (i + 1)) (lv' := [(2, .int (nI (i + 1))), (1, .int (nI 0)), (0, .ref (xa x 102))]) hx hb dX7_take_38 hl (k := 2) rfl (nI_inc _) (by decide) rfl (fun ls hl => ?_)
            refine lv_goto (tgt := 4) hx hb dX7_take_41 (by decide) ?_
            exact ih_1 (i + 1) (by omega) (by omega) _ _ _ hs (lvr (lv_at hl 2 rfl) (lvc (lv_at hl 1 rfl) (bz_f (fun h => c_9 (h i (by omega)))).symm (lvr (lv_at hl 0 rfl) (lvn hl))))
          · refine lv_iconst (v := nI 1) hx hb dX7_take_32 (by decide) ?_
            refine lv_goto (tgt := 37) hx hb dX7_take_33 (by decide) ?_
            refine lv_istore_n (lv' := [(1, .int (nI 1)), (0, .ref (xa x 102)), (2, .int (nI i))]) hx hb dX7_take_37 rfl hl (by decide) rfl (fun ls hl => ?_)
            refine lv_iinc (v := nI (i + 1)) (lv' := [(2, .int (nI (i + 1))), (1, .int (nI 1)), (0, .ref (xa x 102))]) hx hb dX7_take_38 hl (k := 2) rfl (nI_inc _) (by decide) rfl (fun ls hl => ?_)
            refine lv_goto (tgt := 4) hx hb dX7_take_41 (by decide) ?_
            exact ih_1 (i + 1) (by omega) (by omega) _ _ _ hs (lvr (lv_at hl 2 rfl) (lvc (lv_at hl 1 rfl) (bz_t (same_s c_8 c_9)).symm (lvr (lv_at hl 0 rfl) (lvn hl))))
  exact L_1 (_ + 1) 0 (Nat.lt_succ_self _) (by omega) _ _ _ hs (lvr (lv_at hl 2 rfl) (lvc (lv_at hl 1 rfl) (bz_t (fun j h => absurd h (Nat.not_lt_zero j))).symm (lvr (lv_at hl 0 rfl) (lvn hl))))
