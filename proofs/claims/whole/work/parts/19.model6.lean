
theorem rcA_S {a b : AR} {z k : Nat} (h : ∀ q, q ≠ 108 → b q = a q) (hk : k ≠ 108) : rcA b z k = rcA a z k := by
  by_cases e : k = 104
  · subst e; unfold rcA; rw [zu_s, zu_s, h 103 (by decide), h 104 (by decide)]
  · rw [rcA_n e, rcA_n e]; exact h k hk
/-- take's world, told from the world before trying -/
theorem tkS {a b d : AR} {z : Nat} {T : Nat → Int32} (h : ∀ q, q ≠ 108 → b q = a q) (hT : ∀ j, j < 36 → b 108 j = T j) (hJ : JM (zu (rcA b z) 103 (bl (b 103) 79 36 (b 108))) d) : JS (zu (rcA a z) 103 (bl (a 103) 79 36 T)) d := by
  intro k h7 h8 h9
  rw [hJ k h9]
  by_cases e : k = 103
  · subst e; rw [zu_s, zu_s, h 103 (by decide), bl_c hT]
  · rw [zu_n _ _ e, zu_n _ _ e]; exact rcA_S h h8
theorem tkN {a b : AR} {T : Nat → Int32} (h : ∀ q, q ≠ 108 → b q = a q) : JS a b := fun k _ h8 _ => h k h8
theorem rcA_JM {a b : AR} {z : Nat} (h : JM a b) : JM (zu (rcA a z) 103 (zu (a 103) 75 (nI 1))) (zu (rcA b z) 103 (zu (rcA b z 103) 75 (nI 1))) := by
  intro k hk
  by_cases e : k = 103
  · subst e; rw [zu_s, zu_s, rcA_n (by decide), h 103 (by decide)]
  · rw [zu_n _ _ e, zu_n _ _ e]; exact rcA_J h k hk
theorem sn_00 {B : Prop} {i : Nat} (h : i / 6 % 2 = 0) (hB : ¬ B) : 6 * (i / 6) + i % 6 = csN B i := by
  unfold csN csR; rw [iz_f hB, if_neg (by omega)]; omega
theorem sn_10 {B : Prop} {i : Nat} (h : ¬ i / 6 % 2 = 0) (hB : ¬ B) : 6 * (i / 6) + (5 - i % 6) = csN B i := by
  unfold csN csR; rw [iz_f hB, if_pos (by omega)]; omega
theorem sn_01 {B : Prop} {i : Nat} (h : i / 6 % 2 = 0) (hB : B) : 6 * (i % 6) + i / 6 = csN B i := by
  unfold csN csC; rw [iz_t hB, if_neg (by omega)]; omega
theorem sn_11 {B : Prop} {i : Nat} (h : ¬ i / 6 % 2 = 0) (hB : B) : 6 * (5 - i % 6) + i / 6 = csN B i := by
  unfold csN csC; rw [iz_t hB, if_pos (by omega)]; omega

set_option maxHeartbeats 4000000 in
set_option maxRecDepth 100000 in
/-- snake -/
theorem c_X7_snake (l : Launch) (x : CT) (ar fd A B : AR) (w f : Nat) (hM : ME (ar 103) A (B 1) w f) (z : Nat) (hz : fd 102 3 = nI z) (hz4 : z ≤ 4) (b : Int32) : CI l yX7_snake cX7_snake 7 (some .int) 5 114 x [.ref (xa x 102), .int b] ar fd (fun r ar' fd' => (¬ B 1 10 = 0 ∧ r = -4 ∧ ar' = ar ∧ fd' = fd) ∨ (B 1 10 = 0 ∧ (∀ j, j < 36 → (plF (A 9) (¬ b = 0) (36 / w)) j = A 7 j) ∧ r = -5 ∧ JS ar ar' ∧ fd' = fd) ∨ (B 1 10 = 0 ∧ ¬ (∀ j, j < 36 → (plF (A 9) (¬ b = 0) (36 / w)) j = A 7 j) ∧ r = bz (rsnA (zu A 7 (plF (A 9) (¬ b = 0) (36 / w))) w f = nI 0) ∧ JS (zu (rcA ar z) 103 (bl (ar 103) 79 36 (plF (A 9) (¬ b = 0) (36 / w)))) ar' ∧ fd' = rcF fd z)) := by
  refine zsI (own := RX7) rfl (by decide +kernel) (Nat.le_of_ble_eq_true rfl) ?_
  intro p e s m below meth c ls E hs hl
  have hx := E.1
  have hb := E.2.1
  have hl : lv_has ls 7 [(0, .ref (xa x 102)), (1, .int b)] := hl
  obtain ⟨hE1, hE2, hE3, hE4, hE5, hE6, hE7, hEw, hEf, hEc, hEs, hfw, hw9, hw2, hP, hD⟩ := id hM
  have hsz : 0 < 36 / w := Nat.div_pos (by omega) (by omega)
  have hsz36 : 36 / w ≤ 36 := Nat.div_le_self _ _
  refine lv_aload_n hx hb dX7_snake_0 rfl (lv_at hl 0 rfl) ?_
  refine zVP E hs lkX7_87 [] (c_X7_noDraft l x ar fd A B w f hM) (by decide) (sh6 rfl) rfl ⟨Nat.le_of_ble_eq_true rfl, Nat.le_of_ble_eq_true rfl⟩ rfl hl.1 (Nat.le_of_ble_eq_true rfl) rfl dX7_snake_1 (fun r_1 H locs hp_2 hs => ?_)
  subst hp_2
  refine lv_if_eq (tgt := 10) hx hb dX7_snake_4 (by decide) (fun c_3 => ?_) (fun c_3 => ?_)
  · have c_3 : ¬ (¬ (B 1 10 = 0)) := bz_0 c_3
    refine lv_iconst (v := nI 0) hx hb dX7_snake_10 (by decide) ?_
    refine lv_istore_n (lv' := [(2, .int (nI 0)), (0, .ref (xa x 102)), (1, .int b)]) hx hb dX7_snake_11 rfl hl (by decide) rfl (fun ls hl => ?_)
    refine lv_iconst (v := nI 0) hx hb dX7_snake_12 (by decide) ?_
    refine lv_istore_n (lv' := [(3, .int (nI 0)), (2, .int (nI 0)), (0, .ref (xa x 102)), (1, .int b)]) hx hb dX7_snake_13 rfl hl (by decide) rfl (fun ls hl => ?_)
    have L_4 : ∀ (mm : Nat) (i : Nat) (ar1 : AR), (36 - i) < mm → (i ≤ 36) → (∀ k, k < i → ar1 108 (csN (¬ b = 0) k) = plV (A 9) (¬ b = 0) (36 / w) k) → (∀ q, q ≠ 108 → ar1 q = ar q) → ∀ (H : Heap) (locs : List Loc) (ls : Array Slot), ST x (AA x) s.heap ar1 fd H locs → lv_has ls 7 [(0, .ref (xa x 102)), (1, .int b), (2, .int (nI (OQ (A 9) (¬ b = 0) i))), (3, .int (nI i))] → W p l e (rmZ 5 114) s m ([.ref (xa x 102), .int b] : List Value).toArray below meth c H locs 0 0 (QI below x [.ref (xa x 102), .int b] s (fun r ar' fd' => (¬ B 1 10 = 0 ∧ r = -4 ∧ ar' = ar ∧ fd' = fd) ∨ (B 1 10 = 0 ∧ (∀ j, j < 36 → (plF (A 9) (¬ b = 0) (36 / w)) j = A 7 j) ∧ r = -5 ∧ JS ar ar' ∧ fd' = fd) ∨ (B 1 10 = 0 ∧ ¬ (∀ j, j < 36 → (plF (A 9) (¬ b = 0) (36 / w)) j = A 7 j) ∧ r = bz (rsnA (zu A 7 (plF (A 9) (¬ b = 0) (36 / w))) w f = nI 0) ∧ JS (zu (rcA ar z) 103 (bl (ar 103) 79 36 (plF (A 9) (¬ b = 0) (36 / w)))) ar' ∧ fd' = rcF fd z))) (F0 m 14 ls []) := by
      intro mm
      induction mm with
      | zero => intro i ar1 hmu; exact absurd hmu (Nat.not_lt_zero _)
      | succ mm ih_4 =>
        intro i ar1 hmu hi h1 h3 H locs ls hs hl
        have hoq : OQ (A 9) (¬ b = 0) i ≤ i := ct_le _ i
        refine lv_iload_n hx hb dX7_snake_14 rfl (lv_at hl 3 rfl) ?_
        refine lv_bipush (v := nI 36) hx hb dX7_snake_15 (by decide) ?_
        refine lv_icmp_ge (tgt := 122) hx hb dX7_snake_17 (by decide) (fun c_5 => ?_) (fun c_5 => ?_)
        · have c_5 : 36 ≤ i := (nI_leI (a := 36) (b := i) (by omega) (by omega)).mp c_5
          have hT : ∀ j, j < 36 → ar1 108 j = (plF (A 9) (¬ b = 0) (36 / w)) j := fun j hj => by
            obtain ⟨-, -, g1, g2⟩ := csN_36 (¬ b = 0) hj
            have h9 := h1 (csI (¬ b = 0) j) (by omega)
            rw [g2] at h9
            exact h9
          refine lv_aload_n hx hb dX7_snake_122 rfl (lv_at hl 0 rfl) ?_
          refine zVI E hs lkX7_94 [] (c_X7_take l x ar1 fd z hz hz4) (by decide) (sh6 rfl) rfl ⟨Nat.le_of_ble_eq_true rfl, Nat.le_of_ble_eq_true rfl⟩ rfl hl.1 (Nat.le_of_ble_eq_true rfl) rfl dX7_snake_123 (fun r_6 arr_6 fdr_6 H locs hp_7 hs => ?_)
          rcases hp_7 with ⟨t_81, t_82, t_83, t_84⟩ | ⟨t_81, t_82, t_83, t_84⟩
          · rw [t_83, t_84] at hs
            refine tp (b := nI 0) t_82 ?_
            refine lv_if_ne (tgt := 132) hx hb dX7_snake_126 (by decide) (fun h => absurd h (by decide)) (fun _ => ?_)
            refine lv_bipush (v := (-5)) hx hb dX7_snake_129 (by decide) ?_
            exact zeI E hs (Or.inr (Or.inl ⟨(Classical.not_not.mp c_3), fun j hj => ((hT j hj).symm.trans (t_81 j hj).symm).trans ((congrFun (h3 103 (by decide)) _).trans (hE3 j hj)), rfl, tkN (T := (plF (A 9) (¬ b = 0) (36 / w))) h3, rfl⟩)) dX7_snake_131
          · rw [t_83, t_84] at hs
            refine tp (b := nI 1) t_82 ?_
            refine lv_if_ne (tgt := 132) hx hb dX7_snake_126 (by decide) (fun _ => ?_) (fun h => absurd h (by decide))
            refine lv_aload_n hx hb dX7_snake_132 rfl (lv_at hl 0 rfl) ?_
            refine zVI E hs lkX7_91 [] (c_X7_reason l x (zu (rcA ar1 z) 103 (bl (ar1 103) 79 36 (ar1 108))) (rcF fd z) (zu A 7 (plF (A 9) (¬ b = 0) (36 / w))) B w f (by rw [zu_s, h3 103 (by decide), bl_c hT]; exact me_b hM (fun c hc => plF_ge hc))) (by decide) (sh6 rfl) rfl ⟨Nat.le_of_ble_eq_true rfl, Nat.le_of_ble_eq_true rfl⟩ rfl hl.1 (Nat.le_of_ble_eq_true rfl) rfl dX7_snake_133 (fun r_11 arr_11 fdr_11 H locs hp_12 hs => ?_)
            rw [hp_12.2.2] at hs
            have hJ_r_11 := hp_12.2.1
            refine tp (b := nI (rmN (zu A 7 (plF (A 9) (¬ b = 0) (36 / w))) w f)) hp_12.1 ?_
            have hrm_r_11 := rm_all (w := w) (f := f) (zu A 7 (plF (A 9) (¬ b = 0) (36 / w))) hw9
            have hrl_r_11 := hrm_r_11.1
            refine lv_if_ne (tgt := 143) hx hb dX7_snake_136 (by decide) (fun c_13 => ?_) (fun c_13 => ?_)
            · have c_13 : ¬ (rmN (zu A 7 (plF (A 9) (¬ b = 0) (36 / w))) w f = 0) := fun h => c_13 ((nI_eq (a := rmN (zu A 7 (plF (A 9) (¬ b = 0) (36 / w))) w f) (b := 0) (by omega) (by omega)).mpr h)
              refine lv_iconst (v := nI 0) hx hb dX7_snake_143 (by decide) ?_
              exact zeI E hs (Or.inr (Or.inr ⟨(Classical.not_not.mp c_3), (fun q => t_81 (fun j hj => ((congrFun (h3 103 (by decide)) _).trans (hE3 j hj)).trans ((q j hj).symm.trans (hT j hj).symm))), (bz_f (fun q => c_13 (hrm_r_11.2.2.1.mpr q))).symm, tkS h3 hT hJ_r_11, rfl⟩)) dX7_snake_144
            · have c_13 : rmN (zu A 7 (plF (A 9) (¬ b = 0) (36 / w))) w f = 0 := (nI_eq (a := rmN (zu A 7 (plF (A 9) (¬ b = 0) (36 / w))) w f) (b := 0) (by omega) (by omega)).mp c_13
              refine lv_iconst (v := nI 1) hx hb dX7_snake_139 (by decide) ?_
              refine lv_goto (tgt := 144) hx hb dX7_snake_140 (by decide) ?_
              exact zeI E hs (Or.inr (Or.inr ⟨(Classical.not_not.mp c_3), (fun q => t_81 (fun j hj => ((congrFun (h3 103 (by decide)) _).trans (hE3 j hj)).trans ((q j hj).symm.trans (hT j hj).symm))), (bz_t (hrm_r_11.2.2.1.mp c_13)).symm, tkS h3 hT hJ_r_11, rfl⟩)) dX7_snake_144
        · have c_5 : ¬ (36 ≤ i) := fun h => c_5 ((nI_leI (a := 36) (b := i) (by omega) (by omega)).mpr h)
          refine lv_iload_n hx hb dX7_snake_20 rfl (lv_at hl 3 rfl) ?_
          refine lv_bipush (v := nI 6) hx hb dX7_snake_21 (by decide) ?_
          refine lv_idiv hx hb dX7_snake_23 (by decide) ?_
          refine tp (b := nI (i / 6)) (nI_div (by omega) (by omega)) ?_
          refine lv_istore (lv' := [(4, .int (nI (i / 6))), (0, .ref (xa x 102)), (1, .int b), (2, .int (nI (OQ (A 9) (¬ b = 0) i))), (3, .int (nI i))]) hx hb dX7_snake_24 hl (by decide) rfl (fun ls hl => ?_)
          refine lv_iload hx hb dX7_snake_26 (lv_at hl 0 rfl) ?_
          refine lv_iconst (v := nI 2) hx hb dX7_snake_28 (by decide) ?_
          refine lv_irem hx hb dX7_snake_29 (by decide) ?_
          refine tp (b := nI ((i / 6) % 2)) (nI_rem (by omega) (by omega)) ?_
          refine lv_if_ne (tgt := 40) hx hb dX7_snake_30 (by decide) (fun c_14 => ?_) (fun c_14 => ?_)
          · have c_14 : ¬ ((i / 6) % 2 = 0) := fun h => c_14 ((nI_eq (a := (i / 6) % 2) (b := 0) (by omega) (by omega)).mpr h)
            refine lv_iconst (v := nI 5) hx hb dX7_snake_40 (by decide) ?_
            refine lv_iload_n hx hb dX7_snake_41 rfl (lv_at hl 4 rfl) ?_
            refine lv_bipush (v := nI 6) hx hb dX7_snake_42 (by decide) ?_
            refine lv_irem hx hb dX7_snake_44 (by decide) ?_
            refine tp (b := nI (i % 6)) (nI_rem (by omega) (by omega)) ?_
            refine lv_isub hx hb dX7_snake_45 ?_
            refine tp (b := nI (5 - (i % 6))) (nI_sub (by omega)) ?_
            refine lv_istore (lv' := [(5, .int (nI (5 - (i % 6)))), (4, .int (nI (i / 6))), (0, .ref (xa x 102)), (1, .int b), (2, .int (nI (OQ (A 9) (¬ b = 0) i))), (3, .int (nI i))]) hx hb dX7_snake_46 hl (by decide) rfl (fun ls hl => ?_)
            refine lv_iload_n hx hb dX7_snake_48 rfl (lv_at hl 3 rfl) ?_
            refine lv_if_eq (tgt := 63) hx hb dX7_snake_49 (by decide) (fun c_15 => ?_) (fun c_15 => ?_)
            · refine lv_bipush (v := nI 6) hx hb dX7_snake_63 (by decide) ?_
              refine lv_iload hx hb dX7_snake_65 (lv_at hl 1 rfl) ?_
              refine lv_imul hx hb dX7_snake_67 ?_
              refine tp (b := nI (6 * (i / 6))) (nI_mul _ _) ?_
              refine lv_iload hx hb dX7_snake_68 (lv_at hl 0 rfl) ?_
              refine lv_iadd hx hb dX7_snake_70 ?_
              refine tp (b := nI ((6 * (i / 6)) + (5 - (i % 6)))) (nI_add _ _) ?_
              refine tp (b := nI (csN (¬ b = 0) i)) (congrArg nI (sn_10 (B := ¬ b = 0) c_14 (not_not_intro c_15))) ?_
              obtain ⟨hcs, -, -, -⟩ := csN_36 (¬ b = 0) (show i < 36 by omega)
              refine lv_istore (lv' := [(6, .int (nI (csN (¬ b = 0) i))), (5, .int (nI (5 - (i % 6)))), (4, .int (nI (i / 6))), (0, .ref (xa x 102)), (1, .int b), (2, .int (nI (OQ (A 9) (¬ b = 0) i))), (3, .int (nI i))]) hx hb dX7_snake_71 hl (by decide) rfl (fun ls hl => ?_)
              refine lv_aload_n hx hb dX7_snake_73 rfl (lv_at hl 3 rfl) ?_
              refine zg6 E hs (k := 102) rfl 9 (by decide) rfl q_523 dX7_snake_74 ?_
              refine lv_iload hx hb dX7_snake_77 (lv_at hl 0 rfl) ?_
              refine lv_aload_n hx hb dX7_snake_79 rfl (lv_at hl 3 rfl) ?_
              refine lv_iload hx hb dX7_snake_80 (lv_at hl 0 rfl) ?_
              refine zVP E hs lkX7_74 [.int (nI (csN (¬ b = 0) i)), .ref (xa x 108)] (c_X7_isOpen l x ar1 fd A B w f (by rw [h3 103 (by decide)]; exact hM) (csN (¬ b = 0) i) (by omega)) (by decide) (sh6 rfl) rfl ⟨Nat.le_of_ble_eq_true rfl, Nat.le_of_ble_eq_true rfl⟩ rfl hl.1 (Nat.le_of_ble_eq_true rfl) rfl dX7_snake_82 (fun r_16 H locs hp_17 hs => ?_)
              subst hp_17
              refine lv_if_eq (tgt := 97) hx hb dX7_snake_85 (by decide) (fun c_18 => ?_) (fun c_18 => ?_)
              · have c_18 : ¬ (A 9 (csN (¬ b = 0) i) = -1) := bz_0 c_18
                refine lv_iconst (v := (-1)) hx hb dX7_snake_97 (by decide) ?_
                refine zast E hs 108 (n := 36) (j := (csN (¬ b = 0) i)) rfl rfl (by omega) (by decide) dX7_snake_98 (fun H locs hs => ?_)
                refine lv_iload_n hx hb dX7_snake_99 rfl (lv_at hl 5 rfl) ?_
                refine lv_aload_n hx hb dX7_snake_100 rfl (lv_at hl 3 rfl) ?_
                refine lv_iload hx hb dX7_snake_101 (lv_at hl 0 rfl) ?_
                refine zVP E hs lkX7_74 [.int (nI (OQ (A 9) (¬ b = 0) i))] (c_X7_isOpen l x (zu ar1 108 (zu (ar1 108) (csN (¬ b = 0) i) (-1))) fd A B w f (by rw [zu_n _ _ (by decide), h3 103 (by decide)]; exact hM) (csN (¬ b = 0) i) (by omega)) (by decide) (sh6 rfl) rfl ⟨Nat.le_of_ble_eq_true rfl, Nat.le_of_ble_eq_true rfl⟩ rfl hl.1 (Nat.le_of_ble_eq_true rfl) rfl dX7_snake_103 (fun r_19 H locs hp_20 hs => ?_)
                subst hp_20
                refine lv_if_eq (tgt := 113) hx hb dX7_snake_106 (by decide) (fun c_21 => ?_) (fun c_21 => ?_)
                · have c_21 : ¬ (A 9 (csN (¬ b = 0) i) = -1) := bz_0 c_21
                  refine lv_iconst (v := nI 0) hx hb dX7_snake_113 (by decide) ?_
                  refine lv_iadd hx hb dX7_snake_114 ?_
                  refine tp (b := nI ((OQ (A 9) (¬ b = 0) i) + 0)) (nI_add _ _) ?_
                  refine lv_istore_n (lv' := [(2, .int (nI ((OQ (A 9) (¬ b = 0) i) + 0))), (6, .int (nI (csN (¬ b = 0) i))), (5, .int (nI (5 - (i % 6)))), (4, .int (nI (i / 6))), (0, .ref (xa x 102)), (1, .int b), (3, .int (nI i))]) hx hb dX7_snake_115 rfl hl (by decide) rfl (fun ls hl => ?_)
                  refine lv_iinc (v := nI (i + 1)) (lv' := [(3, .int (nI (i + 1))), (2, .int (nI ((OQ (A 9) (¬ b = 0) i) + 0))), (6, .int (nI (csN (¬ b = 0) i))), (5, .int (nI (5 - (i % 6)))), (4, .int (nI (i / 6))), (0, .ref (xa x 102)), (1, .int b)]) hx hb dX7_snake_116 hl (k := 6) rfl (nI_inc _) (by decide) rfl (fun ls hl => ?_)
                  refine lv_goto (tgt := 14) hx hb dX7_snake_119 (by decide) ?_
                  exact ih_4 (i + 1) (zu ar1 108 (zu (ar1 108) (csN (¬ b = 0) i) (-1))) (by omega) (by omega) (fun k hk => by
                        rw [zu_s]
                        by_cases e : k = i
                        · rw [e, zu_s]; unfold plV; rw [iz_f c_18]
                        · rw [zu_n _ _ (fun q => e (csN_inj _ (by omega) (by omega) q))]; exact h1 k (by omega)) (fun q hq => by rw [zu_n _ _ hq]; exact h3 q hq) _ _ _ hs (lvr (lv_at hl 5 rfl) (lvr (lv_at hl 6 rfl) (lvc (lv_at hl 1 rfl) (by rw [Nat.add_zero, show OQ (A 9) (¬ b = 0) (i + 1) = OQ (A 9) (¬ b = 0) i from ct_f (P := fun j => A 9 (csN (¬ b = 0) j) = -1) c_18]) (lvr (lv_at hl 0 rfl) (lvn hl)))))
                · have c_21 : A 9 (csN (¬ b = 0) i) = -1 := bz_1 c_21
                  exact absurd c_21 c_18
              · have c_18 : A 9 (csN (¬ b = 0) i) = -1 := bz_1 c_18
                refine lv_iload_n hx hb dX7_snake_88 rfl (lv_at hl 5 rfl) ?_
                refine lv_aload_n hx hb dX7_snake_89 rfl (lv_at hl 3 rfl) ?_
                refine zVP E hs lkX7_55 [.int (nI (OQ (A 9) (¬ b = 0) i)), .int (nI (csN (¬ b = 0) i)), .ref (xa x 108)] (c_X7_size l x ar1 fd A B w f (by rw [h3 103 (by decide)]; exact hM)) (by decide) (sh6 rfl) rfl ⟨Nat.le_of_ble_eq_true rfl, Nat.le_of_ble_eq_true rfl⟩ rfl hl.1 (Nat.le_of_ble_eq_true rfl) rfl dX7_snake_90 (fun r_22 H locs hp_23 hs => ?_)
                subst hp_23
                refine lv_idiv hx hb dX7_snake_93 (nI_ne0 (by omega) (by omega)) ?_
                refine tp (b := nI ((OQ (A 9) (¬ b = 0) i) / (36 / w))) (nI_div (by omega) (by omega)) ?_
                refine lv_goto (tgt := 98) hx hb dX7_snake_94 (by decide) ?_
                refine zast E hs 108 (n := 36) (j := (csN (¬ b = 0) i)) rfl rfl (by omega) (by decide) dX7_snake_98 (fun H locs hs => ?_)
                refine lv_iload_n hx hb dX7_snake_99 rfl (lv_at hl 5 rfl) ?_
                refine lv_aload_n hx hb dX7_snake_100 rfl (lv_at hl 3 rfl) ?_
                refine lv_iload hx hb dX7_snake_101 (lv_at hl 0 rfl) ?_
                refine zVP E hs lkX7_74 [.int (nI (OQ (A 9) (¬ b = 0) i))] (c_X7_isOpen l x (zu ar1 108 (zu (ar1 108) (csN (¬ b = 0) i) (nI ((OQ (A 9) (¬ b = 0) i) / (36 / w))))) fd A B w f (by rw [zu_n _ _ (by decide), h3 103 (by decide)]; exact hM) (csN (¬ b = 0) i) (by omega)) (by decide) (sh6 rfl) rfl ⟨Nat.le_of_ble_eq_true rfl, Nat.le_of_ble_eq_true rfl⟩ rfl hl.1 (Nat.le_of_ble_eq_true rfl) rfl dX7_snake_103 (fun r_24 H locs hp_25 hs => ?_)
                subst hp_25
                refine lv_if_eq (tgt := 113) hx hb dX7_snake_106 (by decide) (fun c_26 => ?_) (fun c_26 => ?_)
                · have c_26 : ¬ (A 9 (csN (¬ b = 0) i) = -1) := bz_0 c_26
                  exact absurd c_18 c_26
                · have c_26 : A 9 (csN (¬ b = 0) i) = -1 := bz_1 c_26
                  refine lv_iconst (v := nI 1) hx hb dX7_snake_109 (by decide) ?_
                  refine lv_goto (tgt := 114) hx hb dX7_snake_110 (by decide) ?_
                  refine lv_iadd hx hb dX7_snake_114 ?_
                  refine tp (b := nI ((OQ (A 9) (¬ b = 0) i) + 1)) (nI_add _ _) ?_
                  refine lv_istore_n (lv' := [(2, .int (nI ((OQ (A 9) (¬ b = 0) i) + 1))), (6, .int (nI (csN (¬ b = 0) i))), (5, .int (nI (5 - (i % 6)))), (4, .int (nI (i / 6))), (0, .ref (xa x 102)), (1, .int b), (3, .int (nI i))]) hx hb dX7_snake_115 rfl hl (by decide) rfl (fun ls hl => ?_)
                  refine lv_iinc (v := nI (i + 1)) (lv' := [(3, .int (nI (i + 1))), (2, .int (nI ((OQ (A 9) (¬ b = 0) i) + 1))), (6, .int (nI (csN (¬ b = 0) i))), (5, .int (nI (5 - (i % 6)))), (4, .int (nI (i / 6))), (0, .ref (xa x 102)), (1, .int b)]) hx hb dX7_snake_116 hl (k := 6) rfl (nI_inc _) (by decide) rfl (fun ls hl => ?_)
                  refine lv_goto (tgt := 14) hx hb dX7_snake_119 (by decide) ?_
                  exact ih_4 (i + 1) (zu ar1 108 (zu (ar1 108) (csN (¬ b = 0) i) (nI ((OQ (A 9) (¬ b = 0) i) / (36 / w))))) (by omega) (by omega) (fun k hk => by
                        rw [zu_s]
                        by_cases e : k = i
                        · rw [e, zu_s]; unfold plV; rw [iz_t c_18]
                        · rw [zu_n _ _ (fun q => e (csN_inj _ (by omega) (by omega) q))]; exact h1 k (by omega)) (fun q hq => by rw [zu_n _ _ hq]; exact h3 q hq) _ _ _ hs (lvr (lv_at hl 5 rfl) (lvr (lv_at hl 6 rfl) (lvc (lv_at hl 1 rfl) (by rw [show OQ (A 9) (¬ b = 0) (i + 1) = OQ (A 9) (¬ b = 0) i + 1 from ct_t (P := fun j => A 9 (csN (¬ b = 0) j) = -1) c_18]) (lvr (lv_at hl 0 rfl) (lvn hl)))))
            · refine lv_bipush (v := nI 6) hx hb dX7_snake_52 (by decide) ?_
              refine lv_iload hx hb dX7_snake_54 (lv_at hl 0 rfl) ?_
              refine lv_imul hx hb dX7_snake_56 ?_
              refine tp (b := nI (6 * (5 - (i % 6)))) (nI_mul _ _) ?_
              refine lv_iload hx hb dX7_snake_57 (lv_at hl 1 rfl) ?_
              refine lv_iadd hx hb dX7_snake_59 ?_
              refine tp (b := nI ((6 * (5 - (i % 6))) + (i / 6))) (nI_add _ _) ?_
              refine lv_goto (tgt := 71) hx hb dX7_snake_60 (by decide) ?_
              refine tp (b := nI (csN (¬ b = 0) i)) (congrArg nI (sn_11 (B := ¬ b = 0) c_14 c_15)) ?_
              obtain ⟨hcs, -, -, -⟩ := csN_36 (¬ b = 0) (show i < 36 by omega)
              refine lv_istore (lv' := [(6, .int (nI (csN (¬ b = 0) i))), (5, .int (nI (5 - (i % 6)))), (4, .int (nI (i / 6))), (0, .ref (xa x 102)), (1, .int b), (2, .int (nI (OQ (A 9) (¬ b = 0) i))), (3, .int (nI i))]) hx hb dX7_snake_71 hl (by decide) rfl (fun ls hl => ?_)
              refine lv_aload_n hx hb dX7_snake_73 rfl (lv_at hl 3 rfl) ?_
              refine zg6 E hs (k := 102) rfl 9 (by decide) rfl q_523 dX7_snake_74 ?_
              refine lv_iload hx hb dX7_snake_77 (lv_at hl 0 rfl) ?_
              refine lv_aload_n hx hb dX7_snake_79 rfl (lv_at hl 3 rfl) ?_
              refine lv_iload hx hb dX7_snake_80 (lv_at hl 0 rfl) ?_
              refine zVP E hs lkX7_74 [.int (nI (csN (¬ b = 0) i)), .ref (xa x 108)] (c_X7_isOpen l x ar1 fd A B w f (by rw [h3 103 (by decide)]; exact hM) (csN (¬ b = 0) i) (by omega)) (by decide) (sh6 rfl) rfl ⟨Nat.le_of_ble_eq_true rfl, Nat.le_of_ble_eq_true rfl⟩ rfl hl.1 (Nat.le_of_ble_eq_true rfl) rfl dX7_snake_82 (fun r_27 H locs hp_28 hs => ?_)
              subst hp_28
              refine lv_if_eq (tgt := 97) hx hb dX7_snake_85 (by decide) (fun c_29 => ?_) (fun c_29 => ?_)
              · have c_29 : ¬ (A 9 (csN (¬ b = 0) i) = -1) := bz_0 c_29
                refine lv_iconst (v := (-1)) hx hb dX7_snake_97 (by decide) ?_
                refine zast E hs 108 (n := 36) (j := (csN (¬ b = 0) i)) rfl rfl (by omega) (by decide) dX7_snake_98 (fun H locs hs => ?_)
                refine lv_iload_n hx hb dX7_snake_99 rfl (lv_at hl 5 rfl) ?_
                refine lv_aload_n hx hb dX7_snake_100 rfl (lv_at hl 3 rfl) ?_
                refine lv_iload hx hb dX7_snake_101 (lv_at hl 0 rfl) ?_
                refine zVP E hs lkX7_74 [.int (nI (OQ (A 9) (¬ b = 0) i))] (c_X7_isOpen l x (zu ar1 108 (zu (ar1 108) (csN (¬ b = 0) i) (-1))) fd A B w f (by rw [zu_n _ _ (by decide), h3 103 (by decide)]; exact hM) (csN (¬ b = 0) i) (by omega)) (by decide) (sh6 rfl) rfl ⟨Nat.le_of_ble_eq_true rfl, Nat.le_of_ble_eq_true rfl⟩ rfl hl.1 (Nat.le_of_ble_eq_true rfl) rfl dX7_snake_103 (fun r_30 H locs hp_31 hs => ?_)
                subst hp_31
                refine lv_if_eq (tgt := 113) hx hb dX7_snake_106 (by decide) (fun c_32 => ?_) (fun c_32 => ?_)
                · have c_32 : ¬ (A 9 (csN (¬ b = 0) i) = -1) := bz_0 c_32
                  refine lv_iconst (v := nI 0) hx hb dX7_snake_113 (by decide) ?_
                  refine lv_iadd hx hb dX7_snake_114 ?_
                  refine tp (b := nI ((OQ (A 9) (¬ b = 0) i) + 0)) (nI_add _ _) ?_
                  refine lv_istore_n (lv' := [(2, .int (nI ((OQ (A 9) (¬ b = 0) i) + 0))), (6, .int (nI (csN (¬ b = 0) i))), (5, .int (nI (5 - (i % 6)))), (4, .int (nI (i / 6))), (0, .ref (xa x 102)), (1, .int b), (3, .int (nI i))]) hx hb dX7_snake_115 rfl hl (by decide) rfl (fun ls hl => ?_)
                  refine lv_iinc (v := nI (i + 1)) (lv' := [(3, .int (nI (i + 1))), (2, .int (nI ((OQ (A 9) (¬ b = 0) i) + 0))), (6, .int (nI (csN (¬ b = 0) i))), (5, .int (nI (5 - (i % 6)))), (4, .int (nI (i / 6))), (0, .ref (xa x 102)), (1, .int b)]) hx hb dX7_snake_116 hl (k := 6) rfl (nI_inc _) (by decide) rfl (fun ls hl => ?_)
                  refine lv_goto (tgt := 14) hx hb dX7_snake_119 (by decide) ?_
                  exact ih_4 (i + 1) (zu ar1 108 (zu (ar1 108) (csN (¬ b = 0) i) (-1))) (by omega) (by omega) (fun k hk => by
                        rw [zu_s]
                        by_cases e : k = i
                        · rw [e, zu_s]; unfold plV; rw [iz_f c_29]
                        · rw [zu_n _ _ (fun q => e (csN_inj _ (by omega) (by omega) q))]; exact h1 k (by omega)) (fun q hq => by rw [zu_n _ _ hq]; exact h3 q hq) _ _ _ hs (lvr (lv_at hl 5 rfl) (lvr (lv_at hl 6 rfl) (lvc (lv_at hl 1 rfl) (by rw [Nat.add_zero, show OQ (A 9) (¬ b = 0) (i + 1) = OQ (A 9) (¬ b = 0) i from ct_f (P := fun j => A 9 (csN (¬ b = 0) j) = -1) c_29]) (lvr (lv_at hl 0 rfl) (lvn hl)))))
                · have c_32 : A 9 (csN (¬ b = 0) i) = -1 := bz_1 c_32
                  exact absurd c_32 c_29
              · have c_29 : A 9 (csN (¬ b = 0) i) = -1 := bz_1 c_29
                refine lv_iload_n hx hb dX7_snake_88 rfl (lv_at hl 5 rfl) ?_
                refine lv_aload_n hx hb dX7_snake_89 rfl (lv_at hl 3 rfl) ?_
                refine zVP E hs lkX7_55 [.int (nI (OQ (A 9) (¬ b = 0) i)), .int (nI (csN (¬ b = 0) i)), .ref (xa x 108)] (c_X7_size l x ar1 fd A B w f (by rw [h3 103 (by decide)]; exact hM)) (by decide) (sh6 rfl) rfl ⟨Nat.le_of_ble_eq_true rfl, Nat.le_of_ble_eq_true rfl⟩ rfl hl.1 (Nat.le_of_ble_eq_true rfl) rfl dX7_snake_90 (fun r_33 H locs hp_34 hs => ?_)
                subst hp_34
                refine lv_idiv hx hb dX7_snake_93 (nI_ne0 (by omega) (by omega)) ?_
                refine tp (b := nI ((OQ (A 9) (¬ b = 0) i) / (36 / w))) (nI_div (by omega) (by omega)) ?_
                refine lv_goto (tgt := 98) hx hb dX7_snake_94 (by decide) ?_
                refine zast E hs 108 (n := 36) (j := (csN (¬ b = 0) i)) rfl rfl (by omega) (by decide) dX7_snake_98 (fun H locs hs => ?_)
                refine lv_iload_n hx hb dX7_snake_99 rfl (lv_at hl 5 rfl) ?_
                refine lv_aload_n hx hb dX7_snake_100 rfl (lv_at hl 3 rfl) ?_
                refine lv_iload hx hb dX7_snake_101 (lv_at hl 0 rfl) ?_
                refine zVP E hs lkX7_74 [.int (nI (OQ (A 9) (¬ b = 0) i))] (c_X7_isOpen l x (zu ar1 108 (zu (ar1 108) (csN (¬ b = 0) i) (nI ((OQ (A 9) (¬ b = 0) i) / (36 / w))))) fd A B w f (by rw [zu_n _ _ (by decide), h3 103 (by decide)]; exact hM) (csN (¬ b = 0) i) (by omega)) (by decide) (sh6 rfl) rfl ⟨Nat.le_of_ble_eq_true rfl, Nat.le_of_ble_eq_true rfl⟩ rfl hl.1 (Nat.le_of_ble_eq_true rfl) rfl dX7_snake_103 (fun r_35 H locs hp_36 hs => ?_)
                subst hp_36
                refine lv_if_eq (tgt := 113) hx hb dX7_snake_106 (by decide) (fun c_37 => ?_) (fun c_37 => ?_)
                · have c_37 : ¬ (A 9 (csN (¬ b = 0) i) = -1) := bz_0 c_37
                  exact absurd c_29 c_37
                · have c_37 : A 9 (csN (¬ b = 0) i) = -1 := bz_1 c_37
                  refine lv_iconst (v := nI 1) hx hb dX7_snake_109 (by decide) ?_
                  refine lv_goto (tgt := 114) hx hb dX7_snake_110 (by decide) ?_
                  refine lv_iadd hx hb dX7_snake_114 ?_
                  refine tp (b := nI ((OQ (A 9) (¬ b = 0) i) + 1)) (nI_add _ _) ?_
                  refine lv_istore_n (lv' := [(2, .int (nI ((OQ (A 9) (¬ b = 0) i) + 1))), (6, .int (nI (csN (¬ b = 0) i))), (5, .int (nI (5 - (i % 6)))), (4, .int (nI (i / 6))), (0, .ref (xa x 102)), (1, .int b), (3, .int (nI i))]) hx hb dX7_snake_115 rfl hl (by decide) rfl (fun ls hl => ?_)
                  refine lv_iinc (v := nI (i + 1)) (lv' := [(3, .int (nI (i + 1))), (2, .int (nI ((OQ (A 9) (¬ b = 0) i) + 1))), (6, .int (nI (csN (¬ b = 0) i))), (5, .int (nI (5 - (i % 6)))), (4, .int (nI (i / 6))), (0, .ref (xa x 102)), (1, .int b)]) hx hb dX7_snake_116 hl (k := 6) rfl (nI_inc _) (by decide) rfl (fun ls hl => ?_)
                  refine lv_goto (tgt := 14) hx hb dX7_snake_119 (by decide) ?_
                  exact ih_4 (i + 1) (zu ar1 108 (zu (ar1 108) (csN (¬ b = 0) i) (nI ((OQ (A 9) (¬ b = 0) i) / (36 / w))))) (by omega) (by omega) (fun k hk => by
                        rw [zu_s]
                        by_cases e : k = i
                        · rw [e, zu_s]; unfold plV; rw [iz_t c_29]
                        · rw [zu_n _ _ (fun q => e (csN_inj _ (by omega) (by omega) q))]; exact h1 k (by omega)) (fun q hq => by rw [zu_n _ _ hq]; exact h3 q hq) _ _ _ hs (lvr (lv_at hl 5 rfl) (lvr (lv_at hl 6 rfl) (lvc (lv_at hl 1 rfl) (by rw [show OQ (A 9) (¬ b = 0) (i + 1) = OQ (A 9) (¬ b = 0) i + 1 from ct_t (P := fun j => A 9 (csN (¬ b = 0) j) = -1) c_29]) (lvr (lv_at hl 0 rfl) (lvn hl)))))
          · have c_14 : (i / 6) % 2 = 0 := (nI_eq (a := (i / 6) % 2) (b := 0) (by omega) (by omega)).mp c_14
            refine lv_iload_n hx hb dX7_snake_33 rfl (lv_at hl 4 rfl) ?_
            refine lv_bipush (v := nI 6) hx hb dX7_snake_34 (by decide) ?_
            refine lv_irem hx hb dX7_snake_36 (by decide) ?_
            refine tp (b := nI (i % 6)) (nI_rem (by omega) (by omega)) ?_
            refine lv_goto (tgt := 46) hx hb dX7_snake_37 (by decide) ?_
            refine lv_istore (lv' := [(5, .int (nI (i % 6))), (4, .int (nI (i / 6))), (0, .ref (xa x 102)), (1, .int b), (2, .int (nI (OQ (A 9) (¬ b = 0) i))), (3, .int (nI i))]) hx hb dX7_snake_46 hl (by decide) rfl (fun ls hl => ?_)
            refine lv_iload_n hx hb dX7_snake_48 rfl (lv_at hl 3 rfl) ?_
            refine lv_if_eq (tgt := 63) hx hb dX7_snake_49 (by decide) (fun c_38 => ?_) (fun c_38 => ?_)
            · refine lv_bipush (v := nI 6) hx hb dX7_snake_63 (by decide) ?_
              refine lv_iload hx hb dX7_snake_65 (lv_at hl 1 rfl) ?_
              refine lv_imul hx hb dX7_snake_67 ?_
              refine tp (b := nI (6 * (i / 6))) (nI_mul _ _) ?_
              refine lv_iload hx hb dX7_snake_68 (lv_at hl 0 rfl) ?_
              refine lv_iadd hx hb dX7_snake_70 ?_
              refine tp (b := nI ((6 * (i / 6)) + (i % 6))) (nI_add _ _) ?_
              refine tp (b := nI (csN (¬ b = 0) i)) (congrArg nI (sn_00 (B := ¬ b = 0) c_14 (not_not_intro c_38))) ?_
              obtain ⟨hcs, -, -, -⟩ := csN_36 (¬ b = 0) (show i < 36 by omega)
              refine lv_istore (lv' := [(6, .int (nI (csN (¬ b = 0) i))), (5, .int (nI (i % 6))), (4, .int (nI (i / 6))), (0, .ref (xa x 102)), (1, .int b), (2, .int (nI (OQ (A 9) (¬ b = 0) i))), (3, .int (nI i))]) hx hb dX7_snake_71 hl (by decide) rfl (fun ls hl => ?_)
              refine lv_aload_n hx hb dX7_snake_73 rfl (lv_at hl 3 rfl) ?_
              refine zg6 E hs (k := 102) rfl 9 (by decide) rfl q_523 dX7_snake_74 ?_
              refine lv_iload hx hb dX7_snake_77 (lv_at hl 0 rfl) ?_
              refine lv_aload_n hx hb dX7_snake_79 rfl (lv_at hl 3 rfl) ?_
              refine lv_iload hx hb dX7_snake_80 (lv_at hl 0 rfl) ?_
              refine zVP E hs lkX7_74 [.int (nI (csN (¬ b = 0) i)), .ref (xa x 108)] (c_X7_isOpen l x ar1 fd A B w f (by rw [h3 103 (by decide)]; exact hM) (csN (¬ b = 0) i) (by omega)) (by decide) (sh6 rfl) rfl ⟨Nat.le_of_ble_eq_true rfl, Nat.le_of_ble_eq_true rfl⟩ rfl hl.1 (Nat.le_of_ble_eq_true rfl) rfl dX7_snake_82 (fun r_39 H locs hp_40 hs => ?_)
              subst hp_40
              refine lv_if_eq (tgt := 97) hx hb dX7_snake_85 (by decide) (fun c_41 => ?_) (fun c_41 => ?_)
              · have c_41 : ¬ (A 9 (csN (¬ b = 0) i) = -1) := bz_0 c_41
                refine lv_iconst (v := (-1)) hx hb dX7_snake_97 (by decide) ?_
                refine zast E hs 108 (n := 36) (j := (csN (¬ b = 0) i)) rfl rfl (by omega) (by decide) dX7_snake_98 (fun H locs hs => ?_)
                refine lv_iload_n hx hb dX7_snake_99 rfl (lv_at hl 5 rfl) ?_
                refine lv_aload_n hx hb dX7_snake_100 rfl (lv_at hl 3 rfl) ?_
                refine lv_iload hx hb dX7_snake_101 (lv_at hl 0 rfl) ?_
                refine zVP E hs lkX7_74 [.int (nI (OQ (A 9) (¬ b = 0) i))] (c_X7_isOpen l x (zu ar1 108 (zu (ar1 108) (csN (¬ b = 0) i) (-1))) fd A B w f (by rw [zu_n _ _ (by decide), h3 103 (by decide)]; exact hM) (csN (¬ b = 0) i) (by omega)) (by decide) (sh6 rfl) rfl ⟨Nat.le_of_ble_eq_true rfl, Nat.le_of_ble_eq_true rfl⟩ rfl hl.1 (Nat.le_of_ble_eq_true rfl) rfl dX7_snake_103 (fun r_42 H locs hp_43 hs => ?_)
                subst hp_43
                refine lv_if_eq (tgt := 113) hx hb dX7_snake_106 (by decide) (fun c_44 => ?_) (fun c_44 => ?_)
                · have c_44 : ¬ (A 9 (csN (¬ b = 0) i) = -1) := bz_0 c_44
                  refine lv_iconst (v := nI 0) hx hb dX7_snake_113 (by decide) ?_
                  refine lv_iadd hx hb dX7_snake_114 ?_
                  refine tp (b := nI ((OQ (A 9) (¬ b = 0) i) + 0)) (nI_add _ _) ?_
                  refine lv_istore_n (lv' := [(2, .int (nI ((OQ (A 9) (¬ b = 0) i) + 0))), (6, .int (nI (csN (¬ b = 0) i))), (5, .int (nI (i % 6))), (4, .int (nI (i / 6))), (0, .ref (xa x 102)), (1, .int b), (3, .int (nI i))]) hx hb dX7_snake_115 rfl hl (by decide) rfl (fun ls hl => ?_)
                  refine lv_iinc (v := nI (i + 1)) (lv' := [(3, .int (nI (i + 1))), (2, .int (nI ((OQ (A 9) (¬ b = 0) i) + 0))), (6, .int (nI (csN (¬ b = 0) i))), (5, .int (nI (i % 6))), (4, .int (nI (i / 6))), (0, .ref (xa x 102)), (1, .int b)]) hx hb dX7_snake_116 hl (k := 6) rfl (nI_inc _) (by decide) rfl (fun ls hl => ?_)
                  refine lv_goto (tgt := 14) hx hb dX7_snake_119 (by decide) ?_
                  exact ih_4 (i + 1) (zu ar1 108 (zu (ar1 108) (csN (¬ b = 0) i) (-1))) (by omega) (by omega) (fun k hk => by
                        rw [zu_s]
                        by_cases e : k = i
                        · rw [e, zu_s]; unfold plV; rw [iz_f c_41]
                        · rw [zu_n _ _ (fun q => e (csN_inj _ (by omega) (by omega) q))]; exact h1 k (by omega)) (fun q hq => by rw [zu_n _ _ hq]; exact h3 q hq) _ _ _ hs (lvr (lv_at hl 5 rfl) (lvr (lv_at hl 6 rfl) (lvc (lv_at hl 1 rfl) (by rw [Nat.add_zero, show OQ (A 9) (¬ b = 0) (i + 1) = OQ (A 9) (¬ b = 0) i from ct_f (P := fun j => A 9 (csN (¬ b = 0) j) = -1) c_41]) (lvr (lv_at hl 0 rfl) (lvn hl)))))
                · have c_44 : A 9 (csN (¬ b = 0) i) = -1 := bz_1 c_44
                  exact absurd c_44 c_41
              · have c_41 : A 9 (csN (¬ b = 0) i) = -1 := bz_1 c_41
                refine lv_iload_n hx hb dX7_snake_88 rfl (lv_at hl 5 rfl) ?_
                refine lv_aload_n hx hb dX7_snake_89 rfl (lv_at hl 3 rfl) ?_
                refine zVP E hs lkX7_55 [.int (nI (OQ (A 9) (¬ b = 0) i)), .int (nI (csN (¬ b = 0) i)), .ref (xa x 108)] (c_X7_size l x ar1 fd A B w f (by rw [h3 103 (by decide)]; exact hM)) (by decide) (sh6 rfl) rfl ⟨Nat.le_of_ble_eq_true rfl, Nat.le_of_ble_eq_true rfl⟩ rfl hl.1 (Nat.le_of_ble_eq_true rfl) rfl dX7_snake_90 (fun r_45 H locs hp_46 hs => ?_)
                subst hp_46
                refine lv_idiv hx hb dX7_snake_93 (nI_ne0 (by omega) (by omega)) ?_
                refine tp (b := nI ((OQ (A 9) (¬ b = 0) i) / (36 / w))) (nI_div (by omega) (by omega)) ?_
                refine lv_goto (tgt := 98) hx hb dX7_snake_94 (by decide) ?_
                refine zast E hs 108 (n := 36) (j := (csN (¬ b = 0) i)) rfl rfl (by omega) (by decide) dX7_snake_98 (fun H locs hs => ?_)
                refine lv_iload_n hx hb dX7_snake_99 rfl (lv_at hl 5 rfl) ?_
                refine lv_aload_n hx hb dX7_snake_100 rfl (lv_at hl 3 rfl) ?_
                refine lv_iload hx hb dX7_snake_101 (lv_at hl 0 rfl) ?_
                refine zVP E hs lkX7_74 [.int (nI (OQ (A 9) (¬ b = 0) i))] (c_X7_isOpen l x (zu ar1 108 (zu (ar1 108) (csN (¬ b = 0) i) (nI ((OQ (A 9) (¬ b = 0) i) / (36 / w))))) fd A B w f (by rw [zu_n _ _ (by decide), h3 103 (by decide)]; exact hM) (csN (¬ b = 0) i) (by omega)) (by decide) (sh6 rfl) rfl ⟨Nat.le_of_ble_eq_true rfl, Nat.le_of_ble_eq_true rfl⟩ rfl hl.1 (Nat.le_of_ble_eq_true rfl) rfl dX7_snake_103 (fun r_47 H locs hp_48 hs => ?_)
                subst hp_48
                refine lv_if_eq (tgt := 113) hx hb dX7_snake_106 (by decide) (fun c_49 => ?_) (fun c_49 => ?_)
                · have c_49 : ¬ (A 9 (csN (¬ b = 0) i) = -1) := bz_0 c_49
                  exact absurd c_41 c_49
                · have c_49 : A 9 (csN (¬ b = 0) i) = -1 := bz_1 c_49
                  refine lv_iconst (v := nI 1) hx hb dX7_snake_109 (by decide) ?_
                  refine lv_goto (tgt := 114) hx hb dX7_snake_110 (by decide) ?_
                  refine lv_iadd hx hb dX7_snake_114 ?_
                  refine tp (b := nI ((OQ (A 9) (¬ b = 0) i) + 1)) (nI_add _ _) ?_
                  refine lv_istore_n (lv' := [(2, .int (nI ((OQ (A 9) (¬ b = 0) i) + 1))), (6, .int (nI (csN (¬ b = 0) i))), (5, .int (nI (i % 6))), (4, .int (nI (i / 6))), (0, .ref (xa x 102)), (1, .int b), (3, .int (nI i))]) hx hb dX7_snake_115 rfl hl (by decide) rfl (fun ls hl => ?_)
                  refine lv_iinc (v := nI (i + 1)) (lv' := [(3, .int (nI (i + 1))), (2, .int (nI ((OQ (A 9) (¬ b = 0) i) + 1))), (6, .int (nI (csN (¬ b = 0) i))), (5, .int (nI (i % 6))), (4, .int (nI (i / 6))), (0, .ref (xa x 102)), (1, .int b)]) hx hb dX7_snake_116 hl (k := 6) rfl (nI_inc _) (by decide) rfl (fun ls hl => ?_)
                  refine lv_goto (tgt := 14) hx hb dX7_snake_119 (by decide) ?_
                  exact ih_4 (i + 1) (zu ar1 108 (zu (ar1 108) (csN (¬ b = 0) i) (nI ((OQ (A 9) (¬ b = 0) i) / (36 / w))))) (by omega) (by omega) (fun k hk => by
                        rw [zu_s]
                        by_cases e : k = i
                        · rw [e, zu_s]; unfold plV; rw [iz_t c_41]
                        · rw [zu_n _ _ (fun q => e (csN_inj _ (by omega) (by omega) q))]; exact h1 k (by omega)) (fun q hq => by rw [zu_n _ _ hq]; exact h3 q hq) _ _ _ hs (lvr (lv_at hl 5 rfl) (lvr (lv_at hl 6 rfl) (lvc (lv_at hl 1 rfl) (by rw [show OQ (A 9) (¬ b = 0) (i + 1) = OQ (A 9) (¬ b = 0) i + 1 from ct_t (P := fun j => A 9 (csN (¬ b = 0) j) = -1) c_41]) (lvr (lv_at hl 0 rfl) (lvn hl)))))
            · refine lv_bipush (v := nI 6) hx hb dX7_snake_52 (by decide) ?_
              refine lv_iload hx hb dX7_snake_54 (lv_at hl 0 rfl) ?_
              refine lv_imul hx hb dX7_snake_56 ?_
              refine tp (b := nI (6 * (i % 6))) (nI_mul _ _) ?_
              refine lv_iload hx hb dX7_snake_57 (lv_at hl 1 rfl) ?_
              refine lv_iadd hx hb dX7_snake_59 ?_
              refine tp (b := nI ((6 * (i % 6)) + (i / 6))) (nI_add _ _) ?_
              refine lv_goto (tgt := 71) hx hb dX7_snake_60 (by decide) ?_
              refine tp (b := nI (csN (¬ b = 0) i)) (congrArg nI (sn_01 (B := ¬ b = 0) c_14 c_38)) ?_
              obtain ⟨hcs, -, -, -⟩ := csN_36 (¬ b = 0) (show i < 36 by omega)
              refine lv_istore (lv' := [(6, .int (nI (csN (¬ b = 0) i))), (5, .int (nI (i % 6))), (4, .int (nI (i / 6))), (0, .ref (xa x 102)), (1, .int b), (2, .int (nI (OQ (A 9) (¬ b = 0) i))), (3, .int (nI i))]) hx hb dX7_snake_71 hl (by decide) rfl (fun ls hl => ?_)
              refine lv_aload_n hx hb dX7_snake_73 rfl (lv_at hl 3 rfl) ?_
              refine zg6 E hs (k := 102) rfl 9 (by decide) rfl q_523 dX7_snake_74 ?_
              refine lv_iload hx hb dX7_snake_77 (lv_at hl 0 rfl) ?_
              refine lv_aload_n hx hb dX7_snake_79 rfl (lv_at hl 3 rfl) ?_
              refine lv_iload hx hb dX7_snake_80 (lv_at hl 0 rfl) ?_
              refine zVP E hs lkX7_74 [.int (nI (csN (¬ b = 0) i)), .ref (xa x 108)] (c_X7_isOpen l x ar1 fd A B w f (by rw [h3 103 (by decide)]; exact hM) (csN (¬ b = 0) i) (by omega)) (by decide) (sh6 rfl) rfl ⟨Nat.le_of_ble_eq_true rfl, Nat.le_of_ble_eq_true rfl⟩ rfl hl.1 (Nat.le_of_ble_eq_true rfl) rfl dX7_snake_82 (fun r_50 H locs hp_51 hs => ?_)
              subst hp_51
              refine lv_if_eq (tgt := 97) hx hb dX7_snake_85 (by decide) (fun c_52 => ?_) (fun c_52 => ?_)
              · have c_52 : ¬ (A 9 (csN (¬ b = 0) i) = -1) := bz_0 c_52
                refine lv_iconst (v := (-1)) hx hb dX7_snake_97 (by decide) ?_
                refine zast E hs 108 (n := 36) (j := (csN (¬ b = 0) i)) rfl rfl (by omega) (by decide) dX7_snake_98 (fun H locs hs => ?_)
                refine lv_iload_n hx hb dX7_snake_99 rfl (lv_at hl 5 rfl) ?_
                refine lv_aload_n hx hb dX7_snake_100 rfl (lv_at hl 3 rfl) ?_
                refine lv_iload hx hb dX7_snake_101 (lv_at hl 0 rfl) ?_
                refine zVP E hs lkX7_74 [.int (nI (OQ (A 9) (¬ b = 0) i))] (c_X7_isOpen l x (zu ar1 108 (zu (ar1 108) (csN (¬ b = 0) i) (-1))) fd A B w f (by rw [zu_n _ _ (by decide), h3 103 (by decide)]; exact hM) (csN (¬ b = 0) i) (by omega)) (by decide) (sh6 rfl) rfl ⟨Nat.le_of_ble_eq_true rfl, Nat.le_of_ble_eq_true rfl⟩ rfl hl.1 (Nat.le_of_ble_eq_true rfl) rfl dX7_snake_103 (fun r_53 H locs hp_54 hs => ?_)
                subst hp_54
                refine lv_if_eq (tgt := 113) hx hb dX7_snake_106 (by decide) (fun c_55 => ?_) (fun c_55 => ?_)
                · have c_55 : ¬ (A 9 (csN (¬ b = 0) i) = -1) := bz_0 c_55
                  refine lv_iconst (v := nI 0) hx hb dX7_snake_113 (by decide) ?_
                  refine lv_iadd hx hb dX7_snake_114 ?_
                  refine tp (b := nI ((OQ (A 9) (¬ b = 0) i) + 0)) (nI_add _ _) ?_
                  refine lv_istore_n (lv' := [(2, .int (nI ((OQ (A 9) (¬ b = 0) i) + 0))), (6, .int (nI (csN (¬ b = 0) i))), (5, .int (nI (i % 6))), (4, .int (nI (i / 6))), (0, .ref (xa x 102)), (1, .int b), (3, .int (nI i))]) hx hb dX7_snake_115 rfl hl (by decide) rfl (fun ls hl => ?_)
                  refine lv_iinc (v := nI (i + 1)) (lv' := [(3, .int (nI (i + 1))), (2, .int (nI ((OQ (A 9) (¬ b = 0) i) + 0))), (6, .int (nI (csN (¬ b = 0) i))), (5, .int (nI (i % 6))), (4, .int (nI (i / 6))), (0, .ref (xa x 102)), (1, .int b)]) hx hb dX7_snake_116 hl (k := 6) rfl (nI_inc _) (by decide) rfl (fun ls hl => ?_)
                  refine lv_goto (tgt := 14) hx hb dX7_snake_119 (by decide) ?_
                  exact ih_4 (i + 1) (zu ar1 108 (zu (ar1 108) (csN (¬ b = 0) i) (-1))) (by omega) (by omega) (fun k hk => by
                        rw [zu_s]
                        by_cases e : k = i
                        · rw [e, zu_s]; unfold plV; rw [iz_f c_52]
                        · rw [zu_n _ _ (fun q => e (csN_inj _ (by omega) (by omega) q))]; exact h1 k (by omega)) (fun q hq => by rw [zu_n _ _ hq]; exact h3 q hq) _ _ _ hs (lvr (lv_at hl 5 rfl) (lvr (lv_at hl 6 rfl) (lvc (lv_at hl 1 rfl) (by rw [Nat.add_zero, show OQ (A 9) (¬ b = 0) (i + 1) = OQ (A 9) (¬ b = 0) i from ct_f (P := fun j => A 9 (csN (¬ b = 0) j) = -1) c_52]) (lvr (lv_at hl 0 rfl) (lvn hl)))))
                · have c_55 : A 9 (csN (¬ b = 0) i) = -1 := bz_1 c_55
                  exact absurd c_55 c_52
              · have c_52 : A 9 (csN (¬ b = 0) i) = -1 := bz_1 c_52
                refine lv_iload_n hx hb dX7_snake_88 rfl (lv_at hl 5 rfl) ?_
                refine lv_aload_n hx hb dX7_snake_89 rfl (lv_at hl 3 rfl) ?_
                refine zVP E hs lkX7_55 [.int (nI (OQ (A 9) (¬ b = 0) i)), .int (nI (csN (¬ b = 0) i)), .ref (xa x 108)] (c_X7_size l x ar1 fd A B w f (by rw [h3 103 (by decide)]; exact hM)) (by decide) (sh6 rfl) rfl ⟨Nat.le_of_ble_eq_true rfl, Nat.le_of_ble_eq_true rfl⟩ rfl hl.1 (Nat.le_of_ble_eq_true rfl) rfl dX7_snake_90 (fun r_56 H locs hp_57 hs => ?_)
                subst hp_57
                refine lv_idiv hx hb dX7_snake_93 (nI_ne0 (by omega) (by omega)) ?_
                refine tp (b := nI ((OQ (A 9) (¬ b = 0) i) / (36 / w))) (nI_div (by omega) (by omega)) ?_
                refine lv_goto (tgt := 98) hx hb dX7_snake_94 (by decide) ?_
                refine zast E hs 108 (n := 36) (j := (csN (¬ b = 0) i)) rfl rfl (by omega) (by decide) dX7_snake_98 (fun H locs hs => ?_)
                refine lv_iload_n hx hb dX7_snake_99 rfl (lv_at hl 5 rfl) ?_
                refine lv_aload_n hx hb dX7_snake_100 rfl (lv_at hl 3 rfl) ?_
                refine lv_iload hx hb dX7_snake_101 (lv_at hl 0 rfl) ?_
                refine zVP E hs lkX7_74 [.int (nI (OQ (A 9) (¬ b = 0) i))] (c_X7_isOpen l x (zu ar1 108 (zu (ar1 108) (csN (¬ b = 0) i) (nI ((OQ (A 9) (¬ b = 0) i) / (36 / w))))) fd A B w f (by rw [zu_n _ _ (by decide), h3 103 (by decide)]; exact hM) (csN (¬ b = 0) i) (by omega)) (by decide) (sh6 rfl) rfl ⟨Nat.le_of_ble_eq_true rfl, Nat.le_of_ble_eq_true rfl⟩ rfl hl.1 (Nat.le_of_ble_eq_true rfl) rfl dX7_snake_103 (fun r_58 H locs hp_59 hs => ?_)
                subst hp_59
                refine lv_if_eq (tgt := 113) hx hb dX7_snake_106 (by decide) (fun c_60 => ?_) (fun c_60 => ?_)
                · have c_60 : ¬ (A 9 (csN (¬ b = 0) i) = -1) := bz_0 c_60
                  exact absurd c_52 c_60
                · have c_60 : A 9 (csN (¬ b = 0) i) = -1 := bz_1 c_60
                  refine lv_iconst (v := nI 1) hx hb dX7_snake_109 (by decide) ?_
                  refine lv_goto (tgt := 114) hx hb dX7_snake_110 (by decide) ?_
                  refine lv_iadd hx hb dX7_snake_114 ?_
                  refine tp (b := nI ((OQ (A 9) (¬ b = 0) i) + 1)) (nI_add _ _) ?_
                  refine lv_istore_n (lv' := [(2, .int (nI ((OQ (A 9) (¬ b = 0) i) + 1))), (6, .int (nI (csN (¬ b = 0) i))), (5, .int (nI (i % 6))), (4, .int (nI (i / 6))), (0, .ref (xa x 102)), (1, .int b), (3, .int (nI i))]) hx hb dX7_snake_115 rfl hl (by decide) rfl (fun ls hl => ?_)
                  refine lv_iinc (v := nI (i + 1)) (lv' := [(3, .int (nI (i + 1))), (2, .int (nI ((OQ (A 9) (¬ b = 0) i) + 1))), (6, .int (nI (csN (¬ b = 0) i))), (5, .int (nI (i % 6))), (4, .int (nI (i / 6))), (0, .ref (xa x 102)), (1, .int b)]) hx hb dX7_snake_116 hl (k := 6) rfl (nI_inc _) (by decide) rfl (fun ls hl => ?_)
                  refine lv_goto (tgt := 14) hx hb dX7_snake_119 (by decide) ?_
                  exact ih_4 (i + 1) (zu ar1 108 (zu (ar1 108) (csN (¬ b = 0) i) (nI ((OQ (A 9) (¬ b = 0) i) / (36 / w))))) (by omega) (by omega) (fun k hk => by
                        rw [zu_s]
                        by_cases e : k = i
                        · rw [e, zu_s]; unfold plV; rw [iz_t c_52]
                        · rw [zu_n _ _ (fun q => e (csN_inj _ (by omega) (by omega) q))]; exact h1 k (by omega)) (fun q hq => by rw [zu_n _ _ hq]; exact h3 q hq) _ _ _ hs (lvr (lv_at hl 5 rfl) (lvr (lv_at hl 6 rfl) (lvc (lv_at hl 1 rfl) (by rw [show OQ (A 9) (¬ b = 0) (i + 1) = OQ (A 9) (¬ b = 0) i + 1 from ct_t (P := fun j => A 9 (csN (¬ b = 0) j) = -1) c_52]) (lvr (lv_at hl 0 rfl) (lvn hl)))))
    exact L_4 (_ + 1) 0 ar (Nat.lt_succ_self _) (by omega) (fun _ h => absurd h (Nat.not_lt_zero _)) (fun _ _ => rfl) _ _ _ hs (lvr (lv_at hl 2 rfl) (lvr (lv_at hl 3 rfl) (lvc (lv_at hl 1 rfl) rfl (lvr (lv_at hl 0 rfl) (lvn hl)))))
  · have c_3 : ¬ (B 1 10 = 0) := bz_1 c_3
    refine lv_bipush (v := (-4)) hx hb dX7_snake_7 (by decide) ?_
    exact zeI E hs (Or.inl ⟨c_3, rfl, rfl, rfl⟩) dX7_snake_9

set_option maxHeartbeats 4000000 in
set_option maxRecDepth 100000 in
/-- adopt -/
theorem c_X7_adopt (l : Launch) (x : CT) (ar fd A B : AR) (w f : Nat) (hM : ME (ar 103) A (B 1) w f) (z : Nat) (hz : fd 102 3 = nI z) (hz4 : z ≤ 4) (hL : B 1 10 = 0 → (∀ c, c < 36 → ar 103 (151 + c) = A 11 c) ∧ (ar 103 78 = 0 ↔ f = 0)) : CI l yX7_adopt cX7_adopt 2 (some .int) 2 43 x [.ref (xa x 102)] ar fd (fun r ar' fd' => (¬ B 1 10 = 0 ∧ r = -4 ∧ ar' = ar ∧ fd' = fd) ∨ (B 1 10 = 0 ∧ f = 0 ∧ r = -4 ∧ ar' = ar ∧ fd' = fd) ∨ (B 1 10 = 0 ∧ ¬ f = 0 ∧ (∀ j, j < 36 → A 11 j = A 7 j) ∧ r = -5 ∧ JS ar ar' ∧ fd' = fd) ∨ (B 1 10 = 0 ∧ ¬ f = 0 ∧ ¬ (∀ j, j < 36 → A 11 j = A 7 j) ∧ r = nI (w - f) ∧ JS (zu (rcA ar z) 103 (bl (ar 103) 79 36 (A 11))) ar' ∧ fd' = rcF fd z)) := by
  refine zsI (own := RX7) rfl (by decide +kernel) (Nat.le_of_ble_eq_true rfl) ?_
  intro p e s m below meth c ls E hs hl
  have hx := E.1
  have hb := E.2.1
  have hl : lv_has ls 2 [(0, .ref (xa x 102))] := hl
  obtain ⟨hE1, hE2, hE3, hE4, hE5, hE6, hE7, hEw, hEf, hEc, hEs, hfw, hw9, hw2, hP, hD⟩ := id hM
  refine lv_aload_n hx hb dX7_adopt_0 rfl (lv_at hl 0 rfl) ?_
  refine zVP E hs lkX7_87 [] (c_X7_noDraft l x ar fd A B w f hM) (by decide) (sh6 rfl) rfl ⟨Nat.le_of_ble_eq_true rfl, Nat.le_of_ble_eq_true rfl⟩ rfl hl.1 (Nat.le_of_ble_eq_true rfl) rfl dX7_adopt_1 (fun r_1 H locs hp_2 hs => ?_)
  subst hp_2
  refine lv_if_ne (tgt := 17) hx hb dX7_adopt_4 (by decide) (fun c_3 => ?_) (fun c_3 => ?_)
  · have c_3 : ¬ (B 1 10 = 0) := bz_1 c_3
    refine lv_bipush (v := (-4)) hx hb dX7_adopt_17 (by decide) ?_
    exact zeI E hs (Or.inl ⟨c_3, rfl, rfl, rfl⟩) dX7_adopt_19
  · have c_3 : ¬ (¬ (B 1 10 = 0)) := bz_0 c_3
    refine lv_aload_n hx hb dX7_adopt_7 rfl (lv_at hl 0 rfl) ?_
    refine zg6 E hs (k := 102) rfl 0 (by decide) rfl q_514 dX7_adopt_8 ?_
    refine lv_bipush (v := nI 78) hx hb dX7_adopt_11 (by decide) ?_
    refine zald E hs 103 (n := 196) (j := 78) rfl rfl (by omega) (by decide) dX7_adopt_13 ?_
    refine lv_if_ne (tgt := 20) hx hb dX7_adopt_14 (by decide) (fun c_4 => ?_) (fun c_4 => ?_)
    · refine lv_iconst (v := nI 0) hx hb dX7_adopt_20 (by decide) ?_
      refine lv_istore_n (lv' := [(1, .int (nI 0)), (0, .ref (xa x 102))]) hx hb dX7_adopt_21 rfl hl (by decide) rfl (fun ls hl => ?_)
      have L_5 : ∀ (mm : Nat) (i : Nat), (36 - i) < mm → (i ≤ 36) → ∀ (H : Heap) (locs : List Loc) (ls : Array Slot), ST x (AA x) s.heap (zu ar 108 (bl (ar 108) 0 i (fun k => ar 103 (151 + k)))) fd H locs → lv_has ls 2 [(0, .ref (xa x 102)), (1, .int (nI i))] → W p l e (rmZ 2 43) s m ([.ref (xa x 102)] : List Value).toArray below meth c H locs 0 0 (QI below x [.ref (xa x 102)] s (fun r ar' fd' => (¬ B 1 10 = 0 ∧ r = -4 ∧ ar' = ar ∧ fd' = fd) ∨ (B 1 10 = 0 ∧ f = 0 ∧ r = -4 ∧ ar' = ar ∧ fd' = fd) ∨ (B 1 10 = 0 ∧ ¬ f = 0 ∧ (∀ j, j < 36 → A 11 j = A 7 j) ∧ r = -5 ∧ JS ar ar' ∧ fd' = fd) ∨ (B 1 10 = 0 ∧ ¬ f = 0 ∧ ¬ (∀ j, j < 36 → A 11 j = A 7 j) ∧ r = nI (w - f) ∧ JS (zu (rcA ar z) 103 (bl (ar 103) 79 36 (A 11))) ar' ∧ fd' = rcF fd z))) (F0 m 22 ls []) := by
        intro mm
        induction mm with
        | zero => intro i hmu; exact absurd hmu (Nat.not_lt_zero _)
        | succ mm ih_5 =>
          intro i hmu hi H locs ls hs hl
          refine lv_iload_n hx hb dX7_adopt_22 rfl (lv_at hl 1 rfl) ?_
          refine lv_bipush (v := nI 36) hx hb dX7_adopt_23 (by decide) ?_
          refine lv_icmp_ge (tgt := 50) hx hb dX7_adopt_25 (by decide) (fun c_6 => ?_) (fun c_6 => ?_)
          · have c_6 : 36 ≤ i := (nI_leI (a := 36) (b := i) (by omega) (by omega)).mp c_6
            have hi36 : i = 36 := by omega
            subst hi36
            have hA : ∀ q, q ≠ 108 → (zu ar 108 (bl (ar 108) 0 36 (fun k => ar 103 (151 + k)))) q = ar q := fun q hq => zu_n _ _ hq
            have hT : ∀ j, j < 36 → (zu ar 108 (bl (ar 108) 0 36 (fun k => ar 103 (151 + k)))) 108 j = A 11 j := fun j hj => by
              rw [zu_s, show j = 0 + j by omega, bl_in (by omega), Nat.zero_add]; exact (hL (Classical.not_not.mp c_3)).1 j hj
            refine lv_aload_n hx hb dX7_adopt_50 rfl (lv_at hl 0 rfl) ?_
            refine zVI E hs lkX7_94 [] (c_X7_take l x (zu ar 108 (bl (ar 108) 0 36 (fun k => ar 103 (151 + k)))) fd z hz hz4) (by decide) (sh6 rfl) rfl ⟨Nat.le_of_ble_eq_true rfl, Nat.le_of_ble_eq_true rfl⟩ rfl hl.1 (Nat.le_of_ble_eq_true rfl) rfl dX7_adopt_51 (fun r_7 arr_7 fdr_7 H locs hp_8 hs => ?_)
            rcases hp_8 with ⟨t_91, t_92, t_93, t_94⟩ | ⟨t_91, t_92, t_93, t_94⟩
            · rw [t_93, t_94] at hs
              refine tp (b := nI 0) t_92 ?_
              refine lv_if_eq (tgt := 64) hx hb dX7_adopt_54 (by decide) (fun _ => ?_) (fun h => absurd h (by decide))
              refine lv_bipush (v := (-5)) hx hb dX7_adopt_64 (by decide) ?_
              exact zeI E hs (Or.inr (Or.inr (Or.inl ⟨(Classical.not_not.mp c_3), (fun q => c_4 ((hL (Classical.not_not.mp c_3)).2.mpr q)), fun j hj => ((hT j hj).symm.trans (t_91 j hj).symm).trans ((congrFun (hA 103 (by decide)) _).trans (hE3 j hj)), rfl, tkN (T := A 11) hA, rfl⟩))) dX7_adopt_66
            · rw [t_93, t_94] at hs
              refine tp (b := nI 1) t_92 ?_
              refine lv_if_eq (tgt := 64) hx hb dX7_adopt_54 (by decide) (fun h => absurd h (by decide)) (fun _ => ?_)
              refine lv_aload_n hx hb dX7_adopt_57 rfl (lv_at hl 0 rfl) ?_
              refine zVP E hs lkX7_77 [] (c_X7_leftW l x (zu (rcA (zu ar 108 (bl (ar 108) 0 36 (fun k => ar 103 (151 + k)))) z) 103 (bl ((zu ar 108 (bl (ar 108) 0 36 (fun k => ar 103 (151 + k)))) 103) 79 36 ((zu ar 108 (bl (ar 108) 0 36 (fun k => ar 103 (151 + k)))) 108))) (rcF fd z) w f (by rw [zu_s, bl_o (by decide), zu_n _ _ (by decide)]; exact hEw) (by rw [zu_s, bl_o (by decide), zu_n _ _ (by decide)]; exact hEf) hfw) (by decide) (sh6 rfl) rfl ⟨Nat.le_of_ble_eq_true rfl, Nat.le_of_ble_eq_true rfl⟩ rfl hl.1 (Nat.le_of_ble_eq_true rfl) rfl dX7_adopt_58 (fun r_12 H locs hp_13 hs => ?_)
              subst hp_13
              refine lv_goto (tgt := 66) hx hb dX7_adopt_61 (by decide) ?_
              exact zeI E hs (Or.inr (Or.inr (Or.inr ⟨(Classical.not_not.mp c_3), (fun q => c_4 ((hL (Classical.not_not.mp c_3)).2.mpr q)), (fun q => t_91 (fun j hj => ((congrFun (hA 103 (by decide)) _).trans (hE3 j hj)).trans ((q j hj).symm.trans (hT j hj).symm))), rfl, tkS hA hT (JM.rf _), rfl⟩))) dX7_adopt_66
          · have c_6 : ¬ (36 ≤ i) := fun h => c_6 ((nI_leI (a := 36) (b := i) (by omega) (by omega)).mpr h)
            refine lv_aload_n hx hb dX7_adopt_28 rfl (lv_at hl 0 rfl) ?_
            refine zg6 E hs (k := 102) rfl 9 (by decide) rfl q_523 dX7_adopt_29 ?_
            refine lv_iload_n hx hb dX7_adopt_32 rfl (lv_at hl 1 rfl) ?_
            refine lv_aload_n hx hb dX7_adopt_33 rfl (lv_at hl 0 rfl) ?_
            refine zg6 E hs (k := 102) rfl 0 (by decide) rfl q_514 dX7_adopt_34 ?_
            refine lv_sipush (v := nI 151) hx hb dX7_adopt_37 (by decide) ?_
            refine lv_iload_n hx hb dX7_adopt_40 rfl (lv_at hl 1 rfl) ?_
            refine lv_iadd hx hb dX7_adopt_41 ?_
            refine tp (b := nI (151 + i)) (nI_add _ _) ?_
            refine zald E hs 103 (n := 196) (j := (151 + i)) rfl rfl (by omega) (by decide) dX7_adopt_42 ?_
            refine tp (b := ar 103 (151 + i)) (congrFun (zu_n _ _ (by decide)) _) ?_
            refine zast E hs 108 (n := 36) (j := i) rfl rfl (by omega) (by decide) dX7_adopt_43 (fun H locs hs => ?_)
            refine lv_iinc (v := nI (i + 1)) (lv' := [(1, .int (nI (i + 1))), (0, .ref (xa x 102))]) hx hb dX7_adopt_44 hl (k := 1) rfl (nI_inc _) (by decide) rfl (fun ls hl => ?_)
            refine lv_goto (tgt := 22) hx hb dX7_adopt_47 (by decide) ?_
            exact ih_5 (i + 1) (by omega) (by omega) _ _ _ (by rw [zb0 (h := (fun k => ar 103 (151 + k))) rfl] at hs; exact hs) (lvr (lv_at hl 1 rfl) (lvr (lv_at hl 0 rfl) (lvn hl)))
      exact L_5 (_ + 1) 0 (Nat.lt_succ_self _) (by omega) _ _ _ (by rw [bl_0, zu_id]; exact hs) (lvr (lv_at hl 1 rfl) (lvr (lv_at hl 0 rfl) (lvn hl)))
    · refine lv_bipush (v := (-4)) hx hb dX7_adopt_17 (by decide) ?_
      exact zeI E hs (Or.inr (Or.inl ⟨(Classical.not_not.mp c_3), (hL (Classical.not_not.mp c_3)).2.mp c_4, rfl, rfl, rfl⟩)) dX7_adopt_19

set_option maxHeartbeats 4000000 in
set_option maxRecDepth 100000 in
/-- propose -/
theorem c_X7_propose (l : Launch) (x : CT) (ar fd A B : AR) (w f : Nat) (hM : ME (ar 103) A (B 1) w f) (z : Nat) (hz : fd 102 3 = nI z) (hz4 : z ≤ 4) : CI l yX7_propose cX7_propose 2 (some .int) 5 114 x [.ref (xa x 102)] ar fd (fun r ar' fd' => (¬ B 1 10 = 0 ∧ r = -4 ∧ ar' = ar ∧ fd' = fd) ∨ (B 1 10 = 0 ∧ ¬ rsnA A w f = nI 0 ∧ r = (-10) - rsnA A w f ∧ JM ar ar' ∧ fd' = fd) ∨ (B 1 10 = 0 ∧ rsnA A w f = nI 0 ∧ r = nI (w - f) ∧ JM (zu (rcA ar z) 103 (zu (ar 103) 75 (nI 1))) ar' ∧ fd' = rcF fd z)) := by
  refine zsI (own := RX7) rfl (by decide +kernel) (Nat.le_of_ble_eq_true rfl) ?_
  intro p e s m below meth c ls E hs hl
  have hx := E.1
  have hb := E.2.1
  have hl : lv_has ls 2 [(0, .ref (xa x 102))] := hl
  obtain ⟨hE1, hE2, hE3, hE4, hE5, hE6, hE7, hEw, hEf, hEc, hEs, hfw, hw9, hw2, hP, hD⟩ := id hM
  refine lv_aload_n hx hb dX7_propose_0 rfl (lv_at hl 0 rfl) ?_
  refine zVP E hs lkX7_87 [] (c_X7_noDraft l x ar fd A B w f hM) (by decide) (sh6 rfl) rfl ⟨Nat.le_of_ble_eq_true rfl, Nat.le_of_ble_eq_true rfl⟩ rfl hl.1 (Nat.le_of_ble_eq_true rfl) rfl dX7_propose_1 (fun r_1 H locs hp_2 hs => ?_)
  subst hp_2
  refine lv_if_eq (tgt := 10) hx hb dX7_propose_4 (by decide) (fun c_3 => ?_) (fun c_3 => ?_)
  · have c_3 : ¬ (¬ (B 1 10 = 0)) := bz_0 c_3
    refine lv_aload_n hx hb dX7_propose_10 rfl (lv_at hl 0 rfl) ?_
    refine zVI E hs lkX7_91 [] (c_X7_reason l x ar fd A B w f hM) (by decide) (sh6 rfl) rfl ⟨Nat.le_of_ble_eq_true rfl, Nat.le_of_ble_eq_true rfl⟩ rfl hl.1 (Nat.le_of_ble_eq_true rfl) rfl dX7_propose_11 (fun r_4 arr_4 fdr_4 H locs hp_5 hs => ?_)
    rw [hp_5.2.2] at hs
    have hJ_r_4 := hp_5.2.1
    refine tp (b := nI (rmN A w f)) hp_5.1 ?_
    have hrm_r_4 := rm_all (w := w) (f := f) A hw9
    have hrl_r_4 := hrm_r_4.1
    refine lv_bipush (v := nI 10) hx hb dX7_propose_14 (by decide) ?_
    refine lv_irem hx hb dX7_propose_16 (by decide) ?_
    refine tp (b := nI ((rmN A w f) % 10)) (nI_rem (by omega) (by omega)) ?_
    refine lv_istore_n (lv' := [(1, .int (nI ((rmN A w f) % 10))), (0, .ref (xa x 102))]) hx hb dX7_propose_17 rfl hl (by decide) rfl (fun ls hl => ?_)
    refine lv_iload_n hx hb dX7_propose_18 rfl (lv_at hl 0 rfl) ?_
    refine lv_if_le (tgt := 27) hx hb dX7_propose_19 (by decide) (fun c_6 => ?_) (fun c_6 => ?_)
    · have c_6 : (rmN A w f) % 10 ≤ 0 := (nI_leI (a := (rmN A w f) % 10) (b := 0) (by omega) (by omega)).mp c_6
      refine lv_aload_n hx hb dX7_propose_27 rfl (lv_at hl 1 rfl) ?_
      refine zVV E hs lkX7_48 [] (c_X7_record l x arr_4 fd z hz hz4) (by decide) (sh6 rfl) rfl ⟨Nat.le_of_ble_eq_true rfl, Nat.le_of_ble_eq_true rfl⟩ rfl hl.1 (Nat.le_of_ble_eq_true rfl) rfl dX7_propose_28 (fun arr_7 fdr_7 H locs hp_8 hs => ?_)
      rw [hp_8.1, hp_8.2] at hs
      refine lv_aload_n hx hb dX7_propose_31 rfl (lv_at hl 1 rfl) ?_
      refine zg6 E hs (k := 102) rfl 0 (by decide) rfl q_514 dX7_propose_32 ?_
      refine lv_bipush (v := nI 75) hx hb dX7_propose_35 (by decide) ?_
      refine lv_iconst (v := nI 1) hx hb dX7_propose_37 (by decide) ?_
      refine zast E hs 103 (n := 196) (j := 75) rfl rfl (by omega) (by decide) dX7_propose_38 (fun H locs hs => ?_)
      refine lv_aload_n hx hb dX7_propose_39 rfl (lv_at hl 1 rfl) ?_
      refine zVP E hs lkX7_77 [] (c_X7_leftW l x (zu (rcA arr_4 z) 103 (zu ((rcA arr_4 z) 103) 75 (nI 1))) (rcF fd z) w f (by rw [zu_s, zu_n _ _ (by decide), rcA_n (by decide), hJ_r_4 103 (by decide)]; exact hEw) (by rw [zu_s, zu_n _ _ (by decide), rcA_n (by decide), hJ_r_4 103 (by decide)]; exact hEf) hfw) (by decide) (sh6 rfl) rfl ⟨Nat.le_of_ble_eq_true rfl, Nat.le_of_ble_eq_true rfl⟩ rfl hl.1 (Nat.le_of_ble_eq_true rfl) rfl dX7_propose_40 (fun r_9 H locs hp_10 hs => ?_)
      subst hp_10
      exact zeI E hs (Or.inr (Or.inr ⟨(Classical.not_not.mp c_3), hrm_r_4.2.1.symm.trans (by rw [show rmN A w f % 10 = 0 by omega]), rfl, rcA_JM hJ_r_4, rfl⟩)) dX7_propose_43
    · have c_6 : ¬ ((rmN A w f) % 10 ≤ 0) := fun h => c_6 ((nI_leI (a := (rmN A w f) % 10) (b := 0) (by omega) (by omega)).mpr h)
      refine lv_bipush (v := (-10)) hx hb dX7_propose_22 (by decide) ?_
      refine lv_iload_n hx hb dX7_propose_24 rfl (lv_at hl 0 rfl) ?_
      refine lv_isub hx hb dX7_propose_25 ?_
      exact zeI E hs (Or.inr (Or.inl ⟨(Classical.not_not.mp c_3), fun q => c_6 (by rw [hrm_r_4.2.2.1.mpr q]; decide), by rw [hrm_r_4.2.1], hJ_r_4, rfl⟩)) dX7_propose_26
  · have c_3 : ¬ (B 1 10 = 0) := bz_1 c_3
    refine lv_bipush (v := (-4)) hx hb dX7_propose_7 (by decide) ?_
    exact zeI E hs (Or.inl ⟨c_3, rfl, rfl, rfl⟩) dX7_propose_9
