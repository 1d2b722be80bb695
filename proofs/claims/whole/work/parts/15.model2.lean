
theorem al_x {f : Nat → Int32} {c t : Nat} (h : ¬ f c < 0) (ht : t = 4) : nI (ct (fun s => rowAt f 36 (nb c (pm s)) = f c) t) = alI f c := by
  subst ht
  unfold alI
  rw [iz_f (fun e => h (by rw [e]; decide)), ct_pm (fun s => rowAt f 36 (nb c s) = f c)]
theorem al_m {f : Nat → Int32} {c : Nat} (h : f c = -1) : nI 0 = alI f c := (iz_t h).symm
theorem mg_n0 {A : AR} {k : Nat} {v : Int32} : -(mg A k v (nI 0)) = mg A k v (nI 1) := by
  unfold mg
  rw [show nI 1 - nI 0 = nI 1 by decide, show nI 1 - nI 1 = nI 0 by decide, Int32.neg_sub]
theorem mg_n1 {A : AR} {k : Nat} {v : Int32} : -(mg A k v (nI 1)) = mg A k v (nI 0) := by
  unfold mg
  rw [show nI 1 - nI 0 = nI 1 by decide, show nI 1 - nI 1 = nI 0 by decide, Int32.neg_sub]
theorem cl_form (m : Nat → Int32) : ∀ n, (clS m n).1 = -1 ∨ ∃ j, j < n ∧ (clS m n).1 = nI j
  | 0 => Or.inl rfl
  | n + 1 => by
    have up : ((clS m n).1 = -1 ∨ ∃ j, j < n ∧ (clS m n).1 = nI j) → ((clS m n).1 = -1 ∨ ∃ j, j < n + 1 ∧ (clS m n).1 = nI j) := fun h => h.elim Or.inl (fun ⟨j, a, b⟩ => Or.inr ⟨j, by omega, b⟩)
    have ih := up (cl_form m n)
    rw [clS_s]
    by_cases c1 : m n ≤ 0
    · rw [iz_t c1]; exact ih
    · rw [iz_f c1]
      by_cases c2 : (clS m n).1 = -1
      · rw [iz_t c2]; exact Or.inr ⟨n, by omega, rfl⟩
      · rw [iz_f c2]
        by_cases c3 : (clS m n).2 ≤ m n
        · rw [iz_t c3]; exact ih
        · rw [iz_f c3]; exact Or.inr ⟨n, by omega, rfl⟩
/-- the model's best part: below 0 for none -/
noncomputable def bmI (m : Nat → Int32) (n : Nat) : Int32 := iz ((clS m n).1 = -1) (-5) (clS m n).1
theorem bmI_lt {m : Nat → Int32} {n : Nat} (hn : n < 2 ^ 31) : bmI m n < 0 ↔ (clS m n).1 = -1 := by
  unfold bmI
  rcases cl_form m n with h | ⟨j, hj, h⟩
  · rw [iz_t h]; exact ⟨fun _ => h, fun _ => by decide⟩
  · rw [h, iz_f (nI_nm (by omega))]
    exact ⟨fun q => absurd q (nI_pos (by omega)), fun q => absurd q (nI_nm (by omega))⟩
theorem bmI_ge {m : Nat → Int32} {n : Nat} (hn : n < 2 ^ 31) : 0 ≤ bmI m n ↔ ¬ (clS m n).1 = -1 := by rw [← bmI_lt hn, Int32.not_lt]
theorem bmI_k {m : Nat → Int32} {n : Nat} (h : clS m (n + 1) = clS m n) : bmI m n = bmI m (n + 1) := by unfold bmI; rw [h]
theorem bmI_n {m : Nat → Int32} {n : Nat} (h : clS m (n + 1) = (nI n, m n)) (hn : n < 2 ^ 31) : nI n = bmI m (n + 1) := by
  unfold bmI
  rw [h]
  exact (iz_f (nI_nm hn)).symm
noncomputable def moI (m : Nat → Int32) (n : Nat) : Int32 := iz (n = 0) 0 (m (mlS m n))
theorem moI_p {m : Nat → Int32} {n : Nat} (h : ¬ n = 0) : moI m n = m (mlS m n) := iz_f h
theorem moI_s {m : Nat → Int32} {n k : Nat} (h : mlS m (n + 1) = k) : m k = moI m (n + 1) := by rw [moI_p (by omega), h]
theorem ml_0 {m : Nat → Int32} {n : Nat} (h : n = 0) : mlS m (n + 1) = n := by subst h; exact mlS_1 m
theorem ml_k {m : Nat → Int32} {n : Nat} (h0 : ¬ n = 0) (h : m n ≤ moI m n) : mlS m (n + 1) = mlS m n := by rw [mlS_s, iz_t (by rw [moI_p h0] at h; exact h)]
theorem ml_n {m : Nat → Int32} {n : Nat} (h0 : ¬ n = 0) (h : ¬ m n ≤ moI m n) : mlS m (n + 1) = n := by rw [mlS_s, iz_f (by rw [moI_p h0] at h; exact h)]
theorem cl_k1 {m : Nat → Int32} {n : Nat} (h : m n ≤ 0) : clS m (n + 1) = clS m n := by rw [clS_s, iz_t h]
theorem cl_k2 {m : Nat → Int32} {n : Nat} (h : ¬ m n ≤ 0) (h2 : ¬ (clS m n).1 = -1) (h3 : (clS m n).2 ≤ m n) : clS m (n + 1) = clS m n := by rw [clS_s, iz_f h, iz_f h2, iz_t h3]
theorem cl_n1 {m : Nat → Int32} {n : Nat} (h : ¬ m n ≤ 0) (h2 : (clS m n).1 = -1) : clS m (n + 1) = (nI n, m n) := by rw [clS_s, iz_f h, iz_t h2]
theorem cl_n2 {m : Nat → Int32} {n : Nat} (h : ¬ m n ≤ 0) (h2 : ¬ (clS m n).1 = -1) (h3 : ¬ (clS m n).2 ≤ m n) : clS m (n + 1) = (nI n, m n) := by rw [clS_s, iz_f h, iz_f h2, iz_f h3]
/-- the stage and the cutter are what they may be -/
def STG (F : Nat → Int32) : Prop := (F 10 = nI 0 ∨ F 10 = nI 1 ∨ F 10 = nI 2) ∧ (F 9 = nI 0 ∨ F 9 = nI 1)
theorem nn_cut {x : Int32} (h : x = nI 0 ∨ x = nI 1) : nnI x = x ∧ nnI (nI 1 - x) = nI 1 - x := by
  rcases h with rfl | rfl <;> exact ⟨iz_f (by decide), iz_f (by decide)⟩

set_option maxHeartbeats 4000000 in
set_option maxRecDepth 100000 in
/-- alikeBeside -/
theorem c_X7_alikeBeside (l : Launch) (x : CT) (ar fd A B : AR) (w f : Nat) (hM : ME (ar 103) A (B 1) w f) (ce : Nat) (hce : ce < 36) : CP l yX7_alikeBeside cX7_alikeBeside 7 (some .int) 2 45 x [.ref (xa x 102), .int (nI ce)] ar fd (fun r => r = iz (A 9 ce = -1) (alI (A 7) ce) (alI (A 9) ce)) := by
  refine zsP (own := RX7) rfl (by decide +kernel) (Nat.le_of_ble_eq_true rfl) ?_
  intro p e s m below meth c ls E hs hl
  have hx := E.1
  have hb := E.2.1
  have hl : lv_has ls 7 [(0, .ref (xa x 102)), (1, .int (nI ce))] := hl
  obtain ⟨hE1, hE2, hE3, hE4, hE5, hE6, hE7, hEw, hEf, hEc, hEs, hfw, hw9, hw2, hP, hD⟩ := id hM
  refine lv_aload_n hx hb dX7_alikeBeside_0 rfl (lv_at hl 0 rfl) ?_
  refine lv_iload_n hx hb dX7_alikeBeside_1 rfl (lv_at hl 1 rfl) ?_
  refine zVP E hs lkX7_74 [] (c_X7_isOpen l x ar fd A B w f hM ce (by omega)) (by decide) (sh6 rfl) rfl ⟨Nat.le_of_ble_eq_true rfl, Nat.le_of_ble_eq_true rfl⟩ rfl hl.1 (Nat.le_of_ble_eq_true rfl) rfl dX7_alikeBeside_2 (fun r_1 H locs hp_2 hs => ?_)
  subst hp_2
  refine lv_if_eq (tgt := 13) hx hb dX7_alikeBeside_5 (by decide) (fun c_3 => ?_) (fun c_3 => ?_)
  · have c_3 : ¬ (A 9 ce = -1) := bz_0 c_3
    refine lv_bipush (v := nI 115) hx hb dX7_alikeBeside_13 (by decide) ?_
    refine lv_istore_n (lv' := [(2, .int (nI 115)), (0, .ref (xa x 102)), (1, .int (nI ce))]) hx hb dX7_alikeBeside_15 rfl hl (by decide) rfl (fun ls hl => ?_)
    refine lv_aload_n hx hb dX7_alikeBeside_16 rfl (lv_at hl 1 rfl) ?_
    refine zg6 E hs (k := 102) rfl 0 (by decide) rfl q_514 dX7_alikeBeside_17 ?_
    refine lv_iload_n hx hb dX7_alikeBeside_20 rfl (lv_at hl 0 rfl) ?_
    refine lv_iload_n hx hb dX7_alikeBeside_21 rfl (lv_at hl 2 rfl) ?_
    refine lv_iadd hx hb dX7_alikeBeside_22 ?_
    refine tp (b := nI (115 + ce)) (nI_add _ _) ?_
    refine zald E hs 103 (n := 196) (j := (115 + ce)) rfl rfl (by omega) (by decide) dX7_alikeBeside_23 ?_
    refine tp (b := A 9 ce) (hE4 _ (by omega)) ?_
    refine lv_istore_n (lv' := [(3, .int (A 9 ce)), (2, .int (nI 115)), (0, .ref (xa x 102)), (1, .int (nI ce))]) hx hb dX7_alikeBeside_24 rfl hl (by decide) rfl (fun ls hl => ?_)
    refine lv_iconst (v := nI 0) hx hb dX7_alikeBeside_25 (by decide) ?_
    refine lv_istore (lv' := [(4, .int (nI 0)), (3, .int (A 9 ce)), (2, .int (nI 115)), (0, .ref (xa x 102)), (1, .int (nI ce))]) hx hb dX7_alikeBeside_26 hl (by decide) rfl (fun ls hl => ?_)
    refine lv_iconst (v := nI 0) hx hb dX7_alikeBeside_28 (by decide) ?_
    refine lv_istore (lv' := [(5, .int (nI 0)), (4, .int (nI 0)), (3, .int (A 9 ce)), (2, .int (nI 115)), (0, .ref (xa x 102)), (1, .int (nI ce))]) hx hb dX7_alikeBeside_29 hl (by decide) rfl (fun ls hl => ?_)
    have L_4 : ∀ (mm : Nat) (t : Nat), (4 - t) < mm → (t ≤ 4) → (t = 0 ∨ ¬ A 9 ce < 0) → ∀ (H : Heap) (locs : List Loc) (ls : Array Slot), ST x (AA x) s.heap ar fd H locs → lv_has ls 7 [(0, .ref (xa x 102)), (1, .int (nI ce)), (2, .int (nI 115)), (3, .int (A 9 ce)), (4, .int (nI (ct (fun s => rowAt (A 9) 36 (nb ce (pm s)) = A 9 ce) t))), (5, .int (nI t))] → W p l e (rmZ 2 45) s m ([.ref (xa x 102), .int (nI ce)] : List Value).toArray below meth c H locs 0 0 (QP below x [.ref (xa x 102), .int (nI ce)] ar fd s (fun r => r = iz (A 9 ce = -1) (alI (A 7) ce) (alI (A 9) ce))) (F0 m 31 ls []) := by
      intro mm
      induction mm with
      | zero => intro t hmu; exact absurd hmu (Nat.not_lt_zero _)
      | succ mm ih_4 =>
        intro t hmu ht hz H locs ls hs hl
        refine lv_iload hx hb dX7_alikeBeside_31 (lv_at hl 5 rfl) ?_
        refine lv_iconst (v := nI 4) hx hb dX7_alikeBeside_33 (by decide) ?_
        refine lv_icmp_ge (tgt := 83) hx hb dX7_alikeBeside_34 (by decide) (fun c_5 => ?_) (fun c_5 => ?_)
        · have c_5 : 4 ≤ t := (nI_leI (a := 4) (b := t) (by omega) (by omega)).mp c_5
          refine lv_iload hx hb dX7_alikeBeside_83 (lv_at hl 4 rfl) ?_
          exact zeP E hs (by rw [iz_f c_3]; exact al_x (hz.elim (fun h => absurd h (by omega)) id) (by omega)) dX7_alikeBeside_85
        · have c_5 : ¬ (4 ≤ t) := fun h => c_5 ((nI_leI (a := 4) (b := t) (by omega) (by omega)).mpr h)
          refine lv_iload_n hx hb dX7_alikeBeside_37 rfl (lv_at hl 3 rfl) ?_
          refine lv_if_lt (tgt := 83) hx hb dX7_alikeBeside_38 (by decide) (fun c_6 => ?_) (fun c_6 => ?_)
          · refine lv_iload hx hb dX7_alikeBeside_83 (lv_at hl 4 rfl) ?_
            exact zeP E hs (by rw [iz_f c_3, show t = 0 from hz.elim id (fun h => absurd c_6 h)]; exact al_m ((ge_m2 (hD ce hce)).mpr c_6)) dX7_alikeBeside_85
          · refine lv_iload_n hx hb dX7_alikeBeside_41 rfl (lv_at hl 1 rfl) ?_
            refine lv_iload hx hb dX7_alikeBeside_42 (lv_at hl 5 rfl) ?_
            refine zSP E hs lkX7_67 [] (c_X7_beside l x ar fd ce t (by omega) (by omega)) ⟨Nat.le_of_ble_eq_true rfl, Nat.le_of_ble_eq_true rfl⟩ rfl hl.1 (Nat.le_of_ble_eq_true rfl) rfl dX7_alikeBeside_44 (fun r_7 H locs hp_8 hs => ?_)
            subst hp_8
            refine lv_istore (lv' := [(6, .int (nb ce (pm t))), (0, .ref (xa x 102)), (1, .int (nI ce)), (2, .int (nI 115)), (3, .int (A 9 ce)), (4, .int (nI (ct (fun s => rowAt (A 9) 36 (nb ce (pm s)) = A 9 ce) t))), (5, .int (nI t))]) hx hb dX7_alikeBeside_47 hl (by decide) rfl (fun ls hl => ?_)
            rcases nb_or ce hce (pm t) (pm_4 (by omega)) with ⟨d, hd, ed⟩ | ed
            · rw [ed] at hl
              refine lv_iload hx hb dX7_alikeBeside_49 (lv_at hl 5 rfl) ?_
              refine lv_iload hx hb dX7_alikeBeside_51 (lv_at hl 0 rfl) ?_
              refine lv_if_lt (tgt := 73) hx hb dX7_alikeBeside_53 (by decide) (fun c_9 => ?_) (fun c_9 => ?_)
              · have c_9 : d < 0 := (nI_ltI (a := d) (b := 0) (by omega) (by omega)).mp c_9
                exfalso; omega
              · have c_9 : ¬ (d < 0) := fun h => c_9 ((nI_ltI (a := d) (b := 0) (by omega) (by omega)).mpr h)
                refine lv_aload_n hx hb dX7_alikeBeside_56 rfl (lv_at hl 1 rfl) ?_
                refine zg6 E hs (k := 102) rfl 0 (by decide) rfl q_514 dX7_alikeBeside_57 ?_
                refine lv_iload_n hx hb dX7_alikeBeside_60 rfl (lv_at hl 3 rfl) ?_
                refine lv_iload hx hb dX7_alikeBeside_61 (lv_at hl 0 rfl) ?_
                refine lv_iadd hx hb dX7_alikeBeside_63 ?_
                refine tp (b := nI (115 + d)) (nI_add _ _) ?_
                refine zald E hs 103 (n := 196) (j := (115 + d)) rfl rfl (by omega) (by decide) dX7_alikeBeside_64 ?_
                refine tp (b := A 9 d) (hE4 _ (by omega)) ?_
                refine lv_iload_n hx hb dX7_alikeBeside_65 rfl (lv_at hl 4 rfl) ?_
                refine lv_icmp_ne (tgt := 73) hx hb dX7_alikeBeside_66 (by decide) (fun c_10 => ?_) (fun c_10 => ?_)
                · refine lv_iconst (v := nI 0) hx hb dX7_alikeBeside_73 (by decide) ?_
                  refine lv_iadd hx hb dX7_alikeBeside_74 ?_
                  refine tp (b := nI ((ct (fun s => rowAt (A 9) 36 (nb ce (pm s)) = A 9 ce) t) + 0)) (nI_add _ _) ?_
                  refine lv_istore (lv' := [(4, .int (nI ((ct (fun s => rowAt (A 9) 36 (nb ce (pm s)) = A 9 ce) t) + 0))), (6, .int (nI d)), (0, .ref (xa x 102)), (1, .int (nI ce)), (2, .int (nI 115)), (3, .int (A 9 ce)), (5, .int (nI t))]) hx hb dX7_alikeBeside_75 hl (by decide) rfl (fun ls hl => ?_)
                  refine lv_iinc (v := nI (t + 1)) (lv' := [(5, .int (nI (t + 1))), (4, .int (nI ((ct (fun s => rowAt (A 9) 36 (nb ce (pm s)) = A 9 ce) t) + 0))), (6, .int (nI d)), (0, .ref (xa x 102)), (1, .int (nI ce)), (2, .int (nI 115)), (3, .int (A 9 ce))]) hx hb dX7_alikeBeside_77 hl (k := 6) rfl (nI_inc _) (by decide) rfl (fun ls hl => ?_)
                  refine lv_goto (tgt := 31) hx hb dX7_alikeBeside_80 (by decide) ?_
                  exact ih_4 (t + 1) (by omega) (by omega) (Or.inr c_6) _ _ _ hs (lvr (lv_at hl 3 rfl) (lvr (lv_at hl 4 rfl) (lvr (lv_at hl 5 rfl) (lvr (lv_at hl 6 rfl) (lvc (lv_at hl 1 rfl) (by rw [ct_f (P := (fun s => rowAt (A 9) 36 (nb ce (pm s)) = A 9 ce)) (show ¬ rowAt (A 9) 36 (nb ce (pm t)) = A 9 ce from by rw [ed, rowAt_n hd (by decide)]; exact c_10), Nat.add_zero]) (lvr (lv_at hl 0 rfl) (lvn hl)))))))
                · refine lv_iconst (v := nI 1) hx hb dX7_alikeBeside_69 (by decide) ?_
                  refine lv_goto (tgt := 74) hx hb dX7_alikeBeside_70 (by decide) ?_
                  refine lv_iadd hx hb dX7_alikeBeside_74 ?_
                  refine tp (b := nI ((ct (fun s => rowAt (A 9) 36 (nb ce (pm s)) = A 9 ce) t) + 1)) (nI_add _ _) ?_
                  refine lv_istore (lv' := [(4, .int (nI ((ct (fun s => rowAt (A 9) 36 (nb ce (pm s)) = A 9 ce) t) + 1))), (6, .int (nI d)), (0, .ref (xa x 102)), (1, .int (nI ce)), (2, .int (nI 115)), (3, .int (A 9 ce)), (5, .int (nI t))]) hx hb dX7_alikeBeside_75 hl (by decide) rfl (fun ls hl => ?_)
                  refine lv_iinc (v := nI (t + 1)) (lv' := [(5, .int (nI (t + 1))), (4, .int (nI ((ct (fun s => rowAt (A 9) 36 (nb ce (pm s)) = A 9 ce) t) + 1))), (6, .int (nI d)), (0, .ref (xa x 102)), (1, .int (nI ce)), (2, .int (nI 115)), (3, .int (A 9 ce))]) hx hb dX7_alikeBeside_77 hl (k := 6) rfl (nI_inc _) (by decide) rfl (fun ls hl => ?_)
                  refine lv_goto (tgt := 31) hx hb dX7_alikeBeside_80 (by decide) ?_
                  exact ih_4 (t + 1) (by omega) (by omega) (Or.inr c_6) _ _ _ hs (lvr (lv_at hl 3 rfl) (lvr (lv_at hl 4 rfl) (lvr (lv_at hl 5 rfl) (lvr (lv_at hl 6 rfl) (lvc (lv_at hl 1 rfl) (by rw [ct_t (P := (fun s => rowAt (A 9) 36 (nb ce (pm s)) = A 9 ce)) (show rowAt (A 9) 36 (nb ce (pm t)) = A 9 ce from by rw [ed, rowAt_n hd (by decide)]; exact c_10)]) (lvr (lv_at hl 0 rfl) (lvn hl)))))))
            · rw [ed] at hl
              refine lv_iload hx hb dX7_alikeBeside_49 (lv_at hl 5 rfl) ?_
              refine lv_iload hx hb dX7_alikeBeside_51 (lv_at hl 0 rfl) ?_
              refine lv_if_lt (tgt := 73) hx hb dX7_alikeBeside_53 (by decide) (fun _ => ?_) (fun h => absurd h (by decide))
              refine lv_iconst (v := nI 0) hx hb dX7_alikeBeside_73 (by decide) ?_
              refine lv_iadd hx hb dX7_alikeBeside_74 ?_
              refine tp (b := nI ((ct (fun s => rowAt (A 9) 36 (nb ce (pm s)) = A 9 ce) t) + 0)) (nI_add _ _) ?_
              refine lv_istore (lv' := [(4, .int (nI ((ct (fun s => rowAt (A 9) 36 (nb ce (pm s)) = A 9 ce) t) + 0))), (6, .int (-1)), (0, .ref (xa x 102)), (1, .int (nI ce)), (2, .int (nI 115)), (3, .int (A 9 ce)), (5, .int (nI t))]) hx hb dX7_alikeBeside_75 hl (by decide) rfl (fun ls hl => ?_)
              refine lv_iinc (v := nI (t + 1)) (lv' := [(5, .int (nI (t + 1))), (4, .int (nI ((ct (fun s => rowAt (A 9) 36 (nb ce (pm s)) = A 9 ce) t) + 0))), (6, .int (-1)), (0, .ref (xa x 102)), (1, .int (nI ce)), (2, .int (nI 115)), (3, .int (A 9 ce))]) hx hb dX7_alikeBeside_77 hl (k := 6) rfl (nI_inc _) (by decide) rfl (fun ls hl => ?_)
              refine lv_goto (tgt := 31) hx hb dX7_alikeBeside_80 (by decide) ?_
              exact ih_4 (t + 1) (by omega) (by omega) (Or.inr c_6) _ _ _ hs (lvr (lv_at hl 3 rfl) (lvr (lv_at hl 4 rfl) (lvr (lv_at hl 5 rfl) (lvr (lv_at hl 6 rfl) (lvc (lv_at hl 1 rfl) (by rw [ct_f (P := (fun s => rowAt (A 9) 36 (nb ce (pm s)) = A 9 ce)) (show ¬ rowAt (A 9) 36 (nb ce (pm t)) = A 9 ce from by rw [ed, rowAt_m]; exact fun h => c_6 (by rw [← h]; decide)), Nat.add_zero]) (lvr (lv_at hl 0 rfl) (lvn hl)))))))
    exact L_4 (_ + 1) 0 (Nat.lt_succ_self _) (by omega) (Or.inl rfl) _ _ _ hs (lvr (lv_at hl 4 rfl) (lvr (lv_at hl 5 rfl) (lvr (lv_at hl 3 rfl) (lvr (lv_at hl 2 rfl) (lvc (lv_at hl 1 rfl) rfl (lvr (lv_at hl 0 rfl) (lvn hl)))))))
  · have c_3 : A 9 ce = -1 := bz_1 c_3
    refine lv_bipush (v := nI 79) hx hb dX7_alikeBeside_8 (by decide) ?_
    refine lv_goto (tgt := 15) hx hb dX7_alikeBeside_10 (by decide) ?_
    refine lv_istore_n (lv' := [(2, .int (nI 79)), (0, .ref (xa x 102)), (1, .int (nI ce))]) hx hb dX7_alikeBeside_15 rfl hl (by decide) rfl (fun ls hl => ?_)
    refine lv_aload_n hx hb dX7_alikeBeside_16 rfl (lv_at hl 1 rfl) ?_
    refine zg6 E hs (k := 102) rfl 0 (by decide) rfl q_514 dX7_alikeBeside_17 ?_
    refine lv_iload_n hx hb dX7_alikeBeside_20 rfl (lv_at hl 0 rfl) ?_
    refine lv_iload_n hx hb dX7_alikeBeside_21 rfl (lv_at hl 2 rfl) ?_
    refine lv_iadd hx hb dX7_alikeBeside_22 ?_
    refine tp (b := nI (79 + ce)) (nI_add _ _) ?_
    refine zald E hs 103 (n := 196) (j := (79 + ce)) rfl rfl (by omega) (by decide) dX7_alikeBeside_23 ?_
    refine tp (b := A 7 ce) (hE3 _ (by omega)) ?_
    refine lv_istore_n (lv' := [(3, .int (A 7 ce)), (2, .int (nI 79)), (0, .ref (xa x 102)), (1, .int (nI ce))]) hx hb dX7_alikeBeside_24 rfl hl (by decide) rfl (fun ls hl => ?_)
    refine lv_iconst (v := nI 0) hx hb dX7_alikeBeside_25 (by decide) ?_
    refine lv_istore (lv' := [(4, .int (nI 0)), (3, .int (A 7 ce)), (2, .int (nI 79)), (0, .ref (xa x 102)), (1, .int (nI ce))]) hx hb dX7_alikeBeside_26 hl (by decide) rfl (fun ls hl => ?_)
    refine lv_iconst (v := nI 0) hx hb dX7_alikeBeside_28 (by decide) ?_
    refine lv_istore (lv' := [(5, .int (nI 0)), (4, .int (nI 0)), (3, .int (A 7 ce)), (2, .int (nI 79)), (0, .ref (xa x 102)), (1, .int (nI ce))]) hx hb dX7_alikeBeside_29 hl (by decide) rfl (fun ls hl => ?_)
    have L_12 : ∀ (mm : Nat) (t : Nat), (4 - t) < mm → (t ≤ 4) → (t = 0 ∨ ¬ A 7 ce < 0) → ∀ (H : Heap) (locs : List Loc) (ls : Array Slot), ST x (AA x) s.heap ar fd H locs → lv_has ls 7 [(0, .ref (xa x 102)), (1, .int (nI ce)), (2, .int (nI 79)), (3, .int (A 7 ce)), (4, .int (nI (ct (fun s => rowAt (A 7) 36 (nb ce (pm s)) = A 7 ce) t))), (5, .int (nI t))] → W p l e (rmZ 2 45) s m ([.ref (xa x 102), .int (nI ce)] : List Value).toArray below meth c H locs 0 0 (QP below x [.ref (xa x 102), .int (nI ce)] ar fd s (fun r => r = iz (A 9 ce = -1) (alI (A 7) ce) (alI (A 9) ce))) (F0 m 31 ls []) := by
      intro mm
      induction mm with
      | zero => intro t hmu; exact absurd hmu (Nat.not_lt_zero _)
      | succ mm ih_12 =>
        intro t hmu ht hz H locs ls hs hl
        refine lv_iload hx hb dX7_alikeBeside_31 (lv_at hl 5 rfl) ?_
        refine lv_iconst (v := nI 4) hx hb dX7_alikeBeside_33 (by decide) ?_
        refine lv_icmp_ge (tgt := 83) hx hb dX7_alikeBeside_34 (by decide) (fun c_13 => ?_) (fun c_13 => ?_)
        · have c_13 : 4 ≤ t := (nI_leI (a := 4) (b := t) (by omega) (by omega)).mp c_13
          refine lv_iload hx hb dX7_alikeBeside_83 (lv_at hl 4 rfl) ?_
          exact zeP E hs (by rw [iz_t c_3]; exact al_x (hz.elim (fun h => absurd h (by omega)) id) (by omega)) dX7_alikeBeside_85
        · have c_13 : ¬ (4 ≤ t) := fun h => c_13 ((nI_leI (a := 4) (b := t) (by omega) (by omega)).mpr h)
          refine lv_iload_n hx hb dX7_alikeBeside_37 rfl (lv_at hl 3 rfl) ?_
          refine lv_if_lt (tgt := 83) hx hb dX7_alikeBeside_38 (by decide) (fun c_14 => ?_) (fun c_14 => ?_)
          · refine lv_iload hx hb dX7_alikeBeside_83 (lv_at hl 4 rfl) ?_
            exact zeP E hs (by rw [iz_t c_3, show t = 0 from hz.elim id (fun h => absurd c_14 h)]; exact al_m ((ge_m2 (hP ce hce)).mpr c_14)) dX7_alikeBeside_85
          · refine lv_iload_n hx hb dX7_alikeBeside_41 rfl (lv_at hl 1 rfl) ?_
            refine lv_iload hx hb dX7_alikeBeside_42 (lv_at hl 5 rfl) ?_
            refine zSP E hs lkX7_67 [] (c_X7_beside l x ar fd ce t (by omega) (by omega)) ⟨Nat.le_of_ble_eq_true rfl, Nat.le_of_ble_eq_true rfl⟩ rfl hl.1 (Nat.le_of_ble_eq_true rfl) rfl dX7_alikeBeside_44 (fun r_15 H locs hp_16 hs => ?_)
            subst hp_16
            refine lv_istore (lv' := [(6, .int (nb ce (pm t))), (0, .ref (xa x 102)), (1, .int (nI ce)), (2, .int (nI 79)), (3, .int (A 7 ce)), (4, .int (nI (ct (fun s => rowAt (A 7) 36 (nb ce (pm s)) = A 7 ce) t))), (5, .int (nI t))]) hx hb dX7_alikeBeside_47 hl (by decide) rfl (fun ls hl => ?_)
            rcases nb_or ce hce (pm t) (pm_4 (by omega)) with ⟨d, hd, ed⟩ | ed
            · rw [ed] at hl
              refine lv_iload hx hb dX7_alikeBeside_49 (lv_at hl 5 rfl) ?_
              refine lv_iload hx hb dX7_alikeBeside_51 (lv_at hl 0 rfl) ?_
              refine lv_if_lt (tgt := 73) hx hb dX7_alikeBeside_53 (by decide) (fun c_17 => ?_) (fun c_17 => ?_)
              · have c_17 : d < 0 := (nI_ltI (a := d) (b := 0) (by omega) (by omega)).mp c_17
                exfalso; omega
              · have c_17 : ¬ (d < 0) := fun h => c_17 ((nI_ltI (a := d) (b := 0) (by omega) (by omega)).mpr h)
                refine lv_aload_n hx hb dX7_alikeBeside_56 rfl (lv_at hl 1 rfl) ?_
                refine zg6 E hs (k := 102) rfl 0 (by decide) rfl q_514 dX7_alikeBeside_57 ?_
                refine lv_iload_n hx hb dX7_alikeBeside_60 rfl (lv_at hl 3 rfl) ?_
                refine lv_iload hx hb dX7_alikeBeside_61 (lv_at hl 0 rfl) ?_
                refine lv_iadd hx hb dX7_alikeBeside_63 ?_
                refine tp (b := nI (79 + d)) (nI_add _ _) ?_
                refine zald E hs 103 (n := 196) (j := (79 + d)) rfl rfl (by omega) (by decide) dX7_alikeBeside_64 ?_
                refine tp (b := A 7 d) (hE3 _ (by omega)) ?_
                refine lv_iload_n hx hb dX7_alikeBeside_65 rfl (lv_at hl 4 rfl) ?_
                refine lv_icmp_ne (tgt := 73) hx hb dX7_alikeBeside_66 (by decide) (fun c_18 => ?_) (fun c_18 => ?_)
                · refine lv_iconst (v := nI 0) hx hb dX7_alikeBeside_73 (by decide) ?_
                  refine lv_iadd hx hb dX7_alikeBeside_74 ?_
                  refine tp (b := nI ((ct (fun s => rowAt (A 7) 36 (nb ce (pm s)) = A 7 ce) t) + 0)) (nI_add _ _) ?_
                  refine lv_istore (lv' := [(4, .int (nI ((ct (fun s => rowAt (A 7) 36 (nb ce (pm s)) = A 7 ce) t) + 0))), (6, .int (nI d)), (0, .ref (xa x 102)), (1, .int (nI ce)), (2, .int (nI 79)), (3, .int (A 7 ce)), (5, .int (nI t))]) hx hb dX7_alikeBeside_75 hl (by decide) rfl (fun ls hl => ?_)
                  refine lv_iinc (v := nI (t + 1)) (lv' := [(5, .int (nI (t + 1))), (4, .int (nI ((ct (fun s => rowAt (A 7) 36 (nb ce (pm s)) = A 7 ce) t) + 0))), (6, .int (nI d)), (0, .ref (xa x 102)), (1, .int (nI ce)), (2, .int (nI 79)), (3, .int (A 7 ce))]) hx hb dX7_alikeBeside_77 hl (k := 6) rfl (nI_inc _) (by decide) rfl (fun ls hl => ?_)
                  refine lv_goto (tgt := 31) hx hb dX7_alikeBeside_80 (by decide) ?_
                  exact ih_12 (t + 1) (by omega) (by omega) (Or.inr c_14) _ _ _ hs (lvr (lv_at hl 3 rfl) (lvr (lv_at hl 4 rfl) (lvr (lv_at hl 5 rfl) (lvr (lv_at hl 6 rfl) (lvc (lv_at hl 1 rfl) (by rw [ct_f (P := (fun s => rowAt (A 7) 36 (nb ce (pm s)) = A 7 ce)) (show ¬ rowAt (A 7) 36 (nb ce (pm t)) = A 7 ce from by rw [ed, rowAt_n hd (by decide)]; exact c_18), Nat.add_zero]) (lvr (lv_at hl 0 rfl) (lvn hl)))))))
                · refine lv_iconst (v := nI 1) hx hb dX7_alikeBeside_69 (by decide) ?_
                  refine lv_goto (tgt := 74) hx hb dX7_alikeBeside_70 (by decide) ?_
                  refine lv_iadd hx hb dX7_alikeBeside_74 ?_
                  refine tp (b := nI ((ct (fun s => rowAt (A 7) 36 (nb ce (pm s)) = A 7 ce) t) + 1)) (nI_add _ _) ?_
                  refine lv_istore (lv' := [(4, .int (nI ((ct (fun s => rowAt (A 7) 36 (nb ce (pm s)) = A 7 ce) t) + 1))), (6, .int (nI d)), (0, .ref (xa x 102)), (1, .int (nI ce)), (2, .int (nI 79)), (3, .int (A 7 ce)), (5, .int (nI t))]) hx hb dX7_alikeBeside_75 hl (by decide) rfl (fun ls hl => ?_)
                  refine lv_iinc (v := nI (t + 1)) (lv' := [(5, .int (nI (t + 1))), (4, .int (nI ((ct (fun s => rowAt (A 7) 36 (nb ce (pm s)) = A 7 ce) t) + 1))), (6, .int (nI d)), (0, .ref (xa x 102)), (1, .int (nI ce)), (2, .int (nI 79)), (3, .int (A 7 ce))]) hx hb dX7_alikeBeside_77 hl (k := 6) rfl (nI_inc _) (by decide) rfl (fun ls hl => ?_)
                  refine lv_goto (tgt := 31) hx hb dX7_alikeBeside_80 (by decide) ?_
                  exact ih_12 (t + 1) (by omega) (by omega) (Or.inr c_14) _ _ _ hs (lvr (lv_at hl 3 rfl) (lvr (lv_at hl 4 rfl) (lvr (lv_at hl 5 rfl) (lvr (lv_at hl 6 rfl) (lvc (lv_at hl 1 rfl) (by rw [ct_t (P := (fun s => rowAt (A 7) 36 (nb ce (pm s)) = A 7 ce)) (show rowAt (A 7) 36 (nb ce (pm t)) = A 7 ce from by rw [ed, rowAt_n hd (by decide)]; exact c_18)]) (lvr (lv_at hl 0 rfl) (lvn hl)))))))
            · rw [ed] at hl
              refine lv_iload hx hb dX7_alikeBeside_49 (lv_at hl 5 rfl) ?_
              refine lv_iload hx hb dX7_alikeBeside_51 (lv_at hl 0 rfl) ?_
              refine lv_if_lt (tgt := 73) hx hb dX7_alikeBeside_53 (by decide) (fun _ => ?_) (fun h => absurd h (by decide))
              refine lv_iconst (v := nI 0) hx hb dX7_alikeBeside_73 (by decide) ?_
              refine lv_iadd hx hb dX7_alikeBeside_74 ?_
              refine tp (b := nI ((ct (fun s => rowAt (A 7) 36 (nb ce (pm s)) = A 7 ce) t) + 0)) (nI_add _ _) ?_
              refine lv_istore (lv' := [(4, .int (nI ((ct (fun s => rowAt (A 7) 36 (nb ce (pm s)) = A 7 ce) t) + 0))), (6, .int (-1)), (0, .ref (xa x 102)), (1, .int (nI ce)), (2, .int (nI 79)), (3, .int (A 7 ce)), (5, .int (nI t))]) hx hb dX7_alikeBeside_75 hl (by decide) rfl (fun ls hl => ?_)
              refine lv_iinc (v := nI (t + 1)) (lv' := [(5, .int (nI (t + 1))), (4, .int (nI ((ct (fun s => rowAt (A 7) 36 (nb ce (pm s)) = A 7 ce) t) + 0))), (6, .int (-1)), (0, .ref (xa x 102)), (1, .int (nI ce)), (2, .int (nI 79)), (3, .int (A 7 ce))]) hx hb dX7_alikeBeside_77 hl (k := 6) rfl (nI_inc _) (by decide) rfl (fun ls hl => ?_)
              refine lv_goto (tgt := 31) hx hb dX7_alikeBeside_80 (by decide) ?_
              exact ih_12 (t + 1) (by omega) (by omega) (Or.inr c_14) _ _ _ hs (lvr (lv_at hl 3 rfl) (lvr (lv_at hl 4 rfl) (lvr (lv_at hl 5 rfl) (lvr (lv_at hl 6 rfl) (lvc (lv_at hl 1 rfl) (by rw [ct_f (P := (fun s => rowAt (A 7) 36 (nb ce (pm s)) = A 7 ce)) (show ¬ rowAt (A 7) 36 (nb ce (pm t)) = A 7 ce from by rw [ed, rowAt_m]; exact fun h => c_14 (by rw [← h]; decide)), Nat.add_zero]) (lvr (lv_at hl 0 rfl) (lvn hl)))))))
    exact L_12 (_ + 1) 0 (Nat.lt_succ_self _) (by omega) (Or.inl rfl) _ _ _ hs (lvr (lv_at hl 4 rfl) (lvr (lv_at hl 5 rfl) (lvr (lv_at hl 3 rfl) (lvr (lv_at hl 2 rfl) (lvc (lv_at hl 1 rfl) rfl (lvr (lv_at hl 0 rfl) (lvn hl)))))))

set_option maxHeartbeats 4000000 in
set_option maxRecDepth 100000 in
/-- orNone -/
theorem c_X7_orNone (l : Launch) (x : CT) (ar fd : AR) (v : Int32) (hv : ¬ v < -1) : CP l yX7_orNone cX7_orNone 1 (some .int) 0 0 x [.int v] ar fd (fun r => r = nnI v) := by
  refine zsP (own := RX7) rfl (by decide +kernel) (Nat.le_of_ble_eq_true rfl) ?_
  intro p e s m below meth c ls E hs hl
  have hx := E.1
  have hb := E.2.1
  have hl : lv_has ls 1 [(0, .int v)] := hl
  refine lv_iload_n hx hb dX7_orNone_0 rfl (lv_at hl 0 rfl) ?_
  refine lv_if_ge (tgt := 9) hx hb dX7_orNone_1 (by decide) (fun c_1 => ?_) (fun c_1 => ?_)
  · refine lv_iload_n hx hb dX7_orNone_9 rfl (lv_at hl 0 rfl) ?_
    exact zeP E hs (nnI_ge c_1).symm dX7_orNone_10
  · refine lv_bipush (v := (-5)) hx hb dX7_orNone_4 (by decide) ?_
    refine lv_goto (tgt := 10) hx hb dX7_orNone_6 (by decide) ?_
    exact zeP E hs (by rw [(ge_m1 hv).mpr c_1, nnI_m]) dX7_orNone_10

set_option maxHeartbeats 4000000 in
set_option maxRecDepth 100000 in
/-- withoutPart -/
theorem c_X7_withoutPart (l : Launch) (x : CT) (ar fd A B : AR) (w f : Nat) (hM : ME (ar 103) A (B 1) w f) : CP l yX7_withoutPart cX7_withoutPart 3 (some .int) 1 21 x [.ref (xa x 102)] ar fd (fun r => r = nI (ct (fun zz => A 9 zz = -1 ∧ A 7 zz = -1) 36)) := by
  refine zsP (own := RX7) rfl (by decide +kernel) (Nat.le_of_ble_eq_true rfl) ?_
  intro p e s m below meth c ls E hs hl
  have hx := E.1
  have hb := E.2.1
  have hl : lv_has ls 3 [(0, .ref (xa x 102))] := hl
  obtain ⟨hE1, hE2, hE3, hE4, hE5, hE6, hE7, hEw, hEf, hEc, hEs, hfw, hw9, hw2, hP, hD⟩ := id hM
  refine lv_iconst (v := nI 0) hx hb dX7_withoutPart_0 (by decide) ?_
  refine lv_istore_n (lv' := [(1, .int (nI 0)), (0, .ref (xa x 102))]) hx hb dX7_withoutPart_1 rfl hl (by decide) rfl (fun ls hl => ?_)
  refine lv_iconst (v := nI 0) hx hb dX7_withoutPart_2 (by decide) ?_
  refine lv_istore_n (lv' := [(2, .int (nI 0)), (1, .int (nI 0)), (0, .ref (xa x 102))]) hx hb dX7_withoutPart_3 rfl hl (by decide) rfl (fun ls hl => ?_)
  have L_1 : ∀ (mm : Nat) (i : Nat), (36 - i) < mm → (i ≤ 36) → ∀ (H : Heap) (locs : List Loc) (ls : Array Slot), ST x (AA x) s.heap ar fd H locs → lv_has ls 3 [(0, .ref (xa x 102)), (1, .int (nI (ct (fun zz => A 9 zz = -1 ∧ A 7 zz = -1) i))), (2, .int (nI i))] → W p l e (rmZ 1 21) s m ([.ref (xa x 102)] : List Value).toArray below meth c H locs 0 0 (QP below x [.ref (xa x 102)] ar fd s (fun r => r = nI (ct (fun zz => A 9 zz = -1 ∧ A 7 zz = -1) 36))) (F0 m 4 ls []) := by
    intro mm
    induction mm with
    | zero => intro i hmu; exact absurd hmu (Nat.not_lt_zero _)
    | succ mm ih_1 =>
      intro i hmu hi H locs ls hs hl
      refine lv_iload_n hx hb dX7_withoutPart_4 rfl (lv_at hl 2 rfl) ?_
      refine lv_bipush (v := nI 36) hx hb dX7_withoutPart_5 (by decide) ?_
      refine lv_icmp_ge (tgt := 44) hx hb dX7_withoutPart_7 (by decide) (fun c_2 => ?_) (fun c_2 => ?_)
      · have c_2 : 36 ≤ i := (nI_leI (a := 36) (b := i) (by omega) (by omega)).mp c_2
        refine lv_iload_n hx hb dX7_withoutPart_44 rfl (lv_at hl 1 rfl) ?_
        exact zeP E hs (by rw [show i = 36 by omega]) dX7_withoutPart_45
      · have c_2 : ¬ (36 ≤ i) := fun h => c_2 ((nI_leI (a := 36) (b := i) (by omega) (by omega)).mpr h)
        refine lv_iload_n hx hb dX7_withoutPart_10 rfl (lv_at hl 1 rfl) ?_
        refine lv_aload_n hx hb dX7_withoutPart_11 rfl (lv_at hl 0 rfl) ?_
        refine lv_iload_n hx hb dX7_withoutPart_12 rfl (lv_at hl 2 rfl) ?_
        refine zVP E hs lkX7_74 [.int (nI (ct (fun zz => A 9 zz = -1 ∧ A 7 zz = -1) i))] (c_X7_isOpen l x ar fd A B w f hM i (by omega)) (by decide) (sh6 rfl) rfl ⟨Nat.le_of_ble_eq_true rfl, Nat.le_of_ble_eq_true rfl⟩ rfl hl.1 (Nat.le_of_ble_eq_true rfl) rfl dX7_withoutPart_13 (fun r_3 H locs hp_4 hs => ?_)
        subst hp_4
        refine lv_if_eq (tgt := 35) hx hb dX7_withoutPart_16 (by decide) (fun c_5 => ?_) (fun c_5 => ?_)
        · have c_5 : ¬ (A 9 i = -1) := bz_0 c_5
          refine lv_iconst (v := nI 0) hx hb dX7_withoutPart_35 (by decide) ?_
          refine lv_iadd hx hb dX7_withoutPart_36 ?_
          refine tp (b := nI ((ct (fun zz => A 9 zz = -1 ∧ A 7 zz = -1) i) + 0)) (nI_add _ _) ?_
          refine lv_istore_n (lv' := [(1, .int (nI ((ct (fun zz => A 9 zz = -1 ∧ A 7 zz = -1) i) + 0))), (0, .ref (xa x 102)), (2, .int (nI i))]) hx hb dX7_withoutPart_37 rfl hl (by decide) rfl (fun ls hl => ?_)
          refine lv_iinc (v := nI (i + 1)) (lv' := [(2, .int (nI (i + 1))), (1, .int (nI ((ct (fun zz => A 9 zz = -1 ∧ A 7 zz = -1) i) + 0))), (0, .ref (xa x 102))]) hx hb dX7_withoutPart_38 hl (k := 2) rfl (nI_inc _) (by decide) rfl (fun ls hl => ?_)
          refine lv_goto (tgt := 4) hx hb dX7_withoutPart_41 (by decide) ?_
          exact ih_1 (i + 1) (by omega) (by omega) _ _ _ hs (lvr (lv_at hl 2 rfl) (lvc (lv_at hl 1 rfl) (by rw [ct_f (P := (fun zz => A 9 zz = -1 ∧ A 7 zz = -1)) (fun h => c_5 h.1), Nat.add_zero]) (lvr (lv_at hl 0 rfl) (lvn hl))))
        · have c_5 : A 9 i = -1 := bz_1 c_5
          refine lv_aload_n hx hb dX7_withoutPart_19 rfl (lv_at hl 0 rfl) ?_
          refine zg6 E hs (k := 102) rfl 0 (by decide) rfl q_514 dX7_withoutPart_20 ?_
          refine lv_bipush (v := nI 79) hx hb dX7_withoutPart_23 (by decide) ?_
          refine lv_iload_n hx hb dX7_withoutPart_25 rfl (lv_at hl 2 rfl) ?_
          refine lv_iadd hx hb dX7_withoutPart_26 ?_
          refine tp (b := nI (79 + i)) (nI_add _ _) ?_
          refine zald E hs 103 (n := 196) (j := (79 + i)) rfl rfl (by omega) (by decide) dX7_withoutPart_27 ?_
          refine tp (b := A 7 i) (hE3 _ (by omega)) ?_
          refine lv_if_ge (tgt := 35) hx hb dX7_withoutPart_28 (by decide) (fun c_6 => ?_) (fun c_6 => ?_)
          · refine lv_iconst (v := nI 0) hx hb dX7_withoutPart_35 (by decide) ?_
            refine lv_iadd hx hb dX7_withoutPart_36 ?_
            refine tp (b := nI ((ct (fun zz => A 9 zz = -1 ∧ A 7 zz = -1) i) + 0)) (nI_add _ _) ?_
            refine lv_istore_n (lv' := [(1, .int (nI ((ct (fun zz => A 9 zz = -1 ∧ A 7 zz = -1) i) + 0))), (0, .ref (xa x 102)), (2, .int (nI i))]) hx hb dX7_withoutPart_37 rfl hl (by decide) rfl (fun ls hl => ?_)
            refine lv_iinc (v := nI (i + 1)) (lv' := [(2, .int (nI (i + 1))), (1, .int (nI ((ct (fun zz => A 9 zz = -1 ∧ A 7 zz = -1) i) + 0))), (0, .ref (xa x 102))]) hx hb dX7_withoutPart_38 hl (k := 2) rfl (nI_inc _) (by decide) rfl (fun ls hl => ?_)
            refine lv_goto (tgt := 4) hx hb dX7_withoutPart_41 (by decide) ?_
            exact ih_1 (i + 1) (by omega) (by omega) _ _ _ hs (lvr (lv_at hl 2 rfl) (lvc (lv_at hl 1 rfl) (by rw [ct_f (P := (fun zz => A 9 zz = -1 ∧ A 7 zz = -1)) (fun h => (ge_m1 (hP i (by omega))).mp h.2 c_6), Nat.add_zero]) (lvr (lv_at hl 0 rfl) (lvn hl))))
          · refine lv_iconst (v := nI 1) hx hb dX7_withoutPart_31 (by decide) ?_
            refine lv_goto (tgt := 36) hx hb dX7_withoutPart_32 (by decide) ?_
            refine lv_iadd hx hb dX7_withoutPart_36 ?_
            refine tp (b := nI ((ct (fun zz => A 9 zz = -1 ∧ A 7 zz = -1) i) + 1)) (nI_add _ _) ?_
            refine lv_istore_n (lv' := [(1, .int (nI ((ct (fun zz => A 9 zz = -1 ∧ A 7 zz = -1) i) + 1))), (0, .ref (xa x 102)), (2, .int (nI i))]) hx hb dX7_withoutPart_37 rfl hl (by decide) rfl (fun ls hl => ?_)
            refine lv_iinc (v := nI (i + 1)) (lv' := [(2, .int (nI (i + 1))), (1, .int (nI ((ct (fun zz => A 9 zz = -1 ∧ A 7 zz = -1) i) + 1))), (0, .ref (xa x 102))]) hx hb dX7_withoutPart_38 hl (k := 2) rfl (nI_inc _) (by decide) rfl (fun ls hl => ?_)
            refine lv_goto (tgt := 4) hx hb dX7_withoutPart_41 (by decide) ?_
            exact ih_1 (i + 1) (by omega) (by omega) _ _ _ hs (lvr (lv_at hl 2 rfl) (lvc (lv_at hl 1 rfl) (by rw [ct_t (P := (fun zz => A 9 zz = -1 ∧ A 7 zz = -1)) ⟨c_5, (ge_m1 (hP i (by omega))).mpr c_6⟩]) (lvr (lv_at hl 0 rfl) (lvn hl))))
  exact L_1 (_ + 1) 0 (Nat.lt_succ_self _) (by omega) _ _ _ hs (lvr (lv_at hl 2 rfl) (lvr (lv_at hl 1 rfl) (lvr (lv_at hl 0 rfl) (lvn hl))))

set_option maxHeartbeats 4000000 in
set_option maxRecDepth 100000 in
/-- allBorders -/
theorem c_X7_allBorders (l : Launch) (x : CT) (ar fd A B : AR) (w f : Nat) (hM : ME (ar 103) A (B 1) w f) : CP l yX7_allBorders cX7_allBorders 3 (some .int) 3 71 x [.ref (xa x 102)] ar fd (fun r => r = smI (fun zz => bdI (A 9) (nI zz)) f) := by
  refine zsP (own := RX7) rfl (by decide +kernel) (Nat.le_of_ble_eq_true rfl) ?_
  intro p e s m below meth c ls E hs hl
  have hx := E.1
  have hb := E.2.1
  have hl : lv_has ls 3 [(0, .ref (xa x 102))] := hl
  obtain ⟨hE1, hE2, hE3, hE4, hE5, hE6, hE7, hEw, hEf, hEc, hEs, hfw, hw9, hw2, hP, hD⟩ := id hM
  refine lv_iconst (v := nI 0) hx hb dX7_allBorders_0 (by decide) ?_
  refine lv_istore_n (lv' := [(1, .int (nI 0)), (0, .ref (xa x 102))]) hx hb dX7_allBorders_1 rfl hl (by decide) rfl (fun ls hl => ?_)
  refine lv_iconst (v := nI 0) hx hb dX7_allBorders_2 (by decide) ?_
  refine lv_istore_n (lv' := [(2, .int (nI 0)), (1, .int (nI 0)), (0, .ref (xa x 102))]) hx hb dX7_allBorders_3 rfl hl (by decide) rfl (fun ls hl => ?_)
  have L_1 : ∀ (mm : Nat) (i : Nat), (f - i) < mm → (i ≤ f) → ∀ (H : Heap) (locs : List Loc) (ls : Array Slot), ST x (AA x) s.heap ar fd H locs → lv_has ls 3 [(0, .ref (xa x 102)), (1, .int (smI (fun zz => bdI (A 9) (nI zz)) i)), (2, .int (nI i))] → W p l e (rmZ 3 71) s m ([.ref (xa x 102)] : List Value).toArray below meth c H locs 0 0 (QP below x [.ref (xa x 102)] ar fd s (fun r => r = smI (fun zz => bdI (A 9) (nI zz)) f)) (F0 m 4 ls []) := by
    intro mm
    induction mm with
    | zero => intro i hmu; exact absurd hmu (Nat.not_lt_zero _)
    | succ mm ih_1 =>
      intro i hmu hi H locs ls hs hl
      refine lv_iload_n hx hb dX7_allBorders_4 rfl (lv_at hl 2 rfl) ?_
      refine lv_aload_n hx hb dX7_allBorders_5 rfl (lv_at hl 0 rfl) ?_
      refine zg6 E hs (k := 102) rfl 0 (by decide) rfl q_514 dX7_allBorders_6 ?_
      refine lv_bipush (v := nI 77) hx hb dX7_allBorders_9 (by decide) ?_
      refine zald E hs 103 (n := 196) (j := 77) rfl rfl (by omega) (by decide) dX7_allBorders_11 ?_
      refine tp (b := nI f) hEf ?_
      refine lv_icmp_ge (tgt := 31) hx hb dX7_allBorders_12 (by decide) (fun c_2 => ?_) (fun c_2 => ?_)
      · have c_2 : f ≤ i := (nI_leI (a := f) (b := i) (by omega) (by omega)).mp c_2
        refine lv_iload_n hx hb dX7_allBorders_31 rfl (lv_at hl 1 rfl) ?_
        exact zeP E hs (by rw [show i = f by omega]) dX7_allBorders_32
      · have c_2 : ¬ (f ≤ i) := fun h => c_2 ((nI_leI (a := f) (b := i) (by omega) (by omega)).mpr h)
        refine lv_iload_n hx hb dX7_allBorders_15 rfl (lv_at hl 1 rfl) ?_
        refine lv_aload_n hx hb dX7_allBorders_16 rfl (lv_at hl 0 rfl) ?_
        refine lv_bipush (v := nI 115) hx hb dX7_allBorders_17 (by decide) ?_
        refine lv_iload_n hx hb dX7_allBorders_19 rfl (lv_at hl 2 rfl) ?_
        refine zVP E hs lkX7_120 [.int (smI (fun zz => bdI (A 9) (nI zz)) i)] (c_X7_borders l x ar fd 115 (by decide) (A 9) hE4 (nI i) (nI_nm (by omega))) (by decide) (sh6 rfl) rfl ⟨Nat.le_of_ble_eq_true rfl, Nat.le_of_ble_eq_true rfl⟩ rfl hl.1 (Nat.le_of_ble_eq_true rfl) rfl dX7_allBorders_20 (fun r_3 H locs hp_4 hs => ?_)
        subst hp_4
        refine lv_iadd hx hb dX7_allBorders_23 ?_
        refine lv_istore_n (lv' := [(1, .int ((smI (fun zz => bdI (A 9) (nI zz)) i) + (bdI (A 9) (nI i)))), (0, .ref (xa x 102)), (2, .int (nI i))]) hx hb dX7_allBorders_24 rfl hl (by decide) rfl (fun ls hl => ?_)
        refine lv_iinc (v := nI (i + 1)) (lv' := [(2, .int (nI (i + 1))), (1, .int ((smI (fun zz => bdI (A 9) (nI zz)) i) + (bdI (A 9) (nI i)))), (0, .ref (xa x 102))]) hx hb dX7_allBorders_25 hl (k := 2) rfl (nI_inc _) (by decide) rfl (fun ls hl => ?_)
        refine lv_goto (tgt := 4) hx hb dX7_allBorders_28 (by decide) ?_
        exact ih_1 (i + 1) (by omega) (by omega) _ _ _ hs (lvr (lv_at hl 2 rfl) (lvc (lv_at hl 1 rfl) (smI_s _ _).symm (lvr (lv_at hl 0 rfl) (lvn hl))))
  exact L_1 (_ + 1) 0 (Nat.lt_succ_self _) (by omega) _ _ _ hs (lvr (lv_at hl 2 rfl) (lvc (lv_at hl 1 rfl) nI_0 (lvr (lv_at hl 0 rfl) (lvn hl))))

set_option maxHeartbeats 4000000 in
set_option maxRecDepth 100000 in
/-- cell -/
theorem c_X7_cell (l : Launch) (x : CT) (ar fd A B : AR) (w f : Nat) (hM : ME (ar 103) A (B 1) w f) (o z n : Nat) (a q : Int32) : CP l yX7_cell cX7_cell 3 (some .int) 3 71 x [.ref (xa x 102), .int a, .int q] ar fd (fun r => r = sp_cell A B w f o z n a q) := by
  refine zsP (own := RX7) rfl (by decide +kernel) (Nat.le_of_ble_eq_true rfl) ?_
  intro p e s m below meth c ls E hs hl
  have hx := E.1
  have hb := E.2.1
  have hl : lv_has ls 3 [(0, .ref (xa x 102)), (1, .int a), (2, .int q)] := hl
  obtain ⟨hE1, hE2, hE3, hE4, hE5, hE6, hE7, hEw, hEf, hEc, hEs, hfw, hw9, hw2, hP, hD⟩ := id hM
  refine lv_iload_n hx hb dX7_cell_0 rfl (lv_at hl 1 rfl) ?_
  refine zSP E hs lkX7_51 [] (c_X7_noCell l x ar fd a) ⟨Nat.le_of_ble_eq_true rfl, Nat.le_of_ble_eq_true rfl⟩ rfl hl.1 (Nat.le_of_ble_eq_true rfl) rfl dX7_cell_1 (fun r_1 H locs hp_2 hs => ?_)
  subst hp_2
  refine lv_if_eq (tgt := 9) hx hb dX7_cell_4 (by decide) (fun c_3 => ?_) (fun c_3 => ?_)
  · have c_3 : ¬ (¬ (¬ a < nI 0 ∧ ¬ nI 35 < a)) := bz_0 c_3
    obtain ⟨hlt_a, heq_a⟩ := cell_of (Classical.not_not.mp c_3) (by decide)
    rw [heq_a] at hl
    refine lv_iload_n hx hb dX7_cell_9 rfl (lv_at hl 2 rfl) ?_
    by_cases c_4 : q = nI 0
    · refine lv_tableIn (off := 34) (tgt := 44) hx hb dX7_cell_10 (by rw [c_4]; decide) (by rw [c_4]; decide) (by rw [c_4]; first | rfl | decide) (by decide) ?_
      rw [c_4] at hl
      refine lv_aload_n hx hb dX7_cell_44 rfl (lv_at hl 0 rfl) ?_
      refine zg6 E hs (k := 102) rfl 0 (by decide) rfl q_514 dX7_cell_45 ?_
      refine lv_iconst (v := nI 2) hx hb dX7_cell_48 (by decide) ?_
      refine lv_iload_n hx hb dX7_cell_49 rfl (lv_at hl 1 rfl) ?_
      refine lv_imul hx hb dX7_cell_50 ?_
      refine tp (b := nI (2 * a.toNatClampNeg)) (nI_mul _ _) ?_
      refine lv_iload_n hx hb dX7_cell_51 rfl (lv_at hl 2 rfl) ?_
      refine lv_iadd hx hb dX7_cell_52 ?_
      refine tp (b := nI ((2 * a.toNatClampNeg) + 0)) (nI_add _ _) ?_
      refine zald E hs 103 (n := 196) (j := ((2 * a.toNatClampNeg) + 0)) rfl rfl (by omega) (by decide) dX7_cell_53 ?_
      refine tp (b := A 3 a.toNatClampNeg) (hE1 _ (by omega)) ?_
      exact zeP E hs (by show _ = sp_cell A B w f o z n a q; unfold sp_cell; rw [iz_t (Classical.not_not.mp c_3), iz_t c_4] <;> rfl) dX7_cell_54
    by_cases c_5 : q = nI 1
    · refine lv_tableIn (off := 34) (tgt := 44) hx hb dX7_cell_10 (by rw [c_5]; decide) (by rw [c_5]; decide) (by rw [c_5]; first | rfl | decide) (by decide) ?_
      rw [c_5] at hl
      refine lv_aload_n hx hb dX7_cell_44 rfl (lv_at hl 0 rfl) ?_
      refine zg6 E hs (k := 102) rfl 0 (by decide) rfl q_514 dX7_cell_45 ?_
      refine lv_iconst (v := nI 2) hx hb dX7_cell_48 (by decide) ?_
      refine lv_iload_n hx hb dX7_cell_49 rfl (lv_at hl 1 rfl) ?_
      refine lv_imul hx hb dX7_cell_50 ?_
      refine tp (b := nI (2 * a.toNatClampNeg)) (nI_mul _ _) ?_
      refine lv_iload_n hx hb dX7_cell_51 rfl (lv_at hl 2 rfl) ?_
      refine lv_iadd hx hb dX7_cell_52 ?_
      refine tp (b := nI ((2 * a.toNatClampNeg) + 1)) (nI_add _ _) ?_
      refine zald E hs 103 (n := 196) (j := ((2 * a.toNatClampNeg) + 1)) rfl rfl (by omega) (by decide) dX7_cell_53 ?_
      refine tp (b := A 5 a.toNatClampNeg) (hE2 _ (by omega)) ?_
      exact zeP E hs (by show _ = sp_cell A B w f o z n a q; unfold sp_cell; rw [iz_t (Classical.not_not.mp c_3), iz_f c_4, iz_t c_5] <;> rfl) dX7_cell_54
    by_cases c_6 : q = nI 2
    · refine lv_tableIn (off := 45) (tgt := 55) hx hb dX7_cell_10 (by rw [c_6]; decide) (by rw [c_6]; decide) (by rw [c_6]; first | rfl | decide) (by decide) ?_
      rw [c_6] at hl
      refine lv_aload_n hx hb dX7_cell_55 rfl (lv_at hl 0 rfl) ?_
      refine zg6 E hs (k := 102) rfl 0 (by decide) rfl q_514 dX7_cell_56 ?_
      refine lv_bipush (v := nI 79) hx hb dX7_cell_59 (by decide) ?_
      refine lv_iload_n hx hb dX7_cell_61 rfl (lv_at hl 1 rfl) ?_
      refine lv_iadd hx hb dX7_cell_62 ?_
      refine tp (b := nI (79 + a.toNatClampNeg)) (nI_add _ _) ?_
      refine zald E hs 103 (n := 196) (j := (79 + a.toNatClampNeg)) rfl rfl (by omega) (by decide) dX7_cell_63 ?_
      refine tp (b := A 7 a.toNatClampNeg) (hE3 _ (by omega)) ?_
      refine zSP E hs lkX7_114 [] (c_X7_orNone l x ar fd (A 7 a.toNatClampNeg) (hP _ (by omega))) ⟨Nat.le_of_ble_eq_true rfl, Nat.le_of_ble_eq_true rfl⟩ rfl hl.1 (Nat.le_of_ble_eq_true rfl) rfl dX7_cell_64 (fun r_7 H locs hp_8 hs => ?_)
      subst hp_8
      exact zeP E hs (by show _ = sp_cell A B w f o z n a q; unfold sp_cell; rw [iz_t (Classical.not_not.mp c_3), iz_f c_4, iz_f c_5, iz_t c_6] <;> rfl) dX7_cell_67
    by_cases c_9 : q = nI 3
    · refine lv_tableIn (off := 58) (tgt := 68) hx hb dX7_cell_10 (by rw [c_9]; decide) (by rw [c_9]; decide) (by rw [c_9]; first | rfl | decide) (by decide) ?_
      rw [c_9] at hl
      refine lv_aload_n hx hb dX7_cell_68 rfl (lv_at hl 0 rfl) ?_
      refine zg6 E hs (k := 102) rfl 0 (by decide) rfl q_514 dX7_cell_69 ?_
      refine lv_bipush (v := nI 115) hx hb dX7_cell_72 (by decide) ?_
      refine lv_iload_n hx hb dX7_cell_74 rfl (lv_at hl 1 rfl) ?_
      refine lv_iadd hx hb dX7_cell_75 ?_
      refine tp (b := nI (115 + a.toNatClampNeg)) (nI_add _ _) ?_
      refine zald E hs 103 (n := 196) (j := (115 + a.toNatClampNeg)) rfl rfl (by omega) (by decide) dX7_cell_76 ?_
      refine tp (b := A 9 a.toNatClampNeg) (hE4 _ (by omega)) ?_
      refine zSP E hs lkX7_114 [] (c_X7_orNone l x ar fd (A 9 a.toNatClampNeg) (hD _ (by omega))) ⟨Nat.le_of_ble_eq_true rfl, Nat.le_of_ble_eq_true rfl⟩ rfl hl.1 (Nat.le_of_ble_eq_true rfl) rfl dX7_cell_77 (fun r_10 H locs hp_11 hs => ?_)
      subst hp_11
      exact zeP E hs (by show _ = sp_cell A B w f o z n a q; unfold sp_cell; rw [iz_t (Classical.not_not.mp c_3), iz_f c_4, iz_f c_5, iz_f c_6, iz_t c_9] <;> rfl) dX7_cell_80
    by_cases c_12 : q = nI 4
    · refine lv_tableIn (off := 71) (tgt := 81) hx hb dX7_cell_10 (by rw [c_12]; decide) (by rw [c_12]; decide) (by rw [c_12]; first | rfl | decide) (by decide) ?_
      rw [c_12] at hl
      refine lv_aload_n hx hb dX7_cell_81 rfl (lv_at hl 0 rfl) ?_
      refine lv_iload_n hx hb dX7_cell_82 rfl (lv_at hl 1 rfl) ?_
      refine zVP E hs lkX7_117 [] (c_X7_alikeBeside l x ar fd A B w f hM a.toNatClampNeg (by omega)) (by decide) (sh6 rfl) rfl ⟨Nat.le_of_ble_eq_true rfl, Nat.le_of_ble_eq_true rfl⟩ rfl hl.1 (Nat.le_of_ble_eq_true rfl) rfl dX7_cell_83 (fun r_13 H locs hp_14 hs => ?_)
      subst hp_14
      exact zeP E hs (by show _ = sp_cell A B w f o z n a q; unfold sp_cell; rw [iz_t (Classical.not_not.mp c_3), iz_f c_4, iz_f c_5, iz_f c_6, iz_f c_9, iz_t c_12] <;> rfl) dX7_cell_86
    refine lv_tableOut (tgt := 87) hx hb dX7_cell_10 (sw_out (n := 4) (by decide) (fun k hk => by rcases (show k = 0 ∨ k = 1 ∨ k = 2 ∨ k = 3 ∨ k = 4 by omega) with rfl | rfl | rfl | rfl | rfl <;> assumption)) (by decide) ?_
    refine lv_bipush (v := (-2)) hx hb dX7_cell_87 (by decide) ?_
    exact zeP E hs (by show _ = sp_cell A B w f o z n a q; unfold sp_cell; rw [iz_t (Classical.not_not.mp c_3), iz_f c_4, iz_f c_5, iz_f c_6, iz_f c_9, iz_f c_12] <;> rfl) dX7_cell_89
  · have c_3 : ¬ (¬ a < nI 0 ∧ ¬ nI 35 < a) := bz_1 c_3
    refine lv_iconst (v := (-1)) hx hb dX7_cell_7 (by decide) ?_
    exact zeP E hs (by show _ = sp_cell A B w f o z n a q; unfold sp_cell; rw [iz_f c_3] <;> rfl) dX7_cell_8

set_option maxHeartbeats 4000000 in
set_option maxRecDepth 100000 in
/-- district -/
theorem c_X7_district (l : Launch) (x : CT) (ar fd A B : AR) (w f : Nat) (hM : ME (ar 103) A (B 1) w f) (o z n : Nat) (a q : Int32) : CP l yX7_district cX7_district 3 (some .int) 3 71 x [.ref (xa x 102), .int a, .int q] ar fd (fun r => r = sp_district A B w f o z n a q) := by
  refine zsP (own := RX7) rfl (by decide +kernel) (Nat.le_of_ble_eq_true rfl) ?_
  intro p e s m below meth c ls E hs hl
  have hx := E.1
  have hb := E.2.1
  have hl : lv_has ls 3 [(0, .ref (xa x 102)), (1, .int a), (2, .int q)] := hl
  obtain ⟨hE1, hE2, hE3, hE4, hE5, hE6, hE7, hEw, hEf, hEc, hEs, hfw, hw9, hw2, hP, hD⟩ := id hM
  refine lv_iload_n hx hb dX7_district_0 rfl (lv_at hl 1 rfl) ?_
  refine lv_iconst (v := nI 0) hx hb dX7_district_1 (by decide) ?_
  refine lv_aload_n hx hb dX7_district_2 rfl (lv_at hl 0 rfl) ?_
  refine zg6 E hs (k := 102) rfl 0 (by decide) rfl q_514 dX7_district_3 ?_
  refine lv_bipush (v := nI 77) hx hb dX7_district_6 (by decide) ?_
  refine zald E hs 103 (n := 196) (j := 77) rfl rfl (by omega) (by decide) dX7_district_8 ?_
  refine tp (b := nI f) hEf ?_
  refine lv_iconst (v := nI 1) hx hb dX7_district_9 (by decide) ?_
  refine lv_isub hx hb dX7_district_10 ?_
  refine zSP E hs lkX7_36 [] (c_X7_in l x ar fd a (nI 0) ((nI f) - (nI 1))) ⟨Nat.le_of_ble_eq_true rfl, Nat.le_of_ble_eq_true rfl⟩ rfl hl.1 (Nat.le_of_ble_eq_true rfl) rfl dX7_district_11 (fun r_1 H locs hp_2 hs => ?_)
  subst hp_2
  refine lv_if_ne (tgt := 19) hx hb dX7_district_14 (by decide) (fun c_3 => ?_) (fun c_3 => ?_)
  · have c_3 : ¬ a < nI 0 ∧ ¬ (nI f) - (nI 1) < a := bz_1 c_3
    obtain ⟨hlt_a, heq_a⟩ := dist_of c_3 (by omega)
    rw [heq_a] at hl
    refine lv_iload_n hx hb dX7_district_19 rfl (lv_at hl 2 rfl) ?_
    by_cases c_4 : q = nI 0
    · refine lv_tableIn (off := 48) (tgt := 68) hx hb dX7_district_20 (by rw [c_4]; decide) (by rw [c_4]; decide) (by rw [c_4]; first | rfl | decide) (by decide) ?_
      rw [c_4] at hl
      refine lv_aload_n hx hb dX7_district_68 rfl (lv_at hl 0 rfl) ?_
      refine lv_bipush (v := nI 115) hx hb dX7_district_69 (by decide) ?_
      refine lv_iload_n hx hb dX7_district_71 rfl (lv_at hl 1 rfl) ?_
      refine zVP E hs lkX7_80 [] (c_X7_cells l x ar fd 115 (by decide) (A 9) hE4 (nI a.toNatClampNeg)) (by decide) (sh6 rfl) rfl ⟨Nat.le_of_ble_eq_true rfl, Nat.le_of_ble_eq_true rfl⟩ rfl hl.1 (Nat.le_of_ble_eq_true rfl) rfl dX7_district_72 (fun r_5 H locs hp_6 hs => ?_)
      subst hp_6
      exact zeP E hs (by show _ = sp_district A B w f o z n a q; unfold sp_district sp_tellArea; rw [iz_t c_3, c_4, iz_f (show ¬ nI 0 = nI 1 by decide), iz_f (show ¬ nI 0 = nI 6 by decide), iz_f (show ¬ nI 0 = nI 7 by decide), iz_t rfl] <;> rfl) dX7_district_75
    by_cases c_7 : q = nI 1
    · refine lv_tableIn (off := 56) (tgt := 76) hx hb dX7_district_20 (by rw [c_7]; decide) (by rw [c_7]; decide) (by rw [c_7]; first | rfl | decide) (by decide) ?_
      rw [c_7] at hl
      refine lv_aload_n hx hb dX7_district_76 rfl (lv_at hl 0 rfl) ?_
      refine zg6 E hs (k := 102) rfl 0 (by decide) rfl q_514 dX7_district_77 ?_
      refine lv_sipush (v := nI 187) hx hb dX7_district_80 (by decide) ?_
      refine lv_iload_n hx hb dX7_district_83 rfl (lv_at hl 1 rfl) ?_
      refine lv_iadd hx hb dX7_district_84 ?_
      refine tp (b := nI (187 + a.toNatClampNeg)) (nI_add _ _) ?_
      refine zald E hs 103 (n := 196) (j := (187 + a.toNatClampNeg)) rfl rfl (by omega) (by decide) dX7_district_85 ?_
      refine tp (b := A 13 a.toNatClampNeg) (hE5 _ (by omega)) ?_
      exact zeP E hs (by show _ = sp_district A B w f o z n a q; unfold sp_district sp_tellArea; rw [iz_t c_3, c_7, iz_t rfl] <;> rfl) dX7_district_86
    by_cases c_8 : q = nI 2
    · refine lv_tableIn (off := 67) (tgt := 87) hx hb dX7_district_20 (by rw [c_8]; decide) (by rw [c_8]; decide) (by rw [c_8]; first | rfl | decide) (by decide) ?_
      rw [c_8] at hl
      refine lv_aload_n hx hb dX7_district_87 rfl (lv_at hl 0 rfl) ?_
      refine lv_bipush (v := nI 115) hx hb dX7_district_88 (by decide) ?_
      refine lv_iload_n hx hb dX7_district_90 rfl (lv_at hl 1 rfl) ?_
      refine zVP E hs lkX7_120 [] (c_X7_borders l x ar fd 115 (by decide) (A 9) hE4 (nI a.toNatClampNeg) (nI_nm (by omega))) (by decide) (sh6 rfl) rfl ⟨Nat.le_of_ble_eq_true rfl, Nat.le_of_ble_eq_true rfl⟩ rfl hl.1 (Nat.le_of_ble_eq_true rfl) rfl dX7_district_91 (fun r_9 H locs hp_10 hs => ?_)
      subst hp_10
      exact zeP E hs (by show _ = sp_district A B w f o z n a q; unfold sp_district sp_tellArea; rw [iz_t c_3, c_8, iz_f (show ¬ nI 2 = nI 1 by decide), iz_f (show ¬ nI 2 = nI 6 by decide), iz_f (show ¬ nI 2 = nI 7 by decide), iz_f (show ¬ nI 2 = nI 0 by decide), iz_f (show ¬ nI 2 = nI 1 by decide), iz_t rfl] <;> rfl) dX7_district_94
    by_cases c_11 : q = nI 3
    · refine lv_tableIn (off := 75) (tgt := 95) hx hb dX7_district_20 (by rw [c_11]; decide) (by rw [c_11]; decide) (by rw [c_11]; first | rfl | decide) (by decide) ?_
      rw [c_11] at hl
      refine lv_sipush (v := nI 1000) hx hb dX7_district_95 (by decide) ?_
      refine lv_aload_n hx hb dX7_district_98 rfl (lv_at hl 0 rfl) ?_
      refine lv_bipush (v := nI 115) hx hb dX7_district_99 (by decide) ?_
      refine lv_iload_n hx hb dX7_district_101 rfl (lv_at hl 1 rfl) ?_
      refine zVP E hs lkX7_63 [.int (nI 1000)] (c_X7_margin l x ar fd A B w f hM 115 (by decide) 8 hE4 (nI a.toNatClampNeg)) (by decide) (sh6 rfl) rfl ⟨Nat.le_of_ble_eq_true rfl, Nat.le_of_ble_eq_true rfl⟩ rfl hl.1 (Nat.le_of_ble_eq_true rfl) rfl dX7_district_102 (fun r_12 H locs hp_13 hs => ?_)
      subst hp_13
      refine lv_iadd hx hb dX7_district_105 ?_
      exact zeP E hs (by show _ = sp_district A B w f o z n a q; unfold sp_district sp_tellArea; rw [iz_t c_3, c_11, iz_f (show ¬ nI 3 = nI 1 by decide), iz_f (show ¬ nI 3 = nI 6 by decide), iz_f (show ¬ nI 3 = nI 7 by decide), iz_f (show ¬ nI 3 = nI 0 by decide), iz_f (show ¬ nI 3 = nI 1 by decide), iz_f (show ¬ nI 3 = nI 2 by decide), iz_t rfl] <;> rfl) dX7_district_106
    by_cases c_14 : q = nI 4
    · refine lv_tableIn (off := 87) (tgt := 107) hx hb dX7_district_20 (by rw [c_14]; decide) (by rw [c_14]; decide) (by rw [c_14]; first | rfl | decide) (by decide) ?_
      rw [c_14] at hl
      refine lv_aload_n hx hb dX7_district_107 rfl (lv_at hl 0 rfl) ?_
      refine lv_bipush (v := nI 115) hx hb dX7_district_108 (by decide) ?_
      refine lv_iload_n hx hb dX7_district_110 rfl (lv_at hl 1 rfl) ?_
      refine zVP E hs lkX7_123 [] (c_X7_winner l x ar fd A B w f hM 115 (by decide) 8 hE4 (nI a.toNatClampNeg)) (by decide) (sh6 rfl) rfl ⟨Nat.le_of_ble_eq_true rfl, Nat.le_of_ble_eq_true rfl⟩ rfl hl.1 (Nat.le_of_ble_eq_true rfl) rfl dX7_district_111 (fun r_15 H locs hp_16 hs => ?_)
      subst hp_16
      exact zeP E hs (by show _ = sp_district A B w f o z n a q; unfold sp_district sp_tellArea; rw [iz_t c_3, c_14, iz_f (show ¬ nI 4 = nI 1 by decide), iz_f (show ¬ nI 4 = nI 6 by decide), iz_f (show ¬ nI 4 = nI 7 by decide), iz_f (show ¬ nI 4 = nI 0 by decide), iz_f (show ¬ nI 4 = nI 1 by decide), iz_f (show ¬ nI 4 = nI 2 by decide), iz_f (show ¬ nI 4 = nI 3 by decide), iz_t rfl] <;> rfl) dX7_district_114
    by_cases c_17 : q = nI 5
    · refine lv_tableIn (off := 95) (tgt := 115) hx hb dX7_district_20 (by rw [c_17]; decide) (by rw [c_17]; decide) (by rw [c_17]; first | rfl | decide) (by decide) ?_
      rw [c_17] at hl
      refine lv_aload_n hx hb dX7_district_115 rfl (lv_at hl 0 rfl) ?_
      refine lv_bipush (v := nI 115) hx hb dX7_district_116 (by decide) ?_
      refine lv_iload_n hx hb dX7_district_118 rfl (lv_at hl 1 rfl) ?_
      refine zVP E hs lkX7_126 [] (c_X7_lowest l x ar fd 115 (by decide) (A 9) hE4 (nI a.toNatClampNeg)) (by decide) (sh6 rfl) rfl ⟨Nat.le_of_ble_eq_true rfl, Nat.le_of_ble_eq_true rfl⟩ rfl hl.1 (Nat.le_of_ble_eq_true rfl) rfl dX7_district_119 (fun r_18 H locs hp_19 hs => ?_)
      subst hp_19
      exact zeP E hs (by show _ = sp_district A B w f o z n a q; unfold sp_district sp_tellArea; rw [iz_t c_3, c_17, iz_f (show ¬ nI 5 = nI 1 by decide), iz_f (show ¬ nI 5 = nI 6 by decide), iz_f (show ¬ nI 5 = nI 7 by decide), iz_f (show ¬ nI 5 = nI 0 by decide), iz_f (show ¬ nI 5 = nI 1 by decide), iz_f (show ¬ nI 5 = nI 2 by decide), iz_f (show ¬ nI 5 = nI 3 by decide), iz_f (show ¬ nI 5 = nI 4 by decide), iz_t rfl] <;> rfl) dX7_district_122
    by_cases c_20 : q = nI 6
    · refine lv_tableIn (off := 103) (tgt := 123) hx hb dX7_district_20 (by rw [c_20]; decide) (by rw [c_20]; decide) (by rw [c_20]; first | rfl | decide) (by decide) ?_
      rw [c_20] at hl
      refine lv_aload_n hx hb dX7_district_123 rfl (lv_at hl 0 rfl) ?_
      refine lv_iload_n hx hb dX7_district_124 rfl (lv_at hl 1 rfl) ?_
      refine lv_iload_n hx hb dX7_district_125 rfl (lv_at hl 2 rfl) ?_
      refine lv_bipush (v := nI 6) hx hb dX7_district_126 (by decide) ?_
      refine lv_isub hx hb dX7_district_128 ?_
      refine tp (b := nI 0) (by decide) ?_
      refine zVP E hs lkX7_129 [] (c_X7_wasted l x ar fd A B w f hM (nI a.toNatClampNeg) 0 (by omega)) (by decide) (sh6 rfl) rfl ⟨Nat.le_of_ble_eq_true rfl, Nat.le_of_ble_eq_true rfl⟩ rfl hl.1 (Nat.le_of_ble_eq_true rfl) rfl dX7_district_129 (fun r_21 H locs hp_22 hs => ?_)
      subst hp_22
      exact zeP E hs (by show _ = sp_district A B w f o z n a q; unfold sp_district sp_tellArea; rw [iz_t c_3, c_20, iz_f (show ¬ nI 6 = nI 1 by decide), iz_t rfl] <;> rfl) dX7_district_132
    by_cases c_23 : q = nI 7
    · refine lv_tableIn (off := 103) (tgt := 123) hx hb dX7_district_20 (by rw [c_23]; decide) (by rw [c_23]; decide) (by rw [c_23]; first | rfl | decide) (by decide) ?_
      rw [c_23] at hl
      refine lv_aload_n hx hb dX7_district_123 rfl (lv_at hl 0 rfl) ?_
      refine lv_iload_n hx hb dX7_district_124 rfl (lv_at hl 1 rfl) ?_
      refine lv_iload_n hx hb dX7_district_125 rfl (lv_at hl 2 rfl) ?_
      refine lv_bipush (v := nI 6) hx hb dX7_district_126 (by decide) ?_
      refine lv_isub hx hb dX7_district_128 ?_
      refine tp (b := nI 1) (by decide) ?_
      refine zVP E hs lkX7_129 [] (c_X7_wasted l x ar fd A B w f hM (nI a.toNatClampNeg) 1 (by omega)) (by decide) (sh6 rfl) rfl ⟨Nat.le_of_ble_eq_true rfl, Nat.le_of_ble_eq_true rfl⟩ rfl hl.1 (Nat.le_of_ble_eq_true rfl) rfl dX7_district_129 (fun r_24 H locs hp_25 hs => ?_)
      subst hp_25
      exact zeP E hs (by show _ = sp_district A B w f o z n a q; unfold sp_district sp_tellArea; rw [iz_t c_3, c_23, iz_f (show ¬ nI 7 = nI 1 by decide), iz_f (show ¬ nI 7 = nI 6 by decide), iz_t rfl] <;> rfl) dX7_district_132
    refine lv_tableOut (tgt := 133) hx hb dX7_district_20 (sw_out (n := 7) (by decide) (fun k hk => by rcases (show k = 0 ∨ k = 1 ∨ k = 2 ∨ k = 3 ∨ k = 4 ∨ k = 5 ∨ k = 6 ∨ k = 7 by omega) with rfl | rfl | rfl | rfl | rfl | rfl | rfl | rfl <;> assumption)) (by decide) ?_
    refine lv_bipush (v := (-2)) hx hb dX7_district_133 (by decide) ?_
    exact zeP E hs (by show _ = sp_district A B w f o z n a q; unfold sp_district sp_tellArea; rw [iz_t c_3, iz_f c_7, iz_f c_20, iz_f c_23, iz_f c_4, iz_f c_7, iz_f c_8, iz_f c_11, iz_f c_14, iz_f c_17] <;> rfl) dX7_district_135
  · have c_3 : ¬ (¬ a < nI 0 ∧ ¬ (nI f) - (nI 1) < a) := bz_0 c_3
    refine lv_iconst (v := (-1)) hx hb dX7_district_17 (by decide) ?_
    exact zeP E hs (by show _ = sp_district A B w f o z n a q; unfold sp_district; rw [iz_f c_3]) dX7_district_18

set_option maxHeartbeats 4000000 in
set_option maxRecDepth 100000 in
/-- party -/
theorem c_X7_party (l : Launch) (x : CT) (ar fd A B : AR) (w f : Nat) (hM : ME (ar 103) A (B 1) w f) (o z n : Nat) (a q : Int32) : CP l yX7_party cX7_party 5 (some .int) 4 93 x [.ref (xa x 102), .int a, .int q] ar fd (fun r => r = sp_party A B w f o z n a q) := by
  refine zsP (own := RX7) rfl (by decide +kernel) (Nat.le_of_ble_eq_true rfl) ?_
  intro p e s m below meth c ls E hs hl
  have hx := E.1
  have hb := E.2.1
  have hl : lv_has ls 5 [(0, .ref (xa x 102)), (1, .int a), (2, .int q)] := hl
  obtain ⟨hE1, hE2, hE3, hE4, hE5, hE6, hE7, hEw, hEf, hEc, hEs, hfw, hw9, hw2, hP, hD⟩ := id hM
  refine lv_iload_n hx hb dX7_party_0 rfl (lv_at hl 1 rfl) ?_
  refine lv_iconst (v := nI 0) hx hb dX7_party_1 (by decide) ?_
  refine lv_iconst (v := nI 1) hx hb dX7_party_2 (by decide) ?_
  refine zSP E hs lkX7_36 [] (c_X7_in l x ar fd a (nI 0) (nI 1)) ⟨Nat.le_of_ble_eq_true rfl, Nat.le_of_ble_eq_true rfl⟩ rfl hl.1 (Nat.le_of_ble_eq_true rfl) rfl dX7_party_3 (fun r_1 H locs hp_2 hs => ?_)
  subst hp_2
  refine lv_if_ne (tgt := 11) hx hb dX7_party_6 (by decide) (fun c_3 => ?_) (fun c_3 => ?_)
  · have c_3 : ¬ a < nI 0 ∧ ¬ nI 1 < a := bz_1 c_3
    obtain ⟨hlt_a, heq_a⟩ := cell_of c_3 (by decide)
    rw [heq_a] at hl
    refine lv_iconst (v := nI 0) hx hb dX7_party_11 (by decide) ?_
    refine lv_istore_n (lv' := [(3, .int (nI 0)), (0, .ref (xa x 102)), (1, .int (nI a.toNatClampNeg)), (2, .int q)]) hx hb dX7_party_12 rfl hl (by decide) rfl (fun ls hl => ?_)
    refine lv_iload_n hx hb dX7_party_13 rfl (lv_at hl 3 rfl) ?_
    by_cases c_4 : q = nI 0
    · refine lv_tableIn (off := 34) (tgt := 48) hx hb dX7_party_14 (by rw [c_4]; decide) (by rw [c_4]; decide) (by rw [c_4]; first | rfl | decide) (by decide) ?_
      rw [c_4] at hl
      refine lv_aload_n hx hb dX7_party_48 rfl (lv_at hl 1 rfl) ?_
      refine lv_iload_n hx hb dX7_party_49 rfl (lv_at hl 2 rfl) ?_
      refine zVP E hs lkX7_132 [] (c_X7_seats l x ar fd A B w f hM (nI a.toNatClampNeg)) (by decide) (sh6 rfl) rfl ⟨Nat.le_of_ble_eq_true rfl, Nat.le_of_ble_eq_true rfl⟩ rfl hl.1 (Nat.le_of_ble_eq_true rfl) rfl dX7_party_50 (fun r_5 H locs hp_6 hs => ?_)
      subst hp_6
      exact zeP E hs (by show _ = sp_party A B w f o z n a q; unfold sp_party; rw [iz_t c_3, iz_t c_4] <;> rfl) dX7_party_53
    by_cases c_7 : q = nI 1
    · refine lv_tableIn (off := 40) (tgt := 54) hx hb dX7_party_14 (by rw [c_7]; decide) (by rw [c_7]; decide) (by rw [c_7]; first | rfl | decide) (by decide) ?_
      rw [c_7] at hl
      refine lv_aload_n hx hb dX7_party_54 rfl (lv_at hl 1 rfl) ?_
      refine lv_iload_n hx hb dX7_party_55 rfl (lv_at hl 2 rfl) ?_
      refine zVP E hs lkX7_135 [] (c_X7_votesOnMap l x ar fd A B w f hM a.toNatClampNeg (by omega)) (by decide) (sh6 rfl) rfl ⟨Nat.le_of_ble_eq_true rfl, Nat.le_of_ble_eq_true rfl⟩ rfl hl.1 (Nat.le_of_ble_eq_true rfl) rfl dX7_party_56 (fun r_8 H locs hp_9 hs => ?_)
      subst hp_9
      exact zeP E hs (by show _ = sp_party A B w f o z n a q; unfold sp_party; rw [iz_t c_3, iz_f c_4, iz_t c_7] <;> rfl) dX7_party_59
    by_cases c_10 : q = nI 2
    · refine lv_tableIn (off := 46) (tgt := 60) hx hb dX7_party_14 (by rw [c_10]; decide) (by rw [c_10]; decide) (by rw [c_10]; first | rfl | decide) (by decide) ?_
      rw [c_10] at hl
      refine lv_iconst (v := nI 0) hx hb dX7_party_60 (by decide) ?_
      refine lv_istore (lv' := [(4, .int (nI 0)), (3, .int (nI 0)), (0, .ref (xa x 102)), (1, .int (nI a.toNatClampNeg)), (2, .int (nI 2))]) hx hb dX7_party_61 hl (by decide) rfl (fun ls hl => ?_)
      have L_11 : ∀ (mm : Nat) (i : Nat), (f - i) < mm → (i ≤ f) → ∀ (H : Heap) (locs : List Loc) (ls : Array Slot), ST x (AA x) s.heap ar fd H locs → lv_has ls 5 [(0, .ref (xa x 102)), (1, .int (nI a.toNatClampNeg)), (3, .int (smI (fun zz => wst A (nI zz) (nI a.toNatClampNeg)) i)), (4, .int (nI i))] → W p l e (rmZ 4 93) s m ([.ref (xa x 102), .int a, .int q] : List Value).toArray below meth c H locs 0 0 (QP below x [.ref (xa x 102), .int a, .int q] ar fd s (fun r => r = sp_party A B w f o z n a q)) (F0 m 63 ls []) := by
        intro mm
        induction mm with
        | zero => intro i hmu; exact absurd hmu (Nat.not_lt_zero _)
        | succ mm ih_11 =>
          intro i hmu hi H locs ls hs hl
          refine lv_iload hx hb dX7_party_63 (lv_at hl 3 rfl) ?_
          refine lv_aload_n hx hb dX7_party_65 rfl (lv_at hl 0 rfl) ?_
          refine zg6 E hs (k := 102) rfl 0 (by decide) rfl q_514 dX7_party_66 ?_
          refine lv_bipush (v := nI 77) hx hb dX7_party_69 (by decide) ?_
          refine zald E hs 103 (n := 196) (j := 77) rfl rfl (by omega) (by decide) dX7_party_71 ?_
          refine tp (b := nI f) hEf ?_
          refine lv_icmp_ge (tgt := 91) hx hb dX7_party_72 (by decide) (fun c_12 => ?_) (fun c_12 => ?_)
          · have c_12 : f ≤ i := (nI_leI (a := f) (b := i) (by omega) (by omega)).mp c_12
            refine lv_iload_n hx hb dX7_party_91 rfl (lv_at hl 2 rfl) ?_
            exact zeP E hs (by show _ = sp_party A B w f o z n a q; rw [show i = f by omega]; unfold sp_party; rw [iz_t c_3, iz_f c_4, iz_f c_7, iz_t c_10] <;> rfl) dX7_party_92
          · have c_12 : ¬ (f ≤ i) := fun h => c_12 ((nI_leI (a := f) (b := i) (by omega) (by omega)).mpr h)
            refine lv_iload_n hx hb dX7_party_75 rfl (lv_at hl 2 rfl) ?_
            refine lv_aload_n hx hb dX7_party_76 rfl (lv_at hl 0 rfl) ?_
            refine lv_iload hx hb dX7_party_77 (lv_at hl 3 rfl) ?_
            refine lv_iload_n hx hb dX7_party_79 rfl (lv_at hl 1 rfl) ?_
            refine zVP E hs lkX7_129 [.int (smI (fun zz => wst A (nI zz) (nI a.toNatClampNeg)) i)] (c_X7_wasted l x ar fd A B w f hM (nI i) a.toNatClampNeg (by omega)) (by decide) (sh6 rfl) rfl ⟨Nat.le_of_ble_eq_true rfl, Nat.le_of_ble_eq_true rfl⟩ rfl hl.1 (Nat.le_of_ble_eq_true rfl) rfl dX7_party_80 (fun r_13 H locs hp_14 hs => ?_)
            subst hp_14
            refine lv_iadd hx hb dX7_party_83 ?_
            refine lv_istore_n (lv' := [(3, .int ((smI (fun zz => wst A (nI zz) (nI a.toNatClampNeg)) i) + (wst A (nI i) (nI a.toNatClampNeg)))), (0, .ref (xa x 102)), (1, .int (nI a.toNatClampNeg)), (4, .int (nI i))]) hx hb dX7_party_84 rfl hl (by decide) rfl (fun ls hl => ?_)
            refine lv_iinc (v := nI (i + 1)) (lv' := [(4, .int (nI (i + 1))), (3, .int ((smI (fun zz => wst A (nI zz) (nI a.toNatClampNeg)) i) + (wst A (nI i) (nI a.toNatClampNeg)))), (0, .ref (xa x 102)), (1, .int (nI a.toNatClampNeg))]) hx hb dX7_party_85 hl (k := 3) rfl (nI_inc _) (by decide) rfl (fun ls hl => ?_)
            refine lv_goto (tgt := 63) hx hb dX7_party_88 (by decide) ?_
            exact ih_11 (i + 1) (by omega) (by omega) _ _ _ hs (lvr (lv_at hl 2 rfl) (lvr (lv_at hl 3 rfl) (lvc (lv_at hl 1 rfl) (smI_s _ _).symm (lvr (lv_at hl 0 rfl) (lvn hl)))))
      exact L_11 (_ + 1) 0 (Nat.lt_succ_self _) (by omega) _ _ _ hs (lvr (lv_at hl 2 rfl) (lvr (lv_at hl 3 rfl) (lvc (lv_at hl 1 rfl) nI_0 (lvr (lv_at hl 0 rfl) (lvn hl)))))
    by_cases c_15 : q = nI 3
    · refine lv_tableIn (off := 79) (tgt := 93) hx hb dX7_party_14 (by rw [c_15]; decide) (by rw [c_15]; decide) (by rw [c_15]; first | rfl | decide) (by decide) ?_
      rw [c_15] at hl
      refine lv_sipush (v := nI 1000) hx hb dX7_party_93 (by decide) ?_
      refine lv_aload_n hx hb dX7_party_96 rfl (lv_at hl 1 rfl) ?_
      refine lv_iload_n hx hb dX7_party_97 rfl (lv_at hl 2 rfl) ?_
      refine zVP E hs lkX7_132 [.int (nI 1000)] (c_X7_seats l x ar fd A B w f hM (nI a.toNatClampNeg)) (by decide) (sh6 rfl) rfl ⟨Nat.le_of_ble_eq_true rfl, Nat.le_of_ble_eq_true rfl⟩ rfl hl.1 (Nat.le_of_ble_eq_true rfl) rfl dX7_party_98 (fun r_16 H locs hp_17 hs => ?_)
      subst hp_17
      refine lv_iadd hx hb dX7_party_101 ?_
      refine tp (b := nI (1000 + (ct (fun zz => wnI (mg A 8 (nI zz) (nI 0)) = nI a.toNatClampNeg) f))) (nI_add _ _) ?_
      refine lv_aload_n hx hb dX7_party_102 rfl (lv_at hl 1 rfl) ?_
      refine zg6 E hs (k := 102) rfl 0 (by decide) rfl q_514 dX7_party_103 ?_
      refine lv_bipush (v := nI 73) hx hb dX7_party_106 (by decide) ?_
      refine lv_iload_n hx hb dX7_party_108 rfl (lv_at hl 2 rfl) ?_
      refine lv_iadd hx hb dX7_party_109 ?_
      refine tp (b := nI (73 + a.toNatClampNeg)) (nI_add _ _) ?_
      refine zald E hs 103 (n := 196) (j := (73 + a.toNatClampNeg)) rfl rfl (by omega) (by decide) dX7_party_110 ?_
      refine tp (b := A 15 a.toNatClampNeg) (me_t hM (by omega)) ?_
      refine lv_isub hx hb dX7_party_111 ?_
      exact zeP E hs (by show _ = sp_party A B w f o z n a q; unfold sp_party; rw [iz_t c_3, iz_f c_4, iz_f c_7, iz_f c_10, iz_t c_15] <;> rfl) dX7_party_112
    by_cases c_18 : q = nI 4
    · refine lv_tableIn (off := 99) (tgt := 113) hx hb dX7_party_14 (by rw [c_18]; decide) (by rw [c_18]; decide) (by rw [c_18]; first | rfl | decide) (by decide) ?_
      rw [c_18] at hl
      refine lv_iconst (v := nI 0) hx hb dX7_party_113 (by decide) ?_
      refine lv_istore (lv' := [(4, .int (nI 0)), (3, .int (nI 0)), (0, .ref (xa x 102)), (1, .int (nI a.toNatClampNeg)), (2, .int (nI 4))]) hx hb dX7_party_114 hl (by decide) rfl (fun ls hl => ?_)
      have L_19 : ∀ (mm : Nat) (i : Nat), (w - f - i) < mm → (i ≤ w - f) → ∀ (H : Heap) (locs : List Loc) (ls : Array Slot), ST x (AA x) s.heap ar fd H locs → lv_has ls 5 [(0, .ref (xa x 102)), (1, .int (nI a.toNatClampNeg)), (3, .int (nI (ct (fun zz => wnI (mg A 6 (nI zz) (nI 0)) = nI a.toNatClampNeg) i))), (4, .int (nI i))] → W p l e (rmZ 4 93) s m ([.ref (xa x 102), .int a, .int q] : List Value).toArray below meth c H locs 0 0 (QP below x [.ref (xa x 102), .int a, .int q] ar fd s (fun r => r = sp_party A B w f o z n a q)) (F0 m 116 ls []) := by
        intro mm
        induction mm with
        | zero => intro i hmu; exact absurd hmu (Nat.not_lt_zero _)
        | succ mm ih_19 =>
          intro i hmu hi H locs ls hs hl
          refine lv_iload hx hb dX7_party_116 (lv_at hl 3 rfl) ?_
          refine lv_aload_n hx hb dX7_party_118 rfl (lv_at hl 0 rfl) ?_
          refine zVP E hs lkX7_77 [.int (nI i)] (c_X7_left l x ar fd A B w f hM) (by decide) (sh6 rfl) rfl ⟨Nat.le_of_ble_eq_true rfl, Nat.le_of_ble_eq_true rfl⟩ rfl hl.1 (Nat.le_of_ble_eq_true rfl) rfl dX7_party_119 (fun r_20 H locs hp_21 hs => ?_)
          subst hp_21
          refine lv_icmp_ge (tgt := 151) hx hb dX7_party_122 (by decide) (fun c_22 => ?_) (fun c_22 => ?_)
          · have c_22 : w - f ≤ i := (nI_leI (a := w - f) (b := i) (by omega) (by omega)).mp c_22
            refine lv_iload_n hx hb dX7_party_151 rfl (lv_at hl 2 rfl) ?_
            exact zeP E hs (by show _ = sp_party A B w f o z n a q; rw [show i = w - f by omega]; unfold sp_party; rw [iz_t c_3, iz_f c_4, iz_f c_7, iz_f c_10, iz_f c_15, iz_t c_18] <;> rfl) dX7_party_152
          · have c_22 : ¬ (w - f ≤ i) := fun h => c_22 ((nI_leI (a := w - f) (b := i) (by omega) (by omega)).mpr h)
            refine lv_iload_n hx hb dX7_party_125 rfl (lv_at hl 2 rfl) ?_
            refine lv_aload_n hx hb dX7_party_126 rfl (lv_at hl 0 rfl) ?_
            refine lv_bipush (v := nI 79) hx hb dX7_party_127 (by decide) ?_
            refine lv_iload hx hb dX7_party_129 (lv_at hl 3 rfl) ?_
            refine zVP E hs lkX7_123 [.int (nI (ct (fun zz => wnI (mg A 6 (nI zz) (nI 0)) = nI a.toNatClampNeg) i))] (c_X7_winner l x ar fd A B w f hM 79 (by decide) 6 hE3 (nI i)) (by decide) (sh6 rfl) rfl ⟨Nat.le_of_ble_eq_true rfl, Nat.le_of_ble_eq_true rfl⟩ rfl hl.1 (Nat.le_of_ble_eq_true rfl) rfl dX7_party_131 (fun r_23 H locs hp_24 hs => ?_)
            subst hp_24
            refine lv_iload_n hx hb dX7_party_134 rfl (lv_at hl 1 rfl) ?_
            refine lv_icmp_ne (tgt := 142) hx hb dX7_party_135 (by decide) (fun c_25 => ?_) (fun c_25 => ?_)
            · refine lv_iconst (v := nI 0) hx hb dX7_party_142 (by decide) ?_
              refine lv_iadd hx hb dX7_party_143 ?_
              refine tp (b := nI ((ct (fun zz => wnI (mg A 6 (nI zz) (nI 0)) = nI a.toNatClampNeg) i) + 0)) (nI_add _ _) ?_
              refine lv_istore_n (lv' := [(3, .int (nI ((ct (fun zz => wnI (mg A 6 (nI zz) (nI 0)) = nI a.toNatClampNeg) i) + 0))), (0, .ref (xa x 102)), (1, .int (nI a.toNatClampNeg)), (4, .int (nI i))]) hx hb dX7_party_144 rfl hl (by decide) rfl (fun ls hl => ?_)
              refine lv_iinc (v := nI (i + 1)) (lv' := [(4, .int (nI (i + 1))), (3, .int (nI ((ct (fun zz => wnI (mg A 6 (nI zz) (nI 0)) = nI a.toNatClampNeg) i) + 0))), (0, .ref (xa x 102)), (1, .int (nI a.toNatClampNeg))]) hx hb dX7_party_145 hl (k := 3) rfl (nI_inc _) (by decide) rfl (fun ls hl => ?_)
              refine lv_goto (tgt := 116) hx hb dX7_party_148 (by decide) ?_
              exact ih_19 (i + 1) (by omega) (by omega) _ _ _ hs (lvr (lv_at hl 2 rfl) (lvr (lv_at hl 3 rfl) (lvc (lv_at hl 1 rfl) (by rw [ct_f (P := (fun zz => wnI (mg A 6 (nI zz) (nI 0)) = nI a.toNatClampNeg)) c_25, Nat.add_zero]) (lvr (lv_at hl 0 rfl) (lvn hl)))))
            · refine lv_iconst (v := nI 1) hx hb dX7_party_138 (by decide) ?_
              refine lv_goto (tgt := 143) hx hb dX7_party_139 (by decide) ?_
              refine lv_iadd hx hb dX7_party_143 ?_
              refine tp (b := nI ((ct (fun zz => wnI (mg A 6 (nI zz) (nI 0)) = nI a.toNatClampNeg) i) + 1)) (nI_add _ _) ?_
              refine lv_istore_n (lv' := [(3, .int (nI ((ct (fun zz => wnI (mg A 6 (nI zz) (nI 0)) = nI a.toNatClampNeg) i) + 1))), (0, .ref (xa x 102)), (1, .int (nI a.toNatClampNeg)), (4, .int (nI i))]) hx hb dX7_party_144 rfl hl (by decide) rfl (fun ls hl => ?_)
              refine lv_iinc (v := nI (i + 1)) (lv' := [(4, .int (nI (i + 1))), (3, .int (nI ((ct (fun zz => wnI (mg A 6 (nI zz) (nI 0)) = nI a.toNatClampNeg) i) + 1))), (0, .ref (xa x 102)), (1, .int (nI a.toNatClampNeg))]) hx hb dX7_party_145 hl (k := 3) rfl (nI_inc _) (by decide) rfl (fun ls hl => ?_)
              refine lv_goto (tgt := 116) hx hb dX7_party_148 (by decide) ?_
              exact ih_19 (i + 1) (by omega) (by omega) _ _ _ hs (lvr (lv_at hl 2 rfl) (lvr (lv_at hl 3 rfl) (lvc (lv_at hl 1 rfl) (by rw [ct_t (P := (fun zz => wnI (mg A 6 (nI zz) (nI 0)) = nI a.toNatClampNeg)) c_25]) (lvr (lv_at hl 0 rfl) (lvn hl)))))
      exact L_19 (_ + 1) 0 (Nat.lt_succ_self _) (by omega) _ _ _ hs (lvr (lv_at hl 2 rfl) (lvr (lv_at hl 3 rfl) (lvc (lv_at hl 1 rfl) rfl (lvr (lv_at hl 0 rfl) (lvn hl)))))
    refine lv_tableOut (tgt := 153) hx hb dX7_party_14 (sw_out (n := 4) (by decide) (fun k hk => by rcases (show k = 0 ∨ k = 1 ∨ k = 2 ∨ k = 3 ∨ k = 4 by omega) with rfl | rfl | rfl | rfl | rfl <;> assumption)) (by decide) ?_
    refine lv_bipush (v := (-2)) hx hb dX7_party_153 (by decide) ?_
    exact zeP E hs (by show _ = sp_party A B w f o z n a q; unfold sp_party; rw [iz_t c_3, iz_f c_4, iz_f c_7, iz_f c_10, iz_f c_15, iz_f c_18] <;> rfl) dX7_party_155
  · have c_3 : ¬ (¬ a < nI 0 ∧ ¬ nI 1 < a) := bz_0 c_3
    refine lv_iconst (v := (-1)) hx hb dX7_party_9 (by decide) ?_
    exact zeP E hs (by show _ = sp_party A B w f o z n a q; unfold sp_party; rw [iz_f c_3] <;> rfl) dX7_party_10

set_option maxHeartbeats 4000000 in
set_option maxRecDepth 100000 in
/-- fairness -/
theorem c_X7_fairness (l : Launch) (x : CT) (ar fd A B : AR) (w f : Nat) (hM : ME (ar 103) A (B 1) w f) (o z n : Nat) : CP l yX7_fairness cX7_fairness 2 (some .int) 4 93 x [.ref (xa x 102)] ar fd (fun r => r = sp_fairness A B w f o z n) := by
  refine zsP (own := RX7) rfl (by decide +kernel) (Nat.le_of_ble_eq_true rfl) ?_
  intro p e s m below meth c ls E hs hl
  have hx := E.1
  have hb := E.2.1
  have hl : lv_has ls 2 [(0, .ref (xa x 102))] := hl
  obtain ⟨hE1, hE2, hE3, hE4, hE5, hE6, hE7, hEw, hEf, hEc, hEs, hfw, hw9, hw2, hP, hD⟩ := id hM
  refine lv_aload_n hx hb dX7_fairness_0 rfl (lv_at hl 0 rfl) ?_
  refine lv_iconst (v := nI 0) hx hb dX7_fairness_1 (by decide) ?_
  refine zVP E hs lkX7_135 [] (c_X7_votesOnMap l x ar fd A B w f hM 0 (by omega)) (by decide) (sh6 rfl) rfl ⟨Nat.le_of_ble_eq_true rfl, Nat.le_of_ble_eq_true rfl⟩ rfl hl.1 (Nat.le_of_ble_eq_true rfl) rfl dX7_fairness_2 (fun r_1 H locs hp_2 hs => ?_)
  subst hp_2
  refine lv_aload_n hx hb dX7_fairness_5 rfl (lv_at hl 0 rfl) ?_
  refine lv_iconst (v := nI 1) hx hb dX7_fairness_6 (by decide) ?_
  refine zVP E hs lkX7_135 [.int (smI (A (vk (nI 0) + 1)) 36)] (c_X7_votesOnMap l x ar fd A B w f hM 1 (by omega)) (by decide) (sh6 rfl) rfl ⟨Nat.le_of_ble_eq_true rfl, Nat.le_of_ble_eq_true rfl⟩ rfl hl.1 (Nat.le_of_ble_eq_true rfl) rfl dX7_fairness_7 (fun r_3 H locs hp_4 hs => ?_)
  subst hp_4
  refine lv_iadd hx hb dX7_fairness_10 ?_
  refine lv_istore_n (lv' := [(1, .int ((smI (A (vk (nI 0) + 1)) 36) + (smI (A (vk (nI 1) + 1)) 36))), (0, .ref (xa x 102))]) hx hb dX7_fairness_11 rfl hl (by decide) rfl (fun ls hl => ?_)
  refine lv_ldc (v := 100000) hx hb E.2.2.2.1 (E.tb q_737) dX7_fairness_12 ?_
  refine lv_aload_n hx hb dX7_fairness_14 rfl (lv_at hl 1 rfl) ?_
  refine lv_iconst (v := nI 0) hx hb dX7_fairness_15 (by decide) ?_
  refine zVP E hs lkX7_132 [.int 100000] (c_X7_seats l x ar fd A B w f hM (nI 0)) (by decide) (sh6 rfl) rfl ⟨Nat.le_of_ble_eq_true rfl, Nat.le_of_ble_eq_true rfl⟩ rfl hl.1 (Nat.le_of_ble_eq_true rfl) rfl dX7_fairness_16 (fun r_5 H locs hp_6 hs => ?_)
  subst hp_6
  refine lv_iload_n hx hb dX7_fairness_19 rfl (lv_at hl 0 rfl) ?_
  refine lv_imul hx hb dX7_fairness_20 ?_
  refine lv_iadd hx hb dX7_fairness_21 ?_
  refine lv_aload_n hx hb dX7_fairness_22 rfl (lv_at hl 1 rfl) ?_
  refine zg6 E hs (k := 102) rfl 0 (by decide) rfl q_514 dX7_fairness_23 ?_
  refine lv_bipush (v := nI 77) hx hb dX7_fairness_26 (by decide) ?_
  refine zald E hs 103 (n := 196) (j := 77) rfl rfl (by omega) (by decide) dX7_fairness_28 ?_
  refine tp (b := nI f) hEf ?_
  refine lv_aload_n hx hb dX7_fairness_29 rfl (lv_at hl 1 rfl) ?_
  refine lv_iconst (v := nI 0) hx hb dX7_fairness_30 (by decide) ?_
  refine zVP E hs lkX7_135 [.int (nI f), .int (100000 + ((nI (ct (fun zz => wnI (mg A 8 (nI zz) (nI 0)) = nI 0) f)) * ((smI (A (vk (nI 0) + 1)) 36) + (smI (A (vk (nI 1) + 1)) 36))))] (c_X7_votesOnMap l x ar fd A B w f hM 0 (by omega)) (by decide) (sh6 rfl) rfl ⟨Nat.le_of_ble_eq_true rfl, Nat.le_of_ble_eq_true rfl⟩ rfl hl.1 (Nat.le_of_ble_eq_true rfl) rfl dX7_fairness_31 (fun r_7 H locs hp_8 hs => ?_)
  subst hp_8
  refine lv_imul hx hb dX7_fairness_34 ?_
  refine lv_isub hx hb dX7_fairness_35 ?_
  exact zeP E hs (by show _ = sp_fairness A B w f o z n; unfold sp_fairness; rw [vk_0, vk_1] <;> rfl) dX7_fairness_36

set_option maxHeartbeats 4000000 in
set_option maxRecDepth 100000 in
/-- count -/
theorem c_X7_count (l : Launch) (x : CT) (ar fd A B : AR) (w f : Nat) (hM : ME (ar 103) A (B 1) w f) (o z n : Nat) (hz : fd 102 3 = nI z) (hn : fd 102 6 = nI n) (hstg : STG (B 1)) (q : Int32) : CP l yX7_count cX7_count 2 (some .int) 4 93 x [.ref (xa x 102), .int q] ar fd (fun r => r = sp_count A B w f o z n q) := by
  refine zsP (own := RX7) rfl (by decide +kernel) (Nat.le_of_ble_eq_true rfl) ?_
  intro p e s m below meth c ls E hs hl
  have hx := E.1
  have hb := E.2.1
  have hl : lv_has ls 2 [(0, .ref (xa x 102)), (1, .int q)] := hl
  obtain ⟨hE1, hE2, hE3, hE4, hE5, hE6, hE7, hEw, hEf, hEc, hEs, hfw, hw9, hw2, hP, hD⟩ := id hM
  refine lv_iload_n hx hb dX7_count_0 rfl (lv_at hl 1 rfl) ?_
  by_cases c_1 : q = nI 0
  · refine lv_tableIn (off := 63) (tgt := 64) hx hb dX7_count_1 (by rw [c_1]; decide) (by rw [c_1]; decide) (by rw [c_1]; first | rfl | decide) (by decide) ?_
    refine lv_aload_n hx hb dX7_count_64 rfl (lv_at hl 0 rfl) ?_
    refine zg6 E hs (k := 102) rfl 0 (by decide) rfl q_514 dX7_count_65 ?_
    refine lv_bipush (v := nI 72) hx hb dX7_count_68 (by decide) ?_
    refine zald E hs 103 (n := 196) (j := 72) rfl rfl (by omega) (by decide) dX7_count_70 ?_
    refine tp (b := nI w) hEw ?_
    exact zeP E hs (by show _ = sp_count A B w f o z n q; unfold sp_count; rw [iz_t c_1] <;> rfl) dX7_count_71
  by_cases c_2 : q = nI 1
  · refine lv_tableIn (off := 71) (tgt := 72) hx hb dX7_count_1 (by rw [c_2]; decide) (by rw [c_2]; decide) (by rw [c_2]; first | rfl | decide) (by decide) ?_
    refine lv_aload_n hx hb dX7_count_72 rfl (lv_at hl 0 rfl) ?_
    refine zVP E hs lkX7_55 [] (c_X7_size l x ar fd A B w f hM) (by decide) (sh6 rfl) rfl ⟨Nat.le_of_ble_eq_true rfl, Nat.le_of_ble_eq_true rfl⟩ rfl hl.1 (Nat.le_of_ble_eq_true rfl) rfl dX7_count_73 (fun r_3 H locs hp_4 hs => ?_)
    subst hp_4
    exact zeP E hs (by show _ = sp_count A B w f o z n q; unfold sp_count; rw [iz_f c_1, iz_t c_2] <;> rfl) dX7_count_76
  by_cases c_5 : q = nI 2
  · refine lv_tableIn (off := 76) (tgt := 77) hx hb dX7_count_1 (by rw [c_5]; decide) (by rw [c_5]; decide) (by rw [c_5]; first | rfl | decide) (by decide) ?_
    refine lv_aload_n hx hb dX7_count_77 rfl (lv_at hl 0 rfl) ?_
    refine zg6 E hs (k := 102) rfl 0 (by decide) rfl q_514 dX7_count_78 ?_
    refine lv_bipush (v := nI 77) hx hb dX7_count_81 (by decide) ?_
    refine zald E hs 103 (n := 196) (j := 77) rfl rfl (by omega) (by decide) dX7_count_83 ?_
    refine tp (b := nI f) hEf ?_
    exact zeP E hs (by show _ = sp_count A B w f o z n q; unfold sp_count; rw [iz_f c_1, iz_f c_2, iz_t c_5] <;> rfl) dX7_count_84
  by_cases c_6 : q = nI 3
  · refine lv_tableIn (off := 84) (tgt := 85) hx hb dX7_count_1 (by rw [c_6]; decide) (by rw [c_6]; decide) (by rw [c_6]; first | rfl | decide) (by decide) ?_
    refine lv_aload_n hx hb dX7_count_85 rfl (lv_at hl 0 rfl) ?_
    refine zVP E hs lkX7_77 [] (c_X7_left l x ar fd A B w f hM) (by decide) (sh6 rfl) rfl ⟨Nat.le_of_ble_eq_true rfl, Nat.le_of_ble_eq_true rfl⟩ rfl hl.1 (Nat.le_of_ble_eq_true rfl) rfl dX7_count_86 (fun r_7 H locs hp_8 hs => ?_)
    subst hp_8
    exact zeP E hs (by show _ = sp_count A B w f o z n q; unfold sp_count; rw [iz_f c_1, iz_f c_2, iz_f c_5, iz_t c_6] <;> rfl) dX7_count_89
  by_cases c_9 : q = nI 4
  · refine lv_tableIn (off := 89) (tgt := 90) hx hb dX7_count_1 (by rw [c_9]; decide) (by rw [c_9]; decide) (by rw [c_9]; first | rfl | decide) (by decide) ?_
    refine lv_aload_n hx hb dX7_count_90 rfl (lv_at hl 0 rfl) ?_
    refine zg6 E hs (k := 102) rfl 0 (by decide) rfl q_514 dX7_count_91 ?_
    refine lv_bipush (v := nI 75) hx hb dX7_count_94 (by decide) ?_
    refine zald E hs 103 (n := 196) (j := 75) rfl rfl (by omega) (by decide) dX7_count_96 ?_
    refine tp (b := B 1 10) hEs ?_
    exact zeP E hs (by show _ = sp_count A B w f o z n q; unfold sp_count; rw [iz_f c_1, iz_f c_2, iz_f c_5, iz_f c_6, iz_t c_9] <;> rfl) dX7_count_97
  by_cases c_10 : q = nI 5
  · refine lv_tableIn (off := 97) (tgt := 98) hx hb dX7_count_1 (by rw [c_10]; decide) (by rw [c_10]; decide) (by rw [c_10]; first | rfl | decide) (by decide) ?_
    refine lv_aload_n hx hb dX7_count_98 rfl (lv_at hl 0 rfl) ?_
    refine zg6 E hs (k := 102) rfl 0 (by decide) rfl q_514 dX7_count_99 ?_
    refine lv_bipush (v := nI 75) hx hb dX7_count_102 (by decide) ?_
    refine zald E hs 103 (n := 196) (j := 75) rfl rfl (by omega) (by decide) dX7_count_104 ?_
    refine tp (b := B 1 10) hEs ?_
    refine lv_iconst (v := nI 2) hx hb dX7_count_105 (by decide) ?_
    refine lv_icmp_ne (tgt := 114) hx hb dX7_count_106 (by decide) (fun c_11 => ?_) (fun c_11 => ?_)
    · refine lv_aload_n hx hb dX7_count_114 rfl (lv_at hl 0 rfl) ?_
      refine zg6 E hs (k := 102) rfl 0 (by decide) rfl q_514 dX7_count_115 ?_
      refine lv_bipush (v := nI 75) hx hb dX7_count_118 (by decide) ?_
      refine zald E hs 103 (n := 196) (j := 75) rfl rfl (by omega) (by decide) dX7_count_120 ?_
      refine tp (b := B 1 10) hEs ?_
      refine lv_if_ne (tgt := 134) hx hb dX7_count_121 (by decide) (fun c_12 => ?_) (fun c_12 => ?_)
      · refine lv_iconst (v := nI 1) hx hb dX7_count_134 (by decide) ?_
        refine lv_aload_n hx hb dX7_count_135 rfl (lv_at hl 0 rfl) ?_
        refine zg6 E hs (k := 102) rfl 0 (by decide) rfl q_514 dX7_count_136 ?_
        refine lv_bipush (v := nI 76) hx hb dX7_count_139 (by decide) ?_
        refine zald E hs 103 (n := 196) (j := 76) rfl rfl (by omega) (by decide) dX7_count_141 ?_
        refine tp (b := B 1 9) hEc ?_
        refine lv_isub hx hb dX7_count_142 ?_
        exact zeP E hs (by show _ = sp_count A B w f o z n q; unfold sp_count; rw [iz_f c_1, iz_f c_2, iz_f c_5, iz_f c_6, iz_f c_9, iz_t c_10]; unfold sp_player; rw [iz_f (show ¬ B 1 10 = nI 0 from c_12), iz_t (hstg.1.elim (fun h => absurd h c_12) (fun h => h.elim id (fun h => absurd h c_11))), (nn_cut hstg.2).2]) dX7_count_143
      · refine lv_aload_n hx hb dX7_count_124 rfl (lv_at hl 0 rfl) ?_
        refine zg6 E hs (k := 102) rfl 0 (by decide) rfl q_514 dX7_count_125 ?_
        refine lv_bipush (v := nI 76) hx hb dX7_count_128 (by decide) ?_
        refine zald E hs 103 (n := 196) (j := 76) rfl rfl (by omega) (by decide) dX7_count_130 ?_
        refine tp (b := B 1 9) hEc ?_
        refine lv_goto (tgt := 143) hx hb dX7_count_131 (by decide) ?_
        exact zeP E hs (by show _ = sp_count A B w f o z n q; unfold sp_count; rw [iz_f c_1, iz_f c_2, iz_f c_5, iz_f c_6, iz_f c_9, iz_t c_10]; unfold sp_player; rw [iz_t (show B 1 10 = nI 0 from c_12), (nn_cut hstg.2).1]) dX7_count_143
    · refine lv_bipush (v := (-5)) hx hb dX7_count_109 (by decide) ?_
      refine lv_goto (tgt := 143) hx hb dX7_count_111 (by decide) ?_
      exact zeP E hs (by show _ = sp_count A B w f o z n q; unfold sp_count; rw [iz_f c_1, iz_f c_2, iz_f c_5, iz_f c_6, iz_f c_9, iz_t c_10]; unfold sp_player; rw [c_11, iz_f (by decide), iz_f (by decide), nnI_m]) dX7_count_143
  by_cases c_13 : q = nI 6
  · refine lv_tableIn (off := 143) (tgt := 144) hx hb dX7_count_1 (by rw [c_13]; decide) (by rw [c_13]; decide) (by rw [c_13]; first | rfl | decide) (by decide) ?_
    refine lv_aload_n hx hb dX7_count_144 rfl (lv_at hl 0 rfl) ?_
    refine lv_bipush (v := nI 115) hx hb dX7_count_145 (by decide) ?_
    refine lv_iconst (v := (-1)) hx hb dX7_count_147 (by decide) ?_
    refine zVP E hs lkX7_80 [] (c_X7_cells l x ar fd 115 (by decide) (A 9) hE4 (-1)) (by decide) (sh6 rfl) rfl ⟨Nat.le_of_ble_eq_true rfl, Nat.le_of_ble_eq_true rfl⟩ rfl hl.1 (Nat.le_of_ble_eq_true rfl) rfl dX7_count_148 (fun r_14 H locs hp_15 hs => ?_)
    subst hp_15
    exact zeP E hs (by show _ = sp_count A B w f o z n q; unfold sp_count; rw [iz_f c_1, iz_f c_2, iz_f c_5, iz_f c_6, iz_f c_9, iz_f c_10, iz_t c_13] <;> rfl) dX7_count_151
  by_cases c_16 : q = nI 7
  · refine lv_tableIn (off := 151) (tgt := 152) hx hb dX7_count_1 (by rw [c_16]; decide) (by rw [c_16]; decide) (by rw [c_16]; first | rfl | decide) (by decide) ?_
    refine lv_aload_n hx hb dX7_count_152 rfl (lv_at hl 0 rfl) ?_
    refine zVP E hs lkX7_139 [] (c_X7_withoutPart l x ar fd A B w f hM) (by decide) (sh6 rfl) rfl ⟨Nat.le_of_ble_eq_true rfl, Nat.le_of_ble_eq_true rfl⟩ rfl hl.1 (Nat.le_of_ble_eq_true rfl) rfl dX7_count_153 (fun r_17 H locs hp_18 hs => ?_)
    subst hp_18
    exact zeP E hs (by show _ = sp_count A B w f o z n q; unfold sp_count; rw [iz_f c_1, iz_f c_2, iz_f c_5, iz_f c_6, iz_f c_9, iz_f c_10, iz_f c_13, iz_t c_16] <;> rfl) dX7_count_156
  by_cases c_19 : q = nI 8
  · refine lv_tableIn (off := 156) (tgt := 157) hx hb dX7_count_1 (by rw [c_19]; decide) (by rw [c_19]; decide) (by rw [c_19]; first | rfl | decide) (by decide) ?_
    refine lv_aload_n hx hb dX7_count_157 rfl (lv_at hl 0 rfl) ?_
    refine zVP E hs lkX7_142 [] (c_X7_allBorders l x ar fd A B w f hM) (by decide) (sh6 rfl) rfl ⟨Nat.le_of_ble_eq_true rfl, Nat.le_of_ble_eq_true rfl⟩ rfl hl.1 (Nat.le_of_ble_eq_true rfl) rfl dX7_count_158 (fun r_20 H locs hp_21 hs => ?_)
    subst hp_21
    exact zeP E hs (by show _ = sp_count A B w f o z n q; unfold sp_count; rw [iz_f c_1, iz_f c_2, iz_f c_5, iz_f c_6, iz_f c_9, iz_f c_10, iz_f c_13, iz_f c_16, iz_t c_19] <;> rfl) dX7_count_161
  by_cases c_22 : q = nI 9
  · refine lv_tableIn (off := 161) (tgt := 162) hx hb dX7_count_1 (by rw [c_22]; decide) (by rw [c_22]; decide) (by rw [c_22]; first | rfl | decide) (by decide) ?_
    refine lv_aload_n hx hb dX7_count_162 rfl (lv_at hl 0 rfl) ?_
    refine lv_iconst (v := nI 2) hx hb dX7_count_163 (by decide) ?_
    refine zVP E hs lkX7_132 [] (c_X7_seats l x ar fd A B w f hM (nI 2)) (by decide) (sh6 rfl) rfl ⟨Nat.le_of_ble_eq_true rfl, Nat.le_of_ble_eq_true rfl⟩ rfl hl.1 (Nat.le_of_ble_eq_true rfl) rfl dX7_count_164 (fun r_23 H locs hp_24 hs => ?_)
    subst hp_24
    exact zeP E hs (by show _ = sp_count A B w f o z n q; unfold sp_count; rw [iz_f c_1, iz_f c_2, iz_f c_5, iz_f c_6, iz_f c_9, iz_f c_10, iz_f c_13, iz_f c_16, iz_f c_19, iz_t c_22] <;> rfl) dX7_count_167
  by_cases c_25 : q = nI 10
  · refine lv_tableIn (off := 167) (tgt := 168) hx hb dX7_count_1 (by rw [c_25]; decide) (by rw [c_25]; decide) (by rw [c_25]; first | rfl | decide) (by decide) ?_
    refine lv_aload_n hx hb dX7_count_168 rfl (lv_at hl 0 rfl) ?_
    refine zg6 E hs (k := 102) rfl 3 (by decide) rfl q_517 dX7_count_169 ?_
    refine tp (b := nI z) hz ?_
    exact zeP E hs (by show _ = sp_count A B w f o z n q; unfold sp_count; rw [iz_f c_1, iz_f c_2, iz_f c_5, iz_f c_6, iz_f c_9, iz_f c_10, iz_f c_13, iz_f c_16, iz_f c_19, iz_f c_22, iz_t c_25] <;> rfl) dX7_count_172
  by_cases c_26 : q = nI 11
  · refine lv_tableIn (off := 172) (tgt := 173) hx hb dX7_count_1 (by rw [c_26]; decide) (by rw [c_26]; decide) (by rw [c_26]; first | rfl | decide) (by decide) ?_
    refine lv_aload_n hx hb dX7_count_173 rfl (lv_at hl 0 rfl) ?_
    refine zg6 E hs (k := 102) rfl 6 (by decide) rfl q_520 dX7_count_174 ?_
    refine tp (b := nI n) hn ?_
    exact zeP E hs (by show _ = sp_count A B w f o z n q; unfold sp_count; rw [iz_f c_1, iz_f c_2, iz_f c_5, iz_f c_6, iz_f c_9, iz_f c_10, iz_f c_13, iz_f c_16, iz_f c_19, iz_f c_22, iz_f c_25, iz_t c_26] <;> rfl) dX7_count_177
  refine lv_tableOut (tgt := 178) hx hb dX7_count_1 (sw_out (n := 11) (by decide) (fun k hk => by rcases (show k = 0 ∨ k = 1 ∨ k = 2 ∨ k = 3 ∨ k = 4 ∨ k = 5 ∨ k = 6 ∨ k = 7 ∨ k = 8 ∨ k = 9 ∨ k = 10 ∨ k = 11 by omega) with rfl | rfl | rfl | rfl | rfl | rfl | rfl | rfl | rfl | rfl | rfl | rfl <;> assumption)) (by decide) ?_
  refine lv_bipush (v := (-2)) hx hb dX7_count_178 (by decide) ?_
  exact zeP E hs (by show _ = sp_count A B w f o z n q; unfold sp_count; rw [iz_f c_1, iz_f c_2, iz_f c_5, iz_f c_6, iz_f c_9, iz_f c_10, iz_f c_13, iz_f c_16, iz_f c_19, iz_f c_22, iz_f c_25, iz_f c_26] <;> rfl) dX7_count_180

set_option maxHeartbeats 4000000 in
set_option maxRecDepth 100000 in
/-- advice -/
theorem c_X7_advice (l : Launch) (x : CT) (ar fd A B : AR) (w f : Nat) (hM : ME (ar 103) A (B 1) w f) (o z n : Nat) (hstg : STG (B 1)) : CP l yX7_advice cX7_advice 8 (some .int) 2 47 x [.ref (xa x 102)] ar fd (fun r => r = sp_advice A B w f o z n) := by
  refine zsP (own := RX7) rfl (by decide +kernel) (Nat.le_of_ble_eq_true rfl) ?_
  intro p e s m below meth c ls E hs hl
  have hx := E.1
  have hb := E.2.1
  have hl : lv_has ls 8 [(0, .ref (xa x 102))] := hl
  obtain ⟨hE1, hE2, hE3, hE4, hE5, hE6, hE7, hEw, hEf, hEc, hEs, hfw, hw9, hw2, hP, hD⟩ := id hM
  refine lv_aload_n hx hb dX7_advice_0 rfl (lv_at hl 0 rfl) ?_
  refine zg6 E hs (k := 102) rfl 0 (by decide) rfl q_514 dX7_advice_1 ?_
  refine lv_bipush (v := nI 75) hx hb dX7_advice_4 (by decide) ?_
  refine zald E hs 103 (n := 196) (j := 75) rfl rfl (by omega) (by decide) dX7_advice_6 ?_
  refine tp (b := B 1 10) hEs ?_
  refine lv_iconst (v := nI 1) hx hb dX7_advice_7 (by decide) ?_
  refine lv_icmp_eq (tgt := 14) hx hb dX7_advice_8 (by decide) (fun c_1 => ?_) (fun c_1 => ?_)
  · rcases hstg.2 with hcu | hcu
    · refine lv_iconst (v := nI 1) hx hb dX7_advice_14 (by decide) ?_
      refine lv_aload_n hx hb dX7_advice_15 rfl (lv_at hl 0 rfl) ?_
      refine zg6 E hs (k := 102) rfl 0 (by decide) rfl q_514 dX7_advice_16 ?_
      refine lv_bipush (v := nI 76) hx hb dX7_advice_19 (by decide) ?_
      refine zald E hs 103 (n := 196) (j := 76) rfl rfl (by omega) (by decide) dX7_advice_21 ?_
      refine tp (b := nI 0) (hEc.trans hcu) ?_
      refine lv_isub hx hb dX7_advice_22 ?_
      refine tp (b := nI 1) (by decide) ?_
      refine lv_istore_n (lv' := [(1, .int (nI 1)), (0, .ref (xa x 102))]) hx hb dX7_advice_23 rfl hl (by decide) rfl (fun ls hl => ?_)
      refine lv_bipush (v := (-5)) hx hb dX7_advice_24 (by decide) ?_
      refine lv_istore_n (lv' := [(2, .int (-5)), (1, .int (nI 1)), (0, .ref (xa x 102))]) hx hb dX7_advice_26 rfl hl (by decide) rfl (fun ls hl => ?_)
      refine lv_iconst (v := nI 0) hx hb dX7_advice_27 (by decide) ?_
      refine lv_istore_n (lv' := [(3, .int (nI 0)), (2, .int (-5)), (1, .int (nI 1)), (0, .ref (xa x 102))]) hx hb dX7_advice_28 rfl hl (by decide) rfl (fun ls hl => ?_)
      refine lv_iconst (v := nI 0) hx hb dX7_advice_29 (by decide) ?_
      refine lv_istore (lv' := [(4, .int (nI 0)), (3, .int (nI 0)), (2, .int (-5)), (1, .int (nI 1)), (0, .ref (xa x 102))]) hx hb dX7_advice_30 hl (by decide) rfl (fun ls hl => ?_)
      refine lv_iconst (v := nI 0) hx hb dX7_advice_32 (by decide) ?_
      refine lv_istore (lv' := [(5, .int (nI 0)), (4, .int (nI 0)), (3, .int (nI 0)), (2, .int (-5)), (1, .int (nI 1)), (0, .ref (xa x 102))]) hx hb dX7_advice_33 hl (by decide) rfl (fun ls hl => ?_)
      refine lv_iconst (v := nI 0) hx hb dX7_advice_35 (by decide) ?_
      refine lv_istore (lv' := [(6, .int (nI 0)), (5, .int (nI 0)), (4, .int (nI 0)), (3, .int (nI 0)), (2, .int (-5)), (1, .int (nI 1)), (0, .ref (xa x 102))]) hx hb dX7_advice_36 hl (by decide) rfl (fun ls hl => ?_)
      have L_2 : ∀ (mm : Nat) (i : Nat), (w - f - i) < mm → (i ≤ w - f) → ∀ (H : Heap) (locs : List Loc) (ls : Array Slot), ST x (AA x) s.heap ar fd H locs → lv_has ls 8 [(0, .ref (xa x 102)), (1, .int (nI 1)), (2, .int (bmI (fun zz => mg A 6 (nI zz) (nI 1)) i)), (3, .int (nI (mlS (fun zz => mg A 6 (nI zz) (nI 0)) i))), (4, .int ((clS (fun zz => mg A 6 (nI zz) (nI 1)) i).2)), (5, .int (moI (fun zz => mg A 6 (nI zz) (nI 0)) i)), (6, .int (nI i))] → W p l e (rmZ 2 47) s m ([.ref (xa x 102)] : List Value).toArray below meth c H locs 0 0 (QP below x [.ref (xa x 102)] ar fd s (fun r => r = sp_advice A B w f o z n)) (F0 m 38 ls []) := by
        intro mm
        induction mm with
        | zero => intro i hmu; exact absurd hmu (Nat.not_lt_zero _)
        | succ mm ih_2 =>
          intro i hmu hi H locs ls hs hl
          refine lv_iload hx hb dX7_advice_38 (lv_at hl 6 rfl) ?_
          refine lv_aload_n hx hb dX7_advice_40 rfl (lv_at hl 0 rfl) ?_
          refine zVP E hs lkX7_77 [.int (nI i)] (c_X7_left l x ar fd A B w f hM) (by decide) (sh6 rfl) rfl ⟨Nat.le_of_ble_eq_true rfl, Nat.le_of_ble_eq_true rfl⟩ rfl hl.1 (Nat.le_of_ble_eq_true rfl) rfl dX7_advice_41 (fun r_3 H locs hp_4 hs => ?_)
          subst hp_4
          refine lv_icmp_ge (tgt := 123) hx hb dX7_advice_44 (by decide) (fun c_5 => ?_) (fun c_5 => ?_)
          · have c_5 : w - f ≤ i := (nI_leI (a := w - f) (b := i) (by omega) (by omega)).mp c_5
            refine lv_iload_n hx hb dX7_advice_123 rfl (lv_at hl 2 rfl) ?_
            refine lv_if_ge (tgt := 131) hx hb dX7_advice_124 (by decide) (fun c_6 => ?_) (fun c_6 => ?_)
            · refine lv_iload_n hx hb dX7_advice_131 rfl (lv_at hl 2 rfl) ?_
              exact zeP E hs (by show _ = sp_advice A B w f o z n; unfold sp_advice; rw [show w - f = i by omega, show sp_player B = nI 1 from by unfold sp_player; rw [c_1, iz_f (by decide), iz_t rfl, hcu]; decide, iz_t c_1, iz_f ((bmI_ge (by omega)).mp c_6)]; exact iz_f ((bmI_ge (by omega)).mp c_6)) dX7_advice_132
            · refine lv_iload_n hx hb dX7_advice_127 rfl (lv_at hl 3 rfl) ?_
              refine lv_goto (tgt := 132) hx hb dX7_advice_128 (by decide) ?_
              exact zeP E hs (by show _ = sp_advice A B w f o z n; unfold sp_advice; rw [show w - f = i by omega, show sp_player B = nI 1 from by unfold sp_player; rw [c_1, iz_f (by decide), iz_t rfl, hcu]; decide, iz_t c_1, iz_t (Classical.not_not.mp (fun h => c_6 ((bmI_ge (by omega)).mpr h))), show nI 1 - nI 1 = nI 0 by decide]) dX7_advice_132
          · have c_5 : ¬ (w - f ≤ i) := fun h => c_5 ((nI_leI (a := w - f) (b := i) (by omega) (by omega)).mpr h)
            refine lv_iload_n hx hb dX7_advice_47 rfl (lv_at hl 1 rfl) ?_
            refine lv_if_ne (tgt := 62) hx hb dX7_advice_48 (by decide) (fun _ => ?_) (fun h => absurd h (by decide))
            refine lv_aload_n hx hb dX7_advice_62 rfl (lv_at hl 0 rfl) ?_
            refine lv_bipush (v := nI 79) hx hb dX7_advice_63 (by decide) ?_
            refine lv_iload hx hb dX7_advice_65 (lv_at hl 6 rfl) ?_
            refine zVP E hs lkX7_63 [] (c_X7_margin l x ar fd A B w f hM 79 (by decide) 6 hE3 (nI i)) (by decide) (sh6 rfl) rfl ⟨Nat.le_of_ble_eq_true rfl, Nat.le_of_ble_eq_true rfl⟩ rfl hl.1 (Nat.le_of_ble_eq_true rfl) rfl dX7_advice_67 (fun r_8 H locs hp_9 hs => ?_)
            subst hp_9
            refine lv_ineg hx hb dX7_advice_70 ?_
            refine tp (b := mg A 6 (nI i) (nI 1)) mg_n0 ?_
            refine lv_istore (lv' := [(7, .int (mg A 6 (nI i) (nI 1))), (0, .ref (xa x 102)), (1, .int (nI 1)), (2, .int (bmI (fun zz => mg A 6 (nI zz) (nI 1)) i)), (3, .int (nI (mlS (fun zz => mg A 6 (nI zz) (nI 0)) i))), (4, .int ((clS (fun zz => mg A 6 (nI zz) (nI 1)) i).2)), (5, .int (moI (fun zz => mg A 6 (nI zz) (nI 0)) i)), (6, .int (nI i))]) hx hb dX7_advice_71 hl (by decide) rfl (fun ls hl => ?_)
            refine lv_iload hx hb dX7_advice_73 (lv_at hl 0 rfl) ?_
            refine lv_if_le (tgt := 96) hx hb dX7_advice_75 (by decide) (fun c_10 => ?_) (fun c_10 => ?_)
            · refine lv_iload hx hb dX7_advice_96 (lv_at hl 7 rfl) ?_
              refine lv_if_eq (tgt := 109) hx hb dX7_advice_98 (by decide) (fun c_11 => ?_) (fun c_11 => ?_)
              · have c_11 : i = 0 := (nI_eq (a := i) (b := 0) (by omega) (by omega)).mp c_11
                refine lv_iload hx hb dX7_advice_109 (lv_at hl 7 rfl) ?_
                refine lv_istore_n (lv' := [(3, .int (nI i)), (7, .int (mg A 6 (nI i) (nI 1))), (0, .ref (xa x 102)), (1, .int (nI 1)), (2, .int (bmI (fun zz => mg A 6 (nI zz) (nI 1)) i)), (4, .int ((clS (fun zz => mg A 6 (nI zz) (nI 1)) i).2)), (5, .int (moI (fun zz => mg A 6 (nI zz) (nI 0)) i)), (6, .int (nI i))]) hx hb dX7_advice_111 rfl hl (by decide) rfl (fun ls hl => ?_)
                refine lv_iload hx hb dX7_advice_112 (lv_at hl 1 rfl) ?_
                refine lv_ineg hx hb dX7_advice_114 ?_
                refine tp (b := mg A 6 (nI i) (nI 0)) mg_n1 ?_
                refine lv_istore (lv' := [(5, .int (mg A 6 (nI i) (nI 0))), (3, .int (nI i)), (7, .int (mg A 6 (nI i) (nI 1))), (0, .ref (xa x 102)), (1, .int (nI 1)), (2, .int (bmI (fun zz => mg A 6 (nI zz) (nI 1)) i)), (4, .int ((clS (fun zz => mg A 6 (nI zz) (nI 1)) i).2)), (6, .int (nI i))]) hx hb dX7_advice_115 hl (by decide) rfl (fun ls hl => ?_)
                refine lv_iinc (v := nI (i + 1)) (lv' := [(6, .int (nI (i + 1))), (5, .int (mg A 6 (nI i) (nI 0))), (3, .int (nI i)), (7, .int (mg A 6 (nI i) (nI 1))), (0, .ref (xa x 102)), (1, .int (nI 1)), (2, .int (bmI (fun zz => mg A 6 (nI zz) (nI 1)) i)), (4, .int ((clS (fun zz => mg A 6 (nI zz) (nI 1)) i).2))]) hx hb dX7_advice_117 hl (k := 7) rfl (nI_inc _) (by decide) rfl (fun ls hl => ?_)
                refine lv_goto (tgt := 38) hx hb dX7_advice_120 (by decide) ?_
                exact ih_2 (i + 1) (by omega) (by omega) _ _ _ hs (lvr (lv_at hl 4 rfl) (lvr (lv_at hl 5 rfl) (lvc (lv_at hl 6 rfl) (bmI_k (m := (fun zz => mg A 6 (nI zz) (nI 1))) (cl_k1 c_10)) (lvc (lv_at hl 2 rfl) (congrArg nI (ml_0 (m := (fun zz => mg A 6 (nI zz) (nI 0))) c_11)).symm (lvc (lv_at hl 7 rfl) (congrArg Prod.snd (cl_k1 (m := (fun zz => mg A 6 (nI zz) (nI 1))) c_10)).symm (lvc (lv_at hl 1 rfl) (moI_s (m := (fun zz => mg A 6 (nI zz) (nI 0))) (ml_0 (m := (fun zz => mg A 6 (nI zz) (nI 0))) c_11)) (lvr (lv_at hl 0 rfl) (lvn hl))))))))
              · have c_11 : ¬ (i = 0) := fun h => c_11 ((nI_eq (a := i) (b := 0) (by omega) (by omega)).mpr h)
                refine lv_iload hx hb dX7_advice_101 (lv_at hl 0 rfl) ?_
                refine lv_ineg hx hb dX7_advice_103 ?_
                refine tp (b := mg A 6 (nI i) (nI 0)) mg_n1 ?_
                refine lv_iload hx hb dX7_advice_104 (lv_at hl 6 rfl) ?_
                refine lv_icmp_le (tgt := 117) hx hb dX7_advice_106 (by decide) (fun c_12 => ?_) (fun c_12 => ?_)
                · refine lv_iinc (v := nI (i + 1)) (lv' := [(6, .int (nI (i + 1))), (7, .int (mg A 6 (nI i) (nI 1))), (0, .ref (xa x 102)), (1, .int (nI 1)), (2, .int (bmI (fun zz => mg A 6 (nI zz) (nI 1)) i)), (3, .int (nI (mlS (fun zz => mg A 6 (nI zz) (nI 0)) i))), (4, .int ((clS (fun zz => mg A 6 (nI zz) (nI 1)) i).2)), (5, .int (moI (fun zz => mg A 6 (nI zz) (nI 0)) i))]) hx hb dX7_advice_117 hl (k := 7) rfl (nI_inc _) (by decide) rfl (fun ls hl => ?_)
                  refine lv_goto (tgt := 38) hx hb dX7_advice_120 (by decide) ?_
                  exact ih_2 (i + 1) (by omega) (by omega) _ _ _ hs (lvr (lv_at hl 2 rfl) (lvr (lv_at hl 3 rfl) (lvc (lv_at hl 4 rfl) (bmI_k (m := (fun zz => mg A 6 (nI zz) (nI 1))) (cl_k1 c_10)) (lvc (lv_at hl 5 rfl) (congrArg nI (ml_k (m := (fun zz => mg A 6 (nI zz) (nI 0))) c_11 c_12)).symm (lvc (lv_at hl 6 rfl) (congrArg Prod.snd (cl_k1 (m := (fun zz => mg A 6 (nI zz) (nI 1))) c_10)).symm (lvc (lv_at hl 7 rfl) ((moI_p (m := (fun zz => mg A 6 (nI zz) (nI 0))) c_11).trans (moI_s (m := (fun zz => mg A 6 (nI zz) (nI 0))) (ml_k (m := (fun zz => mg A 6 (nI zz) (nI 0))) c_11 c_12))) (lvr (lv_at hl 0 rfl) (lvn hl))))))))
                · refine lv_iload hx hb dX7_advice_109 (lv_at hl 7 rfl) ?_
                  refine lv_istore_n (lv' := [(3, .int (nI i)), (7, .int (mg A 6 (nI i) (nI 1))), (0, .ref (xa x 102)), (1, .int (nI 1)), (2, .int (bmI (fun zz => mg A 6 (nI zz) (nI 1)) i)), (4, .int ((clS (fun zz => mg A 6 (nI zz) (nI 1)) i).2)), (5, .int (moI (fun zz => mg A 6 (nI zz) (nI 0)) i)), (6, .int (nI i))]) hx hb dX7_advice_111 rfl hl (by decide) rfl (fun ls hl => ?_)
                  refine lv_iload hx hb dX7_advice_112 (lv_at hl 1 rfl) ?_
                  refine lv_ineg hx hb dX7_advice_114 ?_
                  refine tp (b := mg A 6 (nI i) (nI 0)) mg_n1 ?_
                  refine lv_istore (lv' := [(5, .int (mg A 6 (nI i) (nI 0))), (3, .int (nI i)), (7, .int (mg A 6 (nI i) (nI 1))), (0, .ref (xa x 102)), (1, .int (nI 1)), (2, .int (bmI (fun zz => mg A 6 (nI zz) (nI 1)) i)), (4, .int ((clS (fun zz => mg A 6 (nI zz) (nI 1)) i).2)), (6, .int (nI i))]) hx hb dX7_advice_115 hl (by decide) rfl (fun ls hl => ?_)
                  refine lv_iinc (v := nI (i + 1)) (lv' := [(6, .int (nI (i + 1))), (5, .int (mg A 6 (nI i) (nI 0))), (3, .int (nI i)), (7, .int (mg A 6 (nI i) (nI 1))), (0, .ref (xa x 102)), (1, .int (nI 1)), (2, .int (bmI (fun zz => mg A 6 (nI zz) (nI 1)) i)), (4, .int ((clS (fun zz => mg A 6 (nI zz) (nI 1)) i).2))]) hx hb dX7_advice_117 hl (k := 7) rfl (nI_inc _) (by decide) rfl (fun ls hl => ?_)
                  refine lv_goto (tgt := 38) hx hb dX7_advice_120 (by decide) ?_
                  exact ih_2 (i + 1) (by omega) (by omega) _ _ _ hs (lvr (lv_at hl 4 rfl) (lvr (lv_at hl 5 rfl) (lvc (lv_at hl 6 rfl) (bmI_k (m := (fun zz => mg A 6 (nI zz) (nI 1))) (cl_k1 c_10)) (lvc (lv_at hl 2 rfl) (congrArg nI (ml_n (m := (fun zz => mg A 6 (nI zz) (nI 0))) c_11 c_12)).symm (lvc (lv_at hl 7 rfl) (congrArg Prod.snd (cl_k1 (m := (fun zz => mg A 6 (nI zz) (nI 1))) c_10)).symm (lvc (lv_at hl 1 rfl) (moI_s (m := (fun zz => mg A 6 (nI zz) (nI 0))) (ml_n (m := (fun zz => mg A 6 (nI zz) (nI 0))) c_11 c_12)) (lvr (lv_at hl 0 rfl) (lvn hl))))))))
            · refine lv_iload_n hx hb dX7_advice_78 rfl (lv_at hl 3 rfl) ?_
              refine lv_if_lt (tgt := 89) hx hb dX7_advice_79 (by decide) (fun c_13 => ?_) (fun c_13 => ?_)
              · refine lv_iload hx hb dX7_advice_89 (lv_at hl 7 rfl) ?_
                refine lv_istore_n (lv' := [(2, .int (nI i)), (7, .int (mg A 6 (nI i) (nI 1))), (0, .ref (xa x 102)), (1, .int (nI 1)), (3, .int (nI (mlS (fun zz => mg A 6 (nI zz) (nI 0)) i))), (4, .int ((clS (fun zz => mg A 6 (nI zz) (nI 1)) i).2)), (5, .int (moI (fun zz => mg A 6 (nI zz) (nI 0)) i)), (6, .int (nI i))]) hx hb dX7_advice_91 rfl hl (by decide) rfl (fun ls hl => ?_)
                refine lv_iload hx hb dX7_advice_92 (lv_at hl 1 rfl) ?_
                refine lv_istore (lv' := [(4, .int (mg A 6 (nI i) (nI 1))), (2, .int (nI i)), (7, .int (mg A 6 (nI i) (nI 1))), (0, .ref (xa x 102)), (1, .int (nI 1)), (3, .int (nI (mlS (fun zz => mg A 6 (nI zz) (nI 0)) i))), (5, .int (moI (fun zz => mg A 6 (nI zz) (nI 0)) i)), (6, .int (nI i))]) hx hb dX7_advice_94 hl (by decide) rfl (fun ls hl => ?_)
                refine lv_iload hx hb dX7_advice_96 (lv_at hl 7 rfl) ?_
                refine lv_if_eq (tgt := 109) hx hb dX7_advice_98 (by decide) (fun c_14 => ?_) (fun c_14 => ?_)
                · have c_14 : i = 0 := (nI_eq (a := i) (b := 0) (by omega) (by omega)).mp c_14
                  refine lv_iload hx hb dX7_advice_109 (lv_at hl 7 rfl) ?_
                  refine lv_istore_n (lv' := [(3, .int (nI i)), (4, .int (mg A 6 (nI i) (nI 1))), (2, .int (nI i)), (7, .int (mg A 6 (nI i) (nI 1))), (0, .ref (xa x 102)), (1, .int (nI 1)), (5, .int (moI (fun zz => mg A 6 (nI zz) (nI 0)) i)), (6, .int (nI i))]) hx hb dX7_advice_111 rfl hl (by decide) rfl (fun ls hl => ?_)
                  refine lv_iload hx hb dX7_advice_112 (lv_at hl 3 rfl) ?_
                  refine lv_ineg hx hb dX7_advice_114 ?_
                  refine tp (b := mg A 6 (nI i) (nI 0)) mg_n1 ?_
                  refine lv_istore (lv' := [(5, .int (mg A 6 (nI i) (nI 0))), (3, .int (nI i)), (4, .int (mg A 6 (nI i) (nI 1))), (2, .int (nI i)), (7, .int (mg A 6 (nI i) (nI 1))), (0, .ref (xa x 102)), (1, .int (nI 1)), (6, .int (nI i))]) hx hb dX7_advice_115 hl (by decide) rfl (fun ls hl => ?_)
                  refine lv_iinc (v := nI (i + 1)) (lv' := [(6, .int (nI (i + 1))), (5, .int (mg A 6 (nI i) (nI 0))), (3, .int (nI i)), (4, .int (mg A 6 (nI i) (nI 1))), (2, .int (nI i)), (7, .int (mg A 6 (nI i) (nI 1))), (0, .ref (xa x 102)), (1, .int (nI 1))]) hx hb dX7_advice_117 hl (k := 7) rfl (nI_inc _) (by decide) rfl (fun ls hl => ?_)
                  refine lv_goto (tgt := 38) hx hb dX7_advice_120 (by decide) ?_
                  exact ih_2 (i + 1) (by omega) (by omega) _ _ _ hs (lvr (lv_at hl 6 rfl) (lvr (lv_at hl 7 rfl) (lvc (lv_at hl 4 rfl) (bmI_n (m := (fun zz => mg A 6 (nI zz) (nI 1))) (cl_n1 c_10 ((bmI_lt (by omega)).mp c_13)) (by omega)) (lvc (lv_at hl 2 rfl) (congrArg nI (ml_0 (m := (fun zz => mg A 6 (nI zz) (nI 0))) c_14)).symm (lvc (lv_at hl 3 rfl) (congrArg Prod.snd (cl_n1 (m := (fun zz => mg A 6 (nI zz) (nI 1))) c_10 ((bmI_lt (by omega)).mp c_13))).symm (lvc (lv_at hl 1 rfl) (moI_s (m := (fun zz => mg A 6 (nI zz) (nI 0))) (ml_0 (m := (fun zz => mg A 6 (nI zz) (nI 0))) c_14)) (lvr (lv_at hl 0 rfl) (lvn hl))))))))
                · have c_14 : ¬ (i = 0) := fun h => c_14 ((nI_eq (a := i) (b := 0) (by omega) (by omega)).mpr h)
                  refine lv_iload hx hb dX7_advice_101 (lv_at hl 2 rfl) ?_
                  refine lv_ineg hx hb dX7_advice_103 ?_
                  refine tp (b := mg A 6 (nI i) (nI 0)) mg_n1 ?_
                  refine lv_iload hx hb dX7_advice_104 (lv_at hl 6 rfl) ?_
                  refine lv_icmp_le (tgt := 117) hx hb dX7_advice_106 (by decide) (fun c_15 => ?_) (fun c_15 => ?_)
                  · refine lv_iinc (v := nI (i + 1)) (lv' := [(6, .int (nI (i + 1))), (4, .int (mg A 6 (nI i) (nI 1))), (2, .int (nI i)), (7, .int (mg A 6 (nI i) (nI 1))), (0, .ref (xa x 102)), (1, .int (nI 1)), (3, .int (nI (mlS (fun zz => mg A 6 (nI zz) (nI 0)) i))), (5, .int (moI (fun zz => mg A 6 (nI zz) (nI 0)) i))]) hx hb dX7_advice_117 hl (k := 7) rfl (nI_inc _) (by decide) rfl (fun ls hl => ?_)
                    refine lv_goto (tgt := 38) hx hb dX7_advice_120 (by decide) ?_
                    exact ih_2 (i + 1) (by omega) (by omega) _ _ _ hs (lvr (lv_at hl 4 rfl) (lvr (lv_at hl 5 rfl) (lvc (lv_at hl 2 rfl) (bmI_n (m := (fun zz => mg A 6 (nI zz) (nI 1))) (cl_n1 c_10 ((bmI_lt (by omega)).mp c_13)) (by omega)) (lvc (lv_at hl 6 rfl) (congrArg nI (ml_k (m := (fun zz => mg A 6 (nI zz) (nI 0))) c_14 c_15)).symm (lvc (lv_at hl 1 rfl) (congrArg Prod.snd (cl_n1 (m := (fun zz => mg A 6 (nI zz) (nI 1))) c_10 ((bmI_lt (by omega)).mp c_13))).symm (lvc (lv_at hl 7 rfl) ((moI_p (m := (fun zz => mg A 6 (nI zz) (nI 0))) c_14).trans (moI_s (m := (fun zz => mg A 6 (nI zz) (nI 0))) (ml_k (m := (fun zz => mg A 6 (nI zz) (nI 0))) c_14 c_15))) (lvr (lv_at hl 0 rfl) (lvn hl))))))))
                  · refine lv_iload hx hb dX7_advice_109 (lv_at hl 7 rfl) ?_
                    refine lv_istore_n (lv' := [(3, .int (nI i)), (4, .int (mg A 6 (nI i) (nI 1))), (2, .int (nI i)), (7, .int (mg A 6 (nI i) (nI 1))), (0, .ref (xa x 102)), (1, .int (nI 1)), (5, .int (moI (fun zz => mg A 6 (nI zz) (nI 0)) i)), (6, .int (nI i))]) hx hb dX7_advice_111 rfl hl (by decide) rfl (fun ls hl => ?_)
                    refine lv_iload hx hb dX7_advice_112 (lv_at hl 3 rfl) ?_
                    refine lv_ineg hx hb dX7_advice_114 ?_
                    refine tp (b := mg A 6 (nI i) (nI 0)) mg_n1 ?_
                    refine lv_istore (lv' := [(5, .int (mg A 6 (nI i) (nI 0))), (3, .int (nI i)), (4, .int (mg A 6 (nI i) (nI 1))), (2, .int (nI i)), (7, .int (mg A 6 (nI i) (nI 1))), (0, .ref (xa x 102)), (1, .int (nI 1)), (6, .int (nI i))]) hx hb dX7_advice_115 hl (by decide) rfl (fun ls hl => ?_)
                    refine lv_iinc (v := nI (i + 1)) (lv' := [(6, .int (nI (i + 1))), (5, .int (mg A 6 (nI i) (nI 0))), (3, .int (nI i)), (4, .int (mg A 6 (nI i) (nI 1))), (2, .int (nI i)), (7, .int (mg A 6 (nI i) (nI 1))), (0, .ref (xa x 102)), (1, .int (nI 1))]) hx hb dX7_advice_117 hl (k := 7) rfl (nI_inc _) (by decide) rfl (fun ls hl => ?_)
                    refine lv_goto (tgt := 38) hx hb dX7_advice_120 (by decide) ?_
                    exact ih_2 (i + 1) (by omega) (by omega) _ _ _ hs (lvr (lv_at hl 6 rfl) (lvr (lv_at hl 7 rfl) (lvc (lv_at hl 4 rfl) (bmI_n (m := (fun zz => mg A 6 (nI zz) (nI 1))) (cl_n1 c_10 ((bmI_lt (by omega)).mp c_13)) (by omega)) (lvc (lv_at hl 2 rfl) (congrArg nI (ml_n (m := (fun zz => mg A 6 (nI zz) (nI 0))) c_14 c_15)).symm (lvc (lv_at hl 3 rfl) (congrArg Prod.snd (cl_n1 (m := (fun zz => mg A 6 (nI zz) (nI 1))) c_10 ((bmI_lt (by omega)).mp c_13))).symm (lvc (lv_at hl 1 rfl) (moI_s (m := (fun zz => mg A 6 (nI zz) (nI 0))) (ml_n (m := (fun zz => mg A 6 (nI zz) (nI 0))) c_14 c_15)) (lvr (lv_at hl 0 rfl) (lvn hl))))))))
              · refine lv_iload hx hb dX7_advice_82 (lv_at hl 0 rfl) ?_
                refine lv_iload hx hb dX7_advice_84 (lv_at hl 5 rfl) ?_
                refine lv_icmp_ge (tgt := 96) hx hb dX7_advice_86 (by decide) (fun c_16 => ?_) (fun c_16 => ?_)
                · refine lv_iload hx hb dX7_advice_96 (lv_at hl 7 rfl) ?_
                  refine lv_if_eq (tgt := 109) hx hb dX7_advice_98 (by decide) (fun c_17 => ?_) (fun c_17 => ?_)
                  · have c_17 : i = 0 := (nI_eq (a := i) (b := 0) (by omega) (by omega)).mp c_17
                    refine lv_iload hx hb dX7_advice_109 (lv_at hl 7 rfl) ?_
                    refine lv_istore_n (lv' := [(3, .int (nI i)), (7, .int (mg A 6 (nI i) (nI 1))), (0, .ref (xa x 102)), (1, .int (nI 1)), (2, .int (bmI (fun zz => mg A 6 (nI zz) (nI 1)) i)), (4, .int ((clS (fun zz => mg A 6 (nI zz) (nI 1)) i).2)), (5, .int (moI (fun zz => mg A 6 (nI zz) (nI 0)) i)), (6, .int (nI i))]) hx hb dX7_advice_111 rfl hl (by decide) rfl (fun ls hl => ?_)
                    refine lv_iload hx hb dX7_advice_112 (lv_at hl 1 rfl) ?_
                    refine lv_ineg hx hb dX7_advice_114 ?_
                    refine tp (b := mg A 6 (nI i) (nI 0)) mg_n1 ?_
                    refine lv_istore (lv' := [(5, .int (mg A 6 (nI i) (nI 0))), (3, .int (nI i)), (7, .int (mg A 6 (nI i) (nI 1))), (0, .ref (xa x 102)), (1, .int (nI 1)), (2, .int (bmI (fun zz => mg A 6 (nI zz) (nI 1)) i)), (4, .int ((clS (fun zz => mg A 6 (nI zz) (nI 1)) i).2)), (6, .int (nI i))]) hx hb dX7_advice_115 hl (by decide) rfl (fun ls hl => ?_)
                    refine lv_iinc (v := nI (i + 1)) (lv' := [(6, .int (nI (i + 1))), (5, .int (mg A 6 (nI i) (nI 0))), (3, .int (nI i)), (7, .int (mg A 6 (nI i) (nI 1))), (0, .ref (xa x 102)), (1, .int (nI 1)), (2, .int (bmI (fun zz => mg A 6 (nI zz) (nI 1)) i)), (4, .int ((clS (fun zz => mg A 6 (nI zz) (nI 1)) i).2))]) hx hb dX7_advice_117 hl (k := 7) rfl (nI_inc _) (by decide) rfl (fun ls hl => ?_)
                    refine lv_goto (tgt := 38) hx hb dX7_advice_120 (by decide) ?_
                    exact ih_2 (i + 1) (by omega) (by omega) _ _ _ hs (lvr (lv_at hl 4 rfl) (lvr (lv_at hl 5 rfl) (lvc (lv_at hl 6 rfl) (bmI_k (m := (fun zz => mg A 6 (nI zz) (nI 1))) (cl_k2 c_10 (fun h => c_13 ((bmI_lt (by omega)).mpr h)) c_16)) (lvc (lv_at hl 2 rfl) (congrArg nI (ml_0 (m := (fun zz => mg A 6 (nI zz) (nI 0))) c_17)).symm (lvc (lv_at hl 7 rfl) (congrArg Prod.snd (cl_k2 (m := (fun zz => mg A 6 (nI zz) (nI 1))) c_10 (fun h => c_13 ((bmI_lt (by omega)).mpr h)) c_16)).symm (lvc (lv_at hl 1 rfl) (moI_s (m := (fun zz => mg A 6 (nI zz) (nI 0))) (ml_0 (m := (fun zz => mg A 6 (nI zz) (nI 0))) c_17)) (lvr (lv_at hl 0 rfl) (lvn hl))))))))
                  · have c_17 : ¬ (i = 0) := fun h => c_17 ((nI_eq (a := i) (b := 0) (by omega) (by omega)).mpr h)
                    refine lv_iload hx hb dX7_advice_101 (lv_at hl 0 rfl) ?_
                    refine lv_ineg hx hb dX7_advice_103 ?_
                    refine tp (b := mg A 6 (nI i) (nI 0)) mg_n1 ?_
                    refine lv_iload hx hb dX7_advice_104 (lv_at hl 6 rfl) ?_
                    refine lv_icmp_le (tgt := 117) hx hb dX7_advice_106 (by decide) (fun c_18 => ?_) (fun c_18 => ?_)
                    · refine lv_iinc (v := nI (i + 1)) (lv' := [(6, .int (nI (i + 1))), (7, .int (mg A 6 (nI i) (nI 1))), (0, .ref (xa x 102)), (1, .int (nI 1)), (2, .int (bmI (fun zz => mg A 6 (nI zz) (nI 1)) i)), (3, .int (nI (mlS (fun zz => mg A 6 (nI zz) (nI 0)) i))), (4, .int ((clS (fun zz => mg A 6 (nI zz) (nI 1)) i).2)), (5, .int (moI (fun zz => mg A 6 (nI zz) (nI 0)) i))]) hx hb dX7_advice_117 hl (k := 7) rfl (nI_inc _) (by decide) rfl (fun ls hl => ?_)
                      refine lv_goto (tgt := 38) hx hb dX7_advice_120 (by decide) ?_
                      exact ih_2 (i + 1) (by omega) (by omega) _ _ _ hs (lvr (lv_at hl 2 rfl) (lvr (lv_at hl 3 rfl) (lvc (lv_at hl 4 rfl) (bmI_k (m := (fun zz => mg A 6 (nI zz) (nI 1))) (cl_k2 c_10 (fun h => c_13 ((bmI_lt (by omega)).mpr h)) c_16)) (lvc (lv_at hl 5 rfl) (congrArg nI (ml_k (m := (fun zz => mg A 6 (nI zz) (nI 0))) c_17 c_18)).symm (lvc (lv_at hl 6 rfl) (congrArg Prod.snd (cl_k2 (m := (fun zz => mg A 6 (nI zz) (nI 1))) c_10 (fun h => c_13 ((bmI_lt (by omega)).mpr h)) c_16)).symm (lvc (lv_at hl 7 rfl) ((moI_p (m := (fun zz => mg A 6 (nI zz) (nI 0))) c_17).trans (moI_s (m := (fun zz => mg A 6 (nI zz) (nI 0))) (ml_k (m := (fun zz => mg A 6 (nI zz) (nI 0))) c_17 c_18))) (lvr (lv_at hl 0 rfl) (lvn hl))))))))
                    · refine lv_iload hx hb dX7_advice_109 (lv_at hl 7 rfl) ?_
                      refine lv_istore_n (lv' := [(3, .int (nI i)), (7, .int (mg A 6 (nI i) (nI 1))), (0, .ref (xa x 102)), (1, .int (nI 1)), (2, .int (bmI (fun zz => mg A 6 (nI zz) (nI 1)) i)), (4, .int ((clS (fun zz => mg A 6 (nI zz) (nI 1)) i).2)), (5, .int (moI (fun zz => mg A 6 (nI zz) (nI 0)) i)), (6, .int (nI i))]) hx hb dX7_advice_111 rfl hl (by decide) rfl (fun ls hl => ?_)
                      refine lv_iload hx hb dX7_advice_112 (lv_at hl 1 rfl) ?_
                      refine lv_ineg hx hb dX7_advice_114 ?_
                      refine tp (b := mg A 6 (nI i) (nI 0)) mg_n1 ?_
                      refine lv_istore (lv' := [(5, .int (mg A 6 (nI i) (nI 0))), (3, .int (nI i)), (7, .int (mg A 6 (nI i) (nI 1))), (0, .ref (xa x 102)), (1, .int (nI 1)), (2, .int (bmI (fun zz => mg A 6 (nI zz) (nI 1)) i)), (4, .int ((clS (fun zz => mg A 6 (nI zz) (nI 1)) i).2)), (6, .int (nI i))]) hx hb dX7_advice_115 hl (by decide) rfl (fun ls hl => ?_)
                      refine lv_iinc (v := nI (i + 1)) (lv' := [(6, .int (nI (i + 1))), (5, .int (mg A 6 (nI i) (nI 0))), (3, .int (nI i)), (7, .int (mg A 6 (nI i) (nI 1))), (0, .ref (xa x 102)), (1, .int (nI 1)), (2, .int (bmI (fun zz => mg A 6 (nI zz) (nI 1)) i)), (4, .int ((clS (fun zz => mg A 6 (nI zz) (nI 1)) i).2))]) hx hb dX7_advice_117 hl (k := 7) rfl (nI_inc _) (by decide) rfl (fun ls hl => ?_)
                      refine lv_goto (tgt := 38) hx hb dX7_advice_120 (by decide) ?_
                      exact ih_2 (i + 1) (by omega) (by omega) _ _ _ hs (lvr (lv_at hl 4 rfl) (lvr (lv_at hl 5 rfl) (lvc (lv_at hl 6 rfl) (bmI_k (m := (fun zz => mg A 6 (nI zz) (nI 1))) (cl_k2 c_10 (fun h => c_13 ((bmI_lt (by omega)).mpr h)) c_16)) (lvc (lv_at hl 2 rfl) (congrArg nI (ml_n (m := (fun zz => mg A 6 (nI zz) (nI 0))) c_17 c_18)).symm (lvc (lv_at hl 7 rfl) (congrArg Prod.snd (cl_k2 (m := (fun zz => mg A 6 (nI zz) (nI 1))) c_10 (fun h => c_13 ((bmI_lt (by omega)).mpr h)) c_16)).symm (lvc (lv_at hl 1 rfl) (moI_s (m := (fun zz => mg A 6 (nI zz) (nI 0))) (ml_n (m := (fun zz => mg A 6 (nI zz) (nI 0))) c_17 c_18)) (lvr (lv_at hl 0 rfl) (lvn hl))))))))
                · refine lv_iload hx hb dX7_advice_89 (lv_at hl 7 rfl) ?_
                  refine lv_istore_n (lv' := [(2, .int (nI i)), (7, .int (mg A 6 (nI i) (nI 1))), (0, .ref (xa x 102)), (1, .int (nI 1)), (3, .int (nI (mlS (fun zz => mg A 6 (nI zz) (nI 0)) i))), (4, .int ((clS (fun zz => mg A 6 (nI zz) (nI 1)) i).2)), (5, .int (moI (fun zz => mg A 6 (nI zz) (nI 0)) i)), (6, .int (nI i))]) hx hb dX7_advice_91 rfl hl (by decide) rfl (fun ls hl => ?_)
                  refine lv_iload hx hb dX7_advice_92 (lv_at hl 1 rfl) ?_
                  refine lv_istore (lv' := [(4, .int (mg A 6 (nI i) (nI 1))), (2, .int (nI i)), (7, .int (mg A 6 (nI i) (nI 1))), (0, .ref (xa x 102)), (1, .int (nI 1)), (3, .int (nI (mlS (fun zz => mg A 6 (nI zz) (nI 0)) i))), (5, .int (moI (fun zz => mg A 6 (nI zz) (nI 0)) i)), (6, .int (nI i))]) hx hb dX7_advice_94 hl (by decide) rfl (fun ls hl => ?_)
                  refine lv_iload hx hb dX7_advice_96 (lv_at hl 7 rfl) ?_
                  refine lv_if_eq (tgt := 109) hx hb dX7_advice_98 (by decide) (fun c_19 => ?_) (fun c_19 => ?_)
                  · have c_19 : i = 0 := (nI_eq (a := i) (b := 0) (by omega) (by omega)).mp c_19
                    refine lv_iload hx hb dX7_advice_109 (lv_at hl 7 rfl) ?_
                    refine lv_istore_n (lv' := [(3, .int (nI i)), (4, .int (mg A 6 (nI i) (nI 1))), (2, .int (nI i)), (7, .int (mg A 6 (nI i) (nI 1))), (0, .ref (xa x 102)), (1, .int (nI 1)), (5, .int (moI (fun zz => mg A 6 (nI zz) (nI 0)) i)), (6, .int (nI i))]) hx hb dX7_advice_111 rfl hl (by decide) rfl (fun ls hl => ?_)
                    refine lv_iload hx hb dX7_advice_112 (lv_at hl 3 rfl) ?_
                    refine lv_ineg hx hb dX7_advice_114 ?_
                    refine tp (b := mg A 6 (nI i) (nI 0)) mg_n1 ?_
                    refine lv_istore (lv' := [(5, .int (mg A 6 (nI i) (nI 0))), (3, .int (nI i)), (4, .int (mg A 6 (nI i) (nI 1))), (2, .int (nI i)), (7, .int (mg A 6 (nI i) (nI 1))), (0, .ref (xa x 102)), (1, .int (nI 1)), (6, .int (nI i))]) hx hb dX7_advice_115 hl (by decide) rfl (fun ls hl => ?_)
                    refine lv_iinc (v := nI (i + 1)) (lv' := [(6, .int (nI (i + 1))), (5, .int (mg A 6 (nI i) (nI 0))), (3, .int (nI i)), (4, .int (mg A 6 (nI i) (nI 1))), (2, .int (nI i)), (7, .int (mg A 6 (nI i) (nI 1))), (0, .ref (xa x 102)), (1, .int (nI 1))]) hx hb dX7_advice_117 hl (k := 7) rfl (nI_inc _) (by decide) rfl (fun ls hl => ?_)
                    refine lv_goto (tgt := 38) hx hb dX7_advice_120 (by decide) ?_
                    exact ih_2 (i + 1) (by omega) (by omega) _ _ _ hs (lvr (lv_at hl 6 rfl) (lvr (lv_at hl 7 rfl) (lvc (lv_at hl 4 rfl) (bmI_n (m := (fun zz => mg A 6 (nI zz) (nI 1))) (cl_n2 c_10 (fun h => c_13 ((bmI_lt (by omega)).mpr h)) c_16) (by omega)) (lvc (lv_at hl 2 rfl) (congrArg nI (ml_0 (m := (fun zz => mg A 6 (nI zz) (nI 0))) c_19)).symm (lvc (lv_at hl 3 rfl) (congrArg Prod.snd (cl_n2 (m := (fun zz => mg A 6 (nI zz) (nI 1))) c_10 (fun h => c_13 ((bmI_lt (by omega)).mpr h)) c_16)).symm (lvc (lv_at hl 1 rfl) (moI_s (m := (fun zz => mg A 6 (nI zz) (nI 0))) (ml_0 (m := (fun zz => mg A 6 (nI zz) (nI 0))) c_19)) (lvr (lv_at hl 0 rfl) (lvn hl))))))))
                  · have c_19 : ¬ (i = 0) := fun h => c_19 ((nI_eq (a := i) (b := 0) (by omega) (by omega)).mpr h)
                    refine lv_iload hx hb dX7_advice_101 (lv_at hl 2 rfl) ?_
                    refine lv_ineg hx hb dX7_advice_103 ?_
                    refine tp (b := mg A 6 (nI i) (nI 0)) mg_n1 ?_
                    refine lv_iload hx hb dX7_advice_104 (lv_at hl 6 rfl) ?_
                    refine lv_icmp_le (tgt := 117) hx hb dX7_advice_106 (by decide) (fun c_20 => ?_) (fun c_20 => ?_)
                    · refine lv_iinc (v := nI (i + 1)) (lv' := [(6, .int (nI (i + 1))), (4, .int (mg A 6 (nI i) (nI 1))), (2, .int (nI i)), (7, .int (mg A 6 (nI i) (nI 1))), (0, .ref (xa x 102)), (1, .int (nI 1)), (3, .int (nI (mlS (fun zz => mg A 6 (nI zz) (nI 0)) i))), (5, .int (moI (fun zz => mg A 6 (nI zz) (nI 0)) i))]) hx hb dX7_advice_117 hl (k := 7) rfl (nI_inc _) (by decide) rfl (fun ls hl => ?_)
                      refine lv_goto (tgt := 38) hx hb dX7_advice_120 (by decide) ?_
                      exact ih_2 (i + 1) (by omega) (by omega) _ _ _ hs (lvr (lv_at hl 4 rfl) (lvr (lv_at hl 5 rfl) (lvc (lv_at hl 2 rfl) (bmI_n (m := (fun zz => mg A 6 (nI zz) (nI 1))) (cl_n2 c_10 (fun h => c_13 ((bmI_lt (by omega)).mpr h)) c_16) (by omega)) (lvc (lv_at hl 6 rfl) (congrArg nI (ml_k (m := (fun zz => mg A 6 (nI zz) (nI 0))) c_19 c_20)).symm (lvc (lv_at hl 1 rfl) (congrArg Prod.snd (cl_n2 (m := (fun zz => mg A 6 (nI zz) (nI 1))) c_10 (fun h => c_13 ((bmI_lt (by omega)).mpr h)) c_16)).symm (lvc (lv_at hl 7 rfl) ((moI_p (m := (fun zz => mg A 6 (nI zz) (nI 0))) c_19).trans (moI_s (m := (fun zz => mg A 6 (nI zz) (nI 0))) (ml_k (m := (fun zz => mg A 6 (nI zz) (nI 0))) c_19 c_20))) (lvr (lv_at hl 0 rfl) (lvn hl))))))))
                    · refine lv_iload hx hb dX7_advice_109 (lv_at hl 7 rfl) ?_
                      refine lv_istore_n (lv' := [(3, .int (nI i)), (4, .int (mg A 6 (nI i) (nI 1))), (2, .int (nI i)), (7, .int (mg A 6 (nI i) (nI 1))), (0, .ref (xa x 102)), (1, .int (nI 1)), (5, .int (moI (fun zz => mg A 6 (nI zz) (nI 0)) i)), (6, .int (nI i))]) hx hb dX7_advice_111 rfl hl (by decide) rfl (fun ls hl => ?_)
                      refine lv_iload hx hb dX7_advice_112 (lv_at hl 3 rfl) ?_
                      refine lv_ineg hx hb dX7_advice_114 ?_
                      refine tp (b := mg A 6 (nI i) (nI 0)) mg_n1 ?_
                      refine lv_istore (lv' := [(5, .int (mg A 6 (nI i) (nI 0))), (3, .int (nI i)), (4, .int (mg A 6 (nI i) (nI 1))), (2, .int (nI i)), (7, .int (mg A 6 (nI i) (nI 1))), (0, .ref (xa x 102)), (1, .int (nI 1)), (6, .int (nI i))]) hx hb dX7_advice_115 hl (by decide) rfl (fun ls hl => ?_)
                      refine lv_iinc (v := nI (i + 1)) (lv' := [(6, .int (nI (i + 1))), (5, .int (mg A 6 (nI i) (nI 0))), (3, .int (nI i)), (4, .int (mg A 6 (nI i) (nI 1))), (2, .int (nI i)), (7, .int (mg A 6 (nI i) (nI 1))), (0, .ref (xa x 102)), (1, .int (nI 1))]) hx hb dX7_advice_117 hl (k := 7) rfl (nI_inc _) (by decide) rfl (fun ls hl => ?_)
                      refine lv_goto (tgt := 38) hx hb dX7_advice_120 (by decide) ?_
                      exact ih_2 (i + 1) (by omega) (by omega) _ _ _ hs (lvr (lv_at hl 6 rfl) (lvr (lv_at hl 7 rfl) (lvc (lv_at hl 4 rfl) (bmI_n (m := (fun zz => mg A 6 (nI zz) (nI 1))) (cl_n2 c_10 (fun h => c_13 ((bmI_lt (by omega)).mpr h)) c_16) (by omega)) (lvc (lv_at hl 2 rfl) (congrArg nI (ml_n (m := (fun zz => mg A 6 (nI zz) (nI 0))) c_19 c_20)).symm (lvc (lv_at hl 3 rfl) (congrArg Prod.snd (cl_n2 (m := (fun zz => mg A 6 (nI zz) (nI 1))) c_10 (fun h => c_13 ((bmI_lt (by omega)).mpr h)) c_16)).symm (lvc (lv_at hl 1 rfl) (moI_s (m := (fun zz => mg A 6 (nI zz) (nI 0))) (ml_n (m := (fun zz => mg A 6 (nI zz) (nI 0))) c_19 c_20)) (lvr (lv_at hl 0 rfl) (lvn hl))))))))
      exact L_2 (_ + 1) 0 (Nat.lt_succ_self _) (by omega) _ _ _ hs (lvr (lv_at hl 6 rfl) (lvr (lv_at hl 5 rfl) (lvc (lv_at hl 4 rfl) (by unfold bmI; exact (iz_t rfl).symm) (lvc (lv_at hl 3 rfl) rfl (lvc (lv_at hl 2 rfl) nI_0 (lvc (lv_at hl 1 rfl) (nI_0.trans (iz_t rfl).symm) (lvr (lv_at hl 0 rfl) (lvn hl))))))))
    · refine lv_iconst (v := nI 1) hx hb dX7_advice_14 (by decide) ?_
      refine lv_aload_n hx hb dX7_advice_15 rfl (lv_at hl 0 rfl) ?_
      refine zg6 E hs (k := 102) rfl 0 (by decide) rfl q_514 dX7_advice_16 ?_
      refine lv_bipush (v := nI 76) hx hb dX7_advice_19 (by decide) ?_
      refine zald E hs 103 (n := 196) (j := 76) rfl rfl (by omega) (by decide) dX7_advice_21 ?_
      refine tp (b := nI 1) (hEc.trans hcu) ?_
      refine lv_isub hx hb dX7_advice_22 ?_
      refine tp (b := nI 0) (by decide) ?_
      refine lv_istore_n (lv' := [(1, .int (nI 0)), (0, .ref (xa x 102))]) hx hb dX7_advice_23 rfl hl (by decide) rfl (fun ls hl => ?_)
      refine lv_bipush (v := (-5)) hx hb dX7_advice_24 (by decide) ?_
      refine lv_istore_n (lv' := [(2, .int (-5)), (1, .int (nI 0)), (0, .ref (xa x 102))]) hx hb dX7_advice_26 rfl hl (by decide) rfl (fun ls hl => ?_)
      refine lv_iconst (v := nI 0) hx hb dX7_advice_27 (by decide) ?_
      refine lv_istore_n (lv' := [(3, .int (nI 0)), (2, .int (-5)), (1, .int (nI 0)), (0, .ref (xa x 102))]) hx hb dX7_advice_28 rfl hl (by decide) rfl (fun ls hl => ?_)
      refine lv_iconst (v := nI 0) hx hb dX7_advice_29 (by decide) ?_
      refine lv_istore (lv' := [(4, .int (nI 0)), (3, .int (nI 0)), (2, .int (-5)), (1, .int (nI 0)), (0, .ref (xa x 102))]) hx hb dX7_advice_30 hl (by decide) rfl (fun ls hl => ?_)
      refine lv_iconst (v := nI 0) hx hb dX7_advice_32 (by decide) ?_
      refine lv_istore (lv' := [(5, .int (nI 0)), (4, .int (nI 0)), (3, .int (nI 0)), (2, .int (-5)), (1, .int (nI 0)), (0, .ref (xa x 102))]) hx hb dX7_advice_33 hl (by decide) rfl (fun ls hl => ?_)
      refine lv_iconst (v := nI 0) hx hb dX7_advice_35 (by decide) ?_
      refine lv_istore (lv' := [(6, .int (nI 0)), (5, .int (nI 0)), (4, .int (nI 0)), (3, .int (nI 0)), (2, .int (-5)), (1, .int (nI 0)), (0, .ref (xa x 102))]) hx hb dX7_advice_36 hl (by decide) rfl (fun ls hl => ?_)
      have L_21 : ∀ (mm : Nat) (i : Nat), (w - f - i) < mm → (i ≤ w - f) → ∀ (H : Heap) (locs : List Loc) (ls : Array Slot), ST x (AA x) s.heap ar fd H locs → lv_has ls 8 [(0, .ref (xa x 102)), (1, .int (nI 0)), (2, .int (bmI (fun zz => mg A 6 (nI zz) (nI 0)) i)), (3, .int (nI (mlS (fun zz => mg A 6 (nI zz) (nI 1)) i))), (4, .int ((clS (fun zz => mg A 6 (nI zz) (nI 0)) i).2)), (5, .int (moI (fun zz => mg A 6 (nI zz) (nI 1)) i)), (6, .int (nI i))] → W p l e (rmZ 2 47) s m ([.ref (xa x 102)] : List Value).toArray below meth c H locs 0 0 (QP below x [.ref (xa x 102)] ar fd s (fun r => r = sp_advice A B w f o z n)) (F0 m 38 ls []) := by
        intro mm
        induction mm with
        | zero => intro i hmu; exact absurd hmu (Nat.not_lt_zero _)
        | succ mm ih_21 =>
          intro i hmu hi H locs ls hs hl
          refine lv_iload hx hb dX7_advice_38 (lv_at hl 6 rfl) ?_
          refine lv_aload_n hx hb dX7_advice_40 rfl (lv_at hl 0 rfl) ?_
          refine zVP E hs lkX7_77 [.int (nI i)] (c_X7_left l x ar fd A B w f hM) (by decide) (sh6 rfl) rfl ⟨Nat.le_of_ble_eq_true rfl, Nat.le_of_ble_eq_true rfl⟩ rfl hl.1 (Nat.le_of_ble_eq_true rfl) rfl dX7_advice_41 (fun r_22 H locs hp_23 hs => ?_)
          subst hp_23
          refine lv_icmp_ge (tgt := 123) hx hb dX7_advice_44 (by decide) (fun c_24 => ?_) (fun c_24 => ?_)
          · have c_24 : w - f ≤ i := (nI_leI (a := w - f) (b := i) (by omega) (by omega)).mp c_24
            refine lv_iload_n hx hb dX7_advice_123 rfl (lv_at hl 2 rfl) ?_
            refine lv_if_ge (tgt := 131) hx hb dX7_advice_124 (by decide) (fun c_25 => ?_) (fun c_25 => ?_)
            · refine lv_iload_n hx hb dX7_advice_131 rfl (lv_at hl 2 rfl) ?_
              exact zeP E hs (by show _ = sp_advice A B w f o z n; unfold sp_advice; rw [show w - f = i by omega, show sp_player B = nI 0 from by unfold sp_player; rw [c_1, iz_f (by decide), iz_t rfl, hcu]; decide, iz_t c_1, iz_f ((bmI_ge (by omega)).mp c_25)]; exact iz_f ((bmI_ge (by omega)).mp c_25)) dX7_advice_132
            · refine lv_iload_n hx hb dX7_advice_127 rfl (lv_at hl 3 rfl) ?_
              refine lv_goto (tgt := 132) hx hb dX7_advice_128 (by decide) ?_
              exact zeP E hs (by show _ = sp_advice A B w f o z n; unfold sp_advice; rw [show w - f = i by omega, show sp_player B = nI 0 from by unfold sp_player; rw [c_1, iz_f (by decide), iz_t rfl, hcu]; decide, iz_t c_1, iz_t (Classical.not_not.mp (fun h => c_25 ((bmI_ge (by omega)).mpr h))), show nI 1 - nI 0 = nI 1 by decide]) dX7_advice_132
          · have c_24 : ¬ (w - f ≤ i) := fun h => c_24 ((nI_leI (a := w - f) (b := i) (by omega) (by omega)).mpr h)
            refine lv_iload_n hx hb dX7_advice_47 rfl (lv_at hl 1 rfl) ?_
            refine lv_if_ne (tgt := 62) hx hb dX7_advice_48 (by decide) (fun h => absurd h (by decide)) (fun _ => ?_)
            refine lv_aload_n hx hb dX7_advice_51 rfl (lv_at hl 0 rfl) ?_
            refine lv_bipush (v := nI 79) hx hb dX7_advice_52 (by decide) ?_
            refine lv_iload hx hb dX7_advice_54 (lv_at hl 6 rfl) ?_
            refine zVP E hs lkX7_63 [] (c_X7_margin l x ar fd A B w f hM 79 (by decide) 6 hE3 (nI i)) (by decide) (sh6 rfl) rfl ⟨Nat.le_of_ble_eq_true rfl, Nat.le_of_ble_eq_true rfl⟩ rfl hl.1 (Nat.le_of_ble_eq_true rfl) rfl dX7_advice_56 (fun r_27 H locs hp_28 hs => ?_)
            subst hp_28
            refine lv_goto (tgt := 71) hx hb dX7_advice_59 (by decide) ?_
            refine lv_istore (lv' := [(7, .int (mg A 6 (nI i) (nI 0))), (0, .ref (xa x 102)), (1, .int (nI 0)), (2, .int (bmI (fun zz => mg A 6 (nI zz) (nI 0)) i)), (3, .int (nI (mlS (fun zz => mg A 6 (nI zz) (nI 1)) i))), (4, .int ((clS (fun zz => mg A 6 (nI zz) (nI 0)) i).2)), (5, .int (moI (fun zz => mg A 6 (nI zz) (nI 1)) i)), (6, .int (nI i))]) hx hb dX7_advice_71 hl (by decide) rfl (fun ls hl => ?_)
            refine lv_iload hx hb dX7_advice_73 (lv_at hl 0 rfl) ?_
            refine lv_if_le (tgt := 96) hx hb dX7_advice_75 (by decide) (fun c_29 => ?_) (fun c_29 => ?_)
            · refine lv_iload hx hb dX7_advice_96 (lv_at hl 7 rfl) ?_
              refine lv_if_eq (tgt := 109) hx hb dX7_advice_98 (by decide) (fun c_30 => ?_) (fun c_30 => ?_)
              · have c_30 : i = 0 := (nI_eq (a := i) (b := 0) (by omega) (by omega)).mp c_30
                refine lv_iload hx hb dX7_advice_109 (lv_at hl 7 rfl) ?_
                refine lv_istore_n (lv' := [(3, .int (nI i)), (7, .int (mg A 6 (nI i) (nI 0))), (0, .ref (xa x 102)), (1, .int (nI 0)), (2, .int (bmI (fun zz => mg A 6 (nI zz) (nI 0)) i)), (4, .int ((clS (fun zz => mg A 6 (nI zz) (nI 0)) i).2)), (5, .int (moI (fun zz => mg A 6 (nI zz) (nI 1)) i)), (6, .int (nI i))]) hx hb dX7_advice_111 rfl hl (by decide) rfl (fun ls hl => ?_)
                refine lv_iload hx hb dX7_advice_112 (lv_at hl 1 rfl) ?_
                refine lv_ineg hx hb dX7_advice_114 ?_
                refine tp (b := mg A 6 (nI i) (nI 1)) mg_n0 ?_
                refine lv_istore (lv' := [(5, .int (mg A 6 (nI i) (nI 1))), (3, .int (nI i)), (7, .int (mg A 6 (nI i) (nI 0))), (0, .ref (xa x 102)), (1, .int (nI 0)), (2, .int (bmI (fun zz => mg A 6 (nI zz) (nI 0)) i)), (4, .int ((clS (fun zz => mg A 6 (nI zz) (nI 0)) i).2)), (6, .int (nI i))]) hx hb dX7_advice_115 hl (by decide) rfl (fun ls hl => ?_)
                refine lv_iinc (v := nI (i + 1)) (lv' := [(6, .int (nI (i + 1))), (5, .int (mg A 6 (nI i) (nI 1))), (3, .int (nI i)), (7, .int (mg A 6 (nI i) (nI 0))), (0, .ref (xa x 102)), (1, .int (nI 0)), (2, .int (bmI (fun zz => mg A 6 (nI zz) (nI 0)) i)), (4, .int ((clS (fun zz => mg A 6 (nI zz) (nI 0)) i).2))]) hx hb dX7_advice_117 hl (k := 7) rfl (nI_inc _) (by decide) rfl (fun ls hl => ?_)
                refine lv_goto (tgt := 38) hx hb dX7_advice_120 (by decide) ?_
                exact ih_21 (i + 1) (by omega) (by omega) _ _ _ hs (lvr (lv_at hl 4 rfl) (lvr (lv_at hl 5 rfl) (lvc (lv_at hl 6 rfl) (bmI_k (m := (fun zz => mg A 6 (nI zz) (nI 0))) (cl_k1 c_29)) (lvc (lv_at hl 2 rfl) (congrArg nI (ml_0 (m := (fun zz => mg A 6 (nI zz) (nI 1))) c_30)).symm (lvc (lv_at hl 7 rfl) (congrArg Prod.snd (cl_k1 (m := (fun zz => mg A 6 (nI zz) (nI 0))) c_29)).symm (lvc (lv_at hl 1 rfl) (moI_s (m := (fun zz => mg A 6 (nI zz) (nI 1))) (ml_0 (m := (fun zz => mg A 6 (nI zz) (nI 1))) c_30)) (lvr (lv_at hl 0 rfl) (lvn hl))))))))
              · have c_30 : ¬ (i = 0) := fun h => c_30 ((nI_eq (a := i) (b := 0) (by omega) (by omega)).mpr h)
                refine lv_iload hx hb dX7_advice_101 (lv_at hl 0 rfl) ?_
                refine lv_ineg hx hb dX7_advice_103 ?_
                refine tp (b := mg A 6 (nI i) (nI 1)) mg_n0 ?_
                refine lv_iload hx hb dX7_advice_104 (lv_at hl 6 rfl) ?_
                refine lv_icmp_le (tgt := 117) hx hb dX7_advice_106 (by decide) (fun c_31 => ?_) (fun c_31 => ?_)
                · refine lv_iinc (v := nI (i + 1)) (lv' := [(6, .int (nI (i + 1))), (7, .int (mg A 6 (nI i) (nI 0))), (0, .ref (xa x 102)), (1, .int (nI 0)), (2, .int (bmI (fun zz => mg A 6 (nI zz) (nI 0)) i)), (3, .int (nI (mlS (fun zz => mg A 6 (nI zz) (nI 1)) i))), (4, .int ((clS (fun zz => mg A 6 (nI zz) (nI 0)) i).2)), (5, .int (moI (fun zz => mg A 6 (nI zz) (nI 1)) i))]) hx hb dX7_advice_117 hl (k := 7) rfl (nI_inc _) (by decide) rfl (fun ls hl => ?_)
                  refine lv_goto (tgt := 38) hx hb dX7_advice_120 (by decide) ?_
                  exact ih_21 (i + 1) (by omega) (by omega) _ _ _ hs (lvr (lv_at hl 2 rfl) (lvr (lv_at hl 3 rfl) (lvc (lv_at hl 4 rfl) (bmI_k (m := (fun zz => mg A 6 (nI zz) (nI 0))) (cl_k1 c_29)) (lvc (lv_at hl 5 rfl) (congrArg nI (ml_k (m := (fun zz => mg A 6 (nI zz) (nI 1))) c_30 c_31)).symm (lvc (lv_at hl 6 rfl) (congrArg Prod.snd (cl_k1 (m := (fun zz => mg A 6 (nI zz) (nI 0))) c_29)).symm (lvc (lv_at hl 7 rfl) ((moI_p (m := (fun zz => mg A 6 (nI zz) (nI 1))) c_30).trans (moI_s (m := (fun zz => mg A 6 (nI zz) (nI 1))) (ml_k (m := (fun zz => mg A 6 (nI zz) (nI 1))) c_30 c_31))) (lvr (lv_at hl 0 rfl) (lvn hl))))))))
                · refine lv_iload hx hb dX7_advice_109 (lv_at hl 7 rfl) ?_
                  refine lv_istore_n (lv' := [(3, .int (nI i)), (7, .int (mg A 6 (nI i) (nI 0))), (0, .ref (xa x 102)), (1, .int (nI 0)), (2, .int (bmI (fun zz => mg A 6 (nI zz) (nI 0)) i)), (4, .int ((clS (fun zz => mg A 6 (nI zz) (nI 0)) i).2)), (5, .int (moI (fun zz => mg A 6 (nI zz) (nI 1)) i)), (6, .int (nI i))]) hx hb dX7_advice_111 rfl hl (by decide) rfl (fun ls hl => ?_)
                  refine lv_iload hx hb dX7_advice_112 (lv_at hl 1 rfl) ?_
                  refine lv_ineg hx hb dX7_advice_114 ?_
                  refine tp (b := mg A 6 (nI i) (nI 1)) mg_n0 ?_
                  refine lv_istore (lv' := [(5, .int (mg A 6 (nI i) (nI 1))), (3, .int (nI i)), (7, .int (mg A 6 (nI i) (nI 0))), (0, .ref (xa x 102)), (1, .int (nI 0)), (2, .int (bmI (fun zz => mg A 6 (nI zz) (nI 0)) i)), (4, .int ((clS (fun zz => mg A 6 (nI zz) (nI 0)) i).2)), (6, .int (nI i))]) hx hb dX7_advice_115 hl (by decide) rfl (fun ls hl => ?_)
                  refine lv_iinc (v := nI (i + 1)) (lv' := [(6, .int (nI (i + 1))), (5, .int (mg A 6 (nI i) (nI 1))), (3, .int (nI i)), (7, .int (mg A 6 (nI i) (nI 0))), (0, .ref (xa x 102)), (1, .int (nI 0)), (2, .int (bmI (fun zz => mg A 6 (nI zz) (nI 0)) i)), (4, .int ((clS (fun zz => mg A 6 (nI zz) (nI 0)) i).2))]) hx hb dX7_advice_117 hl (k := 7) rfl (nI_inc _) (by decide) rfl (fun ls hl => ?_)
                  refine lv_goto (tgt := 38) hx hb dX7_advice_120 (by decide) ?_
                  exact ih_21 (i + 1) (by omega) (by omega) _ _ _ hs (lvr (lv_at hl 4 rfl) (lvr (lv_at hl 5 rfl) (lvc (lv_at hl 6 rfl) (bmI_k (m := (fun zz => mg A 6 (nI zz) (nI 0))) (cl_k1 c_29)) (lvc (lv_at hl 2 rfl) (congrArg nI (ml_n (m := (fun zz => mg A 6 (nI zz) (nI 1))) c_30 c_31)).symm (lvc (lv_at hl 7 rfl) (congrArg Prod.snd (cl_k1 (m := (fun zz => mg A 6 (nI zz) (nI 0))) c_29)).symm (lvc (lv_at hl 1 rfl) (moI_s (m := (fun zz => mg A 6 (nI zz) (nI 1))) (ml_n (m := (fun zz => mg A 6 (nI zz) (nI 1))) c_30 c_31)) (lvr (lv_at hl 0 rfl) (lvn hl))))))))
            · refine lv_iload_n hx hb dX7_advice_78 rfl (lv_at hl 3 rfl) ?_
              refine lv_if_lt (tgt := 89) hx hb dX7_advice_79 (by decide) (fun c_32 => ?_) (fun c_32 => ?_)
              · refine lv_iload hx hb dX7_advice_89 (lv_at hl 7 rfl) ?_
                refine lv_istore_n (lv' := [(2, .int (nI i)), (7, .int (mg A 6 (nI i) (nI 0))), (0, .ref (xa x 102)), (1, .int (nI 0)), (3, .int (nI (mlS (fun zz => mg A 6 (nI zz) (nI 1)) i))), (4, .int ((clS (fun zz => mg A 6 (nI zz) (nI 0)) i).2)), (5, .int (moI (fun zz => mg A 6 (nI zz) (nI 1)) i)), (6, .int (nI i))]) hx hb dX7_advice_91 rfl hl (by decide) rfl (fun ls hl => ?_)
                refine lv_iload hx hb dX7_advice_92 (lv_at hl 1 rfl) ?_
                refine lv_istore (lv' := [(4, .int (mg A 6 (nI i) (nI 0))), (2, .int (nI i)), (7, .int (mg A 6 (nI i) (nI 0))), (0, .ref (xa x 102)), (1, .int (nI 0)), (3, .int (nI (mlS (fun zz => mg A 6 (nI zz) (nI 1)) i))), (5, .int (moI (fun zz => mg A 6 (nI zz) (nI 1)) i)), (6, .int (nI i))]) hx hb dX7_advice_94 hl (by decide) rfl (fun ls hl => ?_)
                refine lv_iload hx hb dX7_advice_96 (lv_at hl 7 rfl) ?_
                refine lv_if_eq (tgt := 109) hx hb dX7_advice_98 (by decide) (fun c_33 => ?_) (fun c_33 => ?_)
                · have c_33 : i = 0 := (nI_eq (a := i) (b := 0) (by omega) (by omega)).mp c_33
                  refine lv_iload hx hb dX7_advice_109 (lv_at hl 7 rfl) ?_
                  refine lv_istore_n (lv' := [(3, .int (nI i)), (4, .int (mg A 6 (nI i) (nI 0))), (2, .int (nI i)), (7, .int (mg A 6 (nI i) (nI 0))), (0, .ref (xa x 102)), (1, .int (nI 0)), (5, .int (moI (fun zz => mg A 6 (nI zz) (nI 1)) i)), (6, .int (nI i))]) hx hb dX7_advice_111 rfl hl (by decide) rfl (fun ls hl => ?_)
                  refine lv_iload hx hb dX7_advice_112 (lv_at hl 3 rfl) ?_
                  refine lv_ineg hx hb dX7_advice_114 ?_
                  refine tp (b := mg A 6 (nI i) (nI 1)) mg_n0 ?_
                  refine lv_istore (lv' := [(5, .int (mg A 6 (nI i) (nI 1))), (3, .int (nI i)), (4, .int (mg A 6 (nI i) (nI 0))), (2, .int (nI i)), (7, .int (mg A 6 (nI i) (nI 0))), (0, .ref (xa x 102)), (1, .int (nI 0)), (6, .int (nI i))]) hx hb dX7_advice_115 hl (by decide) rfl (fun ls hl => ?_)
                  refine lv_iinc (v := nI (i + 1)) (lv' := [(6, .int (nI (i + 1))), (5, .int (mg A 6 (nI i) (nI 1))), (3, .int (nI i)), (4, .int (mg A 6 (nI i) (nI 0))), (2, .int (nI i)), (7, .int (mg A 6 (nI i) (nI 0))), (0, .ref (xa x 102)), (1, .int (nI 0))]) hx hb dX7_advice_117 hl (k := 7) rfl (nI_inc _) (by decide) rfl (fun ls hl => ?_)
                  refine lv_goto (tgt := 38) hx hb dX7_advice_120 (by decide) ?_
                  exact ih_21 (i + 1) (by omega) (by omega) _ _ _ hs (lvr (lv_at hl 6 rfl) (lvr (lv_at hl 7 rfl) (lvc (lv_at hl 4 rfl) (bmI_n (m := (fun zz => mg A 6 (nI zz) (nI 0))) (cl_n1 c_29 ((bmI_lt (by omega)).mp c_32)) (by omega)) (lvc (lv_at hl 2 rfl) (congrArg nI (ml_0 (m := (fun zz => mg A 6 (nI zz) (nI 1))) c_33)).symm (lvc (lv_at hl 3 rfl) (congrArg Prod.snd (cl_n1 (m := (fun zz => mg A 6 (nI zz) (nI 0))) c_29 ((bmI_lt (by omega)).mp c_32))).symm (lvc (lv_at hl 1 rfl) (moI_s (m := (fun zz => mg A 6 (nI zz) (nI 1))) (ml_0 (m := (fun zz => mg A 6 (nI zz) (nI 1))) c_33)) (lvr (lv_at hl 0 rfl) (lvn hl))))))))
                · have c_33 : ¬ (i = 0) := fun h => c_33 ((nI_eq (a := i) (b := 0) (by omega) (by omega)).mpr h)
                  refine lv_iload hx hb dX7_advice_101 (lv_at hl 2 rfl) ?_
                  refine lv_ineg hx hb dX7_advice_103 ?_
                  refine tp (b := mg A 6 (nI i) (nI 1)) mg_n0 ?_
                  refine lv_iload hx hb dX7_advice_104 (lv_at hl 6 rfl) ?_
                  refine lv_icmp_le (tgt := 117) hx hb dX7_advice_106 (by decide) (fun c_34 => ?_) (fun c_34 => ?_)
                  · refine lv_iinc (v := nI (i + 1)) (lv' := [(6, .int (nI (i + 1))), (4, .int (mg A 6 (nI i) (nI 0))), (2, .int (nI i)), (7, .int (mg A 6 (nI i) (nI 0))), (0, .ref (xa x 102)), (1, .int (nI 0)), (3, .int (nI (mlS (fun zz => mg A 6 (nI zz) (nI 1)) i))), (5, .int (moI (fun zz => mg A 6 (nI zz) (nI 1)) i))]) hx hb dX7_advice_117 hl (k := 7) rfl (nI_inc _) (by decide) rfl (fun ls hl => ?_)
                    refine lv_goto (tgt := 38) hx hb dX7_advice_120 (by decide) ?_
                    exact ih_21 (i + 1) (by omega) (by omega) _ _ _ hs (lvr (lv_at hl 4 rfl) (lvr (lv_at hl 5 rfl) (lvc (lv_at hl 2 rfl) (bmI_n (m := (fun zz => mg A 6 (nI zz) (nI 0))) (cl_n1 c_29 ((bmI_lt (by omega)).mp c_32)) (by omega)) (lvc (lv_at hl 6 rfl) (congrArg nI (ml_k (m := (fun zz => mg A 6 (nI zz) (nI 1))) c_33 c_34)).symm (lvc (lv_at hl 1 rfl) (congrArg Prod.snd (cl_n1 (m := (fun zz => mg A 6 (nI zz) (nI 0))) c_29 ((bmI_lt (by omega)).mp c_32))).symm (lvc (lv_at hl 7 rfl) ((moI_p (m := (fun zz => mg A 6 (nI zz) (nI 1))) c_33).trans (moI_s (m := (fun zz => mg A 6 (nI zz) (nI 1))) (ml_k (m := (fun zz => mg A 6 (nI zz) (nI 1))) c_33 c_34))) (lvr (lv_at hl 0 rfl) (lvn hl))))))))
                  · refine lv_iload hx hb dX7_advice_109 (lv_at hl 7 rfl) ?_
                    refine lv_istore_n (lv' := [(3, .int (nI i)), (4, .int (mg A 6 (nI i) (nI 0))), (2, .int (nI i)), (7, .int (mg A 6 (nI i) (nI 0))), (0, .ref (xa x 102)), (1, .int (nI 0)), (5, .int (moI (fun zz => mg A 6 (nI zz) (nI 1)) i)), (6, .int (nI i))]) hx hb dX7_advice_111 rfl hl (by decide) rfl (fun ls hl => ?_)
                    refine lv_iload hx hb dX7_advice_112 (lv_at hl 3 rfl) ?_
                    refine lv_ineg hx hb dX7_advice_114 ?_
                    refine tp (b := mg A 6 (nI i) (nI 1)) mg_n0 ?_
                    refine lv_istore (lv' := [(5, .int (mg A 6 (nI i) (nI 1))), (3, .int (nI i)), (4, .int (mg A 6 (nI i) (nI 0))), (2, .int (nI i)), (7, .int (mg A 6 (nI i) (nI 0))), (0, .ref (xa x 102)), (1, .int (nI 0)), (6, .int (nI i))]) hx hb dX7_advice_115 hl (by decide) rfl (fun ls hl => ?_)
                    refine lv_iinc (v := nI (i + 1)) (lv' := [(6, .int (nI (i + 1))), (5, .int (mg A 6 (nI i) (nI 1))), (3, .int (nI i)), (4, .int (mg A 6 (nI i) (nI 0))), (2, .int (nI i)), (7, .int (mg A 6 (nI i) (nI 0))), (0, .ref (xa x 102)), (1, .int (nI 0))]) hx hb dX7_advice_117 hl (k := 7) rfl (nI_inc _) (by decide) rfl (fun ls hl => ?_)
                    refine lv_goto (tgt := 38) hx hb dX7_advice_120 (by decide) ?_
                    exact ih_21 (i + 1) (by omega) (by omega) _ _ _ hs (lvr (lv_at hl 6 rfl) (lvr (lv_at hl 7 rfl) (lvc (lv_at hl 4 rfl) (bmI_n (m := (fun zz => mg A 6 (nI zz) (nI 0))) (cl_n1 c_29 ((bmI_lt (by omega)).mp c_32)) (by omega)) (lvc (lv_at hl 2 rfl) (congrArg nI (ml_n (m := (fun zz => mg A 6 (nI zz) (nI 1))) c_33 c_34)).symm (lvc (lv_at hl 3 rfl) (congrArg Prod.snd (cl_n1 (m := (fun zz => mg A 6 (nI zz) (nI 0))) c_29 ((bmI_lt (by omega)).mp c_32))).symm (lvc (lv_at hl 1 rfl) (moI_s (m := (fun zz => mg A 6 (nI zz) (nI 1))) (ml_n (m := (fun zz => mg A 6 (nI zz) (nI 1))) c_33 c_34)) (lvr (lv_at hl 0 rfl) (lvn hl))))))))
              · refine lv_iload hx hb dX7_advice_82 (lv_at hl 0 rfl) ?_
                refine lv_iload hx hb dX7_advice_84 (lv_at hl 5 rfl) ?_
                refine lv_icmp_ge (tgt := 96) hx hb dX7_advice_86 (by decide) (fun c_35 => ?_) (fun c_35 => ?_)
                · refine lv_iload hx hb dX7_advice_96 (lv_at hl 7 rfl) ?_
                  refine lv_if_eq (tgt := 109) hx hb dX7_advice_98 (by decide) (fun c_36 => ?_) (fun c_36 => ?_)
                  · have c_36 : i = 0 := (nI_eq (a := i) (b := 0) (by omega) (by omega)).mp c_36
                    refine lv_iload hx hb dX7_advice_109 (lv_at hl 7 rfl) ?_
                    refine lv_istore_n (lv' := [(3, .int (nI i)), (7, .int (mg A 6 (nI i) (nI 0))), (0, .ref (xa x 102)), (1, .int (nI 0)), (2, .int (bmI (fun zz => mg A 6 (nI zz) (nI 0)) i)), (4, .int ((clS (fun zz => mg A 6 (nI zz) (nI 0)) i).2)), (5, .int (moI (fun zz => mg A 6 (nI zz) (nI 1)) i)), (6, .int (nI i))]) hx hb dX7_advice_111 rfl hl (by decide) rfl (fun ls hl => ?_)
                    refine lv_iload hx hb dX7_advice_112 (lv_at hl 1 rfl) ?_
                    refine lv_ineg hx hb dX7_advice_114 ?_
                    refine tp (b := mg A 6 (nI i) (nI 1)) mg_n0 ?_
                    refine lv_istore (lv' := [(5, .int (mg A 6 (nI i) (nI 1))), (3, .int (nI i)), (7, .int (mg A 6 (nI i) (nI 0))), (0, .ref (xa x 102)), (1, .int (nI 0)), (2, .int (bmI (fun zz => mg A 6 (nI zz) (nI 0)) i)), (4, .int ((clS (fun zz => mg A 6 (nI zz) (nI 0)) i).2)), (6, .int (nI i))]) hx hb dX7_advice_115 hl (by decide) rfl (fun ls hl => ?_)
                    refine lv_iinc (v := nI (i + 1)) (lv' := [(6, .int (nI (i + 1))), (5, .int (mg A 6 (nI i) (nI 1))), (3, .int (nI i)), (7, .int (mg A 6 (nI i) (nI 0))), (0, .ref (xa x 102)), (1, .int (nI 0)), (2, .int (bmI (fun zz => mg A 6 (nI zz) (nI 0)) i)), (4, .int ((clS (fun zz => mg A 6 (nI zz) (nI 0)) i).2))]) hx hb dX7_advice_117 hl (k := 7) rfl (nI_inc _) (by decide) rfl (fun ls hl => ?_)
                    refine lv_goto (tgt := 38) hx hb dX7_advice_120 (by decide) ?_
                    exact ih_21 (i + 1) (by omega) (by omega) _ _ _ hs (lvr (lv_at hl 4 rfl) (lvr (lv_at hl 5 rfl) (lvc (lv_at hl 6 rfl) (bmI_k (m := (fun zz => mg A 6 (nI zz) (nI 0))) (cl_k2 c_29 (fun h => c_32 ((bmI_lt (by omega)).mpr h)) c_35)) (lvc (lv_at hl 2 rfl) (congrArg nI (ml_0 (m := (fun zz => mg A 6 (nI zz) (nI 1))) c_36)).symm (lvc (lv_at hl 7 rfl) (congrArg Prod.snd (cl_k2 (m := (fun zz => mg A 6 (nI zz) (nI 0))) c_29 (fun h => c_32 ((bmI_lt (by omega)).mpr h)) c_35)).symm (lvc (lv_at hl 1 rfl) (moI_s (m := (fun zz => mg A 6 (nI zz) (nI 1))) (ml_0 (m := (fun zz => mg A 6 (nI zz) (nI 1))) c_36)) (lvr (lv_at hl 0 rfl) (lvn hl))))))))
                  · have c_36 : ¬ (i = 0) := fun h => c_36 ((nI_eq (a := i) (b := 0) (by omega) (by omega)).mpr h)
                    refine lv_iload hx hb dX7_advice_101 (lv_at hl 0 rfl) ?_
                    refine lv_ineg hx hb dX7_advice_103 ?_
                    refine tp (b := mg A 6 (nI i) (nI 1)) mg_n0 ?_
                    refine lv_iload hx hb dX7_advice_104 (lv_at hl 6 rfl) ?_
                    refine lv_icmp_le (tgt := 117) hx hb dX7_advice_106 (by decide) (fun c_37 => ?_) (fun c_37 => ?_)
                    · refine lv_iinc (v := nI (i + 1)) (lv' := [(6, .int (nI (i + 1))), (7, .int (mg A 6 (nI i) (nI 0))), (0, .ref (xa x 102)), (1, .int (nI 0)), (2, .int (bmI (fun zz => mg A 6 (nI zz) (nI 0)) i)), (3, .int (nI (mlS (fun zz => mg A 6 (nI zz) (nI 1)) i))), (4, .int ((clS (fun zz => mg A 6 (nI zz) (nI 0)) i).2)), (5, .int (moI (fun zz => mg A 6 (nI zz) (nI 1)) i))]) hx hb dX7_advice_117 hl (k := 7) rfl (nI_inc _) (by decide) rfl (fun ls hl => ?_)
                      refine lv_goto (tgt := 38) hx hb dX7_advice_120 (by decide) ?_
                      exact ih_21 (i + 1) (by omega) (by omega) _ _ _ hs (lvr (lv_at hl 2 rfl) (lvr (lv_at hl 3 rfl) (lvc (lv_at hl 4 rfl) (bmI_k (m := (fun zz => mg A 6 (nI zz) (nI 0))) (cl_k2 c_29 (fun h => c_32 ((bmI_lt (by omega)).mpr h)) c_35)) (lvc (lv_at hl 5 rfl) (congrArg nI (ml_k (m := (fun zz => mg A 6 (nI zz) (nI 1))) c_36 c_37)).symm (lvc (lv_at hl 6 rfl) (congrArg Prod.snd (cl_k2 (m := (fun zz => mg A 6 (nI zz) (nI 0))) c_29 (fun h => c_32 ((bmI_lt (by omega)).mpr h)) c_35)).symm (lvc (lv_at hl 7 rfl) ((moI_p (m := (fun zz => mg A 6 (nI zz) (nI 1))) c_36).trans (moI_s (m := (fun zz => mg A 6 (nI zz) (nI 1))) (ml_k (m := (fun zz => mg A 6 (nI zz) (nI 1))) c_36 c_37))) (lvr (lv_at hl 0 rfl) (lvn hl))))))))
                    · refine lv_iload hx hb dX7_advice_109 (lv_at hl 7 rfl) ?_
                      refine lv_istore_n (lv' := [(3, .int (nI i)), (7, .int (mg A 6 (nI i) (nI 0))), (0, .ref (xa x 102)), (1, .int (nI 0)), (2, .int (bmI (fun zz => mg A 6 (nI zz) (nI 0)) i)), (4, .int ((clS (fun zz => mg A 6 (nI zz) (nI 0)) i).2)), (5, .int (moI (fun zz => mg A 6 (nI zz) (nI 1)) i)), (6, .int (nI i))]) hx hb dX7_advice_111 rfl hl (by decide) rfl (fun ls hl => ?_)
                      refine lv_iload hx hb dX7_advice_112 (lv_at hl 1 rfl) ?_
                      refine lv_ineg hx hb dX7_advice_114 ?_
                      refine tp (b := mg A 6 (nI i) (nI 1)) mg_n0 ?_
                      refine lv_istore (lv' := [(5, .int (mg A 6 (nI i) (nI 1))), (3, .int (nI i)), (7, .int (mg A 6 (nI i) (nI 0))), (0, .ref (xa x 102)), (1, .int (nI 0)), (2, .int (bmI (fun zz => mg A 6 (nI zz) (nI 0)) i)), (4, .int ((clS (fun zz => mg A 6 (nI zz) (nI 0)) i).2)), (6, .int (nI i))]) hx hb dX7_advice_115 hl (by decide) rfl (fun ls hl => ?_)
                      refine lv_iinc (v := nI (i + 1)) (lv' := [(6, .int (nI (i + 1))), (5, .int (mg A 6 (nI i) (nI 1))), (3, .int (nI i)), (7, .int (mg A 6 (nI i) (nI 0))), (0, .ref (xa x 102)), (1, .int (nI 0)), (2, .int (bmI (fun zz => mg A 6 (nI zz) (nI 0)) i)), (4, .int ((clS (fun zz => mg A 6 (nI zz) (nI 0)) i).2))]) hx hb dX7_advice_117 hl (k := 7) rfl (nI_inc _) (by decide) rfl (fun ls hl => ?_)
                      refine lv_goto (tgt := 38) hx hb dX7_advice_120 (by decide) ?_
                      exact ih_21 (i + 1) (by omega) (by omega) _ _ _ hs (lvr (lv_at hl 4 rfl) (lvr (lv_at hl 5 rfl) (lvc (lv_at hl 6 rfl) (bmI_k (m := (fun zz => mg A 6 (nI zz) (nI 0))) (cl_k2 c_29 (fun h => c_32 ((bmI_lt (by omega)).mpr h)) c_35)) (lvc (lv_at hl 2 rfl) (congrArg nI (ml_n (m := (fun zz => mg A 6 (nI zz) (nI 1))) c_36 c_37)).symm (lvc (lv_at hl 7 rfl) (congrArg Prod.snd (cl_k2 (m := (fun zz => mg A 6 (nI zz) (nI 0))) c_29 (fun h => c_32 ((bmI_lt (by omega)).mpr h)) c_35)).symm (lvc (lv_at hl 1 rfl) (moI_s (m := (fun zz => mg A 6 (nI zz) (nI 1))) (ml_n (m := (fun zz => mg A 6 (nI zz) (nI 1))) c_36 c_37)) (lvr (lv_at hl 0 rfl) (lvn hl))))))))
                · refine lv_iload hx hb dX7_advice_89 (lv_at hl 7 rfl) ?_
                  refine lv_istore_n (lv' := [(2, .int (nI i)), (7, .int (mg A 6 (nI i) (nI 0))), (0, .ref (xa x 102)), (1, .int (nI 0)), (3, .int (nI (mlS (fun zz => mg A 6 (nI zz) (nI 1)) i))), (4, .int ((clS (fun zz => mg A 6 (nI zz) (nI 0)) i).2)), (5, .int (moI (fun zz => mg A 6 (nI zz) (nI 1)) i)), (6, .int (nI i))]) hx hb dX7_advice_91 rfl hl (by decide) rfl (fun ls hl => ?_)
                  refine lv_iload hx hb dX7_advice_92 (lv_at hl 1 rfl) ?_
                  refine lv_istore (lv' := [(4, .int (mg A 6 (nI i) (nI 0))), (2, .int (nI i)), (7, .int (mg A 6 (nI i) (nI 0))), (0, .ref (xa x 102)), (1, .int (nI 0)), (3, .int (nI (mlS (fun zz => mg A 6 (nI zz) (nI 1)) i))), (5, .int (moI (fun zz => mg A 6 (nI zz) (nI 1)) i)), (6, .int (nI i))]) hx hb dX7_advice_94 hl (by decide) rfl (fun ls hl => ?_)
                  refine lv_iload hx hb dX7_advice_96 (lv_at hl 7 rfl) ?_
                  refine lv_if_eq (tgt := 109) hx hb dX7_advice_98 (by decide) (fun c_38 => ?_) (fun c_38 => ?_)
                  · have c_38 : i = 0 := (nI_eq (a := i) (b := 0) (by omega) (by omega)).mp c_38
                    refine lv_iload hx hb dX7_advice_109 (lv_at hl 7 rfl) ?_
                    refine lv_istore_n (lv' := [(3, .int (nI i)), (4, .int (mg A 6 (nI i) (nI 0))), (2, .int (nI i)), (7, .int (mg A 6 (nI i) (nI 0))), (0, .ref (xa x 102)), (1, .int (nI 0)), (5, .int (moI (fun zz => mg A 6 (nI zz) (nI 1)) i)), (6, .int (nI i))]) hx hb dX7_advice_111 rfl hl (by decide) rfl (fun ls hl => ?_)
                    refine lv_iload hx hb dX7_advice_112 (lv_at hl 3 rfl) ?_
                    refine lv_ineg hx hb dX7_advice_114 ?_
                    refine tp (b := mg A 6 (nI i) (nI 1)) mg_n0 ?_
                    refine lv_istore (lv' := [(5, .int (mg A 6 (nI i) (nI 1))), (3, .int (nI i)), (4, .int (mg A 6 (nI i) (nI 0))), (2, .int (nI i)), (7, .int (mg A 6 (nI i) (nI 0))), (0, .ref (xa x 102)), (1, .int (nI 0)), (6, .int (nI i))]) hx hb dX7_advice_115 hl (by decide) rfl (fun ls hl => ?_)
                    refine lv_iinc (v := nI (i + 1)) (lv' := [(6, .int (nI (i + 1))), (5, .int (mg A 6 (nI i) (nI 1))), (3, .int (nI i)), (4, .int (mg A 6 (nI i) (nI 0))), (2, .int (nI i)), (7, .int (mg A 6 (nI i) (nI 0))), (0, .ref (xa x 102)), (1, .int (nI 0))]) hx hb dX7_advice_117 hl (k := 7) rfl (nI_inc _) (by decide) rfl (fun ls hl => ?_)
                    refine lv_goto (tgt := 38) hx hb dX7_advice_120 (by decide) ?_
                    exact ih_21 (i + 1) (by omega) (by omega) _ _ _ hs (lvr (lv_at hl 6 rfl) (lvr (lv_at hl 7 rfl) (lvc (lv_at hl 4 rfl) (bmI_n (m := (fun zz => mg A 6 (nI zz) (nI 0))) (cl_n2 c_29 (fun h => c_32 ((bmI_lt (by omega)).mpr h)) c_35) (by omega)) (lvc (lv_at hl 2 rfl) (congrArg nI (ml_0 (m := (fun zz => mg A 6 (nI zz) (nI 1))) c_38)).symm (lvc (lv_at hl 3 rfl) (congrArg Prod.snd (cl_n2 (m := (fun zz => mg A 6 (nI zz) (nI 0))) c_29 (fun h => c_32 ((bmI_lt (by omega)).mpr h)) c_35)).symm (lvc (lv_at hl 1 rfl) (moI_s (m := (fun zz => mg A 6 (nI zz) (nI 1))) (ml_0 (m := (fun zz => mg A 6 (nI zz) (nI 1))) c_38)) (lvr (lv_at hl 0 rfl) (lvn hl))))))))
                  · have c_38 : ¬ (i = 0) := fun h => c_38 ((nI_eq (a := i) (b := 0) (by omega) (by omega)).mpr h)
                    refine lv_iload hx hb dX7_advice_101 (lv_at hl 2 rfl) ?_
                    refine lv_ineg hx hb dX7_advice_103 ?_
                    refine tp (b := mg A 6 (nI i) (nI 1)) mg_n0 ?_
                    refine lv_iload hx hb dX7_advice_104 (lv_at hl 6 rfl) ?_
                    refine lv_icmp_le (tgt := 117) hx hb dX7_advice_106 (by decide) (fun c_39 => ?_) (fun c_39 => ?_)
                    · refine lv_iinc (v := nI (i + 1)) (lv' := [(6, .int (nI (i + 1))), (4, .int (mg A 6 (nI i) (nI 0))), (2, .int (nI i)), (7, .int (mg A 6 (nI i) (nI 0))), (0, .ref (xa x 102)), (1, .int (nI 0)), (3, .int (nI (mlS (fun zz => mg A 6 (nI zz) (nI 1)) i))), (5, .int (moI (fun zz => mg A 6 (nI zz) (nI 1)) i))]) hx hb dX7_advice_117 hl (k := 7) rfl (nI_inc _) (by decide) rfl (fun ls hl => ?_)
                      refine lv_goto (tgt := 38) hx hb dX7_advice_120 (by decide) ?_
                      exact ih_21 (i + 1) (by omega) (by omega) _ _ _ hs (lvr (lv_at hl 4 rfl) (lvr (lv_at hl 5 rfl) (lvc (lv_at hl 2 rfl) (bmI_n (m := (fun zz => mg A 6 (nI zz) (nI 0))) (cl_n2 c_29 (fun h => c_32 ((bmI_lt (by omega)).mpr h)) c_35) (by omega)) (lvc (lv_at hl 6 rfl) (congrArg nI (ml_k (m := (fun zz => mg A 6 (nI zz) (nI 1))) c_38 c_39)).symm (lvc (lv_at hl 1 rfl) (congrArg Prod.snd (cl_n2 (m := (fun zz => mg A 6 (nI zz) (nI 0))) c_29 (fun h => c_32 ((bmI_lt (by omega)).mpr h)) c_35)).symm (lvc (lv_at hl 7 rfl) ((moI_p (m := (fun zz => mg A 6 (nI zz) (nI 1))) c_38).trans (moI_s (m := (fun zz => mg A 6 (nI zz) (nI 1))) (ml_k (m := (fun zz => mg A 6 (nI zz) (nI 1))) c_38 c_39))) (lvr (lv_at hl 0 rfl) (lvn hl))))))))
                    · refine lv_iload hx hb dX7_advice_109 (lv_at hl 7 rfl) ?_
                      refine lv_istore_n (lv' := [(3, .int (nI i)), (4, .int (mg A 6 (nI i) (nI 0))), (2, .int (nI i)), (7, .int (mg A 6 (nI i) (nI 0))), (0, .ref (xa x 102)), (1, .int (nI 0)), (5, .int (moI (fun zz => mg A 6 (nI zz) (nI 1)) i)), (6, .int (nI i))]) hx hb dX7_advice_111 rfl hl (by decide) rfl (fun ls hl => ?_)
                      refine lv_iload hx hb dX7_advice_112 (lv_at hl 3 rfl) ?_
                      refine lv_ineg hx hb dX7_advice_114 ?_
                      refine tp (b := mg A 6 (nI i) (nI 1)) mg_n0 ?_
                      refine lv_istore (lv' := [(5, .int (mg A 6 (nI i) (nI 1))), (3, .int (nI i)), (4, .int (mg A 6 (nI i) (nI 0))), (2, .int (nI i)), (7, .int (mg A 6 (nI i) (nI 0))), (0, .ref (xa x 102)), (1, .int (nI 0)), (6, .int (nI i))]) hx hb dX7_advice_115 hl (by decide) rfl (fun ls hl => ?_)
                      refine lv_iinc (v := nI (i + 1)) (lv' := [(6, .int (nI (i + 1))), (5, .int (mg A 6 (nI i) (nI 1))), (3, .int (nI i)), (4, .int (mg A 6 (nI i) (nI 0))), (2, .int (nI i)), (7, .int (mg A 6 (nI i) (nI 0))), (0, .ref (xa x 102)), (1, .int (nI 0))]) hx hb dX7_advice_117 hl (k := 7) rfl (nI_inc _) (by decide) rfl (fun ls hl => ?_)
                      refine lv_goto (tgt := 38) hx hb dX7_advice_120 (by decide) ?_
                      exact ih_21 (i + 1) (by omega) (by omega) _ _ _ hs (lvr (lv_at hl 6 rfl) (lvr (lv_at hl 7 rfl) (lvc (lv_at hl 4 rfl) (bmI_n (m := (fun zz => mg A 6 (nI zz) (nI 0))) (cl_n2 c_29 (fun h => c_32 ((bmI_lt (by omega)).mpr h)) c_35) (by omega)) (lvc (lv_at hl 2 rfl) (congrArg nI (ml_n (m := (fun zz => mg A 6 (nI zz) (nI 1))) c_38 c_39)).symm (lvc (lv_at hl 3 rfl) (congrArg Prod.snd (cl_n2 (m := (fun zz => mg A 6 (nI zz) (nI 0))) c_29 (fun h => c_32 ((bmI_lt (by omega)).mpr h)) c_35)).symm (lvc (lv_at hl 1 rfl) (moI_s (m := (fun zz => mg A 6 (nI zz) (nI 1))) (ml_n (m := (fun zz => mg A 6 (nI zz) (nI 1))) c_38 c_39)) (lvr (lv_at hl 0 rfl) (lvn hl))))))))
      exact L_21 (_ + 1) 0 (Nat.lt_succ_self _) (by omega) _ _ _ hs (lvr (lv_at hl 6 rfl) (lvr (lv_at hl 5 rfl) (lvc (lv_at hl 4 rfl) (by unfold bmI; exact (iz_t rfl).symm) (lvc (lv_at hl 3 rfl) rfl (lvc (lv_at hl 2 rfl) nI_0 (lvc (lv_at hl 1 rfl) (nI_0.trans (iz_t rfl).symm) (lvr (lv_at hl 0 rfl) (lvn hl))))))))
  · refine lv_bipush (v := (-4)) hx hb dX7_advice_11 (by decide) ?_
    exact zeP E hs (by show _ = sp_advice A B w f o z n; unfold sp_advice; rw [iz_f c_1]) dX7_advice_13
