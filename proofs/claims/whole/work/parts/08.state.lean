
/-! the state that is now, at cell 1; any state, by its base -/
noncomputable def vk (sd : Int32) : Nat := iz (sd = 0) 2 4
theorem ro_vk (sd : Int32) : RO (vk sd) 36 := by
  unfold vk
  by_cases h : sd = 0
  · rw [iz_t h]; exact ro_2
  · rw [iz_f h]; exact ro_4
noncomputable def mg (ar : AR) (k : Nat) (v sd : Int32) : Int32 := vtI (ar (k + 1)) v (ar (vk sd + 1)) - vtI (ar (k + 1)) v (ar (vk (nI 1 - sd) + 1))
noncomputable def wnI (m : Int32) : Int32 := iz (m = 0) (nI 2) (iz (m ≤ 0) (nI 1) (nI 0))
noncomputable def wsI (own oth : Int32) : Int32 := iz (own ≤ oth) own (own - (oth + nI 1))
noncomputable def wst (ar : AR) (v sd : Int32) : Int32 := wsI (vtI (ar 9) v (ar (vk sd + 1))) (vtI (ar 9) v (ar (vk (nI 1 - sd) + 1)))
noncomputable def clS (m : Nat → Int32) : Nat → Int32 × Int32
  | 0 => (-1, 0)
  | n + 1 => iz (m n ≤ 0) (clS m n) (iz ((clS m n).1 = -1) (nI n, m n) (iz ((clS m n).2 ≤ m n) (clS m n) (nI n, m n)))
theorem clS_s (m : Nat → Int32) (n : Nat) : clS m (n + 1) = iz (m n ≤ 0) (clS m n) (iz ((clS m n).1 = -1) (nI n, m n) (iz ((clS m n).2 ≤ m n) (clS m n) (nI n, m n))) := rfl
noncomputable def mlS (m : Nat → Int32) : Nat → Nat
  | 0 => 0
  | n + 1 => iz (m n ≤ m (mlS m n)) (mlS m n) n
theorem mlS_s (m : Nat → Int32) (n : Nat) : mlS m (n + 1) = iz (m n ≤ m (mlS m n)) (mlS m n) n := rfl
theorem mlS_1 (m : Nat → Int32) : mlS m 1 = 0 := by
  rw [mlS_s]
  by_cases h : m 0 ≤ m (mlS m 0)
  · rw [iz_t h]; rfl
  · rw [iz_f h]
noncomputable def mdA (ar : AR) (k : Nat) (v : Int32) (f : Nat) (pl : Int32) : AR := zu (zu ar 9 (fun j => iz (ar (k + 1) j = v) (nI f) (ar 9 j))) 13 (zu (ar 13) f pl)
noncomputable def lrF (g : Nat → Int32) (t : Int32) : Nat → Int32 := fun j => iz (g j = t) (-1) (iz (g j ≤ t) (g j) (g j + (-1)))
def SB (b : Nat) : Prop := kd b = 3 ∧ RO (b + 1) 36 ∧ RO (b + 3) 36 ∧ RO (b + 5) 36 ∧ RO (b + 7) 36 ∧ RO (b + 9) 36 ∧ RO (b + 11) 9 ∧ RO (b + 13) 2
theorem sb_1 : SB 1 := ⟨rfl, ro_2, ro_4, ro_6, ro_8, ro_10, ro_12, ro_14⟩
theorem sb_18 : SB 18 := ⟨rfl, ro_19, ro_21, ro_23, ro_25, ro_27, ro_29, ro_31⟩
theorem sb_33 : SB 33 := ⟨rfl, ro_34, ro_36, ro_38, ro_40, ro_42, ro_44, ro_46⟩
theorem sb_48 : SB 48 := ⟨rfl, ro_49, ro_51, ro_53, ro_55, ro_57, ro_59, ro_61⟩
theorem sb_63 : SB 63 := ⟨rfl, ro_64, ro_66, ro_68, ro_70, ro_72, ro_74, ro_76⟩
theorem sb_78 : SB 78 := ⟨rfl, ro_79, ro_81, ro_83, ro_85, ro_87, ro_89, ro_91⟩
def cpA (d s : Nat) (ar : AR) : AR := zu (zu (zu (zu (zu (zu (zu ar (d + 2) (ar (s + 2))) (d + 4) (ar (s + 4))) (d + 6) (ar (s + 6))) (d + 8) (ar (s + 8))) (d + 10) (ar (s + 10))) (d + 12) (ar (s + 12))) (d + 14) (ar (s + 14))
theorem wl_F {x : CT} {ar fd fd' : AR} {H : Heap} (h : va_P (xD x) vwCl (wl x ar fd) H) (he : ∀ k, sh x k (ar k) (fd' k) = sh x k (ar k) (fd k)) : va_P (xD x) vwCl (wl x ar fd') H := by
  have e : wl x ar fd' = wl x ar fd := List.map_congr_left fun k _ => by rw [he k]
  rw [e]
  exact h

set_option maxHeartbeats 4000000 in
set_option maxRecDepth 100000 in
/-- State.size -/
theorem c_X4_size (l : Launch) (x : CT) (ar fd : AR) (w : Nat) (hw : fd 1 7 = nI w) (hw9 : w ≤ 9) (hw2 : 2 ≤ w) : CP l yX4_size cX4_size 1 (some .int) 0 0 x [.ref (xa x 1)] ar fd (fun r => r = nI (36 / w)) := by
  refine zsP (own := RX4) rfl (by decide +kernel) (Nat.le_of_ble_eq_true rfl) ?_
  intro p e s m below meth c ls E hs hl
  have hx := E.1
  have hb := E.2.1
  have hl : lv_has ls 1 [(0, .ref (xa x 1))] := hl
  refine lv_aload_n hx hb dX4_size_0 rfl (lv_at hl 0 rfl) ?_
  refine zg3 E hs (k := 1) rfl 7 (by decide) rfl q_50 dX4_size_1 ?_
  refine tp (b := nI w) hw ?_
  refine lv_if_le (tgt := 17) hx hb dX4_size_4 (by decide) (fun c_1 => ?_) (fun c_1 => ?_)
  · have c_1 : w ≤ 0 := (nI_leI (a := w) (b := 0) (by omega) (by omega)).mp c_1
    exfalso; omega
  · have c_1 : ¬ (w ≤ 0) := fun h => c_1 ((nI_leI (a := w) (b := 0) (by omega) (by omega)).mpr h)
    refine lv_bipush (v := nI 36) hx hb dX4_size_7 (by decide) ?_
    refine lv_aload_n hx hb dX4_size_9 rfl (lv_at hl 0 rfl) ?_
    refine zg3 E hs (k := 1) rfl 7 (by decide) rfl q_50 dX4_size_10 ?_
    refine tp (b := nI w) hw ?_
    refine lv_idiv hx hb dX4_size_13 (nI_ne0 (by omega) (by omega)) ?_
    refine tp (b := nI (36 / w)) (nI_div (by omega) (by omega)) ?_
    refine lv_goto (tgt := 18) hx hb dX4_size_14 (by decide) ?_
    exact zeP E hs rfl dX4_size_18

set_option maxHeartbeats 4000000 in
set_option maxRecDepth 100000 in
/-- State.left -/
theorem c_X4_left (l : Launch) (x : CT) (ar fd : AR) : CP l yX4_left cX4_left 1 (some .int) 0 0 x [.ref (xa x 1)] ar fd (fun r => r = fd 1 7 - fd 1 8) := by
  refine zsP (own := RX4) rfl (by decide +kernel) (Nat.le_of_ble_eq_true rfl) ?_
  intro p e s m below meth c ls E hs hl
  have hx := E.1
  have hb := E.2.1
  have hl : lv_has ls 1 [(0, .ref (xa x 1))] := hl
  refine lv_aload_n hx hb dX4_left_0 rfl (lv_at hl 0 rfl) ?_
  refine zg3 E hs (k := 1) rfl 7 (by decide) rfl q_50 dX4_left_1 ?_
  refine lv_aload_n hx hb dX4_left_4 rfl (lv_at hl 0 rfl) ?_
  refine zg3 E hs (k := 1) rfl 8 (by decide) rfl q_52 dX4_left_5 ?_
  refine lv_isub hx hb dX4_left_8 ?_
  exact zeP E hs rfl dX4_left_9

set_option maxHeartbeats 4000000 in
set_option maxRecDepth 100000 in
/-- State.isOpen -/
theorem c_X4_isOpen (l : Launch) (x : CT) (ar fd : AR) (i : Nat) (hi : i < 36) : CP l yX4_isOpen cX4_isOpen 2 (some .boolean) 1 21 x [.ref (xa x 1), .int (nI i)] ar fd (fun r => r = bz (ar 9 i = -1)) := by
  refine zsP (own := RX4) rfl (by decide +kernel) (Nat.le_of_ble_eq_true rfl) ?_
  intro p e s m below meth c ls E hs hl
  have hx := E.1
  have hb := E.2.1
  have hl : lv_has ls 2 [(0, .ref (xa x 1)), (1, .int (nI i))] := hl
  refine lv_aload_n hx hb dX4_isOpen_0 rfl (lv_at hl 0 rfl) ?_
  refine zg3 E hs (k := 1) rfl 3 (by decide) rfl q_42 dX4_isOpen_1 ?_
  refine lv_iload_n hx hb dX4_isOpen_4 rfl (lv_at hl 1 rfl) ?_
  refine zVP E hs lkX4_59 [] (c_X3_at l x 8 36 ro_8 ar fd (nI i)) (by decide) (sh2 rfl) rfl ⟨Nat.le_of_ble_eq_true rfl, Nat.le_of_ble_eq_true rfl⟩ rfl hl.1 (Nat.le_of_ble_eq_true rfl) rfl dX4_isOpen_5 (fun r_1 H locs hp_2 hs => ?_)
  subst hp_2
  refine tp (b := ar 9 i) (rowAt_n (by omega) (by decide)) ?_
  refine lv_iconst (v := (-1)) hx hb dX4_isOpen_8 (by decide) ?_
  refine lv_icmp_ne (tgt := 16) hx hb dX4_isOpen_9 (by decide) (fun c_3 => ?_) (fun c_3 => ?_)
  · refine lv_iconst (v := nI 0) hx hb dX4_isOpen_16 (by decide) ?_
    exact zePn E hs rfl (bz_f c_3).symm dX4_isOpen_17
  · refine lv_iconst (v := nI 1) hx hb dX4_isOpen_12 (by decide) ?_
    refine lv_goto (tgt := 17) hx hb dX4_isOpen_13 (by decide) ?_
    exact zePn E hs rfl (bz_t c_3).symm dX4_isOpen_17

set_option maxHeartbeats 4000000 in
set_option maxRecDepth 100000 in
/-- State.isPart -/
theorem c_X4_isPart (l : Launch) (x : CT) (ar fd : AR) (v : Int32) : CP l yX4_isPart cX4_isPart 2 (some .boolean) 1 20 x [.ref (xa x 1), .int v] ar fd (fun r => r = bz (¬ v < 0 ∧ ¬ fd 1 7 - fd 1 8 ≤ v)) := by
  refine zsP (own := RX4) rfl (by decide +kernel) (Nat.le_of_ble_eq_true rfl) ?_
  intro p e s m below meth c ls E hs hl
  have hx := E.1
  have hb := E.2.1
  have hl : lv_has ls 2 [(0, .ref (xa x 1)), (1, .int v)] := hl
  refine lv_iload_n hx hb dX4_isPart_0 rfl (lv_at hl 1 rfl) ?_
  refine lv_if_lt (tgt := 16) hx hb dX4_isPart_1 (by decide) (fun c_1 => ?_) (fun c_1 => ?_)
  · refine lv_iconst (v := nI 0) hx hb dX4_isPart_16 (by decide) ?_
    exact zePn E hs rfl (bz_f (fun h => h.1 c_1)).symm dX4_isPart_17
  · refine lv_iload_n hx hb dX4_isPart_4 rfl (lv_at hl 1 rfl) ?_
    refine lv_aload_n hx hb dX4_isPart_5 rfl (lv_at hl 0 rfl) ?_
    refine zVP E hs lkX4_63 [.int v] (c_X4_left l x ar fd) (by decide) (sh3 rfl) rfl ⟨Nat.le_of_ble_eq_true rfl, Nat.le_of_ble_eq_true rfl⟩ rfl hl.1 (Nat.le_of_ble_eq_true rfl) rfl dX4_isPart_6 (fun r_2 H locs hp_3 hs => ?_)
    subst hp_3
    refine lv_icmp_ge (tgt := 16) hx hb dX4_isPart_9 (by decide) (fun c_4 => ?_) (fun c_4 => ?_)
    · refine lv_iconst (v := nI 0) hx hb dX4_isPart_16 (by decide) ?_
      exact zePn E hs rfl (bz_f (fun h => h.2 c_4)).symm dX4_isPart_17
    · refine lv_iconst (v := nI 1) hx hb dX4_isPart_12 (by decide) ?_
      refine lv_goto (tgt := 17) hx hb dX4_isPart_13 (by decide) ?_
      exact zePn E hs rfl (bz_t ⟨c_1, c_4⟩).symm dX4_isPart_17

noncomputable def sp_player (fd : AR) : Int32 := iz (fd 1 10 = nI 0) (fd 1 9) (iz (fd 1 10 = nI 1) ((nI 1) - (fd 1 9)) ((-1)))
set_option maxHeartbeats 4000000 in
set_option maxRecDepth 100000 in
/-- State.player -/
theorem c_X4_player (l : Launch) (x : CT) (ar fd : AR) : CP l yX4_player cX4_player 1 (some .int) 0 0 x [.ref (xa x 1)] ar fd (fun r => r = sp_player fd) := by
  refine zsP (own := RX4) rfl (by decide +kernel) (Nat.le_of_ble_eq_true rfl) ?_
  intro p e s m below meth c ls E hs hl
  have hx := E.1
  have hb := E.2.1
  have hl : lv_has ls 1 [(0, .ref (xa x 1))] := hl
  refine lv_aload_n hx hb dX4_player_0 rfl (lv_at hl 0 rfl) ?_
  refine zg3 E hs (k := 1) rfl 10 (by decide) rfl q_55 dX4_player_1 ?_
  by_cases c_1 : fd 1 10 = nI 0
  · refine lv_lookup (off := 28) (tgt := 32) hx hb dX4_player_4 (by decide) (by rw [c_1]; decide) (by decide) ?_
    refine lv_aload_n hx hb dX4_player_32 rfl (lv_at hl 0 rfl) ?_
    refine zg3 E hs (k := 1) rfl 9 (by decide) rfl q_54 dX4_player_33 ?_
    exact zeP E hs (by show _ = sp_player fd; unfold sp_player; rw [iz_t c_1]) dX4_player_36
  by_cases c_2 : fd 1 10 = nI 1
  · refine lv_lookup (off := 33) (tgt := 37) hx hb dX4_player_4 (by decide) (by rw [c_2]; decide) (by decide) ?_
    refine lv_iconst (v := nI 1) hx hb dX4_player_37 (by decide) ?_
    refine lv_aload_n hx hb dX4_player_38 rfl (lv_at hl 0 rfl) ?_
    refine zg3 E hs (k := 1) rfl 9 (by decide) rfl q_54 dX4_player_39 ?_
    refine lv_isub hx hb dX4_player_42 ?_
    exact zeP E hs (by show _ = sp_player fd; unfold sp_player; rw [iz_f c_1, iz_t c_2]) dX4_player_43
  refine lv_lookup (off := 40) (tgt := 44) hx hb dX4_player_4 (by decide) (by show Op.lookupswitch.offset [((0 : Int), (28 : Int)), ((1 : Int), (33 : Int))] 40 _ = _; rw [lv_osw (a := 0) c_1 rfl]; rw [lv_osw (a := 1) c_2 rfl]; rfl) (by decide) ?_
  refine lv_iconst (v := (-1)) hx hb dX4_player_44 (by decide) ?_
  exact zeP E hs (by show _ = sp_player fd; unfold sp_player; rw [iz_f c_1, iz_f c_2]) dX4_player_45

set_option maxHeartbeats 4000000 in
set_option maxRecDepth 100000 in
/-- State.openWithoutPart -/
theorem c_X4_openWithoutPart (l : Launch) (x : CT) (ar fd : AR) : CP l yX4_openWithoutPart cX4_openWithoutPart 3 (some .int) 2 42 x [.ref (xa x 1)] ar fd (fun r => r = nI (ct (fun c => ar 9 c = -1 ∧ ar 7 c = -1) 36)) := by
  refine zsP (own := RX4) rfl (by decide +kernel) (Nat.le_of_ble_eq_true rfl) ?_
  intro p e s m below meth c ls E hs hl
  have hx := E.1
  have hb := E.2.1
  have hl : lv_has ls 3 [(0, .ref (xa x 1))] := hl
  refine lv_iconst (v := nI 0) hx hb dX4_openWithoutPart_0 (by decide) ?_
  refine lv_istore_n (lv' := [(1, .int (nI 0)), (0, .ref (xa x 1))]) hx hb dX4_openWithoutPart_1 rfl hl (by decide) rfl (fun ls hl => ?_)
  refine lv_iconst (v := nI 0) hx hb dX4_openWithoutPart_2 (by decide) ?_
  refine lv_istore_n (lv' := [(2, .int (nI 0)), (1, .int (nI 0)), (0, .ref (xa x 1))]) hx hb dX4_openWithoutPart_3 rfl hl (by decide) rfl (fun ls hl => ?_)
  have L_1 : ∀ (mm : Nat) (i : Nat), (36 - i) < mm → (i ≤ 36) → ∀ (H : Heap) (locs : List Loc) (ls : Array Slot), ST x (AA x) s.heap ar fd H locs → lv_has ls 3 [(0, .ref (xa x 1)), (1, .int (nI (ct (fun c => ar 9 c = -1 ∧ ar 7 c = -1) i))), (2, .int (nI i))] → W p l e (rmZ 2 42) s m ([.ref (xa x 1)] : List Value).toArray below meth c H locs 0 0 (QP below x [.ref (xa x 1)] ar fd s (fun r => r = nI (ct (fun c => ar 9 c = -1 ∧ ar 7 c = -1) 36))) (F0 m 4 ls []) := by
    intro mm
    induction mm with
    | zero => intro i hmu; exact absurd hmu (Nat.not_lt_zero _)
    | succ mm ih_1 =>
      intro i hmu hi H locs ls hs hl
      refine lv_iload_n hx hb dX4_openWithoutPart_4 rfl (lv_at hl 2 rfl) ?_
      refine lv_bipush (v := nI 36) hx hb dX4_openWithoutPart_5 (by decide) ?_
      refine lv_icmp_ge (tgt := 39) hx hb dX4_openWithoutPart_7 (by decide) (fun c_2 => ?_) (fun c_2 => ?_)
      · have c_2 : 36 ≤ i := (nI_leI (a := 36) (b := i) (by omega) (by omega)).mp c_2
        refine lv_iload_n hx hb dX4_openWithoutPart_39 rfl (lv_at hl 1 rfl) ?_
        exact zeP E hs (by rw [show i = 36 by omega]) dX4_openWithoutPart_40
      · have c_2 : ¬ (36 ≤ i) := fun h => c_2 ((nI_leI (a := 36) (b := i) (by omega) (by omega)).mpr h)
        refine lv_aload_n hx hb dX4_openWithoutPart_10 rfl (lv_at hl 0 rfl) ?_
        refine lv_iload_n hx hb dX4_openWithoutPart_11 rfl (lv_at hl 2 rfl) ?_
        refine zVP E hs lkX4_67 [] (c_X4_isOpen l x ar fd i (by omega)) (by decide) (sh3 rfl) rfl ⟨Nat.le_of_ble_eq_true rfl, Nat.le_of_ble_eq_true rfl⟩ rfl hl.1 (Nat.le_of_ble_eq_true rfl) rfl dX4_openWithoutPart_12 (fun r_3 H locs hp_4 hs => ?_)
        subst hp_4
        refine lv_if_eq (tgt := 33) hx hb dX4_openWithoutPart_15 (by decide) (fun c_5 => ?_) (fun c_5 => ?_)
        · have c_5 : ¬ (ar 9 i = -1) := bz_0 c_5
          refine lv_iinc (v := nI (i + 1)) (lv' := [(2, .int (nI (i + 1))), (0, .ref (xa x 1)), (1, .int (nI (ct (fun c => ar 9 c = -1 ∧ ar 7 c = -1) i)))]) hx hb dX4_openWithoutPart_33 hl (k := 2) rfl (nI_inc _) (by decide) rfl (fun ls hl => ?_)
          refine lv_goto (tgt := 4) hx hb dX4_openWithoutPart_36 (by decide) ?_
          exact ih_1 (i + 1) (by omega) (by omega) _ _ _ hs (lvr (lv_at hl 1 rfl) (lvc (lv_at hl 2 rfl) (by rw [ct_f (P := fun c => ar 9 c = -1 ∧ ar 7 c = -1) (fun h => c_5 h.1)]) (lvr (lv_at hl 0 rfl) (lvn hl))))
        · have c_5 : ar 9 i = -1 := bz_1 c_5
          refine lv_aload_n hx hb dX4_openWithoutPart_18 rfl (lv_at hl 0 rfl) ?_
          refine zg3 E hs (k := 1) rfl 2 (by decide) rfl q_39 dX4_openWithoutPart_19 ?_
          refine lv_iload_n hx hb dX4_openWithoutPart_22 rfl (lv_at hl 2 rfl) ?_
          refine zVP E hs lkX4_59 [] (c_X3_at l x 6 36 ro_6 ar fd (nI i)) (by decide) (sh2 rfl) rfl ⟨Nat.le_of_ble_eq_true rfl, Nat.le_of_ble_eq_true rfl⟩ rfl hl.1 (Nat.le_of_ble_eq_true rfl) rfl dX4_openWithoutPart_23 (fun r_6 H locs hp_7 hs => ?_)
          subst hp_7
          refine tp (b := ar 7 i) (rowAt_n (by omega) (by decide)) ?_
          refine lv_iconst (v := (-1)) hx hb dX4_openWithoutPart_26 (by decide) ?_
          refine lv_icmp_ne (tgt := 33) hx hb dX4_openWithoutPart_27 (by decide) (fun c_8 => ?_) (fun c_8 => ?_)
          · refine lv_iinc (v := nI (i + 1)) (lv' := [(2, .int (nI (i + 1))), (0, .ref (xa x 1)), (1, .int (nI (ct (fun c => ar 9 c = -1 ∧ ar 7 c = -1) i)))]) hx hb dX4_openWithoutPart_33 hl (k := 2) rfl (nI_inc _) (by decide) rfl (fun ls hl => ?_)
            refine lv_goto (tgt := 4) hx hb dX4_openWithoutPart_36 (by decide) ?_
            exact ih_1 (i + 1) (by omega) (by omega) _ _ _ hs (lvr (lv_at hl 1 rfl) (lvc (lv_at hl 2 rfl) (by rw [ct_f (P := fun c => ar 9 c = -1 ∧ ar 7 c = -1) (fun h => c_8 h.2)]) (lvr (lv_at hl 0 rfl) (lvn hl))))
          · refine lv_iinc (v := nI (ct (fun c => ar 9 c = -1 ∧ ar 7 c = -1) i + 1)) (lv' := [(1, .int (nI (ct (fun c => ar 9 c = -1 ∧ ar 7 c = -1) i + 1))), (0, .ref (xa x 1)), (2, .int (nI i))]) hx hb dX4_openWithoutPart_30 hl (k := 1) rfl (nI_inc _) (by decide) rfl (fun ls hl => ?_)
            refine lv_iinc (v := nI (i + 1)) (lv' := [(2, .int (nI (i + 1))), (1, .int (nI (ct (fun c => ar 9 c = -1 ∧ ar 7 c = -1) i + 1))), (0, .ref (xa x 1))]) hx hb dX4_openWithoutPart_33 hl (k := 2) rfl (nI_inc _) (by decide) rfl (fun ls hl => ?_)
            refine lv_goto (tgt := 4) hx hb dX4_openWithoutPart_36 (by decide) ?_
            exact ih_1 (i + 1) (by omega) (by omega) _ _ _ hs (lvr (lv_at hl 2 rfl) (lvc (lv_at hl 1 rfl) (by rw [ct_t (P := fun c => ar 9 c = -1 ∧ ar 7 c = -1) ⟨c_5, c_8⟩]) (lvr (lv_at hl 0 rfl) (lvn hl))))
  exact L_1 (_ + 1) 0 (Nat.lt_succ_self _) (by omega) _ _ _ hs (lvr (lv_at hl 2 rfl) (lvr (lv_at hl 1 rfl) (lvr (lv_at hl 0 rfl) (lvn hl))))

set_option maxHeartbeats 4000000 in
set_option maxRecDepth 100000 in
/-- State.votesOf -/
theorem c_X4_votesOf (l : Launch) (x : CT) (ar fd : AR) (sd : Int32) : CR l yX4_votesOf cX4_votesOf 2 (some (.object "FrozenDistricts$Row")) 0 0 x [.ref (xa x 1), .int sd] ar fd (fun a => a = xa x (vk sd)) := by
  refine zsR (own := RX4) rfl (by decide +kernel) (Nat.le_of_ble_eq_true rfl) ?_
  intro p e s m below meth c ls E hs hl
  have hx := E.1
  have hb := E.2.1
  have hl : lv_has ls 2 [(0, .ref (xa x 1)), (1, .int sd)] := hl
  refine lv_iload_n hx hb dX4_votesOf_0 rfl (lv_at hl 1 rfl) ?_
  refine lv_if_ne (tgt := 11) hx hb dX4_votesOf_1 (by decide) (fun c_1 => ?_) (fun c_1 => ?_)
  · refine lv_aload_n hx hb dX4_votesOf_11 rfl (lv_at hl 0 rfl) ?_
    refine zg3 E hs (k := 1) rfl 1 (by decide) rfl q_37 dX4_votesOf_12 ?_
    exact zeR E hs (by unfold vk; rw [iz_f c_1]) dX4_votesOf_15
  · refine lv_aload_n hx hb dX4_votesOf_4 rfl (lv_at hl 0 rfl) ?_
    refine zg3 E hs (k := 1) rfl 0 (by decide) rfl q_35 dX4_votesOf_5 ?_
    refine lv_goto (tgt := 15) hx hb dX4_votesOf_8 (by decide) ?_
    exact zeR E hs (by unfold vk; rw [iz_t c_1]) dX4_votesOf_15

set_option maxHeartbeats 4000000 in
set_option maxRecDepth 100000 in
/-- State.margin -/
theorem c_X4_margin (l : Launch) (x : CT) (k : Nat) (hr : RO k 36) (ar fd : AR) (v sd : Int32) : CP l yX4_margin cX4_margin 4 (some .int) 2 45 x [.ref (xa x 1), .ref (xa x k), .int v, .int sd] ar fd (fun r => r = mg ar k v sd) := by
  refine zsP (own := RX4) rfl (by decide +kernel) (Nat.le_of_ble_eq_true rfl) ?_
  intro p e s m below meth c ls E hs hl
  have hx := E.1
  have hb := E.2.1
  have hl : lv_has ls 4 [(0, .ref (xa x 1)), (1, .ref (xa x k)), (2, .int v), (3, .int sd)] := hl
  refine lv_aload_n hx hb dX4_margin_0 rfl (lv_at hl 1 rfl) ?_
  refine lv_iload_n hx hb dX4_margin_1 rfl (lv_at hl 2 rfl) ?_
  refine lv_aload_n hx hb dX4_margin_2 rfl (lv_at hl 0 rfl) ?_
  refine lv_iload_n hx hb dX4_margin_3 rfl (lv_at hl 3 rfl) ?_
  refine zVR E hs lkX4_81 [.int v, .ref (xa x k)] (c_X4_votesOf l x ar fd sd) (by decide) (sh3 rfl) rfl ⟨Nat.le_of_ble_eq_true rfl, Nat.le_of_ble_eq_true rfl⟩ rfl hl.1 (Nat.le_of_ble_eq_true rfl) rfl dX4_margin_4 (fun r_1 H locs hp_2 hs => ?_)
  subst hp_2
  refine zSP E hs lkX4_85 [] (c_X0_votes l x k hr (vk sd) (ro_vk sd) ar fd v) ⟨Nat.le_of_ble_eq_true rfl, Nat.le_of_ble_eq_true rfl⟩ rfl hl.1 (Nat.le_of_ble_eq_true rfl) rfl dX4_margin_7 (fun r_3 H locs hp_4 hs => ?_)
  subst hp_4
  refine lv_aload_n hx hb dX4_margin_10 rfl (lv_at hl 1 rfl) ?_
  refine lv_iload_n hx hb dX4_margin_11 rfl (lv_at hl 2 rfl) ?_
  refine lv_aload_n hx hb dX4_margin_12 rfl (lv_at hl 0 rfl) ?_
  refine lv_iconst (v := nI 1) hx hb dX4_margin_13 (by decide) ?_
  refine lv_iload_n hx hb dX4_margin_14 rfl (lv_at hl 3 rfl) ?_
  refine lv_isub hx hb dX4_margin_15 ?_
  refine zVR E hs lkX4_81 [.int v, .ref (xa x k), .int (vtI (ar (k + 1)) v (ar (vk sd + 1)))] (c_X4_votesOf l x ar fd ((nI 1) - sd)) (by decide) (sh3 rfl) rfl ⟨Nat.le_of_ble_eq_true rfl, Nat.le_of_ble_eq_true rfl⟩ rfl hl.1 (Nat.le_of_ble_eq_true rfl) rfl dX4_margin_16 (fun r_5 H locs hp_6 hs => ?_)
  subst hp_6
  refine zSP E hs lkX4_85 [.int (vtI (ar (k + 1)) v (ar (vk sd + 1)))] (c_X0_votes l x k hr (vk ((nI 1) - sd)) (ro_vk ((nI 1) - sd)) ar fd v) ⟨Nat.le_of_ble_eq_true rfl, Nat.le_of_ble_eq_true rfl⟩ rfl hl.1 (Nat.le_of_ble_eq_true rfl) rfl dX4_margin_19 (fun r_7 H locs hp_8 hs => ?_)
  subst hp_8
  refine lv_isub hx hb dX4_margin_22 ?_
  exact zeP E hs rfl dX4_margin_23

set_option maxHeartbeats 4000000 in
set_option maxRecDepth 100000 in
/-- State.winner -/
theorem c_X4_winner (l : Launch) (x : CT) (k : Nat) (hr : RO k 36) (ar fd : AR) (v : Int32) : CP l yX4_winner cX4_winner 4 (some .int) 3 68 x [.ref (xa x 1), .ref (xa x k), .int v] ar fd (fun r => r = wnI (mg ar k v (nI 0))) := by
  refine zsP (own := RX4) rfl (by decide +kernel) (Nat.le_of_ble_eq_true rfl) ?_
  intro p e s m below meth c ls E hs hl
  have hx := E.1
  have hb := E.2.1
  have hl : lv_has ls 4 [(0, .ref (xa x 1)), (1, .ref (xa x k)), (2, .int v)] := hl
  refine lv_aload_n hx hb dX4_winner_0 rfl (lv_at hl 0 rfl) ?_
  refine lv_aload_n hx hb dX4_winner_1 rfl (lv_at hl 1 rfl) ?_
  refine lv_iload_n hx hb dX4_winner_2 rfl (lv_at hl 2 rfl) ?_
  refine lv_iconst (v := nI 0) hx hb dX4_winner_3 (by decide) ?_
  refine zVP E hs lkX4_91 [] (c_X4_margin l x k hr ar fd v (nI 0)) (by decide) (sh3 rfl) rfl ⟨Nat.le_of_ble_eq_true rfl, Nat.le_of_ble_eq_true rfl⟩ rfl hl.1 (Nat.le_of_ble_eq_true rfl) rfl dX4_winner_4 (fun r_1 H locs hp_2 hs => ?_)
  subst hp_2
  refine lv_istore_n (lv' := [(3, .int (mg ar k v (nI 0))), (0, .ref (xa x 1)), (1, .ref (xa x k)), (2, .int v)]) hx hb dX4_winner_7 rfl hl (by decide) rfl (fun ls hl => ?_)
  refine lv_iload_n hx hb dX4_winner_8 rfl (lv_at hl 0 rfl) ?_
  refine lv_if_ne (tgt := 14) hx hb dX4_winner_9 (by decide) (fun c_3 => ?_) (fun c_3 => ?_)
  · refine lv_iload_n hx hb dX4_winner_14 rfl (lv_at hl 0 rfl) ?_
    refine lv_if_le (tgt := 22) hx hb dX4_winner_15 (by decide) (fun c_4 => ?_) (fun c_4 => ?_)
    · refine lv_iconst (v := nI 1) hx hb dX4_winner_22 (by decide) ?_
      exact zeP E hs (by unfold wnI; rw [iz_f c_3, iz_t c_4]) dX4_winner_23
    · refine lv_iconst (v := nI 0) hx hb dX4_winner_18 (by decide) ?_
      refine lv_goto (tgt := 23) hx hb dX4_winner_19 (by decide) ?_
      exact zeP E hs (by unfold wnI; rw [iz_f c_3, iz_f c_4]) dX4_winner_23
  · refine lv_iconst (v := nI 2) hx hb dX4_winner_12 (by decide) ?_
    exact zeP E hs (by unfold wnI; rw [iz_t c_3]) dX4_winner_13

set_option maxHeartbeats 4000000 in
set_option maxRecDepth 100000 in
/-- State.won -/
theorem c_X4_won (l : Launch) (x : CT) (k : Nat) (hr : RO k 36) (ar fd : AR) (n : Nat) (hn : n ≤ 36) (win : Int32) : CP l yX4_won cX4_won 6 (some .int) 4 91 x [.ref (xa x 1), .ref (xa x k), .int (nI n), .int win] ar fd (fun r => r = nI (ct (fun zz => wnI (mg ar k (nI zz) (nI 0)) = win) n)) := by
  refine zsP (own := RX4) rfl (by decide +kernel) (Nat.le_of_ble_eq_true rfl) ?_
  intro p e s m below meth c ls E hs hl
  have hx := E.1
  have hb := E.2.1
  have hl : lv_has ls 6 [(0, .ref (xa x 1)), (1, .ref (xa x k)), (2, .int (nI n)), (3, .int win)] := hl
  refine lv_iconst (v := nI 0) hx hb dX4_won_0 (by decide) ?_
  refine lv_istore (lv' := [(4, .int (nI 0)), (0, .ref (xa x 1)), (1, .ref (xa x k)), (2, .int (nI n)), (3, .int win)]) hx hb dX4_won_1 hl (by decide) rfl (fun ls hl => ?_)
  refine lv_iconst (v := nI 0) hx hb dX4_won_3 (by decide) ?_
  refine lv_istore (lv' := [(5, .int (nI 0)), (4, .int (nI 0)), (0, .ref (xa x 1)), (1, .ref (xa x k)), (2, .int (nI n)), (3, .int win)]) hx hb dX4_won_4 hl (by decide) rfl (fun ls hl => ?_)
  have L_1 : ∀ (mm : Nat) (i : Nat), (n - i) < mm → (i ≤ n) → ∀ (H : Heap) (locs : List Loc) (ls : Array Slot), ST x (AA x) s.heap ar fd H locs → lv_has ls 6 [(0, .ref (xa x 1)), (1, .ref (xa x k)), (2, .int (nI n)), (3, .int win), (4, .int (nI (ct (fun zz => wnI (mg ar k (nI zz) (nI 0)) = win) i))), (5, .int (nI i))] → W p l e (rmZ 4 91) s m ([.ref (xa x 1), .ref (xa x k), .int (nI n), .int win] : List Value).toArray below meth c H locs 0 0 (QP below x [.ref (xa x 1), .ref (xa x k), .int (nI n), .int win] ar fd s (fun r => r = nI (ct (fun zz => wnI (mg ar k (nI zz) (nI 0)) = win) n))) (F0 m 6 ls []) := by
    intro mm
    induction mm with
    | zero => intro i hmu; exact absurd hmu (Nat.not_lt_zero _)
    | succ mm ih_1 =>
      intro i hmu hi H locs ls hs hl
      refine lv_iload hx hb dX4_won_6 (lv_at hl 5 rfl) ?_
      refine lv_iload_n hx hb dX4_won_8 rfl (lv_at hl 2 rfl) ?_
      refine lv_icmp_ge (tgt := 32) hx hb dX4_won_9 (by decide) (fun c_2 => ?_) (fun c_2 => ?_)
      · have c_2 : n ≤ i := (nI_leI (a := n) (b := i) (by omega) (by omega)).mp c_2
        refine lv_iload hx hb dX4_won_32 (lv_at hl 4 rfl) ?_
        exact zeP E hs (by rw [show n = i by omega]) dX4_won_34
      · have c_2 : ¬ (n ≤ i) := fun h => c_2 ((nI_leI (a := n) (b := i) (by omega) (by omega)).mpr h)
        refine lv_aload_n hx hb dX4_won_12 rfl (lv_at hl 0 rfl) ?_
        refine lv_aload_n hx hb dX4_won_13 rfl (lv_at hl 1 rfl) ?_
        refine lv_iload hx hb dX4_won_14 (lv_at hl 5 rfl) ?_
        refine zVP E hs lkX4_95 [] (c_X4_winner l x k hr ar fd (nI i)) (by decide) (sh3 rfl) rfl ⟨Nat.le_of_ble_eq_true rfl, Nat.le_of_ble_eq_true rfl⟩ rfl hl.1 (Nat.le_of_ble_eq_true rfl) rfl dX4_won_16 (fun r_3 H locs hp_4 hs => ?_)
        subst hp_4
        refine lv_iload_n hx hb dX4_won_19 rfl (lv_at hl 3 rfl) ?_
        refine lv_icmp_ne (tgt := 26) hx hb dX4_won_20 (by decide) (fun c_5 => ?_) (fun c_5 => ?_)
        · refine lv_iinc (v := nI (i + 1)) (lv' := [(5, .int (nI (i + 1))), (0, .ref (xa x 1)), (1, .ref (xa x k)), (2, .int (nI n)), (3, .int win), (4, .int (nI (ct (fun zz => wnI (mg ar k (nI zz) (nI 0)) = win) i)))]) hx hb dX4_won_26 hl (k := 5) rfl (nI_inc _) (by decide) rfl (fun ls hl => ?_)
          refine lv_goto (tgt := 6) hx hb dX4_won_29 (by decide) ?_
          exact ih_1 (i + 1) (by omega) (by omega) _ _ _ hs (lvr (lv_at hl 1 rfl) (lvr (lv_at hl 2 rfl) (lvr (lv_at hl 3 rfl) (lvr (lv_at hl 4 rfl) (lvc (lv_at hl 5 rfl) (by rw [ct_f (P := fun zz => wnI (mg ar k (nI zz) (nI 0)) = win) c_5]) (lvr (lv_at hl 0 rfl) (lvn hl)))))))
        · refine lv_iinc (v := nI (ct (fun zz => wnI (mg ar k (nI zz) (nI 0)) = win) i + 1)) (lv' := [(4, .int (nI (ct (fun zz => wnI (mg ar k (nI zz) (nI 0)) = win) i + 1))), (0, .ref (xa x 1)), (1, .ref (xa x k)), (2, .int (nI n)), (3, .int win), (5, .int (nI i))]) hx hb dX4_won_23 hl (k := 4) rfl (nI_inc _) (by decide) rfl (fun ls hl => ?_)
          refine lv_iinc (v := nI (i + 1)) (lv' := [(5, .int (nI (i + 1))), (4, .int (nI (ct (fun zz => wnI (mg ar k (nI zz) (nI 0)) = win) i + 1))), (0, .ref (xa x 1)), (1, .ref (xa x k)), (2, .int (nI n)), (3, .int win)]) hx hb dX4_won_26 hl (k := 5) rfl (nI_inc _) (by decide) rfl (fun ls hl => ?_)
          refine lv_goto (tgt := 6) hx hb dX4_won_29 (by decide) ?_
          exact ih_1 (i + 1) (by omega) (by omega) _ _ _ hs (lvr (lv_at hl 2 rfl) (lvr (lv_at hl 3 rfl) (lvr (lv_at hl 4 rfl) (lvr (lv_at hl 5 rfl) (lvc (lv_at hl 1 rfl) (by rw [ct_t (P := fun zz => wnI (mg ar k (nI zz) (nI 0)) = win) c_5]) (lvr (lv_at hl 0 rfl) (lvn hl)))))))
  exact L_1 (_ + 1) 0 (Nat.lt_succ_self _) (by omega) _ _ _ hs (lvr (lv_at hl 2 rfl) (lvr (lv_at hl 3 rfl) (lvr (lv_at hl 4 rfl) (lvr (lv_at hl 5 rfl) (lvr (lv_at hl 1 rfl) (lvr (lv_at hl 0 rfl) (lvn hl)))))))

set_option maxHeartbeats 4000000 in
set_option maxRecDepth 100000 in
/-- State.seats -/
theorem c_X4_seats (l : Launch) (x : CT) (ar fd : AR) (f : Nat) (hf : fd 1 8 = nI f) (hf9 : f ≤ 9) (win : Int32) : CP l yX4_seats cX4_seats 2 (some .int) 5 116 x [.ref (xa x 1), .int win] ar fd (fun r => r = nI (ct (fun zz => wnI (mg ar 8 (nI zz) (nI 0)) = win) f)) := by
  refine zsP (own := RX4) rfl (by decide +kernel) (Nat.le_of_ble_eq_true rfl) ?_
  intro p e s m below meth c ls E hs hl
  have hx := E.1
  have hb := E.2.1
  have hl : lv_has ls 2 [(0, .ref (xa x 1)), (1, .int win)] := hl
  refine lv_aload_n hx hb dX4_seats_0 rfl (lv_at hl 0 rfl) ?_
  refine lv_aload_n hx hb dX4_seats_1 rfl (lv_at hl 0 rfl) ?_
  refine zg3 E hs (k := 1) rfl 3 (by decide) rfl q_42 dX4_seats_2 ?_
  refine lv_aload_n hx hb dX4_seats_5 rfl (lv_at hl 0 rfl) ?_
  refine zg3 E hs (k := 1) rfl 8 (by decide) rfl q_52 dX4_seats_6 ?_
  refine tp (b := nI f) hf ?_
  refine lv_iload_n hx hb dX4_seats_9 rfl (lv_at hl 1 rfl) ?_
  refine zVP E hs lkX4_99 [] (c_X4_won l x 8 ro_8 ar fd f (by omega) win) (by decide) (sh3 rfl) rfl ⟨Nat.le_of_ble_eq_true rfl, Nat.le_of_ble_eq_true rfl⟩ rfl hl.1 (Nat.le_of_ble_eq_true rfl) rfl dX4_seats_10 (fun r_1 H locs hp_2 hs => ?_)
  subst hp_2
  exact zeP E hs rfl dX4_seats_13

set_option maxHeartbeats 4000000 in
set_option maxRecDepth 100000 in
/-- State.wasted -/
theorem c_X4_wasted (l : Launch) (x : CT) (ar fd : AR) (v sd : Int32) : CP l yX4_wasted cX4_wasted 5 (some .int) 2 45 x [.ref (xa x 1), .int v, .int sd] ar fd (fun r => r = wst ar v sd) := by
  refine zsP (own := RX4) rfl (by decide +kernel) (Nat.le_of_ble_eq_true rfl) ?_
  intro p e s m below meth c ls E hs hl
  have hx := E.1
  have hb := E.2.1
  have hl : lv_has ls 5 [(0, .ref (xa x 1)), (1, .int v), (2, .int sd)] := hl
  refine lv_aload_n hx hb dX4_wasted_0 rfl (lv_at hl 0 rfl) ?_
  refine zg3 E hs (k := 1) rfl 3 (by decide) rfl q_42 dX4_wasted_1 ?_
  refine lv_iload_n hx hb dX4_wasted_4 rfl (lv_at hl 1 rfl) ?_
  refine lv_aload_n hx hb dX4_wasted_5 rfl (lv_at hl 0 rfl) ?_
  refine lv_iload_n hx hb dX4_wasted_6 rfl (lv_at hl 2 rfl) ?_
  refine zVR E hs lkX4_81 [.int v, .ref (xa x 8)] (c_X4_votesOf l x ar fd sd) (by decide) (sh3 rfl) rfl ⟨Nat.le_of_ble_eq_true rfl, Nat.le_of_ble_eq_true rfl⟩ rfl hl.1 (Nat.le_of_ble_eq_true rfl) rfl dX4_wasted_7 (fun r_1 H locs hp_2 hs => ?_)
  subst hp_2
  refine zSP E hs lkX4_85 [] (c_X0_votes l x 8 ro_8 (vk sd) (ro_vk sd) ar fd v) ⟨Nat.le_of_ble_eq_true rfl, Nat.le_of_ble_eq_true rfl⟩ rfl hl.1 (Nat.le_of_ble_eq_true rfl) rfl dX4_wasted_10 (fun r_3 H locs hp_4 hs => ?_)
  subst hp_4
  refine lv_istore_n (lv' := [(3, .int (vtI (ar 9) v (ar (vk sd + 1)))), (0, .ref (xa x 1)), (1, .int v), (2, .int sd)]) hx hb dX4_wasted_13 rfl hl (by decide) rfl (fun ls hl => ?_)
  refine lv_aload_n hx hb dX4_wasted_14 rfl (lv_at hl 1 rfl) ?_
  refine zg3 E hs (k := 1) rfl 3 (by decide) rfl q_42 dX4_wasted_15 ?_
  refine lv_iload_n hx hb dX4_wasted_18 rfl (lv_at hl 2 rfl) ?_
  refine lv_aload_n hx hb dX4_wasted_19 rfl (lv_at hl 1 rfl) ?_
  refine lv_iconst (v := nI 1) hx hb dX4_wasted_20 (by decide) ?_
  refine lv_iload_n hx hb dX4_wasted_21 rfl (lv_at hl 3 rfl) ?_
  refine lv_isub hx hb dX4_wasted_22 ?_
  refine zVR E hs lkX4_81 [.int v, .ref (xa x 8)] (c_X4_votesOf l x ar fd ((nI 1) - sd)) (by decide) (sh3 rfl) rfl ⟨Nat.le_of_ble_eq_true rfl, Nat.le_of_ble_eq_true rfl⟩ rfl hl.1 (Nat.le_of_ble_eq_true rfl) rfl dX4_wasted_23 (fun r_5 H locs hp_6 hs => ?_)
  subst hp_6
  refine zSP E hs lkX4_85 [] (c_X0_votes l x 8 ro_8 (vk ((nI 1) - sd)) (ro_vk ((nI 1) - sd)) ar fd v) ⟨Nat.le_of_ble_eq_true rfl, Nat.le_of_ble_eq_true rfl⟩ rfl hl.1 (Nat.le_of_ble_eq_true rfl) rfl dX4_wasted_26 (fun r_7 H locs hp_8 hs => ?_)
  subst hp_8
  refine lv_istore (lv' := [(4, .int (vtI (ar 9) v (ar (vk ((nI 1) - sd) + 1)))), (3, .int (vtI (ar 9) v (ar (vk sd + 1)))), (0, .ref (xa x 1)), (1, .int v), (2, .int sd)]) hx hb dX4_wasted_29 hl (by decide) rfl (fun ls hl => ?_)
  refine lv_iload_n hx hb dX4_wasted_31 rfl (lv_at hl 1 rfl) ?_
  refine lv_iload hx hb dX4_wasted_32 (lv_at hl 0 rfl) ?_
  refine lv_icmp_le (tgt := 46) hx hb dX4_wasted_34 (by decide) (fun c_9 => ?_) (fun c_9 => ?_)
  · refine lv_iload_n hx hb dX4_wasted_46 rfl (lv_at hl 1 rfl) ?_
    exact zeP E hs (by unfold wst wsI; rw [iz_t c_9]) dX4_wasted_47
  · refine lv_iload_n hx hb dX4_wasted_37 rfl (lv_at hl 1 rfl) ?_
    refine lv_iload hx hb dX4_wasted_38 (lv_at hl 0 rfl) ?_
    refine lv_iconst (v := nI 1) hx hb dX4_wasted_40 (by decide) ?_
    refine lv_iadd hx hb dX4_wasted_41 ?_
    refine lv_isub hx hb dX4_wasted_42 ?_
    refine lv_goto (tgt := 47) hx hb dX4_wasted_43 (by decide) ?_
    exact zeP E hs (by unfold wst wsI; rw [iz_f c_9]) dX4_wasted_47

set_option maxHeartbeats 4000000 in
set_option maxRecDepth 100000 in
/-- State.wastedInAll -/
theorem c_X4_wastedInAll (l : Launch) (x : CT) (ar fd : AR) (f : Nat) (hf : fd 1 8 = nI f) (hf9 : f ≤ 9) (sd : Int32) : CP l yX4_wastedInAll cX4_wastedInAll 4 (some .int) 3 69 x [.ref (xa x 1), .int sd] ar fd (fun r => r = smI (fun d => wst ar (nI d) sd) f) := by
  refine zsP (own := RX4) rfl (by decide +kernel) (Nat.le_of_ble_eq_true rfl) ?_
  intro p e s m below meth c ls E hs hl
  have hx := E.1
  have hb := E.2.1
  have hl : lv_has ls 4 [(0, .ref (xa x 1)), (1, .int sd)] := hl
  refine lv_iconst (v := nI 0) hx hb dX4_wastedInAll_0 (by decide) ?_
  refine lv_istore_n (lv' := [(2, .int (nI 0)), (0, .ref (xa x 1)), (1, .int sd)]) hx hb dX4_wastedInAll_1 rfl hl (by decide) rfl (fun ls hl => ?_)
  refine lv_iconst (v := nI 0) hx hb dX4_wastedInAll_2 (by decide) ?_
  refine lv_istore_n (lv' := [(3, .int (nI 0)), (2, .int (nI 0)), (0, .ref (xa x 1)), (1, .int sd)]) hx hb dX4_wastedInAll_3 rfl hl (by decide) rfl (fun ls hl => ?_)
  have L_1 : ∀ (mm : Nat) (i : Nat), (f - i) < mm → (i ≤ f) → ∀ (H : Heap) (locs : List Loc) (ls : Array Slot), ST x (AA x) s.heap ar fd H locs → lv_has ls 4 [(0, .ref (xa x 1)), (1, .int sd), (2, .int (smI (fun d => wst ar (nI d) sd) i)), (3, .int (nI i))] → W p l e (rmZ 3 69) s m ([.ref (xa x 1), .int sd] : List Value).toArray below meth c H locs 0 0 (QP below x [.ref (xa x 1), .int sd] ar fd s (fun r => r = smI (fun d => wst ar (nI d) sd) f)) (F0 m 4 ls []) := by
    intro mm
    induction mm with
    | zero => intro i hmu; exact absurd hmu (Nat.not_lt_zero _)
    | succ mm ih_1 =>
      intro i hmu hi H locs ls hs hl
      refine lv_iload_n hx hb dX4_wastedInAll_4 rfl (lv_at hl 3 rfl) ?_
      refine lv_aload_n hx hb dX4_wastedInAll_5 rfl (lv_at hl 0 rfl) ?_
      refine zg3 E hs (k := 1) rfl 8 (by decide) rfl q_52 dX4_wastedInAll_6 ?_
      refine tp (b := nI f) hf ?_
      refine lv_icmp_ge (tgt := 27) hx hb dX4_wastedInAll_9 (by decide) (fun c_2 => ?_) (fun c_2 => ?_)
      · have c_2 : f ≤ i := (nI_leI (a := f) (b := i) (by omega) (by omega)).mp c_2
        refine lv_iload_n hx hb dX4_wastedInAll_27 rfl (lv_at hl 2 rfl) ?_
        exact zeP E hs (by rw [show i = f by omega]) dX4_wastedInAll_28
      · have c_2 : ¬ (f ≤ i) := fun h => c_2 ((nI_leI (a := f) (b := i) (by omega) (by omega)).mpr h)
        refine lv_iload_n hx hb dX4_wastedInAll_12 rfl (lv_at hl 2 rfl) ?_
        refine lv_aload_n hx hb dX4_wastedInAll_13 rfl (lv_at hl 0 rfl) ?_
        refine lv_iload_n hx hb dX4_wastedInAll_14 rfl (lv_at hl 3 rfl) ?_
        refine lv_iload_n hx hb dX4_wastedInAll_15 rfl (lv_at hl 1 rfl) ?_
        refine zVP E hs lkX4_102 [.int (smI (fun d => wst ar (nI d) sd) i)] (c_X4_wasted l x ar fd (nI i) sd) (by decide) (sh3 rfl) rfl ⟨Nat.le_of_ble_eq_true rfl, Nat.le_of_ble_eq_true rfl⟩ rfl hl.1 (Nat.le_of_ble_eq_true rfl) rfl dX4_wastedInAll_16 (fun r_3 H locs hp_4 hs => ?_)
        subst hp_4
        refine lv_iadd hx hb dX4_wastedInAll_19 ?_
        refine lv_istore_n (lv' := [(2, .int ((smI (fun d => wst ar (nI d) sd) i) + (wst ar (nI i) sd))), (0, .ref (xa x 1)), (1, .int sd), (3, .int (nI i))]) hx hb dX4_wastedInAll_20 rfl hl (by decide) rfl (fun ls hl => ?_)
        refine lv_iinc (v := nI (i + 1)) (lv' := [(3, .int (nI (i + 1))), (2, .int ((smI (fun d => wst ar (nI d) sd) i) + (wst ar (nI i) sd))), (0, .ref (xa x 1)), (1, .int sd)]) hx hb dX4_wastedInAll_21 hl (k := 3) rfl (nI_inc _) (by decide) rfl (fun ls hl => ?_)
        refine lv_goto (tgt := 4) hx hb dX4_wastedInAll_24 (by decide) ?_
        exact ih_1 (i + 1) (by omega) (by omega) _ _ _ hs (lvr (lv_at hl 2 rfl) (lvr (lv_at hl 3 rfl) (lvc (lv_at hl 1 rfl) (smI_s _ _).symm (lvr (lv_at hl 0 rfl) (lvn hl)))))
  exact L_1 (_ + 1) 0 (Nat.lt_succ_self _) (by omega) _ _ _ hs (lvr (lv_at hl 2 rfl) (lvr (lv_at hl 3 rfl) (lvc (lv_at hl 1 rfl) nI_0 (lvr (lv_at hl 0 rfl) (lvn hl)))))

set_option maxHeartbeats 4000000 in
set_option maxRecDepth 100000 in
/-- State.bordersOfAll -/
theorem c_X4_bordersOfAll (l : Launch) (x : CT) (ar fd : AR) (f : Nat) (hf : fd 1 8 = nI f) (hf9 : f ≤ 9) : CP l yX4_bordersOfAll cX4_bordersOfAll 3 (some .int) 3 69 x [.ref (xa x 1)] ar fd (fun r => r = smI (fun d => bdI (ar 9) (nI d)) f) := by
  refine zsP (own := RX4) rfl (by decide +kernel) (Nat.le_of_ble_eq_true rfl) ?_
  intro p e s m below meth c ls E hs hl
  have hx := E.1
  have hb := E.2.1
  have hl : lv_has ls 3 [(0, .ref (xa x 1))] := hl
  refine lv_iconst (v := nI 0) hx hb dX4_bordersOfAll_0 (by decide) ?_
  refine lv_istore_n (lv' := [(1, .int (nI 0)), (0, .ref (xa x 1))]) hx hb dX4_bordersOfAll_1 rfl hl (by decide) rfl (fun ls hl => ?_)
  refine lv_iconst (v := nI 0) hx hb dX4_bordersOfAll_2 (by decide) ?_
  refine lv_istore_n (lv' := [(2, .int (nI 0)), (1, .int (nI 0)), (0, .ref (xa x 1))]) hx hb dX4_bordersOfAll_3 rfl hl (by decide) rfl (fun ls hl => ?_)
  have L_1 : ∀ (mm : Nat) (i : Nat), (f - i) < mm → (i ≤ f) → ∀ (H : Heap) (locs : List Loc) (ls : Array Slot), ST x (AA x) s.heap ar fd H locs → lv_has ls 3 [(0, .ref (xa x 1)), (1, .int (smI (fun d => bdI (ar 9) (nI d)) i)), (2, .int (nI i))] → W p l e (rmZ 3 69) s m ([.ref (xa x 1)] : List Value).toArray below meth c H locs 0 0 (QP below x [.ref (xa x 1)] ar fd s (fun r => r = smI (fun d => bdI (ar 9) (nI d)) f)) (F0 m 4 ls []) := by
    intro mm
    induction mm with
    | zero => intro i hmu; exact absurd hmu (Nat.not_lt_zero _)
    | succ mm ih_1 =>
      intro i hmu hi H locs ls hs hl
      refine lv_iload_n hx hb dX4_bordersOfAll_4 rfl (lv_at hl 2 rfl) ?_
      refine lv_aload_n hx hb dX4_bordersOfAll_5 rfl (lv_at hl 0 rfl) ?_
      refine zg3 E hs (k := 1) rfl 8 (by decide) rfl q_52 dX4_bordersOfAll_6 ?_
      refine tp (b := nI f) hf ?_
      refine lv_icmp_ge (tgt := 29) hx hb dX4_bordersOfAll_9 (by decide) (fun c_2 => ?_) (fun c_2 => ?_)
      · have c_2 : f ≤ i := (nI_leI (a := f) (b := i) (by omega) (by omega)).mp c_2
        refine lv_iload_n hx hb dX4_bordersOfAll_29 rfl (lv_at hl 1 rfl) ?_
        exact zeP E hs (by rw [show i = f by omega]) dX4_bordersOfAll_30
      · have c_2 : ¬ (f ≤ i) := fun h => c_2 ((nI_leI (a := f) (b := i) (by omega) (by omega)).mpr h)
        refine lv_iload_n hx hb dX4_bordersOfAll_12 rfl (lv_at hl 1 rfl) ?_
        refine lv_aload_n hx hb dX4_bordersOfAll_13 rfl (lv_at hl 0 rfl) ?_
        refine zg3 E hs (k := 1) rfl 3 (by decide) rfl q_42 dX4_bordersOfAll_14 ?_
        refine lv_iload_n hx hb dX4_bordersOfAll_17 rfl (lv_at hl 2 rfl) ?_
        refine zSP E hs lkX4_106 [.int (smI (fun d => bdI (ar 9) (nI d)) i)] (c_X0_borders l x 8 ro_8 ar fd (nI i)) ⟨Nat.le_of_ble_eq_true rfl, Nat.le_of_ble_eq_true rfl⟩ rfl hl.1 (Nat.le_of_ble_eq_true rfl) rfl dX4_bordersOfAll_18 (fun r_3 H locs hp_4 hs => ?_)
        subst hp_4
        refine lv_iadd hx hb dX4_bordersOfAll_21 ?_
        refine lv_istore_n (lv' := [(1, .int ((smI (fun d => bdI (ar 9) (nI d)) i) + (bdI (ar 9) (nI i)))), (0, .ref (xa x 1)), (2, .int (nI i))]) hx hb dX4_bordersOfAll_22 rfl hl (by decide) rfl (fun ls hl => ?_)
        refine lv_iinc (v := nI (i + 1)) (lv' := [(2, .int (nI (i + 1))), (1, .int ((smI (fun d => bdI (ar 9) (nI d)) i) + (bdI (ar 9) (nI i)))), (0, .ref (xa x 1))]) hx hb dX4_bordersOfAll_23 hl (k := 2) rfl (nI_inc _) (by decide) rfl (fun ls hl => ?_)
        refine lv_goto (tgt := 4) hx hb dX4_bordersOfAll_26 (by decide) ?_
        exact ih_1 (i + 1) (by omega) (by omega) _ _ _ hs (lvr (lv_at hl 2 rfl) (lvc (lv_at hl 1 rfl) (smI_s _ _).symm (lvr (lv_at hl 0 rfl) (lvn hl))))
  exact L_1 (_ + 1) 0 (Nat.lt_succ_self _) (by omega) _ _ _ hs (lvr (lv_at hl 2 rfl) (lvc (lv_at hl 1 rfl) nI_0 (lvr (lv_at hl 0 rfl) (lvn hl))))

set_option maxHeartbeats 4000000 in
set_option maxRecDepth 100000 in
/-- State.closestWon -/
theorem c_X4_closestWon (l : Launch) (x : CT) (ar fd : AR) (w f : Nat) (hw : fd 1 7 = nI w) (hf : fd 1 8 = nI f) (hfw : f ≤ w) (hw9 : w ≤ 9) (hw2 : 2 ≤ w) (sd : Int32) : CP l yX4_closestWon cX4_closestWon 6 (some .int) 3 68 x [.ref (xa x 1), .int sd] ar fd (fun r => r = (clS (fun p => mg ar 6 (nI p) sd) (w - f)).1) := by
  refine zsP (own := RX4) rfl (by decide +kernel) (Nat.le_of_ble_eq_true rfl) ?_
  intro p e s m below meth c ls E hs hl
  have hx := E.1
  have hb := E.2.1
  have hl : lv_has ls 6 [(0, .ref (xa x 1)), (1, .int sd)] := hl
  refine lv_iconst (v := (-1)) hx hb dX4_closestWon_0 (by decide) ?_
  refine lv_istore_n (lv' := [(2, .int (-1)), (0, .ref (xa x 1)), (1, .int sd)]) hx hb dX4_closestWon_1 rfl hl (by decide) rfl (fun ls hl => ?_)
  refine lv_iconst (v := nI 0) hx hb dX4_closestWon_2 (by decide) ?_
  refine lv_istore_n (lv' := [(3, .int (nI 0)), (2, .int (-1)), (0, .ref (xa x 1)), (1, .int sd)]) hx hb dX4_closestWon_3 rfl hl (by decide) rfl (fun ls hl => ?_)
  refine lv_iconst (v := nI 0) hx hb dX4_closestWon_4 (by decide) ?_
  refine lv_istore (lv' := [(4, .int (nI 0)), (3, .int (nI 0)), (2, .int (-1)), (0, .ref (xa x 1)), (1, .int sd)]) hx hb dX4_closestWon_5 hl (by decide) rfl (fun ls hl => ?_)
  have L_1 : ∀ (mm : Nat) (i : Nat), (w - f - i) < mm → (i ≤ w - f) → ∀ (H : Heap) (locs : List Loc) (ls : Array Slot), ST x (AA x) s.heap ar fd H locs → lv_has ls 6 [(0, .ref (xa x 1)), (1, .int sd), (2, .int ((clS (fun p => mg ar 6 (nI p) sd) i).1)), (3, .int ((clS (fun p => mg ar 6 (nI p) sd) i).2)), (4, .int (nI i))] → W p l e (rmZ 3 68) s m ([.ref (xa x 1), .int sd] : List Value).toArray below meth c H locs 0 0 (QP below x [.ref (xa x 1), .int sd] ar fd s (fun r => r = (clS (fun p => mg ar 6 (nI p) sd) (w - f)).1)) (F0 m 7 ls []) := by
    intro mm
    induction mm with
    | zero => intro i hmu; exact absurd hmu (Nat.not_lt_zero _)
    | succ mm ih_1 =>
      intro i hmu hi H locs ls hs hl
      refine lv_iload hx hb dX4_closestWon_7 (lv_at hl 4 rfl) ?_
      refine lv_aload_n hx hb dX4_closestWon_9 rfl (lv_at hl 0 rfl) ?_
      refine zVP E hs lkX4_63 [.int (nI i)] (c_X4_left l x ar fd) (by decide) (sh3 rfl) rfl ⟨Nat.le_of_ble_eq_true rfl, Nat.le_of_ble_eq_true rfl⟩ rfl hl.1 (Nat.le_of_ble_eq_true rfl) rfl dX4_closestWon_10 (fun r_2 H locs hp_3 hs => ?_)
      subst hp_3
      refine tp (b := nI (w - f)) (by rw [hw, hf, nI_sub hfw]) ?_
      refine lv_icmp_ge (tgt := 57) hx hb dX4_closestWon_13 (by decide) (fun c_4 => ?_) (fun c_4 => ?_)
      · have c_4 : w - f ≤ i := (nI_leI (a := w - f) (b := i) (by omega) (by omega)).mp c_4
        refine lv_iload_n hx hb dX4_closestWon_57 rfl (lv_at hl 2 rfl) ?_
        exact zeP E hs (by rw [show i = w - f by omega]) dX4_closestWon_58
      · have c_4 : ¬ (w - f ≤ i) := fun h => c_4 ((nI_leI (a := w - f) (b := i) (by omega) (by omega)).mpr h)
        refine lv_aload_n hx hb dX4_closestWon_16 rfl (lv_at hl 0 rfl) ?_
        refine lv_aload_n hx hb dX4_closestWon_17 rfl (lv_at hl 0 rfl) ?_
        refine zg3 E hs (k := 1) rfl 2 (by decide) rfl q_39 dX4_closestWon_18 ?_
        refine lv_iload hx hb dX4_closestWon_21 (lv_at hl 4 rfl) ?_
        refine lv_iload_n hx hb dX4_closestWon_23 rfl (lv_at hl 1 rfl) ?_
        refine zVP E hs lkX4_91 [] (c_X4_margin l x 6 ro_6 ar fd (nI i) sd) (by decide) (sh3 rfl) rfl ⟨Nat.le_of_ble_eq_true rfl, Nat.le_of_ble_eq_true rfl⟩ rfl hl.1 (Nat.le_of_ble_eq_true rfl) rfl dX4_closestWon_24 (fun r_5 H locs hp_6 hs => ?_)
        subst hp_6
        refine lv_istore (lv' := [(5, .int (mg ar 6 (nI i) sd)), (0, .ref (xa x 1)), (1, .int sd), (2, .int ((clS (fun p => mg ar 6 (nI p) sd) i).1)), (3, .int ((clS (fun p => mg ar 6 (nI p) sd) i).2)), (4, .int (nI i))]) hx hb dX4_closestWon_27 hl (by decide) rfl (fun ls hl => ?_)
        refine lv_iload hx hb dX4_closestWon_29 (lv_at hl 0 rfl) ?_
        refine lv_if_le (tgt := 51) hx hb dX4_closestWon_31 (by decide) (fun c_7 => ?_) (fun c_7 => ?_)
        · refine lv_iinc (v := nI (i + 1)) (lv' := [(4, .int (nI (i + 1))), (5, .int (mg ar 6 (nI i) sd)), (0, .ref (xa x 1)), (1, .int sd), (2, .int ((clS (fun p => mg ar 6 (nI p) sd) i).1)), (3, .int ((clS (fun p => mg ar 6 (nI p) sd) i).2))]) hx hb dX4_closestWon_51 hl (k := 5) rfl (nI_inc _) (by decide) rfl (fun ls hl => ?_)
          refine lv_goto (tgt := 7) hx hb dX4_closestWon_54 (by decide) ?_
          exact ih_1 (i + 1) (by omega) (by omega) _ _ _ hs (lvr (lv_at hl 2 rfl) (lvr (lv_at hl 3 rfl) (lvc (lv_at hl 4 rfl) (by rw [clS_s, iz_t c_7]) (lvc (lv_at hl 5 rfl) (by rw [clS_s, iz_t c_7]) (lvr (lv_at hl 0 rfl) (lvn hl))))))
        · refine lv_iload_n hx hb dX4_closestWon_34 rfl (lv_at hl 3 rfl) ?_
          refine lv_iconst (v := (-1)) hx hb dX4_closestWon_35 (by decide) ?_
          refine lv_icmp_eq (tgt := 45) hx hb dX4_closestWon_36 (by decide) (fun c_8 => ?_) (fun c_8 => ?_)
          · refine lv_iload hx hb dX4_closestWon_45 (lv_at hl 5 rfl) ?_
            refine lv_istore_n (lv' := [(2, .int (nI i)), (5, .int (mg ar 6 (nI i) sd)), (0, .ref (xa x 1)), (1, .int sd), (3, .int ((clS (fun p => mg ar 6 (nI p) sd) i).2)), (4, .int (nI i))]) hx hb dX4_closestWon_47 rfl hl (by decide) rfl (fun ls hl => ?_)
            refine lv_iload hx hb dX4_closestWon_48 (lv_at hl 1 rfl) ?_
            refine lv_istore_n (lv' := [(3, .int (mg ar 6 (nI i) sd)), (2, .int (nI i)), (5, .int (mg ar 6 (nI i) sd)), (0, .ref (xa x 1)), (1, .int sd), (4, .int (nI i))]) hx hb dX4_closestWon_50 rfl hl (by decide) rfl (fun ls hl => ?_)
            refine lv_iinc (v := nI (i + 1)) (lv' := [(4, .int (nI (i + 1))), (3, .int (mg ar 6 (nI i) sd)), (2, .int (nI i)), (5, .int (mg ar 6 (nI i) sd)), (0, .ref (xa x 1)), (1, .int sd)]) hx hb dX4_closestWon_51 hl (k := 5) rfl (nI_inc _) (by decide) rfl (fun ls hl => ?_)
            refine lv_goto (tgt := 7) hx hb dX4_closestWon_54 (by decide) ?_
            exact ih_1 (i + 1) (by omega) (by omega) _ _ _ hs (lvr (lv_at hl 4 rfl) (lvr (lv_at hl 5 rfl) (lvc (lv_at hl 2 rfl) (by rw [clS_s, iz_f c_7, iz_t c_8]) (lvc (lv_at hl 1 rfl) (by rw [clS_s, iz_f c_7, iz_t c_8]) (lvr (lv_at hl 0 rfl) (lvn hl))))))
          · refine lv_iload hx hb dX4_closestWon_39 (lv_at hl 0 rfl) ?_
            refine lv_iload_n hx hb dX4_closestWon_41 rfl (lv_at hl 4 rfl) ?_
            refine lv_icmp_ge (tgt := 51) hx hb dX4_closestWon_42 (by decide) (fun c_9 => ?_) (fun c_9 => ?_)
            · refine lv_iinc (v := nI (i + 1)) (lv' := [(4, .int (nI (i + 1))), (5, .int (mg ar 6 (nI i) sd)), (0, .ref (xa x 1)), (1, .int sd), (2, .int ((clS (fun p => mg ar 6 (nI p) sd) i).1)), (3, .int ((clS (fun p => mg ar 6 (nI p) sd) i).2))]) hx hb dX4_closestWon_51 hl (k := 5) rfl (nI_inc _) (by decide) rfl (fun ls hl => ?_)
              refine lv_goto (tgt := 7) hx hb dX4_closestWon_54 (by decide) ?_
              exact ih_1 (i + 1) (by omega) (by omega) _ _ _ hs (lvr (lv_at hl 2 rfl) (lvr (lv_at hl 3 rfl) (lvc (lv_at hl 4 rfl) (by rw [clS_s, iz_f c_7, iz_f c_8, iz_t c_9]) (lvc (lv_at hl 5 rfl) (by rw [clS_s, iz_f c_7, iz_f c_8, iz_t c_9]) (lvr (lv_at hl 0 rfl) (lvn hl))))))
            · refine lv_iload hx hb dX4_closestWon_45 (lv_at hl 5 rfl) ?_
              refine lv_istore_n (lv' := [(2, .int (nI i)), (5, .int (mg ar 6 (nI i) sd)), (0, .ref (xa x 1)), (1, .int sd), (3, .int ((clS (fun p => mg ar 6 (nI p) sd) i).2)), (4, .int (nI i))]) hx hb dX4_closestWon_47 rfl hl (by decide) rfl (fun ls hl => ?_)
              refine lv_iload hx hb dX4_closestWon_48 (lv_at hl 1 rfl) ?_
              refine lv_istore_n (lv' := [(3, .int (mg ar 6 (nI i) sd)), (2, .int (nI i)), (5, .int (mg ar 6 (nI i) sd)), (0, .ref (xa x 1)), (1, .int sd), (4, .int (nI i))]) hx hb dX4_closestWon_50 rfl hl (by decide) rfl (fun ls hl => ?_)
              refine lv_iinc (v := nI (i + 1)) (lv' := [(4, .int (nI (i + 1))), (3, .int (mg ar 6 (nI i) sd)), (2, .int (nI i)), (5, .int (mg ar 6 (nI i) sd)), (0, .ref (xa x 1)), (1, .int sd)]) hx hb dX4_closestWon_51 hl (k := 5) rfl (nI_inc _) (by decide) rfl (fun ls hl => ?_)
              refine lv_goto (tgt := 7) hx hb dX4_closestWon_54 (by decide) ?_
              exact ih_1 (i + 1) (by omega) (by omega) _ _ _ hs (lvr (lv_at hl 4 rfl) (lvr (lv_at hl 5 rfl) (lvc (lv_at hl 2 rfl) (by rw [clS_s, iz_f c_7, iz_f c_8, iz_f c_9]) (lvc (lv_at hl 1 rfl) (by rw [clS_s, iz_f c_7, iz_f c_8, iz_f c_9]) (lvr (lv_at hl 0 rfl) (lvn hl))))))
  exact L_1 (_ + 1) 0 (Nat.lt_succ_self _) (by omega) _ _ _ hs (lvr (lv_at hl 3 rfl) (lvr (lv_at hl 4 rfl) (lvc (lv_at hl 2 rfl) rfl (lvc (lv_at hl 1 rfl) nI_0 (lvr (lv_at hl 0 rfl) (lvn hl))))))

set_option maxHeartbeats 4000000 in
set_option maxRecDepth 100000 in
/-- State.mostLost -/
theorem c_X4_mostLost (l : Launch) (x : CT) (ar fd : AR) (w f : Nat) (hw : fd 1 7 = nI w) (hf : fd 1 8 = nI f) (hfw : f ≤ w) (hw9 : w ≤ 9) (hw2 : 2 ≤ w) (hL : 1 ≤ w - f) (sd : Int32) : CP l yX4_mostLost cX4_mostLost 4 (some .int) 3 68 x [.ref (xa x 1), .int sd] ar fd (fun r => r = nI (mlS (fun p => mg ar 6 (nI p) (nI 1 - sd)) (w - f))) := by
  refine zsP (own := RX4) rfl (by decide +kernel) (Nat.le_of_ble_eq_true rfl) ?_
  intro p e s m below meth c ls E hs hl
  have hx := E.1
  have hb := E.2.1
  have hl : lv_has ls 4 [(0, .ref (xa x 1)), (1, .int sd)] := hl
  refine lv_iconst (v := nI 0) hx hb dX4_mostLost_0 (by decide) ?_
  refine lv_istore_n (lv' := [(2, .int (nI 0)), (0, .ref (xa x 1)), (1, .int sd)]) hx hb dX4_mostLost_1 rfl hl (by decide) rfl (fun ls hl => ?_)
  refine lv_iconst (v := nI 1) hx hb dX4_mostLost_2 (by decide) ?_
  refine lv_istore_n (lv' := [(3, .int (nI 1)), (2, .int (nI 0)), (0, .ref (xa x 1)), (1, .int sd)]) hx hb dX4_mostLost_3 rfl hl (by decide) rfl (fun ls hl => ?_)
  have L_1 : ∀ (mm : Nat) (i : Nat), (w - f - i) < mm → (i ≤ w - f) → ∀ (H : Heap) (locs : List Loc) (ls : Array Slot), ST x (AA x) s.heap ar fd H locs → lv_has ls 4 [(0, .ref (xa x 1)), (1, .int sd), (2, .int (nI (mlS (fun p => mg ar 6 (nI p) (nI 1 - sd)) i))), (3, .int (nI i))] → W p l e (rmZ 3 68) s m ([.ref (xa x 1), .int sd] : List Value).toArray below meth c H locs 0 0 (QP below x [.ref (xa x 1), .int sd] ar fd s (fun r => r = nI (mlS (fun p => mg ar 6 (nI p) (nI 1 - sd)) (w - f)))) (F0 m 4 ls []) := by
    intro mm
    induction mm with
    | zero => intro i hmu; exact absurd hmu (Nat.not_lt_zero _)
    | succ mm ih_1 =>
      intro i hmu hi H locs ls hs hl
      refine lv_iload_n hx hb dX4_mostLost_4 rfl (lv_at hl 3 rfl) ?_
      refine lv_aload_n hx hb dX4_mostLost_5 rfl (lv_at hl 0 rfl) ?_
      refine zVP E hs lkX4_63 [.int (nI i)] (c_X4_left l x ar fd) (by decide) (sh3 rfl) rfl ⟨Nat.le_of_ble_eq_true rfl, Nat.le_of_ble_eq_true rfl⟩ rfl hl.1 (Nat.le_of_ble_eq_true rfl) rfl dX4_mostLost_6 (fun r_2 H locs hp_3 hs => ?_)
      subst hp_3
      refine tp (b := nI (w - f)) (by rw [hw, hf, nI_sub hfw]) ?_
      refine lv_icmp_ge (tgt := 47) hx hb dX4_mostLost_9 (by decide) (fun c_4 => ?_) (fun c_4 => ?_)
      · have c_4 : w - f ≤ i := (nI_leI (a := w - f) (b := i) (by omega) (by omega)).mp c_4
        refine lv_iload_n hx hb dX4_mostLost_47 rfl (lv_at hl 2 rfl) ?_
        exact zeP E hs (by rw [show i = w - f by omega]) dX4_mostLost_48
      · have c_4 : ¬ (w - f ≤ i) := fun h => c_4 ((nI_leI (a := w - f) (b := i) (by omega) (by omega)).mpr h)
        refine lv_aload_n hx hb dX4_mostLost_12 rfl (lv_at hl 0 rfl) ?_
        refine lv_aload_n hx hb dX4_mostLost_13 rfl (lv_at hl 0 rfl) ?_
        refine zg3 E hs (k := 1) rfl 2 (by decide) rfl q_39 dX4_mostLost_14 ?_
        refine lv_iload_n hx hb dX4_mostLost_17 rfl (lv_at hl 3 rfl) ?_
        refine lv_iconst (v := nI 1) hx hb dX4_mostLost_18 (by decide) ?_
        refine lv_iload_n hx hb dX4_mostLost_19 rfl (lv_at hl 1 rfl) ?_
        refine lv_isub hx hb dX4_mostLost_20 ?_
        refine zVP E hs lkX4_91 [] (c_X4_margin l x 6 ro_6 ar fd (nI i) ((nI 1) - sd)) (by decide) (sh3 rfl) rfl ⟨Nat.le_of_ble_eq_true rfl, Nat.le_of_ble_eq_true rfl⟩ rfl hl.1 (Nat.le_of_ble_eq_true rfl) rfl dX4_mostLost_21 (fun r_5 H locs hp_6 hs => ?_)
        subst hp_6
        refine lv_aload_n hx hb dX4_mostLost_24 rfl (lv_at hl 0 rfl) ?_
        refine lv_aload_n hx hb dX4_mostLost_25 rfl (lv_at hl 0 rfl) ?_
        refine zg3 E hs (k := 1) rfl 2 (by decide) rfl q_39 dX4_mostLost_26 ?_
        refine lv_iload_n hx hb dX4_mostLost_29 rfl (lv_at hl 2 rfl) ?_
        refine lv_iconst (v := nI 1) hx hb dX4_mostLost_30 (by decide) ?_
        refine lv_iload_n hx hb dX4_mostLost_31 rfl (lv_at hl 1 rfl) ?_
        refine lv_isub hx hb dX4_mostLost_32 ?_
        refine zVP E hs lkX4_91 [.int (mg ar 6 (nI i) ((nI 1) - sd))] (c_X4_margin l x 6 ro_6 ar fd (nI (mlS (fun p => mg ar 6 (nI p) (nI 1 - sd)) i)) ((nI 1) - sd)) (by decide) (sh3 rfl) rfl ⟨Nat.le_of_ble_eq_true rfl, Nat.le_of_ble_eq_true rfl⟩ rfl hl.1 (Nat.le_of_ble_eq_true rfl) rfl dX4_mostLost_33 (fun r_7 H locs hp_8 hs => ?_)
        subst hp_8
        refine lv_icmp_le (tgt := 41) hx hb dX4_mostLost_36 (by decide) (fun c_9 => ?_) (fun c_9 => ?_)
        · refine lv_iinc (v := nI (i + 1)) (lv' := [(3, .int (nI (i + 1))), (0, .ref (xa x 1)), (1, .int sd), (2, .int (nI (mlS (fun p => mg ar 6 (nI p) (nI 1 - sd)) i)))]) hx hb dX4_mostLost_41 hl (k := 3) rfl (nI_inc _) (by decide) rfl (fun ls hl => ?_)
          refine lv_goto (tgt := 4) hx hb dX4_mostLost_44 (by decide) ?_
          exact ih_1 (i + 1) (by omega) (by omega) _ _ _ hs (lvr (lv_at hl 1 rfl) (lvr (lv_at hl 2 rfl) (lvc (lv_at hl 3 rfl) (by rw [mlS_s, iz_t c_9]) (lvr (lv_at hl 0 rfl) (lvn hl)))))
        · refine lv_iload_n hx hb dX4_mostLost_39 rfl (lv_at hl 3 rfl) ?_
          refine lv_istore_n (lv' := [(2, .int (nI i)), (0, .ref (xa x 1)), (1, .int sd), (3, .int (nI i))]) hx hb dX4_mostLost_40 rfl hl (by decide) rfl (fun ls hl => ?_)
          refine lv_iinc (v := nI (i + 1)) (lv' := [(3, .int (nI (i + 1))), (2, .int (nI i)), (0, .ref (xa x 1)), (1, .int sd)]) hx hb dX4_mostLost_41 hl (k := 3) rfl (nI_inc _) (by decide) rfl (fun ls hl => ?_)
          refine lv_goto (tgt := 4) hx hb dX4_mostLost_44 (by decide) ?_
          exact ih_1 (i + 1) (by omega) (by omega) _ _ _ hs (lvr (lv_at hl 2 rfl) (lvr (lv_at hl 3 rfl) (lvc (lv_at hl 1 rfl) (by rw [mlS_s, iz_f c_9]) (lvr (lv_at hl 0 rfl) (lvn hl)))))
  exact L_1 (_ + 1) 1 (Nat.lt_succ_self _) (by omega) _ _ _ hs (lvr (lv_at hl 2 rfl) (lvr (lv_at hl 3 rfl) (lvc (lv_at hl 1 rfl) (by rw [mlS_1]) (lvr (lv_at hl 0 rfl) (lvn hl)))))

set_option maxHeartbeats 4000000 in
set_option maxRecDepth 100000 in
/-- State.makeDistrict -/
theorem c_X4_makeDistrict (l : Launch) (x : CT) (k : Nat) (hr : RO k 36) (hk8 : k ≠ 8) (ar fd : AR) (f : Nat) (hf : fd 1 8 = nI f) (hf9 : f < 9) (v pl : Int32) : CV l yX4_makeDistrict cX4_makeDistrict 5 1 22 x [.ref (xa x 1), .ref (xa x k), .int v, .int pl] ar fd (fun ar' fd' => ar' = mdA ar k v f pl ∧ fd' = zu fd 1 (zu (fd 1) 8 (nI (f + 1)))) := by
  refine zsV (own := RX4) rfl (by decide +kernel) (Nat.le_of_ble_eq_true rfl) ?_
  intro p e s m below meth c ls E hs hl
  have hx := E.1
  have hb := E.2.1
  have hl : lv_has ls 5 [(0, .ref (xa x 1)), (1, .ref (xa x k)), (2, .int v), (3, .int pl)] := hl
  refine lv_iconst (v := nI 0) hx hb dX4_makeDistrict_0 (by decide) ?_
  refine lv_istore (lv' := [(4, .int (nI 0)), (0, .ref (xa x 1)), (1, .ref (xa x k)), (2, .int v), (3, .int pl)]) hx hb dX4_makeDistrict_1 hl (by decide) rfl (fun ls hl => ?_)
  have L_1 : ∀ (mm : Nat) (i : Nat) (ar1 : AR), (36 - i) < mm → (i ≤ 36) → (∀ j, j < i → ar1 9 j = iz (ar (k + 1) j = v) (nI f) (ar 9 j)) → (∀ j, i ≤ j → ar1 9 j = ar 9 j) → (∀ q, q ≠ 9 → ar1 q = ar q) → ∀ (H : Heap) (locs : List Loc) (ls : Array Slot), ST x (AA x) s.heap ar1 fd H locs → lv_has ls 5 [(0, .ref (xa x 1)), (1, .ref (xa x k)), (2, .int v), (3, .int pl), (4, .int (nI i))] → W p l e (rmZ 1 22) s m ([.ref (xa x 1), .ref (xa x k), .int v, .int pl] : List Value).toArray below meth c H locs 0 0 (QV below x [.ref (xa x 1), .ref (xa x k), .int v, .int pl] s (fun ar' fd' => ar' = mdA ar k v f pl ∧ fd' = zu fd 1 (zu (fd 1) 8 (nI (f + 1))))) (F0 m 3 ls []) := by
    intro mm
    induction mm with
    | zero => intro i ar1 hmu; exact absurd hmu (Nat.not_lt_zero _)
    | succ mm ih_1 =>
      intro i ar1 hmu hi h1 h1b h2 H locs ls hs hl
      refine lv_iload hx hb dX4_makeDistrict_3 (lv_at hl 4 rfl) ?_
      refine lv_bipush (v := nI 36) hx hb dX4_makeDistrict_5 (by decide) ?_
      refine lv_icmp_ge (tgt := 39) hx hb dX4_makeDistrict_7 (by decide) (fun c_2 => ?_) (fun c_2 => ?_)
      · have c_2 : 36 ≤ i := (nI_leI (a := 36) (b := i) (by omega) (by omega)).mp c_2
        refine lv_aload_n hx hb dX4_makeDistrict_39 rfl (lv_at hl 0 rfl) ?_
        refine zg3 E hs (k := 1) rfl 5 (by decide) rfl q_46 dX4_makeDistrict_40 ?_
        refine lv_aload_n hx hb dX4_makeDistrict_43 rfl (lv_at hl 0 rfl) ?_
        refine zg3 E hs (k := 1) rfl 8 (by decide) rfl q_52 dX4_makeDistrict_44 ?_
        refine tp (b := nI f) hf ?_
        refine lv_iload_n hx hb dX4_makeDistrict_47 rfl (lv_at hl 3 rfl) ?_
        refine zVV E hs lkX4_78 [] (c_X3_put l x 12 9 ro_12 ar1 fd (nI f) pl) (by decide) (sh2 rfl) rfl ⟨Nat.le_of_ble_eq_true rfl, Nat.le_of_ble_eq_true rfl⟩ rfl hl.1 (Nat.le_of_ble_eq_true rfl) rfl dX4_makeDistrict_48 (fun arr_3 fdr_3 H locs hp_4 hs => ?_)
        rw [hp_4.1, hp_4.2] at hs
        rw [rowPut_n (j := f) (by omega) (by decide)] at hs
        refine lv_aload_n hx hb dX4_makeDistrict_51 rfl (lv_at hl 0 rfl) ?_
        refine lv_dup hx hb dX4_makeDistrict_52 rfl ?_
        refine zg3 E hs (k := 1) rfl 8 (by decide) rfl q_52 dX4_makeDistrict_53 ?_
        refine tp (b := nI f) hf ?_
        refine lv_iconst (v := nI 1) hx hb dX4_makeDistrict_56 (by decide) ?_
        refine lv_iadd hx hb dX4_makeDistrict_57 ?_
        refine tp (b := nI (f + 1)) (nI_add _ _) ?_
        refine zp3_8 E hs (k := 1) (hk := rfl)  q_52 dX4_makeDistrict_58 (fun H locs hs => ?_)
        have hs : ST x (AA x) s.heap (mdA ar k v f pl) (zu fd 1 (zu (fd 1) 8 (nI (f + 1)))) H locs := ⟨wl_ext hs.1 (fun q _ i2 hi2 => by
          unfold mdA
          by_cases e : q = 13
          · subst e; rw [zu_s, zu_s, h2 13 (by decide)]
          · rw [zu_n _ _ e, zu_n _ _ e]
            by_cases e9 : q = 9
            · subst e9; rw [zu_s, h1 i2 (by have h36 : rl 9 = 36 := rfl; omega)]
            · rw [zu_n _ _ e9, h2 q e9]), hs.2⟩
        exact zeV E hs ⟨rfl, rfl⟩ dX4_makeDistrict_61
      · have c_2 : ¬ (36 ≤ i) := fun h => c_2 ((nI_leI (a := 36) (b := i) (by omega) (by omega)).mpr h)
        refine lv_aload_n hx hb dX4_makeDistrict_10 rfl (lv_at hl 1 rfl) ?_
        refine lv_iload hx hb dX4_makeDistrict_11 (lv_at hl 4 rfl) ?_
        refine zVP E hs lkX4_59 [] (c_X3_at l x k 36 hr ar1 fd (nI i)) (kd_lt hr.1 (by decide)) (sh2 hr.1) rfl ⟨Nat.le_of_ble_eq_true rfl, Nat.le_of_ble_eq_true rfl⟩ rfl hl.1 (Nat.le_of_ble_eq_true rfl) rfl dX4_makeDistrict_13 (fun r_5 H locs hp_6 hs => ?_)
        subst hp_6
        refine tp (b := ar1 (k + 1) i) (rowAt_n (by omega) (by decide)) ?_
        refine tp (b := ar (k + 1) i) (by rw [h2 (k + 1) (by omega)]) ?_
        refine lv_iload_n hx hb dX4_makeDistrict_16 rfl (lv_at hl 2 rfl) ?_
        refine lv_icmp_ne (tgt := 33) hx hb dX4_makeDistrict_17 (by decide) (fun c_7 => ?_) (fun c_7 => ?_)
        · refine lv_iinc (v := nI (i + 1)) (lv' := [(4, .int (nI (i + 1))), (0, .ref (xa x 1)), (1, .ref (xa x k)), (2, .int v), (3, .int pl)]) hx hb dX4_makeDistrict_33 hl (k := 4) rfl (nI_inc _) (by decide) rfl (fun ls hl => ?_)
          refine lv_goto (tgt := 3) hx hb dX4_makeDistrict_36 (by decide) ?_
          exact ih_1 (i + 1) ar1 (by omega) (by omega) (fun j hj => by
                by_cases e : j = i
                · rw [e, h1b i (Nat.le_refl _), iz_f c_7]
                · exact h1 j (by omega)) (fun j hj => h1b j (by omega)) h2 _ _ _ hs (lvr (lv_at hl 1 rfl) (lvr (lv_at hl 2 rfl) (lvr (lv_at hl 3 rfl) (lvr (lv_at hl 4 rfl) (lvr (lv_at hl 0 rfl) (lvn hl))))))
        · refine lv_aload_n hx hb dX4_makeDistrict_20 rfl (lv_at hl 0 rfl) ?_
          refine zg3 E hs (k := 1) rfl 3 (by decide) rfl q_42 dX4_makeDistrict_21 ?_
          refine lv_iload hx hb dX4_makeDistrict_24 (lv_at hl 4 rfl) ?_
          refine lv_aload_n hx hb dX4_makeDistrict_26 rfl (lv_at hl 0 rfl) ?_
          refine zg3 E hs (k := 1) rfl 8 (by decide) rfl q_52 dX4_makeDistrict_27 ?_
          refine tp (b := nI f) hf ?_
          refine zVV E hs lkX4_78 [] (c_X3_put l x 8 36 ro_8 ar1 fd (nI i) (nI f)) (by decide) (sh2 rfl) rfl ⟨Nat.le_of_ble_eq_true rfl, Nat.le_of_ble_eq_true rfl⟩ rfl hl.1 (Nat.le_of_ble_eq_true rfl) rfl dX4_makeDistrict_30 (fun arr_8 fdr_8 H locs hp_9 hs => ?_)
          rw [hp_9.1, hp_9.2] at hs
          rw [rowPut_n (j := i) (by omega) (by decide)] at hs
          refine lv_iinc (v := nI (i + 1)) (lv' := [(4, .int (nI (i + 1))), (0, .ref (xa x 1)), (1, .ref (xa x k)), (2, .int v), (3, .int pl)]) hx hb dX4_makeDistrict_33 hl (k := 4) rfl (nI_inc _) (by decide) rfl (fun ls hl => ?_)
          refine lv_goto (tgt := 3) hx hb dX4_makeDistrict_36 (by decide) ?_
          exact ih_1 (i + 1) (zu ar1 9 (zu (ar1 9) i (nI f))) (by omega) (by omega) (fun j hj => by
                rw [zu_s]
                by_cases e : j = i
                · rw [e, zu_s, iz_t c_7]
                · rw [zu_n _ _ e]; exact h1 j (by omega)) (fun j hj => by rw [zu_s, zu_n _ _ (by omega)]; exact h1b j (by omega)) (fun q hq => by rw [zu_n _ _ hq]; exact h2 q hq) _ _ _ hs (lvr (lv_at hl 1 rfl) (lvr (lv_at hl 2 rfl) (lvr (lv_at hl 3 rfl) (lvr (lv_at hl 4 rfl) (lvr (lv_at hl 0 rfl) (lvn hl))))))
  exact L_1 (_ + 1) 0 ar (Nat.lt_succ_self _) (by omega) (fun _ h => absurd h (Nat.not_lt_zero _)) (fun _ _ => rfl) (fun _ _ => rfl) _ _ _ hs (lvr (lv_at hl 1 rfl) (lvr (lv_at hl 2 rfl) (lvr (lv_at hl 3 rfl) (lvr (lv_at hl 4 rfl) (lvr (lv_at hl 0 rfl) (lvn hl))))))

set_option maxHeartbeats 4000000 in
set_option maxRecDepth 100000 in
/-- State.leaveRest -/
theorem c_X4_leaveRest (l : Launch) (x : CT) (ar fd : AR) (t : Int32) : CV l yX4_leaveRest cX4_leaveRest 4 1 22 x [.ref (xa x 1), .int t] ar fd (fun ar' fd' => ar' = zu ar 11 (lrF (ar 7) t) ∧ fd' = fd) := by
  refine zsV (own := RX4) rfl (by decide +kernel) (Nat.le_of_ble_eq_true rfl) ?_
  intro p e s m below meth c ls E hs hl
  have hx := E.1
  have hb := E.2.1
  have hl : lv_has ls 4 [(0, .ref (xa x 1)), (1, .int t)] := hl
  refine lv_iconst (v := nI 0) hx hb dX4_leaveRest_0 (by decide) ?_
  refine lv_istore_n (lv' := [(2, .int (nI 0)), (0, .ref (xa x 1)), (1, .int t)]) hx hb dX4_leaveRest_1 rfl hl (by decide) rfl (fun ls hl => ?_)
  have L_1 : ∀ (mm : Nat) (i : Nat) (ar1 : AR), (36 - i) < mm → (i ≤ 36) → (∀ j, j < i → ar1 11 j = lrF (ar 7) t j) → (∀ q, q ≠ 11 → ar1 q = ar q) → ∀ (H : Heap) (locs : List Loc) (ls : Array Slot), ST x (AA x) s.heap ar1 fd H locs → lv_has ls 4 [(0, .ref (xa x 1)), (1, .int t), (2, .int (nI i))] → W p l e (rmZ 1 22) s m ([.ref (xa x 1), .int t] : List Value).toArray below meth c H locs 0 0 (QV below x [.ref (xa x 1), .int t] s (fun ar' fd' => ar' = zu ar 11 (lrF (ar 7) t) ∧ fd' = fd)) (F0 m 2 ls []) := by
    intro mm
    induction mm with
    | zero => intro i ar1 hmu; exact absurd hmu (Nat.not_lt_zero _)
    | succ mm ih_1 =>
      intro i ar1 hmu hi h1 h2 H locs ls hs hl
      refine lv_iload_n hx hb dX4_leaveRest_2 rfl (lv_at hl 2 rfl) ?_
      refine lv_bipush (v := nI 36) hx hb dX4_leaveRest_3 (by decide) ?_
      refine lv_icmp_ge (tgt := 50) hx hb dX4_leaveRest_5 (by decide) (fun c_2 => ?_) (fun c_2 => ?_)
      · have c_2 : 36 ≤ i := (nI_leI (a := 36) (b := i) (by omega) (by omega)).mp c_2
        have hs : ST x (AA x) s.heap (zu ar 11 (lrF (ar 7) t)) fd H locs := ⟨wl_ext hs.1 (fun q _ i2 hi2 => by
          by_cases e : q = 11
          · subst e; rw [zu_s, h1 i2 (by have h36 : rl 11 = 36 := rfl; omega)]
          · rw [zu_n _ _ e, h2 q e]), hs.2⟩
        exact zeV E hs ⟨rfl, rfl⟩ dX4_leaveRest_50
      · have c_2 : ¬ (36 ≤ i) := fun h => c_2 ((nI_leI (a := 36) (b := i) (by omega) (by omega)).mpr h)
        refine lv_aload_n hx hb dX4_leaveRest_8 rfl (lv_at hl 0 rfl) ?_
        refine zg3 E hs (k := 1) rfl 2 (by decide) rfl q_39 dX4_leaveRest_9 ?_
        refine lv_iload_n hx hb dX4_leaveRest_12 rfl (lv_at hl 2 rfl) ?_
        refine zVP E hs lkX4_59 [] (c_X3_at l x 6 36 ro_6 ar1 fd (nI i)) (by decide) (sh2 rfl) rfl ⟨Nat.le_of_ble_eq_true rfl, Nat.le_of_ble_eq_true rfl⟩ rfl hl.1 (Nat.le_of_ble_eq_true rfl) rfl dX4_leaveRest_13 (fun r_3 H locs hp_4 hs => ?_)
        subst hp_4
        refine tp (b := ar1 7 i) (rowAt_n (by omega) (by decide)) ?_
        refine tp (b := ar 7 i) (by rw [h2 7 (by decide)]) ?_
        refine lv_istore_n (lv' := [(3, .int (ar 7 i)), (0, .ref (xa x 1)), (1, .int t), (2, .int (nI i))]) hx hb dX4_leaveRest_16 rfl hl (by decide) rfl (fun ls hl => ?_)
        refine lv_iload_n hx hb dX4_leaveRest_17 rfl (lv_at hl 0 rfl) ?_
        refine lv_iload_n hx hb dX4_leaveRest_18 rfl (lv_at hl 2 rfl) ?_
        refine lv_icmp_ne (tgt := 27) hx hb dX4_leaveRest_19 (by decide) (fun c_5 => ?_) (fun c_5 => ?_)
        · refine lv_iload_n hx hb dX4_leaveRest_27 rfl (lv_at hl 0 rfl) ?_
          refine lv_iload_n hx hb dX4_leaveRest_28 rfl (lv_at hl 2 rfl) ?_
          refine lv_icmp_le (tgt := 35) hx hb dX4_leaveRest_29 (by decide) (fun c_6 => ?_) (fun c_6 => ?_)
          · refine lv_aload_n hx hb dX4_leaveRest_35 rfl (lv_at hl 1 rfl) ?_
            refine zg3 E hs (k := 1) rfl 4 (by decide) rfl q_44 dX4_leaveRest_36 ?_
            refine lv_iload_n hx hb dX4_leaveRest_39 rfl (lv_at hl 3 rfl) ?_
            refine lv_iload_n hx hb dX4_leaveRest_40 rfl (lv_at hl 0 rfl) ?_
            refine zVV E hs lkX4_78 [] (c_X3_put l x 10 36 ro_10 ar1 fd (nI i) (ar 7 i)) (by decide) (sh2 rfl) rfl ⟨Nat.le_of_ble_eq_true rfl, Nat.le_of_ble_eq_true rfl⟩ rfl hl.1 (Nat.le_of_ble_eq_true rfl) rfl dX4_leaveRest_41 (fun arr_7 fdr_7 H locs hp_8 hs => ?_)
            rw [hp_8.1, hp_8.2] at hs
            rw [rowPut_n (j := i) (by omega) (by decide)] at hs
            refine lv_iinc (v := nI (i + 1)) (lv' := [(2, .int (nI (i + 1))), (3, .int (ar 7 i)), (0, .ref (xa x 1)), (1, .int t)]) hx hb dX4_leaveRest_44 hl (k := 3) rfl (nI_inc _) (by decide) rfl (fun ls hl => ?_)
            refine lv_goto (tgt := 2) hx hb dX4_leaveRest_47 (by decide) ?_
            exact ih_1 (i + 1) (zu ar1 11 (zu (ar1 11) i (ar 7 i))) (by omega) (by omega) (fun j hj => by
                  rw [zu_s]
                  by_cases e : j = i
                  · rw [e, zu_s]; unfold lrF; rw [iz_f c_5, iz_t c_6]
                  · rw [zu_n _ _ e]; exact h1 j (by omega)) (fun q hq => by rw [zu_n _ _ hq]; exact h2 q hq) _ _ _ hs (lvr (lv_at hl 2 rfl) (lvr (lv_at hl 3 rfl) (lvr (lv_at hl 0 rfl) (lvn hl))))
          · refine lv_iinc (v := ar 7 i + (-1)) (lv' := [(3, .int (ar 7 i + (-1))), (0, .ref (xa x 1)), (1, .int t), (2, .int (nI i))]) hx hb dX4_leaveRest_32 hl (k := 0) rfl rfl (by decide) rfl (fun ls hl => ?_)
            refine lv_aload_n hx hb dX4_leaveRest_35 rfl (lv_at hl 1 rfl) ?_
            refine zg3 E hs (k := 1) rfl 4 (by decide) rfl q_44 dX4_leaveRest_36 ?_
            refine lv_iload_n hx hb dX4_leaveRest_39 rfl (lv_at hl 3 rfl) ?_
            refine lv_iload_n hx hb dX4_leaveRest_40 rfl (lv_at hl 0 rfl) ?_
            refine zVV E hs lkX4_78 [] (c_X3_put l x 10 36 ro_10 ar1 fd (nI i) (ar 7 i + (-1))) (by decide) (sh2 rfl) rfl ⟨Nat.le_of_ble_eq_true rfl, Nat.le_of_ble_eq_true rfl⟩ rfl hl.1 (Nat.le_of_ble_eq_true rfl) rfl dX4_leaveRest_41 (fun arr_9 fdr_9 H locs hp_10 hs => ?_)
            rw [hp_10.1, hp_10.2] at hs
            rw [rowPut_n (j := i) (by omega) (by decide)] at hs
            refine lv_iinc (v := nI (i + 1)) (lv' := [(2, .int (nI (i + 1))), (3, .int (ar 7 i + (-1))), (0, .ref (xa x 1)), (1, .int t)]) hx hb dX4_leaveRest_44 hl (k := 3) rfl (nI_inc _) (by decide) rfl (fun ls hl => ?_)
            refine lv_goto (tgt := 2) hx hb dX4_leaveRest_47 (by decide) ?_
            exact ih_1 (i + 1) (zu ar1 11 (zu (ar1 11) i (ar 7 i + (-1)))) (by omega) (by omega) (fun j hj => by
                  rw [zu_s]
                  by_cases e : j = i
                  · rw [e, zu_s]; unfold lrF; rw [iz_f c_5, iz_f c_6]
                  · rw [zu_n _ _ e]; exact h1 j (by omega)) (fun q hq => by rw [zu_n _ _ hq]; exact h2 q hq) _ _ _ hs (lvr (lv_at hl 2 rfl) (lvr (lv_at hl 3 rfl) (lvr (lv_at hl 0 rfl) (lvn hl))))
        · refine lv_iconst (v := (-1)) hx hb dX4_leaveRest_22 (by decide) ?_
          refine lv_istore_n (lv' := [(3, .int (-1)), (0, .ref (xa x 1)), (1, .int t), (2, .int (nI i))]) hx hb dX4_leaveRest_23 rfl hl (by decide) rfl (fun ls hl => ?_)
          refine lv_goto (tgt := 35) hx hb dX4_leaveRest_24 (by decide) ?_
          refine lv_aload_n hx hb dX4_leaveRest_35 rfl (lv_at hl 1 rfl) ?_
          refine zg3 E hs (k := 1) rfl 4 (by decide) rfl q_44 dX4_leaveRest_36 ?_
          refine lv_iload_n hx hb dX4_leaveRest_39 rfl (lv_at hl 3 rfl) ?_
          refine lv_iload_n hx hb dX4_leaveRest_40 rfl (lv_at hl 0 rfl) ?_
          refine zVV E hs lkX4_78 [] (c_X3_put l x 10 36 ro_10 ar1 fd (nI i) (-1)) (by decide) (sh2 rfl) rfl ⟨Nat.le_of_ble_eq_true rfl, Nat.le_of_ble_eq_true rfl⟩ rfl hl.1 (Nat.le_of_ble_eq_true rfl) rfl dX4_leaveRest_41 (fun arr_11 fdr_11 H locs hp_12 hs => ?_)
          rw [hp_12.1, hp_12.2] at hs
          rw [rowPut_n (j := i) (by omega) (by decide)] at hs
          refine lv_iinc (v := nI (i + 1)) (lv' := [(2, .int (nI (i + 1))), (3, .int (-1)), (0, .ref (xa x 1)), (1, .int t)]) hx hb dX4_leaveRest_44 hl (k := 3) rfl (nI_inc _) (by decide) rfl (fun ls hl => ?_)
          refine lv_goto (tgt := 2) hx hb dX4_leaveRest_47 (by decide) ?_
          exact ih_1 (i + 1) (zu ar1 11 (zu (ar1 11) i (-1))) (by omega) (by omega) (fun j hj => by
                rw [zu_s]
                by_cases e : j = i
                · rw [e, zu_s]; unfold lrF; rw [iz_t c_5]
                · rw [zu_n _ _ e]; exact h1 j (by omega)) (fun q hq => by rw [zu_n _ _ hq]; exact h2 q hq) _ _ _ hs (lvr (lv_at hl 2 rfl) (lvr (lv_at hl 3 rfl) (lvr (lv_at hl 0 rfl) (lvn hl))))
  exact L_1 (_ + 1) 0 ar (Nat.lt_succ_self _) (by omega) (fun _ h => absurd h (Nat.not_lt_zero _)) (fun _ _ => rfl) _ _ _ hs (lvr (lv_at hl 1 rfl) (lvr (lv_at hl 2 rfl) (lvr (lv_at hl 0 rfl) (lvn hl))))

noncomputable def sp_takePart (ar fd : AR) (w f : Nat) (t : Int32) : AR × AR := iz (w - (f + 1) = 1) ((mdA (zu (zu (mdA ar 6 t f ((nI 1) - (fd 1 9))) 11 (lrF ((mdA ar 6 t f ((nI 1) - (fd 1 9))) 7) t)) 7 (fun _ => (-1))) 10 (nI 0) (f + 1) ((zu fd 1 (zu (fd 1) 8 (nI (f + 1)))) 1 9), zu (zu (zu fd 1 (zu (fd 1) 8 (nI (f + 1)))) 1 (zu ((zu fd 1 (zu (fd 1) 8 (nI (f + 1)))) 1) 8 (nI (f + 1 + 1)))) 1 (zu ((zu (zu fd 1 (zu (fd 1) 8 (nI (f + 1)))) 1 (zu ((zu fd 1 (zu (fd 1) 8 (nI (f + 1)))) 1) 8 (nI (f + 1 + 1)))) 1) 10 (nI 2)))) ((zu (zu (mdA ar 6 t f ((nI 1) - (fd 1 9))) 11 (lrF ((mdA ar 6 t f ((nI 1) - (fd 1 9))) 7) t)) 7 (fun _ => (-1)), zu (zu (zu fd 1 (zu (fd 1) 8 (nI (f + 1)))) 1 (zu ((zu fd 1 (zu (fd 1) 8 (nI (f + 1)))) 1) 9 ((nI 1) - ((zu fd 1 (zu (fd 1) 8 (nI (f + 1)))) 1 9)))) 1 (zu ((zu (zu fd 1 (zu (fd 1) 8 (nI (f + 1)))) 1 (zu ((zu fd 1 (zu (fd 1) 8 (nI (f + 1)))) 1) 9 ((nI 1) - ((zu fd 1 (zu (fd 1) 8 (nI (f + 1)))) 1 9)))) 1) 10 (nI 0))))
set_option maxHeartbeats 4000000 in
set_option maxRecDepth 100000 in
/-- State.takePart -/
theorem c_X4_takePart (l : Launch) (x : CT) (ar fd : AR) (w f : Nat) (hw : fd 1 7 = nI w) (hf : fd 1 8 = nI f) (hfw : f ≤ w) (hw9 : w ≤ 9) (hw2 : 2 ≤ w) (hfl : f < w) (t : Int32) : CV l yX4_takePart cX4_takePart 2 2 46 x [.ref (xa x 1), .int t] ar fd (fun ar' fd' => (ar', fd') = sp_takePart ar fd w f t) := by
  refine zsV (own := RX4) rfl (by decide +kernel) (Nat.le_of_ble_eq_true rfl) ?_
  intro p e s m below meth c ls E hs hl
  have hx := E.1
  have hb := E.2.1
  have hl : lv_has ls 2 [(0, .ref (xa x 1)), (1, .int t)] := hl
  refine lv_aload_n hx hb dX4_takePart_0 rfl (lv_at hl 0 rfl) ?_
  refine lv_aload_n hx hb dX4_takePart_1 rfl (lv_at hl 0 rfl) ?_
  refine zg3 E hs (k := 1) rfl 2 (by decide) rfl q_39 dX4_takePart_2 ?_
  refine lv_iload_n hx hb dX4_takePart_5 rfl (lv_at hl 1 rfl) ?_
  refine lv_iconst (v := nI 1) hx hb dX4_takePart_6 (by decide) ?_
  refine lv_aload_n hx hb dX4_takePart_7 rfl (lv_at hl 0 rfl) ?_
  refine zg3 E hs (k := 1) rfl 9 (by decide) rfl q_54 dX4_takePart_8 ?_
  refine lv_isub hx hb dX4_takePart_11 ?_
  refine zVV E hs lkX4_71 [] (c_X4_makeDistrict l x 6 ro_6 (by decide) ar fd f hf (by omega) t ((nI 1) - (fd 1 9))) (by decide) (sh3 rfl) rfl ⟨Nat.le_of_ble_eq_true rfl, Nat.le_of_ble_eq_true rfl⟩ rfl hl.1 (Nat.le_of_ble_eq_true rfl) rfl dX4_takePart_12 (fun arr_1 fdr_1 H locs hp_2 hs => ?_)
  rw [hp_2.1, hp_2.2] at hs
  refine lv_aload_n hx hb dX4_takePart_15 rfl (lv_at hl 0 rfl) ?_
  refine lv_iload_n hx hb dX4_takePart_16 rfl (lv_at hl 1 rfl) ?_
  refine zVV E hs lkX4_75 [] (c_X4_leaveRest l x (mdA ar 6 t f ((nI 1) - (fd 1 9))) (zu fd 1 (zu (fd 1) 8 (nI (f + 1)))) t) (by decide) (sh3 rfl) rfl ⟨Nat.le_of_ble_eq_true rfl, Nat.le_of_ble_eq_true rfl⟩ rfl hl.1 (Nat.le_of_ble_eq_true rfl) rfl dX4_takePart_17 (fun arr_3 fdr_3 H locs hp_4 hs => ?_)
  rw [hp_4.1, hp_4.2] at hs
  refine lv_aload_n hx hb dX4_takePart_20 rfl (lv_at hl 0 rfl) ?_
  refine zg3 E hs (k := 1) rfl 2 (by decide) rfl q_39 dX4_takePart_21 ?_
  refine lv_iconst (v := (-1)) hx hb dX4_takePart_24 (by decide) ?_
  refine zVV E hs lkX4_55 [] (c_X3_fill l x 6 36 ro_6 (zu (mdA ar 6 t f ((nI 1) - (fd 1 9))) 11 (lrF ((mdA ar 6 t f ((nI 1) - (fd 1 9))) 7) t)) (zu fd 1 (zu (fd 1) 8 (nI (f + 1)))) (-1)) (by decide) (sh2 rfl) rfl ⟨Nat.le_of_ble_eq_true rfl, Nat.le_of_ble_eq_true rfl⟩ rfl hl.1 (Nat.le_of_ble_eq_true rfl) rfl dX4_takePart_25 (fun arr_5 fdr_5 H locs hp_6 hs => ?_)
  rw [hp_6.1, hp_6.2] at hs
  refine lv_aload_n hx hb dX4_takePart_28 rfl (lv_at hl 0 rfl) ?_
  refine zVP E hs lkX4_63 [] (c_X4_left l x (zu (zu (mdA ar 6 t f ((nI 1) - (fd 1 9))) 11 (lrF ((mdA ar 6 t f ((nI 1) - (fd 1 9))) 7) t)) 7 (fun _ => (-1))) (zu fd 1 (zu (fd 1) 8 (nI (f + 1))))) (by decide) (sh3 rfl) rfl ⟨Nat.le_of_ble_eq_true rfl, Nat.le_of_ble_eq_true rfl⟩ rfl hl.1 (Nat.le_of_ble_eq_true rfl) rfl dX4_takePart_29 (fun r_7 H locs hp_8 hs => ?_)
  subst hp_8
  refine tp (b := nI (w - (f + 1))) (by rw [zu_s, zu_n _ _ (by decide), zu_s, hw, nI_sub (by omega)]) ?_
  refine lv_iconst (v := nI 1) hx hb dX4_takePart_32 (by decide) ?_
  refine lv_icmp_ne (tgt := 57) hx hb dX4_takePart_33 (by decide) (fun c_9 => ?_) (fun c_9 => ?_)
  · have c_9 : ¬ (w - (f + 1) = 1) := fun h => c_9 ((nI_eq (a := w - (f + 1)) (b := 1) (by omega) (by omega)).mpr h)
    refine lv_aload_n hx hb dX4_takePart_57 rfl (lv_at hl 0 rfl) ?_
    refine lv_iconst (v := nI 1) hx hb dX4_takePart_58 (by decide) ?_
    refine lv_aload_n hx hb dX4_takePart_59 rfl (lv_at hl 0 rfl) ?_
    refine zg3 E hs (k := 1) rfl 9 (by decide) rfl q_54 dX4_takePart_60 ?_
    refine lv_isub hx hb dX4_takePart_63 ?_
    refine zp3_9 E hs (k := 1) (hk := rfl)  q_54 dX4_takePart_64 (fun H locs hs => ?_)
    refine lv_aload_n hx hb dX4_takePart_67 rfl (lv_at hl 0 rfl) ?_
    refine lv_iconst (v := nI 0) hx hb dX4_takePart_68 (by decide) ?_
    refine zp3_10 E hs (k := 1) (hk := rfl)  q_55 dX4_takePart_69 (fun H locs hs => ?_)
    exact zeV E hs (by show (_, _) = sp_takePart ar fd w f t; unfold sp_takePart; rw [iz_f c_9]) dX4_takePart_72
  · have c_9 : w - (f + 1) = 1 := (nI_eq (a := w - (f + 1)) (b := 1) (by omega) (by omega)).mp c_9
    refine lv_aload_n hx hb dX4_takePart_36 rfl (lv_at hl 0 rfl) ?_
    refine lv_aload_n hx hb dX4_takePart_37 rfl (lv_at hl 0 rfl) ?_
    refine zg3 E hs (k := 1) rfl 4 (by decide) rfl q_44 dX4_takePart_38 ?_
    refine lv_iconst (v := nI 0) hx hb dX4_takePart_41 (by decide) ?_
    refine lv_aload_n hx hb dX4_takePart_42 rfl (lv_at hl 0 rfl) ?_
    refine zg3 E hs (k := 1) rfl 9 (by decide) rfl q_54 dX4_takePart_43 ?_
    refine zVV E hs lkX4_71 [] (c_X4_makeDistrict l x 10 ro_10 (by decide) (zu (zu (mdA ar 6 t f ((nI 1) - (fd 1 9))) 11 (lrF ((mdA ar 6 t f ((nI 1) - (fd 1 9))) 7) t)) 7 (fun _ => (-1))) (zu fd 1 (zu (fd 1) 8 (nI (f + 1)))) (f + 1) (by rw [zu_s, zu_s]) (by omega) (nI 0) ((zu fd 1 (zu (fd 1) 8 (nI (f + 1)))) 1 9)) (by decide) (sh3 rfl) rfl ⟨Nat.le_of_ble_eq_true rfl, Nat.le_of_ble_eq_true rfl⟩ rfl hl.1 (Nat.le_of_ble_eq_true rfl) rfl dX4_takePart_46 (fun arr_10 fdr_10 H locs hp_11 hs => ?_)
    rw [hp_11.1, hp_11.2] at hs
    refine lv_aload_n hx hb dX4_takePart_49 rfl (lv_at hl 0 rfl) ?_
    refine lv_iconst (v := nI 2) hx hb dX4_takePart_50 (by decide) ?_
    refine zp3_10 E hs (k := 1) (hk := rfl)  q_55 dX4_takePart_51 (fun H locs hs => ?_)
    refine lv_goto (tgt := 72) hx hb dX4_takePart_54 (by decide) ?_
    exact zeV E hs (by show (_, _) = sp_takePart ar fd w f t; unfold sp_takePart; rw [iz_t c_9]) dX4_takePart_72

noncomputable def sp_startAnew (ar fd : AR) (v : Int32) : AR × AR := (zu (zu (zu (zu ar 7 (fun _ => (-1))) 9 (fun _ => (-1))) 11 (fun _ => (-1))) 13 (fun _ => (-1)), zu (zu (zu (zu fd 1 (zu (fd 1) 7 v)) 1 (zu ((zu fd 1 (zu (fd 1) 7 v)) 1) 8 (nI 0))) 1 (zu ((zu (zu fd 1 (zu (fd 1) 7 v)) 1 (zu ((zu fd 1 (zu (fd 1) 7 v)) 1) 8 (nI 0))) 1) 9 (nI 0))) 1 (zu ((zu (zu (zu fd 1 (zu (fd 1) 7 v)) 1 (zu ((zu fd 1 (zu (fd 1) 7 v)) 1) 8 (nI 0))) 1 (zu ((zu (zu fd 1 (zu (fd 1) 7 v)) 1 (zu ((zu fd 1 (zu (fd 1) 7 v)) 1) 8 (nI 0))) 1) 9 (nI 0))) 1) 10 (nI 0)))
set_option maxHeartbeats 4000000 in
set_option maxRecDepth 100000 in
/-- State.startAnew -/
theorem c_X4_startAnew (l : Launch) (x : CT) (ar fd : AR) (v : Int32) : CV l yX4_startAnew cX4_startAnew 2 1 22 x [.ref (xa x 1), .int v] ar fd (fun ar' fd' => (ar', fd') = sp_startAnew ar fd v) := by
  refine zsV (own := RX4) rfl (by decide +kernel) (Nat.le_of_ble_eq_true rfl) ?_
  intro p e s m below meth c ls E hs hl
  have hx := E.1
  have hb := E.2.1
  have hl : lv_has ls 2 [(0, .ref (xa x 1)), (1, .int v)] := hl
  refine lv_aload_n hx hb dX4_startAnew_0 rfl (lv_at hl 0 rfl) ?_
  refine zg3 E hs (k := 1) rfl 2 (by decide) rfl q_39 dX4_startAnew_1 ?_
  refine lv_iconst (v := (-1)) hx hb dX4_startAnew_4 (by decide) ?_
  refine zVV E hs lkX4_55 [] (c_X3_fill l x 6 36 ro_6 ar fd (-1)) (by decide) (sh2 rfl) rfl ⟨Nat.le_of_ble_eq_true rfl, Nat.le_of_ble_eq_true rfl⟩ rfl hl.1 (Nat.le_of_ble_eq_true rfl) rfl dX4_startAnew_5 (fun arr_1 fdr_1 H locs hp_2 hs => ?_)
  rw [hp_2.1, hp_2.2] at hs
  refine lv_aload_n hx hb dX4_startAnew_8 rfl (lv_at hl 0 rfl) ?_
  refine zg3 E hs (k := 1) rfl 3 (by decide) rfl q_42 dX4_startAnew_9 ?_
  refine lv_iconst (v := (-1)) hx hb dX4_startAnew_12 (by decide) ?_
  refine zVV E hs lkX4_55 [] (c_X3_fill l x 8 36 ro_8 (zu ar 7 (fun _ => (-1))) fd (-1)) (by decide) (sh2 rfl) rfl ⟨Nat.le_of_ble_eq_true rfl, Nat.le_of_ble_eq_true rfl⟩ rfl hl.1 (Nat.le_of_ble_eq_true rfl) rfl dX4_startAnew_13 (fun arr_3 fdr_3 H locs hp_4 hs => ?_)
  rw [hp_4.1, hp_4.2] at hs
  refine lv_aload_n hx hb dX4_startAnew_16 rfl (lv_at hl 0 rfl) ?_
  refine zg3 E hs (k := 1) rfl 4 (by decide) rfl q_44 dX4_startAnew_17 ?_
  refine lv_iconst (v := (-1)) hx hb dX4_startAnew_20 (by decide) ?_
  refine zVV E hs lkX4_55 [] (c_X3_fill l x 10 36 ro_10 (zu (zu ar 7 (fun _ => (-1))) 9 (fun _ => (-1))) fd (-1)) (by decide) (sh2 rfl) rfl ⟨Nat.le_of_ble_eq_true rfl, Nat.le_of_ble_eq_true rfl⟩ rfl hl.1 (Nat.le_of_ble_eq_true rfl) rfl dX4_startAnew_21 (fun arr_5 fdr_5 H locs hp_6 hs => ?_)
  rw [hp_6.1, hp_6.2] at hs
  refine lv_aload_n hx hb dX4_startAnew_24 rfl (lv_at hl 0 rfl) ?_
  refine zg3 E hs (k := 1) rfl 5 (by decide) rfl q_46 dX4_startAnew_25 ?_
  refine lv_iconst (v := (-1)) hx hb dX4_startAnew_28 (by decide) ?_
  refine zVV E hs lkX4_55 [] (c_X3_fill l x 12 9 ro_12 (zu (zu (zu ar 7 (fun _ => (-1))) 9 (fun _ => (-1))) 11 (fun _ => (-1))) fd (-1)) (by decide) (sh2 rfl) rfl ⟨Nat.le_of_ble_eq_true rfl, Nat.le_of_ble_eq_true rfl⟩ rfl hl.1 (Nat.le_of_ble_eq_true rfl) rfl dX4_startAnew_29 (fun arr_7 fdr_7 H locs hp_8 hs => ?_)
  rw [hp_8.1, hp_8.2] at hs
  refine lv_aload_n hx hb dX4_startAnew_32 rfl (lv_at hl 0 rfl) ?_
  refine lv_iload_n hx hb dX4_startAnew_33 rfl (lv_at hl 1 rfl) ?_
  refine zp3_7 E hs (k := 1) (hk := rfl)  q_50 dX4_startAnew_34 (fun H locs hs => ?_)
  refine lv_aload_n hx hb dX4_startAnew_37 rfl (lv_at hl 0 rfl) ?_
  refine lv_iconst (v := nI 0) hx hb dX4_startAnew_38 (by decide) ?_
  refine zp3_8 E hs (k := 1) (hk := rfl)  q_52 dX4_startAnew_39 (fun H locs hs => ?_)
  refine lv_aload_n hx hb dX4_startAnew_42 rfl (lv_at hl 0 rfl) ?_
  refine lv_iconst (v := nI 0) hx hb dX4_startAnew_43 (by decide) ?_
  refine zp3_9 E hs (k := 1) (hk := rfl)  q_54 dX4_startAnew_44 (fun H locs hs => ?_)
  refine lv_aload_n hx hb dX4_startAnew_47 rfl (lv_at hl 0 rfl) ?_
  refine lv_iconst (v := nI 0) hx hb dX4_startAnew_48 (by decide) ?_
  refine zp3_10 E hs (k := 1) (hk := rfl)  q_55 dX4_startAnew_49 (fun H locs hs => ?_)
  exact zeV E hs (by show (_, _) = sp_startAnew ar fd v; unfold sp_startAnew; rfl) dX4_startAnew_52

set_option maxHeartbeats 4000000 in
set_option maxRecDepth 100000 in
/-- State.copy -/
theorem c_X4_copy (l : Launch) (x : CT) (db sb : Nat) (hd : SB db) (hs2 : SB sb) (hds : db + 15 ≤ sb ∨ sb + 15 ≤ db) (ar fd : AR) : CV l yX4_copy cX4_copy 2 2 43 x [.ref (xa x db), .ref (xa x sb)] ar fd (fun ar' fd' => ar' = cpA db sb ar ∧ fd' = zu fd db (fd sb)) := by
  refine zsV (own := RX4) rfl (by decide +kernel) (Nat.le_of_ble_eq_true rfl) ?_
  intro p e s m below meth c ls E hs hl
  have hx := E.1
  have hb := E.2.1
  have hl : lv_has ls 2 [(0, .ref (xa x db)), (1, .ref (xa x sb))] := hl
  have hne : sb ≠ db := by omega
  refine lv_aload_n hx hb dX4_copy_0 rfl (lv_at hl 0 rfl) ?_
  refine zg3 E hs (k := db) hd.1 0 (by decide) rfl q_35 dX4_copy_1 ?_
  refine lv_aload_n hx hb dX4_copy_4 rfl (lv_at hl 1 rfl) ?_
  refine zg3 E hs (k := sb) hs2.1 0 (by decide) rfl q_35 dX4_copy_5 ?_
  refine zVV E hs lkX4_51 [] (c_X3_copy l x (db + 1) (sb + 1) 36 hd.2.1 hs2.2.1 (by omega) ar fd) (kd_lt hd.2.1.1 (by decide)) (sh2 hd.2.1.1) rfl ⟨Nat.le_of_ble_eq_true rfl, Nat.le_of_ble_eq_true rfl⟩ rfl hl.1 (Nat.le_of_ble_eq_true rfl) rfl dX4_copy_8 (fun arr_1 fdr_1 H locs hp_2 hs => ?_)
  rw [hp_2.1, hp_2.2] at hs
  refine lv_aload_n hx hb dX4_copy_11 rfl (lv_at hl 0 rfl) ?_
  refine zg3 E hs (k := db) hd.1 1 (by decide) rfl q_37 dX4_copy_12 ?_
  refine lv_aload_n hx hb dX4_copy_15 rfl (lv_at hl 1 rfl) ?_
  refine zg3 E hs (k := sb) hs2.1 1 (by decide) rfl q_37 dX4_copy_16 ?_
  refine zVV E hs lkX4_51 [] (c_X3_copy l x (db + 3) (sb + 3) 36 hd.2.2.1 hs2.2.2.1 (by omega) (zu ar (db + 2) (ar (sb + 2))) fd) (kd_lt hd.2.2.1.1 (by decide)) (sh2 hd.2.2.1.1) rfl ⟨Nat.le_of_ble_eq_true rfl, Nat.le_of_ble_eq_true rfl⟩ rfl hl.1 (Nat.le_of_ble_eq_true rfl) rfl dX4_copy_19 (fun arr_3 fdr_3 H locs hp_4 hs => ?_)
  rw [hp_4.1, hp_4.2] at hs
  rw [show (zu ar (db + 2) (ar (sb + 2))) (sb + 4) = ar (sb + 4) by rw [zu_n _ _ (by omega)]] at hs
  refine lv_aload_n hx hb dX4_copy_22 rfl (lv_at hl 0 rfl) ?_
  refine zg3 E hs (k := db) hd.1 2 (by decide) rfl q_39 dX4_copy_23 ?_
  refine lv_aload_n hx hb dX4_copy_26 rfl (lv_at hl 1 rfl) ?_
  refine zg3 E hs (k := sb) hs2.1 2 (by decide) rfl q_39 dX4_copy_27 ?_
  refine zVV E hs lkX4_51 [] (c_X3_copy l x (db + 5) (sb + 5) 36 hd.2.2.2.1 hs2.2.2.2.1 (by omega) (zu (zu ar (db + 2) (ar (sb + 2))) (db + 4) (ar (sb + 4))) fd) (kd_lt hd.2.2.2.1.1 (by decide)) (sh2 hd.2.2.2.1.1) rfl ⟨Nat.le_of_ble_eq_true rfl, Nat.le_of_ble_eq_true rfl⟩ rfl hl.1 (Nat.le_of_ble_eq_true rfl) rfl dX4_copy_30 (fun arr_5 fdr_5 H locs hp_6 hs => ?_)
  rw [hp_6.1, hp_6.2] at hs
  rw [show (zu (zu ar (db + 2) (ar (sb + 2))) (db + 4) (ar (sb + 4))) (sb + 6) = ar (sb + 6) by rw [zu_n _ _ (by omega), zu_n _ _ (by omega)]] at hs
  refine lv_aload_n hx hb dX4_copy_33 rfl (lv_at hl 0 rfl) ?_
  refine zg3 E hs (k := db) hd.1 3 (by decide) rfl q_42 dX4_copy_34 ?_
  refine lv_aload_n hx hb dX4_copy_37 rfl (lv_at hl 1 rfl) ?_
  refine zg3 E hs (k := sb) hs2.1 3 (by decide) rfl q_42 dX4_copy_38 ?_
  refine zVV E hs lkX4_51 [] (c_X3_copy l x (db + 7) (sb + 7) 36 hd.2.2.2.2.1 hs2.2.2.2.2.1 (by omega) (zu (zu (zu ar (db + 2) (ar (sb + 2))) (db + 4) (ar (sb + 4))) (db + 6) (ar (sb + 6))) fd) (kd_lt hd.2.2.2.2.1.1 (by decide)) (sh2 hd.2.2.2.2.1.1) rfl ⟨Nat.le_of_ble_eq_true rfl, Nat.le_of_ble_eq_true rfl⟩ rfl hl.1 (Nat.le_of_ble_eq_true rfl) rfl dX4_copy_41 (fun arr_7 fdr_7 H locs hp_8 hs => ?_)
  rw [hp_8.1, hp_8.2] at hs
  rw [show (zu (zu (zu ar (db + 2) (ar (sb + 2))) (db + 4) (ar (sb + 4))) (db + 6) (ar (sb + 6))) (sb + 8) = ar (sb + 8) by rw [zu_n _ _ (by omega), zu_n _ _ (by omega), zu_n _ _ (by omega)]] at hs
  refine lv_aload_n hx hb dX4_copy_44 rfl (lv_at hl 0 rfl) ?_
  refine zg3 E hs (k := db) hd.1 4 (by decide) rfl q_44 dX4_copy_45 ?_
  refine lv_aload_n hx hb dX4_copy_48 rfl (lv_at hl 1 rfl) ?_
  refine zg3 E hs (k := sb) hs2.1 4 (by decide) rfl q_44 dX4_copy_49 ?_
  refine zVV E hs lkX4_51 [] (c_X3_copy l x (db + 9) (sb + 9) 36 hd.2.2.2.2.2.1 hs2.2.2.2.2.2.1 (by omega) (zu (zu (zu (zu ar (db + 2) (ar (sb + 2))) (db + 4) (ar (sb + 4))) (db + 6) (ar (sb + 6))) (db + 8) (ar (sb + 8))) fd) (kd_lt hd.2.2.2.2.2.1.1 (by decide)) (sh2 hd.2.2.2.2.2.1.1) rfl ⟨Nat.le_of_ble_eq_true rfl, Nat.le_of_ble_eq_true rfl⟩ rfl hl.1 (Nat.le_of_ble_eq_true rfl) rfl dX4_copy_52 (fun arr_9 fdr_9 H locs hp_10 hs => ?_)
  rw [hp_10.1, hp_10.2] at hs
  rw [show (zu (zu (zu (zu ar (db + 2) (ar (sb + 2))) (db + 4) (ar (sb + 4))) (db + 6) (ar (sb + 6))) (db + 8) (ar (sb + 8))) (sb + 10) = ar (sb + 10) by rw [zu_n _ _ (by omega), zu_n _ _ (by omega), zu_n _ _ (by omega), zu_n _ _ (by omega)]] at hs
  refine lv_aload_n hx hb dX4_copy_55 rfl (lv_at hl 0 rfl) ?_
  refine zg3 E hs (k := db) hd.1 5 (by decide) rfl q_46 dX4_copy_56 ?_
  refine lv_aload_n hx hb dX4_copy_59 rfl (lv_at hl 1 rfl) ?_
  refine zg3 E hs (k := sb) hs2.1 5 (by decide) rfl q_46 dX4_copy_60 ?_
  refine zVV E hs lkX4_51 [] (c_X3_copy l x (db + 11) (sb + 11) 9 hd.2.2.2.2.2.2.1 hs2.2.2.2.2.2.2.1 (by omega) (zu (zu (zu (zu (zu ar (db + 2) (ar (sb + 2))) (db + 4) (ar (sb + 4))) (db + 6) (ar (sb + 6))) (db + 8) (ar (sb + 8))) (db + 10) (ar (sb + 10))) fd) (kd_lt hd.2.2.2.2.2.2.1.1 (by decide)) (sh2 hd.2.2.2.2.2.2.1.1) rfl ⟨Nat.le_of_ble_eq_true rfl, Nat.le_of_ble_eq_true rfl⟩ rfl hl.1 (Nat.le_of_ble_eq_true rfl) rfl dX4_copy_63 (fun arr_11 fdr_11 H locs hp_12 hs => ?_)
  rw [hp_12.1, hp_12.2] at hs
  rw [show (zu (zu (zu (zu (zu ar (db + 2) (ar (sb + 2))) (db + 4) (ar (sb + 4))) (db + 6) (ar (sb + 6))) (db + 8) (ar (sb + 8))) (db + 10) (ar (sb + 10))) (sb + 12) = ar (sb + 12) by rw [zu_n _ _ (by omega), zu_n _ _ (by omega), zu_n _ _ (by omega), zu_n _ _ (by omega), zu_n _ _ (by omega)]] at hs
  refine lv_aload_n hx hb dX4_copy_66 rfl (lv_at hl 0 rfl) ?_
  refine zg3 E hs (k := db) hd.1 6 (by decide) rfl q_48 dX4_copy_67 ?_
  refine lv_aload_n hx hb dX4_copy_70 rfl (lv_at hl 1 rfl) ?_
  refine zg3 E hs (k := sb) hs2.1 6 (by decide) rfl q_48 dX4_copy_71 ?_
  refine zVV E hs lkX4_51 [] (c_X3_copy l x (db + 13) (sb + 13) 2 hd.2.2.2.2.2.2.2 hs2.2.2.2.2.2.2.2 (by omega) (zu (zu (zu (zu (zu (zu ar (db + 2) (ar (sb + 2))) (db + 4) (ar (sb + 4))) (db + 6) (ar (sb + 6))) (db + 8) (ar (sb + 8))) (db + 10) (ar (sb + 10))) (db + 12) (ar (sb + 12))) fd) (kd_lt hd.2.2.2.2.2.2.2.1 (by decide)) (sh2 hd.2.2.2.2.2.2.2.1) rfl ⟨Nat.le_of_ble_eq_true rfl, Nat.le_of_ble_eq_true rfl⟩ rfl hl.1 (Nat.le_of_ble_eq_true rfl) rfl dX4_copy_74 (fun arr_13 fdr_13 H locs hp_14 hs => ?_)
  rw [hp_14.1, hp_14.2] at hs
  rw [show (zu (zu (zu (zu (zu (zu ar (db + 2) (ar (sb + 2))) (db + 4) (ar (sb + 4))) (db + 6) (ar (sb + 6))) (db + 8) (ar (sb + 8))) (db + 10) (ar (sb + 10))) (db + 12) (ar (sb + 12))) (sb + 14) = ar (sb + 14) by rw [zu_n _ _ (by omega), zu_n _ _ (by omega), zu_n _ _ (by omega), zu_n _ _ (by omega), zu_n _ _ (by omega), zu_n _ _ (by omega)]] at hs
  refine lv_aload_n hx hb dX4_copy_77 rfl (lv_at hl 0 rfl) ?_
  refine lv_aload_n hx hb dX4_copy_78 rfl (lv_at hl 1 rfl) ?_
  refine zg3 E hs (k := sb) hs2.1 7 (by decide) rfl q_50 dX4_copy_79 ?_
  refine zp3_7 E hs (k := db) (hk := hd.1)  q_50 dX4_copy_82 (fun H locs hs => ?_)
  refine lv_aload_n hx hb dX4_copy_85 rfl (lv_at hl 0 rfl) ?_
  refine lv_aload_n hx hb dX4_copy_86 rfl (lv_at hl 1 rfl) ?_
  refine zg3 E hs (k := sb) hs2.1 8 (by decide) rfl q_52 dX4_copy_87 ?_
  refine tp (b := fd sb 8) (by simp only [zu_n _ _ hne]) ?_
  refine zp3_8 E hs (k := db) (hk := hd.1)  q_52 dX4_copy_90 (fun H locs hs => ?_)
  refine lv_aload_n hx hb dX4_copy_93 rfl (lv_at hl 0 rfl) ?_
  refine lv_aload_n hx hb dX4_copy_94 rfl (lv_at hl 1 rfl) ?_
  refine zg3 E hs (k := sb) hs2.1 9 (by decide) rfl q_54 dX4_copy_95 ?_
  refine tp (b := fd sb 9) (by simp only [zu_n _ _ hne]) ?_
  refine zp3_9 E hs (k := db) (hk := hd.1)  q_54 dX4_copy_98 (fun H locs hs => ?_)
  refine lv_aload_n hx hb dX4_copy_101 rfl (lv_at hl 0 rfl) ?_
  refine lv_aload_n hx hb dX4_copy_102 rfl (lv_at hl 1 rfl) ?_
  refine zg3 E hs (k := sb) hs2.1 10 (by decide) rfl q_55 dX4_copy_103 ?_
  refine tp (b := fd sb 10) (by simp only [zu_n _ _ hne]) ?_
  refine zp3_10 E hs (k := db) (hk := hd.1)  q_55 dX4_copy_106 (fun H locs hs => ?_)
  have hs : ST x (AA x) s.heap (cpA db sb ar) (zu fd db (fd sb)) H locs := ⟨wl_F hs.1 (fun q => by
    by_cases e : q = db
    · subst e
      rw [sh3 hd.1, sh3 hd.1]
      simp [fl3, zu]
    · simp only [zu_n _ _ e]), hs.2⟩
  exact zeV E hs ⟨rfl, rfl⟩ dX4_copy_109
