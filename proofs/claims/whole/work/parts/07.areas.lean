
/-! areas -/
/-- the cell behind a side; -1 for the outside -/
def nb (c s : Nat) : Int32 := if s = 0 then (if 6 ≤ c then nI (c - 6) else -1) else if s = 1 then (if c % 6 < 5 then nI (c + 1) else -1) else if s = 2 then (if c < 30 then nI (c + 6) else -1) else (if 0 < c % 6 then nI (c - 1) else -1)
noncomputable def ffst (P : Nat → Prop) : Nat → Nat → Int32
  | 0, _ => -1
  | m + 1, i => iz (P i) (nI i) (ffst P m (i + 1))
theorem ffst_t {P : Nat → Prop} {n i : Nat} (h : i < n) (hp : P i) : ffst P (n - i) i = nI i := by
  rw [show n - i = (n - i - 1) + 1 by omega]
  exact iz_t hp
theorem ffst_f {P : Nat → Prop} {n i : Nat} (h : i < n) (hp : ¬ P i) : ffst P (n - i) i = ffst P (n - (i + 1)) (i + 1) := by
  rw [show n - i = (n - (i + 1)) + 1 by omega]
  exact iz_f hp
theorem ffst_e {P : Nat → Prop} {n i : Nat} (h : n ≤ i) : ffst P (n - i) i = -1 := by
  rw [show n - i = 0 by omega]
  rfl
theorem ffst_c {P R : Nat → Prop} : ∀ {m i : Nat}, (∀ j, i ≤ j → j < i + m → (P j ↔ R j)) → ffst P m i = ffst R m i
  | 0, _, _ => rfl
  | m + 1, i, h => by
    show iz (P i) _ _ = iz (R i) _ _
    rw [iz_c (h i (Nat.le_refl _) (by omega)), ffst_c (m := m) (i := i + 1) fun j h1 h2 => h j (by omega) (by omega)]
noncomputable def alI (f : Nat → Int32) (c : Nat) : Int32 := iz (f c = -1) (nI 0) (nI (ct (fun s => rowAt f 36 (nb c s) = f c) 4))
noncomputable def bdI (f : Nat → Int32) (v : Int32) : Int32 := smI (fun c => iz (f c = v) (nI 4 - alI f c) 0) 36
noncomputable def vtI (f : Nat → Int32) (v : Int32) (g : Nat → Int32) : Int32 := smI (fun c => iz (f c = v) (g c) 0) 36

set_option maxHeartbeats 4000000 in
set_option maxRecDepth 100000 in
/-- Areas.behind -/
theorem c_X0_behind (l : Launch) (x : CT) (ar fd : AR) (ce sd : Nat) (hce : ce < 36) (hsd : sd < 4) : CP l yX0_behind cX0_behind 3 (some .int) 0 0 x [.int (nI ce), .int (nI sd)] ar fd (fun r => r = nb ce sd) := by
  refine zsP (own := RX0) rfl (by decide +kernel) (Nat.le_of_ble_eq_true rfl) ?_
  intro p e s m below meth c ls E hs hl
  have hx := E.1
  have hb := E.2.1
  have hl : lv_has ls 3 [(0, .int (nI ce)), (1, .int (nI sd))] := hl
  refine lv_iload_n hx hb dX0_behind_0 rfl (lv_at hl 0 rfl) ?_
  refine lv_bipush (v := nI 6) hx hb dX0_behind_1 (by decide) ?_
  refine lv_irem hx hb dX0_behind_3 (by decide) ?_
  refine tp (b := nI (ce % 6)) (nI_rem (by omega) (by omega)) ?_
  refine lv_istore_n (lv' := [(2, .int (nI (ce % 6))), (0, .int (nI ce)), (1, .int (nI sd))]) hx hb dX0_behind_4 rfl hl (by decide) rfl (fun ls hl => ?_)
  refine lv_iload_n hx hb dX0_behind_5 rfl (lv_at hl 2 rfl) ?_
  by_cases c_1 : sd = 0
  · refine lv_tableIn (off := 30) (tgt := 36) hx hb dX0_behind_6 (by rw [c_1]; decide) (by rw [c_1]; decide) (by rw [c_1]; first | rfl | decide) (by decide) ?_
    refine lv_iload_n hx hb dX0_behind_36 rfl (lv_at hl 1 rfl) ?_
    refine lv_bipush (v := nI 6) hx hb dX0_behind_37 (by decide) ?_
    refine lv_icmp_lt (tgt := 49) hx hb dX0_behind_39 (by decide) (fun c_2 => ?_) (fun c_2 => ?_)
    · have c_2 : ce < 6 := (nI_ltI (a := ce) (b := 6) (by omega) (by omega)).mp c_2
      refine lv_iconst (v := (-1)) hx hb dX0_behind_49 (by decide) ?_
      exact zeP E hs (by unfold nb; rw [if_pos c_1, if_neg (by omega)]) dX0_behind_50
    · have c_2 : ¬ (ce < 6) := fun h => c_2 ((nI_ltI (a := ce) (b := 6) (by omega) (by omega)).mpr h)
      refine lv_iload_n hx hb dX0_behind_42 rfl (lv_at hl 1 rfl) ?_
      refine lv_bipush (v := nI 6) hx hb dX0_behind_43 (by decide) ?_
      refine lv_isub hx hb dX0_behind_45 ?_
      refine tp (b := nI (ce - 6)) (nI_sub (by omega)) ?_
      refine lv_goto (tgt := 50) hx hb dX0_behind_46 (by decide) ?_
      exact zeP E hs (by unfold nb; rw [if_pos c_1, if_pos (by omega)]) dX0_behind_50
  by_cases c_3 : sd = 1
  · refine lv_tableIn (off := 45) (tgt := 51) hx hb dX0_behind_6 (by rw [c_3]; decide) (by rw [c_3]; decide) (by rw [c_3]; first | rfl | decide) (by decide) ?_
    refine lv_iload_n hx hb dX0_behind_51 rfl (lv_at hl 0 rfl) ?_
    refine lv_iconst (v := nI 5) hx hb dX0_behind_52 (by decide) ?_
    refine lv_icmp_ge (tgt := 62) hx hb dX0_behind_53 (by decide) (fun c_4 => ?_) (fun c_4 => ?_)
    · have c_4 : 5 ≤ ce % 6 := (nI_leI (a := 5) (b := ce % 6) (by omega) (by omega)).mp c_4
      refine lv_iconst (v := (-1)) hx hb dX0_behind_62 (by decide) ?_
      exact zeP E hs (by unfold nb; rw [if_neg c_1, if_pos c_3, if_neg (by omega)]) dX0_behind_63
    · have c_4 : ¬ (5 ≤ ce % 6) := fun h => c_4 ((nI_leI (a := 5) (b := ce % 6) (by omega) (by omega)).mpr h)
      refine lv_iload_n hx hb dX0_behind_56 rfl (lv_at hl 1 rfl) ?_
      refine lv_iconst (v := nI 1) hx hb dX0_behind_57 (by decide) ?_
      refine lv_iadd hx hb dX0_behind_58 ?_
      refine tp (b := nI (ce + 1)) (nI_add _ _) ?_
      refine lv_goto (tgt := 63) hx hb dX0_behind_59 (by decide) ?_
      exact zeP E hs (by unfold nb; rw [if_neg c_1, if_pos c_3, if_pos (by omega)]) dX0_behind_63
  by_cases c_5 : sd = 2
  · refine lv_tableIn (off := 58) (tgt := 64) hx hb dX0_behind_6 (by rw [c_5]; decide) (by rw [c_5]; decide) (by rw [c_5]; first | rfl | decide) (by decide) ?_
    refine lv_iload_n hx hb dX0_behind_64 rfl (lv_at hl 1 rfl) ?_
    refine lv_bipush (v := nI 30) hx hb dX0_behind_65 (by decide) ?_
    refine lv_icmp_ge (tgt := 77) hx hb dX0_behind_67 (by decide) (fun c_6 => ?_) (fun c_6 => ?_)
    · have c_6 : 30 ≤ ce := (nI_leI (a := 30) (b := ce) (by omega) (by omega)).mp c_6
      refine lv_iconst (v := (-1)) hx hb dX0_behind_77 (by decide) ?_
      exact zeP E hs (by unfold nb; rw [if_neg c_1, if_neg c_3, if_pos c_5, if_neg (by omega)]) dX0_behind_78
    · have c_6 : ¬ (30 ≤ ce) := fun h => c_6 ((nI_leI (a := 30) (b := ce) (by omega) (by omega)).mpr h)
      refine lv_iload_n hx hb dX0_behind_70 rfl (lv_at hl 1 rfl) ?_
      refine lv_bipush (v := nI 6) hx hb dX0_behind_71 (by decide) ?_
      refine lv_iadd hx hb dX0_behind_73 ?_
      refine tp (b := nI (ce + 6)) (nI_add _ _) ?_
      refine lv_goto (tgt := 78) hx hb dX0_behind_74 (by decide) ?_
      exact zeP E hs (by unfold nb; rw [if_neg c_1, if_neg c_3, if_pos c_5, if_pos (by omega)]) dX0_behind_78
  by_cases c_7 : sd = 3
  · refine lv_tableIn (off := 73) (tgt := 79) hx hb dX0_behind_6 (by rw [c_7]; decide) (by rw [c_7]; decide) (by rw [c_7]; first | rfl | decide) (by decide) ?_
    refine lv_iload_n hx hb dX0_behind_79 rfl (lv_at hl 0 rfl) ?_
    refine lv_if_le (tgt := 89) hx hb dX0_behind_80 (by decide) (fun c_8 => ?_) (fun c_8 => ?_)
    · have c_8 : ce % 6 ≤ 0 := (nI_leI (a := ce % 6) (b := 0) (by omega) (by omega)).mp c_8
      refine lv_iconst (v := (-1)) hx hb dX0_behind_89 (by decide) ?_
      exact zeP E hs (by unfold nb; rw [if_neg c_1, if_neg c_3, if_neg c_5, if_neg (by omega)]) dX0_behind_90
    · have c_8 : ¬ (ce % 6 ≤ 0) := fun h => c_8 ((nI_leI (a := ce % 6) (b := 0) (by omega) (by omega)).mpr h)
      refine lv_iload_n hx hb dX0_behind_83 rfl (lv_at hl 1 rfl) ?_
      refine lv_iconst (v := nI 1) hx hb dX0_behind_84 (by decide) ?_
      refine lv_isub hx hb dX0_behind_85 ?_
      refine tp (b := nI (ce - 1)) (nI_sub (by omega)) ?_
      refine lv_goto (tgt := 90) hx hb dX0_behind_86 (by decide) ?_
      exact zeP E hs (by unfold nb; rw [if_neg c_1, if_neg c_3, if_neg c_5, if_pos (by omega)]) dX0_behind_90
  exfalso; omega

set_option maxHeartbeats 4000000 in
set_option maxRecDepth 100000 in
/-- Areas.size -/
theorem c_X0_size (l : Launch) (x : CT) (k : Nat) (hr : RO k 36) (ar fd : AR) (v : Int32) : CP l yX0_size cX0_size 4 (some .int) 1 21 x [.ref (xa x k), .int v] ar fd (fun r => r = nI (ct (fun i => ar (k + 1) i = v) 36)) := by
  refine zsP (own := RX0) rfl (by decide +kernel) (Nat.le_of_ble_eq_true rfl) ?_
  intro p e s m below meth c ls E hs hl
  have hx := E.1
  have hb := E.2.1
  have hl : lv_has ls 4 [(0, .ref (xa x k)), (1, .int v)] := hl
  refine lv_iconst (v := nI 0) hx hb dX0_size_0 (by decide) ?_
  refine lv_istore_n (lv' := [(2, .int (nI 0)), (0, .ref (xa x k)), (1, .int v)]) hx hb dX0_size_1 rfl hl (by decide) rfl (fun ls hl => ?_)
  refine lv_iconst (v := nI 0) hx hb dX0_size_2 (by decide) ?_
  refine lv_istore_n (lv' := [(3, .int (nI 0)), (2, .int (nI 0)), (0, .ref (xa x k)), (1, .int v)]) hx hb dX0_size_3 rfl hl (by decide) rfl (fun ls hl => ?_)
  have L_1 : ∀ (mm : Nat) (i : Nat), (36 - i) < mm → (i ≤ 36) → ∀ (H : Heap) (locs : List Loc) (ls : Array Slot), ST x (AA x) s.heap ar fd H locs → lv_has ls 4 [(0, .ref (xa x k)), (1, .int v), (2, .int (nI (ct (fun i => ar (k + 1) i = v) i))), (3, .int (nI i))] → W p l e (rmZ 1 21) s m ([.ref (xa x k), .int v] : List Value).toArray below meth c H locs 0 0 (QP below x [.ref (xa x k), .int v] ar fd s (fun r => r = nI (ct (fun i => ar (k + 1) i = v) 36))) (F0 m 4 ls []) := by
    intro mm
    induction mm with
    | zero => intro i hmu; exact absurd hmu (Nat.not_lt_zero _)
    | succ mm ih_1 =>
      intro i hmu hi H locs ls hs hl
      refine lv_iload_n hx hb dX0_size_4 rfl (lv_at hl 3 rfl) ?_
      refine lv_bipush (v := nI 36) hx hb dX0_size_5 (by decide) ?_
      refine lv_icmp_ge (tgt := 28) hx hb dX0_size_7 (by decide) (fun c_2 => ?_) (fun c_2 => ?_)
      · have c_2 : 36 ≤ i := (nI_leI (a := 36) (b := i) (by omega) (by omega)).mp c_2
        refine lv_iload_n hx hb dX0_size_28 rfl (lv_at hl 2 rfl) ?_
        exact zeP E hs (by rw [show i = 36 by omega]) dX0_size_29
      · have c_2 : ¬ (36 ≤ i) := fun h => c_2 ((nI_leI (a := 36) (b := i) (by omega) (by omega)).mpr h)
        refine lv_aload_n hx hb dX0_size_10 rfl (lv_at hl 0 rfl) ?_
        refine lv_iload_n hx hb dX0_size_11 rfl (lv_at hl 3 rfl) ?_
        refine zVP E hs lkX0_9 [] (c_X3_at l x k 36 hr ar fd (nI i)) (kd_lt hr.1 (by decide)) (sh2 hr.1) rfl ⟨Nat.le_of_ble_eq_true rfl, Nat.le_of_ble_eq_true rfl⟩ rfl hl.1 (Nat.le_of_ble_eq_true rfl) rfl dX0_size_12 (fun r_3 H locs hp_4 hs => ?_)
        subst hp_4
        refine tp (b := ar (k + 1) i) (rowAt_n (by omega) (by decide)) ?_
        refine lv_iload_n hx hb dX0_size_15 rfl (lv_at hl 1 rfl) ?_
        refine lv_icmp_ne (tgt := 22) hx hb dX0_size_16 (by decide) (fun c_5 => ?_) (fun c_5 => ?_)
        · refine lv_iinc (v := nI (i + 1)) (lv' := [(3, .int (nI (i + 1))), (0, .ref (xa x k)), (1, .int v), (2, .int (nI (ct (fun i => ar (k + 1) i = v) i)))]) hx hb dX0_size_22 hl (k := 3) rfl (nI_inc _) (by decide) rfl (fun ls hl => ?_)
          refine lv_goto (tgt := 4) hx hb dX0_size_25 (by decide) ?_
          exact ih_1 (i + 1) (by omega) (by omega) _ _ _ hs (lvr (lv_at hl 1 rfl) (lvr (lv_at hl 2 rfl) (lvc (lv_at hl 3 rfl) (by rw [ct_f (P := fun i => ar (k + 1) i = v) c_5]) (lvr (lv_at hl 0 rfl) (lvn hl)))))
        · refine lv_iinc (v := nI (ct (fun i => ar (k + 1) i = v) i + 1)) (lv' := [(2, .int (nI (ct (fun i => ar (k + 1) i = v) i + 1))), (0, .ref (xa x k)), (1, .int v), (3, .int (nI i))]) hx hb dX0_size_19 hl (k := 2) rfl (nI_inc _) (by decide) rfl (fun ls hl => ?_)
          refine lv_iinc (v := nI (i + 1)) (lv' := [(3, .int (nI (i + 1))), (2, .int (nI (ct (fun i => ar (k + 1) i = v) i + 1))), (0, .ref (xa x k)), (1, .int v)]) hx hb dX0_size_22 hl (k := 3) rfl (nI_inc _) (by decide) rfl (fun ls hl => ?_)
          refine lv_goto (tgt := 4) hx hb dX0_size_25 (by decide) ?_
          exact ih_1 (i + 1) (by omega) (by omega) _ _ _ hs (lvr (lv_at hl 2 rfl) (lvr (lv_at hl 3 rfl) (lvc (lv_at hl 1 rfl) (by rw [ct_t (P := fun i => ar (k + 1) i = v) c_5]) (lvr (lv_at hl 0 rfl) (lvn hl)))))
  exact L_1 (_ + 1) 0 (Nat.lt_succ_self _) (by omega) _ _ _ hs (lvr (lv_at hl 2 rfl) (lvr (lv_at hl 3 rfl) (lvr (lv_at hl 1 rfl) (lvr (lv_at hl 0 rfl) (lvn hl)))))

set_option maxHeartbeats 4000000 in
set_option maxRecDepth 100000 in
/-- Areas.lowest -/
theorem c_X0_lowest (l : Launch) (x : CT) (k : Nat) (hr : RO k 36) (ar fd : AR) (v : Int32) : CP l yX0_lowest cX0_lowest 3 (some .int) 1 21 x [.ref (xa x k), .int v] ar fd (fun r => r = ffst (fun i => ar (k + 1) i = v) 36 0) := by
  refine zsP (own := RX0) rfl (by decide +kernel) (Nat.le_of_ble_eq_true rfl) ?_
  intro p e s m below meth c ls E hs hl
  have hx := E.1
  have hb := E.2.1
  have hl : lv_has ls 3 [(0, .ref (xa x k)), (1, .int v)] := hl
  refine lv_iconst (v := nI 0) hx hb dX0_lowest_0 (by decide) ?_
  refine lv_istore_n (lv' := [(2, .int (nI 0)), (0, .ref (xa x k)), (1, .int v)]) hx hb dX0_lowest_1 rfl hl (by decide) rfl (fun ls hl => ?_)
  have L_1 : ∀ (mm : Nat) (i : Nat), (36 - i) < mm → (i ≤ 36) → (ffst (fun i => ar (k + 1) i = v) 36 0 = ffst (fun i => ar (k + 1) i = v) (36 - i) i) → ∀ (H : Heap) (locs : List Loc) (ls : Array Slot), ST x (AA x) s.heap ar fd H locs → lv_has ls 3 [(0, .ref (xa x k)), (1, .int v), (2, .int (nI i))] → W p l e (rmZ 1 21) s m ([.ref (xa x k), .int v] : List Value).toArray below meth c H locs 0 0 (QP below x [.ref (xa x k), .int v] ar fd s (fun r => r = ffst (fun i => ar (k + 1) i = v) 36 0)) (F0 m 2 ls []) := by
    intro mm
    induction mm with
    | zero => intro i hmu; exact absurd hmu (Nat.not_lt_zero _)
    | succ mm ih_1 =>
      intro i hmu hi h1 H locs ls hs hl
      refine lv_iload_n hx hb dX0_lowest_2 rfl (lv_at hl 2 rfl) ?_
      refine lv_bipush (v := nI 36) hx hb dX0_lowest_3 (by decide) ?_
      refine lv_icmp_ge (tgt := 25) hx hb dX0_lowest_5 (by decide) (fun c_2 => ?_) (fun c_2 => ?_)
      · have c_2 : 36 ≤ i := (nI_leI (a := 36) (b := i) (by omega) (by omega)).mp c_2
        refine lv_iconst (v := (-1)) hx hb dX0_lowest_25 (by decide) ?_
        exact zeP E hs (h1.trans (ffst_e (by omega))).symm dX0_lowest_26
      · have c_2 : ¬ (36 ≤ i) := fun h => c_2 ((nI_leI (a := 36) (b := i) (by omega) (by omega)).mpr h)
        refine lv_aload_n hx hb dX0_lowest_8 rfl (lv_at hl 0 rfl) ?_
        refine lv_iload_n hx hb dX0_lowest_9 rfl (lv_at hl 2 rfl) ?_
        refine zVP E hs lkX0_9 [] (c_X3_at l x k 36 hr ar fd (nI i)) (kd_lt hr.1 (by decide)) (sh2 hr.1) rfl ⟨Nat.le_of_ble_eq_true rfl, Nat.le_of_ble_eq_true rfl⟩ rfl hl.1 (Nat.le_of_ble_eq_true rfl) rfl dX0_lowest_10 (fun r_3 H locs hp_4 hs => ?_)
        subst hp_4
        refine tp (b := ar (k + 1) i) (rowAt_n (by omega) (by decide)) ?_
        refine lv_iload_n hx hb dX0_lowest_13 rfl (lv_at hl 1 rfl) ?_
        refine lv_icmp_ne (tgt := 19) hx hb dX0_lowest_14 (by decide) (fun c_5 => ?_) (fun c_5 => ?_)
        · refine lv_iinc (v := nI (i + 1)) (lv' := [(2, .int (nI (i + 1))), (0, .ref (xa x k)), (1, .int v)]) hx hb dX0_lowest_19 hl (k := 2) rfl (nI_inc _) (by decide) rfl (fun ls hl => ?_)
          refine lv_goto (tgt := 2) hx hb dX0_lowest_22 (by decide) ?_
          exact ih_1 (i + 1) (by omega) (by omega) (h1.trans (ffst_f (by omega) c_5)) _ _ _ hs (lvr (lv_at hl 1 rfl) (lvr (lv_at hl 2 rfl) (lvr (lv_at hl 0 rfl) (lvn hl))))
        · refine lv_iload_n hx hb dX0_lowest_17 rfl (lv_at hl 2 rfl) ?_
          exact zeP E hs (h1.trans (ffst_t (by omega) c_5)).symm dX0_lowest_18
  exact L_1 (_ + 1) 0 (Nat.lt_succ_self _) (by omega) rfl _ _ _ hs (lvr (lv_at hl 1 rfl) (lvr (lv_at hl 2 rfl) (lvr (lv_at hl 0 rfl) (lvn hl))))

set_option maxHeartbeats 4000000 in
set_option maxRecDepth 100000 in
/-- Areas.alike -/
theorem c_X0_alike (l : Launch) (x : CT) (k : Nat) (hr : RO k 36) (ar fd : AR) (i : Nat) (hi : i < 36) : CP l yX0_alike cX0_alike 5 (some .int) 1 22 x [.ref (xa x k), .int (nI i)] ar fd (fun r => r = alI (ar (k + 1)) i) := by
  refine zsP (own := RX0) rfl (by decide +kernel) (Nat.le_of_ble_eq_true rfl) ?_
  intro p e s m below meth c ls E hs hl
  have hx := E.1
  have hb := E.2.1
  have hl : lv_has ls 5 [(0, .ref (xa x k)), (1, .int (nI i))] := hl
  refine lv_aload_n hx hb dX0_alike_0 rfl (lv_at hl 0 rfl) ?_
  refine lv_iload_n hx hb dX0_alike_1 rfl (lv_at hl 1 rfl) ?_
  refine zVP E hs lkX0_9 [] (c_X3_at l x k 36 hr ar fd (nI i)) (kd_lt hr.1 (by decide)) (sh2 hr.1) rfl ⟨Nat.le_of_ble_eq_true rfl, Nat.le_of_ble_eq_true rfl⟩ rfl hl.1 (Nat.le_of_ble_eq_true rfl) rfl dX0_alike_2 (fun r_1 H locs hp_2 hs => ?_)
  subst hp_2
  refine tp (b := ar (k + 1) i) (rowAt_n (by omega) (by decide)) ?_
  refine lv_istore_n (lv' := [(2, .int (ar (k + 1) i)), (0, .ref (xa x k)), (1, .int (nI i))]) hx hb dX0_alike_5 rfl hl (by decide) rfl (fun ls hl => ?_)
  refine lv_iload_n hx hb dX0_alike_6 rfl (lv_at hl 0 rfl) ?_
  refine lv_iconst (v := (-1)) hx hb dX0_alike_7 (by decide) ?_
  refine lv_icmp_ne (tgt := 13) hx hb dX0_alike_8 (by decide) (fun c_3 => ?_) (fun c_3 => ?_)
  · refine lv_iconst (v := nI 0) hx hb dX0_alike_13 (by decide) ?_
    refine lv_istore_n (lv' := [(3, .int (nI 0)), (2, .int (ar (k + 1) i)), (0, .ref (xa x k)), (1, .int (nI i))]) hx hb dX0_alike_14 rfl hl (by decide) rfl (fun ls hl => ?_)
    refine lv_iconst (v := nI 0) hx hb dX0_alike_15 (by decide) ?_
    refine lv_istore (lv' := [(4, .int (nI 0)), (3, .int (nI 0)), (2, .int (ar (k + 1) i)), (0, .ref (xa x k)), (1, .int (nI i))]) hx hb dX0_alike_16 hl (by decide) rfl (fun ls hl => ?_)
    have L_4 : ∀ (mm : Nat) (t : Nat), (4 - t) < mm → (t ≤ 4) → ∀ (H : Heap) (locs : List Loc) (ls : Array Slot), ST x (AA x) s.heap ar fd H locs → lv_has ls 5 [(0, .ref (xa x k)), (1, .int (nI i)), (2, .int (ar (k + 1) i)), (3, .int (nI (ct (fun s => rowAt (ar (k + 1)) 36 (nb i s) = ar (k + 1) i) t))), (4, .int (nI t))] → W p l e (rmZ 1 22) s m ([.ref (xa x k), .int (nI i)] : List Value).toArray below meth c H locs 0 0 (QP below x [.ref (xa x k), .int (nI i)] ar fd s (fun r => r = alI (ar (k + 1)) i)) (F0 m 18 ls []) := by
      intro mm
      induction mm with
      | zero => intro t hmu; exact absurd hmu (Nat.not_lt_zero _)
      | succ mm ih_4 =>
        intro t hmu ht H locs ls hs hl
        refine lv_iload hx hb dX0_alike_18 (lv_at hl 4 rfl) ?_
        refine lv_iconst (v := nI 4) hx hb dX0_alike_20 (by decide) ?_
        refine lv_icmp_ge (tgt := 47) hx hb dX0_alike_21 (by decide) (fun c_5 => ?_) (fun c_5 => ?_)
        · have c_5 : 4 ≤ t := (nI_leI (a := 4) (b := t) (by omega) (by omega)).mp c_5
          refine lv_iload_n hx hb dX0_alike_47 rfl (lv_at hl 3 rfl) ?_
          exact zeP E hs (by unfold alI; rw [iz_f c_3, show t = 4 by omega]) dX0_alike_48
        · have c_5 : ¬ (4 ≤ t) := fun h => c_5 ((nI_leI (a := 4) (b := t) (by omega) (by omega)).mpr h)
          refine lv_aload_n hx hb dX0_alike_24 rfl (lv_at hl 0 rfl) ?_
          refine lv_iload_n hx hb dX0_alike_25 rfl (lv_at hl 1 rfl) ?_
          refine lv_iload hx hb dX0_alike_26 (lv_at hl 4 rfl) ?_
          refine zSP E hs lkX0_15 [.ref (xa x k)] (c_X0_behind l x ar fd i t (by omega) (by omega)) ⟨Nat.le_of_ble_eq_true rfl, Nat.le_of_ble_eq_true rfl⟩ rfl hl.1 (Nat.le_of_ble_eq_true rfl) rfl dX0_alike_28 (fun r_6 H locs hp_7 hs => ?_)
          subst hp_7
          refine zVP E hs lkX0_9 [] (c_X3_at l x k 36 hr ar fd (nb i t)) (kd_lt hr.1 (by decide)) (sh2 hr.1) rfl ⟨Nat.le_of_ble_eq_true rfl, Nat.le_of_ble_eq_true rfl⟩ rfl hl.1 (Nat.le_of_ble_eq_true rfl) rfl dX0_alike_31 (fun r_8 H locs hp_9 hs => ?_)
          subst hp_9
          refine lv_iload_n hx hb dX0_alike_34 rfl (lv_at hl 2 rfl) ?_
          refine lv_icmp_ne (tgt := 41) hx hb dX0_alike_35 (by decide) (fun c_10 => ?_) (fun c_10 => ?_)
          · refine lv_iinc (v := nI (t + 1)) (lv' := [(4, .int (nI (t + 1))), (0, .ref (xa x k)), (1, .int (nI i)), (2, .int (ar (k + 1) i)), (3, .int (nI (ct (fun s => rowAt (ar (k + 1)) 36 (nb i s) = ar (k + 1) i) t)))]) hx hb dX0_alike_41 hl (k := 4) rfl (nI_inc _) (by decide) rfl (fun ls hl => ?_)
            refine lv_goto (tgt := 18) hx hb dX0_alike_44 (by decide) ?_
            exact ih_4 (t + 1) (by omega) (by omega) _ _ _ hs (lvr (lv_at hl 1 rfl) (lvr (lv_at hl 2 rfl) (lvr (lv_at hl 3 rfl) (lvc (lv_at hl 4 rfl) (by rw [ct_f (P := (fun s => rowAt (ar (k + 1)) 36 (nb i s) = ar (k + 1) i)) c_10]) (lvr (lv_at hl 0 rfl) (lvn hl))))))
          · refine lv_iinc (v := nI (ct (fun s => rowAt (ar (k + 1)) 36 (nb i s) = ar (k + 1) i) t + 1)) (lv' := [(3, .int (nI (ct (fun s => rowAt (ar (k + 1)) 36 (nb i s) = ar (k + 1) i) t + 1))), (0, .ref (xa x k)), (1, .int (nI i)), (2, .int (ar (k + 1) i)), (4, .int (nI t))]) hx hb dX0_alike_38 hl (k := 3) rfl (nI_inc _) (by decide) rfl (fun ls hl => ?_)
            refine lv_iinc (v := nI (t + 1)) (lv' := [(4, .int (nI (t + 1))), (3, .int (nI (ct (fun s => rowAt (ar (k + 1)) 36 (nb i s) = ar (k + 1) i) t + 1))), (0, .ref (xa x k)), (1, .int (nI i)), (2, .int (ar (k + 1) i))]) hx hb dX0_alike_41 hl (k := 4) rfl (nI_inc _) (by decide) rfl (fun ls hl => ?_)
            refine lv_goto (tgt := 18) hx hb dX0_alike_44 (by decide) ?_
            exact ih_4 (t + 1) (by omega) (by omega) _ _ _ hs (lvr (lv_at hl 2 rfl) (lvr (lv_at hl 3 rfl) (lvr (lv_at hl 4 rfl) (lvc (lv_at hl 1 rfl) (by rw [ct_t (P := (fun s => rowAt (ar (k + 1)) 36 (nb i s) = ar (k + 1) i)) c_10]) (lvr (lv_at hl 0 rfl) (lvn hl))))))
    exact L_4 (_ + 1) 0 (Nat.lt_succ_self _) (by omega) _ _ _ hs (lvr (lv_at hl 3 rfl) (lvr (lv_at hl 4 rfl) (lvr (lv_at hl 2 rfl) (lvr (lv_at hl 1 rfl) (lvr (lv_at hl 0 rfl) (lvn hl))))))
  · refine lv_iconst (v := nI 0) hx hb dX0_alike_11 (by decide) ?_
    exact zeP E hs (iz_t c_3).symm dX0_alike_12

set_option maxHeartbeats 4000000 in
set_option maxRecDepth 100000 in
/-- Areas.borders -/
theorem c_X0_borders (l : Launch) (x : CT) (k : Nat) (hr : RO k 36) (ar fd : AR) (v : Int32) : CP l yX0_borders cX0_borders 4 (some .int) 2 46 x [.ref (xa x k), .int v] ar fd (fun r => r = bdI (ar (k + 1)) v) := by
  refine zsP (own := RX0) rfl (by decide +kernel) (Nat.le_of_ble_eq_true rfl) ?_
  intro p e s m below meth c ls E hs hl
  have hx := E.1
  have hb := E.2.1
  have hl : lv_has ls 4 [(0, .ref (xa x k)), (1, .int v)] := hl
  refine lv_iconst (v := nI 0) hx hb dX0_borders_0 (by decide) ?_
  refine lv_istore_n (lv' := [(2, .int (nI 0)), (0, .ref (xa x k)), (1, .int v)]) hx hb dX0_borders_1 rfl hl (by decide) rfl (fun ls hl => ?_)
  refine lv_iconst (v := nI 0) hx hb dX0_borders_2 (by decide) ?_
  refine lv_istore_n (lv' := [(3, .int (nI 0)), (2, .int (nI 0)), (0, .ref (xa x k)), (1, .int v)]) hx hb dX0_borders_3 rfl hl (by decide) rfl (fun ls hl => ?_)
  have L_1 : ∀ (mm : Nat) (i : Nat), (36 - i) < mm → (i ≤ 36) → ∀ (H : Heap) (locs : List Loc) (ls : Array Slot), ST x (AA x) s.heap ar fd H locs → lv_has ls 4 [(0, .ref (xa x k)), (1, .int v), (2, .int (smI (fun c => iz (ar (k + 1) c = v) (nI 4 - alI (ar (k + 1)) c) 0) i)), (3, .int (nI i))] → W p l e (rmZ 2 46) s m ([.ref (xa x k), .int v] : List Value).toArray below meth c H locs 0 0 (QP below x [.ref (xa x k), .int v] ar fd s (fun r => r = bdI (ar (k + 1)) v)) (F0 m 4 ls []) := by
    intro mm
    induction mm with
    | zero => intro i hmu; exact absurd hmu (Nat.not_lt_zero _)
    | succ mm ih_1 =>
      intro i hmu hi H locs ls hs hl
      refine lv_iload_n hx hb dX0_borders_4 rfl (lv_at hl 3 rfl) ?_
      refine lv_bipush (v := nI 36) hx hb dX0_borders_5 (by decide) ?_
      refine lv_icmp_ge (tgt := 35) hx hb dX0_borders_7 (by decide) (fun c_2 => ?_) (fun c_2 => ?_)
      · have c_2 : 36 ≤ i := (nI_leI (a := 36) (b := i) (by omega) (by omega)).mp c_2
        refine lv_iload_n hx hb dX0_borders_35 rfl (lv_at hl 2 rfl) ?_
        exact zeP E hs (by rw [show i = 36 by omega]; rfl) dX0_borders_36
      · have c_2 : ¬ (36 ≤ i) := fun h => c_2 ((nI_leI (a := 36) (b := i) (by omega) (by omega)).mpr h)
        refine lv_aload_n hx hb dX0_borders_10 rfl (lv_at hl 0 rfl) ?_
        refine lv_iload_n hx hb dX0_borders_11 rfl (lv_at hl 3 rfl) ?_
        refine zVP E hs lkX0_9 [] (c_X3_at l x k 36 hr ar fd (nI i)) (kd_lt hr.1 (by decide)) (sh2 hr.1) rfl ⟨Nat.le_of_ble_eq_true rfl, Nat.le_of_ble_eq_true rfl⟩ rfl hl.1 (Nat.le_of_ble_eq_true rfl) rfl dX0_borders_12 (fun r_3 H locs hp_4 hs => ?_)
        subst hp_4
        refine tp (b := ar (k + 1) i) (rowAt_n (by omega) (by decide)) ?_
        refine lv_iload_n hx hb dX0_borders_15 rfl (lv_at hl 1 rfl) ?_
        refine lv_icmp_ne (tgt := 29) hx hb dX0_borders_16 (by decide) (fun c_5 => ?_) (fun c_5 => ?_)
        · refine lv_iinc (v := nI (i + 1)) (lv' := [(3, .int (nI (i + 1))), (0, .ref (xa x k)), (1, .int v), (2, .int (smI (fun c => iz (ar (k + 1) c = v) (nI 4 - alI (ar (k + 1)) c) 0) i))]) hx hb dX0_borders_29 hl (k := 3) rfl (nI_inc _) (by decide) rfl (fun ls hl => ?_)
          refine lv_goto (tgt := 4) hx hb dX0_borders_32 (by decide) ?_
          exact ih_1 (i + 1) (by omega) (by omega) _ _ _ hs (lvr (lv_at hl 1 rfl) (lvr (lv_at hl 2 rfl) (lvc (lv_at hl 3 rfl) (by rw [smI_s, iz_f c_5, Int32.add_zero]) (lvr (lv_at hl 0 rfl) (lvn hl)))))
        · refine lv_iload_n hx hb dX0_borders_19 rfl (lv_at hl 2 rfl) ?_
          refine lv_iconst (v := nI 4) hx hb dX0_borders_20 (by decide) ?_
          refine lv_aload_n hx hb dX0_borders_21 rfl (lv_at hl 0 rfl) ?_
          refine lv_iload_n hx hb dX0_borders_22 rfl (lv_at hl 3 rfl) ?_
          refine zSP E hs lkX0_21 [.int (nI 4), .int (smI (fun c => iz (ar (k + 1) c = v) (nI 4 - alI (ar (k + 1)) c) 0) i)] (c_X0_alike l x k hr ar fd i (by omega)) ⟨Nat.le_of_ble_eq_true rfl, Nat.le_of_ble_eq_true rfl⟩ rfl hl.1 (Nat.le_of_ble_eq_true rfl) rfl dX0_borders_23 (fun r_6 H locs hp_7 hs => ?_)
          subst hp_7
          refine lv_isub hx hb dX0_borders_26 ?_
          refine lv_iadd hx hb dX0_borders_27 ?_
          refine lv_istore_n (lv' := [(2, .int ((smI (fun c => iz (ar (k + 1) c = v) (nI 4 - alI (ar (k + 1)) c) 0) i) + ((nI 4) - (alI (ar (k + 1)) i)))), (0, .ref (xa x k)), (1, .int v), (3, .int (nI i))]) hx hb dX0_borders_28 rfl hl (by decide) rfl (fun ls hl => ?_)
          refine lv_iinc (v := nI (i + 1)) (lv' := [(3, .int (nI (i + 1))), (2, .int ((smI (fun c => iz (ar (k + 1) c = v) (nI 4 - alI (ar (k + 1)) c) 0) i) + ((nI 4) - (alI (ar (k + 1)) i)))), (0, .ref (xa x k)), (1, .int v)]) hx hb dX0_borders_29 hl (k := 3) rfl (nI_inc _) (by decide) rfl (fun ls hl => ?_)
          refine lv_goto (tgt := 4) hx hb dX0_borders_32 (by decide) ?_
          exact ih_1 (i + 1) (by omega) (by omega) _ _ _ hs (lvr (lv_at hl 2 rfl) (lvr (lv_at hl 3 rfl) (lvc (lv_at hl 1 rfl) (by rw [smI_s, iz_t c_5]) (lvr (lv_at hl 0 rfl) (lvn hl)))))
  exact L_1 (_ + 1) 0 (Nat.lt_succ_self _) (by omega) _ _ _ hs (lvr (lv_at hl 2 rfl) (lvr (lv_at hl 3 rfl) (lvc (lv_at hl 1 rfl) nI_0 (lvr (lv_at hl 0 rfl) (lvn hl)))))

set_option maxHeartbeats 4000000 in
set_option maxRecDepth 100000 in
/-- Areas.votes -/
theorem c_X0_votes (l : Launch) (x : CT) (k : Nat) (hr : RO k 36) (k2 : Nat) (hr2 : RO k2 36) (ar fd : AR) (v : Int32) : CP l yX0_votes cX0_votes 5 (some .int) 1 21 x [.ref (xa x k), .int v, .ref (xa x k2)] ar fd (fun r => r = vtI (ar (k + 1)) v (ar (k2 + 1))) := by
  refine zsP (own := RX0) rfl (by decide +kernel) (Nat.le_of_ble_eq_true rfl) ?_
  intro p e s m below meth c ls E hs hl
  have hx := E.1
  have hb := E.2.1
  have hl : lv_has ls 5 [(0, .ref (xa x k)), (1, .int v), (2, .ref (xa x k2))] := hl
  refine lv_iconst (v := nI 0) hx hb dX0_votes_0 (by decide) ?_
  refine lv_istore_n (lv' := [(3, .int (nI 0)), (0, .ref (xa x k)), (1, .int v), (2, .ref (xa x k2))]) hx hb dX0_votes_1 rfl hl (by decide) rfl (fun ls hl => ?_)
  refine lv_iconst (v := nI 0) hx hb dX0_votes_2 (by decide) ?_
  refine lv_istore (lv' := [(4, .int (nI 0)), (3, .int (nI 0)), (0, .ref (xa x k)), (1, .int v), (2, .ref (xa x k2))]) hx hb dX0_votes_3 hl (by decide) rfl (fun ls hl => ?_)
  have L_1 : ∀ (mm : Nat) (i : Nat), (36 - i) < mm → (i ≤ 36) → ∀ (H : Heap) (locs : List Loc) (ls : Array Slot), ST x (AA x) s.heap ar fd H locs → lv_has ls 5 [(0, .ref (xa x k)), (1, .int v), (2, .ref (xa x k2)), (3, .int (smI (fun c => iz (ar (k + 1) c = v) (ar (k2 + 1) c) 0) i)), (4, .int (nI i))] → W p l e (rmZ 1 21) s m ([.ref (xa x k), .int v, .ref (xa x k2)] : List Value).toArray below meth c H locs 0 0 (QP below x [.ref (xa x k), .int v, .ref (xa x k2)] ar fd s (fun r => r = vtI (ar (k + 1)) v (ar (k2 + 1)))) (F0 m 5 ls []) := by
    intro mm
    induction mm with
    | zero => intro i hmu; exact absurd hmu (Nat.not_lt_zero _)
    | succ mm ih_1 =>
      intro i hmu hi H locs ls hs hl
      refine lv_iload hx hb dX0_votes_5 (lv_at hl 4 rfl) ?_
      refine lv_bipush (v := nI 36) hx hb dX0_votes_7 (by decide) ?_
      refine lv_icmp_ge (tgt := 37) hx hb dX0_votes_9 (by decide) (fun c_2 => ?_) (fun c_2 => ?_)
      · have c_2 : 36 ≤ i := (nI_leI (a := 36) (b := i) (by omega) (by omega)).mp c_2
        refine lv_iload_n hx hb dX0_votes_37 rfl (lv_at hl 3 rfl) ?_
        exact zeP E hs (by rw [show i = 36 by omega]; rfl) dX0_votes_38
      · have c_2 : ¬ (36 ≤ i) := fun h => c_2 ((nI_leI (a := 36) (b := i) (by omega) (by omega)).mpr h)
        refine lv_aload_n hx hb dX0_votes_12 rfl (lv_at hl 0 rfl) ?_
        refine lv_iload hx hb dX0_votes_13 (lv_at hl 4 rfl) ?_
        refine zVP E hs lkX0_9 [] (c_X3_at l x k 36 hr ar fd (nI i)) (kd_lt hr.1 (by decide)) (sh2 hr.1) rfl ⟨Nat.le_of_ble_eq_true rfl, Nat.le_of_ble_eq_true rfl⟩ rfl hl.1 (Nat.le_of_ble_eq_true rfl) rfl dX0_votes_15 (fun r_3 H locs hp_4 hs => ?_)
        subst hp_4
        refine tp (b := ar (k + 1) i) (rowAt_n (by omega) (by decide)) ?_
        refine lv_iload_n hx hb dX0_votes_18 rfl (lv_at hl 1 rfl) ?_
        refine lv_icmp_ne (tgt := 31) hx hb dX0_votes_19 (by decide) (fun c_5 => ?_) (fun c_5 => ?_)
        · refine lv_iinc (v := nI (i + 1)) (lv' := [(4, .int (nI (i + 1))), (0, .ref (xa x k)), (1, .int v), (2, .ref (xa x k2)), (3, .int (smI (fun c => iz (ar (k + 1) c = v) (ar (k2 + 1) c) 0) i))]) hx hb dX0_votes_31 hl (k := 4) rfl (nI_inc _) (by decide) rfl (fun ls hl => ?_)
          refine lv_goto (tgt := 5) hx hb dX0_votes_34 (by decide) ?_
          exact ih_1 (i + 1) (by omega) (by omega) _ _ _ hs (lvr (lv_at hl 1 rfl) (lvr (lv_at hl 2 rfl) (lvr (lv_at hl 3 rfl) (lvc (lv_at hl 4 rfl) (by rw [smI_s, iz_f c_5, Int32.add_zero]) (lvr (lv_at hl 0 rfl) (lvn hl))))))
        · refine lv_iload_n hx hb dX0_votes_22 rfl (lv_at hl 3 rfl) ?_
          refine lv_aload_n hx hb dX0_votes_23 rfl (lv_at hl 2 rfl) ?_
          refine lv_iload hx hb dX0_votes_24 (lv_at hl 4 rfl) ?_
          refine zVP E hs lkX0_9 [.int (smI (fun c => iz (ar (k + 1) c = v) (ar (k2 + 1) c) 0) i)] (c_X3_at l x k2 36 hr2 ar fd (nI i)) (kd_lt hr2.1 (by decide)) (sh2 hr2.1) rfl ⟨Nat.le_of_ble_eq_true rfl, Nat.le_of_ble_eq_true rfl⟩ rfl hl.1 (Nat.le_of_ble_eq_true rfl) rfl dX0_votes_26 (fun r_6 H locs hp_7 hs => ?_)
          subst hp_7
          refine tp (b := ar (k2 + 1) i) (rowAt_n (by omega) (by decide)) ?_
          refine lv_iadd hx hb dX0_votes_29 ?_
          refine lv_istore_n (lv' := [(3, .int ((smI (fun c => iz (ar (k + 1) c = v) (ar (k2 + 1) c) 0) i) + (ar (k2 + 1) i))), (0, .ref (xa x k)), (1, .int v), (2, .ref (xa x k2)), (4, .int (nI i))]) hx hb dX0_votes_30 rfl hl (by decide) rfl (fun ls hl => ?_)
          refine lv_iinc (v := nI (i + 1)) (lv' := [(4, .int (nI (i + 1))), (3, .int ((smI (fun c => iz (ar (k + 1) c = v) (ar (k2 + 1) c) 0) i) + (ar (k2 + 1) i))), (0, .ref (xa x k)), (1, .int v), (2, .ref (xa x k2))]) hx hb dX0_votes_31 hl (k := 4) rfl (nI_inc _) (by decide) rfl (fun ls hl => ?_)
          refine lv_goto (tgt := 5) hx hb dX0_votes_34 (by decide) ?_
          exact ih_1 (i + 1) (by omega) (by omega) _ _ _ hs (lvr (lv_at hl 2 rfl) (lvr (lv_at hl 3 rfl) (lvr (lv_at hl 4 rfl) (lvc (lv_at hl 1 rfl) (by rw [smI_s, iz_t c_5]) (lvr (lv_at hl 0 rfl) (lvn hl))))))
  exact L_1 (_ + 1) 0 (Nat.lt_succ_self _) (by omega) _ _ _ hs (lvr (lv_at hl 2 rfl) (lvr (lv_at hl 3 rfl) (lvr (lv_at hl 4 rfl) (lvc (lv_at hl 1 rfl) nI_0 (lvr (lv_at hl 0 rfl) (lvn hl))))))
