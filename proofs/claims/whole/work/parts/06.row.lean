set_option maxHeartbeats 4000000 in
set_option maxRecDepth 100000 in
/-- Row.at -/
theorem c_X3_at (l : Launch) (x : CT) (k n : Nat) (hr : RO k n) (ar fd : AR) (a : Int32) : CP l yX3_at cX3_at 2 (some .int) 0 0 x [.ref (xa x k), .int a] ar fd (fun r => r = rowAt (ar (k + 1)) n a) := by
  refine zsP (own := RX3) rfl (by decide +kernel) (Nat.le_of_ble_eq_true rfl) ?_
  intro p e s m below meth c ls E hs hl
  have hx := E.1
  have hb := E.2.1
  have hl : lv_has ls 2 [(0, .ref (xa x k)), (1, .int a)] := hl
  have hn31 := hr.2.2.2
  refine lv_iload_n hx hb dX3_at_0 rfl (lv_at hl 1 rfl) ?_
  refine lv_if_lt (tgt := 22) hx hb dX3_at_1 (by decide) (fun c_1 => ?_) (fun c_1 => ?_)
  · refine lv_iconst (v := (-1)) hx hb dX3_at_22 (by decide) ?_
    exact zeP E hs (by unfold rowAt; rw [iz_t c_1]) dX3_at_23
  · refine lv_iload_n hx hb dX3_at_4 rfl (lv_at hl 1 rfl) ?_
    refine lv_aload_n hx hb dX3_at_5 rfl (lv_at hl 0 rfl) ?_
    refine zg2 E hs (k := k) hr.1 0 (by decide) rfl q_30 dX3_at_6 ?_
    refine zalen E hs (k + 1) (n := n) hr.2.1 hr.2.2.1 dX3_at_9 ?_
    refine lv_icmp_ge (tgt := 22) hx hb dX3_at_10 (by decide) (fun c_2 => ?_) (fun c_2 => ?_)
    · refine lv_iconst (v := (-1)) hx hb dX3_at_22 (by decide) ?_
      exact zeP E hs (by unfold rowAt; rw [iz_f c_1, iz_t c_2]) dX3_at_23
    · obtain ⟨j, hj, rfl⟩ := in_nI c_1 c_2 hr.2.2.2
      refine lv_aload_n hx hb dX3_at_13 rfl (lv_at hl 0 rfl) ?_
      refine zg2 E hs (k := k) hr.1 0 (by decide) rfl q_30 dX3_at_14 ?_
      refine lv_iload_n hx hb dX3_at_17 rfl (lv_at hl 1 rfl) ?_
      refine zald E hs (k + 1) (n := n) (j := j) hr.2.1 hr.2.2.1 (by omega) hr.2.2.2 dX3_at_18 ?_
      refine lv_goto (tgt := 23) hx hb dX3_at_19 (by decide) ?_
      exact zeP E hs (rowAt_n hj hn31).symm dX3_at_23

set_option maxHeartbeats 4000000 in
set_option maxRecDepth 100000 in
/-- Row.put -/
theorem c_X3_put (l : Launch) (x : CT) (k n : Nat) (hr : RO k n) (ar fd : AR) (a v : Int32) : CV l yX3_put cX3_put 3 0 0 x [.ref (xa x k), .int a, .int v] ar fd (fun ar' fd' => ar' = zu ar (k + 1) (rowPut (ar (k + 1)) n a v) ∧ fd' = fd) := by
  refine zsV (own := RX3) rfl (by decide +kernel) (Nat.le_of_ble_eq_true rfl) ?_
  intro p e s m below meth c ls E hs hl
  have hx := E.1
  have hb := E.2.1
  have hl : lv_has ls 3 [(0, .ref (xa x k)), (1, .int a), (2, .int v)] := hl
  have hn31 := hr.2.2.2
  refine lv_iload_n hx hb dX3_put_0 rfl (lv_at hl 1 rfl) ?_
  refine lv_if_lt (tgt := 20) hx hb dX3_put_1 (by decide) (fun c_1 => ?_) (fun c_1 => ?_)
  · exact zeV E hs ⟨by unfold rowPut; rw [iz_t c_1, zu_id], rfl⟩ dX3_put_20
  · refine lv_iload_n hx hb dX3_put_4 rfl (lv_at hl 1 rfl) ?_
    refine lv_aload_n hx hb dX3_put_5 rfl (lv_at hl 0 rfl) ?_
    refine zg2 E hs (k := k) hr.1 0 (by decide) rfl q_30 dX3_put_6 ?_
    refine zalen E hs (k + 1) (n := n) hr.2.1 hr.2.2.1 dX3_put_9 ?_
    refine lv_icmp_ge (tgt := 20) hx hb dX3_put_10 (by decide) (fun c_2 => ?_) (fun c_2 => ?_)
    · exact zeV E hs ⟨by unfold rowPut; rw [iz_f c_1, iz_t c_2, zu_id], rfl⟩ dX3_put_20
    · obtain ⟨j, hj, rfl⟩ := in_nI c_1 c_2 hr.2.2.2
      refine lv_aload_n hx hb dX3_put_13 rfl (lv_at hl 0 rfl) ?_
      refine zg2 E hs (k := k) hr.1 0 (by decide) rfl q_30 dX3_put_14 ?_
      refine lv_iload_n hx hb dX3_put_17 rfl (lv_at hl 1 rfl) ?_
      refine lv_iload_n hx hb dX3_put_18 rfl (lv_at hl 2 rfl) ?_
      refine zast E hs (k + 1) (n := n) (j := j) hr.2.1 hr.2.2.1 (by omega) hr.2.2.2 dX3_put_19 (fun H locs hs => ?_)
      exact zeV E hs ⟨by rw [rowPut_n hj hn31], rfl⟩ dX3_put_20

set_option maxHeartbeats 4000000 in
set_option maxRecDepth 100000 in
/-- Row.fill -/
theorem c_X3_fill (l : Launch) (x : CT) (k n : Nat) (hr : RO k n) (ar fd : AR) (v : Int32) : CV l yX3_fill cX3_fill 3 0 0 x [.ref (xa x k), .int v] ar fd (fun ar' fd' => ar' = zu ar (k + 1) (fun _ => v) ∧ fd' = fd) := by
  refine zsV (own := RX3) rfl (by decide +kernel) (Nat.le_of_ble_eq_true rfl) ?_
  intro p e s m below meth c ls E hs hl
  have hx := E.1
  have hb := E.2.1
  have hl : lv_has ls 3 [(0, .ref (xa x k)), (1, .int v)] := hl
  have hn31 := hr.2.2.2
  refine lv_iconst (v := nI 0) hx hb dX3_fill_0 (by decide) ?_
  refine lv_istore_n (lv' := [(2, .int (nI 0)), (0, .ref (xa x k)), (1, .int v)]) hx hb dX3_fill_1 rfl hl (by decide) rfl (fun ls hl => ?_)
  have L_1 : ∀ (mm : Nat) (i : Nat) (ar1 : AR), (n - i) < mm → (i ≤ n) → (∀ j, j < i → ar1 (k + 1) j = v) → (∀ q, q ≠ k + 1 → ar1 q = ar q) → ∀ (H : Heap) (locs : List Loc) (ls : Array Slot), ST x (AA x) s.heap ar1 fd H locs → lv_has ls 3 [(0, .ref (xa x k)), (1, .int v), (2, .int (nI i))] → W p l e (rmZ 0 0) s m ([.ref (xa x k), .int v] : List Value).toArray below meth c H locs 0 0 (QV below x [.ref (xa x k), .int v] s (fun ar' fd' => ar' = zu ar (k + 1) (fun _ => v) ∧ fd' = fd)) (F0 m 2 ls []) := by
    intro mm
    induction mm with
    | zero => intro i ar1 hmu; exact absurd hmu (Nat.not_lt_zero _)
    | succ mm ih_1 =>
      intro i ar1 hmu hi h1 h2 H locs ls hs hl
      refine lv_iload_n hx hb dX3_fill_2 rfl (lv_at hl 2 rfl) ?_
      refine lv_aload_n hx hb dX3_fill_3 rfl (lv_at hl 0 rfl) ?_
      refine zg2 E hs (k := k) hr.1 0 (by decide) rfl q_30 dX3_fill_4 ?_
      refine zalen E hs (k + 1) (n := n) hr.2.1 hr.2.2.1 dX3_fill_7 ?_
      refine lv_icmp_ge (tgt := 24) hx hb dX3_fill_8 (by decide) (fun c_2 => ?_) (fun c_2 => ?_)
      · have c_2 : n ≤ i := (nI_leI (a := n) (b := i) (by omega) (by omega)).mp c_2
        have hs : ST x (AA x) s.heap (zu ar (k + 1) (fun _ => v)) fd H locs := ⟨wl_ext hs.1 (fun q _ i2 hi2 => by
          by_cases e : q = k + 1
          · subst e; rw [zu_s]; exact (h1 i2 (by have := hr.2.2.1; omega)).symm
          · rw [zu_n _ _ e, h2 q e]), hs.2⟩
        exact zeV E hs ⟨rfl, rfl⟩ dX3_fill_24
      · have c_2 : ¬ (n ≤ i) := fun h => c_2 ((nI_leI (a := n) (b := i) (by omega) (by omega)).mpr h)
        refine lv_aload_n hx hb dX3_fill_11 rfl (lv_at hl 0 rfl) ?_
        refine zg2 E hs (k := k) hr.1 0 (by decide) rfl q_30 dX3_fill_12 ?_
        refine lv_iload_n hx hb dX3_fill_15 rfl (lv_at hl 2 rfl) ?_
        refine lv_iload_n hx hb dX3_fill_16 rfl (lv_at hl 1 rfl) ?_
        refine zast E hs (k + 1) (n := n) (j := i) hr.2.1 hr.2.2.1 (by omega) hr.2.2.2 dX3_fill_17 (fun H locs hs => ?_)
        refine lv_iinc (v := nI (i + 1)) (lv' := [(2, .int (nI (i + 1))), (0, .ref (xa x k)), (1, .int v)]) hx hb dX3_fill_18 hl (k := 2) rfl (nI_inc _) (by decide) rfl (fun ls hl => ?_)
        refine lv_goto (tgt := 2) hx hb dX3_fill_21 (by decide) ?_
        exact ih_1 (i + 1) (zu ar1 (k + 1) (zu (ar1 (k + 1)) i v)) (by omega) (by omega) (fun j hj => by
              rw [zu_s]
              by_cases e : j = i
              · rw [e, zu_s]
              · rw [zu_n _ _ e]; exact h1 j (by omega)) (fun q hq => by rw [zu_n _ _ hq]; exact h2 q hq) _ _ _ hs (lvr (lv_at hl 1 rfl) (lvr (lv_at hl 2 rfl) (lvr (lv_at hl 0 rfl) (lvn hl))))
  exact L_1 (_ + 1) 0 ar (Nat.lt_succ_self _) (by omega) (fun _ h => absurd h (Nat.not_lt_zero _)) (fun _ _ => rfl) _ _ _ hs (lvr (lv_at hl 1 rfl) (lvr (lv_at hl 2 rfl) (lvr (lv_at hl 0 rfl) (lvn hl))))

set_option maxHeartbeats 4000000 in
set_option maxRecDepth 100000 in
/-- Row.copy -/
theorem c_X3_copy (l : Launch) (x : CT) (k k2 n : Nat) (hr : RO k n) (hr2 : RO k2 n) (hne : k ≠ k2) (ar fd : AR) : CV l yX3_copy cX3_copy 3 1 21 x [.ref (xa x k), .ref (xa x k2)] ar fd (fun ar' fd' => ar' = zu ar (k + 1) (ar (k2 + 1)) ∧ fd' = fd) := by
  refine zsV (own := RX3) rfl (by decide +kernel) (Nat.le_of_ble_eq_true rfl) ?_
  intro p e s m below meth c ls E hs hl
  have hx := E.1
  have hb := E.2.1
  have hl : lv_has ls 3 [(0, .ref (xa x k)), (1, .ref (xa x k2))] := hl
  have hn31 := hr.2.2.2
  refine lv_iconst (v := nI 0) hx hb dX3_copy_0 (by decide) ?_
  refine lv_istore_n (lv' := [(2, .int (nI 0)), (0, .ref (xa x k)), (1, .ref (xa x k2))]) hx hb dX3_copy_1 rfl hl (by decide) rfl (fun ls hl => ?_)
  have L_1 : ∀ (mm : Nat) (i : Nat) (ar1 : AR), (n - i) < mm → (i ≤ n) → (∀ j, j < i → ar1 (k + 1) j = ar (k2 + 1) j) → (∀ q, q ≠ k + 1 → ar1 q = ar q) → ∀ (H : Heap) (locs : List Loc) (ls : Array Slot), ST x (AA x) s.heap ar1 fd H locs → lv_has ls 3 [(0, .ref (xa x k)), (1, .ref (xa x k2)), (2, .int (nI i))] → W p l e (rmZ 1 21) s m ([.ref (xa x k), .ref (xa x k2)] : List Value).toArray below meth c H locs 0 0 (QV below x [.ref (xa x k), .ref (xa x k2)] s (fun ar' fd' => ar' = zu ar (k + 1) (ar (k2 + 1)) ∧ fd' = fd)) (F0 m 2 ls []) := by
    intro mm
    induction mm with
    | zero => intro i ar1 hmu; exact absurd hmu (Nat.not_lt_zero _)
    | succ mm ih_1 =>
      intro i ar1 hmu hi h1 h2 H locs ls hs hl
      refine lv_iload_n hx hb dX3_copy_2 rfl (lv_at hl 2 rfl) ?_
      refine lv_aload_n hx hb dX3_copy_3 rfl (lv_at hl 0 rfl) ?_
      refine zg2 E hs (k := k) hr.1 0 (by decide) rfl q_30 dX3_copy_4 ?_
      refine zalen E hs (k + 1) (n := n) hr.2.1 hr.2.2.1 dX3_copy_7 ?_
      refine lv_icmp_ge (tgt := 28) hx hb dX3_copy_8 (by decide) (fun c_2 => ?_) (fun c_2 => ?_)
      · have c_2 : n ≤ i := (nI_leI (a := n) (b := i) (by omega) (by omega)).mp c_2
        have hs : ST x (AA x) s.heap (zu ar (k + 1) (ar (k2 + 1))) fd H locs := ⟨wl_ext hs.1 (fun q _ i2 hi2 => by
          by_cases e : q = k + 1
          · subst e; rw [zu_s]; exact (h1 i2 (by have := hr.2.2.1; omega)).symm
          · rw [zu_n _ _ e, h2 q e]), hs.2⟩
        exact zeV E hs ⟨rfl, rfl⟩ dX3_copy_28
      · have c_2 : ¬ (n ≤ i) := fun h => c_2 ((nI_leI (a := n) (b := i) (by omega) (by omega)).mpr h)
        refine lv_aload_n hx hb dX3_copy_11 rfl (lv_at hl 0 rfl) ?_
        refine zg2 E hs (k := k) hr.1 0 (by decide) rfl q_30 dX3_copy_12 ?_
        refine lv_iload_n hx hb dX3_copy_15 rfl (lv_at hl 2 rfl) ?_
        refine lv_aload_n hx hb dX3_copy_16 rfl (lv_at hl 1 rfl) ?_
        refine lv_iload_n hx hb dX3_copy_17 rfl (lv_at hl 2 rfl) ?_
        refine zVP E hs lkX3_15 [.int (nI i), .ref (xa x (k + 1))] (c_X3_at l x k2 n hr2 ar1 fd (nI i)) (kd_lt hr2.1 (by decide)) (sh2 hr2.1) rfl ⟨Nat.le_of_ble_eq_true rfl, Nat.le_of_ble_eq_true rfl⟩ rfl hl.1 (Nat.le_of_ble_eq_true rfl) rfl dX3_copy_18 (fun r_3 H locs hp_4 hs => ?_)
        subst hp_4
        refine tp (b := ar1 (k2 + 1) i) (rowAt_n (by omega) hr.2.2.2) ?_
        refine zast E hs (k + 1) (n := n) (j := i) hr.2.1 hr.2.2.1 (by omega) hr.2.2.2 dX3_copy_21 (fun H locs hs => ?_)
        refine lv_iinc (v := nI (i + 1)) (lv' := [(2, .int (nI (i + 1))), (0, .ref (xa x k)), (1, .ref (xa x k2))]) hx hb dX3_copy_22 hl (k := 2) rfl (nI_inc _) (by decide) rfl (fun ls hl => ?_)
        refine lv_goto (tgt := 2) hx hb dX3_copy_25 (by decide) ?_
        exact ih_1 (i + 1) (zu ar1 (k + 1) (zu (ar1 (k + 1)) i (ar1 (k2 + 1) i))) (by omega) (by omega) (fun j hj => by
              rw [zu_s]
              by_cases e : j = i
              · rw [e, zu_s, h2 (k2 + 1) (by omega)]
              · rw [zu_n _ _ e]; exact h1 j (by omega)) (fun q hq => by rw [zu_n _ _ hq]; exact h2 q hq) _ _ _ hs (lvr (lv_at hl 1 rfl) (lvr (lv_at hl 2 rfl) (lvr (lv_at hl 0 rfl) (lvn hl))))
  exact L_1 (_ + 1) 0 ar (Nat.lt_succ_self _) (by omega) (fun _ h => absurd h (Nat.not_lt_zero _)) (fun _ _ => rfl) _ _ _ hs (lvr (lv_at hl 1 rfl) (lvr (lv_at hl 2 rfl) (lvr (lv_at hl 0 rfl) (lvn hl))))

set_option maxHeartbeats 4000000 in
set_option maxRecDepth 100000 in
/-- Row.isLike -/
theorem c_X3_isLike (l : Launch) (x : CT) (k k2 n : Nat) (hr : RO k n) (hr2 : RO k2 n) (ar fd : AR) : CP l yX3_isLike cX3_isLike 3 (some .boolean) 1 21 x [.ref (xa x k), .ref (xa x k2)] ar fd (fun r => r = bz (∀ i, i < n → ar (k + 1) i = ar (k2 + 1) i)) := by
  refine zsP (own := RX3) rfl (by decide +kernel) (Nat.le_of_ble_eq_true rfl) ?_
  intro p e s m below meth c ls E hs hl
  have hx := E.1
  have hb := E.2.1
  have hl : lv_has ls 3 [(0, .ref (xa x k)), (1, .ref (xa x k2))] := hl
  have hn31 := hr.2.2.2
  refine lv_iconst (v := nI 0) hx hb dX3_isLike_0 (by decide) ?_
  refine lv_istore_n (lv' := [(2, .int (nI 0)), (0, .ref (xa x k)), (1, .ref (xa x k2))]) hx hb dX3_isLike_1 rfl hl (by decide) rfl (fun ls hl => ?_)
  have L_1 : ∀ (mm : Nat) (i : Nat), (n - i) < mm → (i ≤ n) → (∀ j, j < i → ar (k + 1) j = ar (k2 + 1) j) → ∀ (H : Heap) (locs : List Loc) (ls : Array Slot), ST x (AA x) s.heap ar fd H locs → lv_has ls 3 [(0, .ref (xa x k)), (1, .ref (xa x k2)), (2, .int (nI i))] → W p l e (rmZ 1 21) s m ([.ref (xa x k), .ref (xa x k2)] : List Value).toArray below meth c H locs 0 0 (QP below x [.ref (xa x k), .ref (xa x k2)] ar fd s (fun r => r = bz (∀ i, i < n → ar (k + 1) i = ar (k2 + 1) i))) (F0 m 2 ls []) := by
    intro mm
    induction mm with
    | zero => intro i hmu; exact absurd hmu (Nat.not_lt_zero _)
    | succ mm ih_1 =>
      intro i hmu hi h1 H locs ls hs hl
      refine lv_iload_n hx hb dX3_isLike_2 rfl (lv_at hl 2 rfl) ?_
      refine lv_aload_n hx hb dX3_isLike_3 rfl (lv_at hl 0 rfl) ?_
      refine zg2 E hs (k := k) hr.1 0 (by decide) rfl q_30 dX3_isLike_4 ?_
      refine zalen E hs (k + 1) (n := n) hr.2.1 hr.2.2.1 dX3_isLike_7 ?_
      refine lv_icmp_ge (tgt := 33) hx hb dX3_isLike_8 (by decide) (fun c_2 => ?_) (fun c_2 => ?_)
      · have c_2 : n ≤ i := (nI_leI (a := n) (b := i) (by omega) (by omega)).mp c_2
        refine lv_iconst (v := nI 1) hx hb dX3_isLike_33 (by decide) ?_
        exact zePn E hs rfl (bz_t (fun j hj => h1 j (by omega))).symm dX3_isLike_34
      · have c_2 : ¬ (n ≤ i) := fun h => c_2 ((nI_leI (a := n) (b := i) (by omega) (by omega)).mpr h)
        refine lv_aload_n hx hb dX3_isLike_11 rfl (lv_at hl 0 rfl) ?_
        refine zg2 E hs (k := k) hr.1 0 (by decide) rfl q_30 dX3_isLike_12 ?_
        refine lv_iload_n hx hb dX3_isLike_15 rfl (lv_at hl 2 rfl) ?_
        refine zald E hs (k + 1) (n := n) (j := i) hr.2.1 hr.2.2.1 (by omega) hr.2.2.2 dX3_isLike_16 ?_
        refine lv_aload_n hx hb dX3_isLike_17 rfl (lv_at hl 1 rfl) ?_
        refine lv_iload_n hx hb dX3_isLike_18 rfl (lv_at hl 2 rfl) ?_
        refine zVP E hs lkX3_15 [.int (ar (k + 1) i)] (c_X3_at l x k2 n hr2 ar fd (nI i)) (kd_lt hr2.1 (by decide)) (sh2 hr2.1) rfl ⟨Nat.le_of_ble_eq_true rfl, Nat.le_of_ble_eq_true rfl⟩ rfl hl.1 (Nat.le_of_ble_eq_true rfl) rfl dX3_isLike_19 (fun r_3 H locs hp_4 hs => ?_)
        subst hp_4
        refine tp (b := ar (k2 + 1) i) (rowAt_n (by omega) hr.2.2.2) ?_
        refine lv_icmp_eq (tgt := 27) hx hb dX3_isLike_22 (by decide) (fun c_5 => ?_) (fun c_5 => ?_)
        · refine lv_iinc (v := nI (i + 1)) (lv' := [(2, .int (nI (i + 1))), (0, .ref (xa x k)), (1, .ref (xa x k2))]) hx hb dX3_isLike_27 hl (k := 2) rfl (nI_inc _) (by decide) rfl (fun ls hl => ?_)
          refine lv_goto (tgt := 2) hx hb dX3_isLike_30 (by decide) ?_
          exact ih_1 (i + 1) (by omega) (by omega) (fun j hj => by
                by_cases e : j = i
                · rw [e]; exact c_5
                · exact h1 j (by omega)) _ _ _ hs (lvr (lv_at hl 1 rfl) (lvr (lv_at hl 2 rfl) (lvr (lv_at hl 0 rfl) (lvn hl))))
        · refine lv_iconst (v := nI 0) hx hb dX3_isLike_25 (by decide) ?_
          exact zePn E hs rfl (bz_f (fun h => c_5 (h i (by omega)))).symm dX3_isLike_26
  exact L_1 (_ + 1) 0 (Nat.lt_succ_self _) (by omega) (fun _ h => absurd h (Nat.not_lt_zero _)) _ _ _ hs (lvr (lv_at hl 1 rfl) (lvr (lv_at hl 2 rfl) (lvr (lv_at hl 0 rfl) (lvn hl))))

set_option maxHeartbeats 4000000 in
set_option maxRecDepth 100000 in
/-- Row.sum -/
theorem c_X3_sum (l : Launch) (x : CT) (k n : Nat) (hr : RO k n) (ar fd : AR) : CP l yX3_sum cX3_sum 3 (some .int) 0 0 x [.ref (xa x k)] ar fd (fun r => r = smI (ar (k + 1)) n) := by
  refine zsP (own := RX3) rfl (by decide +kernel) (Nat.le_of_ble_eq_true rfl) ?_
  intro p e s m below meth c ls E hs hl
  have hx := E.1
  have hb := E.2.1
  have hl : lv_has ls 3 [(0, .ref (xa x k))] := hl
  have hn31 := hr.2.2.2
  refine lv_iconst (v := nI 0) hx hb dX3_sum_0 (by decide) ?_
  refine lv_istore_n (lv' := [(1, .int (nI 0)), (0, .ref (xa x k))]) hx hb dX3_sum_1 rfl hl (by decide) rfl (fun ls hl => ?_)
  refine lv_iconst (v := nI 0) hx hb dX3_sum_2 (by decide) ?_
  refine lv_istore_n (lv' := [(2, .int (nI 0)), (1, .int (nI 0)), (0, .ref (xa x k))]) hx hb dX3_sum_3 rfl hl (by decide) rfl (fun ls hl => ?_)
  have L_1 : ∀ (mm : Nat) (i : Nat), (n - i) < mm → (i ≤ n) → ∀ (H : Heap) (locs : List Loc) (ls : Array Slot), ST x (AA x) s.heap ar fd H locs → lv_has ls 3 [(0, .ref (xa x k)), (1, .int (smI (ar (k + 1)) i)), (2, .int (nI i))] → W p l e (rmZ 0 0) s m ([.ref (xa x k)] : List Value).toArray below meth c H locs 0 0 (QP below x [.ref (xa x k)] ar fd s (fun r => r = smI (ar (k + 1)) n)) (F0 m 4 ls []) := by
    intro mm
    induction mm with
    | zero => intro i hmu; exact absurd hmu (Nat.not_lt_zero _)
    | succ mm ih_1 =>
      intro i hmu hi H locs ls hs hl
      refine lv_iload_n hx hb dX3_sum_4 rfl (lv_at hl 2 rfl) ?_
      refine lv_aload_n hx hb dX3_sum_5 rfl (lv_at hl 0 rfl) ?_
      refine zg2 E hs (k := k) hr.1 0 (by decide) rfl q_30 dX3_sum_6 ?_
      refine zalen E hs (k + 1) (n := n) hr.2.1 hr.2.2.1 dX3_sum_9 ?_
      refine lv_icmp_ge (tgt := 28) hx hb dX3_sum_10 (by decide) (fun c_2 => ?_) (fun c_2 => ?_)
      · have c_2 : n ≤ i := (nI_leI (a := n) (b := i) (by omega) (by omega)).mp c_2
        refine lv_iload_n hx hb dX3_sum_28 rfl (lv_at hl 1 rfl) ?_
        exact zeP E hs (by rw [show n = i by omega]) dX3_sum_29
      · have c_2 : ¬ (n ≤ i) := fun h => c_2 ((nI_leI (a := n) (b := i) (by omega) (by omega)).mpr h)
        refine lv_iload_n hx hb dX3_sum_13 rfl (lv_at hl 1 rfl) ?_
        refine lv_aload_n hx hb dX3_sum_14 rfl (lv_at hl 0 rfl) ?_
        refine zg2 E hs (k := k) hr.1 0 (by decide) rfl q_30 dX3_sum_15 ?_
        refine lv_iload_n hx hb dX3_sum_18 rfl (lv_at hl 2 rfl) ?_
        refine zald E hs (k + 1) (n := n) (j := i) hr.2.1 hr.2.2.1 (by omega) hr.2.2.2 dX3_sum_19 ?_
        refine lv_iadd hx hb dX3_sum_20 ?_
        refine lv_istore_n (lv' := [(1, .int ((smI (ar (k + 1)) i) + (ar (k + 1) i))), (0, .ref (xa x k)), (2, .int (nI i))]) hx hb dX3_sum_21 rfl hl (by decide) rfl (fun ls hl => ?_)
        refine lv_iinc (v := nI (i + 1)) (lv' := [(2, .int (nI (i + 1))), (1, .int ((smI (ar (k + 1)) i) + (ar (k + 1) i))), (0, .ref (xa x k))]) hx hb dX3_sum_22 hl (k := 2) rfl (nI_inc _) (by decide) rfl (fun ls hl => ?_)
        refine lv_goto (tgt := 4) hx hb dX3_sum_25 (by decide) ?_
        exact ih_1 (i + 1) (by omega) (by omega) _ _ _ hs (lvr (lv_at hl 2 rfl) (lvc (lv_at hl 1 rfl) (smI_s _ _).symm (lvr (lv_at hl 0 rfl) (lvn hl))))
  exact L_1 (_ + 1) 0 (Nat.lt_succ_self _) (by omega) _ _ _ hs (lvr (lv_at hl 2 rfl) (lvc (lv_at hl 1 rfl) nI_0 (lvr (lv_at hl 0 rfl) (lvn hl))))
