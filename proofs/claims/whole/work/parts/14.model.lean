
/-! the model: its row (cell 103) holds the state (A, B), as the class has it in its blocks' places; its answers in the class's words -/
def ME (g : Nat → Int32) (A : AR) (F : Nat → Int32) (w f : Nat) : Prop :=
  (∀ c, c < 36 → g (2 * c) = A 3 c) ∧ (∀ c, c < 36 → g (2 * c + 1) = A 5 c) ∧ (∀ c, c < 36 → g (79 + c) = A 7 c) ∧ (∀ c, c < 36 → g (115 + c) = A 9 c) ∧ (∀ d, d < f → g (187 + d) = A 13 d) ∧ g (73 + 0) = A 15 0 ∧ g (73 + 1) = A 15 1 ∧ g 72 = nI w ∧ g 77 = nI f ∧ g 76 = F 9 ∧ g 75 = F 10 ∧ f ≤ w ∧ w ≤ 9 ∧ 2 ≤ w ∧ (∀ c, c < 36 → ¬ A 7 c < -1) ∧ (∀ c, c < 36 → ¬ A 9 c < -1)
theorem vk_0 : vk (nI 0) = 2 := iz_t nI_0
theorem vk_1 : vk (nI 1) = 4 := iz_f (by decide)
theorem me_v {g : Nat → Int32} {A : AR} {F : Nat → Int32} {w f pt : Nat} (h : ME g A F w f) (hp : pt < 2) : ∀ c, c < 36 → g (2 * c + pt) = A (vk (nI pt) + 1) c := by
  intro c hc
  rcases (show pt = 0 ∨ pt = 1 by omega) with rfl | rfl
  · rw [vk_0]; exact h.1 c hc
  · rw [vk_1]; exact h.2.1 c hc
theorem me_t {g : Nat → Int32} {A : AR} {F : Nat → Int32} {w f pt : Nat} (h : ME g A F w f) (hp : pt < 2) : g (73 + pt) = A 15 pt := by
  rcases (show pt = 0 ∨ pt = 1 by omega) with rfl | rfl
  · exact h.2.2.2.2.2.1
  · exact h.2.2.2.2.2.2.1
theorem lt_iI {a b : Int32} : a < b ↔ a.toInt < b.toInt := Int32.lt_iff_toInt_lt
theorem le_iI {a b : Int32} : a ≤ b ↔ a.toInt ≤ b.toInt := Int32.le_iff_toInt_le
theorem eq_iI {a b : Int32} : a = b ↔ a.toInt = b.toInt := Int32.toInt_inj.symm
theorem t_m1 : (-1 : Int32).toInt = -1 := by decide
theorem t_z : (0 : Int32).toInt = 0 := by decide
theorem ge_m1 {x : Int32} (h : ¬ x < -1) : x = -1 ↔ ¬ 0 ≤ x := by
  rw [lt_iI, t_m1] at h
  rw [eq_iI, le_iI, t_m1, t_z]
  omega
theorem ge_m2 {x : Int32} (h : ¬ x < -1) : x = -1 ↔ x < 0 := by
  rw [lt_iI, t_m1] at h
  rw [eq_iI, lt_iI, t_m1, t_z]
  omega
theorem nnI_n {i : Nat} (h : i < 2 ^ 31) : nnI (nI i) = nI i := iz_f (nI_nm h)
theorem nnI_m : nnI (-1) = -5 := iz_t rfl
theorem nnI_ge {x : Int32} (h : 0 ≤ x) : nnI x = x := iz_f (fun e => by rw [e] at h; exact absurd h (by decide))
theorem wn_0 {m : Int32} (h : ¬ m ≤ 0) : wnI m = nI 0 := by
  unfold wnI
  rw [iz_f (fun e => h (by rw [e]; exact Int32.le_refl _)), iz_f h]
theorem wn_1 {m : Int32} (h : m ≤ 0) (h2 : ¬ 0 ≤ m) : wnI m = nI 1 := by
  unfold wnI
  rw [iz_f (fun e => h2 (by rw [e]; exact Int32.le_refl _)), iz_t h]
theorem wn_2 {m : Int32} (h : m ≤ 0) (h2 : 0 ≤ m) : wnI m = nI 2 := iz_t (Int32.le_antisymm h h2)
/-- the model's sides in the class's order -/
def pm (s : Nat) : Nat := if s = 0 then 0 else if s = 1 then 2 else if s = 2 then 3 else 1
def beV (c s : Nat) : Int32 :=
  if ¬ nI (c / 6) + (if s = 0 then -1 else if s = 1 then nI 1 else nI 0) < nI 0 ∧ ¬ nI 5 < nI (c / 6) + (if s = 0 then -1 else if s = 1 then nI 1 else nI 0) then
    (if ¬ nI (c % 6) + (if s = 2 then -1 else if s = 3 then nI 1 else nI 0) < nI 0 ∧ ¬ nI 5 < nI (c % 6) + (if s = 2 then -1 else if s = 3 then nI 1 else nI 0) then
      nI 6 * (nI (c / 6) + (if s = 0 then -1 else if s = 1 then nI 1 else nI 0)) + (nI (c % 6) + (if s = 2 then -1 else if s = 3 then nI 1 else nI 0)) else -1) else -1
theorem be_ok : ∀ c, c < 36 → ∀ s, s < 4 → beV c s = nb c (pm s) := by decide +kernel
theorem pm_4 {s : Nat} (h : s < 4) : pm s < 4 := by
  rcases (show s = 0 ∨ s = 1 ∨ s = 2 ∨ s = 3 by omega) with rfl | rfl | rfl | rfl <;> decide
theorem pm_on : ∀ s, s < 4 → ∃ t, t < 4 ∧ pm t = s := by
  intro s h
  rcases (show s = 0 ∨ s = 1 ∨ s = 2 ∨ s = 3 by omega) with rfl | rfl | rfl | rfl
  · exact ⟨0, by decide, rfl⟩
  · exact ⟨3, by decide, rfl⟩
  · exact ⟨1, by decide, rfl⟩
  · exact ⟨2, by decide, rfl⟩
theorem ct_pm (P : Nat → Prop) : ct (fun s => P (pm s)) 4 = ct P 4 := by
  show (((0 + iz (P (pm 0)) 1 0) + iz (P (pm 1)) 1 0) + iz (P (pm 2)) 1 0) + iz (P (pm 3)) 1 0 = (((0 + iz (P 0) 1 0) + iz (P 1) 1 0) + iz (P 2) 1 0) + iz (P 3) 1 0
  rw [show pm 0 = 0 from rfl, show pm 1 = 2 from rfl, show pm 2 = 3 from rfl, show pm 3 = 1 from rfl]
  omega
theorem ct_not (P : Nat → Prop) (n : Nat) : ct (fun s => ¬ P s) n + ct P n = n := by
  induction n with
  | zero => rfl
  | succ n ih =>
    by_cases h : P n
    · rw [ct_t h, ct_f (P := fun s => ¬ P s) (not_not_intro h)]; omega
    · rw [ct_f h, ct_t (P := fun s => ¬ P s) h]; omega
/-- fewer scratch rows: what was read, tried, seen -/
def JM (ar ar' : AR) : Prop := ∀ k, k ≠ 109 → ar' k = ar k
theorem JM.rf (ar : AR) : JM ar ar := fun _ _ => rfl
theorem JM.tr {a b c : AR} (h : JM a b) (h2 : JM b c) : JM a c := fun k h1 => (h2 k h1).trans (h k h1)

set_option maxHeartbeats 4000000 in
set_option maxRecDepth 100000 in
/-- in -/
theorem c_X7_in (l : Launch) (x : CT) (ar fd : AR) (v lo hi : Int32) : CP l yX7_in cX7_in 3 (some .boolean) 0 0 x [.int v, .int lo, .int hi] ar fd (fun r => r = bz (¬ v < lo ∧ ¬ hi < v)) := by
  refine zsP (own := RX7) rfl (by decide +kernel) (Nat.le_of_ble_eq_true rfl) ?_
  intro p e s m below meth c ls E hs hl
  have hx := E.1
  have hb := E.2.1
  have hl : lv_has ls 3 [(0, .int v), (1, .int lo), (2, .int hi)] := hl
  refine lv_iload_n hx hb dX7_in_0 rfl (lv_at hl 0 rfl) ?_
  refine lv_iload_n hx hb dX7_in_1 rfl (lv_at hl 1 rfl) ?_
  refine lv_icmp_lt (tgt := 14) hx hb dX7_in_2 (by decide) (fun c_1 => ?_) (fun c_1 => ?_)
  · refine lv_iconst (v := nI 0) hx hb dX7_in_14 (by decide) ?_
    exact zePn E hs rfl (bz_f (fun h => h.1 c_1)).symm dX7_in_15
  · refine lv_iload_n hx hb dX7_in_5 rfl (lv_at hl 0 rfl) ?_
    refine lv_iload_n hx hb dX7_in_6 rfl (lv_at hl 2 rfl) ?_
    refine lv_icmp_gt (tgt := 14) hx hb dX7_in_7 (by decide) (fun c_2 => ?_) (fun c_2 => ?_)
    · refine lv_iconst (v := nI 0) hx hb dX7_in_14 (by decide) ?_
      exact zePn E hs rfl (bz_f (fun h => h.2 c_2)).symm dX7_in_15
    · refine lv_iconst (v := nI 1) hx hb dX7_in_10 (by decide) ?_
      refine lv_goto (tgt := 15) hx hb dX7_in_11 (by decide) ?_
      exact zePn E hs rfl (bz_t ⟨c_1, c_2⟩).symm dX7_in_15

set_option maxHeartbeats 4000000 in
set_option maxRecDepth 100000 in
/-- noCell -/
theorem c_X7_noCell (l : Launch) (x : CT) (ar fd : AR) (v : Int32) : CP l yX7_noCell cX7_noCell 1 (some .boolean) 1 22 x [.int v] ar fd (fun r => r = bz (¬ (¬ v < nI 0 ∧ ¬ nI 35 < v))) := by
  refine zsP (own := RX7) rfl (by decide +kernel) (Nat.le_of_ble_eq_true rfl) ?_
  intro p e s m below meth c ls E hs hl
  have hx := E.1
  have hb := E.2.1
  have hl : lv_has ls 1 [(0, .int v)] := hl
  refine lv_iload_n hx hb dX7_noCell_0 rfl (lv_at hl 0 rfl) ?_
  refine lv_iconst (v := nI 0) hx hb dX7_noCell_1 (by decide) ?_
  refine lv_bipush (v := nI 35) hx hb dX7_noCell_2 (by decide) ?_
  refine zSP E hs lkX7_36 [] (c_X7_in l x ar fd v (nI 0) (nI 35)) ⟨Nat.le_of_ble_eq_true rfl, Nat.le_of_ble_eq_true rfl⟩ rfl hl.1 (Nat.le_of_ble_eq_true rfl) rfl dX7_noCell_4 (fun r_1 H locs hp_2 hs => ?_)
  subst hp_2
  refine lv_if_ne (tgt := 14) hx hb dX7_noCell_7 (by decide) (fun c_3 => ?_) (fun c_3 => ?_)
  · have c_3 : ¬ v < nI 0 ∧ ¬ nI 35 < v := bz_1 c_3
    refine lv_iconst (v := nI 0) hx hb dX7_noCell_14 (by decide) ?_
    exact zePn E hs rfl (bz_f (not_not_intro c_3)).symm dX7_noCell_15
  · have c_3 : ¬ (¬ v < nI 0 ∧ ¬ nI 35 < v) := bz_0 c_3
    refine lv_iconst (v := nI 1) hx hb dX7_noCell_10 (by decide) ?_
    refine lv_goto (tgt := 15) hx hb dX7_noCell_11 (by decide) ?_
    exact zePn E hs rfl (bz_t c_3).symm dX7_noCell_15

set_option maxHeartbeats 4000000 in
set_option maxRecDepth 100000 in
/-- size -/
theorem c_X7_size (l : Launch) (x : CT) (ar fd A B : AR) (w f : Nat) (hM : ME (ar 103) A (B 1) w f) : CP l yX7_size cX7_size 1 (some .int) 0 0 x [.ref (xa x 102)] ar fd (fun r => r = nI (36 / w)) := by
  refine zsP (own := RX7) rfl (by decide +kernel) (Nat.le_of_ble_eq_true rfl) ?_
  intro p e s m below meth c ls E hs hl
  have hx := E.1
  have hb := E.2.1
  have hl : lv_has ls 1 [(0, .ref (xa x 102))] := hl
  obtain ⟨hE1, hE2, hE3, hE4, hE5, hE6, hE7, hEw, hEf, hEc, hEs, hfw, hw9, hw2, hP, hD⟩ := id hM
  refine lv_bipush (v := nI 36) hx hb dX7_size_0 (by decide) ?_
  refine lv_aload_n hx hb dX7_size_2 rfl (lv_at hl 0 rfl) ?_
  refine zg6 E hs (k := 102) rfl 0 (by decide) rfl q_514 dX7_size_3 ?_
  refine lv_bipush (v := nI 72) hx hb dX7_size_6 (by decide) ?_
  refine zald E hs 103 (n := 196) (j := 72) rfl rfl (by omega) (by decide) dX7_size_8 ?_
  refine tp (b := nI w) hEw ?_
  refine lv_idiv hx hb dX7_size_9 (nI_ne0 (by omega) (by omega)) ?_
  refine tp (b := nI (36 / w)) (nI_div (by omega) (by omega)) ?_
  exact zeP E hs rfl dX7_size_10

set_option maxHeartbeats 4000000 in
set_option maxRecDepth 100000 in
/-- left -/
theorem c_X7_left (l : Launch) (x : CT) (ar fd A B : AR) (w f : Nat) (hM : ME (ar 103) A (B 1) w f) : CP l yX7_left cX7_left 1 (some .int) 0 0 x [.ref (xa x 102)] ar fd (fun r => r = nI (w - f)) := by
  refine zsP (own := RX7) rfl (by decide +kernel) (Nat.le_of_ble_eq_true rfl) ?_
  intro p e s m below meth c ls E hs hl
  have hx := E.1
  have hb := E.2.1
  have hl : lv_has ls 1 [(0, .ref (xa x 102))] := hl
  obtain ⟨hE1, hE2, hE3, hE4, hE5, hE6, hE7, hEw, hEf, hEc, hEs, hfw, hw9, hw2, hP, hD⟩ := id hM
  refine lv_aload_n hx hb dX7_left_0 rfl (lv_at hl 0 rfl) ?_
  refine zg6 E hs (k := 102) rfl 0 (by decide) rfl q_514 dX7_left_1 ?_
  refine lv_bipush (v := nI 72) hx hb dX7_left_4 (by decide) ?_
  refine zald E hs 103 (n := 196) (j := 72) rfl rfl (by omega) (by decide) dX7_left_6 ?_
  refine tp (b := nI w) hEw ?_
  refine lv_aload_n hx hb dX7_left_7 rfl (lv_at hl 0 rfl) ?_
  refine zg6 E hs (k := 102) rfl 0 (by decide) rfl q_514 dX7_left_8 ?_
  refine lv_bipush (v := nI 77) hx hb dX7_left_11 (by decide) ?_
  refine zald E hs 103 (n := 196) (j := 77) rfl rfl (by omega) (by decide) dX7_left_13 ?_
  refine tp (b := nI f) hEf ?_
  refine lv_isub hx hb dX7_left_14 ?_
  refine tp (b := nI (w - f)) (nI_sub (by omega)) ?_
  exact zeP E hs rfl dX7_left_15

set_option maxHeartbeats 4000000 in
set_option maxRecDepth 100000 in
/-- isOpen -/
theorem c_X7_isOpen (l : Launch) (x : CT) (ar fd A B : AR) (w f : Nat) (hM : ME (ar 103) A (B 1) w f) (i : Nat) (hi : i < 36) : CP l yX7_isOpen cX7_isOpen 2 (some .boolean) 0 0 x [.ref (xa x 102), .int (nI i)] ar fd (fun r => r = bz (A 9 i = -1)) := by
  refine zsP (own := RX7) rfl (by decide +kernel) (Nat.le_of_ble_eq_true rfl) ?_
  intro p e s m below meth c ls E hs hl
  have hx := E.1
  have hb := E.2.1
  have hl : lv_has ls 2 [(0, .ref (xa x 102)), (1, .int (nI i))] := hl
  obtain ⟨hE1, hE2, hE3, hE4, hE5, hE6, hE7, hEw, hEf, hEc, hEs, hfw, hw9, hw2, hP, hD⟩ := id hM
  refine lv_aload_n hx hb dX7_isOpen_0 rfl (lv_at hl 0 rfl) ?_
  refine zg6 E hs (k := 102) rfl 0 (by decide) rfl q_514 dX7_isOpen_1 ?_
  refine lv_bipush (v := nI 115) hx hb dX7_isOpen_4 (by decide) ?_
  refine lv_iload_n hx hb dX7_isOpen_6 rfl (lv_at hl 1 rfl) ?_
  refine lv_iadd hx hb dX7_isOpen_7 ?_
  refine tp (b := nI (115 + i)) (nI_add _ _) ?_
  refine zald E hs 103 (n := 196) (j := (115 + i)) rfl rfl (by omega) (by decide) dX7_isOpen_8 ?_
  refine tp (b := A 9 i) (hE4 _ (by omega)) ?_
  refine lv_if_ge (tgt := 16) hx hb dX7_isOpen_9 (by decide) (fun c_1 => ?_) (fun c_1 => ?_)
  · refine lv_iconst (v := nI 0) hx hb dX7_isOpen_16 (by decide) ?_
    exact zePn E hs rfl (bz_f (fun h => (ge_m1 (hD i hi)).mp h c_1)).symm dX7_isOpen_17
  · refine lv_iconst (v := nI 1) hx hb dX7_isOpen_12 (by decide) ?_
    refine lv_goto (tgt := 17) hx hb dX7_isOpen_13 (by decide) ?_
    exact zePn E hs rfl (bz_t ((ge_m1 (hD i hi)).mpr c_1)).symm dX7_isOpen_17

set_option maxHeartbeats 4000000 in
set_option maxRecDepth 100000 in
/-- noDraft -/
theorem c_X7_noDraft (l : Launch) (x : CT) (ar fd A B : AR) (w f : Nat) (hM : ME (ar 103) A (B 1) w f) : CP l yX7_noDraft cX7_noDraft 1 (some .boolean) 0 0 x [.ref (xa x 102)] ar fd (fun r => r = bz (¬ (B 1 10 = 0))) := by
  refine zsP (own := RX7) rfl (by decide +kernel) (Nat.le_of_ble_eq_true rfl) ?_
  intro p e s m below meth c ls E hs hl
  have hx := E.1
  have hb := E.2.1
  have hl : lv_has ls 1 [(0, .ref (xa x 102))] := hl
  obtain ⟨hE1, hE2, hE3, hE4, hE5, hE6, hE7, hEw, hEf, hEc, hEs, hfw, hw9, hw2, hP, hD⟩ := id hM
  refine lv_aload_n hx hb dX7_noDraft_0 rfl (lv_at hl 0 rfl) ?_
  refine zg6 E hs (k := 102) rfl 0 (by decide) rfl q_514 dX7_noDraft_1 ?_
  refine lv_bipush (v := nI 75) hx hb dX7_noDraft_4 (by decide) ?_
  refine zald E hs 103 (n := 196) (j := 75) rfl rfl (by omega) (by decide) dX7_noDraft_6 ?_
  refine tp (b := B 1 10) hEs ?_
  refine lv_if_eq (tgt := 14) hx hb dX7_noDraft_7 (by decide) (fun c_1 => ?_) (fun c_1 => ?_)
  · refine lv_iconst (v := nI 0) hx hb dX7_noDraft_14 (by decide) ?_
    exact zePn E hs rfl (bz_f (not_not_intro c_1)).symm dX7_noDraft_15
  · refine lv_iconst (v := nI 1) hx hb dX7_noDraft_10 (by decide) ?_
    refine lv_goto (tgt := 15) hx hb dX7_noDraft_11 (by decide) ?_
    exact zePn E hs rfl (bz_t c_1).symm dX7_noDraft_15

set_option maxHeartbeats 4000000 in
set_option maxRecDepth 100000 in
/-- cells -/
theorem c_X7_cells (l : Launch) (x : CT) (ar fd : AR) (kf : Nat) (hkf : kf + 36 ≤ 196) (G : Nat → Int32) (hG : ∀ c, c < 36 → ar 103 (kf + c) = G c) (v : Int32) : CP l yX7_cells cX7_cells 5 (some .int) 0 0 x [.ref (xa x 102), .int (nI kf), .int v] ar fd (fun r => r = nI (ct (fun i => G i = v) 36)) := by
  refine zsP (own := RX7) rfl (by decide +kernel) (Nat.le_of_ble_eq_true rfl) ?_
  intro p e s m below meth c ls E hs hl
  have hx := E.1
  have hb := E.2.1
  have hl : lv_has ls 5 [(0, .ref (xa x 102)), (1, .int (nI kf)), (2, .int v)] := hl
  refine lv_iconst (v := nI 0) hx hb dX7_cells_0 (by decide) ?_
  refine lv_istore_n (lv' := [(3, .int (nI 0)), (0, .ref (xa x 102)), (1, .int (nI kf)), (2, .int v)]) hx hb dX7_cells_1 rfl hl (by decide) rfl (fun ls hl => ?_)
  refine lv_iconst (v := nI 0) hx hb dX7_cells_2 (by decide) ?_
  refine lv_istore (lv' := [(4, .int (nI 0)), (3, .int (nI 0)), (0, .ref (xa x 102)), (1, .int (nI kf)), (2, .int v)]) hx hb dX7_cells_3 hl (by decide) rfl (fun ls hl => ?_)
  have L_1 : ∀ (mm : Nat) (i : Nat), (36 - i) < mm → (i ≤ 36) → ∀ (H : Heap) (locs : List Loc) (ls : Array Slot), ST x (AA x) s.heap ar fd H locs → lv_has ls 5 [(0, .ref (xa x 102)), (1, .int (nI kf)), (2, .int v), (3, .int (nI (ct (fun i => G i = v) i))), (4, .int (nI i))] → W p l e (rmZ 0 0) s m ([.ref (xa x 102), .int (nI kf), .int v] : List Value).toArray below meth c H locs 0 0 (QP below x [.ref (xa x 102), .int (nI kf), .int v] ar fd s (fun r => r = nI (ct (fun i => G i = v) 36))) (F0 m 5 ls []) := by
    intro mm
    induction mm with
    | zero => intro i hmu; exact absurd hmu (Nat.not_lt_zero _)
    | succ mm ih_1 =>
      intro i hmu hi H locs ls hs hl
      refine lv_iload hx hb dX7_cells_5 (lv_at hl 4 rfl) ?_
      refine lv_bipush (v := nI 36) hx hb dX7_cells_7 (by decide) ?_
      refine lv_icmp_ge (tgt := 39) hx hb dX7_cells_9 (by decide) (fun c_2 => ?_) (fun c_2 => ?_)
      · have c_2 : 36 ≤ i := (nI_leI (a := 36) (b := i) (by omega) (by omega)).mp c_2
        refine lv_iload_n hx hb dX7_cells_39 rfl (lv_at hl 3 rfl) ?_
        exact zeP E hs (by rw [show i = 36 by omega]) dX7_cells_40
      · have c_2 : ¬ (36 ≤ i) := fun h => c_2 ((nI_leI (a := 36) (b := i) (by omega) (by omega)).mpr h)
        refine lv_iload_n hx hb dX7_cells_12 rfl (lv_at hl 3 rfl) ?_
        refine lv_aload_n hx hb dX7_cells_13 rfl (lv_at hl 0 rfl) ?_
        refine zg6 E hs (k := 102) rfl 0 (by decide) rfl q_514 dX7_cells_14 ?_
        refine lv_iload_n hx hb dX7_cells_17 rfl (lv_at hl 1 rfl) ?_
        refine lv_iload hx hb dX7_cells_18 (lv_at hl 4 rfl) ?_
        refine lv_iadd hx hb dX7_cells_20 ?_
        refine tp (b := nI (kf + i)) (nI_add _ _) ?_
        refine zald E hs 103 (n := 196) (j := (kf + i)) rfl rfl (by omega) (by decide) dX7_cells_21 ?_
        refine tp (b := G i) (hG _ (by omega)) ?_
        refine lv_iload_n hx hb dX7_cells_22 rfl (lv_at hl 2 rfl) ?_
        refine lv_icmp_ne (tgt := 30) hx hb dX7_cells_23 (by decide) (fun c_3 => ?_) (fun c_3 => ?_)
        · refine lv_iconst (v := nI 0) hx hb dX7_cells_30 (by decide) ?_
          refine lv_iadd hx hb dX7_cells_31 ?_
          refine tp (b := nI ((ct (fun i => G i = v) i) + 0)) (nI_add _ _) ?_
          refine lv_istore_n (lv' := [(3, .int (nI ((ct (fun i => G i = v) i) + 0))), (0, .ref (xa x 102)), (1, .int (nI kf)), (2, .int v), (4, .int (nI i))]) hx hb dX7_cells_32 rfl hl (by decide) rfl (fun ls hl => ?_)
          refine lv_iinc (v := nI (i + 1)) (lv' := [(4, .int (nI (i + 1))), (3, .int (nI ((ct (fun i => G i = v) i) + 0))), (0, .ref (xa x 102)), (1, .int (nI kf)), (2, .int v)]) hx hb dX7_cells_33 hl (k := 4) rfl (nI_inc _) (by decide) rfl (fun ls hl => ?_)
          refine lv_goto (tgt := 5) hx hb dX7_cells_36 (by decide) ?_
          exact ih_1 (i + 1) (by omega) (by omega) _ _ _ hs (lvr (lv_at hl 2 rfl) (lvr (lv_at hl 3 rfl) (lvr (lv_at hl 4 rfl) (lvc (lv_at hl 1 rfl) (by rw [ct_f (P := (fun i => G i = v)) c_3, Nat.add_zero]) (lvr (lv_at hl 0 rfl) (lvn hl))))))
        · refine lv_iconst (v := nI 1) hx hb dX7_cells_26 (by decide) ?_
          refine lv_goto (tgt := 31) hx hb dX7_cells_27 (by decide) ?_
          refine lv_iadd hx hb dX7_cells_31 ?_
          refine tp (b := nI ((ct (fun i => G i = v) i) + 1)) (nI_add _ _) ?_
          refine lv_istore_n (lv' := [(3, .int (nI ((ct (fun i => G i = v) i) + 1))), (0, .ref (xa x 102)), (1, .int (nI kf)), (2, .int v), (4, .int (nI i))]) hx hb dX7_cells_32 rfl hl (by decide) rfl (fun ls hl => ?_)
          refine lv_iinc (v := nI (i + 1)) (lv' := [(4, .int (nI (i + 1))), (3, .int (nI ((ct (fun i => G i = v) i) + 1))), (0, .ref (xa x 102)), (1, .int (nI kf)), (2, .int v)]) hx hb dX7_cells_33 hl (k := 4) rfl (nI_inc _) (by decide) rfl (fun ls hl => ?_)
          refine lv_goto (tgt := 5) hx hb dX7_cells_36 (by decide) ?_
          exact ih_1 (i + 1) (by omega) (by omega) _ _ _ hs (lvr (lv_at hl 2 rfl) (lvr (lv_at hl 3 rfl) (lvr (lv_at hl 4 rfl) (lvc (lv_at hl 1 rfl) (by rw [ct_t (P := (fun i => G i = v)) c_3]) (lvr (lv_at hl 0 rfl) (lvn hl))))))
  exact L_1 (_ + 1) 0 (Nat.lt_succ_self _) (by omega) _ _ _ hs (lvr (lv_at hl 2 rfl) (lvr (lv_at hl 3 rfl) (lvr (lv_at hl 4 rfl) (lvr (lv_at hl 1 rfl) (lvr (lv_at hl 0 rfl) (lvn hl))))))

set_option maxHeartbeats 4000000 in
set_option maxRecDepth 100000 in
/-- lowest -/
theorem c_X7_lowest (l : Launch) (x : CT) (ar fd : AR) (kf : Nat) (hkf : kf + 36 ≤ 196) (G : Nat → Int32) (hG : ∀ c, c < 36 → ar 103 (kf + c) = G c) (v : Int32) : CP l yX7_lowest cX7_lowest 4 (some .int) 0 0 x [.ref (xa x 102), .int (nI kf), .int v] ar fd (fun r => r = nnI (ffst (fun i => G i = v) 36 0)) := by
  refine zsP (own := RX7) rfl (by decide +kernel) (Nat.le_of_ble_eq_true rfl) ?_
  intro p e s m below meth c ls E hs hl
  have hx := E.1
  have hb := E.2.1
  have hl : lv_has ls 4 [(0, .ref (xa x 102)), (1, .int (nI kf)), (2, .int v)] := hl
  refine lv_iconst (v := nI 0) hx hb dX7_lowest_0 (by decide) ?_
  refine lv_istore_n (lv' := [(3, .int (nI 0)), (0, .ref (xa x 102)), (1, .int (nI kf)), (2, .int v)]) hx hb dX7_lowest_1 rfl hl (by decide) rfl (fun ls hl => ?_)
  have L_1 : ∀ (mm : Nat) (i : Nat), (36 - i) < mm → (i ≤ 36) → (ffst (fun i => G i = v) 36 0 = ffst (fun i => G i = v) (36 - i) i) → ∀ (H : Heap) (locs : List Loc) (ls : Array Slot), ST x (AA x) s.heap ar fd H locs → lv_has ls 4 [(0, .ref (xa x 102)), (1, .int (nI kf)), (2, .int v), (3, .int (nI i))] → W p l e (rmZ 0 0) s m ([.ref (xa x 102), .int (nI kf), .int v] : List Value).toArray below meth c H locs 0 0 (QP below x [.ref (xa x 102), .int (nI kf), .int v] ar fd s (fun r => r = nnI (ffst (fun i => G i = v) 36 0))) (F0 m 2 ls []) := by
    intro mm
    induction mm with
    | zero => intro i hmu; exact absurd hmu (Nat.not_lt_zero _)
    | succ mm ih_1 =>
      intro i hmu hi h1 H locs ls hs hl
      refine lv_iload_n hx hb dX7_lowest_2 rfl (lv_at hl 3 rfl) ?_
      refine lv_bipush (v := nI 36) hx hb dX7_lowest_3 (by decide) ?_
      refine lv_icmp_ge (tgt := 28) hx hb dX7_lowest_5 (by decide) (fun c_2 => ?_) (fun c_2 => ?_)
      · have c_2 : 36 ≤ i := (nI_leI (a := 36) (b := i) (by omega) (by omega)).mp c_2
        refine lv_bipush (v := (-5)) hx hb dX7_lowest_28 (by decide) ?_
        exact zeP E hs (by rw [h1, ffst_e (by omega), nnI_m]) dX7_lowest_30
      · have c_2 : ¬ (36 ≤ i) := fun h => c_2 ((nI_leI (a := 36) (b := i) (by omega) (by omega)).mpr h)
        refine lv_aload_n hx hb dX7_lowest_8 rfl (lv_at hl 0 rfl) ?_
        refine zg6 E hs (k := 102) rfl 0 (by decide) rfl q_514 dX7_lowest_9 ?_
        refine lv_iload_n hx hb dX7_lowest_12 rfl (lv_at hl 1 rfl) ?_
        refine lv_iload_n hx hb dX7_lowest_13 rfl (lv_at hl 3 rfl) ?_
        refine lv_iadd hx hb dX7_lowest_14 ?_
        refine tp (b := nI (kf + i)) (nI_add _ _) ?_
        refine zald E hs 103 (n := 196) (j := (kf + i)) rfl rfl (by omega) (by decide) dX7_lowest_15 ?_
        refine tp (b := G i) (hG _ (by omega)) ?_
        refine lv_iload_n hx hb dX7_lowest_16 rfl (lv_at hl 2 rfl) ?_
        refine lv_icmp_ne (tgt := 22) hx hb dX7_lowest_17 (by decide) (fun c_3 => ?_) (fun c_3 => ?_)
        · refine lv_iinc (v := nI (i + 1)) (lv' := [(3, .int (nI (i + 1))), (0, .ref (xa x 102)), (1, .int (nI kf)), (2, .int v)]) hx hb dX7_lowest_22 hl (k := 3) rfl (nI_inc _) (by decide) rfl (fun ls hl => ?_)
          refine lv_goto (tgt := 2) hx hb dX7_lowest_25 (by decide) ?_
          exact ih_1 (i + 1) (by omega) (by omega) (h1.trans (ffst_f (by omega) c_3)) _ _ _ hs (lvr (lv_at hl 1 rfl) (lvr (lv_at hl 2 rfl) (lvr (lv_at hl 3 rfl) (lvr (lv_at hl 0 rfl) (lvn hl)))))
        · refine lv_iload_n hx hb dX7_lowest_20 rfl (lv_at hl 3 rfl) ?_
          exact zeP E hs (by rw [h1, ffst_t (by omega) c_3, nnI_n (by omega)]) dX7_lowest_21
  exact L_1 (_ + 1) 0 (Nat.lt_succ_self _) (by omega) rfl _ _ _ hs (lvr (lv_at hl 1 rfl) (lvr (lv_at hl 2 rfl) (lvr (lv_at hl 3 rfl) (lvr (lv_at hl 0 rfl) (lvn hl)))))

set_option maxHeartbeats 4000000 in
set_option maxRecDepth 100000 in
/-- votes -/
theorem c_X7_votes (l : Launch) (x : CT) (ar fd : AR) (kf : Nat) (hkf : kf + 36 ≤ 196) (G : Nat → Int32) (hG : ∀ c, c < 36 → ar 103 (kf + c) = G c) (pt : Nat) (hpt : pt < 2) (HH : Nat → Int32) (hH : ∀ c, c < 36 → ar 103 (2 * c + pt) = HH c) (v : Int32) : CP l yX7_votes cX7_votes 6 (some .int) 0 0 x [.ref (xa x 102), .int (nI kf), .int v, .int (nI pt)] ar fd (fun r => r = vtI G v HH) := by
  refine zsP (own := RX7) rfl (by decide +kernel) (Nat.le_of_ble_eq_true rfl) ?_
  intro p e s m below meth c ls E hs hl
  have hx := E.1
  have hb := E.2.1
  have hl : lv_has ls 6 [(0, .ref (xa x 102)), (1, .int (nI kf)), (2, .int v), (3, .int (nI pt))] := hl
  refine lv_iconst (v := nI 0) hx hb dX7_votes_0 (by decide) ?_
  refine lv_istore (lv' := [(4, .int (nI 0)), (0, .ref (xa x 102)), (1, .int (nI kf)), (2, .int v), (3, .int (nI pt))]) hx hb dX7_votes_1 hl (by decide) rfl (fun ls hl => ?_)
  refine lv_iconst (v := nI 0) hx hb dX7_votes_3 (by decide) ?_
  refine lv_istore (lv' := [(5, .int (nI 0)), (4, .int (nI 0)), (0, .ref (xa x 102)), (1, .int (nI kf)), (2, .int v), (3, .int (nI pt))]) hx hb dX7_votes_4 hl (by decide) rfl (fun ls hl => ?_)
  have L_1 : ∀ (mm : Nat) (i : Nat), (36 - i) < mm → (i ≤ 36) → ∀ (H : Heap) (locs : List Loc) (ls : Array Slot), ST x (AA x) s.heap ar fd H locs → lv_has ls 6 [(0, .ref (xa x 102)), (1, .int (nI kf)), (2, .int v), (3, .int (nI pt)), (4, .int (smI (fun c => iz (G c = v) (HH c) 0) i)), (5, .int (nI i))] → W p l e (rmZ 0 0) s m ([.ref (xa x 102), .int (nI kf), .int v, .int (nI pt)] : List Value).toArray below meth c H locs 0 0 (QP below x [.ref (xa x 102), .int (nI kf), .int v, .int (nI pt)] ar fd s (fun r => r = vtI G v HH)) (F0 m 6 ls []) := by
    intro mm
    induction mm with
    | zero => intro i hmu; exact absurd hmu (Nat.not_lt_zero _)
    | succ mm ih_1 =>
      intro i hmu hi H locs ls hs hl
      refine lv_iload hx hb dX7_votes_6 (lv_at hl 5 rfl) ?_
      refine lv_bipush (v := nI 36) hx hb dX7_votes_8 (by decide) ?_
      refine lv_icmp_ge (tgt := 52) hx hb dX7_votes_10 (by decide) (fun c_2 => ?_) (fun c_2 => ?_)
      · have c_2 : 36 ≤ i := (nI_leI (a := 36) (b := i) (by omega) (by omega)).mp c_2
        refine lv_iload hx hb dX7_votes_52 (lv_at hl 4 rfl) ?_
        exact zeP E hs (by rw [show i = 36 by omega]; rfl) dX7_votes_54
      · have c_2 : ¬ (36 ≤ i) := fun h => c_2 ((nI_leI (a := 36) (b := i) (by omega) (by omega)).mpr h)
        refine lv_iload hx hb dX7_votes_13 (lv_at hl 4 rfl) ?_
        refine lv_aload_n hx hb dX7_votes_15 rfl (lv_at hl 0 rfl) ?_
        refine zg6 E hs (k := 102) rfl 0 (by decide) rfl q_514 dX7_votes_16 ?_
        refine lv_iload_n hx hb dX7_votes_19 rfl (lv_at hl 1 rfl) ?_
        refine lv_iload hx hb dX7_votes_20 (lv_at hl 5 rfl) ?_
        refine lv_iadd hx hb dX7_votes_22 ?_
        refine tp (b := nI (kf + i)) (nI_add _ _) ?_
        refine zald E hs 103 (n := 196) (j := (kf + i)) rfl rfl (by omega) (by decide) dX7_votes_23 ?_
        refine tp (b := G i) (hG _ (by omega)) ?_
        refine lv_iload_n hx hb dX7_votes_24 rfl (lv_at hl 2 rfl) ?_
        refine lv_icmp_ne (tgt := 42) hx hb dX7_votes_25 (by decide) (fun c_3 => ?_) (fun c_3 => ?_)
        · refine lv_iconst (v := nI 0) hx hb dX7_votes_42 (by decide) ?_
          refine lv_iadd hx hb dX7_votes_43 ?_
          refine lv_istore (lv' := [(4, .int ((smI (fun c => iz (G c = v) (HH c) 0) i) + (nI 0))), (0, .ref (xa x 102)), (1, .int (nI kf)), (2, .int v), (3, .int (nI pt)), (5, .int (nI i))]) hx hb dX7_votes_44 hl (by decide) rfl (fun ls hl => ?_)
          refine lv_iinc (v := nI (i + 1)) (lv' := [(5, .int (nI (i + 1))), (4, .int ((smI (fun c => iz (G c = v) (HH c) 0) i) + (nI 0))), (0, .ref (xa x 102)), (1, .int (nI kf)), (2, .int v), (3, .int (nI pt))]) hx hb dX7_votes_46 hl (k := 5) rfl (nI_inc _) (by decide) rfl (fun ls hl => ?_)
          refine lv_goto (tgt := 6) hx hb dX7_votes_49 (by decide) ?_
          exact ih_1 (i + 1) (by omega) (by omega) _ _ _ hs (lvr (lv_at hl 2 rfl) (lvr (lv_at hl 3 rfl) (lvr (lv_at hl 4 rfl) (lvr (lv_at hl 5 rfl) (lvc (lv_at hl 1 rfl) (by rw [smI_s, iz_f c_3, nI_0]) (lvr (lv_at hl 0 rfl) (lvn hl)))))))
        · refine lv_aload_n hx hb dX7_votes_28 rfl (lv_at hl 0 rfl) ?_
          refine zg6 E hs (k := 102) rfl 0 (by decide) rfl q_514 dX7_votes_29 ?_
          refine lv_iconst (v := nI 2) hx hb dX7_votes_32 (by decide) ?_
          refine lv_iload hx hb dX7_votes_33 (lv_at hl 5 rfl) ?_
          refine lv_imul hx hb dX7_votes_35 ?_
          refine tp (b := nI (2 * i)) (nI_mul _ _) ?_
          refine lv_iload_n hx hb dX7_votes_36 rfl (lv_at hl 3 rfl) ?_
          refine lv_iadd hx hb dX7_votes_37 ?_
          refine tp (b := nI ((2 * i) + pt)) (nI_add _ _) ?_
          refine zald E hs 103 (n := 196) (j := ((2 * i) + pt)) rfl rfl (by omega) (by decide) dX7_votes_38 ?_
          refine tp (b := HH i) (hH _ (by omega)) ?_
          refine lv_goto (tgt := 43) hx hb dX7_votes_39 (by decide) ?_
          refine lv_iadd hx hb dX7_votes_43 ?_
          refine lv_istore (lv' := [(4, .int ((smI (fun c => iz (G c = v) (HH c) 0) i) + (HH i))), (0, .ref (xa x 102)), (1, .int (nI kf)), (2, .int v), (3, .int (nI pt)), (5, .int (nI i))]) hx hb dX7_votes_44 hl (by decide) rfl (fun ls hl => ?_)
          refine lv_iinc (v := nI (i + 1)) (lv' := [(5, .int (nI (i + 1))), (4, .int ((smI (fun c => iz (G c = v) (HH c) 0) i) + (HH i))), (0, .ref (xa x 102)), (1, .int (nI kf)), (2, .int v), (3, .int (nI pt))]) hx hb dX7_votes_46 hl (k := 5) rfl (nI_inc _) (by decide) rfl (fun ls hl => ?_)
          refine lv_goto (tgt := 6) hx hb dX7_votes_49 (by decide) ?_
          exact ih_1 (i + 1) (by omega) (by omega) _ _ _ hs (lvr (lv_at hl 2 rfl) (lvr (lv_at hl 3 rfl) (lvr (lv_at hl 4 rfl) (lvr (lv_at hl 5 rfl) (lvc (lv_at hl 1 rfl) (by rw [smI_s, iz_t c_3]) (lvr (lv_at hl 0 rfl) (lvn hl)))))))
  exact L_1 (_ + 1) 0 (Nat.lt_succ_self _) (by omega) _ _ _ hs (lvr (lv_at hl 2 rfl) (lvr (lv_at hl 3 rfl) (lvr (lv_at hl 4 rfl) (lvr (lv_at hl 5 rfl) (lvc (lv_at hl 1 rfl) nI_0 (lvr (lv_at hl 0 rfl) (lvn hl)))))))

set_option maxHeartbeats 4000000 in
set_option maxRecDepth 100000 in
/-- margin -/
theorem c_X7_margin (l : Launch) (x : CT) (ar fd A B : AR) (w f : Nat) (hM : ME (ar 103) A (B 1) w f) (kf : Nat) (hkf : kf + 36 ≤ 196) (kk : Nat) (hkk : ∀ c, c < 36 → ar 103 (kf + c) = A (kk + 1) c) (v : Int32) : CP l yX7_margin cX7_margin 3 (some .int) 1 25 x [.ref (xa x 102), .int (nI kf), .int v] ar fd (fun r => r = mg A kk v (nI 0)) := by
  refine zsP (own := RX7) rfl (by decide +kernel) (Nat.le_of_ble_eq_true rfl) ?_
  intro p e s m below meth c ls E hs hl
  have hx := E.1
  have hb := E.2.1
  have hl : lv_has ls 3 [(0, .ref (xa x 102)), (1, .int (nI kf)), (2, .int v)] := hl
  obtain ⟨hE1, hE2, hE3, hE4, hE5, hE6, hE7, hEw, hEf, hEc, hEs, hfw, hw9, hw2, hP, hD⟩ := id hM
  refine lv_aload_n hx hb dX7_margin_0 rfl (lv_at hl 0 rfl) ?_
  refine lv_iload_n hx hb dX7_margin_1 rfl (lv_at hl 1 rfl) ?_
  refine lv_iload_n hx hb dX7_margin_2 rfl (lv_at hl 2 rfl) ?_
  refine lv_iconst (v := nI 0) hx hb dX7_margin_3 (by decide) ?_
  refine zVP E hs lkX7_59 [] (c_X7_votes l x ar fd kf hkf (A (kk + 1)) hkk 0 (by omega) (A (vk (nI 0) + 1)) (me_v hM (by omega)) v) (by decide) (sh6 rfl) rfl ⟨Nat.le_of_ble_eq_true rfl, Nat.le_of_ble_eq_true rfl⟩ rfl hl.1 (Nat.le_of_ble_eq_true rfl) rfl dX7_margin_4 (fun r_1 H locs hp_2 hs => ?_)
  subst hp_2
  refine lv_aload_n hx hb dX7_margin_7 rfl (lv_at hl 0 rfl) ?_
  refine lv_iload_n hx hb dX7_margin_8 rfl (lv_at hl 1 rfl) ?_
  refine lv_iload_n hx hb dX7_margin_9 rfl (lv_at hl 2 rfl) ?_
  refine lv_iconst (v := nI 1) hx hb dX7_margin_10 (by decide) ?_
  refine zVP E hs lkX7_59 [.int (vtI (A (kk + 1)) v (A (vk (nI 0) + 1)))] (c_X7_votes l x ar fd kf hkf (A (kk + 1)) hkk 1 (by omega) (A (vk (nI 1) + 1)) (me_v hM (by omega)) v) (by decide) (sh6 rfl) rfl ⟨Nat.le_of_ble_eq_true rfl, Nat.le_of_ble_eq_true rfl⟩ rfl hl.1 (Nat.le_of_ble_eq_true rfl) rfl dX7_margin_11 (fun r_3 H locs hp_4 hs => ?_)
  subst hp_4
  refine lv_isub hx hb dX7_margin_14 ?_
  exact zeP E hs (by unfold mg; rw [show nI 1 - nI 0 = nI 1 from by decide]) dX7_margin_15

set_option maxHeartbeats 4000000 in
set_option maxRecDepth 100000 in
/-- winner -/
theorem c_X7_winner (l : Launch) (x : CT) (ar fd A B : AR) (w f : Nat) (hM : ME (ar 103) A (B 1) w f) (kf : Nat) (hkf : kf + 36 ≤ 196) (kk : Nat) (hkk : ∀ c, c < 36 → ar 103 (kf + c) = A (kk + 1) c) (v : Int32) : CP l yX7_winner cX7_winner 4 (some .int) 2 47 x [.ref (xa x 102), .int (nI kf), .int v] ar fd (fun r => r = wnI (mg A kk v (nI 0))) := by
  refine zsP (own := RX7) rfl (by decide +kernel) (Nat.le_of_ble_eq_true rfl) ?_
  intro p e s m below meth c ls E hs hl
  have hx := E.1
  have hb := E.2.1
  have hl : lv_has ls 4 [(0, .ref (xa x 102)), (1, .int (nI kf)), (2, .int v)] := hl
  obtain ⟨hE1, hE2, hE3, hE4, hE5, hE6, hE7, hEw, hEf, hEc, hEs, hfw, hw9, hw2, hP, hD⟩ := id hM
  refine lv_aload_n hx hb dX7_winner_0 rfl (lv_at hl 0 rfl) ?_
  refine lv_iload_n hx hb dX7_winner_1 rfl (lv_at hl 1 rfl) ?_
  refine lv_iload_n hx hb dX7_winner_2 rfl (lv_at hl 2 rfl) ?_
  refine zVP E hs lkX7_63 [] (c_X7_margin l x ar fd A B w f hM kf hkf kk hkk v) (by decide) (sh6 rfl) rfl ⟨Nat.le_of_ble_eq_true rfl, Nat.le_of_ble_eq_true rfl⟩ rfl hl.1 (Nat.le_of_ble_eq_true rfl) rfl dX7_winner_3 (fun r_1 H locs hp_2 hs => ?_)
  subst hp_2
  refine lv_istore_n (lv' := [(3, .int (mg A kk v (nI 0))), (0, .ref (xa x 102)), (1, .int (nI kf)), (2, .int v)]) hx hb dX7_winner_6 rfl hl (by decide) rfl (fun ls hl => ?_)
  refine lv_iload_n hx hb dX7_winner_7 rfl (lv_at hl 0 rfl) ?_
  refine lv_if_le (tgt := 15) hx hb dX7_winner_8 (by decide) (fun c_3 => ?_) (fun c_3 => ?_)
  · refine lv_iload_n hx hb dX7_winner_15 rfl (lv_at hl 0 rfl) ?_
    refine lv_if_ge (tgt := 23) hx hb dX7_winner_16 (by decide) (fun c_4 => ?_) (fun c_4 => ?_)
    · refine lv_iconst (v := nI 2) hx hb dX7_winner_23 (by decide) ?_
      exact zeP E hs (wn_2 c_3 c_4).symm dX7_winner_24
    · refine lv_iconst (v := nI 1) hx hb dX7_winner_19 (by decide) ?_
      refine lv_goto (tgt := 24) hx hb dX7_winner_20 (by decide) ?_
      exact zeP E hs (wn_1 c_3 c_4).symm dX7_winner_24
  · refine lv_iconst (v := nI 0) hx hb dX7_winner_11 (by decide) ?_
    refine lv_goto (tgt := 24) hx hb dX7_winner_12 (by decide) ?_
    exact zeP E hs (wn_0 c_3).symm dX7_winner_24

set_option maxHeartbeats 4000000 in
set_option maxRecDepth 100000 in
/-- beside -/
theorem c_X7_beside (l : Launch) (x : CT) (ar fd : AR) (ce sd : Nat) (hce : ce < 36) (hsd : sd < 4) : CP l yX7_beside cX7_beside 4 (some .int) 1 22 x [.int (nI ce), .int (nI sd)] ar fd (fun r => r = nb ce (pm sd)) := by
  refine zsP (own := RX7) rfl (by decide +kernel) (Nat.le_of_ble_eq_true rfl) ?_
  intro p e s m below meth c ls E hs hl
  have hx := E.1
  have hb := E.2.1
  have hl : lv_has ls 4 [(0, .int (nI ce)), (1, .int (nI sd))] := hl
  refine lv_iload_n hx hb dX7_beside_0 rfl (lv_at hl 0 rfl) ?_
  refine lv_bipush (v := nI 6) hx hb dX7_beside_1 (by decide) ?_
  refine lv_idiv hx hb dX7_beside_3 (by decide) ?_
  refine tp (b := nI (ce / 6)) (nI_div (by omega) (by omega)) ?_
  refine lv_iload_n hx hb dX7_beside_4 rfl (lv_at hl 1 rfl) ?_
  refine lv_if_ne (tgt := 12) hx hb dX7_beside_5 (by decide) (fun c_1 => ?_) (fun c_1 => ?_)
  · have c_1 : ¬ (sd = 0) := fun h => c_1 ((nI_eq (a := sd) (b := 0) (by omega) (by omega)).mpr h)
    refine lv_iload_n hx hb dX7_beside_12 rfl (lv_at hl 1 rfl) ?_
    refine lv_iconst (v := nI 1) hx hb dX7_beside_13 (by decide) ?_
    refine lv_icmp_ne (tgt := 21) hx hb dX7_beside_14 (by decide) (fun c_2 => ?_) (fun c_2 => ?_)
    · have c_2 : ¬ (sd = 1) := fun h => c_2 ((nI_eq (a := sd) (b := 1) (by omega) (by omega)).mpr h)
      refine lv_iconst (v := nI 0) hx hb dX7_beside_21 (by decide) ?_
      refine lv_iadd hx hb dX7_beside_22 ?_
      refine lv_istore_n (lv' := [(2, .int ((nI (ce / 6)) + (nI 0))), (0, .int (nI ce)), (1, .int (nI sd))]) hx hb dX7_beside_23 rfl hl (by decide) rfl (fun ls hl => ?_)
      refine lv_iload_n hx hb dX7_beside_24 rfl (lv_at hl 1 rfl) ?_
      refine lv_bipush (v := nI 6) hx hb dX7_beside_25 (by decide) ?_
      refine lv_irem hx hb dX7_beside_27 (by decide) ?_
      refine tp (b := nI (ce % 6)) (nI_rem (by omega) (by omega)) ?_
      refine lv_iload_n hx hb dX7_beside_28 rfl (lv_at hl 2 rfl) ?_
      refine lv_iconst (v := nI 2) hx hb dX7_beside_29 (by decide) ?_
      refine lv_icmp_ne (tgt := 37) hx hb dX7_beside_30 (by decide) (fun c_3 => ?_) (fun c_3 => ?_)
      · have c_3 : ¬ (sd = 2) := fun h => c_3 ((nI_eq (a := sd) (b := 2) (by omega) (by omega)).mpr h)
        refine lv_iload_n hx hb dX7_beside_37 rfl (lv_at hl 2 rfl) ?_
        refine lv_iconst (v := nI 3) hx hb dX7_beside_38 (by decide) ?_
        refine lv_icmp_ne (tgt := 46) hx hb dX7_beside_39 (by decide) (fun c_4 => ?_) (fun c_4 => ?_)
        · have c_4 : ¬ (sd = 3) := fun h => c_4 ((nI_eq (a := sd) (b := 3) (by omega) (by omega)).mpr h)
          refine lv_iconst (v := nI 0) hx hb dX7_beside_46 (by decide) ?_
          refine lv_iadd hx hb dX7_beside_47 ?_
          refine lv_istore_n (lv' := [(3, .int ((nI (ce % 6)) + (nI 0))), (2, .int ((nI (ce / 6)) + (nI 0))), (0, .int (nI ce)), (1, .int (nI sd))]) hx hb dX7_beside_48 rfl hl (by decide) rfl (fun ls hl => ?_)
          refine lv_iload_n hx hb dX7_beside_49 rfl (lv_at hl 1 rfl) ?_
          refine lv_iconst (v := nI 0) hx hb dX7_beside_50 (by decide) ?_
          refine lv_iconst (v := nI 5) hx hb dX7_beside_51 (by decide) ?_
          refine zSP E hs lkX7_36 [] (c_X7_in l x ar fd ((nI (ce / 6)) + (nI 0)) (nI 0) (nI 5)) ⟨Nat.le_of_ble_eq_true rfl, Nat.le_of_ble_eq_true rfl⟩ rfl hl.1 (Nat.le_of_ble_eq_true rfl) rfl dX7_beside_52 (fun r_5 H locs hp_6 hs => ?_)
          subst hp_6
          refine lv_if_eq (tgt := 76) hx hb dX7_beside_55 (by decide) (fun c_7 => ?_) (fun c_7 => ?_)
          · have c_7 : ¬ (¬ (nI (ce / 6)) + (nI 0) < nI 0 ∧ ¬ nI 5 < (nI (ce / 6)) + (nI 0)) := bz_0 c_7
            refine lv_iconst (v := (-1)) hx hb dX7_beside_76 (by decide) ?_
            exact zeP E hs ((by unfold beV; simp only [if_neg c_1, if_neg c_2, if_neg c_3, if_neg c_4, if_neg c_7] : _ = beV ce sd).trans (be_ok ce hce sd hsd)) dX7_beside_77
          · have c_7 : ¬ (nI (ce / 6)) + (nI 0) < nI 0 ∧ ¬ nI 5 < (nI (ce / 6)) + (nI 0) := bz_1 c_7
            refine lv_iload_n hx hb dX7_beside_58 rfl (lv_at hl 0 rfl) ?_
            refine lv_iconst (v := nI 0) hx hb dX7_beside_59 (by decide) ?_
            refine lv_iconst (v := nI 5) hx hb dX7_beside_60 (by decide) ?_
            refine zSP E hs lkX7_36 [] (c_X7_in l x ar fd ((nI (ce % 6)) + (nI 0)) (nI 0) (nI 5)) ⟨Nat.le_of_ble_eq_true rfl, Nat.le_of_ble_eq_true rfl⟩ rfl hl.1 (Nat.le_of_ble_eq_true rfl) rfl dX7_beside_61 (fun r_8 H locs hp_9 hs => ?_)
            subst hp_9
            refine lv_if_eq (tgt := 76) hx hb dX7_beside_64 (by decide) (fun c_10 => ?_) (fun c_10 => ?_)
            · have c_10 : ¬ (¬ (nI (ce % 6)) + (nI 0) < nI 0 ∧ ¬ nI 5 < (nI (ce % 6)) + (nI 0)) := bz_0 c_10
              refine lv_iconst (v := (-1)) hx hb dX7_beside_76 (by decide) ?_
              exact zeP E hs ((by unfold beV; simp only [if_neg c_1, if_neg c_2, if_neg c_3, if_neg c_4, if_pos c_7, if_neg c_10] : _ = beV ce sd).trans (be_ok ce hce sd hsd)) dX7_beside_77
            · have c_10 : ¬ (nI (ce % 6)) + (nI 0) < nI 0 ∧ ¬ nI 5 < (nI (ce % 6)) + (nI 0) := bz_1 c_10
              refine lv_bipush (v := nI 6) hx hb dX7_beside_67 (by decide) ?_
              refine lv_iload_n hx hb dX7_beside_69 rfl (lv_at hl 1 rfl) ?_
              refine lv_imul hx hb dX7_beside_70 ?_
              refine lv_iload_n hx hb dX7_beside_71 rfl (lv_at hl 0 rfl) ?_
              refine lv_iadd hx hb dX7_beside_72 ?_
              refine lv_goto (tgt := 77) hx hb dX7_beside_73 (by decide) ?_
              exact zeP E hs ((by unfold beV; simp only [if_neg c_1, if_neg c_2, if_neg c_3, if_neg c_4, if_pos c_7, if_pos c_10] : _ = beV ce sd).trans (be_ok ce hce sd hsd)) dX7_beside_77
        · have c_4 : sd = 3 := (nI_eq (a := sd) (b := 3) (by omega) (by omega)).mp c_4
          refine lv_iconst (v := nI 1) hx hb dX7_beside_42 (by decide) ?_
          refine lv_goto (tgt := 47) hx hb dX7_beside_43 (by decide) ?_
          refine lv_iadd hx hb dX7_beside_47 ?_
          refine lv_istore_n (lv' := [(3, .int ((nI (ce % 6)) + (nI 1))), (2, .int ((nI (ce / 6)) + (nI 0))), (0, .int (nI ce)), (1, .int (nI sd))]) hx hb dX7_beside_48 rfl hl (by decide) rfl (fun ls hl => ?_)
          refine lv_iload_n hx hb dX7_beside_49 rfl (lv_at hl 1 rfl) ?_
          refine lv_iconst (v := nI 0) hx hb dX7_beside_50 (by decide) ?_
          refine lv_iconst (v := nI 5) hx hb dX7_beside_51 (by decide) ?_
          refine zSP E hs lkX7_36 [] (c_X7_in l x ar fd ((nI (ce / 6)) + (nI 0)) (nI 0) (nI 5)) ⟨Nat.le_of_ble_eq_true rfl, Nat.le_of_ble_eq_true rfl⟩ rfl hl.1 (Nat.le_of_ble_eq_true rfl) rfl dX7_beside_52 (fun r_11 H locs hp_12 hs => ?_)
          subst hp_12
          refine lv_if_eq (tgt := 76) hx hb dX7_beside_55 (by decide) (fun c_13 => ?_) (fun c_13 => ?_)
          · have c_13 : ¬ (¬ (nI (ce / 6)) + (nI 0) < nI 0 ∧ ¬ nI 5 < (nI (ce / 6)) + (nI 0)) := bz_0 c_13
            refine lv_iconst (v := (-1)) hx hb dX7_beside_76 (by decide) ?_
            exact zeP E hs ((by unfold beV; simp only [if_neg c_1, if_neg c_2, if_neg c_3, if_pos c_4, if_neg c_13] : _ = beV ce sd).trans (be_ok ce hce sd hsd)) dX7_beside_77
          · have c_13 : ¬ (nI (ce / 6)) + (nI 0) < nI 0 ∧ ¬ nI 5 < (nI (ce / 6)) + (nI 0) := bz_1 c_13
            refine lv_iload_n hx hb dX7_beside_58 rfl (lv_at hl 0 rfl) ?_
            refine lv_iconst (v := nI 0) hx hb dX7_beside_59 (by decide) ?_
            refine lv_iconst (v := nI 5) hx hb dX7_beside_60 (by decide) ?_
            refine zSP E hs lkX7_36 [] (c_X7_in l x ar fd ((nI (ce % 6)) + (nI 1)) (nI 0) (nI 5)) ⟨Nat.le_of_ble_eq_true rfl, Nat.le_of_ble_eq_true rfl⟩ rfl hl.1 (Nat.le_of_ble_eq_true rfl) rfl dX7_beside_61 (fun r_14 H locs hp_15 hs => ?_)
            subst hp_15
            refine lv_if_eq (tgt := 76) hx hb dX7_beside_64 (by decide) (fun c_16 => ?_) (fun c_16 => ?_)
            · have c_16 : ¬ (¬ (nI (ce % 6)) + (nI 1) < nI 0 ∧ ¬ nI 5 < (nI (ce % 6)) + (nI 1)) := bz_0 c_16
              refine lv_iconst (v := (-1)) hx hb dX7_beside_76 (by decide) ?_
              exact zeP E hs ((by unfold beV; simp only [if_neg c_1, if_neg c_2, if_neg c_3, if_pos c_4, if_pos c_13, if_neg c_16] : _ = beV ce sd).trans (be_ok ce hce sd hsd)) dX7_beside_77
            · have c_16 : ¬ (nI (ce % 6)) + (nI 1) < nI 0 ∧ ¬ nI 5 < (nI (ce % 6)) + (nI 1) := bz_1 c_16
              refine lv_bipush (v := nI 6) hx hb dX7_beside_67 (by decide) ?_
              refine lv_iload_n hx hb dX7_beside_69 rfl (lv_at hl 1 rfl) ?_
              refine lv_imul hx hb dX7_beside_70 ?_
              refine lv_iload_n hx hb dX7_beside_71 rfl (lv_at hl 0 rfl) ?_
              refine lv_iadd hx hb dX7_beside_72 ?_
              refine lv_goto (tgt := 77) hx hb dX7_beside_73 (by decide) ?_
              exact zeP E hs ((by unfold beV; simp only [if_neg c_1, if_neg c_2, if_neg c_3, if_pos c_4, if_pos c_13, if_pos c_16] : _ = beV ce sd).trans (be_ok ce hce sd hsd)) dX7_beside_77
      · have c_3 : sd = 2 := (nI_eq (a := sd) (b := 2) (by omega) (by omega)).mp c_3
        refine lv_iconst (v := (-1)) hx hb dX7_beside_33 (by decide) ?_
        refine lv_goto (tgt := 47) hx hb dX7_beside_34 (by decide) ?_
        refine lv_iadd hx hb dX7_beside_47 ?_
        refine lv_istore_n (lv' := [(3, .int ((nI (ce % 6)) + (-1))), (2, .int ((nI (ce / 6)) + (nI 0))), (0, .int (nI ce)), (1, .int (nI sd))]) hx hb dX7_beside_48 rfl hl (by decide) rfl (fun ls hl => ?_)
        refine lv_iload_n hx hb dX7_beside_49 rfl (lv_at hl 1 rfl) ?_
        refine lv_iconst (v := nI 0) hx hb dX7_beside_50 (by decide) ?_
        refine lv_iconst (v := nI 5) hx hb dX7_beside_51 (by decide) ?_
        refine zSP E hs lkX7_36 [] (c_X7_in l x ar fd ((nI (ce / 6)) + (nI 0)) (nI 0) (nI 5)) ⟨Nat.le_of_ble_eq_true rfl, Nat.le_of_ble_eq_true rfl⟩ rfl hl.1 (Nat.le_of_ble_eq_true rfl) rfl dX7_beside_52 (fun r_17 H locs hp_18 hs => ?_)
        subst hp_18
        refine lv_if_eq (tgt := 76) hx hb dX7_beside_55 (by decide) (fun c_19 => ?_) (fun c_19 => ?_)
        · have c_19 : ¬ (¬ (nI (ce / 6)) + (nI 0) < nI 0 ∧ ¬ nI 5 < (nI (ce / 6)) + (nI 0)) := bz_0 c_19
          refine lv_iconst (v := (-1)) hx hb dX7_beside_76 (by decide) ?_
          exact zeP E hs ((by unfold beV; simp only [if_neg c_1, if_neg c_2, if_pos c_3, if_neg c_19] : _ = beV ce sd).trans (be_ok ce hce sd hsd)) dX7_beside_77
        · have c_19 : ¬ (nI (ce / 6)) + (nI 0) < nI 0 ∧ ¬ nI 5 < (nI (ce / 6)) + (nI 0) := bz_1 c_19
          refine lv_iload_n hx hb dX7_beside_58 rfl (lv_at hl 0 rfl) ?_
          refine lv_iconst (v := nI 0) hx hb dX7_beside_59 (by decide) ?_
          refine lv_iconst (v := nI 5) hx hb dX7_beside_60 (by decide) ?_
          refine zSP E hs lkX7_36 [] (c_X7_in l x ar fd ((nI (ce % 6)) + (-1)) (nI 0) (nI 5)) ⟨Nat.le_of_ble_eq_true rfl, Nat.le_of_ble_eq_true rfl⟩ rfl hl.1 (Nat.le_of_ble_eq_true rfl) rfl dX7_beside_61 (fun r_20 H locs hp_21 hs => ?_)
          subst hp_21
          refine lv_if_eq (tgt := 76) hx hb dX7_beside_64 (by decide) (fun c_22 => ?_) (fun c_22 => ?_)
          · have c_22 : ¬ (¬ (nI (ce % 6)) + (-1) < nI 0 ∧ ¬ nI 5 < (nI (ce % 6)) + (-1)) := bz_0 c_22
            refine lv_iconst (v := (-1)) hx hb dX7_beside_76 (by decide) ?_
            exact zeP E hs ((by unfold beV; simp only [if_neg c_1, if_neg c_2, if_pos c_3, if_pos c_19, if_neg c_22] : _ = beV ce sd).trans (be_ok ce hce sd hsd)) dX7_beside_77
          · have c_22 : ¬ (nI (ce % 6)) + (-1) < nI 0 ∧ ¬ nI 5 < (nI (ce % 6)) + (-1) := bz_1 c_22
            refine lv_bipush (v := nI 6) hx hb dX7_beside_67 (by decide) ?_
            refine lv_iload_n hx hb dX7_beside_69 rfl (lv_at hl 1 rfl) ?_
            refine lv_imul hx hb dX7_beside_70 ?_
            refine lv_iload_n hx hb dX7_beside_71 rfl (lv_at hl 0 rfl) ?_
            refine lv_iadd hx hb dX7_beside_72 ?_
            refine lv_goto (tgt := 77) hx hb dX7_beside_73 (by decide) ?_
            exact zeP E hs ((by unfold beV; simp only [if_neg c_1, if_neg c_2, if_pos c_3, if_pos c_19, if_pos c_22] : _ = beV ce sd).trans (be_ok ce hce sd hsd)) dX7_beside_77
    · have c_2 : sd = 1 := (nI_eq (a := sd) (b := 1) (by omega) (by omega)).mp c_2
      refine lv_iconst (v := nI 1) hx hb dX7_beside_17 (by decide) ?_
      refine lv_goto (tgt := 22) hx hb dX7_beside_18 (by decide) ?_
      refine lv_iadd hx hb dX7_beside_22 ?_
      refine lv_istore_n (lv' := [(2, .int ((nI (ce / 6)) + (nI 1))), (0, .int (nI ce)), (1, .int (nI sd))]) hx hb dX7_beside_23 rfl hl (by decide) rfl (fun ls hl => ?_)
      refine lv_iload_n hx hb dX7_beside_24 rfl (lv_at hl 1 rfl) ?_
      refine lv_bipush (v := nI 6) hx hb dX7_beside_25 (by decide) ?_
      refine lv_irem hx hb dX7_beside_27 (by decide) ?_
      refine tp (b := nI (ce % 6)) (nI_rem (by omega) (by omega)) ?_
      refine lv_iload_n hx hb dX7_beside_28 rfl (lv_at hl 2 rfl) ?_
      refine lv_iconst (v := nI 2) hx hb dX7_beside_29 (by decide) ?_
      refine lv_icmp_ne (tgt := 37) hx hb dX7_beside_30 (by decide) (fun c_23 => ?_) (fun c_23 => ?_)
      · have c_23 : ¬ (sd = 2) := fun h => c_23 ((nI_eq (a := sd) (b := 2) (by omega) (by omega)).mpr h)
        refine lv_iload_n hx hb dX7_beside_37 rfl (lv_at hl 2 rfl) ?_
        refine lv_iconst (v := nI 3) hx hb dX7_beside_38 (by decide) ?_
        refine lv_icmp_ne (tgt := 46) hx hb dX7_beside_39 (by decide) (fun c_24 => ?_) (fun c_24 => ?_)
        · have c_24 : ¬ (sd = 3) := fun h => c_24 ((nI_eq (a := sd) (b := 3) (by omega) (by omega)).mpr h)
          refine lv_iconst (v := nI 0) hx hb dX7_beside_46 (by decide) ?_
          refine lv_iadd hx hb dX7_beside_47 ?_
          refine lv_istore_n (lv' := [(3, .int ((nI (ce % 6)) + (nI 0))), (2, .int ((nI (ce / 6)) + (nI 1))), (0, .int (nI ce)), (1, .int (nI sd))]) hx hb dX7_beside_48 rfl hl (by decide) rfl (fun ls hl => ?_)
          refine lv_iload_n hx hb dX7_beside_49 rfl (lv_at hl 1 rfl) ?_
          refine lv_iconst (v := nI 0) hx hb dX7_beside_50 (by decide) ?_
          refine lv_iconst (v := nI 5) hx hb dX7_beside_51 (by decide) ?_
          refine zSP E hs lkX7_36 [] (c_X7_in l x ar fd ((nI (ce / 6)) + (nI 1)) (nI 0) (nI 5)) ⟨Nat.le_of_ble_eq_true rfl, Nat.le_of_ble_eq_true rfl⟩ rfl hl.1 (Nat.le_of_ble_eq_true rfl) rfl dX7_beside_52 (fun r_25 H locs hp_26 hs => ?_)
          subst hp_26
          refine lv_if_eq (tgt := 76) hx hb dX7_beside_55 (by decide) (fun c_27 => ?_) (fun c_27 => ?_)
          · have c_27 : ¬ (¬ (nI (ce / 6)) + (nI 1) < nI 0 ∧ ¬ nI 5 < (nI (ce / 6)) + (nI 1)) := bz_0 c_27
            refine lv_iconst (v := (-1)) hx hb dX7_beside_76 (by decide) ?_
            exact zeP E hs ((by unfold beV; simp only [if_neg c_1, if_pos c_2, if_neg c_23, if_neg c_24, if_neg c_27] : _ = beV ce sd).trans (be_ok ce hce sd hsd)) dX7_beside_77
          · have c_27 : ¬ (nI (ce / 6)) + (nI 1) < nI 0 ∧ ¬ nI 5 < (nI (ce / 6)) + (nI 1) := bz_1 c_27
            refine lv_iload_n hx hb dX7_beside_58 rfl (lv_at hl 0 rfl) ?_
            refine lv_iconst (v := nI 0) hx hb dX7_beside_59 (by decide) ?_
            refine lv_iconst (v := nI 5) hx hb dX7_beside_60 (by decide) ?_
            refine zSP E hs lkX7_36 [] (c_X7_in l x ar fd ((nI (ce % 6)) + (nI 0)) (nI 0) (nI 5)) ⟨Nat.le_of_ble_eq_true rfl, Nat.le_of_ble_eq_true rfl⟩ rfl hl.1 (Nat.le_of_ble_eq_true rfl) rfl dX7_beside_61 (fun r_28 H locs hp_29 hs => ?_)
            subst hp_29
            refine lv_if_eq (tgt := 76) hx hb dX7_beside_64 (by decide) (fun c_30 => ?_) (fun c_30 => ?_)
            · have c_30 : ¬ (¬ (nI (ce % 6)) + (nI 0) < nI 0 ∧ ¬ nI 5 < (nI (ce % 6)) + (nI 0)) := bz_0 c_30
              refine lv_iconst (v := (-1)) hx hb dX7_beside_76 (by decide) ?_
              exact zeP E hs ((by unfold beV; simp only [if_neg c_1, if_pos c_2, if_neg c_23, if_neg c_24, if_pos c_27, if_neg c_30] : _ = beV ce sd).trans (be_ok ce hce sd hsd)) dX7_beside_77
            · have c_30 : ¬ (nI (ce % 6)) + (nI 0) < nI 0 ∧ ¬ nI 5 < (nI (ce % 6)) + (nI 0) := bz_1 c_30
              refine lv_bipush (v := nI 6) hx hb dX7_beside_67 (by decide) ?_
              refine lv_iload_n hx hb dX7_beside_69 rfl (lv_at hl 1 rfl) ?_
              refine lv_imul hx hb dX7_beside_70 ?_
              refine lv_iload_n hx hb dX7_beside_71 rfl (lv_at hl 0 rfl) ?_
              refine lv_iadd hx hb dX7_beside_72 ?_
              refine lv_goto (tgt := 77) hx hb dX7_beside_73 (by decide) ?_
              exact zeP E hs ((by unfold beV; simp only [if_neg c_1, if_pos c_2, if_neg c_23, if_neg c_24, if_pos c_27, if_pos c_30] : _ = beV ce sd).trans (be_ok ce hce sd hsd)) dX7_beside_77
        · have c_24 : sd = 3 := (nI_eq (a := sd) (b := 3) (by omega) (by omega)).mp c_24
          refine lv_iconst (v := nI 1) hx hb dX7_beside_42 (by decide) ?_
          refine lv_goto (tgt := 47) hx hb dX7_beside_43 (by decide) ?_
          refine lv_iadd hx hb dX7_beside_47 ?_
          refine lv_istore_n (lv' := [(3, .int ((nI (ce % 6)) + (nI 1))), (2, .int ((nI (ce / 6)) + (nI 1))), (0, .int (nI ce)), (1, .int (nI sd))]) hx hb dX7_beside_48 rfl hl (by decide) rfl (fun ls hl => ?_)
          refine lv_iload_n hx hb dX7_beside_49 rfl (lv_at hl 1 rfl) ?_
          refine lv_iconst (v := nI 0) hx hb dX7_beside_50 (by decide) ?_
          refine lv_iconst (v := nI 5) hx hb dX7_beside_51 (by decide) ?_
          refine zSP E hs lkX7_36 [] (c_X7_in l x ar fd ((nI (ce / 6)) + (nI 1)) (nI 0) (nI 5)) ⟨Nat.le_of_ble_eq_true rfl, Nat.le_of_ble_eq_true rfl⟩ rfl hl.1 (Nat.le_of_ble_eq_true rfl) rfl dX7_beside_52 (fun r_31 H locs hp_32 hs => ?_)
          subst hp_32
          refine lv_if_eq (tgt := 76) hx hb dX7_beside_55 (by decide) (fun c_33 => ?_) (fun c_33 => ?_)
          · have c_33 : ¬ (¬ (nI (ce / 6)) + (nI 1) < nI 0 ∧ ¬ nI 5 < (nI (ce / 6)) + (nI 1)) := bz_0 c_33
            refine lv_iconst (v := (-1)) hx hb dX7_beside_76 (by decide) ?_
            exact zeP E hs ((by unfold beV; simp only [if_neg c_1, if_pos c_2, if_neg c_23, if_pos c_24, if_neg c_33] : _ = beV ce sd).trans (be_ok ce hce sd hsd)) dX7_beside_77
          · have c_33 : ¬ (nI (ce / 6)) + (nI 1) < nI 0 ∧ ¬ nI 5 < (nI (ce / 6)) + (nI 1) := bz_1 c_33
            refine lv_iload_n hx hb dX7_beside_58 rfl (lv_at hl 0 rfl) ?_
            refine lv_iconst (v := nI 0) hx hb dX7_beside_59 (by decide) ?_
            refine lv_iconst (v := nI 5) hx hb dX7_beside_60 (by decide) ?_
            refine zSP E hs lkX7_36 [] (c_X7_in l x ar fd ((nI (ce % 6)) + (nI 1)) (nI 0) (nI 5)) ⟨Nat.le_of_ble_eq_true rfl, Nat.le_of_ble_eq_true rfl⟩ rfl hl.1 (Nat.le_of_ble_eq_true rfl) rfl dX7_beside_61 (fun r_34 H locs hp_35 hs => ?_)
            subst hp_35
            refine lv_if_eq (tgt := 76) hx hb dX7_beside_64 (by decide) (fun c_36 => ?_) (fun c_36 => ?_)
            · have c_36 : ¬ (¬ (nI (ce % 6)) + (nI 1) < nI 0 ∧ ¬ nI 5 < (nI (ce % 6)) + (nI 1)) := bz_0 c_36
              refine lv_iconst (v := (-1)) hx hb dX7_beside_76 (by decide) ?_
              exact zeP E hs ((by unfold beV; simp only [if_neg c_1, if_pos c_2, if_neg c_23, if_pos c_24, if_pos c_33, if_neg c_36] : _ = beV ce sd).trans (be_ok ce hce sd hsd)) dX7_beside_77
            · have c_36 : ¬ (nI (ce % 6)) + (nI 1) < nI 0 ∧ ¬ nI 5 < (nI (ce % 6)) + (nI 1) := bz_1 c_36
              refine lv_bipush (v := nI 6) hx hb dX7_beside_67 (by decide) ?_
              refine lv_iload_n hx hb dX7_beside_69 rfl (lv_at hl 1 rfl) ?_
              refine lv_imul hx hb dX7_beside_70 ?_
              refine lv_iload_n hx hb dX7_beside_71 rfl (lv_at hl 0 rfl) ?_
              refine lv_iadd hx hb dX7_beside_72 ?_
              refine lv_goto (tgt := 77) hx hb dX7_beside_73 (by decide) ?_
              exact zeP E hs ((by unfold beV; simp only [if_neg c_1, if_pos c_2, if_neg c_23, if_pos c_24, if_pos c_33, if_pos c_36] : _ = beV ce sd).trans (be_ok ce hce sd hsd)) dX7_beside_77
      · have c_23 : sd = 2 := (nI_eq (a := sd) (b := 2) (by omega) (by omega)).mp c_23
        refine lv_iconst (v := (-1)) hx hb dX7_beside_33 (by decide) ?_
        refine lv_goto (tgt := 47) hx hb dX7_beside_34 (by decide) ?_
        refine lv_iadd hx hb dX7_beside_47 ?_
        refine lv_istore_n (lv' := [(3, .int ((nI (ce % 6)) + (-1))), (2, .int ((nI (ce / 6)) + (nI 1))), (0, .int (nI ce)), (1, .int (nI sd))]) hx hb dX7_beside_48 rfl hl (by decide) rfl (fun ls hl => ?_)
        refine lv_iload_n hx hb dX7_beside_49 rfl (lv_at hl 1 rfl) ?_
        refine lv_iconst (v := nI 0) hx hb dX7_beside_50 (by decide) ?_
        refine lv_iconst (v := nI 5) hx hb dX7_beside_51 (by decide) ?_
        refine zSP E hs lkX7_36 [] (c_X7_in l x ar fd ((nI (ce / 6)) + (nI 1)) (nI 0) (nI 5)) ⟨Nat.le_of_ble_eq_true rfl, Nat.le_of_ble_eq_true rfl⟩ rfl hl.1 (Nat.le_of_ble_eq_true rfl) rfl dX7_beside_52 (fun r_37 H locs hp_38 hs => ?_)
        subst hp_38
        refine lv_if_eq (tgt := 76) hx hb dX7_beside_55 (by decide) (fun c_39 => ?_) (fun c_39 => ?_)
        · have c_39 : ¬ (¬ (nI (ce / 6)) + (nI 1) < nI 0 ∧ ¬ nI 5 < (nI (ce / 6)) + (nI 1)) := bz_0 c_39
          refine lv_iconst (v := (-1)) hx hb dX7_beside_76 (by decide) ?_
          exact zeP E hs ((by unfold beV; simp only [if_neg c_1, if_pos c_2, if_pos c_23, if_neg c_39] : _ = beV ce sd).trans (be_ok ce hce sd hsd)) dX7_beside_77
        · have c_39 : ¬ (nI (ce / 6)) + (nI 1) < nI 0 ∧ ¬ nI 5 < (nI (ce / 6)) + (nI 1) := bz_1 c_39
          refine lv_iload_n hx hb dX7_beside_58 rfl (lv_at hl 0 rfl) ?_
          refine lv_iconst (v := nI 0) hx hb dX7_beside_59 (by decide) ?_
          refine lv_iconst (v := nI 5) hx hb dX7_beside_60 (by decide) ?_
          refine zSP E hs lkX7_36 [] (c_X7_in l x ar fd ((nI (ce % 6)) + (-1)) (nI 0) (nI 5)) ⟨Nat.le_of_ble_eq_true rfl, Nat.le_of_ble_eq_true rfl⟩ rfl hl.1 (Nat.le_of_ble_eq_true rfl) rfl dX7_beside_61 (fun r_40 H locs hp_41 hs => ?_)
          subst hp_41
          refine lv_if_eq (tgt := 76) hx hb dX7_beside_64 (by decide) (fun c_42 => ?_) (fun c_42 => ?_)
          · have c_42 : ¬ (¬ (nI (ce % 6)) + (-1) < nI 0 ∧ ¬ nI 5 < (nI (ce % 6)) + (-1)) := bz_0 c_42
            refine lv_iconst (v := (-1)) hx hb dX7_beside_76 (by decide) ?_
            exact zeP E hs ((by unfold beV; simp only [if_neg c_1, if_pos c_2, if_pos c_23, if_pos c_39, if_neg c_42] : _ = beV ce sd).trans (be_ok ce hce sd hsd)) dX7_beside_77
          · have c_42 : ¬ (nI (ce % 6)) + (-1) < nI 0 ∧ ¬ nI 5 < (nI (ce % 6)) + (-1) := bz_1 c_42
            refine lv_bipush (v := nI 6) hx hb dX7_beside_67 (by decide) ?_
            refine lv_iload_n hx hb dX7_beside_69 rfl (lv_at hl 1 rfl) ?_
            refine lv_imul hx hb dX7_beside_70 ?_
            refine lv_iload_n hx hb dX7_beside_71 rfl (lv_at hl 0 rfl) ?_
            refine lv_iadd hx hb dX7_beside_72 ?_
            refine lv_goto (tgt := 77) hx hb dX7_beside_73 (by decide) ?_
            exact zeP E hs ((by unfold beV; simp only [if_neg c_1, if_pos c_2, if_pos c_23, if_pos c_39, if_pos c_42] : _ = beV ce sd).trans (be_ok ce hce sd hsd)) dX7_beside_77
  · have c_1 : sd = 0 := (nI_eq (a := sd) (b := 0) (by omega) (by omega)).mp c_1
    refine lv_iconst (v := (-1)) hx hb dX7_beside_8 (by decide) ?_
    refine lv_goto (tgt := 22) hx hb dX7_beside_9 (by decide) ?_
    refine lv_iadd hx hb dX7_beside_22 ?_
    refine lv_istore_n (lv' := [(2, .int ((nI (ce / 6)) + (-1))), (0, .int (nI ce)), (1, .int (nI sd))]) hx hb dX7_beside_23 rfl hl (by decide) rfl (fun ls hl => ?_)
    refine lv_iload_n hx hb dX7_beside_24 rfl (lv_at hl 1 rfl) ?_
    refine lv_bipush (v := nI 6) hx hb dX7_beside_25 (by decide) ?_
    refine lv_irem hx hb dX7_beside_27 (by decide) ?_
    refine tp (b := nI (ce % 6)) (nI_rem (by omega) (by omega)) ?_
    refine lv_iload_n hx hb dX7_beside_28 rfl (lv_at hl 2 rfl) ?_
    refine lv_iconst (v := nI 2) hx hb dX7_beside_29 (by decide) ?_
    refine lv_icmp_ne (tgt := 37) hx hb dX7_beside_30 (by decide) (fun c_43 => ?_) (fun c_43 => ?_)
    · have c_43 : ¬ (sd = 2) := fun h => c_43 ((nI_eq (a := sd) (b := 2) (by omega) (by omega)).mpr h)
      refine lv_iload_n hx hb dX7_beside_37 rfl (lv_at hl 2 rfl) ?_
      refine lv_iconst (v := nI 3) hx hb dX7_beside_38 (by decide) ?_
      refine lv_icmp_ne (tgt := 46) hx hb dX7_beside_39 (by decide) (fun c_44 => ?_) (fun c_44 => ?_)
      · have c_44 : ¬ (sd = 3) := fun h => c_44 ((nI_eq (a := sd) (b := 3) (by omega) (by omega)).mpr h)
        refine lv_iconst (v := nI 0) hx hb dX7_beside_46 (by decide) ?_
        refine lv_iadd hx hb dX7_beside_47 ?_
        refine lv_istore_n (lv' := [(3, .int ((nI (ce % 6)) + (nI 0))), (2, .int ((nI (ce / 6)) + (-1))), (0, .int (nI ce)), (1, .int (nI sd))]) hx hb dX7_beside_48 rfl hl (by decide) rfl (fun ls hl => ?_)
        refine lv_iload_n hx hb dX7_beside_49 rfl (lv_at hl 1 rfl) ?_
        refine lv_iconst (v := nI 0) hx hb dX7_beside_50 (by decide) ?_
        refine lv_iconst (v := nI 5) hx hb dX7_beside_51 (by decide) ?_
        refine zSP E hs lkX7_36 [] (c_X7_in l x ar fd ((nI (ce / 6)) + (-1)) (nI 0) (nI 5)) ⟨Nat.le_of_ble_eq_true rfl, Nat.le_of_ble_eq_true rfl⟩ rfl hl.1 (Nat.le_of_ble_eq_true rfl) rfl dX7_beside_52 (fun r_45 H locs hp_46 hs => ?_)
        subst hp_46
        refine lv_if_eq (tgt := 76) hx hb dX7_beside_55 (by decide) (fun c_47 => ?_) (fun c_47 => ?_)
        · have c_47 : ¬ (¬ (nI (ce / 6)) + (-1) < nI 0 ∧ ¬ nI 5 < (nI (ce / 6)) + (-1)) := bz_0 c_47
          refine lv_iconst (v := (-1)) hx hb dX7_beside_76 (by decide) ?_
          exact zeP E hs ((by unfold beV; simp only [if_pos c_1, if_neg c_43, if_neg c_44, if_neg c_47] : _ = beV ce sd).trans (be_ok ce hce sd hsd)) dX7_beside_77
        · have c_47 : ¬ (nI (ce / 6)) + (-1) < nI 0 ∧ ¬ nI 5 < (nI (ce / 6)) + (-1) := bz_1 c_47
          refine lv_iload_n hx hb dX7_beside_58 rfl (lv_at hl 0 rfl) ?_
          refine lv_iconst (v := nI 0) hx hb dX7_beside_59 (by decide) ?_
          refine lv_iconst (v := nI 5) hx hb dX7_beside_60 (by decide) ?_
          refine zSP E hs lkX7_36 [] (c_X7_in l x ar fd ((nI (ce % 6)) + (nI 0)) (nI 0) (nI 5)) ⟨Nat.le_of_ble_eq_true rfl, Nat.le_of_ble_eq_true rfl⟩ rfl hl.1 (Nat.le_of_ble_eq_true rfl) rfl dX7_beside_61 (fun r_48 H locs hp_49 hs => ?_)
          subst hp_49
          refine lv_if_eq (tgt := 76) hx hb dX7_beside_64 (by decide) (fun c_50 => ?_) (fun c_50 => ?_)
          · have c_50 : ¬ (¬ (nI (ce % 6)) + (nI 0) < nI 0 ∧ ¬ nI 5 < (nI (ce % 6)) + (nI 0)) := bz_0 c_50
            refine lv_iconst (v := (-1)) hx hb dX7_beside_76 (by decide) ?_
            exact zeP E hs ((by unfold beV; simp only [if_pos c_1, if_neg c_43, if_neg c_44, if_pos c_47, if_neg c_50] : _ = beV ce sd).trans (be_ok ce hce sd hsd)) dX7_beside_77
          · have c_50 : ¬ (nI (ce % 6)) + (nI 0) < nI 0 ∧ ¬ nI 5 < (nI (ce % 6)) + (nI 0) := bz_1 c_50
            refine lv_bipush (v := nI 6) hx hb dX7_beside_67 (by decide) ?_
            refine lv_iload_n hx hb dX7_beside_69 rfl (lv_at hl 1 rfl) ?_
            refine lv_imul hx hb dX7_beside_70 ?_
            refine lv_iload_n hx hb dX7_beside_71 rfl (lv_at hl 0 rfl) ?_
            refine lv_iadd hx hb dX7_beside_72 ?_
            refine lv_goto (tgt := 77) hx hb dX7_beside_73 (by decide) ?_
            exact zeP E hs ((by unfold beV; simp only [if_pos c_1, if_neg c_43, if_neg c_44, if_pos c_47, if_pos c_50] : _ = beV ce sd).trans (be_ok ce hce sd hsd)) dX7_beside_77
      · have c_44 : sd = 3 := (nI_eq (a := sd) (b := 3) (by omega) (by omega)).mp c_44
        refine lv_iconst (v := nI 1) hx hb dX7_beside_42 (by decide) ?_
        refine lv_goto (tgt := 47) hx hb dX7_beside_43 (by decide) ?_
        refine lv_iadd hx hb dX7_beside_47 ?_
        refine lv_istore_n (lv' := [(3, .int ((nI (ce % 6)) + (nI 1))), (2, .int ((nI (ce / 6)) + (-1))), (0, .int (nI ce)), (1, .int (nI sd))]) hx hb dX7_beside_48 rfl hl (by decide) rfl (fun ls hl => ?_)
        refine lv_iload_n hx hb dX7_beside_49 rfl (lv_at hl 1 rfl) ?_
        refine lv_iconst (v := nI 0) hx hb dX7_beside_50 (by decide) ?_
        refine lv_iconst (v := nI 5) hx hb dX7_beside_51 (by decide) ?_
        refine zSP E hs lkX7_36 [] (c_X7_in l x ar fd ((nI (ce / 6)) + (-1)) (nI 0) (nI 5)) ⟨Nat.le_of_ble_eq_true rfl, Nat.le_of_ble_eq_true rfl⟩ rfl hl.1 (Nat.le_of_ble_eq_true rfl) rfl dX7_beside_52 (fun r_51 H locs hp_52 hs => ?_)
        subst hp_52
        refine lv_if_eq (tgt := 76) hx hb dX7_beside_55 (by decide) (fun c_53 => ?_) (fun c_53 => ?_)
        · have c_53 : ¬ (¬ (nI (ce / 6)) + (-1) < nI 0 ∧ ¬ nI 5 < (nI (ce / 6)) + (-1)) := bz_0 c_53
          refine lv_iconst (v := (-1)) hx hb dX7_beside_76 (by decide) ?_
          exact zeP E hs ((by unfold beV; simp only [if_pos c_1, if_neg c_43, if_pos c_44, if_neg c_53] : _ = beV ce sd).trans (be_ok ce hce sd hsd)) dX7_beside_77
        · have c_53 : ¬ (nI (ce / 6)) + (-1) < nI 0 ∧ ¬ nI 5 < (nI (ce / 6)) + (-1) := bz_1 c_53
          refine lv_iload_n hx hb dX7_beside_58 rfl (lv_at hl 0 rfl) ?_
          refine lv_iconst (v := nI 0) hx hb dX7_beside_59 (by decide) ?_
          refine lv_iconst (v := nI 5) hx hb dX7_beside_60 (by decide) ?_
          refine zSP E hs lkX7_36 [] (c_X7_in l x ar fd ((nI (ce % 6)) + (nI 1)) (nI 0) (nI 5)) ⟨Nat.le_of_ble_eq_true rfl, Nat.le_of_ble_eq_true rfl⟩ rfl hl.1 (Nat.le_of_ble_eq_true rfl) rfl dX7_beside_61 (fun r_54 H locs hp_55 hs => ?_)
          subst hp_55
          refine lv_if_eq (tgt := 76) hx hb dX7_beside_64 (by decide) (fun c_56 => ?_) (fun c_56 => ?_)
          · have c_56 : ¬ (¬ (nI (ce % 6)) + (nI 1) < nI 0 ∧ ¬ nI 5 < (nI (ce % 6)) + (nI 1)) := bz_0 c_56
            refine lv_iconst (v := (-1)) hx hb dX7_beside_76 (by decide) ?_
            exact zeP E hs ((by unfold beV; simp only [if_pos c_1, if_neg c_43, if_pos c_44, if_pos c_53, if_neg c_56] : _ = beV ce sd).trans (be_ok ce hce sd hsd)) dX7_beside_77
          · have c_56 : ¬ (nI (ce % 6)) + (nI 1) < nI 0 ∧ ¬ nI 5 < (nI (ce % 6)) + (nI 1) := bz_1 c_56
            refine lv_bipush (v := nI 6) hx hb dX7_beside_67 (by decide) ?_
            refine lv_iload_n hx hb dX7_beside_69 rfl (lv_at hl 1 rfl) ?_
            refine lv_imul hx hb dX7_beside_70 ?_
            refine lv_iload_n hx hb dX7_beside_71 rfl (lv_at hl 0 rfl) ?_
            refine lv_iadd hx hb dX7_beside_72 ?_
            refine lv_goto (tgt := 77) hx hb dX7_beside_73 (by decide) ?_
            exact zeP E hs ((by unfold beV; simp only [if_pos c_1, if_neg c_43, if_pos c_44, if_pos c_53, if_pos c_56] : _ = beV ce sd).trans (be_ok ce hce sd hsd)) dX7_beside_77
    · have c_43 : sd = 2 := (nI_eq (a := sd) (b := 2) (by omega) (by omega)).mp c_43
      refine lv_iconst (v := (-1)) hx hb dX7_beside_33 (by decide) ?_
      refine lv_goto (tgt := 47) hx hb dX7_beside_34 (by decide) ?_
      refine lv_iadd hx hb dX7_beside_47 ?_
      refine lv_istore_n (lv' := [(3, .int ((nI (ce % 6)) + (-1))), (2, .int ((nI (ce / 6)) + (-1))), (0, .int (nI ce)), (1, .int (nI sd))]) hx hb dX7_beside_48 rfl hl (by decide) rfl (fun ls hl => ?_)
      refine lv_iload_n hx hb dX7_beside_49 rfl (lv_at hl 1 rfl) ?_
      refine lv_iconst (v := nI 0) hx hb dX7_beside_50 (by decide) ?_
      refine lv_iconst (v := nI 5) hx hb dX7_beside_51 (by decide) ?_
      refine zSP E hs lkX7_36 [] (c_X7_in l x ar fd ((nI (ce / 6)) + (-1)) (nI 0) (nI 5)) ⟨Nat.le_of_ble_eq_true rfl, Nat.le_of_ble_eq_true rfl⟩ rfl hl.1 (Nat.le_of_ble_eq_true rfl) rfl dX7_beside_52 (fun r_57 H locs hp_58 hs => ?_)
      subst hp_58
      refine lv_if_eq (tgt := 76) hx hb dX7_beside_55 (by decide) (fun c_59 => ?_) (fun c_59 => ?_)
      · have c_59 : ¬ (¬ (nI (ce / 6)) + (-1) < nI 0 ∧ ¬ nI 5 < (nI (ce / 6)) + (-1)) := bz_0 c_59
        refine lv_iconst (v := (-1)) hx hb dX7_beside_76 (by decide) ?_
        exact zeP E hs ((by unfold beV; simp only [if_pos c_1, if_pos c_43, if_neg c_59] : _ = beV ce sd).trans (be_ok ce hce sd hsd)) dX7_beside_77
      · have c_59 : ¬ (nI (ce / 6)) + (-1) < nI 0 ∧ ¬ nI 5 < (nI (ce / 6)) + (-1) := bz_1 c_59
        refine lv_iload_n hx hb dX7_beside_58 rfl (lv_at hl 0 rfl) ?_
        refine lv_iconst (v := nI 0) hx hb dX7_beside_59 (by decide) ?_
        refine lv_iconst (v := nI 5) hx hb dX7_beside_60 (by decide) ?_
        refine zSP E hs lkX7_36 [] (c_X7_in l x ar fd ((nI (ce % 6)) + (-1)) (nI 0) (nI 5)) ⟨Nat.le_of_ble_eq_true rfl, Nat.le_of_ble_eq_true rfl⟩ rfl hl.1 (Nat.le_of_ble_eq_true rfl) rfl dX7_beside_61 (fun r_60 H locs hp_61 hs => ?_)
        subst hp_61
        refine lv_if_eq (tgt := 76) hx hb dX7_beside_64 (by decide) (fun c_62 => ?_) (fun c_62 => ?_)
        · have c_62 : ¬ (¬ (nI (ce % 6)) + (-1) < nI 0 ∧ ¬ nI 5 < (nI (ce % 6)) + (-1)) := bz_0 c_62
          refine lv_iconst (v := (-1)) hx hb dX7_beside_76 (by decide) ?_
          exact zeP E hs ((by unfold beV; simp only [if_pos c_1, if_pos c_43, if_pos c_59, if_neg c_62] : _ = beV ce sd).trans (be_ok ce hce sd hsd)) dX7_beside_77
        · have c_62 : ¬ (nI (ce % 6)) + (-1) < nI 0 ∧ ¬ nI 5 < (nI (ce % 6)) + (-1) := bz_1 c_62
          refine lv_bipush (v := nI 6) hx hb dX7_beside_67 (by decide) ?_
          refine lv_iload_n hx hb dX7_beside_69 rfl (lv_at hl 1 rfl) ?_
          refine lv_imul hx hb dX7_beside_70 ?_
          refine lv_iload_n hx hb dX7_beside_71 rfl (lv_at hl 0 rfl) ?_
          refine lv_iadd hx hb dX7_beside_72 ?_
          refine lv_goto (tgt := 77) hx hb dX7_beside_73 (by decide) ?_
          exact zeP E hs ((by unfold beV; simp only [if_pos c_1, if_pos c_43, if_pos c_59, if_pos c_62] : _ = beV ce sd).trans (be_ok ce hce sd hsd)) dX7_beside_77

theorem bd_cell {G : Nat → Int32} {v : Int32} {i : Nat} (hv : ¬ v = -1) (h : G i = v) : nI (ct (fun s => ¬ rowAt G 36 (nb i (pm s)) = v) 4) = nI 4 - alI G i := by
  unfold alI
  rw [iz_f (fun e => hv (h.symm.trans e)), h]
  have h1 := ct_pm (fun s => ¬ rowAt G 36 (nb i s) = v)
  have h2 := ct_not (fun s => rowAt G 36 (nb i s) = v) 4
  have h3 := ct_le (fun s => rowAt G 36 (nb i s) = v) 4
  rw [h1, nI_sub h3]
  congr 1
  omega
set_option maxHeartbeats 4000000 in
set_option maxRecDepth 100000 in
/-- borders -/
theorem c_X7_borders (l : Launch) (x : CT) (ar fd : AR) (kf : Nat) (hkf : kf + 36 ≤ 196) (G : Nat → Int32) (hG : ∀ c, c < 36 → ar 103 (kf + c) = G c) (v : Int32) (hv : ¬ v = -1) : CP l yX7_borders cX7_borders 7 (some .int) 2 45 x [.ref (xa x 102), .int (nI kf), .int v] ar fd (fun r => r = bdI G v) := by
  refine zsP (own := RX7) rfl (by decide +kernel) (Nat.le_of_ble_eq_true rfl) ?_
  intro p e s m below meth c ls E hs hl
  have hx := E.1
  have hb := E.2.1
  have hl : lv_has ls 7 [(0, .ref (xa x 102)), (1, .int (nI kf)), (2, .int v)] := hl
  refine lv_iconst (v := nI 0) hx hb dX7_borders_0 (by decide) ?_
  refine lv_istore_n (lv' := [(3, .int (nI 0)), (0, .ref (xa x 102)), (1, .int (nI kf)), (2, .int v)]) hx hb dX7_borders_1 rfl hl (by decide) rfl (fun ls hl => ?_)
  refine lv_iconst (v := nI 0) hx hb dX7_borders_2 (by decide) ?_
  refine lv_istore (lv' := [(4, .int (nI 0)), (3, .int (nI 0)), (0, .ref (xa x 102)), (1, .int (nI kf)), (2, .int v)]) hx hb dX7_borders_3 hl (by decide) rfl (fun ls hl => ?_)
  have L_1 : ∀ (mm : Nat) (i : Nat), (36 - i) < mm → (i ≤ 36) → ∀ (H : Heap) (locs : List Loc) (ls : Array Slot), ST x (AA x) s.heap ar fd H locs → lv_has ls 7 [(0, .ref (xa x 102)), (1, .int (nI kf)), (2, .int v), (3, .int (smI (fun c => iz (G c = v) (nI 4 - alI G c) 0) i)), (4, .int (nI i))] → W p l e (rmZ 2 45) s m ([.ref (xa x 102), .int (nI kf), .int v] : List Value).toArray below meth c H locs 0 0 (QP below x [.ref (xa x 102), .int (nI kf), .int v] ar fd s (fun r => r = bdI G v)) (F0 m 5 ls []) := by
    intro mm
    induction mm with
    | zero => intro i hmu; exact absurd hmu (Nat.not_lt_zero _)
    | succ mm ih_1 =>
      intro i hmu hi H locs ls hs hl
      refine lv_iload hx hb dX7_borders_5 (lv_at hl 4 rfl) ?_
      refine lv_bipush (v := nI 36) hx hb dX7_borders_7 (by decide) ?_
      refine lv_icmp_ge (tgt := 81) hx hb dX7_borders_9 (by decide) (fun c_2 => ?_) (fun c_2 => ?_)
      · have c_2 : 36 ≤ i := (nI_leI (a := 36) (b := i) (by omega) (by omega)).mp c_2
        refine lv_iload_n hx hb dX7_borders_81 rfl (lv_at hl 3 rfl) ?_
        exact zeP E hs (by rw [show i = 36 by omega]; rfl) dX7_borders_82
      · have c_2 : ¬ (36 ≤ i) := fun h => c_2 ((nI_leI (a := 36) (b := i) (by omega) (by omega)).mpr h)
        refine lv_aload_n hx hb dX7_borders_12 rfl (lv_at hl 0 rfl) ?_
        refine zg6 E hs (k := 102) rfl 0 (by decide) rfl q_514 dX7_borders_13 ?_
        refine lv_iload_n hx hb dX7_borders_16 rfl (lv_at hl 1 rfl) ?_
        refine lv_iload hx hb dX7_borders_17 (lv_at hl 4 rfl) ?_
        refine lv_iadd hx hb dX7_borders_19 ?_
        refine tp (b := nI (kf + i)) (nI_add _ _) ?_
        refine zald E hs 103 (n := 196) (j := (kf + i)) rfl rfl (by omega) (by decide) dX7_borders_20 ?_
        refine tp (b := G i) (hG _ (by omega)) ?_
        refine lv_iload_n hx hb dX7_borders_21 rfl (lv_at hl 2 rfl) ?_
        refine lv_icmp_ne (tgt := 75) hx hb dX7_borders_22 (by decide) (fun c_3 => ?_) (fun c_3 => ?_)
        · refine lv_iinc (v := nI (i + 1)) (lv' := [(4, .int (nI (i + 1))), (0, .ref (xa x 102)), (1, .int (nI kf)), (2, .int v), (3, .int (smI (fun c => iz (G c = v) (nI 4 - alI G c) 0) i))]) hx hb dX7_borders_75 hl (k := 4) rfl (nI_inc _) (by decide) rfl (fun ls hl => ?_)
          refine lv_goto (tgt := 5) hx hb dX7_borders_78 (by decide) ?_
          exact ih_1 (i + 1) (by omega) (by omega) _ _ _ hs (lvr (lv_at hl 1 rfl) (lvr (lv_at hl 2 rfl) (lvr (lv_at hl 3 rfl) (lvc (lv_at hl 4 rfl) (by rw [smI_s, iz_f c_3, Int32.add_zero]) (lvr (lv_at hl 0 rfl) (lvn hl))))))
        · refine lv_iconst (v := nI 0) hx hb dX7_borders_25 (by decide) ?_
          refine lv_istore (lv' := [(5, .int (nI 0)), (0, .ref (xa x 102)), (1, .int (nI kf)), (2, .int v), (3, .int (smI (fun c => iz (G c = v) (nI 4 - alI G c) 0) i)), (4, .int (nI i))]) hx hb dX7_borders_26 hl (by decide) rfl (fun ls hl => ?_)
          have L_4 : ∀ (mm : Nat) (t : Nat), (4 - t) < mm → (t ≤ 4) → ∀ (H : Heap) (locs : List Loc) (ls : Array Slot), ST x (AA x) s.heap ar fd H locs → lv_has ls 7 [(0, .ref (xa x 102)), (1, .int (nI kf)), (2, .int v), (3, .int (smI (fun c => iz (G c = v) (nI 4 - alI G c) 0) i + nI (ct (fun s => ¬ rowAt G 36 (nb i (pm s)) = v) t))), (4, .int (nI i)), (5, .int (nI t))] → W p l e (rmZ 2 45) s m ([.ref (xa x 102), .int (nI kf), .int v] : List Value).toArray below meth c H locs 0 0 (QP below x [.ref (xa x 102), .int (nI kf), .int v] ar fd s (fun r => r = bdI G v)) (F0 m 28 ls []) := by
            intro mm
            induction mm with
            | zero => intro t hmu; exact absurd hmu (Nat.not_lt_zero _)
            | succ mm ih_4 =>
              intro t hmu ht H locs ls hs hl
              refine lv_iload hx hb dX7_borders_28 (lv_at hl 5 rfl) ?_
              refine lv_iconst (v := nI 4) hx hb dX7_borders_30 (by decide) ?_
              refine lv_icmp_ge (tgt := 75) hx hb dX7_borders_31 (by decide) (fun c_5 => ?_) (fun c_5 => ?_)
              · have c_5 : 4 ≤ t := (nI_leI (a := 4) (b := t) (by omega) (by omega)).mp c_5
                refine lv_iinc (v := nI (i + 1)) (lv' := [(4, .int (nI (i + 1))), (0, .ref (xa x 102)), (1, .int (nI kf)), (2, .int v), (3, .int (smI (fun c => iz (G c = v) (nI 4 - alI G c) 0) i + nI (ct (fun s => ¬ rowAt G 36 (nb i (pm s)) = v) t))), (5, .int (nI t))]) hx hb dX7_borders_75 hl (k := 4) rfl (nI_inc _) (by decide) rfl (fun ls hl => ?_)
                refine lv_goto (tgt := 5) hx hb dX7_borders_78 (by decide) ?_
                exact ih_1 (i + 1) (by omega) (by omega) _ _ _ hs (lvr (lv_at hl 1 rfl) (lvr (lv_at hl 2 rfl) (lvr (lv_at hl 3 rfl) (lvc (lv_at hl 4 rfl) (by rw [smI_s, iz_t c_3, show t = 4 by omega, bd_cell hv c_3]) (lvr (lv_at hl 0 rfl) (lvn hl))))))
              · have c_5 : ¬ (4 ≤ t) := fun h => c_5 ((nI_leI (a := 4) (b := t) (by omega) (by omega)).mpr h)
                refine lv_iload hx hb dX7_borders_34 (lv_at hl 4 rfl) ?_
                refine lv_iload hx hb dX7_borders_36 (lv_at hl 5 rfl) ?_
                refine zSP E hs lkX7_67 [] (c_X7_beside l x ar fd i t (by omega) (by omega)) ⟨Nat.le_of_ble_eq_true rfl, Nat.le_of_ble_eq_true rfl⟩ rfl hl.1 (Nat.le_of_ble_eq_true rfl) rfl dX7_borders_38 (fun r_6 H locs hp_7 hs => ?_)
                subst hp_7
                refine lv_istore (lv' := [(6, .int (nb i (pm t))), (0, .ref (xa x 102)), (1, .int (nI kf)), (2, .int v), (3, .int (smI (fun c => iz (G c = v) (nI 4 - alI G c) 0) i + nI (ct (fun s => ¬ rowAt G 36 (nb i (pm s)) = v) t))), (4, .int (nI i)), (5, .int (nI t))]) hx hb dX7_borders_41 hl (by decide) rfl (fun ls hl => ?_)
                rcases nb_or i (by omega) (pm t) (pm_4 (by omega)) with ⟨d, hd, ed⟩ | ed
                · rw [ed] at hl
                  refine lv_iload_n hx hb dX7_borders_43 rfl (lv_at hl 4 rfl) ?_
                  refine lv_iload hx hb dX7_borders_44 (lv_at hl 0 rfl) ?_
                  refine lv_if_lt (tgt := 62) hx hb dX7_borders_46 (by decide) (fun c_8 => ?_) (fun c_8 => ?_)
                  · have c_8 : d < 0 := (nI_ltI (a := d) (b := 0) (by omega) (by omega)).mp c_8
                    exfalso; omega
                  · have c_8 : ¬ (d < 0) := fun h => c_8 ((nI_ltI (a := d) (b := 0) (by omega) (by omega)).mpr h)
                    refine lv_aload_n hx hb dX7_borders_49 rfl (lv_at hl 1 rfl) ?_
                    refine zg6 E hs (k := 102) rfl 0 (by decide) rfl q_514 dX7_borders_50 ?_
                    refine lv_iload_n hx hb dX7_borders_53 rfl (lv_at hl 2 rfl) ?_
                    refine lv_iload hx hb dX7_borders_54 (lv_at hl 0 rfl) ?_
                    refine lv_iadd hx hb dX7_borders_56 ?_
                    refine tp (b := nI (kf + d)) (nI_add _ _) ?_
                    refine zald E hs 103 (n := 196) (j := (kf + d)) rfl rfl (by omega) (by decide) dX7_borders_57 ?_
                    refine tp (b := G d) (hG _ (by omega)) ?_
                    refine lv_iload_n hx hb dX7_borders_58 rfl (lv_at hl 3 rfl) ?_
                    refine lv_icmp_eq (tgt := 66) hx hb dX7_borders_59 (by decide) (fun c_9 => ?_) (fun c_9 => ?_)
                    · refine lv_iconst (v := nI 0) hx hb dX7_borders_66 (by decide) ?_
                      refine lv_iadd hx hb dX7_borders_67 ?_
                      refine lv_istore_n (lv' := [(3, .int ((smI (fun c => iz (G c = v) (nI 4 - alI G c) 0) i + nI (ct (fun s => ¬ rowAt G 36 (nb i (pm s)) = v) t)) + (nI 0))), (6, .int (nI d)), (0, .ref (xa x 102)), (1, .int (nI kf)), (2, .int v), (4, .int (nI i)), (5, .int (nI t))]) hx hb dX7_borders_68 rfl hl (by decide) rfl (fun ls hl => ?_)
                      refine lv_iinc (v := nI (t + 1)) (lv' := [(5, .int (nI (t + 1))), (3, .int ((smI (fun c => iz (G c = v) (nI 4 - alI G c) 0) i + nI (ct (fun s => ¬ rowAt G 36 (nb i (pm s)) = v) t)) + (nI 0))), (6, .int (nI d)), (0, .ref (xa x 102)), (1, .int (nI kf)), (2, .int v), (4, .int (nI i))]) hx hb dX7_borders_69 hl (k := 6) rfl (nI_inc _) (by decide) rfl (fun ls hl => ?_)
                      refine lv_goto (tgt := 28) hx hb dX7_borders_72 (by decide) ?_
                      exact ih_4 (t + 1) (by omega) (by omega) _ _ _ hs (lvr (lv_at hl 3 rfl) (lvr (lv_at hl 4 rfl) (lvr (lv_at hl 5 rfl) (lvc (lv_at hl 1 rfl) (by rw [Int32.add_assoc, nI_add]; congr 1; exact (by rw [ct_f (P := (fun s => ¬ rowAt G 36 (nb i (pm s)) = v)) (not_not_intro (show rowAt G 36 (nb i (pm t)) = v from by rw [ed, rowAt_n hd (by decide)]; exact c_9)), Nat.add_zero])) (lvr (lv_at hl 6 rfl) (lvr (lv_at hl 0 rfl) (lvn hl)))))))
                    · refine lv_iconst (v := nI 1) hx hb dX7_borders_62 (by decide) ?_
                      refine lv_goto (tgt := 67) hx hb dX7_borders_63 (by decide) ?_
                      refine lv_iadd hx hb dX7_borders_67 ?_
                      refine lv_istore_n (lv' := [(3, .int ((smI (fun c => iz (G c = v) (nI 4 - alI G c) 0) i + nI (ct (fun s => ¬ rowAt G 36 (nb i (pm s)) = v) t)) + (nI 1))), (6, .int (nI d)), (0, .ref (xa x 102)), (1, .int (nI kf)), (2, .int v), (4, .int (nI i)), (5, .int (nI t))]) hx hb dX7_borders_68 rfl hl (by decide) rfl (fun ls hl => ?_)
                      refine lv_iinc (v := nI (t + 1)) (lv' := [(5, .int (nI (t + 1))), (3, .int ((smI (fun c => iz (G c = v) (nI 4 - alI G c) 0) i + nI (ct (fun s => ¬ rowAt G 36 (nb i (pm s)) = v) t)) + (nI 1))), (6, .int (nI d)), (0, .ref (xa x 102)), (1, .int (nI kf)), (2, .int v), (4, .int (nI i))]) hx hb dX7_borders_69 hl (k := 6) rfl (nI_inc _) (by decide) rfl (fun ls hl => ?_)
                      refine lv_goto (tgt := 28) hx hb dX7_borders_72 (by decide) ?_
                      exact ih_4 (t + 1) (by omega) (by omega) _ _ _ hs (lvr (lv_at hl 3 rfl) (lvr (lv_at hl 4 rfl) (lvr (lv_at hl 5 rfl) (lvc (lv_at hl 1 rfl) (by rw [Int32.add_assoc, nI_add]; congr 1; exact (by rw [ct_t (P := (fun s => ¬ rowAt G 36 (nb i (pm s)) = v)) (show ¬ rowAt G 36 (nb i (pm t)) = v from by rw [ed, rowAt_n hd (by decide)]; exact c_9)])) (lvr (lv_at hl 6 rfl) (lvr (lv_at hl 0 rfl) (lvn hl)))))))
                · rw [ed] at hl
                  refine lv_iload_n hx hb dX7_borders_43 rfl (lv_at hl 4 rfl) ?_
                  refine lv_iload hx hb dX7_borders_44 (lv_at hl 0 rfl) ?_
                  refine lv_if_lt (tgt := 62) hx hb dX7_borders_46 (by decide) (fun _ => ?_) (fun h => absurd h (by decide))
                  refine lv_iconst (v := nI 1) hx hb dX7_borders_62 (by decide) ?_
                  refine lv_goto (tgt := 67) hx hb dX7_borders_63 (by decide) ?_
                  refine lv_iadd hx hb dX7_borders_67 ?_
                  refine lv_istore_n (lv' := [(3, .int ((smI (fun c => iz (G c = v) (nI 4 - alI G c) 0) i + nI (ct (fun s => ¬ rowAt G 36 (nb i (pm s)) = v) t)) + (nI 1))), (6, .int (-1)), (0, .ref (xa x 102)), (1, .int (nI kf)), (2, .int v), (4, .int (nI i)), (5, .int (nI t))]) hx hb dX7_borders_68 rfl hl (by decide) rfl (fun ls hl => ?_)
                  refine lv_iinc (v := nI (t + 1)) (lv' := [(5, .int (nI (t + 1))), (3, .int ((smI (fun c => iz (G c = v) (nI 4 - alI G c) 0) i + nI (ct (fun s => ¬ rowAt G 36 (nb i (pm s)) = v) t)) + (nI 1))), (6, .int (-1)), (0, .ref (xa x 102)), (1, .int (nI kf)), (2, .int v), (4, .int (nI i))]) hx hb dX7_borders_69 hl (k := 6) rfl (nI_inc _) (by decide) rfl (fun ls hl => ?_)
                  refine lv_goto (tgt := 28) hx hb dX7_borders_72 (by decide) ?_
                  exact ih_4 (t + 1) (by omega) (by omega) _ _ _ hs (lvr (lv_at hl 3 rfl) (lvr (lv_at hl 4 rfl) (lvr (lv_at hl 5 rfl) (lvc (lv_at hl 1 rfl) (by rw [Int32.add_assoc, nI_add]; congr 1; exact (by rw [ct_t (P := (fun s => ¬ rowAt G 36 (nb i (pm s)) = v)) (show ¬ rowAt G 36 (nb i (pm t)) = v from by rw [ed, rowAt_m]; exact fun h => hv h.symm)])) (lvr (lv_at hl 6 rfl) (lvr (lv_at hl 0 rfl) (lvn hl)))))))
          exact L_4 (_ + 1) 0 (Nat.lt_succ_self _) (by omega) _ _ _ hs (lvr (lv_at hl 1 rfl) (lvr (lv_at hl 2 rfl) (lvr (lv_at hl 3 rfl) (lvc (lv_at hl 4 rfl) (by rw [show ct (fun s => ¬ rowAt G 36 (nb i (pm s)) = v) 0 = 0 from rfl, nI_0, Int32.add_zero]) (lvr (lv_at hl 5 rfl) (lvr (lv_at hl 0 rfl) (lvn hl)))))))
  exact L_1 (_ + 1) 0 (Nat.lt_succ_self _) (by omega) _ _ _ hs (lvr (lv_at hl 2 rfl) (lvr (lv_at hl 3 rfl) (lvr (lv_at hl 4 rfl) (lvc (lv_at hl 1 rfl) nI_0 (lvr (lv_at hl 0 rfl) (lvn hl))))))

set_option maxHeartbeats 4000000 in
set_option maxRecDepth 100000 in
/-- wasted -/
theorem c_X7_wasted (l : Launch) (x : CT) (ar fd A B : AR) (w f : Nat) (hM : ME (ar 103) A (B 1) w f) (v : Int32) (pt : Nat) (hpt : pt < 2) : CP l yX7_wasted cX7_wasted 5 (some .int) 1 25 x [.ref (xa x 102), .int v, .int (nI pt)] ar fd (fun r => r = wst A v (nI pt)) := by
  refine zsP (own := RX7) rfl (by decide +kernel) (Nat.le_of_ble_eq_true rfl) ?_
  intro p e s m below meth c ls E hs hl
  have hx := E.1
  have hb := E.2.1
  have hl : lv_has ls 5 [(0, .ref (xa x 102)), (1, .int v), (2, .int (nI pt))] := hl
  obtain ⟨hE1, hE2, hE3, hE4, hE5, hE6, hE7, hEw, hEf, hEc, hEs, hfw, hw9, hw2, hP, hD⟩ := id hM
  refine lv_aload_n hx hb dX7_wasted_0 rfl (lv_at hl 0 rfl) ?_
  refine lv_bipush (v := nI 115) hx hb dX7_wasted_1 (by decide) ?_
  refine lv_iload_n hx hb dX7_wasted_3 rfl (lv_at hl 1 rfl) ?_
  refine lv_iload_n hx hb dX7_wasted_4 rfl (lv_at hl 2 rfl) ?_
  refine zVP E hs lkX7_59 [] (c_X7_votes l x ar fd 115 (by decide) (A 9) hE4 pt (by omega) (A (vk (nI pt) + 1)) (me_v hM (by omega)) v) (by decide) (sh6 rfl) rfl ⟨Nat.le_of_ble_eq_true rfl, Nat.le_of_ble_eq_true rfl⟩ rfl hl.1 (Nat.le_of_ble_eq_true rfl) rfl dX7_wasted_5 (fun r_1 H locs hp_2 hs => ?_)
  subst hp_2
  refine lv_istore_n (lv' := [(3, .int (vtI (A 9) v (A (vk (nI pt) + 1)))), (0, .ref (xa x 102)), (1, .int v), (2, .int (nI pt))]) hx hb dX7_wasted_8 rfl hl (by decide) rfl (fun ls hl => ?_)
  refine lv_aload_n hx hb dX7_wasted_9 rfl (lv_at hl 1 rfl) ?_
  refine lv_bipush (v := nI 115) hx hb dX7_wasted_10 (by decide) ?_
  refine lv_iload_n hx hb dX7_wasted_12 rfl (lv_at hl 2 rfl) ?_
  refine lv_iconst (v := nI 1) hx hb dX7_wasted_13 (by decide) ?_
  refine lv_iload_n hx hb dX7_wasted_14 rfl (lv_at hl 3 rfl) ?_
  refine lv_isub hx hb dX7_wasted_15 ?_
  refine tp (b := nI (1 - pt)) (nI_sub (by omega)) ?_
  refine zVP E hs lkX7_59 [] (c_X7_votes l x ar fd 115 (by decide) (A 9) hE4 (1 - pt) (by omega) (A (vk (nI (1 - pt)) + 1)) (me_v hM (by omega)) v) (by decide) (sh6 rfl) rfl ⟨Nat.le_of_ble_eq_true rfl, Nat.le_of_ble_eq_true rfl⟩ rfl hl.1 (Nat.le_of_ble_eq_true rfl) rfl dX7_wasted_16 (fun r_3 H locs hp_4 hs => ?_)
  subst hp_4
  refine lv_istore (lv' := [(4, .int (vtI (A 9) v (A (vk (nI (1 - pt)) + 1)))), (3, .int (vtI (A 9) v (A (vk (nI pt) + 1)))), (0, .ref (xa x 102)), (1, .int v), (2, .int (nI pt))]) hx hb dX7_wasted_19 hl (by decide) rfl (fun ls hl => ?_)
  refine lv_iload_n hx hb dX7_wasted_21 rfl (lv_at hl 1 rfl) ?_
  refine lv_iload hx hb dX7_wasted_22 (lv_at hl 0 rfl) ?_
  refine lv_icmp_le (tgt := 36) hx hb dX7_wasted_24 (by decide) (fun c_5 => ?_) (fun c_5 => ?_)
  · refine lv_iload_n hx hb dX7_wasted_36 rfl (lv_at hl 1 rfl) ?_
    exact zeP E hs (by unfold wst wsI; rw [show nI 1 - nI pt = nI (1 - pt) from nI_sub (by omega), iz_t c_5]) dX7_wasted_37
  · refine lv_iload_n hx hb dX7_wasted_27 rfl (lv_at hl 1 rfl) ?_
    refine lv_iload hx hb dX7_wasted_28 (lv_at hl 0 rfl) ?_
    refine lv_isub hx hb dX7_wasted_30 ?_
    refine lv_iconst (v := nI 1) hx hb dX7_wasted_31 (by decide) ?_
    refine lv_isub hx hb dX7_wasted_32 ?_
    refine lv_goto (tgt := 37) hx hb dX7_wasted_33 (by decide) ?_
    exact zeP E hs (by unfold wst wsI; rw [show nI 1 - nI pt = nI (1 - pt) from nI_sub (by omega), iz_f c_5, Int32.sub_sub]) dX7_wasted_37

set_option maxHeartbeats 4000000 in
set_option maxRecDepth 100000 in
/-- seats -/
theorem c_X7_seats (l : Launch) (x : CT) (ar fd A B : AR) (w f : Nat) (hM : ME (ar 103) A (B 1) w f) (win : Int32) : CP l yX7_seats cX7_seats 4 (some .int) 3 70 x [.ref (xa x 102), .int win] ar fd (fun r => r = nI (ct (fun zz => wnI (mg A 8 (nI zz) (nI 0)) = win) f)) := by
  refine zsP (own := RX7) rfl (by decide +kernel) (Nat.le_of_ble_eq_true rfl) ?_
  intro p e s m below meth c ls E hs hl
  have hx := E.1
  have hb := E.2.1
  have hl : lv_has ls 4 [(0, .ref (xa x 102)), (1, .int win)] := hl
  obtain ⟨hE1, hE2, hE3, hE4, hE5, hE6, hE7, hEw, hEf, hEc, hEs, hfw, hw9, hw2, hP, hD⟩ := id hM
  refine lv_iconst (v := nI 0) hx hb dX7_seats_0 (by decide) ?_
  refine lv_istore_n (lv' := [(2, .int (nI 0)), (0, .ref (xa x 102)), (1, .int win)]) hx hb dX7_seats_1 rfl hl (by decide) rfl (fun ls hl => ?_)
  refine lv_iconst (v := nI 0) hx hb dX7_seats_2 (by decide) ?_
  refine lv_istore_n (lv' := [(3, .int (nI 0)), (2, .int (nI 0)), (0, .ref (xa x 102)), (1, .int win)]) hx hb dX7_seats_3 rfl hl (by decide) rfl (fun ls hl => ?_)
  have L_1 : ∀ (mm : Nat) (i : Nat), (f - i) < mm → (i ≤ f) → ∀ (H : Heap) (locs : List Loc) (ls : Array Slot), ST x (AA x) s.heap ar fd H locs → lv_has ls 4 [(0, .ref (xa x 102)), (1, .int win), (2, .int (nI (ct (fun zz => wnI (mg A 8 (nI zz) (nI 0)) = win) i))), (3, .int (nI i))] → W p l e (rmZ 3 70) s m ([.ref (xa x 102), .int win] : List Value).toArray below meth c H locs 0 0 (QP below x [.ref (xa x 102), .int win] ar fd s (fun r => r = nI (ct (fun zz => wnI (mg A 8 (nI zz) (nI 0)) = win) f))) (F0 m 4 ls []) := by
    intro mm
    induction mm with
    | zero => intro i hmu; exact absurd hmu (Nat.not_lt_zero _)
    | succ mm ih_1 =>
      intro i hmu hi H locs ls hs hl
      refine lv_iload_n hx hb dX7_seats_4 rfl (lv_at hl 3 rfl) ?_
      refine lv_aload_n hx hb dX7_seats_5 rfl (lv_at hl 0 rfl) ?_
      refine zg6 E hs (k := 102) rfl 0 (by decide) rfl q_514 dX7_seats_6 ?_
      refine lv_bipush (v := nI 77) hx hb dX7_seats_9 (by decide) ?_
      refine zald E hs 103 (n := 196) (j := 77) rfl rfl (by omega) (by decide) dX7_seats_11 ?_
      refine tp (b := nI f) hEf ?_
      refine lv_icmp_ge (tgt := 40) hx hb dX7_seats_12 (by decide) (fun c_2 => ?_) (fun c_2 => ?_)
      · have c_2 : f ≤ i := (nI_leI (a := f) (b := i) (by omega) (by omega)).mp c_2
        refine lv_iload_n hx hb dX7_seats_40 rfl (lv_at hl 2 rfl) ?_
        exact zeP E hs (by rw [show i = f by omega]) dX7_seats_41
      · have c_2 : ¬ (f ≤ i) := fun h => c_2 ((nI_leI (a := f) (b := i) (by omega) (by omega)).mpr h)
        refine lv_iload_n hx hb dX7_seats_15 rfl (lv_at hl 2 rfl) ?_
        refine lv_aload_n hx hb dX7_seats_16 rfl (lv_at hl 0 rfl) ?_
        refine lv_bipush (v := nI 115) hx hb dX7_seats_17 (by decide) ?_
        refine lv_iload_n hx hb dX7_seats_19 rfl (lv_at hl 3 rfl) ?_
        refine zVP E hs lkX7_123 [.int (nI (ct (fun zz => wnI (mg A 8 (nI zz) (nI 0)) = win) i))] (c_X7_winner l x ar fd A B w f hM 115 (by decide) 8 hE4 (nI i)) (by decide) (sh6 rfl) rfl ⟨Nat.le_of_ble_eq_true rfl, Nat.le_of_ble_eq_true rfl⟩ rfl hl.1 (Nat.le_of_ble_eq_true rfl) rfl dX7_seats_20 (fun r_3 H locs hp_4 hs => ?_)
        subst hp_4
        refine lv_iload_n hx hb dX7_seats_23 rfl (lv_at hl 1 rfl) ?_
        refine lv_icmp_ne (tgt := 31) hx hb dX7_seats_24 (by decide) (fun c_5 => ?_) (fun c_5 => ?_)
        · refine lv_iconst (v := nI 0) hx hb dX7_seats_31 (by decide) ?_
          refine lv_iadd hx hb dX7_seats_32 ?_
          refine tp (b := nI ((ct (fun zz => wnI (mg A 8 (nI zz) (nI 0)) = win) i) + 0)) (nI_add _ _) ?_
          refine lv_istore_n (lv' := [(2, .int (nI ((ct (fun zz => wnI (mg A 8 (nI zz) (nI 0)) = win) i) + 0))), (0, .ref (xa x 102)), (1, .int win), (3, .int (nI i))]) hx hb dX7_seats_33 rfl hl (by decide) rfl (fun ls hl => ?_)
          refine lv_iinc (v := nI (i + 1)) (lv' := [(3, .int (nI (i + 1))), (2, .int (nI ((ct (fun zz => wnI (mg A 8 (nI zz) (nI 0)) = win) i) + 0))), (0, .ref (xa x 102)), (1, .int win)]) hx hb dX7_seats_34 hl (k := 3) rfl (nI_inc _) (by decide) rfl (fun ls hl => ?_)
          refine lv_goto (tgt := 4) hx hb dX7_seats_37 (by decide) ?_
          exact ih_1 (i + 1) (by omega) (by omega) _ _ _ hs (lvr (lv_at hl 2 rfl) (lvr (lv_at hl 3 rfl) (lvc (lv_at hl 1 rfl) (by rw [ct_f (P := (fun zz => wnI (mg A 8 (nI zz) (nI 0)) = win)) c_5, Nat.add_zero]) (lvr (lv_at hl 0 rfl) (lvn hl)))))
        · refine lv_iconst (v := nI 1) hx hb dX7_seats_27 (by decide) ?_
          refine lv_goto (tgt := 32) hx hb dX7_seats_28 (by decide) ?_
          refine lv_iadd hx hb dX7_seats_32 ?_
          refine tp (b := nI ((ct (fun zz => wnI (mg A 8 (nI zz) (nI 0)) = win) i) + 1)) (nI_add _ _) ?_
          refine lv_istore_n (lv' := [(2, .int (nI ((ct (fun zz => wnI (mg A 8 (nI zz) (nI 0)) = win) i) + 1))), (0, .ref (xa x 102)), (1, .int win), (3, .int (nI i))]) hx hb dX7_seats_33 rfl hl (by decide) rfl (fun ls hl => ?_)
          refine lv_iinc (v := nI (i + 1)) (lv' := [(3, .int (nI (i + 1))), (2, .int (nI ((ct (fun zz => wnI (mg A 8 (nI zz) (nI 0)) = win) i) + 1))), (0, .ref (xa x 102)), (1, .int win)]) hx hb dX7_seats_34 hl (k := 3) rfl (nI_inc _) (by decide) rfl (fun ls hl => ?_)
          refine lv_goto (tgt := 4) hx hb dX7_seats_37 (by decide) ?_
          exact ih_1 (i + 1) (by omega) (by omega) _ _ _ hs (lvr (lv_at hl 2 rfl) (lvr (lv_at hl 3 rfl) (lvc (lv_at hl 1 rfl) (by rw [ct_t (P := (fun zz => wnI (mg A 8 (nI zz) (nI 0)) = win)) c_5]) (lvr (lv_at hl 0 rfl) (lvn hl)))))
  exact L_1 (_ + 1) 0 (Nat.lt_succ_self _) (by omega) _ _ _ hs (lvr (lv_at hl 2 rfl) (lvr (lv_at hl 3 rfl) (lvr (lv_at hl 1 rfl) (lvr (lv_at hl 0 rfl) (lvn hl)))))

set_option maxHeartbeats 4000000 in
set_option maxRecDepth 100000 in
/-- votesOnMap -/
theorem c_X7_votesOnMap (l : Launch) (x : CT) (ar fd A B : AR) (w f : Nat) (hM : ME (ar 103) A (B 1) w f) (pt : Nat) (hpt : pt < 2) : CP l yX7_votesOnMap cX7_votesOnMap 4 (some .int) 0 0 x [.ref (xa x 102), .int (nI pt)] ar fd (fun r => r = smI (A (vk (nI pt) + 1)) 36) := by
  refine zsP (own := RX7) rfl (by decide +kernel) (Nat.le_of_ble_eq_true rfl) ?_
  intro p e s m below meth c ls E hs hl
  have hx := E.1
  have hb := E.2.1
  have hl : lv_has ls 4 [(0, .ref (xa x 102)), (1, .int (nI pt))] := hl
  obtain ⟨hE1, hE2, hE3, hE4, hE5, hE6, hE7, hEw, hEf, hEc, hEs, hfw, hw9, hw2, hP, hD⟩ := id hM
  have hH := me_v hM hpt
  refine lv_iconst (v := nI 0) hx hb dX7_votesOnMap_0 (by decide) ?_
  refine lv_istore_n (lv' := [(2, .int (nI 0)), (0, .ref (xa x 102)), (1, .int (nI pt))]) hx hb dX7_votesOnMap_1 rfl hl (by decide) rfl (fun ls hl => ?_)
  refine lv_iconst (v := nI 0) hx hb dX7_votesOnMap_2 (by decide) ?_
  refine lv_istore_n (lv' := [(3, .int (nI 0)), (2, .int (nI 0)), (0, .ref (xa x 102)), (1, .int (nI pt))]) hx hb dX7_votesOnMap_3 rfl hl (by decide) rfl (fun ls hl => ?_)
  have L_1 : ∀ (mm : Nat) (i : Nat), (36 - i) < mm → (i ≤ 36) → ∀ (H : Heap) (locs : List Loc) (ls : Array Slot), ST x (AA x) s.heap ar fd H locs → lv_has ls 4 [(0, .ref (xa x 102)), (1, .int (nI pt)), (2, .int (smI (A (vk (nI pt) + 1)) i)), (3, .int (nI i))] → W p l e (rmZ 0 0) s m ([.ref (xa x 102), .int (nI pt)] : List Value).toArray below meth c H locs 0 0 (QP below x [.ref (xa x 102), .int (nI pt)] ar fd s (fun r => r = smI (A (vk (nI pt) + 1)) 36)) (F0 m 4 ls []) := by
    intro mm
    induction mm with
    | zero => intro i hmu; exact absurd hmu (Nat.not_lt_zero _)
    | succ mm ih_1 =>
      intro i hmu hi H locs ls hs hl
      refine lv_iload_n hx hb dX7_votesOnMap_4 rfl (lv_at hl 3 rfl) ?_
      refine lv_bipush (v := nI 36) hx hb dX7_votesOnMap_5 (by decide) ?_
      refine lv_icmp_ge (tgt := 29) hx hb dX7_votesOnMap_7 (by decide) (fun c_2 => ?_) (fun c_2 => ?_)
      · have c_2 : 36 ≤ i := (nI_leI (a := 36) (b := i) (by omega) (by omega)).mp c_2
        refine lv_iload_n hx hb dX7_votesOnMap_29 rfl (lv_at hl 2 rfl) ?_
        exact zeP E hs (by rw [show i = 36 by omega]) dX7_votesOnMap_30
      · have c_2 : ¬ (36 ≤ i) := fun h => c_2 ((nI_leI (a := 36) (b := i) (by omega) (by omega)).mpr h)
        refine lv_iload_n hx hb dX7_votesOnMap_10 rfl (lv_at hl 2 rfl) ?_
        refine lv_aload_n hx hb dX7_votesOnMap_11 rfl (lv_at hl 0 rfl) ?_
        refine zg6 E hs (k := 102) rfl 0 (by decide) rfl q_514 dX7_votesOnMap_12 ?_
        refine lv_iconst (v := nI 2) hx hb dX7_votesOnMap_15 (by decide) ?_
        refine lv_iload_n hx hb dX7_votesOnMap_16 rfl (lv_at hl 3 rfl) ?_
        refine lv_imul hx hb dX7_votesOnMap_17 ?_
        refine tp (b := nI (2 * i)) (nI_mul _ _) ?_
        refine lv_iload_n hx hb dX7_votesOnMap_18 rfl (lv_at hl 1 rfl) ?_
        refine lv_iadd hx hb dX7_votesOnMap_19 ?_
        refine tp (b := nI ((2 * i) + pt)) (nI_add _ _) ?_
        refine zald E hs 103 (n := 196) (j := ((2 * i) + pt)) rfl rfl (by omega) (by decide) dX7_votesOnMap_20 ?_
        refine tp (b := A (vk (nI pt) + 1) i) (hH _ (by omega)) ?_
        refine lv_iadd hx hb dX7_votesOnMap_21 ?_
        refine lv_istore_n (lv' := [(2, .int ((smI (A (vk (nI pt) + 1)) i) + (A (vk (nI pt) + 1) i))), (0, .ref (xa x 102)), (1, .int (nI pt)), (3, .int (nI i))]) hx hb dX7_votesOnMap_22 rfl hl (by decide) rfl (fun ls hl => ?_)
        refine lv_iinc (v := nI (i + 1)) (lv' := [(3, .int (nI (i + 1))), (2, .int ((smI (A (vk (nI pt) + 1)) i) + (A (vk (nI pt) + 1) i))), (0, .ref (xa x 102)), (1, .int (nI pt))]) hx hb dX7_votesOnMap_23 hl (k := 3) rfl (nI_inc _) (by decide) rfl (fun ls hl => ?_)
        refine lv_goto (tgt := 4) hx hb dX7_votesOnMap_26 (by decide) ?_
        exact ih_1 (i + 1) (by omega) (by omega) _ _ _ hs (lvr (lv_at hl 2 rfl) (lvr (lv_at hl 3 rfl) (lvc (lv_at hl 1 rfl) (smI_s _ _).symm (lvr (lv_at hl 0 rfl) (lvn hl)))))
  exact L_1 (_ + 1) 0 (Nat.lt_succ_self _) (by omega) _ _ _ hs (lvr (lv_at hl 2 rfl) (lvr (lv_at hl 3 rfl) (lvc (lv_at hl 1 rfl) nI_0 (lvr (lv_at hl 0 rfl) (lvn hl)))))
