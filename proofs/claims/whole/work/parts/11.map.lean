
/-! the class itself -/
def CInv (ar fd : AR) (w f o z n : Nat) : Prop := fd 1 7 = nI w ∧ fd 1 8 = nI f ∧ f ≤ w ∧ w ≤ 9 ∧ 2 ≤ w ∧ fd 16 1 = nI o ∧ fd 16 2 = nI z ∧ o < 4 ∧ z ≤ 4 ∧ fd 93 1 = nI n ∧ n ≤ 60 ∧ CHS (ar 94)
theorem cell_of {a : Int32} {n : Nat} (h : ¬ a < nI 0 ∧ ¬ nI n < a) (hn : n < 2 ^ 31 - 1) : a.toNatClampNeg < n + 1 ∧ a = nI a.toNatClampNeg := by
  obtain ⟨j, hj, rfl⟩ := nI_of (x := a) (fun q => h.1 q)
  rw [nI_clamp hj]
  refine ⟨?_, rfl⟩
  rcases Nat.lt_or_ge n j with q | q
  · exact absurd (nI_lt q hj) h.2
  · omega
theorem dist_of {a : Int32} {n : Nat} (h : ¬ a < nI 0 ∧ ¬ nI n - nI 1 < a) (hn : n ≤ 9) : a.toNatClampNeg < n ∧ a = nI a.toNatClampNeg := by
  obtain ⟨j, hj, rfl⟩ := nI_of (x := a) (fun q => h.1 q)
  rw [nI_clamp hj]
  refine ⟨?_, rfl⟩
  rcases Nat.lt_or_ge j n with q | q
  · exact q
  · by_cases h0 : n = 0
    · subst h0
      exact absurd (show nI 0 - nI 1 < nI j by rw [Int32.lt_iff_toInt_lt, nI_toInt hj, show (nI 0 - nI 1).toInt = -1 by decide]; omega) h.2
    · rw [nI_sub (by omega)] at h
      exact absurd (nI_lt (show n - 1 < j by omega) hj) h.2
def divs (v : Int32) : Prop := v = nI 2 ∨ v = nI 3 ∨ v = nI 4 ∨ v = nI 6 ∨ v = nI 9
theorem div_of {v : Int32} (h : divs v) : v = nI v.toNatClampNeg ∧ v.toNatClampNeg ≤ 9 ∧ 2 ≤ v.toNatClampNeg := by
  rcases h with rfl | rfl | rfl | rfl | rfl <;> decide
noncomputable def nnI (v : Int32) : Int32 := iz (v = -1) (-5) v
/-- the snake's k-th cell -/
def csR (k : Nat) : Nat := k / 6 * 6 + (if k / 6 % 2 = 1 then 5 - k % 6 else k % 6)
def csC (k : Nat) : Nat := (if k / 6 % 2 = 1 then 5 - k % 6 else k % 6) * 6 + k / 6
def csCi (c : Nat) : Nat := c % 6 * 6 + (if c % 6 % 2 = 1 then 5 - c / 6 else c / 6)
noncomputable def csN (B : Prop) (k : Nat) : Nat := iz B (csC k) (csR k)
noncomputable def csI (B : Prop) (c : Nat) : Nat := iz B (csCi c) (csR c)
theorem csR_36 : ∀ k, k < 36 → csR k < 36 ∧ csR (csR k) = k := by decide +kernel
theorem csC_36 : ∀ k, k < 36 → csC k < 36 ∧ csCi (csC k) = k ∧ csCi k < 36 ∧ csC (csCi k) = k := by decide +kernel
theorem csN_36 (B : Prop) {k : Nat} (h : k < 36) : csN B k < 36 ∧ csI B (csN B k) = k ∧ csI B k < 36 ∧ csN B (csI B k) = k := by
  unfold csN csI
  by_cases hB : B
  · simp only [iz_t hB]; exact csC_36 k h
  · simp only [iz_f hB]; exact ⟨(csR_36 k h).1, (csR_36 k h).2, (csR_36 k h).1, (csR_36 k h).2⟩
theorem csN_inj (B : Prop) {i k : Nat} (hi : i < 36) (hk : k < 36) (h : csN B i = csN B k) : i = k := by
  have h1 := (csN_36 B hi).2.1
  rw [h, (csN_36 B hk).2.1] at h1
  exact h1.symm
/-- how many open cells the snake has passed before its k-th -/
noncomputable def OQ (dis : Nat → Int32) (B : Prop) (k : Nat) : Nat := ct (fun j => dis (csN B j) = -1) k
noncomputable def plV (dis : Nat → Int32) (B : Prop) (sz k : Nat) : Int32 := iz (dis (csN B k) = -1) (nI (OQ dis B k / sz)) (-1)
noncomputable def plF (dis : Nat → Int32) (B : Prop) (sz : Nat) : Nat → Int32 := fun c => plV dis B sz (csI B c)
theorem dm_s {q sz : Nat} (hz : 0 < sz) (h : q % sz + 1 = sz) : (q + 1) / sz = q / sz + 1 ∧ (q + 1) % sz = 0 := by
  have h1 := Nat.mod_add_div q sz
  have h2 : q + 1 = sz * (q / sz + 1) := by rw [Nat.mul_add, Nat.mul_one]; omega
  rw [h2]
  exact ⟨Nat.mul_div_cancel_left _ hz, Nat.mul_mod_right _ _⟩
theorem dm_n {q sz : Nat} (hz : 0 < sz) (h : ¬ q % sz + 1 = sz) : (q + 1) / sz = q / sz ∧ (q + 1) % sz = q % sz + 1 := by
  have h1 := Nat.mod_add_div q sz
  have h3 := Nat.mod_lt q hz
  have h2 : q + 1 = (q % sz + 1) + sz * (q / sz) := by omega
  constructor
  · rw [h2, Nat.add_mul_div_left _ _ hz, Nat.div_eq_of_lt (by omega)]; omega
  · rw [h2, Nat.add_mul_mod_self_left, Nat.mod_eq_of_lt (by omega)]
/-! what recording leaves as it was -/
theorem cpA_n {d s2 k : Nat} {ar : AR} (h : k < d ∨ d + 14 < k) : cpA d s2 ar k = ar k := by
  unfold cpA
  rw [zu_n _ _ (by omega), zu_n _ _ (by omega), zu_n _ _ (by omega), zu_n _ _ (by omega), zu_n _ _ (by omega), zu_n _ _ (by omega), zu_n _ _ (by omega)]
theorem rec_ar {ar fd : AR} {o z k : Nat} (h : k < 18 ∨ 77 < k) : (sp_record ar fd o z).1 k = ar k := by
  unfold sp_record
  by_cases c : 4 ≤ z
  · rw [iz_t c]; exact cpA_n (by omega)
  · rw [iz_f c]; exact cpA_n (by omega)
theorem rec_fd {ar fd : AR} {o z k : Nat} (h : k < 16 ∨ k = 17 ∨ 77 < k) : (sp_record ar fd o z).2 k = fd k := by
  unfold sp_record
  by_cases c : 4 ≤ z
  · rw [iz_t c]; show zu (zu fd _ _) 16 _ k = _; rw [zu_n _ _ (by omega), zu_n _ _ (by omega)]
  · rw [iz_f c]; show zu (zu fd _ _) 16 _ k = _; rw [zu_n _ _ (by omega), zu_n _ _ (by omega)]
theorem rec_J {a b fd : AR} {o z : Nat} (h : JQ a b) : JQ (sp_record a fd o z).1 (sp_record b fd o z).1 ∧ (sp_record b fd o z).2 = (sp_record a fd o z).2 := by
  have key : JQ (cpA (18 + 15 * ((o + z) % 4)) 1 a) (cpA (18 + 15 * ((o + z) % 4)) 1 b) := by
    intro k h1 h2
    unfold cpA zu
    rw [h (1 + 2) (by decide) (by decide), h (1 + 4) (by decide) (by decide), h (1 + 6) (by decide) (by decide), h (1 + 8) (by decide) (by decide), h (1 + 10) (by decide) (by decide), h (1 + 12) (by decide) (by decide), h (1 + 14) (by decide) (by decide), h k h1 h2]
  unfold sp_record
  by_cases c : 4 ≤ z
  · rw [iz_t c, iz_t c]; exact ⟨key, rfl⟩
  · rw [iz_f c, iz_f c]; exact ⟨key, rfl⟩
theorem sa_7 (ar fd : AR) (v : Int32) : (sp_startAnew ar fd v).2 1 7 = v := by simp [sp_startAnew, zu]
/-- the votes that a text of m pairs sets, from the cell c on -/
noncomputable def rvA (A : AR) (t : Nat → Int32) (c m : Nat) : AR := zu (zu A 3 (fun j => iz (c ≤ j ∧ j < c + m) (t ((j - c) * 3) - nI 48) (A 3 j))) 5 (fun j => iz (c ≤ j ∧ j < c + m) (t ((j - c) * 3 + 1) - nI 48) (A 5 j))

set_option maxHeartbeats 4000000 in
set_option maxRecDepth 100000 in
/-- isFromTo -/
theorem c_X6_isFromTo (l : Launch) (x : CT) (ar fd : AR) (v lo hi : Int32) : CP l yX6_isFromTo cX6_isFromTo 3 (some .boolean) 0 0 x [.int v, .int lo, .int hi] ar fd (fun r => r = bz (¬ v < lo ∧ ¬ hi < v)) := by
  refine zsP (own := RX6) rfl (by decide +kernel) (Nat.le_of_ble_eq_true rfl) ?_
  intro p e s m below meth c ls E hs hl
  have hx := E.1
  have hb := E.2.1
  have hl : lv_has ls 3 [(0, .int v), (1, .int lo), (2, .int hi)] := hl
  refine lv_iload_n hx hb dX6_isFromTo_0 rfl (lv_at hl 0 rfl) ?_
  refine lv_iload_n hx hb dX6_isFromTo_1 rfl (lv_at hl 1 rfl) ?_
  refine lv_icmp_lt (tgt := 14) hx hb dX6_isFromTo_2 (by decide) (fun c_1 => ?_) (fun c_1 => ?_)
  · refine lv_iconst (v := nI 0) hx hb dX6_isFromTo_14 (by decide) ?_
    exact zePn E hs rfl (bz_f (fun h => h.1 c_1)).symm dX6_isFromTo_15
  · refine lv_iload_n hx hb dX6_isFromTo_5 rfl (lv_at hl 0 rfl) ?_
    refine lv_iload_n hx hb dX6_isFromTo_6 rfl (lv_at hl 2 rfl) ?_
    refine lv_icmp_gt (tgt := 14) hx hb dX6_isFromTo_7 (by decide) (fun c_2 => ?_) (fun c_2 => ?_)
    · refine lv_iconst (v := nI 0) hx hb dX6_isFromTo_14 (by decide) ?_
      exact zePn E hs rfl (bz_f (fun h => h.2 c_2)).symm dX6_isFromTo_15
    · refine lv_iconst (v := nI 1) hx hb dX6_isFromTo_10 (by decide) ?_
      refine lv_goto (tgt := 15) hx hb dX6_isFromTo_11 (by decide) ?_
      exact zePn E hs rfl (bz_t ⟨c_1, c_2⟩).symm dX6_isFromTo_15

set_option maxHeartbeats 4000000 in
set_option maxRecDepth 100000 in
/-- isCell -/
theorem c_X6_isCell (l : Launch) (x : CT) (ar fd : AR) (v : Int32) : CP l yX6_isCell cX6_isCell 1 (some .boolean) 1 22 x [.int v] ar fd (fun r => r = bz (¬ v < nI 0 ∧ ¬ nI 35 < v)) := by
  refine zsP (own := RX6) rfl (by decide +kernel) (Nat.le_of_ble_eq_true rfl) ?_
  intro p e s m below meth c ls E hs hl
  have hx := E.1
  have hb := E.2.1
  have hl : lv_has ls 1 [(0, .int v)] := hl
  refine lv_iload_n hx hb dX6_isCell_0 rfl (lv_at hl 0 rfl) ?_
  refine lv_iconst (v := nI 0) hx hb dX6_isCell_1 (by decide) ?_
  refine lv_bipush (v := nI 35) hx hb dX6_isCell_2 (by decide) ?_
  refine zSP E hs lkX6_57 [] (c_X6_isFromTo l x ar fd v (nI 0) (nI 35)) ⟨Nat.le_of_ble_eq_true rfl, Nat.le_of_ble_eq_true rfl⟩ rfl hl.1 (Nat.le_of_ble_eq_true rfl) rfl dX6_isCell_4 (fun r_1 H locs hp_2 hs => ?_)
  subst hp_2
  exact zePn E hs (bz_n _) rfl dX6_isCell_7

set_option maxHeartbeats 4000000 in
set_option maxRecDepth 100000 in
/-- isParty -/
theorem c_X6_isParty (l : Launch) (x : CT) (ar fd : AR) (v : Int32) : CP l yX6_isParty cX6_isParty 1 (some .boolean) 1 22 x [.int v] ar fd (fun r => r = bz (¬ v < nI 0 ∧ ¬ nI 1 < v)) := by
  refine zsP (own := RX6) rfl (by decide +kernel) (Nat.le_of_ble_eq_true rfl) ?_
  intro p e s m below meth c ls E hs hl
  have hx := E.1
  have hb := E.2.1
  have hl : lv_has ls 1 [(0, .int v)] := hl
  refine lv_iload_n hx hb dX6_isParty_0 rfl (lv_at hl 0 rfl) ?_
  refine lv_iconst (v := nI 0) hx hb dX6_isParty_1 (by decide) ?_
  refine lv_iconst (v := nI 1) hx hb dX6_isParty_2 (by decide) ?_
  refine zSP E hs lkX6_57 [] (c_X6_isFromTo l x ar fd v (nI 0) (nI 1)) ⟨Nat.le_of_ble_eq_true rfl, Nat.le_of_ble_eq_true rfl⟩ rfl hl.1 (Nat.le_of_ble_eq_true rfl) rfl dX6_isParty_3 (fun r_1 H locs hp_2 hs => ?_)
  subst hp_2
  exact zePn E hs (bz_n _) rfl dX6_isParty_6

set_option maxHeartbeats 4000000 in
set_option maxRecDepth 100000 in
/-- dividesTheMap -/
theorem c_X6_dividesTheMap (l : Launch) (x : CT) (ar fd : AR) (v : Int32) : CP l yX6_dividesTheMap cX6_dividesTheMap 1 (some .boolean) 0 0 x [.int v] ar fd (fun r => r = bz (divs v)) := by
  refine zsP (own := RX6) rfl (by decide +kernel) (Nat.le_of_ble_eq_true rfl) ?_
  intro p e s m below meth c ls E hs hl
  have hx := E.1
  have hb := E.2.1
  have hl : lv_has ls 1 [(0, .int v)] := hl
  refine lv_iload_n hx hb dX6_dividesTheMap_0 rfl (lv_at hl 0 rfl) ?_
  refine lv_iconst (v := nI 2) hx hb dX6_dividesTheMap_1 (by decide) ?_
  refine lv_icmp_eq (tgt := 27) hx hb dX6_dividesTheMap_2 (by decide) (fun c_1 => ?_) (fun c_1 => ?_)
  · refine lv_iconst (v := nI 1) hx hb dX6_dividesTheMap_27 (by decide) ?_
    refine lv_goto (tgt := 32) hx hb dX6_dividesTheMap_28 (by decide) ?_
    exact zePn E hs rfl (bz_t (Or.inl c_1)).symm dX6_dividesTheMap_32
  · refine lv_iload_n hx hb dX6_dividesTheMap_5 rfl (lv_at hl 0 rfl) ?_
    refine lv_iconst (v := nI 3) hx hb dX6_dividesTheMap_6 (by decide) ?_
    refine lv_icmp_eq (tgt := 27) hx hb dX6_dividesTheMap_7 (by decide) (fun c_2 => ?_) (fun c_2 => ?_)
    · refine lv_iconst (v := nI 1) hx hb dX6_dividesTheMap_27 (by decide) ?_
      refine lv_goto (tgt := 32) hx hb dX6_dividesTheMap_28 (by decide) ?_
      exact zePn E hs rfl (bz_t (Or.inr (Or.inl c_2))).symm dX6_dividesTheMap_32
    · refine lv_iload_n hx hb dX6_dividesTheMap_10 rfl (lv_at hl 0 rfl) ?_
      refine lv_iconst (v := nI 4) hx hb dX6_dividesTheMap_11 (by decide) ?_
      refine lv_icmp_eq (tgt := 27) hx hb dX6_dividesTheMap_12 (by decide) (fun c_3 => ?_) (fun c_3 => ?_)
      · refine lv_iconst (v := nI 1) hx hb dX6_dividesTheMap_27 (by decide) ?_
        refine lv_goto (tgt := 32) hx hb dX6_dividesTheMap_28 (by decide) ?_
        exact zePn E hs rfl (bz_t (Or.inr (Or.inr (Or.inl c_3)))).symm dX6_dividesTheMap_32
      · refine lv_iload_n hx hb dX6_dividesTheMap_15 rfl (lv_at hl 0 rfl) ?_
        refine lv_bipush (v := nI 6) hx hb dX6_dividesTheMap_16 (by decide) ?_
        refine lv_icmp_eq (tgt := 27) hx hb dX6_dividesTheMap_18 (by decide) (fun c_4 => ?_) (fun c_4 => ?_)
        · refine lv_iconst (v := nI 1) hx hb dX6_dividesTheMap_27 (by decide) ?_
          refine lv_goto (tgt := 32) hx hb dX6_dividesTheMap_28 (by decide) ?_
          exact zePn E hs rfl (bz_t (Or.inr (Or.inr (Or.inr (Or.inl c_4))))).symm dX6_dividesTheMap_32
        · refine lv_iload_n hx hb dX6_dividesTheMap_21 rfl (lv_at hl 0 rfl) ?_
          refine lv_bipush (v := nI 9) hx hb dX6_dividesTheMap_22 (by decide) ?_
          refine lv_icmp_ne (tgt := 31) hx hb dX6_dividesTheMap_24 (by decide) (fun c_5 => ?_) (fun c_5 => ?_)
          · refine lv_iconst (v := nI 0) hx hb dX6_dividesTheMap_31 (by decide) ?_
            exact zePn E hs rfl (bz_f (fun h => by rcases h with h | h | h | h | h <;> contradiction)).symm dX6_dividesTheMap_32
          · refine lv_iconst (v := nI 1) hx hb dX6_dividesTheMap_27 (by decide) ?_
            refine lv_goto (tgt := 32) hx hb dX6_dividesTheMap_28 (by decide) ?_
            exact zePn E hs rfl (bz_t (Or.inr (Or.inr (Or.inr (Or.inr c_5))))).symm dX6_dividesTheMap_32

set_option maxHeartbeats 4000000 in
set_option maxRecDepth 100000 in
/-- noneIfNothing -/
theorem c_X6_noneIfNothing (l : Launch) (x : CT) (ar fd : AR) (v : Int32) : CP l yX6_noneIfNothing cX6_noneIfNothing 1 (some .int) 0 0 x [.int v] ar fd (fun r => r = nnI v) := by
  refine zsP (own := RX6) rfl (by decide +kernel) (Nat.le_of_ble_eq_true rfl) ?_
  intro p e s m below meth c ls E hs hl
  have hx := E.1
  have hb := E.2.1
  have hl : lv_has ls 1 [(0, .int v)] := hl
  refine lv_iload_n hx hb dX6_noneIfNothing_0 rfl (lv_at hl 0 rfl) ?_
  refine lv_iconst (v := (-1)) hx hb dX6_noneIfNothing_1 (by decide) ?_
  refine lv_icmp_ne (tgt := 10) hx hb dX6_noneIfNothing_2 (by decide) (fun c_1 => ?_) (fun c_1 => ?_)
  · refine lv_iload_n hx hb dX6_noneIfNothing_10 rfl (lv_at hl 0 rfl) ?_
    exact zeP E hs (by unfold nnI; rw [iz_f c_1]) dX6_noneIfNothing_11
  · refine lv_bipush (v := (-5)) hx hb dX6_noneIfNothing_5 (by decide) ?_
    refine lv_goto (tgt := 11) hx hb dX6_noneIfNothing_7 (by decide) ?_
    exact zeP E hs (by unfold nnI; rw [iz_t c_1]) dX6_noneIfNothing_11

set_option maxHeartbeats 4000000 in
set_option maxRecDepth 100000 in
/-- cellOfSnake -/
theorem c_X6_cellOfSnake (l : Launch) (x : CT) (ar fd : AR) (k : Nat) (hk : k < 36) (b : Int32) : CP l yX6_cellOfSnake cX6_cellOfSnake 4 (some .int) 0 0 x [.int (nI k), .int b] ar fd (fun r => r = nI (csN (¬ b = 0) k)) := by
  refine zsP (own := RX6) rfl (by decide +kernel) (Nat.le_of_ble_eq_true rfl) ?_
  intro p e s m below meth c ls E hs hl
  have hx := E.1
  have hb := E.2.1
  have hl : lv_has ls 4 [(0, .int (nI k)), (1, .int b)] := hl
  refine lv_iload_n hx hb dX6_cellOfSnake_0 rfl (lv_at hl 0 rfl) ?_
  refine lv_bipush (v := nI 6) hx hb dX6_cellOfSnake_1 (by decide) ?_
  refine lv_idiv hx hb dX6_cellOfSnake_3 (by decide) ?_
  refine tp (b := nI (k / 6)) (nI_div (by omega) (by omega)) ?_
  refine lv_istore_n (lv' := [(2, .int (nI (k / 6))), (0, .int (nI k)), (1, .int b)]) hx hb dX6_cellOfSnake_4 rfl hl (by decide) rfl (fun ls hl => ?_)
  refine lv_iload_n hx hb dX6_cellOfSnake_5 rfl (lv_at hl 1 rfl) ?_
  refine lv_bipush (v := nI 6) hx hb dX6_cellOfSnake_6 (by decide) ?_
  refine lv_irem hx hb dX6_cellOfSnake_8 (by decide) ?_
  refine tp (b := nI (k % 6)) (nI_rem (by omega) (by omega)) ?_
  refine lv_istore_n (lv' := [(3, .int (nI (k % 6))), (2, .int (nI (k / 6))), (0, .int (nI k)), (1, .int b)]) hx hb dX6_cellOfSnake_9 rfl hl (by decide) rfl (fun ls hl => ?_)
  refine lv_iload_n hx hb dX6_cellOfSnake_10 rfl (lv_at hl 1 rfl) ?_
  refine lv_iconst (v := nI 2) hx hb dX6_cellOfSnake_11 (by decide) ?_
  refine lv_irem hx hb dX6_cellOfSnake_12 (by decide) ?_
  refine tp (b := nI ((k / 6) % 2)) (nI_rem (by omega) (by omega)) ?_
  refine lv_iconst (v := nI 1) hx hb dX6_cellOfSnake_13 (by decide) ?_
  refine lv_icmp_ne (tgt := 21) hx hb dX6_cellOfSnake_14 (by decide) (fun c_1 => ?_) (fun c_1 => ?_)
  · have c_1 : ¬ ((k / 6) % 2 = 1) := fun h => c_1 ((nI_eq (a := (k / 6) % 2) (b := 1) (by omega) (by omega)).mpr h)
    refine lv_iload_n hx hb dX6_cellOfSnake_21 rfl (lv_at hl 3 rfl) ?_
    refine lv_if_eq (tgt := 34) hx hb dX6_cellOfSnake_22 (by decide) (fun c_2 => ?_) (fun c_2 => ?_)
    · refine lv_iload_n hx hb dX6_cellOfSnake_34 rfl (lv_at hl 1 rfl) ?_
      refine lv_bipush (v := nI 6) hx hb dX6_cellOfSnake_35 (by decide) ?_
      refine lv_imul hx hb dX6_cellOfSnake_37 ?_
      refine tp (b := nI ((k / 6) * 6)) (nI_mul _ _) ?_
      refine lv_iload_n hx hb dX6_cellOfSnake_38 rfl (lv_at hl 0 rfl) ?_
      refine lv_iadd hx hb dX6_cellOfSnake_39 ?_
      refine tp (b := nI (((k / 6) * 6) + (k % 6))) (nI_add _ _) ?_
      exact zeP E hs (by unfold csN csC csR; rw [iz_f (not_not_intro c_2)]; simp only [if_neg c_1]) dX6_cellOfSnake_40
    · refine lv_iload_n hx hb dX6_cellOfSnake_25 rfl (lv_at hl 0 rfl) ?_
      refine lv_bipush (v := nI 6) hx hb dX6_cellOfSnake_26 (by decide) ?_
      refine lv_imul hx hb dX6_cellOfSnake_28 ?_
      refine tp (b := nI ((k % 6) * 6)) (nI_mul _ _) ?_
      refine lv_iload_n hx hb dX6_cellOfSnake_29 rfl (lv_at hl 1 rfl) ?_
      refine lv_iadd hx hb dX6_cellOfSnake_30 ?_
      refine tp (b := nI (((k % 6) * 6) + (k / 6))) (nI_add _ _) ?_
      refine lv_goto (tgt := 40) hx hb dX6_cellOfSnake_31 (by decide) ?_
      exact zeP E hs (by unfold csN csC csR; rw [iz_t c_2]; simp only [if_neg c_1]) dX6_cellOfSnake_40
  · have c_1 : (k / 6) % 2 = 1 := (nI_eq (a := (k / 6) % 2) (b := 1) (by omega) (by omega)).mp c_1
    refine lv_iconst (v := nI 5) hx hb dX6_cellOfSnake_17 (by decide) ?_
    refine lv_iload_n hx hb dX6_cellOfSnake_18 rfl (lv_at hl 0 rfl) ?_
    refine lv_isub hx hb dX6_cellOfSnake_19 ?_
    refine tp (b := nI (5 - (k % 6))) (nI_sub (by omega)) ?_
    refine lv_istore_n (lv' := [(3, .int (nI (5 - (k % 6)))), (2, .int (nI (k / 6))), (0, .int (nI k)), (1, .int b)]) hx hb dX6_cellOfSnake_20 rfl hl (by decide) rfl (fun ls hl => ?_)
    refine lv_iload_n hx hb dX6_cellOfSnake_21 rfl (lv_at hl 3 rfl) ?_
    refine lv_if_eq (tgt := 34) hx hb dX6_cellOfSnake_22 (by decide) (fun c_3 => ?_) (fun c_3 => ?_)
    · refine lv_iload_n hx hb dX6_cellOfSnake_34 rfl (lv_at hl 1 rfl) ?_
      refine lv_bipush (v := nI 6) hx hb dX6_cellOfSnake_35 (by decide) ?_
      refine lv_imul hx hb dX6_cellOfSnake_37 ?_
      refine tp (b := nI ((k / 6) * 6)) (nI_mul _ _) ?_
      refine lv_iload_n hx hb dX6_cellOfSnake_38 rfl (lv_at hl 0 rfl) ?_
      refine lv_iadd hx hb dX6_cellOfSnake_39 ?_
      refine tp (b := nI (((k / 6) * 6) + (5 - (k % 6)))) (nI_add _ _) ?_
      exact zeP E hs (by unfold csN csC csR; rw [iz_f (not_not_intro c_3)]; simp only [if_pos c_1]) dX6_cellOfSnake_40
    · refine lv_iload_n hx hb dX6_cellOfSnake_25 rfl (lv_at hl 0 rfl) ?_
      refine lv_bipush (v := nI 6) hx hb dX6_cellOfSnake_26 (by decide) ?_
      refine lv_imul hx hb dX6_cellOfSnake_28 ?_
      refine tp (b := nI ((5 - (k % 6)) * 6)) (nI_mul _ _) ?_
      refine lv_iload_n hx hb dX6_cellOfSnake_29 rfl (lv_at hl 1 rfl) ?_
      refine lv_iadd hx hb dX6_cellOfSnake_30 ?_
      refine tp (b := nI (((5 - (k % 6)) * 6) + (k / 6))) (nI_add _ _) ?_
      refine lv_goto (tgt := 40) hx hb dX6_cellOfSnake_31 (by decide) ?_
      exact zeP E hs (by unfold csN csC csR; rw [iz_t c_3]; simp only [if_pos c_1]) dX6_cellOfSnake_40

set_option maxHeartbeats 4000000 in
set_option maxRecDepth 100000 in
/-- oneIfCut -/
theorem c_X6_oneIfCut (l : Launch) (x : CT) (ar fd : AR) (w f : Nat) (hw : fd 1 7 = nI w) (hf : fd 1 8 = nI f) (hfw : f ≤ w) (hw9 : w ≤ 9) (hw2 : 2 ≤ w) : CI l yX6_oneIfCut cX6_oneIfCut 1 (some .int) 5 117 x [.ref (xa x 0)] ar fd (fun r ar' fd' => r = bz (rsnA ar w f = nI 0) ∧ JQ ar ar' ∧ fd' = fd) := by
  refine zsI (own := RX6) rfl (by decide +kernel) (Nat.le_of_ble_eq_true rfl) ?_
  intro p e s m below meth c ls E hs hl
  have hx := E.1
  have hb := E.2.1
  have hl : lv_has ls 1 [(0, .ref (xa x 0))] := hl
  refine lv_aload_n hx hb dX6_oneIfCut_0 rfl (lv_at hl 0 rfl) ?_
  refine zg5 E hs (k := 0) rfl 5 (by decide) rfl q_135 dX6_oneIfCut_1 ?_
  refine lv_aload_n hx hb dX6_oneIfCut_4 rfl (lv_at hl 0 rfl) ?_
  refine zg5 E hs (k := 0) rfl 0 (by decide) rfl q_130 dX6_oneIfCut_5 ?_
  refine zVI E hs lkX6_132 [] (c_X2_reason l x ar fd w f hw hf hfw hw9 hw2) (by decide) (sh1 rfl) rfl ⟨Nat.le_of_ble_eq_true rfl, Nat.le_of_ble_eq_true rfl⟩ rfl hl.1 (Nat.le_of_ble_eq_true rfl) rfl dX6_oneIfCut_8 (fun r_1 arr_1 fdr_1 H locs hp_2 hs => ?_)
  rw [hp_2.2.2] at hs
  have hJ_r_1 := hp_2.2.1
  refine tp (b := rsnA ar w f) hp_2.1 ?_
  refine lv_if_ne (tgt := 18) hx hb dX6_oneIfCut_11 (by decide) (fun c_3 => ?_) (fun c_3 => ?_)
  · refine lv_iconst (v := nI 0) hx hb dX6_oneIfCut_18 (by decide) ?_
    exact zeI E hs ⟨(bz_f c_3).symm, hJ_r_1, rfl⟩ dX6_oneIfCut_19
  · refine lv_iconst (v := nI 1) hx hb dX6_oneIfCut_14 (by decide) ?_
    refine lv_goto (tgt := 19) hx hb dX6_oneIfCut_15 (by decide) ?_
    exact zeI E hs ⟨(bz_t c_3).symm, hJ_r_1, rfl⟩ dX6_oneIfCut_19

set_option maxHeartbeats 4000000 in
set_option maxRecDepth 100000 in
/-- planSnake -/
theorem c_X6_planSnake (l : Launch) (x : CT) (ar fd : AR) (w : Nat) (hw : fd 1 7 = nI w) (hw9 : w ≤ 9) (hw2 : 2 ≤ w) (b : Int32) : CV l yX6_planSnake cX6_planSnake 6 2 42 x [.ref (xa x 0), .int b] ar fd (fun ar' fd' => ar' = zu ar 101 (plF (ar 9) (¬ b = 0) (36 / w)) ∧ fd' = fd) := by
  refine zsV (own := RX6) rfl (by decide +kernel) (Nat.le_of_ble_eq_true rfl) ?_
  intro p e s m below meth c ls E hs hl
  have hx := E.1
  have hb := E.2.1
  have hl : lv_has ls 6 [(0, .ref (xa x 0)), (1, .int b)] := hl
  have hsz : 0 < 36 / w := Nat.div_pos (by omega) (by omega)
  have hsz36 : 36 / w ≤ 36 := Nat.div_le_self _ _
  refine lv_aload_n hx hb dX6_planSnake_0 rfl (lv_at hl 0 rfl) ?_
  refine zg5 E hs (k := 0) rfl 6 (by decide) rfl q_136 dX6_planSnake_1 ?_
  refine lv_iconst (v := (-1)) hx hb dX6_planSnake_4 (by decide) ?_
  refine zVV E hs lkX6_230 [] (c_X3_fill l x 100 36 ro_100 ar fd (-1)) (by decide) (sh2 rfl) rfl ⟨Nat.le_of_ble_eq_true rfl, Nat.le_of_ble_eq_true rfl⟩ rfl hl.1 (Nat.le_of_ble_eq_true rfl) rfl dX6_planSnake_5 (fun arr_1 fdr_1 H locs hp_2 hs => ?_)
  rw [hp_2.1, hp_2.2] at hs
  refine lv_iconst (v := nI 0) hx hb dX6_planSnake_8 (by decide) ?_
  refine lv_istore_n (lv' := [(2, .int (nI 0)), (0, .ref (xa x 0)), (1, .int b)]) hx hb dX6_planSnake_9 rfl hl (by decide) rfl (fun ls hl => ?_)
  refine lv_iconst (v := nI 0) hx hb dX6_planSnake_10 (by decide) ?_
  refine lv_istore_n (lv' := [(3, .int (nI 0)), (2, .int (nI 0)), (0, .ref (xa x 0)), (1, .int b)]) hx hb dX6_planSnake_11 rfl hl (by decide) rfl (fun ls hl => ?_)
  refine lv_iconst (v := nI 0) hx hb dX6_planSnake_12 (by decide) ?_
  refine lv_istore (lv' := [(4, .int (nI 0)), (3, .int (nI 0)), (2, .int (nI 0)), (0, .ref (xa x 0)), (1, .int b)]) hx hb dX6_planSnake_13 hl (by decide) rfl (fun ls hl => ?_)
  have L_3 : ∀ (mm : Nat) (i : Nat) (ar1 : AR), (36 - i) < mm → (i ≤ 36) → (∀ k, k < i → ar1 101 (csN (¬ b = 0) k) = plV (ar 9) (¬ b = 0) (36 / w) k) → (∀ k, i ≤ k → k < 36 → ar1 101 (csN (¬ b = 0) k) = -1) → (∀ q, q ≠ 101 → ar1 q = ar q) → ∀ (H : Heap) (locs : List Loc) (ls : Array Slot), ST x (AA x) s.heap ar1 fd H locs → lv_has ls 6 [(0, .ref (xa x 0)), (1, .int b), (2, .int (nI (OQ (ar 9) (¬ b = 0) i / (36 / w)))), (3, .int (nI (OQ (ar 9) (¬ b = 0) i % (36 / w)))), (4, .int (nI i))] → W p l e (rmZ 2 42) s m ([.ref (xa x 0), .int b] : List Value).toArray below meth c H locs 0 0 (QV below x [.ref (xa x 0), .int b] s (fun ar' fd' => ar' = zu ar 101 (plF (ar 9) (¬ b = 0) (36 / w)) ∧ fd' = fd)) (F0 m 15 ls []) := by
    intro mm
    induction mm with
    | zero => intro i ar1 hmu; exact absurd hmu (Nat.not_lt_zero _)
    | succ mm ih_3 =>
      intro i ar1 hmu hi h1 h2 h3 H locs ls hs hl
      have hmod : OQ (ar 9) (¬ b = 0) i % (36 / w) < 36 / w := Nat.mod_lt _ hsz
      refine lv_iload hx hb dX6_planSnake_15 (lv_at hl 4 rfl) ?_
      refine lv_bipush (v := nI 36) hx hb dX6_planSnake_17 (by decide) ?_
      refine lv_icmp_ge (tgt := 77) hx hb dX6_planSnake_19 (by decide) (fun c_4 => ?_) (fun c_4 => ?_)
      · have c_4 : 36 ≤ i := (nI_leI (a := 36) (b := i) (by omega) (by omega)).mp c_4
        have hs : ST x (AA x) s.heap (zu ar 101 (plF (ar 9) (¬ b = 0) (36 / w))) fd H locs := ⟨wl_ext hs.1 (fun q _ i2 hi2 => by
          by_cases e : q = 101
          · subst e
            have h36 : rl 101 = 36 := rfl
            obtain ⟨-, -, g1, g2⟩ := csN_36 (¬ b = 0) (show i2 < 36 by omega)
            rw [zu_s]
            have h9 := h1 (csI (¬ b = 0) i2) (by omega)
            rw [g2] at h9
            exact h9.symm
          · rw [zu_n _ _ e, h3 q e]), hs.2⟩
        exact zeV E hs ⟨rfl, rfl⟩ dX6_planSnake_77
      · have c_4 : ¬ (36 ≤ i) := fun h => c_4 ((nI_leI (a := 36) (b := i) (by omega) (by omega)).mpr h)
        refine lv_iload hx hb dX6_planSnake_22 (lv_at hl 4 rfl) ?_
        refine lv_iload_n hx hb dX6_planSnake_24 rfl (lv_at hl 1 rfl) ?_
        refine zSP E hs lkX6_233 [] (c_X6_cellOfSnake l x ar1 fd i (by omega) b) ⟨Nat.le_of_ble_eq_true rfl, Nat.le_of_ble_eq_true rfl⟩ rfl hl.1 (Nat.le_of_ble_eq_true rfl) rfl dX6_planSnake_25 (fun r_5 H locs hp_6 hs => ?_)
        subst hp_6
        refine lv_istore (lv' := [(5, .int (nI (csN (¬ b = 0) i))), (0, .ref (xa x 0)), (1, .int b), (2, .int (nI (OQ (ar 9) (¬ b = 0) i / (36 / w)))), (3, .int (nI (OQ (ar 9) (¬ b = 0) i % (36 / w)))), (4, .int (nI i))]) hx hb dX6_planSnake_28 hl (by decide) rfl (fun ls hl => ?_)
        obtain ⟨hcs, -, -, -⟩ := csN_36 (¬ b = 0) (show i < 36 by omega)
        refine lv_aload_n hx hb dX6_planSnake_30 rfl (lv_at hl 1 rfl) ?_
        refine zg5 E hs (k := 0) rfl 0 (by decide) rfl q_130 dX6_planSnake_31 ?_
        refine lv_iload hx hb dX6_planSnake_34 (lv_at hl 0 rfl) ?_
        refine zVP E hs lkX6_99 [] (c_X4_isOpen l x ar1 fd (csN (¬ b = 0) i) (by omega)) (by decide) (sh3 rfl) rfl ⟨Nat.le_of_ble_eq_true rfl, Nat.le_of_ble_eq_true rfl⟩ rfl hl.1 (Nat.le_of_ble_eq_true rfl) rfl dX6_planSnake_36 (fun r_7 H locs hp_8 hs => ?_)
        rw [h3 9 (by decide)] at hp_8
        subst hp_8
        refine lv_if_eq (tgt := 71) hx hb dX6_planSnake_39 (by decide) (fun c_9 => ?_) (fun c_9 => ?_)
        · have c_9 : ¬ (ar 9 (csN (¬ b = 0) i) = -1) := bz_0 c_9
          refine lv_iinc (v := nI (i + 1)) (lv' := [(4, .int (nI (i + 1))), (5, .int (nI (csN (¬ b = 0) i))), (0, .ref (xa x 0)), (1, .int b), (2, .int (nI (OQ (ar 9) (¬ b = 0) i / (36 / w)))), (3, .int (nI (OQ (ar 9) (¬ b = 0) i % (36 / w))))]) hx hb dX6_planSnake_71 hl (k := 5) rfl (nI_inc _) (by decide) rfl (fun ls hl => ?_)
          refine lv_goto (tgt := 15) hx hb dX6_planSnake_74 (by decide) ?_
          exact ih_3 (i + 1) ar1 (by omega) (by omega) (fun k hk => by
                by_cases e : k = i
                · rw [e, h2 i (Nat.le_refl _) (by omega)]; unfold plV; rw [iz_f c_9]
                · exact h1 k (by omega)) (fun k hk hk2 => h2 k (by omega) hk2) h3 _ _ _ hs (lvr (lv_at hl 2 rfl) (lvr (lv_at hl 3 rfl) (lvc (lv_at hl 4 rfl) (by unfold OQ; rw [ct_f (P := fun j => ar 9 (csN (¬ b = 0) j) = -1) c_9]) (lvc (lv_at hl 5 rfl) (by unfold OQ; rw [ct_f (P := fun j => ar 9 (csN (¬ b = 0) j) = -1) c_9]) (lvr (lv_at hl 0 rfl) (lvn hl))))))
        · have c_9 : ar 9 (csN (¬ b = 0) i) = -1 := bz_1 c_9
          refine lv_aload_n hx hb dX6_planSnake_42 rfl (lv_at hl 1 rfl) ?_
          refine zg5 E hs (k := 0) rfl 6 (by decide) rfl q_136 dX6_planSnake_43 ?_
          refine lv_iload hx hb dX6_planSnake_46 (lv_at hl 0 rfl) ?_
          refine lv_iload_n hx hb dX6_planSnake_48 rfl (lv_at hl 3 rfl) ?_
          refine zVV E hs lkX6_75 [] (c_X3_put l x 100 36 ro_100 ar1 fd (nI (csN (¬ b = 0) i)) (nI (OQ (ar 9) (¬ b = 0) i / (36 / w)))) (by decide) (sh2 rfl) rfl ⟨Nat.le_of_ble_eq_true rfl, Nat.le_of_ble_eq_true rfl⟩ rfl hl.1 (Nat.le_of_ble_eq_true rfl) rfl dX6_planSnake_49 (fun arr_10 fdr_10 H locs hp_11 hs => ?_)
          rw [hp_11.1, hp_11.2] at hs
          rw [rowPut_n (j := (csN (¬ b = 0) i)) (by omega) (by decide)] at hs
          refine lv_iinc (v := nI (OQ (ar 9) (¬ b = 0) i % (36 / w) + 1)) (lv' := [(3, .int (nI (OQ (ar 9) (¬ b = 0) i % (36 / w) + 1))), (5, .int (nI (csN (¬ b = 0) i))), (0, .ref (xa x 0)), (1, .int b), (2, .int (nI (OQ (ar 9) (¬ b = 0) i / (36 / w)))), (4, .int (nI i))]) hx hb dX6_planSnake_52 hl (k := 4) rfl (nI_inc _) (by decide) rfl (fun ls hl => ?_)
          refine lv_iload_n hx hb dX6_planSnake_55 rfl (lv_at hl 0 rfl) ?_
          refine lv_aload_n hx hb dX6_planSnake_56 rfl (lv_at hl 2 rfl) ?_
          refine zg5 E hs (k := 0) rfl 0 (by decide) rfl q_130 dX6_planSnake_57 ?_
          refine zVP E hs lkX6_85 [.int (nI (OQ (ar 9) (¬ b = 0) i % (36 / w) + 1))] (c_X4_size l x (zu ar1 101 (zu (ar1 101) (csN (¬ b = 0) i) (nI (OQ (ar 9) (¬ b = 0) i / (36 / w))))) fd w hw hw9 hw2) (by decide) (sh3 rfl) rfl ⟨Nat.le_of_ble_eq_true rfl, Nat.le_of_ble_eq_true rfl⟩ rfl hl.1 (Nat.le_of_ble_eq_true rfl) rfl dX6_planSnake_60 (fun r_12 H locs hp_13 hs => ?_)
          subst hp_13
          refine lv_icmp_ne (tgt := 71) hx hb dX6_planSnake_63 (by decide) (fun c_14 => ?_) (fun c_14 => ?_)
          · have c_14 : ¬ (OQ (ar 9) (¬ b = 0) i % (36 / w) + 1 = 36 / w) := fun h => c_14 ((nI_eq (a := OQ (ar 9) (¬ b = 0) i % (36 / w) + 1) (b := 36 / w) (by omega) (by omega)).mpr h)
            refine lv_iinc (v := nI (i + 1)) (lv' := [(4, .int (nI (i + 1))), (3, .int (nI (OQ (ar 9) (¬ b = 0) i % (36 / w) + 1))), (5, .int (nI (csN (¬ b = 0) i))), (0, .ref (xa x 0)), (1, .int b), (2, .int (nI (OQ (ar 9) (¬ b = 0) i / (36 / w))))]) hx hb dX6_planSnake_71 hl (k := 5) rfl (nI_inc _) (by decide) rfl (fun ls hl => ?_)
            refine lv_goto (tgt := 15) hx hb dX6_planSnake_74 (by decide) ?_
            exact ih_3 (i + 1) (zu ar1 101 (zu (ar1 101) (csN (¬ b = 0) i) (nI (OQ (ar 9) (¬ b = 0) i / (36 / w))))) (by omega) (by omega) (fun k hk => by
                  rw [zu_s]
                  by_cases e : k = i
                  · rw [e, zu_s]; unfold plV; rw [iz_t c_9]
                  · rw [zu_n _ _ (fun q => e (csN_inj _ (by omega) (by omega) q))]; exact h1 k (by omega)) (fun k hk hk2 => by
                  rw [zu_s, zu_n _ _ (fun q => absurd (csN_inj _ (by omega) (by omega) q) (by omega))]; exact h2 k (by omega) hk2) (fun q hq => by rw [zu_n _ _ hq]; exact h3 q hq) _ _ _ hs (lvr (lv_at hl 3 rfl) (lvr (lv_at hl 4 rfl) (lvc (lv_at hl 5 rfl) (by rw [show OQ (ar 9) (¬ b = 0) (i + 1) = OQ (ar 9) (¬ b = 0) i + 1 from ct_t (P := fun j => ar 9 (csN (¬ b = 0) j) = -1) c_9, (dm_n hsz c_14).1]) (lvc (lv_at hl 1 rfl) (by rw [show OQ (ar 9) (¬ b = 0) (i + 1) = OQ (ar 9) (¬ b = 0) i + 1 from ct_t (P := fun j => ar 9 (csN (¬ b = 0) j) = -1) c_9, (dm_n hsz c_14).2]) (lvr (lv_at hl 0 rfl) (lvn hl))))))
          · have c_14 : OQ (ar 9) (¬ b = 0) i % (36 / w) + 1 = 36 / w := (nI_eq (a := OQ (ar 9) (¬ b = 0) i % (36 / w) + 1) (b := 36 / w) (by omega) (by omega)).mp c_14
            refine lv_iinc (v := nI (OQ (ar 9) (¬ b = 0) i / (36 / w) + 1)) (lv' := [(2, .int (nI (OQ (ar 9) (¬ b = 0) i / (36 / w) + 1))), (3, .int (nI (OQ (ar 9) (¬ b = 0) i % (36 / w) + 1))), (5, .int (nI (csN (¬ b = 0) i))), (0, .ref (xa x 0)), (1, .int b), (4, .int (nI i))]) hx hb dX6_planSnake_66 hl (k := 4) rfl (nI_inc _) (by decide) rfl (fun ls hl => ?_)
            refine lv_iconst (v := nI 0) hx hb dX6_planSnake_69 (by decide) ?_
            refine lv_istore_n (lv' := [(3, .int (nI 0)), (2, .int (nI (OQ (ar 9) (¬ b = 0) i / (36 / w) + 1))), (5, .int (nI (csN (¬ b = 0) i))), (0, .ref (xa x 0)), (1, .int b), (4, .int (nI i))]) hx hb dX6_planSnake_70 rfl hl (by decide) rfl (fun ls hl => ?_)
            refine lv_iinc (v := nI (i + 1)) (lv' := [(4, .int (nI (i + 1))), (3, .int (nI 0)), (2, .int (nI (OQ (ar 9) (¬ b = 0) i / (36 / w) + 1))), (5, .int (nI (csN (¬ b = 0) i))), (0, .ref (xa x 0)), (1, .int b)]) hx hb dX6_planSnake_71 hl (k := 5) rfl (nI_inc _) (by decide) rfl (fun ls hl => ?_)
            refine lv_goto (tgt := 15) hx hb dX6_planSnake_74 (by decide) ?_
            exact ih_3 (i + 1) (zu ar1 101 (zu (ar1 101) (csN (¬ b = 0) i) (nI (OQ (ar 9) (¬ b = 0) i / (36 / w))))) (by omega) (by omega) (fun k hk => by
                  rw [zu_s]
                  by_cases e : k = i
                  · rw [e, zu_s]; unfold plV; rw [iz_t c_9]
                  · rw [zu_n _ _ (fun q => e (csN_inj _ (by omega) (by omega) q))]; exact h1 k (by omega)) (fun k hk hk2 => by
                  rw [zu_s, zu_n _ _ (fun q => absurd (csN_inj _ (by omega) (by omega) q) (by omega))]; exact h2 k (by omega) hk2) (fun q hq => by rw [zu_n _ _ hq]; exact h3 q hq) _ _ _ hs (lvr (lv_at hl 4 rfl) (lvr (lv_at hl 5 rfl) (lvc (lv_at hl 2 rfl) (by rw [show OQ (ar 9) (¬ b = 0) (i + 1) = OQ (ar 9) (¬ b = 0) i + 1 from ct_t (P := fun j => ar 9 (csN (¬ b = 0) j) = -1) c_9, (dm_s hsz c_14).1]) (lvc (lv_at hl 1 rfl) (by rw [show OQ (ar 9) (¬ b = 0) (i + 1) = OQ (ar 9) (¬ b = 0) i + 1 from ct_t (P := fun j => ar 9 (csN (¬ b = 0) j) = -1) c_9, (dm_s hsz c_14).2]) (lvr (lv_at hl 0 rfl) (lvn hl))))))
  exact L_3 (_ + 1) 0 (zu ar 101 (fun _ => (-1))) (Nat.lt_succ_self _) (by omega) (fun _ h => absurd h (Nat.not_lt_zero _)) (fun _ _ _ => by rw [zu_s]) (fun q hq => zu_n _ _ hq) _ _ _ hs (lvr (lv_at hl 3 rfl) (lvr (lv_at hl 4 rfl) (lvc (lv_at hl 2 rfl) (by rw [show OQ (ar 9) (¬ b = 0) 0 = 0 from rfl, Nat.zero_div]) (lvc (lv_at hl 1 rfl) (by rw [show OQ (ar 9) (¬ b = 0) 0 = 0 from rfl, Nat.zero_mod]) (lvr (lv_at hl 0 rfl) (lvn hl))))))

noncomputable def sp_tellArea (ar : AR) (k : Nat) (v q : Int32) : Int32 := iz (q = nI 0) (nI (ct (fun zz => ar (k + 1) zz = v) 36)) (iz (q = nI 1) ((-2)) (iz (q = nI 2) (bdI (ar (k + 1)) v) (iz (q = nI 3) ((nI 1000) + (mg ar k v (nI 0))) (iz (q = nI 4) (wnI (mg ar k v (nI 0))) (iz (q = nI 5) (nnI (ffst (fun zz => ar (k + 1) zz = v) 36 0)) ((-2)))))))
set_option maxHeartbeats 4000000 in
set_option maxRecDepth 100000 in
/-- tellArea -/
theorem c_X6_tellArea (l : Launch) (x : CT) (k : Nat) (hr : RO k 36) (ar fd : AR) (v q : Int32) : CP l yX6_tellArea cX6_tellArea 4 (some .int) 4 91 x [.ref (xa x 0), .ref (xa x k), .int v, .int q] ar fd (fun r => r = sp_tellArea ar k v q) := by
  refine zsP (own := RX6) rfl (by decide +kernel) (Nat.le_of_ble_eq_true rfl) ?_
  intro p e s m below meth c ls E hs hl
  have hx := E.1
  have hb := E.2.1
  have hl : lv_has ls 4 [(0, .ref (xa x 0)), (1, .ref (xa x k)), (2, .int v), (3, .int q)] := hl
  refine lv_iload_n hx hb dX6_tellArea_0 rfl (lv_at hl 3 rfl) ?_
  by_cases c_1 : q = nI 0
  · refine lv_tableIn (off := 39) (tgt := 40) hx hb dX6_tellArea_1 (by rw [c_1]; decide) (by rw [c_1]; decide) (by rw [c_1]; first | rfl | decide) (by decide) ?_
    refine lv_aload_n hx hb dX6_tellArea_40 rfl (lv_at hl 1 rfl) ?_
    refine lv_iload_n hx hb dX6_tellArea_41 rfl (lv_at hl 2 rfl) ?_
    refine zSP E hs lkX6_222 [] (c_X0_size l x k hr ar fd v) ⟨Nat.le_of_ble_eq_true rfl, Nat.le_of_ble_eq_true rfl⟩ rfl hl.1 (Nat.le_of_ble_eq_true rfl) rfl dX6_tellArea_42 (fun r_2 H locs hp_3 hs => ?_)
    subst hp_3
    exact zeP E hs (by show _ = sp_tellArea ar k v q; unfold sp_tellArea; rw [iz_t c_1]) dX6_tellArea_45
  by_cases c_4 : q = nI 1
  · refine lv_tableIn (off := 85) (tgt := 86) hx hb dX6_tellArea_1 (by rw [c_4]; decide) (by rw [c_4]; decide) (by rw [c_4]; first | rfl | decide) (by decide) ?_
    refine lv_bipush (v := (-2)) hx hb dX6_tellArea_86 (by decide) ?_
    exact zeP E hs (by show _ = sp_tellArea ar k v q; unfold sp_tellArea; rw [iz_f c_1, iz_t c_4]) dX6_tellArea_88
  by_cases c_5 : q = nI 2
  · refine lv_tableIn (off := 45) (tgt := 46) hx hb dX6_tellArea_1 (by rw [c_5]; decide) (by rw [c_5]; decide) (by rw [c_5]; first | rfl | decide) (by decide) ?_
    refine lv_aload_n hx hb dX6_tellArea_46 rfl (lv_at hl 1 rfl) ?_
    refine lv_iload_n hx hb dX6_tellArea_47 rfl (lv_at hl 2 rfl) ?_
    refine zSP E hs lkX6_237 [] (c_X0_borders l x k hr ar fd v) ⟨Nat.le_of_ble_eq_true rfl, Nat.le_of_ble_eq_true rfl⟩ rfl hl.1 (Nat.le_of_ble_eq_true rfl) rfl dX6_tellArea_48 (fun r_6 H locs hp_7 hs => ?_)
    subst hp_7
    exact zeP E hs (by show _ = sp_tellArea ar k v q; unfold sp_tellArea; rw [iz_f c_1, iz_f c_4, iz_t c_5]) dX6_tellArea_51
  by_cases c_8 : q = nI 3
  · refine lv_tableIn (off := 51) (tgt := 52) hx hb dX6_tellArea_1 (by rw [c_8]; decide) (by rw [c_8]; decide) (by rw [c_8]; first | rfl | decide) (by decide) ?_
    refine lv_sipush (v := nI 1000) hx hb dX6_tellArea_52 (by decide) ?_
    refine lv_aload_n hx hb dX6_tellArea_55 rfl (lv_at hl 0 rfl) ?_
    refine zg5 E hs (k := 0) rfl 0 (by decide) rfl q_130 dX6_tellArea_56 ?_
    refine lv_aload_n hx hb dX6_tellArea_59 rfl (lv_at hl 1 rfl) ?_
    refine lv_iload_n hx hb dX6_tellArea_60 rfl (lv_at hl 2 rfl) ?_
    refine lv_iconst (v := nI 0) hx hb dX6_tellArea_61 (by decide) ?_
    refine zVP E hs lkX6_240 [.int (nI 1000)] (c_X4_margin l x k hr ar fd v (nI 0)) (by decide) (sh3 rfl) rfl ⟨Nat.le_of_ble_eq_true rfl, Nat.le_of_ble_eq_true rfl⟩ rfl hl.1 (Nat.le_of_ble_eq_true rfl) rfl dX6_tellArea_62 (fun r_9 H locs hp_10 hs => ?_)
    subst hp_10
    refine lv_iadd hx hb dX6_tellArea_65 ?_
    exact zeP E hs (by show _ = sp_tellArea ar k v q; unfold sp_tellArea; rw [iz_f c_1, iz_f c_4, iz_f c_5, iz_t c_8]) dX6_tellArea_66
  by_cases c_11 : q = nI 4
  · refine lv_tableIn (off := 66) (tgt := 67) hx hb dX6_tellArea_1 (by rw [c_11]; decide) (by rw [c_11]; decide) (by rw [c_11]; first | rfl | decide) (by decide) ?_
    refine lv_aload_n hx hb dX6_tellArea_67 rfl (lv_at hl 0 rfl) ?_
    refine zg5 E hs (k := 0) rfl 0 (by decide) rfl q_130 dX6_tellArea_68 ?_
    refine lv_aload_n hx hb dX6_tellArea_71 rfl (lv_at hl 1 rfl) ?_
    refine lv_iload_n hx hb dX6_tellArea_72 rfl (lv_at hl 2 rfl) ?_
    refine zVP E hs lkX6_243 [] (c_X4_winner l x k hr ar fd v) (by decide) (sh3 rfl) rfl ⟨Nat.le_of_ble_eq_true rfl, Nat.le_of_ble_eq_true rfl⟩ rfl hl.1 (Nat.le_of_ble_eq_true rfl) rfl dX6_tellArea_73 (fun r_12 H locs hp_13 hs => ?_)
    subst hp_13
    exact zeP E hs (by show _ = sp_tellArea ar k v q; unfold sp_tellArea; rw [iz_f c_1, iz_f c_4, iz_f c_5, iz_f c_8, iz_t c_11]) dX6_tellArea_76
  by_cases c_14 : q = nI 5
  · refine lv_tableIn (off := 76) (tgt := 77) hx hb dX6_tellArea_1 (by rw [c_14]; decide) (by rw [c_14]; decide) (by rw [c_14]; first | rfl | decide) (by decide) ?_
    refine lv_aload_n hx hb dX6_tellArea_77 rfl (lv_at hl 1 rfl) ?_
    refine lv_iload_n hx hb dX6_tellArea_78 rfl (lv_at hl 2 rfl) ?_
    refine zSP E hs lkX6_246 [] (c_X0_lowest l x k hr ar fd v) ⟨Nat.le_of_ble_eq_true rfl, Nat.le_of_ble_eq_true rfl⟩ rfl hl.1 (Nat.le_of_ble_eq_true rfl) rfl dX6_tellArea_79 (fun r_15 H locs hp_16 hs => ?_)
    subst hp_16
    refine zSP E hs lkX6_165 [] (c_X6_noneIfNothing l x ar fd (ffst (fun zz => ar (k + 1) zz = v) 36 0)) ⟨Nat.le_of_ble_eq_true rfl, Nat.le_of_ble_eq_true rfl⟩ rfl hl.1 (Nat.le_of_ble_eq_true rfl) rfl dX6_tellArea_82 (fun r_17 H locs hp_18 hs => ?_)
    subst hp_18
    exact zeP E hs (by show _ = sp_tellArea ar k v q; unfold sp_tellArea; rw [iz_f c_1, iz_f c_4, iz_f c_5, iz_f c_8, iz_f c_11, iz_t c_14]) dX6_tellArea_85
  refine lv_tableOut (tgt := 86) hx hb dX6_tellArea_1 (sw_out (n := 5) (by decide) (fun k hk => by rcases (show k = 0 ∨ k = 1 ∨ k = 2 ∨ k = 3 ∨ k = 4 ∨ k = 5 by omega) with rfl | rfl | rfl | rfl | rfl | rfl <;> assumption)) (by decide) ?_
  refine lv_bipush (v := (-2)) hx hb dX6_tellArea_86 (by decide) ?_
  exact zeP E hs (by show _ = sp_tellArea ar k v q; unfold sp_tellArea; rw [iz_f c_1, iz_f c_4, iz_f c_5, iz_f c_8, iz_f c_11, iz_f c_14]) dX6_tellArea_88

noncomputable def sp_setVotes (ar fd : AR) (w f o z n : Nat) (a u v : Int32) : Int32 × AR × AR := iz (¬ a < nI 0 ∧ ¬ nI 35 < a) (iz (¬ u < nI 0 ∧ ¬ nI 9 < u) (iz (¬ v < nI 0 ∧ ¬ nI 9 < v) (iz (u = ar 3 a.toNatClampNeg) (iz (v = ar 5 a.toNatClampNeg) (((-5), ar, fd)) ((((nI 10) * (ar 3 a.toNatClampNeg)) + (ar 5 a.toNatClampNeg), zu (zu ((sp_record ar fd o z).1) 3 (zu (((sp_record ar fd o z).1) 3) a.toNatClampNeg u)) 5 (zu ((zu ((sp_record ar fd o z).1) 3 (zu (((sp_record ar fd o z).1) 3) a.toNatClampNeg u)) 5) a.toNatClampNeg v), (sp_record ar fd o z).2))) ((((nI 10) * (ar 3 a.toNatClampNeg)) + (ar 5 a.toNatClampNeg), zu (zu ((sp_record ar fd o z).1) 3 (zu (((sp_record ar fd o z).1) 3) a.toNatClampNeg u)) 5 (zu ((zu ((sp_record ar fd o z).1) 3 (zu (((sp_record ar fd o z).1) 3) a.toNatClampNeg u)) 5) a.toNatClampNeg v), (sp_record ar fd o z).2))) (((-2), ar, fd))) (((-2), ar, fd))) (((-1), ar, fd))
set_option maxHeartbeats 4000000 in
set_option maxRecDepth 100000 in
/-- setVotes -/
theorem c_X6_setVotes (l : Launch) (x : CT) (ar fd : AR) (w f o z n : Nat) (hc : CInv ar fd w f o z n) (a u v : Int32) : CI l yX6_setVotes cX6_setVotes 6 (some .int) 4 86 x [.ref (xa x 0), .int a, .int u, .int v] ar fd (fun r ar' fd' => (r, ar', fd') = sp_setVotes ar fd w f o z n a u v) := by
  refine zsI (own := RX6) rfl (by decide +kernel) (Nat.le_of_ble_eq_true rfl) ?_
  intro p e s m below meth c ls E hs hl
  have hx := E.1
  have hb := E.2.1
  have hl : lv_has ls 6 [(0, .ref (xa x 0)), (1, .int a), (2, .int u), (3, .int v)] := hl
  obtain ⟨hw, hf, hfw, hw9, hw2, hof, hz, ho, hz4, hn, hn60, hC⟩ := id hc
  have hf9 : f ≤ 9 := by omega
  refine lv_iload_n hx hb dX6_setVotes_0 rfl (lv_at hl 1 rfl) ?_
  refine zSP E hs lkX6_53 [] (c_X6_isCell l x ar fd a) ⟨Nat.le_of_ble_eq_true rfl, Nat.le_of_ble_eq_true rfl⟩ rfl hl.1 (Nat.le_of_ble_eq_true rfl) rfl dX6_setVotes_1 (fun r_1 H locs hp_2 hs => ?_)
  subst hp_2
  refine lv_if_ne (tgt := 9) hx hb dX6_setVotes_4 (by decide) (fun c_3 => ?_) (fun c_3 => ?_)
  · have c_3 : ¬ a < nI 0 ∧ ¬ nI 35 < a := bz_1 c_3
    refine lv_iload_n hx hb dX6_setVotes_9 rfl (lv_at hl 2 rfl) ?_
    refine lv_iconst (v := nI 0) hx hb dX6_setVotes_10 (by decide) ?_
    refine lv_bipush (v := nI 9) hx hb dX6_setVotes_11 (by decide) ?_
    refine zSP E hs lkX6_57 [] (c_X6_isFromTo l x ar fd u (nI 0) (nI 9)) ⟨Nat.le_of_ble_eq_true rfl, Nat.le_of_ble_eq_true rfl⟩ rfl hl.1 (Nat.le_of_ble_eq_true rfl) rfl dX6_setVotes_13 (fun r_4 H locs hp_5 hs => ?_)
    subst hp_5
    refine lv_if_eq (tgt := 29) hx hb dX6_setVotes_16 (by decide) (fun c_6 => ?_) (fun c_6 => ?_)
    · have c_6 : ¬ (¬ u < nI 0 ∧ ¬ nI 9 < u) := bz_0 c_6
      refine lv_bipush (v := (-2)) hx hb dX6_setVotes_29 (by decide) ?_
      exact zeI E hs (by show (_, _, _) = sp_setVotes ar fd w f o z n a u v; unfold sp_setVotes; rw [iz_t c_3, iz_f c_6]) dX6_setVotes_31
    · have c_6 : ¬ u < nI 0 ∧ ¬ nI 9 < u := bz_1 c_6
      refine lv_iload_n hx hb dX6_setVotes_19 rfl (lv_at hl 3 rfl) ?_
      refine lv_iconst (v := nI 0) hx hb dX6_setVotes_20 (by decide) ?_
      refine lv_bipush (v := nI 9) hx hb dX6_setVotes_21 (by decide) ?_
      refine zSP E hs lkX6_57 [] (c_X6_isFromTo l x ar fd v (nI 0) (nI 9)) ⟨Nat.le_of_ble_eq_true rfl, Nat.le_of_ble_eq_true rfl⟩ rfl hl.1 (Nat.le_of_ble_eq_true rfl) rfl dX6_setVotes_23 (fun r_7 H locs hp_8 hs => ?_)
      subst hp_8
      refine lv_if_ne (tgt := 32) hx hb dX6_setVotes_26 (by decide) (fun c_9 => ?_) (fun c_9 => ?_)
      · have c_9 : ¬ v < nI 0 ∧ ¬ nI 9 < v := bz_1 c_9
        obtain ⟨hlt_a, heq_a⟩ := cell_of c_3 (by decide)
        rw [heq_a] at hl
        refine lv_aload_n hx hb dX6_setVotes_32 rfl (lv_at hl 0 rfl) ?_
        refine zg5 E hs (k := 0) rfl 0 (by decide) rfl q_130 dX6_setVotes_33 ?_
        refine zg3 E hs (k := 1) rfl 0 (by decide) rfl q_36 dX6_setVotes_36 ?_
        refine lv_iload_n hx hb dX6_setVotes_39 rfl (lv_at hl 1 rfl) ?_
        refine zVP E hs lkX6_64 [] (c_X3_at l x 2 36 ro_2 ar fd (nI a.toNatClampNeg)) (by decide) (sh2 rfl) rfl ⟨Nat.le_of_ble_eq_true rfl, Nat.le_of_ble_eq_true rfl⟩ rfl hl.1 (Nat.le_of_ble_eq_true rfl) rfl dX6_setVotes_40 (fun r_10 H locs hp_11 hs => ?_)
        subst hp_11
        refine tp (b := ar 3 a.toNatClampNeg) (rowAt_n (by omega) (by decide)) ?_
        refine lv_istore (lv' := [(4, .int (ar 3 a.toNatClampNeg)), (0, .ref (xa x 0)), (1, .int (nI a.toNatClampNeg)), (2, .int u), (3, .int v)]) hx hb dX6_setVotes_43 hl (by decide) rfl (fun ls hl => ?_)
        refine lv_aload_n hx hb dX6_setVotes_45 rfl (lv_at hl 1 rfl) ?_
        refine zg5 E hs (k := 0) rfl 0 (by decide) rfl q_130 dX6_setVotes_46 ?_
        refine zg3 E hs (k := 1) rfl 1 (by decide) rfl q_38 dX6_setVotes_49 ?_
        refine lv_iload_n hx hb dX6_setVotes_52 rfl (lv_at hl 2 rfl) ?_
        refine zVP E hs lkX6_64 [] (c_X3_at l x 4 36 ro_4 ar fd (nI a.toNatClampNeg)) (by decide) (sh2 rfl) rfl ⟨Nat.le_of_ble_eq_true rfl, Nat.le_of_ble_eq_true rfl⟩ rfl hl.1 (Nat.le_of_ble_eq_true rfl) rfl dX6_setVotes_53 (fun r_12 H locs hp_13 hs => ?_)
        subst hp_13
        refine tp (b := ar 5 a.toNatClampNeg) (rowAt_n (by omega) (by decide)) ?_
        refine lv_istore (lv' := [(5, .int (ar 5 a.toNatClampNeg)), (4, .int (ar 3 a.toNatClampNeg)), (0, .ref (xa x 0)), (1, .int (nI a.toNatClampNeg)), (2, .int u), (3, .int v)]) hx hb dX6_setVotes_56 hl (by decide) rfl (fun ls hl => ?_)
        refine lv_iload_n hx hb dX6_setVotes_58 rfl (lv_at hl 4 rfl) ?_
        refine lv_iload hx hb dX6_setVotes_59 (lv_at hl 1 rfl) ?_
        refine lv_icmp_ne (tgt := 73) hx hb dX6_setVotes_61 (by decide) (fun c_14 => ?_) (fun c_14 => ?_)
        · refine lv_aload_n hx hb dX6_setVotes_73 rfl (lv_at hl 2 rfl) ?_
          refine zg5 E hs (k := 0) rfl 1 (by decide) rfl q_131 dX6_setVotes_74 ?_
          refine lv_aload_n hx hb dX6_setVotes_77 rfl (lv_at hl 2 rfl) ?_
          refine zg5 E hs (k := 0) rfl 0 (by decide) rfl q_130 dX6_setVotes_78 ?_
          refine zVV E hs lkX6_71 [] (c_X1_record l x ar fd o z hof hz ho hz4) (by decide) (sh0 rfl) rfl ⟨Nat.le_of_ble_eq_true rfl, Nat.le_of_ble_eq_true rfl⟩ rfl hl.1 (Nat.le_of_ble_eq_true rfl) rfl dX6_setVotes_81 (fun arr_15 fdr_15 H locs hp_16 hs => ?_)
          rw [show arr_15 = (sp_record ar fd o z).1 from congrArg Prod.fst hp_16, show fdr_15 = (sp_record ar fd o z).2 from congrArg Prod.snd hp_16] at hs
          refine lv_aload_n hx hb dX6_setVotes_84 rfl (lv_at hl 2 rfl) ?_
          refine zg5 E hs (k := 0) rfl 0 (by decide) rfl q_130 dX6_setVotes_85 ?_
          refine zg3 E hs (k := 1) rfl 0 (by decide) rfl q_36 dX6_setVotes_88 ?_
          refine lv_iload_n hx hb dX6_setVotes_91 rfl (lv_at hl 3 rfl) ?_
          refine lv_iload_n hx hb dX6_setVotes_92 rfl (lv_at hl 4 rfl) ?_
          refine zVV E hs lkX6_75 [] (c_X3_put l x 2 36 ro_2 ((sp_record ar fd o z).1) ((sp_record ar fd o z).2) (nI a.toNatClampNeg) u) (by decide) (sh2 rfl) rfl ⟨Nat.le_of_ble_eq_true rfl, Nat.le_of_ble_eq_true rfl⟩ rfl hl.1 (Nat.le_of_ble_eq_true rfl) rfl dX6_setVotes_93 (fun arr_17 fdr_17 H locs hp_18 hs => ?_)
          rw [hp_18.1, hp_18.2] at hs
          rw [rowPut_n (j := a.toNatClampNeg) (by omega) (by decide)] at hs
          refine lv_aload_n hx hb dX6_setVotes_96 rfl (lv_at hl 2 rfl) ?_
          refine zg5 E hs (k := 0) rfl 0 (by decide) rfl q_130 dX6_setVotes_97 ?_
          refine zg3 E hs (k := 1) rfl 1 (by decide) rfl q_38 dX6_setVotes_100 ?_
          refine lv_iload_n hx hb dX6_setVotes_103 rfl (lv_at hl 3 rfl) ?_
          refine lv_iload_n hx hb dX6_setVotes_104 rfl (lv_at hl 5 rfl) ?_
          refine zVV E hs lkX6_75 [] (c_X3_put l x 4 36 ro_4 (zu ((sp_record ar fd o z).1) 3 (zu (((sp_record ar fd o z).1) 3) a.toNatClampNeg u)) ((sp_record ar fd o z).2) (nI a.toNatClampNeg) v) (by decide) (sh2 rfl) rfl ⟨Nat.le_of_ble_eq_true rfl, Nat.le_of_ble_eq_true rfl⟩ rfl hl.1 (Nat.le_of_ble_eq_true rfl) rfl dX6_setVotes_105 (fun arr_19 fdr_19 H locs hp_20 hs => ?_)
          rw [hp_20.1, hp_20.2] at hs
          rw [rowPut_n (j := a.toNatClampNeg) (by omega) (by decide)] at hs
          refine lv_bipush (v := nI 10) hx hb dX6_setVotes_108 (by decide) ?_
          refine lv_iload hx hb dX6_setVotes_110 (lv_at hl 1 rfl) ?_
          refine lv_imul hx hb dX6_setVotes_112 ?_
          refine lv_iload hx hb dX6_setVotes_113 (lv_at hl 0 rfl) ?_
          refine lv_iadd hx hb dX6_setVotes_115 ?_
          exact zeI E hs (by show (_, _, _) = sp_setVotes ar fd w f o z n a u v; unfold sp_setVotes; rw [iz_t c_3, iz_t c_6, iz_t c_9, iz_f c_14]) dX6_setVotes_116
        · refine lv_iload_n hx hb dX6_setVotes_64 rfl (lv_at hl 5 rfl) ?_
          refine lv_iload hx hb dX6_setVotes_65 (lv_at hl 0 rfl) ?_
          refine lv_icmp_ne (tgt := 73) hx hb dX6_setVotes_67 (by decide) (fun c_21 => ?_) (fun c_21 => ?_)
          · refine lv_aload_n hx hb dX6_setVotes_73 rfl (lv_at hl 2 rfl) ?_
            refine zg5 E hs (k := 0) rfl 1 (by decide) rfl q_131 dX6_setVotes_74 ?_
            refine lv_aload_n hx hb dX6_setVotes_77 rfl (lv_at hl 2 rfl) ?_
            refine zg5 E hs (k := 0) rfl 0 (by decide) rfl q_130 dX6_setVotes_78 ?_
            refine zVV E hs lkX6_71 [] (c_X1_record l x ar fd o z hof hz ho hz4) (by decide) (sh0 rfl) rfl ⟨Nat.le_of_ble_eq_true rfl, Nat.le_of_ble_eq_true rfl⟩ rfl hl.1 (Nat.le_of_ble_eq_true rfl) rfl dX6_setVotes_81 (fun arr_22 fdr_22 H locs hp_23 hs => ?_)
            rw [show arr_22 = (sp_record ar fd o z).1 from congrArg Prod.fst hp_23, show fdr_22 = (sp_record ar fd o z).2 from congrArg Prod.snd hp_23] at hs
            refine lv_aload_n hx hb dX6_setVotes_84 rfl (lv_at hl 2 rfl) ?_
            refine zg5 E hs (k := 0) rfl 0 (by decide) rfl q_130 dX6_setVotes_85 ?_
            refine zg3 E hs (k := 1) rfl 0 (by decide) rfl q_36 dX6_setVotes_88 ?_
            refine lv_iload_n hx hb dX6_setVotes_91 rfl (lv_at hl 3 rfl) ?_
            refine lv_iload_n hx hb dX6_setVotes_92 rfl (lv_at hl 4 rfl) ?_
            refine zVV E hs lkX6_75 [] (c_X3_put l x 2 36 ro_2 ((sp_record ar fd o z).1) ((sp_record ar fd o z).2) (nI a.toNatClampNeg) u) (by decide) (sh2 rfl) rfl ⟨Nat.le_of_ble_eq_true rfl, Nat.le_of_ble_eq_true rfl⟩ rfl hl.1 (Nat.le_of_ble_eq_true rfl) rfl dX6_setVotes_93 (fun arr_24 fdr_24 H locs hp_25 hs => ?_)
            rw [hp_25.1, hp_25.2] at hs
            rw [rowPut_n (j := a.toNatClampNeg) (by omega) (by decide)] at hs
            refine lv_aload_n hx hb dX6_setVotes_96 rfl (lv_at hl 2 rfl) ?_
            refine zg5 E hs (k := 0) rfl 0 (by decide) rfl q_130 dX6_setVotes_97 ?_
            refine zg3 E hs (k := 1) rfl 1 (by decide) rfl q_38 dX6_setVotes_100 ?_
            refine lv_iload_n hx hb dX6_setVotes_103 rfl (lv_at hl 3 rfl) ?_
            refine lv_iload_n hx hb dX6_setVotes_104 rfl (lv_at hl 5 rfl) ?_
            refine zVV E hs lkX6_75 [] (c_X3_put l x 4 36 ro_4 (zu ((sp_record ar fd o z).1) 3 (zu (((sp_record ar fd o z).1) 3) a.toNatClampNeg u)) ((sp_record ar fd o z).2) (nI a.toNatClampNeg) v) (by decide) (sh2 rfl) rfl ⟨Nat.le_of_ble_eq_true rfl, Nat.le_of_ble_eq_true rfl⟩ rfl hl.1 (Nat.le_of_ble_eq_true rfl) rfl dX6_setVotes_105 (fun arr_26 fdr_26 H locs hp_27 hs => ?_)
            rw [hp_27.1, hp_27.2] at hs
            rw [rowPut_n (j := a.toNatClampNeg) (by omega) (by decide)] at hs
            refine lv_bipush (v := nI 10) hx hb dX6_setVotes_108 (by decide) ?_
            refine lv_iload hx hb dX6_setVotes_110 (lv_at hl 1 rfl) ?_
            refine lv_imul hx hb dX6_setVotes_112 ?_
            refine lv_iload hx hb dX6_setVotes_113 (lv_at hl 0 rfl) ?_
            refine lv_iadd hx hb dX6_setVotes_115 ?_
            exact zeI E hs (by show (_, _, _) = sp_setVotes ar fd w f o z n a u v; unfold sp_setVotes; rw [iz_t c_3, iz_t c_6, iz_t c_9, iz_t c_14, iz_f c_21]) dX6_setVotes_116
          · refine lv_bipush (v := (-5)) hx hb dX6_setVotes_70 (by decide) ?_
            exact zeI E hs (by show (_, _, _) = sp_setVotes ar fd w f o z n a u v; unfold sp_setVotes; rw [iz_t c_3, iz_t c_6, iz_t c_9, iz_t c_14, iz_t c_21]) dX6_setVotes_72
      · have c_9 : ¬ (¬ v < nI 0 ∧ ¬ nI 9 < v) := bz_0 c_9
        refine lv_bipush (v := (-2)) hx hb dX6_setVotes_29 (by decide) ?_
        exact zeI E hs (by show (_, _, _) = sp_setVotes ar fd w f o z n a u v; unfold sp_setVotes; rw [iz_t c_3, iz_t c_6, iz_f c_9]) dX6_setVotes_31
  · have c_3 : ¬ (¬ a < nI 0 ∧ ¬ nI 35 < a) := bz_0 c_3
    refine lv_iconst (v := (-1)) hx hb dX6_setVotes_7 (by decide) ?_
    exact zeI E hs (by show (_, _, _) = sp_setVotes ar fd w f o z n a u v; unfold sp_setVotes; rw [iz_f c_3]) dX6_setVotes_8

noncomputable def sp_begin (ar fd : AR) (w f o z n : Nat) (v : Int32) : Int32 × AR × AR := iz (divs v) ((nI (36 / v.toNatClampNeg), (sp_startAnew ((sp_record ar fd o z).1) ((sp_record ar fd o z).2) v).1, (sp_startAnew ((sp_record ar fd o z).1) ((sp_record ar fd o z).2) v).2)) (((-2), ar, fd))
set_option maxHeartbeats 4000000 in
set_option maxRecDepth 100000 in
/-- begin -/
theorem c_X6_begin (l : Launch) (x : CT) (ar fd : AR) (w f o z n : Nat) (hc : CInv ar fd w f o z n) (v : Int32) : CI l yX6_begin cX6_begin 2 (some .int) 4 86 x [.ref (xa x 0), .int v] ar fd (fun r ar' fd' => (r, ar', fd') = sp_begin ar fd w f o z n v) := by
  refine zsI (own := RX6) rfl (by decide +kernel) (Nat.le_of_ble_eq_true rfl) ?_
  intro p e s m below meth c ls E hs hl
  have hx := E.1
  have hb := E.2.1
  have hl : lv_has ls 2 [(0, .ref (xa x 0)), (1, .int v)] := hl
  obtain ⟨hw, hf, hfw, hw9, hw2, hof, hz, ho, hz4, hn, hn60, hC⟩ := id hc
  have hf9 : f ≤ 9 := by omega
  refine lv_iload_n hx hb dX6_begin_0 rfl (lv_at hl 1 rfl) ?_
  refine zSP E hs lkX6_78 [] (c_X6_dividesTheMap l x ar fd v) ⟨Nat.le_of_ble_eq_true rfl, Nat.le_of_ble_eq_true rfl⟩ rfl hl.1 (Nat.le_of_ble_eq_true rfl) rfl dX6_begin_1 (fun r_1 H locs hp_2 hs => ?_)
  subst hp_2
  refine lv_if_ne (tgt := 10) hx hb dX6_begin_4 (by decide) (fun c_3 => ?_) (fun c_3 => ?_)
  · have c_3 : divs v := bz_1 c_3
    obtain ⟨ev, hv9, hv2⟩ := div_of c_3
    refine lv_aload_n hx hb dX6_begin_10 rfl (lv_at hl 0 rfl) ?_
    refine zg5 E hs (k := 0) rfl 1 (by decide) rfl q_131 dX6_begin_11 ?_
    refine lv_aload_n hx hb dX6_begin_14 rfl (lv_at hl 0 rfl) ?_
    refine zg5 E hs (k := 0) rfl 0 (by decide) rfl q_130 dX6_begin_15 ?_
    refine zVV E hs lkX6_71 [] (c_X1_record l x ar fd o z hof hz ho hz4) (by decide) (sh0 rfl) rfl ⟨Nat.le_of_ble_eq_true rfl, Nat.le_of_ble_eq_true rfl⟩ rfl hl.1 (Nat.le_of_ble_eq_true rfl) rfl dX6_begin_18 (fun arr_4 fdr_4 H locs hp_5 hs => ?_)
    rw [show arr_4 = (sp_record ar fd o z).1 from congrArg Prod.fst hp_5, show fdr_4 = (sp_record ar fd o z).2 from congrArg Prod.snd hp_5] at hs
    refine lv_aload_n hx hb dX6_begin_21 rfl (lv_at hl 0 rfl) ?_
    refine zg5 E hs (k := 0) rfl 0 (by decide) rfl q_130 dX6_begin_22 ?_
    refine lv_iload_n hx hb dX6_begin_25 rfl (lv_at hl 1 rfl) ?_
    refine zVV E hs lkX6_81 [] (c_X4_startAnew l x ((sp_record ar fd o z).1) ((sp_record ar fd o z).2) v) (by decide) (sh3 rfl) rfl ⟨Nat.le_of_ble_eq_true rfl, Nat.le_of_ble_eq_true rfl⟩ rfl hl.1 (Nat.le_of_ble_eq_true rfl) rfl dX6_begin_26 (fun arr_6 fdr_6 H locs hp_7 hs => ?_)
    rw [show arr_6 = (sp_startAnew ((sp_record ar fd o z).1) ((sp_record ar fd o z).2) v).1 from congrArg Prod.fst hp_7, show fdr_6 = (sp_startAnew ((sp_record ar fd o z).1) ((sp_record ar fd o z).2) v).2 from congrArg Prod.snd hp_7] at hs
    refine lv_aload_n hx hb dX6_begin_29 rfl (lv_at hl 0 rfl) ?_
    refine zg5 E hs (k := 0) rfl 0 (by decide) rfl q_130 dX6_begin_30 ?_
    refine zVP E hs lkX6_85 [] (c_X4_size l x ((sp_startAnew ((sp_record ar fd o z).1) ((sp_record ar fd o z).2) v).1) ((sp_startAnew ((sp_record ar fd o z).1) ((sp_record ar fd o z).2) v).2) v.toNatClampNeg (by rw [sa_7]; exact ev) hv9 hv2) (by decide) (sh3 rfl) rfl ⟨Nat.le_of_ble_eq_true rfl, Nat.le_of_ble_eq_true rfl⟩ rfl hl.1 (Nat.le_of_ble_eq_true rfl) rfl dX6_begin_33 (fun r_8 H locs hp_9 hs => ?_)
    subst hp_9
    exact zeI E hs (by show (_, _, _) = sp_begin ar fd w f o z n v; unfold sp_begin; rw [iz_t c_3]) dX6_begin_36
  · have c_3 : ¬ (divs v) := bz_0 c_3
    refine lv_bipush (v := (-2)) hx hb dX6_begin_7 (by decide) ?_
    exact zeI E hs (by show (_, _, _) = sp_begin ar fd w f o z n v; unfold sp_begin; rw [iz_f c_3]) dX6_begin_9

noncomputable def sp_setTarget (ar fd : AR) (w f o z n : Nat) (a v : Int32) : Int32 × AR × AR := iz (¬ a < nI 0 ∧ ¬ nI 1 < a) (iz (¬ v < nI 0 ∧ ¬ nI 9 < v) (iz (v = ar 15 a.toNatClampNeg) (((-5), ar, fd)) ((ar 15 a.toNatClampNeg, zu ((sp_record ar fd o z).1) 15 (zu (((sp_record ar fd o z).1) 15) a.toNatClampNeg v), (sp_record ar fd o z).2))) (((-2), ar, fd))) (((-1), ar, fd))
set_option maxHeartbeats 4000000 in
set_option maxRecDepth 100000 in
/-- setTarget -/
theorem c_X6_setTarget (l : Launch) (x : CT) (ar fd : AR) (w f o z n : Nat) (hc : CInv ar fd w f o z n) (a v : Int32) : CI l yX6_setTarget cX6_setTarget 4 (some .int) 4 86 x [.ref (xa x 0), .int a, .int v] ar fd (fun r ar' fd' => (r, ar', fd') = sp_setTarget ar fd w f o z n a v) := by
  refine zsI (own := RX6) rfl (by decide +kernel) (Nat.le_of_ble_eq_true rfl) ?_
  intro p e s m below meth c ls E hs hl
  have hx := E.1
  have hb := E.2.1
  have hl : lv_has ls 4 [(0, .ref (xa x 0)), (1, .int a), (2, .int v)] := hl
  obtain ⟨hw, hf, hfw, hw9, hw2, hof, hz, ho, hz4, hn, hn60, hC⟩ := id hc
  have hf9 : f ≤ 9 := by omega
  refine lv_iload_n hx hb dX6_setTarget_0 rfl (lv_at hl 1 rfl) ?_
  refine zSP E hs lkX6_89 [] (c_X6_isParty l x ar fd a) ⟨Nat.le_of_ble_eq_true rfl, Nat.le_of_ble_eq_true rfl⟩ rfl hl.1 (Nat.le_of_ble_eq_true rfl) rfl dX6_setTarget_1 (fun r_1 H locs hp_2 hs => ?_)
  subst hp_2
  refine lv_if_ne (tgt := 9) hx hb dX6_setTarget_4 (by decide) (fun c_3 => ?_) (fun c_3 => ?_)
  · have c_3 : ¬ a < nI 0 ∧ ¬ nI 1 < a := bz_1 c_3
    refine lv_iload_n hx hb dX6_setTarget_9 rfl (lv_at hl 2 rfl) ?_
    refine lv_iconst (v := nI 0) hx hb dX6_setTarget_10 (by decide) ?_
    refine lv_bipush (v := nI 9) hx hb dX6_setTarget_11 (by decide) ?_
    refine zSP E hs lkX6_57 [] (c_X6_isFromTo l x ar fd v (nI 0) (nI 9)) ⟨Nat.le_of_ble_eq_true rfl, Nat.le_of_ble_eq_true rfl⟩ rfl hl.1 (Nat.le_of_ble_eq_true rfl) rfl dX6_setTarget_13 (fun r_4 H locs hp_5 hs => ?_)
    subst hp_5
    refine lv_if_ne (tgt := 22) hx hb dX6_setTarget_16 (by decide) (fun c_6 => ?_) (fun c_6 => ?_)
    · have c_6 : ¬ v < nI 0 ∧ ¬ nI 9 < v := bz_1 c_6
      obtain ⟨hlt_a, heq_a⟩ := cell_of c_3 (by decide)
      rw [heq_a] at hl
      refine lv_aload_n hx hb dX6_setTarget_22 rfl (lv_at hl 0 rfl) ?_
      refine zg5 E hs (k := 0) rfl 0 (by decide) rfl q_130 dX6_setTarget_23 ?_
      refine zg3 E hs (k := 1) rfl 6 (by decide) rfl q_49 dX6_setTarget_26 ?_
      refine lv_iload_n hx hb dX6_setTarget_29 rfl (lv_at hl 1 rfl) ?_
      refine zVP E hs lkX6_64 [] (c_X3_at l x 14 2 ro_14 ar fd (nI a.toNatClampNeg)) (by decide) (sh2 rfl) rfl ⟨Nat.le_of_ble_eq_true rfl, Nat.le_of_ble_eq_true rfl⟩ rfl hl.1 (Nat.le_of_ble_eq_true rfl) rfl dX6_setTarget_30 (fun r_7 H locs hp_8 hs => ?_)
      subst hp_8
      refine tp (b := ar 15 a.toNatClampNeg) (rowAt_n (by omega) (by decide)) ?_
      refine lv_istore_n (lv' := [(3, .int (ar 15 a.toNatClampNeg)), (0, .ref (xa x 0)), (1, .int (nI a.toNatClampNeg)), (2, .int v)]) hx hb dX6_setTarget_33 rfl hl (by decide) rfl (fun ls hl => ?_)
      refine lv_iload_n hx hb dX6_setTarget_34 rfl (lv_at hl 3 rfl) ?_
      refine lv_iload_n hx hb dX6_setTarget_35 rfl (lv_at hl 0 rfl) ?_
      refine lv_icmp_ne (tgt := 42) hx hb dX6_setTarget_36 (by decide) (fun c_9 => ?_) (fun c_9 => ?_)
      · refine lv_aload_n hx hb dX6_setTarget_42 rfl (lv_at hl 1 rfl) ?_
        refine zg5 E hs (k := 0) rfl 1 (by decide) rfl q_131 dX6_setTarget_43 ?_
        refine lv_aload_n hx hb dX6_setTarget_46 rfl (lv_at hl 1 rfl) ?_
        refine zg5 E hs (k := 0) rfl 0 (by decide) rfl q_130 dX6_setTarget_47 ?_
        refine zVV E hs lkX6_71 [] (c_X1_record l x ar fd o z hof hz ho hz4) (by decide) (sh0 rfl) rfl ⟨Nat.le_of_ble_eq_true rfl, Nat.le_of_ble_eq_true rfl⟩ rfl hl.1 (Nat.le_of_ble_eq_true rfl) rfl dX6_setTarget_50 (fun arr_10 fdr_10 H locs hp_11 hs => ?_)
        rw [show arr_10 = (sp_record ar fd o z).1 from congrArg Prod.fst hp_11, show fdr_10 = (sp_record ar fd o z).2 from congrArg Prod.snd hp_11] at hs
        refine lv_aload_n hx hb dX6_setTarget_53 rfl (lv_at hl 1 rfl) ?_
        refine zg5 E hs (k := 0) rfl 0 (by decide) rfl q_130 dX6_setTarget_54 ?_
        refine zg3 E hs (k := 1) rfl 6 (by decide) rfl q_49 dX6_setTarget_57 ?_
        refine lv_iload_n hx hb dX6_setTarget_60 rfl (lv_at hl 2 rfl) ?_
        refine lv_iload_n hx hb dX6_setTarget_61 rfl (lv_at hl 3 rfl) ?_
        refine zVV E hs lkX6_75 [] (c_X3_put l x 14 2 ro_14 ((sp_record ar fd o z).1) ((sp_record ar fd o z).2) (nI a.toNatClampNeg) v) (by decide) (sh2 rfl) rfl ⟨Nat.le_of_ble_eq_true rfl, Nat.le_of_ble_eq_true rfl⟩ rfl hl.1 (Nat.le_of_ble_eq_true rfl) rfl dX6_setTarget_62 (fun arr_12 fdr_12 H locs hp_13 hs => ?_)
        rw [hp_13.1, hp_13.2] at hs
        rw [rowPut_n (j := a.toNatClampNeg) (by omega) (by decide)] at hs
        refine lv_iload_n hx hb dX6_setTarget_65 rfl (lv_at hl 0 rfl) ?_
        exact zeI E hs (by show (_, _, _) = sp_setTarget ar fd w f o z n a v; unfold sp_setTarget; rw [iz_t c_3, iz_t c_6, iz_f c_9]) dX6_setTarget_66
      · refine lv_bipush (v := (-5)) hx hb dX6_setTarget_39 (by decide) ?_
        exact zeI E hs (by show (_, _, _) = sp_setTarget ar fd w f o z n a v; unfold sp_setTarget; rw [iz_t c_3, iz_t c_6, iz_t c_9]) dX6_setTarget_41
    · have c_6 : ¬ (¬ v < nI 0 ∧ ¬ nI 9 < v) := bz_0 c_6
      refine lv_bipush (v := (-2)) hx hb dX6_setTarget_19 (by decide) ?_
      exact zeI E hs (by show (_, _, _) = sp_setTarget ar fd w f o z n a v; unfold sp_setTarget; rw [iz_t c_3, iz_f c_6]) dX6_setTarget_21
  · have c_3 : ¬ (¬ a < nI 0 ∧ ¬ nI 1 < a) := bz_0 c_3
    refine lv_iconst (v := (-1)) hx hb dX6_setTarget_7 (by decide) ?_
    exact zeI E hs (by show (_, _, _) = sp_setTarget ar fd w f o z n a v; unfold sp_setTarget; rw [iz_f c_3]) dX6_setTarget_8

noncomputable def sp_draft (ar fd : AR) (w f o z n : Nat) (a v : Int32) : Int32 × AR × AR := iz (¬ a < nI 0 ∧ ¬ nI 35 < a) (iz (fd 1 10 = 0) (iz (ar 9 a.toNatClampNeg = -1) (iz (v = (-1)) (iz (v = ar 7 a.toNatClampNeg) (((-5), ar, fd)) ((ar 7 a.toNatClampNeg, zu ((sp_record ar fd o z).1) 7 (zu (((sp_record ar fd o z).1) 7) a.toNatClampNeg v), (sp_record ar fd o z).2))) (iz (¬ v < 0 ∧ ¬ fd 1 7 - fd 1 8 ≤ v) (iz (v = ar 7 a.toNatClampNeg) (((-5), ar, fd)) ((ar 7 a.toNatClampNeg, zu ((sp_record ar fd o z).1) 7 (zu (((sp_record ar fd o z).1) 7) a.toNatClampNeg v), (sp_record ar fd o z).2))) (((-2), ar, fd)))) (((-4), ar, fd))) (((-4), ar, fd))) (((-1), ar, fd))
set_option maxHeartbeats 4000000 in
set_option maxRecDepth 100000 in
/-- draft -/
theorem c_X6_draft (l : Launch) (x : CT) (ar fd : AR) (w f o z n : Nat) (hc : CInv ar fd w f o z n) (a v : Int32) : CI l yX6_draft cX6_draft 4 (some .int) 4 86 x [.ref (xa x 0), .int a, .int v] ar fd (fun r ar' fd' => (r, ar', fd') = sp_draft ar fd w f o z n a v) := by
  refine zsI (own := RX6) rfl (by decide +kernel) (Nat.le_of_ble_eq_true rfl) ?_
  intro p e s m below meth c ls E hs hl
  have hx := E.1
  have hb := E.2.1
  have hl : lv_has ls 4 [(0, .ref (xa x 0)), (1, .int a), (2, .int v)] := hl
  obtain ⟨hw, hf, hfw, hw9, hw2, hof, hz, ho, hz4, hn, hn60, hC⟩ := id hc
  have hf9 : f ≤ 9 := by omega
  refine lv_iload_n hx hb dX6_draft_0 rfl (lv_at hl 1 rfl) ?_
  refine zSP E hs lkX6_53 [] (c_X6_isCell l x ar fd a) ⟨Nat.le_of_ble_eq_true rfl, Nat.le_of_ble_eq_true rfl⟩ rfl hl.1 (Nat.le_of_ble_eq_true rfl) rfl dX6_draft_1 (fun r_1 H locs hp_2 hs => ?_)
  subst hp_2
  refine lv_if_ne (tgt := 9) hx hb dX6_draft_4 (by decide) (fun c_3 => ?_) (fun c_3 => ?_)
  · have c_3 : ¬ a < nI 0 ∧ ¬ nI 35 < a := bz_1 c_3
    obtain ⟨hlt_a, heq_a⟩ := cell_of c_3 (by decide)
    rw [heq_a] at hl
    refine lv_aload_n hx hb dX6_draft_9 rfl (lv_at hl 0 rfl) ?_
    refine zg5 E hs (k := 0) rfl 0 (by decide) rfl q_130 dX6_draft_10 ?_
    refine zg3 E hs (k := 1) rfl 10 (by decide) rfl q_56 dX6_draft_13 ?_
    refine lv_if_ne (tgt := 30) hx hb dX6_draft_16 (by decide) (fun c_4 => ?_) (fun c_4 => ?_)
    · refine lv_bipush (v := (-4)) hx hb dX6_draft_30 (by decide) ?_
      exact zeI E hs (by show (_, _, _) = sp_draft ar fd w f o z n a v; unfold sp_draft; rw [iz_t c_3, iz_f c_4]) dX6_draft_32
    · refine lv_aload_n hx hb dX6_draft_19 rfl (lv_at hl 0 rfl) ?_
      refine zg5 E hs (k := 0) rfl 0 (by decide) rfl q_130 dX6_draft_20 ?_
      refine lv_iload_n hx hb dX6_draft_23 rfl (lv_at hl 1 rfl) ?_
      refine zVP E hs lkX6_99 [] (c_X4_isOpen l x ar fd a.toNatClampNeg (by omega)) (by decide) (sh3 rfl) rfl ⟨Nat.le_of_ble_eq_true rfl, Nat.le_of_ble_eq_true rfl⟩ rfl hl.1 (Nat.le_of_ble_eq_true rfl) rfl dX6_draft_24 (fun r_5 H locs hp_6 hs => ?_)
      subst hp_6
      refine lv_if_ne (tgt := 33) hx hb dX6_draft_27 (by decide) (fun c_7 => ?_) (fun c_7 => ?_)
      · have c_7 : ar 9 a.toNatClampNeg = -1 := bz_1 c_7
        refine lv_iload_n hx hb dX6_draft_33 rfl (lv_at hl 2 rfl) ?_
        refine lv_iconst (v := (-1)) hx hb dX6_draft_34 (by decide) ?_
        refine lv_icmp_eq (tgt := 52) hx hb dX6_draft_35 (by decide) (fun c_8 => ?_) (fun c_8 => ?_)
        · refine lv_aload_n hx hb dX6_draft_52 rfl (lv_at hl 0 rfl) ?_
          refine zg5 E hs (k := 0) rfl 0 (by decide) rfl q_130 dX6_draft_53 ?_
          refine zg3 E hs (k := 1) rfl 2 (by decide) rfl q_40 dX6_draft_56 ?_
          refine lv_iload_n hx hb dX6_draft_59 rfl (lv_at hl 1 rfl) ?_
          refine zVP E hs lkX6_64 [] (c_X3_at l x 6 36 ro_6 ar fd (nI a.toNatClampNeg)) (by decide) (sh2 rfl) rfl ⟨Nat.le_of_ble_eq_true rfl, Nat.le_of_ble_eq_true rfl⟩ rfl hl.1 (Nat.le_of_ble_eq_true rfl) rfl dX6_draft_60 (fun r_9 H locs hp_10 hs => ?_)
          subst hp_10
          refine tp (b := ar 7 a.toNatClampNeg) (rowAt_n (by omega) (by decide)) ?_
          refine lv_istore_n (lv' := [(3, .int (ar 7 a.toNatClampNeg)), (0, .ref (xa x 0)), (1, .int (nI a.toNatClampNeg)), (2, .int v)]) hx hb dX6_draft_63 rfl hl (by decide) rfl (fun ls hl => ?_)
          refine lv_iload_n hx hb dX6_draft_64 rfl (lv_at hl 3 rfl) ?_
          refine lv_iload_n hx hb dX6_draft_65 rfl (lv_at hl 0 rfl) ?_
          refine lv_icmp_ne (tgt := 72) hx hb dX6_draft_66 (by decide) (fun c_11 => ?_) (fun c_11 => ?_)
          · refine lv_aload_n hx hb dX6_draft_72 rfl (lv_at hl 1 rfl) ?_
            refine zg5 E hs (k := 0) rfl 1 (by decide) rfl q_131 dX6_draft_73 ?_
            refine lv_aload_n hx hb dX6_draft_76 rfl (lv_at hl 1 rfl) ?_
            refine zg5 E hs (k := 0) rfl 0 (by decide) rfl q_130 dX6_draft_77 ?_
            refine zVV E hs lkX6_71 [] (c_X1_record l x ar fd o z hof hz ho hz4) (by decide) (sh0 rfl) rfl ⟨Nat.le_of_ble_eq_true rfl, Nat.le_of_ble_eq_true rfl⟩ rfl hl.1 (Nat.le_of_ble_eq_true rfl) rfl dX6_draft_80 (fun arr_12 fdr_12 H locs hp_13 hs => ?_)
            rw [show arr_12 = (sp_record ar fd o z).1 from congrArg Prod.fst hp_13, show fdr_12 = (sp_record ar fd o z).2 from congrArg Prod.snd hp_13] at hs
            refine lv_aload_n hx hb dX6_draft_83 rfl (lv_at hl 1 rfl) ?_
            refine zg5 E hs (k := 0) rfl 0 (by decide) rfl q_130 dX6_draft_84 ?_
            refine zg3 E hs (k := 1) rfl 2 (by decide) rfl q_40 dX6_draft_87 ?_
            refine lv_iload_n hx hb dX6_draft_90 rfl (lv_at hl 2 rfl) ?_
            refine lv_iload_n hx hb dX6_draft_91 rfl (lv_at hl 3 rfl) ?_
            refine zVV E hs lkX6_75 [] (c_X3_put l x 6 36 ro_6 ((sp_record ar fd o z).1) ((sp_record ar fd o z).2) (nI a.toNatClampNeg) v) (by decide) (sh2 rfl) rfl ⟨Nat.le_of_ble_eq_true rfl, Nat.le_of_ble_eq_true rfl⟩ rfl hl.1 (Nat.le_of_ble_eq_true rfl) rfl dX6_draft_92 (fun arr_14 fdr_14 H locs hp_15 hs => ?_)
            rw [hp_15.1, hp_15.2] at hs
            rw [rowPut_n (j := a.toNatClampNeg) (by omega) (by decide)] at hs
            refine lv_iload_n hx hb dX6_draft_95 rfl (lv_at hl 0 rfl) ?_
            exact zeI E hs (by show (_, _, _) = sp_draft ar fd w f o z n a v; unfold sp_draft; rw [iz_t c_3, iz_t c_4, iz_t c_7, iz_t c_8, iz_f c_11]) dX6_draft_96
          · refine lv_bipush (v := (-5)) hx hb dX6_draft_69 (by decide) ?_
            exact zeI E hs (by show (_, _, _) = sp_draft ar fd w f o z n a v; unfold sp_draft; rw [iz_t c_3, iz_t c_4, iz_t c_7, iz_t c_8, iz_t c_11]) dX6_draft_71
        · refine lv_aload_n hx hb dX6_draft_38 rfl (lv_at hl 0 rfl) ?_
          refine zg5 E hs (k := 0) rfl 0 (by decide) rfl q_130 dX6_draft_39 ?_
          refine lv_iload_n hx hb dX6_draft_42 rfl (lv_at hl 2 rfl) ?_
          refine zVP E hs lkX6_102 [] (c_X4_isPart l x ar fd v) (by decide) (sh3 rfl) rfl ⟨Nat.le_of_ble_eq_true rfl, Nat.le_of_ble_eq_true rfl⟩ rfl hl.1 (Nat.le_of_ble_eq_true rfl) rfl dX6_draft_43 (fun r_16 H locs hp_17 hs => ?_)
          subst hp_17
          refine lv_if_ne (tgt := 52) hx hb dX6_draft_46 (by decide) (fun c_18 => ?_) (fun c_18 => ?_)
          · have c_18 : ¬ v < 0 ∧ ¬ fd 1 7 - fd 1 8 ≤ v := bz_1 c_18
            refine lv_aload_n hx hb dX6_draft_52 rfl (lv_at hl 0 rfl) ?_
            refine zg5 E hs (k := 0) rfl 0 (by decide) rfl q_130 dX6_draft_53 ?_
            refine zg3 E hs (k := 1) rfl 2 (by decide) rfl q_40 dX6_draft_56 ?_
            refine lv_iload_n hx hb dX6_draft_59 rfl (lv_at hl 1 rfl) ?_
            refine zVP E hs lkX6_64 [] (c_X3_at l x 6 36 ro_6 ar fd (nI a.toNatClampNeg)) (by decide) (sh2 rfl) rfl ⟨Nat.le_of_ble_eq_true rfl, Nat.le_of_ble_eq_true rfl⟩ rfl hl.1 (Nat.le_of_ble_eq_true rfl) rfl dX6_draft_60 (fun r_19 H locs hp_20 hs => ?_)
            subst hp_20
            refine tp (b := ar 7 a.toNatClampNeg) (rowAt_n (by omega) (by decide)) ?_
            refine lv_istore_n (lv' := [(3, .int (ar 7 a.toNatClampNeg)), (0, .ref (xa x 0)), (1, .int (nI a.toNatClampNeg)), (2, .int v)]) hx hb dX6_draft_63 rfl hl (by decide) rfl (fun ls hl => ?_)
            refine lv_iload_n hx hb dX6_draft_64 rfl (lv_at hl 3 rfl) ?_
            refine lv_iload_n hx hb dX6_draft_65 rfl (lv_at hl 0 rfl) ?_
            refine lv_icmp_ne (tgt := 72) hx hb dX6_draft_66 (by decide) (fun c_21 => ?_) (fun c_21 => ?_)
            · refine lv_aload_n hx hb dX6_draft_72 rfl (lv_at hl 1 rfl) ?_
              refine zg5 E hs (k := 0) rfl 1 (by decide) rfl q_131 dX6_draft_73 ?_
              refine lv_aload_n hx hb dX6_draft_76 rfl (lv_at hl 1 rfl) ?_
              refine zg5 E hs (k := 0) rfl 0 (by decide) rfl q_130 dX6_draft_77 ?_
              refine zVV E hs lkX6_71 [] (c_X1_record l x ar fd o z hof hz ho hz4) (by decide) (sh0 rfl) rfl ⟨Nat.le_of_ble_eq_true rfl, Nat.le_of_ble_eq_true rfl⟩ rfl hl.1 (Nat.le_of_ble_eq_true rfl) rfl dX6_draft_80 (fun arr_22 fdr_22 H locs hp_23 hs => ?_)
              rw [show arr_22 = (sp_record ar fd o z).1 from congrArg Prod.fst hp_23, show fdr_22 = (sp_record ar fd o z).2 from congrArg Prod.snd hp_23] at hs
              refine lv_aload_n hx hb dX6_draft_83 rfl (lv_at hl 1 rfl) ?_
              refine zg5 E hs (k := 0) rfl 0 (by decide) rfl q_130 dX6_draft_84 ?_
              refine zg3 E hs (k := 1) rfl 2 (by decide) rfl q_40 dX6_draft_87 ?_
              refine lv_iload_n hx hb dX6_draft_90 rfl (lv_at hl 2 rfl) ?_
              refine lv_iload_n hx hb dX6_draft_91 rfl (lv_at hl 3 rfl) ?_
              refine zVV E hs lkX6_75 [] (c_X3_put l x 6 36 ro_6 ((sp_record ar fd o z).1) ((sp_record ar fd o z).2) (nI a.toNatClampNeg) v) (by decide) (sh2 rfl) rfl ⟨Nat.le_of_ble_eq_true rfl, Nat.le_of_ble_eq_true rfl⟩ rfl hl.1 (Nat.le_of_ble_eq_true rfl) rfl dX6_draft_92 (fun arr_24 fdr_24 H locs hp_25 hs => ?_)
              rw [hp_25.1, hp_25.2] at hs
              rw [rowPut_n (j := a.toNatClampNeg) (by omega) (by decide)] at hs
              refine lv_iload_n hx hb dX6_draft_95 rfl (lv_at hl 0 rfl) ?_
              exact zeI E hs (by show (_, _, _) = sp_draft ar fd w f o z n a v; unfold sp_draft; rw [iz_t c_3, iz_t c_4, iz_t c_7, iz_f c_8, iz_t c_18, iz_f c_21]) dX6_draft_96
            · refine lv_bipush (v := (-5)) hx hb dX6_draft_69 (by decide) ?_
              exact zeI E hs (by show (_, _, _) = sp_draft ar fd w f o z n a v; unfold sp_draft; rw [iz_t c_3, iz_t c_4, iz_t c_7, iz_f c_8, iz_t c_18, iz_t c_21]) dX6_draft_71
          · have c_18 : ¬ (¬ v < 0 ∧ ¬ fd 1 7 - fd 1 8 ≤ v) := bz_0 c_18
            refine lv_bipush (v := (-2)) hx hb dX6_draft_49 (by decide) ?_
            exact zeI E hs (by show (_, _, _) = sp_draft ar fd w f o z n a v; unfold sp_draft; rw [iz_t c_3, iz_t c_4, iz_t c_7, iz_f c_8, iz_f c_18]) dX6_draft_51
      · have c_7 : ¬ (ar 9 a.toNatClampNeg = -1) := bz_0 c_7
        refine lv_bipush (v := (-4)) hx hb dX6_draft_30 (by decide) ?_
        exact zeI E hs (by show (_, _, _) = sp_draft ar fd w f o z n a v; unfold sp_draft; rw [iz_t c_3, iz_t c_4, iz_f c_7]) dX6_draft_32
  · have c_3 : ¬ (¬ a < nI 0 ∧ ¬ nI 35 < a) := bz_0 c_3
    refine lv_iconst (v := (-1)) hx hb dX6_draft_7 (by decide) ?_
    exact zeI E hs (by show (_, _, _) = sp_draft ar fd w f o z n a v; unfold sp_draft; rw [iz_f c_3]) dX6_draft_8

noncomputable def sp_trade (ar fd : AR) (w f o z n : Nat) (a b : Int32) : Int32 × AR × AR := iz (¬ a < nI 0 ∧ ¬ nI 35 < a) (iz (¬ b < nI 0 ∧ ¬ nI 35 < b) (iz (fd 1 10 = 0) (iz (ar 7 a.toNatClampNeg = (-1)) (((-4), ar, fd)) (iz (ar 7 b.toNatClampNeg = (-1)) (((-4), ar, fd)) (iz (ar 7 a.toNatClampNeg = ar 7 b.toNatClampNeg) (((-5), ar, fd)) ((bz (rsnA (zu (zu ((sp_record ar fd o z).1) 7 (zu (((sp_record ar fd o z).1) 7) a.toNatClampNeg (ar 7 b.toNatClampNeg))) 7 (zu ((zu ((sp_record ar fd o z).1) 7 (zu (((sp_record ar fd o z).1) 7) a.toNatClampNeg (ar 7 b.toNatClampNeg))) 7) b.toNatClampNeg (ar 7 a.toNatClampNeg))) w f = nI 0), zu (zu ((sp_record ar fd o z).1) 7 (zu (((sp_record ar fd o z).1) 7) a.toNatClampNeg (ar 7 b.toNatClampNeg))) 7 (zu ((zu ((sp_record ar fd o z).1) 7 (zu (((sp_record ar fd o z).1) 7) a.toNatClampNeg (ar 7 b.toNatClampNeg))) 7) b.toNatClampNeg (ar 7 a.toNatClampNeg)), (sp_record ar fd o z).2))))) (((-4), ar, fd))) (((-1), ar, fd))) (((-1), ar, fd))
set_option maxHeartbeats 4000000 in
set_option maxRecDepth 100000 in
/-- trade -/
theorem c_X6_trade (l : Launch) (x : CT) (ar fd : AR) (w f o z n : Nat) (hc : CInv ar fd w f o z n) (a b : Int32) : CI l yX6_trade cX6_trade 5 (some .int) 6 137 x [.ref (xa x 0), .int a, .int b] ar fd (fun r ar' fd' => r = (sp_trade ar fd w f o z n a b).1 ∧ JQ (sp_trade ar fd w f o z n a b).2.1 ar' ∧ fd' = (sp_trade ar fd w f o z n a b).2.2) := by
  refine zsI (own := RX6) rfl (by decide +kernel) (Nat.le_of_ble_eq_true rfl) ?_
  intro p e s m below meth c ls E hs hl
  have hx := E.1
  have hb := E.2.1
  have hl : lv_has ls 5 [(0, .ref (xa x 0)), (1, .int a), (2, .int b)] := hl
  obtain ⟨hw, hf, hfw, hw9, hw2, hof, hz, ho, hz4, hn, hn60, hC⟩ := id hc
  have hf9 : f ≤ 9 := by omega
  refine lv_iload_n hx hb dX6_trade_0 rfl (lv_at hl 1 rfl) ?_
  refine zSP E hs lkX6_53 [] (c_X6_isCell l x ar fd a) ⟨Nat.le_of_ble_eq_true rfl, Nat.le_of_ble_eq_true rfl⟩ rfl hl.1 (Nat.le_of_ble_eq_true rfl) rfl dX6_trade_1 (fun r_1 H locs hp_2 hs => ?_)
  subst hp_2
  refine lv_if_eq (tgt := 14) hx hb dX6_trade_4 (by decide) (fun c_3 => ?_) (fun c_3 => ?_)
  · have c_3 : ¬ (¬ a < nI 0 ∧ ¬ nI 35 < a) := bz_0 c_3
    refine lv_iconst (v := (-1)) hx hb dX6_trade_14 (by decide) ?_
    exact zeI E hs ⟨(by unfold sp_trade; rw [iz_f c_3]), (by unfold sp_trade; rw [iz_f c_3]; exact JQ.rf _), (by unfold sp_trade; rw [iz_f c_3])⟩ dX6_trade_15
  · have c_3 : ¬ a < nI 0 ∧ ¬ nI 35 < a := bz_1 c_3
    refine lv_iload_n hx hb dX6_trade_7 rfl (lv_at hl 2 rfl) ?_
    refine zSP E hs lkX6_53 [] (c_X6_isCell l x ar fd b) ⟨Nat.le_of_ble_eq_true rfl, Nat.le_of_ble_eq_true rfl⟩ rfl hl.1 (Nat.le_of_ble_eq_true rfl) rfl dX6_trade_8 (fun r_4 H locs hp_5 hs => ?_)
    subst hp_5
    refine lv_if_ne (tgt := 16) hx hb dX6_trade_11 (by decide) (fun c_6 => ?_) (fun c_6 => ?_)
    · have c_6 : ¬ b < nI 0 ∧ ¬ nI 35 < b := bz_1 c_6
      obtain ⟨hlt_a, heq_a⟩ := cell_of c_3 (by decide)
      rw [heq_a] at hl
      obtain ⟨hlt_b, heq_b⟩ := cell_of c_6 (by decide)
      rw [heq_b] at hl
      refine lv_aload_n hx hb dX6_trade_16 rfl (lv_at hl 0 rfl) ?_
      refine zg5 E hs (k := 0) rfl 0 (by decide) rfl q_130 dX6_trade_17 ?_
      refine zg3 E hs (k := 1) rfl 2 (by decide) rfl q_40 dX6_trade_20 ?_
      refine lv_iload_n hx hb dX6_trade_23 rfl (lv_at hl 1 rfl) ?_
      refine zVP E hs lkX6_64 [] (c_X3_at l x 6 36 ro_6 ar fd (nI a.toNatClampNeg)) (by decide) (sh2 rfl) rfl ⟨Nat.le_of_ble_eq_true rfl, Nat.le_of_ble_eq_true rfl⟩ rfl hl.1 (Nat.le_of_ble_eq_true rfl) rfl dX6_trade_24 (fun r_7 H locs hp_8 hs => ?_)
      subst hp_8
      refine tp (b := ar 7 a.toNatClampNeg) (rowAt_n (by omega) (by decide)) ?_
      refine lv_istore_n (lv' := [(3, .int (ar 7 a.toNatClampNeg)), (0, .ref (xa x 0)), (1, .int (nI a.toNatClampNeg)), (2, .int (nI b.toNatClampNeg))]) hx hb dX6_trade_27 rfl hl (by decide) rfl (fun ls hl => ?_)
      refine lv_aload_n hx hb dX6_trade_28 rfl (lv_at hl 1 rfl) ?_
      refine zg5 E hs (k := 0) rfl 0 (by decide) rfl q_130 dX6_trade_29 ?_
      refine zg3 E hs (k := 1) rfl 2 (by decide) rfl q_40 dX6_trade_32 ?_
      refine lv_iload_n hx hb dX6_trade_35 rfl (lv_at hl 3 rfl) ?_
      refine zVP E hs lkX6_64 [] (c_X3_at l x 6 36 ro_6 ar fd (nI b.toNatClampNeg)) (by decide) (sh2 rfl) rfl ⟨Nat.le_of_ble_eq_true rfl, Nat.le_of_ble_eq_true rfl⟩ rfl hl.1 (Nat.le_of_ble_eq_true rfl) rfl dX6_trade_36 (fun r_9 H locs hp_10 hs => ?_)
      subst hp_10
      refine tp (b := ar 7 b.toNatClampNeg) (rowAt_n (by omega) (by decide)) ?_
      refine lv_istore (lv' := [(4, .int (ar 7 b.toNatClampNeg)), (3, .int (ar 7 a.toNatClampNeg)), (0, .ref (xa x 0)), (1, .int (nI a.toNatClampNeg)), (2, .int (nI b.toNatClampNeg))]) hx hb dX6_trade_39 hl (by decide) rfl (fun ls hl => ?_)
      refine lv_aload_n hx hb dX6_trade_41 rfl (lv_at hl 2 rfl) ?_
      refine zg5 E hs (k := 0) rfl 0 (by decide) rfl q_130 dX6_trade_42 ?_
      refine zg3 E hs (k := 1) rfl 10 (by decide) rfl q_56 dX6_trade_45 ?_
      refine lv_if_ne (tgt := 62) hx hb dX6_trade_48 (by decide) (fun c_11 => ?_) (fun c_11 => ?_)
      · refine lv_bipush (v := (-4)) hx hb dX6_trade_62 (by decide) ?_
        exact zeI E hs ⟨(by unfold sp_trade; rw [iz_t c_3, iz_t c_6, iz_f c_11]), (by unfold sp_trade; rw [iz_t c_3, iz_t c_6, iz_f c_11]; exact JQ.rf _), (by unfold sp_trade; rw [iz_t c_3, iz_t c_6, iz_f c_11])⟩ dX6_trade_64
      · refine lv_iload_n hx hb dX6_trade_51 rfl (lv_at hl 1 rfl) ?_
        refine lv_iconst (v := (-1)) hx hb dX6_trade_52 (by decide) ?_
        refine lv_icmp_eq (tgt := 62) hx hb dX6_trade_53 (by decide) (fun c_12 => ?_) (fun c_12 => ?_)
        · refine lv_bipush (v := (-4)) hx hb dX6_trade_62 (by decide) ?_
          exact zeI E hs ⟨(by unfold sp_trade; rw [iz_t c_3, iz_t c_6, iz_t c_11, iz_t c_12]), (by unfold sp_trade; rw [iz_t c_3, iz_t c_6, iz_t c_11, iz_t c_12]; exact JQ.rf _), (by unfold sp_trade; rw [iz_t c_3, iz_t c_6, iz_t c_11, iz_t c_12])⟩ dX6_trade_64
        · refine lv_iload hx hb dX6_trade_56 (lv_at hl 0 rfl) ?_
          refine lv_iconst (v := (-1)) hx hb dX6_trade_58 (by decide) ?_
          refine lv_icmp_ne (tgt := 65) hx hb dX6_trade_59 (by decide) (fun c_13 => ?_) (fun c_13 => ?_)
          · refine lv_iload_n hx hb dX6_trade_65 rfl (lv_at hl 1 rfl) ?_
            refine lv_iload hx hb dX6_trade_66 (lv_at hl 0 rfl) ?_
            refine lv_icmp_ne (tgt := 74) hx hb dX6_trade_68 (by decide) (fun c_14 => ?_) (fun c_14 => ?_)
            · refine lv_aload_n hx hb dX6_trade_74 rfl (lv_at hl 2 rfl) ?_
              refine zg5 E hs (k := 0) rfl 1 (by decide) rfl q_131 dX6_trade_75 ?_
              refine lv_aload_n hx hb dX6_trade_78 rfl (lv_at hl 2 rfl) ?_
              refine zg5 E hs (k := 0) rfl 0 (by decide) rfl q_130 dX6_trade_79 ?_
              refine zVV E hs lkX6_71 [] (c_X1_record l x ar fd o z hof hz ho hz4) (by decide) (sh0 rfl) rfl ⟨Nat.le_of_ble_eq_true rfl, Nat.le_of_ble_eq_true rfl⟩ rfl hl.1 (Nat.le_of_ble_eq_true rfl) rfl dX6_trade_82 (fun arr_15 fdr_15 H locs hp_16 hs => ?_)
              rw [show arr_15 = (sp_record ar fd o z).1 from congrArg Prod.fst hp_16, show fdr_15 = (sp_record ar fd o z).2 from congrArg Prod.snd hp_16] at hs
              refine lv_aload_n hx hb dX6_trade_85 rfl (lv_at hl 2 rfl) ?_
              refine zg5 E hs (k := 0) rfl 0 (by decide) rfl q_130 dX6_trade_86 ?_
              refine zg3 E hs (k := 1) rfl 2 (by decide) rfl q_40 dX6_trade_89 ?_
              refine lv_iload_n hx hb dX6_trade_92 rfl (lv_at hl 3 rfl) ?_
              refine lv_iload hx hb dX6_trade_93 (lv_at hl 0 rfl) ?_
              refine zVV E hs lkX6_75 [] (c_X3_put l x 6 36 ro_6 ((sp_record ar fd o z).1) ((sp_record ar fd o z).2) (nI a.toNatClampNeg) (ar 7 b.toNatClampNeg)) (by decide) (sh2 rfl) rfl ⟨Nat.le_of_ble_eq_true rfl, Nat.le_of_ble_eq_true rfl⟩ rfl hl.1 (Nat.le_of_ble_eq_true rfl) rfl dX6_trade_95 (fun arr_17 fdr_17 H locs hp_18 hs => ?_)
              rw [hp_18.1, hp_18.2] at hs
              rw [rowPut_n (j := a.toNatClampNeg) (by omega) (by decide)] at hs
              refine lv_aload_n hx hb dX6_trade_98 rfl (lv_at hl 2 rfl) ?_
              refine zg5 E hs (k := 0) rfl 0 (by decide) rfl q_130 dX6_trade_99 ?_
              refine zg3 E hs (k := 1) rfl 2 (by decide) rfl q_40 dX6_trade_102 ?_
              refine lv_iload_n hx hb dX6_trade_105 rfl (lv_at hl 4 rfl) ?_
              refine lv_iload_n hx hb dX6_trade_106 rfl (lv_at hl 1 rfl) ?_
              refine zVV E hs lkX6_75 [] (c_X3_put l x 6 36 ro_6 (zu ((sp_record ar fd o z).1) 7 (zu (((sp_record ar fd o z).1) 7) a.toNatClampNeg (ar 7 b.toNatClampNeg))) ((sp_record ar fd o z).2) (nI b.toNatClampNeg) (ar 7 a.toNatClampNeg)) (by decide) (sh2 rfl) rfl ⟨Nat.le_of_ble_eq_true rfl, Nat.le_of_ble_eq_true rfl⟩ rfl hl.1 (Nat.le_of_ble_eq_true rfl) rfl dX6_trade_107 (fun arr_19 fdr_19 H locs hp_20 hs => ?_)
              rw [hp_20.1, hp_20.2] at hs
              rw [rowPut_n (j := b.toNatClampNeg) (by omega) (by decide)] at hs
              refine lv_aload_n hx hb dX6_trade_110 rfl (lv_at hl 2 rfl) ?_
              refine zVI E hs lkX6_108 [] (c_X6_oneIfCut l x (zu (zu ((sp_record ar fd o z).1) 7 (zu (((sp_record ar fd o z).1) 7) a.toNatClampNeg (ar 7 b.toNatClampNeg))) 7 (zu ((zu ((sp_record ar fd o z).1) 7 (zu (((sp_record ar fd o z).1) 7) a.toNatClampNeg (ar 7 b.toNatClampNeg))) 7) b.toNatClampNeg (ar 7 a.toNatClampNeg))) ((sp_record ar fd o z).2) w f (by rw [rec_fd (by decide)]; exact hw) (by rw [rec_fd (by decide)]; exact hf) hfw hw9 hw2) (by decide) (sh5 rfl) rfl ⟨Nat.le_of_ble_eq_true rfl, Nat.le_of_ble_eq_true rfl⟩ rfl hl.1 (Nat.le_of_ble_eq_true rfl) rfl dX6_trade_111 (fun r_21 arr_21 fdr_21 H locs hp_22 hs => ?_)
              rw [hp_22.2.2] at hs
              have hJ_r_21 := hp_22.2.1
              refine tp (b := bz (rsnA (zu (zu ((sp_record ar fd o z).1) 7 (zu (((sp_record ar fd o z).1) 7) a.toNatClampNeg (ar 7 b.toNatClampNeg))) 7 (zu ((zu ((sp_record ar fd o z).1) 7 (zu (((sp_record ar fd o z).1) 7) a.toNatClampNeg (ar 7 b.toNatClampNeg))) 7) b.toNatClampNeg (ar 7 a.toNatClampNeg))) w f = nI 0)) hp_22.1 ?_
              exact zeI E hs ⟨(by unfold sp_trade; rw [iz_t c_3, iz_t c_6, iz_t c_11, iz_f c_12, iz_f c_13, iz_f c_14]), (by unfold sp_trade; rw [iz_t c_3, iz_t c_6, iz_t c_11, iz_f c_12, iz_f c_13, iz_f c_14]; exact hJ_r_21), (by unfold sp_trade; rw [iz_t c_3, iz_t c_6, iz_t c_11, iz_f c_12, iz_f c_13, iz_f c_14])⟩ dX6_trade_114
            · refine lv_bipush (v := (-5)) hx hb dX6_trade_71 (by decide) ?_
              exact zeI E hs ⟨(by unfold sp_trade; rw [iz_t c_3, iz_t c_6, iz_t c_11, iz_f c_12, iz_f c_13, iz_t c_14]), (by unfold sp_trade; rw [iz_t c_3, iz_t c_6, iz_t c_11, iz_f c_12, iz_f c_13, iz_t c_14]; exact JQ.rf _), (by unfold sp_trade; rw [iz_t c_3, iz_t c_6, iz_t c_11, iz_f c_12, iz_f c_13, iz_t c_14])⟩ dX6_trade_73
          · refine lv_bipush (v := (-4)) hx hb dX6_trade_62 (by decide) ?_
            exact zeI E hs ⟨(by unfold sp_trade; rw [iz_t c_3, iz_t c_6, iz_t c_11, iz_f c_12, iz_t c_13]), (by unfold sp_trade; rw [iz_t c_3, iz_t c_6, iz_t c_11, iz_f c_12, iz_t c_13]; exact JQ.rf _), (by unfold sp_trade; rw [iz_t c_3, iz_t c_6, iz_t c_11, iz_f c_12, iz_t c_13])⟩ dX6_trade_64
    · have c_6 : ¬ (¬ b < nI 0 ∧ ¬ nI 35 < b) := bz_0 c_6
      refine lv_iconst (v := (-1)) hx hb dX6_trade_14 (by decide) ?_
      exact zeI E hs ⟨(by unfold sp_trade; rw [iz_t c_3, iz_f c_6]), (by unfold sp_trade; rw [iz_t c_3, iz_f c_6]; exact JQ.rf _), (by unfold sp_trade; rw [iz_t c_3, iz_f c_6])⟩ dX6_trade_15

noncomputable def sp_snake (ar fd : AR) (w f o z n : Nat) (b : Int32) : Int32 × AR × AR := iz (fd 1 10 = 0) (iz (∀ i, i < 36 → (zu ar 101 (plF (ar 9) (¬ b = 0) (36 / w))) 101 i = (zu ar 101 (plF (ar 9) (¬ b = 0) (36 / w))) 7 i) (((-5), zu ar 101 (plF (ar 9) (¬ b = 0) (36 / w)), fd)) ((bz (rsnA (zu ((sp_record (zu ar 101 (plF (ar 9) (¬ b = 0) (36 / w))) fd o z).1) 7 (((sp_record (zu ar 101 (plF (ar 9) (¬ b = 0) (36 / w))) fd o z).1) 101)) w f = nI 0), zu ((sp_record (zu ar 101 (plF (ar 9) (¬ b = 0) (36 / w))) fd o z).1) 7 (((sp_record (zu ar 101 (plF (ar 9) (¬ b = 0) (36 / w))) fd o z).1) 101), (sp_record (zu ar 101 (plF (ar 9) (¬ b = 0) (36 / w))) fd o z).2))) (((-4), ar, fd))
set_option maxHeartbeats 4000000 in
set_option maxRecDepth 100000 in
/-- snake -/
theorem c_X6_snake (l : Launch) (x : CT) (ar fd : AR) (w f o z n : Nat) (hc : CInv ar fd w f o z n) (b : Int32) : CI l yX6_snake cX6_snake 2 (some .int) 6 137 x [.ref (xa x 0), .int b] ar fd (fun r ar' fd' => r = (sp_snake ar fd w f o z n b).1 ∧ JQ (sp_snake ar fd w f o z n b).2.1 ar' ∧ fd' = (sp_snake ar fd w f o z n b).2.2) := by
  refine zsI (own := RX6) rfl (by decide +kernel) (Nat.le_of_ble_eq_true rfl) ?_
  intro p e s m below meth c ls E hs hl
  have hx := E.1
  have hb := E.2.1
  have hl : lv_has ls 2 [(0, .ref (xa x 0)), (1, .int b)] := hl
  obtain ⟨hw, hf, hfw, hw9, hw2, hof, hz, ho, hz4, hn, hn60, hC⟩ := id hc
  have hf9 : f ≤ 9 := by omega
  refine lv_aload_n hx hb dX6_snake_0 rfl (lv_at hl 0 rfl) ?_
  refine zg5 E hs (k := 0) rfl 0 (by decide) rfl q_130 dX6_snake_1 ?_
  refine zg3 E hs (k := 1) rfl 10 (by decide) rfl q_56 dX6_snake_4 ?_
  refine lv_if_eq (tgt := 13) hx hb dX6_snake_7 (by decide) (fun c_1 => ?_) (fun c_1 => ?_)
  · refine lv_aload_n hx hb dX6_snake_13 rfl (lv_at hl 0 rfl) ?_
    refine lv_iload_n hx hb dX6_snake_14 rfl (lv_at hl 1 rfl) ?_
    refine zVV E hs lkX6_111 [] (c_X6_planSnake l x ar fd w hw hw9 hw2 b) (by decide) (sh5 rfl) rfl ⟨Nat.le_of_ble_eq_true rfl, Nat.le_of_ble_eq_true rfl⟩ rfl hl.1 (Nat.le_of_ble_eq_true rfl) rfl dX6_snake_15 (fun arr_2 fdr_2 H locs hp_3 hs => ?_)
    rw [hp_3.1, hp_3.2] at hs
    refine lv_aload_n hx hb dX6_snake_18 rfl (lv_at hl 0 rfl) ?_
    refine zg5 E hs (k := 0) rfl 6 (by decide) rfl q_136 dX6_snake_19 ?_
    refine lv_aload_n hx hb dX6_snake_22 rfl (lv_at hl 0 rfl) ?_
    refine zg5 E hs (k := 0) rfl 0 (by decide) rfl q_130 dX6_snake_23 ?_
    refine zg3 E hs (k := 1) rfl 2 (by decide) rfl q_40 dX6_snake_26 ?_
    refine zVP E hs lkX6_115 [] (c_X3_isLike l x 100 6 36 ro_100 ro_6 (zu ar 101 (plF (ar 9) (¬ b = 0) (36 / w))) fd) (by decide) (sh2 rfl) rfl ⟨Nat.le_of_ble_eq_true rfl, Nat.le_of_ble_eq_true rfl⟩ rfl hl.1 (Nat.le_of_ble_eq_true rfl) rfl dX6_snake_29 (fun r_4 H locs hp_5 hs => ?_)
    subst hp_5
    refine lv_if_eq (tgt := 38) hx hb dX6_snake_32 (by decide) (fun c_6 => ?_) (fun c_6 => ?_)
    · have c_6 : ¬ (∀ i, i < 36 → (zu ar 101 (plF (ar 9) (¬ b = 0) (36 / w))) 101 i = (zu ar 101 (plF (ar 9) (¬ b = 0) (36 / w))) 7 i) := bz_0 c_6
      refine lv_aload_n hx hb dX6_snake_38 rfl (lv_at hl 0 rfl) ?_
      refine zg5 E hs (k := 0) rfl 1 (by decide) rfl q_131 dX6_snake_39 ?_
      refine lv_aload_n hx hb dX6_snake_42 rfl (lv_at hl 0 rfl) ?_
      refine zg5 E hs (k := 0) rfl 0 (by decide) rfl q_130 dX6_snake_43 ?_
      refine zVV E hs lkX6_71 [] (c_X1_record l x (zu ar 101 (plF (ar 9) (¬ b = 0) (36 / w))) fd o z hof hz ho hz4) (by decide) (sh0 rfl) rfl ⟨Nat.le_of_ble_eq_true rfl, Nat.le_of_ble_eq_true rfl⟩ rfl hl.1 (Nat.le_of_ble_eq_true rfl) rfl dX6_snake_46 (fun arr_7 fdr_7 H locs hp_8 hs => ?_)
      rw [show arr_7 = (sp_record (zu ar 101 (plF (ar 9) (¬ b = 0) (36 / w))) fd o z).1 from congrArg Prod.fst hp_8, show fdr_7 = (sp_record (zu ar 101 (plF (ar 9) (¬ b = 0) (36 / w))) fd o z).2 from congrArg Prod.snd hp_8] at hs
      refine lv_aload_n hx hb dX6_snake_49 rfl (lv_at hl 0 rfl) ?_
      refine zg5 E hs (k := 0) rfl 0 (by decide) rfl q_130 dX6_snake_50 ?_
      refine zg3 E hs (k := 1) rfl 2 (by decide) rfl q_40 dX6_snake_53 ?_
      refine lv_aload_n hx hb dX6_snake_56 rfl (lv_at hl 0 rfl) ?_
      refine zg5 E hs (k := 0) rfl 6 (by decide) rfl q_136 dX6_snake_57 ?_
      refine zVV E hs lkX6_119 [] (c_X3_copy l x 6 100 36 ro_6 ro_100 (by decide) ((sp_record (zu ar 101 (plF (ar 9) (¬ b = 0) (36 / w))) fd o z).1) ((sp_record (zu ar 101 (plF (ar 9) (¬ b = 0) (36 / w))) fd o z).2)) (by decide) (sh2 rfl) rfl ⟨Nat.le_of_ble_eq_true rfl, Nat.le_of_ble_eq_true rfl⟩ rfl hl.1 (Nat.le_of_ble_eq_true rfl) rfl dX6_snake_60 (fun arr_9 fdr_9 H locs hp_10 hs => ?_)
      rw [hp_10.1, hp_10.2] at hs
      refine lv_aload_n hx hb dX6_snake_63 rfl (lv_at hl 0 rfl) ?_
      refine zVI E hs lkX6_108 [] (c_X6_oneIfCut l x (zu ((sp_record (zu ar 101 (plF (ar 9) (¬ b = 0) (36 / w))) fd o z).1) 7 (((sp_record (zu ar 101 (plF (ar 9) (¬ b = 0) (36 / w))) fd o z).1) 101)) ((sp_record (zu ar 101 (plF (ar 9) (¬ b = 0) (36 / w))) fd o z).2) w f (by rw [rec_fd (by decide)]; exact hw) (by rw [rec_fd (by decide)]; exact hf) hfw hw9 hw2) (by decide) (sh5 rfl) rfl ⟨Nat.le_of_ble_eq_true rfl, Nat.le_of_ble_eq_true rfl⟩ rfl hl.1 (Nat.le_of_ble_eq_true rfl) rfl dX6_snake_64 (fun r_11 arr_11 fdr_11 H locs hp_12 hs => ?_)
      rw [hp_12.2.2] at hs
      have hJ_r_11 := hp_12.2.1
      refine tp (b := bz (rsnA (zu ((sp_record (zu ar 101 (plF (ar 9) (¬ b = 0) (36 / w))) fd o z).1) 7 (((sp_record (zu ar 101 (plF (ar 9) (¬ b = 0) (36 / w))) fd o z).1) 101)) w f = nI 0)) hp_12.1 ?_
      exact zeI E hs ⟨(by unfold sp_snake; rw [iz_t c_1, iz_f c_6]), (by unfold sp_snake; rw [iz_t c_1, iz_f c_6]; exact hJ_r_11), (by unfold sp_snake; rw [iz_t c_1, iz_f c_6])⟩ dX6_snake_67
    · have c_6 : ∀ i, i < 36 → (zu ar 101 (plF (ar 9) (¬ b = 0) (36 / w))) 101 i = (zu ar 101 (plF (ar 9) (¬ b = 0) (36 / w))) 7 i := bz_1 c_6
      refine lv_bipush (v := (-5)) hx hb dX6_snake_35 (by decide) ?_
      exact zeI E hs ⟨(by unfold sp_snake; rw [iz_t c_1, iz_t c_6]), (by unfold sp_snake; rw [iz_t c_1, iz_t c_6]; exact JQ.rf _), (by unfold sp_snake; rw [iz_t c_1, iz_t c_6])⟩ dX6_snake_37
  · refine lv_bipush (v := (-4)) hx hb dX6_snake_10 (by decide) ?_
    exact zeI E hs ⟨(by unfold sp_snake; rw [iz_f c_1]), (by unfold sp_snake; rw [iz_f c_1]; exact JQ.rf _), (by unfold sp_snake; rw [iz_f c_1])⟩ dX6_snake_12
