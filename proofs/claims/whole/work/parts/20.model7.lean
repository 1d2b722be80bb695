
theorem sub1 (u : Int32) : u - nI 1 = u + (-1) := Int32.sub_eq_add_neg u 1
/-- a part leaves: the row up to cell i -/
noncomputable def fpL (g : Nat → Int32) (v : Int32) (f i : Nat) : Nat → Int32 := fun k => iz (79 ≤ k ∧ k < 79 + i) (lrF (fun j => g (79 + j)) v (k - 79)) (iz ((115 ≤ k ∧ k < 115 + i) ∧ g (79 + (k - 115)) = v) (nI f) (g k))
noncomputable def fpG (g : Nat → Int32) (v q : Int32) (f : Nat) : Nat → Int32 := zu (zu (fpL g v f 36) (187 + f) q) 77 (nI (f + 1))
theorem fpL_0 (g : Nat → Int32) (v : Int32) (f : Nat) : fpL g v f 0 = g := by
  funext k
  unfold fpL
  rw [iz_f (by omega), iz_f (by omega)]
theorem fpL_o {g : Nat → Int32} {v : Int32} {f i k : Nat} (h1 : k < 79 ∨ 79 + i ≤ k) (h2 : k < 115 ∨ 115 + i ≤ k) : fpL g v f i k = g k := by
  unfold fpL
  rw [iz_f (by omega), iz_f (by omega)]
theorem fpL_p {g : Nat → Int32} {v : Int32} {f j : Nat} (h : j < 36) : fpL g v f 36 (79 + j) = lrF (fun j => g (79 + j)) v j := by
  unfold fpL
  rw [iz_t (by omega), show 79 + j - 79 = j by omega]
theorem fpL_d {g : Nat → Int32} {v : Int32} {f j : Nat} (h : j < 36) : fpL g v f 36 (115 + j) = iz (g (79 + j) = v) (nI f) (g (115 + j)) := by
  unfold fpL
  rw [iz_f (by omega), show 115 + j - 115 = j by omega, iz_c (P := (115 ≤ 115 + j ∧ 115 + j < 115 + 36) ∧ g (79 + j) = v) (Q := g (79 + j) = v) ⟨fun h => h.2, fun h => ⟨by omega, h⟩⟩]
theorem fpL_n {g : Nat → Int32} {v : Int32} {f i k : Nat} (h1 : k ≠ 79 + i) (h2 : k ≠ 115 + i) : fpL g v f i k = fpL g v f (i + 1) k := by
  unfold fpL
  rw [iz_c (P := 79 ≤ k ∧ k < 79 + i) (Q := 79 ≤ k ∧ k < 79 + (i + 1)) (by omega), iz_c (P := (115 ≤ k ∧ k < 115 + i) ∧ g (79 + (k - 115)) = v) (Q := (115 ≤ k ∧ k < 115 + (i + 1)) ∧ g (79 + (k - 115)) = v) ⟨fun h => ⟨by omega, h.2⟩, fun h => ⟨by omega, h.2⟩⟩]
theorem fpL_a {g : Nat → Int32} {v : Int32} {f i : Nat} (hi : i < 36) (h : g (79 + i) = v) : zu (zu (fpL g v f i) (115 + i) (nI f)) (79 + i) (-1) = fpL g v f (i + 1) := by
  funext k
  by_cases h1 : k = 79 + i
  · subst h1; rw [zu_s]; unfold fpL; rw [iz_t (by omega), show 79 + i - 79 = i by omega]; unfold lrF; rw [iz_t h]
  · rw [zu_n _ _ h1]
    by_cases h2 : k = 115 + i
    · subst h2; rw [zu_s]; unfold fpL; rw [iz_f (by omega), iz_t ⟨by omega, by rw [show 115 + i - 115 = i by omega]; exact h⟩]
    · rw [zu_n _ _ h2]; exact fpL_n h1 h2
theorem fpL_k {g : Nat → Int32} {v : Int32} {f i k : Nat} (hi : i < 36) (h : ¬ g (79 + i) = v) (h1 : k ≠ 79 + i) : fpL g v f i k = fpL g v f (i + 1) k := by
  by_cases h2 : k = 115 + i
  · subst h2; unfold fpL; rw [iz_f (by omega), iz_f (by omega), iz_f (by omega), iz_f (fun q => h (by have := q.2; rw [show 115 + i - 115 = i by omega] at this; exact this))]
  · exact fpL_n h1 h2
theorem fpL_b {g : Nat → Int32} {v : Int32} {f i : Nat} (hi : i < 36) (h : ¬ g (79 + i) = v) (h2 : g (79 + i) ≤ v) : fpL g v f i = fpL g v f (i + 1) := by
  funext k
  by_cases h1 : k = 79 + i
  · subst h1; rw [fpL_o (by omega) (by omega)]; unfold fpL; rw [iz_t (by omega), show 79 + i - 79 = i by omega]; unfold lrF; rw [iz_f h, iz_t h2]
  · exact fpL_k hi h h1
theorem fpL_c {g : Nat → Int32} {v : Int32} {f i : Nat} (hi : i < 36) (h : ¬ g (79 + i) = v) (h2 : ¬ g (79 + i) ≤ v) : zu (fpL g v f i) (79 + i) (g (79 + i) - nI 1) = fpL g v f (i + 1) := by
  funext k
  by_cases h1 : k = 79 + i
  · subst h1; rw [zu_s, sub1]; unfold fpL; rw [iz_t (by omega), show 79 + i - 79 = i by omega]; unfold lrF; rw [iz_f h, iz_f h2]
  · rw [zu_n _ _ h1]; exact fpL_k hi h h1
/-- the rest is kept, the draft is emptied: up to cell i -/
noncomputable def fzL (G : Nat → Int32) (i : Nat) : Nat → Int32 := fun k => iz (151 ≤ k ∧ k < 151 + i) (G (79 + (k - 151))) (iz (79 ≤ k ∧ k < 79 + i) (-1) (G k))
theorem fzL_0 (G : Nat → Int32) : fzL G 0 = G := by
  funext k
  unfold fzL
  rw [iz_f (by omega), iz_f (by omega)]
theorem fzL_o {G : Nat → Int32} {i k : Nat} (h1 : k < 79 ∨ 79 + i ≤ k) (h2 : k < 151 ∨ 151 + i ≤ k) : fzL G i k = G k := by
  unfold fzL
  rw [iz_f (by omega), iz_f (by omega)]
theorem fzL_s {G : Nat → Int32} {i : Nat} (hi : i < 36) : zu (zu (fzL G i) (151 + i) (G (79 + i))) (79 + i) (-1) = fzL G (i + 1) := by
  funext k
  by_cases h1 : k = 79 + i
  · subst h1; rw [zu_s]; unfold fzL; rw [iz_f (by omega), iz_t (by omega)]
  · rw [zu_n _ _ h1]
    by_cases h2 : k = 151 + i
    · subst h2; rw [zu_s]; unfold fzL; rw [iz_t (by omega), show 151 + i - 151 = i by omega]
    · rw [zu_n _ _ h2]
      unfold fzL
      rw [iz_c (P := 151 ≤ k ∧ k < 151 + i) (Q := 151 ≤ k ∧ k < 151 + (i + 1)) (by omega), iz_c (P := 79 ≤ k ∧ k < 79 + i) (Q := 79 ≤ k ∧ k < 79 + (i + 1)) (by omega)]
/-! the text -/
theorem ffst_sk {P : Nat → Prop} {n : Nat} : ∀ {a : Nat}, a ≤ n → (∀ k, k < a → ¬ P k) → ffst P n 0 = ffst P (n - a) a
  | 0, _, _ => rfl
  | a + 1, ha, h => (ffst_sk (a := a) (by omega) (fun k hk => h k (by omega))).trans (ffst_f (by omega) (h a (by omega)))
theorem flt_bad {g : Nat → Int32} {n a : Nat} (ha : a < n) (hn : n ≤ 60) (h : ∀ k, k < a → alw g k) (hb : ¬ alw g a) : flt g n = nI a := by
  unfold flt
  rw [ffst_sk (P := fun i => ¬ alw g i) (Nat.le_of_lt ha) (fun k hk => not_not_intro (h k hk)), ffst_t ha hb, iz_f (nI_nm (by omega))]
theorem flt_end {g : Nat → Int32} {n : Nat} (h : ∀ k, k < n → alw g k) : flt g n = iz (n % 3 = 2) (-1) (nI n) := by
  unfold flt
  rw [ffst_sk (P := fun i => ¬ alw g i) (Nat.le_refl n) (fun k hk => not_not_intro (h k hk)), ffst_e (Nat.le_refl n), iz_t rfl]
theorem alw_d {g : Nat → Int32} {a : Nat} (h : ¬ a % 3 = 2) : alw g a ↔ ¬ g a < nI 48 ∧ ¬ nI 57 < g a :=
  ⟨fun q => q.elim (fun q => absurd q.1 h) (fun q => q.2), fun q => Or.inr ⟨h, q⟩⟩
theorem alw_c {g : Nat → Int32} {a : Nat} (h : a % 3 = 2) : alw g a ↔ ¬ g a < nI 44 ∧ ¬ nI 44 < g a := by
  refine ⟨fun q => q.elim (fun q => ?_) (fun q => absurd h q.1), fun q => Or.inl ⟨h, ?_⟩⟩
  · rw [q.2]; decide
  · rw [lt_iI, lt_iI] at q; rw [eq_iI]; omega
theorem flt_dg {g : Nat → Int32} {n a : Nat} (ha : a ≤ n) (hn : n ≤ 60) (h3 : ¬ a % 3 = 2) (h : ∀ k, k < a → alw g k) (hb : ¬ (a < n ∧ ¬ g a < nI 48 ∧ ¬ nI 57 < g a)) : flt g n = nI a := by
  rcases Nat.lt_or_ge a n with q | q
  · exact flt_bad q hn h (fun z => hb ⟨q, (alw_d h3).mp z⟩)
  · have e : n = a := by omega
    subst e
    rw [flt_end h, iz_f h3]
theorem zu7 {fd : AR} {u v : Int32} : zu (zu fd 102 (zu (fd 102) 7 u)) 102 (zu ((zu fd 102 (zu (fd 102) 7 u)) 102) 7 v) = zu fd 102 (zu (fd 102) 7 v) := by
  rw [zu_s, zu_zu, zu_zu]
theorem rvS {a b : AR} {z A m : Nat} {T : Nat → Int32} (h : ∀ q, q ≠ 107 → b q = a q) (hT : ∀ k, k < m → b 107 k = T k) : ∀ q, q ≠ 107 → zu (rcA b z) 103 (bl (b 103) (0 + A) m (b 107)) q = zu (rcA a z) 103 (bl (a 103) A m T) q := by
  intro k hk
  by_cases e : k = 103
  · subst e; rw [zu_s, zu_s, h 103 (by decide), Nat.zero_add, bl_c hT]
  · rw [zu_n _ _ e, zu_n _ _ e]
    by_cases e2 : k = 104
    · subst e2; unfold rcA; rw [zu_s, zu_s, h 103 (by decide), h 104 (by decide)]
    · rw [rcA_n e2, rcA_n e2]; exact h k hk

set_option maxHeartbeats 4000000 in
set_option maxRecDepth 100000 in
/-- freezePart -/
theorem c_X7_freezePart (l : Launch) (x : CT) (ar fd : AR) (f : Nat) (hEf : ar 103 77 = nI f) (hf9 : f < 9) (v q : Int32) : CV l yX7_freezePart cX7_freezePart 5 0 0 x [.ref (xa x 102), .int v, .int q] ar fd (fun ar' fd' => ar' = zu ar 103 (fpG (ar 103) v q f) ∧ fd' = fd) := by
  refine zsV (own := RX7) rfl (by decide +kernel) (Nat.le_of_ble_eq_true rfl) ?_
  intro p e s m below meth c ls E hs hl
  have hx := E.1
  have hb := E.2.1
  have hl : lv_has ls 5 [(0, .ref (xa x 102)), (1, .int v), (2, .int q)] := hl
  refine lv_aload_n hx hb dX7_freezePart_0 rfl (lv_at hl 0 rfl) ?_
  refine zg6 E hs (k := 102) rfl 0 (by decide) rfl q_514 dX7_freezePart_1 ?_
  refine lv_bipush (v := nI 77) hx hb dX7_freezePart_4 (by decide) ?_
  refine zald E hs 103 (n := 196) (j := 77) rfl rfl (by omega) (by decide) dX7_freezePart_6 ?_
  refine tp (b := nI f) hEf ?_
  refine lv_istore_n (lv' := [(3, .int (nI f)), (0, .ref (xa x 102)), (1, .int v), (2, .int q)]) hx hb dX7_freezePart_7 rfl hl (by decide) rfl (fun ls hl => ?_)
  refine lv_iconst (v := nI 0) hx hb dX7_freezePart_8 (by decide) ?_
  refine lv_istore (lv' := [(4, .int (nI 0)), (3, .int (nI f)), (0, .ref (xa x 102)), (1, .int v), (2, .int q)]) hx hb dX7_freezePart_9 hl (by decide) rfl (fun ls hl => ?_)
  have L_1 : ∀ (mm : Nat) (i : Nat), (36 - i) < mm → (i ≤ 36) → ∀ (H : Heap) (locs : List Loc) (ls : Array Slot), ST x (AA x) s.heap (zu ar 103 (fpL (ar 103) v f i)) fd H locs → lv_has ls 5 [(0, .ref (xa x 102)), (1, .int v), (2, .int q), (3, .int (nI f)), (4, .int (nI i))] → W p l e (rmZ 0 0) s m ([.ref (xa x 102), .int v, .int q] : List Value).toArray below meth c H locs 0 0 (QV below x [.ref (xa x 102), .int v, .int q] s (fun ar' fd' => ar' = zu ar 103 (fpG (ar 103) v q f) ∧ fd' = fd)) (F0 m 11 ls []) := by
    intro mm
    induction mm with
    | zero => intro i hmu; exact absurd hmu (Nat.not_lt_zero _)
    | succ mm ih_1 =>
      intro i hmu hi H locs ls hs hl
      refine lv_iload hx hb dX7_freezePart_11 (lv_at hl 4 rfl) ?_
      refine lv_bipush (v := nI 36) hx hb dX7_freezePart_13 (by decide) ?_
      refine lv_icmp_ge (tgt := 91) hx hb dX7_freezePart_15 (by decide) (fun c_2 => ?_) (fun c_2 => ?_)
      · have c_2 : 36 ≤ i := (nI_leI (a := 36) (b := i) (by omega) (by omega)).mp c_2
        have hi36 : i = 36 := by omega
        subst hi36
        refine lv_aload_n hx hb dX7_freezePart_91 rfl (lv_at hl 0 rfl) ?_
        refine zg6 E hs (k := 102) rfl 0 (by decide) rfl q_514 dX7_freezePart_92 ?_
        refine lv_sipush (v := nI 187) hx hb dX7_freezePart_95 (by decide) ?_
        refine lv_iload_n hx hb dX7_freezePart_98 rfl (lv_at hl 3 rfl) ?_
        refine lv_iadd hx hb dX7_freezePart_99 ?_
        refine tp (b := nI (187 + f)) (nI_add _ _) ?_
        refine lv_iload_n hx hb dX7_freezePart_100 rfl (lv_at hl 2 rfl) ?_
        refine zast E hs 103 (n := 196) (j := (187 + f)) rfl rfl (by omega) (by decide) dX7_freezePart_101 (fun H locs hs => ?_)
        rw [zx] at hs
        refine lv_aload_n hx hb dX7_freezePart_102 rfl (lv_at hl 0 rfl) ?_
        refine zg6 E hs (k := 102) rfl 0 (by decide) rfl q_514 dX7_freezePart_103 ?_
        refine lv_bipush (v := nI 77) hx hb dX7_freezePart_106 (by decide) ?_
        refine lv_dup2_11 hx hb dX7_freezePart_108 rfl rfl ?_
        refine zald E hs 103 (n := 196) (j := 77) rfl rfl (by omega) (by decide) dX7_freezePart_109 ?_
        refine tp (b := nI f) (by rw [zu_s, zu_n _ _ (by omega), fpL_o (by omega) (by omega)]; exact hEf) ?_
        refine lv_iconst (v := nI 1) hx hb dX7_freezePart_110 (by decide) ?_
        refine lv_iadd hx hb dX7_freezePart_111 ?_
        refine tp (b := nI (f + 1)) (nI_add _ _) ?_
        refine zast E hs 103 (n := 196) (j := 77) rfl rfl (by omega) (by decide) dX7_freezePart_112 (fun H locs hs => ?_)
        rw [zx] at hs
        exact zeV E hs ⟨rfl, rfl⟩ dX7_freezePart_113
      · have c_2 : ¬ (36 ≤ i) := fun h => c_2 ((nI_leI (a := 36) (b := i) (by omega) (by omega)).mpr h)
        refine lv_aload_n hx hb dX7_freezePart_18 rfl (lv_at hl 0 rfl) ?_
        refine zg6 E hs (k := 102) rfl 0 (by decide) rfl q_514 dX7_freezePart_19 ?_
        refine lv_bipush (v := nI 79) hx hb dX7_freezePart_22 (by decide) ?_
        refine lv_iload hx hb dX7_freezePart_24 (lv_at hl 4 rfl) ?_
        refine lv_iadd hx hb dX7_freezePart_26 ?_
        refine tp (b := nI (79 + i)) (nI_add _ _) ?_
        refine zald E hs 103 (n := 196) (j := (79 + i)) rfl rfl (by omega) (by decide) dX7_freezePart_27 ?_
        refine tp (b := ar 103 (79 + i)) (by rw [zu_s, fpL_o (by omega) (by omega)]) ?_
        refine lv_iload_n hx hb dX7_freezePart_28 rfl (lv_at hl 1 rfl) ?_
        refine lv_icmp_ne (tgt := 57) hx hb dX7_freezePart_29 (by decide) (fun c_3 => ?_) (fun c_3 => ?_)
        · refine lv_aload_n hx hb dX7_freezePart_57 rfl (lv_at hl 0 rfl) ?_
          refine zg6 E hs (k := 102) rfl 0 (by decide) rfl q_514 dX7_freezePart_58 ?_
          refine lv_bipush (v := nI 79) hx hb dX7_freezePart_61 (by decide) ?_
          refine lv_iload hx hb dX7_freezePart_63 (lv_at hl 4 rfl) ?_
          refine lv_iadd hx hb dX7_freezePart_65 ?_
          refine tp (b := nI (79 + i)) (nI_add _ _) ?_
          refine zald E hs 103 (n := 196) (j := (79 + i)) rfl rfl (by omega) (by decide) dX7_freezePart_66 ?_
          refine tp (b := ar 103 (79 + i)) (by rw [zu_s, fpL_o (by omega) (by omega)]) ?_
          refine lv_iload_n hx hb dX7_freezePart_67 rfl (lv_at hl 1 rfl) ?_
          refine lv_icmp_le (tgt := 85) hx hb dX7_freezePart_68 (by decide) (fun c_4 => ?_) (fun c_4 => ?_)
          · refine lv_iinc (v := nI (i + 1)) (lv' := [(4, .int (nI (i + 1))), (0, .ref (xa x 102)), (1, .int v), (2, .int q), (3, .int (nI f))]) hx hb dX7_freezePart_85 hl (k := 4) rfl (nI_inc _) (by decide) rfl (fun ls hl => ?_)
            refine lv_goto (tgt := 11) hx hb dX7_freezePart_88 (by decide) ?_
            exact ih_1 (i + 1) (by omega) (by omega) _ _ _ (by rw [fpL_b (by omega) c_3 c_4] at hs; exact hs) (lvr (lv_at hl 1 rfl) (lvr (lv_at hl 2 rfl) (lvr (lv_at hl 3 rfl) (lvr (lv_at hl 4 rfl) (lvr (lv_at hl 0 rfl) (lvn hl))))))
          · refine lv_aload_n hx hb dX7_freezePart_71 rfl (lv_at hl 0 rfl) ?_
            refine zg6 E hs (k := 102) rfl 0 (by decide) rfl q_514 dX7_freezePart_72 ?_
            refine lv_bipush (v := nI 79) hx hb dX7_freezePart_75 (by decide) ?_
            refine lv_iload hx hb dX7_freezePart_77 (lv_at hl 4 rfl) ?_
            refine lv_iadd hx hb dX7_freezePart_79 ?_
            refine tp (b := nI (79 + i)) (nI_add _ _) ?_
            refine lv_dup2_11 hx hb dX7_freezePart_80 rfl rfl ?_
            refine zald E hs 103 (n := 196) (j := (79 + i)) rfl rfl (by omega) (by decide) dX7_freezePart_81 ?_
            refine tp (b := ar 103 (79 + i)) (by rw [zu_s, fpL_o (by omega) (by omega)]) ?_
            refine lv_iconst (v := nI 1) hx hb dX7_freezePart_82 (by decide) ?_
            refine lv_isub hx hb dX7_freezePart_83 ?_
            refine zast E hs 103 (n := 196) (j := (79 + i)) rfl rfl (by omega) (by decide) dX7_freezePart_84 (fun H locs hs => ?_)
            rw [zx] at hs
            refine lv_iinc (v := nI (i + 1)) (lv' := [(4, .int (nI (i + 1))), (0, .ref (xa x 102)), (1, .int v), (2, .int q), (3, .int (nI f))]) hx hb dX7_freezePart_85 hl (k := 4) rfl (nI_inc _) (by decide) rfl (fun ls hl => ?_)
            refine lv_goto (tgt := 11) hx hb dX7_freezePart_88 (by decide) ?_
            exact ih_1 (i + 1) (by omega) (by omega) _ _ _ (by rw [fpL_c (by omega) c_3 c_4] at hs; exact hs) (lvr (lv_at hl 1 rfl) (lvr (lv_at hl 2 rfl) (lvr (lv_at hl 3 rfl) (lvr (lv_at hl 4 rfl) (lvr (lv_at hl 0 rfl) (lvn hl))))))
        · refine lv_aload_n hx hb dX7_freezePart_32 rfl (lv_at hl 0 rfl) ?_
          refine zg6 E hs (k := 102) rfl 0 (by decide) rfl q_514 dX7_freezePart_33 ?_
          refine lv_bipush (v := nI 115) hx hb dX7_freezePart_36 (by decide) ?_
          refine lv_iload hx hb dX7_freezePart_38 (lv_at hl 4 rfl) ?_
          refine lv_iadd hx hb dX7_freezePart_40 ?_
          refine tp (b := nI (115 + i)) (nI_add _ _) ?_
          refine lv_iload_n hx hb dX7_freezePart_41 rfl (lv_at hl 3 rfl) ?_
          refine zast E hs 103 (n := 196) (j := (115 + i)) rfl rfl (by omega) (by decide) dX7_freezePart_42 (fun H locs hs => ?_)
          rw [zx] at hs
          refine lv_aload_n hx hb dX7_freezePart_43 rfl (lv_at hl 0 rfl) ?_
          refine zg6 E hs (k := 102) rfl 0 (by decide) rfl q_514 dX7_freezePart_44 ?_
          refine lv_bipush (v := nI 79) hx hb dX7_freezePart_47 (by decide) ?_
          refine lv_iload hx hb dX7_freezePart_49 (lv_at hl 4 rfl) ?_
          refine lv_iadd hx hb dX7_freezePart_51 ?_
          refine tp (b := nI (79 + i)) (nI_add _ _) ?_
          refine lv_iconst (v := (-1)) hx hb dX7_freezePart_52 (by decide) ?_
          refine zast E hs 103 (n := 196) (j := (79 + i)) rfl rfl (by omega) (by decide) dX7_freezePart_53 (fun H locs hs => ?_)
          rw [zx] at hs
          refine lv_goto (tgt := 85) hx hb dX7_freezePart_54 (by decide) ?_
          refine lv_iinc (v := nI (i + 1)) (lv' := [(4, .int (nI (i + 1))), (0, .ref (xa x 102)), (1, .int v), (2, .int q), (3, .int (nI f))]) hx hb dX7_freezePart_85 hl (k := 4) rfl (nI_inc _) (by decide) rfl (fun ls hl => ?_)
          refine lv_goto (tgt := 11) hx hb dX7_freezePart_88 (by decide) ?_
          exact ih_1 (i + 1) (by omega) (by omega) _ _ _ (by rw [fpL_a (by omega) c_3] at hs; exact hs) (lvr (lv_at hl 1 rfl) (lvr (lv_at hl 2 rfl) (lvr (lv_at hl 3 rfl) (lvr (lv_at hl 4 rfl) (lvr (lv_at hl 0 rfl) (lvn hl))))))
  exact L_1 (_ + 1) 0 (Nat.lt_succ_self _) (by omega) _ _ _ (by rw [fpL_0, zu_id]; exact hs) (lvr (lv_at hl 2 rfl) (lvr (lv_at hl 3 rfl) (lvr (lv_at hl 4 rfl) (lvr (lv_at hl 1 rfl) (lvr (lv_at hl 0 rfl) (lvn hl))))))

set_option maxHeartbeats 4000000 in
set_option maxRecDepth 100000 in
/-- freeze -/
theorem c_X7_freeze (l : Launch) (x : CT) (ar fd A B : AR) (w f : Nat) (hM : ME (ar 103) A (B 1) w f) (z : Nat) (hz : fd 102 3 = nI z) (hz4 : z ≤ 4) (hst : B 1 10 = nI 1 → f < w) (v : Int32) : CI l yX7_freeze cX7_freeze 4 (some .int) 1 24 x [.ref (xa x 102), .int v] ar fd (fun r ar' fd' => (¬ B 1 10 = nI 1 ∧ r = -4 ∧ ar' = ar ∧ fd' = fd) ∨ (B 1 10 = nI 1 ∧ ¬ (¬ v < nI 0 ∧ ¬ nI (w - f) - nI 1 < v) ∧ r = -1 ∧ ar' = ar ∧ fd' = fd) ∨ (B 1 10 = nI 1 ∧ (¬ v < nI 0 ∧ ¬ nI (w - f) - nI 1 < v) ∧ w - (f + 1) = 1 ∧ r = nI (f + 1 + 1) ∧ ar' = zu (rcA ar z) 103 (zu (fpG (fpG (ar 103) v (nI 1 - B 1 9) f) (nI 0) (B 1 9) (f + 1)) 75 (nI 2)) ∧ fd' = rcF fd z) ∨ (B 1 10 = nI 1 ∧ (¬ v < nI 0 ∧ ¬ nI (w - f) - nI 1 < v) ∧ ¬ w - (f + 1) = 1 ∧ r = nI (f + 1) ∧ ar' = zu (rcA ar z) 103 (zu (zu (zu (fzL (fpG (ar 103) v (nI 1 - B 1 9) f) 36) 78 (nI 1)) 76 (nI 1 - B 1 9)) 75 (nI 0)) ∧ fd' = rcF fd z)) := by
  refine zsI (own := RX7) rfl (by decide +kernel) (Nat.le_of_ble_eq_true rfl) ?_
  intro p e s m below meth c ls E hs hl
  have hx := E.1
  have hb := E.2.1
  have hl : lv_has ls 4 [(0, .ref (xa x 102)), (1, .int v)] := hl
  obtain ⟨hE1, hE2, hE3, hE4, hE5, hE6, hE7, hEw, hEf, hEc, hEs, hfw, hw9, hw2, hP, hD⟩ := id hM
  refine lv_aload_n hx hb dX7_freeze_0 rfl (lv_at hl 0 rfl) ?_
  refine zg6 E hs (k := 102) rfl 0 (by decide) rfl q_514 dX7_freeze_1 ?_
  refine lv_bipush (v := nI 75) hx hb dX7_freeze_4 (by decide) ?_
  refine zald E hs 103 (n := 196) (j := 75) rfl rfl (by omega) (by decide) dX7_freeze_6 ?_
  refine tp (b := B 1 10) hEs ?_
  refine lv_iconst (v := nI 1) hx hb dX7_freeze_7 (by decide) ?_
  refine lv_icmp_eq (tgt := 14) hx hb dX7_freeze_8 (by decide) (fun c_1 => ?_) (fun c_1 => ?_)
  · refine lv_iload_n hx hb dX7_freeze_14 rfl (lv_at hl 1 rfl) ?_
    refine lv_iconst (v := nI 0) hx hb dX7_freeze_15 (by decide) ?_
    refine lv_aload_n hx hb dX7_freeze_16 rfl (lv_at hl 0 rfl) ?_
    refine zVP E hs lkX7_77 [.int (nI 0), .int v] (c_X7_left l x ar fd A B w f hM) (by decide) (sh6 rfl) rfl ⟨Nat.le_of_ble_eq_true rfl, Nat.le_of_ble_eq_true rfl⟩ rfl hl.1 (Nat.le_of_ble_eq_true rfl) rfl dX7_freeze_17 (fun r_2 H locs hp_3 hs => ?_)
    subst hp_3
    refine lv_iconst (v := nI 1) hx hb dX7_freeze_20 (by decide) ?_
    refine lv_isub hx hb dX7_freeze_21 ?_
    refine zSP E hs lkX7_36 [] (c_X7_in l x ar fd v (nI 0) ((nI (w - f)) - (nI 1))) ⟨Nat.le_of_ble_eq_true rfl, Nat.le_of_ble_eq_true rfl⟩ rfl hl.1 (Nat.le_of_ble_eq_true rfl) rfl dX7_freeze_22 (fun r_4 H locs hp_5 hs => ?_)
    subst hp_5
    refine lv_if_ne (tgt := 30) hx hb dX7_freeze_25 (by decide) (fun c_6 => ?_) (fun c_6 => ?_)
    · have c_6 : ¬ v < nI 0 ∧ ¬ (nI (w - f)) - (nI 1) < v := bz_1 c_6
      have hfl := hst c_1
      refine lv_aload_n hx hb dX7_freeze_30 rfl (lv_at hl 0 rfl) ?_
      refine zVV E hs lkX7_48 [] (c_X7_record l x ar fd z hz hz4) (by decide) (sh6 rfl) rfl ⟨Nat.le_of_ble_eq_true rfl, Nat.le_of_ble_eq_true rfl⟩ rfl hl.1 (Nat.le_of_ble_eq_true rfl) rfl dX7_freeze_31 (fun arr_7 fdr_7 H locs hp_8 hs => ?_)
      rw [hp_8.1, hp_8.2] at hs
      refine lv_aload_n hx hb dX7_freeze_34 rfl (lv_at hl 0 rfl) ?_
      refine zg6 E hs (k := 102) rfl 0 (by decide) rfl q_514 dX7_freeze_35 ?_
      refine lv_bipush (v := nI 76) hx hb dX7_freeze_38 (by decide) ?_
      refine zald E hs 103 (n := 196) (j := 76) rfl rfl (by omega) (by decide) dX7_freeze_40 ?_
      refine tp (b := B 1 9) ((congrFun (rcA_n (by decide)) _).trans hEc) ?_
      refine lv_istore_n (lv' := [(2, .int (B 1 9)), (0, .ref (xa x 102)), (1, .int v)]) hx hb dX7_freeze_41 rfl hl (by decide) rfl (fun ls hl => ?_)
      refine lv_aload_n hx hb dX7_freeze_42 rfl (lv_at hl 1 rfl) ?_
      refine lv_iload_n hx hb dX7_freeze_43 rfl (lv_at hl 2 rfl) ?_
      refine lv_iconst (v := nI 1) hx hb dX7_freeze_44 (by decide) ?_
      refine lv_iload_n hx hb dX7_freeze_45 rfl (lv_at hl 0 rfl) ?_
      refine lv_isub hx hb dX7_freeze_46 ?_
      refine zVV E hs lkX7_97 [] (c_X7_freezePart l x (rcA ar z) (rcF fd z) f (by rw [rcA_n (by decide)]; exact hEf) (by omega) v ((nI 1) - (B 1 9))) (by decide) (sh6 rfl) rfl ⟨Nat.le_of_ble_eq_true rfl, Nat.le_of_ble_eq_true rfl⟩ rfl hl.1 (Nat.le_of_ble_eq_true rfl) rfl dX7_freeze_47 (fun arr_9 fdr_9 H locs hp_10 hs => ?_)
      rw [hp_10.1, hp_10.2, rcA_n (show (103 : Nat) ≠ 104 by decide)] at hs
      refine lv_aload_n hx hb dX7_freeze_50 rfl (lv_at hl 1 rfl) ?_
      refine zVP E hs lkX7_77 [] (c_X7_leftW l x (zu (rcA ar z) 103 (fpG (ar 103) v ((nI 1) - (B 1 9)) f)) (rcF fd z) w (f + 1) (by rw [zu_s]; exact (zu_n _ _ (by decide)).trans ((zu_n _ _ (by omega)).trans ((fpL_o (by decide) (by decide)).trans hEw))) (by rw [zu_s]; exact zu_s _ _ _) (by omega)) (by decide) (sh6 rfl) rfl ⟨Nat.le_of_ble_eq_true rfl, Nat.le_of_ble_eq_true rfl⟩ rfl hl.1 (Nat.le_of_ble_eq_true rfl) rfl dX7_freeze_51 (fun r_11 H locs hp_12 hs => ?_)
      subst hp_12
      refine lv_iconst (v := nI 1) hx hb dX7_freeze_54 (by decide) ?_
      refine lv_icmp_ne (tgt := 80) hx hb dX7_freeze_55 (by decide) (fun c_13 => ?_) (fun c_13 => ?_)
      · have c_13 : ¬ (w - (f + 1) = 1) := fun h => c_13 ((nI_eq (a := w - (f + 1)) (b := 1) (by omega) (by omega)).mpr h)
        refine lv_iconst (v := nI 0) hx hb dX7_freeze_80 (by decide) ?_
        refine lv_istore_n (lv' := [(3, .int (nI 0)), (2, .int (B 1 9)), (0, .ref (xa x 102)), (1, .int v)]) hx hb dX7_freeze_81 rfl hl (by decide) rfl (fun ls hl => ?_)
        have L_14 : ∀ (mm : Nat) (i : Nat), (36 - i) < mm → (i ≤ 36) → ∀ (H : Heap) (locs : List Loc) (ls : Array Slot), ST x (AA x) s.heap (zu (rcA ar z) 103 (fzL (fpG (ar 103) v (nI 1 - B 1 9) f) i)) (rcF fd z) H locs → lv_has ls 4 [(0, .ref (xa x 102)), (2, .int (B 1 9)), (3, .int (nI i))] → W p l e (rmZ 1 24) s m ([.ref (xa x 102), .int v] : List Value).toArray below meth c H locs 0 0 (QI below x [.ref (xa x 102), .int v] s (fun r ar' fd' => (¬ B 1 10 = nI 1 ∧ r = -4 ∧ ar' = ar ∧ fd' = fd) ∨ (B 1 10 = nI 1 ∧ ¬ (¬ v < nI 0 ∧ ¬ nI (w - f) - nI 1 < v) ∧ r = -1 ∧ ar' = ar ∧ fd' = fd) ∨ (B 1 10 = nI 1 ∧ (¬ v < nI 0 ∧ ¬ nI (w - f) - nI 1 < v) ∧ w - (f + 1) = 1 ∧ r = nI (f + 1 + 1) ∧ ar' = zu (rcA ar z) 103 (zu (fpG (fpG (ar 103) v (nI 1 - B 1 9) f) (nI 0) (B 1 9) (f + 1)) 75 (nI 2)) ∧ fd' = rcF fd z) ∨ (B 1 10 = nI 1 ∧ (¬ v < nI 0 ∧ ¬ nI (w - f) - nI 1 < v) ∧ ¬ w - (f + 1) = 1 ∧ r = nI (f + 1) ∧ ar' = zu (rcA ar z) 103 (zu (zu (zu (fzL (fpG (ar 103) v (nI 1 - B 1 9) f) 36) 78 (nI 1)) 76 (nI 1 - B 1 9)) 75 (nI 0)) ∧ fd' = rcF fd z))) (F0 m 82 ls []) := by
          intro mm
          induction mm with
          | zero => intro i hmu; exact absurd hmu (Nat.not_lt_zero _)
          | succ mm ih_14 =>
            intro i hmu hi H locs ls hs hl
            refine lv_iload_n hx hb dX7_freeze_82 rfl (lv_at hl 2 rfl) ?_
            refine lv_bipush (v := nI 36) hx hb dX7_freeze_83 (by decide) ?_
            refine lv_icmp_ge (tgt := 123) hx hb dX7_freeze_85 (by decide) (fun c_15 => ?_) (fun c_15 => ?_)
            · have c_15 : 36 ≤ i := (nI_leI (a := 36) (b := i) (by omega) (by omega)).mp c_15
              have hi36 : i = 36 := by omega
              subst hi36
              refine lv_aload_n hx hb dX7_freeze_123 rfl (lv_at hl 0 rfl) ?_
              refine zg6 E hs (k := 102) rfl 0 (by decide) rfl q_514 dX7_freeze_124 ?_
              refine lv_bipush (v := nI 78) hx hb dX7_freeze_127 (by decide) ?_
              refine lv_iconst (v := nI 1) hx hb dX7_freeze_129 (by decide) ?_
              refine zast E hs 103 (n := 196) (j := 78) rfl rfl (by omega) (by decide) dX7_freeze_130 (fun H locs hs => ?_)
              rw [zx] at hs
              refine lv_aload_n hx hb dX7_freeze_131 rfl (lv_at hl 0 rfl) ?_
              refine zg6 E hs (k := 102) rfl 0 (by decide) rfl q_514 dX7_freeze_132 ?_
              refine lv_bipush (v := nI 76) hx hb dX7_freeze_135 (by decide) ?_
              refine lv_iconst (v := nI 1) hx hb dX7_freeze_137 (by decide) ?_
              refine lv_iload_n hx hb dX7_freeze_138 rfl (lv_at hl 1 rfl) ?_
              refine lv_isub hx hb dX7_freeze_139 ?_
              refine zast E hs 103 (n := 196) (j := 76) rfl rfl (by omega) (by decide) dX7_freeze_140 (fun H locs hs => ?_)
              rw [zx] at hs
              refine lv_aload_n hx hb dX7_freeze_141 rfl (lv_at hl 0 rfl) ?_
              refine zg6 E hs (k := 102) rfl 0 (by decide) rfl q_514 dX7_freeze_142 ?_
              refine lv_bipush (v := nI 75) hx hb dX7_freeze_145 (by decide) ?_
              refine lv_iconst (v := nI 0) hx hb dX7_freeze_147 (by decide) ?_
              refine zast E hs 103 (n := 196) (j := 75) rfl rfl (by omega) (by decide) dX7_freeze_148 (fun H locs hs => ?_)
              rw [zx] at hs
              refine lv_aload_n hx hb dX7_freeze_149 rfl (lv_at hl 0 rfl) ?_
              refine zg6 E hs (k := 102) rfl 0 (by decide) rfl q_514 dX7_freeze_150 ?_
              refine lv_bipush (v := nI 77) hx hb dX7_freeze_153 (by decide) ?_
              refine zald E hs 103 (n := 196) (j := 77) rfl rfl (by omega) (by decide) dX7_freeze_155 ?_
              refine tp (b := nI (f + 1)) (by rw [zu_s, zu_n _ _ (by decide), zu_n _ _ (by decide), zu_n _ _ (by decide), fzL_o (by decide) (by decide)]; exact zu_s _ _ _) ?_
              exact zeI E hs (Or.inr (Or.inr (Or.inr ⟨c_1, c_6, c_13, rfl, rfl, rfl⟩))) dX7_freeze_156
            · have c_15 : ¬ (36 ≤ i) := fun h => c_15 ((nI_leI (a := 36) (b := i) (by omega) (by omega)).mpr h)
              refine lv_aload_n hx hb dX7_freeze_88 rfl (lv_at hl 0 rfl) ?_
              refine zg6 E hs (k := 102) rfl 0 (by decide) rfl q_514 dX7_freeze_89 ?_
              refine lv_sipush (v := nI 151) hx hb dX7_freeze_92 (by decide) ?_
              refine lv_iload_n hx hb dX7_freeze_95 rfl (lv_at hl 2 rfl) ?_
              refine lv_iadd hx hb dX7_freeze_96 ?_
              refine tp (b := nI (151 + i)) (nI_add _ _) ?_
              refine lv_aload_n hx hb dX7_freeze_97 rfl (lv_at hl 0 rfl) ?_
              refine zg6 E hs (k := 102) rfl 0 (by decide) rfl q_514 dX7_freeze_98 ?_
              refine lv_bipush (v := nI 79) hx hb dX7_freeze_101 (by decide) ?_
              refine lv_iload_n hx hb dX7_freeze_103 rfl (lv_at hl 2 rfl) ?_
              refine lv_iadd hx hb dX7_freeze_104 ?_
              refine tp (b := nI (79 + i)) (nI_add _ _) ?_
              refine zald E hs 103 (n := 196) (j := (79 + i)) rfl rfl (by omega) (by decide) dX7_freeze_105 ?_
              refine tp (b := (fpG (ar 103) v (nI 1 - B 1 9) f) (79 + i)) (by rw [zu_s, fzL_o (by omega) (by omega)]) ?_
              refine zast E hs 103 (n := 196) (j := (151 + i)) rfl rfl (by omega) (by decide) dX7_freeze_106 (fun H locs hs => ?_)
              rw [zx] at hs
              refine lv_aload_n hx hb dX7_freeze_107 rfl (lv_at hl 0 rfl) ?_
              refine zg6 E hs (k := 102) rfl 0 (by decide) rfl q_514 dX7_freeze_108 ?_
              refine lv_bipush (v := nI 79) hx hb dX7_freeze_111 (by decide) ?_
              refine lv_iload_n hx hb dX7_freeze_113 rfl (lv_at hl 2 rfl) ?_
              refine lv_iadd hx hb dX7_freeze_114 ?_
              refine tp (b := nI (79 + i)) (nI_add _ _) ?_
              refine lv_iconst (v := (-1)) hx hb dX7_freeze_115 (by decide) ?_
              refine zast E hs 103 (n := 196) (j := (79 + i)) rfl rfl (by omega) (by decide) dX7_freeze_116 (fun H locs hs => ?_)
              rw [zx] at hs
              refine lv_iinc (v := nI (i + 1)) (lv' := [(3, .int (nI (i + 1))), (0, .ref (xa x 102)), (2, .int (B 1 9))]) hx hb dX7_freeze_117 hl (k := 2) rfl (nI_inc _) (by decide) rfl (fun ls hl => ?_)
              refine lv_goto (tgt := 82) hx hb dX7_freeze_120 (by decide) ?_
              exact ih_14 (i + 1) (by omega) (by omega) _ _ _ (by rw [fzL_s (by omega)] at hs; exact hs) (lvr (lv_at hl 1 rfl) (lvr (lv_at hl 2 rfl) (lvr (lv_at hl 0 rfl) (lvn hl))))
        exact L_14 (_ + 1) 0 (Nat.lt_succ_self _) (by omega) _ _ _ (by rw [fzL_0]; exact hs) (lvr (lv_at hl 2 rfl) (lvr (lv_at hl 1 rfl) (lvr (lv_at hl 0 rfl) (lvn hl))))
      · have c_13 : w - (f + 1) = 1 := (nI_eq (a := w - (f + 1)) (b := 1) (by omega) (by omega)).mp c_13
        refine lv_aload_n hx hb dX7_freeze_58 rfl (lv_at hl 1 rfl) ?_
        refine lv_iconst (v := nI 0) hx hb dX7_freeze_59 (by decide) ?_
        refine lv_iload_n hx hb dX7_freeze_60 rfl (lv_at hl 0 rfl) ?_
        refine zVV E hs lkX7_97 [] (c_X7_freezePart l x (zu (rcA ar z) 103 (fpG (ar 103) v ((nI 1) - (B 1 9)) f)) (rcF fd z) (f + 1) (by rw [zu_s]; exact zu_s _ _ _) (by omega) (nI 0) (B 1 9)) (by decide) (sh6 rfl) rfl ⟨Nat.le_of_ble_eq_true rfl, Nat.le_of_ble_eq_true rfl⟩ rfl hl.1 (Nat.le_of_ble_eq_true rfl) rfl dX7_freeze_61 (fun arr_16 fdr_16 H locs hp_17 hs => ?_)
        rw [hp_17.1, hp_17.2, zu_s, zu_zu] at hs
        refine lv_aload_n hx hb dX7_freeze_64 rfl (lv_at hl 1 rfl) ?_
        refine zg6 E hs (k := 102) rfl 0 (by decide) rfl q_514 dX7_freeze_65 ?_
        refine lv_bipush (v := nI 75) hx hb dX7_freeze_68 (by decide) ?_
        refine lv_iconst (v := nI 2) hx hb dX7_freeze_70 (by decide) ?_
        refine zast E hs 103 (n := 196) (j := 75) rfl rfl (by omega) (by decide) dX7_freeze_71 (fun H locs hs => ?_)
        rw [zx] at hs
        refine lv_aload_n hx hb dX7_freeze_72 rfl (lv_at hl 1 rfl) ?_
        refine zg6 E hs (k := 102) rfl 0 (by decide) rfl q_514 dX7_freeze_73 ?_
        refine lv_bipush (v := nI 77) hx hb dX7_freeze_76 (by decide) ?_
        refine zald E hs 103 (n := 196) (j := 77) rfl rfl (by omega) (by decide) dX7_freeze_78 ?_
        refine tp (b := nI (f + 1 + 1)) (by rw [zu_s, zu_n _ _ (by decide)]; exact zu_s _ _ _) ?_
        exact zeI E hs (Or.inr (Or.inr (Or.inl ⟨c_1, c_6, c_13, rfl, rfl, rfl⟩))) dX7_freeze_79
    · have c_6 : ¬ (¬ v < nI 0 ∧ ¬ (nI (w - f)) - (nI 1) < v) := bz_0 c_6
      refine lv_iconst (v := (-1)) hx hb dX7_freeze_28 (by decide) ?_
      exact zeI E hs (Or.inr (Or.inl ⟨c_1, c_6, rfl, rfl, rfl⟩)) dX7_freeze_29
  · refine lv_bipush (v := (-4)) hx hb dX7_freeze_11 (by decide) ?_
    exact zeI E hs (Or.inl ⟨c_1, rfl, rfl, rfl⟩) dX7_freeze_13

noncomputable def sq_type (ar fd : AR) (n : Nat) (v : Int32) : Int32 × AR × AR := iz (n = 60) (((-3), ar, fd)) ((nI (n + 1), zu ar 106 (zu (ar 106) n (vp_nar .char v)), zu fd 102 (zu (fd 102) 6 (nI (n + 1)))))
set_option maxHeartbeats 4000000 in
set_option maxRecDepth 100000 in
/-- type -/
theorem c_X7_type (l : Launch) (x : CT) (ar fd : AR) (n : Nat) (hn : fd 102 6 = nI n) (hn60 : n ≤ 60) (v : Int32) : CI l yX7_type cX7_type 2 (some .int) 0 0 x [.ref (xa x 102), .int v] ar fd (fun r ar' fd' => (r, ar', fd') = sq_type ar fd n v) := by
  refine zsI (own := RX7) rfl (by decide +kernel) (Nat.le_of_ble_eq_true rfl) ?_
  intro p e s m below meth c ls E hs hl
  have hx := E.1
  have hb := E.2.1
  have hl : lv_has ls 2 [(0, .ref (xa x 102)), (1, .int v)] := hl
  refine lv_aload_n hx hb dX7_type_0 rfl (lv_at hl 0 rfl) ?_
  refine zg6 E hs (k := 102) rfl 6 (by decide) rfl q_520 dX7_type_1 ?_
  refine tp (b := nI n) hn ?_
  refine lv_bipush (v := nI 60) hx hb dX7_type_4 (by decide) ?_
  refine lv_icmp_ne (tgt := 12) hx hb dX7_type_6 (by decide) (fun c_1 => ?_) (fun c_1 => ?_)
  · have c_1 : ¬ (n = 60) := fun h => c_1 ((nI_eq (a := n) (b := 60) (by omega) (by omega)).mpr h)
    refine lv_aload_n hx hb dX7_type_12 rfl (lv_at hl 0 rfl) ?_
    refine zg6 E hs (k := 102) rfl 5 (by decide) rfl q_519 dX7_type_13 ?_
    refine lv_aload_n hx hb dX7_type_16 rfl (lv_at hl 0 rfl) ?_
    refine zg6 E hs (k := 102) rfl 6 (by decide) rfl q_520 dX7_type_17 ?_
    refine tp (b := nI n) hn ?_
    refine lv_iload_n hx hb dX7_type_20 rfl (lv_at hl 1 rfl) ?_
    refine zast8 E hs 106 (n := 60) (j := n) rfl rfl (by omega) (by decide) dX7_type_21 (fun H locs hs => ?_)
    refine lv_aload_n hx hb dX7_type_22 rfl (lv_at hl 0 rfl) ?_
    refine lv_dup hx hb dX7_type_23 rfl ?_
    refine zg6 E hs (k := 102) rfl 6 (by decide) rfl q_520 dX7_type_24 ?_
    refine tp (b := nI n) hn ?_
    refine lv_iconst (v := nI 1) hx hb dX7_type_27 (by decide) ?_
    refine lv_iadd hx hb dX7_type_28 ?_
    refine tp (b := nI (n + 1)) (nI_add _ _) ?_
    refine zp6_6 E hs (k := 102) (hk := rfl)  q_520 dX7_type_29 (fun H locs hs => ?_)
    refine lv_aload_n hx hb dX7_type_32 rfl (lv_at hl 0 rfl) ?_
    refine zg6 E hs (k := 102) rfl 6 (by decide) rfl q_520 dX7_type_33 ?_
    refine tp (b := nI (n + 1)) (by rw [zu_s, zu_s]) ?_
    exact zeI E hs (by show (_, _, _) = sq_type ar fd n v; unfold sq_type; rw [iz_f c_1]) dX7_type_36
  · have c_1 : n = 60 := (nI_eq (a := n) (b := 60) (by omega) (by omega)).mp c_1
    refine lv_bipush (v := (-3)) hx hb dX7_type_9 (by decide) ?_
    exact zeI E hs (by show (_, _, _) = sq_type ar fd n v; unfold sq_type; rw [iz_t c_1]) dX7_type_11

noncomputable def sq_clearText (ar fd : AR) (n : Nat) : Int32 × AR × AR := (nI n, ar, zu fd 102 (zu (fd 102) 6 (nI 0)))
set_option maxHeartbeats 4000000 in
set_option maxRecDepth 100000 in
/-- clearText -/
theorem c_X7_clearText (l : Launch) (x : CT) (ar fd : AR) (n : Nat) (hn : fd 102 6 = nI n) (hn60 : n ≤ 60) : CI l yX7_clearText cX7_clearText 2 (some .int) 0 0 x [.ref (xa x 102)] ar fd (fun r ar' fd' => (r, ar', fd') = sq_clearText ar fd n) := by
  refine zsI (own := RX7) rfl (by decide +kernel) (Nat.le_of_ble_eq_true rfl) ?_
  intro p e s m below meth c ls E hs hl
  have hx := E.1
  have hb := E.2.1
  have hl : lv_has ls 2 [(0, .ref (xa x 102))] := hl
  refine lv_aload_n hx hb dX7_clearText_0 rfl (lv_at hl 0 rfl) ?_
  refine zg6 E hs (k := 102) rfl 6 (by decide) rfl q_520 dX7_clearText_1 ?_
  refine tp (b := nI n) hn ?_
  refine lv_istore_n (lv' := [(1, .int (nI n)), (0, .ref (xa x 102))]) hx hb dX7_clearText_4 rfl hl (by decide) rfl (fun ls hl => ?_)
  refine lv_aload_n hx hb dX7_clearText_5 rfl (lv_at hl 1 rfl) ?_
  refine lv_iconst (v := nI 0) hx hb dX7_clearText_6 (by decide) ?_
  refine zp6_6 E hs (k := 102) (hk := rfl)  q_520 dX7_clearText_7 (fun H locs hs => ?_)
  refine lv_iload_n hx hb dX7_clearText_10 rfl (lv_at hl 0 rfl) ?_
  exact zeI E hs (by show (_, _, _) = sq_clearText ar fd n; unfold sq_clearText; rfl) dX7_clearText_11

set_option maxHeartbeats 4000000 in
set_option maxRecDepth 100000 in
/-- sees -/
theorem c_X7_sees (l : Launch) (x : CT) (ar fd : AR) (n : Nat) (hn : fd 102 6 = nI n) (hn60 : n ≤ 60) (a : Nat) (hat : fd 102 7 = nI a) (ha : a ≤ n) (u q : Int32) : CP l yX7_sees cX7_sees 3 (some .boolean) 1 22 x [.ref (xa x 102), .int u, .int q] ar fd (fun r => r = bz (a < n ∧ ¬ ar 106 a < u ∧ ¬ q < ar 106 a)) := by
  refine zsP (own := RX7) rfl (by decide +kernel) (Nat.le_of_ble_eq_true rfl) ?_
  intro p e s m below meth c ls E hs hl
  have hx := E.1
  have hb := E.2.1
  have hl : lv_has ls 3 [(0, .ref (xa x 102)), (1, .int u), (2, .int q)] := hl
  refine lv_aload_n hx hb dX7_sees_0 rfl (lv_at hl 0 rfl) ?_
  refine zg6 E hs (k := 102) rfl 7 (by decide) rfl q_521 dX7_sees_1 ?_
  refine tp (b := nI a) hat ?_
  refine lv_aload_n hx hb dX7_sees_4 rfl (lv_at hl 0 rfl) ?_
  refine zg6 E hs (k := 102) rfl 6 (by decide) rfl q_520 dX7_sees_5 ?_
  refine tp (b := nI n) hn ?_
  refine lv_icmp_ge (tgt := 32) hx hb dX7_sees_8 (by decide) (fun c_1 => ?_) (fun c_1 => ?_)
  · have c_1 : n ≤ a := (nI_leI (a := n) (b := a) (by omega) (by omega)).mp c_1
    refine lv_iconst (v := nI 0) hx hb dX7_sees_32 (by decide) ?_
    exact zePn E hs rfl (bz_f (fun h => absurd h.1 (by omega))).symm dX7_sees_33
  · have c_1 : ¬ (n ≤ a) := fun h => c_1 ((nI_leI (a := n) (b := a) (by omega) (by omega)).mpr h)
    refine lv_aload_n hx hb dX7_sees_11 rfl (lv_at hl 0 rfl) ?_
    refine zg6 E hs (k := 102) rfl 5 (by decide) rfl q_519 dX7_sees_12 ?_
    refine lv_aload_n hx hb dX7_sees_15 rfl (lv_at hl 0 rfl) ?_
    refine zg6 E hs (k := 102) rfl 7 (by decide) rfl q_521 dX7_sees_16 ?_
    refine tp (b := nI a) hat ?_
    refine zald8 E hs 106 (n := 60) (j := a) rfl rfl (by omega) (by decide) dX7_sees_19 ?_
    refine lv_iload_n hx hb dX7_sees_20 rfl (lv_at hl 1 rfl) ?_
    refine lv_iload_n hx hb dX7_sees_21 rfl (lv_at hl 2 rfl) ?_
    refine zSP E hs lkX7_36 [] (c_X7_in l x ar fd (ar 106 a) u q) ⟨Nat.le_of_ble_eq_true rfl, Nat.le_of_ble_eq_true rfl⟩ rfl hl.1 (Nat.le_of_ble_eq_true rfl) rfl dX7_sees_22 (fun r_2 H locs hp_3 hs => ?_)
    subst hp_3
    refine lv_if_eq (tgt := 32) hx hb dX7_sees_25 (by decide) (fun c_4 => ?_) (fun c_4 => ?_)
    · have c_4 : ¬ (¬ ar 106 a < u ∧ ¬ q < ar 106 a) := bz_0 c_4
      refine lv_iconst (v := nI 0) hx hb dX7_sees_32 (by decide) ?_
      exact zePn E hs rfl (bz_f (fun h => c_4 h.2)).symm dX7_sees_33
    · have c_4 : ¬ ar 106 a < u ∧ ¬ q < ar 106 a := bz_1 c_4
      refine lv_iconst (v := nI 1) hx hb dX7_sees_28 (by decide) ?_
      refine lv_goto (tgt := 33) hx hb dX7_sees_29 (by decide) ?_
      exact zePn E hs rfl (bz_t ⟨by omega, c_4⟩).symm dX7_sees_33

set_option maxHeartbeats 4000000 in
set_option maxRecDepth 100000 in
/-- readPairs -/
theorem c_X7_readPairs (l : Launch) (x : CT) (ar fd : AR) (n : Nat) (hn : fd 102 6 = nI n) (hn60 : n ≤ 60) : CI l yX7_readPairs cX7_readPairs 4 (some .int) 2 44 x [.ref (xa x 102)] ar fd (fun r ar' fd' => (flt (ar 106) n = -1 ∧ r = nI ((n + 1) / 3) ∧ (∀ k, k < 2 * ((n + 1) / 3) → ar' 107 k = ar 106 (k / 2 * 3 + k % 2) - nI 48) ∧ (∀ q, q ≠ 107 → ar' q = ar q) ∧ fd' = zu fd 102 (zu (fd 102) 7 (nI n))) ∨ (¬ flt (ar 106) n = -1 ∧ r = -5 ∧ (∀ q, q ≠ 107 → ar' q = ar q) ∧ fd' = zu fd 102 (zu (fd 102) 7 (flt (ar 106) n)))) := by
  refine zsI (own := RX7) rfl (by decide +kernel) (Nat.le_of_ble_eq_true rfl) ?_
  intro p e s m below meth c ls E hs hl
  have hx := E.1
  have hb := E.2.1
  have hl : lv_has ls 4 [(0, .ref (xa x 102))] := hl
  refine lv_aload_n hx hb dX7_readPairs_0 rfl (lv_at hl 0 rfl) ?_
  refine lv_iconst (v := nI 0) hx hb dX7_readPairs_1 (by decide) ?_
  refine zp6_7 E hs (k := 102) (hk := rfl)  q_521 dX7_readPairs_2 (fun H locs hs => ?_)
  refine lv_iconst (v := nI 0) hx hb dX7_readPairs_5 (by decide) ?_
  refine lv_istore_n (lv' := [(1, .int (nI 0)), (0, .ref (xa x 102))]) hx hb dX7_readPairs_6 rfl hl (by decide) rfl (fun ls hl => ?_)
  refine lv_iconst (v := nI 1) hx hb dX7_readPairs_7 (by decide) ?_
  refine lv_istore_n (lv' := [(2, .int (nI 1)), (1, .int (nI 0)), (0, .ref (xa x 102))]) hx hb dX7_readPairs_8 rfl hl (by decide) rfl (fun ls hl => ?_)
  have L_1 : ∀ (mm : Nat) (i : Nat) (a : Nat) (mo : Nat) (ar1 : AR), ((n - a) + mo) < mm → (a ≤ n) → ((mo = 1 ∧ a = 3 * i) ∨ (mo = 0 ∧ a + 1 = 3 * i)) → (mo = 0 → a < n → ¬ alw (ar 106) a) → (∀ k, k < a → alw (ar 106) k) → (∀ k, k < 2 * i → ar1 107 k = ar 106 (k / 2 * 3 + k % 2) - nI 48) → (∀ q, q ≠ 107 → ar1 q = ar q) → ∀ (H : Heap) (locs : List Loc) (ls : Array Slot), ST x (AA x) s.heap ar1 (zu fd 102 (zu (fd 102) 7 (nI a))) H locs → lv_has ls 4 [(0, .ref (xa x 102)), (1, .int (nI i)), (2, .int (nI mo))] → W p l e (rmZ 2 44) s m ([.ref (xa x 102)] : List Value).toArray below meth c H locs 0 0 (QI below x [.ref (xa x 102)] s (fun r ar' fd' => (flt (ar 106) n = -1 ∧ r = nI ((n + 1) / 3) ∧ (∀ k, k < 2 * ((n + 1) / 3) → ar' 107 k = ar 106 (k / 2 * 3 + k % 2) - nI 48) ∧ (∀ q, q ≠ 107 → ar' q = ar q) ∧ fd' = zu fd 102 (zu (fd 102) 7 (nI n))) ∨ (¬ flt (ar 106) n = -1 ∧ r = -5 ∧ (∀ q, q ≠ 107 → ar' q = ar q) ∧ fd' = zu fd 102 (zu (fd 102) 7 (flt (ar 106) n))))) (F0 m 9 ls []) := by
    intro mm
    induction mm with
    | zero => intro i a mo ar1 hmu; exact absurd hmu (Nat.not_lt_zero _)
    | succ mm ih_1 =>
      intro i a mo ar1 hmu hi hmo hma h1 h2 h3 H locs ls hs hl
      refine lv_iload_n hx hb dX7_readPairs_9 rfl (lv_at hl 2 rfl) ?_
      refine lv_if_eq (tgt := 105) hx hb dX7_readPairs_10 (by decide) (fun c_2 => ?_) (fun c_2 => ?_)
      · have c_2 : mo = 0 := (nI_eq (a := mo) (b := 0) (by omega) (by omega)).mp c_2
        refine lv_aload_n hx hb dX7_readPairs_105 rfl (lv_at hl 0 rfl) ?_
        refine zg6 E hs (k := 102) rfl 7 (by decide) rfl q_521 dX7_readPairs_106 ?_
        refine tp (b := nI a) (by rw [zu_s, zu_s]) ?_
        refine lv_aload_n hx hb dX7_readPairs_109 rfl (lv_at hl 0 rfl) ?_
        refine zg6 E hs (k := 102) rfl 6 (by decide) rfl q_520 dX7_readPairs_110 ?_
        refine tp (b := nI n) (by rw [zu_s, zu_n _ _ (by decide)]; exact hn) ?_
        refine lv_icmp_ge (tgt := 121) hx hb dX7_readPairs_113 (by decide) (fun c_3 => ?_) (fun c_3 => ?_)
        · have c_3 : n ≤ a := (nI_leI (a := n) (b := a) (by omega) (by omega)).mp c_3
          refine lv_iload_n hx hb dX7_readPairs_121 rfl (lv_at hl 1 rfl) ?_
          exact zeI E hs (Or.inl ⟨by rw [flt_end (fun k hk => h1 k (by omega)), iz_t (by omega)], congrArg nI (by omega), fun k hk => h2 k (by omega), h3, by rw [show n = a by omega]⟩) dX7_readPairs_122
        · have c_3 : ¬ (n ≤ a) := fun h => c_3 ((nI_leI (a := n) (b := a) (by omega) (by omega)).mpr h)
          refine lv_bipush (v := (-5)) hx hb dX7_readPairs_116 (by decide) ?_
          refine lv_goto (tgt := 122) hx hb dX7_readPairs_118 (by decide) ?_
          exact zeI E hs (Or.inr ⟨by rw [(flt_bad (n := n) (a := a) (by omega) hn60 h1 (hma c_2 (by omega)))]; exact nI_nm (by omega), rfl, h3, by rw [(flt_bad (n := n) (a := a) (by omega) hn60 h1 (hma c_2 (by omega)))]⟩) dX7_readPairs_122
      · have c_2 : ¬ (mo = 0) := fun h => c_2 ((nI_eq (a := mo) (b := 0) (by omega) (by omega)).mpr h)
        refine lv_iconst (v := nI 0) hx hb dX7_readPairs_13 (by decide) ?_
        refine lv_istore_n (lv' := [(3, .int (nI 0)), (0, .ref (xa x 102)), (1, .int (nI i)), (2, .int (nI mo))]) hx hb dX7_readPairs_14 rfl hl (by decide) rfl (fun ls hl => ?_)
        have L_4 : ∀ (mm : Nat) (j : Nat) (ar2 : AR), (2 - j) < mm → (j ≤ 2) → (3 * i + j ≤ n) → (∀ k, k < 3 * i + j → alw (ar 106) k) → (∀ k, k < 2 * i + j → ar2 107 k = ar 106 (k / 2 * 3 + k % 2) - nI 48) → (∀ q, q ≠ 107 → ar2 q = ar q) → ∀ (H : Heap) (locs : List Loc) (ls : Array Slot), ST x (AA x) s.heap ar2 (zu fd 102 (zu (fd 102) 7 (nI (3 * i + j)))) H locs → lv_has ls 4 [(0, .ref (xa x 102)), (1, .int (nI i)), (3, .int (nI j))] → W p l e (rmZ 2 44) s m ([.ref (xa x 102)] : List Value).toArray below meth c H locs 0 0 (QI below x [.ref (xa x 102)] s (fun r ar' fd' => (flt (ar 106) n = -1 ∧ r = nI ((n + 1) / 3) ∧ (∀ k, k < 2 * ((n + 1) / 3) → ar' 107 k = ar 106 (k / 2 * 3 + k % 2) - nI 48) ∧ (∀ q, q ≠ 107 → ar' q = ar q) ∧ fd' = zu fd 102 (zu (fd 102) 7 (nI n))) ∨ (¬ flt (ar 106) n = -1 ∧ r = -5 ∧ (∀ q, q ≠ 107 → ar' q = ar q) ∧ fd' = zu fd 102 (zu (fd 102) 7 (flt (ar 106) n))))) (F0 m 15 ls []) := by
          intro mm
          induction mm with
          | zero => intro j ar2 hmu; exact absurd hmu (Nat.not_lt_zero _)
          | succ mm ih_4 =>
            intro j ar2 hmu hj hjn g1 g2 g3 H locs ls hs hl
            refine lv_iload_n hx hb dX7_readPairs_15 rfl (lv_at hl 2 rfl) ?_
            refine lv_iconst (v := nI 2) hx hb dX7_readPairs_16 (by decide) ?_
            refine lv_icmp_ge (tgt := 72) hx hb dX7_readPairs_17 (by decide) (fun c_5 => ?_) (fun c_5 => ?_)
            · have c_5 : 2 ≤ j := (nI_leI (a := 2) (b := j) (by omega) (by omega)).mp c_5
              refine lv_iinc (v := nI (i + 1)) (lv' := [(1, .int (nI (i + 1))), (0, .ref (xa x 102)), (3, .int (nI j))]) hx hb dX7_readPairs_72 hl (k := 1) rfl (nI_inc _) (by decide) rfl (fun ls hl => ?_)
              refine lv_aload_n hx hb dX7_readPairs_75 rfl (lv_at hl 1 rfl) ?_
              refine lv_bipush (v := nI 44) hx hb dX7_readPairs_76 (by decide) ?_
              refine lv_bipush (v := nI 44) hx hb dX7_readPairs_78 (by decide) ?_
              refine zVP E hs lkX7_107 [] (c_X7_sees l x ar2 (zu fd 102 (zu (fd 102) 7 (nI (3 * i + j)))) n (by rw [zu_s, zu_n _ _ (by decide)]; exact hn) hn60 (3 * i + j) (by rw [zu_s, zu_s]) (by omega) (nI 44) (nI 44)) (by decide) (sh6 rfl) rfl ⟨Nat.le_of_ble_eq_true rfl, Nat.le_of_ble_eq_true rfl⟩ rfl hl.1 (Nat.le_of_ble_eq_true rfl) rfl dX7_readPairs_80 (fun r_6 H locs hp_7 hs => ?_)
              rw [g3 106 (by decide)] at hp_7
              subst hp_7
              refine lv_istore_n (lv' := [(2, .int (bz (3 * i + j < n ∧ ¬ ar 106 (3 * i + j) < nI 44 ∧ ¬ nI 44 < ar 106 (3 * i + j)))), (1, .int (nI (i + 1))), (0, .ref (xa x 102)), (3, .int (nI j))]) hx hb dX7_readPairs_83 rfl hl (by decide) rfl (fun ls hl => ?_)
              refine lv_aload_n hx hb dX7_readPairs_84 rfl (lv_at hl 2 rfl) ?_
              refine lv_dup hx hb dX7_readPairs_85 rfl ?_
              refine zg6 E hs (k := 102) rfl 7 (by decide) rfl q_521 dX7_readPairs_86 ?_
              refine tp (b := nI (3 * i + j)) (by rw [zu_s, zu_s]) ?_
              refine lv_iload_n hx hb dX7_readPairs_89 rfl (lv_at hl 0 rfl) ?_
              refine lv_if_eq (tgt := 97) hx hb dX7_readPairs_90 (by decide) (fun c_8 => ?_) (fun c_8 => ?_)
              · have c_8 : ¬ (3 * i + j < n ∧ ¬ ar 106 (3 * i + j) < nI 44 ∧ ¬ nI 44 < ar 106 (3 * i + j)) := bz_0 c_8
                refine lv_iconst (v := nI 0) hx hb dX7_readPairs_97 (by decide) ?_
                refine lv_iadd hx hb dX7_readPairs_98 ?_
                refine tp (b := nI ((3 * i + j) + 0)) (nI_add _ _) ?_
                refine zp6_7 E hs (k := 102) (hk := rfl)  q_521 dX7_readPairs_99 (fun H locs hs => ?_)
                rw [zu7] at hs
                refine lv_goto (tgt := 9) hx hb dX7_readPairs_102 (by decide) ?_
                exact ih_1 (i + 1) ((3 * i + j) + 0) 0 ar2 (by omega) (by omega) (Or.inr ⟨rfl, by omega⟩) (fun _ hlt z => c_8 ⟨hlt, (alw_c (a := 3 * i + j) (by omega)).mp z⟩) (fun k hk => g1 k (by omega)) (fun k hk => g2 k (by omega)) g3 _ _ _ hs (lvr (lv_at hl 2 rfl) (lvr (lv_at hl 1 rfl) (lvc (lv_at hl 0 rfl) (bz_f c_8) (lvn hl))))
              · have c_8 : 3 * i + j < n ∧ ¬ ar 106 (3 * i + j) < nI 44 ∧ ¬ nI 44 < ar 106 (3 * i + j) := bz_1 c_8
                refine lv_iconst (v := nI 1) hx hb dX7_readPairs_93 (by decide) ?_
                refine lv_goto (tgt := 98) hx hb dX7_readPairs_94 (by decide) ?_
                refine lv_iadd hx hb dX7_readPairs_98 ?_
                refine tp (b := nI ((3 * i + j) + 1)) (nI_add _ _) ?_
                refine zp6_7 E hs (k := 102) (hk := rfl)  q_521 dX7_readPairs_99 (fun H locs hs => ?_)
                rw [zu7] at hs
                refine lv_goto (tgt := 9) hx hb dX7_readPairs_102 (by decide) ?_
                exact ih_1 (i + 1) ((3 * i + j) + 1) 1 ar2 (by have := c_8.1; omega) (by have := c_8.1; omega) (Or.inl ⟨rfl, by omega⟩) (fun h => absurd h (by decide)) (fun k hk => by
                      rcases Nat.lt_or_ge k (3 * i + j) with z | z
                      · exact g1 k z
                      · rw [show k = 3 * i + j by omega]; exact (alw_c (by omega)).mpr c_8.2) (fun k hk => g2 k (by omega)) g3 _ _ _ hs (lvr (lv_at hl 2 rfl) (lvr (lv_at hl 1 rfl) (lvc (lv_at hl 0 rfl) (bz_t c_8) (lvn hl))))
            · have c_5 : ¬ (2 ≤ j) := fun h => c_5 ((nI_leI (a := 2) (b := j) (by omega) (by omega)).mpr h)
              refine lv_aload_n hx hb dX7_readPairs_20 rfl (lv_at hl 0 rfl) ?_
              refine lv_bipush (v := nI 48) hx hb dX7_readPairs_21 (by decide) ?_
              refine lv_bipush (v := nI 57) hx hb dX7_readPairs_23 (by decide) ?_
              refine zVP E hs lkX7_107 [] (c_X7_sees l x ar2 (zu fd 102 (zu (fd 102) 7 (nI (3 * i + j)))) n (by rw [zu_s, zu_n _ _ (by decide)]; exact hn) hn60 (3 * i + j) (by rw [zu_s, zu_s]) (by omega) (nI 48) (nI 57)) (by decide) (sh6 rfl) rfl ⟨Nat.le_of_ble_eq_true rfl, Nat.le_of_ble_eq_true rfl⟩ rfl hl.1 (Nat.le_of_ble_eq_true rfl) rfl dX7_readPairs_25 (fun r_9 H locs hp_10 hs => ?_)
              rw [g3 106 (by decide)] at hp_10
              subst hp_10
              refine lv_if_ne (tgt := 34) hx hb dX7_readPairs_28 (by decide) (fun c_11 => ?_) (fun c_11 => ?_)
              · have c_11 : 3 * i + j < n ∧ ¬ ar 106 (3 * i + j) < nI 48 ∧ ¬ nI 57 < ar 106 (3 * i + j) := bz_1 c_11
                refine lv_aload_n hx hb dX7_readPairs_34 rfl (lv_at hl 0 rfl) ?_
                refine zg6 E hs (k := 102) rfl 8 (by decide) rfl q_522 dX7_readPairs_35 ?_
                refine lv_iconst (v := nI 2) hx hb dX7_readPairs_38 (by decide) ?_
                refine lv_iload_n hx hb dX7_readPairs_39 rfl (lv_at hl 1 rfl) ?_
                refine lv_imul hx hb dX7_readPairs_40 ?_
                refine tp (b := nI (2 * i)) (nI_mul _ _) ?_
                refine lv_iload_n hx hb dX7_readPairs_41 rfl (lv_at hl 2 rfl) ?_
                refine lv_iadd hx hb dX7_readPairs_42 ?_
                refine tp (b := nI ((2 * i) + j)) (nI_add _ _) ?_
                refine lv_aload_n hx hb dX7_readPairs_43 rfl (lv_at hl 0 rfl) ?_
                refine zg6 E hs (k := 102) rfl 5 (by decide) rfl q_519 dX7_readPairs_44 ?_
                refine lv_aload_n hx hb dX7_readPairs_47 rfl (lv_at hl 0 rfl) ?_
                refine zg6 E hs (k := 102) rfl 7 (by decide) rfl q_521 dX7_readPairs_48 ?_
                refine tp (b := nI (3 * i + j)) (by rw [zu_s, zu_s]) ?_
                refine zald8 E hs 106 (n := 60) (j := (3 * i + j)) rfl rfl (by omega) (by decide) dX7_readPairs_51 ?_
                refine tp (b := ar 106 (3 * i + j)) (congrFun (g3 106 (by decide)) _) ?_
                refine lv_bipush (v := nI 48) hx hb dX7_readPairs_52 (by decide) ?_
                refine lv_isub hx hb dX7_readPairs_54 ?_
                refine zast E hs 107 (n := 40) (j := ((2 * i) + j)) rfl rfl (by omega) (by decide) dX7_readPairs_55 (fun H locs hs => ?_)
                refine lv_aload_n hx hb dX7_readPairs_56 rfl (lv_at hl 0 rfl) ?_
                refine lv_dup hx hb dX7_readPairs_57 rfl ?_
                refine zg6 E hs (k := 102) rfl 7 (by decide) rfl q_521 dX7_readPairs_58 ?_
                refine tp (b := nI (3 * i + j)) (by rw [zu_s, zu_s]) ?_
                refine lv_iconst (v := nI 1) hx hb dX7_readPairs_61 (by decide) ?_
                refine lv_iadd hx hb dX7_readPairs_62 ?_
                refine tp (b := nI ((3 * i + j) + 1)) (nI_add _ _) ?_
                refine zp6_7 E hs (k := 102) (hk := rfl)  q_521 dX7_readPairs_63 (fun H locs hs => ?_)
                rw [zu7] at hs
                refine lv_iinc (v := nI (j + 1)) (lv' := [(3, .int (nI (j + 1))), (0, .ref (xa x 102)), (1, .int (nI i))]) hx hb dX7_readPairs_66 hl (k := 2) rfl (nI_inc _) (by decide) rfl (fun ls hl => ?_)
                refine lv_goto (tgt := 15) hx hb dX7_readPairs_69 (by decide) ?_
                exact ih_4 (j + 1) (zu ar2 107 (zu (ar2 107) ((2 * i) + j) ((ar 106 (3 * i + j)) - (nI 48)))) (by omega) (by omega) (by have := c_11.1; omega) (fun k hk => by
                      rcases Nat.lt_or_ge k (3 * i + j) with z | z
                      · exact g1 k z
                      · rw [show k = 3 * i + j by omega]; exact (alw_d (by omega)).mpr c_11.2) (fun k hk => by
                      rw [zu_s]
                      by_cases e : k = 2 * i + j
                      · rw [e, zu_s, show (2 * i + j) / 2 * 3 + (2 * i + j) % 2 = 3 * i + j by omega]
                      · rw [zu_n _ _ e]; exact g2 k (by omega)) (fun q hq => by rw [zu_n _ _ hq]; exact g3 q hq) _ _ _ hs (lvr (lv_at hl 1 rfl) (lvr (lv_at hl 2 rfl) (lvr (lv_at hl 0 rfl) (lvn hl))))
              · have c_11 : ¬ (3 * i + j < n ∧ ¬ ar 106 (3 * i + j) < nI 48 ∧ ¬ nI 57 < ar 106 (3 * i + j)) := bz_0 c_11
                refine lv_bipush (v := (-5)) hx hb dX7_readPairs_31 (by decide) ?_
                exact zeI E hs (Or.inr ⟨by rw [(flt_dg (n := n) (a := 3 * i + j) (by omega) hn60 (by omega) g1 c_11)]; exact nI_nm (by omega), rfl, g3, by rw [(flt_dg (n := n) (a := 3 * i + j) (by omega) hn60 (by omega) g1 c_11)]⟩) dX7_readPairs_33
        exact L_4 (_ + 1) 0 ar1 (Nat.lt_succ_self _) (by omega) (by omega) (fun k hk => h1 k (by omega)) (fun k hk => h2 k (by omega)) h3 _ _ _ (by rw [show 3 * i + 0 = a by omega]; exact hs) (lvr (lv_at hl 1 rfl) (lvr (lv_at hl 2 rfl) (lvr (lv_at hl 0 rfl) (lvn hl))))
  exact L_1 (_ + 1) 0 0 1 ar (Nat.lt_succ_self _) (by omega) (Or.inl ⟨rfl, rfl⟩) (fun h => absurd h (by decide)) (fun _ h => absurd h (Nat.not_lt_zero _)) (fun _ h => absurd h (by omega)) (fun _ _ => rfl) _ _ _ hs (lvr (lv_at hl 2 rfl) (lvr (lv_at hl 1 rfl) (lvr (lv_at hl 0 rfl) (lvn hl))))

set_option maxHeartbeats 4000000 in
set_option maxRecDepth 100000 in
/-- readVotes -/
theorem c_X7_readVotes (l : Launch) (x : CT) (ar fd : AR) (n : Nat) (hn : fd 102 6 = nI n) (hn60 : n ≤ 60) (z : Nat) (hz : fd 102 3 = nI z) (hz4 : z ≤ 4) (v : Int32) : CI l yX7_readVotes cX7_readVotes 4 (some .int) 3 67 x [.ref (xa x 102), .int v] ar fd (fun r ar' fd' => (¬ (¬ v < nI 0 ∧ ¬ nI 35 < v) ∧ r = -1 ∧ ar' = ar ∧ fd' = fd) ∨ ((¬ v < nI 0 ∧ ¬ nI 35 < v) ∧ ¬ flt (ar 106) n = -1 ∧ r = (-100) - flt (ar 106) n ∧ (∀ q, q ≠ 107 → ar' q = ar q) ∧ fd' = zu fd 102 (zu (fd 102) 7 (flt (ar 106) n))) ∨ ((¬ v < nI 0 ∧ ¬ nI 35 < v) ∧ flt (ar 106) n = -1 ∧ ¬ v.toNatClampNeg + ((n + 1) / 3) ≤ 36 ∧ r = -2 ∧ (∀ q, q ≠ 107 → ar' q = ar q) ∧ fd' = zu fd 102 (zu (fd 102) 7 (nI n))) ∨ ((¬ v < nI 0 ∧ ¬ nI 35 < v) ∧ flt (ar 106) n = -1 ∧ v.toNatClampNeg + ((n + 1) / 3) ≤ 36 ∧ r = nI ((n + 1) / 3) ∧ (∀ q, q ≠ 107 → ar' q = zu (rcA ar z) 103 (bl (ar 103) (2 * v.toNatClampNeg) (2 * ((n + 1) / 3)) (fun k => ar 106 (k / 2 * 3 + k % 2) - nI 48)) q) ∧ fd' = rcF (zu fd 102 (zu (fd 102) 7 (nI n))) z)) := by
  refine zsI (own := RX7) rfl (by decide +kernel) (Nat.le_of_ble_eq_true rfl) ?_
  intro p e s m below meth c ls E hs hl
  have hx := E.1
  have hb := E.2.1
  have hl : lv_has ls 4 [(0, .ref (xa x 102)), (1, .int v)] := hl
  refine lv_iload_n hx hb dX7_readVotes_0 rfl (lv_at hl 1 rfl) ?_
  refine zSP E hs lkX7_51 [] (c_X7_noCell l x ar fd v) ⟨Nat.le_of_ble_eq_true rfl, Nat.le_of_ble_eq_true rfl⟩ rfl hl.1 (Nat.le_of_ble_eq_true rfl) rfl dX7_readVotes_1 (fun r_1 H locs hp_2 hs => ?_)
  subst hp_2
  refine lv_if_eq (tgt := 9) hx hb dX7_readVotes_4 (by decide) (fun c_3 => ?_) (fun c_3 => ?_)
  · have c_3 : ¬ (¬ (¬ v < nI 0 ∧ ¬ nI 35 < v)) := bz_0 c_3
    obtain ⟨hlt_v, heq_v⟩ := cell_of (Classical.not_not.mp c_3) (by decide)
    rw [heq_v] at hl
    refine lv_aload_n hx hb dX7_readVotes_9 rfl (lv_at hl 0 rfl) ?_
    refine zVI E hs lkX7_111 [] (c_X7_readPairs l x ar fd n hn hn60) (by decide) (sh6 rfl) rfl ⟨Nat.le_of_ble_eq_true rfl, Nat.le_of_ble_eq_true rfl⟩ rfl hl.1 (Nat.le_of_ble_eq_true rfl) rfl dX7_readVotes_10 (fun r_4 arr_4 fdr_4 H locs hp_5 hs => ?_)
    rcases hp_5 with ⟨t_61, t_62, t_63, t_64, t_65⟩ | ⟨t_61, t_62, t_63, t_64⟩
    · rw [t_65] at hs
      refine tp (b := nI ((n + 1) / 3)) t_62 ?_
      refine lv_istore_n (lv' := [(2, .int (nI ((n + 1) / 3))), (0, .ref (xa x 102)), (1, .int (nI v.toNatClampNeg))]) hx hb dX7_readVotes_13 rfl hl (by decide) rfl (fun ls hl => ?_)
      refine lv_iload_n hx hb dX7_readVotes_14 rfl (lv_at hl 0 rfl) ?_
      refine lv_if_ge (tgt := 26) hx hb dX7_readVotes_15 (by decide) (fun c_7 => ?_) (fun c_7 => ?_)
      · have c_7 : 0 ≤ (n + 1) / 3 := (nI_leI (a := 0) (b := (n + 1) / 3) (by omega) (by omega)).mp c_7
        refine lv_iload_n hx hb dX7_readVotes_26 rfl (lv_at hl 2 rfl) ?_
        refine lv_iload_n hx hb dX7_readVotes_27 rfl (lv_at hl 0 rfl) ?_
        refine lv_iadd hx hb dX7_readVotes_28 ?_
        refine tp (b := nI (v.toNatClampNeg + ((n + 1) / 3))) (nI_add _ _) ?_
        refine lv_bipush (v := nI 36) hx hb dX7_readVotes_29 (by decide) ?_
        refine lv_icmp_le (tgt := 37) hx hb dX7_readVotes_31 (by decide) (fun c_8 => ?_) (fun c_8 => ?_)
        · have c_8 : v.toNatClampNeg + ((n + 1) / 3) ≤ 36 := (nI_leI (a := v.toNatClampNeg + ((n + 1) / 3)) (b := 36) (by omega) (by omega)).mp c_8
          refine lv_aload_n hx hb dX7_readVotes_37 rfl (lv_at hl 1 rfl) ?_
          refine zVV E hs lkX7_48 [] (c_X7_record l x arr_4 (zu fd 102 (zu (fd 102) 7 (nI n))) z (by rw [zu_s, zu_n _ _ (by decide)]; exact hz) hz4) (by decide) (sh6 rfl) rfl ⟨Nat.le_of_ble_eq_true rfl, Nat.le_of_ble_eq_true rfl⟩ rfl hl.1 (Nat.le_of_ble_eq_true rfl) rfl dX7_readVotes_38 (fun arr_9 fdr_9 H locs hp_10 hs => ?_)
          rw [hp_10.1, hp_10.2] at hs
          refine lv_iconst (v := nI 0) hx hb dX7_readVotes_41 (by decide) ?_
          refine lv_istore_n (lv' := [(3, .int (nI 0)), (2, .int (nI ((n + 1) / 3))), (0, .ref (xa x 102)), (1, .int (nI v.toNatClampNeg))]) hx hb dX7_readVotes_42 rfl hl (by decide) rfl (fun ls hl => ?_)
          have L_11 : ∀ (mm : Nat) (i : Nat), (2 * ((n + 1) / 3) - i) < mm → (i ≤ 2 * ((n + 1) / 3)) → ∀ (H : Heap) (locs : List Loc) (ls : Array Slot), ST x (AA x) s.heap (zu (rcA arr_4 z) 103 (bl (arr_4 103) (0 + 2 * v.toNatClampNeg) i (arr_4 107))) (rcF (zu fd 102 (zu (fd 102) 7 (nI n))) z) H locs → lv_has ls 4 [(0, .ref (xa x 102)), (1, .int (nI v.toNatClampNeg)), (2, .int (nI ((n + 1) / 3))), (3, .int (nI i))] → W p l e (rmZ 3 67) s m ([.ref (xa x 102), .int v] : List Value).toArray below meth c H locs 0 0 (QI below x [.ref (xa x 102), .int v] s (fun r ar' fd' => (¬ (¬ v < nI 0 ∧ ¬ nI 35 < v) ∧ r = -1 ∧ ar' = ar ∧ fd' = fd) ∨ ((¬ v < nI 0 ∧ ¬ nI 35 < v) ∧ ¬ flt (ar 106) n = -1 ∧ r = (-100) - flt (ar 106) n ∧ (∀ q, q ≠ 107 → ar' q = ar q) ∧ fd' = zu fd 102 (zu (fd 102) 7 (flt (ar 106) n))) ∨ ((¬ v < nI 0 ∧ ¬ nI 35 < v) ∧ flt (ar 106) n = -1 ∧ ¬ v.toNatClampNeg + ((n + 1) / 3) ≤ 36 ∧ r = -2 ∧ (∀ q, q ≠ 107 → ar' q = ar q) ∧ fd' = zu fd 102 (zu (fd 102) 7 (nI n))) ∨ ((¬ v < nI 0 ∧ ¬ nI 35 < v) ∧ flt (ar 106) n = -1 ∧ v.toNatClampNeg + ((n + 1) / 3) ≤ 36 ∧ r = nI ((n + 1) / 3) ∧ (∀ q, q ≠ 107 → ar' q = zu (rcA ar z) 103 (bl (ar 103) (2 * v.toNatClampNeg) (2 * ((n + 1) / 3)) (fun k => ar 106 (k / 2 * 3 + k % 2) - nI 48)) q) ∧ fd' = rcF (zu fd 102 (zu (fd 102) 7 (nI n))) z))) (F0 m 43 ls []) := by
            intro mm
            induction mm with
            | zero => intro i hmu; exact absurd hmu (Nat.not_lt_zero _)
            | succ mm ih_11 =>
              intro i hmu hi H locs ls hs hl
              refine lv_iload_n hx hb dX7_readVotes_43 rfl (lv_at hl 3 rfl) ?_
              refine lv_iconst (v := nI 2) hx hb dX7_readVotes_44 (by decide) ?_
              refine lv_iload_n hx hb dX7_readVotes_45 rfl (lv_at hl 2 rfl) ?_
              refine lv_imul hx hb dX7_readVotes_46 ?_
              refine tp (b := nI (2 * ((n + 1) / 3))) (nI_mul _ _) ?_
              refine lv_icmp_ge (tgt := 74) hx hb dX7_readVotes_47 (by decide) (fun c_12 => ?_) (fun c_12 => ?_)
              · have c_12 : 2 * ((n + 1) / 3) ≤ i := (nI_leI (a := 2 * ((n + 1) / 3)) (b := i) (by omega) (by omega)).mp c_12
                refine lv_iload_n hx hb dX7_readVotes_74 rfl (lv_at hl 2 rfl) ?_
                exact zeI E hs (Or.inr (Or.inr (Or.inr ⟨(Classical.not_not.mp c_3), t_61, c_8, rfl, by rw [show i = 2 * ((n + 1) / 3) by omega]; exact rvS t_64 t_63, rfl⟩))) dX7_readVotes_75
              · have c_12 : ¬ (2 * ((n + 1) / 3) ≤ i) := fun h => c_12 ((nI_leI (a := 2 * ((n + 1) / 3)) (b := i) (by omega) (by omega)).mpr h)
                refine lv_aload_n hx hb dX7_readVotes_50 rfl (lv_at hl 0 rfl) ?_
                refine zg6 E hs (k := 102) rfl 0 (by decide) rfl q_514 dX7_readVotes_51 ?_
                refine lv_iconst (v := nI 0) hx hb dX7_readVotes_54 (by decide) ?_
                refine lv_iconst (v := nI 2) hx hb dX7_readVotes_55 (by decide) ?_
                refine lv_iload_n hx hb dX7_readVotes_56 rfl (lv_at hl 1 rfl) ?_
                refine lv_imul hx hb dX7_readVotes_57 ?_
                refine tp (b := nI (2 * v.toNatClampNeg)) (nI_mul _ _) ?_
                refine lv_iadd hx hb dX7_readVotes_58 ?_
                refine tp (b := nI (0 + (2 * v.toNatClampNeg))) (nI_add _ _) ?_
                refine lv_iload_n hx hb dX7_readVotes_59 rfl (lv_at hl 3 rfl) ?_
                refine lv_iadd hx hb dX7_readVotes_60 ?_
                refine tp (b := nI ((0 + (2 * v.toNatClampNeg)) + i)) (nI_add _ _) ?_
                refine lv_aload_n hx hb dX7_readVotes_61 rfl (lv_at hl 0 rfl) ?_
                refine zg6 E hs (k := 102) rfl 8 (by decide) rfl q_522 dX7_readVotes_62 ?_
                refine lv_iload_n hx hb dX7_readVotes_65 rfl (lv_at hl 3 rfl) ?_
                refine zald E hs 107 (n := 40) (j := i) rfl rfl (by omega) (by decide) dX7_readVotes_66 ?_
                refine tp (b := arr_4 107 i) ((congrFun (zu_n _ _ (by decide)) _).trans (congrFun (rcA_n (by decide)) _)) ?_
                refine zast E hs 103 (n := 196) (j := ((0 + (2 * v.toNatClampNeg)) + i)) rfl rfl (by omega) (by decide) dX7_readVotes_67 (fun H locs hs => ?_)
                refine lv_iinc (v := nI (i + 1)) (lv' := [(3, .int (nI (i + 1))), (0, .ref (xa x 102)), (1, .int (nI v.toNatClampNeg)), (2, .int (nI ((n + 1) / 3)))]) hx hb dX7_readVotes_68 hl (k := 3) rfl (nI_inc _) (by decide) rfl (fun ls hl => ?_)
                refine lv_goto (tgt := 43) hx hb dX7_readVotes_71 (by decide) ?_
                exact ih_11 (i + 1) (by omega) (by omega) _ _ _ (by rw [zb (h := arr_4 107) rfl] at hs; exact hs) (lvr (lv_at hl 1 rfl) (lvr (lv_at hl 2 rfl) (lvr (lv_at hl 3 rfl) (lvr (lv_at hl 0 rfl) (lvn hl)))))
          exact L_11 (_ + 1) 0 (Nat.lt_succ_self _) (by omega) _ _ _ (by rw [bl_0, show arr_4 103 = rcA arr_4 z 103 from (rcA_n (by decide)).symm, zu_id]; exact hs) (lvr (lv_at hl 2 rfl) (lvr (lv_at hl 3 rfl) (lvr (lv_at hl 1 rfl) (lvr (lv_at hl 0 rfl) (lvn hl)))))
        · have c_8 : ¬ (v.toNatClampNeg + ((n + 1) / 3) ≤ 36) := fun h => c_8 ((nI_leI (a := v.toNatClampNeg + ((n + 1) / 3)) (b := 36) (by omega) (by omega)).mpr h)
          refine lv_bipush (v := (-2)) hx hb dX7_readVotes_34 (by decide) ?_
          exact zeI E hs (Or.inr (Or.inr (Or.inl ⟨(Classical.not_not.mp c_3), t_61, c_8, rfl, t_64, rfl⟩))) dX7_readVotes_36
      · have c_7 : ¬ (0 ≤ (n + 1) / 3) := fun h => c_7 ((nI_leI (a := 0) (b := (n + 1) / 3) (by omega) (by omega)).mpr h)
        exact absurd (Nat.zero_le _) c_7
    · rw [t_64] at hs
      refine tp (b := (-5)) t_62 ?_
      refine lv_istore_n (lv' := [(2, .int (-5)), (0, .ref (xa x 102)), (1, .int (nI v.toNatClampNeg))]) hx hb dX7_readVotes_13 rfl hl (by decide) rfl (fun ls hl => ?_)
      refine lv_iload_n hx hb dX7_readVotes_14 rfl (lv_at hl 0 rfl) ?_
      refine lv_if_ge (tgt := 26) hx hb dX7_readVotes_15 (by decide) (fun c_13 => ?_) (fun c_13 => ?_)
      · exact absurd c_13 (by decide)
      · refine lv_bipush (v := (-100)) hx hb dX7_readVotes_18 (by decide) ?_
        refine lv_aload_n hx hb dX7_readVotes_20 rfl (lv_at hl 1 rfl) ?_
        refine zg6 E hs (k := 102) rfl 7 (by decide) rfl q_521 dX7_readVotes_21 ?_
        refine tp (b := flt (ar 106) n) (by rw [zu_s, zu_s]) ?_
        refine lv_isub hx hb dX7_readVotes_24 ?_
        exact zeI E hs (Or.inr (Or.inl ⟨(Classical.not_not.mp c_3), t_61, rfl, t_63, rfl⟩)) dX7_readVotes_25
  · have c_3 : ¬ (¬ v < nI 0 ∧ ¬ nI 35 < v) := bz_1 c_3
    refine lv_iconst (v := (-1)) hx hb dX7_readVotes_7 (by decide) ?_
    exact zeI E hs (Or.inl ⟨c_3, rfl, rfl, rfl⟩) dX7_readVotes_8
