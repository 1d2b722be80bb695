
/-! for the law's loop: what a call of the class leaves to the model; the start -/
def HI (ar fd : AR) (c : Int32 × AR × AR) : Prop := ∀ k, 101 < k → c.2.1 k = ar k ∧ c.2.2 k = fd k
theorem iz_i {α : Type} {M : α → Prop} {P : Prop} {a b : α} (h1 : P → M a) (h2 : ¬ P → M b) : M (iz P a b) := by
  by_cases h : P
  · rw [iz_t h]; exact h1 h
  · rw [iz_f h]; exact h2 h
theorem HI_0 (ar fd : AR) (r : Int32) : HI ar fd (r, ar, fd) := fun _ _ => ⟨rfl, rfl⟩
theorem HI_m {ar fd A F : AR} {r : Int32} (hA : ∀ k, 101 < k → A k = ar k) (hF : ∀ k, 101 < k → F k = fd k) : HI ar fd (r, A, F) := fun k hk => ⟨hA k hk, hF k hk⟩
theorem hi_setVotes (ar fd : AR) (w f o z n : Nat) (a u v : Int32) : HI ar fd (sp_setVotes ar fd w f o z n a u v) := by
  unfold sp_setVotes
  repeat' (first | exact HI_0 _ _ _ | refine iz_i (M := HI ar fd) (fun _ => ?_) (fun _ => ?_))
  all_goals exact HI_m (fun k hk => by rw [zu_n _ _ (by omega), zu_n _ _ (by omega), rec_ar (by omega)]) (fun k hk => rec_fd (by omega))
theorem hi_begin (ar fd : AR) (w f o z n : Nat) (v : Int32) : HI ar fd (sp_begin ar fd w f o z n v) := by
  unfold sp_begin sp_startAnew
  repeat' (first | exact HI_0 _ _ _ | refine iz_i (M := HI ar fd) (fun _ => ?_) (fun _ => ?_))
  exact HI_m (fun k hk => by dsimp only; rw [zu_n _ _ (by omega), zu_n _ _ (by omega), zu_n _ _ (by omega), zu_n _ _ (by omega), rec_ar (by omega)]) (fun k hk => by dsimp only; rw [zu_n _ _ (by omega), zu_n _ _ (by omega), zu_n _ _ (by omega), zu_n _ _ (by omega), rec_fd (by omega)])
theorem hi_setTarget (ar fd : AR) (w f o z n : Nat) (a v : Int32) : HI ar fd (sp_setTarget ar fd w f o z n a v) := by
  unfold sp_setTarget
  repeat' (first | exact HI_0 _ _ _ | refine iz_i (M := HI ar fd) (fun _ => ?_) (fun _ => ?_))
  exact HI_m (fun k hk => by rw [zu_n _ _ (by omega), rec_ar (by omega)]) (fun k hk => rec_fd (by omega))
theorem hi_draft (ar fd : AR) (w f o z n : Nat) (a v : Int32) : HI ar fd (sp_draft ar fd w f o z n a v) := by
  unfold sp_draft
  repeat' (first | exact HI_0 _ _ _ | refine iz_i (M := HI ar fd) (fun _ => ?_) (fun _ => ?_))
  all_goals exact HI_m (fun k hk => by rw [zu_n _ _ (by omega), rec_ar (by omega)]) (fun k hk => rec_fd (by omega))
theorem hi_trade (ar fd : AR) (w f o z n : Nat) (a v : Int32) : HI ar fd (sp_trade ar fd w f o z n a v) := by
  unfold sp_trade
  repeat' (first | exact HI_0 _ _ _ | refine iz_i (M := HI ar fd) (fun _ => ?_) (fun _ => ?_))
  all_goals exact HI_m (fun k hk => by rw [zu_n _ _ (by omega), zu_n _ _ (by omega), rec_ar (by omega)]) (fun k hk => rec_fd (by omega))
theorem hi_snake (ar fd : AR) (w f o z n : Nat) (b : Int32) : HI ar fd (sp_snake ar fd w f o z n b) := by
  unfold sp_snake
  repeat' (first | exact HI_0 _ _ _ | refine iz_i (M := HI ar fd) (fun _ => ?_) (fun _ => ?_))
  · exact HI_m (fun k hk => zu_n _ _ (by omega)) (fun _ _ => rfl)
  · exact HI_m (fun k hk => by rw [zu_n _ _ (by omega), rec_ar (by omega), zu_n _ _ (by omega)]) (fun k hk => rec_fd (by omega))
theorem hi_adopt (ar fd : AR) (w f o z n : Nat) : HI ar fd (sp_adopt ar fd w f o z n) := by
  unfold sp_adopt
  repeat' (first | exact HI_0 _ _ _ | refine iz_i (M := HI ar fd) (fun _ => ?_) (fun _ => ?_))
  exact HI_m (fun k hk => by rw [zu_n _ _ (by omega), rec_ar (by omega)]) (fun k hk => rec_fd (by omega))
theorem hi_propose (ar fd : AR) (w f o z n : Nat) : HI ar fd (sp_propose ar fd w f o z n) := by
  unfold sp_propose
  repeat' (first | exact HI_0 _ _ _ | refine iz_i (M := HI ar fd) (fun _ => ?_) (fun _ => ?_))
  exact HI_m (fun k hk => rec_ar (by omega)) (fun k hk => by rw [zu_n _ _ (by omega), rec_fd (by omega)])
theorem hi_freeze (ar fd : AR) (w f o z n : Nat) (v : Int32) : HI ar fd (sp_freeze ar fd w f o z n v) := by
  have q : ∀ k, 101 < k → (sp_takePart (sp_record ar fd o z).1 (sp_record ar fd o z).2 w f v).1 k = ar k ∧ (sp_takePart (sp_record ar fd o z).1 (sp_record ar fd o z).2 w f v).2 k = fd k := by
    intro k hk
    unfold sp_takePart
    by_cases e : w - (f + 1) = 1
    · rw [iz_t e]
      dsimp only
      unfold mdA
      rw [zu_n _ _ (by omega), zu_n _ _ (by omega), zu_n _ _ (by omega), zu_n _ _ (by omega), zu_n _ _ (by omega), zu_n _ _ (by omega), zu_n _ _ (show k ≠ 1 by omega), zu_n _ _ (show k ≠ 1 by omega), zu_n _ _ (show k ≠ 1 by omega)]
      exact ⟨rec_ar (by omega), rec_fd (by omega)⟩
    · rw [iz_f e]
      dsimp only
      unfold mdA
      rw [zu_n _ _ (by omega), zu_n _ _ (by omega), zu_n _ _ (by omega), zu_n _ _ (by omega), zu_n _ _ (show k ≠ 1 by omega), zu_n _ _ (show k ≠ 1 by omega), zu_n _ _ (show k ≠ 1 by omega)]
      exact ⟨rec_ar (by omega), rec_fd (by omega)⟩
  unfold sp_freeze
  repeat' (first | exact HI_0 _ _ _ | refine iz_i (M := HI ar fd) (fun _ => ?_) (fun _ => ?_))
  exact HI_m (fun k hk => (q k hk).1) (fun k hk => (q k hk).2)
theorem hi_type (ar fd : AR) (w f o z n : Nat) (v : Int32) : HI ar fd (sp_type ar fd w f o z n v) := by
  unfold sp_type
  repeat' (first | exact HI_0 _ _ _ | refine iz_i (M := HI ar fd) (fun _ => ?_) (fun _ => ?_))
  exact HI_m (fun k hk => zu_n _ _ (by omega)) (fun k hk => zu_n _ _ (by omega))
theorem hi_clearText (ar fd : AR) (w f o z n : Nat) : HI ar fd (sp_clearText ar fd w f o z n) := by
  unfold sp_clearText sp_empty
  exact HI_m (fun _ _ => rfl) (fun k hk => zu_n _ _ (by omega))
theorem hi_readVotes (ar fd : AR) (w f o z n : Nat) (v : Int32) : HI ar fd (sp_readVotes ar fd w f o z n v) := by
  unfold sp_readVotes
  repeat' (first | exact HI_0 _ _ _ | refine iz_i (M := HI ar fd) (fun _ => ?_) (fun _ => ?_))
  exact HI_m (fun k hk => (rv_n (by omega)).trans (rec_ar (by omega))) (fun k hk => rec_fd (by omega))
theorem hi_undo (ar fd : AR) (w f o z n : Nat) : HI ar fd (sp_undo ar fd w f o z n) := by
  unfold sp_undo sp_takeLatest
  repeat' (first | exact HI_0 _ _ _ | refine iz_i (M := HI ar fd) (fun _ => ?_) (fun _ => ?_))
  exact HI_m (fun k hk => cpA_n (by omega)) (fun k hk => by dsimp only; rw [zu_n _ _ (by omega), zu_n _ _ (by omega)])
theorem hi_keep (ar fd : AR) (w f o z n : Nat) : HI ar fd (sp_keep ar fd w f o z n) := by
  unfold sp_keep
  exact HI_m (fun k hk => cpA_n (by omega)) (fun k hk => by rw [zu_n _ _ (by omega), zu_n _ _ (by omega)])
theorem hi_restore (ar fd : AR) (w f o z n : Nat) : HI ar fd (sp_restore ar fd w f o z n) := by
  unfold sp_restore
  repeat' (first | exact HI_0 _ _ _ | refine iz_i (M := HI ar fd) (fun _ => ?_) (fun _ => ?_))
  exact HI_m (fun k hk => (cpA_n (by omega)).trans (rec_ar (by omega))) (fun k hk => by rw [zu_n _ _ (by omega), rec_fd (by omega)])
theorem hi_part (ar fd : AR) (w f o z n : Nat) (v q : Int32) : HI ar fd (sp_part ar fd w f o z n v q) := by
  intro k _
  rw [part_2]
  exact ⟨rfl, rfl⟩
theorem hi_why (ar fd : AR) (w f o z n : Nat) (q : Int32) : HI ar fd (sp_why ar fd w f o z n q) := by
  intro k _
  rw [why_2]
  exact ⟨rfl, rfl⟩
theorem HI_J {ar fd ar1 : AR} {c : Int32 × AR × AR} (h : HI ar fd c) (hJ : JQ c.2.1 ar1) : ∀ k, 101 < k → ar1 k = ar k ∧ c.2.2 k = fd k := fun k hk => ⟨(hJ k (by omega) (by omega)).trans (h k hk).1, (h k hk).2⟩
theorem RR_all {ar fd : AR} {w f o z n : Nat} (h : RR ar fd w f o z n) : (CInv ar fd w f o z n ∧ ME (ar 103) ar (fd 1) w f ∧ STG (fd 1) ∧ (fd 1 10 = nI 1 → f < w)) ∧ (fd 1 10 = 0 → (∀ c, c < 36 → ar 103 (151 + c) = ar 11 c) ∧ (ar 103 78 = 0 ↔ f = 0)) ∧ (fd 102 3 = nI z ∧ fd 102 6 = nI n ∧ z ≤ 4 ∧ n ≤ 60) ∧ fd 1 7 = nI w ∧ fd 1 8 = nI f := by
  obtain ⟨hci, hr, hh, -, ⟨t1, t2, -⟩⟩ := h
  obtain ⟨c1, c2, c3, c4, c5, c6, c7, c8, c9, c10, c11, c12⟩ := id hci
  obtain ⟨⟨a1, a2, a3, a4, a5⟩, ⟨b1, b2⟩, -⟩ := hr
  refine ⟨⟨hci, a3, a5, fun e => ?_⟩, fun e => b2 (by rw [e]; decide), ⟨t1, t2, c9, c11⟩, a1, a2⟩
  have : ¬ f = w := fun q => by have z := b1.mpr q; rw [e] at z; exact absurd z (by decide)
  omega
/-- class and model stand alike -/
def RRE (ar fd : AR) : Prop := ∃ w f o z n, RR ar fd w f o z n
theorem arS_103 : arS 103 = clrF (zu (fun _ => nI 0) 72 (nI 4)) := by
  unfold arS
  rw [zu_s, zu_s]
  rfl
theorem arS_o {k : Nat} (h : k ≠ 103) : arS k = ar0 k := by
  unfold arS
  rw [zu_n _ _ h, zu_n _ _ h]
theorem dig_0 : dig (nI 0) := by unfold dig; decide
theorem RR_0 : RRE arS fd0 := by
  obtain ⟨s1, s2, s3, s4⟩ := clrF_s (zu (fun _ => nI 0) 72 (nI 4))
  have lo : ∀ k, k < 75 → k ≠ 72 → clrF (zu (fun _ => nI 0) 72 (nI 4)) k = nI 0 := fun k h1 h2 => by rw [clrF_lo h1, zu_n _ _ h2]
  have e3 : arS 3 = fun _ => nI 0 := arS_o (by decide)
  have e5 : arS 5 = fun _ => nI 0 := arS_o (by decide)
  have e7 : arS 7 = fun _ => -1 := arS_o (by decide)
  have e9 : arS 9 = fun _ => -1 := arS_o (by decide)
  have e11 : arS 11 = fun _ => -1 := arS_o (by decide)
  have e15 : arS 15 = fun _ => nI 0 := arS_o (by decide)
  have e94 : arS 94 = fun _ => nI 0 := arS_o (by decide)
  have e106 : arS 106 = fun _ => nI 0 := arS_o (by decide)
  refine ⟨4, 0, 0, 0, 0, ⟨rfl, rfl, by decide, by decide, by decide, rfl, rfl, by decide, by decide, rfl, by decide, ?_⟩, ?_, fun i hi => absurd hi (Nat.not_lt_zero _), ⟨rfl, fun e => absurd rfl e⟩, ⟨rfl, rfl, fun i _ => by rw [e94, e106]⟩⟩
  · rw [e94]; intro i _; rfl
  · rw [arS_103]
    unfold RB STG
    rw [e3, e5, e7, e9, e11]
    refine ⟨⟨rfl, rfl, ?_, ⟨by decide, by decide⟩, Or.inl rfl, Or.inl rfl⟩, ⟨⟨fun e => absurd e (by decide), fun e => absurd e (by decide)⟩, fun _ => ⟨fun d hd => (clrF_m _ hd).2.2, ⟨fun _ => rfl, fun _ => s4⟩⟩⟩, ⟨fun _ _ => dig_0, fun _ _ => dig_0⟩, ⟨fun _ _ => Or.inl rfl, fun _ _ => Or.inl rfl, fun _ _ _ => rfl⟩, fun _ => ⟨fun _ _ => Or.inl rfl, fun _ _ _ => rfl⟩, ⟨?_, fun e => absurd e (by decide)⟩⟩
    · refine ⟨fun d hd => ?_, fun d hd => ?_, fun d hd => ?_, fun d hd => ?_, fun d hd => absurd hd (Nat.not_lt_zero _), ?_, ?_, ?_, s3, s2, s1, by decide, by decide, by decide, fun d hd => ?_, fun d hd => ?_⟩
      · rw [e3]; show _ = nI 0
        by_cases e : 2 * d = 72
        · omega
        · rw [clrF_lo (by omega), zu_n _ _ e]
      · rw [e5]; exact lo _ (by omega) (by omega)
      · rw [e7]; exact (clrF_m _ hd).1
      · rw [e9]; exact (clrF_m _ hd).2.1
      · rw [e15]; exact lo _ (by decide) (by decide)
      · rw [e15]; exact lo _ (by decide) (by decide)
      · rw [clrF_lo (by decide), zu_s]
      · rw [e7]; show ¬ (-1 : Int32) < -1; decide
      · rw [e9]; show ¬ (-1 : Int32) < -1; decide
    · rw [ct_all (fun _ _ => rfl)]
