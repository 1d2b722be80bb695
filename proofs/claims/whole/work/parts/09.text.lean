
/-! the text, and the history -/
def alw (f : Nat → Int32) (i : Nat) : Prop := (i % 3 = 2 ∧ f i = nI 44) ∨ (¬ i % 3 = 2 ∧ ¬ f i < nI 48 ∧ ¬ nI 57 < f i)
noncomputable def flt (f : Nat → Int32) (n : Nat) : Int32 := iz (ffst (fun i => ¬ alw f i) n 0 = -1) (iz (n % 3 = 2) (-1) (nI n)) (ffst (fun i => ¬ alw f i) n 0)
/-- what a char array holds are chars -/
def CHS (f : Nat → Int32) : Prop := ∀ i, i < 60 → narrow .char (.int (f i)) = .int (f i)
theorem xor4 : ∀ n, n < 8 → (0 : Int32) ≤ nI n ^^^ nI 4 := by decide +kernel
theorem sh10 {x : CT} {k : Nat} {a f : Nat → Int32} (h : kd k = 10) : sh x k a f = .inl (xS x, 4, .inr (.inr (.inr (.inr (fun i => some (xa x (18 + 15 * i))))))) := by simp only [sh, h]
theorem sb_sl {j : Nat} (h : j < 4) : SB (18 + 15 * j) := by
  rcases (show j = 0 ∨ j = 1 ∨ j = 2 ∨ j = 3 by omega) with rfl | rfl | rfl | rfl
  · exact sb_18
  · exact sb_33
  · exact sb_48
  · exact sb_63
section RW10
variable {p : Program} {l : Launch} {e : Env} {R : Room} {s : State} {m : MethodId} {args : Array Value} {below : List Frame} {meth : Method} {c : Code} {H : Heap} {locs : List Loc} {cells slots : Nat} {Q : State → Prop}
variable {cc : ByteArray} {nL : Nat} {own : String} {rt : Option FieldType} {A0 : Nat → Prop} {x : CT} {H0 : Heap} {ar fd : AR} {pc : Nat} {ls : Array Slot} {rest : List Value}
theorem zalen10 (E : EV p R s m args meth c cc nL own rt cells slots A0 x) (hs : ST x A0 H0 ar fd H locs) (hdg : decode cc pc = .ok (.arraylength, 1))
    (kk : W p l e R s m args below meth c H locs cells slots Q (F0 m (pc + 1) ls (.int (nI 4) :: rest))) : W p l e R s m args below meth c H locs cells slots Q (F0 m pc ls (.ref (xa x 17) :: rest)) :=
  va_alen (v := nI 4) E.1 E.2.1 E.K hs.1 17 3 ((wl_get (by decide)).trans (by rw [sh10 rfl])) rfl rfl hdg kk
theorem zald10 (E : EV p R s m args meth c cc nL own rt cells slots A0 x) (hs : ST x A0 H0 ar fd H locs) {j : Nat} (hj : j < 4) (hdg : decode cc pc = .ok (.aaload, 1))
    (kk : W p l e R s m args below meth c H locs cells slots Q (F0 m (pc + 1) ls (.ref (xa x (18 + 15 * j)) :: rest))) : W p l e R s m args below meth c H locs cells slots Q (F0 m pc ls (.int (nI j) :: .ref (xa x 17) :: rest)) := by
  refine va_aldq (C := RX4) E.1 E.2.1 E.K hs.1 17 3 ((wl_get (by decide)).trans (by rw [sh10 rfl])) rfl (vp_in_nI hj (by decide)) hdg ?_
  rw [nI_clamp (by omega)]
  exact kk
end RW10

set_option maxHeartbeats 4000000 in
set_option maxRecDepth 100000 in
/-- VoteText.length -/
theorem c_X5_length (l : Launch) (x : CT) (ar fd : AR) (n : Nat) (hn : fd 93 1 = nI n) (hn60 : n ≤ 60) : CP l yX5_length cX5_length 1 (some .int) 0 0 x [.ref (xa x 93)] ar fd (fun r => r = nI n) := by
  refine zsP (own := RX5) rfl (by decide +kernel) (Nat.le_of_ble_eq_true rfl) ?_
  intro p e s m below meth c ls E hs hl
  have hx := E.1
  have hb := E.2.1
  have hl : lv_has ls 1 [(0, .ref (xa x 93))] := hl
  refine lv_aload_n hx hb dX5_length_0 rfl (lv_at hl 0 rfl) ?_
  refine zg4 E hs (k := 93) rfl 1 (by decide) rfl q_106 dX5_length_1 ?_
  refine tp (b := nI n) hn ?_
  exact zeP E hs rfl dX5_length_4

noncomputable def sp_append (ar fd : AR) (n : Nat) (ch : Int32) : Int32 × AR × AR := iz (n < 60) ((nI 1, zu ar 94 (zu (ar 94) n (vp_nar .char ch)), zu fd 93 (zu (fd 93) 1 (nI (n + 1))))) ((nI 0, ar, fd))
set_option maxHeartbeats 4000000 in
set_option maxRecDepth 100000 in
/-- VoteText.append -/
theorem c_X5_append (l : Launch) (x : CT) (ar fd : AR) (n : Nat) (hn : fd 93 1 = nI n) (hn60 : n ≤ 60) (ch : Int32) : CI l yX5_append cX5_append 2 (some .boolean) 0 0 x [.ref (xa x 93), .int ch] ar fd (fun r ar' fd' => (r, ar', fd') = sp_append ar fd n ch) := by
  refine zsI (own := RX5) rfl (by decide +kernel) (Nat.le_of_ble_eq_true rfl) ?_
  intro p e s m below meth c ls E hs hl
  have hx := E.1
  have hb := E.2.1
  have hl : lv_has ls 2 [(0, .ref (xa x 93)), (1, .int ch)] := hl
  refine lv_aload_n hx hb dX5_append_0 rfl (lv_at hl 0 rfl) ?_
  refine zg4 E hs (k := 93) rfl 1 (by decide) rfl q_106 dX5_append_1 ?_
  refine tp (b := nI n) hn ?_
  refine lv_if_lt (tgt := 19) hx hb dX5_append_4 (by decide) (fun c_1 => ?_) (fun c_1 => ?_)
  · have c_1 : n < 0 := (nI_ltI (a := n) (b := 0) (by omega) (by omega)).mp c_1
    exfalso; omega
  · have c_1 : ¬ (n < 0) := fun h => c_1 ((nI_ltI (a := n) (b := 0) (by omega) (by omega)).mpr h)
    refine lv_aload_n hx hb dX5_append_7 rfl (lv_at hl 0 rfl) ?_
    refine zg4 E hs (k := 93) rfl 1 (by decide) rfl q_106 dX5_append_8 ?_
    refine tp (b := nI n) hn ?_
    refine lv_aload_n hx hb dX5_append_11 rfl (lv_at hl 0 rfl) ?_
    refine zg4 E hs (k := 93) rfl 0 (by decide) rfl q_105 dX5_append_12 ?_
    refine zalen8 E hs 94 (n := 60) rfl rfl dX5_append_15 ?_
    refine lv_icmp_lt (tgt := 21) hx hb dX5_append_16 (by decide) (fun c_2 => ?_) (fun c_2 => ?_)
    · have c_2 : n < 60 := (nI_ltI (a := n) (b := 60) (by omega) (by omega)).mp c_2
      refine lv_aload_n hx hb dX5_append_21 rfl (lv_at hl 0 rfl) ?_
      refine zg4 E hs (k := 93) rfl 0 (by decide) rfl q_105 dX5_append_22 ?_
      refine lv_aload_n hx hb dX5_append_25 rfl (lv_at hl 0 rfl) ?_
      refine zg4 E hs (k := 93) rfl 1 (by decide) rfl q_106 dX5_append_26 ?_
      refine tp (b := nI n) hn ?_
      refine lv_iload_n hx hb dX5_append_29 rfl (lv_at hl 1 rfl) ?_
      refine zast8 E hs 94 (n := 60) (j := n) rfl rfl (by omega) (by decide) dX5_append_30 (fun H locs hs => ?_)
      refine lv_aload_n hx hb dX5_append_31 rfl (lv_at hl 0 rfl) ?_
      refine lv_dup hx hb dX5_append_32 rfl ?_
      refine zg4 E hs (k := 93) rfl 1 (by decide) rfl q_106 dX5_append_33 ?_
      refine tp (b := nI n) hn ?_
      refine lv_iconst (v := nI 1) hx hb dX5_append_36 (by decide) ?_
      refine lv_iadd hx hb dX5_append_37 ?_
      refine tp (b := nI (n + 1)) (nI_add _ _) ?_
      refine zp4_1 E hs (k := 93) (hk := rfl)  q_106 dX5_append_38 (fun H locs hs => ?_)
      refine lv_iconst (v := nI 1) hx hb dX5_append_41 (by decide) ?_
      exact zeIn E hs rfl (by show (_, _, _) = sp_append ar fd n ch; unfold sp_append; rw [iz_t c_2]) dX5_append_42
    · have c_2 : ¬ (n < 60) := fun h => c_2 ((nI_ltI (a := n) (b := 60) (by omega) (by omega)).mpr h)
      refine lv_iconst (v := nI 0) hx hb dX5_append_19 (by decide) ?_
      exact zeIn E hs rfl (by show (_, _, _) = sp_append ar fd n ch; unfold sp_append; rw [iz_f c_2]) dX5_append_20

noncomputable def sp_empty (ar fd : AR) : AR × AR := (ar, zu fd 93 (zu (fd 93) 1 (nI 0)))
set_option maxHeartbeats 4000000 in
set_option maxRecDepth 100000 in
/-- VoteText.empty -/
theorem c_X5_empty (l : Launch) (x : CT) (ar fd : AR)  : CV l yX5_empty cX5_empty 1 0 0 x [.ref (xa x 93)] ar fd (fun ar' fd' => (ar', fd') = sp_empty ar fd) := by
  refine zsV (own := RX5) rfl (by decide +kernel) (Nat.le_of_ble_eq_true rfl) ?_
  intro p e s m below meth c ls E hs hl
  have hx := E.1
  have hb := E.2.1
  have hl : lv_has ls 1 [(0, .ref (xa x 93))] := hl
  refine lv_aload_n hx hb dX5_empty_0 rfl (lv_at hl 0 rfl) ?_
  refine lv_iconst (v := nI 0) hx hb dX5_empty_1 (by decide) ?_
  refine zp4_1 E hs (k := 93) (hk := rfl)  q_106 dX5_empty_2 (fun H locs hs => ?_)
  exact zeV E hs (by show (_, _) = sp_empty ar fd; unfold sp_empty; rfl) dX5_empty_5

set_option maxHeartbeats 4000000 in
set_option maxRecDepth 100000 in
/-- VoteText.at -/
theorem c_X5_at (l : Launch) (x : CT) (ar fd : AR) (i : Nat) (hi : i < 60) (hC : CHS (ar 94)) : CP l yX5_at cX5_at 2 (some .char) 0 0 x [.ref (xa x 93), .int (nI i)] ar fd (fun r => r = ar 94 i) := by
  refine zsP (own := RX5) rfl (by decide +kernel) (Nat.le_of_ble_eq_true rfl) ?_
  intro p e s m below meth c ls E hs hl
  have hx := E.1
  have hb := E.2.1
  have hl : lv_has ls 2 [(0, .ref (xa x 93)), (1, .int (nI i))] := hl
  refine lv_iload_n hx hb dX5_at_0 rfl (lv_at hl 1 rfl) ?_
  refine lv_if_lt (tgt := 22) hx hb dX5_at_1 (by decide) (fun c_1 => ?_) (fun c_1 => ?_)
  · have c_1 : i < 0 := (nI_ltI (a := i) (b := 0) (by omega) (by omega)).mp c_1
    exfalso; omega
  · have c_1 : ¬ (i < 0) := fun h => c_1 ((nI_ltI (a := i) (b := 0) (by omega) (by omega)).mpr h)
    refine lv_iload_n hx hb dX5_at_4 rfl (lv_at hl 1 rfl) ?_
    refine lv_aload_n hx hb dX5_at_5 rfl (lv_at hl 0 rfl) ?_
    refine zg4 E hs (k := 93) rfl 0 (by decide) rfl q_105 dX5_at_6 ?_
    refine zalen8 E hs 94 (n := 60) rfl rfl dX5_at_9 ?_
    refine lv_icmp_ge (tgt := 22) hx hb dX5_at_10 (by decide) (fun c_2 => ?_) (fun c_2 => ?_)
    · have c_2 : 60 ≤ i := (nI_leI (a := 60) (b := i) (by omega) (by omega)).mp c_2
      exfalso; omega
    · have c_2 : ¬ (60 ≤ i) := fun h => c_2 ((nI_leI (a := 60) (b := i) (by omega) (by omega)).mpr h)
      refine lv_aload_n hx hb dX5_at_13 rfl (lv_at hl 0 rfl) ?_
      refine zg4 E hs (k := 93) rfl 0 (by decide) rfl q_105 dX5_at_14 ?_
      refine lv_iload_n hx hb dX5_at_17 rfl (lv_at hl 1 rfl) ?_
      refine zald8 E hs 94 (n := 60) (j := i) rfl rfl (by omega) (by decide) dX5_at_18 ?_
      refine lv_goto (tgt := 24) hx hb dX5_at_19 (by decide) ?_
      exact zePn E hs (hC i hi) rfl dX5_at_24

set_option maxHeartbeats 4000000 in
set_option maxRecDepth 100000 in
/-- VoteText.isAllowed -/
theorem c_X5_isAllowed (l : Launch) (x : CT) (ar fd : AR) (i : Nat) (hi : i < 60) (hC : CHS (ar 94)) : CP l yX5_isAllowed cX5_isAllowed 3 (some .boolean) 1 21 x [.ref (xa x 93), .int (nI i)] ar fd (fun r => r = bz (alw (ar 94) i)) := by
  refine zsP (own := RX5) rfl (by decide +kernel) (Nat.le_of_ble_eq_true rfl) ?_
  intro p e s m below meth c ls E hs hl
  have hx := E.1
  have hb := E.2.1
  have hl : lv_has ls 3 [(0, .ref (xa x 93)), (1, .int (nI i))] := hl
  refine lv_aload_n hx hb dX5_isAllowed_0 rfl (lv_at hl 0 rfl) ?_
  refine lv_iload_n hx hb dX5_isAllowed_1 rfl (lv_at hl 1 rfl) ?_
  refine zVP E hs lkX5_23 [] (c_X5_at l x ar fd i (by omega) hC) (by decide) (sh4 rfl) rfl ⟨Nat.le_of_ble_eq_true rfl, Nat.le_of_ble_eq_true rfl⟩ rfl hl.1 (Nat.le_of_ble_eq_true rfl) rfl dX5_isAllowed_2 (fun r_1 H locs hp_2 hs => ?_)
  subst hp_2
  refine lv_istore_n (lv' := [(2, .int (ar 94 i)), (0, .ref (xa x 93)), (1, .int (nI i))]) hx hb dX5_isAllowed_5 rfl hl (by decide) rfl (fun ls hl => ?_)
  refine lv_iload_n hx hb dX5_isAllowed_6 rfl (lv_at hl 2 rfl) ?_
  refine lv_iconst (v := nI 3) hx hb dX5_isAllowed_7 (by decide) ?_
  refine lv_irem hx hb dX5_isAllowed_8 (by decide) ?_
  refine tp (b := nI (i % 3)) (nI_rem (by omega) (by omega)) ?_
  refine lv_iconst (v := nI 2) hx hb dX5_isAllowed_9 (by decide) ?_
  refine lv_icmp_ne (tgt := 25) hx hb dX5_isAllowed_10 (by decide) (fun c_3 => ?_) (fun c_3 => ?_)
  · have c_3 : ¬ (i % 3 = 2) := fun h => c_3 ((nI_eq (a := i % 3) (b := 2) (by omega) (by omega)).mpr h)
    refine lv_iload_n hx hb dX5_isAllowed_25 rfl (lv_at hl 0 rfl) ?_
    refine lv_bipush (v := nI 48) hx hb dX5_isAllowed_26 (by decide) ?_
    refine lv_icmp_lt (tgt := 41) hx hb dX5_isAllowed_28 (by decide) (fun c_4 => ?_) (fun c_4 => ?_)
    · refine lv_iconst (v := nI 0) hx hb dX5_isAllowed_41 (by decide) ?_
      exact zePn E hs rfl (bz_f (fun h => by rcases h with ⟨h1, h2⟩ | ⟨h1, h2, h3⟩ <;> contradiction)).symm dX5_isAllowed_42
    · refine lv_iload_n hx hb dX5_isAllowed_31 rfl (lv_at hl 0 rfl) ?_
      refine lv_bipush (v := nI 57) hx hb dX5_isAllowed_32 (by decide) ?_
      refine lv_icmp_gt (tgt := 41) hx hb dX5_isAllowed_34 (by decide) (fun c_5 => ?_) (fun c_5 => ?_)
      · refine lv_iconst (v := nI 0) hx hb dX5_isAllowed_41 (by decide) ?_
        exact zePn E hs rfl (bz_f (fun h => by rcases h with ⟨h1, h2⟩ | ⟨h1, h2, h3⟩ <;> contradiction)).symm dX5_isAllowed_42
      · refine lv_iconst (v := nI 1) hx hb dX5_isAllowed_37 (by decide) ?_
        refine lv_goto (tgt := 42) hx hb dX5_isAllowed_38 (by decide) ?_
        exact zePn E hs rfl (bz_t (Or.inr ⟨c_3, c_4, c_5⟩)).symm dX5_isAllowed_42
  · have c_3 : i % 3 = 2 := (nI_eq (a := i % 3) (b := 2) (by omega) (by omega)).mp c_3
    refine lv_iload_n hx hb dX5_isAllowed_13 rfl (lv_at hl 0 rfl) ?_
    refine lv_bipush (v := nI 44) hx hb dX5_isAllowed_14 (by decide) ?_
    refine lv_icmp_ne (tgt := 23) hx hb dX5_isAllowed_16 (by decide) (fun c_6 => ?_) (fun c_6 => ?_)
    · refine lv_iconst (v := nI 0) hx hb dX5_isAllowed_23 (by decide) ?_
      exact zePn E hs rfl (bz_f (fun h => by rcases h with ⟨h1, h2⟩ | ⟨h1, h2, h3⟩ <;> contradiction)).symm dX5_isAllowed_24
    · refine lv_iconst (v := nI 1) hx hb dX5_isAllowed_19 (by decide) ?_
      refine lv_goto (tgt := 24) hx hb dX5_isAllowed_20 (by decide) ?_
      exact zePn E hs rfl (bz_t (Or.inl ⟨c_3, c_6⟩)).symm dX5_isAllowed_24

set_option maxHeartbeats 4000000 in
set_option maxRecDepth 100000 in
/-- VoteText.fault -/
theorem c_X5_fault (l : Launch) (x : CT) (ar fd : AR) (n : Nat) (hn : fd 93 1 = nI n) (hn60 : n ≤ 60) (hC : CHS (ar 94)) : CP l yX5_fault cX5_fault 2 (some .int) 2 43 x [.ref (xa x 93)] ar fd (fun r => r = flt (ar 94) n) := by
  refine zsP (own := RX5) rfl (by decide +kernel) (Nat.le_of_ble_eq_true rfl) ?_
  intro p e s m below meth c ls E hs hl
  have hx := E.1
  have hb := E.2.1
  have hl : lv_has ls 2 [(0, .ref (xa x 93))] := hl
  refine lv_iconst (v := nI 0) hx hb dX5_fault_0 (by decide) ?_
  refine lv_istore_n (lv' := [(1, .int (nI 0)), (0, .ref (xa x 93))]) hx hb dX5_fault_1 rfl hl (by decide) rfl (fun ls hl => ?_)
  have L_1 : ∀ (mm : Nat) (i : Nat), (n - i) < mm → (i ≤ n) → (ffst (fun i => ¬ alw (ar 94) i) n 0 = ffst (fun i => ¬ alw (ar 94) i) (n - i) i) → ∀ (H : Heap) (locs : List Loc) (ls : Array Slot), ST x (AA x) s.heap ar fd H locs → lv_has ls 2 [(0, .ref (xa x 93)), (1, .int (nI i))] → W p l e (rmZ 2 43) s m ([.ref (xa x 93)] : List Value).toArray below meth c H locs 0 0 (QP below x [.ref (xa x 93)] ar fd s (fun r => r = flt (ar 94) n)) (F0 m 2 ls []) := by
    intro mm
    induction mm with
    | zero => intro i hmu; exact absurd hmu (Nat.not_lt_zero _)
    | succ mm ih_1 =>
      intro i hmu hi h1 H locs ls hs hl
      refine lv_iload_n hx hb dX5_fault_2 rfl (lv_at hl 1 rfl) ?_
      refine lv_aload_n hx hb dX5_fault_3 rfl (lv_at hl 0 rfl) ?_
      refine zg4 E hs (k := 93) rfl 1 (by decide) rfl q_106 dX5_fault_4 ?_
      refine tp (b := nI n) hn ?_
      refine lv_icmp_ge (tgt := 26) hx hb dX5_fault_7 (by decide) (fun c_2 => ?_) (fun c_2 => ?_)
      · have c_2 : n ≤ i := (nI_leI (a := n) (b := i) (by omega) (by omega)).mp c_2
        refine lv_aload_n hx hb dX5_fault_26 rfl (lv_at hl 0 rfl) ?_
        refine zg4 E hs (k := 93) rfl 1 (by decide) rfl q_106 dX5_fault_27 ?_
        refine tp (b := nI n) hn ?_
        refine lv_iconst (v := nI 3) hx hb dX5_fault_30 (by decide) ?_
        refine lv_irem hx hb dX5_fault_31 (by decide) ?_
        refine tp (b := nI (n % 3)) (nI_rem (by omega) (by omega)) ?_
        refine lv_iconst (v := nI 2) hx hb dX5_fault_32 (by decide) ?_
        refine lv_icmp_ne (tgt := 40) hx hb dX5_fault_33 (by decide) (fun c_3 => ?_) (fun c_3 => ?_)
        · have c_3 : ¬ (n % 3 = 2) := fun h => c_3 ((nI_eq (a := n % 3) (b := 2) (by omega) (by omega)).mpr h)
          refine lv_aload_n hx hb dX5_fault_40 rfl (lv_at hl 0 rfl) ?_
          refine zg4 E hs (k := 93) rfl 1 (by decide) rfl q_106 dX5_fault_41 ?_
          refine tp (b := nI n) hn ?_
          exact zeP E hs (by unfold flt; rw [h1, ffst_e (by omega), iz_t rfl, iz_f c_3]) dX5_fault_44
        · have c_3 : n % 3 = 2 := (nI_eq (a := n % 3) (b := 2) (by omega) (by omega)).mp c_3
          refine lv_iconst (v := (-1)) hx hb dX5_fault_36 (by decide) ?_
          refine lv_goto (tgt := 44) hx hb dX5_fault_37 (by decide) ?_
          exact zeP E hs (by unfold flt; rw [h1, ffst_e (by omega), iz_t rfl, iz_t c_3]) dX5_fault_44
      · have c_2 : ¬ (n ≤ i) := fun h => c_2 ((nI_leI (a := n) (b := i) (by omega) (by omega)).mpr h)
        refine lv_aload_n hx hb dX5_fault_10 rfl (lv_at hl 0 rfl) ?_
        refine lv_iload_n hx hb dX5_fault_11 rfl (lv_at hl 1 rfl) ?_
        refine zVP E hs lkX5_19 [] (c_X5_isAllowed l x ar fd i (by omega) hC) (by decide) (sh4 rfl) rfl ⟨Nat.le_of_ble_eq_true rfl, Nat.le_of_ble_eq_true rfl⟩ rfl hl.1 (Nat.le_of_ble_eq_true rfl) rfl dX5_fault_12 (fun r_4 H locs hp_5 hs => ?_)
        subst hp_5
        refine lv_if_ne (tgt := 20) hx hb dX5_fault_15 (by decide) (fun c_6 => ?_) (fun c_6 => ?_)
        · have c_6 : alw (ar 94) i := bz_1 c_6
          refine lv_iinc (v := nI (i + 1)) (lv' := [(1, .int (nI (i + 1))), (0, .ref (xa x 93))]) hx hb dX5_fault_20 hl (k := 1) rfl (nI_inc _) (by decide) rfl (fun ls hl => ?_)
          refine lv_goto (tgt := 2) hx hb dX5_fault_23 (by decide) ?_
          exact ih_1 (i + 1) (by omega) (by omega) (h1.trans (ffst_f (by omega) (not_not_intro c_6))) _ _ _ hs (lvr (lv_at hl 1 rfl) (lvr (lv_at hl 0 rfl) (lvn hl)))
        · have c_6 : ¬ (alw (ar 94) i) := bz_0 c_6
          refine lv_iload_n hx hb dX5_fault_18 rfl (lv_at hl 1 rfl) ?_
          exact zeP E hs (by unfold flt; rw [h1, ffst_t (by omega) c_6, iz_f (nI_nm (by omega))]) dX5_fault_19
  exact L_1 (_ + 1) 0 (Nat.lt_succ_self _) (by omega) rfl _ _ _ hs (lvr (lv_at hl 1 rfl) (lvr (lv_at hl 0 rfl) (lvn hl)))

set_option maxHeartbeats 4000000 in
set_option maxRecDepth 100000 in
/-- VoteText.pairs -/
theorem c_X5_pairs (l : Launch) (x : CT) (ar fd : AR) (n : Nat) (hn : fd 93 1 = nI n) (hn60 : n ≤ 60) : CP l yX5_pairs cX5_pairs 1 (some .int) 0 0 x [.ref (xa x 93)] ar fd (fun r => r = nI ((n + 1) / 3)) := by
  refine zsP (own := RX5) rfl (by decide +kernel) (Nat.le_of_ble_eq_true rfl) ?_
  intro p e s m below meth c ls E hs hl
  have hx := E.1
  have hb := E.2.1
  have hl : lv_has ls 1 [(0, .ref (xa x 93))] := hl
  refine lv_aload_n hx hb dX5_pairs_0 rfl (lv_at hl 0 rfl) ?_
  refine zg4 E hs (k := 93) rfl 1 (by decide) rfl q_106 dX5_pairs_1 ?_
  refine tp (b := nI n) hn ?_
  refine lv_iconst (v := nI 1) hx hb dX5_pairs_4 (by decide) ?_
  refine lv_iadd hx hb dX5_pairs_5 ?_
  refine tp (b := nI (n + 1)) (nI_add _ _) ?_
  refine lv_iconst (v := nI 3) hx hb dX5_pairs_6 (by decide) ?_
  refine lv_idiv hx hb dX5_pairs_7 (by decide) ?_
  refine tp (b := nI ((n + 1) / 3)) (nI_div (by omega) (by omega)) ?_
  exact zeP E hs rfl dX5_pairs_8

set_option maxHeartbeats 4000000 in
set_option maxRecDepth 100000 in
/-- VoteText.votes -/
theorem c_X5_votes (l : Launch) (x : CT) (ar fd : AR) (pr sd : Nat) (hps : pr * 3 + sd < 60) (hC : CHS (ar 94)) : CP l yX5_votes cX5_votes 3 (some .int) 1 21 x [.ref (xa x 93), .int (nI pr), .int (nI sd)] ar fd (fun r => r = ar 94 (pr * 3 + sd) - nI 48) := by
  refine zsP (own := RX5) rfl (by decide +kernel) (Nat.le_of_ble_eq_true rfl) ?_
  intro p e s m below meth c ls E hs hl
  have hx := E.1
  have hb := E.2.1
  have hl : lv_has ls 3 [(0, .ref (xa x 93)), (1, .int (nI pr)), (2, .int (nI sd))] := hl
  refine lv_aload_n hx hb dX5_votes_0 rfl (lv_at hl 0 rfl) ?_
  refine lv_iload_n hx hb dX5_votes_1 rfl (lv_at hl 1 rfl) ?_
  refine lv_iconst (v := nI 3) hx hb dX5_votes_2 (by decide) ?_
  refine lv_imul hx hb dX5_votes_3 ?_
  refine tp (b := nI (pr * 3)) (nI_mul _ _) ?_
  refine lv_iload_n hx hb dX5_votes_4 rfl (lv_at hl 2 rfl) ?_
  refine lv_iadd hx hb dX5_votes_5 ?_
  refine tp (b := nI ((pr * 3) + sd)) (nI_add _ _) ?_
  refine zVP E hs lkX5_23 [] (c_X5_at l x ar fd ((pr * 3) + sd) (by omega) hC) (by decide) (sh4 rfl) rfl ⟨Nat.le_of_ble_eq_true rfl, Nat.le_of_ble_eq_true rfl⟩ rfl hl.1 (Nat.le_of_ble_eq_true rfl) rfl dX5_votes_6 (fun r_1 H locs hp_2 hs => ?_)
  subst hp_2
  refine lv_bipush (v := nI 48) hx hb dX5_votes_9 (by decide) ?_
  refine lv_isub hx hb dX5_votes_11 ?_
  exact zeP E hs rfl dX5_votes_12

set_option maxHeartbeats 4000000 in
set_option maxRecDepth 100000 in
/-- Math.floorMod -/
theorem c_J9_floorMod_7cf53 (l : Launch) (x : CT) (ar fd : AR) (n : Nat) (hn : n < 8) : CP l yJ9_floorMod_7cf53 cJ9_floorMod_7cf53 3 (some .int) 0 0 x [.int (nI n), .int (nI 4)] ar fd (fun r => r = nI (n % 4)) := by
  refine zsP (own := RJ9) rfl (by decide +kernel) (Nat.le_of_ble_eq_true rfl) ?_
  intro p e s m below meth c ls E hs hl
  have hx := E.1
  have hb := E.2.1
  have hl : lv_has ls 3 [(0, .int (nI n)), (1, .int (nI 4))] := hl
  refine lv_iload_n hx hb dJ9_floorMod_7cf53_0 rfl (lv_at hl 0 rfl) ?_
  refine lv_iload_n hx hb dJ9_floorMod_7cf53_1 rfl (lv_at hl 1 rfl) ?_
  refine lv_irem hx hb dJ9_floorMod_7cf53_2 (by decide) ?_
  refine tp (b := nI (n % 4)) (nI_rem (by omega) (by omega)) ?_
  refine lv_istore_n (lv' := [(2, .int (nI (n % 4))), (0, .int (nI n)), (1, .int (nI 4))]) hx hb dJ9_floorMod_7cf53_3 rfl hl (by decide) rfl (fun ls hl => ?_)
  refine lv_iload_n hx hb dJ9_floorMod_7cf53_4 rfl (lv_at hl 1 rfl) ?_
  refine lv_iload_n hx hb dJ9_floorMod_7cf53_5 rfl (lv_at hl 2 rfl) ?_
  refine lv_ixor hx hb dJ9_floorMod_7cf53_6 ?_
  refine lv_if_ge (tgt := 18) hx hb dJ9_floorMod_7cf53_7 (by decide) (fun c_1 => ?_) (fun c_1 => ?_)
  · refine lv_iload_n hx hb dJ9_floorMod_7cf53_18 rfl (lv_at hl 0 rfl) ?_
    exact zeP E hs rfl dJ9_floorMod_7cf53_19
  · exact absurd (xor4 n hn) c_1

set_option maxHeartbeats 4000000 in
set_option maxRecDepth 100000 in
/-- History.slotAt -/
theorem c_X1_slotAt (l : Launch) (x : CT) (ar fd : AR) (o a : Nat) (ho : o < 4) (ha : a ≤ 4) (hof : fd 16 1 = nI o) : CR l yX1_slotAt cX1_slotAt 3 (some (.object "FrozenDistricts$State")) 1 22 x [.ref (xa x 16), .int (nI a)] ar fd (fun r => r = xa x (18 + 15 * ((o + a) % 4))) := by
  refine zsR (own := RX1) rfl (by decide +kernel) (Nat.le_of_ble_eq_true rfl) ?_
  intro p e s m below meth c ls E hs hl
  have hx := E.1
  have hb := E.2.1
  have hl : lv_has ls 3 [(0, .ref (xa x 16)), (1, .int (nI a))] := hl
  refine lv_aload_n hx hb dX1_slotAt_0 rfl (lv_at hl 0 rfl) ?_
  refine zg0 E hs (k := 16) rfl 1 (by decide) rfl q_90 dX1_slotAt_1 ?_
  refine tp (b := nI o) hof ?_
  refine lv_iload_n hx hb dX1_slotAt_4 rfl (lv_at hl 1 rfl) ?_
  refine lv_iadd hx hb dX1_slotAt_5 ?_
  refine tp (b := nI (o + a)) (nI_add _ _) ?_
  refine lv_iconst (v := nI 4) hx hb dX1_slotAt_6 (by decide) ?_
  refine zSP E hs lkX1_33 [] (c_J9_floorMod_7cf53 l x ar fd (o + a) (by omega)) ⟨Nat.le_of_ble_eq_true rfl, Nat.le_of_ble_eq_true rfl⟩ rfl hl.1 (Nat.le_of_ble_eq_true rfl) rfl dX1_slotAt_7 (fun r_1 H locs hp_2 hs => ?_)
  subst hp_2
  refine lv_istore_n (lv' := [(2, .int (nI ((o + a) % 4))), (0, .ref (xa x 16)), (1, .int (nI a))]) hx hb dX1_slotAt_10 rfl hl (by decide) rfl (fun ls hl => ?_)
  refine lv_iload_n hx hb dX1_slotAt_11 rfl (lv_at hl 0 rfl) ?_
  refine lv_if_lt (tgt := 33) hx hb dX1_slotAt_12 (by decide) (fun c_3 => ?_) (fun c_3 => ?_)
  · have c_3 : (o + a) % 4 < 0 := (nI_ltI (a := (o + a) % 4) (b := 0) (by omega) (by omega)).mp c_3
    exfalso; omega
  · have c_3 : ¬ ((o + a) % 4 < 0) := fun h => c_3 ((nI_ltI (a := (o + a) % 4) (b := 0) (by omega) (by omega)).mpr h)
    refine lv_iload_n hx hb dX1_slotAt_15 rfl (lv_at hl 0 rfl) ?_
    refine lv_aload_n hx hb dX1_slotAt_16 rfl (lv_at hl 1 rfl) ?_
    refine zg0 E hs (k := 16) rfl 0 (by decide) rfl q_89 dX1_slotAt_17 ?_
    refine zalen10 E hs dX1_slotAt_20 ?_
    refine lv_icmp_ge (tgt := 33) hx hb dX1_slotAt_21 (by decide) (fun c_4 => ?_) (fun c_4 => ?_)
    · have c_4 : 4 ≤ (o + a) % 4 := (nI_leI (a := 4) (b := (o + a) % 4) (by omega) (by omega)).mp c_4
      exfalso; omega
    · have c_4 : ¬ (4 ≤ (o + a) % 4) := fun h => c_4 ((nI_leI (a := 4) (b := (o + a) % 4) (by omega) (by omega)).mpr h)
      refine lv_aload_n hx hb dX1_slotAt_24 rfl (lv_at hl 1 rfl) ?_
      refine zg0 E hs (k := 16) rfl 0 (by decide) rfl q_89 dX1_slotAt_25 ?_
      refine lv_iload_n hx hb dX1_slotAt_28 rfl (lv_at hl 0 rfl) ?_
      refine zald10 E hs (j := ((o + a) % 4)) (by omega) dX1_slotAt_29 ?_
      refine lv_goto (tgt := 34) hx hb dX1_slotAt_30 (by decide) ?_
      exact zeR E hs rfl dX1_slotAt_34

set_option maxHeartbeats 4000000 in
set_option maxRecDepth 100000 in
/-- History.size -/
theorem c_X1_size (l : Launch) (x : CT) (ar fd : AR)  : CP l yX1_size cX1_size 1 (some .int) 0 0 x [.ref (xa x 16)] ar fd (fun r => r = fd 16 2) := by
  refine zsP (own := RX1) rfl (by decide +kernel) (Nat.le_of_ble_eq_true rfl) ?_
  intro p e s m below meth c ls E hs hl
  have hx := E.1
  have hb := E.2.1
  have hl : lv_has ls 1 [(0, .ref (xa x 16))] := hl
  refine lv_aload_n hx hb dX1_size_0 rfl (lv_at hl 0 rfl) ?_
  refine zg0 E hs (k := 16) rfl 2 (by decide) rfl q_91 dX1_size_1 ?_
  exact zeP E hs rfl dX1_size_4

noncomputable def sp_record (ar fd : AR) (o z : Nat) : AR × AR := iz (4 ≤ z) ((cpA (18 + 15 * ((o + z) % 4)) 1 ar, zu (zu fd (18 + 15 * ((o + z) % 4)) (fd 1)) 16 (zu ((zu fd (18 + 15 * ((o + z) % 4)) (fd 1)) 16) 1 (nI ((o + 1) % 4))))) ((cpA (18 + 15 * ((o + z) % 4)) 1 ar, zu (zu fd (18 + 15 * ((o + z) % 4)) (fd 1)) 16 (zu ((zu fd (18 + 15 * ((o + z) % 4)) (fd 1)) 16) 2 (nI (z + 1)))))
set_option maxHeartbeats 4000000 in
set_option maxRecDepth 100000 in
/-- History.record -/
theorem c_X1_record (l : Launch) (x : CT) (ar fd : AR) (o z : Nat) (hof : fd 16 1 = nI o) (hz : fd 16 2 = nI z) (ho : o < 4) (hz4 : z ≤ 4) : CV l yX1_record cX1_record 3 3 64 x [.ref (xa x 16), .ref (xa x 1)] ar fd (fun ar' fd' => (ar', fd') = sp_record ar fd o z) := by
  refine zsV (own := RX1) rfl (by decide +kernel) (Nat.le_of_ble_eq_true rfl) ?_
  intro p e s m below meth c ls E hs hl
  have hx := E.1
  have hb := E.2.1
  have hl : lv_has ls 3 [(0, .ref (xa x 16)), (1, .ref (xa x 1))] := hl
  refine lv_aload_n hx hb dX1_record_0 rfl (lv_at hl 0 rfl) ?_
  refine lv_aload_n hx hb dX1_record_1 rfl (lv_at hl 0 rfl) ?_
  refine zg0 E hs (k := 16) rfl 2 (by decide) rfl q_91 dX1_record_2 ?_
  refine tp (b := nI z) hz ?_
  refine zVR E hs lkX1_25 [] (c_X1_slotAt l x ar fd o z ho (by omega) hof) (by decide) (sh0 rfl) rfl ⟨Nat.le_of_ble_eq_true rfl, Nat.le_of_ble_eq_true rfl⟩ rfl hl.1 (Nat.le_of_ble_eq_true rfl) rfl dX1_record_5 (fun r_1 H locs hp_2 hs => ?_)
  subst hp_2
  refine lv_astore_n (lv' := [(2, .ref (xa x (18 + 15 * ((o + z) % 4)))), (0, .ref (xa x 16)), (1, .ref (xa x 1))]) hx hb dX1_record_8 rfl hl (by decide) rfl (fun ls hl => ?_)
  refine lv_aload_n hx hb dX1_record_9 rfl (lv_at hl 0 rfl) ?_
  refine lv_ifnonnull (tgt := 14) hx hb dX1_record_10 (by decide) ?_
  refine lv_aload_n hx hb dX1_record_14 rfl (lv_at hl 0 rfl) ?_
  refine lv_aload_n hx hb dX1_record_15 rfl (lv_at hl 2 rfl) ?_
  refine zVV E hs lkX1_29 [] (c_X4_copy l x (18 + 15 * ((o + z) % 4)) 1 (sb_sl (j := (o + z) % 4) (by omega)) sb_1 (by omega) ar fd) (kd_lt (sb_sl (j := (o + z) % 4) (by omega)).1 (by decide)) (sh3 (sb_sl (j := (o + z) % 4) (by omega)).1) rfl ⟨Nat.le_of_ble_eq_true rfl, Nat.le_of_ble_eq_true rfl⟩ rfl hl.1 (Nat.le_of_ble_eq_true rfl) rfl dX1_record_16 (fun arr_3 fdr_3 H locs hp_4 hs => ?_)
  rw [hp_4.1, hp_4.2] at hs
  refine lv_aload_n hx hb dX1_record_19 rfl (lv_at hl 1 rfl) ?_
  refine zg0 E hs (k := 16) rfl 2 (by decide) rfl q_91 dX1_record_20 ?_
  refine tp (b := nI z) (by rw [zu_n _ _ (by omega), hz]) ?_
  refine lv_iconst (v := nI 4) hx hb dX1_record_23 (by decide) ?_
  refine lv_icmp_ge (tgt := 40) hx hb dX1_record_24 (by decide) (fun c_5 => ?_) (fun c_5 => ?_)
  · have c_5 : 4 ≤ z := (nI_leI (a := 4) (b := z) (by omega) (by omega)).mp c_5
    refine lv_aload_n hx hb dX1_record_40 rfl (lv_at hl 1 rfl) ?_
    refine lv_aload_n hx hb dX1_record_41 rfl (lv_at hl 1 rfl) ?_
    refine zg0 E hs (k := 16) rfl 1 (by decide) rfl q_90 dX1_record_42 ?_
    refine tp (b := nI o) (by rw [zu_n _ _ (by omega), hof]) ?_
    refine lv_iconst (v := nI 1) hx hb dX1_record_45 (by decide) ?_
    refine lv_iadd hx hb dX1_record_46 ?_
    refine tp (b := nI (o + 1)) (nI_add _ _) ?_
    refine lv_iconst (v := nI 4) hx hb dX1_record_47 (by decide) ?_
    refine lv_irem hx hb dX1_record_48 (by decide) ?_
    refine tp (b := nI ((o + 1) % 4)) (nI_rem (by omega) (by omega)) ?_
    refine zp0_1 E hs (k := 16) (hk := rfl)  q_90 dX1_record_49 (fun H locs hs => ?_)
    exact zeV E hs (by show (_, _) = sp_record ar fd o z; unfold sp_record; rw [iz_t c_5]) dX1_record_52
  · have c_5 : ¬ (4 ≤ z) := fun h => c_5 ((nI_leI (a := 4) (b := z) (by omega) (by omega)).mpr h)
    refine lv_aload_n hx hb dX1_record_27 rfl (lv_at hl 1 rfl) ?_
    refine lv_dup hx hb dX1_record_28 rfl ?_
    refine zg0 E hs (k := 16) rfl 2 (by decide) rfl q_91 dX1_record_29 ?_
    refine tp (b := nI z) (by rw [zu_n _ _ (by omega), hz]) ?_
    refine lv_iconst (v := nI 1) hx hb dX1_record_32 (by decide) ?_
    refine lv_iadd hx hb dX1_record_33 ?_
    refine tp (b := nI (z + 1)) (nI_add _ _) ?_
    refine zp0_2 E hs (k := 16) (hk := rfl)  q_91 dX1_record_34 (fun H locs hs => ?_)
    refine lv_goto (tgt := 52) hx hb dX1_record_37 (by decide) ?_
    exact zeV E hs (by show (_, _) = sp_record ar fd o z; unfold sp_record; rw [iz_f c_5]) dX1_record_52

noncomputable def sp_takeLatest (ar fd : AR) (o z : Nat) : AR × AR := (cpA 1 (18 + 15 * ((o + (z - 1)) % 4)) ar, zu (zu fd 1 (fd (18 + 15 * ((o + (z - 1)) % 4)))) 16 (zu ((zu fd 1 (fd (18 + 15 * ((o + (z - 1)) % 4)))) 16) 2 (nI (z - 1))))
set_option maxHeartbeats 4000000 in
set_option maxRecDepth 100000 in
/-- History.takeLatest -/
theorem c_X1_takeLatest (l : Launch) (x : CT) (ar fd : AR) (o z : Nat) (hof : fd 16 1 = nI o) (hz : fd 16 2 = nI z) (ho : o < 4) (hz4 : z ≤ 4) (hz1 : 1 ≤ z) : CV l yX1_takeLatest cX1_takeLatest 3 3 64 x [.ref (xa x 16), .ref (xa x 1)] ar fd (fun ar' fd' => (ar', fd') = sp_takeLatest ar fd o z) := by
  refine zsV (own := RX1) rfl (by decide +kernel) (Nat.le_of_ble_eq_true rfl) ?_
  intro p e s m below meth c ls E hs hl
  have hx := E.1
  have hb := E.2.1
  have hl : lv_has ls 3 [(0, .ref (xa x 16)), (1, .ref (xa x 1))] := hl
  refine lv_aload_n hx hb dX1_takeLatest_0 rfl (lv_at hl 0 rfl) ?_
  refine lv_aload_n hx hb dX1_takeLatest_1 rfl (lv_at hl 0 rfl) ?_
  refine zg0 E hs (k := 16) rfl 2 (by decide) rfl q_91 dX1_takeLatest_2 ?_
  refine tp (b := nI z) hz ?_
  refine lv_iconst (v := nI 1) hx hb dX1_takeLatest_5 (by decide) ?_
  refine lv_isub hx hb dX1_takeLatest_6 ?_
  refine tp (b := nI (z - 1)) (nI_sub (by omega)) ?_
  refine zVR E hs lkX1_25 [] (c_X1_slotAt l x ar fd o (z - 1) ho (by omega) hof) (by decide) (sh0 rfl) rfl ⟨Nat.le_of_ble_eq_true rfl, Nat.le_of_ble_eq_true rfl⟩ rfl hl.1 (Nat.le_of_ble_eq_true rfl) rfl dX1_takeLatest_7 (fun r_1 H locs hp_2 hs => ?_)
  subst hp_2
  refine lv_astore_n (lv' := [(2, .ref (xa x (18 + 15 * ((o + (z - 1)) % 4)))), (0, .ref (xa x 16)), (1, .ref (xa x 1))]) hx hb dX1_takeLatest_10 rfl hl (by decide) rfl (fun ls hl => ?_)
  refine lv_aload_n hx hb dX1_takeLatest_11 rfl (lv_at hl 1 rfl) ?_
  refine zg0 E hs (k := 16) rfl 2 (by decide) rfl q_91 dX1_takeLatest_12 ?_
  refine tp (b := nI z) hz ?_
  refine lv_if_eq (tgt := 22) hx hb dX1_takeLatest_15 (by decide) (fun c_3 => ?_) (fun c_3 => ?_)
  · have c_3 : z = 0 := (nI_eq (a := z) (b := 0) (by omega) (by omega)).mp c_3
    exfalso; omega
  · have c_3 : ¬ (z = 0) := fun h => c_3 ((nI_eq (a := z) (b := 0) (by omega) (by omega)).mpr h)
    refine lv_aload_n hx hb dX1_takeLatest_18 rfl (lv_at hl 0 rfl) ?_
    refine lv_ifnonnull (tgt := 23) hx hb dX1_takeLatest_19 (by decide) ?_
    refine lv_aload_n hx hb dX1_takeLatest_23 rfl (lv_at hl 2 rfl) ?_
    refine lv_aload_n hx hb dX1_takeLatest_24 rfl (lv_at hl 0 rfl) ?_
    refine zVV E hs lkX1_29 [] (c_X4_copy l x 1 (18 + 15 * ((o + (z - 1)) % 4)) sb_1 (sb_sl (j := (o + (z - 1)) % 4) (by omega)) (by omega) ar fd) (by decide) (sh3 rfl) rfl ⟨Nat.le_of_ble_eq_true rfl, Nat.le_of_ble_eq_true rfl⟩ rfl hl.1 (Nat.le_of_ble_eq_true rfl) rfl dX1_takeLatest_25 (fun arr_4 fdr_4 H locs hp_5 hs => ?_)
    rw [hp_5.1, hp_5.2] at hs
    refine lv_aload_n hx hb dX1_takeLatest_28 rfl (lv_at hl 1 rfl) ?_
    refine lv_dup hx hb dX1_takeLatest_29 rfl ?_
    refine zg0 E hs (k := 16) rfl 2 (by decide) rfl q_91 dX1_takeLatest_30 ?_
    refine tp (b := nI z) (by rw [zu_n _ _ (by omega), hz]) ?_
    refine lv_iconst (v := nI 1) hx hb dX1_takeLatest_33 (by decide) ?_
    refine lv_isub hx hb dX1_takeLatest_34 ?_
    refine tp (b := nI (z - 1)) (nI_sub (by omega)) ?_
    refine zp0_2 E hs (k := 16) (hk := rfl)  q_91 dX1_takeLatest_35 (fun H locs hs => ?_)
    exact zeV E hs (by show (_, _) = sp_takeLatest ar fd o z; unfold sp_takeLatest; rfl) dX1_takeLatest_38
