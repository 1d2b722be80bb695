def arL : List Int32 := [nI 0, nI 0, nI 0, nI 0, nI 0, nI 0, nI 0, (-1), nI 0, (-1), nI 0, (-1), nI 0, (-1), nI 0, nI 0, nI 0, nI 0, nI 0, nI 0, nI 0, nI 0, nI 0, nI 0, (-1), nI 0, (-1), nI 0, (-1), nI 0, (-1), nI 0, nI 0, nI 0, nI 0, nI 0, nI 0, nI 0, nI 0, (-1), nI 0, (-1), nI 0, (-1), nI 0, (-1), nI 0, nI 0, nI 0, nI 0, nI 0, nI 0, nI 0, nI 0, (-1), nI 0, (-1), nI 0, (-1), nI 0, (-1), nI 0, nI 0, nI 0, nI 0, nI 0, nI 0, nI 0, nI 0, (-1), nI 0, (-1), nI 0, (-1), nI 0, (-1), nI 0, nI 0, nI 0, nI 0, nI 0, nI 0, nI 0, nI 0, (-1), nI 0, (-1), nI 0, (-1), nI 0, (-1), nI 0, nI 0, nI 0, nI 0, nI 0, nI 0, nI 0, nI 0, (-1), nI 0, (-1), nI 0, nI 0, nI 0, nI 0, nI 0, nI 0, nI 0, nI 0]
def ar0 : AR := fun k _ => arL.getD k (nI 0)
def fdL : List Bool := [false, true, false, false, false, false, false, false, false, false, false, false, false, false, false, false, false, false, true, false, false, false, false, false, false, false, false, false, false, false, false, false, false, true, false, false, false, false, false, false, false, false, false, false, false, false, false, false, true, false, false, false, false, false, false, false, false, false, false, false, false, false, false, true, false, false, false, false, false, false, false, false, false, false, false, false, false, false, true, false, false, false, false, false, false, false, false, false, false, false, false, false, false, false, false, false, false, false, false, false, false, false, false, false, false, false, false, false, false, false]
def fd0 : AR := fun k j => bif fdL.getD k false && Nat.beq j 7 then nI 4 else nI 0
/-- the class's 102 cells, at the addresses f -/
def seg (x : CT) (f : Nat → Nat) : va_W := (List.range 102).map fun k => (f k, sh (x.1, x.2.1, f) k (ar0 k) (fd0 k))
def adr (f : Nat → Nat) (r : List Nat) : Nat → Nat := fun k => bif Nat.blt k 102 then f k else r.getD (k - 102) 0
theorem seg_len (x : CT) (f : Nat → Nat) : (seg x f).length = 102 := by simp [seg]
theorem wget {w : va_W} {z : Nat × va_E} {r : va_W} (h : w.length = 102) : (w ++ z :: r)[102]? = some z := by
  rw [← h, List.getElem?_append_right (Nat.le_refl _), Nat.sub_self]; rfl
theorem wset {w : va_W} {z v : Nat × va_E} {r : va_W} (h : w.length = 102) : (w ++ z :: r).set 102 v = w ++ v :: r := by
  rw [← h, List.set_append_right _ _ (Nat.le_refl _), Nat.sub_self]; rfl
theorem wl_DJ {x : CT} {ar fd : AR} {A : Nat → Prop} (h : va_D A (wl x ar fd)) : DJ x ∧ ∀ q, AA x q → A q :=
  ⟨fun i j hi hj e => h.1 i j _ _ (wl_get hi) (wl_get hj) e, fun q ⟨k, hk, e⟩ => e ▸ h.2 k _ (wl_get hk)⟩
theorem seg_get {x : CT} {f : Nat → Nat} {k : Nat} (h : k < 102) : (seg x f)[k]? = some (f k, sh (x.1, x.2.1, f) k (ar0 k) (fd0 k)) := by
  simp [seg, h]
theorem adr_lo {f : Nat → Nat} {r : List Nat} {j : Nat} (hj : j < 102) : adr f r j = f j := by
  show (bif Nat.blt j 102 then f j else _) = f j
  rw [show Nat.blt j 102 = true from Nat.ble_eq.mpr hj]; rfl
theorem sh_adr {x : CT} {f : Nat → Nat} {r : List Nat} {k : Nat} (hk : k < 102) (h17 : ¬ k = 17) (a g : Nat → Int32) : sh ((x.1, x.2.1, adr f r) : CT) k a g = sh ((x.1, x.2.1, f) : CT) k a g := by
  have hx : ∀ j, j < 102 → xa ((x.1, x.2.1, adr f r) : CT) j = xa ((x.1, x.2.1, f) : CT) j := fun j hj => adr_lo hj
  have h : (kd k = 2 → k < 101) ∧ (kd k = 3 → k < 88) ∧ ¬ kd k = 6 ∧ kd k < 10 := (by decide +kernel : ∀ k, k < 102 → ¬ k = 17 → (kd k = 2 → k < 101) ∧ (kd k = 3 → k < 88) ∧ ¬ kd k = 6 ∧ kd k < 10) k hk h17
  unfold sh
  generalize kd k = c at h ⊢
  match c, h with
  | 0, _ => simp only [fl0]; rw [hx 17 (by decide)]
  | 1, _ => simp only [fl1]; rw [hx 96 (by decide), hx 98 (by decide)]
  | 2, h => have h2 := h.1 rfl; simp only [fl2]; rw [hx (k + 1) (by omega)]
  | 3, h => have h2 := h.2.1 rfl; simp only [fl3]; rw [hx (k + 1) (by omega), hx (k + 3) (by omega), hx (k + 5) (by omega), hx (k + 7) (by omega), hx (k + 9) (by omega), hx (k + 11) (by omega), hx (k + 13) (by omega)]
  | 4, _ => simp only [fl4]; rw [hx 94 (by decide)]
  | 5, _ => simp only [fl5]; rw [hx 1 (by decide), hx 16 (by decide), hx 78 (by decide), hx 93 (by decide), hx 95 (by decide), hx 100 (by decide)]
  | 6, h => exact absurd rfl h.2.2.1
  | 7, _ => rfl
  | 8, _ => rfl
  | 9, _ => rfl
  | n + 10, h => exact absurd h.2.2.2 (by omega)
theorem va_ext4 {D : va_G} {cl : List vw_C} {q : Nat} {cA : ClassId} {F G : Nat → Option Nat} {H : Heap} (h : ∀ j, j < 4 → F j = G j) (hP : va_at D cl (q, .inl (cA, 4, .inr (.inr (.inr (.inr F))))) H) : va_at D cl (q, .inl (cA, 4, .inr (.inr (.inr (.inr G))))) H := by
  have e : vp_cell cA (4, .inr (.inr (.inr (.inr F)))) = vp_cell cA (4, .inr (.inr (.inr (.inr G)))) := by
    rw [vp_cell_q, vp_cell_q]
    simp only [arrV]
    rw [show (fun (j : Fin 4) => va_rf (F j.1)) = fun (j : Fin 4) => va_rf (G j.1) from funext fun j => by rw [h j.1 j.2]]
  have hP2 : H[q]? = some (vp_cell cA (4, .inr (.inr (.inr (.inr F))))) := hP
  exact hP2.trans (congrArg some e)
/-- the class's cells and the model's eight, as the world -/
theorem seg_P {x : CT} {f : Nat → Nat} {a q0 q1 q2 q3 q4 q5 q6 : Nat} {H : Heap} (hP : va_P (xD x) vwCl (seg x f ++ [(a, .inr (6, [.ref q0, .ref q1, .ref q2, .int 0, .int 0, .ref q3, .int 0, .int 0, .ref q4, .ref q5, .ref q6])), (q0, .inl (xI x, 196, .inl (fun _ => 0))), (q1, .inl (xI x, 784, .inl (fun _ => 0))), (q2, .inl (xI x, 196, .inl (fun _ => 0))), (q3, .inl (xC x, 60, .inl (fun _ => 0))), (q4, .inl (xI x, 40, .inl (fun _ => 0))), (q5, .inl (xI x, 36, .inl (fun _ => 0))), (q6, .inl (xZ x, 36, .inl (fun _ => 0)))]) H) : va_P (xD x) vwCl (wl ((x.1, x.2.1, adr f [a, q0, q1, q2, q3, q4, q5, q6]) : CT) ar0 fd0) H := by
  intro k q hk
  obtain ⟨hl, rfl⟩ := wl_inv hk
  rcases Nat.lt_or_ge k 102 with h | h
  · have h1 := hP k _ ((List.getElem?_append_left (by rw [seg_len]; exact h)).trans (seg_get h))
    show va_at _ _ (adr f _ k, _) H
    rw [adr_lo h]
    by_cases h17 : k = 17
    · subst h17
      exact va_ext4 (F := fun i => some (f (18 + 15 * i))) (fun j hj => congrArg some (adr_lo (by omega)).symm) h1
    · rw [sh_adr h h17]; exact h1
  · obtain ⟨j, rfl⟩ : ∃ j, k = 102 + j := ⟨k - 102, by omega⟩
    have hj : j < 8 := by omega
    have h1 : ∀ z, ([(a, .inr (6, [.ref q0, .ref q1, .ref q2, .int 0, .int 0, .ref q3, .int 0, .int 0, .ref q4, .ref q5, .ref q6])), (q0, .inl (xI x, 196, .inl (fun _ => 0))), (q1, .inl (xI x, 784, .inl (fun _ => 0))), (q2, .inl (xI x, 196, .inl (fun _ => 0))), (q3, .inl (xC x, 60, .inl (fun _ => 0))), (q4, .inl (xI x, 40, .inl (fun _ => 0))), (q5, .inl (xI x, 36, .inl (fun _ => 0))), (q6, .inl (xZ x, 36, .inl (fun _ => 0)))] : va_W)[j]? = some z → va_at (xD x) vwCl z H := fun z hz => hP (102 + j) z (by
      rw [List.getElem?_append_right (by rw [seg_len]; omega), seg_len, Nat.add_sub_cancel_left]; exact hz)
    rcases (show j = 0 ∨ j = 1 ∨ j = 2 ∨ j = 3 ∨ j = 4 ∨ j = 5 ∨ j = 6 ∨ j = 7 by omega) with rfl | rfl | rfl | rfl | rfl | rfl | rfl | rfl <;> exact h1 _ rfl
theorem seg_D {x : CT} {f : Nat → Nat} {a q0 q1 q2 q3 q4 q5 q6 : Nat} {A : Nat → Prop} (hD : va_D A (seg x f ++ [(a, .inr (6, [.ref q0, .ref q1, .ref q2, .int 0, .int 0, .ref q3, .int 0, .int 0, .ref q4, .ref q5, .ref q6])), (q0, .inl (xI x, 196, .inl (fun _ => 0))), (q1, .inl (xI x, 784, .inl (fun _ => 0))), (q2, .inl (xI x, 196, .inl (fun _ => 0))), (q3, .inl (xC x, 60, .inl (fun _ => 0))), (q4, .inl (xI x, 40, .inl (fun _ => 0))), (q5, .inl (xI x, 36, .inl (fun _ => 0))), (q6, .inl (xZ x, 36, .inl (fun _ => 0)))])) : va_D A (wl ((x.1, x.2.1, adr f [a, q0, q1, q2, q3, q4, q5, q6]) : CT) ar0 fd0) := by
  refine va_Dfst ?_ hD
  simp only [seg, wl, List.map_append, List.map_map]
  rfl
def CM (l : Launch) (y : MethodName) (cc : ByteArray) (n fr lo mc ms : Nat) (x : CT) (a : Nat) (ws0 : va_W) (as : List Value) (post : va_W → Prop) : Prop :=
  ∀ sz : Nat, Met l y (.code y cc n none :: TB) (rmC fr lo mc ms) (va_Pc (.ref a :: as) (fun U => U.heap.size = sz ∧ va_P (xD x) vwCl ws0 U.heap ∧ va_K (xD x) vwCl (xt x) U ∧ va_D (fun _ => True) ws0)) (va_Qv post (fun w1 t => va_P (xD x) vwCl w1 t.heap ∧ va_D (va_A ws0 sz) w1) (va_A ws0 sz)) mc ms (va_A ws0 sz)
section INIT2
variable {p : Program} {l : Launch} {e : Env} {s : State} {m : MethodId} {meth : Method} {c : Code} {cc : ByteArray} {own : String} {x : CT} {as : List Value} {y : MethodName} {n fr lo mc ms a : Nat} {post : va_W → Prop} {ws0 : va_W}
theorem zsM (ho : y.cls = own) (hy : plainName y.cls = true) (hi : y.name = "<init>") (hn : (lg_sl (.ref a :: as)).length ≤ n)
    (body : ∀ (p : Program) (e : Env) (s : State) (m : MethodId) (below : List Frame) (meth : Method) (c : Code) (ls : Array Slot) (A : Nat → Prop), EC p s m (Value.ref a :: as).toArray meth c cc n own x → (∀ q, s.heap.size ≤ q → A q) → WS x A s.heap ws0 s.heap [] → lv_has ls n (lv_args 0 (.ref a :: as)) → W p l e (rmC fr lo mc ms) s m (Value.ref a :: as).toArray below meth c s.heap [] 0 0 (QC below x (.ref a :: as) s mc ms A post) (F0 m 0 ls [])) : CM l y cc n fr lo mc ms x a ws0 as post := by
  intro sz
  refine Met.ofW (cc := cc) (maxL := n) (ret := none) hy rfl ?_
  intro p e s m args below meth c0 s₁ B hml hv
  obtain ⟨rfl, hsz, hP, hK, hD⟩ := hv
  subst hsz
  rw [lg_entry_eq]
  have hts := atoms_spec (ws := .code y cc n none :: TB) B.pre
  exact body p e s m below meth c0 _ _ ⟨B.exec, B.bytes, hml, ho ▸ findClass_of_methodNamed B.named, fun w h => hts w (List.mem_cons_of_mem _ h), hK, B.notSynchronized, B.returns, ((name_of_methodNamed B.named B.method).1).trans hi⟩ (fun q h => Or.inr h) ⟨hP, hD.self, va_S.rf⟩ (lv_entry _ hn)
end INIT2

set_option maxHeartbeats 8000000 in
set_option maxRecDepth 100000 in
/-- a new model, beside the class's cells -/
theorem c_X7_init (l : Launch) (x : CT) (a : Nat) (f : Nat → Nat) : CM l yX7_init cX7_init 1 1 21 7 1348 x a (seg x f ++ [(a, .inr (6, [.null, .null, .null, .int 0, .int 0, .null, .int 0, .int 0, .null, .null, .null]))]) [] (fun w1 => ∃ xx : Nat → Nat, (∀ k, k < 102 → xx k = f k) ∧ xx 102 = a ∧ w1 = wl (x.1, x.2.1, xx) (zu (zu ar0 103 (zu (ar0 103) 72 (nI 4))) 103 (clrF ((zu ar0 103 (zu (ar0 103) 72 (nI 4))) 103))) fd0) := by
  obtain ⟨w0, hw0⟩ : ∃ w, w = seg x f := ⟨_, rfl⟩
  have hlen : w0.length = 102 := by rw [hw0]; exact seg_len x f
  rw [← hw0]
  refine zsM (own := RX7) rfl (by decide +kernel) rfl (Nat.le_of_ble_eq_true rfl) ?_
  intro p e s m below meth c ls A E hA hs hl
  have hx := E.1
  have hb := E.2.1
  have hl : lv_has ls 1 [(0, .ref a)] := hl
  refine lv_aload_n hx hb dX7_init_0 rfl (lv_at hl 0 rfl) ?_
  refine zcobj E q_509 hl.1 dX7_init_1 ⟨Nat.le_of_ble_eq_true rfl, Nat.le_of_ble_eq_true rfl⟩ ?_
  refine lv_aload_n hx hb dX7_init_4 rfl (lv_at hl 0 rfl) ?_
  refine lv_sipush (v := nI 196) hx hb dX7_init_5 (by decide) ?_
  refine va_newa (atype := .int) (n := nI 196) (N' := 196) (a0 := (196, .inl (fun _ => 0))) hx hb (E.tb q_34) rfl E.K hs.1 hs.2.1 hs.2.2 hA (fun cA => rfl) (nI_pos (by decide)) (nI_clamp (by decide)) (Nat.le_of_ble_eq_true rfl) (Nat.le_of_ble_eq_true rfl) (Nat.le_of_ble_eq_true rfl) dX7_init_8 (fun q0 cA H hK2 hP hD hS => ?_)
  have hcA : cA = xI x := Option.some.inj ((show s.vm.findClass ("[" ++ FieldType.int.toString) = some cA from (hK2.2 4 _ rfl).2).symm.trans (show s.vm.findClass ("[" ++ FieldType.int.toString) = some (xI x) from (E.K.2 0 _ rfl).2))
  subst hcA
  rw [List.append_assoc] at hP hD
  have hs := (⟨hP, hD, hS⟩ : WS x A s.heap (w0 ++ (a, .inr (6, [.null, .null, .null, .int 0, .int 0, .null, .int 0, .int 0, .null, .null, .null])) :: [(q0, .inl (xI x, 196, .inl (fun _ => 0)))]) H _)
  refine va_putF (ci := 6) (v := .ref q0) (ty := .array .int) (C := RX7) (T := TX7) (N := 11) hx hb E.2.2.2.2.1 iX7 tyX7 tyX7_ok nmX7 E.2.2.2.1 E.K hs.1 hs.2.1 hs.2.2 102 (wget hlen) rfl 0 (by decide) (E.tb q_514) (fun _ h => h) rfl E.nm rfl (by decide +kernel) rfl rfl (Nat.le_of_ble_eq_true rfl) dX7_init_10 (fun H locs hP hD hS => ?_)
  rw [wset hlen] at hP hD
  have hs := (⟨hP, hD, hS⟩ : WS x A s.heap (w0 ++ (a, .inr (6, [.ref q0, .null, .null, .int 0, .int 0, .null, .int 0, .int 0, .null, .null, .null])) :: [(q0, .inl (xI x, 196, .inl (fun _ => 0)))]) H locs)
  refine lv_aload_n hx hb dX7_init_13 rfl (lv_at hl 0 rfl) ?_
  refine lv_sipush (v := nI 784) hx hb dX7_init_14 (by decide) ?_
  refine va_newa (atype := .int) (n := nI 784) (N' := 784) (a0 := (784, .inl (fun _ => 0))) hx hb (E.tb q_34) rfl E.K hs.1 hs.2.1 hs.2.2 hA (fun cA => rfl) (nI_pos (by decide)) (nI_clamp (by decide)) (Nat.le_of_ble_eq_true rfl) (Nat.le_of_ble_eq_true rfl) (Nat.le_of_ble_eq_true rfl) dX7_init_17 (fun q1 cA H hK2 hP hD hS => ?_)
  have hcA : cA = xI x := Option.some.inj ((show s.vm.findClass ("[" ++ FieldType.int.toString) = some cA from (hK2.2 4 _ rfl).2).symm.trans (show s.vm.findClass ("[" ++ FieldType.int.toString) = some (xI x) from (E.K.2 0 _ rfl).2))
  subst hcA
  rw [List.append_assoc] at hP hD
  have hs := (⟨hP, hD, hS⟩ : WS x A s.heap (w0 ++ (a, .inr (6, [.ref q0, .null, .null, .int 0, .int 0, .null, .int 0, .int 0, .null, .null, .null])) :: [(q0, .inl (xI x, 196, .inl (fun _ => 0))), (q1, .inl (xI x, 784, .inl (fun _ => 0)))]) H _)
  refine va_putF (ci := 6) (v := .ref q1) (ty := .array .int) (C := RX7) (T := TX7) (N := 11) hx hb E.2.2.2.2.1 iX7 tyX7 tyX7_ok nmX7 E.2.2.2.1 E.K hs.1 hs.2.1 hs.2.2 102 (wget hlen) rfl 1 (by decide) (E.tb q_515) (fun _ h => h) rfl E.nm rfl (by decide +kernel) rfl rfl (Nat.le_of_ble_eq_true rfl) dX7_init_19 (fun H locs hP hD hS => ?_)
  rw [wset hlen] at hP hD
  have hs := (⟨hP, hD, hS⟩ : WS x A s.heap (w0 ++ (a, .inr (6, [.ref q0, .ref q1, .null, .int 0, .int 0, .null, .int 0, .int 0, .null, .null, .null])) :: [(q0, .inl (xI x, 196, .inl (fun _ => 0))), (q1, .inl (xI x, 784, .inl (fun _ => 0)))]) H locs)
  refine lv_aload_n hx hb dX7_init_22 rfl (lv_at hl 0 rfl) ?_
  refine lv_sipush (v := nI 196) hx hb dX7_init_23 (by decide) ?_
  refine va_newa (atype := .int) (n := nI 196) (N' := 196) (a0 := (196, .inl (fun _ => 0))) hx hb (E.tb q_34) rfl E.K hs.1 hs.2.1 hs.2.2 hA (fun cA => rfl) (nI_pos (by decide)) (nI_clamp (by decide)) (Nat.le_of_ble_eq_true rfl) (Nat.le_of_ble_eq_true rfl) (Nat.le_of_ble_eq_true rfl) dX7_init_26 (fun q2 cA H hK2 hP hD hS => ?_)
  have hcA : cA = xI x := Option.some.inj ((show s.vm.findClass ("[" ++ FieldType.int.toString) = some cA from (hK2.2 4 _ rfl).2).symm.trans (show s.vm.findClass ("[" ++ FieldType.int.toString) = some (xI x) from (E.K.2 0 _ rfl).2))
  subst hcA
  rw [List.append_assoc] at hP hD
  have hs := (⟨hP, hD, hS⟩ : WS x A s.heap (w0 ++ (a, .inr (6, [.ref q0, .ref q1, .null, .int 0, .int 0, .null, .int 0, .int 0, .null, .null, .null])) :: [(q0, .inl (xI x, 196, .inl (fun _ => 0))), (q1, .inl (xI x, 784, .inl (fun _ => 0))), (q2, .inl (xI x, 196, .inl (fun _ => 0)))]) H _)
  refine va_putF (ci := 6) (v := .ref q2) (ty := .array .int) (C := RX7) (T := TX7) (N := 11) hx hb E.2.2.2.2.1 iX7 tyX7 tyX7_ok nmX7 E.2.2.2.1 E.K hs.1 hs.2.1 hs.2.2 102 (wget hlen) rfl 2 (by decide) (E.tb q_516) (fun _ h => h) rfl E.nm rfl (by decide +kernel) rfl rfl (Nat.le_of_ble_eq_true rfl) dX7_init_28 (fun H locs hP hD hS => ?_)
  rw [wset hlen] at hP hD
  have hs := (⟨hP, hD, hS⟩ : WS x A s.heap (w0 ++ (a, .inr (6, [.ref q0, .ref q1, .ref q2, .int 0, .int 0, .null, .int 0, .int 0, .null, .null, .null])) :: [(q0, .inl (xI x, 196, .inl (fun _ => 0))), (q1, .inl (xI x, 784, .inl (fun _ => 0))), (q2, .inl (xI x, 196, .inl (fun _ => 0)))]) H locs)
  refine lv_aload_n hx hb dX7_init_31 rfl (lv_at hl 0 rfl) ?_
  refine lv_bipush (v := nI 60) hx hb dX7_init_32 (by decide) ?_
  refine va_newa (atype := .char) (n := nI 60) (N' := 60) (a0 := (60, .inl (fun _ => 0))) hx hb (E.tb q_112) rfl E.K hs.1 hs.2.1 hs.2.2 hA (fun cA => rfl) (nI_pos (by decide)) (nI_clamp (by decide)) (Nat.le_of_ble_eq_true rfl) (Nat.le_of_ble_eq_true rfl) (Nat.le_of_ble_eq_true rfl) dX7_init_34 (fun q3 cA H hK2 hP hD hS => ?_)
  have hcA : cA = xC x := Option.some.inj ((show s.vm.findClass ("[" ++ FieldType.char.toString) = some cA from (hK2.2 4 _ rfl).2).symm.trans (show s.vm.findClass ("[" ++ FieldType.char.toString) = some (xC x) from (E.K.2 1 _ rfl).2))
  subst hcA
  rw [List.append_assoc] at hP hD
  have hs := (⟨hP, hD, hS⟩ : WS x A s.heap (w0 ++ (a, .inr (6, [.ref q0, .ref q1, .ref q2, .int 0, .int 0, .null, .int 0, .int 0, .null, .null, .null])) :: [(q0, .inl (xI x, 196, .inl (fun _ => 0))), (q1, .inl (xI x, 784, .inl (fun _ => 0))), (q2, .inl (xI x, 196, .inl (fun _ => 0))), (q3, .inl (xC x, 60, .inl (fun _ => 0)))]) H _)
  refine va_putF (ci := 6) (v := .ref q3) (ty := .array .char) (C := RX7) (T := TX7) (N := 11) hx hb E.2.2.2.2.1 iX7 tyX7 tyX7_ok nmX7 E.2.2.2.1 E.K hs.1 hs.2.1 hs.2.2 102 (wget hlen) rfl 5 (by decide) (E.tb q_519) (fun _ h => h) rfl E.nm rfl (by decide +kernel) rfl rfl (Nat.le_of_ble_eq_true rfl) dX7_init_36 (fun H locs hP hD hS => ?_)
  rw [wset hlen] at hP hD
  have hs := (⟨hP, hD, hS⟩ : WS x A s.heap (w0 ++ (a, .inr (6, [.ref q0, .ref q1, .ref q2, .int 0, .int 0, .ref q3, .int 0, .int 0, .null, .null, .null])) :: [(q0, .inl (xI x, 196, .inl (fun _ => 0))), (q1, .inl (xI x, 784, .inl (fun _ => 0))), (q2, .inl (xI x, 196, .inl (fun _ => 0))), (q3, .inl (xC x, 60, .inl (fun _ => 0)))]) H locs)
  refine lv_aload_n hx hb dX7_init_39 rfl (lv_at hl 0 rfl) ?_
  refine lv_bipush (v := nI 40) hx hb dX7_init_40 (by decide) ?_
  refine va_newa (atype := .int) (n := nI 40) (N' := 40) (a0 := (40, .inl (fun _ => 0))) hx hb (E.tb q_34) rfl E.K hs.1 hs.2.1 hs.2.2 hA (fun cA => rfl) (nI_pos (by decide)) (nI_clamp (by decide)) (Nat.le_of_ble_eq_true rfl) (Nat.le_of_ble_eq_true rfl) (Nat.le_of_ble_eq_true rfl) dX7_init_42 (fun q4 cA H hK2 hP hD hS => ?_)
  have hcA : cA = xI x := Option.some.inj ((show s.vm.findClass ("[" ++ FieldType.int.toString) = some cA from (hK2.2 4 _ rfl).2).symm.trans (show s.vm.findClass ("[" ++ FieldType.int.toString) = some (xI x) from (E.K.2 0 _ rfl).2))
  subst hcA
  rw [List.append_assoc] at hP hD
  have hs := (⟨hP, hD, hS⟩ : WS x A s.heap (w0 ++ (a, .inr (6, [.ref q0, .ref q1, .ref q2, .int 0, .int 0, .ref q3, .int 0, .int 0, .null, .null, .null])) :: [(q0, .inl (xI x, 196, .inl (fun _ => 0))), (q1, .inl (xI x, 784, .inl (fun _ => 0))), (q2, .inl (xI x, 196, .inl (fun _ => 0))), (q3, .inl (xC x, 60, .inl (fun _ => 0))), (q4, .inl (xI x, 40, .inl (fun _ => 0)))]) H _)
  refine va_putF (ci := 6) (v := .ref q4) (ty := .array .int) (C := RX7) (T := TX7) (N := 11) hx hb E.2.2.2.2.1 iX7 tyX7 tyX7_ok nmX7 E.2.2.2.1 E.K hs.1 hs.2.1 hs.2.2 102 (wget hlen) rfl 8 (by decide) (E.tb q_522) (fun _ h => h) rfl E.nm rfl (by decide +kernel) rfl rfl (Nat.le_of_ble_eq_true rfl) dX7_init_44 (fun H locs hP hD hS => ?_)
  rw [wset hlen] at hP hD
  have hs := (⟨hP, hD, hS⟩ : WS x A s.heap (w0 ++ (a, .inr (6, [.ref q0, .ref q1, .ref q2, .int 0, .int 0, .ref q3, .int 0, .int 0, .ref q4, .null, .null])) :: [(q0, .inl (xI x, 196, .inl (fun _ => 0))), (q1, .inl (xI x, 784, .inl (fun _ => 0))), (q2, .inl (xI x, 196, .inl (fun _ => 0))), (q3, .inl (xC x, 60, .inl (fun _ => 0))), (q4, .inl (xI x, 40, .inl (fun _ => 0)))]) H locs)
  refine lv_aload_n hx hb dX7_init_47 rfl (lv_at hl 0 rfl) ?_
  refine lv_bipush (v := nI 36) hx hb dX7_init_48 (by decide) ?_
  refine va_newa (atype := .int) (n := nI 36) (N' := 36) (a0 := (36, .inl (fun _ => 0))) hx hb (E.tb q_34) rfl E.K hs.1 hs.2.1 hs.2.2 hA (fun cA => rfl) (nI_pos (by decide)) (nI_clamp (by decide)) (Nat.le_of_ble_eq_true rfl) (Nat.le_of_ble_eq_true rfl) (Nat.le_of_ble_eq_true rfl) dX7_init_50 (fun q5 cA H hK2 hP hD hS => ?_)
  have hcA : cA = xI x := Option.some.inj ((show s.vm.findClass ("[" ++ FieldType.int.toString) = some cA from (hK2.2 4 _ rfl).2).symm.trans (show s.vm.findClass ("[" ++ FieldType.int.toString) = some (xI x) from (E.K.2 0 _ rfl).2))
  subst hcA
  rw [List.append_assoc] at hP hD
  have hs := (⟨hP, hD, hS⟩ : WS x A s.heap (w0 ++ (a, .inr (6, [.ref q0, .ref q1, .ref q2, .int 0, .int 0, .ref q3, .int 0, .int 0, .ref q4, .null, .null])) :: [(q0, .inl (xI x, 196, .inl (fun _ => 0))), (q1, .inl (xI x, 784, .inl (fun _ => 0))), (q2, .inl (xI x, 196, .inl (fun _ => 0))), (q3, .inl (xC x, 60, .inl (fun _ => 0))), (q4, .inl (xI x, 40, .inl (fun _ => 0))), (q5, .inl (xI x, 36, .inl (fun _ => 0)))]) H _)
  refine va_putF (ci := 6) (v := .ref q5) (ty := .array .int) (C := RX7) (T := TX7) (N := 11) hx hb E.2.2.2.2.1 iX7 tyX7 tyX7_ok nmX7 E.2.2.2.1 E.K hs.1 hs.2.1 hs.2.2 102 (wget hlen) rfl 9 (by decide) (E.tb q_523) (fun _ h => h) rfl E.nm rfl (by decide +kernel) rfl rfl (Nat.le_of_ble_eq_true rfl) dX7_init_52 (fun H locs hP hD hS => ?_)
  rw [wset hlen] at hP hD
  have hs := (⟨hP, hD, hS⟩ : WS x A s.heap (w0 ++ (a, .inr (6, [.ref q0, .ref q1, .ref q2, .int 0, .int 0, .ref q3, .int 0, .int 0, .ref q4, .ref q5, .null])) :: [(q0, .inl (xI x, 196, .inl (fun _ => 0))), (q1, .inl (xI x, 784, .inl (fun _ => 0))), (q2, .inl (xI x, 196, .inl (fun _ => 0))), (q3, .inl (xC x, 60, .inl (fun _ => 0))), (q4, .inl (xI x, 40, .inl (fun _ => 0))), (q5, .inl (xI x, 36, .inl (fun _ => 0)))]) H locs)
  refine lv_aload_n hx hb dX7_init_55 rfl (lv_at hl 0 rfl) ?_
  refine lv_bipush (v := nI 36) hx hb dX7_init_56 (by decide) ?_
  refine va_newa (atype := .boolean) (n := nI 36) (N' := 36) (a0 := (36, .inl (fun _ => 0))) hx hb (E.tb q_548) rfl E.K hs.1 hs.2.1 hs.2.2 hA (fun cA => rfl) (nI_pos (by decide)) (nI_clamp (by decide)) (Nat.le_of_ble_eq_true rfl) (Nat.le_of_ble_eq_true rfl) (Nat.le_of_ble_eq_true rfl) dX7_init_58 (fun q6 cA H hK2 hP hD hS => ?_)
  have hcA : cA = xZ x := Option.some.inj ((show s.vm.findClass ("[" ++ FieldType.boolean.toString) = some cA from (hK2.2 4 _ rfl).2).symm.trans (show s.vm.findClass ("[" ++ FieldType.boolean.toString) = some (xZ x) from (E.K.2 2 _ rfl).2))
  subst hcA
  rw [List.append_assoc] at hP hD
  have hs := (⟨hP, hD, hS⟩ : WS x A s.heap (w0 ++ (a, .inr (6, [.ref q0, .ref q1, .ref q2, .int 0, .int 0, .ref q3, .int 0, .int 0, .ref q4, .ref q5, .null])) :: [(q0, .inl (xI x, 196, .inl (fun _ => 0))), (q1, .inl (xI x, 784, .inl (fun _ => 0))), (q2, .inl (xI x, 196, .inl (fun _ => 0))), (q3, .inl (xC x, 60, .inl (fun _ => 0))), (q4, .inl (xI x, 40, .inl (fun _ => 0))), (q5, .inl (xI x, 36, .inl (fun _ => 0))), (q6, .inl (xZ x, 36, .inl (fun _ => 0)))]) H _)
  refine va_putF (ci := 6) (v := .ref q6) (ty := .array .boolean) (C := RX7) (T := TX7) (N := 11) hx hb E.2.2.2.2.1 iX7 tyX7 tyX7_ok nmX7 E.2.2.2.1 E.K hs.1 hs.2.1 hs.2.2 102 (wget hlen) rfl 10 (by decide) (E.tb q_524) (fun _ h => h) rfl E.nm rfl (by decide +kernel) rfl rfl (Nat.le_of_ble_eq_true rfl) dX7_init_60 (fun H locs hP hD hS => ?_)
  rw [wset hlen] at hP hD
  have hs := (⟨hP, hD, hS⟩ : WS x A s.heap (w0 ++ (a, .inr (6, [.ref q0, .ref q1, .ref q2, .int 0, .int 0, .ref q3, .int 0, .int 0, .ref q4, .ref q5, .ref q6])) :: [(q0, .inl (xI x, 196, .inl (fun _ => 0))), (q1, .inl (xI x, 784, .inl (fun _ => 0))), (q2, .inl (xI x, 196, .inl (fun _ => 0))), (q3, .inl (xC x, 60, .inl (fun _ => 0))), (q4, .inl (xI x, 40, .inl (fun _ => 0))), (q5, .inl (xI x, 36, .inl (fun _ => 0))), (q6, .inl (xZ x, 36, .inl (fun _ => 0)))]) H locs)
  rw [hw0] at hs
  have hs : WS x A s.heap (wl ((x.1, x.2.1, adr f [a, q0, q1, q2, q3, q4, q5, q6]) : CT) ar0 fd0) H _ := ⟨seg_P hs.1, seg_D hs.2.1, hs.2.2⟩
  obtain ⟨hJ, hAA⟩ := wl_DJ hs.2.1
  have E2 : EV p (rmC 1 21 7 1348) s m [Value.ref (xa ((x.1, x.2.1, adr f [a, q0, q1, q2, q3, q4, q5, q6]) : CT) 102)].toArray meth c cX7_init 1 RX7 none 7 1348 A ((x.1, x.2.1, adr f [a, q0, q1, q2, q3, q4, q5, q6]) : CT) := ⟨E.1, E.2.1, E.2.2.1, E.2.2.2.1, E.2.2.2.2.1, E.K, hJ, hAA, ⟨Nat.le_of_ble_eq_true rfl, Nat.le_of_ble_eq_true rfl⟩, E.lk, E.rr⟩
  refine W.widen (k := 7) (n := 1348) (Nat.le_of_ble_eq_true rfl) (Nat.le_of_ble_eq_true rfl) ?_
  have hs : ST ((x.1, x.2.1, adr f [a, q0, q1, q2, q3, q4, q5, q6]) : CT) A s.heap ar0 fd0 H _ := ⟨hs.1, hs.2.2⟩
  have hl : lv_has ls 1 [(0, .ref (xa ((x.1, x.2.1, adr f [a, q0, q1, q2, q3, q4, q5, q6]) : CT) 102))] := hl
  refine lv_aload_n hx hb dX7_init_63 rfl (lv_at hl 0 rfl) ?_
  refine zg6 E2 hs (k := 102) rfl 0 (by decide) rfl q_514 dX7_init_64 ?_
  refine lv_bipush (v := nI 72) hx hb dX7_init_67 (by decide) ?_
  refine lv_iconst (v := nI 4) hx hb dX7_init_69 (by decide) ?_
  refine zast E2 hs 103 (n := 196) (j := 72) rfl rfl (by decide) (by decide) dX7_init_70 (fun H locs hs => ?_)
  refine lv_aload_n hx hb dX7_init_71 rfl (lv_at hl 0 rfl) ?_
  refine zVV E2 hs lkX7_33 [] (c_X7_clear l ((x.1, x.2.1, adr f [a, q0, q1, q2, q3, q4, q5, q6]) : CT) _ _) (by decide) (sh6 rfl) rfl ⟨Nat.le_of_ble_eq_true rfl, Nat.le_of_ble_eq_true rfl⟩ rfl hl.1 (Nat.le_of_ble_eq_true rfl) rfl dX7_init_72 (fun ar1 fd1 H locs hp hs => ?_)
  rw [hp.1, hp.2] at hs
  exact zeC E (ws := wl ((x.1, x.2.1, adr f [a, q0, q1, q2, q3, q4, q5, q6]) : CT) (zu (zu ar0 103 (zu (ar0 103) 72 (nI 4))) 103 (clrF ((zu ar0 103 (zu (ar0 103) 72 (nI 4))) 103))) fd0) ⟨hs.1, E2.D _ _, hs.2⟩ ⟨_, fun k hk => by show (bif Nat.blt k 102 then f k else _) = f k; rw [show Nat.blt k 102 = true from Nat.ble_eq.mpr hk]; rfl, rfl, rfl⟩ rfl rfl dX7_init_75
