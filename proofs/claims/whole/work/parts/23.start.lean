def fad (a n : Nat) (gn : Nat → Nat) (h t : Nat) (s : Nat → Nat) (gh : Nat → Nat → Nat) (sn : Nat) (gs : Nat → Nat) (v vc j : Nat) (gj : Nat → Nat) (pl pr : Nat) : Nat → Nat := fun k => ([a, n, gn 1, gn 2, gn 3, gn 4, gn 5, gn 6, gn 7, gn 8, gn 9, gn 10, gn 11, gn 12, gn 13, gn 14, h, t, (s 0), gh 0 1, gh 0 2, gh 0 3, gh 0 4, gh 0 5, gh 0 6, gh 0 7, gh 0 8, gh 0 9, gh 0 10, gh 0 11, gh 0 12, gh 0 13, gh 0 14, (s 1), gh 1 1, gh 1 2, gh 1 3, gh 1 4, gh 1 5, gh 1 6, gh 1 7, gh 1 8, gh 1 9, gh 1 10, gh 1 11, gh 1 12, gh 1 13, gh 1 14, (s 2), gh 2 1, gh 2 2, gh 2 3, gh 2 4, gh 2 5, gh 2 6, gh 2 7, gh 2 8, gh 2 9, gh 2 10, gh 2 11, gh 2 12, gh 2 13, gh 2 14, (s 3), gh 3 1, gh 3 2, gh 3 3, gh 3 4, gh 3 5, gh 3 6, gh 3 7, gh 3 8, gh 3 9, gh 3 10, gh 3 11, gh 3 12, gh 3 13, gh 3 14, sn, gs 1, gs 2, gs 3, gs 4, gs 5, gs 6, gs 7, gs 8, gs 9, gs 10, gs 11, gs 12, gs 13, gs 14, v, vc, j, gj 1, gj 2, gj 3, gj 4, pl, pr] : List Nat).getD k 0
theorem rfs_4 (s : Nat → Nat) : ∀ j, j < 4 → rfs s j = some (s j) := by
  intro j hj
  rcases (show j = 0 ∨ j = 1 ∨ j = 2 ∨ j = 3 by omega) with rfl | rfl | rfl | rfl <;> rfl
theorem va_Pmid {D : va_G} {cl : List vw_C} {w1 w2 : va_W} {z z2 : Nat × va_E} {H : Heap} (hP : va_P D cl (w1 ++ z :: w2) H) (h : va_at D cl z H → va_at D cl z2 H) : va_P D cl (w1 ++ z2 :: w2) H := by
  intro k q hk
  rcases Nat.lt_or_ge k w1.length with g | g
  · rw [List.getElem?_append_left g] at hk; exact hP k q (by rw [List.getElem?_append_left g]; exact hk)
  · rw [List.getElem?_append_right g] at hk
    obtain ⟨i, hi⟩ : ∃ i, k = w1.length + i := ⟨k - w1.length, by omega⟩
    subst hi
    rw [Nat.add_sub_cancel_left] at hk
    cases i with
    | zero => cases hk; exact h (hP w1.length z (by rw [List.getElem?_append_right (Nat.le_refl _), Nat.sub_self]; rfl))
    | succ i => exact hP (w1.length + (i + 1)) q (by rw [List.getElem?_append_right (by omega), Nat.add_sub_cancel_left]; exact hk)
set_option maxRecDepth 100000 in
theorem blf_1 (x : CT) (a n : Nat) (gn : Nat → Nat) (h t : Nat) (s : Nat → Nat) (gh : Nat → Nat → Nat) (sn : Nat) (gs : Nat → Nat) (v vc j : Nat) (gj : Nat → Nat) (pl pr : Nat) : blf x a n gn h t s gh sn gs v vc j gj pl pr = (([(a, .inr (5, [.ref n, .ref h, .ref sn, .int (nI 0), .ref v, .ref j, .ref pl]))] ++ blk x n gn) ++ [(h, .inr (0, [.ref t, .int (nI 0), .int (nI 0)]))]) ++ (t, .inl (xS x, 4, .inr (.inr (.inr (.inr (rfs s)))))) :: (((((((blk x (s 0) (gh 0) ++ blk x (s 1) (gh 1)) ++ blk x (s 2) (gh 2)) ++ blk x (s 3) (gh 3)) ++ blk x sn gs) ++ [(v, .inr (4, [.ref vc, .int (nI 0)])), (vc, .inl (xC x, 60, .inl (fun _ => 0)))]) ++ blj x j gj) ++ [(pl, .inr (2, [.ref pr])), (pr, .inl (xI x, 36, .inl (fun _ => (-1))))]) := rfl
set_option maxRecDepth 100000 in
set_option maxHeartbeats 4000000 in
theorem blf_2 (x : CT) (a n : Nat) (gn : Nat → Nat) (h t : Nat) (s : Nat → Nat) (gh : Nat → Nat → Nat) (sn : Nat) (gs : Nat → Nat) (v vc j : Nat) (gj : Nat → Nat) (pl pr : Nat) : (([(a, .inr (5, [.ref n, .ref h, .ref sn, .int (nI 0), .ref v, .ref j, .ref pl]))] ++ blk x n gn) ++ [(h, .inr (0, [.ref t, .int (nI 0), .int (nI 0)]))]) ++ (t, .inl (xS x, 4, .inr (.inr (.inr (.inr (fun i => some (fad a n gn h t s gh sn gs v vc j gj pl pr (18 + 15 * i)))))))) :: (((((((blk x (s 0) (gh 0) ++ blk x (s 1) (gh 1)) ++ blk x (s 2) (gh 2)) ++ blk x (s 3) (gh 3)) ++ blk x sn gs) ++ [(v, .inr (4, [.ref vc, .int (nI 0)])), (vc, .inl (xC x, 60, .inl (fun _ => 0)))]) ++ blj x j gj) ++ [(pl, .inr (2, [.ref pr])), (pr, .inl (xI x, 36, .inl (fun _ => (-1))))]) = seg x (fad a n gn h t s gh sn gs v vc j gj pl pr) := rfl
theorem app_z (P : va_W) (z : Nat × va_E) (Q R : va_W) : P ++ z :: (Q ++ R) = (P ++ z :: Q) ++ R := (List.append_assoc P (z :: Q) R).symm
theorem blf_P (x : CT) (a n : Nat) (gn : Nat → Nat) (h t : Nat) (s : Nat → Nat) (gh : Nat → Nat → Nat) (sn : Nat) (gs : Nat → Nat) (v vc j : Nat) (gj : Nat → Nat) (pl pr : Nat) {R : va_W} {H : Heap} (hP : va_P (xD x) vwCl (blf x a n gn h t s gh sn gs v vc j gj pl pr ++ R) H) : va_P (xD x) vwCl (seg x (fad a n gn h t s gh sn gs v vc j gj pl pr) ++ R) H := by
  rw [blf_1, List.append_assoc, List.cons_append] at hP
  have h2 := va_Pmid hP (va_ext4 (G := fun i => some (fad a n gn h t s gh sn gs v vc j gj pl pr (18 + 15 * i))) (fun j hj => (rfs_4 s j hj).trans (by rcases (show j = 0 ∨ j = 1 ∨ j = 2 ∨ j = 3 by omega) with rfl | rfl | rfl | rfl <;> rfl)))
  rw [← blf_2]
  exact Eq.mp (congrArg (fun w => va_P (xD x) vwCl w H) (app_z _ _ _ _)) h2
theorem blf_D (x : CT) (a n : Nat) (gn : Nat → Nat) (h t : Nat) (s : Nat → Nat) (gh : Nat → Nat → Nat) (sn : Nat) (gs : Nat → Nat) (v vc j : Nat) (gj : Nat → Nat) (pl pr : Nat) {R : va_W} {A : Nat → Prop} (hD : va_D A (blf x a n gn h t s gh sn gs v vc j gj pl pr ++ R)) : va_D A (seg x (fad a n gn h t s gh sn gs v vc j gj pl pr) ++ R) := by
  refine va_Dfst ?_ hD
  rw [List.map_append, List.map_append, ← blf_2, blf_1, List.map_append, List.map_append]
  rfl

noncomputable def arS : AR := zu (zu ar0 103 (zu (ar0 103) 72 (nI 4))) 103 (clrF ((zu ar0 103 (zu (ar0 103) 72 (nI 4))) 103))
theorem zcblind2 {x : CT} {as : List Value} {ws0 : va_W} {sz : Nat} : FrameBlind (va_Pc as (fun U => U.heap.size = sz ∧ va_P (xD x) vwCl ws0 U.heap ∧ va_K (xD x) vwCl (xt x) U ∧ va_D (fun _ => True) ws0)) := fun a U g mk q => by
  obtain ⟨q1, qs, qP, qK, qD⟩ := q
  exact ⟨q1, qs, qP, va_K.moved (u := U) (U := U.calling g mk a) (Vm.Alike.refl U.vm) qK, qD⟩
set_option maxHeartbeats 4000000 in
set_option maxRecDepth 100000 in
/-- the law up to its loop -/
theorem law_start {p : Program} {e : Env} {s : State} {m : MethodId} {below : List Frame} {meth : Method} {c : Code} (l : Launch) {b : Nat} (hx : p.tables.exec = Jvm.exec) (hb : c.code = cL_law) (hr : meth.sig.returnType = some .boolean) (hml : c.maxLocals = 4) (hown : s.vm.findClass RL = some m.cls) (hts : ∀ w ∈ lw_tbl, w.before #[Value.ref b] s = true) (hlocks : meth.locks = false) {Q : State → Prop}
    (loop : ∀ (x : CT) (H : Heap) (locs : List Loc) (ls : Array Slot), EV p room_1 s m #[Value.ref b] meth c cL_law 4 RL (some .boolean) 110 2802 (fun q => s.heap.size ≤ q) x → ST x (fun q => s.heap.size ≤ q) s.heap arS fd0 H locs → lv_has ls 4 [(3, .int (nI 0)), (2, .ref (xa x 102)), (1, .ref (xa x 0)), (0, .ref b)] → W p l e room_1 s m #[Value.ref b] below meth c H locs 110 2802 Q (F0 m 18 ls [])) :
    W p l e room_1 s m #[Value.ref b] below meth c s.heap [] 0 0 Q (entryFrame m ([Value.ref b] : List Value).toArray 4) := by
  have htb : ∀ w ∈ TB, w.before #[Value.ref b] s = true := fun w h => hts w (TB_sub w h)
  obtain ⟨c0, i0, k0⟩ := u_known (C := RX1) (T := TX1) (N := 3) (n := 3) htb iX1 (htb _ q_81)
  obtain ⟨c1, i1, k1⟩ := u_known (C := RX2) (T := TX2) (N := 2) (n := 2) htb iX2 (htb _ q_114)
  obtain ⟨c2, i2, k2⟩ := u_known (C := RX3) (T := TX3) (N := 1) (n := 1) htb iX3 (htb _ q_25)
  obtain ⟨c3, i3, k3⟩ := u_known (C := RX4) (T := TX4) (N := 11) (n := 11) htb iX4 (htb _ q_19)
  obtain ⟨c4, i4, k4⟩ := u_known (C := RX5) (T := TX5) (N := 2) (n := 2) htb iX5 (htb _ q_100)
  obtain ⟨c5, i5, k5⟩ := u_known (C := RX6) (T := TX6) (N := 7) (n := 7) htb iX6 (htb _ q_11)
  obtain ⟨c6, i6, k6⟩ := u_known (C := RX7) (T := TX7) (N := 11) (n := 11) htb iX7 (htb _ q_505)
  obtain ⟨D, hKc⟩ : ∃ D : va_G, ∀ (k : Nat) (q : vw_C), vwCl[k]? = some q → u_Kn s q.1 q.2.1 q.2.2 (D.1 k) (D.2 k) := by
    refine ⟨(fun k => match k with | 0 => c0 | 1 => c1 | 2 => c2 | 3 => c3 | 4 => c4 | 5 => c5 | _ => c6, fun k => match k with | 0 => i0 | 1 => i1 | 2 => i2 | 3 => i3 | 4 => i4 | 5 => i5 | _ => i6), ?_⟩
    intro k q hq
    match k, hq with
    | 0, hq => cases hq; exact k0
    | 1, hq => cases hq; exact k1
    | 2, hq => cases hq; exact k2
    | 3, hq => cases hq; exact k3
    | 4, hq => cases hq; exact k4
    | 5, hq => cases hq; exact k5
    | 6, hq => cases hq; exact k6
    | k + 7, hq => simp [vwCl] at hq
  obtain ⟨cI, kI, mI, fI, gI, hI⟩ := Cond.arrayClass_spec (htb _ q_34)
  obtain ⟨cC, kC, mC, fC, gC, hC⟩ := Cond.arrayClass_spec (htb _ q_112)
  obtain ⟨cZ, kZ, mZ, fZ, gZ, hZ⟩ := Cond.arrayClass_spec (htb _ q_548)
  obtain ⟨mS, cS, kS, f0, -, gS, hS2, fS⟩ := Cond.arrayOver_spec (hts _ qn_87)
  have hK : va_K D vwCl [(cI, .int), (cC, .char), (cZ, .boolean), (cS, .object RX4)] s := by
    refine ⟨hKc, fun k q h => ?_⟩
    match k, h with
    | 0, h => cases h; exact ⟨fun n z => ⟨fun k h => (by cases h), kI, gI, mI, hI⟩, fI⟩
    | 1, h => cases h; exact ⟨fun n z => ⟨fun k h => (by cases h), kC, gC, mC, hC⟩, fC⟩
    | 2, h => cases h; exact ⟨fun n z => ⟨fun k h => (by cases h), kZ, gZ, mZ, hZ⟩, fZ⟩
    | 3, h => cases h; exact ⟨fun n z => ⟨fun k h => (by cases h), kS, gS, mS, hS2⟩, kS, mS, gS, hS2, f0, fS⟩
    | k + 4, h => simp at h
  have hN : NA s := ⟨va_Nw.of rfl (hts _ qn_20), va_Nw.of rfl (hts _ qn_88), va_Nw.of rfl (hts _ qn_101), va_Nw.of rfl (hts _ qn_115), hts _ qn_87⟩
  have E0 : EB p s m #[Value.ref b] c cL_law 4 RL ((D, (cI, cC, cZ, cS), fun _ => 0) : CT) := ⟨hx, hb, hml, hown, htb, hK⟩
  generalize ((D, (cI, cC, cZ, cS), fun _ => 0) : CT) = x at E0
  have hA : ∀ q : Nat, s.heap.size ≤ q → (fun q : Nat => s.heap.size ≤ q) q := fun _ h => h
  have hl := lv_entry ([.ref b]) (n := 4) (Nat.le_of_ble_eq_true rfl)
  rw [lg_entry_eq]
  generalize (lg_sl ([.ref b]) ++ List.replicate (4 - (lg_sl ([.ref b])).length) Slot.unset).toArray = ls at hl ⊢
  have hl : lv_has ls 4 [(0, .ref b)] := hl
  have hP0 : va_P (xD x) vwCl [] s.heap := fun k q h => by simp at h
  have hD0 : va_D (fun q : Nat => s.heap.size ≤ q) [] := ⟨fun i j p q h => by simp at h, fun k q h => by simp at h⟩
  refine va_new (ci := 5) (fs := [.null, .null, .null, .int 0, .null, .null, .null]) (C := RX6) (T := TX6) (N := 7) hx hb htb iX6 tyX6 tyX6_ok hown (htb _ q_10) (htb _ q_11) (htb _ q_1) E0.K hP0 hD0 va_S.rf hA rfl hfX6 (Nat.le_of_ble_eq_true rfl) (Nat.le_of_ble_eq_true rfl) dL_law_0 (fun q H hP hD hS => ?_)
  have hs : WS x (fun q : Nat => s.heap.size ≤ q) s.heap ([] ++ [(q, .inr (5, [.null, .null, .null, .int 0, .null, .null, .null]))]) H [] := ⟨hP, hD, hS⟩
  refine lv_dup hx hb dL_law_3 rfl ?_
  refine zcI E0 hN hA hs (c_X6_init l x q) [.ref q] q_14 q_1 q_12 q_13 rfl hyX6_init ⟨Nat.le_of_ble_eq_true rfl, Nat.le_of_ble_eq_true rfl⟩ rfl hl.1 (Nat.le_of_ble_eq_true rfl) rfl dL_law_4 ⟨Nat.le_of_ble_eq_true rfl, Nat.le_of_ble_eq_true rfl⟩ (fun w H locs hp hs => ?_)
  obtain ⟨n, gn, h, t, sx, gh, sn, gs, v, vc, j, gj, pl, pr, rfl⟩ := hp
  refine lv_astore_n (lv' := [(1, .ref q), (0, .ref b)]) hx hb dL_law_7 rfl hl (by decide) rfl (fun ls hl => ?_)
  refine va_new (ci := 6) (fs := [.null, .null, .null, .int 0, .int 0, .null, .int 0, .int 0, .null, .null, .null]) (C := RX7) (T := TX7) (N := 11) hx hb htb iX7 tyX7 tyX7_ok hown (htb _ q_504) (htb _ q_505) (htb _ q_7) E0.K hs.1 hs.2.1 hs.2.2 hA rfl hfX7 (Nat.le_of_ble_eq_true rfl) (Nat.le_of_ble_eq_true rfl) dL_law_8 (fun q2 H hP hD hS => ?_)
  have hP := blf_P x q n gn h t sx gh sn gs v vc j gj pl pr hP
  have hD := blf_D x q n gn h t sx gh sn gs v vc j gj pl pr hD
  refine lv_dup hx hb dL_law_11 rfl ?_
  have hF : ∀ z, va_A (seg x (fad q n gn h t sx gh sn gs v vc j gj pl pr) ++ [(q2, .inr (6, [.null, .null, .null, .int 0, .int 0, .null, .int 0, .int 0, .null, .null, .null]))]) H.size z → s.heap.size ≤ z := by
    rintro z (⟨k, e, h⟩ | h)
    · exact hD.2 k _ h
    · exact Nat.le_trans hS.1 h
  refine va_callv (va_runI (As := []) (rest := [.ref q2]) E0.cf (c_X7_init l x q2 (fad q n gn h t sx gh sn gs v vc j gj pl pr) H.size) ⟨callB_of 0 htb (gTB q_508) rfl rfl rfl (htb _ q_7) (htb _ q_506) hyX7_init ⟨Nat.le_of_ble_eq_true rfl, Nat.le_of_ble_eq_true rfl⟩, rfl, htb _ q_507⟩ ⟨zcblind2, fun U hU hW => ⟨rfl, by rw [hU], by rw [hU]; exact hP, E0.K.moved hW.alike, hD.weaken (fun _ _ _ _ => trivial)⟩⟩ rfl rfl hl.1 rfl (lv_room (Nat.le_of_ble_eq_true rfl)) dL_law_12 ⟨Nat.le_of_ble_eq_true rfl, Nat.le_of_ble_eq_true rfl⟩) hS (fun z _ h => hF z h) hF (fun u t1 H1 locs1 ht hvm hp hB hz hk hS1 => ?_)
  obtain ⟨xx, hx1, hx2, rfl⟩ := hp
  obtain ⟨hP1, hD1⟩ := hB
  rw [ht] at hP1
  refine lv_astore_n (lv' := [(2, .ref q2), (1, .ref q), (0, .ref b)]) hx hb dL_law_15 rfl hl (by decide) rfl (fun ls hl => ?_)
  refine lv_iconst (v := nI 0) hx hb dL_law_16 (by decide) ?_
  refine lv_istore_n (lv' := [(3, .int (nI 0)), (2, .ref q2), (1, .ref q), (0, .ref b)]) hx hb dL_law_17 rfl hl (by decide) rfl (fun ls hl => ?_)
  refine W.widen (k := 110) (n := 2802) (Nat.le_of_ble_eq_true rfl) (Nat.le_of_ble_eq_true rfl) ?_
  have e0 : xx 0 = q := (hx1 0 (by decide)).trans rfl
  exact loop (x.1, x.2.1, xx) H1 locs1 ls ⟨hx, hb, hml, hown, htb, E0.K, (wl_DJ hD1).1, fun z hz => hF z ((wl_DJ hD1).2 z hz), ⟨Nat.le_of_ble_eq_true rfl, Nat.le_of_ble_eq_true rfl⟩, hlocks, hr⟩ ⟨hP1, hS1⟩ (by show lv_has ls 4 [(3, .int (nI 0)), (2, .ref (xx 102)), (1, .ref (xx 0)), (0, .ref b)]; rw [hx2, e0]; exact hl)
