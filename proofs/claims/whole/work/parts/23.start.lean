def fad (a n : Nat) (gn : Nat → Nat) (h t : Nat) (s : Nat → Nat) (gh : Nat → Nat → Nat) (sn : Nat) (gs : Nat → Nat) (v vc j : Nat) (gj : Nat → Nat) (pl pr : Nat) : Nat → Nat := fun k => ([a, n, gn 1, gn 2, gn 3, gn 4, gn 5, gn 6, gn 7, gn 8, gn 9, gn 10, gn 11, gn 12, gn 13, gn 14, h, t, (s 0), gh 0 1, gh 0 2, gh 0 3, gh 0 4, gh 0 5, gh 0 6, gh 0 7, gh 0 8, gh 0 9, gh 0 10, gh 0 11, gh 0 12, gh 0 13, gh 0 14, (s 1), gh 1 1, gh 1 2, gh 1 3, gh 1 4, gh 1 5, gh 1 6, gh 1 7, gh 1 8, gh 1 9, gh 1 10, gh 1 11, gh 1 12, gh 1 13, gh 1 14, (s 2), gh 2 1, gh 2 2, gh 2 3, gh 2 4, gh 2 5, gh 2 6, gh 2 7, gh 2 8, gh 2 9, gh 2 10, gh 2 11, gh 2 12, gh 2 13, gh 2 14, (s 3), gh 3 1, gh 3 2, gh 3 3, gh 3 4, gh 3 5, gh 3 6, gh 3 7, gh 3 8, gh 3 9, gh 3 10, gh 3 11, gh 3 12, gh 3 13, gh 3 14, sn, gs 1, gs 2, gs 3, gs 4, gs 5, gs 6, gs 7, gs 8, gs 9, gs 10, gs 11, gs 12, gs 13, gs 14, v, vc, j, gj 1, gj 2, gj 3, gj 4, pl, pr] : List Nat).getD k 0
theorem rfs_4 (s : Nat → Nat) : ∀ j, j < 4 → rfs s j = some (s j) := by
  intro j hj
  rcases (show j = 0 ∨ j = 1 ∨ j = 2 ∨ j = 3 by omega) with rfl | rfl | rfl | rfl <;> rfl
theorem va_Pmid {D : va_G} {cl : List vw_C} {w1 w2 : va_W} {z z2 : Nat × va_E} {H : Heap} (hP : va_P D cl (w1 ++ z :: w2) H) (h : va_at D cl z H → va_at D cl z2 H) : va_P D cl (w1 ++ z2 :: w2) H := by
  intro k q hk
  rcases Nat.lt_or_ge k w1.length with g | g
  · rw [List.getElem?_append_left g] at hk; exact hP k q (by rw [List.getElem?_append_left g]; exact hk)
  · rw [List.getElem?_append_right g] at hk
    obtain ⟨i, hi⟩ : ∃ i, k = w1.length + i := ⟨k - w1.length, by omega⟩
    subst hi
    rw [Nat.add_sub_cancel_left] at hk
    cases i with
    | zero => cases hk; exact h (hP w1.length z (by rw [List.getElem?_append_right (Nat.le_refl _), Nat.sub_self]; rfl))
    | succ i => exact hP (w1.length + (i + 1)) q (by rw [List.getElem?_append_right (by omega), Nat.add_sub_cancel_left]; exact hk)
set_option maxRecDepth 100000 in
theorem blf_1 (x : CT) (a n : Nat) (gn : Nat → Nat) (h t : Nat) (s : Nat → Nat) (gh : Nat → Nat → Nat) (sn : Nat) (gs : Nat → Nat) (v vc j : Nat) (gj : Nat → Nat) (pl pr : Nat) : blf x a n gn h t s gh sn gs v vc j gj pl pr = (([(a, .inr (5, [.ref n, .ref h, .ref sn, .int (nI 0), .ref v, .ref j, .ref pl]))] ++ blk x n gn) ++ [(h, .inr (0, [.ref t, .int (nI 0), .int (nI 0)]))]) ++ (t, .inl (xS x, 4, .inr (.inr (.inr (.inr (rfs s)))))) :: (((((((blk x (s 0) (gh 0) ++ blk x (s 1) (gh 1)) ++ blk x (s 2) (gh 2)) ++ blk x (s 3) (gh 3)) ++ blk x sn gs) ++ [(v, .inr (4, [.ref vc, .int (nI 0)])), (vc, .inl (xC x, 60, .inl (fun _ => 0)))]) ++ blj x j gj) ++ [(pl, .inr (2, [.ref pr])), (pr, .inl (xI x, 36, .inl (fun _ => (-1))))]) := rfl
set_option maxRecDepth 100000 in
set_option maxHeartbeats 4000000 in
theorem blf_2 (x : CT) (a n : Nat) (gn : Nat → Nat) (h t : Nat) (s : Nat → Nat) (gh : Nat → Nat → Nat) (sn : Nat) (gs : Nat → Nat) (v vc j : Nat) (gj : Nat → Nat) (pl pr : Nat) : (([(a, .inr (5, [.ref n, .ref h, .ref sn, .int (nI 0), .ref v, .ref j, .ref pl]))] ++ blk x n gn) ++ [(h, .inr (0, [.ref t, .int (nI 0), .int (nI 0)]))]) ++ (t, .inl (xS x, 4, .inr (.inr (.inr (.inr (fun i => some (fad a n gn h t s gh sn gs v vc j gj pl pr (18 + 15 * i)))))))) :: (((((((blk x (s 0) (gh 0) ++ blk x (s 1) (gh 1)) ++ blk x (s 2) (gh 2)) ++ blk x (s 3) (gh 3)) ++ blk x sn gs) ++ [(v, .inr (4, [.ref vc, .int (nI 0)])), (vc, .inl (xC x, 60, .inl (fun _ => 0)))]) ++ blj x j gj) ++ [(pl, .inr (2, [.ref pr])), (pr, .inl (xI x, 36, .inl (fun _ => (-1))))]) = seg x (fad a n gn h t s gh sn gs v vc j gj pl pr) := rfl
theorem app_z (P : va_W) (z : Nat × va_E) (Q R : va_W) : P ++ z :: (Q ++ R) = (P ++ z :: Q) ++ R := (List.append_assoc P (z :: Q) R).symm
theorem blf_P (x : CT) (a n : Nat) (gn : Nat → Nat) (h t : Nat) (s : Nat → Nat) (gh : Nat → Nat → Nat) (sn : Nat) (gs : Nat → Nat) (v vc j : Nat) (gj : Nat → Nat) (pl pr : Nat) {R : va_W} {H : Heap} (hP : va_P (xD x) vwCl (blf x a n gn h t s gh sn gs v vc j gj pl pr ++ R) H) : va_P (xD x) vwCl (seg x (fad a n gn h t s gh sn gs v vc j gj pl pr) ++ R) H := by
  rw [blf_1, List.append_assoc, List.cons_append] at hP
  have h2 := va_Pmid hP (va_ext4 (G := fun i => some (fad a n gn h t s gh sn gs v vc j gj pl pr (18 + 15 * i))) (fun j hj => (rfs_4 s j hj).trans (by rcases (show j = 0 ∨ j = 1 ∨ j = 2 ∨ j = 3 by omega) with rfl | rfl | rfl | rfl <;> rfl)))
  rw [← blf_2]
  exact Eq.mp (congrArg (fun w => va_P (xD x) vwCl w H) (app_z _ _ _ _)) h2
theorem blf_D (x : CT) (a n : Nat) (gn : Nat → Nat) (h t : Nat) (s : Nat → Nat) (gh : Nat → Nat → Nat) (sn : Nat) (gs : Nat → Nat) (v vc j : Nat) (gj : Nat → Nat) (pl pr : Nat) {R : va_W} {A : Nat → Prop} (hD : va_D A (blf x a n gn h t s gh sn gs v vc j gj pl pr ++ R)) : va_D A (seg x (fad a n gn h t s gh sn gs v vc j gj pl pr) ++ R) := by
  refine va_Dfst ?_ hD
  rw [List.map_append, List.map_append, ← blf_2, blf_1, List.map_append, List.map_append]
  rfl
