theorem lp_lt {i L : Nat} (hi : i ≤ 2048) (hL : L ≤ 2048) : nI L - nI 4 < nI i ↔ ¬ i + 4 ≤ L := by
  have e : (nI L - nI 4).toInt = (L : Int) - 4 := by
    rcases Nat.lt_or_ge L 4 with q | q
    · rcases (show L = 0 ∨ L = 1 ∨ L = 2 ∨ L = 3 by omega) with rfl | rfl | rfl | rfl <;> decide
    · rw [nI_sub q, nI_toInt (by omega)]; omega
  rw [lt_iI, e, nI_toInt (by omega)]
  omega
set_option maxHeartbeats 4000000 in
set_option maxRecDepth 100000 in
theorem lp_sw {p : Program} {e : Env} {s : State} {m : MethodId} {below : List Frame} {meth : Method} {c : Code} (l : Launch) {b nS : Nat} {xs : Nat → Int32} {x : CT} {Q : State → Prop} (E : EV p room_1 s m #[Value.ref b] meth c cL_law 4 RL (some .boolean) 110 2802 (fun q => s.heap.size ≤ q) x) (hX : va_X b nS xs s s.heap) (hbl : b < s.heap.size) (hS : nS ≤ 2048) {i : Nat} (hi : i + 4 ≤ nS) {ar fd : AR} {H : Heap} {locs : List Loc} {ls : Array Slot} (hs : ST x (fun q => s.heap.size ≤ q) s.heap ar fd H locs) (hl : lv_has ls 4 [(3, .int (nI i)), (2, .ref (xa x 102)), (1, .ref (xa x 0)), (0, .ref b)]) (hR : RRE ar fd) (k : ∀ (ar fd : AR) (H : Heap) (locs : List Loc), RRE ar fd → ST x (fun q => s.heap.size ≤ q) s.heap ar fd H locs → W p l e room_1 s m #[Value.ref b] below meth c H locs 110 2802 Q (F0 m 697 ls [])) {v : Int32} : W p l e room_1 s m #[Value.ref b] below meth c H locs 110 2802 Q (F0 m 32 ls [.int v]) := by
  have hx := E.1
  have hb := E.2.1
  by_cases c_0 : v = nI 0
  · refine lv_tableIn (off := 108) (tgt := 140) hx hb dL_law_32 (by rw [c_0]; decide) (by rw [c_0]; decide) (by rw [c_0]; first | rfl | decide) (by decide) ?_
    exact lc_setVotes l E hX hbl hS hi hs hl hR k
  by_cases c_1 : v = nI 1
  · refine lv_tableIn (off := 151) (tgt := 183) hx hb dL_law_32 (by rw [c_1]; decide) (by rw [c_1]; decide) (by rw [c_1]; first | rfl | decide) (by decide) ?_
    exact lc_begin l E hX hbl hS hi hs hl hR k
  by_cases c_2 : v = nI 2
  · refine lv_tableIn (off := 174) (tgt := 206) hx hb dL_law_32 (by rw [c_2]; decide) (by rw [c_2]; decide) (by rw [c_2]; first | rfl | decide) (by decide) ?_
    exact lc_setTarget l E hX hbl hS hi hs hl hR k
  by_cases c_3 : v = nI 3
  · refine lv_tableIn (off := 207) (tgt := 239) hx hb dL_law_32 (by rw [c_3]; decide) (by rw [c_3]; decide) (by rw [c_3]; first | rfl | decide) (by decide) ?_
    exact lc_draft l E hX hbl hS hi hs hl hR k
  by_cases c_4 : v = nI 4
  · refine lv_tableIn (off := 240) (tgt := 272) hx hb dL_law_32 (by rw [c_4]; decide) (by rw [c_4]; decide) (by rw [c_4]; first | rfl | decide) (by decide) ?_
    exact lc_trade l E hX hbl hS hi hs hl hR k
  by_cases c_5 : v = nI 5
  · refine lv_tableIn (off := 273) (tgt := 305) hx hb dL_law_32 (by rw [c_5]; decide) (by rw [c_5]; decide) (by rw [c_5]; first | rfl | decide) (by decide) ?_
    exact lc_snake l E hX hbl hS hi hs hl hR k
  by_cases c_6 : v = nI 6
  · refine lv_tableIn (off := 312) (tgt := 344) hx hb dL_law_32 (by rw [c_6]; decide) (by rw [c_6]; decide) (by rw [c_6]; first | rfl | decide) (by decide) ?_
    exact lc_adopt l E hX hbl hS hi hs hl hR k
  by_cases c_7 : v = nI 7
  · refine lv_tableIn (off := 325) (tgt := 357) hx hb dL_law_32 (by rw [c_7]; decide) (by rw [c_7]; decide) (by rw [c_7]; first | rfl | decide) (by decide) ?_
    exact lc_propose l E hX hbl hS hi hs hl hR k
  by_cases c_8 : v = nI 8
  · refine lv_tableIn (off := 338) (tgt := 370) hx hb dL_law_32 (by rw [c_8]; decide) (by rw [c_8]; decide) (by rw [c_8]; first | rfl | decide) (by decide) ?_
    exact lc_freeze l E hX hbl hS hi hs hl hR k
  by_cases c_9 : v = nI 9
  · refine lv_tableIn (off := 361) (tgt := 393) hx hb dL_law_32 (by rw [c_9]; decide) (by rw [c_9]; decide) (by rw [c_9]; first | rfl | decide) (by decide) ?_
    exact lc_type l E hX hbl hS hi hs hl hR k
  by_cases c_10 : v = nI 10
  · refine lv_tableIn (off := 386) (tgt := 418) hx hb dL_law_32 (by rw [c_10]; decide) (by rw [c_10]; decide) (by rw [c_10]; first | rfl | decide) (by decide) ?_
    exact lc_clearText l E hX hbl hS hi hs hl hR k
  by_cases c_11 : v = nI 11
  · refine lv_tableIn (off := 399) (tgt := 431) hx hb dL_law_32 (by rw [c_11]; decide) (by rw [c_11]; decide) (by rw [c_11]; first | rfl | decide) (by decide) ?_
    exact lc_readVotes l E hX hbl hS hi hs hl hR k
  by_cases c_12 : v = nI 12
  · refine lv_tableIn (off := 422) (tgt := 454) hx hb dL_law_32 (by rw [c_12]; decide) (by rw [c_12]; decide) (by rw [c_12]; first | rfl | decide) (by decide) ?_
    exact lc_undo l E hX hbl hS hi hs hl hR k
  by_cases c_13 : v = nI 13
  · refine lv_tableIn (off := 435) (tgt := 467) hx hb dL_law_32 (by rw [c_13]; decide) (by rw [c_13]; decide) (by rw [c_13]; first | rfl | decide) (by decide) ?_
    exact lc_keep l E hX hbl hS hi hs hl hR k
  by_cases c_14 : v = nI 14
  · refine lv_tableIn (off := 448) (tgt := 480) hx hb dL_law_32 (by rw [c_14]; decide) (by rw [c_14]; decide) (by rw [c_14]; first | rfl | decide) (by decide) ?_
    exact lc_restore l E hX hbl hS hi hs hl hR k
  by_cases c_15 : v = nI 15
  · refine lv_tableIn (off := 461) (tgt := 493) hx hb dL_law_32 (by rw [c_15]; decide) (by rw [c_15]; decide) (by rw [c_15]; first | rfl | decide) (by decide) ?_
    exact lc_cell l E hX hbl hS hi hs hl hR k
  by_cases c_16 : v = nI 16
  · refine lv_tableIn (off := 494) (tgt := 526) hx hb dL_law_32 (by rw [c_16]; decide) (by rw [c_16]; decide) (by rw [c_16]; first | rfl | decide) (by decide) ?_
    exact lc_part l E hX hbl hS hi hs hl hR k
  by_cases c_17 : v = nI 17
  · refine lv_tableIn (off := 527) (tgt := 559) hx hb dL_law_32 (by rw [c_17]; decide) (by rw [c_17]; decide) (by rw [c_17]; first | rfl | decide) (by decide) ?_
    exact lc_district l E hX hbl hS hi hs hl hR k
  by_cases c_18 : v = nI 18
  · refine lv_tableIn (off := 560) (tgt := 592) hx hb dL_law_32 (by rw [c_18]; decide) (by rw [c_18]; decide) (by rw [c_18]; first | rfl | decide) (by decide) ?_
    exact lc_why l E hX hbl hS hi hs hl hR k
  by_cases c_19 : v = nI 19
  · refine lv_tableIn (off := 583) (tgt := 615) hx hb dL_law_32 (by rw [c_19]; decide) (by rw [c_19]; decide) (by rw [c_19]; first | rfl | decide) (by decide) ?_
    exact lc_advice l E hX hbl hS hi hs hl hR k
  by_cases c_20 : v = nI 20
  · refine lv_tableIn (off := 596) (tgt := 628) hx hb dL_law_32 (by rw [c_20]; decide) (by rw [c_20]; decide) (by rw [c_20]; first | rfl | decide) (by decide) ?_
    exact lc_party l E hX hbl hS hi hs hl hR k
  by_cases c_21 : v = nI 21
  · refine lv_tableIn (off := 629) (tgt := 661) hx hb dL_law_32 (by rw [c_21]; decide) (by rw [c_21]; decide) (by rw [c_21]; first | rfl | decide) (by decide) ?_
    exact lc_fairness l E hX hbl hS hi hs hl hR k
  by_cases c_22 : v = nI 22
  · refine lv_tableIn (off := 642) (tgt := 674) hx hb dL_law_32 (by rw [c_22]; decide) (by rw [c_22]; decide) (by rw [c_22]; first | rfl | decide) (by decide) ?_
    exact lc_count l E hX hbl hS hi hs hl hR k
  refine lv_tableOut (tgt := 697) hx hb dL_law_32 (sw_out (n := 22) (by decide) (fun k hk => by rcases (show k = 0 ∨ k = 1 ∨ k = 2 ∨ k = 3 ∨ k = 4 ∨ k = 5 ∨ k = 6 ∨ k = 7 ∨ k = 8 ∨ k = 9 ∨ k = 10 ∨ k = 11 ∨ k = 12 ∨ k = 13 ∨ k = 14 ∨ k = 15 ∨ k = 16 ∨ k = 17 ∨ k = 18 ∨ k = 19 ∨ k = 20 ∨ k = 21 ∨ k = 22 by omega) with rfl | rfl | rfl | rfl | rfl | rfl | rfl | rfl | rfl | rfl | rfl | rfl | rfl | rfl | rfl | rfl | rfl | rfl | rfl | rfl | rfl | rfl | rfl <;> assumption)) (by decide) ?_
  exact k ar fd H locs hR hs
