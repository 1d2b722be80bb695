set_option maxHeartbeats 4000000 in
set_option maxRecDepth 100000 in
theorem lc_setVotes {p : Program} {e : Env} {s : State} {m : MethodId} {below : List Frame} {meth : Method} {c : Code} (l : Launch) {b nS : Nat} {xs : Nat → Int32} {x : CT} {Q : State → Prop} (E : EV p room_1 s m #[Value.ref b] meth c cL_law 4 RL (some .boolean) 110 2802 (fun q => s.heap.size ≤ q) x) (hX : va_X b nS xs s s.heap) (hbl : b < s.heap.size) (hS : nS ≤ 2048) {i : Nat} (hi : i + 4 ≤ nS) {ar fd : AR} {H : Heap} {locs : List Loc} {ls : Array Slot} (hs : ST x (fun q => s.heap.size ≤ q) s.heap ar fd H locs) (hl : lv_has ls 4 [(3, .int (nI i)), (2, .ref (xa x 102)), (1, .ref (xa x 0)), (0, .ref b)]) (hR : RRE ar fd) (k : ∀ (ar fd : AR) (H : Heap) (locs : List Loc), RRE ar fd → ST x (fun q => s.heap.size ≤ q) s.heap ar fd H locs → W p l e room_1 s m #[Value.ref b] below meth c H locs 110 2802 Q (F0 m 697 ls [])) : W p l e room_1 s m #[Value.ref b] below meth c H locs 110 2802 Q (F0 m 140 ls []) := by
  obtain ⟨w, f, o, z, n, hRR⟩ := hR
  obtain ⟨⟨hci, hM, hstg, hst⟩, hL, ⟨hz, hn, hz4, hn60⟩, hBw, hBf⟩ := RR_all hRR
  have hx := E.1
  have hb := E.2.1
  have hbA : ¬ (fun q => s.heap.size ≤ q) b := Nat.not_le.mpr hbl
  refine lv_aload_n hx hb dL_law_140 rfl (lv_at hl 2 rfl) ?_
  refine lv_aload_n hx hb dL_law_141 rfl (lv_at hl 3 rfl) ?_
  refine lv_iload_n hx hb dL_law_142 rfl (lv_at hl 0 rfl) ?_
  refine lv_iconst (v := nI 1) hx hb dL_law_143 (by decide) ?_
  refine lv_iadd hx hb dL_law_144 ?_
  refine tp (b := nI (i + 1)) (nI_add _ _) ?_
  refine va_sld hx hb hX hbl hbA hs.2 (vp_in_nI (show i + 1 < nS by omega) (by omega)) dL_law_145 ?_
  refine lv_aload_n hx hb dL_law_146 rfl (lv_at hl 3 rfl) ?_
  refine lv_iload_n hx hb dL_law_147 rfl (lv_at hl 0 rfl) ?_
  refine lv_iconst (v := nI 2) hx hb dL_law_148 (by decide) ?_
  refine lv_iadd hx hb dL_law_149 ?_
  refine tp (b := nI (i + 2)) (nI_add _ _) ?_
  refine va_sld hx hb hX hbl hbA hs.2 (vp_in_nI (show i + 2 < nS by omega) (by omega)) dL_law_150 ?_
  refine lv_aload_n hx hb dL_law_151 rfl (lv_at hl 3 rfl) ?_
  refine lv_iload_n hx hb dL_law_152 rfl (lv_at hl 0 rfl) ?_
  refine lv_iconst (v := nI 3) hx hb dL_law_153 (by decide) ?_
  refine lv_iadd hx hb dL_law_154 ?_
  refine tp (b := nI (i + 3)) (nI_add _ _) ?_
  refine va_sld hx hb hX hbl hbA hs.2 (vp_in_nI (show i + 3 < nS by omega) (by omega)) dL_law_155 ?_
  refine zVI E hs lkL_13 [] (c_X6_setVotes l x ar fd w f o z n hci (xs (nI (i + 1)).toNatClampNeg) (xs (nI (i + 2)).toNatClampNeg) (xs (nI (i + 3)).toNatClampNeg)) (by decide) (sh5 rfl) rfl ⟨Nat.le_of_ble_eq_true rfl, Nat.le_of_ble_eq_true rfl⟩ rfl hl.1 (Nat.le_of_ble_eq_true rfl) rfl dL_law_156 (fun r1 ar1 fd1 H locs hp1 hs => ?_)
  have hh : ∀ k, 101 < k → ar1 k = ar k ∧ fd1 k = fd k := fun k hk => by have q := hi_setVotes ar fd w f o z n (xs (nI (i + 1)).toNatClampNeg) (xs (nI (i + 2)).toNatClampNeg) (xs (nI (i + 3)).toNatClampNeg) k hk; rw [← hp1] at q; exact q
  have hM1 : ME (ar1 103) ar (fd 1) w f := by rw [(hh 103 (by decide)).1]; exact hM
  have hz1 : fd1 102 3 = nI z := by rw [(hh 102 (by decide)).2]; exact hz
  have hn1 : fd1 102 6 = nI n := by rw [(hh 102 (by decide)).2]; exact hn
  refine lv_aload_n hx hb dL_law_159 rfl (lv_at hl 1 rfl) ?_
  refine lv_aload_n hx hb dL_law_160 rfl (lv_at hl 3 rfl) ?_
  refine lv_iload_n hx hb dL_law_161 rfl (lv_at hl 0 rfl) ?_
  refine lv_iconst (v := nI 1) hx hb dL_law_162 (by decide) ?_
  refine lv_iadd hx hb dL_law_163 ?_
  refine tp (b := nI (i + 1)) (nI_add _ _) ?_
  refine va_sld hx hb hX hbl hbA hs.2 (vp_in_nI (show i + 1 < nS by omega) (by omega)) dL_law_164 ?_
  refine lv_aload_n hx hb dL_law_165 rfl (lv_at hl 3 rfl) ?_
  refine lv_iload_n hx hb dL_law_166 rfl (lv_at hl 0 rfl) ?_
  refine lv_iconst (v := nI 2) hx hb dL_law_167 (by decide) ?_
  refine lv_iadd hx hb dL_law_168 ?_
  refine tp (b := nI (i + 2)) (nI_add _ _) ?_
  refine va_sld hx hb hX hbl hbA hs.2 (vp_in_nI (show i + 2 < nS by omega) (by omega)) dL_law_169 ?_
  refine lv_aload_n hx hb dL_law_170 rfl (lv_at hl 3 rfl) ?_
  refine lv_iload_n hx hb dL_law_171 rfl (lv_at hl 0 rfl) ?_
  refine lv_iconst (v := nI 3) hx hb dL_law_172 (by decide) ?_
  refine lv_iadd hx hb dL_law_173 ?_
  refine tp (b := nI (i + 3)) (nI_add _ _) ?_
  refine va_sld hx hb hX hbl hbA hs.2 (vp_in_nI (show i + 3 < nS by omega) (by omega)) dL_law_174 ?_
  refine zVI E hs lkL_17 [.int r1] (c_X7_setVotes l x ar1 fd1 ar fd w f hM1 z hz1 hz4 (xs (nI (i + 1)).toNatClampNeg) (xs (nI (i + 2)).toNatClampNeg) (xs (nI (i + 3)).toNatClampNeg)) (by decide) (sh6 rfl) rfl ⟨Nat.le_of_ble_eq_true rfl, Nat.le_of_ble_eq_true rfl⟩ rfl hl.1 (Nat.le_of_ble_eq_true rfl) rfl dL_law_175 (fun r2 ar3 fd3 H locs hp2 hs => ?_)
  have kk : (sq_setVotes ar1 fd1 ar fd w f z (xs (nI (i + 1)).toNatClampNeg) (xs (nI (i + 2)).toNatClampNeg) (xs (nI (i + 3)).toNatClampNeg)).1 = r1 ∧ ∃ w2 f2 o2 z2 n2, RR (sq_setVotes ar1 fd1 ar fd w f z (xs (nI (i + 1)).toNatClampNeg) (xs (nI (i + 2)).toNatClampNeg) (xs (nI (i + 3)).toNatClampNeg)).2.1 (sq_setVotes ar1 fd1 ar fd w f z (xs (nI (i + 1)).toNatClampNeg) (xs (nI (i + 2)).toNatClampNeg) (xs (nI (i + 3)).toNatClampNeg)).2.2 w2 f2 o2 z2 n2 := k_setVotes hRR (xs (nI (i + 1)).toNatClampNeg) (xs (nI (i + 2)).toNatClampNeg) (xs (nI (i + 3)).toNatClampNeg) (c := (r1, ar1, fd1)) hp1
  rw [← hp2] at kk
  exact lv_icmp_eq (tgt := 697) hx hb dL_law_178 (by decide) (fun _ => k ar3 fd3 H locs kk.2 hs) (fun h => absurd kk.1.symm h)
set_option maxHeartbeats 4000000 in
set_option maxRecDepth 100000 in
theorem lc_begin {p : Program} {e : Env} {s : State} {m : MethodId} {below : List Frame} {meth : Method} {c : Code} (l : Launch) {b nS : Nat} {xs : Nat → Int32} {x : CT} {Q : State → Prop} (E : EV p room_1 s m #[Value.ref b] meth c cL_law 4 RL (some .boolean) 110 2802 (fun q => s.heap.size ≤ q) x) (hX : va_X b nS xs s s.heap) (hbl : b < s.heap.size) (hS : nS ≤ 2048) {i : Nat} (hi : i + 4 ≤ nS) {ar fd : AR} {H : Heap} {locs : List Loc} {ls : Array Slot} (hs : ST x (fun q => s.heap.size ≤ q) s.heap ar fd H locs) (hl : lv_has ls 4 [(3, .int (nI i)), (2, .ref (xa x 102)), (1, .ref (xa x 0)), (0, .ref b)]) (hR : RRE ar fd) (k : ∀ (ar fd : AR) (H : Heap) (locs : List Loc), RRE ar fd → ST x (fun q => s.heap.size ≤ q) s.heap ar fd H locs → W p l e room_1 s m #[Value.ref b] below meth c H locs 110 2802 Q (F0 m 697 ls [])) : W p l e room_1 s m #[Value.ref b] below meth c H locs 110 2802 Q (F0 m 183 ls []) := by
  obtain ⟨w, f, o, z, n, hRR⟩ := hR
  obtain ⟨⟨hci, hM, hstg, hst⟩, hL, ⟨hz, hn, hz4, hn60⟩, hBw, hBf⟩ := RR_all hRR
  have hx := E.1
  have hb := E.2.1
  have hbA : ¬ (fun q => s.heap.size ≤ q) b := Nat.not_le.mpr hbl
  refine lv_aload_n hx hb dL_law_183 rfl (lv_at hl 2 rfl) ?_
  refine lv_aload_n hx hb dL_law_184 rfl (lv_at hl 3 rfl) ?_
  refine lv_iload_n hx hb dL_law_185 rfl (lv_at hl 0 rfl) ?_
  refine lv_iconst (v := nI 1) hx hb dL_law_186 (by decide) ?_
  refine lv_iadd hx hb dL_law_187 ?_
  refine tp (b := nI (i + 1)) (nI_add _ _) ?_
  refine va_sld hx hb hX hbl hbA hs.2 (vp_in_nI (show i + 1 < nS by omega) (by omega)) dL_law_188 ?_
  refine zVI E hs lkL_18 [] (c_X6_begin l x ar fd w f o z n hci (xs (nI (i + 1)).toNatClampNeg)) (by decide) (sh5 rfl) rfl ⟨Nat.le_of_ble_eq_true rfl, Nat.le_of_ble_eq_true rfl⟩ rfl hl.1 (Nat.le_of_ble_eq_true rfl) rfl dL_law_189 (fun r1 ar1 fd1 H locs hp1 hs => ?_)
  have hh : ∀ k, 101 < k → ar1 k = ar k ∧ fd1 k = fd k := fun k hk => by have q := hi_begin ar fd w f o z n (xs (nI (i + 1)).toNatClampNeg) k hk; rw [← hp1] at q; exact q
  have hM1 : ME (ar1 103) ar (fd 1) w f := by rw [(hh 103 (by decide)).1]; exact hM
  have hz1 : fd1 102 3 = nI z := by rw [(hh 102 (by decide)).2]; exact hz
  have hn1 : fd1 102 6 = nI n := by rw [(hh 102 (by decide)).2]; exact hn
  refine lv_aload_n hx hb dL_law_192 rfl (lv_at hl 1 rfl) ?_
  refine lv_aload_n hx hb dL_law_193 rfl (lv_at hl 3 rfl) ?_
  refine lv_iload_n hx hb dL_law_194 rfl (lv_at hl 0 rfl) ?_
  refine lv_iconst (v := nI 1) hx hb dL_law_195 (by decide) ?_
  refine lv_iadd hx hb dL_law_196 ?_
  refine tp (b := nI (i + 1)) (nI_add _ _) ?_
  refine va_sld hx hb hX hbl hbA hs.2 (vp_in_nI (show i + 1 < nS by omega) (by omega)) dL_law_197 ?_
  refine zVI E hs lkL_22 [.int r1] (c_X7_begin l x ar1 fd1 ar fd w f hM1 z hz1 hz4 (xs (nI (i + 1)).toNatClampNeg)) (by decide) (sh6 rfl) rfl ⟨Nat.le_of_ble_eq_true rfl, Nat.le_of_ble_eq_true rfl⟩ rfl hl.1 (Nat.le_of_ble_eq_true rfl) rfl dL_law_198 (fun r2 ar3 fd3 H locs hp2 hs => ?_)
  have kk : (sq_begin ar1 fd1 ar fd w f z (xs (nI (i + 1)).toNatClampNeg)).1 = r1 ∧ ∃ w2 f2 o2 z2 n2, RR (sq_begin ar1 fd1 ar fd w f z (xs (nI (i + 1)).toNatClampNeg)).2.1 (sq_begin ar1 fd1 ar fd w f z (xs (nI (i + 1)).toNatClampNeg)).2.2 w2 f2 o2 z2 n2 := k_begin hRR (xs (nI (i + 1)).toNatClampNeg) (c := (r1, ar1, fd1)) hp1
  rw [← hp2] at kk
  exact lv_icmp_eq (tgt := 697) hx hb dL_law_201 (by decide) (fun _ => k ar3 fd3 H locs kk.2 hs) (fun h => absurd kk.1.symm h)
set_option maxHeartbeats 4000000 in
set_option maxRecDepth 100000 in
theorem lc_setTarget {p : Program} {e : Env} {s : State} {m : MethodId} {below : List Frame} {meth : Method} {c : Code} (l : Launch) {b nS : Nat} {xs : Nat → Int32} {x : CT} {Q : State → Prop} (E : EV p room_1 s m #[Value.ref b] meth c cL_law 4 RL (some .boolean) 110 2802 (fun q => s.heap.size ≤ q) x) (hX : va_X b nS xs s s.heap) (hbl : b < s.heap.size) (hS : nS ≤ 2048) {i : Nat} (hi : i + 4 ≤ nS) {ar fd : AR} {H : Heap} {locs : List Loc} {ls : Array Slot} (hs : ST x (fun q => s.heap.size ≤ q) s.heap ar fd H locs) (hl : lv_has ls 4 [(3, .int (nI i)), (2, .ref (xa x 102)), (1, .ref (xa x 0)), (0, .ref b)]) (hR : RRE ar fd) (k : ∀ (ar fd : AR) (H : Heap) (locs : List Loc), RRE ar fd → ST x (fun q => s.heap.size ≤ q) s.heap ar fd H locs → W p l e room_1 s m #[Value.ref b] below meth c H locs 110 2802 Q (F0 m 697 ls [])) : W p l e room_1 s m #[Value.ref b] below meth c H locs 110 2802 Q (F0 m 206 ls []) := by
  obtain ⟨w, f, o, z, n, hRR⟩ := hR
  obtain ⟨⟨hci, hM, hstg, hst⟩, hL, ⟨hz, hn, hz4, hn60⟩, hBw, hBf⟩ := RR_all hRR
  have hx := E.1
  have hb := E.2.1
  have hbA : ¬ (fun q => s.heap.size ≤ q) b := Nat.not_le.mpr hbl
  refine lv_aload_n hx hb dL_law_206 rfl (lv_at hl 2 rfl) ?_
  refine lv_aload_n hx hb dL_law_207 rfl (lv_at hl 3 rfl) ?_
  refine lv_iload_n hx hb dL_law_208 rfl (lv_at hl 0 rfl) ?_
  refine lv_iconst (v := nI 1) hx hb dL_law_209 (by decide) ?_
  refine lv_iadd hx hb dL_law_210 ?_
  refine tp (b := nI (i + 1)) (nI_add _ _) ?_
  refine va_sld hx hb hX hbl hbA hs.2 (vp_in_nI (show i + 1 < nS by omega) (by omega)) dL_law_211 ?_
  refine lv_aload_n hx hb dL_law_212 rfl (lv_at hl 3 rfl) ?_
  refine lv_iload_n hx hb dL_law_213 rfl (lv_at hl 0 rfl) ?_
  refine lv_iconst (v := nI 2) hx hb dL_law_214 (by decide) ?_
  refine lv_iadd hx hb dL_law_215 ?_
  refine tp (b := nI (i + 2)) (nI_add _ _) ?_
  refine va_sld hx hb hX hbl hbA hs.2 (vp_in_nI (show i + 2 < nS by omega) (by omega)) dL_law_216 ?_
  refine zVI E hs lkL_23 [] (c_X6_setTarget l x ar fd w f o z n hci (xs (nI (i + 1)).toNatClampNeg) (xs (nI (i + 2)).toNatClampNeg)) (by decide) (sh5 rfl) rfl ⟨Nat.le_of_ble_eq_true rfl, Nat.le_of_ble_eq_true rfl⟩ rfl hl.1 (Nat.le_of_ble_eq_true rfl) rfl dL_law_217 (fun r1 ar1 fd1 H locs hp1 hs => ?_)
  have hh : ∀ k, 101 < k → ar1 k = ar k ∧ fd1 k = fd k := fun k hk => by have q := hi_setTarget ar fd w f o z n (xs (nI (i + 1)).toNatClampNeg) (xs (nI (i + 2)).toNatClampNeg) k hk; rw [← hp1] at q; exact q
  have hM1 : ME (ar1 103) ar (fd 1) w f := by rw [(hh 103 (by decide)).1]; exact hM
  have hz1 : fd1 102 3 = nI z := by rw [(hh 102 (by decide)).2]; exact hz
  have hn1 : fd1 102 6 = nI n := by rw [(hh 102 (by decide)).2]; exact hn
  refine lv_aload_n hx hb dL_law_220 rfl (lv_at hl 1 rfl) ?_
  refine lv_aload_n hx hb dL_law_221 rfl (lv_at hl 3 rfl) ?_
  refine lv_iload_n hx hb dL_law_222 rfl (lv_at hl 0 rfl) ?_
  refine lv_iconst (v := nI 1) hx hb dL_law_223 (by decide) ?_
  refine lv_iadd hx hb dL_law_224 ?_
  refine tp (b := nI (i + 1)) (nI_add _ _) ?_
  refine va_sld hx hb hX hbl hbA hs.2 (vp_in_nI (show i + 1 < nS by omega) (by omega)) dL_law_225 ?_
  refine lv_aload_n hx hb dL_law_226 rfl (lv_at hl 3 rfl) ?_
  refine lv_iload_n hx hb dL_law_227 rfl (lv_at hl 0 rfl) ?_
  refine lv_iconst (v := nI 2) hx hb dL_law_228 (by decide) ?_
  refine lv_iadd hx hb dL_law_229 ?_
  refine tp (b := nI (i + 2)) (nI_add _ _) ?_
  refine va_sld hx hb hX hbl hbA hs.2 (vp_in_nI (show i + 2 < nS by omega) (by omega)) dL_law_230 ?_
  refine zVI E hs lkL_27 [.int r1] (c_X7_setTarget l x ar1 fd1 ar fd w f hM1 z hz1 hz4 (xs (nI (i + 1)).toNatClampNeg) (xs (nI (i + 2)).toNatClampNeg)) (by decide) (sh6 rfl) rfl ⟨Nat.le_of_ble_eq_true rfl, Nat.le_of_ble_eq_true rfl⟩ rfl hl.1 (Nat.le_of_ble_eq_true rfl) rfl dL_law_231 (fun r2 ar3 fd3 H locs hp2 hs => ?_)
  have kk : (sq_setTarget ar1 fd1 ar fd w f z (xs (nI (i + 1)).toNatClampNeg) (xs (nI (i + 2)).toNatClampNeg)).1 = r1 ∧ ∃ w2 f2 o2 z2 n2, RR (sq_setTarget ar1 fd1 ar fd w f z (xs (nI (i + 1)).toNatClampNeg) (xs (nI (i + 2)).toNatClampNeg)).2.1 (sq_setTarget ar1 fd1 ar fd w f z (xs (nI (i + 1)).toNatClampNeg) (xs (nI (i + 2)).toNatClampNeg)).2.2 w2 f2 o2 z2 n2 := k_setTarget hRR (xs (nI (i + 1)).toNatClampNeg) (xs (nI (i + 2)).toNatClampNeg) (c := (r1, ar1, fd1)) hp1
  rw [← hp2] at kk
  exact lv_icmp_eq (tgt := 697) hx hb dL_law_234 (by decide) (fun _ => k ar3 fd3 H locs kk.2 hs) (fun h => absurd kk.1.symm h)
set_option maxHeartbeats 4000000 in
set_option maxRecDepth 100000 in
theorem lc_draft {p : Program} {e : Env} {s : State} {m : MethodId} {below : List Frame} {meth : Method} {c : Code} (l : Launch) {b nS : Nat} {xs : Nat → Int32} {x : CT} {Q : State → Prop} (E : EV p room_1 s m #[Value.ref b] meth c cL_law 4 RL (some .boolean) 110 2802 (fun q => s.heap.size ≤ q) x) (hX : va_X b nS xs s s.heap) (hbl : b < s.heap.size) (hS : nS ≤ 2048) {i : Nat} (hi : i + 4 ≤ nS) {ar fd : AR} {H : Heap} {locs : List Loc} {ls : Array Slot} (hs : ST x (fun q => s.heap.size ≤ q) s.heap ar fd H locs) (hl : lv_has ls 4 [(3, .int (nI i)), (2, .ref (xa x 102)), (1, .ref (xa x 0)), (0, .ref b)]) (hR : RRE ar fd) (k : ∀ (ar fd : AR) (H : Heap) (locs : List Loc), RRE ar fd → ST x (fun q => s.heap.size ≤ q) s.heap ar fd H locs → W p l e room_1 s m #[Value.ref b] below meth c H locs 110 2802 Q (F0 m 697 ls [])) : W p l e room_1 s m #[Value.ref b] below meth c H locs 110 2802 Q (F0 m 239 ls []) := by
  obtain ⟨w, f, o, z, n, hRR⟩ := hR
  obtain ⟨⟨hci, hM, hstg, hst⟩, hL, ⟨hz, hn, hz4, hn60⟩, hBw, hBf⟩ := RR_all hRR
  have hx := E.1
  have hb := E.2.1
  have hbA : ¬ (fun q => s.heap.size ≤ q) b := Nat.not_le.mpr hbl
  refine lv_aload_n hx hb dL_law_239 rfl (lv_at hl 2 rfl) ?_
  refine lv_aload_n hx hb dL_law_240 rfl (lv_at hl 3 rfl) ?_
  refine lv_iload_n hx hb dL_law_241 rfl (lv_at hl 0 rfl) ?_
  refine lv_iconst (v := nI 1) hx hb dL_law_242 (by decide) ?_
  refine lv_iadd hx hb dL_law_243 ?_
  refine tp (b := nI (i + 1)) (nI_add _ _) ?_
  refine va_sld hx hb hX hbl hbA hs.2 (vp_in_nI (show i + 1 < nS by omega) (by omega)) dL_law_244 ?_
  refine lv_aload_n hx hb dL_law_245 rfl (lv_at hl 3 rfl) ?_
  refine lv_iload_n hx hb dL_law_246 rfl (lv_at hl 0 rfl) ?_
  refine lv_iconst (v := nI 2) hx hb dL_law_247 (by decide) ?_
  refine lv_iadd hx hb dL_law_248 ?_
  refine tp (b := nI (i + 2)) (nI_add _ _) ?_
  refine va_sld hx hb hX hbl hbA hs.2 (vp_in_nI (show i + 2 < nS by omega) (by omega)) dL_law_249 ?_
  refine zVI E hs lkL_28 [] (c_X6_draft l x ar fd w f o z n hci (xs (nI (i + 1)).toNatClampNeg) (xs (nI (i + 2)).toNatClampNeg)) (by decide) (sh5 rfl) rfl ⟨Nat.le_of_ble_eq_true rfl, Nat.le_of_ble_eq_true rfl⟩ rfl hl.1 (Nat.le_of_ble_eq_true rfl) rfl dL_law_250 (fun r1 ar1 fd1 H locs hp1 hs => ?_)
  have hh : ∀ k, 101 < k → ar1 k = ar k ∧ fd1 k = fd k := fun k hk => by have q := hi_draft ar fd w f o z n (xs (nI (i + 1)).toNatClampNeg) (xs (nI (i + 2)).toNatClampNeg) k hk; rw [← hp1] at q; exact q
  have hM1 : ME (ar1 103) ar (fd 1) w f := by rw [(hh 103 (by decide)).1]; exact hM
  have hz1 : fd1 102 3 = nI z := by rw [(hh 102 (by decide)).2]; exact hz
  have hn1 : fd1 102 6 = nI n := by rw [(hh 102 (by decide)).2]; exact hn
  refine lv_aload_n hx hb dL_law_253 rfl (lv_at hl 1 rfl) ?_
  refine lv_aload_n hx hb dL_law_254 rfl (lv_at hl 3 rfl) ?_
  refine lv_iload_n hx hb dL_law_255 rfl (lv_at hl 0 rfl) ?_
  refine lv_iconst (v := nI 1) hx hb dL_law_256 (by decide) ?_
  refine lv_iadd hx hb dL_law_257 ?_
  refine tp (b := nI (i + 1)) (nI_add _ _) ?_
  refine va_sld hx hb hX hbl hbA hs.2 (vp_in_nI (show i + 1 < nS by omega) (by omega)) dL_law_258 ?_
  refine lv_aload_n hx hb dL_law_259 rfl (lv_at hl 3 rfl) ?_
  refine lv_iload_n hx hb dL_law_260 rfl (lv_at hl 0 rfl) ?_
  refine lv_iconst (v := nI 2) hx hb dL_law_261 (by decide) ?_
  refine lv_iadd hx hb dL_law_262 ?_
  refine tp (b := nI (i + 2)) (nI_add _ _) ?_
  refine va_sld hx hb hX hbl hbA hs.2 (vp_in_nI (show i + 2 < nS by omega) (by omega)) dL_law_263 ?_
  refine zVI E hs lkL_31 [.int r1] (c_X7_draft l x ar1 fd1 ar fd w f hM1 z hz1 hz4 (xs (nI (i + 1)).toNatClampNeg) (xs (nI (i + 2)).toNatClampNeg)) (by decide) (sh6 rfl) rfl ⟨Nat.le_of_ble_eq_true rfl, Nat.le_of_ble_eq_true rfl⟩ rfl hl.1 (Nat.le_of_ble_eq_true rfl) rfl dL_law_264 (fun r2 ar3 fd3 H locs hp2 hs => ?_)
  have kk : (sq_draft ar1 fd1 ar fd w f z (xs (nI (i + 1)).toNatClampNeg) (xs (nI (i + 2)).toNatClampNeg)).1 = r1 ∧ ∃ w2 f2 o2 z2 n2, RR (sq_draft ar1 fd1 ar fd w f z (xs (nI (i + 1)).toNatClampNeg) (xs (nI (i + 2)).toNatClampNeg)).2.1 (sq_draft ar1 fd1 ar fd w f z (xs (nI (i + 1)).toNatClampNeg) (xs (nI (i + 2)).toNatClampNeg)).2.2 w2 f2 o2 z2 n2 := k_draft hRR (xs (nI (i + 1)).toNatClampNeg) (xs (nI (i + 2)).toNatClampNeg) (c := (r1, ar1, fd1)) hp1
  rw [← hp2] at kk
  exact lv_icmp_eq (tgt := 697) hx hb dL_law_267 (by decide) (fun _ => k ar3 fd3 H locs kk.2 hs) (fun h => absurd kk.1.symm h)
set_option maxHeartbeats 4000000 in
set_option maxRecDepth 100000 in
theorem lc_trade {p : Program} {e : Env} {s : State} {m : MethodId} {below : List Frame} {meth : Method} {c : Code} (l : Launch) {b nS : Nat} {xs : Nat → Int32} {x : CT} {Q : State → Prop} (E : EV p room_1 s m #[Value.ref b] meth c cL_law 4 RL (some .boolean) 110 2802 (fun q => s.heap.size ≤ q) x) (hX : va_X b nS xs s s.heap) (hbl : b < s.heap.size) (hS : nS ≤ 2048) {i : Nat} (hi : i + 4 ≤ nS) {ar fd : AR} {H : Heap} {locs : List Loc} {ls : Array Slot} (hs : ST x (fun q => s.heap.size ≤ q) s.heap ar fd H locs) (hl : lv_has ls 4 [(3, .int (nI i)), (2, .ref (xa x 102)), (1, .ref (xa x 0)), (0, .ref b)]) (hR : RRE ar fd) (k : ∀ (ar fd : AR) (H : Heap) (locs : List Loc), RRE ar fd → ST x (fun q => s.heap.size ≤ q) s.heap ar fd H locs → W p l e room_1 s m #[Value.ref b] below meth c H locs 110 2802 Q (F0 m 697 ls [])) : W p l e room_1 s m #[Value.ref b] below meth c H locs 110 2802 Q (F0 m 272 ls []) := by
  obtain ⟨w, f, o, z, n, hRR⟩ := hR
  obtain ⟨⟨hci, hM, hstg, hst⟩, hL, ⟨hz, hn, hz4, hn60⟩, hBw, hBf⟩ := RR_all hRR
  have hx := E.1
  have hb := E.2.1
  have hbA : ¬ (fun q => s.heap.size ≤ q) b := Nat.not_le.mpr hbl
  refine lv_aload_n hx hb dL_law_272 rfl (lv_at hl 2 rfl) ?_
  refine lv_aload_n hx hb dL_law_273 rfl (lv_at hl 3 rfl) ?_
  refine lv_iload_n hx hb dL_law_274 rfl (lv_at hl 0 rfl) ?_
  refine lv_iconst (v := nI 1) hx hb dL_law_275 (by decide) ?_
  refine lv_iadd hx hb dL_law_276 ?_
  refine tp (b := nI (i + 1)) (nI_add _ _) ?_
  refine va_sld hx hb hX hbl hbA hs.2 (vp_in_nI (show i + 1 < nS by omega) (by omega)) dL_law_277 ?_
  refine lv_aload_n hx hb dL_law_278 rfl (lv_at hl 3 rfl) ?_
  refine lv_iload_n hx hb dL_law_279 rfl (lv_at hl 0 rfl) ?_
  refine lv_iconst (v := nI 2) hx hb dL_law_280 (by decide) ?_
  refine lv_iadd hx hb dL_law_281 ?_
  refine tp (b := nI (i + 2)) (nI_add _ _) ?_
  refine va_sld hx hb hX hbl hbA hs.2 (vp_in_nI (show i + 2 < nS by omega) (by omega)) dL_law_282 ?_
  refine zVI E hs lkL_32 [] (c_X6_trade l x ar fd w f o z n hci (xs (nI (i + 1)).toNatClampNeg) (xs (nI (i + 2)).toNatClampNeg)) (by decide) (sh5 rfl) rfl ⟨Nat.le_of_ble_eq_true rfl, Nat.le_of_ble_eq_true rfl⟩ rfl hl.1 (Nat.le_of_ble_eq_true rfl) rfl dL_law_283 (fun r1 ar1 fd1 H locs hp1 hs => ?_)
  obtain ⟨hp1, hJ1, hF1⟩ := hp1
  subst hF1
  have hh : ∀ k, 101 < k → ar1 k = ar k ∧ (sp_trade ar fd w f o z n (xs (nI (i + 1)).toNatClampNeg) (xs (nI (i + 2)).toNatClampNeg)).2.2 k = fd k := HI_J (hi_trade ar fd w f o z n (xs (nI (i + 1)).toNatClampNeg) (xs (nI (i + 2)).toNatClampNeg)) hJ1
  have hM1 : ME (ar1 103) ar (fd 1) w f := by rw [(hh 103 (by decide)).1]; exact hM
  have hz1 : (sp_trade ar fd w f o z n (xs (nI (i + 1)).toNatClampNeg) (xs (nI (i + 2)).toNatClampNeg)).2.2 102 3 = nI z := by rw [(hh 102 (by decide)).2]; exact hz
  have hn1 : (sp_trade ar fd w f o z n (xs (nI (i + 1)).toNatClampNeg) (xs (nI (i + 2)).toNatClampNeg)).2.2 102 6 = nI n := by rw [(hh 102 (by decide)).2]; exact hn
  refine lv_aload_n hx hb dL_law_286 rfl (lv_at hl 1 rfl) ?_
  refine lv_aload_n hx hb dL_law_287 rfl (lv_at hl 3 rfl) ?_
  refine lv_iload_n hx hb dL_law_288 rfl (lv_at hl 0 rfl) ?_
  refine lv_iconst (v := nI 1) hx hb dL_law_289 (by decide) ?_
  refine lv_iadd hx hb dL_law_290 ?_
  refine tp (b := nI (i + 1)) (nI_add _ _) ?_
  refine va_sld hx hb hX hbl hbA hs.2 (vp_in_nI (show i + 1 < nS by omega) (by omega)) dL_law_291 ?_
  refine lv_aload_n hx hb dL_law_292 rfl (lv_at hl 3 rfl) ?_
  refine lv_iload_n hx hb dL_law_293 rfl (lv_at hl 0 rfl) ?_
  refine lv_iconst (v := nI 2) hx hb dL_law_294 (by decide) ?_
  refine lv_iadd hx hb dL_law_295 ?_
  refine tp (b := nI (i + 2)) (nI_add _ _) ?_
  refine va_sld hx hb hX hbl hbA hs.2 (vp_in_nI (show i + 2 < nS by omega) (by omega)) dL_law_296 ?_
  refine zVI E hs lkL_35 [.int r1] (c_X7_trade l x ar1 (sp_trade ar fd w f o z n (xs (nI (i + 1)).toNatClampNeg) (xs (nI (i + 2)).toNatClampNeg)).2.2 ar fd w f hM1 z hz1 hz4 (xs (nI (i + 1)).toNatClampNeg) (xs (nI (i + 2)).toNatClampNeg)) (by decide) (sh6 rfl) rfl ⟨Nat.le_of_ble_eq_true rfl, Nat.le_of_ble_eq_true rfl⟩ rfl hl.1 (Nat.le_of_ble_eq_true rfl) rfl dL_law_297 (fun r2 ar3 fd3 H locs hp2 hs => ?_)
  obtain ⟨hp2, hM2, hF2⟩ := hp2
  have kk := k_trade hRR (xs (nI (i + 1)).toNatClampNeg) (xs (nI (i + 2)).toNatClampNeg) (c := (sp_trade ar fd w f o z n (xs (nI (i + 1)).toNatClampNeg) (xs (nI (i + 2)).toNatClampNeg))) rfl hJ1 hM2
  rw [← hF2] at kk
  exact lv_icmp_eq (tgt := 697) hx hb dL_law_300 (by decide) (fun _ => k ar3 fd3 H locs kk.2 hs) (fun h => absurd (hp2.trans (kk.1.trans hp1.symm)).symm h)
set_option maxHeartbeats 4000000 in
set_option maxRecDepth 100000 in
theorem lc_snake {p : Program} {e : Env} {s : State} {m : MethodId} {below : List Frame} {meth : Method} {c : Code} (l : Launch) {b nS : Nat} {xs : Nat → Int32} {x : CT} {Q : State → Prop} (E : EV p room_1 s m #[Value.ref b] meth c cL_law 4 RL (some .boolean) 110 2802 (fun q => s.heap.size ≤ q) x) (hX : va_X b nS xs s s.heap) (hbl : b < s.heap.size) (hS : nS ≤ 2048) {i : Nat} (hi : i + 4 ≤ nS) {ar fd : AR} {H : Heap} {locs : List Loc} {ls : Array Slot} (hs : ST x (fun q => s.heap.size ≤ q) s.heap ar fd H locs) (hl : lv_has ls 4 [(3, .int (nI i)), (2, .ref (xa x 102)), (1, .ref (xa x 0)), (0, .ref b)]) (hR : RRE ar fd) (k : ∀ (ar fd : AR) (H : Heap) (locs : List Loc), RRE ar fd → ST x (fun q => s.heap.size ≤ q) s.heap ar fd H locs → W p l e room_1 s m #[Value.ref b] below meth c H locs 110 2802 Q (F0 m 697 ls [])) : W p l e room_1 s m #[Value.ref b] below meth c H locs 110 2802 Q (F0 m 305 ls []) := by
  obtain ⟨w, f, o, z, n, hRR⟩ := hR
  obtain ⟨⟨hci, hM, hstg, hst⟩, hL, ⟨hz, hn, hz4, hn60⟩, hBw, hBf⟩ := RR_all hRR
  have hx := E.1
  have hb := E.2.1
  have hbA : ¬ (fun q => s.heap.size ≤ q) b := Nat.not_le.mpr hbl
  refine lv_aload_n hx hb dL_law_305 rfl (lv_at hl 2 rfl) ?_
  refine lv_aload_n hx hb dL_law_306 rfl (lv_at hl 3 rfl) ?_
  refine lv_iload_n hx hb dL_law_307 rfl (lv_at hl 0 rfl) ?_
  refine lv_iconst (v := nI 1) hx hb dL_law_308 (by decide) ?_
  refine lv_iadd hx hb dL_law_309 ?_
  refine tp (b := nI (i + 1)) (nI_add _ _) ?_
  refine va_sld hx hb hX hbl hbA hs.2 (vp_in_nI (show i + 1 < nS by omega) (by omega)) dL_law_310 ?_
  refine lv_if_eq (tgt := 318) hx hb dL_law_311 (by decide) (fun c1 => ?_) (fun c1 => ?_)
  · refine lv_iconst (v := nI 0) hx hb dL_law_318 (by decide) ?_
    refine zVI E hs lkL_36 [] (c_X6_snake l x ar fd w f o z n hci (nI 0)) (by decide) (sh5 rfl) rfl ⟨Nat.le_of_ble_eq_true rfl, Nat.le_of_ble_eq_true rfl⟩ rfl hl.1 (Nat.le_of_ble_eq_true rfl) rfl dL_law_319 (fun r1 ar1 fd1 H locs hp1 hs => ?_)
    obtain ⟨hp1, hJ1, hF1⟩ := hp1
    subst hF1
    have hh : ∀ k, 101 < k → ar1 k = ar k ∧ (sp_snake ar fd w f o z n (nI 0)).2.2 k = fd k := HI_J (hi_snake ar fd w f o z n (nI 0)) hJ1
    have hM1 : ME (ar1 103) ar (fd 1) w f := by rw [(hh 103 (by decide)).1]; exact hM
    have hz1 : (sp_snake ar fd w f o z n (nI 0)).2.2 102 3 = nI z := by rw [(hh 102 (by decide)).2]; exact hz
    have hn1 : (sp_snake ar fd w f o z n (nI 0)).2.2 102 6 = nI n := by rw [(hh 102 (by decide)).2]; exact hn
    refine lv_aload_n hx hb dL_law_322 rfl (lv_at hl 1 rfl) ?_
    refine lv_aload_n hx hb dL_law_323 rfl (lv_at hl 3 rfl) ?_
    refine lv_iload_n hx hb dL_law_324 rfl (lv_at hl 0 rfl) ?_
    refine lv_iconst (v := nI 1) hx hb dL_law_325 (by decide) ?_
    refine lv_iadd hx hb dL_law_326 ?_
    refine tp (b := nI (i + 1)) (nI_add _ _) ?_
    refine va_sld hx hb hX hbl hbA hs.2 (vp_in_nI (show i + 1 < nS by omega) (by omega)) dL_law_327 ?_
    refine lv_if_eq (tgt := 335) hx hb dL_law_328 (by decide) (fun _ => ?_) (fun h => absurd c1 h)
    refine lv_iconst (v := nI 0) hx hb dL_law_335 (by decide) ?_
    refine zVI E hs lkL_40 [.int r1] (c_X7_snake l x ar1 (sp_snake ar fd w f o z n (nI 0)).2.2 ar fd w f hM1 z hz1 hz4 (nI 0)) (by decide) (sh6 rfl) rfl ⟨Nat.le_of_ble_eq_true rfl, Nat.le_of_ble_eq_true rfl⟩ rfl hl.1 (Nat.le_of_ble_eq_true rfl) rfl dL_law_336 (fun r2 ar3 fd3 H locs hp2 hs => ?_)
    have kk := k_snake hRR (nI 0) (c := (sp_snake ar fd w f o z n (nI 0))) rfl hJ1 hp2
    exact lv_icmp_eq (tgt := 697) hx hb dL_law_339 (by decide) (fun _ => k ar3 fd3 H locs kk.2 hs) (fun h => absurd (kk.1.trans hp1.symm).symm h)
  · refine lv_iconst (v := nI 1) hx hb dL_law_314 (by decide) ?_
    refine lv_goto (tgt := 319) hx hb dL_law_315 (by decide) ?_
    refine zVI E hs lkL_36 [] (c_X6_snake l x ar fd w f o z n hci (nI 1)) (by decide) (sh5 rfl) rfl ⟨Nat.le_of_ble_eq_true rfl, Nat.le_of_ble_eq_true rfl⟩ rfl hl.1 (Nat.le_of_ble_eq_true rfl) rfl dL_law_319 (fun r1 ar1 fd1 H locs hp1 hs => ?_)
    obtain ⟨hp1, hJ1, hF1⟩ := hp1
    subst hF1
    have hh : ∀ k, 101 < k → ar1 k = ar k ∧ (sp_snake ar fd w f o z n (nI 1)).2.2 k = fd k := HI_J (hi_snake ar fd w f o z n (nI 1)) hJ1
    have hM1 : ME (ar1 103) ar (fd 1) w f := by rw [(hh 103 (by decide)).1]; exact hM
    have hz1 : (sp_snake ar fd w f o z n (nI 1)).2.2 102 3 = nI z := by rw [(hh 102 (by decide)).2]; exact hz
    have hn1 : (sp_snake ar fd w f o z n (nI 1)).2.2 102 6 = nI n := by rw [(hh 102 (by decide)).2]; exact hn
    refine lv_aload_n hx hb dL_law_322 rfl (lv_at hl 1 rfl) ?_
    refine lv_aload_n hx hb dL_law_323 rfl (lv_at hl 3 rfl) ?_
    refine lv_iload_n hx hb dL_law_324 rfl (lv_at hl 0 rfl) ?_
    refine lv_iconst (v := nI 1) hx hb dL_law_325 (by decide) ?_
    refine lv_iadd hx hb dL_law_326 ?_
    refine tp (b := nI (i + 1)) (nI_add _ _) ?_
    refine va_sld hx hb hX hbl hbA hs.2 (vp_in_nI (show i + 1 < nS by omega) (by omega)) dL_law_327 ?_
    refine lv_if_eq (tgt := 335) hx hb dL_law_328 (by decide) (fun h => absurd h c1) (fun _ => ?_)
    refine lv_iconst (v := nI 1) hx hb dL_law_331 (by decide) ?_
    refine lv_goto (tgt := 336) hx hb dL_law_332 (by decide) ?_
    refine zVI E hs lkL_40 [.int r1] (c_X7_snake l x ar1 (sp_snake ar fd w f o z n (nI 1)).2.2 ar fd w f hM1 z hz1 hz4 (nI 1)) (by decide) (sh6 rfl) rfl ⟨Nat.le_of_ble_eq_true rfl, Nat.le_of_ble_eq_true rfl⟩ rfl hl.1 (Nat.le_of_ble_eq_true rfl) rfl dL_law_336 (fun r2 ar3 fd3 H locs hp2 hs => ?_)
    have kk := k_snake hRR (nI 1) (c := (sp_snake ar fd w f o z n (nI 1))) rfl hJ1 hp2
    exact lv_icmp_eq (tgt := 697) hx hb dL_law_339 (by decide) (fun _ => k ar3 fd3 H locs kk.2 hs) (fun h => absurd (kk.1.trans hp1.symm).symm h)
set_option maxHeartbeats 4000000 in
set_option maxRecDepth 100000 in
theorem lc_adopt {p : Program} {e : Env} {s : State} {m : MethodId} {below : List Frame} {meth : Method} {c : Code} (l : Launch) {b nS : Nat} {xs : Nat → Int32} {x : CT} {Q : State → Prop} (E : EV p room_1 s m #[Value.ref b] meth c cL_law 4 RL (some .boolean) 110 2802 (fun q => s.heap.size ≤ q) x) (hX : va_X b nS xs s s.heap) (hbl : b < s.heap.size) (hS : nS ≤ 2048) {i : Nat} (hi : i + 4 ≤ nS) {ar fd : AR} {H : Heap} {locs : List Loc} {ls : Array Slot} (hs : ST x (fun q => s.heap.size ≤ q) s.heap ar fd H locs) (hl : lv_has ls 4 [(3, .int (nI i)), (2, .ref (xa x 102)), (1, .ref (xa x 0)), (0, .ref b)]) (hR : RRE ar fd) (k : ∀ (ar fd : AR) (H : Heap) (locs : List Loc), RRE ar fd → ST x (fun q => s.heap.size ≤ q) s.heap ar fd H locs → W p l e room_1 s m #[Value.ref b] below meth c H locs 110 2802 Q (F0 m 697 ls [])) : W p l e room_1 s m #[Value.ref b] below meth c H locs 110 2802 Q (F0 m 344 ls []) := by
  obtain ⟨w, f, o, z, n, hRR⟩ := hR
  obtain ⟨⟨hci, hM, hstg, hst⟩, hL, ⟨hz, hn, hz4, hn60⟩, hBw, hBf⟩ := RR_all hRR
  have hx := E.1
  have hb := E.2.1
  have hbA : ¬ (fun q => s.heap.size ≤ q) b := Nat.not_le.mpr hbl
  refine lv_aload_n hx hb dL_law_344 rfl (lv_at hl 2 rfl) ?_
  refine zVI E hs lkL_41 [] (c_X6_adopt l x ar fd w f o z n hci) (by decide) (sh5 rfl) rfl ⟨Nat.le_of_ble_eq_true rfl, Nat.le_of_ble_eq_true rfl⟩ rfl hl.1 (Nat.le_of_ble_eq_true rfl) rfl dL_law_345 (fun r1 ar1 fd1 H locs hp1 hs => ?_)
  have hh : ∀ k, 101 < k → ar1 k = ar k ∧ fd1 k = fd k := fun k hk => by have q := hi_adopt ar fd w f o z n k hk; rw [← hp1] at q; exact q
  have hM1 : ME (ar1 103) ar (fd 1) w f := by rw [(hh 103 (by decide)).1]; exact hM
  have hz1 : fd1 102 3 = nI z := by rw [(hh 102 (by decide)).2]; exact hz
  have hn1 : fd1 102 6 = nI n := by rw [(hh 102 (by decide)).2]; exact hn
  have hL1 : fd 1 10 = 0 → (∀ c, c < 36 → ar1 103 (151 + c) = ar 11 c) ∧ (ar1 103 78 = 0 ↔ f = 0) := by rw [(hh 103 (by decide)).1]; exact hL
  refine lv_aload_n hx hb dL_law_348 rfl (lv_at hl 1 rfl) ?_
  refine zVI E hs lkL_45 [.int r1] (c_X7_adopt l x ar1 fd1 ar fd w f hM1 z hz1 hz4 hL1) (by decide) (sh6 rfl) rfl ⟨Nat.le_of_ble_eq_true rfl, Nat.le_of_ble_eq_true rfl⟩ rfl hl.1 (Nat.le_of_ble_eq_true rfl) rfl dL_law_349 (fun r2 ar3 fd3 H locs hp2 hs => ?_)
  have kk := k_adopt hRR  (c := (r1, ar1, fd1)) hp1 hp2
  exact lv_icmp_eq (tgt := 697) hx hb dL_law_352 (by decide) (fun _ => k ar3 fd3 H locs kk.2 hs) (fun h => absurd kk.1.symm h)
set_option maxHeartbeats 4000000 in
set_option maxRecDepth 100000 in
theorem lc_propose {p : Program} {e : Env} {s : State} {m : MethodId} {below : List Frame} {meth : Method} {c : Code} (l : Launch) {b nS : Nat} {xs : Nat → Int32} {x : CT} {Q : State → Prop} (E : EV p room_1 s m #[Value.ref b] meth c cL_law 4 RL (some .boolean) 110 2802 (fun q => s.heap.size ≤ q) x) (hX : va_X b nS xs s s.heap) (hbl : b < s.heap.size) (hS : nS ≤ 2048) {i : Nat} (hi : i + 4 ≤ nS) {ar fd : AR} {H : Heap} {locs : List Loc} {ls : Array Slot} (hs : ST x (fun q => s.heap.size ≤ q) s.heap ar fd H locs) (hl : lv_has ls 4 [(3, .int (nI i)), (2, .ref (xa x 102)), (1, .ref (xa x 0)), (0, .ref b)]) (hR : RRE ar fd) (k : ∀ (ar fd : AR) (H : Heap) (locs : List Loc), RRE ar fd → ST x (fun q => s.heap.size ≤ q) s.heap ar fd H locs → W p l e room_1 s m #[Value.ref b] below meth c H locs 110 2802 Q (F0 m 697 ls [])) : W p l e room_1 s m #[Value.ref b] below meth c H locs 110 2802 Q (F0 m 357 ls []) := by
  obtain ⟨w, f, o, z, n, hRR⟩ := hR
  obtain ⟨⟨hci, hM, hstg, hst⟩, hL, ⟨hz, hn, hz4, hn60⟩, hBw, hBf⟩ := RR_all hRR
  have hx := E.1
  have hb := E.2.1
  have hbA : ¬ (fun q => s.heap.size ≤ q) b := Nat.not_le.mpr hbl
  refine lv_aload_n hx hb dL_law_357 rfl (lv_at hl 2 rfl) ?_
  refine zVI E hs lkL_46 [] (c_X6_propose l x ar fd w f o z n hci) (by decide) (sh5 rfl) rfl ⟨Nat.le_of_ble_eq_true rfl, Nat.le_of_ble_eq_true rfl⟩ rfl hl.1 (Nat.le_of_ble_eq_true rfl) rfl dL_law_358 (fun r1 ar1 fd1 H locs hp1 hs => ?_)
  obtain ⟨hp1, hJ1, hF1⟩ := hp1
  subst hF1
  have hh : ∀ k, 101 < k → ar1 k = ar k ∧ (sp_propose ar fd w f o z n).2.2 k = fd k := HI_J (hi_propose ar fd w f o z n) hJ1
  have hM1 : ME (ar1 103) ar (fd 1) w f := by rw [(hh 103 (by decide)).1]; exact hM
  have hz1 : (sp_propose ar fd w f o z n).2.2 102 3 = nI z := by rw [(hh 102 (by decide)).2]; exact hz
  have hn1 : (sp_propose ar fd w f o z n).2.2 102 6 = nI n := by rw [(hh 102 (by decide)).2]; exact hn
  refine lv_aload_n hx hb dL_law_361 rfl (lv_at hl 1 rfl) ?_
  refine zVI E hs lkL_49 [.int r1] (c_X7_propose l x ar1 (sp_propose ar fd w f o z n).2.2 ar fd w f hM1 z hz1 hz4) (by decide) (sh6 rfl) rfl ⟨Nat.le_of_ble_eq_true rfl, Nat.le_of_ble_eq_true rfl⟩ rfl hl.1 (Nat.le_of_ble_eq_true rfl) rfl dL_law_362 (fun r2 ar3 fd3 H locs hp2 hs => ?_)
  have kk := k_propose hRR (c := (sp_propose ar fd w f o z n)) rfl hJ1 hp2
  exact lv_icmp_eq (tgt := 697) hx hb dL_law_365 (by decide) (fun _ => k ar3 fd3 H locs kk.2 hs) (fun h => absurd (kk.1.trans hp1.symm).symm h)
set_option maxHeartbeats 4000000 in
set_option maxRecDepth 100000 in
theorem lc_freeze {p : Program} {e : Env} {s : State} {m : MethodId} {below : List Frame} {meth : Method} {c : Code} (l : Launch) {b nS : Nat} {xs : Nat → Int32} {x : CT} {Q : State → Prop} (E : EV p room_1 s m #[Value.ref b] meth c cL_law 4 RL (some .boolean) 110 2802 (fun q => s.heap.size ≤ q) x) (hX : va_X b nS xs s s.heap) (hbl : b < s.heap.size) (hS : nS ≤ 2048) {i : Nat} (hi : i + 4 ≤ nS) {ar fd : AR} {H : Heap} {locs : List Loc} {ls : Array Slot} (hs : ST x (fun q => s.heap.size ≤ q) s.heap ar fd H locs) (hl : lv_has ls 4 [(3, .int (nI i)), (2, .ref (xa x 102)), (1, .ref (xa x 0)), (0, .ref b)]) (hR : RRE ar fd) (k : ∀ (ar fd : AR) (H : Heap) (locs : List Loc), RRE ar fd → ST x (fun q => s.heap.size ≤ q) s.heap ar fd H locs → W p l e room_1 s m #[Value.ref b] below meth c H locs 110 2802 Q (F0 m 697 ls [])) : W p l e room_1 s m #[Value.ref b] below meth c H locs 110 2802 Q (F0 m 370 ls []) := by
  obtain ⟨w, f, o, z, n, hRR⟩ := hR
  obtain ⟨⟨hci, hM, hstg, hst⟩, hL, ⟨hz, hn, hz4, hn60⟩, hBw, hBf⟩ := RR_all hRR
  have hx := E.1
  have hb := E.2.1
  have hbA : ¬ (fun q => s.heap.size ≤ q) b := Nat.not_le.mpr hbl
  refine lv_aload_n hx hb dL_law_370 rfl (lv_at hl 2 rfl) ?_
  refine lv_aload_n hx hb dL_law_371 rfl (lv_at hl 3 rfl) ?_
  refine lv_iload_n hx hb dL_law_372 rfl (lv_at hl 0 rfl) ?_
  refine lv_iconst (v := nI 1) hx hb dL_law_373 (by decide) ?_
  refine lv_iadd hx hb dL_law_374 ?_
  refine tp (b := nI (i + 1)) (nI_add _ _) ?_
  refine va_sld hx hb hX hbl hbA hs.2 (vp_in_nI (show i + 1 < nS by omega) (by omega)) dL_law_375 ?_
  refine zVI E hs lkL_50 [] (c_X6_freeze l x ar fd w f o z n hci hst (xs (nI (i + 1)).toNatClampNeg)) (by decide) (sh5 rfl) rfl ⟨Nat.le_of_ble_eq_true rfl, Nat.le_of_ble_eq_true rfl⟩ rfl hl.1 (Nat.le_of_ble_eq_true rfl) rfl dL_law_376 (fun r1 ar1 fd1 H locs hp1 hs => ?_)
  have hh : ∀ k, 101 < k → ar1 k = ar k ∧ fd1 k = fd k := fun k hk => by have q := hi_freeze ar fd w f o z n (xs (nI (i + 1)).toNatClampNeg) k hk; rw [← hp1] at q; exact q
  have hM1 : ME (ar1 103) ar (fd 1) w f := by rw [(hh 103 (by decide)).1]; exact hM
  have hz1 : fd1 102 3 = nI z := by rw [(hh 102 (by decide)).2]; exact hz
  have hn1 : fd1 102 6 = nI n := by rw [(hh 102 (by decide)).2]; exact hn
  refine lv_aload_n hx hb dL_law_379 rfl (lv_at hl 1 rfl) ?_
  refine lv_aload_n hx hb dL_law_380 rfl (lv_at hl 3 rfl) ?_
  refine lv_iload_n hx hb dL_law_381 rfl (lv_at hl 0 rfl) ?_
  refine lv_iconst (v := nI 1) hx hb dL_law_382 (by decide) ?_
  refine lv_iadd hx hb dL_law_383 ?_
  refine tp (b := nI (i + 1)) (nI_add _ _) ?_
  refine va_sld hx hb hX hbl hbA hs.2 (vp_in_nI (show i + 1 < nS by omega) (by omega)) dL_law_384 ?_
  refine zVI E hs lkL_53 [.int r1] (c_X7_freeze l x ar1 fd1 ar fd w f hM1 z hz1 hz4 hst (xs (nI (i + 1)).toNatClampNeg)) (by decide) (sh6 rfl) rfl ⟨Nat.le_of_ble_eq_true rfl, Nat.le_of_ble_eq_true rfl⟩ rfl hl.1 (Nat.le_of_ble_eq_true rfl) rfl dL_law_385 (fun r2 ar3 fd3 H locs hp2 hs => ?_)
  have kk := k_freeze hRR (xs (nI (i + 1)).toNatClampNeg) (c := (r1, ar1, fd1)) hp1 hp2
  exact lv_icmp_eq (tgt := 697) hx hb dL_law_388 (by decide) (fun _ => k ar3 fd3 H locs kk.2 hs) (fun h => absurd kk.1.symm h)
set_option maxHeartbeats 4000000 in
set_option maxRecDepth 100000 in
theorem lc_type {p : Program} {e : Env} {s : State} {m : MethodId} {below : List Frame} {meth : Method} {c : Code} (l : Launch) {b nS : Nat} {xs : Nat → Int32} {x : CT} {Q : State → Prop} (E : EV p room_1 s m #[Value.ref b] meth c cL_law 4 RL (some .boolean) 110 2802 (fun q => s.heap.size ≤ q) x) (hX : va_X b nS xs s s.heap) (hbl : b < s.heap.size) (hS : nS ≤ 2048) {i : Nat} (hi : i + 4 ≤ nS) {ar fd : AR} {H : Heap} {locs : List Loc} {ls : Array Slot} (hs : ST x (fun q => s.heap.size ≤ q) s.heap ar fd H locs) (hl : lv_has ls 4 [(3, .int (nI i)), (2, .ref (xa x 102)), (1, .ref (xa x 0)), (0, .ref b)]) (hR : RRE ar fd) (k : ∀ (ar fd : AR) (H : Heap) (locs : List Loc), RRE ar fd → ST x (fun q => s.heap.size ≤ q) s.heap ar fd H locs → W p l e room_1 s m #[Value.ref b] below meth c H locs 110 2802 Q (F0 m 697 ls [])) : W p l e room_1 s m #[Value.ref b] below meth c H locs 110 2802 Q (F0 m 393 ls []) := by
  obtain ⟨w, f, o, z, n, hRR⟩ := hR
  obtain ⟨⟨hci, hM, hstg, hst⟩, hL, ⟨hz, hn, hz4, hn60⟩, hBw, hBf⟩ := RR_all hRR
  have hx := E.1
  have hb := E.2.1
  have hbA : ¬ (fun q => s.heap.size ≤ q) b := Nat.not_le.mpr hbl
  refine lv_aload_n hx hb dL_law_393 rfl (lv_at hl 2 rfl) ?_
  refine lv_aload_n hx hb dL_law_394 rfl (lv_at hl 3 rfl) ?_
  refine lv_iload_n hx hb dL_law_395 rfl (lv_at hl 0 rfl) ?_
  refine lv_iconst (v := nI 1) hx hb dL_law_396 (by decide) ?_
  refine lv_iadd hx hb dL_law_397 ?_
  refine tp (b := nI (i + 1)) (nI_add _ _) ?_
  refine va_sld hx hb hX hbl hbA hs.2 (vp_in_nI (show i + 1 < nS by omega) (by omega)) dL_law_398 ?_
  refine lv_i2c (v := ch16 (xs (nI (i + 1)).toNatClampNeg)) hx hb dL_law_399 rfl ?_
  refine zVI E hs lkL_54 [] (c_X6_type l x ar fd w f o z n hci (ch16 (xs (nI (i + 1)).toNatClampNeg))) (by decide) (sh5 rfl) rfl ⟨Nat.le_of_ble_eq_true rfl, Nat.le_of_ble_eq_true rfl⟩ rfl hl.1 (Nat.le_of_ble_eq_true rfl) rfl dL_law_400 (fun r1 ar1 fd1 H locs hp1 hs => ?_)
  have hh : ∀ k, 101 < k → ar1 k = ar k ∧ fd1 k = fd k := fun k hk => by have q := hi_type ar fd w f o z n (ch16 (xs (nI (i + 1)).toNatClampNeg)) k hk; rw [← hp1] at q; exact q
  have hM1 : ME (ar1 103) ar (fd 1) w f := by rw [(hh 103 (by decide)).1]; exact hM
  have hz1 : fd1 102 3 = nI z := by rw [(hh 102 (by decide)).2]; exact hz
  have hn1 : fd1 102 6 = nI n := by rw [(hh 102 (by decide)).2]; exact hn
  refine lv_aload_n hx hb dL_law_403 rfl (lv_at hl 1 rfl) ?_
  refine lv_aload_n hx hb dL_law_404 rfl (lv_at hl 3 rfl) ?_
  refine lv_iload_n hx hb dL_law_405 rfl (lv_at hl 0 rfl) ?_
  refine lv_iconst (v := nI 1) hx hb dL_law_406 (by decide) ?_
  refine lv_iadd hx hb dL_law_407 ?_
  refine tp (b := nI (i + 1)) (nI_add _ _) ?_
  refine va_sld hx hb hX hbl hbA hs.2 (vp_in_nI (show i + 1 < nS by omega) (by omega)) dL_law_408 ?_
  refine lv_i2c (v := ch16 (xs (nI (i + 1)).toNatClampNeg)) hx hb dL_law_409 rfl ?_
  refine zVI E hs lkL_58 [.int r1] (c_X7_type l x ar1 fd1 n hn1 hn60 (ch16 (xs (nI (i + 1)).toNatClampNeg))) (by decide) (sh6 rfl) rfl ⟨Nat.le_of_ble_eq_true rfl, Nat.le_of_ble_eq_true rfl⟩ rfl hl.1 (Nat.le_of_ble_eq_true rfl) rfl dL_law_410 (fun r2 ar3 fd3 H locs hp2 hs => ?_)
  have eA : ar1 = (sp_type ar fd w f o z n (ch16 (xs (nI (i + 1)).toNatClampNeg))).2.1 := congrArg (fun q => q.2.1) hp1
  have eF : fd1 = (sp_type ar fd w f o z n (ch16 (xs (nI (i + 1)).toNatClampNeg))).2.2 := congrArg (fun q => q.2.2) hp1
  have er : r1 = (sp_type ar fd w f o z n (ch16 (xs (nI (i + 1)).toNatClampNeg))).1 := congrArg (fun q => q.1) hp1
  obtain ⟨n2, k1, k2⟩ := k_type hRR (ch16 (xs (nI (i + 1)).toNatClampNeg)) (chs_nar _)
  rw [← eA, ← eF] at k1 k2
  rw [← er, ← hp2] at k1
  rw [← hp2] at k2
  exact lv_icmp_eq (tgt := 697) hx hb dL_law_413 (by decide) (fun _ => k ar3 fd3 H locs ⟨w, f, o, z, n2, k2⟩ hs) (fun h => absurd k1.symm h)
set_option maxHeartbeats 4000000 in
set_option maxRecDepth 100000 in
theorem lc_clearText {p : Program} {e : Env} {s : State} {m : MethodId} {below : List Frame} {meth : Method} {c : Code} (l : Launch) {b nS : Nat} {xs : Nat → Int32} {x : CT} {Q : State → Prop} (E : EV p room_1 s m #[Value.ref b] meth c cL_law 4 RL (some .boolean) 110 2802 (fun q => s.heap.size ≤ q) x) (hX : va_X b nS xs s s.heap) (hbl : b < s.heap.size) (hS : nS ≤ 2048) {i : Nat} (hi : i + 4 ≤ nS) {ar fd : AR} {H : Heap} {locs : List Loc} {ls : Array Slot} (hs : ST x (fun q => s.heap.size ≤ q) s.heap ar fd H locs) (hl : lv_has ls 4 [(3, .int (nI i)), (2, .ref (xa x 102)), (1, .ref (xa x 0)), (0, .ref b)]) (hR : RRE ar fd) (k : ∀ (ar fd : AR) (H : Heap) (locs : List Loc), RRE ar fd → ST x (fun q => s.heap.size ≤ q) s.heap ar fd H locs → W p l e room_1 s m #[Value.ref b] below meth c H locs 110 2802 Q (F0 m 697 ls [])) : W p l e room_1 s m #[Value.ref b] below meth c H locs 110 2802 Q (F0 m 418 ls []) := by
  obtain ⟨w, f, o, z, n, hRR⟩ := hR
  obtain ⟨⟨hci, hM, hstg, hst⟩, hL, ⟨hz, hn, hz4, hn60⟩, hBw, hBf⟩ := RR_all hRR
  have hx := E.1
  have hb := E.2.1
  have hbA : ¬ (fun q => s.heap.size ≤ q) b := Nat.not_le.mpr hbl
  refine lv_aload_n hx hb dL_law_418 rfl (lv_at hl 2 rfl) ?_
  refine zVI E hs lkL_59 [] (c_X6_clearText l x ar fd w f o z n hci) (by decide) (sh5 rfl) rfl ⟨Nat.le_of_ble_eq_true rfl, Nat.le_of_ble_eq_true rfl⟩ rfl hl.1 (Nat.le_of_ble_eq_true rfl) rfl dL_law_419 (fun r1 ar1 fd1 H locs hp1 hs => ?_)
  have hh : ∀ k, 101 < k → ar1 k = ar k ∧ fd1 k = fd k := fun k hk => by have q := hi_clearText ar fd w f o z n k hk; rw [← hp1] at q; exact q
  have hM1 : ME (ar1 103) ar (fd 1) w f := by rw [(hh 103 (by decide)).1]; exact hM
  have hz1 : fd1 102 3 = nI z := by rw [(hh 102 (by decide)).2]; exact hz
  have hn1 : fd1 102 6 = nI n := by rw [(hh 102 (by decide)).2]; exact hn
  refine lv_aload_n hx hb dL_law_422 rfl (lv_at hl 1 rfl) ?_
  refine zVI E hs lkL_62 [.int r1] (c_X7_clearText l x ar1 fd1 n hn1 hn60) (by decide) (sh6 rfl) rfl ⟨Nat.le_of_ble_eq_true rfl, Nat.le_of_ble_eq_true rfl⟩ rfl hl.1 (Nat.le_of_ble_eq_true rfl) rfl dL_law_423 (fun r2 ar3 fd3 H locs hp2 hs => ?_)
  have eA : ar1 = (sp_clearText ar fd w f o z n).2.1 := congrArg (fun q => q.2.1) hp1
  have eF : fd1 = (sp_clearText ar fd w f o z n).2.2 := congrArg (fun q => q.2.2) hp1
  have er : r1 = (sp_clearText ar fd w f o z n).1 := congrArg (fun q => q.1) hp1
  obtain ⟨k1, k2⟩ := k_clearText hRR
  rw [← eA, ← eF] at k1 k2
  rw [← er, ← hp2] at k1
  rw [← hp2] at k2
  exact lv_icmp_eq (tgt := 697) hx hb dL_law_426 (by decide) (fun _ => k ar3 fd3 H locs ⟨w, f, o, z, 0, k2⟩ hs) (fun h => absurd k1.symm h)
set_option maxHeartbeats 4000000 in
set_option maxRecDepth 100000 in
theorem lc_readVotes {p : Program} {e : Env} {s : State} {m : MethodId} {below : List Frame} {meth : Method} {c : Code} (l : Launch) {b nS : Nat} {xs : Nat → Int32} {x : CT} {Q : State → Prop} (E : EV p room_1 s m #[Value.ref b] meth c cL_law 4 RL (some .boolean) 110 2802 (fun q => s.heap.size ≤ q) x) (hX : va_X b nS xs s s.heap) (hbl : b < s.heap.size) (hS : nS ≤ 2048) {i : Nat} (hi : i + 4 ≤ nS) {ar fd : AR} {H : Heap} {locs : List Loc} {ls : Array Slot} (hs : ST x (fun q => s.heap.size ≤ q) s.heap ar fd H locs) (hl : lv_has ls 4 [(3, .int (nI i)), (2, .ref (xa x 102)), (1, .ref (xa x 0)), (0, .ref b)]) (hR : RRE ar fd) (k : ∀ (ar fd : AR) (H : Heap) (locs : List Loc), RRE ar fd → ST x (fun q => s.heap.size ≤ q) s.heap ar fd H locs → W p l e room_1 s m #[Value.ref b] below meth c H locs 110 2802 Q (F0 m 697 ls [])) : W p l e room_1 s m #[Value.ref b] below meth c H locs 110 2802 Q (F0 m 431 ls []) := by
  obtain ⟨w, f, o, z, n, hRR⟩ := hR
  obtain ⟨⟨hci, hM, hstg, hst⟩, hL, ⟨hz, hn, hz4, hn60⟩, hBw, hBf⟩ := RR_all hRR
  have hx := E.1
  have hb := E.2.1
  have hbA : ¬ (fun q => s.heap.size ≤ q) b := Nat.not_le.mpr hbl
  refine lv_aload_n hx hb dL_law_431 rfl (lv_at hl 2 rfl) ?_
  refine lv_aload_n hx hb dL_law_432 rfl (lv_at hl 3 rfl) ?_
  refine lv_iload_n hx hb dL_law_433 rfl (lv_at hl 0 rfl) ?_
  refine lv_iconst (v := nI 1) hx hb dL_law_434 (by decide) ?_
  refine lv_iadd hx hb dL_law_435 ?_
  refine tp (b := nI (i + 1)) (nI_add _ _) ?_
  refine va_sld hx hb hX hbl hbA hs.2 (vp_in_nI (show i + 1 < nS by omega) (by omega)) dL_law_436 ?_
  refine zVI E hs lkL_63 [] (c_X6_readVotes l x ar fd w f o z n hci (xs (nI (i + 1)).toNatClampNeg)) (by decide) (sh5 rfl) rfl ⟨Nat.le_of_ble_eq_true rfl, Nat.le_of_ble_eq_true rfl⟩ rfl hl.1 (Nat.le_of_ble_eq_true rfl) rfl dL_law_437 (fun r1 ar1 fd1 H locs hp1 hs => ?_)
  have hh : ∀ k, 101 < k → ar1 k = ar k ∧ fd1 k = fd k := fun k hk => by have q := hi_readVotes ar fd w f o z n (xs (nI (i + 1)).toNatClampNeg) k hk; rw [← hp1] at q; exact q
  have hM1 : ME (ar1 103) ar (fd 1) w f := by rw [(hh 103 (by decide)).1]; exact hM
  have hz1 : fd1 102 3 = nI z := by rw [(hh 102 (by decide)).2]; exact hz
  have hn1 : fd1 102 6 = nI n := by rw [(hh 102 (by decide)).2]; exact hn
  refine lv_aload_n hx hb dL_law_440 rfl (lv_at hl 1 rfl) ?_
  refine lv_aload_n hx hb dL_law_441 rfl (lv_at hl 3 rfl) ?_
  refine lv_iload_n hx hb dL_law_442 rfl (lv_at hl 0 rfl) ?_
  refine lv_iconst (v := nI 1) hx hb dL_law_443 (by decide) ?_
  refine lv_iadd hx hb dL_law_444 ?_
  refine tp (b := nI (i + 1)) (nI_add _ _) ?_
  refine va_sld hx hb hX hbl hbA hs.2 (vp_in_nI (show i + 1 < nS by omega) (by omega)) dL_law_445 ?_
  refine zVI E hs lkL_66 [.int r1] (c_X7_readVotes l x ar1 fd1 n hn1 hn60 z hz1 hz4 (xs (nI (i + 1)).toNatClampNeg)) (by decide) (sh6 rfl) rfl ⟨Nat.le_of_ble_eq_true rfl, Nat.le_of_ble_eq_true rfl⟩ rfl hl.1 (Nat.le_of_ble_eq_true rfl) rfl dL_law_446 (fun r2 ar3 fd3 H locs hp2 hs => ?_)
  have kk := k_readVotes hRR (xs (nI (i + 1)).toNatClampNeg) (c := (r1, ar1, fd1)) hp1 hp2
  exact lv_icmp_eq (tgt := 697) hx hb dL_law_449 (by decide) (fun _ => k ar3 fd3 H locs kk.2 hs) (fun h => absurd kk.1.symm h)
set_option maxHeartbeats 4000000 in
set_option maxRecDepth 100000 in
theorem lc_undo {p : Program} {e : Env} {s : State} {m : MethodId} {below : List Frame} {meth : Method} {c : Code} (l : Launch) {b nS : Nat} {xs : Nat → Int32} {x : CT} {Q : State → Prop} (E : EV p room_1 s m #[Value.ref b] meth c cL_law 4 RL (some .boolean) 110 2802 (fun q => s.heap.size ≤ q) x) (hX : va_X b nS xs s s.heap) (hbl : b < s.heap.size) (hS : nS ≤ 2048) {i : Nat} (hi : i + 4 ≤ nS) {ar fd : AR} {H : Heap} {locs : List Loc} {ls : Array Slot} (hs : ST x (fun q => s.heap.size ≤ q) s.heap ar fd H locs) (hl : lv_has ls 4 [(3, .int (nI i)), (2, .ref (xa x 102)), (1, .ref (xa x 0)), (0, .ref b)]) (hR : RRE ar fd) (k : ∀ (ar fd : AR) (H : Heap) (locs : List Loc), RRE ar fd → ST x (fun q => s.heap.size ≤ q) s.heap ar fd H locs → W p l e room_1 s m #[Value.ref b] below meth c H locs 110 2802 Q (F0 m 697 ls [])) : W p l e room_1 s m #[Value.ref b] below meth c H locs 110 2802 Q (F0 m 454 ls []) := by
  obtain ⟨w, f, o, z, n, hRR⟩ := hR
  obtain ⟨⟨hci, hM, hstg, hst⟩, hL, ⟨hz, hn, hz4, hn60⟩, hBw, hBf⟩ := RR_all hRR
  have hx := E.1
  have hb := E.2.1
  have hbA : ¬ (fun q => s.heap.size ≤ q) b := Nat.not_le.mpr hbl
  refine lv_aload_n hx hb dL_law_454 rfl (lv_at hl 2 rfl) ?_
  refine zVI E hs lkL_67 [] (c_X6_undo l x ar fd w f o z n hci) (by decide) (sh5 rfl) rfl ⟨Nat.le_of_ble_eq_true rfl, Nat.le_of_ble_eq_true rfl⟩ rfl hl.1 (Nat.le_of_ble_eq_true rfl) rfl dL_law_455 (fun r1 ar1 fd1 H locs hp1 hs => ?_)
  have hh : ∀ k, 101 < k → ar1 k = ar k ∧ fd1 k = fd k := fun k hk => by have q := hi_undo ar fd w f o z n k hk; rw [← hp1] at q; exact q
  have hM1 : ME (ar1 103) ar (fd 1) w f := by rw [(hh 103 (by decide)).1]; exact hM
  have hz1 : fd1 102 3 = nI z := by rw [(hh 102 (by decide)).2]; exact hz
  have hn1 : fd1 102 6 = nI n := by rw [(hh 102 (by decide)).2]; exact hn
  refine lv_aload_n hx hb dL_law_458 rfl (lv_at hl 1 rfl) ?_
  refine zVI E hs lkL_70 [.int r1] (c_X7_undo l x ar1 fd1 z hz1 hz4) (by decide) (sh6 rfl) rfl ⟨Nat.le_of_ble_eq_true rfl, Nat.le_of_ble_eq_true rfl⟩ rfl hl.1 (Nat.le_of_ble_eq_true rfl) rfl dL_law_459 (fun r2 ar3 fd3 H locs hp2 hs => ?_)
  have eA : ar1 = (sp_undo ar fd w f o z n).2.1 := congrArg (fun q => q.2.1) hp1
  have eF : fd1 = (sp_undo ar fd w f o z n).2.2 := congrArg (fun q => q.2.2) hp1
  have er : r1 = (sp_undo ar fd w f o z n).1 := congrArg (fun q => q.1) hp1
  rw [eA, eF] at hp2
  have kk := k_undo hRR hp2
  exact lv_icmp_eq (tgt := 697) hx hb dL_law_462 (by decide) (fun _ => k ar3 fd3 H locs kk.2 hs) (fun h => absurd (kk.1.trans er.symm).symm h)
set_option maxHeartbeats 4000000 in
set_option maxRecDepth 100000 in
theorem lc_keep {p : Program} {e : Env} {s : State} {m : MethodId} {below : List Frame} {meth : Method} {c : Code} (l : Launch) {b nS : Nat} {xs : Nat → Int32} {x : CT} {Q : State → Prop} (E : EV p room_1 s m #[Value.ref b] meth c cL_law 4 RL (some .boolean) 110 2802 (fun q => s.heap.size ≤ q) x) (hX : va_X b nS xs s s.heap) (hbl : b < s.heap.size) (hS : nS ≤ 2048) {i : Nat} (hi : i + 4 ≤ nS) {ar fd : AR} {H : Heap} {locs : List Loc} {ls : Array Slot} (hs : ST x (fun q => s.heap.size ≤ q) s.heap ar fd H locs) (hl : lv_has ls 4 [(3, .int (nI i)), (2, .ref (xa x 102)), (1, .ref (xa x 0)), (0, .ref b)]) (hR : RRE ar fd) (k : ∀ (ar fd : AR) (H : Heap) (locs : List Loc), RRE ar fd → ST x (fun q => s.heap.size ≤ q) s.heap ar fd H locs → W p l e room_1 s m #[Value.ref b] below meth c H locs 110 2802 Q (F0 m 697 ls [])) : W p l e room_1 s m #[Value.ref b] below meth c H locs 110 2802 Q (F0 m 467 ls []) := by
  obtain ⟨w, f, o, z, n, hRR⟩ := hR
  obtain ⟨⟨hci, hM, hstg, hst⟩, hL, ⟨hz, hn, hz4, hn60⟩, hBw, hBf⟩ := RR_all hRR
  have hx := E.1
  have hb := E.2.1
  have hbA : ¬ (fun q => s.heap.size ≤ q) b := Nat.not_le.mpr hbl
  refine lv_aload_n hx hb dL_law_467 rfl (lv_at hl 2 rfl) ?_
  refine zVI E hs lkL_71 [] (c_X6_keep l x ar fd w f o z n hci) (by decide) (sh5 rfl) rfl ⟨Nat.le_of_ble_eq_true rfl, Nat.le_of_ble_eq_true rfl⟩ rfl hl.1 (Nat.le_of_ble_eq_true rfl) rfl dL_law_468 (fun r1 ar1 fd1 H locs hp1 hs => ?_)
  have hh : ∀ k, 101 < k → ar1 k = ar k ∧ fd1 k = fd k := fun k hk => by have q := hi_keep ar fd w f o z n k hk; rw [← hp1] at q; exact q
  have hM1 : ME (ar1 103) ar (fd 1) w f := by rw [(hh 103 (by decide)).1]; exact hM
  have hz1 : fd1 102 3 = nI z := by rw [(hh 102 (by decide)).2]; exact hz
  have hn1 : fd1 102 6 = nI n := by rw [(hh 102 (by decide)).2]; exact hn
  refine lv_aload_n hx hb dL_law_471 rfl (lv_at hl 1 rfl) ?_
  refine zVI E hs lkL_74 [.int r1] (c_X7_keep l x ar1 fd1) (by decide) (sh6 rfl) rfl ⟨Nat.le_of_ble_eq_true rfl, Nat.le_of_ble_eq_true rfl⟩ rfl hl.1 (Nat.le_of_ble_eq_true rfl) rfl dL_law_472 (fun r2 ar3 fd3 H locs hp2 hs => ?_)
  have eA : ar1 = (sp_keep ar fd w f o z n).2.1 := congrArg (fun q => q.2.1) hp1
  have eF : fd1 = (sp_keep ar fd w f o z n).2.2 := congrArg (fun q => q.2.2) hp1
  have er : r1 = (sp_keep ar fd w f o z n).1 := congrArg (fun q => q.1) hp1
  obtain ⟨hp2, hA2, hF2⟩ := hp2
  rw [eA] at hp2 hA2
  rw [eF] at hF2
  have kk := k_keep hRR hA2 hF2
  exact lv_icmp_eq (tgt := 697) hx hb dL_law_475 (by decide) (fun _ => k ar3 fd3 H locs ⟨w, f, o, z, n, kk.2⟩ hs) (fun h => absurd (hp2.trans (kk.1.trans er.symm)).symm h)
set_option maxHeartbeats 4000000 in
set_option maxRecDepth 100000 in
theorem lc_restore {p : Program} {e : Env} {s : State} {m : MethodId} {below : List Frame} {meth : Method} {c : Code} (l : Launch) {b nS : Nat} {xs : Nat → Int32} {x : CT} {Q : State → Prop} (E : EV p room_1 s m #[Value.ref b] meth c cL_law 4 RL (some .boolean) 110 2802 (fun q => s.heap.size ≤ q) x) (hX : va_X b nS xs s s.heap) (hbl : b < s.heap.size) (hS : nS ≤ 2048) {i : Nat} (hi : i + 4 ≤ nS) {ar fd : AR} {H : Heap} {locs : List Loc} {ls : Array Slot} (hs : ST x (fun q => s.heap.size ≤ q) s.heap ar fd H locs) (hl : lv_has ls 4 [(3, .int (nI i)), (2, .ref (xa x 102)), (1, .ref (xa x 0)), (0, .ref b)]) (hR : RRE ar fd) (k : ∀ (ar fd : AR) (H : Heap) (locs : List Loc), RRE ar fd → ST x (fun q => s.heap.size ≤ q) s.heap ar fd H locs → W p l e room_1 s m #[Value.ref b] below meth c H locs 110 2802 Q (F0 m 697 ls [])) : W p l e room_1 s m #[Value.ref b] below meth c H locs 110 2802 Q (F0 m 480 ls []) := by
  obtain ⟨w, f, o, z, n, hRR⟩ := hR
  obtain ⟨⟨hci, hM, hstg, hst⟩, hL, ⟨hz, hn, hz4, hn60⟩, hBw, hBf⟩ := RR_all hRR
  have hx := E.1
  have hb := E.2.1
  have hbA : ¬ (fun q => s.heap.size ≤ q) b := Nat.not_le.mpr hbl
  refine lv_aload_n hx hb dL_law_480 rfl (lv_at hl 2 rfl) ?_
  refine zVI E hs lkL_75 [] (c_X6_restore l x ar fd w f o z n hci) (by decide) (sh5 rfl) rfl ⟨Nat.le_of_ble_eq_true rfl, Nat.le_of_ble_eq_true rfl⟩ rfl hl.1 (Nat.le_of_ble_eq_true rfl) rfl dL_law_481 (fun r1 ar1 fd1 H locs hp1 hs => ?_)
  have hh : ∀ k, 101 < k → ar1 k = ar k ∧ fd1 k = fd k := fun k hk => by have q := hi_restore ar fd w f o z n k hk; rw [← hp1] at q; exact q
  have hM1 : ME (ar1 103) ar (fd 1) w f := by rw [(hh 103 (by decide)).1]; exact hM
  have hz1 : fd1 102 3 = nI z := by rw [(hh 102 (by decide)).2]; exact hz
  have hn1 : fd1 102 6 = nI n := by rw [(hh 102 (by decide)).2]; exact hn
  refine lv_aload_n hx hb dL_law_484 rfl (lv_at hl 1 rfl) ?_
  refine zVI E hs lkL_78 [.int r1] (c_X7_restore l x ar1 fd1 z hz1 hz4) (by decide) (sh6 rfl) rfl ⟨Nat.le_of_ble_eq_true rfl, Nat.le_of_ble_eq_true rfl⟩ rfl hl.1 (Nat.le_of_ble_eq_true rfl) rfl dL_law_485 (fun r2 ar3 fd3 H locs hp2 hs => ?_)
  have eA : ar1 = (sp_restore ar fd w f o z n).2.1 := congrArg (fun q => q.2.1) hp1
  have eF : fd1 = (sp_restore ar fd w f o z n).2.2 := congrArg (fun q => q.2.2) hp1
  have er : r1 = (sp_restore ar fd w f o z n).1 := congrArg (fun q => q.1) hp1
  rw [eA, eF] at hp2
  have kk := k_restore hRR hp2
  exact lv_icmp_eq (tgt := 697) hx hb dL_law_488 (by decide) (fun _ => k ar3 fd3 H locs kk.2 hs) (fun h => absurd (kk.1.trans er.symm).symm h)
set_option maxHeartbeats 4000000 in
set_option maxRecDepth 100000 in
theorem lc_cell {p : Program} {e : Env} {s : State} {m : MethodId} {below : List Frame} {meth : Method} {c : Code} (l : Launch) {b nS : Nat} {xs : Nat → Int32} {x : CT} {Q : State → Prop} (E : EV p room_1 s m #[Value.ref b] meth c cL_law 4 RL (some .boolean) 110 2802 (fun q => s.heap.size ≤ q) x) (hX : va_X b nS xs s s.heap) (hbl : b < s.heap.size) (hS : nS ≤ 2048) {i : Nat} (hi : i + 4 ≤ nS) {ar fd : AR} {H : Heap} {locs : List Loc} {ls : Array Slot} (hs : ST x (fun q => s.heap.size ≤ q) s.heap ar fd H locs) (hl : lv_has ls 4 [(3, .int (nI i)), (2, .ref (xa x 102)), (1, .ref (xa x 0)), (0, .ref b)]) (hR : RRE ar fd) (k : ∀ (ar fd : AR) (H : Heap) (locs : List Loc), RRE ar fd → ST x (fun q => s.heap.size ≤ q) s.heap ar fd H locs → W p l e room_1 s m #[Value.ref b] below meth c H locs 110 2802 Q (F0 m 697 ls [])) : W p l e room_1 s m #[Value.ref b] below meth c H locs 110 2802 Q (F0 m 493 ls []) := by
  obtain ⟨w, f, o, z, n, hRR⟩ := hR
  obtain ⟨⟨hci, hM, hstg, hst⟩, hL, ⟨hz, hn, hz4, hn60⟩, hBw, hBf⟩ := RR_all hRR
  have hx := E.1
  have hb := E.2.1
  have hbA : ¬ (fun q => s.heap.size ≤ q) b := Nat.not_le.mpr hbl
  refine lv_aload_n hx hb dL_law_493 rfl (lv_at hl 2 rfl) ?_
  refine lv_aload_n hx hb dL_law_494 rfl (lv_at hl 3 rfl) ?_
  refine lv_iload_n hx hb dL_law_495 rfl (lv_at hl 0 rfl) ?_
  refine lv_iconst (v := nI 1) hx hb dL_law_496 (by decide) ?_
  refine lv_iadd hx hb dL_law_497 ?_
  refine tp (b := nI (i + 1)) (nI_add _ _) ?_
  refine va_sld hx hb hX hbl hbA hs.2 (vp_in_nI (show i + 1 < nS by omega) (by omega)) dL_law_498 ?_
  refine lv_aload_n hx hb dL_law_499 rfl (lv_at hl 3 rfl) ?_
  refine lv_iload_n hx hb dL_law_500 rfl (lv_at hl 0 rfl) ?_
  refine lv_iconst (v := nI 2) hx hb dL_law_501 (by decide) ?_
  refine lv_iadd hx hb dL_law_502 ?_
  refine tp (b := nI (i + 2)) (nI_add _ _) ?_
  refine va_sld hx hb hX hbl hbA hs.2 (vp_in_nI (show i + 2 < nS by omega) (by omega)) dL_law_503 ?_
  refine zVP E hs lkL_79 [] (c_X6_cell l x ar fd w f o z n hci (xs (nI (i + 1)).toNatClampNeg) (xs (nI (i + 2)).toNatClampNeg)) (by decide) (sh5 rfl) rfl ⟨Nat.le_of_ble_eq_true rfl, Nat.le_of_ble_eq_true rfl⟩ rfl hl.1 (Nat.le_of_ble_eq_true rfl) rfl dL_law_504 (fun r1 H locs hp1 hs => ?_)
  refine lv_aload_n hx hb dL_law_507 rfl (lv_at hl 1 rfl) ?_
  refine lv_aload_n hx hb dL_law_508 rfl (lv_at hl 3 rfl) ?_
  refine lv_iload_n hx hb dL_law_509 rfl (lv_at hl 0 rfl) ?_
  refine lv_iconst (v := nI 1) hx hb dL_law_510 (by decide) ?_
  refine lv_iadd hx hb dL_law_511 ?_
  refine tp (b := nI (i + 1)) (nI_add _ _) ?_
  refine va_sld hx hb hX hbl hbA hs.2 (vp_in_nI (show i + 1 < nS by omega) (by omega)) dL_law_512 ?_
  refine lv_aload_n hx hb dL_law_513 rfl (lv_at hl 3 rfl) ?_
  refine lv_iload_n hx hb dL_law_514 rfl (lv_at hl 0 rfl) ?_
  refine lv_iconst (v := nI 2) hx hb dL_law_515 (by decide) ?_
  refine lv_iadd hx hb dL_law_516 ?_
  refine tp (b := nI (i + 2)) (nI_add _ _) ?_
  refine va_sld hx hb hX hbl hbA hs.2 (vp_in_nI (show i + 2 < nS by omega) (by omega)) dL_law_517 ?_
  refine zVP E hs lkL_82 [.int r1] (c_X7_cell l x ar fd ar fd w f hM o z n (xs (nI (i + 1)).toNatClampNeg) (xs (nI (i + 2)).toNatClampNeg)) (by decide) (sh6 rfl) rfl ⟨Nat.le_of_ble_eq_true rfl, Nat.le_of_ble_eq_true rfl⟩ rfl hl.1 (Nat.le_of_ble_eq_true rfl) rfl dL_law_518 (fun r2 H locs hp2 hs => ?_)
  exact lv_icmp_eq (tgt := 697) hx hb dL_law_521 (by decide) (fun _ => k ar fd H locs ⟨w, f, o, z, n, hRR⟩ hs) (fun h => absurd (hp2.trans hp1.symm).symm h)
set_option maxHeartbeats 4000000 in
set_option maxRecDepth 100000 in
theorem lc_part {p : Program} {e : Env} {s : State} {m : MethodId} {below : List Frame} {meth : Method} {c : Code} (l : Launch) {b nS : Nat} {xs : Nat → Int32} {x : CT} {Q : State → Prop} (E : EV p room_1 s m #[Value.ref b] meth c cL_law 4 RL (some .boolean) 110 2802 (fun q => s.heap.size ≤ q) x) (hX : va_X b nS xs s s.heap) (hbl : b < s.heap.size) (hS : nS ≤ 2048) {i : Nat} (hi : i + 4 ≤ nS) {ar fd : AR} {H : Heap} {locs : List Loc} {ls : Array Slot} (hs : ST x (fun q => s.heap.size ≤ q) s.heap ar fd H locs) (hl : lv_has ls 4 [(3, .int (nI i)), (2, .ref (xa x 102)), (1, .ref (xa x 0)), (0, .ref b)]) (hR : RRE ar fd) (k : ∀ (ar fd : AR) (H : Heap) (locs : List Loc), RRE ar fd → ST x (fun q => s.heap.size ≤ q) s.heap ar fd H locs → W p l e room_1 s m #[Value.ref b] below meth c H locs 110 2802 Q (F0 m 697 ls [])) : W p l e room_1 s m #[Value.ref b] below meth c H locs 110 2802 Q (F0 m 526 ls []) := by
  obtain ⟨w, f, o, z, n, hRR⟩ := hR
  obtain ⟨⟨hci, hM, hstg, hst⟩, hL, ⟨hz, hn, hz4, hn60⟩, hBw, hBf⟩ := RR_all hRR
  have hx := E.1
  have hb := E.2.1
  have hbA : ¬ (fun q => s.heap.size ≤ q) b := Nat.not_le.mpr hbl
  refine lv_aload_n hx hb dL_law_526 rfl (lv_at hl 2 rfl) ?_
  refine lv_aload_n hx hb dL_law_527 rfl (lv_at hl 3 rfl) ?_
  refine lv_iload_n hx hb dL_law_528 rfl (lv_at hl 0 rfl) ?_
  refine lv_iconst (v := nI 1) hx hb dL_law_529 (by decide) ?_
  refine lv_iadd hx hb dL_law_530 ?_
  refine tp (b := nI (i + 1)) (nI_add _ _) ?_
  refine va_sld hx hb hX hbl hbA hs.2 (vp_in_nI (show i + 1 < nS by omega) (by omega)) dL_law_531 ?_
  refine lv_aload_n hx hb dL_law_532 rfl (lv_at hl 3 rfl) ?_
  refine lv_iload_n hx hb dL_law_533 rfl (lv_at hl 0 rfl) ?_
  refine lv_iconst (v := nI 2) hx hb dL_law_534 (by decide) ?_
  refine lv_iadd hx hb dL_law_535 ?_
  refine tp (b := nI (i + 2)) (nI_add _ _) ?_
  refine va_sld hx hb hX hbl hbA hs.2 (vp_in_nI (show i + 2 < nS by omega) (by omega)) dL_law_536 ?_
  refine zVI E hs lkL_83 [] (c_X6_part l x ar fd w f o z n hci (xs (nI (i + 1)).toNatClampNeg) (xs (nI (i + 2)).toNatClampNeg)) (by decide) (sh5 rfl) rfl ⟨Nat.le_of_ble_eq_true rfl, Nat.le_of_ble_eq_true rfl⟩ rfl hl.1 (Nat.le_of_ble_eq_true rfl) rfl dL_law_537 (fun r1 ar1 fd1 H locs hp1 hs => ?_)
  obtain ⟨hp1, hJ1, hF1⟩ := hp1
  subst hF1
  have hh : ∀ k, 101 < k → ar1 k = ar k ∧ (sp_part ar fd w f o z n (xs (nI (i + 1)).toNatClampNeg) (xs (nI (i + 2)).toNatClampNeg)).2.2 k = fd k := HI_J (hi_part ar fd w f o z n (xs (nI (i + 1)).toNatClampNeg) (xs (nI (i + 2)).toNatClampNeg)) hJ1
  have hM1 : ME (ar1 103) ar (fd 1) w f := by rw [(hh 103 (by decide)).1]; exact hM
  have hz1 : (sp_part ar fd w f o z n (xs (nI (i + 1)).toNatClampNeg) (xs (nI (i + 2)).toNatClampNeg)).2.2 102 3 = nI z := by rw [(hh 102 (by decide)).2]; exact hz
  have hn1 : (sp_part ar fd w f o z n (xs (nI (i + 1)).toNatClampNeg) (xs (nI (i + 2)).toNatClampNeg)).2.2 102 6 = nI n := by rw [(hh 102 (by decide)).2]; exact hn
  refine lv_aload_n hx hb dL_law_540 rfl (lv_at hl 1 rfl) ?_
  refine lv_aload_n hx hb dL_law_541 rfl (lv_at hl 3 rfl) ?_
  refine lv_iload_n hx hb dL_law_542 rfl (lv_at hl 0 rfl) ?_
  refine lv_iconst (v := nI 1) hx hb dL_law_543 (by decide) ?_
  refine lv_iadd hx hb dL_law_544 ?_
  refine tp (b := nI (i + 1)) (nI_add _ _) ?_
  refine va_sld hx hb hX hbl hbA hs.2 (vp_in_nI (show i + 1 < nS by omega) (by omega)) dL_law_545 ?_
  refine lv_aload_n hx hb dL_law_546 rfl (lv_at hl 3 rfl) ?_
  refine lv_iload_n hx hb dL_law_547 rfl (lv_at hl 0 rfl) ?_
  refine lv_iconst (v := nI 2) hx hb dL_law_548 (by decide) ?_
  refine lv_iadd hx hb dL_law_549 ?_
  refine tp (b := nI (i + 2)) (nI_add _ _) ?_
  refine va_sld hx hb hX hbl hbA hs.2 (vp_in_nI (show i + 2 < nS by omega) (by omega)) dL_law_550 ?_
  refine zVI E hs lkL_86 [.int r1] (c_X7_part l x ar1 (sp_part ar fd w f o z n (xs (nI (i + 1)).toNatClampNeg) (xs (nI (i + 2)).toNatClampNeg)).2.2 ar fd w f hM1 o z n hBw hBf (xs (nI (i + 1)).toNatClampNeg) (xs (nI (i + 2)).toNatClampNeg)) (by decide) (sh6 rfl) rfl ⟨Nat.le_of_ble_eq_true rfl, Nat.le_of_ble_eq_true rfl⟩ rfl hl.1 (Nat.le_of_ble_eq_true rfl) rfl dL_law_551 (fun r2 ar3 fd3 H locs hp2 hs => ?_)
  obtain ⟨hp2, hM2, hF2⟩ := hp2
  have kk := k_part hRR (xs (nI (i + 1)).toNatClampNeg) (xs (nI (i + 2)).toNatClampNeg) hJ1 hM2
  have e4 : fd3 = fd := hF2.trans (by rw [part_2])
  rw [← e4] at kk
  exact lv_icmp_eq (tgt := 697) hx hb dL_law_554 (by decide) (fun _ => k ar3 fd3 H locs ⟨w, f, o, z, n, kk⟩ hs) (fun h => absurd (hp2.trans hp1.symm).symm h)
set_option maxHeartbeats 4000000 in
set_option maxRecDepth 100000 in
theorem lc_district {p : Program} {e : Env} {s : State} {m : MethodId} {below : List Frame} {meth : Method} {c : Code} (l : Launch) {b nS : Nat} {xs : Nat → Int32} {x : CT} {Q : State → Prop} (E : EV p room_1 s m #[Value.ref b] meth c cL_law 4 RL (some .boolean) 110 2802 (fun q => s.heap.size ≤ q) x) (hX : va_X b nS xs s s.heap) (hbl : b < s.heap.size) (hS : nS ≤ 2048) {i : Nat} (hi : i + 4 ≤ nS) {ar fd : AR} {H : Heap} {locs : List Loc} {ls : Array Slot} (hs : ST x (fun q => s.heap.size ≤ q) s.heap ar fd H locs) (hl : lv_has ls 4 [(3, .int (nI i)), (2, .ref (xa x 102)), (1, .ref (xa x 0)), (0, .ref b)]) (hR : RRE ar fd) (k : ∀ (ar fd : AR) (H : Heap) (locs : List Loc), RRE ar fd → ST x (fun q => s.heap.size ≤ q) s.heap ar fd H locs → W p l e room_1 s m #[Value.ref b] below meth c H locs 110 2802 Q (F0 m 697 ls [])) : W p l e room_1 s m #[Value.ref b] below meth c H locs 110 2802 Q (F0 m 559 ls []) := by
  obtain ⟨w, f, o, z, n, hRR⟩ := hR
  obtain ⟨⟨hci, hM, hstg, hst⟩, hL, ⟨hz, hn, hz4, hn60⟩, hBw, hBf⟩ := RR_all hRR
  have hx := E.1
  have hb := E.2.1
  have hbA : ¬ (fun q => s.heap.size ≤ q) b := Nat.not_le.mpr hbl
  refine lv_aload_n hx hb dL_law_559 rfl (lv_at hl 2 rfl) ?_
  refine lv_aload_n hx hb dL_law_560 rfl (lv_at hl 3 rfl) ?_
  refine lv_iload_n hx hb dL_law_561 rfl (lv_at hl 0 rfl) ?_
  refine lv_iconst (v := nI 1) hx hb dL_law_562 (by decide) ?_
  refine lv_iadd hx hb dL_law_563 ?_
  refine tp (b := nI (i + 1)) (nI_add _ _) ?_
  refine va_sld hx hb hX hbl hbA hs.2 (vp_in_nI (show i + 1 < nS by omega) (by omega)) dL_law_564 ?_
  refine lv_aload_n hx hb dL_law_565 rfl (lv_at hl 3 rfl) ?_
  refine lv_iload_n hx hb dL_law_566 rfl (lv_at hl 0 rfl) ?_
  refine lv_iconst (v := nI 2) hx hb dL_law_567 (by decide) ?_
  refine lv_iadd hx hb dL_law_568 ?_
  refine tp (b := nI (i + 2)) (nI_add _ _) ?_
  refine va_sld hx hb hX hbl hbA hs.2 (vp_in_nI (show i + 2 < nS by omega) (by omega)) dL_law_569 ?_
  refine zVP E hs lkL_87 [] (c_X6_district l x ar fd w f o z n hci (xs (nI (i + 1)).toNatClampNeg) (xs (nI (i + 2)).toNatClampNeg)) (by decide) (sh5 rfl) rfl ⟨Nat.le_of_ble_eq_true rfl, Nat.le_of_ble_eq_true rfl⟩ rfl hl.1 (Nat.le_of_ble_eq_true rfl) rfl dL_law_570 (fun r1 H locs hp1 hs => ?_)
  refine lv_aload_n hx hb dL_law_573 rfl (lv_at hl 1 rfl) ?_
  refine lv_aload_n hx hb dL_law_574 rfl (lv_at hl 3 rfl) ?_
  refine lv_iload_n hx hb dL_law_575 rfl (lv_at hl 0 rfl) ?_
  refine lv_iconst (v := nI 1) hx hb dL_law_576 (by decide) ?_
  refine lv_iadd hx hb dL_law_577 ?_
  refine tp (b := nI (i + 1)) (nI_add _ _) ?_
  refine va_sld hx hb hX hbl hbA hs.2 (vp_in_nI (show i + 1 < nS by omega) (by omega)) dL_law_578 ?_
  refine lv_aload_n hx hb dL_law_579 rfl (lv_at hl 3 rfl) ?_
  refine lv_iload_n hx hb dL_law_580 rfl (lv_at hl 0 rfl) ?_
  refine lv_iconst (v := nI 2) hx hb dL_law_581 (by decide) ?_
  refine lv_iadd hx hb dL_law_582 ?_
  refine tp (b := nI (i + 2)) (nI_add _ _) ?_
  refine va_sld hx hb hX hbl hbA hs.2 (vp_in_nI (show i + 2 < nS by omega) (by omega)) dL_law_583 ?_
  refine zVP E hs lkL_90 [.int r1] (c_X7_district l x ar fd ar fd w f hM o z n (xs (nI (i + 1)).toNatClampNeg) (xs (nI (i + 2)).toNatClampNeg)) (by decide) (sh6 rfl) rfl ⟨Nat.le_of_ble_eq_true rfl, Nat.le_of_ble_eq_true rfl⟩ rfl hl.1 (Nat.le_of_ble_eq_true rfl) rfl dL_law_584 (fun r2 H locs hp2 hs => ?_)
  exact lv_icmp_eq (tgt := 697) hx hb dL_law_587 (by decide) (fun _ => k ar fd H locs ⟨w, f, o, z, n, hRR⟩ hs) (fun h => absurd (hp2.trans hp1.symm).symm h)
set_option maxHeartbeats 4000000 in
set_option maxRecDepth 100000 in
theorem lc_why {p : Program} {e : Env} {s : State} {m : MethodId} {below : List Frame} {meth : Method} {c : Code} (l : Launch) {b nS : Nat} {xs : Nat → Int32} {x : CT} {Q : State → Prop} (E : EV p room_1 s m #[Value.ref b] meth c cL_law 4 RL (some .boolean) 110 2802 (fun q => s.heap.size ≤ q) x) (hX : va_X b nS xs s s.heap) (hbl : b < s.heap.size) (hS : nS ≤ 2048) {i : Nat} (hi : i + 4 ≤ nS) {ar fd : AR} {H : Heap} {locs : List Loc} {ls : Array Slot} (hs : ST x (fun q => s.heap.size ≤ q) s.heap ar fd H locs) (hl : lv_has ls 4 [(3, .int (nI i)), (2, .ref (xa x 102)), (1, .ref (xa x 0)), (0, .ref b)]) (hR : RRE ar fd) (k : ∀ (ar fd : AR) (H : Heap) (locs : List Loc), RRE ar fd → ST x (fun q => s.heap.size ≤ q) s.heap ar fd H locs → W p l e room_1 s m #[Value.ref b] below meth c H locs 110 2802 Q (F0 m 697 ls [])) : W p l e room_1 s m #[Value.ref b] below meth c H locs 110 2802 Q (F0 m 592 ls []) := by
  obtain ⟨w, f, o, z, n, hRR⟩ := hR
  obtain ⟨⟨hci, hM, hstg, hst⟩, hL, ⟨hz, hn, hz4, hn60⟩, hBw, hBf⟩ := RR_all hRR
  have hx := E.1
  have hb := E.2.1
  have hbA : ¬ (fun q => s.heap.size ≤ q) b := Nat.not_le.mpr hbl
  refine lv_aload_n hx hb dL_law_592 rfl (lv_at hl 2 rfl) ?_
  refine lv_aload_n hx hb dL_law_593 rfl (lv_at hl 3 rfl) ?_
  refine lv_iload_n hx hb dL_law_594 rfl (lv_at hl 0 rfl) ?_
  refine lv_iconst (v := nI 1) hx hb dL_law_595 (by decide) ?_
  refine lv_iadd hx hb dL_law_596 ?_
  refine tp (b := nI (i + 1)) (nI_add _ _) ?_
  refine va_sld hx hb hX hbl hbA hs.2 (vp_in_nI (show i + 1 < nS by omega) (by omega)) dL_law_597 ?_
  refine zVI E hs lkL_91 [] (c_X6_why l x ar fd w f o z n hci (xs (nI (i + 1)).toNatClampNeg)) (by decide) (sh5 rfl) rfl ⟨Nat.le_of_ble_eq_true rfl, Nat.le_of_ble_eq_true rfl⟩ rfl hl.1 (Nat.le_of_ble_eq_true rfl) rfl dL_law_598 (fun r1 ar1 fd1 H locs hp1 hs => ?_)
  obtain ⟨hp1, hJ1, hF1⟩ := hp1
  subst hF1
  have hh : ∀ k, 101 < k → ar1 k = ar k ∧ (sp_why ar fd w f o z n (xs (nI (i + 1)).toNatClampNeg)).2.2 k = fd k := HI_J (hi_why ar fd w f o z n (xs (nI (i + 1)).toNatClampNeg)) hJ1
  have hM1 : ME (ar1 103) ar (fd 1) w f := by rw [(hh 103 (by decide)).1]; exact hM
  have hz1 : (sp_why ar fd w f o z n (xs (nI (i + 1)).toNatClampNeg)).2.2 102 3 = nI z := by rw [(hh 102 (by decide)).2]; exact hz
  have hn1 : (sp_why ar fd w f o z n (xs (nI (i + 1)).toNatClampNeg)).2.2 102 6 = nI n := by rw [(hh 102 (by decide)).2]; exact hn
  refine lv_aload_n hx hb dL_law_601 rfl (lv_at hl 1 rfl) ?_
  refine lv_aload_n hx hb dL_law_602 rfl (lv_at hl 3 rfl) ?_
  refine lv_iload_n hx hb dL_law_603 rfl (lv_at hl 0 rfl) ?_
  refine lv_iconst (v := nI 1) hx hb dL_law_604 (by decide) ?_
  refine lv_iadd hx hb dL_law_605 ?_
  refine tp (b := nI (i + 1)) (nI_add _ _) ?_
  refine va_sld hx hb hX hbl hbA hs.2 (vp_in_nI (show i + 1 < nS by omega) (by omega)) dL_law_606 ?_
  refine zVI E hs lkL_94 [.int r1] (c_X7_why l x ar1 (sp_why ar fd w f o z n (xs (nI (i + 1)).toNatClampNeg)).2.2 ar fd w f hM1 o z n (xs (nI (i + 1)).toNatClampNeg)) (by decide) (sh6 rfl) rfl ⟨Nat.le_of_ble_eq_true rfl, Nat.le_of_ble_eq_true rfl⟩ rfl hl.1 (Nat.le_of_ble_eq_true rfl) rfl dL_law_607 (fun r2 ar3 fd3 H locs hp2 hs => ?_)
  obtain ⟨hp2, hM2, hF2⟩ := hp2
  have kk := k_why hRR (xs (nI (i + 1)).toNatClampNeg) hJ1 hM2
  have e4 : fd3 = fd := hF2.trans (by rw [why_2])
  rw [← e4] at kk
  exact lv_icmp_eq (tgt := 697) hx hb dL_law_610 (by decide) (fun _ => k ar3 fd3 H locs ⟨w, f, o, z, n, kk⟩ hs) (fun h => absurd (hp2.trans hp1.symm).symm h)
set_option maxHeartbeats 4000000 in
set_option maxRecDepth 100000 in
theorem lc_advice {p : Program} {e : Env} {s : State} {m : MethodId} {below : List Frame} {meth : Method} {c : Code} (l : Launch) {b nS : Nat} {xs : Nat → Int32} {x : CT} {Q : State → Prop} (E : EV p room_1 s m #[Value.ref b] meth c cL_law 4 RL (some .boolean) 110 2802 (fun q => s.heap.size ≤ q) x) (hX : va_X b nS xs s s.heap) (hbl : b < s.heap.size) (hS : nS ≤ 2048) {i : Nat} (hi : i + 4 ≤ nS) {ar fd : AR} {H : Heap} {locs : List Loc} {ls : Array Slot} (hs : ST x (fun q => s.heap.size ≤ q) s.heap ar fd H locs) (hl : lv_has ls 4 [(3, .int (nI i)), (2, .ref (xa x 102)), (1, .ref (xa x 0)), (0, .ref b)]) (hR : RRE ar fd) (k : ∀ (ar fd : AR) (H : Heap) (locs : List Loc), RRE ar fd → ST x (fun q => s.heap.size ≤ q) s.heap ar fd H locs → W p l e room_1 s m #[Value.ref b] below meth c H locs 110 2802 Q (F0 m 697 ls [])) : W p l e room_1 s m #[Value.ref b] below meth c H locs 110 2802 Q (F0 m 615 ls []) := by
  obtain ⟨w, f, o, z, n, hRR⟩ := hR
  obtain ⟨⟨hci, hM, hstg, hst⟩, hL, ⟨hz, hn, hz4, hn60⟩, hBw, hBf⟩ := RR_all hRR
  have hx := E.1
  have hb := E.2.1
  have hbA : ¬ (fun q => s.heap.size ≤ q) b := Nat.not_le.mpr hbl
  refine lv_aload_n hx hb dL_law_615 rfl (lv_at hl 2 rfl) ?_
  refine zVP E hs lkL_95 [] (c_X6_advice l x ar fd w f o z n hci hst) (by decide) (sh5 rfl) rfl ⟨Nat.le_of_ble_eq_true rfl, Nat.le_of_ble_eq_true rfl⟩ rfl hl.1 (Nat.le_of_ble_eq_true rfl) rfl dL_law_616 (fun r1 H locs hp1 hs => ?_)
  refine lv_aload_n hx hb dL_law_619 rfl (lv_at hl 1 rfl) ?_
  refine zVP E hs lkL_98 [.int r1] (c_X7_advice l x ar fd ar fd w f hM o z n hstg) (by decide) (sh6 rfl) rfl ⟨Nat.le_of_ble_eq_true rfl, Nat.le_of_ble_eq_true rfl⟩ rfl hl.1 (Nat.le_of_ble_eq_true rfl) rfl dL_law_620 (fun r2 H locs hp2 hs => ?_)
  exact lv_icmp_eq (tgt := 697) hx hb dL_law_623 (by decide) (fun _ => k ar fd H locs ⟨w, f, o, z, n, hRR⟩ hs) (fun h => absurd (hp2.trans hp1.symm).symm h)
set_option maxHeartbeats 4000000 in
set_option maxRecDepth 100000 in
theorem lc_party {p : Program} {e : Env} {s : State} {m : MethodId} {below : List Frame} {meth : Method} {c : Code} (l : Launch) {b nS : Nat} {xs : Nat → Int32} {x : CT} {Q : State → Prop} (E : EV p room_1 s m #[Value.ref b] meth c cL_law 4 RL (some .boolean) 110 2802 (fun q => s.heap.size ≤ q) x) (hX : va_X b nS xs s s.heap) (hbl : b < s.heap.size) (hS : nS ≤ 2048) {i : Nat} (hi : i + 4 ≤ nS) {ar fd : AR} {H : Heap} {locs : List Loc} {ls : Array Slot} (hs : ST x (fun q => s.heap.size ≤ q) s.heap ar fd H locs) (hl : lv_has ls 4 [(3, .int (nI i)), (2, .ref (xa x 102)), (1, .ref (xa x 0)), (0, .ref b)]) (hR : RRE ar fd) (k : ∀ (ar fd : AR) (H : Heap) (locs : List Loc), RRE ar fd → ST x (fun q => s.heap.size ≤ q) s.heap ar fd H locs → W p l e room_1 s m #[Value.ref b] below meth c H locs 110 2802 Q (F0 m 697 ls [])) : W p l e room_1 s m #[Value.ref b] below meth c H locs 110 2802 Q (F0 m 628 ls []) := by
  obtain ⟨w, f, o, z, n, hRR⟩ := hR
  obtain ⟨⟨hci, hM, hstg, hst⟩, hL, ⟨hz, hn, hz4, hn60⟩, hBw, hBf⟩ := RR_all hRR
  have hx := E.1
  have hb := E.2.1
  have hbA : ¬ (fun q => s.heap.size ≤ q) b := Nat.not_le.mpr hbl
  refine lv_aload_n hx hb dL_law_628 rfl (lv_at hl 2 rfl) ?_
  refine lv_aload_n hx hb dL_law_629 rfl (lv_at hl 3 rfl) ?_
  refine lv_iload_n hx hb dL_law_630 rfl (lv_at hl 0 rfl) ?_
  refine lv_iconst (v := nI 1) hx hb dL_law_631 (by decide) ?_
  refine lv_iadd hx hb dL_law_632 ?_
  refine tp (b := nI (i + 1)) (nI_add _ _) ?_
  refine va_sld hx hb hX hbl hbA hs.2 (vp_in_nI (show i + 1 < nS by omega) (by omega)) dL_law_633 ?_
  refine lv_aload_n hx hb dL_law_634 rfl (lv_at hl 3 rfl) ?_
  refine lv_iload_n hx hb dL_law_635 rfl (lv_at hl 0 rfl) ?_
  refine lv_iconst (v := nI 2) hx hb dL_law_636 (by decide) ?_
  refine lv_iadd hx hb dL_law_637 ?_
  refine tp (b := nI (i + 2)) (nI_add _ _) ?_
  refine va_sld hx hb hX hbl hbA hs.2 (vp_in_nI (show i + 2 < nS by omega) (by omega)) dL_law_638 ?_
  refine zVP E hs lkL_99 [] (c_X6_party l x ar fd w f o z n hci (xs (nI (i + 1)).toNatClampNeg) (xs (nI (i + 2)).toNatClampNeg)) (by decide) (sh5 rfl) rfl ⟨Nat.le_of_ble_eq_true rfl, Nat.le_of_ble_eq_true rfl⟩ rfl hl.1 (Nat.le_of_ble_eq_true rfl) rfl dL_law_639 (fun r1 H locs hp1 hs => ?_)
  refine lv_aload_n hx hb dL_law_642 rfl (lv_at hl 1 rfl) ?_
  refine lv_aload_n hx hb dL_law_643 rfl (lv_at hl 3 rfl) ?_
  refine lv_iload_n hx hb dL_law_644 rfl (lv_at hl 0 rfl) ?_
  refine lv_iconst (v := nI 1) hx hb dL_law_645 (by decide) ?_
  refine lv_iadd hx hb dL_law_646 ?_
  refine tp (b := nI (i + 1)) (nI_add _ _) ?_
  refine va_sld hx hb hX hbl hbA hs.2 (vp_in_nI (show i + 1 < nS by omega) (by omega)) dL_law_647 ?_
  refine lv_aload_n hx hb dL_law_648 rfl (lv_at hl 3 rfl) ?_
  refine lv_iload_n hx hb dL_law_649 rfl (lv_at hl 0 rfl) ?_
  refine lv_iconst (v := nI 2) hx hb dL_law_650 (by decide) ?_
  refine lv_iadd hx hb dL_law_651 ?_
  refine tp (b := nI (i + 2)) (nI_add _ _) ?_
  refine va_sld hx hb hX hbl hbA hs.2 (vp_in_nI (show i + 2 < nS by omega) (by omega)) dL_law_652 ?_
  refine zVP E hs lkL_102 [.int r1] (c_X7_party l x ar fd ar fd w f hM o z n (xs (nI (i + 1)).toNatClampNeg) (xs (nI (i + 2)).toNatClampNeg)) (by decide) (sh6 rfl) rfl ⟨Nat.le_of_ble_eq_true rfl, Nat.le_of_ble_eq_true rfl⟩ rfl hl.1 (Nat.le_of_ble_eq_true rfl) rfl dL_law_653 (fun r2 H locs hp2 hs => ?_)
  exact lv_icmp_eq (tgt := 697) hx hb dL_law_656 (by decide) (fun _ => k ar fd H locs ⟨w, f, o, z, n, hRR⟩ hs) (fun h => absurd (hp2.trans hp1.symm).symm h)
set_option maxHeartbeats 4000000 in
set_option maxRecDepth 100000 in
theorem lc_fairness {p : Program} {e : Env} {s : State} {m : MethodId} {below : List Frame} {meth : Method} {c : Code} (l : Launch) {b nS : Nat} {xs : Nat → Int32} {x : CT} {Q : State → Prop} (E : EV p room_1 s m #[Value.ref b] meth c cL_law 4 RL (some .boolean) 110 2802 (fun q => s.heap.size ≤ q) x) (hX : va_X b nS xs s s.heap) (hbl : b < s.heap.size) (hS : nS ≤ 2048) {i : Nat} (hi : i + 4 ≤ nS) {ar fd : AR} {H : Heap} {locs : List Loc} {ls : Array Slot} (hs : ST x (fun q => s.heap.size ≤ q) s.heap ar fd H locs) (hl : lv_has ls 4 [(3, .int (nI i)), (2, .ref (xa x 102)), (1, .ref (xa x 0)), (0, .ref b)]) (hR : RRE ar fd) (k : ∀ (ar fd : AR) (H : Heap) (locs : List Loc), RRE ar fd → ST x (fun q => s.heap.size ≤ q) s.heap ar fd H locs → W p l e room_1 s m #[Value.ref b] below meth c H locs 110 2802 Q (F0 m 697 ls [])) : W p l e room_1 s m #[Value.ref b] below meth c H locs 110 2802 Q (F0 m 661 ls []) := by
  obtain ⟨w, f, o, z, n, hRR⟩ := hR
  obtain ⟨⟨hci, hM, hstg, hst⟩, hL, ⟨hz, hn, hz4, hn60⟩, hBw, hBf⟩ := RR_all hRR
  have hx := E.1
  have hb := E.2.1
  have hbA : ¬ (fun q => s.heap.size ≤ q) b := Nat.not_le.mpr hbl
  refine lv_aload_n hx hb dL_law_661 rfl (lv_at hl 2 rfl) ?_
  refine zVP E hs lkL_103 [] (c_X6_fairness l x ar fd w f o z n hci) (by decide) (sh5 rfl) rfl ⟨Nat.le_of_ble_eq_true rfl, Nat.le_of_ble_eq_true rfl⟩ rfl hl.1 (Nat.le_of_ble_eq_true rfl) rfl dL_law_662 (fun r1 H locs hp1 hs => ?_)
  refine lv_aload_n hx hb dL_law_665 rfl (lv_at hl 1 rfl) ?_
  refine zVP E hs lkL_106 [.int r1] (c_X7_fairness l x ar fd ar fd w f hM o z n) (by decide) (sh6 rfl) rfl ⟨Nat.le_of_ble_eq_true rfl, Nat.le_of_ble_eq_true rfl⟩ rfl hl.1 (Nat.le_of_ble_eq_true rfl) rfl dL_law_666 (fun r2 H locs hp2 hs => ?_)
  exact lv_icmp_eq (tgt := 697) hx hb dL_law_669 (by decide) (fun _ => k ar fd H locs ⟨w, f, o, z, n, hRR⟩ hs) (fun h => absurd (hp2.trans hp1.symm).symm h)
set_option maxHeartbeats 4000000 in
set_option maxRecDepth 100000 in
theorem lc_count {p : Program} {e : Env} {s : State} {m : MethodId} {below : List Frame} {meth : Method} {c : Code} (l : Launch) {b nS : Nat} {xs : Nat → Int32} {x : CT} {Q : State → Prop} (E : EV p room_1 s m #[Value.ref b] meth c cL_law 4 RL (some .boolean) 110 2802 (fun q => s.heap.size ≤ q) x) (hX : va_X b nS xs s s.heap) (hbl : b < s.heap.size) (hS : nS ≤ 2048) {i : Nat} (hi : i + 4 ≤ nS) {ar fd : AR} {H : Heap} {locs : List Loc} {ls : Array Slot} (hs : ST x (fun q => s.heap.size ≤ q) s.heap ar fd H locs) (hl : lv_has ls 4 [(3, .int (nI i)), (2, .ref (xa x 102)), (1, .ref (xa x 0)), (0, .ref b)]) (hR : RRE ar fd) (k : ∀ (ar fd : AR) (H : Heap) (locs : List Loc), RRE ar fd → ST x (fun q => s.heap.size ≤ q) s.heap ar fd H locs → W p l e room_1 s m #[Value.ref b] below meth c H locs 110 2802 Q (F0 m 697 ls [])) : W p l e room_1 s m #[Value.ref b] below meth c H locs 110 2802 Q (F0 m 674 ls []) := by
  obtain ⟨w, f, o, z, n, hRR⟩ := hR
  obtain ⟨⟨hci, hM, hstg, hst⟩, hL, ⟨hz, hn, hz4, hn60⟩, hBw, hBf⟩ := RR_all hRR
  have hx := E.1
  have hb := E.2.1
  have hbA : ¬ (fun q => s.heap.size ≤ q) b := Nat.not_le.mpr hbl
  refine lv_aload_n hx hb dL_law_674 rfl (lv_at hl 2 rfl) ?_
  refine lv_aload_n hx hb dL_law_675 rfl (lv_at hl 3 rfl) ?_
  refine lv_iload_n hx hb dL_law_676 rfl (lv_at hl 0 rfl) ?_
  refine lv_iconst (v := nI 1) hx hb dL_law_677 (by decide) ?_
  refine lv_iadd hx hb dL_law_678 ?_
  refine tp (b := nI (i + 1)) (nI_add _ _) ?_
  refine va_sld hx hb hX hbl hbA hs.2 (vp_in_nI (show i + 1 < nS by omega) (by omega)) dL_law_679 ?_
  refine zVP E hs lkL_107 [] (c_X6_count l x ar fd w f o z n hci (xs (nI (i + 1)).toNatClampNeg)) (by decide) (sh5 rfl) rfl ⟨Nat.le_of_ble_eq_true rfl, Nat.le_of_ble_eq_true rfl⟩ rfl hl.1 (Nat.le_of_ble_eq_true rfl) rfl dL_law_680 (fun r1 H locs hp1 hs => ?_)
  refine lv_aload_n hx hb dL_law_683 rfl (lv_at hl 1 rfl) ?_
  refine lv_aload_n hx hb dL_law_684 rfl (lv_at hl 3 rfl) ?_
  refine lv_iload_n hx hb dL_law_685 rfl (lv_at hl 0 rfl) ?_
  refine lv_iconst (v := nI 1) hx hb dL_law_686 (by decide) ?_
  refine lv_iadd hx hb dL_law_687 ?_
  refine tp (b := nI (i + 1)) (nI_add _ _) ?_
  refine va_sld hx hb hX hbl hbA hs.2 (vp_in_nI (show i + 1 < nS by omega) (by omega)) dL_law_688 ?_
  refine zVP E hs lkL_110 [.int r1] (c_X7_count l x ar fd ar fd w f hM o z n hz hn hstg (xs (nI (i + 1)).toNatClampNeg)) (by decide) (sh6 rfl) rfl ⟨Nat.le_of_ble_eq_true rfl, Nat.le_of_ble_eq_true rfl⟩ rfl hl.1 (Nat.le_of_ble_eq_true rfl) rfl dL_law_689 (fun r2 H locs hp2 hs => ?_)
  exact lv_icmp_eq (tgt := 697) hx hb dL_law_692 (by decide) (fun _ => k ar fd H locs ⟨w, f, o, z, n, hRR⟩ hs) (fun h => absurd (hp2.trans hp1.symm).symm h)
