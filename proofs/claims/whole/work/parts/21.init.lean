
/-! constructors: a world that grows -/
def EC (p : Program) (s : State) (m : MethodId) (args : Array Value) (meth : Method) (c : Code) (cc : ByteArray) (nL : Nat) (own : String) (x : CT) : Prop :=
  p.tables.exec = Jvm.exec ∧ c.code = cc ∧ c.maxLocals = nL ∧ s.vm.findClass own = some m.cls ∧ (∀ w ∈ TB, w.before args s = true) ∧ va_K (xD x) vwCl (xt x) s ∧ meth.locks = false ∧ meth.sig.returnType = none ∧ meth.name = "<init>"
def EB (p : Program) (s : State) (m : MethodId) (args : Array Value) (c : Code) (cc : ByteArray) (nL : Nat) (own : String) (x : CT) : Prop :=
  p.tables.exec = Jvm.exec ∧ c.code = cc ∧ c.maxLocals = nL ∧ s.vm.findClass own = some m.cls ∧ (∀ w ∈ TB, w.before args s = true) ∧ va_K (xD x) vwCl (xt x) s
def WS (x : CT) (A : Nat → Prop) (H0 : Heap) (ws : va_W) (H : Heap) (locs : List Loc) : Prop := va_P (xD x) vwCl ws H ∧ va_D A ws ∧ va_S A H0 H locs
/-- what the tables say of the nest's calls and of arrays of states -/
def NA (U : State) : Prop := va_Nw (.methodLinkNest RX6 9 yX4_init RX6) U ∧ va_Nw (.methodLinkNest RX1 24 yX4_init RX6) U ∧ va_Nw (.methodLinkNest RX6 32 yX5_init RX6) U ∧ va_Nw (.methodLinkNest RX6 39 yX2_init RX6) U ∧ va_AO RX4 U
theorem NA.same {u U : State} (h : u.vm = U.vm) (hN : NA u) : NA U := ⟨hN.1.same rfl h, hN.2.1.same rfl h, hN.2.2.1.same rfl h, hN.2.2.2.1.same rfl h, hN.2.2.2.2.moved (by rw [h]; exact Vm.Alike.refl _)⟩
theorem NA.warm {s U : State} (hW : s.WarmedH U.vm) (hN : NA s) : NA U := ⟨va_Nw.warmM hW hN.1, va_Nw.warmM hW hN.2.1, va_Nw.warmM hW hN.2.2.1, va_Nw.warmM hW hN.2.2.2.1, hN.2.2.2.2.moved hW.alike⟩
def rmC (fr lo mc ms : Nat) : Room := { frames := fr, cells := mc, slots := ms, locals := lo }
def CC (l : Launch) (y : MethodName) (cc : ByteArray) (n fr lo mc ms : Nat) (x : CT) (a : Nat) (e0 : va_E) (as : List Value) (post : va_W → Prop) : Prop :=
  ∀ sz : Nat, Met l y (.code y cc n none :: TB) (rmC fr lo mc ms) (va_Pc (.ref a :: as) (fun U => U.heap.size = sz ∧ va_P (xD x) vwCl [(a, e0)] U.heap ∧ va_K (xD x) vwCl (xt x) U ∧ NA U)) (va_Qv post (fun w1 t => va_P (xD x) vwCl w1 t.heap ∧ va_D (va_A [(a, e0)] sz) w1) (va_A [(a, e0)] sz)) mc ms (va_A [(a, e0)] sz)
def QC (below : List Frame) (x : CT) (as : List Value) (s : State) (mc ms : Nat) (A : Nat → Prop) (post : va_W → Prop) : State → Prop := MQ below (va_Qv post (fun w1 t => va_P (xD x) vwCl w1 t.heap ∧ va_D A w1) A) as.toArray s mc ms A
theorem vd1 {A : Nat → Prop} {a : Nat} {e : va_E} (h : A a) : va_D A [(a, e)] := by
  refine ⟨fun i j p q hi hj _ => ?_, fun k q hk => ?_⟩
  · have h1 := (List.getElem?_eq_some_iff.mp hi).1
    have h2 := (List.getElem?_eq_some_iff.mp hj).1
    simp only [List.length_cons, List.length_nil] at h1 h2
    omega
  · have h1 := (List.getElem?_eq_some_iff.mp hk).1
    simp only [List.length_cons, List.length_nil] at h1
    rw [show k = 0 by omega] at hk
    cases hk
    exact h
theorem va_Dfst {A : Nat → Prop} {w w2 : va_W} (h : w.map Prod.fst = w2.map Prod.fst) (hD : va_D A w) : va_D A w2 := by
  have key : ∀ (k : Nat) (q : Nat × va_E), w2[k]? = some q → ∃ q2, w[k]? = some q2 ∧ q2.1 = q.1 := by
    intro k q hk
    have h1 : (w.map Prod.fst)[k]? = some q.1 := by rw [h, List.getElem?_map, hk]; rfl
    rw [List.getElem?_map] at h1
    cases h2 : w[k]? with
    | none => rw [h2] at h1; cases h1
    | some q2 => rw [h2] at h1; exact ⟨q2, rfl, Option.some.inj h1⟩
  refine ⟨fun i j p q hi hj hpq => ?_, fun k q hk => ?_⟩
  · obtain ⟨p2, a1, a2⟩ := key i p hi
    obtain ⟨q2, b1, b2⟩ := key j q hj
    exact hD.1 i j p2 q2 a1 b1 (by rw [a2, b2]; exact hpq)
  · obtain ⟨q2, b1, b2⟩ := key k q hk
    exact b2 ▸ hD.2 k q2 b1
theorem va_ext2 {D : va_G} {cl : List vw_C} {ws : va_W} {q n : Nat} {cA : ClassId} {g g2 : Nat → Int32} {H : Heap} (h : ∀ j, j < n → g j = g2 j) (hP : va_P D cl (ws ++ [(q, .inl (cA, n, .inl g))]) H) : va_P D cl (ws ++ [(q, .inl (cA, n, .inl g2))]) H := by
  have e : vp_cell cA (n, .inl g) = vp_cell cA (n, .inl g2) := by
    rw [vp_cell_i, vp_cell_i]
    simp only [arrV]
    rw [show (fun (j : Fin n) => Value.int (g j.1)) = fun (j : Fin n) => Value.int (g2 j.1) from funext fun j => by rw [h j.1 j.2]]
  intro k z hk
  by_cases hl : k < ws.length
  · rw [List.getElem?_append_left hl] at hk
    exact hP k z (by rw [List.getElem?_append_left hl]; exact hk)
  · have h1 := (List.getElem?_eq_some_iff.mp hk).1
    simp only [List.length_append, List.length_cons, List.length_nil] at h1
    rw [List.getElem?_append_right (by omega), show k - ws.length = 0 by omega] at hk
    cases hk
    have h2 := hP k (q, .inl (cA, n, .inl g)) (by rw [List.getElem?_append_right (by omega), show k - ws.length = 0 by omega]; rfl)
    exact h2.trans (congrArg some e)
/-- behind a constructor's call: what was there before, and what it made -/
theorem zjoin {A0 : Nat → Prop} {D : va_G} {cl : List vw_C} {wr wc w1 : va_W} {H H1 : Heap} (hP : va_P D cl (wr ++ wc) H) (hD : va_D A0 (wr ++ wc)) (hk : ∀ q : Nat, q < H.size → ¬ va_A wc H.size q → H1[q]? = H[q]?) (hF : ∀ q, va_A wc H.size q → A0 q) (hP1 : va_P D cl w1 H1) (hD1 : va_D (va_A wc H.size) w1) : va_P D cl (wr ++ w1) H1 ∧ va_D A0 (wr ++ w1) := by
  have lft : ∀ (k : Nat) (q : Nat × va_E), wr[k]? = some q → (wr ++ wc)[k]? = some q := fun k q hq => by
    rw [List.getElem?_append_left (List.getElem?_eq_some_iff.mp hq).1]; exact hq
  have apart : ∀ (k : Nat) (q : Nat × va_E), wr[k]? = some q → q.1 < H.size ∧ ¬ va_A wc H.size q.1 := by
    intro k q hq
    have hlt := (List.getElem?_eq_some_iff.mp hq).1
    have hl := (hP k q (lft k q hq)).lt
    refine ⟨hl, fun h => ?_⟩
    rcases h with ⟨k2, e, h⟩ | h
    · have h4 : (wr ++ wc)[wr.length + k2]? = some (q.1, e) := by
        rw [List.getElem?_append_right (by omega), Nat.add_sub_cancel_left]; exact h
      have := hD.1 k (wr.length + k2) q (q.1, e) (lft k q hq) h4 rfl
      omega
    · omega
  refine ⟨va_P.app (fun k q hq => ?_) hP1, va_D.app ⟨fun i j p q hi hj h => hD.1 i j p q (lft i p hi) (lft j q hj) h, fun k q hk => hD.2 k q (lft k q hk)⟩ (hD1.weaken (fun k q _ h => hF q.1 h)) (fun i j a b hx hy hxy => ?_)⟩
  · obtain ⟨g1, g2⟩ := apart k q hq
    exact (hP k q (lft k q hq)).kept (hk q.1 g1 g2)
  · exact (apart i a hx).2 (by rw [hxy]; exact hD1.2 j b hy)
section INIT
variable {p : Program} {l : Launch} {e : Env} {R : Room} {s : State} {m : MethodId} {args : Array Value} {below : List Frame} {meth : Method} {c : Code} {H : Heap} {locs : List Loc} {cells slots : Nat} {Q : State → Prop}
variable {cc : ByteArray} {nL : Nat} {own : String} {x : CT} {pc : Nat} {ls : Array Slot} {rest st0 as : List Value} {A : Nat → Prop}
variable {y : MethodName} {bytes : ByteArray} {maxL index n fr lo mc ms a : Nat} {e0 : va_E} {post : va_W → Prop} {ws : va_W}
theorem EC.tb (E : EC p s m args meth c cc nL own x) {w : Cond} (h : w ∈ TB) : w.before args s = true := E.2.2.2.2.1 w h
theorem EC.cf (E : EC p s m args meth c cc nL own x) : CallFix p m c cc nL s args TB own := ⟨E.1, E.2.1, E.2.2.1, E.2.2.2.1, E.2.2.2.2.1⟩
theorem EC.K (E : EC p s m args meth c cc nL own x) : va_K (xD x) vwCl (xt x) s := E.2.2.2.2.2.1
theorem EC.lk (E : EC p s m args meth c cc nL own x) : meth.locks = false := E.2.2.2.2.2.2.1
theorem EC.rr (E : EC p s m args meth c cc nL own x) : meth.sig.returnType = none := E.2.2.2.2.2.2.2.1
theorem EC.nm (E : EC p s m args meth c cc nL own x) : meth.name = "<init>" := E.2.2.2.2.2.2.2.2
theorem EC.B (E : EC p s m args meth c cc nL own x) : EB p s m args c cc nL own x := ⟨E.1, E.2.1, E.2.2.1, E.2.2.2.1, E.2.2.2.2.1, E.K⟩
theorem EB.tb (E : EB p s m args c cc nL own x) {w : Cond} (h : w ∈ TB) : w.before args s = true := E.2.2.2.2.1 w h
theorem EB.cf (E : EB p s m args c cc nL own x) : CallFix p m c cc nL s args TB own := ⟨E.1, E.2.1, E.2.2.1, E.2.2.2.1, E.2.2.2.2.1⟩
theorem EB.K (E : EB p s m args c cc nL own x) : va_K (xD x) vwCl (xt x) s := E.2.2.2.2.2
theorem zsC (ho : y.cls = own) (hy : plainName y.cls = true) (hi : y.name = "<init>") (hn : (lg_sl (.ref a :: as)).length ≤ n)
    (body : ∀ (p : Program) (e : Env) (s : State) (m : MethodId) (below : List Frame) (meth : Method) (c : Code) (ls : Array Slot) (A : Nat → Prop), EC p s m (Value.ref a :: as).toArray meth c cc n own x → NA s → (∀ q, s.heap.size ≤ q → A q) → WS x A s.heap [(a, e0)] s.heap [] → lv_has ls n (lv_args 0 (.ref a :: as)) → W p l e (rmC fr lo mc ms) s m (Value.ref a :: as).toArray below meth c s.heap [] 0 0 (QC below x (.ref a :: as) s mc ms A post) (F0 m 0 ls [])) : CC l y cc n fr lo mc ms x a e0 as post := by
  intro sz
  refine Met.ofW (cc := cc) (maxL := n) (ret := none) hy rfl ?_
  intro p e s m args below meth c0 s₁ B hml hv
  obtain ⟨rfl, hsz, hP, hK, hN⟩ := hv
  subst hsz
  rw [lg_entry_eq]
  have hts := atoms_spec (ws := .code y cc n none :: TB) B.pre
  exact body p e s m below meth c0 _ _ ⟨B.exec, B.bytes, hml, ho ▸ findClass_of_methodNamed B.named, fun w h => hts w (List.mem_cons_of_mem _ h), hK, B.notSynchronized, B.returns, ((name_of_methodNamed B.named B.method).1).trans hi⟩ hN (fun q h => Or.inr h) ⟨hP, vd1 (Or.inl ⟨0, e0, rfl⟩), va_S.rf⟩ (lv_entry _ hn)
theorem zeC (E : EC p s m as.toArray meth c cc nL own x) (hs : WS x A s.heap ws H locs) (hp : post ws) (h1 : cells = mc) (h2 : slots = ms) (hdg : decode cc pc = .ok (.return_, 1)) : W p l e R s m as.toArray below meth c H locs cells slots (QC below x as s mc ms A post) (F0 m pc ls []) := by
  subst h1
  subst h2
  exact W.vret E.1 E.2.1 E.rr (fun t ht hW => ⟨⟨ws, rfl, hp, by rw [ht]; exact hs.1, hs.2.1⟩, hs.2.2.F ht⟩) hs.2.2.2.2 hdg E.lk
theorem zcobj (E : EC p s m args meth c cc nL own x) {idx : Nat} (h1 : Cond.methodLink own idx Lib.objectInit ∈ TB) (hl : ls.size = nL) (hdg : decode cc pc = .ok (.invokespecial idx, 3)) (hR : 1 ≤ R.frames ∧ 12 ≤ R.locals) (kk : W p l e R s m args below meth c H locs cells slots Q (F0 m (pc + 3) ls [])) : W p l e R s m args below meth c H locs cells slots Q (F0 m pc ls [.ref a]) :=
  W.objInit E.1 E.2.1 E.2.2.2.1 (E.tb h1) (E.tb q_16) (E.tb q_17) rfl (by rw [E.2.2.1]; exact hl) rfl hdg hR.1 (by show 2 * 0 + 0 + 12 ≤ R.locals; omega) kk
theorem zcblind {sz : Nat} : FrameBlind (va_Pc as (fun U => U.heap.size = sz ∧ va_P (xD x) vwCl [(a, e0)] U.heap ∧ va_K (xD x) vwCl (xt x) U ∧ NA U)) := fun a U g mk q => by
  obtain ⟨q1, qs, qP, qK, qN⟩ := q
  exact ⟨q1, qs, qP, va_K.moved (u := U) (U := U.calling g mk a) (Vm.Alike.refl U.vm) qK, qN.same rfl⟩
theorem zcfree {q : Nat} (hA : ∀ q, s.heap.size ≤ q → A q) (hs : WS x A s.heap (ws ++ [(q, e0)]) H locs) : ∀ z, va_A [(q, e0)] H.size z → A z := by
  rintro z (⟨k, e, h⟩ | h)
  · exact hs.2.1.2 (ws.length + k) (z, e) (by rw [List.getElem?_append_right (by omega), Nat.add_sub_cancel_left]; exact h)
  · exact hA z (Nat.le_trans hs.2.2.1 h)
theorem zclast {q : Nat} (hs : WS x A s.heap (ws ++ [(q, e0)]) H locs) : va_P (xD x) vwCl [(q, e0)] H := fun k z hk =>
  hs.1 (ws.length + k) z (by rw [List.getElem?_append_right (by omega), Nat.add_sub_cancel_left]; exact hk)
/-- a constructor's call -/
theorem zcI (E : EB p s m args c cc nL own x) (hN : NA s) (hA : ∀ q, s.heap.size ≤ q → A q) {q : Nat} (hs : WS x A s.heap (ws ++ [(q, e0)]) H locs) (hM : CC l y bytes maxL fr lo mc ms x q e0 as post) (rest : List Value) (h1 : Cond.code y bytes maxL none ∈ TB) (h2 : Cond.initialized y.cls ∈ TB) (h3 : Cond.methodLink own index y ∈ TB) (h4 : Cond.instanceMethod y ∈ TB) (h5 : y.name = "<init>")
    (h6 : y.cls ≠ "java/lang/invoke/MethodHandle" ∧ y.cls ≠ "java/lang/invoke/VarHandle" ∧ (parseMethodDescriptor y.desc).map (fun d => d.parameters.length) = some n) (hR : fr + 1 ≤ R.frames ∧ 8 + (maxL + 11) + lo ≤ R.locals) (hn : as.length = n) (hl : ls.size = nL) (hr : (rest.map fun v => v.category).sum ≤ 8) (hst : st0 = as.reverse ++ .ref q :: rest) (hdg : decode cc pc = .ok (.invokespecial index, 3)) (hroom : cells + mc ≤ R.cells ∧ slots + ms ≤ R.slots)
    (kk : ∀ (w1 : va_W) (H : Heap) (locs : List Loc), post w1 → WS x A s.heap (ws ++ w1) H locs → W p l e R s m args below meth c H locs (cells + mc) (slots + ms) Q (F0 m (pc + 3) ls rest)) : W p l e R s m args below meth c H locs cells slots Q (F0 m pc ls st0) := by
  have hFc := zcfree hA hs
  refine va_callv (va_runI E.cf (hM H.size) ⟨callB_of n E.2.2.2.2.1 (gTB h1) rfl rfl rfl (E.tb h2) (E.tb h3) h6 hR, h5, E.tb h4⟩ ⟨zcblind, fun U hU hW => ⟨rfl, by rw [hU], by rw [hU]; exact zclast hs, E.K.moved hW.alike, hN.warm hW⟩⟩ rfl hn hl hst (lv_room hr) hdg hroom) hs.2.2 (fun z _ h => hFc z h) hFc (fun u t H1 locs1 ht hvm hp hB hz hk hS1 => ?_)
  obtain ⟨hP1, hD1⟩ := hB
  rw [ht] at hP1
  obtain ⟨j1, j2⟩ := zjoin hs.1 hs.2.1 hk hFc hP1 hD1
  exact kk u H1 locs1 hp ⟨j1, j2, hS1⟩
/-- a constructor's call within the nest -/
theorem zcN (E : EB p s m args c cc nL own x) (hN : NA s) (hA : ∀ q, s.heap.size ≤ q → A q) {q : Nat} {host : String} (hs : WS x A s.heap (ws ++ [(q, e0)]) H locs) (hM : CC l y bytes maxL fr lo mc ms x q e0 as post) (rest : List Value) (h1 : Cond.code y bytes maxL none ∈ TB) (h2 : Cond.initialized y.cls ∈ TB) (h3 : va_Nw (.methodLinkNest own index y host) s) (h4 : Cond.instanceMethod y ∈ TB) (h5 : y.name = "<init>")
    (h6 : y.cls ≠ "java/lang/invoke/MethodHandle" ∧ y.cls ≠ "java/lang/invoke/VarHandle" ∧ (parseMethodDescriptor y.desc).map (fun d => d.parameters.length) = some n) (hR : fr + 1 ≤ R.frames ∧ 8 + (maxL + 11) + lo ≤ R.locals) (hn : as.length = n) (hl : ls.size = nL) (hr : (rest.map fun v => v.category).sum ≤ 8) (hst : st0 = as.reverse ++ .ref q :: rest) (hdg : decode cc pc = .ok (.invokespecial index, 3)) (hroom : cells + mc ≤ R.cells ∧ slots + ms ≤ R.slots)
    (kk : ∀ (w1 : va_W) (H : Heap) (locs : List Loc), post w1 → WS x A s.heap (ws ++ w1) H locs → W p l e R s m args below meth c H locs (cells + mc) (slots + ms) Q (F0 m (pc + 3) ls rest)) : W p l e R s m args below meth c H locs cells slots Q (F0 m pc ls st0) := by
  have hFc := zcfree hA hs
  refine va_callv (va_runIN E.cf (hM H.size) ⟨va_cnB n E.2.2.2.2.1 (gTB h1) rfl rfl rfl h3 (E.tb h2) h6 hR, h5, E.tb h4⟩ ⟨zcblind, fun U hU hW => ⟨rfl, by rw [hU], by rw [hU]; exact zclast hs, E.K.moved hW.alike, hN.warm hW⟩⟩ rfl hn hl hst (lv_room hr) hdg hroom) hs.2.2 (fun z _ h => hFc z h) hFc (fun u t H1 locs1 ht hvm hp hB hz hk hS1 => ?_)
  obtain ⟨hP1, hD1⟩ := hB
  rw [ht] at hP1
  obtain ⟨j1, j2⟩ := zjoin hs.1 hs.2.1 hk hFc hP1 hD1
  exact kk u H1 locs1 hp ⟨j1, j2, hS1⟩
end INIT

set_option maxHeartbeats 4000000 in
set_option maxRecDepth 100000 in
/-- a new row: its array, all of one value -/
theorem c_X3_init (l : Launch) (x : CT) (a n : Nat) (hn0 : 0 < n) (hn36 : n ≤ 36) (v : Int32) : CC l yX3_init cX3_init 4 1 12 1 n x a (.inr (2, [.null])) [.int (nI n), .int v] (fun w1 => ∃ q, w1 = [(a, .inr (2, [.ref q])), (q, .inl (xI x, n, .inl (fun _ => v)))]) := by
  refine zsC (own := RX3) rfl (by decide +kernel) rfl (Nat.le_of_ble_eq_true rfl) ?_
  intro p e s m below meth c ls A E hN hA hs hl
  have hx := E.1
  have hb := E.2.1
  have hl : lv_has ls 4 [(0, .ref a), (1, .int (nI n)), (2, .int v)] := hl
  refine lv_aload_n hx hb dX3_init_0 rfl (lv_at hl 0 rfl) ?_
  refine zcobj E q_29 hl.1 dX3_init_1 ⟨Nat.le_refl _, Nat.le_refl _⟩ ?_
  refine lv_aload_n hx hb dX3_init_4 rfl (lv_at hl 0 rfl) ?_
  refine lv_iload_n hx hb dX3_init_5 rfl (lv_at hl 1 rfl) ?_
  refine lv_if_le (tgt := 13) hx hb dX3_init_6 (by decide) (fun h => absurd ((nI_leI (a := n) (b := 0) (by omega) (by omega)).mp h) (by omega)) (fun _ => ?_)
  refine lv_iload_n hx hb dX3_init_9 rfl (lv_at hl 1 rfl) ?_
  refine lv_goto (tgt := 14) hx hb dX3_init_10 (by decide) ?_
  refine va_newa (atype := .int) (n := nI n) (N' := n) (a0 := (n, .inl (fun _ => 0))) hx hb (E.tb q_34) rfl E.K hs.1 hs.2.1 hs.2.2 hA (fun cA => rfl) (nI_pos (by omega)) (nI_clamp (by omega)) (by show n * 4 ≤ _; omega) (Nat.le_refl _) (by show 0 + n ≤ n; omega) dX3_init_14 (fun q cA H hK2 hP hD hS => ?_)
  have hcA : cA = xI x := Option.some.inj ((show s.vm.findClass ("[" ++ FieldType.int.toString) = some cA from (hK2.2 4 _ rfl).2).symm.trans (show s.vm.findClass ("[" ++ FieldType.int.toString) = some (xI x) from (E.K.2 0 _ rfl).2))
  subst hcA
  have hP : va_P (xD x) vwCl [(a, .inr (2, [.null])), (q, .inl (xI x, n, .inl (fun _ => 0)))] H := hP
  have hD : va_D A [(a, .inr (2, [.null])), (q, .inl (xI x, n, .inl (fun _ => 0)))] := hD
  refine va_putF (ci := 2) (v := .ref q) (ty := .array .int) (C := RX3) (T := TX3) (N := 1) hx hb E.2.2.2.2.1 iX3 tyX3 tyX3_ok nmX3 E.2.2.2.1 E.K hP hD hS 0 rfl rfl 0 (by decide) (E.tb q_30) (fun _ h => h) rfl E.nm rfl (by decide +kernel) rfl rfl (Nat.le_of_ble_eq_true rfl) dX3_init_16 (fun H locs hP hD hS => ?_)
  have hs : WS x A s.heap [(a, .inr (2, [.ref q])), (q, .inl (xI x, n, .inl (fun _ => 0)))] H locs := ⟨hP, hD, hS⟩
  refine lv_iconst (v := nI 0) hx hb dX3_init_19 (by decide) ?_
  refine lv_istore_n (lv' := [(3, .int (nI 0)), (0, .ref a), (1, .int (nI n)), (2, .int v)]) hx hb dX3_init_20 rfl hl (by decide) rfl (fun ls hl => ?_)
  have L : ∀ (mm : Nat) (i : Nat) (g : Nat → Int32), n - i < mm → i ≤ n → (∀ j, j < i → g j = v) → ∀ (H : Heap) (locs : List Loc) (ls : Array Slot), WS x A s.heap [(a, .inr (2, [.ref q])), (q, .inl (xI x, n, .inl g))] H locs → lv_has ls 4 [(3, .int (nI i)), (0, .ref a), (1, .int (nI n)), (2, .int v)] → W p l e (rmC 1 12 1 n) s m ([.ref a, .int (nI n), .int v] : List Value).toArray below meth c H locs (0 + 1) (0 + n) (QC below x [.ref a, .int (nI n), .int v] s 1 n A (fun w1 => ∃ q, w1 = [(a, .inr (2, [.ref q])), (q, .inl (xI x, n, .inl (fun _ => v)))])) (F0 m 21 ls []) := by
    intro mm
    induction mm with
    | zero => intro i g hmu; exact absurd hmu (Nat.not_lt_zero _)
    | succ mm ih =>
      intro i g hmu hi h1 H locs ls hs hl
      refine lv_iload_n hx hb dX3_init_21 rfl (lv_at hl 0 rfl) ?_
      refine lv_aload_n hx hb dX3_init_22 rfl (lv_at hl 1 rfl) ?_
      refine va_get (ci := 2) (v := .ref q) (C := RX3) (T := TX3) (N := 1) hx hb E.2.2.2.2.1 iX3 E.2.2.2.1 E.K hs.1 0 rfl rfl 0 (by decide) (E.tb q_30) (fun _ h => h) rfl dX3_init_23 ?_
      refine va_alen (v := nI n) (cA := xI x) (ty := .int) hx hb E.K hs.1 1 0 rfl rfl rfl dX3_init_26 ?_
      refine lv_icmp_ge (tgt := 43) hx hb dX3_init_27 (by decide) (fun h => ?_) (fun h => ?_)
      · have h2 : n ≤ i := (nI_leI (a := n) (b := i) (by omega) (by omega)).mp h
        exact zeC E (ws := [(a, .inr (2, [.ref q])), (q, .inl (xI x, n, .inl (fun _ => v)))]) ⟨va_ext2 (ws := [(a, .inr (2, [.ref q]))]) (fun j hj => h1 j (by omega)) hs.1, va_Dfst (w := [(a, .inr (2, [.ref q])), (q, .inl (xI x, n, .inl g))]) rfl hs.2.1, hs.2.2⟩ ⟨q, rfl⟩ rfl (Nat.zero_add n) dX3_init_43
      · have h2 : ¬ n ≤ i := fun z => h ((nI_leI (a := n) (b := i) (by omega) (by omega)).mpr z)
        refine lv_aload_n hx hb dX3_init_30 rfl (lv_at hl 1 rfl) ?_
        refine va_get (ci := 2) (v := .ref q) (C := RX3) (T := TX3) (N := 1) hx hb E.2.2.2.2.1 iX3 E.2.2.2.1 E.K hs.1 0 rfl rfl 0 (by decide) (E.tb q_30) (fun _ h => h) rfl dX3_init_31 ?_
        refine lv_iload_n hx hb dX3_init_34 rfl (lv_at hl 0 rfl) ?_
        refine lv_iload_n hx hb dX3_init_35 rfl (lv_at hl 3 rfl) ?_
        refine va_iast hx hb E.K hs.1 hs.2.1 hs.2.2 1 0 rfl rfl (vp_in_nI (by omega) (by omega)) dX3_init_36 (fun H locs hP hD hS => ?_)
        rw [nI_clamp (by omega)] at hP hD
        refine lv_iinc (v := nI (i + 1)) (lv' := [(3, .int (nI (i + 1))), (0, .ref a), (1, .int (nI n)), (2, .int v)]) hx hb dX3_init_37 hl (k := 0) rfl (nI_inc _) (by decide) rfl (fun ls hl => ?_)
        refine lv_goto (tgt := 21) hx hb dX3_init_40 (by decide) ?_
        exact ih (i + 1) (upd g i v) (by omega) (by omega) (fun j hj => by
          unfold upd
          by_cases e : j = i
          · rw [if_pos e]
          · rw [if_neg e]; exact h1 j (by omega)) _ _ _ ⟨hP, hD, hS⟩ hl
  exact L (n + 1) 0 (fun _ => 0) (by omega) (by omega) (fun _ h => absurd h (Nat.not_lt_zero _)) _ _ _ hs hl

theorem hfX1 : ∀ j, j < 3 → defaultValue (tyX1 j) = vp_V [.null, .int 0, .int 0] j := by
  intro j hj
  rcases (show j = 0 ∨ j = 1 ∨ j = 2 by omega) with rfl | rfl | rfl <;> rfl
theorem hfX2 : ∀ j, j < 2 → defaultValue (tyX2 j) = vp_V [.null, .null] j := by
  intro j hj
  rcases (show j = 0 ∨ j = 1 by omega) with rfl | rfl <;> rfl
theorem hfX3 : ∀ j, j < 1 → defaultValue (tyX3 j) = vp_V [.null] j := by
  intro j hj
  rcases (show j = 0 by omega) with rfl <;> rfl
theorem hfX4 : ∀ j, j < 11 → defaultValue (tyX4 j) = vp_V [.null, .null, .null, .null, .null, .null, .null, .int 0, .int 0, .int 0, .int 0] j := by
  intro j hj
  rcases (show j = 0 ∨ j = 1 ∨ j = 2 ∨ j = 3 ∨ j = 4 ∨ j = 5 ∨ j = 6 ∨ j = 7 ∨ j = 8 ∨ j = 9 ∨ j = 10 by omega) with rfl | rfl | rfl | rfl | rfl | rfl | rfl | rfl | rfl | rfl | rfl <;> rfl
theorem hfX5 : ∀ j, j < 2 → defaultValue (tyX5 j) = vp_V [.null, .int 0] j := by
  intro j hj
  rcases (show j = 0 ∨ j = 1 by omega) with rfl | rfl <;> rfl
theorem hfX6 : ∀ j, j < 7 → defaultValue (tyX6 j) = vp_V [.null, .null, .null, .int 0, .null, .null, .null] j := by
  intro j hj
  rcases (show j = 0 ∨ j = 1 ∨ j = 2 ∨ j = 3 ∨ j = 4 ∨ j = 5 ∨ j = 6 by omega) with rfl | rfl | rfl | rfl | rfl | rfl | rfl <;> rfl
theorem hfX7 : ∀ j, j < 11 → defaultValue (tyX7 j) = vp_V [.null, .null, .null, .int 0, .int 0, .null, .int 0, .int 0, .null, .null, .null] j := by
  intro j hj
  rcases (show j = 0 ∨ j = 1 ∨ j = 2 ∨ j = 3 ∨ j = 4 ∨ j = 5 ∨ j = 6 ∨ j = 7 ∨ j = 8 ∨ j = 9 ∨ j = 10 by omega) with rfl | rfl | rfl | rfl | rfl | rfl | rfl | rfl | rfl | rfl | rfl <;> rfl

def blk (x : CT) (a : Nat) (g : Nat → Nat) : va_W := [(a, .inr (3, [.ref (g 1), .ref (g 3), .ref (g 5), .ref (g 7), .ref (g 9), .ref (g 11), .ref (g 13), .int (nI 4), .int (nI 0), .int (nI 0), .int (nI 0)])), (g 1, .inr (2, [.ref (g 2)])), (g 2, .inl (xI x, 36, .inl (fun _ => nI 0))), (g 3, .inr (2, [.ref (g 4)])), (g 4, .inl (xI x, 36, .inl (fun _ => nI 0))), (g 5, .inr (2, [.ref (g 6)])), (g 6, .inl (xI x, 36, .inl (fun _ => (-1)))), (g 7, .inr (2, [.ref (g 8)])), (g 8, .inl (xI x, 36, .inl (fun _ => (-1)))), (g 9, .inr (2, [.ref (g 10)])), (g 10, .inl (xI x, 36, .inl (fun _ => (-1)))), (g 11, .inr (2, [.ref (g 12)])), (g 12, .inl (xI x, 9, .inl (fun _ => (-1)))), (g 13, .inr (2, [.ref (g 14)])), (g 14, .inl (xI x, 2, .inl (fun _ => nI 0)))]

def blj (x : CT) (a : Nat) (g : Nat → Nat) : va_W := [(a, .inr (1, [.ref (g 1), .ref (g 3)])), (g 1, .inr (2, [.ref (g 2)])), (g 2, .inl (xI x, 36, .inl (fun _ => nI 0))), (g 3, .inr (2, [.ref (g 4)])), (g 4, .inl (xI x, 36, .inl (fun _ => (-1))))]

set_option maxHeartbeats 4000000 in
set_option maxRecDepth 100000 in
/-- a new text -/
theorem c_X5_init (l : Launch) (x : CT) (a : Nat) : CC l yX5_init cX5_init 1 1 12 1 60 x a (.inr (4, [.null, .int 0])) [] (fun w1 => ∃ q, w1 = [(a, .inr (4, [.ref q, .int (nI 0)])), (q, .inl (xC x, 60, .inl (fun _ => 0)))]) := by
  refine zsC (own := RX5) rfl (by decide +kernel) rfl (Nat.le_of_ble_eq_true rfl) ?_
  intro p e s m below meth c ls A E hN hA hs hl
  have hx := E.1
  have hb := E.2.1
  have hl : lv_has ls 1 [(0, .ref a)] := hl
  refine lv_aload_n hx hb dX5_init_0 rfl (lv_at hl 0 rfl) ?_
  refine zcobj E q_104 hl.1 dX5_init_1 ⟨Nat.le_of_ble_eq_true rfl, Nat.le_of_ble_eq_true rfl⟩ ?_
  refine lv_aload_n hx hb dX5_init_4 rfl (lv_at hl 0 rfl) ?_
  refine lv_bipush (v := nI 60) hx hb dX5_init_5 (by decide) ?_
  refine va_newa (atype := .char) (n := nI 60) (N' := 60) (a0 := (60, .inl (fun _ => 0))) hx hb (E.tb q_112) rfl E.K hs.1 hs.2.1 hs.2.2 hA (fun cA => rfl) (nI_pos (by decide)) (nI_clamp (by decide)) (Nat.le_of_ble_eq_true rfl) (Nat.le_of_ble_eq_true rfl) (Nat.le_of_ble_eq_true rfl) dX5_init_7 (fun q0 cA H hK2 hP hD hS => ?_)
  have hcA : cA = xC x := Option.some.inj ((show s.vm.findClass ("[" ++ FieldType.char.toString) = some cA from (hK2.2 4 _ rfl).2).symm.trans (show s.vm.findClass ("[" ++ FieldType.char.toString) = some (xC x) from (E.K.2 1 _ rfl).2))
  subst hcA
  have hs := (⟨hP, hD, hS⟩ : WS x A s.heap ([(a, .inr (4, [.null, .int 0]))] ++ [(q0, .inl (xC x, 60, .inl (fun _ => 0)))]) H _)
  refine va_putF (ci := 4) (v := .ref q0) (ty := .array .char) (C := RX5) (T := TX5) (N := 2) hx hb E.2.2.2.2.1 iX5 tyX5 tyX5_ok nmX5 E.2.2.2.1 E.K hs.1 hs.2.1 hs.2.2 0 rfl rfl 0 (by decide) (E.tb q_105) (fun _ h => h) rfl E.nm rfl (by decide +kernel) rfl rfl (Nat.le_of_ble_eq_true rfl) dX5_init_9 (fun H locs hP hD hS => ?_)
  have hs := (⟨hP, hD, hS⟩ : WS x A s.heap ([(a, .inr (4, [.ref q0, .int 0]))] ++ [(q0, .inl (xC x, 60, .inl (fun _ => 0)))]) H locs)
  refine lv_aload_n hx hb dX5_init_12 rfl (lv_at hl 0 rfl) ?_
  refine lv_iconst (v := nI 0) hx hb dX5_init_13 (by decide) ?_
  refine va_put (ci := 4) (v := .int (nI 0)) (ty := .int) (C := RX5) (T := TX5) (N := 2) hx hb E.2.2.2.2.1 iX5 tyX5 tyX5_ok nmX5 E.2.2.2.1 E.K hs.1 hs.2.1 hs.2.2 0 rfl rfl 1 (by decide) (E.tb q_106) (fun _ h => h) rfl (by decide +kernel) rfl rfl (Nat.le_of_ble_eq_true rfl) dX5_init_14 (fun H locs hP hD hS => ?_)
  have hs := (⟨hP, hD, hS⟩ : WS x A s.heap ([(a, .inr (4, [.ref q0, .int (nI 0)]))] ++ [(q0, .inl (xC x, 60, .inl (fun _ => 0)))]) H locs)
  exact zeC E hs ⟨q0, rfl⟩ rfl rfl dX5_init_17

set_option maxHeartbeats 4000000 in
set_option maxRecDepth 100000 in
/-- a new judge -/
theorem c_X2_init (l : Launch) (x : CT) (a : Nat) : CC l yX2_init cX2_init 1 2 35 4 74 x a (.inr (1, [.null, .null])) [] (fun w1 => ∃ g, w1 = blj x a g) := by
  refine zsC (own := RX2) rfl (by decide +kernel) rfl (Nat.le_of_ble_eq_true rfl) ?_
  intro p e s m below meth c ls A E hN hA hs hl
  have hx := E.1
  have hb := E.2.1
  have hl : lv_has ls 1 [(0, .ref a)] := hl
  refine lv_aload_n hx hb dX2_init_0 rfl (lv_at hl 0 rfl) ?_
  refine zcobj E q_118 hl.1 dX2_init_1 ⟨Nat.le_of_ble_eq_true rfl, Nat.le_of_ble_eq_true rfl⟩ ?_
  refine lv_aload_n hx hb dX2_init_4 rfl (lv_at hl 0 rfl) ?_
  refine va_new (ci := 2) (fs := [.null]) (C := RX3) (T := TX3) (N := 1) hx hb E.2.2.2.2.1 iX3 tyX3 tyX3_ok E.2.2.2.1 (E.tb q_119) (E.tb q_25) (E.tb q_3) E.K hs.1 hs.2.1 hs.2.2 hA rfl hfX3 (Nat.le_of_ble_eq_true rfl) (Nat.le_of_ble_eq_true rfl) dX2_init_5 (fun q0 H hP hD hS => ?_)
  have hs := (⟨hP, hD, hS⟩ : WS x A s.heap ([(a, .inr (1, [.null, .null]))] ++ [(q0, .inr (2, [.null]))]) H _)
  refine lv_dup hx hb dX2_init_8 rfl ?_
  refine lv_bipush (v := nI 36) hx hb dX2_init_9 (by decide) ?_
  refine lv_iconst (v := nI 0) hx hb dX2_init_11 (by decide) ?_
  refine zcI E.B hN hA hs (c_X3_init l x q0 36 (by decide) (by decide) (nI 0)) [.ref q0, .ref a] q_28 q_3 q_120 q_27 rfl hyX3_init ⟨Nat.le_of_ble_eq_true rfl, Nat.le_of_ble_eq_true rfl⟩ rfl hl.1 (Nat.le_of_ble_eq_true rfl) rfl dX2_init_12 ⟨Nat.le_of_ble_eq_true rfl, Nat.le_of_ble_eq_true rfl⟩ (fun w1 H locs hp hs => ?_)
  obtain ⟨r0, rfl⟩ := hp
  refine va_putF (ci := 1) (v := .ref q0) (ty := .object "FrozenDistricts$Row") (C := RX2) (T := TX2) (N := 2) hx hb E.2.2.2.2.1 iX2 tyX2 tyX2_ok nmX2 E.2.2.2.1 E.K hs.1 hs.2.1 hs.2.2 0 rfl rfl 0 (by decide) (E.tb q_121) (fun _ h => h) rfl E.nm rfl (by decide +kernel) rfl rfl (Nat.le_of_ble_eq_true rfl) dX2_init_15 (fun H locs hP hD hS => ?_)
  have hs := (⟨hP, hD, hS⟩ : WS x A s.heap ([(a, .inr (1, [.ref q0, .null]))] ++ [(q0, .inr (2, [.ref r0])), (r0, .inl (xI x, 36, .inl (fun _ => nI 0)))]) H locs)
  refine lv_aload_n hx hb dX2_init_18 rfl (lv_at hl 0 rfl) ?_
  refine va_new (ci := 2) (fs := [.null]) (C := RX3) (T := TX3) (N := 1) hx hb E.2.2.2.2.1 iX3 tyX3 tyX3_ok E.2.2.2.1 (E.tb q_119) (E.tb q_25) (E.tb q_3) E.K hs.1 hs.2.1 hs.2.2 hA rfl hfX3 (Nat.le_of_ble_eq_true rfl) (Nat.le_of_ble_eq_true rfl) dX2_init_19 (fun q2 H hP hD hS => ?_)
  have hs := (⟨hP, hD, hS⟩ : WS x A s.heap (([(a, .inr (1, [.ref q0, .null]))] ++ [(q0, .inr (2, [.ref r0])), (r0, .inl (xI x, 36, .inl (fun _ => nI 0)))]) ++ [(q2, .inr (2, [.null]))]) H _)
  refine lv_dup hx hb dX2_init_22 rfl ?_
  refine lv_bipush (v := nI 36) hx hb dX2_init_23 (by decide) ?_
  refine lv_iconst (v := (-1)) hx hb dX2_init_25 (by decide) ?_
  refine zcI E.B hN hA hs (c_X3_init l x q2 36 (by decide) (by decide) (-1)) [.ref q2, .ref a] q_28 q_3 q_120 q_27 rfl hyX3_init ⟨Nat.le_of_ble_eq_true rfl, Nat.le_of_ble_eq_true rfl⟩ rfl hl.1 (Nat.le_of_ble_eq_true rfl) rfl dX2_init_26 ⟨Nat.le_of_ble_eq_true rfl, Nat.le_of_ble_eq_true rfl⟩ (fun w3 H locs hp hs => ?_)
  obtain ⟨r2, rfl⟩ := hp
  refine va_putF (ci := 1) (v := .ref q2) (ty := .object "FrozenDistricts$Row") (C := RX2) (T := TX2) (N := 2) hx hb E.2.2.2.2.1 iX2 tyX2 tyX2_ok nmX2 E.2.2.2.1 E.K hs.1 hs.2.1 hs.2.2 0 rfl rfl 1 (by decide) (E.tb q_122) (fun _ h => h) rfl E.nm rfl (by decide +kernel) rfl rfl (Nat.le_of_ble_eq_true rfl) dX2_init_29 (fun H locs hP hD hS => ?_)
  have hs := (⟨hP, hD, hS⟩ : WS x A s.heap (([(a, .inr (1, [.ref q0, .ref q2]))] ++ [(q0, .inr (2, [.ref r0])), (r0, .inl (xI x, 36, .inl (fun _ => nI 0)))]) ++ [(q2, .inr (2, [.ref r2])), (r2, .inl (xI x, 36, .inl (fun _ => (-1))))]) H locs)
  exact zeC E hs ⟨(fun k => ([a, q0, r0, q2, r2] : List Nat).getD k 0), rfl⟩ rfl rfl dX2_init_32

set_option maxHeartbeats 4000000 in
set_option maxRecDepth 100000 in
/-- a new state -/
theorem c_X4_init (l : Launch) (x : CT) (a : Nat) : CC l yX4_init cX4_init 1 2 35 14 198 x a (.inr (3, [.null, .null, .null, .null, .null, .null, .null, .int 0, .int 0, .int 0, .int 0])) [] (fun w1 => ∃ g, w1 = blk x a g) := by
  refine zsC (own := RX4) rfl (by decide +kernel) rfl (Nat.le_of_ble_eq_true rfl) ?_
  intro p e s m below meth c ls A E hN hA hs hl
  have hx := E.1
  have hb := E.2.1
  have hl : lv_has ls 1 [(0, .ref a)] := hl
  refine lv_aload_n hx hb dX4_init_0 rfl (lv_at hl 0 rfl) ?_
  refine zcobj E q_23 hl.1 dX4_init_1 ⟨Nat.le_of_ble_eq_true rfl, Nat.le_of_ble_eq_true rfl⟩ ?_
  refine lv_aload_n hx hb dX4_init_4 rfl (lv_at hl 0 rfl) ?_
  refine va_new (ci := 2) (fs := [.null]) (C := RX3) (T := TX3) (N := 1) hx hb E.2.2.2.2.1 iX3 tyX3 tyX3_ok E.2.2.2.1 (E.tb q_24) (E.tb q_25) (E.tb q_3) E.K hs.1 hs.2.1 hs.2.2 hA rfl hfX3 (Nat.le_of_ble_eq_true rfl) (Nat.le_of_ble_eq_true rfl) dX4_init_5 (fun q0 H hP hD hS => ?_)
  have hs := (⟨hP, hD, hS⟩ : WS x A s.heap ([(a, .inr (3, [.null, .null, .null, .null, .null, .null, .null, .int 0, .int 0, .int 0, .int 0]))] ++ [(q0, .inr (2, [.null]))]) H _)
  refine lv_dup hx hb dX4_init_8 rfl ?_
  refine lv_bipush (v := nI 36) hx hb dX4_init_9 (by decide) ?_
  refine lv_iconst (v := nI 0) hx hb dX4_init_11 (by decide) ?_
  refine zcI E.B hN hA hs (c_X3_init l x q0 36 (by decide) (by decide) (nI 0)) [.ref q0, .ref a] q_28 q_3 q_26 q_27 rfl hyX3_init ⟨Nat.le_of_ble_eq_true rfl, Nat.le_of_ble_eq_true rfl⟩ rfl hl.1 (Nat.le_of_ble_eq_true rfl) rfl dX4_init_12 ⟨Nat.le_of_ble_eq_true rfl, Nat.le_of_ble_eq_true rfl⟩ (fun w1 H locs hp hs => ?_)
  obtain ⟨r0, rfl⟩ := hp
  refine va_putF (ci := 3) (v := .ref q0) (ty := .object "FrozenDistricts$Row") (C := RX4) (T := TX4) (N := 11) hx hb E.2.2.2.2.1 iX4 tyX4 tyX4_ok nmX4 E.2.2.2.1 E.K hs.1 hs.2.1 hs.2.2 0 rfl rfl 0 (by decide) (E.tb q_35) (fun _ h => h) rfl E.nm rfl (by decide +kernel) rfl rfl (Nat.le_of_ble_eq_true rfl) dX4_init_15 (fun H locs hP hD hS => ?_)
  have hs := (⟨hP, hD, hS⟩ : WS x A s.heap ([(a, .inr (3, [.ref q0, .null, .null, .null, .null, .null, .null, .int 0, .int 0, .int 0, .int 0]))] ++ [(q0, .inr (2, [.ref r0])), (r0, .inl (xI x, 36, .inl (fun _ => nI 0)))]) H locs)
  refine lv_aload_n hx hb dX4_init_18 rfl (lv_at hl 0 rfl) ?_
  refine va_new (ci := 2) (fs := [.null]) (C := RX3) (T := TX3) (N := 1) hx hb E.2.2.2.2.1 iX3 tyX3 tyX3_ok E.2.2.2.1 (E.tb q_24) (E.tb q_25) (E.tb q_3) E.K hs.1 hs.2.1 hs.2.2 hA rfl hfX3 (Nat.le_of_ble_eq_true rfl) (Nat.le_of_ble_eq_true rfl) dX4_init_19 (fun q2 H hP hD hS => ?_)
  have hs := (⟨hP, hD, hS⟩ : WS x A s.heap (([(a, .inr (3, [.ref q0, .null, .null, .null, .null, .null, .null, .int 0, .int 0, .int 0, .int 0]))] ++ [(q0, .inr (2, [.ref r0])), (r0, .inl (xI x, 36, .inl (fun _ => nI 0)))]) ++ [(q2, .inr (2, [.null]))]) H _)
  refine lv_dup hx hb dX4_init_22 rfl ?_
  refine lv_bipush (v := nI 36) hx hb dX4_init_23 (by decide) ?_
  refine lv_iconst (v := nI 0) hx hb dX4_init_25 (by decide) ?_
  refine zcI E.B hN hA hs (c_X3_init l x q2 36 (by decide) (by decide) (nI 0)) [.ref q2, .ref a] q_28 q_3 q_26 q_27 rfl hyX3_init ⟨Nat.le_of_ble_eq_true rfl, Nat.le_of_ble_eq_true rfl⟩ rfl hl.1 (Nat.le_of_ble_eq_true rfl) rfl dX4_init_26 ⟨Nat.le_of_ble_eq_true rfl, Nat.le_of_ble_eq_true rfl⟩ (fun w3 H locs hp hs => ?_)
  obtain ⟨r2, rfl⟩ := hp
  refine va_putF (ci := 3) (v := .ref q2) (ty := .object "FrozenDistricts$Row") (C := RX4) (T := TX4) (N := 11) hx hb E.2.2.2.2.1 iX4 tyX4 tyX4_ok nmX4 E.2.2.2.1 E.K hs.1 hs.2.1 hs.2.2 0 rfl rfl 1 (by decide) (E.tb q_37) (fun _ h => h) rfl E.nm rfl (by decide +kernel) rfl rfl (Nat.le_of_ble_eq_true rfl) dX4_init_29 (fun H locs hP hD hS => ?_)
  have hs := (⟨hP, hD, hS⟩ : WS x A s.heap (([(a, .inr (3, [.ref q0, .ref q2, .null, .null, .null, .null, .null, .int 0, .int 0, .int 0, .int 0]))] ++ [(q0, .inr (2, [.ref r0])), (r0, .inl (xI x, 36, .inl (fun _ => nI 0)))]) ++ [(q2, .inr (2, [.ref r2])), (r2, .inl (xI x, 36, .inl (fun _ => nI 0)))]) H locs)
  refine lv_aload_n hx hb dX4_init_32 rfl (lv_at hl 0 rfl) ?_
  refine va_new (ci := 2) (fs := [.null]) (C := RX3) (T := TX3) (N := 1) hx hb E.2.2.2.2.1 iX3 tyX3 tyX3_ok E.2.2.2.1 (E.tb q_24) (E.tb q_25) (E.tb q_3) E.K hs.1 hs.2.1 hs.2.2 hA rfl hfX3 (Nat.le_of_ble_eq_true rfl) (Nat.le_of_ble_eq_true rfl) dX4_init_33 (fun q4 H hP hD hS => ?_)
  have hs := (⟨hP, hD, hS⟩ : WS x A s.heap ((([(a, .inr (3, [.ref q0, .ref q2, .null, .null, .null, .null, .null, .int 0, .int 0, .int 0, .int 0]))] ++ [(q0, .inr (2, [.ref r0])), (r0, .inl (xI x, 36, .inl (fun _ => nI 0)))]) ++ [(q2, .inr (2, [.ref r2])), (r2, .inl (xI x, 36, .inl (fun _ => nI 0)))]) ++ [(q4, .inr (2, [.null]))]) H _)
  refine lv_dup hx hb dX4_init_36 rfl ?_
  refine lv_bipush (v := nI 36) hx hb dX4_init_37 (by decide) ?_
  refine lv_iconst (v := (-1)) hx hb dX4_init_39 (by decide) ?_
  refine zcI E.B hN hA hs (c_X3_init l x q4 36 (by decide) (by decide) (-1)) [.ref q4, .ref a] q_28 q_3 q_26 q_27 rfl hyX3_init ⟨Nat.le_of_ble_eq_true rfl, Nat.le_of_ble_eq_true rfl⟩ rfl hl.1 (Nat.le_of_ble_eq_true rfl) rfl dX4_init_40 ⟨Nat.le_of_ble_eq_true rfl, Nat.le_of_ble_eq_true rfl⟩ (fun w5 H locs hp hs => ?_)
  obtain ⟨r4, rfl⟩ := hp
  refine va_putF (ci := 3) (v := .ref q4) (ty := .object "FrozenDistricts$Row") (C := RX4) (T := TX4) (N := 11) hx hb E.2.2.2.2.1 iX4 tyX4 tyX4_ok nmX4 E.2.2.2.1 E.K hs.1 hs.2.1 hs.2.2 0 rfl rfl 2 (by decide) (E.tb q_39) (fun _ h => h) rfl E.nm rfl (by decide +kernel) rfl rfl (Nat.le_of_ble_eq_true rfl) dX4_init_43 (fun H locs hP hD hS => ?_)
  have hs := (⟨hP, hD, hS⟩ : WS x A s.heap ((([(a, .inr (3, [.ref q0, .ref q2, .ref q4, .null, .null, .null, .null, .int 0, .int 0, .int 0, .int 0]))] ++ [(q0, .inr (2, [.ref r0])), (r0, .inl (xI x, 36, .inl (fun _ => nI 0)))]) ++ [(q2, .inr (2, [.ref r2])), (r2, .inl (xI x, 36, .inl (fun _ => nI 0)))]) ++ [(q4, .inr (2, [.ref r4])), (r4, .inl (xI x, 36, .inl (fun _ => (-1))))]) H locs)
  refine lv_aload_n hx hb dX4_init_46 rfl (lv_at hl 0 rfl) ?_
  refine va_new (ci := 2) (fs := [.null]) (C := RX3) (T := TX3) (N := 1) hx hb E.2.2.2.2.1 iX3 tyX3 tyX3_ok E.2.2.2.1 (E.tb q_24) (E.tb q_25) (E.tb q_3) E.K hs.1 hs.2.1 hs.2.2 hA rfl hfX3 (Nat.le_of_ble_eq_true rfl) (Nat.le_of_ble_eq_true rfl) dX4_init_47 (fun q6 H hP hD hS => ?_)
  have hs := (⟨hP, hD, hS⟩ : WS x A s.heap (((([(a, .inr (3, [.ref q0, .ref q2, .ref q4, .null, .null, .null, .null, .int 0, .int 0, .int 0, .int 0]))] ++ [(q0, .inr (2, [.ref r0])), (r0, .inl (xI x, 36, .inl (fun _ => nI 0)))]) ++ [(q2, .inr (2, [.ref r2])), (r2, .inl (xI x, 36, .inl (fun _ => nI 0)))]) ++ [(q4, .inr (2, [.ref r4])), (r4, .inl (xI x, 36, .inl (fun _ => (-1))))]) ++ [(q6, .inr (2, [.null]))]) H _)
  refine lv_dup hx hb dX4_init_50 rfl ?_
  refine lv_bipush (v := nI 36) hx hb dX4_init_51 (by decide) ?_
  refine lv_iconst (v := (-1)) hx hb dX4_init_53 (by decide) ?_
  refine zcI E.B hN hA hs (c_X3_init l x q6 36 (by decide) (by decide) (-1)) [.ref q6, .ref a] q_28 q_3 q_26 q_27 rfl hyX3_init ⟨Nat.le_of_ble_eq_true rfl, Nat.le_of_ble_eq_true rfl⟩ rfl hl.1 (Nat.le_of_ble_eq_true rfl) rfl dX4_init_54 ⟨Nat.le_of_ble_eq_true rfl, Nat.le_of_ble_eq_true rfl⟩ (fun w7 H locs hp hs => ?_)
  obtain ⟨r6, rfl⟩ := hp
  refine va_putF (ci := 3) (v := .ref q6) (ty := .object "FrozenDistricts$Row") (C := RX4) (T := TX4) (N := 11) hx hb E.2.2.2.2.1 iX4 tyX4 tyX4_ok nmX4 E.2.2.2.1 E.K hs.1 hs.2.1 hs.2.2 0 rfl rfl 3 (by decide) (E.tb q_42) (fun _ h => h) rfl E.nm rfl (by decide +kernel) rfl rfl (Nat.le_of_ble_eq_true rfl) dX4_init_57 (fun H locs hP hD hS => ?_)
  have hs := (⟨hP, hD, hS⟩ : WS x A s.heap (((([(a, .inr (3, [.ref q0, .ref q2, .ref q4, .ref q6, .null, .null, .null, .int 0, .int 0, .int 0, .int 0]))] ++ [(q0, .inr (2, [.ref r0])), (r0, .inl (xI x, 36, .inl (fun _ => nI 0)))]) ++ [(q2, .inr (2, [.ref r2])), (r2, .inl (xI x, 36, .inl (fun _ => nI 0)))]) ++ [(q4, .inr (2, [.ref r4])), (r4, .inl (xI x, 36, .inl (fun _ => (-1))))]) ++ [(q6, .inr (2, [.ref r6])), (r6, .inl (xI x, 36, .inl (fun _ => (-1))))]) H locs)
  refine lv_aload_n hx hb dX4_init_60 rfl (lv_at hl 0 rfl) ?_
  refine va_new (ci := 2) (fs := [.null]) (C := RX3) (T := TX3) (N := 1) hx hb E.2.2.2.2.1 iX3 tyX3 tyX3_ok E.2.2.2.1 (E.tb q_24) (E.tb q_25) (E.tb q_3) E.K hs.1 hs.2.1 hs.2.2 hA rfl hfX3 (Nat.le_of_ble_eq_true rfl) (Nat.le_of_ble_eq_true rfl) dX4_init_61 (fun q8 H hP hD hS => ?_)
  have hs := (⟨hP, hD, hS⟩ : WS x A s.heap ((((([(a, .inr (3, [.ref q0, .ref q2, .ref q4, .ref q6, .null, .null, .null, .int 0, .int 0, .int 0, .int 0]))] ++ [(q0, .inr (2, [.ref r0])), (r0, .inl (xI x, 36, .inl (fun _ => nI 0)))]) ++ [(q2, .inr (2, [.ref r2])), (r2, .inl (xI x, 36, .inl (fun _ => nI 0)))]) ++ [(q4, .inr (2, [.ref r4])), (r4, .inl (xI x, 36, .inl (fun _ => (-1))))]) ++ [(q6, .inr (2, [.ref r6])), (r6, .inl (xI x, 36, .inl (fun _ => (-1))))]) ++ [(q8, .inr (2, [.null]))]) H _)
  refine lv_dup hx hb dX4_init_64 rfl ?_
  refine lv_bipush (v := nI 36) hx hb dX4_init_65 (by decide) ?_
  refine lv_iconst (v := (-1)) hx hb dX4_init_67 (by decide) ?_
  refine zcI E.B hN hA hs (c_X3_init l x q8 36 (by decide) (by decide) (-1)) [.ref q8, .ref a] q_28 q_3 q_26 q_27 rfl hyX3_init ⟨Nat.le_of_ble_eq_true rfl, Nat.le_of_ble_eq_true rfl⟩ rfl hl.1 (Nat.le_of_ble_eq_true rfl) rfl dX4_init_68 ⟨Nat.le_of_ble_eq_true rfl, Nat.le_of_ble_eq_true rfl⟩ (fun w9 H locs hp hs => ?_)
  obtain ⟨r8, rfl⟩ := hp
  refine va_putF (ci := 3) (v := .ref q8) (ty := .object "FrozenDistricts$Row") (C := RX4) (T := TX4) (N := 11) hx hb E.2.2.2.2.1 iX4 tyX4 tyX4_ok nmX4 E.2.2.2.1 E.K hs.1 hs.2.1 hs.2.2 0 rfl rfl 4 (by decide) (E.tb q_44) (fun _ h => h) rfl E.nm rfl (by decide +kernel) rfl rfl (Nat.le_of_ble_eq_true rfl) dX4_init_71 (fun H locs hP hD hS => ?_)
  have hs := (⟨hP, hD, hS⟩ : WS x A s.heap ((((([(a, .inr (3, [.ref q0, .ref q2, .ref q4, .ref q6, .ref q8, .null, .null, .int 0, .int 0, .int 0, .int 0]))] ++ [(q0, .inr (2, [.ref r0])), (r0, .inl (xI x, 36, .inl (fun _ => nI 0)))]) ++ [(q2, .inr (2, [.ref r2])), (r2, .inl (xI x, 36, .inl (fun _ => nI 0)))]) ++ [(q4, .inr (2, [.ref r4])), (r4, .inl (xI x, 36, .inl (fun _ => (-1))))]) ++ [(q6, .inr (2, [.ref r6])), (r6, .inl (xI x, 36, .inl (fun _ => (-1))))]) ++ [(q8, .inr (2, [.ref r8])), (r8, .inl (xI x, 36, .inl (fun _ => (-1))))]) H locs)
  refine lv_aload_n hx hb dX4_init_74 rfl (lv_at hl 0 rfl) ?_
  refine va_new (ci := 2) (fs := [.null]) (C := RX3) (T := TX3) (N := 1) hx hb E.2.2.2.2.1 iX3 tyX3 tyX3_ok E.2.2.2.1 (E.tb q_24) (E.tb q_25) (E.tb q_3) E.K hs.1 hs.2.1 hs.2.2 hA rfl hfX3 (Nat.le_of_ble_eq_true rfl) (Nat.le_of_ble_eq_true rfl) dX4_init_75 (fun q10 H hP hD hS => ?_)
  have hs := (⟨hP, hD, hS⟩ : WS x A s.heap (((((([(a, .inr (3, [.ref q0, .ref q2, .ref q4, .ref q6, .ref q8, .null, .null, .int 0, .int 0, .int 0, .int 0]))] ++ [(q0, .inr (2, [.ref r0])), (r0, .inl (xI x, 36, .inl (fun _ => nI 0)))]) ++ [(q2, .inr (2, [.ref r2])), (r2, .inl (xI x, 36, .inl (fun _ => nI 0)))]) ++ [(q4, .inr (2, [.ref r4])), (r4, .inl (xI x, 36, .inl (fun _ => (-1))))]) ++ [(q6, .inr (2, [.ref r6])), (r6, .inl (xI x, 36, .inl (fun _ => (-1))))]) ++ [(q8, .inr (2, [.ref r8])), (r8, .inl (xI x, 36, .inl (fun _ => (-1))))]) ++ [(q10, .inr (2, [.null]))]) H _)
  refine lv_dup hx hb dX4_init_78 rfl ?_
  refine lv_bipush (v := nI 9) hx hb dX4_init_79 (by decide) ?_
  refine lv_iconst (v := (-1)) hx hb dX4_init_81 (by decide) ?_
  refine zcI E.B hN hA hs (c_X3_init l x q10 9 (by decide) (by decide) (-1)) [.ref q10, .ref a] q_28 q_3 q_26 q_27 rfl hyX3_init ⟨Nat.le_of_ble_eq_true rfl, Nat.le_of_ble_eq_true rfl⟩ rfl hl.1 (Nat.le_of_ble_eq_true rfl) rfl dX4_init_82 ⟨Nat.le_of_ble_eq_true rfl, Nat.le_of_ble_eq_true rfl⟩ (fun w11 H locs hp hs => ?_)
  obtain ⟨r10, rfl⟩ := hp
  refine va_putF (ci := 3) (v := .ref q10) (ty := .object "FrozenDistricts$Row") (C := RX4) (T := TX4) (N := 11) hx hb E.2.2.2.2.1 iX4 tyX4 tyX4_ok nmX4 E.2.2.2.1 E.K hs.1 hs.2.1 hs.2.2 0 rfl rfl 5 (by decide) (E.tb q_46) (fun _ h => h) rfl E.nm rfl (by decide +kernel) rfl rfl (Nat.le_of_ble_eq_true rfl) dX4_init_85 (fun H locs hP hD hS => ?_)
  have hs := (⟨hP, hD, hS⟩ : WS x A s.heap (((((([(a, .inr (3, [.ref q0, .ref q2, .ref q4, .ref q6, .ref q8, .ref q10, .null, .int 0, .int 0, .int 0, .int 0]))] ++ [(q0, .inr (2, [.ref r0])), (r0, .inl (xI x, 36, .inl (fun _ => nI 0)))]) ++ [(q2, .inr (2, [.ref r2])), (r2, .inl (xI x, 36, .inl (fun _ => nI 0)))]) ++ [(q4, .inr (2, [.ref r4])), (r4, .inl (xI x, 36, .inl (fun _ => (-1))))]) ++ [(q6, .inr (2, [.ref r6])), (r6, .inl (xI x, 36, .inl (fun _ => (-1))))]) ++ [(q8, .inr (2, [.ref r8])), (r8, .inl (xI x, 36, .inl (fun _ => (-1))))]) ++ [(q10, .inr (2, [.ref r10])), (r10, .inl (xI x, 9, .inl (fun _ => (-1))))]) H locs)
  refine lv_aload_n hx hb dX4_init_88 rfl (lv_at hl 0 rfl) ?_
  refine va_new (ci := 2) (fs := [.null]) (C := RX3) (T := TX3) (N := 1) hx hb E.2.2.2.2.1 iX3 tyX3 tyX3_ok E.2.2.2.1 (E.tb q_24) (E.tb q_25) (E.tb q_3) E.K hs.1 hs.2.1 hs.2.2 hA rfl hfX3 (Nat.le_of_ble_eq_true rfl) (Nat.le_of_ble_eq_true rfl) dX4_init_89 (fun q12 H hP hD hS => ?_)
  have hs := (⟨hP, hD, hS⟩ : WS x A s.heap ((((((([(a, .inr (3, [.ref q0, .ref q2, .ref q4, .ref q6, .ref q8, .ref q10, .null, .int 0, .int 0, .int 0, .int 0]))] ++ [(q0, .inr (2, [.ref r0])), (r0, .inl (xI x, 36, .inl (fun _ => nI 0)))]) ++ [(q2, .inr (2, [.ref r2])), (r2, .inl (xI x, 36, .inl (fun _ => nI 0)))]) ++ [(q4, .inr (2, [.ref r4])), (r4, .inl (xI x, 36, .inl (fun _ => (-1))))]) ++ [(q6, .inr (2, [.ref r6])), (r6, .inl (xI x, 36, .inl (fun _ => (-1))))]) ++ [(q8, .inr (2, [.ref r8])), (r8, .inl (xI x, 36, .inl (fun _ => (-1))))]) ++ [(q10, .inr (2, [.ref r10])), (r10, .inl (xI x, 9, .inl (fun _ => (-1))))]) ++ [(q12, .inr (2, [.null]))]) H _)
  refine lv_dup hx hb dX4_init_92 rfl ?_
  refine lv_iconst (v := nI 2) hx hb dX4_init_93 (by decide) ?_
  refine lv_iconst (v := nI 0) hx hb dX4_init_94 (by decide) ?_
  refine zcI E.B hN hA hs (c_X3_init l x q12 2 (by decide) (by decide) (nI 0)) [.ref q12, .ref a] q_28 q_3 q_26 q_27 rfl hyX3_init ⟨Nat.le_of_ble_eq_true rfl, Nat.le_of_ble_eq_true rfl⟩ rfl hl.1 (Nat.le_of_ble_eq_true rfl) rfl dX4_init_95 ⟨Nat.le_of_ble_eq_true rfl, Nat.le_of_ble_eq_true rfl⟩ (fun w13 H locs hp hs => ?_)
  obtain ⟨r12, rfl⟩ := hp
  refine va_putF (ci := 3) (v := .ref q12) (ty := .object "FrozenDistricts$Row") (C := RX4) (T := TX4) (N := 11) hx hb E.2.2.2.2.1 iX4 tyX4 tyX4_ok nmX4 E.2.2.2.1 E.K hs.1 hs.2.1 hs.2.2 0 rfl rfl 6 (by decide) (E.tb q_48) (fun _ h => h) rfl E.nm rfl (by decide +kernel) rfl rfl (Nat.le_of_ble_eq_true rfl) dX4_init_98 (fun H locs hP hD hS => ?_)
  have hs := (⟨hP, hD, hS⟩ : WS x A s.heap ((((((([(a, .inr (3, [.ref q0, .ref q2, .ref q4, .ref q6, .ref q8, .ref q10, .ref q12, .int 0, .int 0, .int 0, .int 0]))] ++ [(q0, .inr (2, [.ref r0])), (r0, .inl (xI x, 36, .inl (fun _ => nI 0)))]) ++ [(q2, .inr (2, [.ref r2])), (r2, .inl (xI x, 36, .inl (fun _ => nI 0)))]) ++ [(q4, .inr (2, [.ref r4])), (r4, .inl (xI x, 36, .inl (fun _ => (-1))))]) ++ [(q6, .inr (2, [.ref r6])), (r6, .inl (xI x, 36, .inl (fun _ => (-1))))]) ++ [(q8, .inr (2, [.ref r8])), (r8, .inl (xI x, 36, .inl (fun _ => (-1))))]) ++ [(q10, .inr (2, [.ref r10])), (r10, .inl (xI x, 9, .inl (fun _ => (-1))))]) ++ [(q12, .inr (2, [.ref r12])), (r12, .inl (xI x, 2, .inl (fun _ => nI 0)))]) H locs)
  refine lv_aload_n hx hb dX4_init_101 rfl (lv_at hl 0 rfl) ?_
  refine lv_iconst (v := nI 4) hx hb dX4_init_102 (by decide) ?_
  refine va_put (ci := 3) (v := .int (nI 4)) (ty := .int) (C := RX4) (T := TX4) (N := 11) hx hb E.2.2.2.2.1 iX4 tyX4 tyX4_ok nmX4 E.2.2.2.1 E.K hs.1 hs.2.1 hs.2.2 0 rfl rfl 7 (by decide) (E.tb q_50) (fun _ h => h) rfl (by decide +kernel) rfl rfl (Nat.le_of_ble_eq_true rfl) dX4_init_103 (fun H locs hP hD hS => ?_)
  have hs := (⟨hP, hD, hS⟩ : WS x A s.heap ((((((([(a, .inr (3, [.ref q0, .ref q2, .ref q4, .ref q6, .ref q8, .ref q10, .ref q12, .int (nI 4), .int 0, .int 0, .int 0]))] ++ [(q0, .inr (2, [.ref r0])), (r0, .inl (xI x, 36, .inl (fun _ => nI 0)))]) ++ [(q2, .inr (2, [.ref r2])), (r2, .inl (xI x, 36, .inl (fun _ => nI 0)))]) ++ [(q4, .inr (2, [.ref r4])), (r4, .inl (xI x, 36, .inl (fun _ => (-1))))]) ++ [(q6, .inr (2, [.ref r6])), (r6, .inl (xI x, 36, .inl (fun _ => (-1))))]) ++ [(q8, .inr (2, [.ref r8])), (r8, .inl (xI x, 36, .inl (fun _ => (-1))))]) ++ [(q10, .inr (2, [.ref r10])), (r10, .inl (xI x, 9, .inl (fun _ => (-1))))]) ++ [(q12, .inr (2, [.ref r12])), (r12, .inl (xI x, 2, .inl (fun _ => nI 0)))]) H locs)
  refine lv_aload_n hx hb dX4_init_106 rfl (lv_at hl 0 rfl) ?_
  refine lv_iconst (v := nI 0) hx hb dX4_init_107 (by decide) ?_
  refine va_put (ci := 3) (v := .int (nI 0)) (ty := .int) (C := RX4) (T := TX4) (N := 11) hx hb E.2.2.2.2.1 iX4 tyX4 tyX4_ok nmX4 E.2.2.2.1 E.K hs.1 hs.2.1 hs.2.2 0 rfl rfl 8 (by decide) (E.tb q_52) (fun _ h => h) rfl (by decide +kernel) rfl rfl (Nat.le_of_ble_eq_true rfl) dX4_init_108 (fun H locs hP hD hS => ?_)
  have hs := (⟨hP, hD, hS⟩ : WS x A s.heap ((((((([(a, .inr (3, [.ref q0, .ref q2, .ref q4, .ref q6, .ref q8, .ref q10, .ref q12, .int (nI 4), .int (nI 0), .int 0, .int 0]))] ++ [(q0, .inr (2, [.ref r0])), (r0, .inl (xI x, 36, .inl (fun _ => nI 0)))]) ++ [(q2, .inr (2, [.ref r2])), (r2, .inl (xI x, 36, .inl (fun _ => nI 0)))]) ++ [(q4, .inr (2, [.ref r4])), (r4, .inl (xI x, 36, .inl (fun _ => (-1))))]) ++ [(q6, .inr (2, [.ref r6])), (r6, .inl (xI x, 36, .inl (fun _ => (-1))))]) ++ [(q8, .inr (2, [.ref r8])), (r8, .inl (xI x, 36, .inl (fun _ => (-1))))]) ++ [(q10, .inr (2, [.ref r10])), (r10, .inl (xI x, 9, .inl (fun _ => (-1))))]) ++ [(q12, .inr (2, [.ref r12])), (r12, .inl (xI x, 2, .inl (fun _ => nI 0)))]) H locs)
  refine lv_aload_n hx hb dX4_init_111 rfl (lv_at hl 0 rfl) ?_
  refine lv_iconst (v := nI 0) hx hb dX4_init_112 (by decide) ?_
  refine va_put (ci := 3) (v := .int (nI 0)) (ty := .int) (C := RX4) (T := TX4) (N := 11) hx hb E.2.2.2.2.1 iX4 tyX4 tyX4_ok nmX4 E.2.2.2.1 E.K hs.1 hs.2.1 hs.2.2 0 rfl rfl 9 (by decide) (E.tb q_54) (fun _ h => h) rfl (by decide +kernel) rfl rfl (Nat.le_of_ble_eq_true rfl) dX4_init_113 (fun H locs hP hD hS => ?_)
  have hs := (⟨hP, hD, hS⟩ : WS x A s.heap ((((((([(a, .inr (3, [.ref q0, .ref q2, .ref q4, .ref q6, .ref q8, .ref q10, .ref q12, .int (nI 4), .int (nI 0), .int (nI 0), .int 0]))] ++ [(q0, .inr (2, [.ref r0])), (r0, .inl (xI x, 36, .inl (fun _ => nI 0)))]) ++ [(q2, .inr (2, [.ref r2])), (r2, .inl (xI x, 36, .inl (fun _ => nI 0)))]) ++ [(q4, .inr (2, [.ref r4])), (r4, .inl (xI x, 36, .inl (fun _ => (-1))))]) ++ [(q6, .inr (2, [.ref r6])), (r6, .inl (xI x, 36, .inl (fun _ => (-1))))]) ++ [(q8, .inr (2, [.ref r8])), (r8, .inl (xI x, 36, .inl (fun _ => (-1))))]) ++ [(q10, .inr (2, [.ref r10])), (r10, .inl (xI x, 9, .inl (fun _ => (-1))))]) ++ [(q12, .inr (2, [.ref r12])), (r12, .inl (xI x, 2, .inl (fun _ => nI 0)))]) H locs)
  refine lv_aload_n hx hb dX4_init_116 rfl (lv_at hl 0 rfl) ?_
  refine lv_iconst (v := nI 0) hx hb dX4_init_117 (by decide) ?_
  refine va_put (ci := 3) (v := .int (nI 0)) (ty := .int) (C := RX4) (T := TX4) (N := 11) hx hb E.2.2.2.2.1 iX4 tyX4 tyX4_ok nmX4 E.2.2.2.1 E.K hs.1 hs.2.1 hs.2.2 0 rfl rfl 10 (by decide) (E.tb q_55) (fun _ h => h) rfl (by decide +kernel) rfl rfl (Nat.le_of_ble_eq_true rfl) dX4_init_118 (fun H locs hP hD hS => ?_)
  have hs := (⟨hP, hD, hS⟩ : WS x A s.heap ((((((([(a, .inr (3, [.ref q0, .ref q2, .ref q4, .ref q6, .ref q8, .ref q10, .ref q12, .int (nI 4), .int (nI 0), .int (nI 0), .int (nI 0)]))] ++ [(q0, .inr (2, [.ref r0])), (r0, .inl (xI x, 36, .inl (fun _ => nI 0)))]) ++ [(q2, .inr (2, [.ref r2])), (r2, .inl (xI x, 36, .inl (fun _ => nI 0)))]) ++ [(q4, .inr (2, [.ref r4])), (r4, .inl (xI x, 36, .inl (fun _ => (-1))))]) ++ [(q6, .inr (2, [.ref r6])), (r6, .inl (xI x, 36, .inl (fun _ => (-1))))]) ++ [(q8, .inr (2, [.ref r8])), (r8, .inl (xI x, 36, .inl (fun _ => (-1))))]) ++ [(q10, .inr (2, [.ref r10])), (r10, .inl (xI x, 9, .inl (fun _ => (-1))))]) ++ [(q12, .inr (2, [.ref r12])), (r12, .inl (xI x, 2, .inl (fun _ => nI 0)))]) H locs)
  exact zeC E hs ⟨(fun k => ([a, q0, r0, q2, r2, q4, r4, q6, r6, q8, r8, q10, r10, q12, r12] : List Nat).getD k 0), rfl⟩ rfl rfl dX4_init_121

def rfs (s : Nat → Nat) : Nat → Option Nat := va_up (va_up (va_up (va_up (fun _ => none) 0 (some (s 0))) 1 (some (s 1))) 2 (some (s 2))) 3 (some (s 3))
def blh (x : CT) (a t : Nat) (s : Nat → Nat) (g : Nat → Nat → Nat) : va_W := ((((([(a, .inr (0, [.ref t, .int (nI 0), .int (nI 0)]))] ++ [(t, .inl (xS x, 4, .inr (.inr (.inr (.inr (rfs s))))))]) ++ blk x (s 0) (g 0)) ++ blk x (s 1) (g 1)) ++ blk x (s 2) (g 2)) ++ blk x (s 3) (g 3))

set_option maxHeartbeats 4000000 in
set_option maxRecDepth 100000 in
/-- a new history -/
theorem c_X1_init (l : Launch) (x : CT) (a : Nat) : CC l yX1_init cX1_init 2 3 55 61 840 x a (.inr (0, [.null, .int 0, .int 0])) [] (fun w1 => ∃ t s g, w1 = blh x a t s g) := by
  refine zsC (own := RX1) rfl (by decide +kernel) rfl (Nat.le_of_ble_eq_true rfl) ?_
  intro p e s m below meth c ls A E hN hA hs hl
  have hx := E.1
  have hb := E.2.1
  have hl : lv_has ls 2 [(0, .ref a)] := hl
  refine lv_aload_n hx hb dX1_init_0 rfl (lv_at hl 0 rfl) ?_
  refine zcobj E q_85 hl.1 dX1_init_1 ⟨Nat.le_of_ble_eq_true rfl, Nat.le_of_ble_eq_true rfl⟩ ?_
  refine lv_aload_n hx hb dX1_init_4 rfl (lv_at hl 0 rfl) ?_
  refine lv_iconst (v := nI 4) hx hb dX1_init_5 (by decide) ?_
  refine va_newq (n := nI 4) (N' := 4) hx hb E.2.2.2.1 (E.tb q_86) hN.2.2.2.2 E.K hs.1 hs.2.1 hs.2.2 hA (nI_pos (by decide)) (nI_clamp (by decide)) (Nat.le_of_ble_eq_true rfl) (Nat.le_of_ble_eq_true rfl) (Nat.le_of_ble_eq_true rfl) dX1_init_6 (fun q0 cA H hK2 hP hD hS => ?_)
  have hcA : cA = xS x := by
    obtain ⟨_, _, -, -, -, h4⟩ := (hK2.2 4 _ rfl).2
    obtain ⟨_, _, -, -, -, h5⟩ := (E.K.2 3 _ rfl).2
    exact Option.some.inj (h4.symm.trans h5)
  subst hcA
  have hs := (⟨hP, hD, hS⟩ : WS x A s.heap ([(a, .inr (0, [.null, .int 0, .int 0]))] ++ [(q0, .inl (xS x, 4, .inr (.inr (.inr (.inr (fun _ => none))))))]) H _)
  refine va_putF (ci := 0) (v := .ref q0) (ty := .array (.object "FrozenDistricts$State")) (C := RX1) (T := TX1) (N := 3) hx hb E.2.2.2.2.1 iX1 tyX1 tyX1_ok nmX1 E.2.2.2.1 E.K hs.1 hs.2.1 hs.2.2 0 rfl rfl 0 (by decide) (E.tb q_89) (fun _ h => h) rfl E.nm rfl (by decide +kernel) rfl rfl (Nat.le_of_ble_eq_true rfl) dX1_init_9 (fun H locs hP hD hS => ?_)
  have hs := (⟨hP, hD, hS⟩ : WS x A s.heap ([(a, .inr (0, [.ref q0, .int 0, .int 0]))] ++ [(q0, .inl (xS x, 4, .inr (.inr (.inr (.inr (fun _ => none))))))]) H locs)
  refine lv_aload_n hx hb dX1_init_12 rfl (lv_at hl 0 rfl) ?_
  refine lv_iconst (v := nI 0) hx hb dX1_init_13 (by decide) ?_
  refine va_put (ci := 0) (v := .int (nI 0)) (ty := .int) (C := RX1) (T := TX1) (N := 3) hx hb E.2.2.2.2.1 iX1 tyX1 tyX1_ok nmX1 E.2.2.2.1 E.K hs.1 hs.2.1 hs.2.2 0 rfl rfl 1 (by decide) (E.tb q_90) (fun _ h => h) rfl (by decide +kernel) rfl rfl (Nat.le_of_ble_eq_true rfl) dX1_init_14 (fun H locs hP hD hS => ?_)
  have hs := (⟨hP, hD, hS⟩ : WS x A s.heap ([(a, .inr (0, [.ref q0, .int (nI 0), .int 0]))] ++ [(q0, .inl (xS x, 4, .inr (.inr (.inr (.inr (fun _ => none))))))]) H locs)
  refine lv_aload_n hx hb dX1_init_17 rfl (lv_at hl 0 rfl) ?_
  refine lv_iconst (v := nI 0) hx hb dX1_init_18 (by decide) ?_
  refine va_put (ci := 0) (v := .int (nI 0)) (ty := .int) (C := RX1) (T := TX1) (N := 3) hx hb E.2.2.2.2.1 iX1 tyX1 tyX1_ok nmX1 E.2.2.2.1 E.K hs.1 hs.2.1 hs.2.2 0 rfl rfl 2 (by decide) (E.tb q_91) (fun _ h => h) rfl (by decide +kernel) rfl rfl (Nat.le_of_ble_eq_true rfl) dX1_init_19 (fun H locs hP hD hS => ?_)
  have hs := (⟨hP, hD, hS⟩ : WS x A s.heap ([(a, .inr (0, [.ref q0, .int (nI 0), .int (nI 0)]))] ++ [(q0, .inl (xS x, 4, .inr (.inr (.inr (.inr (fun _ => none))))))]) H locs)
  refine lv_iconst (v := nI 0) hx hb dX1_init_22 (by decide) ?_
  refine lv_istore_n (lv' := [(1, .int (nI 0)), (0, .ref a)]) hx hb dX1_init_23 rfl hl (by decide) rfl (fun ls hl => ?_)
  refine lv_iload_n hx hb dX1_init_24 rfl (lv_at hl 0 rfl) ?_
  refine lv_aload_n hx hb dX1_init_25 rfl (lv_at hl 1 rfl) ?_
  refine va_get (ci := 0) (v := .ref q0) (C := RX1) (T := TX1) (N := 3) hx hb E.2.2.2.2.1 iX1 E.2.2.2.1 E.K hs.1 0 rfl rfl 0 (by decide) (E.tb q_89) (fun _ h => h) rfl dX1_init_26 ?_
  refine va_alen (v := nI 4) (cA := xS x) (ty := .object RX4) hx hb E.K hs.1 1 3 rfl rfl rfl dX1_init_29 ?_
  refine lv_icmp_ge (tgt := 52) hx hb dX1_init_30 (by decide) (fun h => absurd h (by decide)) (fun _ => ?_)
  refine lv_aload_n hx hb dX1_init_33 rfl (lv_at hl 1 rfl) ?_
  refine va_get (ci := 0) (v := .ref q0) (C := RX1) (T := TX1) (N := 3) hx hb E.2.2.2.2.1 iX1 E.2.2.2.1 E.K hs.1 0 rfl rfl 0 (by decide) (E.tb q_89) (fun _ h => h) rfl dX1_init_34 ?_
  refine lv_iload_n hx hb dX1_init_37 rfl (lv_at hl 0 rfl) ?_
  refine va_new (ci := 3) (fs := [.null, .null, .null, .null, .null, .null, .null, .int 0, .int 0, .int 0, .int 0]) (C := RX4) (T := TX4) (N := 11) hx hb E.2.2.2.2.1 iX4 tyX4 tyX4_ok E.2.2.2.1 (E.tb q_86) (E.tb q_19) (E.tb q_2) E.K hs.1 hs.2.1 hs.2.2 hA rfl hfX4 (Nat.le_of_ble_eq_true rfl) (Nat.le_of_ble_eq_true rfl) dX1_init_38 (fun q1 H hP hD hS => ?_)
  have hs := (⟨hP, hD, hS⟩ : WS x A s.heap (([(a, .inr (0, [.ref q0, .int (nI 0), .int (nI 0)]))] ++ [(q0, .inl (xS x, 4, .inr (.inr (.inr (.inr (fun _ => none))))))]) ++ [(q1, .inr (3, [.null, .null, .null, .null, .null, .null, .null, .int 0, .int 0, .int 0, .int 0]))]) H _)
  refine lv_dup hx hb dX1_init_41 rfl ?_
  refine zcN E.B hN hA hs (c_X4_init l x q1) [.ref q1, .int (nI 0), .ref q0] q_22 q_2 hN.2.1 q_21 rfl hyX4_init ⟨Nat.le_of_ble_eq_true rfl, Nat.le_of_ble_eq_true rfl⟩ rfl hl.1 (Nat.le_of_ble_eq_true rfl) rfl dX1_init_42 ⟨Nat.le_of_ble_eq_true rfl, Nat.le_of_ble_eq_true rfl⟩ (fun w2 H locs hp hs => ?_)
  obtain ⟨g1, rfl⟩ := hp
  refine va_astq hx hb E.K hs.1 hs.2.1 hs.2.2 1 3 2 3 rfl rfl rfl rfl (vp_in_nI (by decide) (by decide)) dX1_init_45 (fun H locs hP hD hS => ?_)
  rw [nI_clamp (by decide)] at hP hD
  have hs := (⟨hP, hD, hS⟩ : WS x A s.heap (([(a, .inr (0, [.ref q0, .int (nI 0), .int (nI 0)]))] ++ [(q0, .inl (xS x, 4, .inr (.inr (.inr (.inr (va_up (fun _ => none) 0 (some q1)))))))]) ++ (blk x q1 g1)) H locs)
  refine lv_iinc (v := nI 1) (lv' := [(1, .int (nI 1)), (0, .ref a)]) hx hb dX1_init_46 hl (k := 0) rfl (nI_inc _) (by decide) rfl (fun ls hl => ?_)
  refine lv_goto (tgt := 24) hx hb dX1_init_49 (by decide) ?_
  refine lv_iload_n hx hb dX1_init_24 rfl (lv_at hl 0 rfl) ?_
  refine lv_aload_n hx hb dX1_init_25 rfl (lv_at hl 1 rfl) ?_
  refine va_get (ci := 0) (v := .ref q0) (C := RX1) (T := TX1) (N := 3) hx hb E.2.2.2.2.1 iX1 E.2.2.2.1 E.K hs.1 0 rfl rfl 0 (by decide) (E.tb q_89) (fun _ h => h) rfl dX1_init_26 ?_
  refine va_alen (v := nI 4) (cA := xS x) (ty := .object RX4) hx hb E.K hs.1 1 3 rfl rfl rfl dX1_init_29 ?_
  refine lv_icmp_ge (tgt := 52) hx hb dX1_init_30 (by decide) (fun h => absurd h (by decide)) (fun _ => ?_)
  refine lv_aload_n hx hb dX1_init_33 rfl (lv_at hl 1 rfl) ?_
  refine va_get (ci := 0) (v := .ref q0) (C := RX1) (T := TX1) (N := 3) hx hb E.2.2.2.2.1 iX1 E.2.2.2.1 E.K hs.1 0 rfl rfl 0 (by decide) (E.tb q_89) (fun _ h => h) rfl dX1_init_34 ?_
  refine lv_iload_n hx hb dX1_init_37 rfl (lv_at hl 0 rfl) ?_
  refine va_new (ci := 3) (fs := [.null, .null, .null, .null, .null, .null, .null, .int 0, .int 0, .int 0, .int 0]) (C := RX4) (T := TX4) (N := 11) hx hb E.2.2.2.2.1 iX4 tyX4 tyX4_ok E.2.2.2.1 (E.tb q_86) (E.tb q_19) (E.tb q_2) E.K hs.1 hs.2.1 hs.2.2 hA rfl hfX4 (Nat.le_of_ble_eq_true rfl) (Nat.le_of_ble_eq_true rfl) dX1_init_38 (fun q3 H hP hD hS => ?_)
  have hs := (⟨hP, hD, hS⟩ : WS x A s.heap ((([(a, .inr (0, [.ref q0, .int (nI 0), .int (nI 0)]))] ++ [(q0, .inl (xS x, 4, .inr (.inr (.inr (.inr (va_up (fun _ => none) 0 (some q1)))))))]) ++ (blk x q1 g1)) ++ [(q3, .inr (3, [.null, .null, .null, .null, .null, .null, .null, .int 0, .int 0, .int 0, .int 0]))]) H _)
  refine lv_dup hx hb dX1_init_41 rfl ?_
  refine zcN E.B hN hA hs (c_X4_init l x q3) [.ref q3, .int (nI 1), .ref q0] q_22 q_2 hN.2.1 q_21 rfl hyX4_init ⟨Nat.le_of_ble_eq_true rfl, Nat.le_of_ble_eq_true rfl⟩ rfl hl.1 (Nat.le_of_ble_eq_true rfl) rfl dX1_init_42 ⟨Nat.le_of_ble_eq_true rfl, Nat.le_of_ble_eq_true rfl⟩ (fun w4 H locs hp hs => ?_)
  obtain ⟨g3, rfl⟩ := hp
  refine va_astq hx hb E.K hs.1 hs.2.1 hs.2.2 1 3 17 3 rfl rfl rfl rfl (vp_in_nI (by decide) (by decide)) dX1_init_45 (fun H locs hP hD hS => ?_)
  rw [nI_clamp (by decide)] at hP hD
  have hs := (⟨hP, hD, hS⟩ : WS x A s.heap ((([(a, .inr (0, [.ref q0, .int (nI 0), .int (nI 0)]))] ++ [(q0, .inl (xS x, 4, .inr (.inr (.inr (.inr (va_up (va_up (fun _ => none) 0 (some q1)) 1 (some q3)))))))]) ++ (blk x q1 g1)) ++ (blk x q3 g3)) H locs)
  refine lv_iinc (v := nI 2) (lv' := [(1, .int (nI 2)), (0, .ref a)]) hx hb dX1_init_46 hl (k := 0) rfl (nI_inc _) (by decide) rfl (fun ls hl => ?_)
  refine lv_goto (tgt := 24) hx hb dX1_init_49 (by decide) ?_
  refine lv_iload_n hx hb dX1_init_24 rfl (lv_at hl 0 rfl) ?_
  refine lv_aload_n hx hb dX1_init_25 rfl (lv_at hl 1 rfl) ?_
  refine va_get (ci := 0) (v := .ref q0) (C := RX1) (T := TX1) (N := 3) hx hb E.2.2.2.2.1 iX1 E.2.2.2.1 E.K hs.1 0 rfl rfl 0 (by decide) (E.tb q_89) (fun _ h => h) rfl dX1_init_26 ?_
  refine va_alen (v := nI 4) (cA := xS x) (ty := .object RX4) hx hb E.K hs.1 1 3 rfl rfl rfl dX1_init_29 ?_
  refine lv_icmp_ge (tgt := 52) hx hb dX1_init_30 (by decide) (fun h => absurd h (by decide)) (fun _ => ?_)
  refine lv_aload_n hx hb dX1_init_33 rfl (lv_at hl 1 rfl) ?_
  refine va_get (ci := 0) (v := .ref q0) (C := RX1) (T := TX1) (N := 3) hx hb E.2.2.2.2.1 iX1 E.2.2.2.1 E.K hs.1 0 rfl rfl 0 (by decide) (E.tb q_89) (fun _ h => h) rfl dX1_init_34 ?_
  refine lv_iload_n hx hb dX1_init_37 rfl (lv_at hl 0 rfl) ?_
  refine va_new (ci := 3) (fs := [.null, .null, .null, .null, .null, .null, .null, .int 0, .int 0, .int 0, .int 0]) (C := RX4) (T := TX4) (N := 11) hx hb E.2.2.2.2.1 iX4 tyX4 tyX4_ok E.2.2.2.1 (E.tb q_86) (E.tb q_19) (E.tb q_2) E.K hs.1 hs.2.1 hs.2.2 hA rfl hfX4 (Nat.le_of_ble_eq_true rfl) (Nat.le_of_ble_eq_true rfl) dX1_init_38 (fun q5 H hP hD hS => ?_)
  have hs := (⟨hP, hD, hS⟩ : WS x A s.heap (((([(a, .inr (0, [.ref q0, .int (nI 0), .int (nI 0)]))] ++ [(q0, .inl (xS x, 4, .inr (.inr (.inr (.inr (va_up (va_up (fun _ => none) 0 (some q1)) 1 (some q3)))))))]) ++ (blk x q1 g1)) ++ (blk x q3 g3)) ++ [(q5, .inr (3, [.null, .null, .null, .null, .null, .null, .null, .int 0, .int 0, .int 0, .int 0]))]) H _)
  refine lv_dup hx hb dX1_init_41 rfl ?_
  refine zcN E.B hN hA hs (c_X4_init l x q5) [.ref q5, .int (nI 2), .ref q0] q_22 q_2 hN.2.1 q_21 rfl hyX4_init ⟨Nat.le_of_ble_eq_true rfl, Nat.le_of_ble_eq_true rfl⟩ rfl hl.1 (Nat.le_of_ble_eq_true rfl) rfl dX1_init_42 ⟨Nat.le_of_ble_eq_true rfl, Nat.le_of_ble_eq_true rfl⟩ (fun w6 H locs hp hs => ?_)
  obtain ⟨g5, rfl⟩ := hp
  refine va_astq hx hb E.K hs.1 hs.2.1 hs.2.2 1 3 32 3 rfl rfl rfl rfl (vp_in_nI (by decide) (by decide)) dX1_init_45 (fun H locs hP hD hS => ?_)
  rw [nI_clamp (by decide)] at hP hD
  have hs := (⟨hP, hD, hS⟩ : WS x A s.heap (((([(a, .inr (0, [.ref q0, .int (nI 0), .int (nI 0)]))] ++ [(q0, .inl (xS x, 4, .inr (.inr (.inr (.inr (va_up (va_up (va_up (fun _ => none) 0 (some q1)) 1 (some q3)) 2 (some q5)))))))]) ++ (blk x q1 g1)) ++ (blk x q3 g3)) ++ (blk x q5 g5)) H locs)
  refine lv_iinc (v := nI 3) (lv' := [(1, .int (nI 3)), (0, .ref a)]) hx hb dX1_init_46 hl (k := 0) rfl (nI_inc _) (by decide) rfl (fun ls hl => ?_)
  refine lv_goto (tgt := 24) hx hb dX1_init_49 (by decide) ?_
  refine lv_iload_n hx hb dX1_init_24 rfl (lv_at hl 0 rfl) ?_
  refine lv_aload_n hx hb dX1_init_25 rfl (lv_at hl 1 rfl) ?_
  refine va_get (ci := 0) (v := .ref q0) (C := RX1) (T := TX1) (N := 3) hx hb E.2.2.2.2.1 iX1 E.2.2.2.1 E.K hs.1 0 rfl rfl 0 (by decide) (E.tb q_89) (fun _ h => h) rfl dX1_init_26 ?_
  refine va_alen (v := nI 4) (cA := xS x) (ty := .object RX4) hx hb E.K hs.1 1 3 rfl rfl rfl dX1_init_29 ?_
  refine lv_icmp_ge (tgt := 52) hx hb dX1_init_30 (by decide) (fun h => absurd h (by decide)) (fun _ => ?_)
  refine lv_aload_n hx hb dX1_init_33 rfl (lv_at hl 1 rfl) ?_
  refine va_get (ci := 0) (v := .ref q0) (C := RX1) (T := TX1) (N := 3) hx hb E.2.2.2.2.1 iX1 E.2.2.2.1 E.K hs.1 0 rfl rfl 0 (by decide) (E.tb q_89) (fun _ h => h) rfl dX1_init_34 ?_
  refine lv_iload_n hx hb dX1_init_37 rfl (lv_at hl 0 rfl) ?_
  refine va_new (ci := 3) (fs := [.null, .null, .null, .null, .null, .null, .null, .int 0, .int 0, .int 0, .int 0]) (C := RX4) (T := TX4) (N := 11) hx hb E.2.2.2.2.1 iX4 tyX4 tyX4_ok E.2.2.2.1 (E.tb q_86) (E.tb q_19) (E.tb q_2) E.K hs.1 hs.2.1 hs.2.2 hA rfl hfX4 (Nat.le_of_ble_eq_true rfl) (Nat.le_of_ble_eq_true rfl) dX1_init_38 (fun q7 H hP hD hS => ?_)
  have hs := (⟨hP, hD, hS⟩ : WS x A s.heap ((((([(a, .inr (0, [.ref q0, .int (nI 0), .int (nI 0)]))] ++ [(q0, .inl (xS x, 4, .inr (.inr (.inr (.inr (va_up (va_up (va_up (fun _ => none) 0 (some q1)) 1 (some q3)) 2 (some q5)))))))]) ++ (blk x q1 g1)) ++ (blk x q3 g3)) ++ (blk x q5 g5)) ++ [(q7, .inr (3, [.null, .null, .null, .null, .null, .null, .null, .int 0, .int 0, .int 0, .int 0]))]) H _)
  refine lv_dup hx hb dX1_init_41 rfl ?_
  refine zcN E.B hN hA hs (c_X4_init l x q7) [.ref q7, .int (nI 3), .ref q0] q_22 q_2 hN.2.1 q_21 rfl hyX4_init ⟨Nat.le_of_ble_eq_true rfl, Nat.le_of_ble_eq_true rfl⟩ rfl hl.1 (Nat.le_of_ble_eq_true rfl) rfl dX1_init_42 ⟨Nat.le_of_ble_eq_true rfl, Nat.le_of_ble_eq_true rfl⟩ (fun w8 H locs hp hs => ?_)
  obtain ⟨g7, rfl⟩ := hp
  refine va_astq hx hb E.K hs.1 hs.2.1 hs.2.2 1 3 47 3 rfl rfl rfl rfl (vp_in_nI (by decide) (by decide)) dX1_init_45 (fun H locs hP hD hS => ?_)
  rw [nI_clamp (by decide)] at hP hD
  have hs := (⟨hP, hD, hS⟩ : WS x A s.heap ((((([(a, .inr (0, [.ref q0, .int (nI 0), .int (nI 0)]))] ++ [(q0, .inl (xS x, 4, .inr (.inr (.inr (.inr (va_up (va_up (va_up (va_up (fun _ => none) 0 (some q1)) 1 (some q3)) 2 (some q5)) 3 (some q7)))))))]) ++ (blk x q1 g1)) ++ (blk x q3 g3)) ++ (blk x q5 g5)) ++ (blk x q7 g7)) H locs)
  refine lv_iinc (v := nI 4) (lv' := [(1, .int (nI 4)), (0, .ref a)]) hx hb dX1_init_46 hl (k := 0) rfl (nI_inc _) (by decide) rfl (fun ls hl => ?_)
  refine lv_goto (tgt := 24) hx hb dX1_init_49 (by decide) ?_
  refine lv_iload_n hx hb dX1_init_24 rfl (lv_at hl 0 rfl) ?_
  refine lv_aload_n hx hb dX1_init_25 rfl (lv_at hl 1 rfl) ?_
  refine va_get (ci := 0) (v := .ref q0) (C := RX1) (T := TX1) (N := 3) hx hb E.2.2.2.2.1 iX1 E.2.2.2.1 E.K hs.1 0 rfl rfl 0 (by decide) (E.tb q_89) (fun _ h => h) rfl dX1_init_26 ?_
  refine va_alen (v := nI 4) (cA := xS x) (ty := .object RX4) hx hb E.K hs.1 1 3 rfl rfl rfl dX1_init_29 ?_
  refine lv_icmp_ge (tgt := 52) hx hb dX1_init_30 (by decide) (fun _ => ?_) (fun h => absurd (by decide) h)
  exact zeC E hs ⟨q0, (fun k => ([q1, q3, q5, q7] : List Nat).getD k 0), (fun k => ([g1, g3, g5, g7] : List (Nat → Nat)).getD k (fun _ => 0)), rfl⟩ rfl rfl dX1_init_52

def blf (x : CT) (a n : Nat) (gn : Nat → Nat) (h t : Nat) (s : Nat → Nat) (gh : Nat → Nat → Nat) (sn : Nat) (gs : Nat → Nat) (v vc j : Nat) (gj : Nat → Nat) (pl pr : Nat) : va_W := (((((([(a, .inr (5, [.ref n, .ref h, .ref sn, .int (nI 0), .ref v, .ref j, .ref pl]))] ++ blk x n gn) ++ blh x h t s gh) ++ blk x sn gs) ++ [(v, .inr (4, [.ref vc, .int (nI 0)])), (vc, .inl (xC x, 60, .inl (fun _ => 0)))]) ++ blj x j gj) ++ [(pl, .inr (2, [.ref pr])), (pr, .inl (xI x, 36, .inl (fun _ => (-1))))])

set_option maxHeartbeats 4000000 in
set_option maxRecDepth 100000 in
/-- a new map -/
theorem c_X6_init (l : Launch) (x : CT) (a : Nat) : CC l yX6_init cX6_init 1 4 76 101 1436 x a (.inr (5, [.null, .null, .null, .int 0, .null, .null, .null])) [] (fun w1 => ∃ n gn h t s gh sn gs v vc j gj pl pr, w1 = blf x a n gn h t s gh sn gs v vc j gj pl pr) := by
  refine zsC (own := RX6) rfl (by decide +kernel) rfl (Nat.le_of_ble_eq_true rfl) ?_
  intro p e s m below meth c ls A E hN hA hs hl
  have hx := E.1
  have hb := E.2.1
  have hl : lv_has ls 1 [(0, .ref a)] := hl
  refine lv_aload_n hx hb dX6_init_0 rfl (lv_at hl 0 rfl) ?_
  refine zcobj E q_15 hl.1 dX6_init_1 ⟨Nat.le_of_ble_eq_true rfl, Nat.le_of_ble_eq_true rfl⟩ ?_
  refine lv_aload_n hx hb dX6_init_4 rfl (lv_at hl 0 rfl) ?_
  refine va_new (ci := 3) (fs := [.null, .null, .null, .null, .null, .null, .null, .int 0, .int 0, .int 0, .int 0]) (C := RX4) (T := TX4) (N := 11) hx hb E.2.2.2.2.1 iX4 tyX4 tyX4_ok E.2.2.2.1 (E.tb q_18) (E.tb q_19) (E.tb q_2) E.K hs.1 hs.2.1 hs.2.2 hA rfl hfX4 (Nat.le_of_ble_eq_true rfl) (Nat.le_of_ble_eq_true rfl) dX6_init_5 (fun q0 H hP hD hS => ?_)
  have hs := (⟨hP, hD, hS⟩ : WS x A s.heap ([(a, .inr (5, [.null, .null, .null, .int 0, .null, .null, .null]))] ++ [(q0, .inr (3, [.null, .null, .null, .null, .null, .null, .null, .int 0, .int 0, .int 0, .int 0]))]) H _)
  refine lv_dup hx hb dX6_init_8 rfl ?_
  refine zcN E.B hN hA hs (c_X4_init l x q0) [.ref q0, .ref a] q_22 q_2 hN.1 q_21 rfl hyX4_init ⟨Nat.le_of_ble_eq_true rfl, Nat.le_of_ble_eq_true rfl⟩ rfl hl.1 (Nat.le_of_ble_eq_true rfl) rfl dX6_init_9 ⟨Nat.le_of_ble_eq_true rfl, Nat.le_of_ble_eq_true rfl⟩ (fun w1 H locs hp hs => ?_)
  obtain ⟨g0, rfl⟩ := hp
  refine va_putF (ci := 5) (v := .ref q0) (ty := .object "FrozenDistricts$State") (C := RX6) (T := TX6) (N := 7) hx hb E.2.2.2.2.1 iX6 tyX6 tyX6_ok nmX6 E.2.2.2.1 E.K hs.1 hs.2.1 hs.2.2 0 rfl rfl 0 (by decide) (E.tb q_130) (fun _ h => h) rfl E.nm rfl (by decide +kernel) rfl rfl (Nat.le_of_ble_eq_true rfl) dX6_init_12 (fun H locs hP hD hS => ?_)
  have hs := (⟨hP, hD, hS⟩ : WS x A s.heap ([(a, .inr (5, [.ref q0, .null, .null, .int 0, .null, .null, .null]))] ++ (blk x q0 g0)) H locs)
  refine lv_aload_n hx hb dX6_init_15 rfl (lv_at hl 0 rfl) ?_
  refine va_new (ci := 0) (fs := [.null, .int 0, .int 0]) (C := RX1) (T := TX1) (N := 3) hx hb E.2.2.2.2.1 iX1 tyX1 tyX1_ok E.2.2.2.1 (E.tb q_80) (E.tb q_81) (E.tb q_4) E.K hs.1 hs.2.1 hs.2.2 hA rfl hfX1 (Nat.le_of_ble_eq_true rfl) (Nat.le_of_ble_eq_true rfl) dX6_init_16 (fun q2 H hP hD hS => ?_)
  have hs := (⟨hP, hD, hS⟩ : WS x A s.heap (([(a, .inr (5, [.ref q0, .null, .null, .int 0, .null, .null, .null]))] ++ (blk x q0 g0)) ++ [(q2, .inr (0, [.null, .int 0, .int 0]))]) H _)
  refine lv_dup hx hb dX6_init_19 rfl ?_
  refine zcI E.B hN hA hs (c_X1_init l x q2) [.ref q2, .ref a] q_84 q_4 q_82 q_83 rfl hyX1_init ⟨Nat.le_of_ble_eq_true rfl, Nat.le_of_ble_eq_true rfl⟩ rfl hl.1 (Nat.le_of_ble_eq_true rfl) rfl dX6_init_20 ⟨Nat.le_of_ble_eq_true rfl, Nat.le_of_ble_eq_true rfl⟩ (fun w3 H locs hp hs => ?_)
  obtain ⟨t2, s2, g2, rfl⟩ := hp
  refine va_putF (ci := 5) (v := .ref q2) (ty := .object "FrozenDistricts$History") (C := RX6) (T := TX6) (N := 7) hx hb E.2.2.2.2.1 iX6 tyX6 tyX6_ok nmX6 E.2.2.2.1 E.K hs.1 hs.2.1 hs.2.2 0 rfl rfl 1 (by decide) (E.tb q_131) (fun _ h => h) rfl E.nm rfl (by decide +kernel) rfl rfl (Nat.le_of_ble_eq_true rfl) dX6_init_23 (fun H locs hP hD hS => ?_)
  have hs := (⟨hP, hD, hS⟩ : WS x A s.heap (([(a, .inr (5, [.ref q0, .ref q2, .null, .int 0, .null, .null, .null]))] ++ (blk x q0 g0)) ++ (blh x q2 t2 s2 g2)) H locs)
  refine lv_aload_n hx hb dX6_init_26 rfl (lv_at hl 0 rfl) ?_
  refine va_new (ci := 3) (fs := [.null, .null, .null, .null, .null, .null, .null, .int 0, .int 0, .int 0, .int 0]) (C := RX4) (T := TX4) (N := 11) hx hb E.2.2.2.2.1 iX4 tyX4 tyX4_ok E.2.2.2.1 (E.tb q_18) (E.tb q_19) (E.tb q_2) E.K hs.1 hs.2.1 hs.2.2 hA rfl hfX4 (Nat.le_of_ble_eq_true rfl) (Nat.le_of_ble_eq_true rfl) dX6_init_27 (fun q4 H hP hD hS => ?_)
  have hs := (⟨hP, hD, hS⟩ : WS x A s.heap ((([(a, .inr (5, [.ref q0, .ref q2, .null, .int 0, .null, .null, .null]))] ++ (blk x q0 g0)) ++ (blh x q2 t2 s2 g2)) ++ [(q4, .inr (3, [.null, .null, .null, .null, .null, .null, .null, .int 0, .int 0, .int 0, .int 0]))]) H _)
  refine lv_dup hx hb dX6_init_30 rfl ?_
  refine zcN E.B hN hA hs (c_X4_init l x q4) [.ref q4, .ref a] q_22 q_2 hN.1 q_21 rfl hyX4_init ⟨Nat.le_of_ble_eq_true rfl, Nat.le_of_ble_eq_true rfl⟩ rfl hl.1 (Nat.le_of_ble_eq_true rfl) rfl dX6_init_31 ⟨Nat.le_of_ble_eq_true rfl, Nat.le_of_ble_eq_true rfl⟩ (fun w5 H locs hp hs => ?_)
  obtain ⟨g4, rfl⟩ := hp
  refine va_putF (ci := 5) (v := .ref q4) (ty := .object "FrozenDistricts$State") (C := RX6) (T := TX6) (N := 7) hx hb E.2.2.2.2.1 iX6 tyX6 tyX6_ok nmX6 E.2.2.2.1 E.K hs.1 hs.2.1 hs.2.2 0 rfl rfl 2 (by decide) (E.tb q_132) (fun _ h => h) rfl E.nm rfl (by decide +kernel) rfl rfl (Nat.le_of_ble_eq_true rfl) dX6_init_34 (fun H locs hP hD hS => ?_)
  have hs := (⟨hP, hD, hS⟩ : WS x A s.heap ((([(a, .inr (5, [.ref q0, .ref q2, .ref q4, .int 0, .null, .null, .null]))] ++ (blk x q0 g0)) ++ (blh x q2 t2 s2 g2)) ++ (blk x q4 g4)) H locs)
  refine lv_aload_n hx hb dX6_init_37 rfl (lv_at hl 0 rfl) ?_
  refine lv_iconst (v := nI 0) hx hb dX6_init_38 (by decide) ?_
  refine va_put (ci := 5) (v := .int (nI 0)) (ty := .boolean) (C := RX6) (T := TX6) (N := 7) hx hb E.2.2.2.2.1 iX6 tyX6 tyX6_ok nmX6 E.2.2.2.1 E.K hs.1 hs.2.1 hs.2.2 0 rfl rfl 3 (by decide) (E.tb q_133) (fun _ h => h) rfl (by decide +kernel) rfl rfl (Nat.le_of_ble_eq_true rfl) dX6_init_39 (fun H locs hP hD hS => ?_)
  have hs := (⟨hP, hD, hS⟩ : WS x A s.heap ((([(a, .inr (5, [.ref q0, .ref q2, .ref q4, .int (nI 0), .null, .null, .null]))] ++ (blk x q0 g0)) ++ (blh x q2 t2 s2 g2)) ++ (blk x q4 g4)) H locs)
  refine lv_aload_n hx hb dX6_init_42 rfl (lv_at hl 0 rfl) ?_
  refine va_new (ci := 4) (fs := [.null, .int 0]) (C := RX5) (T := TX5) (N := 2) hx hb E.2.2.2.2.1 iX5 tyX5 tyX5_ok E.2.2.2.1 (E.tb q_99) (E.tb q_100) (E.tb q_5) E.K hs.1 hs.2.1 hs.2.2 hA rfl hfX5 (Nat.le_of_ble_eq_true rfl) (Nat.le_of_ble_eq_true rfl) dX6_init_43 (fun q6 H hP hD hS => ?_)
  have hs := (⟨hP, hD, hS⟩ : WS x A s.heap (((([(a, .inr (5, [.ref q0, .ref q2, .ref q4, .int (nI 0), .null, .null, .null]))] ++ (blk x q0 g0)) ++ (blh x q2 t2 s2 g2)) ++ (blk x q4 g4)) ++ [(q6, .inr (4, [.null, .int 0]))]) H _)
  refine lv_dup hx hb dX6_init_46 rfl ?_
  refine zcN E.B hN hA hs (c_X5_init l x q6) [.ref q6, .ref a] q_103 q_5 hN.2.2.1 q_102 rfl hyX5_init ⟨Nat.le_of_ble_eq_true rfl, Nat.le_of_ble_eq_true rfl⟩ rfl hl.1 (Nat.le_of_ble_eq_true rfl) rfl dX6_init_47 ⟨Nat.le_of_ble_eq_true rfl, Nat.le_of_ble_eq_true rfl⟩ (fun w7 H locs hp hs => ?_)
  obtain ⟨c6, rfl⟩ := hp
  refine va_putF (ci := 5) (v := .ref q6) (ty := .object "FrozenDistricts$VoteText") (C := RX6) (T := TX6) (N := 7) hx hb E.2.2.2.2.1 iX6 tyX6 tyX6_ok nmX6 E.2.2.2.1 E.K hs.1 hs.2.1 hs.2.2 0 rfl rfl 4 (by decide) (E.tb q_134) (fun _ h => h) rfl E.nm rfl (by decide +kernel) rfl rfl (Nat.le_of_ble_eq_true rfl) dX6_init_50 (fun H locs hP hD hS => ?_)
  have hs := (⟨hP, hD, hS⟩ : WS x A s.heap (((([(a, .inr (5, [.ref q0, .ref q2, .ref q4, .int (nI 0), .ref q6, .null, .null]))] ++ (blk x q0 g0)) ++ (blh x q2 t2 s2 g2)) ++ (blk x q4 g4)) ++ [(q6, .inr (4, [.ref c6, .int (nI 0)])), (c6, .inl (xC x, 60, .inl (fun _ => 0)))]) H locs)
  refine lv_aload_n hx hb dX6_init_53 rfl (lv_at hl 0 rfl) ?_
  refine va_new (ci := 1) (fs := [.null, .null]) (C := RX2) (T := TX2) (N := 2) hx hb E.2.2.2.2.1 iX2 tyX2 tyX2_ok E.2.2.2.1 (E.tb q_113) (E.tb q_114) (E.tb q_6) E.K hs.1 hs.2.1 hs.2.2 hA rfl hfX2 (Nat.le_of_ble_eq_true rfl) (Nat.le_of_ble_eq_true rfl) dX6_init_54 (fun q8 H hP hD hS => ?_)
  have hs := (⟨hP, hD, hS⟩ : WS x A s.heap ((((([(a, .inr (5, [.ref q0, .ref q2, .ref q4, .int (nI 0), .ref q6, .null, .null]))] ++ (blk x q0 g0)) ++ (blh x q2 t2 s2 g2)) ++ (blk x q4 g4)) ++ [(q6, .inr (4, [.ref c6, .int (nI 0)])), (c6, .inl (xC x, 60, .inl (fun _ => 0)))]) ++ [(q8, .inr (1, [.null, .null]))]) H _)
  refine lv_dup hx hb dX6_init_57 rfl ?_
  refine zcN E.B hN hA hs (c_X2_init l x q8) [.ref q8, .ref a] q_117 q_6 hN.2.2.2.1 q_116 rfl hyX2_init ⟨Nat.le_of_ble_eq_true rfl, Nat.le_of_ble_eq_true rfl⟩ rfl hl.1 (Nat.le_of_ble_eq_true rfl) rfl dX6_init_58 ⟨Nat.le_of_ble_eq_true rfl, Nat.le_of_ble_eq_true rfl⟩ (fun w9 H locs hp hs => ?_)
  obtain ⟨g8, rfl⟩ := hp
  refine va_putF (ci := 5) (v := .ref q8) (ty := .object "FrozenDistricts$Judge") (C := RX6) (T := TX6) (N := 7) hx hb E.2.2.2.2.1 iX6 tyX6 tyX6_ok nmX6 E.2.2.2.1 E.K hs.1 hs.2.1 hs.2.2 0 rfl rfl 5 (by decide) (E.tb q_135) (fun _ h => h) rfl E.nm rfl (by decide +kernel) rfl rfl (Nat.le_of_ble_eq_true rfl) dX6_init_61 (fun H locs hP hD hS => ?_)
  have hs := (⟨hP, hD, hS⟩ : WS x A s.heap ((((([(a, .inr (5, [.ref q0, .ref q2, .ref q4, .int (nI 0), .ref q6, .ref q8, .null]))] ++ (blk x q0 g0)) ++ (blh x q2 t2 s2 g2)) ++ (blk x q4 g4)) ++ [(q6, .inr (4, [.ref c6, .int (nI 0)])), (c6, .inl (xC x, 60, .inl (fun _ => 0)))]) ++ (blj x q8 g8)) H locs)
  refine lv_aload_n hx hb dX6_init_64 rfl (lv_at hl 0 rfl) ?_
  refine va_new (ci := 2) (fs := [.null]) (C := RX3) (T := TX3) (N := 1) hx hb E.2.2.2.2.1 iX3 tyX3 tyX3_ok E.2.2.2.1 (E.tb q_128) (E.tb q_25) (E.tb q_3) E.K hs.1 hs.2.1 hs.2.2 hA rfl hfX3 (Nat.le_of_ble_eq_true rfl) (Nat.le_of_ble_eq_true rfl) dX6_init_65 (fun q10 H hP hD hS => ?_)
  have hs := (⟨hP, hD, hS⟩ : WS x A s.heap (((((([(a, .inr (5, [.ref q0, .ref q2, .ref q4, .int (nI 0), .ref q6, .ref q8, .null]))] ++ (blk x q0 g0)) ++ (blh x q2 t2 s2 g2)) ++ (blk x q4 g4)) ++ [(q6, .inr (4, [.ref c6, .int (nI 0)])), (c6, .inl (xC x, 60, .inl (fun _ => 0)))]) ++ (blj x q8 g8)) ++ [(q10, .inr (2, [.null]))]) H _)
  refine lv_dup hx hb dX6_init_68 rfl ?_
  refine lv_bipush (v := nI 36) hx hb dX6_init_69 (by decide) ?_
  refine lv_iconst (v := (-1)) hx hb dX6_init_71 (by decide) ?_
  refine zcI E.B hN hA hs (c_X3_init l x q10 36 (by decide) (by decide) (-1)) [.ref q10, .ref a] q_28 q_3 q_129 q_27 rfl hyX3_init ⟨Nat.le_of_ble_eq_true rfl, Nat.le_of_ble_eq_true rfl⟩ rfl hl.1 (Nat.le_of_ble_eq_true rfl) rfl dX6_init_72 ⟨Nat.le_of_ble_eq_true rfl, Nat.le_of_ble_eq_true rfl⟩ (fun w11 H locs hp hs => ?_)
  obtain ⟨r10, rfl⟩ := hp
  refine va_putF (ci := 5) (v := .ref q10) (ty := .object "FrozenDistricts$Row") (C := RX6) (T := TX6) (N := 7) hx hb E.2.2.2.2.1 iX6 tyX6 tyX6_ok nmX6 E.2.2.2.1 E.K hs.1 hs.2.1 hs.2.2 0 rfl rfl 6 (by decide) (E.tb q_136) (fun _ h => h) rfl E.nm rfl (by decide +kernel) rfl rfl (Nat.le_of_ble_eq_true rfl) dX6_init_75 (fun H locs hP hD hS => ?_)
  have hs := (⟨hP, hD, hS⟩ : WS x A s.heap (((((([(a, .inr (5, [.ref q0, .ref q2, .ref q4, .int (nI 0), .ref q6, .ref q8, .ref q10]))] ++ (blk x q0 g0)) ++ (blh x q2 t2 s2 g2)) ++ (blk x q4 g4)) ++ [(q6, .inr (4, [.ref c6, .int (nI 0)])), (c6, .inl (xC x, 60, .inl (fun _ => 0)))]) ++ (blj x q8 g8)) ++ [(q10, .inr (2, [.ref r10])), (r10, .inl (xI x, 36, .inl (fun _ => (-1))))]) H locs)
  exact zeC E hs ⟨q0, g0, q2, t2, s2, g2, q4, g4, q6, c6, q8, g8, q10, r10, rfl⟩ rfl rfl dX6_init_78
