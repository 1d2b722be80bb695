
/-! starts, ends, calls -/
/-- what a call wants of the tables -/
def zLV (own : String) (index : Nat) (C : String) (y : MethodName) (bytes : ByteArray) (maxL : Nat) (ret : Option FieldType) (n : Nat) : Prop :=
  Cond.code y bytes maxL ret ∈ TB ∧ Cond.initialized y.cls ∈ TB ∧ Cond.methodLink own index y ∈ TB ∧ Cond.instanceMethod y ∈ TB ∧ Cond.selects C y y ∈ TB ∧ (y.cls ≠ "java/lang/invoke/MethodHandle" ∧ y.cls ≠ "java/lang/invoke/VarHandle" ∧ (parseMethodDescriptor y.desc).map (fun d => d.parameters.length) = some n)
def zLS (own : String) (index : Nat) (y : MethodName) (bytes : ByteArray) (maxL : Nat) (ret : Option FieldType) (n : Nat) : Prop :=
  Cond.code y bytes maxL ret ∈ TB ∧ Cond.initialized y.cls ∈ TB ∧ Cond.methodLink own index y ∈ TB ∧ Cond.static y ∈ TB ∧ (y.cls ≠ "java/lang/invoke/MethodHandle" ∧ y.cls ≠ "java/lang/invoke/VarHandle" ∧ (parseMethodDescriptor y.desc).map (fun d => d.parameters.length) = some n)
section CALLS
variable {p : Program} {l : Launch} {e : Env} {R : Room} {s : State} {m : MethodId} {args : Array Value} {below : List Frame} {meth : Method} {c : Code} {H : Heap} {locs : List Loc} {cells slots : Nat} {Q : State → Prop}
variable {cc : ByteArray} {nL : Nat} {own : String} {rt : Option FieldType} {A0 : Nat → Prop} {x : CT} {H0 : Heap} {ar fd : AR} {pc : Nat} {ls : Array Slot} {rest st0 as : List Value}
variable {y : MethodName} {bytes : ByteArray} {maxL index n fr lo k : Nat} {ret : Option FieldType} {C : String} {Qc : Array Value → State → Outcome → State → Prop} {ci : Nat} {fs : List Value} {T : u_T} {N : Nat}
theorem zblind : FrameBlind (va_Pc as (OK x ar fd)) := fun a U g mk q => by
  obtain ⟨q1, qP, qK, qJ⟩ := q
  exact ⟨q1, qP, va_K.moved (u := U) (U := U.calling g mk a) (Vm.Alike.refl U.vm) qK, qJ⟩
theorem zrunV (E : EV p R s m args meth c cc nL own rt cells slots A0 x) (hs : ST x A0 H0 ar fd H locs) (L : zLV own index C y bytes maxL ret n) (hM : Met l y (.code y bytes maxL ret :: TB) (rmZ fr lo) (va_Pc (.ref (xa x k) :: as) (OK x ar fd)) Qc 0 0 (AA x)) (hk : k < 110) (he : sh x k (ar k) (fd k) = .inr (ci, fs)) (hc : vwCl[ci]? = some (C, T, N)) (hR : fr + 1 ≤ R.frames ∧ 8 + (maxL + 11) + lo ≤ R.locals) (hn : as.length = n) (hl : ls.size = nL) (hr : (rest.map fun v => v.category).sum ≤ 8) (hst : st0 = as.reverse ++ .ref (xa x k) :: rest) (hdg : decode cc pc = .ok (.invokevirtual index, 3)) :
    va_Run p l e R s m args below meth c H locs cells slots 0 0 (F0 m pc ls st0) rest (Qc (.ref (xa x k) :: as).toArray) (AA x) :=
  va_runV E.cf hM ⟨callB_of n E.2.2.2.2.1 (gTB L.1) rfl rfl rfl (E.tb L.2.1) (E.tb L.2.2.1) L.2.2.2.2.2 hR, E.tb L.2.2.2.1, E.tb L.2.2.2.2.1⟩ ⟨zblind, va_recv E.K hs.1 hc ((wl_get hk).trans (by rw [he])), fun U hU hW => ⟨rfl, by rw [hU]; exact hs.1, E.K.moved hW.alike, E.J⟩⟩ rfl hn hl hst (lv_room hr) hdg E.rm
theorem zrunS (E : EV p R s m args meth c cc nL own rt cells slots A0 x) (hs : ST x A0 H0 ar fd H locs) (L : zLS own index y bytes maxL ret n) (hM : Met l y (.code y bytes maxL ret :: TB) (rmZ fr lo) (va_Pc as (OK x ar fd)) Qc 0 0 (AA x)) (hR : fr + 1 ≤ R.frames ∧ 8 + (maxL + 11) + lo ≤ R.locals) (hn : as.length = n) (hl : ls.size = nL) (hr : (rest.map fun v => v.category).sum ≤ 8) (hst : st0 = as.reverse ++ rest) (hdg : decode cc pc = .ok (.invokestatic index, 3)) :
    va_Run p l e R s m args below meth c H locs cells slots 0 0 (F0 m pc ls st0) rest (Qc as.toArray) (AA x) :=
  va_runS E.cf hM ⟨callB_of n E.2.2.2.2.1 (gTB L.1) rfl rfl rfl (E.tb L.2.1) (E.tb L.2.2.1) L.2.2.2.2 hR, E.tb L.2.2.2.1⟩ ⟨zblind, fun U hU hW => ⟨rfl, by rw [hU]; exact hs.1, E.K.moved hW.alike, E.J⟩⟩ rfl hn hl hst (lv_room hr) hdg E.rm
/-! virtual -/
theorem zVP {post : Int32 → Prop} (E : EV p R s m args meth c cc nL own rt cells slots A0 x) (hs : ST x A0 H0 ar fd H locs) (L : zLV own index C y bytes maxL ret n) (rest : List Value) (hM : CP l y bytes maxL ret fr lo x (.ref (xa x k) :: as) ar fd post) (hk : k < 110) (he : sh x k (ar k) (fd k) = .inr (ci, fs)) (hc : vwCl[ci]? = some (C, T, N)) (hR : fr + 1 ≤ R.frames ∧ 8 + (maxL + 11) + lo ≤ R.locals) (hn : as.length = n) (hl : ls.size = nL) (hr : (rest.map fun v => v.category).sum ≤ 8) (hst : st0 = as.reverse ++ .ref (xa x k) :: rest) (hdg : decode cc pc = .ok (.invokevirtual index, 3))
    (kk : ∀ (r : Int32) (H : Heap) (locs : List Loc), post r → ST x A0 H0 ar fd H locs → W p l e R s m args below meth c H locs cells slots Q (F0 m (pc + 3) ls (.int r :: rest))) : W p l e R s m args below meth c H locs cells slots Q (F0 m pc ls st0) :=
  va_calli (zrunV E hs L hM hk he hc hR hn hl hr hst hdg) hs.2 (fun q _ h => E.A q h) E.A (fun r u t H1 locs1 ht hvm hp hB hz hk hS => kk r H1 locs1 hp ⟨by rw [← ht]; exact hB, hS⟩)
theorem zVI {post : Int32 → AR → AR → Prop} (E : EV p R s m args meth c cc nL own rt cells slots A0 x) (hs : ST x A0 H0 ar fd H locs) (L : zLV own index C y bytes maxL ret n) (rest : List Value) (hM : CI l y bytes maxL ret fr lo x (.ref (xa x k) :: as) ar fd post) (hk : k < 110) (he : sh x k (ar k) (fd k) = .inr (ci, fs)) (hc : vwCl[ci]? = some (C, T, N)) (hR : fr + 1 ≤ R.frames ∧ 8 + (maxL + 11) + lo ≤ R.locals) (hn : as.length = n) (hl : ls.size = nL) (hr : (rest.map fun v => v.category).sum ≤ 8) (hst : st0 = as.reverse ++ .ref (xa x k) :: rest) (hdg : decode cc pc = .ok (.invokevirtual index, 3))
    (kk : ∀ (r : Int32) (ar fd : AR) (H : Heap) (locs : List Loc), post r ar fd → ST x A0 H0 ar fd H locs → W p l e R s m args below meth c H locs cells slots Q (F0 m (pc + 3) ls (.int r :: rest))) : W p l e R s m args below meth c H locs cells slots Q (F0 m pc ls st0) :=
  va_calli (zrunV E hs L hM hk he hc hR hn hl hr hst hdg) hs.2 (fun q _ h => E.A q h) E.A (fun r u t H1 locs1 ht hvm hp hB hz hk hS => kk r u.1 u.2 H1 locs1 hp ⟨by rw [← ht]; exact hB, hS⟩)
theorem zVV {post : AR → AR → Prop} (E : EV p R s m args meth c cc nL own rt cells slots A0 x) (hs : ST x A0 H0 ar fd H locs) (L : zLV own index C y bytes maxL none n) (rest : List Value) (hM : CV l y bytes maxL fr lo x (.ref (xa x k) :: as) ar fd post) (hk : k < 110) (he : sh x k (ar k) (fd k) = .inr (ci, fs)) (hc : vwCl[ci]? = some (C, T, N)) (hR : fr + 1 ≤ R.frames ∧ 8 + (maxL + 11) + lo ≤ R.locals) (hn : as.length = n) (hl : ls.size = nL) (hr : (rest.map fun v => v.category).sum ≤ 8) (hst : st0 = as.reverse ++ .ref (xa x k) :: rest) (hdg : decode cc pc = .ok (.invokevirtual index, 3))
    (kk : ∀ (ar fd : AR) (H : Heap) (locs : List Loc), post ar fd → ST x A0 H0 ar fd H locs → W p l e R s m args below meth c H locs cells slots Q (F0 m (pc + 3) ls rest)) : W p l e R s m args below meth c H locs cells slots Q (F0 m pc ls st0) :=
  va_callv (zrunV E hs L hM hk he hc hR hn hl hr hst hdg) hs.2 (fun q _ h => E.A q h) E.A (fun u t H1 locs1 ht hvm hp hB hz hk hS => kk u.1 u.2 H1 locs1 hp ⟨by rw [← ht]; exact hB, hS⟩)
theorem zVR {post : Nat → Prop} (E : EV p R s m args meth c cc nL own rt cells slots A0 x) (hs : ST x A0 H0 ar fd H locs) (L : zLV own index C y bytes maxL ret n) (rest : List Value) (hM : CR l y bytes maxL ret fr lo x (.ref (xa x k) :: as) ar fd post) (hk : k < 110) (he : sh x k (ar k) (fd k) = .inr (ci, fs)) (hc : vwCl[ci]? = some (C, T, N)) (hR : fr + 1 ≤ R.frames ∧ 8 + (maxL + 11) + lo ≤ R.locals) (hn : as.length = n) (hl : ls.size = nL) (hr : (rest.map fun v => v.category).sum ≤ 8) (hst : st0 = as.reverse ++ .ref (xa x k) :: rest) (hdg : decode cc pc = .ok (.invokevirtual index, 3))
    (kk : ∀ (a : Nat) (H : Heap) (locs : List Loc), post a → ST x A0 H0 ar fd H locs → W p l e R s m args below meth c H locs cells slots Q (F0 m (pc + 3) ls (.ref a :: rest))) : W p l e R s m args below meth c H locs cells slots Q (F0 m pc ls st0) :=
  va_callr (zrunV E hs L hM hk he hc hR hn hl hr hst hdg) hs.2 (fun q _ h => E.A q h) E.A (fun u a t H1 locs1 ht hvm hp hB hz hk hS => kk a H1 locs1 hB.1 ⟨by rw [← ht]; exact hB.2, hS⟩)
/-! static -/
theorem zSP {post : Int32 → Prop} (E : EV p R s m args meth c cc nL own rt cells slots A0 x) (hs : ST x A0 H0 ar fd H locs) (L : zLS own index y bytes maxL ret n) (rest : List Value) (hM : CP l y bytes maxL ret fr lo x as ar fd post) (hR : fr + 1 ≤ R.frames ∧ 8 + (maxL + 11) + lo ≤ R.locals) (hn : as.length = n) (hl : ls.size = nL) (hr : (rest.map fun v => v.category).sum ≤ 8) (hst : st0 = as.reverse ++ rest) (hdg : decode cc pc = .ok (.invokestatic index, 3))
    (kk : ∀ (r : Int32) (H : Heap) (locs : List Loc), post r → ST x A0 H0 ar fd H locs → W p l e R s m args below meth c H locs cells slots Q (F0 m (pc + 3) ls (.int r :: rest))) : W p l e R s m args below meth c H locs cells slots Q (F0 m pc ls st0) :=
  va_calli (zrunS E hs L hM hR hn hl hr hst hdg) hs.2 (fun q _ h => E.A q h) E.A (fun r u t H1 locs1 ht hvm hp hB hz hk hS => kk r H1 locs1 hp ⟨by rw [← ht]; exact hB, hS⟩)
end CALLS
section ENDS
variable {p : Program} {l : Launch} {e : Env} {s : State} {m : MethodId} {below : List Frame} {meth : Method} {c : Code} {H : Heap} {locs : List Loc}
variable {cc : ByteArray} {nL : Nat} {own : String} {rt : Option FieldType} {x : CT} {ar fd ar0 fd0 : AR} {pc : Nat} {ls : Array Slot} {as : List Value}
variable {y : MethodName} {n fr lo : Nat}
/-- what a walk of a method comes to -/
def QP (below : List Frame) (x : CT) (as : List Value) (ar fd : AR) (s : State) (post : Int32 → Prop) : State → Prop := MQ below (va_Qi (fun (r : Int32) (_ : Unit) => post r) (fun _ t => va_P (xD x) vwCl (wl x ar fd) t.heap) (AA x)) as.toArray s 0 0 (AA x)
def QI (below : List Frame) (x : CT) (as : List Value) (s : State) (post : Int32 → AR → AR → Prop) : State → Prop := MQ below (va_Qi (fun (r : Int32) (u : AR × AR) => post r u.1 u.2) (fun u t => va_P (xD x) vwCl (wl x u.1 u.2) t.heap) (AA x)) as.toArray s 0 0 (AA x)
def QV (below : List Frame) (x : CT) (as : List Value) (s : State) (post : AR → AR → Prop) : State → Prop := MQ below (va_Qv (fun (u : AR × AR) => post u.1 u.2) (fun u t => va_P (xD x) vwCl (wl x u.1 u.2) t.heap) (AA x)) as.toArray s 0 0 (AA x)
def QR (below : List Frame) (x : CT) (as : List Value) (ar fd : AR) (s : State) (post : Nat → Prop) : State → Prop := MQ below (va_Qr (fun (_ : Unit) => True) (fun _ a t => post a ∧ va_P (xD x) vwCl (wl x ar fd) t.heap) (AA x)) as.toArray s 0 0 (AA x)
theorem zev {cc : ByteArray} (ho : y.cls = own) {s₁ : State} (B : BodyLoose p l y (headSpec (.code y cc n rt :: TB) (rmZ fr lo)) cc n rt e s m as.toArray below meth c s₁) (hml : c.maxLocals = n) (h : OK x ar fd s) : EV p (rmZ fr lo) s m as.toArray meth c cc n own rt 0 0 (AA x) x := by
  have hts := atoms_spec (ws := .code y cc n rt :: TB) B.pre
  exact ⟨B.exec, B.bytes, hml, ho ▸ findClass_of_methodNamed B.named, fun w h => hts w (List.mem_cons_of_mem _ h), h.2.1, h.2.2, fun _ h => h, ⟨Nat.le_refl _, Nat.le_refl _⟩, B.notSynchronized, B.returns⟩
theorem zsP {post : Int32 → Prop} (ho : y.cls = own) (hy : plainFor y = true) (hn : (lg_sl as).length ≤ n)
    (body : ∀ (p : Program) (e : Env) (s : State) (m : MethodId) (below : List Frame) (meth : Method) (c : Code) (ls : Array Slot), EV p (rmZ fr lo) s m as.toArray meth c cc n own rt 0 0 (AA x) x → ST x (AA x) s.heap ar fd s.heap [] → lv_has ls n (lv_args 0 as) → W p l e (rmZ fr lo) s m as.toArray below meth c s.heap [] 0 0 (QP below x as ar fd s post) (F0 m 0 ls [])) : CP l y cc n rt fr lo x as ar fd post := by
  refine va_MetF (cc := cc) (maxL := n) (ret := rt) hy rfl ?_
  intro p e s m args below meth c0 s₁ B hml hv
  obtain ⟨rfl, h⟩ := hv
  rw [lg_entry_eq]
  exact body p e s m below meth c0 _ (zev ho B hml h) ⟨h.1, va_S.rf⟩ (lv_entry as hn)
theorem zsI {post : Int32 → AR → AR → Prop} (ho : y.cls = own) (hy : plainName y.cls = true) (hn : (lg_sl as).length ≤ n)
    (body : ∀ (p : Program) (e : Env) (s : State) (m : MethodId) (below : List Frame) (meth : Method) (c : Code) (ls : Array Slot), EV p (rmZ fr lo) s m as.toArray meth c cc n own rt 0 0 (AA x) x → ST x (AA x) s.heap ar fd s.heap [] → lv_has ls n (lv_args 0 as) → W p l e (rmZ fr lo) s m as.toArray below meth c s.heap [] 0 0 (QI below x as s post) (F0 m 0 ls [])) : CI l y cc n rt fr lo x as ar fd post := by
  refine Met.ofW (cc := cc) (maxL := n) (ret := rt) hy rfl ?_
  intro p e s m args below meth c0 s₁ B hml hv
  obtain ⟨rfl, h⟩ := hv
  rw [lg_entry_eq]
  exact body p e s m below meth c0 _ (zev ho B hml h) ⟨h.1, va_S.rf⟩ (lv_entry as hn)
theorem zsV {post : AR → AR → Prop} (ho : y.cls = own) (hy : plainName y.cls = true) (hn : (lg_sl as).length ≤ n)
    (body : ∀ (p : Program) (e : Env) (s : State) (m : MethodId) (below : List Frame) (meth : Method) (c : Code) (ls : Array Slot), EV p (rmZ fr lo) s m as.toArray meth c cc n own none 0 0 (AA x) x → ST x (AA x) s.heap ar fd s.heap [] → lv_has ls n (lv_args 0 as) → W p l e (rmZ fr lo) s m as.toArray below meth c s.heap [] 0 0 (QV below x as s post) (F0 m 0 ls [])) : CV l y cc n fr lo x as ar fd post := by
  refine Met.ofW (cc := cc) (maxL := n) (ret := none) hy rfl ?_
  intro p e s m args below meth c0 s₁ B hml hv
  obtain ⟨rfl, h⟩ := hv
  rw [lg_entry_eq]
  exact body p e s m below meth c0 _ (zev ho B hml h) ⟨h.1, va_S.rf⟩ (lv_entry as hn)
theorem zsR {post : Nat → Prop} (ho : y.cls = own) (hy : plainName y.cls = true) (hn : (lg_sl as).length ≤ n)
    (body : ∀ (p : Program) (e : Env) (s : State) (m : MethodId) (below : List Frame) (meth : Method) (c : Code) (ls : Array Slot), EV p (rmZ fr lo) s m as.toArray meth c cc n own rt 0 0 (AA x) x → ST x (AA x) s.heap ar fd s.heap [] → lv_has ls n (lv_args 0 as) → W p l e (rmZ fr lo) s m as.toArray below meth c s.heap [] 0 0 (QR below x as ar fd s post) (F0 m 0 ls [])) : CR l y cc n rt fr lo x as ar fd post := by
  refine Met.ofW (cc := cc) (maxL := n) (ret := rt) hy rfl ?_
  intro p e s m args below meth c0 s₁ B hml hv
  obtain ⟨rfl, h⟩ := hv
  rw [lg_entry_eq]
  exact body p e s m below meth c0 _ (zev ho B hml h) ⟨h.1, va_S.rf⟩ (lv_entry as hn)
variable {R : Room} {cells slots : Nat} {v : Int32}
/-- ends: an int, a boolean (or char), none, a reference -/
theorem zeP {post : Int32 → Prop} (E : EV p R s m as.toArray meth c cc nL own (some .int) 0 0 (AA x) x) (hs : ST x (AA x) s.heap ar fd H locs) (hp : post v) (hdg : decode cc pc = .ok (.ireturn, 1)) : W p l e R s m as.toArray below meth c H locs 0 0 (QP below x as ar fd s post) (F0 m pc ls [.int v]) :=
  W.iret E.1 E.2.1 E.rr (fun t ht hW => ⟨⟨v, (), rfl, hp, by show va_P (xD x) vwCl _ t.heap; rw [ht]; exact hs.1⟩, hs.2.F ht⟩) hs.2.2.2 hdg E.lk
theorem zeI {post : Int32 → AR → AR → Prop} (E : EV p R s m as.toArray meth c cc nL own (some .int) 0 0 (AA x) x) (hs : ST x (AA x) s.heap ar fd H locs) (hp : post v ar fd) (hdg : decode cc pc = .ok (.ireturn, 1)) : W p l e R s m as.toArray below meth c H locs 0 0 (QI below x as s post) (F0 m pc ls [.int v]) :=
  W.iret E.1 E.2.1 E.rr (fun t ht hW => ⟨⟨v, (ar, fd), rfl, hp, by show va_P (xD x) vwCl _ t.heap; rw [ht]; exact hs.1⟩, hs.2.F ht⟩) hs.2.2.2 hdg E.lk
theorem zeV {post : AR → AR → Prop} (E : EV p R s m as.toArray meth c cc nL own none 0 0 (AA x) x) (hs : ST x (AA x) s.heap ar fd H locs) (hp : post ar fd) (hdg : decode cc pc = .ok (.return_, 1)) : W p l e R s m as.toArray below meth c H locs 0 0 (QV below x as s post) (F0 m pc ls []) :=
  W.vret E.1 E.2.1 E.rr (fun t ht hW => ⟨⟨(ar, fd), rfl, hp, by show va_P (xD x) vwCl _ t.heap; rw [ht]; exact hs.1⟩, hs.2.F ht⟩) hs.2.2.2 hdg E.lk
theorem zePn {ty : FieldType} {post : Int32 → Prop} (E : EV p R s m as.toArray meth c cc nL own (some ty) 0 0 (AA x) x) (hs : ST x (AA x) s.heap ar fd H locs) (hn : narrow ty (.int v) = .int v) (hp : post v) (hdg : decode cc pc = .ok (.ireturn, 1)) : W p l e R s m as.toArray below meth c H locs 0 0 (QP below x as ar fd s post) (F0 m pc ls [.int v]) :=
  W.zret E.1 E.2.1 E.rr hn (fun t ht hW => ⟨⟨v, (), rfl, hp, by show va_P (xD x) vwCl _ t.heap; rw [ht]; exact hs.1⟩, hs.2.F ht⟩) hs.2.2.2 hdg E.lk
theorem zeIn {ty : FieldType} {post : Int32 → AR → AR → Prop} (E : EV p R s m as.toArray meth c cc nL own (some ty) 0 0 (AA x) x) (hs : ST x (AA x) s.heap ar fd H locs) (hn : narrow ty (.int v) = .int v) (hp : post v ar fd) (hdg : decode cc pc = .ok (.ireturn, 1)) : W p l e R s m as.toArray below meth c H locs 0 0 (QI below x as s post) (F0 m pc ls [.int v]) :=
  W.zret E.1 E.2.1 E.rr hn (fun t ht hW => ⟨⟨v, (ar, fd), rfl, hp, by show va_P (xD x) vwCl _ t.heap; rw [ht]; exact hs.1⟩, hs.2.F ht⟩) hs.2.2.2 hdg E.lk
theorem zeR {C : String} {post : Nat → Prop} {a : Nat} (E : EV p R s m as.toArray meth c cc nL own (some (.object C)) 0 0 (AA x) x) (hs : ST x (AA x) s.heap ar fd H locs) (hp : post a) (hdg : decode cc pc = .ok (.areturn, 1)) : W p l e R s m as.toArray below meth c H locs 0 0 (QR below x as ar fd s post) (F0 m pc ls [.ref a]) :=
  W.aret E.1 E.2.1 E.rr (Or.inl ⟨_, rfl⟩) (Or.inr ⟨_, rfl⟩) (fun t ht hW => ⟨⟨(), a, rfl, trivial, hp, by show va_P (xD x) vwCl _ t.heap; rw [ht]; exact hs.1⟩, hs.2.F ht⟩) hs.2.2.2 hdg E.lk
end ENDS
/-! locals at a loop's head, one by one -/
theorem lvn {ls : Array Slot} {n : Nat} {l : List (Nat × Value)} (h : lv_has ls n l) : lv_has ls n [] := ⟨h.1, h.2.1, fun q hq => by cases hq⟩
theorem lvr {ls : Array Slot} {n i : Nat} {v : Value} {l : List (Nat × Value)} (h : ls[i]? = some (.val v)) (t : lv_has ls n l) : lv_has ls n ((i, v) :: l) := ⟨t.1, t.2.1, fun q hq => (List.mem_cons.mp hq).elim (fun e => by rw [e]; exact h) (t.2.2 q)⟩
theorem lvc {ls : Array Slot} {n i : Nat} {a b : Int32} {l : List (Nat × Value)} (h : ls[i]? = some (.val (.int a))) (e : a = b) (t : lv_has ls n l) : lv_has ls n ((i, .int b) :: l) := lvr (e ▸ h) t
/-! answers by cases -/
noncomputable def iz {α : Type} (P : Prop) (a b : α) : α := @ite α P (Classical.propDecidable P) a b
theorem iz_t {α : Type} {P : Prop} {a b : α} (h : P) : iz P a b = a := by unfold iz; rw [if_pos h]
theorem iz_f {α : Type} {P : Prop} {a b : α} (h : ¬ P) : iz P a b = b := by unfold iz; rw [if_neg h]
noncomputable def bz (P : Prop) : Int32 := iz P 1 0
theorem bz_t {P : Prop} (h : P) : bz P = 1 := iz_t h
theorem bz_f {P : Prop} (h : ¬ P) : bz P = 0 := iz_f h
theorem bz_0 {P : Prop} (h : bz P = 0) : ¬ P := fun q => by rw [bz_t q] at h; exact absurd h (by decide)
theorem bz_1 {P : Prop} (h : ¬ bz P = 0) : P := Classical.byContradiction fun q => h (bz_f q)
theorem bz_c {P Q : Prop} (h : P ↔ Q) : bz P = bz Q := by rw [propext h]
theorem bz_n (P : Prop) : narrow .boolean (.int (bz P)) = .int (bz P) := by
  by_cases h : P
  · rw [bz_t h]; rfl
  · rw [bz_f h]; rfl
theorem iz_c {α : Type} {P Q : Prop} {a b : α} (h : P ↔ Q) : iz P a b = iz Q a b := by rw [propext h]
theorem lkL_13 : zLV RL 13 RX6 yX6_setVotes cX6_setVotes 6 (some .int) 3 := ⟨q_155, q_1, q_152, q_153, q_154, hyX6_setVotes⟩
theorem lkX6_53 : zLS RX6 53 yX6_isCell cX6_isCell 1 (some .boolean) 1 := ⟨q_158, q_1, q_156, q_157, hyX6_isCell⟩
theorem lkX6_57 : zLS RX6 57 yX6_isFromTo cX6_isFromTo 3 (some .boolean) 3 := ⟨q_161, q_1, q_159, q_160, hyX6_isFromTo⟩
theorem lkX6_64 : zLV RX6 64 RX3 yX3_at cX3_at 2 (some .int) 1 := ⟨q_165, q_3, q_162, q_163, q_164, hyX3_at⟩
theorem lkX6_71 : zLV RX6 71 RX1 yX1_record cX1_record 3 none 1 := ⟨q_169, q_4, q_166, q_167, q_168, hyX1_record⟩
theorem lkX1_25 : zLV RX1 25 RX1 yX1_slotAt cX1_slotAt 3 (some (.object "FrozenDistricts$State")) 1 := ⟨q_173, q_4, q_170, q_172, q_s0, hyX1_slotAt⟩
theorem lkX1_33 : zLS RX1 33 yJ9_floorMod_7cf53 cJ9_floorMod_7cf53 3 (some .int) 2 := ⟨q_176, q_8, q_174, q_175, hyJ9_floorMod_7cf53⟩
theorem lkX1_29 : zLV RX1 29 RX4 yX4_copy cX4_copy 2 none 1 := ⟨q_180, q_2, q_177, q_178, q_179, hyX4_copy⟩
theorem lkX4_51 : zLV RX4 51 RX3 yX3_copy cX3_copy 3 none 1 := ⟨q_184, q_3, q_181, q_182, q_183, hyX3_copy⟩
theorem lkX3_15 : zLV RX3 15 RX3 yX3_at cX3_at 2 (some .int) 1 := ⟨q_165, q_3, q_185, q_163, q_164, hyX3_at⟩
theorem lkX6_75 : zLV RX6 75 RX3 yX3_put cX3_put 3 none 2 := ⟨q_189, q_3, q_186, q_187, q_188, hyX3_put⟩
theorem lkL_18 : zLV RL 18 RX6 yX6_begin cX6_begin 2 (some .int) 1 := ⟨q_193, q_1, q_190, q_191, q_192, hyX6_begin⟩
theorem lkX6_78 : zLS RX6 78 yX6_dividesTheMap cX6_dividesTheMap 1 (some .boolean) 1 := ⟨q_196, q_1, q_194, q_195, hyX6_dividesTheMap⟩
theorem lkX6_81 : zLV RX6 81 RX4 yX4_startAnew cX4_startAnew 2 none 1 := ⟨q_200, q_2, q_197, q_198, q_199, hyX4_startAnew⟩
theorem lkX4_55 : zLV RX4 55 RX3 yX3_fill cX3_fill 3 none 1 := ⟨q_204, q_3, q_201, q_202, q_203, hyX3_fill⟩
theorem lkX6_85 : zLV RX6 85 RX4 yX4_size cX4_size 1 (some .int) 0 := ⟨q_208, q_2, q_205, q_206, q_207, hyX4_size⟩
theorem lkL_23 : zLV RL 23 RX6 yX6_setTarget cX6_setTarget 4 (some .int) 2 := ⟨q_212, q_1, q_209, q_210, q_211, hyX6_setTarget⟩
theorem lkX6_89 : zLS RX6 89 yX6_isParty cX6_isParty 1 (some .boolean) 1 := ⟨q_215, q_1, q_213, q_214, hyX6_isParty⟩
theorem lkL_28 : zLV RL 28 RX6 yX6_draft cX6_draft 4 (some .int) 2 := ⟨q_219, q_1, q_216, q_217, q_218, hyX6_draft⟩
theorem lkX6_99 : zLV RX6 99 RX4 yX4_isOpen cX4_isOpen 2 (some .boolean) 1 := ⟨q_223, q_2, q_220, q_221, q_222, hyX4_isOpen⟩
theorem lkX4_59 : zLV RX4 59 RX3 yX3_at cX3_at 2 (some .int) 1 := ⟨q_165, q_3, q_224, q_163, q_164, hyX3_at⟩
theorem lkX6_102 : zLV RX6 102 RX4 yX4_isPart cX4_isPart 2 (some .boolean) 1 := ⟨q_228, q_2, q_225, q_226, q_227, hyX4_isPart⟩
theorem lkX4_63 : zLV RX4 63 RX4 yX4_left cX4_left 1 (some .int) 0 := ⟨q_232, q_2, q_229, q_230, q_231, hyX4_left⟩
theorem lkL_32 : zLV RL 32 RX6 yX6_trade cX6_trade 5 (some .int) 2 := ⟨q_236, q_1, q_233, q_234, q_235, hyX6_trade⟩
theorem lkX6_108 : zLV RX6 108 RX6 yX6_oneIfCut cX6_oneIfCut 1 (some .int) 0 := ⟨q_240, q_1, q_237, q_239, q_s1, hyX6_oneIfCut⟩
theorem lkX6_132 : zLV RX6 132 RX2 yX2_reason cX2_reason 2 (some .int) 1 := ⟨q_244, q_6, q_241, q_242, q_243, hyX2_reason⟩
theorem lkX2_23 : zLS RX2 23 yX2_withoutPart cX2_withoutPart 2 (some .int) 1 := ⟨q_247, q_6, q_245, q_246, hyX2_withoutPart⟩
theorem lkX2_57 : zLV RX2 57 RX4 yX4_isOpen cX4_isOpen 2 (some .boolean) 1 := ⟨q_223, q_2, q_248, q_221, q_222, hyX4_isOpen⟩
theorem lkX2_40 : zLV RX2 40 RX3 yX3_at cX3_at 2 (some .int) 1 := ⟨q_165, q_3, q_249, q_163, q_164, hyX3_at⟩
theorem lkX2_27 : zLS RX2 27 yX2_ofOtherSize cX2_ofOtherSize 2 (some .int) 1 := ⟨q_252, q_6, q_250, q_251, hyX2_ofOtherSize⟩
theorem lkX2_66 : zLV RX2 66 RX4 yX4_left cX4_left 1 (some .int) 0 := ⟨q_232, q_2, q_253, q_230, q_231, hyX4_left⟩
theorem lkX2_70 : zLS RX2 70 yX0_size cX0_size 4 (some .int) 2 := ⟨q_256, q_9, q_254, q_255, hyX0_size⟩
theorem lkX0_9 : zLV RX0 9 RX3 yX3_at cX3_at 2 (some .int) 1 := ⟨q_165, q_3, q_257, q_163, q_164, hyX3_at⟩
theorem lkX2_74 : zLV RX2 74 RX4 yX4_size cX4_size 1 (some .int) 0 := ⟨q_208, q_2, q_258, q_206, q_207, hyX4_size⟩
theorem lkX2_30 : zLV RX2 30 RX2 yX2_notConnected cX2_notConnected 3 (some .int) 1 := ⟨q_262, q_6, q_259, q_261, q_s2, hyX2_notConnected⟩
theorem lkX2_76 : zLV RX2 76 RX2 yX2_pieces cX2_pieces 5 (some .int) 2 := ⟨q_266, q_6, q_263, q_264, q_265, hyX2_pieces⟩
theorem lkX2_36 : zLV RX2 36 RX3 yX3_fill cX3_fill 3 none 1 := ⟨q_204, q_3, q_267, q_202, q_203, hyX3_fill⟩
theorem lkX2_44 : zLV RX2 44 RX2 yX2_reachFrom cX2_reachFrom 9 none 3 := ⟨q_271, q_6, q_268, q_270, q_s3, hyX2_reachFrom⟩
theorem lkX2_48 : zLV RX2 48 RX3 yX3_put cX3_put 3 none 2 := ⟨q_189, q_3, q_272, q_187, q_188, hyX3_put⟩
theorem lkX2_51 : zLS RX2 51 yX0_behind cX0_behind 3 (some .int) 2 := ⟨q_275, q_9, q_273, q_274, hyX0_behind⟩
theorem lkL_36 : zLV RL 36 RX6 yX6_snake cX6_snake 2 (some .int) 1 := ⟨q_279, q_1, q_276, q_277, q_278, hyX6_snake⟩
theorem lkX6_111 : zLV RX6 111 RX6 yX6_planSnake cX6_planSnake 6 none 1 := ⟨q_283, q_1, q_280, q_282, q_s4, hyX6_planSnake⟩
theorem lkX6_230 : zLV RX6 230 RX3 yX3_fill cX3_fill 3 none 1 := ⟨q_204, q_3, q_284, q_202, q_203, hyX3_fill⟩
theorem lkX6_233 : zLS RX6 233 yX6_cellOfSnake cX6_cellOfSnake 4 (some .int) 2 := ⟨q_287, q_1, q_285, q_286, hyX6_cellOfSnake⟩
theorem lkX6_115 : zLV RX6 115 RX3 yX3_isLike cX3_isLike 3 (some .boolean) 1 := ⟨q_291, q_3, q_288, q_289, q_290, hyX3_isLike⟩
theorem lkX6_119 : zLV RX6 119 RX3 yX3_copy cX3_copy 3 none 1 := ⟨q_184, q_3, q_292, q_182, q_183, hyX3_copy⟩
theorem lkL_41 : zLV RL 41 RX6 yX6_adopt cX6_adopt 1 (some .int) 0 := ⟨q_296, q_1, q_293, q_294, q_295, hyX6_adopt⟩
theorem lkX6_129 : zLV RX6 129 RX4 yX4_left cX4_left 1 (some .int) 0 := ⟨q_232, q_2, q_297, q_230, q_231, hyX4_left⟩
theorem lkL_46 : zLV RL 46 RX6 yX6_propose cX6_propose 2 (some .int) 0 := ⟨q_301, q_1, q_298, q_299, q_300, hyX6_propose⟩
theorem lkL_50 : zLV RL 50 RX6 yX6_freeze cX6_freeze 2 (some .int) 1 := ⟨q_305, q_1, q_302, q_303, q_304, hyX6_freeze⟩
theorem lkX6_136 : zLV RX6 136 RX4 yX4_takePart cX4_takePart 2 none 1 := ⟨q_309, q_2, q_306, q_307, q_308, hyX4_takePart⟩
theorem lkX4_71 : zLV RX4 71 RX4 yX4_makeDistrict cX4_makeDistrict 5 none 3 := ⟨q_313, q_2, q_310, q_312, q_s5, hyX4_makeDistrict⟩
theorem lkX4_78 : zLV RX4 78 RX3 yX3_put cX3_put 3 none 2 := ⟨q_189, q_3, q_314, q_187, q_188, hyX3_put⟩
theorem lkX4_75 : zLV RX4 75 RX4 yX4_leaveRest cX4_leaveRest 4 none 1 := ⟨q_318, q_2, q_315, q_317, q_s6, hyX4_leaveRest⟩
theorem lkL_54 : zLV RL 54 RX6 yX6_type cX6_type 2 (some .int) 1 := ⟨q_322, q_1, q_319, q_320, q_321, hyX6_type⟩
theorem lkX6_139 : zLV RX6 139 RX5 yX5_append cX5_append 2 (some .boolean) 1 := ⟨q_326, q_5, q_323, q_324, q_325, hyX5_append⟩
theorem lkX6_143 : zLV RX6 143 RX5 yX5_length cX5_length 1 (some .int) 0 := ⟨q_330, q_5, q_327, q_328, q_329, hyX5_length⟩
theorem lkL_59 : zLV RL 59 RX6 yX6_clearText cX6_clearText 2 (some .int) 0 := ⟨q_334, q_1, q_331, q_332, q_333, hyX6_clearText⟩
theorem lkX6_146 : zLV RX6 146 RX5 yX5_empty cX5_empty 1 none 0 := ⟨q_338, q_5, q_335, q_336, q_337, hyX5_empty⟩
theorem lkL_63 : zLV RL 63 RX6 yX6_readVotes cX6_readVotes 5 (some .int) 1 := ⟨q_342, q_1, q_339, q_340, q_341, hyX6_readVotes⟩
theorem lkX6_149 : zLV RX6 149 RX5 yX5_fault cX5_fault 2 (some .int) 0 := ⟨q_346, q_5, q_343, q_344, q_345, hyX5_fault⟩
theorem lkX5_19 : zLV RX5 19 RX5 yX5_isAllowed cX5_isAllowed 3 (some .boolean) 1 := ⟨q_350, q_5, q_347, q_349, q_s7, hyX5_isAllowed⟩
theorem lkX5_23 : zLV RX5 23 RX5 yX5_at cX5_at 2 (some .char) 1 := ⟨q_354, q_5, q_351, q_353, q_s8, hyX5_at⟩
theorem lkX6_152 : zLV RX6 152 RX5 yX5_pairs cX5_pairs 1 (some .int) 0 := ⟨q_358, q_5, q_355, q_356, q_357, hyX5_pairs⟩
theorem lkX6_155 : zLV RX6 155 RX5 yX5_votes cX5_votes 3 (some .int) 2 := ⟨q_362, q_5, q_359, q_360, q_361, hyX5_votes⟩
theorem lkL_67 : zLV RL 67 RX6 yX6_undo cX6_undo 1 (some .int) 0 := ⟨q_366, q_1, q_363, q_364, q_365, hyX6_undo⟩
theorem lkX6_159 : zLV RX6 159 RX1 yX1_size cX1_size 1 (some .int) 0 := ⟨q_370, q_4, q_367, q_368, q_369, hyX1_size⟩
theorem lkX6_160 : zLV RX6 160 RX1 yX1_takeLatest cX1_takeLatest 3 none 1 := ⟨q_374, q_4, q_371, q_372, q_373, hyX1_takeLatest⟩
theorem lkL_71 : zLV RL 71 RX6 yX6_keep cX6_keep 1 (some .int) 0 := ⟨q_378, q_1, q_375, q_376, q_377, hyX6_keep⟩
theorem lkX6_163 : zLV RX6 163 RX4 yX4_copy cX4_copy 2 none 1 := ⟨q_180, q_2, q_379, q_178, q_179, hyX4_copy⟩
theorem lkL_75 : zLV RL 75 RX6 yX6_restore cX6_restore 1 (some .int) 0 := ⟨q_383, q_1, q_380, q_381, q_382, hyX6_restore⟩
theorem lkL_79 : zLV RL 79 RX6 yX6_cell cX6_cell 3 (some .int) 2 := ⟨q_387, q_1, q_384, q_385, q_386, hyX6_cell⟩
theorem lkX6_165 : zLS RX6 165 yX6_noneIfNothing cX6_noneIfNothing 1 (some .int) 1 := ⟨q_390, q_1, q_388, q_389, hyX6_noneIfNothing⟩
theorem lkX6_171 : zLS RX6 171 yX0_alike cX0_alike 5 (some .int) 2 := ⟨q_393, q_9, q_391, q_392, hyX0_alike⟩
theorem lkX0_15 : zLS RX0 15 yX0_behind cX0_behind 3 (some .int) 2 := ⟨q_275, q_9, q_394, q_274, hyX0_behind⟩
theorem lkL_83 : zLV RL 83 RX6 yX6_part cX6_part 3 (some .int) 2 := ⟨q_398, q_1, q_395, q_396, q_397, hyX6_part⟩
theorem lkX6_177 : zLV RX6 177 RX2 yX2_pieces cX2_pieces 5 (some .int) 2 := ⟨q_266, q_6, q_399, q_264, q_265, hyX2_pieces⟩
theorem lkX6_180 : zLV RX6 180 RX6 yX6_tellArea cX6_tellArea 4 (some .int) 3 := ⟨q_403, q_1, q_400, q_402, q_s9, hyX6_tellArea⟩
theorem lkX6_222 : zLS RX6 222 yX0_size cX0_size 4 (some .int) 2 := ⟨q_256, q_9, q_404, q_255, hyX0_size⟩
theorem lkX6_237 : zLS RX6 237 yX0_borders cX0_borders 4 (some .int) 2 := ⟨q_407, q_9, q_405, q_406, hyX0_borders⟩
theorem lkX0_21 : zLS RX0 21 yX0_alike cX0_alike 5 (some .int) 2 := ⟨q_393, q_9, q_408, q_392, hyX0_alike⟩
theorem lkX6_240 : zLV RX6 240 RX4 yX4_margin cX4_margin 4 (some .int) 3 := ⟨q_412, q_2, q_409, q_410, q_411, hyX4_margin⟩
theorem lkX4_81 : zLV RX4 81 RX4 yX4_votesOf cX4_votesOf 2 (some (.object "FrozenDistricts$Row")) 1 := ⟨q_416, q_2, q_413, q_414, q_415, hyX4_votesOf⟩
theorem lkX4_85 : zLS RX4 85 yX0_votes cX0_votes 5 (some .int) 3 := ⟨q_419, q_9, q_417, q_418, hyX0_votes⟩
theorem lkX6_243 : zLV RX6 243 RX4 yX4_winner cX4_winner 4 (some .int) 2 := ⟨q_423, q_2, q_420, q_421, q_422, hyX4_winner⟩
theorem lkX4_91 : zLV RX4 91 RX4 yX4_margin cX4_margin 4 (some .int) 3 := ⟨q_412, q_2, q_424, q_410, q_411, hyX4_margin⟩
theorem lkX6_246 : zLS RX6 246 yX0_lowest cX0_lowest 3 (some .int) 2 := ⟨q_427, q_9, q_425, q_426, hyX0_lowest⟩
theorem lkL_87 : zLV RL 87 RX6 yX6_district cX6_district 3 (some .int) 2 := ⟨q_431, q_1, q_428, q_429, q_430, hyX6_district⟩
theorem lkX6_187 : zLV RX6 187 RX4 yX4_wasted cX4_wasted 5 (some .int) 2 := ⟨q_435, q_2, q_432, q_433, q_434, hyX4_wasted⟩
theorem lkL_91 : zLV RL 91 RX6 yX6_why cX6_why 2 (some .int) 1 := ⟨q_439, q_1, q_436, q_437, q_438, hyX6_why⟩
theorem lkX6_190 : zLV RX6 190 RX2 yX2_blamed cX2_blamed 2 (some .int) 1 := ⟨q_443, q_6, q_440, q_441, q_442, hyX2_blamed⟩
theorem lkX2_33 : zLV RX2 33 RX2 yX2_reason cX2_reason 2 (some .int) 1 := ⟨q_244, q_6, q_444, q_242, q_243, hyX2_reason⟩
theorem lkL_95 : zLV RL 95 RX6 yX6_advice cX6_advice 3 (some .int) 0 := ⟨q_448, q_1, q_445, q_446, q_447, hyX6_advice⟩
theorem lkX6_193 : zLV RX6 193 RX4 yX4_player cX4_player 1 (some .int) 0 := ⟨q_452, q_2, q_449, q_450, q_451, hyX4_player⟩
theorem lkX6_196 : zLV RX6 196 RX4 yX4_closestWon cX4_closestWon 6 (some .int) 1 := ⟨q_456, q_2, q_453, q_454, q_455, hyX4_closestWon⟩
theorem lkX6_199 : zLV RX6 199 RX4 yX4_mostLost cX4_mostLost 4 (some .int) 1 := ⟨q_460, q_2, q_457, q_458, q_459, hyX4_mostLost⟩
theorem lkL_99 : zLV RL 99 RX6 yX6_party cX6_party 3 (some .int) 2 := ⟨q_464, q_1, q_461, q_462, q_463, hyX6_party⟩
theorem lkX6_202 : zLV RX6 202 RX4 yX4_seats cX4_seats 2 (some .int) 1 := ⟨q_468, q_2, q_465, q_466, q_467, hyX4_seats⟩
theorem lkX4_99 : zLV RX4 99 RX4 yX4_won cX4_won 6 (some .int) 3 := ⟨q_472, q_2, q_469, q_470, q_471, hyX4_won⟩
theorem lkX4_95 : zLV RX4 95 RX4 yX4_winner cX4_winner 4 (some .int) 2 := ⟨q_423, q_2, q_473, q_421, q_422, hyX4_winner⟩
theorem lkX6_205 : zLV RX6 205 RX4 yX4_votesOf cX4_votesOf 2 (some (.object "FrozenDistricts$Row")) 1 := ⟨q_416, q_2, q_474, q_414, q_415, hyX4_votesOf⟩
theorem lkX6_209 : zLV RX6 209 RX3 yX3_sum cX3_sum 3 (some .int) 0 := ⟨q_478, q_3, q_475, q_476, q_477, hyX3_sum⟩
theorem lkX6_212 : zLV RX6 212 RX4 yX4_wastedInAll cX4_wastedInAll 4 (some .int) 1 := ⟨q_482, q_2, q_479, q_480, q_481, hyX4_wastedInAll⟩
theorem lkX4_102 : zLV RX4 102 RX4 yX4_wasted cX4_wasted 5 (some .int) 2 := ⟨q_435, q_2, q_483, q_433, q_434, hyX4_wasted⟩
theorem lkX6_215 : zLV RX6 215 RX4 yX4_won cX4_won 6 (some .int) 3 := ⟨q_472, q_2, q_484, q_470, q_471, hyX4_won⟩
theorem lkL_103 : zLV RL 103 RX6 yX6_fairness cX6_fairness 3 (some .int) 0 := ⟨q_488, q_1, q_485, q_486, q_487, hyX6_fairness⟩
theorem lkL_107 : zLV RL 107 RX6 yX6_count cX6_count 2 (some .int) 1 := ⟨q_493, q_1, q_490, q_491, q_492, hyX6_count⟩
theorem lkX6_224 : zLV RX6 224 RX4 yX4_openWithoutPart cX4_openWithoutPart 3 (some .int) 0 := ⟨q_497, q_2, q_494, q_495, q_496, hyX4_openWithoutPart⟩
theorem lkX4_67 : zLV RX4 67 RX4 yX4_isOpen cX4_isOpen 2 (some .boolean) 1 := ⟨q_223, q_2, q_498, q_221, q_222, hyX4_isOpen⟩
theorem lkX6_227 : zLV RX6 227 RX4 yX4_bordersOfAll cX4_bordersOfAll 3 (some .int) 0 := ⟨q_502, q_2, q_499, q_500, q_501, hyX4_bordersOfAll⟩
theorem lkX4_106 : zLS RX4 106 yX0_borders cX0_borders 4 (some .int) 2 := ⟨q_407, q_9, q_503, q_406, hyX0_borders⟩
theorem lkX7_33 : zLV RX7 33 RX7 yX7_clear cX7_clear 2 none 0 := ⟨q_513, q_7, q_510, q_512, q_s10, hyX7_clear⟩
theorem lkL_70 : zLV RL 70 RX7 yX7_undo cX7_undo 2 (some .int) 0 := ⟨q_552, q_7, q_549, q_550, q_551, hyX7_undo⟩
theorem lkL_74 : zLV RL 74 RX7 yX7_keep cX7_keep 2 (some .int) 0 := ⟨q_556, q_7, q_553, q_554, q_555, hyX7_keep⟩
theorem lkL_78 : zLV RL 78 RX7 yX7_restore cX7_restore 2 (some .int) 0 := ⟨q_560, q_7, q_557, q_558, q_559, hyX7_restore⟩
theorem lkX7_48 : zLV RX7 48 RX7 yX7_record cX7_record 2 none 0 := ⟨q_564, q_7, q_561, q_563, q_s11, hyX7_record⟩
theorem lkL_17 : zLV RL 17 RX7 yX7_setVotes cX7_setVotes 5 (some .int) 3 := ⟨q_568, q_7, q_565, q_566, q_567, hyX7_setVotes⟩
theorem lkX7_51 : zLS RX7 51 yX7_noCell cX7_noCell 1 (some .boolean) 1 := ⟨q_571, q_7, q_569, q_570, hyX7_noCell⟩
theorem lkX7_36 : zLS RX7 36 yX7_in cX7_in 3 (some .boolean) 3 := ⟨q_574, q_7, q_572, q_573, hyX7_in⟩
theorem lkL_22 : zLV RL 22 RX7 yX7_begin cX7_begin 2 (some .int) 1 := ⟨q_578, q_7, q_575, q_576, q_577, hyX7_begin⟩
theorem lkX7_55 : zLV RX7 55 RX7 yX7_size cX7_size 1 (some .int) 0 := ⟨q_582, q_7, q_579, q_581, q_s12, hyX7_size⟩
theorem lkL_27 : zLV RL 27 RX7 yX7_setTarget cX7_setTarget 4 (some .int) 2 := ⟨q_586, q_7, q_583, q_584, q_585, hyX7_setTarget⟩
theorem lkL_31 : zLV RL 31 RX7 yX7_draft cX7_draft 4 (some .int) 2 := ⟨q_590, q_7, q_587, q_588, q_589, hyX7_draft⟩
theorem lkX7_74 : zLV RX7 74 RX7 yX7_isOpen cX7_isOpen 2 (some .boolean) 1 := ⟨q_594, q_7, q_591, q_593, q_s13, hyX7_isOpen⟩
theorem lkX7_87 : zLV RX7 87 RX7 yX7_noDraft cX7_noDraft 1 (some .boolean) 0 := ⟨q_598, q_7, q_595, q_597, q_s14, hyX7_noDraft⟩
theorem lkX7_77 : zLV RX7 77 RX7 yX7_left cX7_left 1 (some .int) 0 := ⟨q_602, q_7, q_599, q_601, q_s15, hyX7_left⟩
theorem lkL_35 : zLV RL 35 RX7 yX7_trade cX7_trade 5 (some .int) 2 := ⟨q_606, q_7, q_603, q_604, q_605, hyX7_trade⟩
theorem lkX7_91 : zLV RX7 91 RX7 yX7_reason cX7_reason 2 (some .int) 0 := ⟨q_610, q_7, q_607, q_609, q_s16, hyX7_reason⟩
theorem lkX7_80 : zLV RX7 80 RX7 yX7_cells cX7_cells 5 (some .int) 2 := ⟨q_614, q_7, q_611, q_613, q_s17, hyX7_cells⟩
theorem lkX7_83 : zLV RX7 83 RX7 yX7_pieces cX7_pieces 4 (some .int) 1 := ⟨q_618, q_7, q_615, q_617, q_s18, hyX7_pieces⟩
theorem lkX7_70 : zLV RX7 70 RX7 yX7_spread cX7_spread 6 none 1 := ⟨q_622, q_7, q_619, q_621, q_s19, hyX7_spread⟩
theorem lkX7_67 : zLS RX7 67 yX7_beside cX7_beside 4 (some .int) 2 := ⟨q_625, q_7, q_623, q_624, hyX7_beside⟩
theorem lkL_40 : zLV RL 40 RX7 yX7_snake cX7_snake 7 (some .int) 1 := ⟨q_629, q_7, q_626, q_627, q_628, hyX7_snake⟩
theorem lkX7_94 : zLV RX7 94 RX7 yX7_take cX7_take 3 (some .boolean) 0 := ⟨q_633, q_7, q_630, q_632, q_s20, hyX7_take⟩
theorem lkL_45 : zLV RL 45 RX7 yX7_adopt cX7_adopt 2 (some .int) 0 := ⟨q_637, q_7, q_634, q_635, q_636, hyX7_adopt⟩
theorem lkL_49 : zLV RL 49 RX7 yX7_propose cX7_propose 2 (some .int) 0 := ⟨q_641, q_7, q_638, q_639, q_640, hyX7_propose⟩
theorem lkL_53 : zLV RL 53 RX7 yX7_freeze cX7_freeze 4 (some .int) 1 := ⟨q_645, q_7, q_642, q_643, q_644, hyX7_freeze⟩
theorem lkX7_97 : zLV RX7 97 RX7 yX7_freezePart cX7_freezePart 5 none 2 := ⟨q_649, q_7, q_646, q_648, q_s21, hyX7_freezePart⟩
theorem lkL_58 : zLV RL 58 RX7 yX7_type cX7_type 2 (some .int) 1 := ⟨q_653, q_7, q_650, q_651, q_652, hyX7_type⟩
theorem lkL_62 : zLV RL 62 RX7 yX7_clearText cX7_clearText 2 (some .int) 0 := ⟨q_657, q_7, q_654, q_655, q_656, hyX7_clearText⟩
theorem lkL_66 : zLV RL 66 RX7 yX7_readVotes cX7_readVotes 4 (some .int) 1 := ⟨q_661, q_7, q_658, q_659, q_660, hyX7_readVotes⟩
theorem lkX7_111 : zLV RX7 111 RX7 yX7_readPairs cX7_readPairs 4 (some .int) 0 := ⟨q_665, q_7, q_662, q_664, q_s22, hyX7_readPairs⟩
theorem lkX7_107 : zLV RX7 107 RX7 yX7_sees cX7_sees 3 (some .boolean) 2 := ⟨q_669, q_7, q_666, q_668, q_s23, hyX7_sees⟩
theorem lkL_82 : zLV RL 82 RX7 yX7_cell cX7_cell 3 (some .int) 2 := ⟨q_673, q_7, q_670, q_671, q_672, hyX7_cell⟩
theorem lkX7_114 : zLS RX7 114 yX7_orNone cX7_orNone 1 (some .int) 1 := ⟨q_676, q_7, q_674, q_675, hyX7_orNone⟩
theorem lkX7_117 : zLV RX7 117 RX7 yX7_alikeBeside cX7_alikeBeside 7 (some .int) 1 := ⟨q_680, q_7, q_677, q_679, q_s24, hyX7_alikeBeside⟩
theorem lkL_86 : zLV RL 86 RX7 yX7_part cX7_part 3 (some .int) 2 := ⟨q_684, q_7, q_681, q_682, q_683, hyX7_part⟩
theorem lkX7_120 : zLV RX7 120 RX7 yX7_borders cX7_borders 7 (some .int) 2 := ⟨q_688, q_7, q_685, q_687, q_s25, hyX7_borders⟩
theorem lkX7_63 : zLV RX7 63 RX7 yX7_margin cX7_margin 3 (some .int) 2 := ⟨q_692, q_7, q_689, q_691, q_s26, hyX7_margin⟩
theorem lkX7_59 : zLV RX7 59 RX7 yX7_votes cX7_votes 6 (some .int) 3 := ⟨q_696, q_7, q_693, q_695, q_s27, hyX7_votes⟩
theorem lkX7_123 : zLV RX7 123 RX7 yX7_winner cX7_winner 4 (some .int) 2 := ⟨q_700, q_7, q_697, q_699, q_s28, hyX7_winner⟩
theorem lkX7_126 : zLV RX7 126 RX7 yX7_lowest cX7_lowest 4 (some .int) 2 := ⟨q_704, q_7, q_701, q_703, q_s29, hyX7_lowest⟩
theorem lkL_90 : zLV RL 90 RX7 yX7_district cX7_district 3 (some .int) 2 := ⟨q_708, q_7, q_705, q_706, q_707, hyX7_district⟩
theorem lkX7_129 : zLV RX7 129 RX7 yX7_wasted cX7_wasted 5 (some .int) 2 := ⟨q_712, q_7, q_709, q_711, q_s30, hyX7_wasted⟩
theorem lkL_94 : zLV RL 94 RX7 yX7_why cX7_why 3 (some .int) 1 := ⟨q_716, q_7, q_713, q_714, q_715, hyX7_why⟩
theorem lkL_98 : zLV RL 98 RX7 yX7_advice cX7_advice 8 (some .int) 0 := ⟨q_720, q_7, q_717, q_718, q_719, hyX7_advice⟩
theorem lkL_102 : zLV RL 102 RX7 yX7_party cX7_party 5 (some .int) 2 := ⟨q_724, q_7, q_721, q_722, q_723, hyX7_party⟩
theorem lkX7_132 : zLV RX7 132 RX7 yX7_seats cX7_seats 4 (some .int) 1 := ⟨q_728, q_7, q_725, q_727, q_s31, hyX7_seats⟩
theorem lkX7_135 : zLV RX7 135 RX7 yX7_votesOnMap cX7_votesOnMap 4 (some .int) 1 := ⟨q_732, q_7, q_729, q_731, q_s32, hyX7_votesOnMap⟩
theorem lkL_106 : zLV RL 106 RX7 yX7_fairness cX7_fairness 2 (some .int) 0 := ⟨q_736, q_7, q_733, q_734, q_735, hyX7_fairness⟩
theorem lkL_110 : zLV RL 110 RX7 yX7_count cX7_count 2 (some .int) 1 := ⟨q_741, q_7, q_738, q_739, q_740, hyX7_count⟩
theorem lkX7_139 : zLV RX7 139 RX7 yX7_withoutPart cX7_withoutPart 3 (some .int) 0 := ⟨q_745, q_7, q_742, q_744, q_s33, hyX7_withoutPart⟩
theorem lkX7_142 : zLV RX7 142 RX7 yX7_allBorders cX7_allBorders 3 (some .int) 0 := ⟨q_749, q_7, q_746, q_748, q_s34, hyX7_allBorders⟩
