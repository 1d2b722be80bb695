
/-! the world: 110 cells at the addresses xa x 0 .. xa x 109; an array's contents are ar k, an object's numbers fd k -/
def CT : Type := va_G × (ClassId × ClassId × ClassId × ClassId) × (Nat → Nat)
def xD (x : CT) : va_G := x.1
def xI (x : CT) : ClassId := x.2.1.1
def xC (x : CT) : ClassId := x.2.1.2.1
def xZ (x : CT) : ClassId := x.2.1.2.2.1
def xS (x : CT) : ClassId := x.2.1.2.2.2
def xa (x : CT) : Nat → Nat := x.2.2
def xt (x : CT) : List (ClassId × FieldType) := [(xI x, .int), (xC x, .char), (xZ x, .boolean), (xS x, .object RX4)]
def zu {α : Type} (f : Nat → α) (k : Nat) (v : α) : Nat → α := fun j => if j = k then v else f j
theorem zu_s {α : Type} (f : Nat → α) (k : Nat) (v : α) : zu f k v k = v := by simp [zu]
theorem zu_n {α : Type} (f : Nat → α) {k j : Nat} (v : α) (h : j ≠ k) : zu f k v j = f j := by simp [zu, h]
def kdL : List Nat := [5, 3, 2, 7, 2, 7, 2, 7, 2, 7, 2, 7, 2, 7, 2, 7, 0, 10, 3, 2, 7, 2, 7, 2, 7, 2, 7, 2, 7, 2, 7, 2, 7, 3, 2, 7, 2, 7, 2, 7, 2, 7, 2, 7, 2, 7, 2, 7, 3, 2, 7, 2, 7, 2, 7, 2, 7, 2, 7, 2, 7, 2, 7, 3, 2, 7, 2, 7, 2, 7, 2, 7, 2, 7, 2, 7, 2, 7, 3, 2, 7, 2, 7, 2, 7, 2, 7, 2, 7, 2, 7, 2, 7, 4, 8, 1, 2, 7, 2, 7, 2, 7, 6, 7, 7, 7, 8, 7, 7, 9]
def rlL : List Nat := [0, 0, 0, 36, 0, 36, 0, 36, 0, 36, 0, 36, 0, 9, 0, 2, 0, 4, 0, 0, 36, 0, 36, 0, 36, 0, 36, 0, 36, 0, 9, 0, 2, 0, 0, 36, 0, 36, 0, 36, 0, 36, 0, 36, 0, 9, 0, 2, 0, 0, 36, 0, 36, 0, 36, 0, 36, 0, 36, 0, 9, 0, 2, 0, 0, 36, 0, 36, 0, 36, 0, 36, 0, 36, 0, 9, 0, 2, 0, 0, 36, 0, 36, 0, 36, 0, 36, 0, 36, 0, 9, 0, 2, 0, 60, 0, 0, 36, 0, 36, 0, 36, 0, 196, 784, 196, 60, 40, 36, 36]
def kd (k : Nat) : Nat := kdL.getD k 11
def rl (k : Nat) : Nat := rlL.getD k 0
theorem kd_lt {k c : Nat} (h : kd k = c) (hc : c ≠ 11) : k < 110 := by
  rcases Nat.lt_or_ge k 110 with q | q
  · exact q
  · exact absurd (h.symm.trans (by show (kdL[k]?).getD 11 = 11; rw [List.getElem?_eq_none (show kdL.length ≤ k from q)]; rfl)) hc
def fl0 (x : CT) (f : Nat → Int32) : List Value := [.ref (xa x 17), .int (f 1), .int (f 2)]
def fl1 (x : CT) : List Value := [.ref (xa x 96), .ref (xa x 98)]
def fl2 (x : CT) (k : Nat) : List Value := [.ref (xa x (k + 1))]
def fl3 (x : CT) (k : Nat) (f : Nat → Int32) : List Value := [.ref (xa x (k + 1)), .ref (xa x (k + 3)), .ref (xa x (k + 5)), .ref (xa x (k + 7)), .ref (xa x (k + 9)), .ref (xa x (k + 11)), .ref (xa x (k + 13)), .int (f 7), .int (f 8), .int (f 9), .int (f 10)]
def fl4 (x : CT) (f : Nat → Int32) : List Value := [.ref (xa x 94), .int (f 1)]
def fl5 (x : CT) (f : Nat → Int32) : List Value := [.ref (xa x 1), .ref (xa x 16), .ref (xa x 78), .int (f 3), .ref (xa x 93), .ref (xa x 95), .ref (xa x 100)]
def fl6 (x : CT) (f : Nat → Int32) : List Value := [.ref (xa x 103), .ref (xa x 104), .ref (xa x 105), .int (f 3), .int (f 4), .ref (xa x 106), .int (f 6), .int (f 7), .ref (xa x 107), .ref (xa x 108), .ref (xa x 109)]
def sh (x : CT) (k : Nat) (a f : Nat → Int32) : va_E := match kd k with
  | 0 => .inr (0, fl0 x f)
  | 1 => .inr (1, fl1 x)
  | 2 => .inr (2, fl2 x k)
  | 3 => .inr (3, fl3 x k f)
  | 4 => .inr (4, fl4 x f)
  | 5 => .inr (5, fl5 x f)
  | 6 => .inr (6, fl6 x f)
  | 7 => .inl (xI x, rl k, .inl a)
  | 8 => .inl (xC x, rl k, .inl a)
  | 9 => .inl (xZ x, rl k, .inl a)
  | _ => .inl (xS x, 4, .inr (.inr (.inr (.inr (fun i => some (xa x (18 + 15 * i)))))))
abbrev AR : Type := Nat → Nat → Int32
def wl (x : CT) (ar fd : AR) : va_W := (List.range 110).map fun k => (xa x k, sh x k (ar k) (fd k))
def AA (x : CT) : Nat → Prop := fun q => ∃ k, k < 110 ∧ q = xa x k
def DJ (x : CT) : Prop := ∀ i j, i < 110 → j < 110 → xa x i = xa x j → i = j
theorem wl_get {x : CT} {ar fd : AR} {k : Nat} (h : k < 110) : (wl x ar fd)[k]? = some (xa x k, sh x k (ar k) (fd k)) := by
  simp [wl, h]
theorem wl_inv {x : CT} {ar fd : AR} {k : Nat} {q : Nat × va_E} (h : (wl x ar fd)[k]? = some q) : k < 110 ∧ q = (xa x k, sh x k (ar k) (fd k)) := by
  rcases Nat.lt_or_ge k 110 with g | g
  · rw [wl_get g] at h
    exact ⟨g, (Option.some.inj h).symm⟩
  · rw [List.getElem?_eq_none (by simp [wl]; exact g)] at h
    cases h
theorem wl_D {x : CT} (h : DJ x) (ar fd : AR) : va_D (AA x) (wl x ar fd) := by
  refine ⟨fun i j p q hi hj e => ?_, fun k q hk => ?_⟩
  · obtain ⟨a, rfl⟩ := wl_inv hi
    obtain ⟨b, rfl⟩ := wl_inv hj
    exact h i j a b e
  · obtain ⟨a, rfl⟩ := wl_inv hk
    exact ⟨k, a, rfl⟩
theorem wl_set {x : CT} {ar fd ar' fd' : AR} {k : Nat} {e : va_E} (h : k < 110) (he : e = sh x k (ar' k) (fd' k)) (ho : ∀ j, j ≠ k → ar' j = ar j ∧ fd' j = fd j) : (wl x ar fd).set k (xa x k, e) = wl x ar' fd' := by
  subst he
  refine List.ext_getElem? fun i => ?_
  by_cases hi : i = k
  · subst hi
    rw [List.getElem?_set_self (by simp [wl]; exact h), wl_get h]
  · rw [List.getElem?_set_ne (fun z => hi z.symm)]
    rcases Nat.lt_or_ge i 110 with g | g
    · rw [wl_get g, wl_get g, (ho i hi).1, (ho i hi).2]
    · rw [List.getElem?_eq_none (by simp [wl]; exact g), List.getElem?_eq_none (by simp [wl]; exact g)]
theorem wl_setA {x : CT} {ar fd : AR} {k : Nat} {g : Nat → Int32} {e : va_E} (h : k < 110) (he : e = sh x k g (fd k)) : (wl x ar fd).set k (xa x k, e) = wl x (zu ar k g) fd :=
  wl_set h (by rw [zu_s]; exact he) fun j hj => ⟨zu_n _ _ hj, rfl⟩
theorem wl_setF {x : CT} {ar fd : AR} {k : Nat} {g : Nat → Int32} {e : va_E} (h : k < 110) (he : e = sh x k (ar k) g) : (wl x ar fd).set k (xa x k, e) = wl x ar (zu fd k g) :=
  wl_set h (by rw [zu_s]; exact he) fun j hj => ⟨rfl, zu_n _ _ hj⟩
/-- what lies behind an array's end is nothing -/
theorem wl_ext {x : CT} {ar ar' fd : AR} {H : Heap} (h : va_P (xD x) vwCl (wl x ar fd) H) (he : ∀ k, kd k = 7 ∨ kd k = 8 ∨ kd k = 9 → ∀ i, i < rl k → ar' k i = ar k i) : va_P (xD x) vwCl (wl x ar' fd) H := by
  intro k q hk
  obtain ⟨hl, rfl⟩ := wl_inv hk
  have h1 := h k _ (wl_get hl)
  unfold va_at at h1 ⊢
  have key : ∀ (c : ClassId) (n : Nat), (∀ i, i < n → ar' k i = ar k i) → vp_cell c (n, .inl (ar' k)) = vp_cell c (n, .inl (ar k)) := by
    intro c n e
    rw [vp_cell_i, vp_cell_i]
    simp only [arrV]
    rw [show (fun (j : Fin n) => Value.int (ar' k j.1)) = fun (j : Fin n) => Value.int (ar k j.1) from funext fun j => by rw [e j.1 j.2]]
  unfold sh at h1 ⊢
  have hkd := he k
  generalize kd k = c at h1 hkd ⊢
  match c, h1, hkd with
  | 0, h1, _ => exact h1
  | 1, h1, _ => exact h1
  | 2, h1, _ => exact h1
  | 3, h1, _ => exact h1
  | 4, h1, _ => exact h1
  | 5, h1, _ => exact h1
  | 6, h1, _ => exact h1
  | 7, h1, g => exact h1.trans (congrArg some (key _ _ (g (Or.inl rfl))).symm)
  | 8, h1, g => exact h1.trans (congrArg some (key _ _ (g (Or.inr (Or.inl rfl)))).symm)
  | 9, h1, g => exact h1.trans (congrArg some (key _ _ (g (Or.inr (Or.inr rfl)))).symm)
  | n + 10, h1, _ => exact h1
theorem sh0 {x : CT} {k : Nat} {a f : Nat → Int32} (h : kd k = 0) : sh x k a f = .inr (0, fl0 x f) := by simp only [sh, h]
theorem sh1 {x : CT} {k : Nat} {a f : Nat → Int32} (h : kd k = 1) : sh x k a f = .inr (1, fl1 x) := by simp only [sh, h]
theorem sh2 {x : CT} {k : Nat} {a f : Nat → Int32} (h : kd k = 2) : sh x k a f = .inr (2, fl2 x k) := by simp only [sh, h]
theorem sh3 {x : CT} {k : Nat} {a f : Nat → Int32} (h : kd k = 3) : sh x k a f = .inr (3, fl3 x k f) := by simp only [sh, h]
theorem sh4 {x : CT} {k : Nat} {a f : Nat → Int32} (h : kd k = 4) : sh x k a f = .inr (4, fl4 x f) := by simp only [sh, h]
theorem sh5 {x : CT} {k : Nat} {a f : Nat → Int32} (h : kd k = 5) : sh x k a f = .inr (5, fl5 x f) := by simp only [sh, h]
theorem sh6 {x : CT} {k : Nat} {a f : Nat → Int32} (h : kd k = 6) : sh x k a f = .inr (6, fl6 x f) := by simp only [sh, h]
theorem sh7 {x : CT} {k : Nat} {a f : Nat → Int32} (h : kd k = 7) : sh x k a f = .inl (xI x, rl k, .inl a) := by simp only [sh, h]
theorem sh8 {x : CT} {k : Nat} {a f : Nat → Int32} (h : kd k = 8) : sh x k a f = .inl (xC x, rl k, .inl a) := by simp only [sh, h]
theorem sh9 {x : CT} {k : Nat} {a f : Nat → Int32} (h : kd k = 9) : sh x k a f = .inl (xZ x, rl k, .inl a) := by simp only [sh, h]
/-- what holds throughout a walk: the machine, the code, the words, the classes -/
def EV (p : Program) (R : Room) (s : State) (m : MethodId) (args : Array Value) (meth : Method) (c : Code) (cc : ByteArray) (nL : Nat) (own : String) (rt : Option FieldType) (cells slots : Nat) (A0 : Nat → Prop) (x : CT) : Prop :=
  p.tables.exec = Jvm.exec ∧ c.code = cc ∧ c.maxLocals = nL ∧ s.vm.findClass own = some m.cls ∧ (∀ w ∈ TB, w.before args s = true) ∧ va_K (xD x) vwCl (xt x) s ∧ DJ x ∧ (∀ q, AA x q → A0 q) ∧ (cells ≤ R.cells ∧ slots ≤ R.slots) ∧ meth.locks = false ∧ meth.sig.returnType = rt
/-- where a walk stands -/
def ST (x : CT) (A0 : Nat → Prop) (H0 : Heap) (ar fd : AR) (H : Heap) (locs : List Loc) : Prop := va_P (xD x) vwCl (wl x ar fd) H ∧ va_S A0 H0 H locs
/-- where a call may begin -/
def OK (x : CT) (ar fd : AR) (U : State) : Prop := va_P (xD x) vwCl (wl x ar fd) U.heap ∧ va_K (xD x) vwCl (xt x) U ∧ DJ x
/-! contracts: CP an int, nothing changes; CI an int and a new world; CV no answer; CR a cell's address, nothing changes -/
def rmZ (fr lo : Nat) : Room := { frames := fr, cells := 0, slots := 0, locals := lo }
def CP (l : Launch) (y : MethodName) (c : ByteArray) (n : Nat) (rt : Option FieldType) (fr lo : Nat) (x : CT) (as : List Value) (ar fd : AR) (post : Int32 → Prop) : Prop :=
  Met l y (.code y c n rt :: TB) (rmZ fr lo) (va_Pc as (OK x ar fd)) (va_Qi (fun (r : Int32) (_ : Unit) => post r) (fun _ t => va_P (xD x) vwCl (wl x ar fd) t.heap) (AA x)) 0 0 (AA x)
def CI (l : Launch) (y : MethodName) (c : ByteArray) (n : Nat) (rt : Option FieldType) (fr lo : Nat) (x : CT) (as : List Value) (ar fd : AR) (post : Int32 → AR → AR → Prop) : Prop :=
  Met l y (.code y c n rt :: TB) (rmZ fr lo) (va_Pc as (OK x ar fd)) (va_Qi (fun (r : Int32) (u : AR × AR) => post r u.1 u.2) (fun u t => va_P (xD x) vwCl (wl x u.1 u.2) t.heap) (AA x)) 0 0 (AA x)
def CV (l : Launch) (y : MethodName) (c : ByteArray) (n : Nat) (fr lo : Nat) (x : CT) (as : List Value) (ar fd : AR) (post : AR → AR → Prop) : Prop :=
  Met l y (.code y c n none :: TB) (rmZ fr lo) (va_Pc as (OK x ar fd)) (va_Qv (fun (u : AR × AR) => post u.1 u.2) (fun u t => va_P (xD x) vwCl (wl x u.1 u.2) t.heap) (AA x)) 0 0 (AA x)
def CR (l : Launch) (y : MethodName) (c : ByteArray) (n : Nat) (rt : Option FieldType) (fr lo : Nat) (x : CT) (as : List Value) (ar fd : AR) (post : Nat → Prop) : Prop :=
  Met l y (.code y c n rt :: TB) (rmZ fr lo) (va_Pc as (OK x ar fd)) (va_Qr (fun (_ : Unit) => True) (fun _ a t => post a ∧ va_P (xD x) vwCl (wl x ar fd) t.heap) (AA x)) 0 0 (AA x)
section RW
variable {p : Program} {l : Launch} {e : Env} {R : Room} {s : State} {m : MethodId} {args : Array Value} {below : List Frame} {meth : Method} {c : Code} {H : Heap} {locs : List Loc} {cells slots : Nat} {Q : State → Prop}
variable {cc : ByteArray} {nL : Nat} {own : String} {rt : Option FieldType} {A0 : Nat → Prop} {x : CT} {H0 : Heap} {ar fd : AR} {pc : Nat} {ls : Array Slot} {rest : List Value}
theorem EV.tb (E : EV p R s m args meth c cc nL own rt cells slots A0 x) {w : Cond} (h : w ∈ TB) : w.before args s = true := E.2.2.2.2.1 w h
theorem EV.cf (E : EV p R s m args meth c cc nL own rt cells slots A0 x) : CallFix p m c cc nL s args TB own := ⟨E.1, E.2.1, E.2.2.1, E.2.2.2.1, E.2.2.2.2.1⟩
theorem EV.K (E : EV p R s m args meth c cc nL own rt cells slots A0 x) : va_K (xD x) vwCl (xt x) s := E.2.2.2.2.2.1
theorem EV.J (E : EV p R s m args meth c cc nL own rt cells slots A0 x) : DJ x := E.2.2.2.2.2.2.1
theorem EV.A (E : EV p R s m args meth c cc nL own rt cells slots A0 x) : ∀ q, AA x q → A0 q := E.2.2.2.2.2.2.2.1
theorem EV.rm (E : EV p R s m args meth c cc nL own rt cells slots A0 x) : cells ≤ R.cells ∧ slots ≤ R.slots := E.2.2.2.2.2.2.2.2.1
theorem EV.lk (E : EV p R s m args meth c cc nL own rt cells slots A0 x) : meth.locks = false := E.2.2.2.2.2.2.2.2.2.1
theorem EV.rr (E : EV p R s m args meth c cc nL own rt cells slots A0 x) : meth.sig.returnType = rt := E.2.2.2.2.2.2.2.2.2.2
theorem EV.D (E : EV p R s m args meth c cc nL own rt cells slots A0 x) (ar fd : AR) : va_D A0 (wl x ar fd) := (wl_D E.J ar fd).weaken fun _ _ _ h => E.A _ h
/-- the value on top under another name -/
theorem tp {a b : Int32} (h : a = b) (k : W p l e R s m args below meth c H locs cells slots Q (F0 m pc ls (.int b :: rest))) : W p l e R s m args below meth c H locs cells slots Q (F0 m pc ls (.int a :: rest)) := h ▸ k
/-- constants as nI -/
theorem zbipush (hx : p.tables.exec = Jvm.exec) (hb : c.code = cc) {n : Int} {v : Int32} (hdg : decode cc pc = .ok (.bipush n, 2)) (hv : (Int8.ofInt n).toInt32 = v)
    (k : W p l e R s m args below meth c H locs cells slots Q (F0 m (pc + 2) ls (.int v :: rest))) : W p l e R s m args below meth c H locs cells slots Q (F0 m pc ls (rest)) := lv_bipush hx hb hdg hv k
theorem zg0 (E : EV p R s m args meth c cc nL own rt cells slots A0 x) (hs : ST x A0 H0 ar fd H locs) {k : Nat} (hk : kd k = 0) (j : Nat) {index : Nat} {v : Value} (hj : j < 3) (hv : (fl0 x (fd k))[j]? = some v) (hlink : Cond.fieldLink own index (TX1 j).1 (TX1 j).2.1 (TX1 j).2.2.1 ∈ TB) (hdg : decode cc pc = .ok (.getfield index, 3))
    (kk : W p l e R s m args below meth c H locs cells slots Q (F0 m (pc + 3) ls (v :: rest))) : W p l e R s m args below meth c H locs cells slots Q (F0 m pc ls (.ref (xa x k) :: rest)) :=
  va_get (ci := 0) (C := RX1) (T := TX1) (N := 3) E.1 E.2.1 E.2.2.2.2.1 iX1 E.2.2.2.1 E.K hs.1 k ((wl_get (kd_lt hk (by decide))).trans (by rw [sh0 hk])) rfl j hj (E.tb hlink) (fun _ h => h) hv hdg kk
theorem zg1 (E : EV p R s m args meth c cc nL own rt cells slots A0 x) (hs : ST x A0 H0 ar fd H locs) {k : Nat} (hk : kd k = 1) (j : Nat) {index : Nat} {v : Value} (hj : j < 2) (hv : (fl1 x)[j]? = some v) (hlink : Cond.fieldLink own index (TX2 j).1 (TX2 j).2.1 (TX2 j).2.2.1 ∈ TB) (hdg : decode cc pc = .ok (.getfield index, 3))
    (kk : W p l e R s m args below meth c H locs cells slots Q (F0 m (pc + 3) ls (v :: rest))) : W p l e R s m args below meth c H locs cells slots Q (F0 m pc ls (.ref (xa x k) :: rest)) :=
  va_get (ci := 1) (C := RX2) (T := TX2) (N := 2) E.1 E.2.1 E.2.2.2.2.1 iX2 E.2.2.2.1 E.K hs.1 k ((wl_get (kd_lt hk (by decide))).trans (by rw [sh1 hk])) rfl j hj (E.tb hlink) (fun _ h => h) hv hdg kk
theorem zg2 (E : EV p R s m args meth c cc nL own rt cells slots A0 x) (hs : ST x A0 H0 ar fd H locs) {k : Nat} (hk : kd k = 2) (j : Nat) {index : Nat} {v : Value} (hj : j < 1) (hv : (fl2 x k)[j]? = some v) (hlink : Cond.fieldLink own index (TX3 j).1 (TX3 j).2.1 (TX3 j).2.2.1 ∈ TB) (hdg : decode cc pc = .ok (.getfield index, 3))
    (kk : W p l e R s m args below meth c H locs cells slots Q (F0 m (pc + 3) ls (v :: rest))) : W p l e R s m args below meth c H locs cells slots Q (F0 m pc ls (.ref (xa x k) :: rest)) :=
  va_get (ci := 2) (C := RX3) (T := TX3) (N := 1) E.1 E.2.1 E.2.2.2.2.1 iX3 E.2.2.2.1 E.K hs.1 k ((wl_get (kd_lt hk (by decide))).trans (by rw [sh2 hk])) rfl j hj (E.tb hlink) (fun _ h => h) hv hdg kk
theorem zg3 (E : EV p R s m args meth c cc nL own rt cells slots A0 x) (hs : ST x A0 H0 ar fd H locs) {k : Nat} (hk : kd k = 3) (j : Nat) {index : Nat} {v : Value} (hj : j < 11) (hv : (fl3 x k (fd k))[j]? = some v) (hlink : Cond.fieldLink own index (TX4 j).1 (TX4 j).2.1 (TX4 j).2.2.1 ∈ TB) (hdg : decode cc pc = .ok (.getfield index, 3))
    (kk : W p l e R s m args below meth c H locs cells slots Q (F0 m (pc + 3) ls (v :: rest))) : W p l e R s m args below meth c H locs cells slots Q (F0 m pc ls (.ref (xa x k) :: rest)) :=
  va_get (ci := 3) (C := RX4) (T := TX4) (N := 11) E.1 E.2.1 E.2.2.2.2.1 iX4 E.2.2.2.1 E.K hs.1 k ((wl_get (kd_lt hk (by decide))).trans (by rw [sh3 hk])) rfl j hj (E.tb hlink) (fun _ h => h) hv hdg kk
theorem zg4 (E : EV p R s m args meth c cc nL own rt cells slots A0 x) (hs : ST x A0 H0 ar fd H locs) {k : Nat} (hk : kd k = 4) (j : Nat) {index : Nat} {v : Value} (hj : j < 2) (hv : (fl4 x (fd k))[j]? = some v) (hlink : Cond.fieldLink own index (TX5 j).1 (TX5 j).2.1 (TX5 j).2.2.1 ∈ TB) (hdg : decode cc pc = .ok (.getfield index, 3))
    (kk : W p l e R s m args below meth c H locs cells slots Q (F0 m (pc + 3) ls (v :: rest))) : W p l e R s m args below meth c H locs cells slots Q (F0 m pc ls (.ref (xa x k) :: rest)) :=
  va_get (ci := 4) (C := RX5) (T := TX5) (N := 2) E.1 E.2.1 E.2.2.2.2.1 iX5 E.2.2.2.1 E.K hs.1 k ((wl_get (kd_lt hk (by decide))).trans (by rw [sh4 hk])) rfl j hj (E.tb hlink) (fun _ h => h) hv hdg kk
theorem zg5 (E : EV p R s m args meth c cc nL own rt cells slots A0 x) (hs : ST x A0 H0 ar fd H locs) {k : Nat} (hk : kd k = 5) (j : Nat) {index : Nat} {v : Value} (hj : j < 7) (hv : (fl5 x (fd k))[j]? = some v) (hlink : Cond.fieldLink own index (TX6 j).1 (TX6 j).2.1 (TX6 j).2.2.1 ∈ TB) (hdg : decode cc pc = .ok (.getfield index, 3))
    (kk : W p l e R s m args below meth c H locs cells slots Q (F0 m (pc + 3) ls (v :: rest))) : W p l e R s m args below meth c H locs cells slots Q (F0 m pc ls (.ref (xa x k) :: rest)) :=
  va_get (ci := 5) (C := RX6) (T := TX6) (N := 7) E.1 E.2.1 E.2.2.2.2.1 iX6 E.2.2.2.1 E.K hs.1 k ((wl_get (kd_lt hk (by decide))).trans (by rw [sh5 hk])) rfl j hj (E.tb hlink) (fun _ h => h) hv hdg kk
theorem zg6 (E : EV p R s m args meth c cc nL own rt cells slots A0 x) (hs : ST x A0 H0 ar fd H locs) {k : Nat} (hk : kd k = 6) (j : Nat) {index : Nat} {v : Value} (hj : j < 11) (hv : (fl6 x (fd k))[j]? = some v) (hlink : Cond.fieldLink own index (TX7 j).1 (TX7 j).2.1 (TX7 j).2.2.1 ∈ TB) (hdg : decode cc pc = .ok (.getfield index, 3))
    (kk : W p l e R s m args below meth c H locs cells slots Q (F0 m (pc + 3) ls (v :: rest))) : W p l e R s m args below meth c H locs cells slots Q (F0 m pc ls (.ref (xa x k) :: rest)) :=
  va_get (ci := 6) (C := RX7) (T := TX7) (N := 11) E.1 E.2.1 E.2.2.2.2.1 iX7 E.2.2.2.1 E.K hs.1 k ((wl_get (kd_lt hk (by decide))).trans (by rw [sh6 hk])) rfl j hj (E.tb hlink) (fun _ h => h) hv hdg kk
theorem zp0_1 (E : EV p R s m args meth c cc nL own rt cells slots A0 x) (hs : ST x A0 H0 ar fd H locs) {k : Nat} (hk : kd k = 0) {index : Nat} {v : Int32} (hlink : Cond.fieldLink own index (TX1 1).1 (TX1 1).2.1 (TX1 1).2.2.1 ∈ TB) (hdg : decode cc pc = .ok (.putfield index, 3))
    (kk : ∀ (H : Heap) (locs : List Loc), ST x A0 H0 ar (zu fd k (zu (fd k) 1 v)) H locs → W p l e R s m args below meth c H locs cells slots Q (F0 m (pc + 3) ls rest)) : W p l e R s m args below meth c H locs cells slots Q (F0 m pc ls (.int v :: .ref (xa x k) :: rest)) := by
  have h1 := kd_lt hk (by decide)
  refine va_put (ci := 0) (C := RX1) (T := TX1) (N := 3) (v := .int v) (ty := .int) E.1 E.2.1 E.2.2.2.2.1 iX1 tyX1 tyX1_ok nmX1 E.2.2.2.1 E.K hs.1 (E.D ar fd) hs.2 k ((wl_get h1).trans (by rw [sh0 hk])) rfl 1 (by decide) (E.tb hlink) (fun _ h => h) rfl (by decide +kernel) rfl rfl (Nat.le_of_ble_eq_true rfl) hdg fun H1 locs1 hP _ hS => kk H1 locs1 ⟨?_, hS⟩
  rw [wl_setF (g := zu (fd k) 1 v) h1 (by rw [sh0 hk]; rfl)] at hP
  exact hP
theorem zp0_2 (E : EV p R s m args meth c cc nL own rt cells slots A0 x) (hs : ST x A0 H0 ar fd H locs) {k : Nat} (hk : kd k = 0) {index : Nat} {v : Int32} (hlink : Cond.fieldLink own index (TX1 2).1 (TX1 2).2.1 (TX1 2).2.2.1 ∈ TB) (hdg : decode cc pc = .ok (.putfield index, 3))
    (kk : ∀ (H : Heap) (locs : List Loc), ST x A0 H0 ar (zu fd k (zu (fd k) 2 v)) H locs → W p l e R s m args below meth c H locs cells slots Q (F0 m (pc + 3) ls rest)) : W p l e R s m args below meth c H locs cells slots Q (F0 m pc ls (.int v :: .ref (xa x k) :: rest)) := by
  have h1 := kd_lt hk (by decide)
  refine va_put (ci := 0) (C := RX1) (T := TX1) (N := 3) (v := .int v) (ty := .int) E.1 E.2.1 E.2.2.2.2.1 iX1 tyX1 tyX1_ok nmX1 E.2.2.2.1 E.K hs.1 (E.D ar fd) hs.2 k ((wl_get h1).trans (by rw [sh0 hk])) rfl 2 (by decide) (E.tb hlink) (fun _ h => h) rfl (by decide +kernel) rfl rfl (Nat.le_of_ble_eq_true rfl) hdg fun H1 locs1 hP _ hS => kk H1 locs1 ⟨?_, hS⟩
  rw [wl_setF (g := zu (fd k) 2 v) h1 (by rw [sh0 hk]; rfl)] at hP
  exact hP
theorem zp3_7 (E : EV p R s m args meth c cc nL own rt cells slots A0 x) (hs : ST x A0 H0 ar fd H locs) {k : Nat} (hk : kd k = 3) {index : Nat} {v : Int32} (hlink : Cond.fieldLink own index (TX4 7).1 (TX4 7).2.1 (TX4 7).2.2.1 ∈ TB) (hdg : decode cc pc = .ok (.putfield index, 3))
    (kk : ∀ (H : Heap) (locs : List Loc), ST x A0 H0 ar (zu fd k (zu (fd k) 7 v)) H locs → W p l e R s m args below meth c H locs cells slots Q (F0 m (pc + 3) ls rest)) : W p l e R s m args below meth c H locs cells slots Q (F0 m pc ls (.int v :: .ref (xa x k) :: rest)) := by
  have h1 := kd_lt hk (by decide)
  refine va_put (ci := 3) (C := RX4) (T := TX4) (N := 11) (v := .int v) (ty := .int) E.1 E.2.1 E.2.2.2.2.1 iX4 tyX4 tyX4_ok nmX4 E.2.2.2.1 E.K hs.1 (E.D ar fd) hs.2 k ((wl_get h1).trans (by rw [sh3 hk])) rfl 7 (by decide) (E.tb hlink) (fun _ h => h) rfl (by decide +kernel) rfl rfl (Nat.le_of_ble_eq_true rfl) hdg fun H1 locs1 hP _ hS => kk H1 locs1 ⟨?_, hS⟩
  rw [wl_setF (g := zu (fd k) 7 v) h1 (by rw [sh3 hk]; rfl)] at hP
  exact hP
theorem zp3_8 (E : EV p R s m args meth c cc nL own rt cells slots A0 x) (hs : ST x A0 H0 ar fd H locs) {k : Nat} (hk : kd k = 3) {index : Nat} {v : Int32} (hlink : Cond.fieldLink own index (TX4 8).1 (TX4 8).2.1 (TX4 8).2.2.1 ∈ TB) (hdg : decode cc pc = .ok (.putfield index, 3))
    (kk : ∀ (H : Heap) (locs : List Loc), ST x A0 H0 ar (zu fd k (zu (fd k) 8 v)) H locs → W p l e R s m args below meth c H locs cells slots Q (F0 m (pc + 3) ls rest)) : W p l e R s m args below meth c H locs cells slots Q (F0 m pc ls (.int v :: .ref (xa x k) :: rest)) := by
  have h1 := kd_lt hk (by decide)
  refine va_put (ci := 3) (C := RX4) (T := TX4) (N := 11) (v := .int v) (ty := .int) E.1 E.2.1 E.2.2.2.2.1 iX4 tyX4 tyX4_ok nmX4 E.2.2.2.1 E.K hs.1 (E.D ar fd) hs.2 k ((wl_get h1).trans (by rw [sh3 hk])) rfl 8 (by decide) (E.tb hlink) (fun _ h => h) rfl (by decide +kernel) rfl rfl (Nat.le_of_ble_eq_true rfl) hdg fun H1 locs1 hP _ hS => kk H1 locs1 ⟨?_, hS⟩
  rw [wl_setF (g := zu (fd k) 8 v) h1 (by rw [sh3 hk]; rfl)] at hP
  exact hP
theorem zp3_9 (E : EV p R s m args meth c cc nL own rt cells slots A0 x) (hs : ST x A0 H0 ar fd H locs) {k : Nat} (hk : kd k = 3) {index : Nat} {v : Int32} (hlink : Cond.fieldLink own index (TX4 9).1 (TX4 9).2.1 (TX4 9).2.2.1 ∈ TB) (hdg : decode cc pc = .ok (.putfield index, 3))
    (kk : ∀ (H : Heap) (locs : List Loc), ST x A0 H0 ar (zu fd k (zu (fd k) 9 v)) H locs → W p l e R s m args below meth c H locs cells slots Q (F0 m (pc + 3) ls rest)) : W p l e R s m args below meth c H locs cells slots Q (F0 m pc ls (.int v :: .ref (xa x k) :: rest)) := by
  have h1 := kd_lt hk (by decide)
  refine va_put (ci := 3) (C := RX4) (T := TX4) (N := 11) (v := .int v) (ty := .int) E.1 E.2.1 E.2.2.2.2.1 iX4 tyX4 tyX4_ok nmX4 E.2.2.2.1 E.K hs.1 (E.D ar fd) hs.2 k ((wl_get h1).trans (by rw [sh3 hk])) rfl 9 (by decide) (E.tb hlink) (fun _ h => h) rfl (by decide +kernel) rfl rfl (Nat.le_of_ble_eq_true rfl) hdg fun H1 locs1 hP _ hS => kk H1 locs1 ⟨?_, hS⟩
  rw [wl_setF (g := zu (fd k) 9 v) h1 (by rw [sh3 hk]; rfl)] at hP
  exact hP
theorem zp3_10 (E : EV p R s m args meth c cc nL own rt cells slots A0 x) (hs : ST x A0 H0 ar fd H locs) {k : Nat} (hk : kd k = 3) {index : Nat} {v : Int32} (hlink : Cond.fieldLink own index (TX4 10).1 (TX4 10).2.1 (TX4 10).2.2.1 ∈ TB) (hdg : decode cc pc = .ok (.putfield index, 3))
    (kk : ∀ (H : Heap) (locs : List Loc), ST x A0 H0 ar (zu fd k (zu (fd k) 10 v)) H locs → W p l e R s m args below meth c H locs cells slots Q (F0 m (pc + 3) ls rest)) : W p l e R s m args below meth c H locs cells slots Q (F0 m pc ls (.int v :: .ref (xa x k) :: rest)) := by
  have h1 := kd_lt hk (by decide)
  refine va_put (ci := 3) (C := RX4) (T := TX4) (N := 11) (v := .int v) (ty := .int) E.1 E.2.1 E.2.2.2.2.1 iX4 tyX4 tyX4_ok nmX4 E.2.2.2.1 E.K hs.1 (E.D ar fd) hs.2 k ((wl_get h1).trans (by rw [sh3 hk])) rfl 10 (by decide) (E.tb hlink) (fun _ h => h) rfl (by decide +kernel) rfl rfl (Nat.le_of_ble_eq_true rfl) hdg fun H1 locs1 hP _ hS => kk H1 locs1 ⟨?_, hS⟩
  rw [wl_setF (g := zu (fd k) 10 v) h1 (by rw [sh3 hk]; rfl)] at hP
  exact hP
theorem zp4_1 (E : EV p R s m args meth c cc nL own rt cells slots A0 x) (hs : ST x A0 H0 ar fd H locs) {k : Nat} (hk : kd k = 4) {index : Nat} {v : Int32} (hlink : Cond.fieldLink own index (TX5 1).1 (TX5 1).2.1 (TX5 1).2.2.1 ∈ TB) (hdg : decode cc pc = .ok (.putfield index, 3))
    (kk : ∀ (H : Heap) (locs : List Loc), ST x A0 H0 ar (zu fd k (zu (fd k) 1 v)) H locs → W p l e R s m args below meth c H locs cells slots Q (F0 m (pc + 3) ls rest)) : W p l e R s m args below meth c H locs cells slots Q (F0 m pc ls (.int v :: .ref (xa x k) :: rest)) := by
  have h1 := kd_lt hk (by decide)
  refine va_put (ci := 4) (C := RX5) (T := TX5) (N := 2) (v := .int v) (ty := .int) E.1 E.2.1 E.2.2.2.2.1 iX5 tyX5 tyX5_ok nmX5 E.2.2.2.1 E.K hs.1 (E.D ar fd) hs.2 k ((wl_get h1).trans (by rw [sh4 hk])) rfl 1 (by decide) (E.tb hlink) (fun _ h => h) rfl (by decide +kernel) rfl rfl (Nat.le_of_ble_eq_true rfl) hdg fun H1 locs1 hP _ hS => kk H1 locs1 ⟨?_, hS⟩
  rw [wl_setF (g := zu (fd k) 1 v) h1 (by rw [sh4 hk]; rfl)] at hP
  exact hP
theorem zp5_3 (E : EV p R s m args meth c cc nL own rt cells slots A0 x) (hs : ST x A0 H0 ar fd H locs) {k : Nat} (hk : kd k = 5) {index : Nat} {v : Int32} (hb1 : v = 0 ∨ v = 1) (hlink : Cond.fieldLink own index (TX6 3).1 (TX6 3).2.1 (TX6 3).2.2.1 ∈ TB) (hdg : decode cc pc = .ok (.putfield index, 3))
    (kk : ∀ (H : Heap) (locs : List Loc), ST x A0 H0 ar (zu fd k (zu (fd k) 3 v)) H locs → W p l e R s m args below meth c H locs cells slots Q (F0 m (pc + 3) ls rest)) : W p l e R s m args below meth c H locs cells slots Q (F0 m pc ls (.int v :: .ref (xa x k) :: rest)) := by
  have h1 := kd_lt hk (by decide)
  refine va_put (ci := 5) (C := RX6) (T := TX6) (N := 7) (v := .int v) (ty := .boolean) E.1 E.2.1 E.2.2.2.2.1 iX6 tyX6 tyX6_ok nmX6 E.2.2.2.1 E.K hs.1 (E.D ar fd) hs.2 k ((wl_get h1).trans (by rw [sh5 hk])) rfl 3 (by decide) (E.tb hlink) (fun _ h => h) rfl (by decide +kernel) (by rcases hb1 with rfl | rfl <;> rfl) (by rcases hb1 with rfl | rfl <;> rfl) (Nat.le_of_ble_eq_true rfl) hdg fun H1 locs1 hP _ hS => kk H1 locs1 ⟨?_, hS⟩
  rw [wl_setF (g := zu (fd k) 3 v) h1 (by rw [sh5 hk]; rfl)] at hP
  exact hP
theorem zp6_3 (E : EV p R s m args meth c cc nL own rt cells slots A0 x) (hs : ST x A0 H0 ar fd H locs) {k : Nat} (hk : kd k = 6) {index : Nat} {v : Int32} (hlink : Cond.fieldLink own index (TX7 3).1 (TX7 3).2.1 (TX7 3).2.2.1 ∈ TB) (hdg : decode cc pc = .ok (.putfield index, 3))
    (kk : ∀ (H : Heap) (locs : List Loc), ST x A0 H0 ar (zu fd k (zu (fd k) 3 v)) H locs → W p l e R s m args below meth c H locs cells slots Q (F0 m (pc + 3) ls rest)) : W p l e R s m args below meth c H locs cells slots Q (F0 m pc ls (.int v :: .ref (xa x k) :: rest)) := by
  have h1 := kd_lt hk (by decide)
  refine va_put (ci := 6) (C := RX7) (T := TX7) (N := 11) (v := .int v) (ty := .int) E.1 E.2.1 E.2.2.2.2.1 iX7 tyX7 tyX7_ok nmX7 E.2.2.2.1 E.K hs.1 (E.D ar fd) hs.2 k ((wl_get h1).trans (by rw [sh6 hk])) rfl 3 (by decide) (E.tb hlink) (fun _ h => h) rfl (by decide +kernel) rfl rfl (Nat.le_of_ble_eq_true rfl) hdg fun H1 locs1 hP _ hS => kk H1 locs1 ⟨?_, hS⟩
  rw [wl_setF (g := zu (fd k) 3 v) h1 (by rw [sh6 hk]; rfl)] at hP
  exact hP
theorem zp6_4 (E : EV p R s m args meth c cc nL own rt cells slots A0 x) (hs : ST x A0 H0 ar fd H locs) {k : Nat} (hk : kd k = 6) {index : Nat} {v : Int32} (hb1 : v = 0 ∨ v = 1) (hlink : Cond.fieldLink own index (TX7 4).1 (TX7 4).2.1 (TX7 4).2.2.1 ∈ TB) (hdg : decode cc pc = .ok (.putfield index, 3))
    (kk : ∀ (H : Heap) (locs : List Loc), ST x A0 H0 ar (zu fd k (zu (fd k) 4 v)) H locs → W p l e R s m args below meth c H locs cells slots Q (F0 m (pc + 3) ls rest)) : W p l e R s m args below meth c H locs cells slots Q (F0 m pc ls (.int v :: .ref (xa x k) :: rest)) := by
  have h1 := kd_lt hk (by decide)
  refine va_put (ci := 6) (C := RX7) (T := TX7) (N := 11) (v := .int v) (ty := .boolean) E.1 E.2.1 E.2.2.2.2.1 iX7 tyX7 tyX7_ok nmX7 E.2.2.2.1 E.K hs.1 (E.D ar fd) hs.2 k ((wl_get h1).trans (by rw [sh6 hk])) rfl 4 (by decide) (E.tb hlink) (fun _ h => h) rfl (by decide +kernel) (by rcases hb1 with rfl | rfl <;> rfl) (by rcases hb1 with rfl | rfl <;> rfl) (Nat.le_of_ble_eq_true rfl) hdg fun H1 locs1 hP _ hS => kk H1 locs1 ⟨?_, hS⟩
  rw [wl_setF (g := zu (fd k) 4 v) h1 (by rw [sh6 hk]; rfl)] at hP
  exact hP
theorem zp6_6 (E : EV p R s m args meth c cc nL own rt cells slots A0 x) (hs : ST x A0 H0 ar fd H locs) {k : Nat} (hk : kd k = 6) {index : Nat} {v : Int32} (hlink : Cond.fieldLink own index (TX7 6).1 (TX7 6).2.1 (TX7 6).2.2.1 ∈ TB) (hdg : decode cc pc = .ok (.putfield index, 3))
    (kk : ∀ (H : Heap) (locs : List Loc), ST x A0 H0 ar (zu fd k (zu (fd k) 6 v)) H locs → W p l e R s m args below meth c H locs cells slots Q (F0 m (pc + 3) ls rest)) : W p l e R s m args below meth c H locs cells slots Q (F0 m pc ls (.int v :: .ref (xa x k) :: rest)) := by
  have h1 := kd_lt hk (by decide)
  refine va_put (ci := 6) (C := RX7) (T := TX7) (N := 11) (v := .int v) (ty := .int) E.1 E.2.1 E.2.2.2.2.1 iX7 tyX7 tyX7_ok nmX7 E.2.2.2.1 E.K hs.1 (E.D ar fd) hs.2 k ((wl_get h1).trans (by rw [sh6 hk])) rfl 6 (by decide) (E.tb hlink) (fun _ h => h) rfl (by decide +kernel) rfl rfl (Nat.le_of_ble_eq_true rfl) hdg fun H1 locs1 hP _ hS => kk H1 locs1 ⟨?_, hS⟩
  rw [wl_setF (g := zu (fd k) 6 v) h1 (by rw [sh6 hk]; rfl)] at hP
  exact hP
theorem zp6_7 (E : EV p R s m args meth c cc nL own rt cells slots A0 x) (hs : ST x A0 H0 ar fd H locs) {k : Nat} (hk : kd k = 6) {index : Nat} {v : Int32} (hlink : Cond.fieldLink own index (TX7 7).1 (TX7 7).2.1 (TX7 7).2.2.1 ∈ TB) (hdg : decode cc pc = .ok (.putfield index, 3))
    (kk : ∀ (H : Heap) (locs : List Loc), ST x A0 H0 ar (zu fd k (zu (fd k) 7 v)) H locs → W p l e R s m args below meth c H locs cells slots Q (F0 m (pc + 3) ls rest)) : W p l e R s m args below meth c H locs cells slots Q (F0 m pc ls (.int v :: .ref (xa x k) :: rest)) := by
  have h1 := kd_lt hk (by decide)
  refine va_put (ci := 6) (C := RX7) (T := TX7) (N := 11) (v := .int v) (ty := .int) E.1 E.2.1 E.2.2.2.2.1 iX7 tyX7 tyX7_ok nmX7 E.2.2.2.1 E.K hs.1 (E.D ar fd) hs.2 k ((wl_get h1).trans (by rw [sh6 hk])) rfl 7 (by decide) (E.tb hlink) (fun _ h => h) rfl (by decide +kernel) rfl rfl (Nat.le_of_ble_eq_true rfl) hdg fun H1 locs1 hP _ hS => kk H1 locs1 ⟨?_, hS⟩
  rw [wl_setF (g := zu (fd k) 7 v) h1 (by rw [sh6 hk]; rfl)] at hP
  exact hP
theorem zald (E : EV p R s m args meth c cc nL own rt cells slots A0 x) (hs : ST x A0 H0 ar fd H locs) (k : Nat) {n j : Nat} (hk : kd k = 7) (hn : rl k = n) (hj : j < n) (hm : n < 2 ^ 31) (hdg : decode cc pc = .ok (.iaload, 1))
    (kk : W p l e R s m args below meth c H locs cells slots Q (F0 m (pc + 1) ls (.int (ar k j) :: rest))) : W p l e R s m args below meth c H locs cells slots Q (F0 m pc ls (.int (nI j) :: .ref (xa x k) :: rest)) := by
  subst hn
  refine va_iald E.1 E.2.1 E.K hs.1 k 0 ((wl_get (kd_lt hk (by decide))).trans (by rw [sh7 hk])) rfl (vp_in_nI hj hm) hdg ?_
  rw [nI_clamp (by omega)]
  exact kk
theorem zaldv (E : EV p R s m args meth c cc nL own rt cells slots A0 x) (hs : ST x A0 H0 ar fd H locs) (k : Nat) {i : Int32} (hk : kd k = 7) (hj : vp_in i (rl k)) (hdg : decode cc pc = .ok (.iaload, 1))
    (kk : W p l e R s m args below meth c H locs cells slots Q (F0 m (pc + 1) ls (.int (ar k i.toNatClampNeg) :: rest))) : W p l e R s m args below meth c H locs cells slots Q (F0 m pc ls (.int i :: .ref (xa x k) :: rest)) := by
  exact va_iald E.1 E.2.1 E.K hs.1 k 0 ((wl_get (kd_lt hk (by decide))).trans (by rw [sh7 hk])) rfl hj hdg kk
theorem zald8 (E : EV p R s m args meth c cc nL own rt cells slots A0 x) (hs : ST x A0 H0 ar fd H locs) (k : Nat) {n j : Nat} (hk : kd k = 8) (hn : rl k = n) (hj : j < n) (hm : n < 2 ^ 31) (hdg : decode cc pc = .ok (.caload, 1))
    (kk : W p l e R s m args below meth c H locs cells slots Q (F0 m (pc + 1) ls (.int (ar k j) :: rest))) : W p l e R s m args below meth c H locs cells slots Q (F0 m pc ls (.int (nI j) :: .ref (xa x k) :: rest)) := by
  subst hn
  refine va_cald E.1 E.2.1 E.K hs.1 k 1 ((wl_get (kd_lt hk (by decide))).trans (by rw [sh8 hk])) rfl (vp_in_nI hj hm) hdg ?_
  rw [nI_clamp (by omega)]
  exact kk
theorem zald9 (E : EV p R s m args meth c cc nL own rt cells slots A0 x) (hs : ST x A0 H0 ar fd H locs) (k : Nat) {n j : Nat} (hk : kd k = 9) (hn : rl k = n) (hj : j < n) (hm : n < 2 ^ 31) (hdg : decode cc pc = .ok (.baload, 1))
    (kk : W p l e R s m args below meth c H locs cells slots Q (F0 m (pc + 1) ls (.int (ar k j) :: rest))) : W p l e R s m args below meth c H locs cells slots Q (F0 m pc ls (.int (nI j) :: .ref (xa x k) :: rest)) := by
  subst hn
  refine va_zald E.1 E.2.1 E.K hs.1 k 2 ((wl_get (kd_lt hk (by decide))).trans (by rw [sh9 hk])) rfl (vp_in_nI hj hm) hdg ?_
  rw [nI_clamp (by omega)]
  exact kk
theorem zast (E : EV p R s m args meth c cc nL own rt cells slots A0 x) (hs : ST x A0 H0 ar fd H locs) (k : Nat) {n j : Nat} {v : Int32} (hk : kd k = 7) (hn : rl k = n) (hj : j < n) (hm : n < 2 ^ 31) (hdg : decode cc pc = .ok (.iastore, 1))
    (kk : ∀ (H : Heap) (locs : List Loc), ST x A0 H0 (zu ar k (zu (ar k) j v)) fd H locs → W p l e R s m args below meth c H locs cells slots Q (F0 m (pc + 1) ls rest)) : W p l e R s m args below meth c H locs cells slots Q (F0 m pc ls (.int v :: .int (nI j) :: .ref (xa x k) :: rest)) := by
  subst hn
  have h1 := kd_lt hk (by decide)
  refine va_iast E.1 E.2.1 E.K hs.1 (E.D ar fd) hs.2 k 0 ((wl_get h1).trans (by rw [sh7 hk])) rfl (vp_in_nI hj hm) hdg fun H1 locs1 hP _ hS => kk H1 locs1 ⟨?_, hS⟩
  rw [nI_clamp (by omega), wl_setA (g := zu (ar k) j v) h1 (by rw [sh7 hk]; rfl)] at hP
  exact hP
theorem zast8 (E : EV p R s m args meth c cc nL own rt cells slots A0 x) (hs : ST x A0 H0 ar fd H locs) (k : Nat) {n j : Nat} {v : Int32} (hk : kd k = 8) (hn : rl k = n) (hj : j < n) (hm : n < 2 ^ 31) (hdg : decode cc pc = .ok (.castore, 1))
    (kk : ∀ (H : Heap) (locs : List Loc), ST x A0 H0 (zu ar k (zu (ar k) j (vp_nar .char v))) fd H locs → W p l e R s m args below meth c H locs cells slots Q (F0 m (pc + 1) ls rest)) : W p l e R s m args below meth c H locs cells slots Q (F0 m pc ls (.int v :: .int (nI j) :: .ref (xa x k) :: rest)) := by
  subst hn
  have h1 := kd_lt hk (by decide)
  refine va_cast E.1 E.2.1 E.K hs.1 (E.D ar fd) hs.2 k 1 ((wl_get h1).trans (by rw [sh8 hk])) rfl (vp_in_nI hj hm) hdg fun H1 locs1 hP _ hS => kk H1 locs1 ⟨?_, hS⟩
  rw [nI_clamp (by omega), wl_setA (g := zu (ar k) j (vp_nar .char v)) h1 (by rw [sh8 hk]; rfl)] at hP
  exact hP
theorem zalen (E : EV p R s m args meth c cc nL own rt cells slots A0 x) (hs : ST x A0 H0 ar fd H locs) (k : Nat) {n : Nat} (hk : kd k = 7) (hn : rl k = n) (hdg : decode cc pc = .ok (.arraylength, 1))
    (kk : W p l e R s m args below meth c H locs cells slots Q (F0 m (pc + 1) ls (.int (nI n) :: rest))) : W p l e R s m args below meth c H locs cells slots Q (F0 m pc ls (.ref (xa x k) :: rest)) := by
  subst hn
  exact va_alen (v := nI (rl k)) E.1 E.2.1 E.K hs.1 k 0 ((wl_get (kd_lt hk (by decide))).trans (by rw [sh7 hk])) rfl rfl hdg kk
theorem zalen8 (E : EV p R s m args meth c cc nL own rt cells slots A0 x) (hs : ST x A0 H0 ar fd H locs) (k : Nat) {n : Nat} (hk : kd k = 8) (hn : rl k = n) (hdg : decode cc pc = .ok (.arraylength, 1))
    (kk : W p l e R s m args below meth c H locs cells slots Q (F0 m (pc + 1) ls (.int (nI n) :: rest))) : W p l e R s m args below meth c H locs cells slots Q (F0 m pc ls (.ref (xa x k) :: rest)) := by
  subst hn
  exact va_alen (v := nI (rl k)) E.1 E.2.1 E.K hs.1 k 1 ((wl_get (kd_lt hk (by decide))).trans (by rw [sh8 hk])) rfl rfl hdg kk
end RW
