
/-! numbers -/
theorem nI_mul (a b : Nat) : nI a * nI b = nI (a * b) := (Int32.ofNat_mul a b).symm
theorem nI_sub {a b : Nat} (h : b ≤ a) : nI a - nI b = nI (a - b) := (Int32.ofNat_sub a b h).symm
theorem nI_div {a b : Nat} (ha : a < 2 ^ 31) (hb : b < 2 ^ 31) : nI a / nI b = nI (a / b) := (Int32.ofNat_div ha hb).symm
theorem nI_rem {a b : Nat} (ha : a < 2 ^ 31) (hb : b < 2 ^ 31) : nI a - nI a / nI b * nI b = nI (a % b) := by
  rw [nI_div ha hb, nI_mul, nI_sub (Nat.div_mul_le_self a b)]
  have h1 := Nat.mod_add_div a b
  rw [Nat.mul_comm b (a / b)] at h1
  rw [show a - a / b * b = a % b by omega]
theorem nI_inc (a : Nat) : nI a + Int32.ofInt 1 = nI (a + 1) := nI_1 a
theorem nI_incK (a k : Nat) : nI a + nI k = nI (a + k) := nI_add a k
theorem nI_m (a : Nat) : ¬ nI a = -1 ∨ 2 ^ 31 ≤ a := by
  rcases Nat.lt_or_ge a (2 ^ 31) with h | h
  · exact Or.inl fun q => nI_pos h (by rw [q]; decide)
  · exact Or.inr h
theorem nI_nm {a : Nat} (h : a < 2 ^ 31) : ¬ nI a = -1 := fun q => nI_pos h (by rw [q]; decide)
theorem sw_out {x : Int32} {n : Nat} (hn : n < 2 ^ 31) (h : ∀ k, k ≤ n → ¬ x = nI k) : x.toInt < 0 ∨ (n : Int) < x.toInt := by
  by_cases q : x.toInt < 0
  · exact Or.inl q
  · refine Or.inr (Int.not_le.mp fun q2 => ?_)
    have h1 : x = nI x.toInt.toNat := Int32.toInt_inj.mp (by rw [nI_toInt (by omega)]; omega)
    exact h x.toInt.toNat (by omega) h1
/-- a number from 0 to below n -/
theorem in_nI {a : Int32} {n : Nat} (h1 : ¬ a < 0) (h2 : ¬ nI n ≤ a) (hn : n < 2 ^ 31) : ∃ j, j < n ∧ a = nI j := by
  obtain ⟨j, hj, rfl⟩ := nI_of h1
  refine ⟨j, ?_, rfl⟩
  rcases Nat.lt_or_ge j n with q | q
  · exact q
  · exact absurd (nI_le q hj) h2
/-! rows of numbers -/
noncomputable def rowAt (f : Nat → Int32) (n : Nat) (a : Int32) : Int32 := iz (a < 0) (-1) (iz (nI n ≤ a) (-1) (f a.toNatClampNeg))
theorem rowAt_n {f : Nat → Int32} {n j : Nat} (h : j < n) (hn : n < 2 ^ 31) : rowAt f n (nI j) = f j := by
  unfold rowAt
  rw [iz_f (nI_pos (by omega)), iz_f (nI_ge h hn), nI_clamp (by omega)]
theorem rowAt_m {f : Nat → Int32} {n : Nat} : rowAt f n (-1) = -1 := iz_t (by decide)
noncomputable def rowPut (f : Nat → Int32) (n : Nat) (a v : Int32) : Nat → Int32 := iz (a < 0) f (iz (nI n ≤ a) f (zu f a.toNatClampNeg v))
theorem rowPut_n {f : Nat → Int32} {n j : Nat} {v : Int32} (h : j < n) (hn : n < 2 ^ 31) : rowPut f n (nI j) v = zu f j v := by
  unfold rowPut
  rw [iz_f (nI_pos (by omega)), iz_f (nI_ge h hn), nI_clamp (by omega)]
def smI (g : Nat → Int32) : Nat → Int32
  | 0 => 0
  | n + 1 => smI g n + g n
theorem smI_s (g : Nat → Int32) (n : Nat) : smI g (n + 1) = smI g n + g n := rfl
theorem smI_c {f g : Nat → Int32} {n : Nat} (h : ∀ i, i < n → f i = g i) : smI f n = smI g n := by
  induction n with
  | zero => rfl
  | succ n ih => rw [smI_s, smI_s, ih fun i hi => h i (by omega), h n (by omega)]
noncomputable def ct (P : Nat → Prop) : Nat → Nat
  | 0 => 0
  | n + 1 => ct P n + iz (P n) 1 0
theorem ct_s (P : Nat → Prop) (n : Nat) : ct P (n + 1) = ct P n + iz (P n) 1 0 := rfl
theorem ct_t {P : Nat → Prop} {n : Nat} (h : P n) : ct P (n + 1) = ct P n + 1 := by rw [ct_s, iz_t h]
theorem ct_f {P : Nat → Prop} {n : Nat} (h : ¬ P n) : ct P (n + 1) = ct P n := by rw [ct_s, iz_f h]; rfl
theorem ct_c {P R : Nat → Prop} {n : Nat} (h : ∀ i, i < n → (P i ↔ R i)) : ct P n = ct R n := by
  induction n with
  | zero => rfl
  | succ n ih => rw [ct_s, ct_s, ih fun i hi => h i (by omega), iz_c (h n (by omega))]
theorem ct_le (P : Nat → Prop) (n : Nat) : ct P n ≤ n := by
  induction n with
  | zero => exact Nat.le_refl _
  | succ n ih =>
    by_cases h : P n
    · rw [ct_t h]; omega
    · rw [ct_f h]; omega
theorem zu_id {α : Type} (f : Nat → α) (k : Nat) : zu f k (f k) = f := by
  funext j
  by_cases h : j = k
  · rw [h, zu_s]
  · rw [zu_n _ _ h]
/-- a row of n places at the cells k, k + 1 -/
def RO (k n : Nat) : Prop := kd k = 2 ∧ kd (k + 1) = 7 ∧ rl (k + 1) = n ∧ n < 2 ^ 31
def ch16 (x : Int32) : Int32 := (x.toUInt32 % 65536).toInt32

theorem ro_2 : RO 2 36 := ⟨rfl, rfl, rfl, by decide⟩
theorem ro_4 : RO 4 36 := ⟨rfl, rfl, rfl, by decide⟩
theorem ro_6 : RO 6 36 := ⟨rfl, rfl, rfl, by decide⟩
theorem ro_8 : RO 8 36 := ⟨rfl, rfl, rfl, by decide⟩
theorem ro_10 : RO 10 36 := ⟨rfl, rfl, rfl, by decide⟩
theorem ro_12 : RO 12 9 := ⟨rfl, rfl, rfl, by decide⟩
theorem ro_14 : RO 14 2 := ⟨rfl, rfl, rfl, by decide⟩
theorem ro_19 : RO 19 36 := ⟨rfl, rfl, rfl, by decide⟩
theorem ro_21 : RO 21 36 := ⟨rfl, rfl, rfl, by decide⟩
theorem ro_23 : RO 23 36 := ⟨rfl, rfl, rfl, by decide⟩
theorem ro_25 : RO 25 36 := ⟨rfl, rfl, rfl, by decide⟩
theorem ro_27 : RO 27 36 := ⟨rfl, rfl, rfl, by decide⟩
theorem ro_29 : RO 29 9 := ⟨rfl, rfl, rfl, by decide⟩
theorem ro_31 : RO 31 2 := ⟨rfl, rfl, rfl, by decide⟩
theorem ro_34 : RO 34 36 := ⟨rfl, rfl, rfl, by decide⟩
theorem ro_36 : RO 36 36 := ⟨rfl, rfl, rfl, by decide⟩
theorem ro_38 : RO 38 36 := ⟨rfl, rfl, rfl, by decide⟩
theorem ro_40 : RO 40 36 := ⟨rfl, rfl, rfl, by decide⟩
theorem ro_42 : RO 42 36 := ⟨rfl, rfl, rfl, by decide⟩
theorem ro_44 : RO 44 9 := ⟨rfl, rfl, rfl, by decide⟩
theorem ro_46 : RO 46 2 := ⟨rfl, rfl, rfl, by decide⟩
theorem ro_49 : RO 49 36 := ⟨rfl, rfl, rfl, by decide⟩
theorem ro_51 : RO 51 36 := ⟨rfl, rfl, rfl, by decide⟩
theorem ro_53 : RO 53 36 := ⟨rfl, rfl, rfl, by decide⟩
theorem ro_55 : RO 55 36 := ⟨rfl, rfl, rfl, by decide⟩
theorem ro_57 : RO 57 36 := ⟨rfl, rfl, rfl, by decide⟩
theorem ro_59 : RO 59 9 := ⟨rfl, rfl, rfl, by decide⟩
theorem ro_61 : RO 61 2 := ⟨rfl, rfl, rfl, by decide⟩
theorem ro_64 : RO 64 36 := ⟨rfl, rfl, rfl, by decide⟩
theorem ro_66 : RO 66 36 := ⟨rfl, rfl, rfl, by decide⟩
theorem ro_68 : RO 68 36 := ⟨rfl, rfl, rfl, by decide⟩
theorem ro_70 : RO 70 36 := ⟨rfl, rfl, rfl, by decide⟩
theorem ro_72 : RO 72 36 := ⟨rfl, rfl, rfl, by decide⟩
theorem ro_74 : RO 74 9 := ⟨rfl, rfl, rfl, by decide⟩
theorem ro_76 : RO 76 2 := ⟨rfl, rfl, rfl, by decide⟩
theorem ro_79 : RO 79 36 := ⟨rfl, rfl, rfl, by decide⟩
theorem ro_81 : RO 81 36 := ⟨rfl, rfl, rfl, by decide⟩
theorem ro_83 : RO 83 36 := ⟨rfl, rfl, rfl, by decide⟩
theorem ro_85 : RO 85 36 := ⟨rfl, rfl, rfl, by decide⟩
theorem ro_87 : RO 87 36 := ⟨rfl, rfl, rfl, by decide⟩
theorem ro_89 : RO 89 9 := ⟨rfl, rfl, rfl, by decide⟩
theorem ro_91 : RO 91 2 := ⟨rfl, rfl, rfl, by decide⟩
theorem ro_96 : RO 96 36 := ⟨rfl, rfl, rfl, by decide⟩
theorem ro_98 : RO 98 36 := ⟨rfl, rfl, rfl, by decide⟩
theorem ro_100 : RO 100 36 := ⟨rfl, rfl, rfl, by decide⟩
