/-! layouts of the two worlds; whole numbers of 32 bits by their values -/
def ksM : List Nat := [0, 4, 5, 0, 0, 6, 0, 0, 7, 8, 9, 0, 0, 0, 0, 0, 0, 0, 0, 0, 0, 0, 0, 1, 0, 0, 0, 10, 11, 0, 0, 0, 12, 13, 14, 0, 0, 0, 15, 16, 17, 18]
def loM : Nat → LO
  | 0 => .inl (6, ksM)
  | 1 => .inr (.int, (960, none))
  | 2 => .inr (.int, (6, none))
  | 3 => .inr (.int, (160, none))
  | 4 => .inr (.int, (30, none))
  | 5 => .inr (.int, (6, none))
  | 6 => .inr (.int, (12, none))
  | 7 => .inr (.int, (1800, none))
  | 8 => .inr (.boolean, (1800, none))
  | 9 => .inr (.int, (30, none))
  | 10 => .inr (.int, (30, none))
  | 11 => .inr (.int, (12, none))
  | 12 => .inr (.boolean, (4, none))
  | 13 => .inr (.int, (4, none))
  | 14 => .inr (.int, (4, none))
  | _ => .inr (.int, (160, none))
def lyM : Lay := (loM, 16)
theorem recvM : ∃ (ci : Nat) (r : vw_C) (ks : List Nat), 0 < lyM.2 ∧ lyM.1 0 = .inl (ci, ks) ∧ vwCl[ci]? = some r ∧ r.1 = RX6 := ⟨6, (RX6, TX6, 42), ksM, by decide, rfl, rfl, rfl⟩
theorem i_lt {x y : Int32} : x < y ↔ x.toInt < y.toInt := Int32.lt_iff_toInt_lt
theorem i_le {x y : Int32} : x ≤ y ↔ x.toInt ≤ y.toInt := Int32.le_iff_toInt_le
theorem i_eq {x y : Int32} : x = y ↔ x.toInt = y.toInt := Int32.toInt_inj.symm
theorem i_rng (x : Int32) : -2147483648 ≤ x.toInt ∧ x.toInt < 2147483648 := ⟨Int32.le_toInt x, Int32.toInt_lt x⟩
theorem i_bm {z : Int} (h1 : -2147483648 ≤ z) (h2 : z < 2147483648) : z.bmod (2 ^ 32) = z := by
  rw [Int.bmod_eq_of_le] <;> omega
theorem i_add {x y : Int32} (h1 : -2147483648 ≤ x.toInt + y.toInt) (h2 : x.toInt + y.toInt < 2147483648) : (x + y).toInt = x.toInt + y.toInt := by
  rw [Int32.toInt_add, i_bm h1 h2]
theorem i_sub {x y : Int32} (h1 : -2147483648 ≤ x.toInt - y.toInt) (h2 : x.toInt - y.toInt < 2147483648) : (x - y).toInt = x.toInt - y.toInt := by
  rw [Int32.toInt_sub, i_bm h1 h2]
theorem i_mul {x y : Int32} (h1 : -2147483648 ≤ x.toInt * y.toInt) (h2 : x.toInt * y.toInt < 2147483648) : (x * y).toInt = x.toInt * y.toInt := by
  rw [Int32.toInt_mul, i_bm h1 h2]
theorem i_neg {x : Int32} (h1 : -2147483648 < x.toInt) : (-x).toInt = -x.toInt := by
  rw [Int32.toInt_neg, i_bm]
  · have := i_rng x; omega
  · omega
theorem i_n {n : Nat} (h : n < 2147483648) : (nI n).toInt = n := nI_toInt h
theorem i_cl {n : Nat} (h : n < 2147483648) : (nI n).toNatClampNeg = n := nI_clamp h
theorem i_long (x : Int32) : x.toInt64.toInt = x.toInt := Int32.toInt_toInt64 x
theorem l_le {x y : Int64} : x ≤ y ↔ x.toInt ≤ y.toInt := Int64.le_iff_toInt_le
theorem l_lt {x y : Int64} : x < y ↔ x.toInt < y.toInt := Int64.lt_iff_toInt_lt
/-- a number of 0 .. n less 1 is nI of a natural number -/
theorem i_nat {x : Int32} {n : Nat} (h0 : 0 ≤ x.toInt) (h1 : x.toInt < n) : ∃ j : Nat, j < n ∧ x = nI j := by
  refine ⟨x.toInt.toNat, by omega, ?_⟩
  have := i_rng x
  rw [i_eq, i_n (by omega)]
  omega
theorem i_vp {x : Int32} {n : Nat} (h0 : 0 ≤ x.toInt) (h1 : x.toInt < n) : vp_in x n := vp_in_iff.mpr ⟨h0, h1⟩
/-- 1 for true, 0 for false -/
def b1 (p : Prop) [Decidable p] : Int32 := if p then 1 else 0
theorem b1_t {p : Prop} [Decidable p] (h : p) : b1 p = 1 := if_pos h
theorem b1_f {p : Prop} [Decidable p] (h : ¬ p) : b1 p = 0 := if_neg h
theorem b1_0 {p : Prop} [Decidable p] : b1 p = 0 ↔ ¬ p := by unfold b1; split <;> simp_all
theorem b1_n0 {p : Prop} [Decidable p] : ¬ b1 p = 0 ↔ p := by unfold b1; split <;> simp_all
theorem b1_nar {p : Prop} [Decidable p] : narrow .boolean (.int (b1 p)) = .int (b1 p) := by unfold b1; split <;> rfl
theorem b1_ct {p q : Prop} [Decidable p] [Decidable q] (h : p ↔ q) : b1 p = b1 q := by unfold b1; simp [h]
theorem l_cmp_gt0 {x y : Int64} : ¬ (lg_cmp x y ≤ 0) ↔ y < x := by
  unfold lg_cmp
  by_cases h : x > y
  · simp [h]
  · by_cases h2 : x = y
    · simp [h2]
    · simp [h, h2]
theorem l_cmp_lt0 {x y : Int64} : lg_cmp x y < 0 ↔ x < y := by
  unfold lg_cmp
  by_cases h : x > y
  · simp only [if_pos h]
    constructor
    · intro q; exact absurd q (by decide)
    · intro q
      have h1 := l_lt.mp h
      have h2 := l_lt.mp q
      omega
  · by_cases h2 : x = y
    · subst h2
      simp
    · simp only [if_neg h, if_neg h2]
      have h1 : ¬ y < x := h
      constructor
      · intro _
        rw [l_lt] at h1 ⊢
        have : x.toInt ≠ y.toInt := fun q => h2 (Int64.toInt_inj.mp q)
        omega
      · intro _; decide
theorem l_cmp_eq0 {x y : Int64} : lg_cmp x y = 0 ↔ x = y := by
  unfold lg_cmp
  by_cases h : x > y
  · simp only [if_pos h]
    constructor
    · intro q; exact absurd q (by decide)
    · intro q
      subst q
      have h1 := l_lt.mp h
      omega
  · by_cases h2 : x = y
    · simp [h, h2]
    · simp only [if_neg h, if_neg h2]
      constructor
      · intro q; exact absurd q (by decide)
      · intro q; exact absurd q h2
/-- a row anew at one place -/
theorem upS_1 {τ : St} {o k : Nat} {v : Int32} : (upS τ o k v).1 o k = v := by simp [upS, va_up]
theorem upS_2 {τ : St} {o k k' : Nat} {v : Int32} (h : k' ≠ k) : (upS τ o k v).1 o k' = τ.1 o k' := by simp [upS, va_up, h]
theorem upS_3 {τ : St} {o o' k : Nat} {v : Int32} (h : o' ≠ o) : (upS τ o k v).1 o' = τ.1 o' := by simp [upS, va_up, h]
theorem upS_4 {τ : St} {o k : Nat} {v : Int32} : (upS τ o k v).2 = τ.2 := rfl
theorem upL_1 {τ : St} {v : Int64} : (upL τ v).1 = τ.1 := rfl
theorem l_cmp_pos {x y : Int64} : 0 < lg_cmp x y ↔ y < x := by
  rw [← l_cmp_gt0, Int32.not_le]
theorem kk {α : Type} {K : α → St → Prop} {x y : α} {τ : St} (h : x = y) (hK : K y τ) : K x τ := h ▸ hK
/-- only these places of cell 0, and the long, may be others -/
def pkx (ks : List Nat) (τ τ' : St) : Prop := (∀ o, o ≠ 0 → τ'.1 o = τ.1 o) ∧ (∀ k, k ∉ ks → τ'.1 0 k = τ.1 0 k) ∧ τ'.2.2 = τ.2.2
theorem pkx.rf {ks : List Nat} {τ : St} : pkx ks τ τ := ⟨fun _ _ => rfl, fun _ _ => rfl, rfl⟩
theorem pkx.trans {ks : List Nat} {a b c : St} (h1 : pkx ks a b) (h2 : pkx ks b c) : pkx ks a c := ⟨fun o h => (h2.1 o h).trans (h1.1 o h), fun k h => (h2.2.1 k h).trans (h1.2.1 k h), h2.2.2.trans h1.2.2⟩
theorem pkx.mono {ks ks' : List Nat} {a b : St} (h : pkx ks a b) (hk : ∀ k, k ∈ ks → k ∈ ks') : pkx ks' a b := ⟨h.1, fun k hn => h.2.1 k (fun q => hn (hk k q)), h.2.2⟩
theorem pkx.up {ks : List Nat} {a b : St} {k : Nat} {v : Int32} (h : pkx ks a b) (hk : k ∈ ks) : pkx ks a (upS b 0 k v) :=
  ⟨fun o ho => by rw [upS_3 ho]; exact h.1 o ho, fun j hj => by rw [upS_2 (fun e => hj (by rw [e]; exact hk))]; exact h.2.1 j hj, h.2.2⟩
theorem pkx.upL {ks : List Nat} {a b : St} {v : Int64} (h : pkx ks a b) : pkx ks a (upL b v) := ⟨fun o ho => h.1 o ho, fun j hj => h.2.1 j hj, h.2.2⟩
