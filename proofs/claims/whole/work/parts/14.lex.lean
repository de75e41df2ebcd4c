/-! tokens of a text, as the document cuts them: over 'g', the byte at a place (-1 behind the end) -/
abbrev isL (b : Int32) : Prop := 97 ≤ b ∧ b ≤ 122
abbrev isD (b : Int32) : Prop := 48 ≤ b ∧ b ≤ 57
abbrev isB (b : Int32) : Prop := b = 32 ∨ b = 10
abbrev isS (b : Int32) : Prop := b = 40 ∨ b = 41 ∨ b = 59 ∨ b = 43 ∨ b = 45 ∨ b = 42 ∨ b = 60 ∨ b = 61
def skp (g : Nat → Int32) : Nat → Nat → Nat
  | 0, i => i
  | k + 1, i => if isB (g i) then skp g k (i + 1) else i
def spL (g : Nat → Int32) : Nat → Nat → Nat
  | 0, i => i
  | k + 1, i => if isL (g i) then spL g k (i + 1) else i
def spD (g : Nat → Int32) : Nat → Nat → Nat
  | 0, i => i
  | k + 1, i => if isD (g i) then spD g k (i + 1) else i
theorem skp_eq {g : Nat → Int32} {q : Nat} (hq : ¬ isB (g q)) : ∀ (k i : Nat), i ≤ q → q - i < k → (∀ j, i ≤ j → j < q → isB (g j)) → skp g k i = q
  | 0, i, _, h, _ => absurd h (Nat.not_lt_zero _)
  | k + 1, i, hi, h, hb => by
    unfold skp
    by_cases e : i = q
    · subst e
      rw [if_neg hq]
    · rw [if_pos (hb i (Nat.le_refl _) (by omega))]
      exact skp_eq hq k (i + 1) (by omega) (by omega) (fun j h1 h2 => hb j (by omega) h2)
theorem spL_eq {g : Nat → Int32} {q : Nat} (hq : ¬ isL (g q)) : ∀ (k i : Nat), i ≤ q → q - i < k → (∀ j, i ≤ j → j < q → isL (g j)) → spL g k i = q
  | 0, i, _, h, _ => absurd h (Nat.not_lt_zero _)
  | k + 1, i, hi, h, hb => by
    unfold spL
    by_cases e : i = q
    · subst e
      rw [if_neg hq]
    · rw [if_pos (hb i (Nat.le_refl _) (by omega))]
      exact spL_eq hq k (i + 1) (by omega) (by omega) (fun j h1 h2 => hb j (by omega) h2)
theorem spD_eq {g : Nat → Int32} {q : Nat} (hq : ¬ isD (g q)) : ∀ (k i : Nat), i ≤ q → q - i < k → (∀ j, i ≤ j → j < q → isD (g j)) → spD g k i = q
  | 0, i, _, h, _ => absurd h (Nat.not_lt_zero _)
  | k + 1, i, hi, h, hb => by
    unfold spD
    by_cases e : i = q
    · subst e
      rw [if_neg hq]
    · rw [if_pos (hb i (Nat.le_refl _) (by omega))]
      exact spD_eq hq k (i + 1) (by omega) (by omega) (fun j h1 h2 => hb j (by omega) h2)
/-- a text of n bytes: behind them stands none -/
def gEnd (g : Nat → Int32) (n : Nat) : Prop := (∀ i, n ≤ i → g i = -1) ∧ (∀ i, i < n → 0 ≤ (g i).toInt ∧ (g i).toInt < 256) ∧ n ≤ 160
theorem gEnd.neg {g : Nat → Int32} {n i : Nat} (h : gEnd g n) : g i < 0 ↔ n ≤ i := by
  constructor
  · intro q
    rcases Nat.lt_or_ge i n with r | r
    · have h1 := (h.2.1 i r).1
      rw [i_lt] at q
      have : (0 : Int32).toInt = 0 := rfl
      omega
    · exact r
  · intro q
    rw [h.1 i q]
    decide
theorem not_isB_neg : ¬ isB (-1) := by decide
theorem not_isL_neg : ¬ isL (-1) := by decide
theorem not_isD_neg : ¬ isD (-1) := by decide
theorem skp_spec {g : Nat → Int32} {n : Nat} (hg : gEnd g n) : ∀ (k i : Nat), i ≤ n → n - i < k → i ≤ skp g k i ∧ skp g k i ≤ n ∧ ¬ isB (g (skp g k i))
  | 0, i, _, h => absurd h (Nat.not_lt_zero _)
  | k + 1, i, hi, h => by
    unfold skp
    by_cases e : isB (g i)
    · rw [if_pos e]
      have hlt : i < n := by
        rcases Nat.lt_or_ge i n with r | r
        · exact r
        · rw [hg.1 i r] at e
          exact absurd e not_isB_neg
      obtain ⟨h1, h2, h3⟩ := skp_spec hg k (i + 1) (by omega) (by omega)
      exact ⟨by omega, h2, h3⟩
    · rw [if_neg e]
      exact ⟨Nat.le_refl _, hi, e⟩
theorem spL_spec {g : Nat → Int32} {n : Nat} (hg : gEnd g n) : ∀ (k i : Nat), i ≤ n → n - i < k → i ≤ spL g k i ∧ spL g k i ≤ n ∧ ¬ isL (g (spL g k i)) ∧ ∀ j, i ≤ j → j < spL g k i → isL (g j)
  | 0, i, _, h => absurd h (Nat.not_lt_zero _)
  | k + 1, i, hi, h => by
    unfold spL
    by_cases e : isL (g i)
    · rw [if_pos e]
      have hlt : i < n := by
        rcases Nat.lt_or_ge i n with r | r
        · exact r
        · rw [hg.1 i r] at e
          exact absurd e not_isL_neg
      obtain ⟨h1, h2, h3, h4⟩ := spL_spec hg k (i + 1) (by omega) (by omega)
      refine ⟨by omega, h2, h3, fun j a b => ?_⟩
      by_cases ej : j = i
      · rw [ej]; exact e
      · exact h4 j (by omega) b
    · rw [if_neg e]
      exact ⟨Nat.le_refl _, hi, e, fun j a b => by omega⟩
theorem spD_spec {g : Nat → Int32} {n : Nat} (hg : gEnd g n) : ∀ (k i : Nat), i ≤ n → n - i < k → i ≤ spD g k i ∧ spD g k i ≤ n ∧ ¬ isD (g (spD g k i)) ∧ ∀ j, i ≤ j → j < spD g k i → isD (g j)
  | 0, i, _, h => absurd h (Nat.not_lt_zero _)
  | k + 1, i, hi, h => by
    unfold spD
    by_cases e : isD (g i)
    · rw [if_pos e]
      have hlt : i < n := by
        rcases Nat.lt_or_ge i n with r | r
        · exact r
        · rw [hg.1 i r] at e
          exact absurd e not_isD_neg
      obtain ⟨h1, h2, h3, h4⟩ := spD_spec hg k (i + 1) (by omega) (by omega)
      refine ⟨by omega, h2, h3, fun j a b => ?_⟩
      by_cases ej : j = i
      · rw [ej]; exact e
      · exact h4 j (by omega) b
    · rw [if_neg e]
      exact ⟨Nat.le_refl _, hi, e, fun j a b => by omega⟩
/-- letter i of the word that stands at q .. e less 1; 0 behind it -/
def l8 (g : Nat → Int32) (q e i : Nat) : Int32 := if q + i < e then g (q + i) else 0
abbrev wd (g : Nat → Int32) (q e : Nat) (a b c d x y z w : Int32) : Prop := e ≤ q + 8 ∧ l8 g q e 0 = a ∧ l8 g q e 1 = b ∧ l8 g q e 2 = c ∧ l8 g q e 3 = d ∧ l8 g q e 4 = x ∧ l8 g q e 5 = y ∧ l8 g q e 6 = z ∧ l8 g q e 7 = w
/-- a word's sort (3: a name; 301 .. 306: gains, mild, most, or, and, not; 1: none such), and of a name which (-1 less its place) -/
def wS (g : Nat → Int32) (q e : Nat) : Int32 × Int32 :=
  if wd g q e 99 111 108 100 0 0 0 0 then (3, -1)
  else if wd g q e 110 105 103 104 116 0 0 0 then (3, -2)
  else if wd g q e 110 117 109 98 101 114 0 0 then (3, -3)
  else if wd g q e 114 117 110 0 0 0 0 0 then (3, -4)
  else if wd g q e 116 111 119 110 0 0 0 0 then (3, -5)
  else if wd g q e 117 115 101 114 115 0 0 0 then (3, -6)
  else if wd g q e 103 97 105 110 115 0 0 0 then (301, 0)
  else if wd g q e 109 105 108 100 0 0 0 0 then (302, 0)
  else if wd g q e 109 111 115 116 0 0 0 0 then (303, 0)
  else if wd g q e 111 114 0 0 0 0 0 0 then (304, 0)
  else if wd g q e 97 110 100 0 0 0 0 0 then (305, 0)
  else if wd g q e 110 111 116 0 0 0 0 0 then (306, 0)
  else (1, 0)
def nvI (g : Nat → Int32) (q : Nat) : Nat → Int32
  | 0 => 0
  | k + 1 => nvI g q k * 10 + g (q + k) - 48
def nvL (g : Nat → Int32) (q : Nat) : Nat → Int64
  | 0 => 0
  | k + 1 => 10 * nvL g q k + (g (q + k)).toInt64 - 48
theorem nvL_I (g : Nat → Int32) (q : Nat) : ∀ k, (nvL g q k).toInt32 = nvI g q k
  | 0 => rfl
  | k + 1 => by
    unfold nvL nvI
    rw [Int64.toInt32_sub, Int64.toInt32_add, Int64.toInt32_mul, nvL_I g q k, Int32.toInt32_toInt64, Int32.mul_comm]
    rfl
/-- the token at q: its sort as above (0: the end, 1: none, 2: a number, a sign its own byte), its value, the place behind it -/
def tokS (g : Nat → Int32) (q : Nat) : Int32 :=
  if g q < 0 then 0 else if isL (g q) then (wS g q (spL g 200 q)).1 else if isD (g q) then (if spD g 200 q - q ≤ 4 then 2 else 1) else if isS (g q) then g q else 1
def tokV (g : Nat → Int32) (q : Nat) : Int32 :=
  if g q < 0 then 0 else if isL (g q) then (wS g q (spL g 200 q)).2 else if isD (g q) then (if spD g 200 q - q ≤ 4 then nvI g q (spD g 200 q - q) else 0) else 0
def tokE (g : Nat → Int32) (q : Nat) : Nat :=
  if g q < 0 then q else if isL (g q) then spL g 200 q else if isD (g q) then spD g 200 q else q + 1
/-- where token a begins -/
def lxS (g : Nat → Int32) : Nat → Nat
  | 0 => skp g 200 0
  | a + 1 => skp g 200 (tokE g (lxS g a))
theorem tokE_le {g : Nat → Int32} {n q : Nat} (hg : gEnd g n) (hq : q ≤ n) : q ≤ tokE g q ∧ tokE g q ≤ n ∧ (q < n → q < tokE g q) := by
  have hn := hg.2.2
  unfold tokE
  by_cases h0 : g q < 0
  · rw [if_pos h0]
    have := hg.neg.mp h0
    exact ⟨Nat.le_refl _, hq, fun h => by omega⟩
  · have hlt : q < n := by
      rcases Nat.lt_or_ge q n with r | r
      · exact r
      · exact absurd (hg.neg.mpr r) h0
    rw [if_neg h0]
    by_cases h1 : isL (g q)
    · rw [if_pos h1]
      obtain ⟨a, b, c, d⟩ := spL_spec hg 200 q hq (by omega)
      refine ⟨a, b, fun _ => ?_⟩
      rcases Nat.lt_or_ge q (spL g 200 q) with r | r
      · exact r
      · have e : spL g 200 q = q := by omega
        rw [e] at c
        exact absurd h1 c
    · rw [if_neg h1]
      by_cases h2 : isD (g q)
      · rw [if_pos h2]
        obtain ⟨a, b, c, d⟩ := spD_spec hg 200 q hq (by omega)
        refine ⟨a, b, fun _ => ?_⟩
        rcases Nat.lt_or_ge q (spD g 200 q) with r | r
        · exact r
        · have e : spD g 200 q = q := by omega
          rw [e] at c
          exact absurd h2 c
      · rw [if_neg h2]
        omega
theorem lxS_le {g : Nat → Int32} {n : Nat} (hg : gEnd g n) : ∀ a, lxS g a ≤ n ∧ ¬ isB (g (lxS g a))
  | 0 => by
    have := skp_spec hg 200 0 (Nat.zero_le _) (by have := hg.2.2; omega)
    exact ⟨this.2.1, this.2.2⟩
  | a + 1 => by
    have hn := hg.2.2
    have h1 := (lxS_le hg a).1
    have h2 := (tokE_le hg h1).2.1
    have := skp_spec hg 200 (tokE g (lxS g a)) h2 (by omega)
    exact ⟨this.2.1, this.2.2⟩
theorem lxS_step {g : Nat → Int32} {n : Nat} (hg : gEnd g n) (a : Nat) : lxS g a ≤ lxS g (a + 1) ∧ (lxS g a < n → lxS g a < lxS g (a + 1)) := by
  have hn := hg.2.2
  have h1 := (lxS_le hg a).1
  have h2 := tokE_le hg h1
  have h3 := skp_spec hg 200 (tokE g (lxS g a)) h2.2.1 (by omega)
  show lxS g a ≤ skp g 200 (tokE g (lxS g a)) ∧ _
  refine ⟨by omega, fun h => ?_⟩
  have := h2.2.2 h
  show lxS g a < skp g 200 (tokE g (lxS g a))
  omega
/-- before the end each token stands at least one byte on -/
theorem lxS_ge {g : Nat → Int32} {n : Nat} (hg : gEnd g n) : ∀ a, lxS g a < n → a ≤ lxS g a
  | 0, _ => Nat.zero_le _
  | a + 1, h => by
    have h1 := lxS_step hg a
    rcases Nat.lt_or_ge (lxS g a) n with r | r
    · have := lxS_ge hg a r
      have := h1.2 r
      omega
    · have := h1.1
      omega
theorem tokS_end {g : Nat → Int32} {n q : Nat} (hg : gEnd g n) (h : n ≤ q) : tokS g q = 0 := by
  unfold tokS
  rw [if_pos (hg.neg.mpr h)]
/-- a token that isn't the end: its number is below n -/
theorem lxS_lt {g : Nat → Int32} {n a : Nat} (hg : gEnd g n) (h : tokS g (lxS g a) ≠ 0) : lxS g a < n ∧ a < n := by
  have h1 : lxS g a < n := by
    rcases Nat.lt_or_ge (lxS g a) n with r | r
    · exact r
    · exact absurd (tokS_end hg r) h
  have := lxS_ge hg a h1
  exact ⟨h1, by omega⟩
