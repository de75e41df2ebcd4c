/-! the reference: where its reader stands, in the words of the tokens' numbers -/
def MS (τ0 : St) (t n d a : Nat) (τ : St) : Prop := pkx pS τ0 τ ∧ τ.1 0 25 = 0 ∧ τ.1 0 24 = nI d ∧ AtT τ0 τ t n (lxS (gM τ0 t n) a)
def MB (τ0 : St) (t n f : Nat) (τ : St) : Prop := pkx pS τ0 τ ∧ τ.1 0 25 = 1 ∧ τ.1 0 26 = nI (lxS (gM τ0 t n) f)
abbrev tT (τ0 : St) (t n a : Nat) : Int32 := tokS (gM τ0 t n) (lxS (gM τ0 t n) a)
abbrev tV (τ0 : St) (t n a : Nat) : Int32 := tokV (gM τ0 t n) (lxS (gM τ0 t n) a)
def RB (τ0 : St) (t n : Nat) : Prop := PT τ0 t n ∧ gEnd (gM τ0 t n) n
def eM (τ0 : St) (i : Nat) : Int32 := if i < 6 then τ0.1 0 (12 + i) else 0
theorem eM_pk {ks : List Nat} {τ τ' : St} (h : pkx ks τ τ') (hk : 12 ∉ ks ∧ 13 ∉ ks ∧ 14 ∉ ks ∧ 15 ∉ ks ∧ 16 ∉ ks ∧ 17 ∉ ks) : eM τ' = eM τ := by
  funext i
  unfold eM
  by_cases hi : i < 6
  · rw [if_pos hi, if_pos hi]
    obtain ⟨h0, h1, h2, h3, h4, h5⟩ := hk
    rcases (show i = 0 ∨ i = 1 ∨ i = 2 ∨ i = 3 ∨ i = 4 ∨ i = 5 by omega) with rfl | rfl | rfl | rfl | rfl | rfl
    · exact h.2.1 _ h0
    · exact h.2.1 _ h1
    · exact h.2.1 _ h2
    · exact h.2.1 _ h3
    · exact h.2.1 _ h4
    · exact h.2.1 _ h5
  · rw [if_neg hi, if_neg hi]
theorem wS_cases (g : Nat → Int32) (q e : Nat) : (wS g q e).1 = 3 ∧ -6 ≤ (wS g q e).2.toInt ∨ ((wS g q e).1 = 301 ∨ (wS g q e).1 = 302 ∨ (wS g q e).1 = 303 ∨ (wS g q e).1 = 304 ∨ (wS g q e).1 = 305 ∨ (wS g q e).1 = 306 ∨ (wS g q e).1 = 1) ∧ (wS g q e).2 = 0 := by
  unfold wS
  by_cases h0 : wd g q e 99 111 108 100 0 0 0 0
  · rw [if_pos h0]; exact Or.inl ⟨rfl, by decide⟩
  rw [if_neg h0]
  by_cases h1 : wd g q e 110 105 103 104 116 0 0 0
  · rw [if_pos h1]; exact Or.inl ⟨rfl, by decide⟩
  rw [if_neg h1]
  by_cases h2 : wd g q e 110 117 109 98 101 114 0 0
  · rw [if_pos h2]; exact Or.inl ⟨rfl, by decide⟩
  rw [if_neg h2]
  by_cases h3 : wd g q e 114 117 110 0 0 0 0 0
  · rw [if_pos h3]; exact Or.inl ⟨rfl, by decide⟩
  rw [if_neg h3]
  by_cases h4 : wd g q e 116 111 119 110 0 0 0 0
  · rw [if_pos h4]; exact Or.inl ⟨rfl, by decide⟩
  rw [if_neg h4]
  by_cases h5 : wd g q e 117 115 101 114 115 0 0 0
  · rw [if_pos h5]; exact Or.inl ⟨rfl, by decide⟩
  rw [if_neg h5]
  by_cases h6 : wd g q e 103 97 105 110 115 0 0 0
  · rw [if_pos h6]; exact Or.inr ⟨Or.inl rfl, rfl⟩
  rw [if_neg h6]
  by_cases h7 : wd g q e 109 105 108 100 0 0 0 0
  · rw [if_pos h7]; exact Or.inr ⟨Or.inr (Or.inl rfl), rfl⟩
  rw [if_neg h7]
  by_cases h8 : wd g q e 109 111 115 116 0 0 0 0
  · rw [if_pos h8]; exact Or.inr ⟨Or.inr (Or.inr (Or.inl rfl)), rfl⟩
  rw [if_neg h8]
  by_cases h9 : wd g q e 111 114 0 0 0 0 0 0
  · rw [if_pos h9]; exact Or.inr ⟨Or.inr (Or.inr (Or.inr (Or.inl rfl))), rfl⟩
  rw [if_neg h9]
  by_cases h10 : wd g q e 97 110 100 0 0 0 0 0
  · rw [if_pos h10]; exact Or.inr ⟨Or.inr (Or.inr (Or.inr (Or.inr (Or.inl rfl)))), rfl⟩
  rw [if_neg h10]
  by_cases h11 : wd g q e 110 111 116 0 0 0 0 0
  · rw [if_pos h11]; exact Or.inr ⟨Or.inr (Or.inr (Or.inr (Or.inr (Or.inr (Or.inl rfl))))), rfl⟩
  rw [if_neg h11]
  exact Or.inr ⟨Or.inr (Or.inr (Or.inr (Or.inr (Or.inr (Or.inr rfl))))), rfl⟩
theorem wS_gains {g : Nat → Int32} {q e : Nat} : (wS g q e).1 = 301 ↔ wd g q e 103 97 105 110 115 0 0 0 := by
  unfold wS
  constructor
  · intro h
    by_cases h0 : wd g q e 99 111 108 100 0 0 0 0
    · rw [if_pos h0] at h; exact absurd h (by decide)
    rw [if_neg h0] at h
    by_cases h1 : wd g q e 110 105 103 104 116 0 0 0
    · rw [if_pos h1] at h; exact absurd h (by decide)
    rw [if_neg h1] at h
    by_cases h2 : wd g q e 110 117 109 98 101 114 0 0
    · rw [if_pos h2] at h; exact absurd h (by decide)
    rw [if_neg h2] at h
    by_cases h3 : wd g q e 114 117 110 0 0 0 0 0
    · rw [if_pos h3] at h; exact absurd h (by decide)
    rw [if_neg h3] at h
    by_cases h4 : wd g q e 116 111 119 110 0 0 0 0
    · rw [if_pos h4] at h; exact absurd h (by decide)
    rw [if_neg h4] at h
    by_cases h5 : wd g q e 117 115 101 114 115 0 0 0
    · rw [if_pos h5] at h; exact absurd h (by decide)
    rw [if_neg h5] at h
    by_cases h6 : wd g q e 103 97 105 110 115 0 0 0
    · rw [if_pos h6] at h; exact h6
    rw [if_neg h6] at h
    by_cases h7 : wd g q e 109 105 108 100 0 0 0 0
    · rw [if_pos h7] at h; exact absurd h (by decide)
    rw [if_neg h7] at h
    by_cases h8 : wd g q e 109 111 115 116 0 0 0 0
    · rw [if_pos h8] at h; exact absurd h (by decide)
    rw [if_neg h8] at h
    by_cases h9 : wd g q e 111 114 0 0 0 0 0 0
    · rw [if_pos h9] at h; exact absurd h (by decide)
    rw [if_neg h9] at h
    by_cases h10 : wd g q e 97 110 100 0 0 0 0 0
    · rw [if_pos h10] at h; exact absurd h (by decide)
    rw [if_neg h10] at h
    by_cases h11 : wd g q e 110 111 116 0 0 0 0 0
    · rw [if_pos h11] at h; exact absurd h (by decide)
    rw [if_neg h11] at h
    exact absurd h (by decide)
  · intro h
    rw [if_neg (fun z => absurd (z.2.1.symm.trans h.2.1) (by decide)), if_neg (fun z => absurd (z.2.1.symm.trans h.2.1) (by decide)), if_neg (fun z => absurd (z.2.1.symm.trans h.2.1) (by decide)), if_neg (fun z => absurd (z.2.1.symm.trans h.2.1) (by decide)), if_neg (fun z => absurd (z.2.1.symm.trans h.2.1) (by decide)), if_neg (fun z => absurd (z.2.1.symm.trans h.2.1) (by decide)), if_pos h]
theorem wS_mild {g : Nat → Int32} {q e : Nat} : (wS g q e).1 = 302 ↔ wd g q e 109 105 108 100 0 0 0 0 := by
  unfold wS
  constructor
  · intro h
    by_cases h0 : wd g q e 99 111 108 100 0 0 0 0
    · rw [if_pos h0] at h; exact absurd h (by decide)
    rw [if_neg h0] at h
    by_cases h1 : wd g q e 110 105 103 104 116 0 0 0
    · rw [if_pos h1] at h; exact absurd h (by decide)
    rw [if_neg h1] at h
    by_cases h2 : wd g q e 110 117 109 98 101 114 0 0
    · rw [if_pos h2] at h; exact absurd h (by decide)
    rw [if_neg h2] at h
    by_cases h3 : wd g q e 114 117 110 0 0 0 0 0
    · rw [if_pos h3] at h; exact absurd h (by decide)
    rw [if_neg h3] at h
    by_cases h4 : wd g q e 116 111 119 110 0 0 0 0
    · rw [if_pos h4] at h; exact absurd h (by decide)
    rw [if_neg h4] at h
    by_cases h5 : wd g q e 117 115 101 114 115 0 0 0
    · rw [if_pos h5] at h; exact absurd h (by decide)
    rw [if_neg h5] at h
    by_cases h6 : wd g q e 103 97 105 110 115 0 0 0
    · rw [if_pos h6] at h; exact absurd h (by decide)
    rw [if_neg h6] at h
    by_cases h7 : wd g q e 109 105 108 100 0 0 0 0
    · rw [if_pos h7] at h; exact h7
    rw [if_neg h7] at h
    by_cases h8 : wd g q e 109 111 115 116 0 0 0 0
    · rw [if_pos h8] at h; exact absurd h (by decide)
    rw [if_neg h8] at h
    by_cases h9 : wd g q e 111 114 0 0 0 0 0 0
    · rw [if_pos h9] at h; exact absurd h (by decide)
    rw [if_neg h9] at h
    by_cases h10 : wd g q e 97 110 100 0 0 0 0 0
    · rw [if_pos h10] at h; exact absurd h (by decide)
    rw [if_neg h10] at h
    by_cases h11 : wd g q e 110 111 116 0 0 0 0 0
    · rw [if_pos h11] at h; exact absurd h (by decide)
    rw [if_neg h11] at h
    exact absurd h (by decide)
  · intro h
    rw [if_neg (fun z => absurd (z.2.1.symm.trans h.2.1) (by decide)), if_neg (fun z => absurd (z.2.1.symm.trans h.2.1) (by decide)), if_neg (fun z => absurd (z.2.1.symm.trans h.2.1) (by decide)), if_neg (fun z => absurd (z.2.1.symm.trans h.2.1) (by decide)), if_neg (fun z => absurd (z.2.1.symm.trans h.2.1) (by decide)), if_neg (fun z => absurd (z.2.1.symm.trans h.2.1) (by decide)), if_neg (fun z => absurd (z.2.1.symm.trans h.2.1) (by decide)), if_pos h]
theorem wS_most {g : Nat → Int32} {q e : Nat} : (wS g q e).1 = 303 ↔ wd g q e 109 111 115 116 0 0 0 0 := by
  unfold wS
  constructor
  · intro h
    by_cases h0 : wd g q e 99 111 108 100 0 0 0 0
    · rw [if_pos h0] at h; exact absurd h (by decide)
    rw [if_neg h0] at h
    by_cases h1 : wd g q e 110 105 103 104 116 0 0 0
    · rw [if_pos h1] at h; exact absurd h (by decide)
    rw [if_neg h1] at h
    by_cases h2 : wd g q e 110 117 109 98 101 114 0 0
    · rw [if_pos h2] at h; exact absurd h (by decide)
    rw [if_neg h2] at h
    by_cases h3 : wd g q e 114 117 110 0 0 0 0 0
    · rw [if_pos h3] at h; exact absurd h (by decide)
    rw [if_neg h3] at h
    by_cases h4 : wd g q e 116 111 119 110 0 0 0 0
    · rw [if_pos h4] at h; exact absurd h (by decide)
    rw [if_neg h4] at h
    by_cases h5 : wd g q e 117 115 101 114 115 0 0 0
    · rw [if_pos h5] at h; exact absurd h (by decide)
    rw [if_neg h5] at h
    by_cases h6 : wd g q e 103 97 105 110 115 0 0 0
    · rw [if_pos h6] at h; exact absurd h (by decide)
    rw [if_neg h6] at h
    by_cases h7 : wd g q e 109 105 108 100 0 0 0 0
    · rw [if_pos h7] at h; exact absurd h (by decide)
    rw [if_neg h7] at h
    by_cases h8 : wd g q e 109 111 115 116 0 0 0 0
    · rw [if_pos h8] at h; exact h8
    rw [if_neg h8] at h
    by_cases h9 : wd g q e 111 114 0 0 0 0 0 0
    · rw [if_pos h9] at h; exact absurd h (by decide)
    rw [if_neg h9] at h
    by_cases h10 : wd g q e 97 110 100 0 0 0 0 0
    · rw [if_pos h10] at h; exact absurd h (by decide)
    rw [if_neg h10] at h
    by_cases h11 : wd g q e 110 111 116 0 0 0 0 0
    · rw [if_pos h11] at h; exact absurd h (by decide)
    rw [if_neg h11] at h
    exact absurd h (by decide)
  · intro h
    rw [if_neg (fun z => absurd (z.2.1.symm.trans h.2.1) (by decide)), if_neg (fun z => absurd (z.2.1.symm.trans h.2.1) (by decide)), if_neg (fun z => absurd (z.2.1.symm.trans h.2.1) (by decide)), if_neg (fun z => absurd (z.2.1.symm.trans h.2.1) (by decide)), if_neg (fun z => absurd (z.2.1.symm.trans h.2.1) (by decide)), if_neg (fun z => absurd (z.2.1.symm.trans h.2.1) (by decide)), if_neg (fun z => absurd (z.2.1.symm.trans h.2.1) (by decide)), if_neg (fun z => absurd (z.2.2.1.symm.trans h.2.2.1) (by decide)), if_pos h]
theorem wS_or {g : Nat → Int32} {q e : Nat} : (wS g q e).1 = 304 ↔ wd g q e 111 114 0 0 0 0 0 0 := by
  unfold wS
  constructor
  · intro h
    by_cases h0 : wd g q e 99 111 108 100 0 0 0 0
    · rw [if_pos h0] at h; exact absurd h (by decide)
    rw [if_neg h0] at h
    by_cases h1 : wd g q e 110 105 103 104 116 0 0 0
    · rw [if_pos h1] at h; exact absurd h (by decide)
    rw [if_neg h1] at h
    by_cases h2 : wd g q e 110 117 109 98 101 114 0 0
    · rw [if_pos h2] at h; exact absurd h (by decide)
    rw [if_neg h2] at h
    by_cases h3 : wd g q e 114 117 110 0 0 0 0 0
    · rw [if_pos h3] at h; exact absurd h (by decide)
    rw [if_neg h3] at h
    by_cases h4 : wd g q e 116 111 119 110 0 0 0 0
    · rw [if_pos h4] at h; exact absurd h (by decide)
    rw [if_neg h4] at h
    by_cases h5 : wd g q e 117 115 101 114 115 0 0 0
    · rw [if_pos h5] at h; exact absurd h (by decide)
    rw [if_neg h5] at h
    by_cases h6 : wd g q e 103 97 105 110 115 0 0 0
    · rw [if_pos h6] at h; exact absurd h (by decide)
    rw [if_neg h6] at h
    by_cases h7 : wd g q e 109 105 108 100 0 0 0 0
    · rw [if_pos h7] at h; exact absurd h (by decide)
    rw [if_neg h7] at h
    by_cases h8 : wd g q e 109 111 115 116 0 0 0 0
    · rw [if_pos h8] at h; exact absurd h (by decide)
    rw [if_neg h8] at h
    by_cases h9 : wd g q e 111 114 0 0 0 0 0 0
    · rw [if_pos h9] at h; exact h9
    rw [if_neg h9] at h
    by_cases h10 : wd g q e 97 110 100 0 0 0 0 0
    · rw [if_pos h10] at h; exact absurd h (by decide)
    rw [if_neg h10] at h
    by_cases h11 : wd g q e 110 111 116 0 0 0 0 0
    · rw [if_pos h11] at h; exact absurd h (by decide)
    rw [if_neg h11] at h
    exact absurd h (by decide)
  · intro h
    rw [if_neg (fun z => absurd (z.2.1.symm.trans h.2.1) (by decide)), if_neg (fun z => absurd (z.2.1.symm.trans h.2.1) (by decide)), if_neg (fun z => absurd (z.2.1.symm.trans h.2.1) (by decide)), if_neg (fun z => absurd (z.2.1.symm.trans h.2.1) (by decide)), if_neg (fun z => absurd (z.2.1.symm.trans h.2.1) (by decide)), if_neg (fun z => absurd (z.2.1.symm.trans h.2.1) (by decide)), if_neg (fun z => absurd (z.2.1.symm.trans h.2.1) (by decide)), if_neg (fun z => absurd (z.2.1.symm.trans h.2.1) (by decide)), if_neg (fun z => absurd (z.2.1.symm.trans h.2.1) (by decide)), if_pos h]
theorem wS_and {g : Nat → Int32} {q e : Nat} : (wS g q e).1 = 305 ↔ wd g q e 97 110 100 0 0 0 0 0 := by
  unfold wS
  constructor
  · intro h
    by_cases h0 : wd g q e 99 111 108 100 0 0 0 0
    · rw [if_pos h0] at h; exact absurd h (by decide)
    rw [if_neg h0] at h
    by_cases h1 : wd g q e 110 105 103 104 116 0 0 0
    · rw [if_pos h1] at h; exact absurd h (by decide)
    rw [if_neg h1] at h
    by_cases h2 : wd g q e 110 117 109 98 101 114 0 0
    · rw [if_pos h2] at h; exact absurd h (by decide)
    rw [if_neg h2] at h
    by_cases h3 : wd g q e 114 117 110 0 0 0 0 0
    · rw [if_pos h3] at h; exact absurd h (by decide)
    rw [if_neg h3] at h
    by_cases h4 : wd g q e 116 111 119 110 0 0 0 0
    · rw [if_pos h4] at h; exact absurd h (by decide)
    rw [if_neg h4] at h
    by_cases h5 : wd g q e 117 115 101 114 115 0 0 0
    · rw [if_pos h5] at h; exact absurd h (by decide)
    rw [if_neg h5] at h
    by_cases h6 : wd g q e 103 97 105 110 115 0 0 0
    · rw [if_pos h6] at h; exact absurd h (by decide)
    rw [if_neg h6] at h
    by_cases h7 : wd g q e 109 105 108 100 0 0 0 0
    · rw [if_pos h7] at h; exact absurd h (by decide)
    rw [if_neg h7] at h
    by_cases h8 : wd g q e 109 111 115 116 0 0 0 0
    · rw [if_pos h8] at h; exact absurd h (by decide)
    rw [if_neg h8] at h
    by_cases h9 : wd g q e 111 114 0 0 0 0 0 0
    · rw [if_pos h9] at h; exact absurd h (by decide)
    rw [if_neg h9] at h
    by_cases h10 : wd g q e 97 110 100 0 0 0 0 0
    · rw [if_pos h10] at h; exact h10
    rw [if_neg h10] at h
    by_cases h11 : wd g q e 110 111 116 0 0 0 0 0
    · rw [if_pos h11] at h; exact absurd h (by decide)
    rw [if_neg h11] at h
    exact absurd h (by decide)
  · intro h
    rw [if_neg (fun z => absurd (z.2.1.symm.trans h.2.1) (by decide)), if_neg (fun z => absurd (z.2.1.symm.trans h.2.1) (by decide)), if_neg (fun z => absurd (z.2.1.symm.trans h.2.1) (by decide)), if_neg (fun z => absurd (z.2.1.symm.trans h.2.1) (by decide)), if_neg (fun z => absurd (z.2.1.symm.trans h.2.1) (by decide)), if_neg (fun z => absurd (z.2.1.symm.trans h.2.1) (by decide)), if_neg (fun z => absurd (z.2.1.symm.trans h.2.1) (by decide)), if_neg (fun z => absurd (z.2.1.symm.trans h.2.1) (by decide)), if_neg (fun z => absurd (z.2.1.symm.trans h.2.1) (by decide)), if_neg (fun z => absurd (z.2.1.symm.trans h.2.1) (by decide)), if_pos h]
theorem wS_not {g : Nat → Int32} {q e : Nat} : (wS g q e).1 = 306 ↔ wd g q e 110 111 116 0 0 0 0 0 := by
  unfold wS
  constructor
  · intro h
    by_cases h0 : wd g q e 99 111 108 100 0 0 0 0
    · rw [if_pos h0] at h; exact absurd h (by decide)
    rw [if_neg h0] at h
    by_cases h1 : wd g q e 110 105 103 104 116 0 0 0
    · rw [if_pos h1] at h; exact absurd h (by decide)
    rw [if_neg h1] at h
    by_cases h2 : wd g q e 110 117 109 98 101 114 0 0
    · rw [if_pos h2] at h; exact absurd h (by decide)
    rw [if_neg h2] at h
    by_cases h3 : wd g q e 114 117 110 0 0 0 0 0
    · rw [if_pos h3] at h; exact absurd h (by decide)
    rw [if_neg h3] at h
    by_cases h4 : wd g q e 116 111 119 110 0 0 0 0
    · rw [if_pos h4] at h; exact absurd h (by decide)
    rw [if_neg h4] at h
    by_cases h5 : wd g q e 117 115 101 114 115 0 0 0
    · rw [if_pos h5] at h; exact absurd h (by decide)
    rw [if_neg h5] at h
    by_cases h6 : wd g q e 103 97 105 110 115 0 0 0
    · rw [if_pos h6] at h; exact absurd h (by decide)
    rw [if_neg h6] at h
    by_cases h7 : wd g q e 109 105 108 100 0 0 0 0
    · rw [if_pos h7] at h; exact absurd h (by decide)
    rw [if_neg h7] at h
    by_cases h8 : wd g q e 109 111 115 116 0 0 0 0
    · rw [if_pos h8] at h; exact absurd h (by decide)
    rw [if_neg h8] at h
    by_cases h9 : wd g q e 111 114 0 0 0 0 0 0
    · rw [if_pos h9] at h; exact absurd h (by decide)
    rw [if_neg h9] at h
    by_cases h10 : wd g q e 97 110 100 0 0 0 0 0
    · rw [if_pos h10] at h; exact absurd h (by decide)
    rw [if_neg h10] at h
    by_cases h11 : wd g q e 110 111 116 0 0 0 0 0
    · rw [if_pos h11] at h; exact h11
    rw [if_neg h11] at h
    exact absurd h (by decide)
  · intro h
    rw [if_neg (fun z => absurd (z.2.1.symm.trans h.2.1) (by decide)), if_neg (fun z => absurd (z.2.2.1.symm.trans h.2.2.1) (by decide)), if_neg (fun z => absurd (z.2.2.1.symm.trans h.2.2.1) (by decide)), if_neg (fun z => absurd (z.2.1.symm.trans h.2.1) (by decide)), if_neg (fun z => absurd (z.2.1.symm.trans h.2.1) (by decide)), if_neg (fun z => absurd (z.2.1.symm.trans h.2.1) (by decide)), if_neg (fun z => absurd (z.2.1.symm.trans h.2.1) (by decide)), if_neg (fun z => absurd (z.2.1.symm.trans h.2.1) (by decide)), if_neg (fun z => absurd (z.2.1.symm.trans h.2.1) (by decide)), if_neg (fun z => absurd (z.2.1.symm.trans h.2.1) (by decide)), if_neg (fun z => absurd (z.2.1.symm.trans h.2.1) (by decide)), if_pos h]
/-- what is read off the token at hand -/
theorem AtT.sgn {τ0 τ : St} {t n q : Nat} {s : Int32} (hA : AtT τ0 τ t n q) (hs : isS s) : (τ.1 0 21 = 3 ∧ τ.2.1 = s.toInt64) ↔ tokS (gM τ0 t n) q = s := by
  have hs0 : s ≠ 0 ∧ s ≠ 1 ∧ s ≠ 2 ∧ s ≠ 3 ∧ s ≠ 301 ∧ s ≠ 302 ∧ s ≠ 303 ∧ s ≠ 304 ∧ s ≠ 305 ∧ s ≠ 306 := by
    rcases hs with rfl | rfl | rfl | rfl | rfl | rfl | rfl | rfl <;> decide
  obtain ⟨z0, z1, z2, z3, z4, z5, z6, z7, z8, z9⟩ := hs0
  obtain ⟨-, -, h | h | h | h | h⟩ := hA
  · obtain ⟨h1, h2⟩ := h
    unfold tokS
    rw [if_pos h1, h2]
    exact ⟨fun z => absurd z.1 (by decide), fun z => absurd z.symm z0⟩
  · obtain ⟨h0, h1, h2, -⟩ := h
    unfold tokS
    rw [if_neg h0, if_pos h1, h2]
    refine ⟨fun z => absurd z.1 (by decide), fun z => ?_⟩
    rcases wS_cases (gM τ0 t n) q (spL (gM τ0 t n) 200 q) with ⟨w, -⟩ | ⟨w | w | w | w | w | w | w, -⟩ <;> rw [w] at z
    · exact absurd z.symm z3
    · exact absurd z.symm z4
    · exact absurd z.symm z5
    · exact absurd z.symm z6
    · exact absurd z.symm z7
    · exact absurd z.symm z8
    · exact absurd z.symm z9
    · exact absurd z.symm z1
  · obtain ⟨h0, h1, h2, -, h3⟩ := h
    unfold tokS
    rw [if_neg h0, if_neg h1, if_pos h2]
    rcases h3 with ⟨a, b, -⟩ | ⟨a, b⟩
    · rw [if_pos a, b]
      exact ⟨fun z => absurd z.1 (by decide), fun z => absurd z.symm z2⟩
    · rw [if_neg (by omega), b]
      exact ⟨fun z => absurd z.1 (by decide), fun z => absurd z.symm z1⟩
  · obtain ⟨h0, h1, h2, h3, h4, h5, -⟩ := h
    unfold tokS
    rw [if_neg h0, if_neg h1, if_neg h2, if_pos h3, h4, h5]
    refine ⟨fun z => ?_, fun z => ⟨rfl, by rw [z]⟩⟩
    have := congrArg Int64.toInt z.2
    rw [i_long, i_long] at this
    exact i_eq.mpr this
  · obtain ⟨h0, h1, h2, h3, h4⟩ := h
    unfold tokS
    rw [if_neg h0, if_neg h1, if_neg h2, if_neg h3, h4]
    exact ⟨fun z => absurd z.1 (by decide), fun z => absurd z.symm z1⟩
theorem AtT.key {τ0 τ : St} {t n q : Nat} {c : Int32} (hA : AtT τ0 τ t n q) (hc : c = 301 ∨ c = 302 ∨ c = 303 ∨ c = 304 ∨ c = 305 ∨ c = 306) : (τ.1 0 21 = 1 ∧ (wS (gM τ0 t n) q (spL (gM τ0 t n) 200 q)).1 = c) ↔ tokS (gM τ0 t n) q = c := by
  have hc0 : c ≠ 0 ∧ c ≠ 1 ∧ c ≠ 2 ∧ c ≠ 40 ∧ c ≠ 41 ∧ c ≠ 59 ∧ c ≠ 43 ∧ c ≠ 45 ∧ c ≠ 42 ∧ c ≠ 60 ∧ c ≠ 61 := by
    rcases hc with rfl | rfl | rfl | rfl | rfl | rfl <;> decide
  obtain ⟨z0, z1, z2, z3, z4, z5, z6, z7, z8, z9, z10⟩ := hc0
  obtain ⟨-, -, h | h | h | h | h⟩ := hA
  · obtain ⟨h1, h2⟩ := h
    unfold tokS
    rw [if_pos h1, h2]
    exact ⟨fun z => absurd z.1 (by decide), fun z => absurd z.symm z0⟩
  · obtain ⟨h0, h1, h2, -⟩ := h
    unfold tokS
    rw [if_neg h0, if_pos h1, h2]
    exact ⟨fun z => z.2, fun z => ⟨rfl, z⟩⟩
  · obtain ⟨h0, h1, h2, -, h3⟩ := h
    unfold tokS
    rw [if_neg h0, if_neg h1, if_pos h2]
    rcases h3 with ⟨a, b, -⟩ | ⟨a, b⟩
    · rw [if_pos a, b]
      exact ⟨fun z => absurd z.1 (by decide), fun z => absurd z.symm z2⟩
    · rw [if_neg (by omega), b]
      exact ⟨fun z => absurd z.1 (by decide), fun z => absurd z.symm z1⟩
  · obtain ⟨h0, h1, h2, h3, h4, h5, -⟩ := h
    unfold tokS
    rw [if_neg h0, if_neg h1, if_neg h2, if_pos h3, h4]
    refine ⟨fun z => absurd z.1 (by decide), fun z => ?_⟩
    rcases h3 with w | w | w | w | w | w | w | w <;> rw [w] at z
    · exact absurd z.symm z3
    · exact absurd z.symm z4
    · exact absurd z.symm z5
    · exact absurd z.symm z6
    · exact absurd z.symm z7
    · exact absurd z.symm z8
    · exact absurd z.symm z9
    · exact absurd z.symm z10
  · obtain ⟨h0, h1, h2, h3, h4⟩ := h
    unfold tokS
    rw [if_neg h0, if_neg h1, if_neg h2, if_neg h3, h4]
    exact ⟨fun z => absurd z.1 (by decide), fun z => absurd z.symm z1⟩
theorem isS_ne {s : Int32} (hs : isS s) : s ≠ 0 ∧ s ≠ 1 ∧ s ≠ 2 ∧ s ≠ 3 := by
  rcases hs with rfl | rfl | rfl | rfl | rfl | rfl | rfl | rfl <;> decide
/-- a token that may be gone over: where the next begins -/
theorem AtT.here {τ0 τ : St} {t n q : Nat} (hA : AtT τ0 τ t n q) (h0 : tokS (gM τ0 t n) q ≠ 0) (h1 : tokS (gM τ0 t n) q ≠ 1) : τ.1 0 20 = nI (tokE (gM τ0 t n) q) := by
  unfold tokS at h0 h1
  unfold tokE
  obtain ⟨-, -, h | h | h | h | h⟩ := hA
  · rw [if_pos h.1] at h0
    exact absurd rfl h0
  · rw [if_neg h.1, if_pos h.2.1]
    exact h.2.2.2
  · obtain ⟨a, b, c, d, e⟩ := h
    rw [if_neg a, if_neg b, if_pos c]
    exact d
  · obtain ⟨a, b, c, d, e, f, h⟩ := h
    rw [if_neg a, if_neg b, if_neg c]
    exact h
  · obtain ⟨a, b, c, d, e⟩ := h
    rw [if_neg a, if_neg b, if_neg c, if_neg d] at h1
    exact absurd rfl h1
theorem AtT.num {τ0 τ : St} {t n q : Nat} (hA : AtT τ0 τ t n q) : (τ.1 0 21 = 2 ↔ tokS (gM τ0 t n) q = 2) ∧ (τ.1 0 21 = 2 → τ.2.1.toInt32 = tokV (gM τ0 t n) q) := by
  unfold tokS tokV
  obtain ⟨-, -, h | h | h | h | h⟩ := hA
  · rw [if_pos h.1, h.2]
    exact ⟨⟨fun z => absurd z (by decide), fun z => absurd z (by decide)⟩, fun z => absurd z (by decide)⟩
  · rw [if_neg h.1, if_pos h.2.1, h.2.2.1]
    refine ⟨⟨fun z => absurd z (by decide), fun z => ?_⟩, fun z => absurd z (by decide)⟩
    rcases wS_cases (gM τ0 t n) q (spL (gM τ0 t n) 200 q) with ⟨w, -⟩ | ⟨w | w | w | w | w | w | w, -⟩ <;> rw [w] at z <;> exact absurd z (by decide)
  · obtain ⟨a, b, c, d, e⟩ := h
    rw [if_neg a, if_neg b, if_pos c, if_neg a, if_neg b, if_pos c]
    rcases e with ⟨e1, e2, e3⟩ | ⟨e1, e2⟩
    · rw [if_pos e1, if_pos e1, e2, e3]
      exact ⟨⟨fun _ => rfl, fun _ => rfl⟩, fun _ => nvL_I _ _ _⟩
    · rw [if_neg (by omega), e2]
      exact ⟨⟨fun z => absurd z (by decide), fun z => absurd z (by decide)⟩, fun z => absurd z (by decide)⟩
  · obtain ⟨a, b, c, d, e, f, h⟩ := h
    rw [if_neg a, if_neg b, if_neg c, if_pos d, e]
    exact ⟨⟨fun z => absurd z (by decide), fun z => absurd z (isS_ne d).2.2.1⟩, fun z => absurd z (by decide)⟩
  · obtain ⟨a, b, c, d, e⟩ := h
    rw [if_neg a, if_neg b, if_neg c, if_neg d, e]
    exact ⟨⟨fun z => absurd z (by decide), fun z => absurd z (by decide)⟩, fun z => absurd z (by decide)⟩
theorem AtT.wrd {τ0 τ : St} {t n q : Nat} (hA : AtT τ0 τ t n q) : (τ.1 0 21 = 1 ↔ isL (gM τ0 t n q)) ∧ (isL (gM τ0 t n q) → tokS (gM τ0 t n) q = (wS (gM τ0 t n) q (spL (gM τ0 t n) 200 q)).1 ∧ tokV (gM τ0 t n) q = (wS (gM τ0 t n) q (spL (gM τ0 t n) 200 q)).2 ∧ τ.1 0 20 = nI (spL (gM τ0 t n) 200 q)) ∧ (tokS (gM τ0 t n) q = 3 → isL (gM τ0 t n q)) := by
  unfold tokS tokV
  obtain ⟨-, -, h | h | h | h | h⟩ := hA
  · rw [if_pos h.1, h.2]
    have hl : ¬ isL (gM τ0 t n q) := fun z => by
      have h1 := i_lt.mp h.1
      have h2 := i_le.mp z.1
      have h3 : (97 : Int32).toInt = 97 := rfl
      have h4 : (0 : Int32).toInt = 0 := rfl
      omega
    exact ⟨⟨fun z => absurd z (by decide), fun z => absurd z hl⟩, fun z => absurd z hl, fun z => absurd z (by decide)⟩
  · rw [if_neg h.1, if_pos h.2.1, if_neg h.1, if_pos h.2.1, h.2.2.1]
    exact ⟨⟨fun _ => h.2.1, fun _ => rfl⟩, fun _ => ⟨rfl, rfl, h.2.2.2⟩, fun _ => h.2.1⟩
  · obtain ⟨a, b, c, d, e⟩ := h
    rw [if_neg a, if_neg b, if_pos c]
    rcases e with ⟨e1, e2, e3⟩ | ⟨e1, e2⟩
    · rw [if_pos e1, e2]
      exact ⟨⟨fun z => absurd z (by decide), fun z => absurd z b⟩, fun z => absurd z b, fun z => absurd z (by decide)⟩
    · rw [if_neg (by omega), e2]
      exact ⟨⟨fun z => absurd z (by decide), fun z => absurd z b⟩, fun z => absurd z b, fun z => absurd z (by decide)⟩
  · obtain ⟨a, b, c, d, e, f, h⟩ := h
    rw [if_neg a, if_neg b, if_neg c, if_pos d, e]
    exact ⟨⟨fun z => absurd z (by decide), fun z => absurd z b⟩, fun z => absurd z b, fun z => absurd z (isS_ne d).2.2.2⟩
  · obtain ⟨a, b, c, d, e⟩ := h
    rw [if_neg a, if_neg b, if_neg c, if_neg d, e]
    exact ⟨⟨fun z => absurd z (by decide), fun z => absurd z b⟩, fun z => absurd z b, fun z => absurd z (by decide)⟩
theorem AtT.end0 {τ0 τ : St} {t n q : Nat} (hA : AtT τ0 τ t n q) : τ.1 0 21 = 0 ↔ tokS (gM τ0 t n) q = 0 := by
  unfold tokS
  obtain ⟨-, -, h | h | h | h | h⟩ := hA
  · rw [if_pos h.1, h.2]
  · rw [if_neg h.1, if_pos h.2.1, h.2.2.1]
    refine ⟨fun z => absurd z (by decide), fun z => ?_⟩
    rcases wS_cases (gM τ0 t n) q (spL (gM τ0 t n) 200 q) with ⟨w, -⟩ | ⟨w | w | w | w | w | w | w, -⟩ <;> rw [w] at z <;> exact absurd z (by decide)
  · obtain ⟨a, b, c, d, e⟩ := h
    rw [if_neg a, if_neg b, if_pos c]
    rcases e with ⟨e1, e2, e3⟩ | ⟨e1, e2⟩
    · rw [if_pos e1, e2]
    · rw [if_neg (by omega), e2]
      exact ⟨fun z => absurd z (by decide), fun z => absurd z (by decide)⟩
  · obtain ⟨a, b, c, d, e, f, h⟩ := h
    rw [if_neg a, if_neg b, if_neg c, if_pos d, e]
    exact ⟨fun z => absurd z (by decide), fun z => absurd z (isS_ne d).1⟩
  · obtain ⟨a, b, c, d, e⟩ := h
    rw [if_neg a, if_neg b, if_neg c, if_neg d, e]
    exact ⟨fun z => absurd z (by decide), fun z => absurd z (by decide)⟩
theorem nvI_bd {g : Nat → Int32} {q : Nat} : ∀ k, k ≤ 4 → (∀ j, q ≤ j → j < q + k → isD (g j)) → 0 ≤ (nvI g q k).toInt ∧ (nvI g q k).toInt < 10 ^ k
  | 0, _, _ => ⟨show (0 : Int) ≤ (0 : Int32).toInt by decide, show (0 : Int32).toInt < 10 ^ 0 by decide⟩
  | k + 1, hk, hd => by
    obtain ⟨h1, h2⟩ := nvI_bd k (by omega) (fun j a b => hd j a (by omega))
    have hp : (10 : Int) ^ k ≤ 1000 := by
      rcases (show k = 0 ∨ k = 1 ∨ k = 2 ∨ k = 3 by omega) with rfl | rfl | rfl | rfl <;> decide
    obtain ⟨d1, d2⟩ := hd (q + k) (by omega) (by omega)
    have e1 : (48 : Int32).toInt = 48 := rfl
    have e2 : (57 : Int32).toInt = 57 := rfl
    have e3 : (10 : Int32).toInt = 10 := rfl
    rw [i_le] at d1 d2
    have m1 : (nvI g q k * 10).toInt = (nvI g q k).toInt * 10 := by rw [i_mul] <;> rw [e3] <;> omega
    have m2 : (nvI g q k * 10 + g (q + k)).toInt = (nvI g q k).toInt * 10 + (g (q + k)).toInt := by rw [i_add] <;> rw [m1] <;> omega
    have m3 : (nvI g q k * 10 + g (q + k) - 48).toInt = (nvI g q k).toInt * 10 + (g (q + k)).toInt - 48 := by rw [i_sub] <;> rw [m2, e1] <;> omega
    unfold nvI
    rw [m3, Int.pow_succ]
    omega
theorem tT_TV {τ0 : St} {t n : Nat} (hR : RB τ0 t n) : TVok (tT τ0 t n) (tV τ0 t n) := by
  intro a h
  show -6 ≤ (tokV _ _).toInt
  have h : tokS (gM τ0 t n) (lxS (gM τ0 t n) a) = 2 ∨ tokS (gM τ0 t n) (lxS (gM τ0 t n) a) = 3 := h
  have hq := (lxS_le hR.2 a).1
  have hg := hR.2
  generalize lxS (gM τ0 t n) a = q at h hq ⊢
  generalize gM τ0 t n = g at h hg ⊢
  unfold tokS at h
  unfold tokV
  have hn := hg.2.2
  by_cases h0 : g q < 0
  · rw [if_pos h0]; decide
  rw [if_neg h0] at h ⊢
  by_cases h1 : isL (g q)
  · rw [if_pos h1]
    rcases wS_cases g q (spL g 200 q) with w | w
    · exact w.2
    · rw [w.2]; decide
  rw [if_neg h1] at h ⊢
  by_cases h2 : isD (g q)
  · rw [if_pos h2]
    by_cases h3 : spD g 200 q - q ≤ 4
    · rw [if_pos h3]
      obtain ⟨a1, a2, a3, a4⟩ := spD_spec hg 200 q hq (by omega)
      have := (nvI_bd (spD g 200 q - q) h3 (fun j b c => a4 j b (by omega))).1
      omega
    · rw [if_neg h3]; decide
  · rw [if_neg h2]; decide
theorem MS.A {τ0 τ : St} {t n d a : Nat} (h : MS τ0 t n d a τ) : AtT τ0 τ t n (lxS (gM τ0 t n) a) := h.2.2.2
theorem c_sgn {Z : LZ} {ad : Nat → Nat} {τ0 τ : St} {K : Int32 → St → Prop} {s : Int32} {t n d a : Nat} (hM : MS τ0 t n d a τ) (hs : isS s) (hK : K (b1 (tT τ0 t n a = s)) τ) : CC lyM Z ad yX6_isSign wsX6_isSign (rmk 0) [.ref (ad 0), .int s] τ (rI K) :=
  c_isSign (kk (b1_ct ⟨fun h => (hM.A.sgn hs).mp h.2, fun h => ⟨hM.2.1, (hM.A.sgn hs).mpr h⟩⟩) hK)
theorem c_sgnB {Z : LZ} {ad : Nat → Nat} {τ0 τ : St} {K : Int32 → St → Prop} {s : Int32} {t n f : Nat} (hB : MB τ0 t n f τ) (hK : K 0 τ) : CC lyM Z ad yX6_isSign wsX6_isSign (rmk 0) [.ref (ad 0), .int s] τ (rI K) :=
  c_isSign (kk (b1_f (fun h => absurd (h.1.symm.trans hB.2.1) (by decide))) hK)
theorem c_key {Z : LZ} {ad : Nat → Nat} {τ0 τ : St} {K : Int32 → St → Prop} {b0 b1' b2 b3 b4 b5 b6 b7 : Int32} {t n d a : Nat} {c : Int32} (hR : RB τ0 t n) (hM : MS τ0 t n d a τ) (hc : c = 301 ∨ c = 302 ∨ c = 303 ∨ c = 304 ∨ c = 305 ∨ c = 306) (hw : ∀ (g : Nat → Int32) (q e : Nat), (wS g q e).1 = c ↔ wd g q e b0 b1' b2 b3 b4 b5 b6 b7) (hK : K (b1 (tT τ0 t n a = c)) τ) : CC lyM Z ad yX6_isWord wsX6_isWord (rmk 2) [.ref (ad 0), .int b0, .int b1', .int b2, .int b3, .int b4, .int b5, .int b6, .int b7] τ (rI K) := by
  have hn := hR.2.2.2
  have hq := hM.A.2.1
  refine c_isWord (e := spL (gM τ0 t n) 200 (lxS (gM τ0 t n) a)) hR.1 hM.1 hM.2.1 ⟨hM.A.1, by omega⟩ (fun h => ?_) (kk (b1_ct ?_) hK)
  · have hl := hM.A.wrd.1.mp h
    have := spL_spec hR.2 200 _ hq (by omega)
    exact ⟨(hM.A.wrd.2.1 hl).2.2, by omega⟩
  · rw [← hw]
    exact hM.A.key hc
theorem c_keyB {Z : LZ} {ad : Nat → Nat} {τ0 τ : St} {K : Int32 → St → Prop} {b0 b1' b2 b3 b4 b5 b6 b7 : Int32} {t n f : Nat} (hB : MB τ0 t n f τ) (hK : K 0 τ) : CC lyM Z ad yX6_isWord wsX6_isWord (rmk 2) [.ref (ad 0), .int b0, .int b1', .int b2, .int b3, .int b4, .int b5, .int b6, .int b7] τ (rI K) := c_isWordB hB.2.1 hK
theorem MS.bd {τ0 τ : St} {t n d a : Nat} (hR : RB τ0 t n) (hM : MS τ0 t n d a τ) (h0 : tT τ0 t n a ≠ 0) (h1 : tT τ0 t n a ≠ 1) : τ.1 0 20 = nI (tokE (gM τ0 t n) (lxS (gM τ0 t n) a)) ∧ tokE (gM τ0 t n) (lxS (gM τ0 t n) a) ≤ n :=
  ⟨hM.A.here h0 h1, (tokE_le hR.2 hM.A.2.1).2.1⟩
theorem c_nx {Z : LZ} {ad : Nat → Nat} {τ0 τ : St} {K : St → Prop} {t n d a : Nat} (hR : RB τ0 t n) (hM : MS τ0 t n d a τ) (h0 : tT τ0 t n a ≠ 0 ∧ tT τ0 t n a ≠ 1) (hK : ∀ τ', MS τ0 t n d (a + 1) τ' → K τ') : CC lyM Z ad yX6_next wsX6_next (rmk 2) [.ref (ad 0)] τ (rV K) := by
  obtain ⟨h2, h3⟩ := hM.bd hR h0.1 h0.2
  refine c_next hR.1 hR.2 hM.1 h2 h3 (fun τ' p1 p2 => hK τ' ⟨hM.1.trans (p1.mono (by decide)), (p1.2.1 25 (by decide)).trans hM.2.1, (p1.2.1 24 (by decide)).trans hM.2.2.1, p2⟩)
theorem c_opn {Z : LZ} {ad : Nat → Nat} {τ0 τ : St} {K : Int32 → St → Prop} {t n d a : Nat} (hR : RB τ0 t n) (hM : MS τ0 t n d a τ) (hd : d < 5) (h0 : tT τ0 t n a ≠ 0 ∧ tT τ0 t n a ≠ 1) (hK : ∀ τ', MS τ0 t n (d + 1) (a + 1) τ' → K 1 τ') : CC lyM Z ad yX6_opens wsX6_opens (rmk 3) [.ref (ad 0)] τ (rI K) := by
  obtain ⟨h2, h3⟩ := hM.bd hR h0.1 h0.2
  exact c_opens hR.1 hR.2 hM.1 h2 h3 hM.2.2.1 hd (fun τ' p1 p2 p3 => hK τ' ⟨hM.1.trans (p1.mono (by decide)), (p1.2.1 25 (by decide)).trans hM.2.1, p2, p3⟩)
theorem MS.fail {τ0 τ : St} {t n d a : Nat} (hM : MS τ0 t n d a τ) : MB τ0 t n a (failS τ) := by
  unfold failS
  rw [if_pos hM.2.1]
  exact ⟨(hM.1.up (by decide)).up (by decide), by rw [upS_2 (by decide), upS_1], by rw [upS_1]; exact hM.A.1⟩
theorem c_opn5 {Z : LZ} {ad : Nat → Nat} {τ0 τ : St} {K : Int32 → St → Prop} {t n a : Nat} (hM : MS τ0 t n 5 a τ) (hK : ∀ τ', MB τ0 t n a τ' → K 0 τ') : CC lyM Z ad yX6_opens wsX6_opens (rmk 3) [.ref (ad 0)] τ (rI K) := c_opens5 hM.2.2.1 (hK _ hM.fail)
theorem c_fl {Z : LZ} {ad : Nat → Nat} {τ0 τ : St} {K : St → Prop} {t n d a : Nat} (hM : MS τ0 t n d a τ) (hK : ∀ τ', MB τ0 t n a τ' → K τ') : CC lyM Z ad yX6_fail wsX6_fail (rmk 0) [.ref (ad 0)] τ (rV K) := c_fail (hK _ hM.fail)
theorem c_flB {Z : LZ} {ad : Nat → Nat} {τ0 τ : St} {K : St → Prop} {t n f : Nat} (hB : MB τ0 t n f τ) (hK : K τ) : CC lyM Z ad yX6_fail wsX6_fail (rmk 0) [.ref (ad 0)] τ (rV K) := by
  refine c_fail ?_
  unfold failS
  rw [if_neg (fun h => absurd (h.symm.trans hB.2.1) (by decide))]
  exact hK
/-- one less is open -/
theorem MS.close {τ0 τ : St} {t n d a : Nat} (hd : d ≤ 6) (hM : MS τ0 t n (d + 1) a τ) : MS τ0 t n d a (upS τ 0 24 (τ.1 0 24 - 1)) := by
  refine ⟨hM.1.up (by decide), by rw [upS_2 (by decide)]; exact hM.2.1, ?_, ?_⟩
  · rw [upS_1, hM.2.2.1]
    exact nI_pred d
  · have hA := hM.A
    unfold AtT at hA ⊢
    simp only [upS_2 (show (22 : Nat) ≠ 24 by decide), upS_2 (show (21 : Nat) ≠ 24 by decide), upS_2 (show (20 : Nat) ≠ 24 by decide), upS_4]
    exact hA
theorem MB.close {τ0 τ : St} {t n f : Nat} {v : Int32} (hB : MB τ0 t n f τ) : MB τ0 t n f (upS τ 0 24 v) := ⟨hB.1.up (by decide), by rw [upS_2 (by decide)]; exact hB.2.1, by rw [upS_2 (by decide)]; exact hB.2.2⟩

