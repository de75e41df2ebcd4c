/-! the program's texts: codes worked off *program* -/
def envX (τ : St) : Nat → Int32 := fun i => if i < 6 then τ.1 2 i else 0
theorem im1 : (-1 : Int32).toInt = -1 := rfl
set_option maxRecDepth 100000 in
set_option maxHeartbeats 4000000 in
theorem x_operand {Z : LZ} {ad : Nat → Nat} {τ : St} {K : Int32 → St → Prop} {c : Int32} (hK : K (opd (envX τ) c) τ) : CC lyX Z ad yX3_operand wsX3_operand (rmk 0) [.int c, .ref (ad 2)] τ (rI K) := by
  refine CC.of (cc := cX3_operand) (nL := 3) (ret := (some .int)) rfl rfl ⟨rfl, rfl⟩ (by exact Nat.le_of_ble_eq_true rfl) ?_
  intro X B
  change GG _ _ _ _ X _ 0 [some (.int c), some (.ref (ad 2)), none] [] _
  change Amb _ _ _ _ X _ _ RX3 _ _ at B
  unfold opd envX at hK
  have hn : ¬ 0 ≤ c → (-1 - c).toInt = -1 - c.toInt := fun h => by
    rw [i_le, i0] at h
    have := i_rng c
    rw [i_sub, im1] <;> (rw [im1]; omega)
  refine g_iload_n B dX3_operand_0 rfl ?_
  refine g_if_lt (tgt := 6) B dX3_operand_1 (by decide) (fun c1 => ?_) (fun c1 => ?_)
  · rw [if_neg (Int32.not_le.mpr c1)] at hK
    have hn' := hn (Int32.not_le.mpr c1)
    have hlt := i_lt.mp c1
    rw [i0] at hlt
    obtain ⟨j, hj, ej⟩ := i_nat (x := -1 - c) (n := 2147483648) (by omega) (by have := i_rng c; omega)
    rw [ej, i_cl hj] at hK
    refine g_iconst (v := (-1)) B dX3_operand_6 (by decide) ?_
    refine g_iload_n B dX3_operand_7 rfl ?_
    refine g_isub B dX3_operand_8 ?_
    rw [ej]
    refine g_istore_n B dX3_operand_9 (by decide) rfl ?_
    refine g_iload_n B dX3_operand_10 rfl ?_
    refine g_aload_n B dX3_operand_11 rfl ?_
    refine g_alen B dX3_operand_12 (by decide) (by rfl) rfl ?_
    refine g_icmp_ge (tgt := 22) B dX3_operand_13 (by decide) (fun c13 => ?_) (fun c13 => ?_)
    · have hj6 : ¬ j < 6 := by
        have h1 := c13
        rw [i_le, i_n hj, show (Int32.ofNat 6).toInt = 6 from rfl] at h1
        omega
      rw [if_neg hj6] at hK
      refine g_iconst (v := (0)) B dX3_operand_22 (by decide) ?_
      refine g_ireti B dX3_operand_23 ?_
      exact hK
    · have hj6 : j < 6 := by
        have h1 := Int32.not_le.mp c13
        rw [i_lt, i_n hj, show (Int32.ofNat 6).toInt = 6 from rfl] at h1
        omega
      rw [if_pos hj6] at hK
      refine g_aload_n B dX3_operand_16 rfl ?_
      refine g_iload_n B dX3_operand_17 rfl ?_
      refine g_iald B dX3_operand_18 (by decide) (by rfl) (by exact vp_in_nI hj6 (by omega)) ?_
      rw [i_cl hj]
      refine g_goto (tgt := 23) B dX3_operand_19 (by decide) ?_
      refine g_ireti B dX3_operand_23 ?_
      exact hK
  · rw [if_pos (Int32.not_lt.mp c1)] at hK
    refine g_iload_n B dX3_operand_4 rfl ?_
    refine g_ireti B dX3_operand_5 ?_
    exact hK
theorem jn11 {a b : Int32} : jn (-11) a b = if a ≠ 0 ∨ b ≠ 0 then 1 else 0 := if_pos rfl
theorem jn12 {a b : Int32} : jn (-12) a b = if a ≠ 0 ∧ b ≠ 0 then 1 else 0 := (if_neg (by decide)).trans (if_pos rfl)
theorem jn13 {a b : Int32} : jn (-13) a b = if a < b then 1 else 0 := (if_neg (by decide)).trans ((if_neg (by decide)).trans (if_pos rfl))
theorem jn14 {a b : Int32} : jn (-14) a b = if a = b then 1 else 0 := (if_neg (by decide)).trans ((if_neg (by decide)).trans ((if_neg (by decide)).trans (if_pos rfl)))
theorem jn15 {a b : Int32} : jn (-15) a b = a + b := (if_neg (by decide)).trans ((if_neg (by decide)).trans ((if_neg (by decide)).trans ((if_neg (by decide)).trans (if_pos rfl))))
theorem jn16 {a b : Int32} : jn (-16) a b = a - b := (if_neg (by decide)).trans ((if_neg (by decide)).trans ((if_neg (by decide)).trans ((if_neg (by decide)).trans ((if_neg (by decide)).trans (if_pos rfl)))))
theorem jn17 {a b : Int32} : jn (-17) a b = a * b := (if_neg (by decide)).trans ((if_neg (by decide)).trans ((if_neg (by decide)).trans ((if_neg (by decide)).trans ((if_neg (by decide)).trans (if_neg (by decide))))))
theorem im11 : (-11 : Int32).toInt = -11 := rfl
theorem im17 : (-17 : Int32).toInt = -17 := rfl
set_option maxRecDepth 100000 in
set_option maxHeartbeats 4000000 in
theorem x_joined {ly : Lay} {Z : LZ} {ad : Nat → Nat} {τ : St} {K : Int32 → St → Prop} {c a b : Int32} (hc : c ≤ -11 ∧ -17 ≤ c) (hK : K (jn c a b) τ) : CC ly Z ad yX3_joined wsX3_joined (rmk 0) [.int c, .int a, .int b] τ (rI K) := by
  refine CC.of (cc := cX3_joined) (nL := 3) (ret := (some .int)) rfl rfl ⟨rfl, rfl⟩ (by exact Nat.le_of_ble_eq_true rfl) ?_
  intro X B
  change GG _ _ _ _ X _ 0 [some (.int c), some (.int a), some (.int b)] [] _
  change Amb _ _ _ _ X _ _ RX3 _ _ at B
  refine g_iload_n B dX3_joined_0 rfl ?_
  refine g_tsw (dt := 106) B dX3_joined_1 (by decide) (by rfl) (by decide) (fun c1 => ?_) (And.intro (fun c1 => ?_) (And.intro (fun c1 => ?_) (And.intro (fun c1 => ?_) (And.intro (fun c1 => ?_) (And.intro (fun c1 => ?_) (And.intro (fun c1 => ?_) (And.intro (fun c1 => ?_) trivial)))))))
  · have h1 := i_le.mp hc.1
    have h2 := i_le.mp hc.2
    rw [im11] at h1
    rw [im17] at h2
    refine g_iconst (v := (0)) B dX3_joined_106 (by decide) ?_
    refine g_ireti B dX3_joined_107 ?_
    first
      | (exfalso; omega)
      | (rw [c1] at hK
         first
         | (rw [jn15] at hK; exact hK)
         | (rw [jn16] at hK; exact hK)
         | (rw [jn17] at hK; exact hK)
         | (rw [jn14, if_pos c85] at hK; exact hK)
         | (rw [jn14, if_neg c85] at hK; exact hK)
         | (rw [jn13, if_neg (Int32.not_lt.mpr c74)] at hK; exact hK)
         | (rw [jn13, if_pos (Int32.not_le.mp c74)] at hK; exact hK)
         | (rw [jn12, if_neg (show ¬ (a ≠ 0 ∧ b ≠ 0) from fun z => z.1 c59)] at hK; exact hK)
         | (rw [jn12, if_neg (show ¬ (a ≠ 0 ∧ b ≠ 0) from fun z => z.2 c63)] at hK; exact hK)
         | (rw [jn12, if_pos (And.intro c59 c63)] at hK; exact hK)
         | (rw [jn11, if_pos (Or.inl c45)] at hK; exact hK)
         | (rw [jn11, if_pos (Or.inr c49)] at hK; exact hK)
         | (rw [jn11, if_neg (show ¬ (a ≠ 0 ∨ b ≠ 0) from fun z => z.elim (fun q => q c45) (fun q => q c49))] at hK; exact hK))
  · change GG _ _ _ _ _ _ 102 _ _ _
    change _ = (-17 : Int32) at c1
    refine g_iload_n B dX3_joined_102 rfl ?_
    refine g_iload_n B dX3_joined_103 rfl ?_
    refine g_imul B dX3_joined_104 ?_
    refine g_ireti B dX3_joined_105 ?_
    first
      | (exfalso; omega)
      | (rw [c1] at hK
         first
         | (rw [jn15] at hK; exact hK)
         | (rw [jn16] at hK; exact hK)
         | (rw [jn17] at hK; exact hK)
         | (rw [jn14, if_pos c85] at hK; exact hK)
         | (rw [jn14, if_neg c85] at hK; exact hK)
         | (rw [jn13, if_neg (Int32.not_lt.mpr c74)] at hK; exact hK)
         | (rw [jn13, if_pos (Int32.not_le.mp c74)] at hK; exact hK)
         | (rw [jn12, if_neg (show ¬ (a ≠ 0 ∧ b ≠ 0) from fun z => z.1 c59)] at hK; exact hK)
         | (rw [jn12, if_neg (show ¬ (a ≠ 0 ∧ b ≠ 0) from fun z => z.2 c63)] at hK; exact hK)
         | (rw [jn12, if_pos (And.intro c59 c63)] at hK; exact hK)
         | (rw [jn11, if_pos (Or.inl c45)] at hK; exact hK)
         | (rw [jn11, if_pos (Or.inr c49)] at hK; exact hK)
         | (rw [jn11, if_neg (show ¬ (a ≠ 0 ∨ b ≠ 0) from fun z => z.elim (fun q => q c45) (fun q => q c49))] at hK; exact hK))
  · change GG _ _ _ _ _ _ 98 _ _ _
    change _ = (-16 : Int32) at c1
    refine g_iload_n B dX3_joined_98 rfl ?_
    refine g_iload_n B dX3_joined_99 rfl ?_
    refine g_isub B dX3_joined_100 ?_
    refine g_ireti B dX3_joined_101 ?_
    first
      | (exfalso; omega)
      | (rw [c1] at hK
         first
         | (rw [jn15] at hK; exact hK)
         | (rw [jn16] at hK; exact hK)
         | (rw [jn17] at hK; exact hK)
         | (rw [jn14, if_pos c85] at hK; exact hK)
         | (rw [jn14, if_neg c85] at hK; exact hK)
         | (rw [jn13, if_neg (Int32.not_lt.mpr c74)] at hK; exact hK)
         | (rw [jn13, if_pos (Int32.not_le.mp c74)] at hK; exact hK)
         | (rw [jn12, if_neg (show ¬ (a ≠ 0 ∧ b ≠ 0) from fun z => z.1 c59)] at hK; exact hK)
         | (rw [jn12, if_neg (show ¬ (a ≠ 0 ∧ b ≠ 0) from fun z => z.2 c63)] at hK; exact hK)
         | (rw [jn12, if_pos (And.intro c59 c63)] at hK; exact hK)
         | (rw [jn11, if_pos (Or.inl c45)] at hK; exact hK)
         | (rw [jn11, if_pos (Or.inr c49)] at hK; exact hK)
         | (rw [jn11, if_neg (show ¬ (a ≠ 0 ∨ b ≠ 0) from fun z => z.elim (fun q => q c45) (fun q => q c49))] at hK; exact hK))
  · change GG _ _ _ _ _ _ 94 _ _ _
    change _ = (-15 : Int32) at c1
    refine g_iload_n B dX3_joined_94 rfl ?_
    refine g_iload_n B dX3_joined_95 rfl ?_
    refine g_iadd B dX3_joined_96 ?_
    refine g_ireti B dX3_joined_97 ?_
    first
      | (exfalso; omega)
      | (rw [c1] at hK
         first
         | (rw [jn15] at hK; exact hK)
         | (rw [jn16] at hK; exact hK)
         | (rw [jn17] at hK; exact hK)
         | (rw [jn14, if_pos c85] at hK; exact hK)
         | (rw [jn14, if_neg c85] at hK; exact hK)
         | (rw [jn13, if_neg (Int32.not_lt.mpr c74)] at hK; exact hK)
         | (rw [jn13, if_pos (Int32.not_le.mp c74)] at hK; exact hK)
         | (rw [jn12, if_neg (show ¬ (a ≠ 0 ∧ b ≠ 0) from fun z => z.1 c59)] at hK; exact hK)
         | (rw [jn12, if_neg (show ¬ (a ≠ 0 ∧ b ≠ 0) from fun z => z.2 c63)] at hK; exact hK)
         | (rw [jn12, if_pos (And.intro c59 c63)] at hK; exact hK)
         | (rw [jn11, if_pos (Or.inl c45)] at hK; exact hK)
         | (rw [jn11, if_pos (Or.inr c49)] at hK; exact hK)
         | (rw [jn11, if_neg (show ¬ (a ≠ 0 ∨ b ≠ 0) from fun z => z.elim (fun q => q c45) (fun q => q c49))] at hK; exact hK))
  · change GG _ _ _ _ _ _ 83 _ _ _
    change _ = (-14 : Int32) at c1
    refine g_iload_n B dX3_joined_83 rfl ?_
    refine g_iload_n B dX3_joined_84 rfl ?_
    refine g_icmp_ne (tgt := 92) B dX3_joined_85 (by decide) (fun c85 => ?_) (fun c85 => ?_)
    · refine g_iconst (v := (0)) B dX3_joined_92 (by decide) ?_
      refine g_ireti B dX3_joined_93 ?_
      first
        | (exfalso; omega)
        | (rw [c1] at hK
           first
           | (rw [jn15] at hK; exact hK)
           | (rw [jn16] at hK; exact hK)
           | (rw [jn17] at hK; exact hK)
           | (rw [jn14, if_pos c85] at hK; exact hK)
           | (rw [jn14, if_neg c85] at hK; exact hK)
           | (rw [jn13, if_neg (Int32.not_lt.mpr c74)] at hK; exact hK)
           | (rw [jn13, if_pos (Int32.not_le.mp c74)] at hK; exact hK)
           | (rw [jn12, if_neg (show ¬ (a ≠ 0 ∧ b ≠ 0) from fun z => z.1 c59)] at hK; exact hK)
           | (rw [jn12, if_neg (show ¬ (a ≠ 0 ∧ b ≠ 0) from fun z => z.2 c63)] at hK; exact hK)
           | (rw [jn12, if_pos (And.intro c59 c63)] at hK; exact hK)
           | (rw [jn11, if_pos (Or.inl c45)] at hK; exact hK)
           | (rw [jn11, if_pos (Or.inr c49)] at hK; exact hK)
           | (rw [jn11, if_neg (show ¬ (a ≠ 0 ∨ b ≠ 0) from fun z => z.elim (fun q => q c45) (fun q => q c49))] at hK; exact hK))
    · refine g_iconst (v := (1)) B dX3_joined_88 (by decide) ?_
      refine g_goto (tgt := 93) B dX3_joined_89 (by decide) ?_
      refine g_ireti B dX3_joined_93 ?_
      first
        | (exfalso; omega)
        | (rw [c1] at hK
           first
           | (rw [jn15] at hK; exact hK)
           | (rw [jn16] at hK; exact hK)
           | (rw [jn17] at hK; exact hK)
           | (rw [jn14, if_pos c85] at hK; exact hK)
           | (rw [jn14, if_neg c85] at hK; exact hK)
           | (rw [jn13, if_neg (Int32.not_lt.mpr c74)] at hK; exact hK)
           | (rw [jn13, if_pos (Int32.not_le.mp c74)] at hK; exact hK)
           | (rw [jn12, if_neg (show ¬ (a ≠ 0 ∧ b ≠ 0) from fun z => z.1 c59)] at hK; exact hK)
           | (rw [jn12, if_neg (show ¬ (a ≠ 0 ∧ b ≠ 0) from fun z => z.2 c63)] at hK; exact hK)
           | (rw [jn12, if_pos (And.intro c59 c63)] at hK; exact hK)
           | (rw [jn11, if_pos (Or.inl c45)] at hK; exact hK)
           | (rw [jn11, if_pos (Or.inr c49)] at hK; exact hK)
           | (rw [jn11, if_neg (show ¬ (a ≠ 0 ∨ b ≠ 0) from fun z => z.elim (fun q => q c45) (fun q => q c49))] at hK; exact hK))
  · change GG _ _ _ _ _ _ 72 _ _ _
    change _ = (-13 : Int32) at c1
    refine g_iload_n B dX3_joined_72 rfl ?_
    refine g_iload_n B dX3_joined_73 rfl ?_
    refine g_icmp_ge (tgt := 81) B dX3_joined_74 (by decide) (fun c74 => ?_) (fun c74 => ?_)
    · refine g_iconst (v := (0)) B dX3_joined_81 (by decide) ?_
      refine g_ireti B dX3_joined_82 ?_
      first
        | (exfalso; omega)
        | (rw [c1] at hK
           first
           | (rw [jn15] at hK; exact hK)
           | (rw [jn16] at hK; exact hK)
           | (rw [jn17] at hK; exact hK)
           | (rw [jn14, if_pos c85] at hK; exact hK)
           | (rw [jn14, if_neg c85] at hK; exact hK)
           | (rw [jn13, if_neg (Int32.not_lt.mpr c74)] at hK; exact hK)
           | (rw [jn13, if_pos (Int32.not_le.mp c74)] at hK; exact hK)
           | (rw [jn12, if_neg (show ¬ (a ≠ 0 ∧ b ≠ 0) from fun z => z.1 c59)] at hK; exact hK)
           | (rw [jn12, if_neg (show ¬ (a ≠ 0 ∧ b ≠ 0) from fun z => z.2 c63)] at hK; exact hK)
           | (rw [jn12, if_pos (And.intro c59 c63)] at hK; exact hK)
           | (rw [jn11, if_pos (Or.inl c45)] at hK; exact hK)
           | (rw [jn11, if_pos (Or.inr c49)] at hK; exact hK)
           | (rw [jn11, if_neg (show ¬ (a ≠ 0 ∨ b ≠ 0) from fun z => z.elim (fun q => q c45) (fun q => q c49))] at hK; exact hK))
    · refine g_iconst (v := (1)) B dX3_joined_77 (by decide) ?_
      refine g_goto (tgt := 82) B dX3_joined_78 (by decide) ?_
      refine g_ireti B dX3_joined_82 ?_
      first
        | (exfalso; omega)
        | (rw [c1] at hK
           first
           | (rw [jn15] at hK; exact hK)
           | (rw [jn16] at hK; exact hK)
           | (rw [jn17] at hK; exact hK)
           | (rw [jn14, if_pos c85] at hK; exact hK)
           | (rw [jn14, if_neg c85] at hK; exact hK)
           | (rw [jn13, if_neg (Int32.not_lt.mpr c74)] at hK; exact hK)
           | (rw [jn13, if_pos (Int32.not_le.mp c74)] at hK; exact hK)
           | (rw [jn12, if_neg (show ¬ (a ≠ 0 ∧ b ≠ 0) from fun z => z.1 c59)] at hK; exact hK)
           | (rw [jn12, if_neg (show ¬ (a ≠ 0 ∧ b ≠ 0) from fun z => z.2 c63)] at hK; exact hK)
           | (rw [jn12, if_pos (And.intro c59 c63)] at hK; exact hK)
           | (rw [jn11, if_pos (Or.inl c45)] at hK; exact hK)
           | (rw [jn11, if_pos (Or.inr c49)] at hK; exact hK)
           | (rw [jn11, if_neg (show ¬ (a ≠ 0 ∨ b ≠ 0) from fun z => z.elim (fun q => q c45) (fun q => q c49))] at hK; exact hK))
  · change GG _ _ _ _ _ _ 58 _ _ _
    change _ = (-12 : Int32) at c1
    refine g_iload_n B dX3_joined_58 rfl ?_
    refine g_if_eq (tgt := 70) B dX3_joined_59 (by decide) (fun c59 => ?_) (fun c59 => ?_)
    · refine g_iconst (v := (0)) B dX3_joined_70 (by decide) ?_
      refine g_ireti B dX3_joined_71 ?_
      first
        | (exfalso; omega)
        | (rw [c1] at hK
           first
           | (rw [jn15] at hK; exact hK)
           | (rw [jn16] at hK; exact hK)
           | (rw [jn17] at hK; exact hK)
           | (rw [jn14, if_pos c85] at hK; exact hK)
           | (rw [jn14, if_neg c85] at hK; exact hK)
           | (rw [jn13, if_neg (Int32.not_lt.mpr c74)] at hK; exact hK)
           | (rw [jn13, if_pos (Int32.not_le.mp c74)] at hK; exact hK)
           | (rw [jn12, if_neg (show ¬ (a ≠ 0 ∧ b ≠ 0) from fun z => z.1 c59)] at hK; exact hK)
           | (rw [jn12, if_neg (show ¬ (a ≠ 0 ∧ b ≠ 0) from fun z => z.2 c63)] at hK; exact hK)
           | (rw [jn12, if_pos (And.intro c59 c63)] at hK; exact hK)
           | (rw [jn11, if_pos (Or.inl c45)] at hK; exact hK)
           | (rw [jn11, if_pos (Or.inr c49)] at hK; exact hK)
           | (rw [jn11, if_neg (show ¬ (a ≠ 0 ∨ b ≠ 0) from fun z => z.elim (fun q => q c45) (fun q => q c49))] at hK; exact hK))
    · refine g_iload_n B dX3_joined_62 rfl ?_
      refine g_if_eq (tgt := 70) B dX3_joined_63 (by decide) (fun c63 => ?_) (fun c63 => ?_)
      · refine g_iconst (v := (0)) B dX3_joined_70 (by decide) ?_
        refine g_ireti B dX3_joined_71 ?_
        first
          | (exfalso; omega)
          | (rw [c1] at hK
             first
             | (rw [jn15] at hK; exact hK)
             | (rw [jn16] at hK; exact hK)
             | (rw [jn17] at hK; exact hK)
             | (rw [jn14, if_pos c85] at hK; exact hK)
             | (rw [jn14, if_neg c85] at hK; exact hK)
             | (rw [jn13, if_neg (Int32.not_lt.mpr c74)] at hK; exact hK)
             | (rw [jn13, if_pos (Int32.not_le.mp c74)] at hK; exact hK)
             | (rw [jn12, if_neg (show ¬ (a ≠ 0 ∧ b ≠ 0) from fun z => z.1 c59)] at hK; exact hK)
             | (rw [jn12, if_neg (show ¬ (a ≠ 0 ∧ b ≠ 0) from fun z => z.2 c63)] at hK; exact hK)
             | (rw [jn12, if_pos (And.intro c59 c63)] at hK; exact hK)
             | (rw [jn11, if_pos (Or.inl c45)] at hK; exact hK)
             | (rw [jn11, if_pos (Or.inr c49)] at hK; exact hK)
             | (rw [jn11, if_neg (show ¬ (a ≠ 0 ∨ b ≠ 0) from fun z => z.elim (fun q => q c45) (fun q => q c49))] at hK; exact hK))
      · refine g_iconst (v := (1)) B dX3_joined_66 (by decide) ?_
        refine g_goto (tgt := 71) B dX3_joined_67 (by decide) ?_
        refine g_ireti B dX3_joined_71 ?_
        first
          | (exfalso; omega)
          | (rw [c1] at hK
             first
             | (rw [jn15] at hK; exact hK)
             | (rw [jn16] at hK; exact hK)
             | (rw [jn17] at hK; exact hK)
             | (rw [jn14, if_pos c85] at hK; exact hK)
             | (rw [jn14, if_neg c85] at hK; exact hK)
             | (rw [jn13, if_neg (Int32.not_lt.mpr c74)] at hK; exact hK)
             | (rw [jn13, if_pos (Int32.not_le.mp c74)] at hK; exact hK)
             | (rw [jn12, if_neg (show ¬ (a ≠ 0 ∧ b ≠ 0) from fun z => z.1 c59)] at hK; exact hK)
             | (rw [jn12, if_neg (show ¬ (a ≠ 0 ∧ b ≠ 0) from fun z => z.2 c63)] at hK; exact hK)
             | (rw [jn12, if_pos (And.intro c59 c63)] at hK; exact hK)
             | (rw [jn11, if_pos (Or.inl c45)] at hK; exact hK)
             | (rw [jn11, if_pos (Or.inr c49)] at hK; exact hK)
             | (rw [jn11, if_neg (show ¬ (a ≠ 0 ∨ b ≠ 0) from fun z => z.elim (fun q => q c45) (fun q => q c49))] at hK; exact hK))
  · change GG _ _ _ _ _ _ 44 _ _ _
    change _ = (-11 : Int32) at c1
    refine g_iload_n B dX3_joined_44 rfl ?_
    refine g_if_ne (tgt := 52) B dX3_joined_45 (by decide) (fun c45 => ?_) (fun c45 => ?_)
    · refine g_iconst (v := (1)) B dX3_joined_52 (by decide) ?_
      refine g_goto (tgt := 57) B dX3_joined_53 (by decide) ?_
      refine g_ireti B dX3_joined_57 ?_
      first
        | (exfalso; omega)
        | (rw [c1] at hK
           first
           | (rw [jn15] at hK; exact hK)
           | (rw [jn16] at hK; exact hK)
           | (rw [jn17] at hK; exact hK)
           | (rw [jn14, if_pos c85] at hK; exact hK)
           | (rw [jn14, if_neg c85] at hK; exact hK)
           | (rw [jn13, if_neg (Int32.not_lt.mpr c74)] at hK; exact hK)
           | (rw [jn13, if_pos (Int32.not_le.mp c74)] at hK; exact hK)
           | (rw [jn12, if_neg (show ¬ (a ≠ 0 ∧ b ≠ 0) from fun z => z.1 c59)] at hK; exact hK)
           | (rw [jn12, if_neg (show ¬ (a ≠ 0 ∧ b ≠ 0) from fun z => z.2 c63)] at hK; exact hK)
           | (rw [jn12, if_pos (And.intro c59 c63)] at hK; exact hK)
           | (rw [jn11, if_pos (Or.inl c45)] at hK; exact hK)
           | (rw [jn11, if_pos (Or.inr c49)] at hK; exact hK)
           | (rw [jn11, if_neg (show ¬ (a ≠ 0 ∨ b ≠ 0) from fun z => z.elim (fun q => q c45) (fun q => q c49))] at hK; exact hK))
    · refine g_iload_n B dX3_joined_48 rfl ?_
      refine g_if_eq (tgt := 56) B dX3_joined_49 (by decide) (fun c49 => ?_) (fun c49 => ?_)
      · refine g_iconst (v := (0)) B dX3_joined_56 (by decide) ?_
        refine g_ireti B dX3_joined_57 ?_
        first
          | (exfalso; omega)
          | (rw [c1] at hK
             first
             | (rw [jn15] at hK; exact hK)
             | (rw [jn16] at hK; exact hK)
             | (rw [jn17] at hK; exact hK)
             | (rw [jn14, if_pos c85] at hK; exact hK)
             | (rw [jn14, if_neg c85] at hK; exact hK)
             | (rw [jn13, if_neg (Int32.not_lt.mpr c74)] at hK; exact hK)
             | (rw [jn13, if_pos (Int32.not_le.mp c74)] at hK; exact hK)
             | (rw [jn12, if_neg (show ¬ (a ≠ 0 ∧ b ≠ 0) from fun z => z.1 c59)] at hK; exact hK)
             | (rw [jn12, if_neg (show ¬ (a ≠ 0 ∧ b ≠ 0) from fun z => z.2 c63)] at hK; exact hK)
             | (rw [jn12, if_pos (And.intro c59 c63)] at hK; exact hK)
             | (rw [jn11, if_pos (Or.inl c45)] at hK; exact hK)
             | (rw [jn11, if_pos (Or.inr c49)] at hK; exact hK)
             | (rw [jn11, if_neg (show ¬ (a ≠ 0 ∨ b ≠ 0) from fun z => z.elim (fun q => q c45) (fun q => q c49))] at hK; exact hK))
      · refine g_iconst (v := (1)) B dX3_joined_52 (by decide) ?_
        refine g_goto (tgt := 57) B dX3_joined_53 (by decide) ?_
        refine g_ireti B dX3_joined_57 ?_
        first
          | (exfalso; omega)
          | (rw [c1] at hK
             first
             | (rw [jn15] at hK; exact hK)
             | (rw [jn16] at hK; exact hK)
             | (rw [jn17] at hK; exact hK)
             | (rw [jn14, if_pos c85] at hK; exact hK)
             | (rw [jn14, if_neg c85] at hK; exact hK)
             | (rw [jn13, if_neg (Int32.not_lt.mpr c74)] at hK; exact hK)
             | (rw [jn13, if_pos (Int32.not_le.mp c74)] at hK; exact hK)
             | (rw [jn12, if_neg (show ¬ (a ≠ 0 ∧ b ≠ 0) from fun z => z.1 c59)] at hK; exact hK)
             | (rw [jn12, if_neg (show ¬ (a ≠ 0 ∧ b ≠ 0) from fun z => z.2 c63)] at hK; exact hK)
             | (rw [jn12, if_pos (And.intro c59 c63)] at hK; exact hK)
             | (rw [jn11, if_pos (Or.inl c45)] at hK; exact hK)
             | (rw [jn11, if_pos (Or.inr c49)] at hK; exact hK)
             | (rw [jn11, if_neg (show ¬ (a ≠ 0 ∨ b ≠ 0) from fun z => z.elim (fun q => q c45) (fun q => q c49))] at hK; exact hK))

