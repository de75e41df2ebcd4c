/-! what is told and set *reference* -/
theorem nI_eqI {a b : Nat} (ha : a < 2147483648) (hb : b < 2147483648) : nI a = nI b ↔ a = b := ⟨fun h => by
  have := congrArg Int32.toNatClampNeg h
  rw [i_cl (by omega), i_cl (by omega)] at this
  exact this, fun h => by rw [h]⟩
abbrev isNt (x : Int32) : Prop := 0 ≤ x.toInt ∧ x.toInt ≤ 29
abbrev isUs (m : Nat) (x : Int32) : Prop := 0 ≤ x.toInt ∧ x.toInt < m
abbrev ofP (m : Nat) (w x : Int32) : Prop := w = 0 ∨ ((w = 1 ∨ ¬ w ≤ 4) ∧ isNt x) ∨ (¬ (w = 1 ∨ ¬ w ≤ 4) ∧ isUs m x)
theorem i1 : (1 : Int32).toInt = 1 := rfl
theorem i4 : (4 : Int32).toInt = 4 := rfl
set_option maxRecDepth 100000 in
set_option maxHeartbeats 4000000 in
theorem c_isOf {Z : LZ} {ad : Nat → Nat} {τ : St} {K : Int32 → St → Prop} {w x : Int32} {m : Nat} (hm6 : m ≤ 6) (hm : τ.1 0 11 = nI m) (hK : K (b1 (ofP m w x)) τ) : CC lyM Z ad yX6_isOf wsX6_isOf (rmk 2) [.ref (ad 0), .int w, .int x] τ (rI K) := by
  refine CC.of (cc := cX6_isOf) (nL := 3) (ret := (some .boolean)) rfl rfl ⟨rfl, rfl⟩ (by exact Nat.le_of_ble_eq_true rfl) ?_
  intro X B
  change GG _ _ _ _ X _ 0 [some (.ref (ad 0)), some (.int w), some (.int x)] [] _
  change Amb _ _ _ _ X _ _ RX6 _ _ at B
  refine g_iload_n B dX6_isOf_0 rfl ?_
  refine g_if_eq (tgt := 32) B dX6_isOf_1 (by decide) (fun c1 => ?_) (fun c1 => ?_)
  · refine g_iconst (v := (1)) B dX6_isOf_32 (by decide) ?_
    refine g_goto (tgt := 37) B dX6_isOf_33 (by decide) ?_
    refine g_zreti B dX6_isOf_37 (by first | rfl | exact b1_nar) ?_
    refine kk (Eq.symm ?_) hK
    clear hK hm B
    try simp only [b1_0, b1_n0] at *
    first
      | (show ¬ _; unfold ofP isNt isUs; simp only [i_eq, i_le, i_lt, i0, i1, i4] at *; omega)
      | (refine b1_t ?_; unfold ofP isNt isUs; simp only [i_eq, i_le, i_lt, i0, i1, i4] at *; omega)
      | (refine b1_f ?_; unfold ofP isNt isUs; simp only [i_eq, i_le, i_lt, i0, i1, i4] at *; omega)
  · refine g_iload_n B dX6_isOf_4 rfl ?_
    refine g_iconst (v := (1)) B dX6_isOf_5 (by decide) ?_
    refine g_icmp_eq (tgt := 14) B dX6_isOf_6 (by decide) (fun c6 => ?_) (fun c6 => ?_)
    · refine g_iload_n B dX6_isOf_14 rfl ?_
      refine g_callSi (As := [.int _]) B dX6_isOf_15 (gc1 g_X6_79) (by rfl) hd_X6_isNight (by exact ⟨Nat.le_of_ble_eq_true rfl, Nat.le_of_ble_eq_true rfl⟩) ⟨rfl, rfl⟩ rfl rfl (by exact Nat.le_of_ble_eq_true rfl) (c_isNight ?_)
      refine g_if_eq (tgt := 36) B dX6_isOf_18 (by decide) (fun c18 => ?_) (fun c18 => ?_)
      · refine g_iconst (v := (0)) B dX6_isOf_36 (by decide) ?_
        refine g_zreti B dX6_isOf_37 (by first | rfl | exact b1_nar) ?_
        refine kk (Eq.symm ?_) hK
        clear hK hm B
        try simp only [b1_0, b1_n0] at *
        first
          | (show ¬ _; unfold ofP isNt isUs; simp only [i_eq, i_le, i_lt, i0, i1, i4] at *; omega)
          | (refine b1_t ?_; unfold ofP isNt isUs; simp only [i_eq, i_le, i_lt, i0, i1, i4] at *; omega)
          | (refine b1_f ?_; unfold ofP isNt isUs; simp only [i_eq, i_le, i_lt, i0, i1, i4] at *; omega)
      · refine g_goto (tgt := 32) B dX6_isOf_21 (by decide) ?_
        refine g_iconst (v := (1)) B dX6_isOf_32 (by decide) ?_
        refine g_goto (tgt := 37) B dX6_isOf_33 (by decide) ?_
        refine g_zreti B dX6_isOf_37 (by first | rfl | exact b1_nar) ?_
        refine kk (Eq.symm ?_) hK
        clear hK hm B
        try simp only [b1_0, b1_n0] at *
        first
          | (show ¬ _; unfold ofP isNt isUs; simp only [i_eq, i_le, i_lt, i0, i1, i4] at *; omega)
          | (refine b1_t ?_; unfold ofP isNt isUs; simp only [i_eq, i_le, i_lt, i0, i1, i4] at *; omega)
          | (refine b1_f ?_; unfold ofP isNt isUs; simp only [i_eq, i_le, i_lt, i0, i1, i4] at *; omega)
    · refine g_iload_n B dX6_isOf_9 rfl ?_
      refine g_iconst (v := (4)) B dX6_isOf_10 (by decide) ?_
      refine g_icmp_le (tgt := 24) B dX6_isOf_11 (by decide) (fun c11 => ?_) (fun c11 => ?_)
      · refine g_aload_n B dX6_isOf_24 rfl ?_
        refine g_iload_n B dX6_isOf_25 rfl ?_
        refine g_callVi (C := RX6) (As := [.int _]) B dX6_isOf_26 (gc1 g_X6_83) (by rfl) ⟨rfl, hd_X6_isUser⟩ (by exact ⟨Nat.le_of_ble_eq_true rfl, Nat.le_of_ble_eq_true rfl⟩) ⟨rfl, rfl⟩ rfl rfl (by exact Nat.le_of_ble_eq_true rfl) recvM (c_isUser hm6 hm ?_)
        refine g_if_eq (tgt := 36) B dX6_isOf_29 (by decide) (fun c29 => ?_) (fun c29 => ?_)
        · refine g_iconst (v := (0)) B dX6_isOf_36 (by decide) ?_
          refine g_zreti B dX6_isOf_37 (by first | rfl | exact b1_nar) ?_
          refine kk (Eq.symm ?_) hK
          clear hK hm B
          try simp only [b1_0, b1_n0] at *
          first
            | (show ¬ _; unfold ofP isNt isUs; simp only [i_eq, i_le, i_lt, i0, i1, i4] at *; omega)
            | (refine b1_t ?_; unfold ofP isNt isUs; simp only [i_eq, i_le, i_lt, i0, i1, i4] at *; omega)
            | (refine b1_f ?_; unfold ofP isNt isUs; simp only [i_eq, i_le, i_lt, i0, i1, i4] at *; omega)
        · refine g_iconst (v := (1)) B dX6_isOf_32 (by decide) ?_
          refine g_goto (tgt := 37) B dX6_isOf_33 (by decide) ?_
          refine g_zreti B dX6_isOf_37 (by first | rfl | exact b1_nar) ?_
          refine kk (Eq.symm ?_) hK
          clear hK hm B
          try simp only [b1_0, b1_n0] at *
          first
            | (show ¬ _; unfold ofP isNt isUs; simp only [i_eq, i_le, i_lt, i0, i1, i4] at *; omega)
            | (refine b1_t ?_; unfold ofP isNt isUs; simp only [i_eq, i_le, i_lt, i0, i1, i4] at *; omega)
            | (refine b1_f ?_; unfold ofP isNt isUs; simp only [i_eq, i_le, i_lt, i0, i1, i4] at *; omega)
      · refine g_iload_n B dX6_isOf_14 rfl ?_
        refine g_callSi (As := [.int _]) B dX6_isOf_15 (gc1 g_X6_79) (by rfl) hd_X6_isNight (by exact ⟨Nat.le_of_ble_eq_true rfl, Nat.le_of_ble_eq_true rfl⟩) ⟨rfl, rfl⟩ rfl rfl (by exact Nat.le_of_ble_eq_true rfl) (c_isNight ?_)
        refine g_if_eq (tgt := 36) B dX6_isOf_18 (by decide) (fun c18 => ?_) (fun c18 => ?_)
        · refine g_iconst (v := (0)) B dX6_isOf_36 (by decide) ?_
          refine g_zreti B dX6_isOf_37 (by first | rfl | exact b1_nar) ?_
          refine kk (Eq.symm ?_) hK
          clear hK hm B
          try simp only [b1_0, b1_n0] at *
          first
            | (show ¬ _; unfold ofP isNt isUs; simp only [i_eq, i_le, i_lt, i0, i1, i4] at *; omega)
            | (refine b1_t ?_; unfold ofP isNt isUs; simp only [i_eq, i_le, i_lt, i0, i1, i4] at *; omega)
            | (refine b1_f ?_; unfold ofP isNt isUs; simp only [i_eq, i_le, i_lt, i0, i1, i4] at *; omega)
        · refine g_goto (tgt := 32) B dX6_isOf_21 (by decide) ?_
          refine g_iconst (v := (1)) B dX6_isOf_32 (by decide) ?_
          refine g_goto (tgt := 37) B dX6_isOf_33 (by decide) ?_
          refine g_zreti B dX6_isOf_37 (by first | rfl | exact b1_nar) ?_
          refine kk (Eq.symm ?_) hK
          clear hK hm B
          try simp only [b1_0, b1_n0] at *
          first
            | (show ¬ _; unfold ofP isNt isUs; simp only [i_eq, i_le, i_lt, i0, i1, i4] at *; omega)
            | (refine b1_t ?_; unfold ofP isNt isUs; simp only [i_eq, i_le, i_lt, i0, i1, i4] at *; omega)
            | (refine b1_f ?_; unfold ofP isNt isUs; simp only [i_eq, i_le, i_lt, i0, i1, i4] at *; omega)
def laysT (τ : St) (w o : Nat) (v : Int32) : St := if w = 0 then upS τ 0 7 v else if w = 1 then upS τ 4 o v else if w < 4 then upS τ 6 (2 * o + w - 2) v else if w = 4 then upS τ 5 o v else upS τ 0 4 v
set_option maxRecDepth 100000 in
set_option maxHeartbeats 4000000 in
theorem c_lays {Z : LZ} {ad : Nat → Nat} {τ : St} {K : St → Prop} {x y v : Int32} {w o : Nat} (hx : x = nI w) (hw : w ≤ 5) (hy1 : w = 1 → y = nI o ∧ o < 30) (hy2 : 2 ≤ w → w ≤ 4 → y = nI o ∧ o < 6) (hK : K (laysT τ w o v)) : CC lyM Z ad yX6_lays wsX6_lays (rmk 0) [.ref (ad 0), .int x, .int y, .int v] τ (rV K) := by
  refine CC.of (cc := cX6_lays) (nL := 4) (ret := none) rfl rfl ⟨rfl, rfl⟩ (by exact Nat.le_of_ble_eq_true rfl) ?_
  intro X B
  change GG _ _ _ _ X _ 0 [some (.ref (ad 0)), some (.int x), some (.int y), some (.int v)] [] _
  change Amb _ _ _ _ X _ _ RX6 _ _ at B
  subst hx
  unfold laysT at hK
  refine g_iload_n B dX6_lays_0 rfl ?_
  refine g_if_ne (tgt := 12) B dX6_lays_1 (by decide) (fun c1 => ?_) (fun c1 => ?_)
  · rw [show (0 : Int32) = nI 0 from rfl, nI_eqI (by omega) (by omega)] at c1
    refine g_iload_n B dX6_lays_12 rfl ?_
    refine g_iconst (v := (1)) B dX6_lays_13 (by decide) ?_
    refine g_icmp_ne (tgt := 27) B dX6_lays_14 (by decide) (fun c14 => ?_) (fun c14 => ?_)
    · rw [show (1 : Int32) = nI 1 from rfl, nI_eqI (by omega) (by omega)] at c14
      refine g_iload_n B dX6_lays_27 rfl ?_
      refine g_iconst (v := (4)) B dX6_lays_28 (by decide) ?_
      refine g_icmp_ge (tgt := 48) B dX6_lays_29 (by decide) (fun c29 => ?_) (fun c29 => ?_)
      · have c29' : 4 ≤ w := by
          have h4 := c29
          rw [show (4 : Int32) = nI 4 from rfl, nI_leI (by omega) (by omega)] at h4
          exact h4
        refine g_iload_n B dX6_lays_48 rfl ?_
        refine g_iconst (v := (4)) B dX6_lays_49 (by decide) ?_
        refine g_icmp_ne (tgt := 63) B dX6_lays_50 (by decide) (fun c50 => ?_) (fun c50 => ?_)
        · rw [show (4 : Int32) = nI 4 from rfl, nI_eqI (by omega) (by omega)] at c50
          refine g_aload_n B dX6_lays_63 rfl ?_
          refine g_iload_n B dX6_lays_64 rfl ?_
          refine g_putI (T := TX6) (N := 42) B dX6_lays_65 (by decide) (by rfl) (inq inlX6) rfl 4 (by decide) (mq f_X6_107) tyX6_ok nmX6 rfl ⟨rfl, rfl⟩ (by rfl) ?_
          refine g_vreti B dX6_lays_68 ?_
          first
            | (rw [if_pos c1] at hK; exact hK)
            | (rw [if_neg c1, if_pos c14] at hK; exact hK)
            | (rw [if_neg c1, if_neg c14, if_pos c29'] at hK; exact hK)
            | (rw [if_neg c1, if_neg c14, if_neg (Nat.not_lt.mpr c29'), if_pos c50] at hK; exact hK)
            | (rw [if_neg c1, if_neg c14, if_neg (Nat.not_lt.mpr c29'), if_neg c50] at hK; exact hK)
        · rw [show (4 : Int32) = nI 4 from rfl, nI_eqI (by omega) (by omega)] at c50
          obtain ⟨rfl, ho⟩ := hy2 (by omega) (by omega)
          refine g_aload_n B dX6_lays_53 rfl ?_
          refine g_getR (T := TX6) (N := 42) B dX6_lays_54 (by decide) (by rfl) (inq inlX6) rfl 9 (by decide) (mq f_X6_26) (by rfl) ?_
          refine g_iload_n B dX6_lays_57 rfl ?_
          refine g_iload_n B dX6_lays_58 rfl ?_
          refine g_iast B dX6_lays_59 (by decide) (by rfl) (by exact vp_in_nI ho (by omega)) ?_
          rw [i_cl (by omega)]
          refine g_goto (tgt := 68) B dX6_lays_60 (by decide) ?_
          refine g_vreti B dX6_lays_68 ?_
          first
            | (rw [if_pos c1] at hK; exact hK)
            | (rw [if_neg c1, if_pos c14] at hK; exact hK)
            | (rw [if_neg c1, if_neg c14, if_pos c29'] at hK; exact hK)
            | (rw [if_neg c1, if_neg c14, if_neg (Nat.not_lt.mpr c29'), if_pos c50] at hK; exact hK)
            | (rw [if_neg c1, if_neg c14, if_neg (Nat.not_lt.mpr c29'), if_neg c50] at hK; exact hK)
      · have c29' : w < 4 := by
          have h4 := Int32.not_le.mp c29
          rw [show (4 : Int32) = nI 4 from rfl, nI_ltI (by omega) (by omega)] at h4
          exact h4
        obtain ⟨rfl, ho⟩ := hy2 (by omega) (by omega)
        refine g_aload_n B dX6_lays_32 rfl ?_
        refine g_getR (T := TX6) (N := 42) B dX6_lays_33 (by decide) (by rfl) (inq inlX6) rfl 10 (by decide) (mq f_X6_29) (by rfl) ?_
        refine g_iconst (v := (2)) B dX6_lays_36 (by decide) ?_
        refine g_iload_n B dX6_lays_37 rfl ?_
        refine g_imul B dX6_lays_38 ?_
        rw [show (2 : Int32) * nI o = nI (2 * o) from pk_mul 2 o]
        refine g_iload_n B dX6_lays_39 rfl ?_
        refine g_iadd B dX6_lays_40 ?_
        rw [nI_add]
        refine g_iconst (v := (2)) B dX6_lays_41 (by decide) ?_
        refine g_isub B dX6_lays_42 ?_
        rw [show nI (2 * o + w) - 2 = nI (2 * o + w - 2) from pk_sub (b := 2) (by omega)]
        refine g_iload_n B dX6_lays_43 rfl ?_
        refine g_iast B dX6_lays_44 (by decide) (by rfl) (by exact vp_in_nI (by omega) (by omega)) ?_
        rw [i_cl (by omega)]
        refine g_goto (tgt := 68) B dX6_lays_45 (by decide) ?_
        refine g_vreti B dX6_lays_68 ?_
        first
          | (rw [if_pos c1] at hK; exact hK)
          | (rw [if_neg c1, if_pos c14] at hK; exact hK)
          | (rw [if_neg c1, if_neg c14, if_pos c29'] at hK; exact hK)
          | (rw [if_neg c1, if_neg c14, if_neg (Nat.not_lt.mpr c29'), if_pos c50] at hK; exact hK)
          | (rw [if_neg c1, if_neg c14, if_neg (Nat.not_lt.mpr c29'), if_neg c50] at hK; exact hK)
    · rw [show (1 : Int32) = nI 1 from rfl, nI_eqI (by omega) (by omega)] at c14
      obtain ⟨rfl, ho⟩ := hy1 c14
      refine g_aload_n B dX6_lays_17 rfl ?_
      refine g_getR (T := TX6) (N := 42) B dX6_lays_18 (by decide) (by rfl) (inq inlX6) rfl 8 (by decide) (mq f_X6_23) (by rfl) ?_
      refine g_iload_n B dX6_lays_21 rfl ?_
      refine g_iload_n B dX6_lays_22 rfl ?_
      refine g_iast B dX6_lays_23 (by decide) (by rfl) (by exact vp_in_nI ho (by omega)) ?_
      rw [i_cl (by omega)]
      refine g_goto (tgt := 68) B dX6_lays_24 (by decide) ?_
      refine g_vreti B dX6_lays_68 ?_
      first
        | (rw [if_pos c1] at hK; exact hK)
        | (rw [if_neg c1, if_pos c14] at hK; exact hK)
        | (rw [if_neg c1, if_neg c14, if_pos c29'] at hK; exact hK)
        | (rw [if_neg c1, if_neg c14, if_neg (Nat.not_lt.mpr c29'), if_pos c50] at hK; exact hK)
        | (rw [if_neg c1, if_neg c14, if_neg (Nat.not_lt.mpr c29'), if_neg c50] at hK; exact hK)
  · rw [show (0 : Int32) = nI 0 from rfl, nI_eqI (by omega) (by omega)] at c1
    refine g_aload_n B dX6_lays_4 rfl ?_
    refine g_iload_n B dX6_lays_5 rfl ?_
    refine g_putI (T := TX6) (N := 42) B dX6_lays_6 (by decide) (by rfl) (inq inlX6) rfl 7 (by decide) (mq f_X6_104) tyX6_ok nmX6 rfl ⟨rfl, rfl⟩ (by rfl) ?_
    refine g_goto (tgt := 68) B dX6_lays_9 (by decide) ?_
    refine g_vreti B dX6_lays_68 ?_
    first
      | (rw [if_pos c1] at hK; exact hK)
      | (rw [if_neg c1, if_pos c14] at hK; exact hK)
      | (rw [if_neg c1, if_neg c14, if_pos c29'] at hK; exact hK)
      | (rw [if_neg c1, if_neg c14, if_neg (Nat.not_lt.mpr c29'), if_pos c50] at hK; exact hK)
      | (rw [if_neg c1, if_neg c14, if_neg (Nat.not_lt.mpr c29'), if_neg c50] at hK; exact hK)
def fTold (τ : St) (C : TC) (m : Nat) (x y : Int32) : Int32 :=
  if (0 ≤ y.toInt ∧ y.toInt ≤ 6) ∧ ofP m y x then
    (if ¬ 5 ≤ y then
      (if y = 0 then τ.1 0 7 else if y = 1 then τ.1 4 x.toNatClampNeg else if ¬ 4 ≤ y then τ.1 6 (2 * x.toNatClampNeg + y.toNatClampNeg - 2) else τ.1 5 x.toNatClampNeg)
    else if y = 5 then nI (sRn (τ.1 0 7) x.toNatClampNeg) else sMost C (τ.1 4 x.toNatClampNeg) x.toNatClampNeg (sTw (τ.1 0 7) x.toNatClampNeg) (τ.1 0 11))
  else -2
theorem ofP_nt {m : Nat} {w x : Int32} (h : ofP m w x) (h0 : ¬ w = 0) (h1 : w = 1 ∨ ¬ w ≤ 4) : ∃ t, t < 30 ∧ x = nI t := by
  rcases h with h | h | h
  · exact absurd h h0
  · exact i_nat (n := 30) h.2.1 (by have := h.2.2; omega)
  · exact absurd h1 h.1
theorem ofP_us {m : Nat} {w x : Int32} (h : ofP m w x) (h0 : ¬ w = 0) (h1 : ¬ (w = 1 ∨ ¬ w ≤ 4)) : ∃ u, u < m ∧ x = nI u := by
  rcases h with h | h | h
  · exact absurd h h0
  · exact absurd h.1 h1
  · exact i_nat h.2.1 h.2.2
theorem i5 : (5 : Int32).toInt = 5 := rfl
set_option maxRecDepth 100000 in
set_option maxHeartbeats 4000000 in
theorem c_told {Z : LZ} {ad : Nat → Nat} {τ : St} {K : Int32 → St → Prop} {x y : Int32} {m : Nat} {C : TC} (hC : RUL τ C) (hm6 : m ≤ 6) (hm : τ.1 0 11 = nI m) (hK : ∀ τ', pkx mS τ τ' → K (fTold τ C m x y) τ') : CC lyM Z ad yX6_told wsX6_told (rmk 44) [.ref (ad 0), .int x, .int y] τ (rI K) := by
  refine CC.of (cc := cX6_told) (nL := 3) (ret := (some .int)) rfl rfl ⟨rfl, rfl⟩ (by exact Nat.le_of_ble_eq_true rfl) ?_
  intro X B
  change GG _ _ _ _ X _ 0 [some (.ref (ad 0)), some (.int x), some (.int y)] [] _
  change Amb _ _ _ _ X _ _ RX6 _ _ at B
  unfold fTold at hK
  refine g_iload_n B dX6_told_0 rfl ?_
  refine g_i2l B dX6_told_1 rfl ?_
  refine g_lconst (v := (0)) B dX6_told_2 (by decide) ?_
  refine g_ldc2 (v := (6)) B dX6_told_3 (mq k_X6_112) ?_
  refine g_callSi (As := [.long _, .long _, .long _]) B dX6_told_6 (gc1 g_X6_73) (by rfl) hd_X6_in (by exact ⟨Nat.le_of_ble_eq_true rfl, Nat.le_of_ble_eq_true rfl⟩) ⟨rfl, rfl⟩ rfl rfl (by exact Nat.le_of_ble_eq_true rfl) (c_in ?_)
  rw [in_0, show (6 : Int64).toInt = 6 from rfl]
  refine g_if_eq (tgt := 21) B dX6_told_9 (by decide) (fun c9 => ?_) (fun c9 => ?_)
  · first
      | rw [if_neg (fun z => b1_0.mp c9 z.1)] at hK
      | rw [if_neg (fun z => b1_0.mp c18 z.2)] at hK
    refine g_bipush (v := (-2)) B dX6_told_21 (by decide) ?_
    refine g_ireti B dX6_told_23 ?_
    first
      | exact hK _ pkx.rf
      | (rw [if_pos c83] at hK; exact hK _ pkx.rf)
      | (rw [if_neg c83] at hK; exact hK _ p1)
  · refine g_aload_n B dX6_told_12 rfl ?_
    refine g_iload_n B dX6_told_13 rfl ?_
    refine g_iload_n B dX6_told_14 rfl ?_
    refine g_callVi (C := RX6) (As := [.int _, .int _]) B dX6_told_15 (gc1 g_X6_88) (by rfl) ⟨rfl, hd_X6_isOf⟩ (by exact ⟨Nat.le_of_ble_eq_true rfl, Nat.le_of_ble_eq_true rfl⟩) ⟨rfl, rfl⟩ rfl rfl (by exact Nat.le_of_ble_eq_true rfl) recvM (c_isOf hm6 hm ?_)
    refine g_if_ne (tgt := 24) B dX6_told_18 (by decide) (fun c18 => ?_) (fun c18 => ?_)
    · have hq := b1_n0.mp c18
      rw [if_pos (And.intro (b1_n0.mp c9) hq)] at hK
      refine g_iload_n B dX6_told_24 rfl ?_
      refine g_iconst (v := (5)) B dX6_told_25 (by decide) ?_
      refine g_icmp_ge (tgt := 81) B dX6_told_26 (by decide) (fun c26 => ?_) (fun c26 => ?_)
      · rw [if_neg (fun z => z c26)] at hK
        have hq5 : ¬ y ≤ 4 := fun z => by
          have h1 := i_le.mp z
          have h2 := i_le.mp c26
          rw [i4] at h1
          rw [i5] at h2
          omega
        obtain ⟨t, ht, rfl⟩ := ofP_nt hq (fun z => hq5 (by rw [z]; decide)) (Or.inr hq5)
        rw [i_cl (by omega)] at hK
        refine g_iload_n B dX6_told_81 rfl ?_
        refine g_iconst (v := (5)) B dX6_told_82 (by decide) ?_
        refine g_icmp_ne (tgt := 97) B dX6_told_83 (by decide) (fun c83 => ?_) (fun c83 => ?_)
        · refine g_aload_n B dX6_told_97 rfl ?_
          refine g_iload_n B dX6_told_98 rfl ?_
          refine g_aload_n B dX6_told_99 rfl ?_
          refine g_getI (T := TX6) (N := 42) B dX6_told_100 (by decide) (by rfl) (inq inlX6) rfl 7 (by decide) (mq f_X6_104) (by rfl) ?_
          refine g_iload_n B dX6_told_103 rfl ?_
          refine g_callSi (As := [.int _, .int _]) B dX6_told_104 (gc1 g_X6_117) (by rfl) hd_X6_townOf (by exact ⟨Nat.le_of_ble_eq_true rfl, Nat.le_of_ble_eq_true rfl⟩) ⟨rfl, rfl⟩ rfl rfl (by exact Nat.le_of_ble_eq_true rfl) (c_townOf rfl (by omega) ?_)
          refine g_callVi (C := RX6) (As := [.int _, .int _]) B dX6_told_107 (gc1 g_X6_120) (by rfl) ⟨rfl, hd_X6_mostOf⟩ (by exact ⟨Nat.le_of_ble_eq_true rfl, Nat.le_of_ble_eq_true rfl⟩) ⟨rfl, rfl⟩ rfl rfl (by exact Nat.le_of_ble_eq_true rfl) recvM (c_mostOf hC rfl ht (fun τ1 p1 => ?_))
          refine g_ireti B dX6_told_110 ?_
          first
            | exact hK _ pkx.rf
            | (rw [if_pos c83] at hK; exact hK _ pkx.rf)
            | (rw [if_neg c83] at hK; exact hK _ p1)
        · refine g_aload_n B dX6_told_86 rfl ?_
          refine g_getI (T := TX6) (N := 42) B dX6_told_87 (by decide) (by rfl) (inq inlX6) rfl 7 (by decide) (mq f_X6_104) (by rfl) ?_
          refine g_iload_n B dX6_told_90 rfl ?_
          refine g_callSi (As := [.int _, .int _]) B dX6_told_91 (gc1 g_X6_114) (by rfl) hd_X6_runOf (by exact ⟨Nat.le_of_ble_eq_true rfl, Nat.le_of_ble_eq_true rfl⟩) ⟨rfl, rfl⟩ rfl rfl (by exact Nat.le_of_ble_eq_true rfl) (c_runOf rfl ht ?_)
          refine g_goto (tgt := 110) B dX6_told_94 (by decide) ?_
          refine g_ireti B dX6_told_110 ?_
          first
            | exact hK _ pkx.rf
            | (rw [if_pos c83] at hK; exact hK _ pkx.rf)
            | (rw [if_neg c83] at hK; exact hK _ p1)
      · rw [if_pos c26] at hK
        refine g_iload_n B dX6_told_29 rfl ?_
        refine g_if_ne (tgt := 40) B dX6_told_30 (by decide) (fun c30 => ?_) (fun c30 => ?_)
        · rw [if_neg c30] at hK
          refine g_iload_n B dX6_told_40 rfl ?_
          refine g_iconst (v := (1)) B dX6_told_41 (by decide) ?_
          refine g_icmp_ne (tgt := 54) B dX6_told_42 (by decide) (fun c42 => ?_) (fun c42 => ?_)
          · rw [if_neg c42] at hK
            obtain ⟨u, hu, rfl⟩ := ofP_us hq c30 (fun z => z.elim c42 (fun z => z (i_le.mpr (by have := i_lt.mp (Int32.not_le.mp c26); rw [i5] at this; rw [i4]; omega))))
            rw [i_cl (by omega)] at hK
            have hy : ∃ w, w < 6 ∧ y = nI w := i_nat (n := 6) (b1_n0.mp c9).1 (by have := i_lt.mp (Int32.not_le.mp c26); rw [i5] at this; omega)
            obtain ⟨w, hw, rfl⟩ := hy
            rw [show (0 : Int32) = nI 0 from rfl, nI_eqI (by omega) (by omega)] at c30
            rw [show (1 : Int32) = nI 1 from rfl, nI_eqI (by omega) (by omega)] at c42
            refine g_iload_n B dX6_told_54 rfl ?_
            refine g_iconst (v := (4)) B dX6_told_55 (by decide) ?_
            refine g_icmp_ge (tgt := 74) B dX6_told_56 (by decide) (fun c56 => ?_) (fun c56 => ?_)
            · rw [if_neg (fun z => z c56)] at hK
              refine g_aload_n B dX6_told_74 rfl ?_
              refine g_getR (T := TX6) (N := 42) B dX6_told_75 (by decide) (by rfl) (inq inlX6) rfl 9 (by decide) (mq f_X6_26) (by rfl) ?_
              refine g_iload_n B dX6_told_78 rfl ?_
              refine g_iald B dX6_told_79 (by decide) (by rfl) (by exact vp_in_nI (n := u) (by omega) (by omega)) ?_
              first | rw [i_cl (by omega)] | skip
              refine g_ireti B dX6_told_80 ?_
              first
                | exact hK _ pkx.rf
                | (rw [if_pos c83] at hK; exact hK _ pkx.rf)
                | (rw [if_neg c83] at hK; exact hK _ p1)
            · rw [if_pos c56, i_cl (by omega)] at hK
              refine g_aload_n B dX6_told_59 rfl ?_
              refine g_getR (T := TX6) (N := 42) B dX6_told_60 (by decide) (by rfl) (inq inlX6) rfl 10 (by decide) (mq f_X6_29) (by rfl) ?_
              refine g_iconst (v := (2)) B dX6_told_63 (by decide) ?_
              refine g_iload_n B dX6_told_64 rfl ?_
              refine g_imul B dX6_told_65 ?_
              rw [show (2 : Int32) * nI u = nI (2 * u) from pk_mul 2 u]
              refine g_iload_n B dX6_told_66 rfl ?_
              refine g_iadd B dX6_told_67 ?_
              rw [nI_add]
              refine g_iconst (v := (2)) B dX6_told_68 (by decide) ?_
              refine g_isub B dX6_told_69 ?_
              rw [show nI (2 * u + w) - 2 = nI (2 * u + w - 2) from pk_sub (b := 2) (by omega)]
              refine g_iald B dX6_told_70 (by decide) (by rfl) (by
              have c56' := Int32.not_le.mp c56
              rw [show (4 : Int32) = nI 4 from rfl, nI_ltI (by omega) (by omega)] at c56'
              exact vp_in_nI (by omega) (by omega)) ?_
              rw [i_cl (by omega)]
              refine g_goto (tgt := 80) B dX6_told_71 (by decide) ?_
              first | rw [i_cl (by omega)] | skip
              refine g_ireti B dX6_told_80 ?_
              first
                | exact hK _ pkx.rf
                | (rw [if_pos c83] at hK; exact hK _ pkx.rf)
                | (rw [if_neg c83] at hK; exact hK _ p1)
          · rw [if_pos c42] at hK
            obtain ⟨t, ht, rfl⟩ := ofP_nt hq c30 (Or.inl c42)
            rw [i_cl (by omega)] at hK
            refine g_aload_n B dX6_told_45 rfl ?_
            refine g_getR (T := TX6) (N := 42) B dX6_told_46 (by decide) (by rfl) (inq inlX6) rfl 8 (by decide) (mq f_X6_23) (by rfl) ?_
            refine g_iload_n B dX6_told_49 rfl ?_
            refine g_iald B dX6_told_50 (by decide) (by rfl) (by exact vp_in_nI ht (by omega)) ?_
            rw [i_cl (by omega)]
            refine g_goto (tgt := 80) B dX6_told_51 (by decide) ?_
            first | rw [i_cl (by omega)] | skip
            refine g_ireti B dX6_told_80 ?_
            first
              | exact hK _ pkx.rf
              | (rw [if_pos c83] at hK; exact hK _ pkx.rf)
              | (rw [if_neg c83] at hK; exact hK _ p1)
        · rw [if_pos c30] at hK
          refine g_aload_n B dX6_told_33 rfl ?_
          refine g_getI (T := TX6) (N := 42) B dX6_told_34 (by decide) (by rfl) (inq inlX6) rfl 7 (by decide) (mq f_X6_104) (by rfl) ?_
          refine g_goto (tgt := 80) B dX6_told_37 (by decide) ?_
          first | rw [i_cl (by omega)] | skip
          refine g_ireti B dX6_told_80 ?_
          first
            | exact hK _ pkx.rf
            | (rw [if_pos c83] at hK; exact hK _ pkx.rf)
            | (rw [if_neg c83] at hK; exact hK _ p1)
    · first
        | rw [if_neg (fun z => b1_0.mp c9 z.1)] at hK
        | rw [if_neg (fun z => b1_0.mp c18 z.2)] at hK
      refine g_bipush (v := (-2)) B dX6_told_21 (by decide) ?_
      refine g_ireti B dX6_told_23 ?_
      first
        | exact hK _ pkx.rf
        | (rw [if_pos c83] at hK; exact hK _ pkx.rf)
        | (rw [if_neg c83] at hK; exact hK _ p1)

