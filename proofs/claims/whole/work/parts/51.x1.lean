/-! the program: its small methods -/
theorem i2 : (2 : Int32).toInt = 2 := rfl
theorem i6 : (6 : Int32).toInt = 6 := rfl
theorem i9 : (9 : Int32).toInt = 9 := rfl
theorem i30 : (30 : Int32).toInt = 30 := rfl
set_option maxRecDepth 100000 in
set_option maxHeartbeats 4000000 in
theorem x_bounded {ly : Lay} {Z : LZ} {ad : Nat → Nat} {τ : St} {K : Int32 → St → Prop} {v a b : Int32} (hab : a ≤ b) (hK : K (bd v a b) τ) : CC ly Z ad yX5_bounded wsX5_bounded (rmk 1) [.int v, .int a, .int b] τ (rI K) := by
  refine CC.of (cc := cX5_bounded) (nL := 3) (ret := (some .int)) rfl rfl ⟨rfl, rfl⟩ (by exact Nat.le_of_ble_eq_true rfl) ?_
  intro X B
  change GG _ _ _ _ X _ 0 [some (.int v), some (.int a), some (.int b)] [] _
  change Amb _ _ _ _ X _ _ RX5 _ _ at B
  refine g_iload_n B dX5_bounded_0 rfl ?_
  refine g_iload_n B dX5_bounded_1 rfl ?_
  refine g_iload_n B dX5_bounded_2 rfl ?_
  refine g_mmin B dX5_bounded_3 ⟨mq m_X5_207.1, mq m_X5_207.2.1, mq m_X5_207.2.2.1, mq m_X5_207.2.2.2⟩ (by exact ⟨Nat.le_of_ble_eq_true rfl, Nat.le_of_ble_eq_true rfl⟩) ?_
  refine g_mmax B dX5_bounded_6 ⟨mq m_X5_189.1, mq m_X5_189.2.1, mq m_X5_189.2.2.1, mq m_X5_189.2.2.2⟩ (by exact ⟨Nat.le_of_ble_eq_true rfl, Nat.le_of_ble_eq_true rfl⟩) ?_
  refine g_ireti B dX5_bounded_9 ?_
  refine kk ?_ hK
  unfold bd
  (repeat' split) <;> first | rfl | (simp only [i_lt, i_le, i_eq] at *; omega)
theorem ushr_tw {sh : Int32} {t : Nat} (ht : t < 32) : (sh.toUInt32 >>> ((nI t).toUInt32 &&& Int32.toUInt32 31)).toInt32 &&& 1 = sTw sh t := by
  have hs : (((nI t).toUInt32 &&& Int32.toUInt32 31).toBitVec % 32).toNat = t := by
    have : ∀ t, t < 32 → (((nI t).toUInt32 &&& Int32.toUInt32 31).toBitVec % 32).toNat = t := by decide
    exact this t ht
  have := pk_ushr sh (nI t) t hs
  rw [pk_and _ 1 (by decide)]
  unfold sTw
  rw [this]
set_option maxRecDepth 100000 in
set_option maxHeartbeats 4000000 in
theorem x_townOf {ly : Lay} {Z : LZ} {ad : Nat → Nat} {τ : St} {K : Int32 → St → Prop} {sh x : Int32} {t : Nat} (hx : x = nI t) (ht : t < 32) (hK : K (sTw sh t) τ) : CC ly Z ad yX5_townOf wsX5_townOf (rmk 0) [.int sh, .int x] τ (rI K) := by
  refine CC.of (cc := cX5_townOf) (nL := 2) (ret := (some .int)) rfl rfl ⟨rfl, rfl⟩ (by exact Nat.le_of_ble_eq_true rfl) ?_
  intro X B
  change GG _ _ _ _ X _ 0 [some (.int sh), some (.int x)] [] _
  change Amb _ _ _ _ X _ _ RX5 _ _ at B
  subst hx
  refine g_iload_n B dX5_townOf_0 rfl ?_
  refine g_iload_n B dX5_townOf_1 rfl ?_
  refine g_iushr B dX5_townOf_2 rfl ?_
  refine g_iconst (v := (1)) B dX5_townOf_3 (by decide) ?_
  refine g_iand B dX5_townOf_4 ?_
  refine g_ireti B dX5_townOf_5 ?_
  exact kk (ushr_tw ht) hK
set_option maxRecDepth 100000 in
set_option maxHeartbeats 4000000 in
theorem x_isNight {ly : Lay} {Z : LZ} {ad : Nat → Nat} {τ : St} {K : Int32 → St → Prop} {x : Int32} (hK : K (b1 (isNt x)) τ) : CC ly Z ad yX5_isNight wsX5_isNight (rmk 0) [.int x] τ (rI K) := by
  refine CC.of (cc := cX5_isNight) (nL := 1) (ret := (some .boolean)) rfl rfl ⟨rfl, rfl⟩ (by exact Nat.le_of_ble_eq_true rfl) ?_
  intro X B
  change GG _ _ _ _ X _ 0 [some (.int x)] [] _
  change Amb _ _ _ _ X _ _ RX5 _ _ at B
  refine g_iload_n B dX5_isNight_0 rfl ?_
  refine g_if_lt (tgt := 14) B dX5_isNight_1 (by decide) (fun c1 => ?_) (fun c1 => ?_)
  · refine g_iconst (v := (0)) B dX5_isNight_14 (by decide) ?_
    refine g_zreti B dX5_isNight_15 (by first | rfl | exact b1_nar | assumption) ?_
    refine kk (Eq.symm ?_) hK
    clear hK B
    first
      | (refine b1_t ?_; simp only [i_eq, i_le, i_lt, i0, i1, i2, i4, i6, i9, i30] at *; omega)
      | (refine b1_f ?_; simp only [i_eq, i_le, i_lt, i0, i1, i2, i4, i6, i9, i30] at *; omega)
  · refine g_iload_n B dX5_isNight_4 rfl ?_
    refine g_bipush (v := (30)) B dX5_isNight_5 (by decide) ?_
    refine g_icmp_ge (tgt := 14) B dX5_isNight_7 (by decide) (fun c7 => ?_) (fun c7 => ?_)
    · refine g_iconst (v := (0)) B dX5_isNight_14 (by decide) ?_
      refine g_zreti B dX5_isNight_15 (by first | rfl | exact b1_nar | assumption) ?_
      refine kk (Eq.symm ?_) hK
      clear hK B
      first
        | (refine b1_t ?_; simp only [i_eq, i_le, i_lt, i0, i1, i2, i4, i6, i9, i30] at *; omega)
        | (refine b1_f ?_; simp only [i_eq, i_le, i_lt, i0, i1, i2, i4, i6, i9, i30] at *; omega)
    · refine g_iconst (v := (1)) B dX5_isNight_10 (by decide) ?_
      refine g_goto (tgt := 15) B dX5_isNight_11 (by decide) ?_
      refine g_zreti B dX5_isNight_15 (by first | rfl | exact b1_nar | assumption) ?_
      refine kk (Eq.symm ?_) hK
      clear hK B
      first
        | (refine b1_t ?_; simp only [i_eq, i_le, i_lt, i0, i1, i2, i4, i6, i9, i30] at *; omega)
        | (refine b1_f ?_; simp only [i_eq, i_le, i_lt, i0, i1, i2, i4, i6, i9, i30] at *; omega)
set_option maxRecDepth 100000 in
set_option maxHeartbeats 4000000 in
theorem x_isDigit {ly : Lay} {Z : LZ} {ad : Nat → Nat} {τ : St} {K : Int32 → St → Prop} {x : Int32} (hK : K (b1 (0 ≤ x.toInt ∧ x.toInt ≤ 9)) τ) : CC ly Z ad yX5_isDigit wsX5_isDigit (rmk 0) [.int x] τ (rI K) := by
  refine CC.of (cc := cX5_isDigit) (nL := 1) (ret := (some .boolean)) rfl rfl ⟨rfl, rfl⟩ (by exact Nat.le_of_ble_eq_true rfl) ?_
  intro X B
  change GG _ _ _ _ X _ 0 [some (.int x)] [] _
  change Amb _ _ _ _ X _ _ RX5 _ _ at B
  refine g_iload_n B dX5_isDigit_0 rfl ?_
  refine g_if_lt (tgt := 14) B dX5_isDigit_1 (by decide) (fun c1 => ?_) (fun c1 => ?_)
  · refine g_iconst (v := (0)) B dX5_isDigit_14 (by decide) ?_
    refine g_zreti B dX5_isDigit_15 (by first | rfl | exact b1_nar | assumption) ?_
    refine kk (Eq.symm ?_) hK
    clear hK B
    first
      | (refine b1_t ?_; simp only [i_eq, i_le, i_lt, i0, i1, i2, i4, i6, i9, i30] at *; omega)
      | (refine b1_f ?_; simp only [i_eq, i_le, i_lt, i0, i1, i2, i4, i6, i9, i30] at *; omega)
  · refine g_iload_n B dX5_isDigit_4 rfl ?_
    refine g_bipush (v := (9)) B dX5_isDigit_5 (by decide) ?_
    refine g_icmp_gt (tgt := 14) B dX5_isDigit_7 (by decide) (fun c7 => ?_) (fun c7 => ?_)
    · refine g_iconst (v := (0)) B dX5_isDigit_14 (by decide) ?_
      refine g_zreti B dX5_isDigit_15 (by first | rfl | exact b1_nar | assumption) ?_
      refine kk (Eq.symm ?_) hK
      clear hK B
      first
        | (refine b1_t ?_; simp only [i_eq, i_le, i_lt, i0, i1, i2, i4, i6, i9, i30] at *; omega)
        | (refine b1_f ?_; simp only [i_eq, i_le, i_lt, i0, i1, i2, i4, i6, i9, i30] at *; omega)
    · refine g_iconst (v := (1)) B dX5_isDigit_10 (by decide) ?_
      refine g_goto (tgt := 15) B dX5_isDigit_11 (by decide) ?_
      refine g_zreti B dX5_isDigit_15 (by first | rfl | exact b1_nar | assumption) ?_
      refine kk (Eq.symm ?_) hK
      clear hK B
      first
        | (refine b1_t ?_; simp only [i_eq, i_le, i_lt, i0, i1, i2, i4, i6, i9, i30] at *; omega)
        | (refine b1_f ?_; simp only [i_eq, i_le, i_lt, i0, i1, i2, i4, i6, i9, i30] at *; omega)
set_option maxRecDepth 100000 in
set_option maxHeartbeats 4000000 in
theorem x_isTown {ly : Lay} {Z : LZ} {ad : Nat → Nat} {τ : St} {K : Int32 → St → Prop} {x : Int32} (hK : K (b1 (0 ≤ x.toInt ∧ x.toInt ≤ 1)) τ) : CC ly Z ad yX5_isTown wsX5_isTown (rmk 0) [.int x] τ (rI K) := by
  refine CC.of (cc := cX5_isTown) (nL := 1) (ret := (some .boolean)) rfl rfl ⟨rfl, rfl⟩ (by exact Nat.le_of_ble_eq_true rfl) ?_
  intro X B
  change GG _ _ _ _ X _ 0 [some (.int x)] [] _
  change Amb _ _ _ _ X _ _ RX5 _ _ at B
  refine g_iload_n B dX5_isTown_0 rfl ?_
  refine g_if_eq (tgt := 9) B dX5_isTown_1 (by decide) (fun c1 => ?_) (fun c1 => ?_)
  · refine g_iconst (v := (1)) B dX5_isTown_9 (by decide) ?_
    refine g_goto (tgt := 14) B dX5_isTown_10 (by decide) ?_
    refine g_zreti B dX5_isTown_14 (by first | rfl | exact b1_nar | assumption) ?_
    refine kk (Eq.symm ?_) hK
    clear hK B
    first
      | (refine b1_t ?_; simp only [i_eq, i_le, i_lt, i0, i1, i2, i4, i6, i9, i30] at *; omega)
      | (refine b1_f ?_; simp only [i_eq, i_le, i_lt, i0, i1, i2, i4, i6, i9, i30] at *; omega)
  · refine g_iload_n B dX5_isTown_4 rfl ?_
    refine g_iconst (v := (1)) B dX5_isTown_5 (by decide) ?_
    refine g_icmp_ne (tgt := 13) B dX5_isTown_6 (by decide) (fun c6 => ?_) (fun c6 => ?_)
    · refine g_iconst (v := (0)) B dX5_isTown_13 (by decide) ?_
      refine g_zreti B dX5_isTown_14 (by first | rfl | exact b1_nar | assumption) ?_
      refine kk (Eq.symm ?_) hK
      clear hK B
      first
        | (refine b1_t ?_; simp only [i_eq, i_le, i_lt, i0, i1, i2, i4, i6, i9, i30] at *; omega)
        | (refine b1_f ?_; simp only [i_eq, i_le, i_lt, i0, i1, i2, i4, i6, i9, i30] at *; omega)
    · refine g_iconst (v := (1)) B dX5_isTown_9 (by decide) ?_
      refine g_goto (tgt := 14) B dX5_isTown_10 (by decide) ?_
      refine g_zreti B dX5_isTown_14 (by first | rfl | exact b1_nar | assumption) ?_
      refine kk (Eq.symm ?_) hK
      clear hK B
      first
        | (refine b1_t ?_; simp only [i_eq, i_le, i_lt, i0, i1, i2, i4, i6, i9, i30] at *; omega)
        | (refine b1_f ?_; simp only [i_eq, i_le, i_lt, i0, i1, i2, i4, i6, i9, i30] at *; omega)
set_option maxRecDepth 100000 in
set_option maxHeartbeats 4000000 in
theorem x_isKind {ly : Lay} {Z : LZ} {ad : Nat → Nat} {τ : St} {K : Int32 → St → Prop} {x : Int32} (hK : K (b1 (0 ≤ x.toInt ∧ x.toInt ≤ 5)) τ) : CC ly Z ad yX5_isKind wsX5_isKind (rmk 0) [.int x] τ (rI K) := by
  refine CC.of (cc := cX5_isKind) (nL := 1) (ret := (some .boolean)) rfl rfl ⟨rfl, rfl⟩ (by exact Nat.le_of_ble_eq_true rfl) ?_
  intro X B
  change GG _ _ _ _ X _ 0 [some (.int x)] [] _
  change Amb _ _ _ _ X _ _ RX5 _ _ at B
  refine g_iload_n B dX5_isKind_0 rfl ?_
  refine g_if_lt (tgt := 14) B dX5_isKind_1 (by decide) (fun c1 => ?_) (fun c1 => ?_)
  · refine g_iconst (v := (0)) B dX5_isKind_14 (by decide) ?_
    refine g_zreti B dX5_isKind_15 (by first | rfl | exact b1_nar | assumption) ?_
    refine kk (Eq.symm ?_) hK
    clear hK B
    first
      | (refine b1_t ?_; simp only [i_eq, i_le, i_lt, i0, i1, i2, i4, i6, i9, i30] at *; omega)
      | (refine b1_f ?_; simp only [i_eq, i_le, i_lt, i0, i1, i2, i4, i6, i9, i30] at *; omega)
  · refine g_iload_n B dX5_isKind_4 rfl ?_
    refine g_bipush (v := (6)) B dX5_isKind_5 (by decide) ?_
    refine g_icmp_ge (tgt := 14) B dX5_isKind_7 (by decide) (fun c7 => ?_) (fun c7 => ?_)
    · refine g_iconst (v := (0)) B dX5_isKind_14 (by decide) ?_
      refine g_zreti B dX5_isKind_15 (by first | rfl | exact b1_nar | assumption) ?_
      refine kk (Eq.symm ?_) hK
      clear hK B
      first
        | (refine b1_t ?_; simp only [i_eq, i_le, i_lt, i0, i1, i2, i4, i6, i9, i30] at *; omega)
        | (refine b1_f ?_; simp only [i_eq, i_le, i_lt, i0, i1, i2, i4, i6, i9, i30] at *; omega)
    · refine g_iconst (v := (1)) B dX5_isKind_10 (by decide) ?_
      refine g_goto (tgt := 15) B dX5_isKind_11 (by decide) ?_
      refine g_zreti B dX5_isKind_15 (by first | rfl | exact b1_nar | assumption) ?_
      refine kk (Eq.symm ?_) hK
      clear hK B
      first
        | (refine b1_t ?_; simp only [i_eq, i_le, i_lt, i0, i1, i2, i4, i6, i9, i30] at *; omega)
        | (refine b1_f ?_; simp only [i_eq, i_le, i_lt, i0, i1, i2, i4, i6, i9, i30] at *; omega)
set_option maxRecDepth 100000 in
set_option maxHeartbeats 4000000 in
theorem x_isSheet {ly : Lay} {Z : LZ} {ad : Nat → Nat} {τ : St} {K : Int32 → St → Prop} {x : Int32} (hK : K (b1 (isSh x)) τ) : CC ly Z ad yX5_isSheet wsX5_isSheet (rmk 0) [.int x] τ (rI K) := by
  refine CC.of (cc := cX5_isSheet) (nL := 1) (ret := (some .boolean)) rfl rfl ⟨rfl, rfl⟩ (by exact Nat.le_of_ble_eq_true rfl) ?_
  intro X B
  change GG _ _ _ _ X _ 0 [some (.int x)] [] _
  change Amb _ _ _ _ X _ _ RX5 _ _ at B
  refine g_iload_n B dX5_isSheet_0 rfl ?_
  refine g_if_lt (tgt := 13) B dX5_isSheet_1 (by decide) (fun c1 => ?_) (fun c1 => ?_)
  · refine g_iconst (v := (0)) B dX5_isSheet_13 (by decide) ?_
    refine g_zreti B dX5_isSheet_14 (by first | rfl | exact b1_nar | assumption) ?_
    refine kk (Eq.symm ?_) hK
    clear hK B
    first
      | (refine b1_t ?_; simp only [i_eq, i_le, i_lt, i0, i1, i2, i4, i6, i9, i30] at *; omega)
      | (refine b1_f ?_; simp only [i_eq, i_le, i_lt, i0, i1, i2, i4, i6, i9, i30] at *; omega)
  · refine g_iload_n B dX5_isSheet_4 rfl ?_
    refine g_iconst (v := (4)) B dX5_isSheet_5 (by decide) ?_
    refine g_icmp_ge (tgt := 13) B dX5_isSheet_6 (by decide) (fun c6 => ?_) (fun c6 => ?_)
    · refine g_iconst (v := (0)) B dX5_isSheet_13 (by decide) ?_
      refine g_zreti B dX5_isSheet_14 (by first | rfl | exact b1_nar | assumption) ?_
      refine kk (Eq.symm ?_) hK
      clear hK B
      first
        | (refine b1_t ?_; simp only [i_eq, i_le, i_lt, i0, i1, i2, i4, i6, i9, i30] at *; omega)
        | (refine b1_f ?_; simp only [i_eq, i_le, i_lt, i0, i1, i2, i4, i6, i9, i30] at *; omega)
    · refine g_iconst (v := (1)) B dX5_isSheet_9 (by decide) ?_
      refine g_goto (tgt := 14) B dX5_isSheet_10 (by decide) ?_
      refine g_zreti B dX5_isSheet_14 (by first | rfl | exact b1_nar | assumption) ?_
      refine kk (Eq.symm ?_) hK
      clear hK B
      first
        | (refine b1_t ?_; simp only [i_eq, i_le, i_lt, i0, i1, i2, i4, i6, i9, i30] at *; omega)
        | (refine b1_f ?_; simp only [i_eq, i_le, i_lt, i0, i1, i2, i4, i6, i9, i30] at *; omega)
set_option maxRecDepth 100000 in
set_option maxHeartbeats 4000000 in
theorem x_isSort {ly : Lay} {Z : LZ} {ad : Nat → Nat} {τ : St} {K : Int32 → St → Prop} {x : Int32} (hK : K (b1 (0 ≤ x.toInt ∧ x.toInt ≤ 2)) τ) : CC ly Z ad yX5_isSort wsX5_isSort (rmk 0) [.int x] τ (rI K) := by
  refine CC.of (cc := cX5_isSort) (nL := 1) (ret := (some .boolean)) rfl rfl ⟨rfl, rfl⟩ (by exact Nat.le_of_ble_eq_true rfl) ?_
  intro X B
  change GG _ _ _ _ X _ 0 [some (.int x)] [] _
  change Amb _ _ _ _ X _ _ RX5 _ _ at B
  refine g_iload_n B dX5_isSort_0 rfl ?_
  refine g_if_lt (tgt := 13) B dX5_isSort_1 (by decide) (fun c1 => ?_) (fun c1 => ?_)
  · refine g_iconst (v := (0)) B dX5_isSort_13 (by decide) ?_
    refine g_zreti B dX5_isSort_14 (by first | rfl | exact b1_nar | assumption) ?_
    refine kk (Eq.symm ?_) hK
    clear hK B
    first
      | (refine b1_t ?_; simp only [i_eq, i_le, i_lt, i0, i1, i2, i4, i6, i9, i30] at *; omega)
      | (refine b1_f ?_; simp only [i_eq, i_le, i_lt, i0, i1, i2, i4, i6, i9, i30] at *; omega)
  · refine g_iload_n B dX5_isSort_4 rfl ?_
    refine g_iconst (v := (2)) B dX5_isSort_5 (by decide) ?_
    refine g_icmp_gt (tgt := 13) B dX5_isSort_6 (by decide) (fun c6 => ?_) (fun c6 => ?_)
    · refine g_iconst (v := (0)) B dX5_isSort_13 (by decide) ?_
      refine g_zreti B dX5_isSort_14 (by first | rfl | exact b1_nar | assumption) ?_
      refine kk (Eq.symm ?_) hK
      clear hK B
      first
        | (refine b1_t ?_; simp only [i_eq, i_le, i_lt, i0, i1, i2, i4, i6, i9, i30] at *; omega)
        | (refine b1_f ?_; simp only [i_eq, i_le, i_lt, i0, i1, i2, i4, i6, i9, i30] at *; omega)
    · refine g_iconst (v := (1)) B dX5_isSort_9 (by decide) ?_
      refine g_goto (tgt := 14) B dX5_isSort_10 (by decide) ?_
      refine g_zreti B dX5_isSort_14 (by first | rfl | exact b1_nar | assumption) ?_
      refine kk (Eq.symm ?_) hK
      clear hK B
      first
        | (refine b1_t ?_; simp only [i_eq, i_le, i_lt, i0, i1, i2, i4, i6, i9, i30] at *; omega)
        | (refine b1_f ?_; simp only [i_eq, i_le, i_lt, i0, i1, i2, i4, i6, i9, i30] at *; omega)

