/-! the reference: how a text is cut into tokens -/
/-- which text is read: its number, its size -/
def PT (τ : St) (t n : Nat) : Prop := t < 6 ∧ n ≤ 160 ∧ τ.1 0 18 = nI (160 * t) ∧ τ.1 0 19 = nI n
/-- its bytes -/
def gM (τ : St) (t n i : Nat) : Int32 := if i < n then τ.1 1 (160 * t + i) else -1
/-- what reading changes: here, token, tokenAt, open, bad, fault, and the long -/
abbrev pS : List Nat := [20, 21, 22, 24, 25, 26]
theorem nI_1e : (1 : Int32) = nI 1 := rfl
set_option maxRecDepth 100000 in
set_option maxHeartbeats 4000000 in
theorem c_byteAt {Z : LZ} {ad : Nat → Nat} {τ0 τ : St} {K : Int32 → St → Prop} {x : Int32} {t n j : Nat} (hp : PT τ0 t n) (hk : pkx pS τ0 τ) (hj : j ≤ 1000) (hx : x = nI j) (hK : K (gM τ0 t n j) τ) : CC lyM Z ad yX6_byteAt wsX6_byteAt (rmk 0) [.ref (ad 0), .int x] τ (rI K) := by
  refine CC.of (cc := cX6_byteAt) (nL := 2) (ret := (some .int)) rfl rfl ⟨rfl, rfl⟩ (by exact Nat.le_of_ble_eq_true rfl) ?_
  intro X B
  change GG _ _ _ _ X _ 0 [some (.ref (ad 0)), some (.int x)] [] _
  change Amb _ _ _ _ X _ _ RX6 _ _ at B
  have e18 : τ.1 0 18 = nI (160 * t) := (hk.2.1 18 (by decide)).trans hp.2.2.1
  have e19 : τ.1 0 19 = nI n := (hk.2.1 19 (by decide)).trans hp.2.2.2
  have ht := hp.1
  have hn := hp.2.1
  have e1 : τ.1 1 = τ0.1 1 := hk.1 1 (by decide)
  subst hx
  refine g_iload_n B dX6_byteAt_0 rfl ?_
  refine g_aload_n B dX6_byteAt_1 rfl ?_
  refine g_getI (T := TX6) (N := 42) B dX6_byteAt_2 (by decide) (by rfl) (inq inlX6) rfl 19 (by decide) (mq f_X6_128) (by rfl) ?_
  refine g_icmp_ge (tgt := 22) B dX6_byteAt_5 (by decide) (fun c5 => ?_) (fun c5 => ?_)
  · refine g_iconst (v := (-1)) B dX6_byteAt_22 (by decide) ?_
    refine g_ireti B dX6_byteAt_23 ?_
    refine kk ?_ hK
    unfold gM
    first
      | rw [if_pos hlt, e18, nI_add, i_cl (by omega), e1]
      | (rw [e19, i_le, i_n (by omega), i_n (by omega)] at c5; rw [if_neg (by omega)])
  · have hlt : j < n := by
      rw [e19, i_le, i_n (by omega), i_n (by omega)] at c5
      omega
    refine g_aload_n B dX6_byteAt_8 rfl ?_
    refine g_getR (T := TX6) (N := 42) B dX6_byteAt_9 (by decide) (by rfl) (inq inlX6) rfl 1 (by decide) (mq f_X6_13) (by rfl) ?_
    refine g_aload_n B dX6_byteAt_12 rfl ?_
    refine g_getI (T := TX6) (N := 42) B dX6_byteAt_13 (by decide) (by rfl) (inq inlX6) rfl 18 (by decide) (mq f_X6_131) (by rfl) ?_
    refine g_iload_n B dX6_byteAt_16 rfl ?_
    refine g_iadd B dX6_byteAt_17 ?_
    refine g_iald B dX6_byteAt_18 (by decide) (by rfl) (by rw [e18, nI_add]; exact vp_in_nI (by omega) (by omega)) ?_
    refine g_goto (tgt := 23) B dX6_byteAt_19 (by decide) ?_
    refine g_ireti B dX6_byteAt_23 ?_
    refine kk ?_ hK
    unfold gM
    first
      | rw [if_pos hlt, e18, nI_add, i_cl (by omega), e1]
      | (rw [e19, i_le, i_n (by omega), i_n (by omega)] at c5; rw [if_neg (by omega)])
def failS (τ : St) : St := if τ.1 0 25 = 0 then upS (upS τ 0 25 1) 0 26 (τ.1 0 22) else τ
set_option maxRecDepth 100000 in
set_option maxHeartbeats 4000000 in
theorem c_fail {Z : LZ} {ad : Nat → Nat} {τ : St} {K : St → Prop} (hK : K (failS τ)) : CC lyM Z ad yX6_fail wsX6_fail (rmk 0) [.ref (ad 0)] τ (rV K) := by
  refine CC.of (cc := cX6_fail) (nL := 1) (ret := none) rfl rfl ⟨rfl, rfl⟩ (by exact Nat.le_of_ble_eq_true rfl) ?_
  intro X B
  change GG _ _ _ _ X _ 0 [some (.ref (ad 0))] [] _
  change Amb _ _ _ _ X _ _ RX6 _ _ at B
  unfold failS at hK
  refine g_aload_n B dX6_fail_0 rfl ?_
  refine g_getI (T := TX6) (N := 42) B dX6_fail_1 (by decide) (by rfl) (inq inlX6) rfl 25 (by decide) (mq f_X6_161) (by rfl) ?_
  refine g_if_ne (tgt := 20) B dX6_fail_4 (by decide) (fun c4 => ?_) (fun c4 => ?_)
  · refine g_vreti B dX6_fail_20 ?_
    first | (rw [if_neg c4] at hK; exact hK) | (have c4' : τ.1 0 25 = 0 := c4; rw [if_pos c4'] at hK; rw [show (upS τ 0 25 1).1 0 22 = τ.1 0 22 from upS_2 (by decide)]; exact hK)
  · refine g_aload_n B dX6_fail_7 rfl ?_
    refine g_iconst (v := (1)) B dX6_fail_8 (by decide) ?_
    refine g_putI (T := TX6) (N := 42) B dX6_fail_9 (by decide) (by rfl) (inq inlX6) rfl 25 (by decide) (mq f_X6_161) tyX6_ok nmX6 rfl ⟨rfl, rfl⟩ (by rfl) ?_
    refine g_aload_n B dX6_fail_12 rfl ?_
    refine g_aload_n B dX6_fail_13 rfl ?_
    refine g_getI (T := TX6) (N := 42) B dX6_fail_14 (by decide) (by rfl) (inq inlX6) rfl 22 (by decide) (mq f_X6_141) (by rfl) ?_
    refine g_putI (T := TX6) (N := 42) B dX6_fail_17 (by decide) (by rfl) (inq inlX6) rfl 26 (by decide) (mq f_X6_165) tyX6_ok nmX6 rfl ⟨rfl, rfl⟩ (by rfl) ?_
    refine g_vreti B dX6_fail_20 ?_
    first | (rw [if_neg c4] at hK; exact hK) | (have c4' : τ.1 0 25 = 0 := c4; rw [if_pos c4'] at hK; rw [show (upS τ 0 25 1).1 0 22 = τ.1 0 22 from upS_2 (by decide)]; exact hK)
set_option maxRecDepth 100000 in
set_option maxHeartbeats 4000000 in
theorem c_isSign {Z : LZ} {ad : Nat → Nat} {τ : St} {K : Int32 → St → Prop} {s : Int32} (hK : K (b1 (τ.1 0 25 = 0 ∧ τ.1 0 21 = 3 ∧ τ.2.1 = s.toInt64)) τ) : CC lyM Z ad yX6_isSign wsX6_isSign (rmk 0) [.ref (ad 0), .int s] τ (rI K) := by
  refine CC.of (cc := cX6_isSign) (nL := 2) (ret := (some .boolean)) rfl rfl ⟨rfl, rfl⟩ (by exact Nat.le_of_ble_eq_true rfl) ?_
  intro X B
  change GG _ _ _ _ X _ 0 [some (.ref (ad 0)), some (.int s)] [] _
  change Amb _ _ _ _ X _ _ RX6 _ _ at B
  refine g_aload_n B dX6_isSign_0 rfl ?_
  refine g_getI (T := TX6) (N := 42) B dX6_isSign_1 (by decide) (by rfl) (inq inlX6) rfl 25 (by decide) (mq f_X6_161) (by rfl) ?_
  refine g_if_ne (tgt := 29) B dX6_isSign_4 (by decide) (fun c4 => ?_) (fun c4 => ?_)
  · refine g_iconst (v := (0)) B dX6_isSign_29 (by decide) ?_
    refine g_zreti B dX6_isSign_30 (by first | rfl | exact b1_nar | assumption) ?_
    refine kk ?_ hK
    unfold b1
    split <;> first | rfl | (exfalso; simp_all [l_cmp_eq0])
  · refine g_aload_n B dX6_isSign_7 rfl ?_
    refine g_getI (T := TX6) (N := 42) B dX6_isSign_8 (by decide) (by rfl) (inq inlX6) rfl 21 (by decide) (mq f_X6_144) (by rfl) ?_
    refine g_iconst (v := (3)) B dX6_isSign_11 (by decide) ?_
    refine g_icmp_ne (tgt := 29) B dX6_isSign_12 (by decide) (fun c12 => ?_) (fun c12 => ?_)
    · refine g_iconst (v := (0)) B dX6_isSign_29 (by decide) ?_
      refine g_zreti B dX6_isSign_30 (by first | rfl | exact b1_nar | assumption) ?_
      refine kk ?_ hK
      unfold b1
      split <;> first | rfl | (exfalso; simp_all [l_cmp_eq0])
    · refine g_aload_n B dX6_isSign_15 rfl ?_
      refine g_getL (T := TX6) (N := 42) B dX6_isSign_16 (by decide) (by rfl) (inq inlX6) rfl 23 (by decide) (mq f_X6_155) (by rfl) ?_
      refine g_iload_n B dX6_isSign_19 rfl ?_
      refine g_i2l B dX6_isSign_20 rfl ?_
      refine g_lcmp B dX6_isSign_21 ?_
      refine g_if_ne (tgt := 29) B dX6_isSign_22 (by decide) (fun c22 => ?_) (fun c22 => ?_)
      · refine g_iconst (v := (0)) B dX6_isSign_29 (by decide) ?_
        refine g_zreti B dX6_isSign_30 (by first | rfl | exact b1_nar | assumption) ?_
        refine kk ?_ hK
        unfold b1
        split <;> first | rfl | (exfalso; simp_all [l_cmp_eq0])
      · refine g_iconst (v := (1)) B dX6_isSign_25 (by decide) ?_
        refine g_goto (tgt := 30) B dX6_isSign_26 (by decide) ?_
        refine g_zreti B dX6_isSign_30 (by first | rfl | exact b1_nar | assumption) ?_
        refine kk ?_ hK
        unfold b1
        split <;> first | rfl | (exfalso; simp_all [l_cmp_eq0])
set_option maxRecDepth 100000 in
set_option maxHeartbeats 4000000 in
theorem c_isLetter {Z : LZ} {ad : Nat → Nat} {τ0 τ : St} {K : Int32 → St → Prop} {x a : Int32} {t n q e : Nat} (i : Nat) (hi : i < 8) (hp : PT τ0 t n) (hk : pkx pS τ0 τ) (hq : τ.1 0 22 = nI q ∧ q ≤ 160) (he : τ.1 0 20 = nI e ∧ e ≤ 161) (hx : x = nI i) (hK : K (b1 (l8 (gM τ0 t n) q e i = a)) τ) : CC lyM Z ad yX6_isLetter wsX6_isLetter (rmk 1) [.ref (ad 0), .int x, .int a] τ (rI K) := by
  refine CC.of (cc := cX6_isLetter) (nL := 3) (ret := (some .boolean)) rfl rfl ⟨rfl, rfl⟩ (by exact Nat.le_of_ble_eq_true rfl) ?_
  intro X B
  change GG _ _ _ _ X _ 0 [some (.ref (ad 0)), some (.int x), some (.int a)] [] _
  change Amb _ _ _ _ X _ _ RX6 _ _ at B
  subst hx
  obtain ⟨hq, hq2⟩ := hq
  obtain ⟨he, he2⟩ := he
  unfold l8 at hK
  refine g_aload_n B dX6_isLetter_0 rfl ?_
  refine g_getI (T := TX6) (N := 42) B dX6_isLetter_1 (by decide) (by rfl) (inq inlX6) rfl 22 (by decide) (mq f_X6_141) (by rfl) ?_
  refine g_iload_n B dX6_isLetter_4 rfl ?_
  refine g_iadd B dX6_isLetter_5 ?_
  refine g_aload_n B dX6_isLetter_6 rfl ?_
  refine g_getI (T := TX6) (N := 42) B dX6_isLetter_7 (by decide) (by rfl) (inq inlX6) rfl 20 (by decide) (mq f_X6_134) (by rfl) ?_
  refine g_icmp_ge (tgt := 35) B dX6_isLetter_10 (by decide) (fun c10 => ?_) (fun c10 => ?_)
  · refine g_iload_n B dX6_isLetter_35 rfl ?_
    refine g_if_ne (tgt := 43) B dX6_isLetter_36 (by decide) (fun c36 => ?_) (fun c36 => ?_)
    · refine g_iconst (v := (0)) B dX6_isLetter_43 (by decide) ?_
      refine g_zreti B dX6_isLetter_44 (by first | rfl | exact b1_nar | assumption) ?_
      refine kk ?_ hK
      rw [hq, he, nI_add, i_le, i_n (by omega), i_n (by omega)] at c10
      first
        | (rw [if_pos (by omega)]; first | (rw [b1_t c24]) | (rw [b1_f c24]) | (rw [b1_t c24]))
        | (rw [if_neg (by omega)]; first | (rw [b1_t c36.symm]) | (rw [b1_f (fun h => c36 h.symm)]))
    · refine g_iconst (v := (1)) B dX6_isLetter_39 (by decide) ?_
      refine g_goto (tgt := 44) B dX6_isLetter_40 (by decide) ?_
      refine g_zreti B dX6_isLetter_44 (by first | rfl | exact b1_nar | assumption) ?_
      refine kk ?_ hK
      rw [hq, he, nI_add, i_le, i_n (by omega), i_n (by omega)] at c10
      first
        | (rw [if_pos (by omega)]; first | (rw [b1_t c24]) | (rw [b1_f c24]) | (rw [b1_t c24]))
        | (rw [if_neg (by omega)]; first | (rw [b1_t c36.symm]) | (rw [b1_f (fun h => c36 h.symm)]))
  · refine g_aload_n B dX6_isLetter_13 rfl ?_
    refine g_aload_n B dX6_isLetter_14 rfl ?_
    refine g_getI (T := TX6) (N := 42) B dX6_isLetter_15 (by decide) (by rfl) (inq inlX6) rfl 22 (by decide) (mq f_X6_141) (by rfl) ?_
    refine g_iload_n B dX6_isLetter_18 rfl ?_
    refine g_iadd B dX6_isLetter_19 ?_
    refine g_callVi (C := RX6) (As := [.int _]) B dX6_isLetter_20 (gc1 g_X6_137) (by rfl) ⟨rfl, hd_X6_byteAt⟩ (by exact ⟨Nat.le_of_ble_eq_true rfl, Nat.le_of_ble_eq_true rfl⟩) ⟨rfl, rfl⟩ rfl rfl (by exact Nat.le_of_ble_eq_true rfl) recvM (c_byteAt (j := q + i) hp hk (by omega) (by rw [hq, nI_add]) ?_)
    refine g_iload_n B dX6_isLetter_23 rfl ?_
    refine g_icmp_ne (tgt := 31) B dX6_isLetter_24 (by decide) (fun c24 => ?_) (fun c24 => ?_)
    · refine g_iconst (v := (0)) B dX6_isLetter_31 (by decide) ?_
      refine g_goto (tgt := 44) B dX6_isLetter_32 (by decide) ?_
      refine g_zreti B dX6_isLetter_44 (by first | rfl | exact b1_nar | assumption) ?_
      refine kk ?_ hK
      rw [hq, he, nI_add, i_le, i_n (by omega), i_n (by omega)] at c10
      first
        | (rw [if_pos (by omega)]; first | (rw [b1_t c24]) | (rw [b1_f c24]) | (rw [b1_t c24]))
        | (rw [if_neg (by omega)]; first | (rw [b1_t c36.symm]) | (rw [b1_f (fun h => c36 h.symm)]))
    · refine g_iconst (v := (1)) B dX6_isLetter_27 (by decide) ?_
      refine g_goto (tgt := 44) B dX6_isLetter_28 (by decide) ?_
      refine g_zreti B dX6_isLetter_44 (by first | rfl | exact b1_nar | assumption) ?_
      refine kk ?_ hK
      rw [hq, he, nI_add, i_le, i_n (by omega), i_n (by omega)] at c10
      first
        | (rw [if_pos (by omega)]; first | (rw [b1_t c24]) | (rw [b1_f c24]) | (rw [b1_t c24]))
        | (rw [if_neg (by omega)]; first | (rw [b1_t c36.symm]) | (rw [b1_f (fun h => c36 h.symm)]))

