/-! the reference: its small methods -/
set_option maxRecDepth 100000 in
set_option maxHeartbeats 4000000 in
theorem c_in {ly : Lay} {Z : LZ} {ad : Nat → Nat} {τ : St} {K : Int32 → St → Prop} {v a b : Int64} (hK : K (b1 (a ≤ v ∧ v ≤ b)) τ) : CC ly Z ad yX6_in wsX6_in (rmk 0) [.long v, .long a, .long b] τ (rI K) := by
  refine CC.of (cc := cX6_in) (nL := 6) (ret := (some .boolean)) rfl rfl ⟨rfl, rfl⟩ (by exact Nat.le_of_ble_eq_true rfl) ?_
  intro X B
  change GG _ _ _ _ X _ 0 [some (.long v), none, some (.long a), none, some (.long b), none] [] _
  change Amb _ _ _ _ X _ _ RX6 _ _ at B
  refine g_lload_n B dX6_in_0 rfl ?_
  refine g_lload_n B dX6_in_1 rfl ?_
  refine g_lcmp B dX6_in_2 ?_
  refine g_if_lt (tgt := 17) B dX6_in_3 (by decide) (fun c3 => ?_) (fun c3 => ?_)
  · refine g_iconst (v := (0)) B dX6_in_17 (by decide) ?_
    refine g_zreti B dX6_in_18 (by first | rfl | exact b1_nar | assumption) ?_
    refine kk ?_ hK
    unfold b1
    split <;> first | rfl | (exfalso; simp only [l_cmp_lt0, l_cmp_pos, l_lt, l_le] at *; omega)
  · refine g_lload_n B dX6_in_6 rfl ?_
    refine g_lload B dX6_in_7 rfl ?_
    refine g_lcmp B dX6_in_9 ?_
    refine g_if_gt (tgt := 17) B dX6_in_10 (by decide) (fun c10 => ?_) (fun c10 => ?_)
    · refine g_iconst (v := (0)) B dX6_in_17 (by decide) ?_
      refine g_zreti B dX6_in_18 (by first | rfl | exact b1_nar | assumption) ?_
      refine kk ?_ hK
      unfold b1
      split <;> first | rfl | (exfalso; simp only [l_cmp_lt0, l_cmp_pos, l_lt, l_le] at *; omega)
    · refine g_iconst (v := (1)) B dX6_in_13 (by decide) ?_
      refine g_goto (tgt := 18) B dX6_in_14 (by decide) ?_
      refine g_zreti B dX6_in_18 (by first | rfl | exact b1_nar | assumption) ?_
      refine kk ?_ hK
      unfold b1
      split <;> first | rfl | (exfalso; simp only [l_cmp_lt0, l_cmp_pos, l_lt, l_le] at *; omega)
def bd (v a b : Int32) : Int32 := if v < a then a else if b < v then b else v
def pln (v : Int32) : Int32 := if v < 0 then -v else v
set_option maxRecDepth 100000 in
set_option maxHeartbeats 4000000 in
theorem c_within {ly : Lay} {Z : LZ} {ad : Nat → Nat} {τ : St} {K : Int32 → St → Prop} {v a b : Int32} (hK : K (bd v a b) τ) : CC ly Z ad yX6_within wsX6_within (rmk 0) [.int v, .int a, .int b] τ (rI K) := by
  refine CC.of (cc := cX6_within) (nL := 3) (ret := (some .int)) rfl rfl ⟨rfl, rfl⟩ (by exact Nat.le_of_ble_eq_true rfl) ?_
  intro X B
  change GG _ _ _ _ X _ 0 [some (.int v), some (.int a), some (.int b)] [] _
  change Amb _ _ _ _ X _ _ RX6 _ _ at B
  refine g_iload_n B dX6_within_0 rfl ?_
  refine g_iload_n B dX6_within_1 rfl ?_
  refine g_icmp_ge (tgt := 9) B dX6_within_2 (by decide) (fun c2 => ?_) (fun c2 => ?_)
  · refine g_iload_n B dX6_within_9 rfl ?_
    refine g_iload_n B dX6_within_10 rfl ?_
    refine g_icmp_le (tgt := 18) B dX6_within_11 (by decide) (fun c11 => ?_) (fun c11 => ?_)
    · refine g_iload_n B dX6_within_18 rfl ?_
      refine g_ireti B dX6_within_19 ?_
      refine kk ?_ hK
      unfold bd
      (repeat' split) <;> first | rfl | (exfalso; simp only [i_lt, i_le] at *; omega)
    · refine g_iload_n B dX6_within_14 rfl ?_
      refine g_goto (tgt := 19) B dX6_within_15 (by decide) ?_
      refine g_ireti B dX6_within_19 ?_
      refine kk ?_ hK
      unfold bd
      (repeat' split) <;> first | rfl | (exfalso; simp only [i_lt, i_le] at *; omega)
  · refine g_iload_n B dX6_within_5 rfl ?_
    refine g_goto (tgt := 19) B dX6_within_6 (by decide) ?_
    refine g_ireti B dX6_within_19 ?_
    refine kk ?_ hK
    unfold bd
    (repeat' split) <;> first | rfl | (exfalso; simp only [i_lt, i_le] at *; omega)
set_option maxRecDepth 100000 in
set_option maxHeartbeats 4000000 in
theorem c_plain {ly : Lay} {Z : LZ} {ad : Nat → Nat} {τ : St} {K : Int32 → St → Prop} {v : Int32} (hK : K (pln v) τ) : CC ly Z ad yX6_plain wsX6_plain (rmk 0) [.int v] τ (rI K) := by
  refine CC.of (cc := cX6_plain) (nL := 1) (ret := (some .int)) rfl rfl ⟨rfl, rfl⟩ (by exact Nat.le_of_ble_eq_true rfl) ?_
  intro X B
  change GG _ _ _ _ X _ 0 [some (.int v)] [] _
  change Amb _ _ _ _ X _ _ RX6 _ _ at B
  refine g_iload_n B dX6_plain_0 rfl ?_
  refine g_if_ge (tgt := 9) B dX6_plain_1 (by decide) (fun c1 => ?_) (fun c1 => ?_)
  · refine g_iload_n B dX6_plain_9 rfl ?_
    refine g_ireti B dX6_plain_10 ?_
    refine kk ?_ hK
    unfold pln
    (repeat' split) <;> first | rfl | (exfalso; simp only [i_lt, i_le] at *; have : (0 : Int32).toInt = 0 := rfl; omega)
  · refine g_iload_n B dX6_plain_4 rfl ?_
    refine g_ineg B dX6_plain_5 ?_
    refine g_goto (tgt := 10) B dX6_plain_6 (by decide) ?_
    refine g_ireti B dX6_plain_10 ?_
    refine kk ?_ hK
    unfold pln
    (repeat' split) <;> first | rfl | (exfalso; simp only [i_lt, i_le] at *; have : (0 : Int32).toInt = 0 := rfl; omega)
theorem i0 : (0 : Int32).toInt = 0 := rfl
theorem l0 : (0 : Int64).toInt = 0 := rfl
theorem in_0 {x : Int32} {b : Int64} : b1 ((0 : Int64) ≤ x.toInt64 ∧ x.toInt64 ≤ b) = b1 (0 ≤ x.toInt ∧ x.toInt ≤ b.toInt) := by
  apply b1_ct
  rw [l_le, l_le, i_long, l0]
theorem in_a {x : Int32} {a b : Int64} : b1 (a ≤ x.toInt64 ∧ x.toInt64 ≤ b) = b1 (a.toInt ≤ x.toInt ∧ x.toInt ≤ b.toInt) := by
  apply b1_ct
  rw [l_le, l_le, i_long]
set_option maxRecDepth 100000 in
set_option maxHeartbeats 4000000 in
theorem c_isNight {ly : Lay} {Z : LZ} {ad : Nat → Nat} {τ : St} {K : Int32 → St → Prop} {t : Int32} (hK : K (b1 (0 ≤ t.toInt ∧ t.toInt ≤ 29)) τ) : CC ly Z ad yX6_isNight wsX6_isNight (rmk 1) [.int t] τ (rI K) := by
  refine CC.of (cc := cX6_isNight) (nL := 1) (ret := (some .boolean)) rfl rfl ⟨rfl, rfl⟩ (by exact Nat.le_of_ble_eq_true rfl) ?_
  intro X B
  change GG _ _ _ _ X _ 0 [some (.int t)] [] _
  change Amb _ _ _ _ X _ _ RX6 _ _ at B
  refine g_iload_n B dX6_isNight_0 rfl ?_
  refine g_i2l B dX6_isNight_1 rfl ?_
  refine g_lconst (v := (0)) B dX6_isNight_2 (by decide) ?_
  refine g_ldc2 (v := (29)) B dX6_isNight_3 (mq k_X6_77) ?_
  refine g_callSi (As := [.long _, .long _, .long _]) B dX6_isNight_6 (gc1 g_X6_73) (by rfl) hd_X6_in (by exact ⟨Nat.le_of_ble_eq_true rfl, Nat.le_of_ble_eq_true rfl⟩) ⟨rfl, rfl⟩ rfl rfl (by exact Nat.le_of_ble_eq_true rfl) (c_in ?_)
  refine g_zreti B dX6_isNight_9 (by first | rfl | exact b1_nar | assumption) ?_
  refine kk ?_ hK
  exact in_0
set_option maxRecDepth 100000 in
set_option maxHeartbeats 4000000 in
theorem c_isSheet {ly : Lay} {Z : LZ} {ad : Nat → Nat} {τ : St} {K : Int32 → St → Prop} {t : Int32} (hK : K (b1 (0 ≤ t.toInt ∧ t.toInt ≤ 3)) τ) : CC ly Z ad yX6_isSheet wsX6_isSheet (rmk 1) [.int t] τ (rI K) := by
  refine CC.of (cc := cX6_isSheet) (nL := 1) (ret := (some .boolean)) rfl rfl ⟨rfl, rfl⟩ (by exact Nat.le_of_ble_eq_true rfl) ?_
  intro X B
  change GG _ _ _ _ X _ 0 [some (.int t)] [] _
  change Amb _ _ _ _ X _ _ RX6 _ _ at B
  refine g_iload_n B dX6_isSheet_0 rfl ?_
  refine g_i2l B dX6_isSheet_1 rfl ?_
  refine g_lconst (v := (0)) B dX6_isSheet_2 (by decide) ?_
  refine g_ldc2 (v := (3)) B dX6_isSheet_3 (mq k_X6_86) ?_
  refine g_callSi (As := [.long _, .long _, .long _]) B dX6_isSheet_6 (gc1 g_X6_73) (by rfl) hd_X6_in (by exact ⟨Nat.le_of_ble_eq_true rfl, Nat.le_of_ble_eq_true rfl⟩) ⟨rfl, rfl⟩ rfl rfl (by exact Nat.le_of_ble_eq_true rfl) (c_in ?_)
  refine g_zreti B dX6_isSheet_9 (by first | rfl | exact b1_nar | assumption) ?_
  refine kk ?_ hK
  exact in_0
set_option maxRecDepth 100000 in
set_option maxHeartbeats 4000000 in
theorem c_isUser {Z : LZ} {ad : Nat → Nat} {τ : St} {K : Int32 → St → Prop} {u : Int32} {n : Nat} (hn : n ≤ 6) (hm : τ.1 0 11 = nI n) (hK : K (b1 (0 ≤ u.toInt ∧ u.toInt < n)) τ) : CC lyM Z ad yX6_isUser wsX6_isUser (rmk 1) [.ref (ad 0), .int u] τ (rI K) := by
  refine CC.of (cc := cX6_isUser) (nL := 2) (ret := (some .boolean)) rfl rfl ⟨rfl, rfl⟩ (by exact Nat.le_of_ble_eq_true rfl) ?_
  intro X B
  change GG _ _ _ _ X _ 0 [some (.ref (ad 0)), some (.int u)] [] _
  change Amb _ _ _ _ X _ _ RX6 _ _ at B
  refine g_iload_n B dX6_isUser_0 rfl ?_
  refine g_i2l B dX6_isUser_1 rfl ?_
  refine g_lconst (v := (0)) B dX6_isUser_2 (by decide) ?_
  refine g_aload_n B dX6_isUser_3 rfl ?_
  refine g_getI (T := TX6) (N := 42) B dX6_isUser_4 (by decide) (by rfl) (inq inlX6) rfl 11 (by decide) (mq f_X6_70) (by rfl) ?_
  refine g_iconst (v := (1)) B dX6_isUser_7 (by decide) ?_
  refine g_isub B dX6_isUser_8 ?_
  refine g_i2l B dX6_isUser_9 rfl ?_
  refine g_callSi (As := [.long _, .long _, .long _]) B dX6_isUser_10 (gc1 g_X6_73) (by rfl) hd_X6_in (by exact ⟨Nat.le_of_ble_eq_true rfl, Nat.le_of_ble_eq_true rfl⟩) ⟨rfl, rfl⟩ rfl rfl (by exact Nat.le_of_ble_eq_true rfl) (c_in ?_)
  refine g_zreti B dX6_isUser_13 (by first | rfl | exact b1_nar | assumption) ?_
  refine kk ?_ hK
  rw [in_0]
  apply b1_ct
  have h1 : (τ.1 0 11 - 1).toInt = (n : Int) - 1 := by
    have : (1 : Int32).toInt = 1 := rfl
    rw [i_sub] <;> rw [hm, i_n (by omega)] <;> omega
  rw [i_long, h1]
  omega

