/-! sheets, films *program* -/
/-- a row all 0 -/
def zrX (τ : St) (s : Nat) : Nat → St
  | 0 => τ
  | i + 1 => upS (zrX τ s i) (s + 48) i 0
theorem zrX_o {τ : St} {s o : Nat} (h : o ≠ s + 48) : ∀ i, (zrX τ s i).1 o = τ.1 o
  | 0 => rfl
  | i + 1 => by
    unfold zrX
    rw [upS_3 h]
    exact zrX_o h i
theorem zrX_z {τ : St} {s : Nat} : ∀ i j, j < i → (zrX τ s i).1 (s + 48) j = 0
  | 0, _, h => absurd h (Nat.not_lt_zero _)
  | i + 1, j, h => by
    unfold zrX
    by_cases e : j = i
    · subst e; rw [upS_1]
    · rw [upS_2 e]; exact zrX_z i j (by omega)
theorem zrX_2 {τ : St} {s : Nat} : ∀ i, (zrX τ s i).2 = τ.2
  | 0 => rfl
  | i + 1 => zrX_2 i
set_option maxRecDepth 100000 in
set_option maxHeartbeats 4000000 in
theorem lx_bec {Z : LZ} {ad : Nat → Nat} {X : CX} {K : St → Prop} {τ : St} {s : Nat} {v w : Int32} (B : Amb lyX Z ad (rmk 2) X cX2_become wsX2_become RX2 4 none) (hs : s < 4) (hK : K (zrX τ s 40)) : ∀ (k i : Nat), i + k = 40 → GG lyX Z ad (rmk 2) X (rV K) 18 [some (.ref (ad (s + 44))), some (.int v), some (.int w), some (.int (nI i))] [] (zrX τ s i) := by
  intro k
  induction k using Nat.strongRecOn with
  | ind k ih =>
    intro i h1
    have hci : (nI i).toNatClampNeg = i := i_cl (by omega)
    refine g_iload_n B dX2_become_18 rfl ?_
    refine g_bipush (v := (40)) B dX2_become_19 (by decide) ?_
    refine g_icmp_ge (tgt := 37) B dX2_become_21 (by decide) (fun c21 => ?_) (fun c21 => ?_)
    · refine g_vreti B dX2_become_37 ?_
      rw [show (40 : Int32) = nI 40 from rfl, nI_leI (by omega) (by omega)] at c21
      have e : i = 40 := by omega
      subst e
      exact hK
    · rw [show (40 : Int32) = nI 40 from rfl, nI_leI (by omega) (by omega)] at c21
      refine g_aload_n B dX2_become_24 rfl ?_
      refine g_getR (T := TX2) (N := 3) B dX2_become_25 (hX (by omega)) (lo_s hs) (inq inlX2) rfl 2 (by decide) (mq f_X2_18) (by rfl) ?_
      refine g_iload_n B dX2_become_28 rfl ?_
      refine g_iconst (v := (0)) B dX2_become_29 (by decide) ?_
      refine g_iast B dX2_become_30 (hX (by omega)) (lo_i hs) (by exact vp_in_nI (by omega) (by omega)) ?_
      rw [hci]
      refine g_iinc (c9 := (1)) B dX2_become_31 rfl (by decide) (by decide) rfl ?_
      refine g_goto (tgt := 18) B dX2_become_34 (by decide) ?_
      rw [nI_1 i]
      exact ih (k - 1) (by omega) (i + 1) (by omega)
def bcX (τ : St) (s : Nat) (q : Int32) (n : Nat) : St := zrX (upS (upS τ (s + 44) 0 q) (s + 44) 1 (nI n)) s 40
set_option maxRecDepth 100000 in
set_option maxHeartbeats 4000000 in
theorem x_bec {Z : LZ} {ad : Nat → Nat} {τ : St} {K : St → Prop} {s n : Nat} {q v : Int32} {aK aV : Nat → Nat} {tb fm : Nat} (hE : SI Z aK aV tb fm) (hs : s < 4) (hv : v = nI n) (hn : n ≤ 40) (hK : K (bcX τ s q n)) : CC lyX Z ad yX2_become wsX2_become (rmk 2) [.ref (ad (s + 44)), .int q, .int v] τ (rV K) := by
  refine CC.of (cc := cX2_become) (nL := 4) (ret := none) rfl rfl ⟨rfl, rfl⟩ (by exact Nat.le_of_ble_eq_true rfl) ?_
  intro X B
  change GG _ _ _ _ X _ 0 [some (.ref (ad (s + 44))), some (.int q), some (.int v), none] [] _
  change Amb _ _ _ _ X _ _ RX2 _ _ at B
  subst hv
  refine g_aload_n B dX2_become_0 rfl ?_
  refine g_iload_n B dX2_become_1 rfl ?_
  refine g_putI (T := TX2) (N := 3) B dX2_become_2 (hX (by omega)) (lo_s hs) (inq inlX2) rfl 0 (by decide) (mq f_X2_9) tyX2_ok nmX2 rfl ⟨rfl, rfl⟩ (by rfl) ?_
  refine g_aload_n B dX2_become_5 rfl ?_
  refine g_iload_n B dX2_become_6 rfl ?_
  refine g_iconst (v := (0)) B dX2_become_7 (by decide) ?_
  refine g_bipush (v := (40)) B dX2_become_8 (by decide) ?_
  refine g_callNi (As := [.int _, .int _, .int _]) B dX2_become_10 (gc1 (fun w h => g_X5_198 w (List.mem_append_right _ h))) hE.nst ⟨mq (g_X5_198 _ (List.mem_append_left _ (List.mem_cons_of_mem _ List.mem_cons_self))), mq (g_X5_198 _ (List.mem_append_left _ (List.mem_cons_of_mem _ (List.mem_cons_of_mem _ List.mem_cons_self))))⟩ (by rfl) hd_X5_bounded (by exact ⟨Nat.le_of_ble_eq_true rfl, Nat.le_of_ble_eq_true rfl⟩) ⟨rfl, rfl⟩ rfl rfl (by exact Nat.le_of_ble_eq_true rfl) (x_bounded (by decide) ?_)
  rw [show bd (nI n) 0 40 = nI n from by
    unfold bd
    rw [if_neg (by rw [i_lt, i_n (by omega), i0]; omega), if_neg (by rw [i_lt, i_n (by omega), show (40 : Int32).toInt = 40 from rfl]; omega)]]
  refine g_putI (T := TX2) (N := 3) B dX2_become_13 (hX (by omega)) (lo_s hs) (inq inlX2) rfl 1 (by decide) (mq f_X2_15) tyX2_ok nmX2 rfl ⟨rfl, rfl⟩ (by rfl) ?_
  refine g_iconst (v := (0)) B dX2_become_16 (by decide) ?_
  refine g_istore_n B dX2_become_17 (by decide) rfl ?_
  exact lx_bec B hs hK 40 0 rfl
set_option maxRecDepth 100000 in
set_option maxHeartbeats 4000000 in
theorem x_miss {Z : LZ} {ad : Nat → Nat} {τ : St} {K : Int32 → St → Prop} {s : Nat} (hs : s < 4) (hK : K (b1 (τ.1 (s + 44) 0 = -1)) τ) : CC lyX Z ad yX2_isMissing wsX2_isMissing (rmk 0) [.ref (ad (s + 44))] τ (rI K) := by
  refine CC.of (cc := cX2_isMissing) (nL := 1) (ret := (some .boolean)) rfl rfl ⟨rfl, rfl⟩ (by exact Nat.le_of_ble_eq_true rfl) ?_
  intro X B
  change GG _ _ _ _ X _ 0 [some (.ref (ad (s + 44)))] [] _
  change Amb _ _ _ _ X _ _ RX2 _ _ at B
  refine g_aload_n B dX2_isMissing_0 rfl ?_
  refine g_getI (T := TX2) (N := 3) B dX2_isMissing_1 (hX (by omega)) (lo_s hs) (inq inlX2) rfl 0 (by decide) (mq f_X2_9) (by rfl) ?_
  refine g_iconst (v := (-1)) B dX2_isMissing_4 (by decide) ?_
  refine g_icmp_ne (tgt := 12) B dX2_isMissing_5 (by decide) (fun c5 => ?_) (fun c5 => ?_)
  · refine g_iconst (v := (0)) B dX2_isMissing_12 (by decide) ?_
    refine g_zreti B dX2_isMissing_13 (by first | rfl | exact b1_nar | assumption) ?_
    first
      | (rw [b1_t c5] at hK; exact hK)
      | (rw [b1_f c5] at hK; exact hK)
  · refine g_iconst (v := (1)) B dX2_isMissing_8 (by decide) ?_
    refine g_goto (tgt := 13) B dX2_isMissing_9 (by decide) ?_
    refine g_zreti B dX2_isMissing_13 (by first | rfl | exact b1_nar | assumption) ?_
    first
      | (rw [b1_t c5] at hK; exact hK)
      | (rw [b1_f c5] at hK; exact hK)
def cstX (q v : Int32) : Int32 := if q = 0 then v.toInt8.toInt32 else if q = 1 then v.toInt16.toInt32 else v
set_option maxRecDepth 100000 in
set_option maxHeartbeats 4000000 in
theorem x_put {Z : LZ} {ad : Nat → Nat} {τ : St} {K : St → Prop} {s i n : Nat} {x v : Int32} (hs : s < 4) (hx : x = nI i) (hi : i < n) (hn : n ≤ 40) (hz : τ.1 (s + 44) 1 = nI n) (hK : K (upS τ (s + 48) i (cstX (τ.1 (s + 44) 0) v))) : CC lyX Z ad yX2_put wsX2_put (rmk 0) [.ref (ad (s + 44)), .int x, .int v] τ (rV K) := by
  refine CC.of (cc := cX2_put) (nL := 3) (ret := none) rfl rfl ⟨rfl, rfl⟩ (by exact Nat.le_of_ble_eq_true rfl) ?_
  intro X B
  change GG _ _ _ _ X _ 0 [some (.ref (ad (s + 44))), some (.int x), some (.int v)] [] _
  change Amb _ _ _ _ X _ _ RX2 _ _ at B
  subst hx
  have hci : (nI i).toNatClampNeg = i := i_cl (by omega)
  unfold cstX at hK
  refine g_iload_n B dX2_put_0 rfl ?_
  refine g_if_lt (tgt := 12) B dX2_put_1 (by decide) (fun c1 => ?_) (fun c1 => ?_)
  · exact absurd (i_lt.mp c1) (by rw [i_n (by omega), i0]; omega)
  · refine g_iload_n B dX2_put_4 rfl ?_
    refine g_aload_n B dX2_put_5 rfl ?_
    refine g_getI (T := TX2) (N := 3) B dX2_put_6 (hX (by omega)) (lo_s hs) (inq inlX2) rfl 1 (by decide) (mq f_X2_15) (by rfl) ?_
    rw [hz]
    refine g_icmp_lt (tgt := 13) B dX2_put_9 (by decide) (fun c9 => ?_) (fun c9 => ?_)
    · refine g_aload_n B dX2_put_13 rfl ?_
      refine g_getR (T := TX2) (N := 3) B dX2_put_14 (hX (by omega)) (lo_s hs) (inq inlX2) rfl 2 (by decide) (mq f_X2_18) (by rfl) ?_
      refine g_iload_n B dX2_put_17 rfl ?_
      refine g_aload_n B dX2_put_18 rfl ?_
      refine g_getI (T := TX2) (N := 3) B dX2_put_19 (hX (by omega)) (lo_s hs) (inq inlX2) rfl 0 (by decide) (mq f_X2_9) (by rfl) ?_
      refine g_if_ne (tgt := 30) B dX2_put_22 (by decide) (fun c22 => ?_) (fun c22 => ?_)
      · refine g_aload_n B dX2_put_30 rfl ?_
        refine g_getI (T := TX2) (N := 3) B dX2_put_31 (hX (by omega)) (lo_s hs) (inq inlX2) rfl 0 (by decide) (mq f_X2_9) (by rfl) ?_
        refine g_iconst (v := (1)) B dX2_put_34 (by decide) ?_
        refine g_icmp_ne (tgt := 43) B dX2_put_35 (by decide) (fun c35 => ?_) (fun c35 => ?_)
        · refine g_iload_n B dX2_put_43 rfl ?_
          refine g_iast B dX2_put_44 (hX (by omega)) (lo_i hs) (by exact vp_in_nI (by omega) (by omega)) ?_
          rw [hci]
          refine g_vreti B dX2_put_45 ?_
          first
            | (rw [if_pos c22] at hK; exact hK)
            | (rw [if_neg c22, if_pos c35] at hK; exact hK)
            | (rw [if_neg c22, if_neg c35] at hK; exact hK)
        · refine g_iload_n B dX2_put_38 rfl ?_
          refine g_i2s B dX2_put_39 rfl ?_
          refine g_goto (tgt := 44) B dX2_put_40 (by decide) ?_
          refine g_iast B dX2_put_44 (hX (by omega)) (lo_i hs) (by exact vp_in_nI (by omega) (by omega)) ?_
          rw [hci]
          refine g_vreti B dX2_put_45 ?_
          first
            | (rw [if_pos c22] at hK; exact hK)
            | (rw [if_neg c22, if_pos c35] at hK; exact hK)
            | (rw [if_neg c22, if_neg c35] at hK; exact hK)
      · refine g_iload_n B dX2_put_25 rfl ?_
        refine g_i2b B dX2_put_26 rfl ?_
        refine g_goto (tgt := 44) B dX2_put_27 (by decide) ?_
        refine g_iast B dX2_put_44 (hX (by omega)) (lo_i hs) (by exact vp_in_nI (by omega) (by omega)) ?_
        rw [hci]
        refine g_vreti B dX2_put_45 ?_
        first
          | (rw [if_pos c22] at hK; exact hK)
          | (rw [if_neg c22, if_pos c35] at hK; exact hK)
          | (rw [if_neg c22, if_neg c35] at hK; exact hK)
    · exact absurd (show nI i < nI n by rw [i_lt, i_n (by omega), i_n (by omega)]; omega) c9
theorem cstX_id {q v : Int32} (h : -210 ≤ v.toInt ∧ v.toInt ≤ 210) (hq : q = 1) : cstX q v = v := by
  subst hq
  unfold cstX
  rw [if_neg (by decide), if_pos rfl]
  apply i_eq.mpr
  show (v.toInt16.toInt32).toInt = v.toInt
  rw [Int16.toInt_toInt32, Int32.toInt_toInt16]
  rw [Int.bmod_eq_of_le] <;> omega
/-- a sheet's row as far as f says -/
def flXT (τ : St) (s : Nat) (f : Nat → Int32) : Nat → St
  | 0 => τ
  | i + 1 => upS (flXT τ s f i) (s + 48) i (f i)

