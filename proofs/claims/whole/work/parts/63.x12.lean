/-! user, feed, force, settle, count, taken *program* -/
set_option maxRecDepth 100000 in
set_option maxHeartbeats 4000000 in
theorem x_become {Z : LZ} {ad : Nat → Nat} {τ : St} {K : St → Prop} {o : Nat} {x y z : Int32} (hU : UO o) (hK : K (upS (upS (upS τ o 0 x) o 1 y) o 2 z)) : CC lyX Z ad yX4_become wsX4_become (rmk 0) [.ref (ad o), .int x, .int y, .int z] τ (rV K) := by
  refine CC.of (cc := cX4_become) (nL := 4) (ret := none) rfl rfl ⟨rfl, rfl⟩ (by exact Nat.le_of_ble_eq_true rfl) ?_
  intro X B
  change GG _ _ _ _ X _ 0 [some (.ref (ad o)), some (.int x), some (.int y), some (.int z)] [] _
  change Amb _ _ _ _ X _ _ RX4 _ _ at B
  refine g_aload_n B dX4_become_0 rfl ?_
  refine g_iload_n B dX4_become_1 rfl ?_
  refine g_putI (T := TX4) (N := 3) B dX4_become_2 (hU.lt) (hU.lo) (inq inlX4) rfl 0 (by decide) (mq f_X4_9) tyX4_ok nmX4 rfl ⟨rfl, rfl⟩ (by rfl) ?_
  refine g_aload_n B dX4_become_5 rfl ?_
  refine g_iload_n B dX4_become_6 rfl ?_
  refine g_putI (T := TX4) (N := 3) B dX4_become_7 (hU.lt) (hU.lo) (inq inlX4) rfl 1 (by decide) (mq f_X4_15) tyX4_ok nmX4 rfl ⟨rfl, rfl⟩ (by rfl) ?_
  refine g_aload_n B dX4_become_10 rfl ?_
  refine g_iload_n B dX4_become_11 rfl ?_
  refine g_putI (T := TX4) (N := 3) B dX4_become_12 (hU.lt) (hU.lo) (inq inlX4) rfl 2 (by decide) (mq f_X4_18) tyX4_ok nmX4 rfl ⟨rfl, rfl⟩ (by rfl) ?_
  refine g_vreti B dX4_become_15 ?_
  exact hK
set_option maxRecDepth 100000 in
set_option maxHeartbeats 4000000 in
theorem z_user {Z : LZ} {ad : Nat → Nat} {a b : St} {T : Nat → TC} {m c r p : Nat} {K : Int32 → St → Prop} {x y z : Int32} (hm6 : m ≤ 6) (hc6 : c ≤ 6) (hR : REL a b T m c r p) (hK : ∀ b', REL (gUser a m x y z) b' T (mU m x y z) c r p → K (fUser m x y z) b') : CC lyX Z ad yX5_user wsX5_user (rmk 2) [.ref (ad 0), .int x, .int y, .int z] b (rI K) := by
  refine CC.of (cc := cX5_user) (nL := 4) (ret := (some .int)) rfl rfl ⟨rfl, rfl⟩ (by exact Nat.le_of_ble_eq_true rfl) ?_
  intro X B
  change GG _ _ _ _ X _ 0 [some (.ref (ad 0)), some (.int x), some (.int y), some (.int z)] [] _
  change Amb _ _ _ _ X _ _ RX5 _ _ at B
  unfold gUser mU fUser at hK
  refine g_iload_n B dX5_user_0 rfl ?_
  refine g_callSi (As := [.int _]) B dX5_user_1 (gc1 g_X5_117) (by rfl) hd_X5_isKind (by exact ⟨Nat.le_of_ble_eq_true rfl, Nat.le_of_ble_eq_true rfl⟩) ⟨rfl, rfl⟩ rfl rfl (by exact Nat.le_of_ble_eq_true rfl) (x_isKind ?_)
  refine g_if_eq (tgt := 21) B dX5_user_4 (by decide) (fun c4 => ?_) (fun c4 => ?_)
  · have hu : ¬ usrP x y z := fun q => by
      first
      | exact b1_0.mp c18 q.2.2
      | exact b1_0.mp c11 q.2.1
      | exact b1_0.mp c4 q.1
    rw [if_neg hu, if_neg hu, if_neg hu] at hK
    refine g_bipush (v := (-2)) B dX5_user_21 (by decide) ?_
    refine g_ireti B dX5_user_23 ?_
    exact hK _ hR
  · refine g_iload_n B dX5_user_7 rfl ?_
    refine g_callSi (As := [.int _]) B dX5_user_8 (gc1 g_X5_102) (by rfl) hd_X5_isDigit (by exact ⟨Nat.le_of_ble_eq_true rfl, Nat.le_of_ble_eq_true rfl⟩) ⟨rfl, rfl⟩ rfl rfl (by exact Nat.le_of_ble_eq_true rfl) (x_isDigit ?_)
    refine g_if_eq (tgt := 21) B dX5_user_11 (by decide) (fun c11 => ?_) (fun c11 => ?_)
    · have hu : ¬ usrP x y z := fun q => by
        first
        | exact b1_0.mp c18 q.2.2
        | exact b1_0.mp c11 q.2.1
        | exact b1_0.mp c4 q.1
      rw [if_neg hu, if_neg hu, if_neg hu] at hK
      refine g_bipush (v := (-2)) B dX5_user_21 (by decide) ?_
      refine g_ireti B dX5_user_23 ?_
      exact hK _ hR
    · refine g_iload_n B dX5_user_14 rfl ?_
      refine g_callSi (As := [.int _]) B dX5_user_15 (gc1 g_X5_111) (by rfl) hd_X5_isTown (by exact ⟨Nat.le_of_ble_eq_true rfl, Nat.le_of_ble_eq_true rfl⟩) ⟨rfl, rfl⟩ rfl rfl (by exact Nat.le_of_ble_eq_true rfl) (x_isTown ?_)
      refine g_if_ne (tgt := 24) B dX5_user_18 (by decide) (fun c18 => ?_) (fun c18 => ?_)
      · have hu : usrP x y z := ⟨b1_n0.mp c4, b1_n0.mp c11, b1_n0.mp c18⟩
        rw [if_pos hu, if_pos hu, if_pos hu] at hK
        refine g_aload_n B dX5_user_24 rfl ?_
        refine g_getI (T := TX5) (N := 16) B dX5_user_25 (by decide) (by rfl) (inq inlX5) rfl 3 (by decide) (mq f_X5_23) (by rfl) ?_
        rw [hR.1.2.1]
        refine g_bipush (v := (6)) B dX5_user_28 (by decide) ?_
        refine g_icmp_lt (tgt := 36) B dX5_user_30 (by decide) (fun c30 => ?_) (fun c30 => ?_)
        · have e6 : ¬ m = 6 := by
            rw [i_lt, i_n (by omega), i6] at c30
            omega
          rw [if_neg e6, if_neg e6, if_neg e6] at hK
          have hU : UO (m + 20) := UO.u (by omega)
          refine g_aload_n B dX5_user_36 rfl ?_
          refine g_getR (T := TX5) (N := 16) B dX5_user_37 (by decide) (by rfl) (inq inlX5) rfl 2 (by decide) (mq f_X5_19) (by rfl) ?_
          refine g_aload_n B dX5_user_40 rfl ?_
          refine g_getI (T := TX5) (N := 16) B dX5_user_41 (by decide) (by rfl) (inq inlX5) rfl 3 (by decide) (mq f_X5_23) (by rfl) ?_
          rw [hR.1.2.1]
          refine g_aald B dX5_user_44 (by decide) (by rfl) (by exact vp_in_nI (by omega) (by omega)) ?_
          rw [i_cl (show m < 2147483648 by omega)]
          refine g_iload_n B dX5_user_45 rfl ?_
          refine g_iload_n B dX5_user_46 rfl ?_
          refine g_iload_n B dX5_user_47 rfl ?_
          refine g_callVv (C := RX4) (As := [.int _, .int _, .int _]) B dX5_user_48 (gc1 g_X5_120) (by rfl) ⟨rfl, hd_X4_become⟩ (by exact ⟨Nat.le_of_ble_eq_true rfl, Nat.le_of_ble_eq_true rfl⟩) ⟨rfl, rfl⟩ rfl rfl (by exact Nat.le_of_ble_eq_true rfl) (hU.recv) (x_become hU ?_)
          refine g_aload_n B dX5_user_51 rfl ?_
          refine g_dup B dX5_user_52 rfl ?_
          refine g_getI (T := TX5) (N := 16) B dX5_user_53 (by decide) (by rfl) (inq inlX5) rfl 3 (by decide) (mq f_X5_23) (by rfl) ?_
          refine g_iconst (v := (1)) B dX5_user_56 (by decide) ?_
          rw [show (upS (upS (upS b (m + 20) 0 x) (m + 20) 1 y) (m + 20) 2 z).1 0 3 = nI m from by rw [upS_3 (by omega), upS_3 (by omega), upS_3 (by omega)]; exact hR.1.2.1]
          refine g_iadd B dX5_user_57 ?_
          rw [nI_1]
          refine g_putI (T := TX5) (N := 16) B dX5_user_58 (by decide) (by rfl) (inq inlX5) rfl 3 (by decide) (mq f_X5_23) tyX5_ok nmX5 rfl ⟨rfl, rfl⟩ (by rfl) ?_
          refine g_aload_n B dX5_user_61 rfl ?_
          refine g_getI (T := TX5) (N := 16) B dX5_user_62 (by decide) (by rfl) (inq inlX5) rfl 3 (by decide) (mq f_X5_23) (by rfl) ?_
          rw [upS_1]
          refine g_iconst (v := (1)) B dX5_user_65 (by decide) ?_
          refine g_isub B dX5_user_66 ?_
          rw [show nI (m + 1) - 1 = nI m from pk_sub (b := 1) (by omega)]
          refine g_ireti B dX5_user_67 ?_
          refine hK _ ?_
          have h1 := ((hR.kind (u := m) (v := x) hc6 (by omega)).num (u := m) (v := y) hc6 (by omega)).town (u := m) (v := z) hc6 (by omega)
          exact h1.p0 hc6 (fun o ho => upS_3 ho) (fun o ho => upS_3 ho) (upS_2 (by decide)) (upS_2 (by decide)) (upS_2 (by decide)) ⟨by rw [upS_2 (by decide), upS_2 (by decide)]; exact h1.1.1, by rw [upS_1], by rw [upS_2 (by decide)]; exact h1.1.2.2.1, by rw [upS_2 (by decide)]; exact h1.1.2.2.2⟩
        · have e6 : m = 6 := by
            rw [i_lt, i_n (by omega), i6] at c30
            omega
          rw [if_pos e6, if_pos e6, if_pos e6] at hK
          refine g_bipush (v := (-4)) B dX5_user_33 (by decide) ?_
          refine g_ireti B dX5_user_35 ?_
          exact hK _ hR
      · have hu : ¬ usrP x y z := fun q => by
          first
          | exact b1_0.mp c18 q.2.2
          | exact b1_0.mp c11 q.2.1
          | exact b1_0.mp c4 q.1
        rw [if_neg hu, if_neg hu, if_neg hu] at hK
        refine g_bipush (v := (-2)) B dX5_user_21 (by decide) ?_
        refine g_ireti B dX5_user_23 ?_
        exact hK _ hR
set_option maxRecDepth 100000 in
set_option maxHeartbeats 4000000 in
theorem x_comes {Z : LZ} {ad : Nat → Nat} {τ : St} {K : Int32 → St → Prop} {x : Int32} {p : Nat} (hp6 : p ≤ 160) (hp : τ.1 11 1 = nI p) (hK1 : p = 160 → K 0 τ) (hK2 : ¬ p = 160 → K 1 (upS (upS τ 16 p x) 11 1 (nI (p + 1)))) : CC lyX Z ad yX1_comesBehind wsX1_comesBehind (rmk 0) [.ref (ad 11), .int x] τ (rI K) := by
  refine CC.of (cc := cX1_comesBehind) (nL := 2) (ret := (some .boolean)) rfl rfl ⟨rfl, rfl⟩ (by exact Nat.le_of_ble_eq_true rfl) ?_
  intro X B
  change GG _ _ _ _ X _ 0 [some (.ref (ad 11)), some (.int x)] [] _
  change Amb _ _ _ _ X _ _ RX1 _ _ at B
  refine g_aload_n B dX1_comesBehind_0 rfl ?_
  refine g_getI (T := TX1) (N := 9) B dX1_comesBehind_1 (by decide) (by rfl) (inq inlX1) rfl 1 (by decide) (mq f_X1_15) (by rfl) ?_
  rw [hp]
  refine g_sipush (v := (160)) B dX1_comesBehind_4 (by decide) ?_
  refine g_icmp_lt (tgt := 12) B dX1_comesBehind_7 (by decide) (fun c7 => ?_) (fun c7 => ?_)
  · have e : ¬ p = 160 := by
      rw [i_lt, i_n (by omega), show (160 : Int32).toInt = 160 from rfl] at c7
      omega
    refine g_aload_n B dX1_comesBehind_12 rfl ?_
    refine g_getR (T := TX1) (N := 9) B dX1_comesBehind_13 (by decide) (by rfl) (inq inlX1) rfl 0 (by decide) (mq f_X1_9) (by rfl) ?_
    refine g_aload_n B dX1_comesBehind_16 rfl ?_
    refine g_getI (T := TX1) (N := 9) B dX1_comesBehind_17 (by decide) (by rfl) (inq inlX1) rfl 1 (by decide) (mq f_X1_15) (by rfl) ?_
    rw [hp]
    refine g_iload_n B dX1_comesBehind_20 rfl ?_
    refine g_iast B dX1_comesBehind_21 (by decide) (by rfl) (by exact vp_in_nI (by omega) (by omega)) ?_
    rw [i_cl (show p < 2147483648 by omega)]
    refine g_aload_n B dX1_comesBehind_22 rfl ?_
    refine g_dup B dX1_comesBehind_23 rfl ?_
    refine g_getI (T := TX1) (N := 9) B dX1_comesBehind_24 (by decide) (by rfl) (inq inlX1) rfl 1 (by decide) (mq f_X1_15) (by rfl) ?_
    rw [show (upS τ 16 p x).1 11 1 = nI p from by rw [upS_3 (by decide)]; exact hp]
    refine g_iconst (v := (1)) B dX1_comesBehind_27 (by decide) ?_
    refine g_iadd B dX1_comesBehind_28 ?_
    rw [nI_1]
    refine g_putI (T := TX1) (N := 9) B dX1_comesBehind_29 (by decide) (by rfl) (inq inlX1) rfl 1 (by decide) (mq f_X1_15) tyX1_ok nmX1 rfl ⟨rfl, rfl⟩ (by rfl) ?_
    refine g_iconst (v := (1)) B dX1_comesBehind_32 (by decide) ?_
    refine g_zreti B dX1_comesBehind_33 (by rfl) ?_
    exact hK2 e
  · have e : p = 160 := by
      rw [i_lt, i_n (by omega), show (160 : Int32).toInt = 160 from rfl] at c7
      omega
    refine g_iconst (v := (0)) B dX1_comesBehind_10 (by decide) ?_
    refine g_zreti B dX1_comesBehind_11 (by rfl) ?_
    exact hK1 e
set_option maxRecDepth 100000 in
set_option maxHeartbeats 4000000 in
theorem z_feed {Z : LZ} {ad : Nat → Nat} {a b : St} {T : Nat → TC} {m c r p : Nat} {K : Int32 → St → Prop} {x : Int32} (hI : INV a T m c r p) (hR : REL a b T m c r p) (hK : ∀ b', REL (gFeed a p x) b' T m c r (pF p x) → K (fFeed p x) b') : CC lyX Z ad yX5_feed wsX5_feed (rmk 1) [.ref (ad 0), .int x] b (rI K) := by
  refine CC.of (cc := cX5_feed) (nL := 2) (ret := (some .int)) rfl rfl ⟨rfl, rfl⟩ (by exact Nat.le_of_ble_eq_true rfl) ?_
  intro X B
  change GG _ _ _ _ X _ 0 [some (.ref (ad 0)), some (.int x)] [] _
  change Amb _ _ _ _ X _ _ RX5 _ _ at B
  have hc6 := hI.1.2.1.2.1
  have hp6 := hI.1.2.2.2.1
  unfold gFeed pF fFeed at hK
  refine g_iload_n B dX5_feed_0 rfl ?_
  refine g_if_lt (tgt := 11) B dX5_feed_1 (by decide) (fun c1 => ?_) (fun c1 => ?_)
  · have hx : ¬ (0 ≤ x.toInt ∧ x.toInt ≤ 255) := fun q => by
      first
      | exact absurd (i_lt.mp c1) (by rw [i0]; omega)
      | exact c8 (i_le.mpr q.2)
    rw [if_neg hx, if_neg hx, if_neg hx] at hK
    refine g_bipush (v := (-2)) B dX5_feed_11 (by decide) ?_
    refine g_ireti B dX5_feed_13 ?_
    exact hK _ hR
  · refine g_iload_n B dX5_feed_4 rfl ?_
    refine g_sipush (v := (255)) B dX5_feed_5 (by decide) ?_
    refine g_icmp_le (tgt := 14) B dX5_feed_8 (by decide) (fun c8 => ?_) (fun c8 => ?_)
    · have hx : 0 ≤ x.toInt ∧ x.toInt ≤ 255 := ⟨i_le.mp (Int32.not_lt.mp c1), i_le.mp c8⟩
      rw [if_pos hx, if_pos hx, if_pos hx] at hK
      refine g_aload_n B dX5_feed_14 rfl ?_
      refine g_getR (T := TX5) (N := 16) B dX5_feed_15 (by decide) (by rfl) (inq inlX5) rfl 5 (by decide) (mq f_X5_34) (by rfl) ?_
      refine g_iload_n B dX5_feed_18 rfl ?_
      refine g_callVi (C := RX1) (As := [.int _]) B dX5_feed_19 (gc1 g_X5_136) (by rfl) ⟨rfl, hd_X1_comesBehind⟩ (by exact ⟨Nat.le_of_ble_eq_true rfl, Nat.le_of_ble_eq_true rfl⟩) ⟨rfl, rfl⟩ rfl rfl (by exact Nat.le_of_ble_eq_true rfl) recv1 (x_comes hp6 hR.2.1.1 (fun e => ?_) (fun e => ?_))
      · rw [if_pos e, if_pos e, if_pos e] at hK
        refine g_if_eq (tgt := 35) B dX5_feed_22 (by decide) (fun c22 => ?_) (fun c22 => ?_)
        · refine g_bipush (v := (-4)) B dX5_feed_35 (by decide) ?_
          refine g_ireti B dX5_feed_37 ?_
          first
            | exact hK _ hR
            | (refine hK _ ?_
               obtain ⟨h0, ⟨h5, h6⟩, h7, h8, h9, h10, h11⟩ := hR
               refine ⟨?_, ⟨upS_1, fun i hi => ?_⟩, ?_, ?_, ?_, ?_, ?_⟩
               · rw [upS_3 (by decide), upS_3 (by decide), upS_2 (by decide), upS_3 (by decide)]; exact h0
               · rw [show (upS (upS b 16 p x) 11 1 (nI (p + 1))).1 16 = (upS b 16 p x).1 16 from upS_3 (by decide), show (upS (upS a 3 p x) 0 6 (nI (p + 1))).1 3 = (upS a 3 p x).1 3 from upS_3 (by decide)]
                 by_cases q : i = p
                 · subst q; rw [upS_1, upS_1]
                 · rw [upS_2 q, upS_2 q]; exact h6 i (by omega)
               · rw [upS_3 (by decide), upS_3 (by decide), upS_3 (by decide), upS_3 (by decide)]; exact h7
               · exact h8.eq (by rw [upS_3 (by decide), upS_3 (by decide)]) (by rw [upS_3 (by decide), upS_3 (by decide)]) (fun u hu => by rw [upS_3 (by omega), upS_3 (by omega)])
               · exact TXX.eqs h9 (fun o h1 h2 => by rw [upS_3 (by omega), upS_3 (by omega)]) hc6
               · exact h10.eq (by rw [upS_3 (by decide), upS_3 (by decide)]) (by rw [upS_3 (by decide), upS_3 (by decide)]) (by rw [upS_3 (by decide), upS_3 (by decide)]) (by rw [upS_3 (by decide), upS_3 (by decide)]) (fun s hs => ⟨by rw [upS_3 (by omega), upS_3 (by omega)], by rw [upS_3 (by omega), upS_3 (by omega)]⟩)
               · exact h11.eq (by rw [upS_2 (by decide), upS_3 (by decide)]) (by rw [upS_2 (by decide), upS_3 (by decide)]) (by rw [upS_2 (by decide), upS_3 (by decide)]) (by rw [upS_3 (by decide), upS_3 (by decide)]) (by rw [upS_3 (by decide), upS_3 (by decide)]) (by rw [upS_3 (by decide), upS_3 (by decide)]) (by rw [upS_3 (by decide), upS_3 (by decide)]) (by rw [upS_3 (by decide), upS_3 (by decide)]) (by rw [upS_3 (by decide), upS_3 (by decide)]))
        · exact absurd rfl c22
      · rw [if_neg e, if_neg e, if_neg e] at hK
        refine g_if_eq (tgt := 35) B dX5_feed_22 (by decide) (fun c22 => ?_) (fun c22 => ?_)
        · exact absurd c22 (by decide)
        · refine g_aload_n B dX5_feed_25 rfl ?_
          refine g_getR (T := TX5) (N := 16) B dX5_feed_26 (by decide) (by rfl) (inq inlX5) rfl 5 (by decide) (mq f_X5_34) (by rfl) ?_
          refine g_getI (T := TX1) (N := 9) B dX5_feed_29 (by decide) (by rfl) (inq inlX1) rfl 1 (by decide) (mq f_X5_139) (by rfl) ?_
          rw [upS_1]
          refine g_goto (tgt := 37) B dX5_feed_32 (by decide) ?_
          refine g_ireti B dX5_feed_37 ?_
          first
            | exact hK _ hR
            | (refine hK _ ?_
               obtain ⟨h0, ⟨h5, h6⟩, h7, h8, h9, h10, h11⟩ := hR
               refine ⟨?_, ⟨upS_1, fun i hi => ?_⟩, ?_, ?_, ?_, ?_, ?_⟩
               · rw [upS_3 (by decide), upS_3 (by decide), upS_2 (by decide), upS_3 (by decide)]; exact h0
               · rw [show (upS (upS b 16 p x) 11 1 (nI (p + 1))).1 16 = (upS b 16 p x).1 16 from upS_3 (by decide), show (upS (upS a 3 p x) 0 6 (nI (p + 1))).1 3 = (upS a 3 p x).1 3 from upS_3 (by decide)]
                 by_cases q : i = p
                 · subst q; rw [upS_1, upS_1]
                 · rw [upS_2 q, upS_2 q]; exact h6 i (by omega)
               · rw [upS_3 (by decide), upS_3 (by decide), upS_3 (by decide), upS_3 (by decide)]; exact h7
               · exact h8.eq (by rw [upS_3 (by decide), upS_3 (by decide)]) (by rw [upS_3 (by decide), upS_3 (by decide)]) (fun u hu => by rw [upS_3 (by omega), upS_3 (by omega)])
               · exact TXX.eqs h9 (fun o h1 h2 => by rw [upS_3 (by omega), upS_3 (by omega)]) hc6
               · exact h10.eq (by rw [upS_3 (by decide), upS_3 (by decide)]) (by rw [upS_3 (by decide), upS_3 (by decide)]) (by rw [upS_3 (by decide), upS_3 (by decide)]) (by rw [upS_3 (by decide), upS_3 (by decide)]) (fun s hs => ⟨by rw [upS_3 (by omega), upS_3 (by omega)], by rw [upS_3 (by omega), upS_3 (by omega)]⟩)
               · exact h11.eq (by rw [upS_2 (by decide), upS_3 (by decide)]) (by rw [upS_2 (by decide), upS_3 (by decide)]) (by rw [upS_2 (by decide), upS_3 (by decide)]) (by rw [upS_3 (by decide), upS_3 (by decide)]) (by rw [upS_3 (by decide), upS_3 (by decide)]) (by rw [upS_3 (by decide), upS_3 (by decide)]) (by rw [upS_3 (by decide), upS_3 (by decide)]) (by rw [upS_3 (by decide), upS_3 (by decide)]) (by rw [upS_3 (by decide), upS_3 (by decide)]))
    · have hx : ¬ (0 ≤ x.toInt ∧ x.toInt ≤ 255) := fun q => by
        first
        | exact absurd (i_lt.mp c1) (by rw [i0]; omega)
        | exact c8 (i_le.mpr q.2)
      rw [if_neg hx, if_neg hx, if_neg hx] at hK
      refine g_bipush (v := (-2)) B dX5_feed_11 (by decide) ?_
      refine g_ireti B dX5_feed_13 ?_
      exact hK _ hR
set_option maxRecDepth 100000 in
set_option maxHeartbeats 4000000 in
theorem z_force {Z : LZ} {ad : Nat → Nat} {a b : St} {T : Nat → TC} {m c r p : Nat} {K : Int32 → St → Prop} {x : Int32} (hI : INV a T m c r p) (hR : REL a b T m c r p) (hK : ∀ b', REL (gForce a c x) b' T m c (rF c r x) p → K (fForce a c x) b') : CC lyX Z ad yX5_force wsX5_force (rmk 1) [.ref (ad 0), .int x] b (rI K) := by
  refine CC.of (cc := cX5_force) (nL := 3) (ret := (some .int)) rfl rfl ⟨rfl, rfl⟩ (by exact Nat.le_of_ble_eq_true rfl) ?_
  intro X B
  change GG _ _ _ _ X _ 0 [some (.ref (ad 0)), some (.int x), none] [] _
  change Amb _ _ _ _ X _ _ RX5 _ _ at B
  have hc6 := hI.1.2.1.2.1
  unfold gForce rF fForce at hK
  refine g_iload_n B dX5_force_0 rfl ?_
  refine g_if_lt (tgt := 12) B dX5_force_1 (by decide) (fun c1 => ?_) (fun c1 => ?_)
  · have hx : ¬ (0 ≤ x.toInt ∧ x.toInt < c) := fun q => by
      first
      | exact absurd (i_lt.mp c1) (by rw [i0]; omega)
      | exact c9 (by rw [i_lt, i_n (by omega)]; exact q.2)
    rw [if_neg hx, if_neg hx, if_neg hx] at hK
    refine g_bipush (v := (-2)) B dX5_force_12 (by decide) ?_
    refine g_ireti B dX5_force_14 ?_
    exact hK _ hR
  · refine g_iload_n B dX5_force_4 rfl ?_
    refine g_aload_n B dX5_force_5 rfl ?_
    refine g_getI (T := TX5) (N := 16) B dX5_force_6 (by decide) (by rfl) (inq inlX5) rfl 7 (by decide) (mq f_X5_44) (by rfl) ?_
    rw [hR.1.2.2.1]
    refine g_icmp_lt (tgt := 15) B dX5_force_9 (by decide) (fun c9 => ?_) (fun c9 => ?_)
    · have hx : 0 ≤ x.toInt ∧ x.toInt < c := ⟨i_le.mp (Int32.not_lt.mp c1), by rw [i_lt, i_n (by omega)] at c9; exact c9⟩
      rw [if_pos hx, if_pos hx, if_pos hx] at hK
      refine g_aload_n B dX5_force_15 rfl ?_
      refine g_getI (T := TX5) (N := 16) B dX5_force_16 (by decide) (by rfl) (inq inlX5) rfl 8 (by decide) (mq f_X5_47) (by rfl) ?_
      refine g_istore_n B dX5_force_19 (by decide) rfl ?_
      refine g_aload_n B dX5_force_20 rfl ?_
      refine g_iload_n B dX5_force_21 rfl ?_
      refine g_putI (T := TX5) (N := 16) B dX5_force_22 (by decide) (by rfl) (inq inlX5) rfl 8 (by decide) (mq f_X5_47) tyX5_ok nmX5 rfl ⟨rfl, rfl⟩ (by rfl) ?_
      refine g_iload_n B dX5_force_25 rfl ?_
      refine g_ireti B dX5_force_26 ?_
      obtain ⟨q, hq, rfl⟩ := i_nat hx.1 hx.2
      rw [i_cl (by omega)] at hK
      refine kk ?_ (hK _ (hR.rule hc6 rfl))
      exact hR.1.2.2.2.trans hI.1.2.2.1.2.symm
    · have hx : ¬ (0 ≤ x.toInt ∧ x.toInt < c) := fun q => by
        first
        | exact absurd (i_lt.mp c1) (by rw [i0]; omega)
        | exact c9 (by rw [i_lt, i_n (by omega)]; exact q.2)
      rw [if_neg hx, if_neg hx, if_neg hx] at hK
      refine g_bipush (v := (-2)) B dX5_force_12 (by decide) ?_
      refine g_ireti B dX5_force_14 ?_
      exact hK _ hR
theorem z_settle {Z : LZ} {ad : Nat → Nat} {a b : St} {T : Nat → TC} {m c r p : Nat} {K : Int32 → St → Prop} (hI : INV a T m c r p) (hR : REL a b T m c r p) (hK : ∀ b', REL (upS a 0 7 (bsS (vM a (T r)))) b' T m c r p → K (dpV (vM a (T r)) 29 (wdV (vM a (T r))) 1) b') : CC lyX Z ad yX5_settle wsX5_settle (rmk 6) [.ref (ad 0)] b (rI K) :=
  x_settle (hR.xv hI) hI.vok (fun b' q e => hK b' ((hR.share (v := bsS (vM a (T r))) hI.1.2.1.2.1).x (cs := [2, 3, 5, 6]) (ks := []) ⟨fun o ho hc => by rw [upS_3 ho]; exact q.1 o ho hc, fun k _ => by
    by_cases ek : k = 1
    · subst ek; rw [upS_1]; exact e
    · rw [upS_2 ek]; exact q.2.1 k (by simp; exact ek), q.2.2⟩ okD2356 okK0 hI.1.2.1.2.1))
set_option maxRecDepth 100000 in
set_option maxHeartbeats 4000000 in
theorem lx_uto {Z : LZ} {ad : Nat → Nat} {X : CX} {K : Int32 → St → Prop} {τ : St} {m : Nat} {f : Nat → Int32} (B : Amb lyX Z ad (rmk 0) X cX5_usersOfTownOne wsX5_usersOfTownOne RX5 3 (some .int)) (hm6 : m ≤ 6) (hm : τ.1 0 3 = nI m) (hf : ∀ u, u < m → τ.1 (u + 20) 2 = f u) (hK : K (smT f m) τ) : ∀ (k i : Nat), i ≤ m → m - i < k → GG lyX Z ad (rmk 0) X (rI K) 4 [some (.ref (ad 0)), some (.int (smT f i)), some (.int (nI i))] [] τ := by
  intro k
  induction k with
  | zero => intro i _ h; omega
  | succ k ih =>
    intro i h1 h2
    have hci : (nI i).toNatClampNeg = i := i_cl (by omega)
    refine g_iload_n B dX5_usersOfTownOne_4 rfl ?_
    refine g_aload_n B dX5_usersOfTownOne_5 rfl ?_
    refine g_getI (T := TX5) (N := 16) B dX5_usersOfTownOne_6 (by decide) (by rfl) (inq inlX5) rfl 3 (by decide) (mq f_X5_23) (by rfl) ?_
    rw [hm]
    refine g_icmp_ge (tgt := 36) B dX5_usersOfTownOne_9 (by decide) (fun c9 => ?_) (fun c9 => ?_)
    · refine g_iload_n B dX5_usersOfTownOne_36 rfl ?_
      refine g_ireti B dX5_usersOfTownOne_37 ?_
      rw [nI_leI (by omega) (by omega)] at c9
      have e : i = m := by omega
      subst e
      exact hK
    · rw [nI_leI (by omega) (by omega)] at c9
      have hU : UO (i + 20) := UO.u (by omega)
      refine g_iload_n B dX5_usersOfTownOne_12 rfl ?_
      refine g_bipush (v := (6)) B dX5_usersOfTownOne_13 (by decide) ?_
      refine g_icmp_ge (tgt := 36) B dX5_usersOfTownOne_15 (by decide) (fun c15 => ?_) (fun c15 => ?_)
      · exact absurd (i_le.mp c15) (by rw [i_n (by omega), i6]; omega)
      · refine g_iload_n B dX5_usersOfTownOne_18 rfl ?_
        refine g_aload_n B dX5_usersOfTownOne_19 rfl ?_
        refine g_getR (T := TX5) (N := 16) B dX5_usersOfTownOne_20 (by decide) (by rfl) (inq inlX5) rfl 2 (by decide) (mq f_X5_19) (by rfl) ?_
        refine g_iload_n B dX5_usersOfTownOne_23 rfl ?_
        refine g_aald B dX5_usersOfTownOne_24 (by decide) (by rfl) (by exact vp_in_nI (by omega) (by omega)) ?_
        rw [hci]
        refine g_getI (T := TX4) (N := 3) B dX5_usersOfTownOne_25 (hU.lt) (hU.lo) (inq inlX4) rfl 2 (by decide) (mq f_X5_114) (by rfl) ?_
        rw [hf i (by omega)]
        refine g_iadd B dX5_usersOfTownOne_28 ?_
        refine g_istore_n B dX5_usersOfTownOne_29 (by decide) rfl ?_
        refine g_iinc (c9 := (1)) B dX5_usersOfTownOne_30 rfl (by decide) (by decide) rfl ?_
        refine g_goto (tgt := 4) B dX5_usersOfTownOne_33 (by decide) ?_
        rw [nI_1 i]
        exact ih (i + 1) (by omega) (by omega)
set_option maxRecDepth 100000 in
set_option maxHeartbeats 4000000 in
theorem x_uto {Z : LZ} {ad : Nat → Nat} {τ : St} {K : Int32 → St → Prop} {m : Nat} {f : Nat → Int32} (hm6 : m ≤ 6) (hm : τ.1 0 3 = nI m) (hf : ∀ u, u < m → τ.1 (u + 20) 2 = f u) (hK : K (smT f m) τ) : CC lyX Z ad yX5_usersOfTownOne wsX5_usersOfTownOne (rmk 0) [.ref (ad 0)] τ (rI K) := by
  refine CC.of (cc := cX5_usersOfTownOne) (nL := 3) (ret := (some .int)) rfl rfl ⟨rfl, rfl⟩ (by exact Nat.le_of_ble_eq_true rfl) ?_
  intro X B
  change GG _ _ _ _ X _ 0 [some (.ref (ad 0)), none, none] [] _
  change Amb _ _ _ _ X _ _ RX5 _ _ at B
  refine g_iconst (v := (0)) B dX5_usersOfTownOne_0 (by decide) ?_
  refine g_istore_n B dX5_usersOfTownOne_1 (by decide) rfl ?_
  refine g_iconst (v := (0)) B dX5_usersOfTownOne_2 (by decide) ?_
  refine g_istore_n B dX5_usersOfTownOne_3 (by decide) rfl ?_
  exact lx_uto B hm6 hm hf hK 10 0 (by omega) (by omega)
set_option maxRecDepth 100000 in
set_option maxHeartbeats 4000000 in
theorem lx_cto {Z : LZ} {ad : Nat → Nat} {X : CX} {K : Int32 → St → Prop} {τ : St} {f : Nat → Int32} (B : Amb lyX Z ad (rmk 0) X cX5_coldTogether wsX5_coldTogether RX5 3 (some .int)) (hf : ∀ t, t < 30 → τ.1 1 t = f t) (hK : K (smT f 30) τ) : ∀ (k i : Nat), i ≤ 30 → 30 - i < k → GG lyX Z ad (rmk 0) X (rI K) 4 [some (.ref (ad 0)), some (.int (smT f i)), some (.int (nI i))] [] τ := by
  intro k
  induction k with
  | zero => intro i _ h; omega
  | succ k ih =>
    intro i h1 h2
    have hci : (nI i).toNatClampNeg = i := i_cl (by omega)
    refine g_iload_n B dX5_coldTogether_4 rfl ?_
    refine g_bipush (v := (30)) B dX5_coldTogether_5 (by decide) ?_
    refine g_icmp_ge (tgt := 25) B dX5_coldTogether_7 (by decide) (fun c7 => ?_) (fun c7 => ?_)
    · refine g_iload_n B dX5_coldTogether_25 rfl ?_
      refine g_ireti B dX5_coldTogether_26 ?_
      rw [show (30 : Int32) = nI 30 from rfl, nI_leI (by omega) (by omega)] at c7
      have e : i = 30 := by omega
      subst e
      exact hK
    · rw [show (30 : Int32) = nI 30 from rfl, nI_leI (by omega) (by omega)] at c7
      refine g_iload_n B dX5_coldTogether_10 rfl ?_
      refine g_aload_n B dX5_coldTogether_11 rfl ?_
      refine g_getR (T := TX5) (N := 16) B dX5_coldTogether_12 (by decide) (by rfl) (inq inlX5) rfl 0 (by decide) (mq f_X5_9) (by rfl) ?_
      refine g_iload_n B dX5_coldTogether_15 rfl ?_
      refine g_iald B dX5_coldTogether_16 (by decide) (by rfl) (by exact vp_in_nI (by omega) (by omega)) ?_
      rw [hci, hf i (by omega)]
      refine g_iadd B dX5_coldTogether_17 ?_
      refine g_istore_n B dX5_coldTogether_18 (by decide) rfl ?_
      refine g_iinc (c9 := (1)) B dX5_coldTogether_19 rfl (by decide) (by decide) rfl ?_
      refine g_goto (tgt := 4) B dX5_coldTogether_22 (by decide) ?_
      rw [nI_1 i]
      exact ih (i + 1) (by omega) (by omega)
set_option maxRecDepth 100000 in
set_option maxHeartbeats 4000000 in
theorem x_cto {Z : LZ} {ad : Nat → Nat} {τ : St} {K : Int32 → St → Prop} {f : Nat → Int32} (hf : ∀ t, t < 30 → τ.1 1 t = f t) (hK : K (smT f 30) τ) : CC lyX Z ad yX5_coldTogether wsX5_coldTogether (rmk 0) [.ref (ad 0)] τ (rI K) := by
  refine CC.of (cc := cX5_coldTogether) (nL := 3) (ret := (some .int)) rfl rfl ⟨rfl, rfl⟩ (by exact Nat.le_of_ble_eq_true rfl) ?_
  intro X B
  change GG _ _ _ _ X _ 0 [some (.ref (ad 0)), none, none] [] _
  change Amb _ _ _ _ X _ _ RX5 _ _ at B
  refine g_iconst (v := (0)) B dX5_coldTogether_0 (by decide) ?_
  refine g_istore_n B dX5_coldTogether_1 (by decide) rfl ?_
  refine g_iconst (v := (0)) B dX5_coldTogether_2 (by decide) ?_
  refine g_istore_n B dX5_coldTogether_3 (by decide) rfl ?_
  exact lx_cto B hf hK 40 0 (by omega) (by omega)
set_option maxRecDepth 100000 in
set_option maxHeartbeats 4000000 in
theorem z_count {Z : LZ} {ad : Nat → Nat} {a b : St} {T : Nat → TC} {m c r p : Nat} {K : Int32 → St → Prop} {x : Int32} (hI : INV a T m c r p) (hR : REL a b T m c r p) (hK : K (fCount a m x) b) : CC lyX Z ad yX5_count wsX5_count (rmk 1) [.ref (ad 0), .int x] b (rI K) := by
  refine CC.of (cc := cX5_count) (nL := 2) (ret := (some .int)) rfl rfl ⟨rfl, rfl⟩ (by exact Nat.le_of_ble_eq_true rfl) ?_
  intro X B
  change GG _ _ _ _ X _ 0 [some (.ref (ad 0)), some (.int x)] [] _
  change Amb _ _ _ _ X _ _ RX5 _ _ at B
  have hm6 := hI.1.1.1
  unfold fCount at hK
  refine g_iload_n B dX5_count_0 rfl ?_
  refine g_tsw (dt := 73) B dX5_count_1 (by decide) (by rfl) (by decide) (fun c1 => ?_) (And.intro (fun c1 => ?_) (And.intro (fun c1 => ?_) (And.intro (fun c1 => ?_) (And.intro (fun c1 => ?_) (And.intro (fun c1 => ?_) (And.intro (fun c1 => ?_) trivial))))))
  · refine g_bipush (v := (-2)) B dX5_count_73 (by decide) ?_
    refine g_ireti B dX5_count_75 ?_
    rw [if_neg (by omega)] at hK
    exact hK
  · change GG _ _ _ _ _ _ 40 _ _ _
    change _ = (0 : Int32) at c1
    refine g_aload_n B dX5_count_40 rfl ?_
    refine g_getI (T := TX5) (N := 16) B dX5_count_41 (by decide) (by rfl) (inq inlX5) rfl 3 (by decide) (mq f_X5_23) (by rfl) ?_
    refine g_ireti B dX5_count_44 ?_
    subst c1
    rw [if_pos (by decide), if_pos rfl] at hK
    exact kk (hR.1.2.1.trans hI.1.1.2.symm) hK
  · change GG _ _ _ _ _ _ 45 _ _ _
    change _ = (1 : Int32) at c1
    refine g_aload_n B dX5_count_45 rfl ?_
    refine g_callVi (C := RX5) (As := []) B dX5_count_46 (gc1 g_X5_305) (by rfl) ⟨rfl, hd_X5_usersOfTownOne⟩ (by exact ⟨Nat.le_of_ble_eq_true rfl, Nat.le_of_ble_eq_true rfl⟩) ⟨rfl, rfl⟩ rfl rfl (by exact Nat.le_of_ble_eq_true rfl) recv5 (x_uto hm6 hR.1.2.1 (fun u hu => (hR.2.2.2.1 u (by omega)).2.2) ?_)
    refine g_ireti B dX5_count_49 ?_
    subst c1
    rw [if_pos (by decide), if_neg (by decide), if_neg (by decide), if_neg (by decide), if_neg (by decide), if_pos rfl] at hK
    exact hK
  · change GG _ _ _ _ _ _ 50 _ _ _
    change _ = (2 : Int32) at c1
    refine g_aload_n B dX5_count_50 rfl ?_
    refine g_getI (T := TX5) (N := 16) B dX5_count_51 (by decide) (by rfl) (inq inlX5) rfl 7 (by decide) (mq f_X5_44) (by rfl) ?_
    refine g_ireti B dX5_count_54 ?_
    subst c1
    rw [if_pos (by decide), if_neg (by decide), if_pos rfl] at hK
    exact kk (hR.1.2.2.1.trans hI.1.2.1.2.2.symm) hK
  · change GG _ _ _ _ _ _ 55 _ _ _
    change _ = (3 : Int32) at c1
    refine g_aload_n B dX5_count_55 rfl ?_
    refine g_getR (T := TX5) (N := 16) B dX5_count_56 (by decide) (by rfl) (inq inlX5) rfl 5 (by decide) (mq f_X5_34) (by rfl) ?_
    refine g_getI (T := TX1) (N := 9) B dX5_count_59 (by decide) (by rfl) (inq inlX1) rfl 1 (by decide) (mq f_X5_139) (by rfl) ?_
    refine g_ireti B dX5_count_62 ?_
    subst c1
    rw [if_pos (by decide), if_neg (by decide), if_neg (by decide), if_pos rfl] at hK
    exact kk (hR.2.1.1.trans hI.1.2.2.2.2.symm) hK
  · change GG _ _ _ _ _ _ 63 _ _ _
    change _ = (4 : Int32) at c1
    refine g_aload_n B dX5_count_63 rfl ?_
    refine g_getI (T := TX5) (N := 16) B dX5_count_64 (by decide) (by rfl) (inq inlX5) rfl 8 (by decide) (mq f_X5_47) (by rfl) ?_
    refine g_ireti B dX5_count_67 ?_
    subst c1
    rw [if_pos (by decide), if_neg (by decide), if_neg (by decide), if_neg (by decide), if_pos rfl] at hK
    exact kk (hR.1.2.2.2.trans hI.1.2.2.1.2.symm) hK
  · change GG _ _ _ _ _ _ 68 _ _ _
    change _ = (5 : Int32) at c1
    refine g_aload_n B dX5_count_68 rfl ?_
    refine g_callVi (C := RX5) (As := []) B dX5_count_69 (gc1 g_X5_308) (by rfl) ⟨rfl, hd_X5_coldTogether⟩ (by exact ⟨Nat.le_of_ble_eq_true rfl, Nat.le_of_ble_eq_true rfl⟩) ⟨rfl, rfl⟩ rfl rfl (by exact Nat.le_of_ble_eq_true rfl) recv5 (x_cto (fun t ht => hR.2.2.1 t ht) ?_)
    refine g_ireti B dX5_count_72 ?_
    subst c1
    rw [if_pos (by decide), if_neg (by decide), if_neg (by decide), if_neg (by decide), if_neg (by decide), if_neg (by decide)] at hK
    exact hK
theorem rkO_0 {n : Nat} {x : Int32} (h : rkO n x) (hx : ¬ x = -1) : 1 ≤ n ∧ (0 ≤ x.toInt ∧ x.toInt < 6) ∧ abvI x.toNatClampNeg = ovI x := by
  rcases h with h | ⟨h, h2⟩ | ⟨h | h | h, h2⟩ | ⟨h | h, h2⟩
  · exact absurd h hx
  all_goals (subst h; exact ⟨by omega, by decide, by decide⟩)
set_option maxRecDepth 100000 in
set_option maxHeartbeats 4000000 in
theorem lx_und {ly : Lay} {Z : LZ} {ad : Nat → Nat} {X : CX} {K : Int32 → St → Prop} {τ : St} {k w : Int32} {aK aV : Nat → Nat} {tb fm : Nat} (B : Amb ly Z ad (rmk 0) X cX5_isUnder wsX5_isUnder RX5 4 (some .boolean)) (hE : SI Z aK aV tb fm) (hk : 0 ≤ k.toInt ∧ k.toInt ≤ 5) : ∀ (n i : Nat) (x : Int32), i + n = 5 → rkO n x → K (b1 (undF n x k = k)) τ → GG ly Z ad (rmk 0) X (rI K) 4 [some (.int w), some (.int k), some (.int x), some (.int (nI i))] [] τ := by
  intro n
  induction n with
  | zero =>
    intro i x h1 h2 hK
    have hx : x = -1 := by
      by_cases q : x = -1
      · exact q
      · exact absurd (rkO_0 h2 q).1 (by omega)
    subst hx
    have e : ¬ (undF 0 (-1) k = k) := fun q => by
      have h3 : (-1 : Int32) = k := q
      rw [← h3] at hk
      exact absurd hk (by decide)
    refine g_iload_n B dX5_isUnder_4 rfl ?_
    refine g_bipush (v := (6)) B dX5_isUnder_5 (by decide) ?_
    refine g_icmp_ge (tgt := 39) B dX5_isUnder_7 (by decide) (fun c7 => absurd (i_le.mp c7) (by rw [i_n (by omega), i6]; omega)) (fun c7 => ?_)
    refine g_iload_n B dX5_isUnder_10 rfl ?_
    refine g_if_lt (tgt := 39) B dX5_isUnder_11 (by decide) (fun _ => ?_) (fun c => absurd (by decide) c)
    refine g_iconst (v := (0)) B dX5_isUnder_39 (by decide) ?_
    refine g_zreti B dX5_isUnder_40 rfl ?_
    rw [b1_f e] at hK
    exact hK
  | succ n ih =>
    intro i x h1 h2 hK
    unfold undF at hK
    refine g_iload_n B dX5_isUnder_4 rfl ?_
    refine g_bipush (v := (6)) B dX5_isUnder_5 (by decide) ?_
    refine g_icmp_ge (tgt := 39) B dX5_isUnder_7 (by decide) (fun c7 => ?_) (fun c7 => ?_)
    · exact absurd (i_le.mp c7) (by rw [i_n (by omega), i6]; omega)
    · refine g_iload_n B dX5_isUnder_10 rfl ?_
      refine g_if_lt (tgt := 39) B dX5_isUnder_11 (by decide) (fun c11 => ?_) (fun c11 => ?_)
      · refine g_iconst (v := (0)) B dX5_isUnder_39 (by decide) ?_
        refine g_zreti B dX5_isUnder_40 (by rfl) ?_
        have hx : x = -1 := by
          by_cases q : x = -1
          · exact q
          · exact absurd (i_lt.mp c11) (by have := (rkO_0 h2 q).2.1; rw [i0]; omega)
        rw [if_pos (Or.inl hx), b1_f (fun q => by rw [← q, hx] at hk; exact absurd hk (by decide))] at hK
        exact hK
      · have hx : ¬ x = -1 := fun q => by rw [q] at c11; exact c11 (by decide)
        obtain ⟨q1, q2, q3⟩ := rkO_0 h2 hx
        refine g_iload_n B dX5_isUnder_14 rfl ?_
        refine g_bipush (v := (6)) B dX5_isUnder_15 (by decide) ?_
        refine g_icmp_ge (tgt := 39) B dX5_isUnder_17 (by decide) (fun c17 => ?_) (fun c17 => ?_)
        · exact absurd (i_le.mp c17) (by rw [i6]; omega)
        · refine g_iload_n B dX5_isUnder_20 rfl ?_
          refine g_iload_n B dX5_isUnder_21 rfl ?_
          refine g_icmp_ne (tgt := 27) B dX5_isUnder_22 (by decide) (fun c22 => ?_) (fun c22 => ?_)
          · refine g_gets B dX5_isUnder_27 hE.abZ (mq f_X5_327) ?_
            refine g_iload_n B dX5_isUnder_30 rfl ?_
            refine g_ti B dX5_isUnder_31 hE.abT (i_vp q2.1 q2.2) (congrArg Value.int q3) ?_
            refine g_istore_n B dX5_isUnder_32 (by decide) rfl ?_
            refine g_iinc (c9 := (1)) B dX5_isUnder_33 rfl (by decide) (by decide) rfl ?_
            refine g_goto (tgt := 4) B dX5_isUnder_36 (by decide) ?_
            rw [nI_1 i]
            rw [if_neg (fun z => z.elim hx c22)] at hK
            exact ih (i + 1) (ovI x) (by omega) (rkO_ov h2 hx) hK
          · refine g_iconst (v := (1)) B dX5_isUnder_25 (by decide) ?_
            refine g_zreti B dX5_isUnder_26 (by rfl) ?_
            rw [if_pos (Or.inr c22), b1_t c22] at hK
            exact hK
set_option maxRecDepth 100000 in
set_option maxHeartbeats 4000000 in
theorem x_und {ly : Lay} {Z : LZ} {ad : Nat → Nat} {τ : St} {K : Int32 → St → Prop} {x k : Int32} {aK aV : Nat → Nat} {tb fm : Nat} (hE : SI Z aK aV tb fm) (hx : 0 ≤ x.toInt ∧ x.toInt ≤ 5) (hk : 0 ≤ k.toInt ∧ k.toInt ≤ 5) (hK : K (b1 (undF 5 x k = k)) τ) : CC ly Z ad yX5_isUnder wsX5_isUnder (rmk 0) [.int x, .int k] τ (rI K) := by
  refine CC.of (cc := cX5_isUnder) (nL := 4) (ret := (some .boolean)) rfl rfl ⟨rfl, rfl⟩ (by exact Nat.le_of_ble_eq_true rfl) ?_
  intro X B
  change GG _ _ _ _ X _ 0 [some (.int x), some (.int k), none, none] [] _
  change Amb _ _ _ _ X _ _ RX5 _ _ at B
  have hr : rkO 5 x := by
    obtain ⟨j, hj, rfl⟩ := i_nat (n := 6) hx.1 (by omega)
    rcases (show j = 0 ∨ j = 1 ∨ j = 2 ∨ j = 3 ∨ j = 4 ∨ j = 5 by omega) with q | q | q | q | q | q <;> subst q
    · exact Or.inr (Or.inl ⟨rfl, by decide⟩)
    · exact Or.inr (Or.inr (Or.inl ⟨Or.inl rfl, by decide⟩))
    · exact Or.inr (Or.inr (Or.inl ⟨Or.inr (Or.inl rfl), by decide⟩))
    · exact Or.inr (Or.inr (Or.inr ⟨Or.inl rfl, by decide⟩))
    · exact Or.inr (Or.inr (Or.inr ⟨Or.inr rfl, by decide⟩))
    · exact Or.inr (Or.inr (Or.inl ⟨Or.inr (Or.inr rfl), by decide⟩))
  refine g_iload_n B dX5_isUnder_0 rfl ?_
  refine g_istore_n B dX5_isUnder_1 (by decide) rfl ?_
  refine g_iconst (v := (0)) B dX5_isUnder_2 (by decide) ?_
  refine g_istore_n B dX5_isUnder_3 (by decide) rfl ?_
  exact lx_und B hE hk 5 0 x rfl hr hK
set_option maxRecDepth 100000 in
set_option maxHeartbeats 4000000 in
theorem z_taken {Z : LZ} {ad : Nat → Nat} {a b : St} {T : Nat → TC} {m c r p : Nat} {K : Int32 → St → Prop} {x k : Int32} {aK aV : Nat → Nat} {tb fm : Nat} (hE : SI Z aK aV tb fm) (hI : INV a T m c r p) (hR : REL a b T m c r p) (hK : K (fTaken a m x k) b) : CC lyX Z ad yX5_taken wsX5_taken (rmk 2) [.ref (ad 0), .int x, .int k] b (rI K) := by
  refine CC.of (cc := cX5_taken) (nL := 3) (ret := (some .int)) rfl rfl ⟨rfl, rfl⟩ (by exact Nat.le_of_ble_eq_true rfl) ?_
  intro X B
  change GG _ _ _ _ X _ 0 [some (.ref (ad 0)), some (.int x), some (.int k)] [] _
  change Amb _ _ _ _ X _ _ RX5 _ _ at B
  have hm6 := hI.1.1.1
  unfold fTaken at hK
  refine g_iload_n B dX5_taken_0 rfl ?_
  refine g_callSi (As := [.int _]) B dX5_taken_1 (gc1 g_X5_117) (by rfl) hd_X5_isKind (by exact ⟨Nat.le_of_ble_eq_true rfl, Nat.le_of_ble_eq_true rfl⟩) ⟨rfl, rfl⟩ rfl rfl (by exact Nat.le_of_ble_eq_true rfl) (x_isKind ?_)
  refine g_if_ne (tgt := 10) B dX5_taken_4 (by decide) (fun c4 => ?_) (fun c4 => ?_)
  · have hk := b1_n0.mp c4
    rw [if_pos hk] at hK
    refine g_aload_n B dX5_taken_10 rfl ?_
    refine g_iload_n B dX5_taken_11 rfl ?_
    refine g_callVi (C := RX5) (As := [.int _]) B dX5_taken_12 (gc1 g_X5_105) (by rfl) ⟨rfl, hd_X5_isUser⟩ (by exact ⟨Nat.le_of_ble_eq_true rfl, Nat.le_of_ble_eq_true rfl⟩) ⟨rfl, rfl⟩ rfl rfl (by exact Nat.le_of_ble_eq_true rfl) recv5 (x_isUser hm6 hR.1.2.1 ?_)
    refine g_if_ne (tgt := 21) B dX5_taken_15 (by decide) (fun c15 => ?_) (fun c15 => ?_)
    · have h1 := b1_n0.mp c15
      rw [if_pos h1] at hK
      obtain ⟨u, hu, rfl⟩ := i_nat h1.1 h1.2
      have hcu : (nI u).toNatClampNeg = u := i_cl (by omega)
      rw [hcu] at hK
      have hU : UO (u + 20) := UO.u (by omega)
      have hru := hR.2.2.2.1 u (by omega)
      refine g_aload_n B dX5_taken_21 rfl ?_
      refine g_getR (T := TX5) (N := 16) B dX5_taken_22 (by decide) (by rfl) (inq inlX5) rfl 2 (by decide) (mq f_X5_19) (by rfl) ?_
      refine g_iload_n B dX5_taken_25 rfl ?_
      refine g_aald B dX5_taken_26 (by decide) (by rfl) (by exact vp_in_nI (by omega) (by omega)) ?_
      rw [hcu]
      refine g_getI (T := TX4) (N := 3) B dX5_taken_27 (hU.lt) (hU.lo) (inq inlX4) rfl 0 (by decide) (mq f_X5_124) (by rfl) ?_
      rw [hru.1]
      refine g_iload_n B dX5_taken_30 rfl ?_
      refine g_callSi (As := [.int _, .int _]) B dX5_taken_31 (gc1 g_X5_324) (by rfl) hd_X5_isUnder (by exact ⟨Nat.le_of_ble_eq_true rfl, Nat.le_of_ble_eq_true rfl⟩) ⟨rfl, rfl⟩ rfl rfl (by exact Nat.le_of_ble_eq_true rfl) (x_und hE (hI.2.2.1.2.1 u (by omega)) hk ?_)
      refine g_if_eq (tgt := 49) B dX5_taken_34 (by decide) (fun c34 => ?_) (fun c34 => ?_)
      · refine g_bipush (v := (-13)) B dX5_taken_49 (by decide) ?_
        refine g_ireti B dX5_taken_51 ?_
        first
          | (rw [if_pos (b1_n0.mp c34)] at hK; exact hK)
          | (rw [if_neg (b1_0.mp c34)] at hK; exact hK)
      · refine g_aload_n B dX5_taken_37 rfl ?_
        refine g_getR (T := TX5) (N := 16) B dX5_taken_38 (by decide) (by rfl) (inq inlX5) rfl 2 (by decide) (mq f_X5_19) (by rfl) ?_
        refine g_iload_n B dX5_taken_41 rfl ?_
        refine g_aald B dX5_taken_42 (by decide) (by rfl) (by exact vp_in_nI (by omega) (by omega)) ?_
        rw [hcu]
        refine g_getI (T := TX4) (N := 3) B dX5_taken_43 (hU.lt) (hU.lo) (inq inlX4) rfl 1 (by decide) (mq f_X5_108) (by rfl) ?_
        rw [hru.2.1]
        refine g_goto (tgt := 51) B dX5_taken_46 (by decide) ?_
        refine g_ireti B dX5_taken_51 ?_
        first
          | (rw [if_pos (b1_n0.mp c34)] at hK; exact hK)
          | (rw [if_neg (b1_0.mp c34)] at hK; exact hK)
    · rw [if_neg (b1_0.mp c15)] at hK
      refine g_bipush (v := (-11)) B dX5_taken_18 (by decide) ?_
      refine g_ireti B dX5_taken_20 ?_
      exact hK
  · rw [if_neg (b1_0.mp c4)] at hK
    refine g_bipush (v := (-2)) B dX5_taken_7 (by decide) ?_
    refine g_ireti B dX5_taken_9 ?_
    exact hK

