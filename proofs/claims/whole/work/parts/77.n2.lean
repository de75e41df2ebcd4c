/-! constructors of the small classes -/
theorem wo_i : Cond.instanceMethod objectInit ∈ wsL_law := in_r1 _ (by decide +kernel)
theorem wo_c : Cond.code objectInit ⟨#[0xb1]⟩ 1 none ∈ wsL_law := in_r1 _ (by decide +kernel)
theorem wo_X4_3 : Cond.methodLink RX4 3 objectInit ∈ wsL_law := in_r2 _ (by decide +kernel)
theorem wo_X3_3 : Cond.methodLink RX3 3 objectInit ∈ wsL_law := in_r4 _ (by decide +kernel)
theorem wa_int : Cond.arrayClass .int ∈ wsL_law := in_r1 _ (by decide +kernel)
theorem wo_X2_3 : Cond.methodLink RX2 3 objectInit ∈ wsL_law := in_r4 _ (by decide +kernel)
theorem wo_X0_3 : Cond.methodLink RX0 3 objectInit ∈ wsL_law := in_r3 _ (by decide +kernel)
theorem wo_X1_3 : Cond.methodLink RX1 3 objectInit ∈ wsL_law := in_r3 _ (by decide +kernel)
theorem k_X4_init {Z : NZ} {cI cZ cU cT cS : ClassId} {h a : Nat} {K : va_W → Prop} (hT : Z.2.2.1 = [(cI, .int), (cZ, .boolean), (cU, .object RX4), (cT, .object RX3), (cS, .object RX2)]) (hk : K [(a, .inr (4, [.int (0), .int (0), .int (0)]))]) : CN Z yX4_init wsX4_init (rmn (h + 1) 0 0) 0 0 [.ref a] [(a, .inr (4, [.int (0), .int (0), .int (0)]))] K := by
  refine CN.of (by decide) rfl rfl (Nat.le_of_ble_eq_true rfl) (fun X B hI => ?_)
  change GN _ _ _ _ _ 0 0 0 _ [] [(a, .inr (4, [.int (0), .int (0), .int (0)]))]
  refine n_aload_n B dX4_init_0 rfl ?_
  refine n_objI B dX4_init_1 ⟨mq wo_X4_3, mq wo_i, mq wo_c⟩ (by exact ⟨Nat.le_of_ble_eq_true rfl, Nat.le_of_ble_eq_true rfl⟩) ?_
  refine n_aload_n B dX4_init_4 rfl ?_
  refine n_iconst (v := (0)) B dX4_init_5 (by decide) ?_
  refine n_put (q0 := 0) (k := 0) (ci := 4) (C := RX4) (T := TX4) (N := 3) (ty0 := tyX4) (ws2 := [(a, .inr (4, [.int (0), .int (0), .int (0)]))]) B rfl dX4_init_6 (inq inlX4) tyX4_ok nmX4 rfl (by decide) (mq f_X4_9) rfl rfl (tyX4_ok _ (by decide)) rfl rfl (Nat.le_of_ble_eq_true rfl) rfl ?_
  refine n_aload_n B dX4_init_9 rfl ?_
  refine n_iconst (v := (0)) B dX4_init_10 (by decide) ?_
  refine n_put (q0 := 0) (k := 1) (ci := 4) (C := RX4) (T := TX4) (N := 3) (ty0 := tyX4) (ws2 := [(a, .inr (4, [.int (0), .int (0), .int (0)]))]) B rfl dX4_init_11 (inq inlX4) tyX4_ok nmX4 rfl (by decide) (mq f_X4_15) rfl rfl (tyX4_ok _ (by decide)) rfl rfl (Nat.le_of_ble_eq_true rfl) rfl ?_
  refine n_aload_n B dX4_init_14 rfl ?_
  refine n_iconst (v := (0)) B dX4_init_15 (by decide) ?_
  refine n_put (q0 := 0) (k := 2) (ci := 4) (C := RX4) (T := TX4) (N := 3) (ty0 := tyX4) (ws2 := [(a, .inr (4, [.int (0), .int (0), .int (0)]))]) B rfl dX4_init_16 (inq inlX4) tyX4_ok nmX4 rfl (by decide) (mq f_X4_18) rfl rfl (tyX4_ok _ (by decide)) rfl rfl (Nat.le_of_ble_eq_true rfl) rfl ?_
  exact n_ret B hI dX4_init_19 rfl rfl (hk)
theorem k_X3_init {Z : NZ} {cI cZ cU cT cS : ClassId} {h a : Nat} {K : va_W → Prop} (hT : Z.2.2.1 = [(cI, .int), (cZ, .boolean), (cU, .object RX4), (cT, .object RX3), (cS, .object RX2)]) (hk : ∀ q1 q2, K [(a, .inr (3, [.ref q1, .ref q2, .int (0)])), (q1, .inl (cI, (160, .inl (fun _ => 0)))), (q2, .inl (cI, (3, .inl (fun _ => 0))))]) : CN Z yX3_init wsX3_init (rmn (h + 1) 2 163) 2 163 [.ref a] [(a, .inr (3, [.null, .null, .int (0)]))] K := by
  refine CN.of (by decide) rfl rfl (Nat.le_of_ble_eq_true rfl) (fun X B hI => ?_)
  change GN _ _ _ _ _ 0 0 0 _ [] [(a, .inr (3, [.null, .null, .int (0)]))]
  refine n_aload_n B dX3_init_0 rfl ?_
  refine n_objI B dX3_init_1 ⟨mq wo_X3_3, mq wo_i, mq wo_c⟩ (by exact ⟨Nat.le_of_ble_eq_true rfl, Nat.le_of_ble_eq_true rfl⟩) ?_
  refine n_aload_n B dX3_init_4 rfl ?_
  refine n_sipush (v := (160)) B dX3_init_5 (by decide) ?_
  refine n_newa (t0 := 0) (cT := cI) (N := 160) (ty := .int) (nc2 := 1) (ns2 := 160) B dX3_init_8 rfl (Or.inl rfl) (mq wa_int) (by rw [hT]; rfl) (by decide) (by decide) (by decide) rfl rfl (by exact ⟨Nat.le_of_ble_eq_true rfl, Nat.le_of_ble_eq_true rfl⟩) (fun q1 => ?_)
  change GN _ _ _ _ _ 1 160 10 _ [.ref q1, .ref a] [(a, .inr (3, [.null, .null, .int (0)])), (q1, .inl (cI, (160, .inl (fun _ => 0))))]
  refine n_putF (q0 := 0) (k := 0) (ci := 3) (C := RX3) (T := TX3) (N := 3) (ty0 := tyX3) (ws2 := [(a, .inr (3, [.ref q1, .null, .int (0)])), (q1, .inl (cI, (160, .inl (fun _ => 0))))]) B hI rfl dX3_init_10 (inq inlX3) tyX3_ok nmX3 rfl (by decide) (mq f_X3_9) rfl rfl rfl (tyX3_ok _ (by decide)) rfl rfl (Nat.le_of_ble_eq_true rfl) rfl ?_
  refine n_aload_n B dX3_init_13 rfl ?_
  refine n_iconst (v := (3)) B dX3_init_14 (by decide) ?_
  refine n_newa (t0 := 0) (cT := cI) (N := 3) (ty := .int) (nc2 := 2) (ns2 := 163) B dX3_init_15 rfl (Or.inl rfl) (mq wa_int) (by rw [hT]; rfl) (by decide) (by decide) (by decide) rfl rfl (by exact ⟨Nat.le_of_ble_eq_true rfl, Nat.le_of_ble_eq_true rfl⟩) (fun q2 => ?_)
  change GN _ _ _ _ _ 2 163 17 _ [.ref q2, .ref a] [(a, .inr (3, [.ref q1, .null, .int (0)])), (q1, .inl (cI, (160, .inl (fun _ => 0)))), (q2, .inl (cI, (3, .inl (fun _ => 0))))]
  refine n_putF (q0 := 0) (k := 1) (ci := 3) (C := RX3) (T := TX3) (N := 3) (ty0 := tyX3) (ws2 := [(a, .inr (3, [.ref q1, .ref q2, .int (0)])), (q1, .inl (cI, (160, .inl (fun _ => 0)))), (q2, .inl (cI, (3, .inl (fun _ => 0))))]) B hI rfl dX3_init_17 (inq inlX3) tyX3_ok nmX3 rfl (by decide) (mq f_X3_15) rfl rfl rfl (tyX3_ok _ (by decide)) rfl rfl (Nat.le_of_ble_eq_true rfl) rfl ?_
  refine n_aload_n B dX3_init_20 rfl ?_
  refine n_iconst (v := (0)) B dX3_init_21 (by decide) ?_
  refine n_put (q0 := 0) (k := 2) (ci := 3) (C := RX3) (T := TX3) (N := 3) (ty0 := tyX3) (ws2 := [(a, .inr (3, [.ref q1, .ref q2, .int (0)])), (q1, .inl (cI, (160, .inl (fun _ => 0)))), (q2, .inl (cI, (3, .inl (fun _ => 0))))]) B rfl dX3_init_22 (inq inlX3) tyX3_ok nmX3 rfl (by decide) (mq f_X3_18) rfl rfl (tyX3_ok _ (by decide)) rfl rfl (Nat.le_of_ble_eq_true rfl) rfl ?_
  exact n_ret B hI dX3_init_25 rfl rfl (hk q1 q2)
theorem k_X2_init {Z : NZ} {cI cZ cU cT cS : ClassId} {h a : Nat} {K : va_W → Prop} (hT : Z.2.2.1 = [(cI, .int), (cZ, .boolean), (cU, .object RX4), (cT, .object RX3), (cS, .object RX2)]) (hk : ∀ q1, K [(a, .inr (2, [.int (-1), .int (0), .ref q1])), (q1, .inl (cI, (40, .inl (fun _ => 0))))]) : CN Z yX2_init wsX2_init (rmn (h + 1) 1 40) 1 40 [.ref a] [(a, .inr (2, [.int (0), .int (0), .null]))] K := by
  refine CN.of (by decide) rfl rfl (Nat.le_of_ble_eq_true rfl) (fun X B hI => ?_)
  change GN _ _ _ _ _ 0 0 0 _ [] [(a, .inr (2, [.int (0), .int (0), .null]))]
  refine n_aload_n B dX2_init_0 rfl ?_
  refine n_objI B dX2_init_1 ⟨mq wo_X2_3, mq wo_i, mq wo_c⟩ (by exact ⟨Nat.le_of_ble_eq_true rfl, Nat.le_of_ble_eq_true rfl⟩) ?_
  refine n_aload_n B dX2_init_4 rfl ?_
  refine n_iconst (v := (-1)) B dX2_init_5 (by decide) ?_
  refine n_put (q0 := 0) (k := 0) (ci := 2) (C := RX2) (T := TX2) (N := 3) (ty0 := tyX2) (ws2 := [(a, .inr (2, [.int (-1), .int (0), .null]))]) B rfl dX2_init_6 (inq inlX2) tyX2_ok nmX2 rfl (by decide) (mq f_X2_9) rfl rfl (tyX2_ok _ (by decide)) rfl rfl (Nat.le_of_ble_eq_true rfl) rfl ?_
  refine n_aload_n B dX2_init_9 rfl ?_
  refine n_iconst (v := (0)) B dX2_init_10 (by decide) ?_
  refine n_put (q0 := 0) (k := 1) (ci := 2) (C := RX2) (T := TX2) (N := 3) (ty0 := tyX2) (ws2 := [(a, .inr (2, [.int (-1), .int (0), .null]))]) B rfl dX2_init_11 (inq inlX2) tyX2_ok nmX2 rfl (by decide) (mq f_X2_15) rfl rfl (tyX2_ok _ (by decide)) rfl rfl (Nat.le_of_ble_eq_true rfl) rfl ?_
  refine n_aload_n B dX2_init_14 rfl ?_
  refine n_bipush (v := (40)) B dX2_init_15 (by decide) ?_
  refine n_newa (t0 := 0) (cT := cI) (N := 40) (ty := .int) (nc2 := 1) (ns2 := 40) B dX2_init_17 rfl (Or.inl rfl) (mq wa_int) (by rw [hT]; rfl) (by decide) (by decide) (by decide) rfl rfl (by exact ⟨Nat.le_of_ble_eq_true rfl, Nat.le_of_ble_eq_true rfl⟩) (fun q1 => ?_)
  change GN _ _ _ _ _ 1 40 19 _ [.ref q1, .ref a] [(a, .inr (2, [.int (-1), .int (0), .null])), (q1, .inl (cI, (40, .inl (fun _ => 0))))]
  refine n_putF (q0 := 0) (k := 2) (ci := 2) (C := RX2) (T := TX2) (N := 3) (ty0 := tyX2) (ws2 := [(a, .inr (2, [.int (-1), .int (0), .ref q1])), (q1, .inl (cI, (40, .inl (fun _ => 0))))]) B hI rfl dX2_init_19 (inq inlX2) tyX2_ok nmX2 rfl (by decide) (mq f_X2_18) rfl rfl rfl (tyX2_ok _ (by decide)) rfl rfl (Nat.le_of_ble_eq_true rfl) rfl ?_
  exact n_ret B hI dX2_init_22 rfl rfl (hk q1)
theorem k_X0_init {Z : NZ} {cI cZ cU cT cS : ClassId} {h a : Nat} {K : va_W → Prop} (hT : Z.2.2.1 = [(cI, .int), (cZ, .boolean), (cU, .object RX4), (cT, .object RX3), (cS, .object RX2)]) (hk : ∀ q1 q2 q3, K [(a, .inr (0, [.int (0), .ref q1, .int (0), .int (0), .int (0), .ref q2, .ref q3])), (q1, .inl (cI, (30, .inl (fun _ => 0)))), (q2, .inl (cI, (6, .inl (fun _ => 0)))), (q3, .inl (cI, (6, .inl (fun _ => 0))))]) : CN Z yX0_init wsX0_init (rmn (h + 1) 3 42) 3 42 [.ref a] [(a, .inr (0, [.int (0), .null, .int (0), .int (0), .int (0), .null, .null]))] K := by
  refine CN.of (by decide) rfl rfl (Nat.le_of_ble_eq_true rfl) (fun X B hI => ?_)
  change GN _ _ _ _ _ 0 0 0 _ [] [(a, .inr (0, [.int (0), .null, .int (0), .int (0), .int (0), .null, .null]))]
  refine n_aload_n B dX0_init_0 rfl ?_
  refine n_objI B dX0_init_1 ⟨mq wo_X0_3, mq wo_i, mq wo_c⟩ (by exact ⟨Nat.le_of_ble_eq_true rfl, Nat.le_of_ble_eq_true rfl⟩) ?_
  refine n_aload_n B dX0_init_4 rfl ?_
  refine n_iconst (v := (0)) B dX0_init_5 (by decide) ?_
  refine n_put (q0 := 0) (k := 0) (ci := 0) (C := RX0) (T := TX0) (N := 7) (ty0 := tyX0) (ws2 := [(a, .inr (0, [.int (0), .null, .int (0), .int (0), .int (0), .null, .null]))]) B rfl dX0_init_6 (inq inlX0) tyX0_ok nmX0 rfl (by decide) (mq f_X0_9) rfl rfl (tyX0_ok _ (by decide)) rfl rfl (Nat.le_of_ble_eq_true rfl) rfl ?_
  refine n_aload_n B dX0_init_9 rfl ?_
  refine n_bipush (v := (30)) B dX0_init_10 (by decide) ?_
  refine n_newa (t0 := 0) (cT := cI) (N := 30) (ty := .int) (nc2 := 1) (ns2 := 30) B dX0_init_12 rfl (Or.inl rfl) (mq wa_int) (by rw [hT]; rfl) (by decide) (by decide) (by decide) rfl rfl (by exact ⟨Nat.le_of_ble_eq_true rfl, Nat.le_of_ble_eq_true rfl⟩) (fun q1 => ?_)
  change GN _ _ _ _ _ 1 30 14 _ [.ref q1, .ref a] [(a, .inr (0, [.int (0), .null, .int (0), .int (0), .int (0), .null, .null])), (q1, .inl (cI, (30, .inl (fun _ => 0))))]
  refine n_putF (q0 := 0) (k := 1) (ci := 0) (C := RX0) (T := TX0) (N := 7) (ty0 := tyX0) (ws2 := [(a, .inr (0, [.int (0), .ref q1, .int (0), .int (0), .int (0), .null, .null])), (q1, .inl (cI, (30, .inl (fun _ => 0))))]) B hI rfl dX0_init_14 (inq inlX0) tyX0_ok nmX0 rfl (by decide) (mq f_X0_15) rfl rfl rfl (tyX0_ok _ (by decide)) rfl rfl (Nat.le_of_ble_eq_true rfl) rfl ?_
  refine n_aload_n B dX0_init_17 rfl ?_
  refine n_iconst (v := (0)) B dX0_init_18 (by decide) ?_
  refine n_put (q0 := 0) (k := 2) (ci := 0) (C := RX0) (T := TX0) (N := 7) (ty0 := tyX0) (ws2 := [(a, .inr (0, [.int (0), .ref q1, .int (0), .int (0), .int (0), .null, .null])), (q1, .inl (cI, (30, .inl (fun _ => 0))))]) B rfl dX0_init_19 (inq inlX0) tyX0_ok nmX0 rfl (by decide) (mq f_X0_19) rfl rfl (tyX0_ok _ (by decide)) rfl rfl (Nat.le_of_ble_eq_true rfl) rfl ?_
  refine n_aload_n B dX0_init_22 rfl ?_
  refine n_iconst (v := (0)) B dX0_init_23 (by decide) ?_
  refine n_put (q0 := 0) (k := 3) (ci := 0) (C := RX0) (T := TX0) (N := 7) (ty0 := tyX0) (ws2 := [(a, .inr (0, [.int (0), .ref q1, .int (0), .int (0), .int (0), .null, .null])), (q1, .inl (cI, (30, .inl (fun _ => 0))))]) B rfl dX0_init_24 (inq inlX0) tyX0_ok nmX0 rfl (by decide) (mq f_X0_23) rfl rfl (tyX0_ok _ (by decide)) rfl rfl (Nat.le_of_ble_eq_true rfl) rfl ?_
  refine n_aload_n B dX0_init_27 rfl ?_
  refine n_iconst (v := (0)) B dX0_init_28 (by decide) ?_
  refine n_put (q0 := 0) (k := 4) (ci := 0) (C := RX0) (T := TX0) (N := 7) (ty0 := tyX0) (ws2 := [(a, .inr (0, [.int (0), .ref q1, .int (0), .int (0), .int (0), .null, .null])), (q1, .inl (cI, (30, .inl (fun _ => 0))))]) B rfl dX0_init_29 (inq inlX0) tyX0_ok nmX0 rfl (by decide) (mq f_X0_26) rfl rfl (tyX0_ok _ (by decide)) rfl rfl (Nat.le_of_ble_eq_true rfl) rfl ?_
  refine n_aload_n B dX0_init_32 rfl ?_
  refine n_bipush (v := (6)) B dX0_init_33 (by decide) ?_
  refine n_newa (t0 := 0) (cT := cI) (N := 6) (ty := .int) (nc2 := 2) (ns2 := 36) B dX0_init_35 rfl (Or.inl rfl) (mq wa_int) (by rw [hT]; rfl) (by decide) (by decide) (by decide) rfl rfl (by exact ⟨Nat.le_of_ble_eq_true rfl, Nat.le_of_ble_eq_true rfl⟩) (fun q2 => ?_)
  change GN _ _ _ _ _ 2 36 37 _ [.ref q2, .ref a] [(a, .inr (0, [.int (0), .ref q1, .int (0), .int (0), .int (0), .null, .null])), (q1, .inl (cI, (30, .inl (fun _ => 0)))), (q2, .inl (cI, (6, .inl (fun _ => 0))))]
  refine n_putF (q0 := 0) (k := 5) (ci := 0) (C := RX0) (T := TX0) (N := 7) (ty0 := tyX0) (ws2 := [(a, .inr (0, [.int (0), .ref q1, .int (0), .int (0), .int (0), .ref q2, .null])), (q1, .inl (cI, (30, .inl (fun _ => 0)))), (q2, .inl (cI, (6, .inl (fun _ => 0))))]) B hI rfl dX0_init_37 (inq inlX0) tyX0_ok nmX0 rfl (by decide) (mq f_X0_29) rfl rfl rfl (tyX0_ok _ (by decide)) rfl rfl (Nat.le_of_ble_eq_true rfl) rfl ?_
  refine n_aload_n B dX0_init_40 rfl ?_
  refine n_bipush (v := (6)) B dX0_init_41 (by decide) ?_
  refine n_newa (t0 := 0) (cT := cI) (N := 6) (ty := .int) (nc2 := 3) (ns2 := 42) B dX0_init_43 rfl (Or.inl rfl) (mq wa_int) (by rw [hT]; rfl) (by decide) (by decide) (by decide) rfl rfl (by exact ⟨Nat.le_of_ble_eq_true rfl, Nat.le_of_ble_eq_true rfl⟩) (fun q3 => ?_)
  change GN _ _ _ _ _ 3 42 45 _ [.ref q3, .ref a] [(a, .inr (0, [.int (0), .ref q1, .int (0), .int (0), .int (0), .ref q2, .null])), (q1, .inl (cI, (30, .inl (fun _ => 0)))), (q2, .inl (cI, (6, .inl (fun _ => 0)))), (q3, .inl (cI, (6, .inl (fun _ => 0))))]
  refine n_putF (q0 := 0) (k := 6) (ci := 0) (C := RX0) (T := TX0) (N := 7) (ty0 := tyX0) (ws2 := [(a, .inr (0, [.int (0), .ref q1, .int (0), .int (0), .int (0), .ref q2, .ref q3])), (q1, .inl (cI, (30, .inl (fun _ => 0)))), (q2, .inl (cI, (6, .inl (fun _ => 0)))), (q3, .inl (cI, (6, .inl (fun _ => 0))))]) B hI rfl dX0_init_45 (inq inlX0) tyX0_ok nmX0 rfl (by decide) (mq f_X0_32) rfl rfl rfl (tyX0_ok _ (by decide)) rfl rfl (Nat.le_of_ble_eq_true rfl) rfl ?_
  exact n_ret B hI dX0_init_48 rfl rfl (hk q1 q2 q3)
theorem k_X1_init {Z : NZ} {cI cZ cU cT cS : ClassId} {h a : Nat} {K : va_W → Prop} (hT : Z.2.2.1 = [(cI, .int), (cZ, .boolean), (cU, .object RX4), (cT, .object RX3), (cS, .object RX2)]) (hk : ∀ q1 q2 q3 q4, K [(a, .inr (1, [.ref q1, .int (0), .int (0), .ref q2, .ref q3, .ref q4, .int (0), .int (0), .null])), (q1, .inl (cI, (160, .inl (fun _ => 0)))), (q2, .inl (cI, (161, .inl (fun _ => 0)))), (q3, .inl (cI, (161, .inl (fun _ => 0)))), (q4, .inl (cI, (161, .inl (fun _ => 0))))]) : CN Z yX1_init wsX1_init (rmn (h + 1) 4 643) 4 643 [.ref a] [(a, .inr (1, [.null, .int (0), .int (0), .null, .null, .null, .int (0), .int (0), .null]))] K := by
  refine CN.of (by decide) rfl rfl (Nat.le_of_ble_eq_true rfl) (fun X B hI => ?_)
  change GN _ _ _ _ _ 0 0 0 _ [] [(a, .inr (1, [.null, .int (0), .int (0), .null, .null, .null, .int (0), .int (0), .null]))]
  refine n_aload_n B dX1_init_0 rfl ?_
  refine n_objI B dX1_init_1 ⟨mq wo_X1_3, mq wo_i, mq wo_c⟩ (by exact ⟨Nat.le_of_ble_eq_true rfl, Nat.le_of_ble_eq_true rfl⟩) ?_
  refine n_aload_n B dX1_init_4 rfl ?_
  refine n_sipush (v := (160)) B dX1_init_5 (by decide) ?_
  refine n_newa (t0 := 0) (cT := cI) (N := 160) (ty := .int) (nc2 := 1) (ns2 := 160) B dX1_init_8 rfl (Or.inl rfl) (mq wa_int) (by rw [hT]; rfl) (by decide) (by decide) (by decide) rfl rfl (by exact ⟨Nat.le_of_ble_eq_true rfl, Nat.le_of_ble_eq_true rfl⟩) (fun q1 => ?_)
  change GN _ _ _ _ _ 1 160 10 _ [.ref q1, .ref a] [(a, .inr (1, [.null, .int (0), .int (0), .null, .null, .null, .int (0), .int (0), .null])), (q1, .inl (cI, (160, .inl (fun _ => 0))))]
  refine n_putF (q0 := 0) (k := 0) (ci := 1) (C := RX1) (T := TX1) (N := 9) (ty0 := tyX1) (ws2 := [(a, .inr (1, [.ref q1, .int (0), .int (0), .null, .null, .null, .int (0), .int (0), .null])), (q1, .inl (cI, (160, .inl (fun _ => 0))))]) B hI rfl dX1_init_10 (inq inlX1) tyX1_ok nmX1 rfl (by decide) (mq f_X1_9) rfl rfl rfl (tyX1_ok _ (by decide)) rfl rfl (Nat.le_of_ble_eq_true rfl) rfl ?_
  refine n_aload_n B dX1_init_13 rfl ?_
  refine n_iconst (v := (0)) B dX1_init_14 (by decide) ?_
  refine n_put (q0 := 0) (k := 1) (ci := 1) (C := RX1) (T := TX1) (N := 9) (ty0 := tyX1) (ws2 := [(a, .inr (1, [.ref q1, .int (0), .int (0), .null, .null, .null, .int (0), .int (0), .null])), (q1, .inl (cI, (160, .inl (fun _ => 0))))]) B rfl dX1_init_15 (inq inlX1) tyX1_ok nmX1 rfl (by decide) (mq f_X1_15) rfl rfl (tyX1_ok _ (by decide)) rfl rfl (Nat.le_of_ble_eq_true rfl) rfl ?_
  refine n_aload_n B dX1_init_18 rfl ?_
  refine n_iconst (v := (0)) B dX1_init_19 (by decide) ?_
  refine n_put (q0 := 0) (k := 2) (ci := 1) (C := RX1) (T := TX1) (N := 9) (ty0 := tyX1) (ws2 := [(a, .inr (1, [.ref q1, .int (0), .int (0), .null, .null, .null, .int (0), .int (0), .null])), (q1, .inl (cI, (160, .inl (fun _ => 0))))]) B rfl dX1_init_20 (inq inlX1) tyX1_ok nmX1 rfl (by decide) (mq f_X1_19) rfl rfl (tyX1_ok _ (by decide)) rfl rfl (Nat.le_of_ble_eq_true rfl) rfl ?_
  refine n_aload_n B dX1_init_23 rfl ?_
  refine n_sipush (v := (161)) B dX1_init_24 (by decide) ?_
  refine n_newa (t0 := 0) (cT := cI) (N := 161) (ty := .int) (nc2 := 2) (ns2 := 321) B dX1_init_27 rfl (Or.inl rfl) (mq wa_int) (by rw [hT]; rfl) (by decide) (by decide) (by decide) rfl rfl (by exact ⟨Nat.le_of_ble_eq_true rfl, Nat.le_of_ble_eq_true rfl⟩) (fun q2 => ?_)
  change GN _ _ _ _ _ 2 321 29 _ [.ref q2, .ref a] [(a, .inr (1, [.ref q1, .int (0), .int (0), .null, .null, .null, .int (0), .int (0), .null])), (q1, .inl (cI, (160, .inl (fun _ => 0)))), (q2, .inl (cI, (161, .inl (fun _ => 0))))]
  refine n_putF (q0 := 0) (k := 3) (ci := 1) (C := RX1) (T := TX1) (N := 9) (ty0 := tyX1) (ws2 := [(a, .inr (1, [.ref q1, .int (0), .int (0), .ref q2, .null, .null, .int (0), .int (0), .null])), (q1, .inl (cI, (160, .inl (fun _ => 0)))), (q2, .inl (cI, (161, .inl (fun _ => 0))))]) B hI rfl dX1_init_29 (inq inlX1) tyX1_ok nmX1 rfl (by decide) (mq f_X1_22) rfl rfl rfl (tyX1_ok _ (by decide)) rfl rfl (Nat.le_of_ble_eq_true rfl) rfl ?_
  refine n_aload_n B dX1_init_32 rfl ?_
  refine n_sipush (v := (161)) B dX1_init_33 (by decide) ?_
  refine n_newa (t0 := 0) (cT := cI) (N := 161) (ty := .int) (nc2 := 3) (ns2 := 482) B dX1_init_36 rfl (Or.inl rfl) (mq wa_int) (by rw [hT]; rfl) (by decide) (by decide) (by decide) rfl rfl (by exact ⟨Nat.le_of_ble_eq_true rfl, Nat.le_of_ble_eq_true rfl⟩) (fun q3 => ?_)
  change GN _ _ _ _ _ 3 482 38 _ [.ref q3, .ref a] [(a, .inr (1, [.ref q1, .int (0), .int (0), .ref q2, .null, .null, .int (0), .int (0), .null])), (q1, .inl (cI, (160, .inl (fun _ => 0)))), (q2, .inl (cI, (161, .inl (fun _ => 0)))), (q3, .inl (cI, (161, .inl (fun _ => 0))))]
  refine n_putF (q0 := 0) (k := 4) (ci := 1) (C := RX1) (T := TX1) (N := 9) (ty0 := tyX1) (ws2 := [(a, .inr (1, [.ref q1, .int (0), .int (0), .ref q2, .ref q3, .null, .int (0), .int (0), .null])), (q1, .inl (cI, (160, .inl (fun _ => 0)))), (q2, .inl (cI, (161, .inl (fun _ => 0)))), (q3, .inl (cI, (161, .inl (fun _ => 0))))]) B hI rfl dX1_init_38 (inq inlX1) tyX1_ok nmX1 rfl (by decide) (mq f_X1_25) rfl rfl rfl (tyX1_ok _ (by decide)) rfl rfl (Nat.le_of_ble_eq_true rfl) rfl ?_
  refine n_aload_n B dX1_init_41 rfl ?_
  refine n_sipush (v := (161)) B dX1_init_42 (by decide) ?_
  refine n_newa (t0 := 0) (cT := cI) (N := 161) (ty := .int) (nc2 := 4) (ns2 := 643) B dX1_init_45 rfl (Or.inl rfl) (mq wa_int) (by rw [hT]; rfl) (by decide) (by decide) (by decide) rfl rfl (by exact ⟨Nat.le_of_ble_eq_true rfl, Nat.le_of_ble_eq_true rfl⟩) (fun q4 => ?_)
  change GN _ _ _ _ _ 4 643 47 _ [.ref q4, .ref a] [(a, .inr (1, [.ref q1, .int (0), .int (0), .ref q2, .ref q3, .null, .int (0), .int (0), .null])), (q1, .inl (cI, (160, .inl (fun _ => 0)))), (q2, .inl (cI, (161, .inl (fun _ => 0)))), (q3, .inl (cI, (161, .inl (fun _ => 0)))), (q4, .inl (cI, (161, .inl (fun _ => 0))))]
  refine n_putF (q0 := 0) (k := 5) (ci := 1) (C := RX1) (T := TX1) (N := 9) (ty0 := tyX1) (ws2 := [(a, .inr (1, [.ref q1, .int (0), .int (0), .ref q2, .ref q3, .ref q4, .int (0), .int (0), .null])), (q1, .inl (cI, (160, .inl (fun _ => 0)))), (q2, .inl (cI, (161, .inl (fun _ => 0)))), (q3, .inl (cI, (161, .inl (fun _ => 0)))), (q4, .inl (cI, (161, .inl (fun _ => 0))))]) B hI rfl dX1_init_47 (inq inlX1) tyX1_ok nmX1 rfl (by decide) (mq f_X1_28) rfl rfl rfl (tyX1_ok _ (by decide)) rfl rfl (Nat.le_of_ble_eq_true rfl) rfl ?_
  refine n_aload_n B dX1_init_50 rfl ?_
  refine n_iconst (v := (0)) B dX1_init_51 (by decide) ?_
  refine n_put (q0 := 0) (k := 6) (ci := 1) (C := RX1) (T := TX1) (N := 9) (ty0 := tyX1) (ws2 := [(a, .inr (1, [.ref q1, .int (0), .int (0), .ref q2, .ref q3, .ref q4, .int (0), .int (0), .null])), (q1, .inl (cI, (160, .inl (fun _ => 0)))), (q2, .inl (cI, (161, .inl (fun _ => 0)))), (q3, .inl (cI, (161, .inl (fun _ => 0)))), (q4, .inl (cI, (161, .inl (fun _ => 0))))]) B rfl dX1_init_52 (inq inlX1) tyX1_ok nmX1 rfl (by decide) (mq f_X1_31) rfl rfl (tyX1_ok _ (by decide)) rfl rfl (Nat.le_of_ble_eq_true rfl) rfl ?_
  refine n_aload_n B dX1_init_55 rfl ?_
  refine n_iconst (v := (0)) B dX1_init_56 (by decide) ?_
  refine n_put (q0 := 0) (k := 7) (ci := 1) (C := RX1) (T := TX1) (N := 9) (ty0 := tyX1) (ws2 := [(a, .inr (1, [.ref q1, .int (0), .int (0), .ref q2, .ref q3, .ref q4, .int (0), .int (0), .null])), (q1, .inl (cI, (160, .inl (fun _ => 0)))), (q2, .inl (cI, (161, .inl (fun _ => 0)))), (q3, .inl (cI, (161, .inl (fun _ => 0)))), (q4, .inl (cI, (161, .inl (fun _ => 0))))]) B rfl dX1_init_57 (inq inlX1) tyX1_ok nmX1 rfl (by decide) (mq f_X1_34) rfl rfl (tyX1_ok _ (by decide)) rfl rfl (Nat.le_of_ble_eq_true rfl) rfl ?_
  refine n_aload_n B dX1_init_60 rfl ?_
  refine n_null B dX1_init_61 ?_
  refine n_put (q0 := 0) (k := 8) (ci := 1) (C := RX1) (T := TX1) (N := 9) (ty0 := tyX1) (ws2 := [(a, .inr (1, [.ref q1, .int (0), .int (0), .ref q2, .ref q3, .ref q4, .int (0), .int (0), .null])), (q1, .inl (cI, (160, .inl (fun _ => 0)))), (q2, .inl (cI, (161, .inl (fun _ => 0)))), (q3, .inl (cI, (161, .inl (fun _ => 0)))), (q4, .inl (cI, (161, .inl (fun _ => 0))))]) B rfl dX1_init_62 (inq inlX1) tyX1_ok nmX1 rfl (by decide) (mq f_X1_37) rfl rfl (tyX1_ok _ (by decide)) rfl rfl (Nat.le_of_ble_eq_true rfl) rfl ?_
  exact n_ret B hI dX1_init_65 rfl rfl (hk q1 q2 q3 q4)
