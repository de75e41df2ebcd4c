/-! its end -/
set_option maxRecDepth 100000 in
set_option maxHeartbeats 4000000 in
theorem x6_d {Z : NZ} {h : Nat} {X : CX} {A : Nat → Prop} {Q : State → Prop} {cI cZ cU cT cS : ClassId} (hT : Z.2.2.1 = [(cI, .int), (cZ, .boolean), (cU, .object RX4), (cT, .object RX3), (cS, .object RX2)]) (B : AmbN Z (rmn (h + 2) 15 5018) X A cX6_init wsX6_init RX6 2) {a q1 q2 q3 q4 q5 q6 q7 q8 q9 q10 q11 q12 q13 q14 q15 : Nat} (g : ∀ ad : Nat → Nat, ad 0 = a → GN Z (rmn (h + 2) 15 5018) X A Q 15 5018 252 [some (.ref a), some (.int (nI 30))] [] (gws lyM (zM Z cI cZ) ad sA5)) : GN Z (rmn (h + 2) 15 5018) X A Q 15 5018 152 [some (.ref a), some (.int (nI 30))] [] [(a, .inr (6, [.int (0), .ref q1, .ref q2, .int (0), .int (0), .ref q3, .int (0), .int (0), .ref q4, .ref q5, .ref q6, .int (0), .int (0), .int (0), .int (0), .int (0), .int (0), .int (0), .int (0), .int (0), .int (0), .int (0), .int (0), .long (0), .int (0), .int (0), .int (0), .ref q7, .ref q8, .int (0), .int (0), .int (0), .ref q9, .ref q10, .ref q11, .int (-1), .int (0), .int (0), .ref q12, .ref q13, .ref q14, .ref q15])), (q1, .inl (cI, (960, .inl (fun _ => 0)))), (q2, .inl (cI, (6, .inl (fun _ => 0)))), (q3, .inl (cI, (160, .inl (fun _ => 0)))), (q4, .inl (cI, (30, .inl (fun j => if 0 ≤ j ∧ j < 30 then 5 else (fun _ => 0) j)))), (q5, .inl (cI, (6, .inl (fun _ => 0)))), (q6, .inl (cI, (12, .inl (fun _ => 0)))), (q7, .inl (cI, (1800, .inl (fun _ => 0)))), (q8, .inl (cZ, (1800, .inl (fun _ => 0)))), (q9, .inl (cI, (30, .inl (fun _ => 0)))), (q10, .inl (cI, (30, .inl (fun _ => 0)))), (q11, .inl (cI, (12, .inl (fun _ => 0)))), (q12, .inl (cZ, (4, .inl (fun _ => 0)))), (q13, .inl (cI, (4, .inl (fun _ => 0)))), (q14, .inl (cI, (4, .inl (fun _ => 0)))), (q15, .inl (cI, (160, .inl (fun _ => 0))))] := by
  refine n_same (ws2 := gws lyM (zM Z cI cZ) (fun o => [a, q1, q2, q3, q4, q5, q6, q7, q8, q9, q10, q11, q12, q13, q14, q15].getD o 0) (upA sA0 1 (fun _ => 0))) rfl rfl rfl rfl ?_
  refine n_aload_n B dX6_init_152 rfl ?_
  refine n_iconst (v := (0)) B dX6_init_153 (by decide) ?_
  refine n_bipush (v := (103)) B dX6_init_154 (by decide) ?_
  refine n_bipush (v := (97)) B dX6_init_156 (by decide) ?_
  refine n_bipush (v := (105)) B dX6_init_158 (by decide) ?_
  refine n_bipush (v := (110)) B dX6_init_160 (by decide) ?_
  refine n_bipush (v := (115)) B dX6_init_162 (by decide) ?_
  refine n_bipush (v := (32)) B dX6_init_164 (by decide) ?_
  refine n_bipush (v := (99)) B dX6_init_166 (by decide) ?_
  refine n_bipush (v := (111)) B dX6_init_168 (by decide) ?_
  refine n_callVv (C := RX6) (As := [.int (0), .int (103), .int (97), .int (105), .int (110), .int (115), .int (32), .int (99), .int (111)]) (o := 0) (Z9 := (zM Z cI cZ)) (ly := lyM) (ad := (fun o => [a, q1, q2, q3, q4, q5, q6, q7, q8, q9, q10, q11, q12, q13, q14, q15].getD o 0)) (τ := upA sA0 1 (fun _ => 0)) B ⟨rfl, rfl⟩ rfl (fun U hU => gK_M hT hU) dX6_init_170 (gc1 g_X6_63) rfl ⟨rfl, hd_X6_spell⟩ (by exact ⟨Nat.le_of_ble_eq_true rfl, Nat.le_of_ble_eq_true rfl⟩) ⟨rfl, rfl⟩ rfl rfl (by exact Nat.le_of_ble_eq_true rfl) recvM (by exact ⟨Nat.le_of_ble_eq_true rfl, Nat.le_of_ble_eq_true rfl⟩) rfl (c_spell (i_vp (by decide) (by decide)) (i_vp (by decide) (by decide)) (i_vp (by decide) (by decide)) (i_vp (by decide) (by decide)) (i_vp (by decide) (by decide)) (i_vp (by decide) (by decide)) (i_vp (by decide) (by decide)) (i_vp (by decide) (by decide)) ?_)
  refine n_aload_n B dX6_init_173 rfl ?_
  refine n_bipush (v := (8)) B dX6_init_174 (by decide) ?_
  refine n_bipush (v := (108)) B dX6_init_176 (by decide) ?_
  refine n_bipush (v := (100)) B dX6_init_178 (by decide) ?_
  refine n_bipush (v := (32)) B dX6_init_180 (by decide) ?_
  refine n_bipush (v := (59)) B dX6_init_182 (by decide) ?_
  refine n_bipush (v := (32)) B dX6_init_184 (by decide) ?_
  refine n_bipush (v := (109)) B dX6_init_186 (by decide) ?_
  refine n_bipush (v := (105)) B dX6_init_188 (by decide) ?_
  refine n_bipush (v := (108)) B dX6_init_190 (by decide) ?_
  refine n_callVv (C := RX6) (As := [.int (8), .int (108), .int (100), .int (32), .int (59), .int (32), .int (109), .int (105), .int (108)]) (o := 0) (Z9 := (zM Z cI cZ)) (ly := lyM) (ad := (fun o => [a, q1, q2, q3, q4, q5, q6, q7, q8, q9, q10, q11, q12, q13, q14, q15].getD o 0)) (τ := upA sA0 1 (spF (fun _ => 0) (0) (103) (97) (105) (110) (115) (32) (99) (111))) B ⟨rfl, rfl⟩ rfl (fun U hU => gK_M hT hU) dX6_init_192 (gc1 g_X6_63) rfl ⟨rfl, hd_X6_spell⟩ (by exact ⟨Nat.le_of_ble_eq_true rfl, Nat.le_of_ble_eq_true rfl⟩) ⟨rfl, rfl⟩ rfl rfl (by exact Nat.le_of_ble_eq_true rfl) recvM (by exact ⟨Nat.le_of_ble_eq_true rfl, Nat.le_of_ble_eq_true rfl⟩) rfl (c_spell (i_vp (by decide) (by decide)) (i_vp (by decide) (by decide)) (i_vp (by decide) (by decide)) (i_vp (by decide) (by decide)) (i_vp (by decide) (by decide)) (i_vp (by decide) (by decide)) (i_vp (by decide) (by decide)) (i_vp (by decide) (by decide)) ?_)
  refine n_aload_n B dX6_init_195 rfl ?_
  refine n_bipush (v := (16)) B dX6_init_196 (by decide) ?_
  refine n_bipush (v := (100)) B dX6_init_198 (by decide) ?_
  refine n_bipush (v := (32)) B dX6_init_200 (by decide) ?_
  refine n_bipush (v := (49)) B dX6_init_202 (by decide) ?_
  refine n_bipush (v := (32)) B dX6_init_204 (by decide) ?_
  refine n_bipush (v := (59)) B dX6_init_206 (by decide) ?_
  refine n_bipush (v := (32)) B dX6_init_208 (by decide) ?_
  refine n_bipush (v := (109)) B dX6_init_210 (by decide) ?_
  refine n_bipush (v := (111)) B dX6_init_212 (by decide) ?_
  refine n_callVv (C := RX6) (As := [.int (16), .int (100), .int (32), .int (49), .int (32), .int (59), .int (32), .int (109), .int (111)]) (o := 0) (Z9 := (zM Z cI cZ)) (ly := lyM) (ad := (fun o => [a, q1, q2, q3, q4, q5, q6, q7, q8, q9, q10, q11, q12, q13, q14, q15].getD o 0)) (τ := upA sA0 1 (spF (spF (fun _ => 0) (0) (103) (97) (105) (110) (115) (32) (99) (111)) (8) (108) (100) (32) (59) (32) (109) (105) (108))) B ⟨rfl, rfl⟩ rfl (fun U hU => gK_M hT hU) dX6_init_214 (gc1 g_X6_63) rfl ⟨rfl, hd_X6_spell⟩ (by exact ⟨Nat.le_of_ble_eq_true rfl, Nat.le_of_ble_eq_true rfl⟩) ⟨rfl, rfl⟩ rfl rfl (by exact Nat.le_of_ble_eq_true rfl) recvM (by exact ⟨Nat.le_of_ble_eq_true rfl, Nat.le_of_ble_eq_true rfl⟩) rfl (c_spell (i_vp (by decide) (by decide)) (i_vp (by decide) (by decide)) (i_vp (by decide) (by decide)) (i_vp (by decide) (by decide)) (i_vp (by decide) (by decide)) (i_vp (by decide) (by decide)) (i_vp (by decide) (by decide)) (i_vp (by decide) (by decide)) ?_)
  refine n_aload_n B dX6_init_217 rfl ?_
  refine n_bipush (v := (24)) B dX6_init_218 (by decide) ?_
  refine n_bipush (v := (115)) B dX6_init_220 (by decide) ?_
  refine n_bipush (v := (116)) B dX6_init_222 (by decide) ?_
  refine n_bipush (v := (32)) B dX6_init_224 (by decide) ?_
  refine n_bipush (v := (57)) B dX6_init_226 (by decide) ?_
  refine n_bipush (v := (32)) B dX6_init_228 (by decide) ?_
  refine n_bipush (v := (59)) B dX6_init_230 (by decide) ?_
  refine n_bipush (v := (32)) B dX6_init_232 (by decide) ?_
  refine n_bipush (v := (32)) B dX6_init_234 (by decide) ?_
  refine n_callVv (C := RX6) (As := [.int (24), .int (115), .int (116), .int (32), .int (57), .int (32), .int (59), .int (32), .int (32)]) (o := 0) (Z9 := (zM Z cI cZ)) (ly := lyM) (ad := (fun o => [a, q1, q2, q3, q4, q5, q6, q7, q8, q9, q10, q11, q12, q13, q14, q15].getD o 0)) (τ := upA sA0 1 (spF (spF (spF (fun _ => 0) (0) (103) (97) (105) (110) (115) (32) (99) (111)) (8) (108) (100) (32) (59) (32) (109) (105) (108)) (16) (100) (32) (49) (32) (59) (32) (109) (111))) B ⟨rfl, rfl⟩ rfl (fun U hU => gK_M hT hU) dX6_init_236 (gc1 g_X6_63) rfl ⟨rfl, hd_X6_spell⟩ (by exact ⟨Nat.le_of_ble_eq_true rfl, Nat.le_of_ble_eq_true rfl⟩) ⟨rfl, rfl⟩ rfl rfl (by exact Nat.le_of_ble_eq_true rfl) recvM (by exact ⟨Nat.le_of_ble_eq_true rfl, Nat.le_of_ble_eq_true rfl⟩) rfl (c_spell (i_vp (by decide) (by decide)) (i_vp (by decide) (by decide)) (i_vp (by decide) (by decide)) (i_vp (by decide) (by decide)) (i_vp (by decide) (by decide)) (i_vp (by decide) (by decide)) (i_vp (by decide) (by decide)) (i_vp (by decide) (by decide)) ?_)
  refine n_same (ws2 := [(a, .inr (6, [.int (0), .ref q1, .ref q2, .int (0), .int (0), .ref q3, .int (0), .int (0), .ref q4, .ref q5, .ref q6, .int (0), .int (0), .int (0), .int (0), .int (0), .int (0), .int (0), .int (0), .int (0), .int (0), .int (0), .int (0), .long (0), .int (0), .int (0), .int (0), .ref q7, .ref q8, .int (0), .int (0), .int (0), .ref q9, .ref q10, .ref q11, .int (-1), .int (0), .int (0), .ref q12, .ref q13, .ref q14, .ref q15])), (q1, .inl (cI, (960, .inl gT0))), (q2, .inl (cI, (6, .inl (fun _ => 0)))), (q3, .inl (cI, (160, .inl (fun _ => 0)))), (q4, .inl (cI, (30, .inl (fun j => if 0 ≤ j ∧ j < 30 then 5 else (fun _ => 0) j)))), (q5, .inl (cI, (6, .inl (fun _ => 0)))), (q6, .inl (cI, (12, .inl (fun _ => 0)))), (q7, .inl (cI, (1800, .inl (fun _ => 0)))), (q8, .inl (cZ, (1800, .inl (fun _ => 0)))), (q9, .inl (cI, (30, .inl (fun _ => 0)))), (q10, .inl (cI, (30, .inl (fun _ => 0)))), (q11, .inl (cI, (12, .inl (fun _ => 0)))), (q12, .inl (cZ, (4, .inl (fun _ => 0)))), (q13, .inl (cI, (4, .inl (fun _ => 0)))), (q14, .inl (cI, (4, .inl (fun _ => 0)))), (q15, .inl (cI, (160, .inl (fun _ => 0))))]) rfl rfl rfl rfl ?_
  refine n_aload_n B dX6_init_239 rfl ?_
  refine n_get (q0 := 0) (k := 2) (ci := 6) (C := RX6) (T := TX6) (N := 42) B rfl dX6_init_240 (inq inlX6) rfl (by decide) (mq f_X6_17) rfl rfl ?_
  refine n_iconst (v := (0)) B dX6_init_243 (by decide) ?_
  refine n_bipush (v := (32)) B dX6_init_244 (by decide) ?_
  refine n_iast (q0 := 2) (t0 := 0) (ws2 := [(a, .inr (6, [.int (0), .ref q1, .ref q2, .int (0), .int (0), .ref q3, .int (0), .int (0), .ref q4, .ref q5, .ref q6, .int (0), .int (0), .int (0), .int (0), .int (0), .int (0), .int (0), .int (0), .int (0), .int (0), .int (0), .int (0), .long (0), .int (0), .int (0), .int (0), .ref q7, .ref q8, .int (0), .int (0), .int (0), .ref q9, .ref q10, .ref q11, .int (-1), .int (0), .int (0), .ref q12, .ref q13, .ref q14, .ref q15])), (q1, .inl (cI, (960, .inl gT0))), (q2, .inl (cI, (6, .inl (upd (fun _ => 0) (0 : Int32).toNatClampNeg 32)))), (q3, .inl (cI, (160, .inl (fun _ => 0)))), (q4, .inl (cI, (30, .inl (fun j => if 0 ≤ j ∧ j < 30 then 5 else (fun _ => 0) j)))), (q5, .inl (cI, (6, .inl (fun _ => 0)))), (q6, .inl (cI, (12, .inl (fun _ => 0)))), (q7, .inl (cI, (1800, .inl (fun _ => 0)))), (q8, .inl (cZ, (1800, .inl (fun _ => 0)))), (q9, .inl (cI, (30, .inl (fun _ => 0)))), (q10, .inl (cI, (30, .inl (fun _ => 0)))), (q11, .inl (cI, (12, .inl (fun _ => 0)))), (q12, .inl (cZ, (4, .inl (fun _ => 0)))), (q13, .inl (cI, (4, .inl (fun _ => 0)))), (q14, .inl (cI, (4, .inl (fun _ => 0)))), (q15, .inl (cI, (160, .inl (fun _ => 0))))]) B dX6_init_246 rfl (by rw [hT]; rfl) (i_vp (by decide) (by decide)) rfl ?_
  refine n_aload_n B dX6_init_247 rfl ?_
  refine n_iconst (v := (1)) B dX6_init_248 (by decide) ?_
  refine n_put (q0 := 0) (k := 3) (ci := 6) (C := RX6) (T := TX6) (N := 42) (ty0 := tyX6) (ws2 := [(a, .inr (6, [.int (0), .ref q1, .ref q2, .int (1), .int (0), .ref q3, .int (0), .int (0), .ref q4, .ref q5, .ref q6, .int (0), .int (0), .int (0), .int (0), .int (0), .int (0), .int (0), .int (0), .int (0), .int (0), .int (0), .int (0), .long (0), .int (0), .int (0), .int (0), .ref q7, .ref q8, .int (0), .int (0), .int (0), .ref q9, .ref q10, .ref q11, .int (-1), .int (0), .int (0), .ref q12, .ref q13, .ref q14, .ref q15])), (q1, .inl (cI, (960, .inl gT0))), (q2, .inl (cI, (6, .inl (upd (fun _ => 0) (0 : Int32).toNatClampNeg 32)))), (q3, .inl (cI, (160, .inl (fun _ => 0)))), (q4, .inl (cI, (30, .inl (fun j => if 0 ≤ j ∧ j < 30 then 5 else (fun _ => 0) j)))), (q5, .inl (cI, (6, .inl (fun _ => 0)))), (q6, .inl (cI, (12, .inl (fun _ => 0)))), (q7, .inl (cI, (1800, .inl (fun _ => 0)))), (q8, .inl (cZ, (1800, .inl (fun _ => 0)))), (q9, .inl (cI, (30, .inl (fun _ => 0)))), (q10, .inl (cI, (30, .inl (fun _ => 0)))), (q11, .inl (cI, (12, .inl (fun _ => 0)))), (q12, .inl (cZ, (4, .inl (fun _ => 0)))), (q13, .inl (cI, (4, .inl (fun _ => 0)))), (q14, .inl (cI, (4, .inl (fun _ => 0)))), (q15, .inl (cI, (160, .inl (fun _ => 0))))]) B rfl dX6_init_249 (inq inlX6) tyX6_ok nmX6 rfl (by decide) (mq f_X6_67) rfl rfl (tyX6_ok _ (by decide)) rfl rfl (Nat.le_of_ble_eq_true rfl) rfl ?_
  refine n_same (ws2 := gws lyM (zM Z cI cZ) (fun o => [a, q1, q2, q3, q4, q5, q6, q7, q8, q9, q10, q11, q12, q13, q14, q15].getD o 0) sA5) rfl rfl rfl rfl ?_
  exact g (fun o => [a, q1, q2, q3, q4, q5, q6, q7, q8, q9, q10, q11, q12, q13, q14, q15].getD o 0) rfl

theorem k_X6_init {Z : NZ} {h a : Nat} {K : va_W → Prop} {cI cZ cU cT cS : ClassId} (hT : Z.2.2.1 = [(cI, .int), (cZ, .boolean), (cU, .object RX4), (cT, .object RX3), (cS, .object RX2)]) (hk : ∀ ad : Nat → Nat, ad 0 = a → K (gws lyM (zM Z cI cZ) ad sA5)) : CN Z yX6_init wsX6_init (rmn (h + 2) 15 5018) 15 5018 [.ref a] [(a, .inr (6, [.int (0), .null, .null, .int (0), .int (0), .null, .int (0), .int (0), .null, .null, .null, .int (0), .int (0), .int (0), .int (0), .int (0), .int (0), .int (0), .int (0), .int (0), .int (0), .int (0), .int (0), .long (0), .int (0), .int (0), .int (0), .null, .null, .int (0), .int (0), .int (0), .null, .null, .null, .int (0), .int (0), .int (0), .null, .null, .null, .null]))] K := by
  refine CN.of (by decide) rfl rfl (Nat.le_of_ble_eq_true rfl) (fun X B hI => ?_)
  refine x6_a hT B hI (fun q1 q2 q3 q4 q5 q6 q7 q8 => ?_)
  refine x6_b hT B hI (fun q9 q10 q11 q12 q13 q14 q15 => ?_)
  refine x6_c hT B hI ?_
  refine x6_d hT B (fun ad he => ?_)
  exact n_ret B hI dX6_init_252 rfl rfl (hk ad he)
