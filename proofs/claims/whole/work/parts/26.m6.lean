/-! the reference: its reader, level by level (d: how many are open) *by program* -/
theorem in_or3 (x : Int32) (h : x = 2 ∨ x = 3) : x ≠ 0 ∧ x ≠ 1 := by rcases h with rfl | rfl <;> decide
set_option maxRecDepth 100000 in
set_option maxHeartbeats 4000000 in
theorem c_nm {Z : LZ} {ad : Nat → Nat} {τ0 τ : St} {K : Int32 → St → Prop} {t n d a : Nat} (hR : RB τ0 t n) (hM : MS τ0 t n d a τ) (hw : τ.1 0 21 = 1) (h3 : tT τ0 t n a = 3 → K (opd (eM τ0) (tV τ0 t n a)) τ) (h1 : tT τ0 t n a ≠ 3 → ∀ τ', MB τ0 t n a τ' → K 0 τ') : CC lyM Z ad yX6_name wsX6_name (rmk 3) [.ref (ad 0)] τ (rI K) := by
  refine CC.of (cc := cX6_name) (nL := 1) (ret := (some .int)) rfl rfl ⟨rfl, rfl⟩ (by exact Nat.le_of_ble_eq_true rfl) ?_
  intro X B
  change GG _ _ _ _ X _ 0 [some (.ref (ad 0))] [] _
  change Amb _ _ _ _ X _ _ RX6 _ _ at B
  have hl := hM.A.wrd.1.mp hw
  obtain ⟨hT, hV, h20⟩ := hM.A.wrd.2.1 hl
  have hn := hR.2.2.2
  have hq := hM.A.2.1
  have hsp := spL_spec hR.2 200 _ hq (by omega)
  have hwo := fun (b0 b1' b2 b3 b4 b5 b6 b7 : Int32) (K' : Int32 → St → Prop) (h : K' (b1 (τ.1 0 21 = 1 ∧ wd (gM τ0 t n) (lxS (gM τ0 t n) a) (spL (gM τ0 t n) 200 (lxS (gM τ0 t n) a)) b0 b1' b2 b3 b4 b5 b6 b7)) τ) => c_isWord (Z := Z) (ad := ad) hR.1 hM.1 hM.2.1 ⟨hM.A.1, by omega⟩ (fun _ => ⟨h20, by omega⟩) h
  have ev : ∀ k, k < 6 → τ.1 0 (12 + k) = eM τ0 k := fun k hk => by
    unfold eM
    rw [if_pos hk]
    refine hM.1.2.1 (12 + k) ?_
    rcases (show k = 0 ∨ k = 1 ∨ k = 2 ∨ k = 3 ∨ k = 4 ∨ k = 5 by omega) with rfl | rfl | rfl | rfl | rfl | rfl <;> decide
  change (tT τ0 t n a = 3 → _) at h3
  have hT' : tT τ0 t n a = (wS (gM τ0 t n) (lxS (gM τ0 t n) a) (spL (gM τ0 t n) 200 (lxS (gM τ0 t n) a))).1 := hT
  have hV' : tV τ0 t n a = (wS (gM τ0 t n) (lxS (gM τ0 t n) a) (spL (gM τ0 t n) 200 (lxS (gM τ0 t n) a))).2 := hV
  rw [hV'] at h3
  rw [hT'] at h3 h1
  clear hT hV hT' hV'
  have hnp : ∀ {p : Prop} [Decidable p], b1 (τ.1 0 21 = 1 ∧ p) = 0 → ¬ p := fun h hp => (b1_0.mp h) ⟨hw, hp⟩
  have hyp : ∀ {p : Prop} [Decidable p], ¬ b1 (τ.1 0 21 = 1 ∧ p) = 0 → p := fun h => (b1_n0.mp h).2
  refine g_aload_n B dX6_name_0 rfl ?_
  refine g_bipush (v := (99)) B dX6_name_1 (by decide) ?_
  refine g_bipush (v := (111)) B dX6_name_3 (by decide) ?_
  refine g_bipush (v := (108)) B dX6_name_5 (by decide) ?_
  refine g_bipush (v := (100)) B dX6_name_7 (by decide) ?_
  refine g_iconst (v := (0)) B dX6_name_9 (by decide) ?_
  refine g_iconst (v := (0)) B dX6_name_10 (by decide) ?_
  refine g_iconst (v := (0)) B dX6_name_11 (by decide) ?_
  refine g_iconst (v := (0)) B dX6_name_12 (by decide) ?_
  refine g_callVi (C := RX6) (As := [.int _, .int _, .int _, .int _, .int _, .int _, .int _, .int _]) B dX6_name_13 (gc1 g_X6_180) (by rfl) ⟨rfl, hd_X6_isWord⟩ (by exact ⟨Nat.le_of_ble_eq_true rfl, Nat.le_of_ble_eq_true rfl⟩) ⟨rfl, rfl⟩ rfl rfl (by exact Nat.le_of_ble_eq_true rfl) recvM (hwo _ _ _ _ _ _ _ _ _ ?_)
  refine g_if_eq (tgt := 24) B dX6_name_16 (by decide) (fun c16 => ?_) (fun c16 => ?_)
  · refine g_aload_n B dX6_name_24 rfl ?_
    refine g_bipush (v := (110)) B dX6_name_25 (by decide) ?_
    refine g_bipush (v := (105)) B dX6_name_27 (by decide) ?_
    refine g_bipush (v := (103)) B dX6_name_29 (by decide) ?_
    refine g_bipush (v := (104)) B dX6_name_31 (by decide) ?_
    refine g_bipush (v := (116)) B dX6_name_33 (by decide) ?_
    refine g_iconst (v := (0)) B dX6_name_35 (by decide) ?_
    refine g_iconst (v := (0)) B dX6_name_36 (by decide) ?_
    refine g_iconst (v := (0)) B dX6_name_37 (by decide) ?_
    refine g_callVi (C := RX6) (As := [.int _, .int _, .int _, .int _, .int _, .int _, .int _, .int _]) B dX6_name_38 (gc1 g_X6_180) (by rfl) ⟨rfl, hd_X6_isWord⟩ (by exact ⟨Nat.le_of_ble_eq_true rfl, Nat.le_of_ble_eq_true rfl⟩) ⟨rfl, rfl⟩ rfl rfl (by exact Nat.le_of_ble_eq_true rfl) recvM (hwo _ _ _ _ _ _ _ _ _ ?_)
    refine g_if_eq (tgt := 49) B dX6_name_41 (by decide) (fun c41 => ?_) (fun c41 => ?_)
    · refine g_aload_n B dX6_name_49 rfl ?_
      refine g_bipush (v := (110)) B dX6_name_50 (by decide) ?_
      refine g_bipush (v := (117)) B dX6_name_52 (by decide) ?_
      refine g_bipush (v := (109)) B dX6_name_54 (by decide) ?_
      refine g_bipush (v := (98)) B dX6_name_56 (by decide) ?_
      refine g_bipush (v := (101)) B dX6_name_58 (by decide) ?_
      refine g_bipush (v := (114)) B dX6_name_60 (by decide) ?_
      refine g_iconst (v := (0)) B dX6_name_62 (by decide) ?_
      refine g_iconst (v := (0)) B dX6_name_63 (by decide) ?_
      refine g_callVi (C := RX6) (As := [.int _, .int _, .int _, .int _, .int _, .int _, .int _, .int _]) B dX6_name_64 (gc1 g_X6_180) (by rfl) ⟨rfl, hd_X6_isWord⟩ (by exact ⟨Nat.le_of_ble_eq_true rfl, Nat.le_of_ble_eq_true rfl⟩) ⟨rfl, rfl⟩ rfl rfl (by exact Nat.le_of_ble_eq_true rfl) recvM (hwo _ _ _ _ _ _ _ _ _ ?_)
      refine g_if_eq (tgt := 75) B dX6_name_67 (by decide) (fun c67 => ?_) (fun c67 => ?_)
      · refine g_aload_n B dX6_name_75 rfl ?_
        refine g_bipush (v := (114)) B dX6_name_76 (by decide) ?_
        refine g_bipush (v := (117)) B dX6_name_78 (by decide) ?_
        refine g_bipush (v := (110)) B dX6_name_80 (by decide) ?_
        refine g_iconst (v := (0)) B dX6_name_82 (by decide) ?_
        refine g_iconst (v := (0)) B dX6_name_83 (by decide) ?_
        refine g_iconst (v := (0)) B dX6_name_84 (by decide) ?_
        refine g_iconst (v := (0)) B dX6_name_85 (by decide) ?_
        refine g_iconst (v := (0)) B dX6_name_86 (by decide) ?_
        refine g_callVi (C := RX6) (As := [.int _, .int _, .int _, .int _, .int _, .int _, .int _, .int _]) B dX6_name_87 (gc1 g_X6_180) (by rfl) ⟨rfl, hd_X6_isWord⟩ (by exact ⟨Nat.le_of_ble_eq_true rfl, Nat.le_of_ble_eq_true rfl⟩) ⟨rfl, rfl⟩ rfl rfl (by exact Nat.le_of_ble_eq_true rfl) recvM (hwo _ _ _ _ _ _ _ _ _ ?_)
        refine g_if_eq (tgt := 98) B dX6_name_90 (by decide) (fun c90 => ?_) (fun c90 => ?_)
        · refine g_aload_n B dX6_name_98 rfl ?_
          refine g_bipush (v := (116)) B dX6_name_99 (by decide) ?_
          refine g_bipush (v := (111)) B dX6_name_101 (by decide) ?_
          refine g_bipush (v := (119)) B dX6_name_103 (by decide) ?_
          refine g_bipush (v := (110)) B dX6_name_105 (by decide) ?_
          refine g_iconst (v := (0)) B dX6_name_107 (by decide) ?_
          refine g_iconst (v := (0)) B dX6_name_108 (by decide) ?_
          refine g_iconst (v := (0)) B dX6_name_109 (by decide) ?_
          refine g_iconst (v := (0)) B dX6_name_110 (by decide) ?_
          refine g_callVi (C := RX6) (As := [.int _, .int _, .int _, .int _, .int _, .int _, .int _, .int _]) B dX6_name_111 (gc1 g_X6_180) (by rfl) ⟨rfl, hd_X6_isWord⟩ (by exact ⟨Nat.le_of_ble_eq_true rfl, Nat.le_of_ble_eq_true rfl⟩) ⟨rfl, rfl⟩ rfl rfl (by exact Nat.le_of_ble_eq_true rfl) recvM (hwo _ _ _ _ _ _ _ _ _ ?_)
          refine g_if_eq (tgt := 122) B dX6_name_114 (by decide) (fun c114 => ?_) (fun c114 => ?_)
          · refine g_aload_n B dX6_name_122 rfl ?_
            refine g_bipush (v := (117)) B dX6_name_123 (by decide) ?_
            refine g_bipush (v := (115)) B dX6_name_125 (by decide) ?_
            refine g_bipush (v := (101)) B dX6_name_127 (by decide) ?_
            refine g_bipush (v := (114)) B dX6_name_129 (by decide) ?_
            refine g_bipush (v := (115)) B dX6_name_131 (by decide) ?_
            refine g_iconst (v := (0)) B dX6_name_133 (by decide) ?_
            refine g_iconst (v := (0)) B dX6_name_134 (by decide) ?_
            refine g_iconst (v := (0)) B dX6_name_135 (by decide) ?_
            refine g_callVi (C := RX6) (As := [.int _, .int _, .int _, .int _, .int _, .int _, .int _, .int _]) B dX6_name_136 (gc1 g_X6_180) (by rfl) ⟨rfl, hd_X6_isWord⟩ (by exact ⟨Nat.le_of_ble_eq_true rfl, Nat.le_of_ble_eq_true rfl⟩) ⟨rfl, rfl⟩ rfl rfl (by exact Nat.le_of_ble_eq_true rfl) recvM (hwo _ _ _ _ _ _ _ _ _ ?_)
            refine g_if_eq (tgt := 147) B dX6_name_139 (by decide) (fun c139 => ?_) (fun c139 => ?_)
            · refine g_aload_n B dX6_name_147 rfl ?_
              refine g_callVv (C := RX6) (As := []) B dX6_name_148 (gc1 g_X6_174) (by rfl) ⟨rfl, hd_X6_fail⟩ (by exact ⟨Nat.le_of_ble_eq_true rfl, Nat.le_of_ble_eq_true rfl⟩) ⟨rfl, rfl⟩ rfl rfl (by exact Nat.le_of_ble_eq_true rfl) recvM (c_fl hM (fun τ9 hB9 => ?_))
              refine g_iconst (v := (0)) B dX6_name_151 (by decide) ?_
              refine g_ireti B dX6_name_152 ?_
              refine h1 (fun h => ?_) τ9 hB9
              unfold wS at h
              rw [if_neg (hnp c16), if_neg (hnp c41), if_neg (hnp c67), if_neg (hnp c90), if_neg (hnp c114), if_neg (hnp c139)] at h
              (repeat' split at h) <;> exact absurd h (by decide)
            · refine g_aload_n B dX6_name_142 rfl ?_
              refine g_getI (T := TX6) (N := 42) B dX6_name_143 (by decide) (by rfl) (inq inlX6) rfl 17 (by decide) (mq f_X6_199) (by rfl) ?_
              refine g_ireti B dX6_name_146 ?_
              have e : wS (gM τ0 t n) (lxS (gM τ0 t n) a) (spL (gM τ0 t n) 200 (lxS (gM τ0 t n) a)) = (3, -6) := by
                unfold wS
                rw [if_neg (hnp c16), if_neg (hnp c41), if_neg (hnp c67), if_neg (hnp c90), if_neg (hnp c114), if_pos (hyp c139)]
              rw [e] at h3
              exact kk (ev 5 (by decide)) (h3 rfl)
          · refine g_aload_n B dX6_name_117 rfl ?_
            refine g_getI (T := TX6) (N := 42) B dX6_name_118 (by decide) (by rfl) (inq inlX6) rfl 16 (by decide) (mq f_X6_196) (by rfl) ?_
            refine g_ireti B dX6_name_121 ?_
            have e : wS (gM τ0 t n) (lxS (gM τ0 t n) a) (spL (gM τ0 t n) 200 (lxS (gM τ0 t n) a)) = (3, -5) := by
              unfold wS
              rw [if_neg (hnp c16), if_neg (hnp c41), if_neg (hnp c67), if_neg (hnp c90), if_pos (hyp c114)]
            rw [e] at h3
            exact kk (ev 4 (by decide)) (h3 rfl)
        · refine g_aload_n B dX6_name_93 rfl ?_
          refine g_getI (T := TX6) (N := 42) B dX6_name_94 (by decide) (by rfl) (inq inlX6) rfl 15 (by decide) (mq f_X6_193) (by rfl) ?_
          refine g_ireti B dX6_name_97 ?_
          have e : wS (gM τ0 t n) (lxS (gM τ0 t n) a) (spL (gM τ0 t n) 200 (lxS (gM τ0 t n) a)) = (3, -4) := by
            unfold wS
            rw [if_neg (hnp c16), if_neg (hnp c41), if_neg (hnp c67), if_pos (hyp c90)]
          rw [e] at h3
          exact kk (ev 3 (by decide)) (h3 rfl)
      · refine g_aload_n B dX6_name_70 rfl ?_
        refine g_getI (T := TX6) (N := 42) B dX6_name_71 (by decide) (by rfl) (inq inlX6) rfl 14 (by decide) (mq f_X6_190) (by rfl) ?_
        refine g_ireti B dX6_name_74 ?_
        have e : wS (gM τ0 t n) (lxS (gM τ0 t n) a) (spL (gM τ0 t n) 200 (lxS (gM τ0 t n) a)) = (3, -3) := by
          unfold wS
          rw [if_neg (hnp c16), if_neg (hnp c41), if_pos (hyp c67)]
        rw [e] at h3
        exact kk (ev 2 (by decide)) (h3 rfl)
    · refine g_aload_n B dX6_name_44 rfl ?_
      refine g_getI (T := TX6) (N := 42) B dX6_name_45 (by decide) (by rfl) (inq inlX6) rfl 13 (by decide) (mq f_X6_187) (by rfl) ?_
      refine g_ireti B dX6_name_48 ?_
      have e : wS (gM τ0 t n) (lxS (gM τ0 t n) a) (spL (gM τ0 t n) 200 (lxS (gM τ0 t n) a)) = (3, -2) := by
        unfold wS
        rw [if_neg (hnp c16), if_pos (hyp c41)]
      rw [e] at h3
      exact kk (ev 1 (by decide)) (h3 rfl)
  · refine g_aload_n B dX6_name_19 rfl ?_
    refine g_getI (T := TX6) (N := 42) B dX6_name_20 (by decide) (by rfl) (inq inlX6) rfl 12 (by decide) (mq f_X6_184) (by rfl) ?_
    refine g_ireti B dX6_name_23 ?_
    have e : wS (gM τ0 t n) (lxS (gM τ0 t n) a) (spL (gM τ0 t n) 200 (lxS (gM τ0 t n) a)) = (3, -1) := by
      unfold wS
      rw [if_pos (hyp c16)]
    rw [e] at h3
    exact kk (ev 0 (by decide)) (h3 rfl)
theorem jn_and_l {a b : Int32} (h : a = 0) : 0 = jn (-12) a b := by
  unfold jn
  rw [if_neg (by decide), if_pos rfl, if_neg (fun z => z.1 h)]
theorem jn_and_r {a b : Int32} (h : b = 0) : 0 = jn (-12) a b := by
  unfold jn
  rw [if_neg (by decide), if_pos rfl, if_neg (fun z => z.2 h)]
theorem jn_and_1 {a b : Int32} (h : ¬ a = 0) (h2 : ¬ b = 0) : 1 = jn (-12) a b := by
  unfold jn
  rw [if_neg (by decide), if_pos rfl, if_pos ⟨h, h2⟩]
theorem jn_or_l {a b : Int32} (h : ¬ a = 0) : 1 = jn (-11) a b := by
  unfold jn
  rw [if_pos rfl, if_pos (Or.inl h)]
theorem jn_or_r {a b : Int32} (h : ¬ b = 0) : 1 = jn (-11) a b := by
  unfold jn
  rw [if_pos rfl, if_pos (Or.inr h)]
theorem jn_or_0 {a b : Int32} (h : a = 0) (h2 : b = 0) : 0 = jn (-11) a b := by
  unfold jn
  rw [if_pos rfl, if_neg (fun z => z.elim (fun z => z h) (fun z => z h2))]
theorem evc_mul {env : Nat → Int32} {cs ds : List Int32} (h1 : WF cs) (h2 : WF ds) : evc env cs * evc env ds = evc env (cs ++ ds ++ [-17]) := by
  rw [evc_bin h1 h2 (by decide)]
  unfold jn
  rw [if_neg (by decide), if_neg (by decide), if_neg (by decide), if_neg (by decide), if_neg (by decide), if_neg (by decide)]
theorem evc_add {env : Nat → Int32} {cs ds : List Int32} (h1 : WF cs) (h2 : WF ds) : evc env cs + evc env ds = evc env (cs ++ ds ++ [-15]) := by
  rw [evc_bin h1 h2 (by decide)]
  unfold jn
  rw [if_neg (by decide), if_neg (by decide), if_neg (by decide), if_neg (by decide), if_pos rfl]
theorem evc_sub {env : Nat → Int32} {cs ds : List Int32} (h1 : WF cs) (h2 : WF ds) : evc env cs - evc env ds = evc env (cs ++ ds ++ [-16]) := by
  rw [evc_bin h1 h2 (by decide)]
  unfold jn
  rw [if_neg (by decide), if_neg (by decide), if_neg (by decide), if_neg (by decide), if_neg (by decide), if_pos rfl]
theorem tV_num {τ0 : St} {t n a : Nat} (hR : RB τ0 t n) (h : tT τ0 t n a = 2) : 0 ≤ (tV τ0 t n a).toInt ∧ (tV τ0 t n a).toInt ≤ 9999 := by
  have hq := (lxS_le hR.2 a).1
  have hg := hR.2
  have h : tokS (gM τ0 t n) (lxS (gM τ0 t n) a) = 2 := h
  show 0 ≤ (tokV (gM τ0 t n) (lxS (gM τ0 t n) a)).toInt ∧ (tokV (gM τ0 t n) (lxS (gM τ0 t n) a)).toInt ≤ 9999
  generalize lxS (gM τ0 t n) a = q at h hq ⊢
  generalize gM τ0 t n = g at h hg ⊢
  unfold tokS at h
  unfold tokV
  have hn := hg.2.2
  by_cases h0 : g q < 0
  · rw [if_pos h0] at h; exact absurd h (by decide)
  rw [if_neg h0] at h ⊢
  by_cases h1 : isL (g q)
  · rw [if_pos h1] at h
    rcases wS_cases g q (spL g 200 q) with ⟨w, -⟩ | ⟨w | w | w | w | w | w | w, -⟩ <;> rw [w] at h <;> exact absurd h (by decide)
  rw [if_neg h1] at h ⊢
  by_cases h2 : isD (g q)
  · rw [if_pos h2] at h ⊢
    by_cases h3 : spD g 200 q - q ≤ 4
    · rw [if_pos h3]
      obtain ⟨a1, a2, a3, a4⟩ := spD_spec hg 200 q hq (by omega)
      obtain ⟨b1, b2⟩ := nvI_bd (spD g 200 q - q) h3 (fun j b c => a4 j b (by omega))
      have hp : (10 : Int) ^ (spD g 200 q - q) ≤ 10000 := by
        rcases (show spD g 200 q - q = 0 ∨ spD g 200 q - q = 1 ∨ spD g 200 q - q = 2 ∨ spD g 200 q - q = 3 ∨ spD g 200 q - q = 4 by omega) with e | e | e | e | e <;> rw [e] <;> decide
      omega
    · rw [if_neg h3] at h; exact absurd h (by decide)
  · rw [if_neg h2] at h
    by_cases h3 : isS (g q)
    · rw [if_pos h3] at h; exact absurd h (isS_ne h3).2.2.1
    · rw [if_neg h3] at h; exact absurd h (by decide)
theorem opd_num {env : Nat → Int32} {c : Int32} (h : 0 ≤ c.toInt) : opd env c = c := by
  unfold opd
  rw [if_pos (i_le.mpr (by rw [i0]; exact h))]
theorem MS.w {τ0 τ : St} {t n d a : Nat} (hM : MS τ0 t n d a τ) (hs : isS (tT τ0 t n a)) : τ.2.1 = (tT τ0 t n a).toInt64 := ((hM.A.sgn hs).mpr rfl).2
theorem tT_lt {τ0 : St} {t n a : Nat} (hR : RB τ0 t n) (h : tT τ0 t n a ≠ 0) : a < 160 := by
  have := lxS_lt hR.2 h
  have := hR.2.2.2
  omega
theorem isS_0 {s : Int32} (hs : isS s) : s ≠ 0 ∧ s ≠ 1 := ⟨(isS_ne hs).1, (isS_ne hs).2.1⟩
theorem lo_none {T V : Nat → Int32} : pLev T V 0 = none := rfl
set_option maxRecDepth 100000 in
set_option maxHeartbeats 4000000 in
theorem c_atom5 {Z : LZ} {ad : Nat → Nat} {τ0 τ : St} {K : Int32 → St → Prop} {t n a : Nat} (hR : RB τ0 t n) (hM : MS τ0 t n 5 a τ) (hK1 : ∀ f, pAtom (tT τ0 t n) (tV τ0 t n) (pLev (tT τ0 t n) (tV τ0 t n) 0) a = .inl f → ∀ v τ', MB τ0 t n f τ' → K v τ') (hK2 : ∀ cs a2, pAtom (tT τ0 t n) (tV τ0 t n) (pLev (tT τ0 t n) (tV τ0 t n) 0) a = .inr (cs, a2) → ∀ τ', MS τ0 t n 5 a2 τ' → K (evc (eM τ0) cs) τ') : CC lyM Z ad yX6_atom5 wsX6_atom5 (rmk 4) [.ref (ad 0)] τ (rI K) := by
  refine CC.of (cc := cX6_atom5) (nL := 2) (ret := (some .int)) rfl rfl ⟨rfl, rfl⟩ (by exact Nat.le_of_ble_eq_true rfl) ?_
  intro X B
  change GG _ _ _ _ X _ 0 [some (.ref (ad 0)), none] [] _
  change Amb _ _ _ _ X _ _ RX6 _ _ at B
  have hg : ∀ v τ', MB τ0 t n a τ' → ¬ (tT τ0 t n a = 2 ∨ tT τ0 t n a = 3) → tT τ0 t n a ≠ 45 → tT τ0 t n a ≠ 40 → K v τ' := fun v τ' hB h h2 h3 => hK1 a (by
    unfold pAtom
    rw [if_neg h, if_neg h2, if_neg h3]) v τ' hB
  have h45 : isS 45 := by decide
  have h40 : isS 40 := by decide
  refine g_iconst (v := (0)) B dX6_atom5_0 (by decide) ?_
  refine g_istore_n B dX6_atom5_1 (by decide) rfl ?_
  refine g_aload_n B dX6_atom5_2 rfl ?_
  refine g_bipush (v := (45)) B dX6_atom5_3 (by decide) ?_
  refine g_callVi (C := RX6) (As := [.int _]) B dX6_atom5_5 (gc1 g_X6_202) (by rfl) ⟨rfl, hd_X6_isSign⟩ (by exact ⟨Nat.le_of_ble_eq_true rfl, Nat.le_of_ble_eq_true rfl⟩) ⟨rfl, rfl⟩ rfl rfl (by exact Nat.le_of_ble_eq_true rfl) recvM (c_sgn hM h45 ?_)
  refine g_if_eq (tgt := 19) B dX6_atom5_8 (by decide) (fun c8 => ?_) (fun c8 => ?_)
  · refine g_aload_n B dX6_atom5_19 rfl ?_
    refine g_bipush (v := (40)) B dX6_atom5_20 (by decide) ?_
    refine g_callVi (C := RX6) (As := [.int _]) B dX6_atom5_22 (gc1 g_X6_202) (by rfl) ⟨rfl, hd_X6_isSign⟩ (by exact ⟨Nat.le_of_ble_eq_true rfl, Nat.le_of_ble_eq_true rfl⟩) ⟨rfl, rfl⟩ rfl rfl (by exact Nat.le_of_ble_eq_true rfl) recvM (c_sgn hM h40 ?_)
    refine g_if_eq (tgt := 36) B dX6_atom5_25 (by decide) (fun c25 => ?_) (fun c25 => ?_)
    · refine g_aload_n B dX6_atom5_36 rfl ?_
      refine g_getI (T := TX6) (N := 42) B dX6_atom5_37 (by decide) (by rfl) (inq inlX6) rfl 25 (by decide) (mq f_X6_161) (by rfl) ?_
      refine g_if_ne (tgt := 64) B dX6_atom5_40 (by decide) (fun c40 => ?_) (fun c40 => ?_)
      · exact absurd hM.2.1 c40
      · refine g_aload_n B dX6_atom5_43 rfl ?_
        refine g_getI (T := TX6) (N := 42) B dX6_atom5_44 (by decide) (by rfl) (inq inlX6) rfl 21 (by decide) (mq f_X6_144) (by rfl) ?_
        refine g_iconst (v := (2)) B dX6_atom5_47 (by decide) ?_
        refine g_icmp_ne (tgt := 64) B dX6_atom5_48 (by decide) (fun c48 => ?_) (fun c48 => ?_)
        · refine g_aload_n B dX6_atom5_64 rfl ?_
          refine g_getI (T := TX6) (N := 42) B dX6_atom5_65 (by decide) (by rfl) (inq inlX6) rfl 25 (by decide) (mq f_X6_161) (by rfl) ?_
          refine g_if_ne (tgt := 98) B dX6_atom5_68 (by decide) (fun c68 => ?_) (fun c68 => ?_)
          · exact absurd hM.2.1 c68
          · refine g_aload_n B dX6_atom5_71 rfl ?_
            refine g_getI (T := TX6) (N := 42) B dX6_atom5_72 (by decide) (by rfl) (inq inlX6) rfl 21 (by decide) (mq f_X6_144) (by rfl) ?_
            refine g_iconst (v := (1)) B dX6_atom5_75 (by decide) ?_
            refine g_icmp_ne (tgt := 98) B dX6_atom5_76 (by decide) (fun c76 => ?_) (fun c76 => ?_)
            · refine g_aload_n B dX6_atom5_98 rfl ?_
              refine g_callVv (C := RX6) (As := []) B dX6_atom5_99 (gc1 g_X6_174) (by rfl) ⟨rfl, hd_X6_fail⟩ (by exact ⟨Nat.le_of_ble_eq_true rfl, Nat.le_of_ble_eq_true rfl⟩) ⟨rfl, rfl⟩ rfl rfl (by exact Nat.le_of_ble_eq_true rfl) recvM (c_fl hM (fun τ9 hB9 => ?_))
              refine g_iload_n B dX6_atom5_102 rfl ?_
              refine g_ireti B dX6_atom5_103 ?_
              first
                | exact absurd hM.2.1 c40
                | exact absurd hM.2.1 c68
                | exact hg _ _ hB9 (fun h => h.elim (fun h => c48 (hM.A.num.1.mpr h)) (fun h => c76 (hM.A.wrd.1.mpr (hM.A.wrd.2.2 h)))) (b1_0.mp c8) (b1_0.mp c25)
            · refine g_aload_n B dX6_atom5_79 rfl ?_
              refine g_callVi (C := RX6) (As := []) B dX6_atom5_80 (gc1 g_X6_209) (by rfl) ⟨rfl, hd_X6_name⟩ (by exact ⟨Nat.le_of_ble_eq_true rfl, Nat.le_of_ble_eq_true rfl⟩) ⟨rfl, rfl⟩ rfl rfl (by exact Nat.le_of_ble_eq_true rfl) recvM (c_nm hR hM c76 (fun h3 => ?_) (fun h3 τ9 hB9 => ?_))
              · refine g_istore_n B dX6_atom5_83 (by decide) rfl ?_
                refine g_aload_n B dX6_atom5_84 rfl ?_
                refine g_getI (T := TX6) (N := 42) B dX6_atom5_85 (by decide) (by rfl) (inq inlX6) rfl 25 (by decide) (mq f_X6_161) (by rfl) ?_
                refine g_if_ne (tgt := 102) B dX6_atom5_88 (by decide) (fun c88 => ?_) (fun c88 => ?_)
                · exact absurd hM.2.1 c88
                · refine g_aload_n B dX6_atom5_91 rfl ?_
                  refine g_callVv (C := RX6) (As := []) B dX6_atom5_92 (gc1 g_X6_177) (by rfl) ⟨rfl, hd_X6_next⟩ (by exact ⟨Nat.le_of_ble_eq_true rfl, Nat.le_of_ble_eq_true rfl⟩) ⟨rfl, rfl⟩ rfl rfl (by exact Nat.le_of_ble_eq_true rfl) recvM (c_nx hR hM (in_or3 _ (Or.inr h3)) (fun τ9 hM9 => ?_))
                  refine g_goto (tgt := 102) B dX6_atom5_95 (by decide) ?_
                  refine g_iload_n B dX6_atom5_102 rfl ?_
                  refine g_ireti B dX6_atom5_103 ?_
                  refine kk ?_ (hK2 [tV τ0 t n a] (a + 1) (by unfold pAtom; rw [if_pos (Or.inr h3)]) τ9 hM9)
                  rw [evc_one (tT_TV hR a (Or.inr h3))]
              · refine g_istore_n B dX6_atom5_83 (by decide) rfl ?_
                refine g_aload_n B dX6_atom5_84 rfl ?_
                refine g_getI (T := TX6) (N := 42) B dX6_atom5_85 (by decide) (by rfl) (inq inlX6) rfl 25 (by decide) (mq f_X6_161) (by rfl) ?_
                refine g_if_ne (tgt := 102) B dX6_atom5_88 (by decide) (fun c88 => ?_) (fun c88 => ?_)
                · refine g_iload_n B dX6_atom5_102 rfl ?_
                  refine g_ireti B dX6_atom5_103 ?_
                  first
                    | exact absurd hB9.2.1 (fun h => absurd (c88.symm.trans h) (by decide))
                    | exact absurd hM.2.1 c88
                    | exact hg _ _ hB9 (fun h => h.elim (fun h => c48 (hM.A.num.1.mpr h)) (fun h => h3 h)) (b1_0.mp c8) (b1_0.mp c25)
                · exact absurd (c88.symm.trans hB9.2.1) (by decide)
        · refine g_aload_n B dX6_atom5_51 rfl ?_
          refine g_getL (T := TX6) (N := 42) B dX6_atom5_52 (by decide) (by rfl) (inq inlX6) rfl 23 (by decide) (mq f_X6_155) (by rfl) ?_
          refine g_l2i B dX6_atom5_55 rfl ?_
          refine g_istore_n B dX6_atom5_56 (by decide) rfl ?_
          refine g_aload_n B dX6_atom5_57 rfl ?_
          refine g_callVv (C := RX6) (As := []) B dX6_atom5_58 (gc1 g_X6_177) (by rfl) ⟨rfl, hd_X6_next⟩ (by exact ⟨Nat.le_of_ble_eq_true rfl, Nat.le_of_ble_eq_true rfl⟩) ⟨rfl, rfl⟩ rfl rfl (by exact Nat.le_of_ble_eq_true rfl) recvM (c_nx hR hM (in_or3 _ (Or.inl (hM.A.num.1.mp c48))) (fun τ9 hM9 => ?_))
          refine g_goto (tgt := 102) B dX6_atom5_61 (by decide) ?_
          refine g_iload_n B dX6_atom5_102 rfl ?_
          refine g_ireti B dX6_atom5_103 ?_
          refine kk ?_ (hK2 [tV τ0 t n a] (a + 1) (by unfold pAtom; rw [if_pos (Or.inl (hM.A.num.1.mp c48))]) τ9 hM9)
          rw [evc_one (tT_TV hR a (Or.inl (hM.A.num.1.mp c48))), opd_num (tV_num hR (hM.A.num.1.mp c48)).1]
          exact hM.A.num.2 c48
    · refine g_aload_n B dX6_atom5_28 rfl ?_
      refine g_callVi (C := RX6) (As := []) B dX6_atom5_29 (gc1 g_X6_205) (by rfl) ⟨rfl, hd_X6_opens⟩ (by exact ⟨Nat.le_of_ble_eq_true rfl, Nat.le_of_ble_eq_true rfl⟩) ⟨rfl, rfl⟩ rfl rfl (by exact Nat.le_of_ble_eq_true rfl) recvM (c_opn5 hM (fun τ9 hB9 => ?_))
      refine g_pop B dX6_atom5_32 rfl ?_
      refine g_goto (tgt := 102) B dX6_atom5_33 (by decide) ?_
      refine g_iload_n B dX6_atom5_102 rfl ?_
      refine g_ireti B dX6_atom5_103 ?_
      refine hK1 a ?_ _ _ hB9
      unfold pAtom
      rw [if_neg (fun h => by rw [b1_n0.mp c25] at h; exact absurd h (by decide)), if_neg (b1_0.mp c8), if_pos (b1_n0.mp c25)]
      rfl
  · refine g_aload_n B dX6_atom5_11 rfl ?_
    refine g_callVi (C := RX6) (As := []) B dX6_atom5_12 (gc1 g_X6_205) (by rfl) ⟨rfl, hd_X6_opens⟩ (by exact ⟨Nat.le_of_ble_eq_true rfl, Nat.le_of_ble_eq_true rfl⟩) ⟨rfl, rfl⟩ rfl rfl (by exact Nat.le_of_ble_eq_true rfl) recvM (c_opn5 hM (fun τ9 hB9 => ?_))
    refine g_pop B dX6_atom5_15 rfl ?_
    refine g_goto (tgt := 102) B dX6_atom5_16 (by decide) ?_
    refine g_iload_n B dX6_atom5_102 rfl ?_
    refine g_ireti B dX6_atom5_103 ?_
    refine hK1 a ?_ _ _ hB9
    unfold pAtom
    rw [if_neg (fun h => by rw [b1_n0.mp c8] at h; exact absurd h (by decide)), if_pos (b1_n0.mp c8)]
    rfl
set_option maxRecDepth 100000 in
set_option maxHeartbeats 4000000 in
theorem lB_term5 {Z : LZ} {ad : Nat → Nat} {X : CX} {K : Int32 → St → Prop} {τ0 τ : St} {t n f : Nat} {v : Int32} (B : Amb lyM Z ad (rmk 5) X cX6_term5 wsX6_term5 RX6 2 (some .int)) (hB : MB τ0 t n f τ) (hK : K v τ) : GG lyM Z ad (rmk 5) X (rI K) 5 [some (.ref (ad 0)), some (.int v)] [] τ := by
  refine g_aload_n B dX6_term5_5 rfl ?_
  refine g_bipush (v := (42)) B dX6_term5_6 (by decide) ?_
  refine g_callVi (C := RX6) (As := [.int _]) B dX6_term5_8 (gc1 g_X6_202) (by rfl) ⟨rfl, hd_X6_isSign⟩ (by exact ⟨Nat.le_of_ble_eq_true rfl, Nat.le_of_ble_eq_true rfl⟩) ⟨rfl, rfl⟩ rfl rfl (by exact Nat.le_of_ble_eq_true rfl) recvM (c_sgnB hB ?_)
  refine g_if_eq (tgt := 28) B dX6_term5_11 (by decide) (fun c11 => ?_) (fun c11 => ?_)
  · refine g_iload_n B dX6_term5_28 rfl ?_
    refine g_ireti B dX6_term5_29 ?_
    exact hK
  · exact absurd rfl c11
set_option maxRecDepth 100000 in
set_option maxHeartbeats 4000000 in
theorem l_term5 {Z : LZ} {ad : Nat → Nat} {X : CX} {K : Int32 → St → Prop} {τ0 : St} {t n : Nat} (B : Amb lyM Z ad (rmk 5) X cX6_term5 wsX6_term5 RX6 2 (some .int)) (hR : RB τ0 t n) : ∀ (k : Nat) (cs : List Int32) (b : Nat) (τ : St), 160 ≤ b + k → WF cs → MS τ0 t n 5 b τ → (∀ f, pLoop (pAtom (tT τ0 t n) (tV τ0 t n) (pLev (tT τ0 t n) (tV τ0 t n) 0)) (opMul (tT τ0 t n)) (k + 1) cs b = .inl f → ∀ v τ', MB τ0 t n f τ' → K v τ') → (∀ ds a2, pLoop (pAtom (tT τ0 t n) (tV τ0 t n) (pLev (tT τ0 t n) (tV τ0 t n) 0)) (opMul (tT τ0 t n)) (k + 1) cs b = .inr (ds, a2) → ∀ τ', MS τ0 t n 5 a2 τ' → K (evc (eM τ0) ds) τ') → GG lyM Z ad (rmk 5) X (rI K) 5 [some (.ref (ad 0)), some (.int (evc (eM τ0) cs))] [] τ := by
  intro k
  induction k using Nat.strongRecOn with
  | ind k ih =>
  intro cs b τ hk hw hM hK1 hK2
  have hn := hR.2.2.2
  unfold pLoop at hK1 hK2
  refine g_aload_n B dX6_term5_5 rfl ?_
  refine g_bipush (v := (42)) B dX6_term5_6 (by decide) ?_
  refine g_callVi (C := RX6) (As := [.int _]) B dX6_term5_8 (gc1 g_X6_202) (by rfl) ⟨rfl, hd_X6_isSign⟩ (by exact ⟨Nat.le_of_ble_eq_true rfl, Nat.le_of_ble_eq_true rfl⟩) ⟨rfl, rfl⟩ rfl rfl (by exact Nat.le_of_ble_eq_true rfl) recvM (c_sgn hM (show isS 42 by decide) ?_)
  refine g_if_eq (tgt := 28) B dX6_term5_11 (by decide) (fun c11 => ?_) (fun c11 => ?_)
  · refine g_iload_n B dX6_term5_28 rfl ?_
    refine g_ireti B dX6_term5_29 ?_
    have hop : opMul (tT τ0 t n) b = none := if_neg (b1_0.mp c11)
    rw [hop] at hK2
    exact hK2 _ _ rfl τ hM
  · have hT := b1_n0.mp c11
    have hop : opMul (tT τ0 t n) b = some (-17) := if_pos hT
    have hb := tT_lt hR (show tT τ0 t n b ≠ 0 by rw [hT]; decide)
    rw [hop] at hK1 hK2
    dsimp only at hK1 hK2
    refine g_aload_n B dX6_term5_14 rfl ?_
    refine g_callVv (C := RX6) (As := []) B dX6_term5_15 (gc1 g_X6_177) (by rfl) ⟨rfl, hd_X6_next⟩ (by exact ⟨Nat.le_of_ble_eq_true rfl, Nat.le_of_ble_eq_true rfl⟩) ⟨rfl, rfl⟩ rfl rfl (by exact Nat.le_of_ble_eq_true rfl) recvM (c_nx hR hM (isS_0 (by rw [hT]; decide)) (fun τ2 hM2 => ?_))
    refine g_iload_n B dX6_term5_18 rfl ?_
    refine g_aload_n B dX6_term5_19 rfl ?_
    refine g_callVi (C := RX6) (As := []) B dX6_term5_20 (gc1 g_X6_213) (by rfl) ⟨rfl, hd_X6_atom5⟩ (by exact ⟨Nat.le_of_ble_eq_true rfl, Nat.le_of_ble_eq_true rfl⟩) ⟨rfl, rfl⟩ rfl rfl (by exact Nat.le_of_ble_eq_true rfl) recvM (c_atom5 hR hM2 (fun f hf v8 τ8 hB8 => ?_) (fun cs2 a2 hf τ8 hM8 => ?_))
    · rw [hf] at hK1; dsimp only at hK1
      refine g_imul B dX6_term5_23 ?_
      refine g_istore_n B dX6_term5_24 (by decide) rfl ?_
      refine g_goto (tgt := 5) B dX6_term5_25 (by decide) ?_
      first
        | exact lB_term5 B hB8 (hK1 f rfl _ _ hB8)
        | (rw [evc_mul hw hw2]
           obtain ⟨k', rfl⟩ : ∃ k', k = k' + 1 := ⟨k - 1, by omega⟩
           exact ih k' (by omega) (cs ++ cs2 ++ [-17]) a2 τ8 (by omega) (hw.bin hw2 (by decide)) hM8 hK1 hK2)
    · rw [hf] at hK1 hK2; dsimp only at hK1 hK2; obtain ⟨hw2, hlt2⟩ := pAtom_ok (tT_TV hR) (pLev_ok (tT_TV hR) _) _ _ _ hf
      refine g_imul B dX6_term5_23 ?_
      refine g_istore_n B dX6_term5_24 (by decide) rfl ?_
      refine g_goto (tgt := 5) B dX6_term5_25 (by decide) ?_
      first
        | exact lB_term5 B hB8 (hK1 f rfl _ _ hB8)
        | (rw [evc_mul hw hw2]
           obtain ⟨k', rfl⟩ : ∃ k', k = k' + 1 := ⟨k - 1, by omega⟩
           exact ih k' (by omega) (cs ++ cs2 ++ [-17]) a2 τ8 (by omega) (hw.bin hw2 (by decide)) hM8 hK1 hK2)
set_option maxRecDepth 100000 in
set_option maxHeartbeats 4000000 in
theorem c_term5 {Z : LZ} {ad : Nat → Nat} {τ0 τ : St} {K : Int32 → St → Prop} {t n a : Nat} (hR : RB τ0 t n) (hM : MS τ0 t n 5 a τ) (hK1 : ∀ f, pTerm (tT τ0 t n) (tV τ0 t n) (pLev (tT τ0 t n) (tV τ0 t n) 0) a = .inl f → ∀ v τ', MB τ0 t n f τ' → K v τ') (hK2 : ∀ cs a2, pTerm (tT τ0 t n) (tV τ0 t n) (pLev (tT τ0 t n) (tV τ0 t n) 0) a = .inr (cs, a2) → ∀ τ', MS τ0 t n 5 a2 τ' → K (evc (eM τ0) cs) τ') : CC lyM Z ad yX6_term5 wsX6_term5 (rmk 5) [.ref (ad 0)] τ (rI K) := by
  refine CC.of (cc := cX6_term5) (nL := 2) (ret := (some .int)) rfl rfl ⟨rfl, rfl⟩ (by exact Nat.le_of_ble_eq_true rfl) ?_
  intro X B
  change GG _ _ _ _ X _ 0 [some (.ref (ad 0)), none] [] _
  change Amb _ _ _ _ X _ _ RX6 _ _ at B
  unfold pTerm pSeq at hK1 hK2
  refine g_aload_n B dX6_term5_0 rfl ?_
  refine g_callVi (C := RX6) (As := []) B dX6_term5_1 (gc1 g_X6_213) (by rfl) ⟨rfl, hd_X6_atom5⟩ (by exact ⟨Nat.le_of_ble_eq_true rfl, Nat.le_of_ble_eq_true rfl⟩) ⟨rfl, rfl⟩ rfl rfl (by exact Nat.le_of_ble_eq_true rfl) recvM (c_atom5 hR hM (fun f hf v8 τ8 hB8 => ?_) (fun cs a1 hf τ8 hM8 => ?_))
  · rw [hf] at hK1; dsimp only at hK1
    refine g_istore_n B dX6_term5_4 (by decide) rfl ?_
    first
      | exact lB_term5 B hB8 (hK1 f rfl _ _ hB8)
      | exact l_term5 B hR 199 cs a1 τ8 (by omega) (pAtom_ok (tT_TV hR) (pLev_ok (tT_TV hR) _) _ _ _ hf).1 hM8 hK1 hK2
  · rw [hf] at hK1 hK2; dsimp only at hK1 hK2
    refine g_istore_n B dX6_term5_4 (by decide) rfl ?_
    first
      | exact lB_term5 B hB8 (hK1 f rfl _ _ hB8)
      | exact l_term5 B hR 199 cs a1 τ8 (by omega) (pAtom_ok (tT_TV hR) (pLev_ok (tT_TV hR) _) _ _ _ hf).1 hM8 hK1 hK2
set_option maxRecDepth 100000 in
set_option maxHeartbeats 4000000 in
theorem lB_added5 {Z : LZ} {ad : Nat → Nat} {X : CX} {K : Int32 → St → Prop} {τ0 τ : St} {t n f : Nat} {v : Int32} (B : Amb lyM Z ad (rmk 6) X cX6_added5 wsX6_added5 RX6 4 (some .int)) (hB : MB τ0 t n f τ) (hK : K v τ) : GG lyM Z ad (rmk 6) X (rI K) 5 [some (.ref (ad 0)), some (.int v), none, none] [] τ := by
  refine g_aload_n B dX6_added5_5 rfl ?_
  refine g_bipush (v := (43)) B dX6_added5_6 (by decide) ?_
  refine g_callVi (C := RX6) (As := [.int _]) B dX6_added5_8 (gc1 g_X6_202) (by rfl) ⟨rfl, hd_X6_isSign⟩ (by exact ⟨Nat.le_of_ble_eq_true rfl, Nat.le_of_ble_eq_true rfl⟩) ⟨rfl, rfl⟩ rfl rfl (by exact Nat.le_of_ble_eq_true rfl) recvM (c_sgnB hB ?_)
  refine g_if_ne (tgt := 23) B dX6_added5_11 (by decide) (fun c11 => ?_) (fun c11 => ?_)
  · first | exact absurd rfl c11 | exact absurd rfl c20
  · refine g_aload_n B dX6_added5_14 rfl ?_
    refine g_bipush (v := (45)) B dX6_added5_15 (by decide) ?_
    refine g_callVi (C := RX6) (As := [.int _]) B dX6_added5_17 (gc1 g_X6_202) (by rfl) ⟨rfl, hd_X6_isSign⟩ (by exact ⟨Nat.le_of_ble_eq_true rfl, Nat.le_of_ble_eq_true rfl⟩) ⟨rfl, rfl⟩ rfl rfl (by exact Nat.le_of_ble_eq_true rfl) recvM (c_sgnB hB ?_)
    refine g_if_eq (tgt := 66) B dX6_added5_20 (by decide) (fun c20 => ?_) (fun c20 => ?_)
    · refine g_iload_n B dX6_added5_66 rfl ?_
      refine g_ireti B dX6_added5_67 ?_
      exact hK
    · first | exact absurd rfl c11 | exact absurd rfl c20
set_option maxRecDepth 100000 in
set_option maxHeartbeats 4000000 in
theorem l_added5 {Z : LZ} {ad : Nat → Nat} {X : CX} {K : Int32 → St → Prop} {τ0 : St} {t n : Nat} (B : Amb lyM Z ad (rmk 6) X cX6_added5 wsX6_added5 RX6 4 (some .int)) (hR : RB τ0 t n) : ∀ (k : Nat) (cs : List Int32) (b : Nat) (τ : St), 160 ≤ b + k → WF cs → MS τ0 t n 5 b τ → (∀ f, pLoop (pTerm (tT τ0 t n) (tV τ0 t n) (pLev (tT τ0 t n) (tV τ0 t n) 0)) (opAdd (tT τ0 t n)) (k + 1) cs b = .inl f → ∀ v τ', MB τ0 t n f τ' → K v τ') → (∀ ds a2, pLoop (pTerm (tT τ0 t n) (tV τ0 t n) (pLev (tT τ0 t n) (tV τ0 t n) 0)) (opAdd (tT τ0 t n)) (k + 1) cs b = .inr (ds, a2) → ∀ τ', MS τ0 t n 5 a2 τ' → K (evc (eM τ0) ds) τ') → GG lyM Z ad (rmk 6) X (rI K) 5 [some (.ref (ad 0)), some (.int (evc (eM τ0) cs)), none, none] [] τ := by
  intro k
  induction k using Nat.strongRecOn with
  | ind k ih =>
  intro cs b τ hk hw hM hK1 hK2
  have hn := hR.2.2.2
  unfold pLoop at hK1 hK2
  refine g_aload_n B dX6_added5_5 rfl ?_
  refine g_bipush (v := (43)) B dX6_added5_6 (by decide) ?_
  refine g_callVi (C := RX6) (As := [.int _]) B dX6_added5_8 (gc1 g_X6_202) (by rfl) ⟨rfl, hd_X6_isSign⟩ (by exact ⟨Nat.le_of_ble_eq_true rfl, Nat.le_of_ble_eq_true rfl⟩) ⟨rfl, rfl⟩ rfl rfl (by exact Nat.le_of_ble_eq_true rfl) recvM (c_sgn hM (show isS 43 by decide) ?_)
  refine g_if_ne (tgt := 23) B dX6_added5_11 (by decide) (fun c11 => ?_) (fun c11 => ?_)
  · have hT : tT τ0 t n b = 43 ∨ tT τ0 t n b = 45 := by first | exact Or.inl (b1_n0.mp c11) | exact Or.inr (b1_n0.mp c20)
    have hT0 : isS (tT τ0 t n b) := by rcases hT with h | h <;> rw [h] <;> decide
    have hb := tT_lt hR (isS_0 hT0).1
    have hwv := hM.w hT0
    have h43 : τ.2.1 = 43 ↔ tT τ0 t n b = 43 := by
      rw [hwv]
      constructor
      · intro h
        have := congrArg Int64.toInt h
        rw [i_long] at this
        exact i_eq.mpr this
      · intro h
        rw [h]; rfl
    refine g_aload_n B dX6_added5_23 rfl ?_
    refine g_getL (T := TX6) (N := 42) B dX6_added5_24 (by decide) (by rfl) (inq inlX6) rfl 23 (by decide) (mq f_X6_155) (by rfl) ?_
    refine g_ldc2 (v := (43)) B dX6_added5_27 (mq k_X6_219) ?_
    refine g_lcmp B dX6_added5_30 ?_
    refine g_if_ne (tgt := 38) B dX6_added5_31 (by decide) (fun c31 => ?_) (fun c31 => ?_)
    · refine g_iconst (v := (0)) B dX6_added5_38 (by decide) ?_
      refine g_istore_n B dX6_added5_39 (by decide) rfl ?_
      refine g_aload_n B dX6_added5_40 rfl ?_
      refine g_callVv (C := RX6) (As := []) B dX6_added5_41 (gc1 g_X6_177) (by rfl) ⟨rfl, hd_X6_next⟩ (by exact ⟨Nat.le_of_ble_eq_true rfl, Nat.le_of_ble_eq_true rfl⟩) ⟨rfl, rfl⟩ rfl rfl (by exact Nat.le_of_ble_eq_true rfl) recvM (c_nx hR hM (isS_0 hT0) (fun τ2 hM2 => ?_))
      refine g_aload_n B dX6_added5_44 rfl ?_
      refine g_callVi (C := RX6) (As := []) B dX6_added5_45 (gc1 g_X6_216) (by rfl) ⟨rfl, hd_X6_term5⟩ (by exact ⟨Nat.le_of_ble_eq_true rfl, Nat.le_of_ble_eq_true rfl⟩) ⟨rfl, rfl⟩ rfl rfl (by exact Nat.le_of_ble_eq_true rfl) recvM (c_term5 hR hM2 (fun f hf v8 τ8 hB8 => ?_) (fun cs2 a2 hf τ8 hM8 => ?_))
      · skip
        refine g_istore_n B dX6_added5_48 (by decide) rfl ?_
        refine g_iload_n B dX6_added5_49 rfl ?_
        refine g_if_eq (tgt := 59) B dX6_added5_50 (by decide) (fun c50 => ?_) (fun c50 => ?_)
        · refine g_iload_n B dX6_added5_59 rfl ?_
          refine g_iload_n B dX6_added5_60 rfl ?_
          refine g_isub B dX6_added5_61 ?_
          refine g_istore_n B dX6_added5_62 (by decide) rfl ?_
          refine g_goto (tgt := 5) B dX6_added5_63 (by decide) ?_
          first
            | exact absurd rfl c50
            | exact absurd c50 (by decide)
            | (have hop : opAdd (tT τ0 t n) b = some (-15) := if_pos (h43.mp (l_cmp_eq0.mp c31))
               rw [hop] at hK1 hK2
               dsimp only at hK1 hK2
               rw [hf] at hK1 hK2
               dsimp only at hK1 hK2
               refine g_drop 2 (g_drop 3 ?_)
               first
               | exact lB_added5 B hB8 (hK1 f rfl _ _ hB8)
               | (obtain ⟨hw2, hlt2⟩ := pTerm_ok (tT_TV hR) (pLev_ok (tT_TV hR) _) _ _ _ hf
                  rw [evc_add hw hw2]
                  obtain ⟨k', rfl⟩ : ∃ k', k = k' + 1 := ⟨k - 1, by omega⟩
                  exact ih k' (by omega) (cs ++ cs2 ++ [-15]) a2 τ8 (by omega) (hw.bin hw2 (by decide)) hM8 hK1 hK2))
            | (have h31 : ¬ tT τ0 t n b = 43 := fun h => c31 (l_cmp_eq0.mpr (h43.mpr h))
               have hop : opAdd (tT τ0 t n) b = some (-16) := (if_neg h31).trans (if_pos (hT.resolve_left h31))
               rw [hop] at hK1 hK2
               dsimp only at hK1 hK2
               rw [hf] at hK1 hK2
               dsimp only at hK1 hK2
               refine g_drop 2 (g_drop 3 ?_)
               first
               | exact lB_added5 B hB8 (hK1 f rfl _ _ hB8)
               | (obtain ⟨hw2, hlt2⟩ := pTerm_ok (tT_TV hR) (pLev_ok (tT_TV hR) _) _ _ _ hf
                  rw [evc_sub hw hw2]
                  obtain ⟨k', rfl⟩ : ∃ k', k = k' + 1 := ⟨k - 1, by omega⟩
                  exact ih k' (by omega) (cs ++ cs2 ++ [-16]) a2 τ8 (by omega) (hw.bin hw2 (by decide)) hM8 hK1 hK2))
        · refine g_iload_n B dX6_added5_53 rfl ?_
          refine g_iload_n B dX6_added5_54 rfl ?_
          refine g_iadd B dX6_added5_55 ?_
          refine g_goto (tgt := 62) B dX6_added5_56 (by decide) ?_
          refine g_istore_n B dX6_added5_62 (by decide) rfl ?_
          refine g_goto (tgt := 5) B dX6_added5_63 (by decide) ?_
          first
            | exact absurd rfl c50
            | exact absurd c50 (by decide)
            | (have hop : opAdd (tT τ0 t n) b = some (-15) := if_pos (h43.mp (l_cmp_eq0.mp c31))
               rw [hop] at hK1 hK2
               dsimp only at hK1 hK2
               rw [hf] at hK1 hK2
               dsimp only at hK1 hK2
               refine g_drop 2 (g_drop 3 ?_)
               first
               | exact lB_added5 B hB8 (hK1 f rfl _ _ hB8)
               | (obtain ⟨hw2, hlt2⟩ := pTerm_ok (tT_TV hR) (pLev_ok (tT_TV hR) _) _ _ _ hf
                  rw [evc_add hw hw2]
                  obtain ⟨k', rfl⟩ : ∃ k', k = k' + 1 := ⟨k - 1, by omega⟩
                  exact ih k' (by omega) (cs ++ cs2 ++ [-15]) a2 τ8 (by omega) (hw.bin hw2 (by decide)) hM8 hK1 hK2))
            | (have h31 : ¬ tT τ0 t n b = 43 := fun h => c31 (l_cmp_eq0.mpr (h43.mpr h))
               have hop : opAdd (tT τ0 t n) b = some (-16) := (if_neg h31).trans (if_pos (hT.resolve_left h31))
               rw [hop] at hK1 hK2
               dsimp only at hK1 hK2
               rw [hf] at hK1 hK2
               dsimp only at hK1 hK2
               refine g_drop 2 (g_drop 3 ?_)
               first
               | exact lB_added5 B hB8 (hK1 f rfl _ _ hB8)
               | (obtain ⟨hw2, hlt2⟩ := pTerm_ok (tT_TV hR) (pLev_ok (tT_TV hR) _) _ _ _ hf
                  rw [evc_sub hw hw2]
                  obtain ⟨k', rfl⟩ : ∃ k', k = k' + 1 := ⟨k - 1, by omega⟩
                  exact ih k' (by omega) (cs ++ cs2 ++ [-16]) a2 τ8 (by omega) (hw.bin hw2 (by decide)) hM8 hK1 hK2))
      · skip
        refine g_istore_n B dX6_added5_48 (by decide) rfl ?_
        refine g_iload_n B dX6_added5_49 rfl ?_
        refine g_if_eq (tgt := 59) B dX6_added5_50 (by decide) (fun c50 => ?_) (fun c50 => ?_)
        · refine g_iload_n B dX6_added5_59 rfl ?_
          refine g_iload_n B dX6_added5_60 rfl ?_
          refine g_isub B dX6_added5_61 ?_
          refine g_istore_n B dX6_added5_62 (by decide) rfl ?_
          refine g_goto (tgt := 5) B dX6_added5_63 (by decide) ?_
          first
            | exact absurd rfl c50
            | exact absurd c50 (by decide)
            | (have hop : opAdd (tT τ0 t n) b = some (-15) := if_pos (h43.mp (l_cmp_eq0.mp c31))
               rw [hop] at hK1 hK2
               dsimp only at hK1 hK2
               rw [hf] at hK1 hK2
               dsimp only at hK1 hK2
               refine g_drop 2 (g_drop 3 ?_)
               first
               | exact lB_added5 B hB8 (hK1 f rfl _ _ hB8)
               | (obtain ⟨hw2, hlt2⟩ := pTerm_ok (tT_TV hR) (pLev_ok (tT_TV hR) _) _ _ _ hf
                  rw [evc_add hw hw2]
                  obtain ⟨k', rfl⟩ : ∃ k', k = k' + 1 := ⟨k - 1, by omega⟩
                  exact ih k' (by omega) (cs ++ cs2 ++ [-15]) a2 τ8 (by omega) (hw.bin hw2 (by decide)) hM8 hK1 hK2))
            | (have h31 : ¬ tT τ0 t n b = 43 := fun h => c31 (l_cmp_eq0.mpr (h43.mpr h))
               have hop : opAdd (tT τ0 t n) b = some (-16) := (if_neg h31).trans (if_pos (hT.resolve_left h31))
               rw [hop] at hK1 hK2
               dsimp only at hK1 hK2
               rw [hf] at hK1 hK2
               dsimp only at hK1 hK2
               refine g_drop 2 (g_drop 3 ?_)
               first
               | exact lB_added5 B hB8 (hK1 f rfl _ _ hB8)
               | (obtain ⟨hw2, hlt2⟩ := pTerm_ok (tT_TV hR) (pLev_ok (tT_TV hR) _) _ _ _ hf
                  rw [evc_sub hw hw2]
                  obtain ⟨k', rfl⟩ : ∃ k', k = k' + 1 := ⟨k - 1, by omega⟩
                  exact ih k' (by omega) (cs ++ cs2 ++ [-16]) a2 τ8 (by omega) (hw.bin hw2 (by decide)) hM8 hK1 hK2))
        · refine g_iload_n B dX6_added5_53 rfl ?_
          refine g_iload_n B dX6_added5_54 rfl ?_
          refine g_iadd B dX6_added5_55 ?_
          refine g_goto (tgt := 62) B dX6_added5_56 (by decide) ?_
          refine g_istore_n B dX6_added5_62 (by decide) rfl ?_
          refine g_goto (tgt := 5) B dX6_added5_63 (by decide) ?_
          first
            | exact absurd rfl c50
            | exact absurd c50 (by decide)
            | (have hop : opAdd (tT τ0 t n) b = some (-15) := if_pos (h43.mp (l_cmp_eq0.mp c31))
               rw [hop] at hK1 hK2
               dsimp only at hK1 hK2
               rw [hf] at hK1 hK2
               dsimp only at hK1 hK2
               refine g_drop 2 (g_drop 3 ?_)
               first
               | exact lB_added5 B hB8 (hK1 f rfl _ _ hB8)
               | (obtain ⟨hw2, hlt2⟩ := pTerm_ok (tT_TV hR) (pLev_ok (tT_TV hR) _) _ _ _ hf
                  rw [evc_add hw hw2]
                  obtain ⟨k', rfl⟩ : ∃ k', k = k' + 1 := ⟨k - 1, by omega⟩
                  exact ih k' (by omega) (cs ++ cs2 ++ [-15]) a2 τ8 (by omega) (hw.bin hw2 (by decide)) hM8 hK1 hK2))
            | (have h31 : ¬ tT τ0 t n b = 43 := fun h => c31 (l_cmp_eq0.mpr (h43.mpr h))
               have hop : opAdd (tT τ0 t n) b = some (-16) := (if_neg h31).trans (if_pos (hT.resolve_left h31))
               rw [hop] at hK1 hK2
               dsimp only at hK1 hK2
               rw [hf] at hK1 hK2
               dsimp only at hK1 hK2
               refine g_drop 2 (g_drop 3 ?_)
               first
               | exact lB_added5 B hB8 (hK1 f rfl _ _ hB8)
               | (obtain ⟨hw2, hlt2⟩ := pTerm_ok (tT_TV hR) (pLev_ok (tT_TV hR) _) _ _ _ hf
                  rw [evc_sub hw hw2]
                  obtain ⟨k', rfl⟩ : ∃ k', k = k' + 1 := ⟨k - 1, by omega⟩
                  exact ih k' (by omega) (cs ++ cs2 ++ [-16]) a2 τ8 (by omega) (hw.bin hw2 (by decide)) hM8 hK1 hK2))
    · refine g_iconst (v := (1)) B dX6_added5_34 (by decide) ?_
      refine g_goto (tgt := 39) B dX6_added5_35 (by decide) ?_
      refine g_istore_n B dX6_added5_39 (by decide) rfl ?_
      refine g_aload_n B dX6_added5_40 rfl ?_
      refine g_callVv (C := RX6) (As := []) B dX6_added5_41 (gc1 g_X6_177) (by rfl) ⟨rfl, hd_X6_next⟩ (by exact ⟨Nat.le_of_ble_eq_true rfl, Nat.le_of_ble_eq_true rfl⟩) ⟨rfl, rfl⟩ rfl rfl (by exact Nat.le_of_ble_eq_true rfl) recvM (c_nx hR hM (isS_0 hT0) (fun τ2 hM2 => ?_))
      refine g_aload_n B dX6_added5_44 rfl ?_
      refine g_callVi (C := RX6) (As := []) B dX6_added5_45 (gc1 g_X6_216) (by rfl) ⟨rfl, hd_X6_term5⟩ (by exact ⟨Nat.le_of_ble_eq_true rfl, Nat.le_of_ble_eq_true rfl⟩) ⟨rfl, rfl⟩ rfl rfl (by exact Nat.le_of_ble_eq_true rfl) recvM (c_term5 hR hM2 (fun f hf v8 τ8 hB8 => ?_) (fun cs2 a2 hf τ8 hM8 => ?_))
      · skip
        refine g_istore_n B dX6_added5_48 (by decide) rfl ?_
        refine g_iload_n B dX6_added5_49 rfl ?_
        refine g_if_eq (tgt := 59) B dX6_added5_50 (by decide) (fun c50 => ?_) (fun c50 => ?_)
        · refine g_iload_n B dX6_added5_59 rfl ?_
          refine g_iload_n B dX6_added5_60 rfl ?_
          refine g_isub B dX6_added5_61 ?_
          refine g_istore_n B dX6_added5_62 (by decide) rfl ?_
          refine g_goto (tgt := 5) B dX6_added5_63 (by decide) ?_
          first
            | exact absurd rfl c50
            | exact absurd c50 (by decide)
            | (have hop : opAdd (tT τ0 t n) b = some (-15) := if_pos (h43.mp (l_cmp_eq0.mp c31))
               rw [hop] at hK1 hK2
               dsimp only at hK1 hK2
               rw [hf] at hK1 hK2
               dsimp only at hK1 hK2
               refine g_drop 2 (g_drop 3 ?_)
               first
               | exact lB_added5 B hB8 (hK1 f rfl _ _ hB8)
               | (obtain ⟨hw2, hlt2⟩ := pTerm_ok (tT_TV hR) (pLev_ok (tT_TV hR) _) _ _ _ hf
                  rw [evc_add hw hw2]
                  obtain ⟨k', rfl⟩ : ∃ k', k = k' + 1 := ⟨k - 1, by omega⟩
                  exact ih k' (by omega) (cs ++ cs2 ++ [-15]) a2 τ8 (by omega) (hw.bin hw2 (by decide)) hM8 hK1 hK2))
            | (have h31 : ¬ tT τ0 t n b = 43 := fun h => c31 (l_cmp_eq0.mpr (h43.mpr h))
               have hop : opAdd (tT τ0 t n) b = some (-16) := (if_neg h31).trans (if_pos (hT.resolve_left h31))
               rw [hop] at hK1 hK2
               dsimp only at hK1 hK2
               rw [hf] at hK1 hK2
               dsimp only at hK1 hK2
               refine g_drop 2 (g_drop 3 ?_)
               first
               | exact lB_added5 B hB8 (hK1 f rfl _ _ hB8)
               | (obtain ⟨hw2, hlt2⟩ := pTerm_ok (tT_TV hR) (pLev_ok (tT_TV hR) _) _ _ _ hf
                  rw [evc_sub hw hw2]
                  obtain ⟨k', rfl⟩ : ∃ k', k = k' + 1 := ⟨k - 1, by omega⟩
                  exact ih k' (by omega) (cs ++ cs2 ++ [-16]) a2 τ8 (by omega) (hw.bin hw2 (by decide)) hM8 hK1 hK2))
        · refine g_iload_n B dX6_added5_53 rfl ?_
          refine g_iload_n B dX6_added5_54 rfl ?_
          refine g_iadd B dX6_added5_55 ?_
          refine g_goto (tgt := 62) B dX6_added5_56 (by decide) ?_
          refine g_istore_n B dX6_added5_62 (by decide) rfl ?_
          refine g_goto (tgt := 5) B dX6_added5_63 (by decide) ?_
          first
            | exact absurd rfl c50
            | exact absurd c50 (by decide)
            | (have hop : opAdd (tT τ0 t n) b = some (-15) := if_pos (h43.mp (l_cmp_eq0.mp c31))
               rw [hop] at hK1 hK2
               dsimp only at hK1 hK2
               rw [hf] at hK1 hK2
               dsimp only at hK1 hK2
               refine g_drop 2 (g_drop 3 ?_)
               first
               | exact lB_added5 B hB8 (hK1 f rfl _ _ hB8)
               | (obtain ⟨hw2, hlt2⟩ := pTerm_ok (tT_TV hR) (pLev_ok (tT_TV hR) _) _ _ _ hf
                  rw [evc_add hw hw2]
                  obtain ⟨k', rfl⟩ : ∃ k', k = k' + 1 := ⟨k - 1, by omega⟩
                  exact ih k' (by omega) (cs ++ cs2 ++ [-15]) a2 τ8 (by omega) (hw.bin hw2 (by decide)) hM8 hK1 hK2))
            | (have h31 : ¬ tT τ0 t n b = 43 := fun h => c31 (l_cmp_eq0.mpr (h43.mpr h))
               have hop : opAdd (tT τ0 t n) b = some (-16) := (if_neg h31).trans (if_pos (hT.resolve_left h31))
               rw [hop] at hK1 hK2
               dsimp only at hK1 hK2
               rw [hf] at hK1 hK2
               dsimp only at hK1 hK2
               refine g_drop 2 (g_drop 3 ?_)
               first
               | exact lB_added5 B hB8 (hK1 f rfl _ _ hB8)
               | (obtain ⟨hw2, hlt2⟩ := pTerm_ok (tT_TV hR) (pLev_ok (tT_TV hR) _) _ _ _ hf
                  rw [evc_sub hw hw2]
                  obtain ⟨k', rfl⟩ : ∃ k', k = k' + 1 := ⟨k - 1, by omega⟩
                  exact ih k' (by omega) (cs ++ cs2 ++ [-16]) a2 τ8 (by omega) (hw.bin hw2 (by decide)) hM8 hK1 hK2))
      · skip
        refine g_istore_n B dX6_added5_48 (by decide) rfl ?_
        refine g_iload_n B dX6_added5_49 rfl ?_
        refine g_if_eq (tgt := 59) B dX6_added5_50 (by decide) (fun c50 => ?_) (fun c50 => ?_)
        · refine g_iload_n B dX6_added5_59 rfl ?_
          refine g_iload_n B dX6_added5_60 rfl ?_
          refine g_isub B dX6_added5_61 ?_
          refine g_istore_n B dX6_added5_62 (by decide) rfl ?_
          refine g_goto (tgt := 5) B dX6_added5_63 (by decide) ?_
          first
            | exact absurd rfl c50
            | exact absurd c50 (by decide)
            | (have hop : opAdd (tT τ0 t n) b = some (-15) := if_pos (h43.mp (l_cmp_eq0.mp c31))
               rw [hop] at hK1 hK2
               dsimp only at hK1 hK2
               rw [hf] at hK1 hK2
               dsimp only at hK1 hK2
               refine g_drop 2 (g_drop 3 ?_)
               first
               | exact lB_added5 B hB8 (hK1 f rfl _ _ hB8)
               | (obtain ⟨hw2, hlt2⟩ := pTerm_ok (tT_TV hR) (pLev_ok (tT_TV hR) _) _ _ _ hf
                  rw [evc_add hw hw2]
                  obtain ⟨k', rfl⟩ : ∃ k', k = k' + 1 := ⟨k - 1, by omega⟩
                  exact ih k' (by omega) (cs ++ cs2 ++ [-15]) a2 τ8 (by omega) (hw.bin hw2 (by decide)) hM8 hK1 hK2))
            | (have h31 : ¬ tT τ0 t n b = 43 := fun h => c31 (l_cmp_eq0.mpr (h43.mpr h))
               have hop : opAdd (tT τ0 t n) b = some (-16) := (if_neg h31).trans (if_pos (hT.resolve_left h31))
               rw [hop] at hK1 hK2
               dsimp only at hK1 hK2
               rw [hf] at hK1 hK2
               dsimp only at hK1 hK2
               refine g_drop 2 (g_drop 3 ?_)
               first
               | exact lB_added5 B hB8 (hK1 f rfl _ _ hB8)
               | (obtain ⟨hw2, hlt2⟩ := pTerm_ok (tT_TV hR) (pLev_ok (tT_TV hR) _) _ _ _ hf
                  rw [evc_sub hw hw2]
                  obtain ⟨k', rfl⟩ : ∃ k', k = k' + 1 := ⟨k - 1, by omega⟩
                  exact ih k' (by omega) (cs ++ cs2 ++ [-16]) a2 τ8 (by omega) (hw.bin hw2 (by decide)) hM8 hK1 hK2))
        · refine g_iload_n B dX6_added5_53 rfl ?_
          refine g_iload_n B dX6_added5_54 rfl ?_
          refine g_iadd B dX6_added5_55 ?_
          refine g_goto (tgt := 62) B dX6_added5_56 (by decide) ?_
          refine g_istore_n B dX6_added5_62 (by decide) rfl ?_
          refine g_goto (tgt := 5) B dX6_added5_63 (by decide) ?_
          first
            | exact absurd rfl c50
            | exact absurd c50 (by decide)
            | (have hop : opAdd (tT τ0 t n) b = some (-15) := if_pos (h43.mp (l_cmp_eq0.mp c31))
               rw [hop] at hK1 hK2
               dsimp only at hK1 hK2
               rw [hf] at hK1 hK2
               dsimp only at hK1 hK2
               refine g_drop 2 (g_drop 3 ?_)
               first
               | exact lB_added5 B hB8 (hK1 f rfl _ _ hB8)
               | (obtain ⟨hw2, hlt2⟩ := pTerm_ok (tT_TV hR) (pLev_ok (tT_TV hR) _) _ _ _ hf
                  rw [evc_add hw hw2]
                  obtain ⟨k', rfl⟩ : ∃ k', k = k' + 1 := ⟨k - 1, by omega⟩
                  exact ih k' (by omega) (cs ++ cs2 ++ [-15]) a2 τ8 (by omega) (hw.bin hw2 (by decide)) hM8 hK1 hK2))
            | (have h31 : ¬ tT τ0 t n b = 43 := fun h => c31 (l_cmp_eq0.mpr (h43.mpr h))
               have hop : opAdd (tT τ0 t n) b = some (-16) := (if_neg h31).trans (if_pos (hT.resolve_left h31))
               rw [hop] at hK1 hK2
               dsimp only at hK1 hK2
               rw [hf] at hK1 hK2
               dsimp only at hK1 hK2
               refine g_drop 2 (g_drop 3 ?_)
               first
               | exact lB_added5 B hB8 (hK1 f rfl _ _ hB8)
               | (obtain ⟨hw2, hlt2⟩ := pTerm_ok (tT_TV hR) (pLev_ok (tT_TV hR) _) _ _ _ hf
                  rw [evc_sub hw hw2]
                  obtain ⟨k', rfl⟩ : ∃ k', k = k' + 1 := ⟨k - 1, by omega⟩
                  exact ih k' (by omega) (cs ++ cs2 ++ [-16]) a2 τ8 (by omega) (hw.bin hw2 (by decide)) hM8 hK1 hK2))
  · refine g_aload_n B dX6_added5_14 rfl ?_
    refine g_bipush (v := (45)) B dX6_added5_15 (by decide) ?_
    refine g_callVi (C := RX6) (As := [.int _]) B dX6_added5_17 (gc1 g_X6_202) (by rfl) ⟨rfl, hd_X6_isSign⟩ (by exact ⟨Nat.le_of_ble_eq_true rfl, Nat.le_of_ble_eq_true rfl⟩) ⟨rfl, rfl⟩ rfl rfl (by exact Nat.le_of_ble_eq_true rfl) recvM (c_sgn hM (show isS 45 by decide) ?_)
    refine g_if_eq (tgt := 66) B dX6_added5_20 (by decide) (fun c20 => ?_) (fun c20 => ?_)
    · refine g_iload_n B dX6_added5_66 rfl ?_
      refine g_ireti B dX6_added5_67 ?_
      have hop : opAdd (tT τ0 t n) b = none := (if_neg (b1_0.mp c11)).trans (if_neg (b1_0.mp c20))
      rw [hop] at hK2
      exact hK2 _ _ rfl τ hM
    · have hT : tT τ0 t n b = 43 ∨ tT τ0 t n b = 45 := by first | exact Or.inl (b1_n0.mp c11) | exact Or.inr (b1_n0.mp c20)
      have hT0 : isS (tT τ0 t n b) := by rcases hT with h | h <;> rw [h] <;> decide
      have hb := tT_lt hR (isS_0 hT0).1
      have hwv := hM.w hT0
      have h43 : τ.2.1 = 43 ↔ tT τ0 t n b = 43 := by
        rw [hwv]
        constructor
        · intro h
          have := congrArg Int64.toInt h
          rw [i_long] at this
          exact i_eq.mpr this
        · intro h
          rw [h]; rfl
      refine g_aload_n B dX6_added5_23 rfl ?_
      refine g_getL (T := TX6) (N := 42) B dX6_added5_24 (by decide) (by rfl) (inq inlX6) rfl 23 (by decide) (mq f_X6_155) (by rfl) ?_
      refine g_ldc2 (v := (43)) B dX6_added5_27 (mq k_X6_219) ?_
      refine g_lcmp B dX6_added5_30 ?_
      refine g_if_ne (tgt := 38) B dX6_added5_31 (by decide) (fun c31 => ?_) (fun c31 => ?_)
      · refine g_iconst (v := (0)) B dX6_added5_38 (by decide) ?_
        refine g_istore_n B dX6_added5_39 (by decide) rfl ?_
        refine g_aload_n B dX6_added5_40 rfl ?_
        refine g_callVv (C := RX6) (As := []) B dX6_added5_41 (gc1 g_X6_177) (by rfl) ⟨rfl, hd_X6_next⟩ (by exact ⟨Nat.le_of_ble_eq_true rfl, Nat.le_of_ble_eq_true rfl⟩) ⟨rfl, rfl⟩ rfl rfl (by exact Nat.le_of_ble_eq_true rfl) recvM (c_nx hR hM (isS_0 hT0) (fun τ2 hM2 => ?_))
        refine g_aload_n B dX6_added5_44 rfl ?_
        refine g_callVi (C := RX6) (As := []) B dX6_added5_45 (gc1 g_X6_216) (by rfl) ⟨rfl, hd_X6_term5⟩ (by exact ⟨Nat.le_of_ble_eq_true rfl, Nat.le_of_ble_eq_true rfl⟩) ⟨rfl, rfl⟩ rfl rfl (by exact Nat.le_of_ble_eq_true rfl) recvM (c_term5 hR hM2 (fun f hf v8 τ8 hB8 => ?_) (fun cs2 a2 hf τ8 hM8 => ?_))
        · skip
          refine g_istore_n B dX6_added5_48 (by decide) rfl ?_
          refine g_iload_n B dX6_added5_49 rfl ?_
          refine g_if_eq (tgt := 59) B dX6_added5_50 (by decide) (fun c50 => ?_) (fun c50 => ?_)
          · refine g_iload_n B dX6_added5_59 rfl ?_
            refine g_iload_n B dX6_added5_60 rfl ?_
            refine g_isub B dX6_added5_61 ?_
            refine g_istore_n B dX6_added5_62 (by decide) rfl ?_
            refine g_goto (tgt := 5) B dX6_added5_63 (by decide) ?_
            first
              | exact absurd rfl c50
              | exact absurd c50 (by decide)
              | (have hop : opAdd (tT τ0 t n) b = some (-15) := if_pos (h43.mp (l_cmp_eq0.mp c31))
                 rw [hop] at hK1 hK2
                 dsimp only at hK1 hK2
                 rw [hf] at hK1 hK2
                 dsimp only at hK1 hK2
                 refine g_drop 2 (g_drop 3 ?_)
                 first
                 | exact lB_added5 B hB8 (hK1 f rfl _ _ hB8)
                 | (obtain ⟨hw2, hlt2⟩ := pTerm_ok (tT_TV hR) (pLev_ok (tT_TV hR) _) _ _ _ hf
                    rw [evc_add hw hw2]
                    obtain ⟨k', rfl⟩ : ∃ k', k = k' + 1 := ⟨k - 1, by omega⟩
                    exact ih k' (by omega) (cs ++ cs2 ++ [-15]) a2 τ8 (by omega) (hw.bin hw2 (by decide)) hM8 hK1 hK2))
              | (have h31 : ¬ tT τ0 t n b = 43 := fun h => c31 (l_cmp_eq0.mpr (h43.mpr h))
                 have hop : opAdd (tT τ0 t n) b = some (-16) := (if_neg h31).trans (if_pos (hT.resolve_left h31))
                 rw [hop] at hK1 hK2
                 dsimp only at hK1 hK2
                 rw [hf] at hK1 hK2
                 dsimp only at hK1 hK2
                 refine g_drop 2 (g_drop 3 ?_)
                 first
                 | exact lB_added5 B hB8 (hK1 f rfl _ _ hB8)
                 | (obtain ⟨hw2, hlt2⟩ := pTerm_ok (tT_TV hR) (pLev_ok (tT_TV hR) _) _ _ _ hf
                    rw [evc_sub hw hw2]
                    obtain ⟨k', rfl⟩ : ∃ k', k = k' + 1 := ⟨k - 1, by omega⟩
                    exact ih k' (by omega) (cs ++ cs2 ++ [-16]) a2 τ8 (by omega) (hw.bin hw2 (by decide)) hM8 hK1 hK2))
          · refine g_iload_n B dX6_added5_53 rfl ?_
            refine g_iload_n B dX6_added5_54 rfl ?_
            refine g_iadd B dX6_added5_55 ?_
            refine g_goto (tgt := 62) B dX6_added5_56 (by decide) ?_
            refine g_istore_n B dX6_added5_62 (by decide) rfl ?_
            refine g_goto (tgt := 5) B dX6_added5_63 (by decide) ?_
            first
              | exact absurd rfl c50
              | exact absurd c50 (by decide)
              | (have hop : opAdd (tT τ0 t n) b = some (-15) := if_pos (h43.mp (l_cmp_eq0.mp c31))
                 rw [hop] at hK1 hK2
                 dsimp only at hK1 hK2
                 rw [hf] at hK1 hK2
                 dsimp only at hK1 hK2
                 refine g_drop 2 (g_drop 3 ?_)
                 first
                 | exact lB_added5 B hB8 (hK1 f rfl _ _ hB8)
                 | (obtain ⟨hw2, hlt2⟩ := pTerm_ok (tT_TV hR) (pLev_ok (tT_TV hR) _) _ _ _ hf
                    rw [evc_add hw hw2]
                    obtain ⟨k', rfl⟩ : ∃ k', k = k' + 1 := ⟨k - 1, by omega⟩
                    exact ih k' (by omega) (cs ++ cs2 ++ [-15]) a2 τ8 (by omega) (hw.bin hw2 (by decide)) hM8 hK1 hK2))
              | (have h31 : ¬ tT τ0 t n b = 43 := fun h => c31 (l_cmp_eq0.mpr (h43.mpr h))
                 have hop : opAdd (tT τ0 t n) b = some (-16) := (if_neg h31).trans (if_pos (hT.resolve_left h31))
                 rw [hop] at hK1 hK2
                 dsimp only at hK1 hK2
                 rw [hf] at hK1 hK2
                 dsimp only at hK1 hK2
                 refine g_drop 2 (g_drop 3 ?_)
                 first
                 | exact lB_added5 B hB8 (hK1 f rfl _ _ hB8)
                 | (obtain ⟨hw2, hlt2⟩ := pTerm_ok (tT_TV hR) (pLev_ok (tT_TV hR) _) _ _ _ hf
                    rw [evc_sub hw hw2]
                    obtain ⟨k', rfl⟩ : ∃ k', k = k' + 1 := ⟨k - 1, by omega⟩
                    exact ih k' (by omega) (cs ++ cs2 ++ [-16]) a2 τ8 (by omega) (hw.bin hw2 (by decide)) hM8 hK1 hK2))
        · skip
          refine g_istore_n B dX6_added5_48 (by decide) rfl ?_
          refine g_iload_n B dX6_added5_49 rfl ?_
          refine g_if_eq (tgt := 59) B dX6_added5_50 (by decide) (fun c50 => ?_) (fun c50 => ?_)
          · refine g_iload_n B dX6_added5_59 rfl ?_
            refine g_iload_n B dX6_added5_60 rfl ?_
            refine g_isub B dX6_added5_61 ?_
            refine g_istore_n B dX6_added5_62 (by decide) rfl ?_
            refine g_goto (tgt := 5) B dX6_added5_63 (by decide) ?_
            first
              | exact absurd rfl c50
              | exact absurd c50 (by decide)
              | (have hop : opAdd (tT τ0 t n) b = some (-15) := if_pos (h43.mp (l_cmp_eq0.mp c31))
                 rw [hop] at hK1 hK2
                 dsimp only at hK1 hK2
                 rw [hf] at hK1 hK2
                 dsimp only at hK1 hK2
                 refine g_drop 2 (g_drop 3 ?_)
                 first
                 | exact lB_added5 B hB8 (hK1 f rfl _ _ hB8)
                 | (obtain ⟨hw2, hlt2⟩ := pTerm_ok (tT_TV hR) (pLev_ok (tT_TV hR) _) _ _ _ hf
                    rw [evc_add hw hw2]
                    obtain ⟨k', rfl⟩ : ∃ k', k = k' + 1 := ⟨k - 1, by omega⟩
                    exact ih k' (by omega) (cs ++ cs2 ++ [-15]) a2 τ8 (by omega) (hw.bin hw2 (by decide)) hM8 hK1 hK2))
              | (have h31 : ¬ tT τ0 t n b = 43 := fun h => c31 (l_cmp_eq0.mpr (h43.mpr h))
                 have hop : opAdd (tT τ0 t n) b = some (-16) := (if_neg h31).trans (if_pos (hT.resolve_left h31))
                 rw [hop] at hK1 hK2
                 dsimp only at hK1 hK2
                 rw [hf] at hK1 hK2
                 dsimp only at hK1 hK2
                 refine g_drop 2 (g_drop 3 ?_)
                 first
                 | exact lB_added5 B hB8 (hK1 f rfl _ _ hB8)
                 | (obtain ⟨hw2, hlt2⟩ := pTerm_ok (tT_TV hR) (pLev_ok (tT_TV hR) _) _ _ _ hf
                    rw [evc_sub hw hw2]
                    obtain ⟨k', rfl⟩ : ∃ k', k = k' + 1 := ⟨k - 1, by omega⟩
                    exact ih k' (by omega) (cs ++ cs2 ++ [-16]) a2 τ8 (by omega) (hw.bin hw2 (by decide)) hM8 hK1 hK2))
          · refine g_iload_n B dX6_added5_53 rfl ?_
            refine g_iload_n B dX6_added5_54 rfl ?_
            refine g_iadd B dX6_added5_55 ?_
            refine g_goto (tgt := 62) B dX6_added5_56 (by decide) ?_
            refine g_istore_n B dX6_added5_62 (by decide) rfl ?_
            refine g_goto (tgt := 5) B dX6_added5_63 (by decide) ?_
            first
              | exact absurd rfl c50
              | exact absurd c50 (by decide)
              | (have hop : opAdd (tT τ0 t n) b = some (-15) := if_pos (h43.mp (l_cmp_eq0.mp c31))
                 rw [hop] at hK1 hK2
                 dsimp only at hK1 hK2
                 rw [hf] at hK1 hK2
                 dsimp only at hK1 hK2
                 refine g_drop 2 (g_drop 3 ?_)
                 first
                 | exact lB_added5 B hB8 (hK1 f rfl _ _ hB8)
                 | (obtain ⟨hw2, hlt2⟩ := pTerm_ok (tT_TV hR) (pLev_ok (tT_TV hR) _) _ _ _ hf
                    rw [evc_add hw hw2]
                    obtain ⟨k', rfl⟩ : ∃ k', k = k' + 1 := ⟨k - 1, by omega⟩
                    exact ih k' (by omega) (cs ++ cs2 ++ [-15]) a2 τ8 (by omega) (hw.bin hw2 (by decide)) hM8 hK1 hK2))
              | (have h31 : ¬ tT τ0 t n b = 43 := fun h => c31 (l_cmp_eq0.mpr (h43.mpr h))
                 have hop : opAdd (tT τ0 t n) b = some (-16) := (if_neg h31).trans (if_pos (hT.resolve_left h31))
                 rw [hop] at hK1 hK2
                 dsimp only at hK1 hK2
                 rw [hf] at hK1 hK2
                 dsimp only at hK1 hK2
                 refine g_drop 2 (g_drop 3 ?_)
                 first
                 | exact lB_added5 B hB8 (hK1 f rfl _ _ hB8)
                 | (obtain ⟨hw2, hlt2⟩ := pTerm_ok (tT_TV hR) (pLev_ok (tT_TV hR) _) _ _ _ hf
                    rw [evc_sub hw hw2]
                    obtain ⟨k', rfl⟩ : ∃ k', k = k' + 1 := ⟨k - 1, by omega⟩
                    exact ih k' (by omega) (cs ++ cs2 ++ [-16]) a2 τ8 (by omega) (hw.bin hw2 (by decide)) hM8 hK1 hK2))
      · refine g_iconst (v := (1)) B dX6_added5_34 (by decide) ?_
        refine g_goto (tgt := 39) B dX6_added5_35 (by decide) ?_
        refine g_istore_n B dX6_added5_39 (by decide) rfl ?_
        refine g_aload_n B dX6_added5_40 rfl ?_
        refine g_callVv (C := RX6) (As := []) B dX6_added5_41 (gc1 g_X6_177) (by rfl) ⟨rfl, hd_X6_next⟩ (by exact ⟨Nat.le_of_ble_eq_true rfl, Nat.le_of_ble_eq_true rfl⟩) ⟨rfl, rfl⟩ rfl rfl (by exact Nat.le_of_ble_eq_true rfl) recvM (c_nx hR hM (isS_0 hT0) (fun τ2 hM2 => ?_))
        refine g_aload_n B dX6_added5_44 rfl ?_
        refine g_callVi (C := RX6) (As := []) B dX6_added5_45 (gc1 g_X6_216) (by rfl) ⟨rfl, hd_X6_term5⟩ (by exact ⟨Nat.le_of_ble_eq_true rfl, Nat.le_of_ble_eq_true rfl⟩) ⟨rfl, rfl⟩ rfl rfl (by exact Nat.le_of_ble_eq_true rfl) recvM (c_term5 hR hM2 (fun f hf v8 τ8 hB8 => ?_) (fun cs2 a2 hf τ8 hM8 => ?_))
        · skip
          refine g_istore_n B dX6_added5_48 (by decide) rfl ?_
          refine g_iload_n B dX6_added5_49 rfl ?_
          refine g_if_eq (tgt := 59) B dX6_added5_50 (by decide) (fun c50 => ?_) (fun c50 => ?_)
          · refine g_iload_n B dX6_added5_59 rfl ?_
            refine g_iload_n B dX6_added5_60 rfl ?_
            refine g_isub B dX6_added5_61 ?_
            refine g_istore_n B dX6_added5_62 (by decide) rfl ?_
            refine g_goto (tgt := 5) B dX6_added5_63 (by decide) ?_
            first
              | exact absurd rfl c50
              | exact absurd c50 (by decide)
              | (have hop : opAdd (tT τ0 t n) b = some (-15) := if_pos (h43.mp (l_cmp_eq0.mp c31))
                 rw [hop] at hK1 hK2
                 dsimp only at hK1 hK2
                 rw [hf] at hK1 hK2
                 dsimp only at hK1 hK2
                 refine g_drop 2 (g_drop 3 ?_)
                 first
                 | exact lB_added5 B hB8 (hK1 f rfl _ _ hB8)
                 | (obtain ⟨hw2, hlt2⟩ := pTerm_ok (tT_TV hR) (pLev_ok (tT_TV hR) _) _ _ _ hf
                    rw [evc_add hw hw2]
                    obtain ⟨k', rfl⟩ : ∃ k', k = k' + 1 := ⟨k - 1, by omega⟩
                    exact ih k' (by omega) (cs ++ cs2 ++ [-15]) a2 τ8 (by omega) (hw.bin hw2 (by decide)) hM8 hK1 hK2))
              | (have h31 : ¬ tT τ0 t n b = 43 := fun h => c31 (l_cmp_eq0.mpr (h43.mpr h))
                 have hop : opAdd (tT τ0 t n) b = some (-16) := (if_neg h31).trans (if_pos (hT.resolve_left h31))
                 rw [hop] at hK1 hK2
                 dsimp only at hK1 hK2
                 rw [hf] at hK1 hK2
                 dsimp only at hK1 hK2
                 refine g_drop 2 (g_drop 3 ?_)
                 first
                 | exact lB_added5 B hB8 (hK1 f rfl _ _ hB8)
                 | (obtain ⟨hw2, hlt2⟩ := pTerm_ok (tT_TV hR) (pLev_ok (tT_TV hR) _) _ _ _ hf
                    rw [evc_sub hw hw2]
                    obtain ⟨k', rfl⟩ : ∃ k', k = k' + 1 := ⟨k - 1, by omega⟩
                    exact ih k' (by omega) (cs ++ cs2 ++ [-16]) a2 τ8 (by omega) (hw.bin hw2 (by decide)) hM8 hK1 hK2))
          · refine g_iload_n B dX6_added5_53 rfl ?_
            refine g_iload_n B dX6_added5_54 rfl ?_
            refine g_iadd B dX6_added5_55 ?_
            refine g_goto (tgt := 62) B dX6_added5_56 (by decide) ?_
            refine g_istore_n B dX6_added5_62 (by decide) rfl ?_
            refine g_goto (tgt := 5) B dX6_added5_63 (by decide) ?_
            first
              | exact absurd rfl c50
              | exact absurd c50 (by decide)
              | (have hop : opAdd (tT τ0 t n) b = some (-15) := if_pos (h43.mp (l_cmp_eq0.mp c31))
                 rw [hop] at hK1 hK2
                 dsimp only at hK1 hK2
                 rw [hf] at hK1 hK2
                 dsimp only at hK1 hK2
                 refine g_drop 2 (g_drop 3 ?_)
                 first
                 | exact lB_added5 B hB8 (hK1 f rfl _ _ hB8)
                 | (obtain ⟨hw2, hlt2⟩ := pTerm_ok (tT_TV hR) (pLev_ok (tT_TV hR) _) _ _ _ hf
                    rw [evc_add hw hw2]
                    obtain ⟨k', rfl⟩ : ∃ k', k = k' + 1 := ⟨k - 1, by omega⟩
                    exact ih k' (by omega) (cs ++ cs2 ++ [-15]) a2 τ8 (by omega) (hw.bin hw2 (by decide)) hM8 hK1 hK2))
              | (have h31 : ¬ tT τ0 t n b = 43 := fun h => c31 (l_cmp_eq0.mpr (h43.mpr h))
                 have hop : opAdd (tT τ0 t n) b = some (-16) := (if_neg h31).trans (if_pos (hT.resolve_left h31))
                 rw [hop] at hK1 hK2
                 dsimp only at hK1 hK2
                 rw [hf] at hK1 hK2
                 dsimp only at hK1 hK2
                 refine g_drop 2 (g_drop 3 ?_)
                 first
                 | exact lB_added5 B hB8 (hK1 f rfl _ _ hB8)
                 | (obtain ⟨hw2, hlt2⟩ := pTerm_ok (tT_TV hR) (pLev_ok (tT_TV hR) _) _ _ _ hf
                    rw [evc_sub hw hw2]
                    obtain ⟨k', rfl⟩ : ∃ k', k = k' + 1 := ⟨k - 1, by omega⟩
                    exact ih k' (by omega) (cs ++ cs2 ++ [-16]) a2 τ8 (by omega) (hw.bin hw2 (by decide)) hM8 hK1 hK2))
        · skip
          refine g_istore_n B dX6_added5_48 (by decide) rfl ?_
          refine g_iload_n B dX6_added5_49 rfl ?_
          refine g_if_eq (tgt := 59) B dX6_added5_50 (by decide) (fun c50 => ?_) (fun c50 => ?_)
          · refine g_iload_n B dX6_added5_59 rfl ?_
            refine g_iload_n B dX6_added5_60 rfl ?_
            refine g_isub B dX6_added5_61 ?_
            refine g_istore_n B dX6_added5_62 (by decide) rfl ?_
            refine g_goto (tgt := 5) B dX6_added5_63 (by decide) ?_
            first
              | exact absurd rfl c50
              | exact absurd c50 (by decide)
              | (have hop : opAdd (tT τ0 t n) b = some (-15) := if_pos (h43.mp (l_cmp_eq0.mp c31))
                 rw [hop] at hK1 hK2
                 dsimp only at hK1 hK2
                 rw [hf] at hK1 hK2
                 dsimp only at hK1 hK2
                 refine g_drop 2 (g_drop 3 ?_)
                 first
                 | exact lB_added5 B hB8 (hK1 f rfl _ _ hB8)
                 | (obtain ⟨hw2, hlt2⟩ := pTerm_ok (tT_TV hR) (pLev_ok (tT_TV hR) _) _ _ _ hf
                    rw [evc_add hw hw2]
                    obtain ⟨k', rfl⟩ : ∃ k', k = k' + 1 := ⟨k - 1, by omega⟩
                    exact ih k' (by omega) (cs ++ cs2 ++ [-15]) a2 τ8 (by omega) (hw.bin hw2 (by decide)) hM8 hK1 hK2))
              | (have h31 : ¬ tT τ0 t n b = 43 := fun h => c31 (l_cmp_eq0.mpr (h43.mpr h))
                 have hop : opAdd (tT τ0 t n) b = some (-16) := (if_neg h31).trans (if_pos (hT.resolve_left h31))
                 rw [hop] at hK1 hK2
                 dsimp only at hK1 hK2
                 rw [hf] at hK1 hK2
                 dsimp only at hK1 hK2
                 refine g_drop 2 (g_drop 3 ?_)
                 first
                 | exact lB_added5 B hB8 (hK1 f rfl _ _ hB8)
                 | (obtain ⟨hw2, hlt2⟩ := pTerm_ok (tT_TV hR) (pLev_ok (tT_TV hR) _) _ _ _ hf
                    rw [evc_sub hw hw2]
                    obtain ⟨k', rfl⟩ : ∃ k', k = k' + 1 := ⟨k - 1, by omega⟩
                    exact ih k' (by omega) (cs ++ cs2 ++ [-16]) a2 τ8 (by omega) (hw.bin hw2 (by decide)) hM8 hK1 hK2))
          · refine g_iload_n B dX6_added5_53 rfl ?_
            refine g_iload_n B dX6_added5_54 rfl ?_
            refine g_iadd B dX6_added5_55 ?_
            refine g_goto (tgt := 62) B dX6_added5_56 (by decide) ?_
            refine g_istore_n B dX6_added5_62 (by decide) rfl ?_
            refine g_goto (tgt := 5) B dX6_added5_63 (by decide) ?_
            first
              | exact absurd rfl c50
              | exact absurd c50 (by decide)
              | (have hop : opAdd (tT τ0 t n) b = some (-15) := if_pos (h43.mp (l_cmp_eq0.mp c31))
                 rw [hop] at hK1 hK2
                 dsimp only at hK1 hK2
                 rw [hf] at hK1 hK2
                 dsimp only at hK1 hK2
                 refine g_drop 2 (g_drop 3 ?_)
                 first
                 | exact lB_added5 B hB8 (hK1 f rfl _ _ hB8)
                 | (obtain ⟨hw2, hlt2⟩ := pTerm_ok (tT_TV hR) (pLev_ok (tT_TV hR) _) _ _ _ hf
                    rw [evc_add hw hw2]
                    obtain ⟨k', rfl⟩ : ∃ k', k = k' + 1 := ⟨k - 1, by omega⟩
                    exact ih k' (by omega) (cs ++ cs2 ++ [-15]) a2 τ8 (by omega) (hw.bin hw2 (by decide)) hM8 hK1 hK2))
              | (have h31 : ¬ tT τ0 t n b = 43 := fun h => c31 (l_cmp_eq0.mpr (h43.mpr h))
                 have hop : opAdd (tT τ0 t n) b = some (-16) := (if_neg h31).trans (if_pos (hT.resolve_left h31))
                 rw [hop] at hK1 hK2
                 dsimp only at hK1 hK2
                 rw [hf] at hK1 hK2
                 dsimp only at hK1 hK2
                 refine g_drop 2 (g_drop 3 ?_)
                 first
                 | exact lB_added5 B hB8 (hK1 f rfl _ _ hB8)
                 | (obtain ⟨hw2, hlt2⟩ := pTerm_ok (tT_TV hR) (pLev_ok (tT_TV hR) _) _ _ _ hf
                    rw [evc_sub hw hw2]
                    obtain ⟨k', rfl⟩ : ∃ k', k = k' + 1 := ⟨k - 1, by omega⟩
                    exact ih k' (by omega) (cs ++ cs2 ++ [-16]) a2 τ8 (by omega) (hw.bin hw2 (by decide)) hM8 hK1 hK2))
set_option maxRecDepth 100000 in
set_option maxHeartbeats 4000000 in
theorem c_added5 {Z : LZ} {ad : Nat → Nat} {τ0 τ : St} {K : Int32 → St → Prop} {t n a : Nat} (hR : RB τ0 t n) (hM : MS τ0 t n 5 a τ) (hK1 : ∀ f, pSum (tT τ0 t n) (tV τ0 t n) (pLev (tT τ0 t n) (tV τ0 t n) 0) a = .inl f → ∀ v τ', MB τ0 t n f τ' → K v τ') (hK2 : ∀ cs a2, pSum (tT τ0 t n) (tV τ0 t n) (pLev (tT τ0 t n) (tV τ0 t n) 0) a = .inr (cs, a2) → ∀ τ', MS τ0 t n 5 a2 τ' → K (evc (eM τ0) cs) τ') : CC lyM Z ad yX6_added5 wsX6_added5 (rmk 6) [.ref (ad 0)] τ (rI K) := by
  refine CC.of (cc := cX6_added5) (nL := 4) (ret := (some .int)) rfl rfl ⟨rfl, rfl⟩ (by exact Nat.le_of_ble_eq_true rfl) ?_
  intro X B
  change GG _ _ _ _ X _ 0 [some (.ref (ad 0)), none, none, none] [] _
  change Amb _ _ _ _ X _ _ RX6 _ _ at B
  unfold pSum pSeq at hK1 hK2
  refine g_aload_n B dX6_added5_0 rfl ?_
  refine g_callVi (C := RX6) (As := []) B dX6_added5_1 (gc1 g_X6_216) (by rfl) ⟨rfl, hd_X6_term5⟩ (by exact ⟨Nat.le_of_ble_eq_true rfl, Nat.le_of_ble_eq_true rfl⟩) ⟨rfl, rfl⟩ rfl rfl (by exact Nat.le_of_ble_eq_true rfl) recvM (c_term5 hR hM (fun f hf v8 τ8 hB8 => ?_) (fun cs a1 hf τ8 hM8 => ?_))
  · rw [hf] at hK1; dsimp only at hK1
    refine g_istore_n B dX6_added5_4 (by decide) rfl ?_
    first
      | exact lB_added5 B hB8 (hK1 f rfl _ _ hB8)
      | exact l_added5 B hR 199 cs a1 τ8 (by omega) (pTerm_ok (tT_TV hR) (pLev_ok (tT_TV hR) _) _ _ _ hf).1 hM8 hK1 hK2
  · rw [hf] at hK1 hK2; dsimp only at hK1 hK2
    refine g_istore_n B dX6_added5_4 (by decide) rfl ?_
    first
      | exact lB_added5 B hB8 (hK1 f rfl _ _ hB8)
      | exact l_added5 B hR 199 cs a1 τ8 (by omega) (pTerm_ok (tT_TV hR) (pLev_ok (tT_TV hR) _) _ _ _ hf).1 hM8 hK1 hK2
set_option maxRecDepth 100000 in
set_option maxHeartbeats 4000000 in
theorem n2_not5 {Z : LZ} {ad : Nat → Nat} {X : CX} {K : Int32 → St → Prop} {τ0 τ : St} {t n a1 : Nat} {cs : List Int32} (B : Amb lyM Z ad (rmk 7) X cX6_not5 wsX6_not5 RX6 4 (some .int)) (hR : RB τ0 t n) (hw : WF cs) (hM : MS τ0 t n 5 a1 τ) (hT : tT τ0 t n a1 = 60 ∨ tT τ0 t n a1 = 61)
    (hK1 : ∀ f, (match pSum (tT τ0 t n) (tV τ0 t n) (pLev (tT τ0 t n) (tV τ0 t n) 0) (a1 + 1) with | .inl f => (.inl f : PR) | .inr (cs2, a2) => .inr (cs ++ cs2 ++ [if tT τ0 t n a1 = 60 then -13 else -14], a2)) = .inl f → ∀ v τ', MB τ0 t n f τ' → K v τ') (hK2 : ∀ ds a2, (match pSum (tT τ0 t n) (tV τ0 t n) (pLev (tT τ0 t n) (tV τ0 t n) 0) (a1 + 1) with | .inl f => (.inl f : PR) | .inr (cs2, a2) => .inr (cs ++ cs2 ++ [if tT τ0 t n a1 = 60 then -13 else -14], a2)) = .inr (ds, a2) → ∀ τ', MS τ0 t n 5 a2 τ' → K (evc (eM τ0) ds) τ') : GG lyM Z ad (rmk 7) X (rI K) 50 [some (.ref (ad 0)), some (.int (evc (eM τ0) cs)), none, none] [] τ := by
  have hT0 : isS (tT τ0 t n a1) := by rcases hT with h | h <;> rw [h] <;> decide
  have hwv := hM.w hT0
  have h60 : τ.2.1 = 60 ↔ tT τ0 t n a1 = 60 := by
    rw [hwv]
    constructor
    · intro h
      have := congrArg Int64.toInt h
      rw [i_long] at this
      exact i_eq.mpr this
    · intro h
      rw [h]; rfl
  refine g_aload_n B dX6_not5_50 rfl ?_
  refine g_getL (T := TX6) (N := 42) B dX6_not5_51 (by decide) (by rfl) (inq inlX6) rfl 23 (by decide) (mq f_X6_155) (by rfl) ?_
  refine g_ldc2 (v := (60)) B dX6_not5_54 (mq k_X6_224) ?_
  refine g_lcmp B dX6_not5_57 ?_
  refine g_if_ne (tgt := 65) B dX6_not5_58 (by decide) (fun c58 => ?_) (fun c58 => ?_)
  · refine g_iconst (v := (0)) B dX6_not5_65 (by decide) ?_
    refine g_istore_n B dX6_not5_66 (by decide) rfl ?_
    refine g_aload_n B dX6_not5_67 rfl ?_
    refine g_callVv (C := RX6) (As := []) B dX6_not5_68 (gc1 g_X6_177) (by rfl) ⟨rfl, hd_X6_next⟩ (by exact ⟨Nat.le_of_ble_eq_true rfl, Nat.le_of_ble_eq_true rfl⟩) ⟨rfl, rfl⟩ rfl rfl (by exact Nat.le_of_ble_eq_true rfl) recvM (c_nx hR hM (isS_0 hT0) (fun τ2 hM2 => ?_))
    refine g_aload_n B dX6_not5_71 rfl ?_
    refine g_callVi (C := RX6) (As := []) B dX6_not5_72 (gc1 g_X6_221) (by rfl) ⟨rfl, hd_X6_added5⟩ (by exact ⟨Nat.le_of_ble_eq_true rfl, Nat.le_of_ble_eq_true rfl⟩) ⟨rfl, rfl⟩ rfl rfl (by exact Nat.le_of_ble_eq_true rfl) recvM (c_added5 hR hM2 (fun f hf v9 τ9 hB9 => ?_) (fun cs2 a2 hf τ9 hM9 => ?_))
    · rw [hf] at hK1; dsimp only at hK1
      refine g_istore_n B dX6_not5_75 (by decide) rfl ?_
      refine g_iload_n B dX6_not5_76 rfl ?_
      refine g_if_eq (tgt := 88) B dX6_not5_77 (by decide) (fun c77 => ?_) (fun c77 => ?_)
      · refine g_iload_n B dX6_not5_88 rfl ?_
        refine g_iload_n B dX6_not5_89 rfl ?_
        refine g_icmp_ne (tgt := 97) B dX6_not5_90 (by decide) (fun c90 => ?_) (fun c90 => ?_)
        · refine g_iconst (v := (0)) B dX6_not5_97 (by decide) ?_
          refine g_ireti B dX6_not5_98 ?_
          first
            | exact hK1 f rfl _ _ hB9
            | exact absurd rfl c77
            | exact absurd c77 (by decide)
            | (have h6 := h60.mp (l_cmp_eq0.mp c58)
               refine kk ?_ (hK2 _ _ rfl _ hM9)
               rw [if_pos h6, evc_bin hw hw2 (by decide)]
               unfold jn
               rw [if_neg (by decide), if_neg (by decide), if_pos rfl]
               first
               | rw [if_pos (Int32.not_le.mp c82)]
               | rw [if_neg (Int32.not_lt.mpr c82)])
            | (have h6 : ¬ tT τ0 t n a1 = 60 := fun h => c58 (l_cmp_eq0.mpr (h60.mpr h))
               refine kk ?_ (hK2 _ _ rfl _ hM9)
               rw [if_neg h6, evc_bin hw hw2 (by decide)]
               unfold jn
               rw [if_neg (by decide), if_neg (by decide), if_neg (by decide), if_pos rfl]
               first
               | rw [if_pos c90]
               | rw [if_neg c90]
               | rw [if_pos c90])
        · refine g_iconst (v := (1)) B dX6_not5_93 (by decide) ?_
          refine g_goto (tgt := 98) B dX6_not5_94 (by decide) ?_
          refine g_ireti B dX6_not5_98 ?_
          first
            | exact hK1 f rfl _ _ hB9
            | exact absurd rfl c77
            | exact absurd c77 (by decide)
            | (have h6 := h60.mp (l_cmp_eq0.mp c58)
               refine kk ?_ (hK2 _ _ rfl _ hM9)
               rw [if_pos h6, evc_bin hw hw2 (by decide)]
               unfold jn
               rw [if_neg (by decide), if_neg (by decide), if_pos rfl]
               first
               | rw [if_pos (Int32.not_le.mp c82)]
               | rw [if_neg (Int32.not_lt.mpr c82)])
            | (have h6 : ¬ tT τ0 t n a1 = 60 := fun h => c58 (l_cmp_eq0.mpr (h60.mpr h))
               refine kk ?_ (hK2 _ _ rfl _ hM9)
               rw [if_neg h6, evc_bin hw hw2 (by decide)]
               unfold jn
               rw [if_neg (by decide), if_neg (by decide), if_neg (by decide), if_pos rfl]
               first
               | rw [if_pos c90]
               | rw [if_neg c90]
               | rw [if_pos c90])
      · refine g_iload_n B dX6_not5_80 rfl ?_
        refine g_iload_n B dX6_not5_81 rfl ?_
        refine g_icmp_ge (tgt := 97) B dX6_not5_82 (by decide) (fun c82 => ?_) (fun c82 => ?_)
        · refine g_iconst (v := (0)) B dX6_not5_97 (by decide) ?_
          refine g_ireti B dX6_not5_98 ?_
          first
            | exact hK1 f rfl _ _ hB9
            | exact absurd rfl c77
            | exact absurd c77 (by decide)
            | (have h6 := h60.mp (l_cmp_eq0.mp c58)
               refine kk ?_ (hK2 _ _ rfl _ hM9)
               rw [if_pos h6, evc_bin hw hw2 (by decide)]
               unfold jn
               rw [if_neg (by decide), if_neg (by decide), if_pos rfl]
               first
               | rw [if_pos (Int32.not_le.mp c82)]
               | rw [if_neg (Int32.not_lt.mpr c82)])
            | (have h6 : ¬ tT τ0 t n a1 = 60 := fun h => c58 (l_cmp_eq0.mpr (h60.mpr h))
               refine kk ?_ (hK2 _ _ rfl _ hM9)
               rw [if_neg h6, evc_bin hw hw2 (by decide)]
               unfold jn
               rw [if_neg (by decide), if_neg (by decide), if_neg (by decide), if_pos rfl]
               first
               | rw [if_pos c90]
               | rw [if_neg c90]
               | rw [if_pos c90])
        · refine g_goto (tgt := 93) B dX6_not5_85 (by decide) ?_
          refine g_iconst (v := (1)) B dX6_not5_93 (by decide) ?_
          refine g_goto (tgt := 98) B dX6_not5_94 (by decide) ?_
          refine g_ireti B dX6_not5_98 ?_
          first
            | exact hK1 f rfl _ _ hB9
            | exact absurd rfl c77
            | exact absurd c77 (by decide)
            | (have h6 := h60.mp (l_cmp_eq0.mp c58)
               refine kk ?_ (hK2 _ _ rfl _ hM9)
               rw [if_pos h6, evc_bin hw hw2 (by decide)]
               unfold jn
               rw [if_neg (by decide), if_neg (by decide), if_pos rfl]
               first
               | rw [if_pos (Int32.not_le.mp c82)]
               | rw [if_neg (Int32.not_lt.mpr c82)])
            | (have h6 : ¬ tT τ0 t n a1 = 60 := fun h => c58 (l_cmp_eq0.mpr (h60.mpr h))
               refine kk ?_ (hK2 _ _ rfl _ hM9)
               rw [if_neg h6, evc_bin hw hw2 (by decide)]
               unfold jn
               rw [if_neg (by decide), if_neg (by decide), if_neg (by decide), if_pos rfl]
               first
               | rw [if_pos c90]
               | rw [if_neg c90]
               | rw [if_pos c90])
    · rw [hf] at hK1 hK2; dsimp only at hK1 hK2; have hw2 := (pSum_ok (tT_TV hR) (pLev_ok (tT_TV hR) _) _ _ _ hf).1
      refine g_istore_n B dX6_not5_75 (by decide) rfl ?_
      refine g_iload_n B dX6_not5_76 rfl ?_
      refine g_if_eq (tgt := 88) B dX6_not5_77 (by decide) (fun c77 => ?_) (fun c77 => ?_)
      · refine g_iload_n B dX6_not5_88 rfl ?_
        refine g_iload_n B dX6_not5_89 rfl ?_
        refine g_icmp_ne (tgt := 97) B dX6_not5_90 (by decide) (fun c90 => ?_) (fun c90 => ?_)
        · refine g_iconst (v := (0)) B dX6_not5_97 (by decide) ?_
          refine g_ireti B dX6_not5_98 ?_
          first
            | exact hK1 f rfl _ _ hB9
            | exact absurd rfl c77
            | exact absurd c77 (by decide)
            | (have h6 := h60.mp (l_cmp_eq0.mp c58)
               refine kk ?_ (hK2 _ _ rfl _ hM9)
               rw [if_pos h6, evc_bin hw hw2 (by decide)]
               unfold jn
               rw [if_neg (by decide), if_neg (by decide), if_pos rfl]
               first
               | rw [if_pos (Int32.not_le.mp c82)]
               | rw [if_neg (Int32.not_lt.mpr c82)])
            | (have h6 : ¬ tT τ0 t n a1 = 60 := fun h => c58 (l_cmp_eq0.mpr (h60.mpr h))
               refine kk ?_ (hK2 _ _ rfl _ hM9)
               rw [if_neg h6, evc_bin hw hw2 (by decide)]
               unfold jn
               rw [if_neg (by decide), if_neg (by decide), if_neg (by decide), if_pos rfl]
               first
               | rw [if_pos c90]
               | rw [if_neg c90]
               | rw [if_pos c90])
        · refine g_iconst (v := (1)) B dX6_not5_93 (by decide) ?_
          refine g_goto (tgt := 98) B dX6_not5_94 (by decide) ?_
          refine g_ireti B dX6_not5_98 ?_
          first
            | exact hK1 f rfl _ _ hB9
            | exact absurd rfl c77
            | exact absurd c77 (by decide)
            | (have h6 := h60.mp (l_cmp_eq0.mp c58)
               refine kk ?_ (hK2 _ _ rfl _ hM9)
               rw [if_pos h6, evc_bin hw hw2 (by decide)]
               unfold jn
               rw [if_neg (by decide), if_neg (by decide), if_pos rfl]
               first
               | rw [if_pos (Int32.not_le.mp c82)]
               | rw [if_neg (Int32.not_lt.mpr c82)])
            | (have h6 : ¬ tT τ0 t n a1 = 60 := fun h => c58 (l_cmp_eq0.mpr (h60.mpr h))
               refine kk ?_ (hK2 _ _ rfl _ hM9)
               rw [if_neg h6, evc_bin hw hw2 (by decide)]
               unfold jn
               rw [if_neg (by decide), if_neg (by decide), if_neg (by decide), if_pos rfl]
               first
               | rw [if_pos c90]
               | rw [if_neg c90]
               | rw [if_pos c90])
      · refine g_iload_n B dX6_not5_80 rfl ?_
        refine g_iload_n B dX6_not5_81 rfl ?_
        refine g_icmp_ge (tgt := 97) B dX6_not5_82 (by decide) (fun c82 => ?_) (fun c82 => ?_)
        · refine g_iconst (v := (0)) B dX6_not5_97 (by decide) ?_
          refine g_ireti B dX6_not5_98 ?_
          first
            | exact hK1 f rfl _ _ hB9
            | exact absurd rfl c77
            | exact absurd c77 (by decide)
            | (have h6 := h60.mp (l_cmp_eq0.mp c58)
               refine kk ?_ (hK2 _ _ rfl _ hM9)
               rw [if_pos h6, evc_bin hw hw2 (by decide)]
               unfold jn
               rw [if_neg (by decide), if_neg (by decide), if_pos rfl]
               first
               | rw [if_pos (Int32.not_le.mp c82)]
               | rw [if_neg (Int32.not_lt.mpr c82)])
            | (have h6 : ¬ tT τ0 t n a1 = 60 := fun h => c58 (l_cmp_eq0.mpr (h60.mpr h))
               refine kk ?_ (hK2 _ _ rfl _ hM9)
               rw [if_neg h6, evc_bin hw hw2 (by decide)]
               unfold jn
               rw [if_neg (by decide), if_neg (by decide), if_neg (by decide), if_pos rfl]
               first
               | rw [if_pos c90]
               | rw [if_neg c90]
               | rw [if_pos c90])
        · refine g_goto (tgt := 93) B dX6_not5_85 (by decide) ?_
          refine g_iconst (v := (1)) B dX6_not5_93 (by decide) ?_
          refine g_goto (tgt := 98) B dX6_not5_94 (by decide) ?_
          refine g_ireti B dX6_not5_98 ?_
          first
            | exact hK1 f rfl _ _ hB9
            | exact absurd rfl c77
            | exact absurd c77 (by decide)
            | (have h6 := h60.mp (l_cmp_eq0.mp c58)
               refine kk ?_ (hK2 _ _ rfl _ hM9)
               rw [if_pos h6, evc_bin hw hw2 (by decide)]
               unfold jn
               rw [if_neg (by decide), if_neg (by decide), if_pos rfl]
               first
               | rw [if_pos (Int32.not_le.mp c82)]
               | rw [if_neg (Int32.not_lt.mpr c82)])
            | (have h6 : ¬ tT τ0 t n a1 = 60 := fun h => c58 (l_cmp_eq0.mpr (h60.mpr h))
               refine kk ?_ (hK2 _ _ rfl _ hM9)
               rw [if_neg h6, evc_bin hw hw2 (by decide)]
               unfold jn
               rw [if_neg (by decide), if_neg (by decide), if_neg (by decide), if_pos rfl]
               first
               | rw [if_pos c90]
               | rw [if_neg c90]
               | rw [if_pos c90])
  · refine g_iconst (v := (1)) B dX6_not5_61 (by decide) ?_
    refine g_goto (tgt := 66) B dX6_not5_62 (by decide) ?_
    refine g_istore_n B dX6_not5_66 (by decide) rfl ?_
    refine g_aload_n B dX6_not5_67 rfl ?_
    refine g_callVv (C := RX6) (As := []) B dX6_not5_68 (gc1 g_X6_177) (by rfl) ⟨rfl, hd_X6_next⟩ (by exact ⟨Nat.le_of_ble_eq_true rfl, Nat.le_of_ble_eq_true rfl⟩) ⟨rfl, rfl⟩ rfl rfl (by exact Nat.le_of_ble_eq_true rfl) recvM (c_nx hR hM (isS_0 hT0) (fun τ2 hM2 => ?_))
    refine g_aload_n B dX6_not5_71 rfl ?_
    refine g_callVi (C := RX6) (As := []) B dX6_not5_72 (gc1 g_X6_221) (by rfl) ⟨rfl, hd_X6_added5⟩ (by exact ⟨Nat.le_of_ble_eq_true rfl, Nat.le_of_ble_eq_true rfl⟩) ⟨rfl, rfl⟩ rfl rfl (by exact Nat.le_of_ble_eq_true rfl) recvM (c_added5 hR hM2 (fun f hf v9 τ9 hB9 => ?_) (fun cs2 a2 hf τ9 hM9 => ?_))
    · rw [hf] at hK1; dsimp only at hK1
      refine g_istore_n B dX6_not5_75 (by decide) rfl ?_
      refine g_iload_n B dX6_not5_76 rfl ?_
      refine g_if_eq (tgt := 88) B dX6_not5_77 (by decide) (fun c77 => ?_) (fun c77 => ?_)
      · refine g_iload_n B dX6_not5_88 rfl ?_
        refine g_iload_n B dX6_not5_89 rfl ?_
        refine g_icmp_ne (tgt := 97) B dX6_not5_90 (by decide) (fun c90 => ?_) (fun c90 => ?_)
        · refine g_iconst (v := (0)) B dX6_not5_97 (by decide) ?_
          refine g_ireti B dX6_not5_98 ?_
          first
            | exact hK1 f rfl _ _ hB9
            | exact absurd rfl c77
            | exact absurd c77 (by decide)
            | (have h6 := h60.mp (l_cmp_eq0.mp c58)
               refine kk ?_ (hK2 _ _ rfl _ hM9)
               rw [if_pos h6, evc_bin hw hw2 (by decide)]
               unfold jn
               rw [if_neg (by decide), if_neg (by decide), if_pos rfl]
               first
               | rw [if_pos (Int32.not_le.mp c82)]
               | rw [if_neg (Int32.not_lt.mpr c82)])
            | (have h6 : ¬ tT τ0 t n a1 = 60 := fun h => c58 (l_cmp_eq0.mpr (h60.mpr h))
               refine kk ?_ (hK2 _ _ rfl _ hM9)
               rw [if_neg h6, evc_bin hw hw2 (by decide)]
               unfold jn
               rw [if_neg (by decide), if_neg (by decide), if_neg (by decide), if_pos rfl]
               first
               | rw [if_pos c90]
               | rw [if_neg c90]
               | rw [if_pos c90])
        · refine g_iconst (v := (1)) B dX6_not5_93 (by decide) ?_
          refine g_goto (tgt := 98) B dX6_not5_94 (by decide) ?_
          refine g_ireti B dX6_not5_98 ?_
          first
            | exact hK1 f rfl _ _ hB9
            | exact absurd rfl c77
            | exact absurd c77 (by decide)
            | (have h6 := h60.mp (l_cmp_eq0.mp c58)
               refine kk ?_ (hK2 _ _ rfl _ hM9)
               rw [if_pos h6, evc_bin hw hw2 (by decide)]
               unfold jn
               rw [if_neg (by decide), if_neg (by decide), if_pos rfl]
               first
               | rw [if_pos (Int32.not_le.mp c82)]
               | rw [if_neg (Int32.not_lt.mpr c82)])
            | (have h6 : ¬ tT τ0 t n a1 = 60 := fun h => c58 (l_cmp_eq0.mpr (h60.mpr h))
               refine kk ?_ (hK2 _ _ rfl _ hM9)
               rw [if_neg h6, evc_bin hw hw2 (by decide)]
               unfold jn
               rw [if_neg (by decide), if_neg (by decide), if_neg (by decide), if_pos rfl]
               first
               | rw [if_pos c90]
               | rw [if_neg c90]
               | rw [if_pos c90])
      · refine g_iload_n B dX6_not5_80 rfl ?_
        refine g_iload_n B dX6_not5_81 rfl ?_
        refine g_icmp_ge (tgt := 97) B dX6_not5_82 (by decide) (fun c82 => ?_) (fun c82 => ?_)
        · refine g_iconst (v := (0)) B dX6_not5_97 (by decide) ?_
          refine g_ireti B dX6_not5_98 ?_
          first
            | exact hK1 f rfl _ _ hB9
            | exact absurd rfl c77
            | exact absurd c77 (by decide)
            | (have h6 := h60.mp (l_cmp_eq0.mp c58)
               refine kk ?_ (hK2 _ _ rfl _ hM9)
               rw [if_pos h6, evc_bin hw hw2 (by decide)]
               unfold jn
               rw [if_neg (by decide), if_neg (by decide), if_pos rfl]
               first
               | rw [if_pos (Int32.not_le.mp c82)]
               | rw [if_neg (Int32.not_lt.mpr c82)])
            | (have h6 : ¬ tT τ0 t n a1 = 60 := fun h => c58 (l_cmp_eq0.mpr (h60.mpr h))
               refine kk ?_ (hK2 _ _ rfl _ hM9)
               rw [if_neg h6, evc_bin hw hw2 (by decide)]
               unfold jn
               rw [if_neg (by decide), if_neg (by decide), if_neg (by decide), if_pos rfl]
               first
               | rw [if_pos c90]
               | rw [if_neg c90]
               | rw [if_pos c90])
        · refine g_goto (tgt := 93) B dX6_not5_85 (by decide) ?_
          refine g_iconst (v := (1)) B dX6_not5_93 (by decide) ?_
          refine g_goto (tgt := 98) B dX6_not5_94 (by decide) ?_
          refine g_ireti B dX6_not5_98 ?_
          first
            | exact hK1 f rfl _ _ hB9
            | exact absurd rfl c77
            | exact absurd c77 (by decide)
            | (have h6 := h60.mp (l_cmp_eq0.mp c58)
               refine kk ?_ (hK2 _ _ rfl _ hM9)
               rw [if_pos h6, evc_bin hw hw2 (by decide)]
               unfold jn
               rw [if_neg (by decide), if_neg (by decide), if_pos rfl]
               first
               | rw [if_pos (Int32.not_le.mp c82)]
               | rw [if_neg (Int32.not_lt.mpr c82)])
            | (have h6 : ¬ tT τ0 t n a1 = 60 := fun h => c58 (l_cmp_eq0.mpr (h60.mpr h))
               refine kk ?_ (hK2 _ _ rfl _ hM9)
               rw [if_neg h6, evc_bin hw hw2 (by decide)]
               unfold jn
               rw [if_neg (by decide), if_neg (by decide), if_neg (by decide), if_pos rfl]
               first
               | rw [if_pos c90]
               | rw [if_neg c90]
               | rw [if_pos c90])
    · rw [hf] at hK1 hK2; dsimp only at hK1 hK2; have hw2 := (pSum_ok (tT_TV hR) (pLev_ok (tT_TV hR) _) _ _ _ hf).1
      refine g_istore_n B dX6_not5_75 (by decide) rfl ?_
      refine g_iload_n B dX6_not5_76 rfl ?_
      refine g_if_eq (tgt := 88) B dX6_not5_77 (by decide) (fun c77 => ?_) (fun c77 => ?_)
      · refine g_iload_n B dX6_not5_88 rfl ?_
        refine g_iload_n B dX6_not5_89 rfl ?_
        refine g_icmp_ne (tgt := 97) B dX6_not5_90 (by decide) (fun c90 => ?_) (fun c90 => ?_)
        · refine g_iconst (v := (0)) B dX6_not5_97 (by decide) ?_
          refine g_ireti B dX6_not5_98 ?_
          first
            | exact hK1 f rfl _ _ hB9
            | exact absurd rfl c77
            | exact absurd c77 (by decide)
            | (have h6 := h60.mp (l_cmp_eq0.mp c58)
               refine kk ?_ (hK2 _ _ rfl _ hM9)
               rw [if_pos h6, evc_bin hw hw2 (by decide)]
               unfold jn
               rw [if_neg (by decide), if_neg (by decide), if_pos rfl]
               first
               | rw [if_pos (Int32.not_le.mp c82)]
               | rw [if_neg (Int32.not_lt.mpr c82)])
            | (have h6 : ¬ tT τ0 t n a1 = 60 := fun h => c58 (l_cmp_eq0.mpr (h60.mpr h))
               refine kk ?_ (hK2 _ _ rfl _ hM9)
               rw [if_neg h6, evc_bin hw hw2 (by decide)]
               unfold jn
               rw [if_neg (by decide), if_neg (by decide), if_neg (by decide), if_pos rfl]
               first
               | rw [if_pos c90]
               | rw [if_neg c90]
               | rw [if_pos c90])
        · refine g_iconst (v := (1)) B dX6_not5_93 (by decide) ?_
          refine g_goto (tgt := 98) B dX6_not5_94 (by decide) ?_
          refine g_ireti B dX6_not5_98 ?_
          first
            | exact hK1 f rfl _ _ hB9
            | exact absurd rfl c77
            | exact absurd c77 (by decide)
            | (have h6 := h60.mp (l_cmp_eq0.mp c58)
               refine kk ?_ (hK2 _ _ rfl _ hM9)
               rw [if_pos h6, evc_bin hw hw2 (by decide)]
               unfold jn
               rw [if_neg (by decide), if_neg (by decide), if_pos rfl]
               first
               | rw [if_pos (Int32.not_le.mp c82)]
               | rw [if_neg (Int32.not_lt.mpr c82)])
            | (have h6 : ¬ tT τ0 t n a1 = 60 := fun h => c58 (l_cmp_eq0.mpr (h60.mpr h))
               refine kk ?_ (hK2 _ _ rfl _ hM9)
               rw [if_neg h6, evc_bin hw hw2 (by decide)]
               unfold jn
               rw [if_neg (by decide), if_neg (by decide), if_neg (by decide), if_pos rfl]
               first
               | rw [if_pos c90]
               | rw [if_neg c90]
               | rw [if_pos c90])
      · refine g_iload_n B dX6_not5_80 rfl ?_
        refine g_iload_n B dX6_not5_81 rfl ?_
        refine g_icmp_ge (tgt := 97) B dX6_not5_82 (by decide) (fun c82 => ?_) (fun c82 => ?_)
        · refine g_iconst (v := (0)) B dX6_not5_97 (by decide) ?_
          refine g_ireti B dX6_not5_98 ?_
          first
            | exact hK1 f rfl _ _ hB9
            | exact absurd rfl c77
            | exact absurd c77 (by decide)
            | (have h6 := h60.mp (l_cmp_eq0.mp c58)
               refine kk ?_ (hK2 _ _ rfl _ hM9)
               rw [if_pos h6, evc_bin hw hw2 (by decide)]
               unfold jn
               rw [if_neg (by decide), if_neg (by decide), if_pos rfl]
               first
               | rw [if_pos (Int32.not_le.mp c82)]
               | rw [if_neg (Int32.not_lt.mpr c82)])
            | (have h6 : ¬ tT τ0 t n a1 = 60 := fun h => c58 (l_cmp_eq0.mpr (h60.mpr h))
               refine kk ?_ (hK2 _ _ rfl _ hM9)
               rw [if_neg h6, evc_bin hw hw2 (by decide)]
               unfold jn
               rw [if_neg (by decide), if_neg (by decide), if_neg (by decide), if_pos rfl]
               first
               | rw [if_pos c90]
               | rw [if_neg c90]
               | rw [if_pos c90])
        · refine g_goto (tgt := 93) B dX6_not5_85 (by decide) ?_
          refine g_iconst (v := (1)) B dX6_not5_93 (by decide) ?_
          refine g_goto (tgt := 98) B dX6_not5_94 (by decide) ?_
          refine g_ireti B dX6_not5_98 ?_
          first
            | exact hK1 f rfl _ _ hB9
            | exact absurd rfl c77
            | exact absurd c77 (by decide)
            | (have h6 := h60.mp (l_cmp_eq0.mp c58)
               refine kk ?_ (hK2 _ _ rfl _ hM9)
               rw [if_pos h6, evc_bin hw hw2 (by decide)]
               unfold jn
               rw [if_neg (by decide), if_neg (by decide), if_pos rfl]
               first
               | rw [if_pos (Int32.not_le.mp c82)]
               | rw [if_neg (Int32.not_lt.mpr c82)])
            | (have h6 : ¬ tT τ0 t n a1 = 60 := fun h => c58 (l_cmp_eq0.mpr (h60.mpr h))
               refine kk ?_ (hK2 _ _ rfl _ hM9)
               rw [if_neg h6, evc_bin hw hw2 (by decide)]
               unfold jn
               rw [if_neg (by decide), if_neg (by decide), if_neg (by decide), if_pos rfl]
               first
               | rw [if_pos c90]
               | rw [if_neg c90]
               | rw [if_pos c90])

set_option maxRecDepth 100000 in
set_option maxHeartbeats 4000000 in
theorem c_not5 {Z : LZ} {ad : Nat → Nat} {τ0 τ : St} {K : Int32 → St → Prop} {t n a : Nat} (hR : RB τ0 t n) (hM : MS τ0 t n 5 a τ) (hK1 : ∀ f, pNot (tT τ0 t n) (tV τ0 t n) (pLev (tT τ0 t n) (tV τ0 t n) 0) a = .inl f → ∀ v τ', MB τ0 t n f τ' → K v τ') (hK2 : ∀ cs a2, pNot (tT τ0 t n) (tV τ0 t n) (pLev (tT τ0 t n) (tV τ0 t n) 0) a = .inr (cs, a2) → ∀ τ', MS τ0 t n 5 a2 τ' → K (evc (eM τ0) cs) τ') : CC lyM Z ad yX6_not5 wsX6_not5 (rmk 7) [.ref (ad 0)] τ (rI K) := by
  refine CC.of (cc := cX6_not5) (nL := 4) (ret := (some .int)) rfl rfl ⟨rfl, rfl⟩ (by exact Nat.le_of_ble_eq_true rfl) ?_
  intro X B
  change GG _ _ _ _ X _ 0 [some (.ref (ad 0)), none, none, none] [] _
  change Amb _ _ _ _ X _ _ RX6 _ _ at B
  refine g_aload_n B dX6_not5_0 rfl ?_
  refine g_bipush (v := (110)) B dX6_not5_1 (by decide) ?_
  refine g_bipush (v := (111)) B dX6_not5_3 (by decide) ?_
  refine g_bipush (v := (116)) B dX6_not5_5 (by decide) ?_
  refine g_iconst (v := (0)) B dX6_not5_7 (by decide) ?_
  refine g_iconst (v := (0)) B dX6_not5_8 (by decide) ?_
  refine g_iconst (v := (0)) B dX6_not5_9 (by decide) ?_
  refine g_iconst (v := (0)) B dX6_not5_10 (by decide) ?_
  refine g_iconst (v := (0)) B dX6_not5_11 (by decide) ?_
  refine g_callVi (C := RX6) (As := [.int _, .int _, .int _, .int _, .int _, .int _, .int _, .int _]) B dX6_not5_12 (gc1 g_X6_180) (by rfl) ⟨rfl, hd_X6_isWord⟩ (by exact ⟨Nat.le_of_ble_eq_true rfl, Nat.le_of_ble_eq_true rfl⟩) ⟨rfl, rfl⟩ rfl rfl (by exact Nat.le_of_ble_eq_true rfl) recvM (c_key (c := 306) hR hM (by decide) (fun _ _ _ => wS_not) ?_)
  refine g_if_eq (tgt := 25) B dX6_not5_15 (by decide) (fun c15 => ?_) (fun c15 => ?_)
  · have hno : ¬ tT τ0 t n a = 306 := b1_0.mp c15
    unfold pNot at hK1 hK2
    rw [if_neg hno] at hK1 hK2
    unfold pCmp at hK1 hK2
    refine g_aload_n B dX6_not5_25 rfl ?_
    refine g_callVi (C := RX6) (As := []) B dX6_not5_26 (gc1 g_X6_221) (by rfl) ⟨rfl, hd_X6_added5⟩ (by exact ⟨Nat.le_of_ble_eq_true rfl, Nat.le_of_ble_eq_true rfl⟩) ⟨rfl, rfl⟩ rfl rfl (by exact Nat.le_of_ble_eq_true rfl) recvM (c_added5 hR hM (fun f hf v8 τ8 hB8 => ?_) (fun cs a1 hf τ8 hM8 => ?_))
    · rw [hf] at hK1; dsimp only at hK1
      refine g_istore_n B dX6_not5_29 (by decide) rfl ?_
      refine g_aload_n B dX6_not5_30 rfl ?_
      refine g_bipush (v := (60)) B dX6_not5_31 (by decide) ?_
      first
        | refine g_callVi (C := RX6) (As := [.int _]) B dX6_not5_33 (gc1 g_X6_202) (by rfl) ⟨rfl, hd_X6_isSign⟩ (by exact ⟨Nat.le_of_ble_eq_true rfl, Nat.le_of_ble_eq_true rfl⟩) ⟨rfl, rfl⟩ rfl rfl (by exact Nat.le_of_ble_eq_true rfl) recvM (c_sgnB hB8 ?_)
        | refine g_callVi (C := RX6) (As := [.int _]) B dX6_not5_33 (gc1 g_X6_202) (by rfl) ⟨rfl, hd_X6_isSign⟩ (by exact ⟨Nat.le_of_ble_eq_true rfl, Nat.le_of_ble_eq_true rfl⟩) ⟨rfl, rfl⟩ rfl rfl (by exact Nat.le_of_ble_eq_true rfl) recvM (c_sgn hM8 (show isS 60 by decide) ?_)
      refine g_if_ne (tgt := 50) B dX6_not5_36 (by decide) (fun c36 => ?_) (fun c36 => ?_)
      · first
          | exact absurd rfl c36
          | exact absurd rfl c45
          | (have hT : tT τ0 t n a1 = 60 ∨ tT τ0 t n a1 = 61 := by first | exact Or.inl (b1_n0.mp c36) | exact Or.inr (b1_n0.mp c45)
             rw [if_pos hT] at hK1 hK2
             exact n2_not5 B hR (pSum_ok (tT_TV hR) (pLev_ok (tT_TV hR) _) _ _ _ hf).1 hM8 hT hK1 hK2)
      · refine g_aload_n B dX6_not5_39 rfl ?_
        refine g_bipush (v := (61)) B dX6_not5_40 (by decide) ?_
        first
          | refine g_callVi (C := RX6) (As := [.int _]) B dX6_not5_42 (gc1 g_X6_202) (by rfl) ⟨rfl, hd_X6_isSign⟩ (by exact ⟨Nat.le_of_ble_eq_true rfl, Nat.le_of_ble_eq_true rfl⟩) ⟨rfl, rfl⟩ rfl rfl (by exact Nat.le_of_ble_eq_true rfl) recvM (c_sgnB hB8 ?_)
          | refine g_callVi (C := RX6) (As := [.int _]) B dX6_not5_42 (gc1 g_X6_202) (by rfl) ⟨rfl, hd_X6_isSign⟩ (by exact ⟨Nat.le_of_ble_eq_true rfl, Nat.le_of_ble_eq_true rfl⟩) ⟨rfl, rfl⟩ rfl rfl (by exact Nat.le_of_ble_eq_true rfl) recvM (c_sgn hM8 (show isS 61 by decide) ?_)
        refine g_if_ne (tgt := 50) B dX6_not5_45 (by decide) (fun c45 => ?_) (fun c45 => ?_)
        · first
            | exact absurd rfl c36
            | exact absurd rfl c45
            | (have hT : tT τ0 t n a1 = 60 ∨ tT τ0 t n a1 = 61 := by first | exact Or.inl (b1_n0.mp c36) | exact Or.inr (b1_n0.mp c45)
               rw [if_pos hT] at hK1 hK2
               exact n2_not5 B hR (pSum_ok (tT_TV hR) (pLev_ok (tT_TV hR) _) _ _ _ hf).1 hM8 hT hK1 hK2)
        · refine g_iload_n B dX6_not5_48 rfl ?_
          refine g_ireti B dX6_not5_49 ?_
          first
            | exact hK1 f rfl _ _ hB8
            | (rw [if_neg (fun h => h.elim (b1_0.mp c36) (b1_0.mp c45))] at hK2
               exact hK2 _ _ rfl _ hM8)
    · rw [hf] at hK1 hK2; dsimp only at hK1 hK2
      refine g_istore_n B dX6_not5_29 (by decide) rfl ?_
      refine g_aload_n B dX6_not5_30 rfl ?_
      refine g_bipush (v := (60)) B dX6_not5_31 (by decide) ?_
      first
        | refine g_callVi (C := RX6) (As := [.int _]) B dX6_not5_33 (gc1 g_X6_202) (by rfl) ⟨rfl, hd_X6_isSign⟩ (by exact ⟨Nat.le_of_ble_eq_true rfl, Nat.le_of_ble_eq_true rfl⟩) ⟨rfl, rfl⟩ rfl rfl (by exact Nat.le_of_ble_eq_true rfl) recvM (c_sgnB hB8 ?_)
        | refine g_callVi (C := RX6) (As := [.int _]) B dX6_not5_33 (gc1 g_X6_202) (by rfl) ⟨rfl, hd_X6_isSign⟩ (by exact ⟨Nat.le_of_ble_eq_true rfl, Nat.le_of_ble_eq_true rfl⟩) ⟨rfl, rfl⟩ rfl rfl (by exact Nat.le_of_ble_eq_true rfl) recvM (c_sgn hM8 (show isS 60 by decide) ?_)
      refine g_if_ne (tgt := 50) B dX6_not5_36 (by decide) (fun c36 => ?_) (fun c36 => ?_)
      · first
          | exact absurd rfl c36
          | exact absurd rfl c45
          | (have hT : tT τ0 t n a1 = 60 ∨ tT τ0 t n a1 = 61 := by first | exact Or.inl (b1_n0.mp c36) | exact Or.inr (b1_n0.mp c45)
             rw [if_pos hT] at hK1 hK2
             exact n2_not5 B hR (pSum_ok (tT_TV hR) (pLev_ok (tT_TV hR) _) _ _ _ hf).1 hM8 hT hK1 hK2)
      · refine g_aload_n B dX6_not5_39 rfl ?_
        refine g_bipush (v := (61)) B dX6_not5_40 (by decide) ?_
        first
          | refine g_callVi (C := RX6) (As := [.int _]) B dX6_not5_42 (gc1 g_X6_202) (by rfl) ⟨rfl, hd_X6_isSign⟩ (by exact ⟨Nat.le_of_ble_eq_true rfl, Nat.le_of_ble_eq_true rfl⟩) ⟨rfl, rfl⟩ rfl rfl (by exact Nat.le_of_ble_eq_true rfl) recvM (c_sgnB hB8 ?_)
          | refine g_callVi (C := RX6) (As := [.int _]) B dX6_not5_42 (gc1 g_X6_202) (by rfl) ⟨rfl, hd_X6_isSign⟩ (by exact ⟨Nat.le_of_ble_eq_true rfl, Nat.le_of_ble_eq_true rfl⟩) ⟨rfl, rfl⟩ rfl rfl (by exact Nat.le_of_ble_eq_true rfl) recvM (c_sgn hM8 (show isS 61 by decide) ?_)
        refine g_if_ne (tgt := 50) B dX6_not5_45 (by decide) (fun c45 => ?_) (fun c45 => ?_)
        · first
            | exact absurd rfl c36
            | exact absurd rfl c45
            | (have hT : tT τ0 t n a1 = 60 ∨ tT τ0 t n a1 = 61 := by first | exact Or.inl (b1_n0.mp c36) | exact Or.inr (b1_n0.mp c45)
               rw [if_pos hT] at hK1 hK2
               exact n2_not5 B hR (pSum_ok (tT_TV hR) (pLev_ok (tT_TV hR) _) _ _ _ hf).1 hM8 hT hK1 hK2)
        · refine g_iload_n B dX6_not5_48 rfl ?_
          refine g_ireti B dX6_not5_49 ?_
          first
            | exact hK1 f rfl _ _ hB8
            | (rw [if_neg (fun h => h.elim (b1_0.mp c36) (b1_0.mp c45))] at hK2
               exact hK2 _ _ rfl _ hM8)
  · refine g_aload_n B dX6_not5_18 rfl ?_
    refine g_callVi (C := RX6) (As := []) B dX6_not5_19 (gc1 g_X6_205) (by rfl) ⟨rfl, hd_X6_opens⟩ (by exact ⟨Nat.le_of_ble_eq_true rfl, Nat.le_of_ble_eq_true rfl⟩) ⟨rfl, rfl⟩ rfl rfl (by exact Nat.le_of_ble_eq_true rfl) recvM (c_opn5 hM (fun τ9 hB9 => ?_))
    refine g_pop B dX6_not5_22 rfl ?_
    refine g_iconst (v := (0)) B dX6_not5_23 (by decide) ?_
    refine g_ireti B dX6_not5_24 ?_
    refine hK1 a ?_ _ _ hB9
    unfold pNot
    rw [if_pos (b1_n0.mp c15)]
    rfl
set_option maxRecDepth 100000 in
set_option maxHeartbeats 4000000 in
theorem lB_both5 {Z : LZ} {ad : Nat → Nat} {X : CX} {K : Int32 → St → Prop} {τ0 τ : St} {t n f : Nat} {v : Int32} (B : Amb lyM Z ad (rmk 8) X cX6_both5 wsX6_both5 RX6 3 (some .int)) (hB : MB τ0 t n f τ) (hK : K v τ) : GG lyM Z ad (rmk 8) X (rI K) 5 [some (.ref (ad 0)), some (.int v), none] [] τ := by
  refine g_aload_n B dX6_both5_5 rfl ?_
  refine g_bipush (v := (97)) B dX6_both5_6 (by decide) ?_
  refine g_bipush (v := (110)) B dX6_both5_8 (by decide) ?_
  refine g_bipush (v := (100)) B dX6_both5_10 (by decide) ?_
  refine g_iconst (v := (0)) B dX6_both5_12 (by decide) ?_
  refine g_iconst (v := (0)) B dX6_both5_13 (by decide) ?_
  refine g_iconst (v := (0)) B dX6_both5_14 (by decide) ?_
  refine g_iconst (v := (0)) B dX6_both5_15 (by decide) ?_
  refine g_iconst (v := (0)) B dX6_both5_16 (by decide) ?_
  refine g_callVi (C := RX6) (As := [.int _, .int _, .int _, .int _, .int _, .int _, .int _, .int _]) B dX6_both5_17 (gc1 g_X6_180) (by rfl) ⟨rfl, hd_X6_isWord⟩ (by exact ⟨Nat.le_of_ble_eq_true rfl, Nat.le_of_ble_eq_true rfl⟩) ⟨rfl, rfl⟩ rfl rfl (by exact Nat.le_of_ble_eq_true rfl) recvM (c_keyB hB ?_)
  refine g_if_eq (tgt := 49) B dX6_both5_20 (by decide) (fun c20 => ?_) (fun c20 => ?_)
  · refine g_iload_n B dX6_both5_49 rfl ?_
    refine g_ireti B dX6_both5_50 ?_
    exact hK
  · exact absurd rfl c20
set_option maxRecDepth 100000 in
set_option maxHeartbeats 4000000 in
theorem l_both5 {Z : LZ} {ad : Nat → Nat} {X : CX} {K : Int32 → St → Prop} {τ0 : St} {t n : Nat} (B : Amb lyM Z ad (rmk 8) X cX6_both5 wsX6_both5 RX6 3 (some .int)) (hR : RB τ0 t n) : ∀ (k : Nat) (cs : List Int32) (b : Nat) (τ : St), 160 ≤ b + k → WF cs → MS τ0 t n 5 b τ → (∀ f, pLoop (pNot (tT τ0 t n) (tV τ0 t n) (pLev (tT τ0 t n) (tV τ0 t n) 0)) (opAnd (tT τ0 t n)) (k + 1) cs b = .inl f → ∀ v τ', MB τ0 t n f τ' → K v τ') → (∀ ds a2, pLoop (pNot (tT τ0 t n) (tV τ0 t n) (pLev (tT τ0 t n) (tV τ0 t n) 0)) (opAnd (tT τ0 t n)) (k + 1) cs b = .inr (ds, a2) → ∀ τ', MS τ0 t n 5 a2 τ' → K (evc (eM τ0) ds) τ') → GG lyM Z ad (rmk 8) X (rI K) 5 [some (.ref (ad 0)), some (.int (evc (eM τ0) cs)), none] [] τ := by
  intro k
  induction k using Nat.strongRecOn with
  | ind k ih =>
  intro cs b τ hk hw hM hK1 hK2
  have hn := hR.2.2.2
  unfold pLoop at hK1 hK2
  refine g_aload_n B dX6_both5_5 rfl ?_
  refine g_bipush (v := (97)) B dX6_both5_6 (by decide) ?_
  refine g_bipush (v := (110)) B dX6_both5_8 (by decide) ?_
  refine g_bipush (v := (100)) B dX6_both5_10 (by decide) ?_
  refine g_iconst (v := (0)) B dX6_both5_12 (by decide) ?_
  refine g_iconst (v := (0)) B dX6_both5_13 (by decide) ?_
  refine g_iconst (v := (0)) B dX6_both5_14 (by decide) ?_
  refine g_iconst (v := (0)) B dX6_both5_15 (by decide) ?_
  refine g_iconst (v := (0)) B dX6_both5_16 (by decide) ?_
  refine g_callVi (C := RX6) (As := [.int _, .int _, .int _, .int _, .int _, .int _, .int _, .int _]) B dX6_both5_17 (gc1 g_X6_180) (by rfl) ⟨rfl, hd_X6_isWord⟩ (by exact ⟨Nat.le_of_ble_eq_true rfl, Nat.le_of_ble_eq_true rfl⟩) ⟨rfl, rfl⟩ rfl rfl (by exact Nat.le_of_ble_eq_true rfl) recvM (c_key (c := 305) hR hM (by decide) (fun _ _ _ => wS_and) ?_)
  refine g_if_eq (tgt := 49) B dX6_both5_20 (by decide) (fun c20 => ?_) (fun c20 => ?_)
  · refine g_iload_n B dX6_both5_49 rfl ?_
    refine g_ireti B dX6_both5_50 ?_
    have hop : opAnd (tT τ0 t n) b = none := if_neg (b1_0.mp c20)
    rw [hop] at hK2
    exact hK2 _ _ rfl τ hM
  · have hT := b1_n0.mp c20
    have hop : opAnd (tT τ0 t n) b = some (-12) := if_pos hT
    have hb := tT_lt hR (show tT τ0 t n b ≠ 0 by rw [hT]; decide)
    rw [hop] at hK1 hK2
    dsimp only at hK1 hK2
    refine g_aload_n B dX6_both5_23 rfl ?_
    refine g_callVv (C := RX6) (As := []) B dX6_both5_24 (gc1 g_X6_177) (by rfl) ⟨rfl, hd_X6_next⟩ (by exact ⟨Nat.le_of_ble_eq_true rfl, Nat.le_of_ble_eq_true rfl⟩) ⟨rfl, rfl⟩ rfl rfl (by exact Nat.le_of_ble_eq_true rfl) recvM (c_nx hR hM (by rw [hT]; decide) (fun τ2 hM2 => ?_))
    refine g_aload_n B dX6_both5_27 rfl ?_
    refine g_callVi (C := RX6) (As := []) B dX6_both5_28 (gc1 g_X6_226) (by rfl) ⟨rfl, hd_X6_not5⟩ (by exact ⟨Nat.le_of_ble_eq_true rfl, Nat.le_of_ble_eq_true rfl⟩) ⟨rfl, rfl⟩ rfl rfl (by exact Nat.le_of_ble_eq_true rfl) recvM (c_not5 hR hM2 (fun f hf v8 τ8 hB8 => ?_) (fun cs2 a2 hf τ8 hM8 => ?_))
    · rw [hf] at hK1; dsimp only at hK1
      refine g_istore_n B dX6_both5_31 (by decide) rfl ?_
      refine g_iload_n B dX6_both5_32 rfl ?_
      refine g_if_eq (tgt := 44) B dX6_both5_33 (by decide) (fun c33 => ?_) (fun c33 => ?_)
      · refine g_iconst (v := (0)) B dX6_both5_44 (by decide) ?_
        refine g_istore_n B dX6_both5_45 (by decide) rfl ?_
        refine g_goto (tgt := 5) B dX6_both5_46 (by decide) ?_
        refine g_drop 2 ?_
        first
          | exact lB_both5 B hB8 (hK1 f rfl _ _ hB8)
          | (have hv : ∀ z : Int32, z = jn (-12) (evc (eM τ0) cs) (evc (eM τ0) cs2) → z = evc (eM τ0) (cs ++ cs2 ++ [-12]) := fun z h => h.trans (evc_bin hw hw2 (by decide)).symm
             first
             | rw [hv 0 (jn_and_l c33)]
             | rw [hv 0 (jn_and_r c37)]
             | rw [hv 1 (jn_and_1 c33 c37)]
             obtain ⟨k', rfl⟩ : ∃ k', k = k' + 1 := ⟨k - 1, by omega⟩
             exact ih k' (by omega) (cs ++ cs2 ++ [-12]) a2 τ8 (by omega) (hw.bin hw2 (by decide)) hM8 hK1 hK2)
      · refine g_iload_n B dX6_both5_36 rfl ?_
        refine g_if_eq (tgt := 44) B dX6_both5_37 (by decide) (fun c37 => ?_) (fun c37 => ?_)
        · refine g_iconst (v := (0)) B dX6_both5_44 (by decide) ?_
          refine g_istore_n B dX6_both5_45 (by decide) rfl ?_
          refine g_goto (tgt := 5) B dX6_both5_46 (by decide) ?_
          refine g_drop 2 ?_
          first
            | exact lB_both5 B hB8 (hK1 f rfl _ _ hB8)
            | (have hv : ∀ z : Int32, z = jn (-12) (evc (eM τ0) cs) (evc (eM τ0) cs2) → z = evc (eM τ0) (cs ++ cs2 ++ [-12]) := fun z h => h.trans (evc_bin hw hw2 (by decide)).symm
               first
               | rw [hv 0 (jn_and_l c33)]
               | rw [hv 0 (jn_and_r c37)]
               | rw [hv 1 (jn_and_1 c33 c37)]
               obtain ⟨k', rfl⟩ : ∃ k', k = k' + 1 := ⟨k - 1, by omega⟩
               exact ih k' (by omega) (cs ++ cs2 ++ [-12]) a2 τ8 (by omega) (hw.bin hw2 (by decide)) hM8 hK1 hK2)
        · refine g_iconst (v := (1)) B dX6_both5_40 (by decide) ?_
          refine g_goto (tgt := 45) B dX6_both5_41 (by decide) ?_
          refine g_istore_n B dX6_both5_45 (by decide) rfl ?_
          refine g_goto (tgt := 5) B dX6_both5_46 (by decide) ?_
          refine g_drop 2 ?_
          first
            | exact lB_both5 B hB8 (hK1 f rfl _ _ hB8)
            | (have hv : ∀ z : Int32, z = jn (-12) (evc (eM τ0) cs) (evc (eM τ0) cs2) → z = evc (eM τ0) (cs ++ cs2 ++ [-12]) := fun z h => h.trans (evc_bin hw hw2 (by decide)).symm
               first
               | rw [hv 0 (jn_and_l c33)]
               | rw [hv 0 (jn_and_r c37)]
               | rw [hv 1 (jn_and_1 c33 c37)]
               obtain ⟨k', rfl⟩ : ∃ k', k = k' + 1 := ⟨k - 1, by omega⟩
               exact ih k' (by omega) (cs ++ cs2 ++ [-12]) a2 τ8 (by omega) (hw.bin hw2 (by decide)) hM8 hK1 hK2)
    · rw [hf] at hK1 hK2; dsimp only at hK1 hK2; obtain ⟨hw2, hlt2⟩ := pNot_ok (tT_TV hR) (pLev_ok (tT_TV hR) _) _ _ _ hf
      refine g_istore_n B dX6_both5_31 (by decide) rfl ?_
      refine g_iload_n B dX6_both5_32 rfl ?_
      refine g_if_eq (tgt := 44) B dX6_both5_33 (by decide) (fun c33 => ?_) (fun c33 => ?_)
      · refine g_iconst (v := (0)) B dX6_both5_44 (by decide) ?_
        refine g_istore_n B dX6_both5_45 (by decide) rfl ?_
        refine g_goto (tgt := 5) B dX6_both5_46 (by decide) ?_
        refine g_drop 2 ?_
        first
          | exact lB_both5 B hB8 (hK1 f rfl _ _ hB8)
          | (have hv : ∀ z : Int32, z = jn (-12) (evc (eM τ0) cs) (evc (eM τ0) cs2) → z = evc (eM τ0) (cs ++ cs2 ++ [-12]) := fun z h => h.trans (evc_bin hw hw2 (by decide)).symm
             first
             | rw [hv 0 (jn_and_l c33)]
             | rw [hv 0 (jn_and_r c37)]
             | rw [hv 1 (jn_and_1 c33 c37)]
             obtain ⟨k', rfl⟩ : ∃ k', k = k' + 1 := ⟨k - 1, by omega⟩
             exact ih k' (by omega) (cs ++ cs2 ++ [-12]) a2 τ8 (by omega) (hw.bin hw2 (by decide)) hM8 hK1 hK2)
      · refine g_iload_n B dX6_both5_36 rfl ?_
        refine g_if_eq (tgt := 44) B dX6_both5_37 (by decide) (fun c37 => ?_) (fun c37 => ?_)
        · refine g_iconst (v := (0)) B dX6_both5_44 (by decide) ?_
          refine g_istore_n B dX6_both5_45 (by decide) rfl ?_
          refine g_goto (tgt := 5) B dX6_both5_46 (by decide) ?_
          refine g_drop 2 ?_
          first
            | exact lB_both5 B hB8 (hK1 f rfl _ _ hB8)
            | (have hv : ∀ z : Int32, z = jn (-12) (evc (eM τ0) cs) (evc (eM τ0) cs2) → z = evc (eM τ0) (cs ++ cs2 ++ [-12]) := fun z h => h.trans (evc_bin hw hw2 (by decide)).symm
               first
               | rw [hv 0 (jn_and_l c33)]
               | rw [hv 0 (jn_and_r c37)]
               | rw [hv 1 (jn_and_1 c33 c37)]
               obtain ⟨k', rfl⟩ : ∃ k', k = k' + 1 := ⟨k - 1, by omega⟩
               exact ih k' (by omega) (cs ++ cs2 ++ [-12]) a2 τ8 (by omega) (hw.bin hw2 (by decide)) hM8 hK1 hK2)
        · refine g_iconst (v := (1)) B dX6_both5_40 (by decide) ?_
          refine g_goto (tgt := 45) B dX6_both5_41 (by decide) ?_
          refine g_istore_n B dX6_both5_45 (by decide) rfl ?_
          refine g_goto (tgt := 5) B dX6_both5_46 (by decide) ?_
          refine g_drop 2 ?_
          first
            | exact lB_both5 B hB8 (hK1 f rfl _ _ hB8)
            | (have hv : ∀ z : Int32, z = jn (-12) (evc (eM τ0) cs) (evc (eM τ0) cs2) → z = evc (eM τ0) (cs ++ cs2 ++ [-12]) := fun z h => h.trans (evc_bin hw hw2 (by decide)).symm
               first
               | rw [hv 0 (jn_and_l c33)]
               | rw [hv 0 (jn_and_r c37)]
               | rw [hv 1 (jn_and_1 c33 c37)]
               obtain ⟨k', rfl⟩ : ∃ k', k = k' + 1 := ⟨k - 1, by omega⟩
               exact ih k' (by omega) (cs ++ cs2 ++ [-12]) a2 τ8 (by omega) (hw.bin hw2 (by decide)) hM8 hK1 hK2)
set_option maxRecDepth 100000 in
set_option maxHeartbeats 4000000 in
theorem c_both5 {Z : LZ} {ad : Nat → Nat} {τ0 τ : St} {K : Int32 → St → Prop} {t n a : Nat} (hR : RB τ0 t n) (hM : MS τ0 t n 5 a τ) (hK1 : ∀ f, pBoth (tT τ0 t n) (tV τ0 t n) (pLev (tT τ0 t n) (tV τ0 t n) 0) a = .inl f → ∀ v τ', MB τ0 t n f τ' → K v τ') (hK2 : ∀ cs a2, pBoth (tT τ0 t n) (tV τ0 t n) (pLev (tT τ0 t n) (tV τ0 t n) 0) a = .inr (cs, a2) → ∀ τ', MS τ0 t n 5 a2 τ' → K (evc (eM τ0) cs) τ') : CC lyM Z ad yX6_both5 wsX6_both5 (rmk 8) [.ref (ad 0)] τ (rI K) := by
  refine CC.of (cc := cX6_both5) (nL := 3) (ret := (some .int)) rfl rfl ⟨rfl, rfl⟩ (by exact Nat.le_of_ble_eq_true rfl) ?_
  intro X B
  change GG _ _ _ _ X _ 0 [some (.ref (ad 0)), none, none] [] _
  change Amb _ _ _ _ X _ _ RX6 _ _ at B
  unfold pBoth pSeq at hK1 hK2
  refine g_aload_n B dX6_both5_0 rfl ?_
  refine g_callVi (C := RX6) (As := []) B dX6_both5_1 (gc1 g_X6_226) (by rfl) ⟨rfl, hd_X6_not5⟩ (by exact ⟨Nat.le_of_ble_eq_true rfl, Nat.le_of_ble_eq_true rfl⟩) ⟨rfl, rfl⟩ rfl rfl (by exact Nat.le_of_ble_eq_true rfl) recvM (c_not5 hR hM (fun f hf v8 τ8 hB8 => ?_) (fun cs a1 hf τ8 hM8 => ?_))
  · rw [hf] at hK1; dsimp only at hK1
    refine g_istore_n B dX6_both5_4 (by decide) rfl ?_
    first
      | exact lB_both5 B hB8 (hK1 f rfl _ _ hB8)
      | exact l_both5 B hR 199 cs a1 τ8 (by omega) (pNot_ok (tT_TV hR) (pLev_ok (tT_TV hR) _) _ _ _ hf).1 hM8 hK1 hK2
  · rw [hf] at hK1 hK2; dsimp only at hK1 hK2
    refine g_istore_n B dX6_both5_4 (by decide) rfl ?_
    first
      | exact lB_both5 B hB8 (hK1 f rfl _ _ hB8)
      | exact l_both5 B hR 199 cs a1 τ8 (by omega) (pNot_ok (tT_TV hR) (pLev_ok (tT_TV hR) _) _ _ _ hf).1 hM8 hK1 hK2
set_option maxRecDepth 100000 in
set_option maxHeartbeats 4000000 in
theorem lB_either5 {Z : LZ} {ad : Nat → Nat} {X : CX} {K : Int32 → St → Prop} {τ0 τ : St} {t n f : Nat} {v : Int32} (B : Amb lyM Z ad (rmk 9) X cX6_either5 wsX6_either5 RX6 3 (some .int)) (hB : MB τ0 t n f τ) (hK : K v τ) : GG lyM Z ad (rmk 9) X (rI K) 5 [some (.ref (ad 0)), some (.int v), none] [] τ := by
  refine g_aload_n B dX6_either5_5 rfl ?_
  refine g_bipush (v := (111)) B dX6_either5_6 (by decide) ?_
  refine g_bipush (v := (114)) B dX6_either5_8 (by decide) ?_
  refine g_iconst (v := (0)) B dX6_either5_10 (by decide) ?_
  refine g_iconst (v := (0)) B dX6_either5_11 (by decide) ?_
  refine g_iconst (v := (0)) B dX6_either5_12 (by decide) ?_
  refine g_iconst (v := (0)) B dX6_either5_13 (by decide) ?_
  refine g_iconst (v := (0)) B dX6_either5_14 (by decide) ?_
  refine g_iconst (v := (0)) B dX6_either5_15 (by decide) ?_
  refine g_callVi (C := RX6) (As := [.int _, .int _, .int _, .int _, .int _, .int _, .int _, .int _]) B dX6_either5_16 (gc1 g_X6_180) (by rfl) ⟨rfl, hd_X6_isWord⟩ (by exact ⟨Nat.le_of_ble_eq_true rfl, Nat.le_of_ble_eq_true rfl⟩) ⟨rfl, rfl⟩ rfl rfl (by exact Nat.le_of_ble_eq_true rfl) recvM (c_keyB hB ?_)
  refine g_if_eq (tgt := 48) B dX6_either5_19 (by decide) (fun c19 => ?_) (fun c19 => ?_)
  · refine g_iload_n B dX6_either5_48 rfl ?_
    refine g_ireti B dX6_either5_49 ?_
    exact hK
  · exact absurd rfl c19
set_option maxRecDepth 100000 in
set_option maxHeartbeats 4000000 in
theorem l_either5 {Z : LZ} {ad : Nat → Nat} {X : CX} {K : Int32 → St → Prop} {τ0 : St} {t n : Nat} (B : Amb lyM Z ad (rmk 9) X cX6_either5 wsX6_either5 RX6 3 (some .int)) (hR : RB τ0 t n) : ∀ (k : Nat) (cs : List Int32) (b : Nat) (τ : St), 160 ≤ b + k → WF cs → MS τ0 t n 5 b τ → (∀ f, pLoop (pBoth (tT τ0 t n) (tV τ0 t n) (pLev (tT τ0 t n) (tV τ0 t n) 0)) (opOr (tT τ0 t n)) (k + 1) cs b = .inl f → ∀ v τ', MB τ0 t n f τ' → K v τ') → (∀ ds a2, pLoop (pBoth (tT τ0 t n) (tV τ0 t n) (pLev (tT τ0 t n) (tV τ0 t n) 0)) (opOr (tT τ0 t n)) (k + 1) cs b = .inr (ds, a2) → ∀ τ', MS τ0 t n 5 a2 τ' → K (evc (eM τ0) ds) τ') → GG lyM Z ad (rmk 9) X (rI K) 5 [some (.ref (ad 0)), some (.int (evc (eM τ0) cs)), none] [] τ := by
  intro k
  induction k using Nat.strongRecOn with
  | ind k ih =>
  intro cs b τ hk hw hM hK1 hK2
  have hn := hR.2.2.2
  unfold pLoop at hK1 hK2
  refine g_aload_n B dX6_either5_5 rfl ?_
  refine g_bipush (v := (111)) B dX6_either5_6 (by decide) ?_
  refine g_bipush (v := (114)) B dX6_either5_8 (by decide) ?_
  refine g_iconst (v := (0)) B dX6_either5_10 (by decide) ?_
  refine g_iconst (v := (0)) B dX6_either5_11 (by decide) ?_
  refine g_iconst (v := (0)) B dX6_either5_12 (by decide) ?_
  refine g_iconst (v := (0)) B dX6_either5_13 (by decide) ?_
  refine g_iconst (v := (0)) B dX6_either5_14 (by decide) ?_
  refine g_iconst (v := (0)) B dX6_either5_15 (by decide) ?_
  refine g_callVi (C := RX6) (As := [.int _, .int _, .int _, .int _, .int _, .int _, .int _, .int _]) B dX6_either5_16 (gc1 g_X6_180) (by rfl) ⟨rfl, hd_X6_isWord⟩ (by exact ⟨Nat.le_of_ble_eq_true rfl, Nat.le_of_ble_eq_true rfl⟩) ⟨rfl, rfl⟩ rfl rfl (by exact Nat.le_of_ble_eq_true rfl) recvM (c_key (c := 304) hR hM (by decide) (fun _ _ _ => wS_or) ?_)
  refine g_if_eq (tgt := 48) B dX6_either5_19 (by decide) (fun c19 => ?_) (fun c19 => ?_)
  · refine g_iload_n B dX6_either5_48 rfl ?_
    refine g_ireti B dX6_either5_49 ?_
    have hop : opOr (tT τ0 t n) b = none := if_neg (b1_0.mp c19)
    rw [hop] at hK2
    exact hK2 _ _ rfl τ hM
  · have hT := b1_n0.mp c19
    have hop : opOr (tT τ0 t n) b = some (-11) := if_pos hT
    have hb := tT_lt hR (show tT τ0 t n b ≠ 0 by rw [hT]; decide)
    rw [hop] at hK1 hK2
    dsimp only at hK1 hK2
    refine g_aload_n B dX6_either5_22 rfl ?_
    refine g_callVv (C := RX6) (As := []) B dX6_either5_23 (gc1 g_X6_177) (by rfl) ⟨rfl, hd_X6_next⟩ (by exact ⟨Nat.le_of_ble_eq_true rfl, Nat.le_of_ble_eq_true rfl⟩) ⟨rfl, rfl⟩ rfl rfl (by exact Nat.le_of_ble_eq_true rfl) recvM (c_nx hR hM (by rw [hT]; decide) (fun τ2 hM2 => ?_))
    refine g_aload_n B dX6_either5_26 rfl ?_
    refine g_callVi (C := RX6) (As := []) B dX6_either5_27 (gc1 g_X6_229) (by rfl) ⟨rfl, hd_X6_both5⟩ (by exact ⟨Nat.le_of_ble_eq_true rfl, Nat.le_of_ble_eq_true rfl⟩) ⟨rfl, rfl⟩ rfl rfl (by exact Nat.le_of_ble_eq_true rfl) recvM (c_both5 hR hM2 (fun f hf v8 τ8 hB8 => ?_) (fun cs2 a2 hf τ8 hM8 => ?_))
    · rw [hf] at hK1; dsimp only at hK1
      refine g_istore_n B dX6_either5_30 (by decide) rfl ?_
      refine g_iload_n B dX6_either5_31 rfl ?_
      refine g_if_ne (tgt := 39) B dX6_either5_32 (by decide) (fun c32 => ?_) (fun c32 => ?_)
      · refine g_iconst (v := (1)) B dX6_either5_39 (by decide) ?_
        refine g_goto (tgt := 44) B dX6_either5_40 (by decide) ?_
        refine g_istore_n B dX6_either5_44 (by decide) rfl ?_
        refine g_goto (tgt := 5) B dX6_either5_45 (by decide) ?_
        refine g_drop 2 ?_
        first
          | exact lB_either5 B hB8 (hK1 f rfl _ _ hB8)
          | (have hv : ∀ z : Int32, z = jn (-11) (evc (eM τ0) cs) (evc (eM τ0) cs2) → z = evc (eM τ0) (cs ++ cs2 ++ [-11]) := fun z h => h.trans (evc_bin hw hw2 (by decide)).symm
             first
             | rw [hv 1 (jn_or_l c32)]
             | rw [hv 0 (jn_or_0 c32 c36)]
             | rw [hv 1 (jn_or_r c36)]
             obtain ⟨k', rfl⟩ : ∃ k', k = k' + 1 := ⟨k - 1, by omega⟩
             exact ih k' (by omega) (cs ++ cs2 ++ [-11]) a2 τ8 (by omega) (hw.bin hw2 (by decide)) hM8 hK1 hK2)
      · refine g_iload_n B dX6_either5_35 rfl ?_
        refine g_if_eq (tgt := 43) B dX6_either5_36 (by decide) (fun c36 => ?_) (fun c36 => ?_)
        · refine g_iconst (v := (0)) B dX6_either5_43 (by decide) ?_
          refine g_istore_n B dX6_either5_44 (by decide) rfl ?_
          refine g_goto (tgt := 5) B dX6_either5_45 (by decide) ?_
          refine g_drop 2 ?_
          first
            | exact lB_either5 B hB8 (hK1 f rfl _ _ hB8)
            | (have hv : ∀ z : Int32, z = jn (-11) (evc (eM τ0) cs) (evc (eM τ0) cs2) → z = evc (eM τ0) (cs ++ cs2 ++ [-11]) := fun z h => h.trans (evc_bin hw hw2 (by decide)).symm
               first
               | rw [hv 1 (jn_or_l c32)]
               | rw [hv 0 (jn_or_0 c32 c36)]
               | rw [hv 1 (jn_or_r c36)]
               obtain ⟨k', rfl⟩ : ∃ k', k = k' + 1 := ⟨k - 1, by omega⟩
               exact ih k' (by omega) (cs ++ cs2 ++ [-11]) a2 τ8 (by omega) (hw.bin hw2 (by decide)) hM8 hK1 hK2)
        · refine g_iconst (v := (1)) B dX6_either5_39 (by decide) ?_
          refine g_goto (tgt := 44) B dX6_either5_40 (by decide) ?_
          refine g_istore_n B dX6_either5_44 (by decide) rfl ?_
          refine g_goto (tgt := 5) B dX6_either5_45 (by decide) ?_
          refine g_drop 2 ?_
          first
            | exact lB_either5 B hB8 (hK1 f rfl _ _ hB8)
            | (have hv : ∀ z : Int32, z = jn (-11) (evc (eM τ0) cs) (evc (eM τ0) cs2) → z = evc (eM τ0) (cs ++ cs2 ++ [-11]) := fun z h => h.trans (evc_bin hw hw2 (by decide)).symm
               first
               | rw [hv 1 (jn_or_l c32)]
               | rw [hv 0 (jn_or_0 c32 c36)]
               | rw [hv 1 (jn_or_r c36)]
               obtain ⟨k', rfl⟩ : ∃ k', k = k' + 1 := ⟨k - 1, by omega⟩
               exact ih k' (by omega) (cs ++ cs2 ++ [-11]) a2 τ8 (by omega) (hw.bin hw2 (by decide)) hM8 hK1 hK2)
    · rw [hf] at hK1 hK2; dsimp only at hK1 hK2; obtain ⟨hw2, hlt2⟩ := pBoth_ok (tT_TV hR) (pLev_ok (tT_TV hR) _) _ _ _ hf
      refine g_istore_n B dX6_either5_30 (by decide) rfl ?_
      refine g_iload_n B dX6_either5_31 rfl ?_
      refine g_if_ne (tgt := 39) B dX6_either5_32 (by decide) (fun c32 => ?_) (fun c32 => ?_)
      · refine g_iconst (v := (1)) B dX6_either5_39 (by decide) ?_
        refine g_goto (tgt := 44) B dX6_either5_40 (by decide) ?_
        refine g_istore_n B dX6_either5_44 (by decide) rfl ?_
        refine g_goto (tgt := 5) B dX6_either5_45 (by decide) ?_
        refine g_drop 2 ?_
        first
          | exact lB_either5 B hB8 (hK1 f rfl _ _ hB8)
          | (have hv : ∀ z : Int32, z = jn (-11) (evc (eM τ0) cs) (evc (eM τ0) cs2) → z = evc (eM τ0) (cs ++ cs2 ++ [-11]) := fun z h => h.trans (evc_bin hw hw2 (by decide)).symm
             first
             | rw [hv 1 (jn_or_l c32)]
             | rw [hv 0 (jn_or_0 c32 c36)]
             | rw [hv 1 (jn_or_r c36)]
             obtain ⟨k', rfl⟩ : ∃ k', k = k' + 1 := ⟨k - 1, by omega⟩
             exact ih k' (by omega) (cs ++ cs2 ++ [-11]) a2 τ8 (by omega) (hw.bin hw2 (by decide)) hM8 hK1 hK2)
      · refine g_iload_n B dX6_either5_35 rfl ?_
        refine g_if_eq (tgt := 43) B dX6_either5_36 (by decide) (fun c36 => ?_) (fun c36 => ?_)
        · refine g_iconst (v := (0)) B dX6_either5_43 (by decide) ?_
          refine g_istore_n B dX6_either5_44 (by decide) rfl ?_
          refine g_goto (tgt := 5) B dX6_either5_45 (by decide) ?_
          refine g_drop 2 ?_
          first
            | exact lB_either5 B hB8 (hK1 f rfl _ _ hB8)
            | (have hv : ∀ z : Int32, z = jn (-11) (evc (eM τ0) cs) (evc (eM τ0) cs2) → z = evc (eM τ0) (cs ++ cs2 ++ [-11]) := fun z h => h.trans (evc_bin hw hw2 (by decide)).symm
               first
               | rw [hv 1 (jn_or_l c32)]
               | rw [hv 0 (jn_or_0 c32 c36)]
               | rw [hv 1 (jn_or_r c36)]
               obtain ⟨k', rfl⟩ : ∃ k', k = k' + 1 := ⟨k - 1, by omega⟩
               exact ih k' (by omega) (cs ++ cs2 ++ [-11]) a2 τ8 (by omega) (hw.bin hw2 (by decide)) hM8 hK1 hK2)
        · refine g_iconst (v := (1)) B dX6_either5_39 (by decide) ?_
          refine g_goto (tgt := 44) B dX6_either5_40 (by decide) ?_
          refine g_istore_n B dX6_either5_44 (by decide) rfl ?_
          refine g_goto (tgt := 5) B dX6_either5_45 (by decide) ?_
          refine g_drop 2 ?_
          first
            | exact lB_either5 B hB8 (hK1 f rfl _ _ hB8)
            | (have hv : ∀ z : Int32, z = jn (-11) (evc (eM τ0) cs) (evc (eM τ0) cs2) → z = evc (eM τ0) (cs ++ cs2 ++ [-11]) := fun z h => h.trans (evc_bin hw hw2 (by decide)).symm
               first
               | rw [hv 1 (jn_or_l c32)]
               | rw [hv 0 (jn_or_0 c32 c36)]
               | rw [hv 1 (jn_or_r c36)]
               obtain ⟨k', rfl⟩ : ∃ k', k = k' + 1 := ⟨k - 1, by omega⟩
               exact ih k' (by omega) (cs ++ cs2 ++ [-11]) a2 τ8 (by omega) (hw.bin hw2 (by decide)) hM8 hK1 hK2)
set_option maxRecDepth 100000 in
set_option maxHeartbeats 4000000 in
theorem c_either5 {Z : LZ} {ad : Nat → Nat} {τ0 τ : St} {K : Int32 → St → Prop} {t n a : Nat} (hR : RB τ0 t n) (hM : MS τ0 t n 5 a τ) (hK1 : ∀ f, pEith (tT τ0 t n) (tV τ0 t n) (pLev (tT τ0 t n) (tV τ0 t n) 0) a = .inl f → ∀ v τ', MB τ0 t n f τ' → K v τ') (hK2 : ∀ cs a2, pEith (tT τ0 t n) (tV τ0 t n) (pLev (tT τ0 t n) (tV τ0 t n) 0) a = .inr (cs, a2) → ∀ τ', MS τ0 t n 5 a2 τ' → K (evc (eM τ0) cs) τ') : CC lyM Z ad yX6_either5 wsX6_either5 (rmk 9) [.ref (ad 0)] τ (rI K) := by
  refine CC.of (cc := cX6_either5) (nL := 3) (ret := (some .int)) rfl rfl ⟨rfl, rfl⟩ (by exact Nat.le_of_ble_eq_true rfl) ?_
  intro X B
  change GG _ _ _ _ X _ 0 [some (.ref (ad 0)), none, none] [] _
  change Amb _ _ _ _ X _ _ RX6 _ _ at B
  unfold pEith pSeq at hK1 hK2
  refine g_aload_n B dX6_either5_0 rfl ?_
  refine g_callVi (C := RX6) (As := []) B dX6_either5_1 (gc1 g_X6_229) (by rfl) ⟨rfl, hd_X6_both5⟩ (by exact ⟨Nat.le_of_ble_eq_true rfl, Nat.le_of_ble_eq_true rfl⟩) ⟨rfl, rfl⟩ rfl rfl (by exact Nat.le_of_ble_eq_true rfl) recvM (c_both5 hR hM (fun f hf v8 τ8 hB8 => ?_) (fun cs a1 hf τ8 hM8 => ?_))
  · rw [hf] at hK1; dsimp only at hK1
    refine g_istore_n B dX6_either5_4 (by decide) rfl ?_
    first
      | exact lB_either5 B hB8 (hK1 f rfl _ _ hB8)
      | exact l_either5 B hR 199 cs a1 τ8 (by omega) (pBoth_ok (tT_TV hR) (pLev_ok (tT_TV hR) _) _ _ _ hf).1 hM8 hK1 hK2
  · rw [hf] at hK1 hK2; dsimp only at hK1 hK2
    refine g_istore_n B dX6_either5_4 (by decide) rfl ?_
    first
      | exact lB_either5 B hB8 (hK1 f rfl _ _ hB8)
      | exact l_either5 B hR 199 cs a1 τ8 (by omega) (pBoth_ok (tT_TV hR) (pLev_ok (tT_TV hR) _) _ _ _ hf).1 hM8 hK1 hK2
set_option maxRecDepth 100000 in
set_option maxHeartbeats 4000000 in
theorem c_atom4 {Z : LZ} {ad : Nat → Nat} {τ0 τ : St} {K : Int32 → St → Prop} {t n a : Nat} (hR : RB τ0 t n) (hM : MS τ0 t n 4 a τ) (hK1 : ∀ f, pAtom (tT τ0 t n) (tV τ0 t n) (pLev (tT τ0 t n) (tV τ0 t n) 1) a = .inl f → ∀ v τ', MB τ0 t n f τ' → K v τ') (hK2 : ∀ cs a2, pAtom (tT τ0 t n) (tV τ0 t n) (pLev (tT τ0 t n) (tV τ0 t n) 1) a = .inr (cs, a2) → ∀ τ', MS τ0 t n 4 a2 τ' → K (evc (eM τ0) cs) τ') : CC lyM Z ad yX6_atom4 wsX6_atom4 (rmk 10) [.ref (ad 0)] τ (rI K) := by
  refine CC.of (cc := cX6_atom4) (nL := 2) (ret := (some .int)) rfl rfl ⟨rfl, rfl⟩ (by exact Nat.le_of_ble_eq_true rfl) ?_
  intro X B
  change GG _ _ _ _ X _ 0 [some (.ref (ad 0)), none] [] _
  change Amb _ _ _ _ X _ _ RX6 _ _ at B
  have hg : ∀ v τ', MB τ0 t n a τ' → ¬ (tT τ0 t n a = 2 ∨ tT τ0 t n a = 3) → tT τ0 t n a ≠ 45 → tT τ0 t n a ≠ 40 → K v τ' := fun v τ' hB h h2 h3 => hK1 a (by
    unfold pAtom
    rw [if_neg h, if_neg h2, if_neg h3]) v τ' hB
  have h45 : isS 45 := by decide
  have h40 : isS 40 := by decide
  refine g_iconst (v := (0)) B dX6_atom4_0 (by decide) ?_
  refine g_istore_n B dX6_atom4_1 (by decide) rfl ?_
  refine g_aload_n B dX6_atom4_2 rfl ?_
  refine g_bipush (v := (45)) B dX6_atom4_3 (by decide) ?_
  refine g_callVi (C := RX6) (As := [.int _]) B dX6_atom4_5 (gc1 g_X6_202) (by rfl) ⟨rfl, hd_X6_isSign⟩ (by exact ⟨Nat.le_of_ble_eq_true rfl, Nat.le_of_ble_eq_true rfl⟩) ⟨rfl, rfl⟩ rfl rfl (by exact Nat.le_of_ble_eq_true rfl) recvM (c_sgn hM h45 ?_)
  refine g_if_eq (tgt := 37) B dX6_atom4_8 (by decide) (fun c8 => ?_) (fun c8 => ?_)
  · refine g_aload_n B dX6_atom4_37 rfl ?_
    refine g_bipush (v := (40)) B dX6_atom4_38 (by decide) ?_
    refine g_callVi (C := RX6) (As := [.int _]) B dX6_atom4_40 (gc1 g_X6_202) (by rfl) ⟨rfl, hd_X6_isSign⟩ (by exact ⟨Nat.le_of_ble_eq_true rfl, Nat.le_of_ble_eq_true rfl⟩) ⟨rfl, rfl⟩ rfl rfl (by exact Nat.le_of_ble_eq_true rfl) recvM (c_sgn hM h40 ?_)
    refine g_if_eq (tgt := 95) B dX6_atom4_43 (by decide) (fun c43 => ?_) (fun c43 => ?_)
    · refine g_aload_n B dX6_atom4_95 rfl ?_
      refine g_getI (T := TX6) (N := 42) B dX6_atom4_96 (by decide) (by rfl) (inq inlX6) rfl 25 (by decide) (mq f_X6_161) (by rfl) ?_
      refine g_if_ne (tgt := 123) B dX6_atom4_99 (by decide) (fun c99 => ?_) (fun c99 => ?_)
      · exact absurd hM.2.1 c99
      · refine g_aload_n B dX6_atom4_102 rfl ?_
        refine g_getI (T := TX6) (N := 42) B dX6_atom4_103 (by decide) (by rfl) (inq inlX6) rfl 21 (by decide) (mq f_X6_144) (by rfl) ?_
        refine g_iconst (v := (2)) B dX6_atom4_106 (by decide) ?_
        refine g_icmp_ne (tgt := 123) B dX6_atom4_107 (by decide) (fun c107 => ?_) (fun c107 => ?_)
        · refine g_aload_n B dX6_atom4_123 rfl ?_
          refine g_getI (T := TX6) (N := 42) B dX6_atom4_124 (by decide) (by rfl) (inq inlX6) rfl 25 (by decide) (mq f_X6_161) (by rfl) ?_
          refine g_if_ne (tgt := 157) B dX6_atom4_127 (by decide) (fun c127 => ?_) (fun c127 => ?_)
          · exact absurd hM.2.1 c127
          · refine g_aload_n B dX6_atom4_130 rfl ?_
            refine g_getI (T := TX6) (N := 42) B dX6_atom4_131 (by decide) (by rfl) (inq inlX6) rfl 21 (by decide) (mq f_X6_144) (by rfl) ?_
            refine g_iconst (v := (1)) B dX6_atom4_134 (by decide) ?_
            refine g_icmp_ne (tgt := 157) B dX6_atom4_135 (by decide) (fun c135 => ?_) (fun c135 => ?_)
            · refine g_aload_n B dX6_atom4_157 rfl ?_
              refine g_callVv (C := RX6) (As := []) B dX6_atom4_158 (gc1 g_X6_174) (by rfl) ⟨rfl, hd_X6_fail⟩ (by exact ⟨Nat.le_of_ble_eq_true rfl, Nat.le_of_ble_eq_true rfl⟩) ⟨rfl, rfl⟩ rfl rfl (by exact Nat.le_of_ble_eq_true rfl) recvM (c_fl hM (fun τ9 hB9 => ?_))
              refine g_iload_n B dX6_atom4_161 rfl ?_
              refine g_ireti B dX6_atom4_162 ?_
              first
                | exact absurd hM.2.1 c99
                | exact absurd hM.2.1 c127
                | exact hg _ _ hB9 (fun h => h.elim (fun h => c107 (hM.A.num.1.mpr h)) (fun h => c135 (hM.A.wrd.1.mpr (hM.A.wrd.2.2 h)))) (b1_0.mp c8) (b1_0.mp c43)
            · refine g_aload_n B dX6_atom4_138 rfl ?_
              refine g_callVi (C := RX6) (As := []) B dX6_atom4_139 (gc1 g_X6_209) (by rfl) ⟨rfl, hd_X6_name⟩ (by exact ⟨Nat.le_of_ble_eq_true rfl, Nat.le_of_ble_eq_true rfl⟩) ⟨rfl, rfl⟩ rfl rfl (by exact Nat.le_of_ble_eq_true rfl) recvM (c_nm hR hM c135 (fun h3 => ?_) (fun h3 τ9 hB9 => ?_))
              · refine g_istore_n B dX6_atom4_142 (by decide) rfl ?_
                refine g_aload_n B dX6_atom4_143 rfl ?_
                refine g_getI (T := TX6) (N := 42) B dX6_atom4_144 (by decide) (by rfl) (inq inlX6) rfl 25 (by decide) (mq f_X6_161) (by rfl) ?_
                refine g_if_ne (tgt := 161) B dX6_atom4_147 (by decide) (fun c147 => ?_) (fun c147 => ?_)
                · exact absurd hM.2.1 c147
                · refine g_aload_n B dX6_atom4_150 rfl ?_
                  refine g_callVv (C := RX6) (As := []) B dX6_atom4_151 (gc1 g_X6_177) (by rfl) ⟨rfl, hd_X6_next⟩ (by exact ⟨Nat.le_of_ble_eq_true rfl, Nat.le_of_ble_eq_true rfl⟩) ⟨rfl, rfl⟩ rfl rfl (by exact Nat.le_of_ble_eq_true rfl) recvM (c_nx hR hM (in_or3 _ (Or.inr h3)) (fun τ9 hM9 => ?_))
                  refine g_goto (tgt := 161) B dX6_atom4_154 (by decide) ?_
                  refine g_iload_n B dX6_atom4_161 rfl ?_
                  refine g_ireti B dX6_atom4_162 ?_
                  refine kk ?_ (hK2 [tV τ0 t n a] (a + 1) (by unfold pAtom; rw [if_pos (Or.inr h3)]) τ9 hM9)
                  rw [evc_one (tT_TV hR a (Or.inr h3))]
              · refine g_istore_n B dX6_atom4_142 (by decide) rfl ?_
                refine g_aload_n B dX6_atom4_143 rfl ?_
                refine g_getI (T := TX6) (N := 42) B dX6_atom4_144 (by decide) (by rfl) (inq inlX6) rfl 25 (by decide) (mq f_X6_161) (by rfl) ?_
                refine g_if_ne (tgt := 161) B dX6_atom4_147 (by decide) (fun c147 => ?_) (fun c147 => ?_)
                · refine g_iload_n B dX6_atom4_161 rfl ?_
                  refine g_ireti B dX6_atom4_162 ?_
                  first
                    | exact absurd c15 (by decide)
                    | exact absurd c50 (by decide)
                    | exact absurd hB9.2.1 (fun h => absurd (c147.symm.trans h) (by decide))
                    | exact absurd hM.2.1 c147
                    | (refine hK1 f ?_ _ _ hB8.close
                       unfold pAtom
                       rw [if_neg (fun h => by rw [b1_n0.mp c43] at h; exact absurd h (by decide)), if_neg (b1_0.mp c8), if_pos (b1_n0.mp c43)]
                       show (match pEith (tT τ0 t n) (tV τ0 t n) (pLev (tT τ0 t n) (tV τ0 t n) 0) (a + 1) with | .inl f => _ | .inr (cs, a2) => _) = _
                       rw [hf])
                    | (refine hK1 a2 ?_ _ _ hB6.close
                       unfold pAtom
                       rw [if_neg (fun h => by rw [b1_n0.mp c43] at h; exact absurd h (by decide)), if_neg (b1_0.mp c8), if_pos (b1_n0.mp c43)]
                       show (match pEith (tT τ0 t n) (tV τ0 t n) (pLev (tT τ0 t n) (tV τ0 t n) 0) (a + 1) with | .inl f => _ | .inr (cs, a2) => _) = _
                       rw [hf]
                       show (if tT τ0 t n a2 = 41 then _ else _) = _
                       rw [if_neg (b1_0.mp c64)])
                    | exact absurd (MS.close (by decide) hM8).2.1 c85
                    | exact hg _ _ hB9 (fun h => h.elim (fun h => c107 (hM.A.num.1.mpr h)) (fun h => h3 h)) (b1_0.mp c8) (b1_0.mp c43)
                · exact absurd (c147.symm.trans hB9.2.1) (by decide)
        · refine g_aload_n B dX6_atom4_110 rfl ?_
          refine g_getL (T := TX6) (N := 42) B dX6_atom4_111 (by decide) (by rfl) (inq inlX6) rfl 23 (by decide) (mq f_X6_155) (by rfl) ?_
          refine g_l2i B dX6_atom4_114 rfl ?_
          refine g_istore_n B dX6_atom4_115 (by decide) rfl ?_
          refine g_aload_n B dX6_atom4_116 rfl ?_
          refine g_callVv (C := RX6) (As := []) B dX6_atom4_117 (gc1 g_X6_177) (by rfl) ⟨rfl, hd_X6_next⟩ (by exact ⟨Nat.le_of_ble_eq_true rfl, Nat.le_of_ble_eq_true rfl⟩) ⟨rfl, rfl⟩ rfl rfl (by exact Nat.le_of_ble_eq_true rfl) recvM (c_nx hR hM (in_or3 _ (Or.inl (hM.A.num.1.mp c107))) (fun τ9 hM9 => ?_))
          refine g_goto (tgt := 161) B dX6_atom4_120 (by decide) ?_
          refine g_iload_n B dX6_atom4_161 rfl ?_
          refine g_ireti B dX6_atom4_162 ?_
          refine kk ?_ (hK2 [tV τ0 t n a] (a + 1) (by unfold pAtom; rw [if_pos (Or.inl (hM.A.num.1.mp c107))]) τ9 hM9)
          rw [evc_one (tT_TV hR a (Or.inl (hM.A.num.1.mp c107))), opd_num (tV_num hR (hM.A.num.1.mp c107)).1]
          exact hM.A.num.2 c107
    · refine g_aload_n B dX6_atom4_46 rfl ?_
      refine g_callVi (C := RX6) (As := []) B dX6_atom4_47 (gc1 g_X6_205) (by rfl) ⟨rfl, hd_X6_opens⟩ (by exact ⟨Nat.le_of_ble_eq_true rfl, Nat.le_of_ble_eq_true rfl⟩) ⟨rfl, rfl⟩ rfl rfl (by exact Nat.le_of_ble_eq_true rfl) recvM (c_opn hR hM (by decide) (isS_0 (by rw [b1_n0.mp c43]; decide)) (fun τ7 hM7 => ?_))
      refine g_if_eq (tgt := 161) B dX6_atom4_50 (by decide) (fun c50 => ?_) (fun c50 => ?_)
      · exact absurd c50 (by decide)
      · refine g_aload_n B dX6_atom4_53 rfl ?_
        refine g_callVi (C := RX6) (As := []) B dX6_atom4_54 (gc1 g_X6_232) (by rfl) ⟨rfl, hd_X6_either5⟩ (by exact ⟨Nat.le_of_ble_eq_true rfl, Nat.le_of_ble_eq_true rfl⟩) ⟨rfl, rfl⟩ rfl rfl (by exact Nat.le_of_ble_eq_true rfl) recvM (c_either5 hR hM7 (fun f hf v8 τ8 hB8 => ?_) (fun cs a2 hf τ8 hM8 => ?_))
        · refine g_istore_n B dX6_atom4_57 (by decide) rfl ?_
          refine g_aload_n B dX6_atom4_58 rfl ?_
          refine g_bipush (v := (41)) B dX6_atom4_59 (by decide) ?_
          first
            | refine g_callVi (C := RX6) (As := [.int _]) B dX6_atom4_61 (gc1 g_X6_202) (by rfl) ⟨rfl, hd_X6_isSign⟩ (by exact ⟨Nat.le_of_ble_eq_true rfl, Nat.le_of_ble_eq_true rfl⟩) ⟨rfl, rfl⟩ rfl rfl (by exact Nat.le_of_ble_eq_true rfl) recvM (c_sgnB hB8 ?_)
            | refine g_callVi (C := RX6) (As := [.int _]) B dX6_atom4_61 (gc1 g_X6_202) (by rfl) ⟨rfl, hd_X6_isSign⟩ (by exact ⟨Nat.le_of_ble_eq_true rfl, Nat.le_of_ble_eq_true rfl⟩) ⟨rfl, rfl⟩ rfl rfl (by exact Nat.le_of_ble_eq_true rfl) recvM (c_sgn hM8 (show isS 41 by decide) ?_)
          refine g_if_ne (tgt := 71) B dX6_atom4_64 (by decide) (fun c64 => ?_) (fun c64 => ?_)
          · refine g_aload_n B dX6_atom4_71 rfl ?_
            refine g_dup B dX6_atom4_72 rfl ?_
            refine g_getI (T := TX6) (N := 42) B dX6_atom4_73 (by decide) (by rfl) (inq inlX6) rfl 24 (by decide) (mq f_X6_171) (by rfl) ?_
            refine g_iconst (v := (1)) B dX6_atom4_76 (by decide) ?_
            refine g_isub B dX6_atom4_77 ?_
            refine g_putI (T := TX6) (N := 42) B dX6_atom4_78 (by decide) (by rfl) (inq inlX6) rfl 24 (by decide) (mq f_X6_171) tyX6_ok nmX6 rfl ⟨rfl, rfl⟩ (by rfl) ?_
            refine g_aload_n B dX6_atom4_81 rfl ?_
            refine g_getI (T := TX6) (N := 42) B dX6_atom4_82 (by decide) (by rfl) (inq inlX6) rfl 25 (by decide) (mq f_X6_161) (by rfl) ?_
            refine g_if_ne (tgt := 161) B dX6_atom4_85 (by decide) (fun c85 => ?_) (fun c85 => ?_)
            · refine g_iload_n B dX6_atom4_161 rfl ?_
              refine g_ireti B dX6_atom4_162 ?_
              first
                | exact absurd c15 (by decide)
                | exact absurd c50 (by decide)
                | exact absurd hB9.2.1 (fun h => absurd (c147.symm.trans h) (by decide))
                | exact absurd hM.2.1 c147
                | (refine hK1 f ?_ _ _ hB8.close
                   unfold pAtom
                   rw [if_neg (fun h => by rw [b1_n0.mp c43] at h; exact absurd h (by decide)), if_neg (b1_0.mp c8), if_pos (b1_n0.mp c43)]
                   show (match pEith (tT τ0 t n) (tV τ0 t n) (pLev (tT τ0 t n) (tV τ0 t n) 0) (a + 1) with | .inl f => _ | .inr (cs, a2) => _) = _
                   rw [hf])
                | (refine hK1 a2 ?_ _ _ hB6.close
                   unfold pAtom
                   rw [if_neg (fun h => by rw [b1_n0.mp c43] at h; exact absurd h (by decide)), if_neg (b1_0.mp c8), if_pos (b1_n0.mp c43)]
                   show (match pEith (tT τ0 t n) (tV τ0 t n) (pLev (tT τ0 t n) (tV τ0 t n) 0) (a + 1) with | .inl f => _ | .inr (cs, a2) => _) = _
                   rw [hf]
                   show (if tT τ0 t n a2 = 41 then _ else _) = _
                   rw [if_neg (b1_0.mp c64)])
                | exact absurd (MS.close (by decide) hM8).2.1 c85
                | exact hg _ _ hB9 (fun h => h.elim (fun h => c107 (hM.A.num.1.mpr h)) (fun h => h3 h)) (b1_0.mp c8) (b1_0.mp c43)
            · first
                | exact absurd (c85.symm.trans hB8.close.2.1) (by decide)
                | exact absurd (c85.symm.trans hB6.close.2.1) (by decide)
                | (refine g_aload_n B dX6_atom4_88 rfl ?_
                   refine g_callVv (C := RX6) (As := []) B dX6_atom4_89 (gc1 g_X6_177) (by rfl) ⟨rfl, hd_X6_next⟩ (by exact ⟨Nat.le_of_ble_eq_true rfl, Nat.le_of_ble_eq_true rfl⟩) ⟨rfl, rfl⟩ rfl rfl (by exact Nat.le_of_ble_eq_true rfl) recvM (c_nx hR (MS.close (by decide) hM8) (isS_0 (by rw [b1_n0.mp c64]; decide)) (fun τ9 hM9 => ?_))
                   refine g_goto (tgt := 161) B dX6_atom4_92 (by decide) ?_
                   refine g_iload_n B dX6_atom4_161 rfl ?_
                   refine g_ireti B dX6_atom4_162 ?_
                   refine hK2 cs (a2 + 1) ?_ _ hM9
                   unfold pAtom
                   rw [if_neg (fun h => by rw [b1_n0.mp c43] at h; exact absurd h (by decide)), if_neg (b1_0.mp c8), if_pos (b1_n0.mp c43)]
                   show (match pEith (tT τ0 t n) (tV τ0 t n) (pLev (tT τ0 t n) (tV τ0 t n) 0) (a + 1) with | .inl f => _ | .inr (cs, a2) => _) = _
                   rw [hf]
                   show (if tT τ0 t n a2 = 41 then _ else _) = _
                   rw [if_pos (b1_n0.mp c64)])
          · refine g_aload_n B dX6_atom4_67 rfl ?_
            first
              | refine g_callVv (C := RX6) (As := []) B dX6_atom4_68 (gc1 g_X6_174) (by rfl) ⟨rfl, hd_X6_fail⟩ (by exact ⟨Nat.le_of_ble_eq_true rfl, Nat.le_of_ble_eq_true rfl⟩) ⟨rfl, rfl⟩ rfl rfl (by exact Nat.le_of_ble_eq_true rfl) recvM (c_flB hB8 ?_)
              | refine g_callVv (C := RX6) (As := []) B dX6_atom4_68 (gc1 g_X6_174) (by rfl) ⟨rfl, hd_X6_fail⟩ (by exact ⟨Nat.le_of_ble_eq_true rfl, Nat.le_of_ble_eq_true rfl⟩) ⟨rfl, rfl⟩ rfl rfl (by exact Nat.le_of_ble_eq_true rfl) recvM (c_fl hM8 (fun τ6 hB6 => ?_))
            refine g_aload_n B dX6_atom4_71 rfl ?_
            refine g_dup B dX6_atom4_72 rfl ?_
            refine g_getI (T := TX6) (N := 42) B dX6_atom4_73 (by decide) (by rfl) (inq inlX6) rfl 24 (by decide) (mq f_X6_171) (by rfl) ?_
            refine g_iconst (v := (1)) B dX6_atom4_76 (by decide) ?_
            refine g_isub B dX6_atom4_77 ?_
            refine g_putI (T := TX6) (N := 42) B dX6_atom4_78 (by decide) (by rfl) (inq inlX6) rfl 24 (by decide) (mq f_X6_171) tyX6_ok nmX6 rfl ⟨rfl, rfl⟩ (by rfl) ?_
            refine g_aload_n B dX6_atom4_81 rfl ?_
            refine g_getI (T := TX6) (N := 42) B dX6_atom4_82 (by decide) (by rfl) (inq inlX6) rfl 25 (by decide) (mq f_X6_161) (by rfl) ?_
            refine g_if_ne (tgt := 161) B dX6_atom4_85 (by decide) (fun c85 => ?_) (fun c85 => ?_)
            · refine g_iload_n B dX6_atom4_161 rfl ?_
              refine g_ireti B dX6_atom4_162 ?_
              first
                | exact absurd c15 (by decide)
                | exact absurd c50 (by decide)
                | exact absurd hB9.2.1 (fun h => absurd (c147.symm.trans h) (by decide))
                | exact absurd hM.2.1 c147
                | (refine hK1 f ?_ _ _ hB8.close
                   unfold pAtom
                   rw [if_neg (fun h => by rw [b1_n0.mp c43] at h; exact absurd h (by decide)), if_neg (b1_0.mp c8), if_pos (b1_n0.mp c43)]
                   show (match pEith (tT τ0 t n) (tV τ0 t n) (pLev (tT τ0 t n) (tV τ0 t n) 0) (a + 1) with | .inl f => _ | .inr (cs, a2) => _) = _
                   rw [hf])
                | (refine hK1 a2 ?_ _ _ hB6.close
                   unfold pAtom
                   rw [if_neg (fun h => by rw [b1_n0.mp c43] at h; exact absurd h (by decide)), if_neg (b1_0.mp c8), if_pos (b1_n0.mp c43)]
                   show (match pEith (tT τ0 t n) (tV τ0 t n) (pLev (tT τ0 t n) (tV τ0 t n) 0) (a + 1) with | .inl f => _ | .inr (cs, a2) => _) = _
                   rw [hf]
                   show (if tT τ0 t n a2 = 41 then _ else _) = _
                   rw [if_neg (b1_0.mp c64)])
                | exact absurd (MS.close (by decide) hM8).2.1 c85
                | exact hg _ _ hB9 (fun h => h.elim (fun h => c107 (hM.A.num.1.mpr h)) (fun h => h3 h)) (b1_0.mp c8) (b1_0.mp c43)
            · first
                | exact absurd (c85.symm.trans hB8.close.2.1) (by decide)
                | exact absurd (c85.symm.trans hB6.close.2.1) (by decide)
                | (refine g_aload_n B dX6_atom4_88 rfl ?_
                   refine g_callVv (C := RX6) (As := []) B dX6_atom4_89 (gc1 g_X6_177) (by rfl) ⟨rfl, hd_X6_next⟩ (by exact ⟨Nat.le_of_ble_eq_true rfl, Nat.le_of_ble_eq_true rfl⟩) ⟨rfl, rfl⟩ rfl rfl (by exact Nat.le_of_ble_eq_true rfl) recvM (c_nx hR (MS.close (by decide) hM8) (isS_0 (by rw [b1_n0.mp c64]; decide)) (fun τ9 hM9 => ?_))
                   refine g_goto (tgt := 161) B dX6_atom4_92 (by decide) ?_
                   refine g_iload_n B dX6_atom4_161 rfl ?_
                   refine g_ireti B dX6_atom4_162 ?_
                   refine hK2 cs (a2 + 1) ?_ _ hM9
                   unfold pAtom
                   rw [if_neg (fun h => by rw [b1_n0.mp c43] at h; exact absurd h (by decide)), if_neg (b1_0.mp c8), if_pos (b1_n0.mp c43)]
                   show (match pEith (tT τ0 t n) (tV τ0 t n) (pLev (tT τ0 t n) (tV τ0 t n) 0) (a + 1) with | .inl f => _ | .inr (cs, a2) => _) = _
                   rw [hf]
                   show (if tT τ0 t n a2 = 41 then _ else _) = _
                   rw [if_pos (b1_n0.mp c64)])
        · refine g_istore_n B dX6_atom4_57 (by decide) rfl ?_
          refine g_aload_n B dX6_atom4_58 rfl ?_
          refine g_bipush (v := (41)) B dX6_atom4_59 (by decide) ?_
          first
            | refine g_callVi (C := RX6) (As := [.int _]) B dX6_atom4_61 (gc1 g_X6_202) (by rfl) ⟨rfl, hd_X6_isSign⟩ (by exact ⟨Nat.le_of_ble_eq_true rfl, Nat.le_of_ble_eq_true rfl⟩) ⟨rfl, rfl⟩ rfl rfl (by exact Nat.le_of_ble_eq_true rfl) recvM (c_sgnB hB8 ?_)
            | refine g_callVi (C := RX6) (As := [.int _]) B dX6_atom4_61 (gc1 g_X6_202) (by rfl) ⟨rfl, hd_X6_isSign⟩ (by exact ⟨Nat.le_of_ble_eq_true rfl, Nat.le_of_ble_eq_true rfl⟩) ⟨rfl, rfl⟩ rfl rfl (by exact Nat.le_of_ble_eq_true rfl) recvM (c_sgn hM8 (show isS 41 by decide) ?_)
          refine g_if_ne (tgt := 71) B dX6_atom4_64 (by decide) (fun c64 => ?_) (fun c64 => ?_)
          · refine g_aload_n B dX6_atom4_71 rfl ?_
            refine g_dup B dX6_atom4_72 rfl ?_
            refine g_getI (T := TX6) (N := 42) B dX6_atom4_73 (by decide) (by rfl) (inq inlX6) rfl 24 (by decide) (mq f_X6_171) (by rfl) ?_
            refine g_iconst (v := (1)) B dX6_atom4_76 (by decide) ?_
            refine g_isub B dX6_atom4_77 ?_
            refine g_putI (T := TX6) (N := 42) B dX6_atom4_78 (by decide) (by rfl) (inq inlX6) rfl 24 (by decide) (mq f_X6_171) tyX6_ok nmX6 rfl ⟨rfl, rfl⟩ (by rfl) ?_
            refine g_aload_n B dX6_atom4_81 rfl ?_
            refine g_getI (T := TX6) (N := 42) B dX6_atom4_82 (by decide) (by rfl) (inq inlX6) rfl 25 (by decide) (mq f_X6_161) (by rfl) ?_
            refine g_if_ne (tgt := 161) B dX6_atom4_85 (by decide) (fun c85 => ?_) (fun c85 => ?_)
            · refine g_iload_n B dX6_atom4_161 rfl ?_
              refine g_ireti B dX6_atom4_162 ?_
              first
                | exact absurd c15 (by decide)
                | exact absurd c50 (by decide)
                | exact absurd hB9.2.1 (fun h => absurd (c147.symm.trans h) (by decide))
                | exact absurd hM.2.1 c147
                | (refine hK1 f ?_ _ _ hB8.close
                   unfold pAtom
                   rw [if_neg (fun h => by rw [b1_n0.mp c43] at h; exact absurd h (by decide)), if_neg (b1_0.mp c8), if_pos (b1_n0.mp c43)]
                   show (match pEith (tT τ0 t n) (tV τ0 t n) (pLev (tT τ0 t n) (tV τ0 t n) 0) (a + 1) with | .inl f => _ | .inr (cs, a2) => _) = _
                   rw [hf])
                | (refine hK1 a2 ?_ _ _ hB6.close
                   unfold pAtom
                   rw [if_neg (fun h => by rw [b1_n0.mp c43] at h; exact absurd h (by decide)), if_neg (b1_0.mp c8), if_pos (b1_n0.mp c43)]
                   show (match pEith (tT τ0 t n) (tV τ0 t n) (pLev (tT τ0 t n) (tV τ0 t n) 0) (a + 1) with | .inl f => _ | .inr (cs, a2) => _) = _
                   rw [hf]
                   show (if tT τ0 t n a2 = 41 then _ else _) = _
                   rw [if_neg (b1_0.mp c64)])
                | exact absurd (MS.close (by decide) hM8).2.1 c85
                | exact hg _ _ hB9 (fun h => h.elim (fun h => c107 (hM.A.num.1.mpr h)) (fun h => h3 h)) (b1_0.mp c8) (b1_0.mp c43)
            · first
                | exact absurd (c85.symm.trans hB8.close.2.1) (by decide)
                | exact absurd (c85.symm.trans hB6.close.2.1) (by decide)
                | (refine g_aload_n B dX6_atom4_88 rfl ?_
                   refine g_callVv (C := RX6) (As := []) B dX6_atom4_89 (gc1 g_X6_177) (by rfl) ⟨rfl, hd_X6_next⟩ (by exact ⟨Nat.le_of_ble_eq_true rfl, Nat.le_of_ble_eq_true rfl⟩) ⟨rfl, rfl⟩ rfl rfl (by exact Nat.le_of_ble_eq_true rfl) recvM (c_nx hR (MS.close (by decide) hM8) (isS_0 (by rw [b1_n0.mp c64]; decide)) (fun τ9 hM9 => ?_))
                   refine g_goto (tgt := 161) B dX6_atom4_92 (by decide) ?_
                   refine g_iload_n B dX6_atom4_161 rfl ?_
                   refine g_ireti B dX6_atom4_162 ?_
                   refine hK2 cs (a2 + 1) ?_ _ hM9
                   unfold pAtom
                   rw [if_neg (fun h => by rw [b1_n0.mp c43] at h; exact absurd h (by decide)), if_neg (b1_0.mp c8), if_pos (b1_n0.mp c43)]
                   show (match pEith (tT τ0 t n) (tV τ0 t n) (pLev (tT τ0 t n) (tV τ0 t n) 0) (a + 1) with | .inl f => _ | .inr (cs, a2) => _) = _
                   rw [hf]
                   show (if tT τ0 t n a2 = 41 then _ else _) = _
                   rw [if_pos (b1_n0.mp c64)])
          · refine g_aload_n B dX6_atom4_67 rfl ?_
            first
              | refine g_callVv (C := RX6) (As := []) B dX6_atom4_68 (gc1 g_X6_174) (by rfl) ⟨rfl, hd_X6_fail⟩ (by exact ⟨Nat.le_of_ble_eq_true rfl, Nat.le_of_ble_eq_true rfl⟩) ⟨rfl, rfl⟩ rfl rfl (by exact Nat.le_of_ble_eq_true rfl) recvM (c_flB hB8 ?_)
              | refine g_callVv (C := RX6) (As := []) B dX6_atom4_68 (gc1 g_X6_174) (by rfl) ⟨rfl, hd_X6_fail⟩ (by exact ⟨Nat.le_of_ble_eq_true rfl, Nat.le_of_ble_eq_true rfl⟩) ⟨rfl, rfl⟩ rfl rfl (by exact Nat.le_of_ble_eq_true rfl) recvM (c_fl hM8 (fun τ6 hB6 => ?_))
            refine g_aload_n B dX6_atom4_71 rfl ?_
            refine g_dup B dX6_atom4_72 rfl ?_
            refine g_getI (T := TX6) (N := 42) B dX6_atom4_73 (by decide) (by rfl) (inq inlX6) rfl 24 (by decide) (mq f_X6_171) (by rfl) ?_
            refine g_iconst (v := (1)) B dX6_atom4_76 (by decide) ?_
            refine g_isub B dX6_atom4_77 ?_
            refine g_putI (T := TX6) (N := 42) B dX6_atom4_78 (by decide) (by rfl) (inq inlX6) rfl 24 (by decide) (mq f_X6_171) tyX6_ok nmX6 rfl ⟨rfl, rfl⟩ (by rfl) ?_
            refine g_aload_n B dX6_atom4_81 rfl ?_
            refine g_getI (T := TX6) (N := 42) B dX6_atom4_82 (by decide) (by rfl) (inq inlX6) rfl 25 (by decide) (mq f_X6_161) (by rfl) ?_
            refine g_if_ne (tgt := 161) B dX6_atom4_85 (by decide) (fun c85 => ?_) (fun c85 => ?_)
            · refine g_iload_n B dX6_atom4_161 rfl ?_
              refine g_ireti B dX6_atom4_162 ?_
              first
                | exact absurd c15 (by decide)
                | exact absurd c50 (by decide)
                | exact absurd hB9.2.1 (fun h => absurd (c147.symm.trans h) (by decide))
                | exact absurd hM.2.1 c147
                | (refine hK1 f ?_ _ _ hB8.close
                   unfold pAtom
                   rw [if_neg (fun h => by rw [b1_n0.mp c43] at h; exact absurd h (by decide)), if_neg (b1_0.mp c8), if_pos (b1_n0.mp c43)]
                   show (match pEith (tT τ0 t n) (tV τ0 t n) (pLev (tT τ0 t n) (tV τ0 t n) 0) (a + 1) with | .inl f => _ | .inr (cs, a2) => _) = _
                   rw [hf])
                | (refine hK1 a2 ?_ _ _ hB6.close
                   unfold pAtom
                   rw [if_neg (fun h => by rw [b1_n0.mp c43] at h; exact absurd h (by decide)), if_neg (b1_0.mp c8), if_pos (b1_n0.mp c43)]
                   show (match pEith (tT τ0 t n) (tV τ0 t n) (pLev (tT τ0 t n) (tV τ0 t n) 0) (a + 1) with | .inl f => _ | .inr (cs, a2) => _) = _
                   rw [hf]
                   show (if tT τ0 t n a2 = 41 then _ else _) = _
                   rw [if_neg (b1_0.mp c64)])
                | exact absurd (MS.close (by decide) hM8).2.1 c85
                | exact hg _ _ hB9 (fun h => h.elim (fun h => c107 (hM.A.num.1.mpr h)) (fun h => h3 h)) (b1_0.mp c8) (b1_0.mp c43)
            · first
                | exact absurd (c85.symm.trans hB8.close.2.1) (by decide)
                | exact absurd (c85.symm.trans hB6.close.2.1) (by decide)
                | (refine g_aload_n B dX6_atom4_88 rfl ?_
                   refine g_callVv (C := RX6) (As := []) B dX6_atom4_89 (gc1 g_X6_177) (by rfl) ⟨rfl, hd_X6_next⟩ (by exact ⟨Nat.le_of_ble_eq_true rfl, Nat.le_of_ble_eq_true rfl⟩) ⟨rfl, rfl⟩ rfl rfl (by exact Nat.le_of_ble_eq_true rfl) recvM (c_nx hR (MS.close (by decide) hM8) (isS_0 (by rw [b1_n0.mp c64]; decide)) (fun τ9 hM9 => ?_))
                   refine g_goto (tgt := 161) B dX6_atom4_92 (by decide) ?_
                   refine g_iload_n B dX6_atom4_161 rfl ?_
                   refine g_ireti B dX6_atom4_162 ?_
                   refine hK2 cs (a2 + 1) ?_ _ hM9
                   unfold pAtom
                   rw [if_neg (fun h => by rw [b1_n0.mp c43] at h; exact absurd h (by decide)), if_neg (b1_0.mp c8), if_pos (b1_n0.mp c43)]
                   show (match pEith (tT τ0 t n) (tV τ0 t n) (pLev (tT τ0 t n) (tV τ0 t n) 0) (a + 1) with | .inl f => _ | .inr (cs, a2) => _) = _
                   rw [hf]
                   show (if tT τ0 t n a2 = 41 then _ else _) = _
                   rw [if_pos (b1_n0.mp c64)])
  · refine g_aload_n B dX6_atom4_11 rfl ?_
    refine g_callVi (C := RX6) (As := []) B dX6_atom4_12 (gc1 g_X6_205) (by rfl) ⟨rfl, hd_X6_opens⟩ (by exact ⟨Nat.le_of_ble_eq_true rfl, Nat.le_of_ble_eq_true rfl⟩) ⟨rfl, rfl⟩ rfl rfl (by exact Nat.le_of_ble_eq_true rfl) recvM (c_opn hR hM (by decide) (isS_0 (by rw [b1_n0.mp c8]; decide)) (fun τ7 hM7 => ?_))
    refine g_if_eq (tgt := 161) B dX6_atom4_15 (by decide) (fun c15 => ?_) (fun c15 => ?_)
    · exact absurd c15 (by decide)
    · refine g_aload_n B dX6_atom4_18 rfl ?_
      refine g_callVi (C := RX6) (As := []) B dX6_atom4_19 (gc1 g_X6_213) (by rfl) ⟨rfl, hd_X6_atom5⟩ (by exact ⟨Nat.le_of_ble_eq_true rfl, Nat.le_of_ble_eq_true rfl⟩) ⟨rfl, rfl⟩ rfl rfl (by exact Nat.le_of_ble_eq_true rfl) recvM (c_atom5 hR hM7 (fun f hf v8 τ8 hB8 => ?_) (fun cs a2 hf τ8 hM8 => ?_))
      · refine g_ineg B dX6_atom4_22 ?_
        refine g_istore_n B dX6_atom4_23 (by decide) rfl ?_
        refine g_aload_n B dX6_atom4_24 rfl ?_
        refine g_dup B dX6_atom4_25 rfl ?_
        refine g_getI (T := TX6) (N := 42) B dX6_atom4_26 (by decide) (by rfl) (inq inlX6) rfl 24 (by decide) (mq f_X6_171) (by rfl) ?_
        refine g_iconst (v := (1)) B dX6_atom4_29 (by decide) ?_
        refine g_isub B dX6_atom4_30 ?_
        refine g_putI (T := TX6) (N := 42) B dX6_atom4_31 (by decide) (by rfl) (inq inlX6) rfl 24 (by decide) (mq f_X6_171) tyX6_ok nmX6 rfl ⟨rfl, rfl⟩ (by rfl) ?_
        refine g_goto (tgt := 161) B dX6_atom4_34 (by decide) ?_
        refine g_iload_n B dX6_atom4_161 rfl ?_
        refine g_ireti B dX6_atom4_162 ?_
        first
          | (refine hK1 f ?_ _ _ hB8.close
             unfold pAtom
             rw [if_neg (fun h => by rw [b1_n0.mp c8] at h; exact absurd h (by decide)), if_pos (b1_n0.mp c8)]
             show (match pAtom (tT τ0 t n) (tV τ0 t n) (pLev (tT τ0 t n) (tV τ0 t n) 0) (a + 1) with | .inl f => _ | .inr (cs, a2) => _) = _
             rw [hf])
          | (refine kk ?_ (hK2 (cs ++ [-22]) a2 (by
               unfold pAtom
               rw [if_neg (fun h => by rw [b1_n0.mp c8] at h; exact absurd h (by decide)), if_pos (b1_n0.mp c8)]
               show (match pAtom (tT τ0 t n) (tV τ0 t n) (pLev (tT τ0 t n) (tV τ0 t n) 0) (a + 1) with | .inl f => _ | .inr (cs, a2) => _) = _
               rw [hf]) _ (MS.close (by decide) hM8))
             exact (evc_neg (pAtom_ok (tT_TV hR) (pLev_ok (tT_TV hR) _) _ _ _ hf).1).symm)
      · refine g_ineg B dX6_atom4_22 ?_
        refine g_istore_n B dX6_atom4_23 (by decide) rfl ?_
        refine g_aload_n B dX6_atom4_24 rfl ?_
        refine g_dup B dX6_atom4_25 rfl ?_
        refine g_getI (T := TX6) (N := 42) B dX6_atom4_26 (by decide) (by rfl) (inq inlX6) rfl 24 (by decide) (mq f_X6_171) (by rfl) ?_
        refine g_iconst (v := (1)) B dX6_atom4_29 (by decide) ?_
        refine g_isub B dX6_atom4_30 ?_
        refine g_putI (T := TX6) (N := 42) B dX6_atom4_31 (by decide) (by rfl) (inq inlX6) rfl 24 (by decide) (mq f_X6_171) tyX6_ok nmX6 rfl ⟨rfl, rfl⟩ (by rfl) ?_
        refine g_goto (tgt := 161) B dX6_atom4_34 (by decide) ?_
        refine g_iload_n B dX6_atom4_161 rfl ?_
        refine g_ireti B dX6_atom4_162 ?_
        first
          | (refine hK1 f ?_ _ _ hB8.close
             unfold pAtom
             rw [if_neg (fun h => by rw [b1_n0.mp c8] at h; exact absurd h (by decide)), if_pos (b1_n0.mp c8)]
             show (match pAtom (tT τ0 t n) (tV τ0 t n) (pLev (tT τ0 t n) (tV τ0 t n) 0) (a + 1) with | .inl f => _ | .inr (cs, a2) => _) = _
             rw [hf])
          | (refine kk ?_ (hK2 (cs ++ [-22]) a2 (by
               unfold pAtom
               rw [if_neg (fun h => by rw [b1_n0.mp c8] at h; exact absurd h (by decide)), if_pos (b1_n0.mp c8)]
               show (match pAtom (tT τ0 t n) (tV τ0 t n) (pLev (tT τ0 t n) (tV τ0 t n) 0) (a + 1) with | .inl f => _ | .inr (cs, a2) => _) = _
               rw [hf]) _ (MS.close (by decide) hM8))
             exact (evc_neg (pAtom_ok (tT_TV hR) (pLev_ok (tT_TV hR) _) _ _ _ hf).1).symm)
set_option maxRecDepth 100000 in
set_option maxHeartbeats 4000000 in
theorem lB_term4 {Z : LZ} {ad : Nat → Nat} {X : CX} {K : Int32 → St → Prop} {τ0 τ : St} {t n f : Nat} {v : Int32} (B : Amb lyM Z ad (rmk 11) X cX6_term4 wsX6_term4 RX6 2 (some .int)) (hB : MB τ0 t n f τ) (hK : K v τ) : GG lyM Z ad (rmk 11) X (rI K) 5 [some (.ref (ad 0)), some (.int v)] [] τ := by
  refine g_aload_n B dX6_term4_5 rfl ?_
  refine g_bipush (v := (42)) B dX6_term4_6 (by decide) ?_
  refine g_callVi (C := RX6) (As := [.int _]) B dX6_term4_8 (gc1 g_X6_202) (by rfl) ⟨rfl, hd_X6_isSign⟩ (by exact ⟨Nat.le_of_ble_eq_true rfl, Nat.le_of_ble_eq_true rfl⟩) ⟨rfl, rfl⟩ rfl rfl (by exact Nat.le_of_ble_eq_true rfl) recvM (c_sgnB hB ?_)
  refine g_if_eq (tgt := 28) B dX6_term4_11 (by decide) (fun c11 => ?_) (fun c11 => ?_)
  · refine g_iload_n B dX6_term4_28 rfl ?_
    refine g_ireti B dX6_term4_29 ?_
    exact hK
  · exact absurd rfl c11
set_option maxRecDepth 100000 in
set_option maxHeartbeats 4000000 in
theorem l_term4 {Z : LZ} {ad : Nat → Nat} {X : CX} {K : Int32 → St → Prop} {τ0 : St} {t n : Nat} (B : Amb lyM Z ad (rmk 11) X cX6_term4 wsX6_term4 RX6 2 (some .int)) (hR : RB τ0 t n) : ∀ (k : Nat) (cs : List Int32) (b : Nat) (τ : St), 160 ≤ b + k → WF cs → MS τ0 t n 4 b τ → (∀ f, pLoop (pAtom (tT τ0 t n) (tV τ0 t n) (pLev (tT τ0 t n) (tV τ0 t n) 1)) (opMul (tT τ0 t n)) (k + 1) cs b = .inl f → ∀ v τ', MB τ0 t n f τ' → K v τ') → (∀ ds a2, pLoop (pAtom (tT τ0 t n) (tV τ0 t n) (pLev (tT τ0 t n) (tV τ0 t n) 1)) (opMul (tT τ0 t n)) (k + 1) cs b = .inr (ds, a2) → ∀ τ', MS τ0 t n 4 a2 τ' → K (evc (eM τ0) ds) τ') → GG lyM Z ad (rmk 11) X (rI K) 5 [some (.ref (ad 0)), some (.int (evc (eM τ0) cs))] [] τ := by
  intro k
  induction k using Nat.strongRecOn with
  | ind k ih =>
  intro cs b τ hk hw hM hK1 hK2
  have hn := hR.2.2.2
  unfold pLoop at hK1 hK2
  refine g_aload_n B dX6_term4_5 rfl ?_
  refine g_bipush (v := (42)) B dX6_term4_6 (by decide) ?_
  refine g_callVi (C := RX6) (As := [.int _]) B dX6_term4_8 (gc1 g_X6_202) (by rfl) ⟨rfl, hd_X6_isSign⟩ (by exact ⟨Nat.le_of_ble_eq_true rfl, Nat.le_of_ble_eq_true rfl⟩) ⟨rfl, rfl⟩ rfl rfl (by exact Nat.le_of_ble_eq_true rfl) recvM (c_sgn hM (show isS 42 by decide) ?_)
  refine g_if_eq (tgt := 28) B dX6_term4_11 (by decide) (fun c11 => ?_) (fun c11 => ?_)
  · refine g_iload_n B dX6_term4_28 rfl ?_
    refine g_ireti B dX6_term4_29 ?_
    have hop : opMul (tT τ0 t n) b = none := if_neg (b1_0.mp c11)
    rw [hop] at hK2
    exact hK2 _ _ rfl τ hM
  · have hT := b1_n0.mp c11
    have hop : opMul (tT τ0 t n) b = some (-17) := if_pos hT
    have hb := tT_lt hR (show tT τ0 t n b ≠ 0 by rw [hT]; decide)
    rw [hop] at hK1 hK2
    dsimp only at hK1 hK2
    refine g_aload_n B dX6_term4_14 rfl ?_
    refine g_callVv (C := RX6) (As := []) B dX6_term4_15 (gc1 g_X6_177) (by rfl) ⟨rfl, hd_X6_next⟩ (by exact ⟨Nat.le_of_ble_eq_true rfl, Nat.le_of_ble_eq_true rfl⟩) ⟨rfl, rfl⟩ rfl rfl (by exact Nat.le_of_ble_eq_true rfl) recvM (c_nx hR hM (isS_0 (by rw [hT]; decide)) (fun τ2 hM2 => ?_))
    refine g_iload_n B dX6_term4_18 rfl ?_
    refine g_aload_n B dX6_term4_19 rfl ?_
    refine g_callVi (C := RX6) (As := []) B dX6_term4_20 (gc1 g_X6_235) (by rfl) ⟨rfl, hd_X6_atom4⟩ (by exact ⟨Nat.le_of_ble_eq_true rfl, Nat.le_of_ble_eq_true rfl⟩) ⟨rfl, rfl⟩ rfl rfl (by exact Nat.le_of_ble_eq_true rfl) recvM (c_atom4 hR hM2 (fun f hf v8 τ8 hB8 => ?_) (fun cs2 a2 hf τ8 hM8 => ?_))
    · rw [hf] at hK1; dsimp only at hK1
      refine g_imul B dX6_term4_23 ?_
      refine g_istore_n B dX6_term4_24 (by decide) rfl ?_
      refine g_goto (tgt := 5) B dX6_term4_25 (by decide) ?_
      first
        | exact lB_term4 B hB8 (hK1 f rfl _ _ hB8)
        | (rw [evc_mul hw hw2]
           obtain ⟨k', rfl⟩ : ∃ k', k = k' + 1 := ⟨k - 1, by omega⟩
           exact ih k' (by omega) (cs ++ cs2 ++ [-17]) a2 τ8 (by omega) (hw.bin hw2 (by decide)) hM8 hK1 hK2)
    · rw [hf] at hK1 hK2; dsimp only at hK1 hK2; obtain ⟨hw2, hlt2⟩ := pAtom_ok (tT_TV hR) (pLev_ok (tT_TV hR) _) _ _ _ hf
      refine g_imul B dX6_term4_23 ?_
      refine g_istore_n B dX6_term4_24 (by decide) rfl ?_
      refine g_goto (tgt := 5) B dX6_term4_25 (by decide) ?_
      first
        | exact lB_term4 B hB8 (hK1 f rfl _ _ hB8)
        | (rw [evc_mul hw hw2]
           obtain ⟨k', rfl⟩ : ∃ k', k = k' + 1 := ⟨k - 1, by omega⟩
           exact ih k' (by omega) (cs ++ cs2 ++ [-17]) a2 τ8 (by omega) (hw.bin hw2 (by decide)) hM8 hK1 hK2)
set_option maxRecDepth 100000 in
set_option maxHeartbeats 4000000 in
theorem c_term4 {Z : LZ} {ad : Nat → Nat} {τ0 τ : St} {K : Int32 → St → Prop} {t n a : Nat} (hR : RB τ0 t n) (hM : MS τ0 t n 4 a τ) (hK1 : ∀ f, pTerm (tT τ0 t n) (tV τ0 t n) (pLev (tT τ0 t n) (tV τ0 t n) 1) a = .inl f → ∀ v τ', MB τ0 t n f τ' → K v τ') (hK2 : ∀ cs a2, pTerm (tT τ0 t n) (tV τ0 t n) (pLev (tT τ0 t n) (tV τ0 t n) 1) a = .inr (cs, a2) → ∀ τ', MS τ0 t n 4 a2 τ' → K (evc (eM τ0) cs) τ') : CC lyM Z ad yX6_term4 wsX6_term4 (rmk 11) [.ref (ad 0)] τ (rI K) := by
  refine CC.of (cc := cX6_term4) (nL := 2) (ret := (some .int)) rfl rfl ⟨rfl, rfl⟩ (by exact Nat.le_of_ble_eq_true rfl) ?_
  intro X B
  change GG _ _ _ _ X _ 0 [some (.ref (ad 0)), none] [] _
  change Amb _ _ _ _ X _ _ RX6 _ _ at B
  unfold pTerm pSeq at hK1 hK2
  refine g_aload_n B dX6_term4_0 rfl ?_
  refine g_callVi (C := RX6) (As := []) B dX6_term4_1 (gc1 g_X6_235) (by rfl) ⟨rfl, hd_X6_atom4⟩ (by exact ⟨Nat.le_of_ble_eq_true rfl, Nat.le_of_ble_eq_true rfl⟩) ⟨rfl, rfl⟩ rfl rfl (by exact Nat.le_of_ble_eq_true rfl) recvM (c_atom4 hR hM (fun f hf v8 τ8 hB8 => ?_) (fun cs a1 hf τ8 hM8 => ?_))
  · rw [hf] at hK1; dsimp only at hK1
    refine g_istore_n B dX6_term4_4 (by decide) rfl ?_
    first
      | exact lB_term4 B hB8 (hK1 f rfl _ _ hB8)
      | exact l_term4 B hR 199 cs a1 τ8 (by omega) (pAtom_ok (tT_TV hR) (pLev_ok (tT_TV hR) _) _ _ _ hf).1 hM8 hK1 hK2
  · rw [hf] at hK1 hK2; dsimp only at hK1 hK2
    refine g_istore_n B dX6_term4_4 (by decide) rfl ?_
    first
      | exact lB_term4 B hB8 (hK1 f rfl _ _ hB8)
      | exact l_term4 B hR 199 cs a1 τ8 (by omega) (pAtom_ok (tT_TV hR) (pLev_ok (tT_TV hR) _) _ _ _ hf).1 hM8 hK1 hK2
set_option maxRecDepth 100000 in
set_option maxHeartbeats 4000000 in
theorem lB_added4 {Z : LZ} {ad : Nat → Nat} {X : CX} {K : Int32 → St → Prop} {τ0 τ : St} {t n f : Nat} {v : Int32} (B : Amb lyM Z ad (rmk 12) X cX6_added4 wsX6_added4 RX6 4 (some .int)) (hB : MB τ0 t n f τ) (hK : K v τ) : GG lyM Z ad (rmk 12) X (rI K) 5 [some (.ref (ad 0)), some (.int v), none, none] [] τ := by
  refine g_aload_n B dX6_added4_5 rfl ?_
  refine g_bipush (v := (43)) B dX6_added4_6 (by decide) ?_
  refine g_callVi (C := RX6) (As := [.int _]) B dX6_added4_8 (gc1 g_X6_202) (by rfl) ⟨rfl, hd_X6_isSign⟩ (by exact ⟨Nat.le_of_ble_eq_true rfl, Nat.le_of_ble_eq_true rfl⟩) ⟨rfl, rfl⟩ rfl rfl (by exact Nat.le_of_ble_eq_true rfl) recvM (c_sgnB hB ?_)
  refine g_if_ne (tgt := 23) B dX6_added4_11 (by decide) (fun c11 => ?_) (fun c11 => ?_)
  · first | exact absurd rfl c11 | exact absurd rfl c20
  · refine g_aload_n B dX6_added4_14 rfl ?_
    refine g_bipush (v := (45)) B dX6_added4_15 (by decide) ?_
    refine g_callVi (C := RX6) (As := [.int _]) B dX6_added4_17 (gc1 g_X6_202) (by rfl) ⟨rfl, hd_X6_isSign⟩ (by exact ⟨Nat.le_of_ble_eq_true rfl, Nat.le_of_ble_eq_true rfl⟩) ⟨rfl, rfl⟩ rfl rfl (by exact Nat.le_of_ble_eq_true rfl) recvM (c_sgnB hB ?_)
    refine g_if_eq (tgt := 66) B dX6_added4_20 (by decide) (fun c20 => ?_) (fun c20 => ?_)
    · refine g_iload_n B dX6_added4_66 rfl ?_
      refine g_ireti B dX6_added4_67 ?_
      exact hK
    · first | exact absurd rfl c11 | exact absurd rfl c20
set_option maxRecDepth 100000 in
set_option maxHeartbeats 4000000 in
theorem l_added4 {Z : LZ} {ad : Nat → Nat} {X : CX} {K : Int32 → St → Prop} {τ0 : St} {t n : Nat} (B : Amb lyM Z ad (rmk 12) X cX6_added4 wsX6_added4 RX6 4 (some .int)) (hR : RB τ0 t n) : ∀ (k : Nat) (cs : List Int32) (b : Nat) (τ : St), 160 ≤ b + k → WF cs → MS τ0 t n 4 b τ → (∀ f, pLoop (pTerm (tT τ0 t n) (tV τ0 t n) (pLev (tT τ0 t n) (tV τ0 t n) 1)) (opAdd (tT τ0 t n)) (k + 1) cs b = .inl f → ∀ v τ', MB τ0 t n f τ' → K v τ') → (∀ ds a2, pLoop (pTerm (tT τ0 t n) (tV τ0 t n) (pLev (tT τ0 t n) (tV τ0 t n) 1)) (opAdd (tT τ0 t n)) (k + 1) cs b = .inr (ds, a2) → ∀ τ', MS τ0 t n 4 a2 τ' → K (evc (eM τ0) ds) τ') → GG lyM Z ad (rmk 12) X (rI K) 5 [some (.ref (ad 0)), some (.int (evc (eM τ0) cs)), none, none] [] τ := by
  intro k
  induction k using Nat.strongRecOn with
  | ind k ih =>
  intro cs b τ hk hw hM hK1 hK2
  have hn := hR.2.2.2
  unfold pLoop at hK1 hK2
  refine g_aload_n B dX6_added4_5 rfl ?_
  refine g_bipush (v := (43)) B dX6_added4_6 (by decide) ?_
  refine g_callVi (C := RX6) (As := [.int _]) B dX6_added4_8 (gc1 g_X6_202) (by rfl) ⟨rfl, hd_X6_isSign⟩ (by exact ⟨Nat.le_of_ble_eq_true rfl, Nat.le_of_ble_eq_true rfl⟩) ⟨rfl, rfl⟩ rfl rfl (by exact Nat.le_of_ble_eq_true rfl) recvM (c_sgn hM (show isS 43 by decide) ?_)
  refine g_if_ne (tgt := 23) B dX6_added4_11 (by decide) (fun c11 => ?_) (fun c11 => ?_)
  · have hT : tT τ0 t n b = 43 ∨ tT τ0 t n b = 45 := by first | exact Or.inl (b1_n0.mp c11) | exact Or.inr (b1_n0.mp c20)
    have hT0 : isS (tT τ0 t n b) := by rcases hT with h | h <;> rw [h] <;> decide
    have hb := tT_lt hR (isS_0 hT0).1
    have hwv := hM.w hT0
    have h43 : τ.2.1 = 43 ↔ tT τ0 t n b = 43 := by
      rw [hwv]
      constructor
      · intro h
        have := congrArg Int64.toInt h
        rw [i_long] at this
        exact i_eq.mpr this
      · intro h
        rw [h]; rfl
    refine g_aload_n B dX6_added4_23 rfl ?_
    refine g_getL (T := TX6) (N := 42) B dX6_added4_24 (by decide) (by rfl) (inq inlX6) rfl 23 (by decide) (mq f_X6_155) (by rfl) ?_
    refine g_ldc2 (v := (43)) B dX6_added4_27 (mq k_X6_219) ?_
    refine g_lcmp B dX6_added4_30 ?_
    refine g_if_ne (tgt := 38) B dX6_added4_31 (by decide) (fun c31 => ?_) (fun c31 => ?_)
    · refine g_iconst (v := (0)) B dX6_added4_38 (by decide) ?_
      refine g_istore_n B dX6_added4_39 (by decide) rfl ?_
      refine g_aload_n B dX6_added4_40 rfl ?_
      refine g_callVv (C := RX6) (As := []) B dX6_added4_41 (gc1 g_X6_177) (by rfl) ⟨rfl, hd_X6_next⟩ (by exact ⟨Nat.le_of_ble_eq_true rfl, Nat.le_of_ble_eq_true rfl⟩) ⟨rfl, rfl⟩ rfl rfl (by exact Nat.le_of_ble_eq_true rfl) recvM (c_nx hR hM (isS_0 hT0) (fun τ2 hM2 => ?_))
      refine g_aload_n B dX6_added4_44 rfl ?_
      refine g_callVi (C := RX6) (As := []) B dX6_added4_45 (gc1 g_X6_238) (by rfl) ⟨rfl, hd_X6_term4⟩ (by exact ⟨Nat.le_of_ble_eq_true rfl, Nat.le_of_ble_eq_true rfl⟩) ⟨rfl, rfl⟩ rfl rfl (by exact Nat.le_of_ble_eq_true rfl) recvM (c_term4 hR hM2 (fun f hf v8 τ8 hB8 => ?_) (fun cs2 a2 hf τ8 hM8 => ?_))
      · skip
        refine g_istore_n B dX6_added4_48 (by decide) rfl ?_
        refine g_iload_n B dX6_added4_49 rfl ?_
        refine g_if_eq (tgt := 59) B dX6_added4_50 (by decide) (fun c50 => ?_) (fun c50 => ?_)
        · refine g_iload_n B dX6_added4_59 rfl ?_
          refine g_iload_n B dX6_added4_60 rfl ?_
          refine g_isub B dX6_added4_61 ?_
          refine g_istore_n B dX6_added4_62 (by decide) rfl ?_
          refine g_goto (tgt := 5) B dX6_added4_63 (by decide) ?_
          first
            | exact absurd rfl c50
            | exact absurd c50 (by decide)
            | (have hop : opAdd (tT τ0 t n) b = some (-15) := if_pos (h43.mp (l_cmp_eq0.mp c31))
               rw [hop] at hK1 hK2
               dsimp only at hK1 hK2
               rw [hf] at hK1 hK2
               dsimp only at hK1 hK2
               refine g_drop 2 (g_drop 3 ?_)
               first
               | exact lB_added4 B hB8 (hK1 f rfl _ _ hB8)
               | (obtain ⟨hw2, hlt2⟩ := pTerm_ok (tT_TV hR) (pLev_ok (tT_TV hR) _) _ _ _ hf
                  rw [evc_add hw hw2]
                  obtain ⟨k', rfl⟩ : ∃ k', k = k' + 1 := ⟨k - 1, by omega⟩
                  exact ih k' (by omega) (cs ++ cs2 ++ [-15]) a2 τ8 (by omega) (hw.bin hw2 (by decide)) hM8 hK1 hK2))
            | (have h31 : ¬ tT τ0 t n b = 43 := fun h => c31 (l_cmp_eq0.mpr (h43.mpr h))
               have hop : opAdd (tT τ0 t n) b = some (-16) := (if_neg h31).trans (if_pos (hT.resolve_left h31))
               rw [hop] at hK1 hK2
               dsimp only at hK1 hK2
               rw [hf] at hK1 hK2
               dsimp only at hK1 hK2
               refine g_drop 2 (g_drop 3 ?_)
               first
               | exact lB_added4 B hB8 (hK1 f rfl _ _ hB8)
               | (obtain ⟨hw2, hlt2⟩ := pTerm_ok (tT_TV hR) (pLev_ok (tT_TV hR) _) _ _ _ hf
                  rw [evc_sub hw hw2]
                  obtain ⟨k', rfl⟩ : ∃ k', k = k' + 1 := ⟨k - 1, by omega⟩
                  exact ih k' (by omega) (cs ++ cs2 ++ [-16]) a2 τ8 (by omega) (hw.bin hw2 (by decide)) hM8 hK1 hK2))
        · refine g_iload_n B dX6_added4_53 rfl ?_
          refine g_iload_n B dX6_added4_54 rfl ?_
          refine g_iadd B dX6_added4_55 ?_
          refine g_goto (tgt := 62) B dX6_added4_56 (by decide) ?_
          refine g_istore_n B dX6_added4_62 (by decide) rfl ?_
          refine g_goto (tgt := 5) B dX6_added4_63 (by decide) ?_
          first
            | exact absurd rfl c50
            | exact absurd c50 (by decide)
            | (have hop : opAdd (tT τ0 t n) b = some (-15) := if_pos (h43.mp (l_cmp_eq0.mp c31))
               rw [hop] at hK1 hK2
               dsimp only at hK1 hK2
               rw [hf] at hK1 hK2
               dsimp only at hK1 hK2
               refine g_drop 2 (g_drop 3 ?_)
               first
               | exact lB_added4 B hB8 (hK1 f rfl _ _ hB8)
               | (obtain ⟨hw2, hlt2⟩ := pTerm_ok (tT_TV hR) (pLev_ok (tT_TV hR) _) _ _ _ hf
                  rw [evc_add hw hw2]
                  obtain ⟨k', rfl⟩ : ∃ k', k = k' + 1 := ⟨k - 1, by omega⟩
                  exact ih k' (by omega) (cs ++ cs2 ++ [-15]) a2 τ8 (by omega) (hw.bin hw2 (by decide)) hM8 hK1 hK2))
            | (have h31 : ¬ tT τ0 t n b = 43 := fun h => c31 (l_cmp_eq0.mpr (h43.mpr h))
               have hop : opAdd (tT τ0 t n) b = some (-16) := (if_neg h31).trans (if_pos (hT.resolve_left h31))
               rw [hop] at hK1 hK2
               dsimp only at hK1 hK2
               rw [hf] at hK1 hK2
               dsimp only at hK1 hK2
               refine g_drop 2 (g_drop 3 ?_)
               first
               | exact lB_added4 B hB8 (hK1 f rfl _ _ hB8)
               | (obtain ⟨hw2, hlt2⟩ := pTerm_ok (tT_TV hR) (pLev_ok (tT_TV hR) _) _ _ _ hf
                  rw [evc_sub hw hw2]
                  obtain ⟨k', rfl⟩ : ∃ k', k = k' + 1 := ⟨k - 1, by omega⟩
                  exact ih k' (by omega) (cs ++ cs2 ++ [-16]) a2 τ8 (by omega) (hw.bin hw2 (by decide)) hM8 hK1 hK2))
      · skip
        refine g_istore_n B dX6_added4_48 (by decide) rfl ?_
        refine g_iload_n B dX6_added4_49 rfl ?_
        refine g_if_eq (tgt := 59) B dX6_added4_50 (by decide) (fun c50 => ?_) (fun c50 => ?_)
        · refine g_iload_n B dX6_added4_59 rfl ?_
          refine g_iload_n B dX6_added4_60 rfl ?_
          refine g_isub B dX6_added4_61 ?_
          refine g_istore_n B dX6_added4_62 (by decide) rfl ?_
          refine g_goto (tgt := 5) B dX6_added4_63 (by decide) ?_
          first
            | exact absurd rfl c50
            | exact absurd c50 (by decide)
            | (have hop : opAdd (tT τ0 t n) b = some (-15) := if_pos (h43.mp (l_cmp_eq0.mp c31))
               rw [hop] at hK1 hK2
               dsimp only at hK1 hK2
               rw [hf] at hK1 hK2
               dsimp only at hK1 hK2
               refine g_drop 2 (g_drop 3 ?_)
               first
               | exact lB_added4 B hB8 (hK1 f rfl _ _ hB8)
               | (obtain ⟨hw2, hlt2⟩ := pTerm_ok (tT_TV hR) (pLev_ok (tT_TV hR) _) _ _ _ hf
                  rw [evc_add hw hw2]
                  obtain ⟨k', rfl⟩ : ∃ k', k = k' + 1 := ⟨k - 1, by omega⟩
                  exact ih k' (by omega) (cs ++ cs2 ++ [-15]) a2 τ8 (by omega) (hw.bin hw2 (by decide)) hM8 hK1 hK2))
            | (have h31 : ¬ tT τ0 t n b = 43 := fun h => c31 (l_cmp_eq0.mpr (h43.mpr h))
               have hop : opAdd (tT τ0 t n) b = some (-16) := (if_neg h31).trans (if_pos (hT.resolve_left h31))
               rw [hop] at hK1 hK2
               dsimp only at hK1 hK2
               rw [hf] at hK1 hK2
               dsimp only at hK1 hK2
               refine g_drop 2 (g_drop 3 ?_)
               first
               | exact lB_added4 B hB8 (hK1 f rfl _ _ hB8)
               | (obtain ⟨hw2, hlt2⟩ := pTerm_ok (tT_TV hR) (pLev_ok (tT_TV hR) _) _ _ _ hf
                  rw [evc_sub hw hw2]
                  obtain ⟨k', rfl⟩ : ∃ k', k = k' + 1 := ⟨k - 1, by omega⟩
                  exact ih k' (by omega) (cs ++ cs2 ++ [-16]) a2 τ8 (by omega) (hw.bin hw2 (by decide)) hM8 hK1 hK2))
        · refine g_iload_n B dX6_added4_53 rfl ?_
          refine g_iload_n B dX6_added4_54 rfl ?_
          refine g_iadd B dX6_added4_55 ?_
          refine g_goto (tgt := 62) B dX6_added4_56 (by decide) ?_
          refine g_istore_n B dX6_added4_62 (by decide) rfl ?_
          refine g_goto (tgt := 5) B dX6_added4_63 (by decide) ?_
          first
            | exact absurd rfl c50
            | exact absurd c50 (by decide)
            | (have hop : opAdd (tT τ0 t n) b = some (-15) := if_pos (h43.mp (l_cmp_eq0.mp c31))
               rw [hop] at hK1 hK2
               dsimp only at hK1 hK2
               rw [hf] at hK1 hK2
               dsimp only at hK1 hK2
               refine g_drop 2 (g_drop 3 ?_)
               first
               | exact lB_added4 B hB8 (hK1 f rfl _ _ hB8)
               | (obtain ⟨hw2, hlt2⟩ := pTerm_ok (tT_TV hR) (pLev_ok (tT_TV hR) _) _ _ _ hf
                  rw [evc_add hw hw2]
                  obtain ⟨k', rfl⟩ : ∃ k', k = k' + 1 := ⟨k - 1, by omega⟩
                  exact ih k' (by omega) (cs ++ cs2 ++ [-15]) a2 τ8 (by omega) (hw.bin hw2 (by decide)) hM8 hK1 hK2))
            | (have h31 : ¬ tT τ0 t n b = 43 := fun h => c31 (l_cmp_eq0.mpr (h43.mpr h))
               have hop : opAdd (tT τ0 t n) b = some (-16) := (if_neg h31).trans (if_pos (hT.resolve_left h31))
               rw [hop] at hK1 hK2
               dsimp only at hK1 hK2
               rw [hf] at hK1 hK2
               dsimp only at hK1 hK2
               refine g_drop 2 (g_drop 3 ?_)
               first
               | exact lB_added4 B hB8 (hK1 f rfl _ _ hB8)
               | (obtain ⟨hw2, hlt2⟩ := pTerm_ok (tT_TV hR) (pLev_ok (tT_TV hR) _) _ _ _ hf
                  rw [evc_sub hw hw2]
                  obtain ⟨k', rfl⟩ : ∃ k', k = k' + 1 := ⟨k - 1, by omega⟩
                  exact ih k' (by omega) (cs ++ cs2 ++ [-16]) a2 τ8 (by omega) (hw.bin hw2 (by decide)) hM8 hK1 hK2))
    · refine g_iconst (v := (1)) B dX6_added4_34 (by decide) ?_
      refine g_goto (tgt := 39) B dX6_added4_35 (by decide) ?_
      refine g_istore_n B dX6_added4_39 (by decide) rfl ?_
      refine g_aload_n B dX6_added4_40 rfl ?_
      refine g_callVv (C := RX6) (As := []) B dX6_added4_41 (gc1 g_X6_177) (by rfl) ⟨rfl, hd_X6_next⟩ (by exact ⟨Nat.le_of_ble_eq_true rfl, Nat.le_of_ble_eq_true rfl⟩) ⟨rfl, rfl⟩ rfl rfl (by exact Nat.le_of_ble_eq_true rfl) recvM (c_nx hR hM (isS_0 hT0) (fun τ2 hM2 => ?_))
      refine g_aload_n B dX6_added4_44 rfl ?_
      refine g_callVi (C := RX6) (As := []) B dX6_added4_45 (gc1 g_X6_238) (by rfl) ⟨rfl, hd_X6_term4⟩ (by exact ⟨Nat.le_of_ble_eq_true rfl, Nat.le_of_ble_eq_true rfl⟩) ⟨rfl, rfl⟩ rfl rfl (by exact Nat.le_of_ble_eq_true rfl) recvM (c_term4 hR hM2 (fun f hf v8 τ8 hB8 => ?_) (fun cs2 a2 hf τ8 hM8 => ?_))
      · skip
        refine g_istore_n B dX6_added4_48 (by decide) rfl ?_
        refine g_iload_n B dX6_added4_49 rfl ?_
        refine g_if_eq (tgt := 59) B dX6_added4_50 (by decide) (fun c50 => ?_) (fun c50 => ?_)
        · refine g_iload_n B dX6_added4_59 rfl ?_
          refine g_iload_n B dX6_added4_60 rfl ?_
          refine g_isub B dX6_added4_61 ?_
          refine g_istore_n B dX6_added4_62 (by decide) rfl ?_
          refine g_goto (tgt := 5) B dX6_added4_63 (by decide) ?_
          first
            | exact absurd rfl c50
            | exact absurd c50 (by decide)
            | (have hop : opAdd (tT τ0 t n) b = some (-15) := if_pos (h43.mp (l_cmp_eq0.mp c31))
               rw [hop] at hK1 hK2
               dsimp only at hK1 hK2
               rw [hf] at hK1 hK2
               dsimp only at hK1 hK2
               refine g_drop 2 (g_drop 3 ?_)
               first
               | exact lB_added4 B hB8 (hK1 f rfl _ _ hB8)
               | (obtain ⟨hw2, hlt2⟩ := pTerm_ok (tT_TV hR) (pLev_ok (tT_TV hR) _) _ _ _ hf
                  rw [evc_add hw hw2]
                  obtain ⟨k', rfl⟩ : ∃ k', k = k' + 1 := ⟨k - 1, by omega⟩
                  exact ih k' (by omega) (cs ++ cs2 ++ [-15]) a2 τ8 (by omega) (hw.bin hw2 (by decide)) hM8 hK1 hK2))
            | (have h31 : ¬ tT τ0 t n b = 43 := fun h => c31 (l_cmp_eq0.mpr (h43.mpr h))
               have hop : opAdd (tT τ0 t n) b = some (-16) := (if_neg h31).trans (if_pos (hT.resolve_left h31))
               rw [hop] at hK1 hK2
               dsimp only at hK1 hK2
               rw [hf] at hK1 hK2
               dsimp only at hK1 hK2
               refine g_drop 2 (g_drop 3 ?_)
               first
               | exact lB_added4 B hB8 (hK1 f rfl _ _ hB8)
               | (obtain ⟨hw2, hlt2⟩ := pTerm_ok (tT_TV hR) (pLev_ok (tT_TV hR) _) _ _ _ hf
                  rw [evc_sub hw hw2]
                  obtain ⟨k', rfl⟩ : ∃ k', k = k' + 1 := ⟨k - 1, by omega⟩
                  exact ih k' (by omega) (cs ++ cs2 ++ [-16]) a2 τ8 (by omega) (hw.bin hw2 (by decide)) hM8 hK1 hK2))
        · refine g_iload_n B dX6_added4_53 rfl ?_
          refine g_iload_n B dX6_added4_54 rfl ?_
          refine g_iadd B dX6_added4_55 ?_
          refine g_goto (tgt := 62) B dX6_added4_56 (by decide) ?_
          refine g_istore_n B dX6_added4_62 (by decide) rfl ?_
          refine g_goto (tgt := 5) B dX6_added4_63 (by decide) ?_
          first
            | exact absurd rfl c50
            | exact absurd c50 (by decide)
            | (have hop : opAdd (tT τ0 t n) b = some (-15) := if_pos (h43.mp (l_cmp_eq0.mp c31))
               rw [hop] at hK1 hK2
               dsimp only at hK1 hK2
               rw [hf] at hK1 hK2
               dsimp only at hK1 hK2
               refine g_drop 2 (g_drop 3 ?_)
               first
               | exact lB_added4 B hB8 (hK1 f rfl _ _ hB8)
               | (obtain ⟨hw2, hlt2⟩ := pTerm_ok (tT_TV hR) (pLev_ok (tT_TV hR) _) _ _ _ hf
                  rw [evc_add hw hw2]
                  obtain ⟨k', rfl⟩ : ∃ k', k = k' + 1 := ⟨k - 1, by omega⟩
                  exact ih k' (by omega) (cs ++ cs2 ++ [-15]) a2 τ8 (by omega) (hw.bin hw2 (by decide)) hM8 hK1 hK2))
            | (have h31 : ¬ tT τ0 t n b = 43 := fun h => c31 (l_cmp_eq0.mpr (h43.mpr h))
               have hop : opAdd (tT τ0 t n) b = some (-16) := (if_neg h31).trans (if_pos (hT.resolve_left h31))
               rw [hop] at hK1 hK2
               dsimp only at hK1 hK2
               rw [hf] at hK1 hK2
               dsimp only at hK1 hK2
               refine g_drop 2 (g_drop 3 ?_)
               first
               | exact lB_added4 B hB8 (hK1 f rfl _ _ hB8)
               | (obtain ⟨hw2, hlt2⟩ := pTerm_ok (tT_TV hR) (pLev_ok (tT_TV hR) _) _ _ _ hf
                  rw [evc_sub hw hw2]
                  obtain ⟨k', rfl⟩ : ∃ k', k = k' + 1 := ⟨k - 1, by omega⟩
                  exact ih k' (by omega) (cs ++ cs2 ++ [-16]) a2 τ8 (by omega) (hw.bin hw2 (by decide)) hM8 hK1 hK2))
      · skip
        refine g_istore_n B dX6_added4_48 (by decide) rfl ?_
        refine g_iload_n B dX6_added4_49 rfl ?_
        refine g_if_eq (tgt := 59) B dX6_added4_50 (by decide) (fun c50 => ?_) (fun c50 => ?_)
        · refine g_iload_n B dX6_added4_59 rfl ?_
          refine g_iload_n B dX6_added4_60 rfl ?_
          refine g_isub B dX6_added4_61 ?_
          refine g_istore_n B dX6_added4_62 (by decide) rfl ?_
          refine g_goto (tgt := 5) B dX6_added4_63 (by decide) ?_
          first
            | exact absurd rfl c50
            | exact absurd c50 (by decide)
            | (have hop : opAdd (tT τ0 t n) b = some (-15) := if_pos (h43.mp (l_cmp_eq0.mp c31))
               rw [hop] at hK1 hK2
               dsimp only at hK1 hK2
               rw [hf] at hK1 hK2
               dsimp only at hK1 hK2
               refine g_drop 2 (g_drop 3 ?_)
               first
               | exact lB_added4 B hB8 (hK1 f rfl _ _ hB8)
               | (obtain ⟨hw2, hlt2⟩ := pTerm_ok (tT_TV hR) (pLev_ok (tT_TV hR) _) _ _ _ hf
                  rw [evc_add hw hw2]
                  obtain ⟨k', rfl⟩ : ∃ k', k = k' + 1 := ⟨k - 1, by omega⟩
                  exact ih k' (by omega) (cs ++ cs2 ++ [-15]) a2 τ8 (by omega) (hw.bin hw2 (by decide)) hM8 hK1 hK2))
            | (have h31 : ¬ tT τ0 t n b = 43 := fun h => c31 (l_cmp_eq0.mpr (h43.mpr h))
               have hop : opAdd (tT τ0 t n) b = some (-16) := (if_neg h31).trans (if_pos (hT.resolve_left h31))
               rw [hop] at hK1 hK2
               dsimp only at hK1 hK2
               rw [hf] at hK1 hK2
               dsimp only at hK1 hK2
               refine g_drop 2 (g_drop 3 ?_)
               first
               | exact lB_added4 B hB8 (hK1 f rfl _ _ hB8)
               | (obtain ⟨hw2, hlt2⟩ := pTerm_ok (tT_TV hR) (pLev_ok (tT_TV hR) _) _ _ _ hf
                  rw [evc_sub hw hw2]
                  obtain ⟨k', rfl⟩ : ∃ k', k = k' + 1 := ⟨k - 1, by omega⟩
                  exact ih k' (by omega) (cs ++ cs2 ++ [-16]) a2 τ8 (by omega) (hw.bin hw2 (by decide)) hM8 hK1 hK2))
        · refine g_iload_n B dX6_added4_53 rfl ?_
          refine g_iload_n B dX6_added4_54 rfl ?_
          refine g_iadd B dX6_added4_55 ?_
          refine g_goto (tgt := 62) B dX6_added4_56 (by decide) ?_
          refine g_istore_n B dX6_added4_62 (by decide) rfl ?_
          refine g_goto (tgt := 5) B dX6_added4_63 (by decide) ?_
          first
            | exact absurd rfl c50
            | exact absurd c50 (by decide)
            | (have hop : opAdd (tT τ0 t n) b = some (-15) := if_pos (h43.mp (l_cmp_eq0.mp c31))
               rw [hop] at hK1 hK2
               dsimp only at hK1 hK2
               rw [hf] at hK1 hK2
               dsimp only at hK1 hK2
               refine g_drop 2 (g_drop 3 ?_)
               first
               | exact lB_added4 B hB8 (hK1 f rfl _ _ hB8)
               | (obtain ⟨hw2, hlt2⟩ := pTerm_ok (tT_TV hR) (pLev_ok (tT_TV hR) _) _ _ _ hf
                  rw [evc_add hw hw2]
                  obtain ⟨k', rfl⟩ : ∃ k', k = k' + 1 := ⟨k - 1, by omega⟩
                  exact ih k' (by omega) (cs ++ cs2 ++ [-15]) a2 τ8 (by omega) (hw.bin hw2 (by decide)) hM8 hK1 hK2))
            | (have h31 : ¬ tT τ0 t n b = 43 := fun h => c31 (l_cmp_eq0.mpr (h43.mpr h))
               have hop : opAdd (tT τ0 t n) b = some (-16) := (if_neg h31).trans (if_pos (hT.resolve_left h31))
               rw [hop] at hK1 hK2
               dsimp only at hK1 hK2
               rw [hf] at hK1 hK2
               dsimp only at hK1 hK2
               refine g_drop 2 (g_drop 3 ?_)
               first
               | exact lB_added4 B hB8 (hK1 f rfl _ _ hB8)
               | (obtain ⟨hw2, hlt2⟩ := pTerm_ok (tT_TV hR) (pLev_ok (tT_TV hR) _) _ _ _ hf
                  rw [evc_sub hw hw2]
                  obtain ⟨k', rfl⟩ : ∃ k', k = k' + 1 := ⟨k - 1, by omega⟩
                  exact ih k' (by omega) (cs ++ cs2 ++ [-16]) a2 τ8 (by omega) (hw.bin hw2 (by decide)) hM8 hK1 hK2))
  · refine g_aload_n B dX6_added4_14 rfl ?_
    refine g_bipush (v := (45)) B dX6_added4_15 (by decide) ?_
    refine g_callVi (C := RX6) (As := [.int _]) B dX6_added4_17 (gc1 g_X6_202) (by rfl) ⟨rfl, hd_X6_isSign⟩ (by exact ⟨Nat.le_of_ble_eq_true rfl, Nat.le_of_ble_eq_true rfl⟩) ⟨rfl, rfl⟩ rfl rfl (by exact Nat.le_of_ble_eq_true rfl) recvM (c_sgn hM (show isS 45 by decide) ?_)
    refine g_if_eq (tgt := 66) B dX6_added4_20 (by decide) (fun c20 => ?_) (fun c20 => ?_)
    · refine g_iload_n B dX6_added4_66 rfl ?_
      refine g_ireti B dX6_added4_67 ?_
      have hop : opAdd (tT τ0 t n) b = none := (if_neg (b1_0.mp c11)).trans (if_neg (b1_0.mp c20))
      rw [hop] at hK2
      exact hK2 _ _ rfl τ hM
    · have hT : tT τ0 t n b = 43 ∨ tT τ0 t n b = 45 := by first | exact Or.inl (b1_n0.mp c11) | exact Or.inr (b1_n0.mp c20)
      have hT0 : isS (tT τ0 t n b) := by rcases hT with h | h <;> rw [h] <;> decide
      have hb := tT_lt hR (isS_0 hT0).1
      have hwv := hM.w hT0
      have h43 : τ.2.1 = 43 ↔ tT τ0 t n b = 43 := by
        rw [hwv]
        constructor
        · intro h
          have := congrArg Int64.toInt h
          rw [i_long] at this
          exact i_eq.mpr this
        · intro h
          rw [h]; rfl
      refine g_aload_n B dX6_added4_23 rfl ?_
      refine g_getL (T := TX6) (N := 42) B dX6_added4_24 (by decide) (by rfl) (inq inlX6) rfl 23 (by decide) (mq f_X6_155) (by rfl) ?_
      refine g_ldc2 (v := (43)) B dX6_added4_27 (mq k_X6_219) ?_
      refine g_lcmp B dX6_added4_30 ?_
      refine g_if_ne (tgt := 38) B dX6_added4_31 (by decide) (fun c31 => ?_) (fun c31 => ?_)
      · refine g_iconst (v := (0)) B dX6_added4_38 (by decide) ?_
        refine g_istore_n B dX6_added4_39 (by decide) rfl ?_
        refine g_aload_n B dX6_added4_40 rfl ?_
        refine g_callVv (C := RX6) (As := []) B dX6_added4_41 (gc1 g_X6_177) (by rfl) ⟨rfl, hd_X6_next⟩ (by exact ⟨Nat.le_of_ble_eq_true rfl, Nat.le_of_ble_eq_true rfl⟩) ⟨rfl, rfl⟩ rfl rfl (by exact Nat.le_of_ble_eq_true rfl) recvM (c_nx hR hM (isS_0 hT0) (fun τ2 hM2 => ?_))
        refine g_aload_n B dX6_added4_44 rfl ?_
        refine g_callVi (C := RX6) (As := []) B dX6_added4_45 (gc1 g_X6_238) (by rfl) ⟨rfl, hd_X6_term4⟩ (by exact ⟨Nat.le_of_ble_eq_true rfl, Nat.le_of_ble_eq_true rfl⟩) ⟨rfl, rfl⟩ rfl rfl (by exact Nat.le_of_ble_eq_true rfl) recvM (c_term4 hR hM2 (fun f hf v8 τ8 hB8 => ?_) (fun cs2 a2 hf τ8 hM8 => ?_))
        · skip
          refine g_istore_n B dX6_added4_48 (by decide) rfl ?_
          refine g_iload_n B dX6_added4_49 rfl ?_
          refine g_if_eq (tgt := 59) B dX6_added4_50 (by decide) (fun c50 => ?_) (fun c50 => ?_)
          · refine g_iload_n B dX6_added4_59 rfl ?_
            refine g_iload_n B dX6_added4_60 rfl ?_
            refine g_isub B dX6_added4_61 ?_
            refine g_istore_n B dX6_added4_62 (by decide) rfl ?_
            refine g_goto (tgt := 5) B dX6_added4_63 (by decide) ?_
            first
              | exact absurd rfl c50
              | exact absurd c50 (by decide)
              | (have hop : opAdd (tT τ0 t n) b = some (-15) := if_pos (h43.mp (l_cmp_eq0.mp c31))
                 rw [hop] at hK1 hK2
                 dsimp only at hK1 hK2
                 rw [hf] at hK1 hK2
                 dsimp only at hK1 hK2
                 refine g_drop 2 (g_drop 3 ?_)
                 first
                 | exact lB_added4 B hB8 (hK1 f rfl _ _ hB8)
                 | (obtain ⟨hw2, hlt2⟩ := pTerm_ok (tT_TV hR) (pLev_ok (tT_TV hR) _) _ _ _ hf
                    rw [evc_add hw hw2]
                    obtain ⟨k', rfl⟩ : ∃ k', k = k' + 1 := ⟨k - 1, by omega⟩
                    exact ih k' (by omega) (cs ++ cs2 ++ [-15]) a2 τ8 (by omega) (hw.bin hw2 (by decide)) hM8 hK1 hK2))
              | (have h31 : ¬ tT τ0 t n b = 43 := fun h => c31 (l_cmp_eq0.mpr (h43.mpr h))
                 have hop : opAdd (tT τ0 t n) b = some (-16) := (if_neg h31).trans (if_pos (hT.resolve_left h31))
                 rw [hop] at hK1 hK2
                 dsimp only at hK1 hK2
                 rw [hf] at hK1 hK2
                 dsimp only at hK1 hK2
                 refine g_drop 2 (g_drop 3 ?_)
                 first
                 | exact lB_added4 B hB8 (hK1 f rfl _ _ hB8)
                 | (obtain ⟨hw2, hlt2⟩ := pTerm_ok (tT_TV hR) (pLev_ok (tT_TV hR) _) _ _ _ hf
                    rw [evc_sub hw hw2]
                    obtain ⟨k', rfl⟩ : ∃ k', k = k' + 1 := ⟨k - 1, by omega⟩
                    exact ih k' (by omega) (cs ++ cs2 ++ [-16]) a2 τ8 (by omega) (hw.bin hw2 (by decide)) hM8 hK1 hK2))
          · refine g_iload_n B dX6_added4_53 rfl ?_
            refine g_iload_n B dX6_added4_54 rfl ?_
            refine g_iadd B dX6_added4_55 ?_
            refine g_goto (tgt := 62) B dX6_added4_56 (by decide) ?_
            refine g_istore_n B dX6_added4_62 (by decide) rfl ?_
            refine g_goto (tgt := 5) B dX6_added4_63 (by decide) ?_
            first
              | exact absurd rfl c50
              | exact absurd c50 (by decide)
              | (have hop : opAdd (tT τ0 t n) b = some (-15) := if_pos (h43.mp (l_cmp_eq0.mp c31))
                 rw [hop] at hK1 hK2
                 dsimp only at hK1 hK2
                 rw [hf] at hK1 hK2
                 dsimp only at hK1 hK2
                 refine g_drop 2 (g_drop 3 ?_)
                 first
                 | exact lB_added4 B hB8 (hK1 f rfl _ _ hB8)
                 | (obtain ⟨hw2, hlt2⟩ := pTerm_ok (tT_TV hR) (pLev_ok (tT_TV hR) _) _ _ _ hf
                    rw [evc_add hw hw2]
                    obtain ⟨k', rfl⟩ : ∃ k', k = k' + 1 := ⟨k - 1, by omega⟩
                    exact ih k' (by omega) (cs ++ cs2 ++ [-15]) a2 τ8 (by omega) (hw.bin hw2 (by decide)) hM8 hK1 hK2))
              | (have h31 : ¬ tT τ0 t n b = 43 := fun h => c31 (l_cmp_eq0.mpr (h43.mpr h))
                 have hop : opAdd (tT τ0 t n) b = some (-16) := (if_neg h31).trans (if_pos (hT.resolve_left h31))
                 rw [hop] at hK1 hK2
                 dsimp only at hK1 hK2
                 rw [hf] at hK1 hK2
                 dsimp only at hK1 hK2
                 refine g_drop 2 (g_drop 3 ?_)
                 first
                 | exact lB_added4 B hB8 (hK1 f rfl _ _ hB8)
                 | (obtain ⟨hw2, hlt2⟩ := pTerm_ok (tT_TV hR) (pLev_ok (tT_TV hR) _) _ _ _ hf
                    rw [evc_sub hw hw2]
                    obtain ⟨k', rfl⟩ : ∃ k', k = k' + 1 := ⟨k - 1, by omega⟩
                    exact ih k' (by omega) (cs ++ cs2 ++ [-16]) a2 τ8 (by omega) (hw.bin hw2 (by decide)) hM8 hK1 hK2))
        · skip
          refine g_istore_n B dX6_added4_48 (by decide) rfl ?_
          refine g_iload_n B dX6_added4_49 rfl ?_
          refine g_if_eq (tgt := 59) B dX6_added4_50 (by decide) (fun c50 => ?_) (fun c50 => ?_)
          · refine g_iload_n B dX6_added4_59 rfl ?_
            refine g_iload_n B dX6_added4_60 rfl ?_
            refine g_isub B dX6_added4_61 ?_
            refine g_istore_n B dX6_added4_62 (by decide) rfl ?_
            refine g_goto (tgt := 5) B dX6_added4_63 (by decide) ?_
            first
              | exact absurd rfl c50
              | exact absurd c50 (by decide)
              | (have hop : opAdd (tT τ0 t n) b = some (-15) := if_pos (h43.mp (l_cmp_eq0.mp c31))
                 rw [hop] at hK1 hK2
                 dsimp only at hK1 hK2
                 rw [hf] at hK1 hK2
                 dsimp only at hK1 hK2
                 refine g_drop 2 (g_drop 3 ?_)
                 first
                 | exact lB_added4 B hB8 (hK1 f rfl _ _ hB8)
                 | (obtain ⟨hw2, hlt2⟩ := pTerm_ok (tT_TV hR) (pLev_ok (tT_TV hR) _) _ _ _ hf
                    rw [evc_add hw hw2]
                    obtain ⟨k', rfl⟩ : ∃ k', k = k' + 1 := ⟨k - 1, by omega⟩
                    exact ih k' (by omega) (cs ++ cs2 ++ [-15]) a2 τ8 (by omega) (hw.bin hw2 (by decide)) hM8 hK1 hK2))
              | (have h31 : ¬ tT τ0 t n b = 43 := fun h => c31 (l_cmp_eq0.mpr (h43.mpr h))
                 have hop : opAdd (tT τ0 t n) b = some (-16) := (if_neg h31).trans (if_pos (hT.resolve_left h31))
                 rw [hop] at hK1 hK2
                 dsimp only at hK1 hK2
                 rw [hf] at hK1 hK2
                 dsimp only at hK1 hK2
                 refine g_drop 2 (g_drop 3 ?_)
                 first
                 | exact lB_added4 B hB8 (hK1 f rfl _ _ hB8)
                 | (obtain ⟨hw2, hlt2⟩ := pTerm_ok (tT_TV hR) (pLev_ok (tT_TV hR) _) _ _ _ hf
                    rw [evc_sub hw hw2]
                    obtain ⟨k', rfl⟩ : ∃ k', k = k' + 1 := ⟨k - 1, by omega⟩
                    exact ih k' (by omega) (cs ++ cs2 ++ [-16]) a2 τ8 (by omega) (hw.bin hw2 (by decide)) hM8 hK1 hK2))
          · refine g_iload_n B dX6_added4_53 rfl ?_
            refine g_iload_n B dX6_added4_54 rfl ?_
            refine g_iadd B dX6_added4_55 ?_
            refine g_goto (tgt := 62) B dX6_added4_56 (by decide) ?_
            refine g_istore_n B dX6_added4_62 (by decide) rfl ?_
            refine g_goto (tgt := 5) B dX6_added4_63 (by decide) ?_
            first
              | exact absurd rfl c50
              | exact absurd c50 (by decide)
              | (have hop : opAdd (tT τ0 t n) b = some (-15) := if_pos (h43.mp (l_cmp_eq0.mp c31))
                 rw [hop] at hK1 hK2
                 dsimp only at hK1 hK2
                 rw [hf] at hK1 hK2
                 dsimp only at hK1 hK2
                 refine g_drop 2 (g_drop 3 ?_)
                 first
                 | exact lB_added4 B hB8 (hK1 f rfl _ _ hB8)
                 | (obtain ⟨hw2, hlt2⟩ := pTerm_ok (tT_TV hR) (pLev_ok (tT_TV hR) _) _ _ _ hf
                    rw [evc_add hw hw2]
                    obtain ⟨k', rfl⟩ : ∃ k', k = k' + 1 := ⟨k - 1, by omega⟩
                    exact ih k' (by omega) (cs ++ cs2 ++ [-15]) a2 τ8 (by omega) (hw.bin hw2 (by decide)) hM8 hK1 hK2))
              | (have h31 : ¬ tT τ0 t n b = 43 := fun h => c31 (l_cmp_eq0.mpr (h43.mpr h))
                 have hop : opAdd (tT τ0 t n) b = some (-16) := (if_neg h31).trans (if_pos (hT.resolve_left h31))
                 rw [hop] at hK1 hK2
                 dsimp only at hK1 hK2
                 rw [hf] at hK1 hK2
                 dsimp only at hK1 hK2
                 refine g_drop 2 (g_drop 3 ?_)
                 first
                 | exact lB_added4 B hB8 (hK1 f rfl _ _ hB8)
                 | (obtain ⟨hw2, hlt2⟩ := pTerm_ok (tT_TV hR) (pLev_ok (tT_TV hR) _) _ _ _ hf
                    rw [evc_sub hw hw2]
                    obtain ⟨k', rfl⟩ : ∃ k', k = k' + 1 := ⟨k - 1, by omega⟩
                    exact ih k' (by omega) (cs ++ cs2 ++ [-16]) a2 τ8 (by omega) (hw.bin hw2 (by decide)) hM8 hK1 hK2))
      · refine g_iconst (v := (1)) B dX6_added4_34 (by decide) ?_
        refine g_goto (tgt := 39) B dX6_added4_35 (by decide) ?_
        refine g_istore_n B dX6_added4_39 (by decide) rfl ?_
        refine g_aload_n B dX6_added4_40 rfl ?_
        refine g_callVv (C := RX6) (As := []) B dX6_added4_41 (gc1 g_X6_177) (by rfl) ⟨rfl, hd_X6_next⟩ (by exact ⟨Nat.le_of_ble_eq_true rfl, Nat.le_of_ble_eq_true rfl⟩) ⟨rfl, rfl⟩ rfl rfl (by exact Nat.le_of_ble_eq_true rfl) recvM (c_nx hR hM (isS_0 hT0) (fun τ2 hM2 => ?_))
        refine g_aload_n B dX6_added4_44 rfl ?_
        refine g_callVi (C := RX6) (As := []) B dX6_added4_45 (gc1 g_X6_238) (by rfl) ⟨rfl, hd_X6_term4⟩ (by exact ⟨Nat.le_of_ble_eq_true rfl, Nat.le_of_ble_eq_true rfl⟩) ⟨rfl, rfl⟩ rfl rfl (by exact Nat.le_of_ble_eq_true rfl) recvM (c_term4 hR hM2 (fun f hf v8 τ8 hB8 => ?_) (fun cs2 a2 hf τ8 hM8 => ?_))
        · skip
          refine g_istore_n B dX6_added4_48 (by decide) rfl ?_
          refine g_iload_n B dX6_added4_49 rfl ?_
          refine g_if_eq (tgt := 59) B dX6_added4_50 (by decide) (fun c50 => ?_) (fun c50 => ?_)
          · refine g_iload_n B dX6_added4_59 rfl ?_
            refine g_iload_n B dX6_added4_60 rfl ?_
            refine g_isub B dX6_added4_61 ?_
            refine g_istore_n B dX6_added4_62 (by decide) rfl ?_
            refine g_goto (tgt := 5) B dX6_added4_63 (by decide) ?_
            first
              | exact absurd rfl c50
              | exact absurd c50 (by decide)
              | (have hop : opAdd (tT τ0 t n) b = some (-15) := if_pos (h43.mp (l_cmp_eq0.mp c31))
                 rw [hop] at hK1 hK2
                 dsimp only at hK1 hK2
                 rw [hf] at hK1 hK2
                 dsimp only at hK1 hK2
                 refine g_drop 2 (g_drop 3 ?_)
                 first
                 | exact lB_added4 B hB8 (hK1 f rfl _ _ hB8)
                 | (obtain ⟨hw2, hlt2⟩ := pTerm_ok (tT_TV hR) (pLev_ok (tT_TV hR) _) _ _ _ hf
                    rw [evc_add hw hw2]
                    obtain ⟨k', rfl⟩ : ∃ k', k = k' + 1 := ⟨k - 1, by omega⟩
                    exact ih k' (by omega) (cs ++ cs2 ++ [-15]) a2 τ8 (by omega) (hw.bin hw2 (by decide)) hM8 hK1 hK2))
              | (have h31 : ¬ tT τ0 t n b = 43 := fun h => c31 (l_cmp_eq0.mpr (h43.mpr h))
                 have hop : opAdd (tT τ0 t n) b = some (-16) := (if_neg h31).trans (if_pos (hT.resolve_left h31))
                 rw [hop] at hK1 hK2
                 dsimp only at hK1 hK2
                 rw [hf] at hK1 hK2
                 dsimp only at hK1 hK2
                 refine g_drop 2 (g_drop 3 ?_)
                 first
                 | exact lB_added4 B hB8 (hK1 f rfl _ _ hB8)
                 | (obtain ⟨hw2, hlt2⟩ := pTerm_ok (tT_TV hR) (pLev_ok (tT_TV hR) _) _ _ _ hf
                    rw [evc_sub hw hw2]
                    obtain ⟨k', rfl⟩ : ∃ k', k = k' + 1 := ⟨k - 1, by omega⟩
                    exact ih k' (by omega) (cs ++ cs2 ++ [-16]) a2 τ8 (by omega) (hw.bin hw2 (by decide)) hM8 hK1 hK2))
          · refine g_iload_n B dX6_added4_53 rfl ?_
            refine g_iload_n B dX6_added4_54 rfl ?_
            refine g_iadd B dX6_added4_55 ?_
            refine g_goto (tgt := 62) B dX6_added4_56 (by decide) ?_
            refine g_istore_n B dX6_added4_62 (by decide) rfl ?_
            refine g_goto (tgt := 5) B dX6_added4_63 (by decide) ?_
            first
              | exact absurd rfl c50
              | exact absurd c50 (by decide)
              | (have hop : opAdd (tT τ0 t n) b = some (-15) := if_pos (h43.mp (l_cmp_eq0.mp c31))
                 rw [hop] at hK1 hK2
                 dsimp only at hK1 hK2
                 rw [hf] at hK1 hK2
                 dsimp only at hK1 hK2
                 refine g_drop 2 (g_drop 3 ?_)
                 first
                 | exact lB_added4 B hB8 (hK1 f rfl _ _ hB8)
                 | (obtain ⟨hw2, hlt2⟩ := pTerm_ok (tT_TV hR) (pLev_ok (tT_TV hR) _) _ _ _ hf
                    rw [evc_add hw hw2]
                    obtain ⟨k', rfl⟩ : ∃ k', k = k' + 1 := ⟨k - 1, by omega⟩
                    exact ih k' (by omega) (cs ++ cs2 ++ [-15]) a2 τ8 (by omega) (hw.bin hw2 (by decide)) hM8 hK1 hK2))
              | (have h31 : ¬ tT τ0 t n b = 43 := fun h => c31 (l_cmp_eq0.mpr (h43.mpr h))
                 have hop : opAdd (tT τ0 t n) b = some (-16) := (if_neg h31).trans (if_pos (hT.resolve_left h31))
                 rw [hop] at hK1 hK2
                 dsimp only at hK1 hK2
                 rw [hf] at hK1 hK2
                 dsimp only at hK1 hK2
                 refine g_drop 2 (g_drop 3 ?_)
                 first
                 | exact lB_added4 B hB8 (hK1 f rfl _ _ hB8)
                 | (obtain ⟨hw2, hlt2⟩ := pTerm_ok (tT_TV hR) (pLev_ok (tT_TV hR) _) _ _ _ hf
                    rw [evc_sub hw hw2]
                    obtain ⟨k', rfl⟩ : ∃ k', k = k' + 1 := ⟨k - 1, by omega⟩
                    exact ih k' (by omega) (cs ++ cs2 ++ [-16]) a2 τ8 (by omega) (hw.bin hw2 (by decide)) hM8 hK1 hK2))
        · skip
          refine g_istore_n B dX6_added4_48 (by decide) rfl ?_
          refine g_iload_n B dX6_added4_49 rfl ?_
          refine g_if_eq (tgt := 59) B dX6_added4_50 (by decide) (fun c50 => ?_) (fun c50 => ?_)
          · refine g_iload_n B dX6_added4_59 rfl ?_
            refine g_iload_n B dX6_added4_60 rfl ?_
            refine g_isub B dX6_added4_61 ?_
            refine g_istore_n B dX6_added4_62 (by decide) rfl ?_
            refine g_goto (tgt := 5) B dX6_added4_63 (by decide) ?_
            first
              | exact absurd rfl c50
              | exact absurd c50 (by decide)
              | (have hop : opAdd (tT τ0 t n) b = some (-15) := if_pos (h43.mp (l_cmp_eq0.mp c31))
                 rw [hop] at hK1 hK2
                 dsimp only at hK1 hK2
                 rw [hf] at hK1 hK2
                 dsimp only at hK1 hK2
                 refine g_drop 2 (g_drop 3 ?_)
                 first
                 | exact lB_added4 B hB8 (hK1 f rfl _ _ hB8)
                 | (obtain ⟨hw2, hlt2⟩ := pTerm_ok (tT_TV hR) (pLev_ok (tT_TV hR) _) _ _ _ hf
                    rw [evc_add hw hw2]
                    obtain ⟨k', rfl⟩ : ∃ k', k = k' + 1 := ⟨k - 1, by omega⟩
                    exact ih k' (by omega) (cs ++ cs2 ++ [-15]) a2 τ8 (by omega) (hw.bin hw2 (by decide)) hM8 hK1 hK2))
              | (have h31 : ¬ tT τ0 t n b = 43 := fun h => c31 (l_cmp_eq0.mpr (h43.mpr h))
                 have hop : opAdd (tT τ0 t n) b = some (-16) := (if_neg h31).trans (if_pos (hT.resolve_left h31))
                 rw [hop] at hK1 hK2
                 dsimp only at hK1 hK2
                 rw [hf] at hK1 hK2
                 dsimp only at hK1 hK2
                 refine g_drop 2 (g_drop 3 ?_)
                 first
                 | exact lB_added4 B hB8 (hK1 f rfl _ _ hB8)
                 | (obtain ⟨hw2, hlt2⟩ := pTerm_ok (tT_TV hR) (pLev_ok (tT_TV hR) _) _ _ _ hf
                    rw [evc_sub hw hw2]
                    obtain ⟨k', rfl⟩ : ∃ k', k = k' + 1 := ⟨k - 1, by omega⟩
                    exact ih k' (by omega) (cs ++ cs2 ++ [-16]) a2 τ8 (by omega) (hw.bin hw2 (by decide)) hM8 hK1 hK2))
          · refine g_iload_n B dX6_added4_53 rfl ?_
            refine g_iload_n B dX6_added4_54 rfl ?_
            refine g_iadd B dX6_added4_55 ?_
            refine g_goto (tgt := 62) B dX6_added4_56 (by decide) ?_
            refine g_istore_n B dX6_added4_62 (by decide) rfl ?_
            refine g_goto (tgt := 5) B dX6_added4_63 (by decide) ?_
            first
              | exact absurd rfl c50
              | exact absurd c50 (by decide)
              | (have hop : opAdd (tT τ0 t n) b = some (-15) := if_pos (h43.mp (l_cmp_eq0.mp c31))
                 rw [hop] at hK1 hK2
                 dsimp only at hK1 hK2
                 rw [hf] at hK1 hK2
                 dsimp only at hK1 hK2
                 refine g_drop 2 (g_drop 3 ?_)
                 first
                 | exact lB_added4 B hB8 (hK1 f rfl _ _ hB8)
                 | (obtain ⟨hw2, hlt2⟩ := pTerm_ok (tT_TV hR) (pLev_ok (tT_TV hR) _) _ _ _ hf
                    rw [evc_add hw hw2]
                    obtain ⟨k', rfl⟩ : ∃ k', k = k' + 1 := ⟨k - 1, by omega⟩
                    exact ih k' (by omega) (cs ++ cs2 ++ [-15]) a2 τ8 (by omega) (hw.bin hw2 (by decide)) hM8 hK1 hK2))
              | (have h31 : ¬ tT τ0 t n b = 43 := fun h => c31 (l_cmp_eq0.mpr (h43.mpr h))
                 have hop : opAdd (tT τ0 t n) b = some (-16) := (if_neg h31).trans (if_pos (hT.resolve_left h31))
                 rw [hop] at hK1 hK2
                 dsimp only at hK1 hK2
                 rw [hf] at hK1 hK2
                 dsimp only at hK1 hK2
                 refine g_drop 2 (g_drop 3 ?_)
                 first
                 | exact lB_added4 B hB8 (hK1 f rfl _ _ hB8)
                 | (obtain ⟨hw2, hlt2⟩ := pTerm_ok (tT_TV hR) (pLev_ok (tT_TV hR) _) _ _ _ hf
                    rw [evc_sub hw hw2]
                    obtain ⟨k', rfl⟩ : ∃ k', k = k' + 1 := ⟨k - 1, by omega⟩
                    exact ih k' (by omega) (cs ++ cs2 ++ [-16]) a2 τ8 (by omega) (hw.bin hw2 (by decide)) hM8 hK1 hK2))
set_option maxRecDepth 100000 in
set_option maxHeartbeats 4000000 in
theorem c_added4 {Z : LZ} {ad : Nat → Nat} {τ0 τ : St} {K : Int32 → St → Prop} {t n a : Nat} (hR : RB τ0 t n) (hM : MS τ0 t n 4 a τ) (hK1 : ∀ f, pSum (tT τ0 t n) (tV τ0 t n) (pLev (tT τ0 t n) (tV τ0 t n) 1) a = .inl f → ∀ v τ', MB τ0 t n f τ' → K v τ') (hK2 : ∀ cs a2, pSum (tT τ0 t n) (tV τ0 t n) (pLev (tT τ0 t n) (tV τ0 t n) 1) a = .inr (cs, a2) → ∀ τ', MS τ0 t n 4 a2 τ' → K (evc (eM τ0) cs) τ') : CC lyM Z ad yX6_added4 wsX6_added4 (rmk 12) [.ref (ad 0)] τ (rI K) := by
  refine CC.of (cc := cX6_added4) (nL := 4) (ret := (some .int)) rfl rfl ⟨rfl, rfl⟩ (by exact Nat.le_of_ble_eq_true rfl) ?_
  intro X B
  change GG _ _ _ _ X _ 0 [some (.ref (ad 0)), none, none, none] [] _
  change Amb _ _ _ _ X _ _ RX6 _ _ at B
  unfold pSum pSeq at hK1 hK2
  refine g_aload_n B dX6_added4_0 rfl ?_
  refine g_callVi (C := RX6) (As := []) B dX6_added4_1 (gc1 g_X6_238) (by rfl) ⟨rfl, hd_X6_term4⟩ (by exact ⟨Nat.le_of_ble_eq_true rfl, Nat.le_of_ble_eq_true rfl⟩) ⟨rfl, rfl⟩ rfl rfl (by exact Nat.le_of_ble_eq_true rfl) recvM (c_term4 hR hM (fun f hf v8 τ8 hB8 => ?_) (fun cs a1 hf τ8 hM8 => ?_))
  · rw [hf] at hK1; dsimp only at hK1
    refine g_istore_n B dX6_added4_4 (by decide) rfl ?_
    first
      | exact lB_added4 B hB8 (hK1 f rfl _ _ hB8)
      | exact l_added4 B hR 199 cs a1 τ8 (by omega) (pTerm_ok (tT_TV hR) (pLev_ok (tT_TV hR) _) _ _ _ hf).1 hM8 hK1 hK2
  · rw [hf] at hK1 hK2; dsimp only at hK1 hK2
    refine g_istore_n B dX6_added4_4 (by decide) rfl ?_
    first
      | exact lB_added4 B hB8 (hK1 f rfl _ _ hB8)
      | exact l_added4 B hR 199 cs a1 τ8 (by omega) (pTerm_ok (tT_TV hR) (pLev_ok (tT_TV hR) _) _ _ _ hf).1 hM8 hK1 hK2
set_option maxRecDepth 100000 in
set_option maxHeartbeats 4000000 in
theorem n2_not4 {Z : LZ} {ad : Nat → Nat} {X : CX} {K : Int32 → St → Prop} {τ0 τ : St} {t n a1 : Nat} {cs : List Int32} (B : Amb lyM Z ad (rmk 13) X cX6_not4 wsX6_not4 RX6 4 (some .int)) (hR : RB τ0 t n) (hw : WF cs) (hM : MS τ0 t n 4 a1 τ) (hT : tT τ0 t n a1 = 60 ∨ tT τ0 t n a1 = 61)
    (hK1 : ∀ f, (match pSum (tT τ0 t n) (tV τ0 t n) (pLev (tT τ0 t n) (tV τ0 t n) 1) (a1 + 1) with | .inl f => (.inl f : PR) | .inr (cs2, a2) => .inr (cs ++ cs2 ++ [if tT τ0 t n a1 = 60 then -13 else -14], a2)) = .inl f → ∀ v τ', MB τ0 t n f τ' → K v τ') (hK2 : ∀ ds a2, (match pSum (tT τ0 t n) (tV τ0 t n) (pLev (tT τ0 t n) (tV τ0 t n) 1) (a1 + 1) with | .inl f => (.inl f : PR) | .inr (cs2, a2) => .inr (cs ++ cs2 ++ [if tT τ0 t n a1 = 60 then -13 else -14], a2)) = .inr (ds, a2) → ∀ τ', MS τ0 t n 4 a2 τ' → K (evc (eM τ0) ds) τ') : GG lyM Z ad (rmk 13) X (rI K) 77 [some (.ref (ad 0)), some (.int (evc (eM τ0) cs)), none, none] [] τ := by
  have hT0 : isS (tT τ0 t n a1) := by rcases hT with h | h <;> rw [h] <;> decide
  have hwv := hM.w hT0
  have h60 : τ.2.1 = 60 ↔ tT τ0 t n a1 = 60 := by
    rw [hwv]
    constructor
    · intro h
      have := congrArg Int64.toInt h
      rw [i_long] at this
      exact i_eq.mpr this
    · intro h
      rw [h]; rfl
  refine g_aload_n B dX6_not4_77 rfl ?_
  refine g_getL (T := TX6) (N := 42) B dX6_not4_78 (by decide) (by rfl) (inq inlX6) rfl 23 (by decide) (mq f_X6_155) (by rfl) ?_
  refine g_ldc2 (v := (60)) B dX6_not4_81 (mq k_X6_224) ?_
  refine g_lcmp B dX6_not4_84 ?_
  refine g_if_ne (tgt := 92) B dX6_not4_85 (by decide) (fun c85 => ?_) (fun c85 => ?_)
  · refine g_iconst (v := (0)) B dX6_not4_92 (by decide) ?_
    refine g_istore_n B dX6_not4_93 (by decide) rfl ?_
    refine g_aload_n B dX6_not4_94 rfl ?_
    refine g_callVv (C := RX6) (As := []) B dX6_not4_95 (gc1 g_X6_177) (by rfl) ⟨rfl, hd_X6_next⟩ (by exact ⟨Nat.le_of_ble_eq_true rfl, Nat.le_of_ble_eq_true rfl⟩) ⟨rfl, rfl⟩ rfl rfl (by exact Nat.le_of_ble_eq_true rfl) recvM (c_nx hR hM (isS_0 hT0) (fun τ2 hM2 => ?_))
    refine g_aload_n B dX6_not4_98 rfl ?_
    refine g_callVi (C := RX6) (As := []) B dX6_not4_99 (gc1 g_X6_241) (by rfl) ⟨rfl, hd_X6_added4⟩ (by exact ⟨Nat.le_of_ble_eq_true rfl, Nat.le_of_ble_eq_true rfl⟩) ⟨rfl, rfl⟩ rfl rfl (by exact Nat.le_of_ble_eq_true rfl) recvM (c_added4 hR hM2 (fun f hf v9 τ9 hB9 => ?_) (fun cs2 a2 hf τ9 hM9 => ?_))
    · rw [hf] at hK1; dsimp only at hK1
      refine g_istore_n B dX6_not4_102 (by decide) rfl ?_
      refine g_iload_n B dX6_not4_103 rfl ?_
      refine g_if_eq (tgt := 115) B dX6_not4_104 (by decide) (fun c104 => ?_) (fun c104 => ?_)
      · refine g_iload_n B dX6_not4_115 rfl ?_
        refine g_iload_n B dX6_not4_116 rfl ?_
        refine g_icmp_ne (tgt := 124) B dX6_not4_117 (by decide) (fun c117 => ?_) (fun c117 => ?_)
        · refine g_iconst (v := (0)) B dX6_not4_124 (by decide) ?_
          refine g_ireti B dX6_not4_125 ?_
          first
            | exact hK1 f rfl _ _ hB9
            | exact absurd rfl c104
            | exact absurd c104 (by decide)
            | (have h6 := h60.mp (l_cmp_eq0.mp c85)
               refine kk ?_ (hK2 _ _ rfl _ hM9)
               rw [if_pos h6, evc_bin hw hw2 (by decide)]
               unfold jn
               rw [if_neg (by decide), if_neg (by decide), if_pos rfl]
               first
               | rw [if_pos (Int32.not_le.mp c109)]
               | rw [if_neg (Int32.not_lt.mpr c109)])
            | (have h6 : ¬ tT τ0 t n a1 = 60 := fun h => c85 (l_cmp_eq0.mpr (h60.mpr h))
               refine kk ?_ (hK2 _ _ rfl _ hM9)
               rw [if_neg h6, evc_bin hw hw2 (by decide)]
               unfold jn
               rw [if_neg (by decide), if_neg (by decide), if_neg (by decide), if_pos rfl]
               first
               | rw [if_pos c117]
               | rw [if_neg c117]
               | rw [if_pos c117])
        · refine g_iconst (v := (1)) B dX6_not4_120 (by decide) ?_
          refine g_goto (tgt := 125) B dX6_not4_121 (by decide) ?_
          refine g_ireti B dX6_not4_125 ?_
          first
            | exact hK1 f rfl _ _ hB9
            | exact absurd rfl c104
            | exact absurd c104 (by decide)
            | (have h6 := h60.mp (l_cmp_eq0.mp c85)
               refine kk ?_ (hK2 _ _ rfl _ hM9)
               rw [if_pos h6, evc_bin hw hw2 (by decide)]
               unfold jn
               rw [if_neg (by decide), if_neg (by decide), if_pos rfl]
               first
               | rw [if_pos (Int32.not_le.mp c109)]
               | rw [if_neg (Int32.not_lt.mpr c109)])
            | (have h6 : ¬ tT τ0 t n a1 = 60 := fun h => c85 (l_cmp_eq0.mpr (h60.mpr h))
               refine kk ?_ (hK2 _ _ rfl _ hM9)
               rw [if_neg h6, evc_bin hw hw2 (by decide)]
               unfold jn
               rw [if_neg (by decide), if_neg (by decide), if_neg (by decide), if_pos rfl]
               first
               | rw [if_pos c117]
               | rw [if_neg c117]
               | rw [if_pos c117])
      · refine g_iload_n B dX6_not4_107 rfl ?_
        refine g_iload_n B dX6_not4_108 rfl ?_
        refine g_icmp_ge (tgt := 124) B dX6_not4_109 (by decide) (fun c109 => ?_) (fun c109 => ?_)
        · refine g_iconst (v := (0)) B dX6_not4_124 (by decide) ?_
          refine g_ireti B dX6_not4_125 ?_
          first
            | exact hK1 f rfl _ _ hB9
            | exact absurd rfl c104
            | exact absurd c104 (by decide)
            | (have h6 := h60.mp (l_cmp_eq0.mp c85)
               refine kk ?_ (hK2 _ _ rfl _ hM9)
               rw [if_pos h6, evc_bin hw hw2 (by decide)]
               unfold jn
               rw [if_neg (by decide), if_neg (by decide), if_pos rfl]
               first
               | rw [if_pos (Int32.not_le.mp c109)]
               | rw [if_neg (Int32.not_lt.mpr c109)])
            | (have h6 : ¬ tT τ0 t n a1 = 60 := fun h => c85 (l_cmp_eq0.mpr (h60.mpr h))
               refine kk ?_ (hK2 _ _ rfl _ hM9)
               rw [if_neg h6, evc_bin hw hw2 (by decide)]
               unfold jn
               rw [if_neg (by decide), if_neg (by decide), if_neg (by decide), if_pos rfl]
               first
               | rw [if_pos c117]
               | rw [if_neg c117]
               | rw [if_pos c117])
        · refine g_goto (tgt := 120) B dX6_not4_112 (by decide) ?_
          refine g_iconst (v := (1)) B dX6_not4_120 (by decide) ?_
          refine g_goto (tgt := 125) B dX6_not4_121 (by decide) ?_
          refine g_ireti B dX6_not4_125 ?_
          first
            | exact hK1 f rfl _ _ hB9
            | exact absurd rfl c104
            | exact absurd c104 (by decide)
            | (have h6 := h60.mp (l_cmp_eq0.mp c85)
               refine kk ?_ (hK2 _ _ rfl _ hM9)
               rw [if_pos h6, evc_bin hw hw2 (by decide)]
               unfold jn
               rw [if_neg (by decide), if_neg (by decide), if_pos rfl]
               first
               | rw [if_pos (Int32.not_le.mp c109)]
               | rw [if_neg (Int32.not_lt.mpr c109)])
            | (have h6 : ¬ tT τ0 t n a1 = 60 := fun h => c85 (l_cmp_eq0.mpr (h60.mpr h))
               refine kk ?_ (hK2 _ _ rfl _ hM9)
               rw [if_neg h6, evc_bin hw hw2 (by decide)]
               unfold jn
               rw [if_neg (by decide), if_neg (by decide), if_neg (by decide), if_pos rfl]
               first
               | rw [if_pos c117]
               | rw [if_neg c117]
               | rw [if_pos c117])
    · rw [hf] at hK1 hK2; dsimp only at hK1 hK2; have hw2 := (pSum_ok (tT_TV hR) (pLev_ok (tT_TV hR) _) _ _ _ hf).1
      refine g_istore_n B dX6_not4_102 (by decide) rfl ?_
      refine g_iload_n B dX6_not4_103 rfl ?_
      refine g_if_eq (tgt := 115) B dX6_not4_104 (by decide) (fun c104 => ?_) (fun c104 => ?_)
      · refine g_iload_n B dX6_not4_115 rfl ?_
        refine g_iload_n B dX6_not4_116 rfl ?_
        refine g_icmp_ne (tgt := 124) B dX6_not4_117 (by decide) (fun c117 => ?_) (fun c117 => ?_)
        · refine g_iconst (v := (0)) B dX6_not4_124 (by decide) ?_
          refine g_ireti B dX6_not4_125 ?_
          first
            | exact hK1 f rfl _ _ hB9
            | exact absurd rfl c104
            | exact absurd c104 (by decide)
            | (have h6 := h60.mp (l_cmp_eq0.mp c85)
               refine kk ?_ (hK2 _ _ rfl _ hM9)
               rw [if_pos h6, evc_bin hw hw2 (by decide)]
               unfold jn
               rw [if_neg (by decide), if_neg (by decide), if_pos rfl]
               first
               | rw [if_pos (Int32.not_le.mp c109)]
               | rw [if_neg (Int32.not_lt.mpr c109)])
            | (have h6 : ¬ tT τ0 t n a1 = 60 := fun h => c85 (l_cmp_eq0.mpr (h60.mpr h))
               refine kk ?_ (hK2 _ _ rfl _ hM9)
               rw [if_neg h6, evc_bin hw hw2 (by decide)]
               unfold jn
               rw [if_neg (by decide), if_neg (by decide), if_neg (by decide), if_pos rfl]
               first
               | rw [if_pos c117]
               | rw [if_neg c117]
               | rw [if_pos c117])
        · refine g_iconst (v := (1)) B dX6_not4_120 (by decide) ?_
          refine g_goto (tgt := 125) B dX6_not4_121 (by decide) ?_
          refine g_ireti B dX6_not4_125 ?_
          first
            | exact hK1 f rfl _ _ hB9
            | exact absurd rfl c104
            | exact absurd c104 (by decide)
            | (have h6 := h60.mp (l_cmp_eq0.mp c85)
               refine kk ?_ (hK2 _ _ rfl _ hM9)
               rw [if_pos h6, evc_bin hw hw2 (by decide)]
               unfold jn
               rw [if_neg (by decide), if_neg (by decide), if_pos rfl]
               first
               | rw [if_pos (Int32.not_le.mp c109)]
               | rw [if_neg (Int32.not_lt.mpr c109)])
            | (have h6 : ¬ tT τ0 t n a1 = 60 := fun h => c85 (l_cmp_eq0.mpr (h60.mpr h))
               refine kk ?_ (hK2 _ _ rfl _ hM9)
               rw [if_neg h6, evc_bin hw hw2 (by decide)]
               unfold jn
               rw [if_neg (by decide), if_neg (by decide), if_neg (by decide), if_pos rfl]
               first
               | rw [if_pos c117]
               | rw [if_neg c117]
               | rw [if_pos c117])
      · refine g_iload_n B dX6_not4_107 rfl ?_
        refine g_iload_n B dX6_not4_108 rfl ?_
        refine g_icmp_ge (tgt := 124) B dX6_not4_109 (by decide) (fun c109 => ?_) (fun c109 => ?_)
        · refine g_iconst (v := (0)) B dX6_not4_124 (by decide) ?_
          refine g_ireti B dX6_not4_125 ?_
          first
            | exact hK1 f rfl _ _ hB9
            | exact absurd rfl c104
            | exact absurd c104 (by decide)
            | (have h6 := h60.mp (l_cmp_eq0.mp c85)
               refine kk ?_ (hK2 _ _ rfl _ hM9)
               rw [if_pos h6, evc_bin hw hw2 (by decide)]
               unfold jn
               rw [if_neg (by decide), if_neg (by decide), if_pos rfl]
               first
               | rw [if_pos (Int32.not_le.mp c109)]
               | rw [if_neg (Int32.not_lt.mpr c109)])
            | (have h6 : ¬ tT τ0 t n a1 = 60 := fun h => c85 (l_cmp_eq0.mpr (h60.mpr h))
               refine kk ?_ (hK2 _ _ rfl _ hM9)
               rw [if_neg h6, evc_bin hw hw2 (by decide)]
               unfold jn
               rw [if_neg (by decide), if_neg (by decide), if_neg (by decide), if_pos rfl]
               first
               | rw [if_pos c117]
               | rw [if_neg c117]
               | rw [if_pos c117])
        · refine g_goto (tgt := 120) B dX6_not4_112 (by decide) ?_
          refine g_iconst (v := (1)) B dX6_not4_120 (by decide) ?_
          refine g_goto (tgt := 125) B dX6_not4_121 (by decide) ?_
          refine g_ireti B dX6_not4_125 ?_
          first
            | exact hK1 f rfl _ _ hB9
            | exact absurd rfl c104
            | exact absurd c104 (by decide)
            | (have h6 := h60.mp (l_cmp_eq0.mp c85)
               refine kk ?_ (hK2 _ _ rfl _ hM9)
               rw [if_pos h6, evc_bin hw hw2 (by decide)]
               unfold jn
               rw [if_neg (by decide), if_neg (by decide), if_pos rfl]
               first
               | rw [if_pos (Int32.not_le.mp c109)]
               | rw [if_neg (Int32.not_lt.mpr c109)])
            | (have h6 : ¬ tT τ0 t n a1 = 60 := fun h => c85 (l_cmp_eq0.mpr (h60.mpr h))
               refine kk ?_ (hK2 _ _ rfl _ hM9)
               rw [if_neg h6, evc_bin hw hw2 (by decide)]
               unfold jn
               rw [if_neg (by decide), if_neg (by decide), if_neg (by decide), if_pos rfl]
               first
               | rw [if_pos c117]
               | rw [if_neg c117]
               | rw [if_pos c117])
  · refine g_iconst (v := (1)) B dX6_not4_88 (by decide) ?_
    refine g_goto (tgt := 93) B dX6_not4_89 (by decide) ?_
    refine g_istore_n B dX6_not4_93 (by decide) rfl ?_
    refine g_aload_n B dX6_not4_94 rfl ?_
    refine g_callVv (C := RX6) (As := []) B dX6_not4_95 (gc1 g_X6_177) (by rfl) ⟨rfl, hd_X6_next⟩ (by exact ⟨Nat.le_of_ble_eq_true rfl, Nat.le_of_ble_eq_true rfl⟩) ⟨rfl, rfl⟩ rfl rfl (by exact Nat.le_of_ble_eq_true rfl) recvM (c_nx hR hM (isS_0 hT0) (fun τ2 hM2 => ?_))
    refine g_aload_n B dX6_not4_98 rfl ?_
    refine g_callVi (C := RX6) (As := []) B dX6_not4_99 (gc1 g_X6_241) (by rfl) ⟨rfl, hd_X6_added4⟩ (by exact ⟨Nat.le_of_ble_eq_true rfl, Nat.le_of_ble_eq_true rfl⟩) ⟨rfl, rfl⟩ rfl rfl (by exact Nat.le_of_ble_eq_true rfl) recvM (c_added4 hR hM2 (fun f hf v9 τ9 hB9 => ?_) (fun cs2 a2 hf τ9 hM9 => ?_))
    · rw [hf] at hK1; dsimp only at hK1
      refine g_istore_n B dX6_not4_102 (by decide) rfl ?_
      refine g_iload_n B dX6_not4_103 rfl ?_
      refine g_if_eq (tgt := 115) B dX6_not4_104 (by decide) (fun c104 => ?_) (fun c104 => ?_)
      · refine g_iload_n B dX6_not4_115 rfl ?_
        refine g_iload_n B dX6_not4_116 rfl ?_
        refine g_icmp_ne (tgt := 124) B dX6_not4_117 (by decide) (fun c117 => ?_) (fun c117 => ?_)
        · refine g_iconst (v := (0)) B dX6_not4_124 (by decide) ?_
          refine g_ireti B dX6_not4_125 ?_
          first
            | exact hK1 f rfl _ _ hB9
            | exact absurd rfl c104
            | exact absurd c104 (by decide)
            | (have h6 := h60.mp (l_cmp_eq0.mp c85)
               refine kk ?_ (hK2 _ _ rfl _ hM9)
               rw [if_pos h6, evc_bin hw hw2 (by decide)]
               unfold jn
               rw [if_neg (by decide), if_neg (by decide), if_pos rfl]
               first
               | rw [if_pos (Int32.not_le.mp c109)]
               | rw [if_neg (Int32.not_lt.mpr c109)])
            | (have h6 : ¬ tT τ0 t n a1 = 60 := fun h => c85 (l_cmp_eq0.mpr (h60.mpr h))
               refine kk ?_ (hK2 _ _ rfl _ hM9)
               rw [if_neg h6, evc_bin hw hw2 (by decide)]
               unfold jn
               rw [if_neg (by decide), if_neg (by decide), if_neg (by decide), if_pos rfl]
               first
               | rw [if_pos c117]
               | rw [if_neg c117]
               | rw [if_pos c117])
        · refine g_iconst (v := (1)) B dX6_not4_120 (by decide) ?_
          refine g_goto (tgt := 125) B dX6_not4_121 (by decide) ?_
          refine g_ireti B dX6_not4_125 ?_
          first
            | exact hK1 f rfl _ _ hB9
            | exact absurd rfl c104
            | exact absurd c104 (by decide)
            | (have h6 := h60.mp (l_cmp_eq0.mp c85)
               refine kk ?_ (hK2 _ _ rfl _ hM9)
               rw [if_pos h6, evc_bin hw hw2 (by decide)]
               unfold jn
               rw [if_neg (by decide), if_neg (by decide), if_pos rfl]
               first
               | rw [if_pos (Int32.not_le.mp c109)]
               | rw [if_neg (Int32.not_lt.mpr c109)])
            | (have h6 : ¬ tT τ0 t n a1 = 60 := fun h => c85 (l_cmp_eq0.mpr (h60.mpr h))
               refine kk ?_ (hK2 _ _ rfl _ hM9)
               rw [if_neg h6, evc_bin hw hw2 (by decide)]
               unfold jn
               rw [if_neg (by decide), if_neg (by decide), if_neg (by decide), if_pos rfl]
               first
               | rw [if_pos c117]
               | rw [if_neg c117]
               | rw [if_pos c117])
      · refine g_iload_n B dX6_not4_107 rfl ?_
        refine g_iload_n B dX6_not4_108 rfl ?_
        refine g_icmp_ge (tgt := 124) B dX6_not4_109 (by decide) (fun c109 => ?_) (fun c109 => ?_)
        · refine g_iconst (v := (0)) B dX6_not4_124 (by decide) ?_
          refine g_ireti B dX6_not4_125 ?_
          first
            | exact hK1 f rfl _ _ hB9
            | exact absurd rfl c104
            | exact absurd c104 (by decide)
            | (have h6 := h60.mp (l_cmp_eq0.mp c85)
               refine kk ?_ (hK2 _ _ rfl _ hM9)
               rw [if_pos h6, evc_bin hw hw2 (by decide)]
               unfold jn
               rw [if_neg (by decide), if_neg (by decide), if_pos rfl]
               first
               | rw [if_pos (Int32.not_le.mp c109)]
               | rw [if_neg (Int32.not_lt.mpr c109)])
            | (have h6 : ¬ tT τ0 t n a1 = 60 := fun h => c85 (l_cmp_eq0.mpr (h60.mpr h))
               refine kk ?_ (hK2 _ _ rfl _ hM9)
               rw [if_neg h6, evc_bin hw hw2 (by decide)]
               unfold jn
               rw [if_neg (by decide), if_neg (by decide), if_neg (by decide), if_pos rfl]
               first
               | rw [if_pos c117]
               | rw [if_neg c117]
               | rw [if_pos c117])
        · refine g_goto (tgt := 120) B dX6_not4_112 (by decide) ?_
          refine g_iconst (v := (1)) B dX6_not4_120 (by decide) ?_
          refine g_goto (tgt := 125) B dX6_not4_121 (by decide) ?_
          refine g_ireti B dX6_not4_125 ?_
          first
            | exact hK1 f rfl _ _ hB9
            | exact absurd rfl c104
            | exact absurd c104 (by decide)
            | (have h6 := h60.mp (l_cmp_eq0.mp c85)
               refine kk ?_ (hK2 _ _ rfl _ hM9)
               rw [if_pos h6, evc_bin hw hw2 (by decide)]
               unfold jn
               rw [if_neg (by decide), if_neg (by decide), if_pos rfl]
               first
               | rw [if_pos (Int32.not_le.mp c109)]
               | rw [if_neg (Int32.not_lt.mpr c109)])
            | (have h6 : ¬ tT τ0 t n a1 = 60 := fun h => c85 (l_cmp_eq0.mpr (h60.mpr h))
               refine kk ?_ (hK2 _ _ rfl _ hM9)
               rw [if_neg h6, evc_bin hw hw2 (by decide)]
               unfold jn
               rw [if_neg (by decide), if_neg (by decide), if_neg (by decide), if_pos rfl]
               first
               | rw [if_pos c117]
               | rw [if_neg c117]
               | rw [if_pos c117])
    · rw [hf] at hK1 hK2; dsimp only at hK1 hK2; have hw2 := (pSum_ok (tT_TV hR) (pLev_ok (tT_TV hR) _) _ _ _ hf).1
      refine g_istore_n B dX6_not4_102 (by decide) rfl ?_
      refine g_iload_n B dX6_not4_103 rfl ?_
      refine g_if_eq (tgt := 115) B dX6_not4_104 (by decide) (fun c104 => ?_) (fun c104 => ?_)
      · refine g_iload_n B dX6_not4_115 rfl ?_
        refine g_iload_n B dX6_not4_116 rfl ?_
        refine g_icmp_ne (tgt := 124) B dX6_not4_117 (by decide) (fun c117 => ?_) (fun c117 => ?_)
        · refine g_iconst (v := (0)) B dX6_not4_124 (by decide) ?_
          refine g_ireti B dX6_not4_125 ?_
          first
            | exact hK1 f rfl _ _ hB9
            | exact absurd rfl c104
            | exact absurd c104 (by decide)
            | (have h6 := h60.mp (l_cmp_eq0.mp c85)
               refine kk ?_ (hK2 _ _ rfl _ hM9)
               rw [if_pos h6, evc_bin hw hw2 (by decide)]
               unfold jn
               rw [if_neg (by decide), if_neg (by decide), if_pos rfl]
               first
               | rw [if_pos (Int32.not_le.mp c109)]
               | rw [if_neg (Int32.not_lt.mpr c109)])
            | (have h6 : ¬ tT τ0 t n a1 = 60 := fun h => c85 (l_cmp_eq0.mpr (h60.mpr h))
               refine kk ?_ (hK2 _ _ rfl _ hM9)
               rw [if_neg h6, evc_bin hw hw2 (by decide)]
               unfold jn
               rw [if_neg (by decide), if_neg (by decide), if_neg (by decide), if_pos rfl]
               first
               | rw [if_pos c117]
               | rw [if_neg c117]
               | rw [if_pos c117])
        · refine g_iconst (v := (1)) B dX6_not4_120 (by decide) ?_
          refine g_goto (tgt := 125) B dX6_not4_121 (by decide) ?_
          refine g_ireti B dX6_not4_125 ?_
          first
            | exact hK1 f rfl _ _ hB9
            | exact absurd rfl c104
            | exact absurd c104 (by decide)
            | (have h6 := h60.mp (l_cmp_eq0.mp c85)
               refine kk ?_ (hK2 _ _ rfl _ hM9)
               rw [if_pos h6, evc_bin hw hw2 (by decide)]
               unfold jn
               rw [if_neg (by decide), if_neg (by decide), if_pos rfl]
               first
               | rw [if_pos (Int32.not_le.mp c109)]
               | rw [if_neg (Int32.not_lt.mpr c109)])
            | (have h6 : ¬ tT τ0 t n a1 = 60 := fun h => c85 (l_cmp_eq0.mpr (h60.mpr h))
               refine kk ?_ (hK2 _ _ rfl _ hM9)
               rw [if_neg h6, evc_bin hw hw2 (by decide)]
               unfold jn
               rw [if_neg (by decide), if_neg (by decide), if_neg (by decide), if_pos rfl]
               first
               | rw [if_pos c117]
               | rw [if_neg c117]
               | rw [if_pos c117])
      · refine g_iload_n B dX6_not4_107 rfl ?_
        refine g_iload_n B dX6_not4_108 rfl ?_
        refine g_icmp_ge (tgt := 124) B dX6_not4_109 (by decide) (fun c109 => ?_) (fun c109 => ?_)
        · refine g_iconst (v := (0)) B dX6_not4_124 (by decide) ?_
          refine g_ireti B dX6_not4_125 ?_
          first
            | exact hK1 f rfl _ _ hB9
            | exact absurd rfl c104
            | exact absurd c104 (by decide)
            | (have h6 := h60.mp (l_cmp_eq0.mp c85)
               refine kk ?_ (hK2 _ _ rfl _ hM9)
               rw [if_pos h6, evc_bin hw hw2 (by decide)]
               unfold jn
               rw [if_neg (by decide), if_neg (by decide), if_pos rfl]
               first
               | rw [if_pos (Int32.not_le.mp c109)]
               | rw [if_neg (Int32.not_lt.mpr c109)])
            | (have h6 : ¬ tT τ0 t n a1 = 60 := fun h => c85 (l_cmp_eq0.mpr (h60.mpr h))
               refine kk ?_ (hK2 _ _ rfl _ hM9)
               rw [if_neg h6, evc_bin hw hw2 (by decide)]
               unfold jn
               rw [if_neg (by decide), if_neg (by decide), if_neg (by decide), if_pos rfl]
               first
               | rw [if_pos c117]
               | rw [if_neg c117]
               | rw [if_pos c117])
        · refine g_goto (tgt := 120) B dX6_not4_112 (by decide) ?_
          refine g_iconst (v := (1)) B dX6_not4_120 (by decide) ?_
          refine g_goto (tgt := 125) B dX6_not4_121 (by decide) ?_
          refine g_ireti B dX6_not4_125 ?_
          first
            | exact hK1 f rfl _ _ hB9
            | exact absurd rfl c104
            | exact absurd c104 (by decide)
            | (have h6 := h60.mp (l_cmp_eq0.mp c85)
               refine kk ?_ (hK2 _ _ rfl _ hM9)
               rw [if_pos h6, evc_bin hw hw2 (by decide)]
               unfold jn
               rw [if_neg (by decide), if_neg (by decide), if_pos rfl]
               first
               | rw [if_pos (Int32.not_le.mp c109)]
               | rw [if_neg (Int32.not_lt.mpr c109)])
            | (have h6 : ¬ tT τ0 t n a1 = 60 := fun h => c85 (l_cmp_eq0.mpr (h60.mpr h))
               refine kk ?_ (hK2 _ _ rfl _ hM9)
               rw [if_neg h6, evc_bin hw hw2 (by decide)]
               unfold jn
               rw [if_neg (by decide), if_neg (by decide), if_neg (by decide), if_pos rfl]
               first
               | rw [if_pos c117]
               | rw [if_neg c117]
               | rw [if_pos c117])

set_option maxRecDepth 100000 in
set_option maxHeartbeats 4000000 in
theorem c_not4 {Z : LZ} {ad : Nat → Nat} {τ0 τ : St} {K : Int32 → St → Prop} {t n a : Nat} (hR : RB τ0 t n) (hM : MS τ0 t n 4 a τ) (hK1 : ∀ f, pNot (tT τ0 t n) (tV τ0 t n) (pLev (tT τ0 t n) (tV τ0 t n) 1) a = .inl f → ∀ v τ', MB τ0 t n f τ' → K v τ') (hK2 : ∀ cs a2, pNot (tT τ0 t n) (tV τ0 t n) (pLev (tT τ0 t n) (tV τ0 t n) 1) a = .inr (cs, a2) → ∀ τ', MS τ0 t n 4 a2 τ' → K (evc (eM τ0) cs) τ') : CC lyM Z ad yX6_not4 wsX6_not4 (rmk 13) [.ref (ad 0)] τ (rI K) := by
  refine CC.of (cc := cX6_not4) (nL := 4) (ret := (some .int)) rfl rfl ⟨rfl, rfl⟩ (by exact Nat.le_of_ble_eq_true rfl) ?_
  intro X B
  change GG _ _ _ _ X _ 0 [some (.ref (ad 0)), none, none, none] [] _
  change Amb _ _ _ _ X _ _ RX6 _ _ at B
  refine g_aload_n B dX6_not4_0 rfl ?_
  refine g_bipush (v := (110)) B dX6_not4_1 (by decide) ?_
  refine g_bipush (v := (111)) B dX6_not4_3 (by decide) ?_
  refine g_bipush (v := (116)) B dX6_not4_5 (by decide) ?_
  refine g_iconst (v := (0)) B dX6_not4_7 (by decide) ?_
  refine g_iconst (v := (0)) B dX6_not4_8 (by decide) ?_
  refine g_iconst (v := (0)) B dX6_not4_9 (by decide) ?_
  refine g_iconst (v := (0)) B dX6_not4_10 (by decide) ?_
  refine g_iconst (v := (0)) B dX6_not4_11 (by decide) ?_
  refine g_callVi (C := RX6) (As := [.int _, .int _, .int _, .int _, .int _, .int _, .int _, .int _]) B dX6_not4_12 (gc1 g_X6_180) (by rfl) ⟨rfl, hd_X6_isWord⟩ (by exact ⟨Nat.le_of_ble_eq_true rfl, Nat.le_of_ble_eq_true rfl⟩) ⟨rfl, rfl⟩ rfl rfl (by exact Nat.le_of_ble_eq_true rfl) recvM (c_key (c := 306) hR hM (by decide) (fun _ _ _ => wS_not) ?_)
  refine g_if_eq (tgt := 52) B dX6_not4_15 (by decide) (fun c15 => ?_) (fun c15 => ?_)
  · have hno : ¬ tT τ0 t n a = 306 := b1_0.mp c15
    unfold pNot at hK1 hK2
    rw [if_neg hno] at hK1 hK2
    unfold pCmp at hK1 hK2
    refine g_aload_n B dX6_not4_52 rfl ?_
    refine g_callVi (C := RX6) (As := []) B dX6_not4_53 (gc1 g_X6_241) (by rfl) ⟨rfl, hd_X6_added4⟩ (by exact ⟨Nat.le_of_ble_eq_true rfl, Nat.le_of_ble_eq_true rfl⟩) ⟨rfl, rfl⟩ rfl rfl (by exact Nat.le_of_ble_eq_true rfl) recvM (c_added4 hR hM (fun f hf v8 τ8 hB8 => ?_) (fun cs a1 hf τ8 hM8 => ?_))
    · rw [hf] at hK1; dsimp only at hK1
      refine g_istore_n B dX6_not4_56 (by decide) rfl ?_
      refine g_aload_n B dX6_not4_57 rfl ?_
      refine g_bipush (v := (60)) B dX6_not4_58 (by decide) ?_
      first
        | refine g_callVi (C := RX6) (As := [.int _]) B dX6_not4_60 (gc1 g_X6_202) (by rfl) ⟨rfl, hd_X6_isSign⟩ (by exact ⟨Nat.le_of_ble_eq_true rfl, Nat.le_of_ble_eq_true rfl⟩) ⟨rfl, rfl⟩ rfl rfl (by exact Nat.le_of_ble_eq_true rfl) recvM (c_sgnB hB8 ?_)
        | refine g_callVi (C := RX6) (As := [.int _]) B dX6_not4_60 (gc1 g_X6_202) (by rfl) ⟨rfl, hd_X6_isSign⟩ (by exact ⟨Nat.le_of_ble_eq_true rfl, Nat.le_of_ble_eq_true rfl⟩) ⟨rfl, rfl⟩ rfl rfl (by exact Nat.le_of_ble_eq_true rfl) recvM (c_sgn hM8 (show isS 60 by decide) ?_)
      refine g_if_ne (tgt := 77) B dX6_not4_63 (by decide) (fun c63 => ?_) (fun c63 => ?_)
      · first
          | exact absurd rfl c63
          | exact absurd rfl c72
          | (have hT : tT τ0 t n a1 = 60 ∨ tT τ0 t n a1 = 61 := by first | exact Or.inl (b1_n0.mp c63) | exact Or.inr (b1_n0.mp c72)
             rw [if_pos hT] at hK1 hK2
             exact n2_not4 B hR (pSum_ok (tT_TV hR) (pLev_ok (tT_TV hR) _) _ _ _ hf).1 hM8 hT hK1 hK2)
      · refine g_aload_n B dX6_not4_66 rfl ?_
        refine g_bipush (v := (61)) B dX6_not4_67 (by decide) ?_
        first
          | refine g_callVi (C := RX6) (As := [.int _]) B dX6_not4_69 (gc1 g_X6_202) (by rfl) ⟨rfl, hd_X6_isSign⟩ (by exact ⟨Nat.le_of_ble_eq_true rfl, Nat.le_of_ble_eq_true rfl⟩) ⟨rfl, rfl⟩ rfl rfl (by exact Nat.le_of_ble_eq_true rfl) recvM (c_sgnB hB8 ?_)
          | refine g_callVi (C := RX6) (As := [.int _]) B dX6_not4_69 (gc1 g_X6_202) (by rfl) ⟨rfl, hd_X6_isSign⟩ (by exact ⟨Nat.le_of_ble_eq_true rfl, Nat.le_of_ble_eq_true rfl⟩) ⟨rfl, rfl⟩ rfl rfl (by exact Nat.le_of_ble_eq_true rfl) recvM (c_sgn hM8 (show isS 61 by decide) ?_)
        refine g_if_ne (tgt := 77) B dX6_not4_72 (by decide) (fun c72 => ?_) (fun c72 => ?_)
        · first
            | exact absurd rfl c63
            | exact absurd rfl c72
            | (have hT : tT τ0 t n a1 = 60 ∨ tT τ0 t n a1 = 61 := by first | exact Or.inl (b1_n0.mp c63) | exact Or.inr (b1_n0.mp c72)
               rw [if_pos hT] at hK1 hK2
               exact n2_not4 B hR (pSum_ok (tT_TV hR) (pLev_ok (tT_TV hR) _) _ _ _ hf).1 hM8 hT hK1 hK2)
        · refine g_iload_n B dX6_not4_75 rfl ?_
          refine g_ireti B dX6_not4_76 ?_
          first
            | exact hK1 f rfl _ _ hB8
            | (rw [if_neg (fun h => h.elim (b1_0.mp c63) (b1_0.mp c72))] at hK2
               exact hK2 _ _ rfl _ hM8)
    · rw [hf] at hK1 hK2; dsimp only at hK1 hK2
      refine g_istore_n B dX6_not4_56 (by decide) rfl ?_
      refine g_aload_n B dX6_not4_57 rfl ?_
      refine g_bipush (v := (60)) B dX6_not4_58 (by decide) ?_
      first
        | refine g_callVi (C := RX6) (As := [.int _]) B dX6_not4_60 (gc1 g_X6_202) (by rfl) ⟨rfl, hd_X6_isSign⟩ (by exact ⟨Nat.le_of_ble_eq_true rfl, Nat.le_of_ble_eq_true rfl⟩) ⟨rfl, rfl⟩ rfl rfl (by exact Nat.le_of_ble_eq_true rfl) recvM (c_sgnB hB8 ?_)
        | refine g_callVi (C := RX6) (As := [.int _]) B dX6_not4_60 (gc1 g_X6_202) (by rfl) ⟨rfl, hd_X6_isSign⟩ (by exact ⟨Nat.le_of_ble_eq_true rfl, Nat.le_of_ble_eq_true rfl⟩) ⟨rfl, rfl⟩ rfl rfl (by exact Nat.le_of_ble_eq_true rfl) recvM (c_sgn hM8 (show isS 60 by decide) ?_)
      refine g_if_ne (tgt := 77) B dX6_not4_63 (by decide) (fun c63 => ?_) (fun c63 => ?_)
      · first
          | exact absurd rfl c63
          | exact absurd rfl c72
          | (have hT : tT τ0 t n a1 = 60 ∨ tT τ0 t n a1 = 61 := by first | exact Or.inl (b1_n0.mp c63) | exact Or.inr (b1_n0.mp c72)
             rw [if_pos hT] at hK1 hK2
             exact n2_not4 B hR (pSum_ok (tT_TV hR) (pLev_ok (tT_TV hR) _) _ _ _ hf).1 hM8 hT hK1 hK2)
      · refine g_aload_n B dX6_not4_66 rfl ?_
        refine g_bipush (v := (61)) B dX6_not4_67 (by decide) ?_
        first
          | refine g_callVi (C := RX6) (As := [.int _]) B dX6_not4_69 (gc1 g_X6_202) (by rfl) ⟨rfl, hd_X6_isSign⟩ (by exact ⟨Nat.le_of_ble_eq_true rfl, Nat.le_of_ble_eq_true rfl⟩) ⟨rfl, rfl⟩ rfl rfl (by exact Nat.le_of_ble_eq_true rfl) recvM (c_sgnB hB8 ?_)
          | refine g_callVi (C := RX6) (As := [.int _]) B dX6_not4_69 (gc1 g_X6_202) (by rfl) ⟨rfl, hd_X6_isSign⟩ (by exact ⟨Nat.le_of_ble_eq_true rfl, Nat.le_of_ble_eq_true rfl⟩) ⟨rfl, rfl⟩ rfl rfl (by exact Nat.le_of_ble_eq_true rfl) recvM (c_sgn hM8 (show isS 61 by decide) ?_)
        refine g_if_ne (tgt := 77) B dX6_not4_72 (by decide) (fun c72 => ?_) (fun c72 => ?_)
        · first
            | exact absurd rfl c63
            | exact absurd rfl c72
            | (have hT : tT τ0 t n a1 = 60 ∨ tT τ0 t n a1 = 61 := by first | exact Or.inl (b1_n0.mp c63) | exact Or.inr (b1_n0.mp c72)
               rw [if_pos hT] at hK1 hK2
               exact n2_not4 B hR (pSum_ok (tT_TV hR) (pLev_ok (tT_TV hR) _) _ _ _ hf).1 hM8 hT hK1 hK2)
        · refine g_iload_n B dX6_not4_75 rfl ?_
          refine g_ireti B dX6_not4_76 ?_
          first
            | exact hK1 f rfl _ _ hB8
            | (rw [if_neg (fun h => h.elim (b1_0.mp c63) (b1_0.mp c72))] at hK2
               exact hK2 _ _ rfl _ hM8)
  · refine g_aload_n B dX6_not4_18 rfl ?_
    refine g_callVi (C := RX6) (As := []) B dX6_not4_19 (gc1 g_X6_205) (by rfl) ⟨rfl, hd_X6_opens⟩ (by exact ⟨Nat.le_of_ble_eq_true rfl, Nat.le_of_ble_eq_true rfl⟩) ⟨rfl, rfl⟩ rfl rfl (by exact Nat.le_of_ble_eq_true rfl) recvM (c_opn hR hM (by decide) (by rw [b1_n0.mp c15]; decide) (fun τ7 hM7 => ?_))
    refine g_if_ne (tgt := 27) B dX6_not4_22 (by decide) (fun c22 => ?_) (fun c22 => ?_)
    · refine g_aload_n B dX6_not4_27 rfl ?_
      refine g_callVi (C := RX6) (As := []) B dX6_not4_28 (gc1 g_X6_226) (by rfl) ⟨rfl, hd_X6_not5⟩ (by exact ⟨Nat.le_of_ble_eq_true rfl, Nat.le_of_ble_eq_true rfl⟩) ⟨rfl, rfl⟩ rfl rfl (by exact Nat.le_of_ble_eq_true rfl) recvM (c_not5 hR hM7 (fun f hf v8 τ8 hB8 => ?_) (fun cs a2 hf τ8 hM8 => ?_))
      · refine g_istore_n B dX6_not4_31 (by decide) rfl ?_
        refine g_aload_n B dX6_not4_32 rfl ?_
        refine g_dup B dX6_not4_33 rfl ?_
        refine g_getI (T := TX6) (N := 42) B dX6_not4_34 (by decide) (by rfl) (inq inlX6) rfl 24 (by decide) (mq f_X6_171) (by rfl) ?_
        refine g_iconst (v := (1)) B dX6_not4_37 (by decide) ?_
        refine g_isub B dX6_not4_38 ?_
        refine g_putI (T := TX6) (N := 42) B dX6_not4_39 (by decide) (by rfl) (inq inlX6) rfl 24 (by decide) (mq f_X6_171) tyX6_ok nmX6 rfl ⟨rfl, rfl⟩ (by rfl) ?_
        refine g_iload_n B dX6_not4_42 rfl ?_
        refine g_if_ne (tgt := 50) B dX6_not4_43 (by decide) (fun c43 => ?_) (fun c43 => ?_)
        · refine g_iconst (v := (0)) B dX6_not4_50 (by decide) ?_
          refine g_ireti B dX6_not4_51 ?_
          first
            | (refine hK1 f ?_ _ _ hB8.close
               unfold pNot
               rw [if_pos (b1_n0.mp c15)]
               show (match pNot (tT τ0 t n) (tV τ0 t n) (pLev (tT τ0 t n) (tV τ0 t n) 0) (a + 1) with | .inl f => _ | .inr (cs, a2) => _) = _
               rw [hf])
            | (refine kk ?_ (hK2 (cs ++ [-21]) a2 (by
                 unfold pNot
                 rw [if_pos (b1_n0.mp c15)]
                 show (match pNot (tT τ0 t n) (tV τ0 t n) (pLev (tT τ0 t n) (tV τ0 t n) 0) (a + 1) with | .inl f => _ | .inr (cs, a2) => _) = _
                 rw [hf]) _ (MS.close (by decide) hM8))
               rw [evc_not (pNot_ok (tT_TV hR) (pLev_ok (tT_TV hR) _) _ _ _ hf).1]
               first
               | rw [if_neg c43]
               | rw [if_pos c43])
        · refine g_iconst (v := (1)) B dX6_not4_46 (by decide) ?_
          refine g_goto (tgt := 51) B dX6_not4_47 (by decide) ?_
          refine g_ireti B dX6_not4_51 ?_
          first
            | (refine hK1 f ?_ _ _ hB8.close
               unfold pNot
               rw [if_pos (b1_n0.mp c15)]
               show (match pNot (tT τ0 t n) (tV τ0 t n) (pLev (tT τ0 t n) (tV τ0 t n) 0) (a + 1) with | .inl f => _ | .inr (cs, a2) => _) = _
               rw [hf])
            | (refine kk ?_ (hK2 (cs ++ [-21]) a2 (by
                 unfold pNot
                 rw [if_pos (b1_n0.mp c15)]
                 show (match pNot (tT τ0 t n) (tV τ0 t n) (pLev (tT τ0 t n) (tV τ0 t n) 0) (a + 1) with | .inl f => _ | .inr (cs, a2) => _) = _
                 rw [hf]) _ (MS.close (by decide) hM8))
               rw [evc_not (pNot_ok (tT_TV hR) (pLev_ok (tT_TV hR) _) _ _ _ hf).1]
               first
               | rw [if_neg c43]
               | rw [if_pos c43])
      · refine g_istore_n B dX6_not4_31 (by decide) rfl ?_
        refine g_aload_n B dX6_not4_32 rfl ?_
        refine g_dup B dX6_not4_33 rfl ?_
        refine g_getI (T := TX6) (N := 42) B dX6_not4_34 (by decide) (by rfl) (inq inlX6) rfl 24 (by decide) (mq f_X6_171) (by rfl) ?_
        refine g_iconst (v := (1)) B dX6_not4_37 (by decide) ?_
        refine g_isub B dX6_not4_38 ?_
        refine g_putI (T := TX6) (N := 42) B dX6_not4_39 (by decide) (by rfl) (inq inlX6) rfl 24 (by decide) (mq f_X6_171) tyX6_ok nmX6 rfl ⟨rfl, rfl⟩ (by rfl) ?_
        refine g_iload_n B dX6_not4_42 rfl ?_
        refine g_if_ne (tgt := 50) B dX6_not4_43 (by decide) (fun c43 => ?_) (fun c43 => ?_)
        · refine g_iconst (v := (0)) B dX6_not4_50 (by decide) ?_
          refine g_ireti B dX6_not4_51 ?_
          first
            | (refine hK1 f ?_ _ _ hB8.close
               unfold pNot
               rw [if_pos (b1_n0.mp c15)]
               show (match pNot (tT τ0 t n) (tV τ0 t n) (pLev (tT τ0 t n) (tV τ0 t n) 0) (a + 1) with | .inl f => _ | .inr (cs, a2) => _) = _
               rw [hf])
            | (refine kk ?_ (hK2 (cs ++ [-21]) a2 (by
                 unfold pNot
                 rw [if_pos (b1_n0.mp c15)]
                 show (match pNot (tT τ0 t n) (tV τ0 t n) (pLev (tT τ0 t n) (tV τ0 t n) 0) (a + 1) with | .inl f => _ | .inr (cs, a2) => _) = _
                 rw [hf]) _ (MS.close (by decide) hM8))
               rw [evc_not (pNot_ok (tT_TV hR) (pLev_ok (tT_TV hR) _) _ _ _ hf).1]
               first
               | rw [if_neg c43]
               | rw [if_pos c43])
        · refine g_iconst (v := (1)) B dX6_not4_46 (by decide) ?_
          refine g_goto (tgt := 51) B dX6_not4_47 (by decide) ?_
          refine g_ireti B dX6_not4_51 ?_
          first
            | (refine hK1 f ?_ _ _ hB8.close
               unfold pNot
               rw [if_pos (b1_n0.mp c15)]
               show (match pNot (tT τ0 t n) (tV τ0 t n) (pLev (tT τ0 t n) (tV τ0 t n) 0) (a + 1) with | .inl f => _ | .inr (cs, a2) => _) = _
               rw [hf])
            | (refine kk ?_ (hK2 (cs ++ [-21]) a2 (by
                 unfold pNot
                 rw [if_pos (b1_n0.mp c15)]
                 show (match pNot (tT τ0 t n) (tV τ0 t n) (pLev (tT τ0 t n) (tV τ0 t n) 0) (a + 1) with | .inl f => _ | .inr (cs, a2) => _) = _
                 rw [hf]) _ (MS.close (by decide) hM8))
               rw [evc_not (pNot_ok (tT_TV hR) (pLev_ok (tT_TV hR) _) _ _ _ hf).1]
               first
               | rw [if_neg c43]
               | rw [if_pos c43])
    · refine g_iconst (v := (0)) B dX6_not4_25 (by decide) ?_
      refine g_ireti B dX6_not4_26 ?_
      exact absurd c22 (by decide)
set_option maxRecDepth 100000 in
set_option maxHeartbeats 4000000 in
theorem lB_both4 {Z : LZ} {ad : Nat → Nat} {X : CX} {K : Int32 → St → Prop} {τ0 τ : St} {t n f : Nat} {v : Int32} (B : Amb lyM Z ad (rmk 14) X cX6_both4 wsX6_both4 RX6 3 (some .int)) (hB : MB τ0 t n f τ) (hK : K v τ) : GG lyM Z ad (rmk 14) X (rI K) 5 [some (.ref (ad 0)), some (.int v), none] [] τ := by
  refine g_aload_n B dX6_both4_5 rfl ?_
  refine g_bipush (v := (97)) B dX6_both4_6 (by decide) ?_
  refine g_bipush (v := (110)) B dX6_both4_8 (by decide) ?_
  refine g_bipush (v := (100)) B dX6_both4_10 (by decide) ?_
  refine g_iconst (v := (0)) B dX6_both4_12 (by decide) ?_
  refine g_iconst (v := (0)) B dX6_both4_13 (by decide) ?_
  refine g_iconst (v := (0)) B dX6_both4_14 (by decide) ?_
  refine g_iconst (v := (0)) B dX6_both4_15 (by decide) ?_
  refine g_iconst (v := (0)) B dX6_both4_16 (by decide) ?_
  refine g_callVi (C := RX6) (As := [.int _, .int _, .int _, .int _, .int _, .int _, .int _, .int _]) B dX6_both4_17 (gc1 g_X6_180) (by rfl) ⟨rfl, hd_X6_isWord⟩ (by exact ⟨Nat.le_of_ble_eq_true rfl, Nat.le_of_ble_eq_true rfl⟩) ⟨rfl, rfl⟩ rfl rfl (by exact Nat.le_of_ble_eq_true rfl) recvM (c_keyB hB ?_)
  refine g_if_eq (tgt := 49) B dX6_both4_20 (by decide) (fun c20 => ?_) (fun c20 => ?_)
  · refine g_iload_n B dX6_both4_49 rfl ?_
    refine g_ireti B dX6_both4_50 ?_
    exact hK
  · exact absurd rfl c20
set_option maxRecDepth 100000 in
set_option maxHeartbeats 4000000 in
theorem l_both4 {Z : LZ} {ad : Nat → Nat} {X : CX} {K : Int32 → St → Prop} {τ0 : St} {t n : Nat} (B : Amb lyM Z ad (rmk 14) X cX6_both4 wsX6_both4 RX6 3 (some .int)) (hR : RB τ0 t n) : ∀ (k : Nat) (cs : List Int32) (b : Nat) (τ : St), 160 ≤ b + k → WF cs → MS τ0 t n 4 b τ → (∀ f, pLoop (pNot (tT τ0 t n) (tV τ0 t n) (pLev (tT τ0 t n) (tV τ0 t n) 1)) (opAnd (tT τ0 t n)) (k + 1) cs b = .inl f → ∀ v τ', MB τ0 t n f τ' → K v τ') → (∀ ds a2, pLoop (pNot (tT τ0 t n) (tV τ0 t n) (pLev (tT τ0 t n) (tV τ0 t n) 1)) (opAnd (tT τ0 t n)) (k + 1) cs b = .inr (ds, a2) → ∀ τ', MS τ0 t n 4 a2 τ' → K (evc (eM τ0) ds) τ') → GG lyM Z ad (rmk 14) X (rI K) 5 [some (.ref (ad 0)), some (.int (evc (eM τ0) cs)), none] [] τ := by
  intro k
  induction k using Nat.strongRecOn with
  | ind k ih =>
  intro cs b τ hk hw hM hK1 hK2
  have hn := hR.2.2.2
  unfold pLoop at hK1 hK2
  refine g_aload_n B dX6_both4_5 rfl ?_
  refine g_bipush (v := (97)) B dX6_both4_6 (by decide) ?_
  refine g_bipush (v := (110)) B dX6_both4_8 (by decide) ?_
  refine g_bipush (v := (100)) B dX6_both4_10 (by decide) ?_
  refine g_iconst (v := (0)) B dX6_both4_12 (by decide) ?_
  refine g_iconst (v := (0)) B dX6_both4_13 (by decide) ?_
  refine g_iconst (v := (0)) B dX6_both4_14 (by decide) ?_
  refine g_iconst (v := (0)) B dX6_both4_15 (by decide) ?_
  refine g_iconst (v := (0)) B dX6_both4_16 (by decide) ?_
  refine g_callVi (C := RX6) (As := [.int _, .int _, .int _, .int _, .int _, .int _, .int _, .int _]) B dX6_both4_17 (gc1 g_X6_180) (by rfl) ⟨rfl, hd_X6_isWord⟩ (by exact ⟨Nat.le_of_ble_eq_true rfl, Nat.le_of_ble_eq_true rfl⟩) ⟨rfl, rfl⟩ rfl rfl (by exact Nat.le_of_ble_eq_true rfl) recvM (c_key (c := 305) hR hM (by decide) (fun _ _ _ => wS_and) ?_)
  refine g_if_eq (tgt := 49) B dX6_both4_20 (by decide) (fun c20 => ?_) (fun c20 => ?_)
  · refine g_iload_n B dX6_both4_49 rfl ?_
    refine g_ireti B dX6_both4_50 ?_
    have hop : opAnd (tT τ0 t n) b = none := if_neg (b1_0.mp c20)
    rw [hop] at hK2
    exact hK2 _ _ rfl τ hM
  · have hT := b1_n0.mp c20
    have hop : opAnd (tT τ0 t n) b = some (-12) := if_pos hT
    have hb := tT_lt hR (show tT τ0 t n b ≠ 0 by rw [hT]; decide)
    rw [hop] at hK1 hK2
    dsimp only at hK1 hK2
    refine g_aload_n B dX6_both4_23 rfl ?_
    refine g_callVv (C := RX6) (As := []) B dX6_both4_24 (gc1 g_X6_177) (by rfl) ⟨rfl, hd_X6_next⟩ (by exact ⟨Nat.le_of_ble_eq_true rfl, Nat.le_of_ble_eq_true rfl⟩) ⟨rfl, rfl⟩ rfl rfl (by exact Nat.le_of_ble_eq_true rfl) recvM (c_nx hR hM (by rw [hT]; decide) (fun τ2 hM2 => ?_))
    refine g_aload_n B dX6_both4_27 rfl ?_
    refine g_callVi (C := RX6) (As := []) B dX6_both4_28 (gc1 g_X6_244) (by rfl) ⟨rfl, hd_X6_not4⟩ (by exact ⟨Nat.le_of_ble_eq_true rfl, Nat.le_of_ble_eq_true rfl⟩) ⟨rfl, rfl⟩ rfl rfl (by exact Nat.le_of_ble_eq_true rfl) recvM (c_not4 hR hM2 (fun f hf v8 τ8 hB8 => ?_) (fun cs2 a2 hf τ8 hM8 => ?_))
    · rw [hf] at hK1; dsimp only at hK1
      refine g_istore_n B dX6_both4_31 (by decide) rfl ?_
      refine g_iload_n B dX6_both4_32 rfl ?_
      refine g_if_eq (tgt := 44) B dX6_both4_33 (by decide) (fun c33 => ?_) (fun c33 => ?_)
      · refine g_iconst (v := (0)) B dX6_both4_44 (by decide) ?_
        refine g_istore_n B dX6_both4_45 (by decide) rfl ?_
        refine g_goto (tgt := 5) B dX6_both4_46 (by decide) ?_
        refine g_drop 2 ?_
        first
          | exact lB_both4 B hB8 (hK1 f rfl _ _ hB8)
          | (have hv : ∀ z : Int32, z = jn (-12) (evc (eM τ0) cs) (evc (eM τ0) cs2) → z = evc (eM τ0) (cs ++ cs2 ++ [-12]) := fun z h => h.trans (evc_bin hw hw2 (by decide)).symm
             first
             | rw [hv 0 (jn_and_l c33)]
             | rw [hv 0 (jn_and_r c37)]
             | rw [hv 1 (jn_and_1 c33 c37)]
             obtain ⟨k', rfl⟩ : ∃ k', k = k' + 1 := ⟨k - 1, by omega⟩
             exact ih k' (by omega) (cs ++ cs2 ++ [-12]) a2 τ8 (by omega) (hw.bin hw2 (by decide)) hM8 hK1 hK2)
      · refine g_iload_n B dX6_both4_36 rfl ?_
        refine g_if_eq (tgt := 44) B dX6_both4_37 (by decide) (fun c37 => ?_) (fun c37 => ?_)
        · refine g_iconst (v := (0)) B dX6_both4_44 (by decide) ?_
          refine g_istore_n B dX6_both4_45 (by decide) rfl ?_
          refine g_goto (tgt := 5) B dX6_both4_46 (by decide) ?_
          refine g_drop 2 ?_
          first
            | exact lB_both4 B hB8 (hK1 f rfl _ _ hB8)
            | (have hv : ∀ z : Int32, z = jn (-12) (evc (eM τ0) cs) (evc (eM τ0) cs2) → z = evc (eM τ0) (cs ++ cs2 ++ [-12]) := fun z h => h.trans (evc_bin hw hw2 (by decide)).symm
               first
               | rw [hv 0 (jn_and_l c33)]
               | rw [hv 0 (jn_and_r c37)]
               | rw [hv 1 (jn_and_1 c33 c37)]
               obtain ⟨k', rfl⟩ : ∃ k', k = k' + 1 := ⟨k - 1, by omega⟩
               exact ih k' (by omega) (cs ++ cs2 ++ [-12]) a2 τ8 (by omega) (hw.bin hw2 (by decide)) hM8 hK1 hK2)
        · refine g_iconst (v := (1)) B dX6_both4_40 (by decide) ?_
          refine g_goto (tgt := 45) B dX6_both4_41 (by decide) ?_
          refine g_istore_n B dX6_both4_45 (by decide) rfl ?_
          refine g_goto (tgt := 5) B dX6_both4_46 (by decide) ?_
          refine g_drop 2 ?_
          first
            | exact lB_both4 B hB8 (hK1 f rfl _ _ hB8)
            | (have hv : ∀ z : Int32, z = jn (-12) (evc (eM τ0) cs) (evc (eM τ0) cs2) → z = evc (eM τ0) (cs ++ cs2 ++ [-12]) := fun z h => h.trans (evc_bin hw hw2 (by decide)).symm
               first
               | rw [hv 0 (jn_and_l c33)]
               | rw [hv 0 (jn_and_r c37)]
               | rw [hv 1 (jn_and_1 c33 c37)]
               obtain ⟨k', rfl⟩ : ∃ k', k = k' + 1 := ⟨k - 1, by omega⟩
               exact ih k' (by omega) (cs ++ cs2 ++ [-12]) a2 τ8 (by omega) (hw.bin hw2 (by decide)) hM8 hK1 hK2)
    · rw [hf] at hK1 hK2; dsimp only at hK1 hK2; obtain ⟨hw2, hlt2⟩ := pNot_ok (tT_TV hR) (pLev_ok (tT_TV hR) _) _ _ _ hf
      refine g_istore_n B dX6_both4_31 (by decide) rfl ?_
      refine g_iload_n B dX6_both4_32 rfl ?_
      refine g_if_eq (tgt := 44) B dX6_both4_33 (by decide) (fun c33 => ?_) (fun c33 => ?_)
      · refine g_iconst (v := (0)) B dX6_both4_44 (by decide) ?_
        refine g_istore_n B dX6_both4_45 (by decide) rfl ?_
        refine g_goto (tgt := 5) B dX6_both4_46 (by decide) ?_
        refine g_drop 2 ?_
        first
          | exact lB_both4 B hB8 (hK1 f rfl _ _ hB8)
          | (have hv : ∀ z : Int32, z = jn (-12) (evc (eM τ0) cs) (evc (eM τ0) cs2) → z = evc (eM τ0) (cs ++ cs2 ++ [-12]) := fun z h => h.trans (evc_bin hw hw2 (by decide)).symm
             first
             | rw [hv 0 (jn_and_l c33)]
             | rw [hv 0 (jn_and_r c37)]
             | rw [hv 1 (jn_and_1 c33 c37)]
             obtain ⟨k', rfl⟩ : ∃ k', k = k' + 1 := ⟨k - 1, by omega⟩
             exact ih k' (by omega) (cs ++ cs2 ++ [-12]) a2 τ8 (by omega) (hw.bin hw2 (by decide)) hM8 hK1 hK2)
      · refine g_iload_n B dX6_both4_36 rfl ?_
        refine g_if_eq (tgt := 44) B dX6_both4_37 (by decide) (fun c37 => ?_) (fun c37 => ?_)
        · refine g_iconst (v := (0)) B dX6_both4_44 (by decide) ?_
          refine g_istore_n B dX6_both4_45 (by decide) rfl ?_
          refine g_goto (tgt := 5) B dX6_both4_46 (by decide) ?_
          refine g_drop 2 ?_
          first
            | exact lB_both4 B hB8 (hK1 f rfl _ _ hB8)
            | (have hv : ∀ z : Int32, z = jn (-12) (evc (eM τ0) cs) (evc (eM τ0) cs2) → z = evc (eM τ0) (cs ++ cs2 ++ [-12]) := fun z h => h.trans (evc_bin hw hw2 (by decide)).symm
               first
               | rw [hv 0 (jn_and_l c33)]
               | rw [hv 0 (jn_and_r c37)]
               | rw [hv 1 (jn_and_1 c33 c37)]
               obtain ⟨k', rfl⟩ : ∃ k', k = k' + 1 := ⟨k - 1, by omega⟩
               exact ih k' (by omega) (cs ++ cs2 ++ [-12]) a2 τ8 (by omega) (hw.bin hw2 (by decide)) hM8 hK1 hK2)
        · refine g_iconst (v := (1)) B dX6_both4_40 (by decide) ?_
          refine g_goto (tgt := 45) B dX6_both4_41 (by decide) ?_
          refine g_istore_n B dX6_both4_45 (by decide) rfl ?_
          refine g_goto (tgt := 5) B dX6_both4_46 (by decide) ?_
          refine g_drop 2 ?_
          first
            | exact lB_both4 B hB8 (hK1 f rfl _ _ hB8)
            | (have hv : ∀ z : Int32, z = jn (-12) (evc (eM τ0) cs) (evc (eM τ0) cs2) → z = evc (eM τ0) (cs ++ cs2 ++ [-12]) := fun z h => h.trans (evc_bin hw hw2 (by decide)).symm
               first
               | rw [hv 0 (jn_and_l c33)]
               | rw [hv 0 (jn_and_r c37)]
               | rw [hv 1 (jn_and_1 c33 c37)]
               obtain ⟨k', rfl⟩ : ∃ k', k = k' + 1 := ⟨k - 1, by omega⟩
               exact ih k' (by omega) (cs ++ cs2 ++ [-12]) a2 τ8 (by omega) (hw.bin hw2 (by decide)) hM8 hK1 hK2)
set_option maxRecDepth 100000 in
set_option maxHeartbeats 4000000 in
theorem c_both4 {Z : LZ} {ad : Nat → Nat} {τ0 τ : St} {K : Int32 → St → Prop} {t n a : Nat} (hR : RB τ0 t n) (hM : MS τ0 t n 4 a τ) (hK1 : ∀ f, pBoth (tT τ0 t n) (tV τ0 t n) (pLev (tT τ0 t n) (tV τ0 t n) 1) a = .inl f → ∀ v τ', MB τ0 t n f τ' → K v τ') (hK2 : ∀ cs a2, pBoth (tT τ0 t n) (tV τ0 t n) (pLev (tT τ0 t n) (tV τ0 t n) 1) a = .inr (cs, a2) → ∀ τ', MS τ0 t n 4 a2 τ' → K (evc (eM τ0) cs) τ') : CC lyM Z ad yX6_both4 wsX6_both4 (rmk 14) [.ref (ad 0)] τ (rI K) := by
  refine CC.of (cc := cX6_both4) (nL := 3) (ret := (some .int)) rfl rfl ⟨rfl, rfl⟩ (by exact Nat.le_of_ble_eq_true rfl) ?_
  intro X B
  change GG _ _ _ _ X _ 0 [some (.ref (ad 0)), none, none] [] _
  change Amb _ _ _ _ X _ _ RX6 _ _ at B
  unfold pBoth pSeq at hK1 hK2
  refine g_aload_n B dX6_both4_0 rfl ?_
  refine g_callVi (C := RX6) (As := []) B dX6_both4_1 (gc1 g_X6_244) (by rfl) ⟨rfl, hd_X6_not4⟩ (by exact ⟨Nat.le_of_ble_eq_true rfl, Nat.le_of_ble_eq_true rfl⟩) ⟨rfl, rfl⟩ rfl rfl (by exact Nat.le_of_ble_eq_true rfl) recvM (c_not4 hR hM (fun f hf v8 τ8 hB8 => ?_) (fun cs a1 hf τ8 hM8 => ?_))
  · rw [hf] at hK1; dsimp only at hK1
    refine g_istore_n B dX6_both4_4 (by decide) rfl ?_
    first
      | exact lB_both4 B hB8 (hK1 f rfl _ _ hB8)
      | exact l_both4 B hR 199 cs a1 τ8 (by omega) (pNot_ok (tT_TV hR) (pLev_ok (tT_TV hR) _) _ _ _ hf).1 hM8 hK1 hK2
  · rw [hf] at hK1 hK2; dsimp only at hK1 hK2
    refine g_istore_n B dX6_both4_4 (by decide) rfl ?_
    first
      | exact lB_both4 B hB8 (hK1 f rfl _ _ hB8)
      | exact l_both4 B hR 199 cs a1 τ8 (by omega) (pNot_ok (tT_TV hR) (pLev_ok (tT_TV hR) _) _ _ _ hf).1 hM8 hK1 hK2
set_option maxRecDepth 100000 in
set_option maxHeartbeats 4000000 in
theorem lB_either4 {Z : LZ} {ad : Nat → Nat} {X : CX} {K : Int32 → St → Prop} {τ0 τ : St} {t n f : Nat} {v : Int32} (B : Amb lyM Z ad (rmk 15) X cX6_either4 wsX6_either4 RX6 3 (some .int)) (hB : MB τ0 t n f τ) (hK : K v τ) : GG lyM Z ad (rmk 15) X (rI K) 5 [some (.ref (ad 0)), some (.int v), none] [] τ := by
  refine g_aload_n B dX6_either4_5 rfl ?_
  refine g_bipush (v := (111)) B dX6_either4_6 (by decide) ?_
  refine g_bipush (v := (114)) B dX6_either4_8 (by decide) ?_
  refine g_iconst (v := (0)) B dX6_either4_10 (by decide) ?_
  refine g_iconst (v := (0)) B dX6_either4_11 (by decide) ?_
  refine g_iconst (v := (0)) B dX6_either4_12 (by decide) ?_
  refine g_iconst (v := (0)) B dX6_either4_13 (by decide) ?_
  refine g_iconst (v := (0)) B dX6_either4_14 (by decide) ?_
  refine g_iconst (v := (0)) B dX6_either4_15 (by decide) ?_
  refine g_callVi (C := RX6) (As := [.int _, .int _, .int _, .int _, .int _, .int _, .int _, .int _]) B dX6_either4_16 (gc1 g_X6_180) (by rfl) ⟨rfl, hd_X6_isWord⟩ (by exact ⟨Nat.le_of_ble_eq_true rfl, Nat.le_of_ble_eq_true rfl⟩) ⟨rfl, rfl⟩ rfl rfl (by exact Nat.le_of_ble_eq_true rfl) recvM (c_keyB hB ?_)
  refine g_if_eq (tgt := 48) B dX6_either4_19 (by decide) (fun c19 => ?_) (fun c19 => ?_)
  · refine g_iload_n B dX6_either4_48 rfl ?_
    refine g_ireti B dX6_either4_49 ?_
    exact hK
  · exact absurd rfl c19
set_option maxRecDepth 100000 in
set_option maxHeartbeats 4000000 in
theorem l_either4 {Z : LZ} {ad : Nat → Nat} {X : CX} {K : Int32 → St → Prop} {τ0 : St} {t n : Nat} (B : Amb lyM Z ad (rmk 15) X cX6_either4 wsX6_either4 RX6 3 (some .int)) (hR : RB τ0 t n) : ∀ (k : Nat) (cs : List Int32) (b : Nat) (τ : St), 160 ≤ b + k → WF cs → MS τ0 t n 4 b τ → (∀ f, pLoop (pBoth (tT τ0 t n) (tV τ0 t n) (pLev (tT τ0 t n) (tV τ0 t n) 1)) (opOr (tT τ0 t n)) (k + 1) cs b = .inl f → ∀ v τ', MB τ0 t n f τ' → K v τ') → (∀ ds a2, pLoop (pBoth (tT τ0 t n) (tV τ0 t n) (pLev (tT τ0 t n) (tV τ0 t n) 1)) (opOr (tT τ0 t n)) (k + 1) cs b = .inr (ds, a2) → ∀ τ', MS τ0 t n 4 a2 τ' → K (evc (eM τ0) ds) τ') → GG lyM Z ad (rmk 15) X (rI K) 5 [some (.ref (ad 0)), some (.int (evc (eM τ0) cs)), none] [] τ := by
  intro k
  induction k using Nat.strongRecOn with
  | ind k ih =>
  intro cs b τ hk hw hM hK1 hK2
  have hn := hR.2.2.2
  unfold pLoop at hK1 hK2
  refine g_aload_n B dX6_either4_5 rfl ?_
  refine g_bipush (v := (111)) B dX6_either4_6 (by decide) ?_
  refine g_bipush (v := (114)) B dX6_either4_8 (by decide) ?_
  refine g_iconst (v := (0)) B dX6_either4_10 (by decide) ?_
  refine g_iconst (v := (0)) B dX6_either4_11 (by decide) ?_
  refine g_iconst (v := (0)) B dX6_either4_12 (by decide) ?_
  refine g_iconst (v := (0)) B dX6_either4_13 (by decide) ?_
  refine g_iconst (v := (0)) B dX6_either4_14 (by decide) ?_
  refine g_iconst (v := (0)) B dX6_either4_15 (by decide) ?_
  refine g_callVi (C := RX6) (As := [.int _, .int _, .int _, .int _, .int _, .int _, .int _, .int _]) B dX6_either4_16 (gc1 g_X6_180) (by rfl) ⟨rfl, hd_X6_isWord⟩ (by exact ⟨Nat.le_of_ble_eq_true rfl, Nat.le_of_ble_eq_true rfl⟩) ⟨rfl, rfl⟩ rfl rfl (by exact Nat.le_of_ble_eq_true rfl) recvM (c_key (c := 304) hR hM (by decide) (fun _ _ _ => wS_or) ?_)
  refine g_if_eq (tgt := 48) B dX6_either4_19 (by decide) (fun c19 => ?_) (fun c19 => ?_)
  · refine g_iload_n B dX6_either4_48 rfl ?_
    refine g_ireti B dX6_either4_49 ?_
    have hop : opOr (tT τ0 t n) b = none := if_neg (b1_0.mp c19)
    rw [hop] at hK2
    exact hK2 _ _ rfl τ hM
  · have hT := b1_n0.mp c19
    have hop : opOr (tT τ0 t n) b = some (-11) := if_pos hT
    have hb := tT_lt hR (show tT τ0 t n b ≠ 0 by rw [hT]; decide)
    rw [hop] at hK1 hK2
    dsimp only at hK1 hK2
    refine g_aload_n B dX6_either4_22 rfl ?_
    refine g_callVv (C := RX6) (As := []) B dX6_either4_23 (gc1 g_X6_177) (by rfl) ⟨rfl, hd_X6_next⟩ (by exact ⟨Nat.le_of_ble_eq_true rfl, Nat.le_of_ble_eq_true rfl⟩) ⟨rfl, rfl⟩ rfl rfl (by exact Nat.le_of_ble_eq_true rfl) recvM (c_nx hR hM (by rw [hT]; decide) (fun τ2 hM2 => ?_))
    refine g_aload_n B dX6_either4_26 rfl ?_
    refine g_callVi (C := RX6) (As := []) B dX6_either4_27 (gc1 g_X6_247) (by rfl) ⟨rfl, hd_X6_both4⟩ (by exact ⟨Nat.le_of_ble_eq_true rfl, Nat.le_of_ble_eq_true rfl⟩) ⟨rfl, rfl⟩ rfl rfl (by exact Nat.le_of_ble_eq_true rfl) recvM (c_both4 hR hM2 (fun f hf v8 τ8 hB8 => ?_) (fun cs2 a2 hf τ8 hM8 => ?_))
    · rw [hf] at hK1; dsimp only at hK1
      refine g_istore_n B dX6_either4_30 (by decide) rfl ?_
      refine g_iload_n B dX6_either4_31 rfl ?_
      refine g_if_ne (tgt := 39) B dX6_either4_32 (by decide) (fun c32 => ?_) (fun c32 => ?_)
      · refine g_iconst (v := (1)) B dX6_either4_39 (by decide) ?_
        refine g_goto (tgt := 44) B dX6_either4_40 (by decide) ?_
        refine g_istore_n B dX6_either4_44 (by decide) rfl ?_
        refine g_goto (tgt := 5) B dX6_either4_45 (by decide) ?_
        refine g_drop 2 ?_
        first
          | exact lB_either4 B hB8 (hK1 f rfl _ _ hB8)
          | (have hv : ∀ z : Int32, z = jn (-11) (evc (eM τ0) cs) (evc (eM τ0) cs2) → z = evc (eM τ0) (cs ++ cs2 ++ [-11]) := fun z h => h.trans (evc_bin hw hw2 (by decide)).symm
             first
             | rw [hv 1 (jn_or_l c32)]
             | rw [hv 0 (jn_or_0 c32 c36)]
             | rw [hv 1 (jn_or_r c36)]
             obtain ⟨k', rfl⟩ : ∃ k', k = k' + 1 := ⟨k - 1, by omega⟩
             exact ih k' (by omega) (cs ++ cs2 ++ [-11]) a2 τ8 (by omega) (hw.bin hw2 (by decide)) hM8 hK1 hK2)
      · refine g_iload_n B dX6_either4_35 rfl ?_
        refine g_if_eq (tgt := 43) B dX6_either4_36 (by decide) (fun c36 => ?_) (fun c36 => ?_)
        · refine g_iconst (v := (0)) B dX6_either4_43 (by decide) ?_
          refine g_istore_n B dX6_either4_44 (by decide) rfl ?_
          refine g_goto (tgt := 5) B dX6_either4_45 (by decide) ?_
          refine g_drop 2 ?_
          first
            | exact lB_either4 B hB8 (hK1 f rfl _ _ hB8)
            | (have hv : ∀ z : Int32, z = jn (-11) (evc (eM τ0) cs) (evc (eM τ0) cs2) → z = evc (eM τ0) (cs ++ cs2 ++ [-11]) := fun z h => h.trans (evc_bin hw hw2 (by decide)).symm
               first
               | rw [hv 1 (jn_or_l c32)]
               | rw [hv 0 (jn_or_0 c32 c36)]
               | rw [hv 1 (jn_or_r c36)]
               obtain ⟨k', rfl⟩ : ∃ k', k = k' + 1 := ⟨k - 1, by omega⟩
               exact ih k' (by omega) (cs ++ cs2 ++ [-11]) a2 τ8 (by omega) (hw.bin hw2 (by decide)) hM8 hK1 hK2)
        · refine g_iconst (v := (1)) B dX6_either4_39 (by decide) ?_
          refine g_goto (tgt := 44) B dX6_either4_40 (by decide) ?_
          refine g_istore_n B dX6_either4_44 (by decide) rfl ?_
          refine g_goto (tgt := 5) B dX6_either4_45 (by decide) ?_
          refine g_drop 2 ?_
          first
            | exact lB_either4 B hB8 (hK1 f rfl _ _ hB8)
            | (have hv : ∀ z : Int32, z = jn (-11) (evc (eM τ0) cs) (evc (eM τ0) cs2) → z = evc (eM τ0) (cs ++ cs2 ++ [-11]) := fun z h => h.trans (evc_bin hw hw2 (by decide)).symm
               first
               | rw [hv 1 (jn_or_l c32)]
               | rw [hv 0 (jn_or_0 c32 c36)]
               | rw [hv 1 (jn_or_r c36)]
               obtain ⟨k', rfl⟩ : ∃ k', k = k' + 1 := ⟨k - 1, by omega⟩
               exact ih k' (by omega) (cs ++ cs2 ++ [-11]) a2 τ8 (by omega) (hw.bin hw2 (by decide)) hM8 hK1 hK2)
    · rw [hf] at hK1 hK2; dsimp only at hK1 hK2; obtain ⟨hw2, hlt2⟩ := pBoth_ok (tT_TV hR) (pLev_ok (tT_TV hR) _) _ _ _ hf
      refine g_istore_n B dX6_either4_30 (by decide) rfl ?_
      refine g_iload_n B dX6_either4_31 rfl ?_
      refine g_if_ne (tgt := 39) B dX6_either4_32 (by decide) (fun c32 => ?_) (fun c32 => ?_)
      · refine g_iconst (v := (1)) B dX6_either4_39 (by decide) ?_
        refine g_goto (tgt := 44) B dX6_either4_40 (by decide) ?_
        refine g_istore_n B dX6_either4_44 (by decide) rfl ?_
        refine g_goto (tgt := 5) B dX6_either4_45 (by decide) ?_
        refine g_drop 2 ?_
        first
          | exact lB_either4 B hB8 (hK1 f rfl _ _ hB8)
          | (have hv : ∀ z : Int32, z = jn (-11) (evc (eM τ0) cs) (evc (eM τ0) cs2) → z = evc (eM τ0) (cs ++ cs2 ++ [-11]) := fun z h => h.trans (evc_bin hw hw2 (by decide)).symm
             first
             | rw [hv 1 (jn_or_l c32)]
             | rw [hv 0 (jn_or_0 c32 c36)]
             | rw [hv 1 (jn_or_r c36)]
             obtain ⟨k', rfl⟩ : ∃ k', k = k' + 1 := ⟨k - 1, by omega⟩
             exact ih k' (by omega) (cs ++ cs2 ++ [-11]) a2 τ8 (by omega) (hw.bin hw2 (by decide)) hM8 hK1 hK2)
      · refine g_iload_n B dX6_either4_35 rfl ?_
        refine g_if_eq (tgt := 43) B dX6_either4_36 (by decide) (fun c36 => ?_) (fun c36 => ?_)
        · refine g_iconst (v := (0)) B dX6_either4_43 (by decide) ?_
          refine g_istore_n B dX6_either4_44 (by decide) rfl ?_
          refine g_goto (tgt := 5) B dX6_either4_45 (by decide) ?_
          refine g_drop 2 ?_
          first
            | exact lB_either4 B hB8 (hK1 f rfl _ _ hB8)
            | (have hv : ∀ z : Int32, z = jn (-11) (evc (eM τ0) cs) (evc (eM τ0) cs2) → z = evc (eM τ0) (cs ++ cs2 ++ [-11]) := fun z h => h.trans (evc_bin hw hw2 (by decide)).symm
               first
               | rw [hv 1 (jn_or_l c32)]
               | rw [hv 0 (jn_or_0 c32 c36)]
               | rw [hv 1 (jn_or_r c36)]
               obtain ⟨k', rfl⟩ : ∃ k', k = k' + 1 := ⟨k - 1, by omega⟩
               exact ih k' (by omega) (cs ++ cs2 ++ [-11]) a2 τ8 (by omega) (hw.bin hw2 (by decide)) hM8 hK1 hK2)
        · refine g_iconst (v := (1)) B dX6_either4_39 (by decide) ?_
          refine g_goto (tgt := 44) B dX6_either4_40 (by decide) ?_
          refine g_istore_n B dX6_either4_44 (by decide) rfl ?_
          refine g_goto (tgt := 5) B dX6_either4_45 (by decide) ?_
          refine g_drop 2 ?_
          first
            | exact lB_either4 B hB8 (hK1 f rfl _ _ hB8)
            | (have hv : ∀ z : Int32, z = jn (-11) (evc (eM τ0) cs) (evc (eM τ0) cs2) → z = evc (eM τ0) (cs ++ cs2 ++ [-11]) := fun z h => h.trans (evc_bin hw hw2 (by decide)).symm
               first
               | rw [hv 1 (jn_or_l c32)]
               | rw [hv 0 (jn_or_0 c32 c36)]
               | rw [hv 1 (jn_or_r c36)]
               obtain ⟨k', rfl⟩ : ∃ k', k = k' + 1 := ⟨k - 1, by omega⟩
               exact ih k' (by omega) (cs ++ cs2 ++ [-11]) a2 τ8 (by omega) (hw.bin hw2 (by decide)) hM8 hK1 hK2)
set_option maxRecDepth 100000 in
set_option maxHeartbeats 4000000 in
theorem c_either4 {Z : LZ} {ad : Nat → Nat} {τ0 τ : St} {K : Int32 → St → Prop} {t n a : Nat} (hR : RB τ0 t n) (hM : MS τ0 t n 4 a τ) (hK1 : ∀ f, pEith (tT τ0 t n) (tV τ0 t n) (pLev (tT τ0 t n) (tV τ0 t n) 1) a = .inl f → ∀ v τ', MB τ0 t n f τ' → K v τ') (hK2 : ∀ cs a2, pEith (tT τ0 t n) (tV τ0 t n) (pLev (tT τ0 t n) (tV τ0 t n) 1) a = .inr (cs, a2) → ∀ τ', MS τ0 t n 4 a2 τ' → K (evc (eM τ0) cs) τ') : CC lyM Z ad yX6_either4 wsX6_either4 (rmk 15) [.ref (ad 0)] τ (rI K) := by
  refine CC.of (cc := cX6_either4) (nL := 3) (ret := (some .int)) rfl rfl ⟨rfl, rfl⟩ (by exact Nat.le_of_ble_eq_true rfl) ?_
  intro X B
  change GG _ _ _ _ X _ 0 [some (.ref (ad 0)), none, none] [] _
  change Amb _ _ _ _ X _ _ RX6 _ _ at B
  unfold pEith pSeq at hK1 hK2
  refine g_aload_n B dX6_either4_0 rfl ?_
  refine g_callVi (C := RX6) (As := []) B dX6_either4_1 (gc1 g_X6_247) (by rfl) ⟨rfl, hd_X6_both4⟩ (by exact ⟨Nat.le_of_ble_eq_true rfl, Nat.le_of_ble_eq_true rfl⟩) ⟨rfl, rfl⟩ rfl rfl (by exact Nat.le_of_ble_eq_true rfl) recvM (c_both4 hR hM (fun f hf v8 τ8 hB8 => ?_) (fun cs a1 hf τ8 hM8 => ?_))
  · rw [hf] at hK1; dsimp only at hK1
    refine g_istore_n B dX6_either4_4 (by decide) rfl ?_
    first
      | exact lB_either4 B hB8 (hK1 f rfl _ _ hB8)
      | exact l_either4 B hR 199 cs a1 τ8 (by omega) (pBoth_ok (tT_TV hR) (pLev_ok (tT_TV hR) _) _ _ _ hf).1 hM8 hK1 hK2
  · rw [hf] at hK1 hK2; dsimp only at hK1 hK2
    refine g_istore_n B dX6_either4_4 (by decide) rfl ?_
    first
      | exact lB_either4 B hB8 (hK1 f rfl _ _ hB8)
      | exact l_either4 B hR 199 cs a1 τ8 (by omega) (pBoth_ok (tT_TV hR) (pLev_ok (tT_TV hR) _) _ _ _ hf).1 hM8 hK1 hK2
set_option maxRecDepth 100000 in
set_option maxHeartbeats 4000000 in
theorem c_atom3 {Z : LZ} {ad : Nat → Nat} {τ0 τ : St} {K : Int32 → St → Prop} {t n a : Nat} (hR : RB τ0 t n) (hM : MS τ0 t n 3 a τ) (hK1 : ∀ f, pAtom (tT τ0 t n) (tV τ0 t n) (pLev (tT τ0 t n) (tV τ0 t n) 2) a = .inl f → ∀ v τ', MB τ0 t n f τ' → K v τ') (hK2 : ∀ cs a2, pAtom (tT τ0 t n) (tV τ0 t n) (pLev (tT τ0 t n) (tV τ0 t n) 2) a = .inr (cs, a2) → ∀ τ', MS τ0 t n 3 a2 τ' → K (evc (eM τ0) cs) τ') : CC lyM Z ad yX6_atom3 wsX6_atom3 (rmk 16) [.ref (ad 0)] τ (rI K) := by
  refine CC.of (cc := cX6_atom3) (nL := 2) (ret := (some .int)) rfl rfl ⟨rfl, rfl⟩ (by exact Nat.le_of_ble_eq_true rfl) ?_
  intro X B
  change GG _ _ _ _ X _ 0 [some (.ref (ad 0)), none] [] _
  change Amb _ _ _ _ X _ _ RX6 _ _ at B
  have hg : ∀ v τ', MB τ0 t n a τ' → ¬ (tT τ0 t n a = 2 ∨ tT τ0 t n a = 3) → tT τ0 t n a ≠ 45 → tT τ0 t n a ≠ 40 → K v τ' := fun v τ' hB h h2 h3 => hK1 a (by
    unfold pAtom
    rw [if_neg h, if_neg h2, if_neg h3]) v τ' hB
  have h45 : isS 45 := by decide
  have h40 : isS 40 := by decide
  refine g_iconst (v := (0)) B dX6_atom3_0 (by decide) ?_
  refine g_istore_n B dX6_atom3_1 (by decide) rfl ?_
  refine g_aload_n B dX6_atom3_2 rfl ?_
  refine g_bipush (v := (45)) B dX6_atom3_3 (by decide) ?_
  refine g_callVi (C := RX6) (As := [.int _]) B dX6_atom3_5 (gc1 g_X6_202) (by rfl) ⟨rfl, hd_X6_isSign⟩ (by exact ⟨Nat.le_of_ble_eq_true rfl, Nat.le_of_ble_eq_true rfl⟩) ⟨rfl, rfl⟩ rfl rfl (by exact Nat.le_of_ble_eq_true rfl) recvM (c_sgn hM h45 ?_)
  refine g_if_eq (tgt := 37) B dX6_atom3_8 (by decide) (fun c8 => ?_) (fun c8 => ?_)
  · refine g_aload_n B dX6_atom3_37 rfl ?_
    refine g_bipush (v := (40)) B dX6_atom3_38 (by decide) ?_
    refine g_callVi (C := RX6) (As := [.int _]) B dX6_atom3_40 (gc1 g_X6_202) (by rfl) ⟨rfl, hd_X6_isSign⟩ (by exact ⟨Nat.le_of_ble_eq_true rfl, Nat.le_of_ble_eq_true rfl⟩) ⟨rfl, rfl⟩ rfl rfl (by exact Nat.le_of_ble_eq_true rfl) recvM (c_sgn hM h40 ?_)
    refine g_if_eq (tgt := 95) B dX6_atom3_43 (by decide) (fun c43 => ?_) (fun c43 => ?_)
    · refine g_aload_n B dX6_atom3_95 rfl ?_
      refine g_getI (T := TX6) (N := 42) B dX6_atom3_96 (by decide) (by rfl) (inq inlX6) rfl 25 (by decide) (mq f_X6_161) (by rfl) ?_
      refine g_if_ne (tgt := 123) B dX6_atom3_99 (by decide) (fun c99 => ?_) (fun c99 => ?_)
      · exact absurd hM.2.1 c99
      · refine g_aload_n B dX6_atom3_102 rfl ?_
        refine g_getI (T := TX6) (N := 42) B dX6_atom3_103 (by decide) (by rfl) (inq inlX6) rfl 21 (by decide) (mq f_X6_144) (by rfl) ?_
        refine g_iconst (v := (2)) B dX6_atom3_106 (by decide) ?_
        refine g_icmp_ne (tgt := 123) B dX6_atom3_107 (by decide) (fun c107 => ?_) (fun c107 => ?_)
        · refine g_aload_n B dX6_atom3_123 rfl ?_
          refine g_getI (T := TX6) (N := 42) B dX6_atom3_124 (by decide) (by rfl) (inq inlX6) rfl 25 (by decide) (mq f_X6_161) (by rfl) ?_
          refine g_if_ne (tgt := 157) B dX6_atom3_127 (by decide) (fun c127 => ?_) (fun c127 => ?_)
          · exact absurd hM.2.1 c127
          · refine g_aload_n B dX6_atom3_130 rfl ?_
            refine g_getI (T := TX6) (N := 42) B dX6_atom3_131 (by decide) (by rfl) (inq inlX6) rfl 21 (by decide) (mq f_X6_144) (by rfl) ?_
            refine g_iconst (v := (1)) B dX6_atom3_134 (by decide) ?_
            refine g_icmp_ne (tgt := 157) B dX6_atom3_135 (by decide) (fun c135 => ?_) (fun c135 => ?_)
            · refine g_aload_n B dX6_atom3_157 rfl ?_
              refine g_callVv (C := RX6) (As := []) B dX6_atom3_158 (gc1 g_X6_174) (by rfl) ⟨rfl, hd_X6_fail⟩ (by exact ⟨Nat.le_of_ble_eq_true rfl, Nat.le_of_ble_eq_true rfl⟩) ⟨rfl, rfl⟩ rfl rfl (by exact Nat.le_of_ble_eq_true rfl) recvM (c_fl hM (fun τ9 hB9 => ?_))
              refine g_iload_n B dX6_atom3_161 rfl ?_
              refine g_ireti B dX6_atom3_162 ?_
              first
                | exact absurd hM.2.1 c99
                | exact absurd hM.2.1 c127
                | exact hg _ _ hB9 (fun h => h.elim (fun h => c107 (hM.A.num.1.mpr h)) (fun h => c135 (hM.A.wrd.1.mpr (hM.A.wrd.2.2 h)))) (b1_0.mp c8) (b1_0.mp c43)
            · refine g_aload_n B dX6_atom3_138 rfl ?_
              refine g_callVi (C := RX6) (As := []) B dX6_atom3_139 (gc1 g_X6_209) (by rfl) ⟨rfl, hd_X6_name⟩ (by exact ⟨Nat.le_of_ble_eq_true rfl, Nat.le_of_ble_eq_true rfl⟩) ⟨rfl, rfl⟩ rfl rfl (by exact Nat.le_of_ble_eq_true rfl) recvM (c_nm hR hM c135 (fun h3 => ?_) (fun h3 τ9 hB9 => ?_))
              · refine g_istore_n B dX6_atom3_142 (by decide) rfl ?_
                refine g_aload_n B dX6_atom3_143 rfl ?_
                refine g_getI (T := TX6) (N := 42) B dX6_atom3_144 (by decide) (by rfl) (inq inlX6) rfl 25 (by decide) (mq f_X6_161) (by rfl) ?_
                refine g_if_ne (tgt := 161) B dX6_atom3_147 (by decide) (fun c147 => ?_) (fun c147 => ?_)
                · exact absurd hM.2.1 c147
                · refine g_aload_n B dX6_atom3_150 rfl ?_
                  refine g_callVv (C := RX6) (As := []) B dX6_atom3_151 (gc1 g_X6_177) (by rfl) ⟨rfl, hd_X6_next⟩ (by exact ⟨Nat.le_of_ble_eq_true rfl, Nat.le_of_ble_eq_true rfl⟩) ⟨rfl, rfl⟩ rfl rfl (by exact Nat.le_of_ble_eq_true rfl) recvM (c_nx hR hM (in_or3 _ (Or.inr h3)) (fun τ9 hM9 => ?_))
                  refine g_goto (tgt := 161) B dX6_atom3_154 (by decide) ?_
                  refine g_iload_n B dX6_atom3_161 rfl ?_
                  refine g_ireti B dX6_atom3_162 ?_
                  refine kk ?_ (hK2 [tV τ0 t n a] (a + 1) (by unfold pAtom; rw [if_pos (Or.inr h3)]) τ9 hM9)
                  rw [evc_one (tT_TV hR a (Or.inr h3))]
              · refine g_istore_n B dX6_atom3_142 (by decide) rfl ?_
                refine g_aload_n B dX6_atom3_143 rfl ?_
                refine g_getI (T := TX6) (N := 42) B dX6_atom3_144 (by decide) (by rfl) (inq inlX6) rfl 25 (by decide) (mq f_X6_161) (by rfl) ?_
                refine g_if_ne (tgt := 161) B dX6_atom3_147 (by decide) (fun c147 => ?_) (fun c147 => ?_)
                · refine g_iload_n B dX6_atom3_161 rfl ?_
                  refine g_ireti B dX6_atom3_162 ?_
                  first
                    | exact absurd c15 (by decide)
                    | exact absurd c50 (by decide)
                    | exact absurd hB9.2.1 (fun h => absurd (c147.symm.trans h) (by decide))
                    | exact absurd hM.2.1 c147
                    | (refine hK1 f ?_ _ _ hB8.close
                       unfold pAtom
                       rw [if_neg (fun h => by rw [b1_n0.mp c43] at h; exact absurd h (by decide)), if_neg (b1_0.mp c8), if_pos (b1_n0.mp c43)]
                       show (match pEith (tT τ0 t n) (tV τ0 t n) (pLev (tT τ0 t n) (tV τ0 t n) 1) (a + 1) with | .inl f => _ | .inr (cs, a2) => _) = _
                       rw [hf])
                    | (refine hK1 a2 ?_ _ _ hB6.close
                       unfold pAtom
                       rw [if_neg (fun h => by rw [b1_n0.mp c43] at h; exact absurd h (by decide)), if_neg (b1_0.mp c8), if_pos (b1_n0.mp c43)]
                       show (match pEith (tT τ0 t n) (tV τ0 t n) (pLev (tT τ0 t n) (tV τ0 t n) 1) (a + 1) with | .inl f => _ | .inr (cs, a2) => _) = _
                       rw [hf]
                       show (if tT τ0 t n a2 = 41 then _ else _) = _
                       rw [if_neg (b1_0.mp c64)])
                    | exact absurd (MS.close (by decide) hM8).2.1 c85
                    | exact hg _ _ hB9 (fun h => h.elim (fun h => c107 (hM.A.num.1.mpr h)) (fun h => h3 h)) (b1_0.mp c8) (b1_0.mp c43)
                · exact absurd (c147.symm.trans hB9.2.1) (by decide)
        · refine g_aload_n B dX6_atom3_110 rfl ?_
          refine g_getL (T := TX6) (N := 42) B dX6_atom3_111 (by decide) (by rfl) (inq inlX6) rfl 23 (by decide) (mq f_X6_155) (by rfl) ?_
          refine g_l2i B dX6_atom3_114 rfl ?_
          refine g_istore_n B dX6_atom3_115 (by decide) rfl ?_
          refine g_aload_n B dX6_atom3_116 rfl ?_
          refine g_callVv (C := RX6) (As := []) B dX6_atom3_117 (gc1 g_X6_177) (by rfl) ⟨rfl, hd_X6_next⟩ (by exact ⟨Nat.le_of_ble_eq_true rfl, Nat.le_of_ble_eq_true rfl⟩) ⟨rfl, rfl⟩ rfl rfl (by exact Nat.le_of_ble_eq_true rfl) recvM (c_nx hR hM (in_or3 _ (Or.inl (hM.A.num.1.mp c107))) (fun τ9 hM9 => ?_))
          refine g_goto (tgt := 161) B dX6_atom3_120 (by decide) ?_
          refine g_iload_n B dX6_atom3_161 rfl ?_
          refine g_ireti B dX6_atom3_162 ?_
          refine kk ?_ (hK2 [tV τ0 t n a] (a + 1) (by unfold pAtom; rw [if_pos (Or.inl (hM.A.num.1.mp c107))]) τ9 hM9)
          rw [evc_one (tT_TV hR a (Or.inl (hM.A.num.1.mp c107))), opd_num (tV_num hR (hM.A.num.1.mp c107)).1]
          exact hM.A.num.2 c107
    · refine g_aload_n B dX6_atom3_46 rfl ?_
      refine g_callVi (C := RX6) (As := []) B dX6_atom3_47 (gc1 g_X6_205) (by rfl) ⟨rfl, hd_X6_opens⟩ (by exact ⟨Nat.le_of_ble_eq_true rfl, Nat.le_of_ble_eq_true rfl⟩) ⟨rfl, rfl⟩ rfl rfl (by exact Nat.le_of_ble_eq_true rfl) recvM (c_opn hR hM (by decide) (isS_0 (by rw [b1_n0.mp c43]; decide)) (fun τ7 hM7 => ?_))
      refine g_if_eq (tgt := 161) B dX6_atom3_50 (by decide) (fun c50 => ?_) (fun c50 => ?_)
      · exact absurd c50 (by decide)
      · refine g_aload_n B dX6_atom3_53 rfl ?_
        refine g_callVi (C := RX6) (As := []) B dX6_atom3_54 (gc1 g_X6_250) (by rfl) ⟨rfl, hd_X6_either4⟩ (by exact ⟨Nat.le_of_ble_eq_true rfl, Nat.le_of_ble_eq_true rfl⟩) ⟨rfl, rfl⟩ rfl rfl (by exact Nat.le_of_ble_eq_true rfl) recvM (c_either4 hR hM7 (fun f hf v8 τ8 hB8 => ?_) (fun cs a2 hf τ8 hM8 => ?_))
        · refine g_istore_n B dX6_atom3_57 (by decide) rfl ?_
          refine g_aload_n B dX6_atom3_58 rfl ?_
          refine g_bipush (v := (41)) B dX6_atom3_59 (by decide) ?_
          first
            | refine g_callVi (C := RX6) (As := [.int _]) B dX6_atom3_61 (gc1 g_X6_202) (by rfl) ⟨rfl, hd_X6_isSign⟩ (by exact ⟨Nat.le_of_ble_eq_true rfl, Nat.le_of_ble_eq_true rfl⟩) ⟨rfl, rfl⟩ rfl rfl (by exact Nat.le_of_ble_eq_true rfl) recvM (c_sgnB hB8 ?_)
            | refine g_callVi (C := RX6) (As := [.int _]) B dX6_atom3_61 (gc1 g_X6_202) (by rfl) ⟨rfl, hd_X6_isSign⟩ (by exact ⟨Nat.le_of_ble_eq_true rfl, Nat.le_of_ble_eq_true rfl⟩) ⟨rfl, rfl⟩ rfl rfl (by exact Nat.le_of_ble_eq_true rfl) recvM (c_sgn hM8 (show isS 41 by decide) ?_)
          refine g_if_ne (tgt := 71) B dX6_atom3_64 (by decide) (fun c64 => ?_) (fun c64 => ?_)
          · refine g_aload_n B dX6_atom3_71 rfl ?_
            refine g_dup B dX6_atom3_72 rfl ?_
            refine g_getI (T := TX6) (N := 42) B dX6_atom3_73 (by decide) (by rfl) (inq inlX6) rfl 24 (by decide) (mq f_X6_171) (by rfl) ?_
            refine g_iconst (v := (1)) B dX6_atom3_76 (by decide) ?_
            refine g_isub B dX6_atom3_77 ?_
            refine g_putI (T := TX6) (N := 42) B dX6_atom3_78 (by decide) (by rfl) (inq inlX6) rfl 24 (by decide) (mq f_X6_171) tyX6_ok nmX6 rfl ⟨rfl, rfl⟩ (by rfl) ?_
            refine g_aload_n B dX6_atom3_81 rfl ?_
            refine g_getI (T := TX6) (N := 42) B dX6_atom3_82 (by decide) (by rfl) (inq inlX6) rfl 25 (by decide) (mq f_X6_161) (by rfl) ?_
            refine g_if_ne (tgt := 161) B dX6_atom3_85 (by decide) (fun c85 => ?_) (fun c85 => ?_)
            · refine g_iload_n B dX6_atom3_161 rfl ?_
              refine g_ireti B dX6_atom3_162 ?_
              first
                | exact absurd c15 (by decide)
                | exact absurd c50 (by decide)
                | exact absurd hB9.2.1 (fun h => absurd (c147.symm.trans h) (by decide))
                | exact absurd hM.2.1 c147
                | (refine hK1 f ?_ _ _ hB8.close
                   unfold pAtom
                   rw [if_neg (fun h => by rw [b1_n0.mp c43] at h; exact absurd h (by decide)), if_neg (b1_0.mp c8), if_pos (b1_n0.mp c43)]
                   show (match pEith (tT τ0 t n) (tV τ0 t n) (pLev (tT τ0 t n) (tV τ0 t n) 1) (a + 1) with | .inl f => _ | .inr (cs, a2) => _) = _
                   rw [hf])
                | (refine hK1 a2 ?_ _ _ hB6.close
                   unfold pAtom
                   rw [if_neg (fun h => by rw [b1_n0.mp c43] at h; exact absurd h (by decide)), if_neg (b1_0.mp c8), if_pos (b1_n0.mp c43)]
                   show (match pEith (tT τ0 t n) (tV τ0 t n) (pLev (tT τ0 t n) (tV τ0 t n) 1) (a + 1) with | .inl f => _ | .inr (cs, a2) => _) = _
                   rw [hf]
                   show (if tT τ0 t n a2 = 41 then _ else _) = _
                   rw [if_neg (b1_0.mp c64)])
                | exact absurd (MS.close (by decide) hM8).2.1 c85
                | exact hg _ _ hB9 (fun h => h.elim (fun h => c107 (hM.A.num.1.mpr h)) (fun h => h3 h)) (b1_0.mp c8) (b1_0.mp c43)
            · first
                | exact absurd (c85.symm.trans hB8.close.2.1) (by decide)
                | exact absurd (c85.symm.trans hB6.close.2.1) (by decide)
                | (refine g_aload_n B dX6_atom3_88 rfl ?_
                   refine g_callVv (C := RX6) (As := []) B dX6_atom3_89 (gc1 g_X6_177) (by rfl) ⟨rfl, hd_X6_next⟩ (by exact ⟨Nat.le_of_ble_eq_true rfl, Nat.le_of_ble_eq_true rfl⟩) ⟨rfl, rfl⟩ rfl rfl (by exact Nat.le_of_ble_eq_true rfl) recvM (c_nx hR (MS.close (by decide) hM8) (isS_0 (by rw [b1_n0.mp c64]; decide)) (fun τ9 hM9 => ?_))
                   refine g_goto (tgt := 161) B dX6_atom3_92 (by decide) ?_
                   refine g_iload_n B dX6_atom3_161 rfl ?_
                   refine g_ireti B dX6_atom3_162 ?_
                   refine hK2 cs (a2 + 1) ?_ _ hM9
                   unfold pAtom
                   rw [if_neg (fun h => by rw [b1_n0.mp c43] at h; exact absurd h (by decide)), if_neg (b1_0.mp c8), if_pos (b1_n0.mp c43)]
                   show (match pEith (tT τ0 t n) (tV τ0 t n) (pLev (tT τ0 t n) (tV τ0 t n) 1) (a + 1) with | .inl f => _ | .inr (cs, a2) => _) = _
                   rw [hf]
                   show (if tT τ0 t n a2 = 41 then _ else _) = _
                   rw [if_pos (b1_n0.mp c64)])
          · refine g_aload_n B dX6_atom3_67 rfl ?_
            first
              | refine g_callVv (C := RX6) (As := []) B dX6_atom3_68 (gc1 g_X6_174) (by rfl) ⟨rfl, hd_X6_fail⟩ (by exact ⟨Nat.le_of_ble_eq_true rfl, Nat.le_of_ble_eq_true rfl⟩) ⟨rfl, rfl⟩ rfl rfl (by exact Nat.le_of_ble_eq_true rfl) recvM (c_flB hB8 ?_)
              | refine g_callVv (C := RX6) (As := []) B dX6_atom3_68 (gc1 g_X6_174) (by rfl) ⟨rfl, hd_X6_fail⟩ (by exact ⟨Nat.le_of_ble_eq_true rfl, Nat.le_of_ble_eq_true rfl⟩) ⟨rfl, rfl⟩ rfl rfl (by exact Nat.le_of_ble_eq_true rfl) recvM (c_fl hM8 (fun τ6 hB6 => ?_))
            refine g_aload_n B dX6_atom3_71 rfl ?_
            refine g_dup B dX6_atom3_72 rfl ?_
            refine g_getI (T := TX6) (N := 42) B dX6_atom3_73 (by decide) (by rfl) (inq inlX6) rfl 24 (by decide) (mq f_X6_171) (by rfl) ?_
            refine g_iconst (v := (1)) B dX6_atom3_76 (by decide) ?_
            refine g_isub B dX6_atom3_77 ?_
            refine g_putI (T := TX6) (N := 42) B dX6_atom3_78 (by decide) (by rfl) (inq inlX6) rfl 24 (by decide) (mq f_X6_171) tyX6_ok nmX6 rfl ⟨rfl, rfl⟩ (by rfl) ?_
            refine g_aload_n B dX6_atom3_81 rfl ?_
            refine g_getI (T := TX6) (N := 42) B dX6_atom3_82 (by decide) (by rfl) (inq inlX6) rfl 25 (by decide) (mq f_X6_161) (by rfl) ?_
            refine g_if_ne (tgt := 161) B dX6_atom3_85 (by decide) (fun c85 => ?_) (fun c85 => ?_)
            · refine g_iload_n B dX6_atom3_161 rfl ?_
              refine g_ireti B dX6_atom3_162 ?_
              first
                | exact absurd c15 (by decide)
                | exact absurd c50 (by decide)
                | exact absurd hB9.2.1 (fun h => absurd (c147.symm.trans h) (by decide))
                | exact absurd hM.2.1 c147
                | (refine hK1 f ?_ _ _ hB8.close
                   unfold pAtom
                   rw [if_neg (fun h => by rw [b1_n0.mp c43] at h; exact absurd h (by decide)), if_neg (b1_0.mp c8), if_pos (b1_n0.mp c43)]
                   show (match pEith (tT τ0 t n) (tV τ0 t n) (pLev (tT τ0 t n) (tV τ0 t n) 1) (a + 1) with | .inl f => _ | .inr (cs, a2) => _) = _
                   rw [hf])
                | (refine hK1 a2 ?_ _ _ hB6.close
                   unfold pAtom
                   rw [if_neg (fun h => by rw [b1_n0.mp c43] at h; exact absurd h (by decide)), if_neg (b1_0.mp c8), if_pos (b1_n0.mp c43)]
                   show (match pEith (tT τ0 t n) (tV τ0 t n) (pLev (tT τ0 t n) (tV τ0 t n) 1) (a + 1) with | .inl f => _ | .inr (cs, a2) => _) = _
                   rw [hf]
                   show (if tT τ0 t n a2 = 41 then _ else _) = _
                   rw [if_neg (b1_0.mp c64)])
                | exact absurd (MS.close (by decide) hM8).2.1 c85
                | exact hg _ _ hB9 (fun h => h.elim (fun h => c107 (hM.A.num.1.mpr h)) (fun h => h3 h)) (b1_0.mp c8) (b1_0.mp c43)
            · first
                | exact absurd (c85.symm.trans hB8.close.2.1) (by decide)
                | exact absurd (c85.symm.trans hB6.close.2.1) (by decide)
                | (refine g_aload_n B dX6_atom3_88 rfl ?_
                   refine g_callVv (C := RX6) (As := []) B dX6_atom3_89 (gc1 g_X6_177) (by rfl) ⟨rfl, hd_X6_next⟩ (by exact ⟨Nat.le_of_ble_eq_true rfl, Nat.le_of_ble_eq_true rfl⟩) ⟨rfl, rfl⟩ rfl rfl (by exact Nat.le_of_ble_eq_true rfl) recvM (c_nx hR (MS.close (by decide) hM8) (isS_0 (by rw [b1_n0.mp c64]; decide)) (fun τ9 hM9 => ?_))
                   refine g_goto (tgt := 161) B dX6_atom3_92 (by decide) ?_
                   refine g_iload_n B dX6_atom3_161 rfl ?_
                   refine g_ireti B dX6_atom3_162 ?_
                   refine hK2 cs (a2 + 1) ?_ _ hM9
                   unfold pAtom
                   rw [if_neg (fun h => by rw [b1_n0.mp c43] at h; exact absurd h (by decide)), if_neg (b1_0.mp c8), if_pos (b1_n0.mp c43)]
                   show (match pEith (tT τ0 t n) (tV τ0 t n) (pLev (tT τ0 t n) (tV τ0 t n) 1) (a + 1) with | .inl f => _ | .inr (cs, a2) => _) = _
                   rw [hf]
                   show (if tT τ0 t n a2 = 41 then _ else _) = _
                   rw [if_pos (b1_n0.mp c64)])
        · refine g_istore_n B dX6_atom3_57 (by decide) rfl ?_
          refine g_aload_n B dX6_atom3_58 rfl ?_
          refine g_bipush (v := (41)) B dX6_atom3_59 (by decide) ?_
          first
            | refine g_callVi (C := RX6) (As := [.int _]) B dX6_atom3_61 (gc1 g_X6_202) (by rfl) ⟨rfl, hd_X6_isSign⟩ (by exact ⟨Nat.le_of_ble_eq_true rfl, Nat.le_of_ble_eq_true rfl⟩) ⟨rfl, rfl⟩ rfl rfl (by exact Nat.le_of_ble_eq_true rfl) recvM (c_sgnB hB8 ?_)
            | refine g_callVi (C := RX6) (As := [.int _]) B dX6_atom3_61 (gc1 g_X6_202) (by rfl) ⟨rfl, hd_X6_isSign⟩ (by exact ⟨Nat.le_of_ble_eq_true rfl, Nat.le_of_ble_eq_true rfl⟩) ⟨rfl, rfl⟩ rfl rfl (by exact Nat.le_of_ble_eq_true rfl) recvM (c_sgn hM8 (show isS 41 by decide) ?_)
          refine g_if_ne (tgt := 71) B dX6_atom3_64 (by decide) (fun c64 => ?_) (fun c64 => ?_)
          · refine g_aload_n B dX6_atom3_71 rfl ?_
            refine g_dup B dX6_atom3_72 rfl ?_
            refine g_getI (T := TX6) (N := 42) B dX6_atom3_73 (by decide) (by rfl) (inq inlX6) rfl 24 (by decide) (mq f_X6_171) (by rfl) ?_
            refine g_iconst (v := (1)) B dX6_atom3_76 (by decide) ?_
            refine g_isub B dX6_atom3_77 ?_
            refine g_putI (T := TX6) (N := 42) B dX6_atom3_78 (by decide) (by rfl) (inq inlX6) rfl 24 (by decide) (mq f_X6_171) tyX6_ok nmX6 rfl ⟨rfl, rfl⟩ (by rfl) ?_
            refine g_aload_n B dX6_atom3_81 rfl ?_
            refine g_getI (T := TX6) (N := 42) B dX6_atom3_82 (by decide) (by rfl) (inq inlX6) rfl 25 (by decide) (mq f_X6_161) (by rfl) ?_
            refine g_if_ne (tgt := 161) B dX6_atom3_85 (by decide) (fun c85 => ?_) (fun c85 => ?_)
            · refine g_iload_n B dX6_atom3_161 rfl ?_
              refine g_ireti B dX6_atom3_162 ?_
              first
                | exact absurd c15 (by decide)
                | exact absurd c50 (by decide)
                | exact absurd hB9.2.1 (fun h => absurd (c147.symm.trans h) (by decide))
                | exact absurd hM.2.1 c147
                | (refine hK1 f ?_ _ _ hB8.close
                   unfold pAtom
                   rw [if_neg (fun h => by rw [b1_n0.mp c43] at h; exact absurd h (by decide)), if_neg (b1_0.mp c8), if_pos (b1_n0.mp c43)]
                   show (match pEith (tT τ0 t n) (tV τ0 t n) (pLev (tT τ0 t n) (tV τ0 t n) 1) (a + 1) with | .inl f => _ | .inr (cs, a2) => _) = _
                   rw [hf])
                | (refine hK1 a2 ?_ _ _ hB6.close
                   unfold pAtom
                   rw [if_neg (fun h => by rw [b1_n0.mp c43] at h; exact absurd h (by decide)), if_neg (b1_0.mp c8), if_pos (b1_n0.mp c43)]
                   show (match pEith (tT τ0 t n) (tV τ0 t n) (pLev (tT τ0 t n) (tV τ0 t n) 1) (a + 1) with | .inl f => _ | .inr (cs, a2) => _) = _
                   rw [hf]
                   show (if tT τ0 t n a2 = 41 then _ else _) = _
                   rw [if_neg (b1_0.mp c64)])
                | exact absurd (MS.close (by decide) hM8).2.1 c85
                | exact hg _ _ hB9 (fun h => h.elim (fun h => c107 (hM.A.num.1.mpr h)) (fun h => h3 h)) (b1_0.mp c8) (b1_0.mp c43)
            · first
                | exact absurd (c85.symm.trans hB8.close.2.1) (by decide)
                | exact absurd (c85.symm.trans hB6.close.2.1) (by decide)
                | (refine g_aload_n B dX6_atom3_88 rfl ?_
                   refine g_callVv (C := RX6) (As := []) B dX6_atom3_89 (gc1 g_X6_177) (by rfl) ⟨rfl, hd_X6_next⟩ (by exact ⟨Nat.le_of_ble_eq_true rfl, Nat.le_of_ble_eq_true rfl⟩) ⟨rfl, rfl⟩ rfl rfl (by exact Nat.le_of_ble_eq_true rfl) recvM (c_nx hR (MS.close (by decide) hM8) (isS_0 (by rw [b1_n0.mp c64]; decide)) (fun τ9 hM9 => ?_))
                   refine g_goto (tgt := 161) B dX6_atom3_92 (by decide) ?_
                   refine g_iload_n B dX6_atom3_161 rfl ?_
                   refine g_ireti B dX6_atom3_162 ?_
                   refine hK2 cs (a2 + 1) ?_ _ hM9
                   unfold pAtom
                   rw [if_neg (fun h => by rw [b1_n0.mp c43] at h; exact absurd h (by decide)), if_neg (b1_0.mp c8), if_pos (b1_n0.mp c43)]
                   show (match pEith (tT τ0 t n) (tV τ0 t n) (pLev (tT τ0 t n) (tV τ0 t n) 1) (a + 1) with | .inl f => _ | .inr (cs, a2) => _) = _
                   rw [hf]
                   show (if tT τ0 t n a2 = 41 then _ else _) = _
                   rw [if_pos (b1_n0.mp c64)])
          · refine g_aload_n B dX6_atom3_67 rfl ?_
            first
              | refine g_callVv (C := RX6) (As := []) B dX6_atom3_68 (gc1 g_X6_174) (by rfl) ⟨rfl, hd_X6_fail⟩ (by exact ⟨Nat.le_of_ble_eq_true rfl, Nat.le_of_ble_eq_true rfl⟩) ⟨rfl, rfl⟩ rfl rfl (by exact Nat.le_of_ble_eq_true rfl) recvM (c_flB hB8 ?_)
              | refine g_callVv (C := RX6) (As := []) B dX6_atom3_68 (gc1 g_X6_174) (by rfl) ⟨rfl, hd_X6_fail⟩ (by exact ⟨Nat.le_of_ble_eq_true rfl, Nat.le_of_ble_eq_true rfl⟩) ⟨rfl, rfl⟩ rfl rfl (by exact Nat.le_of_ble_eq_true rfl) recvM (c_fl hM8 (fun τ6 hB6 => ?_))
            refine g_aload_n B dX6_atom3_71 rfl ?_
            refine g_dup B dX6_atom3_72 rfl ?_
            refine g_getI (T := TX6) (N := 42) B dX6_atom3_73 (by decide) (by rfl) (inq inlX6) rfl 24 (by decide) (mq f_X6_171) (by rfl) ?_
            refine g_iconst (v := (1)) B dX6_atom3_76 (by decide) ?_
            refine g_isub B dX6_atom3_77 ?_
            refine g_putI (T := TX6) (N := 42) B dX6_atom3_78 (by decide) (by rfl) (inq inlX6) rfl 24 (by decide) (mq f_X6_171) tyX6_ok nmX6 rfl ⟨rfl, rfl⟩ (by rfl) ?_
            refine g_aload_n B dX6_atom3_81 rfl ?_
            refine g_getI (T := TX6) (N := 42) B dX6_atom3_82 (by decide) (by rfl) (inq inlX6) rfl 25 (by decide) (mq f_X6_161) (by rfl) ?_
            refine g_if_ne (tgt := 161) B dX6_atom3_85 (by decide) (fun c85 => ?_) (fun c85 => ?_)
            · refine g_iload_n B dX6_atom3_161 rfl ?_
              refine g_ireti B dX6_atom3_162 ?_
              first
                | exact absurd c15 (by decide)
                | exact absurd c50 (by decide)
                | exact absurd hB9.2.1 (fun h => absurd (c147.symm.trans h) (by decide))
                | exact absurd hM.2.1 c147
                | (refine hK1 f ?_ _ _ hB8.close
                   unfold pAtom
                   rw [if_neg (fun h => by rw [b1_n0.mp c43] at h; exact absurd h (by decide)), if_neg (b1_0.mp c8), if_pos (b1_n0.mp c43)]
                   show (match pEith (tT τ0 t n) (tV τ0 t n) (pLev (tT τ0 t n) (tV τ0 t n) 1) (a + 1) with | .inl f => _ | .inr (cs, a2) => _) = _
                   rw [hf])
                | (refine hK1 a2 ?_ _ _ hB6.close
                   unfold pAtom
                   rw [if_neg (fun h => by rw [b1_n0.mp c43] at h; exact absurd h (by decide)), if_neg (b1_0.mp c8), if_pos (b1_n0.mp c43)]
                   show (match pEith (tT τ0 t n) (tV τ0 t n) (pLev (tT τ0 t n) (tV τ0 t n) 1) (a + 1) with | .inl f => _ | .inr (cs, a2) => _) = _
                   rw [hf]
                   show (if tT τ0 t n a2 = 41 then _ else _) = _
                   rw [if_neg (b1_0.mp c64)])
                | exact absurd (MS.close (by decide) hM8).2.1 c85
                | exact hg _ _ hB9 (fun h => h.elim (fun h => c107 (hM.A.num.1.mpr h)) (fun h => h3 h)) (b1_0.mp c8) (b1_0.mp c43)
            · first
                | exact absurd (c85.symm.trans hB8.close.2.1) (by decide)
                | exact absurd (c85.symm.trans hB6.close.2.1) (by decide)
                | (refine g_aload_n B dX6_atom3_88 rfl ?_
                   refine g_callVv (C := RX6) (As := []) B dX6_atom3_89 (gc1 g_X6_177) (by rfl) ⟨rfl, hd_X6_next⟩ (by exact ⟨Nat.le_of_ble_eq_true rfl, Nat.le_of_ble_eq_true rfl⟩) ⟨rfl, rfl⟩ rfl rfl (by exact Nat.le_of_ble_eq_true rfl) recvM (c_nx hR (MS.close (by decide) hM8) (isS_0 (by rw [b1_n0.mp c64]; decide)) (fun τ9 hM9 => ?_))
                   refine g_goto (tgt := 161) B dX6_atom3_92 (by decide) ?_
                   refine g_iload_n B dX6_atom3_161 rfl ?_
                   refine g_ireti B dX6_atom3_162 ?_
                   refine hK2 cs (a2 + 1) ?_ _ hM9
                   unfold pAtom
                   rw [if_neg (fun h => by rw [b1_n0.mp c43] at h; exact absurd h (by decide)), if_neg (b1_0.mp c8), if_pos (b1_n0.mp c43)]
                   show (match pEith (tT τ0 t n) (tV τ0 t n) (pLev (tT τ0 t n) (tV τ0 t n) 1) (a + 1) with | .inl f => _ | .inr (cs, a2) => _) = _
                   rw [hf]
                   show (if tT τ0 t n a2 = 41 then _ else _) = _
                   rw [if_pos (b1_n0.mp c64)])
  · refine g_aload_n B dX6_atom3_11 rfl ?_
    refine g_callVi (C := RX6) (As := []) B dX6_atom3_12 (gc1 g_X6_205) (by rfl) ⟨rfl, hd_X6_opens⟩ (by exact ⟨Nat.le_of_ble_eq_true rfl, Nat.le_of_ble_eq_true rfl⟩) ⟨rfl, rfl⟩ rfl rfl (by exact Nat.le_of_ble_eq_true rfl) recvM (c_opn hR hM (by decide) (isS_0 (by rw [b1_n0.mp c8]; decide)) (fun τ7 hM7 => ?_))
    refine g_if_eq (tgt := 161) B dX6_atom3_15 (by decide) (fun c15 => ?_) (fun c15 => ?_)
    · exact absurd c15 (by decide)
    · refine g_aload_n B dX6_atom3_18 rfl ?_
      refine g_callVi (C := RX6) (As := []) B dX6_atom3_19 (gc1 g_X6_235) (by rfl) ⟨rfl, hd_X6_atom4⟩ (by exact ⟨Nat.le_of_ble_eq_true rfl, Nat.le_of_ble_eq_true rfl⟩) ⟨rfl, rfl⟩ rfl rfl (by exact Nat.le_of_ble_eq_true rfl) recvM (c_atom4 hR hM7 (fun f hf v8 τ8 hB8 => ?_) (fun cs a2 hf τ8 hM8 => ?_))
      · refine g_ineg B dX6_atom3_22 ?_
        refine g_istore_n B dX6_atom3_23 (by decide) rfl ?_
        refine g_aload_n B dX6_atom3_24 rfl ?_
        refine g_dup B dX6_atom3_25 rfl ?_
        refine g_getI (T := TX6) (N := 42) B dX6_atom3_26 (by decide) (by rfl) (inq inlX6) rfl 24 (by decide) (mq f_X6_171) (by rfl) ?_
        refine g_iconst (v := (1)) B dX6_atom3_29 (by decide) ?_
        refine g_isub B dX6_atom3_30 ?_
        refine g_putI (T := TX6) (N := 42) B dX6_atom3_31 (by decide) (by rfl) (inq inlX6) rfl 24 (by decide) (mq f_X6_171) tyX6_ok nmX6 rfl ⟨rfl, rfl⟩ (by rfl) ?_
        refine g_goto (tgt := 161) B dX6_atom3_34 (by decide) ?_
        refine g_iload_n B dX6_atom3_161 rfl ?_
        refine g_ireti B dX6_atom3_162 ?_
        first
          | (refine hK1 f ?_ _ _ hB8.close
             unfold pAtom
             rw [if_neg (fun h => by rw [b1_n0.mp c8] at h; exact absurd h (by decide)), if_pos (b1_n0.mp c8)]
             show (match pAtom (tT τ0 t n) (tV τ0 t n) (pLev (tT τ0 t n) (tV τ0 t n) 1) (a + 1) with | .inl f => _ | .inr (cs, a2) => _) = _
             rw [hf])
          | (refine kk ?_ (hK2 (cs ++ [-22]) a2 (by
               unfold pAtom
               rw [if_neg (fun h => by rw [b1_n0.mp c8] at h; exact absurd h (by decide)), if_pos (b1_n0.mp c8)]
               show (match pAtom (tT τ0 t n) (tV τ0 t n) (pLev (tT τ0 t n) (tV τ0 t n) 1) (a + 1) with | .inl f => _ | .inr (cs, a2) => _) = _
               rw [hf]) _ (MS.close (by decide) hM8))
             exact (evc_neg (pAtom_ok (tT_TV hR) (pLev_ok (tT_TV hR) _) _ _ _ hf).1).symm)
      · refine g_ineg B dX6_atom3_22 ?_
        refine g_istore_n B dX6_atom3_23 (by decide) rfl ?_
        refine g_aload_n B dX6_atom3_24 rfl ?_
        refine g_dup B dX6_atom3_25 rfl ?_
        refine g_getI (T := TX6) (N := 42) B dX6_atom3_26 (by decide) (by rfl) (inq inlX6) rfl 24 (by decide) (mq f_X6_171) (by rfl) ?_
        refine g_iconst (v := (1)) B dX6_atom3_29 (by decide) ?_
        refine g_isub B dX6_atom3_30 ?_
        refine g_putI (T := TX6) (N := 42) B dX6_atom3_31 (by decide) (by rfl) (inq inlX6) rfl 24 (by decide) (mq f_X6_171) tyX6_ok nmX6 rfl ⟨rfl, rfl⟩ (by rfl) ?_
        refine g_goto (tgt := 161) B dX6_atom3_34 (by decide) ?_
        refine g_iload_n B dX6_atom3_161 rfl ?_
        refine g_ireti B dX6_atom3_162 ?_
        first
          | (refine hK1 f ?_ _ _ hB8.close
             unfold pAtom
             rw [if_neg (fun h => by rw [b1_n0.mp c8] at h; exact absurd h (by decide)), if_pos (b1_n0.mp c8)]
             show (match pAtom (tT τ0 t n) (tV τ0 t n) (pLev (tT τ0 t n) (tV τ0 t n) 1) (a + 1) with | .inl f => _ | .inr (cs, a2) => _) = _
             rw [hf])
          | (refine kk ?_ (hK2 (cs ++ [-22]) a2 (by
               unfold pAtom
               rw [if_neg (fun h => by rw [b1_n0.mp c8] at h; exact absurd h (by decide)), if_pos (b1_n0.mp c8)]
               show (match pAtom (tT τ0 t n) (tV τ0 t n) (pLev (tT τ0 t n) (tV τ0 t n) 1) (a + 1) with | .inl f => _ | .inr (cs, a2) => _) = _
               rw [hf]) _ (MS.close (by decide) hM8))
             exact (evc_neg (pAtom_ok (tT_TV hR) (pLev_ok (tT_TV hR) _) _ _ _ hf).1).symm)
set_option maxRecDepth 100000 in
set_option maxHeartbeats 4000000 in
theorem lB_term3 {Z : LZ} {ad : Nat → Nat} {X : CX} {K : Int32 → St → Prop} {τ0 τ : St} {t n f : Nat} {v : Int32} (B : Amb lyM Z ad (rmk 17) X cX6_term3 wsX6_term3 RX6 2 (some .int)) (hB : MB τ0 t n f τ) (hK : K v τ) : GG lyM Z ad (rmk 17) X (rI K) 5 [some (.ref (ad 0)), some (.int v)] [] τ := by
  refine g_aload_n B dX6_term3_5 rfl ?_
  refine g_bipush (v := (42)) B dX6_term3_6 (by decide) ?_
  refine g_callVi (C := RX6) (As := [.int _]) B dX6_term3_8 (gc1 g_X6_202) (by rfl) ⟨rfl, hd_X6_isSign⟩ (by exact ⟨Nat.le_of_ble_eq_true rfl, Nat.le_of_ble_eq_true rfl⟩) ⟨rfl, rfl⟩ rfl rfl (by exact Nat.le_of_ble_eq_true rfl) recvM (c_sgnB hB ?_)
  refine g_if_eq (tgt := 28) B dX6_term3_11 (by decide) (fun c11 => ?_) (fun c11 => ?_)
  · refine g_iload_n B dX6_term3_28 rfl ?_
    refine g_ireti B dX6_term3_29 ?_
    exact hK
  · exact absurd rfl c11
set_option maxRecDepth 100000 in
set_option maxHeartbeats 4000000 in
theorem l_term3 {Z : LZ} {ad : Nat → Nat} {X : CX} {K : Int32 → St → Prop} {τ0 : St} {t n : Nat} (B : Amb lyM Z ad (rmk 17) X cX6_term3 wsX6_term3 RX6 2 (some .int)) (hR : RB τ0 t n) : ∀ (k : Nat) (cs : List Int32) (b : Nat) (τ : St), 160 ≤ b + k → WF cs → MS τ0 t n 3 b τ → (∀ f, pLoop (pAtom (tT τ0 t n) (tV τ0 t n) (pLev (tT τ0 t n) (tV τ0 t n) 2)) (opMul (tT τ0 t n)) (k + 1) cs b = .inl f → ∀ v τ', MB τ0 t n f τ' → K v τ') → (∀ ds a2, pLoop (pAtom (tT τ0 t n) (tV τ0 t n) (pLev (tT τ0 t n) (tV τ0 t n) 2)) (opMul (tT τ0 t n)) (k + 1) cs b = .inr (ds, a2) → ∀ τ', MS τ0 t n 3 a2 τ' → K (evc (eM τ0) ds) τ') → GG lyM Z ad (rmk 17) X (rI K) 5 [some (.ref (ad 0)), some (.int (evc (eM τ0) cs))] [] τ := by
  intro k
  induction k using Nat.strongRecOn with
  | ind k ih =>
  intro cs b τ hk hw hM hK1 hK2
  have hn := hR.2.2.2
  unfold pLoop at hK1 hK2
  refine g_aload_n B dX6_term3_5 rfl ?_
  refine g_bipush (v := (42)) B dX6_term3_6 (by decide) ?_
  refine g_callVi (C := RX6) (As := [.int _]) B dX6_term3_8 (gc1 g_X6_202) (by rfl) ⟨rfl, hd_X6_isSign⟩ (by exact ⟨Nat.le_of_ble_eq_true rfl, Nat.le_of_ble_eq_true rfl⟩) ⟨rfl, rfl⟩ rfl rfl (by exact Nat.le_of_ble_eq_true rfl) recvM (c_sgn hM (show isS 42 by decide) ?_)
  refine g_if_eq (tgt := 28) B dX6_term3_11 (by decide) (fun c11 => ?_) (fun c11 => ?_)
  · refine g_iload_n B dX6_term3_28 rfl ?_
    refine g_ireti B dX6_term3_29 ?_
    have hop : opMul (tT τ0 t n) b = none := if_neg (b1_0.mp c11)
    rw [hop] at hK2
    exact hK2 _ _ rfl τ hM
  · have hT := b1_n0.mp c11
    have hop : opMul (tT τ0 t n) b = some (-17) := if_pos hT
    have hb := tT_lt hR (show tT τ0 t n b ≠ 0 by rw [hT]; decide)
    rw [hop] at hK1 hK2
    dsimp only at hK1 hK2
    refine g_aload_n B dX6_term3_14 rfl ?_
    refine g_callVv (C := RX6) (As := []) B dX6_term3_15 (gc1 g_X6_177) (by rfl) ⟨rfl, hd_X6_next⟩ (by exact ⟨Nat.le_of_ble_eq_true rfl, Nat.le_of_ble_eq_true rfl⟩) ⟨rfl, rfl⟩ rfl rfl (by exact Nat.le_of_ble_eq_true rfl) recvM (c_nx hR hM (isS_0 (by rw [hT]; decide)) (fun τ2 hM2 => ?_))
    refine g_iload_n B dX6_term3_18 rfl ?_
    refine g_aload_n B dX6_term3_19 rfl ?_
    refine g_callVi (C := RX6) (As := []) B dX6_term3_20 (gc1 g_X6_253) (by rfl) ⟨rfl, hd_X6_atom3⟩ (by exact ⟨Nat.le_of_ble_eq_true rfl, Nat.le_of_ble_eq_true rfl⟩) ⟨rfl, rfl⟩ rfl rfl (by exact Nat.le_of_ble_eq_true rfl) recvM (c_atom3 hR hM2 (fun f hf v8 τ8 hB8 => ?_) (fun cs2 a2 hf τ8 hM8 => ?_))
    · rw [hf] at hK1; dsimp only at hK1
      refine g_imul B dX6_term3_23 ?_
      refine g_istore_n B dX6_term3_24 (by decide) rfl ?_
      refine g_goto (tgt := 5) B dX6_term3_25 (by decide) ?_
      first
        | exact lB_term3 B hB8 (hK1 f rfl _ _ hB8)
        | (rw [evc_mul hw hw2]
           obtain ⟨k', rfl⟩ : ∃ k', k = k' + 1 := ⟨k - 1, by omega⟩
           exact ih k' (by omega) (cs ++ cs2 ++ [-17]) a2 τ8 (by omega) (hw.bin hw2 (by decide)) hM8 hK1 hK2)
    · rw [hf] at hK1 hK2; dsimp only at hK1 hK2; obtain ⟨hw2, hlt2⟩ := pAtom_ok (tT_TV hR) (pLev_ok (tT_TV hR) _) _ _ _ hf
      refine g_imul B dX6_term3_23 ?_
      refine g_istore_n B dX6_term3_24 (by decide) rfl ?_
      refine g_goto (tgt := 5) B dX6_term3_25 (by decide) ?_
      first
        | exact lB_term3 B hB8 (hK1 f rfl _ _ hB8)
        | (rw [evc_mul hw hw2]
           obtain ⟨k', rfl⟩ : ∃ k', k = k' + 1 := ⟨k - 1, by omega⟩
           exact ih k' (by omega) (cs ++ cs2 ++ [-17]) a2 τ8 (by omega) (hw.bin hw2 (by decide)) hM8 hK1 hK2)
set_option maxRecDepth 100000 in
set_option maxHeartbeats 4000000 in
theorem c_term3 {Z : LZ} {ad : Nat → Nat} {τ0 τ : St} {K : Int32 → St → Prop} {t n a : Nat} (hR : RB τ0 t n) (hM : MS τ0 t n 3 a τ) (hK1 : ∀ f, pTerm (tT τ0 t n) (tV τ0 t n) (pLev (tT τ0 t n) (tV τ0 t n) 2) a = .inl f → ∀ v τ', MB τ0 t n f τ' → K v τ') (hK2 : ∀ cs a2, pTerm (tT τ0 t n) (tV τ0 t n) (pLev (tT τ0 t n) (tV τ0 t n) 2) a = .inr (cs, a2) → ∀ τ', MS τ0 t n 3 a2 τ' → K (evc (eM τ0) cs) τ') : CC lyM Z ad yX6_term3 wsX6_term3 (rmk 17) [.ref (ad 0)] τ (rI K) := by
  refine CC.of (cc := cX6_term3) (nL := 2) (ret := (some .int)) rfl rfl ⟨rfl, rfl⟩ (by exact Nat.le_of_ble_eq_true rfl) ?_
  intro X B
  change GG _ _ _ _ X _ 0 [some (.ref (ad 0)), none] [] _
  change Amb _ _ _ _ X _ _ RX6 _ _ at B
  unfold pTerm pSeq at hK1 hK2
  refine g_aload_n B dX6_term3_0 rfl ?_
  refine g_callVi (C := RX6) (As := []) B dX6_term3_1 (gc1 g_X6_253) (by rfl) ⟨rfl, hd_X6_atom3⟩ (by exact ⟨Nat.le_of_ble_eq_true rfl, Nat.le_of_ble_eq_true rfl⟩) ⟨rfl, rfl⟩ rfl rfl (by exact Nat.le_of_ble_eq_true rfl) recvM (c_atom3 hR hM (fun f hf v8 τ8 hB8 => ?_) (fun cs a1 hf τ8 hM8 => ?_))
  · rw [hf] at hK1; dsimp only at hK1
    refine g_istore_n B dX6_term3_4 (by decide) rfl ?_
    first
      | exact lB_term3 B hB8 (hK1 f rfl _ _ hB8)
      | exact l_term3 B hR 199 cs a1 τ8 (by omega) (pAtom_ok (tT_TV hR) (pLev_ok (tT_TV hR) _) _ _ _ hf).1 hM8 hK1 hK2
  · rw [hf] at hK1 hK2; dsimp only at hK1 hK2
    refine g_istore_n B dX6_term3_4 (by decide) rfl ?_
    first
      | exact lB_term3 B hB8 (hK1 f rfl _ _ hB8)
      | exact l_term3 B hR 199 cs a1 τ8 (by omega) (pAtom_ok (tT_TV hR) (pLev_ok (tT_TV hR) _) _ _ _ hf).1 hM8 hK1 hK2
set_option maxRecDepth 100000 in
set_option maxHeartbeats 4000000 in
theorem lB_added3 {Z : LZ} {ad : Nat → Nat} {X : CX} {K : Int32 → St → Prop} {τ0 τ : St} {t n f : Nat} {v : Int32} (B : Amb lyM Z ad (rmk 18) X cX6_added3 wsX6_added3 RX6 4 (some .int)) (hB : MB τ0 t n f τ) (hK : K v τ) : GG lyM Z ad (rmk 18) X (rI K) 5 [some (.ref (ad 0)), some (.int v), none, none] [] τ := by
  refine g_aload_n B dX6_added3_5 rfl ?_
  refine g_bipush (v := (43)) B dX6_added3_6 (by decide) ?_
  refine g_callVi (C := RX6) (As := [.int _]) B dX6_added3_8 (gc1 g_X6_202) (by rfl) ⟨rfl, hd_X6_isSign⟩ (by exact ⟨Nat.le_of_ble_eq_true rfl, Nat.le_of_ble_eq_true rfl⟩) ⟨rfl, rfl⟩ rfl rfl (by exact Nat.le_of_ble_eq_true rfl) recvM (c_sgnB hB ?_)
  refine g_if_ne (tgt := 23) B dX6_added3_11 (by decide) (fun c11 => ?_) (fun c11 => ?_)
  · first | exact absurd rfl c11 | exact absurd rfl c20
  · refine g_aload_n B dX6_added3_14 rfl ?_
    refine g_bipush (v := (45)) B dX6_added3_15 (by decide) ?_
    refine g_callVi (C := RX6) (As := [.int _]) B dX6_added3_17 (gc1 g_X6_202) (by rfl) ⟨rfl, hd_X6_isSign⟩ (by exact ⟨Nat.le_of_ble_eq_true rfl, Nat.le_of_ble_eq_true rfl⟩) ⟨rfl, rfl⟩ rfl rfl (by exact Nat.le_of_ble_eq_true rfl) recvM (c_sgnB hB ?_)
    refine g_if_eq (tgt := 66) B dX6_added3_20 (by decide) (fun c20 => ?_) (fun c20 => ?_)
    · refine g_iload_n B dX6_added3_66 rfl ?_
      refine g_ireti B dX6_added3_67 ?_
      exact hK
    · first | exact absurd rfl c11 | exact absurd rfl c20
set_option maxRecDepth 100000 in
set_option maxHeartbeats 4000000 in
theorem l_added3 {Z : LZ} {ad : Nat → Nat} {X : CX} {K : Int32 → St → Prop} {τ0 : St} {t n : Nat} (B : Amb lyM Z ad (rmk 18) X cX6_added3 wsX6_added3 RX6 4 (some .int)) (hR : RB τ0 t n) : ∀ (k : Nat) (cs : List Int32) (b : Nat) (τ : St), 160 ≤ b + k → WF cs → MS τ0 t n 3 b τ → (∀ f, pLoop (pTerm (tT τ0 t n) (tV τ0 t n) (pLev (tT τ0 t n) (tV τ0 t n) 2)) (opAdd (tT τ0 t n)) (k + 1) cs b = .inl f → ∀ v τ', MB τ0 t n f τ' → K v τ') → (∀ ds a2, pLoop (pTerm (tT τ0 t n) (tV τ0 t n) (pLev (tT τ0 t n) (tV τ0 t n) 2)) (opAdd (tT τ0 t n)) (k + 1) cs b = .inr (ds, a2) → ∀ τ', MS τ0 t n 3 a2 τ' → K (evc (eM τ0) ds) τ') → GG lyM Z ad (rmk 18) X (rI K) 5 [some (.ref (ad 0)), some (.int (evc (eM τ0) cs)), none, none] [] τ := by
  intro k
  induction k using Nat.strongRecOn with
  | ind k ih =>
  intro cs b τ hk hw hM hK1 hK2
  have hn := hR.2.2.2
  unfold pLoop at hK1 hK2
  refine g_aload_n B dX6_added3_5 rfl ?_
  refine g_bipush (v := (43)) B dX6_added3_6 (by decide) ?_
  refine g_callVi (C := RX6) (As := [.int _]) B dX6_added3_8 (gc1 g_X6_202) (by rfl) ⟨rfl, hd_X6_isSign⟩ (by exact ⟨Nat.le_of_ble_eq_true rfl, Nat.le_of_ble_eq_true rfl⟩) ⟨rfl, rfl⟩ rfl rfl (by exact Nat.le_of_ble_eq_true rfl) recvM (c_sgn hM (show isS 43 by decide) ?_)
  refine g_if_ne (tgt := 23) B dX6_added3_11 (by decide) (fun c11 => ?_) (fun c11 => ?_)
  · have hT : tT τ0 t n b = 43 ∨ tT τ0 t n b = 45 := by first | exact Or.inl (b1_n0.mp c11) | exact Or.inr (b1_n0.mp c20)
    have hT0 : isS (tT τ0 t n b) := by rcases hT with h | h <;> rw [h] <;> decide
    have hb := tT_lt hR (isS_0 hT0).1
    have hwv := hM.w hT0
    have h43 : τ.2.1 = 43 ↔ tT τ0 t n b = 43 := by
      rw [hwv]
      constructor
      · intro h
        have := congrArg Int64.toInt h
        rw [i_long] at this
        exact i_eq.mpr this
      · intro h
        rw [h]; rfl
    refine g_aload_n B dX6_added3_23 rfl ?_
    refine g_getL (T := TX6) (N := 42) B dX6_added3_24 (by decide) (by rfl) (inq inlX6) rfl 23 (by decide) (mq f_X6_155) (by rfl) ?_
    refine g_ldc2 (v := (43)) B dX6_added3_27 (mq k_X6_219) ?_
    refine g_lcmp B dX6_added3_30 ?_
    refine g_if_ne (tgt := 38) B dX6_added3_31 (by decide) (fun c31 => ?_) (fun c31 => ?_)
    · refine g_iconst (v := (0)) B dX6_added3_38 (by decide) ?_
      refine g_istore_n B dX6_added3_39 (by decide) rfl ?_
      refine g_aload_n B dX6_added3_40 rfl ?_
      refine g_callVv (C := RX6) (As := []) B dX6_added3_41 (gc1 g_X6_177) (by rfl) ⟨rfl, hd_X6_next⟩ (by exact ⟨Nat.le_of_ble_eq_true rfl, Nat.le_of_ble_eq_true rfl⟩) ⟨rfl, rfl⟩ rfl rfl (by exact Nat.le_of_ble_eq_true rfl) recvM (c_nx hR hM (isS_0 hT0) (fun τ2 hM2 => ?_))
      refine g_aload_n B dX6_added3_44 rfl ?_
      refine g_callVi (C := RX6) (As := []) B dX6_added3_45 (gc1 g_X6_256) (by rfl) ⟨rfl, hd_X6_term3⟩ (by exact ⟨Nat.le_of_ble_eq_true rfl, Nat.le_of_ble_eq_true rfl⟩) ⟨rfl, rfl⟩ rfl rfl (by exact Nat.le_of_ble_eq_true rfl) recvM (c_term3 hR hM2 (fun f hf v8 τ8 hB8 => ?_) (fun cs2 a2 hf τ8 hM8 => ?_))
      · skip
        refine g_istore_n B dX6_added3_48 (by decide) rfl ?_
        refine g_iload_n B dX6_added3_49 rfl ?_
        refine g_if_eq (tgt := 59) B dX6_added3_50 (by decide) (fun c50 => ?_) (fun c50 => ?_)
        · refine g_iload_n B dX6_added3_59 rfl ?_
          refine g_iload_n B dX6_added3_60 rfl ?_
          refine g_isub B dX6_added3_61 ?_
          refine g_istore_n B dX6_added3_62 (by decide) rfl ?_
          refine g_goto (tgt := 5) B dX6_added3_63 (by decide) ?_
          first
            | exact absurd rfl c50
            | exact absurd c50 (by decide)
            | (have hop : opAdd (tT τ0 t n) b = some (-15) := if_pos (h43.mp (l_cmp_eq0.mp c31))
               rw [hop] at hK1 hK2
               dsimp only at hK1 hK2
               rw [hf] at hK1 hK2
               dsimp only at hK1 hK2
               refine g_drop 2 (g_drop 3 ?_)
               first
               | exact lB_added3 B hB8 (hK1 f rfl _ _ hB8)
               | (obtain ⟨hw2, hlt2⟩ := pTerm_ok (tT_TV hR) (pLev_ok (tT_TV hR) _) _ _ _ hf
                  rw [evc_add hw hw2]
                  obtain ⟨k', rfl⟩ : ∃ k', k = k' + 1 := ⟨k - 1, by omega⟩
                  exact ih k' (by omega) (cs ++ cs2 ++ [-15]) a2 τ8 (by omega) (hw.bin hw2 (by decide)) hM8 hK1 hK2))
            | (have h31 : ¬ tT τ0 t n b = 43 := fun h => c31 (l_cmp_eq0.mpr (h43.mpr h))
               have hop : opAdd (tT τ0 t n) b = some (-16) := (if_neg h31).trans (if_pos (hT.resolve_left h31))
               rw [hop] at hK1 hK2
               dsimp only at hK1 hK2
               rw [hf] at hK1 hK2
               dsimp only at hK1 hK2
               refine g_drop 2 (g_drop 3 ?_)
               first
               | exact lB_added3 B hB8 (hK1 f rfl _ _ hB8)
               | (obtain ⟨hw2, hlt2⟩ := pTerm_ok (tT_TV hR) (pLev_ok (tT_TV hR) _) _ _ _ hf
                  rw [evc_sub hw hw2]
                  obtain ⟨k', rfl⟩ : ∃ k', k = k' + 1 := ⟨k - 1, by omega⟩
                  exact ih k' (by omega) (cs ++ cs2 ++ [-16]) a2 τ8 (by omega) (hw.bin hw2 (by decide)) hM8 hK1 hK2))
        · refine g_iload_n B dX6_added3_53 rfl ?_
          refine g_iload_n B dX6_added3_54 rfl ?_
          refine g_iadd B dX6_added3_55 ?_
          refine g_goto (tgt := 62) B dX6_added3_56 (by decide) ?_
          refine g_istore_n B dX6_added3_62 (by decide) rfl ?_
          refine g_goto (tgt := 5) B dX6_added3_63 (by decide) ?_
          first
            | exact absurd rfl c50
            | exact absurd c50 (by decide)
            | (have hop : opAdd (tT τ0 t n) b = some (-15) := if_pos (h43.mp (l_cmp_eq0.mp c31))
               rw [hop] at hK1 hK2
               dsimp only at hK1 hK2
               rw [hf] at hK1 hK2
               dsimp only at hK1 hK2
               refine g_drop 2 (g_drop 3 ?_)
               first
               | exact lB_added3 B hB8 (hK1 f rfl _ _ hB8)
               | (obtain ⟨hw2, hlt2⟩ := pTerm_ok (tT_TV hR) (pLev_ok (tT_TV hR) _) _ _ _ hf
                  rw [evc_add hw hw2]
                  obtain ⟨k', rfl⟩ : ∃ k', k = k' + 1 := ⟨k - 1, by omega⟩
                  exact ih k' (by omega) (cs ++ cs2 ++ [-15]) a2 τ8 (by omega) (hw.bin hw2 (by decide)) hM8 hK1 hK2))
            | (have h31 : ¬ tT τ0 t n b = 43 := fun h => c31 (l_cmp_eq0.mpr (h43.mpr h))
               have hop : opAdd (tT τ0 t n) b = some (-16) := (if_neg h31).trans (if_pos (hT.resolve_left h31))
               rw [hop] at hK1 hK2
               dsimp only at hK1 hK2
               rw [hf] at hK1 hK2
               dsimp only at hK1 hK2
               refine g_drop 2 (g_drop 3 ?_)
               first
               | exact lB_added3 B hB8 (hK1 f rfl _ _ hB8)
               | (obtain ⟨hw2, hlt2⟩ := pTerm_ok (tT_TV hR) (pLev_ok (tT_TV hR) _) _ _ _ hf
                  rw [evc_sub hw hw2]
                  obtain ⟨k', rfl⟩ : ∃ k', k = k' + 1 := ⟨k - 1, by omega⟩
                  exact ih k' (by omega) (cs ++ cs2 ++ [-16]) a2 τ8 (by omega) (hw.bin hw2 (by decide)) hM8 hK1 hK2))
      · skip
        refine g_istore_n B dX6_added3_48 (by decide) rfl ?_
        refine g_iload_n B dX6_added3_49 rfl ?_
        refine g_if_eq (tgt := 59) B dX6_added3_50 (by decide) (fun c50 => ?_) (fun c50 => ?_)
        · refine g_iload_n B dX6_added3_59 rfl ?_
          refine g_iload_n B dX6_added3_60 rfl ?_
          refine g_isub B dX6_added3_61 ?_
          refine g_istore_n B dX6_added3_62 (by decide) rfl ?_
          refine g_goto (tgt := 5) B dX6_added3_63 (by decide) ?_
          first
            | exact absurd rfl c50
            | exact absurd c50 (by decide)
            | (have hop : opAdd (tT τ0 t n) b = some (-15) := if_pos (h43.mp (l_cmp_eq0.mp c31))
               rw [hop] at hK1 hK2
               dsimp only at hK1 hK2
               rw [hf] at hK1 hK2
               dsimp only at hK1 hK2
               refine g_drop 2 (g_drop 3 ?_)
               first
               | exact lB_added3 B hB8 (hK1 f rfl _ _ hB8)
               | (obtain ⟨hw2, hlt2⟩ := pTerm_ok (tT_TV hR) (pLev_ok (tT_TV hR) _) _ _ _ hf
                  rw [evc_add hw hw2]
                  obtain ⟨k', rfl⟩ : ∃ k', k = k' + 1 := ⟨k - 1, by omega⟩
                  exact ih k' (by omega) (cs ++ cs2 ++ [-15]) a2 τ8 (by omega) (hw.bin hw2 (by decide)) hM8 hK1 hK2))
            | (have h31 : ¬ tT τ0 t n b = 43 := fun h => c31 (l_cmp_eq0.mpr (h43.mpr h))
               have hop : opAdd (tT τ0 t n) b = some (-16) := (if_neg h31).trans (if_pos (hT.resolve_left h31))
               rw [hop] at hK1 hK2
               dsimp only at hK1 hK2
               rw [hf] at hK1 hK2
               dsimp only at hK1 hK2
               refine g_drop 2 (g_drop 3 ?_)
               first
               | exact lB_added3 B hB8 (hK1 f rfl _ _ hB8)
               | (obtain ⟨hw2, hlt2⟩ := pTerm_ok (tT_TV hR) (pLev_ok (tT_TV hR) _) _ _ _ hf
                  rw [evc_sub hw hw2]
                  obtain ⟨k', rfl⟩ : ∃ k', k = k' + 1 := ⟨k - 1, by omega⟩
                  exact ih k' (by omega) (cs ++ cs2 ++ [-16]) a2 τ8 (by omega) (hw.bin hw2 (by decide)) hM8 hK1 hK2))
        · refine g_iload_n B dX6_added3_53 rfl ?_
          refine g_iload_n B dX6_added3_54 rfl ?_
          refine g_iadd B dX6_added3_55 ?_
          refine g_goto (tgt := 62) B dX6_added3_56 (by decide) ?_
          refine g_istore_n B dX6_added3_62 (by decide) rfl ?_
          refine g_goto (tgt := 5) B dX6_added3_63 (by decide) ?_
          first
            | exact absurd rfl c50
            | exact absurd c50 (by decide)
            | (have hop : opAdd (tT τ0 t n) b = some (-15) := if_pos (h43.mp (l_cmp_eq0.mp c31))
               rw [hop] at hK1 hK2
               dsimp only at hK1 hK2
               rw [hf] at hK1 hK2
               dsimp only at hK1 hK2
               refine g_drop 2 (g_drop 3 ?_)
               first
               | exact lB_added3 B hB8 (hK1 f rfl _ _ hB8)
               | (obtain ⟨hw2, hlt2⟩ := pTerm_ok (tT_TV hR) (pLev_ok (tT_TV hR) _) _ _ _ hf
                  rw [evc_add hw hw2]
                  obtain ⟨k', rfl⟩ : ∃ k', k = k' + 1 := ⟨k - 1, by omega⟩
                  exact ih k' (by omega) (cs ++ cs2 ++ [-15]) a2 τ8 (by omega) (hw.bin hw2 (by decide)) hM8 hK1 hK2))
            | (have h31 : ¬ tT τ0 t n b = 43 := fun h => c31 (l_cmp_eq0.mpr (h43.mpr h))
               have hop : opAdd (tT τ0 t n) b = some (-16) := (if_neg h31).trans (if_pos (hT.resolve_left h31))
               rw [hop] at hK1 hK2
               dsimp only at hK1 hK2
               rw [hf] at hK1 hK2
               dsimp only at hK1 hK2
               refine g_drop 2 (g_drop 3 ?_)
               first
               | exact lB_added3 B hB8 (hK1 f rfl _ _ hB8)
               | (obtain ⟨hw2, hlt2⟩ := pTerm_ok (tT_TV hR) (pLev_ok (tT_TV hR) _) _ _ _ hf
                  rw [evc_sub hw hw2]
                  obtain ⟨k', rfl⟩ : ∃ k', k = k' + 1 := ⟨k - 1, by omega⟩
                  exact ih k' (by omega) (cs ++ cs2 ++ [-16]) a2 τ8 (by omega) (hw.bin hw2 (by decide)) hM8 hK1 hK2))
    · refine g_iconst (v := (1)) B dX6_added3_34 (by decide) ?_
      refine g_goto (tgt := 39) B dX6_added3_35 (by decide) ?_
      refine g_istore_n B dX6_added3_39 (by decide) rfl ?_
      refine g_aload_n B dX6_added3_40 rfl ?_
      refine g_callVv (C := RX6) (As := []) B dX6_added3_41 (gc1 g_X6_177) (by rfl) ⟨rfl, hd_X6_next⟩ (by exact ⟨Nat.le_of_ble_eq_true rfl, Nat.le_of_ble_eq_true rfl⟩) ⟨rfl, rfl⟩ rfl rfl (by exact Nat.le_of_ble_eq_true rfl) recvM (c_nx hR hM (isS_0 hT0) (fun τ2 hM2 => ?_))
      refine g_aload_n B dX6_added3_44 rfl ?_
      refine g_callVi (C := RX6) (As := []) B dX6_added3_45 (gc1 g_X6_256) (by rfl) ⟨rfl, hd_X6_term3⟩ (by exact ⟨Nat.le_of_ble_eq_true rfl, Nat.le_of_ble_eq_true rfl⟩) ⟨rfl, rfl⟩ rfl rfl (by exact Nat.le_of_ble_eq_true rfl) recvM (c_term3 hR hM2 (fun f hf v8 τ8 hB8 => ?_) (fun cs2 a2 hf τ8 hM8 => ?_))
      · skip
        refine g_istore_n B dX6_added3_48 (by decide) rfl ?_
        refine g_iload_n B dX6_added3_49 rfl ?_
        refine g_if_eq (tgt := 59) B dX6_added3_50 (by decide) (fun c50 => ?_) (fun c50 => ?_)
        · refine g_iload_n B dX6_added3_59 rfl ?_
          refine g_iload_n B dX6_added3_60 rfl ?_
          refine g_isub B dX6_added3_61 ?_
          refine g_istore_n B dX6_added3_62 (by decide) rfl ?_
          refine g_goto (tgt := 5) B dX6_added3_63 (by decide) ?_
          first
            | exact absurd rfl c50
            | exact absurd c50 (by decide)
            | (have hop : opAdd (tT τ0 t n) b = some (-15) := if_pos (h43.mp (l_cmp_eq0.mp c31))
               rw [hop] at hK1 hK2
               dsimp only at hK1 hK2
               rw [hf] at hK1 hK2
               dsimp only at hK1 hK2
               refine g_drop 2 (g_drop 3 ?_)
               first
               | exact lB_added3 B hB8 (hK1 f rfl _ _ hB8)
               | (obtain ⟨hw2, hlt2⟩ := pTerm_ok (tT_TV hR) (pLev_ok (tT_TV hR) _) _ _ _ hf
                  rw [evc_add hw hw2]
                  obtain ⟨k', rfl⟩ : ∃ k', k = k' + 1 := ⟨k - 1, by omega⟩
                  exact ih k' (by omega) (cs ++ cs2 ++ [-15]) a2 τ8 (by omega) (hw.bin hw2 (by decide)) hM8 hK1 hK2))
            | (have h31 : ¬ tT τ0 t n b = 43 := fun h => c31 (l_cmp_eq0.mpr (h43.mpr h))
               have hop : opAdd (tT τ0 t n) b = some (-16) := (if_neg h31).trans (if_pos (hT.resolve_left h31))
               rw [hop] at hK1 hK2
               dsimp only at hK1 hK2
               rw [hf] at hK1 hK2
               dsimp only at hK1 hK2
               refine g_drop 2 (g_drop 3 ?_)
               first
               | exact lB_added3 B hB8 (hK1 f rfl _ _ hB8)
               | (obtain ⟨hw2, hlt2⟩ := pTerm_ok (tT_TV hR) (pLev_ok (tT_TV hR) _) _ _ _ hf
                  rw [evc_sub hw hw2]
                  obtain ⟨k', rfl⟩ : ∃ k', k = k' + 1 := ⟨k - 1, by omega⟩
                  exact ih k' (by omega) (cs ++ cs2 ++ [-16]) a2 τ8 (by omega) (hw.bin hw2 (by decide)) hM8 hK1 hK2))
        · refine g_iload_n B dX6_added3_53 rfl ?_
          refine g_iload_n B dX6_added3_54 rfl ?_
          refine g_iadd B dX6_added3_55 ?_
          refine g_goto (tgt := 62) B dX6_added3_56 (by decide) ?_
          refine g_istore_n B dX6_added3_62 (by decide) rfl ?_
          refine g_goto (tgt := 5) B dX6_added3_63 (by decide) ?_
          first
            | exact absurd rfl c50
            | exact absurd c50 (by decide)
            | (have hop : opAdd (tT τ0 t n) b = some (-15) := if_pos (h43.mp (l_cmp_eq0.mp c31))
               rw [hop] at hK1 hK2
               dsimp only at hK1 hK2
               rw [hf] at hK1 hK2
               dsimp only at hK1 hK2
               refine g_drop 2 (g_drop 3 ?_)
               first
               | exact lB_added3 B hB8 (hK1 f rfl _ _ hB8)
               | (obtain ⟨hw2, hlt2⟩ := pTerm_ok (tT_TV hR) (pLev_ok (tT_TV hR) _) _ _ _ hf
                  rw [evc_add hw hw2]
                  obtain ⟨k', rfl⟩ : ∃ k', k = k' + 1 := ⟨k - 1, by omega⟩
                  exact ih k' (by omega) (cs ++ cs2 ++ [-15]) a2 τ8 (by omega) (hw.bin hw2 (by decide)) hM8 hK1 hK2))
            | (have h31 : ¬ tT τ0 t n b = 43 := fun h => c31 (l_cmp_eq0.mpr (h43.mpr h))
               have hop : opAdd (tT τ0 t n) b = some (-16) := (if_neg h31).trans (if_pos (hT.resolve_left h31))
               rw [hop] at hK1 hK2
               dsimp only at hK1 hK2
               rw [hf] at hK1 hK2
               dsimp only at hK1 hK2
               refine g_drop 2 (g_drop 3 ?_)
               first
               | exact lB_added3 B hB8 (hK1 f rfl _ _ hB8)
               | (obtain ⟨hw2, hlt2⟩ := pTerm_ok (tT_TV hR) (pLev_ok (tT_TV hR) _) _ _ _ hf
                  rw [evc_sub hw hw2]
                  obtain ⟨k', rfl⟩ : ∃ k', k = k' + 1 := ⟨k - 1, by omega⟩
                  exact ih k' (by omega) (cs ++ cs2 ++ [-16]) a2 τ8 (by omega) (hw.bin hw2 (by decide)) hM8 hK1 hK2))
      · skip
        refine g_istore_n B dX6_added3_48 (by decide) rfl ?_
        refine g_iload_n B dX6_added3_49 rfl ?_
        refine g_if_eq (tgt := 59) B dX6_added3_50 (by decide) (fun c50 => ?_) (fun c50 => ?_)
        · refine g_iload_n B dX6_added3_59 rfl ?_
          refine g_iload_n B dX6_added3_60 rfl ?_
          refine g_isub B dX6_added3_61 ?_
          refine g_istore_n B dX6_added3_62 (by decide) rfl ?_
          refine g_goto (tgt := 5) B dX6_added3_63 (by decide) ?_
          first
            | exact absurd rfl c50
            | exact absurd c50 (by decide)
            | (have hop : opAdd (tT τ0 t n) b = some (-15) := if_pos (h43.mp (l_cmp_eq0.mp c31))
               rw [hop] at hK1 hK2
               dsimp only at hK1 hK2
               rw [hf] at hK1 hK2
               dsimp only at hK1 hK2
               refine g_drop 2 (g_drop 3 ?_)
               first
               | exact lB_added3 B hB8 (hK1 f rfl _ _ hB8)
               | (obtain ⟨hw2, hlt2⟩ := pTerm_ok (tT_TV hR) (pLev_ok (tT_TV hR) _) _ _ _ hf
                  rw [evc_add hw hw2]
                  obtain ⟨k', rfl⟩ : ∃ k', k = k' + 1 := ⟨k - 1, by omega⟩
                  exact ih k' (by omega) (cs ++ cs2 ++ [-15]) a2 τ8 (by omega) (hw.bin hw2 (by decide)) hM8 hK1 hK2))
            | (have h31 : ¬ tT τ0 t n b = 43 := fun h => c31 (l_cmp_eq0.mpr (h43.mpr h))
               have hop : opAdd (tT τ0 t n) b = some (-16) := (if_neg h31).trans (if_pos (hT.resolve_left h31))
               rw [hop] at hK1 hK2
               dsimp only at hK1 hK2
               rw [hf] at hK1 hK2
               dsimp only at hK1 hK2
               refine g_drop 2 (g_drop 3 ?_)
               first
               | exact lB_added3 B hB8 (hK1 f rfl _ _ hB8)
               | (obtain ⟨hw2, hlt2⟩ := pTerm_ok (tT_TV hR) (pLev_ok (tT_TV hR) _) _ _ _ hf
                  rw [evc_sub hw hw2]
                  obtain ⟨k', rfl⟩ : ∃ k', k = k' + 1 := ⟨k - 1, by omega⟩
                  exact ih k' (by omega) (cs ++ cs2 ++ [-16]) a2 τ8 (by omega) (hw.bin hw2 (by decide)) hM8 hK1 hK2))
        · refine g_iload_n B dX6_added3_53 rfl ?_
          refine g_iload_n B dX6_added3_54 rfl ?_
          refine g_iadd B dX6_added3_55 ?_
          refine g_goto (tgt := 62) B dX6_added3_56 (by decide) ?_
          refine g_istore_n B dX6_added3_62 (by decide) rfl ?_
          refine g_goto (tgt := 5) B dX6_added3_63 (by decide) ?_
          first
            | exact absurd rfl c50
            | exact absurd c50 (by decide)
            | (have hop : opAdd (tT τ0 t n) b = some (-15) := if_pos (h43.mp (l_cmp_eq0.mp c31))
               rw [hop] at hK1 hK2
               dsimp only at hK1 hK2
               rw [hf] at hK1 hK2
               dsimp only at hK1 hK2
               refine g_drop 2 (g_drop 3 ?_)
               first
               | exact lB_added3 B hB8 (hK1 f rfl _ _ hB8)
               | (obtain ⟨hw2, hlt2⟩ := pTerm_ok (tT_TV hR) (pLev_ok (tT_TV hR) _) _ _ _ hf
                  rw [evc_add hw hw2]
                  obtain ⟨k', rfl⟩ : ∃ k', k = k' + 1 := ⟨k - 1, by omega⟩
                  exact ih k' (by omega) (cs ++ cs2 ++ [-15]) a2 τ8 (by omega) (hw.bin hw2 (by decide)) hM8 hK1 hK2))
            | (have h31 : ¬ tT τ0 t n b = 43 := fun h => c31 (l_cmp_eq0.mpr (h43.mpr h))
               have hop : opAdd (tT τ0 t n) b = some (-16) := (if_neg h31).trans (if_pos (hT.resolve_left h31))
               rw [hop] at hK1 hK2
               dsimp only at hK1 hK2
               rw [hf] at hK1 hK2
               dsimp only at hK1 hK2
               refine g_drop 2 (g_drop 3 ?_)
               first
               | exact lB_added3 B hB8 (hK1 f rfl _ _ hB8)
               | (obtain ⟨hw2, hlt2⟩ := pTerm_ok (tT_TV hR) (pLev_ok (tT_TV hR) _) _ _ _ hf
                  rw [evc_sub hw hw2]
                  obtain ⟨k', rfl⟩ : ∃ k', k = k' + 1 := ⟨k - 1, by omega⟩
                  exact ih k' (by omega) (cs ++ cs2 ++ [-16]) a2 τ8 (by omega) (hw.bin hw2 (by decide)) hM8 hK1 hK2))
  · refine g_aload_n B dX6_added3_14 rfl ?_
    refine g_bipush (v := (45)) B dX6_added3_15 (by decide) ?_
    refine g_callVi (C := RX6) (As := [.int _]) B dX6_added3_17 (gc1 g_X6_202) (by rfl) ⟨rfl, hd_X6_isSign⟩ (by exact ⟨Nat.le_of_ble_eq_true rfl, Nat.le_of_ble_eq_true rfl⟩) ⟨rfl, rfl⟩ rfl rfl (by exact Nat.le_of_ble_eq_true rfl) recvM (c_sgn hM (show isS 45 by decide) ?_)
    refine g_if_eq (tgt := 66) B dX6_added3_20 (by decide) (fun c20 => ?_) (fun c20 => ?_)
    · refine g_iload_n B dX6_added3_66 rfl ?_
      refine g_ireti B dX6_added3_67 ?_
      have hop : opAdd (tT τ0 t n) b = none := (if_neg (b1_0.mp c11)).trans (if_neg (b1_0.mp c20))
      rw [hop] at hK2
      exact hK2 _ _ rfl τ hM
    · have hT : tT τ0 t n b = 43 ∨ tT τ0 t n b = 45 := by first | exact Or.inl (b1_n0.mp c11) | exact Or.inr (b1_n0.mp c20)
      have hT0 : isS (tT τ0 t n b) := by rcases hT with h | h <;> rw [h] <;> decide
      have hb := tT_lt hR (isS_0 hT0).1
      have hwv := hM.w hT0
      have h43 : τ.2.1 = 43 ↔ tT τ0 t n b = 43 := by
        rw [hwv]
        constructor
        · intro h
          have := congrArg Int64.toInt h
          rw [i_long] at this
          exact i_eq.mpr this
        · intro h
          rw [h]; rfl
      refine g_aload_n B dX6_added3_23 rfl ?_
      refine g_getL (T := TX6) (N := 42) B dX6_added3_24 (by decide) (by rfl) (inq inlX6) rfl 23 (by decide) (mq f_X6_155) (by rfl) ?_
      refine g_ldc2 (v := (43)) B dX6_added3_27 (mq k_X6_219) ?_
      refine g_lcmp B dX6_added3_30 ?_
      refine g_if_ne (tgt := 38) B dX6_added3_31 (by decide) (fun c31 => ?_) (fun c31 => ?_)
      · refine g_iconst (v := (0)) B dX6_added3_38 (by decide) ?_
        refine g_istore_n B dX6_added3_39 (by decide) rfl ?_
        refine g_aload_n B dX6_added3_40 rfl ?_
        refine g_callVv (C := RX6) (As := []) B dX6_added3_41 (gc1 g_X6_177) (by rfl) ⟨rfl, hd_X6_next⟩ (by exact ⟨Nat.le_of_ble_eq_true rfl, Nat.le_of_ble_eq_true rfl⟩) ⟨rfl, rfl⟩ rfl rfl (by exact Nat.le_of_ble_eq_true rfl) recvM (c_nx hR hM (isS_0 hT0) (fun τ2 hM2 => ?_))
        refine g_aload_n B dX6_added3_44 rfl ?_
        refine g_callVi (C := RX6) (As := []) B dX6_added3_45 (gc1 g_X6_256) (by rfl) ⟨rfl, hd_X6_term3⟩ (by exact ⟨Nat.le_of_ble_eq_true rfl, Nat.le_of_ble_eq_true rfl⟩) ⟨rfl, rfl⟩ rfl rfl (by exact Nat.le_of_ble_eq_true rfl) recvM (c_term3 hR hM2 (fun f hf v8 τ8 hB8 => ?_) (fun cs2 a2 hf τ8 hM8 => ?_))
        · skip
          refine g_istore_n B dX6_added3_48 (by decide) rfl ?_
          refine g_iload_n B dX6_added3_49 rfl ?_
          refine g_if_eq (tgt := 59) B dX6_added3_50 (by decide) (fun c50 => ?_) (fun c50 => ?_)
          · refine g_iload_n B dX6_added3_59 rfl ?_
            refine g_iload_n B dX6_added3_60 rfl ?_
            refine g_isub B dX6_added3_61 ?_
            refine g_istore_n B dX6_added3_62 (by decide) rfl ?_
            refine g_goto (tgt := 5) B dX6_added3_63 (by decide) ?_
            first
              | exact absurd rfl c50
              | exact absurd c50 (by decide)
              | (have hop : opAdd (tT τ0 t n) b = some (-15) := if_pos (h43.mp (l_cmp_eq0.mp c31))
                 rw [hop] at hK1 hK2
                 dsimp only at hK1 hK2
                 rw [hf] at hK1 hK2
                 dsimp only at hK1 hK2
                 refine g_drop 2 (g_drop 3 ?_)
                 first
                 | exact lB_added3 B hB8 (hK1 f rfl _ _ hB8)
                 | (obtain ⟨hw2, hlt2⟩ := pTerm_ok (tT_TV hR) (pLev_ok (tT_TV hR) _) _ _ _ hf
                    rw [evc_add hw hw2]
                    obtain ⟨k', rfl⟩ : ∃ k', k = k' + 1 := ⟨k - 1, by omega⟩
                    exact ih k' (by omega) (cs ++ cs2 ++ [-15]) a2 τ8 (by omega) (hw.bin hw2 (by decide)) hM8 hK1 hK2))
              | (have h31 : ¬ tT τ0 t n b = 43 := fun h => c31 (l_cmp_eq0.mpr (h43.mpr h))
                 have hop : opAdd (tT τ0 t n) b = some (-16) := (if_neg h31).trans (if_pos (hT.resolve_left h31))
                 rw [hop] at hK1 hK2
                 dsimp only at hK1 hK2
                 rw [hf] at hK1 hK2
                 dsimp only at hK1 hK2
                 refine g_drop 2 (g_drop 3 ?_)
                 first
                 | exact lB_added3 B hB8 (hK1 f rfl _ _ hB8)
                 | (obtain ⟨hw2, hlt2⟩ := pTerm_ok (tT_TV hR) (pLev_ok (tT_TV hR) _) _ _ _ hf
                    rw [evc_sub hw hw2]
                    obtain ⟨k', rfl⟩ : ∃ k', k = k' + 1 := ⟨k - 1, by omega⟩
                    exact ih k' (by omega) (cs ++ cs2 ++ [-16]) a2 τ8 (by omega) (hw.bin hw2 (by decide)) hM8 hK1 hK2))
          · refine g_iload_n B dX6_added3_53 rfl ?_
            refine g_iload_n B dX6_added3_54 rfl ?_
            refine g_iadd B dX6_added3_55 ?_
            refine g_goto (tgt := 62) B dX6_added3_56 (by decide) ?_
            refine g_istore_n B dX6_added3_62 (by decide) rfl ?_
            refine g_goto (tgt := 5) B dX6_added3_63 (by decide) ?_
            first
              | exact absurd rfl c50
              | exact absurd c50 (by decide)
              | (have hop : opAdd (tT τ0 t n) b = some (-15) := if_pos (h43.mp (l_cmp_eq0.mp c31))
                 rw [hop] at hK1 hK2
                 dsimp only at hK1 hK2
                 rw [hf] at hK1 hK2
                 dsimp only at hK1 hK2
                 refine g_drop 2 (g_drop 3 ?_)
                 first
                 | exact lB_added3 B hB8 (hK1 f rfl _ _ hB8)
                 | (obtain ⟨hw2, hlt2⟩ := pTerm_ok (tT_TV hR) (pLev_ok (tT_TV hR) _) _ _ _ hf
                    rw [evc_add hw hw2]
                    obtain ⟨k', rfl⟩ : ∃ k', k = k' + 1 := ⟨k - 1, by omega⟩
                    exact ih k' (by omega) (cs ++ cs2 ++ [-15]) a2 τ8 (by omega) (hw.bin hw2 (by decide)) hM8 hK1 hK2))
              | (have h31 : ¬ tT τ0 t n b = 43 := fun h => c31 (l_cmp_eq0.mpr (h43.mpr h))
                 have hop : opAdd (tT τ0 t n) b = some (-16) := (if_neg h31).trans (if_pos (hT.resolve_left h31))
                 rw [hop] at hK1 hK2
                 dsimp only at hK1 hK2
                 rw [hf] at hK1 hK2
                 dsimp only at hK1 hK2
                 refine g_drop 2 (g_drop 3 ?_)
                 first
                 | exact lB_added3 B hB8 (hK1 f rfl _ _ hB8)
                 | (obtain ⟨hw2, hlt2⟩ := pTerm_ok (tT_TV hR) (pLev_ok (tT_TV hR) _) _ _ _ hf
                    rw [evc_sub hw hw2]
                    obtain ⟨k', rfl⟩ : ∃ k', k = k' + 1 := ⟨k - 1, by omega⟩
                    exact ih k' (by omega) (cs ++ cs2 ++ [-16]) a2 τ8 (by omega) (hw.bin hw2 (by decide)) hM8 hK1 hK2))
        · skip
          refine g_istore_n B dX6_added3_48 (by decide) rfl ?_
          refine g_iload_n B dX6_added3_49 rfl ?_
          refine g_if_eq (tgt := 59) B dX6_added3_50 (by decide) (fun c50 => ?_) (fun c50 => ?_)
          · refine g_iload_n B dX6_added3_59 rfl ?_
            refine g_iload_n B dX6_added3_60 rfl ?_
            refine g_isub B dX6_added3_61 ?_
            refine g_istore_n B dX6_added3_62 (by decide) rfl ?_
            refine g_goto (tgt := 5) B dX6_added3_63 (by decide) ?_
            first
              | exact absurd rfl c50
              | exact absurd c50 (by decide)
              | (have hop : opAdd (tT τ0 t n) b = some (-15) := if_pos (h43.mp (l_cmp_eq0.mp c31))
                 rw [hop] at hK1 hK2
                 dsimp only at hK1 hK2
                 rw [hf] at hK1 hK2
                 dsimp only at hK1 hK2
                 refine g_drop 2 (g_drop 3 ?_)
                 first
                 | exact lB_added3 B hB8 (hK1 f rfl _ _ hB8)
                 | (obtain ⟨hw2, hlt2⟩ := pTerm_ok (tT_TV hR) (pLev_ok (tT_TV hR) _) _ _ _ hf
                    rw [evc_add hw hw2]
                    obtain ⟨k', rfl⟩ : ∃ k', k = k' + 1 := ⟨k - 1, by omega⟩
                    exact ih k' (by omega) (cs ++ cs2 ++ [-15]) a2 τ8 (by omega) (hw.bin hw2 (by decide)) hM8 hK1 hK2))
              | (have h31 : ¬ tT τ0 t n b = 43 := fun h => c31 (l_cmp_eq0.mpr (h43.mpr h))
                 have hop : opAdd (tT τ0 t n) b = some (-16) := (if_neg h31).trans (if_pos (hT.resolve_left h31))
                 rw [hop] at hK1 hK2
                 dsimp only at hK1 hK2
                 rw [hf] at hK1 hK2
                 dsimp only at hK1 hK2
                 refine g_drop 2 (g_drop 3 ?_)
                 first
                 | exact lB_added3 B hB8 (hK1 f rfl _ _ hB8)
                 | (obtain ⟨hw2, hlt2⟩ := pTerm_ok (tT_TV hR) (pLev_ok (tT_TV hR) _) _ _ _ hf
                    rw [evc_sub hw hw2]
                    obtain ⟨k', rfl⟩ : ∃ k', k = k' + 1 := ⟨k - 1, by omega⟩
                    exact ih k' (by omega) (cs ++ cs2 ++ [-16]) a2 τ8 (by omega) (hw.bin hw2 (by decide)) hM8 hK1 hK2))
          · refine g_iload_n B dX6_added3_53 rfl ?_
            refine g_iload_n B dX6_added3_54 rfl ?_
            refine g_iadd B dX6_added3_55 ?_
            refine g_goto (tgt := 62) B dX6_added3_56 (by decide) ?_
            refine g_istore_n B dX6_added3_62 (by decide) rfl ?_
            refine g_goto (tgt := 5) B dX6_added3_63 (by decide) ?_
            first
              | exact absurd rfl c50
              | exact absurd c50 (by decide)
              | (have hop : opAdd (tT τ0 t n) b = some (-15) := if_pos (h43.mp (l_cmp_eq0.mp c31))
                 rw [hop] at hK1 hK2
                 dsimp only at hK1 hK2
                 rw [hf] at hK1 hK2
                 dsimp only at hK1 hK2
                 refine g_drop 2 (g_drop 3 ?_)
                 first
                 | exact lB_added3 B hB8 (hK1 f rfl _ _ hB8)
                 | (obtain ⟨hw2, hlt2⟩ := pTerm_ok (tT_TV hR) (pLev_ok (tT_TV hR) _) _ _ _ hf
                    rw [evc_add hw hw2]
                    obtain ⟨k', rfl⟩ : ∃ k', k = k' + 1 := ⟨k - 1, by omega⟩
                    exact ih k' (by omega) (cs ++ cs2 ++ [-15]) a2 τ8 (by omega) (hw.bin hw2 (by decide)) hM8 hK1 hK2))
              | (have h31 : ¬ tT τ0 t n b = 43 := fun h => c31 (l_cmp_eq0.mpr (h43.mpr h))
                 have hop : opAdd (tT τ0 t n) b = some (-16) := (if_neg h31).trans (if_pos (hT.resolve_left h31))
                 rw [hop] at hK1 hK2
                 dsimp only at hK1 hK2
                 rw [hf] at hK1 hK2
                 dsimp only at hK1 hK2
                 refine g_drop 2 (g_drop 3 ?_)
                 first
                 | exact lB_added3 B hB8 (hK1 f rfl _ _ hB8)
                 | (obtain ⟨hw2, hlt2⟩ := pTerm_ok (tT_TV hR) (pLev_ok (tT_TV hR) _) _ _ _ hf
                    rw [evc_sub hw hw2]
                    obtain ⟨k', rfl⟩ : ∃ k', k = k' + 1 := ⟨k - 1, by omega⟩
                    exact ih k' (by omega) (cs ++ cs2 ++ [-16]) a2 τ8 (by omega) (hw.bin hw2 (by decide)) hM8 hK1 hK2))
      · refine g_iconst (v := (1)) B dX6_added3_34 (by decide) ?_
        refine g_goto (tgt := 39) B dX6_added3_35 (by decide) ?_
        refine g_istore_n B dX6_added3_39 (by decide) rfl ?_
        refine g_aload_n B dX6_added3_40 rfl ?_
        refine g_callVv (C := RX6) (As := []) B dX6_added3_41 (gc1 g_X6_177) (by rfl) ⟨rfl, hd_X6_next⟩ (by exact ⟨Nat.le_of_ble_eq_true rfl, Nat.le_of_ble_eq_true rfl⟩) ⟨rfl, rfl⟩ rfl rfl (by exact Nat.le_of_ble_eq_true rfl) recvM (c_nx hR hM (isS_0 hT0) (fun τ2 hM2 => ?_))
        refine g_aload_n B dX6_added3_44 rfl ?_
        refine g_callVi (C := RX6) (As := []) B dX6_added3_45 (gc1 g_X6_256) (by rfl) ⟨rfl, hd_X6_term3⟩ (by exact ⟨Nat.le_of_ble_eq_true rfl, Nat.le_of_ble_eq_true rfl⟩) ⟨rfl, rfl⟩ rfl rfl (by exact Nat.le_of_ble_eq_true rfl) recvM (c_term3 hR hM2 (fun f hf v8 τ8 hB8 => ?_) (fun cs2 a2 hf τ8 hM8 => ?_))
        · skip
          refine g_istore_n B dX6_added3_48 (by decide) rfl ?_
          refine g_iload_n B dX6_added3_49 rfl ?_
          refine g_if_eq (tgt := 59) B dX6_added3_50 (by decide) (fun c50 => ?_) (fun c50 => ?_)
          · refine g_iload_n B dX6_added3_59 rfl ?_
            refine g_iload_n B dX6_added3_60 rfl ?_
            refine g_isub B dX6_added3_61 ?_
            refine g_istore_n B dX6_added3_62 (by decide) rfl ?_
            refine g_goto (tgt := 5) B dX6_added3_63 (by decide) ?_
            first
              | exact absurd rfl c50
              | exact absurd c50 (by decide)
              | (have hop : opAdd (tT τ0 t n) b = some (-15) := if_pos (h43.mp (l_cmp_eq0.mp c31))
                 rw [hop] at hK1 hK2
                 dsimp only at hK1 hK2
                 rw [hf] at hK1 hK2
                 dsimp only at hK1 hK2
                 refine g_drop 2 (g_drop 3 ?_)
                 first
                 | exact lB_added3 B hB8 (hK1 f rfl _ _ hB8)
                 | (obtain ⟨hw2, hlt2⟩ := pTerm_ok (tT_TV hR) (pLev_ok (tT_TV hR) _) _ _ _ hf
                    rw [evc_add hw hw2]
                    obtain ⟨k', rfl⟩ : ∃ k', k = k' + 1 := ⟨k - 1, by omega⟩
                    exact ih k' (by omega) (cs ++ cs2 ++ [-15]) a2 τ8 (by omega) (hw.bin hw2 (by decide)) hM8 hK1 hK2))
              | (have h31 : ¬ tT τ0 t n b = 43 := fun h => c31 (l_cmp_eq0.mpr (h43.mpr h))
                 have hop : opAdd (tT τ0 t n) b = some (-16) := (if_neg h31).trans (if_pos (hT.resolve_left h31))
                 rw [hop] at hK1 hK2
                 dsimp only at hK1 hK2
                 rw [hf] at hK1 hK2
                 dsimp only at hK1 hK2
                 refine g_drop 2 (g_drop 3 ?_)
                 first
                 | exact lB_added3 B hB8 (hK1 f rfl _ _ hB8)
                 | (obtain ⟨hw2, hlt2⟩ := pTerm_ok (tT_TV hR) (pLev_ok (tT_TV hR) _) _ _ _ hf
                    rw [evc_sub hw hw2]
                    obtain ⟨k', rfl⟩ : ∃ k', k = k' + 1 := ⟨k - 1, by omega⟩
                    exact ih k' (by omega) (cs ++ cs2 ++ [-16]) a2 τ8 (by omega) (hw.bin hw2 (by decide)) hM8 hK1 hK2))
          · refine g_iload_n B dX6_added3_53 rfl ?_
            refine g_iload_n B dX6_added3_54 rfl ?_
            refine g_iadd B dX6_added3_55 ?_
            refine g_goto (tgt := 62) B dX6_added3_56 (by decide) ?_
            refine g_istore_n B dX6_added3_62 (by decide) rfl ?_
            refine g_goto (tgt := 5) B dX6_added3_63 (by decide) ?_
            first
              | exact absurd rfl c50
              | exact absurd c50 (by decide)
              | (have hop : opAdd (tT τ0 t n) b = some (-15) := if_pos (h43.mp (l_cmp_eq0.mp c31))
                 rw [hop] at hK1 hK2
                 dsimp only at hK1 hK2
                 rw [hf] at hK1 hK2
                 dsimp only at hK1 hK2
                 refine g_drop 2 (g_drop 3 ?_)
                 first
                 | exact lB_added3 B hB8 (hK1 f rfl _ _ hB8)
                 | (obtain ⟨hw2, hlt2⟩ := pTerm_ok (tT_TV hR) (pLev_ok (tT_TV hR) _) _ _ _ hf
                    rw [evc_add hw hw2]
                    obtain ⟨k', rfl⟩ : ∃ k', k = k' + 1 := ⟨k - 1, by omega⟩
                    exact ih k' (by omega) (cs ++ cs2 ++ [-15]) a2 τ8 (by omega) (hw.bin hw2 (by decide)) hM8 hK1 hK2))
              | (have h31 : ¬ tT τ0 t n b = 43 := fun h => c31 (l_cmp_eq0.mpr (h43.mpr h))
                 have hop : opAdd (tT τ0 t n) b = some (-16) := (if_neg h31).trans (if_pos (hT.resolve_left h31))
                 rw [hop] at hK1 hK2
                 dsimp only at hK1 hK2
                 rw [hf] at hK1 hK2
                 dsimp only at hK1 hK2
                 refine g_drop 2 (g_drop 3 ?_)
                 first
                 | exact lB_added3 B hB8 (hK1 f rfl _ _ hB8)
                 | (obtain ⟨hw2, hlt2⟩ := pTerm_ok (tT_TV hR) (pLev_ok (tT_TV hR) _) _ _ _ hf
                    rw [evc_sub hw hw2]
                    obtain ⟨k', rfl⟩ : ∃ k', k = k' + 1 := ⟨k - 1, by omega⟩
                    exact ih k' (by omega) (cs ++ cs2 ++ [-16]) a2 τ8 (by omega) (hw.bin hw2 (by decide)) hM8 hK1 hK2))
        · skip
          refine g_istore_n B dX6_added3_48 (by decide) rfl ?_
          refine g_iload_n B dX6_added3_49 rfl ?_
          refine g_if_eq (tgt := 59) B dX6_added3_50 (by decide) (fun c50 => ?_) (fun c50 => ?_)
          · refine g_iload_n B dX6_added3_59 rfl ?_
            refine g_iload_n B dX6_added3_60 rfl ?_
            refine g_isub B dX6_added3_61 ?_
            refine g_istore_n B dX6_added3_62 (by decide) rfl ?_
            refine g_goto (tgt := 5) B dX6_added3_63 (by decide) ?_
            first
              | exact absurd rfl c50
              | exact absurd c50 (by decide)
              | (have hop : opAdd (tT τ0 t n) b = some (-15) := if_pos (h43.mp (l_cmp_eq0.mp c31))
                 rw [hop] at hK1 hK2
                 dsimp only at hK1 hK2
                 rw [hf] at hK1 hK2
                 dsimp only at hK1 hK2
                 refine g_drop 2 (g_drop 3 ?_)
                 first
                 | exact lB_added3 B hB8 (hK1 f rfl _ _ hB8)
                 | (obtain ⟨hw2, hlt2⟩ := pTerm_ok (tT_TV hR) (pLev_ok (tT_TV hR) _) _ _ _ hf
                    rw [evc_add hw hw2]
                    obtain ⟨k', rfl⟩ : ∃ k', k = k' + 1 := ⟨k - 1, by omega⟩
                    exact ih k' (by omega) (cs ++ cs2 ++ [-15]) a2 τ8 (by omega) (hw.bin hw2 (by decide)) hM8 hK1 hK2))
              | (have h31 : ¬ tT τ0 t n b = 43 := fun h => c31 (l_cmp_eq0.mpr (h43.mpr h))
                 have hop : opAdd (tT τ0 t n) b = some (-16) := (if_neg h31).trans (if_pos (hT.resolve_left h31))
                 rw [hop] at hK1 hK2
                 dsimp only at hK1 hK2
                 rw [hf] at hK1 hK2
                 dsimp only at hK1 hK2
                 refine g_drop 2 (g_drop 3 ?_)
                 first
                 | exact lB_added3 B hB8 (hK1 f rfl _ _ hB8)
                 | (obtain ⟨hw2, hlt2⟩ := pTerm_ok (tT_TV hR) (pLev_ok (tT_TV hR) _) _ _ _ hf
                    rw [evc_sub hw hw2]
                    obtain ⟨k', rfl⟩ : ∃ k', k = k' + 1 := ⟨k - 1, by omega⟩
                    exact ih k' (by omega) (cs ++ cs2 ++ [-16]) a2 τ8 (by omega) (hw.bin hw2 (by decide)) hM8 hK1 hK2))
          · refine g_iload_n B dX6_added3_53 rfl ?_
            refine g_iload_n B dX6_added3_54 rfl ?_
            refine g_iadd B dX6_added3_55 ?_
            refine g_goto (tgt := 62) B dX6_added3_56 (by decide) ?_
            refine g_istore_n B dX6_added3_62 (by decide) rfl ?_
            refine g_goto (tgt := 5) B dX6_added3_63 (by decide) ?_
            first
              | exact absurd rfl c50
              | exact absurd c50 (by decide)
              | (have hop : opAdd (tT τ0 t n) b = some (-15) := if_pos (h43.mp (l_cmp_eq0.mp c31))
                 rw [hop] at hK1 hK2
                 dsimp only at hK1 hK2
                 rw [hf] at hK1 hK2
                 dsimp only at hK1 hK2
                 refine g_drop 2 (g_drop 3 ?_)
                 first
                 | exact lB_added3 B hB8 (hK1 f rfl _ _ hB8)
                 | (obtain ⟨hw2, hlt2⟩ := pTerm_ok (tT_TV hR) (pLev_ok (tT_TV hR) _) _ _ _ hf
                    rw [evc_add hw hw2]
                    obtain ⟨k', rfl⟩ : ∃ k', k = k' + 1 := ⟨k - 1, by omega⟩
                    exact ih k' (by omega) (cs ++ cs2 ++ [-15]) a2 τ8 (by omega) (hw.bin hw2 (by decide)) hM8 hK1 hK2))
              | (have h31 : ¬ tT τ0 t n b = 43 := fun h => c31 (l_cmp_eq0.mpr (h43.mpr h))
                 have hop : opAdd (tT τ0 t n) b = some (-16) := (if_neg h31).trans (if_pos (hT.resolve_left h31))
                 rw [hop] at hK1 hK2
                 dsimp only at hK1 hK2
                 rw [hf] at hK1 hK2
                 dsimp only at hK1 hK2
                 refine g_drop 2 (g_drop 3 ?_)
                 first
                 | exact lB_added3 B hB8 (hK1 f rfl _ _ hB8)
                 | (obtain ⟨hw2, hlt2⟩ := pTerm_ok (tT_TV hR) (pLev_ok (tT_TV hR) _) _ _ _ hf
                    rw [evc_sub hw hw2]
                    obtain ⟨k', rfl⟩ : ∃ k', k = k' + 1 := ⟨k - 1, by omega⟩
                    exact ih k' (by omega) (cs ++ cs2 ++ [-16]) a2 τ8 (by omega) (hw.bin hw2 (by decide)) hM8 hK1 hK2))
set_option maxRecDepth 100000 in
set_option maxHeartbeats 4000000 in
theorem c_added3 {Z : LZ} {ad : Nat → Nat} {τ0 τ : St} {K : Int32 → St → Prop} {t n a : Nat} (hR : RB τ0 t n) (hM : MS τ0 t n 3 a τ) (hK1 : ∀ f, pSum (tT τ0 t n) (tV τ0 t n) (pLev (tT τ0 t n) (tV τ0 t n) 2) a = .inl f → ∀ v τ', MB τ0 t n f τ' → K v τ') (hK2 : ∀ cs a2, pSum (tT τ0 t n) (tV τ0 t n) (pLev (tT τ0 t n) (tV τ0 t n) 2) a = .inr (cs, a2) → ∀ τ', MS τ0 t n 3 a2 τ' → K (evc (eM τ0) cs) τ') : CC lyM Z ad yX6_added3 wsX6_added3 (rmk 18) [.ref (ad 0)] τ (rI K) := by
  refine CC.of (cc := cX6_added3) (nL := 4) (ret := (some .int)) rfl rfl ⟨rfl, rfl⟩ (by exact Nat.le_of_ble_eq_true rfl) ?_
  intro X B
  change GG _ _ _ _ X _ 0 [some (.ref (ad 0)), none, none, none] [] _
  change Amb _ _ _ _ X _ _ RX6 _ _ at B
  unfold pSum pSeq at hK1 hK2
  refine g_aload_n B dX6_added3_0 rfl ?_
  refine g_callVi (C := RX6) (As := []) B dX6_added3_1 (gc1 g_X6_256) (by rfl) ⟨rfl, hd_X6_term3⟩ (by exact ⟨Nat.le_of_ble_eq_true rfl, Nat.le_of_ble_eq_true rfl⟩) ⟨rfl, rfl⟩ rfl rfl (by exact Nat.le_of_ble_eq_true rfl) recvM (c_term3 hR hM (fun f hf v8 τ8 hB8 => ?_) (fun cs a1 hf τ8 hM8 => ?_))
  · rw [hf] at hK1; dsimp only at hK1
    refine g_istore_n B dX6_added3_4 (by decide) rfl ?_
    first
      | exact lB_added3 B hB8 (hK1 f rfl _ _ hB8)
      | exact l_added3 B hR 199 cs a1 τ8 (by omega) (pTerm_ok (tT_TV hR) (pLev_ok (tT_TV hR) _) _ _ _ hf).1 hM8 hK1 hK2
  · rw [hf] at hK1 hK2; dsimp only at hK1 hK2
    refine g_istore_n B dX6_added3_4 (by decide) rfl ?_
    first
      | exact lB_added3 B hB8 (hK1 f rfl _ _ hB8)
      | exact l_added3 B hR 199 cs a1 τ8 (by omega) (pTerm_ok (tT_TV hR) (pLev_ok (tT_TV hR) _) _ _ _ hf).1 hM8 hK1 hK2
set_option maxRecDepth 100000 in
set_option maxHeartbeats 4000000 in
theorem n2_not3 {Z : LZ} {ad : Nat → Nat} {X : CX} {K : Int32 → St → Prop} {τ0 τ : St} {t n a1 : Nat} {cs : List Int32} (B : Amb lyM Z ad (rmk 19) X cX6_not3 wsX6_not3 RX6 4 (some .int)) (hR : RB τ0 t n) (hw : WF cs) (hM : MS τ0 t n 3 a1 τ) (hT : tT τ0 t n a1 = 60 ∨ tT τ0 t n a1 = 61)
    (hK1 : ∀ f, (match pSum (tT τ0 t n) (tV τ0 t n) (pLev (tT τ0 t n) (tV τ0 t n) 2) (a1 + 1) with | .inl f => (.inl f : PR) | .inr (cs2, a2) => .inr (cs ++ cs2 ++ [if tT τ0 t n a1 = 60 then -13 else -14], a2)) = .inl f → ∀ v τ', MB τ0 t n f τ' → K v τ') (hK2 : ∀ ds a2, (match pSum (tT τ0 t n) (tV τ0 t n) (pLev (tT τ0 t n) (tV τ0 t n) 2) (a1 + 1) with | .inl f => (.inl f : PR) | .inr (cs2, a2) => .inr (cs ++ cs2 ++ [if tT τ0 t n a1 = 60 then -13 else -14], a2)) = .inr (ds, a2) → ∀ τ', MS τ0 t n 3 a2 τ' → K (evc (eM τ0) ds) τ') : GG lyM Z ad (rmk 19) X (rI K) 77 [some (.ref (ad 0)), some (.int (evc (eM τ0) cs)), none, none] [] τ := by
  have hT0 : isS (tT τ0 t n a1) := by rcases hT with h | h <;> rw [h] <;> decide
  have hwv := hM.w hT0
  have h60 : τ.2.1 = 60 ↔ tT τ0 t n a1 = 60 := by
    rw [hwv]
    constructor
    · intro h
      have := congrArg Int64.toInt h
      rw [i_long] at this
      exact i_eq.mpr this
    · intro h
      rw [h]; rfl
  refine g_aload_n B dX6_not3_77 rfl ?_
  refine g_getL (T := TX6) (N := 42) B dX6_not3_78 (by decide) (by rfl) (inq inlX6) rfl 23 (by decide) (mq f_X6_155) (by rfl) ?_
  refine g_ldc2 (v := (60)) B dX6_not3_81 (mq k_X6_224) ?_
  refine g_lcmp B dX6_not3_84 ?_
  refine g_if_ne (tgt := 92) B dX6_not3_85 (by decide) (fun c85 => ?_) (fun c85 => ?_)
  · refine g_iconst (v := (0)) B dX6_not3_92 (by decide) ?_
    refine g_istore_n B dX6_not3_93 (by decide) rfl ?_
    refine g_aload_n B dX6_not3_94 rfl ?_
    refine g_callVv (C := RX6) (As := []) B dX6_not3_95 (gc1 g_X6_177) (by rfl) ⟨rfl, hd_X6_next⟩ (by exact ⟨Nat.le_of_ble_eq_true rfl, Nat.le_of_ble_eq_true rfl⟩) ⟨rfl, rfl⟩ rfl rfl (by exact Nat.le_of_ble_eq_true rfl) recvM (c_nx hR hM (isS_0 hT0) (fun τ2 hM2 => ?_))
    refine g_aload_n B dX6_not3_98 rfl ?_
    refine g_callVi (C := RX6) (As := []) B dX6_not3_99 (gc1 g_X6_259) (by rfl) ⟨rfl, hd_X6_added3⟩ (by exact ⟨Nat.le_of_ble_eq_true rfl, Nat.le_of_ble_eq_true rfl⟩) ⟨rfl, rfl⟩ rfl rfl (by exact Nat.le_of_ble_eq_true rfl) recvM (c_added3 hR hM2 (fun f hf v9 τ9 hB9 => ?_) (fun cs2 a2 hf τ9 hM9 => ?_))
    · rw [hf] at hK1; dsimp only at hK1
      refine g_istore_n B dX6_not3_102 (by decide) rfl ?_
      refine g_iload_n B dX6_not3_103 rfl ?_
      refine g_if_eq (tgt := 115) B dX6_not3_104 (by decide) (fun c104 => ?_) (fun c104 => ?_)
      · refine g_iload_n B dX6_not3_115 rfl ?_
        refine g_iload_n B dX6_not3_116 rfl ?_
        refine g_icmp_ne (tgt := 124) B dX6_not3_117 (by decide) (fun c117 => ?_) (fun c117 => ?_)
        · refine g_iconst (v := (0)) B dX6_not3_124 (by decide) ?_
          refine g_ireti B dX6_not3_125 ?_
          first
            | exact hK1 f rfl _ _ hB9
            | exact absurd rfl c104
            | exact absurd c104 (by decide)
            | (have h6 := h60.mp (l_cmp_eq0.mp c85)
               refine kk ?_ (hK2 _ _ rfl _ hM9)
               rw [if_pos h6, evc_bin hw hw2 (by decide)]
               unfold jn
               rw [if_neg (by decide), if_neg (by decide), if_pos rfl]
               first
               | rw [if_pos (Int32.not_le.mp c109)]
               | rw [if_neg (Int32.not_lt.mpr c109)])
            | (have h6 : ¬ tT τ0 t n a1 = 60 := fun h => c85 (l_cmp_eq0.mpr (h60.mpr h))
               refine kk ?_ (hK2 _ _ rfl _ hM9)
               rw [if_neg h6, evc_bin hw hw2 (by decide)]
               unfold jn
               rw [if_neg (by decide), if_neg (by decide), if_neg (by decide), if_pos rfl]
               first
               | rw [if_pos c117]
               | rw [if_neg c117]
               | rw [if_pos c117])
        · refine g_iconst (v := (1)) B dX6_not3_120 (by decide) ?_
          refine g_goto (tgt := 125) B dX6_not3_121 (by decide) ?_
          refine g_ireti B dX6_not3_125 ?_
          first
            | exact hK1 f rfl _ _ hB9
            | exact absurd rfl c104
            | exact absurd c104 (by decide)
            | (have h6 := h60.mp (l_cmp_eq0.mp c85)
               refine kk ?_ (hK2 _ _ rfl _ hM9)
               rw [if_pos h6, evc_bin hw hw2 (by decide)]
               unfold jn
               rw [if_neg (by decide), if_neg (by decide), if_pos rfl]
               first
               | rw [if_pos (Int32.not_le.mp c109)]
               | rw [if_neg (Int32.not_lt.mpr c109)])
            | (have h6 : ¬ tT τ0 t n a1 = 60 := fun h => c85 (l_cmp_eq0.mpr (h60.mpr h))
               refine kk ?_ (hK2 _ _ rfl _ hM9)
               rw [if_neg h6, evc_bin hw hw2 (by decide)]
               unfold jn
               rw [if_neg (by decide), if_neg (by decide), if_neg (by decide), if_pos rfl]
               first
               | rw [if_pos c117]
               | rw [if_neg c117]
               | rw [if_pos c117])
      · refine g_iload_n B dX6_not3_107 rfl ?_
        refine g_iload_n B dX6_not3_108 rfl ?_
        refine g_icmp_ge (tgt := 124) B dX6_not3_109 (by decide) (fun c109 => ?_) (fun c109 => ?_)
        · refine g_iconst (v := (0)) B dX6_not3_124 (by decide) ?_
          refine g_ireti B dX6_not3_125 ?_
          first
            | exact hK1 f rfl _ _ hB9
            | exact absurd rfl c104
            | exact absurd c104 (by decide)
            | (have h6 := h60.mp (l_cmp_eq0.mp c85)
               refine kk ?_ (hK2 _ _ rfl _ hM9)
               rw [if_pos h6, evc_bin hw hw2 (by decide)]
               unfold jn
               rw [if_neg (by decide), if_neg (by decide), if_pos rfl]
               first
               | rw [if_pos (Int32.not_le.mp c109)]
               | rw [if_neg (Int32.not_lt.mpr c109)])
            | (have h6 : ¬ tT τ0 t n a1 = 60 := fun h => c85 (l_cmp_eq0.mpr (h60.mpr h))
               refine kk ?_ (hK2 _ _ rfl _ hM9)
               rw [if_neg h6, evc_bin hw hw2 (by decide)]
               unfold jn
               rw [if_neg (by decide), if_neg (by decide), if_neg (by decide), if_pos rfl]
               first
               | rw [if_pos c117]
               | rw [if_neg c117]
               | rw [if_pos c117])
        · refine g_goto (tgt := 120) B dX6_not3_112 (by decide) ?_
          refine g_iconst (v := (1)) B dX6_not3_120 (by decide) ?_
          refine g_goto (tgt := 125) B dX6_not3_121 (by decide) ?_
          refine g_ireti B dX6_not3_125 ?_
          first
            | exact hK1 f rfl _ _ hB9
            | exact absurd rfl c104
            | exact absurd c104 (by decide)
            | (have h6 := h60.mp (l_cmp_eq0.mp c85)
               refine kk ?_ (hK2 _ _ rfl _ hM9)
               rw [if_pos h6, evc_bin hw hw2 (by decide)]
               unfold jn
               rw [if_neg (by decide), if_neg (by decide), if_pos rfl]
               first
               | rw [if_pos (Int32.not_le.mp c109)]
               | rw [if_neg (Int32.not_lt.mpr c109)])
            | (have h6 : ¬ tT τ0 t n a1 = 60 := fun h => c85 (l_cmp_eq0.mpr (h60.mpr h))
               refine kk ?_ (hK2 _ _ rfl _ hM9)
               rw [if_neg h6, evc_bin hw hw2 (by decide)]
               unfold jn
               rw [if_neg (by decide), if_neg (by decide), if_neg (by decide), if_pos rfl]
               first
               | rw [if_pos c117]
               | rw [if_neg c117]
               | rw [if_pos c117])
    · rw [hf] at hK1 hK2; dsimp only at hK1 hK2; have hw2 := (pSum_ok (tT_TV hR) (pLev_ok (tT_TV hR) _) _ _ _ hf).1
      refine g_istore_n B dX6_not3_102 (by decide) rfl ?_
      refine g_iload_n B dX6_not3_103 rfl ?_
      refine g_if_eq (tgt := 115) B dX6_not3_104 (by decide) (fun c104 => ?_) (fun c104 => ?_)
      · refine g_iload_n B dX6_not3_115 rfl ?_
        refine g_iload_n B dX6_not3_116 rfl ?_
        refine g_icmp_ne (tgt := 124) B dX6_not3_117 (by decide) (fun c117 => ?_) (fun c117 => ?_)
        · refine g_iconst (v := (0)) B dX6_not3_124 (by decide) ?_
          refine g_ireti B dX6_not3_125 ?_
          first
            | exact hK1 f rfl _ _ hB9
            | exact absurd rfl c104
            | exact absurd c104 (by decide)
            | (have h6 := h60.mp (l_cmp_eq0.mp c85)
               refine kk ?_ (hK2 _ _ rfl _ hM9)
               rw [if_pos h6, evc_bin hw hw2 (by decide)]
               unfold jn
               rw [if_neg (by decide), if_neg (by decide), if_pos rfl]
               first
               | rw [if_pos (Int32.not_le.mp c109)]
               | rw [if_neg (Int32.not_lt.mpr c109)])
            | (have h6 : ¬ tT τ0 t n a1 = 60 := fun h => c85 (l_cmp_eq0.mpr (h60.mpr h))
               refine kk ?_ (hK2 _ _ rfl _ hM9)
               rw [if_neg h6, evc_bin hw hw2 (by decide)]
               unfold jn
               rw [if_neg (by decide), if_neg (by decide), if_neg (by decide), if_pos rfl]
               first
               | rw [if_pos c117]
               | rw [if_neg c117]
               | rw [if_pos c117])
        · refine g_iconst (v := (1)) B dX6_not3_120 (by decide) ?_
          refine g_goto (tgt := 125) B dX6_not3_121 (by decide) ?_
          refine g_ireti B dX6_not3_125 ?_
          first
            | exact hK1 f rfl _ _ hB9
            | exact absurd rfl c104
            | exact absurd c104 (by decide)
            | (have h6 := h60.mp (l_cmp_eq0.mp c85)
               refine kk ?_ (hK2 _ _ rfl _ hM9)
               rw [if_pos h6, evc_bin hw hw2 (by decide)]
               unfold jn
               rw [if_neg (by decide), if_neg (by decide), if_pos rfl]
               first
               | rw [if_pos (Int32.not_le.mp c109)]
               | rw [if_neg (Int32.not_lt.mpr c109)])
            | (have h6 : ¬ tT τ0 t n a1 = 60 := fun h => c85 (l_cmp_eq0.mpr (h60.mpr h))
               refine kk ?_ (hK2 _ _ rfl _ hM9)
               rw [if_neg h6, evc_bin hw hw2 (by decide)]
               unfold jn
               rw [if_neg (by decide), if_neg (by decide), if_neg (by decide), if_pos rfl]
               first
               | rw [if_pos c117]
               | rw [if_neg c117]
               | rw [if_pos c117])
      · refine g_iload_n B dX6_not3_107 rfl ?_
        refine g_iload_n B dX6_not3_108 rfl ?_
        refine g_icmp_ge (tgt := 124) B dX6_not3_109 (by decide) (fun c109 => ?_) (fun c109 => ?_)
        · refine g_iconst (v := (0)) B dX6_not3_124 (by decide) ?_
          refine g_ireti B dX6_not3_125 ?_
          first
            | exact hK1 f rfl _ _ hB9
            | exact absurd rfl c104
            | exact absurd c104 (by decide)
            | (have h6 := h60.mp (l_cmp_eq0.mp c85)
               refine kk ?_ (hK2 _ _ rfl _ hM9)
               rw [if_pos h6, evc_bin hw hw2 (by decide)]
               unfold jn
               rw [if_neg (by decide), if_neg (by decide), if_pos rfl]
               first
               | rw [if_pos (Int32.not_le.mp c109)]
               | rw [if_neg (Int32.not_lt.mpr c109)])
            | (have h6 : ¬ tT τ0 t n a1 = 60 := fun h => c85 (l_cmp_eq0.mpr (h60.mpr h))
               refine kk ?_ (hK2 _ _ rfl _ hM9)
               rw [if_neg h6, evc_bin hw hw2 (by decide)]
               unfold jn
               rw [if_neg (by decide), if_neg (by decide), if_neg (by decide), if_pos rfl]
               first
               | rw [if_pos c117]
               | rw [if_neg c117]
               | rw [if_pos c117])
        · refine g_goto (tgt := 120) B dX6_not3_112 (by decide) ?_
          refine g_iconst (v := (1)) B dX6_not3_120 (by decide) ?_
          refine g_goto (tgt := 125) B dX6_not3_121 (by decide) ?_
          refine g_ireti B dX6_not3_125 ?_
          first
            | exact hK1 f rfl _ _ hB9
            | exact absurd rfl c104
            | exact absurd c104 (by decide)
            | (have h6 := h60.mp (l_cmp_eq0.mp c85)
               refine kk ?_ (hK2 _ _ rfl _ hM9)
               rw [if_pos h6, evc_bin hw hw2 (by decide)]
               unfold jn
               rw [if_neg (by decide), if_neg (by decide), if_pos rfl]
               first
               | rw [if_pos (Int32.not_le.mp c109)]
               | rw [if_neg (Int32.not_lt.mpr c109)])
            | (have h6 : ¬ tT τ0 t n a1 = 60 := fun h => c85 (l_cmp_eq0.mpr (h60.mpr h))
               refine kk ?_ (hK2 _ _ rfl _ hM9)
               rw [if_neg h6, evc_bin hw hw2 (by decide)]
               unfold jn
               rw [if_neg (by decide), if_neg (by decide), if_neg (by decide), if_pos rfl]
               first
               | rw [if_pos c117]
               | rw [if_neg c117]
               | rw [if_pos c117])
  · refine g_iconst (v := (1)) B dX6_not3_88 (by decide) ?_
    refine g_goto (tgt := 93) B dX6_not3_89 (by decide) ?_
    refine g_istore_n B dX6_not3_93 (by decide) rfl ?_
    refine g_aload_n B dX6_not3_94 rfl ?_
    refine g_callVv (C := RX6) (As := []) B dX6_not3_95 (gc1 g_X6_177) (by rfl) ⟨rfl, hd_X6_next⟩ (by exact ⟨Nat.le_of_ble_eq_true rfl, Nat.le_of_ble_eq_true rfl⟩) ⟨rfl, rfl⟩ rfl rfl (by exact Nat.le_of_ble_eq_true rfl) recvM (c_nx hR hM (isS_0 hT0) (fun τ2 hM2 => ?_))
    refine g_aload_n B dX6_not3_98 rfl ?_
    refine g_callVi (C := RX6) (As := []) B dX6_not3_99 (gc1 g_X6_259) (by rfl) ⟨rfl, hd_X6_added3⟩ (by exact ⟨Nat.le_of_ble_eq_true rfl, Nat.le_of_ble_eq_true rfl⟩) ⟨rfl, rfl⟩ rfl rfl (by exact Nat.le_of_ble_eq_true rfl) recvM (c_added3 hR hM2 (fun f hf v9 τ9 hB9 => ?_) (fun cs2 a2 hf τ9 hM9 => ?_))
    · rw [hf] at hK1; dsimp only at hK1
      refine g_istore_n B dX6_not3_102 (by decide) rfl ?_
      refine g_iload_n B dX6_not3_103 rfl ?_
      refine g_if_eq (tgt := 115) B dX6_not3_104 (by decide) (fun c104 => ?_) (fun c104 => ?_)
      · refine g_iload_n B dX6_not3_115 rfl ?_
        refine g_iload_n B dX6_not3_116 rfl ?_
        refine g_icmp_ne (tgt := 124) B dX6_not3_117 (by decide) (fun c117 => ?_) (fun c117 => ?_)
        · refine g_iconst (v := (0)) B dX6_not3_124 (by decide) ?_
          refine g_ireti B dX6_not3_125 ?_
          first
            | exact hK1 f rfl _ _ hB9
            | exact absurd rfl c104
            | exact absurd c104 (by decide)
            | (have h6 := h60.mp (l_cmp_eq0.mp c85)
               refine kk ?_ (hK2 _ _ rfl _ hM9)
               rw [if_pos h6, evc_bin hw hw2 (by decide)]
               unfold jn
               rw [if_neg (by decide), if_neg (by decide), if_pos rfl]
               first
               | rw [if_pos (Int32.not_le.mp c109)]
               | rw [if_neg (Int32.not_lt.mpr c109)])
            | (have h6 : ¬ tT τ0 t n a1 = 60 := fun h => c85 (l_cmp_eq0.mpr (h60.mpr h))
               refine kk ?_ (hK2 _ _ rfl _ hM9)
               rw [if_neg h6, evc_bin hw hw2 (by decide)]
               unfold jn
               rw [if_neg (by decide), if_neg (by decide), if_neg (by decide), if_pos rfl]
               first
               | rw [if_pos c117]
               | rw [if_neg c117]
               | rw [if_pos c117])
        · refine g_iconst (v := (1)) B dX6_not3_120 (by decide) ?_
          refine g_goto (tgt := 125) B dX6_not3_121 (by decide) ?_
          refine g_ireti B dX6_not3_125 ?_
          first
            | exact hK1 f rfl _ _ hB9
            | exact absurd rfl c104
            | exact absurd c104 (by decide)
            | (have h6 := h60.mp (l_cmp_eq0.mp c85)
               refine kk ?_ (hK2 _ _ rfl _ hM9)
               rw [if_pos h6, evc_bin hw hw2 (by decide)]
               unfold jn
               rw [if_neg (by decide), if_neg (by decide), if_pos rfl]
               first
               | rw [if_pos (Int32.not_le.mp c109)]
               | rw [if_neg (Int32.not_lt.mpr c109)])
            | (have h6 : ¬ tT τ0 t n a1 = 60 := fun h => c85 (l_cmp_eq0.mpr (h60.mpr h))
               refine kk ?_ (hK2 _ _ rfl _ hM9)
               rw [if_neg h6, evc_bin hw hw2 (by decide)]
               unfold jn
               rw [if_neg (by decide), if_neg (by decide), if_neg (by decide), if_pos rfl]
               first
               | rw [if_pos c117]
               | rw [if_neg c117]
               | rw [if_pos c117])
      · refine g_iload_n B dX6_not3_107 rfl ?_
        refine g_iload_n B dX6_not3_108 rfl ?_
        refine g_icmp_ge (tgt := 124) B dX6_not3_109 (by decide) (fun c109 => ?_) (fun c109 => ?_)
        · refine g_iconst (v := (0)) B dX6_not3_124 (by decide) ?_
          refine g_ireti B dX6_not3_125 ?_
          first
            | exact hK1 f rfl _ _ hB9
            | exact absurd rfl c104
            | exact absurd c104 (by decide)
            | (have h6 := h60.mp (l_cmp_eq0.mp c85)
               refine kk ?_ (hK2 _ _ rfl _ hM9)
               rw [if_pos h6, evc_bin hw hw2 (by decide)]
               unfold jn
               rw [if_neg (by decide), if_neg (by decide), if_pos rfl]
               first
               | rw [if_pos (Int32.not_le.mp c109)]
               | rw [if_neg (Int32.not_lt.mpr c109)])
            | (have h6 : ¬ tT τ0 t n a1 = 60 := fun h => c85 (l_cmp_eq0.mpr (h60.mpr h))
               refine kk ?_ (hK2 _ _ rfl _ hM9)
               rw [if_neg h6, evc_bin hw hw2 (by decide)]
               unfold jn
               rw [if_neg (by decide), if_neg (by decide), if_neg (by decide), if_pos rfl]
               first
               | rw [if_pos c117]
               | rw [if_neg c117]
               | rw [if_pos c117])
        · refine g_goto (tgt := 120) B dX6_not3_112 (by decide) ?_
          refine g_iconst (v := (1)) B dX6_not3_120 (by decide) ?_
          refine g_goto (tgt := 125) B dX6_not3_121 (by decide) ?_
          refine g_ireti B dX6_not3_125 ?_
          first
            | exact hK1 f rfl _ _ hB9
            | exact absurd rfl c104
            | exact absurd c104 (by decide)
            | (have h6 := h60.mp (l_cmp_eq0.mp c85)
               refine kk ?_ (hK2 _ _ rfl _ hM9)
               rw [if_pos h6, evc_bin hw hw2 (by decide)]
               unfold jn
               rw [if_neg (by decide), if_neg (by decide), if_pos rfl]
               first
               | rw [if_pos (Int32.not_le.mp c109)]
               | rw [if_neg (Int32.not_lt.mpr c109)])
            | (have h6 : ¬ tT τ0 t n a1 = 60 := fun h => c85 (l_cmp_eq0.mpr (h60.mpr h))
               refine kk ?_ (hK2 _ _ rfl _ hM9)
               rw [if_neg h6, evc_bin hw hw2 (by decide)]
               unfold jn
               rw [if_neg (by decide), if_neg (by decide), if_neg (by decide), if_pos rfl]
               first
               | rw [if_pos c117]
               | rw [if_neg c117]
               | rw [if_pos c117])
    · rw [hf] at hK1 hK2; dsimp only at hK1 hK2; have hw2 := (pSum_ok (tT_TV hR) (pLev_ok (tT_TV hR) _) _ _ _ hf).1
      refine g_istore_n B dX6_not3_102 (by decide) rfl ?_
      refine g_iload_n B dX6_not3_103 rfl ?_
      refine g_if_eq (tgt := 115) B dX6_not3_104 (by decide) (fun c104 => ?_) (fun c104 => ?_)
      · refine g_iload_n B dX6_not3_115 rfl ?_
        refine g_iload_n B dX6_not3_116 rfl ?_
        refine g_icmp_ne (tgt := 124) B dX6_not3_117 (by decide) (fun c117 => ?_) (fun c117 => ?_)
        · refine g_iconst (v := (0)) B dX6_not3_124 (by decide) ?_
          refine g_ireti B dX6_not3_125 ?_
          first
            | exact hK1 f rfl _ _ hB9
            | exact absurd rfl c104
            | exact absurd c104 (by decide)
            | (have h6 := h60.mp (l_cmp_eq0.mp c85)
               refine kk ?_ (hK2 _ _ rfl _ hM9)
               rw [if_pos h6, evc_bin hw hw2 (by decide)]
               unfold jn
               rw [if_neg (by decide), if_neg (by decide), if_pos rfl]
               first
               | rw [if_pos (Int32.not_le.mp c109)]
               | rw [if_neg (Int32.not_lt.mpr c109)])
            | (have h6 : ¬ tT τ0 t n a1 = 60 := fun h => c85 (l_cmp_eq0.mpr (h60.mpr h))
               refine kk ?_ (hK2 _ _ rfl _ hM9)
               rw [if_neg h6, evc_bin hw hw2 (by decide)]
               unfold jn
               rw [if_neg (by decide), if_neg (by decide), if_neg (by decide), if_pos rfl]
               first
               | rw [if_pos c117]
               | rw [if_neg c117]
               | rw [if_pos c117])
        · refine g_iconst (v := (1)) B dX6_not3_120 (by decide) ?_
          refine g_goto (tgt := 125) B dX6_not3_121 (by decide) ?_
          refine g_ireti B dX6_not3_125 ?_
          first
            | exact hK1 f rfl _ _ hB9
            | exact absurd rfl c104
            | exact absurd c104 (by decide)
            | (have h6 := h60.mp (l_cmp_eq0.mp c85)
               refine kk ?_ (hK2 _ _ rfl _ hM9)
               rw [if_pos h6, evc_bin hw hw2 (by decide)]
               unfold jn
               rw [if_neg (by decide), if_neg (by decide), if_pos rfl]
               first
               | rw [if_pos (Int32.not_le.mp c109)]
               | rw [if_neg (Int32.not_lt.mpr c109)])
            | (have h6 : ¬ tT τ0 t n a1 = 60 := fun h => c85 (l_cmp_eq0.mpr (h60.mpr h))
               refine kk ?_ (hK2 _ _ rfl _ hM9)
               rw [if_neg h6, evc_bin hw hw2 (by decide)]
               unfold jn
               rw [if_neg (by decide), if_neg (by decide), if_neg (by decide), if_pos rfl]
               first
               | rw [if_pos c117]
               | rw [if_neg c117]
               | rw [if_pos c117])
      · refine g_iload_n B dX6_not3_107 rfl ?_
        refine g_iload_n B dX6_not3_108 rfl ?_
        refine g_icmp_ge (tgt := 124) B dX6_not3_109 (by decide) (fun c109 => ?_) (fun c109 => ?_)
        · refine g_iconst (v := (0)) B dX6_not3_124 (by decide) ?_
          refine g_ireti B dX6_not3_125 ?_
          first
            | exact hK1 f rfl _ _ hB9
            | exact absurd rfl c104
            | exact absurd c104 (by decide)
            | (have h6 := h60.mp (l_cmp_eq0.mp c85)
               refine kk ?_ (hK2 _ _ rfl _ hM9)
               rw [if_pos h6, evc_bin hw hw2 (by decide)]
               unfold jn
               rw [if_neg (by decide), if_neg (by decide), if_pos rfl]
               first
               | rw [if_pos (Int32.not_le.mp c109)]
               | rw [if_neg (Int32.not_lt.mpr c109)])
            | (have h6 : ¬ tT τ0 t n a1 = 60 := fun h => c85 (l_cmp_eq0.mpr (h60.mpr h))
               refine kk ?_ (hK2 _ _ rfl _ hM9)
               rw [if_neg h6, evc_bin hw hw2 (by decide)]
               unfold jn
               rw [if_neg (by decide), if_neg (by decide), if_neg (by decide), if_pos rfl]
               first
               | rw [if_pos c117]
               | rw [if_neg c117]
               | rw [if_pos c117])
        · refine g_goto (tgt := 120) B dX6_not3_112 (by decide) ?_
          refine g_iconst (v := (1)) B dX6_not3_120 (by decide) ?_
          refine g_goto (tgt := 125) B dX6_not3_121 (by decide) ?_
          refine g_ireti B dX6_not3_125 ?_
          first
            | exact hK1 f rfl _ _ hB9
            | exact absurd rfl c104
            | exact absurd c104 (by decide)
            | (have h6 := h60.mp (l_cmp_eq0.mp c85)
               refine kk ?_ (hK2 _ _ rfl _ hM9)
               rw [if_pos h6, evc_bin hw hw2 (by decide)]
               unfold jn
               rw [if_neg (by decide), if_neg (by decide), if_pos rfl]
               first
               | rw [if_pos (Int32.not_le.mp c109)]
               | rw [if_neg (Int32.not_lt.mpr c109)])
            | (have h6 : ¬ tT τ0 t n a1 = 60 := fun h => c85 (l_cmp_eq0.mpr (h60.mpr h))
               refine kk ?_ (hK2 _ _ rfl _ hM9)
               rw [if_neg h6, evc_bin hw hw2 (by decide)]
               unfold jn
               rw [if_neg (by decide), if_neg (by decide), if_neg (by decide), if_pos rfl]
               first
               | rw [if_pos c117]
               | rw [if_neg c117]
               | rw [if_pos c117])

set_option maxRecDepth 100000 in
set_option maxHeartbeats 4000000 in
theorem c_not3 {Z : LZ} {ad : Nat → Nat} {τ0 τ : St} {K : Int32 → St → Prop} {t n a : Nat} (hR : RB τ0 t n) (hM : MS τ0 t n 3 a τ) (hK1 : ∀ f, pNot (tT τ0 t n) (tV τ0 t n) (pLev (tT τ0 t n) (tV τ0 t n) 2) a = .inl f → ∀ v τ', MB τ0 t n f τ' → K v τ') (hK2 : ∀ cs a2, pNot (tT τ0 t n) (tV τ0 t n) (pLev (tT τ0 t n) (tV τ0 t n) 2) a = .inr (cs, a2) → ∀ τ', MS τ0 t n 3 a2 τ' → K (evc (eM τ0) cs) τ') : CC lyM Z ad yX6_not3 wsX6_not3 (rmk 19) [.ref (ad 0)] τ (rI K) := by
  refine CC.of (cc := cX6_not3) (nL := 4) (ret := (some .int)) rfl rfl ⟨rfl, rfl⟩ (by exact Nat.le_of_ble_eq_true rfl) ?_
  intro X B
  change GG _ _ _ _ X _ 0 [some (.ref (ad 0)), none, none, none] [] _
  change Amb _ _ _ _ X _ _ RX6 _ _ at B
  refine g_aload_n B dX6_not3_0 rfl ?_
  refine g_bipush (v := (110)) B dX6_not3_1 (by decide) ?_
  refine g_bipush (v := (111)) B dX6_not3_3 (by decide) ?_
  refine g_bipush (v := (116)) B dX6_not3_5 (by decide) ?_
  refine g_iconst (v := (0)) B dX6_not3_7 (by decide) ?_
  refine g_iconst (v := (0)) B dX6_not3_8 (by decide) ?_
  refine g_iconst (v := (0)) B dX6_not3_9 (by decide) ?_
  refine g_iconst (v := (0)) B dX6_not3_10 (by decide) ?_
  refine g_iconst (v := (0)) B dX6_not3_11 (by decide) ?_
  refine g_callVi (C := RX6) (As := [.int _, .int _, .int _, .int _, .int _, .int _, .int _, .int _]) B dX6_not3_12 (gc1 g_X6_180) (by rfl) ⟨rfl, hd_X6_isWord⟩ (by exact ⟨Nat.le_of_ble_eq_true rfl, Nat.le_of_ble_eq_true rfl⟩) ⟨rfl, rfl⟩ rfl rfl (by exact Nat.le_of_ble_eq_true rfl) recvM (c_key (c := 306) hR hM (by decide) (fun _ _ _ => wS_not) ?_)
  refine g_if_eq (tgt := 52) B dX6_not3_15 (by decide) (fun c15 => ?_) (fun c15 => ?_)
  · have hno : ¬ tT τ0 t n a = 306 := b1_0.mp c15
    unfold pNot at hK1 hK2
    rw [if_neg hno] at hK1 hK2
    unfold pCmp at hK1 hK2
    refine g_aload_n B dX6_not3_52 rfl ?_
    refine g_callVi (C := RX6) (As := []) B dX6_not3_53 (gc1 g_X6_259) (by rfl) ⟨rfl, hd_X6_added3⟩ (by exact ⟨Nat.le_of_ble_eq_true rfl, Nat.le_of_ble_eq_true rfl⟩) ⟨rfl, rfl⟩ rfl rfl (by exact Nat.le_of_ble_eq_true rfl) recvM (c_added3 hR hM (fun f hf v8 τ8 hB8 => ?_) (fun cs a1 hf τ8 hM8 => ?_))
    · rw [hf] at hK1; dsimp only at hK1
      refine g_istore_n B dX6_not3_56 (by decide) rfl ?_
      refine g_aload_n B dX6_not3_57 rfl ?_
      refine g_bipush (v := (60)) B dX6_not3_58 (by decide) ?_
      first
        | refine g_callVi (C := RX6) (As := [.int _]) B dX6_not3_60 (gc1 g_X6_202) (by rfl) ⟨rfl, hd_X6_isSign⟩ (by exact ⟨Nat.le_of_ble_eq_true rfl, Nat.le_of_ble_eq_true rfl⟩) ⟨rfl, rfl⟩ rfl rfl (by exact Nat.le_of_ble_eq_true rfl) recvM (c_sgnB hB8 ?_)
        | refine g_callVi (C := RX6) (As := [.int _]) B dX6_not3_60 (gc1 g_X6_202) (by rfl) ⟨rfl, hd_X6_isSign⟩ (by exact ⟨Nat.le_of_ble_eq_true rfl, Nat.le_of_ble_eq_true rfl⟩) ⟨rfl, rfl⟩ rfl rfl (by exact Nat.le_of_ble_eq_true rfl) recvM (c_sgn hM8 (show isS 60 by decide) ?_)
      refine g_if_ne (tgt := 77) B dX6_not3_63 (by decide) (fun c63 => ?_) (fun c63 => ?_)
      · first
          | exact absurd rfl c63
          | exact absurd rfl c72
          | (have hT : tT τ0 t n a1 = 60 ∨ tT τ0 t n a1 = 61 := by first | exact Or.inl (b1_n0.mp c63) | exact Or.inr (b1_n0.mp c72)
             rw [if_pos hT] at hK1 hK2
             exact n2_not3 B hR (pSum_ok (tT_TV hR) (pLev_ok (tT_TV hR) _) _ _ _ hf).1 hM8 hT hK1 hK2)
      · refine g_aload_n B dX6_not3_66 rfl ?_
        refine g_bipush (v := (61)) B dX6_not3_67 (by decide) ?_
        first
          | refine g_callVi (C := RX6) (As := [.int _]) B dX6_not3_69 (gc1 g_X6_202) (by rfl) ⟨rfl, hd_X6_isSign⟩ (by exact ⟨Nat.le_of_ble_eq_true rfl, Nat.le_of_ble_eq_true rfl⟩) ⟨rfl, rfl⟩ rfl rfl (by exact Nat.le_of_ble_eq_true rfl) recvM (c_sgnB hB8 ?_)
          | refine g_callVi (C := RX6) (As := [.int _]) B dX6_not3_69 (gc1 g_X6_202) (by rfl) ⟨rfl, hd_X6_isSign⟩ (by exact ⟨Nat.le_of_ble_eq_true rfl, Nat.le_of_ble_eq_true rfl⟩) ⟨rfl, rfl⟩ rfl rfl (by exact Nat.le_of_ble_eq_true rfl) recvM (c_sgn hM8 (show isS 61 by decide) ?_)
        refine g_if_ne (tgt := 77) B dX6_not3_72 (by decide) (fun c72 => ?_) (fun c72 => ?_)
        · first
            | exact absurd rfl c63
            | exact absurd rfl c72
            | (have hT : tT τ0 t n a1 = 60 ∨ tT τ0 t n a1 = 61 := by first | exact Or.inl (b1_n0.mp c63) | exact Or.inr (b1_n0.mp c72)
               rw [if_pos hT] at hK1 hK2
               exact n2_not3 B hR (pSum_ok (tT_TV hR) (pLev_ok (tT_TV hR) _) _ _ _ hf).1 hM8 hT hK1 hK2)
        · refine g_iload_n B dX6_not3_75 rfl ?_
          refine g_ireti B dX6_not3_76 ?_
          first
            | exact hK1 f rfl _ _ hB8
            | (rw [if_neg (fun h => h.elim (b1_0.mp c63) (b1_0.mp c72))] at hK2
               exact hK2 _ _ rfl _ hM8)
    · rw [hf] at hK1 hK2; dsimp only at hK1 hK2
      refine g_istore_n B dX6_not3_56 (by decide) rfl ?_
      refine g_aload_n B dX6_not3_57 rfl ?_
      refine g_bipush (v := (60)) B dX6_not3_58 (by decide) ?_
      first
        | refine g_callVi (C := RX6) (As := [.int _]) B dX6_not3_60 (gc1 g_X6_202) (by rfl) ⟨rfl, hd_X6_isSign⟩ (by exact ⟨Nat.le_of_ble_eq_true rfl, Nat.le_of_ble_eq_true rfl⟩) ⟨rfl, rfl⟩ rfl rfl (by exact Nat.le_of_ble_eq_true rfl) recvM (c_sgnB hB8 ?_)
        | refine g_callVi (C := RX6) (As := [.int _]) B dX6_not3_60 (gc1 g_X6_202) (by rfl) ⟨rfl, hd_X6_isSign⟩ (by exact ⟨Nat.le_of_ble_eq_true rfl, Nat.le_of_ble_eq_true rfl⟩) ⟨rfl, rfl⟩ rfl rfl (by exact Nat.le_of_ble_eq_true rfl) recvM (c_sgn hM8 (show isS 60 by decide) ?_)
      refine g_if_ne (tgt := 77) B dX6_not3_63 (by decide) (fun c63 => ?_) (fun c63 => ?_)
      · first
          | exact absurd rfl c63
          | exact absurd rfl c72
          | (have hT : tT τ0 t n a1 = 60 ∨ tT τ0 t n a1 = 61 := by first | exact Or.inl (b1_n0.mp c63) | exact Or.inr (b1_n0.mp c72)
             rw [if_pos hT] at hK1 hK2
             exact n2_not3 B hR (pSum_ok (tT_TV hR) (pLev_ok (tT_TV hR) _) _ _ _ hf).1 hM8 hT hK1 hK2)
      · refine g_aload_n B dX6_not3_66 rfl ?_
        refine g_bipush (v := (61)) B dX6_not3_67 (by decide) ?_
        first
          | refine g_callVi (C := RX6) (As := [.int _]) B dX6_not3_69 (gc1 g_X6_202) (by rfl) ⟨rfl, hd_X6_isSign⟩ (by exact ⟨Nat.le_of_ble_eq_true rfl, Nat.le_of_ble_eq_true rfl⟩) ⟨rfl, rfl⟩ rfl rfl (by exact Nat.le_of_ble_eq_true rfl) recvM (c_sgnB hB8 ?_)
          | refine g_callVi (C := RX6) (As := [.int _]) B dX6_not3_69 (gc1 g_X6_202) (by rfl) ⟨rfl, hd_X6_isSign⟩ (by exact ⟨Nat.le_of_ble_eq_true rfl, Nat.le_of_ble_eq_true rfl⟩) ⟨rfl, rfl⟩ rfl rfl (by exact Nat.le_of_ble_eq_true rfl) recvM (c_sgn hM8 (show isS 61 by decide) ?_)
        refine g_if_ne (tgt := 77) B dX6_not3_72 (by decide) (fun c72 => ?_) (fun c72 => ?_)
        · first
            | exact absurd rfl c63
            | exact absurd rfl c72
            | (have hT : tT τ0 t n a1 = 60 ∨ tT τ0 t n a1 = 61 := by first | exact Or.inl (b1_n0.mp c63) | exact Or.inr (b1_n0.mp c72)
               rw [if_pos hT] at hK1 hK2
               exact n2_not3 B hR (pSum_ok (tT_TV hR) (pLev_ok (tT_TV hR) _) _ _ _ hf).1 hM8 hT hK1 hK2)
        · refine g_iload_n B dX6_not3_75 rfl ?_
          refine g_ireti B dX6_not3_76 ?_
          first
            | exact hK1 f rfl _ _ hB8
            | (rw [if_neg (fun h => h.elim (b1_0.mp c63) (b1_0.mp c72))] at hK2
               exact hK2 _ _ rfl _ hM8)
  · refine g_aload_n B dX6_not3_18 rfl ?_
    refine g_callVi (C := RX6) (As := []) B dX6_not3_19 (gc1 g_X6_205) (by rfl) ⟨rfl, hd_X6_opens⟩ (by exact ⟨Nat.le_of_ble_eq_true rfl, Nat.le_of_ble_eq_true rfl⟩) ⟨rfl, rfl⟩ rfl rfl (by exact Nat.le_of_ble_eq_true rfl) recvM (c_opn hR hM (by decide) (by rw [b1_n0.mp c15]; decide) (fun τ7 hM7 => ?_))
    refine g_if_ne (tgt := 27) B dX6_not3_22 (by decide) (fun c22 => ?_) (fun c22 => ?_)
    · refine g_aload_n B dX6_not3_27 rfl ?_
      refine g_callVi (C := RX6) (As := []) B dX6_not3_28 (gc1 g_X6_244) (by rfl) ⟨rfl, hd_X6_not4⟩ (by exact ⟨Nat.le_of_ble_eq_true rfl, Nat.le_of_ble_eq_true rfl⟩) ⟨rfl, rfl⟩ rfl rfl (by exact Nat.le_of_ble_eq_true rfl) recvM (c_not4 hR hM7 (fun f hf v8 τ8 hB8 => ?_) (fun cs a2 hf τ8 hM8 => ?_))
      · refine g_istore_n B dX6_not3_31 (by decide) rfl ?_
        refine g_aload_n B dX6_not3_32 rfl ?_
        refine g_dup B dX6_not3_33 rfl ?_
        refine g_getI (T := TX6) (N := 42) B dX6_not3_34 (by decide) (by rfl) (inq inlX6) rfl 24 (by decide) (mq f_X6_171) (by rfl) ?_
        refine g_iconst (v := (1)) B dX6_not3_37 (by decide) ?_
        refine g_isub B dX6_not3_38 ?_
        refine g_putI (T := TX6) (N := 42) B dX6_not3_39 (by decide) (by rfl) (inq inlX6) rfl 24 (by decide) (mq f_X6_171) tyX6_ok nmX6 rfl ⟨rfl, rfl⟩ (by rfl) ?_
        refine g_iload_n B dX6_not3_42 rfl ?_
        refine g_if_ne (tgt := 50) B dX6_not3_43 (by decide) (fun c43 => ?_) (fun c43 => ?_)
        · refine g_iconst (v := (0)) B dX6_not3_50 (by decide) ?_
          refine g_ireti B dX6_not3_51 ?_
          first
            | (refine hK1 f ?_ _ _ hB8.close
               unfold pNot
               rw [if_pos (b1_n0.mp c15)]
               show (match pNot (tT τ0 t n) (tV τ0 t n) (pLev (tT τ0 t n) (tV τ0 t n) 1) (a + 1) with | .inl f => _ | .inr (cs, a2) => _) = _
               rw [hf])
            | (refine kk ?_ (hK2 (cs ++ [-21]) a2 (by
                 unfold pNot
                 rw [if_pos (b1_n0.mp c15)]
                 show (match pNot (tT τ0 t n) (tV τ0 t n) (pLev (tT τ0 t n) (tV τ0 t n) 1) (a + 1) with | .inl f => _ | .inr (cs, a2) => _) = _
                 rw [hf]) _ (MS.close (by decide) hM8))
               rw [evc_not (pNot_ok (tT_TV hR) (pLev_ok (tT_TV hR) _) _ _ _ hf).1]
               first
               | rw [if_neg c43]
               | rw [if_pos c43])
        · refine g_iconst (v := (1)) B dX6_not3_46 (by decide) ?_
          refine g_goto (tgt := 51) B dX6_not3_47 (by decide) ?_
          refine g_ireti B dX6_not3_51 ?_
          first
            | (refine hK1 f ?_ _ _ hB8.close
               unfold pNot
               rw [if_pos (b1_n0.mp c15)]
               show (match pNot (tT τ0 t n) (tV τ0 t n) (pLev (tT τ0 t n) (tV τ0 t n) 1) (a + 1) with | .inl f => _ | .inr (cs, a2) => _) = _
               rw [hf])
            | (refine kk ?_ (hK2 (cs ++ [-21]) a2 (by
                 unfold pNot
                 rw [if_pos (b1_n0.mp c15)]
                 show (match pNot (tT τ0 t n) (tV τ0 t n) (pLev (tT τ0 t n) (tV τ0 t n) 1) (a + 1) with | .inl f => _ | .inr (cs, a2) => _) = _
                 rw [hf]) _ (MS.close (by decide) hM8))
               rw [evc_not (pNot_ok (tT_TV hR) (pLev_ok (tT_TV hR) _) _ _ _ hf).1]
               first
               | rw [if_neg c43]
               | rw [if_pos c43])
      · refine g_istore_n B dX6_not3_31 (by decide) rfl ?_
        refine g_aload_n B dX6_not3_32 rfl ?_
        refine g_dup B dX6_not3_33 rfl ?_
        refine g_getI (T := TX6) (N := 42) B dX6_not3_34 (by decide) (by rfl) (inq inlX6) rfl 24 (by decide) (mq f_X6_171) (by rfl) ?_
        refine g_iconst (v := (1)) B dX6_not3_37 (by decide) ?_
        refine g_isub B dX6_not3_38 ?_
        refine g_putI (T := TX6) (N := 42) B dX6_not3_39 (by decide) (by rfl) (inq inlX6) rfl 24 (by decide) (mq f_X6_171) tyX6_ok nmX6 rfl ⟨rfl, rfl⟩ (by rfl) ?_
        refine g_iload_n B dX6_not3_42 rfl ?_
        refine g_if_ne (tgt := 50) B dX6_not3_43 (by decide) (fun c43 => ?_) (fun c43 => ?_)
        · refine g_iconst (v := (0)) B dX6_not3_50 (by decide) ?_
          refine g_ireti B dX6_not3_51 ?_
          first
            | (refine hK1 f ?_ _ _ hB8.close
               unfold pNot
               rw [if_pos (b1_n0.mp c15)]
               show (match pNot (tT τ0 t n) (tV τ0 t n) (pLev (tT τ0 t n) (tV τ0 t n) 1) (a + 1) with | .inl f => _ | .inr (cs, a2) => _) = _
               rw [hf])
            | (refine kk ?_ (hK2 (cs ++ [-21]) a2 (by
                 unfold pNot
                 rw [if_pos (b1_n0.mp c15)]
                 show (match pNot (tT τ0 t n) (tV τ0 t n) (pLev (tT τ0 t n) (tV τ0 t n) 1) (a + 1) with | .inl f => _ | .inr (cs, a2) => _) = _
                 rw [hf]) _ (MS.close (by decide) hM8))
               rw [evc_not (pNot_ok (tT_TV hR) (pLev_ok (tT_TV hR) _) _ _ _ hf).1]
               first
               | rw [if_neg c43]
               | rw [if_pos c43])
        · refine g_iconst (v := (1)) B dX6_not3_46 (by decide) ?_
          refine g_goto (tgt := 51) B dX6_not3_47 (by decide) ?_
          refine g_ireti B dX6_not3_51 ?_
          first
            | (refine hK1 f ?_ _ _ hB8.close
               unfold pNot
               rw [if_pos (b1_n0.mp c15)]
               show (match pNot (tT τ0 t n) (tV τ0 t n) (pLev (tT τ0 t n) (tV τ0 t n) 1) (a + 1) with | .inl f => _ | .inr (cs, a2) => _) = _
               rw [hf])
            | (refine kk ?_ (hK2 (cs ++ [-21]) a2 (by
                 unfold pNot
                 rw [if_pos (b1_n0.mp c15)]
                 show (match pNot (tT τ0 t n) (tV τ0 t n) (pLev (tT τ0 t n) (tV τ0 t n) 1) (a + 1) with | .inl f => _ | .inr (cs, a2) => _) = _
                 rw [hf]) _ (MS.close (by decide) hM8))
               rw [evc_not (pNot_ok (tT_TV hR) (pLev_ok (tT_TV hR) _) _ _ _ hf).1]
               first
               | rw [if_neg c43]
               | rw [if_pos c43])
    · refine g_iconst (v := (0)) B dX6_not3_25 (by decide) ?_
      refine g_ireti B dX6_not3_26 ?_
      exact absurd c22 (by decide)
set_option maxRecDepth 100000 in
set_option maxHeartbeats 4000000 in
theorem lB_both3 {Z : LZ} {ad : Nat → Nat} {X : CX} {K : Int32 → St → Prop} {τ0 τ : St} {t n f : Nat} {v : Int32} (B : Amb lyM Z ad (rmk 20) X cX6_both3 wsX6_both3 RX6 3 (some .int)) (hB : MB τ0 t n f τ) (hK : K v τ) : GG lyM Z ad (rmk 20) X (rI K) 5 [some (.ref (ad 0)), some (.int v), none] [] τ := by
  refine g_aload_n B dX6_both3_5 rfl ?_
  refine g_bipush (v := (97)) B dX6_both3_6 (by decide) ?_
  refine g_bipush (v := (110)) B dX6_both3_8 (by decide) ?_
  refine g_bipush (v := (100)) B dX6_both3_10 (by decide) ?_
  refine g_iconst (v := (0)) B dX6_both3_12 (by decide) ?_
  refine g_iconst (v := (0)) B dX6_both3_13 (by decide) ?_
  refine g_iconst (v := (0)) B dX6_both3_14 (by decide) ?_
  refine g_iconst (v := (0)) B dX6_both3_15 (by decide) ?_
  refine g_iconst (v := (0)) B dX6_both3_16 (by decide) ?_
  refine g_callVi (C := RX6) (As := [.int _, .int _, .int _, .int _, .int _, .int _, .int _, .int _]) B dX6_both3_17 (gc1 g_X6_180) (by rfl) ⟨rfl, hd_X6_isWord⟩ (by exact ⟨Nat.le_of_ble_eq_true rfl, Nat.le_of_ble_eq_true rfl⟩) ⟨rfl, rfl⟩ rfl rfl (by exact Nat.le_of_ble_eq_true rfl) recvM (c_keyB hB ?_)
  refine g_if_eq (tgt := 49) B dX6_both3_20 (by decide) (fun c20 => ?_) (fun c20 => ?_)
  · refine g_iload_n B dX6_both3_49 rfl ?_
    refine g_ireti B dX6_both3_50 ?_
    exact hK
  · exact absurd rfl c20
set_option maxRecDepth 100000 in
set_option maxHeartbeats 4000000 in
theorem l_both3 {Z : LZ} {ad : Nat → Nat} {X : CX} {K : Int32 → St → Prop} {τ0 : St} {t n : Nat} (B : Amb lyM Z ad (rmk 20) X cX6_both3 wsX6_both3 RX6 3 (some .int)) (hR : RB τ0 t n) : ∀ (k : Nat) (cs : List Int32) (b : Nat) (τ : St), 160 ≤ b + k → WF cs → MS τ0 t n 3 b τ → (∀ f, pLoop (pNot (tT τ0 t n) (tV τ0 t n) (pLev (tT τ0 t n) (tV τ0 t n) 2)) (opAnd (tT τ0 t n)) (k + 1) cs b = .inl f → ∀ v τ', MB τ0 t n f τ' → K v τ') → (∀ ds a2, pLoop (pNot (tT τ0 t n) (tV τ0 t n) (pLev (tT τ0 t n) (tV τ0 t n) 2)) (opAnd (tT τ0 t n)) (k + 1) cs b = .inr (ds, a2) → ∀ τ', MS τ0 t n 3 a2 τ' → K (evc (eM τ0) ds) τ') → GG lyM Z ad (rmk 20) X (rI K) 5 [some (.ref (ad 0)), some (.int (evc (eM τ0) cs)), none] [] τ := by
  intro k
  induction k using Nat.strongRecOn with
  | ind k ih =>
  intro cs b τ hk hw hM hK1 hK2
  have hn := hR.2.2.2
  unfold pLoop at hK1 hK2
  refine g_aload_n B dX6_both3_5 rfl ?_
  refine g_bipush (v := (97)) B dX6_both3_6 (by decide) ?_
  refine g_bipush (v := (110)) B dX6_both3_8 (by decide) ?_
  refine g_bipush (v := (100)) B dX6_both3_10 (by decide) ?_
  refine g_iconst (v := (0)) B dX6_both3_12 (by decide) ?_
  refine g_iconst (v := (0)) B dX6_both3_13 (by decide) ?_
  refine g_iconst (v := (0)) B dX6_both3_14 (by decide) ?_
  refine g_iconst (v := (0)) B dX6_both3_15 (by decide) ?_
  refine g_iconst (v := (0)) B dX6_both3_16 (by decide) ?_
  refine g_callVi (C := RX6) (As := [.int _, .int _, .int _, .int _, .int _, .int _, .int _, .int _]) B dX6_both3_17 (gc1 g_X6_180) (by rfl) ⟨rfl, hd_X6_isWord⟩ (by exact ⟨Nat.le_of_ble_eq_true rfl, Nat.le_of_ble_eq_true rfl⟩) ⟨rfl, rfl⟩ rfl rfl (by exact Nat.le_of_ble_eq_true rfl) recvM (c_key (c := 305) hR hM (by decide) (fun _ _ _ => wS_and) ?_)
  refine g_if_eq (tgt := 49) B dX6_both3_20 (by decide) (fun c20 => ?_) (fun c20 => ?_)
  · refine g_iload_n B dX6_both3_49 rfl ?_
    refine g_ireti B dX6_both3_50 ?_
    have hop : opAnd (tT τ0 t n) b = none := if_neg (b1_0.mp c20)
    rw [hop] at hK2
    exact hK2 _ _ rfl τ hM
  · have hT := b1_n0.mp c20
    have hop : opAnd (tT τ0 t n) b = some (-12) := if_pos hT
    have hb := tT_lt hR (show tT τ0 t n b ≠ 0 by rw [hT]; decide)
    rw [hop] at hK1 hK2
    dsimp only at hK1 hK2
    refine g_aload_n B dX6_both3_23 rfl ?_
    refine g_callVv (C := RX6) (As := []) B dX6_both3_24 (gc1 g_X6_177) (by rfl) ⟨rfl, hd_X6_next⟩ (by exact ⟨Nat.le_of_ble_eq_true rfl, Nat.le_of_ble_eq_true rfl⟩) ⟨rfl, rfl⟩ rfl rfl (by exact Nat.le_of_ble_eq_true rfl) recvM (c_nx hR hM (by rw [hT]; decide) (fun τ2 hM2 => ?_))
    refine g_aload_n B dX6_both3_27 rfl ?_
    refine g_callVi (C := RX6) (As := []) B dX6_both3_28 (gc1 g_X6_262) (by rfl) ⟨rfl, hd_X6_not3⟩ (by exact ⟨Nat.le_of_ble_eq_true rfl, Nat.le_of_ble_eq_true rfl⟩) ⟨rfl, rfl⟩ rfl rfl (by exact Nat.le_of_ble_eq_true rfl) recvM (c_not3 hR hM2 (fun f hf v8 τ8 hB8 => ?_) (fun cs2 a2 hf τ8 hM8 => ?_))
    · rw [hf] at hK1; dsimp only at hK1
      refine g_istore_n B dX6_both3_31 (by decide) rfl ?_
      refine g_iload_n B dX6_both3_32 rfl ?_
      refine g_if_eq (tgt := 44) B dX6_both3_33 (by decide) (fun c33 => ?_) (fun c33 => ?_)
      · refine g_iconst (v := (0)) B dX6_both3_44 (by decide) ?_
        refine g_istore_n B dX6_both3_45 (by decide) rfl ?_
        refine g_goto (tgt := 5) B dX6_both3_46 (by decide) ?_
        refine g_drop 2 ?_
        first
          | exact lB_both3 B hB8 (hK1 f rfl _ _ hB8)
          | (have hv : ∀ z : Int32, z = jn (-12) (evc (eM τ0) cs) (evc (eM τ0) cs2) → z = evc (eM τ0) (cs ++ cs2 ++ [-12]) := fun z h => h.trans (evc_bin hw hw2 (by decide)).symm
             first
             | rw [hv 0 (jn_and_l c33)]
             | rw [hv 0 (jn_and_r c37)]
             | rw [hv 1 (jn_and_1 c33 c37)]
             obtain ⟨k', rfl⟩ : ∃ k', k = k' + 1 := ⟨k - 1, by omega⟩
             exact ih k' (by omega) (cs ++ cs2 ++ [-12]) a2 τ8 (by omega) (hw.bin hw2 (by decide)) hM8 hK1 hK2)
      · refine g_iload_n B dX6_both3_36 rfl ?_
        refine g_if_eq (tgt := 44) B dX6_both3_37 (by decide) (fun c37 => ?_) (fun c37 => ?_)
        · refine g_iconst (v := (0)) B dX6_both3_44 (by decide) ?_
          refine g_istore_n B dX6_both3_45 (by decide) rfl ?_
          refine g_goto (tgt := 5) B dX6_both3_46 (by decide) ?_
          refine g_drop 2 ?_
          first
            | exact lB_both3 B hB8 (hK1 f rfl _ _ hB8)
            | (have hv : ∀ z : Int32, z = jn (-12) (evc (eM τ0) cs) (evc (eM τ0) cs2) → z = evc (eM τ0) (cs ++ cs2 ++ [-12]) := fun z h => h.trans (evc_bin hw hw2 (by decide)).symm
               first
               | rw [hv 0 (jn_and_l c33)]
               | rw [hv 0 (jn_and_r c37)]
               | rw [hv 1 (jn_and_1 c33 c37)]
               obtain ⟨k', rfl⟩ : ∃ k', k = k' + 1 := ⟨k - 1, by omega⟩
               exact ih k' (by omega) (cs ++ cs2 ++ [-12]) a2 τ8 (by omega) (hw.bin hw2 (by decide)) hM8 hK1 hK2)
        · refine g_iconst (v := (1)) B dX6_both3_40 (by decide) ?_
          refine g_goto (tgt := 45) B dX6_both3_41 (by decide) ?_
          refine g_istore_n B dX6_both3_45 (by decide) rfl ?_
          refine g_goto (tgt := 5) B dX6_both3_46 (by decide) ?_
          refine g_drop 2 ?_
          first
            | exact lB_both3 B hB8 (hK1 f rfl _ _ hB8)
            | (have hv : ∀ z : Int32, z = jn (-12) (evc (eM τ0) cs) (evc (eM τ0) cs2) → z = evc (eM τ0) (cs ++ cs2 ++ [-12]) := fun z h => h.trans (evc_bin hw hw2 (by decide)).symm
               first
               | rw [hv 0 (jn_and_l c33)]
               | rw [hv 0 (jn_and_r c37)]
               | rw [hv 1 (jn_and_1 c33 c37)]
               obtain ⟨k', rfl⟩ : ∃ k', k = k' + 1 := ⟨k - 1, by omega⟩
               exact ih k' (by omega) (cs ++ cs2 ++ [-12]) a2 τ8 (by omega) (hw.bin hw2 (by decide)) hM8 hK1 hK2)
    · rw [hf] at hK1 hK2; dsimp only at hK1 hK2; obtain ⟨hw2, hlt2⟩ := pNot_ok (tT_TV hR) (pLev_ok (tT_TV hR) _) _ _ _ hf
      refine g_istore_n B dX6_both3_31 (by decide) rfl ?_
      refine g_iload_n B dX6_both3_32 rfl ?_
      refine g_if_eq (tgt := 44) B dX6_both3_33 (by decide) (fun c33 => ?_) (fun c33 => ?_)
      · refine g_iconst (v := (0)) B dX6_both3_44 (by decide) ?_
        refine g_istore_n B dX6_both3_45 (by decide) rfl ?_
        refine g_goto (tgt := 5) B dX6_both3_46 (by decide) ?_
        refine g_drop 2 ?_
        first
          | exact lB_both3 B hB8 (hK1 f rfl _ _ hB8)
          | (have hv : ∀ z : Int32, z = jn (-12) (evc (eM τ0) cs) (evc (eM τ0) cs2) → z = evc (eM τ0) (cs ++ cs2 ++ [-12]) := fun z h => h.trans (evc_bin hw hw2 (by decide)).symm
             first
             | rw [hv 0 (jn_and_l c33)]
             | rw [hv 0 (jn_and_r c37)]
             | rw [hv 1 (jn_and_1 c33 c37)]
             obtain ⟨k', rfl⟩ : ∃ k', k = k' + 1 := ⟨k - 1, by omega⟩
             exact ih k' (by omega) (cs ++ cs2 ++ [-12]) a2 τ8 (by omega) (hw.bin hw2 (by decide)) hM8 hK1 hK2)
      · refine g_iload_n B dX6_both3_36 rfl ?_
        refine g_if_eq (tgt := 44) B dX6_both3_37 (by decide) (fun c37 => ?_) (fun c37 => ?_)
        · refine g_iconst (v := (0)) B dX6_both3_44 (by decide) ?_
          refine g_istore_n B dX6_both3_45 (by decide) rfl ?_
          refine g_goto (tgt := 5) B dX6_both3_46 (by decide) ?_
          refine g_drop 2 ?_
          first
            | exact lB_both3 B hB8 (hK1 f rfl _ _ hB8)
            | (have hv : ∀ z : Int32, z = jn (-12) (evc (eM τ0) cs) (evc (eM τ0) cs2) → z = evc (eM τ0) (cs ++ cs2 ++ [-12]) := fun z h => h.trans (evc_bin hw hw2 (by decide)).symm
               first
               | rw [hv 0 (jn_and_l c33)]
               | rw [hv 0 (jn_and_r c37)]
               | rw [hv 1 (jn_and_1 c33 c37)]
               obtain ⟨k', rfl⟩ : ∃ k', k = k' + 1 := ⟨k - 1, by omega⟩
               exact ih k' (by omega) (cs ++ cs2 ++ [-12]) a2 τ8 (by omega) (hw.bin hw2 (by decide)) hM8 hK1 hK2)
        · refine g_iconst (v := (1)) B dX6_both3_40 (by decide) ?_
          refine g_goto (tgt := 45) B dX6_both3_41 (by decide) ?_
          refine g_istore_n B dX6_both3_45 (by decide) rfl ?_
          refine g_goto (tgt := 5) B dX6_both3_46 (by decide) ?_
          refine g_drop 2 ?_
          first
            | exact lB_both3 B hB8 (hK1 f rfl _ _ hB8)
            | (have hv : ∀ z : Int32, z = jn (-12) (evc (eM τ0) cs) (evc (eM τ0) cs2) → z = evc (eM τ0) (cs ++ cs2 ++ [-12]) := fun z h => h.trans (evc_bin hw hw2 (by decide)).symm
               first
               | rw [hv 0 (jn_and_l c33)]
               | rw [hv 0 (jn_and_r c37)]
               | rw [hv 1 (jn_and_1 c33 c37)]
               obtain ⟨k', rfl⟩ : ∃ k', k = k' + 1 := ⟨k - 1, by omega⟩
               exact ih k' (by omega) (cs ++ cs2 ++ [-12]) a2 τ8 (by omega) (hw.bin hw2 (by decide)) hM8 hK1 hK2)
set_option maxRecDepth 100000 in
set_option maxHeartbeats 4000000 in
theorem c_both3 {Z : LZ} {ad : Nat → Nat} {τ0 τ : St} {K : Int32 → St → Prop} {t n a : Nat} (hR : RB τ0 t n) (hM : MS τ0 t n 3 a τ) (hK1 : ∀ f, pBoth (tT τ0 t n) (tV τ0 t n) (pLev (tT τ0 t n) (tV τ0 t n) 2) a = .inl f → ∀ v τ', MB τ0 t n f τ' → K v τ') (hK2 : ∀ cs a2, pBoth (tT τ0 t n) (tV τ0 t n) (pLev (tT τ0 t n) (tV τ0 t n) 2) a = .inr (cs, a2) → ∀ τ', MS τ0 t n 3 a2 τ' → K (evc (eM τ0) cs) τ') : CC lyM Z ad yX6_both3 wsX6_both3 (rmk 20) [.ref (ad 0)] τ (rI K) := by
  refine CC.of (cc := cX6_both3) (nL := 3) (ret := (some .int)) rfl rfl ⟨rfl, rfl⟩ (by exact Nat.le_of_ble_eq_true rfl) ?_
  intro X B
  change GG _ _ _ _ X _ 0 [some (.ref (ad 0)), none, none] [] _
  change Amb _ _ _ _ X _ _ RX6 _ _ at B
  unfold pBoth pSeq at hK1 hK2
  refine g_aload_n B dX6_both3_0 rfl ?_
  refine g_callVi (C := RX6) (As := []) B dX6_both3_1 (gc1 g_X6_262) (by rfl) ⟨rfl, hd_X6_not3⟩ (by exact ⟨Nat.le_of_ble_eq_true rfl, Nat.le_of_ble_eq_true rfl⟩) ⟨rfl, rfl⟩ rfl rfl (by exact Nat.le_of_ble_eq_true rfl) recvM (c_not3 hR hM (fun f hf v8 τ8 hB8 => ?_) (fun cs a1 hf τ8 hM8 => ?_))
  · rw [hf] at hK1; dsimp only at hK1
    refine g_istore_n B dX6_both3_4 (by decide) rfl ?_
    first
      | exact lB_both3 B hB8 (hK1 f rfl _ _ hB8)
      | exact l_both3 B hR 199 cs a1 τ8 (by omega) (pNot_ok (tT_TV hR) (pLev_ok (tT_TV hR) _) _ _ _ hf).1 hM8 hK1 hK2
  · rw [hf] at hK1 hK2; dsimp only at hK1 hK2
    refine g_istore_n B dX6_both3_4 (by decide) rfl ?_
    first
      | exact lB_both3 B hB8 (hK1 f rfl _ _ hB8)
      | exact l_both3 B hR 199 cs a1 τ8 (by omega) (pNot_ok (tT_TV hR) (pLev_ok (tT_TV hR) _) _ _ _ hf).1 hM8 hK1 hK2
set_option maxRecDepth 100000 in
set_option maxHeartbeats 4000000 in
theorem lB_either3 {Z : LZ} {ad : Nat → Nat} {X : CX} {K : Int32 → St → Prop} {τ0 τ : St} {t n f : Nat} {v : Int32} (B : Amb lyM Z ad (rmk 21) X cX6_either3 wsX6_either3 RX6 3 (some .int)) (hB : MB τ0 t n f τ) (hK : K v τ) : GG lyM Z ad (rmk 21) X (rI K) 5 [some (.ref (ad 0)), some (.int v), none] [] τ := by
  refine g_aload_n B dX6_either3_5 rfl ?_
  refine g_bipush (v := (111)) B dX6_either3_6 (by decide) ?_
  refine g_bipush (v := (114)) B dX6_either3_8 (by decide) ?_
  refine g_iconst (v := (0)) B dX6_either3_10 (by decide) ?_
  refine g_iconst (v := (0)) B dX6_either3_11 (by decide) ?_
  refine g_iconst (v := (0)) B dX6_either3_12 (by decide) ?_
  refine g_iconst (v := (0)) B dX6_either3_13 (by decide) ?_
  refine g_iconst (v := (0)) B dX6_either3_14 (by decide) ?_
  refine g_iconst (v := (0)) B dX6_either3_15 (by decide) ?_
  refine g_callVi (C := RX6) (As := [.int _, .int _, .int _, .int _, .int _, .int _, .int _, .int _]) B dX6_either3_16 (gc1 g_X6_180) (by rfl) ⟨rfl, hd_X6_isWord⟩ (by exact ⟨Nat.le_of_ble_eq_true rfl, Nat.le_of_ble_eq_true rfl⟩) ⟨rfl, rfl⟩ rfl rfl (by exact Nat.le_of_ble_eq_true rfl) recvM (c_keyB hB ?_)
  refine g_if_eq (tgt := 48) B dX6_either3_19 (by decide) (fun c19 => ?_) (fun c19 => ?_)
  · refine g_iload_n B dX6_either3_48 rfl ?_
    refine g_ireti B dX6_either3_49 ?_
    exact hK
  · exact absurd rfl c19
set_option maxRecDepth 100000 in
set_option maxHeartbeats 4000000 in
theorem l_either3 {Z : LZ} {ad : Nat → Nat} {X : CX} {K : Int32 → St → Prop} {τ0 : St} {t n : Nat} (B : Amb lyM Z ad (rmk 21) X cX6_either3 wsX6_either3 RX6 3 (some .int)) (hR : RB τ0 t n) : ∀ (k : Nat) (cs : List Int32) (b : Nat) (τ : St), 160 ≤ b + k → WF cs → MS τ0 t n 3 b τ → (∀ f, pLoop (pBoth (tT τ0 t n) (tV τ0 t n) (pLev (tT τ0 t n) (tV τ0 t n) 2)) (opOr (tT τ0 t n)) (k + 1) cs b = .inl f → ∀ v τ', MB τ0 t n f τ' → K v τ') → (∀ ds a2, pLoop (pBoth (tT τ0 t n) (tV τ0 t n) (pLev (tT τ0 t n) (tV τ0 t n) 2)) (opOr (tT τ0 t n)) (k + 1) cs b = .inr (ds, a2) → ∀ τ', MS τ0 t n 3 a2 τ' → K (evc (eM τ0) ds) τ') → GG lyM Z ad (rmk 21) X (rI K) 5 [some (.ref (ad 0)), some (.int (evc (eM τ0) cs)), none] [] τ := by
  intro k
  induction k using Nat.strongRecOn with
  | ind k ih =>
  intro cs b τ hk hw hM hK1 hK2
  have hn := hR.2.2.2
  unfold pLoop at hK1 hK2
  refine g_aload_n B dX6_either3_5 rfl ?_
  refine g_bipush (v := (111)) B dX6_either3_6 (by decide) ?_
  refine g_bipush (v := (114)) B dX6_either3_8 (by decide) ?_
  refine g_iconst (v := (0)) B dX6_either3_10 (by decide) ?_
  refine g_iconst (v := (0)) B dX6_either3_11 (by decide) ?_
  refine g_iconst (v := (0)) B dX6_either3_12 (by decide) ?_
  refine g_iconst (v := (0)) B dX6_either3_13 (by decide) ?_
  refine g_iconst (v := (0)) B dX6_either3_14 (by decide) ?_
  refine g_iconst (v := (0)) B dX6_either3_15 (by decide) ?_
  refine g_callVi (C := RX6) (As := [.int _, .int _, .int _, .int _, .int _, .int _, .int _, .int _]) B dX6_either3_16 (gc1 g_X6_180) (by rfl) ⟨rfl, hd_X6_isWord⟩ (by exact ⟨Nat.le_of_ble_eq_true rfl, Nat.le_of_ble_eq_true rfl⟩) ⟨rfl, rfl⟩ rfl rfl (by exact Nat.le_of_ble_eq_true rfl) recvM (c_key (c := 304) hR hM (by decide) (fun _ _ _ => wS_or) ?_)
  refine g_if_eq (tgt := 48) B dX6_either3_19 (by decide) (fun c19 => ?_) (fun c19 => ?_)
  · refine g_iload_n B dX6_either3_48 rfl ?_
    refine g_ireti B dX6_either3_49 ?_
    have hop : opOr (tT τ0 t n) b = none := if_neg (b1_0.mp c19)
    rw [hop] at hK2
    exact hK2 _ _ rfl τ hM
  · have hT := b1_n0.mp c19
    have hop : opOr (tT τ0 t n) b = some (-11) := if_pos hT
    have hb := tT_lt hR (show tT τ0 t n b ≠ 0 by rw [hT]; decide)
    rw [hop] at hK1 hK2
    dsimp only at hK1 hK2
    refine g_aload_n B dX6_either3_22 rfl ?_
    refine g_callVv (C := RX6) (As := []) B dX6_either3_23 (gc1 g_X6_177) (by rfl) ⟨rfl, hd_X6_next⟩ (by exact ⟨Nat.le_of_ble_eq_true rfl, Nat.le_of_ble_eq_true rfl⟩) ⟨rfl, rfl⟩ rfl rfl (by exact Nat.le_of_ble_eq_true rfl) recvM (c_nx hR hM (by rw [hT]; decide) (fun τ2 hM2 => ?_))
    refine g_aload_n B dX6_either3_26 rfl ?_
    refine g_callVi (C := RX6) (As := []) B dX6_either3_27 (gc1 g_X6_265) (by rfl) ⟨rfl, hd_X6_both3⟩ (by exact ⟨Nat.le_of_ble_eq_true rfl, Nat.le_of_ble_eq_true rfl⟩) ⟨rfl, rfl⟩ rfl rfl (by exact Nat.le_of_ble_eq_true rfl) recvM (c_both3 hR hM2 (fun f hf v8 τ8 hB8 => ?_) (fun cs2 a2 hf τ8 hM8 => ?_))
    · rw [hf] at hK1; dsimp only at hK1
      refine g_istore_n B dX6_either3_30 (by decide) rfl ?_
      refine g_iload_n B dX6_either3_31 rfl ?_
      refine g_if_ne (tgt := 39) B dX6_either3_32 (by decide) (fun c32 => ?_) (fun c32 => ?_)
      · refine g_iconst (v := (1)) B dX6_either3_39 (by decide) ?_
        refine g_goto (tgt := 44) B dX6_either3_40 (by decide) ?_
        refine g_istore_n B dX6_either3_44 (by decide) rfl ?_
        refine g_goto (tgt := 5) B dX6_either3_45 (by decide) ?_
        refine g_drop 2 ?_
        first
          | exact lB_either3 B hB8 (hK1 f rfl _ _ hB8)
          | (have hv : ∀ z : Int32, z = jn (-11) (evc (eM τ0) cs) (evc (eM τ0) cs2) → z = evc (eM τ0) (cs ++ cs2 ++ [-11]) := fun z h => h.trans (evc_bin hw hw2 (by decide)).symm
             first
             | rw [hv 1 (jn_or_l c32)]
             | rw [hv 0 (jn_or_0 c32 c36)]
             | rw [hv 1 (jn_or_r c36)]
             obtain ⟨k', rfl⟩ : ∃ k', k = k' + 1 := ⟨k - 1, by omega⟩
             exact ih k' (by omega) (cs ++ cs2 ++ [-11]) a2 τ8 (by omega) (hw.bin hw2 (by decide)) hM8 hK1 hK2)
      · refine g_iload_n B dX6_either3_35 rfl ?_
        refine g_if_eq (tgt := 43) B dX6_either3_36 (by decide) (fun c36 => ?_) (fun c36 => ?_)
        · refine g_iconst (v := (0)) B dX6_either3_43 (by decide) ?_
          refine g_istore_n B dX6_either3_44 (by decide) rfl ?_
          refine g_goto (tgt := 5) B dX6_either3_45 (by decide) ?_
          refine g_drop 2 ?_
          first
            | exact lB_either3 B hB8 (hK1 f rfl _ _ hB8)
            | (have hv : ∀ z : Int32, z = jn (-11) (evc (eM τ0) cs) (evc (eM τ0) cs2) → z = evc (eM τ0) (cs ++ cs2 ++ [-11]) := fun z h => h.trans (evc_bin hw hw2 (by decide)).symm
               first
               | rw [hv 1 (jn_or_l c32)]
               | rw [hv 0 (jn_or_0 c32 c36)]
               | rw [hv 1 (jn_or_r c36)]
               obtain ⟨k', rfl⟩ : ∃ k', k = k' + 1 := ⟨k - 1, by omega⟩
               exact ih k' (by omega) (cs ++ cs2 ++ [-11]) a2 τ8 (by omega) (hw.bin hw2 (by decide)) hM8 hK1 hK2)
        · refine g_iconst (v := (1)) B dX6_either3_39 (by decide) ?_
          refine g_goto (tgt := 44) B dX6_either3_40 (by decide) ?_
          refine g_istore_n B dX6_either3_44 (by decide) rfl ?_
          refine g_goto (tgt := 5) B dX6_either3_45 (by decide) ?_
          refine g_drop 2 ?_
          first
            | exact lB_either3 B hB8 (hK1 f rfl _ _ hB8)
            | (have hv : ∀ z : Int32, z = jn (-11) (evc (eM τ0) cs) (evc (eM τ0) cs2) → z = evc (eM τ0) (cs ++ cs2 ++ [-11]) := fun z h => h.trans (evc_bin hw hw2 (by decide)).symm
               first
               | rw [hv 1 (jn_or_l c32)]
               | rw [hv 0 (jn_or_0 c32 c36)]
               | rw [hv 1 (jn_or_r c36)]
               obtain ⟨k', rfl⟩ : ∃ k', k = k' + 1 := ⟨k - 1, by omega⟩
               exact ih k' (by omega) (cs ++ cs2 ++ [-11]) a2 τ8 (by omega) (hw.bin hw2 (by decide)) hM8 hK1 hK2)
    · rw [hf] at hK1 hK2; dsimp only at hK1 hK2; obtain ⟨hw2, hlt2⟩ := pBoth_ok (tT_TV hR) (pLev_ok (tT_TV hR) _) _ _ _ hf
      refine g_istore_n B dX6_either3_30 (by decide) rfl ?_
      refine g_iload_n B dX6_either3_31 rfl ?_
      refine g_if_ne (tgt := 39) B dX6_either3_32 (by decide) (fun c32 => ?_) (fun c32 => ?_)
      · refine g_iconst (v := (1)) B dX6_either3_39 (by decide) ?_
        refine g_goto (tgt := 44) B dX6_either3_40 (by decide) ?_
        refine g_istore_n B dX6_either3_44 (by decide) rfl ?_
        refine g_goto (tgt := 5) B dX6_either3_45 (by decide) ?_
        refine g_drop 2 ?_
        first
          | exact lB_either3 B hB8 (hK1 f rfl _ _ hB8)
          | (have hv : ∀ z : Int32, z = jn (-11) (evc (eM τ0) cs) (evc (eM τ0) cs2) → z = evc (eM τ0) (cs ++ cs2 ++ [-11]) := fun z h => h.trans (evc_bin hw hw2 (by decide)).symm
             first
             | rw [hv 1 (jn_or_l c32)]
             | rw [hv 0 (jn_or_0 c32 c36)]
             | rw [hv 1 (jn_or_r c36)]
             obtain ⟨k', rfl⟩ : ∃ k', k = k' + 1 := ⟨k - 1, by omega⟩
             exact ih k' (by omega) (cs ++ cs2 ++ [-11]) a2 τ8 (by omega) (hw.bin hw2 (by decide)) hM8 hK1 hK2)
      · refine g_iload_n B dX6_either3_35 rfl ?_
        refine g_if_eq (tgt := 43) B dX6_either3_36 (by decide) (fun c36 => ?_) (fun c36 => ?_)
        · refine g_iconst (v := (0)) B dX6_either3_43 (by decide) ?_
          refine g_istore_n B dX6_either3_44 (by decide) rfl ?_
          refine g_goto (tgt := 5) B dX6_either3_45 (by decide) ?_
          refine g_drop 2 ?_
          first
            | exact lB_either3 B hB8 (hK1 f rfl _ _ hB8)
            | (have hv : ∀ z : Int32, z = jn (-11) (evc (eM τ0) cs) (evc (eM τ0) cs2) → z = evc (eM τ0) (cs ++ cs2 ++ [-11]) := fun z h => h.trans (evc_bin hw hw2 (by decide)).symm
               first
               | rw [hv 1 (jn_or_l c32)]
               | rw [hv 0 (jn_or_0 c32 c36)]
               | rw [hv 1 (jn_or_r c36)]
               obtain ⟨k', rfl⟩ : ∃ k', k = k' + 1 := ⟨k - 1, by omega⟩
               exact ih k' (by omega) (cs ++ cs2 ++ [-11]) a2 τ8 (by omega) (hw.bin hw2 (by decide)) hM8 hK1 hK2)
        · refine g_iconst (v := (1)) B dX6_either3_39 (by decide) ?_
          refine g_goto (tgt := 44) B dX6_either3_40 (by decide) ?_
          refine g_istore_n B dX6_either3_44 (by decide) rfl ?_
          refine g_goto (tgt := 5) B dX6_either3_45 (by decide) ?_
          refine g_drop 2 ?_
          first
            | exact lB_either3 B hB8 (hK1 f rfl _ _ hB8)
            | (have hv : ∀ z : Int32, z = jn (-11) (evc (eM τ0) cs) (evc (eM τ0) cs2) → z = evc (eM τ0) (cs ++ cs2 ++ [-11]) := fun z h => h.trans (evc_bin hw hw2 (by decide)).symm
               first
               | rw [hv 1 (jn_or_l c32)]
               | rw [hv 0 (jn_or_0 c32 c36)]
               | rw [hv 1 (jn_or_r c36)]
               obtain ⟨k', rfl⟩ : ∃ k', k = k' + 1 := ⟨k - 1, by omega⟩
               exact ih k' (by omega) (cs ++ cs2 ++ [-11]) a2 τ8 (by omega) (hw.bin hw2 (by decide)) hM8 hK1 hK2)
set_option maxRecDepth 100000 in
set_option maxHeartbeats 4000000 in
theorem c_either3 {Z : LZ} {ad : Nat → Nat} {τ0 τ : St} {K : Int32 → St → Prop} {t n a : Nat} (hR : RB τ0 t n) (hM : MS τ0 t n 3 a τ) (hK1 : ∀ f, pEith (tT τ0 t n) (tV τ0 t n) (pLev (tT τ0 t n) (tV τ0 t n) 2) a = .inl f → ∀ v τ', MB τ0 t n f τ' → K v τ') (hK2 : ∀ cs a2, pEith (tT τ0 t n) (tV τ0 t n) (pLev (tT τ0 t n) (tV τ0 t n) 2) a = .inr (cs, a2) → ∀ τ', MS τ0 t n 3 a2 τ' → K (evc (eM τ0) cs) τ') : CC lyM Z ad yX6_either3 wsX6_either3 (rmk 21) [.ref (ad 0)] τ (rI K) := by
  refine CC.of (cc := cX6_either3) (nL := 3) (ret := (some .int)) rfl rfl ⟨rfl, rfl⟩ (by exact Nat.le_of_ble_eq_true rfl) ?_
  intro X B
  change GG _ _ _ _ X _ 0 [some (.ref (ad 0)), none, none] [] _
  change Amb _ _ _ _ X _ _ RX6 _ _ at B
  unfold pEith pSeq at hK1 hK2
  refine g_aload_n B dX6_either3_0 rfl ?_
  refine g_callVi (C := RX6) (As := []) B dX6_either3_1 (gc1 g_X6_265) (by rfl) ⟨rfl, hd_X6_both3⟩ (by exact ⟨Nat.le_of_ble_eq_true rfl, Nat.le_of_ble_eq_true rfl⟩) ⟨rfl, rfl⟩ rfl rfl (by exact Nat.le_of_ble_eq_true rfl) recvM (c_both3 hR hM (fun f hf v8 τ8 hB8 => ?_) (fun cs a1 hf τ8 hM8 => ?_))
  · rw [hf] at hK1; dsimp only at hK1
    refine g_istore_n B dX6_either3_4 (by decide) rfl ?_
    first
      | exact lB_either3 B hB8 (hK1 f rfl _ _ hB8)
      | exact l_either3 B hR 199 cs a1 τ8 (by omega) (pBoth_ok (tT_TV hR) (pLev_ok (tT_TV hR) _) _ _ _ hf).1 hM8 hK1 hK2
  · rw [hf] at hK1 hK2; dsimp only at hK1 hK2
    refine g_istore_n B dX6_either3_4 (by decide) rfl ?_
    first
      | exact lB_either3 B hB8 (hK1 f rfl _ _ hB8)
      | exact l_either3 B hR 199 cs a1 τ8 (by omega) (pBoth_ok (tT_TV hR) (pLev_ok (tT_TV hR) _) _ _ _ hf).1 hM8 hK1 hK2
set_option maxRecDepth 100000 in
set_option maxHeartbeats 4000000 in
theorem c_atom2 {Z : LZ} {ad : Nat → Nat} {τ0 τ : St} {K : Int32 → St → Prop} {t n a : Nat} (hR : RB τ0 t n) (hM : MS τ0 t n 2 a τ) (hK1 : ∀ f, pAtom (tT τ0 t n) (tV τ0 t n) (pLev (tT τ0 t n) (tV τ0 t n) 3) a = .inl f → ∀ v τ', MB τ0 t n f τ' → K v τ') (hK2 : ∀ cs a2, pAtom (tT τ0 t n) (tV τ0 t n) (pLev (tT τ0 t n) (tV τ0 t n) 3) a = .inr (cs, a2) → ∀ τ', MS τ0 t n 2 a2 τ' → K (evc (eM τ0) cs) τ') : CC lyM Z ad yX6_atom2 wsX6_atom2 (rmk 22) [.ref (ad 0)] τ (rI K) := by
  refine CC.of (cc := cX6_atom2) (nL := 2) (ret := (some .int)) rfl rfl ⟨rfl, rfl⟩ (by exact Nat.le_of_ble_eq_true rfl) ?_
  intro X B
  change GG _ _ _ _ X _ 0 [some (.ref (ad 0)), none] [] _
  change Amb _ _ _ _ X _ _ RX6 _ _ at B
  have hg : ∀ v τ', MB τ0 t n a τ' → ¬ (tT τ0 t n a = 2 ∨ tT τ0 t n a = 3) → tT τ0 t n a ≠ 45 → tT τ0 t n a ≠ 40 → K v τ' := fun v τ' hB h h2 h3 => hK1 a (by
    unfold pAtom
    rw [if_neg h, if_neg h2, if_neg h3]) v τ' hB
  have h45 : isS 45 := by decide
  have h40 : isS 40 := by decide
  refine g_iconst (v := (0)) B dX6_atom2_0 (by decide) ?_
  refine g_istore_n B dX6_atom2_1 (by decide) rfl ?_
  refine g_aload_n B dX6_atom2_2 rfl ?_
  refine g_bipush (v := (45)) B dX6_atom2_3 (by decide) ?_
  refine g_callVi (C := RX6) (As := [.int _]) B dX6_atom2_5 (gc1 g_X6_202) (by rfl) ⟨rfl, hd_X6_isSign⟩ (by exact ⟨Nat.le_of_ble_eq_true rfl, Nat.le_of_ble_eq_true rfl⟩) ⟨rfl, rfl⟩ rfl rfl (by exact Nat.le_of_ble_eq_true rfl) recvM (c_sgn hM h45 ?_)
  refine g_if_eq (tgt := 37) B dX6_atom2_8 (by decide) (fun c8 => ?_) (fun c8 => ?_)
  · refine g_aload_n B dX6_atom2_37 rfl ?_
    refine g_bipush (v := (40)) B dX6_atom2_38 (by decide) ?_
    refine g_callVi (C := RX6) (As := [.int _]) B dX6_atom2_40 (gc1 g_X6_202) (by rfl) ⟨rfl, hd_X6_isSign⟩ (by exact ⟨Nat.le_of_ble_eq_true rfl, Nat.le_of_ble_eq_true rfl⟩) ⟨rfl, rfl⟩ rfl rfl (by exact Nat.le_of_ble_eq_true rfl) recvM (c_sgn hM h40 ?_)
    refine g_if_eq (tgt := 95) B dX6_atom2_43 (by decide) (fun c43 => ?_) (fun c43 => ?_)
    · refine g_aload_n B dX6_atom2_95 rfl ?_
      refine g_getI (T := TX6) (N := 42) B dX6_atom2_96 (by decide) (by rfl) (inq inlX6) rfl 25 (by decide) (mq f_X6_161) (by rfl) ?_
      refine g_if_ne (tgt := 123) B dX6_atom2_99 (by decide) (fun c99 => ?_) (fun c99 => ?_)
      · exact absurd hM.2.1 c99
      · refine g_aload_n B dX6_atom2_102 rfl ?_
        refine g_getI (T := TX6) (N := 42) B dX6_atom2_103 (by decide) (by rfl) (inq inlX6) rfl 21 (by decide) (mq f_X6_144) (by rfl) ?_
        refine g_iconst (v := (2)) B dX6_atom2_106 (by decide) ?_
        refine g_icmp_ne (tgt := 123) B dX6_atom2_107 (by decide) (fun c107 => ?_) (fun c107 => ?_)
        · refine g_aload_n B dX6_atom2_123 rfl ?_
          refine g_getI (T := TX6) (N := 42) B dX6_atom2_124 (by decide) (by rfl) (inq inlX6) rfl 25 (by decide) (mq f_X6_161) (by rfl) ?_
          refine g_if_ne (tgt := 157) B dX6_atom2_127 (by decide) (fun c127 => ?_) (fun c127 => ?_)
          · exact absurd hM.2.1 c127
          · refine g_aload_n B dX6_atom2_130 rfl ?_
            refine g_getI (T := TX6) (N := 42) B dX6_atom2_131 (by decide) (by rfl) (inq inlX6) rfl 21 (by decide) (mq f_X6_144) (by rfl) ?_
            refine g_iconst (v := (1)) B dX6_atom2_134 (by decide) ?_
            refine g_icmp_ne (tgt := 157) B dX6_atom2_135 (by decide) (fun c135 => ?_) (fun c135 => ?_)
            · refine g_aload_n B dX6_atom2_157 rfl ?_
              refine g_callVv (C := RX6) (As := []) B dX6_atom2_158 (gc1 g_X6_174) (by rfl) ⟨rfl, hd_X6_fail⟩ (by exact ⟨Nat.le_of_ble_eq_true rfl, Nat.le_of_ble_eq_true rfl⟩) ⟨rfl, rfl⟩ rfl rfl (by exact Nat.le_of_ble_eq_true rfl) recvM (c_fl hM (fun τ9 hB9 => ?_))
              refine g_iload_n B dX6_atom2_161 rfl ?_
              refine g_ireti B dX6_atom2_162 ?_
              first
                | exact absurd hM.2.1 c99
                | exact absurd hM.2.1 c127
                | exact hg _ _ hB9 (fun h => h.elim (fun h => c107 (hM.A.num.1.mpr h)) (fun h => c135 (hM.A.wrd.1.mpr (hM.A.wrd.2.2 h)))) (b1_0.mp c8) (b1_0.mp c43)
            · refine g_aload_n B dX6_atom2_138 rfl ?_
              refine g_callVi (C := RX6) (As := []) B dX6_atom2_139 (gc1 g_X6_209) (by rfl) ⟨rfl, hd_X6_name⟩ (by exact ⟨Nat.le_of_ble_eq_true rfl, Nat.le_of_ble_eq_true rfl⟩) ⟨rfl, rfl⟩ rfl rfl (by exact Nat.le_of_ble_eq_true rfl) recvM (c_nm hR hM c135 (fun h3 => ?_) (fun h3 τ9 hB9 => ?_))
              · refine g_istore_n B dX6_atom2_142 (by decide) rfl ?_
                refine g_aload_n B dX6_atom2_143 rfl ?_
                refine g_getI (T := TX6) (N := 42) B dX6_atom2_144 (by decide) (by rfl) (inq inlX6) rfl 25 (by decide) (mq f_X6_161) (by rfl) ?_
                refine g_if_ne (tgt := 161) B dX6_atom2_147 (by decide) (fun c147 => ?_) (fun c147 => ?_)
                · exact absurd hM.2.1 c147
                · refine g_aload_n B dX6_atom2_150 rfl ?_
                  refine g_callVv (C := RX6) (As := []) B dX6_atom2_151 (gc1 g_X6_177) (by rfl) ⟨rfl, hd_X6_next⟩ (by exact ⟨Nat.le_of_ble_eq_true rfl, Nat.le_of_ble_eq_true rfl⟩) ⟨rfl, rfl⟩ rfl rfl (by exact Nat.le_of_ble_eq_true rfl) recvM (c_nx hR hM (in_or3 _ (Or.inr h3)) (fun τ9 hM9 => ?_))
                  refine g_goto (tgt := 161) B dX6_atom2_154 (by decide) ?_
                  refine g_iload_n B dX6_atom2_161 rfl ?_
                  refine g_ireti B dX6_atom2_162 ?_
                  refine kk ?_ (hK2 [tV τ0 t n a] (a + 1) (by unfold pAtom; rw [if_pos (Or.inr h3)]) τ9 hM9)
                  rw [evc_one (tT_TV hR a (Or.inr h3))]
              · refine g_istore_n B dX6_atom2_142 (by decide) rfl ?_
                refine g_aload_n B dX6_atom2_143 rfl ?_
                refine g_getI (T := TX6) (N := 42) B dX6_atom2_144 (by decide) (by rfl) (inq inlX6) rfl 25 (by decide) (mq f_X6_161) (by rfl) ?_
                refine g_if_ne (tgt := 161) B dX6_atom2_147 (by decide) (fun c147 => ?_) (fun c147 => ?_)
                · refine g_iload_n B dX6_atom2_161 rfl ?_
                  refine g_ireti B dX6_atom2_162 ?_
                  first
                    | exact absurd c15 (by decide)
                    | exact absurd c50 (by decide)
                    | exact absurd hB9.2.1 (fun h => absurd (c147.symm.trans h) (by decide))
                    | exact absurd hM.2.1 c147
                    | (refine hK1 f ?_ _ _ hB8.close
                       unfold pAtom
                       rw [if_neg (fun h => by rw [b1_n0.mp c43] at h; exact absurd h (by decide)), if_neg (b1_0.mp c8), if_pos (b1_n0.mp c43)]
                       show (match pEith (tT τ0 t n) (tV τ0 t n) (pLev (tT τ0 t n) (tV τ0 t n) 2) (a + 1) with | .inl f => _ | .inr (cs, a2) => _) = _
                       rw [hf])
                    | (refine hK1 a2 ?_ _ _ hB6.close
                       unfold pAtom
                       rw [if_neg (fun h => by rw [b1_n0.mp c43] at h; exact absurd h (by decide)), if_neg (b1_0.mp c8), if_pos (b1_n0.mp c43)]
                       show (match pEith (tT τ0 t n) (tV τ0 t n) (pLev (tT τ0 t n) (tV τ0 t n) 2) (a + 1) with | .inl f => _ | .inr (cs, a2) => _) = _
                       rw [hf]
                       show (if tT τ0 t n a2 = 41 then _ else _) = _
                       rw [if_neg (b1_0.mp c64)])
                    | exact absurd (MS.close (by decide) hM8).2.1 c85
                    | exact hg _ _ hB9 (fun h => h.elim (fun h => c107 (hM.A.num.1.mpr h)) (fun h => h3 h)) (b1_0.mp c8) (b1_0.mp c43)
                · exact absurd (c147.symm.trans hB9.2.1) (by decide)
        · refine g_aload_n B dX6_atom2_110 rfl ?_
          refine g_getL (T := TX6) (N := 42) B dX6_atom2_111 (by decide) (by rfl) (inq inlX6) rfl 23 (by decide) (mq f_X6_155) (by rfl) ?_
          refine g_l2i B dX6_atom2_114 rfl ?_
          refine g_istore_n B dX6_atom2_115 (by decide) rfl ?_
          refine g_aload_n B dX6_atom2_116 rfl ?_
          refine g_callVv (C := RX6) (As := []) B dX6_atom2_117 (gc1 g_X6_177) (by rfl) ⟨rfl, hd_X6_next⟩ (by exact ⟨Nat.le_of_ble_eq_true rfl, Nat.le_of_ble_eq_true rfl⟩) ⟨rfl, rfl⟩ rfl rfl (by exact Nat.le_of_ble_eq_true rfl) recvM (c_nx hR hM (in_or3 _ (Or.inl (hM.A.num.1.mp c107))) (fun τ9 hM9 => ?_))
          refine g_goto (tgt := 161) B dX6_atom2_120 (by decide) ?_
          refine g_iload_n B dX6_atom2_161 rfl ?_
          refine g_ireti B dX6_atom2_162 ?_
          refine kk ?_ (hK2 [tV τ0 t n a] (a + 1) (by unfold pAtom; rw [if_pos (Or.inl (hM.A.num.1.mp c107))]) τ9 hM9)
          rw [evc_one (tT_TV hR a (Or.inl (hM.A.num.1.mp c107))), opd_num (tV_num hR (hM.A.num.1.mp c107)).1]
          exact hM.A.num.2 c107
    · refine g_aload_n B dX6_atom2_46 rfl ?_
      refine g_callVi (C := RX6) (As := []) B dX6_atom2_47 (gc1 g_X6_205) (by rfl) ⟨rfl, hd_X6_opens⟩ (by exact ⟨Nat.le_of_ble_eq_true rfl, Nat.le_of_ble_eq_true rfl⟩) ⟨rfl, rfl⟩ rfl rfl (by exact Nat.le_of_ble_eq_true rfl) recvM (c_opn hR hM (by decide) (isS_0 (by rw [b1_n0.mp c43]; decide)) (fun τ7 hM7 => ?_))
      refine g_if_eq (tgt := 161) B dX6_atom2_50 (by decide) (fun c50 => ?_) (fun c50 => ?_)
      · exact absurd c50 (by decide)
      · refine g_aload_n B dX6_atom2_53 rfl ?_
        refine g_callVi (C := RX6) (As := []) B dX6_atom2_54 (gc1 g_X6_268) (by rfl) ⟨rfl, hd_X6_either3⟩ (by exact ⟨Nat.le_of_ble_eq_true rfl, Nat.le_of_ble_eq_true rfl⟩) ⟨rfl, rfl⟩ rfl rfl (by exact Nat.le_of_ble_eq_true rfl) recvM (c_either3 hR hM7 (fun f hf v8 τ8 hB8 => ?_) (fun cs a2 hf τ8 hM8 => ?_))
        · refine g_istore_n B dX6_atom2_57 (by decide) rfl ?_
          refine g_aload_n B dX6_atom2_58 rfl ?_
          refine g_bipush (v := (41)) B dX6_atom2_59 (by decide) ?_
          first
            | refine g_callVi (C := RX6) (As := [.int _]) B dX6_atom2_61 (gc1 g_X6_202) (by rfl) ⟨rfl, hd_X6_isSign⟩ (by exact ⟨Nat.le_of_ble_eq_true rfl, Nat.le_of_ble_eq_true rfl⟩) ⟨rfl, rfl⟩ rfl rfl (by exact Nat.le_of_ble_eq_true rfl) recvM (c_sgnB hB8 ?_)
            | refine g_callVi (C := RX6) (As := [.int _]) B dX6_atom2_61 (gc1 g_X6_202) (by rfl) ⟨rfl, hd_X6_isSign⟩ (by exact ⟨Nat.le_of_ble_eq_true rfl, Nat.le_of_ble_eq_true rfl⟩) ⟨rfl, rfl⟩ rfl rfl (by exact Nat.le_of_ble_eq_true rfl) recvM (c_sgn hM8 (show isS 41 by decide) ?_)
          refine g_if_ne (tgt := 71) B dX6_atom2_64 (by decide) (fun c64 => ?_) (fun c64 => ?_)
          · refine g_aload_n B dX6_atom2_71 rfl ?_
            refine g_dup B dX6_atom2_72 rfl ?_
            refine g_getI (T := TX6) (N := 42) B dX6_atom2_73 (by decide) (by rfl) (inq inlX6) rfl 24 (by decide) (mq f_X6_171) (by rfl) ?_
            refine g_iconst (v := (1)) B dX6_atom2_76 (by decide) ?_
            refine g_isub B dX6_atom2_77 ?_
            refine g_putI (T := TX6) (N := 42) B dX6_atom2_78 (by decide) (by rfl) (inq inlX6) rfl 24 (by decide) (mq f_X6_171) tyX6_ok nmX6 rfl ⟨rfl, rfl⟩ (by rfl) ?_
            refine g_aload_n B dX6_atom2_81 rfl ?_
            refine g_getI (T := TX6) (N := 42) B dX6_atom2_82 (by decide) (by rfl) (inq inlX6) rfl 25 (by decide) (mq f_X6_161) (by rfl) ?_
            refine g_if_ne (tgt := 161) B dX6_atom2_85 (by decide) (fun c85 => ?_) (fun c85 => ?_)
            · refine g_iload_n B dX6_atom2_161 rfl ?_
              refine g_ireti B dX6_atom2_162 ?_
              first
                | exact absurd c15 (by decide)
                | exact absurd c50 (by decide)
                | exact absurd hB9.2.1 (fun h => absurd (c147.symm.trans h) (by decide))
                | exact absurd hM.2.1 c147
                | (refine hK1 f ?_ _ _ hB8.close
                   unfold pAtom
                   rw [if_neg (fun h => by rw [b1_n0.mp c43] at h; exact absurd h (by decide)), if_neg (b1_0.mp c8), if_pos (b1_n0.mp c43)]
                   show (match pEith (tT τ0 t n) (tV τ0 t n) (pLev (tT τ0 t n) (tV τ0 t n) 2) (a + 1) with | .inl f => _ | .inr (cs, a2) => _) = _
                   rw [hf])
                | (refine hK1 a2 ?_ _ _ hB6.close
                   unfold pAtom
                   rw [if_neg (fun h => by rw [b1_n0.mp c43] at h; exact absurd h (by decide)), if_neg (b1_0.mp c8), if_pos (b1_n0.mp c43)]
                   show (match pEith (tT τ0 t n) (tV τ0 t n) (pLev (tT τ0 t n) (tV τ0 t n) 2) (a + 1) with | .inl f => _ | .inr (cs, a2) => _) = _
                   rw [hf]
                   show (if tT τ0 t n a2 = 41 then _ else _) = _
                   rw [if_neg (b1_0.mp c64)])
                | exact absurd (MS.close (by decide) hM8).2.1 c85
                | exact hg _ _ hB9 (fun h => h.elim (fun h => c107 (hM.A.num.1.mpr h)) (fun h => h3 h)) (b1_0.mp c8) (b1_0.mp c43)
            · first
                | exact absurd (c85.symm.trans hB8.close.2.1) (by decide)
                | exact absurd (c85.symm.trans hB6.close.2.1) (by decide)
                | (refine g_aload_n B dX6_atom2_88 rfl ?_
                   refine g_callVv (C := RX6) (As := []) B dX6_atom2_89 (gc1 g_X6_177) (by rfl) ⟨rfl, hd_X6_next⟩ (by exact ⟨Nat.le_of_ble_eq_true rfl, Nat.le_of_ble_eq_true rfl⟩) ⟨rfl, rfl⟩ rfl rfl (by exact Nat.le_of_ble_eq_true rfl) recvM (c_nx hR (MS.close (by decide) hM8) (isS_0 (by rw [b1_n0.mp c64]; decide)) (fun τ9 hM9 => ?_))
                   refine g_goto (tgt := 161) B dX6_atom2_92 (by decide) ?_
                   refine g_iload_n B dX6_atom2_161 rfl ?_
                   refine g_ireti B dX6_atom2_162 ?_
                   refine hK2 cs (a2 + 1) ?_ _ hM9
                   unfold pAtom
                   rw [if_neg (fun h => by rw [b1_n0.mp c43] at h; exact absurd h (by decide)), if_neg (b1_0.mp c8), if_pos (b1_n0.mp c43)]
                   show (match pEith (tT τ0 t n) (tV τ0 t n) (pLev (tT τ0 t n) (tV τ0 t n) 2) (a + 1) with | .inl f => _ | .inr (cs, a2) => _) = _
                   rw [hf]
                   show (if tT τ0 t n a2 = 41 then _ else _) = _
                   rw [if_pos (b1_n0.mp c64)])
          · refine g_aload_n B dX6_atom2_67 rfl ?_
            first
              | refine g_callVv (C := RX6) (As := []) B dX6_atom2_68 (gc1 g_X6_174) (by rfl) ⟨rfl, hd_X6_fail⟩ (by exact ⟨Nat.le_of_ble_eq_true rfl, Nat.le_of_ble_eq_true rfl⟩) ⟨rfl, rfl⟩ rfl rfl (by exact Nat.le_of_ble_eq_true rfl) recvM (c_flB hB8 ?_)
              | refine g_callVv (C := RX6) (As := []) B dX6_atom2_68 (gc1 g_X6_174) (by rfl) ⟨rfl, hd_X6_fail⟩ (by exact ⟨Nat.le_of_ble_eq_true rfl, Nat.le_of_ble_eq_true rfl⟩) ⟨rfl, rfl⟩ rfl rfl (by exact Nat.le_of_ble_eq_true rfl) recvM (c_fl hM8 (fun τ6 hB6 => ?_))
            refine g_aload_n B dX6_atom2_71 rfl ?_
            refine g_dup B dX6_atom2_72 rfl ?_
            refine g_getI (T := TX6) (N := 42) B dX6_atom2_73 (by decide) (by rfl) (inq inlX6) rfl 24 (by decide) (mq f_X6_171) (by rfl) ?_
            refine g_iconst (v := (1)) B dX6_atom2_76 (by decide) ?_
            refine g_isub B dX6_atom2_77 ?_
            refine g_putI (T := TX6) (N := 42) B dX6_atom2_78 (by decide) (by rfl) (inq inlX6) rfl 24 (by decide) (mq f_X6_171) tyX6_ok nmX6 rfl ⟨rfl, rfl⟩ (by rfl) ?_
            refine g_aload_n B dX6_atom2_81 rfl ?_
            refine g_getI (T := TX6) (N := 42) B dX6_atom2_82 (by decide) (by rfl) (inq inlX6) rfl 25 (by decide) (mq f_X6_161) (by rfl) ?_
            refine g_if_ne (tgt := 161) B dX6_atom2_85 (by decide) (fun c85 => ?_) (fun c85 => ?_)
            · refine g_iload_n B dX6_atom2_161 rfl ?_
              refine g_ireti B dX6_atom2_162 ?_
              first
                | exact absurd c15 (by decide)
                | exact absurd c50 (by decide)
                | exact absurd hB9.2.1 (fun h => absurd (c147.symm.trans h) (by decide))
                | exact absurd hM.2.1 c147
                | (refine hK1 f ?_ _ _ hB8.close
                   unfold pAtom
                   rw [if_neg (fun h => by rw [b1_n0.mp c43] at h; exact absurd h (by decide)), if_neg (b1_0.mp c8), if_pos (b1_n0.mp c43)]
                   show (match pEith (tT τ0 t n) (tV τ0 t n) (pLev (tT τ0 t n) (tV τ0 t n) 2) (a + 1) with | .inl f => _ | .inr (cs, a2) => _) = _
                   rw [hf])
                | (refine hK1 a2 ?_ _ _ hB6.close
                   unfold pAtom
                   rw [if_neg (fun h => by rw [b1_n0.mp c43] at h; exact absurd h (by decide)), if_neg (b1_0.mp c8), if_pos (b1_n0.mp c43)]
                   show (match pEith (tT τ0 t n) (tV τ0 t n) (pLev (tT τ0 t n) (tV τ0 t n) 2) (a + 1) with | .inl f => _ | .inr (cs, a2) => _) = _
                   rw [hf]
                   show (if tT τ0 t n a2 = 41 then _ else _) = _
                   rw [if_neg (b1_0.mp c64)])
                | exact absurd (MS.close (by decide) hM8).2.1 c85
                | exact hg _ _ hB9 (fun h => h.elim (fun h => c107 (hM.A.num.1.mpr h)) (fun h => h3 h)) (b1_0.mp c8) (b1_0.mp c43)
            · first
                | exact absurd (c85.symm.trans hB8.close.2.1) (by decide)
                | exact absurd (c85.symm.trans hB6.close.2.1) (by decide)
                | (refine g_aload_n B dX6_atom2_88 rfl ?_
                   refine g_callVv (C := RX6) (As := []) B dX6_atom2_89 (gc1 g_X6_177) (by rfl) ⟨rfl, hd_X6_next⟩ (by exact ⟨Nat.le_of_ble_eq_true rfl, Nat.le_of_ble_eq_true rfl⟩) ⟨rfl, rfl⟩ rfl rfl (by exact Nat.le_of_ble_eq_true rfl) recvM (c_nx hR (MS.close (by decide) hM8) (isS_0 (by rw [b1_n0.mp c64]; decide)) (fun τ9 hM9 => ?_))
                   refine g_goto (tgt := 161) B dX6_atom2_92 (by decide) ?_
                   refine g_iload_n B dX6_atom2_161 rfl ?_
                   refine g_ireti B dX6_atom2_162 ?_
                   refine hK2 cs (a2 + 1) ?_ _ hM9
                   unfold pAtom
                   rw [if_neg (fun h => by rw [b1_n0.mp c43] at h; exact absurd h (by decide)), if_neg (b1_0.mp c8), if_pos (b1_n0.mp c43)]
                   show (match pEith (tT τ0 t n) (tV τ0 t n) (pLev (tT τ0 t n) (tV τ0 t n) 2) (a + 1) with | .inl f => _ | .inr (cs, a2) => _) = _
                   rw [hf]
                   show (if tT τ0 t n a2 = 41 then _ else _) = _
                   rw [if_pos (b1_n0.mp c64)])
        · refine g_istore_n B dX6_atom2_57 (by decide) rfl ?_
          refine g_aload_n B dX6_atom2_58 rfl ?_
          refine g_bipush (v := (41)) B dX6_atom2_59 (by decide) ?_
          first
            | refine g_callVi (C := RX6) (As := [.int _]) B dX6_atom2_61 (gc1 g_X6_202) (by rfl) ⟨rfl, hd_X6_isSign⟩ (by exact ⟨Nat.le_of_ble_eq_true rfl, Nat.le_of_ble_eq_true rfl⟩) ⟨rfl, rfl⟩ rfl rfl (by exact Nat.le_of_ble_eq_true rfl) recvM (c_sgnB hB8 ?_)
            | refine g_callVi (C := RX6) (As := [.int _]) B dX6_atom2_61 (gc1 g_X6_202) (by rfl) ⟨rfl, hd_X6_isSign⟩ (by exact ⟨Nat.le_of_ble_eq_true rfl, Nat.le_of_ble_eq_true rfl⟩) ⟨rfl, rfl⟩ rfl rfl (by exact Nat.le_of_ble_eq_true rfl) recvM (c_sgn hM8 (show isS 41 by decide) ?_)
          refine g_if_ne (tgt := 71) B dX6_atom2_64 (by decide) (fun c64 => ?_) (fun c64 => ?_)
          · refine g_aload_n B dX6_atom2_71 rfl ?_
            refine g_dup B dX6_atom2_72 rfl ?_
            refine g_getI (T := TX6) (N := 42) B dX6_atom2_73 (by decide) (by rfl) (inq inlX6) rfl 24 (by decide) (mq f_X6_171) (by rfl) ?_
            refine g_iconst (v := (1)) B dX6_atom2_76 (by decide) ?_
            refine g_isub B dX6_atom2_77 ?_
            refine g_putI (T := TX6) (N := 42) B dX6_atom2_78 (by decide) (by rfl) (inq inlX6) rfl 24 (by decide) (mq f_X6_171) tyX6_ok nmX6 rfl ⟨rfl, rfl⟩ (by rfl) ?_
            refine g_aload_n B dX6_atom2_81 rfl ?_
            refine g_getI (T := TX6) (N := 42) B dX6_atom2_82 (by decide) (by rfl) (inq inlX6) rfl 25 (by decide) (mq f_X6_161) (by rfl) ?_
            refine g_if_ne (tgt := 161) B dX6_atom2_85 (by decide) (fun c85 => ?_) (fun c85 => ?_)
            · refine g_iload_n B dX6_atom2_161 rfl ?_
              refine g_ireti B dX6_atom2_162 ?_
              first
                | exact absurd c15 (by decide)
                | exact absurd c50 (by decide)
                | exact absurd hB9.2.1 (fun h => absurd (c147.symm.trans h) (by decide))
                | exact absurd hM.2.1 c147
                | (refine hK1 f ?_ _ _ hB8.close
                   unfold pAtom
                   rw [if_neg (fun h => by rw [b1_n0.mp c43] at h; exact absurd h (by decide)), if_neg (b1_0.mp c8), if_pos (b1_n0.mp c43)]
                   show (match pEith (tT τ0 t n) (tV τ0 t n) (pLev (tT τ0 t n) (tV τ0 t n) 2) (a + 1) with | .inl f => _ | .inr (cs, a2) => _) = _
                   rw [hf])
                | (refine hK1 a2 ?_ _ _ hB6.close
                   unfold pAtom
                   rw [if_neg (fun h => by rw [b1_n0.mp c43] at h; exact absurd h (by decide)), if_neg (b1_0.mp c8), if_pos (b1_n0.mp c43)]
                   show (match pEith (tT τ0 t n) (tV τ0 t n) (pLev (tT τ0 t n) (tV τ0 t n) 2) (a + 1) with | .inl f => _ | .inr (cs, a2) => _) = _
                   rw [hf]
                   show (if tT τ0 t n a2 = 41 then _ else _) = _
                   rw [if_neg (b1_0.mp c64)])
                | exact absurd (MS.close (by decide) hM8).2.1 c85
                | exact hg _ _ hB9 (fun h => h.elim (fun h => c107 (hM.A.num.1.mpr h)) (fun h => h3 h)) (b1_0.mp c8) (b1_0.mp c43)
            · first
                | exact absurd (c85.symm.trans hB8.close.2.1) (by decide)
                | exact absurd (c85.symm.trans hB6.close.2.1) (by decide)
                | (refine g_aload_n B dX6_atom2_88 rfl ?_
                   refine g_callVv (C := RX6) (As := []) B dX6_atom2_89 (gc1 g_X6_177) (by rfl) ⟨rfl, hd_X6_next⟩ (by exact ⟨Nat.le_of_ble_eq_true rfl, Nat.le_of_ble_eq_true rfl⟩) ⟨rfl, rfl⟩ rfl rfl (by exact Nat.le_of_ble_eq_true rfl) recvM (c_nx hR (MS.close (by decide) hM8) (isS_0 (by rw [b1_n0.mp c64]; decide)) (fun τ9 hM9 => ?_))
                   refine g_goto (tgt := 161) B dX6_atom2_92 (by decide) ?_
                   refine g_iload_n B dX6_atom2_161 rfl ?_
                   refine g_ireti B dX6_atom2_162 ?_
                   refine hK2 cs (a2 + 1) ?_ _ hM9
                   unfold pAtom
                   rw [if_neg (fun h => by rw [b1_n0.mp c43] at h; exact absurd h (by decide)), if_neg (b1_0.mp c8), if_pos (b1_n0.mp c43)]
                   show (match pEith (tT τ0 t n) (tV τ0 t n) (pLev (tT τ0 t n) (tV τ0 t n) 2) (a + 1) with | .inl f => _ | .inr (cs, a2) => _) = _
                   rw [hf]
                   show (if tT τ0 t n a2 = 41 then _ else _) = _
                   rw [if_pos (b1_n0.mp c64)])
          · refine g_aload_n B dX6_atom2_67 rfl ?_
            first
              | refine g_callVv (C := RX6) (As := []) B dX6_atom2_68 (gc1 g_X6_174) (by rfl) ⟨rfl, hd_X6_fail⟩ (by exact ⟨Nat.le_of_ble_eq_true rfl, Nat.le_of_ble_eq_true rfl⟩) ⟨rfl, rfl⟩ rfl rfl (by exact Nat.le_of_ble_eq_true rfl) recvM (c_flB hB8 ?_)
              | refine g_callVv (C := RX6) (As := []) B dX6_atom2_68 (gc1 g_X6_174) (by rfl) ⟨rfl, hd_X6_fail⟩ (by exact ⟨Nat.le_of_ble_eq_true rfl, Nat.le_of_ble_eq_true rfl⟩) ⟨rfl, rfl⟩ rfl rfl (by exact Nat.le_of_ble_eq_true rfl) recvM (c_fl hM8 (fun τ6 hB6 => ?_))
            refine g_aload_n B dX6_atom2_71 rfl ?_
            refine g_dup B dX6_atom2_72 rfl ?_
            refine g_getI (T := TX6) (N := 42) B dX6_atom2_73 (by decide) (by rfl) (inq inlX6) rfl 24 (by decide) (mq f_X6_171) (by rfl) ?_
            refine g_iconst (v := (1)) B dX6_atom2_76 (by decide) ?_
            refine g_isub B dX6_atom2_77 ?_
            refine g_putI (T := TX6) (N := 42) B dX6_atom2_78 (by decide) (by rfl) (inq inlX6) rfl 24 (by decide) (mq f_X6_171) tyX6_ok nmX6 rfl ⟨rfl, rfl⟩ (by rfl) ?_
            refine g_aload_n B dX6_atom2_81 rfl ?_
            refine g_getI (T := TX6) (N := 42) B dX6_atom2_82 (by decide) (by rfl) (inq inlX6) rfl 25 (by decide) (mq f_X6_161) (by rfl) ?_
            refine g_if_ne (tgt := 161) B dX6_atom2_85 (by decide) (fun c85 => ?_) (fun c85 => ?_)
            · refine g_iload_n B dX6_atom2_161 rfl ?_
              refine g_ireti B dX6_atom2_162 ?_
              first
                | exact absurd c15 (by decide)
                | exact absurd c50 (by decide)
                | exact absurd hB9.2.1 (fun h => absurd (c147.symm.trans h) (by decide))
                | exact absurd hM.2.1 c147
                | (refine hK1 f ?_ _ _ hB8.close
                   unfold pAtom
                   rw [if_neg (fun h => by rw [b1_n0.mp c43] at h; exact absurd h (by decide)), if_neg (b1_0.mp c8), if_pos (b1_n0.mp c43)]
                   show (match pEith (tT τ0 t n) (tV τ0 t n) (pLev (tT τ0 t n) (tV τ0 t n) 2) (a + 1) with | .inl f => _ | .inr (cs, a2) => _) = _
                   rw [hf])
                | (refine hK1 a2 ?_ _ _ hB6.close
                   unfold pAtom
                   rw [if_neg (fun h => by rw [b1_n0.mp c43] at h; exact absurd h (by decide)), if_neg (b1_0.mp c8), if_pos (b1_n0.mp c43)]
                   show (match pEith (tT τ0 t n) (tV τ0 t n) (pLev (tT τ0 t n) (tV τ0 t n) 2) (a + 1) with | .inl f => _ | .inr (cs, a2) => _) = _
                   rw [hf]
                   show (if tT τ0 t n a2 = 41 then _ else _) = _
                   rw [if_neg (b1_0.mp c64)])
                | exact absurd (MS.close (by decide) hM8).2.1 c85
                | exact hg _ _ hB9 (fun h => h.elim (fun h => c107 (hM.A.num.1.mpr h)) (fun h => h3 h)) (b1_0.mp c8) (b1_0.mp c43)
            · first
                | exact absurd (c85.symm.trans hB8.close.2.1) (by decide)
                | exact absurd (c85.symm.trans hB6.close.2.1) (by decide)
                | (refine g_aload_n B dX6_atom2_88 rfl ?_
                   refine g_callVv (C := RX6) (As := []) B dX6_atom2_89 (gc1 g_X6_177) (by rfl) ⟨rfl, hd_X6_next⟩ (by exact ⟨Nat.le_of_ble_eq_true rfl, Nat.le_of_ble_eq_true rfl⟩) ⟨rfl, rfl⟩ rfl rfl (by exact Nat.le_of_ble_eq_true rfl) recvM (c_nx hR (MS.close (by decide) hM8) (isS_0 (by rw [b1_n0.mp c64]; decide)) (fun τ9 hM9 => ?_))
                   refine g_goto (tgt := 161) B dX6_atom2_92 (by decide) ?_
                   refine g_iload_n B dX6_atom2_161 rfl ?_
                   refine g_ireti B dX6_atom2_162 ?_
                   refine hK2 cs (a2 + 1) ?_ _ hM9
                   unfold pAtom
                   rw [if_neg (fun h => by rw [b1_n0.mp c43] at h; exact absurd h (by decide)), if_neg (b1_0.mp c8), if_pos (b1_n0.mp c43)]
                   show (match pEith (tT τ0 t n) (tV τ0 t n) (pLev (tT τ0 t n) (tV τ0 t n) 2) (a + 1) with | .inl f => _ | .inr (cs, a2) => _) = _
                   rw [hf]
                   show (if tT τ0 t n a2 = 41 then _ else _) = _
                   rw [if_pos (b1_n0.mp c64)])
  · refine g_aload_n B dX6_atom2_11 rfl ?_
    refine g_callVi (C := RX6) (As := []) B dX6_atom2_12 (gc1 g_X6_205) (by rfl) ⟨rfl, hd_X6_opens⟩ (by exact ⟨Nat.le_of_ble_eq_true rfl, Nat.le_of_ble_eq_true rfl⟩) ⟨rfl, rfl⟩ rfl rfl (by exact Nat.le_of_ble_eq_true rfl) recvM (c_opn hR hM (by decide) (isS_0 (by rw [b1_n0.mp c8]; decide)) (fun τ7 hM7 => ?_))
    refine g_if_eq (tgt := 161) B dX6_atom2_15 (by decide) (fun c15 => ?_) (fun c15 => ?_)
    · exact absurd c15 (by decide)
    · refine g_aload_n B dX6_atom2_18 rfl ?_
      refine g_callVi (C := RX6) (As := []) B dX6_atom2_19 (gc1 g_X6_253) (by rfl) ⟨rfl, hd_X6_atom3⟩ (by exact ⟨Nat.le_of_ble_eq_true rfl, Nat.le_of_ble_eq_true rfl⟩) ⟨rfl, rfl⟩ rfl rfl (by exact Nat.le_of_ble_eq_true rfl) recvM (c_atom3 hR hM7 (fun f hf v8 τ8 hB8 => ?_) (fun cs a2 hf τ8 hM8 => ?_))
      · refine g_ineg B dX6_atom2_22 ?_
        refine g_istore_n B dX6_atom2_23 (by decide) rfl ?_
        refine g_aload_n B dX6_atom2_24 rfl ?_
        refine g_dup B dX6_atom2_25 rfl ?_
        refine g_getI (T := TX6) (N := 42) B dX6_atom2_26 (by decide) (by rfl) (inq inlX6) rfl 24 (by decide) (mq f_X6_171) (by rfl) ?_
        refine g_iconst (v := (1)) B dX6_atom2_29 (by decide) ?_
        refine g_isub B dX6_atom2_30 ?_
        refine g_putI (T := TX6) (N := 42) B dX6_atom2_31 (by decide) (by rfl) (inq inlX6) rfl 24 (by decide) (mq f_X6_171) tyX6_ok nmX6 rfl ⟨rfl, rfl⟩ (by rfl) ?_
        refine g_goto (tgt := 161) B dX6_atom2_34 (by decide) ?_
        refine g_iload_n B dX6_atom2_161 rfl ?_
        refine g_ireti B dX6_atom2_162 ?_
        first
          | (refine hK1 f ?_ _ _ hB8.close
             unfold pAtom
             rw [if_neg (fun h => by rw [b1_n0.mp c8] at h; exact absurd h (by decide)), if_pos (b1_n0.mp c8)]
             show (match pAtom (tT τ0 t n) (tV τ0 t n) (pLev (tT τ0 t n) (tV τ0 t n) 2) (a + 1) with | .inl f => _ | .inr (cs, a2) => _) = _
             rw [hf])
          | (refine kk ?_ (hK2 (cs ++ [-22]) a2 (by
               unfold pAtom
               rw [if_neg (fun h => by rw [b1_n0.mp c8] at h; exact absurd h (by decide)), if_pos (b1_n0.mp c8)]
               show (match pAtom (tT τ0 t n) (tV τ0 t n) (pLev (tT τ0 t n) (tV τ0 t n) 2) (a + 1) with | .inl f => _ | .inr (cs, a2) => _) = _
               rw [hf]) _ (MS.close (by decide) hM8))
             exact (evc_neg (pAtom_ok (tT_TV hR) (pLev_ok (tT_TV hR) _) _ _ _ hf).1).symm)
      · refine g_ineg B dX6_atom2_22 ?_
        refine g_istore_n B dX6_atom2_23 (by decide) rfl ?_
        refine g_aload_n B dX6_atom2_24 rfl ?_
        refine g_dup B dX6_atom2_25 rfl ?_
        refine g_getI (T := TX6) (N := 42) B dX6_atom2_26 (by decide) (by rfl) (inq inlX6) rfl 24 (by decide) (mq f_X6_171) (by rfl) ?_
        refine g_iconst (v := (1)) B dX6_atom2_29 (by decide) ?_
        refine g_isub B dX6_atom2_30 ?_
        refine g_putI (T := TX6) (N := 42) B dX6_atom2_31 (by decide) (by rfl) (inq inlX6) rfl 24 (by decide) (mq f_X6_171) tyX6_ok nmX6 rfl ⟨rfl, rfl⟩ (by rfl) ?_
        refine g_goto (tgt := 161) B dX6_atom2_34 (by decide) ?_
        refine g_iload_n B dX6_atom2_161 rfl ?_
        refine g_ireti B dX6_atom2_162 ?_
        first
          | (refine hK1 f ?_ _ _ hB8.close
             unfold pAtom
             rw [if_neg (fun h => by rw [b1_n0.mp c8] at h; exact absurd h (by decide)), if_pos (b1_n0.mp c8)]
             show (match pAtom (tT τ0 t n) (tV τ0 t n) (pLev (tT τ0 t n) (tV τ0 t n) 2) (a + 1) with | .inl f => _ | .inr (cs, a2) => _) = _
             rw [hf])
          | (refine kk ?_ (hK2 (cs ++ [-22]) a2 (by
               unfold pAtom
               rw [if_neg (fun h => by rw [b1_n0.mp c8] at h; exact absurd h (by decide)), if_pos (b1_n0.mp c8)]
               show (match pAtom (tT τ0 t n) (tV τ0 t n) (pLev (tT τ0 t n) (tV τ0 t n) 2) (a + 1) with | .inl f => _ | .inr (cs, a2) => _) = _
               rw [hf]) _ (MS.close (by decide) hM8))
             exact (evc_neg (pAtom_ok (tT_TV hR) (pLev_ok (tT_TV hR) _) _ _ _ hf).1).symm)
set_option maxRecDepth 100000 in
set_option maxHeartbeats 4000000 in
theorem lB_term2 {Z : LZ} {ad : Nat → Nat} {X : CX} {K : Int32 → St → Prop} {τ0 τ : St} {t n f : Nat} {v : Int32} (B : Amb lyM Z ad (rmk 23) X cX6_term2 wsX6_term2 RX6 2 (some .int)) (hB : MB τ0 t n f τ) (hK : K v τ) : GG lyM Z ad (rmk 23) X (rI K) 5 [some (.ref (ad 0)), some (.int v)] [] τ := by
  refine g_aload_n B dX6_term2_5 rfl ?_
  refine g_bipush (v := (42)) B dX6_term2_6 (by decide) ?_
  refine g_callVi (C := RX6) (As := [.int _]) B dX6_term2_8 (gc1 g_X6_202) (by rfl) ⟨rfl, hd_X6_isSign⟩ (by exact ⟨Nat.le_of_ble_eq_true rfl, Nat.le_of_ble_eq_true rfl⟩) ⟨rfl, rfl⟩ rfl rfl (by exact Nat.le_of_ble_eq_true rfl) recvM (c_sgnB hB ?_)
  refine g_if_eq (tgt := 28) B dX6_term2_11 (by decide) (fun c11 => ?_) (fun c11 => ?_)
  · refine g_iload_n B dX6_term2_28 rfl ?_
    refine g_ireti B dX6_term2_29 ?_
    exact hK
  · exact absurd rfl c11
set_option maxRecDepth 100000 in
set_option maxHeartbeats 4000000 in
theorem l_term2 {Z : LZ} {ad : Nat → Nat} {X : CX} {K : Int32 → St → Prop} {τ0 : St} {t n : Nat} (B : Amb lyM Z ad (rmk 23) X cX6_term2 wsX6_term2 RX6 2 (some .int)) (hR : RB τ0 t n) : ∀ (k : Nat) (cs : List Int32) (b : Nat) (τ : St), 160 ≤ b + k → WF cs → MS τ0 t n 2 b τ → (∀ f, pLoop (pAtom (tT τ0 t n) (tV τ0 t n) (pLev (tT τ0 t n) (tV τ0 t n) 3)) (opMul (tT τ0 t n)) (k + 1) cs b = .inl f → ∀ v τ', MB τ0 t n f τ' → K v τ') → (∀ ds a2, pLoop (pAtom (tT τ0 t n) (tV τ0 t n) (pLev (tT τ0 t n) (tV τ0 t n) 3)) (opMul (tT τ0 t n)) (k + 1) cs b = .inr (ds, a2) → ∀ τ', MS τ0 t n 2 a2 τ' → K (evc (eM τ0) ds) τ') → GG lyM Z ad (rmk 23) X (rI K) 5 [some (.ref (ad 0)), some (.int (evc (eM τ0) cs))] [] τ := by
  intro k
  induction k using Nat.strongRecOn with
  | ind k ih =>
  intro cs b τ hk hw hM hK1 hK2
  have hn := hR.2.2.2
  unfold pLoop at hK1 hK2
  refine g_aload_n B dX6_term2_5 rfl ?_
  refine g_bipush (v := (42)) B dX6_term2_6 (by decide) ?_
  refine g_callVi (C := RX6) (As := [.int _]) B dX6_term2_8 (gc1 g_X6_202) (by rfl) ⟨rfl, hd_X6_isSign⟩ (by exact ⟨Nat.le_of_ble_eq_true rfl, Nat.le_of_ble_eq_true rfl⟩) ⟨rfl, rfl⟩ rfl rfl (by exact Nat.le_of_ble_eq_true rfl) recvM (c_sgn hM (show isS 42 by decide) ?_)
  refine g_if_eq (tgt := 28) B dX6_term2_11 (by decide) (fun c11 => ?_) (fun c11 => ?_)
  · refine g_iload_n B dX6_term2_28 rfl ?_
    refine g_ireti B dX6_term2_29 ?_
    have hop : opMul (tT τ0 t n) b = none := if_neg (b1_0.mp c11)
    rw [hop] at hK2
    exact hK2 _ _ rfl τ hM
  · have hT := b1_n0.mp c11
    have hop : opMul (tT τ0 t n) b = some (-17) := if_pos hT
    have hb := tT_lt hR (show tT τ0 t n b ≠ 0 by rw [hT]; decide)
    rw [hop] at hK1 hK2
    dsimp only at hK1 hK2
    refine g_aload_n B dX6_term2_14 rfl ?_
    refine g_callVv (C := RX6) (As := []) B dX6_term2_15 (gc1 g_X6_177) (by rfl) ⟨rfl, hd_X6_next⟩ (by exact ⟨Nat.le_of_ble_eq_true rfl, Nat.le_of_ble_eq_true rfl⟩) ⟨rfl, rfl⟩ rfl rfl (by exact Nat.le_of_ble_eq_true rfl) recvM (c_nx hR hM (isS_0 (by rw [hT]; decide)) (fun τ2 hM2 => ?_))
    refine g_iload_n B dX6_term2_18 rfl ?_
    refine g_aload_n B dX6_term2_19 rfl ?_
    refine g_callVi (C := RX6) (As := []) B dX6_term2_20 (gc1 g_X6_271) (by rfl) ⟨rfl, hd_X6_atom2⟩ (by exact ⟨Nat.le_of_ble_eq_true rfl, Nat.le_of_ble_eq_true rfl⟩) ⟨rfl, rfl⟩ rfl rfl (by exact Nat.le_of_ble_eq_true rfl) recvM (c_atom2 hR hM2 (fun f hf v8 τ8 hB8 => ?_) (fun cs2 a2 hf τ8 hM8 => ?_))
    · rw [hf] at hK1; dsimp only at hK1
      refine g_imul B dX6_term2_23 ?_
      refine g_istore_n B dX6_term2_24 (by decide) rfl ?_
      refine g_goto (tgt := 5) B dX6_term2_25 (by decide) ?_
      first
        | exact lB_term2 B hB8 (hK1 f rfl _ _ hB8)
        | (rw [evc_mul hw hw2]
           obtain ⟨k', rfl⟩ : ∃ k', k = k' + 1 := ⟨k - 1, by omega⟩
           exact ih k' (by omega) (cs ++ cs2 ++ [-17]) a2 τ8 (by omega) (hw.bin hw2 (by decide)) hM8 hK1 hK2)
    · rw [hf] at hK1 hK2; dsimp only at hK1 hK2; obtain ⟨hw2, hlt2⟩ := pAtom_ok (tT_TV hR) (pLev_ok (tT_TV hR) _) _ _ _ hf
      refine g_imul B dX6_term2_23 ?_
      refine g_istore_n B dX6_term2_24 (by decide) rfl ?_
      refine g_goto (tgt := 5) B dX6_term2_25 (by decide) ?_
      first
        | exact lB_term2 B hB8 (hK1 f rfl _ _ hB8)
        | (rw [evc_mul hw hw2]
           obtain ⟨k', rfl⟩ : ∃ k', k = k' + 1 := ⟨k - 1, by omega⟩
           exact ih k' (by omega) (cs ++ cs2 ++ [-17]) a2 τ8 (by omega) (hw.bin hw2 (by decide)) hM8 hK1 hK2)
set_option maxRecDepth 100000 in
set_option maxHeartbeats 4000000 in
theorem c_term2 {Z : LZ} {ad : Nat → Nat} {τ0 τ : St} {K : Int32 → St → Prop} {t n a : Nat} (hR : RB τ0 t n) (hM : MS τ0 t n 2 a τ) (hK1 : ∀ f, pTerm (tT τ0 t n) (tV τ0 t n) (pLev (tT τ0 t n) (tV τ0 t n) 3) a = .inl f → ∀ v τ', MB τ0 t n f τ' → K v τ') (hK2 : ∀ cs a2, pTerm (tT τ0 t n) (tV τ0 t n) (pLev (tT τ0 t n) (tV τ0 t n) 3) a = .inr (cs, a2) → ∀ τ', MS τ0 t n 2 a2 τ' → K (evc (eM τ0) cs) τ') : CC lyM Z ad yX6_term2 wsX6_term2 (rmk 23) [.ref (ad 0)] τ (rI K) := by
  refine CC.of (cc := cX6_term2) (nL := 2) (ret := (some .int)) rfl rfl ⟨rfl, rfl⟩ (by exact Nat.le_of_ble_eq_true rfl) ?_
  intro X B
  change GG _ _ _ _ X _ 0 [some (.ref (ad 0)), none] [] _
  change Amb _ _ _ _ X _ _ RX6 _ _ at B
  unfold pTerm pSeq at hK1 hK2
  refine g_aload_n B dX6_term2_0 rfl ?_
  refine g_callVi (C := RX6) (As := []) B dX6_term2_1 (gc1 g_X6_271) (by rfl) ⟨rfl, hd_X6_atom2⟩ (by exact ⟨Nat.le_of_ble_eq_true rfl, Nat.le_of_ble_eq_true rfl⟩) ⟨rfl, rfl⟩ rfl rfl (by exact Nat.le_of_ble_eq_true rfl) recvM (c_atom2 hR hM (fun f hf v8 τ8 hB8 => ?_) (fun cs a1 hf τ8 hM8 => ?_))
  · rw [hf] at hK1; dsimp only at hK1
    refine g_istore_n B dX6_term2_4 (by decide) rfl ?_
    first
      | exact lB_term2 B hB8 (hK1 f rfl _ _ hB8)
      | exact l_term2 B hR 199 cs a1 τ8 (by omega) (pAtom_ok (tT_TV hR) (pLev_ok (tT_TV hR) _) _ _ _ hf).1 hM8 hK1 hK2
  · rw [hf] at hK1 hK2; dsimp only at hK1 hK2
    refine g_istore_n B dX6_term2_4 (by decide) rfl ?_
    first
      | exact lB_term2 B hB8 (hK1 f rfl _ _ hB8)
      | exact l_term2 B hR 199 cs a1 τ8 (by omega) (pAtom_ok (tT_TV hR) (pLev_ok (tT_TV hR) _) _ _ _ hf).1 hM8 hK1 hK2
set_option maxRecDepth 100000 in
set_option maxHeartbeats 4000000 in
theorem lB_added2 {Z : LZ} {ad : Nat → Nat} {X : CX} {K : Int32 → St → Prop} {τ0 τ : St} {t n f : Nat} {v : Int32} (B : Amb lyM Z ad (rmk 24) X cX6_added2 wsX6_added2 RX6 4 (some .int)) (hB : MB τ0 t n f τ) (hK : K v τ) : GG lyM Z ad (rmk 24) X (rI K) 5 [some (.ref (ad 0)), some (.int v), none, none] [] τ := by
  refine g_aload_n B dX6_added2_5 rfl ?_
  refine g_bipush (v := (43)) B dX6_added2_6 (by decide) ?_
  refine g_callVi (C := RX6) (As := [.int _]) B dX6_added2_8 (gc1 g_X6_202) (by rfl) ⟨rfl, hd_X6_isSign⟩ (by exact ⟨Nat.le_of_ble_eq_true rfl, Nat.le_of_ble_eq_true rfl⟩) ⟨rfl, rfl⟩ rfl rfl (by exact Nat.le_of_ble_eq_true rfl) recvM (c_sgnB hB ?_)
  refine g_if_ne (tgt := 23) B dX6_added2_11 (by decide) (fun c11 => ?_) (fun c11 => ?_)
  · first | exact absurd rfl c11 | exact absurd rfl c20
  · refine g_aload_n B dX6_added2_14 rfl ?_
    refine g_bipush (v := (45)) B dX6_added2_15 (by decide) ?_
    refine g_callVi (C := RX6) (As := [.int _]) B dX6_added2_17 (gc1 g_X6_202) (by rfl) ⟨rfl, hd_X6_isSign⟩ (by exact ⟨Nat.le_of_ble_eq_true rfl, Nat.le_of_ble_eq_true rfl⟩) ⟨rfl, rfl⟩ rfl rfl (by exact Nat.le_of_ble_eq_true rfl) recvM (c_sgnB hB ?_)
    refine g_if_eq (tgt := 66) B dX6_added2_20 (by decide) (fun c20 => ?_) (fun c20 => ?_)
    · refine g_iload_n B dX6_added2_66 rfl ?_
      refine g_ireti B dX6_added2_67 ?_
      exact hK
    · first | exact absurd rfl c11 | exact absurd rfl c20
set_option maxRecDepth 100000 in
set_option maxHeartbeats 4000000 in
theorem l_added2 {Z : LZ} {ad : Nat → Nat} {X : CX} {K : Int32 → St → Prop} {τ0 : St} {t n : Nat} (B : Amb lyM Z ad (rmk 24) X cX6_added2 wsX6_added2 RX6 4 (some .int)) (hR : RB τ0 t n) : ∀ (k : Nat) (cs : List Int32) (b : Nat) (τ : St), 160 ≤ b + k → WF cs → MS τ0 t n 2 b τ → (∀ f, pLoop (pTerm (tT τ0 t n) (tV τ0 t n) (pLev (tT τ0 t n) (tV τ0 t n) 3)) (opAdd (tT τ0 t n)) (k + 1) cs b = .inl f → ∀ v τ', MB τ0 t n f τ' → K v τ') → (∀ ds a2, pLoop (pTerm (tT τ0 t n) (tV τ0 t n) (pLev (tT τ0 t n) (tV τ0 t n) 3)) (opAdd (tT τ0 t n)) (k + 1) cs b = .inr (ds, a2) → ∀ τ', MS τ0 t n 2 a2 τ' → K (evc (eM τ0) ds) τ') → GG lyM Z ad (rmk 24) X (rI K) 5 [some (.ref (ad 0)), some (.int (evc (eM τ0) cs)), none, none] [] τ := by
  intro k
  induction k using Nat.strongRecOn with
  | ind k ih =>
  intro cs b τ hk hw hM hK1 hK2
  have hn := hR.2.2.2
  unfold pLoop at hK1 hK2
  refine g_aload_n B dX6_added2_5 rfl ?_
  refine g_bipush (v := (43)) B dX6_added2_6 (by decide) ?_
  refine g_callVi (C := RX6) (As := [.int _]) B dX6_added2_8 (gc1 g_X6_202) (by rfl) ⟨rfl, hd_X6_isSign⟩ (by exact ⟨Nat.le_of_ble_eq_true rfl, Nat.le_of_ble_eq_true rfl⟩) ⟨rfl, rfl⟩ rfl rfl (by exact Nat.le_of_ble_eq_true rfl) recvM (c_sgn hM (show isS 43 by decide) ?_)
  refine g_if_ne (tgt := 23) B dX6_added2_11 (by decide) (fun c11 => ?_) (fun c11 => ?_)
  · have hT : tT τ0 t n b = 43 ∨ tT τ0 t n b = 45 := by first | exact Or.inl (b1_n0.mp c11) | exact Or.inr (b1_n0.mp c20)
    have hT0 : isS (tT τ0 t n b) := by rcases hT with h | h <;> rw [h] <;> decide
    have hb := tT_lt hR (isS_0 hT0).1
    have hwv := hM.w hT0
    have h43 : τ.2.1 = 43 ↔ tT τ0 t n b = 43 := by
      rw [hwv]
      constructor
      · intro h
        have := congrArg Int64.toInt h
        rw [i_long] at this
        exact i_eq.mpr this
      · intro h
        rw [h]; rfl
    refine g_aload_n B dX6_added2_23 rfl ?_
    refine g_getL (T := TX6) (N := 42) B dX6_added2_24 (by decide) (by rfl) (inq inlX6) rfl 23 (by decide) (mq f_X6_155) (by rfl) ?_
    refine g_ldc2 (v := (43)) B dX6_added2_27 (mq k_X6_219) ?_
    refine g_lcmp B dX6_added2_30 ?_
    refine g_if_ne (tgt := 38) B dX6_added2_31 (by decide) (fun c31 => ?_) (fun c31 => ?_)
    · refine g_iconst (v := (0)) B dX6_added2_38 (by decide) ?_
      refine g_istore_n B dX6_added2_39 (by decide) rfl ?_
      refine g_aload_n B dX6_added2_40 rfl ?_
      refine g_callVv (C := RX6) (As := []) B dX6_added2_41 (gc1 g_X6_177) (by rfl) ⟨rfl, hd_X6_next⟩ (by exact ⟨Nat.le_of_ble_eq_true rfl, Nat.le_of_ble_eq_true rfl⟩) ⟨rfl, rfl⟩ rfl rfl (by exact Nat.le_of_ble_eq_true rfl) recvM (c_nx hR hM (isS_0 hT0) (fun τ2 hM2 => ?_))
      refine g_aload_n B dX6_added2_44 rfl ?_
      refine g_callVi (C := RX6) (As := []) B dX6_added2_45 (gc1 g_X6_274) (by rfl) ⟨rfl, hd_X6_term2⟩ (by exact ⟨Nat.le_of_ble_eq_true rfl, Nat.le_of_ble_eq_true rfl⟩) ⟨rfl, rfl⟩ rfl rfl (by exact Nat.le_of_ble_eq_true rfl) recvM (c_term2 hR hM2 (fun f hf v8 τ8 hB8 => ?_) (fun cs2 a2 hf τ8 hM8 => ?_))
      · skip
        refine g_istore_n B dX6_added2_48 (by decide) rfl ?_
        refine g_iload_n B dX6_added2_49 rfl ?_
        refine g_if_eq (tgt := 59) B dX6_added2_50 (by decide) (fun c50 => ?_) (fun c50 => ?_)
        · refine g_iload_n B dX6_added2_59 rfl ?_
          refine g_iload_n B dX6_added2_60 rfl ?_
          refine g_isub B dX6_added2_61 ?_
          refine g_istore_n B dX6_added2_62 (by decide) rfl ?_
          refine g_goto (tgt := 5) B dX6_added2_63 (by decide) ?_
          first
            | exact absurd rfl c50
            | exact absurd c50 (by decide)
            | (have hop : opAdd (tT τ0 t n) b = some (-15) := if_pos (h43.mp (l_cmp_eq0.mp c31))
               rw [hop] at hK1 hK2
               dsimp only at hK1 hK2
               rw [hf] at hK1 hK2
               dsimp only at hK1 hK2
               refine g_drop 2 (g_drop 3 ?_)
               first
               | exact lB_added2 B hB8 (hK1 f rfl _ _ hB8)
               | (obtain ⟨hw2, hlt2⟩ := pTerm_ok (tT_TV hR) (pLev_ok (tT_TV hR) _) _ _ _ hf
                  rw [evc_add hw hw2]
                  obtain ⟨k', rfl⟩ : ∃ k', k = k' + 1 := ⟨k - 1, by omega⟩
                  exact ih k' (by omega) (cs ++ cs2 ++ [-15]) a2 τ8 (by omega) (hw.bin hw2 (by decide)) hM8 hK1 hK2))
            | (have h31 : ¬ tT τ0 t n b = 43 := fun h => c31 (l_cmp_eq0.mpr (h43.mpr h))
               have hop : opAdd (tT τ0 t n) b = some (-16) := (if_neg h31).trans (if_pos (hT.resolve_left h31))
               rw [hop] at hK1 hK2
               dsimp only at hK1 hK2
               rw [hf] at hK1 hK2
               dsimp only at hK1 hK2
               refine g_drop 2 (g_drop 3 ?_)
               first
               | exact lB_added2 B hB8 (hK1 f rfl _ _ hB8)
               | (obtain ⟨hw2, hlt2⟩ := pTerm_ok (tT_TV hR) (pLev_ok (tT_TV hR) _) _ _ _ hf
                  rw [evc_sub hw hw2]
                  obtain ⟨k', rfl⟩ : ∃ k', k = k' + 1 := ⟨k - 1, by omega⟩
                  exact ih k' (by omega) (cs ++ cs2 ++ [-16]) a2 τ8 (by omega) (hw.bin hw2 (by decide)) hM8 hK1 hK2))
        · refine g_iload_n B dX6_added2_53 rfl ?_
          refine g_iload_n B dX6_added2_54 rfl ?_
          refine g_iadd B dX6_added2_55 ?_
          refine g_goto (tgt := 62) B dX6_added2_56 (by decide) ?_
          refine g_istore_n B dX6_added2_62 (by decide) rfl ?_
          refine g_goto (tgt := 5) B dX6_added2_63 (by decide) ?_
          first
            | exact absurd rfl c50
            | exact absurd c50 (by decide)
            | (have hop : opAdd (tT τ0 t n) b = some (-15) := if_pos (h43.mp (l_cmp_eq0.mp c31))
               rw [hop] at hK1 hK2
               dsimp only at hK1 hK2
               rw [hf] at hK1 hK2
               dsimp only at hK1 hK2
               refine g_drop 2 (g_drop 3 ?_)
               first
               | exact lB_added2 B hB8 (hK1 f rfl _ _ hB8)
               | (obtain ⟨hw2, hlt2⟩ := pTerm_ok (tT_TV hR) (pLev_ok (tT_TV hR) _) _ _ _ hf
                  rw [evc_add hw hw2]
                  obtain ⟨k', rfl⟩ : ∃ k', k = k' + 1 := ⟨k - 1, by omega⟩
                  exact ih k' (by omega) (cs ++ cs2 ++ [-15]) a2 τ8 (by omega) (hw.bin hw2 (by decide)) hM8 hK1 hK2))
            | (have h31 : ¬ tT τ0 t n b = 43 := fun h => c31 (l_cmp_eq0.mpr (h43.mpr h))
               have hop : opAdd (tT τ0 t n) b = some (-16) := (if_neg h31).trans (if_pos (hT.resolve_left h31))
               rw [hop] at hK1 hK2
               dsimp only at hK1 hK2
               rw [hf] at hK1 hK2
               dsimp only at hK1 hK2
               refine g_drop 2 (g_drop 3 ?_)
               first
               | exact lB_added2 B hB8 (hK1 f rfl _ _ hB8)
               | (obtain ⟨hw2, hlt2⟩ := pTerm_ok (tT_TV hR) (pLev_ok (tT_TV hR) _) _ _ _ hf
                  rw [evc_sub hw hw2]
                  obtain ⟨k', rfl⟩ : ∃ k', k = k' + 1 := ⟨k - 1, by omega⟩
                  exact ih k' (by omega) (cs ++ cs2 ++ [-16]) a2 τ8 (by omega) (hw.bin hw2 (by decide)) hM8 hK1 hK2))
      · skip
        refine g_istore_n B dX6_added2_48 (by decide) rfl ?_
        refine g_iload_n B dX6_added2_49 rfl ?_
        refine g_if_eq (tgt := 59) B dX6_added2_50 (by decide) (fun c50 => ?_) (fun c50 => ?_)
        · refine g_iload_n B dX6_added2_59 rfl ?_
          refine g_iload_n B dX6_added2_60 rfl ?_
          refine g_isub B dX6_added2_61 ?_
          refine g_istore_n B dX6_added2_62 (by decide) rfl ?_
          refine g_goto (tgt := 5) B dX6_added2_63 (by decide) ?_
          first
            | exact absurd rfl c50
            | exact absurd c50 (by decide)
            | (have hop : opAdd (tT τ0 t n) b = some (-15) := if_pos (h43.mp (l_cmp_eq0.mp c31))
               rw [hop] at hK1 hK2
               dsimp only at hK1 hK2
               rw [hf] at hK1 hK2
               dsimp only at hK1 hK2
               refine g_drop 2 (g_drop 3 ?_)
               first
               | exact lB_added2 B hB8 (hK1 f rfl _ _ hB8)
               | (obtain ⟨hw2, hlt2⟩ := pTerm_ok (tT_TV hR) (pLev_ok (tT_TV hR) _) _ _ _ hf
                  rw [evc_add hw hw2]
                  obtain ⟨k', rfl⟩ : ∃ k', k = k' + 1 := ⟨k - 1, by omega⟩
                  exact ih k' (by omega) (cs ++ cs2 ++ [-15]) a2 τ8 (by omega) (hw.bin hw2 (by decide)) hM8 hK1 hK2))
            | (have h31 : ¬ tT τ0 t n b = 43 := fun h => c31 (l_cmp_eq0.mpr (h43.mpr h))
               have hop : opAdd (tT τ0 t n) b = some (-16) := (if_neg h31).trans (if_pos (hT.resolve_left h31))
               rw [hop] at hK1 hK2
               dsimp only at hK1 hK2
               rw [hf] at hK1 hK2
               dsimp only at hK1 hK2
               refine g_drop 2 (g_drop 3 ?_)
               first
               | exact lB_added2 B hB8 (hK1 f rfl _ _ hB8)
               | (obtain ⟨hw2, hlt2⟩ := pTerm_ok (tT_TV hR) (pLev_ok (tT_TV hR) _) _ _ _ hf
                  rw [evc_sub hw hw2]
                  obtain ⟨k', rfl⟩ : ∃ k', k = k' + 1 := ⟨k - 1, by omega⟩
                  exact ih k' (by omega) (cs ++ cs2 ++ [-16]) a2 τ8 (by omega) (hw.bin hw2 (by decide)) hM8 hK1 hK2))
        · refine g_iload_n B dX6_added2_53 rfl ?_
          refine g_iload_n B dX6_added2_54 rfl ?_
          refine g_iadd B dX6_added2_55 ?_
          refine g_goto (tgt := 62) B dX6_added2_56 (by decide) ?_
          refine g_istore_n B dX6_added2_62 (by decide) rfl ?_
          refine g_goto (tgt := 5) B dX6_added2_63 (by decide) ?_
          first
            | exact absurd rfl c50
            | exact absurd c50 (by decide)
            | (have hop : opAdd (tT τ0 t n) b = some (-15) := if_pos (h43.mp (l_cmp_eq0.mp c31))
               rw [hop] at hK1 hK2
               dsimp only at hK1 hK2
               rw [hf] at hK1 hK2
               dsimp only at hK1 hK2
               refine g_drop 2 (g_drop 3 ?_)
               first
               | exact lB_added2 B hB8 (hK1 f rfl _ _ hB8)
               | (obtain ⟨hw2, hlt2⟩ := pTerm_ok (tT_TV hR) (pLev_ok (tT_TV hR) _) _ _ _ hf
                  rw [evc_add hw hw2]
                  obtain ⟨k', rfl⟩ : ∃ k', k = k' + 1 := ⟨k - 1, by omega⟩
                  exact ih k' (by omega) (cs ++ cs2 ++ [-15]) a2 τ8 (by omega) (hw.bin hw2 (by decide)) hM8 hK1 hK2))
            | (have h31 : ¬ tT τ0 t n b = 43 := fun h => c31 (l_cmp_eq0.mpr (h43.mpr h))
               have hop : opAdd (tT τ0 t n) b = some (-16) := (if_neg h31).trans (if_pos (hT.resolve_left h31))
               rw [hop] at hK1 hK2
               dsimp only at hK1 hK2
               rw [hf] at hK1 hK2
               dsimp only at hK1 hK2
               refine g_drop 2 (g_drop 3 ?_)
               first
               | exact lB_added2 B hB8 (hK1 f rfl _ _ hB8)
               | (obtain ⟨hw2, hlt2⟩ := pTerm_ok (tT_TV hR) (pLev_ok (tT_TV hR) _) _ _ _ hf
                  rw [evc_sub hw hw2]
                  obtain ⟨k', rfl⟩ : ∃ k', k = k' + 1 := ⟨k - 1, by omega⟩
                  exact ih k' (by omega) (cs ++ cs2 ++ [-16]) a2 τ8 (by omega) (hw.bin hw2 (by decide)) hM8 hK1 hK2))
    · refine g_iconst (v := (1)) B dX6_added2_34 (by decide) ?_
      refine g_goto (tgt := 39) B dX6_added2_35 (by decide) ?_
      refine g_istore_n B dX6_added2_39 (by decide) rfl ?_
      refine g_aload_n B dX6_added2_40 rfl ?_
      refine g_callVv (C := RX6) (As := []) B dX6_added2_41 (gc1 g_X6_177) (by rfl) ⟨rfl, hd_X6_next⟩ (by exact ⟨Nat.le_of_ble_eq_true rfl, Nat.le_of_ble_eq_true rfl⟩) ⟨rfl, rfl⟩ rfl rfl (by exact Nat.le_of_ble_eq_true rfl) recvM (c_nx hR hM (isS_0 hT0) (fun τ2 hM2 => ?_))
      refine g_aload_n B dX6_added2_44 rfl ?_
      refine g_callVi (C := RX6) (As := []) B dX6_added2_45 (gc1 g_X6_274) (by rfl) ⟨rfl, hd_X6_term2⟩ (by exact ⟨Nat.le_of_ble_eq_true rfl, Nat.le_of_ble_eq_true rfl⟩) ⟨rfl, rfl⟩ rfl rfl (by exact Nat.le_of_ble_eq_true rfl) recvM (c_term2 hR hM2 (fun f hf v8 τ8 hB8 => ?_) (fun cs2 a2 hf τ8 hM8 => ?_))
      · skip
        refine g_istore_n B dX6_added2_48 (by decide) rfl ?_
        refine g_iload_n B dX6_added2_49 rfl ?_
        refine g_if_eq (tgt := 59) B dX6_added2_50 (by decide) (fun c50 => ?_) (fun c50 => ?_)
        · refine g_iload_n B dX6_added2_59 rfl ?_
          refine g_iload_n B dX6_added2_60 rfl ?_
          refine g_isub B dX6_added2_61 ?_
          refine g_istore_n B dX6_added2_62 (by decide) rfl ?_
          refine g_goto (tgt := 5) B dX6_added2_63 (by decide) ?_
          first
            | exact absurd rfl c50
            | exact absurd c50 (by decide)
            | (have hop : opAdd (tT τ0 t n) b = some (-15) := if_pos (h43.mp (l_cmp_eq0.mp c31))
               rw [hop] at hK1 hK2
               dsimp only at hK1 hK2
               rw [hf] at hK1 hK2
               dsimp only at hK1 hK2
               refine g_drop 2 (g_drop 3 ?_)
               first
               | exact lB_added2 B hB8 (hK1 f rfl _ _ hB8)
               | (obtain ⟨hw2, hlt2⟩ := pTerm_ok (tT_TV hR) (pLev_ok (tT_TV hR) _) _ _ _ hf
                  rw [evc_add hw hw2]
                  obtain ⟨k', rfl⟩ : ∃ k', k = k' + 1 := ⟨k - 1, by omega⟩
                  exact ih k' (by omega) (cs ++ cs2 ++ [-15]) a2 τ8 (by omega) (hw.bin hw2 (by decide)) hM8 hK1 hK2))
            | (have h31 : ¬ tT τ0 t n b = 43 := fun h => c31 (l_cmp_eq0.mpr (h43.mpr h))
               have hop : opAdd (tT τ0 t n) b = some (-16) := (if_neg h31).trans (if_pos (hT.resolve_left h31))
               rw [hop] at hK1 hK2
               dsimp only at hK1 hK2
               rw [hf] at hK1 hK2
               dsimp only at hK1 hK2
               refine g_drop 2 (g_drop 3 ?_)
               first
               | exact lB_added2 B hB8 (hK1 f rfl _ _ hB8)
               | (obtain ⟨hw2, hlt2⟩ := pTerm_ok (tT_TV hR) (pLev_ok (tT_TV hR) _) _ _ _ hf
                  rw [evc_sub hw hw2]
                  obtain ⟨k', rfl⟩ : ∃ k', k = k' + 1 := ⟨k - 1, by omega⟩
                  exact ih k' (by omega) (cs ++ cs2 ++ [-16]) a2 τ8 (by omega) (hw.bin hw2 (by decide)) hM8 hK1 hK2))
        · refine g_iload_n B dX6_added2_53 rfl ?_
          refine g_iload_n B dX6_added2_54 rfl ?_
          refine g_iadd B dX6_added2_55 ?_
          refine g_goto (tgt := 62) B dX6_added2_56 (by decide) ?_
          refine g_istore_n B dX6_added2_62 (by decide) rfl ?_
          refine g_goto (tgt := 5) B dX6_added2_63 (by decide) ?_
          first
            | exact absurd rfl c50
            | exact absurd c50 (by decide)
            | (have hop : opAdd (tT τ0 t n) b = some (-15) := if_pos (h43.mp (l_cmp_eq0.mp c31))
               rw [hop] at hK1 hK2
               dsimp only at hK1 hK2
               rw [hf] at hK1 hK2
               dsimp only at hK1 hK2
               refine g_drop 2 (g_drop 3 ?_)
               first
               | exact lB_added2 B hB8 (hK1 f rfl _ _ hB8)
               | (obtain ⟨hw2, hlt2⟩ := pTerm_ok (tT_TV hR) (pLev_ok (tT_TV hR) _) _ _ _ hf
                  rw [evc_add hw hw2]
                  obtain ⟨k', rfl⟩ : ∃ k', k = k' + 1 := ⟨k - 1, by omega⟩
                  exact ih k' (by omega) (cs ++ cs2 ++ [-15]) a2 τ8 (by omega) (hw.bin hw2 (by decide)) hM8 hK1 hK2))
            | (have h31 : ¬ tT τ0 t n b = 43 := fun h => c31 (l_cmp_eq0.mpr (h43.mpr h))
               have hop : opAdd (tT τ0 t n) b = some (-16) := (if_neg h31).trans (if_pos (hT.resolve_left h31))
               rw [hop] at hK1 hK2
               dsimp only at hK1 hK2
               rw [hf] at hK1 hK2
               dsimp only at hK1 hK2
               refine g_drop 2 (g_drop 3 ?_)
               first
               | exact lB_added2 B hB8 (hK1 f rfl _ _ hB8)
               | (obtain ⟨hw2, hlt2⟩ := pTerm_ok (tT_TV hR) (pLev_ok (tT_TV hR) _) _ _ _ hf
                  rw [evc_sub hw hw2]
                  obtain ⟨k', rfl⟩ : ∃ k', k = k' + 1 := ⟨k - 1, by omega⟩
                  exact ih k' (by omega) (cs ++ cs2 ++ [-16]) a2 τ8 (by omega) (hw.bin hw2 (by decide)) hM8 hK1 hK2))
      · skip
        refine g_istore_n B dX6_added2_48 (by decide) rfl ?_
        refine g_iload_n B dX6_added2_49 rfl ?_
        refine g_if_eq (tgt := 59) B dX6_added2_50 (by decide) (fun c50 => ?_) (fun c50 => ?_)
        · refine g_iload_n B dX6_added2_59 rfl ?_
          refine g_iload_n B dX6_added2_60 rfl ?_
          refine g_isub B dX6_added2_61 ?_
          refine g_istore_n B dX6_added2_62 (by decide) rfl ?_
          refine g_goto (tgt := 5) B dX6_added2_63 (by decide) ?_
          first
            | exact absurd rfl c50
            | exact absurd c50 (by decide)
            | (have hop : opAdd (tT τ0 t n) b = some (-15) := if_pos (h43.mp (l_cmp_eq0.mp c31))
               rw [hop] at hK1 hK2
               dsimp only at hK1 hK2
               rw [hf] at hK1 hK2
               dsimp only at hK1 hK2
               refine g_drop 2 (g_drop 3 ?_)
               first
               | exact lB_added2 B hB8 (hK1 f rfl _ _ hB8)
               | (obtain ⟨hw2, hlt2⟩ := pTerm_ok (tT_TV hR) (pLev_ok (tT_TV hR) _) _ _ _ hf
                  rw [evc_add hw hw2]
                  obtain ⟨k', rfl⟩ : ∃ k', k = k' + 1 := ⟨k - 1, by omega⟩
                  exact ih k' (by omega) (cs ++ cs2 ++ [-15]) a2 τ8 (by omega) (hw.bin hw2 (by decide)) hM8 hK1 hK2))
            | (have h31 : ¬ tT τ0 t n b = 43 := fun h => c31 (l_cmp_eq0.mpr (h43.mpr h))
               have hop : opAdd (tT τ0 t n) b = some (-16) := (if_neg h31).trans (if_pos (hT.resolve_left h31))
               rw [hop] at hK1 hK2
               dsimp only at hK1 hK2
               rw [hf] at hK1 hK2
               dsimp only at hK1 hK2
               refine g_drop 2 (g_drop 3 ?_)
               first
               | exact lB_added2 B hB8 (hK1 f rfl _ _ hB8)
               | (obtain ⟨hw2, hlt2⟩ := pTerm_ok (tT_TV hR) (pLev_ok (tT_TV hR) _) _ _ _ hf
                  rw [evc_sub hw hw2]
                  obtain ⟨k', rfl⟩ : ∃ k', k = k' + 1 := ⟨k - 1, by omega⟩
                  exact ih k' (by omega) (cs ++ cs2 ++ [-16]) a2 τ8 (by omega) (hw.bin hw2 (by decide)) hM8 hK1 hK2))
        · refine g_iload_n B dX6_added2_53 rfl ?_
          refine g_iload_n B dX6_added2_54 rfl ?_
          refine g_iadd B dX6_added2_55 ?_
          refine g_goto (tgt := 62) B dX6_added2_56 (by decide) ?_
          refine g_istore_n B dX6_added2_62 (by decide) rfl ?_
          refine g_goto (tgt := 5) B dX6_added2_63 (by decide) ?_
          first
            | exact absurd rfl c50
            | exact absurd c50 (by decide)
            | (have hop : opAdd (tT τ0 t n) b = some (-15) := if_pos (h43.mp (l_cmp_eq0.mp c31))
               rw [hop] at hK1 hK2
               dsimp only at hK1 hK2
               rw [hf] at hK1 hK2
               dsimp only at hK1 hK2
               refine g_drop 2 (g_drop 3 ?_)
               first
               | exact lB_added2 B hB8 (hK1 f rfl _ _ hB8)
               | (obtain ⟨hw2, hlt2⟩ := pTerm_ok (tT_TV hR) (pLev_ok (tT_TV hR) _) _ _ _ hf
                  rw [evc_add hw hw2]
                  obtain ⟨k', rfl⟩ : ∃ k', k = k' + 1 := ⟨k - 1, by omega⟩
                  exact ih k' (by omega) (cs ++ cs2 ++ [-15]) a2 τ8 (by omega) (hw.bin hw2 (by decide)) hM8 hK1 hK2))
            | (have h31 : ¬ tT τ0 t n b = 43 := fun h => c31 (l_cmp_eq0.mpr (h43.mpr h))
               have hop : opAdd (tT τ0 t n) b = some (-16) := (if_neg h31).trans (if_pos (hT.resolve_left h31))
               rw [hop] at hK1 hK2
               dsimp only at hK1 hK2
               rw [hf] at hK1 hK2
               dsimp only at hK1 hK2
               refine g_drop 2 (g_drop 3 ?_)
               first
               | exact lB_added2 B hB8 (hK1 f rfl _ _ hB8)
               | (obtain ⟨hw2, hlt2⟩ := pTerm_ok (tT_TV hR) (pLev_ok (tT_TV hR) _) _ _ _ hf
                  rw [evc_sub hw hw2]
                  obtain ⟨k', rfl⟩ : ∃ k', k = k' + 1 := ⟨k - 1, by omega⟩
                  exact ih k' (by omega) (cs ++ cs2 ++ [-16]) a2 τ8 (by omega) (hw.bin hw2 (by decide)) hM8 hK1 hK2))
  · refine g_aload_n B dX6_added2_14 rfl ?_
    refine g_bipush (v := (45)) B dX6_added2_15 (by decide) ?_
    refine g_callVi (C := RX6) (As := [.int _]) B dX6_added2_17 (gc1 g_X6_202) (by rfl) ⟨rfl, hd_X6_isSign⟩ (by exact ⟨Nat.le_of_ble_eq_true rfl, Nat.le_of_ble_eq_true rfl⟩) ⟨rfl, rfl⟩ rfl rfl (by exact Nat.le_of_ble_eq_true rfl) recvM (c_sgn hM (show isS 45 by decide) ?_)
    refine g_if_eq (tgt := 66) B dX6_added2_20 (by decide) (fun c20 => ?_) (fun c20 => ?_)
    · refine g_iload_n B dX6_added2_66 rfl ?_
      refine g_ireti B dX6_added2_67 ?_
      have hop : opAdd (tT τ0 t n) b = none := (if_neg (b1_0.mp c11)).trans (if_neg (b1_0.mp c20))
      rw [hop] at hK2
      exact hK2 _ _ rfl τ hM
    · have hT : tT τ0 t n b = 43 ∨ tT τ0 t n b = 45 := by first | exact Or.inl (b1_n0.mp c11) | exact Or.inr (b1_n0.mp c20)
      have hT0 : isS (tT τ0 t n b) := by rcases hT with h | h <;> rw [h] <;> decide
      have hb := tT_lt hR (isS_0 hT0).1
      have hwv := hM.w hT0
      have h43 : τ.2.1 = 43 ↔ tT τ0 t n b = 43 := by
        rw [hwv]
        constructor
        · intro h
          have := congrArg Int64.toInt h
          rw [i_long] at this
          exact i_eq.mpr this
        · intro h
          rw [h]; rfl
      refine g_aload_n B dX6_added2_23 rfl ?_
      refine g_getL (T := TX6) (N := 42) B dX6_added2_24 (by decide) (by rfl) (inq inlX6) rfl 23 (by decide) (mq f_X6_155) (by rfl) ?_
      refine g_ldc2 (v := (43)) B dX6_added2_27 (mq k_X6_219) ?_
      refine g_lcmp B dX6_added2_30 ?_
      refine g_if_ne (tgt := 38) B dX6_added2_31 (by decide) (fun c31 => ?_) (fun c31 => ?_)
      · refine g_iconst (v := (0)) B dX6_added2_38 (by decide) ?_
        refine g_istore_n B dX6_added2_39 (by decide) rfl ?_
        refine g_aload_n B dX6_added2_40 rfl ?_
        refine g_callVv (C := RX6) (As := []) B dX6_added2_41 (gc1 g_X6_177) (by rfl) ⟨rfl, hd_X6_next⟩ (by exact ⟨Nat.le_of_ble_eq_true rfl, Nat.le_of_ble_eq_true rfl⟩) ⟨rfl, rfl⟩ rfl rfl (by exact Nat.le_of_ble_eq_true rfl) recvM (c_nx hR hM (isS_0 hT0) (fun τ2 hM2 => ?_))
        refine g_aload_n B dX6_added2_44 rfl ?_
        refine g_callVi (C := RX6) (As := []) B dX6_added2_45 (gc1 g_X6_274) (by rfl) ⟨rfl, hd_X6_term2⟩ (by exact ⟨Nat.le_of_ble_eq_true rfl, Nat.le_of_ble_eq_true rfl⟩) ⟨rfl, rfl⟩ rfl rfl (by exact Nat.le_of_ble_eq_true rfl) recvM (c_term2 hR hM2 (fun f hf v8 τ8 hB8 => ?_) (fun cs2 a2 hf τ8 hM8 => ?_))
        · skip
          refine g_istore_n B dX6_added2_48 (by decide) rfl ?_
          refine g_iload_n B dX6_added2_49 rfl ?_
          refine g_if_eq (tgt := 59) B dX6_added2_50 (by decide) (fun c50 => ?_) (fun c50 => ?_)
          · refine g_iload_n B dX6_added2_59 rfl ?_
            refine g_iload_n B dX6_added2_60 rfl ?_
            refine g_isub B dX6_added2_61 ?_
            refine g_istore_n B dX6_added2_62 (by decide) rfl ?_
            refine g_goto (tgt := 5) B dX6_added2_63 (by decide) ?_
            first
              | exact absurd rfl c50
              | exact absurd c50 (by decide)
              | (have hop : opAdd (tT τ0 t n) b = some (-15) := if_pos (h43.mp (l_cmp_eq0.mp c31))
                 rw [hop] at hK1 hK2
                 dsimp only at hK1 hK2
                 rw [hf] at hK1 hK2
                 dsimp only at hK1 hK2
                 refine g_drop 2 (g_drop 3 ?_)
                 first
                 | exact lB_added2 B hB8 (hK1 f rfl _ _ hB8)
                 | (obtain ⟨hw2, hlt2⟩ := pTerm_ok (tT_TV hR) (pLev_ok (tT_TV hR) _) _ _ _ hf
                    rw [evc_add hw hw2]
                    obtain ⟨k', rfl⟩ : ∃ k', k = k' + 1 := ⟨k - 1, by omega⟩
                    exact ih k' (by omega) (cs ++ cs2 ++ [-15]) a2 τ8 (by omega) (hw.bin hw2 (by decide)) hM8 hK1 hK2))
              | (have h31 : ¬ tT τ0 t n b = 43 := fun h => c31 (l_cmp_eq0.mpr (h43.mpr h))
                 have hop : opAdd (tT τ0 t n) b = some (-16) := (if_neg h31).trans (if_pos (hT.resolve_left h31))
                 rw [hop] at hK1 hK2
                 dsimp only at hK1 hK2
                 rw [hf] at hK1 hK2
                 dsimp only at hK1 hK2
                 refine g_drop 2 (g_drop 3 ?_)
                 first
                 | exact lB_added2 B hB8 (hK1 f rfl _ _ hB8)
                 | (obtain ⟨hw2, hlt2⟩ := pTerm_ok (tT_TV hR) (pLev_ok (tT_TV hR) _) _ _ _ hf
                    rw [evc_sub hw hw2]
                    obtain ⟨k', rfl⟩ : ∃ k', k = k' + 1 := ⟨k - 1, by omega⟩
                    exact ih k' (by omega) (cs ++ cs2 ++ [-16]) a2 τ8 (by omega) (hw.bin hw2 (by decide)) hM8 hK1 hK2))
          · refine g_iload_n B dX6_added2_53 rfl ?_
            refine g_iload_n B dX6_added2_54 rfl ?_
            refine g_iadd B dX6_added2_55 ?_
            refine g_goto (tgt := 62) B dX6_added2_56 (by decide) ?_
            refine g_istore_n B dX6_added2_62 (by decide) rfl ?_
            refine g_goto (tgt := 5) B dX6_added2_63 (by decide) ?_
            first
              | exact absurd rfl c50
              | exact absurd c50 (by decide)
              | (have hop : opAdd (tT τ0 t n) b = some (-15) := if_pos (h43.mp (l_cmp_eq0.mp c31))
                 rw [hop] at hK1 hK2
                 dsimp only at hK1 hK2
                 rw [hf] at hK1 hK2
                 dsimp only at hK1 hK2
                 refine g_drop 2 (g_drop 3 ?_)
                 first
                 | exact lB_added2 B hB8 (hK1 f rfl _ _ hB8)
                 | (obtain ⟨hw2, hlt2⟩ := pTerm_ok (tT_TV hR) (pLev_ok (tT_TV hR) _) _ _ _ hf
                    rw [evc_add hw hw2]
                    obtain ⟨k', rfl⟩ : ∃ k', k = k' + 1 := ⟨k - 1, by omega⟩
                    exact ih k' (by omega) (cs ++ cs2 ++ [-15]) a2 τ8 (by omega) (hw.bin hw2 (by decide)) hM8 hK1 hK2))
              | (have h31 : ¬ tT τ0 t n b = 43 := fun h => c31 (l_cmp_eq0.mpr (h43.mpr h))
                 have hop : opAdd (tT τ0 t n) b = some (-16) := (if_neg h31).trans (if_pos (hT.resolve_left h31))
                 rw [hop] at hK1 hK2
                 dsimp only at hK1 hK2
                 rw [hf] at hK1 hK2
                 dsimp only at hK1 hK2
                 refine g_drop 2 (g_drop 3 ?_)
                 first
                 | exact lB_added2 B hB8 (hK1 f rfl _ _ hB8)
                 | (obtain ⟨hw2, hlt2⟩ := pTerm_ok (tT_TV hR) (pLev_ok (tT_TV hR) _) _ _ _ hf
                    rw [evc_sub hw hw2]
                    obtain ⟨k', rfl⟩ : ∃ k', k = k' + 1 := ⟨k - 1, by omega⟩
                    exact ih k' (by omega) (cs ++ cs2 ++ [-16]) a2 τ8 (by omega) (hw.bin hw2 (by decide)) hM8 hK1 hK2))
        · skip
          refine g_istore_n B dX6_added2_48 (by decide) rfl ?_
          refine g_iload_n B dX6_added2_49 rfl ?_
          refine g_if_eq (tgt := 59) B dX6_added2_50 (by decide) (fun c50 => ?_) (fun c50 => ?_)
          · refine g_iload_n B dX6_added2_59 rfl ?_
            refine g_iload_n B dX6_added2_60 rfl ?_
            refine g_isub B dX6_added2_61 ?_
            refine g_istore_n B dX6_added2_62 (by decide) rfl ?_
            refine g_goto (tgt := 5) B dX6_added2_63 (by decide) ?_
            first
              | exact absurd rfl c50
              | exact absurd c50 (by decide)
              | (have hop : opAdd (tT τ0 t n) b = some (-15) := if_pos (h43.mp (l_cmp_eq0.mp c31))
                 rw [hop] at hK1 hK2
                 dsimp only at hK1 hK2
                 rw [hf] at hK1 hK2
                 dsimp only at hK1 hK2
                 refine g_drop 2 (g_drop 3 ?_)
                 first
                 | exact lB_added2 B hB8 (hK1 f rfl _ _ hB8)
                 | (obtain ⟨hw2, hlt2⟩ := pTerm_ok (tT_TV hR) (pLev_ok (tT_TV hR) _) _ _ _ hf
                    rw [evc_add hw hw2]
                    obtain ⟨k', rfl⟩ : ∃ k', k = k' + 1 := ⟨k - 1, by omega⟩
                    exact ih k' (by omega) (cs ++ cs2 ++ [-15]) a2 τ8 (by omega) (hw.bin hw2 (by decide)) hM8 hK1 hK2))
              | (have h31 : ¬ tT τ0 t n b = 43 := fun h => c31 (l_cmp_eq0.mpr (h43.mpr h))
                 have hop : opAdd (tT τ0 t n) b = some (-16) := (if_neg h31).trans (if_pos (hT.resolve_left h31))
                 rw [hop] at hK1 hK2
                 dsimp only at hK1 hK2
                 rw [hf] at hK1 hK2
                 dsimp only at hK1 hK2
                 refine g_drop 2 (g_drop 3 ?_)
                 first
                 | exact lB_added2 B hB8 (hK1 f rfl _ _ hB8)
                 | (obtain ⟨hw2, hlt2⟩ := pTerm_ok (tT_TV hR) (pLev_ok (tT_TV hR) _) _ _ _ hf
                    rw [evc_sub hw hw2]
                    obtain ⟨k', rfl⟩ : ∃ k', k = k' + 1 := ⟨k - 1, by omega⟩
                    exact ih k' (by omega) (cs ++ cs2 ++ [-16]) a2 τ8 (by omega) (hw.bin hw2 (by decide)) hM8 hK1 hK2))
          · refine g_iload_n B dX6_added2_53 rfl ?_
            refine g_iload_n B dX6_added2_54 rfl ?_
            refine g_iadd B dX6_added2_55 ?_
            refine g_goto (tgt := 62) B dX6_added2_56 (by decide) ?_
            refine g_istore_n B dX6_added2_62 (by decide) rfl ?_
            refine g_goto (tgt := 5) B dX6_added2_63 (by decide) ?_
            first
              | exact absurd rfl c50
              | exact absurd c50 (by decide)
              | (have hop : opAdd (tT τ0 t n) b = some (-15) := if_pos (h43.mp (l_cmp_eq0.mp c31))
                 rw [hop] at hK1 hK2
                 dsimp only at hK1 hK2
                 rw [hf] at hK1 hK2
                 dsimp only at hK1 hK2
                 refine g_drop 2 (g_drop 3 ?_)
                 first
                 | exact lB_added2 B hB8 (hK1 f rfl _ _ hB8)
                 | (obtain ⟨hw2, hlt2⟩ := pTerm_ok (tT_TV hR) (pLev_ok (tT_TV hR) _) _ _ _ hf
                    rw [evc_add hw hw2]
                    obtain ⟨k', rfl⟩ : ∃ k', k = k' + 1 := ⟨k - 1, by omega⟩
                    exact ih k' (by omega) (cs ++ cs2 ++ [-15]) a2 τ8 (by omega) (hw.bin hw2 (by decide)) hM8 hK1 hK2))
              | (have h31 : ¬ tT τ0 t n b = 43 := fun h => c31 (l_cmp_eq0.mpr (h43.mpr h))
                 have hop : opAdd (tT τ0 t n) b = some (-16) := (if_neg h31).trans (if_pos (hT.resolve_left h31))
                 rw [hop] at hK1 hK2
                 dsimp only at hK1 hK2
                 rw [hf] at hK1 hK2
                 dsimp only at hK1 hK2
                 refine g_drop 2 (g_drop 3 ?_)
                 first
                 | exact lB_added2 B hB8 (hK1 f rfl _ _ hB8)
                 | (obtain ⟨hw2, hlt2⟩ := pTerm_ok (tT_TV hR) (pLev_ok (tT_TV hR) _) _ _ _ hf
                    rw [evc_sub hw hw2]
                    obtain ⟨k', rfl⟩ : ∃ k', k = k' + 1 := ⟨k - 1, by omega⟩
                    exact ih k' (by omega) (cs ++ cs2 ++ [-16]) a2 τ8 (by omega) (hw.bin hw2 (by decide)) hM8 hK1 hK2))
      · refine g_iconst (v := (1)) B dX6_added2_34 (by decide) ?_
        refine g_goto (tgt := 39) B dX6_added2_35 (by decide) ?_
        refine g_istore_n B dX6_added2_39 (by decide) rfl ?_
        refine g_aload_n B dX6_added2_40 rfl ?_
        refine g_callVv (C := RX6) (As := []) B dX6_added2_41 (gc1 g_X6_177) (by rfl) ⟨rfl, hd_X6_next⟩ (by exact ⟨Nat.le_of_ble_eq_true rfl, Nat.le_of_ble_eq_true rfl⟩) ⟨rfl, rfl⟩ rfl rfl (by exact Nat.le_of_ble_eq_true rfl) recvM (c_nx hR hM (isS_0 hT0) (fun τ2 hM2 => ?_))
        refine g_aload_n B dX6_added2_44 rfl ?_
        refine g_callVi (C := RX6) (As := []) B dX6_added2_45 (gc1 g_X6_274) (by rfl) ⟨rfl, hd_X6_term2⟩ (by exact ⟨Nat.le_of_ble_eq_true rfl, Nat.le_of_ble_eq_true rfl⟩) ⟨rfl, rfl⟩ rfl rfl (by exact Nat.le_of_ble_eq_true rfl) recvM (c_term2 hR hM2 (fun f hf v8 τ8 hB8 => ?_) (fun cs2 a2 hf τ8 hM8 => ?_))
        · skip
          refine g_istore_n B dX6_added2_48 (by decide) rfl ?_
          refine g_iload_n B dX6_added2_49 rfl ?_
          refine g_if_eq (tgt := 59) B dX6_added2_50 (by decide) (fun c50 => ?_) (fun c50 => ?_)
          · refine g_iload_n B dX6_added2_59 rfl ?_
            refine g_iload_n B dX6_added2_60 rfl ?_
            refine g_isub B dX6_added2_61 ?_
            refine g_istore_n B dX6_added2_62 (by decide) rfl ?_
            refine g_goto (tgt := 5) B dX6_added2_63 (by decide) ?_
            first
              | exact absurd rfl c50
              | exact absurd c50 (by decide)
              | (have hop : opAdd (tT τ0 t n) b = some (-15) := if_pos (h43.mp (l_cmp_eq0.mp c31))
                 rw [hop] at hK1 hK2
                 dsimp only at hK1 hK2
                 rw [hf] at hK1 hK2
                 dsimp only at hK1 hK2
                 refine g_drop 2 (g_drop 3 ?_)
                 first
                 | exact lB_added2 B hB8 (hK1 f rfl _ _ hB8)
                 | (obtain ⟨hw2, hlt2⟩ := pTerm_ok (tT_TV hR) (pLev_ok (tT_TV hR) _) _ _ _ hf
                    rw [evc_add hw hw2]
                    obtain ⟨k', rfl⟩ : ∃ k', k = k' + 1 := ⟨k - 1, by omega⟩
                    exact ih k' (by omega) (cs ++ cs2 ++ [-15]) a2 τ8 (by omega) (hw.bin hw2 (by decide)) hM8 hK1 hK2))
              | (have h31 : ¬ tT τ0 t n b = 43 := fun h => c31 (l_cmp_eq0.mpr (h43.mpr h))
                 have hop : opAdd (tT τ0 t n) b = some (-16) := (if_neg h31).trans (if_pos (hT.resolve_left h31))
                 rw [hop] at hK1 hK2
                 dsimp only at hK1 hK2
                 rw [hf] at hK1 hK2
                 dsimp only at hK1 hK2
                 refine g_drop 2 (g_drop 3 ?_)
                 first
                 | exact lB_added2 B hB8 (hK1 f rfl _ _ hB8)
                 | (obtain ⟨hw2, hlt2⟩ := pTerm_ok (tT_TV hR) (pLev_ok (tT_TV hR) _) _ _ _ hf
                    rw [evc_sub hw hw2]
                    obtain ⟨k', rfl⟩ : ∃ k', k = k' + 1 := ⟨k - 1, by omega⟩
                    exact ih k' (by omega) (cs ++ cs2 ++ [-16]) a2 τ8 (by omega) (hw.bin hw2 (by decide)) hM8 hK1 hK2))
          · refine g_iload_n B dX6_added2_53 rfl ?_
            refine g_iload_n B dX6_added2_54 rfl ?_
            refine g_iadd B dX6_added2_55 ?_
            refine g_goto (tgt := 62) B dX6_added2_56 (by decide) ?_
            refine g_istore_n B dX6_added2_62 (by decide) rfl ?_
            refine g_goto (tgt := 5) B dX6_added2_63 (by decide) ?_
            first
              | exact absurd rfl c50
              | exact absurd c50 (by decide)
              | (have hop : opAdd (tT τ0 t n) b = some (-15) := if_pos (h43.mp (l_cmp_eq0.mp c31))
                 rw [hop] at hK1 hK2
                 dsimp only at hK1 hK2
                 rw [hf] at hK1 hK2
                 dsimp only at hK1 hK2
                 refine g_drop 2 (g_drop 3 ?_)
                 first
                 | exact lB_added2 B hB8 (hK1 f rfl _ _ hB8)
                 | (obtain ⟨hw2, hlt2⟩ := pTerm_ok (tT_TV hR) (pLev_ok (tT_TV hR) _) _ _ _ hf
                    rw [evc_add hw hw2]
                    obtain ⟨k', rfl⟩ : ∃ k', k = k' + 1 := ⟨k - 1, by omega⟩
                    exact ih k' (by omega) (cs ++ cs2 ++ [-15]) a2 τ8 (by omega) (hw.bin hw2 (by decide)) hM8 hK1 hK2))
              | (have h31 : ¬ tT τ0 t n b = 43 := fun h => c31 (l_cmp_eq0.mpr (h43.mpr h))
                 have hop : opAdd (tT τ0 t n) b = some (-16) := (if_neg h31).trans (if_pos (hT.resolve_left h31))
                 rw [hop] at hK1 hK2
                 dsimp only at hK1 hK2
                 rw [hf] at hK1 hK2
                 dsimp only at hK1 hK2
                 refine g_drop 2 (g_drop 3 ?_)
                 first
                 | exact lB_added2 B hB8 (hK1 f rfl _ _ hB8)
                 | (obtain ⟨hw2, hlt2⟩ := pTerm_ok (tT_TV hR) (pLev_ok (tT_TV hR) _) _ _ _ hf
                    rw [evc_sub hw hw2]
                    obtain ⟨k', rfl⟩ : ∃ k', k = k' + 1 := ⟨k - 1, by omega⟩
                    exact ih k' (by omega) (cs ++ cs2 ++ [-16]) a2 τ8 (by omega) (hw.bin hw2 (by decide)) hM8 hK1 hK2))
        · skip
          refine g_istore_n B dX6_added2_48 (by decide) rfl ?_
          refine g_iload_n B dX6_added2_49 rfl ?_
          refine g_if_eq (tgt := 59) B dX6_added2_50 (by decide) (fun c50 => ?_) (fun c50 => ?_)
          · refine g_iload_n B dX6_added2_59 rfl ?_
            refine g_iload_n B dX6_added2_60 rfl ?_
            refine g_isub B dX6_added2_61 ?_
            refine g_istore_n B dX6_added2_62 (by decide) rfl ?_
            refine g_goto (tgt := 5) B dX6_added2_63 (by decide) ?_
            first
              | exact absurd rfl c50
              | exact absurd c50 (by decide)
              | (have hop : opAdd (tT τ0 t n) b = some (-15) := if_pos (h43.mp (l_cmp_eq0.mp c31))
                 rw [hop] at hK1 hK2
                 dsimp only at hK1 hK2
                 rw [hf] at hK1 hK2
                 dsimp only at hK1 hK2
                 refine g_drop 2 (g_drop 3 ?_)
                 first
                 | exact lB_added2 B hB8 (hK1 f rfl _ _ hB8)
                 | (obtain ⟨hw2, hlt2⟩ := pTerm_ok (tT_TV hR) (pLev_ok (tT_TV hR) _) _ _ _ hf
                    rw [evc_add hw hw2]
                    obtain ⟨k', rfl⟩ : ∃ k', k = k' + 1 := ⟨k - 1, by omega⟩
                    exact ih k' (by omega) (cs ++ cs2 ++ [-15]) a2 τ8 (by omega) (hw.bin hw2 (by decide)) hM8 hK1 hK2))
              | (have h31 : ¬ tT τ0 t n b = 43 := fun h => c31 (l_cmp_eq0.mpr (h43.mpr h))
                 have hop : opAdd (tT τ0 t n) b = some (-16) := (if_neg h31).trans (if_pos (hT.resolve_left h31))
                 rw [hop] at hK1 hK2
                 dsimp only at hK1 hK2
                 rw [hf] at hK1 hK2
                 dsimp only at hK1 hK2
                 refine g_drop 2 (g_drop 3 ?_)
                 first
                 | exact lB_added2 B hB8 (hK1 f rfl _ _ hB8)
                 | (obtain ⟨hw2, hlt2⟩ := pTerm_ok (tT_TV hR) (pLev_ok (tT_TV hR) _) _ _ _ hf
                    rw [evc_sub hw hw2]
                    obtain ⟨k', rfl⟩ : ∃ k', k = k' + 1 := ⟨k - 1, by omega⟩
                    exact ih k' (by omega) (cs ++ cs2 ++ [-16]) a2 τ8 (by omega) (hw.bin hw2 (by decide)) hM8 hK1 hK2))
          · refine g_iload_n B dX6_added2_53 rfl ?_
            refine g_iload_n B dX6_added2_54 rfl ?_
            refine g_iadd B dX6_added2_55 ?_
            refine g_goto (tgt := 62) B dX6_added2_56 (by decide) ?_
            refine g_istore_n B dX6_added2_62 (by decide) rfl ?_
            refine g_goto (tgt := 5) B dX6_added2_63 (by decide) ?_
            first
              | exact absurd rfl c50
              | exact absurd c50 (by decide)
              | (have hop : opAdd (tT τ0 t n) b = some (-15) := if_pos (h43.mp (l_cmp_eq0.mp c31))
                 rw [hop] at hK1 hK2
                 dsimp only at hK1 hK2
                 rw [hf] at hK1 hK2
                 dsimp only at hK1 hK2
                 refine g_drop 2 (g_drop 3 ?_)
                 first
                 | exact lB_added2 B hB8 (hK1 f rfl _ _ hB8)
                 | (obtain ⟨hw2, hlt2⟩ := pTerm_ok (tT_TV hR) (pLev_ok (tT_TV hR) _) _ _ _ hf
                    rw [evc_add hw hw2]
                    obtain ⟨k', rfl⟩ : ∃ k', k = k' + 1 := ⟨k - 1, by omega⟩
                    exact ih k' (by omega) (cs ++ cs2 ++ [-15]) a2 τ8 (by omega) (hw.bin hw2 (by decide)) hM8 hK1 hK2))
              | (have h31 : ¬ tT τ0 t n b = 43 := fun h => c31 (l_cmp_eq0.mpr (h43.mpr h))
                 have hop : opAdd (tT τ0 t n) b = some (-16) := (if_neg h31).trans (if_pos (hT.resolve_left h31))
                 rw [hop] at hK1 hK2
                 dsimp only at hK1 hK2
                 rw [hf] at hK1 hK2
                 dsimp only at hK1 hK2
                 refine g_drop 2 (g_drop 3 ?_)
                 first
                 | exact lB_added2 B hB8 (hK1 f rfl _ _ hB8)
                 | (obtain ⟨hw2, hlt2⟩ := pTerm_ok (tT_TV hR) (pLev_ok (tT_TV hR) _) _ _ _ hf
                    rw [evc_sub hw hw2]
                    obtain ⟨k', rfl⟩ : ∃ k', k = k' + 1 := ⟨k - 1, by omega⟩
                    exact ih k' (by omega) (cs ++ cs2 ++ [-16]) a2 τ8 (by omega) (hw.bin hw2 (by decide)) hM8 hK1 hK2))
set_option maxRecDepth 100000 in
set_option maxHeartbeats 4000000 in
theorem c_added2 {Z : LZ} {ad : Nat → Nat} {τ0 τ : St} {K : Int32 → St → Prop} {t n a : Nat} (hR : RB τ0 t n) (hM : MS τ0 t n 2 a τ) (hK1 : ∀ f, pSum (tT τ0 t n) (tV τ0 t n) (pLev (tT τ0 t n) (tV τ0 t n) 3) a = .inl f → ∀ v τ', MB τ0 t n f τ' → K v τ') (hK2 : ∀ cs a2, pSum (tT τ0 t n) (tV τ0 t n) (pLev (tT τ0 t n) (tV τ0 t n) 3) a = .inr (cs, a2) → ∀ τ', MS τ0 t n 2 a2 τ' → K (evc (eM τ0) cs) τ') : CC lyM Z ad yX6_added2 wsX6_added2 (rmk 24) [.ref (ad 0)] τ (rI K) := by
  refine CC.of (cc := cX6_added2) (nL := 4) (ret := (some .int)) rfl rfl ⟨rfl, rfl⟩ (by exact Nat.le_of_ble_eq_true rfl) ?_
  intro X B
  change GG _ _ _ _ X _ 0 [some (.ref (ad 0)), none, none, none] [] _
  change Amb _ _ _ _ X _ _ RX6 _ _ at B
  unfold pSum pSeq at hK1 hK2
  refine g_aload_n B dX6_added2_0 rfl ?_
  refine g_callVi (C := RX6) (As := []) B dX6_added2_1 (gc1 g_X6_274) (by rfl) ⟨rfl, hd_X6_term2⟩ (by exact ⟨Nat.le_of_ble_eq_true rfl, Nat.le_of_ble_eq_true rfl⟩) ⟨rfl, rfl⟩ rfl rfl (by exact Nat.le_of_ble_eq_true rfl) recvM (c_term2 hR hM (fun f hf v8 τ8 hB8 => ?_) (fun cs a1 hf τ8 hM8 => ?_))
  · rw [hf] at hK1; dsimp only at hK1
    refine g_istore_n B dX6_added2_4 (by decide) rfl ?_
    first
      | exact lB_added2 B hB8 (hK1 f rfl _ _ hB8)
      | exact l_added2 B hR 199 cs a1 τ8 (by omega) (pTerm_ok (tT_TV hR) (pLev_ok (tT_TV hR) _) _ _ _ hf).1 hM8 hK1 hK2
  · rw [hf] at hK1 hK2; dsimp only at hK1 hK2
    refine g_istore_n B dX6_added2_4 (by decide) rfl ?_
    first
      | exact lB_added2 B hB8 (hK1 f rfl _ _ hB8)
      | exact l_added2 B hR 199 cs a1 τ8 (by omega) (pTerm_ok (tT_TV hR) (pLev_ok (tT_TV hR) _) _ _ _ hf).1 hM8 hK1 hK2
set_option maxRecDepth 100000 in
set_option maxHeartbeats 4000000 in
theorem n2_not2 {Z : LZ} {ad : Nat → Nat} {X : CX} {K : Int32 → St → Prop} {τ0 τ : St} {t n a1 : Nat} {cs : List Int32} (B : Amb lyM Z ad (rmk 25) X cX6_not2 wsX6_not2 RX6 4 (some .int)) (hR : RB τ0 t n) (hw : WF cs) (hM : MS τ0 t n 2 a1 τ) (hT : tT τ0 t n a1 = 60 ∨ tT τ0 t n a1 = 61)
    (hK1 : ∀ f, (match pSum (tT τ0 t n) (tV τ0 t n) (pLev (tT τ0 t n) (tV τ0 t n) 3) (a1 + 1) with | .inl f => (.inl f : PR) | .inr (cs2, a2) => .inr (cs ++ cs2 ++ [if tT τ0 t n a1 = 60 then -13 else -14], a2)) = .inl f → ∀ v τ', MB τ0 t n f τ' → K v τ') (hK2 : ∀ ds a2, (match pSum (tT τ0 t n) (tV τ0 t n) (pLev (tT τ0 t n) (tV τ0 t n) 3) (a1 + 1) with | .inl f => (.inl f : PR) | .inr (cs2, a2) => .inr (cs ++ cs2 ++ [if tT τ0 t n a1 = 60 then -13 else -14], a2)) = .inr (ds, a2) → ∀ τ', MS τ0 t n 2 a2 τ' → K (evc (eM τ0) ds) τ') : GG lyM Z ad (rmk 25) X (rI K) 77 [some (.ref (ad 0)), some (.int (evc (eM τ0) cs)), none, none] [] τ := by
  have hT0 : isS (tT τ0 t n a1) := by rcases hT with h | h <;> rw [h] <;> decide
  have hwv := hM.w hT0
  have h60 : τ.2.1 = 60 ↔ tT τ0 t n a1 = 60 := by
    rw [hwv]
    constructor
    · intro h
      have := congrArg Int64.toInt h
      rw [i_long] at this
      exact i_eq.mpr this
    · intro h
      rw [h]; rfl
  refine g_aload_n B dX6_not2_77 rfl ?_
  refine g_getL (T := TX6) (N := 42) B dX6_not2_78 (by decide) (by rfl) (inq inlX6) rfl 23 (by decide) (mq f_X6_155) (by rfl) ?_
  refine g_ldc2 (v := (60)) B dX6_not2_81 (mq k_X6_224) ?_
  refine g_lcmp B dX6_not2_84 ?_
  refine g_if_ne (tgt := 92) B dX6_not2_85 (by decide) (fun c85 => ?_) (fun c85 => ?_)
  · refine g_iconst (v := (0)) B dX6_not2_92 (by decide) ?_
    refine g_istore_n B dX6_not2_93 (by decide) rfl ?_
    refine g_aload_n B dX6_not2_94 rfl ?_
    refine g_callVv (C := RX6) (As := []) B dX6_not2_95 (gc1 g_X6_177) (by rfl) ⟨rfl, hd_X6_next⟩ (by exact ⟨Nat.le_of_ble_eq_true rfl, Nat.le_of_ble_eq_true rfl⟩) ⟨rfl, rfl⟩ rfl rfl (by exact Nat.le_of_ble_eq_true rfl) recvM (c_nx hR hM (isS_0 hT0) (fun τ2 hM2 => ?_))
    refine g_aload_n B dX6_not2_98 rfl ?_
    refine g_callVi (C := RX6) (As := []) B dX6_not2_99 (gc1 g_X6_277) (by rfl) ⟨rfl, hd_X6_added2⟩ (by exact ⟨Nat.le_of_ble_eq_true rfl, Nat.le_of_ble_eq_true rfl⟩) ⟨rfl, rfl⟩ rfl rfl (by exact Nat.le_of_ble_eq_true rfl) recvM (c_added2 hR hM2 (fun f hf v9 τ9 hB9 => ?_) (fun cs2 a2 hf τ9 hM9 => ?_))
    · rw [hf] at hK1; dsimp only at hK1
      refine g_istore_n B dX6_not2_102 (by decide) rfl ?_
      refine g_iload_n B dX6_not2_103 rfl ?_
      refine g_if_eq (tgt := 115) B dX6_not2_104 (by decide) (fun c104 => ?_) (fun c104 => ?_)
      · refine g_iload_n B dX6_not2_115 rfl ?_
        refine g_iload_n B dX6_not2_116 rfl ?_
        refine g_icmp_ne (tgt := 124) B dX6_not2_117 (by decide) (fun c117 => ?_) (fun c117 => ?_)
        · refine g_iconst (v := (0)) B dX6_not2_124 (by decide) ?_
          refine g_ireti B dX6_not2_125 ?_
          first
            | exact hK1 f rfl _ _ hB9
            | exact absurd rfl c104
            | exact absurd c104 (by decide)
            | (have h6 := h60.mp (l_cmp_eq0.mp c85)
               refine kk ?_ (hK2 _ _ rfl _ hM9)
               rw [if_pos h6, evc_bin hw hw2 (by decide)]
               unfold jn
               rw [if_neg (by decide), if_neg (by decide), if_pos rfl]
               first
               | rw [if_pos (Int32.not_le.mp c109)]
               | rw [if_neg (Int32.not_lt.mpr c109)])
            | (have h6 : ¬ tT τ0 t n a1 = 60 := fun h => c85 (l_cmp_eq0.mpr (h60.mpr h))
               refine kk ?_ (hK2 _ _ rfl _ hM9)
               rw [if_neg h6, evc_bin hw hw2 (by decide)]
               unfold jn
               rw [if_neg (by decide), if_neg (by decide), if_neg (by decide), if_pos rfl]
               first
               | rw [if_pos c117]
               | rw [if_neg c117]
               | rw [if_pos c117])
        · refine g_iconst (v := (1)) B dX6_not2_120 (by decide) ?_
          refine g_goto (tgt := 125) B dX6_not2_121 (by decide) ?_
          refine g_ireti B dX6_not2_125 ?_
          first
            | exact hK1 f rfl _ _ hB9
            | exact absurd rfl c104
            | exact absurd c104 (by decide)
            | (have h6 := h60.mp (l_cmp_eq0.mp c85)
               refine kk ?_ (hK2 _ _ rfl _ hM9)
               rw [if_pos h6, evc_bin hw hw2 (by decide)]
               unfold jn
               rw [if_neg (by decide), if_neg (by decide), if_pos rfl]
               first
               | rw [if_pos (Int32.not_le.mp c109)]
               | rw [if_neg (Int32.not_lt.mpr c109)])
            | (have h6 : ¬ tT τ0 t n a1 = 60 := fun h => c85 (l_cmp_eq0.mpr (h60.mpr h))
               refine kk ?_ (hK2 _ _ rfl _ hM9)
               rw [if_neg h6, evc_bin hw hw2 (by decide)]
               unfold jn
               rw [if_neg (by decide), if_neg (by decide), if_neg (by decide), if_pos rfl]
               first
               | rw [if_pos c117]
               | rw [if_neg c117]
               | rw [if_pos c117])
      · refine g_iload_n B dX6_not2_107 rfl ?_
        refine g_iload_n B dX6_not2_108 rfl ?_
        refine g_icmp_ge (tgt := 124) B dX6_not2_109 (by decide) (fun c109 => ?_) (fun c109 => ?_)
        · refine g_iconst (v := (0)) B dX6_not2_124 (by decide) ?_
          refine g_ireti B dX6_not2_125 ?_
          first
            | exact hK1 f rfl _ _ hB9
            | exact absurd rfl c104
            | exact absurd c104 (by decide)
            | (have h6 := h60.mp (l_cmp_eq0.mp c85)
               refine kk ?_ (hK2 _ _ rfl _ hM9)
               rw [if_pos h6, evc_bin hw hw2 (by decide)]
               unfold jn
               rw [if_neg (by decide), if_neg (by decide), if_pos rfl]
               first
               | rw [if_pos (Int32.not_le.mp c109)]
               | rw [if_neg (Int32.not_lt.mpr c109)])
            | (have h6 : ¬ tT τ0 t n a1 = 60 := fun h => c85 (l_cmp_eq0.mpr (h60.mpr h))
               refine kk ?_ (hK2 _ _ rfl _ hM9)
               rw [if_neg h6, evc_bin hw hw2 (by decide)]
               unfold jn
               rw [if_neg (by decide), if_neg (by decide), if_neg (by decide), if_pos rfl]
               first
               | rw [if_pos c117]
               | rw [if_neg c117]
               | rw [if_pos c117])
        · refine g_goto (tgt := 120) B dX6_not2_112 (by decide) ?_
          refine g_iconst (v := (1)) B dX6_not2_120 (by decide) ?_
          refine g_goto (tgt := 125) B dX6_not2_121 (by decide) ?_
          refine g_ireti B dX6_not2_125 ?_
          first
            | exact hK1 f rfl _ _ hB9
            | exact absurd rfl c104
            | exact absurd c104 (by decide)
            | (have h6 := h60.mp (l_cmp_eq0.mp c85)
               refine kk ?_ (hK2 _ _ rfl _ hM9)
               rw [if_pos h6, evc_bin hw hw2 (by decide)]
               unfold jn
               rw [if_neg (by decide), if_neg (by decide), if_pos rfl]
               first
               | rw [if_pos (Int32.not_le.mp c109)]
               | rw [if_neg (Int32.not_lt.mpr c109)])
            | (have h6 : ¬ tT τ0 t n a1 = 60 := fun h => c85 (l_cmp_eq0.mpr (h60.mpr h))
               refine kk ?_ (hK2 _ _ rfl _ hM9)
               rw [if_neg h6, evc_bin hw hw2 (by decide)]
               unfold jn
               rw [if_neg (by decide), if_neg (by decide), if_neg (by decide), if_pos rfl]
               first
               | rw [if_pos c117]
               | rw [if_neg c117]
               | rw [if_pos c117])
    · rw [hf] at hK1 hK2; dsimp only at hK1 hK2; have hw2 := (pSum_ok (tT_TV hR) (pLev_ok (tT_TV hR) _) _ _ _ hf).1
      refine g_istore_n B dX6_not2_102 (by decide) rfl ?_
      refine g_iload_n B dX6_not2_103 rfl ?_
      refine g_if_eq (tgt := 115) B dX6_not2_104 (by decide) (fun c104 => ?_) (fun c104 => ?_)
      · refine g_iload_n B dX6_not2_115 rfl ?_
        refine g_iload_n B dX6_not2_116 rfl ?_
        refine g_icmp_ne (tgt := 124) B dX6_not2_117 (by decide) (fun c117 => ?_) (fun c117 => ?_)
        · refine g_iconst (v := (0)) B dX6_not2_124 (by decide) ?_
          refine g_ireti B dX6_not2_125 ?_
          first
            | exact hK1 f rfl _ _ hB9
            | exact absurd rfl c104
            | exact absurd c104 (by decide)
            | (have h6 := h60.mp (l_cmp_eq0.mp c85)
               refine kk ?_ (hK2 _ _ rfl _ hM9)
               rw [if_pos h6, evc_bin hw hw2 (by decide)]
               unfold jn
               rw [if_neg (by decide), if_neg (by decide), if_pos rfl]
               first
               | rw [if_pos (Int32.not_le.mp c109)]
               | rw [if_neg (Int32.not_lt.mpr c109)])
            | (have h6 : ¬ tT τ0 t n a1 = 60 := fun h => c85 (l_cmp_eq0.mpr (h60.mpr h))
               refine kk ?_ (hK2 _ _ rfl _ hM9)
               rw [if_neg h6, evc_bin hw hw2 (by decide)]
               unfold jn
               rw [if_neg (by decide), if_neg (by decide), if_neg (by decide), if_pos rfl]
               first
               | rw [if_pos c117]
               | rw [if_neg c117]
               | rw [if_pos c117])
        · refine g_iconst (v := (1)) B dX6_not2_120 (by decide) ?_
          refine g_goto (tgt := 125) B dX6_not2_121 (by decide) ?_
          refine g_ireti B dX6_not2_125 ?_
          first
            | exact hK1 f rfl _ _ hB9
            | exact absurd rfl c104
            | exact absurd c104 (by decide)
            | (have h6 := h60.mp (l_cmp_eq0.mp c85)
               refine kk ?_ (hK2 _ _ rfl _ hM9)
               rw [if_pos h6, evc_bin hw hw2 (by decide)]
               unfold jn
               rw [if_neg (by decide), if_neg (by decide), if_pos rfl]
               first
               | rw [if_pos (Int32.not_le.mp c109)]
               | rw [if_neg (Int32.not_lt.mpr c109)])
            | (have h6 : ¬ tT τ0 t n a1 = 60 := fun h => c85 (l_cmp_eq0.mpr (h60.mpr h))
               refine kk ?_ (hK2 _ _ rfl _ hM9)
               rw [if_neg h6, evc_bin hw hw2 (by decide)]
               unfold jn
               rw [if_neg (by decide), if_neg (by decide), if_neg (by decide), if_pos rfl]
               first
               | rw [if_pos c117]
               | rw [if_neg c117]
               | rw [if_pos c117])
      · refine g_iload_n B dX6_not2_107 rfl ?_
        refine g_iload_n B dX6_not2_108 rfl ?_
        refine g_icmp_ge (tgt := 124) B dX6_not2_109 (by decide) (fun c109 => ?_) (fun c109 => ?_)
        · refine g_iconst (v := (0)) B dX6_not2_124 (by decide) ?_
          refine g_ireti B dX6_not2_125 ?_
          first
            | exact hK1 f rfl _ _ hB9
            | exact absurd rfl c104
            | exact absurd c104 (by decide)
            | (have h6 := h60.mp (l_cmp_eq0.mp c85)
               refine kk ?_ (hK2 _ _ rfl _ hM9)
               rw [if_pos h6, evc_bin hw hw2 (by decide)]
               unfold jn
               rw [if_neg (by decide), if_neg (by decide), if_pos rfl]
               first
               | rw [if_pos (Int32.not_le.mp c109)]
               | rw [if_neg (Int32.not_lt.mpr c109)])
            | (have h6 : ¬ tT τ0 t n a1 = 60 := fun h => c85 (l_cmp_eq0.mpr (h60.mpr h))
               refine kk ?_ (hK2 _ _ rfl _ hM9)
               rw [if_neg h6, evc_bin hw hw2 (by decide)]
               unfold jn
               rw [if_neg (by decide), if_neg (by decide), if_neg (by decide), if_pos rfl]
               first
               | rw [if_pos c117]
               | rw [if_neg c117]
               | rw [if_pos c117])
        · refine g_goto (tgt := 120) B dX6_not2_112 (by decide) ?_
          refine g_iconst (v := (1)) B dX6_not2_120 (by decide) ?_
          refine g_goto (tgt := 125) B dX6_not2_121 (by decide) ?_
          refine g_ireti B dX6_not2_125 ?_
          first
            | exact hK1 f rfl _ _ hB9
            | exact absurd rfl c104
            | exact absurd c104 (by decide)
            | (have h6 := h60.mp (l_cmp_eq0.mp c85)
               refine kk ?_ (hK2 _ _ rfl _ hM9)
               rw [if_pos h6, evc_bin hw hw2 (by decide)]
               unfold jn
               rw [if_neg (by decide), if_neg (by decide), if_pos rfl]
               first
               | rw [if_pos (Int32.not_le.mp c109)]
               | rw [if_neg (Int32.not_lt.mpr c109)])
            | (have h6 : ¬ tT τ0 t n a1 = 60 := fun h => c85 (l_cmp_eq0.mpr (h60.mpr h))
               refine kk ?_ (hK2 _ _ rfl _ hM9)
               rw [if_neg h6, evc_bin hw hw2 (by decide)]
               unfold jn
               rw [if_neg (by decide), if_neg (by decide), if_neg (by decide), if_pos rfl]
               first
               | rw [if_pos c117]
               | rw [if_neg c117]
               | rw [if_pos c117])
  · refine g_iconst (v := (1)) B dX6_not2_88 (by decide) ?_
    refine g_goto (tgt := 93) B dX6_not2_89 (by decide) ?_
    refine g_istore_n B dX6_not2_93 (by decide) rfl ?_
    refine g_aload_n B dX6_not2_94 rfl ?_
    refine g_callVv (C := RX6) (As := []) B dX6_not2_95 (gc1 g_X6_177) (by rfl) ⟨rfl, hd_X6_next⟩ (by exact ⟨Nat.le_of_ble_eq_true rfl, Nat.le_of_ble_eq_true rfl⟩) ⟨rfl, rfl⟩ rfl rfl (by exact Nat.le_of_ble_eq_true rfl) recvM (c_nx hR hM (isS_0 hT0) (fun τ2 hM2 => ?_))
    refine g_aload_n B dX6_not2_98 rfl ?_
    refine g_callVi (C := RX6) (As := []) B dX6_not2_99 (gc1 g_X6_277) (by rfl) ⟨rfl, hd_X6_added2⟩ (by exact ⟨Nat.le_of_ble_eq_true rfl, Nat.le_of_ble_eq_true rfl⟩) ⟨rfl, rfl⟩ rfl rfl (by exact Nat.le_of_ble_eq_true rfl) recvM (c_added2 hR hM2 (fun f hf v9 τ9 hB9 => ?_) (fun cs2 a2 hf τ9 hM9 => ?_))
    · rw [hf] at hK1; dsimp only at hK1
      refine g_istore_n B dX6_not2_102 (by decide) rfl ?_
      refine g_iload_n B dX6_not2_103 rfl ?_
      refine g_if_eq (tgt := 115) B dX6_not2_104 (by decide) (fun c104 => ?_) (fun c104 => ?_)
      · refine g_iload_n B dX6_not2_115 rfl ?_
        refine g_iload_n B dX6_not2_116 rfl ?_
        refine g_icmp_ne (tgt := 124) B dX6_not2_117 (by decide) (fun c117 => ?_) (fun c117 => ?_)
        · refine g_iconst (v := (0)) B dX6_not2_124 (by decide) ?_
          refine g_ireti B dX6_not2_125 ?_
          first
            | exact hK1 f rfl _ _ hB9
            | exact absurd rfl c104
            | exact absurd c104 (by decide)
            | (have h6 := h60.mp (l_cmp_eq0.mp c85)
               refine kk ?_ (hK2 _ _ rfl _ hM9)
               rw [if_pos h6, evc_bin hw hw2 (by decide)]
               unfold jn
               rw [if_neg (by decide), if_neg (by decide), if_pos rfl]
               first
               | rw [if_pos (Int32.not_le.mp c109)]
               | rw [if_neg (Int32.not_lt.mpr c109)])
            | (have h6 : ¬ tT τ0 t n a1 = 60 := fun h => c85 (l_cmp_eq0.mpr (h60.mpr h))
               refine kk ?_ (hK2 _ _ rfl _ hM9)
               rw [if_neg h6, evc_bin hw hw2 (by decide)]
               unfold jn
               rw [if_neg (by decide), if_neg (by decide), if_neg (by decide), if_pos rfl]
               first
               | rw [if_pos c117]
               | rw [if_neg c117]
               | rw [if_pos c117])
        · refine g_iconst (v := (1)) B dX6_not2_120 (by decide) ?_
          refine g_goto (tgt := 125) B dX6_not2_121 (by decide) ?_
          refine g_ireti B dX6_not2_125 ?_
          first
            | exact hK1 f rfl _ _ hB9
            | exact absurd rfl c104
            | exact absurd c104 (by decide)
            | (have h6 := h60.mp (l_cmp_eq0.mp c85)
               refine kk ?_ (hK2 _ _ rfl _ hM9)
               rw [if_pos h6, evc_bin hw hw2 (by decide)]
               unfold jn
               rw [if_neg (by decide), if_neg (by decide), if_pos rfl]
               first
               | rw [if_pos (Int32.not_le.mp c109)]
               | rw [if_neg (Int32.not_lt.mpr c109)])
            | (have h6 : ¬ tT τ0 t n a1 = 60 := fun h => c85 (l_cmp_eq0.mpr (h60.mpr h))
               refine kk ?_ (hK2 _ _ rfl _ hM9)
               rw [if_neg h6, evc_bin hw hw2 (by decide)]
               unfold jn
               rw [if_neg (by decide), if_neg (by decide), if_neg (by decide), if_pos rfl]
               first
               | rw [if_pos c117]
               | rw [if_neg c117]
               | rw [if_pos c117])
      · refine g_iload_n B dX6_not2_107 rfl ?_
        refine g_iload_n B dX6_not2_108 rfl ?_
        refine g_icmp_ge (tgt := 124) B dX6_not2_109 (by decide) (fun c109 => ?_) (fun c109 => ?_)
        · refine g_iconst (v := (0)) B dX6_not2_124 (by decide) ?_
          refine g_ireti B dX6_not2_125 ?_
          first
            | exact hK1 f rfl _ _ hB9
            | exact absurd rfl c104
            | exact absurd c104 (by decide)
            | (have h6 := h60.mp (l_cmp_eq0.mp c85)
               refine kk ?_ (hK2 _ _ rfl _ hM9)
               rw [if_pos h6, evc_bin hw hw2 (by decide)]
               unfold jn
               rw [if_neg (by decide), if_neg (by decide), if_pos rfl]
               first
               | rw [if_pos (Int32.not_le.mp c109)]
               | rw [if_neg (Int32.not_lt.mpr c109)])
            | (have h6 : ¬ tT τ0 t n a1 = 60 := fun h => c85 (l_cmp_eq0.mpr (h60.mpr h))
               refine kk ?_ (hK2 _ _ rfl _ hM9)
               rw [if_neg h6, evc_bin hw hw2 (by decide)]
               unfold jn
               rw [if_neg (by decide), if_neg (by decide), if_neg (by decide), if_pos rfl]
               first
               | rw [if_pos c117]
               | rw [if_neg c117]
               | rw [if_pos c117])
        · refine g_goto (tgt := 120) B dX6_not2_112 (by decide) ?_
          refine g_iconst (v := (1)) B dX6_not2_120 (by decide) ?_
          refine g_goto (tgt := 125) B dX6_not2_121 (by decide) ?_
          refine g_ireti B dX6_not2_125 ?_
          first
            | exact hK1 f rfl _ _ hB9
            | exact absurd rfl c104
            | exact absurd c104 (by decide)
            | (have h6 := h60.mp (l_cmp_eq0.mp c85)
               refine kk ?_ (hK2 _ _ rfl _ hM9)
               rw [if_pos h6, evc_bin hw hw2 (by decide)]
               unfold jn
               rw [if_neg (by decide), if_neg (by decide), if_pos rfl]
               first
               | rw [if_pos (Int32.not_le.mp c109)]
               | rw [if_neg (Int32.not_lt.mpr c109)])
            | (have h6 : ¬ tT τ0 t n a1 = 60 := fun h => c85 (l_cmp_eq0.mpr (h60.mpr h))
               refine kk ?_ (hK2 _ _ rfl _ hM9)
               rw [if_neg h6, evc_bin hw hw2 (by decide)]
               unfold jn
               rw [if_neg (by decide), if_neg (by decide), if_neg (by decide), if_pos rfl]
               first
               | rw [if_pos c117]
               | rw [if_neg c117]
               | rw [if_pos c117])
    · rw [hf] at hK1 hK2; dsimp only at hK1 hK2; have hw2 := (pSum_ok (tT_TV hR) (pLev_ok (tT_TV hR) _) _ _ _ hf).1
      refine g_istore_n B dX6_not2_102 (by decide) rfl ?_
      refine g_iload_n B dX6_not2_103 rfl ?_
      refine g_if_eq (tgt := 115) B dX6_not2_104 (by decide) (fun c104 => ?_) (fun c104 => ?_)
      · refine g_iload_n B dX6_not2_115 rfl ?_
        refine g_iload_n B dX6_not2_116 rfl ?_
        refine g_icmp_ne (tgt := 124) B dX6_not2_117 (by decide) (fun c117 => ?_) (fun c117 => ?_)
        · refine g_iconst (v := (0)) B dX6_not2_124 (by decide) ?_
          refine g_ireti B dX6_not2_125 ?_
          first
            | exact hK1 f rfl _ _ hB9
            | exact absurd rfl c104
            | exact absurd c104 (by decide)
            | (have h6 := h60.mp (l_cmp_eq0.mp c85)
               refine kk ?_ (hK2 _ _ rfl _ hM9)
               rw [if_pos h6, evc_bin hw hw2 (by decide)]
               unfold jn
               rw [if_neg (by decide), if_neg (by decide), if_pos rfl]
               first
               | rw [if_pos (Int32.not_le.mp c109)]
               | rw [if_neg (Int32.not_lt.mpr c109)])
            | (have h6 : ¬ tT τ0 t n a1 = 60 := fun h => c85 (l_cmp_eq0.mpr (h60.mpr h))
               refine kk ?_ (hK2 _ _ rfl _ hM9)
               rw [if_neg h6, evc_bin hw hw2 (by decide)]
               unfold jn
               rw [if_neg (by decide), if_neg (by decide), if_neg (by decide), if_pos rfl]
               first
               | rw [if_pos c117]
               | rw [if_neg c117]
               | rw [if_pos c117])
        · refine g_iconst (v := (1)) B dX6_not2_120 (by decide) ?_
          refine g_goto (tgt := 125) B dX6_not2_121 (by decide) ?_
          refine g_ireti B dX6_not2_125 ?_
          first
            | exact hK1 f rfl _ _ hB9
            | exact absurd rfl c104
            | exact absurd c104 (by decide)
            | (have h6 := h60.mp (l_cmp_eq0.mp c85)
               refine kk ?_ (hK2 _ _ rfl _ hM9)
               rw [if_pos h6, evc_bin hw hw2 (by decide)]
               unfold jn
               rw [if_neg (by decide), if_neg (by decide), if_pos rfl]
               first
               | rw [if_pos (Int32.not_le.mp c109)]
               | rw [if_neg (Int32.not_lt.mpr c109)])
            | (have h6 : ¬ tT τ0 t n a1 = 60 := fun h => c85 (l_cmp_eq0.mpr (h60.mpr h))
               refine kk ?_ (hK2 _ _ rfl _ hM9)
               rw [if_neg h6, evc_bin hw hw2 (by decide)]
               unfold jn
               rw [if_neg (by decide), if_neg (by decide), if_neg (by decide), if_pos rfl]
               first
               | rw [if_pos c117]
               | rw [if_neg c117]
               | rw [if_pos c117])
      · refine g_iload_n B dX6_not2_107 rfl ?_
        refine g_iload_n B dX6_not2_108 rfl ?_
        refine g_icmp_ge (tgt := 124) B dX6_not2_109 (by decide) (fun c109 => ?_) (fun c109 => ?_)
        · refine g_iconst (v := (0)) B dX6_not2_124 (by decide) ?_
          refine g_ireti B dX6_not2_125 ?_
          first
            | exact hK1 f rfl _ _ hB9
            | exact absurd rfl c104
            | exact absurd c104 (by decide)
            | (have h6 := h60.mp (l_cmp_eq0.mp c85)
               refine kk ?_ (hK2 _ _ rfl _ hM9)
               rw [if_pos h6, evc_bin hw hw2 (by decide)]
               unfold jn
               rw [if_neg (by decide), if_neg (by decide), if_pos rfl]
               first
               | rw [if_pos (Int32.not_le.mp c109)]
               | rw [if_neg (Int32.not_lt.mpr c109)])
            | (have h6 : ¬ tT τ0 t n a1 = 60 := fun h => c85 (l_cmp_eq0.mpr (h60.mpr h))
               refine kk ?_ (hK2 _ _ rfl _ hM9)
               rw [if_neg h6, evc_bin hw hw2 (by decide)]
               unfold jn
               rw [if_neg (by decide), if_neg (by decide), if_neg (by decide), if_pos rfl]
               first
               | rw [if_pos c117]
               | rw [if_neg c117]
               | rw [if_pos c117])
        · refine g_goto (tgt := 120) B dX6_not2_112 (by decide) ?_
          refine g_iconst (v := (1)) B dX6_not2_120 (by decide) ?_
          refine g_goto (tgt := 125) B dX6_not2_121 (by decide) ?_
          refine g_ireti B dX6_not2_125 ?_
          first
            | exact hK1 f rfl _ _ hB9
            | exact absurd rfl c104
            | exact absurd c104 (by decide)
            | (have h6 := h60.mp (l_cmp_eq0.mp c85)
               refine kk ?_ (hK2 _ _ rfl _ hM9)
               rw [if_pos h6, evc_bin hw hw2 (by decide)]
               unfold jn
               rw [if_neg (by decide), if_neg (by decide), if_pos rfl]
               first
               | rw [if_pos (Int32.not_le.mp c109)]
               | rw [if_neg (Int32.not_lt.mpr c109)])
            | (have h6 : ¬ tT τ0 t n a1 = 60 := fun h => c85 (l_cmp_eq0.mpr (h60.mpr h))
               refine kk ?_ (hK2 _ _ rfl _ hM9)
               rw [if_neg h6, evc_bin hw hw2 (by decide)]
               unfold jn
               rw [if_neg (by decide), if_neg (by decide), if_neg (by decide), if_pos rfl]
               first
               | rw [if_pos c117]
               | rw [if_neg c117]
               | rw [if_pos c117])

set_option maxRecDepth 100000 in
set_option maxHeartbeats 4000000 in
theorem c_not2 {Z : LZ} {ad : Nat → Nat} {τ0 τ : St} {K : Int32 → St → Prop} {t n a : Nat} (hR : RB τ0 t n) (hM : MS τ0 t n 2 a τ) (hK1 : ∀ f, pNot (tT τ0 t n) (tV τ0 t n) (pLev (tT τ0 t n) (tV τ0 t n) 3) a = .inl f → ∀ v τ', MB τ0 t n f τ' → K v τ') (hK2 : ∀ cs a2, pNot (tT τ0 t n) (tV τ0 t n) (pLev (tT τ0 t n) (tV τ0 t n) 3) a = .inr (cs, a2) → ∀ τ', MS τ0 t n 2 a2 τ' → K (evc (eM τ0) cs) τ') : CC lyM Z ad yX6_not2 wsX6_not2 (rmk 25) [.ref (ad 0)] τ (rI K) := by
  refine CC.of (cc := cX6_not2) (nL := 4) (ret := (some .int)) rfl rfl ⟨rfl, rfl⟩ (by exact Nat.le_of_ble_eq_true rfl) ?_
  intro X B
  change GG _ _ _ _ X _ 0 [some (.ref (ad 0)), none, none, none] [] _
  change Amb _ _ _ _ X _ _ RX6 _ _ at B
  refine g_aload_n B dX6_not2_0 rfl ?_
  refine g_bipush (v := (110)) B dX6_not2_1 (by decide) ?_
  refine g_bipush (v := (111)) B dX6_not2_3 (by decide) ?_
  refine g_bipush (v := (116)) B dX6_not2_5 (by decide) ?_
  refine g_iconst (v := (0)) B dX6_not2_7 (by decide) ?_
  refine g_iconst (v := (0)) B dX6_not2_8 (by decide) ?_
  refine g_iconst (v := (0)) B dX6_not2_9 (by decide) ?_
  refine g_iconst (v := (0)) B dX6_not2_10 (by decide) ?_
  refine g_iconst (v := (0)) B dX6_not2_11 (by decide) ?_
  refine g_callVi (C := RX6) (As := [.int _, .int _, .int _, .int _, .int _, .int _, .int _, .int _]) B dX6_not2_12 (gc1 g_X6_180) (by rfl) ⟨rfl, hd_X6_isWord⟩ (by exact ⟨Nat.le_of_ble_eq_true rfl, Nat.le_of_ble_eq_true rfl⟩) ⟨rfl, rfl⟩ rfl rfl (by exact Nat.le_of_ble_eq_true rfl) recvM (c_key (c := 306) hR hM (by decide) (fun _ _ _ => wS_not) ?_)
  refine g_if_eq (tgt := 52) B dX6_not2_15 (by decide) (fun c15 => ?_) (fun c15 => ?_)
  · have hno : ¬ tT τ0 t n a = 306 := b1_0.mp c15
    unfold pNot at hK1 hK2
    rw [if_neg hno] at hK1 hK2
    unfold pCmp at hK1 hK2
    refine g_aload_n B dX6_not2_52 rfl ?_
    refine g_callVi (C := RX6) (As := []) B dX6_not2_53 (gc1 g_X6_277) (by rfl) ⟨rfl, hd_X6_added2⟩ (by exact ⟨Nat.le_of_ble_eq_true rfl, Nat.le_of_ble_eq_true rfl⟩) ⟨rfl, rfl⟩ rfl rfl (by exact Nat.le_of_ble_eq_true rfl) recvM (c_added2 hR hM (fun f hf v8 τ8 hB8 => ?_) (fun cs a1 hf τ8 hM8 => ?_))
    · rw [hf] at hK1; dsimp only at hK1
      refine g_istore_n B dX6_not2_56 (by decide) rfl ?_
      refine g_aload_n B dX6_not2_57 rfl ?_
      refine g_bipush (v := (60)) B dX6_not2_58 (by decide) ?_
      first
        | refine g_callVi (C := RX6) (As := [.int _]) B dX6_not2_60 (gc1 g_X6_202) (by rfl) ⟨rfl, hd_X6_isSign⟩ (by exact ⟨Nat.le_of_ble_eq_true rfl, Nat.le_of_ble_eq_true rfl⟩) ⟨rfl, rfl⟩ rfl rfl (by exact Nat.le_of_ble_eq_true rfl) recvM (c_sgnB hB8 ?_)
        | refine g_callVi (C := RX6) (As := [.int _]) B dX6_not2_60 (gc1 g_X6_202) (by rfl) ⟨rfl, hd_X6_isSign⟩ (by exact ⟨Nat.le_of_ble_eq_true rfl, Nat.le_of_ble_eq_true rfl⟩) ⟨rfl, rfl⟩ rfl rfl (by exact Nat.le_of_ble_eq_true rfl) recvM (c_sgn hM8 (show isS 60 by decide) ?_)
      refine g_if_ne (tgt := 77) B dX6_not2_63 (by decide) (fun c63 => ?_) (fun c63 => ?_)
      · first
          | exact absurd rfl c63
          | exact absurd rfl c72
          | (have hT : tT τ0 t n a1 = 60 ∨ tT τ0 t n a1 = 61 := by first | exact Or.inl (b1_n0.mp c63) | exact Or.inr (b1_n0.mp c72)
             rw [if_pos hT] at hK1 hK2
             exact n2_not2 B hR (pSum_ok (tT_TV hR) (pLev_ok (tT_TV hR) _) _ _ _ hf).1 hM8 hT hK1 hK2)
      · refine g_aload_n B dX6_not2_66 rfl ?_
        refine g_bipush (v := (61)) B dX6_not2_67 (by decide) ?_
        first
          | refine g_callVi (C := RX6) (As := [.int _]) B dX6_not2_69 (gc1 g_X6_202) (by rfl) ⟨rfl, hd_X6_isSign⟩ (by exact ⟨Nat.le_of_ble_eq_true rfl, Nat.le_of_ble_eq_true rfl⟩) ⟨rfl, rfl⟩ rfl rfl (by exact Nat.le_of_ble_eq_true rfl) recvM (c_sgnB hB8 ?_)
          | refine g_callVi (C := RX6) (As := [.int _]) B dX6_not2_69 (gc1 g_X6_202) (by rfl) ⟨rfl, hd_X6_isSign⟩ (by exact ⟨Nat.le_of_ble_eq_true rfl, Nat.le_of_ble_eq_true rfl⟩) ⟨rfl, rfl⟩ rfl rfl (by exact Nat.le_of_ble_eq_true rfl) recvM (c_sgn hM8 (show isS 61 by decide) ?_)
        refine g_if_ne (tgt := 77) B dX6_not2_72 (by decide) (fun c72 => ?_) (fun c72 => ?_)
        · first
            | exact absurd rfl c63
            | exact absurd rfl c72
            | (have hT : tT τ0 t n a1 = 60 ∨ tT τ0 t n a1 = 61 := by first | exact Or.inl (b1_n0.mp c63) | exact Or.inr (b1_n0.mp c72)
               rw [if_pos hT] at hK1 hK2
               exact n2_not2 B hR (pSum_ok (tT_TV hR) (pLev_ok (tT_TV hR) _) _ _ _ hf).1 hM8 hT hK1 hK2)
        · refine g_iload_n B dX6_not2_75 rfl ?_
          refine g_ireti B dX6_not2_76 ?_
          first
            | exact hK1 f rfl _ _ hB8
            | (rw [if_neg (fun h => h.elim (b1_0.mp c63) (b1_0.mp c72))] at hK2
               exact hK2 _ _ rfl _ hM8)
    · rw [hf] at hK1 hK2; dsimp only at hK1 hK2
      refine g_istore_n B dX6_not2_56 (by decide) rfl ?_
      refine g_aload_n B dX6_not2_57 rfl ?_
      refine g_bipush (v := (60)) B dX6_not2_58 (by decide) ?_
      first
        | refine g_callVi (C := RX6) (As := [.int _]) B dX6_not2_60 (gc1 g_X6_202) (by rfl) ⟨rfl, hd_X6_isSign⟩ (by exact ⟨Nat.le_of_ble_eq_true rfl, Nat.le_of_ble_eq_true rfl⟩) ⟨rfl, rfl⟩ rfl rfl (by exact Nat.le_of_ble_eq_true rfl) recvM (c_sgnB hB8 ?_)
        | refine g_callVi (C := RX6) (As := [.int _]) B dX6_not2_60 (gc1 g_X6_202) (by rfl) ⟨rfl, hd_X6_isSign⟩ (by exact ⟨Nat.le_of_ble_eq_true rfl, Nat.le_of_ble_eq_true rfl⟩) ⟨rfl, rfl⟩ rfl rfl (by exact Nat.le_of_ble_eq_true rfl) recvM (c_sgn hM8 (show isS 60 by decide) ?_)
      refine g_if_ne (tgt := 77) B dX6_not2_63 (by decide) (fun c63 => ?_) (fun c63 => ?_)
      · first
          | exact absurd rfl c63
          | exact absurd rfl c72
          | (have hT : tT τ0 t n a1 = 60 ∨ tT τ0 t n a1 = 61 := by first | exact Or.inl (b1_n0.mp c63) | exact Or.inr (b1_n0.mp c72)
             rw [if_pos hT] at hK1 hK2
             exact n2_not2 B hR (pSum_ok (tT_TV hR) (pLev_ok (tT_TV hR) _) _ _ _ hf).1 hM8 hT hK1 hK2)
      · refine g_aload_n B dX6_not2_66 rfl ?_
        refine g_bipush (v := (61)) B dX6_not2_67 (by decide) ?_
        first
          | refine g_callVi (C := RX6) (As := [.int _]) B dX6_not2_69 (gc1 g_X6_202) (by rfl) ⟨rfl, hd_X6_isSign⟩ (by exact ⟨Nat.le_of_ble_eq_true rfl, Nat.le_of_ble_eq_true rfl⟩) ⟨rfl, rfl⟩ rfl rfl (by exact Nat.le_of_ble_eq_true rfl) recvM (c_sgnB hB8 ?_)
          | refine g_callVi (C := RX6) (As := [.int _]) B dX6_not2_69 (gc1 g_X6_202) (by rfl) ⟨rfl, hd_X6_isSign⟩ (by exact ⟨Nat.le_of_ble_eq_true rfl, Nat.le_of_ble_eq_true rfl⟩) ⟨rfl, rfl⟩ rfl rfl (by exact Nat.le_of_ble_eq_true rfl) recvM (c_sgn hM8 (show isS 61 by decide) ?_)
        refine g_if_ne (tgt := 77) B dX6_not2_72 (by decide) (fun c72 => ?_) (fun c72 => ?_)
        · first
            | exact absurd rfl c63
            | exact absurd rfl c72
            | (have hT : tT τ0 t n a1 = 60 ∨ tT τ0 t n a1 = 61 := by first | exact Or.inl (b1_n0.mp c63) | exact Or.inr (b1_n0.mp c72)
               rw [if_pos hT] at hK1 hK2
               exact n2_not2 B hR (pSum_ok (tT_TV hR) (pLev_ok (tT_TV hR) _) _ _ _ hf).1 hM8 hT hK1 hK2)
        · refine g_iload_n B dX6_not2_75 rfl ?_
          refine g_ireti B dX6_not2_76 ?_
          first
            | exact hK1 f rfl _ _ hB8
            | (rw [if_neg (fun h => h.elim (b1_0.mp c63) (b1_0.mp c72))] at hK2
               exact hK2 _ _ rfl _ hM8)
  · refine g_aload_n B dX6_not2_18 rfl ?_
    refine g_callVi (C := RX6) (As := []) B dX6_not2_19 (gc1 g_X6_205) (by rfl) ⟨rfl, hd_X6_opens⟩ (by exact ⟨Nat.le_of_ble_eq_true rfl, Nat.le_of_ble_eq_true rfl⟩) ⟨rfl, rfl⟩ rfl rfl (by exact Nat.le_of_ble_eq_true rfl) recvM (c_opn hR hM (by decide) (by rw [b1_n0.mp c15]; decide) (fun τ7 hM7 => ?_))
    refine g_if_ne (tgt := 27) B dX6_not2_22 (by decide) (fun c22 => ?_) (fun c22 => ?_)
    · refine g_aload_n B dX6_not2_27 rfl ?_
      refine g_callVi (C := RX6) (As := []) B dX6_not2_28 (gc1 g_X6_262) (by rfl) ⟨rfl, hd_X6_not3⟩ (by exact ⟨Nat.le_of_ble_eq_true rfl, Nat.le_of_ble_eq_true rfl⟩) ⟨rfl, rfl⟩ rfl rfl (by exact Nat.le_of_ble_eq_true rfl) recvM (c_not3 hR hM7 (fun f hf v8 τ8 hB8 => ?_) (fun cs a2 hf τ8 hM8 => ?_))
      · refine g_istore_n B dX6_not2_31 (by decide) rfl ?_
        refine g_aload_n B dX6_not2_32 rfl ?_
        refine g_dup B dX6_not2_33 rfl ?_
        refine g_getI (T := TX6) (N := 42) B dX6_not2_34 (by decide) (by rfl) (inq inlX6) rfl 24 (by decide) (mq f_X6_171) (by rfl) ?_
        refine g_iconst (v := (1)) B dX6_not2_37 (by decide) ?_
        refine g_isub B dX6_not2_38 ?_
        refine g_putI (T := TX6) (N := 42) B dX6_not2_39 (by decide) (by rfl) (inq inlX6) rfl 24 (by decide) (mq f_X6_171) tyX6_ok nmX6 rfl ⟨rfl, rfl⟩ (by rfl) ?_
        refine g_iload_n B dX6_not2_42 rfl ?_
        refine g_if_ne (tgt := 50) B dX6_not2_43 (by decide) (fun c43 => ?_) (fun c43 => ?_)
        · refine g_iconst (v := (0)) B dX6_not2_50 (by decide) ?_
          refine g_ireti B dX6_not2_51 ?_
          first
            | (refine hK1 f ?_ _ _ hB8.close
               unfold pNot
               rw [if_pos (b1_n0.mp c15)]
               show (match pNot (tT τ0 t n) (tV τ0 t n) (pLev (tT τ0 t n) (tV τ0 t n) 2) (a + 1) with | .inl f => _ | .inr (cs, a2) => _) = _
               rw [hf])
            | (refine kk ?_ (hK2 (cs ++ [-21]) a2 (by
                 unfold pNot
                 rw [if_pos (b1_n0.mp c15)]
                 show (match pNot (tT τ0 t n) (tV τ0 t n) (pLev (tT τ0 t n) (tV τ0 t n) 2) (a + 1) with | .inl f => _ | .inr (cs, a2) => _) = _
                 rw [hf]) _ (MS.close (by decide) hM8))
               rw [evc_not (pNot_ok (tT_TV hR) (pLev_ok (tT_TV hR) _) _ _ _ hf).1]
               first
               | rw [if_neg c43]
               | rw [if_pos c43])
        · refine g_iconst (v := (1)) B dX6_not2_46 (by decide) ?_
          refine g_goto (tgt := 51) B dX6_not2_47 (by decide) ?_
          refine g_ireti B dX6_not2_51 ?_
          first
            | (refine hK1 f ?_ _ _ hB8.close
               unfold pNot
               rw [if_pos (b1_n0.mp c15)]
               show (match pNot (tT τ0 t n) (tV τ0 t n) (pLev (tT τ0 t n) (tV τ0 t n) 2) (a + 1) with | .inl f => _ | .inr (cs, a2) => _) = _
               rw [hf])
            | (refine kk ?_ (hK2 (cs ++ [-21]) a2 (by
                 unfold pNot
                 rw [if_pos (b1_n0.mp c15)]
                 show (match pNot (tT τ0 t n) (tV τ0 t n) (pLev (tT τ0 t n) (tV τ0 t n) 2) (a + 1) with | .inl f => _ | .inr (cs, a2) => _) = _
                 rw [hf]) _ (MS.close (by decide) hM8))
               rw [evc_not (pNot_ok (tT_TV hR) (pLev_ok (tT_TV hR) _) _ _ _ hf).1]
               first
               | rw [if_neg c43]
               | rw [if_pos c43])
      · refine g_istore_n B dX6_not2_31 (by decide) rfl ?_
        refine g_aload_n B dX6_not2_32 rfl ?_
        refine g_dup B dX6_not2_33 rfl ?_
        refine g_getI (T := TX6) (N := 42) B dX6_not2_34 (by decide) (by rfl) (inq inlX6) rfl 24 (by decide) (mq f_X6_171) (by rfl) ?_
        refine g_iconst (v := (1)) B dX6_not2_37 (by decide) ?_
        refine g_isub B dX6_not2_38 ?_
        refine g_putI (T := TX6) (N := 42) B dX6_not2_39 (by decide) (by rfl) (inq inlX6) rfl 24 (by decide) (mq f_X6_171) tyX6_ok nmX6 rfl ⟨rfl, rfl⟩ (by rfl) ?_
        refine g_iload_n B dX6_not2_42 rfl ?_
        refine g_if_ne (tgt := 50) B dX6_not2_43 (by decide) (fun c43 => ?_) (fun c43 => ?_)
        · refine g_iconst (v := (0)) B dX6_not2_50 (by decide) ?_
          refine g_ireti B dX6_not2_51 ?_
          first
            | (refine hK1 f ?_ _ _ hB8.close
               unfold pNot
               rw [if_pos (b1_n0.mp c15)]
               show (match pNot (tT τ0 t n) (tV τ0 t n) (pLev (tT τ0 t n) (tV τ0 t n) 2) (a + 1) with | .inl f => _ | .inr (cs, a2) => _) = _
               rw [hf])
            | (refine kk ?_ (hK2 (cs ++ [-21]) a2 (by
                 unfold pNot
                 rw [if_pos (b1_n0.mp c15)]
                 show (match pNot (tT τ0 t n) (tV τ0 t n) (pLev (tT τ0 t n) (tV τ0 t n) 2) (a + 1) with | .inl f => _ | .inr (cs, a2) => _) = _
                 rw [hf]) _ (MS.close (by decide) hM8))
               rw [evc_not (pNot_ok (tT_TV hR) (pLev_ok (tT_TV hR) _) _ _ _ hf).1]
               first
               | rw [if_neg c43]
               | rw [if_pos c43])
        · refine g_iconst (v := (1)) B dX6_not2_46 (by decide) ?_
          refine g_goto (tgt := 51) B dX6_not2_47 (by decide) ?_
          refine g_ireti B dX6_not2_51 ?_
          first
            | (refine hK1 f ?_ _ _ hB8.close
               unfold pNot
               rw [if_pos (b1_n0.mp c15)]
               show (match pNot (tT τ0 t n) (tV τ0 t n) (pLev (tT τ0 t n) (tV τ0 t n) 2) (a + 1) with | .inl f => _ | .inr (cs, a2) => _) = _
               rw [hf])
            | (refine kk ?_ (hK2 (cs ++ [-21]) a2 (by
                 unfold pNot
                 rw [if_pos (b1_n0.mp c15)]
                 show (match pNot (tT τ0 t n) (tV τ0 t n) (pLev (tT τ0 t n) (tV τ0 t n) 2) (a + 1) with | .inl f => _ | .inr (cs, a2) => _) = _
                 rw [hf]) _ (MS.close (by decide) hM8))
               rw [evc_not (pNot_ok (tT_TV hR) (pLev_ok (tT_TV hR) _) _ _ _ hf).1]
               first
               | rw [if_neg c43]
               | rw [if_pos c43])
    · refine g_iconst (v := (0)) B dX6_not2_25 (by decide) ?_
      refine g_ireti B dX6_not2_26 ?_
      exact absurd c22 (by decide)
set_option maxRecDepth 100000 in
set_option maxHeartbeats 4000000 in
theorem lB_both2 {Z : LZ} {ad : Nat → Nat} {X : CX} {K : Int32 → St → Prop} {τ0 τ : St} {t n f : Nat} {v : Int32} (B : Amb lyM Z ad (rmk 26) X cX6_both2 wsX6_both2 RX6 3 (some .int)) (hB : MB τ0 t n f τ) (hK : K v τ) : GG lyM Z ad (rmk 26) X (rI K) 5 [some (.ref (ad 0)), some (.int v), none] [] τ := by
  refine g_aload_n B dX6_both2_5 rfl ?_
  refine g_bipush (v := (97)) B dX6_both2_6 (by decide) ?_
  refine g_bipush (v := (110)) B dX6_both2_8 (by decide) ?_
  refine g_bipush (v := (100)) B dX6_both2_10 (by decide) ?_
  refine g_iconst (v := (0)) B dX6_both2_12 (by decide) ?_
  refine g_iconst (v := (0)) B dX6_both2_13 (by decide) ?_
  refine g_iconst (v := (0)) B dX6_both2_14 (by decide) ?_
  refine g_iconst (v := (0)) B dX6_both2_15 (by decide) ?_
  refine g_iconst (v := (0)) B dX6_both2_16 (by decide) ?_
  refine g_callVi (C := RX6) (As := [.int _, .int _, .int _, .int _, .int _, .int _, .int _, .int _]) B dX6_both2_17 (gc1 g_X6_180) (by rfl) ⟨rfl, hd_X6_isWord⟩ (by exact ⟨Nat.le_of_ble_eq_true rfl, Nat.le_of_ble_eq_true rfl⟩) ⟨rfl, rfl⟩ rfl rfl (by exact Nat.le_of_ble_eq_true rfl) recvM (c_keyB hB ?_)
  refine g_if_eq (tgt := 49) B dX6_both2_20 (by decide) (fun c20 => ?_) (fun c20 => ?_)
  · refine g_iload_n B dX6_both2_49 rfl ?_
    refine g_ireti B dX6_both2_50 ?_
    exact hK
  · exact absurd rfl c20
set_option maxRecDepth 100000 in
set_option maxHeartbeats 4000000 in
theorem l_both2 {Z : LZ} {ad : Nat → Nat} {X : CX} {K : Int32 → St → Prop} {τ0 : St} {t n : Nat} (B : Amb lyM Z ad (rmk 26) X cX6_both2 wsX6_both2 RX6 3 (some .int)) (hR : RB τ0 t n) : ∀ (k : Nat) (cs : List Int32) (b : Nat) (τ : St), 160 ≤ b + k → WF cs → MS τ0 t n 2 b τ → (∀ f, pLoop (pNot (tT τ0 t n) (tV τ0 t n) (pLev (tT τ0 t n) (tV τ0 t n) 3)) (opAnd (tT τ0 t n)) (k + 1) cs b = .inl f → ∀ v τ', MB τ0 t n f τ' → K v τ') → (∀ ds a2, pLoop (pNot (tT τ0 t n) (tV τ0 t n) (pLev (tT τ0 t n) (tV τ0 t n) 3)) (opAnd (tT τ0 t n)) (k + 1) cs b = .inr (ds, a2) → ∀ τ', MS τ0 t n 2 a2 τ' → K (evc (eM τ0) ds) τ') → GG lyM Z ad (rmk 26) X (rI K) 5 [some (.ref (ad 0)), some (.int (evc (eM τ0) cs)), none] [] τ := by
  intro k
  induction k using Nat.strongRecOn with
  | ind k ih =>
  intro cs b τ hk hw hM hK1 hK2
  have hn := hR.2.2.2
  unfold pLoop at hK1 hK2
  refine g_aload_n B dX6_both2_5 rfl ?_
  refine g_bipush (v := (97)) B dX6_both2_6 (by decide) ?_
  refine g_bipush (v := (110)) B dX6_both2_8 (by decide) ?_
  refine g_bipush (v := (100)) B dX6_both2_10 (by decide) ?_
  refine g_iconst (v := (0)) B dX6_both2_12 (by decide) ?_
  refine g_iconst (v := (0)) B dX6_both2_13 (by decide) ?_
  refine g_iconst (v := (0)) B dX6_both2_14 (by decide) ?_
  refine g_iconst (v := (0)) B dX6_both2_15 (by decide) ?_
  refine g_iconst (v := (0)) B dX6_both2_16 (by decide) ?_
  refine g_callVi (C := RX6) (As := [.int _, .int _, .int _, .int _, .int _, .int _, .int _, .int _]) B dX6_both2_17 (gc1 g_X6_180) (by rfl) ⟨rfl, hd_X6_isWord⟩ (by exact ⟨Nat.le_of_ble_eq_true rfl, Nat.le_of_ble_eq_true rfl⟩) ⟨rfl, rfl⟩ rfl rfl (by exact Nat.le_of_ble_eq_true rfl) recvM (c_key (c := 305) hR hM (by decide) (fun _ _ _ => wS_and) ?_)
  refine g_if_eq (tgt := 49) B dX6_both2_20 (by decide) (fun c20 => ?_) (fun c20 => ?_)
  · refine g_iload_n B dX6_both2_49 rfl ?_
    refine g_ireti B dX6_both2_50 ?_
    have hop : opAnd (tT τ0 t n) b = none := if_neg (b1_0.mp c20)
    rw [hop] at hK2
    exact hK2 _ _ rfl τ hM
  · have hT := b1_n0.mp c20
    have hop : opAnd (tT τ0 t n) b = some (-12) := if_pos hT
    have hb := tT_lt hR (show tT τ0 t n b ≠ 0 by rw [hT]; decide)
    rw [hop] at hK1 hK2
    dsimp only at hK1 hK2
    refine g_aload_n B dX6_both2_23 rfl ?_
    refine g_callVv (C := RX6) (As := []) B dX6_both2_24 (gc1 g_X6_177) (by rfl) ⟨rfl, hd_X6_next⟩ (by exact ⟨Nat.le_of_ble_eq_true rfl, Nat.le_of_ble_eq_true rfl⟩) ⟨rfl, rfl⟩ rfl rfl (by exact Nat.le_of_ble_eq_true rfl) recvM (c_nx hR hM (by rw [hT]; decide) (fun τ2 hM2 => ?_))
    refine g_aload_n B dX6_both2_27 rfl ?_
    refine g_callVi (C := RX6) (As := []) B dX6_both2_28 (gc1 g_X6_280) (by rfl) ⟨rfl, hd_X6_not2⟩ (by exact ⟨Nat.le_of_ble_eq_true rfl, Nat.le_of_ble_eq_true rfl⟩) ⟨rfl, rfl⟩ rfl rfl (by exact Nat.le_of_ble_eq_true rfl) recvM (c_not2 hR hM2 (fun f hf v8 τ8 hB8 => ?_) (fun cs2 a2 hf τ8 hM8 => ?_))
    · rw [hf] at hK1; dsimp only at hK1
      refine g_istore_n B dX6_both2_31 (by decide) rfl ?_
      refine g_iload_n B dX6_both2_32 rfl ?_
      refine g_if_eq (tgt := 44) B dX6_both2_33 (by decide) (fun c33 => ?_) (fun c33 => ?_)
      · refine g_iconst (v := (0)) B dX6_both2_44 (by decide) ?_
        refine g_istore_n B dX6_both2_45 (by decide) rfl ?_
        refine g_goto (tgt := 5) B dX6_both2_46 (by decide) ?_
        refine g_drop 2 ?_
        first
          | exact lB_both2 B hB8 (hK1 f rfl _ _ hB8)
          | (have hv : ∀ z : Int32, z = jn (-12) (evc (eM τ0) cs) (evc (eM τ0) cs2) → z = evc (eM τ0) (cs ++ cs2 ++ [-12]) := fun z h => h.trans (evc_bin hw hw2 (by decide)).symm
             first
             | rw [hv 0 (jn_and_l c33)]
             | rw [hv 0 (jn_and_r c37)]
             | rw [hv 1 (jn_and_1 c33 c37)]
             obtain ⟨k', rfl⟩ : ∃ k', k = k' + 1 := ⟨k - 1, by omega⟩
             exact ih k' (by omega) (cs ++ cs2 ++ [-12]) a2 τ8 (by omega) (hw.bin hw2 (by decide)) hM8 hK1 hK2)
      · refine g_iload_n B dX6_both2_36 rfl ?_
        refine g_if_eq (tgt := 44) B dX6_both2_37 (by decide) (fun c37 => ?_) (fun c37 => ?_)
        · refine g_iconst (v := (0)) B dX6_both2_44 (by decide) ?_
          refine g_istore_n B dX6_both2_45 (by decide) rfl ?_
          refine g_goto (tgt := 5) B dX6_both2_46 (by decide) ?_
          refine g_drop 2 ?_
          first
            | exact lB_both2 B hB8 (hK1 f rfl _ _ hB8)
            | (have hv : ∀ z : Int32, z = jn (-12) (evc (eM τ0) cs) (evc (eM τ0) cs2) → z = evc (eM τ0) (cs ++ cs2 ++ [-12]) := fun z h => h.trans (evc_bin hw hw2 (by decide)).symm
               first
               | rw [hv 0 (jn_and_l c33)]
               | rw [hv 0 (jn_and_r c37)]
               | rw [hv 1 (jn_and_1 c33 c37)]
               obtain ⟨k', rfl⟩ : ∃ k', k = k' + 1 := ⟨k - 1, by omega⟩
               exact ih k' (by omega) (cs ++ cs2 ++ [-12]) a2 τ8 (by omega) (hw.bin hw2 (by decide)) hM8 hK1 hK2)
        · refine g_iconst (v := (1)) B dX6_both2_40 (by decide) ?_
          refine g_goto (tgt := 45) B dX6_both2_41 (by decide) ?_
          refine g_istore_n B dX6_both2_45 (by decide) rfl ?_
          refine g_goto (tgt := 5) B dX6_both2_46 (by decide) ?_
          refine g_drop 2 ?_
          first
            | exact lB_both2 B hB8 (hK1 f rfl _ _ hB8)
            | (have hv : ∀ z : Int32, z = jn (-12) (evc (eM τ0) cs) (evc (eM τ0) cs2) → z = evc (eM τ0) (cs ++ cs2 ++ [-12]) := fun z h => h.trans (evc_bin hw hw2 (by decide)).symm
               first
               | rw [hv 0 (jn_and_l c33)]
               | rw [hv 0 (jn_and_r c37)]
               | rw [hv 1 (jn_and_1 c33 c37)]
               obtain ⟨k', rfl⟩ : ∃ k', k = k' + 1 := ⟨k - 1, by omega⟩
               exact ih k' (by omega) (cs ++ cs2 ++ [-12]) a2 τ8 (by omega) (hw.bin hw2 (by decide)) hM8 hK1 hK2)
    · rw [hf] at hK1 hK2; dsimp only at hK1 hK2; obtain ⟨hw2, hlt2⟩ := pNot_ok (tT_TV hR) (pLev_ok (tT_TV hR) _) _ _ _ hf
      refine g_istore_n B dX6_both2_31 (by decide) rfl ?_
      refine g_iload_n B dX6_both2_32 rfl ?_
      refine g_if_eq (tgt := 44) B dX6_both2_33 (by decide) (fun c33 => ?_) (fun c33 => ?_)
      · refine g_iconst (v := (0)) B dX6_both2_44 (by decide) ?_
        refine g_istore_n B dX6_both2_45 (by decide) rfl ?_
        refine g_goto (tgt := 5) B dX6_both2_46 (by decide) ?_
        refine g_drop 2 ?_
        first
          | exact lB_both2 B hB8 (hK1 f rfl _ _ hB8)
          | (have hv : ∀ z : Int32, z = jn (-12) (evc (eM τ0) cs) (evc (eM τ0) cs2) → z = evc (eM τ0) (cs ++ cs2 ++ [-12]) := fun z h => h.trans (evc_bin hw hw2 (by decide)).symm
             first
             | rw [hv 0 (jn_and_l c33)]
             | rw [hv 0 (jn_and_r c37)]
             | rw [hv 1 (jn_and_1 c33 c37)]
             obtain ⟨k', rfl⟩ : ∃ k', k = k' + 1 := ⟨k - 1, by omega⟩
             exact ih k' (by omega) (cs ++ cs2 ++ [-12]) a2 τ8 (by omega) (hw.bin hw2 (by decide)) hM8 hK1 hK2)
      · refine g_iload_n B dX6_both2_36 rfl ?_
        refine g_if_eq (tgt := 44) B dX6_both2_37 (by decide) (fun c37 => ?_) (fun c37 => ?_)
        · refine g_iconst (v := (0)) B dX6_both2_44 (by decide) ?_
          refine g_istore_n B dX6_both2_45 (by decide) rfl ?_
          refine g_goto (tgt := 5) B dX6_both2_46 (by decide) ?_
          refine g_drop 2 ?_
          first
            | exact lB_both2 B hB8 (hK1 f rfl _ _ hB8)
            | (have hv : ∀ z : Int32, z = jn (-12) (evc (eM τ0) cs) (evc (eM τ0) cs2) → z = evc (eM τ0) (cs ++ cs2 ++ [-12]) := fun z h => h.trans (evc_bin hw hw2 (by decide)).symm
               first
               | rw [hv 0 (jn_and_l c33)]
               | rw [hv 0 (jn_and_r c37)]
               | rw [hv 1 (jn_and_1 c33 c37)]
               obtain ⟨k', rfl⟩ : ∃ k', k = k' + 1 := ⟨k - 1, by omega⟩
               exact ih k' (by omega) (cs ++ cs2 ++ [-12]) a2 τ8 (by omega) (hw.bin hw2 (by decide)) hM8 hK1 hK2)
        · refine g_iconst (v := (1)) B dX6_both2_40 (by decide) ?_
          refine g_goto (tgt := 45) B dX6_both2_41 (by decide) ?_
          refine g_istore_n B dX6_both2_45 (by decide) rfl ?_
          refine g_goto (tgt := 5) B dX6_both2_46 (by decide) ?_
          refine g_drop 2 ?_
          first
            | exact lB_both2 B hB8 (hK1 f rfl _ _ hB8)
            | (have hv : ∀ z : Int32, z = jn (-12) (evc (eM τ0) cs) (evc (eM τ0) cs2) → z = evc (eM τ0) (cs ++ cs2 ++ [-12]) := fun z h => h.trans (evc_bin hw hw2 (by decide)).symm
               first
               | rw [hv 0 (jn_and_l c33)]
               | rw [hv 0 (jn_and_r c37)]
               | rw [hv 1 (jn_and_1 c33 c37)]
               obtain ⟨k', rfl⟩ : ∃ k', k = k' + 1 := ⟨k - 1, by omega⟩
               exact ih k' (by omega) (cs ++ cs2 ++ [-12]) a2 τ8 (by omega) (hw.bin hw2 (by decide)) hM8 hK1 hK2)
set_option maxRecDepth 100000 in
set_option maxHeartbeats 4000000 in
theorem c_both2 {Z : LZ} {ad : Nat → Nat} {τ0 τ : St} {K : Int32 → St → Prop} {t n a : Nat} (hR : RB τ0 t n) (hM : MS τ0 t n 2 a τ) (hK1 : ∀ f, pBoth (tT τ0 t n) (tV τ0 t n) (pLev (tT τ0 t n) (tV τ0 t n) 3) a = .inl f → ∀ v τ', MB τ0 t n f τ' → K v τ') (hK2 : ∀ cs a2, pBoth (tT τ0 t n) (tV τ0 t n) (pLev (tT τ0 t n) (tV τ0 t n) 3) a = .inr (cs, a2) → ∀ τ', MS τ0 t n 2 a2 τ' → K (evc (eM τ0) cs) τ') : CC lyM Z ad yX6_both2 wsX6_both2 (rmk 26) [.ref (ad 0)] τ (rI K) := by
  refine CC.of (cc := cX6_both2) (nL := 3) (ret := (some .int)) rfl rfl ⟨rfl, rfl⟩ (by exact Nat.le_of_ble_eq_true rfl) ?_
  intro X B
  change GG _ _ _ _ X _ 0 [some (.ref (ad 0)), none, none] [] _
  change Amb _ _ _ _ X _ _ RX6 _ _ at B
  unfold pBoth pSeq at hK1 hK2
  refine g_aload_n B dX6_both2_0 rfl ?_
  refine g_callVi (C := RX6) (As := []) B dX6_both2_1 (gc1 g_X6_280) (by rfl) ⟨rfl, hd_X6_not2⟩ (by exact ⟨Nat.le_of_ble_eq_true rfl, Nat.le_of_ble_eq_true rfl⟩) ⟨rfl, rfl⟩ rfl rfl (by exact Nat.le_of_ble_eq_true rfl) recvM (c_not2 hR hM (fun f hf v8 τ8 hB8 => ?_) (fun cs a1 hf τ8 hM8 => ?_))
  · rw [hf] at hK1; dsimp only at hK1
    refine g_istore_n B dX6_both2_4 (by decide) rfl ?_
    first
      | exact lB_both2 B hB8 (hK1 f rfl _ _ hB8)
      | exact l_both2 B hR 199 cs a1 τ8 (by omega) (pNot_ok (tT_TV hR) (pLev_ok (tT_TV hR) _) _ _ _ hf).1 hM8 hK1 hK2
  · rw [hf] at hK1 hK2; dsimp only at hK1 hK2
    refine g_istore_n B dX6_both2_4 (by decide) rfl ?_
    first
      | exact lB_both2 B hB8 (hK1 f rfl _ _ hB8)
      | exact l_both2 B hR 199 cs a1 τ8 (by omega) (pNot_ok (tT_TV hR) (pLev_ok (tT_TV hR) _) _ _ _ hf).1 hM8 hK1 hK2
set_option maxRecDepth 100000 in
set_option maxHeartbeats 4000000 in
theorem lB_either2 {Z : LZ} {ad : Nat → Nat} {X : CX} {K : Int32 → St → Prop} {τ0 τ : St} {t n f : Nat} {v : Int32} (B : Amb lyM Z ad (rmk 27) X cX6_either2 wsX6_either2 RX6 3 (some .int)) (hB : MB τ0 t n f τ) (hK : K v τ) : GG lyM Z ad (rmk 27) X (rI K) 5 [some (.ref (ad 0)), some (.int v), none] [] τ := by
  refine g_aload_n B dX6_either2_5 rfl ?_
  refine g_bipush (v := (111)) B dX6_either2_6 (by decide) ?_
  refine g_bipush (v := (114)) B dX6_either2_8 (by decide) ?_
  refine g_iconst (v := (0)) B dX6_either2_10 (by decide) ?_
  refine g_iconst (v := (0)) B dX6_either2_11 (by decide) ?_
  refine g_iconst (v := (0)) B dX6_either2_12 (by decide) ?_
  refine g_iconst (v := (0)) B dX6_either2_13 (by decide) ?_
  refine g_iconst (v := (0)) B dX6_either2_14 (by decide) ?_
  refine g_iconst (v := (0)) B dX6_either2_15 (by decide) ?_
  refine g_callVi (C := RX6) (As := [.int _, .int _, .int _, .int _, .int _, .int _, .int _, .int _]) B dX6_either2_16 (gc1 g_X6_180) (by rfl) ⟨rfl, hd_X6_isWord⟩ (by exact ⟨Nat.le_of_ble_eq_true rfl, Nat.le_of_ble_eq_true rfl⟩) ⟨rfl, rfl⟩ rfl rfl (by exact Nat.le_of_ble_eq_true rfl) recvM (c_keyB hB ?_)
  refine g_if_eq (tgt := 48) B dX6_either2_19 (by decide) (fun c19 => ?_) (fun c19 => ?_)
  · refine g_iload_n B dX6_either2_48 rfl ?_
    refine g_ireti B dX6_either2_49 ?_
    exact hK
  · exact absurd rfl c19
set_option maxRecDepth 100000 in
set_option maxHeartbeats 4000000 in
theorem l_either2 {Z : LZ} {ad : Nat → Nat} {X : CX} {K : Int32 → St → Prop} {τ0 : St} {t n : Nat} (B : Amb lyM Z ad (rmk 27) X cX6_either2 wsX6_either2 RX6 3 (some .int)) (hR : RB τ0 t n) : ∀ (k : Nat) (cs : List Int32) (b : Nat) (τ : St), 160 ≤ b + k → WF cs → MS τ0 t n 2 b τ → (∀ f, pLoop (pBoth (tT τ0 t n) (tV τ0 t n) (pLev (tT τ0 t n) (tV τ0 t n) 3)) (opOr (tT τ0 t n)) (k + 1) cs b = .inl f → ∀ v τ', MB τ0 t n f τ' → K v τ') → (∀ ds a2, pLoop (pBoth (tT τ0 t n) (tV τ0 t n) (pLev (tT τ0 t n) (tV τ0 t n) 3)) (opOr (tT τ0 t n)) (k + 1) cs b = .inr (ds, a2) → ∀ τ', MS τ0 t n 2 a2 τ' → K (evc (eM τ0) ds) τ') → GG lyM Z ad (rmk 27) X (rI K) 5 [some (.ref (ad 0)), some (.int (evc (eM τ0) cs)), none] [] τ := by
  intro k
  induction k using Nat.strongRecOn with
  | ind k ih =>
  intro cs b τ hk hw hM hK1 hK2
  have hn := hR.2.2.2
  unfold pLoop at hK1 hK2
  refine g_aload_n B dX6_either2_5 rfl ?_
  refine g_bipush (v := (111)) B dX6_either2_6 (by decide) ?_
  refine g_bipush (v := (114)) B dX6_either2_8 (by decide) ?_
  refine g_iconst (v := (0)) B dX6_either2_10 (by decide) ?_
  refine g_iconst (v := (0)) B dX6_either2_11 (by decide) ?_
  refine g_iconst (v := (0)) B dX6_either2_12 (by decide) ?_
  refine g_iconst (v := (0)) B dX6_either2_13 (by decide) ?_
  refine g_iconst (v := (0)) B dX6_either2_14 (by decide) ?_
  refine g_iconst (v := (0)) B dX6_either2_15 (by decide) ?_
  refine g_callVi (C := RX6) (As := [.int _, .int _, .int _, .int _, .int _, .int _, .int _, .int _]) B dX6_either2_16 (gc1 g_X6_180) (by rfl) ⟨rfl, hd_X6_isWord⟩ (by exact ⟨Nat.le_of_ble_eq_true rfl, Nat.le_of_ble_eq_true rfl⟩) ⟨rfl, rfl⟩ rfl rfl (by exact Nat.le_of_ble_eq_true rfl) recvM (c_key (c := 304) hR hM (by decide) (fun _ _ _ => wS_or) ?_)
  refine g_if_eq (tgt := 48) B dX6_either2_19 (by decide) (fun c19 => ?_) (fun c19 => ?_)
  · refine g_iload_n B dX6_either2_48 rfl ?_
    refine g_ireti B dX6_either2_49 ?_
    have hop : opOr (tT τ0 t n) b = none := if_neg (b1_0.mp c19)
    rw [hop] at hK2
    exact hK2 _ _ rfl τ hM
  · have hT := b1_n0.mp c19
    have hop : opOr (tT τ0 t n) b = some (-11) := if_pos hT
    have hb := tT_lt hR (show tT τ0 t n b ≠ 0 by rw [hT]; decide)
    rw [hop] at hK1 hK2
    dsimp only at hK1 hK2
    refine g_aload_n B dX6_either2_22 rfl ?_
    refine g_callVv (C := RX6) (As := []) B dX6_either2_23 (gc1 g_X6_177) (by rfl) ⟨rfl, hd_X6_next⟩ (by exact ⟨Nat.le_of_ble_eq_true rfl, Nat.le_of_ble_eq_true rfl⟩) ⟨rfl, rfl⟩ rfl rfl (by exact Nat.le_of_ble_eq_true rfl) recvM (c_nx hR hM (by rw [hT]; decide) (fun τ2 hM2 => ?_))
    refine g_aload_n B dX6_either2_26 rfl ?_
    refine g_callVi (C := RX6) (As := []) B dX6_either2_27 (gc1 g_X6_283) (by rfl) ⟨rfl, hd_X6_both2⟩ (by exact ⟨Nat.le_of_ble_eq_true rfl, Nat.le_of_ble_eq_true rfl⟩) ⟨rfl, rfl⟩ rfl rfl (by exact Nat.le_of_ble_eq_true rfl) recvM (c_both2 hR hM2 (fun f hf v8 τ8 hB8 => ?_) (fun cs2 a2 hf τ8 hM8 => ?_))
    · rw [hf] at hK1; dsimp only at hK1
      refine g_istore_n B dX6_either2_30 (by decide) rfl ?_
      refine g_iload_n B dX6_either2_31 rfl ?_
      refine g_if_ne (tgt := 39) B dX6_either2_32 (by decide) (fun c32 => ?_) (fun c32 => ?_)
      · refine g_iconst (v := (1)) B dX6_either2_39 (by decide) ?_
        refine g_goto (tgt := 44) B dX6_either2_40 (by decide) ?_
        refine g_istore_n B dX6_either2_44 (by decide) rfl ?_
        refine g_goto (tgt := 5) B dX6_either2_45 (by decide) ?_
        refine g_drop 2 ?_
        first
          | exact lB_either2 B hB8 (hK1 f rfl _ _ hB8)
          | (have hv : ∀ z : Int32, z = jn (-11) (evc (eM τ0) cs) (evc (eM τ0) cs2) → z = evc (eM τ0) (cs ++ cs2 ++ [-11]) := fun z h => h.trans (evc_bin hw hw2 (by decide)).symm
             first
             | rw [hv 1 (jn_or_l c32)]
             | rw [hv 0 (jn_or_0 c32 c36)]
             | rw [hv 1 (jn_or_r c36)]
             obtain ⟨k', rfl⟩ : ∃ k', k = k' + 1 := ⟨k - 1, by omega⟩
             exact ih k' (by omega) (cs ++ cs2 ++ [-11]) a2 τ8 (by omega) (hw.bin hw2 (by decide)) hM8 hK1 hK2)
      · refine g_iload_n B dX6_either2_35 rfl ?_
        refine g_if_eq (tgt := 43) B dX6_either2_36 (by decide) (fun c36 => ?_) (fun c36 => ?_)
        · refine g_iconst (v := (0)) B dX6_either2_43 (by decide) ?_
          refine g_istore_n B dX6_either2_44 (by decide) rfl ?_
          refine g_goto (tgt := 5) B dX6_either2_45 (by decide) ?_
          refine g_drop 2 ?_
          first
            | exact lB_either2 B hB8 (hK1 f rfl _ _ hB8)
            | (have hv : ∀ z : Int32, z = jn (-11) (evc (eM τ0) cs) (evc (eM τ0) cs2) → z = evc (eM τ0) (cs ++ cs2 ++ [-11]) := fun z h => h.trans (evc_bin hw hw2 (by decide)).symm
               first
               | rw [hv 1 (jn_or_l c32)]
               | rw [hv 0 (jn_or_0 c32 c36)]
               | rw [hv 1 (jn_or_r c36)]
               obtain ⟨k', rfl⟩ : ∃ k', k = k' + 1 := ⟨k - 1, by omega⟩
               exact ih k' (by omega) (cs ++ cs2 ++ [-11]) a2 τ8 (by omega) (hw.bin hw2 (by decide)) hM8 hK1 hK2)
        · refine g_iconst (v := (1)) B dX6_either2_39 (by decide) ?_
          refine g_goto (tgt := 44) B dX6_either2_40 (by decide) ?_
          refine g_istore_n B dX6_either2_44 (by decide) rfl ?_
          refine g_goto (tgt := 5) B dX6_either2_45 (by decide) ?_
          refine g_drop 2 ?_
          first
            | exact lB_either2 B hB8 (hK1 f rfl _ _ hB8)
            | (have hv : ∀ z : Int32, z = jn (-11) (evc (eM τ0) cs) (evc (eM τ0) cs2) → z = evc (eM τ0) (cs ++ cs2 ++ [-11]) := fun z h => h.trans (evc_bin hw hw2 (by decide)).symm
               first
               | rw [hv 1 (jn_or_l c32)]
               | rw [hv 0 (jn_or_0 c32 c36)]
               | rw [hv 1 (jn_or_r c36)]
               obtain ⟨k', rfl⟩ : ∃ k', k = k' + 1 := ⟨k - 1, by omega⟩
               exact ih k' (by omega) (cs ++ cs2 ++ [-11]) a2 τ8 (by omega) (hw.bin hw2 (by decide)) hM8 hK1 hK2)
    · rw [hf] at hK1 hK2; dsimp only at hK1 hK2; obtain ⟨hw2, hlt2⟩ := pBoth_ok (tT_TV hR) (pLev_ok (tT_TV hR) _) _ _ _ hf
      refine g_istore_n B dX6_either2_30 (by decide) rfl ?_
      refine g_iload_n B dX6_either2_31 rfl ?_
      refine g_if_ne (tgt := 39) B dX6_either2_32 (by decide) (fun c32 => ?_) (fun c32 => ?_)
      · refine g_iconst (v := (1)) B dX6_either2_39 (by decide) ?_
        refine g_goto (tgt := 44) B dX6_either2_40 (by decide) ?_
        refine g_istore_n B dX6_either2_44 (by decide) rfl ?_
        refine g_goto (tgt := 5) B dX6_either2_45 (by decide) ?_
        refine g_drop 2 ?_
        first
          | exact lB_either2 B hB8 (hK1 f rfl _ _ hB8)
          | (have hv : ∀ z : Int32, z = jn (-11) (evc (eM τ0) cs) (evc (eM τ0) cs2) → z = evc (eM τ0) (cs ++ cs2 ++ [-11]) := fun z h => h.trans (evc_bin hw hw2 (by decide)).symm
             first
             | rw [hv 1 (jn_or_l c32)]
             | rw [hv 0 (jn_or_0 c32 c36)]
             | rw [hv 1 (jn_or_r c36)]
             obtain ⟨k', rfl⟩ : ∃ k', k = k' + 1 := ⟨k - 1, by omega⟩
             exact ih k' (by omega) (cs ++ cs2 ++ [-11]) a2 τ8 (by omega) (hw.bin hw2 (by decide)) hM8 hK1 hK2)
      · refine g_iload_n B dX6_either2_35 rfl ?_
        refine g_if_eq (tgt := 43) B dX6_either2_36 (by decide) (fun c36 => ?_) (fun c36 => ?_)
        · refine g_iconst (v := (0)) B dX6_either2_43 (by decide) ?_
          refine g_istore_n B dX6_either2_44 (by decide) rfl ?_
          refine g_goto (tgt := 5) B dX6_either2_45 (by decide) ?_
          refine g_drop 2 ?_
          first
            | exact lB_either2 B hB8 (hK1 f rfl _ _ hB8)
            | (have hv : ∀ z : Int32, z = jn (-11) (evc (eM τ0) cs) (evc (eM τ0) cs2) → z = evc (eM τ0) (cs ++ cs2 ++ [-11]) := fun z h => h.trans (evc_bin hw hw2 (by decide)).symm
               first
               | rw [hv 1 (jn_or_l c32)]
               | rw [hv 0 (jn_or_0 c32 c36)]
               | rw [hv 1 (jn_or_r c36)]
               obtain ⟨k', rfl⟩ : ∃ k', k = k' + 1 := ⟨k - 1, by omega⟩
               exact ih k' (by omega) (cs ++ cs2 ++ [-11]) a2 τ8 (by omega) (hw.bin hw2 (by decide)) hM8 hK1 hK2)
        · refine g_iconst (v := (1)) B dX6_either2_39 (by decide) ?_
          refine g_goto (tgt := 44) B dX6_either2_40 (by decide) ?_
          refine g_istore_n B dX6_either2_44 (by decide) rfl ?_
          refine g_goto (tgt := 5) B dX6_either2_45 (by decide) ?_
          refine g_drop 2 ?_
          first
            | exact lB_either2 B hB8 (hK1 f rfl _ _ hB8)
            | (have hv : ∀ z : Int32, z = jn (-11) (evc (eM τ0) cs) (evc (eM τ0) cs2) → z = evc (eM τ0) (cs ++ cs2 ++ [-11]) := fun z h => h.trans (evc_bin hw hw2 (by decide)).symm
               first
               | rw [hv 1 (jn_or_l c32)]
               | rw [hv 0 (jn_or_0 c32 c36)]
               | rw [hv 1 (jn_or_r c36)]
               obtain ⟨k', rfl⟩ : ∃ k', k = k' + 1 := ⟨k - 1, by omega⟩
               exact ih k' (by omega) (cs ++ cs2 ++ [-11]) a2 τ8 (by omega) (hw.bin hw2 (by decide)) hM8 hK1 hK2)
set_option maxRecDepth 100000 in
set_option maxHeartbeats 4000000 in
theorem c_either2 {Z : LZ} {ad : Nat → Nat} {τ0 τ : St} {K : Int32 → St → Prop} {t n a : Nat} (hR : RB τ0 t n) (hM : MS τ0 t n 2 a τ) (hK1 : ∀ f, pEith (tT τ0 t n) (tV τ0 t n) (pLev (tT τ0 t n) (tV τ0 t n) 3) a = .inl f → ∀ v τ', MB τ0 t n f τ' → K v τ') (hK2 : ∀ cs a2, pEith (tT τ0 t n) (tV τ0 t n) (pLev (tT τ0 t n) (tV τ0 t n) 3) a = .inr (cs, a2) → ∀ τ', MS τ0 t n 2 a2 τ' → K (evc (eM τ0) cs) τ') : CC lyM Z ad yX6_either2 wsX6_either2 (rmk 27) [.ref (ad 0)] τ (rI K) := by
  refine CC.of (cc := cX6_either2) (nL := 3) (ret := (some .int)) rfl rfl ⟨rfl, rfl⟩ (by exact Nat.le_of_ble_eq_true rfl) ?_
  intro X B
  change GG _ _ _ _ X _ 0 [some (.ref (ad 0)), none, none] [] _
  change Amb _ _ _ _ X _ _ RX6 _ _ at B
  unfold pEith pSeq at hK1 hK2
  refine g_aload_n B dX6_either2_0 rfl ?_
  refine g_callVi (C := RX6) (As := []) B dX6_either2_1 (gc1 g_X6_283) (by rfl) ⟨rfl, hd_X6_both2⟩ (by exact ⟨Nat.le_of_ble_eq_true rfl, Nat.le_of_ble_eq_true rfl⟩) ⟨rfl, rfl⟩ rfl rfl (by exact Nat.le_of_ble_eq_true rfl) recvM (c_both2 hR hM (fun f hf v8 τ8 hB8 => ?_) (fun cs a1 hf τ8 hM8 => ?_))
  · rw [hf] at hK1; dsimp only at hK1
    refine g_istore_n B dX6_either2_4 (by decide) rfl ?_
    first
      | exact lB_either2 B hB8 (hK1 f rfl _ _ hB8)
      | exact l_either2 B hR 199 cs a1 τ8 (by omega) (pBoth_ok (tT_TV hR) (pLev_ok (tT_TV hR) _) _ _ _ hf).1 hM8 hK1 hK2
  · rw [hf] at hK1 hK2; dsimp only at hK1 hK2
    refine g_istore_n B dX6_either2_4 (by decide) rfl ?_
    first
      | exact lB_either2 B hB8 (hK1 f rfl _ _ hB8)
      | exact l_either2 B hR 199 cs a1 τ8 (by omega) (pBoth_ok (tT_TV hR) (pLev_ok (tT_TV hR) _) _ _ _ hf).1 hM8 hK1 hK2
set_option maxRecDepth 100000 in
set_option maxHeartbeats 4000000 in
theorem c_atom1 {Z : LZ} {ad : Nat → Nat} {τ0 τ : St} {K : Int32 → St → Prop} {t n a : Nat} (hR : RB τ0 t n) (hM : MS τ0 t n 1 a τ) (hK1 : ∀ f, pAtom (tT τ0 t n) (tV τ0 t n) (pLev (tT τ0 t n) (tV τ0 t n) 4) a = .inl f → ∀ v τ', MB τ0 t n f τ' → K v τ') (hK2 : ∀ cs a2, pAtom (tT τ0 t n) (tV τ0 t n) (pLev (tT τ0 t n) (tV τ0 t n) 4) a = .inr (cs, a2) → ∀ τ', MS τ0 t n 1 a2 τ' → K (evc (eM τ0) cs) τ') : CC lyM Z ad yX6_atom1 wsX6_atom1 (rmk 28) [.ref (ad 0)] τ (rI K) := by
  refine CC.of (cc := cX6_atom1) (nL := 2) (ret := (some .int)) rfl rfl ⟨rfl, rfl⟩ (by exact Nat.le_of_ble_eq_true rfl) ?_
  intro X B
  change GG _ _ _ _ X _ 0 [some (.ref (ad 0)), none] [] _
  change Amb _ _ _ _ X _ _ RX6 _ _ at B
  have hg : ∀ v τ', MB τ0 t n a τ' → ¬ (tT τ0 t n a = 2 ∨ tT τ0 t n a = 3) → tT τ0 t n a ≠ 45 → tT τ0 t n a ≠ 40 → K v τ' := fun v τ' hB h h2 h3 => hK1 a (by
    unfold pAtom
    rw [if_neg h, if_neg h2, if_neg h3]) v τ' hB
  have h45 : isS 45 := by decide
  have h40 : isS 40 := by decide
  refine g_iconst (v := (0)) B dX6_atom1_0 (by decide) ?_
  refine g_istore_n B dX6_atom1_1 (by decide) rfl ?_
  refine g_aload_n B dX6_atom1_2 rfl ?_
  refine g_bipush (v := (45)) B dX6_atom1_3 (by decide) ?_
  refine g_callVi (C := RX6) (As := [.int _]) B dX6_atom1_5 (gc1 g_X6_202) (by rfl) ⟨rfl, hd_X6_isSign⟩ (by exact ⟨Nat.le_of_ble_eq_true rfl, Nat.le_of_ble_eq_true rfl⟩) ⟨rfl, rfl⟩ rfl rfl (by exact Nat.le_of_ble_eq_true rfl) recvM (c_sgn hM h45 ?_)
  refine g_if_eq (tgt := 37) B dX6_atom1_8 (by decide) (fun c8 => ?_) (fun c8 => ?_)
  · refine g_aload_n B dX6_atom1_37 rfl ?_
    refine g_bipush (v := (40)) B dX6_atom1_38 (by decide) ?_
    refine g_callVi (C := RX6) (As := [.int _]) B dX6_atom1_40 (gc1 g_X6_202) (by rfl) ⟨rfl, hd_X6_isSign⟩ (by exact ⟨Nat.le_of_ble_eq_true rfl, Nat.le_of_ble_eq_true rfl⟩) ⟨rfl, rfl⟩ rfl rfl (by exact Nat.le_of_ble_eq_true rfl) recvM (c_sgn hM h40 ?_)
    refine g_if_eq (tgt := 95) B dX6_atom1_43 (by decide) (fun c43 => ?_) (fun c43 => ?_)
    · refine g_aload_n B dX6_atom1_95 rfl ?_
      refine g_getI (T := TX6) (N := 42) B dX6_atom1_96 (by decide) (by rfl) (inq inlX6) rfl 25 (by decide) (mq f_X6_161) (by rfl) ?_
      refine g_if_ne (tgt := 123) B dX6_atom1_99 (by decide) (fun c99 => ?_) (fun c99 => ?_)
      · exact absurd hM.2.1 c99
      · refine g_aload_n B dX6_atom1_102 rfl ?_
        refine g_getI (T := TX6) (N := 42) B dX6_atom1_103 (by decide) (by rfl) (inq inlX6) rfl 21 (by decide) (mq f_X6_144) (by rfl) ?_
        refine g_iconst (v := (2)) B dX6_atom1_106 (by decide) ?_
        refine g_icmp_ne (tgt := 123) B dX6_atom1_107 (by decide) (fun c107 => ?_) (fun c107 => ?_)
        · refine g_aload_n B dX6_atom1_123 rfl ?_
          refine g_getI (T := TX6) (N := 42) B dX6_atom1_124 (by decide) (by rfl) (inq inlX6) rfl 25 (by decide) (mq f_X6_161) (by rfl) ?_
          refine g_if_ne (tgt := 157) B dX6_atom1_127 (by decide) (fun c127 => ?_) (fun c127 => ?_)
          · exact absurd hM.2.1 c127
          · refine g_aload_n B dX6_atom1_130 rfl ?_
            refine g_getI (T := TX6) (N := 42) B dX6_atom1_131 (by decide) (by rfl) (inq inlX6) rfl 21 (by decide) (mq f_X6_144) (by rfl) ?_
            refine g_iconst (v := (1)) B dX6_atom1_134 (by decide) ?_
            refine g_icmp_ne (tgt := 157) B dX6_atom1_135 (by decide) (fun c135 => ?_) (fun c135 => ?_)
            · refine g_aload_n B dX6_atom1_157 rfl ?_
              refine g_callVv (C := RX6) (As := []) B dX6_atom1_158 (gc1 g_X6_174) (by rfl) ⟨rfl, hd_X6_fail⟩ (by exact ⟨Nat.le_of_ble_eq_true rfl, Nat.le_of_ble_eq_true rfl⟩) ⟨rfl, rfl⟩ rfl rfl (by exact Nat.le_of_ble_eq_true rfl) recvM (c_fl hM (fun τ9 hB9 => ?_))
              refine g_iload_n B dX6_atom1_161 rfl ?_
              refine g_ireti B dX6_atom1_162 ?_
              first
                | exact absurd hM.2.1 c99
                | exact absurd hM.2.1 c127
                | exact hg _ _ hB9 (fun h => h.elim (fun h => c107 (hM.A.num.1.mpr h)) (fun h => c135 (hM.A.wrd.1.mpr (hM.A.wrd.2.2 h)))) (b1_0.mp c8) (b1_0.mp c43)
            · refine g_aload_n B dX6_atom1_138 rfl ?_
              refine g_callVi (C := RX6) (As := []) B dX6_atom1_139 (gc1 g_X6_209) (by rfl) ⟨rfl, hd_X6_name⟩ (by exact ⟨Nat.le_of_ble_eq_true rfl, Nat.le_of_ble_eq_true rfl⟩) ⟨rfl, rfl⟩ rfl rfl (by exact Nat.le_of_ble_eq_true rfl) recvM (c_nm hR hM c135 (fun h3 => ?_) (fun h3 τ9 hB9 => ?_))
              · refine g_istore_n B dX6_atom1_142 (by decide) rfl ?_
                refine g_aload_n B dX6_atom1_143 rfl ?_
                refine g_getI (T := TX6) (N := 42) B dX6_atom1_144 (by decide) (by rfl) (inq inlX6) rfl 25 (by decide) (mq f_X6_161) (by rfl) ?_
                refine g_if_ne (tgt := 161) B dX6_atom1_147 (by decide) (fun c147 => ?_) (fun c147 => ?_)
                · exact absurd hM.2.1 c147
                · refine g_aload_n B dX6_atom1_150 rfl ?_
                  refine g_callVv (C := RX6) (As := []) B dX6_atom1_151 (gc1 g_X6_177) (by rfl) ⟨rfl, hd_X6_next⟩ (by exact ⟨Nat.le_of_ble_eq_true rfl, Nat.le_of_ble_eq_true rfl⟩) ⟨rfl, rfl⟩ rfl rfl (by exact Nat.le_of_ble_eq_true rfl) recvM (c_nx hR hM (in_or3 _ (Or.inr h3)) (fun τ9 hM9 => ?_))
                  refine g_goto (tgt := 161) B dX6_atom1_154 (by decide) ?_
                  refine g_iload_n B dX6_atom1_161 rfl ?_
                  refine g_ireti B dX6_atom1_162 ?_
                  refine kk ?_ (hK2 [tV τ0 t n a] (a + 1) (by unfold pAtom; rw [if_pos (Or.inr h3)]) τ9 hM9)
                  rw [evc_one (tT_TV hR a (Or.inr h3))]
              · refine g_istore_n B dX6_atom1_142 (by decide) rfl ?_
                refine g_aload_n B dX6_atom1_143 rfl ?_
                refine g_getI (T := TX6) (N := 42) B dX6_atom1_144 (by decide) (by rfl) (inq inlX6) rfl 25 (by decide) (mq f_X6_161) (by rfl) ?_
                refine g_if_ne (tgt := 161) B dX6_atom1_147 (by decide) (fun c147 => ?_) (fun c147 => ?_)
                · refine g_iload_n B dX6_atom1_161 rfl ?_
                  refine g_ireti B dX6_atom1_162 ?_
                  first
                    | exact absurd c15 (by decide)
                    | exact absurd c50 (by decide)
                    | exact absurd hB9.2.1 (fun h => absurd (c147.symm.trans h) (by decide))
                    | exact absurd hM.2.1 c147
                    | (refine hK1 f ?_ _ _ hB8.close
                       unfold pAtom
                       rw [if_neg (fun h => by rw [b1_n0.mp c43] at h; exact absurd h (by decide)), if_neg (b1_0.mp c8), if_pos (b1_n0.mp c43)]
                       show (match pEith (tT τ0 t n) (tV τ0 t n) (pLev (tT τ0 t n) (tV τ0 t n) 3) (a + 1) with | .inl f => _ | .inr (cs, a2) => _) = _
                       rw [hf])
                    | (refine hK1 a2 ?_ _ _ hB6.close
                       unfold pAtom
                       rw [if_neg (fun h => by rw [b1_n0.mp c43] at h; exact absurd h (by decide)), if_neg (b1_0.mp c8), if_pos (b1_n0.mp c43)]
                       show (match pEith (tT τ0 t n) (tV τ0 t n) (pLev (tT τ0 t n) (tV τ0 t n) 3) (a + 1) with | .inl f => _ | .inr (cs, a2) => _) = _
                       rw [hf]
                       show (if tT τ0 t n a2 = 41 then _ else _) = _
                       rw [if_neg (b1_0.mp c64)])
                    | exact absurd (MS.close (by decide) hM8).2.1 c85
                    | exact hg _ _ hB9 (fun h => h.elim (fun h => c107 (hM.A.num.1.mpr h)) (fun h => h3 h)) (b1_0.mp c8) (b1_0.mp c43)
                · exact absurd (c147.symm.trans hB9.2.1) (by decide)
        · refine g_aload_n B dX6_atom1_110 rfl ?_
          refine g_getL (T := TX6) (N := 42) B dX6_atom1_111 (by decide) (by rfl) (inq inlX6) rfl 23 (by decide) (mq f_X6_155) (by rfl) ?_
          refine g_l2i B dX6_atom1_114 rfl ?_
          refine g_istore_n B dX6_atom1_115 (by decide) rfl ?_
          refine g_aload_n B dX6_atom1_116 rfl ?_
          refine g_callVv (C := RX6) (As := []) B dX6_atom1_117 (gc1 g_X6_177) (by rfl) ⟨rfl, hd_X6_next⟩ (by exact ⟨Nat.le_of_ble_eq_true rfl, Nat.le_of_ble_eq_true rfl⟩) ⟨rfl, rfl⟩ rfl rfl (by exact Nat.le_of_ble_eq_true rfl) recvM (c_nx hR hM (in_or3 _ (Or.inl (hM.A.num.1.mp c107))) (fun τ9 hM9 => ?_))
          refine g_goto (tgt := 161) B dX6_atom1_120 (by decide) ?_
          refine g_iload_n B dX6_atom1_161 rfl ?_
          refine g_ireti B dX6_atom1_162 ?_
          refine kk ?_ (hK2 [tV τ0 t n a] (a + 1) (by unfold pAtom; rw [if_pos (Or.inl (hM.A.num.1.mp c107))]) τ9 hM9)
          rw [evc_one (tT_TV hR a (Or.inl (hM.A.num.1.mp c107))), opd_num (tV_num hR (hM.A.num.1.mp c107)).1]
          exact hM.A.num.2 c107
    · refine g_aload_n B dX6_atom1_46 rfl ?_
      refine g_callVi (C := RX6) (As := []) B dX6_atom1_47 (gc1 g_X6_205) (by rfl) ⟨rfl, hd_X6_opens⟩ (by exact ⟨Nat.le_of_ble_eq_true rfl, Nat.le_of_ble_eq_true rfl⟩) ⟨rfl, rfl⟩ rfl rfl (by exact Nat.le_of_ble_eq_true rfl) recvM (c_opn hR hM (by decide) (isS_0 (by rw [b1_n0.mp c43]; decide)) (fun τ7 hM7 => ?_))
      refine g_if_eq (tgt := 161) B dX6_atom1_50 (by decide) (fun c50 => ?_) (fun c50 => ?_)
      · exact absurd c50 (by decide)
      · refine g_aload_n B dX6_atom1_53 rfl ?_
        refine g_callVi (C := RX6) (As := []) B dX6_atom1_54 (gc1 g_X6_286) (by rfl) ⟨rfl, hd_X6_either2⟩ (by exact ⟨Nat.le_of_ble_eq_true rfl, Nat.le_of_ble_eq_true rfl⟩) ⟨rfl, rfl⟩ rfl rfl (by exact Nat.le_of_ble_eq_true rfl) recvM (c_either2 hR hM7 (fun f hf v8 τ8 hB8 => ?_) (fun cs a2 hf τ8 hM8 => ?_))
        · refine g_istore_n B dX6_atom1_57 (by decide) rfl ?_
          refine g_aload_n B dX6_atom1_58 rfl ?_
          refine g_bipush (v := (41)) B dX6_atom1_59 (by decide) ?_
          first
            | refine g_callVi (C := RX6) (As := [.int _]) B dX6_atom1_61 (gc1 g_X6_202) (by rfl) ⟨rfl, hd_X6_isSign⟩ (by exact ⟨Nat.le_of_ble_eq_true rfl, Nat.le_of_ble_eq_true rfl⟩) ⟨rfl, rfl⟩ rfl rfl (by exact Nat.le_of_ble_eq_true rfl) recvM (c_sgnB hB8 ?_)
            | refine g_callVi (C := RX6) (As := [.int _]) B dX6_atom1_61 (gc1 g_X6_202) (by rfl) ⟨rfl, hd_X6_isSign⟩ (by exact ⟨Nat.le_of_ble_eq_true rfl, Nat.le_of_ble_eq_true rfl⟩) ⟨rfl, rfl⟩ rfl rfl (by exact Nat.le_of_ble_eq_true rfl) recvM (c_sgn hM8 (show isS 41 by decide) ?_)
          refine g_if_ne (tgt := 71) B dX6_atom1_64 (by decide) (fun c64 => ?_) (fun c64 => ?_)
          · refine g_aload_n B dX6_atom1_71 rfl ?_
            refine g_dup B dX6_atom1_72 rfl ?_
            refine g_getI (T := TX6) (N := 42) B dX6_atom1_73 (by decide) (by rfl) (inq inlX6) rfl 24 (by decide) (mq f_X6_171) (by rfl) ?_
            refine g_iconst (v := (1)) B dX6_atom1_76 (by decide) ?_
            refine g_isub B dX6_atom1_77 ?_
            refine g_putI (T := TX6) (N := 42) B dX6_atom1_78 (by decide) (by rfl) (inq inlX6) rfl 24 (by decide) (mq f_X6_171) tyX6_ok nmX6 rfl ⟨rfl, rfl⟩ (by rfl) ?_
            refine g_aload_n B dX6_atom1_81 rfl ?_
            refine g_getI (T := TX6) (N := 42) B dX6_atom1_82 (by decide) (by rfl) (inq inlX6) rfl 25 (by decide) (mq f_X6_161) (by rfl) ?_
            refine g_if_ne (tgt := 161) B dX6_atom1_85 (by decide) (fun c85 => ?_) (fun c85 => ?_)
            · refine g_iload_n B dX6_atom1_161 rfl ?_
              refine g_ireti B dX6_atom1_162 ?_
              first
                | exact absurd c15 (by decide)
                | exact absurd c50 (by decide)
                | exact absurd hB9.2.1 (fun h => absurd (c147.symm.trans h) (by decide))
                | exact absurd hM.2.1 c147
                | (refine hK1 f ?_ _ _ hB8.close
                   unfold pAtom
                   rw [if_neg (fun h => by rw [b1_n0.mp c43] at h; exact absurd h (by decide)), if_neg (b1_0.mp c8), if_pos (b1_n0.mp c43)]
                   show (match pEith (tT τ0 t n) (tV τ0 t n) (pLev (tT τ0 t n) (tV τ0 t n) 3) (a + 1) with | .inl f => _ | .inr (cs, a2) => _) = _
                   rw [hf])
                | (refine hK1 a2 ?_ _ _ hB6.close
                   unfold pAtom
                   rw [if_neg (fun h => by rw [b1_n0.mp c43] at h; exact absurd h (by decide)), if_neg (b1_0.mp c8), if_pos (b1_n0.mp c43)]
                   show (match pEith (tT τ0 t n) (tV τ0 t n) (pLev (tT τ0 t n) (tV τ0 t n) 3) (a + 1) with | .inl f => _ | .inr (cs, a2) => _) = _
                   rw [hf]
                   show (if tT τ0 t n a2 = 41 then _ else _) = _
                   rw [if_neg (b1_0.mp c64)])
                | exact absurd (MS.close (by decide) hM8).2.1 c85
                | exact hg _ _ hB9 (fun h => h.elim (fun h => c107 (hM.A.num.1.mpr h)) (fun h => h3 h)) (b1_0.mp c8) (b1_0.mp c43)
            · first
                | exact absurd (c85.symm.trans hB8.close.2.1) (by decide)
                | exact absurd (c85.symm.trans hB6.close.2.1) (by decide)
                | (refine g_aload_n B dX6_atom1_88 rfl ?_
                   refine g_callVv (C := RX6) (As := []) B dX6_atom1_89 (gc1 g_X6_177) (by rfl) ⟨rfl, hd_X6_next⟩ (by exact ⟨Nat.le_of_ble_eq_true rfl, Nat.le_of_ble_eq_true rfl⟩) ⟨rfl, rfl⟩ rfl rfl (by exact Nat.le_of_ble_eq_true rfl) recvM (c_nx hR (MS.close (by decide) hM8) (isS_0 (by rw [b1_n0.mp c64]; decide)) (fun τ9 hM9 => ?_))
                   refine g_goto (tgt := 161) B dX6_atom1_92 (by decide) ?_
                   refine g_iload_n B dX6_atom1_161 rfl ?_
                   refine g_ireti B dX6_atom1_162 ?_
                   refine hK2 cs (a2 + 1) ?_ _ hM9
                   unfold pAtom
                   rw [if_neg (fun h => by rw [b1_n0.mp c43] at h; exact absurd h (by decide)), if_neg (b1_0.mp c8), if_pos (b1_n0.mp c43)]
                   show (match pEith (tT τ0 t n) (tV τ0 t n) (pLev (tT τ0 t n) (tV τ0 t n) 3) (a + 1) with | .inl f => _ | .inr (cs, a2) => _) = _
                   rw [hf]
                   show (if tT τ0 t n a2 = 41 then _ else _) = _
                   rw [if_pos (b1_n0.mp c64)])
          · refine g_aload_n B dX6_atom1_67 rfl ?_
            first
              | refine g_callVv (C := RX6) (As := []) B dX6_atom1_68 (gc1 g_X6_174) (by rfl) ⟨rfl, hd_X6_fail⟩ (by exact ⟨Nat.le_of_ble_eq_true rfl, Nat.le_of_ble_eq_true rfl⟩) ⟨rfl, rfl⟩ rfl rfl (by exact Nat.le_of_ble_eq_true rfl) recvM (c_flB hB8 ?_)
              | refine g_callVv (C := RX6) (As := []) B dX6_atom1_68 (gc1 g_X6_174) (by rfl) ⟨rfl, hd_X6_fail⟩ (by exact ⟨Nat.le_of_ble_eq_true rfl, Nat.le_of_ble_eq_true rfl⟩) ⟨rfl, rfl⟩ rfl rfl (by exact Nat.le_of_ble_eq_true rfl) recvM (c_fl hM8 (fun τ6 hB6 => ?_))
            refine g_aload_n B dX6_atom1_71 rfl ?_
            refine g_dup B dX6_atom1_72 rfl ?_
            refine g_getI (T := TX6) (N := 42) B dX6_atom1_73 (by decide) (by rfl) (inq inlX6) rfl 24 (by decide) (mq f_X6_171) (by rfl) ?_
            refine g_iconst (v := (1)) B dX6_atom1_76 (by decide) ?_
            refine g_isub B dX6_atom1_77 ?_
            refine g_putI (T := TX6) (N := 42) B dX6_atom1_78 (by decide) (by rfl) (inq inlX6) rfl 24 (by decide) (mq f_X6_171) tyX6_ok nmX6 rfl ⟨rfl, rfl⟩ (by rfl) ?_
            refine g_aload_n B dX6_atom1_81 rfl ?_
            refine g_getI (T := TX6) (N := 42) B dX6_atom1_82 (by decide) (by rfl) (inq inlX6) rfl 25 (by decide) (mq f_X6_161) (by rfl) ?_
            refine g_if_ne (tgt := 161) B dX6_atom1_85 (by decide) (fun c85 => ?_) (fun c85 => ?_)
            · refine g_iload_n B dX6_atom1_161 rfl ?_
              refine g_ireti B dX6_atom1_162 ?_
              first
                | exact absurd c15 (by decide)
                | exact absurd c50 (by decide)
                | exact absurd hB9.2.1 (fun h => absurd (c147.symm.trans h) (by decide))
                | exact absurd hM.2.1 c147
                | (refine hK1 f ?_ _ _ hB8.close
                   unfold pAtom
                   rw [if_neg (fun h => by rw [b1_n0.mp c43] at h; exact absurd h (by decide)), if_neg (b1_0.mp c8), if_pos (b1_n0.mp c43)]
                   show (match pEith (tT τ0 t n) (tV τ0 t n) (pLev (tT τ0 t n) (tV τ0 t n) 3) (a + 1) with | .inl f => _ | .inr (cs, a2) => _) = _
                   rw [hf])
                | (refine hK1 a2 ?_ _ _ hB6.close
                   unfold pAtom
                   rw [if_neg (fun h => by rw [b1_n0.mp c43] at h; exact absurd h (by decide)), if_neg (b1_0.mp c8), if_pos (b1_n0.mp c43)]
                   show (match pEith (tT τ0 t n) (tV τ0 t n) (pLev (tT τ0 t n) (tV τ0 t n) 3) (a + 1) with | .inl f => _ | .inr (cs, a2) => _) = _
                   rw [hf]
                   show (if tT τ0 t n a2 = 41 then _ else _) = _
                   rw [if_neg (b1_0.mp c64)])
                | exact absurd (MS.close (by decide) hM8).2.1 c85
                | exact hg _ _ hB9 (fun h => h.elim (fun h => c107 (hM.A.num.1.mpr h)) (fun h => h3 h)) (b1_0.mp c8) (b1_0.mp c43)
            · first
                | exact absurd (c85.symm.trans hB8.close.2.1) (by decide)
                | exact absurd (c85.symm.trans hB6.close.2.1) (by decide)
                | (refine g_aload_n B dX6_atom1_88 rfl ?_
                   refine g_callVv (C := RX6) (As := []) B dX6_atom1_89 (gc1 g_X6_177) (by rfl) ⟨rfl, hd_X6_next⟩ (by exact ⟨Nat.le_of_ble_eq_true rfl, Nat.le_of_ble_eq_true rfl⟩) ⟨rfl, rfl⟩ rfl rfl (by exact Nat.le_of_ble_eq_true rfl) recvM (c_nx hR (MS.close (by decide) hM8) (isS_0 (by rw [b1_n0.mp c64]; decide)) (fun τ9 hM9 => ?_))
                   refine g_goto (tgt := 161) B dX6_atom1_92 (by decide) ?_
                   refine g_iload_n B dX6_atom1_161 rfl ?_
                   refine g_ireti B dX6_atom1_162 ?_
                   refine hK2 cs (a2 + 1) ?_ _ hM9
                   unfold pAtom
                   rw [if_neg (fun h => by rw [b1_n0.mp c43] at h; exact absurd h (by decide)), if_neg (b1_0.mp c8), if_pos (b1_n0.mp c43)]
                   show (match pEith (tT τ0 t n) (tV τ0 t n) (pLev (tT τ0 t n) (tV τ0 t n) 3) (a + 1) with | .inl f => _ | .inr (cs, a2) => _) = _
                   rw [hf]
                   show (if tT τ0 t n a2 = 41 then _ else _) = _
                   rw [if_pos (b1_n0.mp c64)])
        · refine g_istore_n B dX6_atom1_57 (by decide) rfl ?_
          refine g_aload_n B dX6_atom1_58 rfl ?_
          refine g_bipush (v := (41)) B dX6_atom1_59 (by decide) ?_
          first
            | refine g_callVi (C := RX6) (As := [.int _]) B dX6_atom1_61 (gc1 g_X6_202) (by rfl) ⟨rfl, hd_X6_isSign⟩ (by exact ⟨Nat.le_of_ble_eq_true rfl, Nat.le_of_ble_eq_true rfl⟩) ⟨rfl, rfl⟩ rfl rfl (by exact Nat.le_of_ble_eq_true rfl) recvM (c_sgnB hB8 ?_)
            | refine g_callVi (C := RX6) (As := [.int _]) B dX6_atom1_61 (gc1 g_X6_202) (by rfl) ⟨rfl, hd_X6_isSign⟩ (by exact ⟨Nat.le_of_ble_eq_true rfl, Nat.le_of_ble_eq_true rfl⟩) ⟨rfl, rfl⟩ rfl rfl (by exact Nat.le_of_ble_eq_true rfl) recvM (c_sgn hM8 (show isS 41 by decide) ?_)
          refine g_if_ne (tgt := 71) B dX6_atom1_64 (by decide) (fun c64 => ?_) (fun c64 => ?_)
          · refine g_aload_n B dX6_atom1_71 rfl ?_
            refine g_dup B dX6_atom1_72 rfl ?_
            refine g_getI (T := TX6) (N := 42) B dX6_atom1_73 (by decide) (by rfl) (inq inlX6) rfl 24 (by decide) (mq f_X6_171) (by rfl) ?_
            refine g_iconst (v := (1)) B dX6_atom1_76 (by decide) ?_
            refine g_isub B dX6_atom1_77 ?_
            refine g_putI (T := TX6) (N := 42) B dX6_atom1_78 (by decide) (by rfl) (inq inlX6) rfl 24 (by decide) (mq f_X6_171) tyX6_ok nmX6 rfl ⟨rfl, rfl⟩ (by rfl) ?_
            refine g_aload_n B dX6_atom1_81 rfl ?_
            refine g_getI (T := TX6) (N := 42) B dX6_atom1_82 (by decide) (by rfl) (inq inlX6) rfl 25 (by decide) (mq f_X6_161) (by rfl) ?_
            refine g_if_ne (tgt := 161) B dX6_atom1_85 (by decide) (fun c85 => ?_) (fun c85 => ?_)
            · refine g_iload_n B dX6_atom1_161 rfl ?_
              refine g_ireti B dX6_atom1_162 ?_
              first
                | exact absurd c15 (by decide)
                | exact absurd c50 (by decide)
                | exact absurd hB9.2.1 (fun h => absurd (c147.symm.trans h) (by decide))
                | exact absurd hM.2.1 c147
                | (refine hK1 f ?_ _ _ hB8.close
                   unfold pAtom
                   rw [if_neg (fun h => by rw [b1_n0.mp c43] at h; exact absurd h (by decide)), if_neg (b1_0.mp c8), if_pos (b1_n0.mp c43)]
                   show (match pEith (tT τ0 t n) (tV τ0 t n) (pLev (tT τ0 t n) (tV τ0 t n) 3) (a + 1) with | .inl f => _ | .inr (cs, a2) => _) = _
                   rw [hf])
                | (refine hK1 a2 ?_ _ _ hB6.close
                   unfold pAtom
                   rw [if_neg (fun h => by rw [b1_n0.mp c43] at h; exact absurd h (by decide)), if_neg (b1_0.mp c8), if_pos (b1_n0.mp c43)]
                   show (match pEith (tT τ0 t n) (tV τ0 t n) (pLev (tT τ0 t n) (tV τ0 t n) 3) (a + 1) with | .inl f => _ | .inr (cs, a2) => _) = _
                   rw [hf]
                   show (if tT τ0 t n a2 = 41 then _ else _) = _
                   rw [if_neg (b1_0.mp c64)])
                | exact absurd (MS.close (by decide) hM8).2.1 c85
                | exact hg _ _ hB9 (fun h => h.elim (fun h => c107 (hM.A.num.1.mpr h)) (fun h => h3 h)) (b1_0.mp c8) (b1_0.mp c43)
            · first
                | exact absurd (c85.symm.trans hB8.close.2.1) (by decide)
                | exact absurd (c85.symm.trans hB6.close.2.1) (by decide)
                | (refine g_aload_n B dX6_atom1_88 rfl ?_
                   refine g_callVv (C := RX6) (As := []) B dX6_atom1_89 (gc1 g_X6_177) (by rfl) ⟨rfl, hd_X6_next⟩ (by exact ⟨Nat.le_of_ble_eq_true rfl, Nat.le_of_ble_eq_true rfl⟩) ⟨rfl, rfl⟩ rfl rfl (by exact Nat.le_of_ble_eq_true rfl) recvM (c_nx hR (MS.close (by decide) hM8) (isS_0 (by rw [b1_n0.mp c64]; decide)) (fun τ9 hM9 => ?_))
                   refine g_goto (tgt := 161) B dX6_atom1_92 (by decide) ?_
                   refine g_iload_n B dX6_atom1_161 rfl ?_
                   refine g_ireti B dX6_atom1_162 ?_
                   refine hK2 cs (a2 + 1) ?_ _ hM9
                   unfold pAtom
                   rw [if_neg (fun h => by rw [b1_n0.mp c43] at h; exact absurd h (by decide)), if_neg (b1_0.mp c8), if_pos (b1_n0.mp c43)]
                   show (match pEith (tT τ0 t n) (tV τ0 t n) (pLev (tT τ0 t n) (tV τ0 t n) 3) (a + 1) with | .inl f => _ | .inr (cs, a2) => _) = _
                   rw [hf]
                   show (if tT τ0 t n a2 = 41 then _ else _) = _
                   rw [if_pos (b1_n0.mp c64)])
          · refine g_aload_n B dX6_atom1_67 rfl ?_
            first
              | refine g_callVv (C := RX6) (As := []) B dX6_atom1_68 (gc1 g_X6_174) (by rfl) ⟨rfl, hd_X6_fail⟩ (by exact ⟨Nat.le_of_ble_eq_true rfl, Nat.le_of_ble_eq_true rfl⟩) ⟨rfl, rfl⟩ rfl rfl (by exact Nat.le_of_ble_eq_true rfl) recvM (c_flB hB8 ?_)
              | refine g_callVv (C := RX6) (As := []) B dX6_atom1_68 (gc1 g_X6_174) (by rfl) ⟨rfl, hd_X6_fail⟩ (by exact ⟨Nat.le_of_ble_eq_true rfl, Nat.le_of_ble_eq_true rfl⟩) ⟨rfl, rfl⟩ rfl rfl (by exact Nat.le_of_ble_eq_true rfl) recvM (c_fl hM8 (fun τ6 hB6 => ?_))
            refine g_aload_n B dX6_atom1_71 rfl ?_
            refine g_dup B dX6_atom1_72 rfl ?_
            refine g_getI (T := TX6) (N := 42) B dX6_atom1_73 (by decide) (by rfl) (inq inlX6) rfl 24 (by decide) (mq f_X6_171) (by rfl) ?_
            refine g_iconst (v := (1)) B dX6_atom1_76 (by decide) ?_
            refine g_isub B dX6_atom1_77 ?_
            refine g_putI (T := TX6) (N := 42) B dX6_atom1_78 (by decide) (by rfl) (inq inlX6) rfl 24 (by decide) (mq f_X6_171) tyX6_ok nmX6 rfl ⟨rfl, rfl⟩ (by rfl) ?_
            refine g_aload_n B dX6_atom1_81 rfl ?_
            refine g_getI (T := TX6) (N := 42) B dX6_atom1_82 (by decide) (by rfl) (inq inlX6) rfl 25 (by decide) (mq f_X6_161) (by rfl) ?_
            refine g_if_ne (tgt := 161) B dX6_atom1_85 (by decide) (fun c85 => ?_) (fun c85 => ?_)
            · refine g_iload_n B dX6_atom1_161 rfl ?_
              refine g_ireti B dX6_atom1_162 ?_
              first
                | exact absurd c15 (by decide)
                | exact absurd c50 (by decide)
                | exact absurd hB9.2.1 (fun h => absurd (c147.symm.trans h) (by decide))
                | exact absurd hM.2.1 c147
                | (refine hK1 f ?_ _ _ hB8.close
                   unfold pAtom
                   rw [if_neg (fun h => by rw [b1_n0.mp c43] at h; exact absurd h (by decide)), if_neg (b1_0.mp c8), if_pos (b1_n0.mp c43)]
                   show (match pEith (tT τ0 t n) (tV τ0 t n) (pLev (tT τ0 t n) (tV τ0 t n) 3) (a + 1) with | .inl f => _ | .inr (cs, a2) => _) = _
                   rw [hf])
                | (refine hK1 a2 ?_ _ _ hB6.close
                   unfold pAtom
                   rw [if_neg (fun h => by rw [b1_n0.mp c43] at h; exact absurd h (by decide)), if_neg (b1_0.mp c8), if_pos (b1_n0.mp c43)]
                   show (match pEith (tT τ0 t n) (tV τ0 t n) (pLev (tT τ0 t n) (tV τ0 t n) 3) (a + 1) with | .inl f => _ | .inr (cs, a2) => _) = _
                   rw [hf]
                   show (if tT τ0 t n a2 = 41 then _ else _) = _
                   rw [if_neg (b1_0.mp c64)])
                | exact absurd (MS.close (by decide) hM8).2.1 c85
                | exact hg _ _ hB9 (fun h => h.elim (fun h => c107 (hM.A.num.1.mpr h)) (fun h => h3 h)) (b1_0.mp c8) (b1_0.mp c43)
            · first
                | exact absurd (c85.symm.trans hB8.close.2.1) (by decide)
                | exact absurd (c85.symm.trans hB6.close.2.1) (by decide)
                | (refine g_aload_n B dX6_atom1_88 rfl ?_
                   refine g_callVv (C := RX6) (As := []) B dX6_atom1_89 (gc1 g_X6_177) (by rfl) ⟨rfl, hd_X6_next⟩ (by exact ⟨Nat.le_of_ble_eq_true rfl, Nat.le_of_ble_eq_true rfl⟩) ⟨rfl, rfl⟩ rfl rfl (by exact Nat.le_of_ble_eq_true rfl) recvM (c_nx hR (MS.close (by decide) hM8) (isS_0 (by rw [b1_n0.mp c64]; decide)) (fun τ9 hM9 => ?_))
                   refine g_goto (tgt := 161) B dX6_atom1_92 (by decide) ?_
                   refine g_iload_n B dX6_atom1_161 rfl ?_
                   refine g_ireti B dX6_atom1_162 ?_
                   refine hK2 cs (a2 + 1) ?_ _ hM9
                   unfold pAtom
                   rw [if_neg (fun h => by rw [b1_n0.mp c43] at h; exact absurd h (by decide)), if_neg (b1_0.mp c8), if_pos (b1_n0.mp c43)]
                   show (match pEith (tT τ0 t n) (tV τ0 t n) (pLev (tT τ0 t n) (tV τ0 t n) 3) (a + 1) with | .inl f => _ | .inr (cs, a2) => _) = _
                   rw [hf]
                   show (if tT τ0 t n a2 = 41 then _ else _) = _
                   rw [if_pos (b1_n0.mp c64)])
  · refine g_aload_n B dX6_atom1_11 rfl ?_
    refine g_callVi (C := RX6) (As := []) B dX6_atom1_12 (gc1 g_X6_205) (by rfl) ⟨rfl, hd_X6_opens⟩ (by exact ⟨Nat.le_of_ble_eq_true rfl, Nat.le_of_ble_eq_true rfl⟩) ⟨rfl, rfl⟩ rfl rfl (by exact Nat.le_of_ble_eq_true rfl) recvM (c_opn hR hM (by decide) (isS_0 (by rw [b1_n0.mp c8]; decide)) (fun τ7 hM7 => ?_))
    refine g_if_eq (tgt := 161) B dX6_atom1_15 (by decide) (fun c15 => ?_) (fun c15 => ?_)
    · exact absurd c15 (by decide)
    · refine g_aload_n B dX6_atom1_18 rfl ?_
      refine g_callVi (C := RX6) (As := []) B dX6_atom1_19 (gc1 g_X6_271) (by rfl) ⟨rfl, hd_X6_atom2⟩ (by exact ⟨Nat.le_of_ble_eq_true rfl, Nat.le_of_ble_eq_true rfl⟩) ⟨rfl, rfl⟩ rfl rfl (by exact Nat.le_of_ble_eq_true rfl) recvM (c_atom2 hR hM7 (fun f hf v8 τ8 hB8 => ?_) (fun cs a2 hf τ8 hM8 => ?_))
      · refine g_ineg B dX6_atom1_22 ?_
        refine g_istore_n B dX6_atom1_23 (by decide) rfl ?_
        refine g_aload_n B dX6_atom1_24 rfl ?_
        refine g_dup B dX6_atom1_25 rfl ?_
        refine g_getI (T := TX6) (N := 42) B dX6_atom1_26 (by decide) (by rfl) (inq inlX6) rfl 24 (by decide) (mq f_X6_171) (by rfl) ?_
        refine g_iconst (v := (1)) B dX6_atom1_29 (by decide) ?_
        refine g_isub B dX6_atom1_30 ?_
        refine g_putI (T := TX6) (N := 42) B dX6_atom1_31 (by decide) (by rfl) (inq inlX6) rfl 24 (by decide) (mq f_X6_171) tyX6_ok nmX6 rfl ⟨rfl, rfl⟩ (by rfl) ?_
        refine g_goto (tgt := 161) B dX6_atom1_34 (by decide) ?_
        refine g_iload_n B dX6_atom1_161 rfl ?_
        refine g_ireti B dX6_atom1_162 ?_
        first
          | (refine hK1 f ?_ _ _ hB8.close
             unfold pAtom
             rw [if_neg (fun h => by rw [b1_n0.mp c8] at h; exact absurd h (by decide)), if_pos (b1_n0.mp c8)]
             show (match pAtom (tT τ0 t n) (tV τ0 t n) (pLev (tT τ0 t n) (tV τ0 t n) 3) (a + 1) with | .inl f => _ | .inr (cs, a2) => _) = _
             rw [hf])
          | (refine kk ?_ (hK2 (cs ++ [-22]) a2 (by
               unfold pAtom
               rw [if_neg (fun h => by rw [b1_n0.mp c8] at h; exact absurd h (by decide)), if_pos (b1_n0.mp c8)]
               show (match pAtom (tT τ0 t n) (tV τ0 t n) (pLev (tT τ0 t n) (tV τ0 t n) 3) (a + 1) with | .inl f => _ | .inr (cs, a2) => _) = _
               rw [hf]) _ (MS.close (by decide) hM8))
             exact (evc_neg (pAtom_ok (tT_TV hR) (pLev_ok (tT_TV hR) _) _ _ _ hf).1).symm)
      · refine g_ineg B dX6_atom1_22 ?_
        refine g_istore_n B dX6_atom1_23 (by decide) rfl ?_
        refine g_aload_n B dX6_atom1_24 rfl ?_
        refine g_dup B dX6_atom1_25 rfl ?_
        refine g_getI (T := TX6) (N := 42) B dX6_atom1_26 (by decide) (by rfl) (inq inlX6) rfl 24 (by decide) (mq f_X6_171) (by rfl) ?_
        refine g_iconst (v := (1)) B dX6_atom1_29 (by decide) ?_
        refine g_isub B dX6_atom1_30 ?_
        refine g_putI (T := TX6) (N := 42) B dX6_atom1_31 (by decide) (by rfl) (inq inlX6) rfl 24 (by decide) (mq f_X6_171) tyX6_ok nmX6 rfl ⟨rfl, rfl⟩ (by rfl) ?_
        refine g_goto (tgt := 161) B dX6_atom1_34 (by decide) ?_
        refine g_iload_n B dX6_atom1_161 rfl ?_
        refine g_ireti B dX6_atom1_162 ?_
        first
          | (refine hK1 f ?_ _ _ hB8.close
             unfold pAtom
             rw [if_neg (fun h => by rw [b1_n0.mp c8] at h; exact absurd h (by decide)), if_pos (b1_n0.mp c8)]
             show (match pAtom (tT τ0 t n) (tV τ0 t n) (pLev (tT τ0 t n) (tV τ0 t n) 3) (a + 1) with | .inl f => _ | .inr (cs, a2) => _) = _
             rw [hf])
          | (refine kk ?_ (hK2 (cs ++ [-22]) a2 (by
               unfold pAtom
               rw [if_neg (fun h => by rw [b1_n0.mp c8] at h; exact absurd h (by decide)), if_pos (b1_n0.mp c8)]
               show (match pAtom (tT τ0 t n) (tV τ0 t n) (pLev (tT τ0 t n) (tV τ0 t n) 3) (a + 1) with | .inl f => _ | .inr (cs, a2) => _) = _
               rw [hf]) _ (MS.close (by decide) hM8))
             exact (evc_neg (pAtom_ok (tT_TV hR) (pLev_ok (tT_TV hR) _) _ _ _ hf).1).symm)
set_option maxRecDepth 100000 in
set_option maxHeartbeats 4000000 in
theorem lB_term1 {Z : LZ} {ad : Nat → Nat} {X : CX} {K : Int32 → St → Prop} {τ0 τ : St} {t n f : Nat} {v : Int32} (B : Amb lyM Z ad (rmk 29) X cX6_term1 wsX6_term1 RX6 2 (some .int)) (hB : MB τ0 t n f τ) (hK : K v τ) : GG lyM Z ad (rmk 29) X (rI K) 5 [some (.ref (ad 0)), some (.int v)] [] τ := by
  refine g_aload_n B dX6_term1_5 rfl ?_
  refine g_bipush (v := (42)) B dX6_term1_6 (by decide) ?_
  refine g_callVi (C := RX6) (As := [.int _]) B dX6_term1_8 (gc1 g_X6_202) (by rfl) ⟨rfl, hd_X6_isSign⟩ (by exact ⟨Nat.le_of_ble_eq_true rfl, Nat.le_of_ble_eq_true rfl⟩) ⟨rfl, rfl⟩ rfl rfl (by exact Nat.le_of_ble_eq_true rfl) recvM (c_sgnB hB ?_)
  refine g_if_eq (tgt := 28) B dX6_term1_11 (by decide) (fun c11 => ?_) (fun c11 => ?_)
  · refine g_iload_n B dX6_term1_28 rfl ?_
    refine g_ireti B dX6_term1_29 ?_
    exact hK
  · exact absurd rfl c11
set_option maxRecDepth 100000 in
set_option maxHeartbeats 4000000 in
theorem l_term1 {Z : LZ} {ad : Nat → Nat} {X : CX} {K : Int32 → St → Prop} {τ0 : St} {t n : Nat} (B : Amb lyM Z ad (rmk 29) X cX6_term1 wsX6_term1 RX6 2 (some .int)) (hR : RB τ0 t n) : ∀ (k : Nat) (cs : List Int32) (b : Nat) (τ : St), 160 ≤ b + k → WF cs → MS τ0 t n 1 b τ → (∀ f, pLoop (pAtom (tT τ0 t n) (tV τ0 t n) (pLev (tT τ0 t n) (tV τ0 t n) 4)) (opMul (tT τ0 t n)) (k + 1) cs b = .inl f → ∀ v τ', MB τ0 t n f τ' → K v τ') → (∀ ds a2, pLoop (pAtom (tT τ0 t n) (tV τ0 t n) (pLev (tT τ0 t n) (tV τ0 t n) 4)) (opMul (tT τ0 t n)) (k + 1) cs b = .inr (ds, a2) → ∀ τ', MS τ0 t n 1 a2 τ' → K (evc (eM τ0) ds) τ') → GG lyM Z ad (rmk 29) X (rI K) 5 [some (.ref (ad 0)), some (.int (evc (eM τ0) cs))] [] τ := by
  intro k
  induction k using Nat.strongRecOn with
  | ind k ih =>
  intro cs b τ hk hw hM hK1 hK2
  have hn := hR.2.2.2
  unfold pLoop at hK1 hK2
  refine g_aload_n B dX6_term1_5 rfl ?_
  refine g_bipush (v := (42)) B dX6_term1_6 (by decide) ?_
  refine g_callVi (C := RX6) (As := [.int _]) B dX6_term1_8 (gc1 g_X6_202) (by rfl) ⟨rfl, hd_X6_isSign⟩ (by exact ⟨Nat.le_of_ble_eq_true rfl, Nat.le_of_ble_eq_true rfl⟩) ⟨rfl, rfl⟩ rfl rfl (by exact Nat.le_of_ble_eq_true rfl) recvM (c_sgn hM (show isS 42 by decide) ?_)
  refine g_if_eq (tgt := 28) B dX6_term1_11 (by decide) (fun c11 => ?_) (fun c11 => ?_)
  · refine g_iload_n B dX6_term1_28 rfl ?_
    refine g_ireti B dX6_term1_29 ?_
    have hop : opMul (tT τ0 t n) b = none := if_neg (b1_0.mp c11)
    rw [hop] at hK2
    exact hK2 _ _ rfl τ hM
  · have hT := b1_n0.mp c11
    have hop : opMul (tT τ0 t n) b = some (-17) := if_pos hT
    have hb := tT_lt hR (show tT τ0 t n b ≠ 0 by rw [hT]; decide)
    rw [hop] at hK1 hK2
    dsimp only at hK1 hK2
    refine g_aload_n B dX6_term1_14 rfl ?_
    refine g_callVv (C := RX6) (As := []) B dX6_term1_15 (gc1 g_X6_177) (by rfl) ⟨rfl, hd_X6_next⟩ (by exact ⟨Nat.le_of_ble_eq_true rfl, Nat.le_of_ble_eq_true rfl⟩) ⟨rfl, rfl⟩ rfl rfl (by exact Nat.le_of_ble_eq_true rfl) recvM (c_nx hR hM (isS_0 (by rw [hT]; decide)) (fun τ2 hM2 => ?_))
    refine g_iload_n B dX6_term1_18 rfl ?_
    refine g_aload_n B dX6_term1_19 rfl ?_
    refine g_callVi (C := RX6) (As := []) B dX6_term1_20 (gc1 g_X6_289) (by rfl) ⟨rfl, hd_X6_atom1⟩ (by exact ⟨Nat.le_of_ble_eq_true rfl, Nat.le_of_ble_eq_true rfl⟩) ⟨rfl, rfl⟩ rfl rfl (by exact Nat.le_of_ble_eq_true rfl) recvM (c_atom1 hR hM2 (fun f hf v8 τ8 hB8 => ?_) (fun cs2 a2 hf τ8 hM8 => ?_))
    · rw [hf] at hK1; dsimp only at hK1
      refine g_imul B dX6_term1_23 ?_
      refine g_istore_n B dX6_term1_24 (by decide) rfl ?_
      refine g_goto (tgt := 5) B dX6_term1_25 (by decide) ?_
      first
        | exact lB_term1 B hB8 (hK1 f rfl _ _ hB8)
        | (rw [evc_mul hw hw2]
           obtain ⟨k', rfl⟩ : ∃ k', k = k' + 1 := ⟨k - 1, by omega⟩
           exact ih k' (by omega) (cs ++ cs2 ++ [-17]) a2 τ8 (by omega) (hw.bin hw2 (by decide)) hM8 hK1 hK2)
    · rw [hf] at hK1 hK2; dsimp only at hK1 hK2; obtain ⟨hw2, hlt2⟩ := pAtom_ok (tT_TV hR) (pLev_ok (tT_TV hR) _) _ _ _ hf
      refine g_imul B dX6_term1_23 ?_
      refine g_istore_n B dX6_term1_24 (by decide) rfl ?_
      refine g_goto (tgt := 5) B dX6_term1_25 (by decide) ?_
      first
        | exact lB_term1 B hB8 (hK1 f rfl _ _ hB8)
        | (rw [evc_mul hw hw2]
           obtain ⟨k', rfl⟩ : ∃ k', k = k' + 1 := ⟨k - 1, by omega⟩
           exact ih k' (by omega) (cs ++ cs2 ++ [-17]) a2 τ8 (by omega) (hw.bin hw2 (by decide)) hM8 hK1 hK2)
set_option maxRecDepth 100000 in
set_option maxHeartbeats 4000000 in
theorem c_term1 {Z : LZ} {ad : Nat → Nat} {τ0 τ : St} {K : Int32 → St → Prop} {t n a : Nat} (hR : RB τ0 t n) (hM : MS τ0 t n 1 a τ) (hK1 : ∀ f, pTerm (tT τ0 t n) (tV τ0 t n) (pLev (tT τ0 t n) (tV τ0 t n) 4) a = .inl f → ∀ v τ', MB τ0 t n f τ' → K v τ') (hK2 : ∀ cs a2, pTerm (tT τ0 t n) (tV τ0 t n) (pLev (tT τ0 t n) (tV τ0 t n) 4) a = .inr (cs, a2) → ∀ τ', MS τ0 t n 1 a2 τ' → K (evc (eM τ0) cs) τ') : CC lyM Z ad yX6_term1 wsX6_term1 (rmk 29) [.ref (ad 0)] τ (rI K) := by
  refine CC.of (cc := cX6_term1) (nL := 2) (ret := (some .int)) rfl rfl ⟨rfl, rfl⟩ (by exact Nat.le_of_ble_eq_true rfl) ?_
  intro X B
  change GG _ _ _ _ X _ 0 [some (.ref (ad 0)), none] [] _
  change Amb _ _ _ _ X _ _ RX6 _ _ at B
  unfold pTerm pSeq at hK1 hK2
  refine g_aload_n B dX6_term1_0 rfl ?_
  refine g_callVi (C := RX6) (As := []) B dX6_term1_1 (gc1 g_X6_289) (by rfl) ⟨rfl, hd_X6_atom1⟩ (by exact ⟨Nat.le_of_ble_eq_true rfl, Nat.le_of_ble_eq_true rfl⟩) ⟨rfl, rfl⟩ rfl rfl (by exact Nat.le_of_ble_eq_true rfl) recvM (c_atom1 hR hM (fun f hf v8 τ8 hB8 => ?_) (fun cs a1 hf τ8 hM8 => ?_))
  · rw [hf] at hK1; dsimp only at hK1
    refine g_istore_n B dX6_term1_4 (by decide) rfl ?_
    first
      | exact lB_term1 B hB8 (hK1 f rfl _ _ hB8)
      | exact l_term1 B hR 199 cs a1 τ8 (by omega) (pAtom_ok (tT_TV hR) (pLev_ok (tT_TV hR) _) _ _ _ hf).1 hM8 hK1 hK2
  · rw [hf] at hK1 hK2; dsimp only at hK1 hK2
    refine g_istore_n B dX6_term1_4 (by decide) rfl ?_
    first
      | exact lB_term1 B hB8 (hK1 f rfl _ _ hB8)
      | exact l_term1 B hR 199 cs a1 τ8 (by omega) (pAtom_ok (tT_TV hR) (pLev_ok (tT_TV hR) _) _ _ _ hf).1 hM8 hK1 hK2
set_option maxRecDepth 100000 in
set_option maxHeartbeats 4000000 in
theorem lB_added1 {Z : LZ} {ad : Nat → Nat} {X : CX} {K : Int32 → St → Prop} {τ0 τ : St} {t n f : Nat} {v : Int32} (B : Amb lyM Z ad (rmk 30) X cX6_added1 wsX6_added1 RX6 4 (some .int)) (hB : MB τ0 t n f τ) (hK : K v τ) : GG lyM Z ad (rmk 30) X (rI K) 5 [some (.ref (ad 0)), some (.int v), none, none] [] τ := by
  refine g_aload_n B dX6_added1_5 rfl ?_
  refine g_bipush (v := (43)) B dX6_added1_6 (by decide) ?_
  refine g_callVi (C := RX6) (As := [.int _]) B dX6_added1_8 (gc1 g_X6_202) (by rfl) ⟨rfl, hd_X6_isSign⟩ (by exact ⟨Nat.le_of_ble_eq_true rfl, Nat.le_of_ble_eq_true rfl⟩) ⟨rfl, rfl⟩ rfl rfl (by exact Nat.le_of_ble_eq_true rfl) recvM (c_sgnB hB ?_)
  refine g_if_ne (tgt := 23) B dX6_added1_11 (by decide) (fun c11 => ?_) (fun c11 => ?_)
  · first | exact absurd rfl c11 | exact absurd rfl c20
  · refine g_aload_n B dX6_added1_14 rfl ?_
    refine g_bipush (v := (45)) B dX6_added1_15 (by decide) ?_
    refine g_callVi (C := RX6) (As := [.int _]) B dX6_added1_17 (gc1 g_X6_202) (by rfl) ⟨rfl, hd_X6_isSign⟩ (by exact ⟨Nat.le_of_ble_eq_true rfl, Nat.le_of_ble_eq_true rfl⟩) ⟨rfl, rfl⟩ rfl rfl (by exact Nat.le_of_ble_eq_true rfl) recvM (c_sgnB hB ?_)
    refine g_if_eq (tgt := 66) B dX6_added1_20 (by decide) (fun c20 => ?_) (fun c20 => ?_)
    · refine g_iload_n B dX6_added1_66 rfl ?_
      refine g_ireti B dX6_added1_67 ?_
      exact hK
    · first | exact absurd rfl c11 | exact absurd rfl c20
set_option maxRecDepth 100000 in
set_option maxHeartbeats 4000000 in
theorem l_added1 {Z : LZ} {ad : Nat → Nat} {X : CX} {K : Int32 → St → Prop} {τ0 : St} {t n : Nat} (B : Amb lyM Z ad (rmk 30) X cX6_added1 wsX6_added1 RX6 4 (some .int)) (hR : RB τ0 t n) : ∀ (k : Nat) (cs : List Int32) (b : Nat) (τ : St), 160 ≤ b + k → WF cs → MS τ0 t n 1 b τ → (∀ f, pLoop (pTerm (tT τ0 t n) (tV τ0 t n) (pLev (tT τ0 t n) (tV τ0 t n) 4)) (opAdd (tT τ0 t n)) (k + 1) cs b = .inl f → ∀ v τ', MB τ0 t n f τ' → K v τ') → (∀ ds a2, pLoop (pTerm (tT τ0 t n) (tV τ0 t n) (pLev (tT τ0 t n) (tV τ0 t n) 4)) (opAdd (tT τ0 t n)) (k + 1) cs b = .inr (ds, a2) → ∀ τ', MS τ0 t n 1 a2 τ' → K (evc (eM τ0) ds) τ') → GG lyM Z ad (rmk 30) X (rI K) 5 [some (.ref (ad 0)), some (.int (evc (eM τ0) cs)), none, none] [] τ := by
  intro k
  induction k using Nat.strongRecOn with
  | ind k ih =>
  intro cs b τ hk hw hM hK1 hK2
  have hn := hR.2.2.2
  unfold pLoop at hK1 hK2
  refine g_aload_n B dX6_added1_5 rfl ?_
  refine g_bipush (v := (43)) B dX6_added1_6 (by decide) ?_
  refine g_callVi (C := RX6) (As := [.int _]) B dX6_added1_8 (gc1 g_X6_202) (by rfl) ⟨rfl, hd_X6_isSign⟩ (by exact ⟨Nat.le_of_ble_eq_true rfl, Nat.le_of_ble_eq_true rfl⟩) ⟨rfl, rfl⟩ rfl rfl (by exact Nat.le_of_ble_eq_true rfl) recvM (c_sgn hM (show isS 43 by decide) ?_)
  refine g_if_ne (tgt := 23) B dX6_added1_11 (by decide) (fun c11 => ?_) (fun c11 => ?_)
  · have hT : tT τ0 t n b = 43 ∨ tT τ0 t n b = 45 := by first | exact Or.inl (b1_n0.mp c11) | exact Or.inr (b1_n0.mp c20)
    have hT0 : isS (tT τ0 t n b) := by rcases hT with h | h <;> rw [h] <;> decide
    have hb := tT_lt hR (isS_0 hT0).1
    have hwv := hM.w hT0
    have h43 : τ.2.1 = 43 ↔ tT τ0 t n b = 43 := by
      rw [hwv]
      constructor
      · intro h
        have := congrArg Int64.toInt h
        rw [i_long] at this
        exact i_eq.mpr this
      · intro h
        rw [h]; rfl
    refine g_aload_n B dX6_added1_23 rfl ?_
    refine g_getL (T := TX6) (N := 42) B dX6_added1_24 (by decide) (by rfl) (inq inlX6) rfl 23 (by decide) (mq f_X6_155) (by rfl) ?_
    refine g_ldc2 (v := (43)) B dX6_added1_27 (mq k_X6_219) ?_
    refine g_lcmp B dX6_added1_30 ?_
    refine g_if_ne (tgt := 38) B dX6_added1_31 (by decide) (fun c31 => ?_) (fun c31 => ?_)
    · refine g_iconst (v := (0)) B dX6_added1_38 (by decide) ?_
      refine g_istore_n B dX6_added1_39 (by decide) rfl ?_
      refine g_aload_n B dX6_added1_40 rfl ?_
      refine g_callVv (C := RX6) (As := []) B dX6_added1_41 (gc1 g_X6_177) (by rfl) ⟨rfl, hd_X6_next⟩ (by exact ⟨Nat.le_of_ble_eq_true rfl, Nat.le_of_ble_eq_true rfl⟩) ⟨rfl, rfl⟩ rfl rfl (by exact Nat.le_of_ble_eq_true rfl) recvM (c_nx hR hM (isS_0 hT0) (fun τ2 hM2 => ?_))
      refine g_aload_n B dX6_added1_44 rfl ?_
      refine g_callVi (C := RX6) (As := []) B dX6_added1_45 (gc1 g_X6_292) (by rfl) ⟨rfl, hd_X6_term1⟩ (by exact ⟨Nat.le_of_ble_eq_true rfl, Nat.le_of_ble_eq_true rfl⟩) ⟨rfl, rfl⟩ rfl rfl (by exact Nat.le_of_ble_eq_true rfl) recvM (c_term1 hR hM2 (fun f hf v8 τ8 hB8 => ?_) (fun cs2 a2 hf τ8 hM8 => ?_))
      · skip
        refine g_istore_n B dX6_added1_48 (by decide) rfl ?_
        refine g_iload_n B dX6_added1_49 rfl ?_
        refine g_if_eq (tgt := 59) B dX6_added1_50 (by decide) (fun c50 => ?_) (fun c50 => ?_)
        · refine g_iload_n B dX6_added1_59 rfl ?_
          refine g_iload_n B dX6_added1_60 rfl ?_
          refine g_isub B dX6_added1_61 ?_
          refine g_istore_n B dX6_added1_62 (by decide) rfl ?_
          refine g_goto (tgt := 5) B dX6_added1_63 (by decide) ?_
          first
            | exact absurd rfl c50
            | exact absurd c50 (by decide)
            | (have hop : opAdd (tT τ0 t n) b = some (-15) := if_pos (h43.mp (l_cmp_eq0.mp c31))
               rw [hop] at hK1 hK2
               dsimp only at hK1 hK2
               rw [hf] at hK1 hK2
               dsimp only at hK1 hK2
               refine g_drop 2 (g_drop 3 ?_)
               first
               | exact lB_added1 B hB8 (hK1 f rfl _ _ hB8)
               | (obtain ⟨hw2, hlt2⟩ := pTerm_ok (tT_TV hR) (pLev_ok (tT_TV hR) _) _ _ _ hf
                  rw [evc_add hw hw2]
                  obtain ⟨k', rfl⟩ : ∃ k', k = k' + 1 := ⟨k - 1, by omega⟩
                  exact ih k' (by omega) (cs ++ cs2 ++ [-15]) a2 τ8 (by omega) (hw.bin hw2 (by decide)) hM8 hK1 hK2))
            | (have h31 : ¬ tT τ0 t n b = 43 := fun h => c31 (l_cmp_eq0.mpr (h43.mpr h))
               have hop : opAdd (tT τ0 t n) b = some (-16) := (if_neg h31).trans (if_pos (hT.resolve_left h31))
               rw [hop] at hK1 hK2
               dsimp only at hK1 hK2
               rw [hf] at hK1 hK2
               dsimp only at hK1 hK2
               refine g_drop 2 (g_drop 3 ?_)
               first
               | exact lB_added1 B hB8 (hK1 f rfl _ _ hB8)
               | (obtain ⟨hw2, hlt2⟩ := pTerm_ok (tT_TV hR) (pLev_ok (tT_TV hR) _) _ _ _ hf
                  rw [evc_sub hw hw2]
                  obtain ⟨k', rfl⟩ : ∃ k', k = k' + 1 := ⟨k - 1, by omega⟩
                  exact ih k' (by omega) (cs ++ cs2 ++ [-16]) a2 τ8 (by omega) (hw.bin hw2 (by decide)) hM8 hK1 hK2))
        · refine g_iload_n B dX6_added1_53 rfl ?_
          refine g_iload_n B dX6_added1_54 rfl ?_
          refine g_iadd B dX6_added1_55 ?_
          refine g_goto (tgt := 62) B dX6_added1_56 (by decide) ?_
          refine g_istore_n B dX6_added1_62 (by decide) rfl ?_
          refine g_goto (tgt := 5) B dX6_added1_63 (by decide) ?_
          first
            | exact absurd rfl c50
            | exact absurd c50 (by decide)
            | (have hop : opAdd (tT τ0 t n) b = some (-15) := if_pos (h43.mp (l_cmp_eq0.mp c31))
               rw [hop] at hK1 hK2
               dsimp only at hK1 hK2
               rw [hf] at hK1 hK2
               dsimp only at hK1 hK2
               refine g_drop 2 (g_drop 3 ?_)
               first
               | exact lB_added1 B hB8 (hK1 f rfl _ _ hB8)
               | (obtain ⟨hw2, hlt2⟩ := pTerm_ok (tT_TV hR) (pLev_ok (tT_TV hR) _) _ _ _ hf
                  rw [evc_add hw hw2]
                  obtain ⟨k', rfl⟩ : ∃ k', k = k' + 1 := ⟨k - 1, by omega⟩
                  exact ih k' (by omega) (cs ++ cs2 ++ [-15]) a2 τ8 (by omega) (hw.bin hw2 (by decide)) hM8 hK1 hK2))
            | (have h31 : ¬ tT τ0 t n b = 43 := fun h => c31 (l_cmp_eq0.mpr (h43.mpr h))
               have hop : opAdd (tT τ0 t n) b = some (-16) := (if_neg h31).trans (if_pos (hT.resolve_left h31))
               rw [hop] at hK1 hK2
               dsimp only at hK1 hK2
               rw [hf] at hK1 hK2
               dsimp only at hK1 hK2
               refine g_drop 2 (g_drop 3 ?_)
               first
               | exact lB_added1 B hB8 (hK1 f rfl _ _ hB8)
               | (obtain ⟨hw2, hlt2⟩ := pTerm_ok (tT_TV hR) (pLev_ok (tT_TV hR) _) _ _ _ hf
                  rw [evc_sub hw hw2]
                  obtain ⟨k', rfl⟩ : ∃ k', k = k' + 1 := ⟨k - 1, by omega⟩
                  exact ih k' (by omega) (cs ++ cs2 ++ [-16]) a2 τ8 (by omega) (hw.bin hw2 (by decide)) hM8 hK1 hK2))
      · skip
        refine g_istore_n B dX6_added1_48 (by decide) rfl ?_
        refine g_iload_n B dX6_added1_49 rfl ?_
        refine g_if_eq (tgt := 59) B dX6_added1_50 (by decide) (fun c50 => ?_) (fun c50 => ?_)
        · refine g_iload_n B dX6_added1_59 rfl ?_
          refine g_iload_n B dX6_added1_60 rfl ?_
          refine g_isub B dX6_added1_61 ?_
          refine g_istore_n B dX6_added1_62 (by decide) rfl ?_
          refine g_goto (tgt := 5) B dX6_added1_63 (by decide) ?_
          first
            | exact absurd rfl c50
            | exact absurd c50 (by decide)
            | (have hop : opAdd (tT τ0 t n) b = some (-15) := if_pos (h43.mp (l_cmp_eq0.mp c31))
               rw [hop] at hK1 hK2
               dsimp only at hK1 hK2
               rw [hf] at hK1 hK2
               dsimp only at hK1 hK2
               refine g_drop 2 (g_drop 3 ?_)
               first
               | exact lB_added1 B hB8 (hK1 f rfl _ _ hB8)
               | (obtain ⟨hw2, hlt2⟩ := pTerm_ok (tT_TV hR) (pLev_ok (tT_TV hR) _) _ _ _ hf
                  rw [evc_add hw hw2]
                  obtain ⟨k', rfl⟩ : ∃ k', k = k' + 1 := ⟨k - 1, by omega⟩
                  exact ih k' (by omega) (cs ++ cs2 ++ [-15]) a2 τ8 (by omega) (hw.bin hw2 (by decide)) hM8 hK1 hK2))
            | (have h31 : ¬ tT τ0 t n b = 43 := fun h => c31 (l_cmp_eq0.mpr (h43.mpr h))
               have hop : opAdd (tT τ0 t n) b = some (-16) := (if_neg h31).trans (if_pos (hT.resolve_left h31))
               rw [hop] at hK1 hK2
               dsimp only at hK1 hK2
               rw [hf] at hK1 hK2
               dsimp only at hK1 hK2
               refine g_drop 2 (g_drop 3 ?_)
               first
               | exact lB_added1 B hB8 (hK1 f rfl _ _ hB8)
               | (obtain ⟨hw2, hlt2⟩ := pTerm_ok (tT_TV hR) (pLev_ok (tT_TV hR) _) _ _ _ hf
                  rw [evc_sub hw hw2]
                  obtain ⟨k', rfl⟩ : ∃ k', k = k' + 1 := ⟨k - 1, by omega⟩
                  exact ih k' (by omega) (cs ++ cs2 ++ [-16]) a2 τ8 (by omega) (hw.bin hw2 (by decide)) hM8 hK1 hK2))
        · refine g_iload_n B dX6_added1_53 rfl ?_
          refine g_iload_n B dX6_added1_54 rfl ?_
          refine g_iadd B dX6_added1_55 ?_
          refine g_goto (tgt := 62) B dX6_added1_56 (by decide) ?_
          refine g_istore_n B dX6_added1_62 (by decide) rfl ?_
          refine g_goto (tgt := 5) B dX6_added1_63 (by decide) ?_
          first
            | exact absurd rfl c50
            | exact absurd c50 (by decide)
            | (have hop : opAdd (tT τ0 t n) b = some (-15) := if_pos (h43.mp (l_cmp_eq0.mp c31))
               rw [hop] at hK1 hK2
               dsimp only at hK1 hK2
               rw [hf] at hK1 hK2
               dsimp only at hK1 hK2
               refine g_drop 2 (g_drop 3 ?_)
               first
               | exact lB_added1 B hB8 (hK1 f rfl _ _ hB8)
               | (obtain ⟨hw2, hlt2⟩ := pTerm_ok (tT_TV hR) (pLev_ok (tT_TV hR) _) _ _ _ hf
                  rw [evc_add hw hw2]
                  obtain ⟨k', rfl⟩ : ∃ k', k = k' + 1 := ⟨k - 1, by omega⟩
                  exact ih k' (by omega) (cs ++ cs2 ++ [-15]) a2 τ8 (by omega) (hw.bin hw2 (by decide)) hM8 hK1 hK2))
            | (have h31 : ¬ tT τ0 t n b = 43 := fun h => c31 (l_cmp_eq0.mpr (h43.mpr h))
               have hop : opAdd (tT τ0 t n) b = some (-16) := (if_neg h31).trans (if_pos (hT.resolve_left h31))
               rw [hop] at hK1 hK2
               dsimp only at hK1 hK2
               rw [hf] at hK1 hK2
               dsimp only at hK1 hK2
               refine g_drop 2 (g_drop 3 ?_)
               first
               | exact lB_added1 B hB8 (hK1 f rfl _ _ hB8)
               | (obtain ⟨hw2, hlt2⟩ := pTerm_ok (tT_TV hR) (pLev_ok (tT_TV hR) _) _ _ _ hf
                  rw [evc_sub hw hw2]
                  obtain ⟨k', rfl⟩ : ∃ k', k = k' + 1 := ⟨k - 1, by omega⟩
                  exact ih k' (by omega) (cs ++ cs2 ++ [-16]) a2 τ8 (by omega) (hw.bin hw2 (by decide)) hM8 hK1 hK2))
    · refine g_iconst (v := (1)) B dX6_added1_34 (by decide) ?_
      refine g_goto (tgt := 39) B dX6_added1_35 (by decide) ?_
      refine g_istore_n B dX6_added1_39 (by decide) rfl ?_
      refine g_aload_n B dX6_added1_40 rfl ?_
      refine g_callVv (C := RX6) (As := []) B dX6_added1_41 (gc1 g_X6_177) (by rfl) ⟨rfl, hd_X6_next⟩ (by exact ⟨Nat.le_of_ble_eq_true rfl, Nat.le_of_ble_eq_true rfl⟩) ⟨rfl, rfl⟩ rfl rfl (by exact Nat.le_of_ble_eq_true rfl) recvM (c_nx hR hM (isS_0 hT0) (fun τ2 hM2 => ?_))
      refine g_aload_n B dX6_added1_44 rfl ?_
      refine g_callVi (C := RX6) (As := []) B dX6_added1_45 (gc1 g_X6_292) (by rfl) ⟨rfl, hd_X6_term1⟩ (by exact ⟨Nat.le_of_ble_eq_true rfl, Nat.le_of_ble_eq_true rfl⟩) ⟨rfl, rfl⟩ rfl rfl (by exact Nat.le_of_ble_eq_true rfl) recvM (c_term1 hR hM2 (fun f hf v8 τ8 hB8 => ?_) (fun cs2 a2 hf τ8 hM8 => ?_))
      · skip
        refine g_istore_n B dX6_added1_48 (by decide) rfl ?_
        refine g_iload_n B dX6_added1_49 rfl ?_
        refine g_if_eq (tgt := 59) B dX6_added1_50 (by decide) (fun c50 => ?_) (fun c50 => ?_)
        · refine g_iload_n B dX6_added1_59 rfl ?_
          refine g_iload_n B dX6_added1_60 rfl ?_
          refine g_isub B dX6_added1_61 ?_
          refine g_istore_n B dX6_added1_62 (by decide) rfl ?_
          refine g_goto (tgt := 5) B dX6_added1_63 (by decide) ?_
          first
            | exact absurd rfl c50
            | exact absurd c50 (by decide)
            | (have hop : opAdd (tT τ0 t n) b = some (-15) := if_pos (h43.mp (l_cmp_eq0.mp c31))
               rw [hop] at hK1 hK2
               dsimp only at hK1 hK2
               rw [hf] at hK1 hK2
               dsimp only at hK1 hK2
               refine g_drop 2 (g_drop 3 ?_)
               first
               | exact lB_added1 B hB8 (hK1 f rfl _ _ hB8)
               | (obtain ⟨hw2, hlt2⟩ := pTerm_ok (tT_TV hR) (pLev_ok (tT_TV hR) _) _ _ _ hf
                  rw [evc_add hw hw2]
                  obtain ⟨k', rfl⟩ : ∃ k', k = k' + 1 := ⟨k - 1, by omega⟩
                  exact ih k' (by omega) (cs ++ cs2 ++ [-15]) a2 τ8 (by omega) (hw.bin hw2 (by decide)) hM8 hK1 hK2))
            | (have h31 : ¬ tT τ0 t n b = 43 := fun h => c31 (l_cmp_eq0.mpr (h43.mpr h))
               have hop : opAdd (tT τ0 t n) b = some (-16) := (if_neg h31).trans (if_pos (hT.resolve_left h31))
               rw [hop] at hK1 hK2
               dsimp only at hK1 hK2
               rw [hf] at hK1 hK2
               dsimp only at hK1 hK2
               refine g_drop 2 (g_drop 3 ?_)
               first
               | exact lB_added1 B hB8 (hK1 f rfl _ _ hB8)
               | (obtain ⟨hw2, hlt2⟩ := pTerm_ok (tT_TV hR) (pLev_ok (tT_TV hR) _) _ _ _ hf
                  rw [evc_sub hw hw2]
                  obtain ⟨k', rfl⟩ : ∃ k', k = k' + 1 := ⟨k - 1, by omega⟩
                  exact ih k' (by omega) (cs ++ cs2 ++ [-16]) a2 τ8 (by omega) (hw.bin hw2 (by decide)) hM8 hK1 hK2))
        · refine g_iload_n B dX6_added1_53 rfl ?_
          refine g_iload_n B dX6_added1_54 rfl ?_
          refine g_iadd B dX6_added1_55 ?_
          refine g_goto (tgt := 62) B dX6_added1_56 (by decide) ?_
          refine g_istore_n B dX6_added1_62 (by decide) rfl ?_
          refine g_goto (tgt := 5) B dX6_added1_63 (by decide) ?_
          first
            | exact absurd rfl c50
            | exact absurd c50 (by decide)
            | (have hop : opAdd (tT τ0 t n) b = some (-15) := if_pos (h43.mp (l_cmp_eq0.mp c31))
               rw [hop] at hK1 hK2
               dsimp only at hK1 hK2
               rw [hf] at hK1 hK2
               dsimp only at hK1 hK2
               refine g_drop 2 (g_drop 3 ?_)
               first
               | exact lB_added1 B hB8 (hK1 f rfl _ _ hB8)
               | (obtain ⟨hw2, hlt2⟩ := pTerm_ok (tT_TV hR) (pLev_ok (tT_TV hR) _) _ _ _ hf
                  rw [evc_add hw hw2]
                  obtain ⟨k', rfl⟩ : ∃ k', k = k' + 1 := ⟨k - 1, by omega⟩
                  exact ih k' (by omega) (cs ++ cs2 ++ [-15]) a2 τ8 (by omega) (hw.bin hw2 (by decide)) hM8 hK1 hK2))
            | (have h31 : ¬ tT τ0 t n b = 43 := fun h => c31 (l_cmp_eq0.mpr (h43.mpr h))
               have hop : opAdd (tT τ0 t n) b = some (-16) := (if_neg h31).trans (if_pos (hT.resolve_left h31))
               rw [hop] at hK1 hK2
               dsimp only at hK1 hK2
               rw [hf] at hK1 hK2
               dsimp only at hK1 hK2
               refine g_drop 2 (g_drop 3 ?_)
               first
               | exact lB_added1 B hB8 (hK1 f rfl _ _ hB8)
               | (obtain ⟨hw2, hlt2⟩ := pTerm_ok (tT_TV hR) (pLev_ok (tT_TV hR) _) _ _ _ hf
                  rw [evc_sub hw hw2]
                  obtain ⟨k', rfl⟩ : ∃ k', k = k' + 1 := ⟨k - 1, by omega⟩
                  exact ih k' (by omega) (cs ++ cs2 ++ [-16]) a2 τ8 (by omega) (hw.bin hw2 (by decide)) hM8 hK1 hK2))
      · skip
        refine g_istore_n B dX6_added1_48 (by decide) rfl ?_
        refine g_iload_n B dX6_added1_49 rfl ?_
        refine g_if_eq (tgt := 59) B dX6_added1_50 (by decide) (fun c50 => ?_) (fun c50 => ?_)
        · refine g_iload_n B dX6_added1_59 rfl ?_
          refine g_iload_n B dX6_added1_60 rfl ?_
          refine g_isub B dX6_added1_61 ?_
          refine g_istore_n B dX6_added1_62 (by decide) rfl ?_
          refine g_goto (tgt := 5) B dX6_added1_63 (by decide) ?_
          first
            | exact absurd rfl c50
            | exact absurd c50 (by decide)
            | (have hop : opAdd (tT τ0 t n) b = some (-15) := if_pos (h43.mp (l_cmp_eq0.mp c31))
               rw [hop] at hK1 hK2
               dsimp only at hK1 hK2
               rw [hf] at hK1 hK2
               dsimp only at hK1 hK2
               refine g_drop 2 (g_drop 3 ?_)
               first
               | exact lB_added1 B hB8 (hK1 f rfl _ _ hB8)
               | (obtain ⟨hw2, hlt2⟩ := pTerm_ok (tT_TV hR) (pLev_ok (tT_TV hR) _) _ _ _ hf
                  rw [evc_add hw hw2]
                  obtain ⟨k', rfl⟩ : ∃ k', k = k' + 1 := ⟨k - 1, by omega⟩
                  exact ih k' (by omega) (cs ++ cs2 ++ [-15]) a2 τ8 (by omega) (hw.bin hw2 (by decide)) hM8 hK1 hK2))
            | (have h31 : ¬ tT τ0 t n b = 43 := fun h => c31 (l_cmp_eq0.mpr (h43.mpr h))
               have hop : opAdd (tT τ0 t n) b = some (-16) := (if_neg h31).trans (if_pos (hT.resolve_left h31))
               rw [hop] at hK1 hK2
               dsimp only at hK1 hK2
               rw [hf] at hK1 hK2
               dsimp only at hK1 hK2
               refine g_drop 2 (g_drop 3 ?_)
               first
               | exact lB_added1 B hB8 (hK1 f rfl _ _ hB8)
               | (obtain ⟨hw2, hlt2⟩ := pTerm_ok (tT_TV hR) (pLev_ok (tT_TV hR) _) _ _ _ hf
                  rw [evc_sub hw hw2]
                  obtain ⟨k', rfl⟩ : ∃ k', k = k' + 1 := ⟨k - 1, by omega⟩
                  exact ih k' (by omega) (cs ++ cs2 ++ [-16]) a2 τ8 (by omega) (hw.bin hw2 (by decide)) hM8 hK1 hK2))
        · refine g_iload_n B dX6_added1_53 rfl ?_
          refine g_iload_n B dX6_added1_54 rfl ?_
          refine g_iadd B dX6_added1_55 ?_
          refine g_goto (tgt := 62) B dX6_added1_56 (by decide) ?_
          refine g_istore_n B dX6_added1_62 (by decide) rfl ?_
          refine g_goto (tgt := 5) B dX6_added1_63 (by decide) ?_
          first
            | exact absurd rfl c50
            | exact absurd c50 (by decide)
            | (have hop : opAdd (tT τ0 t n) b = some (-15) := if_pos (h43.mp (l_cmp_eq0.mp c31))
               rw [hop] at hK1 hK2
               dsimp only at hK1 hK2
               rw [hf] at hK1 hK2
               dsimp only at hK1 hK2
               refine g_drop 2 (g_drop 3 ?_)
               first
               | exact lB_added1 B hB8 (hK1 f rfl _ _ hB8)
               | (obtain ⟨hw2, hlt2⟩ := pTerm_ok (tT_TV hR) (pLev_ok (tT_TV hR) _) _ _ _ hf
                  rw [evc_add hw hw2]
                  obtain ⟨k', rfl⟩ : ∃ k', k = k' + 1 := ⟨k - 1, by omega⟩
                  exact ih k' (by omega) (cs ++ cs2 ++ [-15]) a2 τ8 (by omega) (hw.bin hw2 (by decide)) hM8 hK1 hK2))
            | (have h31 : ¬ tT τ0 t n b = 43 := fun h => c31 (l_cmp_eq0.mpr (h43.mpr h))
               have hop : opAdd (tT τ0 t n) b = some (-16) := (if_neg h31).trans (if_pos (hT.resolve_left h31))
               rw [hop] at hK1 hK2
               dsimp only at hK1 hK2
               rw [hf] at hK1 hK2
               dsimp only at hK1 hK2
               refine g_drop 2 (g_drop 3 ?_)
               first
               | exact lB_added1 B hB8 (hK1 f rfl _ _ hB8)
               | (obtain ⟨hw2, hlt2⟩ := pTerm_ok (tT_TV hR) (pLev_ok (tT_TV hR) _) _ _ _ hf
                  rw [evc_sub hw hw2]
                  obtain ⟨k', rfl⟩ : ∃ k', k = k' + 1 := ⟨k - 1, by omega⟩
                  exact ih k' (by omega) (cs ++ cs2 ++ [-16]) a2 τ8 (by omega) (hw.bin hw2 (by decide)) hM8 hK1 hK2))
  · refine g_aload_n B dX6_added1_14 rfl ?_
    refine g_bipush (v := (45)) B dX6_added1_15 (by decide) ?_
    refine g_callVi (C := RX6) (As := [.int _]) B dX6_added1_17 (gc1 g_X6_202) (by rfl) ⟨rfl, hd_X6_isSign⟩ (by exact ⟨Nat.le_of_ble_eq_true rfl, Nat.le_of_ble_eq_true rfl⟩) ⟨rfl, rfl⟩ rfl rfl (by exact Nat.le_of_ble_eq_true rfl) recvM (c_sgn hM (show isS 45 by decide) ?_)
    refine g_if_eq (tgt := 66) B dX6_added1_20 (by decide) (fun c20 => ?_) (fun c20 => ?_)
    · refine g_iload_n B dX6_added1_66 rfl ?_
      refine g_ireti B dX6_added1_67 ?_
      have hop : opAdd (tT τ0 t n) b = none := (if_neg (b1_0.mp c11)).trans (if_neg (b1_0.mp c20))
      rw [hop] at hK2
      exact hK2 _ _ rfl τ hM
    · have hT : tT τ0 t n b = 43 ∨ tT τ0 t n b = 45 := by first | exact Or.inl (b1_n0.mp c11) | exact Or.inr (b1_n0.mp c20)
      have hT0 : isS (tT τ0 t n b) := by rcases hT with h | h <;> rw [h] <;> decide
      have hb := tT_lt hR (isS_0 hT0).1
      have hwv := hM.w hT0
      have h43 : τ.2.1 = 43 ↔ tT τ0 t n b = 43 := by
        rw [hwv]
        constructor
        · intro h
          have := congrArg Int64.toInt h
          rw [i_long] at this
          exact i_eq.mpr this
        · intro h
          rw [h]; rfl
      refine g_aload_n B dX6_added1_23 rfl ?_
      refine g_getL (T := TX6) (N := 42) B dX6_added1_24 (by decide) (by rfl) (inq inlX6) rfl 23 (by decide) (mq f_X6_155) (by rfl) ?_
      refine g_ldc2 (v := (43)) B dX6_added1_27 (mq k_X6_219) ?_
      refine g_lcmp B dX6_added1_30 ?_
      refine g_if_ne (tgt := 38) B dX6_added1_31 (by decide) (fun c31 => ?_) (fun c31 => ?_)
      · refine g_iconst (v := (0)) B dX6_added1_38 (by decide) ?_
        refine g_istore_n B dX6_added1_39 (by decide) rfl ?_
        refine g_aload_n B dX6_added1_40 rfl ?_
        refine g_callVv (C := RX6) (As := []) B dX6_added1_41 (gc1 g_X6_177) (by rfl) ⟨rfl, hd_X6_next⟩ (by exact ⟨Nat.le_of_ble_eq_true rfl, Nat.le_of_ble_eq_true rfl⟩) ⟨rfl, rfl⟩ rfl rfl (by exact Nat.le_of_ble_eq_true rfl) recvM (c_nx hR hM (isS_0 hT0) (fun τ2 hM2 => ?_))
        refine g_aload_n B dX6_added1_44 rfl ?_
        refine g_callVi (C := RX6) (As := []) B dX6_added1_45 (gc1 g_X6_292) (by rfl) ⟨rfl, hd_X6_term1⟩ (by exact ⟨Nat.le_of_ble_eq_true rfl, Nat.le_of_ble_eq_true rfl⟩) ⟨rfl, rfl⟩ rfl rfl (by exact Nat.le_of_ble_eq_true rfl) recvM (c_term1 hR hM2 (fun f hf v8 τ8 hB8 => ?_) (fun cs2 a2 hf τ8 hM8 => ?_))
        · skip
          refine g_istore_n B dX6_added1_48 (by decide) rfl ?_
          refine g_iload_n B dX6_added1_49 rfl ?_
          refine g_if_eq (tgt := 59) B dX6_added1_50 (by decide) (fun c50 => ?_) (fun c50 => ?_)
          · refine g_iload_n B dX6_added1_59 rfl ?_
            refine g_iload_n B dX6_added1_60 rfl ?_
            refine g_isub B dX6_added1_61 ?_
            refine g_istore_n B dX6_added1_62 (by decide) rfl ?_
            refine g_goto (tgt := 5) B dX6_added1_63 (by decide) ?_
            first
              | exact absurd rfl c50
              | exact absurd c50 (by decide)
              | (have hop : opAdd (tT τ0 t n) b = some (-15) := if_pos (h43.mp (l_cmp_eq0.mp c31))
                 rw [hop] at hK1 hK2
                 dsimp only at hK1 hK2
                 rw [hf] at hK1 hK2
                 dsimp only at hK1 hK2
                 refine g_drop 2 (g_drop 3 ?_)
                 first
                 | exact lB_added1 B hB8 (hK1 f rfl _ _ hB8)
                 | (obtain ⟨hw2, hlt2⟩ := pTerm_ok (tT_TV hR) (pLev_ok (tT_TV hR) _) _ _ _ hf
                    rw [evc_add hw hw2]
                    obtain ⟨k', rfl⟩ : ∃ k', k = k' + 1 := ⟨k - 1, by omega⟩
                    exact ih k' (by omega) (cs ++ cs2 ++ [-15]) a2 τ8 (by omega) (hw.bin hw2 (by decide)) hM8 hK1 hK2))
              | (have h31 : ¬ tT τ0 t n b = 43 := fun h => c31 (l_cmp_eq0.mpr (h43.mpr h))
                 have hop : opAdd (tT τ0 t n) b = some (-16) := (if_neg h31).trans (if_pos (hT.resolve_left h31))
                 rw [hop] at hK1 hK2
                 dsimp only at hK1 hK2
                 rw [hf] at hK1 hK2
                 dsimp only at hK1 hK2
                 refine g_drop 2 (g_drop 3 ?_)
                 first
                 | exact lB_added1 B hB8 (hK1 f rfl _ _ hB8)
                 | (obtain ⟨hw2, hlt2⟩ := pTerm_ok (tT_TV hR) (pLev_ok (tT_TV hR) _) _ _ _ hf
                    rw [evc_sub hw hw2]
                    obtain ⟨k', rfl⟩ : ∃ k', k = k' + 1 := ⟨k - 1, by omega⟩
                    exact ih k' (by omega) (cs ++ cs2 ++ [-16]) a2 τ8 (by omega) (hw.bin hw2 (by decide)) hM8 hK1 hK2))
          · refine g_iload_n B dX6_added1_53 rfl ?_
            refine g_iload_n B dX6_added1_54 rfl ?_
            refine g_iadd B dX6_added1_55 ?_
            refine g_goto (tgt := 62) B dX6_added1_56 (by decide) ?_
            refine g_istore_n B dX6_added1_62 (by decide) rfl ?_
            refine g_goto (tgt := 5) B dX6_added1_63 (by decide) ?_
            first
              | exact absurd rfl c50
              | exact absurd c50 (by decide)
              | (have hop : opAdd (tT τ0 t n) b = some (-15) := if_pos (h43.mp (l_cmp_eq0.mp c31))
                 rw [hop] at hK1 hK2
                 dsimp only at hK1 hK2
                 rw [hf] at hK1 hK2
                 dsimp only at hK1 hK2
                 refine g_drop 2 (g_drop 3 ?_)
                 first
                 | exact lB_added1 B hB8 (hK1 f rfl _ _ hB8)
                 | (obtain ⟨hw2, hlt2⟩ := pTerm_ok (tT_TV hR) (pLev_ok (tT_TV hR) _) _ _ _ hf
                    rw [evc_add hw hw2]
                    obtain ⟨k', rfl⟩ : ∃ k', k = k' + 1 := ⟨k - 1, by omega⟩
                    exact ih k' (by omega) (cs ++ cs2 ++ [-15]) a2 τ8 (by omega) (hw.bin hw2 (by decide)) hM8 hK1 hK2))
              | (have h31 : ¬ tT τ0 t n b = 43 := fun h => c31 (l_cmp_eq0.mpr (h43.mpr h))
                 have hop : opAdd (tT τ0 t n) b = some (-16) := (if_neg h31).trans (if_pos (hT.resolve_left h31))
                 rw [hop] at hK1 hK2
                 dsimp only at hK1 hK2
                 rw [hf] at hK1 hK2
                 dsimp only at hK1 hK2
                 refine g_drop 2 (g_drop 3 ?_)
                 first
                 | exact lB_added1 B hB8 (hK1 f rfl _ _ hB8)
                 | (obtain ⟨hw2, hlt2⟩ := pTerm_ok (tT_TV hR) (pLev_ok (tT_TV hR) _) _ _ _ hf
                    rw [evc_sub hw hw2]
                    obtain ⟨k', rfl⟩ : ∃ k', k = k' + 1 := ⟨k - 1, by omega⟩
                    exact ih k' (by omega) (cs ++ cs2 ++ [-16]) a2 τ8 (by omega) (hw.bin hw2 (by decide)) hM8 hK1 hK2))
        · skip
          refine g_istore_n B dX6_added1_48 (by decide) rfl ?_
          refine g_iload_n B dX6_added1_49 rfl ?_
          refine g_if_eq (tgt := 59) B dX6_added1_50 (by decide) (fun c50 => ?_) (fun c50 => ?_)
          · refine g_iload_n B dX6_added1_59 rfl ?_
            refine g_iload_n B dX6_added1_60 rfl ?_
            refine g_isub B dX6_added1_61 ?_
            refine g_istore_n B dX6_added1_62 (by decide) rfl ?_
            refine g_goto (tgt := 5) B dX6_added1_63 (by decide) ?_
            first
              | exact absurd rfl c50
              | exact absurd c50 (by decide)
              | (have hop : opAdd (tT τ0 t n) b = some (-15) := if_pos (h43.mp (l_cmp_eq0.mp c31))
                 rw [hop] at hK1 hK2
                 dsimp only at hK1 hK2
                 rw [hf] at hK1 hK2
                 dsimp only at hK1 hK2
                 refine g_drop 2 (g_drop 3 ?_)
                 first
                 | exact lB_added1 B hB8 (hK1 f rfl _ _ hB8)
                 | (obtain ⟨hw2, hlt2⟩ := pTerm_ok (tT_TV hR) (pLev_ok (tT_TV hR) _) _ _ _ hf
                    rw [evc_add hw hw2]
                    obtain ⟨k', rfl⟩ : ∃ k', k = k' + 1 := ⟨k - 1, by omega⟩
                    exact ih k' (by omega) (cs ++ cs2 ++ [-15]) a2 τ8 (by omega) (hw.bin hw2 (by decide)) hM8 hK1 hK2))
              | (have h31 : ¬ tT τ0 t n b = 43 := fun h => c31 (l_cmp_eq0.mpr (h43.mpr h))
                 have hop : opAdd (tT τ0 t n) b = some (-16) := (if_neg h31).trans (if_pos (hT.resolve_left h31))
                 rw [hop] at hK1 hK2
                 dsimp only at hK1 hK2
                 rw [hf] at hK1 hK2
                 dsimp only at hK1 hK2
                 refine g_drop 2 (g_drop 3 ?_)
                 first
                 | exact lB_added1 B hB8 (hK1 f rfl _ _ hB8)
                 | (obtain ⟨hw2, hlt2⟩ := pTerm_ok (tT_TV hR) (pLev_ok (tT_TV hR) _) _ _ _ hf
                    rw [evc_sub hw hw2]
                    obtain ⟨k', rfl⟩ : ∃ k', k = k' + 1 := ⟨k - 1, by omega⟩
                    exact ih k' (by omega) (cs ++ cs2 ++ [-16]) a2 τ8 (by omega) (hw.bin hw2 (by decide)) hM8 hK1 hK2))
          · refine g_iload_n B dX6_added1_53 rfl ?_
            refine g_iload_n B dX6_added1_54 rfl ?_
            refine g_iadd B dX6_added1_55 ?_
            refine g_goto (tgt := 62) B dX6_added1_56 (by decide) ?_
            refine g_istore_n B dX6_added1_62 (by decide) rfl ?_
            refine g_goto (tgt := 5) B dX6_added1_63 (by decide) ?_
            first
              | exact absurd rfl c50
              | exact absurd c50 (by decide)
              | (have hop : opAdd (tT τ0 t n) b = some (-15) := if_pos (h43.mp (l_cmp_eq0.mp c31))
                 rw [hop] at hK1 hK2
                 dsimp only at hK1 hK2
                 rw [hf] at hK1 hK2
                 dsimp only at hK1 hK2
                 refine g_drop 2 (g_drop 3 ?_)
                 first
                 | exact lB_added1 B hB8 (hK1 f rfl _ _ hB8)
                 | (obtain ⟨hw2, hlt2⟩ := pTerm_ok (tT_TV hR) (pLev_ok (tT_TV hR) _) _ _ _ hf
                    rw [evc_add hw hw2]
                    obtain ⟨k', rfl⟩ : ∃ k', k = k' + 1 := ⟨k - 1, by omega⟩
                    exact ih k' (by omega) (cs ++ cs2 ++ [-15]) a2 τ8 (by omega) (hw.bin hw2 (by decide)) hM8 hK1 hK2))
              | (have h31 : ¬ tT τ0 t n b = 43 := fun h => c31 (l_cmp_eq0.mpr (h43.mpr h))
                 have hop : opAdd (tT τ0 t n) b = some (-16) := (if_neg h31).trans (if_pos (hT.resolve_left h31))
                 rw [hop] at hK1 hK2
                 dsimp only at hK1 hK2
                 rw [hf] at hK1 hK2
                 dsimp only at hK1 hK2
                 refine g_drop 2 (g_drop 3 ?_)
                 first
                 | exact lB_added1 B hB8 (hK1 f rfl _ _ hB8)
                 | (obtain ⟨hw2, hlt2⟩ := pTerm_ok (tT_TV hR) (pLev_ok (tT_TV hR) _) _ _ _ hf
                    rw [evc_sub hw hw2]
                    obtain ⟨k', rfl⟩ : ∃ k', k = k' + 1 := ⟨k - 1, by omega⟩
                    exact ih k' (by omega) (cs ++ cs2 ++ [-16]) a2 τ8 (by omega) (hw.bin hw2 (by decide)) hM8 hK1 hK2))
      · refine g_iconst (v := (1)) B dX6_added1_34 (by decide) ?_
        refine g_goto (tgt := 39) B dX6_added1_35 (by decide) ?_
        refine g_istore_n B dX6_added1_39 (by decide) rfl ?_
        refine g_aload_n B dX6_added1_40 rfl ?_
        refine g_callVv (C := RX6) (As := []) B dX6_added1_41 (gc1 g_X6_177) (by rfl) ⟨rfl, hd_X6_next⟩ (by exact ⟨Nat.le_of_ble_eq_true rfl, Nat.le_of_ble_eq_true rfl⟩) ⟨rfl, rfl⟩ rfl rfl (by exact Nat.le_of_ble_eq_true rfl) recvM (c_nx hR hM (isS_0 hT0) (fun τ2 hM2 => ?_))
        refine g_aload_n B dX6_added1_44 rfl ?_
        refine g_callVi (C := RX6) (As := []) B dX6_added1_45 (gc1 g_X6_292) (by rfl) ⟨rfl, hd_X6_term1⟩ (by exact ⟨Nat.le_of_ble_eq_true rfl, Nat.le_of_ble_eq_true rfl⟩) ⟨rfl, rfl⟩ rfl rfl (by exact Nat.le_of_ble_eq_true rfl) recvM (c_term1 hR hM2 (fun f hf v8 τ8 hB8 => ?_) (fun cs2 a2 hf τ8 hM8 => ?_))
        · skip
          refine g_istore_n B dX6_added1_48 (by decide) rfl ?_
          refine g_iload_n B dX6_added1_49 rfl ?_
          refine g_if_eq (tgt := 59) B dX6_added1_50 (by decide) (fun c50 => ?_) (fun c50 => ?_)
          · refine g_iload_n B dX6_added1_59 rfl ?_
            refine g_iload_n B dX6_added1_60 rfl ?_
            refine g_isub B dX6_added1_61 ?_
            refine g_istore_n B dX6_added1_62 (by decide) rfl ?_
            refine g_goto (tgt := 5) B dX6_added1_63 (by decide) ?_
            first
              | exact absurd rfl c50
              | exact absurd c50 (by decide)
              | (have hop : opAdd (tT τ0 t n) b = some (-15) := if_pos (h43.mp (l_cmp_eq0.mp c31))
                 rw [hop] at hK1 hK2
                 dsimp only at hK1 hK2
                 rw [hf] at hK1 hK2
                 dsimp only at hK1 hK2
                 refine g_drop 2 (g_drop 3 ?_)
                 first
                 | exact lB_added1 B hB8 (hK1 f rfl _ _ hB8)
                 | (obtain ⟨hw2, hlt2⟩ := pTerm_ok (tT_TV hR) (pLev_ok (tT_TV hR) _) _ _ _ hf
                    rw [evc_add hw hw2]
                    obtain ⟨k', rfl⟩ : ∃ k', k = k' + 1 := ⟨k - 1, by omega⟩
                    exact ih k' (by omega) (cs ++ cs2 ++ [-15]) a2 τ8 (by omega) (hw.bin hw2 (by decide)) hM8 hK1 hK2))
              | (have h31 : ¬ tT τ0 t n b = 43 := fun h => c31 (l_cmp_eq0.mpr (h43.mpr h))
                 have hop : opAdd (tT τ0 t n) b = some (-16) := (if_neg h31).trans (if_pos (hT.resolve_left h31))
                 rw [hop] at hK1 hK2
                 dsimp only at hK1 hK2
                 rw [hf] at hK1 hK2
                 dsimp only at hK1 hK2
                 refine g_drop 2 (g_drop 3 ?_)
                 first
                 | exact lB_added1 B hB8 (hK1 f rfl _ _ hB8)
                 | (obtain ⟨hw2, hlt2⟩ := pTerm_ok (tT_TV hR) (pLev_ok (tT_TV hR) _) _ _ _ hf
                    rw [evc_sub hw hw2]
                    obtain ⟨k', rfl⟩ : ∃ k', k = k' + 1 := ⟨k - 1, by omega⟩
                    exact ih k' (by omega) (cs ++ cs2 ++ [-16]) a2 τ8 (by omega) (hw.bin hw2 (by decide)) hM8 hK1 hK2))
          · refine g_iload_n B dX6_added1_53 rfl ?_
            refine g_iload_n B dX6_added1_54 rfl ?_
            refine g_iadd B dX6_added1_55 ?_
            refine g_goto (tgt := 62) B dX6_added1_56 (by decide) ?_
            refine g_istore_n B dX6_added1_62 (by decide) rfl ?_
            refine g_goto (tgt := 5) B dX6_added1_63 (by decide) ?_
            first
              | exact absurd rfl c50
              | exact absurd c50 (by decide)
              | (have hop : opAdd (tT τ0 t n) b = some (-15) := if_pos (h43.mp (l_cmp_eq0.mp c31))
                 rw [hop] at hK1 hK2
                 dsimp only at hK1 hK2
                 rw [hf] at hK1 hK2
                 dsimp only at hK1 hK2
                 refine g_drop 2 (g_drop 3 ?_)
                 first
                 | exact lB_added1 B hB8 (hK1 f rfl _ _ hB8)
                 | (obtain ⟨hw2, hlt2⟩ := pTerm_ok (tT_TV hR) (pLev_ok (tT_TV hR) _) _ _ _ hf
                    rw [evc_add hw hw2]
                    obtain ⟨k', rfl⟩ : ∃ k', k = k' + 1 := ⟨k - 1, by omega⟩
                    exact ih k' (by omega) (cs ++ cs2 ++ [-15]) a2 τ8 (by omega) (hw.bin hw2 (by decide)) hM8 hK1 hK2))
              | (have h31 : ¬ tT τ0 t n b = 43 := fun h => c31 (l_cmp_eq0.mpr (h43.mpr h))
                 have hop : opAdd (tT τ0 t n) b = some (-16) := (if_neg h31).trans (if_pos (hT.resolve_left h31))
                 rw [hop] at hK1 hK2
                 dsimp only at hK1 hK2
                 rw [hf] at hK1 hK2
                 dsimp only at hK1 hK2
                 refine g_drop 2 (g_drop 3 ?_)
                 first
                 | exact lB_added1 B hB8 (hK1 f rfl _ _ hB8)
                 | (obtain ⟨hw2, hlt2⟩ := pTerm_ok (tT_TV hR) (pLev_ok (tT_TV hR) _) _ _ _ hf
                    rw [evc_sub hw hw2]
                    obtain ⟨k', rfl⟩ : ∃ k', k = k' + 1 := ⟨k - 1, by omega⟩
                    exact ih k' (by omega) (cs ++ cs2 ++ [-16]) a2 τ8 (by omega) (hw.bin hw2 (by decide)) hM8 hK1 hK2))
        · skip
          refine g_istore_n B dX6_added1_48 (by decide) rfl ?_
          refine g_iload_n B dX6_added1_49 rfl ?_
          refine g_if_eq (tgt := 59) B dX6_added1_50 (by decide) (fun c50 => ?_) (fun c50 => ?_)
          · refine g_iload_n B dX6_added1_59 rfl ?_
            refine g_iload_n B dX6_added1_60 rfl ?_
            refine g_isub B dX6_added1_61 ?_
            refine g_istore_n B dX6_added1_62 (by decide) rfl ?_
            refine g_goto (tgt := 5) B dX6_added1_63 (by decide) ?_
            first
              | exact absurd rfl c50
              | exact absurd c50 (by decide)
              | (have hop : opAdd (tT τ0 t n) b = some (-15) := if_pos (h43.mp (l_cmp_eq0.mp c31))
                 rw [hop] at hK1 hK2
                 dsimp only at hK1 hK2
                 rw [hf] at hK1 hK2
                 dsimp only at hK1 hK2
                 refine g_drop 2 (g_drop 3 ?_)
                 first
                 | exact lB_added1 B hB8 (hK1 f rfl _ _ hB8)
                 | (obtain ⟨hw2, hlt2⟩ := pTerm_ok (tT_TV hR) (pLev_ok (tT_TV hR) _) _ _ _ hf
                    rw [evc_add hw hw2]
                    obtain ⟨k', rfl⟩ : ∃ k', k = k' + 1 := ⟨k - 1, by omega⟩
                    exact ih k' (by omega) (cs ++ cs2 ++ [-15]) a2 τ8 (by omega) (hw.bin hw2 (by decide)) hM8 hK1 hK2))
              | (have h31 : ¬ tT τ0 t n b = 43 := fun h => c31 (l_cmp_eq0.mpr (h43.mpr h))
                 have hop : opAdd (tT τ0 t n) b = some (-16) := (if_neg h31).trans (if_pos (hT.resolve_left h31))
                 rw [hop] at hK1 hK2
                 dsimp only at hK1 hK2
                 rw [hf] at hK1 hK2
                 dsimp only at hK1 hK2
                 refine g_drop 2 (g_drop 3 ?_)
                 first
                 | exact lB_added1 B hB8 (hK1 f rfl _ _ hB8)
                 | (obtain ⟨hw2, hlt2⟩ := pTerm_ok (tT_TV hR) (pLev_ok (tT_TV hR) _) _ _ _ hf
                    rw [evc_sub hw hw2]
                    obtain ⟨k', rfl⟩ : ∃ k', k = k' + 1 := ⟨k - 1, by omega⟩
                    exact ih k' (by omega) (cs ++ cs2 ++ [-16]) a2 τ8 (by omega) (hw.bin hw2 (by decide)) hM8 hK1 hK2))
          · refine g_iload_n B dX6_added1_53 rfl ?_
            refine g_iload_n B dX6_added1_54 rfl ?_
            refine g_iadd B dX6_added1_55 ?_
            refine g_goto (tgt := 62) B dX6_added1_56 (by decide) ?_
            refine g_istore_n B dX6_added1_62 (by decide) rfl ?_
            refine g_goto (tgt := 5) B dX6_added1_63 (by decide) ?_
            first
              | exact absurd rfl c50
              | exact absurd c50 (by decide)
              | (have hop : opAdd (tT τ0 t n) b = some (-15) := if_pos (h43.mp (l_cmp_eq0.mp c31))
                 rw [hop] at hK1 hK2
                 dsimp only at hK1 hK2
                 rw [hf] at hK1 hK2
                 dsimp only at hK1 hK2
                 refine g_drop 2 (g_drop 3 ?_)
                 first
                 | exact lB_added1 B hB8 (hK1 f rfl _ _ hB8)
                 | (obtain ⟨hw2, hlt2⟩ := pTerm_ok (tT_TV hR) (pLev_ok (tT_TV hR) _) _ _ _ hf
                    rw [evc_add hw hw2]
                    obtain ⟨k', rfl⟩ : ∃ k', k = k' + 1 := ⟨k - 1, by omega⟩
                    exact ih k' (by omega) (cs ++ cs2 ++ [-15]) a2 τ8 (by omega) (hw.bin hw2 (by decide)) hM8 hK1 hK2))
              | (have h31 : ¬ tT τ0 t n b = 43 := fun h => c31 (l_cmp_eq0.mpr (h43.mpr h))
                 have hop : opAdd (tT τ0 t n) b = some (-16) := (if_neg h31).trans (if_pos (hT.resolve_left h31))
                 rw [hop] at hK1 hK2
                 dsimp only at hK1 hK2
                 rw [hf] at hK1 hK2
                 dsimp only at hK1 hK2
                 refine g_drop 2 (g_drop 3 ?_)
                 first
                 | exact lB_added1 B hB8 (hK1 f rfl _ _ hB8)
                 | (obtain ⟨hw2, hlt2⟩ := pTerm_ok (tT_TV hR) (pLev_ok (tT_TV hR) _) _ _ _ hf
                    rw [evc_sub hw hw2]
                    obtain ⟨k', rfl⟩ : ∃ k', k = k' + 1 := ⟨k - 1, by omega⟩
                    exact ih k' (by omega) (cs ++ cs2 ++ [-16]) a2 τ8 (by omega) (hw.bin hw2 (by decide)) hM8 hK1 hK2))
set_option maxRecDepth 100000 in
set_option maxHeartbeats 4000000 in
theorem c_added1 {Z : LZ} {ad : Nat → Nat} {τ0 τ : St} {K : Int32 → St → Prop} {t n a : Nat} (hR : RB τ0 t n) (hM : MS τ0 t n 1 a τ) (hK1 : ∀ f, pSum (tT τ0 t n) (tV τ0 t n) (pLev (tT τ0 t n) (tV τ0 t n) 4) a = .inl f → ∀ v τ', MB τ0 t n f τ' → K v τ') (hK2 : ∀ cs a2, pSum (tT τ0 t n) (tV τ0 t n) (pLev (tT τ0 t n) (tV τ0 t n) 4) a = .inr (cs, a2) → ∀ τ', MS τ0 t n 1 a2 τ' → K (evc (eM τ0) cs) τ') : CC lyM Z ad yX6_added1 wsX6_added1 (rmk 30) [.ref (ad 0)] τ (rI K) := by
  refine CC.of (cc := cX6_added1) (nL := 4) (ret := (some .int)) rfl rfl ⟨rfl, rfl⟩ (by exact Nat.le_of_ble_eq_true rfl) ?_
  intro X B
  change GG _ _ _ _ X _ 0 [some (.ref (ad 0)), none, none, none] [] _
  change Amb _ _ _ _ X _ _ RX6 _ _ at B
  unfold pSum pSeq at hK1 hK2
  refine g_aload_n B dX6_added1_0 rfl ?_
  refine g_callVi (C := RX6) (As := []) B dX6_added1_1 (gc1 g_X6_292) (by rfl) ⟨rfl, hd_X6_term1⟩ (by exact ⟨Nat.le_of_ble_eq_true rfl, Nat.le_of_ble_eq_true rfl⟩) ⟨rfl, rfl⟩ rfl rfl (by exact Nat.le_of_ble_eq_true rfl) recvM (c_term1 hR hM (fun f hf v8 τ8 hB8 => ?_) (fun cs a1 hf τ8 hM8 => ?_))
  · rw [hf] at hK1; dsimp only at hK1
    refine g_istore_n B dX6_added1_4 (by decide) rfl ?_
    first
      | exact lB_added1 B hB8 (hK1 f rfl _ _ hB8)
      | exact l_added1 B hR 199 cs a1 τ8 (by omega) (pTerm_ok (tT_TV hR) (pLev_ok (tT_TV hR) _) _ _ _ hf).1 hM8 hK1 hK2
  · rw [hf] at hK1 hK2; dsimp only at hK1 hK2
    refine g_istore_n B dX6_added1_4 (by decide) rfl ?_
    first
      | exact lB_added1 B hB8 (hK1 f rfl _ _ hB8)
      | exact l_added1 B hR 199 cs a1 τ8 (by omega) (pTerm_ok (tT_TV hR) (pLev_ok (tT_TV hR) _) _ _ _ hf).1 hM8 hK1 hK2
set_option maxRecDepth 100000 in
set_option maxHeartbeats 4000000 in
theorem n2_not1 {Z : LZ} {ad : Nat → Nat} {X : CX} {K : Int32 → St → Prop} {τ0 τ : St} {t n a1 : Nat} {cs : List Int32} (B : Amb lyM Z ad (rmk 31) X cX6_not1 wsX6_not1 RX6 4 (some .int)) (hR : RB τ0 t n) (hw : WF cs) (hM : MS τ0 t n 1 a1 τ) (hT : tT τ0 t n a1 = 60 ∨ tT τ0 t n a1 = 61)
    (hK1 : ∀ f, (match pSum (tT τ0 t n) (tV τ0 t n) (pLev (tT τ0 t n) (tV τ0 t n) 4) (a1 + 1) with | .inl f => (.inl f : PR) | .inr (cs2, a2) => .inr (cs ++ cs2 ++ [if tT τ0 t n a1 = 60 then -13 else -14], a2)) = .inl f → ∀ v τ', MB τ0 t n f τ' → K v τ') (hK2 : ∀ ds a2, (match pSum (tT τ0 t n) (tV τ0 t n) (pLev (tT τ0 t n) (tV τ0 t n) 4) (a1 + 1) with | .inl f => (.inl f : PR) | .inr (cs2, a2) => .inr (cs ++ cs2 ++ [if tT τ0 t n a1 = 60 then -13 else -14], a2)) = .inr (ds, a2) → ∀ τ', MS τ0 t n 1 a2 τ' → K (evc (eM τ0) ds) τ') : GG lyM Z ad (rmk 31) X (rI K) 77 [some (.ref (ad 0)), some (.int (evc (eM τ0) cs)), none, none] [] τ := by
  have hT0 : isS (tT τ0 t n a1) := by rcases hT with h | h <;> rw [h] <;> decide
  have hwv := hM.w hT0
  have h60 : τ.2.1 = 60 ↔ tT τ0 t n a1 = 60 := by
    rw [hwv]
    constructor
    · intro h
      have := congrArg Int64.toInt h
      rw [i_long] at this
      exact i_eq.mpr this
    · intro h
      rw [h]; rfl
  refine g_aload_n B dX6_not1_77 rfl ?_
  refine g_getL (T := TX6) (N := 42) B dX6_not1_78 (by decide) (by rfl) (inq inlX6) rfl 23 (by decide) (mq f_X6_155) (by rfl) ?_
  refine g_ldc2 (v := (60)) B dX6_not1_81 (mq k_X6_224) ?_
  refine g_lcmp B dX6_not1_84 ?_
  refine g_if_ne (tgt := 92) B dX6_not1_85 (by decide) (fun c85 => ?_) (fun c85 => ?_)
  · refine g_iconst (v := (0)) B dX6_not1_92 (by decide) ?_
    refine g_istore_n B dX6_not1_93 (by decide) rfl ?_
    refine g_aload_n B dX6_not1_94 rfl ?_
    refine g_callVv (C := RX6) (As := []) B dX6_not1_95 (gc1 g_X6_177) (by rfl) ⟨rfl, hd_X6_next⟩ (by exact ⟨Nat.le_of_ble_eq_true rfl, Nat.le_of_ble_eq_true rfl⟩) ⟨rfl, rfl⟩ rfl rfl (by exact Nat.le_of_ble_eq_true rfl) recvM (c_nx hR hM (isS_0 hT0) (fun τ2 hM2 => ?_))
    refine g_aload_n B dX6_not1_98 rfl ?_
    refine g_callVi (C := RX6) (As := []) B dX6_not1_99 (gc1 g_X6_295) (by rfl) ⟨rfl, hd_X6_added1⟩ (by exact ⟨Nat.le_of_ble_eq_true rfl, Nat.le_of_ble_eq_true rfl⟩) ⟨rfl, rfl⟩ rfl rfl (by exact Nat.le_of_ble_eq_true rfl) recvM (c_added1 hR hM2 (fun f hf v9 τ9 hB9 => ?_) (fun cs2 a2 hf τ9 hM9 => ?_))
    · rw [hf] at hK1; dsimp only at hK1
      refine g_istore_n B dX6_not1_102 (by decide) rfl ?_
      refine g_iload_n B dX6_not1_103 rfl ?_
      refine g_if_eq (tgt := 115) B dX6_not1_104 (by decide) (fun c104 => ?_) (fun c104 => ?_)
      · refine g_iload_n B dX6_not1_115 rfl ?_
        refine g_iload_n B dX6_not1_116 rfl ?_
        refine g_icmp_ne (tgt := 124) B dX6_not1_117 (by decide) (fun c117 => ?_) (fun c117 => ?_)
        · refine g_iconst (v := (0)) B dX6_not1_124 (by decide) ?_
          refine g_ireti B dX6_not1_125 ?_
          first
            | exact hK1 f rfl _ _ hB9
            | exact absurd rfl c104
            | exact absurd c104 (by decide)
            | (have h6 := h60.mp (l_cmp_eq0.mp c85)
               refine kk ?_ (hK2 _ _ rfl _ hM9)
               rw [if_pos h6, evc_bin hw hw2 (by decide)]
               unfold jn
               rw [if_neg (by decide), if_neg (by decide), if_pos rfl]
               first
               | rw [if_pos (Int32.not_le.mp c109)]
               | rw [if_neg (Int32.not_lt.mpr c109)])
            | (have h6 : ¬ tT τ0 t n a1 = 60 := fun h => c85 (l_cmp_eq0.mpr (h60.mpr h))
               refine kk ?_ (hK2 _ _ rfl _ hM9)
               rw [if_neg h6, evc_bin hw hw2 (by decide)]
               unfold jn
               rw [if_neg (by decide), if_neg (by decide), if_neg (by decide), if_pos rfl]
               first
               | rw [if_pos c117]
               | rw [if_neg c117]
               | rw [if_pos c117])
        · refine g_iconst (v := (1)) B dX6_not1_120 (by decide) ?_
          refine g_goto (tgt := 125) B dX6_not1_121 (by decide) ?_
          refine g_ireti B dX6_not1_125 ?_
          first
            | exact hK1 f rfl _ _ hB9
            | exact absurd rfl c104
            | exact absurd c104 (by decide)
            | (have h6 := h60.mp (l_cmp_eq0.mp c85)
               refine kk ?_ (hK2 _ _ rfl _ hM9)
               rw [if_pos h6, evc_bin hw hw2 (by decide)]
               unfold jn
               rw [if_neg (by decide), if_neg (by decide), if_pos rfl]
               first
               | rw [if_pos (Int32.not_le.mp c109)]
               | rw [if_neg (Int32.not_lt.mpr c109)])
            | (have h6 : ¬ tT τ0 t n a1 = 60 := fun h => c85 (l_cmp_eq0.mpr (h60.mpr h))
               refine kk ?_ (hK2 _ _ rfl _ hM9)
               rw [if_neg h6, evc_bin hw hw2 (by decide)]
               unfold jn
               rw [if_neg (by decide), if_neg (by decide), if_neg (by decide), if_pos rfl]
               first
               | rw [if_pos c117]
               | rw [if_neg c117]
               | rw [if_pos c117])
      · refine g_iload_n B dX6_not1_107 rfl ?_
        refine g_iload_n B dX6_not1_108 rfl ?_
        refine g_icmp_ge (tgt := 124) B dX6_not1_109 (by decide) (fun c109 => ?_) (fun c109 => ?_)
        · refine g_iconst (v := (0)) B dX6_not1_124 (by decide) ?_
          refine g_ireti B dX6_not1_125 ?_
          first
            | exact hK1 f rfl _ _ hB9
            | exact absurd rfl c104
            | exact absurd c104 (by decide)
            | (have h6 := h60.mp (l_cmp_eq0.mp c85)
               refine kk ?_ (hK2 _ _ rfl _ hM9)
               rw [if_pos h6, evc_bin hw hw2 (by decide)]
               unfold jn
               rw [if_neg (by decide), if_neg (by decide), if_pos rfl]
               first
               | rw [if_pos (Int32.not_le.mp c109)]
               | rw [if_neg (Int32.not_lt.mpr c109)])
            | (have h6 : ¬ tT τ0 t n a1 = 60 := fun h => c85 (l_cmp_eq0.mpr (h60.mpr h))
               refine kk ?_ (hK2 _ _ rfl _ hM9)
               rw [if_neg h6, evc_bin hw hw2 (by decide)]
               unfold jn
               rw [if_neg (by decide), if_neg (by decide), if_neg (by decide), if_pos rfl]
               first
               | rw [if_pos c117]
               | rw [if_neg c117]
               | rw [if_pos c117])
        · refine g_goto (tgt := 120) B dX6_not1_112 (by decide) ?_
          refine g_iconst (v := (1)) B dX6_not1_120 (by decide) ?_
          refine g_goto (tgt := 125) B dX6_not1_121 (by decide) ?_
          refine g_ireti B dX6_not1_125 ?_
          first
            | exact hK1 f rfl _ _ hB9
            | exact absurd rfl c104
            | exact absurd c104 (by decide)
            | (have h6 := h60.mp (l_cmp_eq0.mp c85)
               refine kk ?_ (hK2 _ _ rfl _ hM9)
               rw [if_pos h6, evc_bin hw hw2 (by decide)]
               unfold jn
               rw [if_neg (by decide), if_neg (by decide), if_pos rfl]
               first
               | rw [if_pos (Int32.not_le.mp c109)]
               | rw [if_neg (Int32.not_lt.mpr c109)])
            | (have h6 : ¬ tT τ0 t n a1 = 60 := fun h => c85 (l_cmp_eq0.mpr (h60.mpr h))
               refine kk ?_ (hK2 _ _ rfl _ hM9)
               rw [if_neg h6, evc_bin hw hw2 (by decide)]
               unfold jn
               rw [if_neg (by decide), if_neg (by decide), if_neg (by decide), if_pos rfl]
               first
               | rw [if_pos c117]
               | rw [if_neg c117]
               | rw [if_pos c117])
    · rw [hf] at hK1 hK2; dsimp only at hK1 hK2; have hw2 := (pSum_ok (tT_TV hR) (pLev_ok (tT_TV hR) _) _ _ _ hf).1
      refine g_istore_n B dX6_not1_102 (by decide) rfl ?_
      refine g_iload_n B dX6_not1_103 rfl ?_
      refine g_if_eq (tgt := 115) B dX6_not1_104 (by decide) (fun c104 => ?_) (fun c104 => ?_)
      · refine g_iload_n B dX6_not1_115 rfl ?_
        refine g_iload_n B dX6_not1_116 rfl ?_
        refine g_icmp_ne (tgt := 124) B dX6_not1_117 (by decide) (fun c117 => ?_) (fun c117 => ?_)
        · refine g_iconst (v := (0)) B dX6_not1_124 (by decide) ?_
          refine g_ireti B dX6_not1_125 ?_
          first
            | exact hK1 f rfl _ _ hB9
            | exact absurd rfl c104
            | exact absurd c104 (by decide)
            | (have h6 := h60.mp (l_cmp_eq0.mp c85)
               refine kk ?_ (hK2 _ _ rfl _ hM9)
               rw [if_pos h6, evc_bin hw hw2 (by decide)]
               unfold jn
               rw [if_neg (by decide), if_neg (by decide), if_pos rfl]
               first
               | rw [if_pos (Int32.not_le.mp c109)]
               | rw [if_neg (Int32.not_lt.mpr c109)])
            | (have h6 : ¬ tT τ0 t n a1 = 60 := fun h => c85 (l_cmp_eq0.mpr (h60.mpr h))
               refine kk ?_ (hK2 _ _ rfl _ hM9)
               rw [if_neg h6, evc_bin hw hw2 (by decide)]
               unfold jn
               rw [if_neg (by decide), if_neg (by decide), if_neg (by decide), if_pos rfl]
               first
               | rw [if_pos c117]
               | rw [if_neg c117]
               | rw [if_pos c117])
        · refine g_iconst (v := (1)) B dX6_not1_120 (by decide) ?_
          refine g_goto (tgt := 125) B dX6_not1_121 (by decide) ?_
          refine g_ireti B dX6_not1_125 ?_
          first
            | exact hK1 f rfl _ _ hB9
            | exact absurd rfl c104
            | exact absurd c104 (by decide)
            | (have h6 := h60.mp (l_cmp_eq0.mp c85)
               refine kk ?_ (hK2 _ _ rfl _ hM9)
               rw [if_pos h6, evc_bin hw hw2 (by decide)]
               unfold jn
               rw [if_neg (by decide), if_neg (by decide), if_pos rfl]
               first
               | rw [if_pos (Int32.not_le.mp c109)]
               | rw [if_neg (Int32.not_lt.mpr c109)])
            | (have h6 : ¬ tT τ0 t n a1 = 60 := fun h => c85 (l_cmp_eq0.mpr (h60.mpr h))
               refine kk ?_ (hK2 _ _ rfl _ hM9)
               rw [if_neg h6, evc_bin hw hw2 (by decide)]
               unfold jn
               rw [if_neg (by decide), if_neg (by decide), if_neg (by decide), if_pos rfl]
               first
               | rw [if_pos c117]
               | rw [if_neg c117]
               | rw [if_pos c117])
      · refine g_iload_n B dX6_not1_107 rfl ?_
        refine g_iload_n B dX6_not1_108 rfl ?_
        refine g_icmp_ge (tgt := 124) B dX6_not1_109 (by decide) (fun c109 => ?_) (fun c109 => ?_)
        · refine g_iconst (v := (0)) B dX6_not1_124 (by decide) ?_
          refine g_ireti B dX6_not1_125 ?_
          first
            | exact hK1 f rfl _ _ hB9
            | exact absurd rfl c104
            | exact absurd c104 (by decide)
            | (have h6 := h60.mp (l_cmp_eq0.mp c85)
               refine kk ?_ (hK2 _ _ rfl _ hM9)
               rw [if_pos h6, evc_bin hw hw2 (by decide)]
               unfold jn
               rw [if_neg (by decide), if_neg (by decide), if_pos rfl]
               first
               | rw [if_pos (Int32.not_le.mp c109)]
               | rw [if_neg (Int32.not_lt.mpr c109)])
            | (have h6 : ¬ tT τ0 t n a1 = 60 := fun h => c85 (l_cmp_eq0.mpr (h60.mpr h))
               refine kk ?_ (hK2 _ _ rfl _ hM9)
               rw [if_neg h6, evc_bin hw hw2 (by decide)]
               unfold jn
               rw [if_neg (by decide), if_neg (by decide), if_neg (by decide), if_pos rfl]
               first
               | rw [if_pos c117]
               | rw [if_neg c117]
               | rw [if_pos c117])
        · refine g_goto (tgt := 120) B dX6_not1_112 (by decide) ?_
          refine g_iconst (v := (1)) B dX6_not1_120 (by decide) ?_
          refine g_goto (tgt := 125) B dX6_not1_121 (by decide) ?_
          refine g_ireti B dX6_not1_125 ?_
          first
            | exact hK1 f rfl _ _ hB9
            | exact absurd rfl c104
            | exact absurd c104 (by decide)
            | (have h6 := h60.mp (l_cmp_eq0.mp c85)
               refine kk ?_ (hK2 _ _ rfl _ hM9)
               rw [if_pos h6, evc_bin hw hw2 (by decide)]
               unfold jn
               rw [if_neg (by decide), if_neg (by decide), if_pos rfl]
               first
               | rw [if_pos (Int32.not_le.mp c109)]
               | rw [if_neg (Int32.not_lt.mpr c109)])
            | (have h6 : ¬ tT τ0 t n a1 = 60 := fun h => c85 (l_cmp_eq0.mpr (h60.mpr h))
               refine kk ?_ (hK2 _ _ rfl _ hM9)
               rw [if_neg h6, evc_bin hw hw2 (by decide)]
               unfold jn
               rw [if_neg (by decide), if_neg (by decide), if_neg (by decide), if_pos rfl]
               first
               | rw [if_pos c117]
               | rw [if_neg c117]
               | rw [if_pos c117])
  · refine g_iconst (v := (1)) B dX6_not1_88 (by decide) ?_
    refine g_goto (tgt := 93) B dX6_not1_89 (by decide) ?_
    refine g_istore_n B dX6_not1_93 (by decide) rfl ?_
    refine g_aload_n B dX6_not1_94 rfl ?_
    refine g_callVv (C := RX6) (As := []) B dX6_not1_95 (gc1 g_X6_177) (by rfl) ⟨rfl, hd_X6_next⟩ (by exact ⟨Nat.le_of_ble_eq_true rfl, Nat.le_of_ble_eq_true rfl⟩) ⟨rfl, rfl⟩ rfl rfl (by exact Nat.le_of_ble_eq_true rfl) recvM (c_nx hR hM (isS_0 hT0) (fun τ2 hM2 => ?_))
    refine g_aload_n B dX6_not1_98 rfl ?_
    refine g_callVi (C := RX6) (As := []) B dX6_not1_99 (gc1 g_X6_295) (by rfl) ⟨rfl, hd_X6_added1⟩ (by exact ⟨Nat.le_of_ble_eq_true rfl, Nat.le_of_ble_eq_true rfl⟩) ⟨rfl, rfl⟩ rfl rfl (by exact Nat.le_of_ble_eq_true rfl) recvM (c_added1 hR hM2 (fun f hf v9 τ9 hB9 => ?_) (fun cs2 a2 hf τ9 hM9 => ?_))
    · rw [hf] at hK1; dsimp only at hK1
      refine g_istore_n B dX6_not1_102 (by decide) rfl ?_
      refine g_iload_n B dX6_not1_103 rfl ?_
      refine g_if_eq (tgt := 115) B dX6_not1_104 (by decide) (fun c104 => ?_) (fun c104 => ?_)
      · refine g_iload_n B dX6_not1_115 rfl ?_
        refine g_iload_n B dX6_not1_116 rfl ?_
        refine g_icmp_ne (tgt := 124) B dX6_not1_117 (by decide) (fun c117 => ?_) (fun c117 => ?_)
        · refine g_iconst (v := (0)) B dX6_not1_124 (by decide) ?_
          refine g_ireti B dX6_not1_125 ?_
          first
            | exact hK1 f rfl _ _ hB9
            | exact absurd rfl c104
            | exact absurd c104 (by decide)
            | (have h6 := h60.mp (l_cmp_eq0.mp c85)
               refine kk ?_ (hK2 _ _ rfl _ hM9)
               rw [if_pos h6, evc_bin hw hw2 (by decide)]
               unfold jn
               rw [if_neg (by decide), if_neg (by decide), if_pos rfl]
               first
               | rw [if_pos (Int32.not_le.mp c109)]
               | rw [if_neg (Int32.not_lt.mpr c109)])
            | (have h6 : ¬ tT τ0 t n a1 = 60 := fun h => c85 (l_cmp_eq0.mpr (h60.mpr h))
               refine kk ?_ (hK2 _ _ rfl _ hM9)
               rw [if_neg h6, evc_bin hw hw2 (by decide)]
               unfold jn
               rw [if_neg (by decide), if_neg (by decide), if_neg (by decide), if_pos rfl]
               first
               | rw [if_pos c117]
               | rw [if_neg c117]
               | rw [if_pos c117])
        · refine g_iconst (v := (1)) B dX6_not1_120 (by decide) ?_
          refine g_goto (tgt := 125) B dX6_not1_121 (by decide) ?_
          refine g_ireti B dX6_not1_125 ?_
          first
            | exact hK1 f rfl _ _ hB9
            | exact absurd rfl c104
            | exact absurd c104 (by decide)
            | (have h6 := h60.mp (l_cmp_eq0.mp c85)
               refine kk ?_ (hK2 _ _ rfl _ hM9)
               rw [if_pos h6, evc_bin hw hw2 (by decide)]
               unfold jn
               rw [if_neg (by decide), if_neg (by decide), if_pos rfl]
               first
               | rw [if_pos (Int32.not_le.mp c109)]
               | rw [if_neg (Int32.not_lt.mpr c109)])
            | (have h6 : ¬ tT τ0 t n a1 = 60 := fun h => c85 (l_cmp_eq0.mpr (h60.mpr h))
               refine kk ?_ (hK2 _ _ rfl _ hM9)
               rw [if_neg h6, evc_bin hw hw2 (by decide)]
               unfold jn
               rw [if_neg (by decide), if_neg (by decide), if_neg (by decide), if_pos rfl]
               first
               | rw [if_pos c117]
               | rw [if_neg c117]
               | rw [if_pos c117])
      · refine g_iload_n B dX6_not1_107 rfl ?_
        refine g_iload_n B dX6_not1_108 rfl ?_
        refine g_icmp_ge (tgt := 124) B dX6_not1_109 (by decide) (fun c109 => ?_) (fun c109 => ?_)
        · refine g_iconst (v := (0)) B dX6_not1_124 (by decide) ?_
          refine g_ireti B dX6_not1_125 ?_
          first
            | exact hK1 f rfl _ _ hB9
            | exact absurd rfl c104
            | exact absurd c104 (by decide)
            | (have h6 := h60.mp (l_cmp_eq0.mp c85)
               refine kk ?_ (hK2 _ _ rfl _ hM9)
               rw [if_pos h6, evc_bin hw hw2 (by decide)]
               unfold jn
               rw [if_neg (by decide), if_neg (by decide), if_pos rfl]
               first
               | rw [if_pos (Int32.not_le.mp c109)]
               | rw [if_neg (Int32.not_lt.mpr c109)])
            | (have h6 : ¬ tT τ0 t n a1 = 60 := fun h => c85 (l_cmp_eq0.mpr (h60.mpr h))
               refine kk ?_ (hK2 _ _ rfl _ hM9)
               rw [if_neg h6, evc_bin hw hw2 (by decide)]
               unfold jn
               rw [if_neg (by decide), if_neg (by decide), if_neg (by decide), if_pos rfl]
               first
               | rw [if_pos c117]
               | rw [if_neg c117]
               | rw [if_pos c117])
        · refine g_goto (tgt := 120) B dX6_not1_112 (by decide) ?_
          refine g_iconst (v := (1)) B dX6_not1_120 (by decide) ?_
          refine g_goto (tgt := 125) B dX6_not1_121 (by decide) ?_
          refine g_ireti B dX6_not1_125 ?_
          first
            | exact hK1 f rfl _ _ hB9
            | exact absurd rfl c104
            | exact absurd c104 (by decide)
            | (have h6 := h60.mp (l_cmp_eq0.mp c85)
               refine kk ?_ (hK2 _ _ rfl _ hM9)
               rw [if_pos h6, evc_bin hw hw2 (by decide)]
               unfold jn
               rw [if_neg (by decide), if_neg (by decide), if_pos rfl]
               first
               | rw [if_pos (Int32.not_le.mp c109)]
               | rw [if_neg (Int32.not_lt.mpr c109)])
            | (have h6 : ¬ tT τ0 t n a1 = 60 := fun h => c85 (l_cmp_eq0.mpr (h60.mpr h))
               refine kk ?_ (hK2 _ _ rfl _ hM9)
               rw [if_neg h6, evc_bin hw hw2 (by decide)]
               unfold jn
               rw [if_neg (by decide), if_neg (by decide), if_neg (by decide), if_pos rfl]
               first
               | rw [if_pos c117]
               | rw [if_neg c117]
               | rw [if_pos c117])
    · rw [hf] at hK1 hK2; dsimp only at hK1 hK2; have hw2 := (pSum_ok (tT_TV hR) (pLev_ok (tT_TV hR) _) _ _ _ hf).1
      refine g_istore_n B dX6_not1_102 (by decide) rfl ?_
      refine g_iload_n B dX6_not1_103 rfl ?_
      refine g_if_eq (tgt := 115) B dX6_not1_104 (by decide) (fun c104 => ?_) (fun c104 => ?_)
      · refine g_iload_n B dX6_not1_115 rfl ?_
        refine g_iload_n B dX6_not1_116 rfl ?_
        refine g_icmp_ne (tgt := 124) B dX6_not1_117 (by decide) (fun c117 => ?_) (fun c117 => ?_)
        · refine g_iconst (v := (0)) B dX6_not1_124 (by decide) ?_
          refine g_ireti B dX6_not1_125 ?_
          first
            | exact hK1 f rfl _ _ hB9
            | exact absurd rfl c104
            | exact absurd c104 (by decide)
            | (have h6 := h60.mp (l_cmp_eq0.mp c85)
               refine kk ?_ (hK2 _ _ rfl _ hM9)
               rw [if_pos h6, evc_bin hw hw2 (by decide)]
               unfold jn
               rw [if_neg (by decide), if_neg (by decide), if_pos rfl]
               first
               | rw [if_pos (Int32.not_le.mp c109)]
               | rw [if_neg (Int32.not_lt.mpr c109)])
            | (have h6 : ¬ tT τ0 t n a1 = 60 := fun h => c85 (l_cmp_eq0.mpr (h60.mpr h))
               refine kk ?_ (hK2 _ _ rfl _ hM9)
               rw [if_neg h6, evc_bin hw hw2 (by decide)]
               unfold jn
               rw [if_neg (by decide), if_neg (by decide), if_neg (by decide), if_pos rfl]
               first
               | rw [if_pos c117]
               | rw [if_neg c117]
               | rw [if_pos c117])
        · refine g_iconst (v := (1)) B dX6_not1_120 (by decide) ?_
          refine g_goto (tgt := 125) B dX6_not1_121 (by decide) ?_
          refine g_ireti B dX6_not1_125 ?_
          first
            | exact hK1 f rfl _ _ hB9
            | exact absurd rfl c104
            | exact absurd c104 (by decide)
            | (have h6 := h60.mp (l_cmp_eq0.mp c85)
               refine kk ?_ (hK2 _ _ rfl _ hM9)
               rw [if_pos h6, evc_bin hw hw2 (by decide)]
               unfold jn
               rw [if_neg (by decide), if_neg (by decide), if_pos rfl]
               first
               | rw [if_pos (Int32.not_le.mp c109)]
               | rw [if_neg (Int32.not_lt.mpr c109)])
            | (have h6 : ¬ tT τ0 t n a1 = 60 := fun h => c85 (l_cmp_eq0.mpr (h60.mpr h))
               refine kk ?_ (hK2 _ _ rfl _ hM9)
               rw [if_neg h6, evc_bin hw hw2 (by decide)]
               unfold jn
               rw [if_neg (by decide), if_neg (by decide), if_neg (by decide), if_pos rfl]
               first
               | rw [if_pos c117]
               | rw [if_neg c117]
               | rw [if_pos c117])
      · refine g_iload_n B dX6_not1_107 rfl ?_
        refine g_iload_n B dX6_not1_108 rfl ?_
        refine g_icmp_ge (tgt := 124) B dX6_not1_109 (by decide) (fun c109 => ?_) (fun c109 => ?_)
        · refine g_iconst (v := (0)) B dX6_not1_124 (by decide) ?_
          refine g_ireti B dX6_not1_125 ?_
          first
            | exact hK1 f rfl _ _ hB9
            | exact absurd rfl c104
            | exact absurd c104 (by decide)
            | (have h6 := h60.mp (l_cmp_eq0.mp c85)
               refine kk ?_ (hK2 _ _ rfl _ hM9)
               rw [if_pos h6, evc_bin hw hw2 (by decide)]
               unfold jn
               rw [if_neg (by decide), if_neg (by decide), if_pos rfl]
               first
               | rw [if_pos (Int32.not_le.mp c109)]
               | rw [if_neg (Int32.not_lt.mpr c109)])
            | (have h6 : ¬ tT τ0 t n a1 = 60 := fun h => c85 (l_cmp_eq0.mpr (h60.mpr h))
               refine kk ?_ (hK2 _ _ rfl _ hM9)
               rw [if_neg h6, evc_bin hw hw2 (by decide)]
               unfold jn
               rw [if_neg (by decide), if_neg (by decide), if_neg (by decide), if_pos rfl]
               first
               | rw [if_pos c117]
               | rw [if_neg c117]
               | rw [if_pos c117])
        · refine g_goto (tgt := 120) B dX6_not1_112 (by decide) ?_
          refine g_iconst (v := (1)) B dX6_not1_120 (by decide) ?_
          refine g_goto (tgt := 125) B dX6_not1_121 (by decide) ?_
          refine g_ireti B dX6_not1_125 ?_
          first
            | exact hK1 f rfl _ _ hB9
            | exact absurd rfl c104
            | exact absurd c104 (by decide)
            | (have h6 := h60.mp (l_cmp_eq0.mp c85)
               refine kk ?_ (hK2 _ _ rfl _ hM9)
               rw [if_pos h6, evc_bin hw hw2 (by decide)]
               unfold jn
               rw [if_neg (by decide), if_neg (by decide), if_pos rfl]
               first
               | rw [if_pos (Int32.not_le.mp c109)]
               | rw [if_neg (Int32.not_lt.mpr c109)])
            | (have h6 : ¬ tT τ0 t n a1 = 60 := fun h => c85 (l_cmp_eq0.mpr (h60.mpr h))
               refine kk ?_ (hK2 _ _ rfl _ hM9)
               rw [if_neg h6, evc_bin hw hw2 (by decide)]
               unfold jn
               rw [if_neg (by decide), if_neg (by decide), if_neg (by decide), if_pos rfl]
               first
               | rw [if_pos c117]
               | rw [if_neg c117]
               | rw [if_pos c117])

set_option maxRecDepth 100000 in
set_option maxHeartbeats 4000000 in
theorem c_not1 {Z : LZ} {ad : Nat → Nat} {τ0 τ : St} {K : Int32 → St → Prop} {t n a : Nat} (hR : RB τ0 t n) (hM : MS τ0 t n 1 a τ) (hK1 : ∀ f, pNot (tT τ0 t n) (tV τ0 t n) (pLev (tT τ0 t n) (tV τ0 t n) 4) a = .inl f → ∀ v τ', MB τ0 t n f τ' → K v τ') (hK2 : ∀ cs a2, pNot (tT τ0 t n) (tV τ0 t n) (pLev (tT τ0 t n) (tV τ0 t n) 4) a = .inr (cs, a2) → ∀ τ', MS τ0 t n 1 a2 τ' → K (evc (eM τ0) cs) τ') : CC lyM Z ad yX6_not1 wsX6_not1 (rmk 31) [.ref (ad 0)] τ (rI K) := by
  refine CC.of (cc := cX6_not1) (nL := 4) (ret := (some .int)) rfl rfl ⟨rfl, rfl⟩ (by exact Nat.le_of_ble_eq_true rfl) ?_
  intro X B
  change GG _ _ _ _ X _ 0 [some (.ref (ad 0)), none, none, none] [] _
  change Amb _ _ _ _ X _ _ RX6 _ _ at B
  refine g_aload_n B dX6_not1_0 rfl ?_
  refine g_bipush (v := (110)) B dX6_not1_1 (by decide) ?_
  refine g_bipush (v := (111)) B dX6_not1_3 (by decide) ?_
  refine g_bipush (v := (116)) B dX6_not1_5 (by decide) ?_
  refine g_iconst (v := (0)) B dX6_not1_7 (by decide) ?_
  refine g_iconst (v := (0)) B dX6_not1_8 (by decide) ?_
  refine g_iconst (v := (0)) B dX6_not1_9 (by decide) ?_
  refine g_iconst (v := (0)) B dX6_not1_10 (by decide) ?_
  refine g_iconst (v := (0)) B dX6_not1_11 (by decide) ?_
  refine g_callVi (C := RX6) (As := [.int _, .int _, .int _, .int _, .int _, .int _, .int _, .int _]) B dX6_not1_12 (gc1 g_X6_180) (by rfl) ⟨rfl, hd_X6_isWord⟩ (by exact ⟨Nat.le_of_ble_eq_true rfl, Nat.le_of_ble_eq_true rfl⟩) ⟨rfl, rfl⟩ rfl rfl (by exact Nat.le_of_ble_eq_true rfl) recvM (c_key (c := 306) hR hM (by decide) (fun _ _ _ => wS_not) ?_)
  refine g_if_eq (tgt := 52) B dX6_not1_15 (by decide) (fun c15 => ?_) (fun c15 => ?_)
  · have hno : ¬ tT τ0 t n a = 306 := b1_0.mp c15
    unfold pNot at hK1 hK2
    rw [if_neg hno] at hK1 hK2
    unfold pCmp at hK1 hK2
    refine g_aload_n B dX6_not1_52 rfl ?_
    refine g_callVi (C := RX6) (As := []) B dX6_not1_53 (gc1 g_X6_295) (by rfl) ⟨rfl, hd_X6_added1⟩ (by exact ⟨Nat.le_of_ble_eq_true rfl, Nat.le_of_ble_eq_true rfl⟩) ⟨rfl, rfl⟩ rfl rfl (by exact Nat.le_of_ble_eq_true rfl) recvM (c_added1 hR hM (fun f hf v8 τ8 hB8 => ?_) (fun cs a1 hf τ8 hM8 => ?_))
    · rw [hf] at hK1; dsimp only at hK1
      refine g_istore_n B dX6_not1_56 (by decide) rfl ?_
      refine g_aload_n B dX6_not1_57 rfl ?_
      refine g_bipush (v := (60)) B dX6_not1_58 (by decide) ?_
      first
        | refine g_callVi (C := RX6) (As := [.int _]) B dX6_not1_60 (gc1 g_X6_202) (by rfl) ⟨rfl, hd_X6_isSign⟩ (by exact ⟨Nat.le_of_ble_eq_true rfl, Nat.le_of_ble_eq_true rfl⟩) ⟨rfl, rfl⟩ rfl rfl (by exact Nat.le_of_ble_eq_true rfl) recvM (c_sgnB hB8 ?_)
        | refine g_callVi (C := RX6) (As := [.int _]) B dX6_not1_60 (gc1 g_X6_202) (by rfl) ⟨rfl, hd_X6_isSign⟩ (by exact ⟨Nat.le_of_ble_eq_true rfl, Nat.le_of_ble_eq_true rfl⟩) ⟨rfl, rfl⟩ rfl rfl (by exact Nat.le_of_ble_eq_true rfl) recvM (c_sgn hM8 (show isS 60 by decide) ?_)
      refine g_if_ne (tgt := 77) B dX6_not1_63 (by decide) (fun c63 => ?_) (fun c63 => ?_)
      · first
          | exact absurd rfl c63
          | exact absurd rfl c72
          | (have hT : tT τ0 t n a1 = 60 ∨ tT τ0 t n a1 = 61 := by first | exact Or.inl (b1_n0.mp c63) | exact Or.inr (b1_n0.mp c72)
             rw [if_pos hT] at hK1 hK2
             exact n2_not1 B hR (pSum_ok (tT_TV hR) (pLev_ok (tT_TV hR) _) _ _ _ hf).1 hM8 hT hK1 hK2)
      · refine g_aload_n B dX6_not1_66 rfl ?_
        refine g_bipush (v := (61)) B dX6_not1_67 (by decide) ?_
        first
          | refine g_callVi (C := RX6) (As := [.int _]) B dX6_not1_69 (gc1 g_X6_202) (by rfl) ⟨rfl, hd_X6_isSign⟩ (by exact ⟨Nat.le_of_ble_eq_true rfl, Nat.le_of_ble_eq_true rfl⟩) ⟨rfl, rfl⟩ rfl rfl (by exact Nat.le_of_ble_eq_true rfl) recvM (c_sgnB hB8 ?_)
          | refine g_callVi (C := RX6) (As := [.int _]) B dX6_not1_69 (gc1 g_X6_202) (by rfl) ⟨rfl, hd_X6_isSign⟩ (by exact ⟨Nat.le_of_ble_eq_true rfl, Nat.le_of_ble_eq_true rfl⟩) ⟨rfl, rfl⟩ rfl rfl (by exact Nat.le_of_ble_eq_true rfl) recvM (c_sgn hM8 (show isS 61 by decide) ?_)
        refine g_if_ne (tgt := 77) B dX6_not1_72 (by decide) (fun c72 => ?_) (fun c72 => ?_)
        · first
            | exact absurd rfl c63
            | exact absurd rfl c72
            | (have hT : tT τ0 t n a1 = 60 ∨ tT τ0 t n a1 = 61 := by first | exact Or.inl (b1_n0.mp c63) | exact Or.inr (b1_n0.mp c72)
               rw [if_pos hT] at hK1 hK2
               exact n2_not1 B hR (pSum_ok (tT_TV hR) (pLev_ok (tT_TV hR) _) _ _ _ hf).1 hM8 hT hK1 hK2)
        · refine g_iload_n B dX6_not1_75 rfl ?_
          refine g_ireti B dX6_not1_76 ?_
          first
            | exact hK1 f rfl _ _ hB8
            | (rw [if_neg (fun h => h.elim (b1_0.mp c63) (b1_0.mp c72))] at hK2
               exact hK2 _ _ rfl _ hM8)
    · rw [hf] at hK1 hK2; dsimp only at hK1 hK2
      refine g_istore_n B dX6_not1_56 (by decide) rfl ?_
      refine g_aload_n B dX6_not1_57 rfl ?_
      refine g_bipush (v := (60)) B dX6_not1_58 (by decide) ?_
      first
        | refine g_callVi (C := RX6) (As := [.int _]) B dX6_not1_60 (gc1 g_X6_202) (by rfl) ⟨rfl, hd_X6_isSign⟩ (by exact ⟨Nat.le_of_ble_eq_true rfl, Nat.le_of_ble_eq_true rfl⟩) ⟨rfl, rfl⟩ rfl rfl (by exact Nat.le_of_ble_eq_true rfl) recvM (c_sgnB hB8 ?_)
        | refine g_callVi (C := RX6) (As := [.int _]) B dX6_not1_60 (gc1 g_X6_202) (by rfl) ⟨rfl, hd_X6_isSign⟩ (by exact ⟨Nat.le_of_ble_eq_true rfl, Nat.le_of_ble_eq_true rfl⟩) ⟨rfl, rfl⟩ rfl rfl (by exact Nat.le_of_ble_eq_true rfl) recvM (c_sgn hM8 (show isS 60 by decide) ?_)
      refine g_if_ne (tgt := 77) B dX6_not1_63 (by decide) (fun c63 => ?_) (fun c63 => ?_)
      · first
          | exact absurd rfl c63
          | exact absurd rfl c72
          | (have hT : tT τ0 t n a1 = 60 ∨ tT τ0 t n a1 = 61 := by first | exact Or.inl (b1_n0.mp c63) | exact Or.inr (b1_n0.mp c72)
             rw [if_pos hT] at hK1 hK2
             exact n2_not1 B hR (pSum_ok (tT_TV hR) (pLev_ok (tT_TV hR) _) _ _ _ hf).1 hM8 hT hK1 hK2)
      · refine g_aload_n B dX6_not1_66 rfl ?_
        refine g_bipush (v := (61)) B dX6_not1_67 (by decide) ?_
        first
          | refine g_callVi (C := RX6) (As := [.int _]) B dX6_not1_69 (gc1 g_X6_202) (by rfl) ⟨rfl, hd_X6_isSign⟩ (by exact ⟨Nat.le_of_ble_eq_true rfl, Nat.le_of_ble_eq_true rfl⟩) ⟨rfl, rfl⟩ rfl rfl (by exact Nat.le_of_ble_eq_true rfl) recvM (c_sgnB hB8 ?_)
          | refine g_callVi (C := RX6) (As := [.int _]) B dX6_not1_69 (gc1 g_X6_202) (by rfl) ⟨rfl, hd_X6_isSign⟩ (by exact ⟨Nat.le_of_ble_eq_true rfl, Nat.le_of_ble_eq_true rfl⟩) ⟨rfl, rfl⟩ rfl rfl (by exact Nat.le_of_ble_eq_true rfl) recvM (c_sgn hM8 (show isS 61 by decide) ?_)
        refine g_if_ne (tgt := 77) B dX6_not1_72 (by decide) (fun c72 => ?_) (fun c72 => ?_)
        · first
            | exact absurd rfl c63
            | exact absurd rfl c72
            | (have hT : tT τ0 t n a1 = 60 ∨ tT τ0 t n a1 = 61 := by first | exact Or.inl (b1_n0.mp c63) | exact Or.inr (b1_n0.mp c72)
               rw [if_pos hT] at hK1 hK2
               exact n2_not1 B hR (pSum_ok (tT_TV hR) (pLev_ok (tT_TV hR) _) _ _ _ hf).1 hM8 hT hK1 hK2)
        · refine g_iload_n B dX6_not1_75 rfl ?_
          refine g_ireti B dX6_not1_76 ?_
          first
            | exact hK1 f rfl _ _ hB8
            | (rw [if_neg (fun h => h.elim (b1_0.mp c63) (b1_0.mp c72))] at hK2
               exact hK2 _ _ rfl _ hM8)
  · refine g_aload_n B dX6_not1_18 rfl ?_
    refine g_callVi (C := RX6) (As := []) B dX6_not1_19 (gc1 g_X6_205) (by rfl) ⟨rfl, hd_X6_opens⟩ (by exact ⟨Nat.le_of_ble_eq_true rfl, Nat.le_of_ble_eq_true rfl⟩) ⟨rfl, rfl⟩ rfl rfl (by exact Nat.le_of_ble_eq_true rfl) recvM (c_opn hR hM (by decide) (by rw [b1_n0.mp c15]; decide) (fun τ7 hM7 => ?_))
    refine g_if_ne (tgt := 27) B dX6_not1_22 (by decide) (fun c22 => ?_) (fun c22 => ?_)
    · refine g_aload_n B dX6_not1_27 rfl ?_
      refine g_callVi (C := RX6) (As := []) B dX6_not1_28 (gc1 g_X6_280) (by rfl) ⟨rfl, hd_X6_not2⟩ (by exact ⟨Nat.le_of_ble_eq_true rfl, Nat.le_of_ble_eq_true rfl⟩) ⟨rfl, rfl⟩ rfl rfl (by exact Nat.le_of_ble_eq_true rfl) recvM (c_not2 hR hM7 (fun f hf v8 τ8 hB8 => ?_) (fun cs a2 hf τ8 hM8 => ?_))
      · refine g_istore_n B dX6_not1_31 (by decide) rfl ?_
        refine g_aload_n B dX6_not1_32 rfl ?_
        refine g_dup B dX6_not1_33 rfl ?_
        refine g_getI (T := TX6) (N := 42) B dX6_not1_34 (by decide) (by rfl) (inq inlX6) rfl 24 (by decide) (mq f_X6_171) (by rfl) ?_
        refine g_iconst (v := (1)) B dX6_not1_37 (by decide) ?_
        refine g_isub B dX6_not1_38 ?_
        refine g_putI (T := TX6) (N := 42) B dX6_not1_39 (by decide) (by rfl) (inq inlX6) rfl 24 (by decide) (mq f_X6_171) tyX6_ok nmX6 rfl ⟨rfl, rfl⟩ (by rfl) ?_
        refine g_iload_n B dX6_not1_42 rfl ?_
        refine g_if_ne (tgt := 50) B dX6_not1_43 (by decide) (fun c43 => ?_) (fun c43 => ?_)
        · refine g_iconst (v := (0)) B dX6_not1_50 (by decide) ?_
          refine g_ireti B dX6_not1_51 ?_
          first
            | (refine hK1 f ?_ _ _ hB8.close
               unfold pNot
               rw [if_pos (b1_n0.mp c15)]
               show (match pNot (tT τ0 t n) (tV τ0 t n) (pLev (tT τ0 t n) (tV τ0 t n) 3) (a + 1) with | .inl f => _ | .inr (cs, a2) => _) = _
               rw [hf])
            | (refine kk ?_ (hK2 (cs ++ [-21]) a2 (by
                 unfold pNot
                 rw [if_pos (b1_n0.mp c15)]
                 show (match pNot (tT τ0 t n) (tV τ0 t n) (pLev (tT τ0 t n) (tV τ0 t n) 3) (a + 1) with | .inl f => _ | .inr (cs, a2) => _) = _
                 rw [hf]) _ (MS.close (by decide) hM8))
               rw [evc_not (pNot_ok (tT_TV hR) (pLev_ok (tT_TV hR) _) _ _ _ hf).1]
               first
               | rw [if_neg c43]
               | rw [if_pos c43])
        · refine g_iconst (v := (1)) B dX6_not1_46 (by decide) ?_
          refine g_goto (tgt := 51) B dX6_not1_47 (by decide) ?_
          refine g_ireti B dX6_not1_51 ?_
          first
            | (refine hK1 f ?_ _ _ hB8.close
               unfold pNot
               rw [if_pos (b1_n0.mp c15)]
               show (match pNot (tT τ0 t n) (tV τ0 t n) (pLev (tT τ0 t n) (tV τ0 t n) 3) (a + 1) with | .inl f => _ | .inr (cs, a2) => _) = _
               rw [hf])
            | (refine kk ?_ (hK2 (cs ++ [-21]) a2 (by
                 unfold pNot
                 rw [if_pos (b1_n0.mp c15)]
                 show (match pNot (tT τ0 t n) (tV τ0 t n) (pLev (tT τ0 t n) (tV τ0 t n) 3) (a + 1) with | .inl f => _ | .inr (cs, a2) => _) = _
                 rw [hf]) _ (MS.close (by decide) hM8))
               rw [evc_not (pNot_ok (tT_TV hR) (pLev_ok (tT_TV hR) _) _ _ _ hf).1]
               first
               | rw [if_neg c43]
               | rw [if_pos c43])
      · refine g_istore_n B dX6_not1_31 (by decide) rfl ?_
        refine g_aload_n B dX6_not1_32 rfl ?_
        refine g_dup B dX6_not1_33 rfl ?_
        refine g_getI (T := TX6) (N := 42) B dX6_not1_34 (by decide) (by rfl) (inq inlX6) rfl 24 (by decide) (mq f_X6_171) (by rfl) ?_
        refine g_iconst (v := (1)) B dX6_not1_37 (by decide) ?_
        refine g_isub B dX6_not1_38 ?_
        refine g_putI (T := TX6) (N := 42) B dX6_not1_39 (by decide) (by rfl) (inq inlX6) rfl 24 (by decide) (mq f_X6_171) tyX6_ok nmX6 rfl ⟨rfl, rfl⟩ (by rfl) ?_
        refine g_iload_n B dX6_not1_42 rfl ?_
        refine g_if_ne (tgt := 50) B dX6_not1_43 (by decide) (fun c43 => ?_) (fun c43 => ?_)
        · refine g_iconst (v := (0)) B dX6_not1_50 (by decide) ?_
          refine g_ireti B dX6_not1_51 ?_
          first
            | (refine hK1 f ?_ _ _ hB8.close
               unfold pNot
               rw [if_pos (b1_n0.mp c15)]
               show (match pNot (tT τ0 t n) (tV τ0 t n) (pLev (tT τ0 t n) (tV τ0 t n) 3) (a + 1) with | .inl f => _ | .inr (cs, a2) => _) = _
               rw [hf])
            | (refine kk ?_ (hK2 (cs ++ [-21]) a2 (by
                 unfold pNot
                 rw [if_pos (b1_n0.mp c15)]
                 show (match pNot (tT τ0 t n) (tV τ0 t n) (pLev (tT τ0 t n) (tV τ0 t n) 3) (a + 1) with | .inl f => _ | .inr (cs, a2) => _) = _
                 rw [hf]) _ (MS.close (by decide) hM8))
               rw [evc_not (pNot_ok (tT_TV hR) (pLev_ok (tT_TV hR) _) _ _ _ hf).1]
               first
               | rw [if_neg c43]
               | rw [if_pos c43])
        · refine g_iconst (v := (1)) B dX6_not1_46 (by decide) ?_
          refine g_goto (tgt := 51) B dX6_not1_47 (by decide) ?_
          refine g_ireti B dX6_not1_51 ?_
          first
            | (refine hK1 f ?_ _ _ hB8.close
               unfold pNot
               rw [if_pos (b1_n0.mp c15)]
               show (match pNot (tT τ0 t n) (tV τ0 t n) (pLev (tT τ0 t n) (tV τ0 t n) 3) (a + 1) with | .inl f => _ | .inr (cs, a2) => _) = _
               rw [hf])
            | (refine kk ?_ (hK2 (cs ++ [-21]) a2 (by
                 unfold pNot
                 rw [if_pos (b1_n0.mp c15)]
                 show (match pNot (tT τ0 t n) (tV τ0 t n) (pLev (tT τ0 t n) (tV τ0 t n) 3) (a + 1) with | .inl f => _ | .inr (cs, a2) => _) = _
                 rw [hf]) _ (MS.close (by decide) hM8))
               rw [evc_not (pNot_ok (tT_TV hR) (pLev_ok (tT_TV hR) _) _ _ _ hf).1]
               first
               | rw [if_neg c43]
               | rw [if_pos c43])
    · refine g_iconst (v := (0)) B dX6_not1_25 (by decide) ?_
      refine g_ireti B dX6_not1_26 ?_
      exact absurd c22 (by decide)
set_option maxRecDepth 100000 in
set_option maxHeartbeats 4000000 in
theorem lB_both1 {Z : LZ} {ad : Nat → Nat} {X : CX} {K : Int32 → St → Prop} {τ0 τ : St} {t n f : Nat} {v : Int32} (B : Amb lyM Z ad (rmk 32) X cX6_both1 wsX6_both1 RX6 3 (some .int)) (hB : MB τ0 t n f τ) (hK : K v τ) : GG lyM Z ad (rmk 32) X (rI K) 5 [some (.ref (ad 0)), some (.int v), none] [] τ := by
  refine g_aload_n B dX6_both1_5 rfl ?_
  refine g_bipush (v := (97)) B dX6_both1_6 (by decide) ?_
  refine g_bipush (v := (110)) B dX6_both1_8 (by decide) ?_
  refine g_bipush (v := (100)) B dX6_both1_10 (by decide) ?_
  refine g_iconst (v := (0)) B dX6_both1_12 (by decide) ?_
  refine g_iconst (v := (0)) B dX6_both1_13 (by decide) ?_
  refine g_iconst (v := (0)) B dX6_both1_14 (by decide) ?_
  refine g_iconst (v := (0)) B dX6_both1_15 (by decide) ?_
  refine g_iconst (v := (0)) B dX6_both1_16 (by decide) ?_
  refine g_callVi (C := RX6) (As := [.int _, .int _, .int _, .int _, .int _, .int _, .int _, .int _]) B dX6_both1_17 (gc1 g_X6_180) (by rfl) ⟨rfl, hd_X6_isWord⟩ (by exact ⟨Nat.le_of_ble_eq_true rfl, Nat.le_of_ble_eq_true rfl⟩) ⟨rfl, rfl⟩ rfl rfl (by exact Nat.le_of_ble_eq_true rfl) recvM (c_keyB hB ?_)
  refine g_if_eq (tgt := 49) B dX6_both1_20 (by decide) (fun c20 => ?_) (fun c20 => ?_)
  · refine g_iload_n B dX6_both1_49 rfl ?_
    refine g_ireti B dX6_both1_50 ?_
    exact hK
  · exact absurd rfl c20
set_option maxRecDepth 100000 in
set_option maxHeartbeats 4000000 in
theorem l_both1 {Z : LZ} {ad : Nat → Nat} {X : CX} {K : Int32 → St → Prop} {τ0 : St} {t n : Nat} (B : Amb lyM Z ad (rmk 32) X cX6_both1 wsX6_both1 RX6 3 (some .int)) (hR : RB τ0 t n) : ∀ (k : Nat) (cs : List Int32) (b : Nat) (τ : St), 160 ≤ b + k → WF cs → MS τ0 t n 1 b τ → (∀ f, pLoop (pNot (tT τ0 t n) (tV τ0 t n) (pLev (tT τ0 t n) (tV τ0 t n) 4)) (opAnd (tT τ0 t n)) (k + 1) cs b = .inl f → ∀ v τ', MB τ0 t n f τ' → K v τ') → (∀ ds a2, pLoop (pNot (tT τ0 t n) (tV τ0 t n) (pLev (tT τ0 t n) (tV τ0 t n) 4)) (opAnd (tT τ0 t n)) (k + 1) cs b = .inr (ds, a2) → ∀ τ', MS τ0 t n 1 a2 τ' → K (evc (eM τ0) ds) τ') → GG lyM Z ad (rmk 32) X (rI K) 5 [some (.ref (ad 0)), some (.int (evc (eM τ0) cs)), none] [] τ := by
  intro k
  induction k using Nat.strongRecOn with
  | ind k ih =>
  intro cs b τ hk hw hM hK1 hK2
  have hn := hR.2.2.2
  unfold pLoop at hK1 hK2
  refine g_aload_n B dX6_both1_5 rfl ?_
  refine g_bipush (v := (97)) B dX6_both1_6 (by decide) ?_
  refine g_bipush (v := (110)) B dX6_both1_8 (by decide) ?_
  refine g_bipush (v := (100)) B dX6_both1_10 (by decide) ?_
  refine g_iconst (v := (0)) B dX6_both1_12 (by decide) ?_
  refine g_iconst (v := (0)) B dX6_both1_13 (by decide) ?_
  refine g_iconst (v := (0)) B dX6_both1_14 (by decide) ?_
  refine g_iconst (v := (0)) B dX6_both1_15 (by decide) ?_
  refine g_iconst (v := (0)) B dX6_both1_16 (by decide) ?_
  refine g_callVi (C := RX6) (As := [.int _, .int _, .int _, .int _, .int _, .int _, .int _, .int _]) B dX6_both1_17 (gc1 g_X6_180) (by rfl) ⟨rfl, hd_X6_isWord⟩ (by exact ⟨Nat.le_of_ble_eq_true rfl, Nat.le_of_ble_eq_true rfl⟩) ⟨rfl, rfl⟩ rfl rfl (by exact Nat.le_of_ble_eq_true rfl) recvM (c_key (c := 305) hR hM (by decide) (fun _ _ _ => wS_and) ?_)
  refine g_if_eq (tgt := 49) B dX6_both1_20 (by decide) (fun c20 => ?_) (fun c20 => ?_)
  · refine g_iload_n B dX6_both1_49 rfl ?_
    refine g_ireti B dX6_both1_50 ?_
    have hop : opAnd (tT τ0 t n) b = none := if_neg (b1_0.mp c20)
    rw [hop] at hK2
    exact hK2 _ _ rfl τ hM
  · have hT := b1_n0.mp c20
    have hop : opAnd (tT τ0 t n) b = some (-12) := if_pos hT
    have hb := tT_lt hR (show tT τ0 t n b ≠ 0 by rw [hT]; decide)
    rw [hop] at hK1 hK2
    dsimp only at hK1 hK2
    refine g_aload_n B dX6_both1_23 rfl ?_
    refine g_callVv (C := RX6) (As := []) B dX6_both1_24 (gc1 g_X6_177) (by rfl) ⟨rfl, hd_X6_next⟩ (by exact ⟨Nat.le_of_ble_eq_true rfl, Nat.le_of_ble_eq_true rfl⟩) ⟨rfl, rfl⟩ rfl rfl (by exact Nat.le_of_ble_eq_true rfl) recvM (c_nx hR hM (by rw [hT]; decide) (fun τ2 hM2 => ?_))
    refine g_aload_n B dX6_both1_27 rfl ?_
    refine g_callVi (C := RX6) (As := []) B dX6_both1_28 (gc1 g_X6_298) (by rfl) ⟨rfl, hd_X6_not1⟩ (by exact ⟨Nat.le_of_ble_eq_true rfl, Nat.le_of_ble_eq_true rfl⟩) ⟨rfl, rfl⟩ rfl rfl (by exact Nat.le_of_ble_eq_true rfl) recvM (c_not1 hR hM2 (fun f hf v8 τ8 hB8 => ?_) (fun cs2 a2 hf τ8 hM8 => ?_))
    · rw [hf] at hK1; dsimp only at hK1
      refine g_istore_n B dX6_both1_31 (by decide) rfl ?_
      refine g_iload_n B dX6_both1_32 rfl ?_
      refine g_if_eq (tgt := 44) B dX6_both1_33 (by decide) (fun c33 => ?_) (fun c33 => ?_)
      · refine g_iconst (v := (0)) B dX6_both1_44 (by decide) ?_
        refine g_istore_n B dX6_both1_45 (by decide) rfl ?_
        refine g_goto (tgt := 5) B dX6_both1_46 (by decide) ?_
        refine g_drop 2 ?_
        first
          | exact lB_both1 B hB8 (hK1 f rfl _ _ hB8)
          | (have hv : ∀ z : Int32, z = jn (-12) (evc (eM τ0) cs) (evc (eM τ0) cs2) → z = evc (eM τ0) (cs ++ cs2 ++ [-12]) := fun z h => h.trans (evc_bin hw hw2 (by decide)).symm
             first
             | rw [hv 0 (jn_and_l c33)]
             | rw [hv 0 (jn_and_r c37)]
             | rw [hv 1 (jn_and_1 c33 c37)]
             obtain ⟨k', rfl⟩ : ∃ k', k = k' + 1 := ⟨k - 1, by omega⟩
             exact ih k' (by omega) (cs ++ cs2 ++ [-12]) a2 τ8 (by omega) (hw.bin hw2 (by decide)) hM8 hK1 hK2)
      · refine g_iload_n B dX6_both1_36 rfl ?_
        refine g_if_eq (tgt := 44) B dX6_both1_37 (by decide) (fun c37 => ?_) (fun c37 => ?_)
        · refine g_iconst (v := (0)) B dX6_both1_44 (by decide) ?_
          refine g_istore_n B dX6_both1_45 (by decide) rfl ?_
          refine g_goto (tgt := 5) B dX6_both1_46 (by decide) ?_
          refine g_drop 2 ?_
          first
            | exact lB_both1 B hB8 (hK1 f rfl _ _ hB8)
            | (have hv : ∀ z : Int32, z = jn (-12) (evc (eM τ0) cs) (evc (eM τ0) cs2) → z = evc (eM τ0) (cs ++ cs2 ++ [-12]) := fun z h => h.trans (evc_bin hw hw2 (by decide)).symm
               first
               | rw [hv 0 (jn_and_l c33)]
               | rw [hv 0 (jn_and_r c37)]
               | rw [hv 1 (jn_and_1 c33 c37)]
               obtain ⟨k', rfl⟩ : ∃ k', k = k' + 1 := ⟨k - 1, by omega⟩
               exact ih k' (by omega) (cs ++ cs2 ++ [-12]) a2 τ8 (by omega) (hw.bin hw2 (by decide)) hM8 hK1 hK2)
        · refine g_iconst (v := (1)) B dX6_both1_40 (by decide) ?_
          refine g_goto (tgt := 45) B dX6_both1_41 (by decide) ?_
          refine g_istore_n B dX6_both1_45 (by decide) rfl ?_
          refine g_goto (tgt := 5) B dX6_both1_46 (by decide) ?_
          refine g_drop 2 ?_
          first
            | exact lB_both1 B hB8 (hK1 f rfl _ _ hB8)
            | (have hv : ∀ z : Int32, z = jn (-12) (evc (eM τ0) cs) (evc (eM τ0) cs2) → z = evc (eM τ0) (cs ++ cs2 ++ [-12]) := fun z h => h.trans (evc_bin hw hw2 (by decide)).symm
               first
               | rw [hv 0 (jn_and_l c33)]
               | rw [hv 0 (jn_and_r c37)]
               | rw [hv 1 (jn_and_1 c33 c37)]
               obtain ⟨k', rfl⟩ : ∃ k', k = k' + 1 := ⟨k - 1, by omega⟩
               exact ih k' (by omega) (cs ++ cs2 ++ [-12]) a2 τ8 (by omega) (hw.bin hw2 (by decide)) hM8 hK1 hK2)
    · rw [hf] at hK1 hK2; dsimp only at hK1 hK2; obtain ⟨hw2, hlt2⟩ := pNot_ok (tT_TV hR) (pLev_ok (tT_TV hR) _) _ _ _ hf
      refine g_istore_n B dX6_both1_31 (by decide) rfl ?_
      refine g_iload_n B dX6_both1_32 rfl ?_
      refine g_if_eq (tgt := 44) B dX6_both1_33 (by decide) (fun c33 => ?_) (fun c33 => ?_)
      · refine g_iconst (v := (0)) B dX6_both1_44 (by decide) ?_
        refine g_istore_n B dX6_both1_45 (by decide) rfl ?_
        refine g_goto (tgt := 5) B dX6_both1_46 (by decide) ?_
        refine g_drop 2 ?_
        first
          | exact lB_both1 B hB8 (hK1 f rfl _ _ hB8)
          | (have hv : ∀ z : Int32, z = jn (-12) (evc (eM τ0) cs) (evc (eM τ0) cs2) → z = evc (eM τ0) (cs ++ cs2 ++ [-12]) := fun z h => h.trans (evc_bin hw hw2 (by decide)).symm
             first
             | rw [hv 0 (jn_and_l c33)]
             | rw [hv 0 (jn_and_r c37)]
             | rw [hv 1 (jn_and_1 c33 c37)]
             obtain ⟨k', rfl⟩ : ∃ k', k = k' + 1 := ⟨k - 1, by omega⟩
             exact ih k' (by omega) (cs ++ cs2 ++ [-12]) a2 τ8 (by omega) (hw.bin hw2 (by decide)) hM8 hK1 hK2)
      · refine g_iload_n B dX6_both1_36 rfl ?_
        refine g_if_eq (tgt := 44) B dX6_both1_37 (by decide) (fun c37 => ?_) (fun c37 => ?_)
        · refine g_iconst (v := (0)) B dX6_both1_44 (by decide) ?_
          refine g_istore_n B dX6_both1_45 (by decide) rfl ?_
          refine g_goto (tgt := 5) B dX6_both1_46 (by decide) ?_
          refine g_drop 2 ?_
          first
            | exact lB_both1 B hB8 (hK1 f rfl _ _ hB8)
            | (have hv : ∀ z : Int32, z = jn (-12) (evc (eM τ0) cs) (evc (eM τ0) cs2) → z = evc (eM τ0) (cs ++ cs2 ++ [-12]) := fun z h => h.trans (evc_bin hw hw2 (by decide)).symm
               first
               | rw [hv 0 (jn_and_l c33)]
               | rw [hv 0 (jn_and_r c37)]
               | rw [hv 1 (jn_and_1 c33 c37)]
               obtain ⟨k', rfl⟩ : ∃ k', k = k' + 1 := ⟨k - 1, by omega⟩
               exact ih k' (by omega) (cs ++ cs2 ++ [-12]) a2 τ8 (by omega) (hw.bin hw2 (by decide)) hM8 hK1 hK2)
        · refine g_iconst (v := (1)) B dX6_both1_40 (by decide) ?_
          refine g_goto (tgt := 45) B dX6_both1_41 (by decide) ?_
          refine g_istore_n B dX6_both1_45 (by decide) rfl ?_
          refine g_goto (tgt := 5) B dX6_both1_46 (by decide) ?_
          refine g_drop 2 ?_
          first
            | exact lB_both1 B hB8 (hK1 f rfl _ _ hB8)
            | (have hv : ∀ z : Int32, z = jn (-12) (evc (eM τ0) cs) (evc (eM τ0) cs2) → z = evc (eM τ0) (cs ++ cs2 ++ [-12]) := fun z h => h.trans (evc_bin hw hw2 (by decide)).symm
               first
               | rw [hv 0 (jn_and_l c33)]
               | rw [hv 0 (jn_and_r c37)]
               | rw [hv 1 (jn_and_1 c33 c37)]
               obtain ⟨k', rfl⟩ : ∃ k', k = k' + 1 := ⟨k - 1, by omega⟩
               exact ih k' (by omega) (cs ++ cs2 ++ [-12]) a2 τ8 (by omega) (hw.bin hw2 (by decide)) hM8 hK1 hK2)
set_option maxRecDepth 100000 in
set_option maxHeartbeats 4000000 in
theorem c_both1 {Z : LZ} {ad : Nat → Nat} {τ0 τ : St} {K : Int32 → St → Prop} {t n a : Nat} (hR : RB τ0 t n) (hM : MS τ0 t n 1 a τ) (hK1 : ∀ f, pBoth (tT τ0 t n) (tV τ0 t n) (pLev (tT τ0 t n) (tV τ0 t n) 4) a = .inl f → ∀ v τ', MB τ0 t n f τ' → K v τ') (hK2 : ∀ cs a2, pBoth (tT τ0 t n) (tV τ0 t n) (pLev (tT τ0 t n) (tV τ0 t n) 4) a = .inr (cs, a2) → ∀ τ', MS τ0 t n 1 a2 τ' → K (evc (eM τ0) cs) τ') : CC lyM Z ad yX6_both1 wsX6_both1 (rmk 32) [.ref (ad 0)] τ (rI K) := by
  refine CC.of (cc := cX6_both1) (nL := 3) (ret := (some .int)) rfl rfl ⟨rfl, rfl⟩ (by exact Nat.le_of_ble_eq_true rfl) ?_
  intro X B
  change GG _ _ _ _ X _ 0 [some (.ref (ad 0)), none, none] [] _
  change Amb _ _ _ _ X _ _ RX6 _ _ at B
  unfold pBoth pSeq at hK1 hK2
  refine g_aload_n B dX6_both1_0 rfl ?_
  refine g_callVi (C := RX6) (As := []) B dX6_both1_1 (gc1 g_X6_298) (by rfl) ⟨rfl, hd_X6_not1⟩ (by exact ⟨Nat.le_of_ble_eq_true rfl, Nat.le_of_ble_eq_true rfl⟩) ⟨rfl, rfl⟩ rfl rfl (by exact Nat.le_of_ble_eq_true rfl) recvM (c_not1 hR hM (fun f hf v8 τ8 hB8 => ?_) (fun cs a1 hf τ8 hM8 => ?_))
  · rw [hf] at hK1; dsimp only at hK1
    refine g_istore_n B dX6_both1_4 (by decide) rfl ?_
    first
      | exact lB_both1 B hB8 (hK1 f rfl _ _ hB8)
      | exact l_both1 B hR 199 cs a1 τ8 (by omega) (pNot_ok (tT_TV hR) (pLev_ok (tT_TV hR) _) _ _ _ hf).1 hM8 hK1 hK2
  · rw [hf] at hK1 hK2; dsimp only at hK1 hK2
    refine g_istore_n B dX6_both1_4 (by decide) rfl ?_
    first
      | exact lB_both1 B hB8 (hK1 f rfl _ _ hB8)
      | exact l_both1 B hR 199 cs a1 τ8 (by omega) (pNot_ok (tT_TV hR) (pLev_ok (tT_TV hR) _) _ _ _ hf).1 hM8 hK1 hK2
set_option maxRecDepth 100000 in
set_option maxHeartbeats 4000000 in
theorem lB_either1 {Z : LZ} {ad : Nat → Nat} {X : CX} {K : Int32 → St → Prop} {τ0 τ : St} {t n f : Nat} {v : Int32} (B : Amb lyM Z ad (rmk 33) X cX6_either1 wsX6_either1 RX6 3 (some .int)) (hB : MB τ0 t n f τ) (hK : K v τ) : GG lyM Z ad (rmk 33) X (rI K) 5 [some (.ref (ad 0)), some (.int v), none] [] τ := by
  refine g_aload_n B dX6_either1_5 rfl ?_
  refine g_bipush (v := (111)) B dX6_either1_6 (by decide) ?_
  refine g_bipush (v := (114)) B dX6_either1_8 (by decide) ?_
  refine g_iconst (v := (0)) B dX6_either1_10 (by decide) ?_
  refine g_iconst (v := (0)) B dX6_either1_11 (by decide) ?_
  refine g_iconst (v := (0)) B dX6_either1_12 (by decide) ?_
  refine g_iconst (v := (0)) B dX6_either1_13 (by decide) ?_
  refine g_iconst (v := (0)) B dX6_either1_14 (by decide) ?_
  refine g_iconst (v := (0)) B dX6_either1_15 (by decide) ?_
  refine g_callVi (C := RX6) (As := [.int _, .int _, .int _, .int _, .int _, .int _, .int _, .int _]) B dX6_either1_16 (gc1 g_X6_180) (by rfl) ⟨rfl, hd_X6_isWord⟩ (by exact ⟨Nat.le_of_ble_eq_true rfl, Nat.le_of_ble_eq_true rfl⟩) ⟨rfl, rfl⟩ rfl rfl (by exact Nat.le_of_ble_eq_true rfl) recvM (c_keyB hB ?_)
  refine g_if_eq (tgt := 48) B dX6_either1_19 (by decide) (fun c19 => ?_) (fun c19 => ?_)
  · refine g_iload_n B dX6_either1_48 rfl ?_
    refine g_ireti B dX6_either1_49 ?_
    exact hK
  · exact absurd rfl c19
set_option maxRecDepth 100000 in
set_option maxHeartbeats 4000000 in
theorem l_either1 {Z : LZ} {ad : Nat → Nat} {X : CX} {K : Int32 → St → Prop} {τ0 : St} {t n : Nat} (B : Amb lyM Z ad (rmk 33) X cX6_either1 wsX6_either1 RX6 3 (some .int)) (hR : RB τ0 t n) : ∀ (k : Nat) (cs : List Int32) (b : Nat) (τ : St), 160 ≤ b + k → WF cs → MS τ0 t n 1 b τ → (∀ f, pLoop (pBoth (tT τ0 t n) (tV τ0 t n) (pLev (tT τ0 t n) (tV τ0 t n) 4)) (opOr (tT τ0 t n)) (k + 1) cs b = .inl f → ∀ v τ', MB τ0 t n f τ' → K v τ') → (∀ ds a2, pLoop (pBoth (tT τ0 t n) (tV τ0 t n) (pLev (tT τ0 t n) (tV τ0 t n) 4)) (opOr (tT τ0 t n)) (k + 1) cs b = .inr (ds, a2) → ∀ τ', MS τ0 t n 1 a2 τ' → K (evc (eM τ0) ds) τ') → GG lyM Z ad (rmk 33) X (rI K) 5 [some (.ref (ad 0)), some (.int (evc (eM τ0) cs)), none] [] τ := by
  intro k
  induction k using Nat.strongRecOn with
  | ind k ih =>
  intro cs b τ hk hw hM hK1 hK2
  have hn := hR.2.2.2
  unfold pLoop at hK1 hK2
  refine g_aload_n B dX6_either1_5 rfl ?_
  refine g_bipush (v := (111)) B dX6_either1_6 (by decide) ?_
  refine g_bipush (v := (114)) B dX6_either1_8 (by decide) ?_
  refine g_iconst (v := (0)) B dX6_either1_10 (by decide) ?_
  refine g_iconst (v := (0)) B dX6_either1_11 (by decide) ?_
  refine g_iconst (v := (0)) B dX6_either1_12 (by decide) ?_
  refine g_iconst (v := (0)) B dX6_either1_13 (by decide) ?_
  refine g_iconst (v := (0)) B dX6_either1_14 (by decide) ?_
  refine g_iconst (v := (0)) B dX6_either1_15 (by decide) ?_
  refine g_callVi (C := RX6) (As := [.int _, .int _, .int _, .int _, .int _, .int _, .int _, .int _]) B dX6_either1_16 (gc1 g_X6_180) (by rfl) ⟨rfl, hd_X6_isWord⟩ (by exact ⟨Nat.le_of_ble_eq_true rfl, Nat.le_of_ble_eq_true rfl⟩) ⟨rfl, rfl⟩ rfl rfl (by exact Nat.le_of_ble_eq_true rfl) recvM (c_key (c := 304) hR hM (by decide) (fun _ _ _ => wS_or) ?_)
  refine g_if_eq (tgt := 48) B dX6_either1_19 (by decide) (fun c19 => ?_) (fun c19 => ?_)
  · refine g_iload_n B dX6_either1_48 rfl ?_
    refine g_ireti B dX6_either1_49 ?_
    have hop : opOr (tT τ0 t n) b = none := if_neg (b1_0.mp c19)
    rw [hop] at hK2
    exact hK2 _ _ rfl τ hM
  · have hT := b1_n0.mp c19
    have hop : opOr (tT τ0 t n) b = some (-11) := if_pos hT
    have hb := tT_lt hR (show tT τ0 t n b ≠ 0 by rw [hT]; decide)
    rw [hop] at hK1 hK2
    dsimp only at hK1 hK2
    refine g_aload_n B dX6_either1_22 rfl ?_
    refine g_callVv (C := RX6) (As := []) B dX6_either1_23 (gc1 g_X6_177) (by rfl) ⟨rfl, hd_X6_next⟩ (by exact ⟨Nat.le_of_ble_eq_true rfl, Nat.le_of_ble_eq_true rfl⟩) ⟨rfl, rfl⟩ rfl rfl (by exact Nat.le_of_ble_eq_true rfl) recvM (c_nx hR hM (by rw [hT]; decide) (fun τ2 hM2 => ?_))
    refine g_aload_n B dX6_either1_26 rfl ?_
    refine g_callVi (C := RX6) (As := []) B dX6_either1_27 (gc1 g_X6_301) (by rfl) ⟨rfl, hd_X6_both1⟩ (by exact ⟨Nat.le_of_ble_eq_true rfl, Nat.le_of_ble_eq_true rfl⟩) ⟨rfl, rfl⟩ rfl rfl (by exact Nat.le_of_ble_eq_true rfl) recvM (c_both1 hR hM2 (fun f hf v8 τ8 hB8 => ?_) (fun cs2 a2 hf τ8 hM8 => ?_))
    · rw [hf] at hK1; dsimp only at hK1
      refine g_istore_n B dX6_either1_30 (by decide) rfl ?_
      refine g_iload_n B dX6_either1_31 rfl ?_
      refine g_if_ne (tgt := 39) B dX6_either1_32 (by decide) (fun c32 => ?_) (fun c32 => ?_)
      · refine g_iconst (v := (1)) B dX6_either1_39 (by decide) ?_
        refine g_goto (tgt := 44) B dX6_either1_40 (by decide) ?_
        refine g_istore_n B dX6_either1_44 (by decide) rfl ?_
        refine g_goto (tgt := 5) B dX6_either1_45 (by decide) ?_
        refine g_drop 2 ?_
        first
          | exact lB_either1 B hB8 (hK1 f rfl _ _ hB8)
          | (have hv : ∀ z : Int32, z = jn (-11) (evc (eM τ0) cs) (evc (eM τ0) cs2) → z = evc (eM τ0) (cs ++ cs2 ++ [-11]) := fun z h => h.trans (evc_bin hw hw2 (by decide)).symm
             first
             | rw [hv 1 (jn_or_l c32)]
             | rw [hv 0 (jn_or_0 c32 c36)]
             | rw [hv 1 (jn_or_r c36)]
             obtain ⟨k', rfl⟩ : ∃ k', k = k' + 1 := ⟨k - 1, by omega⟩
             exact ih k' (by omega) (cs ++ cs2 ++ [-11]) a2 τ8 (by omega) (hw.bin hw2 (by decide)) hM8 hK1 hK2)
      · refine g_iload_n B dX6_either1_35 rfl ?_
        refine g_if_eq (tgt := 43) B dX6_either1_36 (by decide) (fun c36 => ?_) (fun c36 => ?_)
        · refine g_iconst (v := (0)) B dX6_either1_43 (by decide) ?_
          refine g_istore_n B dX6_either1_44 (by decide) rfl ?_
          refine g_goto (tgt := 5) B dX6_either1_45 (by decide) ?_
          refine g_drop 2 ?_
          first
            | exact lB_either1 B hB8 (hK1 f rfl _ _ hB8)
            | (have hv : ∀ z : Int32, z = jn (-11) (evc (eM τ0) cs) (evc (eM τ0) cs2) → z = evc (eM τ0) (cs ++ cs2 ++ [-11]) := fun z h => h.trans (evc_bin hw hw2 (by decide)).symm
               first
               | rw [hv 1 (jn_or_l c32)]
               | rw [hv 0 (jn_or_0 c32 c36)]
               | rw [hv 1 (jn_or_r c36)]
               obtain ⟨k', rfl⟩ : ∃ k', k = k' + 1 := ⟨k - 1, by omega⟩
               exact ih k' (by omega) (cs ++ cs2 ++ [-11]) a2 τ8 (by omega) (hw.bin hw2 (by decide)) hM8 hK1 hK2)
        · refine g_iconst (v := (1)) B dX6_either1_39 (by decide) ?_
          refine g_goto (tgt := 44) B dX6_either1_40 (by decide) ?_
          refine g_istore_n B dX6_either1_44 (by decide) rfl ?_
          refine g_goto (tgt := 5) B dX6_either1_45 (by decide) ?_
          refine g_drop 2 ?_
          first
            | exact lB_either1 B hB8 (hK1 f rfl _ _ hB8)
            | (have hv : ∀ z : Int32, z = jn (-11) (evc (eM τ0) cs) (evc (eM τ0) cs2) → z = evc (eM τ0) (cs ++ cs2 ++ [-11]) := fun z h => h.trans (evc_bin hw hw2 (by decide)).symm
               first
               | rw [hv 1 (jn_or_l c32)]
               | rw [hv 0 (jn_or_0 c32 c36)]
               | rw [hv 1 (jn_or_r c36)]
               obtain ⟨k', rfl⟩ : ∃ k', k = k' + 1 := ⟨k - 1, by omega⟩
               exact ih k' (by omega) (cs ++ cs2 ++ [-11]) a2 τ8 (by omega) (hw.bin hw2 (by decide)) hM8 hK1 hK2)
    · rw [hf] at hK1 hK2; dsimp only at hK1 hK2; obtain ⟨hw2, hlt2⟩ := pBoth_ok (tT_TV hR) (pLev_ok (tT_TV hR) _) _ _ _ hf
      refine g_istore_n B dX6_either1_30 (by decide) rfl ?_
      refine g_iload_n B dX6_either1_31 rfl ?_
      refine g_if_ne (tgt := 39) B dX6_either1_32 (by decide) (fun c32 => ?_) (fun c32 => ?_)
      · refine g_iconst (v := (1)) B dX6_either1_39 (by decide) ?_
        refine g_goto (tgt := 44) B dX6_either1_40 (by decide) ?_
        refine g_istore_n B dX6_either1_44 (by decide) rfl ?_
        refine g_goto (tgt := 5) B dX6_either1_45 (by decide) ?_
        refine g_drop 2 ?_
        first
          | exact lB_either1 B hB8 (hK1 f rfl _ _ hB8)
          | (have hv : ∀ z : Int32, z = jn (-11) (evc (eM τ0) cs) (evc (eM τ0) cs2) → z = evc (eM τ0) (cs ++ cs2 ++ [-11]) := fun z h => h.trans (evc_bin hw hw2 (by decide)).symm
             first
             | rw [hv 1 (jn_or_l c32)]
             | rw [hv 0 (jn_or_0 c32 c36)]
             | rw [hv 1 (jn_or_r c36)]
             obtain ⟨k', rfl⟩ : ∃ k', k = k' + 1 := ⟨k - 1, by omega⟩
             exact ih k' (by omega) (cs ++ cs2 ++ [-11]) a2 τ8 (by omega) (hw.bin hw2 (by decide)) hM8 hK1 hK2)
      · refine g_iload_n B dX6_either1_35 rfl ?_
        refine g_if_eq (tgt := 43) B dX6_either1_36 (by decide) (fun c36 => ?_) (fun c36 => ?_)
        · refine g_iconst (v := (0)) B dX6_either1_43 (by decide) ?_
          refine g_istore_n B dX6_either1_44 (by decide) rfl ?_
          refine g_goto (tgt := 5) B dX6_either1_45 (by decide) ?_
          refine g_drop 2 ?_
          first
            | exact lB_either1 B hB8 (hK1 f rfl _ _ hB8)
            | (have hv : ∀ z : Int32, z = jn (-11) (evc (eM τ0) cs) (evc (eM τ0) cs2) → z = evc (eM τ0) (cs ++ cs2 ++ [-11]) := fun z h => h.trans (evc_bin hw hw2 (by decide)).symm
               first
               | rw [hv 1 (jn_or_l c32)]
               | rw [hv 0 (jn_or_0 c32 c36)]
               | rw [hv 1 (jn_or_r c36)]
               obtain ⟨k', rfl⟩ : ∃ k', k = k' + 1 := ⟨k - 1, by omega⟩
               exact ih k' (by omega) (cs ++ cs2 ++ [-11]) a2 τ8 (by omega) (hw.bin hw2 (by decide)) hM8 hK1 hK2)
        · refine g_iconst (v := (1)) B dX6_either1_39 (by decide) ?_
          refine g_goto (tgt := 44) B dX6_either1_40 (by decide) ?_
          refine g_istore_n B dX6_either1_44 (by decide) rfl ?_
          refine g_goto (tgt := 5) B dX6_either1_45 (by decide) ?_
          refine g_drop 2 ?_
          first
            | exact lB_either1 B hB8 (hK1 f rfl _ _ hB8)
            | (have hv : ∀ z : Int32, z = jn (-11) (evc (eM τ0) cs) (evc (eM τ0) cs2) → z = evc (eM τ0) (cs ++ cs2 ++ [-11]) := fun z h => h.trans (evc_bin hw hw2 (by decide)).symm
               first
               | rw [hv 1 (jn_or_l c32)]
               | rw [hv 0 (jn_or_0 c32 c36)]
               | rw [hv 1 (jn_or_r c36)]
               obtain ⟨k', rfl⟩ : ∃ k', k = k' + 1 := ⟨k - 1, by omega⟩
               exact ih k' (by omega) (cs ++ cs2 ++ [-11]) a2 τ8 (by omega) (hw.bin hw2 (by decide)) hM8 hK1 hK2)
set_option maxRecDepth 100000 in
set_option maxHeartbeats 4000000 in
theorem c_either1 {Z : LZ} {ad : Nat → Nat} {τ0 τ : St} {K : Int32 → St → Prop} {t n a : Nat} (hR : RB τ0 t n) (hM : MS τ0 t n 1 a τ) (hK1 : ∀ f, pEith (tT τ0 t n) (tV τ0 t n) (pLev (tT τ0 t n) (tV τ0 t n) 4) a = .inl f → ∀ v τ', MB τ0 t n f τ' → K v τ') (hK2 : ∀ cs a2, pEith (tT τ0 t n) (tV τ0 t n) (pLev (tT τ0 t n) (tV τ0 t n) 4) a = .inr (cs, a2) → ∀ τ', MS τ0 t n 1 a2 τ' → K (evc (eM τ0) cs) τ') : CC lyM Z ad yX6_either1 wsX6_either1 (rmk 33) [.ref (ad 0)] τ (rI K) := by
  refine CC.of (cc := cX6_either1) (nL := 3) (ret := (some .int)) rfl rfl ⟨rfl, rfl⟩ (by exact Nat.le_of_ble_eq_true rfl) ?_
  intro X B
  change GG _ _ _ _ X _ 0 [some (.ref (ad 0)), none, none] [] _
  change Amb _ _ _ _ X _ _ RX6 _ _ at B
  unfold pEith pSeq at hK1 hK2
  refine g_aload_n B dX6_either1_0 rfl ?_
  refine g_callVi (C := RX6) (As := []) B dX6_either1_1 (gc1 g_X6_301) (by rfl) ⟨rfl, hd_X6_both1⟩ (by exact ⟨Nat.le_of_ble_eq_true rfl, Nat.le_of_ble_eq_true rfl⟩) ⟨rfl, rfl⟩ rfl rfl (by exact Nat.le_of_ble_eq_true rfl) recvM (c_both1 hR hM (fun f hf v8 τ8 hB8 => ?_) (fun cs a1 hf τ8 hM8 => ?_))
  · rw [hf] at hK1; dsimp only at hK1
    refine g_istore_n B dX6_either1_4 (by decide) rfl ?_
    first
      | exact lB_either1 B hB8 (hK1 f rfl _ _ hB8)
      | exact l_either1 B hR 199 cs a1 τ8 (by omega) (pBoth_ok (tT_TV hR) (pLev_ok (tT_TV hR) _) _ _ _ hf).1 hM8 hK1 hK2
  · rw [hf] at hK1 hK2; dsimp only at hK1 hK2
    refine g_istore_n B dX6_either1_4 (by decide) rfl ?_
    first
      | exact lB_either1 B hB8 (hK1 f rfl _ _ hB8)
      | exact l_either1 B hR 199 cs a1 τ8 (by omega) (pBoth_ok (tT_TV hR) (pLev_ok (tT_TV hR) _) _ _ _ hf).1 hM8 hK1 hK2
set_option maxRecDepth 100000 in
set_option maxHeartbeats 4000000 in
theorem c_atom0 {Z : LZ} {ad : Nat → Nat} {τ0 τ : St} {K : Int32 → St → Prop} {t n a : Nat} (hR : RB τ0 t n) (hM : MS τ0 t n 0 a τ) (hK1 : ∀ f, pAtom (tT τ0 t n) (tV τ0 t n) (pLev (tT τ0 t n) (tV τ0 t n) 5) a = .inl f → ∀ v τ', MB τ0 t n f τ' → K v τ') (hK2 : ∀ cs a2, pAtom (tT τ0 t n) (tV τ0 t n) (pLev (tT τ0 t n) (tV τ0 t n) 5) a = .inr (cs, a2) → ∀ τ', MS τ0 t n 0 a2 τ' → K (evc (eM τ0) cs) τ') : CC lyM Z ad yX6_atom0 wsX6_atom0 (rmk 34) [.ref (ad 0)] τ (rI K) := by
  refine CC.of (cc := cX6_atom0) (nL := 2) (ret := (some .int)) rfl rfl ⟨rfl, rfl⟩ (by exact Nat.le_of_ble_eq_true rfl) ?_
  intro X B
  change GG _ _ _ _ X _ 0 [some (.ref (ad 0)), none] [] _
  change Amb _ _ _ _ X _ _ RX6 _ _ at B
  have hg : ∀ v τ', MB τ0 t n a τ' → ¬ (tT τ0 t n a = 2 ∨ tT τ0 t n a = 3) → tT τ0 t n a ≠ 45 → tT τ0 t n a ≠ 40 → K v τ' := fun v τ' hB h h2 h3 => hK1 a (by
    unfold pAtom
    rw [if_neg h, if_neg h2, if_neg h3]) v τ' hB
  have h45 : isS 45 := by decide
  have h40 : isS 40 := by decide
  refine g_iconst (v := (0)) B dX6_atom0_0 (by decide) ?_
  refine g_istore_n B dX6_atom0_1 (by decide) rfl ?_
  refine g_aload_n B dX6_atom0_2 rfl ?_
  refine g_bipush (v := (45)) B dX6_atom0_3 (by decide) ?_
  refine g_callVi (C := RX6) (As := [.int _]) B dX6_atom0_5 (gc1 g_X6_202) (by rfl) ⟨rfl, hd_X6_isSign⟩ (by exact ⟨Nat.le_of_ble_eq_true rfl, Nat.le_of_ble_eq_true rfl⟩) ⟨rfl, rfl⟩ rfl rfl (by exact Nat.le_of_ble_eq_true rfl) recvM (c_sgn hM h45 ?_)
  refine g_if_eq (tgt := 37) B dX6_atom0_8 (by decide) (fun c8 => ?_) (fun c8 => ?_)
  · refine g_aload_n B dX6_atom0_37 rfl ?_
    refine g_bipush (v := (40)) B dX6_atom0_38 (by decide) ?_
    refine g_callVi (C := RX6) (As := [.int _]) B dX6_atom0_40 (gc1 g_X6_202) (by rfl) ⟨rfl, hd_X6_isSign⟩ (by exact ⟨Nat.le_of_ble_eq_true rfl, Nat.le_of_ble_eq_true rfl⟩) ⟨rfl, rfl⟩ rfl rfl (by exact Nat.le_of_ble_eq_true rfl) recvM (c_sgn hM h40 ?_)
    refine g_if_eq (tgt := 95) B dX6_atom0_43 (by decide) (fun c43 => ?_) (fun c43 => ?_)
    · refine g_aload_n B dX6_atom0_95 rfl ?_
      refine g_getI (T := TX6) (N := 42) B dX6_atom0_96 (by decide) (by rfl) (inq inlX6) rfl 25 (by decide) (mq f_X6_161) (by rfl) ?_
      refine g_if_ne (tgt := 123) B dX6_atom0_99 (by decide) (fun c99 => ?_) (fun c99 => ?_)
      · exact absurd hM.2.1 c99
      · refine g_aload_n B dX6_atom0_102 rfl ?_
        refine g_getI (T := TX6) (N := 42) B dX6_atom0_103 (by decide) (by rfl) (inq inlX6) rfl 21 (by decide) (mq f_X6_144) (by rfl) ?_
        refine g_iconst (v := (2)) B dX6_atom0_106 (by decide) ?_
        refine g_icmp_ne (tgt := 123) B dX6_atom0_107 (by decide) (fun c107 => ?_) (fun c107 => ?_)
        · refine g_aload_n B dX6_atom0_123 rfl ?_
          refine g_getI (T := TX6) (N := 42) B dX6_atom0_124 (by decide) (by rfl) (inq inlX6) rfl 25 (by decide) (mq f_X6_161) (by rfl) ?_
          refine g_if_ne (tgt := 157) B dX6_atom0_127 (by decide) (fun c127 => ?_) (fun c127 => ?_)
          · exact absurd hM.2.1 c127
          · refine g_aload_n B dX6_atom0_130 rfl ?_
            refine g_getI (T := TX6) (N := 42) B dX6_atom0_131 (by decide) (by rfl) (inq inlX6) rfl 21 (by decide) (mq f_X6_144) (by rfl) ?_
            refine g_iconst (v := (1)) B dX6_atom0_134 (by decide) ?_
            refine g_icmp_ne (tgt := 157) B dX6_atom0_135 (by decide) (fun c135 => ?_) (fun c135 => ?_)
            · refine g_aload_n B dX6_atom0_157 rfl ?_
              refine g_callVv (C := RX6) (As := []) B dX6_atom0_158 (gc1 g_X6_174) (by rfl) ⟨rfl, hd_X6_fail⟩ (by exact ⟨Nat.le_of_ble_eq_true rfl, Nat.le_of_ble_eq_true rfl⟩) ⟨rfl, rfl⟩ rfl rfl (by exact Nat.le_of_ble_eq_true rfl) recvM (c_fl hM (fun τ9 hB9 => ?_))
              refine g_iload_n B dX6_atom0_161 rfl ?_
              refine g_ireti B dX6_atom0_162 ?_
              first
                | exact absurd hM.2.1 c99
                | exact absurd hM.2.1 c127
                | exact hg _ _ hB9 (fun h => h.elim (fun h => c107 (hM.A.num.1.mpr h)) (fun h => c135 (hM.A.wrd.1.mpr (hM.A.wrd.2.2 h)))) (b1_0.mp c8) (b1_0.mp c43)
            · refine g_aload_n B dX6_atom0_138 rfl ?_
              refine g_callVi (C := RX6) (As := []) B dX6_atom0_139 (gc1 g_X6_209) (by rfl) ⟨rfl, hd_X6_name⟩ (by exact ⟨Nat.le_of_ble_eq_true rfl, Nat.le_of_ble_eq_true rfl⟩) ⟨rfl, rfl⟩ rfl rfl (by exact Nat.le_of_ble_eq_true rfl) recvM (c_nm hR hM c135 (fun h3 => ?_) (fun h3 τ9 hB9 => ?_))
              · refine g_istore_n B dX6_atom0_142 (by decide) rfl ?_
                refine g_aload_n B dX6_atom0_143 rfl ?_
                refine g_getI (T := TX6) (N := 42) B dX6_atom0_144 (by decide) (by rfl) (inq inlX6) rfl 25 (by decide) (mq f_X6_161) (by rfl) ?_
                refine g_if_ne (tgt := 161) B dX6_atom0_147 (by decide) (fun c147 => ?_) (fun c147 => ?_)
                · exact absurd hM.2.1 c147
                · refine g_aload_n B dX6_atom0_150 rfl ?_
                  refine g_callVv (C := RX6) (As := []) B dX6_atom0_151 (gc1 g_X6_177) (by rfl) ⟨rfl, hd_X6_next⟩ (by exact ⟨Nat.le_of_ble_eq_true rfl, Nat.le_of_ble_eq_true rfl⟩) ⟨rfl, rfl⟩ rfl rfl (by exact Nat.le_of_ble_eq_true rfl) recvM (c_nx hR hM (in_or3 _ (Or.inr h3)) (fun τ9 hM9 => ?_))
                  refine g_goto (tgt := 161) B dX6_atom0_154 (by decide) ?_
                  refine g_iload_n B dX6_atom0_161 rfl ?_
                  refine g_ireti B dX6_atom0_162 ?_
                  refine kk ?_ (hK2 [tV τ0 t n a] (a + 1) (by unfold pAtom; rw [if_pos (Or.inr h3)]) τ9 hM9)
                  rw [evc_one (tT_TV hR a (Or.inr h3))]
              · refine g_istore_n B dX6_atom0_142 (by decide) rfl ?_
                refine g_aload_n B dX6_atom0_143 rfl ?_
                refine g_getI (T := TX6) (N := 42) B dX6_atom0_144 (by decide) (by rfl) (inq inlX6) rfl 25 (by decide) (mq f_X6_161) (by rfl) ?_
                refine g_if_ne (tgt := 161) B dX6_atom0_147 (by decide) (fun c147 => ?_) (fun c147 => ?_)
                · refine g_iload_n B dX6_atom0_161 rfl ?_
                  refine g_ireti B dX6_atom0_162 ?_
                  first
                    | exact absurd c15 (by decide)
                    | exact absurd c50 (by decide)
                    | exact absurd hB9.2.1 (fun h => absurd (c147.symm.trans h) (by decide))
                    | exact absurd hM.2.1 c147
                    | (refine hK1 f ?_ _ _ hB8.close
                       unfold pAtom
                       rw [if_neg (fun h => by rw [b1_n0.mp c43] at h; exact absurd h (by decide)), if_neg (b1_0.mp c8), if_pos (b1_n0.mp c43)]
                       show (match pEith (tT τ0 t n) (tV τ0 t n) (pLev (tT τ0 t n) (tV τ0 t n) 4) (a + 1) with | .inl f => _ | .inr (cs, a2) => _) = _
                       rw [hf])
                    | (refine hK1 a2 ?_ _ _ hB6.close
                       unfold pAtom
                       rw [if_neg (fun h => by rw [b1_n0.mp c43] at h; exact absurd h (by decide)), if_neg (b1_0.mp c8), if_pos (b1_n0.mp c43)]
                       show (match pEith (tT τ0 t n) (tV τ0 t n) (pLev (tT τ0 t n) (tV τ0 t n) 4) (a + 1) with | .inl f => _ | .inr (cs, a2) => _) = _
                       rw [hf]
                       show (if tT τ0 t n a2 = 41 then _ else _) = _
                       rw [if_neg (b1_0.mp c64)])
                    | exact absurd (MS.close (by decide) hM8).2.1 c85
                    | exact hg _ _ hB9 (fun h => h.elim (fun h => c107 (hM.A.num.1.mpr h)) (fun h => h3 h)) (b1_0.mp c8) (b1_0.mp c43)
                · exact absurd (c147.symm.trans hB9.2.1) (by decide)
        · refine g_aload_n B dX6_atom0_110 rfl ?_
          refine g_getL (T := TX6) (N := 42) B dX6_atom0_111 (by decide) (by rfl) (inq inlX6) rfl 23 (by decide) (mq f_X6_155) (by rfl) ?_
          refine g_l2i B dX6_atom0_114 rfl ?_
          refine g_istore_n B dX6_atom0_115 (by decide) rfl ?_
          refine g_aload_n B dX6_atom0_116 rfl ?_
          refine g_callVv (C := RX6) (As := []) B dX6_atom0_117 (gc1 g_X6_177) (by rfl) ⟨rfl, hd_X6_next⟩ (by exact ⟨Nat.le_of_ble_eq_true rfl, Nat.le_of_ble_eq_true rfl⟩) ⟨rfl, rfl⟩ rfl rfl (by exact Nat.le_of_ble_eq_true rfl) recvM (c_nx hR hM (in_or3 _ (Or.inl (hM.A.num.1.mp c107))) (fun τ9 hM9 => ?_))
          refine g_goto (tgt := 161) B dX6_atom0_120 (by decide) ?_
          refine g_iload_n B dX6_atom0_161 rfl ?_
          refine g_ireti B dX6_atom0_162 ?_
          refine kk ?_ (hK2 [tV τ0 t n a] (a + 1) (by unfold pAtom; rw [if_pos (Or.inl (hM.A.num.1.mp c107))]) τ9 hM9)
          rw [evc_one (tT_TV hR a (Or.inl (hM.A.num.1.mp c107))), opd_num (tV_num hR (hM.A.num.1.mp c107)).1]
          exact hM.A.num.2 c107
    · refine g_aload_n B dX6_atom0_46 rfl ?_
      refine g_callVi (C := RX6) (As := []) B dX6_atom0_47 (gc1 g_X6_205) (by rfl) ⟨rfl, hd_X6_opens⟩ (by exact ⟨Nat.le_of_ble_eq_true rfl, Nat.le_of_ble_eq_true rfl⟩) ⟨rfl, rfl⟩ rfl rfl (by exact Nat.le_of_ble_eq_true rfl) recvM (c_opn hR hM (by decide) (isS_0 (by rw [b1_n0.mp c43]; decide)) (fun τ7 hM7 => ?_))
      refine g_if_eq (tgt := 161) B dX6_atom0_50 (by decide) (fun c50 => ?_) (fun c50 => ?_)
      · exact absurd c50 (by decide)
      · refine g_aload_n B dX6_atom0_53 rfl ?_
        refine g_callVi (C := RX6) (As := []) B dX6_atom0_54 (gc1 g_X6_304) (by rfl) ⟨rfl, hd_X6_either1⟩ (by exact ⟨Nat.le_of_ble_eq_true rfl, Nat.le_of_ble_eq_true rfl⟩) ⟨rfl, rfl⟩ rfl rfl (by exact Nat.le_of_ble_eq_true rfl) recvM (c_either1 hR hM7 (fun f hf v8 τ8 hB8 => ?_) (fun cs a2 hf τ8 hM8 => ?_))
        · refine g_istore_n B dX6_atom0_57 (by decide) rfl ?_
          refine g_aload_n B dX6_atom0_58 rfl ?_
          refine g_bipush (v := (41)) B dX6_atom0_59 (by decide) ?_
          first
            | refine g_callVi (C := RX6) (As := [.int _]) B dX6_atom0_61 (gc1 g_X6_202) (by rfl) ⟨rfl, hd_X6_isSign⟩ (by exact ⟨Nat.le_of_ble_eq_true rfl, Nat.le_of_ble_eq_true rfl⟩) ⟨rfl, rfl⟩ rfl rfl (by exact Nat.le_of_ble_eq_true rfl) recvM (c_sgnB hB8 ?_)
            | refine g_callVi (C := RX6) (As := [.int _]) B dX6_atom0_61 (gc1 g_X6_202) (by rfl) ⟨rfl, hd_X6_isSign⟩ (by exact ⟨Nat.le_of_ble_eq_true rfl, Nat.le_of_ble_eq_true rfl⟩) ⟨rfl, rfl⟩ rfl rfl (by exact Nat.le_of_ble_eq_true rfl) recvM (c_sgn hM8 (show isS 41 by decide) ?_)
          refine g_if_ne (tgt := 71) B dX6_atom0_64 (by decide) (fun c64 => ?_) (fun c64 => ?_)
          · refine g_aload_n B dX6_atom0_71 rfl ?_
            refine g_dup B dX6_atom0_72 rfl ?_
            refine g_getI (T := TX6) (N := 42) B dX6_atom0_73 (by decide) (by rfl) (inq inlX6) rfl 24 (by decide) (mq f_X6_171) (by rfl) ?_
            refine g_iconst (v := (1)) B dX6_atom0_76 (by decide) ?_
            refine g_isub B dX6_atom0_77 ?_
            refine g_putI (T := TX6) (N := 42) B dX6_atom0_78 (by decide) (by rfl) (inq inlX6) rfl 24 (by decide) (mq f_X6_171) tyX6_ok nmX6 rfl ⟨rfl, rfl⟩ (by rfl) ?_
            refine g_aload_n B dX6_atom0_81 rfl ?_
            refine g_getI (T := TX6) (N := 42) B dX6_atom0_82 (by decide) (by rfl) (inq inlX6) rfl 25 (by decide) (mq f_X6_161) (by rfl) ?_
            refine g_if_ne (tgt := 161) B dX6_atom0_85 (by decide) (fun c85 => ?_) (fun c85 => ?_)
            · refine g_iload_n B dX6_atom0_161 rfl ?_
              refine g_ireti B dX6_atom0_162 ?_
              first
                | exact absurd c15 (by decide)
                | exact absurd c50 (by decide)
                | exact absurd hB9.2.1 (fun h => absurd (c147.symm.trans h) (by decide))
                | exact absurd hM.2.1 c147
                | (refine hK1 f ?_ _ _ hB8.close
                   unfold pAtom
                   rw [if_neg (fun h => by rw [b1_n0.mp c43] at h; exact absurd h (by decide)), if_neg (b1_0.mp c8), if_pos (b1_n0.mp c43)]
                   show (match pEith (tT τ0 t n) (tV τ0 t n) (pLev (tT τ0 t n) (tV τ0 t n) 4) (a + 1) with | .inl f => _ | .inr (cs, a2) => _) = _
                   rw [hf])
                | (refine hK1 a2 ?_ _ _ hB6.close
                   unfold pAtom
                   rw [if_neg (fun h => by rw [b1_n0.mp c43] at h; exact absurd h (by decide)), if_neg (b1_0.mp c8), if_pos (b1_n0.mp c43)]
                   show (match pEith (tT τ0 t n) (tV τ0 t n) (pLev (tT τ0 t n) (tV τ0 t n) 4) (a + 1) with | .inl f => _ | .inr (cs, a2) => _) = _
                   rw [hf]
                   show (if tT τ0 t n a2 = 41 then _ else _) = _
                   rw [if_neg (b1_0.mp c64)])
                | exact absurd (MS.close (by decide) hM8).2.1 c85
                | exact hg _ _ hB9 (fun h => h.elim (fun h => c107 (hM.A.num.1.mpr h)) (fun h => h3 h)) (b1_0.mp c8) (b1_0.mp c43)
            · first
                | exact absurd (c85.symm.trans hB8.close.2.1) (by decide)
                | exact absurd (c85.symm.trans hB6.close.2.1) (by decide)
                | (refine g_aload_n B dX6_atom0_88 rfl ?_
                   refine g_callVv (C := RX6) (As := []) B dX6_atom0_89 (gc1 g_X6_177) (by rfl) ⟨rfl, hd_X6_next⟩ (by exact ⟨Nat.le_of_ble_eq_true rfl, Nat.le_of_ble_eq_true rfl⟩) ⟨rfl, rfl⟩ rfl rfl (by exact Nat.le_of_ble_eq_true rfl) recvM (c_nx hR (MS.close (by decide) hM8) (isS_0 (by rw [b1_n0.mp c64]; decide)) (fun τ9 hM9 => ?_))
                   refine g_goto (tgt := 161) B dX6_atom0_92 (by decide) ?_
                   refine g_iload_n B dX6_atom0_161 rfl ?_
                   refine g_ireti B dX6_atom0_162 ?_
                   refine hK2 cs (a2 + 1) ?_ _ hM9
                   unfold pAtom
                   rw [if_neg (fun h => by rw [b1_n0.mp c43] at h; exact absurd h (by decide)), if_neg (b1_0.mp c8), if_pos (b1_n0.mp c43)]
                   show (match pEith (tT τ0 t n) (tV τ0 t n) (pLev (tT τ0 t n) (tV τ0 t n) 4) (a + 1) with | .inl f => _ | .inr (cs, a2) => _) = _
                   rw [hf]
                   show (if tT τ0 t n a2 = 41 then _ else _) = _
                   rw [if_pos (b1_n0.mp c64)])
          · refine g_aload_n B dX6_atom0_67 rfl ?_
            first
              | refine g_callVv (C := RX6) (As := []) B dX6_atom0_68 (gc1 g_X6_174) (by rfl) ⟨rfl, hd_X6_fail⟩ (by exact ⟨Nat.le_of_ble_eq_true rfl, Nat.le_of_ble_eq_true rfl⟩) ⟨rfl, rfl⟩ rfl rfl (by exact Nat.le_of_ble_eq_true rfl) recvM (c_flB hB8 ?_)
              | refine g_callVv (C := RX6) (As := []) B dX6_atom0_68 (gc1 g_X6_174) (by rfl) ⟨rfl, hd_X6_fail⟩ (by exact ⟨Nat.le_of_ble_eq_true rfl, Nat.le_of_ble_eq_true rfl⟩) ⟨rfl, rfl⟩ rfl rfl (by exact Nat.le_of_ble_eq_true rfl) recvM (c_fl hM8 (fun τ6 hB6 => ?_))
            refine g_aload_n B dX6_atom0_71 rfl ?_
            refine g_dup B dX6_atom0_72 rfl ?_
            refine g_getI (T := TX6) (N := 42) B dX6_atom0_73 (by decide) (by rfl) (inq inlX6) rfl 24 (by decide) (mq f_X6_171) (by rfl) ?_
            refine g_iconst (v := (1)) B dX6_atom0_76 (by decide) ?_
            refine g_isub B dX6_atom0_77 ?_
            refine g_putI (T := TX6) (N := 42) B dX6_atom0_78 (by decide) (by rfl) (inq inlX6) rfl 24 (by decide) (mq f_X6_171) tyX6_ok nmX6 rfl ⟨rfl, rfl⟩ (by rfl) ?_
            refine g_aload_n B dX6_atom0_81 rfl ?_
            refine g_getI (T := TX6) (N := 42) B dX6_atom0_82 (by decide) (by rfl) (inq inlX6) rfl 25 (by decide) (mq f_X6_161) (by rfl) ?_
            refine g_if_ne (tgt := 161) B dX6_atom0_85 (by decide) (fun c85 => ?_) (fun c85 => ?_)
            · refine g_iload_n B dX6_atom0_161 rfl ?_
              refine g_ireti B dX6_atom0_162 ?_
              first
                | exact absurd c15 (by decide)
                | exact absurd c50 (by decide)
                | exact absurd hB9.2.1 (fun h => absurd (c147.symm.trans h) (by decide))
                | exact absurd hM.2.1 c147
                | (refine hK1 f ?_ _ _ hB8.close
                   unfold pAtom
                   rw [if_neg (fun h => by rw [b1_n0.mp c43] at h; exact absurd h (by decide)), if_neg (b1_0.mp c8), if_pos (b1_n0.mp c43)]
                   show (match pEith (tT τ0 t n) (tV τ0 t n) (pLev (tT τ0 t n) (tV τ0 t n) 4) (a + 1) with | .inl f => _ | .inr (cs, a2) => _) = _
                   rw [hf])
                | (refine hK1 a2 ?_ _ _ hB6.close
                   unfold pAtom
                   rw [if_neg (fun h => by rw [b1_n0.mp c43] at h; exact absurd h (by decide)), if_neg (b1_0.mp c8), if_pos (b1_n0.mp c43)]
                   show (match pEith (tT τ0 t n) (tV τ0 t n) (pLev (tT τ0 t n) (tV τ0 t n) 4) (a + 1) with | .inl f => _ | .inr (cs, a2) => _) = _
                   rw [hf]
                   show (if tT τ0 t n a2 = 41 then _ else _) = _
                   rw [if_neg (b1_0.mp c64)])
                | exact absurd (MS.close (by decide) hM8).2.1 c85
                | exact hg _ _ hB9 (fun h => h.elim (fun h => c107 (hM.A.num.1.mpr h)) (fun h => h3 h)) (b1_0.mp c8) (b1_0.mp c43)
            · first
                | exact absurd (c85.symm.trans hB8.close.2.1) (by decide)
                | exact absurd (c85.symm.trans hB6.close.2.1) (by decide)
                | (refine g_aload_n B dX6_atom0_88 rfl ?_
                   refine g_callVv (C := RX6) (As := []) B dX6_atom0_89 (gc1 g_X6_177) (by rfl) ⟨rfl, hd_X6_next⟩ (by exact ⟨Nat.le_of_ble_eq_true rfl, Nat.le_of_ble_eq_true rfl⟩) ⟨rfl, rfl⟩ rfl rfl (by exact Nat.le_of_ble_eq_true rfl) recvM (c_nx hR (MS.close (by decide) hM8) (isS_0 (by rw [b1_n0.mp c64]; decide)) (fun τ9 hM9 => ?_))
                   refine g_goto (tgt := 161) B dX6_atom0_92 (by decide) ?_
                   refine g_iload_n B dX6_atom0_161 rfl ?_
                   refine g_ireti B dX6_atom0_162 ?_
                   refine hK2 cs (a2 + 1) ?_ _ hM9
                   unfold pAtom
                   rw [if_neg (fun h => by rw [b1_n0.mp c43] at h; exact absurd h (by decide)), if_neg (b1_0.mp c8), if_pos (b1_n0.mp c43)]
                   show (match pEith (tT τ0 t n) (tV τ0 t n) (pLev (tT τ0 t n) (tV τ0 t n) 4) (a + 1) with | .inl f => _ | .inr (cs, a2) => _) = _
                   rw [hf]
                   show (if tT τ0 t n a2 = 41 then _ else _) = _
                   rw [if_pos (b1_n0.mp c64)])
        · refine g_istore_n B dX6_atom0_57 (by decide) rfl ?_
          refine g_aload_n B dX6_atom0_58 rfl ?_
          refine g_bipush (v := (41)) B dX6_atom0_59 (by decide) ?_
          first
            | refine g_callVi (C := RX6) (As := [.int _]) B dX6_atom0_61 (gc1 g_X6_202) (by rfl) ⟨rfl, hd_X6_isSign⟩ (by exact ⟨Nat.le_of_ble_eq_true rfl, Nat.le_of_ble_eq_true rfl⟩) ⟨rfl, rfl⟩ rfl rfl (by exact Nat.le_of_ble_eq_true rfl) recvM (c_sgnB hB8 ?_)
            | refine g_callVi (C := RX6) (As := [.int _]) B dX6_atom0_61 (gc1 g_X6_202) (by rfl) ⟨rfl, hd_X6_isSign⟩ (by exact ⟨Nat.le_of_ble_eq_true rfl, Nat.le_of_ble_eq_true rfl⟩) ⟨rfl, rfl⟩ rfl rfl (by exact Nat.le_of_ble_eq_true rfl) recvM (c_sgn hM8 (show isS 41 by decide) ?_)
          refine g_if_ne (tgt := 71) B dX6_atom0_64 (by decide) (fun c64 => ?_) (fun c64 => ?_)
          · refine g_aload_n B dX6_atom0_71 rfl ?_
            refine g_dup B dX6_atom0_72 rfl ?_
            refine g_getI (T := TX6) (N := 42) B dX6_atom0_73 (by decide) (by rfl) (inq inlX6) rfl 24 (by decide) (mq f_X6_171) (by rfl) ?_
            refine g_iconst (v := (1)) B dX6_atom0_76 (by decide) ?_
            refine g_isub B dX6_atom0_77 ?_
            refine g_putI (T := TX6) (N := 42) B dX6_atom0_78 (by decide) (by rfl) (inq inlX6) rfl 24 (by decide) (mq f_X6_171) tyX6_ok nmX6 rfl ⟨rfl, rfl⟩ (by rfl) ?_
            refine g_aload_n B dX6_atom0_81 rfl ?_
            refine g_getI (T := TX6) (N := 42) B dX6_atom0_82 (by decide) (by rfl) (inq inlX6) rfl 25 (by decide) (mq f_X6_161) (by rfl) ?_
            refine g_if_ne (tgt := 161) B dX6_atom0_85 (by decide) (fun c85 => ?_) (fun c85 => ?_)
            · refine g_iload_n B dX6_atom0_161 rfl ?_
              refine g_ireti B dX6_atom0_162 ?_
              first
                | exact absurd c15 (by decide)
                | exact absurd c50 (by decide)
                | exact absurd hB9.2.1 (fun h => absurd (c147.symm.trans h) (by decide))
                | exact absurd hM.2.1 c147
                | (refine hK1 f ?_ _ _ hB8.close
                   unfold pAtom
                   rw [if_neg (fun h => by rw [b1_n0.mp c43] at h; exact absurd h (by decide)), if_neg (b1_0.mp c8), if_pos (b1_n0.mp c43)]
                   show (match pEith (tT τ0 t n) (tV τ0 t n) (pLev (tT τ0 t n) (tV τ0 t n) 4) (a + 1) with | .inl f => _ | .inr (cs, a2) => _) = _
                   rw [hf])
                | (refine hK1 a2 ?_ _ _ hB6.close
                   unfold pAtom
                   rw [if_neg (fun h => by rw [b1_n0.mp c43] at h; exact absurd h (by decide)), if_neg (b1_0.mp c8), if_pos (b1_n0.mp c43)]
                   show (match pEith (tT τ0 t n) (tV τ0 t n) (pLev (tT τ0 t n) (tV τ0 t n) 4) (a + 1) with | .inl f => _ | .inr (cs, a2) => _) = _
                   rw [hf]
                   show (if tT τ0 t n a2 = 41 then _ else _) = _
                   rw [if_neg (b1_0.mp c64)])
                | exact absurd (MS.close (by decide) hM8).2.1 c85
                | exact hg _ _ hB9 (fun h => h.elim (fun h => c107 (hM.A.num.1.mpr h)) (fun h => h3 h)) (b1_0.mp c8) (b1_0.mp c43)
            · first
                | exact absurd (c85.symm.trans hB8.close.2.1) (by decide)
                | exact absurd (c85.symm.trans hB6.close.2.1) (by decide)
                | (refine g_aload_n B dX6_atom0_88 rfl ?_
                   refine g_callVv (C := RX6) (As := []) B dX6_atom0_89 (gc1 g_X6_177) (by rfl) ⟨rfl, hd_X6_next⟩ (by exact ⟨Nat.le_of_ble_eq_true rfl, Nat.le_of_ble_eq_true rfl⟩) ⟨rfl, rfl⟩ rfl rfl (by exact Nat.le_of_ble_eq_true rfl) recvM (c_nx hR (MS.close (by decide) hM8) (isS_0 (by rw [b1_n0.mp c64]; decide)) (fun τ9 hM9 => ?_))
                   refine g_goto (tgt := 161) B dX6_atom0_92 (by decide) ?_
                   refine g_iload_n B dX6_atom0_161 rfl ?_
                   refine g_ireti B dX6_atom0_162 ?_
                   refine hK2 cs (a2 + 1) ?_ _ hM9
                   unfold pAtom
                   rw [if_neg (fun h => by rw [b1_n0.mp c43] at h; exact absurd h (by decide)), if_neg (b1_0.mp c8), if_pos (b1_n0.mp c43)]
                   show (match pEith (tT τ0 t n) (tV τ0 t n) (pLev (tT τ0 t n) (tV τ0 t n) 4) (a + 1) with | .inl f => _ | .inr (cs, a2) => _) = _
                   rw [hf]
                   show (if tT τ0 t n a2 = 41 then _ else _) = _
                   rw [if_pos (b1_n0.mp c64)])
          · refine g_aload_n B dX6_atom0_67 rfl ?_
            first
              | refine g_callVv (C := RX6) (As := []) B dX6_atom0_68 (gc1 g_X6_174) (by rfl) ⟨rfl, hd_X6_fail⟩ (by exact ⟨Nat.le_of_ble_eq_true rfl, Nat.le_of_ble_eq_true rfl⟩) ⟨rfl, rfl⟩ rfl rfl (by exact Nat.le_of_ble_eq_true rfl) recvM (c_flB hB8 ?_)
              | refine g_callVv (C := RX6) (As := []) B dX6_atom0_68 (gc1 g_X6_174) (by rfl) ⟨rfl, hd_X6_fail⟩ (by exact ⟨Nat.le_of_ble_eq_true rfl, Nat.le_of_ble_eq_true rfl⟩) ⟨rfl, rfl⟩ rfl rfl (by exact Nat.le_of_ble_eq_true rfl) recvM (c_fl hM8 (fun τ6 hB6 => ?_))
            refine g_aload_n B dX6_atom0_71 rfl ?_
            refine g_dup B dX6_atom0_72 rfl ?_
            refine g_getI (T := TX6) (N := 42) B dX6_atom0_73 (by decide) (by rfl) (inq inlX6) rfl 24 (by decide) (mq f_X6_171) (by rfl) ?_
            refine g_iconst (v := (1)) B dX6_atom0_76 (by decide) ?_
            refine g_isub B dX6_atom0_77 ?_
            refine g_putI (T := TX6) (N := 42) B dX6_atom0_78 (by decide) (by rfl) (inq inlX6) rfl 24 (by decide) (mq f_X6_171) tyX6_ok nmX6 rfl ⟨rfl, rfl⟩ (by rfl) ?_
            refine g_aload_n B dX6_atom0_81 rfl ?_
            refine g_getI (T := TX6) (N := 42) B dX6_atom0_82 (by decide) (by rfl) (inq inlX6) rfl 25 (by decide) (mq f_X6_161) (by rfl) ?_
            refine g_if_ne (tgt := 161) B dX6_atom0_85 (by decide) (fun c85 => ?_) (fun c85 => ?_)
            · refine g_iload_n B dX6_atom0_161 rfl ?_
              refine g_ireti B dX6_atom0_162 ?_
              first
                | exact absurd c15 (by decide)
                | exact absurd c50 (by decide)
                | exact absurd hB9.2.1 (fun h => absurd (c147.symm.trans h) (by decide))
                | exact absurd hM.2.1 c147
                | (refine hK1 f ?_ _ _ hB8.close
                   unfold pAtom
                   rw [if_neg (fun h => by rw [b1_n0.mp c43] at h; exact absurd h (by decide)), if_neg (b1_0.mp c8), if_pos (b1_n0.mp c43)]
                   show (match pEith (tT τ0 t n) (tV τ0 t n) (pLev (tT τ0 t n) (tV τ0 t n) 4) (a + 1) with | .inl f => _ | .inr (cs, a2) => _) = _
                   rw [hf])
                | (refine hK1 a2 ?_ _ _ hB6.close
                   unfold pAtom
                   rw [if_neg (fun h => by rw [b1_n0.mp c43] at h; exact absurd h (by decide)), if_neg (b1_0.mp c8), if_pos (b1_n0.mp c43)]
                   show (match pEith (tT τ0 t n) (tV τ0 t n) (pLev (tT τ0 t n) (tV τ0 t n) 4) (a + 1) with | .inl f => _ | .inr (cs, a2) => _) = _
                   rw [hf]
                   show (if tT τ0 t n a2 = 41 then _ else _) = _
                   rw [if_neg (b1_0.mp c64)])
                | exact absurd (MS.close (by decide) hM8).2.1 c85
                | exact hg _ _ hB9 (fun h => h.elim (fun h => c107 (hM.A.num.1.mpr h)) (fun h => h3 h)) (b1_0.mp c8) (b1_0.mp c43)
            · first
                | exact absurd (c85.symm.trans hB8.close.2.1) (by decide)
                | exact absurd (c85.symm.trans hB6.close.2.1) (by decide)
                | (refine g_aload_n B dX6_atom0_88 rfl ?_
                   refine g_callVv (C := RX6) (As := []) B dX6_atom0_89 (gc1 g_X6_177) (by rfl) ⟨rfl, hd_X6_next⟩ (by exact ⟨Nat.le_of_ble_eq_true rfl, Nat.le_of_ble_eq_true rfl⟩) ⟨rfl, rfl⟩ rfl rfl (by exact Nat.le_of_ble_eq_true rfl) recvM (c_nx hR (MS.close (by decide) hM8) (isS_0 (by rw [b1_n0.mp c64]; decide)) (fun τ9 hM9 => ?_))
                   refine g_goto (tgt := 161) B dX6_atom0_92 (by decide) ?_
                   refine g_iload_n B dX6_atom0_161 rfl ?_
                   refine g_ireti B dX6_atom0_162 ?_
                   refine hK2 cs (a2 + 1) ?_ _ hM9
                   unfold pAtom
                   rw [if_neg (fun h => by rw [b1_n0.mp c43] at h; exact absurd h (by decide)), if_neg (b1_0.mp c8), if_pos (b1_n0.mp c43)]
                   show (match pEith (tT τ0 t n) (tV τ0 t n) (pLev (tT τ0 t n) (tV τ0 t n) 4) (a + 1) with | .inl f => _ | .inr (cs, a2) => _) = _
                   rw [hf]
                   show (if tT τ0 t n a2 = 41 then _ else _) = _
                   rw [if_pos (b1_n0.mp c64)])
  · refine g_aload_n B dX6_atom0_11 rfl ?_
    refine g_callVi (C := RX6) (As := []) B dX6_atom0_12 (gc1 g_X6_205) (by rfl) ⟨rfl, hd_X6_opens⟩ (by exact ⟨Nat.le_of_ble_eq_true rfl, Nat.le_of_ble_eq_true rfl⟩) ⟨rfl, rfl⟩ rfl rfl (by exact Nat.le_of_ble_eq_true rfl) recvM (c_opn hR hM (by decide) (isS_0 (by rw [b1_n0.mp c8]; decide)) (fun τ7 hM7 => ?_))
    refine g_if_eq (tgt := 161) B dX6_atom0_15 (by decide) (fun c15 => ?_) (fun c15 => ?_)
    · exact absurd c15 (by decide)
    · refine g_aload_n B dX6_atom0_18 rfl ?_
      refine g_callVi (C := RX6) (As := []) B dX6_atom0_19 (gc1 g_X6_289) (by rfl) ⟨rfl, hd_X6_atom1⟩ (by exact ⟨Nat.le_of_ble_eq_true rfl, Nat.le_of_ble_eq_true rfl⟩) ⟨rfl, rfl⟩ rfl rfl (by exact Nat.le_of_ble_eq_true rfl) recvM (c_atom1 hR hM7 (fun f hf v8 τ8 hB8 => ?_) (fun cs a2 hf τ8 hM8 => ?_))
      · refine g_ineg B dX6_atom0_22 ?_
        refine g_istore_n B dX6_atom0_23 (by decide) rfl ?_
        refine g_aload_n B dX6_atom0_24 rfl ?_
        refine g_dup B dX6_atom0_25 rfl ?_
        refine g_getI (T := TX6) (N := 42) B dX6_atom0_26 (by decide) (by rfl) (inq inlX6) rfl 24 (by decide) (mq f_X6_171) (by rfl) ?_
        refine g_iconst (v := (1)) B dX6_atom0_29 (by decide) ?_
        refine g_isub B dX6_atom0_30 ?_
        refine g_putI (T := TX6) (N := 42) B dX6_atom0_31 (by decide) (by rfl) (inq inlX6) rfl 24 (by decide) (mq f_X6_171) tyX6_ok nmX6 rfl ⟨rfl, rfl⟩ (by rfl) ?_
        refine g_goto (tgt := 161) B dX6_atom0_34 (by decide) ?_
        refine g_iload_n B dX6_atom0_161 rfl ?_
        refine g_ireti B dX6_atom0_162 ?_
        first
          | (refine hK1 f ?_ _ _ hB8.close
             unfold pAtom
             rw [if_neg (fun h => by rw [b1_n0.mp c8] at h; exact absurd h (by decide)), if_pos (b1_n0.mp c8)]
             show (match pAtom (tT τ0 t n) (tV τ0 t n) (pLev (tT τ0 t n) (tV τ0 t n) 4) (a + 1) with | .inl f => _ | .inr (cs, a2) => _) = _
             rw [hf])
          | (refine kk ?_ (hK2 (cs ++ [-22]) a2 (by
               unfold pAtom
               rw [if_neg (fun h => by rw [b1_n0.mp c8] at h; exact absurd h (by decide)), if_pos (b1_n0.mp c8)]
               show (match pAtom (tT τ0 t n) (tV τ0 t n) (pLev (tT τ0 t n) (tV τ0 t n) 4) (a + 1) with | .inl f => _ | .inr (cs, a2) => _) = _
               rw [hf]) _ (MS.close (by decide) hM8))
             exact (evc_neg (pAtom_ok (tT_TV hR) (pLev_ok (tT_TV hR) _) _ _ _ hf).1).symm)
      · refine g_ineg B dX6_atom0_22 ?_
        refine g_istore_n B dX6_atom0_23 (by decide) rfl ?_
        refine g_aload_n B dX6_atom0_24 rfl ?_
        refine g_dup B dX6_atom0_25 rfl ?_
        refine g_getI (T := TX6) (N := 42) B dX6_atom0_26 (by decide) (by rfl) (inq inlX6) rfl 24 (by decide) (mq f_X6_171) (by rfl) ?_
        refine g_iconst (v := (1)) B dX6_atom0_29 (by decide) ?_
        refine g_isub B dX6_atom0_30 ?_
        refine g_putI (T := TX6) (N := 42) B dX6_atom0_31 (by decide) (by rfl) (inq inlX6) rfl 24 (by decide) (mq f_X6_171) tyX6_ok nmX6 rfl ⟨rfl, rfl⟩ (by rfl) ?_
        refine g_goto (tgt := 161) B dX6_atom0_34 (by decide) ?_
        refine g_iload_n B dX6_atom0_161 rfl ?_
        refine g_ireti B dX6_atom0_162 ?_
        first
          | (refine hK1 f ?_ _ _ hB8.close
             unfold pAtom
             rw [if_neg (fun h => by rw [b1_n0.mp c8] at h; exact absurd h (by decide)), if_pos (b1_n0.mp c8)]
             show (match pAtom (tT τ0 t n) (tV τ0 t n) (pLev (tT τ0 t n) (tV τ0 t n) 4) (a + 1) with | .inl f => _ | .inr (cs, a2) => _) = _
             rw [hf])
          | (refine kk ?_ (hK2 (cs ++ [-22]) a2 (by
               unfold pAtom
               rw [if_neg (fun h => by rw [b1_n0.mp c8] at h; exact absurd h (by decide)), if_pos (b1_n0.mp c8)]
               show (match pAtom (tT τ0 t n) (tV τ0 t n) (pLev (tT τ0 t n) (tV τ0 t n) 4) (a + 1) with | .inl f => _ | .inr (cs, a2) => _) = _
               rw [hf]) _ (MS.close (by decide) hM8))
             exact (evc_neg (pAtom_ok (tT_TV hR) (pLev_ok (tT_TV hR) _) _ _ _ hf).1).symm)
set_option maxRecDepth 100000 in
set_option maxHeartbeats 4000000 in
theorem lB_term0 {Z : LZ} {ad : Nat → Nat} {X : CX} {K : Int32 → St → Prop} {τ0 τ : St} {t n f : Nat} {v : Int32} (B : Amb lyM Z ad (rmk 35) X cX6_term0 wsX6_term0 RX6 2 (some .int)) (hB : MB τ0 t n f τ) (hK : K v τ) : GG lyM Z ad (rmk 35) X (rI K) 5 [some (.ref (ad 0)), some (.int v)] [] τ := by
  refine g_aload_n B dX6_term0_5 rfl ?_
  refine g_bipush (v := (42)) B dX6_term0_6 (by decide) ?_
  refine g_callVi (C := RX6) (As := [.int _]) B dX6_term0_8 (gc1 g_X6_202) (by rfl) ⟨rfl, hd_X6_isSign⟩ (by exact ⟨Nat.le_of_ble_eq_true rfl, Nat.le_of_ble_eq_true rfl⟩) ⟨rfl, rfl⟩ rfl rfl (by exact Nat.le_of_ble_eq_true rfl) recvM (c_sgnB hB ?_)
  refine g_if_eq (tgt := 28) B dX6_term0_11 (by decide) (fun c11 => ?_) (fun c11 => ?_)
  · refine g_iload_n B dX6_term0_28 rfl ?_
    refine g_ireti B dX6_term0_29 ?_
    exact hK
  · exact absurd rfl c11
set_option maxRecDepth 100000 in
set_option maxHeartbeats 4000000 in
theorem l_term0 {Z : LZ} {ad : Nat → Nat} {X : CX} {K : Int32 → St → Prop} {τ0 : St} {t n : Nat} (B : Amb lyM Z ad (rmk 35) X cX6_term0 wsX6_term0 RX6 2 (some .int)) (hR : RB τ0 t n) : ∀ (k : Nat) (cs : List Int32) (b : Nat) (τ : St), 160 ≤ b + k → WF cs → MS τ0 t n 0 b τ → (∀ f, pLoop (pAtom (tT τ0 t n) (tV τ0 t n) (pLev (tT τ0 t n) (tV τ0 t n) 5)) (opMul (tT τ0 t n)) (k + 1) cs b = .inl f → ∀ v τ', MB τ0 t n f τ' → K v τ') → (∀ ds a2, pLoop (pAtom (tT τ0 t n) (tV τ0 t n) (pLev (tT τ0 t n) (tV τ0 t n) 5)) (opMul (tT τ0 t n)) (k + 1) cs b = .inr (ds, a2) → ∀ τ', MS τ0 t n 0 a2 τ' → K (evc (eM τ0) ds) τ') → GG lyM Z ad (rmk 35) X (rI K) 5 [some (.ref (ad 0)), some (.int (evc (eM τ0) cs))] [] τ := by
  intro k
  induction k using Nat.strongRecOn with
  | ind k ih =>
  intro cs b τ hk hw hM hK1 hK2
  have hn := hR.2.2.2
  unfold pLoop at hK1 hK2
  refine g_aload_n B dX6_term0_5 rfl ?_
  refine g_bipush (v := (42)) B dX6_term0_6 (by decide) ?_
  refine g_callVi (C := RX6) (As := [.int _]) B dX6_term0_8 (gc1 g_X6_202) (by rfl) ⟨rfl, hd_X6_isSign⟩ (by exact ⟨Nat.le_of_ble_eq_true rfl, Nat.le_of_ble_eq_true rfl⟩) ⟨rfl, rfl⟩ rfl rfl (by exact Nat.le_of_ble_eq_true rfl) recvM (c_sgn hM (show isS 42 by decide) ?_)
  refine g_if_eq (tgt := 28) B dX6_term0_11 (by decide) (fun c11 => ?_) (fun c11 => ?_)
  · refine g_iload_n B dX6_term0_28 rfl ?_
    refine g_ireti B dX6_term0_29 ?_
    have hop : opMul (tT τ0 t n) b = none := if_neg (b1_0.mp c11)
    rw [hop] at hK2
    exact hK2 _ _ rfl τ hM
  · have hT := b1_n0.mp c11
    have hop : opMul (tT τ0 t n) b = some (-17) := if_pos hT
    have hb := tT_lt hR (show tT τ0 t n b ≠ 0 by rw [hT]; decide)
    rw [hop] at hK1 hK2
    dsimp only at hK1 hK2
    refine g_aload_n B dX6_term0_14 rfl ?_
    refine g_callVv (C := RX6) (As := []) B dX6_term0_15 (gc1 g_X6_177) (by rfl) ⟨rfl, hd_X6_next⟩ (by exact ⟨Nat.le_of_ble_eq_true rfl, Nat.le_of_ble_eq_true rfl⟩) ⟨rfl, rfl⟩ rfl rfl (by exact Nat.le_of_ble_eq_true rfl) recvM (c_nx hR hM (isS_0 (by rw [hT]; decide)) (fun τ2 hM2 => ?_))
    refine g_iload_n B dX6_term0_18 rfl ?_
    refine g_aload_n B dX6_term0_19 rfl ?_
    refine g_callVi (C := RX6) (As := []) B dX6_term0_20 (gc1 g_X6_307) (by rfl) ⟨rfl, hd_X6_atom0⟩ (by exact ⟨Nat.le_of_ble_eq_true rfl, Nat.le_of_ble_eq_true rfl⟩) ⟨rfl, rfl⟩ rfl rfl (by exact Nat.le_of_ble_eq_true rfl) recvM (c_atom0 hR hM2 (fun f hf v8 τ8 hB8 => ?_) (fun cs2 a2 hf τ8 hM8 => ?_))
    · rw [hf] at hK1; dsimp only at hK1
      refine g_imul B dX6_term0_23 ?_
      refine g_istore_n B dX6_term0_24 (by decide) rfl ?_
      refine g_goto (tgt := 5) B dX6_term0_25 (by decide) ?_
      first
        | exact lB_term0 B hB8 (hK1 f rfl _ _ hB8)
        | (rw [evc_mul hw hw2]
           obtain ⟨k', rfl⟩ : ∃ k', k = k' + 1 := ⟨k - 1, by omega⟩
           exact ih k' (by omega) (cs ++ cs2 ++ [-17]) a2 τ8 (by omega) (hw.bin hw2 (by decide)) hM8 hK1 hK2)
    · rw [hf] at hK1 hK2; dsimp only at hK1 hK2; obtain ⟨hw2, hlt2⟩ := pAtom_ok (tT_TV hR) (pLev_ok (tT_TV hR) _) _ _ _ hf
      refine g_imul B dX6_term0_23 ?_
      refine g_istore_n B dX6_term0_24 (by decide) rfl ?_
      refine g_goto (tgt := 5) B dX6_term0_25 (by decide) ?_
      first
        | exact lB_term0 B hB8 (hK1 f rfl _ _ hB8)
        | (rw [evc_mul hw hw2]
           obtain ⟨k', rfl⟩ : ∃ k', k = k' + 1 := ⟨k - 1, by omega⟩
           exact ih k' (by omega) (cs ++ cs2 ++ [-17]) a2 τ8 (by omega) (hw.bin hw2 (by decide)) hM8 hK1 hK2)
set_option maxRecDepth 100000 in
set_option maxHeartbeats 4000000 in
theorem c_term0 {Z : LZ} {ad : Nat → Nat} {τ0 τ : St} {K : Int32 → St → Prop} {t n a : Nat} (hR : RB τ0 t n) (hM : MS τ0 t n 0 a τ) (hK1 : ∀ f, pTerm (tT τ0 t n) (tV τ0 t n) (pLev (tT τ0 t n) (tV τ0 t n) 5) a = .inl f → ∀ v τ', MB τ0 t n f τ' → K v τ') (hK2 : ∀ cs a2, pTerm (tT τ0 t n) (tV τ0 t n) (pLev (tT τ0 t n) (tV τ0 t n) 5) a = .inr (cs, a2) → ∀ τ', MS τ0 t n 0 a2 τ' → K (evc (eM τ0) cs) τ') : CC lyM Z ad yX6_term0 wsX6_term0 (rmk 35) [.ref (ad 0)] τ (rI K) := by
  refine CC.of (cc := cX6_term0) (nL := 2) (ret := (some .int)) rfl rfl ⟨rfl, rfl⟩ (by exact Nat.le_of_ble_eq_true rfl) ?_
  intro X B
  change GG _ _ _ _ X _ 0 [some (.ref (ad 0)), none] [] _
  change Amb _ _ _ _ X _ _ RX6 _ _ at B
  unfold pTerm pSeq at hK1 hK2
  refine g_aload_n B dX6_term0_0 rfl ?_
  refine g_callVi (C := RX6) (As := []) B dX6_term0_1 (gc1 g_X6_307) (by rfl) ⟨rfl, hd_X6_atom0⟩ (by exact ⟨Nat.le_of_ble_eq_true rfl, Nat.le_of_ble_eq_true rfl⟩) ⟨rfl, rfl⟩ rfl rfl (by exact Nat.le_of_ble_eq_true rfl) recvM (c_atom0 hR hM (fun f hf v8 τ8 hB8 => ?_) (fun cs a1 hf τ8 hM8 => ?_))
  · rw [hf] at hK1; dsimp only at hK1
    refine g_istore_n B dX6_term0_4 (by decide) rfl ?_
    first
      | exact lB_term0 B hB8 (hK1 f rfl _ _ hB8)
      | exact l_term0 B hR 199 cs a1 τ8 (by omega) (pAtom_ok (tT_TV hR) (pLev_ok (tT_TV hR) _) _ _ _ hf).1 hM8 hK1 hK2
  · rw [hf] at hK1 hK2; dsimp only at hK1 hK2
    refine g_istore_n B dX6_term0_4 (by decide) rfl ?_
    first
      | exact lB_term0 B hB8 (hK1 f rfl _ _ hB8)
      | exact l_term0 B hR 199 cs a1 τ8 (by omega) (pAtom_ok (tT_TV hR) (pLev_ok (tT_TV hR) _) _ _ _ hf).1 hM8 hK1 hK2
set_option maxRecDepth 100000 in
set_option maxHeartbeats 4000000 in
theorem lB_added0 {Z : LZ} {ad : Nat → Nat} {X : CX} {K : Int32 → St → Prop} {τ0 τ : St} {t n f : Nat} {v : Int32} (B : Amb lyM Z ad (rmk 36) X cX6_added0 wsX6_added0 RX6 4 (some .int)) (hB : MB τ0 t n f τ) (hK : K v τ) : GG lyM Z ad (rmk 36) X (rI K) 5 [some (.ref (ad 0)), some (.int v), none, none] [] τ := by
  refine g_aload_n B dX6_added0_5 rfl ?_
  refine g_bipush (v := (43)) B dX6_added0_6 (by decide) ?_
  refine g_callVi (C := RX6) (As := [.int _]) B dX6_added0_8 (gc1 g_X6_202) (by rfl) ⟨rfl, hd_X6_isSign⟩ (by exact ⟨Nat.le_of_ble_eq_true rfl, Nat.le_of_ble_eq_true rfl⟩) ⟨rfl, rfl⟩ rfl rfl (by exact Nat.le_of_ble_eq_true rfl) recvM (c_sgnB hB ?_)
  refine g_if_ne (tgt := 23) B dX6_added0_11 (by decide) (fun c11 => ?_) (fun c11 => ?_)
  · first | exact absurd rfl c11 | exact absurd rfl c20
  · refine g_aload_n B dX6_added0_14 rfl ?_
    refine g_bipush (v := (45)) B dX6_added0_15 (by decide) ?_
    refine g_callVi (C := RX6) (As := [.int _]) B dX6_added0_17 (gc1 g_X6_202) (by rfl) ⟨rfl, hd_X6_isSign⟩ (by exact ⟨Nat.le_of_ble_eq_true rfl, Nat.le_of_ble_eq_true rfl⟩) ⟨rfl, rfl⟩ rfl rfl (by exact Nat.le_of_ble_eq_true rfl) recvM (c_sgnB hB ?_)
    refine g_if_eq (tgt := 66) B dX6_added0_20 (by decide) (fun c20 => ?_) (fun c20 => ?_)
    · refine g_iload_n B dX6_added0_66 rfl ?_
      refine g_ireti B dX6_added0_67 ?_
      exact hK
    · first | exact absurd rfl c11 | exact absurd rfl c20
set_option maxRecDepth 100000 in
set_option maxHeartbeats 4000000 in
theorem l_added0 {Z : LZ} {ad : Nat → Nat} {X : CX} {K : Int32 → St → Prop} {τ0 : St} {t n : Nat} (B : Amb lyM Z ad (rmk 36) X cX6_added0 wsX6_added0 RX6 4 (some .int)) (hR : RB τ0 t n) : ∀ (k : Nat) (cs : List Int32) (b : Nat) (τ : St), 160 ≤ b + k → WF cs → MS τ0 t n 0 b τ → (∀ f, pLoop (pTerm (tT τ0 t n) (tV τ0 t n) (pLev (tT τ0 t n) (tV τ0 t n) 5)) (opAdd (tT τ0 t n)) (k + 1) cs b = .inl f → ∀ v τ', MB τ0 t n f τ' → K v τ') → (∀ ds a2, pLoop (pTerm (tT τ0 t n) (tV τ0 t n) (pLev (tT τ0 t n) (tV τ0 t n) 5)) (opAdd (tT τ0 t n)) (k + 1) cs b = .inr (ds, a2) → ∀ τ', MS τ0 t n 0 a2 τ' → K (evc (eM τ0) ds) τ') → GG lyM Z ad (rmk 36) X (rI K) 5 [some (.ref (ad 0)), some (.int (evc (eM τ0) cs)), none, none] [] τ := by
  intro k
  induction k using Nat.strongRecOn with
  | ind k ih =>
  intro cs b τ hk hw hM hK1 hK2
  have hn := hR.2.2.2
  unfold pLoop at hK1 hK2
  refine g_aload_n B dX6_added0_5 rfl ?_
  refine g_bipush (v := (43)) B dX6_added0_6 (by decide) ?_
  refine g_callVi (C := RX6) (As := [.int _]) B dX6_added0_8 (gc1 g_X6_202) (by rfl) ⟨rfl, hd_X6_isSign⟩ (by exact ⟨Nat.le_of_ble_eq_true rfl, Nat.le_of_ble_eq_true rfl⟩) ⟨rfl, rfl⟩ rfl rfl (by exact Nat.le_of_ble_eq_true rfl) recvM (c_sgn hM (show isS 43 by decide) ?_)
  refine g_if_ne (tgt := 23) B dX6_added0_11 (by decide) (fun c11 => ?_) (fun c11 => ?_)
  · have hT : tT τ0 t n b = 43 ∨ tT τ0 t n b = 45 := by first | exact Or.inl (b1_n0.mp c11) | exact Or.inr (b1_n0.mp c20)
    have hT0 : isS (tT τ0 t n b) := by rcases hT with h | h <;> rw [h] <;> decide
    have hb := tT_lt hR (isS_0 hT0).1
    have hwv := hM.w hT0
    have h43 : τ.2.1 = 43 ↔ tT τ0 t n b = 43 := by
      rw [hwv]
      constructor
      · intro h
        have := congrArg Int64.toInt h
        rw [i_long] at this
        exact i_eq.mpr this
      · intro h
        rw [h]; rfl
    refine g_aload_n B dX6_added0_23 rfl ?_
    refine g_getL (T := TX6) (N := 42) B dX6_added0_24 (by decide) (by rfl) (inq inlX6) rfl 23 (by decide) (mq f_X6_155) (by rfl) ?_
    refine g_ldc2 (v := (43)) B dX6_added0_27 (mq k_X6_219) ?_
    refine g_lcmp B dX6_added0_30 ?_
    refine g_if_ne (tgt := 38) B dX6_added0_31 (by decide) (fun c31 => ?_) (fun c31 => ?_)
    · refine g_iconst (v := (0)) B dX6_added0_38 (by decide) ?_
      refine g_istore_n B dX6_added0_39 (by decide) rfl ?_
      refine g_aload_n B dX6_added0_40 rfl ?_
      refine g_callVv (C := RX6) (As := []) B dX6_added0_41 (gc1 g_X6_177) (by rfl) ⟨rfl, hd_X6_next⟩ (by exact ⟨Nat.le_of_ble_eq_true rfl, Nat.le_of_ble_eq_true rfl⟩) ⟨rfl, rfl⟩ rfl rfl (by exact Nat.le_of_ble_eq_true rfl) recvM (c_nx hR hM (isS_0 hT0) (fun τ2 hM2 => ?_))
      refine g_aload_n B dX6_added0_44 rfl ?_
      refine g_callVi (C := RX6) (As := []) B dX6_added0_45 (gc1 g_X6_310) (by rfl) ⟨rfl, hd_X6_term0⟩ (by exact ⟨Nat.le_of_ble_eq_true rfl, Nat.le_of_ble_eq_true rfl⟩) ⟨rfl, rfl⟩ rfl rfl (by exact Nat.le_of_ble_eq_true rfl) recvM (c_term0 hR hM2 (fun f hf v8 τ8 hB8 => ?_) (fun cs2 a2 hf τ8 hM8 => ?_))
      · skip
        refine g_istore_n B dX6_added0_48 (by decide) rfl ?_
        refine g_iload_n B dX6_added0_49 rfl ?_
        refine g_if_eq (tgt := 59) B dX6_added0_50 (by decide) (fun c50 => ?_) (fun c50 => ?_)
        · refine g_iload_n B dX6_added0_59 rfl ?_
          refine g_iload_n B dX6_added0_60 rfl ?_
          refine g_isub B dX6_added0_61 ?_
          refine g_istore_n B dX6_added0_62 (by decide) rfl ?_
          refine g_goto (tgt := 5) B dX6_added0_63 (by decide) ?_
          first
            | exact absurd rfl c50
            | exact absurd c50 (by decide)
            | (have hop : opAdd (tT τ0 t n) b = some (-15) := if_pos (h43.mp (l_cmp_eq0.mp c31))
               rw [hop] at hK1 hK2
               dsimp only at hK1 hK2
               rw [hf] at hK1 hK2
               dsimp only at hK1 hK2
               refine g_drop 2 (g_drop 3 ?_)
               first
               | exact lB_added0 B hB8 (hK1 f rfl _ _ hB8)
               | (obtain ⟨hw2, hlt2⟩ := pTerm_ok (tT_TV hR) (pLev_ok (tT_TV hR) _) _ _ _ hf
                  rw [evc_add hw hw2]
                  obtain ⟨k', rfl⟩ : ∃ k', k = k' + 1 := ⟨k - 1, by omega⟩
                  exact ih k' (by omega) (cs ++ cs2 ++ [-15]) a2 τ8 (by omega) (hw.bin hw2 (by decide)) hM8 hK1 hK2))
            | (have h31 : ¬ tT τ0 t n b = 43 := fun h => c31 (l_cmp_eq0.mpr (h43.mpr h))
               have hop : opAdd (tT τ0 t n) b = some (-16) := (if_neg h31).trans (if_pos (hT.resolve_left h31))
               rw [hop] at hK1 hK2
               dsimp only at hK1 hK2
               rw [hf] at hK1 hK2
               dsimp only at hK1 hK2
               refine g_drop 2 (g_drop 3 ?_)
               first
               | exact lB_added0 B hB8 (hK1 f rfl _ _ hB8)
               | (obtain ⟨hw2, hlt2⟩ := pTerm_ok (tT_TV hR) (pLev_ok (tT_TV hR) _) _ _ _ hf
                  rw [evc_sub hw hw2]
                  obtain ⟨k', rfl⟩ : ∃ k', k = k' + 1 := ⟨k - 1, by omega⟩
                  exact ih k' (by omega) (cs ++ cs2 ++ [-16]) a2 τ8 (by omega) (hw.bin hw2 (by decide)) hM8 hK1 hK2))
        · refine g_iload_n B dX6_added0_53 rfl ?_
          refine g_iload_n B dX6_added0_54 rfl ?_
          refine g_iadd B dX6_added0_55 ?_
          refine g_goto (tgt := 62) B dX6_added0_56 (by decide) ?_
          refine g_istore_n B dX6_added0_62 (by decide) rfl ?_
          refine g_goto (tgt := 5) B dX6_added0_63 (by decide) ?_
          first
            | exact absurd rfl c50
            | exact absurd c50 (by decide)
            | (have hop : opAdd (tT τ0 t n) b = some (-15) := if_pos (h43.mp (l_cmp_eq0.mp c31))
               rw [hop] at hK1 hK2
               dsimp only at hK1 hK2
               rw [hf] at hK1 hK2
               dsimp only at hK1 hK2
               refine g_drop 2 (g_drop 3 ?_)
               first
               | exact lB_added0 B hB8 (hK1 f rfl _ _ hB8)
               | (obtain ⟨hw2, hlt2⟩ := pTerm_ok (tT_TV hR) (pLev_ok (tT_TV hR) _) _ _ _ hf
                  rw [evc_add hw hw2]
                  obtain ⟨k', rfl⟩ : ∃ k', k = k' + 1 := ⟨k - 1, by omega⟩
                  exact ih k' (by omega) (cs ++ cs2 ++ [-15]) a2 τ8 (by omega) (hw.bin hw2 (by decide)) hM8 hK1 hK2))
            | (have h31 : ¬ tT τ0 t n b = 43 := fun h => c31 (l_cmp_eq0.mpr (h43.mpr h))
               have hop : opAdd (tT τ0 t n) b = some (-16) := (if_neg h31).trans (if_pos (hT.resolve_left h31))
               rw [hop] at hK1 hK2
               dsimp only at hK1 hK2
               rw [hf] at hK1 hK2
               dsimp only at hK1 hK2
               refine g_drop 2 (g_drop 3 ?_)
               first
               | exact lB_added0 B hB8 (hK1 f rfl _ _ hB8)
               | (obtain ⟨hw2, hlt2⟩ := pTerm_ok (tT_TV hR) (pLev_ok (tT_TV hR) _) _ _ _ hf
                  rw [evc_sub hw hw2]
                  obtain ⟨k', rfl⟩ : ∃ k', k = k' + 1 := ⟨k - 1, by omega⟩
                  exact ih k' (by omega) (cs ++ cs2 ++ [-16]) a2 τ8 (by omega) (hw.bin hw2 (by decide)) hM8 hK1 hK2))
      · skip
        refine g_istore_n B dX6_added0_48 (by decide) rfl ?_
        refine g_iload_n B dX6_added0_49 rfl ?_
        refine g_if_eq (tgt := 59) B dX6_added0_50 (by decide) (fun c50 => ?_) (fun c50 => ?_)
        · refine g_iload_n B dX6_added0_59 rfl ?_
          refine g_iload_n B dX6_added0_60 rfl ?_
          refine g_isub B dX6_added0_61 ?_
          refine g_istore_n B dX6_added0_62 (by decide) rfl ?_
          refine g_goto (tgt := 5) B dX6_added0_63 (by decide) ?_
          first
            | exact absurd rfl c50
            | exact absurd c50 (by decide)
            | (have hop : opAdd (tT τ0 t n) b = some (-15) := if_pos (h43.mp (l_cmp_eq0.mp c31))
               rw [hop] at hK1 hK2
               dsimp only at hK1 hK2
               rw [hf] at hK1 hK2
               dsimp only at hK1 hK2
               refine g_drop 2 (g_drop 3 ?_)
               first
               | exact lB_added0 B hB8 (hK1 f rfl _ _ hB8)
               | (obtain ⟨hw2, hlt2⟩ := pTerm_ok (tT_TV hR) (pLev_ok (tT_TV hR) _) _ _ _ hf
                  rw [evc_add hw hw2]
                  obtain ⟨k', rfl⟩ : ∃ k', k = k' + 1 := ⟨k - 1, by omega⟩
                  exact ih k' (by omega) (cs ++ cs2 ++ [-15]) a2 τ8 (by omega) (hw.bin hw2 (by decide)) hM8 hK1 hK2))
            | (have h31 : ¬ tT τ0 t n b = 43 := fun h => c31 (l_cmp_eq0.mpr (h43.mpr h))
               have hop : opAdd (tT τ0 t n) b = some (-16) := (if_neg h31).trans (if_pos (hT.resolve_left h31))
               rw [hop] at hK1 hK2
               dsimp only at hK1 hK2
               rw [hf] at hK1 hK2
               dsimp only at hK1 hK2
               refine g_drop 2 (g_drop 3 ?_)
               first
               | exact lB_added0 B hB8 (hK1 f rfl _ _ hB8)
               | (obtain ⟨hw2, hlt2⟩ := pTerm_ok (tT_TV hR) (pLev_ok (tT_TV hR) _) _ _ _ hf
                  rw [evc_sub hw hw2]
                  obtain ⟨k', rfl⟩ : ∃ k', k = k' + 1 := ⟨k - 1, by omega⟩
                  exact ih k' (by omega) (cs ++ cs2 ++ [-16]) a2 τ8 (by omega) (hw.bin hw2 (by decide)) hM8 hK1 hK2))
        · refine g_iload_n B dX6_added0_53 rfl ?_
          refine g_iload_n B dX6_added0_54 rfl ?_
          refine g_iadd B dX6_added0_55 ?_
          refine g_goto (tgt := 62) B dX6_added0_56 (by decide) ?_
          refine g_istore_n B dX6_added0_62 (by decide) rfl ?_
          refine g_goto (tgt := 5) B dX6_added0_63 (by decide) ?_
          first
            | exact absurd rfl c50
            | exact absurd c50 (by decide)
            | (have hop : opAdd (tT τ0 t n) b = some (-15) := if_pos (h43.mp (l_cmp_eq0.mp c31))
               rw [hop] at hK1 hK2
               dsimp only at hK1 hK2
               rw [hf] at hK1 hK2
               dsimp only at hK1 hK2
               refine g_drop 2 (g_drop 3 ?_)
               first
               | exact lB_added0 B hB8 (hK1 f rfl _ _ hB8)
               | (obtain ⟨hw2, hlt2⟩ := pTerm_ok (tT_TV hR) (pLev_ok (tT_TV hR) _) _ _ _ hf
                  rw [evc_add hw hw2]
                  obtain ⟨k', rfl⟩ : ∃ k', k = k' + 1 := ⟨k - 1, by omega⟩
                  exact ih k' (by omega) (cs ++ cs2 ++ [-15]) a2 τ8 (by omega) (hw.bin hw2 (by decide)) hM8 hK1 hK2))
            | (have h31 : ¬ tT τ0 t n b = 43 := fun h => c31 (l_cmp_eq0.mpr (h43.mpr h))
               have hop : opAdd (tT τ0 t n) b = some (-16) := (if_neg h31).trans (if_pos (hT.resolve_left h31))
               rw [hop] at hK1 hK2
               dsimp only at hK1 hK2
               rw [hf] at hK1 hK2
               dsimp only at hK1 hK2
               refine g_drop 2 (g_drop 3 ?_)
               first
               | exact lB_added0 B hB8 (hK1 f rfl _ _ hB8)
               | (obtain ⟨hw2, hlt2⟩ := pTerm_ok (tT_TV hR) (pLev_ok (tT_TV hR) _) _ _ _ hf
                  rw [evc_sub hw hw2]
                  obtain ⟨k', rfl⟩ : ∃ k', k = k' + 1 := ⟨k - 1, by omega⟩
                  exact ih k' (by omega) (cs ++ cs2 ++ [-16]) a2 τ8 (by omega) (hw.bin hw2 (by decide)) hM8 hK1 hK2))
    · refine g_iconst (v := (1)) B dX6_added0_34 (by decide) ?_
      refine g_goto (tgt := 39) B dX6_added0_35 (by decide) ?_
      refine g_istore_n B dX6_added0_39 (by decide) rfl ?_
      refine g_aload_n B dX6_added0_40 rfl ?_
      refine g_callVv (C := RX6) (As := []) B dX6_added0_41 (gc1 g_X6_177) (by rfl) ⟨rfl, hd_X6_next⟩ (by exact ⟨Nat.le_of_ble_eq_true rfl, Nat.le_of_ble_eq_true rfl⟩) ⟨rfl, rfl⟩ rfl rfl (by exact Nat.le_of_ble_eq_true rfl) recvM (c_nx hR hM (isS_0 hT0) (fun τ2 hM2 => ?_))
      refine g_aload_n B dX6_added0_44 rfl ?_
      refine g_callVi (C := RX6) (As := []) B dX6_added0_45 (gc1 g_X6_310) (by rfl) ⟨rfl, hd_X6_term0⟩ (by exact ⟨Nat.le_of_ble_eq_true rfl, Nat.le_of_ble_eq_true rfl⟩) ⟨rfl, rfl⟩ rfl rfl (by exact Nat.le_of_ble_eq_true rfl) recvM (c_term0 hR hM2 (fun f hf v8 τ8 hB8 => ?_) (fun cs2 a2 hf τ8 hM8 => ?_))
      · skip
        refine g_istore_n B dX6_added0_48 (by decide) rfl ?_
        refine g_iload_n B dX6_added0_49 rfl ?_
        refine g_if_eq (tgt := 59) B dX6_added0_50 (by decide) (fun c50 => ?_) (fun c50 => ?_)
        · refine g_iload_n B dX6_added0_59 rfl ?_
          refine g_iload_n B dX6_added0_60 rfl ?_
          refine g_isub B dX6_added0_61 ?_
          refine g_istore_n B dX6_added0_62 (by decide) rfl ?_
          refine g_goto (tgt := 5) B dX6_added0_63 (by decide) ?_
          first
            | exact absurd rfl c50
            | exact absurd c50 (by decide)
            | (have hop : opAdd (tT τ0 t n) b = some (-15) := if_pos (h43.mp (l_cmp_eq0.mp c31))
               rw [hop] at hK1 hK2
               dsimp only at hK1 hK2
               rw [hf] at hK1 hK2
               dsimp only at hK1 hK2
               refine g_drop 2 (g_drop 3 ?_)
               first
               | exact lB_added0 B hB8 (hK1 f rfl _ _ hB8)
               | (obtain ⟨hw2, hlt2⟩ := pTerm_ok (tT_TV hR) (pLev_ok (tT_TV hR) _) _ _ _ hf
                  rw [evc_add hw hw2]
                  obtain ⟨k', rfl⟩ : ∃ k', k = k' + 1 := ⟨k - 1, by omega⟩
                  exact ih k' (by omega) (cs ++ cs2 ++ [-15]) a2 τ8 (by omega) (hw.bin hw2 (by decide)) hM8 hK1 hK2))
            | (have h31 : ¬ tT τ0 t n b = 43 := fun h => c31 (l_cmp_eq0.mpr (h43.mpr h))
               have hop : opAdd (tT τ0 t n) b = some (-16) := (if_neg h31).trans (if_pos (hT.resolve_left h31))
               rw [hop] at hK1 hK2
               dsimp only at hK1 hK2
               rw [hf] at hK1 hK2
               dsimp only at hK1 hK2
               refine g_drop 2 (g_drop 3 ?_)
               first
               | exact lB_added0 B hB8 (hK1 f rfl _ _ hB8)
               | (obtain ⟨hw2, hlt2⟩ := pTerm_ok (tT_TV hR) (pLev_ok (tT_TV hR) _) _ _ _ hf
                  rw [evc_sub hw hw2]
                  obtain ⟨k', rfl⟩ : ∃ k', k = k' + 1 := ⟨k - 1, by omega⟩
                  exact ih k' (by omega) (cs ++ cs2 ++ [-16]) a2 τ8 (by omega) (hw.bin hw2 (by decide)) hM8 hK1 hK2))
        · refine g_iload_n B dX6_added0_53 rfl ?_
          refine g_iload_n B dX6_added0_54 rfl ?_
          refine g_iadd B dX6_added0_55 ?_
          refine g_goto (tgt := 62) B dX6_added0_56 (by decide) ?_
          refine g_istore_n B dX6_added0_62 (by decide) rfl ?_
          refine g_goto (tgt := 5) B dX6_added0_63 (by decide) ?_
          first
            | exact absurd rfl c50
            | exact absurd c50 (by decide)
            | (have hop : opAdd (tT τ0 t n) b = some (-15) := if_pos (h43.mp (l_cmp_eq0.mp c31))
               rw [hop] at hK1 hK2
               dsimp only at hK1 hK2
               rw [hf] at hK1 hK2
               dsimp only at hK1 hK2
               refine g_drop 2 (g_drop 3 ?_)
               first
               | exact lB_added0 B hB8 (hK1 f rfl _ _ hB8)
               | (obtain ⟨hw2, hlt2⟩ := pTerm_ok (tT_TV hR) (pLev_ok (tT_TV hR) _) _ _ _ hf
                  rw [evc_add hw hw2]
                  obtain ⟨k', rfl⟩ : ∃ k', k = k' + 1 := ⟨k - 1, by omega⟩
                  exact ih k' (by omega) (cs ++ cs2 ++ [-15]) a2 τ8 (by omega) (hw.bin hw2 (by decide)) hM8 hK1 hK2))
            | (have h31 : ¬ tT τ0 t n b = 43 := fun h => c31 (l_cmp_eq0.mpr (h43.mpr h))
               have hop : opAdd (tT τ0 t n) b = some (-16) := (if_neg h31).trans (if_pos (hT.resolve_left h31))
               rw [hop] at hK1 hK2
               dsimp only at hK1 hK2
               rw [hf] at hK1 hK2
               dsimp only at hK1 hK2
               refine g_drop 2 (g_drop 3 ?_)
               first
               | exact lB_added0 B hB8 (hK1 f rfl _ _ hB8)
               | (obtain ⟨hw2, hlt2⟩ := pTerm_ok (tT_TV hR) (pLev_ok (tT_TV hR) _) _ _ _ hf
                  rw [evc_sub hw hw2]
                  obtain ⟨k', rfl⟩ : ∃ k', k = k' + 1 := ⟨k - 1, by omega⟩
                  exact ih k' (by omega) (cs ++ cs2 ++ [-16]) a2 τ8 (by omega) (hw.bin hw2 (by decide)) hM8 hK1 hK2))
      · skip
        refine g_istore_n B dX6_added0_48 (by decide) rfl ?_
        refine g_iload_n B dX6_added0_49 rfl ?_
        refine g_if_eq (tgt := 59) B dX6_added0_50 (by decide) (fun c50 => ?_) (fun c50 => ?_)
        · refine g_iload_n B dX6_added0_59 rfl ?_
          refine g_iload_n B dX6_added0_60 rfl ?_
          refine g_isub B dX6_added0_61 ?_
          refine g_istore_n B dX6_added0_62 (by decide) rfl ?_
          refine g_goto (tgt := 5) B dX6_added0_63 (by decide) ?_
          first
            | exact absurd rfl c50
            | exact absurd c50 (by decide)
            | (have hop : opAdd (tT τ0 t n) b = some (-15) := if_pos (h43.mp (l_cmp_eq0.mp c31))
               rw [hop] at hK1 hK2
               dsimp only at hK1 hK2
               rw [hf] at hK1 hK2
               dsimp only at hK1 hK2
               refine g_drop 2 (g_drop 3 ?_)
               first
               | exact lB_added0 B hB8 (hK1 f rfl _ _ hB8)
               | (obtain ⟨hw2, hlt2⟩ := pTerm_ok (tT_TV hR) (pLev_ok (tT_TV hR) _) _ _ _ hf
                  rw [evc_add hw hw2]
                  obtain ⟨k', rfl⟩ : ∃ k', k = k' + 1 := ⟨k - 1, by omega⟩
                  exact ih k' (by omega) (cs ++ cs2 ++ [-15]) a2 τ8 (by omega) (hw.bin hw2 (by decide)) hM8 hK1 hK2))
            | (have h31 : ¬ tT τ0 t n b = 43 := fun h => c31 (l_cmp_eq0.mpr (h43.mpr h))
               have hop : opAdd (tT τ0 t n) b = some (-16) := (if_neg h31).trans (if_pos (hT.resolve_left h31))
               rw [hop] at hK1 hK2
               dsimp only at hK1 hK2
               rw [hf] at hK1 hK2
               dsimp only at hK1 hK2
               refine g_drop 2 (g_drop 3 ?_)
               first
               | exact lB_added0 B hB8 (hK1 f rfl _ _ hB8)
               | (obtain ⟨hw2, hlt2⟩ := pTerm_ok (tT_TV hR) (pLev_ok (tT_TV hR) _) _ _ _ hf
                  rw [evc_sub hw hw2]
                  obtain ⟨k', rfl⟩ : ∃ k', k = k' + 1 := ⟨k - 1, by omega⟩
                  exact ih k' (by omega) (cs ++ cs2 ++ [-16]) a2 τ8 (by omega) (hw.bin hw2 (by decide)) hM8 hK1 hK2))
        · refine g_iload_n B dX6_added0_53 rfl ?_
          refine g_iload_n B dX6_added0_54 rfl ?_
          refine g_iadd B dX6_added0_55 ?_
          refine g_goto (tgt := 62) B dX6_added0_56 (by decide) ?_
          refine g_istore_n B dX6_added0_62 (by decide) rfl ?_
          refine g_goto (tgt := 5) B dX6_added0_63 (by decide) ?_
          first
            | exact absurd rfl c50
            | exact absurd c50 (by decide)
            | (have hop : opAdd (tT τ0 t n) b = some (-15) := if_pos (h43.mp (l_cmp_eq0.mp c31))
               rw [hop] at hK1 hK2
               dsimp only at hK1 hK2
               rw [hf] at hK1 hK2
               dsimp only at hK1 hK2
               refine g_drop 2 (g_drop 3 ?_)
               first
               | exact lB_added0 B hB8 (hK1 f rfl _ _ hB8)
               | (obtain ⟨hw2, hlt2⟩ := pTerm_ok (tT_TV hR) (pLev_ok (tT_TV hR) _) _ _ _ hf
                  rw [evc_add hw hw2]
                  obtain ⟨k', rfl⟩ : ∃ k', k = k' + 1 := ⟨k - 1, by omega⟩
                  exact ih k' (by omega) (cs ++ cs2 ++ [-15]) a2 τ8 (by omega) (hw.bin hw2 (by decide)) hM8 hK1 hK2))
            | (have h31 : ¬ tT τ0 t n b = 43 := fun h => c31 (l_cmp_eq0.mpr (h43.mpr h))
               have hop : opAdd (tT τ0 t n) b = some (-16) := (if_neg h31).trans (if_pos (hT.resolve_left h31))
               rw [hop] at hK1 hK2
               dsimp only at hK1 hK2
               rw [hf] at hK1 hK2
               dsimp only at hK1 hK2
               refine g_drop 2 (g_drop 3 ?_)
               first
               | exact lB_added0 B hB8 (hK1 f rfl _ _ hB8)
               | (obtain ⟨hw2, hlt2⟩ := pTerm_ok (tT_TV hR) (pLev_ok (tT_TV hR) _) _ _ _ hf
                  rw [evc_sub hw hw2]
                  obtain ⟨k', rfl⟩ : ∃ k', k = k' + 1 := ⟨k - 1, by omega⟩
                  exact ih k' (by omega) (cs ++ cs2 ++ [-16]) a2 τ8 (by omega) (hw.bin hw2 (by decide)) hM8 hK1 hK2))
  · refine g_aload_n B dX6_added0_14 rfl ?_
    refine g_bipush (v := (45)) B dX6_added0_15 (by decide) ?_
    refine g_callVi (C := RX6) (As := [.int _]) B dX6_added0_17 (gc1 g_X6_202) (by rfl) ⟨rfl, hd_X6_isSign⟩ (by exact ⟨Nat.le_of_ble_eq_true rfl, Nat.le_of_ble_eq_true rfl⟩) ⟨rfl, rfl⟩ rfl rfl (by exact Nat.le_of_ble_eq_true rfl) recvM (c_sgn hM (show isS 45 by decide) ?_)
    refine g_if_eq (tgt := 66) B dX6_added0_20 (by decide) (fun c20 => ?_) (fun c20 => ?_)
    · refine g_iload_n B dX6_added0_66 rfl ?_
      refine g_ireti B dX6_added0_67 ?_
      have hop : opAdd (tT τ0 t n) b = none := (if_neg (b1_0.mp c11)).trans (if_neg (b1_0.mp c20))
      rw [hop] at hK2
      exact hK2 _ _ rfl τ hM
    · have hT : tT τ0 t n b = 43 ∨ tT τ0 t n b = 45 := by first | exact Or.inl (b1_n0.mp c11) | exact Or.inr (b1_n0.mp c20)
      have hT0 : isS (tT τ0 t n b) := by rcases hT with h | h <;> rw [h] <;> decide
      have hb := tT_lt hR (isS_0 hT0).1
      have hwv := hM.w hT0
      have h43 : τ.2.1 = 43 ↔ tT τ0 t n b = 43 := by
        rw [hwv]
        constructor
        · intro h
          have := congrArg Int64.toInt h
          rw [i_long] at this
          exact i_eq.mpr this
        · intro h
          rw [h]; rfl
      refine g_aload_n B dX6_added0_23 rfl ?_
      refine g_getL (T := TX6) (N := 42) B dX6_added0_24 (by decide) (by rfl) (inq inlX6) rfl 23 (by decide) (mq f_X6_155) (by rfl) ?_
      refine g_ldc2 (v := (43)) B dX6_added0_27 (mq k_X6_219) ?_
      refine g_lcmp B dX6_added0_30 ?_
      refine g_if_ne (tgt := 38) B dX6_added0_31 (by decide) (fun c31 => ?_) (fun c31 => ?_)
      · refine g_iconst (v := (0)) B dX6_added0_38 (by decide) ?_
        refine g_istore_n B dX6_added0_39 (by decide) rfl ?_
        refine g_aload_n B dX6_added0_40 rfl ?_
        refine g_callVv (C := RX6) (As := []) B dX6_added0_41 (gc1 g_X6_177) (by rfl) ⟨rfl, hd_X6_next⟩ (by exact ⟨Nat.le_of_ble_eq_true rfl, Nat.le_of_ble_eq_true rfl⟩) ⟨rfl, rfl⟩ rfl rfl (by exact Nat.le_of_ble_eq_true rfl) recvM (c_nx hR hM (isS_0 hT0) (fun τ2 hM2 => ?_))
        refine g_aload_n B dX6_added0_44 rfl ?_
        refine g_callVi (C := RX6) (As := []) B dX6_added0_45 (gc1 g_X6_310) (by rfl) ⟨rfl, hd_X6_term0⟩ (by exact ⟨Nat.le_of_ble_eq_true rfl, Nat.le_of_ble_eq_true rfl⟩) ⟨rfl, rfl⟩ rfl rfl (by exact Nat.le_of_ble_eq_true rfl) recvM (c_term0 hR hM2 (fun f hf v8 τ8 hB8 => ?_) (fun cs2 a2 hf τ8 hM8 => ?_))
        · skip
          refine g_istore_n B dX6_added0_48 (by decide) rfl ?_
          refine g_iload_n B dX6_added0_49 rfl ?_
          refine g_if_eq (tgt := 59) B dX6_added0_50 (by decide) (fun c50 => ?_) (fun c50 => ?_)
          · refine g_iload_n B dX6_added0_59 rfl ?_
            refine g_iload_n B dX6_added0_60 rfl ?_
            refine g_isub B dX6_added0_61 ?_
            refine g_istore_n B dX6_added0_62 (by decide) rfl ?_
            refine g_goto (tgt := 5) B dX6_added0_63 (by decide) ?_
            first
              | exact absurd rfl c50
              | exact absurd c50 (by decide)
              | (have hop : opAdd (tT τ0 t n) b = some (-15) := if_pos (h43.mp (l_cmp_eq0.mp c31))
                 rw [hop] at hK1 hK2
                 dsimp only at hK1 hK2
                 rw [hf] at hK1 hK2
                 dsimp only at hK1 hK2
                 refine g_drop 2 (g_drop 3 ?_)
                 first
                 | exact lB_added0 B hB8 (hK1 f rfl _ _ hB8)
                 | (obtain ⟨hw2, hlt2⟩ := pTerm_ok (tT_TV hR) (pLev_ok (tT_TV hR) _) _ _ _ hf
                    rw [evc_add hw hw2]
                    obtain ⟨k', rfl⟩ : ∃ k', k = k' + 1 := ⟨k - 1, by omega⟩
                    exact ih k' (by omega) (cs ++ cs2 ++ [-15]) a2 τ8 (by omega) (hw.bin hw2 (by decide)) hM8 hK1 hK2))
              | (have h31 : ¬ tT τ0 t n b = 43 := fun h => c31 (l_cmp_eq0.mpr (h43.mpr h))
                 have hop : opAdd (tT τ0 t n) b = some (-16) := (if_neg h31).trans (if_pos (hT.resolve_left h31))
                 rw [hop] at hK1 hK2
                 dsimp only at hK1 hK2
                 rw [hf] at hK1 hK2
                 dsimp only at hK1 hK2
                 refine g_drop 2 (g_drop 3 ?_)
                 first
                 | exact lB_added0 B hB8 (hK1 f rfl _ _ hB8)
                 | (obtain ⟨hw2, hlt2⟩ := pTerm_ok (tT_TV hR) (pLev_ok (tT_TV hR) _) _ _ _ hf
                    rw [evc_sub hw hw2]
                    obtain ⟨k', rfl⟩ : ∃ k', k = k' + 1 := ⟨k - 1, by omega⟩
                    exact ih k' (by omega) (cs ++ cs2 ++ [-16]) a2 τ8 (by omega) (hw.bin hw2 (by decide)) hM8 hK1 hK2))
          · refine g_iload_n B dX6_added0_53 rfl ?_
            refine g_iload_n B dX6_added0_54 rfl ?_
            refine g_iadd B dX6_added0_55 ?_
            refine g_goto (tgt := 62) B dX6_added0_56 (by decide) ?_
            refine g_istore_n B dX6_added0_62 (by decide) rfl ?_
            refine g_goto (tgt := 5) B dX6_added0_63 (by decide) ?_
            first
              | exact absurd rfl c50
              | exact absurd c50 (by decide)
              | (have hop : opAdd (tT τ0 t n) b = some (-15) := if_pos (h43.mp (l_cmp_eq0.mp c31))
                 rw [hop] at hK1 hK2
                 dsimp only at hK1 hK2
                 rw [hf] at hK1 hK2
                 dsimp only at hK1 hK2
                 refine g_drop 2 (g_drop 3 ?_)
                 first
                 | exact lB_added0 B hB8 (hK1 f rfl _ _ hB8)
                 | (obtain ⟨hw2, hlt2⟩ := pTerm_ok (tT_TV hR) (pLev_ok (tT_TV hR) _) _ _ _ hf
                    rw [evc_add hw hw2]
                    obtain ⟨k', rfl⟩ : ∃ k', k = k' + 1 := ⟨k - 1, by omega⟩
                    exact ih k' (by omega) (cs ++ cs2 ++ [-15]) a2 τ8 (by omega) (hw.bin hw2 (by decide)) hM8 hK1 hK2))
              | (have h31 : ¬ tT τ0 t n b = 43 := fun h => c31 (l_cmp_eq0.mpr (h43.mpr h))
                 have hop : opAdd (tT τ0 t n) b = some (-16) := (if_neg h31).trans (if_pos (hT.resolve_left h31))
                 rw [hop] at hK1 hK2
                 dsimp only at hK1 hK2
                 rw [hf] at hK1 hK2
                 dsimp only at hK1 hK2
                 refine g_drop 2 (g_drop 3 ?_)
                 first
                 | exact lB_added0 B hB8 (hK1 f rfl _ _ hB8)
                 | (obtain ⟨hw2, hlt2⟩ := pTerm_ok (tT_TV hR) (pLev_ok (tT_TV hR) _) _ _ _ hf
                    rw [evc_sub hw hw2]
                    obtain ⟨k', rfl⟩ : ∃ k', k = k' + 1 := ⟨k - 1, by omega⟩
                    exact ih k' (by omega) (cs ++ cs2 ++ [-16]) a2 τ8 (by omega) (hw.bin hw2 (by decide)) hM8 hK1 hK2))
        · skip
          refine g_istore_n B dX6_added0_48 (by decide) rfl ?_
          refine g_iload_n B dX6_added0_49 rfl ?_
          refine g_if_eq (tgt := 59) B dX6_added0_50 (by decide) (fun c50 => ?_) (fun c50 => ?_)
          · refine g_iload_n B dX6_added0_59 rfl ?_
            refine g_iload_n B dX6_added0_60 rfl ?_
            refine g_isub B dX6_added0_61 ?_
            refine g_istore_n B dX6_added0_62 (by decide) rfl ?_
            refine g_goto (tgt := 5) B dX6_added0_63 (by decide) ?_
            first
              | exact absurd rfl c50
              | exact absurd c50 (by decide)
              | (have hop : opAdd (tT τ0 t n) b = some (-15) := if_pos (h43.mp (l_cmp_eq0.mp c31))
                 rw [hop] at hK1 hK2
                 dsimp only at hK1 hK2
                 rw [hf] at hK1 hK2
                 dsimp only at hK1 hK2
                 refine g_drop 2 (g_drop 3 ?_)
                 first
                 | exact lB_added0 B hB8 (hK1 f rfl _ _ hB8)
                 | (obtain ⟨hw2, hlt2⟩ := pTerm_ok (tT_TV hR) (pLev_ok (tT_TV hR) _) _ _ _ hf
                    rw [evc_add hw hw2]
                    obtain ⟨k', rfl⟩ : ∃ k', k = k' + 1 := ⟨k - 1, by omega⟩
                    exact ih k' (by omega) (cs ++ cs2 ++ [-15]) a2 τ8 (by omega) (hw.bin hw2 (by decide)) hM8 hK1 hK2))
              | (have h31 : ¬ tT τ0 t n b = 43 := fun h => c31 (l_cmp_eq0.mpr (h43.mpr h))
                 have hop : opAdd (tT τ0 t n) b = some (-16) := (if_neg h31).trans (if_pos (hT.resolve_left h31))
                 rw [hop] at hK1 hK2
                 dsimp only at hK1 hK2
                 rw [hf] at hK1 hK2
                 dsimp only at hK1 hK2
                 refine g_drop 2 (g_drop 3 ?_)
                 first
                 | exact lB_added0 B hB8 (hK1 f rfl _ _ hB8)
                 | (obtain ⟨hw2, hlt2⟩ := pTerm_ok (tT_TV hR) (pLev_ok (tT_TV hR) _) _ _ _ hf
                    rw [evc_sub hw hw2]
                    obtain ⟨k', rfl⟩ : ∃ k', k = k' + 1 := ⟨k - 1, by omega⟩
                    exact ih k' (by omega) (cs ++ cs2 ++ [-16]) a2 τ8 (by omega) (hw.bin hw2 (by decide)) hM8 hK1 hK2))
          · refine g_iload_n B dX6_added0_53 rfl ?_
            refine g_iload_n B dX6_added0_54 rfl ?_
            refine g_iadd B dX6_added0_55 ?_
            refine g_goto (tgt := 62) B dX6_added0_56 (by decide) ?_
            refine g_istore_n B dX6_added0_62 (by decide) rfl ?_
            refine g_goto (tgt := 5) B dX6_added0_63 (by decide) ?_
            first
              | exact absurd rfl c50
              | exact absurd c50 (by decide)
              | (have hop : opAdd (tT τ0 t n) b = some (-15) := if_pos (h43.mp (l_cmp_eq0.mp c31))
                 rw [hop] at hK1 hK2
                 dsimp only at hK1 hK2
                 rw [hf] at hK1 hK2
                 dsimp only at hK1 hK2
                 refine g_drop 2 (g_drop 3 ?_)
                 first
                 | exact lB_added0 B hB8 (hK1 f rfl _ _ hB8)
                 | (obtain ⟨hw2, hlt2⟩ := pTerm_ok (tT_TV hR) (pLev_ok (tT_TV hR) _) _ _ _ hf
                    rw [evc_add hw hw2]
                    obtain ⟨k', rfl⟩ : ∃ k', k = k' + 1 := ⟨k - 1, by omega⟩
                    exact ih k' (by omega) (cs ++ cs2 ++ [-15]) a2 τ8 (by omega) (hw.bin hw2 (by decide)) hM8 hK1 hK2))
              | (have h31 : ¬ tT τ0 t n b = 43 := fun h => c31 (l_cmp_eq0.mpr (h43.mpr h))
                 have hop : opAdd (tT τ0 t n) b = some (-16) := (if_neg h31).trans (if_pos (hT.resolve_left h31))
                 rw [hop] at hK1 hK2
                 dsimp only at hK1 hK2
                 rw [hf] at hK1 hK2
                 dsimp only at hK1 hK2
                 refine g_drop 2 (g_drop 3 ?_)
                 first
                 | exact lB_added0 B hB8 (hK1 f rfl _ _ hB8)
                 | (obtain ⟨hw2, hlt2⟩ := pTerm_ok (tT_TV hR) (pLev_ok (tT_TV hR) _) _ _ _ hf
                    rw [evc_sub hw hw2]
                    obtain ⟨k', rfl⟩ : ∃ k', k = k' + 1 := ⟨k - 1, by omega⟩
                    exact ih k' (by omega) (cs ++ cs2 ++ [-16]) a2 τ8 (by omega) (hw.bin hw2 (by decide)) hM8 hK1 hK2))
      · refine g_iconst (v := (1)) B dX6_added0_34 (by decide) ?_
        refine g_goto (tgt := 39) B dX6_added0_35 (by decide) ?_
        refine g_istore_n B dX6_added0_39 (by decide) rfl ?_
        refine g_aload_n B dX6_added0_40 rfl ?_
        refine g_callVv (C := RX6) (As := []) B dX6_added0_41 (gc1 g_X6_177) (by rfl) ⟨rfl, hd_X6_next⟩ (by exact ⟨Nat.le_of_ble_eq_true rfl, Nat.le_of_ble_eq_true rfl⟩) ⟨rfl, rfl⟩ rfl rfl (by exact Nat.le_of_ble_eq_true rfl) recvM (c_nx hR hM (isS_0 hT0) (fun τ2 hM2 => ?_))
        refine g_aload_n B dX6_added0_44 rfl ?_
        refine g_callVi (C := RX6) (As := []) B dX6_added0_45 (gc1 g_X6_310) (by rfl) ⟨rfl, hd_X6_term0⟩ (by exact ⟨Nat.le_of_ble_eq_true rfl, Nat.le_of_ble_eq_true rfl⟩) ⟨rfl, rfl⟩ rfl rfl (by exact Nat.le_of_ble_eq_true rfl) recvM (c_term0 hR hM2 (fun f hf v8 τ8 hB8 => ?_) (fun cs2 a2 hf τ8 hM8 => ?_))
        · skip
          refine g_istore_n B dX6_added0_48 (by decide) rfl ?_
          refine g_iload_n B dX6_added0_49 rfl ?_
          refine g_if_eq (tgt := 59) B dX6_added0_50 (by decide) (fun c50 => ?_) (fun c50 => ?_)
          · refine g_iload_n B dX6_added0_59 rfl ?_
            refine g_iload_n B dX6_added0_60 rfl ?_
            refine g_isub B dX6_added0_61 ?_
            refine g_istore_n B dX6_added0_62 (by decide) rfl ?_
            refine g_goto (tgt := 5) B dX6_added0_63 (by decide) ?_
            first
              | exact absurd rfl c50
              | exact absurd c50 (by decide)
              | (have hop : opAdd (tT τ0 t n) b = some (-15) := if_pos (h43.mp (l_cmp_eq0.mp c31))
                 rw [hop] at hK1 hK2
                 dsimp only at hK1 hK2
                 rw [hf] at hK1 hK2
                 dsimp only at hK1 hK2
                 refine g_drop 2 (g_drop 3 ?_)
                 first
                 | exact lB_added0 B hB8 (hK1 f rfl _ _ hB8)
                 | (obtain ⟨hw2, hlt2⟩ := pTerm_ok (tT_TV hR) (pLev_ok (tT_TV hR) _) _ _ _ hf
                    rw [evc_add hw hw2]
                    obtain ⟨k', rfl⟩ : ∃ k', k = k' + 1 := ⟨k - 1, by omega⟩
                    exact ih k' (by omega) (cs ++ cs2 ++ [-15]) a2 τ8 (by omega) (hw.bin hw2 (by decide)) hM8 hK1 hK2))
              | (have h31 : ¬ tT τ0 t n b = 43 := fun h => c31 (l_cmp_eq0.mpr (h43.mpr h))
                 have hop : opAdd (tT τ0 t n) b = some (-16) := (if_neg h31).trans (if_pos (hT.resolve_left h31))
                 rw [hop] at hK1 hK2
                 dsimp only at hK1 hK2
                 rw [hf] at hK1 hK2
                 dsimp only at hK1 hK2
                 refine g_drop 2 (g_drop 3 ?_)
                 first
                 | exact lB_added0 B hB8 (hK1 f rfl _ _ hB8)
                 | (obtain ⟨hw2, hlt2⟩ := pTerm_ok (tT_TV hR) (pLev_ok (tT_TV hR) _) _ _ _ hf
                    rw [evc_sub hw hw2]
                    obtain ⟨k', rfl⟩ : ∃ k', k = k' + 1 := ⟨k - 1, by omega⟩
                    exact ih k' (by omega) (cs ++ cs2 ++ [-16]) a2 τ8 (by omega) (hw.bin hw2 (by decide)) hM8 hK1 hK2))
          · refine g_iload_n B dX6_added0_53 rfl ?_
            refine g_iload_n B dX6_added0_54 rfl ?_
            refine g_iadd B dX6_added0_55 ?_
            refine g_goto (tgt := 62) B dX6_added0_56 (by decide) ?_
            refine g_istore_n B dX6_added0_62 (by decide) rfl ?_
            refine g_goto (tgt := 5) B dX6_added0_63 (by decide) ?_
            first
              | exact absurd rfl c50
              | exact absurd c50 (by decide)
              | (have hop : opAdd (tT τ0 t n) b = some (-15) := if_pos (h43.mp (l_cmp_eq0.mp c31))
                 rw [hop] at hK1 hK2
                 dsimp only at hK1 hK2
                 rw [hf] at hK1 hK2
                 dsimp only at hK1 hK2
                 refine g_drop 2 (g_drop 3 ?_)
                 first
                 | exact lB_added0 B hB8 (hK1 f rfl _ _ hB8)
                 | (obtain ⟨hw2, hlt2⟩ := pTerm_ok (tT_TV hR) (pLev_ok (tT_TV hR) _) _ _ _ hf
                    rw [evc_add hw hw2]
                    obtain ⟨k', rfl⟩ : ∃ k', k = k' + 1 := ⟨k - 1, by omega⟩
                    exact ih k' (by omega) (cs ++ cs2 ++ [-15]) a2 τ8 (by omega) (hw.bin hw2 (by decide)) hM8 hK1 hK2))
              | (have h31 : ¬ tT τ0 t n b = 43 := fun h => c31 (l_cmp_eq0.mpr (h43.mpr h))
                 have hop : opAdd (tT τ0 t n) b = some (-16) := (if_neg h31).trans (if_pos (hT.resolve_left h31))
                 rw [hop] at hK1 hK2
                 dsimp only at hK1 hK2
                 rw [hf] at hK1 hK2
                 dsimp only at hK1 hK2
                 refine g_drop 2 (g_drop 3 ?_)
                 first
                 | exact lB_added0 B hB8 (hK1 f rfl _ _ hB8)
                 | (obtain ⟨hw2, hlt2⟩ := pTerm_ok (tT_TV hR) (pLev_ok (tT_TV hR) _) _ _ _ hf
                    rw [evc_sub hw hw2]
                    obtain ⟨k', rfl⟩ : ∃ k', k = k' + 1 := ⟨k - 1, by omega⟩
                    exact ih k' (by omega) (cs ++ cs2 ++ [-16]) a2 τ8 (by omega) (hw.bin hw2 (by decide)) hM8 hK1 hK2))
        · skip
          refine g_istore_n B dX6_added0_48 (by decide) rfl ?_
          refine g_iload_n B dX6_added0_49 rfl ?_
          refine g_if_eq (tgt := 59) B dX6_added0_50 (by decide) (fun c50 => ?_) (fun c50 => ?_)
          · refine g_iload_n B dX6_added0_59 rfl ?_
            refine g_iload_n B dX6_added0_60 rfl ?_
            refine g_isub B dX6_added0_61 ?_
            refine g_istore_n B dX6_added0_62 (by decide) rfl ?_
            refine g_goto (tgt := 5) B dX6_added0_63 (by decide) ?_
            first
              | exact absurd rfl c50
              | exact absurd c50 (by decide)
              | (have hop : opAdd (tT τ0 t n) b = some (-15) := if_pos (h43.mp (l_cmp_eq0.mp c31))
                 rw [hop] at hK1 hK2
                 dsimp only at hK1 hK2
                 rw [hf] at hK1 hK2
                 dsimp only at hK1 hK2
                 refine g_drop 2 (g_drop 3 ?_)
                 first
                 | exact lB_added0 B hB8 (hK1 f rfl _ _ hB8)
                 | (obtain ⟨hw2, hlt2⟩ := pTerm_ok (tT_TV hR) (pLev_ok (tT_TV hR) _) _ _ _ hf
                    rw [evc_add hw hw2]
                    obtain ⟨k', rfl⟩ : ∃ k', k = k' + 1 := ⟨k - 1, by omega⟩
                    exact ih k' (by omega) (cs ++ cs2 ++ [-15]) a2 τ8 (by omega) (hw.bin hw2 (by decide)) hM8 hK1 hK2))
              | (have h31 : ¬ tT τ0 t n b = 43 := fun h => c31 (l_cmp_eq0.mpr (h43.mpr h))
                 have hop : opAdd (tT τ0 t n) b = some (-16) := (if_neg h31).trans (if_pos (hT.resolve_left h31))
                 rw [hop] at hK1 hK2
                 dsimp only at hK1 hK2
                 rw [hf] at hK1 hK2
                 dsimp only at hK1 hK2
                 refine g_drop 2 (g_drop 3 ?_)
                 first
                 | exact lB_added0 B hB8 (hK1 f rfl _ _ hB8)
                 | (obtain ⟨hw2, hlt2⟩ := pTerm_ok (tT_TV hR) (pLev_ok (tT_TV hR) _) _ _ _ hf
                    rw [evc_sub hw hw2]
                    obtain ⟨k', rfl⟩ : ∃ k', k = k' + 1 := ⟨k - 1, by omega⟩
                    exact ih k' (by omega) (cs ++ cs2 ++ [-16]) a2 τ8 (by omega) (hw.bin hw2 (by decide)) hM8 hK1 hK2))
          · refine g_iload_n B dX6_added0_53 rfl ?_
            refine g_iload_n B dX6_added0_54 rfl ?_
            refine g_iadd B dX6_added0_55 ?_
            refine g_goto (tgt := 62) B dX6_added0_56 (by decide) ?_
            refine g_istore_n B dX6_added0_62 (by decide) rfl ?_
            refine g_goto (tgt := 5) B dX6_added0_63 (by decide) ?_
            first
              | exact absurd rfl c50
              | exact absurd c50 (by decide)
              | (have hop : opAdd (tT τ0 t n) b = some (-15) := if_pos (h43.mp (l_cmp_eq0.mp c31))
                 rw [hop] at hK1 hK2
                 dsimp only at hK1 hK2
                 rw [hf] at hK1 hK2
                 dsimp only at hK1 hK2
                 refine g_drop 2 (g_drop 3 ?_)
                 first
                 | exact lB_added0 B hB8 (hK1 f rfl _ _ hB8)
                 | (obtain ⟨hw2, hlt2⟩ := pTerm_ok (tT_TV hR) (pLev_ok (tT_TV hR) _) _ _ _ hf
                    rw [evc_add hw hw2]
                    obtain ⟨k', rfl⟩ : ∃ k', k = k' + 1 := ⟨k - 1, by omega⟩
                    exact ih k' (by omega) (cs ++ cs2 ++ [-15]) a2 τ8 (by omega) (hw.bin hw2 (by decide)) hM8 hK1 hK2))
              | (have h31 : ¬ tT τ0 t n b = 43 := fun h => c31 (l_cmp_eq0.mpr (h43.mpr h))
                 have hop : opAdd (tT τ0 t n) b = some (-16) := (if_neg h31).trans (if_pos (hT.resolve_left h31))
                 rw [hop] at hK1 hK2
                 dsimp only at hK1 hK2
                 rw [hf] at hK1 hK2
                 dsimp only at hK1 hK2
                 refine g_drop 2 (g_drop 3 ?_)
                 first
                 | exact lB_added0 B hB8 (hK1 f rfl _ _ hB8)
                 | (obtain ⟨hw2, hlt2⟩ := pTerm_ok (tT_TV hR) (pLev_ok (tT_TV hR) _) _ _ _ hf
                    rw [evc_sub hw hw2]
                    obtain ⟨k', rfl⟩ : ∃ k', k = k' + 1 := ⟨k - 1, by omega⟩
                    exact ih k' (by omega) (cs ++ cs2 ++ [-16]) a2 τ8 (by omega) (hw.bin hw2 (by decide)) hM8 hK1 hK2))
set_option maxRecDepth 100000 in
set_option maxHeartbeats 4000000 in
theorem c_added0 {Z : LZ} {ad : Nat → Nat} {τ0 τ : St} {K : Int32 → St → Prop} {t n a : Nat} (hR : RB τ0 t n) (hM : MS τ0 t n 0 a τ) (hK1 : ∀ f, pSum (tT τ0 t n) (tV τ0 t n) (pLev (tT τ0 t n) (tV τ0 t n) 5) a = .inl f → ∀ v τ', MB τ0 t n f τ' → K v τ') (hK2 : ∀ cs a2, pSum (tT τ0 t n) (tV τ0 t n) (pLev (tT τ0 t n) (tV τ0 t n) 5) a = .inr (cs, a2) → ∀ τ', MS τ0 t n 0 a2 τ' → K (evc (eM τ0) cs) τ') : CC lyM Z ad yX6_added0 wsX6_added0 (rmk 36) [.ref (ad 0)] τ (rI K) := by
  refine CC.of (cc := cX6_added0) (nL := 4) (ret := (some .int)) rfl rfl ⟨rfl, rfl⟩ (by exact Nat.le_of_ble_eq_true rfl) ?_
  intro X B
  change GG _ _ _ _ X _ 0 [some (.ref (ad 0)), none, none, none] [] _
  change Amb _ _ _ _ X _ _ RX6 _ _ at B
  unfold pSum pSeq at hK1 hK2
  refine g_aload_n B dX6_added0_0 rfl ?_
  refine g_callVi (C := RX6) (As := []) B dX6_added0_1 (gc1 g_X6_310) (by rfl) ⟨rfl, hd_X6_term0⟩ (by exact ⟨Nat.le_of_ble_eq_true rfl, Nat.le_of_ble_eq_true rfl⟩) ⟨rfl, rfl⟩ rfl rfl (by exact Nat.le_of_ble_eq_true rfl) recvM (c_term0 hR hM (fun f hf v8 τ8 hB8 => ?_) (fun cs a1 hf τ8 hM8 => ?_))
  · rw [hf] at hK1; dsimp only at hK1
    refine g_istore_n B dX6_added0_4 (by decide) rfl ?_
    first
      | exact lB_added0 B hB8 (hK1 f rfl _ _ hB8)
      | exact l_added0 B hR 199 cs a1 τ8 (by omega) (pTerm_ok (tT_TV hR) (pLev_ok (tT_TV hR) _) _ _ _ hf).1 hM8 hK1 hK2
  · rw [hf] at hK1 hK2; dsimp only at hK1 hK2
    refine g_istore_n B dX6_added0_4 (by decide) rfl ?_
    first
      | exact lB_added0 B hB8 (hK1 f rfl _ _ hB8)
      | exact l_added0 B hR 199 cs a1 τ8 (by omega) (pTerm_ok (tT_TV hR) (pLev_ok (tT_TV hR) _) _ _ _ hf).1 hM8 hK1 hK2
set_option maxRecDepth 100000 in
set_option maxHeartbeats 4000000 in
theorem n2_not0 {Z : LZ} {ad : Nat → Nat} {X : CX} {K : Int32 → St → Prop} {τ0 τ : St} {t n a1 : Nat} {cs : List Int32} (B : Amb lyM Z ad (rmk 37) X cX6_not0 wsX6_not0 RX6 4 (some .int)) (hR : RB τ0 t n) (hw : WF cs) (hM : MS τ0 t n 0 a1 τ) (hT : tT τ0 t n a1 = 60 ∨ tT τ0 t n a1 = 61)
    (hK1 : ∀ f, (match pSum (tT τ0 t n) (tV τ0 t n) (pLev (tT τ0 t n) (tV τ0 t n) 5) (a1 + 1) with | .inl f => (.inl f : PR) | .inr (cs2, a2) => .inr (cs ++ cs2 ++ [if tT τ0 t n a1 = 60 then -13 else -14], a2)) = .inl f → ∀ v τ', MB τ0 t n f τ' → K v τ') (hK2 : ∀ ds a2, (match pSum (tT τ0 t n) (tV τ0 t n) (pLev (tT τ0 t n) (tV τ0 t n) 5) (a1 + 1) with | .inl f => (.inl f : PR) | .inr (cs2, a2) => .inr (cs ++ cs2 ++ [if tT τ0 t n a1 = 60 then -13 else -14], a2)) = .inr (ds, a2) → ∀ τ', MS τ0 t n 0 a2 τ' → K (evc (eM τ0) ds) τ') : GG lyM Z ad (rmk 37) X (rI K) 77 [some (.ref (ad 0)), some (.int (evc (eM τ0) cs)), none, none] [] τ := by
  have hT0 : isS (tT τ0 t n a1) := by rcases hT with h | h <;> rw [h] <;> decide
  have hwv := hM.w hT0
  have h60 : τ.2.1 = 60 ↔ tT τ0 t n a1 = 60 := by
    rw [hwv]
    constructor
    · intro h
      have := congrArg Int64.toInt h
      rw [i_long] at this
      exact i_eq.mpr this
    · intro h
      rw [h]; rfl
  refine g_aload_n B dX6_not0_77 rfl ?_
  refine g_getL (T := TX6) (N := 42) B dX6_not0_78 (by decide) (by rfl) (inq inlX6) rfl 23 (by decide) (mq f_X6_155) (by rfl) ?_
  refine g_ldc2 (v := (60)) B dX6_not0_81 (mq k_X6_224) ?_
  refine g_lcmp B dX6_not0_84 ?_
  refine g_if_ne (tgt := 92) B dX6_not0_85 (by decide) (fun c85 => ?_) (fun c85 => ?_)
  · refine g_iconst (v := (0)) B dX6_not0_92 (by decide) ?_
    refine g_istore_n B dX6_not0_93 (by decide) rfl ?_
    refine g_aload_n B dX6_not0_94 rfl ?_
    refine g_callVv (C := RX6) (As := []) B dX6_not0_95 (gc1 g_X6_177) (by rfl) ⟨rfl, hd_X6_next⟩ (by exact ⟨Nat.le_of_ble_eq_true rfl, Nat.le_of_ble_eq_true rfl⟩) ⟨rfl, rfl⟩ rfl rfl (by exact Nat.le_of_ble_eq_true rfl) recvM (c_nx hR hM (isS_0 hT0) (fun τ2 hM2 => ?_))
    refine g_aload_n B dX6_not0_98 rfl ?_
    refine g_callVi (C := RX6) (As := []) B dX6_not0_99 (gc1 g_X6_313) (by rfl) ⟨rfl, hd_X6_added0⟩ (by exact ⟨Nat.le_of_ble_eq_true rfl, Nat.le_of_ble_eq_true rfl⟩) ⟨rfl, rfl⟩ rfl rfl (by exact Nat.le_of_ble_eq_true rfl) recvM (c_added0 hR hM2 (fun f hf v9 τ9 hB9 => ?_) (fun cs2 a2 hf τ9 hM9 => ?_))
    · rw [hf] at hK1; dsimp only at hK1
      refine g_istore_n B dX6_not0_102 (by decide) rfl ?_
      refine g_iload_n B dX6_not0_103 rfl ?_
      refine g_if_eq (tgt := 115) B dX6_not0_104 (by decide) (fun c104 => ?_) (fun c104 => ?_)
      · refine g_iload_n B dX6_not0_115 rfl ?_
        refine g_iload_n B dX6_not0_116 rfl ?_
        refine g_icmp_ne (tgt := 124) B dX6_not0_117 (by decide) (fun c117 => ?_) (fun c117 => ?_)
        · refine g_iconst (v := (0)) B dX6_not0_124 (by decide) ?_
          refine g_ireti B dX6_not0_125 ?_
          first
            | exact hK1 f rfl _ _ hB9
            | exact absurd rfl c104
            | exact absurd c104 (by decide)
            | (have h6 := h60.mp (l_cmp_eq0.mp c85)
               refine kk ?_ (hK2 _ _ rfl _ hM9)
               rw [if_pos h6, evc_bin hw hw2 (by decide)]
               unfold jn
               rw [if_neg (by decide), if_neg (by decide), if_pos rfl]
               first
               | rw [if_pos (Int32.not_le.mp c109)]
               | rw [if_neg (Int32.not_lt.mpr c109)])
            | (have h6 : ¬ tT τ0 t n a1 = 60 := fun h => c85 (l_cmp_eq0.mpr (h60.mpr h))
               refine kk ?_ (hK2 _ _ rfl _ hM9)
               rw [if_neg h6, evc_bin hw hw2 (by decide)]
               unfold jn
               rw [if_neg (by decide), if_neg (by decide), if_neg (by decide), if_pos rfl]
               first
               | rw [if_pos c117]
               | rw [if_neg c117]
               | rw [if_pos c117])
        · refine g_iconst (v := (1)) B dX6_not0_120 (by decide) ?_
          refine g_goto (tgt := 125) B dX6_not0_121 (by decide) ?_
          refine g_ireti B dX6_not0_125 ?_
          first
            | exact hK1 f rfl _ _ hB9
            | exact absurd rfl c104
            | exact absurd c104 (by decide)
            | (have h6 := h60.mp (l_cmp_eq0.mp c85)
               refine kk ?_ (hK2 _ _ rfl _ hM9)
               rw [if_pos h6, evc_bin hw hw2 (by decide)]
               unfold jn
               rw [if_neg (by decide), if_neg (by decide), if_pos rfl]
               first
               | rw [if_pos (Int32.not_le.mp c109)]
               | rw [if_neg (Int32.not_lt.mpr c109)])
            | (have h6 : ¬ tT τ0 t n a1 = 60 := fun h => c85 (l_cmp_eq0.mpr (h60.mpr h))
               refine kk ?_ (hK2 _ _ rfl _ hM9)
               rw [if_neg h6, evc_bin hw hw2 (by decide)]
               unfold jn
               rw [if_neg (by decide), if_neg (by decide), if_neg (by decide), if_pos rfl]
               first
               | rw [if_pos c117]
               | rw [if_neg c117]
               | rw [if_pos c117])
      · refine g_iload_n B dX6_not0_107 rfl ?_
        refine g_iload_n B dX6_not0_108 rfl ?_
        refine g_icmp_ge (tgt := 124) B dX6_not0_109 (by decide) (fun c109 => ?_) (fun c109 => ?_)
        · refine g_iconst (v := (0)) B dX6_not0_124 (by decide) ?_
          refine g_ireti B dX6_not0_125 ?_
          first
            | exact hK1 f rfl _ _ hB9
            | exact absurd rfl c104
            | exact absurd c104 (by decide)
            | (have h6 := h60.mp (l_cmp_eq0.mp c85)
               refine kk ?_ (hK2 _ _ rfl _ hM9)
               rw [if_pos h6, evc_bin hw hw2 (by decide)]
               unfold jn
               rw [if_neg (by decide), if_neg (by decide), if_pos rfl]
               first
               | rw [if_pos (Int32.not_le.mp c109)]
               | rw [if_neg (Int32.not_lt.mpr c109)])
            | (have h6 : ¬ tT τ0 t n a1 = 60 := fun h => c85 (l_cmp_eq0.mpr (h60.mpr h))
               refine kk ?_ (hK2 _ _ rfl _ hM9)
               rw [if_neg h6, evc_bin hw hw2 (by decide)]
               unfold jn
               rw [if_neg (by decide), if_neg (by decide), if_neg (by decide), if_pos rfl]
               first
               | rw [if_pos c117]
               | rw [if_neg c117]
               | rw [if_pos c117])
        · refine g_goto (tgt := 120) B dX6_not0_112 (by decide) ?_
          refine g_iconst (v := (1)) B dX6_not0_120 (by decide) ?_
          refine g_goto (tgt := 125) B dX6_not0_121 (by decide) ?_
          refine g_ireti B dX6_not0_125 ?_
          first
            | exact hK1 f rfl _ _ hB9
            | exact absurd rfl c104
            | exact absurd c104 (by decide)
            | (have h6 := h60.mp (l_cmp_eq0.mp c85)
               refine kk ?_ (hK2 _ _ rfl _ hM9)
               rw [if_pos h6, evc_bin hw hw2 (by decide)]
               unfold jn
               rw [if_neg (by decide), if_neg (by decide), if_pos rfl]
               first
               | rw [if_pos (Int32.not_le.mp c109)]
               | rw [if_neg (Int32.not_lt.mpr c109)])
            | (have h6 : ¬ tT τ0 t n a1 = 60 := fun h => c85 (l_cmp_eq0.mpr (h60.mpr h))
               refine kk ?_ (hK2 _ _ rfl _ hM9)
               rw [if_neg h6, evc_bin hw hw2 (by decide)]
               unfold jn
               rw [if_neg (by decide), if_neg (by decide), if_neg (by decide), if_pos rfl]
               first
               | rw [if_pos c117]
               | rw [if_neg c117]
               | rw [if_pos c117])
    · rw [hf] at hK1 hK2; dsimp only at hK1 hK2; have hw2 := (pSum_ok (tT_TV hR) (pLev_ok (tT_TV hR) _) _ _ _ hf).1
      refine g_istore_n B dX6_not0_102 (by decide) rfl ?_
      refine g_iload_n B dX6_not0_103 rfl ?_
      refine g_if_eq (tgt := 115) B dX6_not0_104 (by decide) (fun c104 => ?_) (fun c104 => ?_)
      · refine g_iload_n B dX6_not0_115 rfl ?_
        refine g_iload_n B dX6_not0_116 rfl ?_
        refine g_icmp_ne (tgt := 124) B dX6_not0_117 (by decide) (fun c117 => ?_) (fun c117 => ?_)
        · refine g_iconst (v := (0)) B dX6_not0_124 (by decide) ?_
          refine g_ireti B dX6_not0_125 ?_
          first
            | exact hK1 f rfl _ _ hB9
            | exact absurd rfl c104
            | exact absurd c104 (by decide)
            | (have h6 := h60.mp (l_cmp_eq0.mp c85)
               refine kk ?_ (hK2 _ _ rfl _ hM9)
               rw [if_pos h6, evc_bin hw hw2 (by decide)]
               unfold jn
               rw [if_neg (by decide), if_neg (by decide), if_pos rfl]
               first
               | rw [if_pos (Int32.not_le.mp c109)]
               | rw [if_neg (Int32.not_lt.mpr c109)])
            | (have h6 : ¬ tT τ0 t n a1 = 60 := fun h => c85 (l_cmp_eq0.mpr (h60.mpr h))
               refine kk ?_ (hK2 _ _ rfl _ hM9)
               rw [if_neg h6, evc_bin hw hw2 (by decide)]
               unfold jn
               rw [if_neg (by decide), if_neg (by decide), if_neg (by decide), if_pos rfl]
               first
               | rw [if_pos c117]
               | rw [if_neg c117]
               | rw [if_pos c117])
        · refine g_iconst (v := (1)) B dX6_not0_120 (by decide) ?_
          refine g_goto (tgt := 125) B dX6_not0_121 (by decide) ?_
          refine g_ireti B dX6_not0_125 ?_
          first
            | exact hK1 f rfl _ _ hB9
            | exact absurd rfl c104
            | exact absurd c104 (by decide)
            | (have h6 := h60.mp (l_cmp_eq0.mp c85)
               refine kk ?_ (hK2 _ _ rfl _ hM9)
               rw [if_pos h6, evc_bin hw hw2 (by decide)]
               unfold jn
               rw [if_neg (by decide), if_neg (by decide), if_pos rfl]
               first
               | rw [if_pos (Int32.not_le.mp c109)]
               | rw [if_neg (Int32.not_lt.mpr c109)])
            | (have h6 : ¬ tT τ0 t n a1 = 60 := fun h => c85 (l_cmp_eq0.mpr (h60.mpr h))
               refine kk ?_ (hK2 _ _ rfl _ hM9)
               rw [if_neg h6, evc_bin hw hw2 (by decide)]
               unfold jn
               rw [if_neg (by decide), if_neg (by decide), if_neg (by decide), if_pos rfl]
               first
               | rw [if_pos c117]
               | rw [if_neg c117]
               | rw [if_pos c117])
      · refine g_iload_n B dX6_not0_107 rfl ?_
        refine g_iload_n B dX6_not0_108 rfl ?_
        refine g_icmp_ge (tgt := 124) B dX6_not0_109 (by decide) (fun c109 => ?_) (fun c109 => ?_)
        · refine g_iconst (v := (0)) B dX6_not0_124 (by decide) ?_
          refine g_ireti B dX6_not0_125 ?_
          first
            | exact hK1 f rfl _ _ hB9
            | exact absurd rfl c104
            | exact absurd c104 (by decide)
            | (have h6 := h60.mp (l_cmp_eq0.mp c85)
               refine kk ?_ (hK2 _ _ rfl _ hM9)
               rw [if_pos h6, evc_bin hw hw2 (by decide)]
               unfold jn
               rw [if_neg (by decide), if_neg (by decide), if_pos rfl]
               first
               | rw [if_pos (Int32.not_le.mp c109)]
               | rw [if_neg (Int32.not_lt.mpr c109)])
            | (have h6 : ¬ tT τ0 t n a1 = 60 := fun h => c85 (l_cmp_eq0.mpr (h60.mpr h))
               refine kk ?_ (hK2 _ _ rfl _ hM9)
               rw [if_neg h6, evc_bin hw hw2 (by decide)]
               unfold jn
               rw [if_neg (by decide), if_neg (by decide), if_neg (by decide), if_pos rfl]
               first
               | rw [if_pos c117]
               | rw [if_neg c117]
               | rw [if_pos c117])
        · refine g_goto (tgt := 120) B dX6_not0_112 (by decide) ?_
          refine g_iconst (v := (1)) B dX6_not0_120 (by decide) ?_
          refine g_goto (tgt := 125) B dX6_not0_121 (by decide) ?_
          refine g_ireti B dX6_not0_125 ?_
          first
            | exact hK1 f rfl _ _ hB9
            | exact absurd rfl c104
            | exact absurd c104 (by decide)
            | (have h6 := h60.mp (l_cmp_eq0.mp c85)
               refine kk ?_ (hK2 _ _ rfl _ hM9)
               rw [if_pos h6, evc_bin hw hw2 (by decide)]
               unfold jn
               rw [if_neg (by decide), if_neg (by decide), if_pos rfl]
               first
               | rw [if_pos (Int32.not_le.mp c109)]
               | rw [if_neg (Int32.not_lt.mpr c109)])
            | (have h6 : ¬ tT τ0 t n a1 = 60 := fun h => c85 (l_cmp_eq0.mpr (h60.mpr h))
               refine kk ?_ (hK2 _ _ rfl _ hM9)
               rw [if_neg h6, evc_bin hw hw2 (by decide)]
               unfold jn
               rw [if_neg (by decide), if_neg (by decide), if_neg (by decide), if_pos rfl]
               first
               | rw [if_pos c117]
               | rw [if_neg c117]
               | rw [if_pos c117])
  · refine g_iconst (v := (1)) B dX6_not0_88 (by decide) ?_
    refine g_goto (tgt := 93) B dX6_not0_89 (by decide) ?_
    refine g_istore_n B dX6_not0_93 (by decide) rfl ?_
    refine g_aload_n B dX6_not0_94 rfl ?_
    refine g_callVv (C := RX6) (As := []) B dX6_not0_95 (gc1 g_X6_177) (by rfl) ⟨rfl, hd_X6_next⟩ (by exact ⟨Nat.le_of_ble_eq_true rfl, Nat.le_of_ble_eq_true rfl⟩) ⟨rfl, rfl⟩ rfl rfl (by exact Nat.le_of_ble_eq_true rfl) recvM (c_nx hR hM (isS_0 hT0) (fun τ2 hM2 => ?_))
    refine g_aload_n B dX6_not0_98 rfl ?_
    refine g_callVi (C := RX6) (As := []) B dX6_not0_99 (gc1 g_X6_313) (by rfl) ⟨rfl, hd_X6_added0⟩ (by exact ⟨Nat.le_of_ble_eq_true rfl, Nat.le_of_ble_eq_true rfl⟩) ⟨rfl, rfl⟩ rfl rfl (by exact Nat.le_of_ble_eq_true rfl) recvM (c_added0 hR hM2 (fun f hf v9 τ9 hB9 => ?_) (fun cs2 a2 hf τ9 hM9 => ?_))
    · rw [hf] at hK1; dsimp only at hK1
      refine g_istore_n B dX6_not0_102 (by decide) rfl ?_
      refine g_iload_n B dX6_not0_103 rfl ?_
      refine g_if_eq (tgt := 115) B dX6_not0_104 (by decide) (fun c104 => ?_) (fun c104 => ?_)
      · refine g_iload_n B dX6_not0_115 rfl ?_
        refine g_iload_n B dX6_not0_116 rfl ?_
        refine g_icmp_ne (tgt := 124) B dX6_not0_117 (by decide) (fun c117 => ?_) (fun c117 => ?_)
        · refine g_iconst (v := (0)) B dX6_not0_124 (by decide) ?_
          refine g_ireti B dX6_not0_125 ?_
          first
            | exact hK1 f rfl _ _ hB9
            | exact absurd rfl c104
            | exact absurd c104 (by decide)
            | (have h6 := h60.mp (l_cmp_eq0.mp c85)
               refine kk ?_ (hK2 _ _ rfl _ hM9)
               rw [if_pos h6, evc_bin hw hw2 (by decide)]
               unfold jn
               rw [if_neg (by decide), if_neg (by decide), if_pos rfl]
               first
               | rw [if_pos (Int32.not_le.mp c109)]
               | rw [if_neg (Int32.not_lt.mpr c109)])
            | (have h6 : ¬ tT τ0 t n a1 = 60 := fun h => c85 (l_cmp_eq0.mpr (h60.mpr h))
               refine kk ?_ (hK2 _ _ rfl _ hM9)
               rw [if_neg h6, evc_bin hw hw2 (by decide)]
               unfold jn
               rw [if_neg (by decide), if_neg (by decide), if_neg (by decide), if_pos rfl]
               first
               | rw [if_pos c117]
               | rw [if_neg c117]
               | rw [if_pos c117])
        · refine g_iconst (v := (1)) B dX6_not0_120 (by decide) ?_
          refine g_goto (tgt := 125) B dX6_not0_121 (by decide) ?_
          refine g_ireti B dX6_not0_125 ?_
          first
            | exact hK1 f rfl _ _ hB9
            | exact absurd rfl c104
            | exact absurd c104 (by decide)
            | (have h6 := h60.mp (l_cmp_eq0.mp c85)
               refine kk ?_ (hK2 _ _ rfl _ hM9)
               rw [if_pos h6, evc_bin hw hw2 (by decide)]
               unfold jn
               rw [if_neg (by decide), if_neg (by decide), if_pos rfl]
               first
               | rw [if_pos (Int32.not_le.mp c109)]
               | rw [if_neg (Int32.not_lt.mpr c109)])
            | (have h6 : ¬ tT τ0 t n a1 = 60 := fun h => c85 (l_cmp_eq0.mpr (h60.mpr h))
               refine kk ?_ (hK2 _ _ rfl _ hM9)
               rw [if_neg h6, evc_bin hw hw2 (by decide)]
               unfold jn
               rw [if_neg (by decide), if_neg (by decide), if_neg (by decide), if_pos rfl]
               first
               | rw [if_pos c117]
               | rw [if_neg c117]
               | rw [if_pos c117])
      · refine g_iload_n B dX6_not0_107 rfl ?_
        refine g_iload_n B dX6_not0_108 rfl ?_
        refine g_icmp_ge (tgt := 124) B dX6_not0_109 (by decide) (fun c109 => ?_) (fun c109 => ?_)
        · refine g_iconst (v := (0)) B dX6_not0_124 (by decide) ?_
          refine g_ireti B dX6_not0_125 ?_
          first
            | exact hK1 f rfl _ _ hB9
            | exact absurd rfl c104
            | exact absurd c104 (by decide)
            | (have h6 := h60.mp (l_cmp_eq0.mp c85)
               refine kk ?_ (hK2 _ _ rfl _ hM9)
               rw [if_pos h6, evc_bin hw hw2 (by decide)]
               unfold jn
               rw [if_neg (by decide), if_neg (by decide), if_pos rfl]
               first
               | rw [if_pos (Int32.not_le.mp c109)]
               | rw [if_neg (Int32.not_lt.mpr c109)])
            | (have h6 : ¬ tT τ0 t n a1 = 60 := fun h => c85 (l_cmp_eq0.mpr (h60.mpr h))
               refine kk ?_ (hK2 _ _ rfl _ hM9)
               rw [if_neg h6, evc_bin hw hw2 (by decide)]
               unfold jn
               rw [if_neg (by decide), if_neg (by decide), if_neg (by decide), if_pos rfl]
               first
               | rw [if_pos c117]
               | rw [if_neg c117]
               | rw [if_pos c117])
        · refine g_goto (tgt := 120) B dX6_not0_112 (by decide) ?_
          refine g_iconst (v := (1)) B dX6_not0_120 (by decide) ?_
          refine g_goto (tgt := 125) B dX6_not0_121 (by decide) ?_
          refine g_ireti B dX6_not0_125 ?_
          first
            | exact hK1 f rfl _ _ hB9
            | exact absurd rfl c104
            | exact absurd c104 (by decide)
            | (have h6 := h60.mp (l_cmp_eq0.mp c85)
               refine kk ?_ (hK2 _ _ rfl _ hM9)
               rw [if_pos h6, evc_bin hw hw2 (by decide)]
               unfold jn
               rw [if_neg (by decide), if_neg (by decide), if_pos rfl]
               first
               | rw [if_pos (Int32.not_le.mp c109)]
               | rw [if_neg (Int32.not_lt.mpr c109)])
            | (have h6 : ¬ tT τ0 t n a1 = 60 := fun h => c85 (l_cmp_eq0.mpr (h60.mpr h))
               refine kk ?_ (hK2 _ _ rfl _ hM9)
               rw [if_neg h6, evc_bin hw hw2 (by decide)]
               unfold jn
               rw [if_neg (by decide), if_neg (by decide), if_neg (by decide), if_pos rfl]
               first
               | rw [if_pos c117]
               | rw [if_neg c117]
               | rw [if_pos c117])
    · rw [hf] at hK1 hK2; dsimp only at hK1 hK2; have hw2 := (pSum_ok (tT_TV hR) (pLev_ok (tT_TV hR) _) _ _ _ hf).1
      refine g_istore_n B dX6_not0_102 (by decide) rfl ?_
      refine g_iload_n B dX6_not0_103 rfl ?_
      refine g_if_eq (tgt := 115) B dX6_not0_104 (by decide) (fun c104 => ?_) (fun c104 => ?_)
      · refine g_iload_n B dX6_not0_115 rfl ?_
        refine g_iload_n B dX6_not0_116 rfl ?_
        refine g_icmp_ne (tgt := 124) B dX6_not0_117 (by decide) (fun c117 => ?_) (fun c117 => ?_)
        · refine g_iconst (v := (0)) B dX6_not0_124 (by decide) ?_
          refine g_ireti B dX6_not0_125 ?_
          first
            | exact hK1 f rfl _ _ hB9
            | exact absurd rfl c104
            | exact absurd c104 (by decide)
            | (have h6 := h60.mp (l_cmp_eq0.mp c85)
               refine kk ?_ (hK2 _ _ rfl _ hM9)
               rw [if_pos h6, evc_bin hw hw2 (by decide)]
               unfold jn
               rw [if_neg (by decide), if_neg (by decide), if_pos rfl]
               first
               | rw [if_pos (Int32.not_le.mp c109)]
               | rw [if_neg (Int32.not_lt.mpr c109)])
            | (have h6 : ¬ tT τ0 t n a1 = 60 := fun h => c85 (l_cmp_eq0.mpr (h60.mpr h))
               refine kk ?_ (hK2 _ _ rfl _ hM9)
               rw [if_neg h6, evc_bin hw hw2 (by decide)]
               unfold jn
               rw [if_neg (by decide), if_neg (by decide), if_neg (by decide), if_pos rfl]
               first
               | rw [if_pos c117]
               | rw [if_neg c117]
               | rw [if_pos c117])
        · refine g_iconst (v := (1)) B dX6_not0_120 (by decide) ?_
          refine g_goto (tgt := 125) B dX6_not0_121 (by decide) ?_
          refine g_ireti B dX6_not0_125 ?_
          first
            | exact hK1 f rfl _ _ hB9
            | exact absurd rfl c104
            | exact absurd c104 (by decide)
            | (have h6 := h60.mp (l_cmp_eq0.mp c85)
               refine kk ?_ (hK2 _ _ rfl _ hM9)
               rw [if_pos h6, evc_bin hw hw2 (by decide)]
               unfold jn
               rw [if_neg (by decide), if_neg (by decide), if_pos rfl]
               first
               | rw [if_pos (Int32.not_le.mp c109)]
               | rw [if_neg (Int32.not_lt.mpr c109)])
            | (have h6 : ¬ tT τ0 t n a1 = 60 := fun h => c85 (l_cmp_eq0.mpr (h60.mpr h))
               refine kk ?_ (hK2 _ _ rfl _ hM9)
               rw [if_neg h6, evc_bin hw hw2 (by decide)]
               unfold jn
               rw [if_neg (by decide), if_neg (by decide), if_neg (by decide), if_pos rfl]
               first
               | rw [if_pos c117]
               | rw [if_neg c117]
               | rw [if_pos c117])
      · refine g_iload_n B dX6_not0_107 rfl ?_
        refine g_iload_n B dX6_not0_108 rfl ?_
        refine g_icmp_ge (tgt := 124) B dX6_not0_109 (by decide) (fun c109 => ?_) (fun c109 => ?_)
        · refine g_iconst (v := (0)) B dX6_not0_124 (by decide) ?_
          refine g_ireti B dX6_not0_125 ?_
          first
            | exact hK1 f rfl _ _ hB9
            | exact absurd rfl c104
            | exact absurd c104 (by decide)
            | (have h6 := h60.mp (l_cmp_eq0.mp c85)
               refine kk ?_ (hK2 _ _ rfl _ hM9)
               rw [if_pos h6, evc_bin hw hw2 (by decide)]
               unfold jn
               rw [if_neg (by decide), if_neg (by decide), if_pos rfl]
               first
               | rw [if_pos (Int32.not_le.mp c109)]
               | rw [if_neg (Int32.not_lt.mpr c109)])
            | (have h6 : ¬ tT τ0 t n a1 = 60 := fun h => c85 (l_cmp_eq0.mpr (h60.mpr h))
               refine kk ?_ (hK2 _ _ rfl _ hM9)
               rw [if_neg h6, evc_bin hw hw2 (by decide)]
               unfold jn
               rw [if_neg (by decide), if_neg (by decide), if_neg (by decide), if_pos rfl]
               first
               | rw [if_pos c117]
               | rw [if_neg c117]
               | rw [if_pos c117])
        · refine g_goto (tgt := 120) B dX6_not0_112 (by decide) ?_
          refine g_iconst (v := (1)) B dX6_not0_120 (by decide) ?_
          refine g_goto (tgt := 125) B dX6_not0_121 (by decide) ?_
          refine g_ireti B dX6_not0_125 ?_
          first
            | exact hK1 f rfl _ _ hB9
            | exact absurd rfl c104
            | exact absurd c104 (by decide)
            | (have h6 := h60.mp (l_cmp_eq0.mp c85)
               refine kk ?_ (hK2 _ _ rfl _ hM9)
               rw [if_pos h6, evc_bin hw hw2 (by decide)]
               unfold jn
               rw [if_neg (by decide), if_neg (by decide), if_pos rfl]
               first
               | rw [if_pos (Int32.not_le.mp c109)]
               | rw [if_neg (Int32.not_lt.mpr c109)])
            | (have h6 : ¬ tT τ0 t n a1 = 60 := fun h => c85 (l_cmp_eq0.mpr (h60.mpr h))
               refine kk ?_ (hK2 _ _ rfl _ hM9)
               rw [if_neg h6, evc_bin hw hw2 (by decide)]
               unfold jn
               rw [if_neg (by decide), if_neg (by decide), if_neg (by decide), if_pos rfl]
               first
               | rw [if_pos c117]
               | rw [if_neg c117]
               | rw [if_pos c117])

set_option maxRecDepth 100000 in
set_option maxHeartbeats 4000000 in
theorem c_not0 {Z : LZ} {ad : Nat → Nat} {τ0 τ : St} {K : Int32 → St → Prop} {t n a : Nat} (hR : RB τ0 t n) (hM : MS τ0 t n 0 a τ) (hK1 : ∀ f, pNot (tT τ0 t n) (tV τ0 t n) (pLev (tT τ0 t n) (tV τ0 t n) 5) a = .inl f → ∀ v τ', MB τ0 t n f τ' → K v τ') (hK2 : ∀ cs a2, pNot (tT τ0 t n) (tV τ0 t n) (pLev (tT τ0 t n) (tV τ0 t n) 5) a = .inr (cs, a2) → ∀ τ', MS τ0 t n 0 a2 τ' → K (evc (eM τ0) cs) τ') : CC lyM Z ad yX6_not0 wsX6_not0 (rmk 37) [.ref (ad 0)] τ (rI K) := by
  refine CC.of (cc := cX6_not0) (nL := 4) (ret := (some .int)) rfl rfl ⟨rfl, rfl⟩ (by exact Nat.le_of_ble_eq_true rfl) ?_
  intro X B
  change GG _ _ _ _ X _ 0 [some (.ref (ad 0)), none, none, none] [] _
  change Amb _ _ _ _ X _ _ RX6 _ _ at B
  refine g_aload_n B dX6_not0_0 rfl ?_
  refine g_bipush (v := (110)) B dX6_not0_1 (by decide) ?_
  refine g_bipush (v := (111)) B dX6_not0_3 (by decide) ?_
  refine g_bipush (v := (116)) B dX6_not0_5 (by decide) ?_
  refine g_iconst (v := (0)) B dX6_not0_7 (by decide) ?_
  refine g_iconst (v := (0)) B dX6_not0_8 (by decide) ?_
  refine g_iconst (v := (0)) B dX6_not0_9 (by decide) ?_
  refine g_iconst (v := (0)) B dX6_not0_10 (by decide) ?_
  refine g_iconst (v := (0)) B dX6_not0_11 (by decide) ?_
  refine g_callVi (C := RX6) (As := [.int _, .int _, .int _, .int _, .int _, .int _, .int _, .int _]) B dX6_not0_12 (gc1 g_X6_180) (by rfl) ⟨rfl, hd_X6_isWord⟩ (by exact ⟨Nat.le_of_ble_eq_true rfl, Nat.le_of_ble_eq_true rfl⟩) ⟨rfl, rfl⟩ rfl rfl (by exact Nat.le_of_ble_eq_true rfl) recvM (c_key (c := 306) hR hM (by decide) (fun _ _ _ => wS_not) ?_)
  refine g_if_eq (tgt := 52) B dX6_not0_15 (by decide) (fun c15 => ?_) (fun c15 => ?_)
  · have hno : ¬ tT τ0 t n a = 306 := b1_0.mp c15
    unfold pNot at hK1 hK2
    rw [if_neg hno] at hK1 hK2
    unfold pCmp at hK1 hK2
    refine g_aload_n B dX6_not0_52 rfl ?_
    refine g_callVi (C := RX6) (As := []) B dX6_not0_53 (gc1 g_X6_313) (by rfl) ⟨rfl, hd_X6_added0⟩ (by exact ⟨Nat.le_of_ble_eq_true rfl, Nat.le_of_ble_eq_true rfl⟩) ⟨rfl, rfl⟩ rfl rfl (by exact Nat.le_of_ble_eq_true rfl) recvM (c_added0 hR hM (fun f hf v8 τ8 hB8 => ?_) (fun cs a1 hf τ8 hM8 => ?_))
    · rw [hf] at hK1; dsimp only at hK1
      refine g_istore_n B dX6_not0_56 (by decide) rfl ?_
      refine g_aload_n B dX6_not0_57 rfl ?_
      refine g_bipush (v := (60)) B dX6_not0_58 (by decide) ?_
      first
        | refine g_callVi (C := RX6) (As := [.int _]) B dX6_not0_60 (gc1 g_X6_202) (by rfl) ⟨rfl, hd_X6_isSign⟩ (by exact ⟨Nat.le_of_ble_eq_true rfl, Nat.le_of_ble_eq_true rfl⟩) ⟨rfl, rfl⟩ rfl rfl (by exact Nat.le_of_ble_eq_true rfl) recvM (c_sgnB hB8 ?_)
        | refine g_callVi (C := RX6) (As := [.int _]) B dX6_not0_60 (gc1 g_X6_202) (by rfl) ⟨rfl, hd_X6_isSign⟩ (by exact ⟨Nat.le_of_ble_eq_true rfl, Nat.le_of_ble_eq_true rfl⟩) ⟨rfl, rfl⟩ rfl rfl (by exact Nat.le_of_ble_eq_true rfl) recvM (c_sgn hM8 (show isS 60 by decide) ?_)
      refine g_if_ne (tgt := 77) B dX6_not0_63 (by decide) (fun c63 => ?_) (fun c63 => ?_)
      · first
          | exact absurd rfl c63
          | exact absurd rfl c72
          | (have hT : tT τ0 t n a1 = 60 ∨ tT τ0 t n a1 = 61 := by first | exact Or.inl (b1_n0.mp c63) | exact Or.inr (b1_n0.mp c72)
             rw [if_pos hT] at hK1 hK2
             exact n2_not0 B hR (pSum_ok (tT_TV hR) (pLev_ok (tT_TV hR) _) _ _ _ hf).1 hM8 hT hK1 hK2)
      · refine g_aload_n B dX6_not0_66 rfl ?_
        refine g_bipush (v := (61)) B dX6_not0_67 (by decide) ?_
        first
          | refine g_callVi (C := RX6) (As := [.int _]) B dX6_not0_69 (gc1 g_X6_202) (by rfl) ⟨rfl, hd_X6_isSign⟩ (by exact ⟨Nat.le_of_ble_eq_true rfl, Nat.le_of_ble_eq_true rfl⟩) ⟨rfl, rfl⟩ rfl rfl (by exact Nat.le_of_ble_eq_true rfl) recvM (c_sgnB hB8 ?_)
          | refine g_callVi (C := RX6) (As := [.int _]) B dX6_not0_69 (gc1 g_X6_202) (by rfl) ⟨rfl, hd_X6_isSign⟩ (by exact ⟨Nat.le_of_ble_eq_true rfl, Nat.le_of_ble_eq_true rfl⟩) ⟨rfl, rfl⟩ rfl rfl (by exact Nat.le_of_ble_eq_true rfl) recvM (c_sgn hM8 (show isS 61 by decide) ?_)
        refine g_if_ne (tgt := 77) B dX6_not0_72 (by decide) (fun c72 => ?_) (fun c72 => ?_)
        · first
            | exact absurd rfl c63
            | exact absurd rfl c72
            | (have hT : tT τ0 t n a1 = 60 ∨ tT τ0 t n a1 = 61 := by first | exact Or.inl (b1_n0.mp c63) | exact Or.inr (b1_n0.mp c72)
               rw [if_pos hT] at hK1 hK2
               exact n2_not0 B hR (pSum_ok (tT_TV hR) (pLev_ok (tT_TV hR) _) _ _ _ hf).1 hM8 hT hK1 hK2)
        · refine g_iload_n B dX6_not0_75 rfl ?_
          refine g_ireti B dX6_not0_76 ?_
          first
            | exact hK1 f rfl _ _ hB8
            | (rw [if_neg (fun h => h.elim (b1_0.mp c63) (b1_0.mp c72))] at hK2
               exact hK2 _ _ rfl _ hM8)
    · rw [hf] at hK1 hK2; dsimp only at hK1 hK2
      refine g_istore_n B dX6_not0_56 (by decide) rfl ?_
      refine g_aload_n B dX6_not0_57 rfl ?_
      refine g_bipush (v := (60)) B dX6_not0_58 (by decide) ?_
      first
        | refine g_callVi (C := RX6) (As := [.int _]) B dX6_not0_60 (gc1 g_X6_202) (by rfl) ⟨rfl, hd_X6_isSign⟩ (by exact ⟨Nat.le_of_ble_eq_true rfl, Nat.le_of_ble_eq_true rfl⟩) ⟨rfl, rfl⟩ rfl rfl (by exact Nat.le_of_ble_eq_true rfl) recvM (c_sgnB hB8 ?_)
        | refine g_callVi (C := RX6) (As := [.int _]) B dX6_not0_60 (gc1 g_X6_202) (by rfl) ⟨rfl, hd_X6_isSign⟩ (by exact ⟨Nat.le_of_ble_eq_true rfl, Nat.le_of_ble_eq_true rfl⟩) ⟨rfl, rfl⟩ rfl rfl (by exact Nat.le_of_ble_eq_true rfl) recvM (c_sgn hM8 (show isS 60 by decide) ?_)
      refine g_if_ne (tgt := 77) B dX6_not0_63 (by decide) (fun c63 => ?_) (fun c63 => ?_)
      · first
          | exact absurd rfl c63
          | exact absurd rfl c72
          | (have hT : tT τ0 t n a1 = 60 ∨ tT τ0 t n a1 = 61 := by first | exact Or.inl (b1_n0.mp c63) | exact Or.inr (b1_n0.mp c72)
             rw [if_pos hT] at hK1 hK2
             exact n2_not0 B hR (pSum_ok (tT_TV hR) (pLev_ok (tT_TV hR) _) _ _ _ hf).1 hM8 hT hK1 hK2)
      · refine g_aload_n B dX6_not0_66 rfl ?_
        refine g_bipush (v := (61)) B dX6_not0_67 (by decide) ?_
        first
          | refine g_callVi (C := RX6) (As := [.int _]) B dX6_not0_69 (gc1 g_X6_202) (by rfl) ⟨rfl, hd_X6_isSign⟩ (by exact ⟨Nat.le_of_ble_eq_true rfl, Nat.le_of_ble_eq_true rfl⟩) ⟨rfl, rfl⟩ rfl rfl (by exact Nat.le_of_ble_eq_true rfl) recvM (c_sgnB hB8 ?_)
          | refine g_callVi (C := RX6) (As := [.int _]) B dX6_not0_69 (gc1 g_X6_202) (by rfl) ⟨rfl, hd_X6_isSign⟩ (by exact ⟨Nat.le_of_ble_eq_true rfl, Nat.le_of_ble_eq_true rfl⟩) ⟨rfl, rfl⟩ rfl rfl (by exact Nat.le_of_ble_eq_true rfl) recvM (c_sgn hM8 (show isS 61 by decide) ?_)
        refine g_if_ne (tgt := 77) B dX6_not0_72 (by decide) (fun c72 => ?_) (fun c72 => ?_)
        · first
            | exact absurd rfl c63
            | exact absurd rfl c72
            | (have hT : tT τ0 t n a1 = 60 ∨ tT τ0 t n a1 = 61 := by first | exact Or.inl (b1_n0.mp c63) | exact Or.inr (b1_n0.mp c72)
               rw [if_pos hT] at hK1 hK2
               exact n2_not0 B hR (pSum_ok (tT_TV hR) (pLev_ok (tT_TV hR) _) _ _ _ hf).1 hM8 hT hK1 hK2)
        · refine g_iload_n B dX6_not0_75 rfl ?_
          refine g_ireti B dX6_not0_76 ?_
          first
            | exact hK1 f rfl _ _ hB8
            | (rw [if_neg (fun h => h.elim (b1_0.mp c63) (b1_0.mp c72))] at hK2
               exact hK2 _ _ rfl _ hM8)
  · refine g_aload_n B dX6_not0_18 rfl ?_
    refine g_callVi (C := RX6) (As := []) B dX6_not0_19 (gc1 g_X6_205) (by rfl) ⟨rfl, hd_X6_opens⟩ (by exact ⟨Nat.le_of_ble_eq_true rfl, Nat.le_of_ble_eq_true rfl⟩) ⟨rfl, rfl⟩ rfl rfl (by exact Nat.le_of_ble_eq_true rfl) recvM (c_opn hR hM (by decide) (by rw [b1_n0.mp c15]; decide) (fun τ7 hM7 => ?_))
    refine g_if_ne (tgt := 27) B dX6_not0_22 (by decide) (fun c22 => ?_) (fun c22 => ?_)
    · refine g_aload_n B dX6_not0_27 rfl ?_
      refine g_callVi (C := RX6) (As := []) B dX6_not0_28 (gc1 g_X6_298) (by rfl) ⟨rfl, hd_X6_not1⟩ (by exact ⟨Nat.le_of_ble_eq_true rfl, Nat.le_of_ble_eq_true rfl⟩) ⟨rfl, rfl⟩ rfl rfl (by exact Nat.le_of_ble_eq_true rfl) recvM (c_not1 hR hM7 (fun f hf v8 τ8 hB8 => ?_) (fun cs a2 hf τ8 hM8 => ?_))
      · refine g_istore_n B dX6_not0_31 (by decide) rfl ?_
        refine g_aload_n B dX6_not0_32 rfl ?_
        refine g_dup B dX6_not0_33 rfl ?_
        refine g_getI (T := TX6) (N := 42) B dX6_not0_34 (by decide) (by rfl) (inq inlX6) rfl 24 (by decide) (mq f_X6_171) (by rfl) ?_
        refine g_iconst (v := (1)) B dX6_not0_37 (by decide) ?_
        refine g_isub B dX6_not0_38 ?_
        refine g_putI (T := TX6) (N := 42) B dX6_not0_39 (by decide) (by rfl) (inq inlX6) rfl 24 (by decide) (mq f_X6_171) tyX6_ok nmX6 rfl ⟨rfl, rfl⟩ (by rfl) ?_
        refine g_iload_n B dX6_not0_42 rfl ?_
        refine g_if_ne (tgt := 50) B dX6_not0_43 (by decide) (fun c43 => ?_) (fun c43 => ?_)
        · refine g_iconst (v := (0)) B dX6_not0_50 (by decide) ?_
          refine g_ireti B dX6_not0_51 ?_
          first
            | (refine hK1 f ?_ _ _ hB8.close
               unfold pNot
               rw [if_pos (b1_n0.mp c15)]
               show (match pNot (tT τ0 t n) (tV τ0 t n) (pLev (tT τ0 t n) (tV τ0 t n) 4) (a + 1) with | .inl f => _ | .inr (cs, a2) => _) = _
               rw [hf])
            | (refine kk ?_ (hK2 (cs ++ [-21]) a2 (by
                 unfold pNot
                 rw [if_pos (b1_n0.mp c15)]
                 show (match pNot (tT τ0 t n) (tV τ0 t n) (pLev (tT τ0 t n) (tV τ0 t n) 4) (a + 1) with | .inl f => _ | .inr (cs, a2) => _) = _
                 rw [hf]) _ (MS.close (by decide) hM8))
               rw [evc_not (pNot_ok (tT_TV hR) (pLev_ok (tT_TV hR) _) _ _ _ hf).1]
               first
               | rw [if_neg c43]
               | rw [if_pos c43])
        · refine g_iconst (v := (1)) B dX6_not0_46 (by decide) ?_
          refine g_goto (tgt := 51) B dX6_not0_47 (by decide) ?_
          refine g_ireti B dX6_not0_51 ?_
          first
            | (refine hK1 f ?_ _ _ hB8.close
               unfold pNot
               rw [if_pos (b1_n0.mp c15)]
               show (match pNot (tT τ0 t n) (tV τ0 t n) (pLev (tT τ0 t n) (tV τ0 t n) 4) (a + 1) with | .inl f => _ | .inr (cs, a2) => _) = _
               rw [hf])
            | (refine kk ?_ (hK2 (cs ++ [-21]) a2 (by
                 unfold pNot
                 rw [if_pos (b1_n0.mp c15)]
                 show (match pNot (tT τ0 t n) (tV τ0 t n) (pLev (tT τ0 t n) (tV τ0 t n) 4) (a + 1) with | .inl f => _ | .inr (cs, a2) => _) = _
                 rw [hf]) _ (MS.close (by decide) hM8))
               rw [evc_not (pNot_ok (tT_TV hR) (pLev_ok (tT_TV hR) _) _ _ _ hf).1]
               first
               | rw [if_neg c43]
               | rw [if_pos c43])
      · refine g_istore_n B dX6_not0_31 (by decide) rfl ?_
        refine g_aload_n B dX6_not0_32 rfl ?_
        refine g_dup B dX6_not0_33 rfl ?_
        refine g_getI (T := TX6) (N := 42) B dX6_not0_34 (by decide) (by rfl) (inq inlX6) rfl 24 (by decide) (mq f_X6_171) (by rfl) ?_
        refine g_iconst (v := (1)) B dX6_not0_37 (by decide) ?_
        refine g_isub B dX6_not0_38 ?_
        refine g_putI (T := TX6) (N := 42) B dX6_not0_39 (by decide) (by rfl) (inq inlX6) rfl 24 (by decide) (mq f_X6_171) tyX6_ok nmX6 rfl ⟨rfl, rfl⟩ (by rfl) ?_
        refine g_iload_n B dX6_not0_42 rfl ?_
        refine g_if_ne (tgt := 50) B dX6_not0_43 (by decide) (fun c43 => ?_) (fun c43 => ?_)
        · refine g_iconst (v := (0)) B dX6_not0_50 (by decide) ?_
          refine g_ireti B dX6_not0_51 ?_
          first
            | (refine hK1 f ?_ _ _ hB8.close
               unfold pNot
               rw [if_pos (b1_n0.mp c15)]
               show (match pNot (tT τ0 t n) (tV τ0 t n) (pLev (tT τ0 t n) (tV τ0 t n) 4) (a + 1) with | .inl f => _ | .inr (cs, a2) => _) = _
               rw [hf])
            | (refine kk ?_ (hK2 (cs ++ [-21]) a2 (by
                 unfold pNot
                 rw [if_pos (b1_n0.mp c15)]
                 show (match pNot (tT τ0 t n) (tV τ0 t n) (pLev (tT τ0 t n) (tV τ0 t n) 4) (a + 1) with | .inl f => _ | .inr (cs, a2) => _) = _
                 rw [hf]) _ (MS.close (by decide) hM8))
               rw [evc_not (pNot_ok (tT_TV hR) (pLev_ok (tT_TV hR) _) _ _ _ hf).1]
               first
               | rw [if_neg c43]
               | rw [if_pos c43])
        · refine g_iconst (v := (1)) B dX6_not0_46 (by decide) ?_
          refine g_goto (tgt := 51) B dX6_not0_47 (by decide) ?_
          refine g_ireti B dX6_not0_51 ?_
          first
            | (refine hK1 f ?_ _ _ hB8.close
               unfold pNot
               rw [if_pos (b1_n0.mp c15)]
               show (match pNot (tT τ0 t n) (tV τ0 t n) (pLev (tT τ0 t n) (tV τ0 t n) 4) (a + 1) with | .inl f => _ | .inr (cs, a2) => _) = _
               rw [hf])
            | (refine kk ?_ (hK2 (cs ++ [-21]) a2 (by
                 unfold pNot
                 rw [if_pos (b1_n0.mp c15)]
                 show (match pNot (tT τ0 t n) (tV τ0 t n) (pLev (tT τ0 t n) (tV τ0 t n) 4) (a + 1) with | .inl f => _ | .inr (cs, a2) => _) = _
                 rw [hf]) _ (MS.close (by decide) hM8))
               rw [evc_not (pNot_ok (tT_TV hR) (pLev_ok (tT_TV hR) _) _ _ _ hf).1]
               first
               | rw [if_neg c43]
               | rw [if_pos c43])
    · refine g_iconst (v := (0)) B dX6_not0_25 (by decide) ?_
      refine g_ireti B dX6_not0_26 ?_
      exact absurd c22 (by decide)
set_option maxRecDepth 100000 in
set_option maxHeartbeats 4000000 in
theorem lB_both0 {Z : LZ} {ad : Nat → Nat} {X : CX} {K : Int32 → St → Prop} {τ0 τ : St} {t n f : Nat} {v : Int32} (B : Amb lyM Z ad (rmk 38) X cX6_both0 wsX6_both0 RX6 3 (some .int)) (hB : MB τ0 t n f τ) (hK : K v τ) : GG lyM Z ad (rmk 38) X (rI K) 5 [some (.ref (ad 0)), some (.int v), none] [] τ := by
  refine g_aload_n B dX6_both0_5 rfl ?_
  refine g_bipush (v := (97)) B dX6_both0_6 (by decide) ?_
  refine g_bipush (v := (110)) B dX6_both0_8 (by decide) ?_
  refine g_bipush (v := (100)) B dX6_both0_10 (by decide) ?_
  refine g_iconst (v := (0)) B dX6_both0_12 (by decide) ?_
  refine g_iconst (v := (0)) B dX6_both0_13 (by decide) ?_
  refine g_iconst (v := (0)) B dX6_both0_14 (by decide) ?_
  refine g_iconst (v := (0)) B dX6_both0_15 (by decide) ?_
  refine g_iconst (v := (0)) B dX6_both0_16 (by decide) ?_
  refine g_callVi (C := RX6) (As := [.int _, .int _, .int _, .int _, .int _, .int _, .int _, .int _]) B dX6_both0_17 (gc1 g_X6_180) (by rfl) ⟨rfl, hd_X6_isWord⟩ (by exact ⟨Nat.le_of_ble_eq_true rfl, Nat.le_of_ble_eq_true rfl⟩) ⟨rfl, rfl⟩ rfl rfl (by exact Nat.le_of_ble_eq_true rfl) recvM (c_keyB hB ?_)
  refine g_if_eq (tgt := 49) B dX6_both0_20 (by decide) (fun c20 => ?_) (fun c20 => ?_)
  · refine g_iload_n B dX6_both0_49 rfl ?_
    refine g_ireti B dX6_both0_50 ?_
    exact hK
  · exact absurd rfl c20
set_option maxRecDepth 100000 in
set_option maxHeartbeats 4000000 in
theorem l_both0 {Z : LZ} {ad : Nat → Nat} {X : CX} {K : Int32 → St → Prop} {τ0 : St} {t n : Nat} (B : Amb lyM Z ad (rmk 38) X cX6_both0 wsX6_both0 RX6 3 (some .int)) (hR : RB τ0 t n) : ∀ (k : Nat) (cs : List Int32) (b : Nat) (τ : St), 160 ≤ b + k → WF cs → MS τ0 t n 0 b τ → (∀ f, pLoop (pNot (tT τ0 t n) (tV τ0 t n) (pLev (tT τ0 t n) (tV τ0 t n) 5)) (opAnd (tT τ0 t n)) (k + 1) cs b = .inl f → ∀ v τ', MB τ0 t n f τ' → K v τ') → (∀ ds a2, pLoop (pNot (tT τ0 t n) (tV τ0 t n) (pLev (tT τ0 t n) (tV τ0 t n) 5)) (opAnd (tT τ0 t n)) (k + 1) cs b = .inr (ds, a2) → ∀ τ', MS τ0 t n 0 a2 τ' → K (evc (eM τ0) ds) τ') → GG lyM Z ad (rmk 38) X (rI K) 5 [some (.ref (ad 0)), some (.int (evc (eM τ0) cs)), none] [] τ := by
  intro k
  induction k using Nat.strongRecOn with
  | ind k ih =>
  intro cs b τ hk hw hM hK1 hK2
  have hn := hR.2.2.2
  unfold pLoop at hK1 hK2
  refine g_aload_n B dX6_both0_5 rfl ?_
  refine g_bipush (v := (97)) B dX6_both0_6 (by decide) ?_
  refine g_bipush (v := (110)) B dX6_both0_8 (by decide) ?_
  refine g_bipush (v := (100)) B dX6_both0_10 (by decide) ?_
  refine g_iconst (v := (0)) B dX6_both0_12 (by decide) ?_
  refine g_iconst (v := (0)) B dX6_both0_13 (by decide) ?_
  refine g_iconst (v := (0)) B dX6_both0_14 (by decide) ?_
  refine g_iconst (v := (0)) B dX6_both0_15 (by decide) ?_
  refine g_iconst (v := (0)) B dX6_both0_16 (by decide) ?_
  refine g_callVi (C := RX6) (As := [.int _, .int _, .int _, .int _, .int _, .int _, .int _, .int _]) B dX6_both0_17 (gc1 g_X6_180) (by rfl) ⟨rfl, hd_X6_isWord⟩ (by exact ⟨Nat.le_of_ble_eq_true rfl, Nat.le_of_ble_eq_true rfl⟩) ⟨rfl, rfl⟩ rfl rfl (by exact Nat.le_of_ble_eq_true rfl) recvM (c_key (c := 305) hR hM (by decide) (fun _ _ _ => wS_and) ?_)
  refine g_if_eq (tgt := 49) B dX6_both0_20 (by decide) (fun c20 => ?_) (fun c20 => ?_)
  · refine g_iload_n B dX6_both0_49 rfl ?_
    refine g_ireti B dX6_both0_50 ?_
    have hop : opAnd (tT τ0 t n) b = none := if_neg (b1_0.mp c20)
    rw [hop] at hK2
    exact hK2 _ _ rfl τ hM
  · have hT := b1_n0.mp c20
    have hop : opAnd (tT τ0 t n) b = some (-12) := if_pos hT
    have hb := tT_lt hR (show tT τ0 t n b ≠ 0 by rw [hT]; decide)
    rw [hop] at hK1 hK2
    dsimp only at hK1 hK2
    refine g_aload_n B dX6_both0_23 rfl ?_
    refine g_callVv (C := RX6) (As := []) B dX6_both0_24 (gc1 g_X6_177) (by rfl) ⟨rfl, hd_X6_next⟩ (by exact ⟨Nat.le_of_ble_eq_true rfl, Nat.le_of_ble_eq_true rfl⟩) ⟨rfl, rfl⟩ rfl rfl (by exact Nat.le_of_ble_eq_true rfl) recvM (c_nx hR hM (by rw [hT]; decide) (fun τ2 hM2 => ?_))
    refine g_aload_n B dX6_both0_27 rfl ?_
    refine g_callVi (C := RX6) (As := []) B dX6_both0_28 (gc1 g_X6_316) (by rfl) ⟨rfl, hd_X6_not0⟩ (by exact ⟨Nat.le_of_ble_eq_true rfl, Nat.le_of_ble_eq_true rfl⟩) ⟨rfl, rfl⟩ rfl rfl (by exact Nat.le_of_ble_eq_true rfl) recvM (c_not0 hR hM2 (fun f hf v8 τ8 hB8 => ?_) (fun cs2 a2 hf τ8 hM8 => ?_))
    · rw [hf] at hK1; dsimp only at hK1
      refine g_istore_n B dX6_both0_31 (by decide) rfl ?_
      refine g_iload_n B dX6_both0_32 rfl ?_
      refine g_if_eq (tgt := 44) B dX6_both0_33 (by decide) (fun c33 => ?_) (fun c33 => ?_)
      · refine g_iconst (v := (0)) B dX6_both0_44 (by decide) ?_
        refine g_istore_n B dX6_both0_45 (by decide) rfl ?_
        refine g_goto (tgt := 5) B dX6_both0_46 (by decide) ?_
        refine g_drop 2 ?_
        first
          | exact lB_both0 B hB8 (hK1 f rfl _ _ hB8)
          | (have hv : ∀ z : Int32, z = jn (-12) (evc (eM τ0) cs) (evc (eM τ0) cs2) → z = evc (eM τ0) (cs ++ cs2 ++ [-12]) := fun z h => h.trans (evc_bin hw hw2 (by decide)).symm
             first
             | rw [hv 0 (jn_and_l c33)]
             | rw [hv 0 (jn_and_r c37)]
             | rw [hv 1 (jn_and_1 c33 c37)]
             obtain ⟨k', rfl⟩ : ∃ k', k = k' + 1 := ⟨k - 1, by omega⟩
             exact ih k' (by omega) (cs ++ cs2 ++ [-12]) a2 τ8 (by omega) (hw.bin hw2 (by decide)) hM8 hK1 hK2)
      · refine g_iload_n B dX6_both0_36 rfl ?_
        refine g_if_eq (tgt := 44) B dX6_both0_37 (by decide) (fun c37 => ?_) (fun c37 => ?_)
        · refine g_iconst (v := (0)) B dX6_both0_44 (by decide) ?_
          refine g_istore_n B dX6_both0_45 (by decide) rfl ?_
          refine g_goto (tgt := 5) B dX6_both0_46 (by decide) ?_
          refine g_drop 2 ?_
          first
            | exact lB_both0 B hB8 (hK1 f rfl _ _ hB8)
            | (have hv : ∀ z : Int32, z = jn (-12) (evc (eM τ0) cs) (evc (eM τ0) cs2) → z = evc (eM τ0) (cs ++ cs2 ++ [-12]) := fun z h => h.trans (evc_bin hw hw2 (by decide)).symm
               first
               | rw [hv 0 (jn_and_l c33)]
               | rw [hv 0 (jn_and_r c37)]
               | rw [hv 1 (jn_and_1 c33 c37)]
               obtain ⟨k', rfl⟩ : ∃ k', k = k' + 1 := ⟨k - 1, by omega⟩
               exact ih k' (by omega) (cs ++ cs2 ++ [-12]) a2 τ8 (by omega) (hw.bin hw2 (by decide)) hM8 hK1 hK2)
        · refine g_iconst (v := (1)) B dX6_both0_40 (by decide) ?_
          refine g_goto (tgt := 45) B dX6_both0_41 (by decide) ?_
          refine g_istore_n B dX6_both0_45 (by decide) rfl ?_
          refine g_goto (tgt := 5) B dX6_both0_46 (by decide) ?_
          refine g_drop 2 ?_
          first
            | exact lB_both0 B hB8 (hK1 f rfl _ _ hB8)
            | (have hv : ∀ z : Int32, z = jn (-12) (evc (eM τ0) cs) (evc (eM τ0) cs2) → z = evc (eM τ0) (cs ++ cs2 ++ [-12]) := fun z h => h.trans (evc_bin hw hw2 (by decide)).symm
               first
               | rw [hv 0 (jn_and_l c33)]
               | rw [hv 0 (jn_and_r c37)]
               | rw [hv 1 (jn_and_1 c33 c37)]
               obtain ⟨k', rfl⟩ : ∃ k', k = k' + 1 := ⟨k - 1, by omega⟩
               exact ih k' (by omega) (cs ++ cs2 ++ [-12]) a2 τ8 (by omega) (hw.bin hw2 (by decide)) hM8 hK1 hK2)
    · rw [hf] at hK1 hK2; dsimp only at hK1 hK2; obtain ⟨hw2, hlt2⟩ := pNot_ok (tT_TV hR) (pLev_ok (tT_TV hR) _) _ _ _ hf
      refine g_istore_n B dX6_both0_31 (by decide) rfl ?_
      refine g_iload_n B dX6_both0_32 rfl ?_
      refine g_if_eq (tgt := 44) B dX6_both0_33 (by decide) (fun c33 => ?_) (fun c33 => ?_)
      · refine g_iconst (v := (0)) B dX6_both0_44 (by decide) ?_
        refine g_istore_n B dX6_both0_45 (by decide) rfl ?_
        refine g_goto (tgt := 5) B dX6_both0_46 (by decide) ?_
        refine g_drop 2 ?_
        first
          | exact lB_both0 B hB8 (hK1 f rfl _ _ hB8)
          | (have hv : ∀ z : Int32, z = jn (-12) (evc (eM τ0) cs) (evc (eM τ0) cs2) → z = evc (eM τ0) (cs ++ cs2 ++ [-12]) := fun z h => h.trans (evc_bin hw hw2 (by decide)).symm
             first
             | rw [hv 0 (jn_and_l c33)]
             | rw [hv 0 (jn_and_r c37)]
             | rw [hv 1 (jn_and_1 c33 c37)]
             obtain ⟨k', rfl⟩ : ∃ k', k = k' + 1 := ⟨k - 1, by omega⟩
             exact ih k' (by omega) (cs ++ cs2 ++ [-12]) a2 τ8 (by omega) (hw.bin hw2 (by decide)) hM8 hK1 hK2)
      · refine g_iload_n B dX6_both0_36 rfl ?_
        refine g_if_eq (tgt := 44) B dX6_both0_37 (by decide) (fun c37 => ?_) (fun c37 => ?_)
        · refine g_iconst (v := (0)) B dX6_both0_44 (by decide) ?_
          refine g_istore_n B dX6_both0_45 (by decide) rfl ?_
          refine g_goto (tgt := 5) B dX6_both0_46 (by decide) ?_
          refine g_drop 2 ?_
          first
            | exact lB_both0 B hB8 (hK1 f rfl _ _ hB8)
            | (have hv : ∀ z : Int32, z = jn (-12) (evc (eM τ0) cs) (evc (eM τ0) cs2) → z = evc (eM τ0) (cs ++ cs2 ++ [-12]) := fun z h => h.trans (evc_bin hw hw2 (by decide)).symm
               first
               | rw [hv 0 (jn_and_l c33)]
               | rw [hv 0 (jn_and_r c37)]
               | rw [hv 1 (jn_and_1 c33 c37)]
               obtain ⟨k', rfl⟩ : ∃ k', k = k' + 1 := ⟨k - 1, by omega⟩
               exact ih k' (by omega) (cs ++ cs2 ++ [-12]) a2 τ8 (by omega) (hw.bin hw2 (by decide)) hM8 hK1 hK2)
        · refine g_iconst (v := (1)) B dX6_both0_40 (by decide) ?_
          refine g_goto (tgt := 45) B dX6_both0_41 (by decide) ?_
          refine g_istore_n B dX6_both0_45 (by decide) rfl ?_
          refine g_goto (tgt := 5) B dX6_both0_46 (by decide) ?_
          refine g_drop 2 ?_
          first
            | exact lB_both0 B hB8 (hK1 f rfl _ _ hB8)
            | (have hv : ∀ z : Int32, z = jn (-12) (evc (eM τ0) cs) (evc (eM τ0) cs2) → z = evc (eM τ0) (cs ++ cs2 ++ [-12]) := fun z h => h.trans (evc_bin hw hw2 (by decide)).symm
               first
               | rw [hv 0 (jn_and_l c33)]
               | rw [hv 0 (jn_and_r c37)]
               | rw [hv 1 (jn_and_1 c33 c37)]
               obtain ⟨k', rfl⟩ : ∃ k', k = k' + 1 := ⟨k - 1, by omega⟩
               exact ih k' (by omega) (cs ++ cs2 ++ [-12]) a2 τ8 (by omega) (hw.bin hw2 (by decide)) hM8 hK1 hK2)
set_option maxRecDepth 100000 in
set_option maxHeartbeats 4000000 in
theorem c_both0 {Z : LZ} {ad : Nat → Nat} {τ0 τ : St} {K : Int32 → St → Prop} {t n a : Nat} (hR : RB τ0 t n) (hM : MS τ0 t n 0 a τ) (hK1 : ∀ f, pBoth (tT τ0 t n) (tV τ0 t n) (pLev (tT τ0 t n) (tV τ0 t n) 5) a = .inl f → ∀ v τ', MB τ0 t n f τ' → K v τ') (hK2 : ∀ cs a2, pBoth (tT τ0 t n) (tV τ0 t n) (pLev (tT τ0 t n) (tV τ0 t n) 5) a = .inr (cs, a2) → ∀ τ', MS τ0 t n 0 a2 τ' → K (evc (eM τ0) cs) τ') : CC lyM Z ad yX6_both0 wsX6_both0 (rmk 38) [.ref (ad 0)] τ (rI K) := by
  refine CC.of (cc := cX6_both0) (nL := 3) (ret := (some .int)) rfl rfl ⟨rfl, rfl⟩ (by exact Nat.le_of_ble_eq_true rfl) ?_
  intro X B
  change GG _ _ _ _ X _ 0 [some (.ref (ad 0)), none, none] [] _
  change Amb _ _ _ _ X _ _ RX6 _ _ at B
  unfold pBoth pSeq at hK1 hK2
  refine g_aload_n B dX6_both0_0 rfl ?_
  refine g_callVi (C := RX6) (As := []) B dX6_both0_1 (gc1 g_X6_316) (by rfl) ⟨rfl, hd_X6_not0⟩ (by exact ⟨Nat.le_of_ble_eq_true rfl, Nat.le_of_ble_eq_true rfl⟩) ⟨rfl, rfl⟩ rfl rfl (by exact Nat.le_of_ble_eq_true rfl) recvM (c_not0 hR hM (fun f hf v8 τ8 hB8 => ?_) (fun cs a1 hf τ8 hM8 => ?_))
  · rw [hf] at hK1; dsimp only at hK1
    refine g_istore_n B dX6_both0_4 (by decide) rfl ?_
    first
      | exact lB_both0 B hB8 (hK1 f rfl _ _ hB8)
      | exact l_both0 B hR 199 cs a1 τ8 (by omega) (pNot_ok (tT_TV hR) (pLev_ok (tT_TV hR) _) _ _ _ hf).1 hM8 hK1 hK2
  · rw [hf] at hK1 hK2; dsimp only at hK1 hK2
    refine g_istore_n B dX6_both0_4 (by decide) rfl ?_
    first
      | exact lB_both0 B hB8 (hK1 f rfl _ _ hB8)
      | exact l_both0 B hR 199 cs a1 τ8 (by omega) (pNot_ok (tT_TV hR) (pLev_ok (tT_TV hR) _) _ _ _ hf).1 hM8 hK1 hK2
set_option maxRecDepth 100000 in
set_option maxHeartbeats 4000000 in
theorem lB_either0 {Z : LZ} {ad : Nat → Nat} {X : CX} {K : Int32 → St → Prop} {τ0 τ : St} {t n f : Nat} {v : Int32} (B : Amb lyM Z ad (rmk 39) X cX6_either0 wsX6_either0 RX6 3 (some .int)) (hB : MB τ0 t n f τ) (hK : K v τ) : GG lyM Z ad (rmk 39) X (rI K) 5 [some (.ref (ad 0)), some (.int v), none] [] τ := by
  refine g_aload_n B dX6_either0_5 rfl ?_
  refine g_bipush (v := (111)) B dX6_either0_6 (by decide) ?_
  refine g_bipush (v := (114)) B dX6_either0_8 (by decide) ?_
  refine g_iconst (v := (0)) B dX6_either0_10 (by decide) ?_
  refine g_iconst (v := (0)) B dX6_either0_11 (by decide) ?_
  refine g_iconst (v := (0)) B dX6_either0_12 (by decide) ?_
  refine g_iconst (v := (0)) B dX6_either0_13 (by decide) ?_
  refine g_iconst (v := (0)) B dX6_either0_14 (by decide) ?_
  refine g_iconst (v := (0)) B dX6_either0_15 (by decide) ?_
  refine g_callVi (C := RX6) (As := [.int _, .int _, .int _, .int _, .int _, .int _, .int _, .int _]) B dX6_either0_16 (gc1 g_X6_180) (by rfl) ⟨rfl, hd_X6_isWord⟩ (by exact ⟨Nat.le_of_ble_eq_true rfl, Nat.le_of_ble_eq_true rfl⟩) ⟨rfl, rfl⟩ rfl rfl (by exact Nat.le_of_ble_eq_true rfl) recvM (c_keyB hB ?_)
  refine g_if_eq (tgt := 48) B dX6_either0_19 (by decide) (fun c19 => ?_) (fun c19 => ?_)
  · refine g_iload_n B dX6_either0_48 rfl ?_
    refine g_ireti B dX6_either0_49 ?_
    exact hK
  · exact absurd rfl c19
set_option maxRecDepth 100000 in
set_option maxHeartbeats 4000000 in
theorem l_either0 {Z : LZ} {ad : Nat → Nat} {X : CX} {K : Int32 → St → Prop} {τ0 : St} {t n : Nat} (B : Amb lyM Z ad (rmk 39) X cX6_either0 wsX6_either0 RX6 3 (some .int)) (hR : RB τ0 t n) : ∀ (k : Nat) (cs : List Int32) (b : Nat) (τ : St), 160 ≤ b + k → WF cs → MS τ0 t n 0 b τ → (∀ f, pLoop (pBoth (tT τ0 t n) (tV τ0 t n) (pLev (tT τ0 t n) (tV τ0 t n) 5)) (opOr (tT τ0 t n)) (k + 1) cs b = .inl f → ∀ v τ', MB τ0 t n f τ' → K v τ') → (∀ ds a2, pLoop (pBoth (tT τ0 t n) (tV τ0 t n) (pLev (tT τ0 t n) (tV τ0 t n) 5)) (opOr (tT τ0 t n)) (k + 1) cs b = .inr (ds, a2) → ∀ τ', MS τ0 t n 0 a2 τ' → K (evc (eM τ0) ds) τ') → GG lyM Z ad (rmk 39) X (rI K) 5 [some (.ref (ad 0)), some (.int (evc (eM τ0) cs)), none] [] τ := by
  intro k
  induction k using Nat.strongRecOn with
  | ind k ih =>
  intro cs b τ hk hw hM hK1 hK2
  have hn := hR.2.2.2
  unfold pLoop at hK1 hK2
  refine g_aload_n B dX6_either0_5 rfl ?_
  refine g_bipush (v := (111)) B dX6_either0_6 (by decide) ?_
  refine g_bipush (v := (114)) B dX6_either0_8 (by decide) ?_
  refine g_iconst (v := (0)) B dX6_either0_10 (by decide) ?_
  refine g_iconst (v := (0)) B dX6_either0_11 (by decide) ?_
  refine g_iconst (v := (0)) B dX6_either0_12 (by decide) ?_
  refine g_iconst (v := (0)) B dX6_either0_13 (by decide) ?_
  refine g_iconst (v := (0)) B dX6_either0_14 (by decide) ?_
  refine g_iconst (v := (0)) B dX6_either0_15 (by decide) ?_
  refine g_callVi (C := RX6) (As := [.int _, .int _, .int _, .int _, .int _, .int _, .int _, .int _]) B dX6_either0_16 (gc1 g_X6_180) (by rfl) ⟨rfl, hd_X6_isWord⟩ (by exact ⟨Nat.le_of_ble_eq_true rfl, Nat.le_of_ble_eq_true rfl⟩) ⟨rfl, rfl⟩ rfl rfl (by exact Nat.le_of_ble_eq_true rfl) recvM (c_key (c := 304) hR hM (by decide) (fun _ _ _ => wS_or) ?_)
  refine g_if_eq (tgt := 48) B dX6_either0_19 (by decide) (fun c19 => ?_) (fun c19 => ?_)
  · refine g_iload_n B dX6_either0_48 rfl ?_
    refine g_ireti B dX6_either0_49 ?_
    have hop : opOr (tT τ0 t n) b = none := if_neg (b1_0.mp c19)
    rw [hop] at hK2
    exact hK2 _ _ rfl τ hM
  · have hT := b1_n0.mp c19
    have hop : opOr (tT τ0 t n) b = some (-11) := if_pos hT
    have hb := tT_lt hR (show tT τ0 t n b ≠ 0 by rw [hT]; decide)
    rw [hop] at hK1 hK2
    dsimp only at hK1 hK2
    refine g_aload_n B dX6_either0_22 rfl ?_
    refine g_callVv (C := RX6) (As := []) B dX6_either0_23 (gc1 g_X6_177) (by rfl) ⟨rfl, hd_X6_next⟩ (by exact ⟨Nat.le_of_ble_eq_true rfl, Nat.le_of_ble_eq_true rfl⟩) ⟨rfl, rfl⟩ rfl rfl (by exact Nat.le_of_ble_eq_true rfl) recvM (c_nx hR hM (by rw [hT]; decide) (fun τ2 hM2 => ?_))
    refine g_aload_n B dX6_either0_26 rfl ?_
    refine g_callVi (C := RX6) (As := []) B dX6_either0_27 (gc1 g_X6_319) (by rfl) ⟨rfl, hd_X6_both0⟩ (by exact ⟨Nat.le_of_ble_eq_true rfl, Nat.le_of_ble_eq_true rfl⟩) ⟨rfl, rfl⟩ rfl rfl (by exact Nat.le_of_ble_eq_true rfl) recvM (c_both0 hR hM2 (fun f hf v8 τ8 hB8 => ?_) (fun cs2 a2 hf τ8 hM8 => ?_))
    · rw [hf] at hK1; dsimp only at hK1
      refine g_istore_n B dX6_either0_30 (by decide) rfl ?_
      refine g_iload_n B dX6_either0_31 rfl ?_
      refine g_if_ne (tgt := 39) B dX6_either0_32 (by decide) (fun c32 => ?_) (fun c32 => ?_)
      · refine g_iconst (v := (1)) B dX6_either0_39 (by decide) ?_
        refine g_goto (tgt := 44) B dX6_either0_40 (by decide) ?_
        refine g_istore_n B dX6_either0_44 (by decide) rfl ?_
        refine g_goto (tgt := 5) B dX6_either0_45 (by decide) ?_
        refine g_drop 2 ?_
        first
          | exact lB_either0 B hB8 (hK1 f rfl _ _ hB8)
          | (have hv : ∀ z : Int32, z = jn (-11) (evc (eM τ0) cs) (evc (eM τ0) cs2) → z = evc (eM τ0) (cs ++ cs2 ++ [-11]) := fun z h => h.trans (evc_bin hw hw2 (by decide)).symm
             first
             | rw [hv 1 (jn_or_l c32)]
             | rw [hv 0 (jn_or_0 c32 c36)]
             | rw [hv 1 (jn_or_r c36)]
             obtain ⟨k', rfl⟩ : ∃ k', k = k' + 1 := ⟨k - 1, by omega⟩
             exact ih k' (by omega) (cs ++ cs2 ++ [-11]) a2 τ8 (by omega) (hw.bin hw2 (by decide)) hM8 hK1 hK2)
      · refine g_iload_n B dX6_either0_35 rfl ?_
        refine g_if_eq (tgt := 43) B dX6_either0_36 (by decide) (fun c36 => ?_) (fun c36 => ?_)
        · refine g_iconst (v := (0)) B dX6_either0_43 (by decide) ?_
          refine g_istore_n B dX6_either0_44 (by decide) rfl ?_
          refine g_goto (tgt := 5) B dX6_either0_45 (by decide) ?_
          refine g_drop 2 ?_
          first
            | exact lB_either0 B hB8 (hK1 f rfl _ _ hB8)
            | (have hv : ∀ z : Int32, z = jn (-11) (evc (eM τ0) cs) (evc (eM τ0) cs2) → z = evc (eM τ0) (cs ++ cs2 ++ [-11]) := fun z h => h.trans (evc_bin hw hw2 (by decide)).symm
               first
               | rw [hv 1 (jn_or_l c32)]
               | rw [hv 0 (jn_or_0 c32 c36)]
               | rw [hv 1 (jn_or_r c36)]
               obtain ⟨k', rfl⟩ : ∃ k', k = k' + 1 := ⟨k - 1, by omega⟩
               exact ih k' (by omega) (cs ++ cs2 ++ [-11]) a2 τ8 (by omega) (hw.bin hw2 (by decide)) hM8 hK1 hK2)
        · refine g_iconst (v := (1)) B dX6_either0_39 (by decide) ?_
          refine g_goto (tgt := 44) B dX6_either0_40 (by decide) ?_
          refine g_istore_n B dX6_either0_44 (by decide) rfl ?_
          refine g_goto (tgt := 5) B dX6_either0_45 (by decide) ?_
          refine g_drop 2 ?_
          first
            | exact lB_either0 B hB8 (hK1 f rfl _ _ hB8)
            | (have hv : ∀ z : Int32, z = jn (-11) (evc (eM τ0) cs) (evc (eM τ0) cs2) → z = evc (eM τ0) (cs ++ cs2 ++ [-11]) := fun z h => h.trans (evc_bin hw hw2 (by decide)).symm
               first
               | rw [hv 1 (jn_or_l c32)]
               | rw [hv 0 (jn_or_0 c32 c36)]
               | rw [hv 1 (jn_or_r c36)]
               obtain ⟨k', rfl⟩ : ∃ k', k = k' + 1 := ⟨k - 1, by omega⟩
               exact ih k' (by omega) (cs ++ cs2 ++ [-11]) a2 τ8 (by omega) (hw.bin hw2 (by decide)) hM8 hK1 hK2)
    · rw [hf] at hK1 hK2; dsimp only at hK1 hK2; obtain ⟨hw2, hlt2⟩ := pBoth_ok (tT_TV hR) (pLev_ok (tT_TV hR) _) _ _ _ hf
      refine g_istore_n B dX6_either0_30 (by decide) rfl ?_
      refine g_iload_n B dX6_either0_31 rfl ?_
      refine g_if_ne (tgt := 39) B dX6_either0_32 (by decide) (fun c32 => ?_) (fun c32 => ?_)
      · refine g_iconst (v := (1)) B dX6_either0_39 (by decide) ?_
        refine g_goto (tgt := 44) B dX6_either0_40 (by decide) ?_
        refine g_istore_n B dX6_either0_44 (by decide) rfl ?_
        refine g_goto (tgt := 5) B dX6_either0_45 (by decide) ?_
        refine g_drop 2 ?_
        first
          | exact lB_either0 B hB8 (hK1 f rfl _ _ hB8)
          | (have hv : ∀ z : Int32, z = jn (-11) (evc (eM τ0) cs) (evc (eM τ0) cs2) → z = evc (eM τ0) (cs ++ cs2 ++ [-11]) := fun z h => h.trans (evc_bin hw hw2 (by decide)).symm
             first
             | rw [hv 1 (jn_or_l c32)]
             | rw [hv 0 (jn_or_0 c32 c36)]
             | rw [hv 1 (jn_or_r c36)]
             obtain ⟨k', rfl⟩ : ∃ k', k = k' + 1 := ⟨k - 1, by omega⟩
             exact ih k' (by omega) (cs ++ cs2 ++ [-11]) a2 τ8 (by omega) (hw.bin hw2 (by decide)) hM8 hK1 hK2)
      · refine g_iload_n B dX6_either0_35 rfl ?_
        refine g_if_eq (tgt := 43) B dX6_either0_36 (by decide) (fun c36 => ?_) (fun c36 => ?_)
        · refine g_iconst (v := (0)) B dX6_either0_43 (by decide) ?_
          refine g_istore_n B dX6_either0_44 (by decide) rfl ?_
          refine g_goto (tgt := 5) B dX6_either0_45 (by decide) ?_
          refine g_drop 2 ?_
          first
            | exact lB_either0 B hB8 (hK1 f rfl _ _ hB8)
            | (have hv : ∀ z : Int32, z = jn (-11) (evc (eM τ0) cs) (evc (eM τ0) cs2) → z = evc (eM τ0) (cs ++ cs2 ++ [-11]) := fun z h => h.trans (evc_bin hw hw2 (by decide)).symm
               first
               | rw [hv 1 (jn_or_l c32)]
               | rw [hv 0 (jn_or_0 c32 c36)]
               | rw [hv 1 (jn_or_r c36)]
               obtain ⟨k', rfl⟩ : ∃ k', k = k' + 1 := ⟨k - 1, by omega⟩
               exact ih k' (by omega) (cs ++ cs2 ++ [-11]) a2 τ8 (by omega) (hw.bin hw2 (by decide)) hM8 hK1 hK2)
        · refine g_iconst (v := (1)) B dX6_either0_39 (by decide) ?_
          refine g_goto (tgt := 44) B dX6_either0_40 (by decide) ?_
          refine g_istore_n B dX6_either0_44 (by decide) rfl ?_
          refine g_goto (tgt := 5) B dX6_either0_45 (by decide) ?_
          refine g_drop 2 ?_
          first
            | exact lB_either0 B hB8 (hK1 f rfl _ _ hB8)
            | (have hv : ∀ z : Int32, z = jn (-11) (evc (eM τ0) cs) (evc (eM τ0) cs2) → z = evc (eM τ0) (cs ++ cs2 ++ [-11]) := fun z h => h.trans (evc_bin hw hw2 (by decide)).symm
               first
               | rw [hv 1 (jn_or_l c32)]
               | rw [hv 0 (jn_or_0 c32 c36)]
               | rw [hv 1 (jn_or_r c36)]
               obtain ⟨k', rfl⟩ : ∃ k', k = k' + 1 := ⟨k - 1, by omega⟩
               exact ih k' (by omega) (cs ++ cs2 ++ [-11]) a2 τ8 (by omega) (hw.bin hw2 (by decide)) hM8 hK1 hK2)
set_option maxRecDepth 100000 in
set_option maxHeartbeats 4000000 in
theorem c_either0 {Z : LZ} {ad : Nat → Nat} {τ0 τ : St} {K : Int32 → St → Prop} {t n a : Nat} (hR : RB τ0 t n) (hM : MS τ0 t n 0 a τ) (hK1 : ∀ f, pEith (tT τ0 t n) (tV τ0 t n) (pLev (tT τ0 t n) (tV τ0 t n) 5) a = .inl f → ∀ v τ', MB τ0 t n f τ' → K v τ') (hK2 : ∀ cs a2, pEith (tT τ0 t n) (tV τ0 t n) (pLev (tT τ0 t n) (tV τ0 t n) 5) a = .inr (cs, a2) → ∀ τ', MS τ0 t n 0 a2 τ' → K (evc (eM τ0) cs) τ') : CC lyM Z ad yX6_either0 wsX6_either0 (rmk 39) [.ref (ad 0)] τ (rI K) := by
  refine CC.of (cc := cX6_either0) (nL := 3) (ret := (some .int)) rfl rfl ⟨rfl, rfl⟩ (by exact Nat.le_of_ble_eq_true rfl) ?_
  intro X B
  change GG _ _ _ _ X _ 0 [some (.ref (ad 0)), none, none] [] _
  change Amb _ _ _ _ X _ _ RX6 _ _ at B
  unfold pEith pSeq at hK1 hK2
  refine g_aload_n B dX6_either0_0 rfl ?_
  refine g_callVi (C := RX6) (As := []) B dX6_either0_1 (gc1 g_X6_319) (by rfl) ⟨rfl, hd_X6_both0⟩ (by exact ⟨Nat.le_of_ble_eq_true rfl, Nat.le_of_ble_eq_true rfl⟩) ⟨rfl, rfl⟩ rfl rfl (by exact Nat.le_of_ble_eq_true rfl) recvM (c_both0 hR hM (fun f hf v8 τ8 hB8 => ?_) (fun cs a1 hf τ8 hM8 => ?_))
  · rw [hf] at hK1; dsimp only at hK1
    refine g_istore_n B dX6_either0_4 (by decide) rfl ?_
    first
      | exact lB_either0 B hB8 (hK1 f rfl _ _ hB8)
      | exact l_either0 B hR 199 cs a1 τ8 (by omega) (pBoth_ok (tT_TV hR) (pLev_ok (tT_TV hR) _) _ _ _ hf).1 hM8 hK1 hK2
  · rw [hf] at hK1 hK2; dsimp only at hK1 hK2
    refine g_istore_n B dX6_either0_4 (by decide) rfl ?_
    first
      | exact lB_either0 B hB8 (hK1 f rfl _ _ hB8)
      | exact l_either0 B hR 199 cs a1 τ8 (by omega) (pBoth_ok (tT_TV hR) (pLev_ok (tT_TV hR) _) _ _ _ hf).1 hM8 hK1 hK2

