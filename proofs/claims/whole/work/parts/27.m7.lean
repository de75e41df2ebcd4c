/-! the reference: a part of a text, a text read -/
set_option maxRecDepth 100000 in
set_option maxHeartbeats 4000000 in
theorem c_part {Z : LZ} {ad : Nat → Nat} {τ0 τ : St} {K : Int32 → St → Prop} {x key : Int32} {t n a : Nat} (hR : RB τ0 t n) (hM : MS τ0 t n 0 a τ) (hk : key ≠ 0 ∧ key ≠ 1) (hx : x = b1 (tT τ0 t n a = key)) (hK1 : ∀ f, pPart (tT τ0 t n) (tV τ0 t n) key a = .inl f → ∀ v τ', MB τ0 t n f τ' → K v τ') (hK2 : ∀ cs a2, pPart (tT τ0 t n) (tV τ0 t n) key a = .inr (cs, a2) → ∀ τ', MS τ0 t n 0 a2 τ' → K (evc (eM τ0) cs) τ') : CC lyM Z ad yX6_part wsX6_part (rmk 40) [.ref (ad 0), .int x] τ (rI K) := by
  refine CC.of (cc := cX6_part) (nL := 3) (ret := (some .int)) rfl rfl ⟨rfl, rfl⟩ (by exact Nat.le_of_ble_eq_true rfl) ?_
  intro X B
  change GG _ _ _ _ X _ 0 [some (.ref (ad 0)), some (.int x), none] [] _
  change Amb _ _ _ _ X _ _ RX6 _ _ at B
  subst hx
  unfold pPart at hK1 hK2
  refine g_iload_n B dX6_part_0 rfl ?_
  refine g_if_ne (tgt := 8) B dX6_part_1 (by decide) (fun c1 => ?_) (fun c1 => ?_)
  · refine g_aload_n B dX6_part_8 rfl ?_
    refine g_getI (T := TX6) (N := 42) B dX6_part_9 (by decide) (by rfl) (inq inlX6) rfl 25 (by decide) (mq f_X6_161) (by rfl) ?_
    refine g_if_ne (tgt := 19) B dX6_part_12 (by decide) (fun c12 => ?_) (fun c12 => ?_)
    · exact absurd hM.2.1 c12
    · have hT := b1_n0.mp c1
      rw [if_pos hT] at hK1 hK2
      refine g_aload_n B dX6_part_15 rfl ?_
      refine g_callVv (C := RX6) (As := []) B dX6_part_16 (gc1 g_X6_177) (by rfl) ⟨rfl, hd_X6_next⟩ (by exact ⟨Nat.le_of_ble_eq_true rfl, Nat.le_of_ble_eq_true rfl⟩) ⟨rfl, rfl⟩ rfl rfl (by exact Nat.le_of_ble_eq_true rfl) recvM (c_nx hR hM (by rw [hT]; exact hk) (fun τ7 hM7 => ?_))
      refine g_aload_n B dX6_part_19 rfl ?_
      refine g_getI (T := TX6) (N := 42) B dX6_part_20 (by decide) (by rfl) (inq inlX6) rfl 25 (by decide) (mq f_X6_161) (by rfl) ?_
      refine g_if_eq (tgt := 30) B dX6_part_23 (by decide) (fun c23 => ?_) (fun c23 => ?_)
      · refine g_aload_n B dX6_part_30 rfl ?_
        refine g_callVi (C := RX6) (As := []) B dX6_part_31 (gc1 g_X6_322) (by rfl) ⟨rfl, hd_X6_either0⟩ (by exact ⟨Nat.le_of_ble_eq_true rfl, Nat.le_of_ble_eq_true rfl⟩) ⟨rfl, rfl⟩ rfl rfl (by exact Nat.le_of_ble_eq_true rfl) recvM (c_either0 hR hM7 (fun f hf v8 τ8 hB8 => ?_) (fun cs a2 hf τ8 hM8 => ?_))
        · rw [hf] at hK1
          refine g_istore_n B dX6_part_34 (by decide) rfl ?_
          refine g_aload_n B dX6_part_35 rfl ?_
          refine g_bipush (v := (59)) B dX6_part_36 (by decide) ?_
          first
            | refine g_callVi (C := RX6) (As := [.int _]) B dX6_part_38 (gc1 g_X6_202) (by rfl) ⟨rfl, hd_X6_isSign⟩ (by exact ⟨Nat.le_of_ble_eq_true rfl, Nat.le_of_ble_eq_true rfl⟩) ⟨rfl, rfl⟩ rfl rfl (by exact Nat.le_of_ble_eq_true rfl) recvM (c_sgnB hB6 ?_)
            | refine g_callVi (C := RX6) (As := [.int _]) B dX6_part_38 (gc1 g_X6_202) (by rfl) ⟨rfl, hd_X6_isSign⟩ (by exact ⟨Nat.le_of_ble_eq_true rfl, Nat.le_of_ble_eq_true rfl⟩) ⟨rfl, rfl⟩ rfl rfl (by exact Nat.le_of_ble_eq_true rfl) recvM (c_sgnB hB8 ?_)
            | refine g_callVi (C := RX6) (As := [.int _]) B dX6_part_38 (gc1 g_X6_202) (by rfl) ⟨rfl, hd_X6_isSign⟩ (by exact ⟨Nat.le_of_ble_eq_true rfl, Nat.le_of_ble_eq_true rfl⟩) ⟨rfl, rfl⟩ rfl rfl (by exact Nat.le_of_ble_eq_true rfl) recvM (c_sgn hM8 (show isS 59 by decide) ?_)
          refine g_if_ne (tgt := 48) B dX6_part_41 (by decide) (fun c41 => ?_) (fun c41 => ?_)
          · exact absurd rfl c41
          · refine g_aload_n B dX6_part_44 rfl ?_
            first
              | refine g_callVv (C := RX6) (As := []) B dX6_part_45 (gc1 g_X6_174) (by rfl) ⟨rfl, hd_X6_fail⟩ (by exact ⟨Nat.le_of_ble_eq_true rfl, Nat.le_of_ble_eq_true rfl⟩) ⟨rfl, rfl⟩ rfl rfl (by exact Nat.le_of_ble_eq_true rfl) recvM (c_flB hB6 ?_)
              | refine g_callVv (C := RX6) (As := []) B dX6_part_45 (gc1 g_X6_174) (by rfl) ⟨rfl, hd_X6_fail⟩ (by exact ⟨Nat.le_of_ble_eq_true rfl, Nat.le_of_ble_eq_true rfl⟩) ⟨rfl, rfl⟩ rfl rfl (by exact Nat.le_of_ble_eq_true rfl) recvM (c_flB hB8 ?_)
              | refine g_callVv (C := RX6) (As := []) B dX6_part_45 (gc1 g_X6_174) (by rfl) ⟨rfl, hd_X6_fail⟩ (by exact ⟨Nat.le_of_ble_eq_true rfl, Nat.le_of_ble_eq_true rfl⟩) ⟨rfl, rfl⟩ rfl rfl (by exact Nat.le_of_ble_eq_true rfl) recvM (c_fl hM8 (fun τ9 hB9 => ?_))
            refine g_aload_n B dX6_part_48 rfl ?_
            refine g_getI (T := TX6) (N := 42) B dX6_part_49 (by decide) (by rfl) (inq inlX6) rfl 25 (by decide) (mq f_X6_161) (by rfl) ?_
            refine g_if_ne (tgt := 59) B dX6_part_52 (by decide) (fun c52 => ?_) (fun c52 => ?_)
            · refine g_iload_n B dX6_part_59 rfl ?_
              refine g_ireti B dX6_part_60 ?_
              first
                | (refine hK1 a ?_ _ _ hB6
                   rw [if_neg (b1_0.mp c1)])
                | exact hK1 f rfl _ _ hB8
                | (refine hK2 cs (a2 + 1) ?_ _ hM9
                   dsimp only
                   rw [if_pos (b1_n0.mp c41)])
                | (refine hK1 a2 ?_ _ _ hB9
                   dsimp only
                   rw [if_neg (b1_0.mp c41)])
            · exact absurd (c52.symm.trans (by first | exact hB9.2.1 | exact hB8.2.1 | exact hB6.2.1)) (by decide)
        · rw [hf] at hK1 hK2
          refine g_istore_n B dX6_part_34 (by decide) rfl ?_
          refine g_aload_n B dX6_part_35 rfl ?_
          refine g_bipush (v := (59)) B dX6_part_36 (by decide) ?_
          first
            | refine g_callVi (C := RX6) (As := [.int _]) B dX6_part_38 (gc1 g_X6_202) (by rfl) ⟨rfl, hd_X6_isSign⟩ (by exact ⟨Nat.le_of_ble_eq_true rfl, Nat.le_of_ble_eq_true rfl⟩) ⟨rfl, rfl⟩ rfl rfl (by exact Nat.le_of_ble_eq_true rfl) recvM (c_sgnB hB6 ?_)
            | refine g_callVi (C := RX6) (As := [.int _]) B dX6_part_38 (gc1 g_X6_202) (by rfl) ⟨rfl, hd_X6_isSign⟩ (by exact ⟨Nat.le_of_ble_eq_true rfl, Nat.le_of_ble_eq_true rfl⟩) ⟨rfl, rfl⟩ rfl rfl (by exact Nat.le_of_ble_eq_true rfl) recvM (c_sgnB hB8 ?_)
            | refine g_callVi (C := RX6) (As := [.int _]) B dX6_part_38 (gc1 g_X6_202) (by rfl) ⟨rfl, hd_X6_isSign⟩ (by exact ⟨Nat.le_of_ble_eq_true rfl, Nat.le_of_ble_eq_true rfl⟩) ⟨rfl, rfl⟩ rfl rfl (by exact Nat.le_of_ble_eq_true rfl) recvM (c_sgn hM8 (show isS 59 by decide) ?_)
          refine g_if_ne (tgt := 48) B dX6_part_41 (by decide) (fun c41 => ?_) (fun c41 => ?_)
          · refine g_aload_n B dX6_part_48 rfl ?_
            refine g_getI (T := TX6) (N := 42) B dX6_part_49 (by decide) (by rfl) (inq inlX6) rfl 25 (by decide) (mq f_X6_161) (by rfl) ?_
            refine g_if_ne (tgt := 59) B dX6_part_52 (by decide) (fun c52 => ?_) (fun c52 => ?_)
            · exact absurd hM8.2.1 c52
            · refine g_aload_n B dX6_part_55 rfl ?_
              refine g_callVv (C := RX6) (As := []) B dX6_part_56 (gc1 g_X6_177) (by rfl) ⟨rfl, hd_X6_next⟩ (by exact ⟨Nat.le_of_ble_eq_true rfl, Nat.le_of_ble_eq_true rfl⟩) ⟨rfl, rfl⟩ rfl rfl (by exact Nat.le_of_ble_eq_true rfl) recvM (c_nx hR hM8 (isS_0 (by rw [b1_n0.mp c41]; decide)) (fun τ9 hM9 => ?_))
              refine g_iload_n B dX6_part_59 rfl ?_
              refine g_ireti B dX6_part_60 ?_
              first
                | (refine hK1 a ?_ _ _ hB6
                   rw [if_neg (b1_0.mp c1)])
                | exact hK1 f rfl _ _ hB8
                | (refine hK2 cs (a2 + 1) ?_ _ hM9
                   dsimp only
                   rw [if_pos (b1_n0.mp c41)])
                | (refine hK1 a2 ?_ _ _ hB9
                   dsimp only
                   rw [if_neg (b1_0.mp c41)])
          · refine g_aload_n B dX6_part_44 rfl ?_
            first
              | refine g_callVv (C := RX6) (As := []) B dX6_part_45 (gc1 g_X6_174) (by rfl) ⟨rfl, hd_X6_fail⟩ (by exact ⟨Nat.le_of_ble_eq_true rfl, Nat.le_of_ble_eq_true rfl⟩) ⟨rfl, rfl⟩ rfl rfl (by exact Nat.le_of_ble_eq_true rfl) recvM (c_flB hB6 ?_)
              | refine g_callVv (C := RX6) (As := []) B dX6_part_45 (gc1 g_X6_174) (by rfl) ⟨rfl, hd_X6_fail⟩ (by exact ⟨Nat.le_of_ble_eq_true rfl, Nat.le_of_ble_eq_true rfl⟩) ⟨rfl, rfl⟩ rfl rfl (by exact Nat.le_of_ble_eq_true rfl) recvM (c_flB hB8 ?_)
              | refine g_callVv (C := RX6) (As := []) B dX6_part_45 (gc1 g_X6_174) (by rfl) ⟨rfl, hd_X6_fail⟩ (by exact ⟨Nat.le_of_ble_eq_true rfl, Nat.le_of_ble_eq_true rfl⟩) ⟨rfl, rfl⟩ rfl rfl (by exact Nat.le_of_ble_eq_true rfl) recvM (c_fl hM8 (fun τ9 hB9 => ?_))
            refine g_aload_n B dX6_part_48 rfl ?_
            refine g_getI (T := TX6) (N := 42) B dX6_part_49 (by decide) (by rfl) (inq inlX6) rfl 25 (by decide) (mq f_X6_161) (by rfl) ?_
            refine g_if_ne (tgt := 59) B dX6_part_52 (by decide) (fun c52 => ?_) (fun c52 => ?_)
            · refine g_iload_n B dX6_part_59 rfl ?_
              refine g_ireti B dX6_part_60 ?_
              first
                | (refine hK1 a ?_ _ _ hB6
                   rw [if_neg (b1_0.mp c1)])
                | exact hK1 f rfl _ _ hB8
                | (refine hK2 cs (a2 + 1) ?_ _ hM9
                   dsimp only
                   rw [if_pos (b1_n0.mp c41)])
                | (refine hK1 a2 ?_ _ _ hB9
                   dsimp only
                   rw [if_neg (b1_0.mp c41)])
            · exact absurd (c52.symm.trans (by first | exact hB9.2.1 | exact hB8.2.1 | exact hB6.2.1)) (by decide)
      · exact absurd hM7.2.1 c23
  · refine g_aload_n B dX6_part_4 rfl ?_
    refine g_callVv (C := RX6) (As := []) B dX6_part_5 (gc1 g_X6_174) (by rfl) ⟨rfl, hd_X6_fail⟩ (by exact ⟨Nat.le_of_ble_eq_true rfl, Nat.le_of_ble_eq_true rfl⟩) ⟨rfl, rfl⟩ rfl rfl (by exact Nat.le_of_ble_eq_true rfl) recvM (c_fl hM (fun τ6 hB6 => ?_))
    refine g_aload_n B dX6_part_8 rfl ?_
    refine g_getI (T := TX6) (N := 42) B dX6_part_9 (by decide) (by rfl) (inq inlX6) rfl 25 (by decide) (mq f_X6_161) (by rfl) ?_
    refine g_if_ne (tgt := 19) B dX6_part_12 (by decide) (fun c12 => ?_) (fun c12 => ?_)
    · refine g_aload_n B dX6_part_19 rfl ?_
      refine g_getI (T := TX6) (N := 42) B dX6_part_20 (by decide) (by rfl) (inq inlX6) rfl 25 (by decide) (mq f_X6_161) (by rfl) ?_
      refine g_if_eq (tgt := 30) B dX6_part_23 (by decide) (fun c23 => ?_) (fun c23 => ?_)
      · exact absurd (c23.symm.trans hB6.2.1) (by decide)
      · refine g_iconst (v := (0)) B dX6_part_26 (by decide) ?_
        refine g_goto (tgt := 34) B dX6_part_27 (by decide) ?_
        refine g_istore_n B dX6_part_34 (by decide) rfl ?_
        refine g_aload_n B dX6_part_35 rfl ?_
        refine g_bipush (v := (59)) B dX6_part_36 (by decide) ?_
        first
          | refine g_callVi (C := RX6) (As := [.int _]) B dX6_part_38 (gc1 g_X6_202) (by rfl) ⟨rfl, hd_X6_isSign⟩ (by exact ⟨Nat.le_of_ble_eq_true rfl, Nat.le_of_ble_eq_true rfl⟩) ⟨rfl, rfl⟩ rfl rfl (by exact Nat.le_of_ble_eq_true rfl) recvM (c_sgnB hB6 ?_)
          | refine g_callVi (C := RX6) (As := [.int _]) B dX6_part_38 (gc1 g_X6_202) (by rfl) ⟨rfl, hd_X6_isSign⟩ (by exact ⟨Nat.le_of_ble_eq_true rfl, Nat.le_of_ble_eq_true rfl⟩) ⟨rfl, rfl⟩ rfl rfl (by exact Nat.le_of_ble_eq_true rfl) recvM (c_sgnB hB8 ?_)
          | refine g_callVi (C := RX6) (As := [.int _]) B dX6_part_38 (gc1 g_X6_202) (by rfl) ⟨rfl, hd_X6_isSign⟩ (by exact ⟨Nat.le_of_ble_eq_true rfl, Nat.le_of_ble_eq_true rfl⟩) ⟨rfl, rfl⟩ rfl rfl (by exact Nat.le_of_ble_eq_true rfl) recvM (c_sgn hM8 (show isS 59 by decide) ?_)
        refine g_if_ne (tgt := 48) B dX6_part_41 (by decide) (fun c41 => ?_) (fun c41 => ?_)
        · exact absurd rfl c41
        · refine g_aload_n B dX6_part_44 rfl ?_
          first
            | refine g_callVv (C := RX6) (As := []) B dX6_part_45 (gc1 g_X6_174) (by rfl) ⟨rfl, hd_X6_fail⟩ (by exact ⟨Nat.le_of_ble_eq_true rfl, Nat.le_of_ble_eq_true rfl⟩) ⟨rfl, rfl⟩ rfl rfl (by exact Nat.le_of_ble_eq_true rfl) recvM (c_flB hB6 ?_)
            | refine g_callVv (C := RX6) (As := []) B dX6_part_45 (gc1 g_X6_174) (by rfl) ⟨rfl, hd_X6_fail⟩ (by exact ⟨Nat.le_of_ble_eq_true rfl, Nat.le_of_ble_eq_true rfl⟩) ⟨rfl, rfl⟩ rfl rfl (by exact Nat.le_of_ble_eq_true rfl) recvM (c_flB hB8 ?_)
            | refine g_callVv (C := RX6) (As := []) B dX6_part_45 (gc1 g_X6_174) (by rfl) ⟨rfl, hd_X6_fail⟩ (by exact ⟨Nat.le_of_ble_eq_true rfl, Nat.le_of_ble_eq_true rfl⟩) ⟨rfl, rfl⟩ rfl rfl (by exact Nat.le_of_ble_eq_true rfl) recvM (c_fl hM8 (fun τ9 hB9 => ?_))
          refine g_aload_n B dX6_part_48 rfl ?_
          refine g_getI (T := TX6) (N := 42) B dX6_part_49 (by decide) (by rfl) (inq inlX6) rfl 25 (by decide) (mq f_X6_161) (by rfl) ?_
          refine g_if_ne (tgt := 59) B dX6_part_52 (by decide) (fun c52 => ?_) (fun c52 => ?_)
          · refine g_iload_n B dX6_part_59 rfl ?_
            refine g_ireti B dX6_part_60 ?_
            first
              | (refine hK1 a ?_ _ _ hB6
                 rw [if_neg (b1_0.mp c1)])
              | exact hK1 f rfl _ _ hB8
              | (refine hK2 cs (a2 + 1) ?_ _ hM9
                 dsimp only
                 rw [if_pos (b1_n0.mp c41)])
              | (refine hK1 a2 ?_ _ _ hB9
                 dsimp only
                 rw [if_neg (b1_0.mp c41)])
          · exact absurd (c52.symm.trans (by first | exact hB9.2.1 | exact hB8.2.1 | exact hB6.2.1)) (by decide)
    · exact absurd (c12.symm.trans hB6.2.1) (by decide)
abbrev pR : List Nat := [18, 19, 20, 21, 22, 24, 25, 26]
set_option maxRecDepth 100000 in
set_option maxHeartbeats 4000000 in
theorem c_read {Z : LZ} {ad : Nat → Nat} {τ : St} {K : Int32 → St → Prop} {x w : Int32} {t n : Nat} (hx : x = nI t) (ht : t < 6) (hs : τ.1 2 t = nI n) (hn : n ≤ 160) (hb : ∀ i, i < n → 0 ≤ (τ.1 1 (160 * t + i)).toInt ∧ (τ.1 1 (160 * t + i)).toInt < 256)
    (hK1 : ∀ f, pText (tT τ t n) (tV τ t n) = .inl f → ∀ v τ', pkx pR τ τ' → τ'.1 0 25 = 1 → τ'.1 0 26 = nI (lxS (gM τ t n) f) → K v τ')
    (hK2 : ∀ k1 k2 k3, pText (tT τ t n) (tV τ t n) = .inr (k1, (k2, k3)) → ∀ τ', pkx pR τ τ' → τ'.1 0 25 = 0 → K (if w = 0 then evc (eM τ) k1 else if w = 1 then evc (eM τ) k2 else evc (eM τ) k3) τ') : CC lyM Z ad yX6_read wsX6_read (rmk 41) [.ref (ad 0), .int x, .int w] τ (rI K) := by
  refine CC.of (cc := cX6_read) (nL := 6) (ret := (some .int)) rfl rfl ⟨rfl, rfl⟩ (by exact Nat.le_of_ble_eq_true rfl) ?_
  intro X B
  change GG _ _ _ _ X _ 0 [some (.ref (ad 0)), some (.int x), some (.int w), none, none, none] [] _
  change Amb _ _ _ _ X _ _ RX6 _ _ at B
  subst hx
  have hg : gEnd (gM τ t n) n := by
    refine ⟨fun i h => ?_, fun i h => ?_, hn⟩
    · unfold gM
      rw [if_neg (by omega)]
    · unfold gM
      rw [if_pos h]
      exact hb i h
  refine g_aload_n B dX6_read_0 rfl ?_
  refine g_sipush (v := (160)) B dX6_read_1 (by decide) ?_
  refine g_iload_n B dX6_read_4 rfl ?_
  refine g_imul B dX6_read_5 ?_
  refine g_putI (T := TX6) (N := 42) B dX6_read_6 (by decide) (by rfl) (inq inlX6) rfl 18 (by decide) (mq f_X6_131) tyX6_ok nmX6 rfl ⟨rfl, rfl⟩ (by rfl) ?_
  refine g_aload_n B dX6_read_9 rfl ?_
  refine g_aload_n B dX6_read_10 rfl ?_
  refine g_getR (T := TX6) (N := 42) B dX6_read_11 (by decide) (by rfl) (inq inlX6) rfl 2 (by decide) (mq f_X6_17) (by rfl) ?_
  refine g_iload_n B dX6_read_14 rfl ?_
  refine g_iald B dX6_read_15 (by decide) (by rfl) (by exact vp_in_nI ht (by omega)) ?_
  refine g_putI (T := TX6) (N := 42) B dX6_read_16 (by decide) (by rfl) (inq inlX6) rfl 19 (by decide) (mq f_X6_128) tyX6_ok nmX6 rfl ⟨rfl, rfl⟩ (by rfl) ?_
  refine g_aload_n B dX6_read_19 rfl ?_
  refine g_iconst (v := (0)) B dX6_read_20 (by decide) ?_
  refine g_putI (T := TX6) (N := 42) B dX6_read_21 (by decide) (by rfl) (inq inlX6) rfl 20 (by decide) (mq f_X6_134) tyX6_ok nmX6 rfl ⟨rfl, rfl⟩ (by rfl) ?_
  refine g_aload_n B dX6_read_24 rfl ?_
  refine g_iconst (v := (0)) B dX6_read_25 (by decide) ?_
  refine g_putI (T := TX6) (N := 42) B dX6_read_26 (by decide) (by rfl) (inq inlX6) rfl 24 (by decide) (mq f_X6_171) tyX6_ok nmX6 rfl ⟨rfl, rfl⟩ (by rfl) ?_
  refine g_aload_n B dX6_read_29 rfl ?_
  refine g_iconst (v := (0)) B dX6_read_30 (by decide) ?_
  refine g_putI (T := TX6) (N := 42) B dX6_read_31 (by decide) (by rfl) (inq inlX6) rfl 25 (by decide) (mq f_X6_161) tyX6_ok nmX6 rfl ⟨rfl, rfl⟩ (by rfl) ?_
  have e160 : (160 : Int32) * nI t = nI (160 * t) := pk_mul 160 t
  have ecl : (nI t).toNatClampNeg = t := i_cl (by omega)
  have esz : (upS τ 0 18 (160 * nI t)).1 2 (nI t).toNatClampNeg = nI n := by rw [upS_3 (by decide), ecl]; exact hs
  rw [e160] at esz ⊢
  rw [esz]
  generalize hτ0 : upS (upS τ 0 18 (nI (160 * t))) 0 19 (nI n) = τ0
  have hpt : PT τ0 t n := ⟨ht, hn, by rw [← hτ0, upS_2 (by decide), upS_1], by rw [← hτ0, upS_1]⟩
  have hp0 : pkx pR τ τ0 := by rw [← hτ0]; exact ((pkx.rf).up (by decide)).up (by decide)
  have hgm : gM τ0 t n = gM τ t n := gM_pk hp0
  have hR : RB τ0 t n := ⟨hpt, by rw [hgm]; exact hg⟩
  have hT : tT τ0 t n = tT τ t n := by funext a; show tokS _ (lxS _ a) = tokS _ (lxS _ a); rw [hgm]
  have hV : tV τ0 t n = tV τ t n := by funext a; show tokV _ (lxS _ a) = tokV _ (lxS _ a); rw [hgm]
  have hE : eM τ0 = eM τ := eM_pk hp0 (by decide)
  rw [← hT, ← hV, ← hgm] at hK1
  rw [← hT, ← hV, ← hE] at hK2
  unfold pText at hK1 hK2
  refine g_aload_n B dX6_read_34 rfl ?_
  refine g_callVv (C := RX6) (As := []) B dX6_read_35 (gc1 g_X6_177) (by rfl) ⟨rfl, hd_X6_next⟩ (by exact ⟨Nat.le_of_ble_eq_true rfl, Nat.le_of_ble_eq_true rfl⟩) ⟨rfl, rfl⟩ rfl rfl (by exact Nat.le_of_ble_eq_true rfl) recvM (c_next (h := 0) hpt hR.2 (by repeat (first | exact pkx.rf | refine pkx.up ?_ (by decide))) (by simp [upS_1, upS_2]; rfl) (Nat.zero_le _) (fun τ1 p1 a1 => ?_))
  have hM : MS τ0 t n 0 0 τ1 := ⟨pkx.trans (by repeat (first | exact pkx.rf | refine pkx.up ?_ (by decide))) (p1.mono (by decide)), by rw [p1.2.1 25 (by decide), upS_1], by rw [p1.2.1 24 (by decide)]; simp [upS_1, upS_2]; rfl, a1⟩
  refine g_aload_n B dX6_read_38 rfl ?_
  refine g_aload_n B dX6_read_39 rfl ?_
  refine g_bipush (v := (103)) B dX6_read_40 (by decide) ?_
  refine g_bipush (v := (97)) B dX6_read_42 (by decide) ?_
  refine g_bipush (v := (105)) B dX6_read_44 (by decide) ?_
  refine g_bipush (v := (110)) B dX6_read_46 (by decide) ?_
  refine g_bipush (v := (115)) B dX6_read_48 (by decide) ?_
  refine g_iconst (v := (0)) B dX6_read_50 (by decide) ?_
  refine g_iconst (v := (0)) B dX6_read_51 (by decide) ?_
  refine g_iconst (v := (0)) B dX6_read_52 (by decide) ?_
  refine g_callVi (C := RX6) (As := [.int _, .int _, .int _, .int _, .int _, .int _, .int _, .int _]) B dX6_read_53 (gc1 g_X6_180) (by rfl) ⟨rfl, hd_X6_isWord⟩ (by exact ⟨Nat.le_of_ble_eq_true rfl, Nat.le_of_ble_eq_true rfl⟩) ⟨rfl, rfl⟩ rfl rfl (by exact Nat.le_of_ble_eq_true rfl) recvM (c_key (c := 301) hR hM (by decide) (fun _ _ _ => wS_gains) ?_)
  refine g_callVi (C := RX6) (As := [.int _]) B dX6_read_56 (gc1 g_X6_325) (by rfl) ⟨rfl, hd_X6_part⟩ (by exact ⟨Nat.le_of_ble_eq_true rfl, Nat.le_of_ble_eq_true rfl⟩) ⟨rfl, rfl⟩ rfl rfl (by exact Nat.le_of_ble_eq_true rfl) recvM (c_part (key := 301) hR hM (by decide) rfl (fun f hf v2 τ2 hB => ?_) (fun k1 a2 hf1 τ2 hM2 => ?_))
  · rw [hf] at hK1
    refine g_istore_n B dX6_read_59 (by decide) rfl ?_
    refine g_aload_n B dX6_read_60 rfl ?_
    refine g_getI (T := TX6) (N := 42) B dX6_read_61 (by decide) (by rfl) (inq inlX6) rfl 25 (by decide) (mq f_X6_161) (by rfl) ?_
    refine g_if_eq (tgt := 71) B dX6_read_64 (by decide) (fun c64 => ?_) (fun c64 => ?_)
    · exact absurd (c64.symm.trans hB.2.1) (by decide)
    · refine g_iconst (v := (0)) B dX6_read_67 (by decide) ?_
      refine g_goto (tgt := 91) B dX6_read_68 (by decide) ?_
      refine g_istore B dX6_read_91 (by decide) rfl ?_
      refine g_aload_n B dX6_read_93 rfl ?_
      refine g_getI (T := TX6) (N := 42) B dX6_read_94 (by decide) (by rfl) (inq inlX6) rfl 25 (by decide) (mq f_X6_161) (by rfl) ?_
      refine g_if_eq (tgt := 104) B dX6_read_97 (by decide) (fun c97 => ?_) (fun c97 => ?_)
      · exact absurd (c97.symm.trans hB.2.1) (by decide)
      · refine g_iconst (v := (0)) B dX6_read_100 (by decide) ?_
        refine g_goto (tgt := 124) B dX6_read_101 (by decide) ?_
        refine g_istore B dX6_read_124 (by decide) rfl ?_
        refine g_aload_n B dX6_read_126 rfl ?_
        refine g_getI (T := TX6) (N := 42) B dX6_read_127 (by decide) (by rfl) (inq inlX6) rfl 25 (by decide) (mq f_X6_161) (by rfl) ?_
        refine g_if_ne (tgt := 144) B dX6_read_130 (by decide) (fun c130 => ?_) (fun c130 => ?_)
        · refine g_iload_n B dX6_read_144 rfl ?_
          refine g_if_ne (tgt := 152) B dX6_read_145 (by decide) (fun c145 => ?_) (fun c145 => ?_)
          · refine g_iload_n B dX6_read_152 rfl ?_
            refine g_iconst (v := (1)) B dX6_read_153 (by decide) ?_
            refine g_icmp_ne (tgt := 162) B dX6_read_154 (by decide) (fun c154 => ?_) (fun c154 => ?_)
            · refine g_iload B dX6_read_162 rfl ?_
              refine g_ireti B dX6_read_164 ?_
              first
                | exact hK1 f rfl _ _ (hp0.trans (hB.1.mono (by decide))) hB.2.1 hB.2.2
                | (have h9 := hK2 k1 k2 k3 (by rw [if_pos (hM4.A.end0.mp c137)]) _ (hp0.trans (hM4.1.mono (by decide))) hM4.2.1
                   first
                   | (rw [if_pos c145] at h9; exact h9)
                   | (rw [if_neg c145, if_pos c154] at h9; exact h9)
                   | (rw [if_neg c145, if_neg c154] at h9; exact h9))
                | exact hK1 a4 (by rw [if_neg (fun z => c137 (hM4.A.end0.mpr z))]) _ _ (hp0.trans (hB5.1.mono (by decide))) hB5.2.1 hB5.2.2
            · refine g_iload B dX6_read_157 rfl ?_
              refine g_goto (tgt := 164) B dX6_read_159 (by decide) ?_
              refine g_ireti B dX6_read_164 ?_
              first
                | exact hK1 f rfl _ _ (hp0.trans (hB.1.mono (by decide))) hB.2.1 hB.2.2
                | (have h9 := hK2 k1 k2 k3 (by rw [if_pos (hM4.A.end0.mp c137)]) _ (hp0.trans (hM4.1.mono (by decide))) hM4.2.1
                   first
                   | (rw [if_pos c145] at h9; exact h9)
                   | (rw [if_neg c145, if_pos c154] at h9; exact h9)
                   | (rw [if_neg c145, if_neg c154] at h9; exact h9))
                | exact hK1 a4 (by rw [if_neg (fun z => c137 (hM4.A.end0.mpr z))]) _ _ (hp0.trans (hB5.1.mono (by decide))) hB5.2.1 hB5.2.2
          · refine g_iload_n B dX6_read_148 rfl ?_
            refine g_goto (tgt := 164) B dX6_read_149 (by decide) ?_
            refine g_ireti B dX6_read_164 ?_
            first
              | exact hK1 f rfl _ _ (hp0.trans (hB.1.mono (by decide))) hB.2.1 hB.2.2
              | (have h9 := hK2 k1 k2 k3 (by rw [if_pos (hM4.A.end0.mp c137)]) _ (hp0.trans (hM4.1.mono (by decide))) hM4.2.1
                 first
                 | (rw [if_pos c145] at h9; exact h9)
                 | (rw [if_neg c145, if_pos c154] at h9; exact h9)
                 | (rw [if_neg c145, if_neg c154] at h9; exact h9))
              | exact hK1 a4 (by rw [if_neg (fun z => c137 (hM4.A.end0.mpr z))]) _ _ (hp0.trans (hB5.1.mono (by decide))) hB5.2.1 hB5.2.2
        · exact absurd (c130.symm.trans hB.2.1) (by decide)
  · rw [hf1] at hK1 hK2; dsimp only at hK1 hK2
    refine g_istore_n B dX6_read_59 (by decide) rfl ?_
    refine g_aload_n B dX6_read_60 rfl ?_
    refine g_getI (T := TX6) (N := 42) B dX6_read_61 (by decide) (by rfl) (inq inlX6) rfl 25 (by decide) (mq f_X6_161) (by rfl) ?_
    refine g_if_eq (tgt := 71) B dX6_read_64 (by decide) (fun c64 => ?_) (fun c64 => ?_)
    · refine g_aload_n B dX6_read_71 rfl ?_
      refine g_aload_n B dX6_read_72 rfl ?_
      refine g_bipush (v := (109)) B dX6_read_73 (by decide) ?_
      refine g_bipush (v := (105)) B dX6_read_75 (by decide) ?_
      refine g_bipush (v := (108)) B dX6_read_77 (by decide) ?_
      refine g_bipush (v := (100)) B dX6_read_79 (by decide) ?_
      refine g_iconst (v := (0)) B dX6_read_81 (by decide) ?_
      refine g_iconst (v := (0)) B dX6_read_82 (by decide) ?_
      refine g_iconst (v := (0)) B dX6_read_83 (by decide) ?_
      refine g_iconst (v := (0)) B dX6_read_84 (by decide) ?_
      refine g_callVi (C := RX6) (As := [.int _, .int _, .int _, .int _, .int _, .int _, .int _, .int _]) B dX6_read_85 (gc1 g_X6_180) (by rfl) ⟨rfl, hd_X6_isWord⟩ (by exact ⟨Nat.le_of_ble_eq_true rfl, Nat.le_of_ble_eq_true rfl⟩) ⟨rfl, rfl⟩ rfl rfl (by exact Nat.le_of_ble_eq_true rfl) recvM (c_key (c := 302) hR hM2 (by decide) (fun _ _ _ => wS_mild) ?_)
      refine g_callVi (C := RX6) (As := [.int _]) B dX6_read_88 (gc1 g_X6_325) (by rfl) ⟨rfl, hd_X6_part⟩ (by exact ⟨Nat.le_of_ble_eq_true rfl, Nat.le_of_ble_eq_true rfl⟩) ⟨rfl, rfl⟩ rfl rfl (by exact Nat.le_of_ble_eq_true rfl) recvM (c_part (key := 302) hR hM2 (by decide) rfl (fun f hf v3 τ3 hB => ?_) (fun k2 a3 hf2 τ3 hM3 => ?_))
      · rw [hf] at hK1
        refine g_istore B dX6_read_91 (by decide) rfl ?_
        refine g_aload_n B dX6_read_93 rfl ?_
        refine g_getI (T := TX6) (N := 42) B dX6_read_94 (by decide) (by rfl) (inq inlX6) rfl 25 (by decide) (mq f_X6_161) (by rfl) ?_
        refine g_if_eq (tgt := 104) B dX6_read_97 (by decide) (fun c97 => ?_) (fun c97 => ?_)
        · exact absurd (c97.symm.trans hB.2.1) (by decide)
        · refine g_iconst (v := (0)) B dX6_read_100 (by decide) ?_
          refine g_goto (tgt := 124) B dX6_read_101 (by decide) ?_
          refine g_istore B dX6_read_124 (by decide) rfl ?_
          refine g_aload_n B dX6_read_126 rfl ?_
          refine g_getI (T := TX6) (N := 42) B dX6_read_127 (by decide) (by rfl) (inq inlX6) rfl 25 (by decide) (mq f_X6_161) (by rfl) ?_
          refine g_if_ne (tgt := 144) B dX6_read_130 (by decide) (fun c130 => ?_) (fun c130 => ?_)
          · refine g_iload_n B dX6_read_144 rfl ?_
            refine g_if_ne (tgt := 152) B dX6_read_145 (by decide) (fun c145 => ?_) (fun c145 => ?_)
            · refine g_iload_n B dX6_read_152 rfl ?_
              refine g_iconst (v := (1)) B dX6_read_153 (by decide) ?_
              refine g_icmp_ne (tgt := 162) B dX6_read_154 (by decide) (fun c154 => ?_) (fun c154 => ?_)
              · refine g_iload B dX6_read_162 rfl ?_
                refine g_ireti B dX6_read_164 ?_
                first
                  | exact hK1 f rfl _ _ (hp0.trans (hB.1.mono (by decide))) hB.2.1 hB.2.2
                  | (have h9 := hK2 k1 k2 k3 (by rw [if_pos (hM4.A.end0.mp c137)]) _ (hp0.trans (hM4.1.mono (by decide))) hM4.2.1
                     first
                     | (rw [if_pos c145] at h9; exact h9)
                     | (rw [if_neg c145, if_pos c154] at h9; exact h9)
                     | (rw [if_neg c145, if_neg c154] at h9; exact h9))
                  | exact hK1 a4 (by rw [if_neg (fun z => c137 (hM4.A.end0.mpr z))]) _ _ (hp0.trans (hB5.1.mono (by decide))) hB5.2.1 hB5.2.2
              · refine g_iload B dX6_read_157 rfl ?_
                refine g_goto (tgt := 164) B dX6_read_159 (by decide) ?_
                refine g_ireti B dX6_read_164 ?_
                first
                  | exact hK1 f rfl _ _ (hp0.trans (hB.1.mono (by decide))) hB.2.1 hB.2.2
                  | (have h9 := hK2 k1 k2 k3 (by rw [if_pos (hM4.A.end0.mp c137)]) _ (hp0.trans (hM4.1.mono (by decide))) hM4.2.1
                     first
                     | (rw [if_pos c145] at h9; exact h9)
                     | (rw [if_neg c145, if_pos c154] at h9; exact h9)
                     | (rw [if_neg c145, if_neg c154] at h9; exact h9))
                  | exact hK1 a4 (by rw [if_neg (fun z => c137 (hM4.A.end0.mpr z))]) _ _ (hp0.trans (hB5.1.mono (by decide))) hB5.2.1 hB5.2.2
            · refine g_iload_n B dX6_read_148 rfl ?_
              refine g_goto (tgt := 164) B dX6_read_149 (by decide) ?_
              refine g_ireti B dX6_read_164 ?_
              first
                | exact hK1 f rfl _ _ (hp0.trans (hB.1.mono (by decide))) hB.2.1 hB.2.2
                | (have h9 := hK2 k1 k2 k3 (by rw [if_pos (hM4.A.end0.mp c137)]) _ (hp0.trans (hM4.1.mono (by decide))) hM4.2.1
                   first
                   | (rw [if_pos c145] at h9; exact h9)
                   | (rw [if_neg c145, if_pos c154] at h9; exact h9)
                   | (rw [if_neg c145, if_neg c154] at h9; exact h9))
                | exact hK1 a4 (by rw [if_neg (fun z => c137 (hM4.A.end0.mpr z))]) _ _ (hp0.trans (hB5.1.mono (by decide))) hB5.2.1 hB5.2.2
          · exact absurd (c130.symm.trans hB.2.1) (by decide)
      · rw [hf2] at hK1 hK2; dsimp only at hK1 hK2
        refine g_istore B dX6_read_91 (by decide) rfl ?_
        refine g_aload_n B dX6_read_93 rfl ?_
        refine g_getI (T := TX6) (N := 42) B dX6_read_94 (by decide) (by rfl) (inq inlX6) rfl 25 (by decide) (mq f_X6_161) (by rfl) ?_
        refine g_if_eq (tgt := 104) B dX6_read_97 (by decide) (fun c97 => ?_) (fun c97 => ?_)
        · refine g_aload_n B dX6_read_104 rfl ?_
          refine g_aload_n B dX6_read_105 rfl ?_
          refine g_bipush (v := (109)) B dX6_read_106 (by decide) ?_
          refine g_bipush (v := (111)) B dX6_read_108 (by decide) ?_
          refine g_bipush (v := (115)) B dX6_read_110 (by decide) ?_
          refine g_bipush (v := (116)) B dX6_read_112 (by decide) ?_
          refine g_iconst (v := (0)) B dX6_read_114 (by decide) ?_
          refine g_iconst (v := (0)) B dX6_read_115 (by decide) ?_
          refine g_iconst (v := (0)) B dX6_read_116 (by decide) ?_
          refine g_iconst (v := (0)) B dX6_read_117 (by decide) ?_
          refine g_callVi (C := RX6) (As := [.int _, .int _, .int _, .int _, .int _, .int _, .int _, .int _]) B dX6_read_118 (gc1 g_X6_180) (by rfl) ⟨rfl, hd_X6_isWord⟩ (by exact ⟨Nat.le_of_ble_eq_true rfl, Nat.le_of_ble_eq_true rfl⟩) ⟨rfl, rfl⟩ rfl rfl (by exact Nat.le_of_ble_eq_true rfl) recvM (c_key (c := 303) hR hM3 (by decide) (fun _ _ _ => wS_most) ?_)
          refine g_callVi (C := RX6) (As := [.int _]) B dX6_read_121 (gc1 g_X6_325) (by rfl) ⟨rfl, hd_X6_part⟩ (by exact ⟨Nat.le_of_ble_eq_true rfl, Nat.le_of_ble_eq_true rfl⟩) ⟨rfl, rfl⟩ rfl rfl (by exact Nat.le_of_ble_eq_true rfl) recvM (c_part (key := 303) hR hM3 (by decide) rfl (fun f hf v4 τ4 hB => ?_) (fun k3 a4 hf3 τ4 hM4 => ?_))
          · rw [hf] at hK1
            refine g_istore B dX6_read_124 (by decide) rfl ?_
            refine g_aload_n B dX6_read_126 rfl ?_
            refine g_getI (T := TX6) (N := 42) B dX6_read_127 (by decide) (by rfl) (inq inlX6) rfl 25 (by decide) (mq f_X6_161) (by rfl) ?_
            refine g_if_ne (tgt := 144) B dX6_read_130 (by decide) (fun c130 => ?_) (fun c130 => ?_)
            · refine g_iload_n B dX6_read_144 rfl ?_
              refine g_if_ne (tgt := 152) B dX6_read_145 (by decide) (fun c145 => ?_) (fun c145 => ?_)
              · refine g_iload_n B dX6_read_152 rfl ?_
                refine g_iconst (v := (1)) B dX6_read_153 (by decide) ?_
                refine g_icmp_ne (tgt := 162) B dX6_read_154 (by decide) (fun c154 => ?_) (fun c154 => ?_)
                · refine g_iload B dX6_read_162 rfl ?_
                  refine g_ireti B dX6_read_164 ?_
                  first
                    | exact hK1 f rfl _ _ (hp0.trans (hB.1.mono (by decide))) hB.2.1 hB.2.2
                    | (have h9 := hK2 k1 k2 k3 (by rw [if_pos (hM4.A.end0.mp c137)]) _ (hp0.trans (hM4.1.mono (by decide))) hM4.2.1
                       first
                       | (rw [if_pos c145] at h9; exact h9)
                       | (rw [if_neg c145, if_pos c154] at h9; exact h9)
                       | (rw [if_neg c145, if_neg c154] at h9; exact h9))
                    | exact hK1 a4 (by rw [if_neg (fun z => c137 (hM4.A.end0.mpr z))]) _ _ (hp0.trans (hB5.1.mono (by decide))) hB5.2.1 hB5.2.2
                · refine g_iload B dX6_read_157 rfl ?_
                  refine g_goto (tgt := 164) B dX6_read_159 (by decide) ?_
                  refine g_ireti B dX6_read_164 ?_
                  first
                    | exact hK1 f rfl _ _ (hp0.trans (hB.1.mono (by decide))) hB.2.1 hB.2.2
                    | (have h9 := hK2 k1 k2 k3 (by rw [if_pos (hM4.A.end0.mp c137)]) _ (hp0.trans (hM4.1.mono (by decide))) hM4.2.1
                       first
                       | (rw [if_pos c145] at h9; exact h9)
                       | (rw [if_neg c145, if_pos c154] at h9; exact h9)
                       | (rw [if_neg c145, if_neg c154] at h9; exact h9))
                    | exact hK1 a4 (by rw [if_neg (fun z => c137 (hM4.A.end0.mpr z))]) _ _ (hp0.trans (hB5.1.mono (by decide))) hB5.2.1 hB5.2.2
              · refine g_iload_n B dX6_read_148 rfl ?_
                refine g_goto (tgt := 164) B dX6_read_149 (by decide) ?_
                refine g_ireti B dX6_read_164 ?_
                first
                  | exact hK1 f rfl _ _ (hp0.trans (hB.1.mono (by decide))) hB.2.1 hB.2.2
                  | (have h9 := hK2 k1 k2 k3 (by rw [if_pos (hM4.A.end0.mp c137)]) _ (hp0.trans (hM4.1.mono (by decide))) hM4.2.1
                     first
                     | (rw [if_pos c145] at h9; exact h9)
                     | (rw [if_neg c145, if_pos c154] at h9; exact h9)
                     | (rw [if_neg c145, if_neg c154] at h9; exact h9))
                  | exact hK1 a4 (by rw [if_neg (fun z => c137 (hM4.A.end0.mpr z))]) _ _ (hp0.trans (hB5.1.mono (by decide))) hB5.2.1 hB5.2.2
            · exact absurd (c130.symm.trans hB.2.1) (by decide)
          · rw [hf3] at hK1 hK2; dsimp only at hK1 hK2
            refine g_istore B dX6_read_124 (by decide) rfl ?_
            refine g_aload_n B dX6_read_126 rfl ?_
            refine g_getI (T := TX6) (N := 42) B dX6_read_127 (by decide) (by rfl) (inq inlX6) rfl 25 (by decide) (mq f_X6_161) (by rfl) ?_
            refine g_if_ne (tgt := 144) B dX6_read_130 (by decide) (fun c130 => ?_) (fun c130 => ?_)
            · exact absurd hM4.2.1 c130
            · refine g_aload_n B dX6_read_133 rfl ?_
              refine g_getI (T := TX6) (N := 42) B dX6_read_134 (by decide) (by rfl) (inq inlX6) rfl 21 (by decide) (mq f_X6_144) (by rfl) ?_
              refine g_if_eq (tgt := 144) B dX6_read_137 (by decide) (fun c137 => ?_) (fun c137 => ?_)
              · refine g_iload_n B dX6_read_144 rfl ?_
                refine g_if_ne (tgt := 152) B dX6_read_145 (by decide) (fun c145 => ?_) (fun c145 => ?_)
                · refine g_iload_n B dX6_read_152 rfl ?_
                  refine g_iconst (v := (1)) B dX6_read_153 (by decide) ?_
                  refine g_icmp_ne (tgt := 162) B dX6_read_154 (by decide) (fun c154 => ?_) (fun c154 => ?_)
                  · refine g_iload B dX6_read_162 rfl ?_
                    refine g_ireti B dX6_read_164 ?_
                    first
                      | exact hK1 f rfl _ _ (hp0.trans (hB.1.mono (by decide))) hB.2.1 hB.2.2
                      | (have h9 := hK2 k1 k2 k3 (by rw [if_pos (hM4.A.end0.mp c137)]) _ (hp0.trans (hM4.1.mono (by decide))) hM4.2.1
                         first
                         | (rw [if_pos c145] at h9; exact h9)
                         | (rw [if_neg c145, if_pos c154] at h9; exact h9)
                         | (rw [if_neg c145, if_neg c154] at h9; exact h9))
                      | exact hK1 a4 (by rw [if_neg (fun z => c137 (hM4.A.end0.mpr z))]) _ _ (hp0.trans (hB5.1.mono (by decide))) hB5.2.1 hB5.2.2
                  · refine g_iload B dX6_read_157 rfl ?_
                    refine g_goto (tgt := 164) B dX6_read_159 (by decide) ?_
                    refine g_ireti B dX6_read_164 ?_
                    first
                      | exact hK1 f rfl _ _ (hp0.trans (hB.1.mono (by decide))) hB.2.1 hB.2.2
                      | (have h9 := hK2 k1 k2 k3 (by rw [if_pos (hM4.A.end0.mp c137)]) _ (hp0.trans (hM4.1.mono (by decide))) hM4.2.1
                         first
                         | (rw [if_pos c145] at h9; exact h9)
                         | (rw [if_neg c145, if_pos c154] at h9; exact h9)
                         | (rw [if_neg c145, if_neg c154] at h9; exact h9))
                      | exact hK1 a4 (by rw [if_neg (fun z => c137 (hM4.A.end0.mpr z))]) _ _ (hp0.trans (hB5.1.mono (by decide))) hB5.2.1 hB5.2.2
                · refine g_iload_n B dX6_read_148 rfl ?_
                  refine g_goto (tgt := 164) B dX6_read_149 (by decide) ?_
                  refine g_ireti B dX6_read_164 ?_
                  first
                    | exact hK1 f rfl _ _ (hp0.trans (hB.1.mono (by decide))) hB.2.1 hB.2.2
                    | (have h9 := hK2 k1 k2 k3 (by rw [if_pos (hM4.A.end0.mp c137)]) _ (hp0.trans (hM4.1.mono (by decide))) hM4.2.1
                       first
                       | (rw [if_pos c145] at h9; exact h9)
                       | (rw [if_neg c145, if_pos c154] at h9; exact h9)
                       | (rw [if_neg c145, if_neg c154] at h9; exact h9))
                    | exact hK1 a4 (by rw [if_neg (fun z => c137 (hM4.A.end0.mpr z))]) _ _ (hp0.trans (hB5.1.mono (by decide))) hB5.2.1 hB5.2.2
              · refine g_aload_n B dX6_read_140 rfl ?_
                refine g_callVv (C := RX6) (As := []) B dX6_read_141 (gc1 g_X6_174) (by rfl) ⟨rfl, hd_X6_fail⟩ (by exact ⟨Nat.le_of_ble_eq_true rfl, Nat.le_of_ble_eq_true rfl⟩) ⟨rfl, rfl⟩ rfl rfl (by exact Nat.le_of_ble_eq_true rfl) recvM (c_fl hM4 (fun τ5 hB5 => ?_))
                refine g_iload_n B dX6_read_144 rfl ?_
                refine g_if_ne (tgt := 152) B dX6_read_145 (by decide) (fun c145 => ?_) (fun c145 => ?_)
                · refine g_iload_n B dX6_read_152 rfl ?_
                  refine g_iconst (v := (1)) B dX6_read_153 (by decide) ?_
                  refine g_icmp_ne (tgt := 162) B dX6_read_154 (by decide) (fun c154 => ?_) (fun c154 => ?_)
                  · refine g_iload B dX6_read_162 rfl ?_
                    refine g_ireti B dX6_read_164 ?_
                    first
                      | exact hK1 f rfl _ _ (hp0.trans (hB.1.mono (by decide))) hB.2.1 hB.2.2
                      | (have h9 := hK2 k1 k2 k3 (by rw [if_pos (hM4.A.end0.mp c137)]) _ (hp0.trans (hM4.1.mono (by decide))) hM4.2.1
                         first
                         | (rw [if_pos c145] at h9; exact h9)
                         | (rw [if_neg c145, if_pos c154] at h9; exact h9)
                         | (rw [if_neg c145, if_neg c154] at h9; exact h9))
                      | exact hK1 a4 (by rw [if_neg (fun z => c137 (hM4.A.end0.mpr z))]) _ _ (hp0.trans (hB5.1.mono (by decide))) hB5.2.1 hB5.2.2
                  · refine g_iload B dX6_read_157 rfl ?_
                    refine g_goto (tgt := 164) B dX6_read_159 (by decide) ?_
                    refine g_ireti B dX6_read_164 ?_
                    first
                      | exact hK1 f rfl _ _ (hp0.trans (hB.1.mono (by decide))) hB.2.1 hB.2.2
                      | (have h9 := hK2 k1 k2 k3 (by rw [if_pos (hM4.A.end0.mp c137)]) _ (hp0.trans (hM4.1.mono (by decide))) hM4.2.1
                         first
                         | (rw [if_pos c145] at h9; exact h9)
                         | (rw [if_neg c145, if_pos c154] at h9; exact h9)
                         | (rw [if_neg c145, if_neg c154] at h9; exact h9))
                      | exact hK1 a4 (by rw [if_neg (fun z => c137 (hM4.A.end0.mpr z))]) _ _ (hp0.trans (hB5.1.mono (by decide))) hB5.2.1 hB5.2.2
                · refine g_iload_n B dX6_read_148 rfl ?_
                  refine g_goto (tgt := 164) B dX6_read_149 (by decide) ?_
                  refine g_ireti B dX6_read_164 ?_
                  first
                    | exact hK1 f rfl _ _ (hp0.trans (hB.1.mono (by decide))) hB.2.1 hB.2.2
                    | (have h9 := hK2 k1 k2 k3 (by rw [if_pos (hM4.A.end0.mp c137)]) _ (hp0.trans (hM4.1.mono (by decide))) hM4.2.1
                       first
                       | (rw [if_pos c145] at h9; exact h9)
                       | (rw [if_neg c145, if_pos c154] at h9; exact h9)
                       | (rw [if_neg c145, if_neg c154] at h9; exact h9))
                    | exact hK1 a4 (by rw [if_neg (fun z => c137 (hM4.A.end0.mpr z))]) _ _ (hp0.trans (hB5.1.mono (by decide))) hB5.2.1 hB5.2.2
        · exact absurd hM3.2.1 c97
    · exact absurd hM2.2.1 c64

