/-! the reference: words, and the next token -/
set_option maxRecDepth 100000 in
set_option maxHeartbeats 4000000 in
theorem c_isWord {Z : LZ} {ad : Nat → Nat} {τ0 τ : St} {K : Int32 → St → Prop} {a b c d x y z w : Int32} {t n q e : Nat} (hp : PT τ0 t n) (hk : pkx pS τ0 τ) (hb : τ.1 0 25 = 0) (hq : τ.1 0 22 = nI q ∧ q ≤ 160) (he : τ.1 0 21 = 1 → τ.1 0 20 = nI e ∧ e ≤ 161) (hK : K (b1 (τ.1 0 21 = 1 ∧ wd (gM τ0 t n) q e a b c d x y z w)) τ) : CC lyM Z ad yX6_isWord wsX6_isWord (rmk 2) [.ref (ad 0), .int a, .int b, .int c, .int d, .int x, .int y, .int z, .int w] τ (rI K) := by
  refine CC.of (cc := cX6_isWord) (nL := 9) (ret := (some .boolean)) rfl rfl ⟨rfl, rfl⟩ (by exact Nat.le_of_ble_eq_true rfl) ?_
  intro X B
  change GG _ _ _ _ X _ 0 [some (.ref (ad 0)), some (.int a), some (.int b), some (.int c), some (.int d), some (.int x), some (.int y), some (.int z), some (.int w)] [] _
  change Amb _ _ _ _ X _ _ RX6 _ _ at B
  refine g_aload_n B dX6_isWord_0 rfl ?_
  refine g_getI (T := TX6) (N := 42) B dX6_isWord_1 (by decide) (by rfl) (inq inlX6) rfl 25 (by decide) (mq f_X6_161) (by rfl) ?_
  refine g_if_ne (tgt := 112) B dX6_isWord_4 (by decide) (fun c4 => ?_) (fun c4 => ?_)
  · refine g_iconst (v := (0)) B dX6_isWord_112 (by decide) ?_
    refine g_zreti B dX6_isWord_113 (by first | rfl | exact b1_nar | assumption) ?_
    first
      | exact absurd hb c4
      | (refine kk (b1_f (fun h => c12 h.1)).symm hK)
      | (have hh := he c12
         rw [hq.1, hh.1, show nI q + 8 = nI (q + 8) from nI_add q 8, i_lt, i_n (by have := hq.2; omega), i_n (by have := hh.2; omega)] at c26
         first
         | (refine kk (b1_f (fun h => by have := h.2.1; omega)).symm hK)
         | (refine kk (b1_f (fun h => (b1_0.mp c35) h.2.2.1)).symm hK)
         | (refine kk (b1_f (fun h => (b1_0.mp c44) h.2.2.2.1)).symm hK)
         | (refine kk (b1_f (fun h => (b1_0.mp c53) h.2.2.2.2.1)).symm hK)
         | (refine kk (b1_f (fun h => (b1_0.mp c63) h.2.2.2.2.2.1)).symm hK)
         | (refine kk (b1_f (fun h => (b1_0.mp c73) h.2.2.2.2.2.2.1)).symm hK)
         | (refine kk (b1_f (fun h => (b1_0.mp c83) h.2.2.2.2.2.2.2.1)).symm hK)
         | (refine kk (b1_f (fun h => (b1_0.mp c94) h.2.2.2.2.2.2.2.2.1)).symm hK)
         | (refine kk (b1_f (fun h => (b1_0.mp c105) h.2.2.2.2.2.2.2.2.2)).symm hK)
         | (refine kk (b1_t ⟨c12, by omega, b1_n0.mp c35, b1_n0.mp c44, b1_n0.mp c53, b1_n0.mp c63, b1_n0.mp c73, b1_n0.mp c83, b1_n0.mp c94, b1_n0.mp c105⟩).symm hK))
  · refine g_aload_n B dX6_isWord_7 rfl ?_
    refine g_getI (T := TX6) (N := 42) B dX6_isWord_8 (by decide) (by rfl) (inq inlX6) rfl 21 (by decide) (mq f_X6_144) (by rfl) ?_
    refine g_iconst (v := (1)) B dX6_isWord_11 (by decide) ?_
    refine g_icmp_ne (tgt := 112) B dX6_isWord_12 (by decide) (fun c12 => ?_) (fun c12 => ?_)
    · refine g_iconst (v := (0)) B dX6_isWord_112 (by decide) ?_
      refine g_zreti B dX6_isWord_113 (by first | rfl | exact b1_nar | assumption) ?_
      first
        | exact absurd hb c4
        | (refine kk (b1_f (fun h => c12 h.1)).symm hK)
        | (have hh := he c12
           rw [hq.1, hh.1, show nI q + 8 = nI (q + 8) from nI_add q 8, i_lt, i_n (by have := hq.2; omega), i_n (by have := hh.2; omega)] at c26
           first
           | (refine kk (b1_f (fun h => by have := h.2.1; omega)).symm hK)
           | (refine kk (b1_f (fun h => (b1_0.mp c35) h.2.2.1)).symm hK)
           | (refine kk (b1_f (fun h => (b1_0.mp c44) h.2.2.2.1)).symm hK)
           | (refine kk (b1_f (fun h => (b1_0.mp c53) h.2.2.2.2.1)).symm hK)
           | (refine kk (b1_f (fun h => (b1_0.mp c63) h.2.2.2.2.2.1)).symm hK)
           | (refine kk (b1_f (fun h => (b1_0.mp c73) h.2.2.2.2.2.2.1)).symm hK)
           | (refine kk (b1_f (fun h => (b1_0.mp c83) h.2.2.2.2.2.2.2.1)).symm hK)
           | (refine kk (b1_f (fun h => (b1_0.mp c94) h.2.2.2.2.2.2.2.2.1)).symm hK)
           | (refine kk (b1_f (fun h => (b1_0.mp c105) h.2.2.2.2.2.2.2.2.2)).symm hK)
           | (refine kk (b1_t ⟨c12, by omega, b1_n0.mp c35, b1_n0.mp c44, b1_n0.mp c53, b1_n0.mp c63, b1_n0.mp c73, b1_n0.mp c83, b1_n0.mp c94, b1_n0.mp c105⟩).symm hK))
    · refine g_aload_n B dX6_isWord_15 rfl ?_
      refine g_getI (T := TX6) (N := 42) B dX6_isWord_16 (by decide) (by rfl) (inq inlX6) rfl 20 (by decide) (mq f_X6_134) (by rfl) ?_
      refine g_aload_n B dX6_isWord_19 rfl ?_
      refine g_getI (T := TX6) (N := 42) B dX6_isWord_20 (by decide) (by rfl) (inq inlX6) rfl 22 (by decide) (mq f_X6_141) (by rfl) ?_
      refine g_bipush (v := (8)) B dX6_isWord_23 (by decide) ?_
      refine g_iadd B dX6_isWord_25 ?_
      refine g_icmp_gt (tgt := 112) B dX6_isWord_26 (by decide) (fun c26 => ?_) (fun c26 => ?_)
      · refine g_iconst (v := (0)) B dX6_isWord_112 (by decide) ?_
        refine g_zreti B dX6_isWord_113 (by first | rfl | exact b1_nar | assumption) ?_
        first
          | exact absurd hb c4
          | (refine kk (b1_f (fun h => c12 h.1)).symm hK)
          | (have hh := he c12
             rw [hq.1, hh.1, show nI q + 8 = nI (q + 8) from nI_add q 8, i_lt, i_n (by have := hq.2; omega), i_n (by have := hh.2; omega)] at c26
             first
             | (refine kk (b1_f (fun h => by have := h.2.1; omega)).symm hK)
             | (refine kk (b1_f (fun h => (b1_0.mp c35) h.2.2.1)).symm hK)
             | (refine kk (b1_f (fun h => (b1_0.mp c44) h.2.2.2.1)).symm hK)
             | (refine kk (b1_f (fun h => (b1_0.mp c53) h.2.2.2.2.1)).symm hK)
             | (refine kk (b1_f (fun h => (b1_0.mp c63) h.2.2.2.2.2.1)).symm hK)
             | (refine kk (b1_f (fun h => (b1_0.mp c73) h.2.2.2.2.2.2.1)).symm hK)
             | (refine kk (b1_f (fun h => (b1_0.mp c83) h.2.2.2.2.2.2.2.1)).symm hK)
             | (refine kk (b1_f (fun h => (b1_0.mp c94) h.2.2.2.2.2.2.2.2.1)).symm hK)
             | (refine kk (b1_f (fun h => (b1_0.mp c105) h.2.2.2.2.2.2.2.2.2)).symm hK)
             | (refine kk (b1_t ⟨c12, by omega, b1_n0.mp c35, b1_n0.mp c44, b1_n0.mp c53, b1_n0.mp c63, b1_n0.mp c73, b1_n0.mp c83, b1_n0.mp c94, b1_n0.mp c105⟩).symm hK))
      · refine g_aload_n B dX6_isWord_29 rfl ?_
        refine g_iconst (v := (0)) B dX6_isWord_30 (by decide) ?_
        refine g_iload_n B dX6_isWord_31 rfl ?_
        refine g_callVi (C := RX6) (As := [.int _, .int _]) B dX6_isWord_32 (gc1 g_X6_168) (by rfl) ⟨rfl, hd_X6_isLetter⟩ (by exact ⟨Nat.le_of_ble_eq_true rfl, Nat.le_of_ble_eq_true rfl⟩) ⟨rfl, rfl⟩ rfl rfl (by exact Nat.le_of_ble_eq_true rfl) recvM (c_isLetter 0 (by decide) hp hk hq (he c12) rfl ?_)
        refine g_if_eq (tgt := 112) B dX6_isWord_35 (by decide) (fun c35 => ?_) (fun c35 => ?_)
        · refine g_iconst (v := (0)) B dX6_isWord_112 (by decide) ?_
          refine g_zreti B dX6_isWord_113 (by first | rfl | exact b1_nar | assumption) ?_
          first
            | exact absurd hb c4
            | (refine kk (b1_f (fun h => c12 h.1)).symm hK)
            | (have hh := he c12
               rw [hq.1, hh.1, show nI q + 8 = nI (q + 8) from nI_add q 8, i_lt, i_n (by have := hq.2; omega), i_n (by have := hh.2; omega)] at c26
               first
               | (refine kk (b1_f (fun h => by have := h.2.1; omega)).symm hK)
               | (refine kk (b1_f (fun h => (b1_0.mp c35) h.2.2.1)).symm hK)
               | (refine kk (b1_f (fun h => (b1_0.mp c44) h.2.2.2.1)).symm hK)
               | (refine kk (b1_f (fun h => (b1_0.mp c53) h.2.2.2.2.1)).symm hK)
               | (refine kk (b1_f (fun h => (b1_0.mp c63) h.2.2.2.2.2.1)).symm hK)
               | (refine kk (b1_f (fun h => (b1_0.mp c73) h.2.2.2.2.2.2.1)).symm hK)
               | (refine kk (b1_f (fun h => (b1_0.mp c83) h.2.2.2.2.2.2.2.1)).symm hK)
               | (refine kk (b1_f (fun h => (b1_0.mp c94) h.2.2.2.2.2.2.2.2.1)).symm hK)
               | (refine kk (b1_f (fun h => (b1_0.mp c105) h.2.2.2.2.2.2.2.2.2)).symm hK)
               | (refine kk (b1_t ⟨c12, by omega, b1_n0.mp c35, b1_n0.mp c44, b1_n0.mp c53, b1_n0.mp c63, b1_n0.mp c73, b1_n0.mp c83, b1_n0.mp c94, b1_n0.mp c105⟩).symm hK))
        · refine g_aload_n B dX6_isWord_38 rfl ?_
          refine g_iconst (v := (1)) B dX6_isWord_39 (by decide) ?_
          refine g_iload_n B dX6_isWord_40 rfl ?_
          refine g_callVi (C := RX6) (As := [.int _, .int _]) B dX6_isWord_41 (gc1 g_X6_168) (by rfl) ⟨rfl, hd_X6_isLetter⟩ (by exact ⟨Nat.le_of_ble_eq_true rfl, Nat.le_of_ble_eq_true rfl⟩) ⟨rfl, rfl⟩ rfl rfl (by exact Nat.le_of_ble_eq_true rfl) recvM (c_isLetter 1 (by decide) hp hk hq (he c12) rfl ?_)
          refine g_if_eq (tgt := 112) B dX6_isWord_44 (by decide) (fun c44 => ?_) (fun c44 => ?_)
          · refine g_iconst (v := (0)) B dX6_isWord_112 (by decide) ?_
            refine g_zreti B dX6_isWord_113 (by first | rfl | exact b1_nar | assumption) ?_
            first
              | exact absurd hb c4
              | (refine kk (b1_f (fun h => c12 h.1)).symm hK)
              | (have hh := he c12
                 rw [hq.1, hh.1, show nI q + 8 = nI (q + 8) from nI_add q 8, i_lt, i_n (by have := hq.2; omega), i_n (by have := hh.2; omega)] at c26
                 first
                 | (refine kk (b1_f (fun h => by have := h.2.1; omega)).symm hK)
                 | (refine kk (b1_f (fun h => (b1_0.mp c35) h.2.2.1)).symm hK)
                 | (refine kk (b1_f (fun h => (b1_0.mp c44) h.2.2.2.1)).symm hK)
                 | (refine kk (b1_f (fun h => (b1_0.mp c53) h.2.2.2.2.1)).symm hK)
                 | (refine kk (b1_f (fun h => (b1_0.mp c63) h.2.2.2.2.2.1)).symm hK)
                 | (refine kk (b1_f (fun h => (b1_0.mp c73) h.2.2.2.2.2.2.1)).symm hK)
                 | (refine kk (b1_f (fun h => (b1_0.mp c83) h.2.2.2.2.2.2.2.1)).symm hK)
                 | (refine kk (b1_f (fun h => (b1_0.mp c94) h.2.2.2.2.2.2.2.2.1)).symm hK)
                 | (refine kk (b1_f (fun h => (b1_0.mp c105) h.2.2.2.2.2.2.2.2.2)).symm hK)
                 | (refine kk (b1_t ⟨c12, by omega, b1_n0.mp c35, b1_n0.mp c44, b1_n0.mp c53, b1_n0.mp c63, b1_n0.mp c73, b1_n0.mp c83, b1_n0.mp c94, b1_n0.mp c105⟩).symm hK))
          · refine g_aload_n B dX6_isWord_47 rfl ?_
            refine g_iconst (v := (2)) B dX6_isWord_48 (by decide) ?_
            refine g_iload_n B dX6_isWord_49 rfl ?_
            refine g_callVi (C := RX6) (As := [.int _, .int _]) B dX6_isWord_50 (gc1 g_X6_168) (by rfl) ⟨rfl, hd_X6_isLetter⟩ (by exact ⟨Nat.le_of_ble_eq_true rfl, Nat.le_of_ble_eq_true rfl⟩) ⟨rfl, rfl⟩ rfl rfl (by exact Nat.le_of_ble_eq_true rfl) recvM (c_isLetter 2 (by decide) hp hk hq (he c12) rfl ?_)
            refine g_if_eq (tgt := 112) B dX6_isWord_53 (by decide) (fun c53 => ?_) (fun c53 => ?_)
            · refine g_iconst (v := (0)) B dX6_isWord_112 (by decide) ?_
              refine g_zreti B dX6_isWord_113 (by first | rfl | exact b1_nar | assumption) ?_
              first
                | exact absurd hb c4
                | (refine kk (b1_f (fun h => c12 h.1)).symm hK)
                | (have hh := he c12
                   rw [hq.1, hh.1, show nI q + 8 = nI (q + 8) from nI_add q 8, i_lt, i_n (by have := hq.2; omega), i_n (by have := hh.2; omega)] at c26
                   first
                   | (refine kk (b1_f (fun h => by have := h.2.1; omega)).symm hK)
                   | (refine kk (b1_f (fun h => (b1_0.mp c35) h.2.2.1)).symm hK)
                   | (refine kk (b1_f (fun h => (b1_0.mp c44) h.2.2.2.1)).symm hK)
                   | (refine kk (b1_f (fun h => (b1_0.mp c53) h.2.2.2.2.1)).symm hK)
                   | (refine kk (b1_f (fun h => (b1_0.mp c63) h.2.2.2.2.2.1)).symm hK)
                   | (refine kk (b1_f (fun h => (b1_0.mp c73) h.2.2.2.2.2.2.1)).symm hK)
                   | (refine kk (b1_f (fun h => (b1_0.mp c83) h.2.2.2.2.2.2.2.1)).symm hK)
                   | (refine kk (b1_f (fun h => (b1_0.mp c94) h.2.2.2.2.2.2.2.2.1)).symm hK)
                   | (refine kk (b1_f (fun h => (b1_0.mp c105) h.2.2.2.2.2.2.2.2.2)).symm hK)
                   | (refine kk (b1_t ⟨c12, by omega, b1_n0.mp c35, b1_n0.mp c44, b1_n0.mp c53, b1_n0.mp c63, b1_n0.mp c73, b1_n0.mp c83, b1_n0.mp c94, b1_n0.mp c105⟩).symm hK))
            · refine g_aload_n B dX6_isWord_56 rfl ?_
              refine g_iconst (v := (3)) B dX6_isWord_57 (by decide) ?_
              refine g_iload B dX6_isWord_58 rfl ?_
              refine g_callVi (C := RX6) (As := [.int _, .int _]) B dX6_isWord_60 (gc1 g_X6_168) (by rfl) ⟨rfl, hd_X6_isLetter⟩ (by exact ⟨Nat.le_of_ble_eq_true rfl, Nat.le_of_ble_eq_true rfl⟩) ⟨rfl, rfl⟩ rfl rfl (by exact Nat.le_of_ble_eq_true rfl) recvM (c_isLetter 3 (by decide) hp hk hq (he c12) rfl ?_)
              refine g_if_eq (tgt := 112) B dX6_isWord_63 (by decide) (fun c63 => ?_) (fun c63 => ?_)
              · refine g_iconst (v := (0)) B dX6_isWord_112 (by decide) ?_
                refine g_zreti B dX6_isWord_113 (by first | rfl | exact b1_nar | assumption) ?_
                first
                  | exact absurd hb c4
                  | (refine kk (b1_f (fun h => c12 h.1)).symm hK)
                  | (have hh := he c12
                     rw [hq.1, hh.1, show nI q + 8 = nI (q + 8) from nI_add q 8, i_lt, i_n (by have := hq.2; omega), i_n (by have := hh.2; omega)] at c26
                     first
                     | (refine kk (b1_f (fun h => by have := h.2.1; omega)).symm hK)
                     | (refine kk (b1_f (fun h => (b1_0.mp c35) h.2.2.1)).symm hK)
                     | (refine kk (b1_f (fun h => (b1_0.mp c44) h.2.2.2.1)).symm hK)
                     | (refine kk (b1_f (fun h => (b1_0.mp c53) h.2.2.2.2.1)).symm hK)
                     | (refine kk (b1_f (fun h => (b1_0.mp c63) h.2.2.2.2.2.1)).symm hK)
                     | (refine kk (b1_f (fun h => (b1_0.mp c73) h.2.2.2.2.2.2.1)).symm hK)
                     | (refine kk (b1_f (fun h => (b1_0.mp c83) h.2.2.2.2.2.2.2.1)).symm hK)
                     | (refine kk (b1_f (fun h => (b1_0.mp c94) h.2.2.2.2.2.2.2.2.1)).symm hK)
                     | (refine kk (b1_f (fun h => (b1_0.mp c105) h.2.2.2.2.2.2.2.2.2)).symm hK)
                     | (refine kk (b1_t ⟨c12, by omega, b1_n0.mp c35, b1_n0.mp c44, b1_n0.mp c53, b1_n0.mp c63, b1_n0.mp c73, b1_n0.mp c83, b1_n0.mp c94, b1_n0.mp c105⟩).symm hK))
              · refine g_aload_n B dX6_isWord_66 rfl ?_
                refine g_iconst (v := (4)) B dX6_isWord_67 (by decide) ?_
                refine g_iload B dX6_isWord_68 rfl ?_
                refine g_callVi (C := RX6) (As := [.int _, .int _]) B dX6_isWord_70 (gc1 g_X6_168) (by rfl) ⟨rfl, hd_X6_isLetter⟩ (by exact ⟨Nat.le_of_ble_eq_true rfl, Nat.le_of_ble_eq_true rfl⟩) ⟨rfl, rfl⟩ rfl rfl (by exact Nat.le_of_ble_eq_true rfl) recvM (c_isLetter 4 (by decide) hp hk hq (he c12) rfl ?_)
                refine g_if_eq (tgt := 112) B dX6_isWord_73 (by decide) (fun c73 => ?_) (fun c73 => ?_)
                · refine g_iconst (v := (0)) B dX6_isWord_112 (by decide) ?_
                  refine g_zreti B dX6_isWord_113 (by first | rfl | exact b1_nar | assumption) ?_
                  first
                    | exact absurd hb c4
                    | (refine kk (b1_f (fun h => c12 h.1)).symm hK)
                    | (have hh := he c12
                       rw [hq.1, hh.1, show nI q + 8 = nI (q + 8) from nI_add q 8, i_lt, i_n (by have := hq.2; omega), i_n (by have := hh.2; omega)] at c26
                       first
                       | (refine kk (b1_f (fun h => by have := h.2.1; omega)).symm hK)
                       | (refine kk (b1_f (fun h => (b1_0.mp c35) h.2.2.1)).symm hK)
                       | (refine kk (b1_f (fun h => (b1_0.mp c44) h.2.2.2.1)).symm hK)
                       | (refine kk (b1_f (fun h => (b1_0.mp c53) h.2.2.2.2.1)).symm hK)
                       | (refine kk (b1_f (fun h => (b1_0.mp c63) h.2.2.2.2.2.1)).symm hK)
                       | (refine kk (b1_f (fun h => (b1_0.mp c73) h.2.2.2.2.2.2.1)).symm hK)
                       | (refine kk (b1_f (fun h => (b1_0.mp c83) h.2.2.2.2.2.2.2.1)).symm hK)
                       | (refine kk (b1_f (fun h => (b1_0.mp c94) h.2.2.2.2.2.2.2.2.1)).symm hK)
                       | (refine kk (b1_f (fun h => (b1_0.mp c105) h.2.2.2.2.2.2.2.2.2)).symm hK)
                       | (refine kk (b1_t ⟨c12, by omega, b1_n0.mp c35, b1_n0.mp c44, b1_n0.mp c53, b1_n0.mp c63, b1_n0.mp c73, b1_n0.mp c83, b1_n0.mp c94, b1_n0.mp c105⟩).symm hK))
                · refine g_aload_n B dX6_isWord_76 rfl ?_
                  refine g_iconst (v := (5)) B dX6_isWord_77 (by decide) ?_
                  refine g_iload B dX6_isWord_78 rfl ?_
                  refine g_callVi (C := RX6) (As := [.int _, .int _]) B dX6_isWord_80 (gc1 g_X6_168) (by rfl) ⟨rfl, hd_X6_isLetter⟩ (by exact ⟨Nat.le_of_ble_eq_true rfl, Nat.le_of_ble_eq_true rfl⟩) ⟨rfl, rfl⟩ rfl rfl (by exact Nat.le_of_ble_eq_true rfl) recvM (c_isLetter 5 (by decide) hp hk hq (he c12) rfl ?_)
                  refine g_if_eq (tgt := 112) B dX6_isWord_83 (by decide) (fun c83 => ?_) (fun c83 => ?_)
                  · refine g_iconst (v := (0)) B dX6_isWord_112 (by decide) ?_
                    refine g_zreti B dX6_isWord_113 (by first | rfl | exact b1_nar | assumption) ?_
                    first
                      | exact absurd hb c4
                      | (refine kk (b1_f (fun h => c12 h.1)).symm hK)
                      | (have hh := he c12
                         rw [hq.1, hh.1, show nI q + 8 = nI (q + 8) from nI_add q 8, i_lt, i_n (by have := hq.2; omega), i_n (by have := hh.2; omega)] at c26
                         first
                         | (refine kk (b1_f (fun h => by have := h.2.1; omega)).symm hK)
                         | (refine kk (b1_f (fun h => (b1_0.mp c35) h.2.2.1)).symm hK)
                         | (refine kk (b1_f (fun h => (b1_0.mp c44) h.2.2.2.1)).symm hK)
                         | (refine kk (b1_f (fun h => (b1_0.mp c53) h.2.2.2.2.1)).symm hK)
                         | (refine kk (b1_f (fun h => (b1_0.mp c63) h.2.2.2.2.2.1)).symm hK)
                         | (refine kk (b1_f (fun h => (b1_0.mp c73) h.2.2.2.2.2.2.1)).symm hK)
                         | (refine kk (b1_f (fun h => (b1_0.mp c83) h.2.2.2.2.2.2.2.1)).symm hK)
                         | (refine kk (b1_f (fun h => (b1_0.mp c94) h.2.2.2.2.2.2.2.2.1)).symm hK)
                         | (refine kk (b1_f (fun h => (b1_0.mp c105) h.2.2.2.2.2.2.2.2.2)).symm hK)
                         | (refine kk (b1_t ⟨c12, by omega, b1_n0.mp c35, b1_n0.mp c44, b1_n0.mp c53, b1_n0.mp c63, b1_n0.mp c73, b1_n0.mp c83, b1_n0.mp c94, b1_n0.mp c105⟩).symm hK))
                  · refine g_aload_n B dX6_isWord_86 rfl ?_
                    refine g_bipush (v := (6)) B dX6_isWord_87 (by decide) ?_
                    refine g_iload B dX6_isWord_89 rfl ?_
                    refine g_callVi (C := RX6) (As := [.int _, .int _]) B dX6_isWord_91 (gc1 g_X6_168) (by rfl) ⟨rfl, hd_X6_isLetter⟩ (by exact ⟨Nat.le_of_ble_eq_true rfl, Nat.le_of_ble_eq_true rfl⟩) ⟨rfl, rfl⟩ rfl rfl (by exact Nat.le_of_ble_eq_true rfl) recvM (c_isLetter 6 (by decide) hp hk hq (he c12) rfl ?_)
                    refine g_if_eq (tgt := 112) B dX6_isWord_94 (by decide) (fun c94 => ?_) (fun c94 => ?_)
                    · refine g_iconst (v := (0)) B dX6_isWord_112 (by decide) ?_
                      refine g_zreti B dX6_isWord_113 (by first | rfl | exact b1_nar | assumption) ?_
                      first
                        | exact absurd hb c4
                        | (refine kk (b1_f (fun h => c12 h.1)).symm hK)
                        | (have hh := he c12
                           rw [hq.1, hh.1, show nI q + 8 = nI (q + 8) from nI_add q 8, i_lt, i_n (by have := hq.2; omega), i_n (by have := hh.2; omega)] at c26
                           first
                           | (refine kk (b1_f (fun h => by have := h.2.1; omega)).symm hK)
                           | (refine kk (b1_f (fun h => (b1_0.mp c35) h.2.2.1)).symm hK)
                           | (refine kk (b1_f (fun h => (b1_0.mp c44) h.2.2.2.1)).symm hK)
                           | (refine kk (b1_f (fun h => (b1_0.mp c53) h.2.2.2.2.1)).symm hK)
                           | (refine kk (b1_f (fun h => (b1_0.mp c63) h.2.2.2.2.2.1)).symm hK)
                           | (refine kk (b1_f (fun h => (b1_0.mp c73) h.2.2.2.2.2.2.1)).symm hK)
                           | (refine kk (b1_f (fun h => (b1_0.mp c83) h.2.2.2.2.2.2.2.1)).symm hK)
                           | (refine kk (b1_f (fun h => (b1_0.mp c94) h.2.2.2.2.2.2.2.2.1)).symm hK)
                           | (refine kk (b1_f (fun h => (b1_0.mp c105) h.2.2.2.2.2.2.2.2.2)).symm hK)
                           | (refine kk (b1_t ⟨c12, by omega, b1_n0.mp c35, b1_n0.mp c44, b1_n0.mp c53, b1_n0.mp c63, b1_n0.mp c73, b1_n0.mp c83, b1_n0.mp c94, b1_n0.mp c105⟩).symm hK))
                    · refine g_aload_n B dX6_isWord_97 rfl ?_
                      refine g_bipush (v := (7)) B dX6_isWord_98 (by decide) ?_
                      refine g_iload B dX6_isWord_100 rfl ?_
                      refine g_callVi (C := RX6) (As := [.int _, .int _]) B dX6_isWord_102 (gc1 g_X6_168) (by rfl) ⟨rfl, hd_X6_isLetter⟩ (by exact ⟨Nat.le_of_ble_eq_true rfl, Nat.le_of_ble_eq_true rfl⟩) ⟨rfl, rfl⟩ rfl rfl (by exact Nat.le_of_ble_eq_true rfl) recvM (c_isLetter 7 (by decide) hp hk hq (he c12) rfl ?_)
                      refine g_if_eq (tgt := 112) B dX6_isWord_105 (by decide) (fun c105 => ?_) (fun c105 => ?_)
                      · refine g_iconst (v := (0)) B dX6_isWord_112 (by decide) ?_
                        refine g_zreti B dX6_isWord_113 (by first | rfl | exact b1_nar | assumption) ?_
                        first
                          | exact absurd hb c4
                          | (refine kk (b1_f (fun h => c12 h.1)).symm hK)
                          | (have hh := he c12
                             rw [hq.1, hh.1, show nI q + 8 = nI (q + 8) from nI_add q 8, i_lt, i_n (by have := hq.2; omega), i_n (by have := hh.2; omega)] at c26
                             first
                             | (refine kk (b1_f (fun h => by have := h.2.1; omega)).symm hK)
                             | (refine kk (b1_f (fun h => (b1_0.mp c35) h.2.2.1)).symm hK)
                             | (refine kk (b1_f (fun h => (b1_0.mp c44) h.2.2.2.1)).symm hK)
                             | (refine kk (b1_f (fun h => (b1_0.mp c53) h.2.2.2.2.1)).symm hK)
                             | (refine kk (b1_f (fun h => (b1_0.mp c63) h.2.2.2.2.2.1)).symm hK)
                             | (refine kk (b1_f (fun h => (b1_0.mp c73) h.2.2.2.2.2.2.1)).symm hK)
                             | (refine kk (b1_f (fun h => (b1_0.mp c83) h.2.2.2.2.2.2.2.1)).symm hK)
                             | (refine kk (b1_f (fun h => (b1_0.mp c94) h.2.2.2.2.2.2.2.2.1)).symm hK)
                             | (refine kk (b1_f (fun h => (b1_0.mp c105) h.2.2.2.2.2.2.2.2.2)).symm hK)
                             | (refine kk (b1_t ⟨c12, by omega, b1_n0.mp c35, b1_n0.mp c44, b1_n0.mp c53, b1_n0.mp c63, b1_n0.mp c73, b1_n0.mp c83, b1_n0.mp c94, b1_n0.mp c105⟩).symm hK))
                      · refine g_iconst (v := (1)) B dX6_isWord_108 (by decide) ?_
                        refine g_goto (tgt := 113) B dX6_isWord_109 (by decide) ?_
                        refine g_zreti B dX6_isWord_113 (by first | rfl | exact b1_nar | assumption) ?_
                        first
                          | exact absurd hb c4
                          | (refine kk (b1_f (fun h => c12 h.1)).symm hK)
                          | (have hh := he c12
                             rw [hq.1, hh.1, show nI q + 8 = nI (q + 8) from nI_add q 8, i_lt, i_n (by have := hq.2; omega), i_n (by have := hh.2; omega)] at c26
                             first
                             | (refine kk (b1_f (fun h => by have := h.2.1; omega)).symm hK)
                             | (refine kk (b1_f (fun h => (b1_0.mp c35) h.2.2.1)).symm hK)
                             | (refine kk (b1_f (fun h => (b1_0.mp c44) h.2.2.2.1)).symm hK)
                             | (refine kk (b1_f (fun h => (b1_0.mp c53) h.2.2.2.2.1)).symm hK)
                             | (refine kk (b1_f (fun h => (b1_0.mp c63) h.2.2.2.2.2.1)).symm hK)
                             | (refine kk (b1_f (fun h => (b1_0.mp c73) h.2.2.2.2.2.2.1)).symm hK)
                             | (refine kk (b1_f (fun h => (b1_0.mp c83) h.2.2.2.2.2.2.2.1)).symm hK)
                             | (refine kk (b1_f (fun h => (b1_0.mp c94) h.2.2.2.2.2.2.2.2.1)).symm hK)
                             | (refine kk (b1_f (fun h => (b1_0.mp c105) h.2.2.2.2.2.2.2.2.2)).symm hK)
                             | (refine kk (b1_t ⟨c12, by omega, b1_n0.mp c35, b1_n0.mp c44, b1_n0.mp c53, b1_n0.mp c63, b1_n0.mp c73, b1_n0.mp c83, b1_n0.mp c94, b1_n0.mp c105⟩).symm hK))
set_option maxRecDepth 100000 in
set_option maxHeartbeats 4000000 in
/-- nothing is a word any more where one has failed -/
theorem c_isWordB {Z : LZ} {ad : Nat → Nat} {τ : St} {K : Int32 → St → Prop} {a b c d x y z w : Int32} (hb : τ.1 0 25 = 1) (hK : K 0 τ) : CC lyM Z ad yX6_isWord wsX6_isWord (rmk 2) [.ref (ad 0), .int a, .int b, .int c, .int d, .int x, .int y, .int z, .int w] τ (rI K) := by
  refine CC.of (cc := cX6_isWord) (nL := 9) (ret := (some .boolean)) rfl rfl ⟨rfl, rfl⟩ (by exact Nat.le_of_ble_eq_true rfl) ?_
  intro X B
  change GG _ _ _ _ X _ 0 [some (.ref (ad 0)), some (.int a), some (.int b), some (.int c), some (.int d), some (.int x), some (.int y), some (.int z), some (.int w)] [] _
  change Amb _ _ _ _ X _ _ RX6 _ _ at B
  refine g_aload_n B dX6_isWord_0 rfl ?_
  refine g_getI (T := TX6) (N := 42) B dX6_isWord_1 (by decide) (by rfl) (inq inlX6) rfl 25 (by decide) (mq f_X6_161) (by rfl) ?_
  refine g_if_ne (tgt := 112) B dX6_isWord_4 (by decide) (fun c4 => ?_) (fun c4 => ?_)
  · refine g_iconst (v := (0)) B dX6_isWord_112 (by decide) ?_
    refine g_zreti B dX6_isWord_113 (by first | rfl | exact b1_nar | assumption) ?_
    exact hK
  · exact absurd (c4.symm.trans hb) (by decide)
theorem in_L {b : Int32} : b1 ((97 : Int64) ≤ b.toInt64 ∧ b.toInt64 ≤ 122) = 0 ↔ ¬ isL b := by
  rw [b1_0, l_le, l_le, i_long]
  have h1 : (97 : Int64).toInt = 97 := rfl
  have h2 : (122 : Int64).toInt = 122 := rfl
  have h3 : (97 : Int32).toInt = 97 := rfl
  have h4 : (122 : Int32).toInt = 122 := rfl
  unfold isL
  rw [i_le, i_le]
  omega
theorem in_D {b : Int32} : b1 ((48 : Int64) ≤ b.toInt64 ∧ b.toInt64 ≤ 57) = 0 ↔ ¬ isD b := by
  rw [b1_0, l_le, l_le, i_long]
  have h1 : (48 : Int64).toInt = 48 := rfl
  have h2 : (57 : Int64).toInt = 57 := rfl
  have h3 : (48 : Int32).toInt = 48 := rfl
  have h4 : (57 : Int32).toInt = 57 := rfl
  unfold isD
  rw [i_le, i_le]
  omega
theorem gM_pk {ks : List Nat} {τ τ' : St} {t n : Nat} (h : pkx ks τ τ') : gM τ' t n = gM τ t n := by
  funext i
  unfold gM
  rw [h.1 1 (by decide)]
set_option maxRecDepth 100000 in
set_option maxHeartbeats 4000000 in
theorem nx_l1 {Z : LZ} {ad : Nat → Nat} {X : CX} {K : Option Value → St → Prop} {τ0 τs : St} {t n h : Nat} (B : Amb lyM Z ad (rmk 2) X cX6_next wsX6_next RX6 3 none) (hp : PT τ0 t n) (hg : gEnd (gM τ0 t n) n) (hs : pkx pS τ0 τs)
    (hc : ∀ τ', pkx [20] τs τ' → τ'.1 0 20 = nI (skp (gM τ0 t n) 200 h) → skp (gM τ0 t n) 200 h ≤ n → GG lyM Z ad (rmk 2) X K 39 [some (.ref (ad 0)), none, none] [] τ') :
    ∀ (k i : Nat) (τ : St), h ≤ i → i ≤ n → n - i < k → pkx [20] τs τ → τ.1 0 20 = nI i → (∀ j, h ≤ j → j < i → isB (gM τ0 t n j)) → GG lyM Z ad (rmk 2) X K 0 [some (.ref (ad 0)), none, none] [] τ := by
  intro k
  induction k with
  | zero => intro i τ _ _ h9; omega
  | succ k ih =>
    intro i τ h1 h2 h3 hk h20 hbl
    have hn := hp.2.1
    have hk1 : pkx pS τ0 τ := hs.trans (hk.mono (by decide))
    have hlt : isB (gM τ0 t n i) → i < n := fun q => by
      rcases Nat.lt_or_ge i n with r | r
      · exact r
      · rw [hg.1 i r] at q
        exact absurd q not_isB_neg
    have hnext : isB (gM τ0 t n i) → GG lyM Z ad (rmk 2) X K 0 [some (.ref (ad 0)), none, none] [] (upS τ 0 20 (τ.1 0 20 + 1)) := fun q =>
      ih (i + 1) _ (by omega) (hlt q) (by have := hlt q; omega) (hk.up (by decide)) (by rw [upS_1, h20]; exact nI_1 i) (fun j a b => by
        by_cases e : j = i
        · rw [e]; exact q
        · exact hbl j a (by omega))
    refine g_aload_n B dX6_next_0 rfl ?_
    refine g_aload_n B dX6_next_1 rfl ?_
    refine g_getI (T := TX6) (N := 42) B dX6_next_2 (by decide) (by rfl) (inq inlX6) rfl 20 (by decide) (mq f_X6_134) (by rfl) ?_
    refine g_callVi (C := RX6) (As := [.int _]) B dX6_next_5 (gc1 g_X6_137) (by rfl) ⟨rfl, hd_X6_byteAt⟩ (by exact ⟨Nat.le_of_ble_eq_true rfl, Nat.le_of_ble_eq_true rfl⟩) ⟨rfl, rfl⟩ rfl rfl (by exact Nat.le_of_ble_eq_true rfl) recvM (c_byteAt (j := i) hp hk1 (by omega) h20 ?_)
    refine g_bipush (v := (32)) B dX6_next_8 (by decide) ?_
    refine g_icmp_eq (tgt := 26) B dX6_next_10 (by decide) (fun c10 => ?_) (fun c10 => ?_)
    · refine g_aload_n B dX6_next_26 rfl ?_
      refine g_dup B dX6_next_27 rfl ?_
      refine g_getI (T := TX6) (N := 42) B dX6_next_28 (by decide) (by rfl) (inq inlX6) rfl 20 (by decide) (mq f_X6_134) (by rfl) ?_
      refine g_iconst (v := (1)) B dX6_next_31 (by decide) ?_
      refine g_iadd B dX6_next_32 ?_
      refine g_putI (T := TX6) (N := 42) B dX6_next_33 (by decide) (by rfl) (inq inlX6) rfl 20 (by decide) (mq f_X6_134) tyX6_ok nmX6 rfl ⟨rfl, rfl⟩ (by rfl) ?_
      refine g_goto (tgt := 0) B dX6_next_36 (by decide) ?_
      first | exact hnext (Or.inl c10) | exact hnext (Or.inr c23)
    · refine g_aload_n B dX6_next_13 rfl ?_
      refine g_aload_n B dX6_next_14 rfl ?_
      refine g_getI (T := TX6) (N := 42) B dX6_next_15 (by decide) (by rfl) (inq inlX6) rfl 20 (by decide) (mq f_X6_134) (by rfl) ?_
      refine g_callVi (C := RX6) (As := [.int _]) B dX6_next_18 (gc1 g_X6_137) (by rfl) ⟨rfl, hd_X6_byteAt⟩ (by exact ⟨Nat.le_of_ble_eq_true rfl, Nat.le_of_ble_eq_true rfl⟩) ⟨rfl, rfl⟩ rfl rfl (by exact Nat.le_of_ble_eq_true rfl) recvM (c_byteAt (j := i) hp hk1 (by omega) h20 ?_)
      refine g_bipush (v := (10)) B dX6_next_21 (by decide) ?_
      refine g_icmp_ne (tgt := 39) B dX6_next_23 (by decide) (fun c23 => ?_) (fun c23 => ?_)
      · have hq : ¬ isB (gM τ0 t n i) := fun q => q.elim c10 c23
        have e := skp_eq hq 200 h h1 (by omega) hbl
        exact hc τ hk (by rw [e]; exact h20) (by rw [e]; exact h2)
      · refine g_aload_n B dX6_next_26 rfl ?_
        refine g_dup B dX6_next_27 rfl ?_
        refine g_getI (T := TX6) (N := 42) B dX6_next_28 (by decide) (by rfl) (inq inlX6) rfl 20 (by decide) (mq f_X6_134) (by rfl) ?_
        refine g_iconst (v := (1)) B dX6_next_31 (by decide) ?_
        refine g_iadd B dX6_next_32 ?_
        refine g_putI (T := TX6) (N := 42) B dX6_next_33 (by decide) (by rfl) (inq inlX6) rfl 20 (by decide) (mq f_X6_134) tyX6_ok nmX6 rfl ⟨rfl, rfl⟩ (by rfl) ?_
        refine g_goto (tgt := 0) B dX6_next_36 (by decide) ?_
        first | exact hnext (Or.inl c10) | exact hnext (Or.inr c23)
set_option maxRecDepth 100000 in
set_option maxHeartbeats 4000000 in
theorem nx_l2 {Z : LZ} {ad : Nat → Nat} {X : CX} {K : St → Prop} {τ0 τs : St} {t n q : Nat} {b : Int32} (B : Amb lyM Z ad (rmk 2) X cX6_next wsX6_next RX6 3 none) (hp : PT τ0 t n) (hg : gEnd (gM τ0 t n) n) (hs : pkx pS τ0 τs)
    (hc : ∀ τ', pkx [20] τs τ' → τ'.1 0 20 = nI (spL (gM τ0 t n) 200 q) → K τ') :
    ∀ (k i : Nat) (τ : St), q ≤ i → i ≤ n → n - i < k → pkx [20] τs τ → τ.1 0 20 = nI i → (∀ j, q ≤ j → j < i → isL (gM τ0 t n j)) → GG lyM Z ad (rmk 2) X (rV K) 100 [some (.ref (ad 0)), some (.int b), none] [] τ := by
  intro k
  induction k with
  | zero => intro i τ _ _ h9; omega
  | succ k ih =>
    intro i τ h1 h2 h3 hk h20 hbl
    have hn := hp.2.1
    have hk1 : pkx pS τ0 τ := hs.trans (hk.mono (by decide))
    refine g_aload_n B dX6_next_100 rfl ?_
    refine g_aload_n B dX6_next_101 rfl ?_
    refine g_getI (T := TX6) (N := 42) B dX6_next_102 (by decide) (by rfl) (inq inlX6) rfl 20 (by decide) (mq f_X6_134) (by rfl) ?_
    refine g_callVi (C := RX6) (As := [.int _]) B dX6_next_105 (gc1 g_X6_137) (by rfl) ⟨rfl, hd_X6_byteAt⟩ (by exact ⟨Nat.le_of_ble_eq_true rfl, Nat.le_of_ble_eq_true rfl⟩) ⟨rfl, rfl⟩ rfl rfl (by exact Nat.le_of_ble_eq_true rfl) recvM (c_byteAt (j := i) hp hk1 (by omega) h20 ?_)
    refine g_i2l B dX6_next_108 rfl ?_
    refine g_ldc2 (v := (97)) B dX6_next_109 (mq k_X6_147) ?_
    refine g_ldc2 (v := (122)) B dX6_next_112 (mq k_X6_149) ?_
    refine g_callSi (As := [.long _, .long _, .long _]) B dX6_next_115 (gc1 g_X6_73) (by rfl) hd_X6_in (by exact ⟨Nat.le_of_ble_eq_true rfl, Nat.le_of_ble_eq_true rfl⟩) ⟨rfl, rfl⟩ rfl rfl (by exact Nat.le_of_ble_eq_true rfl) (c_in ?_)
    refine g_if_eq (tgt := 321) B dX6_next_118 (by decide) (fun c118 => ?_) (fun c118 => ?_)
    · refine g_vreti B dX6_next_321 ?_
      rw [in_L] at c118
      have e := spL_eq c118 200 q h1 (by omega) hbl
      exact hc τ hk (by rw [e]; exact h20)
    · rw [in_L, Decidable.not_not] at c118
      have hlt : i < n := by
        rcases Nat.lt_or_ge i n with r | r
        · exact r
        · rw [hg.1 i r] at c118
          exact absurd c118 not_isL_neg
      refine g_aload_n B dX6_next_121 rfl ?_
      refine g_dup B dX6_next_122 rfl ?_
      refine g_getI (T := TX6) (N := 42) B dX6_next_123 (by decide) (by rfl) (inq inlX6) rfl 20 (by decide) (mq f_X6_134) (by rfl) ?_
      refine g_iconst (v := (1)) B dX6_next_126 (by decide) ?_
      refine g_iadd B dX6_next_127 ?_
      refine g_putI (T := TX6) (N := 42) B dX6_next_128 (by decide) (by rfl) (inq inlX6) rfl 20 (by decide) (mq f_X6_134) tyX6_ok nmX6 rfl ⟨rfl, rfl⟩ (by rfl) ?_
      refine g_goto (tgt := 100) B dX6_next_131 (by decide) ?_
      exact ih (i + 1) _ (by omega) hlt (by omega) (hk.up (by decide)) (by rw [upS_1, h20]; exact nI_1 i) (fun j a b => by
        by_cases e : j = i
        · rw [e]; exact c118
        · exact hbl j a (by omega))
set_option maxRecDepth 100000 in
set_option maxHeartbeats 4000000 in
theorem nx_l3 {Z : LZ} {ad : Nat → Nat} {X : CX} {K : St → Prop} {τ0 τs : St} {t n q : Nat} {b : Int32} (B : Amb lyM Z ad (rmk 2) X cX6_next wsX6_next RX6 3 none) (hp : PT τ0 t n) (hg : gEnd (gM τ0 t n) n) (hs : pkx pS τ0 τs)
    (hc : ∀ τ', pkx [20, 21] τs τ' → τ'.1 0 20 = nI (spD (gM τ0 t n) 200 q) → (spD (gM τ0 t n) 200 q - q ≤ 4 → τ'.1 0 21 = 2 ∧ τ'.2.1 = nvL (gM τ0 t n) q (spD (gM τ0 t n) 200 q - q)) → (4 < spD (gM τ0 t n) 200 q - q → τ'.1 0 21 = 4) → K τ') :
    ∀ (k m : Nat) (τ : St), q + m ≤ n → n - (q + m) < k → pkx [20] τs τ → τ.1 0 20 = nI (q + m) → τ.2.1 = nvL (gM τ0 t n) q (min m 4) → (∀ j, q ≤ j → j < q + m → isD (gM τ0 t n j)) → GG lyM Z ad (rmk 2) X (rV K) 160 [some (.ref (ad 0)), some (.int b), some (.int (nI m))] [] τ := by
  intro k
  induction k with
  | zero => intro m τ _ h9; omega
  | succ k ih =>
    intro m τ h2 h3 hk h20 hw hbl
    have hn := hp.2.1
    have hk1 : pkx pS τ0 τ := hs.trans (hk.mono (by decide))
    refine g_aload_n B dX6_next_160 rfl ?_
    refine g_aload_n B dX6_next_161 rfl ?_
    refine g_getI (T := TX6) (N := 42) B dX6_next_162 (by decide) (by rfl) (inq inlX6) rfl 20 (by decide) (mq f_X6_134) (by rfl) ?_
    refine g_callVi (C := RX6) (As := [.int _]) B dX6_next_165 (gc1 g_X6_137) (by rfl) ⟨rfl, hd_X6_byteAt⟩ (by exact ⟨Nat.le_of_ble_eq_true rfl, Nat.le_of_ble_eq_true rfl⟩) ⟨rfl, rfl⟩ rfl rfl (by exact Nat.le_of_ble_eq_true rfl) recvM (c_byteAt (j := q + m) hp hk1 (by omega) h20 ?_)
    refine g_i2l B dX6_next_168 rfl ?_
    refine g_ldc2 (v := (48)) B dX6_next_169 (mq k_X6_151) ?_
    refine g_ldc2 (v := (57)) B dX6_next_172 (mq k_X6_153) ?_
    refine g_callSi (As := [.long _, .long _, .long _]) B dX6_next_175 (gc1 g_X6_73) (by rfl) hd_X6_in (by exact ⟨Nat.le_of_ble_eq_true rfl, Nat.le_of_ble_eq_true rfl⟩) ⟨rfl, rfl⟩ rfl rfl (by exact Nat.le_of_ble_eq_true rfl) (c_in ?_)
    refine g_if_eq (tgt := 235) B dX6_next_178 (by decide) (fun c178 => ?_) (fun c178 => ?_)
    · rw [in_D] at c178
      have e := spD_eq c178 200 q (Nat.le_add_right q m) (by omega) hbl
      have e4 : (4 : Int32) = nI 4 := rfl
      refine g_aload_n B dX6_next_235 rfl ?_
      refine g_iload_n B dX6_next_236 rfl ?_
      refine g_iconst (v := (4)) B dX6_next_237 (by decide) ?_
      refine g_icmp_le (tgt := 245) B dX6_next_238 (by decide) (fun c238 => ?_) (fun c238 => ?_)
      · refine g_iconst (v := (2)) B dX6_next_245 (by decide) ?_
        refine g_putI (T := TX6) (N := 42) B dX6_next_246 (by decide) (by rfl) (inq inlX6) rfl 21 (by decide) (mq f_X6_144) tyX6_ok nmX6 rfl ⟨rfl, rfl⟩ (by rfl) ?_
        refine g_goto (tgt := 321) B dX6_next_249 (by decide) ?_
        refine g_vreti B dX6_next_321 ?_
        rw [e4, i_le, i_n (by omega), i_n (by omega)] at c238
        rw [e, Nat.add_sub_cancel_left] at hc
        refine hc _ ((hk.mono (by decide)).up (by decide)) (by rw [upS_2 (by decide)]; exact h20) (fun h => ?_) (fun h => ?_)
        · first
          | exact ⟨upS_1, by rw [show min m 4 = m by omega] at hw; exact hw⟩
          | (exfalso; omega)
        · first
          | exact upS_1
          | (exfalso; omega)
      · refine g_iconst (v := (4)) B dX6_next_241 (by decide) ?_
        refine g_goto (tgt := 246) B dX6_next_242 (by decide) ?_
        refine g_putI (T := TX6) (N := 42) B dX6_next_246 (by decide) (by rfl) (inq inlX6) rfl 21 (by decide) (mq f_X6_144) tyX6_ok nmX6 rfl ⟨rfl, rfl⟩ (by rfl) ?_
        refine g_goto (tgt := 321) B dX6_next_249 (by decide) ?_
        refine g_vreti B dX6_next_321 ?_
        rw [e4, i_le, i_n (by omega), i_n (by omega)] at c238
        rw [e, Nat.add_sub_cancel_left] at hc
        refine hc _ ((hk.mono (by decide)).up (by decide)) (by rw [upS_2 (by decide)]; exact h20) (fun h => ?_) (fun h => ?_)
        · first
          | exact ⟨upS_1, by rw [show min m 4 = m by omega] at hw; exact hw⟩
          | (exfalso; omega)
        · first
          | exact upS_1
          | (exfalso; omega)
    · rw [in_D, Decidable.not_not] at c178
      have hlt : q + m < n := by
        rcases Nat.lt_or_ge (q + m) n with r | r
        · exact r
        · rw [hg.1 _ r] at c178
          exact absurd c178 not_isD_neg
      refine g_aload_n B dX6_next_181 rfl ?_
      refine g_iload_n B dX6_next_182 rfl ?_
      refine g_iconst (v := (4)) B dX6_next_183 (by decide) ?_
      refine g_icmp_ge (tgt := 212) B dX6_next_184 (by decide) (fun c184 => ?_) (fun c184 => ?_)
      · refine g_aload_n B dX6_next_212 rfl ?_
        refine g_getL (T := TX6) (N := 42) B dX6_next_213 (by decide) (by rfl) (inq inlX6) rfl 23 (by decide) (mq f_X6_155) (by rfl) ?_
        refine g_putL (T := TX6) (N := 42) B dX6_next_216 (by decide) (by rfl) (inq inlX6) rfl 23 (by decide) (mq f_X6_155) tyX6_ok nmX6 rfl ⟨rfl, rfl⟩ (by rfl) (by rfl) (by rfl) ?_
        refine g_iinc (c9 := (1)) B dX6_next_219 rfl (by decide) (by decide) rfl ?_
        refine g_aload_n B dX6_next_222 rfl ?_
        refine g_dup B dX6_next_223 rfl ?_
        refine g_getI (T := TX6) (N := 42) B dX6_next_224 (by decide) (by rfl) (inq inlX6) rfl 20 (by decide) (mq f_X6_134) (by rfl) ?_
        refine g_iconst (v := (1)) B dX6_next_227 (by decide) ?_
        refine g_iadd B dX6_next_228 ?_
        refine g_putI (T := TX6) (N := 42) B dX6_next_229 (by decide) (by rfl) (inq inlX6) rfl 20 (by decide) (mq f_X6_134) tyX6_ok nmX6 rfl ⟨rfl, rfl⟩ (by rfl) ?_
        refine g_goto (tgt := 160) B dX6_next_232 (by decide) ?_
        rw [nI_1 m]
        have e4 : (4 : Int32) = nI 4 := rfl
        rw [e4, i_le, i_n (by omega), i_n (by omega)] at c184
        refine ih (m + 1) _ (by omega) (by omega) ((hk.upL).up (by decide)) (by rw [upS_1, upL_1, h20]; exact nI_1 (q + m)) ?_ (fun j a b => by
          by_cases e : j = q + m
          · rw [e]; exact c178
          · exact hbl j a (by omega))
        first
          | (show _ = nvL (gM τ0 t n) q (min (m + 1) 4)
             rw [show min (m + 1) 4 = m + 1 by omega]
             unfold nvL
             rw [show min m 4 = m by omega] at hw
             show 10 * τ.2.1 + _ - 48 = _
             rw [hw]
             done)
          | (show τ.2.1 = nvL (gM τ0 t n) q (min (m + 1) 4)
             rw [show min (m + 1) 4 = min m 4 by omega]
             exact hw)
      · refine g_ldc2 (v := (10)) B dX6_next_187 (mq k_X6_159) ?_
        refine g_aload_n B dX6_next_190 rfl ?_
        refine g_getL (T := TX6) (N := 42) B dX6_next_191 (by decide) (by rfl) (inq inlX6) rfl 23 (by decide) (mq f_X6_155) (by rfl) ?_
        refine g_lmul B dX6_next_194 ?_
        refine g_aload_n B dX6_next_195 rfl ?_
        refine g_aload_n B dX6_next_196 rfl ?_
        refine g_getI (T := TX6) (N := 42) B dX6_next_197 (by decide) (by rfl) (inq inlX6) rfl 20 (by decide) (mq f_X6_134) (by rfl) ?_
        refine g_callVi (C := RX6) (As := [.int _]) B dX6_next_200 (gc1 g_X6_137) (by rfl) ⟨rfl, hd_X6_byteAt⟩ (by exact ⟨Nat.le_of_ble_eq_true rfl, Nat.le_of_ble_eq_true rfl⟩) ⟨rfl, rfl⟩ rfl rfl (by exact Nat.le_of_ble_eq_true rfl) recvM (c_byteAt (j := q + m) hp hk1 (by omega) h20 ?_)
        refine g_i2l B dX6_next_203 rfl ?_
        refine g_ladd B dX6_next_204 ?_
        refine g_ldc2 (v := (48)) B dX6_next_205 (mq k_X6_151) ?_
        refine g_lsub B dX6_next_208 ?_
        refine g_goto (tgt := 216) B dX6_next_209 (by decide) ?_
        refine g_putL (T := TX6) (N := 42) B dX6_next_216 (by decide) (by rfl) (inq inlX6) rfl 23 (by decide) (mq f_X6_155) tyX6_ok nmX6 rfl ⟨rfl, rfl⟩ (by rfl) (by rfl) (by rfl) ?_
        refine g_iinc (c9 := (1)) B dX6_next_219 rfl (by decide) (by decide) rfl ?_
        refine g_aload_n B dX6_next_222 rfl ?_
        refine g_dup B dX6_next_223 rfl ?_
        refine g_getI (T := TX6) (N := 42) B dX6_next_224 (by decide) (by rfl) (inq inlX6) rfl 20 (by decide) (mq f_X6_134) (by rfl) ?_
        refine g_iconst (v := (1)) B dX6_next_227 (by decide) ?_
        refine g_iadd B dX6_next_228 ?_
        refine g_putI (T := TX6) (N := 42) B dX6_next_229 (by decide) (by rfl) (inq inlX6) rfl 20 (by decide) (mq f_X6_134) tyX6_ok nmX6 rfl ⟨rfl, rfl⟩ (by rfl) ?_
        refine g_goto (tgt := 160) B dX6_next_232 (by decide) ?_
        rw [nI_1 m]
        have e4 : (4 : Int32) = nI 4 := rfl
        rw [e4, i_le, i_n (by omega), i_n (by omega)] at c184
        refine ih (m + 1) _ (by omega) (by omega) ((hk.upL).up (by decide)) (by rw [upS_1, upL_1, h20]; exact nI_1 (q + m)) ?_ (fun j a b => by
          by_cases e : j = q + m
          · rw [e]; exact c178
          · exact hbl j a (by omega))
        first
          | (show _ = nvL (gM τ0 t n) q (min (m + 1) 4)
             rw [show min (m + 1) 4 = m + 1 by omega]
             unfold nvL
             rw [show min m 4 = m by omega] at hw
             show 10 * τ.2.1 + _ - 48 = _
             rw [hw]
             done)
          | (show τ.2.1 = nvL (gM τ0 t n) q (min (m + 1) 4)
             rw [show min (m + 1) 4 = min m 4 by omega]
             exact hw)

