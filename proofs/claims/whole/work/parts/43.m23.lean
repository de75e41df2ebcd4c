/-! tells, chance *reference* -/
abbrev telP (m : Nat) (x y w : Int32) : Prop := isSh x ∧ isUs m y ∧ 0 ≤ w.toInt ∧ w.toInt ≤ 5
def tlW (w : Int32) : Nat := if w = 1 then 4 else if w = 4 then 5 else w.toNatClampNeg
def tlA (c : Nat) (w : Int32) : Nat := if w = 1 then 6 else if w = 2 then 10 else if w = 3 then 2 else c
def fTells (τ : St) (C : TC) (T : Nat → TC) (m c : Nat) (x y w : Int32) : Int32 :=
  if telP m x y w then
    (if τ.1 12 x.toNatClampNeg = 0 then -11
    else if ¬ τ.1 14 x.toNatClampNeg ≤ 30 then -2
    else if w = 0 then sFO (vM τ C) (τ.1 0 7) y.toNatClampNeg (itM τ x.toNatClampNeg) (τ.1 14 x.toNatClampNeg).toNatClampNeg
    else if w = 5 then btF (fun t => sFO (vM τ C) (flS (τ.1 0 7) t) y.toNatClampNeg (itM τ x.toNatClampNeg) (τ.1 14 x.toNatClampNeg).toNatClampNeg) (τ.1 14 x.toNatClampNeg).toNatClampNeg
    else btF (tlf τ C T x.toNatClampNeg y.toNatClampNeg (tlW w) (τ.1 14 x.toNatClampNeg).toNatClampNeg) (tlA c w))
  else -2
theorem told_lays {τ : St} {C : TC} {m u w : Nat} (hu : u < m) (hm : m ≤ 6) (hw : 2 ≤ w) (hw4 : w ≤ 4) : laysT τ w u (fTold τ C m (nI u) (nI w)) = τ := by
  have hof : (0 ≤ (nI w).toInt ∧ (nI w).toInt ≤ 6) ∧ ofP m (nI w) (nI u) := by
    rw [i_n (by omega)]
    refine ⟨by omega, Or.inr (Or.inr ⟨?_, ?_⟩)⟩
    · rw [i_eq, i_le, i1, i4, i_n (by omega)]
      omega
    · unfold isUs
      rw [i_n (by omega)]
      omega
  unfold fTold
  rw [if_pos hof, if_pos (by rw [i_le, i5, i_n (by omega)]; omega), if_neg (by rw [i_eq, i0, i_n (by omega)]; omega), if_neg (by rw [i_eq, i1, i_n (by omega)]; omega), i_cl (by omega), i_cl (by omega)]
  unfold laysT
  rw [if_neg (by omega), if_neg (by omega)]
  by_cases h4 : w < 4
  · rw [if_pos h4, if_pos (by rw [i_le, i4, i_n (by omega)]; omega)]
    exact upS_same
  · rw [if_neg h4, if_pos (show w = 4 by omega), if_neg (by rw [i_le, i4, i_n (by omega)]; omega)]
    exact upS_same
set_option maxRecDepth 100000 in
set_option maxHeartbeats 4000000 in
theorem c_tells {Z : LZ} {ad : Nat → Nat} {τ : St} {K : Int32 → St → Prop} {x y what : Int32} {m c : Nat} {C : TC} {T : Nat → TC} (hC : RUL τ C) (hS : SHO τ) (hm6 : m ≤ 6) (hm : τ.1 0 11 = nI m) (hc6 : c ≤ 6) (hc : τ.1 0 3 = nI c) (hT : ∀ v, v < c → ∃ n, TXM τ v n (T v)) (hK : ∀ τ', sg τ τ' → K (fTells τ C T m c x y what) τ') : CC lyM Z ad yX6_tells wsX6_tells (rmk 47) [.ref (ad 0), .int x, .int y, .int what] τ (rI K) := by
  refine CC.of (cc := cX6_tells) (nL := 9) (ret := (some .int)) rfl rfl ⟨rfl, rfl⟩ (by exact Nat.le_of_ble_eq_true rfl) ?_
  intro X B
  change GG _ _ _ _ X _ 0 [some (.ref (ad 0)), some (.int x), some (.int y), some (.int what), none, none, none, none, none] [] _
  change Amb _ _ _ _ X _ _ RX6 _ _ at B
  unfold fTells at hK
  refine g_iload_n B dX6_tells_0 rfl ?_
  refine g_callSi (As := [.int _]) B dX6_tells_1 (gc1 g_X6_391) (by rfl) hd_X6_isSheet (by exact ⟨Nat.le_of_ble_eq_true rfl, Nat.le_of_ble_eq_true rfl⟩) ⟨rfl, rfl⟩ rfl rfl (by exact Nat.le_of_ble_eq_true rfl) (c_isSheet ?_)
  refine g_if_eq (tgt := 27) B dX6_tells_4 (by decide) (fun c4 => ?_) (fun c4 => ?_)
  · have hno : ¬ telP m x y what := fun q => by
      first
      | exact b1_0.mp c4 q.1
      | exact b1_0.mp c12 q.2.1
      | exact b1_0.mp c24 q.2.2
    rw [if_neg hno] at hK
    refine g_bipush (v := (-2)) B dX6_tells_27 (by decide) ?_
    refine g_ireti B dX6_tells_29 ?_
    first
      | exact hK τ pkz.rf
      | exact hK _ (sgx p1)
  · refine g_aload_n B dX6_tells_7 rfl ?_
    refine g_iload_n B dX6_tells_8 rfl ?_
    refine g_callVi (C := RX6) (As := [.int _]) B dX6_tells_9 (gc1 g_X6_83) (by rfl) ⟨rfl, hd_X6_isUser⟩ (by exact ⟨Nat.le_of_ble_eq_true rfl, Nat.le_of_ble_eq_true rfl⟩) ⟨rfl, rfl⟩ rfl rfl (by exact Nat.le_of_ble_eq_true rfl) recvM (c_isUser hm6 hm ?_)
    refine g_if_eq (tgt := 27) B dX6_tells_12 (by decide) (fun c12 => ?_) (fun c12 => ?_)
    · have hno : ¬ telP m x y what := fun q => by
        first
        | exact b1_0.mp c4 q.1
        | exact b1_0.mp c12 q.2.1
        | exact b1_0.mp c24 q.2.2
      rw [if_neg hno] at hK
      refine g_bipush (v := (-2)) B dX6_tells_27 (by decide) ?_
      refine g_ireti B dX6_tells_29 ?_
      first
        | exact hK τ pkz.rf
        | exact hK _ (sgx p1)
    · refine g_iload_n B dX6_tells_15 rfl ?_
      refine g_i2l B dX6_tells_16 rfl ?_
      refine g_lconst (v := (0)) B dX6_tells_17 (by decide) ?_
      refine g_ldc2 (v := (5)) B dX6_tells_18 (mq k_X6_110) ?_
      refine g_callSi (As := [.long _, .long _, .long _]) B dX6_tells_21 (gc1 g_X6_73) (by rfl) hd_X6_in (by exact ⟨Nat.le_of_ble_eq_true rfl, Nat.le_of_ble_eq_true rfl⟩) ⟨rfl, rfl⟩ rfl rfl (by exact Nat.le_of_ble_eq_true rfl) (c_in ?_)
      rw [in_0, show (5 : Int64).toInt = 5 from rfl]
      refine g_if_ne (tgt := 30) B dX6_tells_24 (by decide) (fun c24 => ?_) (fun c24 => ?_)
      · have hyes : telP m x y what := ⟨b1_n0.mp c4, b1_n0.mp c12, b1_n0.mp c24⟩
        rw [if_pos hyes] at hK
        obtain ⟨s, hs, rfl⟩ := i_nat (n := 4) hyes.1.1 (by have := hyes.1.2; omega)
        obtain ⟨u, hu, rfl⟩ := i_nat (x := y) (n := m) hyes.2.1.1 hyes.2.1.2
        rw [i_cl (by omega), i_cl (by omega)] at hK
        refine g_aload_n B dX6_tells_30 rfl ?_
        refine g_getR (T := TX6) (N := 42) B dX6_tells_31 (by decide) (by rfl) (inq inlX6) rfl 38 (by decide) (mq f_X6_51) (by rfl) ?_
        refine g_iload_n B dX6_tells_34 rfl ?_
        refine g_zald B dX6_tells_35 (by decide) (by rfl) (by exact vp_in_nI hs (by omega)) ?_
        rw [i_cl (by omega)]
        refine g_if_ne (tgt := 42) B dX6_tells_36 (by decide) (fun c36 => ?_) (fun c36 => ?_)
        · rw [if_neg c36] at hK
          obtain ⟨n, hn, hz⟩ := hS s hs c36
          refine g_aload_n B dX6_tells_42 rfl ?_
          refine g_getR (T := TX6) (N := 42) B dX6_tells_43 (by decide) (by rfl) (inq inlX6) rfl 40 (by decide) (mq f_X6_57) (by rfl) ?_
          refine g_iload_n B dX6_tells_46 rfl ?_
          refine g_iald B dX6_tells_47 (by decide) (by rfl) (by exact vp_in_nI hs (by omega)) ?_
          rw [i_cl (by omega)]
          refine g_bipush (v := (30)) B dX6_tells_48 (by decide) ?_
          refine g_icmp_le (tgt := 56) B dX6_tells_50 (by decide) (fun c50 => ?_) (fun c50 => ?_)
          · rw [if_neg (fun q => q c50)] at hK
            have hn30 : n ≤ 30 := by
              have h1 := c50
              rw [hz, show (30 : Int32) = nI 30 from rfl, nI_leI (by omega) (by omega)] at h1
              exact h1
            rw [hz, i_cl (by omega)] at hK
            refine g_iload_n B dX6_tells_56 rfl ?_
            refine g_if_ne (tgt := 71) B dX6_tells_57 (by decide) (fun c57 => ?_) (fun c57 => ?_)
            · rw [if_neg c57] at hK
              refine g_iconst (v := (0)) B dX6_tells_71 (by decide) ?_
              refine g_istore B dX6_tells_72 (by decide) rfl ?_
              refine g_iload_n B dX6_tells_74 rfl ?_
              refine g_iconst (v := (5)) B dX6_tells_75 (by decide) ?_
              refine g_icmp_ne (tgt := 134) B dX6_tells_76 (by decide) (fun c76 => ?_) (fun c76 => ?_)
              · rw [if_neg c76] at hK
                have hwb := hyes.2.2
                have hw1 : ¬ what.toInt = 0 := fun q => c57 (i_eq.mpr q)
                have hw2 : ¬ what.toInt = 5 := fun q => c76 (i_eq.mpr q)
                obtain ⟨w0, hw0, ew0⟩ := i_nat (x := what) (n := 5) hwb.1 (by omega)
                refine g_iload_n B dX6_tells_134 rfl ?_
                refine g_iconst (v := (1)) B dX6_tells_135 (by decide) ?_
                refine g_icmp_ne (tgt := 143) B dX6_tells_136 (by decide) (fun c136 => ?_) (fun c136 => ?_)
                · refine g_iload_n B dX6_tells_143 rfl ?_
                  refine g_iconst (v := (4)) B dX6_tells_144 (by decide) ?_
                  refine g_icmp_ne (tgt := 152) B dX6_tells_145 (by decide) (fun c145 => ?_) (fun c145 => ?_)
                  · refine g_iload_n B dX6_tells_152 rfl ?_
                    refine g_istore B dX6_tells_153 (by decide) rfl ?_
                    refine g_iload B dX6_tells_155 rfl ?_
                    refine g_iconst (v := (5)) B dX6_tells_157 (by decide) ?_
                    refine g_icmp_ne (tgt := 168) B dX6_tells_158 (by decide) (fun c158 => ?_) (fun c158 => ?_)
                    · refine g_aload_n B dX6_tells_168 rfl ?_
                      refine g_iload_n B dX6_tells_169 rfl ?_
                      refine g_iload B dX6_tells_170 rfl ?_
                      refine g_callVi (C := RX6) (As := [.int _, .int _]) B dX6_tells_172 (gc1 g_X6_96) (by rfl) ⟨rfl, hd_X6_told⟩ (by exact ⟨Nat.le_of_ble_eq_true rfl, Nat.le_of_ble_eq_true rfl⟩) ⟨rfl, rfl⟩ rfl rfl (by exact Nat.le_of_ble_eq_true rfl) recvM (c_told (m := m) hC hm6 hm (fun τ1 p1 => ?_))
                      refine g_istore B dX6_tells_175 (by decide) rfl ?_
                      refine g_iload_n B dX6_tells_177 rfl ?_
                      refine g_iconst (v := (1)) B dX6_tells_178 (by decide) ?_
                      refine g_icmp_ne (tgt := 187) B dX6_tells_179 (by decide) (fun c179 => ?_) (fun c179 => ?_)
                      · refine g_iload_n B dX6_tells_187 rfl ?_
                        refine g_iconst (v := (2)) B dX6_tells_188 (by decide) ?_
                        refine g_icmp_ne (tgt := 197) B dX6_tells_189 (by decide) (fun c189 => ?_) (fun c189 => ?_)
                        · refine g_iload_n B dX6_tells_197 rfl ?_
                          refine g_iconst (v := (3)) B dX6_tells_198 (by decide) ?_
                          refine g_icmp_ne (tgt := 206) B dX6_tells_199 (by decide) (fun c199 => ?_) (fun c199 => ?_)
                          · exact absurd (show what.toInt = 4 by have a1 : ¬ what.toInt = 1 := fun q => c136 (i_eq.mpr q); have a2 : ¬ what.toInt = 2 := fun q => c189 (i_eq.mpr q); have a3 : ¬ what.toInt = 3 := fun q => c199 (i_eq.mpr q); omega) (fun q => c145 (i_eq.mpr q))
                          · refine g_iconst (v := (2)) B dX6_tells_202 (by decide) ?_
                            refine g_goto (tgt := 210) B dX6_tells_203 (by decide) ?_
                            refine g_istore B dX6_tells_210 (by decide) rfl ?_
                            refine g_iconst (v := (0)) B dX6_tells_212 (by decide) ?_
                            refine g_istore B dX6_tells_213 (by decide) rfl ?_
                            first
                              | (have e4 : what = 4 := c145
                                 subst e4
                                 obtain ⟨r, n0, hr, hx⟩ := hC
                                 rw [hc]
                                 exact l_tells B (C := C) (T := T) (w := 5) (al := c) ⟨r, n0, hr, hx⟩ hs (by omega) hn30 hz (by omega) (by omega) (by omega) (fun _ v hv => hT v hv) (upS_same (o := 0) (k := 4)) hK c 0 τ (by omega) ⟨τ.1 0 4, by rw [show laysT τ 5 u (τ.1 0 4) = τ from upS_same (o := 0) (k := 4)]; exact pkz.rf⟩)
                              | (have e1 : what = 1 := c136
                                 subst e1
                                 exact l_tells B (C := C) (T := T) (w := 4) (al := 6) hC hs (by omega) hn30 hz (by omega) (by omega) (by omega) (fun e => by omega) (told_lays (C := C) hu hm6 (by omega) (by omega)) hK 6 0 τ1 (by omega) ⟨fTold τ C m (nI u) (nI 4), by rw [told_lays (C := C) hu hm6 (by omega) (by omega)]; exact sgx p1⟩)
                              | (have e2 : what = 2 := c189
                                 subst e2
                                 exact l_tells B (C := C) (T := T) (w := 2) (al := 10) hC hs (by omega) hn30 hz (by omega) (by omega) (by omega) (fun e => by omega) (told_lays (C := C) hu hm6 (by omega) (by omega)) hK 10 0 τ1 (by omega) ⟨fTold τ C m (nI u) (nI 2), by rw [told_lays (C := C) hu hm6 (by omega) (by omega)]; exact sgx p1⟩)
                              | (have e3 : what = 3 := c199
                                 subst e3
                                 exact l_tells B (C := C) (T := T) (w := 3) (al := 2) hC hs (by omega) hn30 hz (by omega) (by omega) (by omega) (fun e => by omega) (told_lays (C := C) hu hm6 (by omega) (by omega)) hK 2 0 τ1 (by omega) ⟨fTold τ C m (nI u) (nI 3), by rw [told_lays (C := C) hu hm6 (by omega) (by omega)]; exact sgx p1⟩)
                        · refine g_bipush (v := (10)) B dX6_tells_192 (by decide) ?_
                          refine g_goto (tgt := 210) B dX6_tells_194 (by decide) ?_
                          refine g_istore B dX6_tells_210 (by decide) rfl ?_
                          refine g_iconst (v := (0)) B dX6_tells_212 (by decide) ?_
                          refine g_istore B dX6_tells_213 (by decide) rfl ?_
                          first
                            | (have e4 : what = 4 := c145
                               subst e4
                               obtain ⟨r, n0, hr, hx⟩ := hC
                               rw [hc]
                               exact l_tells B (C := C) (T := T) (w := 5) (al := c) ⟨r, n0, hr, hx⟩ hs (by omega) hn30 hz (by omega) (by omega) (by omega) (fun _ v hv => hT v hv) (upS_same (o := 0) (k := 4)) hK c 0 τ (by omega) ⟨τ.1 0 4, by rw [show laysT τ 5 u (τ.1 0 4) = τ from upS_same (o := 0) (k := 4)]; exact pkz.rf⟩)
                            | (have e1 : what = 1 := c136
                               subst e1
                               exact l_tells B (C := C) (T := T) (w := 4) (al := 6) hC hs (by omega) hn30 hz (by omega) (by omega) (by omega) (fun e => by omega) (told_lays (C := C) hu hm6 (by omega) (by omega)) hK 6 0 τ1 (by omega) ⟨fTold τ C m (nI u) (nI 4), by rw [told_lays (C := C) hu hm6 (by omega) (by omega)]; exact sgx p1⟩)
                            | (have e2 : what = 2 := c189
                               subst e2
                               exact l_tells B (C := C) (T := T) (w := 2) (al := 10) hC hs (by omega) hn30 hz (by omega) (by omega) (by omega) (fun e => by omega) (told_lays (C := C) hu hm6 (by omega) (by omega)) hK 10 0 τ1 (by omega) ⟨fTold τ C m (nI u) (nI 2), by rw [told_lays (C := C) hu hm6 (by omega) (by omega)]; exact sgx p1⟩)
                            | (have e3 : what = 3 := c199
                               subst e3
                               exact l_tells B (C := C) (T := T) (w := 3) (al := 2) hC hs (by omega) hn30 hz (by omega) (by omega) (by omega) (fun e => by omega) (told_lays (C := C) hu hm6 (by omega) (by omega)) hK 2 0 τ1 (by omega) ⟨fTold τ C m (nI u) (nI 3), by rw [told_lays (C := C) hu hm6 (by omega) (by omega)]; exact sgx p1⟩)
                      · exact absurd c179 c136
                    · exact absurd c158 c76
                  · refine g_iconst (v := (5)) B dX6_tells_148 (by decide) ?_
                    refine g_goto (tgt := 153) B dX6_tells_149 (by decide) ?_
                    refine g_istore B dX6_tells_153 (by decide) rfl ?_
                    refine g_iload B dX6_tells_155 rfl ?_
                    refine g_iconst (v := (5)) B dX6_tells_157 (by decide) ?_
                    refine g_icmp_ne (tgt := 168) B dX6_tells_158 (by decide) (fun c158 => ?_) (fun c158 => ?_)
                    · exact absurd rfl c158
                    · refine g_aload_n B dX6_tells_161 rfl ?_
                      refine g_getI (T := TX6) (N := 42) B dX6_tells_162 (by decide) (by rfl) (inq inlX6) rfl 4 (by decide) (mq f_X6_107) (by rfl) ?_
                      refine g_goto (tgt := 175) B dX6_tells_165 (by decide) ?_
                      refine g_istore B dX6_tells_175 (by decide) rfl ?_
                      refine g_iload_n B dX6_tells_177 rfl ?_
                      refine g_iconst (v := (1)) B dX6_tells_178 (by decide) ?_
                      refine g_icmp_ne (tgt := 187) B dX6_tells_179 (by decide) (fun c179 => ?_) (fun c179 => ?_)
                      · refine g_iload_n B dX6_tells_187 rfl ?_
                        refine g_iconst (v := (2)) B dX6_tells_188 (by decide) ?_
                        refine g_icmp_ne (tgt := 197) B dX6_tells_189 (by decide) (fun c189 => ?_) (fun c189 => ?_)
                        · refine g_iload_n B dX6_tells_197 rfl ?_
                          refine g_iconst (v := (3)) B dX6_tells_198 (by decide) ?_
                          refine g_icmp_ne (tgt := 206) B dX6_tells_199 (by decide) (fun c199 => ?_) (fun c199 => ?_)
                          · refine g_aload_n B dX6_tells_206 rfl ?_
                            refine g_getI (T := TX6) (N := 42) B dX6_tells_207 (by decide) (by rfl) (inq inlX6) rfl 3 (by decide) (mq f_X6_67) (by rfl) ?_
                            refine g_istore B dX6_tells_210 (by decide) rfl ?_
                            refine g_iconst (v := (0)) B dX6_tells_212 (by decide) ?_
                            refine g_istore B dX6_tells_213 (by decide) rfl ?_
                            first
                              | (have e4 : what = 4 := c145
                                 subst e4
                                 obtain ⟨r, n0, hr, hx⟩ := hC
                                 rw [hc]
                                 exact l_tells B (C := C) (T := T) (w := 5) (al := c) ⟨r, n0, hr, hx⟩ hs (by omega) hn30 hz (by omega) (by omega) (by omega) (fun _ v hv => hT v hv) (upS_same (o := 0) (k := 4)) hK c 0 τ (by omega) ⟨τ.1 0 4, by rw [show laysT τ 5 u (τ.1 0 4) = τ from upS_same (o := 0) (k := 4)]; exact pkz.rf⟩)
                              | (have e1 : what = 1 := c136
                                 subst e1
                                 exact l_tells B (C := C) (T := T) (w := 4) (al := 6) hC hs (by omega) hn30 hz (by omega) (by omega) (by omega) (fun e => by omega) (told_lays (C := C) hu hm6 (by omega) (by omega)) hK 6 0 τ1 (by omega) ⟨fTold τ C m (nI u) (nI 4), by rw [told_lays (C := C) hu hm6 (by omega) (by omega)]; exact sgx p1⟩)
                              | (have e2 : what = 2 := c189
                                 subst e2
                                 exact l_tells B (C := C) (T := T) (w := 2) (al := 10) hC hs (by omega) hn30 hz (by omega) (by omega) (by omega) (fun e => by omega) (told_lays (C := C) hu hm6 (by omega) (by omega)) hK 10 0 τ1 (by omega) ⟨fTold τ C m (nI u) (nI 2), by rw [told_lays (C := C) hu hm6 (by omega) (by omega)]; exact sgx p1⟩)
                              | (have e3 : what = 3 := c199
                                 subst e3
                                 exact l_tells B (C := C) (T := T) (w := 3) (al := 2) hC hs (by omega) hn30 hz (by omega) (by omega) (by omega) (fun e => by omega) (told_lays (C := C) hu hm6 (by omega) (by omega)) hK 2 0 τ1 (by omega) ⟨fTold τ C m (nI u) (nI 3), by rw [told_lays (C := C) hu hm6 (by omega) (by omega)]; exact sgx p1⟩)
                          · exact absurd (c145.symm.trans c199) (by decide)
                        · exact absurd (c145.symm.trans c189) (by decide)
                      · exact absurd c179 c136
                · refine g_iconst (v := (4)) B dX6_tells_139 (by decide) ?_
                  refine g_goto (tgt := 153) B dX6_tells_140 (by decide) ?_
                  refine g_istore B dX6_tells_153 (by decide) rfl ?_
                  refine g_iload B dX6_tells_155 rfl ?_
                  refine g_iconst (v := (5)) B dX6_tells_157 (by decide) ?_
                  refine g_icmp_ne (tgt := 168) B dX6_tells_158 (by decide) (fun c158 => ?_) (fun c158 => ?_)
                  · refine g_aload_n B dX6_tells_168 rfl ?_
                    refine g_iload_n B dX6_tells_169 rfl ?_
                    refine g_iload B dX6_tells_170 rfl ?_
                    refine g_callVi (C := RX6) (As := [.int _, .int _]) B dX6_tells_172 (gc1 g_X6_96) (by rfl) ⟨rfl, hd_X6_told⟩ (by exact ⟨Nat.le_of_ble_eq_true rfl, Nat.le_of_ble_eq_true rfl⟩) ⟨rfl, rfl⟩ rfl rfl (by exact Nat.le_of_ble_eq_true rfl) recvM (c_told (m := m) hC hm6 hm (fun τ1 p1 => ?_))
                    refine g_istore B dX6_tells_175 (by decide) rfl ?_
                    refine g_iload_n B dX6_tells_177 rfl ?_
                    refine g_iconst (v := (1)) B dX6_tells_178 (by decide) ?_
                    refine g_icmp_ne (tgt := 187) B dX6_tells_179 (by decide) (fun c179 => ?_) (fun c179 => ?_)
                    · exact absurd c136 c179
                    · refine g_bipush (v := (6)) B dX6_tells_182 (by decide) ?_
                      refine g_goto (tgt := 210) B dX6_tells_184 (by decide) ?_
                      refine g_istore B dX6_tells_210 (by decide) rfl ?_
                      refine g_iconst (v := (0)) B dX6_tells_212 (by decide) ?_
                      refine g_istore B dX6_tells_213 (by decide) rfl ?_
                      first
                        | (have e4 : what = 4 := c145
                           subst e4
                           obtain ⟨r, n0, hr, hx⟩ := hC
                           rw [hc]
                           exact l_tells B (C := C) (T := T) (w := 5) (al := c) ⟨r, n0, hr, hx⟩ hs (by omega) hn30 hz (by omega) (by omega) (by omega) (fun _ v hv => hT v hv) (upS_same (o := 0) (k := 4)) hK c 0 τ (by omega) ⟨τ.1 0 4, by rw [show laysT τ 5 u (τ.1 0 4) = τ from upS_same (o := 0) (k := 4)]; exact pkz.rf⟩)
                        | (have e1 : what = 1 := c136
                           subst e1
                           exact l_tells B (C := C) (T := T) (w := 4) (al := 6) hC hs (by omega) hn30 hz (by omega) (by omega) (by omega) (fun e => by omega) (told_lays (C := C) hu hm6 (by omega) (by omega)) hK 6 0 τ1 (by omega) ⟨fTold τ C m (nI u) (nI 4), by rw [told_lays (C := C) hu hm6 (by omega) (by omega)]; exact sgx p1⟩)
                        | (have e2 : what = 2 := c189
                           subst e2
                           exact l_tells B (C := C) (T := T) (w := 2) (al := 10) hC hs (by omega) hn30 hz (by omega) (by omega) (by omega) (fun e => by omega) (told_lays (C := C) hu hm6 (by omega) (by omega)) hK 10 0 τ1 (by omega) ⟨fTold τ C m (nI u) (nI 2), by rw [told_lays (C := C) hu hm6 (by omega) (by omega)]; exact sgx p1⟩)
                        | (have e3 : what = 3 := c199
                           subst e3
                           exact l_tells B (C := C) (T := T) (w := 3) (al := 2) hC hs (by omega) hn30 hz (by omega) (by omega) (by omega) (fun e => by omega) (told_lays (C := C) hu hm6 (by omega) (by omega)) hK 2 0 τ1 (by omega) ⟨fTold τ C m (nI u) (nI 3), by rw [told_lays (C := C) hu hm6 (by omega) (by omega)]; exact sgx p1⟩)
                  · exact absurd c158 (by decide)
              · rw [if_pos c76] at hK
                refine g_iconst (v := (0)) B dX6_tells_79 (by decide) ?_
                refine g_istore B dX6_tells_80 (by decide) rfl ?_
                exact l_tells5 B hC hs (by omega) hn30 hz hK n 0 τ (by omega) pkx.rf
            · rw [if_pos c57] at hK
              refine g_aload_n B dX6_tells_60 rfl ?_
              refine g_iload_n B dX6_tells_61 rfl ?_
              refine g_iload_n B dX6_tells_62 rfl ?_
              refine g_aload_n B dX6_tells_63 rfl ?_
              refine g_getI (T := TX6) (N := 42) B dX6_tells_64 (by decide) (by rfl) (inq inlX6) rfl 7 (by decide) (mq f_X6_104) (by rfl) ?_
              refine g_callVi (C := RX6) (As := [.int _, .int _, .int _]) B dX6_tells_67 (gc1 g_X6_394) (by rfl) ⟨rfl, hd_X6_firstOther⟩ (by exact ⟨Nat.le_of_ble_eq_true rfl, Nat.le_of_ble_eq_true rfl⟩) ⟨rfl, rfl⟩ rfl rfl (by exact Nat.le_of_ble_eq_true rfl) recvM (c_firstOther (s := s) (u := u) (n := n) hC rfl hs rfl (by omega) hn30 hz (fun τ1 p1 => ?_))
              refine g_ireti B dX6_tells_70 ?_
              first
                | exact hK τ pkz.rf
                | exact hK _ (sgx p1)
          · rw [if_pos c50] at hK
            refine g_bipush (v := (-2)) B dX6_tells_53 (by decide) ?_
            refine g_ireti B dX6_tells_55 ?_
            first
              | exact hK τ pkz.rf
              | exact hK _ (sgx p1)
        · rw [if_pos c36] at hK
          refine g_bipush (v := (-11)) B dX6_tells_39 (by decide) ?_
          refine g_ireti B dX6_tells_41 ?_
          first
            | exact hK τ pkz.rf
            | exact hK _ (sgx p1)
      · have hno : ¬ telP m x y what := fun q => by
          first
          | exact b1_0.mp c4 q.1
          | exact b1_0.mp c12 q.2.1
          | exact b1_0.mp c24 q.2.2
        rw [if_neg hno] at hK
        refine g_bipush (v := (-2)) B dX6_tells_27 (by decide) ?_
        refine g_ireti B dX6_tells_29 ?_
        first
          | exact hK τ pkz.rf
          | exact hK _ (sgx p1)

