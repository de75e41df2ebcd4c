/-! tells *program, both worlds kept alike: 2* -/
theorem vM_l5 {a : St} {C C' : TC} {x : Int32} {u : Nat} : vM (laysT a 5 u x) C' = (C', (vM a C).2) := by
  show vM (upS a 0 4 x) C' = _
  unfold vM
  rw [upS_2 (show (11 : Nat) ≠ 4 by decide), upS_3 (show (5 : Nat) ≠ 0 by decide), upS_3 (show (6 : Nat) ≠ 0 by decide), upS_3 (show (4 : Nat) ≠ 0 by decide)]
theorem vM_l4 {a : St} {C : TC} {x : Int32} {u : Nat} : vM (laysT a 4 u x) C = vG (vM a C) 1 u x := by
  show vM (upS a 5 u x) C = _
  unfold vM vG
  rw [if_pos rfl, upS_3 (show (0 : Nat) ≠ 5 by decide), upS_3 (show (6 : Nat) ≠ 5 by decide), upS_3 (show (4 : Nat) ≠ 5 by decide), upS_row]
theorem vM_l2 {a : St} {C : TC} {x : Int32} {u : Nat} : vM (laysT a 2 u x) C = vG (vM a C) 2 u x := by
  show vM (upS a 6 (2 * u) x) C = _
  unfold vM vG
  rw [if_neg (by decide), if_pos rfl, upS_3 (show (0 : Nat) ≠ 6 by decide), upS_3 (show (5 : Nat) ≠ 6 by decide), upS_3 (show (4 : Nat) ≠ 6 by decide)]
  have e1 : (fun q => (upS a 6 (2 * u) x).1 6 (2 * q)) = va_up (fun q => a.1 6 (2 * q)) u x := by
    funext q
    unfold va_up
    by_cases e : q = u
    · subst e; rw [if_pos rfl, upS_1]
    · rw [if_neg e, upS_2 (by omega)]
  have e2 : (fun q => (upS a 6 (2 * u) x).1 6 (2 * q + 1)) = fun q => a.1 6 (2 * q + 1) := by
    funext q
    rw [upS_2 (by omega)]
  rw [e1, e2]
theorem vM_l3 {a : St} {C : TC} {x : Int32} {u : Nat} : vM (laysT a 3 u x) C = vG (vM a C) 3 u x := by
  show vM (upS a 6 (2 * u + 1) x) C = _
  unfold vM vG
  rw [if_neg (by decide), if_neg (by decide), upS_3 (show (0 : Nat) ≠ 6 by decide), upS_3 (show (5 : Nat) ≠ 6 by decide), upS_3 (show (4 : Nat) ≠ 6 by decide)]
  have e1 : (fun q => (upS a 6 (2 * u + 1) x).1 6 (2 * q + 1)) = va_up (fun q => a.1 6 (2 * q + 1)) u x := by
    funext q
    unfold va_up
    by_cases e : q = u
    · subst e; rw [if_pos rfl, upS_1]
    · rw [if_neg e, upS_2 (by omega)]
  have e2 : (fun q => (upS a 6 (2 * u + 1) x).1 6 (2 * q)) = fun q => a.1 6 (2 * q) := by
    funext q
    rw [upS_2 (by omega)]
  rw [e1, e2]
set_option maxRecDepth 100000 in
set_option maxHeartbeats 4000000 in
theorem lz_t0 {Z : LZ} {ad : Nat → Nat} {X : CX} {a b : St} {T : Nat → TC} {m c r p s u n : Nat} {w : Int32} {K : Int32 → St → Prop} (B : Amb lyX Z ad (rmk 5) X cX5_tells wsX5_tells RX5 5 (some .int)) (hI : INV a T m c r p) (hR : REL a b T m c r p) (hs : s < 4) (hu : u < m) (hn : n ≤ 30) (hr : RW b s n (itM a s)) (hK : ∀ b', REL a b' T m c r p → K (sFO (vM a (T r)) (a.1 0 7) u (itM a s) n) b') : GG lyX Z ad (rmk 5) X (rI K) 96 [some (.ref (ad 0)), some (.int (nI s)), some (.int (nI u)), some (.int w), some (.ref (ad (s + 44)))] [] b := by
  have hXV := hR.xv hI
  have hm6 := hI.1.1.1
  obtain ⟨k0, hk0, hT0⟩ := hXV.2.1
  refine g_aload_n B dX5_tells_96 rfl ?_
  refine g_aload B dX5_tells_97 rfl ?_
  refine g_aload_n B dX5_tells_99 rfl ?_
  refine g_getR (T := TX5) (N := 16) B dX5_tells_100 (by decide) (by rfl) (inq inlX5) rfl 2 (by decide) (mq f_X5_19) (by rfl) ?_
  refine g_iload_n B dX5_tells_103 rfl ?_
  refine g_aald B dX5_tells_104 (by decide) (by rfl) (by exact vp_in_nI (by omega) (by omega)) ?_
  rw [i_cl (show u < 2147483648 by omega)]
  refine g_aload_n B dX5_tells_105 rfl ?_
  refine g_aload_n B dX5_tells_106 rfl ?_
  refine g_getI (T := TX5) (N := 16) B dX5_tells_107 (by decide) (by rfl) (inq inlX5) rfl 8 (by decide) (mq f_X5_47) (by rfl) ?_
  refine g_callVr (C := RX5) (As := [.int _]) B dX5_tells_110 (gc1 g_X5_150) (by rfl) ⟨rfl, hd_X5_textAt⟩ (by exact ⟨Nat.le_of_ble_eq_true rfl, Nat.le_of_ble_eq_true rfl⟩) ⟨rfl, rfl⟩ rfl rfl (by exact Nat.le_of_ble_eq_true rfl) recv5 (x_textAt hk0 hT0.1 ?_)
  refine g_aload_n B dX5_tells_113 rfl ?_
  refine g_getI (T := TX5) (N := 16) B dX5_tells_114 (by decide) (by rfl) (inq inlX5) rfl 1 (by decide) (mq f_X5_13) (by rfl) ?_
  rw [hR.1.1]
  refine g_callVi (C := RX5) (As := [.ref _, .ref _, .ref _, .int _]) B dX5_tells_117 (gc1 g_X5_257) (by rfl) ⟨rfl, hd_X5_firstOtherwise⟩ (by exact ⟨Nat.le_of_ble_eq_true rfl, Nat.le_of_ble_eq_true rfl⟩) ⟨rfl, rfl⟩ rfl rfl (by exact Nat.le_of_ble_eq_true rfl) recv5 (x_fo (u := u) hs hn hr (UO.u (by omega)) hT0 hXV.2.2.1 (hXV.2.2.2.2 u hu) (fun τ1 p1 => ?_))
  refine g_ireti B dX5_tells_120 ?_
  exact hK τ1 (hR.x p1 okD23 okK0 hI.1.2.1.2.1)
set_option maxRecDepth 100000 in
set_option maxHeartbeats 4000000 in
theorem lz_t4 {Z : LZ} {ad : Nat → Nat} {X : CX} {a b : St} {T : Nat → TC} {m c r p s u n : Nat} {w : Int32} {K : Int32 → St → Prop} (B : Amb lyX Z ad (rmk 5) X cX5_tells wsX5_tells RX5 5 (some .int)) (hI : INV a T m c r p) (hR : REL a b T m c r p) (hs : s < 4) (hu : u < m) (hn : n ≤ 30) (hr : RW b s n (itM a s)) (hK : ∀ b', REL a b' T m c r p → K (btF (fun v => sFO (T v, (vM a (T r)).2) (a.1 0 7) u (itM a s) n) c) b') : GG lyX Z ad (rmk 5) X (rI K) 121 [some (.ref (ad 0)), some (.int (nI s)), some (.int (nI u)), some (.int w), some (.ref (ad (s + 44)))] [] b := by
  have hXV := hR.xv hI
  have hm6 := hI.1.1.1
  refine g_aload_n B dX5_tells_121 rfl ?_
  refine g_aload B dX5_tells_122 rfl ?_
  refine g_aload_n B dX5_tells_124 rfl ?_
  refine g_getR (T := TX5) (N := 16) B dX5_tells_125 (by decide) (by rfl) (inq inlX5) rfl 2 (by decide) (mq f_X5_19) (by rfl) ?_
  refine g_iload_n B dX5_tells_128 rfl ?_
  refine g_aald B dX5_tells_129 (by decide) (by rfl) (by exact vp_in_nI (by omega) (by omega)) ?_
  rw [i_cl (show u < 2147483648 by omega)]
  refine g_callVi (C := RX5) (As := [.ref _, .ref _]) B dX5_tells_130 (gc1 g_X5_261) (by rfl) ⟨rfl, hd_X5_textsTold⟩ (by exact ⟨Nat.le_of_ble_eq_true rfl, Nat.le_of_ble_eq_true rfl⟩) ⟨rfl, rfl⟩ rfl rfl (by exact Nat.le_of_ble_eq_true rfl) recv5 (x_tt (u := u) hs hn hr hu hXV hI.1.2.1.2.1 hR.1.2.2.1 hR.2.2.2.2.1 (fun τ1 p1 => ?_))
  refine g_ireti B dX5_tells_133 ?_
  rw [hR.1.1]
  exact hK τ1 (hR.x p1 okD23 okK0 hI.1.2.1.2.1)
set_option maxRecDepth 100000 in
set_option maxHeartbeats 4000000 in
theorem lz_t5 {Z : LZ} {ad : Nat → Nat} {X : CX} {a b : St} {T : Nat → TC} {m c r p s u n : Nat} {w : Int32} {K : Int32 → St → Prop} (B : Amb lyX Z ad (rmk 5) X cX5_tells wsX5_tells RX5 5 (some .int)) (hI : INV a T m c r p) (hR : REL a b T m c r p) (hs : s < 4) (hu : u < m) (hn : n ≤ 30) (hr : RW b s n (itM a s)) (hK : ∀ b', REL a b' T m c r p → K (btF (fun t => sFO (vM a (T r)) (flS (a.1 0 7) t) u (itM a s) n) n) b') : GG lyX Z ad (rmk 5) X (rI K) 134 [some (.ref (ad 0)), some (.int (nI s)), some (.int (nI u)), some (.int w), some (.ref (ad (s + 44)))] [] b := by
  have hXV := hR.xv hI
  have hm6 := hI.1.1.1
  refine g_aload_n B dX5_tells_134 rfl ?_
  refine g_aload B dX5_tells_135 rfl ?_
  refine g_aload_n B dX5_tells_137 rfl ?_
  refine g_getR (T := TX5) (N := 16) B dX5_tells_138 (by decide) (by rfl) (inq inlX5) rfl 2 (by decide) (mq f_X5_19) (by rfl) ?_
  refine g_iload_n B dX5_tells_141 rfl ?_
  refine g_aald B dX5_tells_142 (by decide) (by rfl) (by exact vp_in_nI (by omega) (by omega)) ?_
  rw [i_cl (show u < 2147483648 by omega)]
  refine g_callVi (C := RX5) (As := [.ref _, .ref _]) B dX5_tells_143 (gc1 g_X5_265) (by rfl) ⟨rfl, hd_X5_nightsTold⟩ (by exact ⟨Nat.le_of_ble_eq_true rfl, Nat.le_of_ble_eq_true rfl⟩) ⟨rfl, rfl⟩ rfl rfl (by exact Nat.le_of_ble_eq_true rfl) recv5 (x_nt (u := u) hs hn hr hu hXV (fun τ1 p1 => ?_))
  refine g_ireti B dX5_tells_146 ?_
  rw [hR.1.1]
  exact hK τ1 (hR.x p1 okD23 okK0 hI.1.2.1.2.1)
set_option maxRecDepth 100000 in
set_option maxHeartbeats 4000000 in
theorem lz_td {Z : LZ} {ad : Nat → Nat} {X : CX} {a b : St} {T : Nat → TC} {m c r p s u n w : Nat} {K : Int32 → St → Prop} (B : Amb lyX Z ad (rmk 5) X cX5_tells wsX5_tells RX5 5 (some .int)) (hI : INV a T m c r p) (hR : REL a b T m c r p) (hs : s < 4) (hu : u < m) (hn : n ≤ 30) (hw : w = 1 ∨ w = 2 ∨ w = 3) (hr : RW b s n (itM a s)) (hK : ∀ b', REL a b' T m c r p → K (btF (fun v => sFO (vG (vM a (T r)) w u (nI v)) (a.1 0 7) u (itM a s) n) (manyG w)) b') : GG lyX Z ad (rmk 5) X (rI K) 147 [some (.ref (ad 0)), some (.int (nI s)), some (.int (nI u)), some (.int (nI w)), some (.ref (ad (s + 44)))] [] b := by
  have hXV := hR.xv hI
  have hm6 := hI.1.1.1
  refine g_aload_n B dX5_tells_147 rfl ?_
  refine g_aload B dX5_tells_148 rfl ?_
  refine g_aload_n B dX5_tells_150 rfl ?_
  refine g_getR (T := TX5) (N := 16) B dX5_tells_151 (by decide) (by rfl) (inq inlX5) rfl 2 (by decide) (mq f_X5_19) (by rfl) ?_
  refine g_iload_n B dX5_tells_154 rfl ?_
  refine g_aald B dX5_tells_155 (by decide) (by rfl) (by exact vp_in_nI (by omega) (by omega)) ?_
  rw [i_cl (show u < 2147483648 by omega)]
  refine g_iload_n B dX5_tells_156 rfl ?_
  refine g_callVi (C := RX5) (As := [.ref _, .ref _, .int _]) B dX5_tells_157 (gc1 g_X5_268) (by rfl) ⟨rfl, hd_X5_usersTold⟩ (by exact ⟨Nat.le_of_ble_eq_true rfl, Nat.le_of_ble_eq_true rfl⟩) ⟨rfl, rfl⟩ rfl rfl (by exact Nat.le_of_ble_eq_true rfl) recv5 (x_ut (u := u) hs hn hr hu hXV hw (fun τ1 p1 => ?_))
  refine g_ireti B dX5_tells_160 ?_
  rw [hR.1.1]
  exact hK τ1 (hR.x p1 okD2312 okK0 hI.1.2.1.2.1)
set_option maxRecDepth 100000 in
set_option maxHeartbeats 4000000 in
theorem z_tells {Z : LZ} {ad : Nat → Nat} {a b : St} {T : Nat → TC} {m c r p : Nat} {K : Int32 → St → Prop} {x y w : Int32} (hI : INV a T m c r p) (hR : REL a b T m c r p) (hK : ∀ b', REL a b' T m c r p → K (fTells a (T r) T m c x y w) b') : CC lyX Z ad yX5_tells wsX5_tells (rmk 5) [.ref (ad 0), .int x, .int y, .int w] b (rI K) := by
  refine CC.of (cc := cX5_tells) (nL := 5) (ret := (some .int)) rfl rfl ⟨rfl, rfl⟩ (by exact Nat.le_of_ble_eq_true rfl) ?_
  intro X B
  change GG _ _ _ _ X _ 0 [some (.ref (ad 0)), some (.int x), some (.int y), some (.int w), none] [] _
  change Amb _ _ _ _ X _ _ RX5 _ _ at B
  have hSh := hR.2.2.2.2.2.1
  have hS := hI.2.2.2.2
  have hm6 := hI.1.1.1
  unfold fTells at hK
  refine g_iload_n B dX5_tells_0 rfl ?_
  refine g_callSi (As := [.int _]) B dX5_tells_1 (gc1 g_X5_249) (by rfl) hd_X5_isSheet (by exact ⟨Nat.le_of_ble_eq_true rfl, Nat.le_of_ble_eq_true rfl⟩) ⟨rfl, rfl⟩ rfl rfl (by exact Nat.le_of_ble_eq_true rfl) (x_isSheet ?_)
  refine g_if_eq (tgt := 24) B dX5_tells_4 (by decide) (fun c4 => ?_) (fun c4 => ?_)
  · have hp : ¬ telP m x y w := fun q => by
      first
      | exact c21 (i_le.mpr q.2.2.2)
      | exact absurd (i_lt.mp c16) (by have := q.2.2.1; rw [i0]; omega)
      | exact b1_0.mp c12 q.2.1
      | exact b1_0.mp c4 q.1
    rw [if_neg hp] at hK
    refine g_bipush (v := (-2)) B dX5_tells_24 (by decide) ?_
    refine g_ireti B dX5_tells_26 ?_
    exact hK _ hR
  · refine g_aload_n B dX5_tells_7 rfl ?_
    refine g_iload_n B dX5_tells_8 rfl ?_
    refine g_callVi (C := RX5) (As := [.int _]) B dX5_tells_9 (gc1 g_X5_105) (by rfl) ⟨rfl, hd_X5_isUser⟩ (by exact ⟨Nat.le_of_ble_eq_true rfl, Nat.le_of_ble_eq_true rfl⟩) ⟨rfl, rfl⟩ rfl rfl (by exact Nat.le_of_ble_eq_true rfl) recv5 (x_isUser hm6 hR.1.2.1 ?_)
    refine g_if_eq (tgt := 24) B dX5_tells_12 (by decide) (fun c12 => ?_) (fun c12 => ?_)
    · have hp : ¬ telP m x y w := fun q => by
        first
        | exact c21 (i_le.mpr q.2.2.2)
        | exact absurd (i_lt.mp c16) (by have := q.2.2.1; rw [i0]; omega)
        | exact b1_0.mp c12 q.2.1
        | exact b1_0.mp c4 q.1
      rw [if_neg hp] at hK
      refine g_bipush (v := (-2)) B dX5_tells_24 (by decide) ?_
      refine g_ireti B dX5_tells_26 ?_
      exact hK _ hR
    · refine g_iload_n B dX5_tells_15 rfl ?_
      refine g_if_lt (tgt := 24) B dX5_tells_16 (by decide) (fun c16 => ?_) (fun c16 => ?_)
      · have hp : ¬ telP m x y w := fun q => by
          first
          | exact c21 (i_le.mpr q.2.2.2)
          | exact absurd (i_lt.mp c16) (by have := q.2.2.1; rw [i0]; omega)
          | exact b1_0.mp c12 q.2.1
          | exact b1_0.mp c4 q.1
        rw [if_neg hp] at hK
        refine g_bipush (v := (-2)) B dX5_tells_24 (by decide) ?_
        refine g_ireti B dX5_tells_26 ?_
        exact hK _ hR
      · refine g_iload_n B dX5_tells_19 rfl ?_
        refine g_iconst (v := (5)) B dX5_tells_20 (by decide) ?_
        refine g_icmp_le (tgt := 27) B dX5_tells_21 (by decide) (fun c21 => ?_) (fun c21 => ?_)
        · have h1 := b1_n0.mp c4
          have h2 := b1_n0.mp c12
          have hp : telP m x y w := ⟨h1, h2, i_le.mp (Int32.not_lt.mp c16), i_le.mp c21⟩
          have h3 := hp.2.2
          rw [if_pos hp] at hK
          obtain ⟨s, hs, rfl⟩ := i_nat (n := 4) h1.1 (by omega)
          obtain ⟨u, hu, rfl⟩ := i_nat h2.1 h2.2
          have hcs : (nI s).toNatClampNeg = s := i_cl (by omega)
          rw [hcs, i_cl (show u < 2147483648 by omega)] at hK
          refine g_aload_n B dX5_tells_27 rfl ?_
          refine g_getR (T := TX5) (N := 16) B dX5_tells_28 (by decide) (by rfl) (inq inlX5) rfl 9 (by decide) (mq f_X5_52) (by rfl) ?_
          refine g_iload_n B dX5_tells_31 rfl ?_
          refine g_aald B dX5_tells_32 (by decide) (by rfl) (by exact vp_in_nI hs (by omega)) ?_
          rw [hcs]
          refine g_astore B dX5_tells_33 (by decide) rfl ?_
          refine g_aload B dX5_tells_35 rfl ?_
          refine g_callVi (C := RX2) (As := []) B dX5_tells_37 (gc1 g_X5_252) (by rfl) ⟨rfl, hd_X2_isMissing⟩ (by exact ⟨Nat.le_of_ble_eq_true rfl, Nat.le_of_ble_eq_true rfl⟩) ⟨rfl, rfl⟩ rfl rfl (by exact Nat.le_of_ble_eq_true rfl) (recv2 hs) (x_miss hs ?_)
          refine g_if_eq (tgt := 46) B dX5_tells_40 (by decide) (fun c40 => ?_) (fun c40 => ?_)
          · have h4 : ¬ a.1 12 s = 0 := fun q => b1_0.mp c40 ((sh_ge hSh hS hs).mpr q)
            rw [if_neg h4] at hK
            obtain ⟨x1, x2, x3⟩ := (hSh s hs).2 h4
            obtain ⟨n, hn, en⟩ := (hS s hs h4).1
            rw [en] at x2 x3 hK
            rw [i_cl (by omega)] at x3
            rw [i_cl (show n < 2147483648 by omega)] at hK
            refine g_aload B dX5_tells_46 rfl ?_
            refine g_getI (T := TX2) (N := 3) B dX5_tells_48 (hX (by omega)) (lo_s hs) (inq inlX2) rfl 1 (by decide) (mq f_X5_256) (by rfl) ?_
            rw [x2]
            refine g_bipush (v := (30)) B dX5_tells_51 (by decide) ?_
            refine g_icmp_le (tgt := 59) B dX5_tells_53 (by decide) (fun c53 => ?_) (fun c53 => ?_)
            · refine g_iload_n B dX5_tells_59 rfl ?_
              have h30 : ¬ ¬ nI n ≤ 30 := fun q => q c53
              rw [if_neg h30] at hK
              have hn30 : n ≤ 30 := by
                have := c53
                rw [i_le, i_n (by omega), i30] at this
                omega
              have hr : RW b s n (itM a s) := ⟨x2, x3⟩
              obtain ⟨W, hW, rfl⟩ := i_nat (x := w) (n := 6) h3.1 (by omega)
              rcases (show W = 0 ∨ W = 1 ∨ W = 2 ∨ W = 3 ∨ W = 4 ∨ W = 5 by omega) with e | e | e | e | e | e <;> subst e
              · rw [if_pos (show nI 0 = 0 from rfl)] at hK
                exact g_lookup (off := 36) (tgt := 96) B dX5_tells_60 (by decide) (by decide) (by decide) (lz_t0 B hI hR hs hu hn30 hr hK)
              · rw [if_neg (show ¬ nI 1 = 0 by decide), if_neg (show ¬ nI 1 = 5 by decide)] at hK
                refine g_lookup (off := 87) (tgt := 147) B dX5_tells_60 (by decide) (by decide) (by decide) (lz_td B hI hR hs hu hn30 (Or.inl rfl) hr (fun b' q => ?_))
                have h9 := hK b' q
                rw [show tlf a (T r) T s u (tlW (nI 1)) n = fun v => sFO (vG (vM a (T r)) 1 u (nI v)) (a.1 0 7) u (itM a s) n from by
                  funext v
                  show sFO (vM (laysT a 4 u (nI v)) (T r)) (a.1 0 7) u (itM a s) n = _
                  rw [vM_l4]] at h9
                exact h9
              · rw [if_neg (show ¬ nI 2 = 0 by decide), if_neg (show ¬ nI 2 = 5 by decide)] at hK
                refine g_lookup (off := 87) (tgt := 147) B dX5_tells_60 (by decide) (by decide) (by decide) (lz_td B hI hR hs hu hn30 (Or.inr (Or.inl rfl)) hr (fun b' q => ?_))
                have h9 := hK b' q
                rw [show tlf a (T r) T s u (tlW (nI 2)) n = fun v => sFO (vG (vM a (T r)) 2 u (nI v)) (a.1 0 7) u (itM a s) n from by
                  funext v
                  show sFO (vM (laysT a 2 u (nI v)) (T r)) (a.1 0 7) u (itM a s) n = _
                  rw [vM_l2]] at h9
                exact h9
              · rw [if_neg (show ¬ nI 3 = 0 by decide), if_neg (show ¬ nI 3 = 5 by decide)] at hK
                refine g_lookup (off := 87) (tgt := 147) B dX5_tells_60 (by decide) (by decide) (by decide) (lz_td B hI hR hs hu hn30 (Or.inr (Or.inr rfl)) hr (fun b' q => ?_))
                have h9 := hK b' q
                rw [show tlf a (T r) T s u (tlW (nI 3)) n = fun v => sFO (vG (vM a (T r)) 3 u (nI v)) (a.1 0 7) u (itM a s) n from by
                  funext v
                  show sFO (vM (laysT a 3 u (nI v)) (T r)) (a.1 0 7) u (itM a s) n = _
                  rw [vM_l3]] at h9
                exact h9
              · rw [if_neg (show ¬ nI 4 = 0 by decide), if_neg (show ¬ nI 4 = 5 by decide)] at hK
                refine g_lookup (off := 61) (tgt := 121) B dX5_tells_60 (by decide) (by decide) (by decide) (lz_t4 B hI hR hs hu hn30 hr (fun b' q => ?_))
                have h9 := hK b' q
                rw [show tlf a (T r) T s u (tlW (nI 4)) n = fun v => sFO (T v, (vM a (T r)).2) (a.1 0 7) u (itM a s) n from by
                  funext v
                  show sFO (vM (laysT a 5 u (nI v)) (T v)) (a.1 0 7) u (itM a s) n = _
                  rw [vM_l5 (C := T r)]] at h9
                exact h9
              · rw [if_neg (show ¬ nI 5 = 0 by decide), if_pos (show nI 5 = 5 from rfl)] at hK
                exact g_lookup (off := 74) (tgt := 134) B dX5_tells_60 (by decide) (by decide) (by decide) (lz_t5 B hI hR hs hu hn30 hr hK)
            · rw [if_pos c53] at hK
              refine g_bipush (v := (-2)) B dX5_tells_56 (by decide) ?_
              refine g_ireti B dX5_tells_58 ?_
              exact hK _ hR
          · rw [if_pos ((sh_ge hSh hS hs).mp (b1_n0.mp c40))] at hK
            refine g_bipush (v := (-11)) B dX5_tells_43 (by decide) ?_
            refine g_ireti B dX5_tells_45 ?_
            exact hK _ hR
        · have hp : ¬ telP m x y w := fun q => by
            first
            | exact c21 (i_le.mpr q.2.2.2)
            | exact absurd (i_lt.mp c16) (by have := q.2.2.1; rw [i0]; omega)
            | exact b1_0.mp c12 q.2.1
            | exact b1_0.mp c4 q.1
          rw [if_neg hp] at hK
          refine g_bipush (v := (-2)) B dX5_tells_24 (by decide) ?_
          refine g_ireti B dX5_tells_26 ?_
          exact hK _ hR

