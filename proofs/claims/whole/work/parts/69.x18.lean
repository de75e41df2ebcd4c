/-! drawn, chance *program, both worlds kept alike* -/
set_option maxRecDepth 100000 in
set_option maxHeartbeats 4000000 in
theorem lx_draw {Z : LZ} {ad : Nat → Nat} {X : CX} {K : St → Prop} {τ0 : St} {seed : Int32} (B : Amb lyX Z ad (rmk 0) X cX5_drawColds wsX5_drawColds RX5 4 none) (hK : ∀ τ', pkz [4] [] τ0 τ' → (∀ t, t < 30 → τ'.1 4 t = dc (dz seed (t + 1))) → K τ') : ∀ (k i : Nat) (τ : St), i + k = 30 → pkz [4] [] τ0 τ → (∀ t, t < i → τ.1 4 t = dc (dz seed (t + 1))) → GG lyX Z ad (rmk 0) X (rV K) 4 [some (.ref (ad 0)), some (.int seed), some (.int (dz seed i)), some (.int (nI i))] [] τ := by
  intro k
  induction k using Nat.strongRecOn with
  | ind k ih =>
    intro i τ h1 hp hd
    have hci : (nI i).toNatClampNeg = i := i_cl (by omega)
    refine g_iload_n B dX5_drawColds_4 rfl ?_
    refine g_bipush (v := (30)) B dX5_drawColds_5 (by decide) ?_
    refine g_icmp_ge (tgt := 39) B dX5_drawColds_7 (by decide) (fun c7 => ?_) (fun c7 => ?_)
    · refine g_vreti B dX5_drawColds_39 ?_
      rw [show (30 : Int32) = nI 30 from rfl, nI_leI (by omega) (by omega)] at c7
      have e : i = 30 := by omega
      subst e
      exact hK τ hp hd
    · rw [show (30 : Int32) = nI 30 from rfl, nI_leI (by omega) (by omega)] at c7
      refine g_iload_n B dX5_drawColds_10 rfl ?_
      refine g_ldcw (v := (1103515245)) B dX5_drawColds_11 (mq k_X5_284) ?_
      refine g_imul B dX5_drawColds_14 ?_
      refine g_sipush (v := (12345)) B dX5_drawColds_15 (by decide) ?_
      refine g_iadd B dX5_drawColds_18 ?_
      refine g_istore_n B dX5_drawColds_19 (by decide) rfl ?_
      refine g_aload_n B dX5_drawColds_20 rfl ?_
      refine g_getR (T := TX5) (N := 16) B dX5_drawColds_21 (by decide) (by rfl) (inq inlX5) rfl 13 (by decide) (mq f_X5_69) (by rfl) ?_
      refine g_iload_n B dX5_drawColds_24 rfl ?_
      refine g_iload_n B dX5_drawColds_25 rfl ?_
      refine g_bipush (v := (9)) B dX5_drawColds_26 (by decide) ?_
      refine g_iushr B dX5_drawColds_28 rfl ?_
      refine g_bipush (v := (10)) B dX5_drawColds_29 (by decide) ?_
      refine g_irem B dX5_drawColds_31 (by decide) ?_
      refine g_iast B dX5_drawColds_32 (by decide) (by rfl) (by exact vp_in_nI (by omega) (by omega)) ?_
      rw [hci]
      refine g_iinc (c9 := (1)) B dX5_drawColds_33 rfl (by decide) (by decide) rfl ?_
      refine g_goto (tgt := 4) B dX5_drawColds_36 (by decide) ?_
      rw [nI_1 i]
      refine ih (k - 1) (by omega) (i + 1) _ (by omega) (hp.upC (by decide) (by decide)) (fun t ht => ?_)
      by_cases e : t = i
      · subst e
        rw [upS_1]
        rfl
      · rw [upS_2 e]
        exact hd t (by omega)
set_option maxRecDepth 100000 in
set_option maxHeartbeats 4000000 in
theorem x_draw {Z : LZ} {ad : Nat → Nat} {τ : St} {K : St → Prop} {seed : Int32} (hK : ∀ τ', pkz [4] [] τ τ' → (∀ t, t < 30 → τ'.1 4 t = dc (dz seed (t + 1))) → K τ') : CC lyX Z ad yX5_drawColds wsX5_drawColds (rmk 0) [.ref (ad 0), .int seed] τ (rV K) := by
  refine CC.of (cc := cX5_drawColds) (nL := 4) (ret := none) rfl rfl ⟨rfl, rfl⟩ (by exact Nat.le_of_ble_eq_true rfl) ?_
  intro X B
  change GG _ _ _ _ X _ 0 [some (.ref (ad 0)), some (.int seed), none, none] [] _
  change Amb _ _ _ _ X _ _ RX5 _ _ at B
  refine g_iload_n B dX5_drawColds_0 rfl ?_
  refine g_istore_n B dX5_drawColds_1 (by decide) rfl ?_
  refine g_iconst (v := (0)) B dX5_drawColds_2 (by decide) ?_
  refine g_istore_n B dX5_drawColds_3 (by decide) rfl ?_
  exact lx_draw B hK 30 0 τ (by omega) pkz.rf (fun t ht => by omega)
theorem XV.dr {τ τ' : St} {m : Nat} {V : VW} {seed : Int32} (h : XV τ 1 V m) (hp : pkz [4] [] τ τ') (hd : ∀ t, t < 30 → τ'.1 4 t = dc (dz seed (t + 1))) : XV τ' 4 (vD V seed) m := by
  obtain ⟨a, ⟨r, b1', b2'⟩, ⟨c1, c2⟩, d, e⟩ := h
  refine ⟨Or.inr rfl, ⟨r, (hp.2.1 8 (by decide)).trans b1', b2'.pz hp (by decide)⟩, ⟨(hp.2.1 3 (by decide)).trans c1, fun t ht => ?_⟩, d, fun u hu => ?_⟩
  · rw [hd t ht]
    exact (if_pos ht).symm
  · have := e u hu
    unfold UX at this ⊢
    have hm := d.1
    rw [hp.1 (u + 20) (by omega) (by simp)]
    exact this
theorem okD234 : okD [2, 3, 4] := by
  intro o h
  simp at h
  omega
set_option maxRecDepth 100000 in
set_option maxHeartbeats 4000000 in
theorem x_drawn {Z : LZ} {ad : Nat → Nat} {τ : St} {K : Int32 → St → Prop} {x : Int32} {m : Nat} {V : VW} (hX : XV τ 1 V m) (hK : ∀ τ', pkz [2, 3, 4] [] τ τ' → K (fDrawn V (τ.1 0 1) x) τ') : CC lyX Z ad yX5_drawn wsX5_drawn (rmk 5) [.ref (ad 0), .int x] τ (rI K) := by
  refine CC.of (cc := cX5_drawn) (nL := 2) (ret := (some .int)) rfl rfl ⟨rfl, rfl⟩ (by exact Nat.le_of_ble_eq_true rfl) ?_
  intro X B
  change GG _ _ _ _ X _ 0 [some (.ref (ad 0)), some (.int x)] [] _
  change Amb _ _ _ _ X _ _ RX5 _ _ at B
  refine g_aload_n B dX5_drawn_0 rfl ?_
  refine g_iload_n B dX5_drawn_1 rfl ?_
  refine g_callVv (C := RX5) (As := [.int _]) B dX5_drawn_2 (gc1 g_X5_280) (by rfl) ⟨rfl, hd_X5_drawColds⟩ (by exact ⟨Nat.le_of_ble_eq_true rfl, Nat.le_of_ble_eq_true rfl⟩) ⟨rfl, rfl⟩ rfl rfl (by exact Nat.le_of_ble_eq_true rfl) recv5 (x_draw (fun τ1 p1 hd => ?_))
  refine g_aload_n B dX5_drawn_5 rfl ?_
  refine g_iconst (v := (2)) B dX5_drawn_6 (by decide) ?_
  refine g_aload_n B dX5_drawn_7 rfl ?_
  refine g_getR (T := TX5) (N := 16) B dX5_drawn_8 (by decide) (by rfl) (inq inlX5) rfl 13 (by decide) (mq f_X5_69) (by rfl) ?_
  refine g_aload_n B dX5_drawn_11 rfl ?_
  refine g_getI (T := TX5) (N := 16) B dX5_drawn_12 (by decide) (by rfl) (inq inlX5) rfl 1 (by decide) (mq f_X5_13) (by rfl) ?_
  rw [p1.2.1 1 (by decide)]
  refine g_callVi (C := RX5) (As := [.int _, .ref _, .int _]) B dX5_drawn_15 (gc1 g_X5_159) (by rfl) ⟨rfl, hd_X5_worthOf⟩ (by exact ⟨Nat.le_of_ble_eq_true rfl, Nat.le_of_ble_eq_true rfl⟩) ⟨rfl, rfl⟩ rfl rfl (by exact Nat.le_of_ble_eq_true rfl) recv5 (x_worthOf (hX.dr p1 hd) (fun τ2 p2 => ?_))
  refine g_ireti B dX5_drawn_18 ?_
  exact hK τ2 ((p1.mono (by decide) (by decide)).trans (p2.mono (by decide) (by decide)))
theorem z_drawn {Z : LZ} {ad : Nat → Nat} {a b : St} {T : Nat → TC} {m c r p : Nat} {K : Int32 → St → Prop} {x : Int32} (hI : INV a T m c r p) (hR : REL a b T m c r p) (hK : ∀ b', REL a b' T m c r p → K (fDrawn (vM a (T r)) (a.1 0 7) x) b') : CC lyX Z ad yX5_drawn wsX5_drawn (rmk 5) [.ref (ad 0), .int x] b (rI K) :=
  x_drawn (hR.xv hI) (fun b' q => by rw [hR.1.1]; exact hK b' (hR.x q okD234 okK0 hI.1.2.1.2.1))
set_option maxRecDepth 100000 in
set_option maxHeartbeats 4000000 in
theorem lx_cha {Z : LZ} {ad : Nat → Nat} {X : CX} {K : Int64 → St → Prop} {τ0 : St} {seed part : Int32} {n m : Nat} {V : VW} (B : Amb lyX Z ad (rmk 5) X cX5_chance wsX5_chance RX5 6 (some .long)) (hX : XV τ0 1 V m) (hn : 1 ≤ n ∧ n ≤ 20) (hK : ∀ τ', pkz [2, 3, 4] [] τ0 τ' → K (chaF (cntF V (τ0.1 0 1) seed n) n part) τ') : ∀ (k i : Nat) (τ : St), i + k = n → pkz [2, 3, 4] [] τ0 τ → GG lyX Z ad (rmk 5) X (rL K) 30 [some (.ref (ad 0)), some (.int seed), some (.int (nI n)), some (.int part), some (.int (nI (cntF V (τ0.1 0 1) seed i))), some (.int (nI i))] [] τ := by
  intro k
  induction k using Nat.strongRecOn with
  | ind k ih =>
    intro i τ h1 hp
    have hs : τ.1 0 1 = τ0.1 0 1 := hp.2.1 1 (by decide)
    have hX' : XV τ 1 V m := by
      obtain ⟨a, ⟨r, b1', b2'⟩, ⟨c1, c2⟩, d, e⟩ := hX
      refine ⟨a, ⟨r, (hp.2.1 8 (by decide)).trans b1', b2'.pz hp (by decide)⟩, ⟨(hp.2.1 3 (by decide)).trans c1, fun t ht => ?_⟩, d, fun u hu => ?_⟩
      · rw [hp.1 1 (by decide) (by decide)]; exact c2 t ht
      · have := e u hu
        unfold UX at this ⊢
        have hm := d.1
        rw [hp.1 (u + 20) (by omega) (by simp)]
        exact this
    have hcl := cntF_le (V := V) (sh := τ0.1 0 1) (seed := seed) i
    refine g_iload B dX5_chance_30 rfl ?_
    refine g_iload_n B dX5_chance_32 rfl ?_
    refine g_icmp_ge (tgt := 82) B dX5_chance_33 (by decide) (fun c33 => ?_) (fun c33 => ?_)
    · rw [nI_leI (by omega) (by omega)] at c33
      have e : i = n := by omega
      subst e
      refine g_iload B dX5_chance_82 rfl ?_
      refine g_iload_n B dX5_chance_84 rfl ?_
      refine g_iload_n B dX5_chance_85 rfl ?_
      refine g_callSl (As := [.int _, .int _, .int _]) B dX5_chance_86 (gc1 g_X5_181) (by rfl) hd_X5_lowest (by exact ⟨Nat.le_of_ble_eq_true rfl, Nat.le_of_ble_eq_true rfl⟩) ⟨rfl, rfl⟩ rfl rfl (by exact Nat.le_of_ble_eq_true rfl) (x_low (P := cntF V (τ0.1 0 1) seed i) (Q := i) (by unfold pln; rw [if_neg (by rw [i_lt, i_n (by omega), i0]; omega)]) rfl (by omega) (by omega) (by omega) ?_)
      refine g_lreti B dX5_chance_89 ?_
      exact hK τ hp
    · rw [nI_leI (by omega) (by omega)] at c33
      refine g_aload_n B dX5_chance_36 rfl ?_
      refine g_iload_n B dX5_chance_37 rfl ?_
      refine g_iload B dX5_chance_38 rfl ?_
      refine g_iadd B dX5_chance_40 ?_
      refine g_callVv (C := RX5) (As := [.int _]) B dX5_chance_41 (gc1 g_X5_280) (by rfl) ⟨rfl, hd_X5_drawColds⟩ (by exact ⟨Nat.le_of_ble_eq_true rfl, Nat.le_of_ble_eq_true rfl⟩) ⟨rfl, rfl⟩ rfl rfl (by exact Nat.le_of_ble_eq_true rfl) recv5 (x_draw (fun τ1 p1 hd => ?_))
      refine g_aload_n B dX5_chance_44 rfl ?_
      refine g_iconst (v := (0)) B dX5_chance_45 (by decide) ?_
      refine g_aload_n B dX5_chance_46 rfl ?_
      refine g_getR (T := TX5) (N := 16) B dX5_chance_47 (by decide) (by rfl) (inq inlX5) rfl 13 (by decide) (mq f_X5_69) (by rfl) ?_
      refine g_aload_n B dX5_chance_50 rfl ?_
      refine g_getI (T := TX5) (N := 16) B dX5_chance_51 (by decide) (by rfl) (inq inlX5) rfl 1 (by decide) (mq f_X5_13) (by rfl) ?_
      rw [p1.2.1 1 (by decide), hs]
      refine g_callVi (C := RX5) (As := [.int _, .ref _, .int _]) B dX5_chance_54 (gc1 g_X5_159) (by rfl) ⟨rfl, hd_X5_worthOf⟩ (by exact ⟨Nat.le_of_ble_eq_true rfl, Nat.le_of_ble_eq_true rfl⟩) ⟨rfl, rfl⟩ rfl rfl (by exact Nat.le_of_ble_eq_true rfl) recv5 (x_worthOf (hX'.dr p1 hd) (fun τ2 p2 => ?_))
      refine g_aload_n B dX5_chance_57 rfl ?_
      refine g_iconst (v := (1)) B dX5_chance_58 (by decide) ?_
      refine g_aload_n B dX5_chance_59 rfl ?_
      refine g_getR (T := TX5) (N := 16) B dX5_chance_60 (by decide) (by rfl) (inq inlX5) rfl 13 (by decide) (mq f_X5_69) (by rfl) ?_
      refine g_aload_n B dX5_chance_63 rfl ?_
      refine g_getI (T := TX5) (N := 16) B dX5_chance_64 (by decide) (by rfl) (inq inlX5) rfl 1 (by decide) (mq f_X5_13) (by rfl) ?_
      rw [p2.2.1 1 (by decide), p1.2.1 1 (by decide), hs]
      refine g_callVi (C := RX5) (As := [.int _, .ref _, .int _]) B dX5_chance_67 (gc1 g_X5_159) (by rfl) ⟨rfl, hd_X5_worthOf⟩ (by exact ⟨Nat.le_of_ble_eq_true rfl, Nat.le_of_ble_eq_true rfl⟩) ⟨rfl, rfl⟩ rfl rfl (by exact Nat.le_of_ble_eq_true rfl) recv5 (x_worthOf ((hX'.dr p1 hd).pz p2 okC23 (by decide) (by decide)) (fun τ3 p3 => ?_))
      have p4 : pkz [2, 3, 4] [] τ0 τ3 := ((hp.trans (p1.mono (by decide) (by decide))).trans (p2.mono (by decide) (by decide))).trans (p3.mono (by decide) (by decide))
      refine g_icmp_le (tgt := 76) B dX5_chance_70 (by decide) (fun c70 => ?_) (fun c70 => ?_)
      · refine g_iinc (c9 := (1)) B dX5_chance_76 rfl (by decide) (by decide) rfl ?_
        refine g_goto (tgt := 30) B dX5_chance_79 (by decide) ?_
        rw [nI_1 i]
        first
          | (rw [nI_1 (cntF V (τ0.1 0 1) seed i)]
             have h9 := ih (k - 1) (by omega) (i + 1) τ3 (by omega) p4
             rw [show cntF V (τ0.1 0 1) seed (i + 1) = cntF V (τ0.1 0 1) seed i + 1 from congrArg (cntF V (τ0.1 0 1) seed i + ·) (if_pos c70)] at h9
             exact h9)
          | (have h9 := ih (k - 1) (by omega) (i + 1) τ3 (by omega) p4
             rw [show cntF V (τ0.1 0 1) seed (i + 1) = cntF V (τ0.1 0 1) seed i from congrArg (cntF V (τ0.1 0 1) seed i + ·) (if_neg (fun z => z c70))] at h9
             exact h9)
      · refine g_iinc (c9 := (1)) B dX5_chance_73 rfl (by decide) (by decide) rfl ?_
        refine g_iinc (c9 := (1)) B dX5_chance_76 rfl (by decide) (by decide) rfl ?_
        refine g_goto (tgt := 30) B dX5_chance_79 (by decide) ?_
        rw [nI_1 i]
        first
          | (rw [nI_1 (cntF V (τ0.1 0 1) seed i)]
             have h9 := ih (k - 1) (by omega) (i + 1) τ3 (by omega) p4
             rw [show cntF V (τ0.1 0 1) seed (i + 1) = cntF V (τ0.1 0 1) seed i + 1 from congrArg (cntF V (τ0.1 0 1) seed i + ·) (if_pos c70)] at h9
             exact h9)
          | (have h9 := ih (k - 1) (by omega) (i + 1) τ3 (by omega) p4
             rw [show cntF V (τ0.1 0 1) seed (i + 1) = cntF V (τ0.1 0 1) seed i from congrArg (cntF V (τ0.1 0 1) seed i + ·) (if_neg (fun z => z c70))] at h9
             exact h9)
set_option maxRecDepth 100000 in
set_option maxHeartbeats 4000000 in
theorem x_chance {Z : LZ} {ad : Nat → Nat} {τ : St} {K : Int64 → St → Prop} {x y z : Int32} {m : Nat} {V : VW} (hX : XV τ 1 V m) (hK : ∀ τ', pkz [2, 3, 4] [] τ τ' → K (fChance V (τ.1 0 1) x y z) τ') : CC lyX Z ad yX5_chance wsX5_chance (rmk 5) [.ref (ad 0), .int x, .int y, .int z] τ (rL K) := by
  refine CC.of (cc := cX5_chance) (nL := 6) (ret := (some .long)) rfl rfl ⟨rfl, rfl⟩ (by exact Nat.le_of_ble_eq_true rfl) ?_
  intro X B
  change GG _ _ _ _ X _ 0 [some (.ref (ad 0)), some (.int x), some (.int y), some (.int z), none, none] [] _
  change Amb _ _ _ _ X _ _ RX5 _ _ at B
  unfold fChance at hK
  refine g_iload_n B dX5_chance_0 rfl ?_
  refine g_iconst (v := (1)) B dX5_chance_1 (by decide) ?_
  refine g_icmp_lt (tgt := 20) B dX5_chance_2 (by decide) (fun c2 => ?_) (fun c2 => ?_)
  · have hp : ¬ ((1 ≤ y.toInt ∧ y.toInt ≤ 20) ∧ 0 ≤ z.toInt ∧ z.toInt ≤ 1) := fun q => by
      first
      | exact c17 (i_le.mpr q.2.2)
      | exact absurd (i_lt.mp c12) (by have := q.2.1; rw [i0]; omega)
      | exact absurd (i_lt.mp c8) (by have := q.1.2; rw [show (20 : Int32).toInt = 20 from rfl]; omega)
      | exact absurd (i_lt.mp c2) (by have := q.1.1; rw [i1]; omega)
    rw [if_neg hp] at hK
    refine g_ldc2 (v := (-4611686018427387904)) B dX5_chance_20 (mq k_X5_175) ?_
    refine g_lreti B dX5_chance_23 ?_
    exact hK τ pkz.rf
  · refine g_iload_n B dX5_chance_5 rfl ?_
    refine g_bipush (v := (20)) B dX5_chance_6 (by decide) ?_
    refine g_icmp_gt (tgt := 20) B dX5_chance_8 (by decide) (fun c8 => ?_) (fun c8 => ?_)
    · have hp : ¬ ((1 ≤ y.toInt ∧ y.toInt ≤ 20) ∧ 0 ≤ z.toInt ∧ z.toInt ≤ 1) := fun q => by
        first
        | exact c17 (i_le.mpr q.2.2)
        | exact absurd (i_lt.mp c12) (by have := q.2.1; rw [i0]; omega)
        | exact absurd (i_lt.mp c8) (by have := q.1.2; rw [show (20 : Int32).toInt = 20 from rfl]; omega)
        | exact absurd (i_lt.mp c2) (by have := q.1.1; rw [i1]; omega)
      rw [if_neg hp] at hK
      refine g_ldc2 (v := (-4611686018427387904)) B dX5_chance_20 (mq k_X5_175) ?_
      refine g_lreti B dX5_chance_23 ?_
      exact hK τ pkz.rf
    · refine g_iload_n B dX5_chance_11 rfl ?_
      refine g_if_lt (tgt := 20) B dX5_chance_12 (by decide) (fun c12 => ?_) (fun c12 => ?_)
      · have hp : ¬ ((1 ≤ y.toInt ∧ y.toInt ≤ 20) ∧ 0 ≤ z.toInt ∧ z.toInt ≤ 1) := fun q => by
          first
          | exact c17 (i_le.mpr q.2.2)
          | exact absurd (i_lt.mp c12) (by have := q.2.1; rw [i0]; omega)
          | exact absurd (i_lt.mp c8) (by have := q.1.2; rw [show (20 : Int32).toInt = 20 from rfl]; omega)
          | exact absurd (i_lt.mp c2) (by have := q.1.1; rw [i1]; omega)
        rw [if_neg hp] at hK
        refine g_ldc2 (v := (-4611686018427387904)) B dX5_chance_20 (mq k_X5_175) ?_
        refine g_lreti B dX5_chance_23 ?_
        exact hK τ pkz.rf
      · refine g_iload_n B dX5_chance_15 rfl ?_
        refine g_iconst (v := (1)) B dX5_chance_16 (by decide) ?_
        refine g_icmp_le (tgt := 24) B dX5_chance_17 (by decide) (fun c17 => ?_) (fun c17 => ?_)
        · refine g_iconst (v := (0)) B dX5_chance_24 (by decide) ?_
          refine g_istore B dX5_chance_25 (by decide) rfl ?_
          refine g_iconst (v := (0)) B dX5_chance_27 (by decide) ?_
          refine g_istore B dX5_chance_28 (by decide) rfl ?_
          have hy1 : 1 ≤ y.toInt := i_le.mp (Int32.not_lt.mp c2)
          have hy2 : y.toInt ≤ 20 := i_le.mp (Int32.not_lt.mp c8)
          rw [if_pos ⟨⟨hy1, hy2⟩, w01 c12 c17⟩] at hK
          obtain ⟨n, hn, rfl⟩ := i_nat (x := y) (n := 21) (by omega) (by omega)
          rw [i_n (by omega)] at hy1 hy2
          rw [i_cl (by omega)] at hK
          exact lx_cha B hX ⟨by omega, by omega⟩ hK n 0 τ (by omega) pkz.rf
        · have hp : ¬ ((1 ≤ y.toInt ∧ y.toInt ≤ 20) ∧ 0 ≤ z.toInt ∧ z.toInt ≤ 1) := fun q => by
            first
            | exact c17 (i_le.mpr q.2.2)
            | exact absurd (i_lt.mp c12) (by have := q.2.1; rw [i0]; omega)
            | exact absurd (i_lt.mp c8) (by have := q.1.2; rw [show (20 : Int32).toInt = 20 from rfl]; omega)
            | exact absurd (i_lt.mp c2) (by have := q.1.1; rw [i1]; omega)
          rw [if_neg hp] at hK
          refine g_ldc2 (v := (-4611686018427387904)) B dX5_chance_20 (mq k_X5_175) ?_
          refine g_lreti B dX5_chance_23 ?_
          exact hK τ pkz.rf
theorem z_chance {Z : LZ} {ad : Nat → Nat} {a b : St} {T : Nat → TC} {m c r p : Nat} {K : Int64 → St → Prop} {x y z : Int32} (hI : INV a T m c r p) (hR : REL a b T m c r p) (hK : ∀ b', REL a b' T m c r p → K (fChance (vM a (T r)) (a.1 0 7) x y z) b') : CC lyX Z ad yX5_chance wsX5_chance (rmk 5) [.ref (ad 0), .int x, .int y, .int z] b (rL K) :=
  x_chance (hR.xv hI) (fun b' q => by rw [hR.1.1]; exact hK b' (hR.x q okD234 okK0 hI.1.2.1.2.1))
/-! users *program, both worlds kept alike* -/
theorem gUser_14 {a : St} {m s : Nat} {x y z : Int32} : (gUser a m x y z).1 14 s = a.1 14 s ∧ (gUser a m x y z).1 12 s = a.1 12 s := by
  rw [gUser_o (by decide) (by decide) (by decide), gUser_o (by decide) (by decide) (by decide)]
  exact ⟨rfl, rfl⟩
set_option maxRecDepth 100000 in
set_option maxHeartbeats 4000000 in
theorem lz_users {Z : LZ} {ad : Nat → Nat} {X : CX} {T : Nat → TC} {c r p s n z : Nat} {K : Int32 → St → Prop} {y A : Int32} (B : Amb lyX Z ad (rmk 3) X cX5_users wsX5_users RX5 9 (some .int)) (hs : s < 4) (hn : n ≤ 6) (hc6 : c ≤ 6) (hz : z ≤ 40) : ∀ (k i m : Nat) (a b : St) (v at_ : Int32), i + k = n → m ≤ 6 → REL a b T m c r p → ¬ a.1 12 s = 0 → a.1 14 s = nI z → (at_ = A + nI (3 * i) ∧ (1 ≤ i → 0 ≤ A.toInt ∧ A.toInt + 3 * i ≤ z)) → (∀ m' b', m' ≤ 6 → REL (usF s z A k i a m v).2 b' T m' c r p → K (usF s z A k i a m v).1 b') → GG lyX Z ad (rmk 3) X (rI K) 77 [some (.ref (ad 0)), some (.int (nI s)), some (.int y), some (.int A), some (.int (nI n)), some (.ref (ad (s + 44))), some (.int v), some (.int at_), some (.int (nI i))] [] b := by
  intro k
  induction k using Nat.strongRecOn with
  | ind k ih =>
    intro i m a b v at_ h1 hm6 hR h12 h14 hat hK
    obtain ⟨x1, x2, x3⟩ := (hR.2.2.2.2.2.1 s hs).2 h12
    rw [h14] at x2
    rw [h14, i_cl (by omega)] at x3
    refine g_iload B dX5_users_77 rfl ?_
    refine g_iload B dX5_users_79 rfl ?_
    refine g_icmp_ge (tgt := 145) B dX5_users_81 (by decide) (fun c81 => ?_) (fun c81 => ?_)
    · refine g_iload B dX5_users_145 rfl ?_
      refine g_ireti B dX5_users_147 ?_
      rw [nI_leI (by omega) (by omega)] at c81
      have e : k = 0 := by omega
      subst e
      exact hK m b hm6 hR
    · rw [nI_leI (by omega) (by omega)] at c81
      obtain ⟨k', rfl⟩ : ∃ k', k = k' + 1 := ⟨k - 1, by omega⟩
      unfold usF at hK
      have eat : (0 ≤ at_.toInt ∧ at_.toInt + 3 ≤ z) ↔ (0 ≤ A.toInt ∧ A.toInt + 3 * i + 3 ≤ z) := by
        by_cases q : 1 ≤ i
        · obtain ⟨q1, q2⟩ := hat.2 q
          have : at_.toInt = A.toInt + 3 * i := by
            rw [hat.1, i_add] <;> rw [i_n (by omega)] <;> omega
          omega
        · have e : i = 0 := by omega
          subst e
          have : at_ = A := by rw [hat.1]; exact Int32.add_zero A
          rw [this]
          omega
      refine g_aload B dX5_users_84 rfl ?_
      refine g_iload B dX5_users_86 rfl ?_
      refine g_iconst (v := (3)) B dX5_users_88 (by decide) ?_
      refine g_callVi (C := RX2) (As := [.int _, .int _]) B dX5_users_89 (gc1 g_X5_317) (by rfl) ⟨rfl, hd_X2_holds⟩ (by exact ⟨Nat.le_of_ble_eq_true rfl, Nat.le_of_ble_eq_true rfl⟩) ⟨rfl, rfl⟩ rfl rfl (by exact Nat.le_of_ble_eq_true rfl) (recv2 hs) (x_holds hs hz x2 ?_)
      refine g_if_ne (tgt := 98) B dX5_users_92 (by decide) (fun c92 => ?_) (fun c92 => ?_)
      · have hyes0 := b1_n0.mp c92
        rw [show (3 : Int32).toInt = 3 from rfl] at hyes0
        have hyes : 0 ≤ A.toInt ∧ A.toInt + 3 * i + 3 ≤ z := eat.mp ⟨hyes0.1, hyes0.2.2⟩
        rw [if_pos hyes] at hK
        obtain ⟨Q, hQ, rfl⟩ := i_nat (x := A) (n := 41) hyes.1 (by omega)
        rw [i_n (by omega)] at hyes
        have eat2 : at_ = nI (Q + 3 * i) := by rw [hat.1, nI_add]
        subst eat2
        rw [i_cl (show Q < 2147483648 by omega)] at hK
        have c0 : (nI (Q + 3 * i)).toNatClampNeg = Q + 3 * i := i_cl (by omega)
        have c1' : (nI (Q + 3 * i + 1)).toNatClampNeg = Q + 3 * i + 1 := i_cl (by omega)
        have c2' : (nI (Q + 3 * i + 2)).toNatClampNeg = Q + 3 * i + 2 := i_cl (by omega)
        have y0 := x3 (Q + 3 * i) (by omega)
        have y1 := x3 (Q + 3 * i + 1) (by omega)
        have y2 := x3 (Q + 3 * i + 2) (by omega)
        rw [show 40 * s + (Q + 3 * i) = 40 * s + Q + 3 * i by omega] at y0
        rw [show 40 * s + (Q + 3 * i + 1) = 40 * s + Q + 3 * i + 1 by omega] at y1
        rw [show 40 * s + (Q + 3 * i + 2) = 40 * s + Q + 3 * i + 2 by omega] at y2
        refine g_aload_n B dX5_users_98 rfl ?_
        refine g_aload B dX5_users_99 rfl ?_
        refine g_getR (T := TX2) (N := 3) B dX5_users_101 (hX (by omega)) (lo_s hs) (inq inlX2) rfl 2 (by decide) (mq f_X5_272) (by rfl) ?_
        refine g_iload B dX5_users_104 rfl ?_
        refine g_iald B dX5_users_106 (hX (by omega)) (lo_i hs) (by exact vp_in_nI (by omega) (by omega)) ?_
        rw [c0, y0]
        refine g_aload B dX5_users_107 rfl ?_
        refine g_getR (T := TX2) (N := 3) B dX5_users_109 (hX (by omega)) (lo_s hs) (inq inlX2) rfl 2 (by decide) (mq f_X5_272) (by rfl) ?_
        refine g_iload B dX5_users_112 rfl ?_
        refine g_iconst (v := (1)) B dX5_users_114 (by decide) ?_
        refine g_iadd B dX5_users_115 ?_
        rw [nI_1]
        refine g_iald B dX5_users_116 (hX (by omega)) (lo_i hs) (by exact vp_in_nI (by omega) (by omega)) ?_
        rw [c1', y1]
        refine g_aload B dX5_users_117 rfl ?_
        refine g_getR (T := TX2) (N := 3) B dX5_users_119 (hX (by omega)) (lo_s hs) (inq inlX2) rfl 2 (by decide) (mq f_X5_272) (by rfl) ?_
        refine g_iload B dX5_users_122 rfl ?_
        refine g_iconst (v := (2)) B dX5_users_124 (by decide) ?_
        refine g_iadd B dX5_users_125 ?_
        rw [show nI (Q + 3 * i) + 2 = nI (Q + 3 * i + 2) from nI_add _ 2]
        refine g_iald B dX5_users_126 (hX (by omega)) (lo_i hs) (by exact vp_in_nI (by omega) (by omega)) ?_
        rw [c2', y2]
        refine g_callVi (C := RX5) (As := [.int _, .int _, .int _]) B dX5_users_127 (gc1 g_X5_321) (by rfl) ⟨rfl, hd_X5_user⟩ (by exact ⟨Nat.le_of_ble_eq_true rfl, Nat.le_of_ble_eq_true rfl⟩) ⟨rfl, rfl⟩ rfl rfl (by exact Nat.le_of_ble_eq_true rfl) recv5 (z_user hm6 hc6 hR (fun b1 hR1 => ?_))
        have g14 := gUser_14 (a := a) (m := m) (s := s) (x := a.1 15 (40 * s + Q + 3 * i)) (y := a.1 15 (40 * s + Q + 3 * i + 1)) (z := a.1 15 (40 * s + Q + 3 * i + 2))
        refine g_if_lt (tgt := 136) B dX5_users_130 (by decide) (fun c130 => ?_) (fun c130 => ?_)
        · refine g_iinc (c9 := (3)) B dX5_users_136 rfl (by decide) (by decide) rfl ?_
          refine g_iinc (c9 := (1)) B dX5_users_139 rfl (by decide) (by decide) rfl ?_
          refine g_goto (tgt := 77) B dX5_users_142 (by decide) ?_
          rw [nI_1 i]
          have e3 : nI (Q + 3 * i) + 3 = nI Q + nI (3 * (i + 1)) := by
            rw [show nI (Q + 3 * i) + 3 = nI (Q + 3 * i + 3) from nI_add _ 3, nI_add]
            congr 1
          refine ih k' (by omega) (i + 1) _ _ b1 _ _ (by omega) (mU_le hm6) hR1 (by rw [g14.2]; exact h12) (by rw [g14.1]; exact h14) ⟨e3, fun _ => by rw [i_n (by omega)]; omega⟩ (fun m' b' q1 q2 => ?_)
          have h9 := hK m' b'
          first
            | (rw [if_pos c130, Int32.add_zero] at h9; exact h9 q1 q2)
            | (rw [if_neg (Int32.not_lt.mpr (Int32.not_lt.mp c130))] at h9; exact h9 q1 q2)
            | (rw [if_neg c130] at h9; exact h9 q1 q2)
        · refine g_iinc (c9 := (1)) B dX5_users_133 rfl (by decide) (by decide) rfl ?_
          refine g_iinc (c9 := (3)) B dX5_users_136 rfl (by decide) (by decide) rfl ?_
          refine g_iinc (c9 := (1)) B dX5_users_139 rfl (by decide) (by decide) rfl ?_
          refine g_goto (tgt := 77) B dX5_users_142 (by decide) ?_
          rw [nI_1 i]
          have e3 : nI (Q + 3 * i) + 3 = nI Q + nI (3 * (i + 1)) := by
            rw [show nI (Q + 3 * i) + 3 = nI (Q + 3 * i + 3) from nI_add _ 3, nI_add]
            congr 1
          refine ih k' (by omega) (i + 1) _ _ b1 _ _ (by omega) (mU_le hm6) hR1 (by rw [g14.2]; exact h12) (by rw [g14.1]; exact h14) ⟨e3, fun _ => by rw [i_n (by omega)]; omega⟩ (fun m' b' q1 q2 => ?_)
          have h9 := hK m' b'
          first
            | (rw [if_pos c130, Int32.add_zero] at h9; exact h9 q1 q2)
            | (rw [if_neg (Int32.not_lt.mpr (Int32.not_lt.mp c130))] at h9; exact h9 q1 q2)
            | (rw [if_neg c130] at h9; exact h9 q1 q2)
      · have hno : ¬ (0 ≤ A.toInt ∧ A.toInt + 3 * i + 3 ≤ z) := fun q => b1_0.mp c92 (by
          have := eat.mpr q
          exact ⟨this.1, by decide, by rw [show (3 : Int32).toInt = 3 from rfl]; omega⟩)
        rw [if_neg hno] at hK
        refine g_bipush (v := (-12)) B dX5_users_95 (by decide) ?_
        refine g_ireti B dX5_users_97 ?_
        exact hK m b hm6 hR
set_option maxRecDepth 100000 in
set_option maxHeartbeats 4000000 in
theorem z_users {Z : LZ} {ad : Nat → Nat} {a b : St} {T : Nat → TC} {m c r p : Nat} {K : Int32 → St → Prop} {x y A v : Int32} (hI : INV a T m c r p) (hR : REL a b T m c r p) (hK : ∀ m' b', m' ≤ 6 → REL (rUsers a m x y A v).2 b' T m' c r p → K (rUsers a m x y A v).1 b') : CC lyX Z ad yX5_users wsX5_users (rmk 3) [.ref (ad 0), .int x, .int y, .int A, .int v] b (rI K) := by
  refine CC.of (cc := cX5_users) (nL := 9) (ret := (some .int)) rfl rfl ⟨rfl, rfl⟩ (by exact Nat.le_of_ble_eq_true rfl) ?_
  intro X B
  change GG _ _ _ _ X _ 0 [some (.ref (ad 0)), some (.int x), some (.int y), some (.int A), some (.int v), none, none, none, none] [] _
  change Amb _ _ _ _ X _ _ RX5 _ _ at B
  have hSh := hR.2.2.2.2.2.1
  have hS := hI.2.2.2.2
  have hm6 := hI.1.1.1
  have hc6 := hI.1.2.1.2.1
  unfold rUsers at hK
  refine g_iload_n B dX5_users_0 rfl ?_
  refine g_callSi (As := [.int _]) B dX5_users_1 (gc1 g_X5_249) (by rfl) hd_X5_isSheet (by exact ⟨Nat.le_of_ble_eq_true rfl, Nat.le_of_ble_eq_true rfl⟩) ⟨rfl, rfl⟩ rfl rfl (by exact Nat.le_of_ble_eq_true rfl) (x_isSheet ?_)
  refine g_if_eq (tgt := 26) B dX5_users_4 (by decide) (fun c4 => ?_) (fun c4 => ?_)
  · have hp : ¬ usrsP x y v := fun q => by
      first
      | exact c23 (i_le.mpr q.2.2.2)
      | exact absurd (i_lt.mp c16) (by have := q.2.2.1; rw [i0]; omega)
      | exact b1_0.mp c11 q.2.1
      | exact b1_0.mp c4 q.1
    rw [if_neg hp] at hK
    refine g_bipush (v := (-2)) B dX5_users_26 (by decide) ?_
    refine g_ireti B dX5_users_28 ?_
    exact hK m b hm6 hR
  · refine g_iload_n B dX5_users_7 rfl ?_
    refine g_callSi (As := [.int _]) B dX5_users_8 (gc1 g_X5_311) (by rfl) hd_X5_isSort (by exact ⟨Nat.le_of_ble_eq_true rfl, Nat.le_of_ble_eq_true rfl⟩) ⟨rfl, rfl⟩ rfl rfl (by exact Nat.le_of_ble_eq_true rfl) (x_isSort ?_)
    refine g_if_eq (tgt := 26) B dX5_users_11 (by decide) (fun c11 => ?_) (fun c11 => ?_)
    · have hp : ¬ usrsP x y v := fun q => by
        first
        | exact c23 (i_le.mpr q.2.2.2)
        | exact absurd (i_lt.mp c16) (by have := q.2.2.1; rw [i0]; omega)
        | exact b1_0.mp c11 q.2.1
        | exact b1_0.mp c4 q.1
      rw [if_neg hp] at hK
      refine g_bipush (v := (-2)) B dX5_users_26 (by decide) ?_
      refine g_ireti B dX5_users_28 ?_
      exact hK m b hm6 hR
    · refine g_iload B dX5_users_14 rfl ?_
      refine g_if_lt (tgt := 26) B dX5_users_16 (by decide) (fun c16 => ?_) (fun c16 => ?_)
      · have hp : ¬ usrsP x y v := fun q => by
          first
          | exact c23 (i_le.mpr q.2.2.2)
          | exact absurd (i_lt.mp c16) (by have := q.2.2.1; rw [i0]; omega)
          | exact b1_0.mp c11 q.2.1
          | exact b1_0.mp c4 q.1
        rw [if_neg hp] at hK
        refine g_bipush (v := (-2)) B dX5_users_26 (by decide) ?_
        refine g_ireti B dX5_users_28 ?_
        exact hK m b hm6 hR
      · refine g_iload B dX5_users_19 rfl ?_
        refine g_bipush (v := (6)) B dX5_users_21 (by decide) ?_
        refine g_icmp_le (tgt := 29) B dX5_users_23 (by decide) (fun c23 => ?_) (fun c23 => ?_)
        · have h1 := b1_n0.mp c4
          have hp : usrsP x y v := ⟨h1, b1_n0.mp c11, i_le.mp (Int32.not_lt.mp c16), i_le.mp c23⟩
          have h3 := hp.2.2
          rw [if_pos hp] at hK
          obtain ⟨s, hs, rfl⟩ := i_nat (n := 4) h1.1 (by omega)
          have hcs : (nI s).toNatClampNeg = s := i_cl (by omega)
          rw [hcs] at hK
          refine g_aload_n B dX5_users_29 rfl ?_
          refine g_getR (T := TX5) (N := 16) B dX5_users_30 (by decide) (by rfl) (inq inlX5) rfl 9 (by decide) (mq f_X5_52) (by rfl) ?_
          refine g_iload_n B dX5_users_33 rfl ?_
          refine g_aald B dX5_users_34 (by decide) (by rfl) (by exact vp_in_nI hs (by omega)) ?_
          rw [hcs]
          refine g_astore B dX5_users_35 (by decide) rfl ?_
          refine g_aload B dX5_users_37 rfl ?_
          refine g_callVi (C := RX2) (As := []) B dX5_users_39 (gc1 g_X5_252) (by rfl) ⟨rfl, hd_X2_isMissing⟩ (by exact ⟨Nat.le_of_ble_eq_true rfl, Nat.le_of_ble_eq_true rfl⟩) ⟨rfl, rfl⟩ rfl rfl (by exact Nat.le_of_ble_eq_true rfl) (recv2 hs) (x_miss hs ?_)
          refine g_if_ne (tgt := 57) B dX5_users_42 (by decide) (fun c42 => ?_) (fun c42 => ?_)
          · skip
            refine g_aload B dX5_users_57 rfl ?_
            refine g_callVi (C := RX2) (As := []) B dX5_users_59 (gc1 g_X5_252) (by rfl) ⟨rfl, hd_X2_isMissing⟩ (by exact ⟨Nat.le_of_ble_eq_true rfl, Nat.le_of_ble_eq_true rfl⟩) ⟨rfl, rfl⟩ rfl rfl (by exact Nat.le_of_ble_eq_true rfl) (recv2 hs) (x_miss hs ?_)
            refine g_if_eq (tgt := 68) B dX5_users_62 (by decide) (fun c62 => ?_) (fun c62 => ?_)
            · refine g_iconst (v := (0)) B dX5_users_68 (by decide) ?_
              refine g_istore B dX5_users_69 (by decide) rfl ?_
              refine g_iload_n B dX5_users_71 rfl ?_
              refine g_istore B dX5_users_72 (by decide) rfl ?_
              refine g_iconst (v := (0)) B dX5_users_74 (by decide) ?_
              refine g_istore B dX5_users_75 (by decide) rfl ?_
              have h5 : ¬ a.1 12 s = 0 := fun q => b1_0.mp c62 ((sh_ge hSh hS hs).mpr q)
              have h6 : ¬ (¬ a.1 12 s = 0 ∧ ¬ a.1 13 s = y) := fun q => by
                first
                | exact q.2 (by assumption)
                | exact h5 ((sh_ge hSh hS hs).mp (b1_n0.mp c42))
              rw [if_neg h6, if_neg h5] at hK
              obtain ⟨z, hz, ez⟩ := (hS s hs h5).1
              obtain ⟨n, hn, rfl⟩ := i_nat (x := v) (n := 7) h3.1 (by omega)
              rw [ez, i_cl (by omega), i_cl (by omega)] at hK
              exact lz_users B hs (by omega) hc6 hz n 0 m a b 0 A (by omega) hm6 hR h5 ez ⟨(Int32.add_zero A).symm, fun q => by omega⟩ hK
            · have h5 : a.1 12 s = 0 := (sh_ge hSh hS hs).mp (b1_n0.mp c62)
              have h6 : ¬ (¬ a.1 12 s = 0 ∧ ¬ a.1 13 s = y) := fun q => q.1 h5
              rw [if_neg h6, if_pos h5] at hK
              refine g_bipush (v := (-11)) B dX5_users_65 (by decide) ?_
              refine g_ireti B dX5_users_67 ?_
              exact hK m b hm6 hR
          · have h4 : ¬ a.1 12 s = 0 := fun q => b1_0.mp c42 ((sh_ge hSh hS hs).mpr q)
            have x1 := ((hSh s hs).2 h4).1
            refine g_aload B dX5_users_45 rfl ?_
            refine g_getI (T := TX2) (N := 3) B dX5_users_47 (hX (by omega)) (lo_s hs) (inq inlX2) rfl 0 (by decide) (mq f_X5_314) (by rfl) ?_
            rw [x1]
            refine g_iload_n B dX5_users_50 rfl ?_
            refine g_icmp_eq (tgt := 57) B dX5_users_51 (by decide) (fun c51 => ?_) (fun c51 => ?_)
            · skip
              refine g_aload B dX5_users_57 rfl ?_
              refine g_callVi (C := RX2) (As := []) B dX5_users_59 (gc1 g_X5_252) (by rfl) ⟨rfl, hd_X2_isMissing⟩ (by exact ⟨Nat.le_of_ble_eq_true rfl, Nat.le_of_ble_eq_true rfl⟩) ⟨rfl, rfl⟩ rfl rfl (by exact Nat.le_of_ble_eq_true rfl) (recv2 hs) (x_miss hs ?_)
              refine g_if_eq (tgt := 68) B dX5_users_62 (by decide) (fun c62 => ?_) (fun c62 => ?_)
              · refine g_iconst (v := (0)) B dX5_users_68 (by decide) ?_
                refine g_istore B dX5_users_69 (by decide) rfl ?_
                refine g_iload_n B dX5_users_71 rfl ?_
                refine g_istore B dX5_users_72 (by decide) rfl ?_
                refine g_iconst (v := (0)) B dX5_users_74 (by decide) ?_
                refine g_istore B dX5_users_75 (by decide) rfl ?_
                have h5 : ¬ a.1 12 s = 0 := fun q => b1_0.mp c62 ((sh_ge hSh hS hs).mpr q)
                have h6 : ¬ (¬ a.1 12 s = 0 ∧ ¬ a.1 13 s = y) := fun q => by
                  first
                  | exact q.2 (by assumption)
                  | exact h5 ((sh_ge hSh hS hs).mp (b1_n0.mp c42))
                rw [if_neg h6, if_neg h5] at hK
                obtain ⟨z, hz, ez⟩ := (hS s hs h5).1
                obtain ⟨n, hn, rfl⟩ := i_nat (x := v) (n := 7) h3.1 (by omega)
                rw [ez, i_cl (by omega), i_cl (by omega)] at hK
                exact lz_users B hs (by omega) hc6 hz n 0 m a b 0 A (by omega) hm6 hR h5 ez ⟨(Int32.add_zero A).symm, fun q => by omega⟩ hK
              · have h5 : a.1 12 s = 0 := (sh_ge hSh hS hs).mp (b1_n0.mp c62)
                have h6 : ¬ (¬ a.1 12 s = 0 ∧ ¬ a.1 13 s = y) := fun q => q.1 h5
                rw [if_neg h6, if_pos h5] at hK
                refine g_bipush (v := (-11)) B dX5_users_65 (by decide) ?_
                refine g_ireti B dX5_users_67 ?_
                exact hK m b hm6 hR
            · rw [if_pos ⟨h4, c51⟩] at hK
              refine g_bipush (v := (-13)) B dX5_users_54 (by decide) ?_
              refine g_ireti B dX5_users_56 ?_
              exact hK m b hm6 hR
        · have hp : ¬ usrsP x y v := fun q => by
            first
            | exact c23 (i_le.mpr q.2.2.2)
            | exact absurd (i_lt.mp c16) (by have := q.2.2.1; rw [i0]; omega)
            | exact b1_0.mp c11 q.2.1
            | exact b1_0.mp c4 q.1
          rw [if_neg hp] at hK
          refine g_bipush (v := (-2)) B dX5_users_26 (by decide) ?_
          refine g_ireti B dX5_users_28 ?_
          exact hK m b hm6 hR

