/-! image, back *program, both worlds kept alike* -/
/-- numbers and towns of the first i users laid into the image's rows, or back *X* -/
def imX (τ : St) : Nat → St
  | 0 => τ
  | i + 1 => upS (upS (imX τ i) 14 i (τ.1 (i + 20) 1)) 15 i (τ.1 (i + 20) 2)
theorem imX_o {τ : St} {o : Nat} (h : o ≠ 14 ∧ o ≠ 15) : ∀ i, (imX τ i).1 o = τ.1 o
  | 0 => rfl
  | i + 1 => by
    unfold imX
    rw [upS_3 h.2, upS_3 h.1]
    exact imX_o h i
theorem imX_k {τ : St} : ∀ i u, u < i → (imX τ i).1 14 u = τ.1 (u + 20) 1 ∧ (imX τ i).1 15 u = τ.1 (u + 20) 2
  | 0, _, h => absurd h (Nat.not_lt_zero _)
  | i + 1, u, h => by
    unfold imX
    by_cases e : u = i
    · subst e
      exact ⟨by rw [upS_3 (by decide), upS_1], by rw [upS_1]⟩
    · obtain ⟨a, b⟩ := imX_k i u (by omega)
      exact ⟨by rw [upS_3 (by decide), upS_2 e]; exact a, by rw [upS_2 e, upS_3 (by decide)]; exact b⟩
theorem iz (k : Nat) (hk : k < 41) : ¬ nI k < 0 := by
  rw [i_lt, i_n (by omega), i0]
  omega
set_option maxRecDepth 100000 in
set_option maxHeartbeats 4000000 in
theorem lx_image {Z : LZ} {ad : Nat → Nat} {X : CX} {K : Int32 → St → Prop} {τ : St} (B : Amb lyX Z ad (rmk 1) X cX5_image wsX5_image RX5 2 (some .int)) (hK : K (τ.1 0 3) (imX τ 6)) : ∀ (k i : Nat), i + k = 6 → GG lyX Z ad (rmk 1) X (rI K) 61 [some (.ref (ad 0)), some (.int (nI i))] [] (imX τ i) := by
  intro k
  induction k using Nat.strongRecOn with
  | ind k ih =>
    intro i h1
    have hci : (nI i).toNatClampNeg = i := i_cl (by omega)
    refine g_iload_n B dX5_image_61 rfl ?_
    refine g_bipush (v := (6)) B dX5_image_62 (by decide) ?_
    refine g_icmp_ge (tgt := 109) B dX5_image_64 (by decide) (fun c64 => ?_) (fun c64 => ?_)
    · refine g_aload_n B dX5_image_109 rfl ?_
      refine g_getI (T := TX5) (N := 16) B dX5_image_110 (by decide) (by rfl) (inq inlX5) rfl 3 (by decide) (mq f_X5_23) (by rfl) ?_
      refine g_ireti B dX5_image_113 ?_
      have e : i = 6 := by
        rw [i_le, i_n (by omega), i6] at c64
        omega
      subst e
      rw [imX_o (by decide)]
      exact hK
    · have h2 : i < 6 := by
        have := Int32.not_le.mp c64
        rw [i_lt, i_n (by omega), i6] at this
        omega
      have hU : UO (i + 20) := UO.u h2
      refine g_aload_n B dX5_image_67 rfl ?_
      refine g_getR (T := TX5) (N := 16) B dX5_image_68 (by decide) (by rfl) (inq inlX5) rfl 10 (by decide) (mq f_X5_59) (by rfl) ?_
      refine g_getR (T := TX0) (N := 7) B dX5_image_71 (by decide) (by rfl) (inq inlX0) rfl 5 (by decide) (mq f_X5_299) (by rfl) ?_
      refine g_iload_n B dX5_image_74 rfl ?_
      refine g_aload_n B dX5_image_75 rfl ?_
      refine g_getR (T := TX5) (N := 16) B dX5_image_76 (by decide) (by rfl) (inq inlX5) rfl 2 (by decide) (mq f_X5_19) (by rfl) ?_
      refine g_iload_n B dX5_image_79 rfl ?_
      refine g_aald B dX5_image_80 (by decide) (by rfl) (by exact vp_in_nI h2 (by omega)) ?_
      rw [hci]
      refine g_getI (T := TX4) (N := 3) B dX5_image_81 (hU.lt) (hU.lo) (inq inlX4) rfl 1 (by decide) (mq f_X5_108) (by rfl) ?_
      rw [imX_o (by omega)]
      refine g_iast B dX5_image_84 (by decide) (by rfl) (by exact vp_in_nI h2 (by omega)) ?_
      rw [hci]
      refine g_aload_n B dX5_image_85 rfl ?_
      refine g_getR (T := TX5) (N := 16) B dX5_image_86 (by decide) (by rfl) (inq inlX5) rfl 10 (by decide) (mq f_X5_59) (by rfl) ?_
      refine g_getR (T := TX0) (N := 7) B dX5_image_89 (by decide) (by rfl) (inq inlX0) rfl 6 (by decide) (mq f_X5_302) (by rfl) ?_
      refine g_iload_n B dX5_image_92 rfl ?_
      refine g_aload_n B dX5_image_93 rfl ?_
      refine g_getR (T := TX5) (N := 16) B dX5_image_94 (by decide) (by rfl) (inq inlX5) rfl 2 (by decide) (mq f_X5_19) (by rfl) ?_
      refine g_iload_n B dX5_image_97 rfl ?_
      refine g_aald B dX5_image_98 (by decide) (by rfl) (by exact vp_in_nI h2 (by omega)) ?_
      rw [hci]
      refine g_getI (T := TX4) (N := 3) B dX5_image_99 (hU.lt) (hU.lo) (inq inlX4) rfl 2 (by decide) (mq f_X5_114) (by rfl) ?_
      rw [upS_3 (by omega), imX_o (by omega)]
      refine g_iast B dX5_image_102 (by decide) (by rfl) (by exact vp_in_nI h2 (by omega)) ?_
      rw [hci]
      refine g_iinc (c9 := (1)) B dX5_image_103 rfl (by decide) (by decide) rfl ?_
      refine g_goto (tgt := 61) B dX5_image_106 (by decide) ?_
      rw [nI_1 i]
      exact ih (k - 1) (by omega) (i + 1) (by omega)
def imC (τ : St) : St := upA (upS τ 10 0 1) 13 (va_cpy (τ.1 1) (τ.1 13) 0 0 30)
def gImX (τ : St) : St := imX (upS (upS (upS (imC τ) 10 2 (τ.1 0 1)) 10 3 (τ.1 0 8)) 10 4 (τ.1 0 3)) 6
set_option maxRecDepth 100000 in
set_option maxHeartbeats 4000000 in
theorem x_image {Z : LZ} {ad : Nat → Nat} {τ : St} {K : Int32 → St → Prop} (hK : K (τ.1 0 3) (gImX τ)) : CC lyX Z ad yX5_image wsX5_image (rmk 1) [.ref (ad 0)] τ (rI K) := by
  refine CC.of (cc := cX5_image) (nL := 2) (ret := (some .int)) rfl rfl ⟨rfl, rfl⟩ (by exact Nat.le_of_ble_eq_true rfl) ?_
  intro X B
  change GG _ _ _ _ X _ 0 [some (.ref (ad 0)), none] [] _
  change Amb _ _ _ _ X _ _ RX5 _ _ at B
  refine g_aload_n B dX5_image_0 rfl ?_
  refine g_getR (T := TX5) (N := 16) B dX5_image_1 (by decide) (by rfl) (inq inlX5) rfl 10 (by decide) (mq f_X5_59) (by rfl) ?_
  refine g_iconst (v := (1)) B dX5_image_4 (by decide) ?_
  refine g_putI (T := TX0) (N := 7) B dX5_image_5 (by decide) (by rfl) (inq inlX0) rfl 0 (by decide) (mq f_X5_285) tyX0_ok nmX0 rfl ⟨rfl, rfl⟩ (by rfl) ?_
  refine g_aload_n B dX5_image_8 rfl ?_
  refine g_getR (T := TX5) (N := 16) B dX5_image_9 (by decide) (by rfl) (inq inlX5) rfl 0 (by decide) (mq f_X5_9) (by rfl) ?_
  refine g_iconst (v := (0)) B dX5_image_12 (by decide) ?_
  refine g_aload_n B dX5_image_13 rfl ?_
  refine g_getR (T := TX5) (N := 16) B dX5_image_14 (by decide) (by rfl) (inq inlX5) rfl 10 (by decide) (mq f_X5_59) (by rfl) ?_
  refine g_getR (T := TX0) (N := 7) B dX5_image_17 (by decide) (by rfl) (inq inlX0) rfl 1 (by decide) (mq f_X5_289) (by rfl) ?_
  refine g_iconst (v := (0)) B dX5_image_20 (by decide) ?_
  refine g_bipush (v := (30)) B dX5_image_21 (by decide) ?_
  refine g_copyi B dX5_image_23 ⟨mq m_X5_290.1, mq m_X5_290.2.1, mq m_X5_290.2.2.1, mq m_X5_290.2.2.2⟩ (by decide) (by rfl) (by decide) (by rfl) (by decide) (by decide) (by decide) (by decide) (by decide) (by exact ⟨Nat.le_of_ble_eq_true rfl, Nat.le_of_ble_eq_true rfl⟩) ?_
  refine g_st (fun σ hσ => ?_)
  have e0 : σ = imC τ := hσ
  subst e0
  have o0 : ∀ k, (imC τ).1 0 k = τ.1 0 k := fun k => rfl
  refine g_aload_n B dX5_image_26 rfl ?_
  refine g_getR (T := TX5) (N := 16) B dX5_image_27 (by decide) (by rfl) (inq inlX5) rfl 10 (by decide) (mq f_X5_59) (by rfl) ?_
  refine g_aload_n B dX5_image_30 rfl ?_
  refine g_getI (T := TX5) (N := 16) B dX5_image_31 (by decide) (by rfl) (inq inlX5) rfl 1 (by decide) (mq f_X5_13) (by rfl) ?_
  rw [o0]
  refine g_putI (T := TX0) (N := 7) B dX5_image_34 (by decide) (by rfl) (inq inlX0) rfl 2 (by decide) (mq f_X5_296) tyX0_ok nmX0 rfl ⟨rfl, rfl⟩ (by rfl) ?_
  refine g_aload_n B dX5_image_37 rfl ?_
  refine g_getR (T := TX5) (N := 16) B dX5_image_38 (by decide) (by rfl) (inq inlX5) rfl 10 (by decide) (mq f_X5_59) (by rfl) ?_
  refine g_aload_n B dX5_image_41 rfl ?_
  refine g_getI (T := TX5) (N := 16) B dX5_image_42 (by decide) (by rfl) (inq inlX5) rfl 8 (by decide) (mq f_X5_47) (by rfl) ?_
  rw [upS_3 (show (0 : Nat) ≠ 10 by decide), o0]
  refine g_putI (T := TX0) (N := 7) B dX5_image_45 (by decide) (by rfl) (inq inlX0) rfl 3 (by decide) (mq f_X5_297) tyX0_ok nmX0 rfl ⟨rfl, rfl⟩ (by rfl) ?_
  refine g_aload_n B dX5_image_48 rfl ?_
  refine g_getR (T := TX5) (N := 16) B dX5_image_49 (by decide) (by rfl) (inq inlX5) rfl 10 (by decide) (mq f_X5_59) (by rfl) ?_
  refine g_aload_n B dX5_image_52 rfl ?_
  refine g_getI (T := TX5) (N := 16) B dX5_image_53 (by decide) (by rfl) (inq inlX5) rfl 3 (by decide) (mq f_X5_23) (by rfl) ?_
  rw [upS_3 (show (0 : Nat) ≠ 10 by decide), upS_3 (show (0 : Nat) ≠ 10 by decide), o0]
  refine g_putI (T := TX0) (N := 7) B dX5_image_56 (by decide) (by rfl) (inq inlX0) rfl 4 (by decide) (mq f_X5_298) tyX0_ok nmX0 rfl ⟨rfl, rfl⟩ (by rfl) ?_
  refine g_iconst (v := (0)) B dX5_image_59 (by decide) ?_
  refine g_istore_n B dX5_image_60 (by decide) rfl ?_
  exact lx_image (τ := upS (upS (upS (imC τ) 10 2 (τ.1 0 1)) 10 3 (τ.1 0 8)) 10 4 (τ.1 0 3)) B (by rw [upS_3 (show (0 : Nat) ≠ 10 by decide), upS_3 (show (0 : Nat) ≠ 10 by decide), upS_3 (show (0 : Nat) ≠ 10 by decide), o0]; exact hK) 6 0 rfl
theorem gImX_o {τ : St} {o : Nat} (h : o ≠ 10 ∧ o ≠ 13 ∧ o ≠ 14 ∧ o ≠ 15) : (gImX τ).1 o = τ.1 o := by
  unfold gImX imC
  rw [imX_o (by omega), upS_3 (by omega), upS_3 (by omega), upS_3 (by omega), upA_3 (by omega), upS_3 (by omega)]
theorem gImX_p {τ : St} : (gImX τ).1 10 0 = 1 ∧ (gImX τ).1 10 2 = τ.1 0 1 ∧ (gImX τ).1 10 3 = τ.1 0 8 ∧ (gImX τ).1 10 4 = τ.1 0 3 := by
  unfold gImX imC
  rw [imX_o (by decide)]
  refine ⟨?_, ?_, ?_, ?_⟩
  · rw [upS_2 (by decide), upS_2 (by decide), upS_2 (by decide), upA_3 (by decide), upS_1]
  · rw [upS_2 (by decide), upS_2 (by decide), upS_1]
  · rw [upS_2 (by decide), upS_1]
  · rw [upS_1]
theorem gImX_c {τ : St} {t : Nat} (ht : t < 30) : (gImX τ).1 13 t = τ.1 1 t := by
  unfold gImX imC
  rw [imX_o (by decide), upS_3 (by decide), upS_3 (by decide), upS_3 (by decide), upA_1]
  unfold va_cpy
  rw [if_pos (by omega), Nat.sub_zero, Nat.zero_add]
theorem gImX_u {τ : St} {u : Nat} (hu : u < 6) : (gImX τ).1 14 u = τ.1 (u + 20) 1 ∧ (gImX τ).1 15 u = τ.1 (u + 20) 2 := by
  unfold gImX imC
  obtain ⟨a, b⟩ := imX_k (τ := upS (upS (upS (upA (upS τ 10 0 1) 13 (va_cpy (τ.1 1) (τ.1 13) 0 0 30)) 10 2 (τ.1 0 1)) 10 3 (τ.1 0 8)) 10 4 (τ.1 0 3)) 6 u hu
  rw [a, b, upS_3 (by omega), upS_3 (by omega), upS_3 (by omega), upA_3 (by omega), upS_3 (by omega)]
  exact ⟨rfl, rfl⟩
theorem gI_0 {a : St} : (∀ k, k ≠ 35 → k ≠ 36 → k ≠ 37 → (gImage a).1 0 k = a.1 0 k) ∧ (gImage a).1 0 35 = a.1 0 11 ∧ (gImage a).1 0 36 = a.1 0 7 ∧ (gImage a).1 0 37 = a.1 0 4 ∧ (∀ o, o ≠ 0 → o ≠ 10 → o ≠ 11 → (gImage a).1 o = a.1 o) ∧ (∀ t, t < 30 → (gImage a).1 10 t = a.1 4 t) ∧ (∀ k, k < 12 → (gImage a).1 11 k = a.1 6 k) := by
  unfold gImage
  refine ⟨fun k h5 h6 h7 => ?_, ?_, ?_, ?_, fun o h0 h10 h11 => ?_, fun t ht => ?_, fun k hk => ?_⟩
  · rw [upS_2 h7, upS_2 h6, upS_2 h5, cpG_o (by decide), cpG_o (by decide)]
  · rw [upS_2 (by decide), upS_2 (by decide), upS_1]
  · rw [upS_2 (by decide), upS_1]
  · rw [upS_1]
  · rw [upS_3 h0, upS_3 h0, upS_3 h0, cpG_o h11, cpG_o h10]
  · rw [upS_3 (by decide), upS_3 (by decide), upS_3 (by decide), cpG_o (by decide), cpG_1, if_pos ht]
  · rw [upS_3 (by decide), upS_3 (by decide), upS_3 (by decide), cpG_1, if_pos hk, cpG_o (by decide)]
theorem REL.img {a b : St} {T : Nat → TC} {m c r p : Nat} (h : REL a b T m c r p) (hI : INV a T m c r p) : REL (gImage a) (gImX b) T m c r p := by
  obtain ⟨h0, ⟨h5, h6⟩, h7, h8, h9, h10, h11⟩ := h
  obtain ⟨g1, g2, g3, g4, g5, g6, g7⟩ := gI_0 (a := a)
  obtain ⟨p1, p2, p3, p4⟩ := gImX_p (τ := b)
  refine ⟨?_, ⟨?_, ?_⟩, ?_, ?_, ?_, ?_, ?_⟩
  · rw [gImX_o (by decide), g1 7 (by decide) (by decide) (by decide)]; exact h0
  · rw [gImX_o (by decide)]; exact h5
  · rw [gImX_o (by decide), g5 3 (by decide) (by decide) (by decide)]; exact h6
  · rw [gImX_o (by decide), g5 4 (by decide) (by decide) (by decide)]; exact h7
  · exact h8.eq (g5 _ (by decide) (by decide) (by decide)) (g5 _ (by decide) (by decide) (by decide)) (fun u hu => gImX_o (by omega))
  · exact TXX.eqs h9 (fun o h1 h2 => gImX_o (by omega)) hI.1.2.1.2.1
  · exact h10.eq (g5 _ (by decide) (by decide) (by decide)) (g5 _ (by decide) (by decide) (by decide)) (g5 _ (by decide) (by decide) (by decide)) (g5 _ (by decide) (by decide) (by decide)) (fun s hs => ⟨gImX_o (by omega), gImX_o (by omega)⟩)
  · refine ⟨fun q => ?_, fun _ => ⟨?_, ?_, ?_, ?_, fun t ht => ?_, fun u hu => ?_⟩⟩
    · rw [g2, hI.1.1.2, i_eq, i_n (by have := hI.1.1.1; omega), im1] at q
      omega
    · rw [p1]; decide
    · rw [p2, g3]; exact h0.1
    · rw [p3, g4]; exact h0.2.2.2.trans hI.1.2.2.1.2.symm
    · rw [p4, g2]; exact h0.2.1.trans hI.1.1.2.symm
    · rw [gImX_c ht, g6 t ht]; exact h7 t ht
    · obtain ⟨u1, u2⟩ := gImX_u (τ := b) hu
      rw [u1, u2, g7 _ (by omega), g7 _ (by omega)]
      exact ⟨(h8 u hu).2.1, (h8 u hu).2.2⟩
theorem z_image {Z : LZ} {ad : Nat → Nat} {a b : St} {T : Nat → TC} {m c r p : Nat} {K : Int32 → St → Prop} (hI : INV a T m c r p) (hR : REL a b T m c r p) (hK : ∀ b', REL (gImage a) b' T m c r p → K (a.1 0 11) b') : CC lyX Z ad yX5_image wsX5_image (rmk 1) [.ref (ad 0)] b (rI K) :=
  x_image (kk (hR.1.2.1.trans hI.1.1.2.symm) (hK _ (hR.img hI)))
def bkX (τ : St) : Nat → St
  | 0 => τ
  | i + 1 => upS (upS (bkX τ i) (i + 20) 1 (τ.1 14 i)) (i + 20) 2 (τ.1 15 i)
theorem bkX_o {τ : St} {o : Nat} (h : ¬ (20 ≤ o ∧ o < 26)) : ∀ i, i ≤ 6 → (bkX τ i).1 o = τ.1 o
  | 0, _ => rfl
  | i + 1, hi => by
    unfold bkX
    rw [upS_3 (by omega), upS_3 (by omega)]
    exact bkX_o h i (by omega)
theorem bkX_k {τ : St} : ∀ i u, i ≤ 6 → (bkX τ i).1 (u + 20) 0 = τ.1 (u + 20) 0 ∧ (u < i → (bkX τ i).1 (u + 20) 1 = τ.1 14 u ∧ (bkX τ i).1 (u + 20) 2 = τ.1 15 u)
  | 0, _, _ => ⟨rfl, fun h => absurd h (Nat.not_lt_zero _)⟩
  | i + 1, u, hi => by
    obtain ⟨a, b⟩ := bkX_k (τ := τ) i u (by omega)
    unfold bkX
    by_cases e : u = i
    · subst e
      exact ⟨by rw [upS_2 (by decide), upS_2 (by decide)]; exact a, fun _ => ⟨by rw [upS_2 (by decide), upS_1], by rw [upS_1]⟩⟩
    · refine ⟨by rw [upS_3 (by omega), upS_3 (by omega)]; exact a, fun h => ?_⟩
      rw [upS_3 (by omega), upS_3 (by omega)]
      exact b (by omega)
set_option maxRecDepth 100000 in
set_option maxHeartbeats 4000000 in
theorem lx_back {Z : LZ} {ad : Nat → Nat} {X : CX} {K : Int32 → St → Prop} {τ : St} (B : Amb lyX Z ad (rmk 1) X cX5_back wsX5_back RX5 2 (some .int)) (hK : K (τ.1 0 3) (bkX τ 6)) : ∀ (k i : Nat), i + k = 6 → GG lyX Z ad (rmk 1) X (rI K) 66 [some (.ref (ad 0)), some (.int (nI i))] [] (bkX τ i) := by
  intro k
  induction k using Nat.strongRecOn with
  | ind k ih =>
    intro i h1
    have hci : (nI i).toNatClampNeg = i := i_cl (by omega)
    refine g_iload_n B dX5_back_66 rfl ?_
    refine g_bipush (v := (6)) B dX5_back_67 (by decide) ?_
    refine g_icmp_ge (tgt := 114) B dX5_back_69 (by decide) (fun c69 => ?_) (fun c69 => ?_)
    · refine g_aload_n B dX5_back_114 rfl ?_
      refine g_getI (T := TX5) (N := 16) B dX5_back_115 (by decide) (by rfl) (inq inlX5) rfl 3 (by decide) (mq f_X5_23) (by rfl) ?_
      refine g_ireti B dX5_back_118 ?_
      have e : i = 6 := by
        rw [i_le, i_n (by omega), i6] at c69
        omega
      subst e
      rw [bkX_o (by decide) 6 (by omega)]
      exact hK
    · have h2 : i < 6 := by
        have := Int32.not_le.mp c69
        rw [i_lt, i_n (by omega), i6] at this
        omega
      have hU : UO (i + 20) := UO.u h2
      refine g_aload_n B dX5_back_72 rfl ?_
      refine g_getR (T := TX5) (N := 16) B dX5_back_73 (by decide) (by rfl) (inq inlX5) rfl 2 (by decide) (mq f_X5_19) (by rfl) ?_
      refine g_iload_n B dX5_back_76 rfl ?_
      refine g_aald B dX5_back_77 (by decide) (by rfl) (by exact vp_in_nI h2 (by omega)) ?_
      rw [hci]
      refine g_aload_n B dX5_back_78 rfl ?_
      refine g_getR (T := TX5) (N := 16) B dX5_back_79 (by decide) (by rfl) (inq inlX5) rfl 10 (by decide) (mq f_X5_59) (by rfl) ?_
      refine g_getR (T := TX0) (N := 7) B dX5_back_82 (by decide) (by rfl) (inq inlX0) rfl 5 (by decide) (mq f_X5_299) (by rfl) ?_
      refine g_iload_n B dX5_back_85 rfl ?_
      refine g_iald B dX5_back_86 (by decide) (by rfl) (by exact vp_in_nI h2 (by omega)) ?_
      rw [hci, bkX_o (by omega) i (by omega)]
      refine g_putI (T := TX4) (N := 3) B dX5_back_87 (hU.lt) (hU.lo) (inq inlX4) rfl 1 (by decide) (mq f_X5_108) tyX4_ok nmX4 rfl ⟨rfl, rfl⟩ (by rfl) ?_
      refine g_aload_n B dX5_back_90 rfl ?_
      refine g_getR (T := TX5) (N := 16) B dX5_back_91 (by decide) (by rfl) (inq inlX5) rfl 2 (by decide) (mq f_X5_19) (by rfl) ?_
      refine g_iload_n B dX5_back_94 rfl ?_
      refine g_aald B dX5_back_95 (by decide) (by rfl) (by exact vp_in_nI h2 (by omega)) ?_
      rw [hci]
      refine g_aload_n B dX5_back_96 rfl ?_
      refine g_getR (T := TX5) (N := 16) B dX5_back_97 (by decide) (by rfl) (inq inlX5) rfl 10 (by decide) (mq f_X5_59) (by rfl) ?_
      refine g_getR (T := TX0) (N := 7) B dX5_back_100 (by decide) (by rfl) (inq inlX0) rfl 6 (by decide) (mq f_X5_302) (by rfl) ?_
      refine g_iload_n B dX5_back_103 rfl ?_
      refine g_iald B dX5_back_104 (by decide) (by rfl) (by exact vp_in_nI h2 (by omega)) ?_
      rw [hci, upS_3 (by omega), bkX_o (by omega) i (by omega)]
      refine g_putI (T := TX4) (N := 3) B dX5_back_105 (hU.lt) (hU.lo) (inq inlX4) rfl 2 (by decide) (mq f_X5_114) tyX4_ok nmX4 rfl ⟨rfl, rfl⟩ (by rfl) ?_
      refine g_iinc (c9 := (1)) B dX5_back_108 rfl (by decide) (by decide) rfl ?_
      refine g_goto (tgt := 66) B dX5_back_111 (by decide) ?_
      rw [nI_1 i]
      exact ih (k - 1) (by omega) (i + 1) (by omega)
def bkC (τ : St) : St := upA τ 1 (va_cpy (τ.1 13) (τ.1 1) 0 0 30)
def gBkX (τ : St) : St := bkX (upS (upS (upS (bkC τ) 0 1 (τ.1 10 2)) 0 8 (τ.1 10 3)) 0 3 (τ.1 10 4)) 6
set_option maxRecDepth 100000 in
set_option maxHeartbeats 4000000 in
theorem x_back {Z : LZ} {ad : Nat → Nat} {τ : St} {K : Int32 → St → Prop} (hK1 : τ.1 10 0 = 0 → K (-3) τ) (hK2 : ¬ τ.1 10 0 = 0 → K (τ.1 10 4) (gBkX τ)) : CC lyX Z ad yX5_back wsX5_back (rmk 1) [.ref (ad 0)] τ (rI K) := by
  refine CC.of (cc := cX5_back) (nL := 2) (ret := (some .int)) rfl rfl ⟨rfl, rfl⟩ (by exact Nat.le_of_ble_eq_true rfl) ?_
  intro X B
  change GG _ _ _ _ X _ 0 [some (.ref (ad 0)), none] [] _
  change Amb _ _ _ _ X _ _ RX5 _ _ at B
  refine g_aload_n B dX5_back_0 rfl ?_
  refine g_getR (T := TX5) (N := 16) B dX5_back_1 (by decide) (by rfl) (inq inlX5) rfl 10 (by decide) (mq f_X5_59) (by rfl) ?_
  refine g_getI (T := TX0) (N := 7) B dX5_back_4 (by decide) (by rfl) (inq inlX0) rfl 0 (by decide) (mq f_X5_285) (by rfl) ?_
  refine g_if_ne (tgt := 13) B dX5_back_7 (by decide) (fun c7 => ?_) (fun c7 => ?_)
  · refine g_aload_n B dX5_back_13 rfl ?_
    refine g_getR (T := TX5) (N := 16) B dX5_back_14 (by decide) (by rfl) (inq inlX5) rfl 10 (by decide) (mq f_X5_59) (by rfl) ?_
    refine g_getR (T := TX0) (N := 7) B dX5_back_17 (by decide) (by rfl) (inq inlX0) rfl 1 (by decide) (mq f_X5_289) (by rfl) ?_
    refine g_iconst (v := (0)) B dX5_back_20 (by decide) ?_
    refine g_aload_n B dX5_back_21 rfl ?_
    refine g_getR (T := TX5) (N := 16) B dX5_back_22 (by decide) (by rfl) (inq inlX5) rfl 0 (by decide) (mq f_X5_9) (by rfl) ?_
    refine g_iconst (v := (0)) B dX5_back_25 (by decide) ?_
    refine g_bipush (v := (30)) B dX5_back_26 (by decide) ?_
    refine g_copyi B dX5_back_28 ⟨mq m_X5_290.1, mq m_X5_290.2.1, mq m_X5_290.2.2.1, mq m_X5_290.2.2.2⟩ (by decide) (by rfl) (by decide) (by rfl) (by decide) (by decide) (by decide) (by decide) (by decide) (by exact ⟨Nat.le_of_ble_eq_true rfl, Nat.le_of_ble_eq_true rfl⟩) ?_
    refine g_st (fun σ hσ => ?_)
    have e0 : σ = bkC τ := hσ
    subst e0
    have o0 : ∀ k, (bkC τ).1 10 k = τ.1 10 k := fun k => rfl
    refine g_aload_n B dX5_back_31 rfl ?_
    refine g_aload_n B dX5_back_32 rfl ?_
    refine g_getR (T := TX5) (N := 16) B dX5_back_33 (by decide) (by rfl) (inq inlX5) rfl 10 (by decide) (mq f_X5_59) (by rfl) ?_
    refine g_getI (T := TX0) (N := 7) B dX5_back_36 (by decide) (by rfl) (inq inlX0) rfl 2 (by decide) (mq f_X5_296) (by rfl) ?_
    rw [o0]
    refine g_putI (T := TX5) (N := 16) B dX5_back_39 (by decide) (by rfl) (inq inlX5) rfl 1 (by decide) (mq f_X5_13) tyX5_ok nmX5 rfl ⟨rfl, rfl⟩ (by rfl) ?_
    refine g_aload_n B dX5_back_42 rfl ?_
    refine g_aload_n B dX5_back_43 rfl ?_
    refine g_getR (T := TX5) (N := 16) B dX5_back_44 (by decide) (by rfl) (inq inlX5) rfl 10 (by decide) (mq f_X5_59) (by rfl) ?_
    refine g_getI (T := TX0) (N := 7) B dX5_back_47 (by decide) (by rfl) (inq inlX0) rfl 3 (by decide) (mq f_X5_297) (by rfl) ?_
    rw [upS_3 (show (10 : Nat) ≠ 0 by decide), o0]
    refine g_putI (T := TX5) (N := 16) B dX5_back_50 (by decide) (by rfl) (inq inlX5) rfl 8 (by decide) (mq f_X5_47) tyX5_ok nmX5 rfl ⟨rfl, rfl⟩ (by rfl) ?_
    refine g_aload_n B dX5_back_53 rfl ?_
    refine g_aload_n B dX5_back_54 rfl ?_
    refine g_getR (T := TX5) (N := 16) B dX5_back_55 (by decide) (by rfl) (inq inlX5) rfl 10 (by decide) (mq f_X5_59) (by rfl) ?_
    refine g_getI (T := TX0) (N := 7) B dX5_back_58 (by decide) (by rfl) (inq inlX0) rfl 4 (by decide) (mq f_X5_298) (by rfl) ?_
    rw [upS_3 (show (10 : Nat) ≠ 0 by decide), upS_3 (show (10 : Nat) ≠ 0 by decide), o0]
    refine g_putI (T := TX5) (N := 16) B dX5_back_61 (by decide) (by rfl) (inq inlX5) rfl 3 (by decide) (mq f_X5_23) tyX5_ok nmX5 rfl ⟨rfl, rfl⟩ (by rfl) ?_
    refine g_iconst (v := (0)) B dX5_back_64 (by decide) ?_
    refine g_istore_n B dX5_back_65 (by decide) rfl ?_
    exact lx_back (τ := upS (upS (upS (bkC τ) 0 1 (τ.1 10 2)) 0 8 (τ.1 10 3)) 0 3 (τ.1 10 4)) B (by rw [upS_1]; exact hK2 c7) 6 0 rfl
  · refine g_bipush (v := (-3)) B dX5_back_10 (by decide) ?_
    refine g_ireti B dX5_back_12 ?_
    exact hK1 c7
theorem gBkX_o {τ : St} {o : Nat} (h : o ≠ 0 ∧ o ≠ 1 ∧ ¬ (20 ≤ o ∧ o < 26)) : (gBkX τ).1 o = τ.1 o := by
  unfold gBkX bkC
  rw [bkX_o (by omega) 6 (by omega), upS_3 (by omega), upS_3 (by omega), upS_3 (by omega), upA_3 (by omega)]
theorem gBkX_p {τ : St} : (gBkX τ).1 0 1 = τ.1 10 2 ∧ (gBkX τ).1 0 8 = τ.1 10 3 ∧ (gBkX τ).1 0 3 = τ.1 10 4 ∧ (gBkX τ).1 0 7 = τ.1 0 7 := by
  unfold gBkX bkC
  rw [bkX_o (by decide) 6 (by omega)]
  refine ⟨?_, ?_, ?_, ?_⟩
  · rw [upS_2 (by decide), upS_2 (by decide), upS_1]
  · rw [upS_2 (by decide), upS_1]
  · rw [upS_1]
  · rw [upS_2 (by decide), upS_2 (by decide), upS_2 (by decide), upA_3 (by decide)]
theorem gBkX_c {τ : St} {t : Nat} (ht : t < 30) : (gBkX τ).1 1 t = τ.1 13 t := by
  unfold gBkX bkC
  rw [bkX_o (by decide) 6 (by omega), upS_3 (by decide), upS_3 (by decide), upS_3 (by decide), upA_1]
  unfold va_cpy
  rw [if_pos (by omega), Nat.sub_zero, Nat.zero_add]
theorem gBkX_u {τ : St} {u : Nat} (hu : u < 6) : (gBkX τ).1 (u + 20) 0 = τ.1 (u + 20) 0 ∧ (gBkX τ).1 (u + 20) 1 = τ.1 14 u ∧ (gBkX τ).1 (u + 20) 2 = τ.1 15 u := by
  unfold gBkX bkC
  obtain ⟨a, b⟩ := bkX_k (τ := upS (upS (upS (upA τ 1 (va_cpy (τ.1 13) (τ.1 1) 0 0 30)) 0 1 (τ.1 10 2)) 0 8 (τ.1 10 3)) 0 3 (τ.1 10 4)) 6 u (by omega)
  obtain ⟨b1', b2'⟩ := b hu
  rw [a, b1', b2']
  refine ⟨?_, ?_, ?_⟩ <;> rw [upS_3 (by omega), upS_3 (by omega), upS_3 (by omega), upA_3 (by omega)]
theorem gB_0 {a : St} (h : ¬ a.1 0 35 = -1) : (∀ k, k ≠ 4 → k ≠ 7 → k ≠ 11 → (gBack a).1 0 k = a.1 0 k) ∧ (gBack a).1 0 11 = a.1 0 35 ∧ (gBack a).1 0 7 = a.1 0 36 ∧ (gBack a).1 0 4 = a.1 0 37 ∧ (∀ o, o ≠ 0 → o ≠ 4 → o ≠ 6 → (gBack a).1 o = a.1 o) ∧ (∀ t, t < 30 → (gBack a).1 4 t = a.1 10 t) ∧ (∀ k, k < 12 → (gBack a).1 6 k = a.1 11 k) := by
  unfold gBack
  rw [if_neg h]
  refine ⟨fun k h4 h7 h11 => ?_, ?_, ?_, ?_, fun o h0 h4 h6 => ?_, fun t ht => ?_, fun k hk => ?_⟩
  · rw [upS_2 h4, upS_2 h7, upS_2 h11, cpG_o (by decide), cpG_o (by decide)]
  · rw [upS_2 (by decide), upS_2 (by decide), upS_1]
  · rw [upS_2 (by decide), upS_1]
  · rw [upS_1]
  · rw [upS_3 h0, upS_3 h0, upS_3 h0, cpG_o h6, cpG_o h4]
  · rw [upS_3 (by decide), upS_3 (by decide), upS_3 (by decide), cpG_o (by decide), cpG_1, if_pos ht]
  · rw [upS_3 (by decide), upS_3 (by decide), upS_3 (by decide), cpG_1, if_pos hk, cpG_o (by decide)]
theorem REL.bck {a b : St} {T : Nat → TC} {m c r p m' r' : Nat} (h : REL a b T m c r p) (hI : INV a T m c r p) (h35 : ¬ a.1 0 35 = -1) (em : a.1 0 35 = nI m') (er : a.1 0 37 = nI r') : REL (gBack a) (gBkX b) T m' c r' p := by
  obtain ⟨h0, ⟨h5, h6⟩, h7, h8, h9, h10, h11⟩ := h
  obtain ⟨g1, g2, g3, g4, g5, g6, g7⟩ := gB_0 h35
  obtain ⟨p1, p2, p3, p4⟩ := gBkX_p (τ := b)
  obtain ⟨k0, k2, k3, k4, kc, ku⟩ := h11.2 h35
  refine ⟨⟨?_, ?_, ?_, ?_⟩, ⟨?_, ?_⟩, fun t ht => ?_, fun u hu => ?_, ?_, ?_, ?_⟩
  · rw [p1, g3]; exact k2
  · rw [p3]; exact k4.trans em
  · rw [p4]; exact h0.2.2.1
  · rw [p2]; exact k3.trans er
  · rw [gBkX_o (by decide)]; exact h5
  · rw [gBkX_o (by decide), g5 3 (by decide) (by decide) (by decide)]; exact h6
  · rw [gBkX_c ht, g6 t ht]; exact kc t ht
  · obtain ⟨u0, u1, u2⟩ := gBkX_u (τ := b) hu
    rw [u0, u1, u2, g7 _ (by omega), g7 _ (by omega), g5 5 (by decide) (by decide) (by decide)]
    exact ⟨(h8 u hu).1, (ku u hu).1, (ku u hu).2⟩
  · exact TXX.eqs h9 (fun o h1 h2 => gBkX_o (by omega)) hI.1.2.1.2.1
  · exact h10.eq (g5 _ (by decide) (by decide) (by decide)) (g5 _ (by decide) (by decide) (by decide)) (g5 _ (by decide) (by decide) (by decide)) (g5 _ (by decide) (by decide) (by decide)) (fun s hs => ⟨gBkX_o (by omega), gBkX_o (by omega)⟩)
  · exact h11.eq (g1 _ (by decide) (by decide) (by decide)) (g1 _ (by decide) (by decide) (by decide)) (g1 _ (by decide) (by decide) (by decide)) (g5 _ (by decide) (by decide) (by decide)) (g5 _ (by decide) (by decide) (by decide)) (gBkX_o (by decide)) (gBkX_o (by decide)) (gBkX_o (by decide)) (gBkX_o (by decide))
theorem z_back {Z : LZ} {ad : Nat → Nat} {a b : St} {T : Nat → TC} {m c r p : Nat} {K : Int32 → St → Prop} (hI : INV a T m c r p) (hR : REL a b T m c r p) (hK1 : a.1 0 35 = -1 → K (fBack a) b) (hK2 : ∀ m' r', ¬ a.1 0 35 = -1 → a.1 0 35 = nI m' → a.1 0 37 = nI r' → ∀ b', REL (gBack a) b' T m' c r' p → K (fBack a) b') : CC lyX Z ad yX5_back wsX5_back (rmk 1) [.ref (ad 0)] b (rI K) := by
  have hIm := hR.2.2.2.2.2.2
  refine x_back (fun q => ?_) (fun q => ?_)
  · by_cases e : a.1 0 35 = -1
    · have h9 := hK1 e
      unfold fBack at h9
      rw [if_pos e] at h9
      exact h9
    · exact absurd q (hIm.2 e).1
  · by_cases e : a.1 0 35 = -1
    · exact absurd (hIm.1 e) q
    · obtain ⟨⟨m', hm', em⟩, ⟨r', hr', er⟩, _⟩ := hI.2.2.2.1.resolve_left e
      have h9 := hK2 m' r' e em er _ (hR.bck hI e em er)
      unfold fBack at h9
      rw [if_neg e] at h9
      exact kk (hIm.2 e).2.2.2.1 h9

