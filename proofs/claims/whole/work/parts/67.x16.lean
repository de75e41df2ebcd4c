/-! copy, film *program, both worlds kept alike* -/
set_option maxRecDepth 100000 in
set_option maxHeartbeats 4000000 in
theorem x_holds {Z : LZ} {ad : Nat → Nat} {τ : St} {K : Int32 → St → Prop} {s z : Nat} {i n : Int32} (hs : s < 4) (hz : z ≤ 40) (hsz : τ.1 (s + 44) 1 = nI z) (hK : K (b1 (0 ≤ i.toInt ∧ 0 ≤ n.toInt ∧ i.toInt + n.toInt ≤ z)) τ) : CC lyX Z ad yX2_holds wsX2_holds (rmk 0) [.ref (ad (s + 44)), .int i, .int n] τ (rI K) := by
  refine CC.of (cc := cX2_holds) (nL := 3) (ret := (some .boolean)) rfl rfl ⟨rfl, rfl⟩ (by exact Nat.le_of_ble_eq_true rfl) ?_
  intro X B
  change GG _ _ _ _ X _ 0 [some (.ref (ad (s + 44))), some (.int i), some (.int n)] [] _
  change Amb _ _ _ _ X _ _ RX2 _ _ at B
  have hzi : (nI z).toInt = z := i_n (by omega)
  have hes : 0 ≤ i.toInt ∧ i.toInt ≤ z → (nI z - i).toInt = z - i.toInt := fun q => by
    rw [i_sub] <;> rw [hzi] <;> omega
  refine g_iload_n B dX2_holds_0 rfl ?_
  refine g_if_lt (tgt := 30) B dX2_holds_1 (by decide) (fun c1 => ?_) (fun c1 => ?_)
  · refine g_iconst (v := (0)) B dX2_holds_30 (by decide) ?_
    refine g_zreti B dX2_holds_31 (by rfl) ?_
    refine kk (Eq.symm ?_) hK
    clear hK B
    first
      | (refine b1_t ?_; simp only [i_le, i_lt, i0, hzi] at *; omega)
      | (refine b1_f ?_; simp only [i_le, i_lt, i0, hzi] at *; omega)
  · refine g_iload_n B dX2_holds_4 rfl ?_
    refine g_if_lt (tgt := 30) B dX2_holds_5 (by decide) (fun c5 => ?_) (fun c5 => ?_)
    · refine g_iconst (v := (0)) B dX2_holds_30 (by decide) ?_
      refine g_zreti B dX2_holds_31 (by rfl) ?_
      refine kk (Eq.symm ?_) hK
      clear hK B
      first
        | (refine b1_t ?_; simp only [i_le, i_lt, i0, hzi] at *; omega)
        | (refine b1_f ?_; simp only [i_le, i_lt, i0, hzi] at *; omega)
    · refine g_iload_n B dX2_holds_8 rfl ?_
      refine g_aload_n B dX2_holds_9 rfl ?_
      refine g_getI (T := TX2) (N := 3) B dX2_holds_10 (hX (by omega)) (lo_s hs) (inq inlX2) rfl 1 (by decide) (mq f_X2_15) (by rfl) ?_
      rw [hsz]
      refine g_icmp_gt (tgt := 30) B dX2_holds_13 (by decide) (fun c13 => ?_) (fun c13 => ?_)
      · refine g_iconst (v := (0)) B dX2_holds_30 (by decide) ?_
        refine g_zreti B dX2_holds_31 (by rfl) ?_
        refine kk (Eq.symm ?_) hK
        clear hK B
        first
          | (refine b1_t ?_; simp only [i_le, i_lt, i0, hzi] at *; omega)
          | (refine b1_f ?_; simp only [i_le, i_lt, i0, hzi] at *; omega)
      · refine g_iload_n B dX2_holds_16 rfl ?_
        refine g_aload_n B dX2_holds_17 rfl ?_
        refine g_getI (T := TX2) (N := 3) B dX2_holds_18 (hX (by omega)) (lo_s hs) (inq inlX2) rfl 1 (by decide) (mq f_X2_15) (by rfl) ?_
        rw [hsz]
        refine g_iload_n B dX2_holds_21 rfl ?_
        refine g_isub B dX2_holds_22 ?_
        refine g_icmp_gt (tgt := 30) B dX2_holds_23 (by decide) (fun c23 => ?_) (fun c23 => ?_)
        · refine g_iconst (v := (0)) B dX2_holds_30 (by decide) ?_
          refine g_zreti B dX2_holds_31 (by rfl) ?_
          refine kk (Eq.symm ?_) hK
          clear hK B
          first
            | (refine b1_t ?_; simp only [i_le, i_lt, i0, hzi] at *; omega)
            | (refine b1_f ?_; simp only [i_le, i_lt, i0, hzi] at *; omega)
        · refine g_iconst (v := (1)) B dX2_holds_26 (by decide) ?_
          refine g_goto (tgt := 31) B dX2_holds_27 (by decide) ?_
          refine g_zreti B dX2_holds_31 (by rfl) ?_
          refine kk (Eq.symm ?_) hK
          clear hK B
          first
            | (refine b1_t ?_; simp only [i_le, i_lt, i0, hzi] at *; omega)
            | (refine b1_f ?_; simp only [i_le, i_lt, i0, hzi] at *; omega)
theorem REL.cpy {a b : St} {T : Nat → TC} {m c r p s o i j n zs zo : Nat} (h : REL a b T m c r p) (hI : INV a T m c r p) (hs : s < 4) (ho : o < 4) (h1 : ¬ a.1 12 s = 0) (h2 : ¬ a.1 12 o = 0) (ezs : a.1 14 s = nI zs) (ezo : a.1 14 o = nI zo) (hzs : zs ≤ 40) (hzo : zo ≤ 40) (hi : i + n ≤ zs) (hj : j + n ≤ zo) : REL (upA a 15 (cpA (a.1 15) (40 * s + i) (40 * o + j) 0 n)) (upA b (o + 48) (va_cpy (b.1 (s + 48)) (b.1 (o + 48)) i j n)) T m c r p := by
  refine h.sht hI.1.2.1.2.1 (fun q hq => upA_3 (by omega)) (fun q hq => upA_3 (by omega)) (h.2.2.2.2.2.1.one (s := o) hI.2.2.2.2 (fun q hq hne => ⟨by rw [upA_3 (by decide)], by rw [upA_3 (by decide)], by rw [upA_3 (by decide)], fun k hk => ?_⟩) (fun q hq hne => ⟨upA_3 (by omega), upA_3 (by omega)⟩) ?_)
  · rw [upA_1]
    unfold cpA
    rw [if_neg (by omega)]
  · rw [upA_3 (show (12 : Nat) ≠ 15 by decide), upA_3 (show (13 : Nat) ≠ 15 by decide), upA_3 (show (14 : Nat) ≠ 15 by decide), upA_3 (show o + 44 ≠ o + 48 by omega)]
    obtain ⟨k1, k2⟩ := h.2.2.2.2.2.1 o ho
    refine ⟨k1, fun z => ?_⟩
    obtain ⟨x1, x2, x3⟩ := k2 z
    obtain ⟨y1, y2, y3⟩ := (h.2.2.2.2.2.1 s hs).2 h1
    rw [ezs, i_cl (by omega)] at y3
    rw [ezo, i_cl (by omega)] at x3
    refine ⟨x1, x2, fun k hk => ?_⟩
    rw [ezo, i_cl (by omega)] at hk
    rw [upA_1, upA_1]
    unfold cpA va_cpy
    by_cases q : j ≤ k ∧ k < j + n
    · rw [if_pos q, if_pos (by omega), y3 _ (by omega)]
      rw [show 40 * o + k - (40 * o + j) = k - j by omega, Nat.add_assoc]
    · rw [if_neg q, if_neg (by omega), x3 k hk]
set_option maxRecDepth 100000 in
set_option maxHeartbeats 4000000 in
theorem z_copy {Z : LZ} {ad : Nat → Nat} {a b : St} {T : Nat → TC} {m c r p : Nat} {K : Int32 → St → Prop} {x i y j n : Int32} (hI : INV a T m c r p) (hR : REL a b T m c r p) (hK : ∀ b', REL (gCopy a x i y j n) b' T m c r p → K (fCopy a x i y j n) b') : CC lyX Z ad yX5_copy wsX5_copy (rmk 2) [.ref (ad 0), .int x, .int i, .int y, .int j, .int n] b (rI K) := by
  refine CC.of (cc := cX5_copy) (nL := 8) (ret := (some .int)) rfl rfl ⟨rfl, rfl⟩ (by exact Nat.le_of_ble_eq_true rfl) ?_
  intro X B
  change GG _ _ _ _ X _ 0 [some (.ref (ad 0)), some (.int x), some (.int i), some (.int y), some (.int j), some (.int n), none, none] [] _
  change Amb _ _ _ _ X _ _ RX5 _ _ at B
  have hSh := hR.2.2.2.2.2.1
  have hS := hI.2.2.2.2
  unfold gCopy fCopy at hK
  refine g_iload_n B dX5_copy_0 rfl ?_
  refine g_callSi (As := [.int _]) B dX5_copy_1 (gc1 g_X5_249) (by rfl) hd_X5_isSheet (by exact ⟨Nat.le_of_ble_eq_true rfl, Nat.le_of_ble_eq_true rfl⟩) ⟨rfl, rfl⟩ rfl rfl (by exact Nat.le_of_ble_eq_true rfl) (x_isSheet ?_)
  refine g_if_eq (tgt := 14) B dX5_copy_4 (by decide) (fun c4 => ?_) (fun c4 => ?_)
  · have hp : ¬ (isSh x ∧ isSh y) := fun q => by
      first
      | exact b1_0.mp c11 q.2
      | exact b1_0.mp c4 q.1
    rw [if_neg hp, if_neg hp] at hK
    refine g_bipush (v := (-2)) B dX5_copy_14 (by decide) ?_
    refine g_ireti B dX5_copy_16 ?_
    exact hK _ hR
  · refine g_iload_n B dX5_copy_7 rfl ?_
    refine g_callSi (As := [.int _]) B dX5_copy_8 (gc1 g_X5_249) (by rfl) hd_X5_isSheet (by exact ⟨Nat.le_of_ble_eq_true rfl, Nat.le_of_ble_eq_true rfl⟩) ⟨rfl, rfl⟩ rfl rfl (by exact Nat.le_of_ble_eq_true rfl) (x_isSheet ?_)
    refine g_if_ne (tgt := 17) B dX5_copy_11 (by decide) (fun c11 => ?_) (fun c11 => ?_)
    · have h1 := b1_n0.mp c4
      have h2 := b1_n0.mp c11
      have h12 : isSh x ∧ isSh y := ⟨h1, h2⟩
      rw [if_pos h12, if_pos h12] at hK
      obtain ⟨s, hs, rfl⟩ := i_nat (n := 4) h1.1 (by omega)
      obtain ⟨o, ho, rfl⟩ := i_nat (n := 4) h2.1 (by omega)
      have hcs : (nI s).toNatClampNeg = s := i_cl (by omega)
      have hco : (nI o).toNatClampNeg = o := i_cl (by omega)
      unfold cpyP at hK
      rw [hcs, hco] at hK
      refine g_aload_n B dX5_copy_17 rfl ?_
      refine g_getR (T := TX5) (N := 16) B dX5_copy_18 (by decide) (by rfl) (inq inlX5) rfl 9 (by decide) (mq f_X5_52) (by rfl) ?_
      refine g_iload_n B dX5_copy_21 rfl ?_
      refine g_aald B dX5_copy_22 (by decide) (by rfl) (by exact vp_in_nI hs (by omega)) ?_
      rw [hcs]
      refine g_astore B dX5_copy_23 (by decide) rfl ?_
      refine g_aload_n B dX5_copy_25 rfl ?_
      refine g_getR (T := TX5) (N := 16) B dX5_copy_26 (by decide) (by rfl) (inq inlX5) rfl 9 (by decide) (mq f_X5_52) (by rfl) ?_
      refine g_iload_n B dX5_copy_29 rfl ?_
      refine g_aald B dX5_copy_30 (by decide) (by rfl) (by exact vp_in_nI ho (by omega)) ?_
      rw [hco]
      refine g_astore B dX5_copy_31 (by decide) rfl ?_
      refine g_aload B dX5_copy_33 rfl ?_
      refine g_callVi (C := RX2) (As := []) B dX5_copy_35 (gc1 g_X5_252) (by rfl) ⟨rfl, hd_X2_isMissing⟩ (by exact ⟨Nat.le_of_ble_eq_true rfl, Nat.le_of_ble_eq_true rfl⟩) ⟨rfl, rfl⟩ rfl rfl (by exact Nat.le_of_ble_eq_true rfl) (recv2 hs) (x_miss hs ?_)
      refine g_if_ne (tgt := 49) B dX5_copy_38 (by decide) (fun c38 => ?_) (fun c38 => ?_)
      · have h3 : a.1 12 s = 0 ∨ a.1 12 o = 0 := by
          first
          | exact Or.inr ((sh_ge hSh hS ho).mp (b1_n0.mp c46))
          | exact Or.inl ((sh_ge hSh hS hs).mp (b1_n0.mp c38))
        rw [if_pos h3, if_pos h3] at hK
        refine g_bipush (v := (-11)) B dX5_copy_49 (by decide) ?_
        refine g_ireti B dX5_copy_51 ?_
        exact hK _ hR
      · refine g_aload B dX5_copy_41 rfl ?_
        refine g_callVi (C := RX2) (As := []) B dX5_copy_43 (gc1 g_X5_252) (by rfl) ⟨rfl, hd_X2_isMissing⟩ (by exact ⟨Nat.le_of_ble_eq_true rfl, Nat.le_of_ble_eq_true rfl⟩) ⟨rfl, rfl⟩ rfl rfl (by exact Nat.le_of_ble_eq_true rfl) (recv2 ho) (x_miss ho ?_)
        refine g_if_eq (tgt := 52) B dX5_copy_46 (by decide) (fun c46 => ?_) (fun c46 => ?_)
        · have hes : ¬ a.1 12 s = 0 := fun q => b1_0.mp c38 ((sh_ge hSh hS hs).mpr q)
          have heo : ¬ a.1 12 o = 0 := fun q => b1_0.mp c46 ((sh_ge hSh hS ho).mpr q)
          have h3 : ¬ (a.1 12 s = 0 ∨ a.1 12 o = 0) := fun q => q.elim hes heo
          rw [if_neg h3, if_neg h3] at hK
          obtain ⟨x1, x2, x3⟩ := (hSh s hs).2 hes
          obtain ⟨y1, y2, y3⟩ := (hSh o ho).2 heo
          obtain ⟨zs, hzs, ezs⟩ := (hS s hs hes).1
          obtain ⟨zo, hzo, ezo⟩ := (hS o ho heo).1
          refine g_aload B dX5_copy_52 rfl ?_
          refine g_getI (T := TX2) (N := 3) B dX5_copy_54 (hX (by omega)) (lo_s hs) (inq inlX2) rfl 0 (by decide) (mq f_X5_314) (by rfl) ?_
          refine g_aload B dX5_copy_57 rfl ?_
          refine g_getI (T := TX2) (N := 3) B dX5_copy_59 (hX (by omega)) (lo_s ho) (inq inlX2) rfl 0 (by decide) (mq f_X5_314) (by rfl) ?_
          rw [x1, y1]
          refine g_icmp_eq (tgt := 68) B dX5_copy_62 (by decide) (fun c62 => ?_) (fun c62 => ?_)
          · have h4 : ¬ ¬ a.1 13 s = a.1 13 o := fun q => q c62
            rw [if_neg h4, if_neg h4, ezs, ezo, i_n (by omega), i_n (by omega)] at hK
            refine g_aload B dX5_copy_68 rfl ?_
            refine g_iload_n B dX5_copy_70 rfl ?_
            refine g_iload B dX5_copy_71 rfl ?_
            refine g_callVi (C := RX2) (As := [.int _, .int _]) B dX5_copy_73 (gc1 g_X5_317) (by rfl) ⟨rfl, hd_X2_holds⟩ (by exact ⟨Nat.le_of_ble_eq_true rfl, Nat.le_of_ble_eq_true rfl⟩) ⟨rfl, rfl⟩ rfl rfl (by exact Nat.le_of_ble_eq_true rfl) (recv2 hs) (x_holds hs hzs (x2.trans ezs) ?_)
            refine g_if_eq (tgt := 91) B dX5_copy_76 (by decide) (fun c76 => ?_) (fun c76 => ?_)
            · have h5 : ¬ (0 ≤ n.toInt ∧ 0 ≤ i.toInt ∧ 0 ≤ j.toInt ∧ i.toInt + n.toInt ≤ zs ∧ j.toInt + n.toInt ≤ zo) := fun q => by
                first
                | exact b1_0.mp c88 ⟨q.2.2.1, q.1, q.2.2.2.2⟩
                | exact b1_0.mp c76 ⟨q.2.1, q.1, q.2.2.2.1⟩
              rw [if_neg h5, if_neg h5] at hK
              refine g_bipush (v := (-12)) B dX5_copy_91 (by decide) ?_
              refine g_ireti B dX5_copy_93 ?_
              exact hK _ hR
            · refine g_aload B dX5_copy_79 rfl ?_
              refine g_iload B dX5_copy_81 rfl ?_
              refine g_iload B dX5_copy_83 rfl ?_
              refine g_callVi (C := RX2) (As := [.int _, .int _]) B dX5_copy_85 (gc1 g_X5_317) (by rfl) ⟨rfl, hd_X2_holds⟩ (by exact ⟨Nat.le_of_ble_eq_true rfl, Nat.le_of_ble_eq_true rfl⟩) ⟨rfl, rfl⟩ rfl rfl (by exact Nat.le_of_ble_eq_true rfl) (recv2 ho) (x_holds ho hzo (y2.trans ezo) ?_)
              refine g_if_ne (tgt := 94) B dX5_copy_88 (by decide) (fun c88 => ?_) (fun c88 => ?_)
              · have q1 := b1_n0.mp c76
                have q2 := b1_n0.mp c88
                have h5 : 0 ≤ n.toInt ∧ 0 ≤ i.toInt ∧ 0 ≤ j.toInt ∧ i.toInt + n.toInt ≤ zs ∧ j.toInt + n.toInt ≤ zo := ⟨q1.2.1, q1.1, q2.1, q1.2.2, q2.2.2⟩
                rw [if_pos h5, if_pos h5] at hK
                obtain ⟨I, hI1, rfl⟩ := i_nat (x := i) (n := 41) q1.1 (by omega)
                obtain ⟨N, hN1, rfl⟩ := i_nat (x := n) (n := 41) q1.2.1 (by omega)
                obtain ⟨J, hJ1, rfl⟩ := i_nat (x := j) (n := 41) q2.1 (by omega)
                rw [i_n (by omega), i_n (by omega)] at q1 q2
                have cI : (nI I).toNatClampNeg = I := i_cl (by omega)
                have cN : (nI N).toNatClampNeg = N := i_cl (by omega)
                have cJ : (nI J).toNatClampNeg = J := i_cl (by omega)
                have nn : ∀ {k : Nat}, k < 41 → ¬ nI k < 0 := fun hk => by
                  rw [i_lt, i_n (by omega), i0]
                  omega
                rw [cI, cN, cJ] at hK
                refine g_aload B dX5_copy_94 rfl ?_
                refine g_getR (T := TX2) (N := 3) B dX5_copy_96 (hX (by omega)) (lo_s hs) (inq inlX2) rfl 2 (by decide) (mq f_X5_272) (by rfl) ?_
                refine g_iload_n B dX5_copy_99 rfl ?_
                refine g_aload B dX5_copy_100 rfl ?_
                refine g_getR (T := TX2) (N := 3) B dX5_copy_102 (hX (by omega)) (lo_s ho) (inq inlX2) rfl 2 (by decide) (mq f_X5_272) (by rfl) ?_
                refine g_iload B dX5_copy_105 rfl ?_
                refine g_iload B dX5_copy_107 rfl ?_
                refine g_copyi B dX5_copy_109 ⟨mq m_X5_290.1, mq m_X5_290.2.1, mq m_X5_290.2.2.1, mq m_X5_290.2.2.2⟩ (hX (by omega)) (lo_i hs) (hX (by omega)) (lo_i ho) (nn hI1) (nn hJ1) (nn hN1) (by rw [cI, cN]; omega) (by rw [cJ, cN]; omega) (by exact ⟨Nat.le_of_ble_eq_true rfl, Nat.le_of_ble_eq_true rfl⟩) ?_
                rw [cI, cN, cJ]
                refine g_iload B dX5_copy_112 rfl ?_
                refine g_ireti B dX5_copy_114 ?_
                exact hK _ (hR.cpy hI hs ho hes heo ezs ezo hzs hzo (by omega) (by omega))
              · have h5 : ¬ (0 ≤ n.toInt ∧ 0 ≤ i.toInt ∧ 0 ≤ j.toInt ∧ i.toInt + n.toInt ≤ zs ∧ j.toInt + n.toInt ≤ zo) := fun q => by
                  first
                  | exact b1_0.mp c88 ⟨q.2.2.1, q.1, q.2.2.2.2⟩
                  | exact b1_0.mp c76 ⟨q.2.1, q.1, q.2.2.2.1⟩
                rw [if_neg h5, if_neg h5] at hK
                refine g_bipush (v := (-12)) B dX5_copy_91 (by decide) ?_
                refine g_ireti B dX5_copy_93 ?_
                exact hK _ hR
          · rw [if_pos c62, if_pos c62] at hK
            refine g_bipush (v := (-13)) B dX5_copy_65 (by decide) ?_
            refine g_ireti B dX5_copy_67 ?_
            exact hK _ hR
        · have h3 : a.1 12 s = 0 ∨ a.1 12 o = 0 := by
            first
            | exact Or.inr ((sh_ge hSh hS ho).mp (b1_n0.mp c46))
            | exact Or.inl ((sh_ge hSh hS hs).mp (b1_n0.mp c38))
          rw [if_pos h3, if_pos h3] at hK
          refine g_bipush (v := (-11)) B dX5_copy_49 (by decide) ?_
          refine g_ireti B dX5_copy_51 ?_
          exact hK _ hR
    · have hp : ¬ (isSh x ∧ isSh y) := fun q => by
        first
        | exact b1_0.mp c11 q.2
        | exact b1_0.mp c4 q.1
      rw [if_neg hp, if_neg hp] at hK
      refine g_bipush (v := (-2)) B dX5_copy_14 (by decide) ?_
      refine g_ireti B dX5_copy_16 ?_
      exact hK _ hR
theorem REL.xv2 {a a' b : St} {T : Nat → TC} {m c r p : Nat} (h : REL a' b T m c r p) (hI : INV a T m c r p) (h4 : a'.1 4 = a.1 4) (h5 : a'.1 5 = a.1 5) (h6 : a'.1 6 = a.1 6) : XV b 1 (vM a (T r)) m := by
  obtain ⟨⟨h1, h2, h3, h4'⟩, ⟨h5', h6'⟩, h7, h8, h9, h10, h11⟩ := h
  have hm := hI.1.1
  have hr := hI.1.2.2.1
  refine ⟨Or.inl rfl, ⟨r, h4', h9 r hr.1⟩, ⟨h2.trans hm.2.symm, fun t ht => ?_⟩, hm, fun u hu => ⟨?_, ?_⟩⟩
  · rw [h7 t ht, h4]; rfl
  · have := h8 u (by omega)
    rw [h5, h6] at this
    exact this
  · rw [(h8 u (by omega)).1, h5]
    exact hI.2.2.1.2.1 u (by omega)
theorem REL.item2 {a b : St} {T : Nat → TC} {m c r p s i : Nat} {v w : Int32} (h : REL a b T m c r p) (hS : shS a) (hc6 : c ≤ 6) (hs : s < 4) (hi : i < 40) (hv : v = w) : REL (upS a 15 (40 * s + i) v) (upS b (s + 48) i w) T m c r p := by
  subst hv
  refine h.sht hc6 (fun o ho => upS_3 (by omega)) (fun o ho => upS_3 (by omega)) (h.2.2.2.2.2.1.one (s := s) hS (fun q hq hne => ⟨by rw [upS_3 (by decide)], by rw [upS_3 (by decide)], by rw [upS_3 (by decide)], fun j hj => upS_2 (by omega)⟩) (fun q hq hne => ⟨upS_3 (by omega), upS_3 (by omega)⟩) ?_)
  rw [upS_3 (show (12 : Nat) ≠ 15 by decide), upS_3 (show (13 : Nat) ≠ 15 by decide), upS_3 (show (14 : Nat) ≠ 15 by decide), upS_3 (show s + 44 ≠ s + 48 by omega)]
  obtain ⟨k1, k2⟩ := h.2.2.2.2.2.1 s hs
  refine ⟨k1, fun z => ?_⟩
  obtain ⟨x1, x2, x3⟩ := k2 z
  refine ⟨x1, x2, fun j hj => ?_⟩
  by_cases e : j = i
  · subst e; rw [upS_1, upS_1]
  · rw [upS_2 e, upS_2 (by omega)]
    exact x3 j hj
theorem flT_A {a : St} {s n : Nat} {f : Nat → Int32} {o : Nat} (h : o ≠ 12 ∧ o ≠ 13 ∧ o ≠ 14 ∧ o ≠ 15) (i : Nat) : (flT (zrT (gShe0 a s 1 1 (nI n)) s n) s f i).1 o = a.1 o := by
  rw [flT_o (by omega), zrT_o (by omega), gS0_o (by omega)]
theorem flT_S {a : St} {s n : Nat} {f : Nat → Int32} (i : Nat) : (flT (zrT (gShe0 a s 1 1 (nI n)) s n) s f i).1 12 s = 1 ∧ (flT (zrT (gShe0 a s 1 1 (nI n)) s n) s f i).1 13 s = 1 ∧ (flT (zrT (gShe0 a s 1 1 (nI n)) s n) s f i).1 14 s = nI n := by
  refine ⟨?_, ?_, ?_⟩ <;> rw [flT_o (by decide), zrT_o (by decide)]
  · exact gS0_s.1
  · exact gS0_s.2.1
  · exact gS0_s.2.2
set_option maxRecDepth 100000 in
set_option maxHeartbeats 4000000 in
theorem lz_film {Z : LZ} {ad : Nat → Nat} {X : CX} {a : St} {T : Nat → TC} {m c r p s u n : Nat} {K : Int32 → St → Prop} (B : Amb lyX Z ad (rmk 3) X cX5_film wsX5_film RX5 6 (some .int)) (hI : INV a T m c r p) (hs : s < 4) (hu : u < m) (hn : n ≤ 30) (hSA : shS (zrT (gShe0 a s 1 1 (nI n)) s n)) (hK : ∀ b', REL (flT (zrT (gShe0 a s 1 1 (nI n)) s n) s (hsV (vM a (T r)) (a.1 0 7) u) n) b' T m c r p → K (nI n) b') : ∀ (k i : Nat) (b : St), i + k = n → REL (flT (zrT (gShe0 a s 1 1 (nI n)) s n) s (hsV (vM a (T r)) (a.1 0 7) u) i) b T m c r p → GG lyX Z ad (rmk 3) X (rI K) 45 [some (.ref (ad 0)), some (.int (nI s)), some (.int (nI u)), some (.int (nI n)), some (.int (sR0 (a.1 0 7) i)), some (.int (nI i))] [] b := by
  intro k
  induction k using Nat.strongRecOn with
  | ind k ih =>
    intro i b h1 hR
    have hm6 := hI.1.1.1
    have hc6 := hI.1.2.1.2.1
    have hsh : b.1 0 1 = a.1 0 7 := by rw [hR.1.1, flT_A (by decide)]
    have hX := hR.xv2 hI (flT_A (by decide) i) (flT_A (by decide) i) (flT_A (by decide) i)
    have hU : UO (u + 20) := UO.u (by omega)
    have hcs : (nI s).toNatClampNeg = s := i_cl (by omega)
    have hcu : (nI u).toNatClampNeg = u := i_cl (by omega)
    obtain ⟨f1, f2, f3⟩ := flT_S (a := a) (s := s) (n := n) (f := hsV (vM a (T r)) (a.1 0 7) u) i
    refine g_iload B dX5_film_45 rfl ?_
    refine g_iload_n B dX5_film_47 rfl ?_
    refine g_icmp_ge (tgt := 116) B dX5_film_48 (by decide) (fun c48 => ?_) (fun c48 => ?_)
    · refine g_iload_n B dX5_film_116 rfl ?_
      refine g_ireti B dX5_film_117 ?_
      rw [nI_leI (by omega) (by omega)] at c48
      have e : i = n := by omega
      subst e
      exact hK b hR
    · rw [nI_leI (by omega) (by omega)] at c48
      obtain ⟨t, ht, hT⟩ := hX.2.1
      have hx := hX.2.2.2.2 u hu
      refine g_aload_n B dX5_film_51 rfl ?_
      refine g_getI (T := TX5) (N := 16) B dX5_film_52 (by decide) (by rfl) (inq inlX5) rfl 1 (by decide) (mq f_X5_13) (by rfl) ?_
      rw [hsh]
      refine g_iload B dX5_film_55 rfl ?_
      refine g_iload B dX5_film_57 rfl ?_
      refine g_callSi (As := [.int _, .int _, .int _]) B dX5_film_59 (gc1 g_X5_185) (by rfl) hd_X5_runBehind (by exact ⟨Nat.le_of_ble_eq_true rfl, Nat.le_of_ble_eq_true rfl⟩) ⟨rfl, rfl⟩ rfl rfl (by exact Nat.le_of_ble_eq_true rfl) (x_runBehind (t := i) rfl (by omega) rfl ?_)
      refine g_istore B dX5_film_62 (by decide) rfl ?_
      refine g_aload_n B dX5_film_64 rfl ?_
      refine g_getR (T := TX5) (N := 16) B dX5_film_65 (by decide) (by rfl) (inq inlX5) rfl 9 (by decide) (mq f_X5_52) (by rfl) ?_
      refine g_iload_n B dX5_film_68 rfl ?_
      refine g_aald B dX5_film_69 (by decide) (by rfl) (by exact vp_in_nI hs (by omega)) ?_
      rw [hcs]
      refine g_iload B dX5_film_70 rfl ?_
      refine g_aload_n B dX5_film_72 rfl ?_
      refine g_aload_n B dX5_film_73 rfl ?_
      refine g_getR (T := TX5) (N := 16) B dX5_film_74 (by decide) (by rfl) (inq inlX5) rfl 2 (by decide) (mq f_X5_19) (by rfl) ?_
      refine g_iload_n B dX5_film_77 rfl ?_
      refine g_aald B dX5_film_78 (by decide) (by rfl) (by exact vp_in_nI (by omega) (by omega)) ?_
      rw [hcu]
      refine g_aload_n B dX5_film_79 rfl ?_
      refine g_aload_n B dX5_film_80 rfl ?_
      refine g_getI (T := TX5) (N := 16) B dX5_film_81 (by decide) (by rfl) (inq inlX5) rfl 8 (by decide) (mq f_X5_47) (by rfl) ?_
      refine g_callVr (C := RX5) (As := [.int _]) B dX5_film_84 (gc1 g_X5_150) (by rfl) ⟨rfl, hd_X5_textAt⟩ (by exact ⟨Nat.le_of_ble_eq_true rfl, Nat.le_of_ble_eq_true rfl⟩) ⟨rfl, rfl⟩ rfl rfl (by exact Nat.le_of_ble_eq_true rfl) recv5 (x_textAt ht hT.1 ?_)
      refine g_aload_n B dX5_film_87 rfl ?_
      refine g_getR (T := TX5) (N := 16) B dX5_film_88 (by decide) (by rfl) (inq inlX5) rfl 0 (by decide) (mq f_X5_9) (by rfl) ?_
      refine g_iload B dX5_film_91 rfl ?_
      refine g_aload_n B dX5_film_93 rfl ?_
      refine g_getI (T := TX5) (N := 16) B dX5_film_94 (by decide) (by rfl) (inq inlX5) rfl 1 (by decide) (mq f_X5_13) (by rfl) ?_
      rw [hsh]
      refine g_iload B dX5_film_97 rfl ?_
      refine g_callSi (As := [.int _, .int _]) B dX5_film_99 (gc1 g_X5_130) (by rfl) hd_X5_townOf (by exact ⟨Nat.le_of_ble_eq_true rfl, Nat.le_of_ble_eq_true rfl⟩) ⟨rfl, rfl⟩ rfl rfl (by exact Nat.le_of_ble_eq_true rfl) (x_townOf (t := i) rfl (by omega) ?_)
      refine g_iload B dX5_film_102 rfl ?_
      refine g_callVi (C := RX5) (As := [.ref _, .ref _, .ref _, .int _, .int _, .int _]) B dX5_film_104 (gc1 g_X5_154) (by rfl) ⟨rfl, hd_X5_hasAt⟩ (by exact ⟨Nat.le_of_ble_eq_true rfl, Nat.le_of_ble_eq_true rfl⟩) ⟨rfl, rfl⟩ rfl rfl (by exact Nat.le_of_ble_eq_true rfl) recv5 (x_hasAt (t := i) hU hT hX.1 rfl (by omega) hx.2 (fun τ1 p1 => ?_))
      rw [hX.2.2.1.1, hX.2.2.1.2 i (by omega), hx.1.1, hx.1.2.1, hx.1.2.2]
      have hR1 := hR.x p1 okD23 okK0 hc6
      obtain ⟨x1, x2, x3⟩ := (hR1.2.2.2.2.2.1 s hs).2 (by rw [f1]; decide)
      rw [f2] at x1
      rw [f3] at x2
      refine g_callVv (C := RX2) (As := [.int _, .int _]) B dX5_film_107 (gc1 g_X5_277) (by rfl) ⟨rfl, hd_X2_put⟩ (by exact ⟨Nat.le_of_ble_eq_true rfl, Nat.le_of_ble_eq_true rfl⟩) ⟨rfl, rfl⟩ rfl rfl (by exact Nat.le_of_ble_eq_true rfl) (recv2 hs) (x_put (i := i) (n := n) hs rfl (by omega) (by omega) x2 ?_)
      refine g_iinc (c9 := (1)) B dX5_film_110 rfl (by decide) (by decide) rfl ?_
      refine g_goto (tgt := 45) B dX5_film_113 (by decide) ?_
      rw [nI_1 i]
      refine ih (k - 1) (by omega) (i + 1) _ (by omega) ?_
      have hbd := hsV_bd (sh := a.1 0 7) (u := u) (t := i) hI.vok hu (by omega)
      exact hR1.item2 (shS.eq hSA (flT_o (by decide) i) (flT_o (by decide) i) (flT_o (by decide) i)) hc6 hs (by omega) (cstX_id hbd x1).symm
set_option maxRecDepth 100000 in
set_option maxHeartbeats 4000000 in
theorem z_film {Z : LZ} {ad : Nat → Nat} {a b : St} {T : Nat → TC} {m c r p : Nat} {K : Int32 → St → Prop} {x y z : Int32} {aK aV : Nat → Nat} {tb fm : Nat} (hE : SI Z aK aV tb fm) (hI : INV a T m c r p) (hR : REL a b T m c r p) (hK : ∀ b', REL (gFilm a (vM a (T r)) m x y z) b' T m c r p → K (fFilm m x y z) b') : CC lyX Z ad yX5_film wsX5_film (rmk 3) [.ref (ad 0), .int x, .int y, .int z] b (rI K) := by
  refine CC.of (cc := cX5_film) (nL := 6) (ret := (some .int)) rfl rfl ⟨rfl, rfl⟩ (by exact Nat.le_of_ble_eq_true rfl) ?_
  intro X B
  change GG _ _ _ _ X _ 0 [some (.ref (ad 0)), some (.int x), some (.int y), some (.int z), none, none] [] _
  change Amb _ _ _ _ X _ _ RX5 _ _ at B
  have hm6 := hI.1.1.1
  unfold gFilm fFilm at hK
  refine g_iload_n B dX5_film_0 rfl ?_
  refine g_callSi (As := [.int _]) B dX5_film_1 (gc1 g_X5_249) (by rfl) hd_X5_isSheet (by exact ⟨Nat.le_of_ble_eq_true rfl, Nat.le_of_ble_eq_true rfl⟩) ⟨rfl, rfl⟩ rfl rfl (by exact Nat.le_of_ble_eq_true rfl) (x_isSheet ?_)
  refine g_if_eq (tgt := 25) B dX5_film_4 (by decide) (fun c4 => ?_) (fun c4 => ?_)
  · have hp : ¬ flmP m x y z := fun q => by
      first
      | exact c22 (i_le.mpr q.2.2.2)
      | exact absurd (i_lt.mp c16) (by have := q.2.2.1; rw [i0]; omega)
      | exact b1_0.mp c12 q.2.1
      | exact b1_0.mp c4 q.1
    rw [if_neg hp, if_neg hp] at hK
    refine g_bipush (v := (-2)) B dX5_film_25 (by decide) ?_
    refine g_ireti B dX5_film_27 ?_
    exact hK _ hR
  · refine g_aload_n B dX5_film_7 rfl ?_
    refine g_iload_n B dX5_film_8 rfl ?_
    refine g_callVi (C := RX5) (As := [.int _]) B dX5_film_9 (gc1 g_X5_105) (by rfl) ⟨rfl, hd_X5_isUser⟩ (by exact ⟨Nat.le_of_ble_eq_true rfl, Nat.le_of_ble_eq_true rfl⟩) ⟨rfl, rfl⟩ rfl rfl (by exact Nat.le_of_ble_eq_true rfl) recv5 (x_isUser hm6 hR.1.2.1 ?_)
    refine g_if_eq (tgt := 25) B dX5_film_12 (by decide) (fun c12 => ?_) (fun c12 => ?_)
    · have hp : ¬ flmP m x y z := fun q => by
        first
        | exact c22 (i_le.mpr q.2.2.2)
        | exact absurd (i_lt.mp c16) (by have := q.2.2.1; rw [i0]; omega)
        | exact b1_0.mp c12 q.2.1
        | exact b1_0.mp c4 q.1
      rw [if_neg hp, if_neg hp] at hK
      refine g_bipush (v := (-2)) B dX5_film_25 (by decide) ?_
      refine g_ireti B dX5_film_27 ?_
      exact hK _ hR
    · refine g_iload_n B dX5_film_15 rfl ?_
      refine g_if_lt (tgt := 25) B dX5_film_16 (by decide) (fun c16 => ?_) (fun c16 => ?_)
      · have hp : ¬ flmP m x y z := fun q => by
          first
          | exact c22 (i_le.mpr q.2.2.2)
          | exact absurd (i_lt.mp c16) (by have := q.2.2.1; rw [i0]; omega)
          | exact b1_0.mp c12 q.2.1
          | exact b1_0.mp c4 q.1
        rw [if_neg hp, if_neg hp] at hK
        refine g_bipush (v := (-2)) B dX5_film_25 (by decide) ?_
        refine g_ireti B dX5_film_27 ?_
        exact hK _ hR
      · refine g_iload_n B dX5_film_19 rfl ?_
        refine g_bipush (v := (30)) B dX5_film_20 (by decide) ?_
        refine g_icmp_le (tgt := 28) B dX5_film_22 (by decide) (fun c22 => ?_) (fun c22 => ?_)
        · have h1 := b1_n0.mp c4
          have h2 := b1_n0.mp c12
          have hp : flmP m x y z := ⟨h1, h2, i_le.mp (Int32.not_lt.mp c16), i_le.mp c22⟩
          have h3 := hp.2.2
          rw [if_pos hp, if_pos hp] at hK
          obtain ⟨s, hs, rfl⟩ := i_nat (n := 4) h1.1 (by omega)
          obtain ⟨u, hu, rfl⟩ := i_nat h2.1 h2.2
          obtain ⟨n, hn, rfl⟩ := i_nat (n := 31) h3.1 (by omega)
          rw [i_cl (by omega), i_cl (by omega), i_cl (by omega)] at hK
          have hg : gSheet a (nI s) 1 (nI n) = zrT (gShe0 a s 1 1 (nI n)) s n := by
            unfold gSheet
            rw [if_pos ⟨h1, by decide, Or.inr (by rw [i_le, i_n (by omega), show (40 : Int32).toInt = 40 from rfl]; omega)⟩, if_neg (fun q => absurd (i_lt.mp q.2) (by rw [i_n (by omega), i0]; omega)), if_neg (by decide), i_cl (by omega), i_cl (by omega)]
          rw [hg] at hK
          have hSA : shS (zrT (gShe0 a s 1 1 (nI n)) s n) := by rw [← hg]; exact (INV_sheet hI).2.2.2.2
          refine g_aload_n B dX5_film_28 rfl ?_
          refine g_getR (T := TX5) (N := 16) B dX5_film_29 (by decide) (by rfl) (inq inlX5) rfl 9 (by decide) (mq f_X5_52) (by rfl) ?_
          refine g_iload_n B dX5_film_32 rfl ?_
          refine g_aald B dX5_film_33 (by decide) (by rfl) (by exact vp_in_nI hs (by omega)) ?_
          rw [i_cl (show s < 2147483648 by omega)]
          refine g_iconst (v := (1)) B dX5_film_34 (by decide) ?_
          refine g_iload_n B dX5_film_35 rfl ?_
          refine g_callVv (C := RX2) (As := [.int _, .int _]) B dX5_film_36 (gc1 g_X5_275) (by rfl) ⟨rfl, hd_X2_become⟩ (by exact ⟨Nat.le_of_ble_eq_true rfl, Nat.le_of_ble_eq_true rfl⟩) ⟨rfl, rfl⟩ rfl rfl (by exact Nat.le_of_ble_eq_true rfl) (recv2 hs) (x_bec (n := n) hE hs rfl (by omega) ?_)
          refine g_iconst (v := (0)) B dX5_film_39 (by decide) ?_
          refine g_istore B dX5_film_40 (by decide) rfl ?_
          refine g_iconst (v := (0)) B dX5_film_42 (by decide) ?_
          refine g_istore B dX5_film_43 (by decide) rfl ?_
          exact lz_film B hI hs hu (by omega) hSA hK n 0 _ (by omega) (hR.anew hI hs (by omega))
        · have hp : ¬ flmP m x y z := fun q => by
            first
            | exact c22 (i_le.mpr q.2.2.2)
            | exact absurd (i_lt.mp c16) (by have := q.2.2.1; rw [i0]; omega)
            | exact b1_0.mp c12 q.2.1
            | exact b1_0.mp c4 q.1
          rw [if_neg hp, if_neg hp] at hK
          refine g_bipush (v := (-2)) B dX5_film_25 (by decide) ?_
          refine g_ireti B dX5_film_27 ?_
          exact hK _ hR

