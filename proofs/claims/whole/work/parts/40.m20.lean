/-! counts, images, colds drawn, films *reference* -/
def fCount (τ : St) (m : Nat) (x : Int32) : Int32 :=
  if 0 ≤ x.toInt ∧ x.toInt ≤ 5 then
    (if x = 0 then τ.1 0 11 else if x = 2 then τ.1 0 3 else if x = 3 then τ.1 0 6 else if x = 4 then τ.1 0 4
    else if x = 1 then smT (fun u => τ.1 6 (2 * u + 1)) m else smT (τ.1 4) 30)
  else -2
set_option maxRecDepth 100000 in
set_option maxHeartbeats 4000000 in
theorem l_count2 {Z : LZ} {ad : Nat → Nat} {X : CX} {K : Int32 → St → Prop} {τ : St} {x : Int32} (B : Amb lyM Z ad (rmk 2) X cX6_count wsX6_count RX6 4 (some .int)) (hx : x = 5) (hK : K (smT (τ.1 4) 30) τ) : ∀ (k i : Nat), i + k = 30 → GG lyM Z ad (rmk 2) X (rI K) 111 [some (.ref (ad 0)), some (.int x), some (.int (smT (τ.1 4) i)), some (.int (nI i))] [] τ := by
  intro k
  induction k using Nat.strongRecOn with
  | ind k ih =>
    intro i h1
    refine g_iload_n B dX6_count_111 rfl ?_
    refine g_bipush (v := (30)) B dX6_count_112 (by decide) ?_
    refine g_icmp_ge (tgt := 137) B dX6_count_114 (by decide) (fun c114 => ?_) (fun c114 => ?_)
    · refine g_iload_n B dX6_count_137 rfl ?_
      refine g_ireti B dX6_count_138 ?_
      rw [show (30 : Int32) = nI 30 from rfl, nI_leI (by omega) (by omega)] at c114
      have e : i = 30 := by omega
      subst e
      exact hK
    · rw [show (30 : Int32) = nI 30 from rfl, nI_leI (by omega) (by omega)] at c114
      refine g_iload_n B dX6_count_117 rfl ?_
      refine g_iconst (v := (5)) B dX6_count_118 (by decide) ?_
      refine g_icmp_ne (tgt := 137) B dX6_count_119 (by decide) (fun c119 => ?_) (fun c119 => ?_)
      · exact absurd hx c119
      · refine g_iload_n B dX6_count_122 rfl ?_
        refine g_aload_n B dX6_count_123 rfl ?_
        refine g_getR (T := TX6) (N := 42) B dX6_count_124 (by decide) (by rfl) (inq inlX6) rfl 8 (by decide) (mq f_X6_23) (by rfl) ?_
        refine g_iload_n B dX6_count_127 rfl ?_
        refine g_iald B dX6_count_128 (by decide) (by rfl) (by exact vp_in_nI (n := i) (by omega) (by omega)) ?_
        rw [i_cl (by omega)]
        refine g_iadd B dX6_count_129 ?_
        refine g_istore_n B dX6_count_130 (by decide) rfl ?_
        refine g_iinc (c9 := (1)) B dX6_count_131 rfl (by decide) (by decide) rfl ?_
        refine g_goto (tgt := 111) B dX6_count_134 (by decide) ?_
        rw [nI_1 i]
        exact ih (k - 1) (by omega) (i + 1) (by omega)
set_option maxRecDepth 100000 in
set_option maxHeartbeats 4000000 in
theorem l_count3 {Z : LZ} {ad : Nat → Nat} {X : CX} {K : Int32 → St → Prop} {τ : St} {x v : Int32} {w : Option Value} (B : Amb lyM Z ad (rmk 2) X cX6_count wsX6_count RX6 4 (some .int)) (hx : ¬ x = 5) (hK : K v τ) : GG lyM Z ad (rmk 2) X (rI K) 109 [some (.ref (ad 0)), some (.int x), some (.int v), w] [] τ := by
  refine g_iconst (v := (0)) B dX6_count_109 (by decide) ?_
  refine g_istore_n B dX6_count_110 (by decide) rfl ?_
  refine g_iload_n B dX6_count_111 rfl ?_
  refine g_bipush (v := (30)) B dX6_count_112 (by decide) ?_
  refine g_icmp_ge (tgt := 137) B dX6_count_114 (by decide) (fun c114 => ?_) (fun c114 => ?_)
  · refine g_iload_n B dX6_count_137 rfl ?_
    refine g_ireti B dX6_count_138 ?_
    exact hK
  · refine g_iload_n B dX6_count_117 rfl ?_
    refine g_iconst (v := (5)) B dX6_count_118 (by decide) ?_
    refine g_icmp_ne (tgt := 137) B dX6_count_119 (by decide) (fun c119 => ?_) (fun c119 => ?_)
    · refine g_iload_n B dX6_count_137 rfl ?_
      refine g_ireti B dX6_count_138 ?_
      exact hK
    · exact absurd c119 hx
set_option maxRecDepth 100000 in
set_option maxHeartbeats 4000000 in
theorem l_count1 {Z : LZ} {ad : Nat → Nat} {X : CX} {K : Int32 → St → Prop} {τ : St} {x : Int32} {m : Nat} (B : Amb lyM Z ad (rmk 2) X cX6_count wsX6_count RX6 4 (some .int)) (hx : x = 1) (hm6 : m ≤ 6) (hm : τ.1 0 11 = nI m) (hK : K (smT (fun u => τ.1 6 (2 * u + 1)) m) τ) : ∀ (k i : Nat), i + k = m → GG lyM Z ad (rmk 2) X (rI K) 77 [some (.ref (ad 0)), some (.int x), some (.int (smT (fun u => τ.1 6 (2 * u + 1)) i)), some (.int (nI i))] [] τ := by
  intro k
  induction k using Nat.strongRecOn with
  | ind k ih =>
    intro i h1
    refine g_iload_n B dX6_count_77 rfl ?_
    refine g_aload_n B dX6_count_78 rfl ?_
    refine g_getI (T := TX6) (N := 42) B dX6_count_79 (by decide) (by rfl) (inq inlX6) rfl 11 (by decide) (mq f_X6_70) (by rfl) ?_
    rw [hm]
    refine g_icmp_ge (tgt := 109) B dX6_count_82 (by decide) (fun c82 => ?_) (fun c82 => ?_)
    · rw [nI_leI (by omega) (by omega)] at c82
      have e : i = m := by omega
      subst e
      exact l_count3 B (by rw [hx]; decide) hK
    · rw [nI_leI (by omega) (by omega)] at c82
      refine g_iload_n B dX6_count_85 rfl ?_
      refine g_iconst (v := (1)) B dX6_count_86 (by decide) ?_
      refine g_icmp_ne (tgt := 109) B dX6_count_87 (by decide) (fun c87 => ?_) (fun c87 => ?_)
      · exact absurd hx c87
      · refine g_iload_n B dX6_count_90 rfl ?_
        refine g_aload_n B dX6_count_91 rfl ?_
        refine g_getR (T := TX6) (N := 42) B dX6_count_92 (by decide) (by rfl) (inq inlX6) rfl 10 (by decide) (mq f_X6_29) (by rfl) ?_
        refine g_iconst (v := (2)) B dX6_count_95 (by decide) ?_
        refine g_iload_n B dX6_count_96 rfl ?_
        refine g_imul B dX6_count_97 ?_
        rw [show (2 : Int32) * nI i = nI (2 * i) from pk_mul 2 i]
        refine g_iconst (v := (1)) B dX6_count_98 (by decide) ?_
        refine g_iadd B dX6_count_99 ?_
        rw [nI_1]
        refine g_iald B dX6_count_100 (by decide) (by rfl) (by exact vp_in_nI (n := 2 * i + 1) (by omega) (by omega)) ?_
        rw [i_cl (by omega)]
        refine g_iadd B dX6_count_101 ?_
        refine g_istore_n B dX6_count_102 (by decide) rfl ?_
        refine g_iinc (c9 := (1)) B dX6_count_103 rfl (by decide) (by decide) rfl ?_
        refine g_goto (tgt := 77) B dX6_count_106 (by decide) ?_
        rw [nI_1 i]
        exact ih (k - 1) (by omega) (i + 1) (by omega)
set_option maxRecDepth 100000 in
set_option maxHeartbeats 4000000 in
theorem c_count {Z : LZ} {ad : Nat → Nat} {τ : St} {K : Int32 → St → Prop} {x : Int32} {m : Nat} (hm6 : m ≤ 6) (hm : τ.1 0 11 = nI m) (hK : K (fCount τ m x) τ) : CC lyM Z ad yX6_count wsX6_count (rmk 2) [.ref (ad 0), .int x] τ (rI K) := by
  refine CC.of (cc := cX6_count) (nL := 4) (ret := (some .int)) rfl rfl ⟨rfl, rfl⟩ (by exact Nat.le_of_ble_eq_true rfl) ?_
  intro X B
  change GG _ _ _ _ X _ 0 [some (.ref (ad 0)), some (.int x), none, none] [] _
  change Amb _ _ _ _ X _ _ RX6 _ _ at B
  unfold fCount at hK
  refine g_iload_n B dX6_count_0 rfl ?_
  refine g_i2l B dX6_count_1 rfl ?_
  refine g_lconst (v := (0)) B dX6_count_2 (by decide) ?_
  refine g_ldc2 (v := (5)) B dX6_count_3 (mq k_X6_110) ?_
  refine g_callSi (As := [.long _, .long _, .long _]) B dX6_count_6 (gc1 g_X6_73) (by rfl) hd_X6_in (by exact ⟨Nat.le_of_ble_eq_true rfl, Nat.le_of_ble_eq_true rfl⟩) ⟨rfl, rfl⟩ rfl rfl (by exact Nat.le_of_ble_eq_true rfl) (c_in ?_)
  rw [in_0, show (5 : Int64).toInt = 5 from rfl]
  refine g_if_ne (tgt := 15) B dX6_count_9 (by decide) (fun c9 => ?_) (fun c9 => ?_)
  · rw [if_pos (b1_n0.mp c9)] at hK
    refine g_iload_n B dX6_count_15 rfl ?_
    refine g_if_eq (tgt := 33) B dX6_count_16 (by decide) (fun c16 => ?_) (fun c16 => ?_)
    · refine g_iload_n B dX6_count_33 rfl ?_
      refine g_if_ne (tgt := 44) B dX6_count_34 (by decide) (fun c34 => ?_) (fun c34 => ?_)
      · exact absurd c16 c34
      · rw [if_pos c16] at hK
        refine g_aload_n B dX6_count_37 rfl ?_
        refine g_getI (T := TX6) (N := 42) B dX6_count_38 (by decide) (by rfl) (inq inlX6) rfl 11 (by decide) (mq f_X6_70) (by rfl) ?_
        refine g_goto (tgt := 72) B dX6_count_41 (by decide) ?_
        refine g_ireti B dX6_count_72 ?_
        exact hK
    · refine g_iload_n B dX6_count_19 rfl ?_
      refine g_i2l B dX6_count_20 rfl ?_
      refine g_ldc2 (v := (2)) B dX6_count_21 (mq k_X6_351) ?_
      refine g_ldc2 (v := (4)) B dX6_count_24 (mq k_X6_417) ?_
      refine g_callSi (As := [.long _, .long _, .long _]) B dX6_count_27 (gc1 g_X6_73) (by rfl) hd_X6_in (by exact ⟨Nat.le_of_ble_eq_true rfl, Nat.le_of_ble_eq_true rfl⟩) ⟨rfl, rfl⟩ rfl rfl (by exact Nat.le_of_ble_eq_true rfl) (c_in ?_)
      rw [in_a, show (2 : Int64).toInt = 2 from rfl, show (4 : Int64).toInt = 4 from rfl]
      refine g_if_eq (tgt := 73) B dX6_count_30 (by decide) (fun c30 => ?_) (fun c30 => ?_)
      · have h0 := b1_n0.mp c9
        have h30 := b1_0.mp c30
        have hx15 : x = 1 ∨ x = 5 := by
          have h2 : ¬ x.toInt = 0 := fun q => c16 (i_eq.mpr q)
          rw [i_eq, i_eq, i1, i5]
          omega
        refine g_iconst (v := (0)) B dX6_count_73 (by decide) ?_
        refine g_istore_n B dX6_count_74 (by decide) rfl ?_
        refine g_iconst (v := (0)) B dX6_count_75 (by decide) ?_
        refine g_istore_n B dX6_count_76 (by decide) rfl ?_
        rcases hx15 with e | e
        · subst e
          exact l_count1 B rfl hm6 hm hK m 0 (by omega)
        · subst e
          have hK5 : K (smT (τ.1 4) 30) τ := hK
          refine g_iload_n B dX6_count_77 rfl ?_
          refine g_aload_n B dX6_count_78 rfl ?_
          refine g_getI (T := TX6) (N := 42) B dX6_count_79 (by decide) (by rfl) (inq inlX6) rfl 11 (by decide) (mq f_X6_70) (by rfl) ?_
          have h109 : ∀ w, GG lyM Z ad (rmk 2) X (rI K) 109 [some (.ref (ad 0)), some (.int 5), some (.int 0), w] [] τ := fun w => by
            refine g_iconst (v := (0)) B dX6_count_109 (by decide) ?_
            refine g_istore_n B dX6_count_110 (by decide) rfl ?_
            exact l_count2 B rfl hK5 30 0 rfl
          refine g_icmp_ge (tgt := 109) B dX6_count_82 (by decide) (fun _ => h109 _) (fun _ => ?_)
          refine g_iload_n B dX6_count_85 rfl ?_
          refine g_iconst (v := (1)) B dX6_count_86 (by decide) ?_
          refine g_icmp_ne (tgt := 109) B dX6_count_87 (by decide) (fun _ => h109 _) (fun c => absurd c (by decide))
      · refine g_iload_n B dX6_count_33 rfl ?_
        refine g_if_ne (tgt := 44) B dX6_count_34 (by decide) (fun c34 => ?_) (fun c34 => ?_)
        · have hi30 := b1_n0.mp c30
          rw [if_neg c16] at hK
          refine g_iload_n B dX6_count_44 rfl ?_
          refine g_iconst (v := (2)) B dX6_count_45 (by decide) ?_
          refine g_icmp_ne (tgt := 56) B dX6_count_46 (by decide) (fun c46 => ?_) (fun c46 => ?_)
          · rw [if_neg c46] at hK
            refine g_iload_n B dX6_count_56 rfl ?_
            refine g_iconst (v := (3)) B dX6_count_57 (by decide) ?_
            refine g_icmp_ne (tgt := 68) B dX6_count_58 (by decide) (fun c58 => ?_) (fun c58 => ?_)
            · rw [if_neg c58] at hK
              have e4 : x = 4 := by
                have h2 : ¬ x.toInt = 2 := fun q => c46 (i_eq.mpr q)
                have h3 : ¬ x.toInt = 3 := fun q => c58 (i_eq.mpr q)
                rw [i_eq, i4]
                omega
              rw [if_pos e4] at hK
              refine g_aload_n B dX6_count_68 rfl ?_
              refine g_getI (T := TX6) (N := 42) B dX6_count_69 (by decide) (by rfl) (inq inlX6) rfl 4 (by decide) (mq f_X6_107) (by rfl) ?_
              refine g_ireti B dX6_count_72 ?_
              exact hK
            · rw [if_pos c58] at hK
              refine g_aload_n B dX6_count_61 rfl ?_
              refine g_getI (T := TX6) (N := 42) B dX6_count_62 (by decide) (by rfl) (inq inlX6) rfl 6 (by decide) (mq f_X6_125) (by rfl) ?_
              refine g_goto (tgt := 72) B dX6_count_65 (by decide) ?_
              refine g_ireti B dX6_count_72 ?_
              exact hK
          · rw [if_pos c46] at hK
            refine g_aload_n B dX6_count_49 rfl ?_
            refine g_getI (T := TX6) (N := 42) B dX6_count_50 (by decide) (by rfl) (inq inlX6) rfl 3 (by decide) (mq f_X6_67) (by rfl) ?_
            refine g_goto (tgt := 72) B dX6_count_53 (by decide) ?_
            refine g_ireti B dX6_count_72 ?_
            exact hK
        · exact absurd c34 c16
  · rw [if_neg (b1_0.mp c9)] at hK
    refine g_bipush (v := (-2)) B dX6_count_12 (by decide) ?_
    refine g_ireti B dX6_count_14 ?_
    exact hK
/-- a row laid over another, so many places of it -/
def cpG (τ : St) (a b : Nat) : Nat → St
  | 0 => τ
  | i + 1 => upS (cpG τ a b i) b i (τ.1 a i)
theorem cpG_o {τ : St} {a b o : Nat} (h : o ≠ b) : ∀ i, (cpG τ a b i).1 o = τ.1 o
  | 0 => rfl
  | i + 1 => by
    unfold cpG
    rw [upS_3 h]
    exact cpG_o h i
theorem cpG_2 {τ : St} {a b : Nat} : ∀ i, (cpG τ a b i).2 = τ.2
  | 0 => rfl
  | i + 1 => cpG_2 (a := a) (b := b) i
theorem cpG_1 {τ : St} {a b : Nat} : ∀ i j, (cpG τ a b i).1 b j = if j < i then τ.1 a j else τ.1 b j
  | 0, j => by rw [if_neg (by omega)]; rfl
  | i + 1, j => by
    unfold cpG
    by_cases e : j = i
    · subst e
      rw [upS_1, if_pos (by omega)]
    · rw [upS_2 e, cpG_1 i j]
      by_cases q : j < i
      · rw [if_pos q, if_pos (by omega)]
      · rw [if_neg q, if_neg (by omega)]
def gImage (τ : St) : St := upS (upS (upS (cpG (cpG τ 4 10 30) 6 11 12) 0 35 (τ.1 0 11)) 0 36 (τ.1 0 7)) 0 37 (τ.1 0 4)
set_option maxRecDepth 100000 in
set_option maxHeartbeats 4000000 in
theorem l_image1 {Z : LZ} {ad : Nat → Nat} {X : CX} {K : Option Value → St → Prop} {τ : St} (B : Amb lyM Z ad (rmk 2) X cX6_image wsX6_image RX6 2 (some .int)) (hK : GG lyM Z ad (rmk 2) X K 26 [some (.ref (ad 0)), none] [] (cpG τ 4 10 30)) : ∀ (k i : Nat), i + k = 30 → GG lyM Z ad (rmk 2) X K 2 [some (.ref (ad 0)), some (.int (nI i))] [] (cpG τ 4 10 i) := by
  intro k
  induction k using Nat.strongRecOn with
  | ind k ih =>
    intro i h1
    refine g_iload_n B dX6_image_2 rfl ?_
    refine g_bipush (v := (30)) B dX6_image_3 (by decide) ?_
    refine g_icmp_ge (tgt := 26) B dX6_image_5 (by decide) (fun c5 => ?_) (fun c5 => ?_)
    · rw [show (30 : Int32) = nI 30 from rfl, nI_leI (by omega) (by omega)] at c5
      have e : i = 30 := by omega
      subst e
      exact g_drop 1 hK
    · rw [show (30 : Int32) = nI 30 from rfl, nI_leI (by omega) (by omega)] at c5
      refine g_aload_n B dX6_image_8 rfl ?_
      refine g_getR (T := TX6) (N := 42) B dX6_image_9 (by decide) (by rfl) (inq inlX6) rfl 33 (by decide) (mq f_X6_42) (by rfl) ?_
      refine g_iload_n B dX6_image_12 rfl ?_
      refine g_aload_n B dX6_image_13 rfl ?_
      refine g_getR (T := TX6) (N := 42) B dX6_image_14 (by decide) (by rfl) (inq inlX6) rfl 8 (by decide) (mq f_X6_23) (by rfl) ?_
      refine g_iload_n B dX6_image_17 rfl ?_
      refine g_iald B dX6_image_18 (by decide) (by rfl) (by exact vp_in_nI (n := i) (by omega) (by omega)) ?_
      rw [i_cl (by omega), cpG_o (by decide)]
      refine g_iast B dX6_image_19 (by decide) (by rfl) (by exact vp_in_nI (n := i) (by omega) (by omega)) ?_
      rw [i_cl (by omega)]
      refine g_iinc (c9 := (1)) B dX6_image_20 rfl (by decide) (by decide) rfl ?_
      refine g_goto (tgt := 2) B dX6_image_23 (by decide) ?_
      rw [nI_1 i]
      exact ih (k - 1) (by omega) (i + 1) (by omega)
set_option maxRecDepth 100000 in
set_option maxHeartbeats 4000000 in
theorem l_image2 {Z : LZ} {ad : Nat → Nat} {X : CX} {K : Option Value → St → Prop} {τ : St} (B : Amb lyM Z ad (rmk 2) X cX6_image wsX6_image RX6 2 (some .int)) (hK : GG lyM Z ad (rmk 2) X K 52 [some (.ref (ad 0)), none] [] (cpG τ 6 11 12)) : ∀ (k i : Nat), i + k = 12 → GG lyM Z ad (rmk 2) X K 28 [some (.ref (ad 0)), some (.int (nI i))] [] (cpG τ 6 11 i) := by
  intro k
  induction k using Nat.strongRecOn with
  | ind k ih =>
    intro i h1
    refine g_iload_n B dX6_image_28 rfl ?_
    refine g_bipush (v := (12)) B dX6_image_29 (by decide) ?_
    refine g_icmp_ge (tgt := 52) B dX6_image_31 (by decide) (fun c31 => ?_) (fun c31 => ?_)
    · rw [show (12 : Int32) = nI 12 from rfl, nI_leI (by omega) (by omega)] at c31
      have e : i = 12 := by omega
      subst e
      exact g_drop 1 hK
    · rw [show (12 : Int32) = nI 12 from rfl, nI_leI (by omega) (by omega)] at c31
      refine g_aload_n B dX6_image_34 rfl ?_
      refine g_getR (T := TX6) (N := 42) B dX6_image_35 (by decide) (by rfl) (inq inlX6) rfl 34 (by decide) (mq f_X6_45) (by rfl) ?_
      refine g_iload_n B dX6_image_38 rfl ?_
      refine g_aload_n B dX6_image_39 rfl ?_
      refine g_getR (T := TX6) (N := 42) B dX6_image_40 (by decide) (by rfl) (inq inlX6) rfl 10 (by decide) (mq f_X6_29) (by rfl) ?_
      refine g_iload_n B dX6_image_43 rfl ?_
      refine g_iald B dX6_image_44 (by decide) (by rfl) (by exact vp_in_nI (n := i) (by omega) (by omega)) ?_
      rw [i_cl (by omega), cpG_o (by decide)]
      refine g_iast B dX6_image_45 (by decide) (by rfl) (by exact vp_in_nI (n := i) (by omega) (by omega)) ?_
      rw [i_cl (by omega)]
      refine g_iinc (c9 := (1)) B dX6_image_46 rfl (by decide) (by decide) rfl ?_
      refine g_goto (tgt := 28) B dX6_image_49 (by decide) ?_
      rw [nI_1 i]
      exact ih (k - 1) (by omega) (i + 1) (by omega)
set_option maxRecDepth 100000 in
set_option maxHeartbeats 4000000 in
theorem l_image3 {Z : LZ} {ad : Nat → Nat} {X : CX} {K : Int32 → St → Prop} {τ : St} (B : Amb lyM Z ad (rmk 2) X cX6_image wsX6_image RX6 2 (some .int)) (hK : K (τ.1 0 11) (gImage τ)) : GG lyM Z ad (rmk 2) X (rI K) 52 [some (.ref (ad 0)), none] [] (cpG (cpG τ 4 10 30) 6 11 12) := by
  refine g_aload_n B dX6_image_52 rfl ?_
  refine g_aload_n B dX6_image_53 rfl ?_
  refine g_getI (T := TX6) (N := 42) B dX6_image_54 (by decide) (by rfl) (inq inlX6) rfl 11 (by decide) (mq f_X6_70) (by rfl) ?_
  rw [cpG_o (by decide), cpG_o (by decide)]
  refine g_putI (T := TX6) (N := 42) B dX6_image_57 (by decide) (by rfl) (inq inlX6) rfl 35 (by decide) (mq f_X6_48) tyX6_ok nmX6 rfl ⟨rfl, rfl⟩ (by rfl) ?_
  refine g_aload_n B dX6_image_60 rfl ?_
  refine g_aload_n B dX6_image_61 rfl ?_
  refine g_getI (T := TX6) (N := 42) B dX6_image_62 (by decide) (by rfl) (inq inlX6) rfl 7 (by decide) (mq f_X6_104) (by rfl) ?_
  rw [upS_2 (by decide), cpG_o (by decide), cpG_o (by decide)]
  refine g_putI (T := TX6) (N := 42) B dX6_image_65 (by decide) (by rfl) (inq inlX6) rfl 36 (by decide) (mq f_X6_411) tyX6_ok nmX6 rfl ⟨rfl, rfl⟩ (by rfl) ?_
  refine g_aload_n B dX6_image_68 rfl ?_
  refine g_aload_n B dX6_image_69 rfl ?_
  refine g_getI (T := TX6) (N := 42) B dX6_image_70 (by decide) (by rfl) (inq inlX6) rfl 4 (by decide) (mq f_X6_107) (by rfl) ?_
  rw [upS_2 (by decide), upS_2 (by decide), cpG_o (by decide), cpG_o (by decide)]
  refine g_putI (T := TX6) (N := 42) B dX6_image_73 (by decide) (by rfl) (inq inlX6) rfl 37 (by decide) (mq f_X6_414) tyX6_ok nmX6 rfl ⟨rfl, rfl⟩ (by rfl) ?_
  refine g_aload_n B dX6_image_76 rfl ?_
  refine g_getI (T := TX6) (N := 42) B dX6_image_77 (by decide) (by rfl) (inq inlX6) rfl 11 (by decide) (mq f_X6_70) (by rfl) ?_
  rw [upS_2 (by decide), upS_2 (by decide), upS_2 (by decide), cpG_o (by decide), cpG_o (by decide)]
  refine g_ireti B dX6_image_80 ?_
  exact hK
set_option maxRecDepth 100000 in
set_option maxHeartbeats 4000000 in
theorem c_image {Z : LZ} {ad : Nat → Nat} {τ : St} {K : Int32 → St → Prop} (hK : K (τ.1 0 11) (gImage τ)) : CC lyM Z ad yX6_image wsX6_image (rmk 2) [.ref (ad 0)] τ (rI K) := by
  refine CC.of (cc := cX6_image) (nL := 2) (ret := (some .int)) rfl rfl ⟨rfl, rfl⟩ (by exact Nat.le_of_ble_eq_true rfl) ?_
  intro X B
  change GG _ _ _ _ X _ 0 [some (.ref (ad 0)), none] [] _
  change Amb _ _ _ _ X _ _ RX6 _ _ at B
  refine g_iconst (v := (0)) B dX6_image_0 (by decide) ?_
  refine g_istore_n B dX6_image_1 (by decide) rfl ?_
  refine l_image1 B ?_ 30 0 rfl
  refine g_iconst (v := (0)) B dX6_image_26 (by decide) ?_
  refine g_istore_n B dX6_image_27 (by decide) rfl ?_
  exact l_image2 (τ := cpG τ 4 10 30) B (l_image3 B hK) 12 0 rfl
def gBack (τ : St) : St := if τ.1 0 35 = -1 then τ else upS (upS (upS (cpG (cpG τ 10 4 30) 11 6 12) 0 11 (τ.1 0 35)) 0 7 (τ.1 0 36)) 0 4 (τ.1 0 37)
def fBack (τ : St) : Int32 := if τ.1 0 35 = -1 then -3 else τ.1 0 35
set_option maxRecDepth 100000 in
set_option maxHeartbeats 4000000 in
theorem l_back1 {Z : LZ} {ad : Nat → Nat} {X : CX} {K : Option Value → St → Prop} {τ : St} (B : Amb lyM Z ad (rmk 2) X cX6_back wsX6_back RX6 2 (some .int)) (hK : GG lyM Z ad (rmk 2) X K 37 [some (.ref (ad 0)), none] [] (cpG τ 10 4 30)) : ∀ (k i : Nat), i + k = 30 → GG lyM Z ad (rmk 2) X K 13 [some (.ref (ad 0)), some (.int (nI i))] [] (cpG τ 10 4 i) := by
  intro k
  induction k using Nat.strongRecOn with
  | ind k ih =>
    intro i h1
    refine g_iload_n B dX6_back_13 rfl ?_
    refine g_bipush (v := (30)) B dX6_back_14 (by decide) ?_
    refine g_icmp_ge (tgt := 37) B dX6_back_16 (by decide) (fun c16 => ?_) (fun c16 => ?_)
    · rw [show (30 : Int32) = nI 30 from rfl, nI_leI (by omega) (by omega)] at c16
      have e : i = 30 := by omega
      subst e
      exact g_drop 1 hK
    · rw [show (30 : Int32) = nI 30 from rfl, nI_leI (by omega) (by omega)] at c16
      refine g_aload_n B dX6_back_19 rfl ?_
      refine g_getR (T := TX6) (N := 42) B dX6_back_20 (by decide) (by rfl) (inq inlX6) rfl 8 (by decide) (mq f_X6_23) (by rfl) ?_
      refine g_iload_n B dX6_back_23 rfl ?_
      refine g_aload_n B dX6_back_24 rfl ?_
      refine g_getR (T := TX6) (N := 42) B dX6_back_25 (by decide) (by rfl) (inq inlX6) rfl 33 (by decide) (mq f_X6_42) (by rfl) ?_
      refine g_iload_n B dX6_back_28 rfl ?_
      refine g_iald B dX6_back_29 (by decide) (by rfl) (by exact vp_in_nI (n := i) (by omega) (by omega)) ?_
      rw [i_cl (by omega), cpG_o (by decide)]
      refine g_iast B dX6_back_30 (by decide) (by rfl) (by exact vp_in_nI (n := i) (by omega) (by omega)) ?_
      rw [i_cl (by omega)]
      refine g_iinc (c9 := (1)) B dX6_back_31 rfl (by decide) (by decide) rfl ?_
      refine g_goto (tgt := 13) B dX6_back_34 (by decide) ?_
      rw [nI_1 i]
      exact ih (k - 1) (by omega) (i + 1) (by omega)
set_option maxRecDepth 100000 in
set_option maxHeartbeats 4000000 in
theorem l_back2 {Z : LZ} {ad : Nat → Nat} {X : CX} {K : Option Value → St → Prop} {τ : St} (B : Amb lyM Z ad (rmk 2) X cX6_back wsX6_back RX6 2 (some .int)) (hK : GG lyM Z ad (rmk 2) X K 63 [some (.ref (ad 0)), none] [] (cpG τ 11 6 12)) : ∀ (k i : Nat), i + k = 12 → GG lyM Z ad (rmk 2) X K 39 [some (.ref (ad 0)), some (.int (nI i))] [] (cpG τ 11 6 i) := by
  intro k
  induction k using Nat.strongRecOn with
  | ind k ih =>
    intro i h1
    refine g_iload_n B dX6_back_39 rfl ?_
    refine g_bipush (v := (12)) B dX6_back_40 (by decide) ?_
    refine g_icmp_ge (tgt := 63) B dX6_back_42 (by decide) (fun c42 => ?_) (fun c42 => ?_)
    · rw [show (12 : Int32) = nI 12 from rfl, nI_leI (by omega) (by omega)] at c42
      have e : i = 12 := by omega
      subst e
      exact g_drop 1 hK
    · rw [show (12 : Int32) = nI 12 from rfl, nI_leI (by omega) (by omega)] at c42
      refine g_aload_n B dX6_back_45 rfl ?_
      refine g_getR (T := TX6) (N := 42) B dX6_back_46 (by decide) (by rfl) (inq inlX6) rfl 10 (by decide) (mq f_X6_29) (by rfl) ?_
      refine g_iload_n B dX6_back_49 rfl ?_
      refine g_aload_n B dX6_back_50 rfl ?_
      refine g_getR (T := TX6) (N := 42) B dX6_back_51 (by decide) (by rfl) (inq inlX6) rfl 34 (by decide) (mq f_X6_45) (by rfl) ?_
      refine g_iload_n B dX6_back_54 rfl ?_
      refine g_iald B dX6_back_55 (by decide) (by rfl) (by exact vp_in_nI (n := i) (by omega) (by omega)) ?_
      rw [i_cl (by omega), cpG_o (by decide)]
      refine g_iast B dX6_back_56 (by decide) (by rfl) (by exact vp_in_nI (n := i) (by omega) (by omega)) ?_
      rw [i_cl (by omega)]
      refine g_iinc (c9 := (1)) B dX6_back_57 rfl (by decide) (by decide) rfl ?_
      refine g_goto (tgt := 39) B dX6_back_60 (by decide) ?_
      rw [nI_1 i]
      exact ih (k - 1) (by omega) (i + 1) (by omega)
set_option maxRecDepth 100000 in
set_option maxHeartbeats 4000000 in
theorem l_back3 {Z : LZ} {ad : Nat → Nat} {X : CX} {K : Int32 → St → Prop} {τ : St} (B : Amb lyM Z ad (rmk 2) X cX6_back wsX6_back RX6 2 (some .int)) (hK : K (τ.1 0 35) (upS (upS (upS (cpG (cpG τ 10 4 30) 11 6 12) 0 11 (τ.1 0 35)) 0 7 (τ.1 0 36)) 0 4 (τ.1 0 37))) : GG lyM Z ad (rmk 2) X (rI K) 63 [some (.ref (ad 0)), none] [] (cpG (cpG τ 10 4 30) 11 6 12) := by
  refine g_aload_n B dX6_back_63 rfl ?_
  refine g_aload_n B dX6_back_64 rfl ?_
  refine g_getI (T := TX6) (N := 42) B dX6_back_65 (by decide) (by rfl) (inq inlX6) rfl 35 (by decide) (mq f_X6_48) (by rfl) ?_
  rw [cpG_o (by decide), cpG_o (by decide)]
  refine g_putI (T := TX6) (N := 42) B dX6_back_68 (by decide) (by rfl) (inq inlX6) rfl 11 (by decide) (mq f_X6_70) tyX6_ok nmX6 rfl ⟨rfl, rfl⟩ (by rfl) ?_
  refine g_aload_n B dX6_back_71 rfl ?_
  refine g_aload_n B dX6_back_72 rfl ?_
  refine g_getI (T := TX6) (N := 42) B dX6_back_73 (by decide) (by rfl) (inq inlX6) rfl 36 (by decide) (mq f_X6_411) (by rfl) ?_
  rw [upS_2 (by decide), cpG_o (by decide), cpG_o (by decide)]
  refine g_putI (T := TX6) (N := 42) B dX6_back_76 (by decide) (by rfl) (inq inlX6) rfl 7 (by decide) (mq f_X6_104) tyX6_ok nmX6 rfl ⟨rfl, rfl⟩ (by rfl) ?_
  refine g_aload_n B dX6_back_79 rfl ?_
  refine g_aload_n B dX6_back_80 rfl ?_
  refine g_getI (T := TX6) (N := 42) B dX6_back_81 (by decide) (by rfl) (inq inlX6) rfl 37 (by decide) (mq f_X6_414) (by rfl) ?_
  rw [upS_2 (by decide), upS_2 (by decide), cpG_o (by decide), cpG_o (by decide)]
  refine g_putI (T := TX6) (N := 42) B dX6_back_84 (by decide) (by rfl) (inq inlX6) rfl 4 (by decide) (mq f_X6_107) tyX6_ok nmX6 rfl ⟨rfl, rfl⟩ (by rfl) ?_
  refine g_aload_n B dX6_back_87 rfl ?_
  refine g_getI (T := TX6) (N := 42) B dX6_back_88 (by decide) (by rfl) (inq inlX6) rfl 11 (by decide) (mq f_X6_70) (by rfl) ?_
  rw [upS_2 (by decide), upS_2 (by decide), upS_1]
  refine g_ireti B dX6_back_91 ?_
  exact hK
set_option maxRecDepth 100000 in
set_option maxHeartbeats 4000000 in
theorem c_back {Z : LZ} {ad : Nat → Nat} {τ : St} {K : Int32 → St → Prop} (hK : K (fBack τ) (gBack τ)) : CC lyM Z ad yX6_back wsX6_back (rmk 2) [.ref (ad 0)] τ (rI K) := by
  refine CC.of (cc := cX6_back) (nL := 2) (ret := (some .int)) rfl rfl ⟨rfl, rfl⟩ (by exact Nat.le_of_ble_eq_true rfl) ?_
  intro X B
  change GG _ _ _ _ X _ 0 [some (.ref (ad 0)), none] [] _
  change Amb _ _ _ _ X _ _ RX6 _ _ at B
  unfold fBack gBack at hK
  refine g_aload_n B dX6_back_0 rfl ?_
  refine g_getI (T := TX6) (N := 42) B dX6_back_1 (by decide) (by rfl) (inq inlX6) rfl 35 (by decide) (mq f_X6_48) (by rfl) ?_
  refine g_iconst (v := (-1)) B dX6_back_4 (by decide) ?_
  refine g_icmp_ne (tgt := 11) B dX6_back_5 (by decide) (fun c5 => ?_) (fun c5 => ?_)
  · rw [if_neg c5, if_neg c5] at hK
    refine g_iconst (v := (0)) B dX6_back_11 (by decide) ?_
    refine g_istore_n B dX6_back_12 (by decide) rfl ?_
    refine l_back1 B ?_ 30 0 rfl
    refine g_iconst (v := (0)) B dX6_back_37 (by decide) ?_
    refine g_istore_n B dX6_back_38 (by decide) rfl ?_
    exact l_back2 (τ := cpG τ 10 4 30) B (l_back3 B hK) 12 0 rfl
  · rw [if_pos c5, if_pos c5] at hK
    refine g_bipush (v := (-3)) B dX6_back_8 (by decide) ?_
    refine g_ireti B dX6_back_10 ?_
    exact hK

