/-! text, sheets, counts *reference* -/
def cpT (τ : St) (c : Nat) : Nat → St
  | 0 => τ
  | i + 1 => upS (cpT τ c i) 1 (160 * c + i) (τ.1 3 i)
theorem cpT_o {τ : St} {c o : Nat} (h : o ≠ 1) : ∀ i, (cpT τ c i).1 o = τ.1 o
  | 0 => rfl
  | i + 1 => by
    unfold cpT
    rw [upS_3 h]
    exact cpT_o h i
theorem cpT_2 {τ : St} {c : Nat} : ∀ i, (cpT τ c i).2 = τ.2
  | 0 => rfl
  | i + 1 => cpT_2 (c := c) i
theorem cpT_1 {τ : St} {c : Nat} : ∀ i j, (cpT τ c i).1 1 j = if 160 * c ≤ j ∧ j < 160 * c + i then τ.1 3 (j - 160 * c) else τ.1 1 j
  | 0, j => by rw [if_neg (by omega)]; rfl
  | i + 1, j => by
    unfold cpT
    by_cases e : j = 160 * c + i
    · subst e
      rw [upS_1, if_pos (by omega), show 160 * c + i - 160 * c = i by omega]
    · rw [upS_2 e, cpT_1 i j]
      by_cases q : 160 * c ≤ j ∧ j < 160 * c + i
      · rw [if_pos q, if_pos (by omega)]
      · rw [if_neg q, if_neg (by omega)]
def bT (τ : St) (p : Nat) : Nat → Int32 := fun i => if i < p then τ.1 3 i else -1
def txR (b : Nat → Int32) : Nat ⊕ TC := pText (fun a => tokS b (lxS b a)) (fun a => tokV b (lxS b a))
def gTx0 (τ : St) (c p : Nat) : St := upS (upS (cpT τ c p) 2 c (nI p)) 0 6 0
theorem gTx0_gM {τ : St} {c p : Nat} : gM (gTx0 τ c p) c p = bT τ p := by
  funext i
  unfold gM bT
  by_cases h : i < p
  · rw [if_pos h, if_pos h]
    show (upS (upS (cpT τ c p) 2 c (nI p)) 0 6 0).1 1 (160 * c + i) = _
    rw [upS_3 (by decide), upS_3 (by decide), cpT_1, if_pos (by omega), show 160 * c + i - 160 * c = i by omega]
  · rw [if_neg h, if_neg h]
theorem gTx0_tx {τ : St} {c p : Nat} : pText (tT (gTx0 τ c p) c p) (tV (gTx0 τ c p) c p) = txR (bT τ p) := by
  have e1 : tT (gTx0 τ c p) c p = fun a => tokS (bT τ p) (lxS (bT τ p) a) := by
    funext a
    show tokS _ (lxS _ a) = _
    rw [gTx0_gM]
  have e2 : tV (gTx0 τ c p) c p = fun a => tokV (bT τ p) (lxS (bT τ p) a) := by
    funext a
    show tokV _ (lxS _ a) = _
    rw [gTx0_gM]
  rw [e1, e2]
  rfl
def fText (τ : St) (c p : Nat) : Int32 := if c = 6 then -4 else match txR (bT τ p) with
  | .inl f => -100 - nI (lxS (bT τ p) f)
  | .inr _ => nI c
def gText (τ : St) (c p : Nat) : St := if c = 6 then τ else match txR (bT τ p) with
  | .inl _ => gTx0 τ c p
  | .inr _ => upS (gTx0 τ c p) 0 3 (nI (c + 1))
set_option maxRecDepth 100000 in
set_option maxHeartbeats 4000000 in
theorem l_text {Z : LZ} {ad : Nat → Nat} {X : CX} {K : Option Value → St → Prop} {τ : St} {c p : Nat} (B : Amb lyM Z ad (rmk 45) X cX6_text wsX6_text RX6 2 (some .int)) (hc : τ.1 0 3 = nI c) (h6 : c < 6) (hp : τ.1 0 6 = nI p) (hp6 : p ≤ 160) (hK : GG lyM Z ad (rmk 45) X K 49 [some (.ref (ad 0)), none] [] (cpT τ c p)) : ∀ (k i : Nat), i + k = p → GG lyM Z ad (rmk 45) X K 14 [some (.ref (ad 0)), some (.int (nI i))] [] (cpT τ c i) := by
  intro k
  induction k using Nat.strongRecOn with
  | ind k ih =>
    intro i h1
    refine g_iload_n B dX6_text_14 rfl ?_
    refine g_aload_n B dX6_text_15 rfl ?_
    refine g_getI (T := TX6) (N := 42) B dX6_text_16 (by decide) (by rfl) (inq inlX6) rfl 6 (by decide) (mq f_X6_125) (by rfl) ?_
    rw [cpT_o (by decide), hp]
    refine g_icmp_ge (tgt := 49) B dX6_text_19 (by decide) (fun c19 => ?_) (fun c19 => ?_)
    · rw [nI_leI (by omega) (by omega)] at c19
      have e : i = p := by omega
      subst e
      exact g_drop 1 hK
    · rw [nI_leI (by omega) (by omega)] at c19
      refine g_aload_n B dX6_text_22 rfl ?_
      refine g_getR (T := TX6) (N := 42) B dX6_text_23 (by decide) (by rfl) (inq inlX6) rfl 1 (by decide) (mq f_X6_13) (by rfl) ?_
      refine g_sipush (v := (160)) B dX6_text_26 (by decide) ?_
      refine g_aload_n B dX6_text_29 rfl ?_
      refine g_getI (T := TX6) (N := 42) B dX6_text_30 (by decide) (by rfl) (inq inlX6) rfl 3 (by decide) (mq f_X6_67) (by rfl) ?_
      rw [cpT_o (by decide), hc]
      refine g_imul B dX6_text_33 ?_
      rw [show (160 : Int32) * nI c = nI (160 * c) from pk_mul 160 c]
      refine g_iload_n B dX6_text_34 rfl ?_
      refine g_iadd B dX6_text_35 ?_
      rw [nI_add]
      refine g_aload_n B dX6_text_36 rfl ?_
      refine g_getR (T := TX6) (N := 42) B dX6_text_37 (by decide) (by rfl) (inq inlX6) rfl 5 (by decide) (mq f_X6_20) (by rfl) ?_
      refine g_iload_n B dX6_text_40 rfl ?_
      refine g_iald B dX6_text_41 (by decide) (by rfl) (by exact vp_in_nI (n := i) (by omega) (by omega)) ?_
      rw [i_cl (by omega), cpT_o (by decide)]
      refine g_iast B dX6_text_42 (by decide) (by rfl) (by exact vp_in_nI (n := 160 * c + i) (by omega) (by omega)) ?_
      rw [i_cl (by omega)]
      refine g_iinc (c9 := (1)) B dX6_text_43 rfl (by decide) (by decide) rfl ?_
      refine g_goto (tgt := 14) B dX6_text_46 (by decide) ?_
      rw [nI_1 i]
      exact ih (k - 1) (by omega) (i + 1) (by omega)
set_option maxRecDepth 100000 in
set_option maxHeartbeats 4000000 in
theorem h_text {Z : LZ} {ad : Nat → Nat} {X : CX} {K : Int32 → St → Prop} {τ : St} {c p : Nat} (B : Amb lyM Z ad (rmk 45) X cX6_text wsX6_text RX6 2 (some .int)) (hc : τ.1 0 3 = nI c) (h6 : c < 6) (hp : τ.1 0 6 = nI p) (hp6 : p ≤ 160) (hb : ∀ i, i < p → 0 ≤ (τ.1 3 i).toInt ∧ (τ.1 3 i).toInt < 256) (hK : ∀ τ', sg (gText τ c p) τ' → K (fText τ c p) τ') : GG lyM Z ad (rmk 45) X (rI K) 49 [some (.ref (ad 0)), none] [] (cpT τ c p) := by
  have hK2 := hK
  unfold gText fText at hK2
  rw [if_neg (by omega), if_neg (by omega)] at hK2
  have eS : ∀ τ1, pkx pR (gTx0 τ c p) τ1 → pkx mS (gTx0 τ c p) τ1 := fun τ1 p1 => p1.mono (by decide)
  have e3 : (gTx0 τ c p).1 0 3 = nI c := by
    show (upS (upS (cpT τ c p) 2 c (nI p)) 0 6 0).1 0 3 = nI c
    rw [upS_2 (by decide), upS_3 (by decide), cpT_o (by decide), hc]
  refine g_aload_n B dX6_text_49 rfl ?_
  refine g_getR (T := TX6) (N := 42) B dX6_text_50 (by decide) (by rfl) (inq inlX6) rfl 2 (by decide) (mq f_X6_17) (by rfl) ?_
  refine g_aload_n B dX6_text_53 rfl ?_
  refine g_getI (T := TX6) (N := 42) B dX6_text_54 (by decide) (by rfl) (inq inlX6) rfl 3 (by decide) (mq f_X6_67) (by rfl) ?_
  rw [cpT_o (by decide), hc]
  refine g_aload_n B dX6_text_57 rfl ?_
  refine g_getI (T := TX6) (N := 42) B dX6_text_58 (by decide) (by rfl) (inq inlX6) rfl 6 (by decide) (mq f_X6_125) (by rfl) ?_
  rw [cpT_o (by decide), hp]
  refine g_iast B dX6_text_61 (by decide) (by rfl) (by exact vp_in_nI (n := c) (by omega) (by omega)) ?_
  rw [i_cl (by omega)]
  refine g_aload_n B dX6_text_62 rfl ?_
  refine g_iconst (v := (0)) B dX6_text_63 (by decide) ?_
  refine g_putI (T := TX6) (N := 42) B dX6_text_64 (by decide) (by rfl) (inq inlX6) rfl 6 (by decide) (mq f_X6_125) tyX6_ok nmX6 rfl ⟨rfl, rfl⟩ (by rfl) ?_
  change GG _ _ _ _ _ _ _ _ _ (gTx0 τ c p)
  refine g_aload_n B dX6_text_67 rfl ?_
  refine g_aload_n B dX6_text_68 rfl ?_
  refine g_getI (T := TX6) (N := 42) B dX6_text_69 (by decide) (by rfl) (inq inlX6) rfl 3 (by decide) (mq f_X6_67) (by rfl) ?_
  rw [e3]
  refine g_iconst (v := (0)) B dX6_text_72 (by decide) ?_
  refine g_callVi (C := RX6) (As := [.int _, .int _]) B dX6_text_73 (gc1 g_X6_329) (by rfl) ⟨rfl, hd_X6_read⟩ (by exact ⟨Nat.le_of_ble_eq_true rfl, Nat.le_of_ble_eq_true rfl⟩) ⟨rfl, rfl⟩ rfl rfl (by exact Nat.le_of_ble_eq_true rfl) recvM (c_read (t := c) (n := p) rfl h6 (by
    show (upS (upS (cpT τ c p) 2 c (nI p)) 0 6 0).1 2 c = nI p
    rw [upS_3 (by decide), upS_1]) hp6 (fun i hi => by
    show 0 ≤ ((upS (upS (cpT τ c p) 2 c (nI p)) 0 6 0).1 1 (160 * c + i)).toInt ∧ ((upS (upS (cpT τ c p) 2 c (nI p)) 0 6 0).1 1 (160 * c + i)).toInt < 256
    rw [upS_3 (by decide), upS_3 (by decide), cpT_1, if_pos (by omega), show 160 * c + i - 160 * c = i by omega]
    exact hb i hi) ?_ ?_)
  · intro f e1 v τ1 p1 hbad hft
    refine g_istore_n B dX6_text_76 (by decide) rfl ?_
    refine g_aload_n B dX6_text_77 rfl ?_
    refine g_getI (T := TX6) (N := 42) B dX6_text_78 (by decide) (by rfl) (inq inlX6) rfl 25 (by decide) (mq f_X6_161) (by rfl) ?_
    rw [hbad]
    refine g_if_eq (tgt := 92) B dX6_text_81 (by decide) (fun c81 => ?_) (fun c81 => ?_)
    · exact absurd c81 (by decide)
    · refine g_bipush (v := (-100)) B dX6_text_84 (by decide) ?_
      refine g_aload_n B dX6_text_86 rfl ?_
      refine g_getI (T := TX6) (N := 42) B dX6_text_87 (by decide) (by rfl) (inq inlX6) rfl 26 (by decide) (mq f_X6_165) (by rfl) ?_
      rw [hft]
      refine g_isub B dX6_text_90 ?_
      refine g_ireti B dX6_text_91 ?_
      rw [gTx0_tx] at e1
      rw [e1] at hK2
      first
        | (rw [gTx0_gM]
           exact hK2 _ (sgx (eS _ p1)))
        | (refine kk (pk_sub (b := 1) (by omega)) (hK2 _ ?_)
           exact pkz.cg (sgx (eS _ p1)))
  · intro k1 k2 k3 e1 τ1 p1 hbad
    refine g_istore_n B dX6_text_76 (by decide) rfl ?_
    refine g_aload_n B dX6_text_77 rfl ?_
    refine g_getI (T := TX6) (N := 42) B dX6_text_78 (by decide) (by rfl) (inq inlX6) rfl 25 (by decide) (mq f_X6_161) (by rfl) ?_
    rw [hbad]
    refine g_if_eq (tgt := 92) B dX6_text_81 (by decide) (fun c81 => ?_) (fun c81 => ?_)
    · refine g_aload_n B dX6_text_92 rfl ?_
      refine g_dup B dX6_text_93 rfl ?_
      refine g_getI (T := TX6) (N := 42) B dX6_text_94 (by decide) (by rfl) (inq inlX6) rfl 3 (by decide) (mq f_X6_67) (by rfl) ?_
      rw [p1.2.1 3 (by decide), e3]
      refine g_iconst (v := (1)) B dX6_text_97 (by decide) ?_
      refine g_iadd B dX6_text_98 ?_
      rw [nI_1]
      refine g_putI (T := TX6) (N := 42) B dX6_text_99 (by decide) (by rfl) (inq inlX6) rfl 3 (by decide) (mq f_X6_67) tyX6_ok nmX6 rfl ⟨rfl, rfl⟩ (by rfl) ?_
      refine g_aload_n B dX6_text_102 rfl ?_
      refine g_getI (T := TX6) (N := 42) B dX6_text_103 (by decide) (by rfl) (inq inlX6) rfl 3 (by decide) (mq f_X6_67) (by rfl) ?_
      rw [upS_1]
      refine g_iconst (v := (1)) B dX6_text_106 (by decide) ?_
      refine g_isub B dX6_text_107 ?_
      refine g_ireti B dX6_text_108 ?_
      rw [gTx0_tx] at e1
      rw [e1] at hK2
      first
        | (rw [gTx0_gM]
           exact hK2 _ (sgx (eS _ p1)))
        | (refine kk (pk_sub (b := 1) (by omega)) (hK2 _ ?_)
           exact pkz.cg (sgx (eS _ p1)))
    · exact absurd rfl c81
set_option maxRecDepth 100000 in
set_option maxHeartbeats 4000000 in
theorem c_text {Z : LZ} {ad : Nat → Nat} {τ : St} {K : Int32 → St → Prop} {c p : Nat} (hc : τ.1 0 3 = nI c) (h6 : c ≤ 6) (hp : τ.1 0 6 = nI p) (hp6 : p ≤ 160) (hb : ∀ i, i < p → 0 ≤ (τ.1 3 i).toInt ∧ (τ.1 3 i).toInt < 256) (hK : ∀ τ', sg (gText τ c p) τ' → K (fText τ c p) τ') : CC lyM Z ad yX6_text wsX6_text (rmk 45) [.ref (ad 0)] τ (rI K) := by
  refine CC.of (cc := cX6_text) (nL := 2) (ret := (some .int)) rfl rfl ⟨rfl, rfl⟩ (by exact Nat.le_of_ble_eq_true rfl) ?_
  intro X B
  change GG _ _ _ _ X _ 0 [some (.ref (ad 0)), none] [] _
  change Amb _ _ _ _ X _ _ RX6 _ _ at B
  refine g_aload_n B dX6_text_0 rfl ?_
  refine g_getI (T := TX6) (N := 42) B dX6_text_1 (by decide) (by rfl) (inq inlX6) rfl 3 (by decide) (mq f_X6_67) (by rfl) ?_
  refine g_bipush (v := (6)) B dX6_text_4 (by decide) ?_
  rw [hc]
  refine g_icmp_ne (tgt := 12) B dX6_text_6 (by decide) (fun c6 => ?_) (fun c6 => ?_)
  · have e6 : ¬ c = 6 := fun q => c6 (congrArg nI q)
    refine g_iconst (v := (0)) B dX6_text_12 (by decide) ?_
    refine g_istore_n B dX6_text_13 (by decide) rfl ?_
    exact l_text B hc (by omega) hp hp6 (h_text B hc (by omega) hp hp6 hb hK) p 0 (by omega)
  · have e6 : c = 6 := (nI_eqI (by omega) (by omega)).mp (c6.trans (show (6 : Int32) = nI 6 from rfl))
    unfold fText gText at hK
    rw [if_pos e6, if_pos e6] at hK
    refine g_bipush (v := (-4)) B dX6_text_9 (by decide) ?_
    refine g_ireti B dX6_text_11 ?_
    exact hK _ pkz.rf

