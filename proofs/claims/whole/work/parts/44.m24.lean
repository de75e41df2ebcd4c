/-! chance *reference* -/
theorem tl_i {a : Nat} (h : a < 2147483648) : (nI a).toInt64.toInt = a := by rw [i_long, i_n h]
theorem l_bm {z : Int} (h1 : -2147483648 ≤ z) (h2 : z < 2147483648) : z.bmod (2 ^ 64) = z := by
  rw [Int.bmod_eq_of_le] <;> omega
theorem tl_add {a : Nat} (h : a < 1000) : (nI a).toInt64 + 1 = (nI (a + 1)).toInt64 := by
  apply Int64.toInt_inj.mp
  rw [Int64.toInt_add, tl_i (by omega), tl_i (by omega), show (1 : Int64).toInt = 1 from rfl, l_bm] <;> omega
theorem tl_add0 {a : Nat} : (nI a).toInt64 + 0 = (nI a).toInt64 := by
  apply Int64.toInt_inj.mp
  rw [Int64.toInt_add, show (0 : Int64).toInt = 0 from rfl, Int.add_zero]
  have := i_rng (nI a)
  rw [i_long, l_bm] <;> omega
theorem tl_div {a b : Nat} (ha : a < 2147483648) (hb : b < 2147483648) (h0 : 0 < b) : (nI a).toInt64 / (nI b).toInt64 = (nI (a / b)).toInt64 := by
  apply Int64.toInt_inj.mp
  have h1 : a / b ≤ a := Nat.div_le_self _ _
  rw [Int64.toInt_div, tl_i ha, tl_i hb, tl_i (by omega)]
  have : ((a : Int).tdiv (b : Int)) = ((a / b : Nat) : Int) := by
    rw [Int.tdiv_eq_ediv_of_nonneg (by omega)]
    rfl
  have h2 : (0 : Int) ≤ ((a / b : Nat) : Int) := Int.natCast_nonneg _
  rw [this]
  generalize a / b = q at *
  rw [l_bm] <;> omega
theorem tl_rem {a b : Nat} (ha : a < 10000) (hb : b < 10000) (h0 : 0 < b) : (nI a).toInt64 - (nI a).toInt64 / (nI b).toInt64 * (nI b).toInt64 = (nI (a % b)).toInt64 := by
  rw [tl_div (by omega) (by omega) h0]
  apply Int64.toInt_inj.mp
  have h1 : a / b ≤ a := Nat.div_le_self _ _
  have h2 := Nat.div_add_mod a b
  have h3 := Nat.mod_lt a h0
  have h4 : a / b * b = b * (a / b) := Nat.mul_comm _ _
  have e : ((a / b : Nat) : Int) * (b : Int) = ((b * (a / b) : Nat) : Int) := by rw [← h4]; rfl
  rw [Int64.toInt_sub, Int64.toInt_mul, tl_i (by omega), tl_i (by omega), tl_i (by omega), tl_i (by omega), e, l_bm, l_bm] <;> (try rw [l_bm]) <;> omega
theorem tl_0 {a : Nat} (h : a < 2147483648) : (nI a).toInt64 = 0 ↔ a = 0 := by
  rw [← Int64.toInt_inj, tl_i h, show (0 : Int64).toInt = 0 from rfl]
  omega
def cntF (V : VW) (sh seed : Int32) : Nat → Nat
  | 0 => 0
  | k + 1 => cntF V sh seed k + (if ¬ woV (vD V (seed + nI k)) sh 0 ≤ woV (vD V (seed + nI k)) sh 1 then 1 else 0)
theorem cntF_le {V : VW} {sh seed : Int32} : ∀ k, cntF V sh seed k ≤ k
  | 0 => Nat.le_refl _
  | k + 1 => by
    have := cntF_le (V := V) (sh := sh) (seed := seed) k
    unfold cntF
    split <;> omega
def chaF (c n : Nat) (part : Int32) : Int64 := if part = 0 then (nI c / gI 40 (nI c) (nI n)).toInt64 else (nI n / gI 40 (nI c) (nI n)).toInt64
theorem gI_pos : ∀ (k P Q : Nat), Q < k → ¬ (P = 0 ∧ Q = 0) → P < 10000 → Q < 10000 → ∃ G, 0 < G ∧ G < 10000 ∧ gI k (nI P) (nI Q) = nI G
  | 0, _, _, h, _, _, _ => by omega
  | k + 1, P, Q, h, h0, hP, hQ => by
    unfold gI
    by_cases e : Q = 0
    · subst e
      rw [if_pos (show nI 0 = 0 from rfl)]
      exact ⟨P, by omega, hP, rfl⟩
    · rw [if_neg (nI_ne0 (by omega) (by omega)), pk_rem (by omega) (by omega) (by omega)]
      have := Nat.mod_lt P (show 0 < Q by omega)
      exact gI_pos k Q (P % Q) (by omega) (by omega) hQ (by omega)
set_option maxRecDepth 100000 in
set_option maxHeartbeats 4000000 in
theorem l_chance2 {Z : LZ} {ad : Nat → Nat} {X : CX} {K : Int64 → St → Prop} {τ : St} {seed part : Int32} {c n : Nat} (B : Amb lyM Z ad (rmk 47) X cX6_chance wsX6_chance RX6 12 (some .long)) (hc : c ≤ 20) (hn : n ≤ 20) : ∀ (k P Q : Nat), Q < k → Q ≤ 20 → P ≤ 20 → ¬ (P = 0 ∧ Q = 0) → K (if part = 0 then (nI c / gI k (nI P) (nI Q)).toInt64 else (nI n / gI k (nI P) (nI Q)).toInt64) τ → GG lyM Z ad (rmk 47) X (rL K) 95 [some (.ref (ad 0)), some (.int seed), some (.int (nI n)), some (.int part), some (.long (nI c).toInt64), none, some (.long (nI P).toInt64), none, some (.long (nI Q).toInt64), none, none, none] [] τ := by
  intro k
  induction k with
  | zero => intro P Q h; omega
  | succ k ih =>
    intro P Q h1 h2 h3 h4 hK
    obtain ⟨G, hG0, hG1, eG⟩ := gI_pos (k + 1) P Q h1 h4 (by omega) (by omega)
    refine g_lload B dX6_chance_95 rfl ?_
    refine g_lconst (v := (0)) B dX6_chance_97 (by decide) ?_
    refine g_lcmp B dX6_chance_98 ?_
    refine g_if_eq (tgt := 120) B dX6_chance_99 (by decide) (fun c99 => ?_) (fun c99 => ?_)
    · rw [l_cmp_eq0, tl_0 (by omega)] at c99
      have eP : G = P := by
        have h9 := eG
        unfold gI at h9
        rw [if_pos (by rw [c99]; rfl)] at h9
        exact ((nI_eqI (by omega) (by omega)).mp h9).symm
      subst eP
      rw [eG] at hK
      refine g_iload_n B dX6_chance_120 rfl ?_
      refine g_if_ne (tgt := 132) B dX6_chance_121 (by decide) (fun c121 => ?_) (fun c121 => ?_)
      · refine g_iload_n B dX6_chance_132 rfl ?_
        refine g_i2l B dX6_chance_133 rfl ?_
        refine g_lload B dX6_chance_134 rfl ?_
        refine g_ldiv B dX6_chance_136 (by exact fun q => absurd ((tl_0 (by omega)).mp q) (by omega)) ?_
        refine g_lreti B dX6_chance_137 ?_
        first
          | (rw [if_pos c121, pk_div (by omega) (by omega) (by omega), ← tl_div (by omega) (by omega) (by omega)] at hK; exact hK)
          | (rw [if_neg c121, pk_div (by omega) (by omega) (by omega), ← tl_div (by omega) (by omega) (by omega)] at hK; exact hK)
      · refine g_lload B dX6_chance_124 rfl ?_
        refine g_lload B dX6_chance_126 rfl ?_
        refine g_ldiv B dX6_chance_128 (by exact fun q => absurd ((tl_0 (by omega)).mp q) (by omega)) ?_
        refine g_goto (tgt := 137) B dX6_chance_129 (by decide) ?_
        refine g_lreti B dX6_chance_137 ?_
        first
          | (rw [if_pos c121, pk_div (by omega) (by omega) (by omega), ← tl_div (by omega) (by omega) (by omega)] at hK; exact hK)
          | (rw [if_neg c121, pk_div (by omega) (by omega) (by omega), ← tl_div (by omega) (by omega) (by omega)] at hK; exact hK)
    · rw [l_cmp_eq0, tl_0 (by omega)] at c99
      unfold gI at hK
      rw [if_neg (nI_ne0 (by omega) (by omega)), pk_rem (by omega) (by omega) (by omega)] at hK
      refine g_lload B dX6_chance_102 rfl ?_
      refine g_lload B dX6_chance_104 rfl ?_
      refine g_lrem B dX6_chance_106 (by exact fun q => c99 ((tl_0 (by omega)).mp q)) ?_
      rw [tl_rem (by omega) (by omega) (by omega)]
      refine g_lstore B dX6_chance_107 (by decide) rfl ?_
      refine g_lload B dX6_chance_109 rfl ?_
      refine g_lstore B dX6_chance_111 (by decide) rfl ?_
      refine g_lload B dX6_chance_113 rfl ?_
      refine g_lstore B dX6_chance_115 (by decide) rfl ?_
      refine g_goto (tgt := 95) B dX6_chance_117 (by decide) ?_
      refine g_drop 10 ?_
      have := Nat.mod_lt P (show 0 < Q by omega)
      exact ih Q (P % Q) (by omega) (by omega) (by omega) (by omega) hK
set_option maxRecDepth 100000 in
set_option maxHeartbeats 4000000 in
theorem l_chance1 {Z : LZ} {ad : Nat → Nat} {X : CX} {K : Option Value → St → Prop} {τ0 : St} {seed part : Int32} {m n : Nat} {C : TC} (B : Amb lyM Z ad (rmk 47) X cX6_chance wsX6_chance RX6 12 (some .long)) (hC : RUL τ0 C) (hm6 : m ≤ 6) (hm : τ0.1 0 11 = nI m) (hn : n ≤ 20) (hK : ∀ τ', pkz [9] mS τ0 τ' → GG lyM Z ad (rmk 47) X K 87 [some (.ref (ad 0)), some (.int seed), some (.int (nI n)), some (.int part), some (.long (nI (cntF (vM τ0 C) (τ0.1 0 7) seed n)).toInt64), none, none, none, none, none, none, none] [] τ') : ∀ (k i : Nat) (τ : St), i + k = n → pkz [9] mS τ0 τ → GG lyM Z ad (rmk 47) X K 32 [some (.ref (ad 0)), some (.int seed), some (.int (nI n)), some (.int part), some (.long (nI (cntF (vM τ0 C) (τ0.1 0 7) seed i)).toInt64), none, some (.int (nI i)), none, none, none, none, none] [] τ := by
  intro k
  induction k using Nat.strongRecOn with
  | ind k ih =>
    intro i τ h1 hp
    have hC' := hC.pz hp (by decide) (by decide) (by decide)
    have eV : vM τ C = vM τ0 C := vM_pz hp (by decide) (by decide) (by decide) (by decide)
    have e11 : τ.1 0 11 = nI m := (hp.2.1 11 (by decide)).trans hm
    have e7 : τ.1 0 7 = τ0.1 0 7 := hp.2.1 7 (by decide)
    have hcl := cntF_le (V := vM τ0 C) (sh := τ0.1 0 7) (seed := seed) i
    refine g_iload B dX6_chance_32 rfl ?_
    refine g_iload_n B dX6_chance_34 rfl ?_
    refine g_icmp_ge (tgt := 87) B dX6_chance_35 (by decide) (fun c35 => ?_) (fun c35 => ?_)
    · rw [nI_leI (by omega) (by omega)] at c35
      have e : i = n := by omega
      subst e
      exact g_drop 6 (hK τ hp)
    · rw [nI_leI (by omega) (by omega)] at c35
      refine g_aload_n B dX6_chance_38 rfl ?_
      refine g_iload_n B dX6_chance_39 rfl ?_
      refine g_iload B dX6_chance_40 rfl ?_
      refine g_iadd B dX6_chance_42 ?_
      refine g_callVv (C := RX6) (As := [.int _]) B dX6_chance_43 (gc1 g_X6_403) (by rfl) ⟨rfl, hd_X6_draws⟩ (by exact ⟨Nat.le_of_ble_eq_true rfl, Nat.le_of_ble_eq_true rfl⟩) ⟨rfl, rfl⟩ rfl rfl (by exact Nat.le_of_ble_eq_true rfl) recvM (c_draws ?_)
      refine g_lload B dX6_chance_46 rfl ?_
      refine g_aload_n B dX6_chance_48 rfl ?_
      refine g_aload_n B dX6_chance_49 rfl ?_
      refine g_getI (T := TX6) (N := 42) B dX6_chance_50 (by decide) (by rfl) (inq inlX6) rfl 7 (by decide) (mq f_X6_104) (by rfl) ?_
      rw [drT_o (by decide) (by decide), e7]
      refine g_iconst (v := (0)) B dX6_chance_53 (by decide) ?_
      refine g_callVi (C := RX6) (As := [.int _, .int _]) B dX6_chance_54 (gc1 g_X6_353) (by rfl) ⟨rfl, hd_X6_worthBy⟩ (by exact ⟨Nat.le_of_ble_eq_true rfl, Nat.le_of_ble_eq_true rfl⟩) ⟨rfl, rfl⟩ rfl rfl (by exact Nat.le_of_ble_eq_true rfl) recvM (c_worthBy hC'.dr hm6 (by rw [drT_o (by decide) (by decide)]; exact e11) (fun τ1 p1 => ?_))
      refine g_aload_n B dX6_chance_57 rfl ?_
      refine g_aload_n B dX6_chance_58 rfl ?_
      refine g_getI (T := TX6) (N := 42) B dX6_chance_59 (by decide) (by rfl) (inq inlX6) rfl 7 (by decide) (mq f_X6_104) (by rfl) ?_
      rw [p1.2.1 7 (by decide), drT_o (by decide) (by decide), e7]
      refine g_iconst (v := (1)) B dX6_chance_62 (by decide) ?_
      refine g_callVi (C := RX6) (As := [.int _, .int _]) B dX6_chance_63 (gc1 g_X6_353) (by rfl) ⟨rfl, hd_X6_worthBy⟩ (by exact ⟨Nat.le_of_ble_eq_true rfl, Nat.le_of_ble_eq_true rfl⟩) ⟨rfl, rfl⟩ rfl rfl (by exact Nat.le_of_ble_eq_true rfl) recvM (c_worthBy (hC'.dr.pk p1) hm6 (by rw [p1.2.1 11 (by decide), drT_o (by decide) (by decide)]; exact e11) (fun τ2 p2 => ?_))
      rw [vM_pk p1 (by decide), vM_dr, eV]
      refine g_icmp_le (tgt := 73) B dX6_chance_66 (by decide) (fun c66 => ?_) (fun c66 => ?_)
      · refine g_lconst (v := (0)) B dX6_chance_73 (by decide) ?_
        refine g_ladd B dX6_chance_74 ?_
        refine g_lstore B dX6_chance_75 (by decide) rfl ?_
        refine g_aload_n B dX6_chance_77 rfl ?_
        refine g_callVv (C := RX6) (As := []) B dX6_chance_78 (gc1 g_X6_406) (by rfl) ⟨rfl, hd_X6_warms⟩ (by exact ⟨Nat.le_of_ble_eq_true rfl, Nat.le_of_ble_eq_true rfl⟩) ⟨rfl, rfl⟩ rfl rfl (by exact Nat.le_of_ble_eq_true rfl) recvM (c_warms ?_)
        refine g_iinc (c9 := (1)) B dX6_chance_81 rfl (by decide) (by decide) rfl ?_
        refine g_goto (tgt := 32) B dX6_chance_84 (by decide) ?_
        rw [nI_1 i]
        have h9 := ih (k - 1) (by omega) (i + 1) (cpG τ2 9 4 30) (by omega) (hp.trans (wm_sg (p1.trans p2)))
        unfold cntF at h9
        first
          | (rw [if_pos c66, ← tl_add (by omega)] at h9; exact h9)
          | (rw [if_neg (fun q => q c66), Nat.add_zero] at h9; rw [tl_add0]; exact h9)
      · refine g_lconst (v := (1)) B dX6_chance_69 (by decide) ?_
        refine g_goto (tgt := 74) B dX6_chance_70 (by decide) ?_
        refine g_ladd B dX6_chance_74 ?_
        refine g_lstore B dX6_chance_75 (by decide) rfl ?_
        refine g_aload_n B dX6_chance_77 rfl ?_
        refine g_callVv (C := RX6) (As := []) B dX6_chance_78 (gc1 g_X6_406) (by rfl) ⟨rfl, hd_X6_warms⟩ (by exact ⟨Nat.le_of_ble_eq_true rfl, Nat.le_of_ble_eq_true rfl⟩) ⟨rfl, rfl⟩ rfl rfl (by exact Nat.le_of_ble_eq_true rfl) recvM (c_warms ?_)
        refine g_iinc (c9 := (1)) B dX6_chance_81 rfl (by decide) (by decide) rfl ?_
        refine g_goto (tgt := 32) B dX6_chance_84 (by decide) ?_
        rw [nI_1 i]
        have h9 := ih (k - 1) (by omega) (i + 1) (cpG τ2 9 4 30) (by omega) (hp.trans (wm_sg (p1.trans p2)))
        unfold cntF at h9
        first
          | (rw [if_pos c66, ← tl_add (by omega)] at h9; exact h9)
          | (rw [if_neg (fun q => q c66), Nat.add_zero] at h9; rw [tl_add0]; exact h9)
def fChance (V : VW) (sh seed n part : Int32) : Int64 := if (1 ≤ n.toInt ∧ n.toInt ≤ 20) ∧ 0 ≤ part.toInt ∧ part.toInt ≤ 1 then chaF (cntF V sh seed n.toNatClampNeg) n.toNatClampNeg part else -4611686018427387904
set_option maxRecDepth 100000 in
set_option maxHeartbeats 4000000 in
theorem c_chance {Z : LZ} {ad : Nat → Nat} {τ : St} {K : Int64 → St → Prop} {x n y : Int32} {m : Nat} {C : TC} (hC : RUL τ C) (hm6 : m ≤ 6) (hm : τ.1 0 11 = nI m) (hK : ∀ τ', sg τ τ' → K (fChance (vM τ C) (τ.1 0 7) x n y) τ') : CC lyM Z ad yX6_chance wsX6_chance (rmk 47) [.ref (ad 0), .int x, .int n, .int y] τ (rL K) := by
  refine CC.of (cc := cX6_chance) (nL := 12) (ret := (some .long)) rfl rfl ⟨rfl, rfl⟩ (by exact Nat.le_of_ble_eq_true rfl) ?_
  intro X B
  change GG _ _ _ _ X _ 0 [some (.ref (ad 0)), some (.int x), some (.int n), some (.int y), none, none, none, none, none, none, none, none] [] _
  change Amb _ _ _ _ X _ _ RX6 _ _ at B
  unfold fChance at hK
  refine g_iload_n B dX6_chance_0 rfl ?_
  refine g_i2l B dX6_chance_1 rfl ?_
  refine g_lconst (v := (1)) B dX6_chance_2 (by decide) ?_
  refine g_ldc2 (v := (20)) B dX6_chance_3 (mq k_X6_409) ?_
  refine g_callSi (As := [.long _, .long _, .long _]) B dX6_chance_6 (gc1 g_X6_73) (by rfl) hd_X6_in (by exact ⟨Nat.le_of_ble_eq_true rfl, Nat.le_of_ble_eq_true rfl⟩) ⟨rfl, rfl⟩ rfl rfl (by exact Nat.le_of_ble_eq_true rfl) (c_in ?_)
  rw [in_a, show (1 : Int64).toInt = 1 from rfl, show (20 : Int64).toInt = 20 from rfl]
  refine g_if_eq (tgt := 22) B dX6_chance_9 (by decide) (fun c9 => ?_) (fun c9 => ?_)
  · have hno : ¬ ((1 ≤ n.toInt ∧ n.toInt ≤ 20) ∧ 0 ≤ y.toInt ∧ y.toInt ≤ 1) := fun q => by
      first
      | exact b1_0.mp c9 q.1
      | exact b1_0.mp c19 q.2
    rw [if_neg hno] at hK
    refine g_ldc2 (v := (-4611686018427387904)) B dX6_chance_22 (mq k_X6_360) ?_
    refine g_lreti B dX6_chance_25 ?_
    exact hK _ pkz.rf
  · refine g_iload_n B dX6_chance_12 rfl ?_
    refine g_i2l B dX6_chance_13 rfl ?_
    refine g_lconst (v := (0)) B dX6_chance_14 (by decide) ?_
    refine g_lconst (v := (1)) B dX6_chance_15 (by decide) ?_
    refine g_callSi (As := [.long _, .long _, .long _]) B dX6_chance_16 (gc1 g_X6_73) (by rfl) hd_X6_in (by exact ⟨Nat.le_of_ble_eq_true rfl, Nat.le_of_ble_eq_true rfl⟩) ⟨rfl, rfl⟩ rfl rfl (by exact Nat.le_of_ble_eq_true rfl) (c_in ?_)
    rw [in_0, show (1 : Int64).toInt = 1 from rfl]
    refine g_if_ne (tgt := 26) B dX6_chance_19 (by decide) (fun c19 => ?_) (fun c19 => ?_)
    · have hyes : (1 ≤ n.toInt ∧ n.toInt ≤ 20) ∧ 0 ≤ y.toInt ∧ y.toInt ≤ 1 := ⟨b1_n0.mp c9, b1_n0.mp c19⟩
      rw [if_pos hyes] at hK
      obtain ⟨n', hn', rfl⟩ := i_nat (x := n) (n := 21) (by have := hyes.1.1; omega) (by have := hyes.1.2; omega)
      have hn1 : 1 ≤ n' := by have := hyes.1.1; rw [i_n (by omega)] at this; omega
      rw [i_cl (by omega)] at hK
      refine g_lconst (v := (0)) B dX6_chance_26 (by decide) ?_
      refine g_lstore B dX6_chance_27 (by decide) rfl ?_
      refine g_iconst (v := (0)) B dX6_chance_29 (by decide) ?_
      refine g_istore B dX6_chance_30 (by decide) rfl ?_
      refine l_chance1 B hC hm6 hm (by omega) (fun τ1 p1 => ?_) n' 0 τ (by omega) pkz.rf
      refine g_lload B dX6_chance_87 rfl ?_
      refine g_lstore B dX6_chance_89 (by decide) rfl ?_
      refine g_iload_n B dX6_chance_91 rfl ?_
      refine g_i2l B dX6_chance_92 rfl ?_
      refine g_lstore B dX6_chance_93 (by decide) rfl ?_
      have hcl := cntF_le (V := vM τ C) (sh := τ.1 0 7) (seed := x) n'
      exact l_chance2 B (by omega) (by omega) 40 (cntF (vM τ C) (τ.1 0 7) x n') n' (by omega) (by omega) (by omega) (by omega) (hK τ1 (sg9 p1))
    · have hno : ¬ ((1 ≤ n.toInt ∧ n.toInt ≤ 20) ∧ 0 ≤ y.toInt ∧ y.toInt ≤ 1) := fun q => by
        first
        | exact b1_0.mp c9 q.1
        | exact b1_0.mp c19 q.2
      rw [if_neg hno] at hK
      refine g_ldc2 (v := (-4611686018427387904)) B dX6_chance_22 (mq k_X6_360) ?_
      refine g_lreti B dX6_chance_25 ?_
      exact hK _ pkz.rf

