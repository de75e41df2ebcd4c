/-! the best share's path; best, settle *reference* -/
def TBL (V : VW) (τ : St) (t : Nat) : Prop := ∀ t', t ≤ t' → t' < 30 → ∀ w, w < 2 → ∀ r, 1 ≤ r → r ≤ t' + 1 → entM V τ t' w r
def wdV (V : VW) : Nat := if ¬ dpV V 29 1 1 ≤ dpV V 29 0 1 then 1 else 0
def nxt (V : VW) (t w r : Nat) : Nat := if okV V (t + 1) 1 (rb w r 1) ∧ (¬ okV V (t + 1) 0 (rb w r 0) ∨ ¬ dpV V (28 - t) 1 (rb w r 1) ≤ dpV V (28 - t) 0 (rb w r 0)) then 1 else 0
/-- town, run, share so far -/
def pth (V : VW) : Nat → Nat × (Nat × Nat)
  | 0 => (wdV V, (1, wdV V))
  | t + 1 => (nxt V t (pth V t).1 (pth V t).2.1, (rb (pth V t).1 (pth V t).2.1 (nxt V t (pth V t).1 (pth V t).2.1), (pth V t).2.2 + nxt V t (pth V t).1 (pth V t).2.1 * 2 ^ (t + 1)))
def bsS (V : VW) : Int32 := nI (pth V 29).2.2
theorem nxt_lt {V : VW} {t w r : Nat} : nxt V t w r < 2 := by unfold nxt; split <;> omega
theorem wdV_lt {V : VW} : wdV V < 2 := by unfold wdV; split <;> omega
theorem pth_bd (V : VW) : ∀ t, (pth V t).1 < 2 ∧ 1 ≤ (pth V t).2.1 ∧ (pth V t).2.1 ≤ t + 1 ∧ (pth V t).2.2 < 2 ^ (t + 1)
  | 0 => ⟨wdV_lt, Nat.le_refl _, Nat.le_refl _, wdV_lt⟩
  | t + 1 => by
    obtain ⟨a, b, c, d⟩ := pth_bd V t
    have h1 := nxt_lt (V := V) (t := t) (w := (pth V t).1) (r := (pth V t).2.1)
    have h2 := rb_bd (w := (pth V t).1) (n := nxt V t (pth V t).1 (pth V t).2.1) b c
    refine ⟨h1, h2.1, h2.2, ?_⟩
    show (pth V t).2.2 + nxt V t (pth V t).1 (pth V t).2.1 * 2 ^ (t + 1) < 2 ^ (t + 2)
    have h3 : nxt V t (pth V t).1 (pth V t).2.1 * 2 ^ (t + 1) ≤ 1 * 2 ^ (t + 1) := Nat.mul_le_mul_right _ (by omega)
    have h4 : 2 ^ (t + 2) = 2 * 2 ^ (t + 1) := by rw [Nat.pow_succ]; omega
    omega
theorem nI_inj2 {a b : Nat} (ha : a < 100) (hb : b < 100) (h : nI a = nI b) : a = b := by
  have := congrArg Int32.toNatClampNeg h
  rw [i_cl (by omega), i_cl (by omega)] at this
  exact this
theorem sh_31 {t : Nat} (ht : t < 32) : nI t &&& 31 = nI t := by
  rw [pk_andN (by omega) 5 (by decide)]
  congr 1
  omega
theorem sh_sm {t : Nat} (ht : t < 32) : ((nI t).toBitVec.smod 32).toNat = t := by
  have : ∀ t, t < 32 → ((nI t).toBitVec.smod 32).toNat = t := by decide
  exact this t ht
theorem or_add {S n t : Nat} (hS : S < 2 ^ t) (hn : n < 2) (ht : t < 30) : nI S ||| (nI n <<< (nI t &&& 31)) = nI (S + n * 2 ^ t) := by
  have hp : 2 ^ t ≤ 2 ^ 29 := Nat.pow_le_pow_right (by decide) (by omega)
  have hm : n * 2 ^ t ≤ 1 * 2 ^ t := Nat.mul_le_mul_right _ (by omega)
  rw [sh_31 (by omega), pk_shlN (nI t) t (sh_sm (by omega)) (by omega)]
  apply Int32.toBitVec_inj.mp
  apply BitVec.eq_of_toNat_eq
  rw [Int32.toBitVec_or, BitVec.toNat_or, pk_tn (by omega), pk_tn (by omega), pk_tn (by omega)]
  rw [Nat.add_comm, Nat.mul_comm, Nat.two_pow_add_eq_or_of_lt hS, Nat.or_comm]
set_option maxRecDepth 100000 in
set_option maxHeartbeats 4000000 in
theorem l_bs1 {Z : LZ} {ad : Nat → Nat} {X : CX} {K : Option Value → St → Prop} {τ0 : St} {t m : Nat} {C : TC} (B : Amb lyM Z ad (rmk 45) X cX6_bestShare wsX6_bestShare RX6 8 (some .int)) (hC : RUL τ0 C) (ht : t < 30) (hm6 : m ≤ 6) (hm : τ0.1 0 11 = nI m) (hK : ∀ τ', pkz [7, 8] mS τ0 τ' → TBL (vM τ0 C) τ' t → GG lyM Z ad (rmk 45) X K 36 [some (.ref (ad 0)), some (.int (nI t)), none, none, none, none, none, none] [] τ') : ∀ (k r : Nat) (τ : St), 1 ≤ r → r + k = t + 2 → pkz [7, 8] mS τ0 τ → TBL (vM τ0 C) τ (t + 1) → (∀ w, w < 2 → ∀ r', 1 ≤ r' → r' < r → entM (vM τ0 C) τ t w r') → GG lyM Z ad (rmk 45) X K 9 [some (.ref (ad 0)), some (.int (nI t)), some (.int (nI r)), none, none, none, none, none] [] τ := by
  intro k
  induction k using Nat.strongRecOn with
  | ind k ih =>
    intro r τ h1 h2 hp hT hE
    have e11 : τ.1 0 11 = nI m := (hp.2.1 11 (by decide)).trans hm
    have eV : vM τ C = vM τ0 C := vM_pz hp (by decide) (by decide) (by decide) (by decide)
    have kp : ∀ {σ σ' : St} {w r0 : Nat}, w < 2 → 1 ≤ r0 → r0 ≤ t + 1 → (∀ j, j ≠ spt t w r0 → σ'.1 7 j = σ.1 7 j ∧ σ'.1 8 j = σ.1 8 j) → ∀ {V : VW} {t' w' r' : Nat}, t' < 30 → w' < 2 → 1 ≤ r' → r' ≤ t' + 1 → ¬ (t' = t ∧ w' = w ∧ r' = r0) → entM V σ t' w' r' → entM V σ' t' w' r' := fun hw hr1 hr2 hj _ _ _ _ ht' hw' h1' h2' hne he =>
      he.eq (hj _ (spt_ne hw' h1' (by omega) hw hr1 (by omega) hne)).1 (hj _ (spt_ne hw' h1' (by omega) hw hr1 (by omega) hne)).2
    refine g_iload_n B dX6_bestShare_9 rfl ?_
    refine g_iload_n B dX6_bestShare_10 rfl ?_
    refine g_iconst (v := (1)) B dX6_bestShare_11 (by decide) ?_
    refine g_iadd B dX6_bestShare_12 ?_
    rw [nI_1 t]
    refine g_icmp_gt (tgt := 36) B dX6_bestShare_13 (by decide) (fun c13 => ?_) (fun c13 => ?_)
    · have c13' := Int32.not_le.mpr c13
      rw [nI_leI (by omega) (by omega)] at c13'
      refine g_drop 2 (hK τ hp (fun t' a b w hw r' c d => ?_))
      by_cases e : t' = t
      · subst e
        exact hE w hw r' c (by omega)
      · exact hT t' (by omega) b w hw r' c d
    · have c13' := Int32.not_lt.mp c13
      rw [nI_leI (by omega) (by omega)] at c13'
      refine g_aload_n B dX6_bestShare_16 rfl ?_
      refine g_iload_n B dX6_bestShare_17 rfl ?_
      refine g_iconst (v := (0)) B dX6_bestShare_18 (by decide) ?_
      refine g_iload_n B dX6_bestShare_19 rfl ?_
      refine g_callVv (C := RX6) (As := [.int _, .int _, .int _]) B dX6_bestShare_20 (gc1 g_X6_371) (by rfl) ⟨rfl, hd_X6_fills⟩ (by exact ⟨Nat.le_of_ble_eq_true rfl, Nat.le_of_ble_eq_true rfl⟩) ⟨rfl, rfl⟩ rfl rfl (by exact Nat.le_of_ble_eq_true rfl) recvM (c_fills (hC.pz hp (by decide) (by decide) (by decide)) rfl ht (w := 0) rfl (by omega) (r := r) rfl h1 (by omega) hm6 e11 (fun h29 n hn r' a b => by rw [eV]; exact hT (t + 1) (Nat.le_refl _) (by omega) n hn r' a (by omega)) (fun τ1 p1 j1 e1 => ?_))
      have hp1 := hp.trans p1
      have eV1 : vM τ1 C = vM τ0 C := vM_pz hp1 (by decide) (by decide) (by decide) (by decide)
      rw [eV] at e1
      have hT1 : TBL (vM τ0 C) τ1 (t + 1) := fun t' a b w hw r' c d => kp (by omega) h1 (by omega) j1 b hw c d (by omega) (hT t' a b w hw r' c d)
      have hE1 : ∀ w, w < 2 → ∀ r', 1 ≤ r' → r' < r → entM (vM τ0 C) τ1 t w r' := fun w hw r' c d => kp (by omega) h1 (by omega) j1 ht hw c (by omega) (by omega) (hE w hw r' c d)
      refine g_aload_n B dX6_bestShare_23 rfl ?_
      refine g_iload_n B dX6_bestShare_24 rfl ?_
      refine g_iconst (v := (1)) B dX6_bestShare_25 (by decide) ?_
      refine g_iload_n B dX6_bestShare_26 rfl ?_
      refine g_callVv (C := RX6) (As := [.int _, .int _, .int _]) B dX6_bestShare_27 (gc1 g_X6_371) (by rfl) ⟨rfl, hd_X6_fills⟩ (by exact ⟨Nat.le_of_ble_eq_true rfl, Nat.le_of_ble_eq_true rfl⟩) ⟨rfl, rfl⟩ rfl rfl (by exact Nat.le_of_ble_eq_true rfl) recvM (c_fills (hC.pz hp1 (by decide) (by decide) (by decide)) rfl ht (w := 1) rfl (by omega) (r := r) rfl h1 (by omega) hm6 ((p1.2.1 11 (by decide)).trans e11) (fun h29 n hn r' a b => by rw [eV1]; exact hT1 (t + 1) (Nat.le_refl _) (by omega) n hn r' a (by omega)) (fun τ2 p2 j2 e2 => ?_))
      refine g_iinc (c9 := (1)) B dX6_bestShare_30 rfl (by decide) (by decide) rfl ?_
      refine g_goto (tgt := 9) B dX6_bestShare_33 (by decide) ?_
      rw [nI_1 r]
      rw [eV1] at e2
      refine ih (k - 1) (by omega) (r + 1) τ2 (by omega) (by omega) (hp1.trans p2) (fun t' a b w hw r' c d => kp (by omega) h1 (by omega) j2 b hw c d (by omega) (hT1 t' a b w hw r' c d)) (fun w hw r' c d => ?_)
      by_cases hrr : r' = r
      · subst hrr
        by_cases hww : w = 1
        · subst hww
          exact e2
        · have hw0 : w = 0 := by omega
          subst hw0
          exact kp (by omega) h1 (by omega) j2 ht (by omega) h1 (by omega) (by omega) e1
      · exact kp (by omega) h1 (by omega) j2 ht hw c (by omega) (by omega) (hE1 w hw r' c (by omega))
set_option maxRecDepth 100000 in
set_option maxHeartbeats 4000000 in
theorem l_bs2 {Z : LZ} {ad : Nat → Nat} {X : CX} {K : Option Value → St → Prop} {τ0 : St} {m : Nat} {C : TC} (B : Amb lyM Z ad (rmk 45) X cX6_bestShare wsX6_bestShare RX6 8 (some .int)) (hC : RUL τ0 C) (hm6 : m ≤ 6) (hm : τ0.1 0 11 = nI m) (hK : ∀ τ', pkz [7, 8] mS τ0 τ' → TBL (vM τ0 C) τ' 0 → GG lyM Z ad (rmk 45) X K 42 [some (.ref (ad 0)), none, none, none, none, none, none, none] [] τ') : ∀ (k : Nat) (x : Int32) (τ : St), k ≤ 30 → x = nI k + (-1) → pkz [7, 8] mS τ0 τ → TBL (vM τ0 C) τ k → GG lyM Z ad (rmk 45) X K 3 [some (.ref (ad 0)), some (.int x), none, none, none, none, none, none] [] τ := by
  intro k
  induction k with
  | zero =>
    intro x τ _ hx hp hT
    subst hx
    refine g_iload_n B dX6_bestShare_3 rfl ?_
    refine g_if_lt (tgt := 42) B dX6_bestShare_4 (by decide) (fun _ => g_drop 1 (hK τ hp hT)) (fun c4 => ?_)
    exact absurd (show nI 0 + (-1) < 0 by decide) c4
  | succ k ih =>
    intro x τ hk hx hp hT
    have hx : x = nI k := hx.trans (pk_m1 k)
    subst hx
    refine g_iload_n B dX6_bestShare_3 rfl ?_
    refine g_if_lt (tgt := 42) B dX6_bestShare_4 (by decide) (fun c4 => ?_) (fun c4 => ?_)
    · exact absurd (i_lt.mp c4) (by rw [i_n (by omega), i0]; omega)
    · refine g_iconst (v := (1)) B dX6_bestShare_7 (by decide) ?_
      refine g_istore_n B dX6_bestShare_8 (by decide) rfl ?_
      refine l_bs1 B (t := k) (hC.pz hp (by decide) (by decide) (by decide)) (by omega) hm6 ((hp.2.1 11 (by decide)).trans hm) (fun τ1 p1 hT1 => ?_) (k + 1) 1 τ (by omega) (by omega) pkz.rf (by rw [vM_pz hp (by decide) (by decide) (by decide) (by decide)]; exact hT) (fun w hw r' a b => by omega)
      rw [vM_pz hp (by decide) (by decide) (by decide) (by decide)] at hT1
      refine g_iinc (c9 := (-1)) B dX6_bestShare_36 rfl (by decide) (by decide) rfl ?_
      refine g_goto (tgt := 3) B dX6_bestShare_39 (by decide) ?_
      exact ih _ τ1 (by omega) rfl (hp.trans p1) hT1
theorem mQS {cs : List Nat} {a b : St} (h : pkz cs mS a b) : pkz cs mQ a b := h.mono (fun _ h => h) (fun k hk => List.mem_cons_of_mem _ (List.mem_cons_of_mem _ (List.mem_cons_of_mem _ hk)))
set_option maxRecDepth 100000 in
set_option maxHeartbeats 4000000 in
theorem l_bs3 {Z : LZ} {ad : Nat → Nat} {X : CX} {K : Int32 → St → Prop} {τ : St} {V : VW} (B : Amb lyM Z ad (rmk 45) X cX6_bestShare wsX6_bestShare RX6 8 (some .int)) (hT : TBL V τ 0) (hK : K (bsS V) τ) : ∀ (k i : Nat), i + k = 29 → GG lyM Z ad (rmk 45) X (rI K) 123 [some (.ref (ad 0)), some (.int (nI (pth V i).1)), some (.int (nI (pth V i).2.1)), some (.int (nI (pth V i).2.2)), some (.int (nI i)), none, none, none] [] τ := by
  intro k
  induction k using Nat.strongRecOn with
  | ind k ih =>
    intro i h1
    obtain ⟨b1', b2, b3, b4⟩ := pth_bd V i
    have b5 := fun n => rb_bd (w := (pth V i).1) (n := n) b2 b3
    have ent := fun (n : Nat) (hn : n < 2) (hi : i < 29) => hT (i + 1) (by omega) (by omega) n hn (rb (pth V i).1 (pth V i).2.1 n) (b5 n).1 (b5 n).2
    have hsp : ∀ n, n < 2 → i < 29 → spt (i + 1) n (rb (pth V i).1 (pth V i).2.1 n) < 1800 := fun n hn hi => by
      have := b5 n
      unfold spt; omega
    have hcl : ∀ n, n < 2 → i < 29 → (nI (spt (i + 1) n (rb (pth V i).1 (pth V i).2.1 n))).toNatClampNeg = spt (i + 1) n (rb (pth V i).1 (pth V i).2.1 n) := fun n hn hi => i_cl (by have := hsp n hn hi; omega)
    have e29 : 29 - (i + 1) = 28 - i := by omega
    refine g_iload B dX6_bestShare_123 rfl ?_
    refine g_bipush (v := (29)) B dX6_bestShare_125 (by decide) ?_
    refine g_icmp_ge (tgt := 229) B dX6_bestShare_127 (by decide) (fun c127 => ?_) (fun c127 => ?_)
    · refine g_iload_n B dX6_bestShare_229 rfl ?_
      refine g_ireti B dX6_bestShare_230 ?_
      rw [show (29 : Int32) = nI 29 from rfl, nI_leI (by omega) (by omega)] at c127
      have e : i = 29 := by omega
      subst e
      exact hK
    · rw [show (29 : Int32) = nI 29 from rfl, nI_leI (by omega) (by omega)] at c127
      have hi : i < 29 := by omega
      refine g_aload_n B dX6_bestShare_130 rfl ?_
      refine g_iload B dX6_bestShare_131 rfl ?_
      refine g_iload_n B dX6_bestShare_133 rfl ?_
      refine g_iload_n B dX6_bestShare_134 rfl ?_
      refine g_iconst (v := (0)) B dX6_bestShare_135 (by decide) ?_
      refine g_callVi (C := RX6) (As := [.int _, .int _, .int _, .int _]) B dX6_bestShare_136 (gc1 g_X6_368) (by rfl) ⟨rfl, hd_X6_spotBehind⟩ (by exact ⟨Nat.le_of_ble_eq_true rfl, Nat.le_of_ble_eq_true rfl⟩) ⟨rfl, rfl⟩ rfl rfl (by exact Nat.le_of_ble_eq_true rfl) recvM (c_spotBehind (t := i) (n := 0) rfl rfl b1' rfl (by omega) rfl (by omega) ?_)
      refine g_istore B dX6_bestShare_139 (by decide) rfl ?_
      refine g_aload_n B dX6_bestShare_141 rfl ?_
      refine g_iload B dX6_bestShare_142 rfl ?_
      refine g_iload_n B dX6_bestShare_144 rfl ?_
      refine g_iload_n B dX6_bestShare_145 rfl ?_
      refine g_iconst (v := (1)) B dX6_bestShare_146 (by decide) ?_
      refine g_callVi (C := RX6) (As := [.int _, .int _, .int _, .int _]) B dX6_bestShare_147 (gc1 g_X6_368) (by rfl) ⟨rfl, hd_X6_spotBehind⟩ (by exact ⟨Nat.le_of_ble_eq_true rfl, Nat.le_of_ble_eq_true rfl⟩) ⟨rfl, rfl⟩ rfl rfl (by exact Nat.le_of_ble_eq_true rfl) recvM (c_spotBehind (t := i) (n := 1) rfl rfl b1' rfl (by omega) rfl (by omega) ?_)
      refine g_istore B dX6_bestShare_150 (by decide) rfl ?_
      refine g_aload_n B dX6_bestShare_152 rfl ?_
      refine g_getR (T := TX6) (N := 42) B dX6_bestShare_153 (by decide) (by rfl) (inq inlX6) rfl 28 (by decide) (mq f_X6_35) (by rfl) ?_
      refine g_iload B dX6_bestShare_156 rfl ?_
      refine g_zald B dX6_bestShare_158 (by decide) (by rfl) (by exact vp_in_nI (hsp 1 (by omega) hi) (by omega)) ?_
      rw [hcl 1 (by omega) hi, (ent 1 (by omega) hi).1]
      refine g_if_eq (tgt := 193) B dX6_bestShare_159 (by decide) (fun c159 => ?_) (fun c159 => ?_)
      · refine g_iconst (v := (0)) B dX6_bestShare_193 (by decide) ?_
        have hn : nxt V i (pth V i).1 (pth V i).2.1 = 0 ∨ nxt V i (pth V i).1 (pth V i).2.1 = 1 := by
          have := nxt_lt (V := V) (t := i) (w := (pth V i).1) (r := (pth V i).2.1)
          omega
        first
          | rw [show (1 : Int32) = nI (nxt V i (pth V i).1 (pth V i).2.1) from congrArg nI (if_pos (And.intro (b1_n0.mp c159) (Or.inl (b1_0.mp c169)))).symm]
          | rw [show (1 : Int32) = nI (nxt V i (pth V i).1 (pth V i).2.1) from congrArg nI (if_pos (And.intro (b1_n0.mp c159) (Or.inr c186))).symm]
          | rw [show (0 : Int32) = nI (nxt V i (pth V i).1 (pth V i).2.1) from congrArg nI (if_neg (fun z => b1_0.mp c159 z.1)).symm]
          | rw [show (0 : Int32) = nI (nxt V i (pth V i).1 (pth V i).2.1) from congrArg nI (if_neg (fun z => z.2.elim (fun y => y (b1_n0.mp c169)) (fun y => y c186))).symm]
        refine g_istore B dX6_bestShare_194 (by decide) rfl ?_
        refine g_iload B dX6_bestShare_196 rfl ?_
        refine g_iload_n B dX6_bestShare_198 rfl ?_
        refine g_icmp_ne (tgt := 208) B dX6_bestShare_199 (by decide) (fun c199 => ?_) (fun c199 => ?_)
        · refine g_iconst (v := (1)) B dX6_bestShare_208 (by decide) ?_
          first
            | rw [show (1 : Int32) = nI (rb (pth V i).1 (pth V i).2.1 (nxt V i (pth V i).1 (pth V i).2.1)) from congrArg nI (if_neg (fun z => c199 (congrArg nI z))).symm]
            | rw [show nI (pth V i).2.1 + 1 = nI (rb (pth V i).1 (pth V i).2.1 (nxt V i (pth V i).1 (pth V i).2.1)) from (nI_1 _).trans (congrArg nI (if_pos (nI_inj2 (by omega) (by omega) c199)).symm)]
          refine g_istore_n B dX6_bestShare_209 (by decide) rfl ?_
          refine g_iload B dX6_bestShare_210 rfl ?_
          refine g_istore_n B dX6_bestShare_212 (by decide) rfl ?_
          refine g_iload_n B dX6_bestShare_213 rfl ?_
          refine g_iload B dX6_bestShare_214 rfl ?_
          refine g_iload B dX6_bestShare_216 rfl ?_
          refine g_iconst (v := (1)) B dX6_bestShare_218 (by decide) ?_
          refine g_iadd B dX6_bestShare_219 ?_
          refine g_ishl B dX6_bestShare_220 ?_
          refine g_ior B dX6_bestShare_221 ?_
          rw [nI_1 i, or_add b4 (by omega) (by omega)]
          refine g_istore_n B dX6_bestShare_222 (by decide) rfl ?_
          refine g_iinc (c9 := (1)) B dX6_bestShare_223 rfl (by decide) (by decide) rfl ?_
          refine g_goto (tgt := 123) B dX6_bestShare_226 (by decide) ?_
          rw [nI_1 i]
          refine g_drop 5 (g_drop 6 (g_drop 7 ?_))
          exact ih (k - 1) (by omega) (i + 1) (by omega)
        · refine g_iload_n B dX6_bestShare_202 rfl ?_
          refine g_iconst (v := (1)) B dX6_bestShare_203 (by decide) ?_
          refine g_iadd B dX6_bestShare_204 ?_
          refine g_goto (tgt := 209) B dX6_bestShare_205 (by decide) ?_
          first
            | rw [show (1 : Int32) = nI (rb (pth V i).1 (pth V i).2.1 (nxt V i (pth V i).1 (pth V i).2.1)) from congrArg nI (if_neg (fun z => c199 (congrArg nI z))).symm]
            | rw [show nI (pth V i).2.1 + 1 = nI (rb (pth V i).1 (pth V i).2.1 (nxt V i (pth V i).1 (pth V i).2.1)) from (nI_1 _).trans (congrArg nI (if_pos (nI_inj2 (by omega) (by omega) c199)).symm)]
          refine g_istore_n B dX6_bestShare_209 (by decide) rfl ?_
          refine g_iload B dX6_bestShare_210 rfl ?_
          refine g_istore_n B dX6_bestShare_212 (by decide) rfl ?_
          refine g_iload_n B dX6_bestShare_213 rfl ?_
          refine g_iload B dX6_bestShare_214 rfl ?_
          refine g_iload B dX6_bestShare_216 rfl ?_
          refine g_iconst (v := (1)) B dX6_bestShare_218 (by decide) ?_
          refine g_iadd B dX6_bestShare_219 ?_
          refine g_ishl B dX6_bestShare_220 ?_
          refine g_ior B dX6_bestShare_221 ?_
          rw [nI_1 i, or_add b4 (by omega) (by omega)]
          refine g_istore_n B dX6_bestShare_222 (by decide) rfl ?_
          refine g_iinc (c9 := (1)) B dX6_bestShare_223 rfl (by decide) (by decide) rfl ?_
          refine g_goto (tgt := 123) B dX6_bestShare_226 (by decide) ?_
          rw [nI_1 i]
          refine g_drop 5 (g_drop 6 (g_drop 7 ?_))
          exact ih (k - 1) (by omega) (i + 1) (by omega)
      · refine g_aload_n B dX6_bestShare_162 rfl ?_
        refine g_getR (T := TX6) (N := 42) B dX6_bestShare_163 (by decide) (by rfl) (inq inlX6) rfl 28 (by decide) (mq f_X6_35) (by rfl) ?_
        refine g_iload B dX6_bestShare_166 rfl ?_
        refine g_zald B dX6_bestShare_168 (by decide) (by rfl) (by exact vp_in_nI (hsp 0 (by omega) hi) (by omega)) ?_
        rw [hcl 0 (by omega) hi, (ent 0 (by omega) hi).1]
        refine g_if_eq (tgt := 189) B dX6_bestShare_169 (by decide) (fun c169 => ?_) (fun c169 => ?_)
        · refine g_iconst (v := (1)) B dX6_bestShare_189 (by decide) ?_
          refine g_goto (tgt := 194) B dX6_bestShare_190 (by decide) ?_
          have hn : nxt V i (pth V i).1 (pth V i).2.1 = 0 ∨ nxt V i (pth V i).1 (pth V i).2.1 = 1 := by
            have := nxt_lt (V := V) (t := i) (w := (pth V i).1) (r := (pth V i).2.1)
            omega
          first
            | rw [show (1 : Int32) = nI (nxt V i (pth V i).1 (pth V i).2.1) from congrArg nI (if_pos (And.intro (b1_n0.mp c159) (Or.inl (b1_0.mp c169)))).symm]
            | rw [show (1 : Int32) = nI (nxt V i (pth V i).1 (pth V i).2.1) from congrArg nI (if_pos (And.intro (b1_n0.mp c159) (Or.inr c186))).symm]
            | rw [show (0 : Int32) = nI (nxt V i (pth V i).1 (pth V i).2.1) from congrArg nI (if_neg (fun z => b1_0.mp c159 z.1)).symm]
            | rw [show (0 : Int32) = nI (nxt V i (pth V i).1 (pth V i).2.1) from congrArg nI (if_neg (fun z => z.2.elim (fun y => y (b1_n0.mp c169)) (fun y => y c186))).symm]
          refine g_istore B dX6_bestShare_194 (by decide) rfl ?_
          refine g_iload B dX6_bestShare_196 rfl ?_
          refine g_iload_n B dX6_bestShare_198 rfl ?_
          refine g_icmp_ne (tgt := 208) B dX6_bestShare_199 (by decide) (fun c199 => ?_) (fun c199 => ?_)
          · refine g_iconst (v := (1)) B dX6_bestShare_208 (by decide) ?_
            first
              | rw [show (1 : Int32) = nI (rb (pth V i).1 (pth V i).2.1 (nxt V i (pth V i).1 (pth V i).2.1)) from congrArg nI (if_neg (fun z => c199 (congrArg nI z))).symm]
              | rw [show nI (pth V i).2.1 + 1 = nI (rb (pth V i).1 (pth V i).2.1 (nxt V i (pth V i).1 (pth V i).2.1)) from (nI_1 _).trans (congrArg nI (if_pos (nI_inj2 (by omega) (by omega) c199)).symm)]
            refine g_istore_n B dX6_bestShare_209 (by decide) rfl ?_
            refine g_iload B dX6_bestShare_210 rfl ?_
            refine g_istore_n B dX6_bestShare_212 (by decide) rfl ?_
            refine g_iload_n B dX6_bestShare_213 rfl ?_
            refine g_iload B dX6_bestShare_214 rfl ?_
            refine g_iload B dX6_bestShare_216 rfl ?_
            refine g_iconst (v := (1)) B dX6_bestShare_218 (by decide) ?_
            refine g_iadd B dX6_bestShare_219 ?_
            refine g_ishl B dX6_bestShare_220 ?_
            refine g_ior B dX6_bestShare_221 ?_
            rw [nI_1 i, or_add b4 (by omega) (by omega)]
            refine g_istore_n B dX6_bestShare_222 (by decide) rfl ?_
            refine g_iinc (c9 := (1)) B dX6_bestShare_223 rfl (by decide) (by decide) rfl ?_
            refine g_goto (tgt := 123) B dX6_bestShare_226 (by decide) ?_
            rw [nI_1 i]
            refine g_drop 5 (g_drop 6 (g_drop 7 ?_))
            exact ih (k - 1) (by omega) (i + 1) (by omega)
          · refine g_iload_n B dX6_bestShare_202 rfl ?_
            refine g_iconst (v := (1)) B dX6_bestShare_203 (by decide) ?_
            refine g_iadd B dX6_bestShare_204 ?_
            refine g_goto (tgt := 209) B dX6_bestShare_205 (by decide) ?_
            first
              | rw [show (1 : Int32) = nI (rb (pth V i).1 (pth V i).2.1 (nxt V i (pth V i).1 (pth V i).2.1)) from congrArg nI (if_neg (fun z => c199 (congrArg nI z))).symm]
              | rw [show nI (pth V i).2.1 + 1 = nI (rb (pth V i).1 (pth V i).2.1 (nxt V i (pth V i).1 (pth V i).2.1)) from (nI_1 _).trans (congrArg nI (if_pos (nI_inj2 (by omega) (by omega) c199)).symm)]
            refine g_istore_n B dX6_bestShare_209 (by decide) rfl ?_
            refine g_iload B dX6_bestShare_210 rfl ?_
            refine g_istore_n B dX6_bestShare_212 (by decide) rfl ?_
            refine g_iload_n B dX6_bestShare_213 rfl ?_
            refine g_iload B dX6_bestShare_214 rfl ?_
            refine g_iload B dX6_bestShare_216 rfl ?_
            refine g_iconst (v := (1)) B dX6_bestShare_218 (by decide) ?_
            refine g_iadd B dX6_bestShare_219 ?_
            refine g_ishl B dX6_bestShare_220 ?_
            refine g_ior B dX6_bestShare_221 ?_
            rw [nI_1 i, or_add b4 (by omega) (by omega)]
            refine g_istore_n B dX6_bestShare_222 (by decide) rfl ?_
            refine g_iinc (c9 := (1)) B dX6_bestShare_223 rfl (by decide) (by decide) rfl ?_
            refine g_goto (tgt := 123) B dX6_bestShare_226 (by decide) ?_
            rw [nI_1 i]
            refine g_drop 5 (g_drop 6 (g_drop 7 ?_))
            exact ih (k - 1) (by omega) (i + 1) (by omega)
        · refine g_aload_n B dX6_bestShare_172 rfl ?_
          refine g_getR (T := TX6) (N := 42) B dX6_bestShare_173 (by decide) (by rfl) (inq inlX6) rfl 27 (by decide) (mq f_X6_32) (by rfl) ?_
          refine g_iload B dX6_bestShare_176 rfl ?_
          refine g_iald B dX6_bestShare_178 (by decide) (by rfl) (by exact vp_in_nI (hsp 1 (by omega) hi) (by omega)) ?_
          rw [hcl 1 (by omega) hi, (ent 1 (by omega) hi).2 (b1_n0.mp c159), e29]
          refine g_aload_n B dX6_bestShare_179 rfl ?_
          refine g_getR (T := TX6) (N := 42) B dX6_bestShare_180 (by decide) (by rfl) (inq inlX6) rfl 27 (by decide) (mq f_X6_32) (by rfl) ?_
          refine g_iload B dX6_bestShare_183 rfl ?_
          refine g_iald B dX6_bestShare_185 (by decide) (by rfl) (by exact vp_in_nI (hsp 0 (by omega) hi) (by omega)) ?_
          rw [hcl 0 (by omega) hi, (ent 0 (by omega) hi).2 (b1_n0.mp c169), e29]
          refine g_icmp_le (tgt := 193) B dX6_bestShare_186 (by decide) (fun c186 => ?_) (fun c186 => ?_)
          · refine g_iconst (v := (0)) B dX6_bestShare_193 (by decide) ?_
            have hn : nxt V i (pth V i).1 (pth V i).2.1 = 0 ∨ nxt V i (pth V i).1 (pth V i).2.1 = 1 := by
              have := nxt_lt (V := V) (t := i) (w := (pth V i).1) (r := (pth V i).2.1)
              omega
            first
              | rw [show (1 : Int32) = nI (nxt V i (pth V i).1 (pth V i).2.1) from congrArg nI (if_pos (And.intro (b1_n0.mp c159) (Or.inl (b1_0.mp c169)))).symm]
              | rw [show (1 : Int32) = nI (nxt V i (pth V i).1 (pth V i).2.1) from congrArg nI (if_pos (And.intro (b1_n0.mp c159) (Or.inr c186))).symm]
              | rw [show (0 : Int32) = nI (nxt V i (pth V i).1 (pth V i).2.1) from congrArg nI (if_neg (fun z => b1_0.mp c159 z.1)).symm]
              | rw [show (0 : Int32) = nI (nxt V i (pth V i).1 (pth V i).2.1) from congrArg nI (if_neg (fun z => z.2.elim (fun y => y (b1_n0.mp c169)) (fun y => y c186))).symm]
            refine g_istore B dX6_bestShare_194 (by decide) rfl ?_
            refine g_iload B dX6_bestShare_196 rfl ?_
            refine g_iload_n B dX6_bestShare_198 rfl ?_
            refine g_icmp_ne (tgt := 208) B dX6_bestShare_199 (by decide) (fun c199 => ?_) (fun c199 => ?_)
            · refine g_iconst (v := (1)) B dX6_bestShare_208 (by decide) ?_
              first
                | rw [show (1 : Int32) = nI (rb (pth V i).1 (pth V i).2.1 (nxt V i (pth V i).1 (pth V i).2.1)) from congrArg nI (if_neg (fun z => c199 (congrArg nI z))).symm]
                | rw [show nI (pth V i).2.1 + 1 = nI (rb (pth V i).1 (pth V i).2.1 (nxt V i (pth V i).1 (pth V i).2.1)) from (nI_1 _).trans (congrArg nI (if_pos (nI_inj2 (by omega) (by omega) c199)).symm)]
              refine g_istore_n B dX6_bestShare_209 (by decide) rfl ?_
              refine g_iload B dX6_bestShare_210 rfl ?_
              refine g_istore_n B dX6_bestShare_212 (by decide) rfl ?_
              refine g_iload_n B dX6_bestShare_213 rfl ?_
              refine g_iload B dX6_bestShare_214 rfl ?_
              refine g_iload B dX6_bestShare_216 rfl ?_
              refine g_iconst (v := (1)) B dX6_bestShare_218 (by decide) ?_
              refine g_iadd B dX6_bestShare_219 ?_
              refine g_ishl B dX6_bestShare_220 ?_
              refine g_ior B dX6_bestShare_221 ?_
              rw [nI_1 i, or_add b4 (by omega) (by omega)]
              refine g_istore_n B dX6_bestShare_222 (by decide) rfl ?_
              refine g_iinc (c9 := (1)) B dX6_bestShare_223 rfl (by decide) (by decide) rfl ?_
              refine g_goto (tgt := 123) B dX6_bestShare_226 (by decide) ?_
              rw [nI_1 i]
              refine g_drop 5 (g_drop 6 (g_drop 7 ?_))
              exact ih (k - 1) (by omega) (i + 1) (by omega)
            · refine g_iload_n B dX6_bestShare_202 rfl ?_
              refine g_iconst (v := (1)) B dX6_bestShare_203 (by decide) ?_
              refine g_iadd B dX6_bestShare_204 ?_
              refine g_goto (tgt := 209) B dX6_bestShare_205 (by decide) ?_
              first
                | rw [show (1 : Int32) = nI (rb (pth V i).1 (pth V i).2.1 (nxt V i (pth V i).1 (pth V i).2.1)) from congrArg nI (if_neg (fun z => c199 (congrArg nI z))).symm]
                | rw [show nI (pth V i).2.1 + 1 = nI (rb (pth V i).1 (pth V i).2.1 (nxt V i (pth V i).1 (pth V i).2.1)) from (nI_1 _).trans (congrArg nI (if_pos (nI_inj2 (by omega) (by omega) c199)).symm)]
              refine g_istore_n B dX6_bestShare_209 (by decide) rfl ?_
              refine g_iload B dX6_bestShare_210 rfl ?_
              refine g_istore_n B dX6_bestShare_212 (by decide) rfl ?_
              refine g_iload_n B dX6_bestShare_213 rfl ?_
              refine g_iload B dX6_bestShare_214 rfl ?_
              refine g_iload B dX6_bestShare_216 rfl ?_
              refine g_iconst (v := (1)) B dX6_bestShare_218 (by decide) ?_
              refine g_iadd B dX6_bestShare_219 ?_
              refine g_ishl B dX6_bestShare_220 ?_
              refine g_ior B dX6_bestShare_221 ?_
              rw [nI_1 i, or_add b4 (by omega) (by omega)]
              refine g_istore_n B dX6_bestShare_222 (by decide) rfl ?_
              refine g_iinc (c9 := (1)) B dX6_bestShare_223 rfl (by decide) (by decide) rfl ?_
              refine g_goto (tgt := 123) B dX6_bestShare_226 (by decide) ?_
              rw [nI_1 i]
              refine g_drop 5 (g_drop 6 (g_drop 7 ?_))
              exact ih (k - 1) (by omega) (i + 1) (by omega)
          · refine g_iconst (v := (1)) B dX6_bestShare_189 (by decide) ?_
            refine g_goto (tgt := 194) B dX6_bestShare_190 (by decide) ?_
            have hn : nxt V i (pth V i).1 (pth V i).2.1 = 0 ∨ nxt V i (pth V i).1 (pth V i).2.1 = 1 := by
              have := nxt_lt (V := V) (t := i) (w := (pth V i).1) (r := (pth V i).2.1)
              omega
            first
              | rw [show (1 : Int32) = nI (nxt V i (pth V i).1 (pth V i).2.1) from congrArg nI (if_pos (And.intro (b1_n0.mp c159) (Or.inl (b1_0.mp c169)))).symm]
              | rw [show (1 : Int32) = nI (nxt V i (pth V i).1 (pth V i).2.1) from congrArg nI (if_pos (And.intro (b1_n0.mp c159) (Or.inr c186))).symm]
              | rw [show (0 : Int32) = nI (nxt V i (pth V i).1 (pth V i).2.1) from congrArg nI (if_neg (fun z => b1_0.mp c159 z.1)).symm]
              | rw [show (0 : Int32) = nI (nxt V i (pth V i).1 (pth V i).2.1) from congrArg nI (if_neg (fun z => z.2.elim (fun y => y (b1_n0.mp c169)) (fun y => y c186))).symm]
            refine g_istore B dX6_bestShare_194 (by decide) rfl ?_
            refine g_iload B dX6_bestShare_196 rfl ?_
            refine g_iload_n B dX6_bestShare_198 rfl ?_
            refine g_icmp_ne (tgt := 208) B dX6_bestShare_199 (by decide) (fun c199 => ?_) (fun c199 => ?_)
            · refine g_iconst (v := (1)) B dX6_bestShare_208 (by decide) ?_
              first
                | rw [show (1 : Int32) = nI (rb (pth V i).1 (pth V i).2.1 (nxt V i (pth V i).1 (pth V i).2.1)) from congrArg nI (if_neg (fun z => c199 (congrArg nI z))).symm]
                | rw [show nI (pth V i).2.1 + 1 = nI (rb (pth V i).1 (pth V i).2.1 (nxt V i (pth V i).1 (pth V i).2.1)) from (nI_1 _).trans (congrArg nI (if_pos (nI_inj2 (by omega) (by omega) c199)).symm)]
              refine g_istore_n B dX6_bestShare_209 (by decide) rfl ?_
              refine g_iload B dX6_bestShare_210 rfl ?_
              refine g_istore_n B dX6_bestShare_212 (by decide) rfl ?_
              refine g_iload_n B dX6_bestShare_213 rfl ?_
              refine g_iload B dX6_bestShare_214 rfl ?_
              refine g_iload B dX6_bestShare_216 rfl ?_
              refine g_iconst (v := (1)) B dX6_bestShare_218 (by decide) ?_
              refine g_iadd B dX6_bestShare_219 ?_
              refine g_ishl B dX6_bestShare_220 ?_
              refine g_ior B dX6_bestShare_221 ?_
              rw [nI_1 i, or_add b4 (by omega) (by omega)]
              refine g_istore_n B dX6_bestShare_222 (by decide) rfl ?_
              refine g_iinc (c9 := (1)) B dX6_bestShare_223 rfl (by decide) (by decide) rfl ?_
              refine g_goto (tgt := 123) B dX6_bestShare_226 (by decide) ?_
              rw [nI_1 i]
              refine g_drop 5 (g_drop 6 (g_drop 7 ?_))
              exact ih (k - 1) (by omega) (i + 1) (by omega)
            · refine g_iload_n B dX6_bestShare_202 rfl ?_
              refine g_iconst (v := (1)) B dX6_bestShare_203 (by decide) ?_
              refine g_iadd B dX6_bestShare_204 ?_
              refine g_goto (tgt := 209) B dX6_bestShare_205 (by decide) ?_
              first
                | rw [show (1 : Int32) = nI (rb (pth V i).1 (pth V i).2.1 (nxt V i (pth V i).1 (pth V i).2.1)) from congrArg nI (if_neg (fun z => c199 (congrArg nI z))).symm]
                | rw [show nI (pth V i).2.1 + 1 = nI (rb (pth V i).1 (pth V i).2.1 (nxt V i (pth V i).1 (pth V i).2.1)) from (nI_1 _).trans (congrArg nI (if_pos (nI_inj2 (by omega) (by omega) c199)).symm)]
              refine g_istore_n B dX6_bestShare_209 (by decide) rfl ?_
              refine g_iload B dX6_bestShare_210 rfl ?_
              refine g_istore_n B dX6_bestShare_212 (by decide) rfl ?_
              refine g_iload_n B dX6_bestShare_213 rfl ?_
              refine g_iload B dX6_bestShare_214 rfl ?_
              refine g_iload B dX6_bestShare_216 rfl ?_
              refine g_iconst (v := (1)) B dX6_bestShare_218 (by decide) ?_
              refine g_iadd B dX6_bestShare_219 ?_
              refine g_ishl B dX6_bestShare_220 ?_
              refine g_ior B dX6_bestShare_221 ?_
              rw [nI_1 i, or_add b4 (by omega) (by omega)]
              refine g_istore_n B dX6_bestShare_222 (by decide) rfl ?_
              refine g_iinc (c9 := (1)) B dX6_bestShare_223 rfl (by decide) (by decide) rfl ?_
              refine g_goto (tgt := 123) B dX6_bestShare_226 (by decide) ?_
              rw [nI_1 i]
              refine g_drop 5 (g_drop 6 (g_drop 7 ?_))
              exact ih (k - 1) (by omega) (i + 1) (by omega)
set_option maxRecDepth 100000 in
set_option maxHeartbeats 4000000 in
theorem l_bs4 {Z : LZ} {ad : Nat → Nat} {X : CX} {K : Int32 → St → Prop} {τ : St} {V : VW} (B : Amb lyM Z ad (rmk 45) X cX6_bestShare wsX6_bestShare RX6 8 (some .int)) (hT : TBL V τ 0) (hK : K (bsS V) (upS τ 0 29 (dpV V 29 (wdV V) 1))) : GG lyM Z ad (rmk 45) X (rI K) 42 [some (.ref (ad 0)), none, none, none, none, none, none, none] [] τ := by
  have ent := fun (w : Nat) (hw : w < 2) => hT 0 (by omega) (by omega) w hw 1 (by omega) (by omega)
  have h1 : (1 : Int32) = nI 1 := rfl
  have h0 : (0 : Int32) = nI 0 := rfl
  have hcl : ∀ w, w < 2 → (nI (spt 0 w 1)).toNatClampNeg = spt 0 w 1 := fun w hw => i_cl (by unfold spt; omega)
  have hsp : ∀ w, w < 2 → vp_in (nI (spt 0 w 1)) 1800 := fun w hw => vp_in_nI (by unfold spt; omega) (by omega)
  have hw := wdV_lt (V := V)
  refine g_aload_n B dX6_bestShare_42 rfl ?_
  refine g_getR (T := TX6) (N := 42) B dX6_bestShare_43 (by decide) (by rfl) (inq inlX6) rfl 28 (by decide) (mq f_X6_35) (by rfl) ?_
  refine g_iconst (v := (0)) B dX6_bestShare_46 (by decide) ?_
  refine g_iconst (v := (1)) B dX6_bestShare_47 (by decide) ?_
  refine g_iconst (v := (1)) B dX6_bestShare_48 (by decide) ?_
  refine g_callSi (As := [.int _, .int _, .int _]) B dX6_bestShare_49 (gc1 g_X6_365) (by rfl) hd_X6_spot (by exact ⟨Nat.le_of_ble_eq_true rfl, Nat.le_of_ble_eq_true rfl⟩) ⟨rfl, rfl⟩ rfl rfl (by exact Nat.le_of_ble_eq_true rfl) (c_spot (t := 0) (w := 1) (r := 1) rfl rfl rfl (by omega) ?_)
  refine g_zald B dX6_bestShare_52 (by decide) (by rfl) (by exact hsp 1 (by omega)) ?_
  rw [hcl 1 (by omega), (ent 1 (by omega)).1, b1_t (okV_1 V 0 1)]
  refine g_if_eq (tgt := 99) B dX6_bestShare_53 (by decide) (fun c53 => ?_) (fun c53 => ?_)
  · exact absurd c53 (by decide)
  · refine g_aload_n B dX6_bestShare_56 rfl ?_
    refine g_getR (T := TX6) (N := 42) B dX6_bestShare_57 (by decide) (by rfl) (inq inlX6) rfl 28 (by decide) (mq f_X6_35) (by rfl) ?_
    refine g_iconst (v := (0)) B dX6_bestShare_60 (by decide) ?_
    refine g_iconst (v := (0)) B dX6_bestShare_61 (by decide) ?_
    refine g_iconst (v := (1)) B dX6_bestShare_62 (by decide) ?_
    refine g_callSi (As := [.int _, .int _, .int _]) B dX6_bestShare_63 (gc1 g_X6_365) (by rfl) hd_X6_spot (by exact ⟨Nat.le_of_ble_eq_true rfl, Nat.le_of_ble_eq_true rfl⟩) ⟨rfl, rfl⟩ rfl rfl (by exact Nat.le_of_ble_eq_true rfl) (c_spot (t := 0) (w := 0) (r := 1) rfl rfl rfl (by omega) ?_)
    refine g_zald B dX6_bestShare_66 (by decide) (by rfl) (by exact hsp 0 (by omega)) ?_
    rw [hcl 0 (by omega), (ent 0 (by omega)).1, b1_t (okV_1 V 0 0)]
    refine g_if_eq (tgt := 95) B dX6_bestShare_67 (by decide) (fun c67 => ?_) (fun c67 => ?_)
    · exact absurd c67 (by decide)
    · refine g_aload_n B dX6_bestShare_70 rfl ?_
      refine g_getR (T := TX6) (N := 42) B dX6_bestShare_71 (by decide) (by rfl) (inq inlX6) rfl 27 (by decide) (mq f_X6_32) (by rfl) ?_
      refine g_iconst (v := (0)) B dX6_bestShare_74 (by decide) ?_
      refine g_iconst (v := (1)) B dX6_bestShare_75 (by decide) ?_
      refine g_iconst (v := (1)) B dX6_bestShare_76 (by decide) ?_
      refine g_callSi (As := [.int _, .int _, .int _]) B dX6_bestShare_77 (gc1 g_X6_365) (by rfl) hd_X6_spot (by exact ⟨Nat.le_of_ble_eq_true rfl, Nat.le_of_ble_eq_true rfl⟩) ⟨rfl, rfl⟩ rfl rfl (by exact Nat.le_of_ble_eq_true rfl) (c_spot (t := 0) (w := 1) (r := 1) rfl rfl rfl (by omega) ?_)
      refine g_iald B dX6_bestShare_80 (by decide) (by rfl) (by exact hsp 1 (by omega)) ?_
      rw [hcl 1 (by omega), (ent 1 (by omega)).2 (okV_1 V 0 1)]
      refine g_aload_n B dX6_bestShare_81 rfl ?_
      refine g_getR (T := TX6) (N := 42) B dX6_bestShare_82 (by decide) (by rfl) (inq inlX6) rfl 27 (by decide) (mq f_X6_32) (by rfl) ?_
      refine g_iconst (v := (0)) B dX6_bestShare_85 (by decide) ?_
      refine g_iconst (v := (0)) B dX6_bestShare_86 (by decide) ?_
      refine g_iconst (v := (1)) B dX6_bestShare_87 (by decide) ?_
      refine g_callSi (As := [.int _, .int _, .int _]) B dX6_bestShare_88 (gc1 g_X6_365) (by rfl) hd_X6_spot (by exact ⟨Nat.le_of_ble_eq_true rfl, Nat.le_of_ble_eq_true rfl⟩) ⟨rfl, rfl⟩ rfl rfl (by exact Nat.le_of_ble_eq_true rfl) (c_spot (t := 0) (w := 0) (r := 1) rfl rfl rfl (by omega) ?_)
      refine g_iald B dX6_bestShare_91 (by decide) (by rfl) (by exact hsp 0 (by omega)) ?_
      rw [hcl 0 (by omega), (ent 0 (by omega)).2 (okV_1 V 0 0)]
      refine g_icmp_le (tgt := 99) B dX6_bestShare_92 (by decide) (fun c92 => ?_) (fun c92 => ?_)
      · refine g_iconst (v := (0)) B dX6_bestShare_99 (by decide) ?_
        first
          | rw [show (1 : Int32) = nI (wdV V) from congrArg nI (if_pos c92).symm]
          | rw [show (0 : Int32) = nI (wdV V) from congrArg nI (if_neg (fun z => z c92)).symm]
        refine g_istore_n B dX6_bestShare_100 (by decide) rfl ?_
        refine g_iconst (v := (1)) B dX6_bestShare_101 (by decide) ?_
        refine g_istore_n B dX6_bestShare_102 (by decide) rfl ?_
        refine g_aload_n B dX6_bestShare_103 rfl ?_
        refine g_aload_n B dX6_bestShare_104 rfl ?_
        refine g_getR (T := TX6) (N := 42) B dX6_bestShare_105 (by decide) (by rfl) (inq inlX6) rfl 27 (by decide) (mq f_X6_32) (by rfl) ?_
        refine g_iconst (v := (0)) B dX6_bestShare_108 (by decide) ?_
        refine g_iload_n B dX6_bestShare_109 rfl ?_
        refine g_iconst (v := (1)) B dX6_bestShare_110 (by decide) ?_
        refine g_callSi (As := [.int _, .int _, .int _]) B dX6_bestShare_111 (gc1 g_X6_365) (by rfl) hd_X6_spot (by exact ⟨Nat.le_of_ble_eq_true rfl, Nat.le_of_ble_eq_true rfl⟩) ⟨rfl, rfl⟩ rfl rfl (by exact Nat.le_of_ble_eq_true rfl) (c_spot (t := 0) (w := wdV V) (r := 1) rfl rfl rfl (by omega) ?_)
        refine g_iald B dX6_bestShare_114 (by decide) (by rfl) (by exact hsp _ hw) ?_
        rw [hcl _ hw, (ent _ hw).2 (okV_1 V 0 _)]
        refine g_putI (T := TX6) (N := 42) B dX6_bestShare_115 (by decide) (by rfl) (inq inlX6) rfl 29 (by decide) (mq f_X6_374) tyX6_ok nmX6 rfl ⟨rfl, rfl⟩ (by rfl) ?_
        refine g_iload_n B dX6_bestShare_118 rfl ?_
        refine g_istore_n B dX6_bestShare_119 (by decide) rfl ?_
        refine g_iconst (v := (0)) B dX6_bestShare_120 (by decide) ?_
        refine g_istore B dX6_bestShare_121 (by decide) rfl ?_
        exact l_bs3 B (fun t' a b w hw r' c d => (hT t' a b w hw r' c d).eq (by rw [upS_3 (by decide)]) (by rw [upS_3 (by decide)])) hK 29 0 rfl
      · refine g_iconst (v := (1)) B dX6_bestShare_95 (by decide) ?_
        refine g_goto (tgt := 100) B dX6_bestShare_96 (by decide) ?_
        first
          | rw [show (1 : Int32) = nI (wdV V) from congrArg nI (if_pos c92).symm]
          | rw [show (0 : Int32) = nI (wdV V) from congrArg nI (if_neg (fun z => z c92)).symm]
        refine g_istore_n B dX6_bestShare_100 (by decide) rfl ?_
        refine g_iconst (v := (1)) B dX6_bestShare_101 (by decide) ?_
        refine g_istore_n B dX6_bestShare_102 (by decide) rfl ?_
        refine g_aload_n B dX6_bestShare_103 rfl ?_
        refine g_aload_n B dX6_bestShare_104 rfl ?_
        refine g_getR (T := TX6) (N := 42) B dX6_bestShare_105 (by decide) (by rfl) (inq inlX6) rfl 27 (by decide) (mq f_X6_32) (by rfl) ?_
        refine g_iconst (v := (0)) B dX6_bestShare_108 (by decide) ?_
        refine g_iload_n B dX6_bestShare_109 rfl ?_
        refine g_iconst (v := (1)) B dX6_bestShare_110 (by decide) ?_
        refine g_callSi (As := [.int _, .int _, .int _]) B dX6_bestShare_111 (gc1 g_X6_365) (by rfl) hd_X6_spot (by exact ⟨Nat.le_of_ble_eq_true rfl, Nat.le_of_ble_eq_true rfl⟩) ⟨rfl, rfl⟩ rfl rfl (by exact Nat.le_of_ble_eq_true rfl) (c_spot (t := 0) (w := wdV V) (r := 1) rfl rfl rfl (by omega) ?_)
        refine g_iald B dX6_bestShare_114 (by decide) (by rfl) (by exact hsp _ hw) ?_
        rw [hcl _ hw, (ent _ hw).2 (okV_1 V 0 _)]
        refine g_putI (T := TX6) (N := 42) B dX6_bestShare_115 (by decide) (by rfl) (inq inlX6) rfl 29 (by decide) (mq f_X6_374) tyX6_ok nmX6 rfl ⟨rfl, rfl⟩ (by rfl) ?_
        refine g_iload_n B dX6_bestShare_118 rfl ?_
        refine g_istore_n B dX6_bestShare_119 (by decide) rfl ?_
        refine g_iconst (v := (0)) B dX6_bestShare_120 (by decide) ?_
        refine g_istore B dX6_bestShare_121 (by decide) rfl ?_
        exact l_bs3 B (fun t' a b w hw r' c d => (hT t' a b w hw r' c d).eq (by rw [upS_3 (by decide)]) (by rw [upS_3 (by decide)])) hK 29 0 rfl
set_option maxRecDepth 100000 in
set_option maxHeartbeats 4000000 in
theorem c_bestShare {Z : LZ} {ad : Nat → Nat} {τ : St} {K : Int32 → St → Prop} {m : Nat} {C : TC} (hC : RUL τ C) (hm6 : m ≤ 6) (hm : τ.1 0 11 = nI m) (hK : ∀ τ', pkz [7, 8] mQ τ τ' → τ'.1 0 29 = dpV (vM τ C) 29 (wdV (vM τ C)) 1 → K (bsS (vM τ C)) τ') : CC lyM Z ad yX6_bestShare wsX6_bestShare (rmk 45) [.ref (ad 0)] τ (rI K) := by
  refine CC.of (cc := cX6_bestShare) (nL := 8) (ret := (some .int)) rfl rfl ⟨rfl, rfl⟩ (by exact Nat.le_of_ble_eq_true rfl) ?_
  intro X B
  change GG _ _ _ _ X _ 0 [some (.ref (ad 0)), none, none, none, none, none, none, none] [] _
  change Amb _ _ _ _ X _ _ RX6 _ _ at B
  refine g_bipush (v := (29)) B dX6_bestShare_0 (by decide) ?_
  refine g_istore_n B dX6_bestShare_2 (by decide) rfl ?_
  exact l_bs2 B hC hm6 hm (fun τ1 p1 hT1 => l_bs4 B hT1 (hK _ ((mQS p1).up0 (by decide)) upS_1)) 30 29 τ (Nat.le_refl _) (by decide) pkz.rf (fun t' a b => by omega)
def fBest (V : VW) (what : Int32) : Int32 := if 0 ≤ what.toInt ∧ what.toInt ≤ 1 then (if what = 0 then bsS V else dpV V 29 (wdV V) 1) else -1000000
set_option maxRecDepth 100000 in
set_option maxHeartbeats 4000000 in
theorem c_best {Z : LZ} {ad : Nat → Nat} {τ : St} {K : Int32 → St → Prop} {x : Int32} {m : Nat} {C : TC} (hC : RUL τ C) (hm6 : m ≤ 6) (hm : τ.1 0 11 = nI m) (hK : ∀ τ', pkz [7, 8] mQ τ τ' → K (fBest (vM τ C) x) τ') : CC lyM Z ad yX6_best wsX6_best (rmk 46) [.ref (ad 0), .int x] τ (rI K) := by
  refine CC.of (cc := cX6_best) (nL := 3) (ret := (some .int)) rfl rfl ⟨rfl, rfl⟩ (by exact Nat.le_of_ble_eq_true rfl) ?_
  intro X B
  change GG _ _ _ _ X _ 0 [some (.ref (ad 0)), some (.int x), none] [] _
  change Amb _ _ _ _ X _ _ RX6 _ _ at B
  unfold fBest at hK
  refine g_iload_n B dX6_best_0 rfl ?_
  refine g_i2l B dX6_best_1 rfl ?_
  refine g_lconst (v := (0)) B dX6_best_2 (by decide) ?_
  refine g_lconst (v := (1)) B dX6_best_3 (by decide) ?_
  refine g_callSi (As := [.long _, .long _, .long _]) B dX6_best_4 (gc1 g_X6_73) (by rfl) hd_X6_in (by exact ⟨Nat.le_of_ble_eq_true rfl, Nat.le_of_ble_eq_true rfl⟩) ⟨rfl, rfl⟩ rfl rfl (by exact Nat.le_of_ble_eq_true rfl) (c_in ?_)
  rw [in_0, show (1 : Int64).toInt = 1 from rfl]
  refine g_if_ne (tgt := 14) B dX6_best_7 (by decide) (fun c7 => ?_) (fun c7 => ?_)
  · rw [if_pos (b1_n0.mp c7)] at hK
    refine g_aload_n B dX6_best_14 rfl ?_
    refine g_callVi (C := RX6) (As := []) B dX6_best_15 (gc1 g_X6_377) (by rfl) ⟨rfl, hd_X6_bestShare⟩ (by exact ⟨Nat.le_of_ble_eq_true rfl, Nat.le_of_ble_eq_true rfl⟩) ⟨rfl, rfl⟩ rfl rfl (by exact Nat.le_of_ble_eq_true rfl) recvM (c_bestShare hC hm6 hm (fun τ1 p1 ha => ?_))
    refine g_istore_n B dX6_best_18 (by decide) rfl ?_
    refine g_iload_n B dX6_best_19 rfl ?_
    refine g_if_ne (tgt := 27) B dX6_best_20 (by decide) (fun c20 => ?_) (fun c20 => ?_)
    · refine g_aload_n B dX6_best_27 rfl ?_
      refine g_getI (T := TX6) (N := 42) B dX6_best_28 (by decide) (by rfl) (inq inlX6) rfl 29 (by decide) (mq f_X6_374) (by rfl) ?_
      refine g_ireti B dX6_best_31 ?_
      first
        | exact hK τ pkz.rf
        | (have h9 := hK τ1 p1
           first
           | (rw [if_pos c20] at h9; exact h9)
           | (rw [if_neg c20] at h9; exact kk ha h9))
    · refine g_iload_n B dX6_best_23 rfl ?_
      refine g_goto (tgt := 31) B dX6_best_24 (by decide) ?_
      refine g_ireti B dX6_best_31 ?_
      first
        | exact hK τ pkz.rf
        | (have h9 := hK τ1 p1
           first
           | (rw [if_pos c20] at h9; exact h9)
           | (rw [if_neg c20] at h9; exact kk ha h9))
  · rw [if_neg (b1_0.mp c7)] at hK
    refine g_ldcw (v := (-1000000)) B dX6_best_10 (mq k_X6_356) ?_
    refine g_ireti B dX6_best_13 ?_
    first
      | exact hK τ pkz.rf
      | (have h9 := hK τ1 p1
         first
         | (rw [if_pos c20] at h9; exact h9)
         | (rw [if_neg c20] at h9; exact kk ha h9))
set_option maxRecDepth 100000 in
set_option maxHeartbeats 4000000 in
theorem c_settle {Z : LZ} {ad : Nat → Nat} {τ : St} {K : Int32 → St → Prop} {m : Nat} {C : TC} (hC : RUL τ C) (hm6 : m ≤ 6) (hm : τ.1 0 11 = nI m) (hK : ∀ τ', pkz [7, 8] (7 :: mQ) τ τ' → τ'.1 0 7 = bsS (vM τ C) → K (dpV (vM τ C) 29 (wdV (vM τ C)) 1) τ') : CC lyM Z ad yX6_settle wsX6_settle (rmk 46) [.ref (ad 0)] τ (rI K) := by
  refine CC.of (cc := cX6_settle) (nL := 1) (ret := (some .int)) rfl rfl ⟨rfl, rfl⟩ (by exact Nat.le_of_ble_eq_true rfl) ?_
  intro X B
  change GG _ _ _ _ X _ 0 [some (.ref (ad 0))] [] _
  change Amb _ _ _ _ X _ _ RX6 _ _ at B
  refine g_aload_n B dX6_settle_0 rfl ?_
  refine g_aload_n B dX6_settle_1 rfl ?_
  refine g_callVi (C := RX6) (As := []) B dX6_settle_2 (gc1 g_X6_377) (by rfl) ⟨rfl, hd_X6_bestShare⟩ (by exact ⟨Nat.le_of_ble_eq_true rfl, Nat.le_of_ble_eq_true rfl⟩) ⟨rfl, rfl⟩ rfl rfl (by exact Nat.le_of_ble_eq_true rfl) recvM (c_bestShare hC hm6 hm (fun τ1 p1 ha => ?_))
  refine g_putI (T := TX6) (N := 42) B dX6_settle_5 (by decide) (by rfl) (inq inlX6) rfl 7 (by decide) (mq f_X6_104) tyX6_ok nmX6 rfl ⟨rfl, rfl⟩ (by rfl) ?_
  refine g_aload_n B dX6_settle_8 rfl ?_
  refine g_getI (T := TX6) (N := 42) B dX6_settle_9 (by decide) (by rfl) (inq inlX6) rfl 29 (by decide) (mq f_X6_374) (by rfl) ?_
  refine g_ireti B dX6_settle_12 ?_
  refine kk ?_ (hK _ ((p1.mono (fun _ h => h) (fun k h => List.mem_cons_of_mem _ h)).up0 (by decide)) upS_1)
  rw [upS_2 (by decide), ha]

