/-! shares: whose a night is, its run, what one has of it, what all have; the reference's methods of these -/
def sTw (sh : Int32) (t : Nat) : Int32 := nI (sh.toBitVec.toNat / 2 ^ t % 2)
def sRn (sh : Int32) : Nat → Nat
  | 0 => 1
  | t + 1 => if sTw sh (t + 1) = sTw sh t then sRn sh t + 1 else 1
theorem sRn_le (sh : Int32) : ∀ t, 1 ≤ sRn sh t ∧ sRn sh t ≤ t + 1
  | 0 => ⟨Nat.le_refl _, Nat.le_refl _⟩
  | t + 1 => by
    have := sRn_le sh t
    unfold sRn
    split <;> omega
/-- the longest stretch behind a night -/
theorem sRn_eq {sh : Int32} : ∀ (t n : Nat), 1 ≤ n → n ≤ t + 1 → (∀ j, j < n → sTw sh (t - j) = sTw sh t) → (n = t + 1 ∨ sTw sh (t - n) ≠ sTw sh t) → sRn sh t = n
  | 0, n, h1, h2, _, _ => by
    have : n = 1 := by omega
    subst this
    rfl
  | t + 1, n, h1, h2, h3, h4 => by
    unfold sRn
    by_cases hn : n = 1
    · subst hn
      rw [if_neg]
      rcases h4 with h4 | h4
      · omega
      · intro e
        exact h4 e.symm
    · have e1 : sTw sh (t + 1) = sTw sh t := (h3 1 (by omega)).symm
      rw [if_pos e1]
      have ih := sRn_eq (sh := sh) t (n - 1) (by omega) (by omega) (fun j hj => by
        have := h3 (j + 1) (by omega)
        rw [show t + 1 - (j + 1) = t - j by omega] at this
        rw [this, e1]) (by
        rcases h4 with h4 | h4
        · exact Or.inl (by omega)
        · right
          rw [show t + 1 - n = t - (n - 1) by omega] at h4
          rw [← e1]
          exact h4)
      omega
theorem i_cases (x : Int32) : x.toInt = (x.toBitVec.toNat : Int) ∨ x.toInt = (x.toBitVec.toNat : Int) - 4294967296 := by
  show x.toBitVec.toInt = _ ∨ x.toBitVec.toInt = _
  rw [BitVec.toInt_eq_toNat_cond]
  split
  · exact Or.inl rfl
  · exact Or.inr rfl
theorem sTw_shr {sh : Int32} {t : Nat} (ht : t < 32) : (sh >>> (nI t &&& 31)) &&& 1 = sTw sh t := by
  have e1 : nI t &&& 31 = nI t := by
    rw [pk_andN (by omega) 5 (by decide)]
    congr 1
    omega
  rw [e1, pk_and _ 1 (by decide)]
  unfold sTw
  congr 1
  have hs := pk_shr sh (nI t) t (by
    have : ∀ t, t < 32 → ((nI t).toBitVec.smod 32).toNat = t := by decide
    exact this t ht)
  have h1 := i_cases (sh >>> nI t)
  have h2 := i_cases sh
  rw [Int.shiftRight_eq_div_pow] at hs
  generalize (sh >>> nI t).toBitVec.toNat = N at *
  generalize sh.toBitVec.toNat = M at *
  generalize (sh >>> nI t).toInt = x at *
  generalize sh.toInt = y at *
  have hp : (4294967296 : Int) = 2 ^ t * (2 * 2 ^ (31 - t)) := by
    have : ∀ t : Nat, t < 32 → (4294967296 : Int) = 2 ^ t * (2 * 2 ^ (31 - t)) := by decide
    exact this t ht
  have hpos : (0 : Int) < 2 ^ t := Int.pow_pos (by decide)
  have key : x % 2 = ((M / 2 ^ t : Nat) : Int) % 2 := by
    rw [hs]
    have e : ((2 ^ t : Nat) : Int) = 2 ^ t := by simp
    rw [e, Int.natCast_ediv, e]
    rcases h2 with h2 | h2
    · rw [h2]
    · rw [h2, hp, show (M : Int) - 2 ^ t * (2 * 2 ^ (31 - t)) = (M : Int) + 2 ^ t * (-(2 * 2 ^ (31 - t))) by rw [Int.mul_neg]; rfl, Int.add_mul_ediv_left _ _ (by omega)]
      rw [Int.add_emod, Int.neg_emod_two, Int.mul_emod_right]
      simp
  have : (N : Int) % 2 = ((M / 2 ^ t : Nat) : Int) % 2 := by omega
  show N % 2 ^ 1 = _
  omega
set_option maxRecDepth 100000 in
set_option maxHeartbeats 4000000 in
theorem c_townOf {ly : Lay} {Z : LZ} {ad : Nat → Nat} {τ : St} {K : Int32 → St → Prop} {sh x : Int32} {t : Nat} (hx : x = nI t) (ht : t < 32) (hK : K (sTw sh t) τ) : CC ly Z ad yX6_townOf wsX6_townOf (rmk 0) [.int sh, .int x] τ (rI K) := by
  refine CC.of (cc := cX6_townOf) (nL := 2) (ret := (some .int)) rfl rfl ⟨rfl, rfl⟩ (by exact Nat.le_of_ble_eq_true rfl) ?_
  intro X B
  change GG _ _ _ _ X _ 0 [some (.int sh), some (.int x)] [] _
  change Amb _ _ _ _ X _ _ RX6 _ _ at B
  subst hx
  refine g_iload_n B dX6_townOf_0 rfl ?_
  refine g_iload_n B dX6_townOf_1 rfl ?_
  refine g_ishr B dX6_townOf_2 ?_
  refine g_iconst (v := (1)) B dX6_townOf_3 (by decide) ?_
  refine g_iand B dX6_townOf_4 ?_
  refine g_ireti B dX6_townOf_5 ?_
  exact kk (sTw_shr ht) hK
set_option maxRecDepth 100000 in
set_option maxHeartbeats 4000000 in
theorem l_runOf {ly : Lay} {Z : LZ} {ad : Nat → Nat} {X : CX} {K : Int32 → St → Prop} {τ : St} {sh : Int32} {t : Nat} (B : Amb ly Z ad (rmk 1) X cX6_runOf wsX6_runOf RX6 3 (some .int)) (ht : t < 30) (hK : K (nI (sRn sh t)) τ) : ∀ (k n : Nat), 1 ≤ n → n ≤ t + 1 → t + 1 - n < k → (∀ j, j < n → sTw sh (t - j) = sTw sh t) → GG ly Z ad (rmk 1) X (rI K) 2 [some (.int sh), some (.int (nI t)), some (.int (nI n))] [] τ := by
  intro k
  induction k with
  | zero => intro n _ _ h; omega
  | succ k ih =>
    intro n h1 h2 h3 h4
    refine g_iload_n B dX6_runOf_2 rfl ?_
    refine g_iload_n B dX6_runOf_3 rfl ?_
    refine g_icmp_gt (tgt := 28) B dX6_runOf_4 (by decide) (fun c4 => ?_) (fun c4 => ?_)
    · refine g_iload_n B dX6_runOf_28 rfl ?_
      refine g_ireti B dX6_runOf_29 ?_
      first
        | (rw [i_lt, i_n (by omega), i_n (by omega)] at c4
           exact kk (congrArg nI (sRn_eq t n h1 h2 h4 (Or.inl (by omega))).symm) hK)
        | exact kk (congrArg nI (sRn_eq t n h1 h2 h4 (Or.inr c19)).symm) hK
    · rw [i_lt, i_n (by omega), i_n (by omega)] at c4
      refine g_iload_n B dX6_runOf_7 rfl ?_
      refine g_iload_n B dX6_runOf_8 rfl ?_
      refine g_iload_n B dX6_runOf_9 rfl ?_
      refine g_isub B dX6_runOf_10 ?_
      rw [pk_sub (by omega)]
      refine g_callSi (As := [.int _, .int _]) B dX6_runOf_11 (gc1 g_X6_117) (by rfl) hd_X6_townOf (by exact ⟨Nat.le_of_ble_eq_true rfl, Nat.le_of_ble_eq_true rfl⟩) ⟨rfl, rfl⟩ rfl rfl (by exact Nat.le_of_ble_eq_true rfl) (c_townOf (t := t - n) rfl (by omega) ?_)
      refine g_iload_n B dX6_runOf_14 rfl ?_
      refine g_iload_n B dX6_runOf_15 rfl ?_
      refine g_callSi (As := [.int _, .int _]) B dX6_runOf_16 (gc1 g_X6_117) (by rfl) hd_X6_townOf (by exact ⟨Nat.le_of_ble_eq_true rfl, Nat.le_of_ble_eq_true rfl⟩) ⟨rfl, rfl⟩ rfl rfl (by exact Nat.le_of_ble_eq_true rfl) (c_townOf (t := t) rfl (by omega) ?_)
      refine g_icmp_ne (tgt := 28) B dX6_runOf_19 (by decide) (fun c19 => ?_) (fun c19 => ?_)
      · refine g_iload_n B dX6_runOf_28 rfl ?_
        refine g_ireti B dX6_runOf_29 ?_
        first
          | (rw [i_lt, i_n (by omega), i_n (by omega)] at c4
             exact kk (congrArg nI (sRn_eq t n h1 h2 h4 (Or.inl (by omega))).symm) hK)
          | exact kk (congrArg nI (sRn_eq t n h1 h2 h4 (Or.inr c19)).symm) hK
      · refine g_iinc (c9 := (1)) B dX6_runOf_22 rfl (by decide) (by decide) rfl ?_
        refine g_goto (tgt := 2) B dX6_runOf_25 (by decide) ?_
        rw [nI_1 n]
        exact ih (n + 1) (by omega) (by omega) (by omega) (fun j hj => by
          by_cases e : j = n
          · rw [e]; exact c19
          · exact h4 j (by omega))
set_option maxRecDepth 100000 in
set_option maxHeartbeats 4000000 in
theorem c_runOf {ly : Lay} {Z : LZ} {ad : Nat → Nat} {τ : St} {K : Int32 → St → Prop} {sh x : Int32} {t : Nat} (hx : x = nI t) (ht : t < 30) (hK : K (nI (sRn sh t)) τ) : CC ly Z ad yX6_runOf wsX6_runOf (rmk 1) [.int sh, .int x] τ (rI K) := by
  refine CC.of (cc := cX6_runOf) (nL := 3) (ret := (some .int)) rfl rfl ⟨rfl, rfl⟩ (by exact Nat.le_of_ble_eq_true rfl) ?_
  intro X B
  change GG _ _ _ _ X _ 0 [some (.int sh), some (.int x), none] [] _
  change Amb _ _ _ _ X _ _ RX6 _ _ at B
  subst hx
  refine g_iconst (v := (1)) B dX6_runOf_0 (by decide) ?_
  refine g_istore_n B dX6_runOf_1 (by decide) rfl ?_
  exact l_runOf B ht hK 40 1 (Nat.le_refl _) (by omega) (by omega) (fun j hj => by rw [show j = 0 by omega]; rfl)
/-- what names say: COLD, night, number, run, town, users -/
def envN (cold night number run town users : Int32) : Nat → Int32
  | 0 => cold
  | 1 => night
  | 2 => number
  | 3 => run
  | 4 => town
  | 5 => users
  | _ => 0
abbrev TC : Type := List Int32 × (List Int32 × List Int32)
/-- text k of the reference, of n bytes, is read to these codes -/
def TXM (τ : St) (k n : Nat) (C : TC) : Prop := k < 6 ∧ τ.1 2 k = nI n ∧ n ≤ 160 ∧ (∀ i, i < n → 0 ≤ (τ.1 1 (160 * k + i)).toInt ∧ (τ.1 1 (160 * k + i)).toInt < 256) ∧ pText (tT τ k n) (tV τ k n) = .inr C
theorem tT_pk {ks : List Nat} {τ τ' : St} {t n : Nat} (h : pkx ks τ τ') : tT τ' t n = tT τ t n := by
  funext a
  show tokS _ (lxS _ a) = tokS _ (lxS _ a)
  rw [gM_pk h]
theorem tV_pk {ks : List Nat} {τ τ' : St} {t n : Nat} (h : pkx ks τ τ') : tV τ' t n = tV τ t n := by
  funext a
  show tokV _ (lxS _ a) = tokV _ (lxS _ a)
  rw [gM_pk h]
theorem TXM.pk {ks : List Nat} {τ τ' : St} {k n : Nat} {C : TC} (h : TXM τ k n C) (hp : pkx ks τ τ') : TXM τ' k n C := by
  obtain ⟨h1, h2, h3, h4, h5⟩ := h
  refine ⟨h1, by rw [hp.1 2 (by decide)]; exact h2, h3, fun i hi => by rw [hp.1 1 (by decide)]; exact h4 i hi, ?_⟩
  rw [tT_pk hp, tV_pk hp]
  exact h5
def RUL (τ : St) (C : TC) : Prop := ∃ r n, τ.1 0 4 = nI r ∧ TXM τ r n C
abbrev mS : List Nat := [12, 13, 14, 15, 16, 17, 18, 19, 20, 21, 22, 24, 25, 26]
theorem RUL.pk {τ τ' : St} {C : TC} (h : RUL τ C) (hp : pkx mS τ τ') : RUL τ' C := by
  obtain ⟨r, n, h1, h2⟩ := h
  exact ⟨r, n, by rw [hp.2.1 4 (by decide)]; exact h1, h2.pk hp⟩
def sPart (C : TC) (w : Int32) : List Int32 := if w = 0 then C.1 else if w = 1 then C.2.1 else C.2.2
def sSay (C : TC) (w cold : Int32) (t : Nat) (number run town users : Int32) : Int32 := if w = 2 then bd (evc (envN cold (nI t) number run town users) (sPart C w)) 1 30 else bd (evc (envN cold (nI t) number run town users) (sPart C w)) (-99) 99
set_option maxRecDepth 100000 in
set_option maxHeartbeats 4000000 in
theorem c_says {Z : LZ} {ad : Nat → Nat} {τ : St} {K : Int32 → St → Prop} {w x number run town : Int32} {t : Nat} {C : TC} (hC : RUL τ C) (hx : x = nI t) (ht : t < 30) (hK : ∀ τ', pkx mS τ τ' → K (sSay C w (τ.1 4 t) t number run town (τ.1 0 11)) τ') : CC lyM Z ad yX6_says wsX6_says (rmk 42) [.ref (ad 0), .int w, .int x, .int number, .int run, .int town] τ (rI K) := by
  refine CC.of (cc := cX6_says) (nL := 7) (ret := (some .int)) rfl rfl ⟨rfl, rfl⟩ (by exact Nat.le_of_ble_eq_true rfl) ?_
  intro X B
  change GG _ _ _ _ X _ 0 [some (.ref (ad 0)), some (.int w), some (.int x), some (.int number), some (.int run), some (.int town), none] [] _
  change Amb _ _ _ _ X _ _ RX6 _ _ at B
  subst hx
  obtain ⟨r, n, hr, hT⟩ := hC
  have hct : (nI t).toNatClampNeg = t := i_cl (by omega)
  refine g_aload_n B dX6_says_0 rfl ?_
  refine g_aload_n B dX6_says_1 rfl ?_
  refine g_getR (T := TX6) (N := 42) B dX6_says_2 (by decide) (by rfl) (inq inlX6) rfl 8 (by decide) (mq f_X6_23) (by rfl) ?_
  refine g_iload_n B dX6_says_5 rfl ?_
  refine g_iald B dX6_says_6 (by decide) (by rfl) (by exact vp_in_nI ht (by omega)) ?_
  rw [hct]
  refine g_putI (T := TX6) (N := 42) B dX6_says_7 (by decide) (by rfl) (inq inlX6) rfl 12 (by decide) (mq f_X6_184) tyX6_ok nmX6 rfl ⟨rfl, rfl⟩ (by rfl) ?_
  refine g_aload_n B dX6_says_10 rfl ?_
  refine g_iload_n B dX6_says_11 rfl ?_
  refine g_putI (T := TX6) (N := 42) B dX6_says_12 (by decide) (by rfl) (inq inlX6) rfl 13 (by decide) (mq f_X6_187) tyX6_ok nmX6 rfl ⟨rfl, rfl⟩ (by rfl) ?_
  refine g_aload_n B dX6_says_15 rfl ?_
  refine g_iload_n B dX6_says_16 rfl ?_
  refine g_putI (T := TX6) (N := 42) B dX6_says_17 (by decide) (by rfl) (inq inlX6) rfl 14 (by decide) (mq f_X6_190) tyX6_ok nmX6 rfl ⟨rfl, rfl⟩ (by rfl) ?_
  refine g_aload_n B dX6_says_20 rfl ?_
  refine g_iload B dX6_says_21 rfl ?_
  refine g_putI (T := TX6) (N := 42) B dX6_says_23 (by decide) (by rfl) (inq inlX6) rfl 15 (by decide) (mq f_X6_193) tyX6_ok nmX6 rfl ⟨rfl, rfl⟩ (by rfl) ?_
  refine g_aload_n B dX6_says_26 rfl ?_
  refine g_iload B dX6_says_27 rfl ?_
  refine g_putI (T := TX6) (N := 42) B dX6_says_29 (by decide) (by rfl) (inq inlX6) rfl 16 (by decide) (mq f_X6_196) tyX6_ok nmX6 rfl ⟨rfl, rfl⟩ (by rfl) ?_
  refine g_aload_n B dX6_says_32 rfl ?_
  refine g_aload_n B dX6_says_33 rfl ?_
  refine g_getI (T := TX6) (N := 42) B dX6_says_34 (by decide) (by rfl) (inq inlX6) rfl 11 (by decide) (mq f_X6_70) (by rfl) ?_
  refine g_putI (T := TX6) (N := 42) B dX6_says_37 (by decide) (by rfl) (inq inlX6) rfl 17 (by decide) (mq f_X6_199) tyX6_ok nmX6 rfl ⟨rfl, rfl⟩ (by rfl) ?_
  simp only [upS_2 (show (11 : Nat) ≠ 16 by decide), upS_2 (show (11 : Nat) ≠ 15 by decide), upS_2 (show (11 : Nat) ≠ 14 by decide), upS_2 (show (11 : Nat) ≠ 13 by decide), upS_2 (show (11 : Nat) ≠ 12 by decide)]
  generalize hσ : upS (upS (upS (upS (upS (upS τ 0 12 (τ.1 4 t)) 0 13 (nI t)) 0 14 number) 0 15 run) 0 16 town) 0 17 (τ.1 0 11) = σ
  have hp : pkx mS τ σ := by rw [← hσ]; repeat (first | exact pkx.rf | refine pkx.up ?_ (by decide))
  have hE : eM σ = envN (τ.1 4 t) (nI t) number run town (τ.1 0 11) := by
    funext i
    unfold eM
    rw [← hσ]
    by_cases hi : i < 6
    · rw [if_pos hi]
      rcases (show i = 0 ∨ i = 1 ∨ i = 2 ∨ i = 3 ∨ i = 4 ∨ i = 5 by omega) with rfl | rfl | rfl | rfl | rfl | rfl <;> simp [upS_1, upS_2, envN]
    · rw [if_neg hi]
      obtain ⟨j, rfl⟩ : ∃ j, i = j + 6 := ⟨i - 6, by omega⟩
      rfl
  have hT2 := hT.pk hp
  have hr2 : σ.1 0 4 = nI r := (hp.2.1 4 (by decide)).trans hr
  refine g_aload_n B dX6_says_40 rfl ?_
  refine g_aload_n B dX6_says_41 rfl ?_
  refine g_getI (T := TX6) (N := 42) B dX6_says_42 (by decide) (by rfl) (inq inlX6) rfl 4 (by decide) (mq f_X6_107) (by rfl) ?_
  refine g_iload_n B dX6_says_45 rfl ?_
  refine g_callVi (C := RX6) (As := [.int _, .int _]) B dX6_says_46 (gc1 g_X6_329) (by rfl) ⟨rfl, hd_X6_read⟩ (by exact ⟨Nat.le_of_ble_eq_true rfl, Nat.le_of_ble_eq_true rfl⟩) ⟨rfl, rfl⟩ rfl rfl (by exact Nat.le_of_ble_eq_true rfl) recvM (c_read hr2 hT2.1 hT2.2.1 hT2.2.2.1 hT2.2.2.2.1 (fun f hf => by rw [hT2.2.2.2.2] at hf; cases hf) (fun k1 k2 k3 hf τ1 p1 b1 => ?_))
  have hCe : C = (k1, (k2, k3)) := by
    have := hT2.2.2.2.2.symm.trans hf
    cases this
    rfl
  rw [hE]
  refine g_istore B dX6_says_49 (by decide) rfl ?_
  refine g_iload_n B dX6_says_51 rfl ?_
  refine g_iconst (v := (2)) B dX6_says_52 (by decide) ?_
  refine g_icmp_ne (tgt := 67) B dX6_says_53 (by decide) (fun c53 => ?_) (fun c53 => ?_)
  · refine g_iload B dX6_says_67 rfl ?_
    refine g_bipush (v := (-99)) B dX6_says_69 (by decide) ?_
    refine g_bipush (v := (99)) B dX6_says_71 (by decide) ?_
    refine g_callSi (As := [.int _, .int _, .int _]) B dX6_says_73 (gc1 g_X6_332) (by rfl) hd_X6_within (by exact ⟨Nat.le_of_ble_eq_true rfl, Nat.le_of_ble_eq_true rfl⟩) ⟨rfl, rfl⟩ rfl rfl (by exact Nat.le_of_ble_eq_true rfl) (c_within ?_)
    refine g_ireti B dX6_says_76 ?_
    refine kk ?_ (hK _ (hp.trans (p1.mono (by decide))))
    unfold sSay sPart
    rw [hCe]
    first
      | rw [if_pos c53]
      | rw [if_neg c53]
    (repeat' split) <;> first | rfl | contradiction
  · refine g_iload B dX6_says_56 rfl ?_
    refine g_iconst (v := (1)) B dX6_says_58 (by decide) ?_
    refine g_bipush (v := (30)) B dX6_says_59 (by decide) ?_
    refine g_callSi (As := [.int _, .int _, .int _]) B dX6_says_61 (gc1 g_X6_332) (by rfl) hd_X6_within (by exact ⟨Nat.le_of_ble_eq_true rfl, Nat.le_of_ble_eq_true rfl⟩) ⟨rfl, rfl⟩ rfl rfl (by exact Nat.le_of_ble_eq_true rfl) (c_within ?_)
    refine g_goto (tgt := 76) B dX6_says_64 (by decide) ?_
    refine g_ireti B dX6_says_76 ?_
    refine kk ?_ (hK _ (hp.trans (p1.mono (by decide))))
    unfold sSay sPart
    rw [hCe]
    first
      | rw [if_pos c53]
      | rw [if_neg c53]
    (repeat' split) <;> first | rfl | contradiction
def sMost (C : TC) (cold : Int32) (t : Nat) (town users : Int32) : Int32 := sSay C 2 cold t 0 0 town users
set_option maxRecDepth 100000 in
set_option maxHeartbeats 4000000 in
theorem c_mostOf {Z : LZ} {ad : Nat → Nat} {τ : St} {K : Int32 → St → Prop} {x town : Int32} {t : Nat} {C : TC} (hC : RUL τ C) (hx : x = nI t) (ht : t < 30) (hK : ∀ τ', pkx mS τ τ' → K (sMost C (τ.1 4 t) t town (τ.1 0 11)) τ') : CC lyM Z ad yX6_mostOf wsX6_mostOf (rmk 43) [.ref (ad 0), .int x, .int town] τ (rI K) := by
  refine CC.of (cc := cX6_mostOf) (nL := 3) (ret := (some .int)) rfl rfl ⟨rfl, rfl⟩ (by exact Nat.le_of_ble_eq_true rfl) ?_
  intro X B
  change GG _ _ _ _ X _ 0 [some (.ref (ad 0)), some (.int x), some (.int town)] [] _
  change Amb _ _ _ _ X _ _ RX6 _ _ at B
  refine g_aload_n B dX6_mostOf_0 rfl ?_
  refine g_iconst (v := (2)) B dX6_mostOf_1 (by decide) ?_
  refine g_iload_n B dX6_mostOf_2 rfl ?_
  refine g_iconst (v := (0)) B dX6_mostOf_3 (by decide) ?_
  refine g_iconst (v := (0)) B dX6_mostOf_4 (by decide) ?_
  refine g_iload_n B dX6_mostOf_5 rfl ?_
  refine g_callVi (C := RX6) (As := [.int _, .int _, .int _, .int _, .int _]) B dX6_mostOf_6 (gc1 g_X6_336) (by rfl) ⟨rfl, hd_X6_says⟩ (by exact ⟨Nat.le_of_ble_eq_true rfl, Nat.le_of_ble_eq_true rfl⟩) ⟨rfl, rfl⟩ rfl rfl (by exact Nat.le_of_ble_eq_true rfl) recvM (c_says hC hx ht (fun τ1 p1 => ?_))
  refine g_ireti B dX6_mostOf_9 ?_
  exact hK τ1 p1
def sHas (C : TC) (users kind number townU cold : Int32) (t : Nat) (tw run : Int32) : Int32 :=
  if townU = tw then
    if kind = 5 then -cold
    else if kind = 2 ∨ kind = 4 then (if cold ≤ 4 then 0 else if kind = 4 then -2 * sSay C 0 cold t number run tw users else -sSay C 0 cold t number run tw users)
    else if kind = 0 then sSay C 0 cold t number run tw users
    else if kind = 3 ∧ ¬ cold ≤ 6 then (if run ≤ 1 then sSay C 0 cold t number run tw users else 2 * sSay C 0 cold t number run tw users) + number
    else if run ≤ 1 then sSay C 0 cold t number run tw users else 2 * sSay C 0 cold t number run tw users
  else if kind = 1 then 0
  else if kind = 3 then -number
  else if kind = 4 then sSay C 1 cold t number run tw users + number
  else if kind = 5 then sSay C 1 cold t number run tw users + 2
  else sSay C 1 cold t number run tw users
set_option maxRecDepth 100000 in
set_option maxHeartbeats 4000000 in
theorem c_hasBy {Z : LZ} {ad : Nat → Nat} {τ : St} {K : Int32 → St → Prop} {x y tw run : Int32} {u t : Nat} {C : TC} (hC : RUL τ C) (hx : x = nI u) (hu : u < 6) (hy : y = nI t) (ht : t < 30) (hK : ∀ τ', pkx mS τ τ' → K (sHas C (τ.1 0 11) (τ.1 5 u) (τ.1 6 (2 * u)) (τ.1 6 (2 * u + 1)) (τ.1 4 t) t tw run) τ') : CC lyM Z ad yX6_hasBy wsX6_hasBy (rmk 43) [.ref (ad 0), .int x, .int y, .int tw, .int run] τ (rI K) := by
  refine CC.of (cc := cX6_hasBy) (nL := 10) (ret := (some .int)) rfl rfl ⟨rfl, rfl⟩ (by exact Nat.le_of_ble_eq_true rfl) ?_
  intro X B
  change GG _ _ _ _ X _ 0 [some (.ref (ad 0)), some (.int x), some (.int y), some (.int tw), some (.int run), none, none, none, none, none] [] _
  change Amb _ _ _ _ X _ _ RX6 _ _ at B
  subst hx hy
  have hcu : (nI u).toNatClampNeg = u := i_cl (by omega)
  have hct : (nI t).toNatClampNeg = t := i_cl (by omega)
  have h2u : (2 : Int32) * nI u = nI (2 * u) := pk_mul 2 u
  have hc2 : (nI (2 * u)).toNatClampNeg = 2 * u := i_cl (by omega)
  have hc3 : (nI (2 * u + 1)).toNatClampNeg = 2 * u + 1 := i_cl (by omega)
  refine g_aload_n B dX6_hasBy_0 rfl ?_
  refine g_getR (T := TX6) (N := 42) B dX6_hasBy_1 (by decide) (by rfl) (inq inlX6) rfl 9 (by decide) (mq f_X6_26) (by rfl) ?_
  refine g_iload_n B dX6_hasBy_4 rfl ?_
  refine g_iald B dX6_hasBy_5 (by decide) (by rfl) (by exact vp_in_nI hu (by omega)) ?_
  rw [hcu]
  refine g_istore B dX6_hasBy_6 (by decide) rfl ?_
  refine g_aload_n B dX6_hasBy_8 rfl ?_
  refine g_getR (T := TX6) (N := 42) B dX6_hasBy_9 (by decide) (by rfl) (inq inlX6) rfl 10 (by decide) (mq f_X6_29) (by rfl) ?_
  refine g_iconst (v := (2)) B dX6_hasBy_12 (by decide) ?_
  refine g_iload_n B dX6_hasBy_13 rfl ?_
  refine g_imul B dX6_hasBy_14 ?_
  rw [h2u]
  refine g_iald B dX6_hasBy_15 (by decide) (by rfl) (by exact vp_in_nI (by omega) (by omega)) ?_
  rw [hc2]
  refine g_istore B dX6_hasBy_16 (by decide) rfl ?_
  refine g_aload_n B dX6_hasBy_18 rfl ?_
  refine g_getR (T := TX6) (N := 42) B dX6_hasBy_19 (by decide) (by rfl) (inq inlX6) rfl 8 (by decide) (mq f_X6_23) (by rfl) ?_
  refine g_iload_n B dX6_hasBy_22 rfl ?_
  refine g_iald B dX6_hasBy_23 (by decide) (by rfl) (by exact vp_in_nI ht (by omega)) ?_
  rw [hct]
  refine g_istore B dX6_hasBy_24 (by decide) rfl ?_
  refine g_aload_n B dX6_hasBy_26 rfl ?_
  refine g_getR (T := TX6) (N := 42) B dX6_hasBy_27 (by decide) (by rfl) (inq inlX6) rfl 10 (by decide) (mq f_X6_29) (by rfl) ?_
  refine g_iconst (v := (2)) B dX6_hasBy_30 (by decide) ?_
  refine g_iload_n B dX6_hasBy_31 rfl ?_
  refine g_imul B dX6_hasBy_32 ?_
  refine g_iconst (v := (1)) B dX6_hasBy_33 (by decide) ?_
  refine g_iadd B dX6_hasBy_34 ?_
  rw [h2u, nI_1]
  refine g_iald B dX6_hasBy_35 (by decide) (by rfl) (by exact vp_in_nI (by omega) (by omega)) ?_
  rw [hc3]
  generalize hk : τ.1 5 u = kind at *
  generalize hn : τ.1 6 (2 * u) = number at *
  generalize hto : τ.1 6 (2 * u + 1) = townU at *
  refine g_iload_n B dX6_hasBy_36 rfl ?_
  refine g_icmp_ne (tgt := 154) B dX6_hasBy_37 (by decide) (fun c37 => ?_) (fun c37 => ?_)
  · refine g_iload B dX6_hasBy_154 rfl ?_
    refine g_iconst (v := (1)) B dX6_hasBy_156 (by decide) ?_
    refine g_icmp_eq (tgt := 166) B dX6_hasBy_157 (by decide) (fun c157 => ?_) (fun c157 => ?_)
    · refine g_iload B dX6_hasBy_166 rfl ?_
      refine g_iconst (v := (1)) B dX6_hasBy_168 (by decide) ?_
      refine g_icmp_ne (tgt := 176) B dX6_hasBy_169 (by decide) (fun c169 => ?_) (fun c169 => ?_)
      · refine g_iload B dX6_hasBy_176 rfl ?_
        refine g_ineg B dX6_hasBy_178 ?_
        refine g_ireti B dX6_hasBy_179 ?_
        refine kk ?_ (hK _ (by first | exact pkx.rf | exact p1))
        unfold sHas
        (repeat' split) <;> first | rfl | contradiction | (exfalso; simp_all; done) | simp_all
      · refine g_iconst (v := (0)) B dX6_hasBy_172 (by decide) ?_
        refine g_goto (tgt := 179) B dX6_hasBy_173 (by decide) ?_
        refine g_ireti B dX6_hasBy_179 ?_
        refine kk ?_ (hK _ (by first | exact pkx.rf | exact p1))
        unfold sHas
        (repeat' split) <;> first | rfl | contradiction | (exfalso; simp_all; done) | simp_all
    · refine g_iload B dX6_hasBy_160 rfl ?_
      refine g_iconst (v := (3)) B dX6_hasBy_162 (by decide) ?_
      refine g_icmp_ne (tgt := 180) B dX6_hasBy_163 (by decide) (fun c163 => ?_) (fun c163 => ?_)
      · refine g_aload_n B dX6_hasBy_180 rfl ?_
        refine g_iconst (v := (1)) B dX6_hasBy_181 (by decide) ?_
        refine g_iload_n B dX6_hasBy_182 rfl ?_
        refine g_iload B dX6_hasBy_183 rfl ?_
        refine g_iload B dX6_hasBy_185 rfl ?_
        refine g_iload_n B dX6_hasBy_187 rfl ?_
        refine g_callVi (C := RX6) (As := [.int _, .int _, .int _, .int _, .int _]) B dX6_hasBy_188 (gc1 g_X6_336) (by rfl) ⟨rfl, hd_X6_says⟩ (by exact ⟨Nat.le_of_ble_eq_true rfl, Nat.le_of_ble_eq_true rfl⟩) ⟨rfl, rfl⟩ rfl rfl (by exact Nat.le_of_ble_eq_true rfl) recvM (c_says hC rfl ht (fun τ1 p1 => ?_))
        refine g_istore B dX6_hasBy_191 (by decide) rfl ?_
        refine g_iload B dX6_hasBy_193 rfl ?_
        refine g_iconst (v := (4)) B dX6_hasBy_195 (by decide) ?_
        refine g_icmp_ne (tgt := 207) B dX6_hasBy_196 (by decide) (fun c196 => ?_) (fun c196 => ?_)
        · refine g_iload B dX6_hasBy_207 rfl ?_
          refine g_iconst (v := (5)) B dX6_hasBy_209 (by decide) ?_
          refine g_icmp_ne (tgt := 220) B dX6_hasBy_210 (by decide) (fun c210 => ?_) (fun c210 => ?_)
          · refine g_iload B dX6_hasBy_220 rfl ?_
            refine g_ireti B dX6_hasBy_222 ?_
            refine kk ?_ (hK _ (by first | exact pkx.rf | exact p1))
            unfold sHas
            (repeat' split) <;> first | rfl | contradiction | (exfalso; simp_all; done) | simp_all
          · refine g_iload B dX6_hasBy_213 rfl ?_
            refine g_iconst (v := (2)) B dX6_hasBy_215 (by decide) ?_
            refine g_iadd B dX6_hasBy_216 ?_
            refine g_goto (tgt := 222) B dX6_hasBy_217 (by decide) ?_
            refine g_ireti B dX6_hasBy_222 ?_
            refine kk ?_ (hK _ (by first | exact pkx.rf | exact p1))
            unfold sHas
            (repeat' split) <;> first | rfl | contradiction | (exfalso; simp_all; done) | simp_all
        · refine g_iload B dX6_hasBy_199 rfl ?_
          refine g_iload B dX6_hasBy_201 rfl ?_
          refine g_iadd B dX6_hasBy_203 ?_
          refine g_goto (tgt := 222) B dX6_hasBy_204 (by decide) ?_
          refine g_ireti B dX6_hasBy_222 ?_
          refine kk ?_ (hK _ (by first | exact pkx.rf | exact p1))
          unfold sHas
          (repeat' split) <;> first | rfl | contradiction | (exfalso; simp_all; done) | simp_all
      · refine g_iload B dX6_hasBy_166 rfl ?_
        refine g_iconst (v := (1)) B dX6_hasBy_168 (by decide) ?_
        refine g_icmp_ne (tgt := 176) B dX6_hasBy_169 (by decide) (fun c169 => ?_) (fun c169 => ?_)
        · refine g_iload B dX6_hasBy_176 rfl ?_
          refine g_ineg B dX6_hasBy_178 ?_
          refine g_ireti B dX6_hasBy_179 ?_
          refine kk ?_ (hK _ (by first | exact pkx.rf | exact p1))
          unfold sHas
          (repeat' split) <;> first | rfl | contradiction | (exfalso; simp_all; done) | simp_all
        · refine g_iconst (v := (0)) B dX6_hasBy_172 (by decide) ?_
          refine g_goto (tgt := 179) B dX6_hasBy_173 (by decide) ?_
          refine g_ireti B dX6_hasBy_179 ?_
          refine kk ?_ (hK _ (by first | exact pkx.rf | exact p1))
          unfold sHas
          (repeat' split) <;> first | rfl | contradiction | (exfalso; simp_all; done) | simp_all
  · refine g_iload B dX6_hasBy_40 rfl ?_
    refine g_iconst (v := (5)) B dX6_hasBy_42 (by decide) ?_
    refine g_icmp_ne (tgt := 50) B dX6_hasBy_43 (by decide) (fun c43 => ?_) (fun c43 => ?_)
    · refine g_aload_n B dX6_hasBy_50 rfl ?_
      refine g_iconst (v := (0)) B dX6_hasBy_51 (by decide) ?_
      refine g_iload_n B dX6_hasBy_52 rfl ?_
      refine g_iload B dX6_hasBy_53 rfl ?_
      refine g_iload B dX6_hasBy_55 rfl ?_
      refine g_iload_n B dX6_hasBy_57 rfl ?_
      refine g_callVi (C := RX6) (As := [.int _, .int _, .int _, .int _, .int _]) B dX6_hasBy_58 (gc1 g_X6_336) (by rfl) ⟨rfl, hd_X6_says⟩ (by exact ⟨Nat.le_of_ble_eq_true rfl, Nat.le_of_ble_eq_true rfl⟩) ⟨rfl, rfl⟩ rfl rfl (by exact Nat.le_of_ble_eq_true rfl) recvM (c_says hC rfl ht (fun τ1 p1 => ?_))
      refine g_istore B dX6_hasBy_61 (by decide) rfl ?_
      refine g_iload B dX6_hasBy_63 rfl ?_
      refine g_iconst (v := (2)) B dX6_hasBy_65 (by decide) ?_
      refine g_icmp_eq (tgt := 75) B dX6_hasBy_66 (by decide) (fun c66 => ?_) (fun c66 => ?_)
      · refine g_iload B dX6_hasBy_75 rfl ?_
        refine g_iconst (v := (4)) B dX6_hasBy_77 (by decide) ?_
        refine g_icmp_le (tgt := 101) B dX6_hasBy_78 (by decide) (fun c78 => ?_) (fun c78 => ?_)
        · refine g_iconst (v := (0)) B dX6_hasBy_101 (by decide) ?_
          refine g_ireti B dX6_hasBy_102 ?_
          refine kk ?_ (hK _ (by first | exact pkx.rf | exact p1))
          unfold sHas
          (repeat' split) <;> first | rfl | contradiction | (exfalso; simp_all; done) | simp_all
        · refine g_iload B dX6_hasBy_81 rfl ?_
          refine g_iconst (v := (4)) B dX6_hasBy_83 (by decide) ?_
          refine g_icmp_ne (tgt := 95) B dX6_hasBy_84 (by decide) (fun c84 => ?_) (fun c84 => ?_)
          · refine g_iload B dX6_hasBy_95 rfl ?_
            refine g_ineg B dX6_hasBy_97 ?_
            refine g_goto (tgt := 102) B dX6_hasBy_98 (by decide) ?_
            refine g_ireti B dX6_hasBy_102 ?_
            refine kk ?_ (hK _ (by first | exact pkx.rf | exact p1))
            unfold sHas
            (repeat' split) <;> first | rfl | contradiction | (exfalso; simp_all; done) | simp_all
          · refine g_bipush (v := (-2)) B dX6_hasBy_87 (by decide) ?_
            refine g_iload B dX6_hasBy_89 rfl ?_
            refine g_imul B dX6_hasBy_91 ?_
            refine g_goto (tgt := 102) B dX6_hasBy_92 (by decide) ?_
            refine g_ireti B dX6_hasBy_102 ?_
            refine kk ?_ (hK _ (by first | exact pkx.rf | exact p1))
            unfold sHas
            (repeat' split) <;> first | rfl | contradiction | (exfalso; simp_all; done) | simp_all
      · refine g_iload B dX6_hasBy_69 rfl ?_
        refine g_iconst (v := (4)) B dX6_hasBy_71 (by decide) ?_
        refine g_icmp_ne (tgt := 103) B dX6_hasBy_72 (by decide) (fun c72 => ?_) (fun c72 => ?_)
        · refine g_iload B dX6_hasBy_103 rfl ?_
          refine g_iconst (v := (1)) B dX6_hasBy_105 (by decide) ?_
          refine g_icmp_le (tgt := 116) B dX6_hasBy_106 (by decide) (fun c106 => ?_) (fun c106 => ?_)
          · refine g_iload B dX6_hasBy_116 rfl ?_
            refine g_istore B dX6_hasBy_118 (by decide) rfl ?_
            refine g_iload B dX6_hasBy_120 rfl ?_
            refine g_if_ne (tgt := 130) B dX6_hasBy_122 (by decide) (fun c122 => ?_) (fun c122 => ?_)
            · refine g_iload B dX6_hasBy_130 rfl ?_
              refine g_iconst (v := (3)) B dX6_hasBy_132 (by decide) ?_
              refine g_icmp_ne (tgt := 151) B dX6_hasBy_133 (by decide) (fun c133 => ?_) (fun c133 => ?_)
              · refine g_iload B dX6_hasBy_151 rfl ?_
                refine g_ireti B dX6_hasBy_153 ?_
                refine kk ?_ (hK _ (by first | exact pkx.rf | exact p1))
                unfold sHas
                (repeat' split) <;> first | rfl | contradiction | (exfalso; simp_all; done) | simp_all
              · refine g_iload B dX6_hasBy_136 rfl ?_
                refine g_bipush (v := (6)) B dX6_hasBy_138 (by decide) ?_
                refine g_icmp_le (tgt := 151) B dX6_hasBy_140 (by decide) (fun c140 => ?_) (fun c140 => ?_)
                · refine g_iload B dX6_hasBy_151 rfl ?_
                  refine g_ireti B dX6_hasBy_153 ?_
                  refine kk ?_ (hK _ (by first | exact pkx.rf | exact p1))
                  unfold sHas
                  (repeat' split) <;> first | rfl | contradiction | (exfalso; simp_all; done) | simp_all
                · refine g_iload B dX6_hasBy_143 rfl ?_
                  refine g_iload B dX6_hasBy_145 rfl ?_
                  refine g_iadd B dX6_hasBy_147 ?_
                  refine g_goto (tgt := 153) B dX6_hasBy_148 (by decide) ?_
                  refine g_ireti B dX6_hasBy_153 ?_
                  refine kk ?_ (hK _ (by first | exact pkx.rf | exact p1))
                  unfold sHas
                  (repeat' split) <;> first | rfl | contradiction | (exfalso; simp_all; done) | simp_all
            · refine g_iload B dX6_hasBy_125 rfl ?_
              refine g_goto (tgt := 153) B dX6_hasBy_127 (by decide) ?_
              refine g_ireti B dX6_hasBy_153 ?_
              refine kk ?_ (hK _ (by first | exact pkx.rf | exact p1))
              unfold sHas
              (repeat' split) <;> first | rfl | contradiction | (exfalso; simp_all; done) | simp_all
          · refine g_iconst (v := (2)) B dX6_hasBy_109 (by decide) ?_
            refine g_iload B dX6_hasBy_110 rfl ?_
            refine g_imul B dX6_hasBy_112 ?_
            refine g_goto (tgt := 118) B dX6_hasBy_113 (by decide) ?_
            refine g_istore B dX6_hasBy_118 (by decide) rfl ?_
            refine g_iload B dX6_hasBy_120 rfl ?_
            refine g_if_ne (tgt := 130) B dX6_hasBy_122 (by decide) (fun c122 => ?_) (fun c122 => ?_)
            · refine g_iload B dX6_hasBy_130 rfl ?_
              refine g_iconst (v := (3)) B dX6_hasBy_132 (by decide) ?_
              refine g_icmp_ne (tgt := 151) B dX6_hasBy_133 (by decide) (fun c133 => ?_) (fun c133 => ?_)
              · refine g_iload B dX6_hasBy_151 rfl ?_
                refine g_ireti B dX6_hasBy_153 ?_
                refine kk ?_ (hK _ (by first | exact pkx.rf | exact p1))
                unfold sHas
                (repeat' split) <;> first | rfl | contradiction | (exfalso; simp_all; done) | simp_all
              · refine g_iload B dX6_hasBy_136 rfl ?_
                refine g_bipush (v := (6)) B dX6_hasBy_138 (by decide) ?_
                refine g_icmp_le (tgt := 151) B dX6_hasBy_140 (by decide) (fun c140 => ?_) (fun c140 => ?_)
                · refine g_iload B dX6_hasBy_151 rfl ?_
                  refine g_ireti B dX6_hasBy_153 ?_
                  refine kk ?_ (hK _ (by first | exact pkx.rf | exact p1))
                  unfold sHas
                  (repeat' split) <;> first | rfl | contradiction | (exfalso; simp_all; done) | simp_all
                · refine g_iload B dX6_hasBy_143 rfl ?_
                  refine g_iload B dX6_hasBy_145 rfl ?_
                  refine g_iadd B dX6_hasBy_147 ?_
                  refine g_goto (tgt := 153) B dX6_hasBy_148 (by decide) ?_
                  refine g_ireti B dX6_hasBy_153 ?_
                  refine kk ?_ (hK _ (by first | exact pkx.rf | exact p1))
                  unfold sHas
                  (repeat' split) <;> first | rfl | contradiction | (exfalso; simp_all; done) | simp_all
            · refine g_iload B dX6_hasBy_125 rfl ?_
              refine g_goto (tgt := 153) B dX6_hasBy_127 (by decide) ?_
              refine g_ireti B dX6_hasBy_153 ?_
              refine kk ?_ (hK _ (by first | exact pkx.rf | exact p1))
              unfold sHas
              (repeat' split) <;> first | rfl | contradiction | (exfalso; simp_all; done) | simp_all
        · refine g_iload B dX6_hasBy_75 rfl ?_
          refine g_iconst (v := (4)) B dX6_hasBy_77 (by decide) ?_
          refine g_icmp_le (tgt := 101) B dX6_hasBy_78 (by decide) (fun c78 => ?_) (fun c78 => ?_)
          · refine g_iconst (v := (0)) B dX6_hasBy_101 (by decide) ?_
            refine g_ireti B dX6_hasBy_102 ?_
            refine kk ?_ (hK _ (by first | exact pkx.rf | exact p1))
            unfold sHas
            (repeat' split) <;> first | rfl | contradiction | (exfalso; simp_all; done) | simp_all
          · refine g_iload B dX6_hasBy_81 rfl ?_
            refine g_iconst (v := (4)) B dX6_hasBy_83 (by decide) ?_
            refine g_icmp_ne (tgt := 95) B dX6_hasBy_84 (by decide) (fun c84 => ?_) (fun c84 => ?_)
            · refine g_iload B dX6_hasBy_95 rfl ?_
              refine g_ineg B dX6_hasBy_97 ?_
              refine g_goto (tgt := 102) B dX6_hasBy_98 (by decide) ?_
              refine g_ireti B dX6_hasBy_102 ?_
              refine kk ?_ (hK _ (by first | exact pkx.rf | exact p1))
              unfold sHas
              (repeat' split) <;> first | rfl | contradiction | (exfalso; simp_all; done) | simp_all
            · refine g_bipush (v := (-2)) B dX6_hasBy_87 (by decide) ?_
              refine g_iload B dX6_hasBy_89 rfl ?_
              refine g_imul B dX6_hasBy_91 ?_
              refine g_goto (tgt := 102) B dX6_hasBy_92 (by decide) ?_
              refine g_ireti B dX6_hasBy_102 ?_
              refine kk ?_ (hK _ (by first | exact pkx.rf | exact p1))
              unfold sHas
              (repeat' split) <;> first | rfl | contradiction | (exfalso; simp_all; done) | simp_all
    · refine g_iload B dX6_hasBy_46 rfl ?_
      refine g_ineg B dX6_hasBy_48 ?_
      refine g_ireti B dX6_hasBy_49 ?_
      refine kk ?_ (hK _ (by first | exact pkx.rf | exact p1))
      unfold sHas
      (repeat' split) <;> first | rfl | contradiction | (exfalso; simp_all; done) | simp_all

