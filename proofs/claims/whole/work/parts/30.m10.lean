/-! bounds; the mean, the heaviest, the first that is otherwise, the cut, the changes *reference* -/
theorem bd_rng {v a b : Int32} (h : a.toInt ≤ b.toInt) : a.toInt ≤ (bd v a b).toInt ∧ (bd v a b).toInt ≤ b.toInt := by
  unfold bd
  (repeat' split) <;> simp only [i_lt] at * <;> omega
theorem sSay_bd {C : TC} {w cold : Int32} {t : Nat} {number run town users : Int32} (h : w ≠ 2) : -99 ≤ (sSay C w cold t number run town users).toInt ∧ (sSay C w cold t number run town users).toInt ≤ 99 := by
  unfold sSay
  rw [if_neg h]
  exact bd_rng (a := -99) (b := 99) (by decide)
theorem sHas_bd {C : TC} {users kind number townU cold : Int32} {t : Nat} {tw run : Int32} (hn : 0 ≤ number.toInt ∧ number.toInt ≤ 9) (hc : 0 ≤ cold.toInt ∧ cold.toInt ≤ 9) : -210 ≤ (sHas C users kind number townU cold t tw run).toInt ∧ (sHas C users kind number townU cold t tw run).toInt ≤ 210 := by
  have h0 := sSay_bd (C := C) (w := 0) (cold := cold) (t := t) (number := number) (run := run) (town := tw) (users := users) (by decide)
  have h1 := sSay_bd (C := C) (w := 1) (cold := cold) (t := t) (number := number) (run := run) (town := tw) (users := users) (by decide)
  unfold sHas
  generalize sSay C 0 cold t number run tw users = v at *
  generalize sSay C 1 cold t number run tw users = v' at *
  have a2 : (2 : Int32).toInt = 2 := rfl
  have am : (-2 : Int32).toInt = -2 := rfl
  have e0 : (0 : Int32).toInt = 0 := rfl
  have e1 : (-cold).toInt = -cold.toInt := i_neg (by omega)
  have e2 : (-2 * v).toInt = -2 * v.toInt := by rw [i_mul] <;> rw [am] <;> omega
  have e3 : (-v).toInt = -v.toInt := i_neg (by omega)
  have e4 : (v + number).toInt = v.toInt + number.toInt := by rw [i_add] <;> omega
  have e5 : (2 * v).toInt = 2 * v.toInt := by rw [i_mul] <;> rw [a2] <;> omega
  have e6 : (2 * v + number).toInt = 2 * v.toInt + number.toInt := by rw [i_add] <;> rw [e5] <;> omega
  have e7 : (-number).toInt = -number.toInt := i_neg (by omega)
  have e8 : (v' + number).toInt = v'.toInt + number.toInt := by rw [i_add] <;> omega
  have e9 : (v' + 2).toInt = v'.toInt + 2 := by rw [i_add] <;> rw [a2] <;> omega
  (repeat' split) <;> omega
/-- numbers and colds are digits -/
def VOK (V : VW) (m : Nat) : Prop := (∀ u, u < m → 0 ≤ (V.2.2.2.1 u).toInt ∧ (V.2.2.2.1 u).toInt ≤ 9) ∧ ∀ t, t < 30 → 0 ≤ (V.2.2.2.2.2 t).toInt ∧ (V.2.2.2.2.2 t).toInt ≤ 9
theorem hsV_bd {V : VW} {m : Nat} {sh : Int32} {u t : Nat} (h : VOK V m) (hu : u < m) (ht : t < 30) : -210 ≤ (hsV V sh u t).toInt ∧ (hsV V sh u t).toInt ≤ 210 := sHas_bd (h.1 u hu) (h.2 t ht)
theorem smT_bd {f : Nat → Int32} : ∀ n, n ≤ 30 → (∀ i, i < n → -210 ≤ (f i).toInt ∧ (f i).toInt ≤ 210) → -(210 * (n : Int)) ≤ (smT f n).toInt ∧ (smT f n).toInt ≤ 210 * (n : Int)
  | 0, _, _ => by
    show -(210 * ((0 : Nat) : Int)) ≤ (0 : Int32).toInt ∧ (0 : Int32).toInt ≤ 210 * ((0 : Nat) : Int)
    decide
  | n + 1, hn, h => by
    obtain ⟨a, b⟩ := smT_bd n (by omega) (fun i hi => h i (by omega))
    obtain ⟨c, d⟩ := h n (by omega)
    unfold smT
    rw [i_add] <;> omega
theorem haV_bd {V : VW} {m : Nat} {sh : Int32} {u : Nat} (h : VOK V m) (hu : u < m) : -6300 ≤ (haV V sh u).toInt ∧ (haV V sh u).toInt ≤ 6300 := by
  have := smT_bd (f := hsV V sh u) 30 (by omega) (fun i hi => hsV_bd h hu hi)
  unfold haV
  omega
theorem pln_nat {x : Int32} (h : -6300 ≤ x.toInt ∧ x.toInt ≤ 6300) : ∃ P : Nat, P ≤ 6300 ∧ pln x = nI P := by
  refine ⟨x.toInt.natAbs, by omega, ?_⟩
  unfold pln
  rw [i_eq, i_n (by omega)]
  split
  next h2 =>
    rw [i_lt, i0] at h2
    rw [i_neg (by omega)]
    omega
  next h2 =>
    rw [i_lt, i0] at h2
    omega
/-- the last that isn't 0 -/
def gI : Nat → Int32 → Int32 → Int32
  | 0, p, _ => p
  | k + 1, p, q => if q = 0 then p else gI k q (p - p / q * q)
def fMean (V : VW) (m : Nat) (sh user part : Int32) : Int64 := if (0 ≤ user.toInt ∧ user.toInt < m) ∧ 0 ≤ part.toInt ∧ part.toInt ≤ 1 then (if part = 0 then (haV V sh user.toNatClampNeg / gI 40 (pln (haV V sh user.toNatClampNeg)) 30).toInt64 else (30 / gI 40 (pln (haV V sh user.toNatClampNeg)) 30).toInt64) else -4611686018427387904
set_option maxRecDepth 100000 in
set_option maxHeartbeats 4000000 in
theorem l_mean {Z : LZ} {ad : Nat → Nat} {X : CX} {K : Int64 → St → Prop} {τ : St} {u part ab : Int32} (B : Amb lyM Z ad (rmk 46) X cX6_mean wsX6_mean RX6 7 (some .long)) : ∀ (k P Q : Nat) (p q : Int32), p = nI P → q = nI Q → Q < k → Q ≤ 30 → P ≤ 6300 → ¬ (P = 0 ∧ Q = 0) → K (if part = 0 then (ab / gI k p q).toInt64 else (30 / gI k p q).toInt64) τ → GG lyM Z ad (rmk 46) X (rL K) 42 [some (.ref (ad 0)), some (.int u), some (.int part), some (.int ab), some (.int p), some (.int q), none] [] τ := by
  intro k
  induction k with
  | zero => intro P Q p q _ _ h; omega
  | succ k ih =>
    intro P Q p q hp hq h1 h2 h3 h4 hK
    subst hp hq
    unfold gI at hK
    refine g_iload B dX6_mean_42 rfl ?_
    refine g_if_eq (tgt := 65) B dX6_mean_44 (by decide) (fun c44 => ?_) (fun c44 => ?_)
    · rw [if_pos c44] at hK
      have hQ : Q = 0 := by
        rcases Nat.eq_zero_or_pos Q with e | e
        · exact e
        · exact absurd c44 (nI_ne0 e (by omega))
      have hP : ¬ nI P = 0 := nI_ne0 (by omega) (by omega)
      refine g_iload_n B dX6_mean_65 rfl ?_
      refine g_if_ne (tgt := 77) B dX6_mean_66 (by decide) (fun c66 => ?_) (fun c66 => ?_)
      · refine g_bipush (v := (30)) B dX6_mean_77 (by decide) ?_
        refine g_iload B dX6_mean_79 rfl ?_
        refine g_idiv B dX6_mean_81 (by exact hP) ?_
        refine g_i2l B dX6_mean_82 rfl ?_
        refine g_lreti B dX6_mean_83 ?_
        first
          | (rw [if_pos c66] at hK; exact hK)
          | (rw [if_neg c66] at hK; exact hK)
      · refine g_iload_n B dX6_mean_69 rfl ?_
        refine g_iload B dX6_mean_70 rfl ?_
        refine g_idiv B dX6_mean_72 (by exact hP) ?_
        refine g_i2l B dX6_mean_73 rfl ?_
        refine g_goto (tgt := 83) B dX6_mean_74 (by decide) ?_
        refine g_lreti B dX6_mean_83 ?_
        first
          | (rw [if_pos c66] at hK; exact hK)
          | (rw [if_neg c66] at hK; exact hK)
    · refine g_iload B dX6_mean_47 rfl ?_
      refine g_iload B dX6_mean_49 rfl ?_
      refine g_irem B dX6_mean_51 (by exact c44) ?_
      have hQ : 0 < Q := by
        rcases Nat.eq_zero_or_pos Q with e | e
        · rw [e] at c44; exact absurd rfl c44
        · exact e
      rw [if_neg c44] at hK
      have er := pk_rem (a := P) (d := Q) (by omega) hQ (by omega)
      rw [er] at hK ⊢
      refine g_istore B dX6_mean_52 (by decide) rfl ?_
      refine g_iload B dX6_mean_54 rfl ?_
      refine g_istore B dX6_mean_56 (by decide) rfl ?_
      refine g_iload B dX6_mean_58 rfl ?_
      refine g_istore B dX6_mean_60 (by decide) rfl ?_
      refine g_goto (tgt := 42) B dX6_mean_62 (by decide) ?_
      refine g_drop 6 ?_
      have := Nat.mod_lt P hQ
      exact ih Q (P % Q) _ _ rfl rfl (by omega) (by omega) (by omega) (by omega) hK
set_option maxRecDepth 100000 in
set_option maxHeartbeats 4000000 in
theorem c_mean {Z : LZ} {ad : Nat → Nat} {τ : St} {K : Int64 → St → Prop} {x y : Int32} {n : Nat} {C : TC} (hC : RUL τ C) (hn : n ≤ 6) (hm : τ.1 0 11 = nI n) (hv : VOK (vM τ C) n) (hK : ∀ τ', pkx mS τ τ' → K (fMean (vM τ C) n (τ.1 0 7) x y) τ') : CC lyM Z ad yX6_mean wsX6_mean (rmk 46) [.ref (ad 0), .int x, .int y] τ (rL K) := by
  refine CC.of (cc := cX6_mean) (nL := 7) (ret := (some .long)) rfl rfl ⟨rfl, rfl⟩ (by exact Nat.le_of_ble_eq_true rfl) ?_
  intro X B
  change GG _ _ _ _ X _ 0 [some (.ref (ad 0)), some (.int x), some (.int y), none, none, none, none] [] _
  change Amb _ _ _ _ X _ _ RX6 _ _ at B
  unfold fMean at hK
  refine g_aload_n B dX6_mean_0 rfl ?_
  refine g_iload_n B dX6_mean_1 rfl ?_
  refine g_callVi (C := RX6) (As := [.int _]) B dX6_mean_2 (gc1 g_X6_83) (by rfl) ⟨rfl, hd_X6_isUser⟩ (by exact ⟨Nat.le_of_ble_eq_true rfl, Nat.le_of_ble_eq_true rfl⟩) ⟨rfl, rfl⟩ rfl rfl (by exact Nat.le_of_ble_eq_true rfl) recvM (c_isUser hn hm ?_)
  refine g_if_eq (tgt := 18) B dX6_mean_5 (by decide) (fun c5 => ?_) (fun c5 => ?_)
  · refine g_ldc2 (v := (-4611686018427387904)) B dX6_mean_18 (mq k_X6_360) ?_
    refine g_lreti B dX6_mean_21 ?_
    first
      | (have h9 := hK τ pkx.rf
         rw [if_neg (fun h => b1_0.mp c5 h.1)] at h9
         exact h9)
      | (have h9 := hK τ pkx.rf
         rw [if_neg (fun h => b1_0.mp c15 h.2)] at h9
         exact h9)
  · refine g_iload_n B dX6_mean_8 rfl ?_
    refine g_i2l B dX6_mean_9 rfl ?_
    refine g_lconst (v := (0)) B dX6_mean_10 (by decide) ?_
    refine g_lconst (v := (1)) B dX6_mean_11 (by decide) ?_
    refine g_callSi (As := [.long _, .long _, .long _]) B dX6_mean_12 (gc1 g_X6_73) (by rfl) hd_X6_in (by exact ⟨Nat.le_of_ble_eq_true rfl, Nat.le_of_ble_eq_true rfl⟩) ⟨rfl, rfl⟩ rfl rfl (by exact Nat.le_of_ble_eq_true rfl) (c_in ?_)
    rw [in_0, show (1 : Int64).toInt = 1 from rfl]
    refine g_if_ne (tgt := 22) B dX6_mean_15 (by decide) (fun c15 => ?_) (fun c15 => ?_)
    · have h1 := b1_n0.mp c5
      have h2 := b1_n0.mp c15
      rw [if_pos ⟨h1, h2⟩] at hK
      obtain ⟨u, hu, rfl⟩ := i_nat h1.1 h1.2
      rw [i_cl (by omega)] at hK
      refine g_aload_n B dX6_mean_22 rfl ?_
      refine g_aload_n B dX6_mean_23 rfl ?_
      refine g_getI (T := TX6) (N := 42) B dX6_mean_24 (by decide) (by rfl) (inq inlX6) rfl 7 (by decide) (mq f_X6_104) (by rfl) ?_
      refine g_iload_n B dX6_mean_27 rfl ?_
      refine g_callVi (C := RX6) (As := [.int _, .int _]) B dX6_mean_28 (gc1 g_X6_348) (by rfl) ⟨rfl, hd_X6_hasAll⟩ (by exact ⟨Nat.le_of_ble_eq_true rfl, Nat.le_of_ble_eq_true rfl⟩) ⟨rfl, rfl⟩ rfl rfl (by exact Nat.le_of_ble_eq_true rfl) recvM (c_hasAll hC rfl (by omega) (fun τ1 p1 => ?_))
      refine g_istore_n B dX6_mean_31 (by decide) rfl ?_
      refine g_iload_n B dX6_mean_32 rfl ?_
      refine g_callSi (As := [.int _]) B dX6_mean_33 (gc1 g_X6_362) (by rfl) hd_X6_plain (by exact ⟨Nat.le_of_ble_eq_true rfl, Nat.le_of_ble_eq_true rfl⟩) ⟨rfl, rfl⟩ rfl rfl (by exact Nat.le_of_ble_eq_true rfl) (c_plain ?_)
      refine g_istore B dX6_mean_36 (by decide) rfl ?_
      refine g_bipush (v := (30)) B dX6_mean_38 (by decide) ?_
      refine g_istore B dX6_mean_40 (by decide) rfl ?_
      obtain ⟨P, hP, eP⟩ := pln_nat (haV_bd (sh := τ.1 0 7) hv hu)
      rw [eP]
      have hK1 := hK τ1 p1
      rw [eP] at hK1
      exact l_mean B 40 P 30 (nI P) 30 rfl rfl (by omega) (by omega) hP (by omega) hK1
    · refine g_ldc2 (v := (-4611686018427387904)) B dX6_mean_18 (mq k_X6_360) ?_
      refine g_lreti B dX6_mean_21 ?_
      first
        | (have h9 := hK τ pkx.rf
           rw [if_neg (fun h => b1_0.mp c5 h.1)] at h9
           exact h9)
        | (have h9 := hK τ pkx.rf
           rw [if_neg (fun h => b1_0.mp c15 h.2)] at h9
           exact h9)
def hvF (f : Nat → Int32) : Nat → Int32 × Int32
  | 0 => (-1, 0)
  | n + 1 => if (hvF f n).1 = -1 ∨ ¬ pln (f n) ≤ pln (hvF f n).2 then (nI n, f n) else hvF f n
def fHeavy (V : VW) (sh what : Int32) : Int32 := if 0 ≤ what.toInt ∧ what.toInt ≤ 1 then (if what = 0 then (hvF (haV V sh) (V.2.1).toNatClampNeg).1 else (hvF (haV V sh) (V.2.1).toNatClampNeg).2) else -1000000
set_option maxRecDepth 100000 in
set_option maxHeartbeats 4000000 in
theorem l_heaviest {Z : LZ} {ad : Nat → Nat} {X : CX} {K : Int32 → St → Prop} {τ0 : St} {what : Int32} {m : Nat} {C : TC} (B : Amb lyM Z ad (rmk 46) X cX6_heaviest wsX6_heaviest RX6 6 (some .int)) (hC : RUL τ0 C) (hm6 : m ≤ 6) (hm : τ0.1 0 11 = nI m) (hK : ∀ τ', pkx mS τ0 τ' → K (if what = 0 then (hvF (haV (vM τ0 C) (τ0.1 0 7)) m).1 else (hvF (haV (vM τ0 C) (τ0.1 0 7)) m).2) τ') : ∀ (k i : Nat) (τ : St), i ≤ m → m - i < k → pkx mS τ0 τ → GG lyM Z ad (rmk 46) X (rI K) 21 [some (.ref (ad 0)), some (.int what), some (.int (hvF (haV (vM τ0 C) (τ0.1 0 7)) i).1), some (.int (hvF (haV (vM τ0 C) (τ0.1 0 7)) i).2), some (.int (nI i)), none] [] τ := by
  intro k
  induction k with
  | zero => intro i τ _ h; omega
  | succ k ih =>
    intro i τ h1 h2 hp
    have e11 : τ.1 0 11 = nI m := (hp.2.1 11 (by decide)).trans hm
    have e7 : τ.1 0 7 = τ0.1 0 7 := hp.2.1 7 (by decide)
    refine g_iload B dX6_heaviest_21 rfl ?_
    refine g_aload_n B dX6_heaviest_23 rfl ?_
    refine g_getI (T := TX6) (N := 42) B dX6_heaviest_24 (by decide) (by rfl) (inq inlX6) rfl 11 (by decide) (mq f_X6_70) (by rfl) ?_
    refine g_icmp_ge (tgt := 71) B dX6_heaviest_27 (by decide) (fun c27 => ?_) (fun c27 => ?_)
    · refine g_iload_n B dX6_heaviest_71 rfl ?_
      refine g_if_ne (tgt := 79) B dX6_heaviest_72 (by decide) (fun c72 => ?_) (fun c72 => ?_)
      · refine g_iload_n B dX6_heaviest_79 rfl ?_
        refine g_ireti B dX6_heaviest_80 ?_
        rw [e11, nI_leI (by omega) (by omega)] at c27
        have e : i = m := by omega
        subst e
        have h9 := hK τ hp
        first
          | (rw [if_pos c72] at h9; exact h9)
          | (rw [if_neg c72] at h9; exact h9)
      · refine g_iload_n B dX6_heaviest_75 rfl ?_
        refine g_goto (tgt := 80) B dX6_heaviest_76 (by decide) ?_
        refine g_ireti B dX6_heaviest_80 ?_
        rw [e11, nI_leI (by omega) (by omega)] at c27
        have e : i = m := by omega
        subst e
        have h9 := hK τ hp
        first
          | (rw [if_pos c72] at h9; exact h9)
          | (rw [if_neg c72] at h9; exact h9)
    · rw [e11, nI_leI (by omega) (by omega)] at c27
      refine g_aload_n B dX6_heaviest_30 rfl ?_
      refine g_aload_n B dX6_heaviest_31 rfl ?_
      refine g_getI (T := TX6) (N := 42) B dX6_heaviest_32 (by decide) (by rfl) (inq inlX6) rfl 7 (by decide) (mq f_X6_104) (by rfl) ?_
      refine g_iload B dX6_heaviest_35 rfl ?_
      rw [e7]
      refine g_callVi (C := RX6) (As := [.int _, .int _]) B dX6_heaviest_37 (gc1 g_X6_348) (by rfl) ⟨rfl, hd_X6_hasAll⟩ (by exact ⟨Nat.le_of_ble_eq_true rfl, Nat.le_of_ble_eq_true rfl⟩) ⟨rfl, rfl⟩ rfl rfl (by exact Nat.le_of_ble_eq_true rfl) recvM (c_hasAll (u := i) (hC.pk hp) rfl (by omega) (fun τ1 p1 => ?_))
      rw [vM_pk hp (by decide)]
      refine g_istore B dX6_heaviest_40 (by decide) rfl ?_
      refine g_iload_n B dX6_heaviest_42 rfl ?_
      refine g_iconst (v := (-1)) B dX6_heaviest_43 (by decide) ?_
      refine g_icmp_eq (tgt := 59) B dX6_heaviest_44 (by decide) (fun c44 => ?_) (fun c44 => ?_)
      · refine g_iload B dX6_heaviest_59 rfl ?_
        refine g_istore_n B dX6_heaviest_61 (by decide) rfl ?_
        refine g_iload B dX6_heaviest_62 rfl ?_
        refine g_istore_n B dX6_heaviest_64 (by decide) rfl ?_
        refine g_iinc (c9 := (1)) B dX6_heaviest_65 rfl (by decide) (by decide) rfl ?_
        refine g_goto (tgt := 21) B dX6_heaviest_68 (by decide) ?_
        rw [nI_1 i]
        refine g_drop 5 ?_
        have h9 := ih (i + 1) τ1 (by omega) (by omega) (hp.trans p1)
        unfold hvF at h9
        first
          | (rw [if_pos (Or.inl c44)] at h9; exact h9)
          | (rw [if_pos (Or.inr c56)] at h9; exact h9)
          | (rw [if_neg (fun z => z.elim c44 (fun z => z c56))] at h9; exact h9)
      · refine g_iload B dX6_heaviest_47 rfl ?_
        refine g_callSi (As := [.int _]) B dX6_heaviest_49 (gc1 g_X6_362) (by rfl) hd_X6_plain (by exact ⟨Nat.le_of_ble_eq_true rfl, Nat.le_of_ble_eq_true rfl⟩) ⟨rfl, rfl⟩ rfl rfl (by exact Nat.le_of_ble_eq_true rfl) (c_plain ?_)
        refine g_iload_n B dX6_heaviest_52 rfl ?_
        refine g_callSi (As := [.int _]) B dX6_heaviest_53 (gc1 g_X6_362) (by rfl) hd_X6_plain (by exact ⟨Nat.le_of_ble_eq_true rfl, Nat.le_of_ble_eq_true rfl⟩) ⟨rfl, rfl⟩ rfl rfl (by exact Nat.le_of_ble_eq_true rfl) (c_plain ?_)
        refine g_icmp_le (tgt := 65) B dX6_heaviest_56 (by decide) (fun c56 => ?_) (fun c56 => ?_)
        · refine g_iinc (c9 := (1)) B dX6_heaviest_65 rfl (by decide) (by decide) rfl ?_
          refine g_goto (tgt := 21) B dX6_heaviest_68 (by decide) ?_
          rw [nI_1 i]
          refine g_drop 5 ?_
          have h9 := ih (i + 1) τ1 (by omega) (by omega) (hp.trans p1)
          unfold hvF at h9
          first
            | (rw [if_pos (Or.inl c44)] at h9; exact h9)
            | (rw [if_pos (Or.inr c56)] at h9; exact h9)
            | (rw [if_neg (fun z => z.elim c44 (fun z => z c56))] at h9; exact h9)
        · refine g_iload B dX6_heaviest_59 rfl ?_
          refine g_istore_n B dX6_heaviest_61 (by decide) rfl ?_
          refine g_iload B dX6_heaviest_62 rfl ?_
          refine g_istore_n B dX6_heaviest_64 (by decide) rfl ?_
          refine g_iinc (c9 := (1)) B dX6_heaviest_65 rfl (by decide) (by decide) rfl ?_
          refine g_goto (tgt := 21) B dX6_heaviest_68 (by decide) ?_
          rw [nI_1 i]
          refine g_drop 5 ?_
          have h9 := ih (i + 1) τ1 (by omega) (by omega) (hp.trans p1)
          unfold hvF at h9
          first
            | (rw [if_pos (Or.inl c44)] at h9; exact h9)
            | (rw [if_pos (Or.inr c56)] at h9; exact h9)
            | (rw [if_neg (fun z => z.elim c44 (fun z => z c56))] at h9; exact h9)
set_option maxRecDepth 100000 in
set_option maxHeartbeats 4000000 in
theorem c_heaviest {Z : LZ} {ad : Nat → Nat} {τ : St} {K : Int32 → St → Prop} {x : Int32} {m : Nat} {C : TC} (hC : RUL τ C) (hm6 : m ≤ 6) (hm : τ.1 0 11 = nI m) (hK : ∀ τ', pkx mS τ τ' → K (fHeavy (vM τ C) (τ.1 0 7) x) τ') : CC lyM Z ad yX6_heaviest wsX6_heaviest (rmk 46) [.ref (ad 0), .int x] τ (rI K) := by
  refine CC.of (cc := cX6_heaviest) (nL := 6) (ret := (some .int)) rfl rfl ⟨rfl, rfl⟩ (by exact Nat.le_of_ble_eq_true rfl) ?_
  intro X B
  change GG _ _ _ _ X _ 0 [some (.ref (ad 0)), some (.int x), none, none, none, none] [] _
  change Amb _ _ _ _ X _ _ RX6 _ _ at B
  unfold fHeavy at hK
  refine g_iload_n B dX6_heaviest_0 rfl ?_
  refine g_i2l B dX6_heaviest_1 rfl ?_
  refine g_lconst (v := (0)) B dX6_heaviest_2 (by decide) ?_
  refine g_lconst (v := (1)) B dX6_heaviest_3 (by decide) ?_
  refine g_callSi (As := [.long _, .long _, .long _]) B dX6_heaviest_4 (gc1 g_X6_73) (by rfl) hd_X6_in (by exact ⟨Nat.le_of_ble_eq_true rfl, Nat.le_of_ble_eq_true rfl⟩) ⟨rfl, rfl⟩ rfl rfl (by exact Nat.le_of_ble_eq_true rfl) (c_in ?_)
  rw [in_0, show (1 : Int64).toInt = 1 from rfl]
  refine g_if_ne (tgt := 14) B dX6_heaviest_7 (by decide) (fun c7 => ?_) (fun c7 => ?_)
  · refine g_iconst (v := (-1)) B dX6_heaviest_14 (by decide) ?_
    refine g_istore_n B dX6_heaviest_15 (by decide) rfl ?_
    refine g_iconst (v := (0)) B dX6_heaviest_16 (by decide) ?_
    refine g_istore_n B dX6_heaviest_17 (by decide) rfl ?_
    refine g_iconst (v := (0)) B dX6_heaviest_18 (by decide) ?_
    refine g_istore B dX6_heaviest_19 (by decide) rfl ?_
    rw [if_pos (b1_n0.mp c7), show (vM τ C).2.1 = nI m from hm, i_cl (by omega)] at hK
    exact l_heaviest B hC hm6 hm hK 40 0 τ (by omega) (by omega) pkx.rf
  · refine g_ldcw (v := (-1000000)) B dX6_heaviest_10 (mq k_X6_356) ?_
    refine g_ireti B dX6_heaviest_13 ?_
    rw [if_neg (b1_0.mp c7)] at hK
    exact hK τ pkx.rf

