/-! what all have, whether a share is lawful, the heaviest, the first that is otherwise *over a view of the world: the rule's codes, users, their kinds, numbers, towns, the colds* -/
abbrev VW : Type := TC × (Int32 × ((Nat → Int32) × ((Nat → Int32) × ((Nat → Int32) × (Nat → Int32)))))
def vM (τ : St) (C : TC) : VW := (C, (τ.1 0 11, (τ.1 5, ((fun u => τ.1 6 (2 * u)), ((fun u => τ.1 6 (2 * u + 1)), τ.1 4)))))
def hsV (V : VW) (sh : Int32) (u t : Nat) : Int32 := sHas V.1 V.2.1 (V.2.2.1 u) (V.2.2.2.1 u) (V.2.2.2.2.1 u) (V.2.2.2.2.2 t) t (sTw sh t) (nI (sRn sh t))
def smT (f : Nat → Int32) : Nat → Int32
  | 0 => 0
  | n + 1 => smT f n + f n
def haV (V : VW) (sh : Int32) (u : Nat) : Int32 := smT (hsV V sh u) 30
def wuV (V : VW) (sh w : Int32) (u : Nat) : Int32 := if w = 2 ∨ V.2.2.2.2.1 u = w then haV V sh u else 0
def woV (V : VW) (sh w : Int32) : Int32 := smT (wuV V sh w) (V.2.1).toNatClampNeg
theorem vM_pk {ks : List Nat} {τ τ' : St} {C : TC} (h : pkx ks τ τ') (hk : 11 ∉ ks) : vM τ' C = vM τ C := by
  unfold vM
  rw [h.2.1 11 hk, h.1 5 (by decide), h.1 6 (by decide), h.1 4 (by decide)]
set_option maxRecDepth 100000 in
set_option maxHeartbeats 4000000 in
theorem c_hasOf {Z : LZ} {ad : Nat → Nat} {τ : St} {K : Int32 → St → Prop} {sh x y : Int32} {u t : Nat} {C : TC} (hC : RUL τ C) (hx : x = nI u) (hu : u < 6) (hy : y = nI t) (ht : t < 30) (hK : ∀ τ', pkx mS τ τ' → K (hsV (vM τ C) sh u t) τ') : CC lyM Z ad yX6_hasOf wsX6_hasOf (rmk 44) [.ref (ad 0), .int sh, .int x, .int y] τ (rI K) := by
  refine CC.of (cc := cX6_hasOf) (nL := 4) (ret := (some .int)) rfl rfl ⟨rfl, rfl⟩ (by exact Nat.le_of_ble_eq_true rfl) ?_
  intro X B
  change GG _ _ _ _ X _ 0 [some (.ref (ad 0)), some (.int sh), some (.int x), some (.int y)] [] _
  change Amb _ _ _ _ X _ _ RX6 _ _ at B
  refine g_aload_n B dX6_hasOf_0 rfl ?_
  refine g_iload_n B dX6_hasOf_1 rfl ?_
  refine g_iload_n B dX6_hasOf_2 rfl ?_
  refine g_iload_n B dX6_hasOf_3 rfl ?_
  refine g_iload_n B dX6_hasOf_4 rfl ?_
  refine g_callSi (As := [.int _, .int _]) B dX6_hasOf_5 (gc1 g_X6_117) (by rfl) hd_X6_townOf (by exact ⟨Nat.le_of_ble_eq_true rfl, Nat.le_of_ble_eq_true rfl⟩) ⟨rfl, rfl⟩ rfl rfl (by exact Nat.le_of_ble_eq_true rfl) (c_townOf hy (by omega) ?_)
  refine g_iload_n B dX6_hasOf_8 rfl ?_
  refine g_iload_n B dX6_hasOf_9 rfl ?_
  refine g_callSi (As := [.int _, .int _]) B dX6_hasOf_10 (gc1 g_X6_114) (by rfl) hd_X6_runOf (by exact ⟨Nat.le_of_ble_eq_true rfl, Nat.le_of_ble_eq_true rfl⟩) ⟨rfl, rfl⟩ rfl rfl (by exact Nat.le_of_ble_eq_true rfl) (c_runOf hy ht ?_)
  refine g_callVi (C := RX6) (As := [.int _, .int _, .int _, .int _]) B dX6_hasOf_13 (gc1 g_X6_340) (by rfl) ⟨rfl, hd_X6_hasBy⟩ (by exact ⟨Nat.le_of_ble_eq_true rfl, Nat.le_of_ble_eq_true rfl⟩) ⟨rfl, rfl⟩ rfl rfl (by exact Nat.le_of_ble_eq_true rfl) recvM (c_hasBy hC hx hu hy ht (fun τ1 p1 => ?_))
  refine g_ireti B dX6_hasOf_16 ?_
  exact hK τ1 p1
def fHas (V : VW) (m : Nat) (sh user night : Int32) : Int32 := if (0 ≤ user.toInt ∧ user.toInt < m) ∧ 0 ≤ night.toInt ∧ night.toInt ≤ 29 then hsV V sh user.toNatClampNeg night.toNatClampNeg else -100000
theorem i_clx {x : Int32} {j : Nat} (h : x = nI j) (hj : j < 2147483648) : x.toNatClampNeg = j := by rw [h]; exact i_cl hj
set_option maxRecDepth 100000 in
set_option maxHeartbeats 4000000 in
theorem c_has {Z : LZ} {ad : Nat → Nat} {τ : St} {K : Int32 → St → Prop} {x y : Int32} {n : Nat} {C : TC} (hC : RUL τ C) (hn : n ≤ 6) (hm : τ.1 0 11 = nI n) (hK : ∀ τ', pkx mS τ τ' → K (fHas (vM τ C) n (τ.1 0 7) x y) τ') : CC lyM Z ad yX6_has wsX6_has (rmk 45) [.ref (ad 0), .int x, .int y] τ (rI K) := by
  refine CC.of (cc := cX6_has) (nL := 3) (ret := (some .int)) rfl rfl ⟨rfl, rfl⟩ (by exact Nat.le_of_ble_eq_true rfl) ?_
  intro X B
  change GG _ _ _ _ X _ 0 [some (.ref (ad 0)), some (.int x), some (.int y)] [] _
  change Amb _ _ _ _ X _ _ RX6 _ _ at B
  refine g_aload_n B dX6_has_0 rfl ?_
  refine g_iload_n B dX6_has_1 rfl ?_
  refine g_callVi (C := RX6) (As := [.int _]) B dX6_has_2 (gc1 g_X6_83) (by rfl) ⟨rfl, hd_X6_isUser⟩ (by exact ⟨Nat.le_of_ble_eq_true rfl, Nat.le_of_ble_eq_true rfl⟩) ⟨rfl, rfl⟩ rfl rfl (by exact Nat.le_of_ble_eq_true rfl) recvM (c_isUser hn hm ?_)
  refine g_if_eq (tgt := 28) B dX6_has_5 (by decide) (fun c5 => ?_) (fun c5 => ?_)
  · refine g_ldcw (v := (-100000)) B dX6_has_28 (mq k_X6_347) ?_
    refine g_ireti B dX6_has_31 ?_
    first
      | (refine kk ?_ (hK _ p1)
         unfold fHas
         rw [if_pos ⟨h1, h2⟩, i_cl (by omega), i_cl (by omega)])
      | (refine kk ?_ (hK _ pkx.rf)
         unfold fHas
         rw [if_neg (fun h => b1_0.mp c12 h.2)])
      | (refine kk ?_ (hK _ pkx.rf)
         unfold fHas
         rw [if_neg (fun h => b1_0.mp c5 h.1)])
  · refine g_iload_n B dX6_has_8 rfl ?_
    refine g_callSi (As := [.int _]) B dX6_has_9 (gc1 g_X6_79) (by rfl) hd_X6_isNight (by exact ⟨Nat.le_of_ble_eq_true rfl, Nat.le_of_ble_eq_true rfl⟩) ⟨rfl, rfl⟩ rfl rfl (by exact Nat.le_of_ble_eq_true rfl) (c_isNight ?_)
    refine g_if_eq (tgt := 28) B dX6_has_12 (by decide) (fun c12 => ?_) (fun c12 => ?_)
    · refine g_ldcw (v := (-100000)) B dX6_has_28 (mq k_X6_347) ?_
      refine g_ireti B dX6_has_31 ?_
      first
        | (refine kk ?_ (hK _ p1)
           unfold fHas
           rw [if_pos ⟨h1, h2⟩, i_cl (by omega), i_cl (by omega)])
        | (refine kk ?_ (hK _ pkx.rf)
           unfold fHas
           rw [if_neg (fun h => b1_0.mp c12 h.2)])
        | (refine kk ?_ (hK _ pkx.rf)
           unfold fHas
           rw [if_neg (fun h => b1_0.mp c5 h.1)])
    · have h1 := b1_n0.mp c5
      have h2 := b1_n0.mp c12
      obtain ⟨u, hu, rfl⟩ := i_nat h1.1 h1.2
      obtain ⟨t, ht, rfl⟩ := i_nat (n := 30) h2.1 (by omega)
      refine g_aload_n B dX6_has_15 rfl ?_
      refine g_aload_n B dX6_has_16 rfl ?_
      refine g_getI (T := TX6) (N := 42) B dX6_has_17 (by decide) (by rfl) (inq inlX6) rfl 7 (by decide) (mq f_X6_104) (by rfl) ?_
      refine g_iload_n B dX6_has_20 rfl ?_
      refine g_iload_n B dX6_has_21 rfl ?_
      refine g_callVi (C := RX6) (As := [.int _, .int _, .int _]) B dX6_has_22 (gc1 g_X6_344) (by rfl) ⟨rfl, hd_X6_hasOf⟩ (by exact ⟨Nat.le_of_ble_eq_true rfl, Nat.le_of_ble_eq_true rfl⟩) ⟨rfl, rfl⟩ rfl rfl (by exact Nat.le_of_ble_eq_true rfl) recvM (c_hasOf hC rfl (by omega) rfl ht (fun τ1 p1 => ?_))
      refine g_goto (tgt := 31) B dX6_has_25 (by decide) ?_
      refine g_ireti B dX6_has_31 ?_
      first
        | (refine kk ?_ (hK _ p1)
           unfold fHas
           rw [if_pos ⟨h1, h2⟩, i_cl (by omega), i_cl (by omega)])
        | (refine kk ?_ (hK _ pkx.rf)
           unfold fHas
           rw [if_neg (fun h => b1_0.mp c12 h.2)])
        | (refine kk ?_ (hK _ pkx.rf)
           unfold fHas
           rw [if_neg (fun h => b1_0.mp c5 h.1)])
set_option maxRecDepth 100000 in
set_option maxHeartbeats 4000000 in
theorem l_hasAll {Z : LZ} {ad : Nat → Nat} {X : CX} {K : Int32 → St → Prop} {τ0 : St} {sh : Int32} {u : Nat} {C : TC} (B : Amb lyM Z ad (rmk 45) X cX6_hasAll wsX6_hasAll RX6 5 (some .int)) (hC : RUL τ0 C) (hu : u < 6) (hK : ∀ τ', pkx mS τ0 τ' → K (haV (vM τ0 C) sh u) τ') : ∀ (k i : Nat) (τ : St), i ≤ 30 → 30 - i < k → pkx mS τ0 τ → GG lyM Z ad (rmk 45) X (rI K) 5 [some (.ref (ad 0)), some (.int sh), some (.int (nI u)), some (.int (smT (hsV (vM τ0 C) sh u) i)), some (.int (nI i))] [] τ := by
  intro k
  induction k with
  | zero => intro i τ _ h; omega
  | succ k ih =>
    intro i τ h1 h2 hp
    refine g_iload B dX6_hasAll_5 rfl ?_
    refine g_bipush (v := (30)) B dX6_hasAll_7 (by decide) ?_
    refine g_icmp_ge (tgt := 29) B dX6_hasAll_9 (by decide) (fun c9 => ?_) (fun c9 => ?_)
    · refine g_iload_n B dX6_hasAll_29 rfl ?_
      refine g_ireti B dX6_hasAll_30 ?_
      rw [show (30 : Int32) = nI 30 from rfl, nI_leI (by omega) (by omega)] at c9
      have e : i = 30 := by omega
      subst e
      exact hK τ hp
    · rw [show (30 : Int32) = nI 30 from rfl, nI_leI (by omega) (by omega)] at c9
      refine g_iload_n B dX6_hasAll_12 rfl ?_
      refine g_aload_n B dX6_hasAll_13 rfl ?_
      refine g_iload_n B dX6_hasAll_14 rfl ?_
      refine g_iload_n B dX6_hasAll_15 rfl ?_
      refine g_iload B dX6_hasAll_16 rfl ?_
      refine g_callVi (C := RX6) (As := [.int _, .int _, .int _]) B dX6_hasAll_18 (gc1 g_X6_344) (by rfl) ⟨rfl, hd_X6_hasOf⟩ (by exact ⟨Nat.le_of_ble_eq_true rfl, Nat.le_of_ble_eq_true rfl⟩) ⟨rfl, rfl⟩ rfl rfl (by exact Nat.le_of_ble_eq_true rfl) recvM (c_hasOf (t := i) (hC.pk hp) rfl hu rfl (by omega) (fun τ1 p1 => ?_))
      rw [vM_pk hp (by decide)]
      refine g_iadd B dX6_hasAll_21 ?_
      refine g_istore_n B dX6_hasAll_22 (by decide) rfl ?_
      refine g_iinc (c9 := (1)) B dX6_hasAll_23 rfl (by decide) (by decide) rfl ?_
      refine g_goto (tgt := 5) B dX6_hasAll_26 (by decide) ?_
      rw [nI_1 i]
      exact ih (i + 1) τ1 (by omega) (by omega) (hp.trans p1)
set_option maxRecDepth 100000 in
set_option maxHeartbeats 4000000 in
theorem c_hasAll {Z : LZ} {ad : Nat → Nat} {τ : St} {K : Int32 → St → Prop} {sh x : Int32} {u : Nat} {C : TC} (hC : RUL τ C) (hx : x = nI u) (hu : u < 6) (hK : ∀ τ', pkx mS τ τ' → K (haV (vM τ C) sh u) τ') : CC lyM Z ad yX6_hasAll wsX6_hasAll (rmk 45) [.ref (ad 0), .int sh, .int x] τ (rI K) := by
  refine CC.of (cc := cX6_hasAll) (nL := 5) (ret := (some .int)) rfl rfl ⟨rfl, rfl⟩ (by exact Nat.le_of_ble_eq_true rfl) ?_
  intro X B
  change GG _ _ _ _ X _ 0 [some (.ref (ad 0)), some (.int sh), some (.int x), none, none] [] _
  change Amb _ _ _ _ X _ _ RX6 _ _ at B
  subst hx
  refine g_iconst (v := (0)) B dX6_hasAll_0 (by decide) ?_
  refine g_istore_n B dX6_hasAll_1 (by decide) rfl ?_
  refine g_iconst (v := (0)) B dX6_hasAll_2 (by decide) ?_
  refine g_istore B dX6_hasAll_3 (by decide) rfl ?_
  exact l_hasAll B hC hu hK 40 0 τ (by omega) (by omega) pkx.rf
set_option maxRecDepth 100000 in
set_option maxHeartbeats 4000000 in
theorem l_worthBy {Z : LZ} {ad : Nat → Nat} {X : CX} {K : Int32 → St → Prop} {τ0 : St} {sh w : Int32} {m : Nat} {C : TC} (B : Amb lyM Z ad (rmk 46) X cX6_worthBy wsX6_worthBy RX6 5 (some .int)) (hC : RUL τ0 C) (hm6 : m ≤ 6) (hm : τ0.1 0 11 = nI m) (hK : ∀ τ', pkx mS τ0 τ' → K (smT (wuV (vM τ0 C) sh w) m) τ') : ∀ (k i : Nat) (τ : St), i ≤ m → m - i < k → pkx mS τ0 τ → GG lyM Z ad (rmk 46) X (rI K) 5 [some (.ref (ad 0)), some (.int sh), some (.int w), some (.int (smT (wuV (vM τ0 C) sh w) i)), some (.int (nI i))] [] τ := by
  intro k
  induction k with
  | zero => intro i τ _ h; omega
  | succ k ih =>
    intro i τ h1 h2 hp
    have e11 : τ.1 0 11 = nI m := (hp.2.1 11 (by decide)).trans hm
    have h2i : (2 : Int32) * nI i = nI (2 * i) := pk_mul 2 i
    have hr : τ.1 6 = τ0.1 6 := hp.1 6 (by decide)
    refine g_iload B dX6_worthBy_5 rfl ?_
    refine g_aload_n B dX6_worthBy_7 rfl ?_
    refine g_getI (T := TX6) (N := 42) B dX6_worthBy_8 (by decide) (by rfl) (inq inlX6) rfl 11 (by decide) (mq f_X6_70) (by rfl) ?_
    refine g_icmp_ge (tgt := 54) B dX6_worthBy_11 (by decide) (fun c11 => ?_) (fun c11 => ?_)
    · refine g_iload_n B dX6_worthBy_54 rfl ?_
      refine g_ireti B dX6_worthBy_55 ?_
      rw [e11, nI_leI (by omega) (by omega)] at c11
      have e : i = m := by omega
      subst e
      exact hK τ hp
    · rw [e11, nI_leI (by omega) (by omega)] at c11
      refine g_iload_n B dX6_worthBy_14 rfl ?_
      refine g_iload_n B dX6_worthBy_15 rfl ?_
      refine g_iconst (v := (2)) B dX6_worthBy_16 (by decide) ?_
      refine g_icmp_eq (tgt := 35) B dX6_worthBy_17 (by decide) (fun c17 => ?_) (fun c17 => ?_)
      · refine g_aload_n B dX6_worthBy_35 rfl ?_
        refine g_iload_n B dX6_worthBy_36 rfl ?_
        refine g_iload B dX6_worthBy_37 rfl ?_
        refine g_callVi (C := RX6) (As := [.int _, .int _]) B dX6_worthBy_39 (gc1 g_X6_348) (by rfl) ⟨rfl, hd_X6_hasAll⟩ (by exact ⟨Nat.le_of_ble_eq_true rfl, Nat.le_of_ble_eq_true rfl⟩) ⟨rfl, rfl⟩ rfl rfl (by exact Nat.le_of_ble_eq_true rfl) recvM (c_hasAll (u := i) (hC.pk hp) rfl (by omega) (fun τ1 p1 => ?_))
        rw [vM_pk hp (by decide)]
        refine g_goto (tgt := 46) B dX6_worthBy_42 (by decide) ?_
        refine g_iadd B dX6_worthBy_46 ?_
        refine g_istore_n B dX6_worthBy_47 (by decide) rfl ?_
        refine g_iinc (c9 := (1)) B dX6_worthBy_48 rfl (by decide) (by decide) rfl ?_
        refine g_goto (tgt := 5) B dX6_worthBy_51 (by decide) ?_
        rw [nI_1 i]
        first
          | (have e : smT (wuV (vM τ0 C) sh w) (i + 1) = smT (wuV (vM τ0 C) sh w) i + haV (vM τ0 C) sh i := by
               show _ + wuV (vM τ0 C) sh w i = _
               unfold wuV
               first | rw [if_pos (Or.inl c17)] | (have h32 : (vM τ0 C).2.2.2.2.1 i = w := c32; rw [if_pos (Or.inr h32)])
             rw [← e]
             exact ih (i + 1) τ1 (by omega) (by omega) (hp.trans p1))
          | (have e : smT (wuV (vM τ0 C) sh w) (i + 1) = smT (wuV (vM τ0 C) sh w) i + 0 := by
               show _ + wuV (vM τ0 C) sh w i = _
               unfold wuV
               have h32 : ¬ (vM τ0 C).2.2.2.2.1 i = w := c32
               rw [if_neg (fun z => z.elim c17 h32)]
             rw [← e]
             exact ih (i + 1) τ (by omega) (by omega) hp)
      · refine g_aload_n B dX6_worthBy_20 rfl ?_
        refine g_getR (T := TX6) (N := 42) B dX6_worthBy_21 (by decide) (by rfl) (inq inlX6) rfl 10 (by decide) (mq f_X6_29) (by rfl) ?_
        refine g_iconst (v := (2)) B dX6_worthBy_24 (by decide) ?_
        refine g_iload B dX6_worthBy_25 rfl ?_
        refine g_imul B dX6_worthBy_27 ?_
        refine g_iconst (v := (1)) B dX6_worthBy_28 (by decide) ?_
        refine g_iadd B dX6_worthBy_29 ?_
        rw [h2i, nI_1]
        refine g_iald B dX6_worthBy_30 (by decide) (by rfl) (by exact vp_in_nI (by omega) (by omega)) ?_
        rw [i_cl (by omega), hr]
        refine g_iload_n B dX6_worthBy_31 rfl ?_
        refine g_icmp_ne (tgt := 45) B dX6_worthBy_32 (by decide) (fun c32 => ?_) (fun c32 => ?_)
        · refine g_iconst (v := (0)) B dX6_worthBy_45 (by decide) ?_
          refine g_iadd B dX6_worthBy_46 ?_
          refine g_istore_n B dX6_worthBy_47 (by decide) rfl ?_
          refine g_iinc (c9 := (1)) B dX6_worthBy_48 rfl (by decide) (by decide) rfl ?_
          refine g_goto (tgt := 5) B dX6_worthBy_51 (by decide) ?_
          rw [nI_1 i]
          first
            | (have e : smT (wuV (vM τ0 C) sh w) (i + 1) = smT (wuV (vM τ0 C) sh w) i + haV (vM τ0 C) sh i := by
                 show _ + wuV (vM τ0 C) sh w i = _
                 unfold wuV
                 first | rw [if_pos (Or.inl c17)] | (have h32 : (vM τ0 C).2.2.2.2.1 i = w := c32; rw [if_pos (Or.inr h32)])
               rw [← e]
               exact ih (i + 1) τ1 (by omega) (by omega) (hp.trans p1))
            | (have e : smT (wuV (vM τ0 C) sh w) (i + 1) = smT (wuV (vM τ0 C) sh w) i + 0 := by
                 show _ + wuV (vM τ0 C) sh w i = _
                 unfold wuV
                 have h32 : ¬ (vM τ0 C).2.2.2.2.1 i = w := c32
                 rw [if_neg (fun z => z.elim c17 h32)]
               rw [← e]
               exact ih (i + 1) τ (by omega) (by omega) hp)
        · refine g_aload_n B dX6_worthBy_35 rfl ?_
          refine g_iload_n B dX6_worthBy_36 rfl ?_
          refine g_iload B dX6_worthBy_37 rfl ?_
          refine g_callVi (C := RX6) (As := [.int _, .int _]) B dX6_worthBy_39 (gc1 g_X6_348) (by rfl) ⟨rfl, hd_X6_hasAll⟩ (by exact ⟨Nat.le_of_ble_eq_true rfl, Nat.le_of_ble_eq_true rfl⟩) ⟨rfl, rfl⟩ rfl rfl (by exact Nat.le_of_ble_eq_true rfl) recvM (c_hasAll (u := i) (hC.pk hp) rfl (by omega) (fun τ1 p1 => ?_))
          rw [vM_pk hp (by decide)]
          refine g_goto (tgt := 46) B dX6_worthBy_42 (by decide) ?_
          refine g_iadd B dX6_worthBy_46 ?_
          refine g_istore_n B dX6_worthBy_47 (by decide) rfl ?_
          refine g_iinc (c9 := (1)) B dX6_worthBy_48 rfl (by decide) (by decide) rfl ?_
          refine g_goto (tgt := 5) B dX6_worthBy_51 (by decide) ?_
          rw [nI_1 i]
          first
            | (have e : smT (wuV (vM τ0 C) sh w) (i + 1) = smT (wuV (vM τ0 C) sh w) i + haV (vM τ0 C) sh i := by
                 show _ + wuV (vM τ0 C) sh w i = _
                 unfold wuV
                 first | rw [if_pos (Or.inl c17)] | (have h32 : (vM τ0 C).2.2.2.2.1 i = w := c32; rw [if_pos (Or.inr h32)])
               rw [← e]
               exact ih (i + 1) τ1 (by omega) (by omega) (hp.trans p1))
            | (have e : smT (wuV (vM τ0 C) sh w) (i + 1) = smT (wuV (vM τ0 C) sh w) i + 0 := by
                 show _ + wuV (vM τ0 C) sh w i = _
                 unfold wuV
                 have h32 : ¬ (vM τ0 C).2.2.2.2.1 i = w := c32
                 rw [if_neg (fun z => z.elim c17 h32)]
               rw [← e]
               exact ih (i + 1) τ (by omega) (by omega) hp)
set_option maxRecDepth 100000 in
set_option maxHeartbeats 4000000 in
theorem c_worthBy {Z : LZ} {ad : Nat → Nat} {τ : St} {K : Int32 → St → Prop} {sh w : Int32} {m : Nat} {C : TC} (hC : RUL τ C) (hm6 : m ≤ 6) (hm : τ.1 0 11 = nI m) (hK : ∀ τ', pkx mS τ τ' → K (woV (vM τ C) sh w) τ') : CC lyM Z ad yX6_worthBy wsX6_worthBy (rmk 46) [.ref (ad 0), .int sh, .int w] τ (rI K) := by
  refine CC.of (cc := cX6_worthBy) (nL := 5) (ret := (some .int)) rfl rfl ⟨rfl, rfl⟩ (by exact Nat.le_of_ble_eq_true rfl) ?_
  intro X B
  change GG _ _ _ _ X _ 0 [some (.ref (ad 0)), some (.int sh), some (.int w), none, none] [] _
  change Amb _ _ _ _ X _ _ RX6 _ _ at B
  have hK' : ∀ τ', pkx mS τ τ' → K (smT (wuV (vM τ C) sh w) m) τ' := fun τ' p => by
    have := hK τ' p
    unfold woV at this
    rw [show (vM τ C).2.1 = nI m from hm, i_cl (by omega)] at this
    exact this
  refine g_iconst (v := (0)) B dX6_worthBy_0 (by decide) ?_
  refine g_istore_n B dX6_worthBy_1 (by decide) rfl ?_
  refine g_iconst (v := (0)) B dX6_worthBy_2 (by decide) ?_
  refine g_istore B dX6_worthBy_3 (by decide) rfl ?_
  exact l_worthBy B hC hm6 hm hK' 40 0 τ (by omega) (by omega) pkx.rf
def fWorth (V : VW) (sh what : Int32) : Int32 := if 0 ≤ what.toInt ∧ what.toInt ≤ 2 then woV V sh what else -1000000
set_option maxRecDepth 100000 in
set_option maxHeartbeats 4000000 in
theorem c_worth {Z : LZ} {ad : Nat → Nat} {τ : St} {K : Int32 → St → Prop} {x : Int32} {m : Nat} {C : TC} (hC : RUL τ C) (hm6 : m ≤ 6) (hm : τ.1 0 11 = nI m) (hK : ∀ τ', pkx mS τ τ' → K (fWorth (vM τ C) (τ.1 0 7) x) τ') : CC lyM Z ad yX6_worth wsX6_worth (rmk 47) [.ref (ad 0), .int x] τ (rI K) := by
  refine CC.of (cc := cX6_worth) (nL := 2) (ret := (some .int)) rfl rfl ⟨rfl, rfl⟩ (by exact Nat.le_of_ble_eq_true rfl) ?_
  intro X B
  change GG _ _ _ _ X _ 0 [some (.ref (ad 0)), some (.int x)] [] _
  change Amb _ _ _ _ X _ _ RX6 _ _ at B
  refine g_iload_n B dX6_worth_0 rfl ?_
  refine g_i2l B dX6_worth_1 rfl ?_
  refine g_lconst (v := (0)) B dX6_worth_2 (by decide) ?_
  refine g_ldc2 (v := (2)) B dX6_worth_3 (mq k_X6_351) ?_
  refine g_callSi (As := [.long _, .long _, .long _]) B dX6_worth_6 (gc1 g_X6_73) (by rfl) hd_X6_in (by exact ⟨Nat.le_of_ble_eq_true rfl, Nat.le_of_ble_eq_true rfl⟩) ⟨rfl, rfl⟩ rfl rfl (by exact Nat.le_of_ble_eq_true rfl) (c_in ?_)
  rw [in_0, show (2 : Int64).toInt = 2 from rfl]
  refine g_if_eq (tgt := 24) B dX6_worth_9 (by decide) (fun c9 => ?_) (fun c9 => ?_)
  · refine g_ldcw (v := (-1000000)) B dX6_worth_24 (mq k_X6_356) ?_
    refine g_ireti B dX6_worth_27 ?_
    first
      | (refine kk ?_ (hK _ p1)
         unfold fWorth
         rw [if_pos (b1_n0.mp c9)])
      | (refine kk ?_ (hK _ (pkx.rf (τ := τ)))
         unfold fWorth
         rw [if_neg (b1_0.mp c9)])
  · refine g_aload_n B dX6_worth_12 rfl ?_
    refine g_aload_n B dX6_worth_13 rfl ?_
    refine g_getI (T := TX6) (N := 42) B dX6_worth_14 (by decide) (by rfl) (inq inlX6) rfl 7 (by decide) (mq f_X6_104) (by rfl) ?_
    refine g_iload_n B dX6_worth_17 rfl ?_
    refine g_callVi (C := RX6) (As := [.int _, .int _]) B dX6_worth_18 (gc1 g_X6_353) (by rfl) ⟨rfl, hd_X6_worthBy⟩ (by exact ⟨Nat.le_of_ble_eq_true rfl, Nat.le_of_ble_eq_true rfl⟩) ⟨rfl, rfl⟩ rfl rfl (by exact Nat.le_of_ble_eq_true rfl) recvM (c_worthBy hC hm6 hm (fun τ1 p1 => ?_))
    refine g_goto (tgt := 27) B dX6_worth_21 (by decide) ?_
    refine g_ireti B dX6_worth_27 ?_
    first
      | (refine kk ?_ (hK _ p1)
         unfold fWorth
         rw [if_pos (b1_n0.mp c9)])
      | (refine kk ?_ (hK _ (pkx.rf (τ := τ)))
         unfold fWorth
         rw [if_neg (b1_0.mp c9)])
/-- the first place of k from i on that is such; -1 -/
def fsI (p : Nat → Prop) (d : ∀ i, Decidable (p i)) : Nat → Nat → Int32
  | 0, _ => -1
  | k + 1, i => if p i then nI i else fsI p d k (i + 1)
def tooP (V : VW) (sh : Int32) (t : Nat) : Prop := ¬ nI (sRn sh t) ≤ sMost V.1 (V.2.2.2.2.2 t) t (sTw sh t) V.2.1
def tooD (V : VW) (sh : Int32) (t : Nat) : Decidable (tooP V sh t) := inferInstanceAs (Decidable (¬ _))
def sToo (V : VW) (sh : Int32) : Int32 := fsI (tooP V sh) (tooD V sh) 30 0
set_option maxRecDepth 100000 in
set_option maxHeartbeats 4000000 in
theorem l_tooMuch {Z : LZ} {ad : Nat → Nat} {X : CX} {K : Int32 → St → Prop} {τ0 : St} {sh : Int32} {C : TC} (B : Amb lyM Z ad (rmk 44) X cX6_tooMuch wsX6_tooMuch RX6 3 (some .int)) (hC : RUL τ0 C) : ∀ (k i : Nat) (τ : St), i + k = 30 → pkx mS τ0 τ → (∀ τ', pkx mS τ0 τ' → K (fsI (tooP (vM τ0 C) sh) (tooD (vM τ0 C) sh) k i) τ') → GG lyM Z ad (rmk 44) X (rI K) 2 [some (.ref (ad 0)), some (.int sh), some (.int (nI i))] [] τ := by
  intro k
  induction k using Nat.strongRecOn with
  | ind k ih =>
    intro i τ h1 hp hK
    refine g_iload_n B dX6_tooMuch_2 rfl ?_
    refine g_bipush (v := (30)) B dX6_tooMuch_3 (by decide) ?_
    refine g_icmp_ge (tgt := 34) B dX6_tooMuch_5 (by decide) (fun c5 => ?_) (fun c5 => ?_)
    · refine g_iconst (v := (-1)) B dX6_tooMuch_34 (by decide) ?_
      refine g_ireti B dX6_tooMuch_35 ?_
      first
        | (have := hK τ1 (hp.trans p1)
           rw [if_pos (show tooP (vM τ0 C) sh i from c23)] at this
           exact this)
        | (rw [show (30 : Int32) = nI 30 from rfl, nI_leI (by omega) (by omega)] at c5
           have e : k = 0 := by omega
           subst e
           exact hK τ hp)
    · rw [show (30 : Int32) = nI 30 from rfl, nI_leI (by omega) (by omega)] at c5
      obtain ⟨k', rfl⟩ : ∃ k', k = k' + 1 := ⟨k - 1, by omega⟩
      unfold fsI at hK
      refine g_iload_n B dX6_tooMuch_8 rfl ?_
      refine g_iload_n B dX6_tooMuch_9 rfl ?_
      refine g_callSi (As := [.int _, .int _]) B dX6_tooMuch_10 (gc1 g_X6_114) (by rfl) hd_X6_runOf (by exact ⟨Nat.le_of_ble_eq_true rfl, Nat.le_of_ble_eq_true rfl⟩) ⟨rfl, rfl⟩ rfl rfl (by exact Nat.le_of_ble_eq_true rfl) (c_runOf (t := i) rfl (by omega) ?_)
      refine g_aload_n B dX6_tooMuch_13 rfl ?_
      refine g_iload_n B dX6_tooMuch_14 rfl ?_
      refine g_iload_n B dX6_tooMuch_15 rfl ?_
      refine g_iload_n B dX6_tooMuch_16 rfl ?_
      refine g_callSi (As := [.int _, .int _]) B dX6_tooMuch_17 (gc1 g_X6_117) (by rfl) hd_X6_townOf (by exact ⟨Nat.le_of_ble_eq_true rfl, Nat.le_of_ble_eq_true rfl⟩) ⟨rfl, rfl⟩ rfl rfl (by exact Nat.le_of_ble_eq_true rfl) (c_townOf (t := i) rfl (by omega) ?_)
      refine g_callVi (C := RX6) (As := [.int _, .int _]) B dX6_tooMuch_20 (gc1 g_X6_120) (by rfl) ⟨rfl, hd_X6_mostOf⟩ (by exact ⟨Nat.le_of_ble_eq_true rfl, Nat.le_of_ble_eq_true rfl⟩) ⟨rfl, rfl⟩ rfl rfl (by exact Nat.le_of_ble_eq_true rfl) recvM (c_mostOf (t := i) (hC.pk hp) rfl (by omega) (fun τ1 p1 => ?_))
      rw [hp.1 4 (by decide), hp.2.1 11 (by decide)]
      refine g_icmp_le (tgt := 28) B dX6_tooMuch_23 (by decide) (fun c23 => ?_) (fun c23 => ?_)
      · refine g_iinc (c9 := (1)) B dX6_tooMuch_28 rfl (by decide) (by decide) rfl ?_
        refine g_goto (tgt := 2) B dX6_tooMuch_31 (by decide) ?_
        rw [nI_1 i]
        refine ih k' (by omega) (i + 1) τ1 (by omega) (hp.trans p1) (fun τ' p => ?_)
        have := hK τ' p
        rw [if_neg (show ¬ tooP (vM τ0 C) sh i from fun z => z c23)] at this
        exact this
      · refine g_iload_n B dX6_tooMuch_26 rfl ?_
        refine g_ireti B dX6_tooMuch_27 ?_
        first
          | (have := hK τ1 (hp.trans p1)
             rw [if_pos (show tooP (vM τ0 C) sh i from c23)] at this
             exact this)
          | (rw [show (30 : Int32) = nI 30 from rfl, nI_leI (by omega) (by omega)] at c5
             have e : k = 0 := by omega
             subst e
             exact hK τ hp)
set_option maxRecDepth 100000 in
set_option maxHeartbeats 4000000 in
theorem c_tooMuch {Z : LZ} {ad : Nat → Nat} {τ : St} {K : Int32 → St → Prop} {sh : Int32} {C : TC} (hC : RUL τ C) (hK : ∀ τ', pkx mS τ τ' → K (sToo (vM τ C) sh) τ') : CC lyM Z ad yX6_tooMuch wsX6_tooMuch (rmk 44) [.ref (ad 0), .int sh] τ (rI K) := by
  refine CC.of (cc := cX6_tooMuch) (nL := 3) (ret := (some .int)) rfl rfl ⟨rfl, rfl⟩ (by exact Nat.le_of_ble_eq_true rfl) ?_
  intro X B
  change GG _ _ _ _ X _ 0 [some (.ref (ad 0)), some (.int sh), none] [] _
  change Amb _ _ _ _ X _ _ RX6 _ _ at B
  refine g_iconst (v := (0)) B dX6_tooMuch_0 (by decide) ?_
  refine g_istore_n B dX6_tooMuch_1 (by decide) rfl ?_
  exact l_tooMuch B hC 30 0 τ rfl pkx.rf hK
def sLong (sh : Int32) : Nat → Int32
  | 0 => 0
  | n + 1 => if nI (sRn sh n) ≤ sLong sh n then sLong sh n else nI (sRn sh n)
def fShare (V : VW) (sh what : Int32) : Int32 := if 0 ≤ what.toInt ∧ what.toInt ≤ 3 then (if what = 1 then sToo V sh else if what = 0 then b1 (sToo V sh = -1) else if what = 2 then sLong sh 30 else smT (sTw sh) 30) else -2
set_option maxRecDepth 100000 in
set_option maxHeartbeats 4000000 in
theorem l_share {Z : LZ} {ad : Nat → Nat} {X : CX} {K : Int32 → St → Prop} {τ : St} {what : Int32} (B : Amb lyM Z ad (rmk 45) X cX6_share wsX6_share RX6 5 (some .int)) (hK : K (if what = 2 then sLong (τ.1 0 7) 30 else smT (sTw (τ.1 0 7)) 30) τ) : ∀ (k i : Nat), i ≤ 30 → 30 - i < k → GG lyM Z ad (rmk 45) X (rI K) 61 [some (.ref (ad 0)), some (.int what), some (.int (sLong (τ.1 0 7) i)), some (.int (smT (sTw (τ.1 0 7)) i)), some (.int (nI i))] [] τ := by
  intro k
  induction k with
  | zero => intro i _ h; omega
  | succ k ih =>
    intro i h1 h2
    refine g_iload B dX6_share_61 rfl ?_
    refine g_bipush (v := (30)) B dX6_share_63 (by decide) ?_
    refine g_icmp_ge (tgt := 113) B dX6_share_65 (by decide) (fun c65 => ?_) (fun c65 => ?_)
    · refine g_iload_n B dX6_share_113 rfl ?_
      refine g_iconst (v := (2)) B dX6_share_114 (by decide) ?_
      refine g_icmp_ne (tgt := 122) B dX6_share_115 (by decide) (fun c115 => ?_) (fun c115 => ?_)
      · refine g_iload_n B dX6_share_122 rfl ?_
        refine g_ireti B dX6_share_123 ?_
        rw [show (30 : Int32) = nI 30 from rfl, nI_leI (by omega) (by omega)] at c65
        have e : i = 30 := by omega
        subst e
        first
          | (rw [if_pos c115] at hK; exact hK)
          | (rw [if_neg c115] at hK; exact hK)
      · refine g_iload_n B dX6_share_118 rfl ?_
        refine g_goto (tgt := 123) B dX6_share_119 (by decide) ?_
        refine g_ireti B dX6_share_123 ?_
        rw [show (30 : Int32) = nI 30 from rfl, nI_leI (by omega) (by omega)] at c65
        have e : i = 30 := by omega
        subst e
        first
          | (rw [if_pos c115] at hK; exact hK)
          | (rw [if_neg c115] at hK; exact hK)
    · rw [show (30 : Int32) = nI 30 from rfl, nI_leI (by omega) (by omega)] at c65
      refine g_aload_n B dX6_share_68 rfl ?_
      refine g_getI (T := TX6) (N := 42) B dX6_share_69 (by decide) (by rfl) (inq inlX6) rfl 7 (by decide) (mq f_X6_104) (by rfl) ?_
      refine g_iload B dX6_share_72 rfl ?_
      refine g_callSi (As := [.int _, .int _]) B dX6_share_74 (gc1 g_X6_114) (by rfl) hd_X6_runOf (by exact ⟨Nat.le_of_ble_eq_true rfl, Nat.le_of_ble_eq_true rfl⟩) ⟨rfl, rfl⟩ rfl rfl (by exact Nat.le_of_ble_eq_true rfl) (c_runOf (t := i) rfl (by omega) ?_)
      refine g_iload_n B dX6_share_77 rfl ?_
      refine g_icmp_le (tgt := 93) B dX6_share_78 (by decide) (fun c78 => ?_) (fun c78 => ?_)
      · refine g_iload_n B dX6_share_93 rfl ?_
        refine g_istore_n B dX6_share_94 (by decide) rfl ?_
        refine g_iload_n B dX6_share_95 rfl ?_
        refine g_aload_n B dX6_share_96 rfl ?_
        refine g_getI (T := TX6) (N := 42) B dX6_share_97 (by decide) (by rfl) (inq inlX6) rfl 7 (by decide) (mq f_X6_104) (by rfl) ?_
        refine g_iload B dX6_share_100 rfl ?_
        refine g_callSi (As := [.int _, .int _]) B dX6_share_102 (gc1 g_X6_117) (by rfl) hd_X6_townOf (by exact ⟨Nat.le_of_ble_eq_true rfl, Nat.le_of_ble_eq_true rfl⟩) ⟨rfl, rfl⟩ rfl rfl (by exact Nat.le_of_ble_eq_true rfl) (c_townOf (t := i) rfl (by omega) ?_)
        refine g_iadd B dX6_share_105 ?_
        refine g_istore_n B dX6_share_106 (by decide) rfl ?_
        refine g_iinc (c9 := (1)) B dX6_share_107 rfl (by decide) (by decide) rfl ?_
        refine g_goto (tgt := 61) B dX6_share_110 (by decide) ?_
        rw [nI_1 i]
        have h9 := ih (i + 1) (by omega) (by omega)
        unfold sLong at h9
        first
          | (rw [if_pos c78] at h9; exact h9)
          | (rw [if_neg c78] at h9; exact h9)
      · refine g_aload_n B dX6_share_81 rfl ?_
        refine g_getI (T := TX6) (N := 42) B dX6_share_82 (by decide) (by rfl) (inq inlX6) rfl 7 (by decide) (mq f_X6_104) (by rfl) ?_
        refine g_iload B dX6_share_85 rfl ?_
        refine g_callSi (As := [.int _, .int _]) B dX6_share_87 (gc1 g_X6_114) (by rfl) hd_X6_runOf (by exact ⟨Nat.le_of_ble_eq_true rfl, Nat.le_of_ble_eq_true rfl⟩) ⟨rfl, rfl⟩ rfl rfl (by exact Nat.le_of_ble_eq_true rfl) (c_runOf (t := i) rfl (by omega) ?_)
        refine g_goto (tgt := 94) B dX6_share_90 (by decide) ?_
        refine g_istore_n B dX6_share_94 (by decide) rfl ?_
        refine g_iload_n B dX6_share_95 rfl ?_
        refine g_aload_n B dX6_share_96 rfl ?_
        refine g_getI (T := TX6) (N := 42) B dX6_share_97 (by decide) (by rfl) (inq inlX6) rfl 7 (by decide) (mq f_X6_104) (by rfl) ?_
        refine g_iload B dX6_share_100 rfl ?_
        refine g_callSi (As := [.int _, .int _]) B dX6_share_102 (gc1 g_X6_117) (by rfl) hd_X6_townOf (by exact ⟨Nat.le_of_ble_eq_true rfl, Nat.le_of_ble_eq_true rfl⟩) ⟨rfl, rfl⟩ rfl rfl (by exact Nat.le_of_ble_eq_true rfl) (c_townOf (t := i) rfl (by omega) ?_)
        refine g_iadd B dX6_share_105 ?_
        refine g_istore_n B dX6_share_106 (by decide) rfl ?_
        refine g_iinc (c9 := (1)) B dX6_share_107 rfl (by decide) (by decide) rfl ?_
        refine g_goto (tgt := 61) B dX6_share_110 (by decide) ?_
        rw [nI_1 i]
        have h9 := ih (i + 1) (by omega) (by omega)
        unfold sLong at h9
        first
          | (rw [if_pos c78] at h9; exact h9)
          | (rw [if_neg c78] at h9; exact h9)
theorem i3 : (3 : Int64).toInt = 3 := rfl
set_option maxRecDepth 100000 in
set_option maxHeartbeats 4000000 in
theorem c_share {Z : LZ} {ad : Nat → Nat} {τ : St} {K : Int32 → St → Prop} {x : Int32} {C : TC} (hC : RUL τ C) (hK : ∀ τ', pkx mS τ τ' → K (fShare (vM τ C) (τ.1 0 7) x) τ') : CC lyM Z ad yX6_share wsX6_share (rmk 45) [.ref (ad 0), .int x] τ (rI K) := by
  refine CC.of (cc := cX6_share) (nL := 5) (ret := (some .int)) rfl rfl ⟨rfl, rfl⟩ (by exact Nat.le_of_ble_eq_true rfl) ?_
  intro X B
  change GG _ _ _ _ X _ 0 [some (.ref (ad 0)), some (.int x), none, none, none] [] _
  change Amb _ _ _ _ X _ _ RX6 _ _ at B
  unfold fShare at hK
  refine g_iload_n B dX6_share_0 rfl ?_
  refine g_i2l B dX6_share_1 rfl ?_
  refine g_lconst (v := (0)) B dX6_share_2 (by decide) ?_
  refine g_ldc2 (v := (3)) B dX6_share_3 (mq k_X6_86) ?_
  refine g_callSi (As := [.long _, .long _, .long _]) B dX6_share_6 (gc1 g_X6_73) (by rfl) hd_X6_in (by exact ⟨Nat.le_of_ble_eq_true rfl, Nat.le_of_ble_eq_true rfl⟩) ⟨rfl, rfl⟩ rfl rfl (by exact Nat.le_of_ble_eq_true rfl) (c_in ?_)
  rw [in_0, i3]
  refine g_if_ne (tgt := 15) B dX6_share_9 (by decide) (fun c9 => ?_) (fun c9 => ?_)
  · have hw := b1_n0.mp c9
    rw [if_pos hw] at hK
    refine g_iload_n B dX6_share_15 rfl ?_
    refine g_iconst (v := (2)) B dX6_share_16 (by decide) ?_
    refine g_icmp_ge (tgt := 54) B dX6_share_17 (by decide) (fun c17 => ?_) (fun c17 => ?_)
    · refine g_iconst (v := (0)) B dX6_share_54 (by decide) ?_
      refine g_istore_n B dX6_share_55 (by decide) rfl ?_
      refine g_iconst (v := (0)) B dX6_share_56 (by decide) ?_
      refine g_istore_n B dX6_share_57 (by decide) rfl ?_
      refine g_iconst (v := (0)) B dX6_share_58 (by decide) ?_
      refine g_istore B dX6_share_59 (by decide) rfl ?_
      have h2 := i_le.mp c17
      have e2 : (2 : Int32).toInt = 2 := rfl
      have hK' := hK τ pkx.rf
      rw [if_neg (fun z => by rw [z] at h2; exact absurd h2 (by decide)), if_neg (fun z => by rw [z] at h2; exact absurd h2 (by decide))] at hK'
      exact l_share B hK' 40 0 (by omega) (by omega)
    · refine g_iload_n B dX6_share_20 rfl ?_
      refine g_iconst (v := (1)) B dX6_share_21 (by decide) ?_
      refine g_icmp_ne (tgt := 36) B dX6_share_22 (by decide) (fun c22 => ?_) (fun c22 => ?_)
      · refine g_aload_n B dX6_share_36 rfl ?_
        refine g_aload_n B dX6_share_37 rfl ?_
        refine g_getI (T := TX6) (N := 42) B dX6_share_38 (by decide) (by rfl) (inq inlX6) rfl 7 (by decide) (mq f_X6_104) (by rfl) ?_
        refine g_callVi (C := RX6) (As := [.int _]) B dX6_share_41 (gc1 g_X6_357) (by rfl) ⟨rfl, hd_X6_tooMuch⟩ (by exact ⟨Nat.le_of_ble_eq_true rfl, Nat.le_of_ble_eq_true rfl⟩) ⟨rfl, rfl⟩ rfl rfl (by exact Nat.le_of_ble_eq_true rfl) recvM (c_tooMuch hC (fun τ1 p1 => ?_))
        refine g_iconst (v := (-1)) B dX6_share_44 (by decide) ?_
        refine g_icmp_ne (tgt := 52) B dX6_share_45 (by decide) (fun c45 => ?_) (fun c45 => ?_)
        · refine g_iconst (v := (0)) B dX6_share_52 (by decide) ?_
          refine g_ireti B dX6_share_53 ?_
          first
            | exact hK τ pkx.rf
            | (have h9 := hK τ1 p1
               first
               | (rw [if_pos c22] at h9; exact h9)
               | (have h0 : x = 0 := by
                    have h3 := i_lt.mp (Int32.not_le.mp c17)
                    have e2 : (2 : Int32).toInt = 2 := rfl
                    have e1 : (1 : Int32).toInt = 1 := rfl
                    have h4 : ¬ x.toInt = 1 := fun z => c22 (i_eq.mpr z)
                    rw [i_eq, i0]
                    omega
                  rw [if_neg c22, if_pos h0] at h9
                  first
                  | (rw [b1_t c45] at h9; exact h9)
                  | (rw [b1_f c45] at h9; exact h9)))
        · refine g_iconst (v := (1)) B dX6_share_48 (by decide) ?_
          refine g_goto (tgt := 53) B dX6_share_49 (by decide) ?_
          refine g_ireti B dX6_share_53 ?_
          first
            | exact hK τ pkx.rf
            | (have h9 := hK τ1 p1
               first
               | (rw [if_pos c22] at h9; exact h9)
               | (have h0 : x = 0 := by
                    have h3 := i_lt.mp (Int32.not_le.mp c17)
                    have e2 : (2 : Int32).toInt = 2 := rfl
                    have e1 : (1 : Int32).toInt = 1 := rfl
                    have h4 : ¬ x.toInt = 1 := fun z => c22 (i_eq.mpr z)
                    rw [i_eq, i0]
                    omega
                  rw [if_neg c22, if_pos h0] at h9
                  first
                  | (rw [b1_t c45] at h9; exact h9)
                  | (rw [b1_f c45] at h9; exact h9)))
      · refine g_aload_n B dX6_share_25 rfl ?_
        refine g_aload_n B dX6_share_26 rfl ?_
        refine g_getI (T := TX6) (N := 42) B dX6_share_27 (by decide) (by rfl) (inq inlX6) rfl 7 (by decide) (mq f_X6_104) (by rfl) ?_
        refine g_callVi (C := RX6) (As := [.int _]) B dX6_share_30 (gc1 g_X6_357) (by rfl) ⟨rfl, hd_X6_tooMuch⟩ (by exact ⟨Nat.le_of_ble_eq_true rfl, Nat.le_of_ble_eq_true rfl⟩) ⟨rfl, rfl⟩ rfl rfl (by exact Nat.le_of_ble_eq_true rfl) recvM (c_tooMuch hC (fun τ1 p1 => ?_))
        refine g_goto (tgt := 53) B dX6_share_33 (by decide) ?_
        refine g_ireti B dX6_share_53 ?_
        first
          | exact hK τ pkx.rf
          | (have h9 := hK τ1 p1
             first
             | (rw [if_pos c22] at h9; exact h9)
             | (have h0 : x = 0 := by
                  have h3 := i_lt.mp (Int32.not_le.mp c17)
                  have e2 : (2 : Int32).toInt = 2 := rfl
                  have e1 : (1 : Int32).toInt = 1 := rfl
                  have h4 : ¬ x.toInt = 1 := fun z => c22 (i_eq.mpr z)
                  rw [i_eq, i0]
                  omega
                rw [if_neg c22, if_pos h0] at h9
                first
                | (rw [b1_t c45] at h9; exact h9)
                | (rw [b1_f c45] at h9; exact h9)))
  · rw [if_neg (b1_0.mp c9)] at hK
    refine g_bipush (v := (-2)) B dX6_share_12 (by decide) ?_
    refine g_ireti B dX6_share_14 ?_
    first
      | exact hK τ pkx.rf
      | (have h9 := hK τ1 p1
         first
         | (rw [if_pos c22] at h9; exact h9)
         | (have h0 : x = 0 := by
              have h3 := i_lt.mp (Int32.not_le.mp c17)
              have e2 : (2 : Int32).toInt = 2 := rfl
              have e1 : (1 : Int32).toInt = 1 := rfl
              have h4 : ¬ x.toInt = 1 := fun z => c22 (i_eq.mpr z)
              rw [i_eq, i0]
              omega
            rw [if_neg c22, if_pos h0] at h9
            first
            | (rw [b1_t c45] at h9; exact h9)
            | (rw [b1_f c45] at h9; exact h9)))

