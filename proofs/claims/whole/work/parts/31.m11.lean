/-! the first night that is otherwise, the cut, the changes *reference* -/
def othP (V : VW) (sh : Int32) (u : Nat) (it : Nat → Int32) (t : Nat) : Prop := ¬ hsV V sh u t = it t
def othD (V : VW) (sh : Int32) (u : Nat) (it : Nat → Int32) (t : Nat) : Decidable (othP V sh u it t) := inferInstanceAs (Decidable (¬ _))
def sFO (V : VW) (sh : Int32) (u : Nat) (it : Nat → Int32) (n : Nat) : Int32 := fsI (othP V sh u it) (othD V sh u it) n 0
def itM (τ : St) (s : Nat) : Nat → Int32 := fun t => τ.1 15 (40 * s + t)
set_option maxRecDepth 100000 in
set_option maxHeartbeats 4000000 in
theorem l_firstOther {Z : LZ} {ad : Nat → Nat} {X : CX} {K : Int32 → St → Prop} {τ0 : St} {sh : Int32} {s u n : Nat} {C : TC} (B : Amb lyM Z ad (rmk 45) X cX6_firstOther wsX6_firstOther RX6 5 (some .int)) (hC : RUL τ0 C) (hu : u < 6) (hs : s < 4) (hn : n ≤ 30) (hz : τ0.1 14 s = nI n) : ∀ (k i : Nat) (τ : St), i + k = n → pkx mS τ0 τ → (∀ τ', pkx mS τ0 τ' → K (fsI (othP (vM τ0 C) sh u (itM τ0 s)) (othD (vM τ0 C) sh u (itM τ0 s)) k i) τ') → GG lyM Z ad (rmk 45) X (rI K) 3 [some (.ref (ad 0)), some (.int (nI s)), some (.int (nI u)), some (.int sh), some (.int (nI i))] [] τ := by
  intro k
  induction k using Nat.strongRecOn with
  | ind k ih =>
    intro i τ h1 hp hK
    refine g_iload B dX6_firstOther_3 rfl ?_
    refine g_aload_n B dX6_firstOther_5 rfl ?_
    refine g_getR (T := TX6) (N := 42) B dX6_firstOther_6 (by decide) (by rfl) (inq inlX6) rfl 40 (by decide) (mq f_X6_57) (by rfl) ?_
    refine g_iload_n B dX6_firstOther_9 rfl ?_
    refine g_iald B dX6_firstOther_10 (by decide) (by rfl) (by exact vp_in_nI hs (by omega)) ?_
    rw [i_cl (by omega), hp.1 14 (by decide), hz]
    refine g_icmp_ge (tgt := 46) B dX6_firstOther_11 (by decide) (fun c11 => ?_) (fun c11 => ?_)
    · refine g_iconst (v := (-1)) B dX6_firstOther_46 (by decide) ?_
      refine g_ireti B dX6_firstOther_47 ?_
      first
        | (have := hK τ1 (hp.trans p1)
           rw [if_pos (show othP (vM τ0 C) sh u (itM τ0 s) i from c34)] at this
           exact this)
        | (rw [nI_leI (by omega) (by omega)] at c11
           have e : k = 0 := by omega
           subst e
           exact hK τ hp)
    · rw [nI_leI (by omega) (by omega)] at c11
      obtain ⟨k', rfl⟩ : ∃ k', k = k' + 1 := ⟨k - 1, by omega⟩
      unfold fsI at hK
      refine g_aload_n B dX6_firstOther_14 rfl ?_
      refine g_iload_n B dX6_firstOther_15 rfl ?_
      refine g_iload_n B dX6_firstOther_16 rfl ?_
      refine g_iload B dX6_firstOther_17 rfl ?_
      refine g_callVi (C := RX6) (As := [.int _, .int _, .int _]) B dX6_firstOther_19 (gc1 g_X6_344) (by rfl) ⟨rfl, hd_X6_hasOf⟩ (by exact ⟨Nat.le_of_ble_eq_true rfl, Nat.le_of_ble_eq_true rfl⟩) ⟨rfl, rfl⟩ rfl rfl (by exact Nat.le_of_ble_eq_true rfl) recvM (c_hasOf (t := i) (hC.pk hp) rfl hu rfl (by omega) (fun τ1 p1 => ?_))
      refine g_aload_n B dX6_firstOther_22 rfl ?_
      refine g_getR (T := TX6) (N := 42) B dX6_firstOther_23 (by decide) (by rfl) (inq inlX6) rfl 41 (by decide) (mq f_X6_60) (by rfl) ?_
      refine g_bipush (v := (40)) B dX6_firstOther_26 (by decide) ?_
      refine g_iload_n B dX6_firstOther_28 rfl ?_
      refine g_imul B dX6_firstOther_29 ?_
      refine g_iload B dX6_firstOther_30 rfl ?_
      refine g_iadd B dX6_firstOther_32 ?_
      rw [vM_pk hp (by decide), show (40 : Int32) * nI s + nI i = nI (40 * s + i) from (congrArg (· + nI i) (pk_mul 40 s)).trans (nI_add _ _)]
      refine g_iald B dX6_firstOther_33 (by decide) (by rfl) (by exact vp_in_nI (by omega) (by omega)) ?_
      rw [i_cl (by omega), p1.1 15 (by decide), hp.1 15 (by decide)]
      refine g_icmp_eq (tgt := 40) B dX6_firstOther_34 (by decide) (fun c34 => ?_) (fun c34 => ?_)
      · refine g_iinc (c9 := (1)) B dX6_firstOther_40 rfl (by decide) (by decide) rfl ?_
        refine g_goto (tgt := 3) B dX6_firstOther_43 (by decide) ?_
        rw [nI_1 i]
        refine ih k' (by omega) (i + 1) τ1 (by omega) (hp.trans p1) (fun τ' p => ?_)
        have := hK τ' p
        rw [if_neg (show ¬ othP (vM τ0 C) sh u (itM τ0 s) i from fun z => z c34)] at this
        exact this
      · refine g_iload B dX6_firstOther_37 rfl ?_
        refine g_ireti B dX6_firstOther_39 ?_
        first
          | (have := hK τ1 (hp.trans p1)
             rw [if_pos (show othP (vM τ0 C) sh u (itM τ0 s) i from c34)] at this
             exact this)
          | (rw [nI_leI (by omega) (by omega)] at c11
             have e : k = 0 := by omega
             subst e
             exact hK τ hp)
set_option maxRecDepth 100000 in
set_option maxHeartbeats 4000000 in
theorem c_firstOther {Z : LZ} {ad : Nat → Nat} {τ : St} {K : Int32 → St → Prop} {sh x y : Int32} {s u n : Nat} {C : TC} (hC : RUL τ C) (hx : x = nI s) (hs : s < 4) (hy : y = nI u) (hu : u < 6) (hn : n ≤ 30) (hz : τ.1 14 s = nI n) (hK : ∀ τ', pkx mS τ τ' → K (sFO (vM τ C) sh u (itM τ s) n) τ') : CC lyM Z ad yX6_firstOther wsX6_firstOther (rmk 45) [.ref (ad 0), .int x, .int y, .int sh] τ (rI K) := by
  refine CC.of (cc := cX6_firstOther) (nL := 5) (ret := (some .int)) rfl rfl ⟨rfl, rfl⟩ (by exact Nat.le_of_ble_eq_true rfl) ?_
  intro X B
  change GG _ _ _ _ X _ 0 [some (.ref (ad 0)), some (.int x), some (.int y), some (.int sh), none] [] _
  change Amb _ _ _ _ X _ _ RX6 _ _ at B
  subst hx hy
  refine g_iconst (v := (0)) B dX6_firstOther_0 (by decide) ?_
  refine g_istore B dX6_firstOther_1 (by decide) rfl ?_
  exact l_firstOther B hC hu hs hn hz n 0 τ (by omega) pkx.rf hK
/-- the share of n nights of a town -/
def cutS (n f : Nat) : Int32 := if nI f = 1 then ((1 : Int32) <<< (nI n &&& 31)) - 1 else 1073741823 &&& ((((1 : Int32) <<< (nI n &&& 31)) - 1) ^^^ (-1))
def cutV (V : VW) (k : Nat) : Int32 := pln (woV V (cutS (k / 2) (k % 2)) 0 - woV V (cutS (k / 2) (k % 2)) 1)
def cutF (V : VW) : Nat → Int32 × Int32
  | 0 => (-1, 0)
  | k + 1 => if (cutF V k).1 = -1 ∨ ¬ (cutF V k).2 ≤ cutV V k then (nI (10 * (k / 2) + k % 2), cutV V k) else cutF V k
set_option maxRecDepth 100000 in
set_option maxHeartbeats 4000000 in
theorem l_cut {Z : LZ} {ad : Nat → Nat} {X : CX} {K : Int32 → St → Prop} {τ0 : St} {what : Int32} {m : Nat} {C : TC} (B : Amb lyM Z ad (rmk 47) X cX6_cut wsX6_cut RX6 8 (some .int)) (hC : RUL τ0 C) (hm6 : m ≤ 6) (hm : τ0.1 0 11 = nI m) (hK : ∀ τ', pkx mS τ0 τ' → K (if what = 0 then (cutF (vM τ0 C) 62).1 else (cutF (vM τ0 C) 62).2) τ') : ∀ (k i : Nat) (τ : St), i ≤ 62 → 62 - i < k → pkx mS τ0 τ → GG lyM Z ad (rmk 47) X (rI K) 20 [some (.ref (ad 0)), some (.int what), some (.int (cutF (vM τ0 C) i).1), some (.int (cutF (vM τ0 C) i).2), some (.int (nI i)), none, none, none] [] τ := by
  intro k
  induction k with
  | zero => intro i τ _ h; omega
  | succ k ih =>
    intro i τ h1 h2 hp
    have e11 : τ.1 0 11 = nI m := (hp.2.1 11 (by decide)).trans hm
    have ed : i < 62 → nI i / 2 = nI (i / 2) := fun q => pk_div (d := 2) (by omega) (by decide) (by decide)
    have er : i < 62 → nI i - nI i / 2 * 2 = nI (i % 2) := fun q => pk_rem (d := 2) (by omega) (by decide) (by decide)
    refine g_iload B dX6_cut_20 rfl ?_
    refine g_bipush (v := (62)) B dX6_cut_22 (by decide) ?_
    refine g_icmp_ge (tgt := 113) B dX6_cut_24 (by decide) (fun c24 => ?_) (fun c24 => ?_)
    · refine g_iload_n B dX6_cut_113 rfl ?_
      refine g_if_ne (tgt := 121) B dX6_cut_114 (by decide) (fun c114 => ?_) (fun c114 => ?_)
      · refine g_iload_n B dX6_cut_121 rfl ?_
        refine g_ireti B dX6_cut_122 ?_
        rw [show (62 : Int32) = nI 62 from rfl, nI_leI (by omega) (by omega)] at c24
        have e : i = 62 := by omega
        subst e
        have h9 := hK τ hp
        first
          | (rw [if_pos c114] at h9; exact h9)
          | (rw [if_neg c114] at h9; exact h9)
      · refine g_iload_n B dX6_cut_117 rfl ?_
        refine g_goto (tgt := 122) B dX6_cut_118 (by decide) ?_
        refine g_ireti B dX6_cut_122 ?_
        rw [show (62 : Int32) = nI 62 from rfl, nI_leI (by omega) (by omega)] at c24
        have e : i = 62 := by omega
        subst e
        have h9 := hK τ hp
        first
          | (rw [if_pos c114] at h9; exact h9)
          | (rw [if_neg c114] at h9; exact h9)
    · rw [show (62 : Int32) = nI 62 from rfl, nI_leI (by omega) (by omega)] at c24
      refine g_iconst (v := (1)) B dX6_cut_27 (by decide) ?_
      refine g_iload B dX6_cut_28 rfl ?_
      refine g_iconst (v := (2)) B dX6_cut_30 (by decide) ?_
      refine g_idiv B dX6_cut_31 (by decide) ?_
      rw [ed (by omega)]
      refine g_ishl B dX6_cut_32 ?_
      refine g_iconst (v := (1)) B dX6_cut_33 (by decide) ?_
      refine g_isub B dX6_cut_34 ?_
      refine g_istore B dX6_cut_35 (by decide) rfl ?_
      refine g_iload B dX6_cut_37 rfl ?_
      refine g_iconst (v := (2)) B dX6_cut_39 (by decide) ?_
      refine g_irem B dX6_cut_40 (by decide) ?_
      rw [er (by omega)]
      refine g_iconst (v := (1)) B dX6_cut_41 (by decide) ?_
      refine g_icmp_ne (tgt := 50) B dX6_cut_42 (by decide) (fun c42 => ?_) (fun c42 => ?_)
      · refine g_ldcw (v := (1073741823)) B dX6_cut_50 (mq k_X6_380) ?_
        refine g_iload B dX6_cut_53 rfl ?_
        refine g_iconst (v := (-1)) B dX6_cut_55 (by decide) ?_
        refine g_ixor B dX6_cut_56 ?_
        refine g_iand B dX6_cut_57 ?_
        first
          | rw [← (show cutS (i / 2) (i % 2) = 1073741823 &&& ((((1 : Int32) <<< (nI (i / 2) &&& 31)) - 1) ^^^ (-1)) from if_neg c42)]
          | skip
        refine g_istore B dX6_cut_58 (by decide) rfl ?_
        refine g_aload_n B dX6_cut_60 rfl ?_
        refine g_iload B dX6_cut_61 rfl ?_
        refine g_iconst (v := (0)) B dX6_cut_63 (by decide) ?_
        refine g_callVi (C := RX6) (As := [.int _, .int _]) B dX6_cut_64 (gc1 g_X6_353) (by rfl) ⟨rfl, hd_X6_worthBy⟩ (by exact ⟨Nat.le_of_ble_eq_true rfl, Nat.le_of_ble_eq_true rfl⟩) ⟨rfl, rfl⟩ rfl rfl (by exact Nat.le_of_ble_eq_true rfl) recvM (c_worthBy (hC.pk hp) hm6 e11 (fun τ1 p1 => ?_))
        refine g_aload_n B dX6_cut_67 rfl ?_
        refine g_iload B dX6_cut_68 rfl ?_
        refine g_iconst (v := (1)) B dX6_cut_70 (by decide) ?_
        refine g_callVi (C := RX6) (As := [.int _, .int _]) B dX6_cut_71 (gc1 g_X6_353) (by rfl) ⟨rfl, hd_X6_worthBy⟩ (by exact ⟨Nat.le_of_ble_eq_true rfl, Nat.le_of_ble_eq_true rfl⟩) ⟨rfl, rfl⟩ rfl rfl (by exact Nat.le_of_ble_eq_true rfl) recvM (c_worthBy ((hC.pk hp).pk p1) hm6 ((p1.2.1 11 (by decide)).trans e11) (fun τ2 p2 => ?_))
        rw [vM_pk p1 (by decide), vM_pk hp (by decide)]
        refine g_isub B dX6_cut_74 ?_
        refine g_callSi (As := [.int _]) B dX6_cut_75 (gc1 g_X6_362) (by rfl) hd_X6_plain (by exact ⟨Nat.le_of_ble_eq_true rfl, Nat.le_of_ble_eq_true rfl⟩) ⟨rfl, rfl⟩ rfl rfl (by exact Nat.le_of_ble_eq_true rfl) (c_plain ?_)
        refine g_istore B dX6_cut_78 (by decide) rfl ?_
        have hv : cutV (vM τ0 C) i = pln (woV (vM τ0 C) (cutS (i / 2) (i % 2)) 0 - woV (vM τ0 C) (cutS (i / 2) (i % 2)) 1) := rfl
        rw [← hv]
        refine g_iload_n B dX6_cut_80 rfl ?_
        refine g_iconst (v := (-1)) B dX6_cut_81 (by decide) ?_
        refine g_icmp_eq (tgt := 91) B dX6_cut_82 (by decide) (fun c82 => ?_) (fun c82 => ?_)
        · refine g_bipush (v := (10)) B dX6_cut_91 (by decide) ?_
          refine g_iload B dX6_cut_93 rfl ?_
          refine g_iconst (v := (2)) B dX6_cut_95 (by decide) ?_
          refine g_idiv B dX6_cut_96 (by decide) ?_
          rw [ed (by omega)]
          refine g_imul B dX6_cut_97 ?_
          rw [show (10 : Int32) * nI (i / 2) = nI (10 * (i / 2)) from pk_mul 10 _]
          refine g_iload B dX6_cut_98 rfl ?_
          refine g_iconst (v := (2)) B dX6_cut_100 (by decide) ?_
          refine g_irem B dX6_cut_101 (by decide) ?_
          rw [er (by omega)]
          refine g_iadd B dX6_cut_102 ?_
          rw [show nI (10 * (i / 2)) + nI (i % 2) = nI (10 * (i / 2) + i % 2) from nI_add _ _]
          refine g_istore_n B dX6_cut_103 (by decide) rfl ?_
          refine g_iload B dX6_cut_104 rfl ?_
          refine g_istore_n B dX6_cut_106 (by decide) rfl ?_
          refine g_iinc (c9 := (1)) B dX6_cut_107 rfl (by decide) (by decide) rfl ?_
          refine g_goto (tgt := 20) B dX6_cut_110 (by decide) ?_
          rw [nI_1 i]
          refine g_drop 5 (g_drop 6 (g_drop 7 ?_))
          have h9 := ih (i + 1) τ2 (by omega) (by omega) ((hp.trans p1).trans p2)
          unfold cutF at h9
          first
            | (rw [if_pos (Or.inl c82)] at h9; exact h9)
            | (rw [if_pos (Or.inr c88)] at h9; exact h9)
            | (rw [if_neg (fun z => z.elim c82 (fun z => z c88))] at h9; exact h9)
        · refine g_iload B dX6_cut_85 rfl ?_
          refine g_iload_n B dX6_cut_87 rfl ?_
          refine g_icmp_ge (tgt := 107) B dX6_cut_88 (by decide) (fun c88 => ?_) (fun c88 => ?_)
          · refine g_iinc (c9 := (1)) B dX6_cut_107 rfl (by decide) (by decide) rfl ?_
            refine g_goto (tgt := 20) B dX6_cut_110 (by decide) ?_
            rw [nI_1 i]
            refine g_drop 5 (g_drop 6 (g_drop 7 ?_))
            have h9 := ih (i + 1) τ2 (by omega) (by omega) ((hp.trans p1).trans p2)
            unfold cutF at h9
            first
              | (rw [if_pos (Or.inl c82)] at h9; exact h9)
              | (rw [if_pos (Or.inr c88)] at h9; exact h9)
              | (rw [if_neg (fun z => z.elim c82 (fun z => z c88))] at h9; exact h9)
          · refine g_bipush (v := (10)) B dX6_cut_91 (by decide) ?_
            refine g_iload B dX6_cut_93 rfl ?_
            refine g_iconst (v := (2)) B dX6_cut_95 (by decide) ?_
            refine g_idiv B dX6_cut_96 (by decide) ?_
            rw [ed (by omega)]
            refine g_imul B dX6_cut_97 ?_
            rw [show (10 : Int32) * nI (i / 2) = nI (10 * (i / 2)) from pk_mul 10 _]
            refine g_iload B dX6_cut_98 rfl ?_
            refine g_iconst (v := (2)) B dX6_cut_100 (by decide) ?_
            refine g_irem B dX6_cut_101 (by decide) ?_
            rw [er (by omega)]
            refine g_iadd B dX6_cut_102 ?_
            rw [show nI (10 * (i / 2)) + nI (i % 2) = nI (10 * (i / 2) + i % 2) from nI_add _ _]
            refine g_istore_n B dX6_cut_103 (by decide) rfl ?_
            refine g_iload B dX6_cut_104 rfl ?_
            refine g_istore_n B dX6_cut_106 (by decide) rfl ?_
            refine g_iinc (c9 := (1)) B dX6_cut_107 rfl (by decide) (by decide) rfl ?_
            refine g_goto (tgt := 20) B dX6_cut_110 (by decide) ?_
            rw [nI_1 i]
            refine g_drop 5 (g_drop 6 (g_drop 7 ?_))
            have h9 := ih (i + 1) τ2 (by omega) (by omega) ((hp.trans p1).trans p2)
            unfold cutF at h9
            first
              | (rw [if_pos (Or.inl c82)] at h9; exact h9)
              | (rw [if_pos (Or.inr c88)] at h9; exact h9)
              | (rw [if_neg (fun z => z.elim c82 (fun z => z c88))] at h9; exact h9)
      · have hc : cutS (i / 2) (i % 2) = ((1 : Int32) <<< (nI (i / 2) &&& 31)) - 1 := if_pos c42
        rw [← hc]
        refine g_iload B dX6_cut_45 rfl ?_
        refine g_goto (tgt := 58) B dX6_cut_47 (by decide) ?_
        first
          | rw [← (show cutS (i / 2) (i % 2) = 1073741823 &&& ((((1 : Int32) <<< (nI (i / 2) &&& 31)) - 1) ^^^ (-1)) from if_neg c42)]
          | skip
        refine g_istore B dX6_cut_58 (by decide) rfl ?_
        refine g_aload_n B dX6_cut_60 rfl ?_
        refine g_iload B dX6_cut_61 rfl ?_
        refine g_iconst (v := (0)) B dX6_cut_63 (by decide) ?_
        refine g_callVi (C := RX6) (As := [.int _, .int _]) B dX6_cut_64 (gc1 g_X6_353) (by rfl) ⟨rfl, hd_X6_worthBy⟩ (by exact ⟨Nat.le_of_ble_eq_true rfl, Nat.le_of_ble_eq_true rfl⟩) ⟨rfl, rfl⟩ rfl rfl (by exact Nat.le_of_ble_eq_true rfl) recvM (c_worthBy (hC.pk hp) hm6 e11 (fun τ1 p1 => ?_))
        refine g_aload_n B dX6_cut_67 rfl ?_
        refine g_iload B dX6_cut_68 rfl ?_
        refine g_iconst (v := (1)) B dX6_cut_70 (by decide) ?_
        refine g_callVi (C := RX6) (As := [.int _, .int _]) B dX6_cut_71 (gc1 g_X6_353) (by rfl) ⟨rfl, hd_X6_worthBy⟩ (by exact ⟨Nat.le_of_ble_eq_true rfl, Nat.le_of_ble_eq_true rfl⟩) ⟨rfl, rfl⟩ rfl rfl (by exact Nat.le_of_ble_eq_true rfl) recvM (c_worthBy ((hC.pk hp).pk p1) hm6 ((p1.2.1 11 (by decide)).trans e11) (fun τ2 p2 => ?_))
        rw [vM_pk p1 (by decide), vM_pk hp (by decide)]
        refine g_isub B dX6_cut_74 ?_
        refine g_callSi (As := [.int _]) B dX6_cut_75 (gc1 g_X6_362) (by rfl) hd_X6_plain (by exact ⟨Nat.le_of_ble_eq_true rfl, Nat.le_of_ble_eq_true rfl⟩) ⟨rfl, rfl⟩ rfl rfl (by exact Nat.le_of_ble_eq_true rfl) (c_plain ?_)
        refine g_istore B dX6_cut_78 (by decide) rfl ?_
        have hv : cutV (vM τ0 C) i = pln (woV (vM τ0 C) (cutS (i / 2) (i % 2)) 0 - woV (vM τ0 C) (cutS (i / 2) (i % 2)) 1) := rfl
        rw [← hv]
        refine g_iload_n B dX6_cut_80 rfl ?_
        refine g_iconst (v := (-1)) B dX6_cut_81 (by decide) ?_
        refine g_icmp_eq (tgt := 91) B dX6_cut_82 (by decide) (fun c82 => ?_) (fun c82 => ?_)
        · refine g_bipush (v := (10)) B dX6_cut_91 (by decide) ?_
          refine g_iload B dX6_cut_93 rfl ?_
          refine g_iconst (v := (2)) B dX6_cut_95 (by decide) ?_
          refine g_idiv B dX6_cut_96 (by decide) ?_
          rw [ed (by omega)]
          refine g_imul B dX6_cut_97 ?_
          rw [show (10 : Int32) * nI (i / 2) = nI (10 * (i / 2)) from pk_mul 10 _]
          refine g_iload B dX6_cut_98 rfl ?_
          refine g_iconst (v := (2)) B dX6_cut_100 (by decide) ?_
          refine g_irem B dX6_cut_101 (by decide) ?_
          rw [er (by omega)]
          refine g_iadd B dX6_cut_102 ?_
          rw [show nI (10 * (i / 2)) + nI (i % 2) = nI (10 * (i / 2) + i % 2) from nI_add _ _]
          refine g_istore_n B dX6_cut_103 (by decide) rfl ?_
          refine g_iload B dX6_cut_104 rfl ?_
          refine g_istore_n B dX6_cut_106 (by decide) rfl ?_
          refine g_iinc (c9 := (1)) B dX6_cut_107 rfl (by decide) (by decide) rfl ?_
          refine g_goto (tgt := 20) B dX6_cut_110 (by decide) ?_
          rw [nI_1 i]
          refine g_drop 5 (g_drop 6 (g_drop 7 ?_))
          have h9 := ih (i + 1) τ2 (by omega) (by omega) ((hp.trans p1).trans p2)
          unfold cutF at h9
          first
            | (rw [if_pos (Or.inl c82)] at h9; exact h9)
            | (rw [if_pos (Or.inr c88)] at h9; exact h9)
            | (rw [if_neg (fun z => z.elim c82 (fun z => z c88))] at h9; exact h9)
        · refine g_iload B dX6_cut_85 rfl ?_
          refine g_iload_n B dX6_cut_87 rfl ?_
          refine g_icmp_ge (tgt := 107) B dX6_cut_88 (by decide) (fun c88 => ?_) (fun c88 => ?_)
          · refine g_iinc (c9 := (1)) B dX6_cut_107 rfl (by decide) (by decide) rfl ?_
            refine g_goto (tgt := 20) B dX6_cut_110 (by decide) ?_
            rw [nI_1 i]
            refine g_drop 5 (g_drop 6 (g_drop 7 ?_))
            have h9 := ih (i + 1) τ2 (by omega) (by omega) ((hp.trans p1).trans p2)
            unfold cutF at h9
            first
              | (rw [if_pos (Or.inl c82)] at h9; exact h9)
              | (rw [if_pos (Or.inr c88)] at h9; exact h9)
              | (rw [if_neg (fun z => z.elim c82 (fun z => z c88))] at h9; exact h9)
          · refine g_bipush (v := (10)) B dX6_cut_91 (by decide) ?_
            refine g_iload B dX6_cut_93 rfl ?_
            refine g_iconst (v := (2)) B dX6_cut_95 (by decide) ?_
            refine g_idiv B dX6_cut_96 (by decide) ?_
            rw [ed (by omega)]
            refine g_imul B dX6_cut_97 ?_
            rw [show (10 : Int32) * nI (i / 2) = nI (10 * (i / 2)) from pk_mul 10 _]
            refine g_iload B dX6_cut_98 rfl ?_
            refine g_iconst (v := (2)) B dX6_cut_100 (by decide) ?_
            refine g_irem B dX6_cut_101 (by decide) ?_
            rw [er (by omega)]
            refine g_iadd B dX6_cut_102 ?_
            rw [show nI (10 * (i / 2)) + nI (i % 2) = nI (10 * (i / 2) + i % 2) from nI_add _ _]
            refine g_istore_n B dX6_cut_103 (by decide) rfl ?_
            refine g_iload B dX6_cut_104 rfl ?_
            refine g_istore_n B dX6_cut_106 (by decide) rfl ?_
            refine g_iinc (c9 := (1)) B dX6_cut_107 rfl (by decide) (by decide) rfl ?_
            refine g_goto (tgt := 20) B dX6_cut_110 (by decide) ?_
            rw [nI_1 i]
            refine g_drop 5 (g_drop 6 (g_drop 7 ?_))
            have h9 := ih (i + 1) τ2 (by omega) (by omega) ((hp.trans p1).trans p2)
            unfold cutF at h9
            first
              | (rw [if_pos (Or.inl c82)] at h9; exact h9)
              | (rw [if_pos (Or.inr c88)] at h9; exact h9)
              | (rw [if_neg (fun z => z.elim c82 (fun z => z c88))] at h9; exact h9)
def fCut (V : VW) (what : Int32) : Int32 := if 0 ≤ what.toInt ∧ what.toInt ≤ 1 then (if what = 0 then (cutF V 62).1 else (cutF V 62).2) else -2
set_option maxRecDepth 100000 in
set_option maxHeartbeats 4000000 in
theorem c_cut {Z : LZ} {ad : Nat → Nat} {τ : St} {K : Int32 → St → Prop} {x : Int32} {m : Nat} {C : TC} (hC : RUL τ C) (hm6 : m ≤ 6) (hm : τ.1 0 11 = nI m) (hK : ∀ τ', pkx mS τ τ' → K (fCut (vM τ C) x) τ') : CC lyM Z ad yX6_cut wsX6_cut (rmk 47) [.ref (ad 0), .int x] τ (rI K) := by
  refine CC.of (cc := cX6_cut) (nL := 8) (ret := (some .int)) rfl rfl ⟨rfl, rfl⟩ (by exact Nat.le_of_ble_eq_true rfl) ?_
  intro X B
  change GG _ _ _ _ X _ 0 [some (.ref (ad 0)), some (.int x), none, none, none, none, none, none] [] _
  change Amb _ _ _ _ X _ _ RX6 _ _ at B
  unfold fCut at hK
  refine g_iload_n B dX6_cut_0 rfl ?_
  refine g_i2l B dX6_cut_1 rfl ?_
  refine g_lconst (v := (0)) B dX6_cut_2 (by decide) ?_
  refine g_lconst (v := (1)) B dX6_cut_3 (by decide) ?_
  refine g_callSi (As := [.long _, .long _, .long _]) B dX6_cut_4 (gc1 g_X6_73) (by rfl) hd_X6_in (by exact ⟨Nat.le_of_ble_eq_true rfl, Nat.le_of_ble_eq_true rfl⟩) ⟨rfl, rfl⟩ rfl rfl (by exact Nat.le_of_ble_eq_true rfl) (c_in ?_)
  rw [in_0, show (1 : Int64).toInt = 1 from rfl]
  refine g_if_ne (tgt := 13) B dX6_cut_7 (by decide) (fun c7 => ?_) (fun c7 => ?_)
  · refine g_iconst (v := (-1)) B dX6_cut_13 (by decide) ?_
    refine g_istore_n B dX6_cut_14 (by decide) rfl ?_
    refine g_iconst (v := (0)) B dX6_cut_15 (by decide) ?_
    refine g_istore_n B dX6_cut_16 (by decide) rfl ?_
    refine g_iconst (v := (0)) B dX6_cut_17 (by decide) ?_
    refine g_istore B dX6_cut_18 (by decide) rfl ?_
    rw [if_pos (b1_n0.mp c7)] at hK
    exact l_cut B hC hm6 hm hK 70 0 τ (by omega) (by omega) pkx.rf
  · refine g_bipush (v := (-2)) B dX6_cut_10 (by decide) ?_
    refine g_ireti B dX6_cut_12 ?_
    rw [if_neg (b1_0.mp c7)] at hK
    exact hK τ pkx.rf
/-- the share with one night the other town's -/
def flS (sh : Int32) (t : Nat) : Int32 := sh ^^^ ((1 : Int32) <<< (nI t &&& 31))
def chF (V : VW) (sh w : Int32) : Nat → Int32 × Int32
  | 0 => (-1, woV V sh w)
  | t + 1 => if ¬ woV V (flS sh t) w ≤ (chF V sh w t).2 then (nI t, woV V (flS sh t) w) else chF V sh w t
abbrev mQ : List Nat := 29 :: 30 :: 31 :: mS
theorem pkS_Q {a b : St} (h : pkx mS a b) : pkx mQ a b := h.mono (fun k hk => List.mem_cons_of_mem _ (List.mem_cons_of_mem _ (List.mem_cons_of_mem _ hk)))
theorem RUL.pq {τ τ' : St} {C : TC} (h : RUL τ C) (hp : pkx mQ τ τ') : RUL τ' C := by
  obtain ⟨r, n, h1, h2⟩ := h
  exact ⟨r, n, by rw [hp.2.1 4 (by decide)]; exact h1, h2.pk hp⟩
set_option maxRecDepth 100000 in
set_option maxHeartbeats 4000000 in
theorem l_changes {Z : LZ} {ad : Nat → Nat} {X : CX} {K : St → Prop} {τ0 : St} {w : Int32} {m : Nat} {C : TC} (B : Amb lyM Z ad (rmk 47) X cX6_changes wsX6_changes RX6 4 none) (hC : RUL τ0 C) (hm6 : m ≤ 6) (hm : τ0.1 0 11 = nI m) (hK : ∀ τ', pkx mQ τ0 τ' → τ'.1 0 30 = (chF (vM τ0 C) (τ0.1 0 7) w 30).1 → τ'.1 0 31 = (chF (vM τ0 C) (τ0.1 0 7) w 30).2 → K τ') : ∀ (k i : Nat) (τ : St), i ≤ 30 → 30 - i < k → pkx mQ τ0 τ → τ.1 0 30 = (chF (vM τ0 C) (τ0.1 0 7) w i).1 → τ.1 0 31 = (chF (vM τ0 C) (τ0.1 0 7) w i).2 → GG lyM Z ad (rmk 47) X (rV K) 20 [some (.ref (ad 0)), some (.int w), some (.int (nI i)), none] [] τ := by
  intro k
  induction k with
  | zero => intro i τ _ h; omega
  | succ k ih =>
    intro i τ h1 h2 hp ha hb
    have e11 : τ.1 0 11 = nI m := (hp.2.1 11 (by decide)).trans hm
    have e7 : τ.1 0 7 = τ0.1 0 7 := hp.2.1 7 (by decide)
    refine g_iload_n B dX6_changes_20 rfl ?_
    refine g_bipush (v := (30)) B dX6_changes_21 (by decide) ?_
    refine g_icmp_ge (tgt := 64) B dX6_changes_23 (by decide) (fun c23 => ?_) (fun c23 => ?_)
    · refine g_vreti B dX6_changes_64 ?_
      rw [show (30 : Int32) = nI 30 from rfl, nI_leI (by omega) (by omega)] at c23
      have e : i = 30 := by omega
      subst e
      exact hK τ hp ha hb
    · rw [show (30 : Int32) = nI 30 from rfl, nI_leI (by omega) (by omega)] at c23
      refine g_aload_n B dX6_changes_26 rfl ?_
      refine g_aload_n B dX6_changes_27 rfl ?_
      refine g_getI (T := TX6) (N := 42) B dX6_changes_28 (by decide) (by rfl) (inq inlX6) rfl 7 (by decide) (mq f_X6_104) (by rfl) ?_
      refine g_iconst (v := (1)) B dX6_changes_31 (by decide) ?_
      refine g_iload_n B dX6_changes_32 rfl ?_
      refine g_ishl B dX6_changes_33 ?_
      refine g_ixor B dX6_changes_34 ?_
      refine g_iload_n B dX6_changes_35 rfl ?_
      rw [e7]
      refine g_callVi (C := RX6) (As := [.int _, .int _]) B dX6_changes_36 (gc1 g_X6_353) (by rfl) ⟨rfl, hd_X6_worthBy⟩ (by exact ⟨Nat.le_of_ble_eq_true rfl, Nat.le_of_ble_eq_true rfl⟩) ⟨rfl, rfl⟩ rfl rfl (by exact Nat.le_of_ble_eq_true rfl) recvM (c_worthBy (hC.pq hp) hm6 e11 (fun τ1 p1 => ?_))
      rw [vM_pk hp (by decide)]
      have hv : woV (vM τ0 C) (flS (τ0.1 0 7) i) w = woV (vM τ0 C) (τ0.1 0 7 ^^^ ((1 : Int32) <<< (nI i &&& 31))) w := rfl
      rw [← hv]
      refine g_istore_n B dX6_changes_39 (by decide) rfl ?_
      refine g_iload_n B dX6_changes_40 rfl ?_
      refine g_aload_n B dX6_changes_41 rfl ?_
      refine g_getI (T := TX6) (N := 42) B dX6_changes_42 (by decide) (by rfl) (inq inlX6) rfl 31 (by decide) (mq f_X6_384) (by rfl) ?_
      rw [p1.2.1 31 (by decide), hb]
      refine g_icmp_le (tgt := 58) B dX6_changes_45 (by decide) (fun c45 => ?_) (fun c45 => ?_)
      · refine g_iinc (c9 := (1)) B dX6_changes_58 rfl (by decide) (by decide) rfl ?_
        refine g_goto (tgt := 20) B dX6_changes_61 (by decide) ?_
        rw [nI_1 i]
        refine g_drop 3 ?_
        have p2 := hp.trans (pkS_Q p1)
        first
          | (have e : chF (vM τ0 C) (τ0.1 0 7) w (i + 1) = chF (vM τ0 C) (τ0.1 0 7) w i := if_neg (fun z => z c45)
             exact ih (i + 1) τ1 (by omega) (by omega) p2 (by rw [e, p1.2.1 30 (by decide), ha]) (by rw [e, p1.2.1 31 (by decide), hb]))
          | (have e : chF (vM τ0 C) (τ0.1 0 7) w (i + 1) = (nI i, woV (vM τ0 C) (flS (τ0.1 0 7) i) w) := if_pos c45
             refine ih (i + 1) _ (by omega) (by omega) ((p2.up (by decide)).up (by decide)) ?_ ?_
             · rw [e, upS_2 (by decide), upS_1]
             · rw [e, upS_1])
      · refine g_aload_n B dX6_changes_48 rfl ?_
        refine g_iload_n B dX6_changes_49 rfl ?_
        refine g_putI (T := TX6) (N := 42) B dX6_changes_50 (by decide) (by rfl) (inq inlX6) rfl 30 (by decide) (mq f_X6_381) tyX6_ok nmX6 rfl ⟨rfl, rfl⟩ (by rfl) ?_
        refine g_aload_n B dX6_changes_53 rfl ?_
        refine g_iload_n B dX6_changes_54 rfl ?_
        refine g_putI (T := TX6) (N := 42) B dX6_changes_55 (by decide) (by rfl) (inq inlX6) rfl 31 (by decide) (mq f_X6_384) tyX6_ok nmX6 rfl ⟨rfl, rfl⟩ (by rfl) ?_
        refine g_iinc (c9 := (1)) B dX6_changes_58 rfl (by decide) (by decide) rfl ?_
        refine g_goto (tgt := 20) B dX6_changes_61 (by decide) ?_
        rw [nI_1 i]
        refine g_drop 3 ?_
        have p2 := hp.trans (pkS_Q p1)
        first
          | (have e : chF (vM τ0 C) (τ0.1 0 7) w (i + 1) = chF (vM τ0 C) (τ0.1 0 7) w i := if_neg (fun z => z c45)
             exact ih (i + 1) τ1 (by omega) (by omega) p2 (by rw [e, p1.2.1 30 (by decide), ha]) (by rw [e, p1.2.1 31 (by decide), hb]))
          | (have e : chF (vM τ0 C) (τ0.1 0 7) w (i + 1) = (nI i, woV (vM τ0 C) (flS (τ0.1 0 7) i) w) := if_pos c45
             refine ih (i + 1) _ (by omega) (by omega) ((p2.up (by decide)).up (by decide)) ?_ ?_
             · rw [e, upS_2 (by decide), upS_1]
             · rw [e, upS_1])
set_option maxRecDepth 100000 in
set_option maxHeartbeats 4000000 in
theorem c_changes {Z : LZ} {ad : Nat → Nat} {τ : St} {K : St → Prop} {w : Int32} {m : Nat} {C : TC} (hC : RUL τ C) (hm6 : m ≤ 6) (hm : τ.1 0 11 = nI m) (hK : ∀ τ', pkx mQ τ τ' → τ'.1 0 30 = (chF (vM τ C) (τ.1 0 7) w 30).1 → τ'.1 0 31 = (chF (vM τ C) (τ.1 0 7) w 30).2 → K τ') : CC lyM Z ad yX6_changes wsX6_changes (rmk 47) [.ref (ad 0), .int w] τ (rV K) := by
  refine CC.of (cc := cX6_changes) (nL := 4) (ret := none) rfl rfl ⟨rfl, rfl⟩ (by exact Nat.le_of_ble_eq_true rfl) ?_
  intro X B
  change GG _ _ _ _ X _ 0 [some (.ref (ad 0)), some (.int w), none, none] [] _
  change Amb _ _ _ _ X _ _ RX6 _ _ at B
  have q0 : pkx mQ τ (upS τ 0 30 (-1)) := pkx.rf.up (by decide)
  refine g_aload_n B dX6_changes_0 rfl ?_
  refine g_iconst (v := (-1)) B dX6_changes_1 (by decide) ?_
  refine g_putI (T := TX6) (N := 42) B dX6_changes_2 (by decide) (by rfl) (inq inlX6) rfl 30 (by decide) (mq f_X6_381) tyX6_ok nmX6 rfl ⟨rfl, rfl⟩ (by rfl) ?_
  refine g_aload_n B dX6_changes_5 rfl ?_
  refine g_aload_n B dX6_changes_6 rfl ?_
  refine g_aload_n B dX6_changes_7 rfl ?_
  refine g_getI (T := TX6) (N := 42) B dX6_changes_8 (by decide) (by rfl) (inq inlX6) rfl 7 (by decide) (mq f_X6_104) (by rfl) ?_
  refine g_iload_n B dX6_changes_11 rfl ?_
  refine g_callVi (C := RX6) (As := [.int _, .int _]) B dX6_changes_12 (gc1 g_X6_353) (by rfl) ⟨rfl, hd_X6_worthBy⟩ (by exact ⟨Nat.le_of_ble_eq_true rfl, Nat.le_of_ble_eq_true rfl⟩) ⟨rfl, rfl⟩ rfl rfl (by exact Nat.le_of_ble_eq_true rfl) recvM (c_worthBy (hC.pq q0) hm6 (by rw [upS_2 (by decide)]; exact hm) (fun τ1 p1 => ?_))
  refine g_putI (T := TX6) (N := 42) B dX6_changes_15 (by decide) (by rfl) (inq inlX6) rfl 31 (by decide) (mq f_X6_384) tyX6_ok nmX6 rfl ⟨rfl, rfl⟩ (by rfl) ?_
  refine g_iconst (v := (0)) B dX6_changes_18 (by decide) ?_
  refine g_istore_n B dX6_changes_19 (by decide) rfl ?_
  have p2 := (q0.trans (pkS_Q p1)).up (k := 31) (v := woV (vM (upS τ 0 30 (-1)) C) ((upS τ 0 30 (-1)).1 0 7) w) (by decide)
  have eV : vM (upS τ 0 30 (-1)) C = vM τ C := vM_pk q0 (by decide)
  refine l_changes B hC hm6 hm hK 40 0 _ (by omega) (by omega) p2 ?_ ?_
  · rw [upS_2 (by decide), p1.2.1 30 (by decide), upS_1]
    rfl
  · rw [upS_1, eV, upS_2 (by decide)]
    rfl
def fChange (V : VW) (sh what : Int32) : Int32 := if 0 ≤ what.toInt ∧ what.toInt ≤ 1 then (if what = 0 then (chF V sh 2 30).1 else (chF V sh 2 30).2) else -1000000
set_option maxRecDepth 100000 in
set_option maxHeartbeats 4000000 in
theorem c_change {Z : LZ} {ad : Nat → Nat} {τ : St} {K : Int32 → St → Prop} {x : Int32} {m : Nat} {C : TC} (hC : RUL τ C) (hm6 : m ≤ 6) (hm : τ.1 0 11 = nI m) (hK : ∀ τ', pkx mQ τ τ' → K (fChange (vM τ C) (τ.1 0 7) x) τ') : CC lyM Z ad yX6_change wsX6_change (rmk 48) [.ref (ad 0), .int x] τ (rI K) := by
  refine CC.of (cc := cX6_change) (nL := 2) (ret := (some .int)) rfl rfl ⟨rfl, rfl⟩ (by exact Nat.le_of_ble_eq_true rfl) ?_
  intro X B
  change GG _ _ _ _ X _ 0 [some (.ref (ad 0)), some (.int x)] [] _
  change Amb _ _ _ _ X _ _ RX6 _ _ at B
  unfold fChange at hK
  refine g_iload_n B dX6_change_0 rfl ?_
  refine g_i2l B dX6_change_1 rfl ?_
  refine g_lconst (v := (0)) B dX6_change_2 (by decide) ?_
  refine g_lconst (v := (1)) B dX6_change_3 (by decide) ?_
  refine g_callSi (As := [.long _, .long _, .long _]) B dX6_change_4 (gc1 g_X6_73) (by rfl) hd_X6_in (by exact ⟨Nat.le_of_ble_eq_true rfl, Nat.le_of_ble_eq_true rfl⟩) ⟨rfl, rfl⟩ rfl rfl (by exact Nat.le_of_ble_eq_true rfl) (c_in ?_)
  rw [in_0, show (1 : Int64).toInt = 1 from rfl]
  refine g_if_ne (tgt := 14) B dX6_change_7 (by decide) (fun c7 => ?_) (fun c7 => ?_)
  · rw [if_pos (b1_n0.mp c7)] at hK
    refine g_aload_n B dX6_change_14 rfl ?_
    refine g_iconst (v := (2)) B dX6_change_15 (by decide) ?_
    refine g_callVv (C := RX6) (As := [.int _]) B dX6_change_16 (gc1 g_X6_387) (by rfl) ⟨rfl, hd_X6_changes⟩ (by exact ⟨Nat.le_of_ble_eq_true rfl, Nat.le_of_ble_eq_true rfl⟩) ⟨rfl, rfl⟩ rfl rfl (by exact Nat.le_of_ble_eq_true rfl) recvM (c_changes hC hm6 hm (fun τ1 p1 ha hb => ?_))
    refine g_iload_n B dX6_change_19 rfl ?_
    refine g_if_ne (tgt := 30) B dX6_change_20 (by decide) (fun c20 => ?_) (fun c20 => ?_)
    · refine g_aload_n B dX6_change_30 rfl ?_
      refine g_getI (T := TX6) (N := 42) B dX6_change_31 (by decide) (by rfl) (inq inlX6) rfl 31 (by decide) (mq f_X6_384) (by rfl) ?_
      refine g_ireti B dX6_change_34 ?_
      first
        | exact hK τ pkx.rf
        | (have h9 := hK τ1 p1
           first
           | (rw [if_pos c20] at h9; exact kk ha h9)
           | (rw [if_neg c20] at h9; exact kk hb h9))
    · refine g_aload_n B dX6_change_23 rfl ?_
      refine g_getI (T := TX6) (N := 42) B dX6_change_24 (by decide) (by rfl) (inq inlX6) rfl 30 (by decide) (mq f_X6_381) (by rfl) ?_
      refine g_goto (tgt := 34) B dX6_change_27 (by decide) ?_
      refine g_ireti B dX6_change_34 ?_
      first
        | exact hK τ pkx.rf
        | (have h9 := hK τ1 p1
           first
           | (rw [if_pos c20] at h9; exact kk ha h9)
           | (rw [if_neg c20] at h9; exact kk hb h9))
  · rw [if_neg (b1_0.mp c7)] at hK
    refine g_ldcw (v := (-1000000)) B dX6_change_10 (mq k_X6_356) ?_
    refine g_ireti B dX6_change_13 ?_
    first
      | exact hK τ pkx.rf
      | (have h9 := hK τ1 p1
         first
         | (rw [if_pos c20] at h9; exact kk ha h9)
         | (rw [if_neg c20] at h9; exact kk hb h9))
def fFor (V : VW) (sh town what : Int32) : Int32 := if (0 ≤ town.toInt ∧ town.toInt ≤ 1) ∧ 0 ≤ what.toInt ∧ what.toInt ≤ 1 then (if what = 0 then (chF V sh town 30).1 else (chF V sh town 30).2) else -1000000
set_option maxRecDepth 100000 in
set_option maxHeartbeats 4000000 in
theorem c_forTown {Z : LZ} {ad : Nat → Nat} {τ : St} {K : Int32 → St → Prop} {x y : Int32} {m : Nat} {C : TC} (hC : RUL τ C) (hm6 : m ≤ 6) (hm : τ.1 0 11 = nI m) (hK : ∀ τ', pkx mQ τ τ' → K (fFor (vM τ C) (τ.1 0 7) x y) τ') : CC lyM Z ad yX6_forTown wsX6_forTown (rmk 48) [.ref (ad 0), .int x, .int y] τ (rI K) := by
  refine CC.of (cc := cX6_forTown) (nL := 3) (ret := (some .int)) rfl rfl ⟨rfl, rfl⟩ (by exact Nat.le_of_ble_eq_true rfl) ?_
  intro X B
  change GG _ _ _ _ X _ 0 [some (.ref (ad 0)), some (.int x), some (.int y)] [] _
  change Amb _ _ _ _ X _ _ RX6 _ _ at B
  unfold fFor at hK
  refine g_iload_n B dX6_forTown_0 rfl ?_
  refine g_i2l B dX6_forTown_1 rfl ?_
  refine g_lconst (v := (0)) B dX6_forTown_2 (by decide) ?_
  refine g_lconst (v := (1)) B dX6_forTown_3 (by decide) ?_
  refine g_callSi (As := [.long _, .long _, .long _]) B dX6_forTown_4 (gc1 g_X6_73) (by rfl) hd_X6_in (by exact ⟨Nat.le_of_ble_eq_true rfl, Nat.le_of_ble_eq_true rfl⟩) ⟨rfl, rfl⟩ rfl rfl (by exact Nat.le_of_ble_eq_true rfl) (c_in ?_)
  rw [in_0, show (1 : Int64).toInt = 1 from rfl]
  refine g_if_eq (tgt := 20) B dX6_forTown_7 (by decide) (fun c7 => ?_) (fun c7 => ?_)
  · refine g_ldcw (v := (-1000000)) B dX6_forTown_20 (mq k_X6_356) ?_
    refine g_ireti B dX6_forTown_23 ?_
    first
      | (have h9 := hK τ pkx.rf
         rw [if_neg (fun h => b1_0.mp c7 h.1)] at h9
         exact h9)
      | (have h9 := hK τ pkx.rf
         rw [if_neg (fun h => b1_0.mp c17 h.2)] at h9
         exact h9)
      | (have h9 := hK τ1 p1
         first
         | (rw [if_pos c30] at h9; exact kk ha h9)
         | (rw [if_neg c30] at h9; exact kk hb h9))
  · refine g_iload_n B dX6_forTown_10 rfl ?_
    refine g_i2l B dX6_forTown_11 rfl ?_
    refine g_lconst (v := (0)) B dX6_forTown_12 (by decide) ?_
    refine g_lconst (v := (1)) B dX6_forTown_13 (by decide) ?_
    refine g_callSi (As := [.long _, .long _, .long _]) B dX6_forTown_14 (gc1 g_X6_73) (by rfl) hd_X6_in (by exact ⟨Nat.le_of_ble_eq_true rfl, Nat.le_of_ble_eq_true rfl⟩) ⟨rfl, rfl⟩ rfl rfl (by exact Nat.le_of_ble_eq_true rfl) (c_in ?_)
    rw [in_0, show (1 : Int64).toInt = 1 from rfl]
    refine g_if_ne (tgt := 24) B dX6_forTown_17 (by decide) (fun c17 => ?_) (fun c17 => ?_)
    · rw [if_pos ⟨b1_n0.mp c7, b1_n0.mp c17⟩] at hK
      refine g_aload_n B dX6_forTown_24 rfl ?_
      refine g_iload_n B dX6_forTown_25 rfl ?_
      refine g_callVv (C := RX6) (As := [.int _]) B dX6_forTown_26 (gc1 g_X6_387) (by rfl) ⟨rfl, hd_X6_changes⟩ (by exact ⟨Nat.le_of_ble_eq_true rfl, Nat.le_of_ble_eq_true rfl⟩) ⟨rfl, rfl⟩ rfl rfl (by exact Nat.le_of_ble_eq_true rfl) recvM (c_changes hC hm6 hm (fun τ1 p1 ha hb => ?_))
      refine g_iload_n B dX6_forTown_29 rfl ?_
      refine g_if_ne (tgt := 40) B dX6_forTown_30 (by decide) (fun c30 => ?_) (fun c30 => ?_)
      · refine g_aload_n B dX6_forTown_40 rfl ?_
        refine g_getI (T := TX6) (N := 42) B dX6_forTown_41 (by decide) (by rfl) (inq inlX6) rfl 31 (by decide) (mq f_X6_384) (by rfl) ?_
        refine g_ireti B dX6_forTown_44 ?_
        first
          | (have h9 := hK τ pkx.rf
             rw [if_neg (fun h => b1_0.mp c7 h.1)] at h9
             exact h9)
          | (have h9 := hK τ pkx.rf
             rw [if_neg (fun h => b1_0.mp c17 h.2)] at h9
             exact h9)
          | (have h9 := hK τ1 p1
             first
             | (rw [if_pos c30] at h9; exact kk ha h9)
             | (rw [if_neg c30] at h9; exact kk hb h9))
      · refine g_aload_n B dX6_forTown_33 rfl ?_
        refine g_getI (T := TX6) (N := 42) B dX6_forTown_34 (by decide) (by rfl) (inq inlX6) rfl 30 (by decide) (mq f_X6_381) (by rfl) ?_
        refine g_goto (tgt := 44) B dX6_forTown_37 (by decide) ?_
        refine g_ireti B dX6_forTown_44 ?_
        first
          | (have h9 := hK τ pkx.rf
             rw [if_neg (fun h => b1_0.mp c7 h.1)] at h9
             exact h9)
          | (have h9 := hK τ pkx.rf
             rw [if_neg (fun h => b1_0.mp c17 h.2)] at h9
             exact h9)
          | (have h9 := hK τ1 p1
             first
             | (rw [if_pos c30] at h9; exact kk ha h9)
             | (rw [if_neg c30] at h9; exact kk hb h9))
    · refine g_ldcw (v := (-1000000)) B dX6_forTown_20 (mq k_X6_356) ?_
      refine g_ireti B dX6_forTown_23 ?_
      first
        | (have h9 := hK τ pkx.rf
           rw [if_neg (fun h => b1_0.mp c7 h.1)] at h9
           exact h9)
        | (have h9 := hK τ pkx.rf
           rw [if_neg (fun h => b1_0.mp c17 h.2)] at h9
           exact h9)
        | (have h9 := hK τ1 p1
           first
           | (rw [if_pos c30] at h9; exact kk ha h9)
           | (rw [if_neg c30] at h9; exact kk hb h9))

