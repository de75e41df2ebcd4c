/-! tells *program, both worlds kept alike* -/
/-- a sheet of n numbers as it says -/
def RW (b : St) (s n : Nat) (it : Nat → Int32) : Prop := b.1 (s + 44) 1 = nI n ∧ ∀ i, i < n → b.1 (s + 48) i = it i
theorem RW.pz {cs ks : List Nat} {b b' : St} {s n : Nat} {it : Nat → Int32} (h : RW b s n it) (hp : pkz cs ks b b') (hc : okD cs) : RW b' s n it := by
  unfold RW
  rw [hp.1 (s + 44) (by omega) (hc.n (by omega)), hp.1 (s + 48) (by omega) (hc.n (by omega))]
  exact h
set_option maxRecDepth 100000 in
set_option maxHeartbeats 4000000 in
theorem lx_fo {Z : LZ} {ad : Nat → Nat} {X : CX} {K : Int32 → St → Prop} {τ0 : St} {o u k0 s n : Nat} {V : VW} {sh : Int32} {it : Nat → Int32} (B : Amb lyX Z ad (rmk 3) X cX5_firstOtherwise wsX5_firstOtherwise RX5 7 (some .int)) (hs : s < 4) (hn : n ≤ 30) (hr : RW τ0 s n it) (hU : UO o) (hT : TXX τ0 k0 V.1) (hV : VX τ0 1 V) (hx : UX τ0 o V u) : ∀ (k i : Nat) (τ : St), i + k = n → pkz [2, 3] [] τ0 τ → (∀ τ', pkz [2, 3] [] τ0 τ' → K (fsI (othP V sh u it) (othD V sh u it) k i) τ') → GG lyX Z ad (rmk 3) X (rI K) 6 [some (.ref (ad 0)), some (.ref (ad (s + 44))), some (.ref (ad o)), some (.ref (ad (k0 + 26))), some (.int sh), some (.int (sR0 sh i)), some (.int (nI i))] [] τ := by
  intro k
  induction k using Nat.strongRecOn with
  | ind k ih =>
    intro i τ h1 hp hK
    have hr' := hr.pz hp okD23
    have hT' := hT.pz hp (by decide)
    have hV' := hV.pz (Or.inl rfl) hp okC23 (by decide)
    have hx' := hx.pz hU hp okC23
    have hci : (nI i).toNatClampNeg = i := i_cl (by omega)
    refine g_iload B dX5_firstOtherwise_6 rfl ?_
    refine g_aload_n B dX5_firstOtherwise_8 rfl ?_
    refine g_getI (T := TX2) (N := 3) B dX5_firstOtherwise_9 (hX (by omega)) (lo_s hs) (inq inlX2) rfl 1 (by decide) (mq f_X5_256) (by rfl) ?_
    rw [hr'.1]
    refine g_icmp_ge (tgt := 73) B dX5_firstOtherwise_12 (by decide) (fun c12 => ?_) (fun c12 => ?_)
    · refine g_iconst (v := (-1)) B dX5_firstOtherwise_73 (by decide) ?_
      refine g_ireti B dX5_firstOtherwise_74 ?_
      first
        | (have := hK τ1 (hp.trans p1)
           rw [if_pos (show othP V sh u it i from fun z => c61 z.symm)] at this
           exact this)
        | (rw [nI_leI (by omega) (by omega)] at c12
           have e : k = 0 := by omega
           subst e
           exact hK τ hp)
    · rw [nI_leI (by omega) (by omega)] at c12
      obtain ⟨k', rfl⟩ : ∃ k', k = k' + 1 := ⟨k - 1, by omega⟩
      unfold fsI at hK
      refine g_iload B dX5_firstOtherwise_15 rfl ?_
      refine g_bipush (v := (30)) B dX5_firstOtherwise_17 (by decide) ?_
      refine g_icmp_ge (tgt := 73) B dX5_firstOtherwise_19 (by decide) (fun c19 => ?_) (fun c19 => ?_)
      · exact absurd (i_le.mp c19) (by rw [i_n (by omega), i30]; omega)
      · refine g_iload B dX5_firstOtherwise_22 rfl ?_
        refine g_iload B dX5_firstOtherwise_24 rfl ?_
        refine g_iload B dX5_firstOtherwise_26 rfl ?_
        refine g_callSi (As := [.int _, .int _, .int _]) B dX5_firstOtherwise_28 (gc1 g_X5_185) (by rfl) hd_X5_runBehind (by exact ⟨Nat.le_of_ble_eq_true rfl, Nat.le_of_ble_eq_true rfl⟩) ⟨rfl, rfl⟩ rfl rfl (by exact Nat.le_of_ble_eq_true rfl) (x_runBehind (t := i) rfl (by omega) rfl ?_)
        refine g_istore B dX5_firstOtherwise_31 (by decide) rfl ?_
        refine g_aload_n B dX5_firstOtherwise_33 rfl ?_
        refine g_getR (T := TX2) (N := 3) B dX5_firstOtherwise_34 (hX (by omega)) (lo_s hs) (inq inlX2) rfl 2 (by decide) (mq f_X5_272) (by rfl) ?_
        refine g_iload B dX5_firstOtherwise_37 rfl ?_
        refine g_iald B dX5_firstOtherwise_39 (hX (by omega)) (lo_i hs) (by exact vp_in_nI (by omega) (by omega)) ?_
        rw [hci, hr'.2 i (by omega)]
        refine g_aload_n B dX5_firstOtherwise_40 rfl ?_
        refine g_aload_n B dX5_firstOtherwise_41 rfl ?_
        refine g_aload_n B dX5_firstOtherwise_42 rfl ?_
        refine g_aload_n B dX5_firstOtherwise_43 rfl ?_
        refine g_getR (T := TX5) (N := 16) B dX5_firstOtherwise_44 (by decide) (by rfl) (inq inlX5) rfl 0 (by decide) (mq f_X5_9) (by rfl) ?_
        refine g_iload B dX5_firstOtherwise_47 rfl ?_
        refine g_iload B dX5_firstOtherwise_49 rfl ?_
        refine g_iload B dX5_firstOtherwise_51 rfl ?_
        refine g_callSi (As := [.int _, .int _]) B dX5_firstOtherwise_53 (gc1 g_X5_130) (by rfl) hd_X5_townOf (by exact ⟨Nat.le_of_ble_eq_true rfl, Nat.le_of_ble_eq_true rfl⟩) ⟨rfl, rfl⟩ rfl rfl (by exact Nat.le_of_ble_eq_true rfl) (x_townOf (t := i) rfl (by omega) ?_)
        refine g_iload B dX5_firstOtherwise_56 rfl ?_
        refine g_callVi (C := RX5) (As := [.ref _, .ref _, .ref _, .int _, .int _, .int _]) B dX5_firstOtherwise_58 (gc1 g_X5_154) (by rfl) ⟨rfl, hd_X5_hasAt⟩ (by exact ⟨Nat.le_of_ble_eq_true rfl, Nat.le_of_ble_eq_true rfl⟩) ⟨rfl, rfl⟩ rfl rfl (by exact Nat.le_of_ble_eq_true rfl) recv5 (x_hasAt (t := i) hU hT' (Or.inl rfl) rfl (by omega) hx'.2 (fun τ1 p1 => ?_))
        rw [hV'.1, hV'.2 i (by omega), hx'.1.1, hx'.1.2.1, hx'.1.2.2]
        refine g_icmp_eq (tgt := 67) B dX5_firstOtherwise_61 (by decide) (fun c61 => ?_) (fun c61 => ?_)
        · refine g_iinc (c9 := (1)) B dX5_firstOtherwise_67 rfl (by decide) (by decide) rfl ?_
          refine g_goto (tgt := 6) B dX5_firstOtherwise_70 (by decide) ?_
          rw [nI_1 i]
          refine ih k' (by omega) (i + 1) τ1 (by omega) (hp.trans p1) (fun τ' p => ?_)
          have := hK τ' p
          rw [if_neg (show ¬ othP V sh u it i from fun z => z c61.symm)] at this
          exact this
        · refine g_iload B dX5_firstOtherwise_64 rfl ?_
          refine g_ireti B dX5_firstOtherwise_66 ?_
          first
            | (have := hK τ1 (hp.trans p1)
               rw [if_pos (show othP V sh u it i from fun z => c61 z.symm)] at this
               exact this)
            | (rw [nI_leI (by omega) (by omega)] at c12
               have e : k = 0 := by omega
               subst e
               exact hK τ hp)
set_option maxRecDepth 100000 in
set_option maxHeartbeats 4000000 in
theorem x_fo {Z : LZ} {ad : Nat → Nat} {τ : St} {K : Int32 → St → Prop} {o u k0 s n : Nat} {V : VW} {sh : Int32} {it : Nat → Int32} (hs : s < 4) (hn : n ≤ 30) (hr : RW τ s n it) (hU : UO o) (hT : TXX τ k0 V.1) (hV : VX τ 1 V) (hx : UX τ o V u) (hK : ∀ τ', pkz [2, 3] [] τ τ' → K (sFO V sh u it n) τ') : CC lyX Z ad yX5_firstOtherwise wsX5_firstOtherwise (rmk 3) [.ref (ad 0), .ref (ad (s + 44)), .ref (ad o), .ref (ad (k0 + 26)), .int sh] τ (rI K) := by
  refine CC.of (cc := cX5_firstOtherwise) (nL := 7) (ret := (some .int)) rfl rfl ⟨rfl, rfl⟩ (by exact Nat.le_of_ble_eq_true rfl) ?_
  intro X B
  change GG _ _ _ _ X _ 0 [some (.ref (ad 0)), some (.ref (ad (s + 44))), some (.ref (ad o)), some (.ref (ad (k0 + 26))), some (.int sh), none, none] [] _
  change Amb _ _ _ _ X _ _ RX5 _ _ at B
  refine g_iconst (v := (0)) B dX5_firstOtherwise_0 (by decide) ?_
  refine g_istore B dX5_firstOtherwise_1 (by decide) rfl ?_
  refine g_iconst (v := (0)) B dX5_firstOtherwise_3 (by decide) ?_
  refine g_istore B dX5_firstOtherwise_4 (by decide) rfl ?_
  exact lx_fo B hs hn hr hU hT hV hx n 0 τ (by omega) pkz.rf hK
theorem bt_no {f : Nat → Int32} {i : Nat} (h : ¬ f i = -1) : btF f (i + 1) = btF f i := by
  show btF f i ||| (b1 (f i = -1) <<< (nI i &&& 31)) = btF f i
  rw [b1_f h, Int32.zero_shiftLeft, Int32.or_zero]
theorem bt_ye {f : Nat → Int32} {i : Nat} (h : f i = -1) : btF f (i + 1) = btF f i ||| ((1 : Int32) <<< (nI i &&& 31)) := by
  show btF f i ||| (b1 (f i = -1) <<< (nI i &&& 31)) = _
  rw [b1_t h]
theorem vC {V : VW} {C : TC} : (C, V.2).1 = C := rfl
set_option maxRecDepth 100000 in
set_option maxHeartbeats 4000000 in
theorem lx_tt {Z : LZ} {ad : Nat → Nat} {X : CX} {K : Int32 → St → Prop} {τ0 : St} {u s n c m : Nat} {V : VW} {T : Nat → TC} {it : Nat → Int32} (B : Amb lyX Z ad (rmk 4) X cX5_textsTold wsX5_textsTold RX5 5 (some .int)) (hs : s < 4) (hn : n ≤ 30) (hr : RW τ0 s n it) (hu : u < m) (hX : XV τ0 1 V m) (hc6 : c ≤ 6) (hc : τ0.1 0 7 = nI c) (hT : ∀ v, v < c → TXX τ0 v (T v)) (hK : ∀ τ', pkz [2, 3] [] τ0 τ' → K (btF (fun v => sFO (T v, V.2) (τ0.1 0 1) u it n) c) τ') : ∀ (k i : Nat) (τ : St), i + k = c → pkz [2, 3] [] τ0 τ → GG lyX Z ad (rmk 4) X (rI K) 5 [some (.ref (ad 0)), some (.ref (ad (s + 44))), some (.ref (ad (u + 20))), some (.int (btF (fun v => sFO (T v, V.2) (τ0.1 0 1) u it n) i)), some (.int (nI i))] [] τ := by
  intro k
  induction k using Nat.strongRecOn with
  | ind k ih =>
    intro i τ h1 hp
    have hm6 := hX.2.2.2.1.1
    have hX' := hX.pz hp okC23 (by decide) (by decide)
    have hr' := hr.pz hp okD23
    have hsh : τ.1 0 1 = τ0.1 0 1 := hp.2.1 1 (by decide)
    refine g_iload B dX5_textsTold_5 rfl ?_
    refine g_aload_n B dX5_textsTold_7 rfl ?_
    refine g_getI (T := TX5) (N := 16) B dX5_textsTold_8 (by decide) (by rfl) (inq inlX5) rfl 7 (by decide) (mq f_X5_44) (by rfl) ?_
    rw [hp.2.1 7 (by decide), hc]
    refine g_icmp_ge (tgt := 47) B dX5_textsTold_11 (by decide) (fun c11 => ?_) (fun c11 => ?_)
    · refine g_iload_n B dX5_textsTold_47 rfl ?_
      refine g_ireti B dX5_textsTold_48 ?_
      rw [nI_leI (by omega) (by omega)] at c11
      have e : i = c := by omega
      subst e
      exact hK τ hp
    · rw [nI_leI (by omega) (by omega)] at c11
      refine g_aload_n B dX5_textsTold_14 rfl ?_
      refine g_aload_n B dX5_textsTold_15 rfl ?_
      refine g_aload_n B dX5_textsTold_16 rfl ?_
      refine g_aload_n B dX5_textsTold_17 rfl ?_
      refine g_iload B dX5_textsTold_18 rfl ?_
      refine g_callVr (C := RX5) (As := [.int _]) B dX5_textsTold_20 (gc1 g_X5_150) (by rfl) ⟨rfl, hd_X5_textAt⟩ (by exact ⟨Nat.le_of_ble_eq_true rfl, Nat.le_of_ble_eq_true rfl⟩) ⟨rfl, rfl⟩ rfl rfl (by exact Nat.le_of_ble_eq_true rfl) recv5 (x_textAt rfl (show i < 6 by omega) ?_)
      refine g_aload_n B dX5_textsTold_23 rfl ?_
      refine g_getI (T := TX5) (N := 16) B dX5_textsTold_24 (by decide) (by rfl) (inq inlX5) rfl 1 (by decide) (mq f_X5_13) (by rfl) ?_
      rw [hsh]
      refine g_callVi (C := RX5) (As := [.ref _, .ref _, .ref _, .int _]) B dX5_textsTold_27 (gc1 g_X5_257) (by rfl) ⟨rfl, hd_X5_firstOtherwise⟩ (by exact ⟨Nat.le_of_ble_eq_true rfl, Nat.le_of_ble_eq_true rfl⟩) ⟨rfl, rfl⟩ rfl rfl (by exact Nat.le_of_ble_eq_true rfl) recv5 (x_fo (V := (T i, V.2)) (u := u) hs hn hr' (UO.u (by omega)) ((hT i (by omega)).pz hp (by decide)) hX'.2.2.1 (hX'.2.2.2.2 u hu) (fun τ1 p1 => ?_))
      refine g_iconst (v := (-1)) B dX5_textsTold_30 (by decide) ?_
      refine g_icmp_ne (tgt := 41) B dX5_textsTold_31 (by decide) (fun c31 => ?_) (fun c31 => ?_)
      · refine g_iinc (c9 := (1)) B dX5_textsTold_41 rfl (by decide) (by decide) rfl ?_
        refine g_goto (tgt := 5) B dX5_textsTold_44 (by decide) ?_
        rw [nI_1 i]
        have h9 := ih (k - 1) (by omega) (i + 1) τ1 (by omega) (hp.trans p1)
        first
          | (rw [bt_ye (f := fun v => sFO (T v, V.2) (τ0.1 0 1) u it n) c31] at h9; exact h9)
          | (rw [bt_no (f := fun v => sFO (T v, V.2) (τ0.1 0 1) u it n) c31] at h9; exact h9)
      · refine g_iload_n B dX5_textsTold_34 rfl ?_
        refine g_iconst (v := (1)) B dX5_textsTold_35 (by decide) ?_
        refine g_iload B dX5_textsTold_36 rfl ?_
        refine g_ishl B dX5_textsTold_38 ?_
        refine g_ior B dX5_textsTold_39 ?_
        refine g_istore_n B dX5_textsTold_40 (by decide) rfl ?_
        refine g_iinc (c9 := (1)) B dX5_textsTold_41 rfl (by decide) (by decide) rfl ?_
        refine g_goto (tgt := 5) B dX5_textsTold_44 (by decide) ?_
        rw [nI_1 i]
        have h9 := ih (k - 1) (by omega) (i + 1) τ1 (by omega) (hp.trans p1)
        first
          | (rw [bt_ye (f := fun v => sFO (T v, V.2) (τ0.1 0 1) u it n) c31] at h9; exact h9)
          | (rw [bt_no (f := fun v => sFO (T v, V.2) (τ0.1 0 1) u it n) c31] at h9; exact h9)
set_option maxRecDepth 100000 in
set_option maxHeartbeats 4000000 in
theorem x_tt {Z : LZ} {ad : Nat → Nat} {τ : St} {K : Int32 → St → Prop} {u s n c m : Nat} {V : VW} {T : Nat → TC} {it : Nat → Int32} (hs : s < 4) (hn : n ≤ 30) (hr : RW τ s n it) (hu : u < m) (hX : XV τ 1 V m) (hc6 : c ≤ 6) (hc : τ.1 0 7 = nI c) (hT : ∀ v, v < c → TXX τ v (T v)) (hK : ∀ τ', pkz [2, 3] [] τ τ' → K (btF (fun v => sFO (T v, V.2) (τ.1 0 1) u it n) c) τ') : CC lyX Z ad yX5_textsTold wsX5_textsTold (rmk 4) [.ref (ad 0), .ref (ad (s + 44)), .ref (ad (u + 20))] τ (rI K) := by
  refine CC.of (cc := cX5_textsTold) (nL := 5) (ret := (some .int)) rfl rfl ⟨rfl, rfl⟩ (by exact Nat.le_of_ble_eq_true rfl) ?_
  intro X B
  change GG _ _ _ _ X _ 0 [some (.ref (ad 0)), some (.ref (ad (s + 44))), some (.ref (ad (u + 20))), none, none] [] _
  change Amb _ _ _ _ X _ _ RX5 _ _ at B
  refine g_iconst (v := (0)) B dX5_textsTold_0 (by decide) ?_
  refine g_istore_n B dX5_textsTold_1 (by decide) rfl ?_
  refine g_iconst (v := (0)) B dX5_textsTold_2 (by decide) ?_
  refine g_istore B dX5_textsTold_3 (by decide) rfl ?_
  exact lx_tt B hs hn hr hu hX hc6 hc hT hK c 0 τ (by omega) pkz.rf
set_option maxRecDepth 100000 in
set_option maxHeartbeats 4000000 in
theorem lx_nt {Z : LZ} {ad : Nat → Nat} {X : CX} {K : Int32 → St → Prop} {τ0 : St} {u s n m : Nat} {V : VW} {it : Nat → Int32} (B : Amb lyX Z ad (rmk 4) X cX5_nightsTold wsX5_nightsTold RX5 5 (some .int)) (hs : s < 4) (hn : n ≤ 30) (hr : RW τ0 s n it) (hu : u < m) (hX : XV τ0 1 V m) (hK : ∀ τ', pkz [2, 3] [] τ0 τ' → K (btF (fun t => sFO V (flS (τ0.1 0 1) t) u it n) n) τ') : ∀ (k i : Nat) (τ : St), i + k = n → pkz [2, 3] [] τ0 τ → GG lyX Z ad (rmk 4) X (rI K) 5 [some (.ref (ad 0)), some (.ref (ad (s + 44))), some (.ref (ad (u + 20))), some (.int (btF (fun t => sFO V (flS (τ0.1 0 1) t) u it n) i)), some (.int (nI i))] [] τ := by
  intro k
  induction k using Nat.strongRecOn with
  | ind k ih =>
    intro i τ h1 hp
    have hm6 := hX.2.2.2.1.1
    have hX' := hX.pz hp okC23 (by decide) (by decide)
    have hr' := hr.pz hp okD23
    have hsh : τ.1 0 1 = τ0.1 0 1 := hp.2.1 1 (by decide)
    refine g_iload B dX5_nightsTold_5 rfl ?_
    refine g_aload_n B dX5_nightsTold_7 rfl ?_
    refine g_getI (T := TX2) (N := 3) B dX5_nightsTold_8 (by show s + 44 < 52; omega) (lo_s hs) (inq inlX2) rfl 1 (by decide) (mq f_X5_256) (by rfl) ?_
    rw [hr'.1]
    refine g_icmp_ge (tgt := 58) B dX5_nightsTold_11 (by decide) (fun c11 => ?_) (fun c11 => ?_)
    · refine g_iload_n B dX5_nightsTold_58 rfl ?_
      refine g_ireti B dX5_nightsTold_59 ?_
      rw [nI_leI (by omega) (by omega)] at c11
      have e : i = n := by omega
      subst e
      exact hK τ hp
    · rw [nI_leI (by omega) (by omega)] at c11
      obtain ⟨k0, hk0, hT0⟩ := hX'.2.1
      refine g_iload B dX5_nightsTold_14 rfl ?_
      refine g_bipush (v := (30)) B dX5_nightsTold_16 (by decide) ?_
      refine g_icmp_ge (tgt := 58) B dX5_nightsTold_18 (by decide) (fun c18 => ?_) (fun c18 => ?_)
      · exact absurd (i_le.mp c18) (by rw [i_n (by omega), i30]; omega)
      · refine g_aload_n B dX5_nightsTold_21 rfl ?_
        refine g_aload_n B dX5_nightsTold_22 rfl ?_
        refine g_aload_n B dX5_nightsTold_23 rfl ?_
        refine g_aload_n B dX5_nightsTold_24 rfl ?_
        refine g_aload_n B dX5_nightsTold_25 rfl ?_
        refine g_getI (T := TX5) (N := 16) B dX5_nightsTold_26 (by decide) (by rfl) (inq inlX5) rfl 8 (by decide) (mq f_X5_47) (by rfl) ?_
        refine g_callVr (C := RX5) (As := [.int _]) B dX5_nightsTold_29 (gc1 g_X5_150) (by rfl) ⟨rfl, hd_X5_textAt⟩ (by exact ⟨Nat.le_of_ble_eq_true rfl, Nat.le_of_ble_eq_true rfl⟩) ⟨rfl, rfl⟩ rfl rfl (by exact Nat.le_of_ble_eq_true rfl) recv5 (x_textAt hk0 hT0.1 ?_)
        refine g_aload_n B dX5_nightsTold_32 rfl ?_
        refine g_iload B dX5_nightsTold_33 rfl ?_
        refine g_callVi (C := RX5) (As := [.int _]) B dX5_nightsTold_35 (gc1 g_X5_228) (by rfl) ⟨rfl, hd_X5_flipped⟩ (by exact ⟨Nat.le_of_ble_eq_true rfl, Nat.le_of_ble_eq_true rfl⟩) ⟨rfl, rfl⟩ rfl rfl (by exact Nat.le_of_ble_eq_true rfl) recv5 (x_flipped ?_)
        rw [hsh, flX_t (by omega)]
        refine g_callVi (C := RX5) (As := [.ref _, .ref _, .ref _, .int _]) B dX5_nightsTold_38 (gc1 g_X5_257) (by rfl) ⟨rfl, hd_X5_firstOtherwise⟩ (by exact ⟨Nat.le_of_ble_eq_true rfl, Nat.le_of_ble_eq_true rfl⟩) ⟨rfl, rfl⟩ rfl rfl (by exact Nat.le_of_ble_eq_true rfl) recv5 (x_fo (V := V) (u := u) hs hn hr' (UO.u (by omega)) hT0 hX'.2.2.1 (hX'.2.2.2.2 u hu) (fun τ1 p1 => ?_))
        refine g_iconst (v := (-1)) B dX5_nightsTold_41 (by decide) ?_
        refine g_icmp_ne (tgt := 52) B dX5_nightsTold_42 (by decide) (fun c42 => ?_) (fun c42 => ?_)
        · refine g_iinc (c9 := (1)) B dX5_nightsTold_52 rfl (by decide) (by decide) rfl ?_
          refine g_goto (tgt := 5) B dX5_nightsTold_55 (by decide) ?_
          rw [nI_1 i]
          have h9 := ih (k - 1) (by omega) (i + 1) τ1 (by omega) (hp.trans p1)
          first
            | (rw [bt_ye (f := fun t => sFO V (flS (τ0.1 0 1) t) u it n) c42] at h9; exact h9)
            | (rw [bt_no (f := fun t => sFO V (flS (τ0.1 0 1) t) u it n) c42] at h9; exact h9)
        · refine g_iload_n B dX5_nightsTold_45 rfl ?_
          refine g_iconst (v := (1)) B dX5_nightsTold_46 (by decide) ?_
          refine g_iload B dX5_nightsTold_47 rfl ?_
          refine g_ishl B dX5_nightsTold_49 ?_
          refine g_ior B dX5_nightsTold_50 ?_
          refine g_istore_n B dX5_nightsTold_51 (by decide) rfl ?_
          refine g_iinc (c9 := (1)) B dX5_nightsTold_52 rfl (by decide) (by decide) rfl ?_
          refine g_goto (tgt := 5) B dX5_nightsTold_55 (by decide) ?_
          rw [nI_1 i]
          have h9 := ih (k - 1) (by omega) (i + 1) τ1 (by omega) (hp.trans p1)
          first
            | (rw [bt_ye (f := fun t => sFO V (flS (τ0.1 0 1) t) u it n) c42] at h9; exact h9)
            | (rw [bt_no (f := fun t => sFO V (flS (τ0.1 0 1) t) u it n) c42] at h9; exact h9)
set_option maxRecDepth 100000 in
set_option maxHeartbeats 4000000 in
theorem x_nt {Z : LZ} {ad : Nat → Nat} {τ : St} {K : Int32 → St → Prop} {u s n m : Nat} {V : VW} {it : Nat → Int32} (hs : s < 4) (hn : n ≤ 30) (hr : RW τ s n it) (hu : u < m) (hX : XV τ 1 V m) (hK : ∀ τ', pkz [2, 3] [] τ τ' → K (btF (fun t => sFO V (flS (τ.1 0 1) t) u it n) n) τ') : CC lyX Z ad yX5_nightsTold wsX5_nightsTold (rmk 4) [.ref (ad 0), .ref (ad (s + 44)), .ref (ad (u + 20))] τ (rI K) := by
  refine CC.of (cc := cX5_nightsTold) (nL := 5) (ret := (some .int)) rfl rfl ⟨rfl, rfl⟩ (by exact Nat.le_of_ble_eq_true rfl) ?_
  intro X B
  change GG _ _ _ _ X _ 0 [some (.ref (ad 0)), some (.ref (ad (s + 44))), some (.ref (ad (u + 20))), none, none] [] _
  change Amb _ _ _ _ X _ _ RX5 _ _ at B
  refine g_iconst (v := (0)) B dX5_nightsTold_0 (by decide) ?_
  refine g_istore_n B dX5_nightsTold_1 (by decide) rfl ?_
  refine g_iconst (v := (0)) B dX5_nightsTold_2 (by decide) ?_
  refine g_istore B dX5_nightsTold_3 (by decide) rfl ?_
  exact lx_nt B hs hn hr hu hX hK n 0 τ (by omega) pkz.rf
/-- the view with a user's kind (what 1), number (2), town (3) another *guess* -/
def vG (V : VW) (w u : Nat) (x : Int32) : VW := if w = 1 then (V.1, (V.2.1, (va_up V.2.2.1 u x, V.2.2.2))) else if w = 2 then (V.1, (V.2.1, (V.2.2.1, (va_up V.2.2.2.1 u x, V.2.2.2.2)))) else (V.1, (V.2.1, (V.2.2.1, (V.2.2.2.1, (va_up V.2.2.2.2.1 u x, V.2.2.2.2.2)))))
def manyG (w : Nat) : Nat := if w = 1 then 6 else if w = 2 then 10 else 2
theorem vG_0 {V : VW} {w u : Nat} {x : Int32} : (vG V w u x).1 = V.1 ∧ (vG V w u x).2.1 = V.2.1 ∧ (vG V w u x).2.2.2.2.2 = V.2.2.2.2.2 := by
  unfold vG
  split
  · exact ⟨rfl, rfl, rfl⟩
  · split
    · exact ⟨rfl, rfl, rfl⟩
    · exact ⟨rfl, rfl, rfl⟩
theorem okD2312 : okD [2, 3, 12] := by
  intro o h
  simp at h
  omega
set_option maxRecDepth 100000 in
set_option maxHeartbeats 4000000 in
theorem lx_ut {Z : LZ} {ad : Nat → Nat} {X : CX} {K : Int32 → St → Prop} {τ0 : St} {u s n m w : Nat} {V : VW} {it : Nat → Int32} (B : Amb lyX Z ad (rmk 4) X cX5_usersTold wsX5_usersTold RX5 7 (some .int)) (hs : s < 4) (hn : n ≤ 30) (hr : RW τ0 s n it) (hu : u < m) (hX : XV τ0 1 V m) (hw : w = 1 ∨ w = 2 ∨ w = 3) (hK : ∀ τ', pkz [2, 3, 12] [] τ0 τ' → K (btF (fun v => sFO (vG V w u (nI v)) (τ0.1 0 1) u it n) (manyG w)) τ') : ∀ (k i : Nat) (τ : St), i + k = manyG w → pkz [2, 3, 12] [] τ0 τ → GG lyX Z ad (rmk 4) X (rI K) 29 [some (.ref (ad 0)), some (.ref (ad (s + 44))), some (.ref (ad (u + 20))), some (.int (nI w)), some (.int (nI (manyG w))), some (.int (btF (fun v => sFO (vG V w u (nI v)) (τ0.1 0 1) u it n) i)), some (.int (nI i))] [] τ := by
  intro k
  induction k using Nat.strongRecOn with
  | ind k ih =>
    intro i τ h1 hp
    have hm6 := hX.2.2.2.1.1
    have hmg : manyG w ≤ 10 := by unfold manyG; (repeat' split) <;> omega
    have hr' := hr.pz hp okD2312
    have hsh : τ.1 0 1 = τ0.1 0 1 := hp.2.1 1 (by decide)
    have hU : UO (u + 20) := UO.u (by omega)
    have hG : UO 12 := Or.inl rfl
    have hu20 : τ.1 (u + 20) = τ0.1 (u + 20) := hp.1 (u + 20) (by omega) (by simp)
    have hx := hX.2.2.2.2 u hu
    obtain ⟨⟨ux0, ux1, ux2⟩, ux3⟩ := hx
    rw [← hu20] at ux0 ux1 ux2 ux3
    have hV' : VX τ 1 V := ⟨(hp.2.1 3 (by decide)).trans hX.2.2.1.1, fun t ht => by rw [hp.1 1 (by decide) (by decide)]; exact hX.2.2.1.2 t ht⟩
    obtain ⟨k0, hk0, hT0⟩ := hX.2.1
    have hk0' : τ.1 0 8 = nI k0 := (hp.2.1 8 (by decide)).trans hk0
    have hT' : TXX τ k0 V.1 := hT0.pz hp (by decide)
    refine g_iload B dX5_usersTold_29 rfl ?_
    refine g_iload B dX5_usersTold_31 rfl ?_
    refine g_icmp_ge (tgt := 125) B dX5_usersTold_33 (by decide) (fun c33 => ?_) (fun c33 => ?_)
    · refine g_iload B dX5_usersTold_125 rfl ?_
      refine g_ireti B dX5_usersTold_127 ?_
      rw [nI_leI (by omega) (by omega)] at c33
      have e : i = manyG w := by omega
      subst e
      exact hK τ hp
    · rw [nI_leI (by omega) (by omega)] at c33
      have key : ∀ (kd nb tn : Int32), (kd = (vG V w u (nI i)).2.2.1 u ∧ nb = (vG V w u (nI i)).2.2.2.1 u ∧ tn = (vG V w u (nI i)).2.2.2.2.1 u) → (0 ≤ kd.toInt ∧ kd.toInt ≤ 5) → UX (upS (upS (upS τ 12 0 kd) 12 1 nb) 12 2 tn) 12 (vG V w u (nI i)) u := fun kd nb tn e1 e2 => by
        unfold UX
        rw [upS_2 (show (0 : Nat) ≠ 2 by decide), upS_2 (show (0 : Nat) ≠ 1 by decide), upS_1, upS_2 (show (1 : Nat) ≠ 2 by decide), upS_1, upS_1]
        exact ⟨e1, e2⟩
      refine g_aload_n B dX5_usersTold_36 rfl ?_
      refine g_getR (T := TX5) (N := 16) B dX5_usersTold_37 (by decide) (by rfl) (inq inlX5) rfl 4 (by decide) (mq f_X5_27) (by rfl) ?_
      refine g_iload_n B dX5_usersTold_40 rfl ?_
      refine g_iconst (v := (1)) B dX5_usersTold_41 (by decide) ?_
      refine g_icmp_ne (tgt := 50) B dX5_usersTold_42 (by decide) (fun c42 => ?_) (fun c42 => ?_)
      · refine g_aload_n B dX5_usersTold_50 rfl ?_
        refine g_getI (T := TX4) (N := 3) B dX5_usersTold_51 (hU.lt) (hU.lo) (inq inlX4) rfl 0 (by decide) (mq f_X5_124) (by rfl) ?_
        refine g_iload_n B dX5_usersTold_54 rfl ?_
        refine g_iconst (v := (2)) B dX5_usersTold_55 (by decide) ?_
        refine g_icmp_ne (tgt := 64) B dX5_usersTold_56 (by decide) (fun c56 => ?_) (fun c56 => ?_)
        · refine g_aload_n B dX5_usersTold_64 rfl ?_
          refine g_getI (T := TX4) (N := 3) B dX5_usersTold_65 (hU.lt) (hU.lo) (inq inlX4) rfl 1 (by decide) (mq f_X5_108) (by rfl) ?_
          refine g_iload_n B dX5_usersTold_68 rfl ?_
          refine g_iconst (v := (3)) B dX5_usersTold_69 (by decide) ?_
          refine g_icmp_ne (tgt := 78) B dX5_usersTold_70 (by decide) (fun c70 => ?_) (fun c70 => ?_)
          · refine g_aload_n B dX5_usersTold_78 rfl ?_
            refine g_getI (T := TX4) (N := 3) B dX5_usersTold_79 (hU.lt) (hU.lo) (inq inlX4) rfl 2 (by decide) (mq f_X5_114) (by rfl) ?_
            refine g_callVv (C := RX4) (As := [.int _, .int _, .int _]) B dX5_usersTold_82 (gc1 g_X5_120) (by rfl) ⟨rfl, hd_X4_become⟩ (by exact ⟨Nat.le_of_ble_eq_true rfl, Nat.le_of_ble_eq_true rfl⟩) ⟨rfl, rfl⟩ rfl rfl (by exact Nat.le_of_ble_eq_true rfl) (hG.recv) (x_become hG ?_)
            refine g_st (fun σ hσ => ?_)
            have hpσ : pkz [2, 3, 12] [] τ σ := by rw [hσ]; repeat (first | exact pkz.rf | refine pkz.upC ?_ (by decide) (by decide))
            have hUX : UX σ 12 (vG V w u (nI i)) u := by
              rw [hσ]
              have v1 : w = 1 → manyG w = 6 := fun e => by unfold manyG; rw [if_pos e]
              have ni : ∀ q : Nat, q < 10 → (nI w = nI q ↔ w = q) := fun q hq => ⟨fun e => nI_inj2 (by omega) (by omega) e, fun e => by rw [e]⟩
              have n1 := ni 1 (by omega)
              have n2 := ni 2 (by omega)
              have n3 := ni 3 (by omega)
              rcases hw with e | e | e
              · subst e
                first
                | exact absurd rfl c42
                | exact absurd (n2.mp c56) (by decide)
                | exact absurd (n3.mp c70) (by decide)
                | (refine key _ _ _ ⟨?_, ?_, ?_⟩ ?_
                   · exact (if_pos rfl : va_up V.2.2.1 u (nI i) u = nI i).symm
                   · exact ux1
                   · exact ux2
                   · rw [i_n (by omega)]
                     have := v1 rfl
                     omega)
              · subst e
                first
                | exact absurd rfl c56
                | exact absurd (n1.mp c42) (by decide)
                | exact absurd (n3.mp c70) (by decide)
                | (refine key _ _ _ ⟨?_, ?_, ?_⟩ ux3
                   · exact ux0
                   · exact (if_pos rfl : va_up V.2.2.2.1 u (nI i) u = nI i).symm
                   · exact ux2)
              · subst e
                first
                | exact absurd rfl c70
                | exact absurd (n1.mp c42) (by decide)
                | exact absurd (n2.mp c56) (by decide)
                | (refine key _ _ _ ⟨?_, ?_, ?_⟩ ux3
                   · exact ux0
                   · exact ux1
                   · exact (if_pos rfl : va_up V.2.2.2.2.1 u (nI i) u = nI i).symm)
            have hp2 := hp.trans hpσ
            have hVσ : VX σ 1 (vG V w u (nI i)) := by
              obtain ⟨q1, q2, q3⟩ := vG_0 (V := V) (w := w) (u := u) (x := nI i)
              refine ⟨(hpσ.2.1 3 (by decide)).trans (hV'.1.trans q2.symm), fun t ht => ?_⟩
              rw [hpσ.1 1 (by decide) (by decide), q3]
              exact hV'.2 t ht
            have hTσ : TXX σ k0 (vG V w u (nI i)).1 := by rw [vG_0.1]; exact hT'.pz hpσ (by decide)
            clear hσ
            refine g_aload_n B dX5_usersTold_85 rfl ?_
            refine g_aload_n B dX5_usersTold_86 rfl ?_
            refine g_aload_n B dX5_usersTold_87 rfl ?_
            refine g_getR (T := TX5) (N := 16) B dX5_usersTold_88 (by decide) (by rfl) (inq inlX5) rfl 4 (by decide) (mq f_X5_27) (by rfl) ?_
            refine g_aload_n B dX5_usersTold_91 rfl ?_
            refine g_aload_n B dX5_usersTold_92 rfl ?_
            refine g_getI (T := TX5) (N := 16) B dX5_usersTold_93 (by decide) (by rfl) (inq inlX5) rfl 8 (by decide) (mq f_X5_47) (by rfl) ?_
            rw [hpσ.2.1 8 (by decide)]
            refine g_callVr (C := RX5) (As := [.int _]) B dX5_usersTold_96 (gc1 g_X5_150) (by rfl) ⟨rfl, hd_X5_textAt⟩ (by exact ⟨Nat.le_of_ble_eq_true rfl, Nat.le_of_ble_eq_true rfl⟩) ⟨rfl, rfl⟩ rfl rfl (by exact Nat.le_of_ble_eq_true rfl) recv5 (x_textAt hk0' hT0.1 ?_)
            refine g_aload_n B dX5_usersTold_99 rfl ?_
            refine g_getI (T := TX5) (N := 16) B dX5_usersTold_100 (by decide) (by rfl) (inq inlX5) rfl 1 (by decide) (mq f_X5_13) (by rfl) ?_
            rw [hpσ.2.1 1 (by decide), hsh]
            refine g_callVi (C := RX5) (As := [.ref _, .ref _, .ref _, .int _]) B dX5_usersTold_103 (gc1 g_X5_257) (by rfl) ⟨rfl, hd_X5_firstOtherwise⟩ (by exact ⟨Nat.le_of_ble_eq_true rfl, Nat.le_of_ble_eq_true rfl⟩) ⟨rfl, rfl⟩ rfl rfl (by exact Nat.le_of_ble_eq_true rfl) recv5 (x_fo (V := vG V w u (nI i)) (u := u) hs hn (hr'.pz hpσ okD2312) hG hTσ hVσ hUX (fun τ1 p1 => ?_))
            refine g_iconst (v := (-1)) B dX5_usersTold_106 (by decide) ?_
            refine g_icmp_ne (tgt := 119) B dX5_usersTold_107 (by decide) (fun c107 => ?_) (fun c107 => ?_)
            · refine g_iinc (c9 := (1)) B dX5_usersTold_119 rfl (by decide) (by decide) rfl ?_
              refine g_goto (tgt := 29) B dX5_usersTold_122 (by decide) ?_
              rw [nI_1 i]
              have h9 := ih (k - 1) (by omega) (i + 1) τ1 (by omega) (hp2.trans (p1.mono (by decide) (by decide)))
              first
                | (rw [bt_ye (f := fun v => sFO (vG V w u (nI v)) (τ0.1 0 1) u it n) c107] at h9; exact h9)
                | (rw [bt_no (f := fun v => sFO (vG V w u (nI v)) (τ0.1 0 1) u it n) c107] at h9; exact h9)
            · refine g_iload B dX5_usersTold_110 rfl ?_
              refine g_iconst (v := (1)) B dX5_usersTold_112 (by decide) ?_
              refine g_iload B dX5_usersTold_113 rfl ?_
              refine g_ishl B dX5_usersTold_115 ?_
              refine g_ior B dX5_usersTold_116 ?_
              refine g_istore B dX5_usersTold_117 (by decide) rfl ?_
              refine g_iinc (c9 := (1)) B dX5_usersTold_119 rfl (by decide) (by decide) rfl ?_
              refine g_goto (tgt := 29) B dX5_usersTold_122 (by decide) ?_
              rw [nI_1 i]
              have h9 := ih (k - 1) (by omega) (i + 1) τ1 (by omega) (hp2.trans (p1.mono (by decide) (by decide)))
              first
                | (rw [bt_ye (f := fun v => sFO (vG V w u (nI v)) (τ0.1 0 1) u it n) c107] at h9; exact h9)
                | (rw [bt_no (f := fun v => sFO (vG V w u (nI v)) (τ0.1 0 1) u it n) c107] at h9; exact h9)
          · refine g_iload B dX5_usersTold_73 rfl ?_
            refine g_goto (tgt := 82) B dX5_usersTold_75 (by decide) ?_
            refine g_callVv (C := RX4) (As := [.int _, .int _, .int _]) B dX5_usersTold_82 (gc1 g_X5_120) (by rfl) ⟨rfl, hd_X4_become⟩ (by exact ⟨Nat.le_of_ble_eq_true rfl, Nat.le_of_ble_eq_true rfl⟩) ⟨rfl, rfl⟩ rfl rfl (by exact Nat.le_of_ble_eq_true rfl) (hG.recv) (x_become hG ?_)
            refine g_st (fun σ hσ => ?_)
            have hpσ : pkz [2, 3, 12] [] τ σ := by rw [hσ]; repeat (first | exact pkz.rf | refine pkz.upC ?_ (by decide) (by decide))
            have hUX : UX σ 12 (vG V w u (nI i)) u := by
              rw [hσ]
              have v1 : w = 1 → manyG w = 6 := fun e => by unfold manyG; rw [if_pos e]
              have ni : ∀ q : Nat, q < 10 → (nI w = nI q ↔ w = q) := fun q hq => ⟨fun e => nI_inj2 (by omega) (by omega) e, fun e => by rw [e]⟩
              have n1 := ni 1 (by omega)
              have n2 := ni 2 (by omega)
              have n3 := ni 3 (by omega)
              rcases hw with e | e | e
              · subst e
                first
                | exact absurd rfl c42
                | exact absurd (n2.mp c56) (by decide)
                | exact absurd (n3.mp c70) (by decide)
                | (refine key _ _ _ ⟨?_, ?_, ?_⟩ ?_
                   · exact (if_pos rfl : va_up V.2.2.1 u (nI i) u = nI i).symm
                   · exact ux1
                   · exact ux2
                   · rw [i_n (by omega)]
                     have := v1 rfl
                     omega)
              · subst e
                first
                | exact absurd rfl c56
                | exact absurd (n1.mp c42) (by decide)
                | exact absurd (n3.mp c70) (by decide)
                | (refine key _ _ _ ⟨?_, ?_, ?_⟩ ux3
                   · exact ux0
                   · exact (if_pos rfl : va_up V.2.2.2.1 u (nI i) u = nI i).symm
                   · exact ux2)
              · subst e
                first
                | exact absurd rfl c70
                | exact absurd (n1.mp c42) (by decide)
                | exact absurd (n2.mp c56) (by decide)
                | (refine key _ _ _ ⟨?_, ?_, ?_⟩ ux3
                   · exact ux0
                   · exact ux1
                   · exact (if_pos rfl : va_up V.2.2.2.2.1 u (nI i) u = nI i).symm)
            have hp2 := hp.trans hpσ
            have hVσ : VX σ 1 (vG V w u (nI i)) := by
              obtain ⟨q1, q2, q3⟩ := vG_0 (V := V) (w := w) (u := u) (x := nI i)
              refine ⟨(hpσ.2.1 3 (by decide)).trans (hV'.1.trans q2.symm), fun t ht => ?_⟩
              rw [hpσ.1 1 (by decide) (by decide), q3]
              exact hV'.2 t ht
            have hTσ : TXX σ k0 (vG V w u (nI i)).1 := by rw [vG_0.1]; exact hT'.pz hpσ (by decide)
            clear hσ
            refine g_aload_n B dX5_usersTold_85 rfl ?_
            refine g_aload_n B dX5_usersTold_86 rfl ?_
            refine g_aload_n B dX5_usersTold_87 rfl ?_
            refine g_getR (T := TX5) (N := 16) B dX5_usersTold_88 (by decide) (by rfl) (inq inlX5) rfl 4 (by decide) (mq f_X5_27) (by rfl) ?_
            refine g_aload_n B dX5_usersTold_91 rfl ?_
            refine g_aload_n B dX5_usersTold_92 rfl ?_
            refine g_getI (T := TX5) (N := 16) B dX5_usersTold_93 (by decide) (by rfl) (inq inlX5) rfl 8 (by decide) (mq f_X5_47) (by rfl) ?_
            rw [hpσ.2.1 8 (by decide)]
            refine g_callVr (C := RX5) (As := [.int _]) B dX5_usersTold_96 (gc1 g_X5_150) (by rfl) ⟨rfl, hd_X5_textAt⟩ (by exact ⟨Nat.le_of_ble_eq_true rfl, Nat.le_of_ble_eq_true rfl⟩) ⟨rfl, rfl⟩ rfl rfl (by exact Nat.le_of_ble_eq_true rfl) recv5 (x_textAt hk0' hT0.1 ?_)
            refine g_aload_n B dX5_usersTold_99 rfl ?_
            refine g_getI (T := TX5) (N := 16) B dX5_usersTold_100 (by decide) (by rfl) (inq inlX5) rfl 1 (by decide) (mq f_X5_13) (by rfl) ?_
            rw [hpσ.2.1 1 (by decide), hsh]
            refine g_callVi (C := RX5) (As := [.ref _, .ref _, .ref _, .int _]) B dX5_usersTold_103 (gc1 g_X5_257) (by rfl) ⟨rfl, hd_X5_firstOtherwise⟩ (by exact ⟨Nat.le_of_ble_eq_true rfl, Nat.le_of_ble_eq_true rfl⟩) ⟨rfl, rfl⟩ rfl rfl (by exact Nat.le_of_ble_eq_true rfl) recv5 (x_fo (V := vG V w u (nI i)) (u := u) hs hn (hr'.pz hpσ okD2312) hG hTσ hVσ hUX (fun τ1 p1 => ?_))
            refine g_iconst (v := (-1)) B dX5_usersTold_106 (by decide) ?_
            refine g_icmp_ne (tgt := 119) B dX5_usersTold_107 (by decide) (fun c107 => ?_) (fun c107 => ?_)
            · refine g_iinc (c9 := (1)) B dX5_usersTold_119 rfl (by decide) (by decide) rfl ?_
              refine g_goto (tgt := 29) B dX5_usersTold_122 (by decide) ?_
              rw [nI_1 i]
              have h9 := ih (k - 1) (by omega) (i + 1) τ1 (by omega) (hp2.trans (p1.mono (by decide) (by decide)))
              first
                | (rw [bt_ye (f := fun v => sFO (vG V w u (nI v)) (τ0.1 0 1) u it n) c107] at h9; exact h9)
                | (rw [bt_no (f := fun v => sFO (vG V w u (nI v)) (τ0.1 0 1) u it n) c107] at h9; exact h9)
            · refine g_iload B dX5_usersTold_110 rfl ?_
              refine g_iconst (v := (1)) B dX5_usersTold_112 (by decide) ?_
              refine g_iload B dX5_usersTold_113 rfl ?_
              refine g_ishl B dX5_usersTold_115 ?_
              refine g_ior B dX5_usersTold_116 ?_
              refine g_istore B dX5_usersTold_117 (by decide) rfl ?_
              refine g_iinc (c9 := (1)) B dX5_usersTold_119 rfl (by decide) (by decide) rfl ?_
              refine g_goto (tgt := 29) B dX5_usersTold_122 (by decide) ?_
              rw [nI_1 i]
              have h9 := ih (k - 1) (by omega) (i + 1) τ1 (by omega) (hp2.trans (p1.mono (by decide) (by decide)))
              first
                | (rw [bt_ye (f := fun v => sFO (vG V w u (nI v)) (τ0.1 0 1) u it n) c107] at h9; exact h9)
                | (rw [bt_no (f := fun v => sFO (vG V w u (nI v)) (τ0.1 0 1) u it n) c107] at h9; exact h9)
        · refine g_iload B dX5_usersTold_59 rfl ?_
          refine g_goto (tgt := 68) B dX5_usersTold_61 (by decide) ?_
          refine g_iload_n B dX5_usersTold_68 rfl ?_
          refine g_iconst (v := (3)) B dX5_usersTold_69 (by decide) ?_
          refine g_icmp_ne (tgt := 78) B dX5_usersTold_70 (by decide) (fun c70 => ?_) (fun c70 => ?_)
          · refine g_aload_n B dX5_usersTold_78 rfl ?_
            refine g_getI (T := TX4) (N := 3) B dX5_usersTold_79 (hU.lt) (hU.lo) (inq inlX4) rfl 2 (by decide) (mq f_X5_114) (by rfl) ?_
            refine g_callVv (C := RX4) (As := [.int _, .int _, .int _]) B dX5_usersTold_82 (gc1 g_X5_120) (by rfl) ⟨rfl, hd_X4_become⟩ (by exact ⟨Nat.le_of_ble_eq_true rfl, Nat.le_of_ble_eq_true rfl⟩) ⟨rfl, rfl⟩ rfl rfl (by exact Nat.le_of_ble_eq_true rfl) (hG.recv) (x_become hG ?_)
            refine g_st (fun σ hσ => ?_)
            have hpσ : pkz [2, 3, 12] [] τ σ := by rw [hσ]; repeat (first | exact pkz.rf | refine pkz.upC ?_ (by decide) (by decide))
            have hUX : UX σ 12 (vG V w u (nI i)) u := by
              rw [hσ]
              have v1 : w = 1 → manyG w = 6 := fun e => by unfold manyG; rw [if_pos e]
              have ni : ∀ q : Nat, q < 10 → (nI w = nI q ↔ w = q) := fun q hq => ⟨fun e => nI_inj2 (by omega) (by omega) e, fun e => by rw [e]⟩
              have n1 := ni 1 (by omega)
              have n2 := ni 2 (by omega)
              have n3 := ni 3 (by omega)
              rcases hw with e | e | e
              · subst e
                first
                | exact absurd rfl c42
                | exact absurd (n2.mp c56) (by decide)
                | exact absurd (n3.mp c70) (by decide)
                | (refine key _ _ _ ⟨?_, ?_, ?_⟩ ?_
                   · exact (if_pos rfl : va_up V.2.2.1 u (nI i) u = nI i).symm
                   · exact ux1
                   · exact ux2
                   · rw [i_n (by omega)]
                     have := v1 rfl
                     omega)
              · subst e
                first
                | exact absurd rfl c56
                | exact absurd (n1.mp c42) (by decide)
                | exact absurd (n3.mp c70) (by decide)
                | (refine key _ _ _ ⟨?_, ?_, ?_⟩ ux3
                   · exact ux0
                   · exact (if_pos rfl : va_up V.2.2.2.1 u (nI i) u = nI i).symm
                   · exact ux2)
              · subst e
                first
                | exact absurd rfl c70
                | exact absurd (n1.mp c42) (by decide)
                | exact absurd (n2.mp c56) (by decide)
                | (refine key _ _ _ ⟨?_, ?_, ?_⟩ ux3
                   · exact ux0
                   · exact ux1
                   · exact (if_pos rfl : va_up V.2.2.2.2.1 u (nI i) u = nI i).symm)
            have hp2 := hp.trans hpσ
            have hVσ : VX σ 1 (vG V w u (nI i)) := by
              obtain ⟨q1, q2, q3⟩ := vG_0 (V := V) (w := w) (u := u) (x := nI i)
              refine ⟨(hpσ.2.1 3 (by decide)).trans (hV'.1.trans q2.symm), fun t ht => ?_⟩
              rw [hpσ.1 1 (by decide) (by decide), q3]
              exact hV'.2 t ht
            have hTσ : TXX σ k0 (vG V w u (nI i)).1 := by rw [vG_0.1]; exact hT'.pz hpσ (by decide)
            clear hσ
            refine g_aload_n B dX5_usersTold_85 rfl ?_
            refine g_aload_n B dX5_usersTold_86 rfl ?_
            refine g_aload_n B dX5_usersTold_87 rfl ?_
            refine g_getR (T := TX5) (N := 16) B dX5_usersTold_88 (by decide) (by rfl) (inq inlX5) rfl 4 (by decide) (mq f_X5_27) (by rfl) ?_
            refine g_aload_n B dX5_usersTold_91 rfl ?_
            refine g_aload_n B dX5_usersTold_92 rfl ?_
            refine g_getI (T := TX5) (N := 16) B dX5_usersTold_93 (by decide) (by rfl) (inq inlX5) rfl 8 (by decide) (mq f_X5_47) (by rfl) ?_
            rw [hpσ.2.1 8 (by decide)]
            refine g_callVr (C := RX5) (As := [.int _]) B dX5_usersTold_96 (gc1 g_X5_150) (by rfl) ⟨rfl, hd_X5_textAt⟩ (by exact ⟨Nat.le_of_ble_eq_true rfl, Nat.le_of_ble_eq_true rfl⟩) ⟨rfl, rfl⟩ rfl rfl (by exact Nat.le_of_ble_eq_true rfl) recv5 (x_textAt hk0' hT0.1 ?_)
            refine g_aload_n B dX5_usersTold_99 rfl ?_
            refine g_getI (T := TX5) (N := 16) B dX5_usersTold_100 (by decide) (by rfl) (inq inlX5) rfl 1 (by decide) (mq f_X5_13) (by rfl) ?_
            rw [hpσ.2.1 1 (by decide), hsh]
            refine g_callVi (C := RX5) (As := [.ref _, .ref _, .ref _, .int _]) B dX5_usersTold_103 (gc1 g_X5_257) (by rfl) ⟨rfl, hd_X5_firstOtherwise⟩ (by exact ⟨Nat.le_of_ble_eq_true rfl, Nat.le_of_ble_eq_true rfl⟩) ⟨rfl, rfl⟩ rfl rfl (by exact Nat.le_of_ble_eq_true rfl) recv5 (x_fo (V := vG V w u (nI i)) (u := u) hs hn (hr'.pz hpσ okD2312) hG hTσ hVσ hUX (fun τ1 p1 => ?_))
            refine g_iconst (v := (-1)) B dX5_usersTold_106 (by decide) ?_
            refine g_icmp_ne (tgt := 119) B dX5_usersTold_107 (by decide) (fun c107 => ?_) (fun c107 => ?_)
            · refine g_iinc (c9 := (1)) B dX5_usersTold_119 rfl (by decide) (by decide) rfl ?_
              refine g_goto (tgt := 29) B dX5_usersTold_122 (by decide) ?_
              rw [nI_1 i]
              have h9 := ih (k - 1) (by omega) (i + 1) τ1 (by omega) (hp2.trans (p1.mono (by decide) (by decide)))
              first
                | (rw [bt_ye (f := fun v => sFO (vG V w u (nI v)) (τ0.1 0 1) u it n) c107] at h9; exact h9)
                | (rw [bt_no (f := fun v => sFO (vG V w u (nI v)) (τ0.1 0 1) u it n) c107] at h9; exact h9)
            · refine g_iload B dX5_usersTold_110 rfl ?_
              refine g_iconst (v := (1)) B dX5_usersTold_112 (by decide) ?_
              refine g_iload B dX5_usersTold_113 rfl ?_
              refine g_ishl B dX5_usersTold_115 ?_
              refine g_ior B dX5_usersTold_116 ?_
              refine g_istore B dX5_usersTold_117 (by decide) rfl ?_
              refine g_iinc (c9 := (1)) B dX5_usersTold_119 rfl (by decide) (by decide) rfl ?_
              refine g_goto (tgt := 29) B dX5_usersTold_122 (by decide) ?_
              rw [nI_1 i]
              have h9 := ih (k - 1) (by omega) (i + 1) τ1 (by omega) (hp2.trans (p1.mono (by decide) (by decide)))
              first
                | (rw [bt_ye (f := fun v => sFO (vG V w u (nI v)) (τ0.1 0 1) u it n) c107] at h9; exact h9)
                | (rw [bt_no (f := fun v => sFO (vG V w u (nI v)) (τ0.1 0 1) u it n) c107] at h9; exact h9)
          · refine g_iload B dX5_usersTold_73 rfl ?_
            refine g_goto (tgt := 82) B dX5_usersTold_75 (by decide) ?_
            refine g_callVv (C := RX4) (As := [.int _, .int _, .int _]) B dX5_usersTold_82 (gc1 g_X5_120) (by rfl) ⟨rfl, hd_X4_become⟩ (by exact ⟨Nat.le_of_ble_eq_true rfl, Nat.le_of_ble_eq_true rfl⟩) ⟨rfl, rfl⟩ rfl rfl (by exact Nat.le_of_ble_eq_true rfl) (hG.recv) (x_become hG ?_)
            refine g_st (fun σ hσ => ?_)
            have hpσ : pkz [2, 3, 12] [] τ σ := by rw [hσ]; repeat (first | exact pkz.rf | refine pkz.upC ?_ (by decide) (by decide))
            have hUX : UX σ 12 (vG V w u (nI i)) u := by
              rw [hσ]
              have v1 : w = 1 → manyG w = 6 := fun e => by unfold manyG; rw [if_pos e]
              have ni : ∀ q : Nat, q < 10 → (nI w = nI q ↔ w = q) := fun q hq => ⟨fun e => nI_inj2 (by omega) (by omega) e, fun e => by rw [e]⟩
              have n1 := ni 1 (by omega)
              have n2 := ni 2 (by omega)
              have n3 := ni 3 (by omega)
              rcases hw with e | e | e
              · subst e
                first
                | exact absurd rfl c42
                | exact absurd (n2.mp c56) (by decide)
                | exact absurd (n3.mp c70) (by decide)
                | (refine key _ _ _ ⟨?_, ?_, ?_⟩ ?_
                   · exact (if_pos rfl : va_up V.2.2.1 u (nI i) u = nI i).symm
                   · exact ux1
                   · exact ux2
                   · rw [i_n (by omega)]
                     have := v1 rfl
                     omega)
              · subst e
                first
                | exact absurd rfl c56
                | exact absurd (n1.mp c42) (by decide)
                | exact absurd (n3.mp c70) (by decide)
                | (refine key _ _ _ ⟨?_, ?_, ?_⟩ ux3
                   · exact ux0
                   · exact (if_pos rfl : va_up V.2.2.2.1 u (nI i) u = nI i).symm
                   · exact ux2)
              · subst e
                first
                | exact absurd rfl c70
                | exact absurd (n1.mp c42) (by decide)
                | exact absurd (n2.mp c56) (by decide)
                | (refine key _ _ _ ⟨?_, ?_, ?_⟩ ux3
                   · exact ux0
                   · exact ux1
                   · exact (if_pos rfl : va_up V.2.2.2.2.1 u (nI i) u = nI i).symm)
            have hp2 := hp.trans hpσ
            have hVσ : VX σ 1 (vG V w u (nI i)) := by
              obtain ⟨q1, q2, q3⟩ := vG_0 (V := V) (w := w) (u := u) (x := nI i)
              refine ⟨(hpσ.2.1 3 (by decide)).trans (hV'.1.trans q2.symm), fun t ht => ?_⟩
              rw [hpσ.1 1 (by decide) (by decide), q3]
              exact hV'.2 t ht
            have hTσ : TXX σ k0 (vG V w u (nI i)).1 := by rw [vG_0.1]; exact hT'.pz hpσ (by decide)
            clear hσ
            refine g_aload_n B dX5_usersTold_85 rfl ?_
            refine g_aload_n B dX5_usersTold_86 rfl ?_
            refine g_aload_n B dX5_usersTold_87 rfl ?_
            refine g_getR (T := TX5) (N := 16) B dX5_usersTold_88 (by decide) (by rfl) (inq inlX5) rfl 4 (by decide) (mq f_X5_27) (by rfl) ?_
            refine g_aload_n B dX5_usersTold_91 rfl ?_
            refine g_aload_n B dX5_usersTold_92 rfl ?_
            refine g_getI (T := TX5) (N := 16) B dX5_usersTold_93 (by decide) (by rfl) (inq inlX5) rfl 8 (by decide) (mq f_X5_47) (by rfl) ?_
            rw [hpσ.2.1 8 (by decide)]
            refine g_callVr (C := RX5) (As := [.int _]) B dX5_usersTold_96 (gc1 g_X5_150) (by rfl) ⟨rfl, hd_X5_textAt⟩ (by exact ⟨Nat.le_of_ble_eq_true rfl, Nat.le_of_ble_eq_true rfl⟩) ⟨rfl, rfl⟩ rfl rfl (by exact Nat.le_of_ble_eq_true rfl) recv5 (x_textAt hk0' hT0.1 ?_)
            refine g_aload_n B dX5_usersTold_99 rfl ?_
            refine g_getI (T := TX5) (N := 16) B dX5_usersTold_100 (by decide) (by rfl) (inq inlX5) rfl 1 (by decide) (mq f_X5_13) (by rfl) ?_
            rw [hpσ.2.1 1 (by decide), hsh]
            refine g_callVi (C := RX5) (As := [.ref _, .ref _, .ref _, .int _]) B dX5_usersTold_103 (gc1 g_X5_257) (by rfl) ⟨rfl, hd_X5_firstOtherwise⟩ (by exact ⟨Nat.le_of_ble_eq_true rfl, Nat.le_of_ble_eq_true rfl⟩) ⟨rfl, rfl⟩ rfl rfl (by exact Nat.le_of_ble_eq_true rfl) recv5 (x_fo (V := vG V w u (nI i)) (u := u) hs hn (hr'.pz hpσ okD2312) hG hTσ hVσ hUX (fun τ1 p1 => ?_))
            refine g_iconst (v := (-1)) B dX5_usersTold_106 (by decide) ?_
            refine g_icmp_ne (tgt := 119) B dX5_usersTold_107 (by decide) (fun c107 => ?_) (fun c107 => ?_)
            · refine g_iinc (c9 := (1)) B dX5_usersTold_119 rfl (by decide) (by decide) rfl ?_
              refine g_goto (tgt := 29) B dX5_usersTold_122 (by decide) ?_
              rw [nI_1 i]
              have h9 := ih (k - 1) (by omega) (i + 1) τ1 (by omega) (hp2.trans (p1.mono (by decide) (by decide)))
              first
                | (rw [bt_ye (f := fun v => sFO (vG V w u (nI v)) (τ0.1 0 1) u it n) c107] at h9; exact h9)
                | (rw [bt_no (f := fun v => sFO (vG V w u (nI v)) (τ0.1 0 1) u it n) c107] at h9; exact h9)
            · refine g_iload B dX5_usersTold_110 rfl ?_
              refine g_iconst (v := (1)) B dX5_usersTold_112 (by decide) ?_
              refine g_iload B dX5_usersTold_113 rfl ?_
              refine g_ishl B dX5_usersTold_115 ?_
              refine g_ior B dX5_usersTold_116 ?_
              refine g_istore B dX5_usersTold_117 (by decide) rfl ?_
              refine g_iinc (c9 := (1)) B dX5_usersTold_119 rfl (by decide) (by decide) rfl ?_
              refine g_goto (tgt := 29) B dX5_usersTold_122 (by decide) ?_
              rw [nI_1 i]
              have h9 := ih (k - 1) (by omega) (i + 1) τ1 (by omega) (hp2.trans (p1.mono (by decide) (by decide)))
              first
                | (rw [bt_ye (f := fun v => sFO (vG V w u (nI v)) (τ0.1 0 1) u it n) c107] at h9; exact h9)
                | (rw [bt_no (f := fun v => sFO (vG V w u (nI v)) (τ0.1 0 1) u it n) c107] at h9; exact h9)
      · refine g_iload B dX5_usersTold_45 rfl ?_
        refine g_goto (tgt := 54) B dX5_usersTold_47 (by decide) ?_
        refine g_iload_n B dX5_usersTold_54 rfl ?_
        refine g_iconst (v := (2)) B dX5_usersTold_55 (by decide) ?_
        refine g_icmp_ne (tgt := 64) B dX5_usersTold_56 (by decide) (fun c56 => ?_) (fun c56 => ?_)
        · refine g_aload_n B dX5_usersTold_64 rfl ?_
          refine g_getI (T := TX4) (N := 3) B dX5_usersTold_65 (hU.lt) (hU.lo) (inq inlX4) rfl 1 (by decide) (mq f_X5_108) (by rfl) ?_
          refine g_iload_n B dX5_usersTold_68 rfl ?_
          refine g_iconst (v := (3)) B dX5_usersTold_69 (by decide) ?_
          refine g_icmp_ne (tgt := 78) B dX5_usersTold_70 (by decide) (fun c70 => ?_) (fun c70 => ?_)
          · refine g_aload_n B dX5_usersTold_78 rfl ?_
            refine g_getI (T := TX4) (N := 3) B dX5_usersTold_79 (hU.lt) (hU.lo) (inq inlX4) rfl 2 (by decide) (mq f_X5_114) (by rfl) ?_
            refine g_callVv (C := RX4) (As := [.int _, .int _, .int _]) B dX5_usersTold_82 (gc1 g_X5_120) (by rfl) ⟨rfl, hd_X4_become⟩ (by exact ⟨Nat.le_of_ble_eq_true rfl, Nat.le_of_ble_eq_true rfl⟩) ⟨rfl, rfl⟩ rfl rfl (by exact Nat.le_of_ble_eq_true rfl) (hG.recv) (x_become hG ?_)
            refine g_st (fun σ hσ => ?_)
            have hpσ : pkz [2, 3, 12] [] τ σ := by rw [hσ]; repeat (first | exact pkz.rf | refine pkz.upC ?_ (by decide) (by decide))
            have hUX : UX σ 12 (vG V w u (nI i)) u := by
              rw [hσ]
              have v1 : w = 1 → manyG w = 6 := fun e => by unfold manyG; rw [if_pos e]
              have ni : ∀ q : Nat, q < 10 → (nI w = nI q ↔ w = q) := fun q hq => ⟨fun e => nI_inj2 (by omega) (by omega) e, fun e => by rw [e]⟩
              have n1 := ni 1 (by omega)
              have n2 := ni 2 (by omega)
              have n3 := ni 3 (by omega)
              rcases hw with e | e | e
              · subst e
                first
                | exact absurd rfl c42
                | exact absurd (n2.mp c56) (by decide)
                | exact absurd (n3.mp c70) (by decide)
                | (refine key _ _ _ ⟨?_, ?_, ?_⟩ ?_
                   · exact (if_pos rfl : va_up V.2.2.1 u (nI i) u = nI i).symm
                   · exact ux1
                   · exact ux2
                   · rw [i_n (by omega)]
                     have := v1 rfl
                     omega)
              · subst e
                first
                | exact absurd rfl c56
                | exact absurd (n1.mp c42) (by decide)
                | exact absurd (n3.mp c70) (by decide)
                | (refine key _ _ _ ⟨?_, ?_, ?_⟩ ux3
                   · exact ux0
                   · exact (if_pos rfl : va_up V.2.2.2.1 u (nI i) u = nI i).symm
                   · exact ux2)
              · subst e
                first
                | exact absurd rfl c70
                | exact absurd (n1.mp c42) (by decide)
                | exact absurd (n2.mp c56) (by decide)
                | (refine key _ _ _ ⟨?_, ?_, ?_⟩ ux3
                   · exact ux0
                   · exact ux1
                   · exact (if_pos rfl : va_up V.2.2.2.2.1 u (nI i) u = nI i).symm)
            have hp2 := hp.trans hpσ
            have hVσ : VX σ 1 (vG V w u (nI i)) := by
              obtain ⟨q1, q2, q3⟩ := vG_0 (V := V) (w := w) (u := u) (x := nI i)
              refine ⟨(hpσ.2.1 3 (by decide)).trans (hV'.1.trans q2.symm), fun t ht => ?_⟩
              rw [hpσ.1 1 (by decide) (by decide), q3]
              exact hV'.2 t ht
            have hTσ : TXX σ k0 (vG V w u (nI i)).1 := by rw [vG_0.1]; exact hT'.pz hpσ (by decide)
            clear hσ
            refine g_aload_n B dX5_usersTold_85 rfl ?_
            refine g_aload_n B dX5_usersTold_86 rfl ?_
            refine g_aload_n B dX5_usersTold_87 rfl ?_
            refine g_getR (T := TX5) (N := 16) B dX5_usersTold_88 (by decide) (by rfl) (inq inlX5) rfl 4 (by decide) (mq f_X5_27) (by rfl) ?_
            refine g_aload_n B dX5_usersTold_91 rfl ?_
            refine g_aload_n B dX5_usersTold_92 rfl ?_
            refine g_getI (T := TX5) (N := 16) B dX5_usersTold_93 (by decide) (by rfl) (inq inlX5) rfl 8 (by decide) (mq f_X5_47) (by rfl) ?_
            rw [hpσ.2.1 8 (by decide)]
            refine g_callVr (C := RX5) (As := [.int _]) B dX5_usersTold_96 (gc1 g_X5_150) (by rfl) ⟨rfl, hd_X5_textAt⟩ (by exact ⟨Nat.le_of_ble_eq_true rfl, Nat.le_of_ble_eq_true rfl⟩) ⟨rfl, rfl⟩ rfl rfl (by exact Nat.le_of_ble_eq_true rfl) recv5 (x_textAt hk0' hT0.1 ?_)
            refine g_aload_n B dX5_usersTold_99 rfl ?_
            refine g_getI (T := TX5) (N := 16) B dX5_usersTold_100 (by decide) (by rfl) (inq inlX5) rfl 1 (by decide) (mq f_X5_13) (by rfl) ?_
            rw [hpσ.2.1 1 (by decide), hsh]
            refine g_callVi (C := RX5) (As := [.ref _, .ref _, .ref _, .int _]) B dX5_usersTold_103 (gc1 g_X5_257) (by rfl) ⟨rfl, hd_X5_firstOtherwise⟩ (by exact ⟨Nat.le_of_ble_eq_true rfl, Nat.le_of_ble_eq_true rfl⟩) ⟨rfl, rfl⟩ rfl rfl (by exact Nat.le_of_ble_eq_true rfl) recv5 (x_fo (V := vG V w u (nI i)) (u := u) hs hn (hr'.pz hpσ okD2312) hG hTσ hVσ hUX (fun τ1 p1 => ?_))
            refine g_iconst (v := (-1)) B dX5_usersTold_106 (by decide) ?_
            refine g_icmp_ne (tgt := 119) B dX5_usersTold_107 (by decide) (fun c107 => ?_) (fun c107 => ?_)
            · refine g_iinc (c9 := (1)) B dX5_usersTold_119 rfl (by decide) (by decide) rfl ?_
              refine g_goto (tgt := 29) B dX5_usersTold_122 (by decide) ?_
              rw [nI_1 i]
              have h9 := ih (k - 1) (by omega) (i + 1) τ1 (by omega) (hp2.trans (p1.mono (by decide) (by decide)))
              first
                | (rw [bt_ye (f := fun v => sFO (vG V w u (nI v)) (τ0.1 0 1) u it n) c107] at h9; exact h9)
                | (rw [bt_no (f := fun v => sFO (vG V w u (nI v)) (τ0.1 0 1) u it n) c107] at h9; exact h9)
            · refine g_iload B dX5_usersTold_110 rfl ?_
              refine g_iconst (v := (1)) B dX5_usersTold_112 (by decide) ?_
              refine g_iload B dX5_usersTold_113 rfl ?_
              refine g_ishl B dX5_usersTold_115 ?_
              refine g_ior B dX5_usersTold_116 ?_
              refine g_istore B dX5_usersTold_117 (by decide) rfl ?_
              refine g_iinc (c9 := (1)) B dX5_usersTold_119 rfl (by decide) (by decide) rfl ?_
              refine g_goto (tgt := 29) B dX5_usersTold_122 (by decide) ?_
              rw [nI_1 i]
              have h9 := ih (k - 1) (by omega) (i + 1) τ1 (by omega) (hp2.trans (p1.mono (by decide) (by decide)))
              first
                | (rw [bt_ye (f := fun v => sFO (vG V w u (nI v)) (τ0.1 0 1) u it n) c107] at h9; exact h9)
                | (rw [bt_no (f := fun v => sFO (vG V w u (nI v)) (τ0.1 0 1) u it n) c107] at h9; exact h9)
          · refine g_iload B dX5_usersTold_73 rfl ?_
            refine g_goto (tgt := 82) B dX5_usersTold_75 (by decide) ?_
            refine g_callVv (C := RX4) (As := [.int _, .int _, .int _]) B dX5_usersTold_82 (gc1 g_X5_120) (by rfl) ⟨rfl, hd_X4_become⟩ (by exact ⟨Nat.le_of_ble_eq_true rfl, Nat.le_of_ble_eq_true rfl⟩) ⟨rfl, rfl⟩ rfl rfl (by exact Nat.le_of_ble_eq_true rfl) (hG.recv) (x_become hG ?_)
            refine g_st (fun σ hσ => ?_)
            have hpσ : pkz [2, 3, 12] [] τ σ := by rw [hσ]; repeat (first | exact pkz.rf | refine pkz.upC ?_ (by decide) (by decide))
            have hUX : UX σ 12 (vG V w u (nI i)) u := by
              rw [hσ]
              have v1 : w = 1 → manyG w = 6 := fun e => by unfold manyG; rw [if_pos e]
              have ni : ∀ q : Nat, q < 10 → (nI w = nI q ↔ w = q) := fun q hq => ⟨fun e => nI_inj2 (by omega) (by omega) e, fun e => by rw [e]⟩
              have n1 := ni 1 (by omega)
              have n2 := ni 2 (by omega)
              have n3 := ni 3 (by omega)
              rcases hw with e | e | e
              · subst e
                first
                | exact absurd rfl c42
                | exact absurd (n2.mp c56) (by decide)
                | exact absurd (n3.mp c70) (by decide)
                | (refine key _ _ _ ⟨?_, ?_, ?_⟩ ?_
                   · exact (if_pos rfl : va_up V.2.2.1 u (nI i) u = nI i).symm
                   · exact ux1
                   · exact ux2
                   · rw [i_n (by omega)]
                     have := v1 rfl
                     omega)
              · subst e
                first
                | exact absurd rfl c56
                | exact absurd (n1.mp c42) (by decide)
                | exact absurd (n3.mp c70) (by decide)
                | (refine key _ _ _ ⟨?_, ?_, ?_⟩ ux3
                   · exact ux0
                   · exact (if_pos rfl : va_up V.2.2.2.1 u (nI i) u = nI i).symm
                   · exact ux2)
              · subst e
                first
                | exact absurd rfl c70
                | exact absurd (n1.mp c42) (by decide)
                | exact absurd (n2.mp c56) (by decide)
                | (refine key _ _ _ ⟨?_, ?_, ?_⟩ ux3
                   · exact ux0
                   · exact ux1
                   · exact (if_pos rfl : va_up V.2.2.2.2.1 u (nI i) u = nI i).symm)
            have hp2 := hp.trans hpσ
            have hVσ : VX σ 1 (vG V w u (nI i)) := by
              obtain ⟨q1, q2, q3⟩ := vG_0 (V := V) (w := w) (u := u) (x := nI i)
              refine ⟨(hpσ.2.1 3 (by decide)).trans (hV'.1.trans q2.symm), fun t ht => ?_⟩
              rw [hpσ.1 1 (by decide) (by decide), q3]
              exact hV'.2 t ht
            have hTσ : TXX σ k0 (vG V w u (nI i)).1 := by rw [vG_0.1]; exact hT'.pz hpσ (by decide)
            clear hσ
            refine g_aload_n B dX5_usersTold_85 rfl ?_
            refine g_aload_n B dX5_usersTold_86 rfl ?_
            refine g_aload_n B dX5_usersTold_87 rfl ?_
            refine g_getR (T := TX5) (N := 16) B dX5_usersTold_88 (by decide) (by rfl) (inq inlX5) rfl 4 (by decide) (mq f_X5_27) (by rfl) ?_
            refine g_aload_n B dX5_usersTold_91 rfl ?_
            refine g_aload_n B dX5_usersTold_92 rfl ?_
            refine g_getI (T := TX5) (N := 16) B dX5_usersTold_93 (by decide) (by rfl) (inq inlX5) rfl 8 (by decide) (mq f_X5_47) (by rfl) ?_
            rw [hpσ.2.1 8 (by decide)]
            refine g_callVr (C := RX5) (As := [.int _]) B dX5_usersTold_96 (gc1 g_X5_150) (by rfl) ⟨rfl, hd_X5_textAt⟩ (by exact ⟨Nat.le_of_ble_eq_true rfl, Nat.le_of_ble_eq_true rfl⟩) ⟨rfl, rfl⟩ rfl rfl (by exact Nat.le_of_ble_eq_true rfl) recv5 (x_textAt hk0' hT0.1 ?_)
            refine g_aload_n B dX5_usersTold_99 rfl ?_
            refine g_getI (T := TX5) (N := 16) B dX5_usersTold_100 (by decide) (by rfl) (inq inlX5) rfl 1 (by decide) (mq f_X5_13) (by rfl) ?_
            rw [hpσ.2.1 1 (by decide), hsh]
            refine g_callVi (C := RX5) (As := [.ref _, .ref _, .ref _, .int _]) B dX5_usersTold_103 (gc1 g_X5_257) (by rfl) ⟨rfl, hd_X5_firstOtherwise⟩ (by exact ⟨Nat.le_of_ble_eq_true rfl, Nat.le_of_ble_eq_true rfl⟩) ⟨rfl, rfl⟩ rfl rfl (by exact Nat.le_of_ble_eq_true rfl) recv5 (x_fo (V := vG V w u (nI i)) (u := u) hs hn (hr'.pz hpσ okD2312) hG hTσ hVσ hUX (fun τ1 p1 => ?_))
            refine g_iconst (v := (-1)) B dX5_usersTold_106 (by decide) ?_
            refine g_icmp_ne (tgt := 119) B dX5_usersTold_107 (by decide) (fun c107 => ?_) (fun c107 => ?_)
            · refine g_iinc (c9 := (1)) B dX5_usersTold_119 rfl (by decide) (by decide) rfl ?_
              refine g_goto (tgt := 29) B dX5_usersTold_122 (by decide) ?_
              rw [nI_1 i]
              have h9 := ih (k - 1) (by omega) (i + 1) τ1 (by omega) (hp2.trans (p1.mono (by decide) (by decide)))
              first
                | (rw [bt_ye (f := fun v => sFO (vG V w u (nI v)) (τ0.1 0 1) u it n) c107] at h9; exact h9)
                | (rw [bt_no (f := fun v => sFO (vG V w u (nI v)) (τ0.1 0 1) u it n) c107] at h9; exact h9)
            · refine g_iload B dX5_usersTold_110 rfl ?_
              refine g_iconst (v := (1)) B dX5_usersTold_112 (by decide) ?_
              refine g_iload B dX5_usersTold_113 rfl ?_
              refine g_ishl B dX5_usersTold_115 ?_
              refine g_ior B dX5_usersTold_116 ?_
              refine g_istore B dX5_usersTold_117 (by decide) rfl ?_
              refine g_iinc (c9 := (1)) B dX5_usersTold_119 rfl (by decide) (by decide) rfl ?_
              refine g_goto (tgt := 29) B dX5_usersTold_122 (by decide) ?_
              rw [nI_1 i]
              have h9 := ih (k - 1) (by omega) (i + 1) τ1 (by omega) (hp2.trans (p1.mono (by decide) (by decide)))
              first
                | (rw [bt_ye (f := fun v => sFO (vG V w u (nI v)) (τ0.1 0 1) u it n) c107] at h9; exact h9)
                | (rw [bt_no (f := fun v => sFO (vG V w u (nI v)) (τ0.1 0 1) u it n) c107] at h9; exact h9)
        · refine g_iload B dX5_usersTold_59 rfl ?_
          refine g_goto (tgt := 68) B dX5_usersTold_61 (by decide) ?_
          refine g_iload_n B dX5_usersTold_68 rfl ?_
          refine g_iconst (v := (3)) B dX5_usersTold_69 (by decide) ?_
          refine g_icmp_ne (tgt := 78) B dX5_usersTold_70 (by decide) (fun c70 => ?_) (fun c70 => ?_)
          · refine g_aload_n B dX5_usersTold_78 rfl ?_
            refine g_getI (T := TX4) (N := 3) B dX5_usersTold_79 (hU.lt) (hU.lo) (inq inlX4) rfl 2 (by decide) (mq f_X5_114) (by rfl) ?_
            refine g_callVv (C := RX4) (As := [.int _, .int _, .int _]) B dX5_usersTold_82 (gc1 g_X5_120) (by rfl) ⟨rfl, hd_X4_become⟩ (by exact ⟨Nat.le_of_ble_eq_true rfl, Nat.le_of_ble_eq_true rfl⟩) ⟨rfl, rfl⟩ rfl rfl (by exact Nat.le_of_ble_eq_true rfl) (hG.recv) (x_become hG ?_)
            refine g_st (fun σ hσ => ?_)
            have hpσ : pkz [2, 3, 12] [] τ σ := by rw [hσ]; repeat (first | exact pkz.rf | refine pkz.upC ?_ (by decide) (by decide))
            have hUX : UX σ 12 (vG V w u (nI i)) u := by
              rw [hσ]
              have v1 : w = 1 → manyG w = 6 := fun e => by unfold manyG; rw [if_pos e]
              have ni : ∀ q : Nat, q < 10 → (nI w = nI q ↔ w = q) := fun q hq => ⟨fun e => nI_inj2 (by omega) (by omega) e, fun e => by rw [e]⟩
              have n1 := ni 1 (by omega)
              have n2 := ni 2 (by omega)
              have n3 := ni 3 (by omega)
              rcases hw with e | e | e
              · subst e
                first
                | exact absurd rfl c42
                | exact absurd (n2.mp c56) (by decide)
                | exact absurd (n3.mp c70) (by decide)
                | (refine key _ _ _ ⟨?_, ?_, ?_⟩ ?_
                   · exact (if_pos rfl : va_up V.2.2.1 u (nI i) u = nI i).symm
                   · exact ux1
                   · exact ux2
                   · rw [i_n (by omega)]
                     have := v1 rfl
                     omega)
              · subst e
                first
                | exact absurd rfl c56
                | exact absurd (n1.mp c42) (by decide)
                | exact absurd (n3.mp c70) (by decide)
                | (refine key _ _ _ ⟨?_, ?_, ?_⟩ ux3
                   · exact ux0
                   · exact (if_pos rfl : va_up V.2.2.2.1 u (nI i) u = nI i).symm
                   · exact ux2)
              · subst e
                first
                | exact absurd rfl c70
                | exact absurd (n1.mp c42) (by decide)
                | exact absurd (n2.mp c56) (by decide)
                | (refine key _ _ _ ⟨?_, ?_, ?_⟩ ux3
                   · exact ux0
                   · exact ux1
                   · exact (if_pos rfl : va_up V.2.2.2.2.1 u (nI i) u = nI i).symm)
            have hp2 := hp.trans hpσ
            have hVσ : VX σ 1 (vG V w u (nI i)) := by
              obtain ⟨q1, q2, q3⟩ := vG_0 (V := V) (w := w) (u := u) (x := nI i)
              refine ⟨(hpσ.2.1 3 (by decide)).trans (hV'.1.trans q2.symm), fun t ht => ?_⟩
              rw [hpσ.1 1 (by decide) (by decide), q3]
              exact hV'.2 t ht
            have hTσ : TXX σ k0 (vG V w u (nI i)).1 := by rw [vG_0.1]; exact hT'.pz hpσ (by decide)
            clear hσ
            refine g_aload_n B dX5_usersTold_85 rfl ?_
            refine g_aload_n B dX5_usersTold_86 rfl ?_
            refine g_aload_n B dX5_usersTold_87 rfl ?_
            refine g_getR (T := TX5) (N := 16) B dX5_usersTold_88 (by decide) (by rfl) (inq inlX5) rfl 4 (by decide) (mq f_X5_27) (by rfl) ?_
            refine g_aload_n B dX5_usersTold_91 rfl ?_
            refine g_aload_n B dX5_usersTold_92 rfl ?_
            refine g_getI (T := TX5) (N := 16) B dX5_usersTold_93 (by decide) (by rfl) (inq inlX5) rfl 8 (by decide) (mq f_X5_47) (by rfl) ?_
            rw [hpσ.2.1 8 (by decide)]
            refine g_callVr (C := RX5) (As := [.int _]) B dX5_usersTold_96 (gc1 g_X5_150) (by rfl) ⟨rfl, hd_X5_textAt⟩ (by exact ⟨Nat.le_of_ble_eq_true rfl, Nat.le_of_ble_eq_true rfl⟩) ⟨rfl, rfl⟩ rfl rfl (by exact Nat.le_of_ble_eq_true rfl) recv5 (x_textAt hk0' hT0.1 ?_)
            refine g_aload_n B dX5_usersTold_99 rfl ?_
            refine g_getI (T := TX5) (N := 16) B dX5_usersTold_100 (by decide) (by rfl) (inq inlX5) rfl 1 (by decide) (mq f_X5_13) (by rfl) ?_
            rw [hpσ.2.1 1 (by decide), hsh]
            refine g_callVi (C := RX5) (As := [.ref _, .ref _, .ref _, .int _]) B dX5_usersTold_103 (gc1 g_X5_257) (by rfl) ⟨rfl, hd_X5_firstOtherwise⟩ (by exact ⟨Nat.le_of_ble_eq_true rfl, Nat.le_of_ble_eq_true rfl⟩) ⟨rfl, rfl⟩ rfl rfl (by exact Nat.le_of_ble_eq_true rfl) recv5 (x_fo (V := vG V w u (nI i)) (u := u) hs hn (hr'.pz hpσ okD2312) hG hTσ hVσ hUX (fun τ1 p1 => ?_))
            refine g_iconst (v := (-1)) B dX5_usersTold_106 (by decide) ?_
            refine g_icmp_ne (tgt := 119) B dX5_usersTold_107 (by decide) (fun c107 => ?_) (fun c107 => ?_)
            · refine g_iinc (c9 := (1)) B dX5_usersTold_119 rfl (by decide) (by decide) rfl ?_
              refine g_goto (tgt := 29) B dX5_usersTold_122 (by decide) ?_
              rw [nI_1 i]
              have h9 := ih (k - 1) (by omega) (i + 1) τ1 (by omega) (hp2.trans (p1.mono (by decide) (by decide)))
              first
                | (rw [bt_ye (f := fun v => sFO (vG V w u (nI v)) (τ0.1 0 1) u it n) c107] at h9; exact h9)
                | (rw [bt_no (f := fun v => sFO (vG V w u (nI v)) (τ0.1 0 1) u it n) c107] at h9; exact h9)
            · refine g_iload B dX5_usersTold_110 rfl ?_
              refine g_iconst (v := (1)) B dX5_usersTold_112 (by decide) ?_
              refine g_iload B dX5_usersTold_113 rfl ?_
              refine g_ishl B dX5_usersTold_115 ?_
              refine g_ior B dX5_usersTold_116 ?_
              refine g_istore B dX5_usersTold_117 (by decide) rfl ?_
              refine g_iinc (c9 := (1)) B dX5_usersTold_119 rfl (by decide) (by decide) rfl ?_
              refine g_goto (tgt := 29) B dX5_usersTold_122 (by decide) ?_
              rw [nI_1 i]
              have h9 := ih (k - 1) (by omega) (i + 1) τ1 (by omega) (hp2.trans (p1.mono (by decide) (by decide)))
              first
                | (rw [bt_ye (f := fun v => sFO (vG V w u (nI v)) (τ0.1 0 1) u it n) c107] at h9; exact h9)
                | (rw [bt_no (f := fun v => sFO (vG V w u (nI v)) (τ0.1 0 1) u it n) c107] at h9; exact h9)
          · refine g_iload B dX5_usersTold_73 rfl ?_
            refine g_goto (tgt := 82) B dX5_usersTold_75 (by decide) ?_
            refine g_callVv (C := RX4) (As := [.int _, .int _, .int _]) B dX5_usersTold_82 (gc1 g_X5_120) (by rfl) ⟨rfl, hd_X4_become⟩ (by exact ⟨Nat.le_of_ble_eq_true rfl, Nat.le_of_ble_eq_true rfl⟩) ⟨rfl, rfl⟩ rfl rfl (by exact Nat.le_of_ble_eq_true rfl) (hG.recv) (x_become hG ?_)
            refine g_st (fun σ hσ => ?_)
            have hpσ : pkz [2, 3, 12] [] τ σ := by rw [hσ]; repeat (first | exact pkz.rf | refine pkz.upC ?_ (by decide) (by decide))
            have hUX : UX σ 12 (vG V w u (nI i)) u := by
              rw [hσ]
              have v1 : w = 1 → manyG w = 6 := fun e => by unfold manyG; rw [if_pos e]
              have ni : ∀ q : Nat, q < 10 → (nI w = nI q ↔ w = q) := fun q hq => ⟨fun e => nI_inj2 (by omega) (by omega) e, fun e => by rw [e]⟩
              have n1 := ni 1 (by omega)
              have n2 := ni 2 (by omega)
              have n3 := ni 3 (by omega)
              rcases hw with e | e | e
              · subst e
                first
                | exact absurd rfl c42
                | exact absurd (n2.mp c56) (by decide)
                | exact absurd (n3.mp c70) (by decide)
                | (refine key _ _ _ ⟨?_, ?_, ?_⟩ ?_
                   · exact (if_pos rfl : va_up V.2.2.1 u (nI i) u = nI i).symm
                   · exact ux1
                   · exact ux2
                   · rw [i_n (by omega)]
                     have := v1 rfl
                     omega)
              · subst e
                first
                | exact absurd rfl c56
                | exact absurd (n1.mp c42) (by decide)
                | exact absurd (n3.mp c70) (by decide)
                | (refine key _ _ _ ⟨?_, ?_, ?_⟩ ux3
                   · exact ux0
                   · exact (if_pos rfl : va_up V.2.2.2.1 u (nI i) u = nI i).symm
                   · exact ux2)
              · subst e
                first
                | exact absurd rfl c70
                | exact absurd (n1.mp c42) (by decide)
                | exact absurd (n2.mp c56) (by decide)
                | (refine key _ _ _ ⟨?_, ?_, ?_⟩ ux3
                   · exact ux0
                   · exact ux1
                   · exact (if_pos rfl : va_up V.2.2.2.2.1 u (nI i) u = nI i).symm)
            have hp2 := hp.trans hpσ
            have hVσ : VX σ 1 (vG V w u (nI i)) := by
              obtain ⟨q1, q2, q3⟩ := vG_0 (V := V) (w := w) (u := u) (x := nI i)
              refine ⟨(hpσ.2.1 3 (by decide)).trans (hV'.1.trans q2.symm), fun t ht => ?_⟩
              rw [hpσ.1 1 (by decide) (by decide), q3]
              exact hV'.2 t ht
            have hTσ : TXX σ k0 (vG V w u (nI i)).1 := by rw [vG_0.1]; exact hT'.pz hpσ (by decide)
            clear hσ
            refine g_aload_n B dX5_usersTold_85 rfl ?_
            refine g_aload_n B dX5_usersTold_86 rfl ?_
            refine g_aload_n B dX5_usersTold_87 rfl ?_
            refine g_getR (T := TX5) (N := 16) B dX5_usersTold_88 (by decide) (by rfl) (inq inlX5) rfl 4 (by decide) (mq f_X5_27) (by rfl) ?_
            refine g_aload_n B dX5_usersTold_91 rfl ?_
            refine g_aload_n B dX5_usersTold_92 rfl ?_
            refine g_getI (T := TX5) (N := 16) B dX5_usersTold_93 (by decide) (by rfl) (inq inlX5) rfl 8 (by decide) (mq f_X5_47) (by rfl) ?_
            rw [hpσ.2.1 8 (by decide)]
            refine g_callVr (C := RX5) (As := [.int _]) B dX5_usersTold_96 (gc1 g_X5_150) (by rfl) ⟨rfl, hd_X5_textAt⟩ (by exact ⟨Nat.le_of_ble_eq_true rfl, Nat.le_of_ble_eq_true rfl⟩) ⟨rfl, rfl⟩ rfl rfl (by exact Nat.le_of_ble_eq_true rfl) recv5 (x_textAt hk0' hT0.1 ?_)
            refine g_aload_n B dX5_usersTold_99 rfl ?_
            refine g_getI (T := TX5) (N := 16) B dX5_usersTold_100 (by decide) (by rfl) (inq inlX5) rfl 1 (by decide) (mq f_X5_13) (by rfl) ?_
            rw [hpσ.2.1 1 (by decide), hsh]
            refine g_callVi (C := RX5) (As := [.ref _, .ref _, .ref _, .int _]) B dX5_usersTold_103 (gc1 g_X5_257) (by rfl) ⟨rfl, hd_X5_firstOtherwise⟩ (by exact ⟨Nat.le_of_ble_eq_true rfl, Nat.le_of_ble_eq_true rfl⟩) ⟨rfl, rfl⟩ rfl rfl (by exact Nat.le_of_ble_eq_true rfl) recv5 (x_fo (V := vG V w u (nI i)) (u := u) hs hn (hr'.pz hpσ okD2312) hG hTσ hVσ hUX (fun τ1 p1 => ?_))
            refine g_iconst (v := (-1)) B dX5_usersTold_106 (by decide) ?_
            refine g_icmp_ne (tgt := 119) B dX5_usersTold_107 (by decide) (fun c107 => ?_) (fun c107 => ?_)
            · refine g_iinc (c9 := (1)) B dX5_usersTold_119 rfl (by decide) (by decide) rfl ?_
              refine g_goto (tgt := 29) B dX5_usersTold_122 (by decide) ?_
              rw [nI_1 i]
              have h9 := ih (k - 1) (by omega) (i + 1) τ1 (by omega) (hp2.trans (p1.mono (by decide) (by decide)))
              first
                | (rw [bt_ye (f := fun v => sFO (vG V w u (nI v)) (τ0.1 0 1) u it n) c107] at h9; exact h9)
                | (rw [bt_no (f := fun v => sFO (vG V w u (nI v)) (τ0.1 0 1) u it n) c107] at h9; exact h9)
            · refine g_iload B dX5_usersTold_110 rfl ?_
              refine g_iconst (v := (1)) B dX5_usersTold_112 (by decide) ?_
              refine g_iload B dX5_usersTold_113 rfl ?_
              refine g_ishl B dX5_usersTold_115 ?_
              refine g_ior B dX5_usersTold_116 ?_
              refine g_istore B dX5_usersTold_117 (by decide) rfl ?_
              refine g_iinc (c9 := (1)) B dX5_usersTold_119 rfl (by decide) (by decide) rfl ?_
              refine g_goto (tgt := 29) B dX5_usersTold_122 (by decide) ?_
              rw [nI_1 i]
              have h9 := ih (k - 1) (by omega) (i + 1) τ1 (by omega) (hp2.trans (p1.mono (by decide) (by decide)))
              first
                | (rw [bt_ye (f := fun v => sFO (vG V w u (nI v)) (τ0.1 0 1) u it n) c107] at h9; exact h9)
                | (rw [bt_no (f := fun v => sFO (vG V w u (nI v)) (τ0.1 0 1) u it n) c107] at h9; exact h9)
set_option maxRecDepth 100000 in
set_option maxHeartbeats 4000000 in
theorem x_ut {Z : LZ} {ad : Nat → Nat} {τ : St} {K : Int32 → St → Prop} {u s n m w : Nat} {V : VW} {it : Nat → Int32} (hs : s < 4) (hn : n ≤ 30) (hr : RW τ s n it) (hu : u < m) (hX : XV τ 1 V m) (hw : w = 1 ∨ w = 2 ∨ w = 3) (hK : ∀ τ', pkz [2, 3, 12] [] τ τ' → K (btF (fun v => sFO (vG V w u (nI v)) (τ.1 0 1) u it n) (manyG w)) τ') : CC lyX Z ad yX5_usersTold wsX5_usersTold (rmk 4) [.ref (ad 0), .ref (ad (s + 44)), .ref (ad (u + 20)), .int (nI w)] τ (rI K) := by
  refine CC.of (cc := cX5_usersTold) (nL := 7) (ret := (some .int)) rfl rfl ⟨rfl, rfl⟩ (by exact Nat.le_of_ble_eq_true rfl) ?_
  intro X B
  change GG _ _ _ _ X _ 0 [some (.ref (ad 0)), some (.ref (ad (s + 44))), some (.ref (ad (u + 20))), some (.int (nI w)), none, none, none] [] _
  change Amb _ _ _ _ X _ _ RX5 _ _ at B
  refine g_iload_n B dX5_usersTold_0 rfl ?_
  refine g_iconst (v := (1)) B dX5_usersTold_1 (by decide) ?_
  refine g_icmp_ne (tgt := 10) B dX5_usersTold_2 (by decide) (fun c2 => ?_) (fun c2 => ?_)
  · refine g_iload_n B dX5_usersTold_10 rfl ?_
    refine g_iconst (v := (2)) B dX5_usersTold_11 (by decide) ?_
    refine g_icmp_ne (tgt := 20) B dX5_usersTold_12 (by decide) (fun c12 => ?_) (fun c12 => ?_)
    · refine g_iconst (v := (2)) B dX5_usersTold_20 (by decide) ?_
      refine g_istore B dX5_usersTold_21 (by decide) rfl ?_
      refine g_iconst (v := (0)) B dX5_usersTold_23 (by decide) ?_
      refine g_istore B dX5_usersTold_24 (by decide) rfl ?_
      refine g_iconst (v := (0)) B dX5_usersTold_26 (by decide) ?_
      refine g_istore B dX5_usersTold_27 (by decide) rfl ?_
      have ni : ∀ q : Nat, q < 10 → (nI w = nI q ↔ w = q) := fun q hq => ⟨fun e => nI_inj2 (by omega) (by omega) e, fun e => by rw [e]⟩
      have n1 := ni 1 (by omega)
      have n2 := ni 2 (by omega)
      first
        | (have e : manyG w = 6 := if_pos (n1.mp c2)
           have h9 := lx_ut B hs hn hr hu hX hw hK (manyG w) 0 τ (by omega) pkz.rf
           rw [e] at h9
           exact h9)
        | (have e : manyG w = 10 := by
             unfold manyG
             rw [if_neg (fun q => c2 (n1.mpr q)), if_pos (n2.mp c12)]
           have h9 := lx_ut B hs hn hr hu hX hw hK (manyG w) 0 τ (by omega) pkz.rf
           rw [e] at h9
           exact h9)
        | (have e : manyG w = 2 := by
             unfold manyG
             rw [if_neg (fun q => c2 (n1.mpr q)), if_neg (fun q => c12 (n2.mpr q))]
           have h9 := lx_ut B hs hn hr hu hX hw hK (manyG w) 0 τ (by omega) pkz.rf
           rw [e] at h9
           exact h9)
    · refine g_bipush (v := (10)) B dX5_usersTold_15 (by decide) ?_
      refine g_goto (tgt := 21) B dX5_usersTold_17 (by decide) ?_
      refine g_istore B dX5_usersTold_21 (by decide) rfl ?_
      refine g_iconst (v := (0)) B dX5_usersTold_23 (by decide) ?_
      refine g_istore B dX5_usersTold_24 (by decide) rfl ?_
      refine g_iconst (v := (0)) B dX5_usersTold_26 (by decide) ?_
      refine g_istore B dX5_usersTold_27 (by decide) rfl ?_
      have ni : ∀ q : Nat, q < 10 → (nI w = nI q ↔ w = q) := fun q hq => ⟨fun e => nI_inj2 (by omega) (by omega) e, fun e => by rw [e]⟩
      have n1 := ni 1 (by omega)
      have n2 := ni 2 (by omega)
      first
        | (have e : manyG w = 6 := if_pos (n1.mp c2)
           have h9 := lx_ut B hs hn hr hu hX hw hK (manyG w) 0 τ (by omega) pkz.rf
           rw [e] at h9
           exact h9)
        | (have e : manyG w = 10 := by
             unfold manyG
             rw [if_neg (fun q => c2 (n1.mpr q)), if_pos (n2.mp c12)]
           have h9 := lx_ut B hs hn hr hu hX hw hK (manyG w) 0 τ (by omega) pkz.rf
           rw [e] at h9
           exact h9)
        | (have e : manyG w = 2 := by
             unfold manyG
             rw [if_neg (fun q => c2 (n1.mpr q)), if_neg (fun q => c12 (n2.mpr q))]
           have h9 := lx_ut B hs hn hr hu hX hw hK (manyG w) 0 τ (by omega) pkz.rf
           rw [e] at h9
           exact h9)
  · refine g_bipush (v := (6)) B dX5_usersTold_5 (by decide) ?_
    refine g_goto (tgt := 21) B dX5_usersTold_7 (by decide) ?_
    refine g_istore B dX5_usersTold_21 (by decide) rfl ?_
    refine g_iconst (v := (0)) B dX5_usersTold_23 (by decide) ?_
    refine g_istore B dX5_usersTold_24 (by decide) rfl ?_
    refine g_iconst (v := (0)) B dX5_usersTold_26 (by decide) ?_
    refine g_istore B dX5_usersTold_27 (by decide) rfl ?_
    have ni : ∀ q : Nat, q < 10 → (nI w = nI q ↔ w = q) := fun q hq => ⟨fun e => nI_inj2 (by omega) (by omega) e, fun e => by rw [e]⟩
    have n1 := ni 1 (by omega)
    have n2 := ni 2 (by omega)
    first
      | (have e : manyG w = 6 := if_pos (n1.mp c2)
         have h9 := lx_ut B hs hn hr hu hX hw hK (manyG w) 0 τ (by omega) pkz.rf
         rw [e] at h9
         exact h9)
      | (have e : manyG w = 10 := by
           unfold manyG
           rw [if_neg (fun q => c2 (n1.mpr q)), if_pos (n2.mp c12)]
         have h9 := lx_ut B hs hn hr hu hX hw hK (manyG w) 0 τ (by omega) pkz.rf
         rw [e] at h9
         exact h9)
      | (have e : manyG w = 2 := by
           unfold manyG
           rw [if_neg (fun q => c2 (n1.mpr q)), if_neg (fun q => c12 (n2.mpr q))]
         have h9 := lx_ut B hs hn hr hu hX hw hK (manyG w) 0 τ (by omega) pkz.rf
         rw [e] at h9
         exact h9)

