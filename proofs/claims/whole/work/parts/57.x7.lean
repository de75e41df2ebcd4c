/-! the program: mean, heaviest, cut, change, forTown *program* -/
theorem pln_abs {x : Int32} : (if 0 ≤ x then x else 0 - x) = pln x := by
  unfold pln
  by_cases h : x < 0
  · rw [if_pos h, if_neg (Int32.not_le.mpr h), Int32.zero_sub]
  · rw [if_neg h, if_pos (Int32.not_lt.mp h)]
theorem gI_nz : ∀ (k P Q : Nat), Q < k → Q ≤ 30 → P ≤ 6300 → ¬ (P = 0 ∧ Q = 0) → ¬ gI k (nI P) (nI Q) = 0
  | 0, _, _, h, _, _, _ => absurd h (Nat.not_lt_zero _)
  | k + 1, P, Q, h1, h2, h3, h4 => by
    unfold gI
    split
    · next h =>
      have hQ : Q = 0 := by
        rcases Nat.eq_zero_or_pos Q with e | e
        · exact e
        · exact absurd h (nI_ne0 e (by omega))
      exact nI_ne0 (by omega) (by omega)
    · next h =>
      have hQ : 0 < Q := by
        rcases Nat.eq_zero_or_pos Q with e | e
        · rw [e] at h; exact absurd rfl h
        · exact e
      rw [pk_rem (a := P) (d := Q) (by omega) hQ (by omega)]
      have := Nat.mod_lt P hQ
      exact gI_nz k Q (P % Q) (by omega) (by omega) (by omega) (by omega)
set_option maxRecDepth 100000 in
set_option maxHeartbeats 4000000 in
theorem lx_div {ly : Lay} {Z : LZ} {ad : Nat → Nat} {X : CX} {K : Int32 → St → Prop} {τ : St} (B : Amb ly Z ad (rmk 0) X cX5_divisorOf wsX5_divisorOf RX5 4 (some .int)) : ∀ (k i P Q : Nat), k + i = 40 → Q < k → Q ≤ 30 → P ≤ 6300 → K (gI k (nI P) (nI Q)) τ → GG ly Z ad (rmk 0) X (rI K) 2 [some (.int (nI P)), some (.int (nI Q)), some (.int (nI i)), none] [] τ := by
  intro k
  induction k with
  | zero => intro i P Q _ h; omega
  | succ k ih =>
    intro i P Q h0 h1 h2 h3 hK
    unfold gI at hK
    refine g_iload_n B dX5_divisorOf_2 rfl ?_
    refine g_bipush (v := (100)) B dX5_divisorOf_3 (by decide) ?_
    refine g_icmp_ge (tgt := 26) B dX5_divisorOf_5 (by decide) (fun c5 => ?_) (fun c5 => ?_)
    · exact absurd (i_le.mp c5) (by rw [i_n (by omega), show (100 : Int32).toInt = 100 from rfl]; omega)
    · refine g_iload_n B dX5_divisorOf_8 rfl ?_
      refine g_if_eq (tgt := 26) B dX5_divisorOf_9 (by decide) (fun c9 => ?_) (fun c9 => ?_)
      · refine g_iload_n B dX5_divisorOf_26 rfl ?_
        refine g_ireti B dX5_divisorOf_27 ?_
        rw [if_pos c9] at hK
        exact hK
      · have hQ : 0 < Q := by
          rcases Nat.eq_zero_or_pos Q with e | e
          · rw [e] at c9; exact absurd rfl c9
          · exact e
        rw [if_neg c9] at hK
        rw [pk_rem (a := P) (d := Q) (by omega) hQ (by omega)] at hK
        refine g_iload_n B dX5_divisorOf_12 rfl ?_
        refine g_iload_n B dX5_divisorOf_13 rfl ?_
        refine g_irem B dX5_divisorOf_14 (by exact c9) ?_
        rw [pk_rem (a := P) (d := Q) (by omega) hQ (by omega)]
        refine g_istore_n B dX5_divisorOf_15 (by decide) rfl ?_
        refine g_iload_n B dX5_divisorOf_16 rfl ?_
        refine g_istore_n B dX5_divisorOf_17 (by decide) rfl ?_
        refine g_iload_n B dX5_divisorOf_18 rfl ?_
        refine g_istore_n B dX5_divisorOf_19 (by decide) rfl ?_
        refine g_iinc (c9 := (1)) B dX5_divisorOf_20 rfl (by decide) (by decide) rfl ?_
        refine g_goto (tgt := 2) B dX5_divisorOf_23 (by decide) ?_
        rw [nI_1 i]
        refine g_drop 3 ?_
        have := Nat.mod_lt P hQ
        exact ih (i + 1) Q (P % Q) (by omega) (by omega) (by omega) (by omega) hK
set_option maxRecDepth 100000 in
set_option maxHeartbeats 4000000 in
theorem x_div {ly : Lay} {Z : LZ} {ad : Nat → Nat} {τ : St} {K : Int32 → St → Prop} {p q : Int32} {P Q : Nat} (hp : p = nI P) (hq : q = nI Q) (h2 : Q ≤ 30) (h3 : P ≤ 6300) (hK : K (gI 40 (nI P) (nI Q)) τ) : CC ly Z ad yX5_divisorOf wsX5_divisorOf (rmk 0) [.int p, .int q] τ (rI K) := by
  refine CC.of (cc := cX5_divisorOf) (nL := 4) (ret := (some .int)) rfl rfl ⟨rfl, rfl⟩ (by exact Nat.le_of_ble_eq_true rfl) ?_
  intro X B
  change GG _ _ _ _ X _ 0 [some (.int p), some (.int q), none, none] [] _
  change Amb _ _ _ _ X _ _ RX5 _ _ at B
  subst hp hq
  refine g_iconst (v := (0)) B dX5_divisorOf_0 (by decide) ?_
  refine g_istore_n B dX5_divisorOf_1 (by decide) rfl ?_
  exact lx_div B 40 0 P Q rfl (by omega) h2 h3 hK
set_option maxRecDepth 100000 in
set_option maxHeartbeats 4000000 in
theorem x_low {ly : Lay} {Z : LZ} {ad : Nat → Nat} {τ : St} {K : Int64 → St → Prop} {ab be part : Int32} {P Q : Nat} (hp : pln ab = nI P) (hq : be = nI Q) (h0 : 0 < Q) (h2 : Q ≤ 30) (h3 : P ≤ 6300) (hK : K (if part = 0 then (ab / gI 40 (nI P) (nI Q)).toInt64 else (nI Q / gI 40 (nI P) (nI Q)).toInt64) τ) : CC ly Z ad yX5_lowest wsX5_lowest (rmk 1) [.int ab, .int be, .int part] τ (rL K) := by
  refine CC.of (cc := cX5_lowest) (nL := 4) (ret := (some .long)) rfl rfl ⟨rfl, rfl⟩ (by exact Nat.le_of_ble_eq_true rfl) ?_
  intro X B
  change GG _ _ _ _ X _ 0 [some (.int ab), some (.int be), some (.int part), none] [] _
  change Amb _ _ _ _ X _ _ RX5 _ _ at B
  subst hq
  have hz := gI_nz 40 P Q (by omega) h2 h3 (by omega)
  refine g_iload_n B dX5_lowest_0 rfl ?_
  refine g_mabs B dX5_lowest_1 ⟨mq m_X5_210.1, mq m_X5_210.2.1, mq m_X5_210.2.2.1, mq m_X5_210.2.2.2⟩ (by exact ⟨Nat.le_of_ble_eq_true rfl, Nat.le_of_ble_eq_true rfl⟩) ?_
  rw [pln_abs, hp]
  refine g_iload_n B dX5_lowest_4 rfl ?_
  refine g_callSi (As := [.int _, .int _]) B dX5_lowest_5 (gc1 g_X5_213) (by rfl) hd_X5_divisorOf (by exact ⟨Nat.le_of_ble_eq_true rfl, Nat.le_of_ble_eq_true rfl⟩) ⟨rfl, rfl⟩ rfl rfl (by exact Nat.le_of_ble_eq_true rfl) (x_div rfl rfl h2 h3 ?_)
  refine g_istore_n B dX5_lowest_8 (by decide) rfl ?_
  refine g_iload_n B dX5_lowest_9 rfl ?_
  refine g_if_ne (tgt := 17) B dX5_lowest_10 (by decide) (fun c10 => ?_) (fun c10 => ?_)
  · refine g_iload_n B dX5_lowest_17 rfl ?_
    refine g_if_ne (tgt := 28) B dX5_lowest_18 (by decide) (fun c18 => ?_) (fun c18 => ?_)
    · refine g_iload_n B dX5_lowest_28 rfl ?_
      refine g_iload_n B dX5_lowest_29 rfl ?_
      refine g_idiv B dX5_lowest_30 (by exact hz) ?_
      refine g_i2l B dX5_lowest_31 rfl ?_
      refine g_lreti B dX5_lowest_32 ?_
      first
        | (rw [if_pos c18] at hK; exact hK)
        | (rw [if_neg c18] at hK; exact hK)
    · refine g_iload_n B dX5_lowest_21 rfl ?_
      refine g_iload_n B dX5_lowest_22 rfl ?_
      refine g_idiv B dX5_lowest_23 (by exact hz) ?_
      refine g_i2l B dX5_lowest_24 rfl ?_
      refine g_goto (tgt := 32) B dX5_lowest_25 (by decide) ?_
      refine g_lreti B dX5_lowest_32 ?_
      first
        | (rw [if_pos c18] at hK; exact hK)
        | (rw [if_neg c18] at hK; exact hK)
  · exact absurd c10 hz
set_option maxRecDepth 100000 in
set_option maxHeartbeats 4000000 in
theorem x_mean {Z : LZ} {ad : Nat → Nat} {τ : St} {K : Int64 → St → Prop} {x y : Int32} {m : Nat} {V : VW} (hX : XV τ 1 V m) (hv : VOK V m) (hK : ∀ τ', pkz [2, 3] [] τ τ' → K (fMean V m (τ.1 0 1) x y) τ') : CC lyX Z ad yX5_mean wsX5_mean (rmk 5) [.ref (ad 0), .int x, .int y] τ (rL K) := by
  refine CC.of (cc := cX5_mean) (nL := 3) (ret := (some .long)) rfl rfl ⟨rfl, rfl⟩ (by exact Nat.le_of_ble_eq_true rfl) ?_
  intro X B
  change GG _ _ _ _ X _ 0 [some (.ref (ad 0)), some (.int x), some (.int y)] [] _
  change Amb _ _ _ _ X _ _ RX5 _ _ at B
  have hm6 := hX.2.2.2.1.1
  unfold fMean at hK
  refine g_aload_n B dX5_mean_0 rfl ?_
  refine g_iload_n B dX5_mean_1 rfl ?_
  refine g_callVi (C := RX5) (As := [.int _]) B dX5_mean_2 (gc1 g_X5_105) (by rfl) ⟨rfl, hd_X5_isUser⟩ (by exact ⟨Nat.le_of_ble_eq_true rfl, Nat.le_of_ble_eq_true rfl⟩) ⟨rfl, rfl⟩ rfl rfl (by exact Nat.le_of_ble_eq_true rfl) recv5 (x_isUser hm6 hX.hm ?_)
  refine g_if_eq (tgt := 17) B dX5_mean_5 (by decide) (fun c5 => ?_) (fun c5 => ?_)
  · refine g_ldc2 (v := (-4611686018427387904)) B dX5_mean_17 (mq k_X5_175) ?_
    refine g_lreti B dX5_mean_20 ?_
    first
      | exact hK τ1 p1
      | (refine kk (Eq.symm (if_neg (fun h => ?_))) (hK τ pkz.rf)
         first
         | exact absurd h.1 (b1_0.mp c5)
         | exact absurd (i_lt.mp c9) (by have := h.2.1; rw [i0]; omega)
         | exact absurd (i_lt.mp (Int32.not_le.mp c14)) (by have := h.2.2; rw [i1]; omega))
  · refine g_iload_n B dX5_mean_8 rfl ?_
    refine g_if_lt (tgt := 17) B dX5_mean_9 (by decide) (fun c9 => ?_) (fun c9 => ?_)
    · refine g_ldc2 (v := (-4611686018427387904)) B dX5_mean_17 (mq k_X5_175) ?_
      refine g_lreti B dX5_mean_20 ?_
      first
        | exact hK τ1 p1
        | (refine kk (Eq.symm (if_neg (fun h => ?_))) (hK τ pkz.rf)
           first
           | exact absurd h.1 (b1_0.mp c5)
           | exact absurd (i_lt.mp c9) (by have := h.2.1; rw [i0]; omega)
           | exact absurd (i_lt.mp (Int32.not_le.mp c14)) (by have := h.2.2; rw [i1]; omega))
    · refine g_iload_n B dX5_mean_12 rfl ?_
      refine g_iconst (v := (1)) B dX5_mean_13 (by decide) ?_
      refine g_icmp_le (tgt := 21) B dX5_mean_14 (by decide) (fun c14 => ?_) (fun c14 => ?_)
      · have h1 := b1_n0.mp c5
        have h2 := And.intro (i_le.mp (Int32.not_lt.mp c9)) (i_le.mp (show y ≤ 1 from c14))
        rw [if_pos ⟨h1, h2⟩] at hK
        obtain ⟨u, hu, rfl⟩ := i_nat h1.1 h1.2
        rw [i_cl (by omega)] at hK
        have hU : UO (u + 20) := UO.u (by omega)
        obtain ⟨P, hP, eP⟩ := pln_nat (haV_bd (sh := τ.1 0 1) hv hu)
        rw [eP, show (30 : Int32) = nI 30 from rfl] at hK
        refine g_aload_n B dX5_mean_21 rfl ?_
        refine g_aload_n B dX5_mean_22 rfl ?_
        refine g_getR (T := TX5) (N := 16) B dX5_mean_23 (by decide) (by rfl) (inq inlX5) rfl 2 (by decide) (mq f_X5_19) (by rfl) ?_
        refine g_iload_n B dX5_mean_26 rfl ?_
        refine g_aald B dX5_mean_27 (by decide) (by rfl) (by exact vp_in_nI (by omega) (by omega)) ?_
        rw [i_cl (show u < 2147483648 by omega)]
        refine g_aload_n B dX5_mean_28 rfl ?_
        refine g_getR (T := TX5) (N := 16) B dX5_mean_29 (by decide) (by rfl) (inq inlX5) rfl 0 (by decide) (mq f_X5_9) (by rfl) ?_
        refine g_aload_n B dX5_mean_32 rfl ?_
        refine g_getI (T := TX5) (N := 16) B dX5_mean_33 (by decide) (by rfl) (inq inlX5) rfl 1 (by decide) (mq f_X5_13) (by rfl) ?_
        refine g_callVi (C := RX5) (As := [.ref _, .ref _, .int _]) B dX5_mean_36 (gc1 g_X5_177) (by rfl) ⟨rfl, hd_X5_sumOf⟩ (by exact ⟨Nat.le_of_ble_eq_true rfl, Nat.le_of_ble_eq_true rfl⟩) ⟨rfl, rfl⟩ rfl rfl (by exact Nat.le_of_ble_eq_true rfl) recv5 (x_sumOf hU hX.1 hX.2.1 hX.2.2.1 (hX.2.2.2.2 u hu) (fun τ1 p1 => ?_))
        refine g_bipush (v := (30)) B dX5_mean_39 (by decide) ?_
        refine g_iload_n B dX5_mean_41 rfl ?_
        refine g_callSl (As := [.int _, .int _, .int _]) B dX5_mean_42 (gc1 g_X5_181) (by rfl) hd_X5_lowest (by exact ⟨Nat.le_of_ble_eq_true rfl, Nat.le_of_ble_eq_true rfl⟩) ⟨rfl, rfl⟩ rfl rfl (by exact Nat.le_of_ble_eq_true rfl) (x_low (Q := 30) eP rfl (by omega) (by omega) hP ?_)
        refine g_lreti B dX5_mean_45 ?_
        first
          | exact hK τ1 p1
          | (refine kk (Eq.symm (if_neg (fun h => ?_))) (hK τ pkz.rf)
             first
             | exact absurd h.1 (b1_0.mp c5)
             | exact absurd (i_lt.mp c9) (by have := h.2.1; rw [i0]; omega)
             | exact absurd (i_lt.mp (Int32.not_le.mp c14)) (by have := h.2.2; rw [i1]; omega))
      · refine g_ldc2 (v := (-4611686018427387904)) B dX5_mean_17 (mq k_X5_175) ?_
        refine g_lreti B dX5_mean_20 ?_
        first
          | exact hK τ1 p1
          | (refine kk (Eq.symm (if_neg (fun h => ?_))) (hK τ pkz.rf)
             first
             | exact absurd h.1 (b1_0.mp c5)
             | exact absurd (i_lt.mp c9) (by have := h.2.1; rw [i0]; omega)
             | exact absurd (i_lt.mp (Int32.not_le.mp c14)) (by have := h.2.2; rw [i1]; omega))
set_option maxRecDepth 100000 in
set_option maxHeartbeats 4000000 in
theorem lx_heavy {Z : LZ} {ad : Nat → Nat} {X : CX} {K : Int32 → St → Prop} {τ0 : St} {what : Int32} {m : Nat} {V : VW} (B : Amb lyX Z ad (rmk 5) X cX5_heaviest wsX5_heaviest RX5 6 (some .int)) (hX : XV τ0 1 V m) (hK : ∀ τ', pkz [2, 3] [] τ0 τ' → K (if what = 0 then (hvF (haV V (τ0.1 0 1)) m).1 else (hvF (haV V (τ0.1 0 1)) m).2) τ') : ∀ (k i : Nat) (τ : St), i ≤ m → m - i < k → pkz [2, 3] [] τ0 τ → GG lyX Z ad (rmk 5) X (rI K) 19 [some (.ref (ad 0)), some (.int what), some (.int (hvF (haV V (τ0.1 0 1)) i).1), some (.int (hvF (haV V (τ0.1 0 1)) i).2), some (.int (nI i)), none] [] τ := by
  intro k
  induction k with
  | zero => intro i τ _ h; omega
  | succ k ih =>
    intro i τ h1 h2 hp
    have hX' := hX.pz hp okC23 (by decide) (by decide)
    have hm6 := hX.2.2.2.1.1
    have hm := hX'.hm
    have hs : τ.1 0 1 = τ0.1 0 1 := hp.2.1 1 (by decide)
    have hci : (nI i).toNatClampNeg = i := i_cl (by omega)
    refine g_iload B dX5_heaviest_19 rfl ?_
    refine g_aload_n B dX5_heaviest_21 rfl ?_
    refine g_getI (T := TX5) (N := 16) B dX5_heaviest_22 (by decide) (by rfl) (inq inlX5) rfl 3 (by decide) (mq f_X5_23) (by rfl) ?_
    rw [hm]
    refine g_icmp_ge (tgt := 85) B dX5_heaviest_25 (by decide) (fun c25 => ?_) (fun c25 => ?_)
    · refine g_iload_n B dX5_heaviest_85 rfl ?_
      refine g_if_ne (tgt := 93) B dX5_heaviest_86 (by decide) (fun c86 => ?_) (fun c86 => ?_)
      · refine g_iload_n B dX5_heaviest_93 rfl ?_
        refine g_ireti B dX5_heaviest_94 ?_
        rw [nI_leI (by omega) (by omega)] at c25
        have e : i = m := by omega
        subst e
        have h9 := hK τ hp
        first
          | (rw [if_pos c86] at h9; exact h9)
          | (rw [if_neg c86] at h9; exact h9)
      · refine g_iload_n B dX5_heaviest_89 rfl ?_
        refine g_goto (tgt := 94) B dX5_heaviest_90 (by decide) ?_
        refine g_ireti B dX5_heaviest_94 ?_
        rw [nI_leI (by omega) (by omega)] at c25
        have e : i = m := by omega
        subst e
        have h9 := hK τ hp
        first
          | (rw [if_pos c86] at h9; exact h9)
          | (rw [if_neg c86] at h9; exact h9)
    · rw [nI_leI (by omega) (by omega)] at c25
      have hU : UO (i + 20) := UO.u (by omega)
      refine g_iload B dX5_heaviest_28 rfl ?_
      refine g_bipush (v := (6)) B dX5_heaviest_30 (by decide) ?_
      refine g_icmp_ge (tgt := 85) B dX5_heaviest_32 (by decide) (fun c32 => ?_) (fun c32 => ?_)
      · exact absurd (i_le.mp c32) (by rw [i_n (by omega), i6]; omega)
      · refine g_aload_n B dX5_heaviest_35 rfl ?_
        refine g_aload_n B dX5_heaviest_36 rfl ?_
        refine g_getR (T := TX5) (N := 16) B dX5_heaviest_37 (by decide) (by rfl) (inq inlX5) rfl 2 (by decide) (mq f_X5_19) (by rfl) ?_
        refine g_iload B dX5_heaviest_40 rfl ?_
        refine g_aald B dX5_heaviest_42 (by decide) (by rfl) (by exact vp_in_nI (by omega) (by omega)) ?_
        rw [hci]
        refine g_aload_n B dX5_heaviest_43 rfl ?_
        refine g_getR (T := TX5) (N := 16) B dX5_heaviest_44 (by decide) (by rfl) (inq inlX5) rfl 0 (by decide) (mq f_X5_9) (by rfl) ?_
        refine g_aload_n B dX5_heaviest_47 rfl ?_
        refine g_getI (T := TX5) (N := 16) B dX5_heaviest_48 (by decide) (by rfl) (inq inlX5) rfl 1 (by decide) (mq f_X5_13) (by rfl) ?_
        rw [hs]
        refine g_callVi (C := RX5) (As := [.ref _, .ref _, .int _]) B dX5_heaviest_51 (gc1 g_X5_177) (by rfl) ⟨rfl, hd_X5_sumOf⟩ (by exact ⟨Nat.le_of_ble_eq_true rfl, Nat.le_of_ble_eq_true rfl⟩) ⟨rfl, rfl⟩ rfl rfl (by exact Nat.le_of_ble_eq_true rfl) recv5 (x_sumOf hU hX'.1 hX'.2.1 hX'.2.2.1 (hX'.2.2.2.2 i (by omega)) (fun τ1 p1 => ?_))
        refine g_istore B dX5_heaviest_54 (by decide) rfl ?_
        refine g_iload_n B dX5_heaviest_56 rfl ?_
        refine g_iconst (v := (-1)) B dX5_heaviest_57 (by decide) ?_
        refine g_icmp_eq (tgt := 73) B dX5_heaviest_58 (by decide) (fun c58 => ?_) (fun c58 => ?_)
        · refine g_iload B dX5_heaviest_73 rfl ?_
          refine g_istore_n B dX5_heaviest_75 (by decide) rfl ?_
          refine g_iload B dX5_heaviest_76 rfl ?_
          refine g_istore_n B dX5_heaviest_78 (by decide) rfl ?_
          refine g_iinc (c9 := (1)) B dX5_heaviest_79 rfl (by decide) (by decide) rfl ?_
          refine g_goto (tgt := 19) B dX5_heaviest_82 (by decide) ?_
          rw [nI_1 i]
          refine g_drop 5 ?_
          have h9 := ih (i + 1) τ1 (by omega) (by omega) (hp.trans p1)
          unfold hvF at h9
          first
            | (rw [if_pos (Or.inl c58)] at h9; exact h9)
            | (rw [if_pos (Or.inr c70)] at h9; exact h9)
            | (rw [if_neg (fun z => z.elim c58 (fun z => z c70))] at h9; exact h9)
        · refine g_iload B dX5_heaviest_61 rfl ?_
          refine g_mabs B dX5_heaviest_63 ⟨mq m_X5_210.1, mq m_X5_210.2.1, mq m_X5_210.2.2.1, mq m_X5_210.2.2.2⟩ (by exact ⟨Nat.le_of_ble_eq_true rfl, Nat.le_of_ble_eq_true rfl⟩) ?_
          rw [pln_abs]
          refine g_iload_n B dX5_heaviest_66 rfl ?_
          refine g_mabs B dX5_heaviest_67 ⟨mq m_X5_210.1, mq m_X5_210.2.1, mq m_X5_210.2.2.1, mq m_X5_210.2.2.2⟩ (by exact ⟨Nat.le_of_ble_eq_true rfl, Nat.le_of_ble_eq_true rfl⟩) ?_
          rw [pln_abs]
          refine g_icmp_le (tgt := 79) B dX5_heaviest_70 (by decide) (fun c70 => ?_) (fun c70 => ?_)
          · refine g_iinc (c9 := (1)) B dX5_heaviest_79 rfl (by decide) (by decide) rfl ?_
            refine g_goto (tgt := 19) B dX5_heaviest_82 (by decide) ?_
            rw [nI_1 i]
            refine g_drop 5 ?_
            have h9 := ih (i + 1) τ1 (by omega) (by omega) (hp.trans p1)
            unfold hvF at h9
            first
              | (rw [if_pos (Or.inl c58)] at h9; exact h9)
              | (rw [if_pos (Or.inr c70)] at h9; exact h9)
              | (rw [if_neg (fun z => z.elim c58 (fun z => z c70))] at h9; exact h9)
          · refine g_iload B dX5_heaviest_73 rfl ?_
            refine g_istore_n B dX5_heaviest_75 (by decide) rfl ?_
            refine g_iload B dX5_heaviest_76 rfl ?_
            refine g_istore_n B dX5_heaviest_78 (by decide) rfl ?_
            refine g_iinc (c9 := (1)) B dX5_heaviest_79 rfl (by decide) (by decide) rfl ?_
            refine g_goto (tgt := 19) B dX5_heaviest_82 (by decide) ?_
            rw [nI_1 i]
            refine g_drop 5 ?_
            have h9 := ih (i + 1) τ1 (by omega) (by omega) (hp.trans p1)
            unfold hvF at h9
            first
              | (rw [if_pos (Or.inl c58)] at h9; exact h9)
              | (rw [if_pos (Or.inr c70)] at h9; exact h9)
              | (rw [if_neg (fun z => z.elim c58 (fun z => z c70))] at h9; exact h9)
theorem w01 {x : Int32} (h1 : ¬ x < 0) (h2 : x ≤ 1) : 0 ≤ x.toInt ∧ x.toInt ≤ 1 := ⟨i_le.mp (Int32.not_lt.mp h1), i_le.mp h2⟩
theorem w01n1 {x : Int32} (h1 : x < 0) : ¬ (0 ≤ x.toInt ∧ x.toInt ≤ 1) := fun h => by
  have := i_lt.mp h1
  rw [i0] at this
  omega
theorem w01n2 {x : Int32} (h1 : ¬ x ≤ 1) : ¬ (0 ≤ x.toInt ∧ x.toInt ≤ 1) := fun h => h1 (i_le.mpr h.2)
set_option maxRecDepth 100000 in
set_option maxHeartbeats 4000000 in
theorem x_heaviest {Z : LZ} {ad : Nat → Nat} {τ : St} {K : Int32 → St → Prop} {x : Int32} {m : Nat} {V : VW} (hX : XV τ 1 V m) (hK : ∀ τ', pkz [2, 3] [] τ τ' → K (fHeavy V (τ.1 0 1) x) τ') : CC lyX Z ad yX5_heaviest wsX5_heaviest (rmk 5) [.ref (ad 0), .int x] τ (rI K) := by
  refine CC.of (cc := cX5_heaviest) (nL := 6) (ret := (some .int)) rfl rfl ⟨rfl, rfl⟩ (by exact Nat.le_of_ble_eq_true rfl) ?_
  intro X B
  change GG _ _ _ _ X _ 0 [some (.ref (ad 0)), some (.int x), none, none, none, none] [] _
  change Amb _ _ _ _ X _ _ RX5 _ _ at B
  have hm6 := hX.2.2.2.1.1
  unfold fHeavy at hK
  refine g_iload_n B dX5_heaviest_0 rfl ?_
  refine g_if_lt (tgt := 9) B dX5_heaviest_1 (by decide) (fun c1 => ?_) (fun c1 => ?_)
  · refine g_ldc (v := (-1000000)) B dX5_heaviest_9 (mq k_X5_158) ?_
    refine g_ireti B dX5_heaviest_11 ?_
    first
      | exact kk (if_neg (w01n1 c1)).symm (hK τ pkz.rf)
      | exact kk (if_neg (w01n2 c6)).symm (hK τ pkz.rf)
  · refine g_iload_n B dX5_heaviest_4 rfl ?_
    refine g_iconst (v := (1)) B dX5_heaviest_5 (by decide) ?_
    refine g_icmp_le (tgt := 12) B dX5_heaviest_6 (by decide) (fun c6 => ?_) (fun c6 => ?_)
    · refine g_iconst (v := (-1)) B dX5_heaviest_12 (by decide) ?_
      refine g_istore_n B dX5_heaviest_13 (by decide) rfl ?_
      refine g_iconst (v := (0)) B dX5_heaviest_14 (by decide) ?_
      refine g_istore_n B dX5_heaviest_15 (by decide) rfl ?_
      refine g_iconst (v := (0)) B dX5_heaviest_16 (by decide) ?_
      refine g_istore B dX5_heaviest_17 (by decide) rfl ?_
      rw [if_pos (w01 c1 c6), hX.2.2.2.1.2, i_cl (by omega)] at hK
      exact lx_heavy B hX hK 40 0 τ (by omega) (by omega) pkz.rf
    · refine g_ldc (v := (-1000000)) B dX5_heaviest_9 (mq k_X5_158) ?_
      refine g_ireti B dX5_heaviest_11 ?_
      first
        | exact kk (if_neg (w01n1 c1)).symm (hK τ pkz.rf)
        | exact kk (if_neg (w01n2 c6)).symm (hK τ pkz.rf)
set_option maxRecDepth 100000 in
set_option maxHeartbeats 4000000 in
theorem x_cutShare {ly : Lay} {Z : LZ} {ad : Nat → Nat} {τ : St} {K : Int32 → St → Prop} {x y : Int32} {n f : Nat} (hx : x = nI n) (hy : y = nI f) (hK : K (cutS n f) τ) : CC ly Z ad yX5_cutShare wsX5_cutShare (rmk 0) [.int x, .int y] τ (rI K) := by
  refine CC.of (cc := cX5_cutShare) (nL := 3) (ret := (some .int)) rfl rfl ⟨rfl, rfl⟩ (by exact Nat.le_of_ble_eq_true rfl) ?_
  intro X B
  change GG _ _ _ _ X _ 0 [some (.int x), some (.int y), none] [] _
  change Amb _ _ _ _ X _ _ RX5 _ _ at B
  subst hx hy
  unfold cutS at hK
  refine g_iconst (v := (1)) B dX5_cutShare_0 (by decide) ?_
  refine g_iload_n B dX5_cutShare_1 rfl ?_
  refine g_ishl B dX5_cutShare_2 ?_
  refine g_iconst (v := (1)) B dX5_cutShare_3 (by decide) ?_
  refine g_isub B dX5_cutShare_4 ?_
  refine g_istore_n B dX5_cutShare_5 (by decide) rfl ?_
  refine g_iload_n B dX5_cutShare_6 rfl ?_
  refine g_iconst (v := (1)) B dX5_cutShare_7 (by decide) ?_
  refine g_icmp_ne (tgt := 15) B dX5_cutShare_8 (by decide) (fun c8 => ?_) (fun c8 => ?_)
  · refine g_ldc (v := (1073741823)) B dX5_cutShare_15 (mq k_X5_97) ?_
    refine g_iload_n B dX5_cutShare_17 rfl ?_
    refine g_iconst (v := (-1)) B dX5_cutShare_18 (by decide) ?_
    refine g_ixor B dX5_cutShare_19 ?_
    refine g_iand B dX5_cutShare_20 ?_
    refine g_ireti B dX5_cutShare_21 ?_
    first
      | (rw [if_pos c8] at hK; exact hK)
      | (rw [if_neg c8] at hK; exact hK)
  · refine g_iload_n B dX5_cutShare_11 rfl ?_
    refine g_goto (tgt := 21) B dX5_cutShare_12 (by decide) ?_
    refine g_ireti B dX5_cutShare_21 ?_
    first
      | (rw [if_pos c8] at hK; exact hK)
      | (rw [if_neg c8] at hK; exact hK)
set_option maxRecDepth 100000 in
set_option maxHeartbeats 4000000 in
theorem x_apart {Z : LZ} {ad : Nat → Nat} {τ : St} {K : Int32 → St → Prop} {sh : Int32} {m : Nat} {V : VW} (hX : XV τ 1 V m) (hK : ∀ τ', pkz [2, 3] [] τ τ' → K (pln (woV V sh 0 - woV V sh 1)) τ') : CC lyX Z ad yX5_apartBy wsX5_apartBy (rmk 5) [.ref (ad 0), .int sh] τ (rI K) := by
  refine CC.of (cc := cX5_apartBy) (nL := 2) (ret := (some .int)) rfl rfl ⟨rfl, rfl⟩ (by exact Nat.le_of_ble_eq_true rfl) ?_
  intro X B
  change GG _ _ _ _ X _ 0 [some (.ref (ad 0)), some (.int sh)] [] _
  change Amb _ _ _ _ X _ _ RX5 _ _ at B
  refine g_aload_n B dX5_apartBy_0 rfl ?_
  refine g_iconst (v := (0)) B dX5_apartBy_1 (by decide) ?_
  refine g_aload_n B dX5_apartBy_2 rfl ?_
  refine g_getR (T := TX5) (N := 16) B dX5_apartBy_3 (by decide) (by rfl) (inq inlX5) rfl 0 (by decide) (mq f_X5_9) (by rfl) ?_
  refine g_iload_n B dX5_apartBy_6 rfl ?_
  refine g_callVi (C := RX5) (As := [.int _, .ref _, .int _]) B dX5_apartBy_7 (gc1 g_X5_159) (by rfl) ⟨rfl, hd_X5_worthOf⟩ (by exact ⟨Nat.le_of_ble_eq_true rfl, Nat.le_of_ble_eq_true rfl⟩) ⟨rfl, rfl⟩ rfl rfl (by exact Nat.le_of_ble_eq_true rfl) recv5 (x_worthOf hX (fun τ1 p1 => ?_))
  refine g_aload_n B dX5_apartBy_10 rfl ?_
  refine g_iconst (v := (1)) B dX5_apartBy_11 (by decide) ?_
  refine g_aload_n B dX5_apartBy_12 rfl ?_
  refine g_getR (T := TX5) (N := 16) B dX5_apartBy_13 (by decide) (by rfl) (inq inlX5) rfl 0 (by decide) (mq f_X5_9) (by rfl) ?_
  refine g_iload_n B dX5_apartBy_16 rfl ?_
  refine g_callVi (C := RX5) (As := [.int _, .ref _, .int _]) B dX5_apartBy_17 (gc1 g_X5_159) (by rfl) ⟨rfl, hd_X5_worthOf⟩ (by exact ⟨Nat.le_of_ble_eq_true rfl, Nat.le_of_ble_eq_true rfl⟩) ⟨rfl, rfl⟩ rfl rfl (by exact Nat.le_of_ble_eq_true rfl) recv5 (x_worthOf (hX.pz p1 okC23 (by decide) (by decide)) (fun τ2 p2 => ?_))
  refine g_isub B dX5_apartBy_20 ?_
  refine g_mabs B dX5_apartBy_21 ⟨mq m_X5_210.1, mq m_X5_210.2.1, mq m_X5_210.2.2.1, mq m_X5_210.2.2.2⟩ (by exact ⟨Nat.le_of_ble_eq_true rfl, Nat.le_of_ble_eq_true rfl⟩) ?_
  refine g_ireti B dX5_apartBy_24 ?_
  exact kk pln_abs (hK τ2 (p1.trans p2))
set_option maxRecDepth 100000 in
set_option maxHeartbeats 4000000 in
theorem lx_cut1 {Z : LZ} {ad : Nat → Nat} {X : CX} {K : Option Value → St → Prop} {τ0 : St} {what : Int32} {m n : Nat} {V : VW} (B : Amb lyX Z ad (rmk 6) X cX5_cut wsX5_cut RX5 7 (some .int)) (hX : XV τ0 1 V m) (hn : n ≤ 30) (hK : ∀ τ', pkz [2, 3] [] τ0 τ' → GG lyX Z ad (rmk 6) X K 77 [some (.ref (ad 0)), some (.int what), some (.int (cutF V (2 * n + 2)).1), some (.int (cutF V (2 * n + 2)).2), some (.int (nI n)), none, none] [] τ') : ∀ (k f : Nat) (τ : St), f ≤ 2 → 2 - f < k → pkz [2, 3] [] τ0 τ → GG lyX Z ad (rmk 6) X K 29 [some (.ref (ad 0)), some (.int what), some (.int (cutF V (2 * n + f)).1), some (.int (cutF V (2 * n + f)).2), some (.int (nI n)), some (.int (nI f)), none] [] τ := by
  intro k
  induction k with
  | zero => intro f τ _ h; omega
  | succ k ih =>
    intro f τ h1 h2 hp
    have hX' := hX.pz hp okC23 (by decide) (by decide)
    refine g_iload B dX5_cut_29 rfl ?_
    refine g_iconst (v := (2)) B dX5_cut_31 (by decide) ?_
    refine g_icmp_ge (tgt := 77) B dX5_cut_32 (by decide) (fun c32 => ?_) (fun c32 => ?_)
    · rw [show (2 : Int32) = nI 2 from rfl, nI_leI (by omega) (by omega)] at c32
      have e : f = 2 := by omega
      subst e
      refine g_drop 5 (g_drop 6 ?_)
      exact hK τ hp
    · rw [show (2 : Int32) = nI 2 from rfl, nI_leI (by omega) (by omega)] at c32
      have e1 : (2 * n + f) / 2 = n := by omega
      have e2 : (2 * n + f) % 2 = f := by omega
      refine g_aload_n B dX5_cut_35 rfl ?_
      refine g_iload B dX5_cut_36 rfl ?_
      refine g_iload B dX5_cut_38 rfl ?_
      refine g_callSi (As := [.int _, .int _]) B dX5_cut_40 (gc1 g_X5_219) (by rfl) hd_X5_cutShare (by exact ⟨Nat.le_of_ble_eq_true rfl, Nat.le_of_ble_eq_true rfl⟩) ⟨rfl, rfl⟩ rfl rfl (by exact Nat.le_of_ble_eq_true rfl) (x_cutShare rfl rfl ?_)
      refine g_callVi (C := RX5) (As := [.int _]) B dX5_cut_43 (gc1 g_X5_222) (by rfl) ⟨rfl, hd_X5_apartBy⟩ (by exact ⟨Nat.le_of_ble_eq_true rfl, Nat.le_of_ble_eq_true rfl⟩) ⟨rfl, rfl⟩ rfl rfl (by exact Nat.le_of_ble_eq_true rfl) recv5 (x_apart hX' (fun τ1 p1 => ?_))
      have hv : cutV V (2 * n + f) = pln (woV V (cutS n f) 0 - woV V (cutS n f) 1) := by unfold cutV; rw [e1, e2]
      rw [← hv]
      refine g_istore B dX5_cut_46 (by decide) rfl ?_
      refine g_iload_n B dX5_cut_48 rfl ?_
      refine g_iconst (v := (-1)) B dX5_cut_49 (by decide) ?_
      refine g_icmp_eq (tgt := 59) B dX5_cut_50 (by decide) (fun c50 => ?_) (fun c50 => ?_)
      · refine g_iload B dX5_cut_59 rfl ?_
        refine g_istore_n B dX5_cut_61 (by decide) rfl ?_
        refine g_bipush (v := (10)) B dX5_cut_62 (by decide) ?_
        refine g_iload B dX5_cut_64 rfl ?_
        refine g_imul B dX5_cut_66 ?_
        rw [show (10 : Int32) * nI n = nI (10 * n) from pk_mul 10 _]
        refine g_iload B dX5_cut_67 rfl ?_
        refine g_iadd B dX5_cut_69 ?_
        rw [show nI (10 * n) + nI f = nI (10 * n + f) from nI_add _ _]
        refine g_istore_n B dX5_cut_70 (by decide) rfl ?_
        refine g_iinc (c9 := (1)) B dX5_cut_71 rfl (by decide) (by decide) rfl ?_
        refine g_goto (tgt := 29) B dX5_cut_74 (by decide) ?_
        rw [nI_1 f]
        refine g_drop 6 ?_
        have h9 := ih (f + 1) τ1 (by omega) (by omega) (hp.trans p1)
        rw [show 2 * n + (f + 1) = 2 * n + f + 1 by omega] at h9
        unfold cutF at h9
        rw [e1, e2] at h9
        first
          | (rw [if_pos (Or.inl c50)] at h9; exact h9)
          | (rw [if_pos (Or.inr c56)] at h9; exact h9)
          | (rw [if_neg (fun z => z.elim c50 (fun z => z c56))] at h9; exact h9)
      · refine g_iload B dX5_cut_53 rfl ?_
        refine g_iload_n B dX5_cut_55 rfl ?_
        refine g_icmp_ge (tgt := 71) B dX5_cut_56 (by decide) (fun c56 => ?_) (fun c56 => ?_)
        · refine g_iinc (c9 := (1)) B dX5_cut_71 rfl (by decide) (by decide) rfl ?_
          refine g_goto (tgt := 29) B dX5_cut_74 (by decide) ?_
          rw [nI_1 f]
          refine g_drop 6 ?_
          have h9 := ih (f + 1) τ1 (by omega) (by omega) (hp.trans p1)
          rw [show 2 * n + (f + 1) = 2 * n + f + 1 by omega] at h9
          unfold cutF at h9
          rw [e1, e2] at h9
          first
            | (rw [if_pos (Or.inl c50)] at h9; exact h9)
            | (rw [if_pos (Or.inr c56)] at h9; exact h9)
            | (rw [if_neg (fun z => z.elim c50 (fun z => z c56))] at h9; exact h9)
        · refine g_iload B dX5_cut_59 rfl ?_
          refine g_istore_n B dX5_cut_61 (by decide) rfl ?_
          refine g_bipush (v := (10)) B dX5_cut_62 (by decide) ?_
          refine g_iload B dX5_cut_64 rfl ?_
          refine g_imul B dX5_cut_66 ?_
          rw [show (10 : Int32) * nI n = nI (10 * n) from pk_mul 10 _]
          refine g_iload B dX5_cut_67 rfl ?_
          refine g_iadd B dX5_cut_69 ?_
          rw [show nI (10 * n) + nI f = nI (10 * n + f) from nI_add _ _]
          refine g_istore_n B dX5_cut_70 (by decide) rfl ?_
          refine g_iinc (c9 := (1)) B dX5_cut_71 rfl (by decide) (by decide) rfl ?_
          refine g_goto (tgt := 29) B dX5_cut_74 (by decide) ?_
          rw [nI_1 f]
          refine g_drop 6 ?_
          have h9 := ih (f + 1) τ1 (by omega) (by omega) (hp.trans p1)
          rw [show 2 * n + (f + 1) = 2 * n + f + 1 by omega] at h9
          unfold cutF at h9
          rw [e1, e2] at h9
          first
            | (rw [if_pos (Or.inl c50)] at h9; exact h9)
            | (rw [if_pos (Or.inr c56)] at h9; exact h9)
            | (rw [if_neg (fun z => z.elim c50 (fun z => z c56))] at h9; exact h9)
set_option maxRecDepth 100000 in
set_option maxHeartbeats 4000000 in
theorem lx_cut {Z : LZ} {ad : Nat → Nat} {X : CX} {K : Int32 → St → Prop} {τ0 : St} {what : Int32} {m : Nat} {V : VW} (B : Amb lyX Z ad (rmk 6) X cX5_cut wsX5_cut RX5 7 (some .int)) (hX : XV τ0 1 V m) (hK : ∀ τ', pkz [2, 3] [] τ0 τ' → K (if what = 0 then (cutF V 62).1 else (cutF V 62).2) τ') : ∀ (k n : Nat) (τ : St), n ≤ 31 → 31 - n < k → pkz [2, 3] [] τ0 τ → GG lyX Z ad (rmk 6) X (rI K) 19 [some (.ref (ad 0)), some (.int what), some (.int (cutF V (2 * n)).1), some (.int (cutF V (2 * n)).2), some (.int (nI n)), none, none] [] τ := by
  intro k
  induction k with
  | zero => intro n τ _ h; omega
  | succ k ih =>
    intro n τ h1 h2 hp
    have hX' := hX.pz hp okC23 (by decide) (by decide)
    refine g_iload B dX5_cut_19 rfl ?_
    refine g_bipush (v := (30)) B dX5_cut_21 (by decide) ?_
    refine g_icmp_gt (tgt := 83) B dX5_cut_23 (by decide) (fun c23 => ?_) (fun c23 => ?_)
    · refine g_iload_n B dX5_cut_83 rfl ?_
      refine g_if_ne (tgt := 91) B dX5_cut_84 (by decide) (fun c84 => ?_) (fun c84 => ?_)
      · refine g_iload_n B dX5_cut_91 rfl ?_
        refine g_ireti B dX5_cut_92 ?_
        have e : n = 31 := by
          rw [i_lt, i_n (by omega), i30] at c23
          omega
        subst e
        have h9 := hK τ hp
        first
          | (rw [if_pos c84] at h9; exact h9)
          | (rw [if_neg c84] at h9; exact h9)
      · refine g_iload_n B dX5_cut_87 rfl ?_
        refine g_goto (tgt := 92) B dX5_cut_88 (by decide) ?_
        refine g_ireti B dX5_cut_92 ?_
        have e : n = 31 := by
          rw [i_lt, i_n (by omega), i30] at c23
          omega
        subst e
        have h9 := hK τ hp
        first
          | (rw [if_pos c84] at h9; exact h9)
          | (rw [if_neg c84] at h9; exact h9)
    · have h3 : n ≤ 30 := by
        have := Int32.not_lt.mp c23
        rw [i_le, i_n (by omega), i30] at this
        omega
      refine g_iconst (v := (0)) B dX5_cut_26 (by decide) ?_
      refine g_istore B dX5_cut_27 (by decide) rfl ?_
      refine lx_cut1 B hX' h3 (fun τ1 p1 => ?_) 5 0 τ (by omega) (by omega) pkz.rf
      have p2 := hp.trans p1
      refine g_iinc (c9 := (1)) B dX5_cut_77 rfl (by decide) (by decide) rfl ?_
      refine g_goto (tgt := 19) B dX5_cut_80 (by decide) ?_
      rw [nI_1 n]
      exact ih (n + 1) τ1 (by omega) (by omega) p2
set_option maxRecDepth 100000 in
set_option maxHeartbeats 4000000 in
theorem x_cut {Z : LZ} {ad : Nat → Nat} {τ : St} {K : Int32 → St → Prop} {x : Int32} {m : Nat} {V : VW} (hX : XV τ 1 V m) (hK : ∀ τ', pkz [2, 3] [] τ τ' → K (fCut V x) τ') : CC lyX Z ad yX5_cut wsX5_cut (rmk 6) [.ref (ad 0), .int x] τ (rI K) := by
  refine CC.of (cc := cX5_cut) (nL := 7) (ret := (some .int)) rfl rfl ⟨rfl, rfl⟩ (by exact Nat.le_of_ble_eq_true rfl) ?_
  intro X B
  change GG _ _ _ _ X _ 0 [some (.ref (ad 0)), some (.int x), none, none, none, none, none] [] _
  change Amb _ _ _ _ X _ _ RX5 _ _ at B
  unfold fCut at hK
  refine g_iload_n B dX5_cut_0 rfl ?_
  refine g_if_lt (tgt := 9) B dX5_cut_1 (by decide) (fun c1 => ?_) (fun c1 => ?_)
  · refine g_bipush (v := (-2)) B dX5_cut_9 (by decide) ?_
    refine g_ireti B dX5_cut_11 ?_
    first
      | exact kk (if_neg (w01n1 c1)).symm (hK τ pkz.rf)
      | exact kk (if_neg (w01n2 c6)).symm (hK τ pkz.rf)
  · refine g_iload_n B dX5_cut_4 rfl ?_
    refine g_iconst (v := (1)) B dX5_cut_5 (by decide) ?_
    refine g_icmp_le (tgt := 12) B dX5_cut_6 (by decide) (fun c6 => ?_) (fun c6 => ?_)
    · refine g_iconst (v := (-1)) B dX5_cut_12 (by decide) ?_
      refine g_istore_n B dX5_cut_13 (by decide) rfl ?_
      refine g_iconst (v := (0)) B dX5_cut_14 (by decide) ?_
      refine g_istore_n B dX5_cut_15 (by decide) rfl ?_
      refine g_iconst (v := (0)) B dX5_cut_16 (by decide) ?_
      refine g_istore B dX5_cut_17 (by decide) rfl ?_
      rw [if_pos (w01 c1 c6)] at hK
      exact lx_cut B hX hK 40 0 τ (by omega) (by omega) pkz.rf
    · refine g_bipush (v := (-2)) B dX5_cut_9 (by decide) ?_
      refine g_ireti B dX5_cut_11 ?_
      first
        | exact kk (if_neg (w01n1 c1)).symm (hK τ pkz.rf)
        | exact kk (if_neg (w01n2 c6)).symm (hK τ pkz.rf)
def flX (sh x : Int32) : Int32 := if isNt x then flS sh x.toNatClampNeg else sh
set_option maxRecDepth 100000 in
set_option maxHeartbeats 4000000 in
theorem x_flipped {Z : LZ} {ad : Nat → Nat} {τ : St} {K : Int32 → St → Prop} {x : Int32} (hK : K (flX (τ.1 0 1) x) τ) : CC lyX Z ad yX5_flipped wsX5_flipped (rmk 1) [.ref (ad 0), .int x] τ (rI K) := by
  refine CC.of (cc := cX5_flipped) (nL := 2) (ret := (some .int)) rfl rfl ⟨rfl, rfl⟩ (by exact Nat.le_of_ble_eq_true rfl) ?_
  intro X B
  change GG _ _ _ _ X _ 0 [some (.ref (ad 0)), some (.int x)] [] _
  change Amb _ _ _ _ X _ _ RX5 _ _ at B
  unfold flX at hK
  refine g_iload_n B dX5_flipped_0 rfl ?_
  refine g_callSi (As := [.int _]) B dX5_flipped_1 (gc1 g_X5_98) (by rfl) hd_X5_isNight (by exact ⟨Nat.le_of_ble_eq_true rfl, Nat.le_of_ble_eq_true rfl⟩) ⟨rfl, rfl⟩ rfl rfl (by exact Nat.le_of_ble_eq_true rfl) (x_isNight ?_)
  refine g_if_eq (tgt := 18) B dX5_flipped_4 (by decide) (fun c4 => ?_) (fun c4 => ?_)
  · rw [if_neg (b1_0.mp c4)] at hK
    refine g_aload_n B dX5_flipped_18 rfl ?_
    refine g_getI (T := TX5) (N := 16) B dX5_flipped_19 (by decide) (by rfl) (inq inlX5) rfl 1 (by decide) (mq f_X5_13) (by rfl) ?_
    refine g_ireti B dX5_flipped_22 ?_
    exact hK
  · have h1 := b1_n0.mp c4
    rw [if_pos h1] at hK
    obtain ⟨t, ht, rfl⟩ := i_nat (n := 30) h1.1 (by omega)
    rw [i_cl (by omega)] at hK
    refine g_aload_n B dX5_flipped_7 rfl ?_
    refine g_getI (T := TX5) (N := 16) B dX5_flipped_8 (by decide) (by rfl) (inq inlX5) rfl 1 (by decide) (mq f_X5_13) (by rfl) ?_
    refine g_iconst (v := (1)) B dX5_flipped_11 (by decide) ?_
    refine g_iload_n B dX5_flipped_12 rfl ?_
    refine g_ishl B dX5_flipped_13 ?_
    refine g_ixor B dX5_flipped_14 ?_
    refine g_goto (tgt := 22) B dX5_flipped_15 (by decide) ?_
    refine g_ireti B dX5_flipped_22 ?_
    exact hK
theorem flX_t {sh : Int32} {t : Nat} (ht : t < 30) : flX sh (nI t) = flS sh t := by
  unfold flX
  rw [if_pos (by show 0 ≤ (nI t).toInt ∧ _; rw [i_n (by omega)]; omega), i_cl (by omega)]
theorem chF_val {V : VW} {sh w : Int32} : ∀ n, n ≤ 30 → woV V (flX sh (chF V sh w n).1) w = (chF V sh w n).2
  | 0, _ => rfl
  | n + 1, h => by
    unfold chF
    split
    · rw [flX_t (by omega)]
    · exact chF_val n (by omega)
set_option maxRecDepth 100000 in
set_option maxHeartbeats 4000000 in
theorem lx_flip {Z : LZ} {ad : Nat → Nat} {X : CX} {K : Int32 → St → Prop} {τ0 : St} {w : Int32} {m : Nat} {V : VW} (B : Amb lyX Z ad (rmk 5) X cX5_findFlip wsX5_findFlip RX5 6 (some .int)) (hX : XV τ0 1 V m) (hK : ∀ τ', pkz [2, 3] [] τ0 τ' → K (chF V (τ0.1 0 1) w 30).1 τ') : ∀ (k i : Nat) (τ : St), i ≤ 30 → 30 - i < k → pkz [2, 3] [] τ0 τ → GG lyX Z ad (rmk 5) X (rI K) 19 [some (.ref (ad 0)), some (.int w), some (.int (chF V (τ0.1 0 1) w i).1), some (.int (chF V (τ0.1 0 1) w i).2), some (.int (nI i)), none] [] τ := by
  intro k
  induction k with
  | zero => intro i τ _ h; omega
  | succ k ih =>
    intro i τ h1 h2 hp
    have hX' := hX.pz hp okC23 (by decide) (by decide)
    have hs : τ.1 0 1 = τ0.1 0 1 := hp.2.1 1 (by decide)
    refine g_iload B dX5_findFlip_19 rfl ?_
    refine g_bipush (v := (30)) B dX5_findFlip_21 (by decide) ?_
    refine g_icmp_ge (tgt := 61) B dX5_findFlip_23 (by decide) (fun c23 => ?_) (fun c23 => ?_)
    · refine g_iload_n B dX5_findFlip_61 rfl ?_
      refine g_ireti B dX5_findFlip_62 ?_
      rw [show (30 : Int32) = nI 30 from rfl, nI_leI (by omega) (by omega)] at c23
      have e : i = 30 := by omega
      subst e
      exact hK τ hp
    · rw [show (30 : Int32) = nI 30 from rfl, nI_leI (by omega) (by omega)] at c23
      refine g_aload_n B dX5_findFlip_26 rfl ?_
      refine g_iload_n B dX5_findFlip_27 rfl ?_
      refine g_aload_n B dX5_findFlip_28 rfl ?_
      refine g_getR (T := TX5) (N := 16) B dX5_findFlip_29 (by decide) (by rfl) (inq inlX5) rfl 0 (by decide) (mq f_X5_9) (by rfl) ?_
      refine g_aload_n B dX5_findFlip_32 rfl ?_
      refine g_iload B dX5_findFlip_33 rfl ?_
      refine g_callVi (C := RX5) (As := [.int _]) B dX5_findFlip_35 (gc1 g_X5_228) (by rfl) ⟨rfl, hd_X5_flipped⟩ (by exact ⟨Nat.le_of_ble_eq_true rfl, Nat.le_of_ble_eq_true rfl⟩) ⟨rfl, rfl⟩ rfl rfl (by exact Nat.le_of_ble_eq_true rfl) recv5 (x_flipped ?_)
      rw [hs, flX_t (by omega)]
      refine g_callVi (C := RX5) (As := [.int _, .ref _, .int _]) B dX5_findFlip_38 (gc1 g_X5_159) (by rfl) ⟨rfl, hd_X5_worthOf⟩ (by exact ⟨Nat.le_of_ble_eq_true rfl, Nat.le_of_ble_eq_true rfl⟩) ⟨rfl, rfl⟩ rfl rfl (by exact Nat.le_of_ble_eq_true rfl) recv5 (x_worthOf hX' (fun τ1 p1 => ?_))
      refine g_istore B dX5_findFlip_41 (by decide) rfl ?_
      refine g_iload B dX5_findFlip_43 rfl ?_
      refine g_iload_n B dX5_findFlip_45 rfl ?_
      refine g_icmp_le (tgt := 55) B dX5_findFlip_46 (by decide) (fun c46 => ?_) (fun c46 => ?_)
      · refine g_iinc (c9 := (1)) B dX5_findFlip_55 rfl (by decide) (by decide) rfl ?_
        refine g_goto (tgt := 19) B dX5_findFlip_58 (by decide) ?_
        rw [nI_1 i]
        refine g_drop 5 ?_
        have h9 := ih (i + 1) τ1 (by omega) (by omega) (hp.trans p1)
        unfold chF at h9
        first
          | (rw [if_pos c46] at h9; exact h9)
          | (rw [if_neg (fun z => z c46)] at h9; exact h9)
      · refine g_iload B dX5_findFlip_49 rfl ?_
        refine g_istore_n B dX5_findFlip_51 (by decide) rfl ?_
        refine g_iload B dX5_findFlip_52 rfl ?_
        refine g_istore_n B dX5_findFlip_54 (by decide) rfl ?_
        refine g_iinc (c9 := (1)) B dX5_findFlip_55 rfl (by decide) (by decide) rfl ?_
        refine g_goto (tgt := 19) B dX5_findFlip_58 (by decide) ?_
        rw [nI_1 i]
        refine g_drop 5 ?_
        have h9 := ih (i + 1) τ1 (by omega) (by omega) (hp.trans p1)
        unfold chF at h9
        first
          | (rw [if_pos c46] at h9; exact h9)
          | (rw [if_neg (fun z => z c46)] at h9; exact h9)
set_option maxRecDepth 100000 in
set_option maxHeartbeats 4000000 in
theorem x_flip {Z : LZ} {ad : Nat → Nat} {τ : St} {K : Int32 → St → Prop} {w : Int32} {m : Nat} {V : VW} (hX : XV τ 1 V m) (hK : ∀ τ', pkz [2, 3] [] τ τ' → K (chF V (τ.1 0 1) w 30).1 τ') : CC lyX Z ad yX5_findFlip wsX5_findFlip (rmk 5) [.ref (ad 0), .int w] τ (rI K) := by
  refine CC.of (cc := cX5_findFlip) (nL := 6) (ret := (some .int)) rfl rfl ⟨rfl, rfl⟩ (by exact Nat.le_of_ble_eq_true rfl) ?_
  intro X B
  change GG _ _ _ _ X _ 0 [some (.ref (ad 0)), some (.int w), none, none, none, none] [] _
  change Amb _ _ _ _ X _ _ RX5 _ _ at B
  refine g_iconst (v := (-1)) B dX5_findFlip_0 (by decide) ?_
  refine g_istore_n B dX5_findFlip_1 (by decide) rfl ?_
  refine g_aload_n B dX5_findFlip_2 rfl ?_
  refine g_iload_n B dX5_findFlip_3 rfl ?_
  refine g_aload_n B dX5_findFlip_4 rfl ?_
  refine g_getR (T := TX5) (N := 16) B dX5_findFlip_5 (by decide) (by rfl) (inq inlX5) rfl 0 (by decide) (mq f_X5_9) (by rfl) ?_
  refine g_aload_n B dX5_findFlip_8 rfl ?_
  refine g_getI (T := TX5) (N := 16) B dX5_findFlip_9 (by decide) (by rfl) (inq inlX5) rfl 1 (by decide) (mq f_X5_13) (by rfl) ?_
  refine g_callVi (C := RX5) (As := [.int _, .ref _, .int _]) B dX5_findFlip_12 (gc1 g_X5_159) (by rfl) ⟨rfl, hd_X5_worthOf⟩ (by exact ⟨Nat.le_of_ble_eq_true rfl, Nat.le_of_ble_eq_true rfl⟩) ⟨rfl, rfl⟩ rfl rfl (by exact Nat.le_of_ble_eq_true rfl) recv5 (x_worthOf hX (fun τ1 p1 => ?_))
  refine g_istore_n B dX5_findFlip_15 (by decide) rfl ?_
  refine g_iconst (v := (0)) B dX5_findFlip_16 (by decide) ?_
  refine g_istore B dX5_findFlip_17 (by decide) rfl ?_
  have hs : τ1.1 0 1 = τ.1 0 1 := p1.2.1 1 (by decide)
  have h9 := lx_flip (K := K) B (w := w) (hX.pz p1 okC23 (by decide) (by decide)) (fun τ' p => by rw [hs]; exact hK τ' (p1.trans p)) 40 0 τ1 (by omega) (by omega) pkz.rf
  rw [hs] at h9
  exact h9
set_option maxRecDepth 100000 in
set_option maxHeartbeats 4000000 in
theorem x_change {Z : LZ} {ad : Nat → Nat} {τ : St} {K : Int32 → St → Prop} {x : Int32} {m : Nat} {V : VW} (hX : XV τ 1 V m) (hK : ∀ τ', pkz [2, 3] [] τ τ' → K (fChange V (τ.1 0 1) x) τ') : CC lyX Z ad yX5_change wsX5_change (rmk 6) [.ref (ad 0), .int x] τ (rI K) := by
  refine CC.of (cc := cX5_change) (nL := 3) (ret := (some .int)) rfl rfl ⟨rfl, rfl⟩ (by exact Nat.le_of_ble_eq_true rfl) ?_
  intro X B
  change GG _ _ _ _ X _ 0 [some (.ref (ad 0)), some (.int x), none] [] _
  change Amb _ _ _ _ X _ _ RX5 _ _ at B
  unfold fChange at hK
  refine g_iload_n B dX5_change_0 rfl ?_
  refine g_if_lt (tgt := 9) B dX5_change_1 (by decide) (fun c1 => ?_) (fun c1 => ?_)
  · refine g_ldc (v := (-1000000)) B dX5_change_9 (mq k_X5_158) ?_
    refine g_ireti B dX5_change_11 ?_
    first
      | exact kk (if_neg (w01n1 c1)).symm (hK τ pkz.rf)
      | exact kk (if_neg (w01n2 c6)).symm (hK τ pkz.rf)
  · refine g_iload_n B dX5_change_4 rfl ?_
    refine g_iconst (v := (1)) B dX5_change_5 (by decide) ?_
    refine g_icmp_le (tgt := 12) B dX5_change_6 (by decide) (fun c6 => ?_) (fun c6 => ?_)
    · rw [if_pos (w01 c1 c6)] at hK
      refine g_aload_n B dX5_change_12 rfl ?_
      refine g_iconst (v := (2)) B dX5_change_13 (by decide) ?_
      refine g_callVi (C := RX5) (As := [.int _]) B dX5_change_14 (gc1 g_X5_225) (by rfl) ⟨rfl, hd_X5_findFlip⟩ (by exact ⟨Nat.le_of_ble_eq_true rfl, Nat.le_of_ble_eq_true rfl⟩) ⟨rfl, rfl⟩ rfl rfl (by exact Nat.le_of_ble_eq_true rfl) recv5 (x_flip hX (fun τ1 p1 => ?_))
      refine g_istore_n B dX5_change_17 (by decide) rfl ?_
      refine g_iload_n B dX5_change_18 rfl ?_
      refine g_if_ne (tgt := 26) B dX5_change_19 (by decide) (fun c19 => ?_) (fun c19 => ?_)
      · refine g_aload_n B dX5_change_26 rfl ?_
        refine g_iconst (v := (2)) B dX5_change_27 (by decide) ?_
        refine g_aload_n B dX5_change_28 rfl ?_
        refine g_getR (T := TX5) (N := 16) B dX5_change_29 (by decide) (by rfl) (inq inlX5) rfl 0 (by decide) (mq f_X5_9) (by rfl) ?_
        refine g_aload_n B dX5_change_32 rfl ?_
        refine g_iload_n B dX5_change_33 rfl ?_
        refine g_callVi (C := RX5) (As := [.int _]) B dX5_change_34 (gc1 g_X5_228) (by rfl) ⟨rfl, hd_X5_flipped⟩ (by exact ⟨Nat.le_of_ble_eq_true rfl, Nat.le_of_ble_eq_true rfl⟩) ⟨rfl, rfl⟩ rfl rfl (by exact Nat.le_of_ble_eq_true rfl) recv5 (x_flipped ?_)
        rw [p1.2.1 1 (by decide)]
        refine g_callVi (C := RX5) (As := [.int _, .ref _, .int _]) B dX5_change_37 (gc1 g_X5_159) (by rfl) ⟨rfl, hd_X5_worthOf⟩ (by exact ⟨Nat.le_of_ble_eq_true rfl, Nat.le_of_ble_eq_true rfl⟩) ⟨rfl, rfl⟩ rfl rfl (by exact Nat.le_of_ble_eq_true rfl) recv5 (x_worthOf (hX.pz p1 okC23 (by decide) (by decide)) (fun τ2 p2 => ?_))
        refine g_ireti B dX5_change_40 ?_
        first
          | (have h9 := hK τ1 p1
             rw [if_pos c19] at h9
             exact h9)
          | (have h9 := hK τ2 (p1.trans p2)
             rw [if_neg c19] at h9
             exact kk (chF_val 30 (Nat.le_refl _)) h9)
      · refine g_iload_n B dX5_change_22 rfl ?_
        refine g_goto (tgt := 40) B dX5_change_23 (by decide) ?_
        refine g_ireti B dX5_change_40 ?_
        first
          | (have h9 := hK τ1 p1
             rw [if_pos c19] at h9
             exact h9)
          | (have h9 := hK τ2 (p1.trans p2)
             rw [if_neg c19] at h9
             exact kk (chF_val 30 (Nat.le_refl _)) h9)
    · refine g_ldc (v := (-1000000)) B dX5_change_9 (mq k_X5_158) ?_
      refine g_ireti B dX5_change_11 ?_
      first
        | exact kk (if_neg (w01n1 c1)).symm (hK τ pkz.rf)
        | exact kk (if_neg (w01n2 c6)).symm (hK τ pkz.rf)
set_option maxRecDepth 100000 in
set_option maxHeartbeats 4000000 in
theorem x_forTown {Z : LZ} {ad : Nat → Nat} {τ : St} {K : Int32 → St → Prop} {x y : Int32} {m : Nat} {V : VW} (hX : XV τ 1 V m) (hK : ∀ τ', pkz [2, 3] [] τ τ' → K (fFor V (τ.1 0 1) x y) τ') : CC lyX Z ad yX5_forTown wsX5_forTown (rmk 6) [.ref (ad 0), .int x, .int y] τ (rI K) := by
  refine CC.of (cc := cX5_forTown) (nL := 4) (ret := (some .int)) rfl rfl ⟨rfl, rfl⟩ (by exact Nat.le_of_ble_eq_true rfl) ?_
  intro X B
  change GG _ _ _ _ X _ 0 [some (.ref (ad 0)), some (.int x), some (.int y), none] [] _
  change Amb _ _ _ _ X _ _ RX5 _ _ at B
  unfold fFor at hK
  refine g_iload_n B dX5_forTown_0 rfl ?_
  refine g_callSi (As := [.int _]) B dX5_forTown_1 (gc1 g_X5_111) (by rfl) hd_X5_isTown (by exact ⟨Nat.le_of_ble_eq_true rfl, Nat.le_of_ble_eq_true rfl⟩) ⟨rfl, rfl⟩ rfl rfl (by exact Nat.le_of_ble_eq_true rfl) (x_isTown ?_)
  refine g_if_eq (tgt := 16) B dX5_forTown_4 (by decide) (fun c4 => ?_) (fun c4 => ?_)
  · refine g_ldc (v := (-1000000)) B dX5_forTown_16 (mq k_X5_158) ?_
    refine g_ireti B dX5_forTown_18 ?_
    first
      | exact kk (if_neg (fun h => b1_0.mp c4 h.1)).symm (hK τ pkz.rf)
      | exact kk (if_neg (fun h => w01n1 c8 h.2)).symm (hK τ pkz.rf)
      | exact kk (if_neg (fun h => w01n2 c13 h.2)).symm (hK τ pkz.rf)
  · refine g_iload_n B dX5_forTown_7 rfl ?_
    refine g_if_lt (tgt := 16) B dX5_forTown_8 (by decide) (fun c8 => ?_) (fun c8 => ?_)
    · refine g_ldc (v := (-1000000)) B dX5_forTown_16 (mq k_X5_158) ?_
      refine g_ireti B dX5_forTown_18 ?_
      first
        | exact kk (if_neg (fun h => b1_0.mp c4 h.1)).symm (hK τ pkz.rf)
        | exact kk (if_neg (fun h => w01n1 c8 h.2)).symm (hK τ pkz.rf)
        | exact kk (if_neg (fun h => w01n2 c13 h.2)).symm (hK τ pkz.rf)
    · refine g_iload_n B dX5_forTown_11 rfl ?_
      refine g_iconst (v := (1)) B dX5_forTown_12 (by decide) ?_
      refine g_icmp_le (tgt := 19) B dX5_forTown_13 (by decide) (fun c13 => ?_) (fun c13 => ?_)
      · rw [if_pos ⟨b1_n0.mp c4, w01 c8 c13⟩] at hK
        refine g_aload_n B dX5_forTown_19 rfl ?_
        refine g_iload_n B dX5_forTown_20 rfl ?_
        refine g_callVi (C := RX5) (As := [.int _]) B dX5_forTown_21 (gc1 g_X5_225) (by rfl) ⟨rfl, hd_X5_findFlip⟩ (by exact ⟨Nat.le_of_ble_eq_true rfl, Nat.le_of_ble_eq_true rfl⟩) ⟨rfl, rfl⟩ rfl rfl (by exact Nat.le_of_ble_eq_true rfl) recv5 (x_flip hX (fun τ1 p1 => ?_))
        refine g_istore_n B dX5_forTown_24 (by decide) rfl ?_
        refine g_iload_n B dX5_forTown_25 rfl ?_
        refine g_if_ne (tgt := 33) B dX5_forTown_26 (by decide) (fun c26 => ?_) (fun c26 => ?_)
        · refine g_aload_n B dX5_forTown_33 rfl ?_
          refine g_iload_n B dX5_forTown_34 rfl ?_
          refine g_aload_n B dX5_forTown_35 rfl ?_
          refine g_getR (T := TX5) (N := 16) B dX5_forTown_36 (by decide) (by rfl) (inq inlX5) rfl 0 (by decide) (mq f_X5_9) (by rfl) ?_
          refine g_aload_n B dX5_forTown_39 rfl ?_
          refine g_iload_n B dX5_forTown_40 rfl ?_
          refine g_callVi (C := RX5) (As := [.int _]) B dX5_forTown_41 (gc1 g_X5_228) (by rfl) ⟨rfl, hd_X5_flipped⟩ (by exact ⟨Nat.le_of_ble_eq_true rfl, Nat.le_of_ble_eq_true rfl⟩) ⟨rfl, rfl⟩ rfl rfl (by exact Nat.le_of_ble_eq_true rfl) recv5 (x_flipped ?_)
          rw [p1.2.1 1 (by decide)]
          refine g_callVi (C := RX5) (As := [.int _, .ref _, .int _]) B dX5_forTown_44 (gc1 g_X5_159) (by rfl) ⟨rfl, hd_X5_worthOf⟩ (by exact ⟨Nat.le_of_ble_eq_true rfl, Nat.le_of_ble_eq_true rfl⟩) ⟨rfl, rfl⟩ rfl rfl (by exact Nat.le_of_ble_eq_true rfl) recv5 (x_worthOf (hX.pz p1 okC23 (by decide) (by decide)) (fun τ2 p2 => ?_))
          refine g_ireti B dX5_forTown_47 ?_
          first
            | (have h9 := hK τ1 p1
               rw [if_pos c26] at h9
               exact h9)
            | (have h9 := hK τ2 (p1.trans p2)
               rw [if_neg c26] at h9
               exact kk (chF_val 30 (Nat.le_refl _)) h9)
        · refine g_iload_n B dX5_forTown_29 rfl ?_
          refine g_goto (tgt := 47) B dX5_forTown_30 (by decide) ?_
          refine g_ireti B dX5_forTown_47 ?_
          first
            | (have h9 := hK τ1 p1
               rw [if_pos c26] at h9
               exact h9)
            | (have h9 := hK τ2 (p1.trans p2)
               rw [if_neg c26] at h9
               exact kk (chF_val 30 (Nat.le_refl _)) h9)
      · refine g_ldc (v := (-1000000)) B dX5_forTown_16 (mq k_X5_158) ?_
        refine g_ireti B dX5_forTown_18 ?_
        first
          | exact kk (if_neg (fun h => b1_0.mp c4 h.1)).symm (hK τ pkz.rf)
          | exact kk (if_neg (fun h => w01n1 c8 h.2)).symm (hK τ pkz.rf)
          | exact kk (if_neg (fun h => w01n2 c13 h.2)).symm (hK τ pkz.rf)

