/-! sheets, cells, kinds above, counts *reference* -/
def zrT (τ : St) (s : Nat) : Nat → St
  | 0 => τ
  | i + 1 => upS (zrT τ s i) 15 (40 * s + i) 0
abbrev isSh (x : Int32) : Prop := 0 ≤ x.toInt ∧ x.toInt ≤ 3
abbrev shtP (x y z : Int32) : Prop := isSh x ∧ (-1 ≤ y.toInt ∧ y.toInt ≤ 2) ∧ (y < 0 ∨ z ≤ 40)
def fSheet (x y z : Int32) : Int32 := if shtP x y z then (if ¬ y < 0 ∧ z < 0 then -14 else 1) else -2
def gShe0 (τ : St) (s : Nat) (a y z : Int32) : St := upS (upS (upS τ 12 s a) 13 s y) 14 s z
def gSheet (τ : St) (x y z : Int32) : St := if shtP x y z then (if ¬ y < 0 ∧ z < 0 then τ else if y < 0 then gShe0 τ x.toNatClampNeg 0 y z else zrT (gShe0 τ x.toNatClampNeg 1 y z) x.toNatClampNeg z.toNatClampNeg) else τ
set_option maxRecDepth 100000 in
set_option maxHeartbeats 4000000 in
theorem l_sheetP {Z : LZ} {ad : Nat → Nat} {X : CX} {K : Int32 → St → Prop} {τ : St} {y : Int32} {s n : Nat} (B : Amb lyM Z ad (rmk 2) X cX6_sheet wsX6_sheet RX6 5 (some .int)) (hs : s < 4) (hy : ¬ y < 0) (hn : n ≤ 40) (hK : K 1 (zrT τ s n)) : ∀ (k i : Nat), i + k = n → GG lyM Z ad (rmk 2) X (rI K) 77 [some (.ref (ad 0)), some (.int (nI s)), some (.int y), some (.int (nI n)), some (.int (nI i))] [] (zrT τ s i) := by
  intro k
  induction k using Nat.strongRecOn with
  | ind k ih =>
    intro i h1
    refine g_iload B dX6_sheet_77 rfl ?_
    refine g_iload_n B dX6_sheet_79 rfl ?_
    refine g_icmp_ge (tgt := 106) B dX6_sheet_80 (by decide) (fun c80 => ?_) (fun c80 => ?_)
    · refine g_iconst (v := (1)) B dX6_sheet_106 (by decide) ?_
      refine g_ireti B dX6_sheet_107 ?_
      rw [nI_leI (by omega) (by omega)] at c80
      have e : i = n := by omega
      subst e
      exact hK
    · rw [nI_leI (by omega) (by omega)] at c80
      refine g_iload_n B dX6_sheet_83 rfl ?_
      refine g_if_lt (tgt := 106) B dX6_sheet_84 (by decide) (fun c84 => ?_) (fun c84 => ?_)
      · exact absurd c84 hy
      · refine g_aload_n B dX6_sheet_87 rfl ?_
        refine g_getR (T := TX6) (N := 42) B dX6_sheet_88 (by decide) (by rfl) (inq inlX6) rfl 41 (by decide) (mq f_X6_60) (by rfl) ?_
        refine g_bipush (v := (40)) B dX6_sheet_91 (by decide) ?_
        refine g_iload_n B dX6_sheet_93 rfl ?_
        refine g_imul B dX6_sheet_94 ?_
        rw [show (40 : Int32) * nI s = nI (40 * s) from pk_mul 40 s]
        refine g_iload B dX6_sheet_95 rfl ?_
        refine g_iadd B dX6_sheet_97 ?_
        rw [nI_add]
        refine g_iconst (v := (0)) B dX6_sheet_98 (by decide) ?_
        refine g_iast B dX6_sheet_99 (by decide) (by rfl) (by exact vp_in_nI (n := 40 * s + i) (by omega) (by omega)) ?_
        rw [i_cl (by omega)]
        refine g_iinc (c9 := (1)) B dX6_sheet_100 rfl (by decide) (by decide) rfl ?_
        refine g_goto (tgt := 77) B dX6_sheet_103 (by decide) ?_
        rw [nI_1 i]
        exact ih (k - 1) (by omega) (i + 1) (by omega)
set_option maxRecDepth 100000 in
set_option maxHeartbeats 4000000 in
theorem l_sheetN {Z : LZ} {ad : Nat → Nat} {X : CX} {K : Int32 → St → Prop} {τ : St} {x y z : Int32} (B : Amb lyM Z ad (rmk 2) X cX6_sheet wsX6_sheet RX6 5 (some .int)) (hy : y < 0) (hK : K 1 τ) : GG lyM Z ad (rmk 2) X (rI K) 77 [some (.ref (ad 0)), some (.int x), some (.int y), some (.int z), some (.int 0)] [] τ := by
  refine g_iload B dX6_sheet_77 rfl ?_
  refine g_iload_n B dX6_sheet_79 rfl ?_
  refine g_icmp_ge (tgt := 106) B dX6_sheet_80 (by decide) (fun c80 => ?_) (fun c80 => ?_)
  · refine g_iconst (v := (1)) B dX6_sheet_106 (by decide) ?_
    refine g_ireti B dX6_sheet_107 ?_
    exact hK
  · refine g_iload_n B dX6_sheet_83 rfl ?_
    refine g_if_lt (tgt := 106) B dX6_sheet_84 (by decide) (fun c84 => ?_) (fun c84 => ?_)
    · refine g_iconst (v := (1)) B dX6_sheet_106 (by decide) ?_
      refine g_ireti B dX6_sheet_107 ?_
      exact hK
    · exact absurd hy c84
set_option maxRecDepth 100000 in
set_option maxHeartbeats 4000000 in
theorem c_sheet {Z : LZ} {ad : Nat → Nat} {τ : St} {K : Int32 → St → Prop} {x y z : Int32} (hK : K (fSheet x y z) (gSheet τ x y z)) : CC lyM Z ad yX6_sheet wsX6_sheet (rmk 2) [.ref (ad 0), .int x, .int y, .int z] τ (rI K) := by
  refine CC.of (cc := cX6_sheet) (nL := 5) (ret := (some .int)) rfl rfl ⟨rfl, rfl⟩ (by exact Nat.le_of_ble_eq_true rfl) ?_
  intro X B
  change GG _ _ _ _ X _ 0 [some (.ref (ad 0)), some (.int x), some (.int y), some (.int z), none] [] _
  change Amb _ _ _ _ X _ _ RX6 _ _ at B
  unfold fSheet gSheet at hK
  refine g_iload_n B dX6_sheet_0 rfl ?_
  refine g_callSi (As := [.int _]) B dX6_sheet_1 (gc1 g_X6_391) (by rfl) hd_X6_isSheet (by exact ⟨Nat.le_of_ble_eq_true rfl, Nat.le_of_ble_eq_true rfl⟩) ⟨rfl, rfl⟩ rfl rfl (by exact Nat.le_of_ble_eq_true rfl) (c_isSheet ?_)
  refine g_if_eq (tgt := 31) B dX6_sheet_4 (by decide) (fun c4 => ?_) (fun c4 => ?_)
  · have hno : ¬ shtP x y z := by
      intro q
      first
      | exact b1_0.mp c4 q.1
      | exact b1_0.mp c18 q.2.1
      | exact q.2.2.elim c22 c28
    rw [if_neg hno, if_neg hno] at hK
    refine g_bipush (v := (-2)) B dX6_sheet_31 (by decide) ?_
    refine g_ireti B dX6_sheet_33 ?_
    exact hK
  · refine g_iload_n B dX6_sheet_7 rfl ?_
    refine g_i2l B dX6_sheet_8 rfl ?_
    refine g_ldc2 (v := (-1)) B dX6_sheet_9 (mq k_X6_419) ?_
    refine g_ldc2 (v := (2)) B dX6_sheet_12 (mq k_X6_351) ?_
    refine g_callSi (As := [.long _, .long _, .long _]) B dX6_sheet_15 (gc1 g_X6_73) (by rfl) hd_X6_in (by exact ⟨Nat.le_of_ble_eq_true rfl, Nat.le_of_ble_eq_true rfl⟩) ⟨rfl, rfl⟩ rfl rfl (by exact Nat.le_of_ble_eq_true rfl) (c_in ?_)
    rw [in_a, show (-1 : Int64).toInt = -1 from rfl, show (2 : Int64).toInt = 2 from rfl]
    refine g_if_eq (tgt := 31) B dX6_sheet_18 (by decide) (fun c18 => ?_) (fun c18 => ?_)
    · have hno : ¬ shtP x y z := by
        intro q
        first
        | exact b1_0.mp c4 q.1
        | exact b1_0.mp c18 q.2.1
        | exact q.2.2.elim c22 c28
      rw [if_neg hno, if_neg hno] at hK
      refine g_bipush (v := (-2)) B dX6_sheet_31 (by decide) ?_
      refine g_ireti B dX6_sheet_33 ?_
      exact hK
    · refine g_iload_n B dX6_sheet_21 rfl ?_
      refine g_if_lt (tgt := 34) B dX6_sheet_22 (by decide) (fun c22 => ?_) (fun c22 => ?_)
      · have hyes : shtP x y z := by
          refine ⟨b1_n0.mp c4, b1_n0.mp c18, ?_⟩
          first
          | exact Or.inl c22
          | exact Or.inr c28
        rw [if_pos hyes, if_pos hyes] at hK
        obtain ⟨s, hs, rfl⟩ := i_nat (n := 4) hyes.1.1 (by have := hyes.1.2; omega)
        refine g_iload_n B dX6_sheet_34 rfl ?_
        refine g_if_lt (tgt := 45) B dX6_sheet_35 (by decide) (fun c35 => ?_) (fun c35 => ?_)
        · refine g_aload_n B dX6_sheet_45 rfl ?_
          refine g_getR (T := TX6) (N := 42) B dX6_sheet_46 (by decide) (by rfl) (inq inlX6) rfl 38 (by decide) (mq f_X6_51) (by rfl) ?_
          refine g_iload_n B dX6_sheet_49 rfl ?_
          refine g_iload_n B dX6_sheet_50 rfl ?_
          refine g_if_lt (tgt := 58) B dX6_sheet_51 (by decide) (fun c51 => ?_) (fun c51 => ?_)
          · refine g_iconst (v := (0)) B dX6_sheet_58 (by decide) ?_
            refine g_zast B dX6_sheet_59 (by decide) (by rfl) (by exact vp_in_nI hs (by omega)) ?_
            rw [i_cl (by omega)]
            refine g_aload_n B dX6_sheet_60 rfl ?_
            refine g_getR (T := TX6) (N := 42) B dX6_sheet_61 (by decide) (by rfl) (inq inlX6) rfl 39 (by decide) (mq f_X6_54) (by rfl) ?_
            refine g_iload_n B dX6_sheet_64 rfl ?_
            refine g_iload_n B dX6_sheet_65 rfl ?_
            refine g_iast B dX6_sheet_66 (by decide) (by rfl) (by exact vp_in_nI hs (by omega)) ?_
            rw [i_cl (by omega)]
            refine g_aload_n B dX6_sheet_67 rfl ?_
            refine g_getR (T := TX6) (N := 42) B dX6_sheet_68 (by decide) (by rfl) (inq inlX6) rfl 40 (by decide) (mq f_X6_57) (by rfl) ?_
            refine g_iload_n B dX6_sheet_71 rfl ?_
            refine g_iload_n B dX6_sheet_72 rfl ?_
            refine g_iast B dX6_sheet_73 (by decide) (by rfl) (by exact vp_in_nI hs (by omega)) ?_
            rw [i_cl (by omega)]
            refine g_iconst (v := (0)) B dX6_sheet_74 (by decide) ?_
            refine g_istore B dX6_sheet_75 (by decide) rfl ?_
            first
              | (rw [if_neg (fun q => q.1 c22), if_neg (fun q => q.1 c22), if_pos c22, i_cl (by omega)] at hK
                 exact l_sheetN B c22 hK)
              | (have hz : ¬ z < 0 := fun q => absurd (i_le.mp c39) (by have := i_lt.mp q; omega)
                 rw [if_neg (fun q => hz q.2), if_neg (fun q => hz q.2), if_neg c22, i_cl (by omega)] at hK
                 have hz40 := i_le.mp c28
                 rw [show (40 : Int32).toInt = 40 from rfl] at hz40
                 obtain ⟨n, hn, rfl⟩ := i_nat (x := z) (n := 41) (by rw [i_lt, i0] at hz; omega) (by omega)
                 rw [i_cl (by omega)] at hK
                 exact l_sheetP B hs c22 (by omega) hK n 0 (by omega))
          · exact absurd c22 c51
        · exact absurd c22 c35
      · refine g_iload_n B dX6_sheet_25 rfl ?_
        refine g_bipush (v := (40)) B dX6_sheet_26 (by decide) ?_
        refine g_icmp_le (tgt := 34) B dX6_sheet_28 (by decide) (fun c28 => ?_) (fun c28 => ?_)
        · have hyes : shtP x y z := by
            refine ⟨b1_n0.mp c4, b1_n0.mp c18, ?_⟩
            first
            | exact Or.inl c22
            | exact Or.inr c28
          rw [if_pos hyes, if_pos hyes] at hK
          obtain ⟨s, hs, rfl⟩ := i_nat (n := 4) hyes.1.1 (by have := hyes.1.2; omega)
          refine g_iload_n B dX6_sheet_34 rfl ?_
          refine g_if_lt (tgt := 45) B dX6_sheet_35 (by decide) (fun c35 => ?_) (fun c35 => ?_)
          · exact absurd c35 c22
          · refine g_iload_n B dX6_sheet_38 rfl ?_
            refine g_if_ge (tgt := 45) B dX6_sheet_39 (by decide) (fun c39 => ?_) (fun c39 => ?_)
            · refine g_aload_n B dX6_sheet_45 rfl ?_
              refine g_getR (T := TX6) (N := 42) B dX6_sheet_46 (by decide) (by rfl) (inq inlX6) rfl 38 (by decide) (mq f_X6_51) (by rfl) ?_
              refine g_iload_n B dX6_sheet_49 rfl ?_
              refine g_iload_n B dX6_sheet_50 rfl ?_
              refine g_if_lt (tgt := 58) B dX6_sheet_51 (by decide) (fun c51 => ?_) (fun c51 => ?_)
              · exact absurd c51 c22
              · refine g_iconst (v := (1)) B dX6_sheet_54 (by decide) ?_
                refine g_goto (tgt := 59) B dX6_sheet_55 (by decide) ?_
                refine g_zast B dX6_sheet_59 (by decide) (by rfl) (by exact vp_in_nI hs (by omega)) ?_
                rw [i_cl (by omega)]
                refine g_aload_n B dX6_sheet_60 rfl ?_
                refine g_getR (T := TX6) (N := 42) B dX6_sheet_61 (by decide) (by rfl) (inq inlX6) rfl 39 (by decide) (mq f_X6_54) (by rfl) ?_
                refine g_iload_n B dX6_sheet_64 rfl ?_
                refine g_iload_n B dX6_sheet_65 rfl ?_
                refine g_iast B dX6_sheet_66 (by decide) (by rfl) (by exact vp_in_nI hs (by omega)) ?_
                rw [i_cl (by omega)]
                refine g_aload_n B dX6_sheet_67 rfl ?_
                refine g_getR (T := TX6) (N := 42) B dX6_sheet_68 (by decide) (by rfl) (inq inlX6) rfl 40 (by decide) (mq f_X6_57) (by rfl) ?_
                refine g_iload_n B dX6_sheet_71 rfl ?_
                refine g_iload_n B dX6_sheet_72 rfl ?_
                refine g_iast B dX6_sheet_73 (by decide) (by rfl) (by exact vp_in_nI hs (by omega)) ?_
                rw [i_cl (by omega)]
                refine g_iconst (v := (0)) B dX6_sheet_74 (by decide) ?_
                refine g_istore B dX6_sheet_75 (by decide) rfl ?_
                first
                  | (rw [if_neg (fun q => q.1 c22), if_neg (fun q => q.1 c22), if_pos c22, i_cl (by omega)] at hK
                     exact l_sheetN B c22 hK)
                  | (have hz : ¬ z < 0 := fun q => absurd (i_le.mp c39) (by have := i_lt.mp q; omega)
                     rw [if_neg (fun q => hz q.2), if_neg (fun q => hz q.2), if_neg c22, i_cl (by omega)] at hK
                     have hz40 := i_le.mp c28
                     rw [show (40 : Int32).toInt = 40 from rfl] at hz40
                     obtain ⟨n, hn, rfl⟩ := i_nat (x := z) (n := 41) (by rw [i_lt, i0] at hz; omega) (by omega)
                     rw [i_cl (by omega)] at hK
                     exact l_sheetP B hs c22 (by omega) hK n 0 (by omega))
            · rw [if_pos (And.intro c22 (Int32.not_le.mp c39)), if_pos (And.intro c22 (Int32.not_le.mp c39))] at hK
              refine g_bipush (v := (-14)) B dX6_sheet_42 (by decide) ?_
              refine g_ireti B dX6_sheet_44 ?_
              exact hK
        · have hno : ¬ shtP x y z := by
            intro q
            first
            | exact b1_0.mp c4 q.1
            | exact b1_0.mp c18 q.2.1
            | exact q.2.2.elim c22 c28
          rw [if_neg hno, if_neg hno] at hK
          refine g_bipush (v := (-2)) B dX6_sheet_31 (by decide) ?_
          refine g_ireti B dX6_sheet_33 ?_
          exact hK
def SHO (τ : St) : Prop := ∀ s, s < 4 → ¬ τ.1 12 s = 0 → ∃ n, n ≤ 40 ∧ τ.1 14 s = nI n
def cst (q v : Int32) : Int32 := if q = 0 then v.toInt8.toInt32 else if q = 1 then v.toInt16.toInt32 else v
abbrev inSz (τ : St) (x y : Int32) : Prop := 0 ≤ y.toInt ∧ y.toInt < (τ.1 14 x.toNatClampNeg).toInt
def fCell (τ : St) (x y : Int32) : Int32 := if isSh x then (if τ.1 12 x.toNatClampNeg = 0 then -11 else if inSz τ x y then 1 else -12) else -2
def gCell (τ : St) (x y v : Int32) : St := if isSh x then (if τ.1 12 x.toNatClampNeg = 0 then τ else if inSz τ x y then upS τ 15 (40 * x.toNatClampNeg + y.toNatClampNeg) (cst (τ.1 13 x.toNatClampNeg) v) else τ) else τ
set_option maxRecDepth 100000 in
set_option maxHeartbeats 4000000 in
theorem c_cell {Z : LZ} {ad : Nat → Nat} {τ : St} {K : Int32 → St → Prop} {x y v : Int32} (hS : SHO τ) (hK : K (fCell τ x y) (gCell τ x y v)) : CC lyM Z ad yX6_cell wsX6_cell (rmk 2) [.ref (ad 0), .int x, .int y, .int v] τ (rI K) := by
  refine CC.of (cc := cX6_cell) (nL := 4) (ret := (some .int)) rfl rfl ⟨rfl, rfl⟩ (by exact Nat.le_of_ble_eq_true rfl) ?_
  intro X B
  change GG _ _ _ _ X _ 0 [some (.ref (ad 0)), some (.int x), some (.int y), some (.int v)] [] _
  change Amb _ _ _ _ X _ _ RX6 _ _ at B
  unfold fCell gCell at hK
  refine g_iload_n B dX6_cell_0 rfl ?_
  refine g_callSi (As := [.int _]) B dX6_cell_1 (gc1 g_X6_391) (by rfl) hd_X6_isSheet (by exact ⟨Nat.le_of_ble_eq_true rfl, Nat.le_of_ble_eq_true rfl⟩) ⟨rfl, rfl⟩ rfl rfl (by exact Nat.le_of_ble_eq_true rfl) (c_isSheet ?_)
  refine g_if_ne (tgt := 10) B dX6_cell_4 (by decide) (fun c4 => ?_) (fun c4 => ?_)
  · have hsx := b1_n0.mp c4
    rw [if_pos hsx, if_pos hsx] at hK
    obtain ⟨s, hs, rfl⟩ := i_nat (n := 4) hsx.1 (by have := hsx.2; omega)
    unfold inSz at hK
    rw [i_cl (by omega)] at hK
    refine g_aload_n B dX6_cell_10 rfl ?_
    refine g_getR (T := TX6) (N := 42) B dX6_cell_11 (by decide) (by rfl) (inq inlX6) rfl 38 (by decide) (mq f_X6_51) (by rfl) ?_
    refine g_iload_n B dX6_cell_14 rfl ?_
    refine g_zald B dX6_cell_15 (by decide) (by rfl) (by exact vp_in_nI hs (by omega)) ?_
    rw [i_cl (by omega)]
    refine g_if_ne (tgt := 22) B dX6_cell_16 (by decide) (fun c16 => ?_) (fun c16 => ?_)
    · rw [if_neg c16, if_neg c16] at hK
      obtain ⟨n, hn, hz⟩ := hS s hs c16
      rw [hz, i_n (by omega)] at hK
      refine g_iload_n B dX6_cell_22 rfl ?_
      refine g_i2l B dX6_cell_23 rfl ?_
      refine g_lconst (v := (0)) B dX6_cell_24 (by decide) ?_
      refine g_aload_n B dX6_cell_25 rfl ?_
      refine g_getR (T := TX6) (N := 42) B dX6_cell_26 (by decide) (by rfl) (inq inlX6) rfl 40 (by decide) (mq f_X6_57) (by rfl) ?_
      refine g_iload_n B dX6_cell_29 rfl ?_
      refine g_iald B dX6_cell_30 (by decide) (by rfl) (by exact vp_in_nI hs (by omega)) ?_
      rw [i_cl (by omega), hz]
      refine g_iconst (v := (1)) B dX6_cell_31 (by decide) ?_
      refine g_isub B dX6_cell_32 ?_
      refine g_i2l B dX6_cell_33 rfl ?_
      refine g_callSi (As := [.long _, .long _, .long _]) B dX6_cell_34 (gc1 g_X6_73) (by rfl) hd_X6_in (by exact ⟨Nat.le_of_ble_eq_true rfl, Nat.le_of_ble_eq_true rfl⟩) ⟨rfl, rfl⟩ rfl rfl (by exact Nat.le_of_ble_eq_true rfl) (c_in ?_)
      rw [in_0, i_long, show (nI n - 1).toInt = (n : Int) - 1 from by rw [i_sub] <;> rw [i_n (by omega), i1] <;> omega]
      refine g_if_ne (tgt := 43) B dX6_cell_37 (by decide) (fun c37 => ?_) (fun c37 => ?_)
      · have hyes : 0 ≤ y.toInt ∧ y.toInt < n := ⟨(b1_n0.mp c37).1, by have := (b1_n0.mp c37).2; omega⟩
        rw [if_pos hyes, if_pos hyes] at hK
        obtain ⟨j, hj, rfl⟩ := i_nat hyes.1 hyes.2
        rw [i_cl (by omega)] at hK
        unfold cst at hK
        refine g_aload_n B dX6_cell_43 rfl ?_
        refine g_getR (T := TX6) (N := 42) B dX6_cell_44 (by decide) (by rfl) (inq inlX6) rfl 41 (by decide) (mq f_X6_60) (by rfl) ?_
        refine g_bipush (v := (40)) B dX6_cell_47 (by decide) ?_
        refine g_iload_n B dX6_cell_49 rfl ?_
        refine g_imul B dX6_cell_50 ?_
        rw [show (40 : Int32) * nI s = nI (40 * s) from pk_mul 40 s]
        refine g_iload_n B dX6_cell_51 rfl ?_
        refine g_iadd B dX6_cell_52 ?_
        rw [nI_add]
        refine g_aload_n B dX6_cell_53 rfl ?_
        refine g_getR (T := TX6) (N := 42) B dX6_cell_54 (by decide) (by rfl) (inq inlX6) rfl 39 (by decide) (mq f_X6_54) (by rfl) ?_
        refine g_iload_n B dX6_cell_57 rfl ?_
        refine g_iald B dX6_cell_58 (by decide) (by rfl) (by exact vp_in_nI hs (by omega)) ?_
        rw [i_cl (by omega)]
        refine g_if_ne (tgt := 67) B dX6_cell_59 (by decide) (fun c59 => ?_) (fun c59 => ?_)
        · refine g_aload_n B dX6_cell_67 rfl ?_
          refine g_getR (T := TX6) (N := 42) B dX6_cell_68 (by decide) (by rfl) (inq inlX6) rfl 39 (by decide) (mq f_X6_54) (by rfl) ?_
          refine g_iload_n B dX6_cell_71 rfl ?_
          refine g_iald B dX6_cell_72 (by decide) (by rfl) (by exact vp_in_nI hs (by omega)) ?_
          rw [i_cl (by omega)]
          refine g_iconst (v := (1)) B dX6_cell_73 (by decide) ?_
          refine g_icmp_ne (tgt := 82) B dX6_cell_74 (by decide) (fun c74 => ?_) (fun c74 => ?_)
          · refine g_iload_n B dX6_cell_82 rfl ?_
            refine g_iast B dX6_cell_83 (by decide) (by rfl) (by exact vp_in_nI (n := 40 * s + j) (by omega) (by omega)) ?_
            rw [i_cl (by omega)]
            refine g_iconst (v := (1)) B dX6_cell_84 (by decide) ?_
            refine g_ireti B dX6_cell_85 ?_
            first
              | exact hK
              | (rw [if_pos c59] at hK; exact hK)
              | (rw [if_neg c59, if_pos c74] at hK; exact hK)
              | (rw [if_neg c59, if_neg c74] at hK; exact hK)
          · refine g_iload_n B dX6_cell_77 rfl ?_
            refine g_i2s B dX6_cell_78 rfl ?_
            refine g_goto (tgt := 83) B dX6_cell_79 (by decide) ?_
            refine g_iast B dX6_cell_83 (by decide) (by rfl) (by exact vp_in_nI (n := 40 * s + j) (by omega) (by omega)) ?_
            rw [i_cl (by omega)]
            refine g_iconst (v := (1)) B dX6_cell_84 (by decide) ?_
            refine g_ireti B dX6_cell_85 ?_
            first
              | exact hK
              | (rw [if_pos c59] at hK; exact hK)
              | (rw [if_neg c59, if_pos c74] at hK; exact hK)
              | (rw [if_neg c59, if_neg c74] at hK; exact hK)
        · refine g_iload_n B dX6_cell_62 rfl ?_
          refine g_i2b B dX6_cell_63 rfl ?_
          refine g_goto (tgt := 83) B dX6_cell_64 (by decide) ?_
          refine g_iast B dX6_cell_83 (by decide) (by rfl) (by exact vp_in_nI (n := 40 * s + j) (by omega) (by omega)) ?_
          rw [i_cl (by omega)]
          refine g_iconst (v := (1)) B dX6_cell_84 (by decide) ?_
          refine g_ireti B dX6_cell_85 ?_
          first
            | exact hK
            | (rw [if_pos c59] at hK; exact hK)
            | (rw [if_neg c59, if_pos c74] at hK; exact hK)
            | (rw [if_neg c59, if_neg c74] at hK; exact hK)
      · have hno : ¬ (0 ≤ y.toInt ∧ y.toInt < n) := fun q => b1_0.mp c37 ⟨q.1, by omega⟩
        rw [if_neg hno, if_neg hno] at hK
        refine g_bipush (v := (-12)) B dX6_cell_40 (by decide) ?_
        refine g_ireti B dX6_cell_42 ?_
        first
          | exact hK
          | (rw [if_pos c59] at hK; exact hK)
          | (rw [if_neg c59, if_pos c74] at hK; exact hK)
          | (rw [if_neg c59, if_neg c74] at hK; exact hK)
    · rw [if_pos c16, if_pos c16] at hK
      refine g_bipush (v := (-11)) B dX6_cell_19 (by decide) ?_
      refine g_ireti B dX6_cell_21 ?_
      first
        | exact hK
        | (rw [if_pos c59] at hK; exact hK)
        | (rw [if_neg c59, if_pos c74] at hK; exact hK)
        | (rw [if_neg c59, if_neg c74] at hK; exact hK)
  · rw [if_neg (b1_0.mp c4), if_neg (b1_0.mp c4)] at hK
    refine g_bipush (v := (-2)) B dX6_cell_7 (by decide) ?_
    refine g_ireti B dX6_cell_9 ?_
    first
      | exact hK
      | (rw [if_pos c59] at hK; exact hK)
      | (rw [if_neg c59, if_pos c74] at hK; exact hK)
      | (rw [if_neg c59, if_neg c74] at hK; exact hK)
def ovI (x : Int32) : Int32 := if x = 0 then -1 else if x = 3 then 1 else if x = 4 then 2 else 0
set_option maxRecDepth 100000 in
set_option maxHeartbeats 4000000 in
theorem c_over {ly : Lay} {Z : LZ} {ad : Nat → Nat} {τ : St} {K : Int32 → St → Prop} {x : Int32} (hK : K (ovI x) τ) : CC ly Z ad yX6_over wsX6_over (rmk 0) [.int x] τ (rI K) := by
  refine CC.of (cc := cX6_over) (nL := 1) (ret := (some .int)) rfl rfl ⟨rfl, rfl⟩ (by exact Nat.le_of_ble_eq_true rfl) ?_
  intro X B
  change GG _ _ _ _ X _ 0 [some (.int x)] [] _
  change Amb _ _ _ _ X _ _ RX6 _ _ at B
  refine g_iload_n B dX6_over_0 rfl ?_
  refine g_if_ne (tgt := 8) B dX6_over_1 (by decide) (fun c1 => ?_) (fun c1 => ?_)
  · refine g_iload_n B dX6_over_8 rfl ?_
    refine g_iconst (v := (3)) B dX6_over_9 (by decide) ?_
    refine g_icmp_ne (tgt := 17) B dX6_over_10 (by decide) (fun c10 => ?_) (fun c10 => ?_)
    · refine g_iload_n B dX6_over_17 rfl ?_
      refine g_iconst (v := (4)) B dX6_over_18 (by decide) ?_
      refine g_icmp_ne (tgt := 26) B dX6_over_19 (by decide) (fun c19 => ?_) (fun c19 => ?_)
      · refine g_iconst (v := (0)) B dX6_over_26 (by decide) ?_
        refine g_ireti B dX6_over_27 ?_
        refine kk ?_ hK
        unfold ovI
        first
          | (rw [if_pos c1])
          | (rw [if_neg c1, if_pos c10])
          | (rw [if_neg c1, if_neg c10, if_pos c19])
          | (rw [if_neg c1, if_neg c10, if_neg c19])
      · refine g_iconst (v := (2)) B dX6_over_22 (by decide) ?_
        refine g_goto (tgt := 27) B dX6_over_23 (by decide) ?_
        refine g_ireti B dX6_over_27 ?_
        refine kk ?_ hK
        unfold ovI
        first
          | (rw [if_pos c1])
          | (rw [if_neg c1, if_pos c10])
          | (rw [if_neg c1, if_neg c10, if_pos c19])
          | (rw [if_neg c1, if_neg c10, if_neg c19])
    · refine g_iconst (v := (1)) B dX6_over_13 (by decide) ?_
      refine g_goto (tgt := 27) B dX6_over_14 (by decide) ?_
      refine g_ireti B dX6_over_27 ?_
      refine kk ?_ hK
      unfold ovI
      first
        | (rw [if_pos c1])
        | (rw [if_neg c1, if_pos c10])
        | (rw [if_neg c1, if_neg c10, if_pos c19])
        | (rw [if_neg c1, if_neg c10, if_neg c19])
  · refine g_iconst (v := (-1)) B dX6_over_4 (by decide) ?_
    refine g_goto (tgt := 27) B dX6_over_5 (by decide) ?_
    refine g_ireti B dX6_over_27 ?_
    refine kk ?_ hK
    unfold ovI
    first
      | (rw [if_pos c1])
      | (rw [if_neg c1, if_pos c10])
      | (rw [if_neg c1, if_neg c10, if_pos c19])
      | (rw [if_neg c1, if_neg c10, if_neg c19])
/-- a kind is k or stands under it -/
def undF : Nat → Int32 → Int32 → Int32
  | 0, x, _ => x
  | n + 1, x, k => if x = -1 ∨ x = k then x else undF n (ovI x) k
def fTaken (τ : St) (m : Nat) (x k : Int32) : Int32 := if 0 ≤ k.toInt ∧ k.toInt ≤ 5 then (if isUs m x then (if undF 5 (τ.1 5 x.toNatClampNeg) k = k then τ.1 6 (2 * x.toNatClampNeg) else -13) else -11) else -2
def rkO (n : Nat) (x : Int32) : Prop := x = -1 ∨ (x = 0 ∧ 1 ≤ n) ∨ ((x = 1 ∨ x = 2 ∨ x = 5) ∧ 2 ≤ n) ∨ ((x = 3 ∨ x = 4) ∧ 3 ≤ n)
theorem rkO_ov {n : Nat} {x : Int32} (h : rkO (n + 1) x) (hx : ¬ x = -1) : rkO n (ovI x) := by
  rcases h with h | ⟨h, _⟩ | ⟨h | h | h, _⟩ | ⟨h | h, _⟩
  · exact absurd h hx
  · subst h; exact Or.inl rfl
  · subst h; exact Or.inr (Or.inl ⟨rfl, by omega⟩)
  · subst h; exact Or.inr (Or.inl ⟨rfl, by omega⟩)
  · subst h; exact Or.inr (Or.inl ⟨rfl, by omega⟩)
  · subst h; exact Or.inr (Or.inr (Or.inl ⟨Or.inl rfl, by omega⟩))
  · subst h; exact Or.inr (Or.inr (Or.inl ⟨Or.inr (Or.inl rfl), by omega⟩))
set_option maxRecDepth 100000 in
set_option maxHeartbeats 4000000 in
theorem h_taken2 {Z : LZ} {ad : Nat → Nat} {X : CX} {K : Int32 → St → Prop} {τ : St} {k x : Int32} {u : Nat} (B : Amb lyM Z ad (rmk 2) X cX6_taken wsX6_taken RX6 4 (some .int)) (hu : u < 6) (hK : K (if x = k then τ.1 6 (2 * u) else -13) τ) : GG lyM Z ad (rmk 2) X (rI K) 51 [some (.ref (ad 0)), some (.int (nI u)), some (.int k), some (.int x)] [] τ := by
  refine g_iload_n B dX6_taken_51 rfl ?_
  refine g_iload_n B dX6_taken_52 rfl ?_
  refine g_icmp_ne (tgt := 67) B dX6_taken_53 (by decide) (fun c53 => ?_) (fun c53 => ?_)
  · refine g_bipush (v := (-13)) B dX6_taken_67 (by decide) ?_
    refine g_ireti B dX6_taken_69 ?_
    first
      | (rw [if_pos c53] at hK; exact hK)
      | (rw [if_neg c53] at hK; exact hK)
  · refine g_aload_n B dX6_taken_56 rfl ?_
    refine g_getR (T := TX6) (N := 42) B dX6_taken_57 (by decide) (by rfl) (inq inlX6) rfl 10 (by decide) (mq f_X6_29) (by rfl) ?_
    refine g_iconst (v := (2)) B dX6_taken_60 (by decide) ?_
    refine g_iload_n B dX6_taken_61 rfl ?_
    refine g_imul B dX6_taken_62 ?_
    rw [show (2 : Int32) * nI u = nI (2 * u) from pk_mul 2 u]
    refine g_iald B dX6_taken_63 (by decide) (by rfl) (by exact vp_in_nI (n := 2 * u) (by omega) (by omega)) ?_
    rw [i_cl (by omega)]
    refine g_goto (tgt := 69) B dX6_taken_64 (by decide) ?_
    refine g_ireti B dX6_taken_69 ?_
    first
      | (rw [if_pos c53] at hK; exact hK)
      | (rw [if_neg c53] at hK; exact hK)
theorem h_taken {Z : LZ} {ad : Nat → Nat} {X : CX} {K : Int32 → St → Prop} {τ : St} {k : Int32} {u : Nat} (B : Amb lyM Z ad (rmk 2) X cX6_taken wsX6_taken RX6 4 (some .int)) (hu : u < 6) (hK : K (if undF 1 (-1) k = k then τ.1 6 (2 * u) else -13) τ) : GG lyM Z ad (rmk 2) X (rI K) 51 [some (.ref (ad 0)), some (.int (nI u)), some (.int k), some (.int (-1))] [] τ := by
  have e : undF 1 (-1) k = -1 := if_pos (Or.inl rfl)
  rw [e] at hK
  exact h_taken2 B hu hK
set_option maxRecDepth 100000 in
set_option maxHeartbeats 4000000 in
theorem l_taken {Z : LZ} {ad : Nat → Nat} {X : CX} {K : Int32 → St → Prop} {τ : St} {k : Int32} {u : Nat} (B : Amb lyM Z ad (rmk 2) X cX6_taken wsX6_taken RX6 4 (some .int)) (hu : u < 6) : ∀ (n : Nat) (x : Int32), rkO n x → K (if undF (n + 1) x k = k then τ.1 6 (2 * u) else -13) τ → GG lyM Z ad (rmk 2) X (rI K) 33 [some (.ref (ad 0)), some (.int (nI u)), some (.int k), some (.int x)] [] τ := by
  intro n
  induction n with
  | zero =>
    intro x h hK
    have hx : x = -1 := by
      rcases h with h | ⟨_, h⟩ | ⟨_, h⟩ | ⟨_, h⟩
      · exact h
      · omega
      · omega
      · omega
    subst hx
    refine g_iload_n B dX6_taken_33 rfl ?_
    refine g_iconst (v := (-1)) B dX6_taken_34 (by decide) ?_
    refine g_icmp_eq (tgt := 51) B dX6_taken_35 (by decide) (fun _ => ?_) (fun c => absurd rfl c)
    exact h_taken B hu hK
  | succ n ih =>
    intro x h hK
    unfold undF at hK
    refine g_iload_n B dX6_taken_33 rfl ?_
    refine g_iconst (v := (-1)) B dX6_taken_34 (by decide) ?_
    refine g_icmp_eq (tgt := 51) B dX6_taken_35 (by decide) (fun c35 => ?_) (fun c35 => ?_)
    · first
        | (rw [if_pos (show x = -1 ∨ x = k from Or.inl c35)] at hK; exact h_taken2 B hu hK)
        | (rw [if_pos (show x = -1 ∨ x = k from Or.inr c40)] at hK; exact h_taken2 B hu hK)
    · refine g_iload_n B dX6_taken_38 rfl ?_
      refine g_iload_n B dX6_taken_39 rfl ?_
      refine g_icmp_eq (tgt := 51) B dX6_taken_40 (by decide) (fun c40 => ?_) (fun c40 => ?_)
      · first
          | (rw [if_pos (show x = -1 ∨ x = k from Or.inl c35)] at hK; exact h_taken2 B hu hK)
          | (rw [if_pos (show x = -1 ∨ x = k from Or.inr c40)] at hK; exact h_taken2 B hu hK)
      · refine g_iload_n B dX6_taken_43 rfl ?_
        refine g_callSi (As := [.int _]) B dX6_taken_44 (gc1 g_X6_424) (by rfl) hd_X6_over (by exact ⟨Nat.le_of_ble_eq_true rfl, Nat.le_of_ble_eq_true rfl⟩) ⟨rfl, rfl⟩ rfl rfl (by exact Nat.le_of_ble_eq_true rfl) (c_over ?_)
        refine g_istore_n B dX6_taken_47 (by decide) rfl ?_
        refine g_goto (tgt := 33) B dX6_taken_48 (by decide) ?_
        rw [if_neg (show ¬ (x = -1 ∨ x = k) from fun z => z.elim c35 c40)] at hK
        exact ih _ (rkO_ov h c35) hK
set_option maxRecDepth 100000 in
set_option maxHeartbeats 4000000 in
theorem c_taken {Z : LZ} {ad : Nat → Nat} {τ : St} {K : Int32 → St → Prop} {x k : Int32} {m : Nat} (hm6 : m ≤ 6) (hm : τ.1 0 11 = nI m) (hk5 : ∀ u, u < 6 → 0 ≤ (τ.1 5 u).toInt ∧ (τ.1 5 u).toInt ≤ 5) (hK : K (fTaken τ m x k) τ) : CC lyM Z ad yX6_taken wsX6_taken (rmk 2) [.ref (ad 0), .int x, .int k] τ (rI K) := by
  refine CC.of (cc := cX6_taken) (nL := 4) (ret := (some .int)) rfl rfl ⟨rfl, rfl⟩ (by exact Nat.le_of_ble_eq_true rfl) ?_
  intro X B
  change GG _ _ _ _ X _ 0 [some (.ref (ad 0)), some (.int x), some (.int k), none] [] _
  change Amb _ _ _ _ X _ _ RX6 _ _ at B
  unfold fTaken at hK
  refine g_iload_n B dX6_taken_0 rfl ?_
  refine g_i2l B dX6_taken_1 rfl ?_
  refine g_lconst (v := (0)) B dX6_taken_2 (by decide) ?_
  refine g_ldc2 (v := (5)) B dX6_taken_3 (mq k_X6_110) ?_
  refine g_callSi (As := [.long _, .long _, .long _]) B dX6_taken_6 (gc1 g_X6_73) (by rfl) hd_X6_in (by exact ⟨Nat.le_of_ble_eq_true rfl, Nat.le_of_ble_eq_true rfl⟩) ⟨rfl, rfl⟩ rfl rfl (by exact Nat.le_of_ble_eq_true rfl) (c_in ?_)
  rw [in_0, show (5 : Int64).toInt = 5 from rfl]
  refine g_if_ne (tgt := 15) B dX6_taken_9 (by decide) (fun c9 => ?_) (fun c9 => ?_)
  · rw [if_pos (b1_n0.mp c9)] at hK
    refine g_aload_n B dX6_taken_15 rfl ?_
    refine g_iload_n B dX6_taken_16 rfl ?_
    refine g_callVi (C := RX6) (As := [.int _]) B dX6_taken_17 (gc1 g_X6_83) (by rfl) ⟨rfl, hd_X6_isUser⟩ (by exact ⟨Nat.le_of_ble_eq_true rfl, Nat.le_of_ble_eq_true rfl⟩) ⟨rfl, rfl⟩ rfl rfl (by exact Nat.le_of_ble_eq_true rfl) recvM (c_isUser hm6 hm ?_)
    refine g_if_ne (tgt := 26) B dX6_taken_20 (by decide) (fun c20 => ?_) (fun c20 => ?_)
    · have hux := b1_n0.mp c20
      rw [if_pos hux] at hK
      obtain ⟨u, hu, rfl⟩ := i_nat hux.1 hux.2
      rw [i_cl (by omega)] at hK
      refine g_aload_n B dX6_taken_26 rfl ?_
      refine g_getR (T := TX6) (N := 42) B dX6_taken_27 (by decide) (by rfl) (inq inlX6) rfl 9 (by decide) (mq f_X6_26) (by rfl) ?_
      refine g_iload_n B dX6_taken_30 rfl ?_
      refine g_iald B dX6_taken_31 (by decide) (by rfl) (by exact vp_in_nI (n := u) (by omega) (by omega)) ?_
      rw [i_cl (by omega)]
      refine g_istore_n B dX6_taken_32 (by decide) rfl ?_
      refine l_taken B (by omega) 4 _ ?_ hK
      obtain ⟨h1, h2⟩ := hk5 u (by omega)
      obtain ⟨q, hq, e⟩ := i_nat (n := 6) h1 (by omega)
      rw [e]
      unfold rkO
      rcases (show q = 0 ∨ q = 1 ∨ q = 2 ∨ q = 3 ∨ q = 4 ∨ q = 5 by omega) with e | e | e | e | e | e <;> subst e <;> decide
    · rw [if_neg (b1_0.mp c20)] at hK
      refine g_bipush (v := (-11)) B dX6_taken_23 (by decide) ?_
      refine g_ireti B dX6_taken_25 ?_
      exact hK
  · rw [if_neg (b1_0.mp c9)] at hK
    refine g_bipush (v := (-2)) B dX6_taken_12 (by decide) ?_
    refine g_ireti B dX6_taken_14 ?_
    exact hK

