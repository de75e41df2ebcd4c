/-! set, user, feed, force, text *reference* -/
theorem pkz.cg {cs ks : List Nat} {a b : St} {o k : Nat} {v : Int32} (h : pkz cs ks a b) : pkz cs ks (upS a o k v) (upS b o k v) := by
  refine ⟨fun o' h0 hc => ?_, fun j hj => ?_, h.2.2⟩
  · by_cases e : o' = o
    · subst e
      show va_up b.1 o' _ o' = va_up a.1 o' _ o'
      unfold va_up
      rw [if_pos rfl, if_pos rfl, h.1 o' h0 hc]
    · rw [upS_3 e, upS_3 e]
      exact h.1 o' h0 hc
  · by_cases e : o = 0
    · subst e
      by_cases ej : j = k
      · subst ej
        rw [upS_1, upS_1]
      · rw [upS_2 ej, upS_2 ej]
        exact h.2.1 j hj
    · rw [upS_3 (Ne.symm e), upS_3 (Ne.symm e)]
      exact h.2.1 j hj
abbrev sg (a b : St) : Prop := pkz [7, 8, 9] mQ a b
theorem sgx {a b : St} (h : pkx mS a b) : sg a b := (pkS_Q h).z
theorem sgz {a b : St} (h : pkz [7, 8] mQ a b) : sg a b := h.mono (fun k hk => by rcases List.mem_cons.mp hk with e | hk; exact e ▸ List.mem_cons_self; exact (List.mem_cons.mp hk).elim (fun e => e ▸ List.mem_cons_of_mem _ List.mem_cons_self) (fun z => nomatch z)) (fun _ h => h)
theorem sg_lays {a b : St} {w o : Nat} {v : Int32} (h : sg a b) : sg (laysT a w o v) (laysT b w o v) := by
  unfold laysT
  (repeat' split) <;> exact h.cg
abbrev setP (m : Nat) (x y v : Int32) : Prop := (0 ≤ x.toInt ∧ x.toInt ≤ 3) ∧ ofP m x y ∧ 0 ≤ v.toInt ∧ v.toInt ≤ (if x = 0 then 1073741823 else if x = 3 then 1 else 9)
def fSet (τ : St) (C : TC) (m : Nat) (x y v : Int32) : Int32 := if setP m x y v then fTold τ C m y x else -2
def gSet (τ : St) (m : Nat) (x y v : Int32) : St := if setP m x y v then laysT τ x.toNatClampNeg y.toNatClampNeg v else τ
set_option maxRecDepth 100000 in
set_option maxHeartbeats 4000000 in
theorem c_set {Z : LZ} {ad : Nat → Nat} {τ : St} {K : Int32 → St → Prop} {x y v : Int32} {m : Nat} {C : TC} (hC : RUL τ C) (hm6 : m ≤ 6) (hm : τ.1 0 11 = nI m) (hK : ∀ τ', sg (gSet τ m x y v) τ' → K (fSet τ C m x y v) τ') : CC lyM Z ad yX6_set wsX6_set (rmk 45) [.ref (ad 0), .int x, .int y, .int v] τ (rI K) := by
  refine CC.of (cc := cX6_set) (nL := 5) (ret := (some .int)) rfl rfl ⟨rfl, rfl⟩ (by exact Nat.le_of_ble_eq_true rfl) ?_
  intro X B
  change GG _ _ _ _ X _ 0 [some (.ref (ad 0)), some (.int x), some (.int y), some (.int v), none] [] _
  change Amb _ _ _ _ X _ _ RX6 _ _ at B
  unfold fSet gSet at hK
  refine g_iload_n B dX6_set_0 rfl ?_
  refine g_i2l B dX6_set_1 rfl ?_
  refine g_lconst (v := (0)) B dX6_set_2 (by decide) ?_
  refine g_ldc2 (v := (3)) B dX6_set_3 (mq k_X6_86) ?_
  refine g_callSi (As := [.long _, .long _, .long _]) B dX6_set_6 (gc1 g_X6_73) (by rfl) hd_X6_in (by exact ⟨Nat.le_of_ble_eq_true rfl, Nat.le_of_ble_eq_true rfl⟩) ⟨rfl, rfl⟩ rfl rfl (by exact Nat.le_of_ble_eq_true rfl) (c_in ?_)
  rw [in_0, show (3 : Int64).toInt = 3 from rfl]
  refine g_if_eq (tgt := 52) B dX6_set_9 (by decide) (fun c9 => ?_) (fun c9 => ?_)
  · have hno : ¬ setP m x y v := by
      intro z
      first
      | exact b1_0.mp c9 z.1
      | exact b1_0.mp c18 z.2.1
      | (have z3 := z.2.2
         rw [if_pos c25] at z3
         exact b1_0.mp c49 z3)
      | (have z3 := z.2.2
         rw [if_neg c25, if_pos c36] at z3
         exact b1_0.mp c49 z3)
      | (have z3 := z.2.2
         rw [if_neg c25, if_neg c36] at z3
         exact b1_0.mp c49 z3)
    rw [if_neg hno, if_neg hno] at hK
    refine g_bipush (v := (-2)) B dX6_set_52 (by decide) ?_
    refine g_ireti B dX6_set_54 ?_
    first
      | exact hK _ pkz.rf
      | (refine hK _ ?_
         rw [hcw]
         exact sg_lays (sgx p1))
  · refine g_aload_n B dX6_set_12 rfl ?_
    refine g_iload_n B dX6_set_13 rfl ?_
    refine g_iload_n B dX6_set_14 rfl ?_
    refine g_callVi (C := RX6) (As := [.int _, .int _]) B dX6_set_15 (gc1 g_X6_88) (by rfl) ⟨rfl, hd_X6_isOf⟩ (by exact ⟨Nat.le_of_ble_eq_true rfl, Nat.le_of_ble_eq_true rfl⟩) ⟨rfl, rfl⟩ rfl rfl (by exact Nat.le_of_ble_eq_true rfl) recvM (c_isOf hm6 hm ?_)
    refine g_if_eq (tgt := 52) B dX6_set_18 (by decide) (fun c18 => ?_) (fun c18 => ?_)
    · have hno : ¬ setP m x y v := by
        intro z
        first
        | exact b1_0.mp c9 z.1
        | exact b1_0.mp c18 z.2.1
        | (have z3 := z.2.2
           rw [if_pos c25] at z3
           exact b1_0.mp c49 z3)
        | (have z3 := z.2.2
           rw [if_neg c25, if_pos c36] at z3
           exact b1_0.mp c49 z3)
        | (have z3 := z.2.2
           rw [if_neg c25, if_neg c36] at z3
           exact b1_0.mp c49 z3)
      rw [if_neg hno, if_neg hno] at hK
      refine g_bipush (v := (-2)) B dX6_set_52 (by decide) ?_
      refine g_ireti B dX6_set_54 ?_
      first
        | exact hK _ pkz.rf
        | (refine hK _ ?_
           rw [hcw]
           exact sg_lays (sgx p1))
    · refine g_iload_n B dX6_set_21 rfl ?_
      refine g_i2l B dX6_set_22 rfl ?_
      refine g_lconst (v := (0)) B dX6_set_23 (by decide) ?_
      refine g_iload_n B dX6_set_24 rfl ?_
      refine g_if_ne (tgt := 34) B dX6_set_25 (by decide) (fun c25 => ?_) (fun c25 => ?_)
      · refine g_iload_n B dX6_set_34 rfl ?_
        refine g_iconst (v := (3)) B dX6_set_35 (by decide) ?_
        refine g_icmp_ne (tgt := 43) B dX6_set_36 (by decide) (fun c36 => ?_) (fun c36 => ?_)
        · refine g_ldc2 (v := (9)) B dX6_set_43 (mq k_X6_94) ?_
          refine g_callSi (As := [.long _, .long _, .long _]) B dX6_set_46 (gc1 g_X6_73) (by rfl) hd_X6_in (by exact ⟨Nat.le_of_ble_eq_true rfl, Nat.le_of_ble_eq_true rfl⟩) ⟨rfl, rfl⟩ rfl rfl (by exact Nat.le_of_ble_eq_true rfl) (c_in ?_)
          rw [in_0]
          refine g_if_ne (tgt := 55) B dX6_set_49 (by decide) (fun c49 => ?_) (fun c49 => ?_)
          · have hyes : setP m x y v := by
              refine ⟨b1_n0.mp c9, b1_n0.mp c18, ?_⟩
              first
              | (rw [if_pos c25]; exact b1_n0.mp c49)
              | (rw [if_neg c25, if_pos c36]; exact b1_n0.mp c49)
              | (rw [if_neg c25, if_neg c36]; exact b1_n0.mp c49)
            rw [if_pos hyes, if_pos hyes] at hK
            obtain ⟨w, hw, hxw⟩ := i_nat (n := 4) hyes.1.1 (by have := hyes.1.2; omega)
            have hcw : x.toNatClampNeg = w := i_clx hxw (by omega)
            refine g_aload_n B dX6_set_55 rfl ?_
            refine g_iload_n B dX6_set_56 rfl ?_
            refine g_iload_n B dX6_set_57 rfl ?_
            refine g_callVi (C := RX6) (As := [.int _, .int _]) B dX6_set_58 (gc1 g_X6_96) (by rfl) ⟨rfl, hd_X6_told⟩ (by exact ⟨Nat.le_of_ble_eq_true rfl, Nat.le_of_ble_eq_true rfl⟩) ⟨rfl, rfl⟩ rfl rfl (by exact Nat.le_of_ble_eq_true rfl) recvM (c_told hC hm6 hm (fun τ1 p1 => ?_))
            refine g_istore B dX6_set_61 (by decide) rfl ?_
            refine g_aload_n B dX6_set_63 rfl ?_
            refine g_iload_n B dX6_set_64 rfl ?_
            refine g_iload_n B dX6_set_65 rfl ?_
            refine g_iload_n B dX6_set_66 rfl ?_
            refine g_callVv (C := RX6) (As := [.int _, .int _, .int _]) B dX6_set_67 (gc1 g_X6_100) (by rfl) ⟨rfl, hd_X6_lays⟩ (by exact ⟨Nat.le_of_ble_eq_true rfl, Nat.le_of_ble_eq_true rfl⟩) ⟨rfl, rfl⟩ rfl rfl (by exact Nat.le_of_ble_eq_true rfl) recvM (c_lays (w := w) (o := y.toNatClampNeg) hxw (by omega) (fun e => by
              obtain ⟨t, ht, e2⟩ := ofP_nt hyes.2.1 (by rw [hxw, e]; decide) (Or.inl (by rw [hxw, e]; rfl))
              rw [e2, i_cl (by omega)]
              exact ⟨rfl, ht⟩) (fun e1 e2 => by
              obtain ⟨t, ht, e2⟩ := ofP_us hyes.2.1 (by rw [hxw, show (0 : Int32) = nI 0 from rfl, nI_eqI (by omega) (by omega)]; omega) (by rw [hxw, show (1 : Int32) = nI 1 from rfl, nI_eqI (by omega) (by omega), show (4 : Int32) = nI 4 from rfl, nI_leI (by omega) (by omega)]; omega)
              rw [e2, i_cl (by omega)]
              exact ⟨rfl, by omega⟩) ?_)
            refine g_iload B dX6_set_70 rfl ?_
            refine g_ireti B dX6_set_72 ?_
            first
              | exact hK _ pkz.rf
              | (refine hK _ ?_
                 rw [hcw]
                 exact sg_lays (sgx p1))
          · have hno : ¬ setP m x y v := by
              intro z
              first
              | exact b1_0.mp c9 z.1
              | exact b1_0.mp c18 z.2.1
              | (have z3 := z.2.2
                 rw [if_pos c25] at z3
                 exact b1_0.mp c49 z3)
              | (have z3 := z.2.2
                 rw [if_neg c25, if_pos c36] at z3
                 exact b1_0.mp c49 z3)
              | (have z3 := z.2.2
                 rw [if_neg c25, if_neg c36] at z3
                 exact b1_0.mp c49 z3)
            rw [if_neg hno, if_neg hno] at hK
            refine g_bipush (v := (-2)) B dX6_set_52 (by decide) ?_
            refine g_ireti B dX6_set_54 ?_
            first
              | exact hK _ pkz.rf
              | (refine hK _ ?_
                 rw [hcw]
                 exact sg_lays (sgx p1))
        · refine g_lconst (v := (1)) B dX6_set_39 (by decide) ?_
          refine g_goto (tgt := 46) B dX6_set_40 (by decide) ?_
          refine g_callSi (As := [.long _, .long _, .long _]) B dX6_set_46 (gc1 g_X6_73) (by rfl) hd_X6_in (by exact ⟨Nat.le_of_ble_eq_true rfl, Nat.le_of_ble_eq_true rfl⟩) ⟨rfl, rfl⟩ rfl rfl (by exact Nat.le_of_ble_eq_true rfl) (c_in ?_)
          rw [in_0]
          refine g_if_ne (tgt := 55) B dX6_set_49 (by decide) (fun c49 => ?_) (fun c49 => ?_)
          · have hyes : setP m x y v := by
              refine ⟨b1_n0.mp c9, b1_n0.mp c18, ?_⟩
              first
              | (rw [if_pos c25]; exact b1_n0.mp c49)
              | (rw [if_neg c25, if_pos c36]; exact b1_n0.mp c49)
              | (rw [if_neg c25, if_neg c36]; exact b1_n0.mp c49)
            rw [if_pos hyes, if_pos hyes] at hK
            obtain ⟨w, hw, hxw⟩ := i_nat (n := 4) hyes.1.1 (by have := hyes.1.2; omega)
            have hcw : x.toNatClampNeg = w := i_clx hxw (by omega)
            refine g_aload_n B dX6_set_55 rfl ?_
            refine g_iload_n B dX6_set_56 rfl ?_
            refine g_iload_n B dX6_set_57 rfl ?_
            refine g_callVi (C := RX6) (As := [.int _, .int _]) B dX6_set_58 (gc1 g_X6_96) (by rfl) ⟨rfl, hd_X6_told⟩ (by exact ⟨Nat.le_of_ble_eq_true rfl, Nat.le_of_ble_eq_true rfl⟩) ⟨rfl, rfl⟩ rfl rfl (by exact Nat.le_of_ble_eq_true rfl) recvM (c_told hC hm6 hm (fun τ1 p1 => ?_))
            refine g_istore B dX6_set_61 (by decide) rfl ?_
            refine g_aload_n B dX6_set_63 rfl ?_
            refine g_iload_n B dX6_set_64 rfl ?_
            refine g_iload_n B dX6_set_65 rfl ?_
            refine g_iload_n B dX6_set_66 rfl ?_
            refine g_callVv (C := RX6) (As := [.int _, .int _, .int _]) B dX6_set_67 (gc1 g_X6_100) (by rfl) ⟨rfl, hd_X6_lays⟩ (by exact ⟨Nat.le_of_ble_eq_true rfl, Nat.le_of_ble_eq_true rfl⟩) ⟨rfl, rfl⟩ rfl rfl (by exact Nat.le_of_ble_eq_true rfl) recvM (c_lays (w := w) (o := y.toNatClampNeg) hxw (by omega) (fun e => by
              obtain ⟨t, ht, e2⟩ := ofP_nt hyes.2.1 (by rw [hxw, e]; decide) (Or.inl (by rw [hxw, e]; rfl))
              rw [e2, i_cl (by omega)]
              exact ⟨rfl, ht⟩) (fun e1 e2 => by
              obtain ⟨t, ht, e2⟩ := ofP_us hyes.2.1 (by rw [hxw, show (0 : Int32) = nI 0 from rfl, nI_eqI (by omega) (by omega)]; omega) (by rw [hxw, show (1 : Int32) = nI 1 from rfl, nI_eqI (by omega) (by omega), show (4 : Int32) = nI 4 from rfl, nI_leI (by omega) (by omega)]; omega)
              rw [e2, i_cl (by omega)]
              exact ⟨rfl, by omega⟩) ?_)
            refine g_iload B dX6_set_70 rfl ?_
            refine g_ireti B dX6_set_72 ?_
            first
              | exact hK _ pkz.rf
              | (refine hK _ ?_
                 rw [hcw]
                 exact sg_lays (sgx p1))
          · have hno : ¬ setP m x y v := by
              intro z
              first
              | exact b1_0.mp c9 z.1
              | exact b1_0.mp c18 z.2.1
              | (have z3 := z.2.2
                 rw [if_pos c25] at z3
                 exact b1_0.mp c49 z3)
              | (have z3 := z.2.2
                 rw [if_neg c25, if_pos c36] at z3
                 exact b1_0.mp c49 z3)
              | (have z3 := z.2.2
                 rw [if_neg c25, if_neg c36] at z3
                 exact b1_0.mp c49 z3)
            rw [if_neg hno, if_neg hno] at hK
            refine g_bipush (v := (-2)) B dX6_set_52 (by decide) ?_
            refine g_ireti B dX6_set_54 ?_
            first
              | exact hK _ pkz.rf
              | (refine hK _ ?_
                 rw [hcw]
                 exact sg_lays (sgx p1))
      · refine g_ldc2 (v := (1073741823)) B dX6_set_28 (mq k_X6_92) ?_
        refine g_goto (tgt := 46) B dX6_set_31 (by decide) ?_
        refine g_callSi (As := [.long _, .long _, .long _]) B dX6_set_46 (gc1 g_X6_73) (by rfl) hd_X6_in (by exact ⟨Nat.le_of_ble_eq_true rfl, Nat.le_of_ble_eq_true rfl⟩) ⟨rfl, rfl⟩ rfl rfl (by exact Nat.le_of_ble_eq_true rfl) (c_in ?_)
        rw [in_0]
        refine g_if_ne (tgt := 55) B dX6_set_49 (by decide) (fun c49 => ?_) (fun c49 => ?_)
        · have hyes : setP m x y v := by
            refine ⟨b1_n0.mp c9, b1_n0.mp c18, ?_⟩
            first
            | (rw [if_pos c25]; exact b1_n0.mp c49)
            | (rw [if_neg c25, if_pos c36]; exact b1_n0.mp c49)
            | (rw [if_neg c25, if_neg c36]; exact b1_n0.mp c49)
          rw [if_pos hyes, if_pos hyes] at hK
          obtain ⟨w, hw, hxw⟩ := i_nat (n := 4) hyes.1.1 (by have := hyes.1.2; omega)
          have hcw : x.toNatClampNeg = w := i_clx hxw (by omega)
          refine g_aload_n B dX6_set_55 rfl ?_
          refine g_iload_n B dX6_set_56 rfl ?_
          refine g_iload_n B dX6_set_57 rfl ?_
          refine g_callVi (C := RX6) (As := [.int _, .int _]) B dX6_set_58 (gc1 g_X6_96) (by rfl) ⟨rfl, hd_X6_told⟩ (by exact ⟨Nat.le_of_ble_eq_true rfl, Nat.le_of_ble_eq_true rfl⟩) ⟨rfl, rfl⟩ rfl rfl (by exact Nat.le_of_ble_eq_true rfl) recvM (c_told hC hm6 hm (fun τ1 p1 => ?_))
          refine g_istore B dX6_set_61 (by decide) rfl ?_
          refine g_aload_n B dX6_set_63 rfl ?_
          refine g_iload_n B dX6_set_64 rfl ?_
          refine g_iload_n B dX6_set_65 rfl ?_
          refine g_iload_n B dX6_set_66 rfl ?_
          refine g_callVv (C := RX6) (As := [.int _, .int _, .int _]) B dX6_set_67 (gc1 g_X6_100) (by rfl) ⟨rfl, hd_X6_lays⟩ (by exact ⟨Nat.le_of_ble_eq_true rfl, Nat.le_of_ble_eq_true rfl⟩) ⟨rfl, rfl⟩ rfl rfl (by exact Nat.le_of_ble_eq_true rfl) recvM (c_lays (w := w) (o := y.toNatClampNeg) hxw (by omega) (fun e => by
            obtain ⟨t, ht, e2⟩ := ofP_nt hyes.2.1 (by rw [hxw, e]; decide) (Or.inl (by rw [hxw, e]; rfl))
            rw [e2, i_cl (by omega)]
            exact ⟨rfl, ht⟩) (fun e1 e2 => by
            obtain ⟨t, ht, e2⟩ := ofP_us hyes.2.1 (by rw [hxw, show (0 : Int32) = nI 0 from rfl, nI_eqI (by omega) (by omega)]; omega) (by rw [hxw, show (1 : Int32) = nI 1 from rfl, nI_eqI (by omega) (by omega), show (4 : Int32) = nI 4 from rfl, nI_leI (by omega) (by omega)]; omega)
            rw [e2, i_cl (by omega)]
            exact ⟨rfl, by omega⟩) ?_)
          refine g_iload B dX6_set_70 rfl ?_
          refine g_ireti B dX6_set_72 ?_
          first
            | exact hK _ pkz.rf
            | (refine hK _ ?_
               rw [hcw]
               exact sg_lays (sgx p1))
        · have hno : ¬ setP m x y v := by
            intro z
            first
            | exact b1_0.mp c9 z.1
            | exact b1_0.mp c18 z.2.1
            | (have z3 := z.2.2
               rw [if_pos c25] at z3
               exact b1_0.mp c49 z3)
            | (have z3 := z.2.2
               rw [if_neg c25, if_pos c36] at z3
               exact b1_0.mp c49 z3)
            | (have z3 := z.2.2
               rw [if_neg c25, if_neg c36] at z3
               exact b1_0.mp c49 z3)
          rw [if_neg hno, if_neg hno] at hK
          refine g_bipush (v := (-2)) B dX6_set_52 (by decide) ?_
          refine g_ireti B dX6_set_54 ?_
          first
            | exact hK _ pkz.rf
            | (refine hK _ ?_
               rw [hcw]
               exact sg_lays (sgx p1))
abbrev usrP (x y z : Int32) : Prop := (0 ≤ x.toInt ∧ x.toInt ≤ 5) ∧ (0 ≤ y.toInt ∧ y.toInt ≤ 9) ∧ 0 ≤ z.toInt ∧ z.toInt ≤ 1
def fUser (m : Nat) (x y z : Int32) : Int32 := if usrP x y z then (if m = 6 then -4 else nI m) else -2
def gUser (τ : St) (m : Nat) (x y z : Int32) : St := if usrP x y z then (if m = 6 then τ else upS (upS (upS (upS τ 5 m x) 6 (2 * m) y) 6 (2 * m + 1) z) 0 11 (nI (m + 1))) else τ
set_option maxRecDepth 100000 in
set_option maxHeartbeats 4000000 in
theorem c_user {Z : LZ} {ad : Nat → Nat} {τ : St} {K : Int32 → St → Prop} {x y z : Int32} {m : Nat} (hm6 : m ≤ 6) (hm : τ.1 0 11 = nI m) (hK : K (fUser m x y z) (gUser τ m x y z)) : CC lyM Z ad yX6_user wsX6_user (rmk 2) [.ref (ad 0), .int x, .int y, .int z] τ (rI K) := by
  refine CC.of (cc := cX6_user) (nL := 4) (ret := (some .int)) rfl rfl ⟨rfl, rfl⟩ (by exact Nat.le_of_ble_eq_true rfl) ?_
  intro X B
  change GG _ _ _ _ X _ 0 [some (.ref (ad 0)), some (.int x), some (.int y), some (.int z)] [] _
  change Amb _ _ _ _ X _ _ RX6 _ _ at B
  unfold fUser gUser at hK
  have h2m : (2 : Int32) * nI m = nI (2 * m) := pk_mul 2 m
  refine g_iload_n B dX6_user_0 rfl ?_
  refine g_i2l B dX6_user_1 rfl ?_
  refine g_lconst (v := (0)) B dX6_user_2 (by decide) ?_
  refine g_ldc2 (v := (5)) B dX6_user_3 (mq k_X6_110) ?_
  refine g_callSi (As := [.long _, .long _, .long _]) B dX6_user_6 (gc1 g_X6_73) (by rfl) hd_X6_in (by exact ⟨Nat.le_of_ble_eq_true rfl, Nat.le_of_ble_eq_true rfl⟩) ⟨rfl, rfl⟩ rfl rfl (by exact Nat.le_of_ble_eq_true rfl) (c_in ?_)
  rw [in_0, show (5 : Int64).toInt = 5 from rfl]
  refine g_if_eq (tgt := 34) B dX6_user_9 (by decide) (fun c9 => ?_) (fun c9 => ?_)
  · have hno : ¬ usrP x y z := by
      intro q
      first
      | exact b1_0.mp c9 q.1
      | exact b1_0.mp c21 q.2.1
      | exact b1_0.mp c31 q.2.2
    rw [if_neg hno, if_neg hno] at hK
    refine g_bipush (v := (-2)) B dX6_user_34 (by decide) ?_
    refine g_ireti B dX6_user_36 ?_
    first
      | exact hK
      | (refine kk ?_ hK
         exact (pk_sub (b := 1) (by omega)).trans rfl)
  · refine g_iload_n B dX6_user_12 rfl ?_
    refine g_i2l B dX6_user_13 rfl ?_
    refine g_lconst (v := (0)) B dX6_user_14 (by decide) ?_
    refine g_ldc2 (v := (9)) B dX6_user_15 (mq k_X6_94) ?_
    refine g_callSi (As := [.long _, .long _, .long _]) B dX6_user_18 (gc1 g_X6_73) (by rfl) hd_X6_in (by exact ⟨Nat.le_of_ble_eq_true rfl, Nat.le_of_ble_eq_true rfl⟩) ⟨rfl, rfl⟩ rfl rfl (by exact Nat.le_of_ble_eq_true rfl) (c_in ?_)
    rw [in_0, show (9 : Int64).toInt = 9 from rfl]
    refine g_if_eq (tgt := 34) B dX6_user_21 (by decide) (fun c21 => ?_) (fun c21 => ?_)
    · have hno : ¬ usrP x y z := by
        intro q
        first
        | exact b1_0.mp c9 q.1
        | exact b1_0.mp c21 q.2.1
        | exact b1_0.mp c31 q.2.2
      rw [if_neg hno, if_neg hno] at hK
      refine g_bipush (v := (-2)) B dX6_user_34 (by decide) ?_
      refine g_ireti B dX6_user_36 ?_
      first
        | exact hK
        | (refine kk ?_ hK
           exact (pk_sub (b := 1) (by omega)).trans rfl)
    · refine g_iload_n B dX6_user_24 rfl ?_
      refine g_i2l B dX6_user_25 rfl ?_
      refine g_lconst (v := (0)) B dX6_user_26 (by decide) ?_
      refine g_lconst (v := (1)) B dX6_user_27 (by decide) ?_
      refine g_callSi (As := [.long _, .long _, .long _]) B dX6_user_28 (gc1 g_X6_73) (by rfl) hd_X6_in (by exact ⟨Nat.le_of_ble_eq_true rfl, Nat.le_of_ble_eq_true rfl⟩) ⟨rfl, rfl⟩ rfl rfl (by exact Nat.le_of_ble_eq_true rfl) (c_in ?_)
      rw [in_0, show (1 : Int64).toInt = 1 from rfl]
      refine g_if_ne (tgt := 37) B dX6_user_31 (by decide) (fun c31 => ?_) (fun c31 => ?_)
      · have hyes : usrP x y z := ⟨b1_n0.mp c9, b1_n0.mp c21, b1_n0.mp c31⟩
        rw [if_pos hyes, if_pos hyes] at hK
        refine g_aload_n B dX6_user_37 rfl ?_
        refine g_getI (T := TX6) (N := 42) B dX6_user_38 (by decide) (by rfl) (inq inlX6) rfl 11 (by decide) (mq f_X6_70) (by rfl) ?_
        rw [hm]
        refine g_bipush (v := (6)) B dX6_user_41 (by decide) ?_
        refine g_icmp_ne (tgt := 49) B dX6_user_43 (by decide) (fun c43 => ?_) (fun c43 => ?_)
        · have e6 : ¬ m = 6 := fun q => c43 (congrArg nI q)
          rw [if_neg e6, if_neg e6] at hK
          refine g_aload_n B dX6_user_49 rfl ?_
          refine g_getR (T := TX6) (N := 42) B dX6_user_50 (by decide) (by rfl) (inq inlX6) rfl 9 (by decide) (mq f_X6_26) (by rfl) ?_
          refine g_aload_n B dX6_user_53 rfl ?_
          refine g_getI (T := TX6) (N := 42) B dX6_user_54 (by decide) (by rfl) (inq inlX6) rfl 11 (by decide) (mq f_X6_70) (by rfl) ?_
          rw [hm]
          refine g_iload_n B dX6_user_57 rfl ?_
          refine g_iast B dX6_user_58 (by decide) (by rfl) (by exact vp_in_nI (n := m) (by omega) (by omega)) ?_
          rw [i_cl (by omega)]
          refine g_aload_n B dX6_user_59 rfl ?_
          refine g_getR (T := TX6) (N := 42) B dX6_user_60 (by decide) (by rfl) (inq inlX6) rfl 10 (by decide) (mq f_X6_29) (by rfl) ?_
          refine g_iconst (v := (2)) B dX6_user_63 (by decide) ?_
          refine g_aload_n B dX6_user_64 rfl ?_
          refine g_getI (T := TX6) (N := 42) B dX6_user_65 (by decide) (by rfl) (inq inlX6) rfl 11 (by decide) (mq f_X6_70) (by rfl) ?_
          rw [upS_3 (by decide), hm]
          refine g_imul B dX6_user_68 ?_
          rw [h2m]
          refine g_iload_n B dX6_user_69 rfl ?_
          refine g_iast B dX6_user_70 (by decide) (by rfl) (by exact vp_in_nI (n := 2 * m) (by omega) (by omega)) ?_
          rw [i_cl (by omega)]
          refine g_aload_n B dX6_user_71 rfl ?_
          refine g_getR (T := TX6) (N := 42) B dX6_user_72 (by decide) (by rfl) (inq inlX6) rfl 10 (by decide) (mq f_X6_29) (by rfl) ?_
          refine g_iconst (v := (2)) B dX6_user_75 (by decide) ?_
          refine g_aload_n B dX6_user_76 rfl ?_
          refine g_getI (T := TX6) (N := 42) B dX6_user_77 (by decide) (by rfl) (inq inlX6) rfl 11 (by decide) (mq f_X6_70) (by rfl) ?_
          rw [upS_3 (by decide), upS_3 (by decide), hm]
          refine g_imul B dX6_user_80 ?_
          rw [h2m]
          refine g_iconst (v := (1)) B dX6_user_81 (by decide) ?_
          refine g_iadd B dX6_user_82 ?_
          rw [nI_1]
          refine g_iload_n B dX6_user_83 rfl ?_
          refine g_iast B dX6_user_84 (by decide) (by rfl) (by exact vp_in_nI (n := 2 * m + 1) (by omega) (by omega)) ?_
          rw [i_cl (by omega)]
          refine g_aload_n B dX6_user_85 rfl ?_
          refine g_dup B dX6_user_86 rfl ?_
          refine g_getI (T := TX6) (N := 42) B dX6_user_87 (by decide) (by rfl) (inq inlX6) rfl 11 (by decide) (mq f_X6_70) (by rfl) ?_
          rw [upS_3 (by decide), upS_3 (by decide), upS_3 (by decide), hm]
          refine g_iconst (v := (1)) B dX6_user_90 (by decide) ?_
          refine g_iadd B dX6_user_91 ?_
          rw [nI_1]
          refine g_putI (T := TX6) (N := 42) B dX6_user_92 (by decide) (by rfl) (inq inlX6) rfl 11 (by decide) (mq f_X6_70) tyX6_ok nmX6 rfl ⟨rfl, rfl⟩ (by rfl) ?_
          refine g_aload_n B dX6_user_95 rfl ?_
          refine g_getI (T := TX6) (N := 42) B dX6_user_96 (by decide) (by rfl) (inq inlX6) rfl 11 (by decide) (mq f_X6_70) (by rfl) ?_
          rw [upS_1]
          refine g_iconst (v := (1)) B dX6_user_99 (by decide) ?_
          refine g_isub B dX6_user_100 ?_
          refine g_ireti B dX6_user_101 ?_
          first
            | exact hK
            | (refine kk ?_ hK
               exact (pk_sub (b := 1) (by omega)).trans rfl)
        · have e6 : m = 6 := (nI_eqI (by omega) (by omega)).mp (c43.trans (show (6 : Int32) = nI 6 from rfl))
          rw [if_pos e6, if_pos e6] at hK
          refine g_bipush (v := (-4)) B dX6_user_46 (by decide) ?_
          refine g_ireti B dX6_user_48 ?_
          first
            | exact hK
            | (refine kk ?_ hK
               exact (pk_sub (b := 1) (by omega)).trans rfl)
      · have hno : ¬ usrP x y z := by
          intro q
          first
          | exact b1_0.mp c9 q.1
          | exact b1_0.mp c21 q.2.1
          | exact b1_0.mp c31 q.2.2
        rw [if_neg hno, if_neg hno] at hK
        refine g_bipush (v := (-2)) B dX6_user_34 (by decide) ?_
        refine g_ireti B dX6_user_36 ?_
        first
          | exact hK
          | (refine kk ?_ hK
             exact (pk_sub (b := 1) (by omega)).trans rfl)
def fFeed (p : Nat) (x : Int32) : Int32 := if 0 ≤ x.toInt ∧ x.toInt ≤ 255 then (if p = 160 then -4 else nI (p + 1)) else -2
def gFeed (τ : St) (p : Nat) (x : Int32) : St := if 0 ≤ x.toInt ∧ x.toInt ≤ 255 then (if p = 160 then τ else upS (upS τ 3 p x) 0 6 (nI (p + 1))) else τ
set_option maxRecDepth 100000 in
set_option maxHeartbeats 4000000 in
theorem c_feed {Z : LZ} {ad : Nat → Nat} {τ : St} {K : Int32 → St → Prop} {x : Int32} {p : Nat} (hp6 : p ≤ 160) (hp : τ.1 0 6 = nI p) (hK : K (fFeed p x) (gFeed τ p x)) : CC lyM Z ad yX6_feed wsX6_feed (rmk 2) [.ref (ad 0), .int x] τ (rI K) := by
  refine CC.of (cc := cX6_feed) (nL := 2) (ret := (some .int)) rfl rfl ⟨rfl, rfl⟩ (by exact Nat.le_of_ble_eq_true rfl) ?_
  intro X B
  change GG _ _ _ _ X _ 0 [some (.ref (ad 0)), some (.int x)] [] _
  change Amb _ _ _ _ X _ _ RX6 _ _ at B
  unfold fFeed gFeed at hK
  refine g_iload_n B dX6_feed_0 rfl ?_
  refine g_i2l B dX6_feed_1 rfl ?_
  refine g_lconst (v := (0)) B dX6_feed_2 (by decide) ?_
  refine g_ldc2 (v := (255)) B dX6_feed_3 (mq k_X6_123) ?_
  refine g_callSi (As := [.long _, .long _, .long _]) B dX6_feed_6 (gc1 g_X6_73) (by rfl) hd_X6_in (by exact ⟨Nat.le_of_ble_eq_true rfl, Nat.le_of_ble_eq_true rfl⟩) ⟨rfl, rfl⟩ rfl rfl (by exact Nat.le_of_ble_eq_true rfl) (c_in ?_)
  rw [in_0, show (255 : Int64).toInt = 255 from rfl]
  refine g_if_ne (tgt := 15) B dX6_feed_9 (by decide) (fun c9 => ?_) (fun c9 => ?_)
  · rw [if_pos (b1_n0.mp c9), if_pos (b1_n0.mp c9)] at hK
    refine g_aload_n B dX6_feed_15 rfl ?_
    refine g_getI (T := TX6) (N := 42) B dX6_feed_16 (by decide) (by rfl) (inq inlX6) rfl 6 (by decide) (mq f_X6_125) (by rfl) ?_
    rw [hp]
    refine g_sipush (v := (160)) B dX6_feed_19 (by decide) ?_
    refine g_icmp_ne (tgt := 28) B dX6_feed_22 (by decide) (fun c22 => ?_) (fun c22 => ?_)
    · have e6 : ¬ p = 160 := fun q => c22 (congrArg nI q)
      rw [if_neg e6, if_neg e6] at hK
      refine g_aload_n B dX6_feed_28 rfl ?_
      refine g_getR (T := TX6) (N := 42) B dX6_feed_29 (by decide) (by rfl) (inq inlX6) rfl 5 (by decide) (mq f_X6_20) (by rfl) ?_
      refine g_aload_n B dX6_feed_32 rfl ?_
      refine g_getI (T := TX6) (N := 42) B dX6_feed_33 (by decide) (by rfl) (inq inlX6) rfl 6 (by decide) (mq f_X6_125) (by rfl) ?_
      rw [hp]
      refine g_iload_n B dX6_feed_36 rfl ?_
      refine g_iast B dX6_feed_37 (by decide) (by rfl) (by exact vp_in_nI (n := p) (by omega) (by omega)) ?_
      rw [i_cl (by omega)]
      refine g_aload_n B dX6_feed_38 rfl ?_
      refine g_dup B dX6_feed_39 rfl ?_
      refine g_getI (T := TX6) (N := 42) B dX6_feed_40 (by decide) (by rfl) (inq inlX6) rfl 6 (by decide) (mq f_X6_125) (by rfl) ?_
      rw [upS_3 (by decide), hp]
      refine g_iconst (v := (1)) B dX6_feed_43 (by decide) ?_
      refine g_iadd B dX6_feed_44 ?_
      rw [nI_1]
      refine g_putI (T := TX6) (N := 42) B dX6_feed_45 (by decide) (by rfl) (inq inlX6) rfl 6 (by decide) (mq f_X6_125) tyX6_ok nmX6 rfl ⟨rfl, rfl⟩ (by rfl) ?_
      refine g_aload_n B dX6_feed_48 rfl ?_
      refine g_getI (T := TX6) (N := 42) B dX6_feed_49 (by decide) (by rfl) (inq inlX6) rfl 6 (by decide) (mq f_X6_125) (by rfl) ?_
      rw [upS_1]
      refine g_ireti B dX6_feed_52 ?_
      exact hK
    · have e6 : p = 160 := (nI_eqI (by omega) (by omega)).mp (c22.trans (show (160 : Int32) = nI 160 from rfl))
      rw [if_pos e6, if_pos e6] at hK
      refine g_bipush (v := (-4)) B dX6_feed_25 (by decide) ?_
      refine g_ireti B dX6_feed_27 ?_
      exact hK
  · rw [if_neg (b1_0.mp c9), if_neg (b1_0.mp c9)] at hK
    refine g_bipush (v := (-2)) B dX6_feed_12 (by decide) ?_
    refine g_ireti B dX6_feed_14 ?_
    exact hK
def fForce (τ : St) (c : Nat) (x : Int32) : Int32 := if 0 ≤ x.toInt ∧ x.toInt < c then τ.1 0 4 else -2
def gForce (τ : St) (c : Nat) (x : Int32) : St := if 0 ≤ x.toInt ∧ x.toInt < c then upS τ 0 4 x else τ
set_option maxRecDepth 100000 in
set_option maxHeartbeats 4000000 in
theorem c_force {Z : LZ} {ad : Nat → Nat} {τ : St} {K : Int32 → St → Prop} {x : Int32} {c : Nat} (h1 : 1 ≤ c) (h6 : c ≤ 6) (hc : τ.1 0 3 = nI c) (hK : K (fForce τ c x) (gForce τ c x)) : CC lyM Z ad yX6_force wsX6_force (rmk 2) [.ref (ad 0), .int x] τ (rI K) := by
  refine CC.of (cc := cX6_force) (nL := 3) (ret := (some .int)) rfl rfl ⟨rfl, rfl⟩ (by exact Nat.le_of_ble_eq_true rfl) ?_
  intro X B
  change GG _ _ _ _ X _ 0 [some (.ref (ad 0)), some (.int x), none] [] _
  change Amb _ _ _ _ X _ _ RX6 _ _ at B
  unfold fForce gForce at hK
  refine g_iload_n B dX6_force_0 rfl ?_
  refine g_i2l B dX6_force_1 rfl ?_
  refine g_lconst (v := (0)) B dX6_force_2 (by decide) ?_
  refine g_aload_n B dX6_force_3 rfl ?_
  refine g_getI (T := TX6) (N := 42) B dX6_force_4 (by decide) (by rfl) (inq inlX6) rfl 3 (by decide) (mq f_X6_67) (by rfl) ?_
  rw [hc]
  refine g_iconst (v := (1)) B dX6_force_7 (by decide) ?_
  refine g_isub B dX6_force_8 ?_
  rw [show nI c - 1 = nI (c - 1) from pk_sub (b := 1) h1]
  refine g_i2l B dX6_force_9 rfl ?_
  refine g_callSi (As := [.long _, .long _, .long _]) B dX6_force_10 (gc1 g_X6_73) (by rfl) hd_X6_in (by exact ⟨Nat.le_of_ble_eq_true rfl, Nat.le_of_ble_eq_true rfl⟩) ⟨rfl, rfl⟩ rfl rfl (by exact Nat.le_of_ble_eq_true rfl) (c_in ?_)
  rw [in_0, i_long, i_n (by omega)]
  refine g_if_ne (tgt := 19) B dX6_force_13 (by decide) (fun c13 => ?_) (fun c13 => ?_)
  · have hyes : 0 ≤ x.toInt ∧ x.toInt < c := ⟨(b1_n0.mp c13).1, by have := (b1_n0.mp c13).2; omega⟩
    rw [if_pos hyes, if_pos hyes] at hK
    refine g_aload_n B dX6_force_19 rfl ?_
    refine g_getI (T := TX6) (N := 42) B dX6_force_20 (by decide) (by rfl) (inq inlX6) rfl 4 (by decide) (mq f_X6_107) (by rfl) ?_
    refine g_istore_n B dX6_force_23 (by decide) rfl ?_
    refine g_aload_n B dX6_force_24 rfl ?_
    refine g_iload_n B dX6_force_25 rfl ?_
    refine g_putI (T := TX6) (N := 42) B dX6_force_26 (by decide) (by rfl) (inq inlX6) rfl 4 (by decide) (mq f_X6_107) tyX6_ok nmX6 rfl ⟨rfl, rfl⟩ (by rfl) ?_
    refine g_iload_n B dX6_force_29 rfl ?_
    refine g_ireti B dX6_force_30 ?_
    exact hK
  · have hno : ¬ (0 ≤ x.toInt ∧ x.toInt < c) := fun q => b1_0.mp c13 ⟨q.1, by omega⟩
    rw [if_neg hno, if_neg hno] at hK
    refine g_bipush (v := (-2)) B dX6_force_16 (by decide) ?_
    refine g_ireti B dX6_force_18 ?_
    exact hK

