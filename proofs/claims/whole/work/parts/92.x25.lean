/-! users once more, with the count of the users that is read *program, both worlds kept alike* -/
theorem INV_rU {τ : St} {T : Nat → TC} {m c r p m' : Nat} {x y a n : Int32} (h : INV τ T m c r p) (hm' : m' ≤ 6) (h11 : (rUsers τ m x y a n).2.1 0 11 = nI m') : INV (rUsers τ m x y a n).2 T m' c r p := by
  have key : ∃ m2, INV (rUsers τ m x y a n).2 T m2 c r p := by
    unfold rUsers
    split
    · split
      · exact ⟨m, h⟩
      · split
        · exact ⟨m, h⟩
        · exact INV_users _ _ _ _ _ h
    · exact ⟨m, h⟩
  obtain ⟨m2, h2⟩ := key
  have e : nI m' = nI m2 := by rw [← h11]; exact h2.1.1.2
  have e2 : m' = m2 := nI_inj2 (by omega) (by have := h2.1.1.1; omega) e
  rw [e2]
  exact h2
theorem REL.mr {a b : St} {T : Nat → TC} {m c r p m' r' : Nat} (h : REL a b T m c r p) (e1 : nI m' = nI m) (e2 : nI r' = nI r) : REL a b T m' c r' p := by
  unfold REL at h ⊢
  rw [e1, e2]
  exact h
theorem gBack_11 {a : St} (h : ¬ a.1 0 35 = -1) : (gBack a).1 0 11 = a.1 0 35 := by
  unfold gBack
  rw [if_neg h, upS_2 (by decide), upS_2 (by decide), upS_1]
theorem gBack_4 {a : St} (h : ¬ a.1 0 35 = -1) : (gBack a).1 0 4 = a.1 0 37 := by
  unfold gBack
  rw [if_neg h, upS_1]
theorem sg_settle {a b : St} {v : Int32} (h : pkz [7, 8] (7 :: mQ) a b) (h7 : b.1 0 7 = v) : sg (upS a 0 7 v) b := by
  refine ⟨fun o h0 ho => ?_, fun k hk => ?_, h.2.2⟩
  · rw [upS_3 h0]
    exact h.1 o h0 (fun q => ho (by rcases List.mem_cons.mp q with e | q; exact e ▸ List.mem_cons_self; exact (List.mem_cons.mp q).elim (fun e => e ▸ List.mem_cons_of_mem _ List.mem_cons_self) (fun z => nomatch z)))
  · by_cases e : k = 7
    · subst e
      rw [upS_1]
      exact h7
    · rw [upS_2 e]
      exact h.2.1 k (fun q => (List.mem_cons.mp q).elim e hk)
set_option maxRecDepth 100000 in
set_option maxHeartbeats 4000000 in
theorem lz_users2 {Z : LZ} {ad : Nat → Nat} {X : CX} {T : Nat → TC} {c r p s n z : Nat} {K : Int32 → St → Prop} {y A : Int32} (B : Amb lyX Z ad (rmk 3) X cX5_users wsX5_users RX5 9 (some .int)) (hs : s < 4) (hn : n ≤ 6) (hc6 : c ≤ 6) (hz : z ≤ 40) : ∀ (k i m : Nat) (a b : St) (v at_ : Int32), i + k = n → m ≤ 6 → a.1 0 11 = nI m → REL a b T m c r p → ¬ a.1 12 s = 0 → a.1 14 s = nI z → (at_ = A + nI (3 * i) ∧ (1 ≤ i → 0 ≤ A.toInt ∧ A.toInt + 3 * i ≤ z)) → (∀ m' b', m' ≤ 6 → (usF s z A k i a m v).2.1 0 11 = nI m' → REL (usF s z A k i a m v).2 b' T m' c r p → K (usF s z A k i a m v).1 b') → GG lyX Z ad (rmk 3) X (rI K) 77 [some (.ref (ad 0)), some (.int (nI s)), some (.int y), some (.int A), some (.int (nI n)), some (.ref (ad (s + 44))), some (.int v), some (.int at_), some (.int (nI i))] [] b := by
  intro k
  induction k using Nat.strongRecOn with
  | ind k ih =>
    intro i m a b v at_ h1 hm6 hm11 hR h12 h14 hat hK
    obtain ⟨x1, x2, x3⟩ := (hR.2.2.2.2.2.1 s hs).2 h12
    rw [h14] at x2
    rw [h14, i_cl (by omega)] at x3
    refine g_iload B dX5_users_77 rfl ?_
    refine g_iload B dX5_users_79 rfl ?_
    refine g_icmp_ge (tgt := 145) B dX5_users_81 (by decide) (fun c81 => ?_) (fun c81 => ?_)
    · refine g_iload B dX5_users_145 rfl ?_
      refine g_ireti B dX5_users_147 ?_
      rw [nI_leI (by omega) (by omega)] at c81
      have e : k = 0 := by omega
      subst e
      exact hK m b hm6 hm11 hR
    · rw [nI_leI (by omega) (by omega)] at c81
      obtain ⟨k', rfl⟩ : ∃ k', k = k' + 1 := ⟨k - 1, by omega⟩
      unfold usF at hK
      have eat : (0 ≤ at_.toInt ∧ at_.toInt + 3 ≤ z) ↔ (0 ≤ A.toInt ∧ A.toInt + 3 * i + 3 ≤ z) := by
        by_cases q : 1 ≤ i
        · obtain ⟨q1, q2⟩ := hat.2 q
          have : at_.toInt = A.toInt + 3 * i := by
            rw [hat.1, i_add] <;> rw [i_n (by omega)] <;> omega
          omega
        · have e : i = 0 := by omega
          subst e
          have : at_ = A := by rw [hat.1]; exact Int32.add_zero A
          rw [this]
          omega
      refine g_aload B dX5_users_84 rfl ?_
      refine g_iload B dX5_users_86 rfl ?_
      refine g_iconst (v := (3)) B dX5_users_88 (by decide) ?_
      refine g_callVi (C := RX2) (As := [.int _, .int _]) B dX5_users_89 (gc1 g_X5_317) (by rfl) ⟨rfl, hd_X2_holds⟩ (by exact ⟨Nat.le_of_ble_eq_true rfl, Nat.le_of_ble_eq_true rfl⟩) ⟨rfl, rfl⟩ rfl rfl (by exact Nat.le_of_ble_eq_true rfl) (recv2 hs) (x_holds hs hz x2 ?_)
      refine g_if_ne (tgt := 98) B dX5_users_92 (by decide) (fun c92 => ?_) (fun c92 => ?_)
      · have hyes0 := b1_n0.mp c92
        rw [show (3 : Int32).toInt = 3 from rfl] at hyes0
        have hyes : 0 ≤ A.toInt ∧ A.toInt + 3 * i + 3 ≤ z := eat.mp ⟨hyes0.1, hyes0.2.2⟩
        rw [if_pos hyes] at hK
        obtain ⟨Q, hQ, rfl⟩ := i_nat (x := A) (n := 41) hyes.1 (by omega)
        rw [i_n (by omega)] at hyes
        have eat2 : at_ = nI (Q + 3 * i) := by rw [hat.1, nI_add]
        subst eat2
        rw [i_cl (show Q < 2147483648 by omega)] at hK
        have c0 : (nI (Q + 3 * i)).toNatClampNeg = Q + 3 * i := i_cl (by omega)
        have c1' : (nI (Q + 3 * i + 1)).toNatClampNeg = Q + 3 * i + 1 := i_cl (by omega)
        have c2' : (nI (Q + 3 * i + 2)).toNatClampNeg = Q + 3 * i + 2 := i_cl (by omega)
        have y0 := x3 (Q + 3 * i) (by omega)
        have y1 := x3 (Q + 3 * i + 1) (by omega)
        have y2 := x3 (Q + 3 * i + 2) (by omega)
        rw [show 40 * s + (Q + 3 * i) = 40 * s + Q + 3 * i by omega] at y0
        rw [show 40 * s + (Q + 3 * i + 1) = 40 * s + Q + 3 * i + 1 by omega] at y1
        rw [show 40 * s + (Q + 3 * i + 2) = 40 * s + Q + 3 * i + 2 by omega] at y2
        refine g_aload_n B dX5_users_98 rfl ?_
        refine g_aload B dX5_users_99 rfl ?_
        refine g_getR (T := TX2) (N := 3) B dX5_users_101 (hX (by omega)) (lo_s hs) (inq inlX2) rfl 2 (by decide) (mq f_X5_272) (by rfl) ?_
        refine g_iload B dX5_users_104 rfl ?_
        refine g_iald B dX5_users_106 (hX (by omega)) (lo_i hs) (by exact vp_in_nI (by omega) (by omega)) ?_
        rw [c0, y0]
        refine g_aload B dX5_users_107 rfl ?_
        refine g_getR (T := TX2) (N := 3) B dX5_users_109 (hX (by omega)) (lo_s hs) (inq inlX2) rfl 2 (by decide) (mq f_X5_272) (by rfl) ?_
        refine g_iload B dX5_users_112 rfl ?_
        refine g_iconst (v := (1)) B dX5_users_114 (by decide) ?_
        refine g_iadd B dX5_users_115 ?_
        rw [nI_1]
        refine g_iald B dX5_users_116 (hX (by omega)) (lo_i hs) (by exact vp_in_nI (by omega) (by omega)) ?_
        rw [c1', y1]
        refine g_aload B dX5_users_117 rfl ?_
        refine g_getR (T := TX2) (N := 3) B dX5_users_119 (hX (by omega)) (lo_s hs) (inq inlX2) rfl 2 (by decide) (mq f_X5_272) (by rfl) ?_
        refine g_iload B dX5_users_122 rfl ?_
        refine g_iconst (v := (2)) B dX5_users_124 (by decide) ?_
        refine g_iadd B dX5_users_125 ?_
        rw [show nI (Q + 3 * i) + 2 = nI (Q + 3 * i + 2) from nI_add _ 2]
        refine g_iald B dX5_users_126 (hX (by omega)) (lo_i hs) (by exact vp_in_nI (by omega) (by omega)) ?_
        rw [c2', y2]
        refine g_callVi (C := RX5) (As := [.int _, .int _, .int _]) B dX5_users_127 (gc1 g_X5_321) (by rfl) ⟨rfl, hd_X5_user⟩ (by exact ⟨Nat.le_of_ble_eq_true rfl, Nat.le_of_ble_eq_true rfl⟩) ⟨rfl, rfl⟩ rfl rfl (by exact Nat.le_of_ble_eq_true rfl) recv5 (z_user hm6 hc6 hR (fun b1 hR1 => ?_))
        have g14 := gUser_14 (a := a) (m := m) (s := s) (x := a.1 15 (40 * s + Q + 3 * i)) (y := a.1 15 (40 * s + Q + 3 * i + 1)) (z := a.1 15 (40 * s + Q + 3 * i + 2))
        refine g_if_lt (tgt := 136) B dX5_users_130 (by decide) (fun c130 => ?_) (fun c130 => ?_)
        · refine g_iinc (c9 := (3)) B dX5_users_136 rfl (by decide) (by decide) rfl ?_
          refine g_iinc (c9 := (1)) B dX5_users_139 rfl (by decide) (by decide) rfl ?_
          refine g_goto (tgt := 77) B dX5_users_142 (by decide) ?_
          rw [nI_1 i]
          have e3 : nI (Q + 3 * i) + 3 = nI Q + nI (3 * (i + 1)) := by
            rw [show nI (Q + 3 * i) + 3 = nI (Q + 3 * i + 3) from nI_add _ 3, nI_add]
            congr 1
          refine ih k' (by omega) (i + 1) _ _ b1 _ _ (by omega) (mU_le hm6) (gUser_11 hm11) hR1 (by rw [g14.2]; exact h12) (by rw [g14.1]; exact h14) ⟨e3, fun _ => by rw [i_n (by omega)]; omega⟩ (fun m' b' q1 q3 q2 => ?_)
          have h9 := hK m' b'
          first
            | (rw [if_pos c130, Int32.add_zero] at h9; exact h9 q1 q3 q2)
            | (rw [if_neg (Int32.not_lt.mpr (Int32.not_lt.mp c130))] at h9; exact h9 q1 q3 q2)
            | (rw [if_neg c130] at h9; exact h9 q1 q3 q2)
        · refine g_iinc (c9 := (1)) B dX5_users_133 rfl (by decide) (by decide) rfl ?_
          refine g_iinc (c9 := (3)) B dX5_users_136 rfl (by decide) (by decide) rfl ?_
          refine g_iinc (c9 := (1)) B dX5_users_139 rfl (by decide) (by decide) rfl ?_
          refine g_goto (tgt := 77) B dX5_users_142 (by decide) ?_
          rw [nI_1 i]
          have e3 : nI (Q + 3 * i) + 3 = nI Q + nI (3 * (i + 1)) := by
            rw [show nI (Q + 3 * i) + 3 = nI (Q + 3 * i + 3) from nI_add _ 3, nI_add]
            congr 1
          refine ih k' (by omega) (i + 1) _ _ b1 _ _ (by omega) (mU_le hm6) (gUser_11 hm11) hR1 (by rw [g14.2]; exact h12) (by rw [g14.1]; exact h14) ⟨e3, fun _ => by rw [i_n (by omega)]; omega⟩ (fun m' b' q1 q3 q2 => ?_)
          have h9 := hK m' b'
          first
            | (rw [if_pos c130, Int32.add_zero] at h9; exact h9 q1 q3 q2)
            | (rw [if_neg (Int32.not_lt.mpr (Int32.not_lt.mp c130))] at h9; exact h9 q1 q3 q2)
            | (rw [if_neg c130] at h9; exact h9 q1 q3 q2)
      · have hno : ¬ (0 ≤ A.toInt ∧ A.toInt + 3 * i + 3 ≤ z) := fun q => b1_0.mp c92 (by
          have := eat.mpr q
          exact ⟨this.1, by decide, by rw [show (3 : Int32).toInt = 3 from rfl]; omega⟩)
        rw [if_neg hno] at hK
        refine g_bipush (v := (-12)) B dX5_users_95 (by decide) ?_
        refine g_ireti B dX5_users_97 ?_
        exact hK m b hm6 hm11 hR
set_option maxRecDepth 100000 in
set_option maxHeartbeats 4000000 in
theorem z_users2 {Z : LZ} {ad : Nat → Nat} {a b : St} {T : Nat → TC} {m c r p : Nat} {K : Int32 → St → Prop} {x y A v : Int32} (hI : INV a T m c r p) (hR : REL a b T m c r p) (hK : ∀ m' b', m' ≤ 6 → (rUsers a m x y A v).2.1 0 11 = nI m' → REL (rUsers a m x y A v).2 b' T m' c r p → K (rUsers a m x y A v).1 b') : CC lyX Z ad yX5_users wsX5_users (rmk 3) [.ref (ad 0), .int x, .int y, .int A, .int v] b (rI K) := by
  refine CC.of (cc := cX5_users) (nL := 9) (ret := (some .int)) rfl rfl ⟨rfl, rfl⟩ (by exact Nat.le_of_ble_eq_true rfl) ?_
  intro X B
  change GG _ _ _ _ X _ 0 [some (.ref (ad 0)), some (.int x), some (.int y), some (.int A), some (.int v), none, none, none, none] [] _
  change Amb _ _ _ _ X _ _ RX5 _ _ at B
  have hSh := hR.2.2.2.2.2.1
  have hS := hI.2.2.2.2
  have hm6 := hI.1.1.1
  have hm11 := hI.1.1.2
  have hc6 := hI.1.2.1.2.1
  unfold rUsers at hK
  refine g_iload_n B dX5_users_0 rfl ?_
  refine g_callSi (As := [.int _]) B dX5_users_1 (gc1 g_X5_249) (by rfl) hd_X5_isSheet (by exact ⟨Nat.le_of_ble_eq_true rfl, Nat.le_of_ble_eq_true rfl⟩) ⟨rfl, rfl⟩ rfl rfl (by exact Nat.le_of_ble_eq_true rfl) (x_isSheet ?_)
  refine g_if_eq (tgt := 26) B dX5_users_4 (by decide) (fun c4 => ?_) (fun c4 => ?_)
  · have hp : ¬ usrsP x y v := fun q => by
      first
      | exact c23 (i_le.mpr q.2.2.2)
      | exact absurd (i_lt.mp c16) (by have := q.2.2.1; rw [i0]; omega)
      | exact b1_0.mp c11 q.2.1
      | exact b1_0.mp c4 q.1
    rw [if_neg hp] at hK
    refine g_bipush (v := (-2)) B dX5_users_26 (by decide) ?_
    refine g_ireti B dX5_users_28 ?_
    exact hK m b hm6 hm11 hR
  · refine g_iload_n B dX5_users_7 rfl ?_
    refine g_callSi (As := [.int _]) B dX5_users_8 (gc1 g_X5_311) (by rfl) hd_X5_isSort (by exact ⟨Nat.le_of_ble_eq_true rfl, Nat.le_of_ble_eq_true rfl⟩) ⟨rfl, rfl⟩ rfl rfl (by exact Nat.le_of_ble_eq_true rfl) (x_isSort ?_)
    refine g_if_eq (tgt := 26) B dX5_users_11 (by decide) (fun c11 => ?_) (fun c11 => ?_)
    · have hp : ¬ usrsP x y v := fun q => by
        first
        | exact c23 (i_le.mpr q.2.2.2)
        | exact absurd (i_lt.mp c16) (by have := q.2.2.1; rw [i0]; omega)
        | exact b1_0.mp c11 q.2.1
        | exact b1_0.mp c4 q.1
      rw [if_neg hp] at hK
      refine g_bipush (v := (-2)) B dX5_users_26 (by decide) ?_
      refine g_ireti B dX5_users_28 ?_
      exact hK m b hm6 hm11 hR
    · refine g_iload B dX5_users_14 rfl ?_
      refine g_if_lt (tgt := 26) B dX5_users_16 (by decide) (fun c16 => ?_) (fun c16 => ?_)
      · have hp : ¬ usrsP x y v := fun q => by
          first
          | exact c23 (i_le.mpr q.2.2.2)
          | exact absurd (i_lt.mp c16) (by have := q.2.2.1; rw [i0]; omega)
          | exact b1_0.mp c11 q.2.1
          | exact b1_0.mp c4 q.1
        rw [if_neg hp] at hK
        refine g_bipush (v := (-2)) B dX5_users_26 (by decide) ?_
        refine g_ireti B dX5_users_28 ?_
        exact hK m b hm6 hm11 hR
      · refine g_iload B dX5_users_19 rfl ?_
        refine g_bipush (v := (6)) B dX5_users_21 (by decide) ?_
        refine g_icmp_le (tgt := 29) B dX5_users_23 (by decide) (fun c23 => ?_) (fun c23 => ?_)
        · have h1 := b1_n0.mp c4
          have hp : usrsP x y v := ⟨h1, b1_n0.mp c11, i_le.mp (Int32.not_lt.mp c16), i_le.mp c23⟩
          have h3 := hp.2.2
          rw [if_pos hp] at hK
          obtain ⟨s, hs, rfl⟩ := i_nat (n := 4) h1.1 (by omega)
          have hcs : (nI s).toNatClampNeg = s := i_cl (by omega)
          rw [hcs] at hK
          refine g_aload_n B dX5_users_29 rfl ?_
          refine g_getR (T := TX5) (N := 16) B dX5_users_30 (by decide) (by rfl) (inq inlX5) rfl 9 (by decide) (mq f_X5_52) (by rfl) ?_
          refine g_iload_n B dX5_users_33 rfl ?_
          refine g_aald B dX5_users_34 (by decide) (by rfl) (by exact vp_in_nI hs (by omega)) ?_
          rw [hcs]
          refine g_astore B dX5_users_35 (by decide) rfl ?_
          refine g_aload B dX5_users_37 rfl ?_
          refine g_callVi (C := RX2) (As := []) B dX5_users_39 (gc1 g_X5_252) (by rfl) ⟨rfl, hd_X2_isMissing⟩ (by exact ⟨Nat.le_of_ble_eq_true rfl, Nat.le_of_ble_eq_true rfl⟩) ⟨rfl, rfl⟩ rfl rfl (by exact Nat.le_of_ble_eq_true rfl) (recv2 hs) (x_miss hs ?_)
          refine g_if_ne (tgt := 57) B dX5_users_42 (by decide) (fun c42 => ?_) (fun c42 => ?_)
          · skip
            refine g_aload B dX5_users_57 rfl ?_
            refine g_callVi (C := RX2) (As := []) B dX5_users_59 (gc1 g_X5_252) (by rfl) ⟨rfl, hd_X2_isMissing⟩ (by exact ⟨Nat.le_of_ble_eq_true rfl, Nat.le_of_ble_eq_true rfl⟩) ⟨rfl, rfl⟩ rfl rfl (by exact Nat.le_of_ble_eq_true rfl) (recv2 hs) (x_miss hs ?_)
            refine g_if_eq (tgt := 68) B dX5_users_62 (by decide) (fun c62 => ?_) (fun c62 => ?_)
            · refine g_iconst (v := (0)) B dX5_users_68 (by decide) ?_
              refine g_istore B dX5_users_69 (by decide) rfl ?_
              refine g_iload_n B dX5_users_71 rfl ?_
              refine g_istore B dX5_users_72 (by decide) rfl ?_
              refine g_iconst (v := (0)) B dX5_users_74 (by decide) ?_
              refine g_istore B dX5_users_75 (by decide) rfl ?_
              have h5 : ¬ a.1 12 s = 0 := fun q => b1_0.mp c62 ((sh_ge hSh hS hs).mpr q)
              have h6 : ¬ (¬ a.1 12 s = 0 ∧ ¬ a.1 13 s = y) := fun q => by
                first
                | exact q.2 (by assumption)
                | exact h5 ((sh_ge hSh hS hs).mp (b1_n0.mp c42))
              rw [if_neg h6, if_neg h5] at hK
              obtain ⟨z, hz, ez⟩ := (hS s hs h5).1
              obtain ⟨n, hn, rfl⟩ := i_nat (x := v) (n := 7) h3.1 (by omega)
              rw [ez, i_cl (by omega), i_cl (by omega)] at hK
              exact lz_users2 B hs (by omega) hc6 hz n 0 m a b 0 A (by omega) hm6 hm11 hR h5 ez ⟨(Int32.add_zero A).symm, fun q => by omega⟩ hK
            · have h5 : a.1 12 s = 0 := (sh_ge hSh hS hs).mp (b1_n0.mp c62)
              have h6 : ¬ (¬ a.1 12 s = 0 ∧ ¬ a.1 13 s = y) := fun q => q.1 h5
              rw [if_neg h6, if_pos h5] at hK
              refine g_bipush (v := (-11)) B dX5_users_65 (by decide) ?_
              refine g_ireti B dX5_users_67 ?_
              exact hK m b hm6 hm11 hR
          · have h4 : ¬ a.1 12 s = 0 := fun q => b1_0.mp c42 ((sh_ge hSh hS hs).mpr q)
            have x1 := ((hSh s hs).2 h4).1
            refine g_aload B dX5_users_45 rfl ?_
            refine g_getI (T := TX2) (N := 3) B dX5_users_47 (hX (by omega)) (lo_s hs) (inq inlX2) rfl 0 (by decide) (mq f_X5_314) (by rfl) ?_
            rw [x1]
            refine g_iload_n B dX5_users_50 rfl ?_
            refine g_icmp_eq (tgt := 57) B dX5_users_51 (by decide) (fun c51 => ?_) (fun c51 => ?_)
            · skip
              refine g_aload B dX5_users_57 rfl ?_
              refine g_callVi (C := RX2) (As := []) B dX5_users_59 (gc1 g_X5_252) (by rfl) ⟨rfl, hd_X2_isMissing⟩ (by exact ⟨Nat.le_of_ble_eq_true rfl, Nat.le_of_ble_eq_true rfl⟩) ⟨rfl, rfl⟩ rfl rfl (by exact Nat.le_of_ble_eq_true rfl) (recv2 hs) (x_miss hs ?_)
              refine g_if_eq (tgt := 68) B dX5_users_62 (by decide) (fun c62 => ?_) (fun c62 => ?_)
              · refine g_iconst (v := (0)) B dX5_users_68 (by decide) ?_
                refine g_istore B dX5_users_69 (by decide) rfl ?_
                refine g_iload_n B dX5_users_71 rfl ?_
                refine g_istore B dX5_users_72 (by decide) rfl ?_
                refine g_iconst (v := (0)) B dX5_users_74 (by decide) ?_
                refine g_istore B dX5_users_75 (by decide) rfl ?_
                have h5 : ¬ a.1 12 s = 0 := fun q => b1_0.mp c62 ((sh_ge hSh hS hs).mpr q)
                have h6 : ¬ (¬ a.1 12 s = 0 ∧ ¬ a.1 13 s = y) := fun q => by
                  first
                  | exact q.2 (by assumption)
                  | exact h5 ((sh_ge hSh hS hs).mp (b1_n0.mp c42))
                rw [if_neg h6, if_neg h5] at hK
                obtain ⟨z, hz, ez⟩ := (hS s hs h5).1
                obtain ⟨n, hn, rfl⟩ := i_nat (x := v) (n := 7) h3.1 (by omega)
                rw [ez, i_cl (by omega), i_cl (by omega)] at hK
                exact lz_users2 B hs (by omega) hc6 hz n 0 m a b 0 A (by omega) hm6 hm11 hR h5 ez ⟨(Int32.add_zero A).symm, fun q => by omega⟩ hK
              · have h5 : a.1 12 s = 0 := (sh_ge hSh hS hs).mp (b1_n0.mp c62)
                have h6 : ¬ (¬ a.1 12 s = 0 ∧ ¬ a.1 13 s = y) := fun q => q.1 h5
                rw [if_neg h6, if_pos h5] at hK
                refine g_bipush (v := (-11)) B dX5_users_65 (by decide) ?_
                refine g_ireti B dX5_users_67 ?_
                exact hK m b hm6 hm11 hR
            · rw [if_pos ⟨h4, c51⟩] at hK
              refine g_bipush (v := (-13)) B dX5_users_54 (by decide) ?_
              refine g_ireti B dX5_users_56 ?_
              exact hK m b hm6 hm11 hR
        · have hp : ¬ usrsP x y v := fun q => by
            first
            | exact c23 (i_le.mpr q.2.2.2)
            | exact absurd (i_lt.mp c16) (by have := q.2.2.1; rw [i0]; omega)
            | exact b1_0.mp c11 q.2.1
            | exact b1_0.mp c4 q.1
          rw [if_neg hp] at hK
          refine g_bipush (v := (-2)) B dX5_users_26 (by decide) ?_
          refine g_ireti B dX5_users_28 ?_
          exact hK m b hm6 hm11 hR

