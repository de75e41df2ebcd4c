/-! users of a sheet, counts, image, back *reference* -/
def mU (m : Nat) (x y z : Int32) : Nat := if usrP x y z then (if m = 6 then m else m + 1) else m
theorem mU_le {m : Nat} {x y z : Int32} (h : m ≤ 6) : mU m x y z ≤ 6 := by
  unfold mU
  (repeat' split) <;> omega
theorem gUser_o {τ : St} {m o : Nat} {x y z : Int32} (h0 : o ≠ 0) (h5 : o ≠ 5) (h6 : o ≠ 6) : (gUser τ m x y z).1 o = τ.1 o := by
  unfold gUser
  (repeat' split)
  · rfl
  · rw [upS_3 h0, upS_3 h6, upS_3 h6, upS_3 h5]
  · rfl
theorem gUser_11 {τ : St} {m : Nat} {x y z : Int32} (h : τ.1 0 11 = nI m) : (gUser τ m x y z).1 0 11 = nI (mU m x y z) := by
  unfold gUser mU
  (repeat' split)
  · exact h
  · rw [upS_1]
  · exact h
def usF (s z : Nat) (a : Int32) : Nat → Nat → St → Nat → Int32 → Int32 × St
  | 0, _, τ, _, c => (c, τ)
  | r + 1, k, τ, m, c => if 0 ≤ a.toInt ∧ a.toInt + 3 * k + 3 ≤ z then
      usF s z a r (k + 1) (gUser τ m (τ.1 15 (40 * s + a.toNatClampNeg + 3 * k)) (τ.1 15 (40 * s + a.toNatClampNeg + 3 * k + 1)) (τ.1 15 (40 * s + a.toNatClampNeg + 3 * k + 2))) (mU m (τ.1 15 (40 * s + a.toNatClampNeg + 3 * k)) (τ.1 15 (40 * s + a.toNatClampNeg + 3 * k + 1)) (τ.1 15 (40 * s + a.toNatClampNeg + 3 * k + 2))) (c + (if fUser m (τ.1 15 (40 * s + a.toNatClampNeg + 3 * k)) (τ.1 15 (40 * s + a.toNatClampNeg + 3 * k + 1)) (τ.1 15 (40 * s + a.toNatClampNeg + 3 * k + 2)) < 0 then 0 else 1))
    else (-12, τ)
set_option maxRecDepth 100000 in
set_option maxHeartbeats 4000000 in
theorem l_users {Z : LZ} {ad : Nat → Nat} {X : CX} {K : Int32 → St → Prop} {s z n : Nat} {y a : Int32} (B : Amb lyM Z ad (rmk 3) X cX6_users wsX6_users RX6 8 (some .int)) (hs : s < 4) (hz : z ≤ 40) (hn : n ≤ 6) : ∀ (r k : Nat) (τ : St) (m : Nat) (c : Int32), k + r = n → m ≤ 6 → τ.1 0 11 = nI m → τ.1 14 s = nI z → K (usF s z a r k τ m c).1 (usF s z a r k τ m c).2 → GG lyM Z ad (rmk 3) X (rI K) 75 [some (.ref (ad 0)), some (.int (nI s)), some (.int y), some (.int a), some (.int (nI n)), some (.int c), some (.int (nI k)), none] [] τ := by
  intro r
  induction r using Nat.strongRecOn with
  | ind r ih =>
    intro k τ m c h1 hm6 hm hsz hK
    have e3 : (nI z - nI (3 * k) - 3).toInt = (z : Int) - 3 * k - 3 ∨ n ≤ k := by
      by_cases q : n ≤ k
      · exact Or.inr q
      · left
        rw [show (3 : Int32) = nI 3 from rfl, i_sub, i_sub] <;> (simp only [i_n (show z < 2147483648 by omega), i_n (show 3 * k < 2147483648 by omega), i_n (show 3 < 2147483648 by omega)]; try omega)
        all_goals (rw [i_sub] <;> (simp only [i_n (show z < 2147483648 by omega), i_n (show 3 * k < 2147483648 by omega)]; omega))
    refine g_iload B dX6_users_75 rfl ?_
    refine g_iload B dX6_users_77 rfl ?_
    refine g_icmp_ge (tgt := 167) B dX6_users_79 (by decide) (fun c79 => ?_) (fun c79 => ?_)
    · refine g_iload B dX6_users_167 rfl ?_
      refine g_ireti B dX6_users_169 ?_
      first
        | exact hK
        | (rw [nI_leI (by omega) (by omega)] at c79
           have e : r = 0 := by omega
           subst e
           exact hK)
    · rw [nI_leI (by omega) (by omega)] at c79
      obtain ⟨r', rfl⟩ : ∃ r', r = r' + 1 := ⟨r - 1, by omega⟩
      unfold usF at hK
      refine g_iload_n B dX6_users_82 rfl ?_
      refine g_if_lt (tgt := 103) B dX6_users_83 (by decide) (fun c83 => ?_) (fun c83 => ?_)
      · have hno : ¬ (0 ≤ a.toInt ∧ a.toInt + 3 * k + 3 ≤ z) := fun q => by
          first
          | (rw [i_lt, i0] at c83; omega)
          | (rw [i_le] at c100; omega)
        rw [if_neg hno] at hK
        refine g_bipush (v := (-12)) B dX6_users_103 (by decide) ?_
        refine g_ireti B dX6_users_105 ?_
        first
          | exact hK
          | (rw [nI_leI (by omega) (by omega)] at c79
             have e : r = 0 := by omega
             subst e
             exact hK)
      · refine g_iload_n B dX6_users_86 rfl ?_
        refine g_aload_n B dX6_users_87 rfl ?_
        refine g_getR (T := TX6) (N := 42) B dX6_users_88 (by decide) (by rfl) (inq inlX6) rfl 40 (by decide) (mq f_X6_57) (by rfl) ?_
        refine g_iload_n B dX6_users_91 rfl ?_
        refine g_iald B dX6_users_92 (by decide) (by rfl) (by exact vp_in_nI hs (by omega)) ?_
        rw [i_cl (by omega), hsz]
        refine g_iconst (v := (3)) B dX6_users_93 (by decide) ?_
        refine g_iload B dX6_users_94 rfl ?_
        refine g_imul B dX6_users_96 ?_
        rw [show (3 : Int32) * nI k = nI (3 * k) from pk_mul 3 k]
        refine g_isub B dX6_users_97 ?_
        refine g_iconst (v := (3)) B dX6_users_98 (by decide) ?_
        refine g_isub B dX6_users_99 ?_
        refine g_icmp_le (tgt := 106) B dX6_users_100 (by decide) (fun c100 => ?_) (fun c100 => ?_)
        · have hyes : 0 ≤ a.toInt ∧ a.toInt + 3 * k + 3 ≤ z := by
            rw [i_lt, i0] at c83
            rw [i_le] at c100
            omega
          rw [if_pos hyes] at hK
          obtain ⟨b, hb, hab⟩ := i_nat (n := 41) hyes.1 (by omega)
          have hb3 : b + 3 * k + 3 ≤ z := by have := hyes.2; rw [hab, i_n (by omega)] at this; omega
          subst hab
          rw [i_cl (by omega)] at hK
          refine g_bipush (v := (40)) B dX6_users_106 (by decide) ?_
          refine g_iload_n B dX6_users_108 rfl ?_
          refine g_imul B dX6_users_109 ?_
          rw [show (40 : Int32) * nI s = nI (40 * s) from pk_mul 40 s]
          refine g_iload_n B dX6_users_110 rfl ?_
          refine g_iadd B dX6_users_111 ?_
          rw [nI_add]
          refine g_iconst (v := (3)) B dX6_users_112 (by decide) ?_
          refine g_iload B dX6_users_113 rfl ?_
          refine g_imul B dX6_users_115 ?_
          rw [show (3 : Int32) * nI k = nI (3 * k) from pk_mul 3 k]
          refine g_iadd B dX6_users_116 ?_
          rw [nI_add]
          refine g_istore B dX6_users_117 (by decide) rfl ?_
          refine g_iload B dX6_users_119 rfl ?_
          refine g_aload_n B dX6_users_121 rfl ?_
          refine g_aload_n B dX6_users_122 rfl ?_
          refine g_getR (T := TX6) (N := 42) B dX6_users_123 (by decide) (by rfl) (inq inlX6) rfl 41 (by decide) (mq f_X6_60) (by rfl) ?_
          refine g_iload B dX6_users_126 rfl ?_
          refine g_iald B dX6_users_128 (by decide) (by rfl) (by exact vp_in_nI (n := 40 * s + b + 3 * k) (by omega) (by omega)) ?_
          rw [i_cl (by omega)]
          refine g_aload_n B dX6_users_129 rfl ?_
          refine g_getR (T := TX6) (N := 42) B dX6_users_130 (by decide) (by rfl) (inq inlX6) rfl 41 (by decide) (mq f_X6_60) (by rfl) ?_
          refine g_iload B dX6_users_133 rfl ?_
          refine g_iconst (v := (1)) B dX6_users_135 (by decide) ?_
          refine g_iadd B dX6_users_136 ?_
          rw [nI_1]
          refine g_iald B dX6_users_137 (by decide) (by rfl) (by exact vp_in_nI (n := 40 * s + b + 3 * k + 1) (by omega) (by omega)) ?_
          rw [i_cl (by omega)]
          refine g_aload_n B dX6_users_138 rfl ?_
          refine g_getR (T := TX6) (N := 42) B dX6_users_139 (by decide) (by rfl) (inq inlX6) rfl 41 (by decide) (mq f_X6_60) (by rfl) ?_
          refine g_iload B dX6_users_142 rfl ?_
          refine g_iconst (v := (2)) B dX6_users_144 (by decide) ?_
          refine g_iadd B dX6_users_145 ?_
          rw [show nI (40 * s + b + 3 * k) + 2 = nI (40 * s + b + 3 * k + 2) from nI_add _ 2]
          refine g_iald B dX6_users_146 (by decide) (by rfl) (by exact vp_in_nI (n := 40 * s + b + 3 * k + 2) (by omega) (by omega)) ?_
          rw [i_cl (by omega)]
          refine g_callVi (C := RX6) (As := [.int _, .int _, .int _]) B dX6_users_147 (gc1 g_X6_421) (by rfl) ⟨rfl, hd_X6_user⟩ (by exact ⟨Nat.le_of_ble_eq_true rfl, Nat.le_of_ble_eq_true rfl⟩) ⟨rfl, rfl⟩ rfl rfl (by exact Nat.le_of_ble_eq_true rfl) recvM (c_user hm6 hm ?_)
          refine g_if_lt (tgt := 157) B dX6_users_150 (by decide) (fun c150 => ?_) (fun c150 => ?_)
          · refine g_iconst (v := (0)) B dX6_users_157 (by decide) ?_
            refine g_iadd B dX6_users_158 ?_
            refine g_istore B dX6_users_159 (by decide) rfl ?_
            refine g_iinc (c9 := (1)) B dX6_users_161 rfl (by decide) (by decide) rfl ?_
            refine g_goto (tgt := 75) B dX6_users_164 (by decide) ?_
            rw [nI_1 k]
            refine g_drop 7 ?_
            refine ih r' (by omega) (k + 1) _ _ _ (by omega) (mU_le hm6) (gUser_11 hm) (by rw [gUser_o (by decide) (by decide) (by decide)]; exact hsz) ?_
            first
              | (rw [if_pos c150] at hK; exact hK)
              | (rw [if_neg c150] at hK; exact hK)
          · refine g_iconst (v := (1)) B dX6_users_153 (by decide) ?_
            refine g_goto (tgt := 158) B dX6_users_154 (by decide) ?_
            refine g_iadd B dX6_users_158 ?_
            refine g_istore B dX6_users_159 (by decide) rfl ?_
            refine g_iinc (c9 := (1)) B dX6_users_161 rfl (by decide) (by decide) rfl ?_
            refine g_goto (tgt := 75) B dX6_users_164 (by decide) ?_
            rw [nI_1 k]
            refine g_drop 7 ?_
            refine ih r' (by omega) (k + 1) _ _ _ (by omega) (mU_le hm6) (gUser_11 hm) (by rw [gUser_o (by decide) (by decide) (by decide)]; exact hsz) ?_
            first
              | (rw [if_pos c150] at hK; exact hK)
              | (rw [if_neg c150] at hK; exact hK)
        · have hno : ¬ (0 ≤ a.toInt ∧ a.toInt + 3 * k + 3 ≤ z) := fun q => by
            first
            | (rw [i_lt, i0] at c83; omega)
            | (rw [i_le] at c100; omega)
          rw [if_neg hno] at hK
          refine g_bipush (v := (-12)) B dX6_users_103 (by decide) ?_
          refine g_ireti B dX6_users_105 ?_
          first
            | exact hK
            | (rw [nI_leI (by omega) (by omega)] at c79
               have e : r = 0 := by omega
               subst e
               exact hK)
abbrev usrsP (x y n : Int32) : Prop := isSh x ∧ (0 ≤ y.toInt ∧ y.toInt ≤ 2) ∧ 0 ≤ n.toInt ∧ n.toInt ≤ 6
def rUsers (τ : St) (m : Nat) (x y a n : Int32) : Int32 × St :=
  if usrsP x y n then
    (if ¬ τ.1 12 x.toNatClampNeg = 0 ∧ ¬ τ.1 13 x.toNatClampNeg = y then (-13, τ)
    else if τ.1 12 x.toNatClampNeg = 0 then (-11, τ)
    else usF x.toNatClampNeg (τ.1 14 x.toNatClampNeg).toNatClampNeg a n.toNatClampNeg 0 τ m 0)
  else (-2, τ)
set_option maxRecDepth 100000 in
set_option maxHeartbeats 4000000 in
theorem c_users {Z : LZ} {ad : Nat → Nat} {τ : St} {K : Int32 → St → Prop} {x y a n : Int32} {m : Nat} (hS : SHO τ) (hm6 : m ≤ 6) (hm : τ.1 0 11 = nI m) (hK : K (rUsers τ m x y a n).1 (rUsers τ m x y a n).2) : CC lyM Z ad yX6_users wsX6_users (rmk 3) [.ref (ad 0), .int x, .int y, .int a, .int n] τ (rI K) := by
  refine CC.of (cc := cX6_users) (nL := 8) (ret := (some .int)) rfl rfl ⟨rfl, rfl⟩ (by exact Nat.le_of_ble_eq_true rfl) ?_
  intro X B
  change GG _ _ _ _ X _ 0 [some (.ref (ad 0)), some (.int x), some (.int y), some (.int a), some (.int n), none, none, none] [] _
  change Amb _ _ _ _ X _ _ RX6 _ _ at B
  unfold rUsers at hK
  refine g_iload_n B dX6_users_0 rfl ?_
  refine g_callSi (As := [.int _]) B dX6_users_1 (gc1 g_X6_391) (by rfl) hd_X6_isSheet (by exact ⟨Nat.le_of_ble_eq_true rfl, Nat.le_of_ble_eq_true rfl⟩) ⟨rfl, rfl⟩ rfl rfl (by exact Nat.le_of_ble_eq_true rfl) (c_isSheet ?_)
  refine g_if_eq (tgt := 32) B dX6_users_4 (by decide) (fun c4 => ?_) (fun c4 => ?_)
  · have hno : ¬ usrsP x y n := fun q => by
      first
      | exact b1_0.mp c4 q.1
      | exact b1_0.mp c16 q.2.1
      | exact b1_0.mp c29 q.2.2
    rw [if_neg hno] at hK
    refine g_bipush (v := (-2)) B dX6_users_32 (by decide) ?_
    refine g_ireti B dX6_users_34 ?_
    exact hK
  · refine g_iload_n B dX6_users_7 rfl ?_
    refine g_i2l B dX6_users_8 rfl ?_
    refine g_lconst (v := (0)) B dX6_users_9 (by decide) ?_
    refine g_ldc2 (v := (2)) B dX6_users_10 (mq k_X6_351) ?_
    refine g_callSi (As := [.long _, .long _, .long _]) B dX6_users_13 (gc1 g_X6_73) (by rfl) hd_X6_in (by exact ⟨Nat.le_of_ble_eq_true rfl, Nat.le_of_ble_eq_true rfl⟩) ⟨rfl, rfl⟩ rfl rfl (by exact Nat.le_of_ble_eq_true rfl) (c_in ?_)
    rw [in_0, show (2 : Int64).toInt = 2 from rfl]
    refine g_if_eq (tgt := 32) B dX6_users_16 (by decide) (fun c16 => ?_) (fun c16 => ?_)
    · have hno : ¬ usrsP x y n := fun q => by
        first
        | exact b1_0.mp c4 q.1
        | exact b1_0.mp c16 q.2.1
        | exact b1_0.mp c29 q.2.2
      rw [if_neg hno] at hK
      refine g_bipush (v := (-2)) B dX6_users_32 (by decide) ?_
      refine g_ireti B dX6_users_34 ?_
      exact hK
    · refine g_iload B dX6_users_19 rfl ?_
      refine g_i2l B dX6_users_21 rfl ?_
      refine g_lconst (v := (0)) B dX6_users_22 (by decide) ?_
      refine g_ldc2 (v := (6)) B dX6_users_23 (mq k_X6_112) ?_
      refine g_callSi (As := [.long _, .long _, .long _]) B dX6_users_26 (gc1 g_X6_73) (by rfl) hd_X6_in (by exact ⟨Nat.le_of_ble_eq_true rfl, Nat.le_of_ble_eq_true rfl⟩) ⟨rfl, rfl⟩ rfl rfl (by exact Nat.le_of_ble_eq_true rfl) (c_in ?_)
      rw [in_0, show (6 : Int64).toInt = 6 from rfl]
      refine g_if_ne (tgt := 35) B dX6_users_29 (by decide) (fun c29 => ?_) (fun c29 => ?_)
      · have hyes : usrsP x y n := ⟨b1_n0.mp c4, b1_n0.mp c16, b1_n0.mp c29⟩
        rw [if_pos hyes] at hK
        obtain ⟨s, hs, rfl⟩ := i_nat (n := 4) hyes.1.1 (by have := hyes.1.2; omega)
        rw [i_cl (by omega)] at hK
        refine g_aload_n B dX6_users_35 rfl ?_
        refine g_getR (T := TX6) (N := 42) B dX6_users_36 (by decide) (by rfl) (inq inlX6) rfl 38 (by decide) (mq f_X6_51) (by rfl) ?_
        refine g_iload_n B dX6_users_39 rfl ?_
        refine g_zald B dX6_users_40 (by decide) (by rfl) (by exact vp_in_nI hs (by omega)) ?_
        rw [i_cl (by omega)]
        refine g_if_eq (tgt := 57) B dX6_users_41 (by decide) (fun c41 => ?_) (fun c41 => ?_)
        · have hno : ¬ (¬ τ.1 12 s = 0 ∧ ¬ τ.1 13 s = y) := fun q => by
            first
            | exact q.1 c41
            | exact q.2 c51
          rw [if_neg hno] at hK
          refine g_aload_n B dX6_users_57 rfl ?_
          refine g_getR (T := TX6) (N := 42) B dX6_users_58 (by decide) (by rfl) (inq inlX6) rfl 38 (by decide) (mq f_X6_51) (by rfl) ?_
          refine g_iload_n B dX6_users_61 rfl ?_
          refine g_zald B dX6_users_62 (by decide) (by rfl) (by exact vp_in_nI hs (by omega)) ?_
          rw [i_cl (by omega)]
          refine g_if_ne (tgt := 69) B dX6_users_63 (by decide) (fun c63 => ?_) (fun c63 => ?_)
          · rw [if_neg c63] at hK
            obtain ⟨z, hz, hzs⟩ := hS s hs c63
            obtain ⟨n', hn', rfl⟩ := i_nat (x := n) (n := 7) hyes.2.2.1 (by have := hyes.2.2.2; omega)
            rw [hzs, i_cl (by omega), i_cl (by omega)] at hK
            refine g_iconst (v := (0)) B dX6_users_69 (by decide) ?_
            refine g_istore B dX6_users_70 (by decide) rfl ?_
            refine g_iconst (v := (0)) B dX6_users_72 (by decide) ?_
            refine g_istore B dX6_users_73 (by decide) rfl ?_
            exact l_users B hs hz (by omega) n' 0 τ m 0 (by omega) hm6 hm hzs hK
          · rw [if_pos c63] at hK
            refine g_bipush (v := (-11)) B dX6_users_66 (by decide) ?_
            refine g_ireti B dX6_users_68 ?_
            exact hK
        · refine g_aload_n B dX6_users_44 rfl ?_
          refine g_getR (T := TX6) (N := 42) B dX6_users_45 (by decide) (by rfl) (inq inlX6) rfl 39 (by decide) (mq f_X6_54) (by rfl) ?_
          refine g_iload_n B dX6_users_48 rfl ?_
          refine g_iald B dX6_users_49 (by decide) (by rfl) (by exact vp_in_nI hs (by omega)) ?_
          rw [i_cl (by omega)]
          refine g_iload_n B dX6_users_50 rfl ?_
          refine g_icmp_eq (tgt := 57) B dX6_users_51 (by decide) (fun c51 => ?_) (fun c51 => ?_)
          · have hno : ¬ (¬ τ.1 12 s = 0 ∧ ¬ τ.1 13 s = y) := fun q => by
              first
              | exact q.1 c41
              | exact q.2 c51
            rw [if_neg hno] at hK
            refine g_aload_n B dX6_users_57 rfl ?_
            refine g_getR (T := TX6) (N := 42) B dX6_users_58 (by decide) (by rfl) (inq inlX6) rfl 38 (by decide) (mq f_X6_51) (by rfl) ?_
            refine g_iload_n B dX6_users_61 rfl ?_
            refine g_zald B dX6_users_62 (by decide) (by rfl) (by exact vp_in_nI hs (by omega)) ?_
            rw [i_cl (by omega)]
            refine g_if_ne (tgt := 69) B dX6_users_63 (by decide) (fun c63 => ?_) (fun c63 => ?_)
            · rw [if_neg c63] at hK
              obtain ⟨z, hz, hzs⟩ := hS s hs c63
              obtain ⟨n', hn', rfl⟩ := i_nat (x := n) (n := 7) hyes.2.2.1 (by have := hyes.2.2.2; omega)
              rw [hzs, i_cl (by omega), i_cl (by omega)] at hK
              refine g_iconst (v := (0)) B dX6_users_69 (by decide) ?_
              refine g_istore B dX6_users_70 (by decide) rfl ?_
              refine g_iconst (v := (0)) B dX6_users_72 (by decide) ?_
              refine g_istore B dX6_users_73 (by decide) rfl ?_
              exact l_users B hs hz (by omega) n' 0 τ m 0 (by omega) hm6 hm hzs hK
            · rw [if_pos c63] at hK
              refine g_bipush (v := (-11)) B dX6_users_66 (by decide) ?_
              refine g_ireti B dX6_users_68 ?_
              exact hK
          · rw [if_pos (And.intro c41 c51)] at hK
            refine g_bipush (v := (-13)) B dX6_users_54 (by decide) ?_
            refine g_ireti B dX6_users_56 ?_
            exact hK
      · have hno : ¬ usrsP x y n := fun q => by
          first
          | exact b1_0.mp c4 q.1
          | exact b1_0.mp c16 q.2.1
          | exact b1_0.mp c29 q.2.2
        rw [if_neg hno] at hK
        refine g_bipush (v := (-2)) B dX6_users_32 (by decide) ?_
        refine g_ireti B dX6_users_34 ?_
        exact hK

