/-! the first text's bytes, spelt *reference* -/
def spF (f : Nat → Int32) (p x0 x1 x2 x3 x4 x5 x6 x7 : Int32) : Nat → Int32 := va_up (va_up (va_up (va_up (va_up (va_up (va_up (va_up f p.toNatClampNeg x0) (p + 1).toNatClampNeg x1) (p + 2).toNatClampNeg x2) (p + 3).toNatClampNeg x3) (p + 4).toNatClampNeg x4) (p + 5).toNatClampNeg x5) (p + 6).toNatClampNeg x6) (p + 7).toNatClampNeg x7
theorem upS_AA {τ : St} {o k : Nat} {f : Nat → Int32} {v : Int32} : upS (upA τ o f) o k v = upA τ o (va_up f k v) := by
  unfold upS upA
  simp only
  congr 1
  funext j
  by_cases h : j = o
  · subst h
    simp [va_up]
  · simp [va_up, h]
set_option maxRecDepth 100000 in
set_option maxHeartbeats 4000000 in
theorem c_spell {Z : LZ} {ad : Nat → Nat} {τ : St} {f : Nat → Int32} {K : St → Prop} {p x0 x1 x2 x3 x4 x5 x6 x7 : Int32} (h0 : vp_in p 960) (h1 : vp_in (p + 1) 960) (h2 : vp_in (p + 2) 960) (h3 : vp_in (p + 3) 960) (h4 : vp_in (p + 4) 960) (h5 : vp_in (p + 5) 960) (h6 : vp_in (p + 6) 960) (h7 : vp_in (p + 7) 960) (hK : K (upA τ 1 (spF f p x0 x1 x2 x3 x4 x5 x6 x7))) : CC lyM Z ad yX6_spell wsX6_spell (rmk 0) [.ref (ad 0), .int p, .int x0, .int x1, .int x2, .int x3, .int x4, .int x5, .int x6, .int x7] (upA τ 1 f) (rV K) := by
  refine CC.of (cc := cX6_spell) (nL := 10) (ret := none) rfl rfl ⟨rfl, rfl⟩ (by exact Nat.le_of_ble_eq_true rfl) ?_
  intro X B
  change GG _ _ _ _ X _ 0 [some (.ref (ad 0)), some (.int p), some (.int x0), some (.int x1), some (.int x2), some (.int x3), some (.int x4), some (.int x5), some (.int x6), some (.int x7)] [] _
  change Amb _ _ _ _ X _ _ RX6 _ _ at B
  refine g_aload_n B dX6_spell_0 rfl ?_
  refine g_getR (T := TX6) (N := 42) B dX6_spell_1 (by decide) (by rfl) (inq inlX6) rfl 1 (by decide) (mq f_X6_13) (by rfl) ?_
  refine g_iload_n B dX6_spell_4 rfl ?_
  refine g_iload_n B dX6_spell_5 rfl ?_
  refine g_iast B dX6_spell_6 (by decide) (by rfl) (by assumption) ?_
  rw [upS_AA]
  refine g_aload_n B dX6_spell_7 rfl ?_
  refine g_getR (T := TX6) (N := 42) B dX6_spell_8 (by decide) (by rfl) (inq inlX6) rfl 1 (by decide) (mq f_X6_13) (by rfl) ?_
  refine g_iload_n B dX6_spell_11 rfl ?_
  refine g_iconst (v := (1)) B dX6_spell_12 (by decide) ?_
  refine g_iadd B dX6_spell_13 ?_
  refine g_iload_n B dX6_spell_14 rfl ?_
  refine g_iast B dX6_spell_15 (by decide) (by rfl) (by assumption) ?_
  rw [upS_AA]
  refine g_aload_n B dX6_spell_16 rfl ?_
  refine g_getR (T := TX6) (N := 42) B dX6_spell_17 (by decide) (by rfl) (inq inlX6) rfl 1 (by decide) (mq f_X6_13) (by rfl) ?_
  refine g_iload_n B dX6_spell_20 rfl ?_
  refine g_iconst (v := (2)) B dX6_spell_21 (by decide) ?_
  refine g_iadd B dX6_spell_22 ?_
  refine g_iload B dX6_spell_23 rfl ?_
  refine g_iast B dX6_spell_25 (by decide) (by rfl) (by assumption) ?_
  rw [upS_AA]
  refine g_aload_n B dX6_spell_26 rfl ?_
  refine g_getR (T := TX6) (N := 42) B dX6_spell_27 (by decide) (by rfl) (inq inlX6) rfl 1 (by decide) (mq f_X6_13) (by rfl) ?_
  refine g_iload_n B dX6_spell_30 rfl ?_
  refine g_iconst (v := (3)) B dX6_spell_31 (by decide) ?_
  refine g_iadd B dX6_spell_32 ?_
  refine g_iload B dX6_spell_33 rfl ?_
  refine g_iast B dX6_spell_35 (by decide) (by rfl) (by assumption) ?_
  rw [upS_AA]
  refine g_aload_n B dX6_spell_36 rfl ?_
  refine g_getR (T := TX6) (N := 42) B dX6_spell_37 (by decide) (by rfl) (inq inlX6) rfl 1 (by decide) (mq f_X6_13) (by rfl) ?_
  refine g_iload_n B dX6_spell_40 rfl ?_
  refine g_iconst (v := (4)) B dX6_spell_41 (by decide) ?_
  refine g_iadd B dX6_spell_42 ?_
  refine g_iload B dX6_spell_43 rfl ?_
  refine g_iast B dX6_spell_45 (by decide) (by rfl) (by assumption) ?_
  rw [upS_AA]
  refine g_aload_n B dX6_spell_46 rfl ?_
  refine g_getR (T := TX6) (N := 42) B dX6_spell_47 (by decide) (by rfl) (inq inlX6) rfl 1 (by decide) (mq f_X6_13) (by rfl) ?_
  refine g_iload_n B dX6_spell_50 rfl ?_
  refine g_iconst (v := (5)) B dX6_spell_51 (by decide) ?_
  refine g_iadd B dX6_spell_52 ?_
  refine g_iload B dX6_spell_53 rfl ?_
  refine g_iast B dX6_spell_55 (by decide) (by rfl) (by assumption) ?_
  rw [upS_AA]
  refine g_aload_n B dX6_spell_56 rfl ?_
  refine g_getR (T := TX6) (N := 42) B dX6_spell_57 (by decide) (by rfl) (inq inlX6) rfl 1 (by decide) (mq f_X6_13) (by rfl) ?_
  refine g_iload_n B dX6_spell_60 rfl ?_
  refine g_bipush (v := (6)) B dX6_spell_61 (by decide) ?_
  refine g_iadd B dX6_spell_63 ?_
  refine g_iload B dX6_spell_64 rfl ?_
  refine g_iast B dX6_spell_66 (by decide) (by rfl) (by assumption) ?_
  rw [upS_AA]
  refine g_aload_n B dX6_spell_67 rfl ?_
  refine g_getR (T := TX6) (N := 42) B dX6_spell_68 (by decide) (by rfl) (inq inlX6) rfl 1 (by decide) (mq f_X6_13) (by rfl) ?_
  refine g_iload_n B dX6_spell_71 rfl ?_
  refine g_bipush (v := (7)) B dX6_spell_72 (by decide) ?_
  refine g_iadd B dX6_spell_74 ?_
  refine g_iload B dX6_spell_75 rfl ?_
  refine g_iast B dX6_spell_77 (by decide) (by rfl) (by assumption) ?_
  rw [upS_AA]
  refine g_vreti B dX6_spell_78 ?_
  exact hK

