/-! what is known of the heap as the law begins, out of the Statement *by hand* -/
abbrev FL : List Cond := flatC (Jvm.Cond.and given_1 narrow_1)
abbrev tmW (i : Nat) : Term := .string RX1 (idxW i)
abbrev tmV (i : Nat) : Term := .field (tmW i) "java/lang/String" "value" "[B"
abbrev tmA : Term := .static "OneWinter" "ABOVE" "[I"
theorem sx_ex : ∀ i, i < 12 → Cond.exactly (tmW i) "java/lang/String" ∈ FL := by decide +kernel
theorem sx_co : ∀ i, i < 12 → Cond.eq (.field (tmW i) "java/lang/String" "coder" "B") (.int 0) ∈ FL := by decide +kernel
theorem sx_ar : ∀ i, i < 12 → Cond.arrayOf (tmV i) .byte ∈ FL := by decide +kernel
theorem sx_le : ∀ i, i < 12 → Cond.eq (.length (tmV i)) (.int (Int32.ofNat (lenW.getD i 0))) ∈ FL := by decide +kernel
theorem sx_el : ∀ i, i < 12 → ∀ j, j < lenW.getD i 0 → Cond.eq (.elem (tmV i) (.int (Int32.ofNat j))) (.int ((bytW.getD i []).getD j 0)) ∈ FL := by decide +kernel
theorem sx_ne : ∀ i, i < 12 → ∀ j, j < 12 → i ≠ j → (Cond.not (Cond.eq (tmW i) (tmW j)) ∈ FL ∨ Cond.not (Cond.eq (tmW j) (tmW i)) ∈ FL) := by decide +kernel
theorem sx_ln : ∀ i, i < 12 → lenW.getD i 0 < 2 ^ 31 := by decide
theorem sx_ta : Cond.arrayOf tmA .int ∈ FL := by decide +kernel
theorem sx_tl : Cond.eq (.length tmA) (.int (Int32.ofNat 6)) ∈ FL := by decide +kernel
theorem sx_te : ∀ j, j < 6 → Cond.eq (.elem tmA (.int (Int32.ofNat j))) (.int (abvI j)) ∈ FL := by decide +kernel
theorem sx_fm : Cond.isRef (.static "jdk/internal/util/Preconditions" "SIOOBE_FORMATTER" "Ljava/util/function/BiFunction;") ∈ FL := by decide +kernel
theorem sx_cs : Cond.eq (.static "java/lang/String" "COMPACT_STRINGS" "Z") (.int 1) ∈ FL := by decide +kernel
theorem tb_of {w : Cond} (h : w ∈ tables_1) : w ∈ lw_tbl := List.mem_append_right _ h
theorem tx_sr : ∀ i, i < 12 → Cond.stringRef RX1 (idxW i) (txtW i) ∈ tables_1 := by decide +kernel
theorem tx_l1 : Cond.laysStatic "java/lang/String" "COMPACT_STRINGS" "Z" ∈ tables_1 := by decide +kernel
theorem tx_l2 : Cond.laysStatic "jdk/internal/util/Preconditions" "SIOOBE_FORMATTER" "Ljava/util/function/BiFunction;" ∈ tables_1 := by decide +kernel
theorem tx_l3 : Cond.laysStatic "OneWinter" "ABOVE" "[I" ∈ tables_1 := by decide +kernel
theorem tx_i1 : Cond.initialized "java/lang/String" ∈ tables_1 := by decide +kernel
theorem tx_i2 : Cond.initialized "jdk/internal/util/Preconditions" ∈ tables_1 := by decide +kernel
theorem tx_i3 : Cond.initialized "OneWinter" ∈ tables_1 := by decide +kernel
theorem tx_nb : Cond.methodLinkNest RX2 22 yX5_bounded RX5 ∈ tables_1 := by decide +kernel
theorem tx_nn : ∀ q : Nat × MethodName, q ∈ [(26, yX4_init), (33, yX1_init), (58, yX0_init), (78, yX3_init), (79, yX2_init)] → Cond.methodLinkNest RX5 q.1 q.2 RX5 ∈ tables_1 := by decide +kernel
theorem tx_ao : ∀ C : String, C ∈ [RX4, RX3, RX2] → Cond.arrayOver (.object C) ∈ tables_1 := by decide +kernel
theorem law_EC {args : Array Value} {s : State} (hts : ∀ w ∈ lw_tbl, w.before args s = true) : EC s := ⟨fun q hq => va_Nw.of rfl (hts _ (tb_of (tx_nn q hq))), fun C hC => va_AO.of (hts _ (tb_of (tx_ao C hC)))⟩
theorem law_SX {args : Array Value} {s : State} (hts : ∀ w ∈ lw_tbl, w.before args s = true) (hgv : (Jvm.Cond.and given_1 narrow_1).before args s = true) : ∃ (aK aV : Nat → Nat) (tb fm : Nat), SX aK aV tb fm (fun q => s.heap.size ≤ q) s s.heap := by
  have hs : ∀ c ∈ FL, c.before args s = true := flat_of_before _ hgv
  have hA : ∀ a : Nat, a < s.heap.size → ¬ (fun q => s.heap.size ≤ q) a := fun a h q => absurd h (Nat.not_lt.mpr q)
  obtain ⟨aK, aV, h1, h2⟩ := vk_Sof (args := args) (s := s) (N := 12) (tm := tmW) (len := lenW) (byt := bytW) (A := fun q => s.heap.size ≤ q) sx_ln (fun i hi => hs _ (sx_ex i hi)) (fun i hi => hs _ (sx_co i hi)) (fun i hi => hs _ (sx_ar i hi)) (fun i hi => hs _ (sx_le i hi)) (fun i hi j hj => hs _ (sx_el i hi j hj)) (fun i j hi hj hij => (sx_ne i hi j hj hij).imp (hs _) (hs _)) hA
  obtain ⟨tb, t1, t2⟩ := va_Tof (args := args) (s := s) (tm := tmA) (N := 6) (ty := .int) (f := fun j => .int (abvI j)) (A := fun q => s.heap.size ≤ q) (by decide) (hs _ sx_ta) (va_eqt (hs _ sx_tl)) (fun j hj => va_eqt (hs _ (sx_te j hj))) hA
  have key : ∃ fm, va_Z "jdk/internal/util/Preconditions" "SIOOBE_FORMATTER" "Ljava/util/function/BiFunction;" (fmV fm) (fun q => s.heap.size ≤ q) s s.heap := by
    rcases va_Zqof (args := args) (A := fun q => s.heap.size ≤ q) (hts _ (tb_of tx_l2)) (hts _ (tb_of tx_i2)) (hs _ sx_fm) hA with h | ⟨t, h⟩
    · exact ⟨0, h⟩
    · exact ⟨t + 1, h⟩
  obtain ⟨fm, hfm⟩ := key
  exact ⟨aK, aV, tb, fm, ⟨h1, fun i hi => vk_R.of (hts _ (tb_of (tx_sr i hi))) (h2 i hi)⟩, va_Zof (hts _ (tb_of tx_l1)) (hts _ (tb_of tx_i1)) (va_eqi (hs _ sx_cs)) hA, hfm, va_Zref (hts _ (tb_of tx_l3)) (hts _ (tb_of tx_i3)) t1 hA, t2, va_Nw.of rfl (hts _ (tb_of tx_nb))⟩
