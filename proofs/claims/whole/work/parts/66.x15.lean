/-! sheet, cell, copy, film *program, both worlds kept alike* -/
section GGC
variable {ly : Lay} {Z : LZ} {ad : Nat → Nat} {rm : Room} {X : CX} {K : Option Value → St → Prop} {pc : Nat} {L : List (Option Value)} {st : List Value} {τ : St} {cc : ByteArray} {Ts : List Cond} {own : String} {nL : Nat} {ret : Option FieldType}
theorem g_copyi (B : Amb ly Z ad rm X cc Ts own nL ret) {idx o0 o1 n0 n1 : Nat} {sp dp n : Int32} (d : decode cc pc = .ok (.invokestatic idx, 3)) (hw : Cond.methodLink own idx arraycopyName ∈ Ts ∧ Cond.native arraycopyName ∈ Ts ∧ Cond.static arraycopyName ∈ Ts ∧ Cond.initialized "java/lang/System" ∈ Ts) (ho0 : o0 < ly.2) (hl0 : ly.1 o0 = .inr (.int, (n0, none))) (ho1 : o1 < ly.2) (hl1 : ly.1 o1 = .inr (.int, (n1, none))) (h1 : ¬ sp < 0) (h2 : ¬ dp < 0) (h3 : ¬ n < 0) (h4 : sp.toNatClampNeg + n.toNatClampNeg ≤ n0) (h5 : dp.toNatClampNeg + n.toNatClampNeg ≤ n1) (hrm : 1 ≤ rm.frames ∧ (st.map fun v => v.category).sum + (nativeFrameWords "java/lang/System" "arraycopy" 5 + 11) ≤ rm.locals)
    (g : GG ly Z ad rm X K (pc + 3) L st (upA τ o1 (va_cpy (τ.1 o0) (τ.1 o1) sp.toNatClampNeg dp.toNatClampNeg n.toNatClampNeg))) : GG ly Z ad rm X K pc L (.int n :: .int dp :: .ref (ad o1) :: .int sp :: .ref (ad o0) :: st) τ := by
  obtain ⟨p, e, s, m, args, below, meth, c, nl⟩ := X
  obtain ⟨hx, hb, hml, rfl, hown, hts, hr, hlk, hK, hJ, hE, hEs, hR⟩ := B
  intro H locs ls hP hS hL
  have hat0 : (gws ly Z ad τ)[o0]? = some (ad o0, .inl (Z.2.2.1 o0, (n0, .inl (τ.1 o0)))) := by rw [gws_at ho0, hl0]; rfl
  have hat1 : (gws ly Z ad τ)[o1]? = some (ad o1, .inl (Z.2.2.1 o1, (n1, .inl (τ.1 o1)))) := by rw [gws_at ho1, hl1]; rfl
  have hD := gws_D (ly := ly) (Z := Z) (ad := ad) (τ := τ) (A := gA ad ly.2 s.heap.size) hJ (fun o h => gA_in h)
  have hk0 := hK.2 o0 ho0 _ _ hl0
  have hk1 := hK.2 o1 ho1 _ _ hl1
  have hk : va_K Z.2.1 vwCl [(Z.2.2.1 o0, .int), (Z.2.2.1 o1, .int)] s := ⟨hk0.1, fun k q hq => by
    match k, hq with
    | 0, hq => exact hk0.2 0 q hq
    | 1, hq => exact hk1.2 0 q hq
    | k + 2, hq => simp at hq⟩
  have he : gcell Z ad (upA τ o1 (va_cpy (τ.1 o0) (τ.1 o1) sp.toNatClampNeg dp.toNatClampNeg n.toNatClampNeg)) o1 (ly.1 o1) = .inl (Z.2.2.1 o1, (n1, .inl (va_cpy (τ.1 o0) (τ.1 o1) sp.toNatClampNeg dp.toNatClampNeg n.toNatClampNeg))) := by
    rw [hl1]
    simp [gcell, upA, va_up]
  refine va_copyi (D := Z.2.1) hx hb (hml.trans hL.1.symm) hown (hts _ hw.1) (hts _ hw.2.1) (hts _ hw.2.2.1) (hts _ hw.2.2.2) hk hP hD hS o0 o1 0 1 hat0 hat1 rfl rfl rfl h1 h2 h3 h4 h5 (fun _ _ => rfl) hrm.1 hrm.2 d (fun H1 locs1 hP1 _ hS1 => g H1 locs1 ls ?_ hS1 hL)
  rw [gws_set he (fun o' _ h => upA_other h)] at hP1
  exact hP1
end GGC
/-- sheets alone are others -/
theorem REL.sht {a a' b b' : St} {T : Nat → TC} {m c r p : Nat} (h : REL a b T m c r p) (hc6 : c ≤ 6) (ha : ∀ o, o < 12 → a'.1 o = a.1 o) (hb : ∀ o, o < 44 → b'.1 o = b.1 o) (hs : RSh a' b') : REL a' b' T m c r p := by
  obtain ⟨h0, ⟨h5, h6⟩, h7, h8, h9, h10, h11⟩ := h
  refine ⟨?_, ⟨?_, ?_⟩, ?_, ?_, ?_, hs, ?_⟩
  · rw [hb 0 (by omega), ha 0 (by omega)]; exact h0
  · rw [hb 11 (by omega)]; exact h5
  · rw [hb 16 (by omega), ha 3 (by omega)]; exact h6
  · rw [hb 1 (by omega), ha 4 (by omega)]; exact h7
  · exact h8.eq (ha _ (by omega)) (ha _ (by omega)) (fun u hu => hb _ (by omega))
  · exact TXX.eqs h9 (fun o h1 h2 => hb o (by omega)) hc6
  · exact h11.eq (by rw [ha 0 (by omega)]) (by rw [ha 0 (by omega)]) (by rw [ha 0 (by omega)]) (ha _ (by omega)) (ha _ (by omega)) (hb _ (by omega)) (hb _ (by omega)) (hb _ (by omega)) (hb _ (by omega))
/-- one sheet alone is another -/
theorem RSh.one {a a' b b' : St} {s : Nat} (h : RSh a b) (hS : shS a) (h1 : ∀ q, q < 4 → q ≠ s → a'.1 12 q = a.1 12 q ∧ a'.1 13 q = a.1 13 q ∧ a'.1 14 q = a.1 14 q ∧ ∀ i, i < 40 → a'.1 15 (40 * q + i) = a.1 15 (40 * q + i)) (h2 : ∀ q, q < 4 → q ≠ s → b'.1 (q + 44) = b.1 (q + 44) ∧ b'.1 (q + 48) = b.1 (q + 48)) (h3 : (a'.1 12 s = 0 → b'.1 (s + 44) 0 = -1) ∧ (¬ a'.1 12 s = 0 → b'.1 (s + 44) 0 = a'.1 13 s ∧ b'.1 (s + 44) 1 = a'.1 14 s ∧ ∀ i, i < (a'.1 14 s).toNatClampNeg → b'.1 (s + 48) i = a'.1 15 (40 * s + i))) : RSh a' b' := by
  intro q hq
  by_cases e : q = s
  · subst e; exact h3
  · obtain ⟨e1, e2, e3, e4⟩ := h1 q hq e
    obtain ⟨g1, g2⟩ := h2 q hq e
    obtain ⟨k1, k2⟩ := h q hq
    rw [e1, e2, e3, g1, g2]
    refine ⟨k1, fun z => ?_⟩
    obtain ⟨x1, x2, x3⟩ := k2 z
    obtain ⟨⟨n, hn, en⟩, _⟩ := hS q hq z
    refine ⟨x1, x2, fun i hi => ?_⟩
    rw [e4 i (by rw [en, i_cl (by omega)] at hi; omega)]
    exact x3 i hi
theorem zrT_k {τ : St} {s : Nat} : ∀ n k, (zrT τ s n).1 15 k = if 40 * s ≤ k ∧ k < 40 * s + n then 0 else τ.1 15 k
  | 0, k => by rw [if_neg (by omega)]; rfl
  | n + 1, k => by
    unfold zrT
    by_cases e : k = 40 * s + n
    · subst e; rw [upS_1, if_pos (by omega)]
    · rw [upS_2 e, zrT_k n k]
      by_cases q : 40 * s ≤ k ∧ k < 40 * s + n
      · rw [if_pos q, if_pos (by omega)]
      · rw [if_neg q, if_neg (by omega)]
theorem bcX_o {τ : St} {s n o : Nat} {q : Int32} (h1 : o ≠ s + 44) (h2 : o ≠ s + 48) : (bcX τ s q n).1 o = τ.1 o := by
  unfold bcX
  rw [zrX_o h2, upS_3 h1, upS_3 h1]
theorem bcX_0 {τ : St} {s n : Nat} {q : Int32} : (bcX τ s q n).1 (s + 44) 0 = q := by
  unfold bcX
  rw [zrX_o (by omega), upS_2 (by decide), upS_1]
theorem bcX_1 {τ : St} {s n : Nat} {q : Int32} : (bcX τ s q n).1 (s + 44) 1 = nI n := by
  unfold bcX
  rw [zrX_o (by omega), upS_1]
theorem bcX_i {τ : St} {s n i : Nat} {q : Int32} (h : i < 40) : (bcX τ s q n).1 (s + 48) i = 0 := by
  unfold bcX
  rw [zrX_z 40 i h]
theorem gS0_k {τ : St} {s q : Nat} {x y z : Int32} (h : q ≠ s) : (gShe0 τ s x y z).1 12 q = τ.1 12 q ∧ (gShe0 τ s x y z).1 13 q = τ.1 13 q ∧ (gShe0 τ s x y z).1 14 q = τ.1 14 q := by
  unfold gShe0
  refine ⟨?_, ?_, ?_⟩
  · rw [upS_3 (by decide), upS_3 (by decide), upS_2 h]
  · rw [upS_3 (by decide), upS_2 h, upS_3 (by decide)]
  · rw [upS_2 h, upS_3 (by decide), upS_3 (by decide)]
theorem gS0_s {τ : St} {s : Nat} {x y z : Int32} : (gShe0 τ s x y z).1 12 s = x ∧ (gShe0 τ s x y z).1 13 s = y ∧ (gShe0 τ s x y z).1 14 s = z := by
  unfold gShe0
  refine ⟨?_, ?_, ?_⟩
  · rw [upS_3 (by decide), upS_3 (by decide), upS_1]
  · rw [upS_3 (by decide), upS_1]
  · rw [upS_1]
theorem gS0_o {τ : St} {s o : Nat} {x y z : Int32} (h : o ≠ 12 ∧ o ≠ 13 ∧ o ≠ 14) : (gShe0 τ s x y z).1 o = τ.1 o := by
  unfold gShe0
  rw [upS_3 h.2.2, upS_3 h.2.1, upS_3 h.1]
/-- a sheet gone -/
theorem REL.gone {a b : St} {T : Nat → TC} {m c r p s : Nat} {y z : Int32} (h : REL a b T m c r p) (hI : INV a T m c r p) (hs : s < 4) : REL (gShe0 a s 0 y z) (bcX b s (-1) 0) T m c r p := by
  refine h.sht hI.1.2.1.2.1 (fun o ho => gS0_o (by omega)) (fun o ho => bcX_o (by omega) (by omega)) (h.2.2.2.2.2.1.one (s := s) hI.2.2.2.2 (fun q hq hne => ?_) (fun q hq hne => ⟨bcX_o (by omega) (by omega), bcX_o (by omega) (by omega)⟩) ⟨fun _ => bcX_0, fun q => absurd gS0_s.1 q⟩)
  obtain ⟨e1, e2, e3⟩ := gS0_k (τ := a) (x := 0) (y := y) (z := z) hne
  exact ⟨e1, e2, e3, fun i hi => by rw [gS0_o (by decide)]⟩
/-- a sheet made anew -/
theorem REL.anew {a b : St} {T : Nat → TC} {m c r p s n : Nat} {y : Int32} (h : REL a b T m c r p) (hI : INV a T m c r p) (hs : s < 4) (hn : n ≤ 40) : REL (zrT (gShe0 a s 1 y (nI n)) s n) (bcX b s y n) T m c r p := by
  refine h.sht hI.1.2.1.2.1 (fun o ho => by rw [zrT_o (by omega), gS0_o (by omega)]) (fun o ho => bcX_o (by omega) (by omega)) (h.2.2.2.2.2.1.one (s := s) hI.2.2.2.2 (fun q hq hne => ?_) (fun q hq hne => ⟨bcX_o (by omega) (by omega), bcX_o (by omega) (by omega)⟩) ⟨fun q => ?_, fun q => ⟨?_, ?_, fun i hi => ?_⟩⟩)
  · obtain ⟨e1, e2, e3⟩ := gS0_k (τ := a) (x := 1) (y := y) (z := nI n) hne
    refine ⟨by rw [zrT_o (by decide)]; exact e1, by rw [zrT_o (by decide)]; exact e2, by rw [zrT_o (by decide)]; exact e3, fun i hi => ?_⟩
    rw [zrT_k, if_neg (by omega), gS0_o (by decide)]
  · rw [zrT_o (by decide), gS0_s.1] at q
    exact absurd q (by decide)
  · rw [bcX_0, zrT_o (by decide), gS0_s.2.1]
  · rw [bcX_1, zrT_o (by decide), gS0_s.2.2]
  · rw [zrT_o (by decide), gS0_s.2.2, i_cl (by omega)] at hi
    rw [bcX_i (by omega), zrT_k, if_pos (by omega)]
theorem REL.item {a b : St} {T : Nat → TC} {m c r p s i : Nat} {v w : Int32} (h : REL a b T m c r p) (hI : INV a T m c r p) (hs : s < 4) (hi : i < 40) (hv : v = w) : REL (upS a 15 (40 * s + i) v) (upS b (s + 48) i w) T m c r p := by
  subst hv
  refine h.sht hI.1.2.1.2.1 (fun o ho => upS_3 (by omega)) (fun o ho => upS_3 (by omega)) (h.2.2.2.2.2.1.one (s := s) hI.2.2.2.2 (fun q hq hne => ⟨by rw [upS_3 (by decide)], by rw [upS_3 (by decide)], by rw [upS_3 (by decide)], fun j hj => upS_2 (by omega)⟩) (fun q hq hne => ⟨upS_3 (by omega), upS_3 (by omega)⟩) ?_)
  rw [upS_3 (show (12 : Nat) ≠ 15 by decide), upS_3 (show (13 : Nat) ≠ 15 by decide), upS_3 (show (14 : Nat) ≠ 15 by decide), upS_3 (show s + 44 ≠ s + 48 by omega)]
  obtain ⟨k1, k2⟩ := h.2.2.2.2.2.1 s hs
  refine ⟨k1, fun z => ?_⟩
  obtain ⟨x1, x2, x3⟩ := k2 z
  refine ⟨x1, x2, fun j hj => ?_⟩
  by_cases e : j = i
  · subst e; rw [upS_1, upS_1]
  · rw [upS_2 e, upS_2 (by omega)]
    exact x3 j hj
set_option maxRecDepth 100000 in
set_option maxHeartbeats 4000000 in
theorem z_sheet {Z : LZ} {ad : Nat → Nat} {a b : St} {T : Nat → TC} {m c r p : Nat} {K : Int32 → St → Prop} {x y z : Int32} {aK aV : Nat → Nat} {tb fm : Nat} (hE : SI Z aK aV tb fm) (hI : INV a T m c r p) (hR : REL a b T m c r p) (hK : ∀ b', REL (gSheet a x y z) b' T m c r p → K (fSheet x y z) b') : CC lyX Z ad yX5_sheet wsX5_sheet (rmk 3) [.ref (ad 0), .int x, .int y, .int z] b (rI K) := by
  refine CC.of (cc := cX5_sheet) (nL := 4) (ret := (some .int)) rfl rfl ⟨rfl, rfl⟩ (by exact Nat.le_of_ble_eq_true rfl) ?_
  intro X B
  change GG _ _ _ _ X _ 0 [some (.ref (ad 0)), some (.int x), some (.int y), some (.int z)] [] _
  change Amb _ _ _ _ X _ _ RX5 _ _ at B
  unfold gSheet fSheet at hK
  refine g_iload_n B dX5_sheet_0 rfl ?_
  refine g_callSi (As := [.int _]) B dX5_sheet_1 (gc1 g_X5_249) (by rfl) hd_X5_isSheet (by exact ⟨Nat.le_of_ble_eq_true rfl, Nat.le_of_ble_eq_true rfl⟩) ⟨rfl, rfl⟩ rfl rfl (by exact Nat.le_of_ble_eq_true rfl) (x_isSheet ?_)
  refine g_if_eq (tgt := 19) B dX5_sheet_4 (by decide) (fun c4 => ?_) (fun c4 => ?_)
  · first
    | (have hp : ¬ shtP x y z := fun q => b1_0.mp c4 q.1
       rw [if_neg hp, if_neg hp] at hK)
    | (have hp : ¬ shtP (nI s) y z := fun q => b1_0.mp c16 ⟨by have := q.2.1.1; have := (not_congr i_eq).mp c9; rw [im1] at this; omega, q.2.1.2⟩
       rw [if_neg hp, if_neg hp] at hK)
    refine g_bipush (v := (-2)) B dX5_sheet_19 (by decide) ?_
    refine g_ireti B dX5_sheet_21 ?_
    exact hK _ hR
  · have h1 := b1_n0.mp c4
    obtain ⟨s, hs, rfl⟩ := i_nat (n := 4) h1.1 (by omega)
    rw [i_cl (by omega)] at hK
    refine g_iload_n B dX5_sheet_7 rfl ?_
    refine g_iconst (v := (-1)) B dX5_sheet_8 (by decide) ?_
    refine g_icmp_eq (tgt := 22) B dX5_sheet_9 (by decide) (fun c9 => ?_) (fun c9 => ?_)
    · skip
      refine g_iload_n B dX5_sheet_22 rfl ?_
      refine g_iconst (v := (-1)) B dX5_sheet_23 (by decide) ?_
      refine g_icmp_ne (tgt := 40) B dX5_sheet_24 (by decide) (fun c24 => ?_) (fun c24 => ?_)
      · have hy : 0 ≤ y.toInt ∧ y.toInt ≤ 2 := by
          first
          | exact b1_n0.mp c16
          | exact absurd c9 c24
        have hy0 : ¬ y < 0 := fun q => by have := i_lt.mp q; rw [i0] at this; omega
        refine g_iload_n B dX5_sheet_40 rfl ?_
        refine g_bipush (v := (40)) B dX5_sheet_41 (by decide) ?_
        refine g_icmp_le (tgt := 49) B dX5_sheet_43 (by decide) (fun c43 => ?_) (fun c43 => ?_)
        · have hp : shtP (nI s) y z := ⟨h1, by omega, Or.inr c43⟩
          rw [if_pos hp, if_pos hp] at hK
          refine g_iload_n B dX5_sheet_49 rfl ?_
          refine g_if_ge (tgt := 56) B dX5_sheet_50 (by decide) (fun c50 => ?_) (fun c50 => ?_)
          · have hz : ¬ z < 0 := Int32.not_lt.mpr c50
            have hyz : ¬ (¬ y < 0 ∧ z < 0) := fun q => hz q.2
            rw [if_neg hyz, if_neg hyz, if_neg hy0] at hK
            obtain ⟨n, hn, rfl⟩ := i_nat (x := z) (n := 41) (by have := i_le.mp c50; rw [i0] at this; exact this) (by have := i_le.mp c43; rw [show (40 : Int32).toInt = 40 from rfl] at this; omega)
            rw [i_cl (by omega)] at hK
            refine g_aload_n B dX5_sheet_56 rfl ?_
            refine g_getR (T := TX5) (N := 16) B dX5_sheet_57 (by decide) (by rfl) (inq inlX5) rfl 9 (by decide) (mq f_X5_52) (by rfl) ?_
            refine g_iload_n B dX5_sheet_60 rfl ?_
            refine g_aald B dX5_sheet_61 (by decide) (by rfl) (by exact vp_in_nI hs (by omega)) ?_
            rw [i_cl (show s < 2147483648 by omega)]
            refine g_iload_n B dX5_sheet_62 rfl ?_
            refine g_iload_n B dX5_sheet_63 rfl ?_
            refine g_callVv (C := RX2) (As := [.int _, .int _]) B dX5_sheet_64 (gc1 g_X5_275) (by rfl) ⟨rfl, hd_X2_become⟩ (by exact ⟨Nat.le_of_ble_eq_true rfl, Nat.le_of_ble_eq_true rfl⟩) ⟨rfl, rfl⟩ rfl rfl (by exact Nat.le_of_ble_eq_true rfl) (recv2 hs) (x_bec (n := n) hE hs rfl (by omega) ?_)
            refine g_iconst (v := (1)) B dX5_sheet_67 (by decide) ?_
            refine g_ireti B dX5_sheet_68 ?_
            exact hK _ (hR.anew hI hs (by omega))
          · have hz : z < 0 := by
              have := c50
              rw [Int32.not_le] at this
              exact this
            rw [if_pos ⟨hy0, hz⟩, if_pos ⟨hy0, hz⟩] at hK
            refine g_bipush (v := (-14)) B dX5_sheet_53 (by decide) ?_
            refine g_ireti B dX5_sheet_55 ?_
            exact hK _ hR
        · have hp : ¬ shtP (nI s) y z := fun q => q.2.2.elim hy0 (fun w => c43 w)
          rw [if_neg hp, if_neg hp] at hK
          refine g_bipush (v := (-2)) B dX5_sheet_46 (by decide) ?_
          refine g_ireti B dX5_sheet_48 ?_
          exact hK _ hR
      · have hy : y < 0 := by rw [c24]; decide
        have hp : shtP (nI s) y z := ⟨h1, by rw [c24]; decide, Or.inl hy⟩
        have hyz : ¬ (¬ y < 0 ∧ z < 0) := fun q => q.1 hy
        rw [if_pos hp, if_pos hp, if_neg hyz, if_neg hyz, if_pos hy] at hK
        refine g_aload_n B dX5_sheet_27 rfl ?_
        refine g_getR (T := TX5) (N := 16) B dX5_sheet_28 (by decide) (by rfl) (inq inlX5) rfl 9 (by decide) (mq f_X5_52) (by rfl) ?_
        refine g_iload_n B dX5_sheet_31 rfl ?_
        refine g_aald B dX5_sheet_32 (by decide) (by rfl) (by exact vp_in_nI hs (by omega)) ?_
        rw [i_cl (show s < 2147483648 by omega)]
        refine g_iconst (v := (-1)) B dX5_sheet_33 (by decide) ?_
        refine g_iconst (v := (0)) B dX5_sheet_34 (by decide) ?_
        refine g_callVv (C := RX2) (As := [.int _, .int _]) B dX5_sheet_35 (gc1 g_X5_275) (by rfl) ⟨rfl, hd_X2_become⟩ (by exact ⟨Nat.le_of_ble_eq_true rfl, Nat.le_of_ble_eq_true rfl⟩) ⟨rfl, rfl⟩ rfl rfl (by exact Nat.le_of_ble_eq_true rfl) (recv2 hs) (x_bec (n := 0) hE hs rfl (by omega) ?_)
        refine g_iconst (v := (1)) B dX5_sheet_38 (by decide) ?_
        refine g_ireti B dX5_sheet_39 ?_
        exact hK _ (hR.gone hI hs)
    · refine g_iload_n B dX5_sheet_12 rfl ?_
      refine g_callSi (As := [.int _]) B dX5_sheet_13 (gc1 g_X5_311) (by rfl) hd_X5_isSort (by exact ⟨Nat.le_of_ble_eq_true rfl, Nat.le_of_ble_eq_true rfl⟩) ⟨rfl, rfl⟩ rfl rfl (by exact Nat.le_of_ble_eq_true rfl) (x_isSort ?_)
      refine g_if_ne (tgt := 22) B dX5_sheet_16 (by decide) (fun c16 => ?_) (fun c16 => ?_)
      · skip
        refine g_iload_n B dX5_sheet_22 rfl ?_
        refine g_iconst (v := (-1)) B dX5_sheet_23 (by decide) ?_
        refine g_icmp_ne (tgt := 40) B dX5_sheet_24 (by decide) (fun c24 => ?_) (fun c24 => ?_)
        · have hy : 0 ≤ y.toInt ∧ y.toInt ≤ 2 := by
            first
            | exact b1_n0.mp c16
            | exact absurd c9 c24
          have hy0 : ¬ y < 0 := fun q => by have := i_lt.mp q; rw [i0] at this; omega
          refine g_iload_n B dX5_sheet_40 rfl ?_
          refine g_bipush (v := (40)) B dX5_sheet_41 (by decide) ?_
          refine g_icmp_le (tgt := 49) B dX5_sheet_43 (by decide) (fun c43 => ?_) (fun c43 => ?_)
          · have hp : shtP (nI s) y z := ⟨h1, by omega, Or.inr c43⟩
            rw [if_pos hp, if_pos hp] at hK
            refine g_iload_n B dX5_sheet_49 rfl ?_
            refine g_if_ge (tgt := 56) B dX5_sheet_50 (by decide) (fun c50 => ?_) (fun c50 => ?_)
            · have hz : ¬ z < 0 := Int32.not_lt.mpr c50
              have hyz : ¬ (¬ y < 0 ∧ z < 0) := fun q => hz q.2
              rw [if_neg hyz, if_neg hyz, if_neg hy0] at hK
              obtain ⟨n, hn, rfl⟩ := i_nat (x := z) (n := 41) (by have := i_le.mp c50; rw [i0] at this; exact this) (by have := i_le.mp c43; rw [show (40 : Int32).toInt = 40 from rfl] at this; omega)
              rw [i_cl (by omega)] at hK
              refine g_aload_n B dX5_sheet_56 rfl ?_
              refine g_getR (T := TX5) (N := 16) B dX5_sheet_57 (by decide) (by rfl) (inq inlX5) rfl 9 (by decide) (mq f_X5_52) (by rfl) ?_
              refine g_iload_n B dX5_sheet_60 rfl ?_
              refine g_aald B dX5_sheet_61 (by decide) (by rfl) (by exact vp_in_nI hs (by omega)) ?_
              rw [i_cl (show s < 2147483648 by omega)]
              refine g_iload_n B dX5_sheet_62 rfl ?_
              refine g_iload_n B dX5_sheet_63 rfl ?_
              refine g_callVv (C := RX2) (As := [.int _, .int _]) B dX5_sheet_64 (gc1 g_X5_275) (by rfl) ⟨rfl, hd_X2_become⟩ (by exact ⟨Nat.le_of_ble_eq_true rfl, Nat.le_of_ble_eq_true rfl⟩) ⟨rfl, rfl⟩ rfl rfl (by exact Nat.le_of_ble_eq_true rfl) (recv2 hs) (x_bec (n := n) hE hs rfl (by omega) ?_)
              refine g_iconst (v := (1)) B dX5_sheet_67 (by decide) ?_
              refine g_ireti B dX5_sheet_68 ?_
              exact hK _ (hR.anew hI hs (by omega))
            · have hz : z < 0 := by
                have := c50
                rw [Int32.not_le] at this
                exact this
              rw [if_pos ⟨hy0, hz⟩, if_pos ⟨hy0, hz⟩] at hK
              refine g_bipush (v := (-14)) B dX5_sheet_53 (by decide) ?_
              refine g_ireti B dX5_sheet_55 ?_
              exact hK _ hR
          · have hp : ¬ shtP (nI s) y z := fun q => q.2.2.elim hy0 (fun w => c43 w)
            rw [if_neg hp, if_neg hp] at hK
            refine g_bipush (v := (-2)) B dX5_sheet_46 (by decide) ?_
            refine g_ireti B dX5_sheet_48 ?_
            exact hK _ hR
        · have hy : y < 0 := by rw [c24]; decide
          have hp : shtP (nI s) y z := ⟨h1, by rw [c24]; decide, Or.inl hy⟩
          have hyz : ¬ (¬ y < 0 ∧ z < 0) := fun q => q.1 hy
          rw [if_pos hp, if_pos hp, if_neg hyz, if_neg hyz, if_pos hy] at hK
          refine g_aload_n B dX5_sheet_27 rfl ?_
          refine g_getR (T := TX5) (N := 16) B dX5_sheet_28 (by decide) (by rfl) (inq inlX5) rfl 9 (by decide) (mq f_X5_52) (by rfl) ?_
          refine g_iload_n B dX5_sheet_31 rfl ?_
          refine g_aald B dX5_sheet_32 (by decide) (by rfl) (by exact vp_in_nI hs (by omega)) ?_
          rw [i_cl (show s < 2147483648 by omega)]
          refine g_iconst (v := (-1)) B dX5_sheet_33 (by decide) ?_
          refine g_iconst (v := (0)) B dX5_sheet_34 (by decide) ?_
          refine g_callVv (C := RX2) (As := [.int _, .int _]) B dX5_sheet_35 (gc1 g_X5_275) (by rfl) ⟨rfl, hd_X2_become⟩ (by exact ⟨Nat.le_of_ble_eq_true rfl, Nat.le_of_ble_eq_true rfl⟩) ⟨rfl, rfl⟩ rfl rfl (by exact Nat.le_of_ble_eq_true rfl) (recv2 hs) (x_bec (n := 0) hE hs rfl (by omega) ?_)
          refine g_iconst (v := (1)) B dX5_sheet_38 (by decide) ?_
          refine g_ireti B dX5_sheet_39 ?_
          exact hK _ (hR.gone hI hs)
      · first
        | (have hp : ¬ shtP x y z := fun q => b1_0.mp c4 q.1
           rw [if_neg hp, if_neg hp] at hK)
        | (have hp : ¬ shtP (nI s) y z := fun q => b1_0.mp c16 ⟨by have := q.2.1.1; have := (not_congr i_eq).mp c9; rw [im1] at this; omega, q.2.1.2⟩
           rw [if_neg hp, if_neg hp] at hK)
        refine g_bipush (v := (-2)) B dX5_sheet_19 (by decide) ?_
        refine g_ireti B dX5_sheet_21 ?_
        exact hK _ hR
theorem sh_ge {a b : St} (h : RSh a b) (hS : shS a) {s : Nat} (hs : s < 4) : (b.1 (s + 44) 0 = -1) ↔ a.1 12 s = 0 := by
  constructor
  · intro q
    by_cases e : a.1 12 s = 0
    · exact e
    · have h1 := ((h s hs).2 e).1
      have h2 := (hS s hs e).2
      rw [← h1, q] at h2
      exact absurd h2.1 (by decide)
  · exact (h s hs).1
set_option maxRecDepth 100000 in
set_option maxHeartbeats 4000000 in
theorem z_cell {Z : LZ} {ad : Nat → Nat} {a b : St} {T : Nat → TC} {m c r p : Nat} {K : Int32 → St → Prop} {x y v : Int32} (hI : INV a T m c r p) (hR : REL a b T m c r p) (hK : ∀ b', REL (gCell a x y v) b' T m c r p → K (fCell a x y) b') : CC lyX Z ad yX5_cell wsX5_cell (rmk 2) [.ref (ad 0), .int x, .int y, .int v] b (rI K) := by
  refine CC.of (cc := cX5_cell) (nL := 5) (ret := (some .int)) rfl rfl ⟨rfl, rfl⟩ (by exact Nat.le_of_ble_eq_true rfl) ?_
  intro X B
  change GG _ _ _ _ X _ 0 [some (.ref (ad 0)), some (.int x), some (.int y), some (.int v), none] [] _
  change Amb _ _ _ _ X _ _ RX5 _ _ at B
  have hSh := hR.2.2.2.2.2.1
  have hS := hI.2.2.2.2
  unfold gCell fCell at hK
  refine g_iload_n B dX5_cell_0 rfl ?_
  refine g_callSi (As := [.int _]) B dX5_cell_1 (gc1 g_X5_249) (by rfl) hd_X5_isSheet (by exact ⟨Nat.le_of_ble_eq_true rfl, Nat.le_of_ble_eq_true rfl⟩) ⟨rfl, rfl⟩ rfl rfl (by exact Nat.le_of_ble_eq_true rfl) (x_isSheet ?_)
  refine g_if_ne (tgt := 10) B dX5_cell_4 (by decide) (fun c4 => ?_) (fun c4 => ?_)
  · have h1 := b1_n0.mp c4
    rw [if_pos h1, if_pos h1] at hK
    obtain ⟨s, hs, rfl⟩ := i_nat (n := 4) h1.1 (by omega)
    have hcs : (nI s).toNatClampNeg = s := i_cl (by omega)
    unfold inSz at hK
    rw [hcs] at hK
    refine g_aload_n B dX5_cell_10 rfl ?_
    refine g_getR (T := TX5) (N := 16) B dX5_cell_11 (by decide) (by rfl) (inq inlX5) rfl 9 (by decide) (mq f_X5_52) (by rfl) ?_
    refine g_iload_n B dX5_cell_14 rfl ?_
    refine g_aald B dX5_cell_15 (by decide) (by rfl) (by exact vp_in_nI hs (by omega)) ?_
    rw [hcs]
    refine g_astore B dX5_cell_16 (by decide) rfl ?_
    refine g_aload B dX5_cell_18 rfl ?_
    refine g_callVi (C := RX2) (As := []) B dX5_cell_20 (gc1 g_X5_252) (by rfl) ⟨rfl, hd_X2_isMissing⟩ (by exact ⟨Nat.le_of_ble_eq_true rfl, Nat.le_of_ble_eq_true rfl⟩) ⟨rfl, rfl⟩ rfl rfl (by exact Nat.le_of_ble_eq_true rfl) (recv2 hs) (x_miss hs ?_)
    refine g_if_eq (tgt := 29) B dX5_cell_23 (by decide) (fun c23 => ?_) (fun c23 => ?_)
    · have h2 : ¬ a.1 12 s = 0 := fun q => b1_0.mp c23 ((sh_ge hSh hS hs).mpr q)
      rw [if_neg h2, if_neg h2] at hK
      obtain ⟨x1, x2, x3⟩ := (hSh s hs).2 h2
      obtain ⟨n, hn, en⟩ := (hS s hs h2).1
      rw [en, i_n (by omega)] at hK
      rw [en] at x2
      refine g_iload_n B dX5_cell_29 rfl ?_
      refine g_if_lt (tgt := 42) B dX5_cell_30 (by decide) (fun c30 => ?_) (fun c30 => ?_)
      · have h3 : ¬ (0 ≤ y.toInt ∧ y.toInt < n) := fun q => by
          first
          | exact absurd (i_lt.mp c30) (by rw [i0]; omega)
          | exact c39 (by rw [i_lt, i_n (by omega)]; exact q.2)
        rw [if_neg h3, if_neg h3] at hK
        refine g_bipush (v := (-12)) B dX5_cell_42 (by decide) ?_
        refine g_ireti B dX5_cell_44 ?_
        exact hK _ hR
      · refine g_iload_n B dX5_cell_33 rfl ?_
        refine g_aload B dX5_cell_34 rfl ?_
        refine g_getI (T := TX2) (N := 3) B dX5_cell_36 (hX (by omega)) (lo_s hs) (inq inlX2) rfl 1 (by decide) (mq f_X5_256) (by rfl) ?_
        rw [x2]
        refine g_icmp_lt (tgt := 45) B dX5_cell_39 (by decide) (fun c39 => ?_) (fun c39 => ?_)
        · have h3 : 0 ≤ y.toInt ∧ y.toInt < n := ⟨i_le.mp (Int32.not_lt.mp c30), by rw [i_lt, i_n (by omega)] at c39; exact c39⟩
          rw [if_pos h3, if_pos h3] at hK
          obtain ⟨i, hi, rfl⟩ := i_nat h3.1 h3.2
          rw [i_cl (by omega)] at hK
          refine g_aload B dX5_cell_45 rfl ?_
          refine g_iload_n B dX5_cell_47 rfl ?_
          refine g_iload_n B dX5_cell_48 rfl ?_
          refine g_callVv (C := RX2) (As := [.int _, .int _]) B dX5_cell_49 (gc1 g_X5_277) (by rfl) ⟨rfl, hd_X2_put⟩ (by exact ⟨Nat.le_of_ble_eq_true rfl, Nat.le_of_ble_eq_true rfl⟩) ⟨rfl, rfl⟩ rfl rfl (by exact Nat.le_of_ble_eq_true rfl) (recv2 hs) (x_put hs rfl hi hn x2 ?_)
          refine g_iconst (v := (1)) B dX5_cell_52 (by decide) ?_
          refine g_ireti B dX5_cell_53 ?_
          exact hK _ (hR.item hI hs (by omega) (by rw [x1]; rfl))
        · have h3 : ¬ (0 ≤ y.toInt ∧ y.toInt < n) := fun q => by
            first
            | exact absurd (i_lt.mp c30) (by rw [i0]; omega)
            | exact c39 (by rw [i_lt, i_n (by omega)]; exact q.2)
          rw [if_neg h3, if_neg h3] at hK
          refine g_bipush (v := (-12)) B dX5_cell_42 (by decide) ?_
          refine g_ireti B dX5_cell_44 ?_
          exact hK _ hR
    · have h2 := (sh_ge hSh hS hs).mp (b1_n0.mp c23)
      rw [if_pos h2, if_pos h2] at hK
      refine g_bipush (v := (-11)) B dX5_cell_26 (by decide) ?_
      refine g_ireti B dX5_cell_28 ?_
      exact hK _ hR
  · refine g_bipush (v := (-2)) B dX5_cell_7 (by decide) ?_
    refine g_ireti B dX5_cell_9 ?_
    rw [if_neg (b1_0.mp c4), if_neg (b1_0.mp c4)] at hK
    exact hK _ hR

