/-! both worlds kept alike: set, user, feed, force, settle, count, taken *program* -/
theorem RUs.eq {a a' b b' : St} (h : RUs a b) (h5 : a'.1 5 = a.1 5) (h6 : a'.1 6 = a.1 6) (h1 : ∀ u, u < 6 → b'.1 (u + 20) = b.1 (u + 20)) : RUs a' b' := by
  unfold RUs
  rw [h5, h6]
  exact h.eqb h1
theorem RSh.eq {a a' b b' : St} (h : RSh a b) (h12 : a'.1 12 = a.1 12) (h13 : a'.1 13 = a.1 13) (h14 : a'.1 14 = a.1 14) (h15 : a'.1 15 = a.1 15) (h1 : ∀ s, s < 4 → b'.1 (s + 44) = b.1 (s + 44) ∧ b'.1 (s + 48) = b.1 (s + 48)) : RSh a' b' := by
  unfold RSh
  rw [h12, h13, h14, h15]
  exact h.eqb h1
theorem RIm.eq {a a' b b' : St} (h : RIm a b) (h35 : a'.1 0 35 = a.1 0 35) (h36 : a'.1 0 36 = a.1 0 36) (h37 : a'.1 0 37 = a.1 0 37) (h10 : a'.1 10 = a.1 10) (h11 : a'.1 11 = a.1 11) (g0 : b'.1 10 = b.1 10) (g1 : b'.1 13 = b.1 13) (g2 : b'.1 14 = b.1 14) (g3 : b'.1 15 = b.1 15) : RIm a' b' := by
  unfold RIm
  rw [h35, h36, h37, h10, h11]
  exact h.eqb g0 g1 g2 g3
theorem TXX.eqs {b b' : St} {T : Nat → TC} {c : Nat} (h : ∀ k, k < c → TXX b k (T k)) (h1 : ∀ o, 26 ≤ o → o < 44 → b'.1 o = b.1 o) (hc : c ≤ 6) : ∀ k, k < c → TXX b' k (T k) := fun k hk => (h k hk).eq (h1 _ (by omega) (by omega)) (h1 _ (by omega) (by omega))
/-- cell 0 alone is another on both sides -/
theorem REL.p0 {a a' b b' : St} {T : Nat → TC} {m c r p m' r' : Nat} (h : REL a b T m c r p) (hc6 : c ≤ 6) (ha : ∀ o, o ≠ 0 → a'.1 o = a.1 o) (hb : ∀ o, o ≠ 0 → b'.1 o = b.1 o) (h35 : a'.1 0 35 = a.1 0 35) (h36 : a'.1 0 36 = a.1 0 36) (h37 : a'.1 0 37 = a.1 0 37) (h0 : b'.1 0 1 = a'.1 0 7 ∧ b'.1 0 3 = nI m' ∧ b'.1 0 7 = nI c ∧ b'.1 0 8 = nI r') : REL a' b' T m' c r' p := by
  obtain ⟨_, ⟨h5, h6⟩, h7, h8, h9, h10, h11⟩ := h
  refine ⟨h0, ⟨?_, ?_⟩, ?_, ?_, ?_, ?_, ?_⟩
  · rw [hb 11 (by decide)]; exact h5
  · rw [hb 16 (by decide), ha 3 (by decide)]; exact h6
  · rw [hb 1 (by decide), ha 4 (by decide)]; exact h7
  · exact h8.eq (ha _ (by decide)) (ha _ (by decide)) (fun u hu => hb _ (by omega))
  · exact TXX.eqs h9 (fun o h1 h2 => hb o (by omega)) hc6
  · exact h10.eq (ha _ (by decide)) (ha _ (by decide)) (ha _ (by decide)) (ha _ (by decide)) (fun s hs => ⟨hb _ (by omega), hb _ (by omega)⟩)
  · exact h11.eq h35 h36 h37 (ha _ (by decide)) (ha _ (by decide)) (hb _ (by decide)) (hb _ (by decide)) (hb _ (by decide)) (hb _ (by decide))
theorem REL.share {a b : St} {T : Nat → TC} {m c r p : Nat} {v : Int32} (h : REL a b T m c r p) (hc6 : c ≤ 6) : REL (upS a 0 7 v) (upS b 0 1 v) T m c r p :=
  h.p0 hc6 (fun o ho => upS_3 ho) (fun o ho => upS_3 ho) (upS_2 (by decide)) (upS_2 (by decide)) (upS_2 (by decide)) ⟨by rw [upS_1, upS_1], by rw [upS_2 (by decide)]; exact h.1.2.1, by rw [upS_2 (by decide)]; exact h.1.2.2.1, by rw [upS_2 (by decide)]; exact h.1.2.2.2⟩
theorem REL.rule {a b : St} {T : Nat → TC} {m c r p q : Nat} {v : Int32} (h : REL a b T m c r p) (hc6 : c ≤ 6) (hv : v = nI q) : REL (upS a 0 4 v) (upS b 0 8 v) T m c q p :=
  h.p0 hc6 (fun o ho => upS_3 ho) (fun o ho => upS_3 ho) (upS_2 (by decide)) (upS_2 (by decide)) (upS_2 (by decide)) ⟨by rw [upS_2 (by decide), upS_2 (by decide)]; exact h.1.1, by rw [upS_2 (by decide)]; exact h.1.2.1, by rw [upS_2 (by decide)]; exact h.1.2.2.1, by rw [upS_1]; exact hv⟩
theorem REL.cold {a b : St} {T : Nat → TC} {m c r p t : Nat} {v : Int32} (h : REL a b T m c r p) (hc6 : c ≤ 6) : REL (upS a 4 t v) (upS b 1 t v) T m c r p := by
  obtain ⟨h0, ⟨h5, h6⟩, h7, h8, h9, h10, h11⟩ := h
  refine ⟨?_, ⟨?_, ?_⟩, fun j hj => ?_, ?_, ?_, ?_, ?_⟩
  · rw [upS_3 (by decide), upS_3 (by decide)]; exact h0
  · rw [upS_3 (by decide)]; exact h5
  · rw [upS_3 (by decide), upS_3 (by decide)]; exact h6
  · by_cases e : j = t
    · subst e; rw [upS_1, upS_1]
    · rw [upS_2 e, upS_2 e]; exact h7 j hj
  · exact h8.eq (upS_3 (by decide)) (upS_3 (by decide)) (fun u hu => upS_3 (by omega))
  · exact TXX.eqs h9 (fun o h1 h2 => upS_3 (by omega)) hc6
  · exact h10.eq (upS_3 (by decide)) (upS_3 (by decide)) (upS_3 (by decide)) (upS_3 (by decide)) (fun s hs => ⟨upS_3 (by omega), upS_3 (by omega)⟩)
  · exact h11.eq (by rw [upS_3 (by decide)]) (by rw [upS_3 (by decide)]) (by rw [upS_3 (by decide)]) (upS_3 (by decide)) (upS_3 (by decide)) (upS_3 (by decide)) (upS_3 (by decide)) (upS_3 (by decide)) (upS_3 (by decide))
/-- users alone are others -/
theorem REL.usr {a a' b b' : St} {T : Nat → TC} {m c r p : Nat} (h : REL a b T m c r p) (hc6 : c ≤ 6) (ha : ∀ o, o ≠ 5 → o ≠ 6 → a'.1 o = a.1 o) (hb : ∀ o, ¬ (20 ≤ o ∧ o < 26) → b'.1 o = b.1 o) (hu : RUs a' b') : REL a' b' T m c r p := by
  obtain ⟨h0, ⟨h5, h6⟩, h7, h8, h9, h10, h11⟩ := h
  refine ⟨?_, ⟨?_, ?_⟩, ?_, hu, ?_, ?_, ?_⟩
  · rw [hb 0 (by omega), ha 0 (by decide) (by decide)]; exact h0
  · rw [hb 11 (by omega)]; exact h5
  · rw [hb 16 (by omega), ha 3 (by decide) (by decide)]; exact h6
  · rw [hb 1 (by omega), ha 4 (by decide) (by decide)]; exact h7
  · exact TXX.eqs h9 (fun o h1 h2 => hb o (by omega)) hc6
  · exact h10.eq (ha _ (by decide) (by decide)) (ha _ (by decide) (by decide)) (ha _ (by decide) (by decide)) (ha _ (by decide) (by decide)) (fun s hs => ⟨hb _ (by omega), hb _ (by omega)⟩)
  · exact h11.eq (by rw [ha 0 (by decide) (by decide)]) (by rw [ha 0 (by decide) (by decide)]) (by rw [ha 0 (by decide) (by decide)]) (ha _ (by decide) (by decide)) (ha _ (by decide) (by decide)) (hb _ (by omega)) (hb _ (by omega)) (hb _ (by omega)) (hb _ (by omega))
theorem REL.num {a b : St} {T : Nat → TC} {m c r p u : Nat} {v : Int32} (h : REL a b T m c r p) (hc6 : c ≤ 6) (hu : u < 6) : REL (upS a 6 (2 * u) v) (upS b (u + 20) 1 v) T m c r p := by
  refine h.usr hc6 (fun o h5 h6 => upS_3 h6) (fun o ho => upS_3 (by omega)) (fun w hw => ?_)
  obtain ⟨g1, g2, g3⟩ := h.2.2.2.1 w hw
  by_cases e : w = u
  · subst e
    exact ⟨by rw [upS_2 (by decide), upS_3 (by decide)]; exact g1, by rw [upS_1, upS_1], by rw [upS_2 (by decide), upS_2 (by omega)]; exact g3⟩
  · exact ⟨by rw [upS_3 (by omega), upS_3 (by decide)]; exact g1, by rw [upS_3 (by omega), upS_2 (by omega)]; exact g2, by rw [upS_3 (by omega), upS_2 (by omega)]; exact g3⟩
theorem REL.town {a b : St} {T : Nat → TC} {m c r p u : Nat} {v : Int32} (h : REL a b T m c r p) (hc6 : c ≤ 6) (hu : u < 6) : REL (upS a 6 (2 * u + 1) v) (upS b (u + 20) 2 v) T m c r p := by
  refine h.usr hc6 (fun o h5 h6 => upS_3 h6) (fun o ho => upS_3 (by omega)) (fun w hw => ?_)
  obtain ⟨g1, g2, g3⟩ := h.2.2.2.1 w hw
  by_cases e : w = u
  · subst e
    exact ⟨by rw [upS_2 (by decide), upS_3 (by decide)]; exact g1, by rw [upS_2 (by decide), upS_2 (by omega)]; exact g2, by rw [upS_1, upS_1]⟩
  · exact ⟨by rw [upS_3 (by omega), upS_3 (by decide)]; exact g1, by rw [upS_3 (by omega), upS_2 (by omega)]; exact g2, by rw [upS_3 (by omega), upS_2 (by omega)]; exact g3⟩
theorem REL.kind {a b : St} {T : Nat → TC} {m c r p u : Nat} {v : Int32} (h : REL a b T m c r p) (hc6 : c ≤ 6) (hu : u < 6) : REL (upS a 5 u v) (upS b (u + 20) 0 v) T m c r p := by
  refine h.usr hc6 (fun o h5 h6 => upS_3 h5) (fun o ho => upS_3 (by omega)) (fun w hw => ?_)
  obtain ⟨g1, g2, g3⟩ := h.2.2.2.1 w hw
  by_cases e : w = u
  · subst e
    exact ⟨by rw [upS_1, upS_1], by rw [upS_2 (by decide), upS_3 (by decide)]; exact g2, by rw [upS_2 (by decide), upS_3 (by decide)]; exact g3⟩
  · exact ⟨by rw [upS_3 (by omega), upS_2 (by omega)]; exact g1, by rw [upS_3 (by omega), upS_3 (by decide)]; exact g2, by rw [upS_3 (by omega), upS_3 (by decide)]; exact g3⟩
set_option maxRecDepth 100000 in
set_option maxHeartbeats 4000000 in
theorem x_putShare {Z : LZ} {ad : Nat → Nat} {τ : St} {K : Int32 → St → Prop} {v : Int32} (hK1 : shR v → K (τ.1 0 1) (upS τ 0 1 v)) (hK2 : ¬ shR v → K (-2) τ) : CC lyX Z ad yX5_putShare wsX5_putShare (rmk 0) [.ref (ad 0), .int v] τ (rI K) := by
  refine CC.of (cc := cX5_putShare) (nL := 3) (ret := (some .int)) rfl rfl ⟨rfl, rfl⟩ (by exact Nat.le_of_ble_eq_true rfl) ?_
  intro X B
  change GG _ _ _ _ X _ 0 [some (.ref (ad 0)), some (.int v), none] [] _
  change Amb _ _ _ _ X _ _ RX5 _ _ at B
  refine g_iload_n B dX5_putShare_0 rfl ?_
  refine g_if_lt (tgt := 10) B dX5_putShare_1 (by decide) (fun c1 => ?_) (fun c1 => ?_)
  · refine g_bipush (v := (-2)) B dX5_putShare_10 (by decide) ?_
    refine g_ireti B dX5_putShare_12 ?_
    refine hK2 (fun h => ?_)
    first
      | exact absurd (i_lt.mp c1) (by have := h.1; rw [i0]; omega)
      | exact c7 (i_le.mpr h.2)
  · refine g_iload_n B dX5_putShare_4 rfl ?_
    refine g_ldc (v := (1073741823)) B dX5_putShare_5 (mq k_X5_97) ?_
    refine g_icmp_le (tgt := 13) B dX5_putShare_7 (by decide) (fun c7 => ?_) (fun c7 => ?_)
    · refine g_aload_n B dX5_putShare_13 rfl ?_
      refine g_getI (T := TX5) (N := 16) B dX5_putShare_14 (by decide) (by rfl) (inq inlX5) rfl 1 (by decide) (mq f_X5_13) (by rfl) ?_
      refine g_istore_n B dX5_putShare_17 (by decide) rfl ?_
      refine g_aload_n B dX5_putShare_18 rfl ?_
      refine g_iload_n B dX5_putShare_19 rfl ?_
      refine g_putI (T := TX5) (N := 16) B dX5_putShare_20 (by decide) (by rfl) (inq inlX5) rfl 1 (by decide) (mq f_X5_13) tyX5_ok nmX5 rfl ⟨rfl, rfl⟩ (by rfl) ?_
      refine g_iload_n B dX5_putShare_23 rfl ?_
      refine g_ireti B dX5_putShare_24 ?_
      exact hK1 ⟨i_le.mp (Int32.not_lt.mp c1), i_le.mp c7⟩
    · refine g_bipush (v := (-2)) B dX5_putShare_10 (by decide) ?_
      refine g_ireti B dX5_putShare_12 ?_
      refine hK2 (fun h => ?_)
      first
        | exact absurd (i_lt.mp c1) (by have := h.1; rw [i0]; omega)
        | exact c7 (i_le.mpr h.2)
set_option maxRecDepth 100000 in
set_option maxHeartbeats 4000000 in
theorem x_putCold {Z : LZ} {ad : Nat → Nat} {τ : St} {K : Int32 → St → Prop} {x v : Int32} (hK1 : ∀ t, t < 30 → x = nI t → (0 ≤ v.toInt ∧ v.toInt ≤ 9) → K (τ.1 1 t) (upS τ 1 t v)) (hK2 : ¬ (isNt x ∧ 0 ≤ v.toInt ∧ v.toInt ≤ 9) → K (-2) τ) : CC lyX Z ad yX5_putCold wsX5_putCold (rmk 1) [.ref (ad 0), .int x, .int v] τ (rI K) := by
  refine CC.of (cc := cX5_putCold) (nL := 4) (ret := (some .int)) rfl rfl ⟨rfl, rfl⟩ (by exact Nat.le_of_ble_eq_true rfl) ?_
  intro X B
  change GG _ _ _ _ X _ 0 [some (.ref (ad 0)), some (.int x), some (.int v), none] [] _
  change Amb _ _ _ _ X _ _ RX5 _ _ at B
  refine g_iload_n B dX5_putCold_0 rfl ?_
  refine g_callSi (As := [.int _]) B dX5_putCold_1 (gc1 g_X5_98) (by rfl) hd_X5_isNight (by exact ⟨Nat.le_of_ble_eq_true rfl, Nat.le_of_ble_eq_true rfl⟩) ⟨rfl, rfl⟩ rfl rfl (by exact Nat.le_of_ble_eq_true rfl) (x_isNight ?_)
  refine g_if_eq (tgt := 14) B dX5_putCold_4 (by decide) (fun c4 => ?_) (fun c4 => ?_)
  · refine g_bipush (v := (-2)) B dX5_putCold_14 (by decide) ?_
    refine g_ireti B dX5_putCold_16 ?_
    refine hK2 (fun h => ?_)
    first
      | exact b1_0.mp c11 h.2
      | exact b1_0.mp c4 h.1
  · refine g_iload_n B dX5_putCold_7 rfl ?_
    refine g_callSi (As := [.int _]) B dX5_putCold_8 (gc1 g_X5_102) (by rfl) hd_X5_isDigit (by exact ⟨Nat.le_of_ble_eq_true rfl, Nat.le_of_ble_eq_true rfl⟩) ⟨rfl, rfl⟩ rfl rfl (by exact Nat.le_of_ble_eq_true rfl) (x_isDigit ?_)
    refine g_if_ne (tgt := 17) B dX5_putCold_11 (by decide) (fun c11 => ?_) (fun c11 => ?_)
    · have h1 := b1_n0.mp c4
      have h2 := b1_n0.mp c11
      obtain ⟨t, ht, rfl⟩ := i_nat (n := 30) h1.1 (by omega)
      have hct : (nI t).toNatClampNeg = t := i_cl (by omega)
      refine g_aload_n B dX5_putCold_17 rfl ?_
      refine g_getR (T := TX5) (N := 16) B dX5_putCold_18 (by decide) (by rfl) (inq inlX5) rfl 0 (by decide) (mq f_X5_9) (by rfl) ?_
      refine g_iload_n B dX5_putCold_21 rfl ?_
      refine g_iald B dX5_putCold_22 (by decide) (by rfl) (by exact vp_in_nI ht (by omega)) ?_
      rw [hct]
      refine g_istore_n B dX5_putCold_23 (by decide) rfl ?_
      refine g_aload_n B dX5_putCold_24 rfl ?_
      refine g_getR (T := TX5) (N := 16) B dX5_putCold_25 (by decide) (by rfl) (inq inlX5) rfl 0 (by decide) (mq f_X5_9) (by rfl) ?_
      refine g_iload_n B dX5_putCold_28 rfl ?_
      refine g_iload_n B dX5_putCold_29 rfl ?_
      refine g_iast B dX5_putCold_30 (by decide) (by rfl) (by exact vp_in_nI ht (by omega)) ?_
      rw [hct]
      refine g_iload_n B dX5_putCold_31 rfl ?_
      refine g_ireti B dX5_putCold_32 ?_
      exact hK1 t ht rfl h2
    · refine g_bipush (v := (-2)) B dX5_putCold_14 (by decide) ?_
      refine g_ireti B dX5_putCold_16 ?_
      refine hK2 (fun h => ?_)
      first
        | exact b1_0.mp c11 h.2
        | exact b1_0.mp c4 h.1
set_option maxRecDepth 100000 in
set_option maxHeartbeats 4000000 in
theorem x_putNumber {Z : LZ} {ad : Nat → Nat} {τ : St} {K : Int32 → St → Prop} {x v : Int32} {m : Nat} (hm6 : m ≤ 6) (hm : τ.1 0 3 = nI m) (hK1 : ∀ u, u < m → x = nI u → (0 ≤ v.toInt ∧ v.toInt ≤ 9) → K (τ.1 (u + 20) 1) (upS τ (u + 20) 1 v)) (hK2 : ¬ (isUs m x ∧ 0 ≤ v.toInt ∧ v.toInt ≤ 9) → K (-2) τ) : CC lyX Z ad yX5_putNumber wsX5_putNumber (rmk 1) [.ref (ad 0), .int x, .int v] τ (rI K) := by
  refine CC.of (cc := cX5_putNumber) (nL := 4) (ret := (some .int)) rfl rfl ⟨rfl, rfl⟩ (by exact Nat.le_of_ble_eq_true rfl) ?_
  intro X B
  change GG _ _ _ _ X _ 0 [some (.ref (ad 0)), some (.int x), some (.int v), none] [] _
  change Amb _ _ _ _ X _ _ RX5 _ _ at B
  refine g_aload_n B dX5_putNumber_0 rfl ?_
  refine g_iload_n B dX5_putNumber_1 rfl ?_
  refine g_callVi (C := RX5) (As := [.int _]) B dX5_putNumber_2 (gc1 g_X5_105) (by rfl) ⟨rfl, hd_X5_isUser⟩ (by exact ⟨Nat.le_of_ble_eq_true rfl, Nat.le_of_ble_eq_true rfl⟩) ⟨rfl, rfl⟩ rfl rfl (by exact Nat.le_of_ble_eq_true rfl) recv5 (x_isUser hm6 hm ?_)
  refine g_if_eq (tgt := 15) B dX5_putNumber_5 (by decide) (fun c5 => ?_) (fun c5 => ?_)
  · refine g_bipush (v := (-2)) B dX5_putNumber_15 (by decide) ?_
    refine g_ireti B dX5_putNumber_17 ?_
    refine hK2 (fun h => ?_)
    first
      | exact b1_0.mp c12 h.2
      | exact b1_0.mp c5 h.1
  · refine g_iload_n B dX5_putNumber_8 rfl ?_
    refine g_callSi (As := [.int _]) B dX5_putNumber_9 (gc1 g_X5_102) (by rfl) hd_X5_isDigit (by exact ⟨Nat.le_of_ble_eq_true rfl, Nat.le_of_ble_eq_true rfl⟩) ⟨rfl, rfl⟩ rfl rfl (by exact Nat.le_of_ble_eq_true rfl) (x_isDigit ?_)
    refine g_if_ne (tgt := 18) B dX5_putNumber_12 (by decide) (fun c12 => ?_) (fun c12 => ?_)
    · have h1 := b1_n0.mp c5
      have h2 := b1_n0.mp c12
      obtain ⟨u, hu, rfl⟩ := i_nat h1.1 h1.2
      have hcu : (nI u).toNatClampNeg = u := i_cl (by omega)
      have hU : UO (u + 20) := UO.u (by omega)
      refine g_aload_n B dX5_putNumber_18 rfl ?_
      refine g_getR (T := TX5) (N := 16) B dX5_putNumber_19 (by decide) (by rfl) (inq inlX5) rfl 2 (by decide) (mq f_X5_19) (by rfl) ?_
      refine g_iload_n B dX5_putNumber_22 rfl ?_
      refine g_aald B dX5_putNumber_23 (by decide) (by rfl) (by exact vp_in_nI (by omega) (by omega)) ?_
      rw [hcu]
      refine g_getI (T := TX4) (N := 3) B dX5_putNumber_24 (hU.lt) (hU.lo) (inq inlX4) rfl 1 (by decide) (mq f_X5_108) (by rfl) ?_
      refine g_istore_n B dX5_putNumber_27 (by decide) rfl ?_
      refine g_aload_n B dX5_putNumber_28 rfl ?_
      refine g_getR (T := TX5) (N := 16) B dX5_putNumber_29 (by decide) (by rfl) (inq inlX5) rfl 2 (by decide) (mq f_X5_19) (by rfl) ?_
      refine g_iload_n B dX5_putNumber_32 rfl ?_
      refine g_aald B dX5_putNumber_33 (by decide) (by rfl) (by exact vp_in_nI (by omega) (by omega)) ?_
      rw [hcu]
      refine g_iload_n B dX5_putNumber_34 rfl ?_
      refine g_putI (T := TX4) (N := 3) B dX5_putNumber_35 (hU.lt) (hU.lo) (inq inlX4) rfl 1 (by decide) (mq f_X5_108) tyX4_ok nmX4 rfl ⟨rfl, rfl⟩ (by rfl) ?_
      refine g_iload_n B dX5_putNumber_38 rfl ?_
      refine g_ireti B dX5_putNumber_39 ?_
      exact hK1 u hu rfl h2
    · refine g_bipush (v := (-2)) B dX5_putNumber_15 (by decide) ?_
      refine g_ireti B dX5_putNumber_17 ?_
      refine hK2 (fun h => ?_)
      first
        | exact b1_0.mp c12 h.2
        | exact b1_0.mp c5 h.1
set_option maxRecDepth 100000 in
set_option maxHeartbeats 4000000 in
theorem x_putTown {Z : LZ} {ad : Nat → Nat} {τ : St} {K : Int32 → St → Prop} {x v : Int32} {m : Nat} (hm6 : m ≤ 6) (hm : τ.1 0 3 = nI m) (hK1 : ∀ u, u < m → x = nI u → (0 ≤ v.toInt ∧ v.toInt ≤ 1) → K (τ.1 (u + 20) 2) (upS τ (u + 20) 2 v)) (hK2 : ¬ (isUs m x ∧ 0 ≤ v.toInt ∧ v.toInt ≤ 1) → K (-2) τ) : CC lyX Z ad yX5_putTown wsX5_putTown (rmk 1) [.ref (ad 0), .int x, .int v] τ (rI K) := by
  refine CC.of (cc := cX5_putTown) (nL := 4) (ret := (some .int)) rfl rfl ⟨rfl, rfl⟩ (by exact Nat.le_of_ble_eq_true rfl) ?_
  intro X B
  change GG _ _ _ _ X _ 0 [some (.ref (ad 0)), some (.int x), some (.int v), none] [] _
  change Amb _ _ _ _ X _ _ RX5 _ _ at B
  refine g_aload_n B dX5_putTown_0 rfl ?_
  refine g_iload_n B dX5_putTown_1 rfl ?_
  refine g_callVi (C := RX5) (As := [.int _]) B dX5_putTown_2 (gc1 g_X5_105) (by rfl) ⟨rfl, hd_X5_isUser⟩ (by exact ⟨Nat.le_of_ble_eq_true rfl, Nat.le_of_ble_eq_true rfl⟩) ⟨rfl, rfl⟩ rfl rfl (by exact Nat.le_of_ble_eq_true rfl) recv5 (x_isUser hm6 hm ?_)
  refine g_if_eq (tgt := 15) B dX5_putTown_5 (by decide) (fun c5 => ?_) (fun c5 => ?_)
  · refine g_bipush (v := (-2)) B dX5_putTown_15 (by decide) ?_
    refine g_ireti B dX5_putTown_17 ?_
    refine hK2 (fun h => ?_)
    first
      | exact b1_0.mp c12 h.2
      | exact b1_0.mp c5 h.1
  · refine g_iload_n B dX5_putTown_8 rfl ?_
    refine g_callSi (As := [.int _]) B dX5_putTown_9 (gc1 g_X5_111) (by rfl) hd_X5_isTown (by exact ⟨Nat.le_of_ble_eq_true rfl, Nat.le_of_ble_eq_true rfl⟩) ⟨rfl, rfl⟩ rfl rfl (by exact Nat.le_of_ble_eq_true rfl) (x_isTown ?_)
    refine g_if_ne (tgt := 18) B dX5_putTown_12 (by decide) (fun c12 => ?_) (fun c12 => ?_)
    · have h1 := b1_n0.mp c5
      have h2 := b1_n0.mp c12
      obtain ⟨u, hu, rfl⟩ := i_nat h1.1 h1.2
      have hcu : (nI u).toNatClampNeg = u := i_cl (by omega)
      have hU : UO (u + 20) := UO.u (by omega)
      refine g_aload_n B dX5_putTown_18 rfl ?_
      refine g_getR (T := TX5) (N := 16) B dX5_putTown_19 (by decide) (by rfl) (inq inlX5) rfl 2 (by decide) (mq f_X5_19) (by rfl) ?_
      refine g_iload_n B dX5_putTown_22 rfl ?_
      refine g_aald B dX5_putTown_23 (by decide) (by rfl) (by exact vp_in_nI (by omega) (by omega)) ?_
      rw [hcu]
      refine g_getI (T := TX4) (N := 3) B dX5_putTown_24 (hU.lt) (hU.lo) (inq inlX4) rfl 2 (by decide) (mq f_X5_114) (by rfl) ?_
      refine g_istore_n B dX5_putTown_27 (by decide) rfl ?_
      refine g_aload_n B dX5_putTown_28 rfl ?_
      refine g_getR (T := TX5) (N := 16) B dX5_putTown_29 (by decide) (by rfl) (inq inlX5) rfl 2 (by decide) (mq f_X5_19) (by rfl) ?_
      refine g_iload_n B dX5_putTown_32 rfl ?_
      refine g_aald B dX5_putTown_33 (by decide) (by rfl) (by exact vp_in_nI (by omega) (by omega)) ?_
      rw [hcu]
      refine g_iload_n B dX5_putTown_34 rfl ?_
      refine g_putI (T := TX4) (N := 3) B dX5_putTown_35 (hU.lt) (hU.lo) (inq inlX4) rfl 2 (by decide) (mq f_X5_114) tyX4_ok nmX4 rfl ⟨rfl, rfl⟩ (by rfl) ?_
      refine g_iload_n B dX5_putTown_38 rfl ?_
      refine g_ireti B dX5_putTown_39 ?_
      exact hK1 u hu rfl h2
    · refine g_bipush (v := (-2)) B dX5_putTown_15 (by decide) ?_
      refine g_ireti B dX5_putTown_17 ?_
      refine hK2 (fun h => ?_)
      first
        | exact b1_0.mp c12 h.2
        | exact b1_0.mp c5 h.1
theorem setN {a : St} {C : TC} {m : Nat} {x y v : Int32} (h : ¬ setP m x y v) : fSet a C m x y v = -2 ∧ gSet a m x y v = a := ⟨if_neg h, if_neg h⟩
theorem setY {a : St} {C : TC} {m : Nat} {x y v : Int32} (h : setP m x y v) : fSet a C m x y v = fTold a C m y x ∧ gSet a m x y v = laysT a x.toNatClampNeg y.toNatClampNeg v := ⟨if_pos h, if_pos h⟩
set_option maxRecDepth 100000 in
set_option maxHeartbeats 4000000 in
theorem z_set {Z : LZ} {ad : Nat → Nat} {a b : St} {T : Nat → TC} {m c r p : Nat} {K : Int32 → St → Prop} {x y v : Int32} (hI : INV a T m c r p) (hR : REL a b T m c r p) (hK : ∀ b', REL (gSet a m x y v) b' T m c r p → K (fSet a (T r) m x y v) b') : CC lyX Z ad yX5_set wsX5_set (rmk 2) [.ref (ad 0), .int x, .int y, .int v] b (rI K) := by
  refine CC.of (cc := cX5_set) (nL := 4) (ret := (some .int)) rfl rfl ⟨rfl, rfl⟩ (by exact Nat.le_of_ble_eq_true rfl) ?_
  intro X B
  change GG _ _ _ _ X _ 0 [some (.ref (ad 0)), some (.int x), some (.int y), some (.int v)] [] _
  change Amb _ _ _ _ X _ _ RX5 _ _ at B
  have hm6 := hI.1.1.1
  have hc6 := hI.1.2.1.2.1
  refine g_iload_n B dX5_set_0 rfl ?_
  refine g_tsw (dt := 59) B dX5_set_1 (by decide) (by rfl) (by decide) (fun c1 => ?_) (And.intro (fun c1 => ?_) (And.intro (fun c1 => ?_) (And.intro (fun c1 => ?_) (And.intro (fun c1 => ?_) trivial))))
  · refine g_bipush (v := (-2)) B dX5_set_59 (by decide) ?_
    refine g_ireti B dX5_set_61 ?_
    have hs : ¬ setP m x y v := fun q => by have := q.1; omega
    rw [(setN (a := a) (C := T r) hs).1, (setN (a := a) (C := T r) hs).2] at hK
    exact hK _ hR
  · change GG _ _ _ _ _ _ 32 _ _ _
    change _ = (0 : Int32) at c1
    subst c1
    refine g_aload_n B dX5_set_32 rfl ?_
    refine g_iload_n B dX5_set_33 rfl ?_
    refine g_callVi (C := RX5) (As := [.int _]) B dX5_set_34 (gc1 g_X5_83) (by rfl) ⟨rfl, hd_X5_putShare⟩ (by exact ⟨Nat.le_of_ble_eq_true rfl, Nat.le_of_ble_eq_true rfl⟩) ⟨rfl, rfl⟩ rfl rfl (by exact Nat.le_of_ble_eq_true rfl) recv5 (x_putShare (fun h => ?_) (fun h => ?_))
    · have hs : setP m 0 y v := ⟨by decide, Or.inl rfl, by rw [if_pos rfl]; exact h⟩
      rw [(setY (C := T r) hs).1, (setY (C := T r) hs).2, fT_0] at hK
      have h9 := hK _ (show REL (laysT a 0 y.toNatClampNeg v) (upS b 0 1 v) T m c r p from hR.share hc6)
      rw [← hR.1.1] at h9
      refine g_ireti B dX5_set_37 ?_
      exact h9
    · have hs : ¬ setP m 0 y v := fun q => h (by have := q.2.2; rw [if_pos rfl] at this; exact this)
      rw [(setN (a := a) (C := T r) hs).1, (setN (a := a) (C := T r) hs).2] at hK
      have h9 := hK _ hR
      refine g_ireti B dX5_set_37 ?_
      exact h9
  · change GG _ _ _ _ _ _ 38 _ _ _
    change _ = (1 : Int32) at c1
    subst c1
    refine g_aload_n B dX5_set_38 rfl ?_
    refine g_iload_n B dX5_set_39 rfl ?_
    refine g_iload_n B dX5_set_40 rfl ?_
    refine g_callVi (C := RX5) (As := [.int _, .int _]) B dX5_set_41 (gc1 g_X5_87) (by rfl) ⟨rfl, hd_X5_putCold⟩ (by exact ⟨Nat.le_of_ble_eq_true rfl, Nat.le_of_ble_eq_true rfl⟩) ⟨rfl, rfl⟩ rfl rfl (by exact Nat.le_of_ble_eq_true rfl) recv5 (x_putCold (fun t ht e h => ?_) (fun h => ?_))
    · subst e
      have hs : setP m 1 (nI t) v := ⟨by decide, Or.inr (Or.inl ⟨by decide, by rw [i_n (by omega)]; omega, by rw [i_n (by omega)]; omega⟩), by rw [if_neg (by decide), if_neg (by decide)]; exact h⟩
      have hn : isNt (nI t) := ⟨by rw [i_n (by omega)]; omega, by rw [i_n (by omega)]; omega⟩
      rw [(setY (C := T r) hs).1, (setY (C := T r) hs).2, fT_1, if_pos hn, i_cl (by omega)] at hK
      have h9 := hK _ (show REL (laysT a 1 t v) (upS b 1 t v) T m c r p from hR.cold hc6)
      rw [← hR.2.2.1 t ht] at h9
      refine g_ireti B dX5_set_44 ?_
      exact h9
    · have hs : ¬ setP m 1 y v := fun q => h ⟨by
        rcases q.2.1 with z | z | z
        · exact absurd z (by decide)
        · exact z.2
        · exact absurd (Or.inl rfl) z.1, by have := q.2.2; rw [if_neg (by decide), if_neg (by decide)] at this; exact this⟩
      rw [(setN (a := a) (C := T r) hs).1, (setN (a := a) (C := T r) hs).2] at hK
      have h9 := hK _ hR
      refine g_ireti B dX5_set_44 ?_
      exact h9
  · change GG _ _ _ _ _ _ 45 _ _ _
    change _ = (2 : Int32) at c1
    subst c1
    refine g_aload_n B dX5_set_45 rfl ?_
    refine g_iload_n B dX5_set_46 rfl ?_
    refine g_iload_n B dX5_set_47 rfl ?_
    refine g_callVi (C := RX5) (As := [.int _, .int _]) B dX5_set_48 (gc1 g_X5_91) (by rfl) ⟨rfl, hd_X5_putNumber⟩ (by exact ⟨Nat.le_of_ble_eq_true rfl, Nat.le_of_ble_eq_true rfl⟩) ⟨rfl, rfl⟩ rfl rfl (by exact Nat.le_of_ble_eq_true rfl) recv5 (x_putNumber hm6 hR.1.2.1 (fun t ht e h => ?_) (fun h => ?_))
    · subst e
      have hn : isUs m (nI t) := ⟨by rw [i_n (by omega)]; omega, by rw [i_n (by omega)]; omega⟩
      have hs : setP m 2 (nI t) v := ⟨by decide, Or.inr (Or.inr ⟨by decide, hn⟩), by rw [if_neg (by decide), if_neg (by decide)]; exact h⟩
      rw [(setY (C := T r) hs).1, (setY (C := T r) hs).2, fT_u (v := a.1 6 (2 * (nI t).toNatClampNeg)) (Or.inl rfl) (fun _ => rfl), if_pos hn, i_cl (by omega)] at hK
      have h9 := hK _ (show REL (laysT a 2 t v) (upS b (t + 20) 1 v) T m c r p from hR.num hc6 (by omega))
      rw [← (hR.2.2.2.1 t (by omega)).2.1] at h9
      refine g_ireti B dX5_set_51 ?_
      exact h9
    · have hs : ¬ setP m 2 y v := fun q => h ⟨by
        rcases q.2.1 with z | z | z
        · exact absurd z (by decide)
        · exact absurd z.1 (by decide)
        · exact z.2, by have := q.2.2; rw [if_neg (by decide), if_neg (by decide)] at this; exact this⟩
      rw [(setN (a := a) (C := T r) hs).1, (setN (a := a) (C := T r) hs).2] at hK
      have h9 := hK _ hR
      refine g_ireti B dX5_set_51 ?_
      exact h9
  · change GG _ _ _ _ _ _ 52 _ _ _
    change _ = (3 : Int32) at c1
    subst c1
    refine g_aload_n B dX5_set_52 rfl ?_
    refine g_iload_n B dX5_set_53 rfl ?_
    refine g_iload_n B dX5_set_54 rfl ?_
    refine g_callVi (C := RX5) (As := [.int _, .int _]) B dX5_set_55 (gc1 g_X5_94) (by rfl) ⟨rfl, hd_X5_putTown⟩ (by exact ⟨Nat.le_of_ble_eq_true rfl, Nat.le_of_ble_eq_true rfl⟩) ⟨rfl, rfl⟩ rfl rfl (by exact Nat.le_of_ble_eq_true rfl) recv5 (x_putTown hm6 hR.1.2.1 (fun t ht e h => ?_) (fun h => ?_))
    · subst e
      have hn : isUs m (nI t) := ⟨by rw [i_n (by omega)]; omega, by rw [i_n (by omega)]; omega⟩
      have hs : setP m 3 (nI t) v := ⟨by decide, Or.inr (Or.inr ⟨by decide, hn⟩), by rw [if_neg (by decide), if_pos rfl]; exact h⟩
      rw [(setY (C := T r) hs).1, (setY (C := T r) hs).2, fT_u (v := a.1 6 (2 * (nI t).toNatClampNeg + 1)) (Or.inr (Or.inl rfl)) (fun _ => rfl), if_pos hn, i_cl (by omega)] at hK
      have h9 := hK _ (show REL (laysT a 3 t v) (upS b (t + 20) 2 v) T m c r p from hR.town hc6 (by omega))
      rw [← (hR.2.2.2.1 t (by omega)).2.2] at h9
      refine g_ireti B dX5_set_58 ?_
      exact h9
    · have hs : ¬ setP m 3 y v := fun q => h ⟨by
        rcases q.2.1 with z | z | z
        · exact absurd z (by decide)
        · exact absurd z.1 (by decide)
        · exact z.2, by have := q.2.2; rw [if_neg (by decide), if_pos rfl] at this; exact this⟩
      rw [(setN (a := a) (C := T r) hs).1, (setN (a := a) (C := T r) hs).2] at hK
      have h9 := hK _ hR
      refine g_ireti B dX5_set_58 ?_
      exact h9

