/-! the two worlds as they begin -/
set_option maxRecDepth 100000 in
theorem tx_first : pText (tT sA5 0 32) (tV sA5 0 32) = .inr ([-1], ([1], [9])) := by decide +kernel
abbrev TC0 : Nat → TC := fun _ => ([-1], ([1], [9]))
theorem sA5_by : ∀ i, i < 32 → 0 ≤ (sA5.1 1 i).toInt ∧ (sA5.1 1 i).toInt < 256 := by decide +kernel
theorem sA5_txm : TXM sA5 0 32 (TC0 0) := ⟨by decide, rfl, by decide, fun i hi => by rw [show 160 * 0 + i = i by omega]; exact sA5_by i hi, tx_first⟩
theorem sA5_o {o : Nat} (h0 : o ≠ 0) (h1 : o ≠ 1) (h2 : o ≠ 2) (h4 : o ≠ 4) : sA5.1 o = fun _ => 0 := by
  unfold sA5
  rw [upS_3 h0, upS_3 h2]
  show va_up sA0.1 1 gT0 o = _
  unfold va_up
  rw [if_neg h1]
  unfold sA0
  simp only
  rw [if_neg h0, if_neg h4]
theorem sA5_4 : ∀ t, t < 30 → sA5.1 4 t = 5 := by decide +kernel
theorem inv0 : INV sA5 TC0 0 1 0 0 := by
  refine ⟨⟨⟨by decide, rfl⟩, ⟨by decide, by decide, rfl⟩, ⟨by decide, rfl⟩, ⟨by decide, rfl⟩⟩, ⟨⟨by decide, by decide⟩, fun v hv => ⟨32, ?_⟩, fun t ht => absurd ht (by omega)⟩, ⟨fun t ht => ?_, fun t _ => ?_, fun u _ => ?_⟩, Or.inl rfl, fun s _ h => ?_⟩
  · obtain rfl : v = 0 := by omega
    exact sA5_txm
  · rw [sA5_4 t ht]
    decide
  · rw [sA5_o (by decide) (by decide) (by decide) (by decide)]
    exact ⟨by show (0 : Int) ≤ 0; omega, by show (0 : Int) ≤ 5; omega⟩
  · rw [sA5_o (by decide) (by decide) (by decide) (by decide)]
    exact ⟨⟨by show (0 : Int) ≤ 0; omega, by show (0 : Int) ≤ 9; omega⟩, by show (0 : Int) ≤ 0; omega, by show (0 : Int) ≤ 1; omega⟩
  · rw [sA5_o (by decide) (by decide) (by decide) (by decide)] at h
    exact absurd rfl h
theorem wF_o {τ : St} {o : Nat} (h1 : o ≠ 26) (h2 : o ≠ 32) (h3 : o ≠ 38) : (wF τ 0).1 o = τ.1 o := by
  unfold wF wE wA
  rw [upS_3 h3, upS_3 h1, upS_3 h2, upS_3 h3, upS_3 h1, upS_3 h2, upS_3 h3, upS_3 h1, upS_3 h2]
theorem sX0_o {o : Nat} (h0 : o ≠ 0) (h1 : o ≠ 1) (h2 : ¬ (44 ≤ o ∧ o < 48)) : sX0.1 o = fun _ => 0 := by
  unfold sX0
  simp only
  rw [if_neg h0, if_neg h1, if_neg h2]
theorem sX0_1 : ∀ t, t < 30 → sX0.1 1 t = 5 := by decide +kernel
theorem wF_t : (((wF sX0 0).1 32 0 = -1 ∧ (wF sX0 0).1 32 1 = 1) ∧ (wF sX0 0).1 32 2 = 9) ∧ ((wF sX0 0).1 38 0 = nI 1 ∧ (wF sX0 0).1 38 1 = nI 2) ∧ (wF sX0 0).1 38 2 = nI 3 := by decide +kernel
theorem TC0_ok : TCok (TC0 0) := by
  unfold TCok
  exact ⟨by decide +kernel, by decide +kernel, by decide +kernel⟩
theorem rel0 : REL sA5 (wF sX0 0) TC0 0 1 0 0 := by
  refine ⟨⟨?_, ?_, ?_, ?_⟩, ⟨?_, fun i hi => absurd hi (by omega)⟩, fun t ht => ?_, fun u hu => ?_, fun k hk => ?_, fun s hs => ⟨fun _ => ?_, fun h => ?_⟩, fun _ => ?_, fun h => absurd rfl h⟩
  · rw [wF_o (by decide) (by decide) (by decide)]
    rfl
  · rw [wF_o (by decide) (by decide) (by decide)]
    rfl
  · rw [wF_o (by decide) (by decide) (by decide)]
    rfl
  · rw [wF_o (by decide) (by decide) (by decide)]
    rfl
  · rw [wF_o (by decide) (by decide) (by decide), sX0_o (by decide) (by decide) (by decide)]
    rfl
  · rw [wF_o (by decide) (by decide) (by decide), sA5_4 t ht, sX0_1 t ht]
  · rw [wF_o (by omega) (by omega) (by omega), sX0_o (by omega) (by omega) (by omega), sA5_o (by decide) (by decide) (by decide) (by decide), sA5_o (by decide) (by decide) (by decide) (by decide)]
    exact ⟨rfl, rfl, rfl⟩
  · obtain rfl : k = 0 := by omega
    obtain ⟨⟨⟨t1, t2⟩, t3⟩, ⟨e1, e2⟩, e3⟩ := wF_t
    exact ⟨by decide, ⟨⟨t1, trivial⟩, ⟨t2, trivial⟩, t3, trivial⟩, ⟨e1, e2, e3⟩, by decide, TC0_ok⟩
  · rw [wF_o (by omega) (by omega) (by omega)]
    unfold sX0
    simp only
    rw [if_neg (by omega), if_neg (by omega), if_pos (by omega), if_pos rfl]
  · rw [sA5_o (by decide) (by decide) (by decide) (by decide)] at h
    exact absurd rfl h
  · rw [wF_o (by decide) (by decide) (by decide), sX0_o (by decide) (by decide) (by decide)]
