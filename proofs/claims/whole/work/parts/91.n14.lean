/-! the arrays' classes out of the words *the law's start* -/
theorem law_ac {args : Array Value} {s : State} {D : va_G} {ty : FieldType} (hty : ty = .int ∨ ty = .boolean) (hK : va_K D vwCl [] s) (h : (Cond.arrayClass ty).before args s = true) : ∃ c : ClassId, va_K D vwCl [(c, ty)] s := by
  obtain ⟨cA, kA, comp, h1, h2, h3⟩ := Cond.arrayClass_spec h
  refine ⟨cA, hK.1, fun k q hk => ?_⟩
  match k, hk with
  | 0, hk =>
    cases hk
    refine ⟨fun n z => ⟨fun k h => (by cases h), kA, h2, comp, h3⟩, ?_⟩
    rcases hty with h | h <;> subst h <;> exact h1
theorem law_ao {s : State} {D : va_G} {C : String} (hK : va_K D vwCl [] s) (h : va_AO C s) : ∃ c : ClassId, va_K D vwCl [(c, .object C)] s := by
  obtain ⟨comp, c, k, h1, h2, h3, h4, h5⟩ := Cond.arrayOver_spec h
  refine ⟨c, hK.1, fun j q hj => ?_⟩
  match j, hj with
  | 0, hj =>
    cases hj
    exact ⟨fun n z => ⟨fun k h => (by cases h), k, h3, comp, h4⟩, k, comp, h3, h4, h1, h5⟩
theorem law_T {args : Array Value} {s : State} (hts : ∀ w ∈ wsL_law, w.before args s = true) (hAO : AO5 s) : ∃ (D : va_G) (cI cZ cU cT cS : ClassId), va_K D vwCl [(cI, .int), (cZ, .boolean), (cU, .object RX4), (cT, .object RX3), (cS, .object RX2)] s := by
  obtain ⟨D, hK⟩ := law_D hts
  obtain ⟨cI, h1⟩ := law_ac (Or.inl rfl) hK (hts _ wa_int)
  obtain ⟨cZ, h2⟩ := law_ac (Or.inr rfl) hK (hts _ wa_boolean)
  obtain ⟨cU, h3⟩ := law_ao hK (hAO RX4 (by decide))
  obtain ⟨cT, h4⟩ := law_ao hK (hAO RX3 (by decide))
  obtain ⟨cS, h5⟩ := law_ao hK (hAO RX2 (by decide))
  exact ⟨D, cI, cZ, cU, cT, cS, h1.app (h2.app (h3.app (h4.app h5)))⟩
