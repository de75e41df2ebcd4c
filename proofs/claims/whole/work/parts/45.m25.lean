/-! what holds of the reference's numbers always *invariant* -/
def dgR (f : Nat → Int32) (n : Nat) (b : Int) : Prop := ∀ t, t < n → 0 ≤ (f t).toInt ∧ (f t).toInt ≤ b
def rwR (f : Nat → Int32) : Prop := ∀ u, u < 6 → (0 ≤ (f (2 * u)).toInt ∧ (f (2 * u)).toInt ≤ 9) ∧ 0 ≤ (f (2 * u + 1)).toInt ∧ (f (2 * u + 1)).toInt ≤ 1
abbrev shR (x : Int32) : Prop := 0 ≤ x.toInt ∧ x.toInt ≤ 1073741823
def kpR (τ : St) (c : Nat) : Prop := τ.1 0 35 = -1 ∨ ((∃ q, q ≤ 6 ∧ τ.1 0 35 = nI q) ∧ (∃ q, q < c ∧ τ.1 0 37 = nI q) ∧ shR (τ.1 0 36) ∧ dgR (τ.1 10) 30 9 ∧ rwR (τ.1 11))
def shS (τ : St) : Prop := ∀ s, s < 4 → ¬ τ.1 12 s = 0 → (∃ n, n ≤ 40 ∧ τ.1 14 s = nI n) ∧ 0 ≤ (τ.1 13 s).toInt ∧ (τ.1 13 s).toInt ≤ 2
def INV (τ : St) (T : Nat → TC) (m c r p : Nat) : Prop :=
  ((m ≤ 6 ∧ τ.1 0 11 = nI m) ∧ (1 ≤ c ∧ c ≤ 6 ∧ τ.1 0 3 = nI c) ∧ (r < c ∧ τ.1 0 4 = nI r) ∧ (p ≤ 160 ∧ τ.1 0 6 = nI p)) ∧
  (shR (τ.1 0 7) ∧ (∀ v, v < c → ∃ n, TXM τ v n (T v)) ∧ dgR (τ.1 3) p 255) ∧
  (dgR (τ.1 4) 30 9 ∧ dgR (τ.1 5) 6 5 ∧ rwR (τ.1 6)) ∧ kpR τ c ∧ shS τ
theorem INV.rul {τ : St} {T : Nat → TC} {m c r p : Nat} (h : INV τ T m c r p) : RUL τ (T r) := by
  obtain ⟨⟨_, _, ⟨h1, h2⟩, _⟩, ⟨_, h3, _⟩, _⟩ := h
  obtain ⟨n, hn⟩ := h3 r h1
  exact ⟨r, n, h2, hn⟩
theorem INV.sho {τ : St} {T : Nat → TC} {m c r p : Nat} (h : INV τ T m c r p) : SHO τ := fun s hs h0 => (h.2.2.2.2 s hs h0).1
theorem INV.vok {τ : St} {T : Nat → TC} {m c r p : Nat} (h : INV τ T m c r p) : VOK (vM τ (T r)) m := ⟨fun u hu => (h.2.2.1.2.2 u (by have := h.1.1.1; omega)).1, fun t ht => h.2.2.1.1 t ht⟩
theorem kpR.sg {a b : St} {c : Nat} (h : kpR a c) (hp : sg a b) : kpR b c := by
  unfold kpR at h ⊢
  rw [hp.2.1 35 (by decide), hp.2.1 36 (by decide), hp.2.1 37 (by decide), hp.1 10 (by decide) (by decide), hp.1 11 (by decide) (by decide)]
  exact h
theorem shS.sg {a b : St} (h : shS a) (hp : sg a b) : shS b := by
  unfold shS at h ⊢
  rw [hp.1 12 (by decide) (by decide), hp.1 13 (by decide) (by decide), hp.1 14 (by decide) (by decide)]
  exact h
theorem INV.sg {a b : St} {T : Nat → TC} {m c r p : Nat} (h : INV a T m c r p) (hp : sg a b) : INV b T m c r p := by
  obtain ⟨⟨⟨a1, a2⟩, ⟨b1, b2, b3⟩, ⟨c1, c2⟩, d1, d2⟩, ⟨e1, e2, e3⟩, ⟨f1, f2, f3⟩, g, k⟩ := h
  refine ⟨⟨⟨a1, (hp.2.1 11 (by decide)).trans a2⟩, ⟨b1, b2, (hp.2.1 3 (by decide)).trans b3⟩, ⟨c1, (hp.2.1 4 (by decide)).trans c2⟩, d1, (hp.2.1 6 (by decide)).trans d2⟩, ⟨?_, fun v hv => ?_, ?_⟩, ⟨?_, ?_, ?_⟩, g.sg hp, k.sg hp⟩
  · rw [hp.2.1 7 (by decide)]; exact e1
  · obtain ⟨n, hn⟩ := e2 v hv
    exact ⟨n, hn.eq (hp.1 1 (by decide) (by decide)) (hp.1 2 (by decide) (by decide))⟩
  · rw [hp.1 3 (by decide) (by decide)]; exact e3
  · rw [hp.1 4 (by decide) (by decide)]; exact f1
  · rw [hp.1 5 (by decide) (by decide)]; exact f2
  · rw [hp.1 6 (by decide) (by decide)]; exact f3
/-- one place anew -/
theorem dgR.up {f : Nat → Int32} {n k : Nat} {b : Int} {v : Int32} (h : dgR f n b) (hv : 0 ≤ v.toInt ∧ v.toInt ≤ b) : dgR (va_up f k v) n b := fun t ht => by
  unfold va_up
  split
  · exact hv
  · exact h t ht
theorem rwR.up0 {f : Nat → Int32} {u : Nat} {v : Int32} (h : rwR f) (hv : 0 ≤ v.toInt ∧ v.toInt ≤ 9) : rwR (va_up f (2 * u) v) := fun t ht => by
  have := h t ht
  unfold va_up
  rw [if_neg (show ¬ 2 * t + 1 = 2 * u by omega)]
  refine ⟨?_, this.2⟩
  split
  · exact hv
  · exact this.1
theorem rwR.up1 {f : Nat → Int32} {u : Nat} {v : Int32} (h : rwR f) (hv : 0 ≤ v.toInt ∧ v.toInt ≤ 1) : rwR (va_up f (2 * u + 1) v) := fun t ht => by
  have := h t ht
  unfold va_up
  rw [if_neg (show ¬ 2 * t = 2 * u + 1 by omega)]
  refine ⟨this.1, ?_⟩
  split
  · exact hv
  · exact this.2
theorem upS_row {τ : St} {o k : Nat} {v : Int32} : (upS τ o k v).1 o = va_up (τ.1 o) k v := by simp [upS, va_up]
theorem INV.p0 {τ : St} {T : Nat → TC} {m c r p : Nat} (h : INV τ T m c r p) {k : Nat} {v : Int32} (m' r' p' : Nat) (hk : k = 4 ∨ k = 6 ∨ k = 7 ∨ k = 11) (h4 : (if k = 4 then r' < c ∧ v = nI r' else r' = r)) (h6 : (if k = 6 then p' ≤ p ∧ v = nI p' else p' = p)) (h7 : k = 7 → shR v) (h11 : (if k = 11 then m' ≤ 6 ∧ v = nI m' else m' = m)) : INV (upS τ 0 k v) T m' c r' p' := by
  obtain ⟨⟨⟨a1, a2⟩, ⟨b1, b2, b3⟩, ⟨c1, c2⟩, d1, d2⟩, ⟨e1, e2, e3⟩, ⟨f1, f2, f3⟩, g, q⟩ := h
  have ho : ∀ o, o ≠ 0 → (upS τ 0 k v).1 o = τ.1 o := fun o h => upS_3 h
  have hp : ∀ j, j ≠ k → (upS τ 0 k v).1 0 j = τ.1 0 j := fun j h => upS_2 h
  have p1 : p' ≤ p := by split at h6 <;> omega
  refine ⟨⟨?_, ⟨b1, b2, (hp 3 (by omega)).trans b3⟩, ?_, ?_⟩, ⟨?_, fun w hw => ?_, ?_⟩, ⟨?_, ?_, ?_⟩, ?_, ?_⟩
  · by_cases e : k = 11
    · rw [if_pos e] at h11; subst e; exact ⟨h11.1, upS_1.trans h11.2⟩
    · rw [if_neg e] at h11; subst h11; exact ⟨a1, (hp 11 (Ne.symm e)).trans a2⟩
  · by_cases e : k = 4
    · rw [if_pos e] at h4; subst e; exact ⟨h4.1, upS_1.trans h4.2⟩
    · rw [if_neg e] at h4; subst h4; exact ⟨c1, (hp 4 (Ne.symm e)).trans c2⟩
  · by_cases e : k = 6
    · rw [if_pos e] at h6; subst e; exact ⟨by omega, upS_1.trans h6.2⟩
    · rw [if_neg e] at h6; subst h6; exact ⟨d1, (hp 6 (Ne.symm e)).trans d2⟩
  · by_cases e : k = 7
    · subst e; rw [upS_1]; exact h7 rfl
    · rw [hp 7 (Ne.symm e)]; exact e1
  · obtain ⟨n, hn⟩ := e2 w hw
    exact ⟨n, hn.eq (ho 1 (by decide)) (ho 2 (by decide))⟩
  · rw [ho 3 (by decide)]; exact fun t ht => e3 t (by omega)
  · rw [ho 4 (by decide)]; exact f1
  · rw [ho 5 (by decide)]; exact f2
  · rw [ho 6 (by decide)]; exact f3
  · unfold kpR at g ⊢
    rw [hp 35 (by omega), hp 36 (by omega), hp 37 (by omega), ho 10 (by decide), ho 11 (by decide)]
    exact g
  · unfold shS at q ⊢
    rw [ho 12 (by decide), ho 13 (by decide), ho 14 (by decide)]
    exact q

