/-! the invariant behind a text that is read *reference* -/
theorem kpR.mono {τ τ' : St} {c c' : Nat} (h : kpR τ c) (hc : c ≤ c') (h0 : ∀ k, k ≠ 3 → τ'.1 0 k = τ.1 0 k) (h10 : τ'.1 10 = τ.1 10) (h11 : τ'.1 11 = τ.1 11) : kpR τ' c' := by
  unfold kpR at h ⊢
  rw [h0 35 (by decide), h0 36 (by decide), h0 37 (by decide), h10, h11]
  rcases h with h | ⟨a, ⟨q, hq, e⟩, b⟩
  · exact Or.inl h
  · exact Or.inr ⟨a, ⟨q, by omega, e⟩, b⟩
theorem INV_txt {τ : St} {T : Nat → TC} {C : TC} {m c r p : Nat} (h : INV τ T m c r p) (hc6 : c < 6) (hC : txR (bT τ p) = .inr C) : INV (upS (gTx0 τ c p) 0 3 (nI (c + 1))) (fun v => if v = c then C else T v) m (c + 1) r 0 := by
  have hp := h.1.2.2.2
  have hb := h.2.1.2.2
  have h' := INV_tx0 h hc6
  obtain ⟨⟨a, b, c', d⟩, ⟨e1, e2, e3⟩, ⟨f1, f2, f3⟩, g, q⟩ := h'
  have ho : ∀ o, o ≠ 0 → (upS (gTx0 τ c p) 0 3 (nI (c + 1))).1 o = (gTx0 τ c p).1 o := fun o h0 => upS_3 h0
  have hk : ∀ k, k ≠ 3 → (upS (gTx0 τ c p) 0 3 (nI (c + 1))).1 0 k = (gTx0 τ c p).1 0 k := fun k h0 => upS_2 h0
  refine ⟨⟨?_, ⟨by omega, by omega, upS_1⟩, ⟨by omega, ?_⟩, ?_⟩, ⟨?_, fun w hw => ?_, ?_⟩, ⟨?_, ?_, ?_⟩, g.mono (by omega) hk (ho _ (by decide)) (ho _ (by decide)), q.eq (ho _ (by decide)) (ho _ (by decide)) (ho _ (by decide))⟩
  · rw [hk _ (by decide)]; exact a
  · rw [hk _ (by decide)]; exact c'.2
  · rw [hk _ (by decide)]; exact d
  · rw [hk _ (by decide)]; exact e1
  · by_cases e : w = c
    · subst e
      refine ⟨p, TXM.eq (τ := gTx0 τ w p) ⟨hc6, ?_, hp.1, fun i hi => ?_, ?_⟩ (ho _ (by decide)) (ho _ (by decide))⟩
      · unfold gTx0
        rw [upS_3 (by decide), upS_1]
      · unfold gTx0
        rw [upS_3 (by decide), upS_3 (by decide), cpT_1, if_pos (by omega), show 160 * w + i - 160 * w = i by omega]
        have := hb i hi
        exact ⟨this.1, by omega⟩
      · rw [gTx0_tx, hC]
        exact congrArg Sum.inr (if_pos rfl).symm
    · obtain ⟨n, hn⟩ := e2 w (by omega)
      rw [show (fun v => if v = c then C else T v) w = T w from if_neg e]
      exact ⟨n, hn.eq (ho _ (by decide)) (ho _ (by decide))⟩
  · rw [ho _ (by decide)]; exact e3
  · rw [ho _ (by decide)]; exact f1
  · rw [ho _ (by decide)]; exact f2
  · rw [ho _ (by decide)]; exact f3

