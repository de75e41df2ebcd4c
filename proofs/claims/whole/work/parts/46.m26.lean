/-! the invariant is kept *reference* -/
theorem INV.rows {τ τ' : St} {T : Nat → TC} {m c r p : Nat} (h : INV τ T m c r p) (h0 : τ'.1 0 = τ.1 0) (h1 : τ'.1 1 = τ.1 1) (h2 : τ'.1 2 = τ.1 2) (h3 : dgR (τ'.1 3) p 255) (h4 : dgR (τ'.1 4) 30 9) (h5 : dgR (τ'.1 5) 6 5) (h6 : rwR (τ'.1 6)) (h10 : τ'.1 10 = τ.1 10) (h11 : τ'.1 11 = τ.1 11) (hS : shS τ') : INV τ' T m c r p := by
  obtain ⟨⟨a, b, c', d⟩, ⟨e1, e2, e3⟩, ⟨f1, f2, f3⟩, g, q⟩ := h
  refine ⟨⟨?_, ?_, ?_, ?_⟩, ⟨?_, fun w hw => ?_, h3⟩, ⟨h4, h5, h6⟩, ?_, hS⟩
  · rw [h0]; exact a
  · rw [h0]; exact b
  · rw [h0]; exact c'
  · rw [h0]; exact d
  · rw [h0]; exact e1
  · obtain ⟨n, hn⟩ := e2 w hw
    exact ⟨n, hn.eq h1 h2⟩
  · unfold kpR at g ⊢
    rw [h0, h10, h11]
    exact g
theorem shS.eq {a b : St} (h : shS a) (h12 : b.1 12 = a.1 12) (h13 : b.1 13 = a.1 13) (h14 : b.1 14 = a.1 14) : shS b := by
  unfold shS at h ⊢
  rw [h12, h13, h14]
  exact h
theorem INV_set {τ : St} {T : Nat → TC} {m c r p : Nat} {x y v : Int32} (h : INV τ T m c r p) : INV (gSet τ m x y v) T m c r p := by
  unfold gSet
  split
  · rename_i hp
    obtain ⟨⟨hx0, hx3⟩, hof, hv0, hv⟩ := hp
    obtain ⟨w, hw, rfl⟩ := i_nat (n := 4) hx0 (by omega)
    rw [i_cl (by omega)]
    obtain ⟨A, ⟨e1, e2, e3⟩, ⟨f1, f2, f3⟩, g, q⟩ := id h
    unfold laysT
    split
    · rename_i e
      subst e
      rw [if_pos (show nI 0 = 0 from rfl)] at hv
      exact h.p0 m r p (k := 7) (by omega) rfl rfl (fun _ => ⟨hv0, hv⟩) rfl
    · rename_i e0
      rw [if_neg (by rw [i_eq, i0, i_n (by omega)]; omega)] at hv
      split
      · rename_i e
        subst e
        rw [if_neg (by decide)] at hv
        refine h.rows (by rw [upS_3 (by decide)]) (by rw [upS_3 (by decide)]) (by rw [upS_3 (by decide)]) (by rw [upS_3 (by decide)]; exact e3) (by rw [upS_row]; exact f1.up ⟨hv0, hv⟩) (by rw [upS_3 (by decide)]; exact f2) (by rw [upS_3 (by decide)]; exact f3) (by rw [upS_3 (by decide)]) (by rw [upS_3 (by decide)]) (q.eq (by rw [upS_3 (by decide)]) (by rw [upS_3 (by decide)]) (by rw [upS_3 (by decide)]))
      · rename_i e1'
        refine h.rows (by rw [upS_3 (by decide)]) (by rw [upS_3 (by decide)]) (by rw [upS_3 (by decide)]) (by rw [upS_3 (by decide)]; exact e3) (by rw [upS_3 (by decide)]; exact f1) (by rw [upS_3 (by decide)]; exact f2) ?_ (by rw [upS_3 (by decide)]) (by rw [upS_3 (by decide)]) (q.eq (by rw [upS_3 (by decide)]) (by rw [upS_3 (by decide)]) (by rw [upS_3 (by decide)]))
        rw [upS_row]
        by_cases e2' : w = 2
        · subst e2'
          rw [if_neg (by decide)] at hv
          exact f3.up0 ⟨hv0, hv⟩
        · have e3' : w = 3 := by omega
          subst e3'
          rw [if_pos (show nI 3 = 3 from rfl)] at hv
          rw [show 2 * y.toNatClampNeg + 3 - 2 = 2 * y.toNatClampNeg + 1 by omega]
          exact f3.up1 ⟨hv0, hv⟩
  · exact h
theorem INV_user {τ : St} {T : Nat → TC} {m c r p : Nat} {x y z : Int32} (h : INV τ T m c r p) : INV (gUser τ m x y z) T (mU m x y z) c r p := by
  unfold gUser mU
  split
  · rename_i hp
    obtain ⟨hx, hy, hz⟩ := hp
    split
    · exact h
    · rename_i h6
      obtain ⟨A, ⟨e1, e2, e3⟩, ⟨f1, f2, f3⟩, g, q⟩ := id h
      have hm := A.1.1
      refine INV.p0 (m := m) (r := r) (p := p) ?_ (m + 1) r p (by omega) rfl rfl (fun e => by omega) ⟨by omega, rfl⟩
      refine h.rows (by rw [upS_3 (by decide), upS_3 (by decide), upS_3 (by decide)]) (by rw [upS_3 (by decide), upS_3 (by decide), upS_3 (by decide)]) (by rw [upS_3 (by decide), upS_3 (by decide), upS_3 (by decide)]) (by rw [upS_3 (by decide), upS_3 (by decide), upS_3 (by decide)]; exact e3) (by rw [upS_3 (by decide), upS_3 (by decide), upS_3 (by decide)]; exact f1) (by rw [upS_3 (by decide), upS_3 (by decide), upS_row]; exact f2.up hx) ?_ (by rw [upS_3 (by decide), upS_3 (by decide), upS_3 (by decide)]) (by rw [upS_3 (by decide), upS_3 (by decide), upS_3 (by decide)]) (q.eq (by rw [upS_3 (by decide), upS_3 (by decide), upS_3 (by decide)]) (by rw [upS_3 (by decide), upS_3 (by decide), upS_3 (by decide)]) (by rw [upS_3 (by decide), upS_3 (by decide), upS_3 (by decide)]))
      rw [upS_row, upS_row, upS_3 (by decide)]
      exact (f3.up0 hy).up1 hz
  · exact h
def pF (p : Nat) (x : Int32) : Nat := if 0 ≤ x.toInt ∧ x.toInt ≤ 255 then (if p = 160 then p else p + 1) else p
theorem INV_feed {τ : St} {T : Nat → TC} {m c r p : Nat} {x : Int32} (h : INV τ T m c r p) : INV (gFeed τ p x) T m c r (pF p x) := by
  unfold gFeed pF
  split
  · rename_i hx
    split
    · exact h
    · rename_i h6
      obtain ⟨⟨a, b, c', d⟩, ⟨e1, e2, e3⟩, ⟨f1, f2, f3⟩, g, q⟩ := h
      have o0 : ∀ j, j ≠ 6 → (upS (upS τ 3 p x) 0 6 (nI (p + 1))).1 0 j = τ.1 0 j := fun j hj => by rw [upS_2 hj, upS_3 (by decide)]
      have ho : ∀ o, o ≠ 0 → o ≠ 3 → (upS (upS τ 3 p x) 0 6 (nI (p + 1))).1 o = τ.1 o := fun o h0 h3 => by rw [upS_3 h0, upS_3 h3]
      refine ⟨⟨?_, ?_, ?_, ?_, ?_⟩, ⟨?_, fun w hw => ?_, ?_⟩, ⟨?_, ?_, ?_⟩, ?_, ?_⟩
      · rw [o0 _ (by decide)]; exact a
      · rw [o0 _ (by decide)]; exact b
      · rw [o0 _ (by decide)]; exact c'
      · have := d.1; omega
      · rw [upS_1]
      · rw [o0 _ (by decide)]; exact e1
      · obtain ⟨n, hn⟩ := e2 w hw
        exact ⟨n, hn.eq (ho 1 (by decide) (by decide)) (ho 2 (by decide) (by decide))⟩
      · rw [upS_3 (by decide), upS_row]
        intro t ht
        unfold va_up
        split
        · exact hx
        · exact e3 t (by omega)
      · rw [ho 4 (by decide) (by decide)]; exact f1
      · rw [ho 5 (by decide) (by decide)]; exact f2
      · rw [ho 6 (by decide) (by decide)]; exact f3
      · unfold kpR at g ⊢
        rw [o0 _ (by decide), o0 _ (by decide), o0 _ (by decide), ho 10 (by decide) (by decide), ho 11 (by decide) (by decide)]
        exact g
      · exact q.eq (ho _ (by decide) (by decide)) (ho _ (by decide) (by decide)) (ho _ (by decide) (by decide))
  · exact h
def rF (c r : Nat) (x : Int32) : Nat := if 0 ≤ x.toInt ∧ x.toInt < c then x.toNatClampNeg else r
theorem INV_force {τ : St} {T : Nat → TC} {m c r p : Nat} {x : Int32} (h : INV τ T m c r p) : INV (gForce τ c x) T m c (rF c r x) p := by
  unfold gForce rF
  split
  · rename_i hx
    have hc := h.1.2.1.2.1
    obtain ⟨q, hq, rfl⟩ := i_nat hx.1 hx.2
    rw [i_cl (by omega)]
    exact h.p0 m q p (k := 4) (by omega) ⟨hq, rfl⟩ rfl (fun e => by omega) rfl
  · exact h

