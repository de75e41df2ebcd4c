/-! the invariant is kept by sheets, films, images, texts *reference* -/
theorem INV.shs {τ τ' : St} {T : Nat → TC} {m c r p : Nat} (h : INV τ T m c r p) (ho : ∀ o, o < 12 → τ'.1 o = τ.1 o) (hS : shS τ') : INV τ' T m c r p := by
  obtain ⟨A, ⟨e1, e2, e3⟩, ⟨f1, f2, f3⟩, g, q⟩ := id h
  exact h.rows (ho 0 (by decide)) (ho 1 (by decide)) (ho 2 (by decide)) (by rw [ho 3 (by decide)]; exact e3) (by rw [ho 4 (by decide)]; exact f1) (by rw [ho 5 (by decide)]; exact f2) (by rw [ho 6 (by decide)]; exact f3) (ho 10 (by decide)) (ho 11 (by decide)) hS
theorem shS_sheet {τ : St} {x y z : Int32} (h : shS τ) : shS (gSheet τ x y z) := by
  unfold gSheet
  split
  · rename_i hp
    obtain ⟨hx, ⟨hy1, hy2⟩, hz⟩ := hp
    split
    · exact h
    · rename_i hn
      obtain ⟨s, hs, rfl⟩ := i_nat (n := 4) hx.1 (by have := hx.2; omega)
      rw [i_cl (by omega)]
      have key : ∀ a : Int32, (a = 0 ∨ (a = 1 ∧ ¬ y < 0)) → shS (gShe0 τ s a y z) := by
        intro a ha s' hs' h0
        by_cases e : s' = s
        · subst e
          have h12 : (gShe0 τ s' a y z).1 12 s' = a := by
            unfold gShe0
            rw [upS_3 (by decide), upS_3 (by decide), upS_1]
          have h13 : (gShe0 τ s' a y z).1 13 s' = y := by
            unfold gShe0
            rw [upS_3 (by decide), upS_1]
          have h14 : (gShe0 τ s' a y z).1 14 s' = z := by
            unfold gShe0
            rw [upS_1]
          rw [h12] at h0
          rw [h13, h14]
          rcases ha with e | ⟨_, hy⟩
          · exact absurd e h0
          · have hz40 : z ≤ 40 := hz.elim (fun q => absurd q hy) id
            have hz0 : ¬ z < 0 := fun q => hn ⟨hy, q⟩
            rw [i_lt, i0] at hz0 hy
            have := i_le.mp hz40
            rw [show (40 : Int32).toInt = 40 from rfl] at this
            obtain ⟨n, hn', e⟩ := i_nat (x := z) (n := 41) (by omega) (by omega)
            exact ⟨⟨n, by omega, e⟩, by omega, hy2⟩
        · have q : ∀ o, (gShe0 τ s a y z).1 o s' = τ.1 o s' := fun o => by
            unfold gShe0
            have : ∀ {σ : St} {o' : Nat} {v : Int32}, (upS σ o' s v).1 o s' = σ.1 o s' := fun {σ o' v} => by
              by_cases e2 : o = o'
              · subst e2; exact upS_2 e
              · rw [upS_3 e2]
            rw [this, this, this]
          rw [q] at h0
          rw [q, q]
          exact h s' hs' h0
      split
      · exact key 0 (Or.inl rfl)
      · rename_i hy
        exact (key 1 (Or.inr ⟨rfl, hy⟩)).eq (zrT_o (by decide) _) (zrT_o (by decide) _) (zrT_o (by decide) _)
  · exact h
theorem INV_sheet {τ : St} {T : Nat → TC} {m c r p : Nat} {x y z : Int32} (h : INV τ T m c r p) : INV (gSheet τ x y z) T m c r p := h.shs (fun o ho => gSheet_o ho) (shS_sheet h.2.2.2.2)
theorem INV_cell {τ : St} {T : Nat → TC} {m c r p : Nat} {x y v : Int32} (h : INV τ T m c r p) : INV (gCell τ x y v) T m c r p := by
  have ho : ∀ o, o ≠ 15 → (gCell τ x y v).1 o = τ.1 o := fun o ho => by
    unfold gCell
    (repeat' split) <;> first | rfl | rw [upS_3 ho]
  exact h.shs (fun o q => ho o (by omega)) (h.2.2.2.2.eq (ho _ (by decide)) (ho _ (by decide)) (ho _ (by decide)))
theorem INV_copy {τ : St} {T : Nat → TC} {m c r p : Nat} {x i y j n : Int32} (h : INV τ T m c r p) : INV (gCopy τ x i y j n) T m c r p := by
  have ho : ∀ o, o ≠ 15 → (gCopy τ x i y j n).1 o = τ.1 o := fun o ho => by
    unfold gCopy
    (repeat' split) <;> first | rfl | rw [upA_3 ho]
  exact h.shs (fun o q => ho o (by omega)) (h.2.2.2.2.eq (ho _ (by decide)) (ho _ (by decide)) (ho _ (by decide)))
theorem INV_film {τ : St} {T : Nat → TC} {V : VW} {m' m c r p : Nat} {x u n : Int32} (h : INV τ T m c r p) : INV (gFilm τ V m' x u n) T m c r p := by
  unfold gFilm
  split
  · exact (INV_sheet h).shs (fun o ho => flT_o (by omega) _) ((INV_sheet h).2.2.2.2.eq (flT_o (by decide) _) (flT_o (by decide) _) (flT_o (by decide) _))
  · exact h
theorem INV_users {s z : Nat} {a : Int32} {T : Nat → TC} {c r p : Nat} : ∀ (k i : Nat) (τ : St) (m : Nat) (v : Int32), INV τ T m c r p → ∃ m', INV (usF s z a k i τ m v).2 T m' c r p
  | 0, _, _, m, _, h => ⟨m, h⟩
  | k + 1, i, τ, m, v, h => by
    unfold usF
    split
    · exact INV_users k (i + 1) _ _ _ (INV_user h)
    · exact ⟨m, h⟩
theorem cpG_row {τ : St} {a b n : Nat} {B : Int} {k : Nat} (h1 : dgR (τ.1 a) n B) (hk : n ≤ k) : dgR ((cpG τ a b k).1 b) n B := fun t ht => by
  rw [cpG_1, if_pos (by omega)]
  exact h1 t ht
theorem cpG_rw {τ : St} {a b : Nat} (h1 : rwR (τ.1 a)) : rwR ((cpG τ a b 12).1 b) := fun u hu => by
  rw [cpG_1, cpG_1, if_pos (by omega), if_pos (by omega)]
  exact h1 u hu
theorem INV_image {τ : St} {T : Nat → TC} {m c r p : Nat} (h : INV τ T m c r p) : INV (gImage τ) T m c r p := by
  obtain ⟨⟨a, b, c', d⟩, ⟨e1, e2, e3⟩, ⟨f1, f2, f3⟩, g, q⟩ := h
  have ho : ∀ o, o ≠ 0 → o ≠ 10 → o ≠ 11 → (gImage τ).1 o = τ.1 o := fun o h0 h1 h2 => by
    unfold gImage
    rw [upS_3 h0, upS_3 h0, upS_3 h0, cpG_o h2, cpG_o h1]
  have hp : ∀ k, k ≠ 35 → k ≠ 36 → k ≠ 37 → (gImage τ).1 0 k = τ.1 0 k := fun k h0 h1 h2 => by
    unfold gImage
    rw [upS_2 h2, upS_2 h1, upS_2 h0, cpG_o (by decide), cpG_o (by decide)]
  refine ⟨⟨?_, ?_, ?_, ?_⟩, ⟨?_, fun w hw => ?_, ?_⟩, ⟨?_, ?_, ?_⟩, Or.inr ⟨⟨m, a.1, ?_⟩, ⟨r, c'.1, ?_⟩, ?_, ?_, ?_⟩, ?_⟩
  · rw [hp _ (by decide) (by decide) (by decide)]; exact a
  · rw [hp _ (by decide) (by decide) (by decide)]; exact b
  · rw [hp _ (by decide) (by decide) (by decide)]; exact c'
  · rw [hp _ (by decide) (by decide) (by decide)]; exact d
  · rw [hp _ (by decide) (by decide) (by decide)]; exact e1
  · obtain ⟨n, hn⟩ := e2 w hw
    exact ⟨n, hn.eq (ho 1 (by decide) (by decide) (by decide)) (ho 2 (by decide) (by decide) (by decide))⟩
  · rw [ho 3 (by decide) (by decide) (by decide)]; exact e3
  · rw [ho 4 (by decide) (by decide) (by decide)]; exact f1
  · rw [ho 5 (by decide) (by decide) (by decide)]; exact f2
  · rw [ho 6 (by decide) (by decide) (by decide)]; exact f3
  · unfold gImage
    rw [upS_2 (by decide), upS_2 (by decide), upS_1]; exact a.2
  · unfold gImage
    rw [upS_1]; exact c'.2
  · unfold gImage
    rw [upS_2 (by decide), upS_1]; exact e1
  · unfold gImage
    rw [upS_3 (by decide), upS_3 (by decide), upS_3 (by decide), cpG_o (by decide)]
    exact cpG_row f1 (Nat.le_refl _)
  · unfold gImage
    rw [upS_3 (by decide), upS_3 (by decide), upS_3 (by decide)]
    refine cpG_rw ?_
    rw [cpG_o (by decide)]
    exact f3
  · exact q.eq (ho _ (by decide) (by decide) (by decide)) (ho _ (by decide) (by decide) (by decide)) (ho _ (by decide) (by decide) (by decide))
theorem INV_back {τ : St} {T : Nat → TC} {m c r p : Nat} (h : INV τ T m c r p) : ∃ m' r', INV (gBack τ) T m' c r' p := by
  unfold gBack
  split
  · exact ⟨m, r, h⟩
  · rename_i hne
    obtain ⟨⟨a, b, c', d⟩, ⟨e1, e2, e3⟩, ⟨f1, f2, f3⟩, g, q⟩ := id h
    rcases g with g | ⟨⟨mk, hmk, g1⟩, ⟨rk, hrk, g2⟩, g3, g4, g5⟩
    · exact absurd g hne
    · have h1 : INV (cpG (cpG τ 10 4 30) 11 6 12) T m c r p := by
        have ho : ∀ o, o ≠ 4 → o ≠ 6 → (cpG (cpG τ 10 4 30) 11 6 12).1 o = τ.1 o := fun o h0 h1 => by rw [cpG_o h1, cpG_o h0]
        refine h.rows (ho _ (by decide) (by decide)) (ho _ (by decide) (by decide)) (ho _ (by decide) (by decide)) (by rw [ho _ (by decide) (by decide)]; exact e3) ?_ (by rw [ho _ (by decide) (by decide)]; exact f2) ?_ (ho _ (by decide) (by decide)) (ho _ (by decide) (by decide)) (q.eq (ho _ (by decide) (by decide)) (ho _ (by decide) (by decide)) (ho _ (by decide) (by decide)))
        · rw [cpG_o (by decide)]
          exact cpG_row g4 (Nat.le_refl _)
        · refine cpG_rw ?_
          rw [cpG_o (by decide)]
          exact g5
      exact ⟨mk, rk, ((h1.p0 (k := 11) mk r p (by omega) rfl rfl (fun e => by omega) ⟨hmk, g1⟩).p0 (k := 7) mk r p (by omega) rfl rfl (fun _ => g3) rfl).p0 (k := 4) mk rk p (by omega) ⟨hrk, g2⟩ rfl (fun e => by omega) rfl⟩
theorem INV_settle {τ : St} {T : Nat → TC} {V : VW} {m c r p : Nat} (h : INV τ T m c r p) : INV (upS τ 0 7 (bsS V)) T m c r p := by
  refine h.p0 (k := 7) m r p (by omega) rfl rfl (fun _ => ?_) rfl
  have := (pth_bd V 29).2.2.2
  rw [show (2 : Nat) ^ (29 + 1) = 1073741824 from rfl] at this
  unfold bsS
  unfold shR
  rw [i_n (by omega)]
  omega
theorem TXM.eq2 {τ τ' : St} {k n : Nat} {C : TC} (h : TXM τ k n C) (e1 : ∀ i, i < 160 → τ'.1 1 (160 * k + i) = τ.1 1 (160 * k + i)) (e2 : τ'.1 2 k = τ.1 2 k) : TXM τ' k n C := by
  obtain ⟨h1, h2, h3, h4, h5⟩ := h
  have eg : gM τ' k n = gM τ k n := by
    funext i
    unfold gM
    split
    · exact e1 i (by omega)
    · rfl
  refine ⟨h1, by rw [e2]; exact h2, h3, fun i hi => by rw [e1 i (by omega)]; exact h4 i hi, ?_⟩
  have eT : tT τ' k n = tT τ k n := by
    funext a
    show tokS _ (lxS _ a) = tokS _ (lxS _ a)
    rw [eg]
  have eW : tV τ' k n = tV τ k n := by
    funext a
    show tokV _ (lxS _ a) = tokV _ (lxS _ a)
    rw [eg]
  rw [eT, eW]
  exact h5
theorem INV_tx0 {τ : St} {T : Nat → TC} {m c r p : Nat} (h : INV τ T m c r p) (hc6 : c < 6) : INV (gTx0 τ c p) T m c r 0 := by
  obtain ⟨⟨a, b, c', d⟩, ⟨e1, e2, e3⟩, ⟨f1, f2, f3⟩, g, q⟩ := h
  have ho : ∀ o, o ≠ 0 → o ≠ 1 → o ≠ 2 → (gTx0 τ c p).1 o = τ.1 o := fun o h0 h1 h2 => by
    unfold gTx0
    rw [upS_3 h0, upS_3 h2, cpT_o h1]
  have hp : ∀ k, k ≠ 6 → (gTx0 τ c p).1 0 k = τ.1 0 k := fun k h0 => by
    unfold gTx0
    rw [upS_2 h0, upS_3 (by decide), cpT_o (by decide)]
  refine ⟨⟨?_, ?_, ?_, by omega, ?_⟩, ⟨?_, fun w hw => ?_, fun t ht => by omega⟩, ⟨?_, ?_, ?_⟩, ?_, ?_⟩
  · rw [hp _ (by decide)]; exact a
  · rw [hp _ (by decide)]; exact b
  · rw [hp _ (by decide)]; exact c'
  · unfold gTx0
    rw [upS_1]; rfl
  · rw [hp _ (by decide)]; exact e1
  · obtain ⟨n, hn⟩ := e2 w hw
    refine ⟨n, hn.eq2 (fun i hi => ?_) ?_⟩
    · unfold gTx0
      rw [upS_3 (by decide), upS_3 (by decide), cpT_1, if_neg (by omega)]
    · unfold gTx0
      rw [upS_3 (by decide), upS_2 (by omega), cpT_o (by decide)]
  · rw [ho 4 (by decide) (by decide) (by decide)]; exact f1
  · rw [ho 5 (by decide) (by decide) (by decide)]; exact f2
  · rw [ho 6 (by decide) (by decide) (by decide)]; exact f3
  · unfold kpR at g ⊢
    rw [hp _ (by decide), hp _ (by decide), hp _ (by decide), ho 10 (by decide) (by decide) (by decide), ho 11 (by decide) (by decide) (by decide)]
    exact g
  · exact q.eq (ho _ (by decide) (by decide) (by decide)) (ho _ (by decide) (by decide) (by decide)) (ho _ (by decide) (by decide) (by decide))

