/-! both worlds: a the reference's numbers, b the program's *REL* -/
def RUs (a b : St) : Prop := ∀ u, u < 6 → b.1 (u + 20) 0 = a.1 5 u ∧ b.1 (u + 20) 1 = a.1 6 (2 * u) ∧ b.1 (u + 20) 2 = a.1 6 (2 * u + 1)
def RSh (a b : St) : Prop := ∀ s, s < 4 → (a.1 12 s = 0 → b.1 (s + 44) 0 = -1) ∧ (¬ a.1 12 s = 0 → b.1 (s + 44) 0 = a.1 13 s ∧ b.1 (s + 44) 1 = a.1 14 s ∧ ∀ i, i < (a.1 14 s).toNatClampNeg → b.1 (s + 48) i = a.1 15 (40 * s + i))
def RIm (a b : St) : Prop := (a.1 0 35 = -1 → b.1 10 0 = 0) ∧ (¬ a.1 0 35 = -1 → ¬ b.1 10 0 = 0 ∧ b.1 10 2 = a.1 0 36 ∧ b.1 10 3 = a.1 0 37 ∧ b.1 10 4 = a.1 0 35 ∧ (∀ t, t < 30 → b.1 13 t = a.1 10 t) ∧ ∀ u, u < 6 → b.1 14 u = a.1 11 (2 * u) ∧ b.1 15 u = a.1 11 (2 * u + 1))
def REL (a b : St) (T : Nat → TC) (m c r p : Nat) : Prop :=
  (b.1 0 1 = a.1 0 7 ∧ b.1 0 3 = nI m ∧ b.1 0 7 = nI c ∧ b.1 0 8 = nI r) ∧ (b.1 11 1 = nI p ∧ ∀ i, i < p → b.1 16 i = a.1 3 i) ∧ (∀ t, t < 30 → b.1 1 t = a.1 4 t) ∧ RUs a b ∧ (∀ k, k < c → TXX b k (T k)) ∧ RSh a b ∧ RIm a b
theorem RSh.eqb {a b b' : St} (h : RSh a b) (h1 : ∀ s, s < 4 → b'.1 (s + 44) = b.1 (s + 44) ∧ b'.1 (s + 48) = b.1 (s + 48)) : RSh a b' := fun s hs => by
  obtain ⟨e1, e2⟩ := h1 s hs
  rw [e1, e2]
  exact h s hs
theorem RIm.eqb {a b b' : St} (h : RIm a b) (h0 : b'.1 10 = b.1 10) (h1 : b'.1 13 = b.1 13) (h2 : b'.1 14 = b.1 14) (h3 : b'.1 15 = b.1 15) : RIm a b' := by
  unfold RIm
  rw [h0, h1, h2, h3]
  exact h
theorem RUs.eqb {a b b' : St} (h : RUs a b) (h1 : ∀ u, u < 6 → b'.1 (u + 20) = b.1 (u + 20)) : RUs a b' := fun u hu => by
  rw [h1 u hu]
  exact h u hu
/-- rows of the program that no call shows -/
abbrev okD (cs : List Nat) : Prop := ∀ o, o ∈ cs → (2 ≤ o ∧ o ≤ 6) ∨ o = 12 ∨ (17 ≤ o ∧ o ≤ 19)
abbrev okK (ks : List Nat) : Prop := ∀ k, k ∈ ks → k ≠ 1 ∧ k ≠ 3 ∧ k ≠ 7 ∧ k ≠ 8
theorem okD.n {cs : List Nat} {o : Nat} (h : okD cs) (ho : ¬ ((2 ≤ o ∧ o ≤ 6) ∨ o = 12 ∨ (17 ≤ o ∧ o ≤ 19))) : o ∉ cs := fun q => ho (h o q)
theorem REL.x {a b b' : St} {T : Nat → TC} {m c r p : Nat} {cs ks : List Nat} (h : REL a b T m c r p) (hp : pkz cs ks b b') (hc : okD cs) (hk : okK ks) (hc6 : c ≤ 6) : REL a b' T m c r p := by
  obtain ⟨⟨h1, h2, h3, h4⟩, ⟨h5, h6⟩, h7, h8, h9, h10, h11⟩ := h
  have q : ∀ o, o ≠ 0 → ¬ ((2 ≤ o ∧ o ≤ 6) ∨ o = 12 ∨ (17 ≤ o ∧ o ≤ 19)) → b'.1 o = b.1 o := fun o ho hn => hp.1 o ho (hc.n hn)
  refine ⟨⟨(hp.2.1 1 (fun z => (hk 1 z).1 rfl)).trans h1, (hp.2.1 3 (fun z => (hk 3 z).2.1 rfl)).trans h2, (hp.2.1 7 (fun z => (hk 7 z).2.2.1 rfl)).trans h3, (hp.2.1 8 (fun z => (hk 8 z).2.2.2 rfl)).trans h4⟩, ⟨?_, ?_⟩, ?_, ?_, ?_, ?_, ?_⟩
  · rw [q 11 (by omega) (by omega)]; exact h5
  · rw [q 16 (by omega) (by omega)]; exact h6
  · rw [q 1 (by omega) (by omega)]; exact h7
  · exact h8.eqb (fun u hu => q _ (by omega) (by omega))
  · exact fun k hkc => (h9 k hkc).eq (q _ (by omega) (by omega)) (q _ (by omega) (by omega))
  · exact h10.eqb (fun s hs => ⟨q _ (by omega) (by omega), q _ (by omega) (by omega)⟩)
  · exact h11.eqb (q _ (by omega) (by omega)) (q _ (by omega) (by omega)) (q _ (by omega) (by omega)) (q _ (by omega) (by omega))
theorem REL.sg {a a' b : St} {T : Nat → TC} {m c r p : Nat} (h : REL a b T m c r p) (hp : sg a a') : REL a' b T m c r p := by
  obtain ⟨⟨h1, h2, h3, h4⟩, ⟨h5, h6⟩, h7, h8, h9, h10, h11⟩ := h
  refine ⟨⟨h1.trans (hp.2.1 7 (by decide)).symm, h2, h3, h4⟩, ⟨h5, ?_⟩, ?_, ?_, h9, ?_, ?_⟩
  · rw [hp.1 3 (by decide) (by decide)]; exact h6
  · rw [hp.1 4 (by decide) (by decide)]; exact h7
  · unfold RUs
    rw [hp.1 5 (by decide) (by decide), hp.1 6 (by decide) (by decide)]
    exact h8
  · unfold RSh
    rw [hp.1 12 (by decide) (by decide), hp.1 13 (by decide) (by decide), hp.1 14 (by decide) (by decide), hp.1 15 (by decide) (by decide)]
    exact h10
  · unfold RIm
    rw [hp.2.1 35 (by decide), hp.2.1 36 (by decide), hp.2.1 37 (by decide), hp.1 10 (by decide) (by decide), hp.1 11 (by decide) (by decide)]
    exact h11
theorem REL.xv {a b : St} {T : Nat → TC} {m c r p : Nat} (h : REL a b T m c r p) (hI : INV a T m c r p) : XV b 1 (vM a (T r)) m := by
  obtain ⟨⟨h1, h2, h3, h4⟩, ⟨h5, h6⟩, h7, h8, h9, h10, h11⟩ := h
  have hm := hI.1.1
  have hr := hI.1.2.2.1
  refine ⟨Or.inl rfl, ⟨r, h4, h9 r hr.1⟩, ⟨h2.trans hm.2.symm, fun t ht => h7 t ht⟩, hm, fun u hu => ⟨h8 u (by omega), ?_⟩⟩
  rw [(h8 u (by omega)).1]
  exact hI.2.2.1.2.1 u (by omega)
theorem okD23 : okD [2, 3] := by
  intro o h
  simp at h
  omega
theorem okD2356 : okD [2, 3, 5, 6] := by
  intro o h
  simp at h
  omega
theorem okK0 : okK [] := fun k h => by cases h
section ZZ
variable {Z : LZ} {ad : Nat → Nat} {a b : St} {T : Nat → TC} {m c r p : Nat}
theorem z_has {K : Int32 → St → Prop} {x y : Int32} (hI : INV a T m c r p) (hR : REL a b T m c r p) (hK : ∀ b', REL a b' T m c r p → K (fHas (vM a (T r)) m (a.1 0 7) x y) b') : CC lyX Z ad yX5_has wsX5_has (rmk 5) [.ref (ad 0), .int x, .int y] b (rI K) :=
  x_has (hR.xv hI) (fun b' q => by rw [hR.1.1]; exact hK b' (hR.x q okD23 okK0 hI.1.2.1.2.1))
theorem z_worth {K : Int32 → St → Prop} {x : Int32} (hI : INV a T m c r p) (hR : REL a b T m c r p) (hK : ∀ b', REL a b' T m c r p → K (fWorth (vM a (T r)) (a.1 0 7) x) b') : CC lyX Z ad yX5_worth wsX5_worth (rmk 5) [.ref (ad 0), .int x] b (rI K) :=
  x_worth (hR.xv hI) (fun b' q => by rw [hR.1.1]; exact hK b' (hR.x q okD23 okK0 hI.1.2.1.2.1))
theorem z_mean {K : Int64 → St → Prop} {x y : Int32} (hI : INV a T m c r p) (hR : REL a b T m c r p) (hK : ∀ b', REL a b' T m c r p → K (fMean (vM a (T r)) m (a.1 0 7) x y) b') : CC lyX Z ad yX5_mean wsX5_mean (rmk 5) [.ref (ad 0), .int x, .int y] b (rL K) :=
  x_mean (hR.xv hI) hI.vok (fun b' q => by rw [hR.1.1]; exact hK b' (hR.x q okD23 okK0 hI.1.2.1.2.1))
theorem z_heaviest {K : Int32 → St → Prop} {x : Int32} (hI : INV a T m c r p) (hR : REL a b T m c r p) (hK : ∀ b', REL a b' T m c r p → K (fHeavy (vM a (T r)) (a.1 0 7) x) b') : CC lyX Z ad yX5_heaviest wsX5_heaviest (rmk 5) [.ref (ad 0), .int x] b (rI K) :=
  x_heaviest (hR.xv hI) (fun b' q => by rw [hR.1.1]; exact hK b' (hR.x q okD23 okK0 hI.1.2.1.2.1))
theorem z_cut {K : Int32 → St → Prop} {x : Int32} (hI : INV a T m c r p) (hR : REL a b T m c r p) (hK : ∀ b', REL a b' T m c r p → K (fCut (vM a (T r)) x) b') : CC lyX Z ad yX5_cut wsX5_cut (rmk 6) [.ref (ad 0), .int x] b (rI K) :=
  x_cut (hR.xv hI) (fun b' q => hK b' (hR.x q okD23 okK0 hI.1.2.1.2.1))
theorem z_change {K : Int32 → St → Prop} {x : Int32} (hI : INV a T m c r p) (hR : REL a b T m c r p) (hK : ∀ b', REL a b' T m c r p → K (fChange (vM a (T r)) (a.1 0 7) x) b') : CC lyX Z ad yX5_change wsX5_change (rmk 6) [.ref (ad 0), .int x] b (rI K) :=
  x_change (hR.xv hI) (fun b' q => by rw [hR.1.1]; exact hK b' (hR.x q okD23 okK0 hI.1.2.1.2.1))
theorem z_forTown {K : Int32 → St → Prop} {x y : Int32} (hI : INV a T m c r p) (hR : REL a b T m c r p) (hK : ∀ b', REL a b' T m c r p → K (fFor (vM a (T r)) (a.1 0 7) x y) b') : CC lyX Z ad yX5_forTown wsX5_forTown (rmk 6) [.ref (ad 0), .int x, .int y] b (rI K) :=
  x_forTown (hR.xv hI) (fun b' q => by rw [hR.1.1]; exact hK b' (hR.x q okD23 okK0 hI.1.2.1.2.1))
theorem z_best {K : Int32 → St → Prop} {x : Int32} (hI : INV a T m c r p) (hR : REL a b T m c r p) (hK : ∀ b', REL a b' T m c r p → K (fBest (vM a (T r)) x) b') : CC lyX Z ad yX5_best wsX5_best (rmk 6) [.ref (ad 0), .int x] b (rI K) :=
  x_best (hR.xv hI) hI.vok (fun b' q => hK b' (hR.x q okD2356 okK0 hI.1.2.1.2.1))
end ZZ
theorem fT_0 {a : St} {C : TC} {m : Nat} {x : Int32} : fTold a C m x 0 = a.1 0 7 := by
  unfold fTold
  rw [if_pos ⟨by decide, Or.inl rfl⟩, if_pos (by decide), if_pos rfl]
theorem fT_1 {a : St} {C : TC} {m : Nat} {x : Int32} : fTold a C m x 1 = if isNt x then a.1 4 x.toNatClampNeg else -2 := by
  unfold fTold
  by_cases h : isNt x
  · rw [if_pos ⟨by decide, Or.inr (Or.inl ⟨by decide, h⟩)⟩, if_pos (by decide), if_neg (by decide), if_pos rfl, if_pos h]
  · rw [if_neg, if_neg h]
    intro q
    rcases q.2 with q | q | q
    · exact absurd q (by decide)
    · exact h q.2
    · exact q.1 (by decide)
theorem fT_u {a : St} {C : TC} {m : Nat} {x y v : Int32} (hy : y = 2 ∨ y = 3 ∨ y = 4) (hv : isUs m x → v = if ¬ 4 ≤ y then a.1 6 (2 * x.toNatClampNeg + y.toNatClampNeg - 2) else a.1 5 x.toNatClampNeg) : fTold a C m x y = if isUs m x then v else -2 := by
  unfold fTold
  by_cases h : isUs m x
  · rw [if_pos ⟨by rcases hy with e | e | e <;> subst e <;> decide, Or.inr (Or.inr ⟨by rcases hy with e | e | e <;> subst e <;> decide, h⟩)⟩, if_pos (by rcases hy with e | e | e <;> subst e <;> decide), if_neg (by rcases hy with e | e | e <;> subst e <;> decide), if_neg (by rcases hy with e | e | e <;> subst e <;> decide), if_pos h, hv h]
  · rw [if_neg, if_neg h]
    intro q
    rcases q.2 with q | q | q
    · rcases hy with e | e | e <;> subst e <;> exact absurd q (by decide)
    · rcases hy with e | e | e <;> subst e <;> exact absurd q.1 (by decide)
    · exact h q.2
theorem fT_5 {a : St} {C : TC} {m : Nat} {x : Int32} : fTold a C m x 5 = if isNt x then nI (sRn (a.1 0 7) x.toNatClampNeg) else -2 := by
  unfold fTold
  by_cases h : isNt x
  · rw [if_pos ⟨by decide, Or.inr (Or.inl ⟨by decide, h⟩)⟩, if_neg (by decide), if_pos rfl, if_pos h]
  · rw [if_neg, if_neg h]
    intro q
    rcases q.2 with q | q | q
    · exact absurd q (by decide)
    · exact h q.2
    · exact q.1 (by decide)
theorem fT_6 {a : St} {C : TC} {m : Nat} {x : Int32} : fTold a C m x 6 = if isNt x then sMost C (a.1 4 x.toNatClampNeg) x.toNatClampNeg (sTw (a.1 0 7) x.toNatClampNeg) (a.1 0 11) else -2 := by
  unfold fTold
  by_cases h : isNt x
  · rw [if_pos ⟨by decide, Or.inr (Or.inl ⟨by decide, h⟩)⟩, if_neg (by decide), if_neg (by decide), if_pos h]
  · rw [if_neg, if_neg h]
    intro q
    rcases q.2 with q | q | q
    · exact absurd q (by decide)
    · exact h q.2
    · exact q.1 (by decide)
theorem fT_o {a : St} {C : TC} {m : Nat} {x y : Int32} (h : y.toInt < 0 ∨ 6 < y.toInt) : fTold a C m x y = -2 := by
  unfold fTold
  rw [if_neg (fun q => by have := q.1; omega)]
set_option maxRecDepth 100000 in
set_option maxHeartbeats 4000000 in
theorem z_told {Z : LZ} {ad : Nat → Nat} {a b : St} {T : Nat → TC} {m c r p : Nat} {K : Int32 → St → Prop} {x y : Int32} (hI : INV a T m c r p) (hR : REL a b T m c r p) (hK : ∀ b', REL a b' T m c r p → K (fTold a (T r) m x y) b') : CC lyX Z ad yX5_told wsX5_told (rmk 3) [.ref (ad 0), .int x, .int y] b (rI K) := by
  refine CC.of (cc := cX5_told) (nL := 3) (ret := (some .int)) rfl rfl ⟨rfl, rfl⟩ (by exact Nat.le_of_ble_eq_true rfl) ?_
  intro X B
  change GG _ _ _ _ X _ 0 [some (.ref (ad 0)), some (.int x), some (.int y)] [] _
  change Amb _ _ _ _ X _ _ RX5 _ _ at B
  have hm6 := hI.1.1.1
  have hK0 := hK b hR
  refine g_iload_n B dX5_told_0 rfl ?_
  refine g_tsw (dt := 184) B dX5_told_1 (by decide) (by rfl) (by decide) (fun c1 => ?_) (And.intro (fun c1 => ?_) (And.intro (fun c1 => ?_) (And.intro (fun c1 => ?_) (And.intro (fun c1 => ?_) (And.intro (fun c1 => ?_) (And.intro (fun c1 => ?_) (And.intro (fun c1 => ?_) trivial)))))))
  · refine g_bipush (v := (-2)) B dX5_told_184 (by decide) ?_
    refine g_ireti B dX5_told_186 ?_
    rw [fT_o c1] at hK0
    exact hK0
  · change GG _ _ _ _ _ _ 44 _ _ _
    change _ = (0 : Int32) at c1
    refine g_aload_n B dX5_told_44 rfl ?_
    refine g_getI (T := TX5) (N := 16) B dX5_told_45 (by decide) (by rfl) (inq inlX5) rfl 1 (by decide) (mq f_X5_13) (by rfl) ?_
    refine g_ireti B dX5_told_48 ?_
    rw [c1, fT_0] at hK0
    exact kk hR.1.1 hK0
  · change GG _ _ _ _ _ _ 49 _ _ _
    change _ = (1 : Int32) at c1
    refine g_iload_n B dX5_told_49 rfl ?_
    refine g_callSi (As := [.int _]) B dX5_told_50 (gc1 g_X5_98) (by rfl) hd_X5_isNight (by exact ⟨Nat.le_of_ble_eq_true rfl, Nat.le_of_ble_eq_true rfl⟩) ⟨rfl, rfl⟩ rfl rfl (by exact Nat.le_of_ble_eq_true rfl) (x_isNight ?_)
    refine g_if_eq (tgt := 65) B dX5_told_53 (by decide) (fun c53 => ?_) (fun c53 => ?_)
    · rw [c1, fT_1, if_neg (b1_0.mp c53)] at hK0
      refine g_bipush (v := (-2)) B dX5_told_65 (by decide) ?_
      refine g_ireti B dX5_told_67 ?_
      exact hK0
    · have h1 := b1_n0.mp c53
      rw [c1, fT_1, if_pos h1] at hK0
      obtain ⟨t, ht, rfl⟩ := i_nat (n := 30) h1.1 (by omega)
      rw [i_cl (by omega)] at hK0
      refine g_aload_n B dX5_told_56 rfl ?_
      refine g_getR (T := TX5) (N := 16) B dX5_told_57 (by decide) (by rfl) (inq inlX5) rfl 0 (by decide) (mq f_X5_9) (by rfl) ?_
      refine g_iload_n B dX5_told_60 rfl ?_
      refine g_iald B dX5_told_61 (by decide) (by rfl) (by exact vp_in_nI ht (by omega)) ?_
      rw [i_cl (show t < 2147483648 by omega), hR.2.2.1 t ht]
      refine g_goto (tgt := 67) B dX5_told_62 (by decide) ?_
      refine g_ireti B dX5_told_67 ?_
      exact hK0
  · change GG _ _ _ _ _ _ 68 _ _ _
    change _ = (2 : Int32) at c1
    refine g_aload_n B dX5_told_68 rfl ?_
    refine g_iload_n B dX5_told_69 rfl ?_
    refine g_callVi (C := RX5) (As := [.int _]) B dX5_told_70 (gc1 g_X5_105) (by rfl) ⟨rfl, hd_X5_isUser⟩ (by exact ⟨Nat.le_of_ble_eq_true rfl, Nat.le_of_ble_eq_true rfl⟩) ⟨rfl, rfl⟩ rfl rfl (by exact Nat.le_of_ble_eq_true rfl) recv5 (x_isUser hm6 hR.1.2.1 ?_)
    refine g_if_eq (tgt := 88) B dX5_told_73 (by decide) (fun c73 => ?_) (fun c73 => ?_)
    · rw [c1, fT_u (v := a.1 6 (2 * x.toNatClampNeg)) (Or.inl rfl) (fun _ => rfl), if_neg (b1_0.mp c73)] at hK0
      refine g_bipush (v := (-2)) B dX5_told_88 (by decide) ?_
      refine g_ireti B dX5_told_90 ?_
      exact hK0
    · have h1 := b1_n0.mp c73
      rw [c1, fT_u (v := a.1 6 (2 * x.toNatClampNeg)) (Or.inl rfl) (fun _ => rfl), if_pos h1] at hK0
      obtain ⟨u, hu, rfl⟩ := i_nat h1.1 h1.2
      rw [i_cl (by omega)] at hK0
      have hU : UO (u + 20) := UO.u (by omega)
      refine g_aload_n B dX5_told_76 rfl ?_
      refine g_getR (T := TX5) (N := 16) B dX5_told_77 (by decide) (by rfl) (inq inlX5) rfl 2 (by decide) (mq f_X5_19) (by rfl) ?_
      refine g_iload_n B dX5_told_80 rfl ?_
      refine g_aald B dX5_told_81 (by decide) (by rfl) (by exact vp_in_nI (by omega) (by omega)) ?_
      rw [i_cl (show u < 2147483648 by omega)]
      refine g_getI (T := TX4) (N := 3) B dX5_told_82 (hU.lt) (hU.lo) (inq inlX4) rfl 1 (by decide) (mq f_X5_108) (by rfl) ?_
      rw [(hR.2.2.2.1 u (by omega)).2.1]
      refine g_goto (tgt := 90) B dX5_told_85 (by decide) ?_
      refine g_ireti B dX5_told_90 ?_
      exact hK0
  · change GG _ _ _ _ _ _ 91 _ _ _
    change _ = (3 : Int32) at c1
    refine g_aload_n B dX5_told_91 rfl ?_
    refine g_iload_n B dX5_told_92 rfl ?_
    refine g_callVi (C := RX5) (As := [.int _]) B dX5_told_93 (gc1 g_X5_105) (by rfl) ⟨rfl, hd_X5_isUser⟩ (by exact ⟨Nat.le_of_ble_eq_true rfl, Nat.le_of_ble_eq_true rfl⟩) ⟨rfl, rfl⟩ rfl rfl (by exact Nat.le_of_ble_eq_true rfl) recv5 (x_isUser hm6 hR.1.2.1 ?_)
    refine g_if_eq (tgt := 111) B dX5_told_96 (by decide) (fun c96 => ?_) (fun c96 => ?_)
    · rw [c1, fT_u (v := a.1 6 (2 * x.toNatClampNeg + 1)) (Or.inr (Or.inl rfl)) (fun _ => rfl), if_neg (b1_0.mp c96)] at hK0
      refine g_bipush (v := (-2)) B dX5_told_111 (by decide) ?_
      refine g_ireti B dX5_told_113 ?_
      exact hK0
    · have h1 := b1_n0.mp c96
      rw [c1, fT_u (v := a.1 6 (2 * x.toNatClampNeg + 1)) (Or.inr (Or.inl rfl)) (fun _ => rfl), if_pos h1] at hK0
      obtain ⟨u, hu, rfl⟩ := i_nat h1.1 h1.2
      rw [i_cl (by omega)] at hK0
      have hU : UO (u + 20) := UO.u (by omega)
      refine g_aload_n B dX5_told_99 rfl ?_
      refine g_getR (T := TX5) (N := 16) B dX5_told_100 (by decide) (by rfl) (inq inlX5) rfl 2 (by decide) (mq f_X5_19) (by rfl) ?_
      refine g_iload_n B dX5_told_103 rfl ?_
      refine g_aald B dX5_told_104 (by decide) (by rfl) (by exact vp_in_nI (by omega) (by omega)) ?_
      rw [i_cl (show u < 2147483648 by omega)]
      refine g_getI (T := TX4) (N := 3) B dX5_told_105 (hU.lt) (hU.lo) (inq inlX4) rfl 2 (by decide) (mq f_X5_114) (by rfl) ?_
      rw [(hR.2.2.2.1 u (by omega)).2.2]
      refine g_goto (tgt := 113) B dX5_told_108 (by decide) ?_
      refine g_ireti B dX5_told_113 ?_
      exact hK0
  · change GG _ _ _ _ _ _ 114 _ _ _
    change _ = (4 : Int32) at c1
    refine g_aload_n B dX5_told_114 rfl ?_
    refine g_iload_n B dX5_told_115 rfl ?_
    refine g_callVi (C := RX5) (As := [.int _]) B dX5_told_116 (gc1 g_X5_105) (by rfl) ⟨rfl, hd_X5_isUser⟩ (by exact ⟨Nat.le_of_ble_eq_true rfl, Nat.le_of_ble_eq_true rfl⟩) ⟨rfl, rfl⟩ rfl rfl (by exact Nat.le_of_ble_eq_true rfl) recv5 (x_isUser hm6 hR.1.2.1 ?_)
    refine g_if_eq (tgt := 134) B dX5_told_119 (by decide) (fun c119 => ?_) (fun c119 => ?_)
    · rw [c1, fT_u (v := a.1 5 x.toNatClampNeg) (Or.inr (Or.inr rfl)) (fun _ => rfl), if_neg (b1_0.mp c119)] at hK0
      refine g_bipush (v := (-2)) B dX5_told_134 (by decide) ?_
      refine g_ireti B dX5_told_136 ?_
      exact hK0
    · have h1 := b1_n0.mp c119
      rw [c1, fT_u (v := a.1 5 x.toNatClampNeg) (Or.inr (Or.inr rfl)) (fun _ => rfl), if_pos h1] at hK0
      obtain ⟨u, hu, rfl⟩ := i_nat h1.1 h1.2
      rw [i_cl (by omega)] at hK0
      have hU : UO (u + 20) := UO.u (by omega)
      refine g_aload_n B dX5_told_122 rfl ?_
      refine g_getR (T := TX5) (N := 16) B dX5_told_123 (by decide) (by rfl) (inq inlX5) rfl 2 (by decide) (mq f_X5_19) (by rfl) ?_
      refine g_iload_n B dX5_told_126 rfl ?_
      refine g_aald B dX5_told_127 (by decide) (by rfl) (by exact vp_in_nI (by omega) (by omega)) ?_
      rw [i_cl (show u < 2147483648 by omega)]
      refine g_getI (T := TX4) (N := 3) B dX5_told_128 (hU.lt) (hU.lo) (inq inlX4) rfl 0 (by decide) (mq f_X5_124) (by rfl) ?_
      rw [(hR.2.2.2.1 u (by omega)).1]
      refine g_goto (tgt := 136) B dX5_told_131 (by decide) ?_
      refine g_ireti B dX5_told_136 ?_
      exact hK0
  · change GG _ _ _ _ _ _ 137 _ _ _
    change _ = (5 : Int32) at c1
    refine g_iload_n B dX5_told_137 rfl ?_
    refine g_callSi (As := [.int _]) B dX5_told_138 (gc1 g_X5_98) (by rfl) hd_X5_isNight (by exact ⟨Nat.le_of_ble_eq_true rfl, Nat.le_of_ble_eq_true rfl⟩) ⟨rfl, rfl⟩ rfl rfl (by exact Nat.le_of_ble_eq_true rfl) (x_isNight ?_)
    refine g_if_eq (tgt := 155) B dX5_told_141 (by decide) (fun c141 => ?_) (fun c141 => ?_)
    · rw [c1, fT_5, if_neg (b1_0.mp c141)] at hK0
      refine g_bipush (v := (-2)) B dX5_told_155 (by decide) ?_
      refine g_ireti B dX5_told_157 ?_
      exact hK0
    · have h1 := b1_n0.mp c141
      rw [c1, fT_5, if_pos h1] at hK0
      obtain ⟨t, ht, rfl⟩ := i_nat (n := 30) h1.1 (by omega)
      rw [i_cl (by omega)] at hK0
      refine g_aload_n B dX5_told_144 rfl ?_
      refine g_getI (T := TX5) (N := 16) B dX5_told_145 (by decide) (by rfl) (inq inlX5) rfl 1 (by decide) (mq f_X5_13) (by rfl) ?_
      rw [hR.1.1]
      refine g_iload_n B dX5_told_148 rfl ?_
      refine g_callSi (As := [.int _, .int _]) B dX5_told_149 (gc1 g_X5_127) (by rfl) hd_X5_runOf (by exact ⟨Nat.le_of_ble_eq_true rfl, Nat.le_of_ble_eq_true rfl⟩) ⟨rfl, rfl⟩ rfl rfl (by exact Nat.le_of_ble_eq_true rfl) (x_runOf (t := t) rfl ht ?_)
      refine g_goto (tgt := 157) B dX5_told_152 (by decide) ?_
      refine g_ireti B dX5_told_157 ?_
      exact hK0
  · change GG _ _ _ _ _ _ 158 _ _ _
    change _ = (6 : Int32) at c1
    refine g_iload_n B dX5_told_158 rfl ?_
    refine g_callSi (As := [.int _]) B dX5_told_159 (gc1 g_X5_98) (by rfl) hd_X5_isNight (by exact ⟨Nat.le_of_ble_eq_true rfl, Nat.le_of_ble_eq_true rfl⟩) ⟨rfl, rfl⟩ rfl rfl (by exact Nat.le_of_ble_eq_true rfl) (x_isNight ?_)
    refine g_if_eq (tgt := 181) B dX5_told_162 (by decide) (fun c162 => ?_) (fun c162 => ?_)
    · rw [c1, fT_6, if_neg (b1_0.mp c162)] at hK0
      refine g_bipush (v := (-2)) B dX5_told_181 (by decide) ?_
      refine g_ireti B dX5_told_183 ?_
      first
        | exact hK0
        | exact hK τ1 (hR.x p1 okD23 okK0 hI.1.2.1.2.1)
    · have h1 := b1_n0.mp c162
      rw [c1] at hK
      rw [fT_6, if_pos h1] at hK
      obtain ⟨t, ht, rfl⟩ := i_nat (n := 30) h1.1 (by omega)
      rw [i_cl (by omega)] at hK
      refine g_aload_n B dX5_told_165 rfl ?_
      refine g_iload_n B dX5_told_166 rfl ?_
      refine g_aload_n B dX5_told_167 rfl ?_
      refine g_getI (T := TX5) (N := 16) B dX5_told_168 (by decide) (by rfl) (inq inlX5) rfl 1 (by decide) (mq f_X5_13) (by rfl) ?_
      rw [hR.1.1]
      refine g_iload_n B dX5_told_171 rfl ?_
      refine g_callSi (As := [.int _, .int _]) B dX5_told_172 (gc1 g_X5_130) (by rfl) hd_X5_townOf (by exact ⟨Nat.le_of_ble_eq_true rfl, Nat.le_of_ble_eq_true rfl⟩) ⟨rfl, rfl⟩ rfl rfl (by exact Nat.le_of_ble_eq_true rfl) (x_townOf (t := t) rfl (by omega) ?_)
      refine g_callVi (C := RX5) (As := [.int _, .int _]) B dX5_told_175 (gc1 g_X5_133) (by rfl) ⟨rfl, hd_X5_mostOf⟩ (by exact ⟨Nat.le_of_ble_eq_true rfl, Nat.le_of_ble_eq_true rfl⟩) ⟨rfl, rfl⟩ rfl rfl (by exact Nat.le_of_ble_eq_true rfl) recv5 (x_mostOf (t := t) hR.1.2.2.2 (hR.2.2.2.2.1 r hI.1.2.2.1.1) rfl ht (fun τ1 p1 => ?_))
      rw [hR.2.2.1 t ht, hR.1.2.1, ← hI.1.1.2]
      refine g_goto (tgt := 183) B dX5_told_178 (by decide) ?_
      refine g_ireti B dX5_told_183 ?_
      first
        | exact hK0
        | exact hK τ1 (hR.x p1 okD23 okK0 hI.1.2.1.2.1)

