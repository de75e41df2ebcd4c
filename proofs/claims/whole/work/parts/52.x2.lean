/-! how high the stack of codes grows -/
def ht1 (c : Int32) (h : Nat) : Option Nat :=
  if c ≤ -11 ∧ -17 ≤ c then (if 2 ≤ h then some (h - 1) else none) else if c = -21 ∨ c = -22 then (if 1 ≤ h then some h else none) else if h < 40 then some (h + 1) else none
def htS : List Int32 → Nat → Option Nat
  | [], h => some h
  | c :: cs, h => (ht1 c h).bind (htS cs)
theorem htS_app : ∀ (cs ds : List Int32) (h : Nat), htS (cs ++ ds) h = (htS cs h).bind (htS ds)
  | [], ds, h => rfl
  | c :: cs, ds, h => by
    show (ht1 c h).bind (htS (cs ++ ds)) = ((ht1 c h).bind (htS cs)).bind (htS ds)
    cases ht1 c h with
    | none => rfl
    | some k => exact htS_app cs ds k
/-- one number more, n more places at most -/
def DPT (n : Nat) (cs : List Int32) : Prop := ∀ h, h + n ≤ 40 → htS cs h = some (h + 1)
theorem DPT.mono {n n' : Nat} {cs : List Int32} (h : DPT n cs) (hn : n ≤ n') : DPT n' cs := fun k hk => h k (by omega)
theorem DPT.one {c : Int32} (h1 : -6 ≤ c.toInt) : DPT 1 [c] := fun h hh => by
  show (ht1 c h).bind (htS []) = _
  unfold ht1
  have e1 : (-11 : Int32).toInt = -11 := rfl
  have e2 : (-21 : Int32).toInt = -21 := rfl
  have e3 : (-22 : Int32).toInt = -22 := rfl
  rw [if_neg (fun q => by have := i_le.mp q.1; omega), if_neg (fun q => q.elim (fun q => by have := i_eq.mp q; omega) (fun q => by have := i_eq.mp q; omega)), if_pos (by omega)]
  rfl
theorem DPT.bin {n n' : Nat} {cs ds : List Int32} {c : Int32} (h1 : DPT n cs) (h2 : DPT n' ds) (hn : n' + 1 ≤ n) (hc : c ≤ -11 ∧ -17 ≤ c) : DPT n (cs ++ ds ++ [c]) := fun h hh => by
  rw [htS_app, htS_app, h1 h hh]
  show ((htS ds (h + 1)).bind (htS [c])) = _
  rw [h2 (h + 1) (by omega)]
  show (ht1 c (h + 1 + 1)).bind (htS []) = _
  unfold ht1
  rw [if_pos hc, if_pos (by omega)]
  rfl
theorem DPT.un {n : Nat} {cs : List Int32} {c : Int32} (h1 : DPT n cs) (hc : c = -21 ∨ c = -22) : DPT n (cs ++ [c]) := fun h hh => by
  rw [htS_app, h1 h hh]
  show (ht1 c (h + 1)).bind (htS []) = _
  unfold ht1
  rw [if_neg (by rcases hc with e | e <;> subst e <;> decide), if_pos hc, if_pos (by omega)]
  rfl
def pDP (n : Nat) (p : Nat → PR) : Prop := ∀ a cs a2, p a = .inr (cs, a2) → DPT n cs
theorem pLoop_dp {n : Nat} {p : Nat → PR} {op : Nat → Option Int32} (hp : pDP n p) (ho : opOK op) : ∀ (k : Nat) (cs : List Int32) (a : Nat) (ds : List Int32) (b : Nat), DPT (n + 1) cs → pLoop p op k cs a = .inr (ds, b) → DPT (n + 1) ds
  | 0, cs, a, ds, b, hw, h => by
    unfold pLoop at h
    cases h
    exact hw
  | k + 1, cs, a, ds, b, hw, h => by
    unfold pLoop at h
    cases e : op a with
    | none =>
      rw [e] at h
      cases h
      exact hw
    | some c =>
      rw [e] at h
      dsimp only at h
      cases e2 : p (a + 1) with
      | inl f =>
        rw [e2] at h
        cases h
      | inr r =>
        obtain ⟨cs2, a2⟩ := r
        rw [e2] at h
        dsimp only at h
        exact pLoop_dp hp ho k _ a2 ds b (hw.bin (hp _ _ _ e2) (Nat.le_refl _) (ho a c e)) h
theorem pSeq_dp {n : Nat} {p : Nat → PR} {op : Nat → Option Int32} (hp : pDP n p) (ho : opOK op) : pDP (n + 1) (pSeq p op) := by
  intro a cs a2 h
  unfold pSeq at h
  cases e : p a with
  | inl f => rw [e] at h; cases h
  | inr r =>
    obtain ⟨c1, a1⟩ := r
    rw [e] at h
    dsimp only at h
    exact pLoop_dp hp ho 200 c1 a1 cs a2 ((hp _ _ _ e).mono (by omega)) h
def ltDP (n : Nat) (lo : Option LT) : Prop := ∀ l, lo = some l → pDP n l.1 ∧ pDP n l.2.1 ∧ pDP n l.2.2
theorem pAtom_dp {n : Nat} {T V : Nat → Int32} {lo : Option LT} (hn : 1 ≤ n) (hT : TVok T V) (hl : ltDP n lo) : pDP n (pAtom T V lo) := by
  intro a cs a2 h
  unfold pAtom at h
  split at h
  next h1 =>
    cases h
    exact (DPT.one (hT a h1)).mono hn
  next h1 =>
    split at h
    next h2 =>
      cases lo with
      | none => cases h
      | some l =>
        dsimp only at h
        cases e : l.1 (a + 1) with
        | inl f => rw [e] at h; cases h
        | inr r =>
          obtain ⟨c1, a1⟩ := r
          rw [e] at h
          cases h
          exact ((hl l rfl).1 _ _ _ e).un (Or.inr rfl)
    next h2 =>
      split at h
      next h3 =>
        cases lo with
        | none => cases h
        | some l =>
          dsimp only at h
          cases e : l.2.2 (a + 1) with
          | inl f => rw [e] at h; cases h
          | inr r =>
            obtain ⟨c1, a1⟩ := r
            rw [e] at h
            dsimp only at h
            have g1 := (hl l rfl).2.2 _ _ _ e
            split at h
            · cases h
              exact g1
            · cases h
      next h3 => cases h
theorem pCmp_dp {n : Nat} {T V : Nat → Int32} {lo : Option LT} (hn : 1 ≤ n) (hT : TVok T V) (hl : ltDP n lo) : pDP (n + 3) (pCmp T V lo) := by
  have hs : pDP (n + 2) (pSum T V lo) := pSeq_dp (pSeq_dp (pAtom_dp hn hT hl) opMul_ok) opAdd_ok
  intro a cs a2 h
  unfold pCmp at h
  cases e : pSum T V lo a with
  | inl f => rw [e] at h; cases h
  | inr r =>
    obtain ⟨c1, a1⟩ := r
    rw [e] at h
    dsimp only at h
    have g1 := hs _ _ _ e
    split at h
    next h1 =>
      cases e2 : pSum T V lo (a1 + 1) with
      | inl f => rw [e2] at h; cases h
      | inr r =>
        obtain ⟨c2, a3⟩ := r
        rw [e2] at h
        cases h
        exact (g1.mono (Nat.le_succ _)).bin (hs _ _ _ e2) (Nat.le_refl _) (by split <;> decide)
    next h1 =>
      cases h
      exact g1.mono (Nat.le_succ _)
theorem pNot_dp {n : Nat} {T V : Nat → Int32} {lo : Option LT} (hn : 1 ≤ n) (hT : TVok T V) (hl : ltDP n lo) : pDP (n + 3) (pNot T V lo) := by
  intro a cs a2 h
  unfold pNot at h
  split at h
  next h1 =>
    cases lo with
    | none => cases h
    | some l =>
      dsimp only at h
      cases e : l.2.1 (a + 1) with
      | inl f => rw [e] at h; cases h
      | inr r =>
        obtain ⟨c1, a1⟩ := r
        rw [e] at h
        cases h
        exact (((hl l rfl).2.1 _ _ _ e).mono (by omega)).un (Or.inl rfl)
  next h1 => exact pCmp_dp hn hT hl _ _ _ h
theorem pDP.mono {n n' : Nat} {p : Nat → PR} (h : pDP n p) (hn : n ≤ n') : pDP n' p := fun a cs a2 e => (h a cs a2 e).mono hn
theorem pEith_dp {n : Nat} {T V : Nat → Int32} {lo : Option LT} (hn : 1 ≤ n) (hT : TVok T V) (hl : ltDP n lo) : pDP (n + 5) (pEith T V lo) := pSeq_dp (pSeq_dp (pNot_dp hn hT hl) opAnd_ok) opOr_ok
theorem pLev_dp {T V : Nat → Int32} (hT : TVok T V) : ∀ k, ltDP (5 * k + 1) (pLev T V k)
  | 0 => fun l h => by cases h
  | k + 1 => fun l h => by
    cases h
    have ih := pLev_dp hT k
    exact ⟨(pAtom_dp (by omega) hT ih).mono (by omega), (pNot_dp (by omega) hT ih).mono (by omega), (pEith_dp (by omega) hT ih).mono (by omega)⟩
theorem pPart_dp {T V : Nat → Int32} (hT : TVok T V) {key : Int32} : pDP 40 (pPart T V key) := by
  intro a cs a2 h
  unfold pPart at h
  split at h
  · cases e : pEith T V (pLev T V 5) (a + 1) with
    | inl f => rw [e] at h; cases h
    | inr r =>
      obtain ⟨c1, a1⟩ := r
      rw [e] at h
      dsimp only at h
      have g1 := pEith_dp (by omega) hT (pLev_dp hT 5) _ _ _ e
      split at h
      · cases h
        exact g1.mono (by omega)
      · cases h
  · cases h
/-- three parts that may be worked off on the stack -/
def TCok (C : TC) : Prop := htS C.1 0 = some 1 ∧ htS C.2.1 0 = some 1 ∧ htS C.2.2 0 = some 1
theorem pText_dp {T V : Nat → Int32} {C : TC} (hT : TVok T V) (h : pText T V = .inr C) : TCok C := by
  unfold pText at h
  cases e1 : pPart T V 301 0 with
  | inl f => rw [e1] at h; cases h
  | inr r1 =>
    obtain ⟨c1, a1⟩ := r1
    rw [e1] at h
    dsimp only at h
    cases e2 : pPart T V 302 a1 with
    | inl f => rw [e2] at h; cases h
    | inr r2 =>
      obtain ⟨c2, a2⟩ := r2
      rw [e2] at h
      dsimp only at h
      cases e3 : pPart T V 303 a2 with
      | inl f => rw [e3] at h; cases h
      | inr r3 =>
        obtain ⟨c3, a3⟩ := r3
        rw [e3] at h
        dsimp only at h
        split at h
        · cases h
          exact ⟨pPart_dp hT _ _ _ e1 0 (by omega), pPart_dp hT _ _ _ e2 0 (by omega), pPart_dp hT _ _ _ e3 0 (by omega)⟩
        · cases h

