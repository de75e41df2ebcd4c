/-! a text read: by levels (how many ( , not, - are open), over T (the tokens' sorts) and V (their values); what comes out is codes for a stack, operands first, or the number of the token that can't stand there -/
abbrev PR : Type := Nat ⊕ (List Int32 × Nat)
def pLoop (p : Nat → PR) (op : Nat → Option Int32) : Nat → List Int32 → Nat → PR
  | 0, cs, a => .inr (cs, a)
  | k + 1, cs, a => match op a with
    | none => .inr (cs, a)
    | some c => match p (a + 1) with
      | .inl f => .inl f
      | .inr (cs2, a2) => pLoop p op k (cs ++ cs2 ++ [c]) a2
def pSeq (p : Nat → PR) (op : Nat → Option Int32) (a : Nat) : PR := match p a with
  | .inl f => .inl f
  | .inr (cs, a1) => pLoop p op 200 cs a1
def opMul (T : Nat → Int32) (a : Nat) : Option Int32 := if T a = 42 then some (-17) else none
def opAdd (T : Nat → Int32) (a : Nat) : Option Int32 := if T a = 43 then some (-15) else if T a = 45 then some (-16) else none
def opAnd (T : Nat → Int32) (a : Nat) : Option Int32 := if T a = 305 then some (-12) else none
def opOr (T : Nat → Int32) (a : Nat) : Option Int32 := if T a = 304 then some (-11) else none
/-- the three of a level that deeper levels are called by -/
abbrev LT : Type := (Nat → PR) × ((Nat → PR) × (Nat → PR))
def pAtom (T V : Nat → Int32) (lo : Option LT) (a : Nat) : PR :=
  if T a = 2 ∨ T a = 3 then .inr ([V a], a + 1)
  else if T a = 45 then match lo with
    | none => .inl a
    | some l => match l.1 (a + 1) with
      | .inl f => .inl f
      | .inr (cs, a2) => .inr (cs ++ [-22], a2)
  else if T a = 40 then match lo with
    | none => .inl a
    | some l => match l.2.2 (a + 1) with
      | .inl f => .inl f
      | .inr (cs, a2) => if T a2 = 41 then .inr (cs, a2 + 1) else .inl a2
  else .inl a
def pTerm (T V : Nat → Int32) (lo : Option LT) : Nat → PR := pSeq (pAtom T V lo) (opMul T)
def pSum (T V : Nat → Int32) (lo : Option LT) : Nat → PR := pSeq (pTerm T V lo) (opAdd T)
def pCmp (T V : Nat → Int32) (lo : Option LT) (a : Nat) : PR := match pSum T V lo a with
  | .inl f => .inl f
  | .inr (cs, a1) => if T a1 = 60 ∨ T a1 = 61 then match pSum T V lo (a1 + 1) with
      | .inl f => .inl f
      | .inr (cs2, a2) => .inr (cs ++ cs2 ++ [if T a1 = 60 then -13 else -14], a2)
    else .inr (cs, a1)
def pNot (T V : Nat → Int32) (lo : Option LT) (a : Nat) : PR :=
  if T a = 306 then match lo with
    | none => .inl a
    | some l => match l.2.1 (a + 1) with
      | .inl f => .inl f
      | .inr (cs, a2) => .inr (cs ++ [-21], a2)
  else pCmp T V lo a
def pBoth (T V : Nat → Int32) (lo : Option LT) : Nat → PR := pSeq (pNot T V lo) (opAnd T)
def pEith (T V : Nat → Int32) (lo : Option LT) : Nat → PR := pSeq (pBoth T V lo) (opOr T)
def pMk (T V : Nat → Int32) (lo : Option LT) : LT := (pAtom T V lo, (pNot T V lo, pEith T V lo))
/-- level 5 less k -/
def pLev (T V : Nat → Int32) : Nat → Option LT
  | 0 => none
  | k + 1 => some (pMk T V (pLev T V k))
/-- a part of a text: its key, an E, ; -/
def pPart (T V : Nat → Int32) (key : Int32) (a : Nat) : PR :=
  if T a = key then match pEith T V (pLev T V 5) (a + 1) with
    | .inl f => .inl f
    | .inr (cs, a2) => if T a2 = 59 then .inr (cs, a2 + 1) else .inl a2
  else .inl a
/-- a text: its fault's token, or the three parts' codes -/
def pText (T V : Nat → Int32) : Nat ⊕ (List Int32 × (List Int32 × List Int32)) := match pPart T V 301 0 with
  | .inl f => .inl f
  | .inr (c1, a1) => match pPart T V 302 a1 with
    | .inl f => .inl f
    | .inr (c2, a2) => match pPart T V 303 a2 with
      | .inl f => .inl f
      | .inr (c3, a3) => if T a3 = 0 then .inr (c1, (c2, c3)) else .inl a3
/-- a code worked off on a stack -/
def opd (env : Nat → Int32) (c : Int32) : Int32 := if 0 ≤ c then c else env (-1 - c).toNatClampNeg
def jn (c a b : Int32) : Int32 :=
  if c = -11 then (if a ≠ 0 ∨ b ≠ 0 then 1 else 0) else if c = -12 then (if a ≠ 0 ∧ b ≠ 0 then 1 else 0) else if c = -13 then (if a < b then 1 else 0) else if c = -14 then (if a = b then 1 else 0)
  else if c = -15 then a + b else if c = -16 then a - b else a * b
def stp (env : Nat → Int32) (c : Int32) (st : List Int32) : List Int32 :=
  if c ≤ -11 ∧ -17 ≤ c then match st with
    | b :: a :: r => jn c a b :: r
    | r => r
  else if c = -21 then match st with
    | a :: r => (if a = 0 then 1 else 0) :: r
    | r => r
  else if c = -22 then match st with
    | a :: r => (-a) :: r
    | r => r
  else opd env c :: st
def evS (env : Nat → Int32) : List Int32 → List Int32 → List Int32
  | [], st => st
  | c :: cs, st => evS env cs (stp env c st)
def evc (env : Nat → Int32) (cs : List Int32) : Int32 := (evS env cs []).headD 0
theorem evS_app (env : Nat → Int32) : ∀ (cs ds st : List Int32), evS env (cs ++ ds) st = evS env ds (evS env cs st)
  | [], ds, st => rfl
  | c :: cs, ds, st => evS_app env cs ds (stp env c st)
/-- codes that leave just one number more -/
def WF (cs : List Int32) : Prop := ∀ env st, evS env cs st = evc env cs :: st
theorem WF.one {c : Int32} (h1 : -6 ≤ c.toInt) : WF [c] := by
  intro env st
  have e : ∀ st, evS env [c] st = opd env c :: st := by
    intro st
    show stp env c st = _
    unfold stp
    have e1 : (-11 : Int32).toInt = -11 := rfl
    have e2 : (-21 : Int32).toInt = -21 := rfl
    have e3 : (-22 : Int32).toInt = -22 := rfl
    rw [if_neg (fun h => by have := i_le.mp h.1; omega), if_neg (fun h => by have := i_eq.mp h; omega), if_neg (fun h => by have := i_eq.mp h; omega)]
  unfold evc
  rw [e, e]
  rfl
theorem evc_one {c : Int32} (h1 : -6 ≤ c.toInt) (env : Nat → Int32) : evc env [c] = opd env c := by
  have e : evS env [c] [] = [opd env c] := by
    show stp env c [] = _
    unfold stp
    have e1 : (-11 : Int32).toInt = -11 := rfl
    have e2 : (-21 : Int32).toInt = -21 := rfl
    have e3 : (-22 : Int32).toInt = -22 := rfl
    rw [if_neg (fun h => by have := i_le.mp h.1; omega), if_neg (fun h => by have := i_eq.mp h; omega), if_neg (fun h => by have := i_eq.mp h; omega)]
  unfold evc
  rw [e]
  rfl
theorem evS_bin {env : Nat → Int32} {cs ds : List Int32} {c : Int32} (h1 : WF cs) (h2 : WF ds) (hc : c ≤ -11 ∧ -17 ≤ c) (st : List Int32) : evS env (cs ++ ds ++ [c]) st = jn c (evc env cs) (evc env ds) :: st := by
  rw [evS_app, evS_app, h1, h2]
  show stp env c _ = _
  unfold stp
  rw [if_pos hc]
theorem WF.bin {cs ds : List Int32} {c : Int32} (h1 : WF cs) (h2 : WF ds) (hc : c ≤ -11 ∧ -17 ≤ c) : WF (cs ++ ds ++ [c]) := by
  intro env st
  unfold evc
  rw [evS_bin h1 h2 hc, evS_bin h1 h2 hc]
  rfl
theorem evc_bin {env : Nat → Int32} {cs ds : List Int32} {c : Int32} (h1 : WF cs) (h2 : WF ds) (hc : c ≤ -11 ∧ -17 ≤ c) : evc env (cs ++ ds ++ [c]) = jn c (evc env cs) (evc env ds) := by
  show (evS env _ []).headD 0 = _
  rw [evS_bin h1 h2 hc]
  rfl
theorem evS_not {env : Nat → Int32} {cs : List Int32} (h1 : WF cs) (st : List Int32) : evS env (cs ++ [-21]) st = (if evc env cs = 0 then 1 else 0) :: st := by
  rw [evS_app, h1]
  rfl
theorem WF.not {cs : List Int32} (h1 : WF cs) : WF (cs ++ [-21]) := by
  intro env st
  unfold evc
  rw [evS_not h1, evS_not h1]
  rfl
theorem evc_not {env : Nat → Int32} {cs : List Int32} (h1 : WF cs) : evc env (cs ++ [-21]) = if evc env cs = 0 then 1 else 0 := by
  show (evS env _ []).headD 0 = _
  rw [evS_not h1]
  rfl
theorem evS_neg {env : Nat → Int32} {cs : List Int32} (h1 : WF cs) (st : List Int32) : evS env (cs ++ [-22]) st = (-evc env cs) :: st := by
  rw [evS_app, h1]
  rfl
theorem WF.neg {cs : List Int32} (h1 : WF cs) : WF (cs ++ [-22]) := by
  intro env st
  unfold evc
  rw [evS_neg h1, evS_neg h1]
  rfl
theorem evc_neg {env : Nat → Int32} {cs : List Int32} (h1 : WF cs) : evc env (cs ++ [-22]) = -evc env cs := by
  show (evS env _ []).headD 0 = _
  rw [evS_neg h1]
  rfl
/-- a reader that goes on: its codes are well formed, it takes one token at least -/
def pOK (p : Nat → PR) : Prop := ∀ a cs a2, p a = .inr (cs, a2) → WF cs ∧ a < a2
def opOK (op : Nat → Option Int32) : Prop := ∀ a c, op a = some c → c ≤ -11 ∧ -17 ≤ c
theorem pLoop_ok {p : Nat → PR} {op : Nat → Option Int32} (hp : pOK p) (ho : opOK op) : ∀ (k : Nat) (cs : List Int32) (a : Nat) (ds : List Int32) (b : Nat), WF cs → pLoop p op k cs a = .inr (ds, b) → WF ds ∧ a ≤ b
  | 0, cs, a, ds, b, hw, h => by
    unfold pLoop at h
    cases h
    exact ⟨hw, Nat.le_refl _⟩
  | k + 1, cs, a, ds, b, hw, h => by
    unfold pLoop at h
    cases e : op a with
    | none =>
      rw [e] at h
      cases h
      exact ⟨hw, Nat.le_refl _⟩
    | some c =>
      rw [e] at h
      dsimp only at h
      cases e2 : p (a + 1) with
      | inl f =>
        rw [e2] at h
        cases h
      | inr r =>
        obtain ⟨cs2, a2⟩ := r
        rw [e2] at h
        dsimp only at h
        obtain ⟨h1, h2⟩ := hp _ _ _ e2
        have := pLoop_ok hp ho k _ a2 ds b (hw.bin h1 (ho a c e)) h
        exact ⟨this.1, by omega⟩
theorem pSeq_ok {p : Nat → PR} {op : Nat → Option Int32} (hp : pOK p) (ho : opOK op) : pOK (pSeq p op) := by
  intro a cs a2 h
  unfold pSeq at h
  cases e : p a with
  | inl f => rw [e] at h; cases h
  | inr r =>
    obtain ⟨c1, a1⟩ := r
    rw [e] at h
    dsimp only at h
    obtain ⟨h1, h2⟩ := hp _ _ _ e
    have := pLoop_ok hp ho 200 c1 a1 cs a2 h1 h
    exact ⟨this.1, by omega⟩
theorem opMul_ok {T : Nat → Int32} : opOK (opMul T) := by
  intro a c h
  unfold opMul at h
  split at h
  · cases h; decide
  · cases h
theorem opAdd_ok {T : Nat → Int32} : opOK (opAdd T) := by
  intro a c h
  unfold opAdd at h
  split at h
  · cases h; decide
  · split at h
    · cases h; decide
    · cases h
theorem opAnd_ok {T : Nat → Int32} : opOK (opAnd T) := by
  intro a c h
  unfold opAnd at h
  split at h
  · cases h; decide
  · cases h
theorem opOr_ok {T : Nat → Int32} : opOK (opOr T) := by
  intro a c h
  unfold opOr at h
  split at h
  · cases h; decide
  · cases h
/-- operands are numbers up, names from -6 on -/
def TVok (T V : Nat → Int32) : Prop := ∀ a, T a = 2 ∨ T a = 3 → -6 ≤ (V a).toInt
def ltOK (lo : Option LT) : Prop := ∀ l, lo = some l → pOK l.1 ∧ pOK l.2.1 ∧ pOK l.2.2
theorem pAtom_ok {T V : Nat → Int32} {lo : Option LT} (hT : TVok T V) (hl : ltOK lo) : pOK (pAtom T V lo) := by
  intro a cs a2 h
  unfold pAtom at h
  split at h
  next h1 =>
    cases h
    exact ⟨WF.one (hT a h1), by omega⟩
  next h1 =>
    split at h
    next h2 =>
      cases lo with
      | none => cases h
      | some l =>
        dsimp only at h
        cases e : l.1 (a + 1) with
        | inl f => rw [e] at h; cases h
        | inr r =>
          obtain ⟨c1, a1⟩ := r
          rw [e] at h
          cases h
          obtain ⟨g1, g2⟩ := (hl l rfl).1 _ _ _ e
          exact ⟨g1.neg, by omega⟩
    next h2 =>
      split at h
      next h3 =>
        cases lo with
        | none => cases h
        | some l =>
          dsimp only at h
          cases e : l.2.2 (a + 1) with
          | inl f => rw [e] at h; cases h
          | inr r =>
            obtain ⟨c1, a1⟩ := r
            rw [e] at h
            dsimp only at h
            obtain ⟨g1, g2⟩ := (hl l rfl).2.2 _ _ _ e
            split at h
            · cases h
              exact ⟨g1, by omega⟩
            · cases h
      next h3 => cases h
theorem pTerm_ok {T V : Nat → Int32} {lo : Option LT} (hT : TVok T V) (hl : ltOK lo) : pOK (pTerm T V lo) := pSeq_ok (pAtom_ok hT hl) opMul_ok
theorem pSum_ok {T V : Nat → Int32} {lo : Option LT} (hT : TVok T V) (hl : ltOK lo) : pOK (pSum T V lo) := pSeq_ok (pTerm_ok hT hl) opAdd_ok
theorem pCmp_ok {T V : Nat → Int32} {lo : Option LT} (hT : TVok T V) (hl : ltOK lo) : pOK (pCmp T V lo) := by
  intro a cs a2 h
  unfold pCmp at h
  cases e : pSum T V lo a with
  | inl f => rw [e] at h; cases h
  | inr r =>
    obtain ⟨c1, a1⟩ := r
    rw [e] at h
    dsimp only at h
    obtain ⟨g1, g2⟩ := pSum_ok hT hl _ _ _ e
    split at h
    next h1 =>
      cases e2 : pSum T V lo (a1 + 1) with
      | inl f => rw [e2] at h; cases h
      | inr r =>
        obtain ⟨c2, a3⟩ := r
        rw [e2] at h
        cases h
        obtain ⟨g3, g4⟩ := pSum_ok hT hl _ _ _ e2
        exact ⟨g1.bin g3 (by split <;> decide), by omega⟩
    next h1 =>
      cases h
      exact ⟨g1, g2⟩
theorem pNot_ok {T V : Nat → Int32} {lo : Option LT} (hT : TVok T V) (hl : ltOK lo) : pOK (pNot T V lo) := by
  intro a cs a2 h
  unfold pNot at h
  split at h
  next h1 =>
    cases lo with
    | none => cases h
    | some l =>
      dsimp only at h
      cases e : l.2.1 (a + 1) with
      | inl f => rw [e] at h; cases h
      | inr r =>
        obtain ⟨c1, a1⟩ := r
        rw [e] at h
        cases h
        obtain ⟨g1, g2⟩ := (hl l rfl).2.1 _ _ _ e
        exact ⟨g1.not, by omega⟩
  next h1 => exact pCmp_ok hT hl _ _ _ h
theorem pBoth_ok {T V : Nat → Int32} {lo : Option LT} (hT : TVok T V) (hl : ltOK lo) : pOK (pBoth T V lo) := pSeq_ok (pNot_ok hT hl) opAnd_ok
theorem pEith_ok {T V : Nat → Int32} {lo : Option LT} (hT : TVok T V) (hl : ltOK lo) : pOK (pEith T V lo) := pSeq_ok (pBoth_ok hT hl) opOr_ok
theorem pLev_ok {T V : Nat → Int32} (hT : TVok T V) : ∀ k, ltOK (pLev T V k)
  | 0 => fun l h => by cases h
  | k + 1 => fun l h => by
    cases h
    exact ⟨pAtom_ok hT (pLev_ok hT k), pNot_ok hT (pLev_ok hT k), pEith_ok hT (pLev_ok hT k)⟩
