/-! A FRAME OVER THE KIT: a world of a fixed number of cells in a fixed layout, its numbers in one function; a configuration (pc, locals, operands, numbers); one rule an instruction; a contract in the style 'if K holds of the answer and the new numbers, K holds at the end'. -/
/-- the numbers of a world: by cell and place; one long; one reference that changes (to a cell of the world, by its number) -/
abbrev St : Type := (Nat → Nat → Int32) × (Int64 × Option Nat)
/-- a cell's layout: an object (its class's place in vwCl, of each field 0 an int, 1 the long, 2 the reference, r + 3 always cell r), or an array (its type, length, of references which cells) -/
abbrev LO : Type := (Nat × List Nat) ⊕ (FieldType × (Nat × Option (Nat → Nat)))
abbrev Lay : Type := (Nat → LO) × Nat
/-- the launch, the classes' numbers, the arrays' classes, what else of the heap is known and never written -/
abbrev LZ : Type := Launch × (va_G × ((Nat → ClassId) × ((Nat → Prop) → State → Heap → Prop)))
def gv (ad : Nat → Nat) (τ : St) (o k : Nat) : Nat → Value
  | 0 => .int (τ.1 o k)
  | 1 => .long τ.2.1
  | 2 => va_rf (τ.2.2.map ad)
  | r + 3 => .ref (ad r)
def gfs (ad : Nat → Nat) (τ : St) (o : Nat) (ks : List Nat) : List Value := (List.range ks.length).map (fun k => gv ad τ o k (ks.getD k 0))
def gcell (Z : LZ) (ad : Nat → Nat) (τ : St) (o : Nat) : LO → va_E
  | .inl (ci, ks) => .inr (ci, gfs ad τ o ks)
  | .inr (_, (n, none)) => .inl (Z.2.2.1 o, (n, .inl (τ.1 o)))
  | .inr (_, (n, some rs)) => .inl (Z.2.2.1 o, (n, .inr (.inr (.inr (.inr (fun j => some (ad (rs j))))))))
def gws (ly : Lay) (Z : LZ) (ad : Nat → Nat) (τ : St) : va_W := (List.range ly.2).map (fun o => (ad o, gcell Z ad τ o (ly.1 o)))
def upS (τ : St) (o k : Nat) (v : Int32) : St := (va_up τ.1 o (va_up (τ.1 o) k v), τ.2)
def upL (τ : St) (v : Int64) : St := (τ.1, (v, τ.2.2))
def upR (τ : St) (r : Option Nat) : St := (τ.1, (τ.2.1, r))
/-- a whole row anew -/
def upA (τ : St) (o : Nat) (f : Nat → Int32) : St := (va_up τ.1 o f, τ.2)
theorem gws_at {ly : Lay} {Z : LZ} {ad : Nat → Nat} {τ : St} {o : Nat} (h : o < ly.2) : (gws ly Z ad τ)[o]? = some (ad o, gcell Z ad τ o (ly.1 o)) := by
  simp [gws, h]
theorem gfs_at {ad : Nat → Nat} {τ : St} {o k kd : Nat} {ks : List Nat} (h : ks[k]? = some kd) : (gfs ad τ o ks)[k]? = some (gv ad τ o k kd) := by
  have hl : k < ks.length := (List.getElem?_eq_some_iff.mp h).1
  have he : ks[k] = kd := (List.getElem?_eq_some_iff.mp h).2
  simp [gfs, hl, he]
theorem gfs_len {ad : Nat → Nat} {τ : St} {o : Nat} {ks : List Nat} : (gfs ad τ o ks).length = ks.length := by simp [gfs]
theorem gws_set {ly : Lay} {Z : LZ} {ad : Nat → Nat} {τ τ' : St} {o : Nat} {e : va_E} (he : gcell Z ad τ' o (ly.1 o) = e) (hk : ∀ o', o' < ly.2 → o' ≠ o → gcell Z ad τ' o' (ly.1 o') = gcell Z ad τ o' (ly.1 o')) : (gws ly Z ad τ).set o (ad o, e) = gws ly Z ad τ' := by
  subst he
  apply List.ext_getElem?
  intro j
  by_cases hj : j < ly.2
  · rw [gws_at (τ := τ') hj]
    by_cases hjo : j = o
    · subst hjo
      rw [List.getElem?_set_self (by simp [gws, hj])]
    · rw [List.getElem?_set_ne (Ne.symm hjo), gws_at hj, hk j hj hjo]
  · rw [List.getElem?_eq_none (by simp [gws]; omega), List.getElem?_eq_none (by simp [gws]; omega)]
theorem gcell_other {Z : LZ} {ad : Nat → Nat} {τ τ' : St} {o : Nat} {q : LO} (h1 : τ'.1 o = τ.1 o) (h2 : τ'.2 = τ.2) : gcell Z ad τ' o q = gcell Z ad τ o q := by
  have hg : ∀ k kd, gv ad τ' o k kd = gv ad τ o k kd := by
    intro k kd
    match kd with
    | 0 => simp [gv, h1]
    | 1 => simp [gv, h2]
    | 2 => simp [gv, h2]
    | r + 3 => rfl
  match q with
  | .inl (ci, ks) => simp [gcell, gfs, hg]
  | .inr (_, (n, none)) => simp [gcell, h1]
  | .inr (_, (n, some rs)) => rfl
theorem upS_other {Z : LZ} {ad : Nat → Nat} {τ : St} {o k o' : Nat} {v : Int32} {q : LO} (h : o' ≠ o) : gcell Z ad (upS τ o k v) o' q = gcell Z ad τ o' q := gcell_other (by simp [upS, va_up, h]) rfl
theorem upA_other {Z : LZ} {ad : Nat → Nat} {τ : St} {o o' : Nat} {f : Nat → Int32} {q : LO} (h : o' ≠ o) : gcell Z ad (upA τ o f) o' q = gcell Z ad τ o' q := gcell_other (by simp [upA, va_up, h]) rfl
theorem gfs_put {ad : Nat → Nat} {τ : St} {o k : Nat} {ks : List Nat} {v : Int32} (h : ks[k]? = some 0) : gfs ad (upS τ o k v) o ks = (gfs ad τ o ks).set k (.int v) := by
  have hl : k < ks.length := (List.getElem?_eq_some_iff.mp h).1
  apply List.ext_getElem?
  intro j
  by_cases hj : j < ks.length
  · rw [gfs_at (List.getElem?_eq_getElem hj)]
    by_cases hjk : j = k
    · subst hjk
      rw [List.getElem?_set_self (by rw [gfs_len]; exact hj)]
      have : ks[j] = 0 := by
        have := (List.getElem?_eq_some_iff.mp h).2
        exact this
      rw [this]
      simp [gv, upS, va_up]
    · rw [List.getElem?_set_ne (Ne.symm hjk), gfs_at (List.getElem?_eq_getElem hj)]
      congr 1
      generalize ks[j] = kd
      match kd with
      | 0 => simp [gv, upS, va_up, hjk]
      | 1 => simp [gv, upS]
      | 2 => simp [gv, upS]
      | r + 3 => rfl
  · rw [List.getElem?_eq_none (by rw [gfs_len]; omega), List.getElem?_eq_none (by rw [List.length_set, gfs_len]; omega)]
/-- what the tables say of classes and arrays -/
def gK (ly : Lay) (Z : LZ) (U : State) : Prop := va_K Z.2.1 vwCl [] U ∧ ∀ o, o < ly.2 → ∀ ty x, ly.1 o = .inr (ty, x) → va_K Z.2.1 vwCl [(Z.2.2.1 o, ty)] U
theorem gK.moved {ly : Lay} {Z : LZ} {u U : State} (hvm : u.vm.Alike U.vm) (h : gK ly Z u) : gK ly Z U := ⟨va_K.moved hvm h.1, fun o ho ty x e => va_K.moved hvm (h.2 o ho ty x e)⟩
def gJ (ad : Nat → Nat) (n : Nat) : Prop := ∀ i j, i < n → j < n → ad i = ad j → i = j
def gA (ad : Nat → Nat) (n sz : Nat) : Nat → Prop := fun q => (∃ o, o < n ∧ q = ad o) ∨ sz ≤ q
theorem gA_in {ad : Nat → Nat} {n sz o : Nat} (h : o < n) : gA ad n sz (ad o) := Or.inl ⟨o, h, rfl⟩
theorem gws_D {ly : Lay} {Z : LZ} {ad : Nat → Nat} {τ : St} {A : Nat → Prop} (hJ : gJ ad ly.2) (hA : ∀ o, o < ly.2 → A (ad o)) : va_D A (gws ly Z ad τ) := by
  have key : ∀ (k : Nat) (q : Nat × va_E), (gws ly Z ad τ)[k]? = some q → k < ly.2 ∧ q.1 = ad k := by
    intro k q h
    have hk : k < ly.2 := by
      have := (List.getElem?_eq_some_iff.mp h).1
      simpa [gws] using this
    rw [gws_at hk] at h
    cases h
    exact ⟨hk, rfl⟩
  refine ⟨fun i j p q hi hj e => ?_, fun k q h => ?_⟩
  · obtain ⟨a1, a2⟩ := key i p hi
    obtain ⟨b1, b2⟩ := key j q hj
    exact hJ i j a1 b1 (by rw [← a2, ← b2]; exact e)
  · obtain ⟨a1, a2⟩ := key k q h
    rw [a2]
    exact hA k a1
/-- what else is known of the heap: it moves with the state, stays where nothing of it is written -/
def EOk (E : (Nat → Prop) → State → Heap → Prop) : Prop :=
  (∀ (A : Nat → Prop) (s U : State) (H : Heap), s.WarmedH U.vm → E A s H → E A U H) ∧
  (∀ (A : Nat → Prop) (u U : State) (H : Heap), U.vm = u.vm → E A u H → E A U H) ∧
  (∀ (A : Nat → Prop) (U : State) (H H1 : Heap), (∀ a, a < H.size → ¬ A a → H1[a]? = H[a]?) → E A U H → E A U H1) ∧
  (∀ (A B : Nat → Prop) (U : State) (H : Heap), (∀ a, a < H.size → B a → A a) → E A U H → E B U H)
theorem EOk_true : EOk (fun _ _ _ => True) := ⟨fun _ _ _ _ _ _ => trivial, fun _ _ _ _ _ _ => trivial, fun _ _ _ _ _ _ => trivial, fun _ _ _ _ _ _ => trivial⟩
def gPre (ly : Lay) (Z : LZ) (ad : Nat → Nat) (τ : St) (sz : Nat) (U : State) : Prop :=
  U.heap.size = sz ∧ va_P Z.2.1 vwCl (gws ly Z ad τ) U.heap ∧ gK ly Z U ∧ gJ ad ly.2 ∧ EOk Z.2.2.2 ∧ Z.2.2.2 (gA ad ly.2 sz) U U.heap
def gQ (ly : Lay) (Z : LZ) (ad : Nat → Nat) (K : Option Value → St → Prop) (sz : Nat) : Array Value → State → Outcome → State → Prop := fun _ st oc t =>
  (∃ r : Option Value, oc = .returned r ∧ ∃ τ' : St, K r τ' ∧ va_P Z.2.1 vwCl (gws ly Z ad τ') t.heap ∧ gK ly Z t) ∧ va_F (gA ad ly.2 sz) st t
/-- A CONTRACT: begun with these arguments and numbers, the method ends, and K holds of its answer and the numbers then -/
def CC (ly : Lay) (Z : LZ) (ad : Nat → Nat) (y : MethodName) (ws : List Cond) (rm : Room) (As : List Value) (τ : St) (K : Option Value → St → Prop) : Prop :=
  ∀ sz, Met Z.1 y ws rm (va_Pc As (gPre ly Z ad τ sz)) (gQ ly Z ad K sz) 0 0 (gA ad ly.2 sz)
def rI (K : Int32 → St → Prop) : Option Value → St → Prop := fun r τ => ∃ v : Int32, r = some (.int v) ∧ K v τ
def rL (K : Int64 → St → Prop) : Option Value → St → Prop := fun r τ => ∃ v : Int64, r = some (.long v) ∧ K v τ
def rV (K : St → Prop) : Option Value → St → Prop := fun r τ => r = none ∧ K τ
def rR (K : Nat → St → Prop) : Option Value → St → Prop := fun r τ => ∃ a : Nat, r = some (.ref a) ∧ K a τ
abbrev CX : Type := Program × (Env × (State × (MethodId × (Array Value × (List Frame × (Method × (Code × Nat)))))))
def gL (ls : Array Slot) (nL : Nat) (L : List (Option Value)) : Prop := ls.size = nL ∧ lv_wf ls ∧ ∀ (k : Nat) (v : Value), L[k]? = some (some v) → ls[k]? = some (.val v)
/-- A CONFIGURATION IS GOOD: from here the method comes to its end, with K -/
def GG (ly : Lay) (Z : LZ) (ad : Nat → Nat) (rm : Room) (X : CX) (K : Option Value → St → Prop) (pc : Nat) (L : List (Option Value)) (st : List Value) (τ : St) : Prop :=
  match X with
  | (p, e, s, m, args, below, meth, c, nL) => ∀ (H : Heap) (locs : List Loc) (ls : Array Slot), va_P Z.2.1 vwCl (gws ly Z ad τ) H → va_S (gA ad ly.2 s.heap.size) s.heap H locs → gL ls nL L →
    W p Z.1 e rm s m args below meth c H locs 0 0 (MQ below (gQ ly Z ad K s.heap.size) args s 0 0 (gA ad ly.2 s.heap.size)) (F0 m pc ls st)
def Amb (ly : Lay) (Z : LZ) (ad : Nat → Nat) (rm : Room) (X : CX) (cc : ByteArray) (Ts : List Cond) (own : String) (nL : Nat) (ret : Option FieldType) : Prop :=
  match X with
  | (p, _, s, m, args, _, meth, c, n) => p.tables.exec = Jvm.exec ∧ c.code = cc ∧ c.maxLocals = nL ∧ n = nL ∧ s.vm.findClass own = some m.cls ∧ (∀ w ∈ Ts, w.before args s = true) ∧ meth.sig.returnType = ret ∧ meth.locks = false ∧ gK ly Z s ∧ gJ ad ly.2 ∧ EOk Z.2.2.2 ∧ Z.2.2.2 (gA ad ly.2 s.heap.size) s s.heap ∧ (rm.cells = 0 ∧ rm.slots = 0)
theorem gL_store1 {ls : Array Slot} {nL : Nat} {L : List (Option Value)} {i : Nat} {v : Value} (h : gL ls nL L) (hi : i < nL) : lv_has ls nL ((List.range L.length).filterMap (fun k => (L.getD k none).map (fun v => (k, v)))) := by
  refine ⟨h.1, h.2.1, fun q hq => ?_⟩
  obtain ⟨k, hk, e⟩ := List.mem_filterMap.mp hq
  have hl : k < L.length := by simpa using hk
  rw [List.getD_eq_getElem?_getD, List.getElem?_eq_getElem hl] at e
  simp only [Option.getD_some] at e
  cases hx : L[k] with
  | none => rw [hx] at e; cases e
  | some w =>
    rw [hx] at e
    cases e
    exact h.2.2 k w (by rw [List.getElem?_eq_getElem hl, hx])
/-- ahead of place i stands no long -/
def gno2 (L : List (Option Value)) : Nat → Bool
  | 0 => true
  | j + 1 => match L[j]? with
    | some (some w) => w.category != 2
    | _ => true
theorem gL_set {ls' : Array Slot} {nL : Nat} {L : List (Option Value)} {i : Nat} {v : Value} (hg : gno2 L i = true) (h : lv_has ls' nL ((i, v) :: ((List.range L.length).filterMap (fun k => (L.getD k none).map (fun v => (k, v)))).filter (fun q => !(q.1 == i) && !(q.1 + 1 == i && q.2.category == 2)))) : gL ls' nL (L.set i (some v)) := by
  refine ⟨h.1, h.2.1, fun k w hk => ?_⟩
  have hl : k < L.length := by
    have := (List.getElem?_eq_some_iff.mp hk).1
    simpa using this
  by_cases hki : k = i
  · subst hki
    rw [List.getElem?_set_self hl] at hk
    cases hk
    exact h.2.2 (k, v) List.mem_cons_self
  · rw [List.getElem?_set_ne (Ne.symm hki)] at hk
    refine h.2.2 (k, w) (List.mem_cons_of_mem _ (List.mem_filter.mpr ⟨List.mem_filterMap.mpr ⟨k, by simpa using hl, ?_⟩, ?_⟩))
    · rw [List.getD_eq_getElem?_getD, hk]
      rfl
    · by_cases h1 : k + 1 = i
      · subst h1
        simp only [gno2, hk] at hg
        simp only [bne_iff_ne, ne_eq] at hg
        simp [hki, hg]
      · simp [hki, h1]
theorem gL_set2 {ls' : Array Slot} {nL : Nat} {L : List (Option Value)} {i : Nat} {v : Value} (hg : gno2 L i = true) (h : lv_has ls' nL ((i, v) :: ((List.range L.length).filterMap (fun k => (L.getD k none).map (fun v => (k, v)))).filter (fun q => !(q.1 == i) && (!(q.1 == i + 1) && !(q.1 + 1 == i && q.2.category == 2))))) : gL ls' nL ((L.set i (some v)).set (i + 1) none) := by
  refine ⟨h.1, h.2.1, fun k w hk => ?_⟩
  have hl : k < L.length := by
    have := (List.getElem?_eq_some_iff.mp hk).1
    simpa using this
  by_cases hk1 : k = i + 1
  · subst hk1
    rw [List.getElem?_set_self (by simpa using hl)] at hk
    cases hk
  · rw [List.getElem?_set_ne (Ne.symm hk1)] at hk
    by_cases hki : k = i
    · subst hki
      rw [List.getElem?_set_self hl] at hk
      cases hk
      exact h.2.2 (k, v) List.mem_cons_self
    · rw [List.getElem?_set_ne (Ne.symm hki)] at hk
      refine h.2.2 (k, w) (List.mem_cons_of_mem _ (List.mem_filter.mpr ⟨List.mem_filterMap.mpr ⟨k, by simpa using hl, ?_⟩, ?_⟩))
      · rw [List.getD_eq_getElem?_getD, hk]
        rfl
      · by_cases h1 : k + 1 = i
        · subst h1
          simp only [gno2, hk] at hg
          simp only [bne_iff_ne, ne_eq] at hg
          simp [hki, hk1, hg]
        · simp [hki, h1, hk1]
theorem gL_drop {ls : Array Slot} {nL : Nat} {L : List (Option Value)} {i : Nat} (h : gL ls nL L) : gL ls nL (L.set i none) := by
  refine ⟨h.1, h.2.1, fun k w hk => ?_⟩
  by_cases hki : k = i
  · subst hki
    by_cases hl : k < L.length
    · rw [List.getElem?_set_self hl] at hk
      cases hk
    · rw [List.getElem?_eq_none (by simp; omega)] at hk
      cases hk
  · rw [List.getElem?_set_ne (Ne.symm hki)] at hk
    exact h.2.2 k w hk
