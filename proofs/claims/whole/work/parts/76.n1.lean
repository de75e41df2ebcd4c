/-! A CONFIGURATION OVER A LIST OF CELLS, for the methods that make new ones. Z: the launch, the classes' numbers, the arrays' classes, what else the tables say -/
def EM (E : State → Prop) : Prop := (∀ s U : State, s.WarmedH U.vm → E s → E U) ∧ (∀ u U : State, U.vm = u.vm → E u → E U)
theorem EM_true : EM (fun _ => True) := ⟨fun _ _ _ _ => trivial, fun _ _ _ _ => trivial⟩
abbrev NZ : Type := Launch × (va_G × (List (ClassId × FieldType) × (State → Prop)))
def GN (Z : NZ) (rm : Room) (X : CX) (A : Nat → Prop) (Q : State → Prop) (nc ns pc : Nat) (L : List (Option Value)) (st : List Value) (ws : va_W) : Prop :=
  match X with
  | (p, e, s, m, args, below, meth, c, nL) => ∀ (H : Heap) (locs : List Loc) (ls : Array Slot), va_P Z.2.1 vwCl ws H → va_D A ws → va_S A s.heap H locs → gL ls nL L →
    W p Z.1 e rm s m args below meth c H locs nc ns Q (F0 m pc ls st)
def AmbN (Z : NZ) (rm : Room) (X : CX) (A : Nat → Prop) (cc : ByteArray) (Ts : List Cond) (own : String) (nL : Nat) : Prop :=
  match X with
  | (p, _, s, m, args, _, meth, c, n) => p.tables.exec = Jvm.exec ∧ c.code = cc ∧ c.maxLocals = nL ∧ n = nL ∧ s.vm.findClass own = some m.cls ∧ (∀ w ∈ Ts, w.before args s = true) ∧ meth.locks = false ∧ va_K Z.2.1 vwCl Z.2.2.1 s ∧ EM Z.2.2.2 ∧ Z.2.2.2 s ∧ (∀ q : Nat, s.heap.size ≤ q → A q)
def IN (X : CX) : Prop := match X with
  | (_, _, _, _, _, _, meth, _, _) => meth.name = "<init>" ∧ meth.sig.returnType = none
def nPre (Z : NZ) (wc : va_W) (sz : Nat) (U : State) : Prop := U.heap.size = sz ∧ va_P Z.2.1 vwCl wc U.heap ∧ va_K Z.2.1 vwCl Z.2.2.1 U ∧ va_D (fun _ => True) wc ∧ EM Z.2.2.2 ∧ Z.2.2.2 U
def nQ (Z : NZ) (wc : va_W) (sz : Nat) (K : va_W → Prop) : Array Value → State → Outcome → State → Prop := va_Qv (S := va_W) K (fun w1 t => va_P Z.2.1 vwCl w1 t.heap ∧ va_D (va_A wc sz) w1) (va_A wc sz)
/-- A CONTRACT OF A CONSTRUCTOR: begun in the world wc, it ends in a world of which K holds -/
def CN (Z : NZ) (y : MethodName) (ws : List Cond) (rm : Room) (mc ms : Nat) (As : List Value) (wc : va_W) (K : va_W → Prop) : Prop :=
  ∀ sz, Met Z.1 y ws rm (va_Pc As (nPre Z wc sz)) (nQ Z wc sz K) mc ms (va_A wc sz)
def qN (Z : NZ) (X : CX) (wc : va_W) (K : va_W → Prop) (mc ms : Nat) : State → Prop := match X with
  | (_, _, s, _, args, below, _, _, _) => MQ below (nQ Z wc s.heap.size K) args s mc ms (va_A wc s.heap.size)
def aN (X : CX) (wc : va_W) : Nat → Prop := match X with
  | (_, _, s, _, _, _, _, _, _) => va_A wc s.heap.size
section GNR
variable {Z : NZ} {rm : Room} {X : CX} {A : Nat → Prop} {Q : State → Prop} {nc ns pc : Nat} {L : List (Option Value)} {st : List Value} {ws : va_W} {cc : ByteArray} {Ts : List Cond} {own : String} {nL : Nat}


theorem n_iconst (B : AmbN Z rm X A cc Ts own nL) {z : Int} {v : Int32} (d : decode cc pc = .ok (.iconst z, 1)) (hv : Int32.ofInt z = v) (g : GN Z rm X A Q nc ns (pc + 1) (L) (.int v :: st) ws) : GN Z rm X A Q nc ns (pc) (L) (st) ws := by
  obtain ⟨p, e, s, m, args, below, meth, c, n⟩ := X
  obtain ⟨hx, hb, hml, rfl, hown, hts, hlk, hK, hM, hE, hA⟩ := B
  intro H locs ls hP hD hS hL
  exact lv_iconst hx hb d hv (g H locs ls hP hD hS hL)


theorem n_bipush (B : AmbN Z rm X A cc Ts own nL) {z : Int} {v : Int32} (d : decode cc pc = .ok (.bipush z, 2)) (hv : (Int8.ofInt z).toInt32 = v) (g : GN Z rm X A Q nc ns (pc + 2) (L) (.int v :: st) ws) : GN Z rm X A Q nc ns (pc) (L) (st) ws := by
  obtain ⟨p, e, s, m, args, below, meth, c, n⟩ := X
  obtain ⟨hx, hb, hml, rfl, hown, hts, hlk, hK, hM, hE, hA⟩ := B
  intro H locs ls hP hD hS hL
  exact lv_bipush hx hb d hv (g H locs ls hP hD hS hL)


theorem n_sipush (B : AmbN Z rm X A cc Ts own nL) {z : Int} {v : Int32} (d : decode cc pc = .ok (.sipush z, 3)) (hv : (Int16.ofInt z).toInt32 = v) (g : GN Z rm X A Q nc ns (pc + 3) (L) (.int v :: st) ws) : GN Z rm X A Q nc ns (pc) (L) (st) ws := by
  obtain ⟨p, e, s, m, args, below, meth, c, n⟩ := X
  obtain ⟨hx, hb, hml, rfl, hown, hts, hlk, hK, hM, hE, hA⟩ := B
  intro H locs ls hP hD hS hL
  exact lv_sipush hx hb d hv (g H locs ls hP hD hS hL)


theorem n_aload_n (B : AmbN Z rm X A cc Ts own nL) {k : Fin 4} {x : Nat} (d : decode cc pc = .ok (.aload_n k, 1)) (h : L[(k : Nat)]? = some (some (.ref x))) (g : GN Z rm X A Q nc ns (pc + 1) (L) (.ref x :: st) ws) : GN Z rm X A Q nc ns (pc) (L) (st) ws := by
  obtain ⟨p, e, s, m, args, below, meth, c, n⟩ := X
  obtain ⟨hx, hb, hml, rfl, hown, hts, hlk, hK, hM, hE, hA⟩ := B
  intro H locs ls hP hD hS hL
  exact lv_aload_n hx hb d rfl (hL.2.2 _ _ h) (g H locs ls hP hD hS hL)


theorem n_iload_n (B : AmbN Z rm X A cc Ts own nL) {k : Fin 4} {x : Int32} (d : decode cc pc = .ok (.iload_n k, 1)) (h : L[(k : Nat)]? = some (some (.int x))) (g : GN Z rm X A Q nc ns (pc + 1) (L) (.int x :: st) ws) : GN Z rm X A Q nc ns (pc) (L) (st) ws := by
  obtain ⟨p, e, s, m, args, below, meth, c, n⟩ := X
  obtain ⟨hx, hb, hml, rfl, hown, hts, hlk, hK, hM, hE, hA⟩ := B
  intro H locs ls hP hD hS hL
  exact lv_iload_n hx hb d rfl (hL.2.2 _ _ h) (g H locs ls hP hD hS hL)


theorem n_istore_n (B : AmbN Z rm X A cc Ts own nL) {k : Fin 4} {x : Int32} (d : decode cc pc = .ok (.istore_n k, 1)) (hn : (k : Nat) < nL) (h2 : gno2 L (k : Nat) = true) (g : GN Z rm X A Q nc ns (pc + 1) (L.set (k : Nat) (some (.int x))) (st) ws) : GN Z rm X A Q nc ns (pc) (L) (.int x :: st) ws := by
  obtain ⟨p, e, s, m, args, below, meth, c, n⟩ := X
  obtain ⟨hx, hb, hml, rfl, hown, hts, hlk, hK, hM, hE, hA⟩ := B
  intro H locs ls hP hD hS hL
  exact lv_istore_n hx hb d rfl (gL_store1 (v := .int x) hL hn) hn rfl (fun ls2 h9 => g H locs ls2 hP hD hS (gL_set h2 h9))


theorem n_iinc (B : AmbN Z rm X A cc Ts own nL) {k : Nat} {z : Int} {x c9 : Int32} (d : decode cc pc = .ok (.iinc k z, 3)) (h : L[k]? = some (some (.int x))) (hv : Int32.ofInt z = c9) (hn : k < nL) (h2 : gno2 L k = true) (g : GN Z rm X A Q nc ns (pc + 3) (L.set k (some (.int (x + c9)))) (st) ws) : GN Z rm X A Q nc ns (pc) (L) (st) ws := by
  obtain ⟨p, e, s, m, args, below, meth, c, n⟩ := X
  obtain ⟨hx, hb, hml, rfl, hown, hts, hlk, hK, hM, hE, hA⟩ := B
  intro H locs ls hP hD hS hL
  have hm : (k, Value.int x) ∈ (List.range L.length).filterMap (fun k => (L.getD k none).map (fun v => (k, v))) := by
    refine List.mem_filterMap.mpr ⟨k, ?_, ?_⟩
    · have := (List.getElem?_eq_some_iff.mp h).1
      simpa using this
    · rw [List.getD_eq_getElem?_getD, h]
      rfl
  obtain ⟨j, hj⟩ := List.getElem?_of_mem hm
  exact lv_iinc hx hb d (gL_store1 (v := .int (x + c9)) hL hn) hj (by rw [hv]) hn rfl (fun ls2 h9 => g H locs ls2 hP hD hS (gL_set h2 h9))


theorem n_dup (B : AmbN Z rm X A cc Ts own nL) {w : Value} (d : decode cc pc = .ok (.dup, 1)) (hc : w.category = 1) (g : GN Z rm X A Q nc ns (pc + 1) (L) (w :: w :: st) ws) : GN Z rm X A Q nc ns (pc) (L) (w :: st) ws := by
  obtain ⟨p, e, s, m, args, below, meth, c, n⟩ := X
  obtain ⟨hx, hb, hml, rfl, hown, hts, hlk, hK, hM, hE, hA⟩ := B
  intro H locs ls hP hD hS hL
  exact lv_dup hx hb d hc (g H locs ls hP hD hS hL)


theorem n_pop (B : AmbN Z rm X A cc Ts own nL) {w : Value} (d : decode cc pc = .ok (.pop, 1)) (hc : w.category = 1) (g : GN Z rm X A Q nc ns (pc + 1) (L) (st) ws) : GN Z rm X A Q nc ns (pc) (L) (w :: st) ws := by
  obtain ⟨p, e, s, m, args, below, meth, c, n⟩ := X
  obtain ⟨hx, hb, hml, rfl, hown, hts, hlk, hK, hM, hE, hA⟩ := B
  intro H locs ls hP hD hS hL
  exact lv_pop hx hb d hc (g H locs ls hP hD hS hL)


theorem n_goto (B : AmbN Z rm X A cc Ts own nL) {off : Int} {tgt : Nat} (d : decode cc pc = .ok (.goto off, 3)) (ht : (pc : Int) + off = (tgt : Int)) (g : GN Z rm X A Q nc ns (tgt) (L) (st) ws) : GN Z rm X A Q nc ns (pc) (L) (st) ws := by
  obtain ⟨p, e, s, m, args, below, meth, c, n⟩ := X
  obtain ⟨hx, hb, hml, rfl, hown, hts, hlk, hK, hM, hE, hA⟩ := B
  intro H locs ls hP hD hS hL
  exact lv_goto hx hb d ht (g H locs ls hP hD hS hL)


theorem n_icmp_ge (B : AmbN Z rm X A cc Ts own nL) {x y : Int32} {off : Int} {tgt : Nat} (d : decode cc pc = .ok (.if_icmp .ge off, 3)) (ht : (pc : Int) + off = (tgt : Int)) (g1 : y ≤ x → GN Z rm X A Q nc ns (tgt) (L) (st) ws) (g2 : ¬ y ≤ x → GN Z rm X A Q nc ns (pc + 3) (L) (st) ws) : GN Z rm X A Q nc ns (pc) (L) (.int y :: .int x :: st) ws := by
  obtain ⟨p, e, s, m, args, below, meth, c, n⟩ := X
  obtain ⟨hx, hb, hml, rfl, hown, hts, hlk, hK, hM, hE, hA⟩ := B
  intro H locs ls hP hD hS hL
  exact lv_icmp_ge hx hb d ht (fun h => g1 h H locs ls hP hD hS hL) (fun h => g2 h H locs ls hP hD hS hL)


theorem n_null (B : AmbN Z rm X A cc Ts own nL)  (d : decode cc pc = .ok (.aconst_null, 1)) (g : GN Z rm X A Q nc ns (pc + 1) L (.null :: st) ws) : GN Z rm X A Q nc ns pc L (st) ws := by
  obtain ⟨p, e, s, m, args, below, meth, c, n⟩ := X
  obtain ⟨hx, hb, hml, rfl, hown, hts, hlk, hK, hM, hE, hA⟩ := B
  intro H locs ls hP hD hS hL
  exact lv_null hx hb d (g H locs ls hP hD hS hL)

theorem n_put (B : AmbN Z rm X A cc Ts own nL) {ci idx k q0 N a : Nat} {C ref : String} {T : u_T} {ty0 : Nat → FieldType} {fs : List Value} {v : Value} {ty : FieldType} {ws2 : va_W} (q0e : ws[q0]? = some (a, .inr (ci, fs))) (d : decode cc pc = .ok (.putfield idx, 3)) (hin : ∀ w ∈ u_ws C T N, w ∈ Ts) (hty : ∀ k, k < N → parseFieldDescriptor (T k).2.2.1 = some (ty0 k)) (hnm : ∀ a, a < N → ∀ b, b < N → a ≠ b → (T a).2.1 ≠ (T b).2.1) (hc : vwCl[ci]? = some (C, T, N)) (hk : k < N) (hlink : Cond.fieldLink own idx ref (T k).2.1 (T k).2.2.1 ∈ Ts) (href : (T k).1 = ref) (hfin : (T k).2.2.2 = false) (hd : parseFieldDescriptor (T k).2.2.1 = some ty) (hn : narrow ty v = v) (hfit : fits ty v = true) (hl : k < fs.length) (hw : ws.set q0 (a, .inr (ci, fs.set k v)) = ws2) (g : GN Z rm X A Q nc ns (pc + 3) L st ws2) : GN Z rm X A Q nc ns pc L (v :: .ref a :: st) ws := by
  obtain ⟨p, e, s, m, args, below, meth, c, n⟩ := X
  obtain ⟨hx, hb, hml, rfl, hown, hts, hlk, hK, hM, hE, hA⟩ := B
  intro H locs ls hP hD hS hL
  subst hw
  exact va_put (D := Z.2.1) (ty := ty) (C := C) (T := T) (N := N) (ref := ref) hx hb hts hin ty0 hty hnm hown hK hP hD hS q0 q0e hc k hk (hts _ hlink) (fun x h9 => by rw [← href]; exact h9) hfin hd hn hfit hl d (fun H1 locs1 hP1 hD1 hS1 => g H1 locs1 ls hP1 hD1 hS1 hL)

theorem n_putF (B : AmbN Z rm X A cc Ts own nL) {ci idx k q0 N a : Nat} {C ref : String} {T : u_T} {ty0 : Nat → FieldType} {fs : List Value} {v : Value} {ty : FieldType} {ws2 : va_W} (hI : IN X) (q0e : ws[q0]? = some (a, .inr (ci, fs))) (d : decode cc pc = .ok (.putfield idx, 3)) (hin : ∀ w ∈ u_ws C T N, w ∈ Ts) (hty : ∀ k, k < N → parseFieldDescriptor (T k).2.2.1 = some (ty0 k)) (hnm : ∀ a, a < N → ∀ b, b < N → a ≠ b → (T a).2.1 ≠ (T b).2.1) (hc : vwCl[ci]? = some (C, T, N)) (hk : k < N) (hlink : Cond.fieldLink own idx ref (T k).2.1 (T k).2.2.1 ∈ Ts) (href : (T k).1 = ref) (hfin : (T k).2.2.2 = true) (hdecl : (T k).1 = own) (hd : parseFieldDescriptor (T k).2.2.1 = some ty) (hn : narrow ty v = v) (hfit : fits ty v = true) (hl : k < fs.length) (hw : ws.set q0 (a, .inr (ci, fs.set k v)) = ws2) (g : GN Z rm X A Q nc ns (pc + 3) L st ws2) : GN Z rm X A Q nc ns pc L (v :: .ref a :: st) ws := by
  obtain ⟨p, e, s, m, args, below, meth, c, n⟩ := X
  obtain ⟨hx, hb, hml, rfl, hown, hts, hlk, hK, hM, hE, hA⟩ := B
  intro H locs ls hP hD hS hL
  subst hw
  exact va_putF (D := Z.2.1) (ty := ty) (C := C) (T := T) (N := N) (ref := ref) hx hb hts hin ty0 hty hnm hown hK hP hD hS q0 q0e hc k hk (hts _ hlink) (fun x h9 => by rw [← href]; exact h9) hfin hI.1 hdecl hd hn hfit hl d (fun H1 locs1 hP1 hD1 hS1 => g H1 locs1 ls hP1 hD1 hS1 hL)

theorem n_get (B : AmbN Z rm X A cc Ts own nL) {ci idx k q0 N a : Nat} {C ref : String} {T : u_T} {fs : List Value} {v : Value} (q0e : ws[q0]? = some (a, .inr (ci, fs))) (d : decode cc pc = .ok (.getfield idx, 3)) (hin : ∀ w ∈ u_ws C T N, w ∈ Ts) (hc : vwCl[ci]? = some (C, T, N)) (hk : k < N) (hlink : Cond.fieldLink own idx ref (T k).2.1 (T k).2.2.1 ∈ Ts) (href : (T k).1 = ref) (hv : fs[k]? = some v) (g : GN Z rm X A Q nc ns (pc + 3) L (v :: st) ws) : GN Z rm X A Q nc ns pc L (.ref a :: st) ws := by
  obtain ⟨p, e, s, m, args, below, meth, c, n⟩ := X
  obtain ⟨hx, hb, hml, rfl, hown, hts, hlk, hK, hM, hE, hA⟩ := B
  intro H locs ls hP hD hS hL
  exact va_get (D := Z.2.1) (C := C) (T := T) (N := N) (ref := ref) hx hb hts hin hown hK hP q0 q0e hc k hk (hts _ hlink) (fun x h9 => by rw [← href]; exact h9) hv d (g H locs ls hP hD hS hL)

theorem n_new (B : AmbN Z rm X A cc Ts own nL) {ci idx N : Nat} {C : String} {T : u_T} {ty0 : Nat → FieldType} {fs : List Value} {nc2 ns2 : Nat} (d : decode cc pc = .ok (.new idx, 3)) (hin : ∀ w ∈ u_ws C T N, w ∈ Ts) (hty : ∀ k, k < N → parseFieldDescriptor (T k).2.2.1 = some (ty0 k)) (hw3 : Cond.classLink own idx C ∈ Ts ∧ Cond.instantiable C N ∈ Ts ∧ Cond.initialized C ∈ Ts) (hc : vwCl[ci]? = some (C, T, N)) (hfs : ∀ j, j < N → defaultValue (ty0 j) = vp_V fs j) (e1 : nc + 1 = nc2) (e2 : ns + N = ns2) (hr : nc2 ≤ rm.cells ∧ ns2 ≤ rm.slots) (g : ∀ q : Nat, GN Z rm X A Q nc2 ns2 (pc + 3) L (.ref q :: st) (ws ++ [(q, .inr (ci, fs))])) : GN Z rm X A Q nc ns pc L (st) ws := by
  obtain ⟨p, e, s, m, args, below, meth, c, n⟩ := X
  obtain ⟨hx, hb, hml, rfl, hown, hts, hlk, hK, hM, hE, hA⟩ := B
  intro H locs ls hP hD hS hL
  subst e1
  subst e2
  exact va_new (D := Z.2.1) (C := C) (T := T) (N := N) hx hb hts hin ty0 hty hown (hts _ hw3.1) (hts _ hw3.2.1) (hts _ hw3.2.2) hK hP hD hS hA hc hfs hr.1 hr.2 d (fun q H1 hP1 hD1 hS1 => g q H1 locs ls hP1 hD1 hS1 hL)

theorem n_newa (B : AmbN Z rm X A cc Ts own nL) {at9 : ArrayType} {ty : FieldType} {t0 N : Nat} {cT : ClassId} {n9 : Int32} {nc2 ns2 : Nat} (d : decode cc pc = .ok (.newarray at9, 2)) (hty : newarray.typeOf at9 = ty) (hty2 : ty = .int ∨ ty = .boolean) (hw3 : Cond.arrayClass ty ∈ Ts) (ht : Z.2.2.1[t0]? = some (cT, ty)) (hn : ¬ n9 < 0) (hN : n9.toNatClampNeg = N) (hb2 : N * componentBytes ty ≤ 536870912) (e1 : nc + 1 = nc2) (e2 : ns + N = ns2) (hr : nc2 ≤ rm.cells ∧ ns2 ≤ rm.slots) (g : ∀ q : Nat, GN Z rm X A Q nc2 ns2 (pc + 2) L (.ref q :: st) (ws ++ [(q, .inl (cT, (N, .inl (fun _ => 0))))])) : GN Z rm X A Q nc ns pc L (.int n9 :: st) ws := by
  obtain ⟨p, e, s, m, args, below, meth, c, n⟩ := X
  obtain ⟨hx, hb, hml, rfl, hown, hts, hlk, hK, hM, hE, hA⟩ := B
  intro H locs ls hP hD hS hL
  subst e1
  subst e2
  have hRA := (hK.2 t0 _ ht).2
  refine va_newa (D := Z.2.1) (a0 := (N, .inl (fun _ => 0))) (ty := ty) hx hb (by rw [hty]; exact hts _ hw3) hty hK hP hD hS hA (fun cA => by rcases hty2 with h | h <;> subst h <;> rfl) hn hN hb2 hr.1 hr.2 d (fun q cA H1 hK1 hP1 hD1 hS1 => ?_)
  have h2 := (hK1.2 Z.2.2.1.length (cA, ty) (by simp)).2
  have hc : cA = cT := by
    rcases hty2 with h | h <;> subst h <;> exact Option.some.inj (h2.symm.trans hRA)
  subst hc
  exact g q H1 locs ls hP1 hD1 hS1 hL

theorem n_newq (B : AmbN Z rm X A cc Ts own nL) {C : String} {t0 N idx : Nat} {cT : ClassId} {n9 : Int32} {nc2 ns2 : Nat} (d : decode cc pc = .ok (.anewarray idx, 3)) (hw3 : Cond.classLink own idx C ∈ Ts) (hover : ∀ U, Z.2.2.2 U → va_AO C U) (ht : Z.2.2.1[t0]? = some (cT, .object C)) (hn : ¬ n9 < 0) (hN : n9.toNatClampNeg = N) (hb2 : N * 4 ≤ 536870912) (e1 : nc + 1 = nc2) (e2 : ns + N = ns2) (hr : nc2 ≤ rm.cells ∧ ns2 ≤ rm.slots) (g : ∀ q : Nat, GN Z rm X A Q nc2 ns2 (pc + 3) L (.ref q :: st) (ws ++ [(q, .inl (cT, (N, .inr (.inr (.inr (.inr (fun _ => none)))))))])) : GN Z rm X A Q nc ns pc L (.int n9 :: st) ws := by
  obtain ⟨p, e, s, m, args, below, meth, c, n⟩ := X
  obtain ⟨hx, hb, hml, rfl, hown, hts, hlk, hK, hM, hE, hA⟩ := B
  intro H locs ls hP hD hS hL
  subst e1
  subst e2
  obtain ⟨kA, comp, k1, k2, k3, k4⟩ := (hK.2 t0 _ ht).2
  refine va_newq (D := Z.2.1) (C := C) hx hb hown (hts _ hw3) (hover _ hE) hK hP hD hS hA hn hN hb2 hr.1 hr.2 d (fun q cA H1 hK1 hP1 hD1 hS1 => ?_)
  obtain ⟨kA', comp', j1, j2, j3, j4⟩ := (hK1.2 Z.2.2.1.length (cA, .object C) (by simp)).2
  have hc : cA = cT := Option.some.inj (j4.symm.trans k4)
  subst hc
  exact g q H1 locs ls hP1 hD1 hS1 hL

theorem n_iast (B : AmbN Z rm X A cc Ts own nL) {q0 t0 n9 a : Nat} {cT : ClassId} {f : Nat → Int32} {i x : Int32} {ws2 : va_W} (d : decode cc pc = .ok (.iastore, 1)) (q0e : ws[q0]? = some (a, .inl (cT, n9, .inl f))) (ht : Z.2.2.1[t0]? = some (cT, .int)) (hin : vp_in i n9) (hw : ws.set q0 (a, .inl (cT, n9, .inl (upd f i.toNatClampNeg x))) = ws2) (g : GN Z rm X A Q nc ns (pc + 1) L st ws2) : GN Z rm X A Q nc ns pc L (.int x :: .int i :: .ref a :: st) ws := by
  obtain ⟨p, e, s, m, args, below, meth, c, n⟩ := X
  obtain ⟨hx, hb, hml, rfl, hown, hts, hlk, hK, hM, hE, hA⟩ := B
  intro H locs ls hP hD hS hL
  subst hw
  exact va_iast (D := Z.2.1) hx hb hK hP hD hS q0 t0 q0e ht hin d (fun H1 locs1 hP1 hD1 hS1 => g H1 locs1 ls hP1 hD1 hS1 hL)

theorem n_astq (B : AmbN Z rm X A cc Ts own nL) {q0 t0 n9 a qk ci v : Nat} {cT : ClassId} {f : Nat → Option Nat} {vs : List Value} {r : vw_C} {i : Int32} {ws2 : va_W} (d : decode cc pc = .ok (.aastore, 1)) (q0e : ws[q0]? = some (a, .inl (cT, n9, .inr (.inr (.inr (.inr f)))))) (ht : Z.2.2.1[t0]? = some (cT, .object r.1)) (hv : ws[qk]? = some (v, .inr (ci, vs))) (hc : vwCl[ci]? = some r) (hin : vp_in i n9) (hw : ws.set q0 (a, .inl (cT, n9, .inr (.inr (.inr (.inr (va_up f i.toNatClampNeg (some v))))))) = ws2) (g : GN Z rm X A Q nc ns (pc + 1) L st ws2) : GN Z rm X A Q nc ns pc L (.ref v :: .int i :: .ref a :: st) ws := by
  obtain ⟨p, e, s, m, args, below, meth, c, n⟩ := X
  obtain ⟨hx, hb, hml, rfl, hown, hts, hlk, hK, hM, hE, hA⟩ := B
  intro H locs ls hP hD hS hL
  subst hw
  exact va_astq (D := Z.2.1) hx hb hK hP hD hS q0 t0 qk ci q0e ht hv hc hin d (fun H1 locs1 hP1 hD1 hS1 => g H1 locs1 ls hP1 hD1 hS1 hL)

theorem n_aldq (B : AmbN Z rm X A cc Ts own nL) {q0 t0 n9 a v : Nat} {C : String} {cT : ClassId} {f : Nat → Option Nat} {i : Int32} (d : decode cc pc = .ok (.aaload, 1)) (q0e : ws[q0]? = some (a, .inl (cT, n9, .inr (.inr (.inr (.inr f)))))) (ht : Z.2.2.1[t0]? = some (cT, .object C)) (hin : vp_in i n9) (hf : f i.toNatClampNeg = some v) (g : GN Z rm X A Q nc ns (pc + 1) L (.ref v :: st) ws) : GN Z rm X A Q nc ns pc L (.int i :: .ref a :: st) ws := by
  obtain ⟨p, e, s, m, args, below, meth, c, n⟩ := X
  obtain ⟨hx, hb, hml, rfl, hown, hts, hlk, hK, hM, hE, hA⟩ := B
  intro H locs ls hP hD hS hL
  refine va_aldq (D := Z.2.1) hx hb hK hP q0 t0 q0e ht hin d ?_
  rw [hf]
  exact g H locs ls hP hD hS hL

theorem n_objI (B : AmbN Z rm X A cc Ts own nL) {idx : Nat} {a : Nat} (d : decode cc pc = .ok (.invokespecial idx, 3)) (hw3 : Cond.methodLink own idx objectInit ∈ Ts ∧ Cond.instanceMethod objectInit ∈ Ts ∧ Cond.code objectInit ⟨#[0xb1]⟩ 1 none ∈ Ts) (hf : 1 ≤ rm.frames ∧ (st.map fun v => v.category).sum + 12 ≤ rm.locals) (g : GN Z rm X A Q nc ns (pc + 3) L st ws) : GN Z rm X A Q nc ns pc L (.ref a :: st) ws := by
  obtain ⟨p, e, s, m, args, below, meth, c, n⟩ := X
  obtain ⟨hx, hb, hml, rfl, hown, hts, hlk, hK, hM, hE, hA⟩ := B
  intro H locs ls hP hD hS hL
  refine W.objInit hx hb hown (hts _ hw3.1) (hts _ hw3.2.1) (hts _ hw3.2.2) rfl (by rw [hml]; exact hL.1) rfl d hf.1 (by have := hf.2; show 2 * 0 + _ + 12 ≤ _; omega) ?_
  exact W.eq (g2 := F0 m (pc + 3) ls st) rfl (g H locs ls hP hD hS hL)

theorem nsub {isC : List Nat} {ws wc : va_W} (h : isC.map (fun i => ws[i]?) = wc.map some) : isC.filterMap (fun i => ws[i]?) = wc := by
  induction isC generalizing wc with
  | nil =>
    cases wc with
    | nil => rfl
    | cons a b => cases h
  | cons i r ih =>
    cases wc with
    | nil => cases h
    | cons a b =>
      simp only [List.map_cons, List.cons.injEq] at h
      rw [List.filterMap_cons, h.1]
      exact congrArg (a :: ·) (ih h.2)

theorem n_callN (B : AmbN Z rm X A cc Ts own nL) {y : MethodName} {bytes : ByteArray} {maxL idx mc ms : Nat} {rmc : Room} {a : Nat} {wc wr : va_W} {ws2 : List Cond} {nc2 ns2 : Nat} {host : String} (d : decode cc pc = .ok (.invokespecial idx, 3)) (hg : GoodIn Ts (Cond.code y bytes maxL none :: ws2)) (hd : y.cls ≠ "java/lang/invoke/MethodHandle" ∧ y.cls ≠ "java/lang/invoke/VarHandle" ∧ (parseMethodDescriptor y.desc).map (fun d => d.parameters.length) = some 0) (hnm : y.name = "<init>") (hlk9 : ∀ U, Z.2.2.2 U → va_Nw (.methodLinkNest own idx y host) U) (hini : Cond.initialized y.cls ∈ Ts ∧ Cond.instanceMethod y ∈ Ts) (hrm : rmc.frames + 1 ≤ rm.frames ∧ 8 + (maxL + 11) + rmc.locals ≤ rm.locals) (hrc : rmc.cells = mc ∧ rmc.slots = ms) (hcat : (st.map fun v => v.category).sum ≤ 8) (isC isR : List Nat) (hC : isC.map (fun i => ws[i]?) = wc.map some) (hR : isR.map (fun i => ws[i]?) = wr.map some) (hndC : va_nd isC = true) (hndR : va_nd isR = true) (hdis : ∀ i ∈ isR, i ∉ isC) (e1 : nc + mc = nc2) (e2 : ns + ms = ns2) (hr : nc2 ≤ rm.cells ∧ ns2 ≤ rm.slots) (hc : CN Z y (Cond.code y bytes maxL none :: ws2) rmc mc ms [.ref a] wc (fun w1 => GN Z rm X A Q nc2 ns2 (pc + 3) L st (wr ++ w1))) : GN Z rm X A Q nc ns pc L (.ref a :: st) ws := by
  obtain ⟨p, e, s, m, args, below, meth, c, n⟩ := X
  obtain ⟨hx, hb, hml, rfl, hown, hts, hlk, hK, hM, hE, hA⟩ := B
  intro H locs ls hP hD hS hL
  subst e1
  subst e2
  have hPc := hP.sub (ws' := wc) isC (nsub hC)
  have hDc := hD.sub (ws' := wc) isC hndC hC
  have hFc := va_free (wc := wc) hD hS hA isC hC
  refine va_callv (S := va_W) (va_runIN (As := []) (rest := st) (Ts := Ts) (own := own) ⟨hx, hb, hml, hown, hts⟩ (hc H.size) ⟨va_cnB 0 hts hg rfl hrc.1 hrc.2 (hlk9 _ hE) (hts _ hini.1) hd hrm, hnm, hts _ hini.2⟩ ⟨fun a9 U g9 mk q => ?_, fun U hU hW => ⟨rfl, by rw [hU], by rw [hU]; exact hPc, va_K.moved hW.alike hK, hDc.weaken (fun _ _ _ _ => trivial), hM, hM.1 _ _ hW hE⟩⟩ rfl rfl hL.1 rfl (lv_room hcat) d ⟨hr.1, hr.2⟩) hS (fun q _ h => hFc q h) hFc (fun w1 t H1 locs1 ht hvm hw hB hz1 hk1 hS1 => ?_)
  · obtain ⟨q0, q1, q2, q3, q4, q5, q6⟩ := q
    exact ⟨q0, q1, q2, va_K.moved (u := U) (U := U.calling g9 mk a9) (Vm.Alike.refl U.vm) q3, q4, q5, q5.2 U _ rfl q6⟩
  · obtain ⟨hP1, hD1⟩ := hB
    rw [ht] at hP1
    obtain ⟨hP2, hD2⟩ := va_join hP hD isC isR hC hR hndR hdis hk1 hFc hP1 hD1
    exact hw H1 locs1 ls hP2 hD2 hS1 hL

/-- A CONTRACT OUT OF A WALK from the constructor's entry -/
theorem CN.of {y : MethodName} {wds ws2 : List Cond} {As : List Value} {wc : va_W} {K : va_W → Prop} {mc ms : Nat} (hy : plainName y.cls = true) (hi : y.name = "<init>") (hw : wds = Cond.code y cc nL none :: ws2) (ha : (lg_sl As).length ≤ nL)
    (body : ∀ X : CX, AmbN Z rm X (aN X wc) cc wds y.cls nL → IN X → GN Z rm X (aN X wc) (qN Z X wc K mc ms) 0 0 0 (gargs As ++ List.replicate (nL - (lg_sl As).length) none) [] wc) : CN Z y wds rm mc ms As wc K := by
  intro sz
  refine Met.ofW (cc := cc) (maxL := nL) (ret := none) hy hw ?_
  intro p e s m args below meth c s₁ B hml hv
  obtain ⟨rfl, hsz, hP, hK, hD, hM, hE⟩ := hv
  subst hsz
  have hown : s.vm.findClass y.cls = some m.cls := findClass_of_methodNamed B.named
  have hin : meth.name = "<init>" := by rw [← hi]; exact (name_of_methodNamed B.named B.method).1
  have hl := lv_entry As (n := nL) ha
  rw [lg_entry_eq]
  generalize (lg_sl As ++ List.replicate (nL - (lg_sl As).length) Slot.unset).toArray = ls at hl ⊢
  have hb := body (p, e, s, m, As.toArray, below, meth, c, nL) ⟨B.exec, B.bytes, hml, rfl, hown, atoms_spec (ws := wds) B.pre, B.notSynchronized, hK, hM, hE, fun q h => Or.inr h⟩ ⟨hin, B.returns⟩
  exact hb s.heap [] ls hP hD.self va_S.rf ⟨hl.1, hl.2.1, fun k v h => hl.2.2 (k, v) (gargs_in As _ 0 k v h)⟩
theorem n_ret {wc : va_W} {K : va_W → Prop} {mc ms : Nat} (B : AmbN Z rm X (aN X wc) cc Ts own nL) (hI : IN X) (d : decode cc pc = .ok (.return_, 1)) (h1 : nc = mc) (h2 : ns = ms) (g : K ws) : GN Z rm X (aN X wc) (qN Z X wc K mc ms) nc ns pc L [] ws := by
  obtain ⟨p, e, s, m, args, below, meth, c, n⟩ := X
  obtain ⟨hx, hb, hml, rfl, hown, hts, hlk, hK, hM, hE, hA⟩ := B
  subst h1
  subst h2
  intro H locs ls hP hD hS hL
  exact W.vret hx hb hI.2 (fun t ht hW => ⟨⟨ws, rfl, g, by rw [ht]; exact hP, hD⟩, hS.F ht⟩) hS.2.2 d hlk
/-- a room for a constructor -/
def rmn (h mc ms : Nat) : Room := { frames := h, cells := mc, slots := ms, locals := 48 * h }

end GNR
