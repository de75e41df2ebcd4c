/-! more rules of the frame over a list of cells -/
section GNS
variable {Z : NZ} {rm : Room} {X : CX} {A : Nat → Prop} {Q : State → Prop} {nc ns pc : Nat} {L : List (Option Value)} {st : List Value} {ws : va_W} {cc : ByteArray} {Ts : List Cond} {own : String} {nL : Nat}
theorem n_iincv (B : AmbN Z rm X A cc Ts own nL) {k : Nat} {z : Int} {x c9 y : Int32} (d : decode cc pc = .ok (.iinc k z, 3)) (h : L[k]? = some (some (.int x))) (hv : Int32.ofInt z = c9) (hn : k < nL) (h2 : gno2 L k = true) (e : x + c9 = y) (g : GN Z rm X A Q nc ns (pc + 3) (L.set k (some (.int y))) st ws) : GN Z rm X A Q nc ns pc L st ws := by
  subst e
  exact n_iinc B d h hv hn h2 g
theorem n_same {ws2 : va_W} {L2 : List (Option Value)} {nc2 ns2 : Nat} (h : ws = ws2) (hl : L = L2) (e1 : nc = nc2) (e2 : ns = ns2) (g : GN Z rm X A Q nc2 ns2 pc L2 st ws2) : GN Z rm X A Q nc ns pc L st ws := by
  subst h
  subst hl
  subst e1
  subst e2
  exact g
/-- the cells in another order -/
theorem n_perm (isC : List Nat) {ws2 : va_W} (hC : isC.map (fun i => ws[i]?) = ws2.map some) (hn : va_nd isC = true) (g : GN Z rm X A Q nc ns pc L st ws2) : GN Z rm X A Q nc ns pc L st ws := by
  obtain ⟨p, e, s, m, args, below, meth, c, n⟩ := X
  exact fun H locs ls hP hD hS hL => g H locs ls (hP.sub isC (nsub hC)) (hD.sub isC hn hC) hS hL
/-- an array of references by what stands in it -/
theorem n_swapq {k q n9 : Nat} {cT : ClassId} {f f2 : Nat → Option Nat} {ws2 : va_W} (h : ws[k]? = some (q, .inl (cT, (n9, .inr (.inr (.inr (.inr f))))))) (hf : ∀ j, j < n9 → f j = f2 j) (hw : ws.set k (q, .inl (cT, (n9, .inr (.inr (.inr (.inr f2)))))) = ws2) (g : GN Z rm X A Q nc ns pc L st ws2) : GN Z rm X A Q nc ns pc L st ws := by
  subst hw
  obtain ⟨p, e, s, m, args, below, meth, c, n⟩ := X
  intro H locs ls hP hD hS hL
  refine g H locs ls ?_ (hD.set h) hS hL
  refine hP.set hD h ?_ (fun _ _ => rfl)
  have h1 := hP k _ h
  show H[q]? = some (vp_cell _ _)
  have h1 : H[q]? = some (vp_cell _ _) := h1
  rw [h1, vp_cell_q, vp_cell_q]
  unfold arrV
  congr 2
  apply Array.ext
  · simp
  · intro i h2 h3
    simp only [Array.size_ofFn] at h2
    simp [hf i h2]
/-- an array of numbers by what stands in it -/
theorem n_swapi {k q n9 : Nat} {cT : ClassId} {f f2 : Nat → Int32} {ws2 : va_W} (h : ws[k]? = some (q, .inl (cT, (n9, .inl f)))) (hf : ∀ j, j < n9 → f j = f2 j) (hw : ws.set k (q, .inl (cT, (n9, .inl f2))) = ws2) (g : GN Z rm X A Q nc ns pc L st ws2) : GN Z rm X A Q nc ns pc L st ws := by
  subst hw
  obtain ⟨p, e, s, m, args, below, meth, c, n⟩ := X
  intro H locs ls hP hD hS hL
  refine g H locs ls ?_ (hD.set h) hS hL
  refine hP.set hD h ?_ (fun _ _ => rfl)
  have h1 : H[q]? = some (vp_cell _ _) := hP k _ h
  show H[q]? = some (vp_cell _ _)
  rw [h1, vp_cell_i, vp_cell_i]
  unfold arrV
  congr 2
  apply Array.ext
  · simp
  · intro i h2 h3
    simp only [Array.size_ofFn] at h2
    simp [hf i h2]
theorem gws_J {ly : Lay} {Z9 : LZ} {ad : Nat → Nat} {τ : St} {A : Nat → Prop} (h : va_D A (gws ly Z9 ad τ)) : gJ ad ly.2 := fun i j hi hj e => h.1 i j _ _ (gws_at hi) (gws_at hj) e
theorem gws_A {ly : Lay} {Z9 : LZ} {ad : Nat → Nat} {τ : St} {sz q : Nat} : va_A (gws ly Z9 ad τ) sz q ↔ gA ad ly.2 sz q := by
  constructor
  · rintro (⟨k, e, h⟩ | h)
    · have hk : k < ly.2 := by
        have := (List.getElem?_eq_some_iff.mp h).1
        simpa [gws] using this
      rw [gws_at hk] at h
      cases h
      exact Or.inl ⟨k, hk, rfl⟩
    · exact Or.inr h
  · rintro (⟨k, hk, h⟩ | h)
    · exact Or.inl ⟨k, _, by rw [gws_at hk, h]⟩
    · exact Or.inr h
/-- a call of a method whose contract is over a layout, when the world is one of that layout -/
theorem n_callVv (B : AmbN Z rm X A cc Ts own nL) {ly : Lay} {Z9 : LZ} {ad : Nat → Nat} {τ : St} {y : MethodName} {wsc ws2 : List Cond} {rmc : Room} {bytes : ByteArray} {maxL idx np : Nat} {ret2 : Option FieldType} {As : List Value} {C : String} {o : Nat} {stk : List Value} (hZ : Z9.1 = Z.1 ∧ Z9.2.1 = Z.2.1) (hE9 : Z9.2.2.2 = fun _ _ _ => True) (hK9 : ∀ U, va_K Z.2.1 vwCl Z.2.2.1 U → gK ly Z9 U) (d : decode cc pc = .ok (.invokevirtual idx, 3)) (hg : GoodIn Ts (wsV own idx C y wsc)) (hst : stk = As.reverse ++ .ref (ad o) :: st) (hd : y.cls = C ∧ y.cls ≠ "java/lang/invoke/MethodHandle" ∧ y.cls ≠ "java/lang/invoke/VarHandle" ∧ (parseMethodDescriptor y.desc).map (fun d => d.parameters.length) = some np) (hrm : rmc.frames + 1 ≤ rm.frames ∧ 8 + (maxL + 11) + rmc.locals ≤ rm.locals) (hrc : rmc.cells = 0 ∧ rmc.slots = 0) (hw : wsc = Cond.code y bytes maxL ret2 :: ws2) (hn : As.length = np) (hcat : (st.map fun v => v.category).sum ≤ 8) (hrecv : ∃ (ci : Nat) (r : vw_C) (ks : List Nat), o < ly.2 ∧ ly.1 o = .inl (ci, ks) ∧ vwCl[ci]? = some r ∧ r.1 = C) (hr : nc ≤ rm.cells ∧ ns ≤ rm.slots) (hws : ws = gws ly Z9 ad τ)
    (hc : CC ly Z9 ad y wsc rmc (.ref (ad o) :: As) τ (rV (fun τ' => GN Z rm X A Q nc ns (pc + 3) L st (gws ly Z9 ad τ')))) : GN Z rm X A Q nc ns pc L stk ws := by
  obtain ⟨p, e, s, m, args, below, meth, c, n⟩ := X
  obtain ⟨hx, hb, hml, rfl, hown, hts, hlk, hK, hM, hE, hA⟩ := B
  obtain ⟨l9, D9, ar9, E9⟩ := Z9
  obtain ⟨hz1, hz2⟩ := hZ
  simp only at hz1 hz2 hE9
  subst hz1
  subst hz2
  subst hE9
  subst hws
  intro H locs ls hP hD hS hL
  have hK1 := hK9 _ hK
  have hJ := gws_J hD
  have hF : ∀ q, gA ad ly.2 H.size q → A q := fun q h => by
    rcases h with ⟨k, hk, h⟩ | h
    · rw [h]
      exact hD.2 k _ (gws_at hk)
    · exact hA q (Nat.le_trans hS.1 h)
  refine va_callg (Qc := fun r t => ∃ τ' : St, (rV (fun τ' => GN Z rm (p, e, s, m, args, below, meth, c, n) A Q nc ns (pc + 3) L st (gws ly (Z.1, (Z.2.1, (ar9, fun _ _ _ => True))) ad τ'))) r τ' ∧ va_P Z.2.1 vwCl (gws ly (Z.1, (Z.2.1, (ar9, fun _ _ _ => True))) ad τ') t.heap ∧ gK ly (Z.1, (Z.2.1, (ar9, fun _ _ _ => True))) t) (va_runV (As := As) (rest := st) (Ts := Ts) (own := own) ⟨hx, hb, hml, hown, hts⟩ (hc H.size) (cwV np hts hg hw hrc.1 hrc.2 hd hrm) ⟨gPre_blind EOk_true, ?_, fun U hU hW => ⟨rfl, by rw [hU], by rw [hU]; exact hP, hK1.moved hW.alike, hJ, EOk_true, trivial⟩⟩ rfl hn hL.1 hst (lv_room hcat) d ⟨hr.1, hr.2⟩) hS (fun q _ h => hF q h) (fun q h => hF q h) (fun r t H1 locs1 ht hvm hq hS1 => ?_)
  · obtain ⟨ci, r, ks, ho, hl, hcl, hC⟩ := hrecv
    have hat : (gws ly (Z.1, (Z.2.1, (ar9, fun _ _ _ => True))) ad τ)[o]? = some (ad o, .inr (ci, gfs ad τ o ks)) := by rw [gws_at ho, hl]; rfl
    rw [← hC]
    exact va_recv hK hP hcl hat
  obtain ⟨τ', ⟨rfl, hk⟩, hP1, hK1⟩ := hq
  rw [ht] at hP1
  exact hk H1 locs1 ls hP1 (gws_D hJ (fun o ho => hF _ (gA_in ho))) hS1 hL
end GNS
theorem inw {y : MethodName} {c : ByteArray} {n : Nat} {r : Option FieldType} (h5 : Cond.code y c n r ∈ wsL_law) : ∀ w ∈ wq y c n r, w ∈ wsL_law := fun w hw => by
  rcases List.mem_cons.mp hw with rfl | h
  · exact h5
  · exact h
theorem hd_X0_init : yX0_init.cls ≠ "java/lang/invoke/MethodHandle" ∧ yX0_init.cls ≠ "java/lang/invoke/VarHandle" ∧ (parseMethodDescriptor yX0_init.desc).map (fun d => d.parameters.length) = some 0 := by decide +kernel
theorem hd_X1_init : yX1_init.cls ≠ "java/lang/invoke/MethodHandle" ∧ yX1_init.cls ≠ "java/lang/invoke/VarHandle" ∧ (parseMethodDescriptor yX1_init.desc).map (fun d => d.parameters.length) = some 0 := by decide +kernel
theorem hd_X2_init : yX2_init.cls ≠ "java/lang/invoke/MethodHandle" ∧ yX2_init.cls ≠ "java/lang/invoke/VarHandle" ∧ (parseMethodDescriptor yX2_init.desc).map (fun d => d.parameters.length) = some 0 := by decide +kernel
theorem hd_X3_init : yX3_init.cls ≠ "java/lang/invoke/MethodHandle" ∧ yX3_init.cls ≠ "java/lang/invoke/VarHandle" ∧ (parseMethodDescriptor yX3_init.desc).map (fun d => d.parameters.length) = some 0 := by decide +kernel
theorem hd_X4_init : yX4_init.cls ≠ "java/lang/invoke/MethodHandle" ∧ yX4_init.cls ≠ "java/lang/invoke/VarHandle" ∧ (parseMethodDescriptor yX4_init.desc).map (fun d => d.parameters.length) = some 0 := by decide +kernel
theorem hd_X5_init : yX5_init.cls ≠ "java/lang/invoke/MethodHandle" ∧ yX5_init.cls ≠ "java/lang/invoke/VarHandle" ∧ (parseMethodDescriptor yX5_init.desc).map (fun d => d.parameters.length) = some 0 := by decide +kernel
theorem hd_X6_init : yX6_init.cls ≠ "java/lang/invoke/MethodHandle" ∧ yX6_init.cls ≠ "java/lang/invoke/VarHandle" ∧ (parseMethodDescriptor yX6_init.desc).map (fun d => d.parameters.length) = some 0 := by decide +kernel
theorem X5_fill {Z : NZ} {rm : Room} {X : CX} {A : Nat → Prop} {Q : State → Prop} {nc ns : Nat} {cI cZ cU cT cS : ClassId} (hT : Z.2.2.1 = [(cI, .int), (cZ, .boolean), (cU, .object RX4), (cT, .object RX3), (cS, .object RX2)]) (B : AmbN Z rm X A cX5_init wsX5_init RX5 2) {fs : List Value} {a q1 k1 : Nat} (hk : k1 ≠ 0) (hf : fs[0]? = some (.ref q1)) (n : Nat) : ∀ (i : Nat) (f : Nat → Int32) (ws : va_W), i + n = 30 → ws[0]? = some (a, .inr (5, fs)) → ws[k1]? = some (q1, .inl (cI, (30, .inl f))) → GN Z rm X A Q nc ns 153 [some (.ref a), some (.int (nI 30))] [] (ws.set k1 (q1, .inl (cI, (30, .inl (fun j => if i ≤ j ∧ j < 30 then 5 else f j))))) → GN Z rm X A Q nc ns 134 [some (.ref a), some (.int (nI i))] [] ws := by
  induction n with
  | zero =>
    intro i f ws hi h0 h1 g
    obtain rfl : i = 30 := by omega
    refine n_iload_n B dX5_init_134 rfl ?_
    refine n_bipush (v := (30)) B dX5_init_135 (by decide) ?_
    refine n_icmp_ge B dX5_init_137 rfl (fun _ => ?_) (fun h => absurd h (by decide))
    have e : ws.set k1 (q1, .inl (cI, (30, .inl (fun j => if 30 ≤ j ∧ j < 30 then 5 else f j)))) = ws := by
      have e2 : (fun j => if 30 ≤ j ∧ j < 30 then (5 : Int32) else f j) = f := funext fun j => if_neg (by omega)
      rw [e2]
      obtain ⟨hl, he⟩ := List.getElem?_eq_some_iff.mp h1
      rw [← he]
      exact List.set_getElem_self hl
    rw [e] at g
    exact g
  | succ n ih =>
    intro i f ws hi h0 h1 g
    refine n_iload_n B dX5_init_134 rfl ?_
    refine n_bipush (v := (30)) B dX5_init_135 (by decide) ?_
    refine n_icmp_ge B dX5_init_137 rfl (fun h => absurd h (by rw [i_le, i_n (by omega)]; show ¬ (30 : Int) ≤ _; omega)) (fun _ => ?_)
    refine n_aload_n B dX5_init_140 rfl ?_
    refine n_get (q0 := 0) (k := 0) (ci := 5) (C := RX5) (T := TX5) (N := 16) B h0 dX5_init_141 (inq inlX5) rfl (by decide) (mq f_X5_9) rfl hf ?_
    refine n_iload_n B dX5_init_144 rfl ?_
    refine n_iconst (v := (5)) B dX5_init_145 (by decide) ?_
    refine n_iast (q0 := k1) (t0 := 0) (cT := cI) (n9 := 30) (f := f) B dX5_init_146 h1 (by rw [hT]; rfl) (i_vp (by rw [i_n (by omega)]; omega) (by rw [i_n (by omega)]; omega)) rfl ?_
    refine n_iincv (c9 := (1)) (y := nI (i + 1)) B dX5_init_147 rfl (by decide) (by decide) rfl (by rw [i_eq, i_add (by rw [i_n (by omega)]; show (-2147483648 : Int) ≤ _ + 1; omega) (by rw [i_n (by omega)]; show (_ + 1 : Int) < _; omega), i_n (by omega), i_n (by omega)]; rfl) ?_
    refine n_goto B dX5_init_150 rfl ?_
    have hl := (List.getElem?_eq_some_iff.mp h1).1
    refine ih (i + 1) (upd f (nI i).toNatClampNeg 5) _ (by omega) (by rw [List.getElem?_set_ne hk]; exact h0) (by rw [List.getElem?_set_self hl]) ?_
    rw [List.set_set]
    have e : (fun j => if i + 1 ≤ j ∧ j < 30 then (5 : Int32) else upd f (nI i).toNatClampNeg 5 j) = (fun j => if i ≤ j ∧ j < 30 then 5 else f j) := by
      funext j
      rw [i_cl (by omega)]
      unfold upd
      by_cases h9 : j = i
      · subst h9
        rw [if_neg (by omega), if_pos rfl, if_pos (by omega)]
      · rw [if_neg h9]
        by_cases h8 : i ≤ j ∧ j < 30
        · rw [if_pos (by omega), if_pos h8]
        · rw [if_neg (by omega), if_neg h8]
    rw [e]
    exact g
theorem X6_fill {Z : NZ} {rm : Room} {X : CX} {A : Nat → Prop} {Q : State → Prop} {nc ns : Nat} {cI cZ cU cT cS : ClassId} (hT : Z.2.2.1 = [(cI, .int), (cZ, .boolean), (cU, .object RX4), (cT, .object RX3), (cS, .object RX2)]) (B : AmbN Z rm X A cX6_init wsX6_init RX6 2) {fs : List Value} {a q1 k1 : Nat} (hk : k1 ≠ 0) (hf : fs[8]? = some (.ref q1)) (n : Nat) : ∀ (i : Nat) (f : Nat → Int32) (ws : va_W), i + n = 30 → ws[0]? = some (a, .inr (6, fs)) → ws[k1]? = some (q1, .inl (cI, (30, .inl f))) → GN Z rm X A Q nc ns 152 [some (.ref a), some (.int (nI 30))] [] (ws.set k1 (q1, .inl (cI, (30, .inl (fun j => if i ≤ j ∧ j < 30 then 5 else f j))))) → GN Z rm X A Q nc ns 133 [some (.ref a), some (.int (nI i))] [] ws := by
  induction n with
  | zero =>
    intro i f ws hi h0 h1 g
    obtain rfl : i = 30 := by omega
    refine n_iload_n B dX6_init_133 rfl ?_
    refine n_bipush (v := (30)) B dX6_init_134 (by decide) ?_
    refine n_icmp_ge B dX6_init_136 rfl (fun _ => ?_) (fun h => absurd h (by decide))
    have e : ws.set k1 (q1, .inl (cI, (30, .inl (fun j => if 30 ≤ j ∧ j < 30 then 5 else f j)))) = ws := by
      have e2 : (fun j => if 30 ≤ j ∧ j < 30 then (5 : Int32) else f j) = f := funext fun j => if_neg (by omega)
      rw [e2]
      obtain ⟨hl, he⟩ := List.getElem?_eq_some_iff.mp h1
      rw [← he]
      exact List.set_getElem_self hl
    rw [e] at g
    exact g
  | succ n ih =>
    intro i f ws hi h0 h1 g
    refine n_iload_n B dX6_init_133 rfl ?_
    refine n_bipush (v := (30)) B dX6_init_134 (by decide) ?_
    refine n_icmp_ge B dX6_init_136 rfl (fun h => absurd h (by rw [i_le, i_n (by omega)]; show ¬ (30 : Int) ≤ _; omega)) (fun _ => ?_)
    refine n_aload_n B dX6_init_139 rfl ?_
    refine n_get (q0 := 0) (k := 8) (ci := 6) (C := RX6) (T := TX6) (N := 42) B h0 dX6_init_140 (inq inlX6) rfl (by decide) (mq f_X6_23) rfl hf ?_
    refine n_iload_n B dX6_init_143 rfl ?_
    refine n_iconst (v := (5)) B dX6_init_144 (by decide) ?_
    refine n_iast (q0 := k1) (t0 := 0) (cT := cI) (n9 := 30) (f := f) B dX6_init_145 h1 (by rw [hT]; rfl) (i_vp (by rw [i_n (by omega)]; omega) (by rw [i_n (by omega)]; omega)) rfl ?_
    refine n_iincv (c9 := (1)) (y := nI (i + 1)) B dX6_init_146 rfl (by decide) (by decide) rfl (by rw [i_eq, i_add (by rw [i_n (by omega)]; show (-2147483648 : Int) ≤ _ + 1; omega) (by rw [i_n (by omega)]; show (_ + 1 : Int) < _; omega), i_n (by omega), i_n (by omega)]; rfl) ?_
    refine n_goto B dX6_init_149 rfl ?_
    have hl := (List.getElem?_eq_some_iff.mp h1).1
    refine ih (i + 1) (upd f (nI i).toNatClampNeg 5) _ (by omega) (by rw [List.getElem?_set_ne hk]; exact h0) (by rw [List.getElem?_set_self hl]) ?_
    rw [List.set_set]
    have e : (fun j => if i + 1 ≤ j ∧ j < 30 then (5 : Int32) else upd f (nI i).toNatClampNeg 5 j) = (fun j => if i ≤ j ∧ j < 30 then 5 else f j) := by
      funext j
      rw [i_cl (by omega)]
      unfold upd
      by_cases h9 : j = i
      · subst h9
        rw [if_neg (by omega), if_pos rfl, if_pos (by omega)]
      · rw [if_neg h9]
        by_cases h8 : i ≤ j ∧ j < 30
        · rw [if_pos (by omega), if_pos h8]
        · rw [if_neg (by omega), if_neg h8]
    rw [e]
    exact g
