/-! two worlds in one list: a call on one of them *the law's frame* -/
theorem va_callg2 {p : Program} {l : Launch} {e : Env} {R : Room} {s : State} {m : MethodId} {args : Array Value} {below : List Frame} {meth : Method} {c : Code} {H : Heap} {locs : List Loc} {cells slots : Nat} {Q : State → Prop} {pc : Nat} {ls : Array Slot} {rest st0 : List Value} {A0 A1 : Nat → Prop} {H0 : Heap} {free : Addr → Prop} {Qc : Option Value → State → Prop}
    (hr : va_Run p l e R s m args below meth c H locs cells slots 0 0 (F0 m pc ls st0) rest (fun st oc t => (∃ r, oc = .returned r ∧ Qc r t) ∧ va_F A1 st t) free) (hS : va_S A0 H0 H locs) (hA : ∀ q, q < H.size → A1 q → A0 q) (hf : ∀ q, free q → A0 q)
    (kk : ∀ (r : Option Value) (t : State) (H1 : Heap) (locs1 : List Loc), t.heap = H1 → s.vm.Alike t.vm → Qc r t → (∀ q : Nat, q < H.size → ¬ A1 q → H1[q]? = H[q]?) → va_S A0 H0 H1 locs1 → W p l e R s m args below meth c H1 locs1 cells slots Q (F0 m (pc + 3) ls (r.toList ++ rest))) : W p l e R s m args below meth c H locs cells slots Q (F0 m pc ls st0) := by
  intro T hT X
  obtain ⟨v, st₀, t, T', L, h0, X', hL, e1, e2, ⟨⟨r, hv, hq⟩, hz, hk⟩, st⟩ := hr T hT X
  cases hv
  rw [h0] at hz hk
  obtain ⟨t2, a1, b1⟩ := kk v t T'.heap (locs ++ L) e1.symm (by rw [← e2]; exact X'.warmed.alike) hq (fun q h1 h2 => by rw [e1]; exact hk q h1 h2)
    ⟨Nat.le_trans hS.1 (by rw [e1]; exact hz), fun q h1 h2 => by rw [e1, hk q (Nat.lt_of_lt_of_le h1 hS.1) (fun z => h2 (hA q (Nat.lt_of_lt_of_le h1 hS.1) z))]; exact hS.2.1 q h1 h2, fun q hq => by
      rcases List.mem_append.mp hq with h | h
      · exact hS.2.2 q h
      · exact hf _ (hL q h)⟩ T' rfl X'
  exact ⟨t2, st t2 a1, b1⟩
/-- what else is known of the heap held when the law began -/
def eN (X : CX) (E : (Nat → Prop) → State → Heap → Prop) (A : Nat → Prop) : Prop := match X with
  | (_, _, s, _, _, _, _, _, _) => E A s s.heap
section GNL
variable {Z : NZ} {rm : Room} {X : CX} {A : Nat → Prop} {Q : State → Prop} {nc ns pc : Nat} {L : List (Option Value)} {st : List Value} {ws : va_W} {cc : ByteArray} {Ts : List Cond} {own : String} {nL : Nat}
theorem va_P_app {D : va_G} {cl : List vw_C} {u w : va_W} {H : Heap} : va_P D cl (u ++ w) H ↔ va_P D cl u H ∧ va_P D cl w H := by
  constructor
  · intro h
    refine ⟨fun k q hk => ?_, fun k q hk => ?_⟩
    · have hl := (List.getElem?_eq_some_iff.mp hk).1
      exact h k q (by rw [List.getElem?_append_left hl]; exact hk)
    · exact h (u.length + k) q (by rw [List.getElem?_append_right (by omega), show u.length + k - u.length = k by omega]; exact hk)
  · exact fun h => h.1.app h.2
theorem va_D_app {A : Nat → Prop} {u w : va_W} : va_D A (u ++ w) ↔ va_D A u ∧ va_D A w ∧ ∀ (i j : Nat) (p q : Nat × va_E), u[i]? = some p → w[j]? = some q → p.1 ≠ q.1 := by
  have left : ∀ {k : Nat} {q : Nat × va_E}, u[k]? = some q → (u ++ w)[k]? = some q := fun {k q} hk => by
    rw [List.getElem?_append_left (List.getElem?_eq_some_iff.mp hk).1]
    exact hk
  have right : ∀ {k : Nat} {q : Nat × va_E}, w[k]? = some q → (u ++ w)[u.length + k]? = some q := fun {k q} hk => by
    rw [List.getElem?_append_right (by omega), show u.length + k - u.length = k by omega]
    exact hk
  constructor
  · intro h
    refine ⟨⟨fun i j p q hp hq e => h.1 i j p q (left hp) (left hq) e, fun k q hk => h.2 k q (left hk)⟩, ⟨fun i j p q hp hq e => ?_, fun k q hk => h.2 _ q (right hk)⟩, fun i j p q hp hq e => ?_⟩
    · have := h.1 _ _ p q (right hp) (right hq) e
      omega
    · have h1 := h.1 _ _ p q (left hp) (right hq) e
      have h2 := (List.getElem?_eq_some_iff.mp hp).1
      omega
  · intro h
    exact h.1.app h.2.1 (fun i j p q hp hq e => h.2.2 i j p q hp hq e)
theorem n_flip {u w : va_W} (g : GN Z rm X A Q nc ns pc L st (w ++ u)) : GN Z rm X A Q nc ns pc L st (u ++ w) := by
  obtain ⟨p, e, s, m, args, below, meth, c, n⟩ := X
  intro H locs ls hP hD hS hL
  rw [va_P_app] at hP
  rw [va_D_app] at hD
  exact g H locs ls (va_P_app.mpr ⟨hP.2, hP.1⟩) (va_D_app.mpr ⟨hD.2.1, hD.1, fun i j p q hp hq e => hD.2.2 j i q p hq hp e.symm⟩) hS hL

/-- a call on the right world of two -/
theorem n_call2i (B : AmbN Z rm X A cc Ts own nL) {ly : Lay} {Z9 : LZ} {ad : Nat → Nat} {τ : St} {wr : va_W} {y : MethodName} {wsc ws2 : List Cond} {rmc : Room} {bytes : ByteArray} {maxL idx np : Nat} {ret2 : Option FieldType} {As : List Value} {C : String} {o : Nat} {stk : List Value} (hZ : Z9.1 = Z.1 ∧ Z9.2.1 = Z.2.1) (hEo : EOk Z9.2.2.2) (hE0 : eN X Z9.2.2.2 A) (hK9 : ∀ U, va_K Z.2.1 vwCl Z.2.2.1 U → gK ly Z9 U) (d : decode cc pc = .ok (.invokevirtual idx, 3)) (hg : GoodIn Ts (wsV own idx C y wsc)) (hst : stk = As.reverse ++ .ref (ad o) :: st) (hd : y.cls = C ∧ y.cls ≠ "java/lang/invoke/MethodHandle" ∧ y.cls ≠ "java/lang/invoke/VarHandle" ∧ (parseMethodDescriptor y.desc).map (fun d => d.parameters.length) = some np) (hrm : rmc.frames + 1 ≤ rm.frames ∧ 8 + (maxL + 11) + rmc.locals ≤ rm.locals) (hrc : rmc.cells = 0 ∧ rmc.slots = 0) (hw : wsc = Cond.code y bytes maxL ret2 :: ws2) (hn : As.length = np) (hcat : (st.map fun v => v.category).sum ≤ 8) (hrecv : ∃ (ci : Nat) (r : vw_C) (ks : List Nat), o < ly.2 ∧ ly.1 o = .inl (ci, ks) ∧ vwCl[ci]? = some r ∧ r.1 = C) (hr : nc ≤ rm.cells ∧ ns ≤ rm.slots)
    (hc : CC ly Z9 ad y wsc rmc (.ref (ad o) :: As) τ (rI (fun v τ' => GN Z rm X A Q nc ns (pc + 3) L (.int v :: st) (wr ++ gws ly Z9 ad τ')))) : GN Z rm X A Q nc ns pc L stk (wr ++ gws ly Z9 ad τ) := by
  obtain ⟨p, e, s, m, args, below, meth, c, n⟩ := X
  obtain ⟨hx, hb, hml, rfl, hown, hts, hlk, hK, hM, hE, hA⟩ := B
  obtain ⟨l9, D9, ar9, E9⟩ := Z9
  obtain ⟨hz1, hz2⟩ := hZ
  simp only at hz1 hz2 hEo
  subst hz1
  subst hz2
  intro H locs ls hP hD hS hL
  have hP2 := va_P_app.mp hP
  have hD2 := va_D_app.mp hD
  have hK1 := hK9 _ hK
  have hJ := gws_J hD2.2.1
  have hF : ∀ q, gA ad ly.2 H.size q → A q := fun q h => by
    rcases h with ⟨k, hk, h⟩ | h
    · rw [h]
      exact hD2.2.1.2 k _ (gws_at hk)
    · exact hA q (Nat.le_trans hS.1 h)
  have hEs : E9 (gA ad ly.2 H.size) s H := hEo.2.2.2 A _ s H (fun a _ h => hF a h) (hEo.2.2.1 A s s.heap H (fun a h1 h2 => hS.2.1 a h1 h2) hE0)
  refine va_callg2 (Qc := fun r t => ∃ τ' : St, (rI (fun v τ' => GN Z rm (p, e, s, m, args, below, meth, c, n) A Q nc ns (pc + 3) L (.int v :: st) (wr ++ gws ly (Z.1, (Z.2.1, (ar9, E9))) ad τ'))) r τ' ∧ va_P Z.2.1 vwCl (gws ly (Z.1, (Z.2.1, (ar9, E9))) ad τ') t.heap ∧ gK ly (Z.1, (Z.2.1, (ar9, E9))) t) (va_runV (As := As) (rest := st) (Ts := Ts) (own := own) ⟨hx, hb, hml, hown, hts⟩ (hc H.size) (cwV np hts hg hw hrc.1 hrc.2 hd hrm) ⟨gPre_blind hEo, ?_, fun U hU hW => ⟨rfl, by rw [hU], by rw [hU]; exact hP2.2, hK1.moved hW.alike, hJ, hEo, by rw [hU]; exact hEo.1 _ _ _ _ hW hEs⟩⟩ rfl hn hL.1 hst (lv_room hcat) d ⟨hr.1, hr.2⟩) hS (fun q _ h => hF q h) (fun q h => hF q h) (fun r t H1 locs1 ht hvm hq hk1 hS1 => ?_)
  · obtain ⟨ci, r, ks, ho, hl, hcl, hC⟩ := hrecv
    have hat : (gws ly (Z.1, (Z.2.1, (ar9, E9))) ad τ)[o]? = some (ad o, .inr (ci, gfs ad τ o ks)) := by rw [gws_at ho, hl]; rfl
    rw [← hC]
    exact va_recv hK hP2.2 hcl hat
  obtain ⟨τ', ⟨v, rfl, hk⟩, hP1, hK1⟩ := hq
  rw [ht] at hP1
  have apart : ∀ (k : Nat) (q : Nat × va_E), wr[k]? = some q → q.1 < H.size ∧ ¬ gA ad ly.2 H.size q.1 := by
    intro k q hq
    have hl := (hP2.1 k q hq).lt
    refine ⟨hl, fun h => ?_⟩
    rcases h with ⟨j, hj, h⟩ | h
    · exact hD2.2.2 k j q _ hq (gws_at hj) h
    · omega
  refine hk H1 locs1 ls (va_P_app.mpr ⟨fun k q hq => (hP2.1 k q hq).kept (hk1 q.1 (apart k q hq).1 (apart k q hq).2), hP1⟩) (va_D_app.mpr ⟨hD2.1, gws_D hJ (fun o ho => hF _ (gA_in ho)), fun i j p9 q9 hp9 hq9 e9 => ?_⟩) hS1 hL
  have hj : j < ly.2 := by
    have := (List.getElem?_eq_some_iff.mp hq9).1
    simpa [gws] using this
  rw [gws_at hj] at hq9
  cases hq9
  exact hD2.2.2 i j p9 _ hp9 (gws_at hj) e9

/-- a call on the right world of two -/
theorem n_call2l (B : AmbN Z rm X A cc Ts own nL) {ly : Lay} {Z9 : LZ} {ad : Nat → Nat} {τ : St} {wr : va_W} {y : MethodName} {wsc ws2 : List Cond} {rmc : Room} {bytes : ByteArray} {maxL idx np : Nat} {ret2 : Option FieldType} {As : List Value} {C : String} {o : Nat} {stk : List Value} (hZ : Z9.1 = Z.1 ∧ Z9.2.1 = Z.2.1) (hEo : EOk Z9.2.2.2) (hE0 : eN X Z9.2.2.2 A) (hK9 : ∀ U, va_K Z.2.1 vwCl Z.2.2.1 U → gK ly Z9 U) (d : decode cc pc = .ok (.invokevirtual idx, 3)) (hg : GoodIn Ts (wsV own idx C y wsc)) (hst : stk = As.reverse ++ .ref (ad o) :: st) (hd : y.cls = C ∧ y.cls ≠ "java/lang/invoke/MethodHandle" ∧ y.cls ≠ "java/lang/invoke/VarHandle" ∧ (parseMethodDescriptor y.desc).map (fun d => d.parameters.length) = some np) (hrm : rmc.frames + 1 ≤ rm.frames ∧ 8 + (maxL + 11) + rmc.locals ≤ rm.locals) (hrc : rmc.cells = 0 ∧ rmc.slots = 0) (hw : wsc = Cond.code y bytes maxL ret2 :: ws2) (hn : As.length = np) (hcat : (st.map fun v => v.category).sum ≤ 8) (hrecv : ∃ (ci : Nat) (r : vw_C) (ks : List Nat), o < ly.2 ∧ ly.1 o = .inl (ci, ks) ∧ vwCl[ci]? = some r ∧ r.1 = C) (hr : nc ≤ rm.cells ∧ ns ≤ rm.slots)
    (hc : CC ly Z9 ad y wsc rmc (.ref (ad o) :: As) τ (rL (fun v τ' => GN Z rm X A Q nc ns (pc + 3) L (.long v :: st) (wr ++ gws ly Z9 ad τ')))) : GN Z rm X A Q nc ns pc L stk (wr ++ gws ly Z9 ad τ) := by
  obtain ⟨p, e, s, m, args, below, meth, c, n⟩ := X
  obtain ⟨hx, hb, hml, rfl, hown, hts, hlk, hK, hM, hE, hA⟩ := B
  obtain ⟨l9, D9, ar9, E9⟩ := Z9
  obtain ⟨hz1, hz2⟩ := hZ
  simp only at hz1 hz2 hEo
  subst hz1
  subst hz2
  intro H locs ls hP hD hS hL
  have hP2 := va_P_app.mp hP
  have hD2 := va_D_app.mp hD
  have hK1 := hK9 _ hK
  have hJ := gws_J hD2.2.1
  have hF : ∀ q, gA ad ly.2 H.size q → A q := fun q h => by
    rcases h with ⟨k, hk, h⟩ | h
    · rw [h]
      exact hD2.2.1.2 k _ (gws_at hk)
    · exact hA q (Nat.le_trans hS.1 h)
  have hEs : E9 (gA ad ly.2 H.size) s H := hEo.2.2.2 A _ s H (fun a _ h => hF a h) (hEo.2.2.1 A s s.heap H (fun a h1 h2 => hS.2.1 a h1 h2) hE0)
  refine va_callg2 (Qc := fun r t => ∃ τ' : St, (rL (fun v τ' => GN Z rm (p, e, s, m, args, below, meth, c, n) A Q nc ns (pc + 3) L (.long v :: st) (wr ++ gws ly (Z.1, (Z.2.1, (ar9, E9))) ad τ'))) r τ' ∧ va_P Z.2.1 vwCl (gws ly (Z.1, (Z.2.1, (ar9, E9))) ad τ') t.heap ∧ gK ly (Z.1, (Z.2.1, (ar9, E9))) t) (va_runV (As := As) (rest := st) (Ts := Ts) (own := own) ⟨hx, hb, hml, hown, hts⟩ (hc H.size) (cwV np hts hg hw hrc.1 hrc.2 hd hrm) ⟨gPre_blind hEo, ?_, fun U hU hW => ⟨rfl, by rw [hU], by rw [hU]; exact hP2.2, hK1.moved hW.alike, hJ, hEo, by rw [hU]; exact hEo.1 _ _ _ _ hW hEs⟩⟩ rfl hn hL.1 hst (lv_room hcat) d ⟨hr.1, hr.2⟩) hS (fun q _ h => hF q h) (fun q h => hF q h) (fun r t H1 locs1 ht hvm hq hk1 hS1 => ?_)
  · obtain ⟨ci, r, ks, ho, hl, hcl, hC⟩ := hrecv
    have hat : (gws ly (Z.1, (Z.2.1, (ar9, E9))) ad τ)[o]? = some (ad o, .inr (ci, gfs ad τ o ks)) := by rw [gws_at ho, hl]; rfl
    rw [← hC]
    exact va_recv hK hP2.2 hcl hat
  obtain ⟨τ', ⟨v, rfl, hk⟩, hP1, hK1⟩ := hq
  rw [ht] at hP1
  have apart : ∀ (k : Nat) (q : Nat × va_E), wr[k]? = some q → q.1 < H.size ∧ ¬ gA ad ly.2 H.size q.1 := by
    intro k q hq
    have hl := (hP2.1 k q hq).lt
    refine ⟨hl, fun h => ?_⟩
    rcases h with ⟨j, hj, h⟩ | h
    · exact hD2.2.2 k j q _ hq (gws_at hj) h
    · omega
  refine hk H1 locs1 ls (va_P_app.mpr ⟨fun k q hq => (hP2.1 k q hq).kept (hk1 q.1 (apart k q hq).1 (apart k q hq).2), hP1⟩) (va_D_app.mpr ⟨hD2.1, gws_D hJ (fun o ho => hF _ (gA_in ho)), fun i j p9 q9 hp9 hq9 e9 => ?_⟩) hS1 hL
  have hj : j < ly.2 := by
    have := (List.getElem?_eq_some_iff.mp hq9).1
    simpa [gws] using this
  rw [gws_at hj] at hq9
  cases hq9
  exact hD2.2.2 i j p9 _ hp9 (gws_at hj) e9

end GNL
