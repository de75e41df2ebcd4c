/-! a constructor called from another class -/
section GNI
variable {Z : NZ} {rm : Room} {X : CX} {A : Nat → Prop} {Q : State → Prop} {nc ns pc : Nat} {L : List (Option Value)} {st : List Value} {ws : va_W} {cc : ByteArray} {Ts : List Cond} {own : String} {nL : Nat}
theorem n_callI (B : AmbN Z rm X A cc Ts own nL) {y : MethodName} {bytes : ByteArray} {maxL idx mc ms : Nat} {rmc : Room} {a : Nat} {wc wr : va_W} {ws2 : List Cond} {nc2 ns2 : Nat} (d : decode cc pc = .ok (.invokespecial idx, 3)) (hg : GoodIn Ts (Cond.code y bytes maxL none :: ws2)) (hd : y.cls ≠ "java/lang/invoke/MethodHandle" ∧ y.cls ≠ "java/lang/invoke/VarHandle" ∧ (parseMethodDescriptor y.desc).map (fun d => d.parameters.length) = some 0) (hnm : y.name = "<init>") (hlk9 : Cond.methodLink own idx y ∈ Ts) (hini : Cond.initialized y.cls ∈ Ts ∧ Cond.instanceMethod y ∈ Ts) (hrm : rmc.frames + 1 ≤ rm.frames ∧ 8 + (maxL + 11) + rmc.locals ≤ rm.locals) (hrc : rmc.cells = mc ∧ rmc.slots = ms) (hcat : (st.map fun v => v.category).sum ≤ 8) (isC isR : List Nat) (hC : isC.map (fun i => ws[i]?) = wc.map some) (hR : isR.map (fun i => ws[i]?) = wr.map some) (hndC : va_nd isC = true) (hndR : va_nd isR = true) (hdis : ∀ i ∈ isR, i ∉ isC) (e1 : nc + mc = nc2) (e2 : ns + ms = ns2) (hr : nc2 ≤ rm.cells ∧ ns2 ≤ rm.slots) (hc : CN Z y (Cond.code y bytes maxL none :: ws2) rmc mc ms [.ref a] wc (fun w1 => GN Z rm X A Q nc2 ns2 (pc + 3) L st (wr ++ w1))) : GN Z rm X A Q nc ns pc L (.ref a :: st) ws := by
  obtain ⟨p, e, s, m, args, below, meth, c, n⟩ := X
  obtain ⟨hx, hb, hml, rfl, hown, hts, hlk, hK, hM, hE, hA⟩ := B
  intro H locs ls hP hD hS hL
  subst e1
  subst e2
  have hPc := hP.sub (ws' := wc) isC (nsub hC)
  have hDc := hD.sub (ws' := wc) isC hndC hC
  have hFc := va_free (wc := wc) hD hS hA isC hC
  refine va_callv (S := va_W) (va_runI (As := []) (rest := st) (Ts := Ts) (own := own) ⟨hx, hb, hml, hown, hts⟩ (hc H.size) ⟨⟨hrc.1, hrc.2, hrm.1, hrm.2, pay_in hts hg, List.mem_cons_self, hts _ (hg _ List.mem_cons_self).1, hts _ hini.1, ⟨hd.1, hd.2.1⟩, fun sig h => (by have h2 := hd.2.2; rw [h] at h2; exact (Option.some.inj h2).symm), hts _ hlk9⟩, hnm, hts _ hini.2⟩ ⟨fun a9 U g9 mk q => ?_, fun U hU hW => ⟨rfl, by rw [hU], by rw [hU]; exact hPc, va_K.moved hW.alike hK, hDc.weaken (fun _ _ _ _ => trivial), hM, hM.1 _ _ hW hE⟩⟩ rfl rfl hL.1 rfl (lv_room hcat) d ⟨hr.1, hr.2⟩) hS (fun q _ h => hFc q h) hFc (fun w1 t H1 locs1 ht hvm hw hB hz1 hk1 hS1 => ?_)
  · obtain ⟨q0, q1, q2, q3, q4, q5, q6⟩ := q
    exact ⟨q0, q1, q2, va_K.moved (u := U) (U := U.calling g9 mk a9) (Vm.Alike.refl U.vm) q3, q4, q5, q5.2 U _ rfl q6⟩
  · obtain ⟨hP1, hD1⟩ := hB
    rw [ht] at hP1
    obtain ⟨hP2, hD2⟩ := va_join hP hD isC isR hC hR hndR hdis hk1 hFc hP1 hD1
    exact hw H1 locs1 ls hP2 hD2 hS1 hL
end GNI
