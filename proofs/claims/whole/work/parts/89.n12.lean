/-! more instructions of the law -/
section GNM
variable {Z : NZ} {rm : Room} {X : CX} {A : Nat → Prop} {Q : State → Prop} {nc ns pc : Nat} {L : List (Option Value)} {st : List Value} {ws : va_W} {cc : ByteArray} {Ts : List Cond} {own : String} {nL : Nat}

theorem n_iadd (B : AmbN Z rm X A cc Ts own nL) {x y : Int32} (d : decode cc pc = .ok (.iadd, 1))  (g : GN Z rm X A Q nc ns (pc + 1) (L) (.int (x + y) :: st) ws) : GN Z rm X A Q nc ns (pc) (L) (.int y :: .int x :: st) ws := by
  obtain ⟨p, e, s, m, args, below, meth, c, n⟩ := X
  obtain ⟨hx, hb, hml, rfl, hown, hts, hlk, hK, hM, hE, hA⟩ := B
  intro H locs ls hP hD hS hL
  exact lv_iadd hx hb d  (g H locs ls hP hD hS hL)

theorem n_isub (B : AmbN Z rm X A cc Ts own nL) {x y : Int32} (d : decode cc pc = .ok (.isub, 1))  (g : GN Z rm X A Q nc ns (pc + 1) (L) (.int (x - y) :: st) ws) : GN Z rm X A Q nc ns (pc) (L) (.int y :: .int x :: st) ws := by
  obtain ⟨p, e, s, m, args, below, meth, c, n⟩ := X
  obtain ⟨hx, hb, hml, rfl, hown, hts, hlk, hK, hM, hE, hA⟩ := B
  intro H locs ls hP hD hS hL
  exact lv_isub hx hb d  (g H locs ls hP hD hS hL)

theorem n_iand (B : AmbN Z rm X A cc Ts own nL) {x y : Int32} (d : decode cc pc = .ok (.iand, 1))  (g : GN Z rm X A Q nc ns (pc + 1) (L) (.int (x &&& y) :: st) ws) : GN Z rm X A Q nc ns (pc) (L) (.int y :: .int x :: st) ws := by
  obtain ⟨p, e, s, m, args, below, meth, c, n⟩ := X
  obtain ⟨hx, hb, hml, rfl, hown, hts, hlk, hK, hM, hE, hA⟩ := B
  intro H locs ls hP hD hS hL
  exact lv_iand hx hb d  (g H locs ls hP hD hS hL)

theorem n_astore_n (B : AmbN Z rm X A cc Ts own nL) {k : Fin 4} {x : Nat} (d : decode cc pc = .ok (.astore_n k, 1)) (hn : (k : Nat) < nL) (h2 : gno2 L (k : Nat) = true) (g : GN Z rm X A Q nc ns (pc + 1) (L.set (k : Nat) (some (.ref x))) (st) ws) : GN Z rm X A Q nc ns (pc) (L) (.ref x :: st) ws := by
  obtain ⟨p, e, s, m, args, below, meth, c, n⟩ := X
  obtain ⟨hx, hb, hml, rfl, hown, hts, hlk, hK, hM, hE, hA⟩ := B
  intro H locs ls hP hD hS hL
  exact lv_astore_n hx hb d rfl (gL_store1 (v := .ref x) hL hn) hn rfl (fun ls2 h9 => g H locs ls2 hP hD hS (gL_set h2 h9))

theorem n_icmp_gt (B : AmbN Z rm X A cc Ts own nL) {x y : Int32} {off : Int} {tgt : Nat} (d : decode cc pc = .ok (.if_icmp .gt off, 3)) (ht : (pc : Int) + off = (tgt : Int)) (g1 : y < x → GN Z rm X A Q nc ns (tgt) (L) (st) ws) (g2 : ¬ y < x → GN Z rm X A Q nc ns (pc + 3) (L) (st) ws) : GN Z rm X A Q nc ns (pc) (L) (.int y :: .int x :: st) ws := by
  obtain ⟨p, e, s, m, args, below, meth, c, n⟩ := X
  obtain ⟨hx, hb, hml, rfl, hown, hts, hlk, hK, hM, hE, hA⟩ := B
  intro H locs ls hP hD hS hL
  exact lv_icmp_gt hx hb d ht (fun h => g1 h H locs ls hP hD hS hL) (fun h => g2 h H locs ls hP hD hS hL)

theorem n_icmp_eq (B : AmbN Z rm X A cc Ts own nL) {x y : Int32} {off : Int} {tgt : Nat} (d : decode cc pc = .ok (.if_icmp .eq off, 3)) (ht : (pc : Int) + off = (tgt : Int)) (g1 : x = y → GN Z rm X A Q nc ns (tgt) (L) (st) ws) (g2 : ¬ x = y → GN Z rm X A Q nc ns (pc + 3) (L) (st) ws) : GN Z rm X A Q nc ns (pc) (L) (.int y :: .int x :: st) ws := by
  obtain ⟨p, e, s, m, args, below, meth, c, n⟩ := X
  obtain ⟨hx, hb, hml, rfl, hown, hts, hlk, hK, hM, hE, hA⟩ := B
  intro H locs ls hP hD hS hL
  exact lv_icmp_eq hx hb d ht (fun h => g1 h H locs ls hP hD hS hL) (fun h => g2 h H locs ls hP hD hS hL)

theorem n_if_eq (B : AmbN Z rm X A cc Ts own nL) {x : Int32} {off : Int} {tgt : Nat} (d : decode cc pc = .ok (.ifCond .eq off, 3)) (ht : (pc : Int) + off = (tgt : Int)) (g1 : x = 0 → GN Z rm X A Q nc ns (tgt) (L) (st) ws) (g2 : ¬ x = 0 → GN Z rm X A Q nc ns (pc + 3) (L) (st) ws) : GN Z rm X A Q nc ns (pc) (L) (.int x :: st) ws := by
  obtain ⟨p, e, s, m, args, below, meth, c, n⟩ := X
  obtain ⟨hx, hb, hml, rfl, hown, hts, hlk, hK, hM, hE, hA⟩ := B
  intro H locs ls hP hD hS hL
  exact lv_if_eq hx hb d ht (fun h => g1 h H locs ls hP hD hS hL) (fun h => g2 h H locs ls hP hD hS hL)

theorem n_lcmp (B : AmbN Z rm X A cc Ts own nL) {x y : Int64} (d : decode cc pc = .ok (.lcmp, 1))  (g : GN Z rm X A Q nc ns (pc + 1) (L) (.int (lg_cmp x y) :: st) ws) : GN Z rm X A Q nc ns (pc) (L) (.long y :: .long x :: st) ws := by
  obtain ⟨p, e, s, m, args, below, meth, c, n⟩ := X
  obtain ⟨hx, hb, hml, rfl, hown, hts, hlk, hK, hM, hE, hA⟩ := B
  intro H locs ls hP hD hS hL
  exact W.lcmp hx hb d  (g H locs ls hP hD hS hL)

theorem n_tableIn (B : AmbN Z rm X A cc Ts own nL) {dflt lo hi : Int} {offs : Array Int} {len : Nat} {x : Int32} {off : Int} {tgt : Nat} (d : decode cc pc = .ok (.tableswitch dflt lo hi offs, len)) (h1 : ¬ x.toInt < lo) (h2 : ¬ hi < x.toInt) (ho : offs[(x.toInt - lo).toNat]? = some off) (ht : (pc : Int) + off = (tgt : Int)) (g : GN Z rm X A Q nc ns (tgt) (L) (st) ws) : GN Z rm X A Q nc ns (pc) (L) (.int x :: st) ws := by
  obtain ⟨p, e, s, m, args, below, meth, c, n⟩ := X
  obtain ⟨hx, hb, hml, rfl, hown, hts, hlk, hK, hM, hE, hA⟩ := B
  intro H locs ls hP hD hS hL
  exact lv_tableIn hx hb d h1 h2 ho ht (g H locs ls hP hD hS hL)
theorem n_tableOut (B : AmbN Z rm X A cc Ts own nL) {dflt lo hi : Int} {offs : Array Int} {len : Nat} {x : Int32} {tgt : Nat} (d : decode cc pc = .ok (.tableswitch dflt lo hi offs, len)) (h : x.toInt < lo ∨ hi < x.toInt) (ht : (pc : Int) + dflt = (tgt : Int)) (g : GN Z rm X A Q nc ns (tgt) (L) (st) ws) : GN Z rm X A Q nc ns (pc) (L) (.int x :: st) ws := by
  obtain ⟨p, e, s, m, args, below, meth, c, n⟩ := X
  obtain ⟨hx, hb, hml, rfl, hown, hts, hlk, hK, hM, hE, hA⟩ := B
  intro H locs ls hP hD hS hL
  exact lv_tableOut hx hb d h ht (g H locs ls hP hD hS hL)

/-- the script stands in the heap, not written -/
def sN (X : CX) (b N : Nat) (xs : Nat → Int32) (A : Nat → Prop) : Prop := match X with
  | (_, _, s, _, _, _, _, _, _) => va_X b N xs s s.heap ∧ b < s.heap.size ∧ ¬ A b
theorem n_sald (B : AmbN Z rm X A cc Ts own nL) {b N : Nat} {xs : Nat → Int32} {i : Int32} (hS9 : sN X b N xs A) (d : decode cc pc = .ok (.iaload, 1)) (hin : vp_in i N) (g : GN Z rm X A Q nc ns (pc + 1) L (.int (xs i.toNatClampNeg) :: st) ws) : GN Z rm X A Q nc ns pc L (.int i :: .ref b :: st) ws := by
  obtain ⟨p, e, s, m, args, below, meth, c, n⟩ := X
  obtain ⟨hx, hb, hml, rfl, hown, hts, hlk, hK, hM, hE, hA⟩ := B
  intro H locs ls hP hD hS hL
  obtain ⟨⟨scr, h1, h2, h3, h4, h5⟩, hbl, hbA⟩ := hS9
  have hlt : i.toNatClampNeg < N := Nat.not_le.mp fun q => hin (Or.inr q)
  exact W.iald (v := .int (xs i.toNatClampNeg)) hx hb (by rw [hS.2.1 b hbl hbA]; exact h1) h2 h3 (by rw [h4]; exact hin) (h5 _ hlt) rfl rfl d (g H locs ls hP hD hS hL)
theorem n_slen (B : AmbN Z rm X A cc Ts own nL) {b N : Nat} {xs : Nat → Int32} {v : Int32} (hS9 : sN X b N xs A) (d : decode cc pc = .ok (.arraylength, 1)) (hv : Int32.ofNat N = v) (g : GN Z rm X A Q nc ns (pc + 1) L (.int v :: st) ws) : GN Z rm X A Q nc ns pc L (.ref b :: st) ws := by
  subst hv
  obtain ⟨p, e, s, m, args, below, meth, c, n⟩ := X
  obtain ⟨hx, hb, hml, rfl, hown, hts, hlk, hK, hM, hE, hA⟩ := B
  intro H locs ls hP hD hS hL
  exact va_slen hx hb hS9.1 hS9.2.1 hS9.2.2 hS d (g H locs ls hP hD hS hL)
end GNM
