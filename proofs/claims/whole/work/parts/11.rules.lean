section GGR
variable {ly : Lay} {Z : LZ} {ad : Nat → Nat} {rm : Room} {X : CX} {K : Option Value → St → Prop} {pc : Nat} {L : List (Option Value)} {st : List Value} {τ : St} {cc : ByteArray} {Ts : List Cond} {own : String} {nL : Nat} {ret : Option FieldType}

theorem g_iconst (B : Amb ly Z ad rm X cc Ts own nL ret) {z : Int} {v : Int32} (d : decode cc pc = .ok (.iconst z, 1)) (hv : Int32.ofInt z = v) (g : GG ly Z ad rm X K (pc + 1) (L) (.int v :: st) (τ)) : GG ly Z ad rm X K (pc) (L) (st) (τ) := by
  obtain ⟨p, e, s, m, args, below, meth, c, n⟩ := X
  obtain ⟨hx, hb, hml, rfl, hown, hts, hr, hlk, hK, hJ, hE, hEs, hR⟩ := B
  intro H locs ls hP hS hL
  exact lv_iconst hx hb d hv (g H locs ls hP hS hL)

theorem g_bipush (B : Amb ly Z ad rm X cc Ts own nL ret) {z : Int} {v : Int32} (d : decode cc pc = .ok (.bipush z, 2)) (hv : (Int8.ofInt z).toInt32 = v) (g : GG ly Z ad rm X K (pc + 2) (L) (.int v :: st) (τ)) : GG ly Z ad rm X K (pc) (L) (st) (τ) := by
  obtain ⟨p, e, s, m, args, below, meth, c, n⟩ := X
  obtain ⟨hx, hb, hml, rfl, hown, hts, hr, hlk, hK, hJ, hE, hEs, hR⟩ := B
  intro H locs ls hP hS hL
  exact lv_bipush hx hb d hv (g H locs ls hP hS hL)

theorem g_sipush (B : Amb ly Z ad rm X cc Ts own nL ret) {z : Int} {v : Int32} (d : decode cc pc = .ok (.sipush z, 3)) (hv : (Int16.ofInt z).toInt32 = v) (g : GG ly Z ad rm X K (pc + 3) (L) (.int v :: st) (τ)) : GG ly Z ad rm X K (pc) (L) (st) (τ) := by
  obtain ⟨p, e, s, m, args, below, meth, c, n⟩ := X
  obtain ⟨hx, hb, hml, rfl, hown, hts, hr, hlk, hK, hJ, hE, hEs, hR⟩ := B
  intro H locs ls hP hS hL
  exact lv_sipush hx hb d hv (g H locs ls hP hS hL)

theorem g_lconst (B : Amb ly Z ad rm X cc Ts own nL ret) {z : Fin 2} {v : Int64} (d : decode cc pc = .ok (.lconst z, 1)) (hv : Int64.ofNat (z : Nat) = v) (g : GG ly Z ad rm X K (pc + 1) (L) (.long v :: st) (τ)) : GG ly Z ad rm X K (pc) (L) (st) (τ) := by
  obtain ⟨p, e, s, m, args, below, meth, c, n⟩ := X
  obtain ⟨hx, hb, hml, rfl, hown, hts, hr, hlk, hK, hJ, hE, hEs, hR⟩ := B
  intro H locs ls hP hS hL
  exact lv_lconst hx hb d hv (g H locs ls hP hS hL)

theorem g_iload_n (B : Amb ly Z ad rm X cc Ts own nL ret) {k : Fin 4} {x : Int32} (d : decode cc pc = .ok (.iload_n k, 1)) (h : L[(k : Nat)]? = some (some (.int x))) (g : GG ly Z ad rm X K (pc + 1) (L) (.int x :: st) (τ)) : GG ly Z ad rm X K (pc) (L) (st) (τ) := by
  obtain ⟨p, e, s, m, args, below, meth, c, n⟩ := X
  obtain ⟨hx, hb, hml, rfl, hown, hts, hr, hlk, hK, hJ, hE, hEs, hR⟩ := B
  intro H locs ls hP hS hL
  exact lv_iload_n hx hb d rfl (hL.2.2 _ _ h) (g H locs ls hP hS hL)

theorem g_iload (B : Amb ly Z ad rm X cc Ts own nL ret) {k : Nat} {x : Int32} (d : decode cc pc = .ok (.iload k, 2)) (h : L[k]? = some (some (.int x))) (g : GG ly Z ad rm X K (pc + 2) (L) (.int x :: st) (τ)) : GG ly Z ad rm X K (pc) (L) (st) (τ) := by
  obtain ⟨p, e, s, m, args, below, meth, c, n⟩ := X
  obtain ⟨hx, hb, hml, rfl, hown, hts, hr, hlk, hK, hJ, hE, hEs, hR⟩ := B
  intro H locs ls hP hS hL
  exact lv_iload hx hb d (hL.2.2 _ _ h) (g H locs ls hP hS hL)

theorem g_lload_n (B : Amb ly Z ad rm X cc Ts own nL ret) {k : Fin 4} {x : Int64} (d : decode cc pc = .ok (.lload_n k, 1)) (h : L[(k : Nat)]? = some (some (.long x))) (g : GG ly Z ad rm X K (pc + 1) (L) (.long x :: st) (τ)) : GG ly Z ad rm X K (pc) (L) (st) (τ) := by
  obtain ⟨p, e, s, m, args, below, meth, c, n⟩ := X
  obtain ⟨hx, hb, hml, rfl, hown, hts, hr, hlk, hK, hJ, hE, hEs, hR⟩ := B
  intro H locs ls hP hS hL
  exact lv_lload_n hx hb d rfl (hL.2.2 _ _ h) (g H locs ls hP hS hL)

theorem g_lload (B : Amb ly Z ad rm X cc Ts own nL ret) {k : Nat} {x : Int64} (d : decode cc pc = .ok (.lload k, 2)) (h : L[k]? = some (some (.long x))) (g : GG ly Z ad rm X K (pc + 2) (L) (.long x :: st) (τ)) : GG ly Z ad rm X K (pc) (L) (st) (τ) := by
  obtain ⟨p, e, s, m, args, below, meth, c, n⟩ := X
  obtain ⟨hx, hb, hml, rfl, hown, hts, hr, hlk, hK, hJ, hE, hEs, hR⟩ := B
  intro H locs ls hP hS hL
  exact lv_lload hx hb d (hL.2.2 _ _ h) (g H locs ls hP hS hL)

theorem g_aload_n (B : Amb ly Z ad rm X cc Ts own nL ret) {k : Fin 4} {x : Nat} (d : decode cc pc = .ok (.aload_n k, 1)) (h : L[(k : Nat)]? = some (some (.ref x))) (g : GG ly Z ad rm X K (pc + 1) (L) (.ref x :: st) (τ)) : GG ly Z ad rm X K (pc) (L) (st) (τ) := by
  obtain ⟨p, e, s, m, args, below, meth, c, n⟩ := X
  obtain ⟨hx, hb, hml, rfl, hown, hts, hr, hlk, hK, hJ, hE, hEs, hR⟩ := B
  intro H locs ls hP hS hL
  exact lv_aload_n hx hb d rfl (hL.2.2 _ _ h) (g H locs ls hP hS hL)

theorem g_aload (B : Amb ly Z ad rm X cc Ts own nL ret) {k : Nat} {x : Nat} (d : decode cc pc = .ok (.aload k, 2)) (h : L[k]? = some (some (.ref x))) (g : GG ly Z ad rm X K (pc + 2) (L) (.ref x :: st) (τ)) : GG ly Z ad rm X K (pc) (L) (st) (τ) := by
  obtain ⟨p, e, s, m, args, below, meth, c, n⟩ := X
  obtain ⟨hx, hb, hml, rfl, hown, hts, hr, hlk, hK, hJ, hE, hEs, hR⟩ := B
  intro H locs ls hP hS hL
  exact lv_aload hx hb d (hL.2.2 _ _ h) (g H locs ls hP hS hL)

theorem g_istore_n (B : Amb ly Z ad rm X cc Ts own nL ret) {k : Fin 4} {x : Int32} (d : decode cc pc = .ok (.istore_n k, 1)) (hn : (k : Nat) < nL) (h2 : gno2 L (k : Nat) = true) (g : GG ly Z ad rm X K (pc + 1) (L.set (k : Nat) (some (.int x))) (st) (τ)) : GG ly Z ad rm X K (pc) (L) (.int x :: st) (τ) := by
  obtain ⟨p, e, s, m, args, below, meth, c, n⟩ := X
  obtain ⟨hx, hb, hml, rfl, hown, hts, hr, hlk, hK, hJ, hE, hEs, hR⟩ := B
  intro H locs ls hP hS hL
  exact lv_istore_n hx hb d rfl (gL_store1 (v := .int x) hL hn) hn rfl (fun ls2 h9 => g H locs ls2 hP hS (gL_set h2 h9))

theorem g_lstore_n (B : Amb ly Z ad rm X cc Ts own nL ret) {k : Fin 4} {x : Int64} (d : decode cc pc = .ok (.lstore_n k, 1)) (hn : (k : Nat) + 1 < nL) (h2 : gno2 L (k : Nat) = true) (g : GG ly Z ad rm X K (pc + 1) ((L.set (k : Nat) (some (.long x))).set ((k : Nat) + 1) none) (st) (τ)) : GG ly Z ad rm X K (pc) (L) (.long x :: st) (τ) := by
  obtain ⟨p, e, s, m, args, below, meth, c, n⟩ := X
  obtain ⟨hx, hb, hml, rfl, hown, hts, hr, hlk, hK, hJ, hE, hEs, hR⟩ := B
  intro H locs ls hP hS hL
  exact lv_lstore_n hx hb d rfl (gL_store1 (v := .long x) hL (Nat.lt_of_succ_lt hn)) hn rfl (fun ls2 h9 => g H locs ls2 hP hS (gL_set2 h2 h9))

theorem g_astore_n (B : Amb ly Z ad rm X cc Ts own nL ret) {k : Fin 4} {x : Nat} (d : decode cc pc = .ok (.astore_n k, 1)) (hn : (k : Nat) < nL) (h2 : gno2 L (k : Nat) = true) (g : GG ly Z ad rm X K (pc + 1) (L.set (k : Nat) (some (.ref x))) (st) (τ)) : GG ly Z ad rm X K (pc) (L) (.ref x :: st) (τ) := by
  obtain ⟨p, e, s, m, args, below, meth, c, n⟩ := X
  obtain ⟨hx, hb, hml, rfl, hown, hts, hr, hlk, hK, hJ, hE, hEs, hR⟩ := B
  intro H locs ls hP hS hL
  exact lv_astore_n hx hb d rfl (gL_store1 (v := .ref x) hL hn) hn rfl (fun ls2 h9 => g H locs ls2 hP hS (gL_set h2 h9))

theorem g_istore (B : Amb ly Z ad rm X cc Ts own nL ret) {k : Nat} {x : Int32} (d : decode cc pc = .ok (.istore k, 2)) (hn : k < nL) (h2 : gno2 L k = true) (g : GG ly Z ad rm X K (pc + 2) (L.set k (some (.int x))) (st) (τ)) : GG ly Z ad rm X K (pc) (L) (.int x :: st) (τ) := by
  obtain ⟨p, e, s, m, args, below, meth, c, n⟩ := X
  obtain ⟨hx, hb, hml, rfl, hown, hts, hr, hlk, hK, hJ, hE, hEs, hR⟩ := B
  intro H locs ls hP hS hL
  exact lv_istore hx hb d (gL_store1 (v := .int x) hL hn) hn rfl (fun ls2 h9 => g H locs ls2 hP hS (gL_set h2 h9))

theorem g_lstore (B : Amb ly Z ad rm X cc Ts own nL ret) {k : Nat} {x : Int64} (d : decode cc pc = .ok (.lstore k, 2)) (hn : k + 1 < nL) (h2 : gno2 L k = true) (g : GG ly Z ad rm X K (pc + 2) ((L.set k (some (.long x))).set (k + 1) none) (st) (τ)) : GG ly Z ad rm X K (pc) (L) (.long x :: st) (τ) := by
  obtain ⟨p, e, s, m, args, below, meth, c, n⟩ := X
  obtain ⟨hx, hb, hml, rfl, hown, hts, hr, hlk, hK, hJ, hE, hEs, hR⟩ := B
  intro H locs ls hP hS hL
  exact lv_lstore hx hb d (gL_store1 (v := .long x) hL (Nat.lt_of_succ_lt hn)) hn rfl (fun ls2 h9 => g H locs ls2 hP hS (gL_set2 h2 h9))

theorem g_astore (B : Amb ly Z ad rm X cc Ts own nL ret) {k : Nat} {x : Nat} (d : decode cc pc = .ok (.astore k, 2)) (hn : k < nL) (h2 : gno2 L k = true) (g : GG ly Z ad rm X K (pc + 2) (L.set k (some (.ref x))) (st) (τ)) : GG ly Z ad rm X K (pc) (L) (.ref x :: st) (τ) := by
  obtain ⟨p, e, s, m, args, below, meth, c, n⟩ := X
  obtain ⟨hx, hb, hml, rfl, hown, hts, hr, hlk, hK, hJ, hE, hEs, hR⟩ := B
  intro H locs ls hP hS hL
  exact lv_astore hx hb d (gL_store1 (v := .ref x) hL hn) hn rfl (fun ls2 h9 => g H locs ls2 hP hS (gL_set h2 h9))

theorem g_iinc (B : Amb ly Z ad rm X cc Ts own nL ret) {k : Nat} {z : Int} {x c9 : Int32} (d : decode cc pc = .ok (.iinc k z, 3)) (h : L[k]? = some (some (.int x))) (hv : Int32.ofInt z = c9) (hn : k < nL) (h2 : gno2 L k = true) (g : GG ly Z ad rm X K (pc + 3) (L.set k (some (.int (x + c9)))) (st) (τ)) : GG ly Z ad rm X K (pc) (L) (st) (τ) := by
  obtain ⟨p, e, s, m, args, below, meth, c, n⟩ := X
  obtain ⟨hx, hb, hml, rfl, hown, hts, hr, hlk, hK, hJ, hE, hEs, hR⟩ := B
  intro H locs ls hP hS hL
  have hm : (k, Value.int x) ∈ (List.range L.length).filterMap (fun k => (L.getD k none).map (fun v => (k, v))) := by
    refine List.mem_filterMap.mpr ⟨k, ?_, ?_⟩
    · have := (List.getElem?_eq_some_iff.mp h).1
      simpa using this
    · rw [List.getD_eq_getElem?_getD, h]
      rfl
  obtain ⟨j, hj⟩ := List.getElem?_of_mem hm
  exact lv_iinc hx hb d (gL_store1 (v := .int (x + c9)) hL hn) hj (by rw [hv]) hn rfl (fun ls2 h9 => g H locs ls2 hP hS (gL_set h2 h9))

theorem g_iadd (B : Amb ly Z ad rm X cc Ts own nL ret) {x y : Int32} (d : decode cc pc = .ok (.iadd, 1))  (g : GG ly Z ad rm X K (pc + 1) (L) (.int (x + y) :: st) (τ)) : GG ly Z ad rm X K (pc) (L) (.int y :: .int x :: st) (τ) := by
  obtain ⟨p, e, s, m, args, below, meth, c, n⟩ := X
  obtain ⟨hx, hb, hml, rfl, hown, hts, hr, hlk, hK, hJ, hE, hEs, hR⟩ := B
  intro H locs ls hP hS hL
  exact lv_iadd hx hb d  (g H locs ls hP hS hL)

theorem g_isub (B : Amb ly Z ad rm X cc Ts own nL ret) {x y : Int32} (d : decode cc pc = .ok (.isub, 1))  (g : GG ly Z ad rm X K (pc + 1) (L) (.int (x - y) :: st) (τ)) : GG ly Z ad rm X K (pc) (L) (.int y :: .int x :: st) (τ) := by
  obtain ⟨p, e, s, m, args, below, meth, c, n⟩ := X
  obtain ⟨hx, hb, hml, rfl, hown, hts, hr, hlk, hK, hJ, hE, hEs, hR⟩ := B
  intro H locs ls hP hS hL
  exact lv_isub hx hb d  (g H locs ls hP hS hL)

theorem g_imul (B : Amb ly Z ad rm X cc Ts own nL ret) {x y : Int32} (d : decode cc pc = .ok (.imul, 1))  (g : GG ly Z ad rm X K (pc + 1) (L) (.int (x * y) :: st) (τ)) : GG ly Z ad rm X K (pc) (L) (.int y :: .int x :: st) (τ) := by
  obtain ⟨p, e, s, m, args, below, meth, c, n⟩ := X
  obtain ⟨hx, hb, hml, rfl, hown, hts, hr, hlk, hK, hJ, hE, hEs, hR⟩ := B
  intro H locs ls hP hS hL
  exact lv_imul hx hb d  (g H locs ls hP hS hL)

theorem g_iand (B : Amb ly Z ad rm X cc Ts own nL ret) {x y : Int32} (d : decode cc pc = .ok (.iand, 1))  (g : GG ly Z ad rm X K (pc + 1) (L) (.int (x &&& y) :: st) (τ)) : GG ly Z ad rm X K (pc) (L) (.int y :: .int x :: st) (τ) := by
  obtain ⟨p, e, s, m, args, below, meth, c, n⟩ := X
  obtain ⟨hx, hb, hml, rfl, hown, hts, hr, hlk, hK, hJ, hE, hEs, hR⟩ := B
  intro H locs ls hP hS hL
  exact lv_iand hx hb d  (g H locs ls hP hS hL)

theorem g_ior (B : Amb ly Z ad rm X cc Ts own nL ret) {x y : Int32} (d : decode cc pc = .ok (.ior, 1))  (g : GG ly Z ad rm X K (pc + 1) (L) (.int (x ||| y) :: st) (τ)) : GG ly Z ad rm X K (pc) (L) (.int y :: .int x :: st) (τ) := by
  obtain ⟨p, e, s, m, args, below, meth, c, n⟩ := X
  obtain ⟨hx, hb, hml, rfl, hown, hts, hr, hlk, hK, hJ, hE, hEs, hR⟩ := B
  intro H locs ls hP hS hL
  exact lv_ior hx hb d  (g H locs ls hP hS hL)

theorem g_ixor (B : Amb ly Z ad rm X cc Ts own nL ret) {x y : Int32} (d : decode cc pc = .ok (.ixor, 1))  (g : GG ly Z ad rm X K (pc + 1) (L) (.int (x ^^^ y) :: st) (τ)) : GG ly Z ad rm X K (pc) (L) (.int y :: .int x :: st) (τ) := by
  obtain ⟨p, e, s, m, args, below, meth, c, n⟩ := X
  obtain ⟨hx, hb, hml, rfl, hown, hts, hr, hlk, hK, hJ, hE, hEs, hR⟩ := B
  intro H locs ls hP hS hL
  exact lv_ixor hx hb d  (g H locs ls hP hS hL)

theorem g_idiv (B : Amb ly Z ad rm X cc Ts own nL ret) {x y : Int32} (d : decode cc pc = .ok (.idiv, 1)) (h : ¬ y = 0) (g : GG ly Z ad rm X K (pc + 1) (L) (.int (x / y) :: st) (τ)) : GG ly Z ad rm X K (pc) (L) (.int y :: .int x :: st) (τ) := by
  obtain ⟨p, e, s, m, args, below, meth, c, n⟩ := X
  obtain ⟨hx, hb, hml, rfl, hown, hts, hr, hlk, hK, hJ, hE, hEs, hR⟩ := B
  intro H locs ls hP hS hL
  exact lv_idiv hx hb d h (g H locs ls hP hS hL)

theorem g_irem (B : Amb ly Z ad rm X cc Ts own nL ret) {x y : Int32} (d : decode cc pc = .ok (.irem, 1)) (h : ¬ y = 0) (g : GG ly Z ad rm X K (pc + 1) (L) (.int (x - x / y * y) :: st) (τ)) : GG ly Z ad rm X K (pc) (L) (.int y :: .int x :: st) (τ) := by
  obtain ⟨p, e, s, m, args, below, meth, c, n⟩ := X
  obtain ⟨hx, hb, hml, rfl, hown, hts, hr, hlk, hK, hJ, hE, hEs, hR⟩ := B
  intro H locs ls hP hS hL
  exact lv_irem hx hb d h (g H locs ls hP hS hL)

theorem g_ineg (B : Amb ly Z ad rm X cc Ts own nL ret) {x : Int32} (d : decode cc pc = .ok (.ineg, 1))  (g : GG ly Z ad rm X K (pc + 1) (L) (.int (-x) :: st) (τ)) : GG ly Z ad rm X K (pc) (L) (.int x :: st) (τ) := by
  obtain ⟨p, e, s, m, args, below, meth, c, n⟩ := X
  obtain ⟨hx, hb, hml, rfl, hown, hts, hr, hlk, hK, hJ, hE, hEs, hR⟩ := B
  intro H locs ls hP hS hL
  exact lv_ineg hx hb d  (g H locs ls hP hS hL)

theorem g_ladd (B : Amb ly Z ad rm X cc Ts own nL ret) {x y : Int64} (d : decode cc pc = .ok (.ladd, 1))  (g : GG ly Z ad rm X K (pc + 1) (L) (.long (x + y) :: st) (τ)) : GG ly Z ad rm X K (pc) (L) (.long y :: .long x :: st) (τ) := by
  obtain ⟨p, e, s, m, args, below, meth, c, n⟩ := X
  obtain ⟨hx, hb, hml, rfl, hown, hts, hr, hlk, hK, hJ, hE, hEs, hR⟩ := B
  intro H locs ls hP hS hL
  exact lv_ladd hx hb d  (g H locs ls hP hS hL)

theorem g_lsub (B : Amb ly Z ad rm X cc Ts own nL ret) {x y : Int64} (d : decode cc pc = .ok (.lsub, 1))  (g : GG ly Z ad rm X K (pc + 1) (L) (.long (x - y) :: st) (τ)) : GG ly Z ad rm X K (pc) (L) (.long y :: .long x :: st) (τ) := by
  obtain ⟨p, e, s, m, args, below, meth, c, n⟩ := X
  obtain ⟨hx, hb, hml, rfl, hown, hts, hr, hlk, hK, hJ, hE, hEs, hR⟩ := B
  intro H locs ls hP hS hL
  exact lv_lsub hx hb d  (g H locs ls hP hS hL)

theorem g_lmul (B : Amb ly Z ad rm X cc Ts own nL ret) {x y : Int64} (d : decode cc pc = .ok (.lmul, 1))  (g : GG ly Z ad rm X K (pc + 1) (L) (.long (x * y) :: st) (τ)) : GG ly Z ad rm X K (pc) (L) (.long y :: .long x :: st) (τ) := by
  obtain ⟨p, e, s, m, args, below, meth, c, n⟩ := X
  obtain ⟨hx, hb, hml, rfl, hown, hts, hr, hlk, hK, hJ, hE, hEs, hR⟩ := B
  intro H locs ls hP hS hL
  exact lv_lmul hx hb d  (g H locs ls hP hS hL)

theorem g_ldiv (B : Amb ly Z ad rm X cc Ts own nL ret) {x y : Int64} (d : decode cc pc = .ok (.ldiv, 1)) (h : ¬ y = 0) (g : GG ly Z ad rm X K (pc + 1) (L) (.long (x / y) :: st) (τ)) : GG ly Z ad rm X K (pc) (L) (.long y :: .long x :: st) (τ) := by
  obtain ⟨p, e, s, m, args, below, meth, c, n⟩ := X
  obtain ⟨hx, hb, hml, rfl, hown, hts, hr, hlk, hK, hJ, hE, hEs, hR⟩ := B
  intro H locs ls hP hS hL
  exact lv_ldiv hx hb d h (g H locs ls hP hS hL)

theorem g_lrem (B : Amb ly Z ad rm X cc Ts own nL ret) {x y : Int64} (d : decode cc pc = .ok (.lrem, 1)) (h : ¬ y = 0) (g : GG ly Z ad rm X K (pc + 1) (L) (.long (x - x / y * y) :: st) (τ)) : GG ly Z ad rm X K (pc) (L) (.long y :: .long x :: st) (τ) := by
  obtain ⟨p, e, s, m, args, below, meth, c, n⟩ := X
  obtain ⟨hx, hb, hml, rfl, hown, hts, hr, hlk, hK, hJ, hE, hEs, hR⟩ := B
  intro H locs ls hP hS hL
  exact lv_lrem hx hb d h (g H locs ls hP hS hL)

theorem g_i2l (B : Amb ly Z ad rm X cc Ts own nL ret) {x : Int32} {v : Int64} (d : decode cc pc = .ok (.i2l, 1)) (hv : x.toInt64 = v) (g : GG ly Z ad rm X K (pc + 1) (L) (.long v :: st) (τ)) : GG ly Z ad rm X K (pc) (L) (.int x :: st) (τ) := by
  obtain ⟨p, e, s, m, args, below, meth, c, n⟩ := X
  obtain ⟨hx, hb, hml, rfl, hown, hts, hr, hlk, hK, hJ, hE, hEs, hR⟩ := B
  intro H locs ls hP hS hL
  exact lv_i2l hx hb d hv (g H locs ls hP hS hL)

theorem g_l2i (B : Amb ly Z ad rm X cc Ts own nL ret) {x : Int64} {v : Int32} (d : decode cc pc = .ok (.l2i, 1)) (hv : x.toInt32 = v) (g : GG ly Z ad rm X K (pc + 1) (L) (.int v :: st) (τ)) : GG ly Z ad rm X K (pc) (L) (.long x :: st) (τ) := by
  obtain ⟨p, e, s, m, args, below, meth, c, n⟩ := X
  obtain ⟨hx, hb, hml, rfl, hown, hts, hr, hlk, hK, hJ, hE, hEs, hR⟩ := B
  intro H locs ls hP hS hL
  exact lv_l2i hx hb d hv (g H locs ls hP hS hL)

theorem g_i2b (B : Amb ly Z ad rm X cc Ts own nL ret) {x v : Int32} (d : decode cc pc = .ok (.i2b, 1)) (hv : x.toInt8.toInt32 = v) (g : GG ly Z ad rm X K (pc + 1) (L) (.int v :: st) (τ)) : GG ly Z ad rm X K (pc) (L) (.int x :: st) (τ) := by
  obtain ⟨p, e, s, m, args, below, meth, c, n⟩ := X
  obtain ⟨hx, hb, hml, rfl, hown, hts, hr, hlk, hK, hJ, hE, hEs, hR⟩ := B
  intro H locs ls hP hS hL
  exact lv_i2b hx hb d hv (g H locs ls hP hS hL)

theorem g_i2s (B : Amb ly Z ad rm X cc Ts own nL ret) {x v : Int32} (d : decode cc pc = .ok (.i2s, 1)) (hv : x.toInt16.toInt32 = v) (g : GG ly Z ad rm X K (pc + 1) (L) (.int v :: st) (τ)) : GG ly Z ad rm X K (pc) (L) (.int x :: st) (τ) := by
  obtain ⟨p, e, s, m, args, below, meth, c, n⟩ := X
  obtain ⟨hx, hb, hml, rfl, hown, hts, hr, hlk, hK, hJ, hE, hEs, hR⟩ := B
  intro H locs ls hP hS hL
  exact lv_i2s hx hb d hv (g H locs ls hP hS hL)

theorem g_ishl (B : Amb ly Z ad rm X cc Ts own nL ret) {x y : Int32} (d : decode cc pc = .ok (.ishl, 1))  (g : GG ly Z ad rm X K (pc + 1) (L) (.int (x <<< (y &&& 31)) :: st) (τ)) : GG ly Z ad rm X K (pc) (L) (.int y :: .int x :: st) (τ) := by
  obtain ⟨p, e, s, m, args, below, meth, c, n⟩ := X
  obtain ⟨hx, hb, hml, rfl, hown, hts, hr, hlk, hK, hJ, hE, hEs, hR⟩ := B
  intro H locs ls hP hS hL
  exact lv_ishl hx hb d  (g H locs ls hP hS hL)

theorem g_ishr (B : Amb ly Z ad rm X cc Ts own nL ret) {x y : Int32} (d : decode cc pc = .ok (.ishr, 1))  (g : GG ly Z ad rm X K (pc + 1) (L) (.int (x >>> (y &&& 31)) :: st) (τ)) : GG ly Z ad rm X K (pc) (L) (.int y :: .int x :: st) (τ) := by
  obtain ⟨p, e, s, m, args, below, meth, c, n⟩ := X
  obtain ⟨hx, hb, hml, rfl, hown, hts, hr, hlk, hK, hJ, hE, hEs, hR⟩ := B
  intro H locs ls hP hS hL
  exact lv_ishr hx hb d  (g H locs ls hP hS hL)

theorem g_iushr (B : Amb ly Z ad rm X cc Ts own nL ret) {x y v : Int32} (d : decode cc pc = .ok (.iushr, 1)) (hv : (x.toUInt32 >>> (y.toUInt32 &&& Int32.toUInt32 31)).toInt32 = v) (g : GG ly Z ad rm X K (pc + 1) (L) (.int v :: st) (τ)) : GG ly Z ad rm X K (pc) (L) (.int y :: .int x :: st) (τ) := by
  obtain ⟨p, e, s, m, args, below, meth, c, n⟩ := X
  obtain ⟨hx, hb, hml, rfl, hown, hts, hr, hlk, hK, hJ, hE, hEs, hR⟩ := B
  intro H locs ls hP hS hL
  exact lv_iushr hx hb d hv (g H locs ls hP hS hL)

theorem g_dup (B : Amb ly Z ad rm X cc Ts own nL ret) {w : Value} (d : decode cc pc = .ok (.dup, 1)) (hc : w.category = 1) (g : GG ly Z ad rm X K (pc + 1) (L) (w :: w :: st) (τ)) : GG ly Z ad rm X K (pc) (L) (w :: st) (τ) := by
  obtain ⟨p, e, s, m, args, below, meth, c, n⟩ := X
  obtain ⟨hx, hb, hml, rfl, hown, hts, hr, hlk, hK, hJ, hE, hEs, hR⟩ := B
  intro H locs ls hP hS hL
  exact lv_dup hx hb d hc (g H locs ls hP hS hL)

theorem g_pop (B : Amb ly Z ad rm X cc Ts own nL ret) {w : Value} (d : decode cc pc = .ok (.pop, 1)) (hc : w.category = 1) (g : GG ly Z ad rm X K (pc + 1) (L) (st) (τ)) : GG ly Z ad rm X K (pc) (L) (w :: st) (τ) := by
  obtain ⟨p, e, s, m, args, below, meth, c, n⟩ := X
  obtain ⟨hx, hb, hml, rfl, hown, hts, hr, hlk, hK, hJ, hE, hEs, hR⟩ := B
  intro H locs ls hP hS hL
  exact lv_pop hx hb d hc (g H locs ls hP hS hL)

theorem g_if_eq (B : Amb ly Z ad rm X cc Ts own nL ret) {x : Int32} {off : Int} {tgt : Nat} (d : decode cc pc = .ok (.ifCond .eq off, 3)) (ht : (pc : Int) + off = (tgt : Int)) (g1 : x = 0 → GG ly Z ad rm X K (tgt) (L) (st) (τ)) (g2 : ¬ x = 0 → GG ly Z ad rm X K (pc + 3) (L) (st) (τ)) : GG ly Z ad rm X K (pc) (L) (.int x :: st) (τ) := by
  obtain ⟨p, e, s, m, args, below, meth, c, n⟩ := X
  obtain ⟨hx, hb, hml, rfl, hown, hts, hr, hlk, hK, hJ, hE, hEs, hR⟩ := B
  intro H locs ls hP hS hL
  exact lv_if_eq hx hb d ht (fun h => g1 h H locs ls hP hS hL) (fun h => g2 h H locs ls hP hS hL)

theorem g_icmp_eq (B : Amb ly Z ad rm X cc Ts own nL ret) {x y : Int32} {off : Int} {tgt : Nat} (d : decode cc pc = .ok (.if_icmp .eq off, 3)) (ht : (pc : Int) + off = (tgt : Int)) (g1 : x = y → GG ly Z ad rm X K (tgt) (L) (st) (τ)) (g2 : ¬ x = y → GG ly Z ad rm X K (pc + 3) (L) (st) (τ)) : GG ly Z ad rm X K (pc) (L) (.int y :: .int x :: st) (τ) := by
  obtain ⟨p, e, s, m, args, below, meth, c, n⟩ := X
  obtain ⟨hx, hb, hml, rfl, hown, hts, hr, hlk, hK, hJ, hE, hEs, hR⟩ := B
  intro H locs ls hP hS hL
  exact lv_icmp_eq hx hb d ht (fun h => g1 h H locs ls hP hS hL) (fun h => g2 h H locs ls hP hS hL)

theorem g_if_ne (B : Amb ly Z ad rm X cc Ts own nL ret) {x : Int32} {off : Int} {tgt : Nat} (d : decode cc pc = .ok (.ifCond .ne off, 3)) (ht : (pc : Int) + off = (tgt : Int)) (g1 : ¬ x = 0 → GG ly Z ad rm X K (tgt) (L) (st) (τ)) (g2 : x = 0 → GG ly Z ad rm X K (pc + 3) (L) (st) (τ)) : GG ly Z ad rm X K (pc) (L) (.int x :: st) (τ) := by
  obtain ⟨p, e, s, m, args, below, meth, c, n⟩ := X
  obtain ⟨hx, hb, hml, rfl, hown, hts, hr, hlk, hK, hJ, hE, hEs, hR⟩ := B
  intro H locs ls hP hS hL
  exact lv_if_ne hx hb d ht (fun h => g1 h H locs ls hP hS hL) (fun h => g2 h H locs ls hP hS hL)

theorem g_icmp_ne (B : Amb ly Z ad rm X cc Ts own nL ret) {x y : Int32} {off : Int} {tgt : Nat} (d : decode cc pc = .ok (.if_icmp .ne off, 3)) (ht : (pc : Int) + off = (tgt : Int)) (g1 : ¬ x = y → GG ly Z ad rm X K (tgt) (L) (st) (τ)) (g2 : x = y → GG ly Z ad rm X K (pc + 3) (L) (st) (τ)) : GG ly Z ad rm X K (pc) (L) (.int y :: .int x :: st) (τ) := by
  obtain ⟨p, e, s, m, args, below, meth, c, n⟩ := X
  obtain ⟨hx, hb, hml, rfl, hown, hts, hr, hlk, hK, hJ, hE, hEs, hR⟩ := B
  intro H locs ls hP hS hL
  exact lv_icmp_ne hx hb d ht (fun h => g1 h H locs ls hP hS hL) (fun h => g2 h H locs ls hP hS hL)

theorem g_if_lt (B : Amb ly Z ad rm X cc Ts own nL ret) {x : Int32} {off : Int} {tgt : Nat} (d : decode cc pc = .ok (.ifCond .lt off, 3)) (ht : (pc : Int) + off = (tgt : Int)) (g1 : x < 0 → GG ly Z ad rm X K (tgt) (L) (st) (τ)) (g2 : ¬ x < 0 → GG ly Z ad rm X K (pc + 3) (L) (st) (τ)) : GG ly Z ad rm X K (pc) (L) (.int x :: st) (τ) := by
  obtain ⟨p, e, s, m, args, below, meth, c, n⟩ := X
  obtain ⟨hx, hb, hml, rfl, hown, hts, hr, hlk, hK, hJ, hE, hEs, hR⟩ := B
  intro H locs ls hP hS hL
  exact lv_if_lt hx hb d ht (fun h => g1 h H locs ls hP hS hL) (fun h => g2 h H locs ls hP hS hL)

theorem g_icmp_lt (B : Amb ly Z ad rm X cc Ts own nL ret) {x y : Int32} {off : Int} {tgt : Nat} (d : decode cc pc = .ok (.if_icmp .lt off, 3)) (ht : (pc : Int) + off = (tgt : Int)) (g1 : x < y → GG ly Z ad rm X K (tgt) (L) (st) (τ)) (g2 : ¬ x < y → GG ly Z ad rm X K (pc + 3) (L) (st) (τ)) : GG ly Z ad rm X K (pc) (L) (.int y :: .int x :: st) (τ) := by
  obtain ⟨p, e, s, m, args, below, meth, c, n⟩ := X
  obtain ⟨hx, hb, hml, rfl, hown, hts, hr, hlk, hK, hJ, hE, hEs, hR⟩ := B
  intro H locs ls hP hS hL
  exact lv_icmp_lt hx hb d ht (fun h => g1 h H locs ls hP hS hL) (fun h => g2 h H locs ls hP hS hL)

theorem g_if_ge (B : Amb ly Z ad rm X cc Ts own nL ret) {x : Int32} {off : Int} {tgt : Nat} (d : decode cc pc = .ok (.ifCond .ge off, 3)) (ht : (pc : Int) + off = (tgt : Int)) (g1 : 0 ≤ x → GG ly Z ad rm X K (tgt) (L) (st) (τ)) (g2 : ¬ 0 ≤ x → GG ly Z ad rm X K (pc + 3) (L) (st) (τ)) : GG ly Z ad rm X K (pc) (L) (.int x :: st) (τ) := by
  obtain ⟨p, e, s, m, args, below, meth, c, n⟩ := X
  obtain ⟨hx, hb, hml, rfl, hown, hts, hr, hlk, hK, hJ, hE, hEs, hR⟩ := B
  intro H locs ls hP hS hL
  exact lv_if_ge hx hb d ht (fun h => g1 h H locs ls hP hS hL) (fun h => g2 h H locs ls hP hS hL)

theorem g_icmp_ge (B : Amb ly Z ad rm X cc Ts own nL ret) {x y : Int32} {off : Int} {tgt : Nat} (d : decode cc pc = .ok (.if_icmp .ge off, 3)) (ht : (pc : Int) + off = (tgt : Int)) (g1 : y ≤ x → GG ly Z ad rm X K (tgt) (L) (st) (τ)) (g2 : ¬ y ≤ x → GG ly Z ad rm X K (pc + 3) (L) (st) (τ)) : GG ly Z ad rm X K (pc) (L) (.int y :: .int x :: st) (τ) := by
  obtain ⟨p, e, s, m, args, below, meth, c, n⟩ := X
  obtain ⟨hx, hb, hml, rfl, hown, hts, hr, hlk, hK, hJ, hE, hEs, hR⟩ := B
  intro H locs ls hP hS hL
  exact lv_icmp_ge hx hb d ht (fun h => g1 h H locs ls hP hS hL) (fun h => g2 h H locs ls hP hS hL)

theorem g_if_gt (B : Amb ly Z ad rm X cc Ts own nL ret) {x : Int32} {off : Int} {tgt : Nat} (d : decode cc pc = .ok (.ifCond .gt off, 3)) (ht : (pc : Int) + off = (tgt : Int)) (g1 : 0 < x → GG ly Z ad rm X K (tgt) (L) (st) (τ)) (g2 : ¬ 0 < x → GG ly Z ad rm X K (pc + 3) (L) (st) (τ)) : GG ly Z ad rm X K (pc) (L) (.int x :: st) (τ) := by
  obtain ⟨p, e, s, m, args, below, meth, c, n⟩ := X
  obtain ⟨hx, hb, hml, rfl, hown, hts, hr, hlk, hK, hJ, hE, hEs, hR⟩ := B
  intro H locs ls hP hS hL
  exact lv_if_gt hx hb d ht (fun h => g1 h H locs ls hP hS hL) (fun h => g2 h H locs ls hP hS hL)

theorem g_icmp_gt (B : Amb ly Z ad rm X cc Ts own nL ret) {x y : Int32} {off : Int} {tgt : Nat} (d : decode cc pc = .ok (.if_icmp .gt off, 3)) (ht : (pc : Int) + off = (tgt : Int)) (g1 : y < x → GG ly Z ad rm X K (tgt) (L) (st) (τ)) (g2 : ¬ y < x → GG ly Z ad rm X K (pc + 3) (L) (st) (τ)) : GG ly Z ad rm X K (pc) (L) (.int y :: .int x :: st) (τ) := by
  obtain ⟨p, e, s, m, args, below, meth, c, n⟩ := X
  obtain ⟨hx, hb, hml, rfl, hown, hts, hr, hlk, hK, hJ, hE, hEs, hR⟩ := B
  intro H locs ls hP hS hL
  exact lv_icmp_gt hx hb d ht (fun h => g1 h H locs ls hP hS hL) (fun h => g2 h H locs ls hP hS hL)

theorem g_if_le (B : Amb ly Z ad rm X cc Ts own nL ret) {x : Int32} {off : Int} {tgt : Nat} (d : decode cc pc = .ok (.ifCond .le off, 3)) (ht : (pc : Int) + off = (tgt : Int)) (g1 : x ≤ 0 → GG ly Z ad rm X K (tgt) (L) (st) (τ)) (g2 : ¬ x ≤ 0 → GG ly Z ad rm X K (pc + 3) (L) (st) (τ)) : GG ly Z ad rm X K (pc) (L) (.int x :: st) (τ) := by
  obtain ⟨p, e, s, m, args, below, meth, c, n⟩ := X
  obtain ⟨hx, hb, hml, rfl, hown, hts, hr, hlk, hK, hJ, hE, hEs, hR⟩ := B
  intro H locs ls hP hS hL
  exact lv_if_le hx hb d ht (fun h => g1 h H locs ls hP hS hL) (fun h => g2 h H locs ls hP hS hL)

theorem g_icmp_le (B : Amb ly Z ad rm X cc Ts own nL ret) {x y : Int32} {off : Int} {tgt : Nat} (d : decode cc pc = .ok (.if_icmp .le off, 3)) (ht : (pc : Int) + off = (tgt : Int)) (g1 : x ≤ y → GG ly Z ad rm X K (tgt) (L) (st) (τ)) (g2 : ¬ x ≤ y → GG ly Z ad rm X K (pc + 3) (L) (st) (τ)) : GG ly Z ad rm X K (pc) (L) (.int y :: .int x :: st) (τ) := by
  obtain ⟨p, e, s, m, args, below, meth, c, n⟩ := X
  obtain ⟨hx, hb, hml, rfl, hown, hts, hr, hlk, hK, hJ, hE, hEs, hR⟩ := B
  intro H locs ls hP hS hL
  exact lv_icmp_le hx hb d ht (fun h => g1 h H locs ls hP hS hL) (fun h => g2 h H locs ls hP hS hL)

theorem g_goto (B : Amb ly Z ad rm X cc Ts own nL ret) {off : Int} {tgt : Nat} (d : decode cc pc = .ok (.goto off, 3)) (ht : (pc : Int) + off = (tgt : Int)) (g : GG ly Z ad rm X K (tgt) (L) (st) (τ)) : GG ly Z ad rm X K (pc) (L) (st) (τ) := by
  obtain ⟨p, e, s, m, args, below, meth, c, n⟩ := X
  obtain ⟨hx, hb, hml, rfl, hown, hts, hr, hlk, hK, hJ, hE, hEs, hR⟩ := B
  intro H locs ls hP hS hL
  exact lv_goto hx hb d ht (g H locs ls hP hS hL)

theorem g_ifnull (B : Amb ly Z ad rm X cc Ts own nL ret) {x : Nat} {off : Int} (d : decode cc pc = .ok (.ifnull off, 3)) (g : GG ly Z ad rm X K (pc + 3) (L) (st) (τ)) : GG ly Z ad rm X K (pc) (L) (.ref x :: st) (τ) := by
  obtain ⟨p, e, s, m, args, below, meth, c, n⟩ := X
  obtain ⟨hx, hb, hml, rfl, hown, hts, hr, hlk, hK, hJ, hE, hEs, hR⟩ := B
  intro H locs ls hP hS hL
  exact lv_ifnull hx hb d (g H locs ls hP hS hL)

theorem g_ifnonnull (B : Amb ly Z ad rm X cc Ts own nL ret) {x : Nat} {off : Int} {tgt : Nat} (d : decode cc pc = .ok (.ifnonnull off, 3)) (ht : (pc : Int) + off = (tgt : Int)) (g : GG ly Z ad rm X K (tgt) (L) (st) (τ)) : GG ly Z ad rm X K (pc) (L) (.ref x :: st) (τ) := by
  obtain ⟨p, e, s, m, args, below, meth, c, n⟩ := X
  obtain ⟨hx, hb, hml, rfl, hown, hts, hr, hlk, hK, hJ, hE, hEs, hR⟩ := B
  intro H locs ls hP hS hL
  exact lv_ifnonnull hx hb d ht (g H locs ls hP hS hL)

theorem g_tableOut (B : Amb ly Z ad rm X cc Ts own nL ret) {dflt lo hi : Int} {offs : Array Int} {len : Nat} {x : Int32} {tgt : Nat} (d : decode cc pc = .ok (.tableswitch dflt lo hi offs, len)) (h : x.toInt < lo ∨ hi < x.toInt) (ht : (pc : Int) + dflt = (tgt : Int)) (g : GG ly Z ad rm X K (tgt) (L) (st) (τ)) : GG ly Z ad rm X K (pc) (L) (.int x :: st) (τ) := by
  obtain ⟨p, e, s, m, args, below, meth, c, n⟩ := X
  obtain ⟨hx, hb, hml, rfl, hown, hts, hr, hlk, hK, hJ, hE, hEs, hR⟩ := B
  intro H locs ls hP hS hL
  exact lv_tableOut hx hb d h ht (g H locs ls hP hS hL)

theorem g_tableIn (B : Amb ly Z ad rm X cc Ts own nL ret) {dflt lo hi : Int} {offs : Array Int} {len : Nat} {x : Int32} {off : Int} {tgt : Nat} (d : decode cc pc = .ok (.tableswitch dflt lo hi offs, len)) (h1 : ¬ x.toInt < lo) (h2 : ¬ hi < x.toInt) (ho : offs[(x.toInt - lo).toNat]? = some off) (ht : (pc : Int) + off = (tgt : Int)) (g : GG ly Z ad rm X K (tgt) (L) (st) (τ)) : GG ly Z ad rm X K (pc) (L) (.int x :: st) (τ) := by
  obtain ⟨p, e, s, m, args, below, meth, c, n⟩ := X
  obtain ⟨hx, hb, hml, rfl, hown, hts, hr, hlk, hK, hJ, hE, hEs, hR⟩ := B
  intro H locs ls hP hS hL
  exact lv_tableIn hx hb d h1 h2 ho ht (g H locs ls hP hS hL)

/-- a switch by a table: each row's continuation -/
def tswAll (G : Nat → Prop) (pc : Nat) (x : Int32) : Int → List Int → Prop
  | _, [] => True
  | lo, off :: r => (x = Int32.ofInt lo → G ((pc : Int) + off).toNat) ∧ tswAll G pc x (lo + 1) r
theorem tswAll_at {G : Nat → Prop} {pc : Nat} {x : Int32} : ∀ (os : List Int) (lo : Int) (j : Nat) (off : Int), tswAll G pc x lo os → os[j]? = some off → x = Int32.ofInt (lo + j) → G ((pc : Int) + off).toNat
  | [], _, j, off, _, h, _ => by simp at h
  | o :: r, lo, 0, off, g, h, hx => by
    simp only [List.getElem?_cons_zero, Option.some.injEq] at h
    subst h
    exact g.1 (by rw [hx]; simp)
  | o :: r, lo, j + 1, off, g, h, hx => by
    simp only [List.getElem?_cons_succ] at h
    refine tswAll_at r (lo + 1) j off g.2 h ?_
    rw [hx]
    congr 1
    omega

theorem g_tsw (B : Amb ly Z ad rm X cc Ts own nL ret) {df lo hi : Int} {offs : Array Int} {len : Nat} {x : Int32} {dt : Nat} (d : decode cc pc = .ok (.tableswitch df lo hi offs, len)) (ht : (pc : Int) + df = (dt : Int)) (hsz : (offs.size : Int) = hi - lo + 1) (hnn : offs.toList.all (fun o => decide (0 ≤ (pc : Int) + o)) = true) (g0 : (x.toInt < lo ∨ hi < x.toInt) → GG ly Z ad rm X K (dt) (L) (st) (τ)) (g1 : tswAll (fun t => GG ly Z ad rm X K (t) (L) (st) (τ)) pc x lo offs.toList) : GG ly Z ad rm X K (pc) (L) (.int x :: st) (τ) := by
  obtain ⟨p, e, s, m, args, below, meth, c, n⟩ := X
  obtain ⟨hx, hb, hml, rfl, hown, hts, hr, hlk, hK, hJ, hE, hEs, hR⟩ := B
  intro H locs ls hP hS hL
  by_cases hout : x.toInt < lo ∨ hi < x.toInt
  · exact lv_tableOut hx hb d hout ht (g0 hout H locs ls hP hS hL)
  · have h1 : ¬ x.toInt < lo := fun h => hout (Or.inl h)
    have h2 : ¬ hi < x.toInt := fun h => hout (Or.inr h)
    have hj : (x.toInt - lo).toNat < offs.size := by omega
    have ho : offs[(x.toInt - lo).toNat]? = some (offs[(x.toInt - lo).toNat]) := Array.getElem?_eq_getElem hj
    have ho2 : offs.toList[(x.toInt - lo).toNat]? = some (offs[(x.toInt - lo).toNat]) := by rw [Array.getElem?_toList]; exact ho
    have hmem := List.mem_of_getElem? ho2
    have hpos := List.all_eq_true.mp hnn _ hmem
    have hpos : 0 ≤ (pc : Int) + offs[(x.toInt - lo).toNat] := by simpa using hpos
    have hxx : x = Int32.ofInt (lo + ((x.toInt - lo).toNat : Nat)) := by
      rw [show lo + ((x.toInt - lo).toNat : Int) = x.toInt by omega]
      exact (Int32.ofInt_toInt x).symm
    exact lv_tableIn hx hb d h1 h2 ho (by omega) (tswAll_at _ _ _ _ g1 ho2 hxx H locs ls hP hS hL)

theorem g_lookup (B : Amb ly Z ad rm X cc Ts own nL ret) {dflt : Int} {ps : Array (Int × Int)} {len : Nat} {x : Int32} {off : Int} {tgt : Nat} (d : decode cc pc = .ok (.lookupswitch dflt ps, len)) (hp : (ps.toList.zip (ps.toList.drop 1)).all (fun (a, next) => a.1 < next.1) = true) (ho : Op.lookupswitch.offset ps.toList dflt x.toInt = off) (ht : (pc : Int) + off = (tgt : Int)) (g : GG ly Z ad rm X K (tgt) (L) (st) (τ)) : GG ly Z ad rm X K (pc) (L) (.int x :: st) (τ) := by
  obtain ⟨p, e, s, m, args, below, meth, c, n⟩ := X
  obtain ⟨hx, hb, hml, rfl, hown, hts, hr, hlk, hK, hJ, hE, hEs, hR⟩ := B
  intro H locs ls hP hS hL
  exact lv_lookup hx hb d hp ho ht (g H locs ls hP hS hL)

theorem g_ldc (B : Amb ly Z ad rm X cc Ts own nL ret) {i : Nat} {v : Int32} (d : decode cc pc = .ok (.ldc i, 2)) (hw : Cond.constant own i v ∈ Ts) (g : GG ly Z ad rm X K (pc + 2) (L) (.int v :: st) (τ)) : GG ly Z ad rm X K (pc) (L) (st) (τ) := by
  obtain ⟨p, e, s, m, args, below, meth, c, n⟩ := X
  obtain ⟨hx, hb, hml, rfl, hown, hts, hr, hlk, hK, hJ, hE, hEs, hR⟩ := B
  intro H locs ls hP hS hL
  exact lv_ldc hx hb hown (hts _ hw) d (g H locs ls hP hS hL)

theorem g_ldcw (B : Amb ly Z ad rm X cc Ts own nL ret) {i : Nat} {v : Int32} (d : decode cc pc = .ok (.ldc_w i, 3)) (hw : Cond.constant own i v ∈ Ts) (g : GG ly Z ad rm X K (pc + 3) (L) (.int v :: st) (τ)) : GG ly Z ad rm X K (pc) (L) (st) (τ) := by
  obtain ⟨p, e, s, m, args, below, meth, c, n⟩ := X
  obtain ⟨hx, hb, hml, rfl, hown, hts, hr, hlk, hK, hJ, hE, hEs, hR⟩ := B
  intro H locs ls hP hS hL
  exact lv_ldcw hx hb hown (hts _ hw) d (g H locs ls hP hS hL)

theorem g_ldc2 (B : Amb ly Z ad rm X cc Ts own nL ret) {i : Nat} {v : Int64} (d : decode cc pc = .ok (.ldc2_w i, 3)) (hw : Cond.constantLong own i v ∈ Ts) (g : GG ly Z ad rm X K (pc + 3) (L) (.long v :: st) (τ)) : GG ly Z ad rm X K (pc) (L) (st) (τ) := by
  obtain ⟨p, e, s, m, args, below, meth, c, n⟩ := X
  obtain ⟨hx, hb, hml, rfl, hown, hts, hr, hlk, hK, hJ, hE, hEs, hR⟩ := B
  intro H locs ls hP hS hL
  exact lv_ldc2 hx hb hown (hts _ hw) d (g H locs ls hP hS hL)

theorem g_lcmp (B : Amb ly Z ad rm X cc Ts own nL ret) {x y : Int64} (d : decode cc pc = .ok (.lcmp, 1))  (g : GG ly Z ad rm X K (pc + 1) (L) (.int (lg_cmp x y) :: st) (τ)) : GG ly Z ad rm X K (pc) (L) (.long y :: .long x :: st) (τ) := by
  obtain ⟨p, e, s, m, args, below, meth, c, n⟩ := X
  obtain ⟨hx, hb, hml, rfl, hown, hts, hr, hlk, hK, hJ, hE, hEs, hR⟩ := B
  intro H locs ls hP hS hL
  exact W.lcmp hx hb d  (g H locs ls hP hS hL)

theorem g_getI (B : Amb ly Z ad rm X cc Ts own nL ret) {C : String} {T : u_T} {N ci idx o : Nat} {ks : List Nat} (d : decode cc pc = .ok (.getfield idx, 3)) (ho : o < ly.2) (hl : ly.1 o = .inl (ci, ks)) (hin : ∀ w ∈ u_ws C T N, w ∈ Ts) (hc : vwCl[ci]? = some (C, T, N)) (k : Nat) (hk : k < N) (hlink : Cond.fieldLink own idx (T k).1 (T k).2.1 (T k).2.2.1 ∈ Ts) (hkk : ks[k]? = some 0) (g : GG ly Z ad rm X K (pc + 3) (L) (.int (τ.1 o k) :: st) (τ)) : GG ly Z ad rm X K (pc) (L) (.ref (ad o) :: st) (τ) := by
  obtain ⟨p, e, s, m, args, below, meth, c, n⟩ := X
  obtain ⟨hx, hb, hml, rfl, hown, hts, hr, hlk, hK, hJ, hE, hEs, hR⟩ := B
  intro H locs ls hP hS hL
  have hat : (gws ly Z ad τ)[o]? = some (ad o, .inr (ci, gfs ad τ o ks)) := by rw [gws_at ho, hl]; rfl
  exact va_get (D := Z.2.1) hx hb hts hin hown hK.1 hP o hat hc k hk (hts _ hlink) (fun _ h9 => h9) (gfs_at hkk) d (g H locs ls hP hS hL)

theorem g_getL (B : Amb ly Z ad rm X cc Ts own nL ret) {C : String} {T : u_T} {N ci idx o : Nat} {ks : List Nat} (d : decode cc pc = .ok (.getfield idx, 3)) (ho : o < ly.2) (hl : ly.1 o = .inl (ci, ks)) (hin : ∀ w ∈ u_ws C T N, w ∈ Ts) (hc : vwCl[ci]? = some (C, T, N)) (k : Nat) (hk : k < N) (hlink : Cond.fieldLink own idx (T k).1 (T k).2.1 (T k).2.2.1 ∈ Ts) (hkk : ks[k]? = some 1) (g : GG ly Z ad rm X K (pc + 3) (L) (.long τ.2.1 :: st) (τ)) : GG ly Z ad rm X K (pc) (L) (.ref (ad o) :: st) (τ) := by
  obtain ⟨p, e, s, m, args, below, meth, c, n⟩ := X
  obtain ⟨hx, hb, hml, rfl, hown, hts, hr, hlk, hK, hJ, hE, hEs, hR⟩ := B
  intro H locs ls hP hS hL
  have hat : (gws ly Z ad τ)[o]? = some (ad o, .inr (ci, gfs ad τ o ks)) := by rw [gws_at ho, hl]; rfl
  exact va_get (D := Z.2.1) hx hb hts hin hown hK.1 hP o hat hc k hk (hts _ hlink) (fun _ h9 => h9) (gfs_at hkk) d (g H locs ls hP hS hL)

theorem g_getR (B : Amb ly Z ad rm X cc Ts own nL ret) {C : String} {T : u_T} {N ci idx o : Nat} {ks : List Nat} {r : Nat} (d : decode cc pc = .ok (.getfield idx, 3)) (ho : o < ly.2) (hl : ly.1 o = .inl (ci, ks)) (hin : ∀ w ∈ u_ws C T N, w ∈ Ts) (hc : vwCl[ci]? = some (C, T, N)) (k : Nat) (hk : k < N) (hlink : Cond.fieldLink own idx (T k).1 (T k).2.1 (T k).2.2.1 ∈ Ts) (hkk : ks[k]? = some (r + 3)) (g : GG ly Z ad rm X K (pc + 3) (L) (.ref (ad r) :: st) (τ)) : GG ly Z ad rm X K (pc) (L) (.ref (ad o) :: st) (τ) := by
  obtain ⟨p, e, s, m, args, below, meth, c, n⟩ := X
  obtain ⟨hx, hb, hml, rfl, hown, hts, hr, hlk, hK, hJ, hE, hEs, hR⟩ := B
  intro H locs ls hP hS hL
  have hat : (gws ly Z ad τ)[o]? = some (ad o, .inr (ci, gfs ad τ o ks)) := by rw [gws_at ho, hl]; rfl
  exact va_get (D := Z.2.1) hx hb hts hin hown hK.1 hP o hat hc k hk (hts _ hlink) (fun _ h9 => h9) (gfs_at hkk) d (g H locs ls hP hS hL)

theorem g_getD (B : Amb ly Z ad rm X cc Ts own nL ret) {C : String} {T : u_T} {N ci idx o : Nat} {ks : List Nat} {r : Nat} (d : decode cc pc = .ok (.getfield idx, 3)) (ho : o < ly.2) (hl : ly.1 o = .inl (ci, ks)) (hin : ∀ w ∈ u_ws C T N, w ∈ Ts) (hc : vwCl[ci]? = some (C, T, N)) (k : Nat) (hk : k < N) (hlink : Cond.fieldLink own idx (T k).1 (T k).2.1 (T k).2.2.1 ∈ Ts) (hkk : ks[k]? = some 2) (hr2 : τ.2.2 = some r) (g : GG ly Z ad rm X K (pc + 3) (L) (.ref (ad r) :: st) (τ)) : GG ly Z ad rm X K (pc) (L) (.ref (ad o) :: st) (τ) := by
  obtain ⟨p, e, s, m, args, below, meth, c, n⟩ := X
  obtain ⟨hx, hb, hml, rfl, hown, hts, hr, hlk, hK, hJ, hE, hEs, hR⟩ := B
  intro H locs ls hP hS hL
  have hat : (gws ly Z ad τ)[o]? = some (ad o, .inr (ci, gfs ad τ o ks)) := by rw [gws_at ho, hl]; rfl
  have hv := gfs_at (ad := ad) (τ := τ) (o := o) hkk
  simp only [gv, hr2, Option.map_some, va_rf] at hv
  exact va_get (D := Z.2.1) hx hb hts hin hown hK.1 hP o hat hc k hk (hts _ hlink) (fun _ h9 => h9) hv d (g H locs ls hP hS hL)

theorem g_putI (B : Amb ly Z ad rm X cc Ts own nL ret) {C : String} {T : u_T} {N ci idx o : Nat} {ks : List Nat} {ty0 : Nat → FieldType} {v : Int32} (d : decode cc pc = .ok (.putfield idx, 3)) (ho : o < ly.2) (hl : ly.1 o = .inl (ci, ks)) (hin : ∀ w ∈ u_ws C T N, w ∈ Ts) (hc : vwCl[ci]? = some (C, T, N)) (k : Nat) (hk : k < N) (hlink : Cond.fieldLink own idx (T k).1 (T k).2.1 (T k).2.2.1 ∈ Ts) (hty : ∀ k, k < N → parseFieldDescriptor (T k).2.2.1 = some (ty0 k)) (hnm : ∀ a, a < N → ∀ b, b < N → a ≠ b → (T a).2.1 ≠ (T b).2.1) (hfin : (T k).2.2.2 = false) (hd : narrow (ty0 k) (.int v) = .int v ∧ fits (ty0 k) (.int v) = true) (hkk : ks[k]? = some 0) (g : GG ly Z ad rm X K (pc + 3) (L) (st) (upS τ o k v)) : GG ly Z ad rm X K (pc) (L) (.int v :: .ref (ad o) :: st) (τ) := by
  obtain ⟨p, e, s, m, args, below, meth, c, n⟩ := X
  obtain ⟨hx, hb, hml, rfl, hown, hts, hr, hlk, hK, hJ, hE, hEs, hR⟩ := B
  intro H locs ls hP hS hL
  have hat : (gws ly Z ad τ)[o]? = some (ad o, .inr (ci, gfs ad τ o ks)) := by rw [gws_at ho, hl]; rfl
  have hD := gws_D (ly := ly) (Z := Z) (ad := ad) (τ := τ) (A := gA ad ly.2 s.heap.size) hJ (fun o h => gA_in h)
  have he : gcell Z ad (upS τ o k v) o (ly.1 o) = .inr (ci, (gfs ad τ o ks).set k (.int v)) := by rw [hl]; simp only [gcell]; rw [gfs_put hkk]
  refine va_put (D := Z.2.1) hx hb hts hin ty0 hty hnm hown hK.1 hP hD hS o hat hc k hk (hts _ hlink) (fun _ h9 => h9) hfin (hty k hk) hd.1 hd.2 (by rw [gfs_len]; exact (List.getElem?_eq_some_iff.mp hkk).1) d (fun H1 locs1 hP1 _ hS1 => g H1 locs1 ls ?_ hS1 hL)
  rw [gws_set he (fun o' _ h => upS_other h)] at hP1
  exact hP1

def gnl : LO → Bool
  | .inl (_, ks) => ks.all (fun k => k != 1)
  | _ => true
theorem gcell_noL {Z : LZ} {ad : Nat → Nat} {τ : St} {o : Nat} {v : Int64} {q : LO} (h : gnl q = true) : gcell Z ad (upL τ v) o q = gcell Z ad τ o q := by
  match q, h with
  | .inl (ci, ks), h =>
    simp only [gcell, gfs]
    congr 2
    apply List.map_congr_left
    intro k hk
    have hk2 : k < ks.length := by simpa using hk
    have h1 := List.all_eq_true.mp h (ks.getD k 0) (by rw [List.getD_eq_getElem?_getD, List.getElem?_eq_getElem hk2]; simp)
    generalize ks.getD k 0 = kd at h1
    match kd, h1 with
    | 0, _ => rfl
    | 1, h1 => simp at h1
    | 2, _ => rfl
    | r + 3, _ => rfl
  | .inr (_, (n, none)), _ => rfl
  | .inr (_, (n, some rs)), _ => rfl
theorem gfs_putL {ad : Nat → Nat} {τ : St} {o k : Nat} {ks : List Nat} {v : Int64} (h : ks[k]? = some 1) (hu : (List.range ks.length).all (fun j => j == k || ks.getD j 0 != 1) = true) : gfs ad (upL τ v) o ks = (gfs ad τ o ks).set k (.long v) := by
  apply List.ext_getElem?
  intro j
  by_cases hj : j < ks.length
  · rw [gfs_at (List.getElem?_eq_getElem hj)]
    by_cases hjk : j = k
    · subst hjk
      rw [List.getElem?_set_self (by rw [gfs_len]; exact hj)]
      have : ks[j] = 1 := (List.getElem?_eq_some_iff.mp h).2
      rw [this]
      rfl
    · rw [List.getElem?_set_ne (Ne.symm hjk), gfs_at (List.getElem?_eq_getElem hj)]
      congr 1
      have h1 := List.all_eq_true.mp hu j (by simpa using hj)
      rw [List.getD_eq_getElem?_getD, List.getElem?_eq_getElem hj] at h1
      simp only [Option.getD_some] at h1
      generalize ks[j] = kd at h1
      match kd, h1 with
      | 0, _ => rfl
      | 1, h1 => simp [hjk] at h1
      | 2, _ => rfl
      | r + 3, _ => rfl
  · rw [List.getElem?_eq_none (by rw [gfs_len]; omega), List.getElem?_eq_none (by rw [List.length_set, gfs_len]; omega)]

theorem g_putL (B : Amb ly Z ad rm X cc Ts own nL ret) {C : String} {T : u_T} {N ci idx o : Nat} {ks : List Nat} {ty0 : Nat → FieldType} {v : Int64} (d : decode cc pc = .ok (.putfield idx, 3)) (ho : o < ly.2) (hl : ly.1 o = .inl (ci, ks)) (hin : ∀ w ∈ u_ws C T N, w ∈ Ts) (hc : vwCl[ci]? = some (C, T, N)) (k : Nat) (hk : k < N) (hlink : Cond.fieldLink own idx (T k).1 (T k).2.1 (T k).2.2.1 ∈ Ts) (hty : ∀ k, k < N → parseFieldDescriptor (T k).2.2.1 = some (ty0 k)) (hnm : ∀ a, a < N → ∀ b, b < N → a ≠ b → (T a).2.1 ≠ (T b).2.1) (hfin : (T k).2.2.2 = false) (hd : narrow (ty0 k) (.long v) = .long v ∧ fits (ty0 k) (.long v) = true) (hkk : ks[k]? = some 1) (hu1 : (List.range ly.2).all (fun j => j == o || gnl (ly.1 j)) = true) (hu2 : (List.range ks.length).all (fun j => j == k || ks.getD j 0 != 1) = true) (g : GG ly Z ad rm X K (pc + 3) (L) (st) (upL τ v)) : GG ly Z ad rm X K (pc) (L) (.long v :: .ref (ad o) :: st) (τ) := by
  obtain ⟨p, e, s, m, args, below, meth, c, n⟩ := X
  obtain ⟨hx, hb, hml, rfl, hown, hts, hr, hlk, hK, hJ, hE, hEs, hR⟩ := B
  intro H locs ls hP hS hL
  have hat : (gws ly Z ad τ)[o]? = some (ad o, .inr (ci, gfs ad τ o ks)) := by rw [gws_at ho, hl]; rfl
  have hD := gws_D (ly := ly) (Z := Z) (ad := ad) (τ := τ) (A := gA ad ly.2 s.heap.size) hJ (fun o h => gA_in h)
  have he : gcell Z ad (upL τ v) o (ly.1 o) = .inr (ci, (gfs ad τ o ks).set k (.long v)) := by rw [hl]; simp only [gcell]; rw [gfs_putL hkk hu2]
  refine va_put (D := Z.2.1) hx hb hts hin ty0 hty hnm hown hK.1 hP hD hS o hat hc k hk (hts _ hlink) (fun _ h9 => h9) hfin (hty k hk) hd.1 hd.2 (by rw [gfs_len]; exact (List.getElem?_eq_some_iff.mp hkk).1) d (fun H1 locs1 hP1 _ hS1 => g H1 locs1 ls ?_ hS1 hL)
  rw [gws_set he (fun o' ho' h => gcell_noL (by
    have h1 := List.all_eq_true.mp hu1 o' (by simpa using ho')
    simpa [h] using h1))] at hP1
  exact hP1

theorem g_iald (B : Amb ly Z ad rm X cc Ts own nL ret) {o na : Nat} {i : Int32} (d : decode cc pc = .ok (.iaload, 1)) (ho : o < ly.2) (hl : ly.1 o = .inr (.int, (na, none))) (hi : vp_in i na) (g : GG ly Z ad rm X K (pc + 1) (L) (.int (τ.1 o i.toNatClampNeg) :: st) (τ)) : GG ly Z ad rm X K (pc) (L) (.int i :: .ref (ad o) :: st) (τ) := by
  obtain ⟨p, e, s, m, args, below, meth, c, n⟩ := X
  obtain ⟨hx, hb, hml, rfl, hown, hts, hr, hlk, hK, hJ, hE, hEs, hR⟩ := B
  intro H locs ls hP hS hL
  have hat : (gws ly Z ad τ)[o]? = some (ad o, .inl (Z.2.2.1 o, (na, .inl (τ.1 o)))) := by rw [gws_at ho, hl]; rfl
  exact va_iald (D := Z.2.1) hx hb (hK.2 o ho _ _ hl) hP o 0 hat rfl hi d (g H locs ls hP hS hL)

theorem g_zald (B : Amb ly Z ad rm X cc Ts own nL ret) {o na : Nat} {i : Int32} (d : decode cc pc = .ok (.baload, 1)) (ho : o < ly.2) (hl : ly.1 o = .inr (.boolean, (na, none))) (hi : vp_in i na) (g : GG ly Z ad rm X K (pc + 1) (L) (.int (τ.1 o i.toNatClampNeg) :: st) (τ)) : GG ly Z ad rm X K (pc) (L) (.int i :: .ref (ad o) :: st) (τ) := by
  obtain ⟨p, e, s, m, args, below, meth, c, n⟩ := X
  obtain ⟨hx, hb, hml, rfl, hown, hts, hr, hlk, hK, hJ, hE, hEs, hR⟩ := B
  intro H locs ls hP hS hL
  have hat : (gws ly Z ad τ)[o]? = some (ad o, .inl (Z.2.2.1 o, (na, .inl (τ.1 o)))) := by rw [gws_at ho, hl]; rfl
  exact va_zald (D := Z.2.1) hx hb (hK.2 o ho _ _ hl) hP o 0 hat rfl hi d (g H locs ls hP hS hL)

theorem g_iast (B : Amb ly Z ad rm X cc Ts own nL ret) {o na : Nat} {i x : Int32} (d : decode cc pc = .ok (.iastore, 1)) (ho : o < ly.2) (hl : ly.1 o = .inr (.int, (na, none))) (hi : vp_in i na) (g : GG ly Z ad rm X K (pc + 1) (L) (st) (upS τ o i.toNatClampNeg x)) : GG ly Z ad rm X K (pc) (L) (.int x :: .int i :: .ref (ad o) :: st) (τ) := by
  obtain ⟨p, e, s, m, args, below, meth, c, n⟩ := X
  obtain ⟨hx, hb, hml, rfl, hown, hts, hr, hlk, hK, hJ, hE, hEs, hR⟩ := B
  intro H locs ls hP hS hL
  have hat : (gws ly Z ad τ)[o]? = some (ad o, .inl (Z.2.2.1 o, (na, .inl (τ.1 o)))) := by rw [gws_at ho, hl]; rfl
  have hD := gws_D (ly := ly) (Z := Z) (ad := ad) (τ := τ) (A := gA ad ly.2 s.heap.size) hJ (fun o h => gA_in h)
  have he : gcell Z ad (upS τ o i.toNatClampNeg x) o (ly.1 o) = .inl (Z.2.2.1 o, (na, .inl (upd (τ.1 o) i.toNatClampNeg x))) := by
    have hf : va_up τ.1 o (va_up (τ.1 o) i.toNatClampNeg x) o = upd (τ.1 o) i.toNatClampNeg x := by
      funext j
      simp [va_up, upd]
    rw [hl]
    simp only [gcell, upS]
    rw [hf]
  refine va_iast (D := Z.2.1) hx hb (hK.2 o ho _ _ hl) hP hD hS o 0 hat rfl hi d (fun H1 locs1 hP1 _ hS1 => g H1 locs1 ls ?_ hS1 hL)
  rw [gws_set he (fun o' _ h => upS_other h)] at hP1
  exact hP1

theorem g_zast (B : Amb ly Z ad rm X cc Ts own nL ret) {o na : Nat} {i x : Int32} (d : decode cc pc = .ok (.bastore, 1)) (ho : o < ly.2) (hl : ly.1 o = .inr (.boolean, (na, none))) (hi : vp_in i na) (g : GG ly Z ad rm X K (pc + 1) (L) (st) (upS τ o i.toNatClampNeg (vp_nar .boolean x))) : GG ly Z ad rm X K (pc) (L) (.int x :: .int i :: .ref (ad o) :: st) (τ) := by
  obtain ⟨p, e, s, m, args, below, meth, c, n⟩ := X
  obtain ⟨hx, hb, hml, rfl, hown, hts, hr, hlk, hK, hJ, hE, hEs, hR⟩ := B
  intro H locs ls hP hS hL
  have hat : (gws ly Z ad τ)[o]? = some (ad o, .inl (Z.2.2.1 o, (na, .inl (τ.1 o)))) := by rw [gws_at ho, hl]; rfl
  have hD := gws_D (ly := ly) (Z := Z) (ad := ad) (τ := τ) (A := gA ad ly.2 s.heap.size) hJ (fun o h => gA_in h)
  have he : gcell Z ad (upS τ o i.toNatClampNeg (vp_nar .boolean x)) o (ly.1 o) = .inl (Z.2.2.1 o, (na, .inl (upd (τ.1 o) i.toNatClampNeg (vp_nar .boolean x)))) := by
    have hf : va_up τ.1 o (va_up (τ.1 o) i.toNatClampNeg (vp_nar .boolean x)) o = upd (τ.1 o) i.toNatClampNeg (vp_nar .boolean x) := by
      funext j
      simp [va_up, upd]
    rw [hl]
    simp only [gcell, upS]
    rw [hf]
  refine va_zast (D := Z.2.1) hx hb (hK.2 o ho _ _ hl) hP hD hS o 0 hat rfl hi d (fun H1 locs1 hP1 _ hS1 => g H1 locs1 ls ?_ hS1 hL)
  rw [gws_set he (fun o' _ h => upS_other h)] at hP1
  exact hP1

theorem g_aald (B : Amb ly Z ad rm X cc Ts own nL ret) {o na : Nat} {rs : Nat → Nat} {i : Int32} {C : String} (d : decode cc pc = .ok (.aaload, 1)) (ho : o < ly.2) (hl : ly.1 o = .inr (.object C, (na, some rs))) (hi : vp_in i na) (g : GG ly Z ad rm X K (pc + 1) (L) (.ref (ad (rs i.toNatClampNeg)) :: st) (τ)) : GG ly Z ad rm X K (pc) (L) (.int i :: .ref (ad o) :: st) (τ) := by
  obtain ⟨p, e, s, m, args, below, meth, c, n⟩ := X
  obtain ⟨hx, hb, hml, rfl, hown, hts, hr, hlk, hK, hJ, hE, hEs, hR⟩ := B
  intro H locs ls hP hS hL
  have hat : (gws ly Z ad τ)[o]? = some (ad o, .inl (Z.2.2.1 o, (na, .inr (.inr (.inr (.inr (fun j => some (ad (rs j))))))))) := by rw [gws_at ho, hl]; rfl
  exact va_aldq (D := Z.2.1) hx hb (hK.2 o ho _ _ hl) hP o 0 hat rfl hi d (g H locs ls hP hS hL)

theorem g_alen (B : Amb ly Z ad rm X cc Ts own nL ret) {o : Nat} {ty : FieldType} {na : Nat} {v : Int32} (d : decode cc pc = .ok (.arraylength, 1)) (ho : o < ly.2) (hl : ly.1 o = .inr (ty, (na, none))) (hv : Int32.ofNat na = v) (g : GG ly Z ad rm X K (pc + 1) (L) (.int v :: st) (τ)) : GG ly Z ad rm X K (pc) (L) (.ref (ad o) :: st) (τ) := by
  obtain ⟨p, e, s, m, args, below, meth, c, n⟩ := X
  obtain ⟨hx, hb, hml, rfl, hown, hts, hr, hlk, hK, hJ, hE, hEs, hR⟩ := B
  intro H locs ls hP hS hL
  have hat : (gws ly Z ad τ)[o]? = some (ad o, .inl (Z.2.2.1 o, (na, .inl (τ.1 o)))) := by rw [gws_at ho, hl]; rfl
  exact va_alen (D := Z.2.1) hx hb (hK.2 o ho _ _ hl) hP o 0 hat rfl hv d (g H locs ls hP hS hL)

theorem g_alenR (B : Amb ly Z ad rm X cc Ts own nL ret) {o : Nat} {ty : FieldType} {na : Nat} {rs : Nat → Nat} {v : Int32} (d : decode cc pc = .ok (.arraylength, 1)) (ho : o < ly.2) (hl : ly.1 o = .inr (ty, (na, some rs))) (hv : Int32.ofNat na = v) (g : GG ly Z ad rm X K (pc + 1) (L) (.int v :: st) (τ)) : GG ly Z ad rm X K (pc) (L) (.ref (ad o) :: st) (τ) := by
  obtain ⟨p, e, s, m, args, below, meth, c, n⟩ := X
  obtain ⟨hx, hb, hml, rfl, hown, hts, hr, hlk, hK, hJ, hE, hEs, hR⟩ := B
  intro H locs ls hP hS hL
  have hat : (gws ly Z ad τ)[o]? = some (ad o, .inl (Z.2.2.1 o, (na, .inr (.inr (.inr (.inr (fun j => some (ad (rs j))))))))) := by rw [gws_at ho, hl]; rfl
  exact va_alen (D := Z.2.1) hx hb (hK.2 o ho _ _ hl) hP o 0 hat rfl hv d (g H locs ls hP hS hL)

theorem g_iret {x : Int32} (B : Amb ly Z ad rm X cc Ts own nL (some .int)) (d : decode cc pc = .ok (.ireturn, 1))  (g : K (some (.int x)) τ) : GG ly Z ad rm X K pc L ([.int x]) τ := by
  obtain ⟨p, e, s, m, args, below, meth, c, n⟩ := X
  obtain ⟨hx, hb, hml, rfl, hown, hts, hr, hlk, hK, hJ, hE, hEs, hR⟩ := B
  intro H locs ls hP hS hL
  exact W.iret (v := x) hx hb hr (fun t ht hW => ⟨⟨_, rfl, τ, g, by rw [ht]; exact hP, hK.moved hW.alike⟩, hS.F ht⟩) hS.2.2 d hlk

theorem g_zret {x : Int32} {ty : FieldType} (B : Amb ly Z ad rm X cc Ts own nL (some ty)) (d : decode cc pc = .ok (.ireturn, 1)) (hn : narrow ty (.int x) = .int x) (g : K (some (.int x)) τ) : GG ly Z ad rm X K pc L ([.int x]) τ := by
  obtain ⟨p, e, s, m, args, below, meth, c, n⟩ := X
  obtain ⟨hx, hb, hml, rfl, hown, hts, hr, hlk, hK, hJ, hE, hEs, hR⟩ := B
  intro H locs ls hP hS hL
  exact W.zret (v := x) hx hb hr hn (fun t ht hW => ⟨⟨_, rfl, τ, g, by rw [ht]; exact hP, hK.moved hW.alike⟩, hS.F ht⟩) hS.2.2 d hlk

theorem g_lret {x : Int64} (B : Amb ly Z ad rm X cc Ts own nL (some .long)) (d : decode cc pc = .ok (.lreturn, 1))  (g : K (some (.long x)) τ) : GG ly Z ad rm X K pc L ([.long x]) τ := by
  obtain ⟨p, e, s, m, args, below, meth, c, n⟩ := X
  obtain ⟨hx, hb, hml, rfl, hown, hts, hr, hlk, hK, hJ, hE, hEs, hR⟩ := B
  intro H locs ls hP hS hL
  exact W.lret (v := x) hx hb hr (fun t ht hW => ⟨⟨_, rfl, τ, g, by rw [ht]; exact hP, hK.moved hW.alike⟩, hS.F ht⟩) hS.2.2 d hlk

theorem g_vret  (B : Amb ly Z ad rm X cc Ts own nL (none)) (d : decode cc pc = .ok (.return_, 1))  (g : K (none) τ) : GG ly Z ad rm X K pc L ([]) τ := by
  obtain ⟨p, e, s, m, args, below, meth, c, n⟩ := X
  obtain ⟨hx, hb, hml, rfl, hown, hts, hr, hlk, hK, hJ, hE, hEs, hR⟩ := B
  intro H locs ls hP hS hL
  exact W.vret hx hb hr (fun t ht hW => ⟨⟨_, rfl, τ, g, by rw [ht]; exact hP, hK.moved hW.alike⟩, hS.F ht⟩) hS.2.2 d hlk

theorem g_aret {x : Nat} {ty : FieldType} (B : Amb ly Z ad rm X cc Ts own nL (some ty)) (d : decode cc pc = .ok (.areturn, 1)) (hty : (∃ n, ty = .object n) ∨ ∃ t, ty = .array t) (g : K (some (.ref x)) τ) : GG ly Z ad rm X K pc L ([.ref x]) τ := by
  obtain ⟨p, e, s, m, args, below, meth, c, n⟩ := X
  obtain ⟨hx, hb, hml, rfl, hown, hts, hr, hlk, hK, hJ, hE, hEs, hR⟩ := B
  intro H locs ls hP hS hL
  exact W.aret (v := .ref x) hx hb hr hty (Or.inr ⟨_, rfl⟩) (fun t ht hW => ⟨⟨_, rfl, τ, g, by rw [ht]; exact hP, hK.moved hW.alike⟩, hS.F ht⟩) hS.2.2 d hlk

theorem g_ireti {K0 : Int32 → St → Prop} (B : Amb ly Z ad rm X cc Ts own nL (some .int)) {x : Int32} (d : decode cc pc = .ok (.ireturn, 1)) (g : K0 x τ) : GG ly Z ad rm X (rI K0) pc L [.int x] τ := g_iret B d ⟨x, rfl, g⟩
theorem g_zreti {K0 : Int32 → St → Prop} {ty : FieldType} (B : Amb ly Z ad rm X cc Ts own nL (some ty)) {x : Int32} (d : decode cc pc = .ok (.ireturn, 1)) (hn : narrow ty (.int x) = .int x) (g : K0 x τ) : GG ly Z ad rm X (rI K0) pc L [.int x] τ := g_zret B d hn ⟨x, rfl, g⟩
theorem g_lreti {K0 : Int64 → St → Prop} (B : Amb ly Z ad rm X cc Ts own nL (some .long)) {x : Int64} (d : decode cc pc = .ok (.lreturn, 1)) (g : K0 x τ) : GG ly Z ad rm X (rL K0) pc L [.long x] τ := g_lret B d ⟨x, rfl, g⟩
theorem g_vreti {K0 : St → Prop} (B : Amb ly Z ad rm X cc Ts own nL none) (d : decode cc pc = .ok (.return_, 1)) (g : K0 τ) : GG ly Z ad rm X (rV K0) pc L [] τ := g_vret B d ⟨rfl, g⟩
theorem g_areti {K0 : Nat → St → Prop} {ty : FieldType} (B : Amb ly Z ad rm X cc Ts own nL (some ty)) {x : Nat} (d : decode cc pc = .ok (.areturn, 1)) (hty : (∃ n, ty = .object n) ∨ ∃ t, ty = .array t) (g : K0 x τ) : GG ly Z ad rm X (rR K0) pc L [.ref x] τ := g_aret B d hty ⟨x, rfl, g⟩

theorem g_topi {x : Int32} (g : ∀ y : Int32, y = x → GG ly Z ad rm X K (pc) (L) (.int y :: st) (τ)) : GG ly Z ad rm X K (pc) (L) (.int x :: st) (τ) := g x rfl
theorem g_drop (i : Nat) (g : GG ly Z ad rm X K (pc) (L.set i none) (st) (τ)) : GG ly Z ad rm X K (pc) (L) (st) (τ) := by
  obtain ⟨p, e, s, m, args, below, meth, c, n⟩ := X
  exact fun H locs ls hP hS hL => g H locs ls hP hS (gL_drop hL)

theorem g_mmax (B : Amb ly Z ad rm X cc Ts own nL ret) {idx : Nat} {x y : Int32} (d : decode cc pc = .ok (.invokestatic idx, 3)) (hw : Cond.methodLink own idx Lib.Math.max.name ∈ Ts ∧ Cond.static Lib.Math.max.name ∈ Ts ∧ Cond.initialized "java/lang/Math" ∈ Ts ∧ Cond.code Lib.Math.max.name Lib.Math.max.code 2 (some .int) ∈ Ts) (hrm : 1 ≤ rm.frames ∧ (st.map fun v => v.category).sum + 13 ≤ rm.locals) (g : GG ly Z ad rm X K (pc + 3) (L) (.int (if x < y then y else x) :: st) (τ)) : GG ly Z ad rm X K (pc) (L) (.int y :: .int x :: st) (τ) := by
  obtain ⟨p, e, s, m, args, below, meth, c, n⟩ := X
  obtain ⟨hx, hb, hml, rfl, hown, hts, hr, hlk, hK, hJ, hE, hEs, hR⟩ := B
  intro H locs ls hP hS hL
  exact va_mmax hx hb (hml.trans hL.1.symm) hown (hts _ hw.1) (hts _ hw.2.1) (hts _ hw.2.2.1) (hts _ hw.2.2.2) hrm.1 hrm.2 (Nat.zero_le _) (Nat.zero_le _) d (g H locs ls hP hS hL)

theorem g_mmin (B : Amb ly Z ad rm X cc Ts own nL ret) {idx : Nat} {x y : Int32} (d : decode cc pc = .ok (.invokestatic idx, 3)) (hw : Cond.methodLink own idx Lib.Math.min.name ∈ Ts ∧ Cond.static Lib.Math.min.name ∈ Ts ∧ Cond.initialized "java/lang/Math" ∈ Ts ∧ Cond.code Lib.Math.min.name Lib.Math.min.code 2 (some .int) ∈ Ts) (hrm : 1 ≤ rm.frames ∧ (st.map fun v => v.category).sum + 13 ≤ rm.locals) (g : GG ly Z ad rm X K (pc + 3) (L) (.int (if y < x then y else x) :: st) (τ)) : GG ly Z ad rm X K (pc) (L) (.int y :: .int x :: st) (τ) := by
  obtain ⟨p, e, s, m, args, below, meth, c, n⟩ := X
  obtain ⟨hx, hb, hml, rfl, hown, hts, hr, hlk, hK, hJ, hE, hEs, hR⟩ := B
  intro H locs ls hP hS hL
  exact va_mmin hx hb (hml.trans hL.1.symm) hown (hts _ hw.1) (hts _ hw.2.1) (hts _ hw.2.2.1) (hts _ hw.2.2.2) hrm.1 hrm.2 (Nat.zero_le _) (Nat.zero_le _) d (g H locs ls hP hS hL)

theorem g_mabs (B : Amb ly Z ad rm X cc Ts own nL ret) {idx : Nat} {x : Int32} (d : decode cc pc = .ok (.invokestatic idx, 3)) (hw : Cond.methodLink own idx Lib.Math.abs.name ∈ Ts ∧ Cond.static Lib.Math.abs.name ∈ Ts ∧ Cond.initialized "java/lang/Math" ∈ Ts ∧ Cond.code Lib.Math.abs.name Lib.Math.abs.code 1 (some .int) ∈ Ts) (hrm : 1 ≤ rm.frames ∧ (st.map fun v => v.category).sum + 13 ≤ rm.locals) (g : GG ly Z ad rm X K (pc + 3) (L) (.int (if 0 ≤ x then x else 0 - x) :: st) (τ)) : GG ly Z ad rm X K (pc) (L) (.int x :: st) (τ) := by
  obtain ⟨p, e, s, m, args, below, meth, c, n⟩ := X
  obtain ⟨hx, hb, hml, rfl, hown, hts, hr, hlk, hK, hJ, hE, hEs, hR⟩ := B
  intro H locs ls hP hS hL
  exact va_mabs hx hb (hml.trans hL.1.symm) hown (hts _ hw.1) (hts _ hw.2.1) (hts _ hw.2.2.1) (hts _ hw.2.2.2) hrm.1 hrm.2 (Nat.zero_le _) (Nat.zero_le _) d (g H locs ls hP hS hL)

/-- any answer: what follows a call -/
theorem va_callg {p : Program} {l : Launch} {e : Env} {R : Room} {s : State} {m : MethodId} {args : Array Value} {below : List Frame} {meth : Method} {c : Code} {H : Heap} {locs : List Loc} {cells slots : Nat} {Q : State → Prop} {pc : Nat} {ls : Array Slot} {rest st0 : List Value} {A0 A1 : Nat → Prop} {H0 : Heap} {free : Addr → Prop} {Qc : Option Value → State → Prop}
    (hr : va_Run p l e R s m args below meth c H locs cells slots 0 0 (F0 m pc ls st0) rest (fun st oc t => (∃ r, oc = .returned r ∧ Qc r t) ∧ va_F A1 st t) free) (hS : va_S A0 H0 H locs) (hA : ∀ q, q < H.size → A1 q → A0 q) (hf : ∀ q, free q → A0 q)
    (kk : ∀ (r : Option Value) (t : State) (H1 : Heap) (locs1 : List Loc), t.heap = H1 → s.vm.Alike t.vm → Qc r t → va_S A0 H0 H1 locs1 → W p l e R s m args below meth c H1 locs1 cells slots Q (F0 m (pc + 3) ls (r.toList ++ rest))) : W p l e R s m args below meth c H locs cells slots Q (F0 m pc ls st0) := by
  intro T hT X
  obtain ⟨v, st₀, t, T', L, h0, X', hL, e1, e2, ⟨⟨r, hv, hq⟩, hz, hk⟩, st⟩ := hr T hT X
  cases hv
  rw [h0] at hz hk
  obtain ⟨t2, a1, b1⟩ := kk v t T'.heap (locs ++ L) e1.symm (by rw [← e2]; exact X'.warmed.alike) hq
    ⟨Nat.le_trans hS.1 (by rw [e1]; exact hz), fun q h1 h2 => by rw [e1, hk q (Nat.lt_of_lt_of_le h1 hS.1) (fun z => h2 (hA q (Nat.lt_of_lt_of_le h1 hS.1) z))]; exact hS.2.1 q h1 h2, fun q hq => by
      rcases List.mem_append.mp hq with h | h
      · exact hS.2.2 q h
      · exact hf _ (hL q h)⟩ T' rfl X'
  exact ⟨t2, st t2 a1, b1⟩
theorem gA_sub {ad : Nat → Nat} {n a b : Nat} (h : a ≤ b) : ∀ q, gA ad n b q → gA ad n a q := fun q hq => hq.elim Or.inl (fun z => Or.inr (Nat.le_trans h z))
theorem gPre_blind {ly : Lay} {Z : LZ} {ad : Nat → Nat} {τ : St} {sz : Nat} {As : List Value} (hE : EOk Z.2.2.2) : FrameBlind (va_Pc As (gPre ly Z ad τ sz)) := by
  intro a U g mk q
  obtain ⟨q0, q1, qP, qK, qJ, qE, qS⟩ := q
  exact ⟨q0, q1, qP, gK.moved (u := U) (U := U.calling g mk a) (Vm.Alike.refl U.vm) qK, qJ, qE, hE.2.1 _ U (U.calling g mk a) _ rfl qS⟩
/-- the callee begins in the caller's world -/
theorem gPre_at {ly : Lay} {Z : LZ} {ad : Nat → Nat} {τ : St} {s U : State} {H : Heap} {locs : List Loc} (hK : gK ly Z s) (hJ : gJ ad ly.2) (hE : EOk Z.2.2.2) (hEs : Z.2.2.2 (gA ad ly.2 s.heap.size) s s.heap) (hP : va_P Z.2.1 vwCl (gws ly Z ad τ) H) (hS : va_S (gA ad ly.2 s.heap.size) s.heap H locs) (hU : U.heap = H) (hW : s.WarmedH U.vm) : gPre ly Z ad τ H.size U := by
  refine ⟨by rw [hU], by rw [hU]; exact hP, hK.moved hW.alike, hJ, hE, ?_⟩
  rw [hU]
  refine hE.2.2.2 (gA ad ly.2 s.heap.size) _ _ _ (fun a _ h => gA_sub hS.1 a h) ?_
  exact hE.1 _ s U _ hW (hE.2.2.1 _ _ _ _ hS.2.1 hEs)

theorem g_callVi (B : Amb ly Z ad rm X cc Ts own nL ret) {y : MethodName} {ws ws2 : List Cond} {rmc : Room} {bytes : ByteArray} {maxL idx np : Nat} {ret2 : Option FieldType} {As : List Value} {C : String} {o : Nat} {stk : List Value} (d : decode cc pc = .ok (.invokevirtual idx, 3)) (hg : GoodIn Ts (wsV own idx C y ws)) (hst : stk = As.reverse ++ .ref (ad o) :: st) (hd : y.cls = C ∧ y.cls ≠ "java/lang/invoke/MethodHandle" ∧ y.cls ≠ "java/lang/invoke/VarHandle" ∧ (parseMethodDescriptor y.desc).map (fun d => d.parameters.length) = some np) (hrm : rmc.frames + 1 ≤ rm.frames ∧ 8 + (maxL + 11) + rmc.locals ≤ rm.locals) (hrc : rmc.cells = 0 ∧ rmc.slots = 0) (hw : ws = Cond.code y bytes maxL ret2 :: ws2) (hn : As.length = np) (hcat : (st.map fun v => v.category).sum ≤ 8) (hrecv : ∃ (ci : Nat) (r : vw_C) (ks : List Nat), o < ly.2 ∧ ly.1 o = .inl (ci, ks) ∧ vwCl[ci]? = some r ∧ r.1 = C) (hc : CC ly Z ad y ws rmc (.ref (ad o) :: As) τ (rI (fun v τ' => GG ly Z ad rm X K (pc + 3) L (.int v :: st) τ'))) : GG ly Z ad rm X K (pc) (L) (stk) (τ) := by
  obtain ⟨p, e, s, m, args, below, meth, c, n⟩ := X
  obtain ⟨hx, hb, hml, rfl, hown, hts, hr, hlk, hK, hJ, hE, hEs, hR⟩ := B
  intro H locs ls hP hS hL
  refine va_callg (Qc := fun r t => ∃ τ' : St, (rI (fun v τ' => GG ly Z ad rm (p, e, s, m, args, below, meth, c, n) K (pc + 3) L (.int v :: st) τ')) r τ' ∧ va_P Z.2.1 vwCl (gws ly Z ad τ') t.heap ∧ gK ly Z t) (va_runV (As := As) (rest := st) (Ts := Ts) (own := own) ⟨hx, hb, hml, hown, hts⟩ (hc H.size) (cwV np hts hg hw hrc.1 hrc.2 hd hrm) ⟨gPre_blind hE, ?_, fun U hU hW => ⟨rfl, gPre_at hK hJ hE hEs hP hS hU hW⟩⟩ rfl hn hL.1 hst (lv_room hcat) d ⟨Nat.zero_le _, Nat.zero_le _⟩) hS (fun q _ h => gA_sub hS.1 q h) (fun q h => gA_sub hS.1 q h) (fun r t H1 locs1 ht hvm hq hS1 => ?_)
  · obtain ⟨ci, r, ks, ho, hl, hcl, hC⟩ := hrecv
    have hat : (gws ly Z ad τ)[o]? = some (ad o, .inr (ci, gfs ad τ o ks)) := by rw [gws_at ho, hl]; rfl
    rw [← hC]
    exact va_recv hK.1 hP hcl hat
  obtain ⟨τ', ⟨v, rfl, hk⟩, hP1, hK1⟩ := hq
  rw [ht] at hP1
  exact hk H1 locs1 ls hP1 hS1 hL

theorem g_callSi (B : Amb ly Z ad rm X cc Ts own nL ret) {y : MethodName} {ws ws2 : List Cond} {rmc : Room} {bytes : ByteArray} {maxL idx np : Nat} {ret2 : Option FieldType} {As : List Value} {stk : List Value} (d : decode cc pc = .ok (.invokestatic idx, 3)) (hg : GoodIn Ts (va_wsS own idx y ws)) (hst : stk = As.reverse ++ st) (hd : y.cls ≠ "java/lang/invoke/MethodHandle" ∧ y.cls ≠ "java/lang/invoke/VarHandle" ∧ (parseMethodDescriptor y.desc).map (fun d => d.parameters.length) = some np) (hrm : rmc.frames + 1 ≤ rm.frames ∧ 8 + (maxL + 11) + rmc.locals ≤ rm.locals) (hrc : rmc.cells = 0 ∧ rmc.slots = 0) (hw : ws = Cond.code y bytes maxL ret2 :: ws2) (hn : As.length = np) (hcat : (st.map fun v => v.category).sum ≤ 8) (hc : CC ly Z ad y ws rmc As τ (rI (fun v τ' => GG ly Z ad rm X K (pc + 3) L (.int v :: st) τ'))) : GG ly Z ad rm X K (pc) (L) (stk) (τ) := by
  obtain ⟨p, e, s, m, args, below, meth, c, n⟩ := X
  obtain ⟨hx, hb, hml, rfl, hown, hts, hr, hlk, hK, hJ, hE, hEs, hR⟩ := B
  intro H locs ls hP hS hL
  refine va_callg (Qc := fun r t => ∃ τ' : St, (rI (fun v τ' => GG ly Z ad rm (p, e, s, m, args, below, meth, c, n) K (pc + 3) L (.int v :: st) τ')) r τ' ∧ va_P Z.2.1 vwCl (gws ly Z ad τ') t.heap ∧ gK ly Z t) (va_runS (As := As) (rest := st) (Ts := Ts) (own := own) ⟨hx, hb, hml, hown, hts⟩ (hc H.size) (va_cwS np hts hg hw hrc.1 hrc.2 hd hrm) ⟨gPre_blind hE, fun U hU hW => ⟨rfl, gPre_at hK hJ hE hEs hP hS hU hW⟩⟩ rfl hn hL.1 hst (lv_room hcat) d ⟨Nat.zero_le _, Nat.zero_le _⟩) hS (fun q _ h => gA_sub hS.1 q h) (fun q h => gA_sub hS.1 q h) (fun r t H1 locs1 ht hvm hq hS1 => ?_)
  obtain ⟨τ', ⟨v, rfl, hk⟩, hP1, hK1⟩ := hq
  rw [ht] at hP1
  exact hk H1 locs1 ls hP1 hS1 hL

theorem g_callVv (B : Amb ly Z ad rm X cc Ts own nL ret) {y : MethodName} {ws ws2 : List Cond} {rmc : Room} {bytes : ByteArray} {maxL idx np : Nat} {ret2 : Option FieldType} {As : List Value} {C : String} {o : Nat} {stk : List Value} (d : decode cc pc = .ok (.invokevirtual idx, 3)) (hg : GoodIn Ts (wsV own idx C y ws)) (hst : stk = As.reverse ++ .ref (ad o) :: st) (hd : y.cls = C ∧ y.cls ≠ "java/lang/invoke/MethodHandle" ∧ y.cls ≠ "java/lang/invoke/VarHandle" ∧ (parseMethodDescriptor y.desc).map (fun d => d.parameters.length) = some np) (hrm : rmc.frames + 1 ≤ rm.frames ∧ 8 + (maxL + 11) + rmc.locals ≤ rm.locals) (hrc : rmc.cells = 0 ∧ rmc.slots = 0) (hw : ws = Cond.code y bytes maxL ret2 :: ws2) (hn : As.length = np) (hcat : (st.map fun v => v.category).sum ≤ 8) (hrecv : ∃ (ci : Nat) (r : vw_C) (ks : List Nat), o < ly.2 ∧ ly.1 o = .inl (ci, ks) ∧ vwCl[ci]? = some r ∧ r.1 = C) (hc : CC ly Z ad y ws rmc (.ref (ad o) :: As) τ (rV (fun τ' => GG ly Z ad rm X K (pc + 3) L (st) τ'))) : GG ly Z ad rm X K (pc) (L) (stk) (τ) := by
  obtain ⟨p, e, s, m, args, below, meth, c, n⟩ := X
  obtain ⟨hx, hb, hml, rfl, hown, hts, hr, hlk, hK, hJ, hE, hEs, hR⟩ := B
  intro H locs ls hP hS hL
  refine va_callg (Qc := fun r t => ∃ τ' : St, (rV (fun τ' => GG ly Z ad rm (p, e, s, m, args, below, meth, c, n) K (pc + 3) L (st) τ')) r τ' ∧ va_P Z.2.1 vwCl (gws ly Z ad τ') t.heap ∧ gK ly Z t) (va_runV (As := As) (rest := st) (Ts := Ts) (own := own) ⟨hx, hb, hml, hown, hts⟩ (hc H.size) (cwV np hts hg hw hrc.1 hrc.2 hd hrm) ⟨gPre_blind hE, ?_, fun U hU hW => ⟨rfl, gPre_at hK hJ hE hEs hP hS hU hW⟩⟩ rfl hn hL.1 hst (lv_room hcat) d ⟨Nat.zero_le _, Nat.zero_le _⟩) hS (fun q _ h => gA_sub hS.1 q h) (fun q h => gA_sub hS.1 q h) (fun r t H1 locs1 ht hvm hq hS1 => ?_)
  · obtain ⟨ci, r, ks, ho, hl, hcl, hC⟩ := hrecv
    have hat : (gws ly Z ad τ)[o]? = some (ad o, .inr (ci, gfs ad τ o ks)) := by rw [gws_at ho, hl]; rfl
    rw [← hC]
    exact va_recv hK.1 hP hcl hat
  obtain ⟨τ', ⟨rfl, hk⟩, hP1, hK1⟩ := hq
  rw [ht] at hP1
  exact hk H1 locs1 ls hP1 hS1 hL

theorem g_callSv (B : Amb ly Z ad rm X cc Ts own nL ret) {y : MethodName} {ws ws2 : List Cond} {rmc : Room} {bytes : ByteArray} {maxL idx np : Nat} {ret2 : Option FieldType} {As : List Value} {stk : List Value} (d : decode cc pc = .ok (.invokestatic idx, 3)) (hg : GoodIn Ts (va_wsS own idx y ws)) (hst : stk = As.reverse ++ st) (hd : y.cls ≠ "java/lang/invoke/MethodHandle" ∧ y.cls ≠ "java/lang/invoke/VarHandle" ∧ (parseMethodDescriptor y.desc).map (fun d => d.parameters.length) = some np) (hrm : rmc.frames + 1 ≤ rm.frames ∧ 8 + (maxL + 11) + rmc.locals ≤ rm.locals) (hrc : rmc.cells = 0 ∧ rmc.slots = 0) (hw : ws = Cond.code y bytes maxL ret2 :: ws2) (hn : As.length = np) (hcat : (st.map fun v => v.category).sum ≤ 8) (hc : CC ly Z ad y ws rmc As τ (rV (fun τ' => GG ly Z ad rm X K (pc + 3) L (st) τ'))) : GG ly Z ad rm X K (pc) (L) (stk) (τ) := by
  obtain ⟨p, e, s, m, args, below, meth, c, n⟩ := X
  obtain ⟨hx, hb, hml, rfl, hown, hts, hr, hlk, hK, hJ, hE, hEs, hR⟩ := B
  intro H locs ls hP hS hL
  refine va_callg (Qc := fun r t => ∃ τ' : St, (rV (fun τ' => GG ly Z ad rm (p, e, s, m, args, below, meth, c, n) K (pc + 3) L (st) τ')) r τ' ∧ va_P Z.2.1 vwCl (gws ly Z ad τ') t.heap ∧ gK ly Z t) (va_runS (As := As) (rest := st) (Ts := Ts) (own := own) ⟨hx, hb, hml, hown, hts⟩ (hc H.size) (va_cwS np hts hg hw hrc.1 hrc.2 hd hrm) ⟨gPre_blind hE, fun U hU hW => ⟨rfl, gPre_at hK hJ hE hEs hP hS hU hW⟩⟩ rfl hn hL.1 hst (lv_room hcat) d ⟨Nat.zero_le _, Nat.zero_le _⟩) hS (fun q _ h => gA_sub hS.1 q h) (fun q h => gA_sub hS.1 q h) (fun r t H1 locs1 ht hvm hq hS1 => ?_)
  obtain ⟨τ', ⟨rfl, hk⟩, hP1, hK1⟩ := hq
  rw [ht] at hP1
  exact hk H1 locs1 ls hP1 hS1 hL

theorem g_callVl (B : Amb ly Z ad rm X cc Ts own nL ret) {y : MethodName} {ws ws2 : List Cond} {rmc : Room} {bytes : ByteArray} {maxL idx np : Nat} {ret2 : Option FieldType} {As : List Value} {C : String} {o : Nat} {stk : List Value} (d : decode cc pc = .ok (.invokevirtual idx, 3)) (hg : GoodIn Ts (wsV own idx C y ws)) (hst : stk = As.reverse ++ .ref (ad o) :: st) (hd : y.cls = C ∧ y.cls ≠ "java/lang/invoke/MethodHandle" ∧ y.cls ≠ "java/lang/invoke/VarHandle" ∧ (parseMethodDescriptor y.desc).map (fun d => d.parameters.length) = some np) (hrm : rmc.frames + 1 ≤ rm.frames ∧ 8 + (maxL + 11) + rmc.locals ≤ rm.locals) (hrc : rmc.cells = 0 ∧ rmc.slots = 0) (hw : ws = Cond.code y bytes maxL ret2 :: ws2) (hn : As.length = np) (hcat : (st.map fun v => v.category).sum ≤ 8) (hrecv : ∃ (ci : Nat) (r : vw_C) (ks : List Nat), o < ly.2 ∧ ly.1 o = .inl (ci, ks) ∧ vwCl[ci]? = some r ∧ r.1 = C) (hc : CC ly Z ad y ws rmc (.ref (ad o) :: As) τ (rL (fun v τ' => GG ly Z ad rm X K (pc + 3) L (.long v :: st) τ'))) : GG ly Z ad rm X K (pc) (L) (stk) (τ) := by
  obtain ⟨p, e, s, m, args, below, meth, c, n⟩ := X
  obtain ⟨hx, hb, hml, rfl, hown, hts, hr, hlk, hK, hJ, hE, hEs, hR⟩ := B
  intro H locs ls hP hS hL
  refine va_callg (Qc := fun r t => ∃ τ' : St, (rL (fun v τ' => GG ly Z ad rm (p, e, s, m, args, below, meth, c, n) K (pc + 3) L (.long v :: st) τ')) r τ' ∧ va_P Z.2.1 vwCl (gws ly Z ad τ') t.heap ∧ gK ly Z t) (va_runV (As := As) (rest := st) (Ts := Ts) (own := own) ⟨hx, hb, hml, hown, hts⟩ (hc H.size) (cwV np hts hg hw hrc.1 hrc.2 hd hrm) ⟨gPre_blind hE, ?_, fun U hU hW => ⟨rfl, gPre_at hK hJ hE hEs hP hS hU hW⟩⟩ rfl hn hL.1 hst (lv_room hcat) d ⟨Nat.zero_le _, Nat.zero_le _⟩) hS (fun q _ h => gA_sub hS.1 q h) (fun q h => gA_sub hS.1 q h) (fun r t H1 locs1 ht hvm hq hS1 => ?_)
  · obtain ⟨ci, r, ks, ho, hl, hcl, hC⟩ := hrecv
    have hat : (gws ly Z ad τ)[o]? = some (ad o, .inr (ci, gfs ad τ o ks)) := by rw [gws_at ho, hl]; rfl
    rw [← hC]
    exact va_recv hK.1 hP hcl hat
  obtain ⟨τ', ⟨v, rfl, hk⟩, hP1, hK1⟩ := hq
  rw [ht] at hP1
  exact hk H1 locs1 ls hP1 hS1 hL

theorem g_callSl (B : Amb ly Z ad rm X cc Ts own nL ret) {y : MethodName} {ws ws2 : List Cond} {rmc : Room} {bytes : ByteArray} {maxL idx np : Nat} {ret2 : Option FieldType} {As : List Value} {stk : List Value} (d : decode cc pc = .ok (.invokestatic idx, 3)) (hg : GoodIn Ts (va_wsS own idx y ws)) (hst : stk = As.reverse ++ st) (hd : y.cls ≠ "java/lang/invoke/MethodHandle" ∧ y.cls ≠ "java/lang/invoke/VarHandle" ∧ (parseMethodDescriptor y.desc).map (fun d => d.parameters.length) = some np) (hrm : rmc.frames + 1 ≤ rm.frames ∧ 8 + (maxL + 11) + rmc.locals ≤ rm.locals) (hrc : rmc.cells = 0 ∧ rmc.slots = 0) (hw : ws = Cond.code y bytes maxL ret2 :: ws2) (hn : As.length = np) (hcat : (st.map fun v => v.category).sum ≤ 8) (hc : CC ly Z ad y ws rmc As τ (rL (fun v τ' => GG ly Z ad rm X K (pc + 3) L (.long v :: st) τ'))) : GG ly Z ad rm X K (pc) (L) (stk) (τ) := by
  obtain ⟨p, e, s, m, args, below, meth, c, n⟩ := X
  obtain ⟨hx, hb, hml, rfl, hown, hts, hr, hlk, hK, hJ, hE, hEs, hR⟩ := B
  intro H locs ls hP hS hL
  refine va_callg (Qc := fun r t => ∃ τ' : St, (rL (fun v τ' => GG ly Z ad rm (p, e, s, m, args, below, meth, c, n) K (pc + 3) L (.long v :: st) τ')) r τ' ∧ va_P Z.2.1 vwCl (gws ly Z ad τ') t.heap ∧ gK ly Z t) (va_runS (As := As) (rest := st) (Ts := Ts) (own := own) ⟨hx, hb, hml, hown, hts⟩ (hc H.size) (va_cwS np hts hg hw hrc.1 hrc.2 hd hrm) ⟨gPre_blind hE, fun U hU hW => ⟨rfl, gPre_at hK hJ hE hEs hP hS hU hW⟩⟩ rfl hn hL.1 hst (lv_room hcat) d ⟨Nat.zero_le _, Nat.zero_le _⟩) hS (fun q _ h => gA_sub hS.1 q h) (fun q h => gA_sub hS.1 q h) (fun r t H1 locs1 ht hvm hq hS1 => ?_)
  obtain ⟨τ', ⟨v, rfl, hk⟩, hP1, hK1⟩ := hq
  rw [ht] at hP1
  exact hk H1 locs1 ls hP1 hS1 hL

theorem g_callVr (B : Amb ly Z ad rm X cc Ts own nL ret) {y : MethodName} {ws ws2 : List Cond} {rmc : Room} {bytes : ByteArray} {maxL idx np : Nat} {ret2 : Option FieldType} {As : List Value} {C : String} {o : Nat} {stk : List Value} (d : decode cc pc = .ok (.invokevirtual idx, 3)) (hg : GoodIn Ts (wsV own idx C y ws)) (hst : stk = As.reverse ++ .ref (ad o) :: st) (hd : y.cls = C ∧ y.cls ≠ "java/lang/invoke/MethodHandle" ∧ y.cls ≠ "java/lang/invoke/VarHandle" ∧ (parseMethodDescriptor y.desc).map (fun d => d.parameters.length) = some np) (hrm : rmc.frames + 1 ≤ rm.frames ∧ 8 + (maxL + 11) + rmc.locals ≤ rm.locals) (hrc : rmc.cells = 0 ∧ rmc.slots = 0) (hw : ws = Cond.code y bytes maxL ret2 :: ws2) (hn : As.length = np) (hcat : (st.map fun v => v.category).sum ≤ 8) (hrecv : ∃ (ci : Nat) (r : vw_C) (ks : List Nat), o < ly.2 ∧ ly.1 o = .inl (ci, ks) ∧ vwCl[ci]? = some r ∧ r.1 = C) (hc : CC ly Z ad y ws rmc (.ref (ad o) :: As) τ (rR (fun v τ' => GG ly Z ad rm X K (pc + 3) L (.ref v :: st) τ'))) : GG ly Z ad rm X K (pc) (L) (stk) (τ) := by
  obtain ⟨p, e, s, m, args, below, meth, c, n⟩ := X
  obtain ⟨hx, hb, hml, rfl, hown, hts, hr, hlk, hK, hJ, hE, hEs, hR⟩ := B
  intro H locs ls hP hS hL
  refine va_callg (Qc := fun r t => ∃ τ' : St, (rR (fun v τ' => GG ly Z ad rm (p, e, s, m, args, below, meth, c, n) K (pc + 3) L (.ref v :: st) τ')) r τ' ∧ va_P Z.2.1 vwCl (gws ly Z ad τ') t.heap ∧ gK ly Z t) (va_runV (As := As) (rest := st) (Ts := Ts) (own := own) ⟨hx, hb, hml, hown, hts⟩ (hc H.size) (cwV np hts hg hw hrc.1 hrc.2 hd hrm) ⟨gPre_blind hE, ?_, fun U hU hW => ⟨rfl, gPre_at hK hJ hE hEs hP hS hU hW⟩⟩ rfl hn hL.1 hst (lv_room hcat) d ⟨Nat.zero_le _, Nat.zero_le _⟩) hS (fun q _ h => gA_sub hS.1 q h) (fun q h => gA_sub hS.1 q h) (fun r t H1 locs1 ht hvm hq hS1 => ?_)
  · obtain ⟨ci, r, ks, ho, hl, hcl, hC⟩ := hrecv
    have hat : (gws ly Z ad τ)[o]? = some (ad o, .inr (ci, gfs ad τ o ks)) := by rw [gws_at ho, hl]; rfl
    rw [← hC]
    exact va_recv hK.1 hP hcl hat
  obtain ⟨τ', ⟨v, rfl, hk⟩, hP1, hK1⟩ := hq
  rw [ht] at hP1
  exact hk H1 locs1 ls hP1 hS1 hL

theorem g_callSr (B : Amb ly Z ad rm X cc Ts own nL ret) {y : MethodName} {ws ws2 : List Cond} {rmc : Room} {bytes : ByteArray} {maxL idx np : Nat} {ret2 : Option FieldType} {As : List Value} {stk : List Value} (d : decode cc pc = .ok (.invokestatic idx, 3)) (hg : GoodIn Ts (va_wsS own idx y ws)) (hst : stk = As.reverse ++ st) (hd : y.cls ≠ "java/lang/invoke/MethodHandle" ∧ y.cls ≠ "java/lang/invoke/VarHandle" ∧ (parseMethodDescriptor y.desc).map (fun d => d.parameters.length) = some np) (hrm : rmc.frames + 1 ≤ rm.frames ∧ 8 + (maxL + 11) + rmc.locals ≤ rm.locals) (hrc : rmc.cells = 0 ∧ rmc.slots = 0) (hw : ws = Cond.code y bytes maxL ret2 :: ws2) (hn : As.length = np) (hcat : (st.map fun v => v.category).sum ≤ 8) (hc : CC ly Z ad y ws rmc As τ (rR (fun v τ' => GG ly Z ad rm X K (pc + 3) L (.ref v :: st) τ'))) : GG ly Z ad rm X K (pc) (L) (stk) (τ) := by
  obtain ⟨p, e, s, m, args, below, meth, c, n⟩ := X
  obtain ⟨hx, hb, hml, rfl, hown, hts, hr, hlk, hK, hJ, hE, hEs, hR⟩ := B
  intro H locs ls hP hS hL
  refine va_callg (Qc := fun r t => ∃ τ' : St, (rR (fun v τ' => GG ly Z ad rm (p, e, s, m, args, below, meth, c, n) K (pc + 3) L (.ref v :: st) τ')) r τ' ∧ va_P Z.2.1 vwCl (gws ly Z ad τ') t.heap ∧ gK ly Z t) (va_runS (As := As) (rest := st) (Ts := Ts) (own := own) ⟨hx, hb, hml, hown, hts⟩ (hc H.size) (va_cwS np hts hg hw hrc.1 hrc.2 hd hrm) ⟨gPre_blind hE, fun U hU hW => ⟨rfl, gPre_at hK hJ hE hEs hP hS hU hW⟩⟩ rfl hn hL.1 hst (lv_room hcat) d ⟨Nat.zero_le _, Nat.zero_le _⟩) hS (fun q _ h => gA_sub hS.1 q h) (fun q h => gA_sub hS.1 q h) (fun r t H1 locs1 ht hvm hq hS1 => ?_)
  obtain ⟨τ', ⟨v, rfl, hk⟩, hP1, hK1⟩ := hq
  rw [ht] at hP1
  exact hk H1 locs1 ls hP1 hS1 hL

/-- the locals at a method's entry -/
def gargs : List Value → List (Option Value)
  | [] => []
  | v :: r => if v.category = 2 then some v :: none :: gargs r else some v :: gargs r
theorem gargs_in : ∀ (As : List Value) (m i k : Nat) (v : Value), (gargs As ++ List.replicate m none)[k]? = some (some v) → (k + i, v) ∈ lv_args i As
  | [], m, i, k, v, h => by
    simp only [gargs, List.nil_append] at h
    rw [List.getElem?_replicate] at h
    split at h <;> cases h
  | w :: r, m, i, k, v, h => by
    unfold gargs at h
    unfold lv_args
    by_cases hc : w.category = 2
    · rw [if_pos hc] at h ⊢
      match k, h with
      | 0, h =>
        simp only [List.cons_append, List.getElem?_cons_zero, Option.some.injEq] at h
        subst h
        simp
      | 1, h => simp at h
      | k + 2, h =>
        simp only [List.cons_append, List.getElem?_cons_succ] at h
        have := gargs_in r m (i + 2) k v h
        rw [show k + (i + 2) = k + 2 + i by omega] at this
        exact List.mem_cons_of_mem _ this
    · rw [if_neg hc] at h ⊢
      match k, h with
      | 0, h =>
        simp only [List.cons_append, List.getElem?_cons_zero, Option.some.injEq] at h
        subst h
        simp
      | k + 1, h =>
        simp only [List.cons_append, List.getElem?_cons_succ] at h
        have := gargs_in r m (i + 1) k v h
        rw [show k + (i + 1) = k + 1 + i by omega] at this
        exact List.mem_cons_of_mem _ this
/-- A CONTRACT OUT OF A WALK from the method's entry -/
theorem CC.of {y : MethodName} {ws ws2 : List Cond} {As : List Value} (hy : plainName y.cls = true) (hw : ws = Cond.code y cc nL ret :: ws2) (hz : rm.cells = 0 ∧ rm.slots = 0) (ha : (lg_sl As).length ≤ nL)
    (body : ∀ X : CX, Amb ly Z ad rm X cc ws y.cls nL ret → GG ly Z ad rm X K 0 (gargs As ++ List.replicate (nL - (lg_sl As).length) none) [] τ) : CC ly Z ad y ws rm As τ K := by
  intro sz
  refine Met.ofW (cc := cc) (maxL := nL) (ret := ret) hy hw ?_
  intro p e s m args below meth c s₁ B hml hv
  obtain ⟨rfl, hsz, hP, hK, hJ, hE, hEs⟩ := hv
  subst hsz
  have hown : s.vm.findClass y.cls = some m.cls := findClass_of_methodNamed B.named
  have hl := lv_entry As (n := nL) ha
  rw [lg_entry_eq]
  generalize (lg_sl As ++ List.replicate (nL - (lg_sl As).length) Slot.unset).toArray = ls at hl ⊢
  have hb := body (p, e, s, m, As.toArray, below, meth, c, nL) ⟨B.exec, B.bytes, hml, rfl, hown, atoms_spec (ws := ws) B.pre, B.returns, B.notSynchronized, hK, hJ, hE, hEs, hz⟩
  exact hb s.heap [] ls hP va_S.rf ⟨hl.1, hl.2.1, fun k v h => hl.2.2 (k, v) (gargs_in As _ 0 k v h)⟩
/-- a room by how many calls deep -/
def rmk (h : Nat) : Room := { frames := h, cells := 0, slots := 0, locals := 48 * h }
end GGR
