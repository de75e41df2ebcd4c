/-! what stands in the heap and is never written: the words' texts, the kinds' row ABOVE, the JDK's own statics *program* -/
def lenW : List Nat := [4, 5, 6, 3, 4, 5, 5, 4, 4, 2, 3, 3]
def bytW : List (List Int32) := [[99, 111, 108, 100], [110, 105, 103, 104, 116], [110, 117, 109, 98, 101, 114], [114, 117, 110], [116, 111, 119, 110], [117, 115, 101, 114, 115], [103, 97, 105, 110, 115], [109, 105, 108, 100], [109, 111, 115, 116], [111, 114], [97, 110, 100], [110, 111, 116]]
def idxW (i : Nat) : Nat := [85, 91, 93, 95, 97, 99, 101, 103, 105, 107, 109, 111].getD i 0
def txtW (i : Nat) : String := ["cold", "night", "number", "run", "town", "users", "gains", "mild", "most", "or", "and", "not"].getD i ""
def abvI (j : Nat) : Int32 := [(-1 : Int32), 0, 0, 1, 2, 0].getD j 0
/-- the formatter: nobody asks it, and the Statement leaves open whether it is null (0) or stands at a cell -/
def fmV : Nat → Value
  | 0 => .null
  | n + 1 => .ref n
/-- texts at aK with their bytes at aV, ABOVE at tb, the formatter as fmV fm says -/
def SX (aK aV : Nat → Nat) (tb fm : Nat) (A : Nat → Prop) (U : State) (H : Heap) : Prop :=
  (vk_S 12 lenW bytW aK aV A U H ∧ ∀ i, i < 12 → vk_R RX1 (idxW i) (txtW i) (aK i) U) ∧ va_Z "java/lang/String" "COMPACT_STRINGS" "Z" (.int 1) A U H ∧ va_Z "jdk/internal/util/Preconditions" "SIOOBE_FORMATTER" "Ljava/util/function/BiFunction;" (fmV fm) A U H ∧ va_Z "OneWinter" "ABOVE" "[I" (.ref tb) A U H ∧ va_T .int tb 6 (fun j => .int (abvI j)) A U H ∧ va_Nw (.methodLinkNest RX2 22 yX5_bounded RX5) U
def SI (Z : LZ) (aK aV : Nat → Nat) (tb fm : Nat) : Prop := ∀ A U H, Z.2.2.2 A U H → SX aK aV tb fm A U H
section GGS
variable {ly : Lay} {Z : LZ} {ad : Nat → Nat} {rm : Room} {X : CX} {K : Option Value → St → Prop} {pc : Nat} {L : List (Option Value)} {st : List Value} {τ : St} {cc : ByteArray} {Ts : List Cond} {own : String} {nL : Nat} {ret : Option FieldType}
theorem g_getF (B : Amb ly Z ad rm X cc Ts own nL ret) {o nm ds : String} {v : Value} {q idx : Nat} (d : decode cc pc = .ok (.getfield idx, 3)) (hF : ∀ A U H, Z.2.2.2 A U H → va_OF o nm ds v q A U H) (hlink : Cond.fieldLink own idx o nm ds ∈ Ts) (g : GG ly Z ad rm X K (pc + 3) L (v :: st) τ) : GG ly Z ad rm X K pc L (.ref q :: st) τ := by
  obtain ⟨p, e, s, m, args, below, meth, c, n⟩ := X
  obtain ⟨hx, hb, hml, rfl, hown, hts, hr, hlk, hK, hJ, hE, hEs, hR⟩ := B
  intro H locs ls hP hS hL
  exact vk_getf hx hb (hF _ _ _ hEs) hS hown (hts _ hlink) (fun _ h => h) d (g H locs ls hP hS hL)
theorem g_gets (B : Amb ly Z ad rm X cc Ts own nL ret) {o nm ds : String} {v : Value} {idx : Nat} (d : decode cc pc = .ok (.getstatic idx, 3)) (hF : ∀ A U H, Z.2.2.2 A U H → va_Z o nm ds v A U H) (hlink : Cond.fieldLink own idx o nm ds ∈ Ts) (g : GG ly Z ad rm X K (pc + 3) L (v :: st) τ) : GG ly Z ad rm X K pc L st τ := by
  obtain ⟨p, e, s, m, args, below, meth, c, n⟩ := X
  obtain ⟨hx, hb, hml, rfl, hown, hts, hr, hlk, hK, hJ, hE, hEs, hR⟩ := B
  intro H locs ls hP hS hL
  exact va_gets hx hb (hF _ _ _ hEs) hS hown (hts _ hlink) (fun _ h => h) d (g H locs ls hP hS hL)
theorem g_tlen (B : Amb ly Z ad rm X cc Ts own nL ret) {ty : FieldType} {t N : Nat} {f : Nat → Value} {v : Int32} (d : decode cc pc = .ok (.arraylength, 1)) (hF : ∀ A U H, Z.2.2.2 A U H → va_T ty t N f A U H) (hv : Int32.ofNat N = v) (g : GG ly Z ad rm X K (pc + 1) L (.int v :: st) τ) : GG ly Z ad rm X K pc L (.ref t :: st) τ := by
  obtain ⟨p, e, s, m, args, below, meth, c, n⟩ := X
  obtain ⟨hx, hb, hml, rfl, hown, hts, hr, hlk, hK, hJ, hE, hEs, hR⟩ := B
  intro H locs ls hP hS hL
  exact va_tlen hx hb (hF _ _ _ hEs) hS hv d (g H locs ls hP hS hL)
theorem g_tb (B : Amb ly Z ad rm X cc Ts own nL ret) {t N : Nat} {f : Nat → Value} {i : Int32} {v : Value} (d : decode cc pc = .ok (.baload, 1)) (hF : ∀ A U H, Z.2.2.2 A U H → va_T .byte t N f A U H) (hin : vp_in i N) (hv : f i.toNatClampNeg = v) (g : GG ly Z ad rm X K (pc + 1) L (v :: st) τ) : GG ly Z ad rm X K pc L (.int i :: .ref t :: st) τ := by
  obtain ⟨p, e, s, m, args, below, meth, c, n⟩ := X
  obtain ⟨hx, hb, hml, rfl, hown, hts, hr, hlk, hK, hJ, hE, hEs, hR⟩ := B
  intro H locs ls hP hS hL
  exact va_tb hx hb (hF _ _ _ hEs) hS hin hv d (g H locs ls hP hS hL)
theorem g_ti (B : Amb ly Z ad rm X cc Ts own nL ret) {t N : Nat} {f : Nat → Value} {i : Int32} {v : Value} (d : decode cc pc = .ok (.iaload, 1)) (hF : ∀ A U H, Z.2.2.2 A U H → va_T .int t N f A U H) (hin : vp_in i N) (hv : f i.toNatClampNeg = v) (g : GG ly Z ad rm X K (pc + 1) L (v :: st) τ) : GG ly Z ad rm X K pc L (.int i :: .ref t :: st) τ := by
  obtain ⟨p, e, s, m, args, below, meth, c, n⟩ := X
  obtain ⟨hx, hb, hml, rfl, hown, hts, hr, hlk, hK, hJ, hE, hEs, hR⟩ := B
  intro H locs ls hP hS hL
  exact va_ti hx hb (hF _ _ _ hEs) hS hin hv d (g H locs ls hP hS hL)
theorem g_ldcS (B : Amb ly Z ad rm X cc Ts own nL ret) {tx : String} {idx q : Nat} (d : decode cc pc = .ok (.ldc idx, 2)) (hF : ∀ A U H, Z.2.2.2 A U H → vk_R own idx tx q U) (g : GG ly Z ad rm X K (pc + 2) L (.ref q :: st) τ) : GG ly Z ad rm X K pc L st τ := by
  obtain ⟨p, e, s, m, args, below, meth, c, n⟩ := X
  obtain ⟨hx, hb, hml, rfl, hown, hts, hr, hlk, hK, hJ, hE, hEs, hR⟩ := B
  intro H locs ls hP hS hL
  exact va_ldcS hx hb hown (hF _ _ _ hEs) d (g H locs ls hP hS hL)
theorem g_i2c (B : Amb ly Z ad rm X cc Ts own nL ret) {x v : Int32} (d : decode cc pc = .ok (.i2c, 1)) (hv : (x.toUInt32 % 65536).toInt32 = v) (g : GG ly Z ad rm X K (pc + 1) L (.int v :: st) τ) : GG ly Z ad rm X K pc L (.int x :: st) τ := by
  obtain ⟨p, e, s, m, args, below, meth, c, n⟩ := X
  obtain ⟨hx, hb, hml, rfl, hown, hts, hr, hlk, hK, hJ, hE, hEs, hR⟩ := B
  intro H locs ls hP hS hL
  exact lv_i2c hx hb d hv (g H locs ls hP hS hL)
theorem g_callWi (B : Amb ly Z ad rm X cc Ts own nL ret) {y : MethodName} {ws ws2 : List Cond} {rmc : Room} {bytes : ByteArray} {maxL idx np : Nat} {ret2 : Option FieldType} {As : List Value} {C : String} {b : Nat} {stk : List Value} (d : decode cc pc = .ok (.invokevirtual idx, 3)) (hg : GoodIn Ts (wsV own idx C y ws)) (hst : stk = As.reverse ++ .ref b :: st) (hd : y.cls = C ∧ y.cls ≠ "java/lang/invoke/MethodHandle" ∧ y.cls ≠ "java/lang/invoke/VarHandle" ∧ (parseMethodDescriptor y.desc).map (fun d => d.parameters.length) = some np) (hrm : rmc.frames + 1 ≤ rm.frames ∧ 8 + (maxL + 11) + rmc.locals ≤ rm.locals) (hrc : rmc.cells = 0 ∧ rmc.slots = 0) (hw : ws = Cond.code y bytes maxL ret2 :: ws2) (hn : As.length = np) (hcat : (st.map fun v => v.category).sum ≤ 8) (hrecv : ∀ (A : Nat → Prop) (s : State) (H : Heap) (locs : List Loc), Z.2.2.2 A s s.heap → va_S A s.heap H locs → ∃ cell : Cell, H[b]? = some cell ∧ cell.vm.isStatics = false ∧ s.vm.findClass C = some cell.cls) (hc : CC ly Z ad y ws rmc (.ref b :: As) τ (rI (fun v τ' => GG ly Z ad rm X K (pc + 3) L (.int v :: st) τ'))) : GG ly Z ad rm X K (pc) (L) (stk) (τ) := by
  obtain ⟨p, e, s, m, args, below, meth, c, n⟩ := X
  obtain ⟨hx, hb, hml, rfl, hown, hts, hr, hlk, hK, hJ, hE, hEs, hR⟩ := B
  intro H locs ls hP hS hL
  refine va_callg (Qc := fun r t => ∃ τ' : St, (rI (fun v τ' => GG ly Z ad rm (p, e, s, m, args, below, meth, c, n) K (pc + 3) L (.int v :: st) τ')) r τ' ∧ va_P Z.2.1 vwCl (gws ly Z ad τ') t.heap ∧ gK ly Z t) (va_runV (As := As) (rest := st) (Ts := Ts) (own := own) ⟨hx, hb, hml, hown, hts⟩ (hc H.size) (cwV np hts hg hw hrc.1 hrc.2 hd hrm) ⟨gPre_blind hE, ?_, fun U hU hW => ⟨rfl, gPre_at hK hJ hE hEs hP hS hU hW⟩⟩ rfl hn hL.1 hst (lv_room hcat) d ⟨Nat.zero_le _, Nat.zero_le _⟩) hS (fun q _ h => gA_sub hS.1 q h) (fun q h => gA_sub hS.1 q h) (fun r t H1 locs1 ht hvm hq hS1 => ?_)
  · exact hrecv _ s H locs hEs hS
  obtain ⟨τ', ⟨v, rfl, hk⟩, hP1, hK1⟩ := hq
  rw [ht] at hP1
  exact hk H1 locs1 ls hP1 hS1 hL
theorem g_callNi (B : Amb ly Z ad rm X cc Ts own nL ret) {y : MethodName} {ws ws2 : List Cond} {rmc : Room} {bytes : ByteArray} {maxL idx np : Nat} {ret2 : Option FieldType} {As : List Value} {stk : List Value} {host : String} (d : decode cc pc = .ok (.invokestatic idx, 3)) (hg : GoodIn Ts ws) (hN : ∀ A U H, Z.2.2.2 A U H → va_Nw (.methodLinkNest own idx y host) U) (hq : Cond.static y ∈ Ts ∧ Cond.initialized y.cls ∈ Ts) (hst : stk = As.reverse ++ st) (hd : y.cls ≠ "java/lang/invoke/MethodHandle" ∧ y.cls ≠ "java/lang/invoke/VarHandle" ∧ (parseMethodDescriptor y.desc).map (fun d => d.parameters.length) = some np) (hrm : rmc.frames + 1 ≤ rm.frames ∧ 8 + (maxL + 11) + rmc.locals ≤ rm.locals) (hrc : rmc.cells = 0 ∧ rmc.slots = 0) (hw : ws = Cond.code y bytes maxL ret2 :: ws2) (hn : As.length = np) (hcat : (st.map fun v => v.category).sum ≤ 8) (hc : CC ly Z ad y ws rmc As τ (rI (fun v τ' => GG ly Z ad rm X K (pc + 3) L (.int v :: st) τ'))) : GG ly Z ad rm X K (pc) (L) (stk) (τ) := by
  obtain ⟨p, e, s, m, args, below, meth, c, n⟩ := X
  obtain ⟨hx, hb, hml, rfl, hown, hts, hr, hlk, hK, hJ, hE, hEs, hR⟩ := B
  intro H locs ls hP hS hL
  refine va_callg (Qc := fun r t => ∃ τ' : St, (rI (fun v τ' => GG ly Z ad rm (p, e, s, m, args, below, meth, c, n) K (pc + 3) L (.int v :: st) τ')) r τ' ∧ va_P Z.2.1 vwCl (gws ly Z ad τ') t.heap ∧ gK ly Z t) (va_runSN (host := host) (As := As) (rest := st) (Ts := Ts) (own := own) ⟨hx, hb, hml, hown, hts⟩ (hc H.size) ⟨va_cnB np hts hg hw hrc.1 hrc.2 (hN _ _ _ hEs) (hts _ hq.2) hd hrm, hts _ hq.1, trivial⟩ ⟨gPre_blind hE, fun U hU hW => ⟨rfl, gPre_at hK hJ hE hEs hP hS hU hW⟩⟩ rfl hn hL.1 hst (lv_room hcat) d ⟨Nat.zero_le _, Nat.zero_le _⟩) hS (fun q _ h => gA_sub hS.1 q h) (fun q h => gA_sub hS.1 q h) (fun r t H1 locs1 ht hvm hq hS1 => ?_)
  obtain ⟨τ', ⟨v, rfl, hk⟩, hP1, hK1⟩ := hq
  rw [ht] at hP1
  exact hk H1 locs1 ls hP1 hS1 hL
end GGS
theorem SI.recv {Z : LZ} {aK aV : Nat → Nat} {tb fm i : Nat} (h : SI Z aK aV tb fm) (hi : i < 12) : ∀ (A : Nat → Prop) (s : State) (H : Heap) (locs : List Loc), Z.2.2.2 A s s.heap → va_S A s.heap H locs → ∃ cell : Cell, H[aK i]? = some cell ∧ cell.vm.isStatics = false ∧ s.vm.findClass RJ0 = some cell.cls :=
  fun A s H locs hE hS => vk_recv (h A s s.heap hE).1.1 hi hS
theorem SI.cod {Z : LZ} {aK aV : Nat → Nat} {tb fm i : Nat} (h : SI Z aK aV tb fm) (hi : i < 12) : ∀ A U H, Z.2.2.2 A U H → va_OF "java/lang/String" "coder" "B" (.int 0) (aK i) A U H := fun A U H q => ((h A U H q).1.1.1 i hi).2.1
theorem SI.val {Z : LZ} {aK aV : Nat → Nat} {tb fm i : Nat} (h : SI Z aK aV tb fm) (hi : i < 12) : ∀ A U H, Z.2.2.2 A U H → va_OF "java/lang/String" "value" "[B" (.ref (aV i)) (aK i) A U H := fun A U H q => ((h A U H q).1.1.1 i hi).2.2.1
theorem SI.byt {Z : LZ} {aK aV : Nat → Nat} {tb fm i : Nat} (h : SI Z aK aV tb fm) (hi : i < 12) : ∀ A U H, Z.2.2.2 A U H → va_T .byte (aV i) (lenW.getD i 0) (fun j => .int ((bytW.getD i []).getD j 0)) A U H := fun A U H q => ((h A U H q).1.1.1 i hi).2.2.2
theorem SI.cmp {Z : LZ} {aK aV : Nat → Nat} {tb fm : Nat} (h : SI Z aK aV tb fm) : ∀ A U H, Z.2.2.2 A U H → va_Z "java/lang/String" "COMPACT_STRINGS" "Z" (.int 1) A U H := fun A U H q => (h A U H q).2.1
theorem SI.fmt {Z : LZ} {aK aV : Nat → Nat} {tb fm : Nat} (h : SI Z aK aV tb fm) : ∀ A U H, Z.2.2.2 A U H → va_Z "jdk/internal/util/Preconditions" "SIOOBE_FORMATTER" "Ljava/util/function/BiFunction;" (fmV fm) A U H := fun A U H q => (h A U H q).2.2.1
theorem SI.abZ {Z : LZ} {aK aV : Nat → Nat} {tb fm : Nat} (h : SI Z aK aV tb fm) : ∀ A U H, Z.2.2.2 A U H → va_Z "OneWinter" "ABOVE" "[I" (.ref tb) A U H := fun A U H q => (h A U H q).2.2.2.1
theorem SI.abT {Z : LZ} {aK aV : Nat → Nat} {tb fm : Nat} (h : SI Z aK aV tb fm) : ∀ A U H, Z.2.2.2 A U H → va_T .int tb 6 (fun j => .int (abvI j)) A U H := fun A U H q => (h A U H q).2.2.2.2.1
theorem SI.nst {Z : LZ} {aK aV : Nat → Nat} {tb fm : Nat} (h : SI Z aK aV tb fm) : ∀ A U H, Z.2.2.2 A U H → va_Nw (.methodLinkNest RX2 22 yX5_bounded RX5) U := fun A U H q => (h A U H q).2.2.2.2.2
theorem SI.wrd {Z : LZ} {aK aV : Nat → Nat} {tb fm : Nat} (h : SI Z aK aV tb fm) (i : Nat) (hi : i < 12) : ∀ A U H, Z.2.2.2 A U H → vk_R RX1 (idxW i) (txtW i) (aK i) U := fun A U H q => (h A U H q).1.2 i hi
theorem len_shr : ∀ i, i < 12 → Int32.ofNat (lenW.getD i 0) >>> ((0 : Int32) &&& 31) = nI (lenW.getD i 0) := by decide
theorem len_bd : ∀ i, i < 12 → 1 ≤ lenW.getD i 0 ∧ lenW.getD i 0 ≤ 6 := by decide
theorem byt_ch : ∀ i, i < 12 → ∀ k, k < lenW.getD i 0 → (((bytW.getD i []).getD k 0 &&& 255).toUInt32 % 65536).toInt32 = (bytW.getD i []).getD k 0 := by decide
theorem byt_nr : ∀ i, i < 12 → ∀ k, k < lenW.getD i 0 → vp_nar .char ((bytW.getD i []).getD k 0) = (bytW.getD i []).getD k 0 := by decide
set_option maxRecDepth 100000 in
set_option maxHeartbeats 4000000 in
theorem j_coder {ly : Lay} {Z : LZ} {ad : Nat → Nat} {τ : St} {K : Int32 → St → Prop} {aK aV : Nat → Nat} {tb fm i : Nat} (hE : SI Z aK aV tb fm) (hi : i < 12) (hK : K 0 τ) : CC ly Z ad yJ0_coder_7d493 wsJ0_coder_7d493 (rmk 0) [.ref (aK i)] τ (rI K) := by
  refine CC.of (cc := cJ0_coder_7d493) (nL := 1) (ret := (some .byte)) rfl rfl ⟨rfl, rfl⟩ (by exact Nat.le_of_ble_eq_true rfl) ?_
  intro X B
  change GG _ _ _ _ X _ 0 [some (.ref (aK i))] [] _
  change Amb _ _ _ _ X _ _ RJ0 _ _ at B
  refine g_gets B dJ0_coder_7d493_0 hE.cmp (mq f_J0_38) ?_
  refine g_if_eq (tgt := 13) B dJ0_coder_7d493_3 (by decide) (fun c3 => ?_) (fun c3 => ?_)
  · exact absurd c3 (by decide)
  · refine g_aload_n B dJ0_coder_7d493_6 rfl ?_
    refine g_getF B dJ0_coder_7d493_7 (hE.cod hi) (mq f_J0_15) ?_
    refine g_goto (tgt := 14) B dJ0_coder_7d493_10 (by decide) ?_
    refine g_zreti B dJ0_coder_7d493_14 (by rfl) ?_
    exact hK
set_option maxRecDepth 100000 in
set_option maxHeartbeats 4000000 in
theorem j_latin {ly : Lay} {Z : LZ} {ad : Nat → Nat} {τ : St} {K : Int32 → St → Prop} {aK aV : Nat → Nat} {tb fm i : Nat} (hE : SI Z aK aV tb fm) (hi : i < 12) (hK : K 1 τ) : CC ly Z ad yJ0_isLatin1_aae02 wsJ0_isLatin1_aae02 (rmk 0) [.ref (aK i)] τ (rI K) := by
  refine CC.of (cc := cJ0_isLatin1_aae02) (nL := 1) (ret := (some .boolean)) rfl rfl ⟨rfl, rfl⟩ (by exact Nat.le_of_ble_eq_true rfl) ?_
  intro X B
  change GG _ _ _ _ X _ 0 [some (.ref (aK i))] [] _
  change Amb _ _ _ _ X _ _ RJ0 _ _ at B
  refine g_gets B dJ0_isLatin1_aae02_0 hE.cmp (mq f_J0_38) ?_
  refine g_if_eq (tgt := 17) B dJ0_isLatin1_aae02_3 (by decide) (fun c3 => ?_) (fun c3 => ?_)
  · exact absurd c3 (by decide)
  · refine g_aload_n B dJ0_isLatin1_aae02_6 rfl ?_
    refine g_getF B dJ0_isLatin1_aae02_7 (hE.cod hi) (mq f_J0_15) ?_
    refine g_if_ne (tgt := 17) B dJ0_isLatin1_aae02_10 (by decide) (fun c10 => ?_) (fun c10 => ?_)
    · exact absurd rfl c10
    · refine g_iconst (v := (1)) B dJ0_isLatin1_aae02_13 (by decide) ?_
      refine g_goto (tgt := 18) B dJ0_isLatin1_aae02_14 (by decide) ?_
      refine g_zreti B dJ0_isLatin1_aae02_18 (by rfl) ?_
      exact hK
set_option maxRecDepth 100000 in
set_option maxHeartbeats 4000000 in
theorem j_length {ly : Lay} {Z : LZ} {ad : Nat → Nat} {τ : St} {K : Int32 → St → Prop} {aK aV : Nat → Nat} {tb fm i : Nat} (hE : SI Z aK aV tb fm) (hi : i < 12) (hK : K (nI (lenW.getD i 0)) τ) : CC ly Z ad yJ0_length_8abf5 wsJ0_length_8abf5 (rmk 1) [.ref (aK i)] τ (rI K) := by
  refine CC.of (cc := cJ0_length_8abf5) (nL := 1) (ret := (some .int)) rfl rfl ⟨rfl, rfl⟩ (by exact Nat.le_of_ble_eq_true rfl) ?_
  intro X B
  change GG _ _ _ _ X _ 0 [some (.ref (aK i))] [] _
  change Amb _ _ _ _ X _ _ RJ0 _ _ at B
  refine g_aload_n B dJ0_length_8abf5_0 rfl ?_
  refine g_getF B dJ0_length_8abf5_1 (hE.val hi) (mq f_J0_9) ?_
  refine g_tlen B dJ0_length_8abf5_4 (hE.byt hi) rfl ?_
  refine g_aload_n B dJ0_length_8abf5_5 rfl ?_
  refine g_callWi (C := RJ0) (As := []) B dJ0_length_8abf5_6 (gc1 g_J0_335) (by rfl) ⟨rfl, hd_J0_coder_7d493⟩ (by exact ⟨Nat.le_of_ble_eq_true rfl, Nat.le_of_ble_eq_true rfl⟩) ⟨rfl, rfl⟩ rfl rfl (by exact Nat.le_of_ble_eq_true rfl) (hE.recv hi) (j_coder hE hi ?_)
  refine g_ishr B dJ0_length_8abf5_9 ?_
  refine g_ireti B dJ0_length_8abf5_10 ?_
  exact kk (len_shr i hi) hK
set_option maxRecDepth 100000 in
set_option maxHeartbeats 4000000 in
theorem j_pchk {ly : Lay} {Z : LZ} {ad : Nat → Nat} {τ : St} {K : Int32 → St → Prop} {k n : Int32} {fm : Nat} (h0 : ¬ k < 0) (h1 : k < n) (hK : K k τ) : CC ly Z ad yJ3_checkIndex_8e157 wsJ3_checkIndex_8e157 (rmk 0) [.int k, .int n, .ref fm] τ (rI K) := by
  refine CC.of (cc := cJ3_checkIndex_8e157) (nL := 3) (ret := (some .int)) rfl rfl ⟨rfl, rfl⟩ (by exact Nat.le_of_ble_eq_true rfl) ?_
  intro X B
  change GG _ _ _ _ X _ 0 [some (.int k), some (.int n), some (.ref fm)] [] _
  change Amb _ _ _ _ X _ _ RJ3 _ _ at B
  refine g_iload_n B dJ3_checkIndex_8e157_0 rfl ?_
  refine g_if_lt (tgt := 9) B dJ3_checkIndex_8e157_1 (by decide) (fun c1 => ?_) (fun c1 => ?_)
  · exact absurd c1 h0
  · refine g_iload_n B dJ3_checkIndex_8e157_4 rfl ?_
    refine g_iload_n B dJ3_checkIndex_8e157_5 rfl ?_
    refine g_icmp_lt (tgt := 16) B dJ3_checkIndex_8e157_6 (by decide) (fun c6 => ?_) (fun c6 => ?_)
    · refine g_iload_n B dJ3_checkIndex_8e157_16 rfl ?_
      refine g_ireti B dJ3_checkIndex_8e157_17 ?_
      exact hK
    · exact absurd h1 c6
set_option maxRecDepth 100000 in
set_option maxHeartbeats 4000000 in
theorem j_pchk0 {ly : Lay} {Z : LZ} {ad : Nat → Nat} {τ : St} {K : Int32 → St → Prop} {k n : Int32} (h0 : ¬ k < 0) (h1 : k < n) (hK : K k τ) : CC ly Z ad yJ3_checkIndex_8e157 wsJ3_checkIndex_8e157 (rmk 0) [.int k, .int n, .null] τ (rI K) := by
  refine CC.of (cc := cJ3_checkIndex_8e157) (nL := 3) (ret := (some .int)) rfl rfl ⟨rfl, rfl⟩ (by exact Nat.le_of_ble_eq_true rfl) ?_
  intro X B
  change GG _ _ _ _ X _ 0 [some (.int k), some (.int n), some (.null)] [] _
  change Amb _ _ _ _ X _ _ RJ3 _ _ at B
  refine g_iload_n B dJ3_checkIndex_8e157_0 rfl ?_
  refine g_if_lt (tgt := 9) B dJ3_checkIndex_8e157_1 (by decide) (fun c1 => ?_) (fun c1 => ?_)
  · exact absurd c1 h0
  · refine g_iload_n B dJ3_checkIndex_8e157_4 rfl ?_
    refine g_iload_n B dJ3_checkIndex_8e157_5 rfl ?_
    refine g_icmp_lt (tgt := 16) B dJ3_checkIndex_8e157_6 (by decide) (fun c6 => ?_) (fun c6 => ?_)
    · refine g_iload_n B dJ3_checkIndex_8e157_16 rfl ?_
      refine g_ireti B dJ3_checkIndex_8e157_17 ?_
      exact hK
    · exact absurd h1 c6
set_option maxRecDepth 100000 in
set_option maxHeartbeats 4000000 in
theorem j_schk1 {ly : Lay} {Z : LZ} {ad : Nat → Nat} {τ : St} {K : St → Prop} {aK aV : Nat → Nat} {tb fm : Nat} {k n : Int32} (hE : SI Z aK aV tb (fm + 1)) (h0 : ¬ k < 0) (h1 : k < n) (hK : K τ) : CC ly Z ad yJ0_checkIndex_df160 wsJ0_checkIndex_df160 (rmk 1) [.int k, .int n] τ (rV K) := by
  refine CC.of (cc := cJ0_checkIndex_df160) (nL := 2) (ret := none) rfl rfl ⟨rfl, rfl⟩ (by exact Nat.le_of_ble_eq_true rfl) ?_
  intro X B
  change GG _ _ _ _ X _ 0 [some (.int k), some (.int n)] [] _
  change Amb _ _ _ _ X _ _ RJ0 _ _ at B
  refine g_iload_n B dJ0_checkIndex_df160_0 rfl ?_
  refine g_iload_n B dJ0_checkIndex_df160_1 rfl ?_
  refine g_gets (v := .ref fm) B dJ0_checkIndex_df160_2 hE.fmt (mq f_J0_1053) ?_
  refine g_callSi (As := [.int _, .int _, .ref _]) B dJ0_checkIndex_df160_5 (gc1 g_J0_1059) (by rfl) hd_J3_checkIndex_8e157 (by exact ⟨Nat.le_of_ble_eq_true rfl, Nat.le_of_ble_eq_true rfl⟩) ⟨rfl, rfl⟩ rfl rfl (by exact Nat.le_of_ble_eq_true rfl) (j_pchk h0 h1 ?_)
  refine g_pop B dJ0_checkIndex_df160_8 rfl ?_
  refine g_vreti B dJ0_checkIndex_df160_9 ?_
  exact hK
set_option maxRecDepth 100000 in
set_option maxHeartbeats 4000000 in
theorem j_schk0 {ly : Lay} {Z : LZ} {ad : Nat → Nat} {τ : St} {K : St → Prop} {aK aV : Nat → Nat} {tb : Nat} {k n : Int32} (hE : SI Z aK aV tb 0) (h0 : ¬ k < 0) (h1 : k < n) (hK : K τ) : CC ly Z ad yJ0_checkIndex_df160 wsJ0_checkIndex_df160 (rmk 1) [.int k, .int n] τ (rV K) := by
  refine CC.of (cc := cJ0_checkIndex_df160) (nL := 2) (ret := none) rfl rfl ⟨rfl, rfl⟩ (by exact Nat.le_of_ble_eq_true rfl) ?_
  intro X B
  change GG _ _ _ _ X _ 0 [some (.int k), some (.int n)] [] _
  change Amb _ _ _ _ X _ _ RJ0 _ _ at B
  refine g_iload_n B dJ0_checkIndex_df160_0 rfl ?_
  refine g_iload_n B dJ0_checkIndex_df160_1 rfl ?_
  refine g_gets (v := .null) B dJ0_checkIndex_df160_2 hE.fmt (mq f_J0_1053) ?_
  refine g_callSi (As := [.int _, .int _, .null]) B dJ0_checkIndex_df160_5 (gc1 g_J0_1059) (by rfl) hd_J3_checkIndex_8e157 (by exact ⟨Nat.le_of_ble_eq_true rfl, Nat.le_of_ble_eq_true rfl⟩) ⟨rfl, rfl⟩ rfl rfl (by exact Nat.le_of_ble_eq_true rfl) (j_pchk0 h0 h1 ?_)
  refine g_pop B dJ0_checkIndex_df160_8 rfl ?_
  refine g_vreti B dJ0_checkIndex_df160_9 ?_
  exact hK
theorem j_schk {ly : Lay} {Z : LZ} {ad : Nat → Nat} {τ : St} {K : St → Prop} {aK aV : Nat → Nat} {tb fm : Nat} {k n : Int32} (hE : SI Z aK aV tb fm) (h0 : ¬ k < 0) (h1 : k < n) (hK : K τ) : CC ly Z ad yJ0_checkIndex_df160 wsJ0_checkIndex_df160 (rmk 1) [.int k, .int n] τ (rV K) := by
  cases fm with
  | zero => exact j_schk0 hE h0 h1 hK
  | succ f => exact j_schk1 hE h0 h1 hK
set_option maxRecDepth 100000 in
set_option maxHeartbeats 4000000 in
theorem j_lchr {ly : Lay} {Z : LZ} {ad : Nat → Nat} {τ : St} {K : Int32 → St → Prop} {aK aV : Nat → Nat} {tb fm i k : Nat} (hE : SI Z aK aV tb fm) (hi : i < 12) (hk : k < lenW.getD i 0) (hK : K ((bytW.getD i []).getD k 0) τ) : CC ly Z ad yJ1_charAt_3b067 wsJ1_charAt_3b067 (rmk 2) [.ref (aV i), .int (nI k)] τ (rI K) := by
  refine CC.of (cc := cJ1_charAt_3b067) (nL := 2) (ret := (some .char)) rfl rfl ⟨rfl, rfl⟩ (by exact Nat.le_of_ble_eq_true rfl) ?_
  intro X B
  change GG _ _ _ _ X _ 0 [some (.ref (aV i)), some (.int (nI k))] [] _
  change Amb _ _ _ _ X _ _ RJ1 _ _ at B
  have hl := len_bd i hi
  have hck : (nI k).toNatClampNeg = k := i_cl (by omega)
  refine g_iload_n B dJ1_charAt_3b067_0 rfl ?_
  refine g_aload_n B dJ1_charAt_3b067_1 rfl ?_
  refine g_tlen B dJ1_charAt_3b067_2 (hE.byt hi) rfl ?_
  refine g_callSv (As := [.int _, .int _]) B dJ1_charAt_3b067_3 (gc1 g_J1_9) (by rfl) hd_J0_checkIndex_df160 (by exact ⟨Nat.le_of_ble_eq_true rfl, Nat.le_of_ble_eq_true rfl⟩) ⟨rfl, rfl⟩ rfl rfl (by exact Nat.le_of_ble_eq_true rfl) (j_schk hE (by rw [i_lt, i_n (by omega), i0]; omega) (by rw [i_lt, i_n (by omega), show (Int32.ofNat (lenW.getD i 0)).toInt = lenW.getD i 0 from i_n (by omega)]; omega) ?_)
  refine g_aload_n B dJ1_charAt_3b067_6 rfl ?_
  refine g_iload_n B dJ1_charAt_3b067_7 rfl ?_
  refine g_tb B dJ1_charAt_3b067_8 (hE.byt hi) (vp_in_nI hk (by omega)) (by rw [hck]) ?_
  refine g_sipush (v := (255)) B dJ1_charAt_3b067_9 (by decide) ?_
  refine g_iand B dJ1_charAt_3b067_12 ?_
  refine g_i2c B dJ1_charAt_3b067_13 (byt_ch i hi k hk) ?_
  refine g_zreti B dJ1_charAt_3b067_14 (by exact congrArg Value.int (byt_nr i hi k hk)) ?_
  exact hK
set_option maxRecDepth 100000 in
set_option maxHeartbeats 4000000 in
theorem j_char {ly : Lay} {Z : LZ} {ad : Nat → Nat} {τ : St} {K : Int32 → St → Prop} {aK aV : Nat → Nat} {tb fm i k : Nat} (hE : SI Z aK aV tb fm) (hi : i < 12) (hk : k < lenW.getD i 0) (hK : K ((bytW.getD i []).getD k 0) τ) : CC ly Z ad yJ0_charAt_5068e wsJ0_charAt_5068e (rmk 3) [.ref (aK i), .int (nI k)] τ (rI K) := by
  refine CC.of (cc := cJ0_charAt_5068e) (nL := 2) (ret := (some .char)) rfl rfl ⟨rfl, rfl⟩ (by exact Nat.le_of_ble_eq_true rfl) ?_
  intro X B
  change GG _ _ _ _ X _ 0 [some (.ref (aK i)), some (.int (nI k))] [] _
  change Amb _ _ _ _ X _ _ RJ0 _ _ at B
  refine g_aload_n B dJ0_charAt_5068e_0 rfl ?_
  refine g_callWi (C := RJ0) (As := []) B dJ0_charAt_5068e_1 (gc1 g_J0_492) (by rfl) ⟨rfl, hd_J0_isLatin1_aae02⟩ (by exact ⟨Nat.le_of_ble_eq_true rfl, Nat.le_of_ble_eq_true rfl⟩) ⟨rfl, rfl⟩ rfl rfl (by exact Nat.le_of_ble_eq_true rfl) (hE.recv hi) (j_latin hE hi ?_)
  refine g_if_eq (tgt := 16) B dJ0_charAt_5068e_4 (by decide) (fun c4 => ?_) (fun c4 => ?_)
  · exact absurd c4 (by decide)
  · refine g_aload_n B dJ0_charAt_5068e_7 rfl ?_
    refine g_getF B dJ0_charAt_5068e_8 (hE.val hi) (mq f_J0_9) ?_
    refine g_iload_n B dJ0_charAt_5068e_11 rfl ?_
    refine g_callSi (As := [.ref _, .int _]) B dJ0_charAt_5068e_12 (gc1 g_J0_495) (by rfl) hd_J1_charAt_3b067 (by exact ⟨Nat.le_of_ble_eq_true rfl, Nat.le_of_ble_eq_true rfl⟩) ⟨rfl, rfl⟩ rfl rfl (by exact Nat.le_of_ble_eq_true rfl) (j_lchr hE hi hk ?_)
    refine g_zreti B dJ0_charAt_5068e_15 (by exact congrArg Value.int (byt_nr i hi k hk)) ?_
    exact hK

