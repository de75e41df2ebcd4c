/-! a text's grammar, level by level *program* -/
def RD0 (τ0 : St) (g : Nat → Int32) (p k : Nat) : Prop := GB τ0 g p ∧ SC τ0 g p ∧ k < 6 ∧ τ0.2.2 = some (k + 26)
/-- token a is next, these codes stand *from τ0 on* -/
def RQ (τ0 : St) (k a : Nat) (cs : List Int32) (τ : St) : Prop := pkr [k + 26, k + 32] [2, 7] τ0 τ ∧ τ.1 11 7 = nI a ∧ τ.1 (k + 26) 2 = nI cs.length ∧ CD (τ.1 (k + 32)) 0 cs
theorem RD0.pr {τ0 τ : St} {g : Nat → Int32} {p k : Nat} (h : RD0 τ0 g p k) (hp : pkr [k + 26, k + 32] [2, 7] τ0 τ) : GB τ g p ∧ SC τ g p ∧ τ.2.2 = some (k + 26) :=
  ⟨h.1.pr hp (by simp <;> omega) (by decide), h.2.1.pr hp (by simp <;> omega) (by simp <;> omega) (by simp <;> omega) (by decide), hp.2.2.trans h.2.2.2⟩
theorem RD0.at {τ0 τ : St} {g : Nat → Int32} {p k a : Nat} {cs : List Int32} (h : RD0 τ0 g p k) (hq : RQ τ0 k a cs τ) : GB τ g p ∧ SC τ g p ∧ τ.2.2 = some (k + 26) ∧ τ.1 11 7 = nI a := by
  obtain ⟨a, b, c⟩ := h.pr hq.1
  exact ⟨a, b, c, hq.2.1⟩
theorem RQ.nx {τ0 τ : St} {k a : Nat} {cs : List Int32} (h : RQ τ0 k a cs τ) : RQ τ0 k (a + 1) cs (upS τ 11 7 (nI (a + 1))) :=
  ⟨h.1.upR (by decide), upS_1, by rw [upS_3 (show k + 26 ≠ 11 by omega)]; exact h.2.2.1, by rw [upS_3 (show k + 32 ≠ 11 by omega)]; exact h.2.2.2⟩
theorem RQ.fl {τ0 τ : St} {k a : Nat} {cs : List Int32} {v : Int32} (h : RQ τ0 k a cs τ) : pkr [k + 26, k + 32] [2, 7] τ0 (upS τ 11 2 v) := h.1.upR (by decide)
theorem CD_ap {f : Nat → Int32} {c : Int32} : ∀ (cs : List Int32) (i : Nat), CD f i cs → CD (va_up f (i + cs.length) c) i (cs ++ [c])
  | [], i, _ => ⟨if_pos rfl, trivial⟩
  | x :: cs, i, h => by
    refine ⟨?_, ?_⟩
    · show va_up f (i + (cs.length + 1)) c i = x
      unfold va_up
      rw [if_neg (by omega)]
      exact h.1
    · have := CD_ap (c := c) cs (i + 1) h.2
      rw [show i + 1 + cs.length = i + (cs.length + 1) by omega] at this
      exact this
theorem tt_lt {g : Nat → Int32} {p a : Nat} (hg : gEnd g p) (h : ¬ TT g a = 0) : a < p := (lxS_lt hg h).2
theorem tt_end {g : Nat → Int32} {p a : Nat} (hg : gEnd g p) (h : ¬ a < p) : TT g a = 0 := by
  by_cases e : TT g a = 0
  · exact e
  · exact absurd (tt_lt hg e) h
set_option maxRecDepth 100000 in
set_option maxHeartbeats 4000000 in
theorem x_write {Z : LZ} {ad : Nat → Nat} {τ0 τ : St} {K : Int32 → St → Prop} {c : Int32} {g : Nat → Int32} {p k a : Nat} {cs : List Int32} (h0 : RD0 τ0 g p k) (hq : RQ τ0 k a cs τ) (hl : cs.length < 160) (hK : ∀ τ', RQ τ0 k a (cs ++ [c]) τ' → K 1 τ') : CC lyX Z ad yX1_write wsX1_write (rmk 1) [.ref (ad 11), .int c] τ (rI K) := by
  refine CC.of (cc := cX1_write) (nL := 2) (ret := (some .boolean)) rfl rfl ⟨rfl, rfl⟩ (by exact Nat.le_of_ble_eq_true rfl) ?_
  intro X B
  change GG _ _ _ _ X _ 0 [some (.ref (ad 11)), some (.int c)] [] _
  change Amb _ _ _ _ X _ _ RX1 _ _ at B
  obtain ⟨hG, hS, hinto, hat⟩ := h0.at hq
  have hk := h0.2.2.1
  refine g_aload_n B dX1_write_0 rfl ?_
  refine g_getD (T := TX1) (N := 9) B dX1_write_1 (by decide) (by rfl) (inq inlX1) rfl 8 (by decide) (mq f_X1_37) (by rfl) (by exact hinto) ?_
  refine g_ifnull B dX1_write_4 ?_
  refine g_aload_n B dX1_write_7 rfl ?_
  refine g_getD (T := TX1) (N := 9) B dX1_write_8 (by decide) (by rfl) (inq inlX1) rfl 8 (by decide) (mq f_X1_37) (by rfl) (by exact hinto) ?_
  refine g_iload_n B dX1_write_11 rfl ?_
  refine g_callVi (C := RX3) (As := [.int _]) B dX1_write_12 (gc1 g_X1_130) (by rfl) ⟨rfl, hd_X3_add⟩ (by exact ⟨Nat.le_of_ble_eq_true rfl, Nat.le_of_ble_eq_true rfl⟩) ⟨rfl, rfl⟩ rfl rfl (by exact Nat.le_of_ble_eq_true rfl) (recv3 hk) (x_add (k := k) hk hq.2.2.1 hl ?_)
  refine g_if_ne (tgt := 25) B dX1_write_15 (by decide) (fun c15 => ?_) (fun c15 => ?_)
  · refine g_iconst (v := (1)) B dX1_write_25 (by decide) ?_
    refine g_goto (tgt := 30) B dX1_write_26 (by decide) ?_
    refine g_zreti B dX1_write_30 (by rfl) ?_
    refine hK _ ⟨?_, ?_, ?_, ?_⟩
    · exact (hq.1.upC (by omega) (by simp)).upC (by omega) (by simp)
    · rw [upS_3 (show (11 : Nat) ≠ k + 26 by omega), upS_3 (show (11 : Nat) ≠ k + 32 by omega)]
      exact hat
    · rw [upS_1, List.length_append]
      rfl
    · rw [upS_3 (show k + 32 ≠ k + 26 by omega), upS_row]
      have := CD_ap (c := c) cs 0 hq.2.2.2
      rw [Nat.zero_add] at this
      exact this
  · exact absurd c15 (by decide)
set_option maxRecDepth 100000 in
set_option maxHeartbeats 4000000 in
theorem x_opnow {Z : LZ} {ad : Nat → Nat} {τ0 τ : St} {K : Int32 → St → Prop} {g : Nat → Int32} {p k a : Nat} {cs : List Int32} (h0 : RD0 τ0 g p k) (hq : RQ τ0 k a cs τ) (ht : ¬ TT g a = 0) (hl : cs.length ≤ a) (hK : ∀ τ', RQ τ0 k (a + 1) (cs ++ [VV g a]) τ' → K 1 τ') : CC lyX Z ad yX1_operandNow wsX1_operandNow (rmk 2) [.ref (ad 11)] τ (rI K) := by
  refine CC.of (cc := cX1_operandNow) (nL := 1) (ret := (some .boolean)) rfl rfl ⟨rfl, rfl⟩ (by exact Nat.le_of_ble_eq_true rfl) ?_
  intro X B
  change GG _ _ _ _ X _ 0 [some (.ref (ad 11))] [] _
  change Amb _ _ _ _ X _ _ RX1 _ _ at B
  obtain ⟨hG, hS, hinto, hat⟩ := h0.at hq
  have hp160 := hG.1.2.2
  have hap := tt_lt hG.1 ht
  obtain ⟨N, hN, hc, hT, hlN⟩ := hS
  have haN : a < N + 1 := by
    rcases Nat.lt_or_ge a (N + 1) with z | z
    · exact z
    · exact absurd (SC.lo (τ := τ) hG.1 hlN z).1 ht
  refine g_aload_n B dX1_operandNow_0 rfl ?_
  refine g_getI (T := TX1) (N := 9) B dX1_operandNow_1 (by decide) (by rfl) (inq inlX1) rfl 7 (by decide) (mq f_X1_34) (by rfl) ?_
  rw [hat]
  refine g_if_lt (tgt := 35) B dX1_operandNow_4 (by decide) (fun c4 => ?_) (fun c4 => ?_)
  · exact absurd (i_lt.mp c4) (by rw [i_n (by omega), i0]; omega)
  · refine g_aload_n B dX1_operandNow_7 rfl ?_
    refine g_getI (T := TX1) (N := 9) B dX1_operandNow_8 (by decide) (by rfl) (inq inlX1) rfl 7 (by decide) (mq f_X1_34) (by rfl) ?_
    refine g_aload_n B dX1_operandNow_11 rfl ?_
    refine g_getR (T := TX1) (N := 9) B dX1_operandNow_12 (by decide) (by rfl) (inq inlX1) rfl 4 (by decide) (mq f_X1_25) (by rfl) ?_
    refine g_alen B dX1_operandNow_15 (by decide) (by rfl) rfl ?_
    rw [hat]
    refine g_icmp_ge (tgt := 35) B dX1_operandNow_16 (by decide) (fun c16 => ?_) (fun c16 => ?_)
    · exact absurd (i_le.mp c16) (by rw [i_n (by omega), show (Int32.ofNat 161).toInt = 161 from rfl]; omega)
    · refine g_aload_n B dX1_operandNow_19 rfl ?_
      refine g_aload_n B dX1_operandNow_20 rfl ?_
      refine g_getR (T := TX1) (N := 9) B dX1_operandNow_21 (by decide) (by rfl) (inq inlX1) rfl 4 (by decide) (mq f_X1_25) (by rfl) ?_
      refine g_aload_n B dX1_operandNow_24 rfl ?_
      refine g_getI (T := TX1) (N := 9) B dX1_operandNow_25 (by decide) (by rfl) (inq inlX1) rfl 7 (by decide) (mq f_X1_34) (by rfl) ?_
      rw [hat]
      refine g_iald B dX1_operandNow_28 (by decide) (by rfl) (by exact vp_in_nI (by omega) (by omega)) ?_
      rw [i_cl (show a < 2147483648 by omega), (hT a haN).2.1]
      refine g_callVi (C := RX1) (As := [.int _]) B dX1_operandNow_29 (gc1 g_X1_143) (by rfl) ⟨rfl, hd_X1_write⟩ (by exact ⟨Nat.le_of_ble_eq_true rfl, Nat.le_of_ble_eq_true rfl⟩) ⟨rfl, rfl⟩ rfl rfl (by exact Nat.le_of_ble_eq_true rfl) recv1 (x_write h0 hq (by omega) (fun τ9 hq9 => ?_))
      refine g_if_ne (tgt := 40) B dX1_operandNow_32 (by decide) (fun c32 => ?_) (fun c32 => ?_)
      · refine g_aload_n B dX1_operandNow_40 rfl ?_
        refine g_dup B dX1_operandNow_41 rfl ?_
        refine g_getI (T := TX1) (N := 9) B dX1_operandNow_42 (by decide) (by rfl) (inq inlX1) rfl 7 (by decide) (mq f_X1_34) (by rfl) ?_
        rw [hq9.2.1]
        refine g_iconst (v := (1)) B dX1_operandNow_45 (by decide) ?_
        refine g_iadd B dX1_operandNow_46 ?_
        rw [nI_1]
        refine g_putI (T := TX1) (N := 9) B dX1_operandNow_47 (by decide) (by rfl) (inq inlX1) rfl 7 (by decide) (mq f_X1_34) tyX1_ok nmX1 rfl ⟨rfl, rfl⟩ (by rfl) ?_
        refine g_iconst (v := (1)) B dX1_operandNow_50 (by decide) ?_
        refine g_zreti B dX1_operandNow_51 (by rfl) ?_
        exact hK _ hq9.nx
      · exact absurd c32 (by decide)
/-- a reading method's contract: room, how many stand open, what it reads -/
def RC (Z : LZ) (ad : Nat → Nat) (y : MethodName) (ws : List Cond) (hh op : Nat) (τ0 : St) (g : Nat → Int32) (p k : Nat) (f : Nat → PR) : Prop :=
  ∀ (d a : Nat) (cs : List Int32) (τ : St) (K : Int32 → St → Prop), RQ τ0 k a cs τ → cs.length + d ≤ a → a ≤ p →
    (∀ q, f a = .inl q → ∀ τ', pkr [k + 26, k + 32] [2, 7] τ0 τ' → τ'.1 11 2 = nI (lxS g q) → K 0 τ') →
    (∀ ds a2, f a = .inr (ds, a2) → (cs ++ ds).length + d ≤ a2 → a2 ≤ p → a < a2 → ∀ τ', RQ τ0 k a2 (cs ++ ds) τ' → K 1 τ') →
    CC lyX Z ad y ws (rmk hh) [.ref (ad 11), .int (nI op)] τ (rI K)
def LOk (Z : LZ) (ad : Nat → Nat) (b op : Nat) (τ0 : St) (g : Nat → Int32) (p k : Nat) (lo : Option LT) : Prop :=
  (lo = none ∧ op = 5) ∨ ∃ (l : LT) (b' : Nat), lo = some l ∧ op < 5 ∧ b' + 7 ≤ b ∧ RC Z ad yX1_one wsX1_one (b' + 1) (op + 1) τ0 g p k l.1 ∧ RC Z ad yX1_negated wsX1_negated (b' + 5) (op + 1) τ0 g p k l.2.1 ∧ RC Z ad yX1_either wsX1_either (b' + 7) (op + 1) τ0 g p k l.2.2
theorem LOk.no {Z : LZ} {ad : Nat → Nat} {b op : Nat} {τ0 : St} {g : Nat → Int32} {p k : Nat} {lo : Option LT} (h : LOk Z ad b op τ0 g p k lo) (hop : op ≤ 5) (hc : ¬ nI op < 5) : lo = none := by
  rcases h with h | ⟨l, b', h1, h2, _⟩
  · exact h.1
  · exact absurd (show nI op < 5 by rw [i_lt, i_n (by omega), i5]; omega) hc
theorem LOk.yes {Z : LZ} {ad : Nat → Nat} {b op : Nat} {τ0 : St} {g : Nat → Int32} {p k : Nat} {lo : Option LT} (h : LOk Z ad b op τ0 g p k lo) (hc : nI op < 5) : ∃ (l : LT) (b' : Nat), lo = some l ∧ op < 5 ∧ b' + 7 ≤ b ∧ RC Z ad yX1_one wsX1_one (b' + 1) (op + 1) τ0 g p k l.1 ∧ RC Z ad yX1_negated wsX1_negated (b' + 5) (op + 1) τ0 g p k l.2.1 ∧ RC Z ad yX1_either wsX1_either (b' + 7) (op + 1) τ0 g p k l.2.2 := by
  rcases h with h | h
  · rw [h.2] at hc
    exact absurd hc (by decide)
  · exact h
set_option maxRecDepth 100000 in
set_option maxHeartbeats 4000000 in
theorem x_one {Z : LZ} {ad : Nat → Nat} {τ0 τ : St} {K : Int32 → St → Prop} {g : Nat → Int32} {p k b op d a : Nat} {cs : List Int32} {lo : Option LT} (h0 : RD0 τ0 g p k) (hb : 2 ≤ b) (hop : op ≤ 5) (hlo : LOk Z ad b op τ0 g p k lo) (hq : RQ τ0 k a cs τ) (hl : cs.length + d ≤ a) (ha : a ≤ p) (hK1 : ∀ q, pAtom (TT g) (VV g) lo a = .inl q → ∀ τ', pkr [k + 26, k + 32] [2, 7] τ0 τ' → τ'.1 11 2 = nI (lxS g q) → K 0 τ') (hK2 : ∀ ds a2, pAtom (TT g) (VV g) lo a = .inr (ds, a2) → (cs ++ ds).length + d ≤ a2 → a2 ≤ p → a < a2 → ∀ τ', RQ τ0 k a2 (cs ++ ds) τ' → K 1 τ') : CC lyX Z ad yX1_one wsX1_one (rmk (b + 1)) [.ref (ad 11), .int (nI op)] τ (rI K) := by
  refine CC.of (cc := cX1_one) (nL := 3) (ret := (some .boolean)) rfl rfl ⟨rfl, rfl⟩ (by exact Nat.le_of_ble_eq_true rfl) ?_
  intro X B
  change GG _ _ _ _ X _ 0 [some (.ref (ad 11)), some (.int (nI op)), none] [] _
  change Amb _ _ _ _ X _ _ RX1 _ _ at B
  obtain ⟨hG, hS, hinto, hat⟩ := h0.at hq
  have hp160 := hG.1.2.2
  unfold pAtom at hK1 hK2
  refine g_aload_n B dX1_one_0 rfl ?_
  refine g_callVi (C := RX1) (As := []) B dX1_one_1 (gc1 g_X1_123) (by rfl) ⟨rfl, hd_X1_sortNow⟩ (by constructor <;> (simp only [rmk]; omega)) ⟨rfl, rfl⟩ rfl rfl (by exact Nat.le_of_ble_eq_true rfl) recv1 (x_sort hG hS hat (by omega) ?_)
  refine g_istore_n B dX1_one_4 (by decide) rfl ?_
  refine g_iload_n B dX1_one_5 rfl ?_
  refine g_iconst (v := (2)) B dX1_one_6 (by decide) ?_
  refine g_icmp_eq (tgt := 15) B dX1_one_7 (by decide) (fun c7 => ?_) (fun c7 => ?_)
  · have h23 : TT g a = 2 ∨ TT g a = 3 := by
      first
      | exact Or.inl c7
      | exact Or.inr c12
    have hnz : ¬ TT g a = 0 := fun z => by rw [z] at h23; exact absurd h23 (by decide)
    have hap := tt_lt hG.1 hnz
    rw [if_pos h23] at hK2
    refine g_aload_n B dX1_one_15 rfl ?_
    refine g_callVi (C := RX1) (As := []) B dX1_one_16 (gc1 g_X1_161) (by rfl) ⟨rfl, hd_X1_operandNow⟩ (by constructor <;> (simp only [rmk]; omega)) ⟨rfl, rfl⟩ rfl rfl (by exact Nat.le_of_ble_eq_true rfl) recv1 (x_opnow h0 hq hnz (by omega) (fun τ9 hq9 => ?_))
    refine g_zreti B dX1_one_19 (by first | rfl | exact b1_nar | assumption) ?_
    exact hK2 [VV g a] (a + 1) rfl (by rw [List.length_append]; show cs.length + 1 + d ≤ a + 1; omega) (by omega) (by omega) τ9 hq9
  · refine g_iload_n B dX1_one_10 rfl ?_
    refine g_iconst (v := (3)) B dX1_one_11 (by decide) ?_
    refine g_icmp_ne (tgt := 20) B dX1_one_12 (by decide) (fun c12 => ?_) (fun c12 => ?_)
    · have h23 : ¬ (TT g a = 2 ∨ TT g a = 3) := fun z => z.elim c7 c12
      rw [if_neg h23] at hK1 hK2
      refine g_iload_n B dX1_one_20 rfl ?_
      refine g_bipush (v := (45)) B dX1_one_21 (by decide) ?_
      refine g_icmp_eq (tgt := 32) B dX1_one_23 (by decide) (fun c23 => ?_) (fun c23 => ?_)
      · refine g_iload_n B dX1_one_32 rfl ?_
        refine g_iconst (v := (5)) B dX1_one_33 (by decide) ?_
        refine g_icmp_lt (tgt := 42) B dX1_one_34 (by decide) (fun c34 => ?_) (fun c34 => ?_)
        · obtain ⟨l, b', hll, ho, hbb, r1, r2, r3⟩ := hlo.yes c34
          subst hll
          have hnz : ¬ TT g a = 0 := fun z => by
            first
            | (rw [z] at c23; exact absurd c23 (by decide))
            | (rw [z] at c29; exact absurd c29 (by decide))
          have hap := tt_lt hG.1 hnz
          refine g_aload_n B dX1_one_42 rfl ?_
          refine g_dup B dX1_one_43 rfl ?_
          refine g_getI (T := TX1) (N := 9) B dX1_one_44 (by decide) (by rfl) (inq inlX1) rfl 7 (by decide) (mq f_X1_34) (by rfl) ?_
          rw [hat]
          refine g_iconst (v := (1)) B dX1_one_47 (by decide) ?_
          refine g_iadd B dX1_one_48 ?_
          rw [nI_1]
          refine g_putI (T := TX1) (N := 9) B dX1_one_49 (by decide) (by rfl) (inq inlX1) rfl 7 (by decide) (mq f_X1_34) tyX1_ok nmX1 rfl ⟨rfl, rfl⟩ (by rfl) ?_
          refine g_iload_n B dX1_one_52 rfl ?_
          refine g_bipush (v := (45)) B dX1_one_53 (by decide) ?_
          refine g_icmp_ne (tgt := 83) B dX1_one_55 (by decide) (fun c55 => ?_) (fun c55 => ?_)
          · exact absurd c23 c55
          · rw [if_pos c23] at hK1 hK2
            dsimp only at hK1 hK2
            refine g_aload_n B dX1_one_58 rfl ?_
            refine g_iload_n B dX1_one_59 rfl ?_
            refine g_iconst (v := (1)) B dX1_one_60 (by decide) ?_
            refine g_iadd B dX1_one_61 ?_
            rw [nI_1]
            refine g_callVi (C := RX1) (As := [.int _]) B dX1_one_62 (gc1 g_X1_158) (by rfl) ⟨rfl, hd_X1_one⟩ (by constructor <;> (simp only [rmk]; omega)) ⟨rfl, rfl⟩ rfl rfl (by exact Nat.le_of_ble_eq_true rfl) recv1 (r1 (d + 1) (a + 1) cs _ _ hq.nx (by omega) (by omega) (fun q hf τ8 p8 e8 => ?_) (fun es a2 hf l1 l2 l3 τ8 hq8 => ?_))
            · rw [hf] at hK1
              refine g_if_eq (tgt := 81) B dX1_one_65 (by decide) (fun c65 => ?_) (fun c65 => ?_)
              · refine g_iconst (v := (0)) B dX1_one_81 (by decide) ?_
                refine g_zreti B dX1_one_82 (by rfl) ?_
                first
                  | exact hK1 q rfl τ8 p8 e8
                  | (rw [List.append_assoc] at hq9
                     exact hK2 (es ++ [-22]) a2 rfl (by rw [← List.append_assoc, List.length_append]; show (cs ++ es).length + 1 + d ≤ a2; omega) l2 (by omega) τ9 hq9)
              · exact absurd rfl c65
            · rw [hf] at hK1 hK2; dsimp only at hK1 hK2
              refine g_if_eq (tgt := 81) B dX1_one_65 (by decide) (fun c65 => ?_) (fun c65 => ?_)
              · exact absurd c65 (by decide)
              · refine g_aload_n B dX1_one_68 rfl ?_
                refine g_bipush (v := (-22)) B dX1_one_69 (by decide) ?_
                refine g_callVi (C := RX1) (As := [.int _]) B dX1_one_71 (gc1 g_X1_143) (by rfl) ⟨rfl, hd_X1_write⟩ (by constructor <;> (simp only [rmk]; omega)) ⟨rfl, rfl⟩ rfl rfl (by exact Nat.le_of_ble_eq_true rfl) recv1 (x_write h0 hq8 (by omega) (fun τ9 hq9 => ?_))
                refine g_if_eq (tgt := 81) B dX1_one_74 (by decide) (fun c74 => ?_) (fun c74 => ?_)
                · exact absurd c74 (by decide)
                · refine g_iconst (v := (1)) B dX1_one_77 (by decide) ?_
                  refine g_goto (tgt := 82) B dX1_one_78 (by decide) ?_
                  refine g_zreti B dX1_one_82 (by rfl) ?_
                  first
                    | exact hK1 q rfl τ8 p8 e8
                    | (rw [List.append_assoc] at hq9
                       exact hK2 (es ++ [-22]) a2 rfl (by rw [← List.append_assoc, List.length_append]; show (cs ++ es).length + 1 + d ≤ a2; omega) l2 (by omega) τ9 hq9)
        · first
            | rw [if_neg c23, if_neg c29] at hK1
            | (have hn := hlo.no hop c34
               subst hn
               first
               | rw [if_pos c23] at hK1
               | rw [if_neg c23, if_pos c29] at hK1)
          refine g_aload_n B dX1_one_37 rfl ?_
          refine g_callVi (C := RX1) (As := []) B dX1_one_38 (gc1 g_X1_126) (by rfl) ⟨rfl, hd_X1_refuse⟩ (by constructor <;> (simp only [rmk]; omega)) ⟨rfl, rfl⟩ rfl rfl (by exact Nat.le_of_ble_eq_true rfl) recv1 (x_ref hG hS hat (by omega) ?_)
          refine g_zreti B dX1_one_41 (by rfl) ?_
          exact hK1 a rfl _ hq.fl upS_1
      · refine g_iload_n B dX1_one_26 rfl ?_
        refine g_bipush (v := (40)) B dX1_one_27 (by decide) ?_
        refine g_icmp_ne (tgt := 37) B dX1_one_29 (by decide) (fun c29 => ?_) (fun c29 => ?_)
        · first
            | rw [if_neg c23, if_neg c29] at hK1
            | (have hn := hlo.no hop c34
               subst hn
               first
               | rw [if_pos c23] at hK1
               | rw [if_neg c23, if_pos c29] at hK1)
          refine g_aload_n B dX1_one_37 rfl ?_
          refine g_callVi (C := RX1) (As := []) B dX1_one_38 (gc1 g_X1_126) (by rfl) ⟨rfl, hd_X1_refuse⟩ (by constructor <;> (simp only [rmk]; omega)) ⟨rfl, rfl⟩ rfl rfl (by exact Nat.le_of_ble_eq_true rfl) recv1 (x_ref hG hS hat (by omega) ?_)
          refine g_zreti B dX1_one_41 (by rfl) ?_
          exact hK1 a rfl _ hq.fl upS_1
        · refine g_iload_n B dX1_one_32 rfl ?_
          refine g_iconst (v := (5)) B dX1_one_33 (by decide) ?_
          refine g_icmp_lt (tgt := 42) B dX1_one_34 (by decide) (fun c34 => ?_) (fun c34 => ?_)
          · obtain ⟨l, b', hll, ho, hbb, r1, r2, r3⟩ := hlo.yes c34
            subst hll
            have hnz : ¬ TT g a = 0 := fun z => by
              first
              | (rw [z] at c23; exact absurd c23 (by decide))
              | (rw [z] at c29; exact absurd c29 (by decide))
            have hap := tt_lt hG.1 hnz
            refine g_aload_n B dX1_one_42 rfl ?_
            refine g_dup B dX1_one_43 rfl ?_
            refine g_getI (T := TX1) (N := 9) B dX1_one_44 (by decide) (by rfl) (inq inlX1) rfl 7 (by decide) (mq f_X1_34) (by rfl) ?_
            rw [hat]
            refine g_iconst (v := (1)) B dX1_one_47 (by decide) ?_
            refine g_iadd B dX1_one_48 ?_
            rw [nI_1]
            refine g_putI (T := TX1) (N := 9) B dX1_one_49 (by decide) (by rfl) (inq inlX1) rfl 7 (by decide) (mq f_X1_34) tyX1_ok nmX1 rfl ⟨rfl, rfl⟩ (by rfl) ?_
            refine g_iload_n B dX1_one_52 rfl ?_
            refine g_bipush (v := (45)) B dX1_one_53 (by decide) ?_
            refine g_icmp_ne (tgt := 83) B dX1_one_55 (by decide) (fun c55 => ?_) (fun c55 => ?_)
            · rw [if_neg c23, if_pos c29] at hK1 hK2
              dsimp only at hK1 hK2
              refine g_aload_n B dX1_one_83 rfl ?_
              refine g_iload_n B dX1_one_84 rfl ?_
              refine g_iconst (v := (1)) B dX1_one_85 (by decide) ?_
              refine g_iadd B dX1_one_86 ?_
              rw [nI_1]
              refine g_callVi (C := RX1) (As := [.int _]) B dX1_one_87 (gc1 g_X1_133) (by rfl) ⟨rfl, hd_X1_either⟩ (by constructor <;> (simp only [rmk]; omega)) ⟨rfl, rfl⟩ rfl rfl (by exact Nat.le_of_ble_eq_true rfl) recv1 (r3 (d + 1) (a + 1) cs _ _ hq.nx (by omega) (by omega) (fun q hf τ8 p8 e8 => ?_) (fun es a2 hf l1 l2 l3 τ8 hq8 => ?_))
              · rw [hf] at hK1
                refine g_if_eq (tgt := 106) B dX1_one_90 (by decide) (fun c90 => ?_) (fun c90 => ?_)
                · refine g_iconst (v := (0)) B dX1_one_106 (by decide) ?_
                  refine g_zreti B dX1_one_107 (by rfl) ?_
                  first
                    | exact hK1 q rfl τ8 p8 e8
                    | exact hK1 a2 rfl _ hq8.fl upS_1
                    | (have hap2 := tt_lt hG8.1 (show ¬ TT g a2 = 0 from fun z => by rw [z] at h41; exact absurd h41 (by decide))
                       exact hK2 es (a2 + 1) rfl (by omega) (by omega) (by omega) _ hq8.nx)
                · exact absurd rfl c90
              · rw [hf] at hK1 hK2; dsimp only at hK1 hK2; obtain ⟨hG8, hS8, hinto8, hat8⟩ := h0.at hq8
                refine g_if_eq (tgt := 106) B dX1_one_90 (by decide) (fun c90 => ?_) (fun c90 => ?_)
                · exact absurd c90 (by decide)
                · refine g_aload_n B dX1_one_93 rfl ?_
                  refine g_bipush (v := (41)) B dX1_one_94 (by decide) ?_
                  refine g_callVi (C := RX1) (As := [.int _]) B dX1_one_96 (gc1 g_X1_53) (by rfl) ⟨rfl, hd_X1_take⟩ (by constructor <;> (simp only [rmk]; omega)) ⟨rfl, rfl⟩ rfl rfl (by exact Nat.le_of_ble_eq_true rfl) recv1 (x_take (a := a2) hG8 hS8 hat8 (by omega) (fun h41 => ?_) (fun h41 => ?_))
                  · rw [if_pos h41] at hK2
                    refine g_if_eq (tgt := 106) B dX1_one_99 (by decide) (fun c99 => ?_) (fun c99 => ?_)
                    · exact absurd c99 (by decide)
                    · refine g_iconst (v := (1)) B dX1_one_102 (by decide) ?_
                      refine g_goto (tgt := 107) B dX1_one_103 (by decide) ?_
                      refine g_zreti B dX1_one_107 (by rfl) ?_
                      first
                        | exact hK1 q rfl τ8 p8 e8
                        | exact hK1 a2 rfl _ hq8.fl upS_1
                        | (have hap2 := tt_lt hG8.1 (show ¬ TT g a2 = 0 from fun z => by rw [z] at h41; exact absurd h41 (by decide))
                           exact hK2 es (a2 + 1) rfl (by omega) (by omega) (by omega) _ hq8.nx)
                  · rw [if_neg h41] at hK1
                    refine g_if_eq (tgt := 106) B dX1_one_99 (by decide) (fun c99 => ?_) (fun c99 => ?_)
                    · refine g_iconst (v := (0)) B dX1_one_106 (by decide) ?_
                      refine g_zreti B dX1_one_107 (by rfl) ?_
                      first
                        | exact hK1 q rfl τ8 p8 e8
                        | exact hK1 a2 rfl _ hq8.fl upS_1
                        | (have hap2 := tt_lt hG8.1 (show ¬ TT g a2 = 0 from fun z => by rw [z] at h41; exact absurd h41 (by decide))
                           exact hK2 es (a2 + 1) rfl (by omega) (by omega) (by omega) _ hq8.nx)
                    · exact absurd rfl c99
            · exact absurd c55 c23
          · first
              | rw [if_neg c23, if_neg c29] at hK1
              | (have hn := hlo.no hop c34
                 subst hn
                 first
                 | rw [if_pos c23] at hK1
                 | rw [if_neg c23, if_pos c29] at hK1)
            refine g_aload_n B dX1_one_37 rfl ?_
            refine g_callVi (C := RX1) (As := []) B dX1_one_38 (gc1 g_X1_126) (by rfl) ⟨rfl, hd_X1_refuse⟩ (by constructor <;> (simp only [rmk]; omega)) ⟨rfl, rfl⟩ rfl rfl (by exact Nat.le_of_ble_eq_true rfl) recv1 (x_ref hG hS hat (by omega) ?_)
            refine g_zreti B dX1_one_41 (by rfl) ?_
            exact hK1 a rfl _ hq.fl upS_1
    · have h23 : TT g a = 2 ∨ TT g a = 3 := by
        first
        | exact Or.inl c7
        | exact Or.inr c12
      have hnz : ¬ TT g a = 0 := fun z => by rw [z] at h23; exact absurd h23 (by decide)
      have hap := tt_lt hG.1 hnz
      rw [if_pos h23] at hK2
      refine g_aload_n B dX1_one_15 rfl ?_
      refine g_callVi (C := RX1) (As := []) B dX1_one_16 (gc1 g_X1_161) (by rfl) ⟨rfl, hd_X1_operandNow⟩ (by constructor <;> (simp only [rmk]; omega)) ⟨rfl, rfl⟩ rfl rfl (by exact Nat.le_of_ble_eq_true rfl) recv1 (x_opnow h0 hq hnz (by omega) (fun τ9 hq9 => ?_))
      refine g_zreti B dX1_one_19 (by first | rfl | exact b1_nar | assumption) ?_
      exact hK2 [VV g a] (a + 1) rfl (by rw [List.length_append]; show cs.length + 1 + d ≤ a + 1; omega) (by omega) (by omega) τ9 hq9
set_option maxRecDepth 100000 in
set_option maxHeartbeats 4000000 in
theorem lx_term {Z : LZ} {ad : Nat → Nat} {X : CX} {K : Int32 → St → Prop} {τ0 : St} {g : Nat → Int32} {p k op b d : Nat} {pf : Nat → PR} {cs0 : List Int32} (B : Amb lyX Z ad (rmk (b + 2)) X cX1_term wsX1_term RX1 3 (some .boolean)) (h0 : RD0 τ0 g p k) (hb : 2 ≤ b) (hin : RC Z ad yX1_one wsX1_one (b + 1) op τ0 g p k pf) : ∀ (kf i a : Nat) (ds : List Int32) (τ : St), i + kf = 200 → RQ τ0 k a (cs0 ++ ds) τ → (cs0 ++ ds).length + d ≤ a → a ≤ p → i ≤ a → (∀ q, pLoop pf (opMul (TT g)) kf ds a = .inl q → ∀ τ', pkr [k + 26, k + 32] [2, 7] τ0 τ' → τ'.1 11 2 = nI (lxS g q) → K 0 τ') → (∀ es a2, pLoop pf (opMul (TT g)) kf ds a = .inr (es, a2) → (cs0 ++ es).length + d ≤ a2 → a2 ≤ p → a ≤ a2 → ∀ τ', RQ τ0 k a2 (cs0 ++ es) τ' → K 1 τ') → GG lyX Z ad (rmk (b + 2)) X (rI K) 12 [some (.ref (ad 11)), some (.int (nI op)), some (.int (nI i))] [] τ := by
  have hp160 := h0.1.1.2.2
  intro kf
  induction kf with
  | zero => intro i a ds τ h1 _ _ h2 h3; omega
  | succ kf ih =>
    intro i a ds τ h1 hq hl ha hia hK1 hK2
    obtain ⟨hG, hS, hinto, hat⟩ := h0.at hq
    unfold pLoop at hK1 hK2
    refine g_iload_n B dX1_term_12 rfl ?_
    refine g_sipush (v := (160)) B dX1_term_13 (by decide) ?_
    refine g_icmp_ge (tgt := 63) B dX1_term_16 (by decide) (fun c16 => ?_) (fun c16 => ?_)
    · refine g_iconst (v := (1)) B dX1_term_63 (by decide) ?_
      refine g_zreti B dX1_term_64 (by rfl) ?_
      have hn : opMul (TT g) a = none := by
        unfold opMul
        first
        | exact if_neg c25
        | (have h160 : 160 ≤ i := by
             have := c16
             rw [i_le, i_n (by omega), show (160 : Int32).toInt = 160 from rfl] at this
             omega
           rw [tt_end hG.1 (show ¬ a < p by omega)]
           rfl)
      rw [hn] at hK2
      exact hK2 ds a rfl hl ha (Nat.le_refl _) τ hq
    · refine g_aload_n B dX1_term_19 rfl ?_
      refine g_callVi (C := RX1) (As := []) B dX1_term_20 (gc1 g_X1_123) (by rfl) ⟨rfl, hd_X1_sortNow⟩ (by constructor <;> (simp only [rmk]; omega)) ⟨rfl, rfl⟩ rfl rfl (by exact Nat.le_of_ble_eq_true rfl) recv1 (x_sort hG hS hat (by omega) ?_)
      refine g_bipush (v := (42)) B dX1_term_23 (by decide) ?_
      refine g_icmp_ne (tgt := 63) B dX1_term_25 (by decide) (fun c25 => ?_) (fun c25 => ?_)
      · refine g_iconst (v := (1)) B dX1_term_63 (by decide) ?_
        refine g_zreti B dX1_term_64 (by rfl) ?_
        have hn : opMul (TT g) a = none := by
          unfold opMul
          first
          | exact if_neg c25
          | (have h160 : 160 ≤ i := by
               have := c16
               rw [i_le, i_n (by omega), show (160 : Int32).toInt = 160 from rfl] at this
               omega
             rw [tt_end hG.1 (show ¬ a < p by omega)]
             rfl)
        rw [hn] at hK2
        exact hK2 ds a rfl hl ha (Nat.le_refl _) τ hq
      · have hop : opMul (TT g) a = some (-17) := if_pos c25
        have hnz : ¬ TT g a = 0 := fun z => by rw [z] at c25; exact absurd c25 (by decide)
        rw [hop] at hK1 hK2
        dsimp only at hK1 hK2
        have hap := tt_lt hG.1 hnz
        refine g_aload_n B dX1_term_28 rfl ?_
        refine g_dup B dX1_term_29 rfl ?_
        refine g_getI (T := TX1) (N := 9) B dX1_term_30 (by decide) (by rfl) (inq inlX1) rfl 7 (by decide) (mq f_X1_34) (by rfl) ?_
        rw [hat]
        refine g_iconst (v := (1)) B dX1_term_33 (by decide) ?_
        refine g_iadd B dX1_term_34 ?_
        rw [nI_1]
        refine g_putI (T := TX1) (N := 9) B dX1_term_35 (by decide) (by rfl) (inq inlX1) rfl 7 (by decide) (mq f_X1_34) tyX1_ok nmX1 rfl ⟨rfl, rfl⟩ (by rfl) ?_
        refine g_aload_n B dX1_term_38 rfl ?_
        refine g_iload_n B dX1_term_39 rfl ?_
        refine g_callVi (C := RX1) (As := [.int _]) B dX1_term_40 (gc1 g_X1_158) (by rfl) ⟨rfl, hd_X1_one⟩ (by constructor <;> (simp only [rmk]; omega)) ⟨rfl, rfl⟩ rfl rfl (by exact Nat.le_of_ble_eq_true rfl) recv1 (hin (d + 1) (a + 1) (cs0 ++ ds) _ _ hq.nx (by omega) (by omega) (fun q hf τ8 p8 e8 => ?_) (fun es a2 hf l1 l2 l3 τ8 hq8 => ?_))
        · rw [hf] at hK1
          refine g_if_eq (tgt := 55) B dX1_term_43 (by decide) (fun c43 => ?_) (fun c43 => ?_)
          · refine g_iconst (v := (0)) B dX1_term_55 (by decide) ?_
            refine g_zreti B dX1_term_56 (by rfl) ?_
            exact hK1 q rfl τ8 p8 e8
          · exact absurd rfl c43
        · rw [hf] at hK1 hK2; dsimp only at hK1 hK2
          refine g_if_eq (tgt := 55) B dX1_term_43 (by decide) (fun c43 => ?_) (fun c43 => ?_)
          · exact absurd c43 (by decide)
          · refine g_aload_n B dX1_term_46 rfl ?_
            refine g_bipush (v := (-17)) B dX1_term_47 (by decide) ?_
            refine g_callVi (C := RX1) (As := [.int _]) B dX1_term_49 (gc1 g_X1_143) (by rfl) ⟨rfl, hd_X1_write⟩ (by constructor <;> (simp only [rmk]; omega)) ⟨rfl, rfl⟩ rfl rfl (by exact Nat.le_of_ble_eq_true rfl) recv1 (x_write h0 hq8 (by omega) (fun τ9 hq9 => ?_))
            refine g_if_ne (tgt := 57) B dX1_term_52 (by decide) (fun c52 => ?_) (fun c52 => ?_)
            · refine g_iinc (c9 := (1)) B dX1_term_57 rfl (by decide) (by decide) rfl ?_
              refine g_goto (tgt := 12) B dX1_term_60 (by decide) ?_
              rw [nI_1 i]
              first
                | (have e1 : cs0 ++ (ds ++ es ++ [(-17)]) = cs0 ++ ds ++ es ++ [(-17)] := by simp only [List.append_assoc]
                   refine ih (i + 1) a2 (ds ++ es ++ [(-17)]) τ9 (by omega) (by rw [e1]; exact hq9) (by rw [e1, List.length_append]; show (cs0 ++ ds ++ es).length + 1 + d ≤ a2; omega) l2 (by omega) hK1 (fun es2 a3 hf2 x1 x2 x3 τ' h' => hK2 es2 a3 hf2 x1 x2 (by omega) τ' h'))
            · exact absurd c52 (by decide)
set_option maxRecDepth 100000 in
set_option maxHeartbeats 4000000 in
theorem x_term {Z : LZ} {ad : Nat → Nat} {τ0 τ : St} {K : Int32 → St → Prop} {g : Nat → Int32} {p k op b d a : Nat} {pf : Nat → PR} {cs : List Int32} (h0 : RD0 τ0 g p k) (hb : 2 ≤ b) (hin : RC Z ad yX1_one wsX1_one (b + 1) op τ0 g p k pf) (hq : RQ τ0 k a cs τ) (hl : cs.length + d ≤ a) (ha : a ≤ p) (hK1 : ∀ q, pSeq pf (opMul (TT g)) a = .inl q → ∀ τ', pkr [k + 26, k + 32] [2, 7] τ0 τ' → τ'.1 11 2 = nI (lxS g q) → K 0 τ') (hK2 : ∀ ds a2, pSeq pf (opMul (TT g)) a = .inr (ds, a2) → (cs ++ ds).length + d ≤ a2 → a2 ≤ p → a < a2 → ∀ τ', RQ τ0 k a2 (cs ++ ds) τ' → K 1 τ') : CC lyX Z ad yX1_term wsX1_term (rmk (b + 2)) [.ref (ad 11), .int (nI op)] τ (rI K) := by
  refine CC.of (cc := cX1_term) (nL := 3) (ret := (some .boolean)) rfl rfl ⟨rfl, rfl⟩ (by exact Nat.le_of_ble_eq_true rfl) ?_
  intro X B
  change GG _ _ _ _ X _ 0 [some (.ref (ad 11)), some (.int (nI op)), none] [] _
  change Amb _ _ _ _ X _ _ RX1 _ _ at B
  unfold pSeq at hK1 hK2
  refine g_aload_n B dX1_term_0 rfl ?_
  refine g_iload_n B dX1_term_1 rfl ?_
  refine g_callVi (C := RX1) (As := [.int _]) B dX1_term_2 (gc1 g_X1_158) (by rfl) ⟨rfl, hd_X1_one⟩ (by constructor <;> (simp only [rmk]; omega)) ⟨rfl, rfl⟩ rfl rfl (by exact Nat.le_of_ble_eq_true rfl) recv1 (hin d a cs _ _ hq hl ha (fun q hf τ8 p8 e8 => ?_) (fun es a1 hf l1 l2 l3 τ8 hq8 => ?_))
  · rw [hf] at hK1
    refine g_if_ne (tgt := 10) B dX1_term_5 (by decide) (fun c5 => ?_) (fun c5 => ?_)
    · exact absurd rfl c5
    · refine g_iconst (v := (0)) B dX1_term_8 (by decide) ?_
      refine g_zreti B dX1_term_9 (by rfl) ?_
      exact hK1 q rfl τ8 p8 e8
  · rw [hf] at hK1 hK2; dsimp only at hK1 hK2
    refine g_if_ne (tgt := 10) B dX1_term_5 (by decide) (fun c5 => ?_) (fun c5 => ?_)
    · refine g_iconst (v := (0)) B dX1_term_10 (by decide) ?_
      refine g_istore_n B dX1_term_11 (by decide) rfl ?_
      exact lx_term B h0 hb hin 200 0 a1 es τ8 (by omega) hq8 l1 l2 (by omega) hK1 (fun es2 a3 hf x1 x2 x3 τ' h' => hK2 es2 a3 hf x1 x2 (by omega) τ' h')
    · exact absurd c5 (by decide)
set_option maxRecDepth 100000 in
set_option maxHeartbeats 4000000 in
theorem lx_sum {Z : LZ} {ad : Nat → Nat} {X : CX} {K : Int32 → St → Prop} {τ0 : St} {g : Nat → Int32} {p k op b d : Nat} {pf : Nat → PR} {cs0 : List Int32} (B : Amb lyX Z ad (rmk (b + 3)) X cX1_sum wsX1_sum RX1 4 (some .boolean)) (h0 : RD0 τ0 g p k) (hb : 2 ≤ b) (hin : RC Z ad yX1_term wsX1_term (b + 2) op τ0 g p k pf) : ∀ (kf i a : Nat) (ds : List Int32) (τ : St), i + kf = 200 → RQ τ0 k a (cs0 ++ ds) τ → (cs0 ++ ds).length + d ≤ a → a ≤ p → i ≤ a → (∀ q, pLoop pf (opAdd (TT g)) kf ds a = .inl q → ∀ τ', pkr [k + 26, k + 32] [2, 7] τ0 τ' → τ'.1 11 2 = nI (lxS g q) → K 0 τ') → (∀ es a2, pLoop pf (opAdd (TT g)) kf ds a = .inr (es, a2) → (cs0 ++ es).length + d ≤ a2 → a2 ≤ p → a ≤ a2 → ∀ τ', RQ τ0 k a2 (cs0 ++ es) τ' → K 1 τ') → GG lyX Z ad (rmk (b + 3)) X (rI K) 12 [some (.ref (ad 11)), some (.int (nI op)), some (.int (nI i)), none] [] τ := by
  have hp160 := h0.1.1.2.2
  intro kf
  induction kf with
  | zero => intro i a ds τ h1 _ _ h2 h3; omega
  | succ kf ih =>
    intro i a ds τ h1 hq hl ha hia hK1 hK2
    obtain ⟨hG, hS, hinto, hat⟩ := h0.at hq
    unfold pLoop at hK1 hK2
    refine g_iload_n B dX1_sum_12 rfl ?_
    refine g_sipush (v := (160)) B dX1_sum_13 (by decide) ?_
    refine g_icmp_ge (tgt := 88) B dX1_sum_16 (by decide) (fun c16 => ?_) (fun c16 => ?_)
    · refine g_iconst (v := (1)) B dX1_sum_88 (by decide) ?_
      refine g_zreti B dX1_sum_89 (by rfl) ?_
      have hn : opAdd (TT g) a = none := by
        unfold opAdd
        first
        | exact (if_neg c25).trans (if_neg c34)
        | (have h160 : 160 ≤ i := by
             have := c16
             rw [i_le, i_n (by omega), show (160 : Int32).toInt = 160 from rfl] at this
             omega
           rw [tt_end hG.1 (show ¬ a < p by omega)]
           rfl)
      rw [hn] at hK2
      exact hK2 ds a rfl hl ha (Nat.le_refl _) τ hq
    · refine g_aload_n B dX1_sum_19 rfl ?_
      refine g_callVi (C := RX1) (As := []) B dX1_sum_20 (gc1 g_X1_123) (by rfl) ⟨rfl, hd_X1_sortNow⟩ (by constructor <;> (simp only [rmk]; omega)) ⟨rfl, rfl⟩ rfl rfl (by exact Nat.le_of_ble_eq_true rfl) recv1 (x_sort hG hS hat (by omega) ?_)
      refine g_bipush (v := (43)) B dX1_sum_23 (by decide) ?_
      refine g_icmp_eq (tgt := 37) B dX1_sum_25 (by decide) (fun c25 => ?_) (fun c25 => ?_)
      · refine g_aload_n B dX1_sum_37 rfl ?_
        refine g_callVi (C := RX1) (As := []) B dX1_sum_38 (gc1 g_X1_123) (by rfl) ⟨rfl, hd_X1_sortNow⟩ (by constructor <;> (simp only [rmk]; omega)) ⟨rfl, rfl⟩ rfl rfl (by exact Nat.le_of_ble_eq_true rfl) recv1 (x_sort hG hS hat (by omega) ?_)
        refine g_bipush (v := (43)) B dX1_sum_41 (by decide) ?_
        refine g_icmp_ne (tgt := 51) B dX1_sum_43 (by decide) (fun c43 => ?_) (fun c43 => ?_)
        · exact absurd c25 c43
        · refine g_bipush (v := (-15)) B dX1_sum_46 (by decide) ?_
          refine g_goto (tgt := 53) B dX1_sum_48 (by decide) ?_
          refine g_istore_n B dX1_sum_53 (by decide) rfl ?_
          have hopz : ∃ c : Int32, opAdd (TT g) a = some c ∧ (TT g a = 43 → c = -15) ∧ (¬ TT g a = 43 → c = -16) := by
            unfold opAdd
            first
            | exact ⟨-15, if_pos c25, fun _ => rfl, fun z => absurd c25 z⟩
            | exact ⟨-16, (if_neg c25).trans (if_pos c34), fun z => absurd z c25, fun _ => rfl⟩
          obtain ⟨cc, hop, hc1, hc2⟩ := hopz
          have hnz : ¬ TT g a = 0 := fun z => by
            first
            | (rw [z] at c25; exact absurd c25 (by decide))
            | (rw [z] at c34; exact absurd c34 (by decide))
          first
            | (have e := hc1 c25; subst e)
            | (have e := hc2 c25; subst e)
          rw [hop] at hK1 hK2
          dsimp only at hK1 hK2
          have hap := tt_lt hG.1 hnz
          refine g_aload_n B dX1_sum_54 rfl ?_
          refine g_dup B dX1_sum_55 rfl ?_
          refine g_getI (T := TX1) (N := 9) B dX1_sum_56 (by decide) (by rfl) (inq inlX1) rfl 7 (by decide) (mq f_X1_34) (by rfl) ?_
          rw [hat]
          refine g_iconst (v := (1)) B dX1_sum_59 (by decide) ?_
          refine g_iadd B dX1_sum_60 ?_
          rw [nI_1]
          refine g_putI (T := TX1) (N := 9) B dX1_sum_61 (by decide) (by rfl) (inq inlX1) rfl 7 (by decide) (mq f_X1_34) tyX1_ok nmX1 rfl ⟨rfl, rfl⟩ (by rfl) ?_
          refine g_aload_n B dX1_sum_64 rfl ?_
          refine g_iload_n B dX1_sum_65 rfl ?_
          refine g_callVi (C := RX1) (As := [.int _]) B dX1_sum_66 (gc1 g_X1_155) (by rfl) ⟨rfl, hd_X1_term⟩ (by constructor <;> (simp only [rmk]; omega)) ⟨rfl, rfl⟩ rfl rfl (by exact Nat.le_of_ble_eq_true rfl) recv1 (hin (d + 1) (a + 1) (cs0 ++ ds) _ _ hq.nx (by omega) (by omega) (fun q hf τ8 p8 e8 => ?_) (fun es a2 hf l1 l2 l3 τ8 hq8 => ?_))
          · rw [hf] at hK1
            refine g_if_eq (tgt := 80) B dX1_sum_69 (by decide) (fun c69 => ?_) (fun c69 => ?_)
            · refine g_iconst (v := (0)) B dX1_sum_80 (by decide) ?_
              refine g_zreti B dX1_sum_81 (by rfl) ?_
              exact hK1 q rfl τ8 p8 e8
            · exact absurd rfl c69
          · rw [hf] at hK1 hK2; dsimp only at hK1 hK2
            refine g_if_eq (tgt := 80) B dX1_sum_69 (by decide) (fun c69 => ?_) (fun c69 => ?_)
            · exact absurd c69 (by decide)
            · refine g_aload_n B dX1_sum_72 rfl ?_
              refine g_iload_n B dX1_sum_73 rfl ?_
              refine g_callVi (C := RX1) (As := [.int _]) B dX1_sum_74 (gc1 g_X1_143) (by rfl) ⟨rfl, hd_X1_write⟩ (by constructor <;> (simp only [rmk]; omega)) ⟨rfl, rfl⟩ rfl rfl (by exact Nat.le_of_ble_eq_true rfl) recv1 (x_write h0 hq8 (by omega) (fun τ9 hq9 => ?_))
              refine g_if_ne (tgt := 82) B dX1_sum_77 (by decide) (fun c77 => ?_) (fun c77 => ?_)
              · refine g_iinc (c9 := (1)) B dX1_sum_82 rfl (by decide) (by decide) rfl ?_
                refine g_goto (tgt := 12) B dX1_sum_85 (by decide) ?_
                rw [nI_1 i]
                refine g_drop 3 ?_
                first
                  | (have e1 : cs0 ++ (ds ++ es ++ [(-15)]) = cs0 ++ ds ++ es ++ [(-15)] := by simp only [List.append_assoc]
                     refine ih (i + 1) a2 (ds ++ es ++ [(-15)]) τ9 (by omega) (by rw [e1]; exact hq9) (by rw [e1, List.length_append]; show (cs0 ++ ds ++ es).length + 1 + d ≤ a2; omega) l2 (by omega) hK1 (fun es2 a3 hf2 x1 x2 x3 τ' h' => hK2 es2 a3 hf2 x1 x2 (by omega) τ' h'))
                  | (have e1 : cs0 ++ (ds ++ es ++ [(-16)]) = cs0 ++ ds ++ es ++ [(-16)] := by simp only [List.append_assoc]
                     refine ih (i + 1) a2 (ds ++ es ++ [(-16)]) τ9 (by omega) (by rw [e1]; exact hq9) (by rw [e1, List.length_append]; show (cs0 ++ ds ++ es).length + 1 + d ≤ a2; omega) l2 (by omega) hK1 (fun es2 a3 hf2 x1 x2 x3 τ' h' => hK2 es2 a3 hf2 x1 x2 (by omega) τ' h'))
              · exact absurd c77 (by decide)
      · refine g_aload_n B dX1_sum_28 rfl ?_
        refine g_callVi (C := RX1) (As := []) B dX1_sum_29 (gc1 g_X1_123) (by rfl) ⟨rfl, hd_X1_sortNow⟩ (by constructor <;> (simp only [rmk]; omega)) ⟨rfl, rfl⟩ rfl rfl (by exact Nat.le_of_ble_eq_true rfl) recv1 (x_sort hG hS hat (by omega) ?_)
        refine g_bipush (v := (45)) B dX1_sum_32 (by decide) ?_
        refine g_icmp_ne (tgt := 88) B dX1_sum_34 (by decide) (fun c34 => ?_) (fun c34 => ?_)
        · refine g_iconst (v := (1)) B dX1_sum_88 (by decide) ?_
          refine g_zreti B dX1_sum_89 (by rfl) ?_
          have hn : opAdd (TT g) a = none := by
            unfold opAdd
            first
            | exact (if_neg c25).trans (if_neg c34)
            | (have h160 : 160 ≤ i := by
                 have := c16
                 rw [i_le, i_n (by omega), show (160 : Int32).toInt = 160 from rfl] at this
                 omega
               rw [tt_end hG.1 (show ¬ a < p by omega)]
               rfl)
          rw [hn] at hK2
          exact hK2 ds a rfl hl ha (Nat.le_refl _) τ hq
        · refine g_aload_n B dX1_sum_37 rfl ?_
          refine g_callVi (C := RX1) (As := []) B dX1_sum_38 (gc1 g_X1_123) (by rfl) ⟨rfl, hd_X1_sortNow⟩ (by constructor <;> (simp only [rmk]; omega)) ⟨rfl, rfl⟩ rfl rfl (by exact Nat.le_of_ble_eq_true rfl) recv1 (x_sort hG hS hat (by omega) ?_)
          refine g_bipush (v := (43)) B dX1_sum_41 (by decide) ?_
          refine g_icmp_ne (tgt := 51) B dX1_sum_43 (by decide) (fun c43 => ?_) (fun c43 => ?_)
          · refine g_bipush (v := (-16)) B dX1_sum_51 (by decide) ?_
            refine g_istore_n B dX1_sum_53 (by decide) rfl ?_
            have hopz : ∃ c : Int32, opAdd (TT g) a = some c ∧ (TT g a = 43 → c = -15) ∧ (¬ TT g a = 43 → c = -16) := by
              unfold opAdd
              first
              | exact ⟨-15, if_pos c25, fun _ => rfl, fun z => absurd c25 z⟩
              | exact ⟨-16, (if_neg c25).trans (if_pos c34), fun z => absurd z c25, fun _ => rfl⟩
            obtain ⟨cc, hop, hc1, hc2⟩ := hopz
            have hnz : ¬ TT g a = 0 := fun z => by
              first
              | (rw [z] at c25; exact absurd c25 (by decide))
              | (rw [z] at c34; exact absurd c34 (by decide))
            first
              | (have e := hc1 c25; subst e)
              | (have e := hc2 c25; subst e)
            rw [hop] at hK1 hK2
            dsimp only at hK1 hK2
            have hap := tt_lt hG.1 hnz
            refine g_aload_n B dX1_sum_54 rfl ?_
            refine g_dup B dX1_sum_55 rfl ?_
            refine g_getI (T := TX1) (N := 9) B dX1_sum_56 (by decide) (by rfl) (inq inlX1) rfl 7 (by decide) (mq f_X1_34) (by rfl) ?_
            rw [hat]
            refine g_iconst (v := (1)) B dX1_sum_59 (by decide) ?_
            refine g_iadd B dX1_sum_60 ?_
            rw [nI_1]
            refine g_putI (T := TX1) (N := 9) B dX1_sum_61 (by decide) (by rfl) (inq inlX1) rfl 7 (by decide) (mq f_X1_34) tyX1_ok nmX1 rfl ⟨rfl, rfl⟩ (by rfl) ?_
            refine g_aload_n B dX1_sum_64 rfl ?_
            refine g_iload_n B dX1_sum_65 rfl ?_
            refine g_callVi (C := RX1) (As := [.int _]) B dX1_sum_66 (gc1 g_X1_155) (by rfl) ⟨rfl, hd_X1_term⟩ (by constructor <;> (simp only [rmk]; omega)) ⟨rfl, rfl⟩ rfl rfl (by exact Nat.le_of_ble_eq_true rfl) recv1 (hin (d + 1) (a + 1) (cs0 ++ ds) _ _ hq.nx (by omega) (by omega) (fun q hf τ8 p8 e8 => ?_) (fun es a2 hf l1 l2 l3 τ8 hq8 => ?_))
            · rw [hf] at hK1
              refine g_if_eq (tgt := 80) B dX1_sum_69 (by decide) (fun c69 => ?_) (fun c69 => ?_)
              · refine g_iconst (v := (0)) B dX1_sum_80 (by decide) ?_
                refine g_zreti B dX1_sum_81 (by rfl) ?_
                exact hK1 q rfl τ8 p8 e8
              · exact absurd rfl c69
            · rw [hf] at hK1 hK2; dsimp only at hK1 hK2
              refine g_if_eq (tgt := 80) B dX1_sum_69 (by decide) (fun c69 => ?_) (fun c69 => ?_)
              · exact absurd c69 (by decide)
              · refine g_aload_n B dX1_sum_72 rfl ?_
                refine g_iload_n B dX1_sum_73 rfl ?_
                refine g_callVi (C := RX1) (As := [.int _]) B dX1_sum_74 (gc1 g_X1_143) (by rfl) ⟨rfl, hd_X1_write⟩ (by constructor <;> (simp only [rmk]; omega)) ⟨rfl, rfl⟩ rfl rfl (by exact Nat.le_of_ble_eq_true rfl) recv1 (x_write h0 hq8 (by omega) (fun τ9 hq9 => ?_))
                refine g_if_ne (tgt := 82) B dX1_sum_77 (by decide) (fun c77 => ?_) (fun c77 => ?_)
                · refine g_iinc (c9 := (1)) B dX1_sum_82 rfl (by decide) (by decide) rfl ?_
                  refine g_goto (tgt := 12) B dX1_sum_85 (by decide) ?_
                  rw [nI_1 i]
                  refine g_drop 3 ?_
                  first
                    | (have e1 : cs0 ++ (ds ++ es ++ [(-15)]) = cs0 ++ ds ++ es ++ [(-15)] := by simp only [List.append_assoc]
                       refine ih (i + 1) a2 (ds ++ es ++ [(-15)]) τ9 (by omega) (by rw [e1]; exact hq9) (by rw [e1, List.length_append]; show (cs0 ++ ds ++ es).length + 1 + d ≤ a2; omega) l2 (by omega) hK1 (fun es2 a3 hf2 x1 x2 x3 τ' h' => hK2 es2 a3 hf2 x1 x2 (by omega) τ' h'))
                    | (have e1 : cs0 ++ (ds ++ es ++ [(-16)]) = cs0 ++ ds ++ es ++ [(-16)] := by simp only [List.append_assoc]
                       refine ih (i + 1) a2 (ds ++ es ++ [(-16)]) τ9 (by omega) (by rw [e1]; exact hq9) (by rw [e1, List.length_append]; show (cs0 ++ ds ++ es).length + 1 + d ≤ a2; omega) l2 (by omega) hK1 (fun es2 a3 hf2 x1 x2 x3 τ' h' => hK2 es2 a3 hf2 x1 x2 (by omega) τ' h'))
                · exact absurd c77 (by decide)
          · exact absurd c43 c25
set_option maxRecDepth 100000 in
set_option maxHeartbeats 4000000 in
theorem x_sum {Z : LZ} {ad : Nat → Nat} {τ0 τ : St} {K : Int32 → St → Prop} {g : Nat → Int32} {p k op b d a : Nat} {pf : Nat → PR} {cs : List Int32} (h0 : RD0 τ0 g p k) (hb : 2 ≤ b) (hin : RC Z ad yX1_term wsX1_term (b + 2) op τ0 g p k pf) (hq : RQ τ0 k a cs τ) (hl : cs.length + d ≤ a) (ha : a ≤ p) (hK1 : ∀ q, pSeq pf (opAdd (TT g)) a = .inl q → ∀ τ', pkr [k + 26, k + 32] [2, 7] τ0 τ' → τ'.1 11 2 = nI (lxS g q) → K 0 τ') (hK2 : ∀ ds a2, pSeq pf (opAdd (TT g)) a = .inr (ds, a2) → (cs ++ ds).length + d ≤ a2 → a2 ≤ p → a < a2 → ∀ τ', RQ τ0 k a2 (cs ++ ds) τ' → K 1 τ') : CC lyX Z ad yX1_sum wsX1_sum (rmk (b + 3)) [.ref (ad 11), .int (nI op)] τ (rI K) := by
  refine CC.of (cc := cX1_sum) (nL := 4) (ret := (some .boolean)) rfl rfl ⟨rfl, rfl⟩ (by exact Nat.le_of_ble_eq_true rfl) ?_
  intro X B
  change GG _ _ _ _ X _ 0 [some (.ref (ad 11)), some (.int (nI op)), none, none] [] _
  change Amb _ _ _ _ X _ _ RX1 _ _ at B
  unfold pSeq at hK1 hK2
  refine g_aload_n B dX1_sum_0 rfl ?_
  refine g_iload_n B dX1_sum_1 rfl ?_
  refine g_callVi (C := RX1) (As := [.int _]) B dX1_sum_2 (gc1 g_X1_155) (by rfl) ⟨rfl, hd_X1_term⟩ (by constructor <;> (simp only [rmk]; omega)) ⟨rfl, rfl⟩ rfl rfl (by exact Nat.le_of_ble_eq_true rfl) recv1 (hin d a cs _ _ hq hl ha (fun q hf τ8 p8 e8 => ?_) (fun es a1 hf l1 l2 l3 τ8 hq8 => ?_))
  · rw [hf] at hK1
    refine g_if_ne (tgt := 10) B dX1_sum_5 (by decide) (fun c5 => ?_) (fun c5 => ?_)
    · exact absurd rfl c5
    · refine g_iconst (v := (0)) B dX1_sum_8 (by decide) ?_
      refine g_zreti B dX1_sum_9 (by rfl) ?_
      exact hK1 q rfl τ8 p8 e8
  · rw [hf] at hK1 hK2; dsimp only at hK1 hK2
    refine g_if_ne (tgt := 10) B dX1_sum_5 (by decide) (fun c5 => ?_) (fun c5 => ?_)
    · refine g_iconst (v := (0)) B dX1_sum_10 (by decide) ?_
      refine g_istore_n B dX1_sum_11 (by decide) rfl ?_
      exact lx_sum B h0 hb hin 200 0 a1 es τ8 (by omega) hq8 l1 l2 (by omega) hK1 (fun es2 a3 hf x1 x2 x3 τ' h' => hK2 es2 a3 hf x1 x2 (by omega) τ' h')
    · exact absurd c5 (by decide)
set_option maxRecDepth 100000 in
set_option maxHeartbeats 4000000 in
theorem x_compared {Z : LZ} {ad : Nat → Nat} {τ0 τ : St} {K : Int32 → St → Prop} {g : Nat → Int32} {p k op b d a : Nat} {cs : List Int32} {lo : Option LT} (h0 : RD0 τ0 g p k) (hb : 2 ≤ b) (hin : RC Z ad yX1_sum wsX1_sum (b + 3) op τ0 g p k (pSum (TT g) (VV g) lo)) (hq : RQ τ0 k a cs τ) (hl : cs.length + d ≤ a) (ha : a ≤ p) (hK1 : ∀ q, pCmp (TT g) (VV g) lo a = .inl q → ∀ τ', pkr [k + 26, k + 32] [2, 7] τ0 τ' → τ'.1 11 2 = nI (lxS g q) → K 0 τ') (hK2 : ∀ ds a2, pCmp (TT g) (VV g) lo a = .inr (ds, a2) → (cs ++ ds).length + d ≤ a2 → a2 ≤ p → a < a2 → ∀ τ', RQ τ0 k a2 (cs ++ ds) τ' → K 1 τ') : CC lyX Z ad yX1_compared wsX1_compared (rmk (b + 4)) [.ref (ad 11), .int (nI op)] τ (rI K) := by
  refine CC.of (cc := cX1_compared) (nL := 3) (ret := (some .boolean)) rfl rfl ⟨rfl, rfl⟩ (by exact Nat.le_of_ble_eq_true rfl) ?_
  intro X B
  change GG _ _ _ _ X _ 0 [some (.ref (ad 11)), some (.int (nI op)), none] [] _
  change Amb _ _ _ _ X _ _ RX1 _ _ at B
  unfold pCmp at hK1 hK2
  have hp160 := h0.1.1.2.2
  refine g_aload_n B dX1_compared_0 rfl ?_
  refine g_iload_n B dX1_compared_1 rfl ?_
  refine g_callVi (C := RX1) (As := [.int _]) B dX1_compared_2 (gc1 g_X1_152) (by rfl) ⟨rfl, hd_X1_sum⟩ (by constructor <;> (simp only [rmk]; omega)) ⟨rfl, rfl⟩ rfl rfl (by exact Nat.le_of_ble_eq_true rfl) recv1 (hin d a cs _ _ hq hl ha (fun q hf τ8 p8 e8 => ?_) (fun es a1 hf l1 l2 l3 τ8 hq8 => ?_))
  · rw [hf] at hK1
    refine g_if_ne (tgt := 10) B dX1_compared_5 (by decide) (fun c5 => ?_) (fun c5 => ?_)
    · exact absurd rfl c5
    · refine g_iconst (v := (0)) B dX1_compared_8 (by decide) ?_
      refine g_zreti B dX1_compared_9 (by rfl) ?_
      exact hK1 q rfl τ8 p8 e8
  · rw [hf] at hK1 hK2; dsimp only at hK1 hK2; obtain ⟨hG8, hS8, hinto8, hat8⟩ := h0.at hq8
    refine g_if_ne (tgt := 10) B dX1_compared_5 (by decide) (fun c5 => ?_) (fun c5 => ?_)
    · refine g_aload_n B dX1_compared_10 rfl ?_
      refine g_callVi (C := RX1) (As := []) B dX1_compared_11 (gc1 g_X1_123) (by rfl) ⟨rfl, hd_X1_sortNow⟩ (by constructor <;> (simp only [rmk]; omega)) ⟨rfl, rfl⟩ rfl rfl (by exact Nat.le_of_ble_eq_true rfl) recv1 (x_sort hG8 hS8 hat8 (by omega) ?_)
      refine g_istore_n B dX1_compared_14 (by decide) rfl ?_
      refine g_iload_n B dX1_compared_15 rfl ?_
      refine g_bipush (v := (60)) B dX1_compared_16 (by decide) ?_
      refine g_icmp_eq (tgt := 29) B dX1_compared_18 (by decide) (fun c18 => ?_) (fun c18 => ?_)
      · have h60 : TT g a1 = 60 ∨ TT g a1 = 61 := by
          first
          | exact Or.inl c18
          | exact Or.inr c24
        rw [if_pos h60] at hK1 hK2
        have hnz : ¬ TT g a1 = 0 := fun z => by rw [z] at h60; exact absurd h60 (by decide)
        have hap := tt_lt hG8.1 hnz
        refine g_aload_n B dX1_compared_29 rfl ?_
        refine g_dup B dX1_compared_30 rfl ?_
        refine g_getI (T := TX1) (N := 9) B dX1_compared_31 (by decide) (by rfl) (inq inlX1) rfl 7 (by decide) (mq f_X1_34) (by rfl) ?_
        rw [hat8]
        refine g_iconst (v := (1)) B dX1_compared_34 (by decide) ?_
        refine g_iadd B dX1_compared_35 ?_
        rw [nI_1]
        refine g_putI (T := TX1) (N := 9) B dX1_compared_36 (by decide) (by rfl) (inq inlX1) rfl 7 (by decide) (mq f_X1_34) tyX1_ok nmX1 rfl ⟨rfl, rfl⟩ (by rfl) ?_
        refine g_aload_n B dX1_compared_39 rfl ?_
        refine g_iload_n B dX1_compared_40 rfl ?_
        refine g_callVi (C := RX1) (As := [.int _]) B dX1_compared_41 (gc1 g_X1_152) (by rfl) ⟨rfl, hd_X1_sum⟩ (by constructor <;> (simp only [rmk]; omega)) ⟨rfl, rfl⟩ rfl rfl (by exact Nat.le_of_ble_eq_true rfl) recv1 (hin (d + 1) (a1 + 1) (cs ++ es) _ _ hq8.nx (by omega) (by omega) (fun q hf2 τ7 p7 e7 => ?_) (fun es2 a2 hf2 m1 m2 m3 τ7 hq7 => ?_))
        · rw [hf2] at hK1
          refine g_if_eq (tgt := 71) B dX1_compared_44 (by decide) (fun c44 => ?_) (fun c44 => ?_)
          · refine g_iconst (v := (0)) B dX1_compared_71 (by decide) ?_
            refine g_zreti B dX1_compared_72 (by rfl) ?_
            first
              | exact hK1 q rfl τ7 p7 e7
              | (rw [if_pos c18] at hK2
                 have e1 : cs ++ (es ++ es2 ++ [-13]) = cs ++ es ++ es2 ++ [-13] := by simp only [List.append_assoc]
                 exact hK2 (es ++ es2 ++ [-13]) a2 rfl (by rw [e1, List.length_append]; show (cs ++ es ++ es2).length + 1 + d ≤ a2; omega) m2 (by omega) τ9 (by rw [e1]; exact hq9))
              | (rw [if_neg c18] at hK2
                 have e1 : cs ++ (es ++ es2 ++ [-14]) = cs ++ es ++ es2 ++ [-14] := by simp only [List.append_assoc]
                 exact hK2 (es ++ es2 ++ [-14]) a2 rfl (by rw [e1, List.length_append]; show (cs ++ es ++ es2).length + 1 + d ≤ a2; omega) m2 (by omega) τ9 (by rw [e1]; exact hq9))
          · exact absurd rfl c44
        · rw [hf2] at hK1 hK2; dsimp only at hK1 hK2
          refine g_if_eq (tgt := 71) B dX1_compared_44 (by decide) (fun c44 => ?_) (fun c44 => ?_)
          · exact absurd c44 (by decide)
          · refine g_aload_n B dX1_compared_47 rfl ?_
            refine g_iload_n B dX1_compared_48 rfl ?_
            refine g_bipush (v := (60)) B dX1_compared_49 (by decide) ?_
            refine g_icmp_ne (tgt := 59) B dX1_compared_51 (by decide) (fun c51 => ?_) (fun c51 => ?_)
            · exact absurd c18 c51
            · refine g_bipush (v := (-13)) B dX1_compared_54 (by decide) ?_
              refine g_goto (tgt := 61) B dX1_compared_56 (by decide) ?_
              refine g_callVi (C := RX1) (As := [.int _]) B dX1_compared_61 (gc1 g_X1_143) (by rfl) ⟨rfl, hd_X1_write⟩ (by constructor <;> (simp only [rmk]; omega)) ⟨rfl, rfl⟩ rfl rfl (by exact Nat.le_of_ble_eq_true rfl) recv1 (x_write h0 hq7 (by omega) (fun τ9 hq9 => ?_))
              refine g_if_eq (tgt := 71) B dX1_compared_64 (by decide) (fun c64 => ?_) (fun c64 => ?_)
              · exact absurd c64 (by decide)
              · refine g_iconst (v := (1)) B dX1_compared_67 (by decide) ?_
                refine g_goto (tgt := 72) B dX1_compared_68 (by decide) ?_
                refine g_zreti B dX1_compared_72 (by rfl) ?_
                first
                  | exact hK1 q rfl τ7 p7 e7
                  | (rw [if_pos c18] at hK2
                     have e1 : cs ++ (es ++ es2 ++ [-13]) = cs ++ es ++ es2 ++ [-13] := by simp only [List.append_assoc]
                     exact hK2 (es ++ es2 ++ [-13]) a2 rfl (by rw [e1, List.length_append]; show (cs ++ es ++ es2).length + 1 + d ≤ a2; omega) m2 (by omega) τ9 (by rw [e1]; exact hq9))
                  | (rw [if_neg c18] at hK2
                     have e1 : cs ++ (es ++ es2 ++ [-14]) = cs ++ es ++ es2 ++ [-14] := by simp only [List.append_assoc]
                     exact hK2 (es ++ es2 ++ [-14]) a2 rfl (by rw [e1, List.length_append]; show (cs ++ es ++ es2).length + 1 + d ≤ a2; omega) m2 (by omega) τ9 (by rw [e1]; exact hq9))
      · refine g_iload_n B dX1_compared_21 rfl ?_
        refine g_bipush (v := (61)) B dX1_compared_22 (by decide) ?_
        refine g_icmp_eq (tgt := 29) B dX1_compared_24 (by decide) (fun c24 => ?_) (fun c24 => ?_)
        · have h60 : TT g a1 = 60 ∨ TT g a1 = 61 := by
            first
            | exact Or.inl c18
            | exact Or.inr c24
          rw [if_pos h60] at hK1 hK2
          have hnz : ¬ TT g a1 = 0 := fun z => by rw [z] at h60; exact absurd h60 (by decide)
          have hap := tt_lt hG8.1 hnz
          refine g_aload_n B dX1_compared_29 rfl ?_
          refine g_dup B dX1_compared_30 rfl ?_
          refine g_getI (T := TX1) (N := 9) B dX1_compared_31 (by decide) (by rfl) (inq inlX1) rfl 7 (by decide) (mq f_X1_34) (by rfl) ?_
          rw [hat8]
          refine g_iconst (v := (1)) B dX1_compared_34 (by decide) ?_
          refine g_iadd B dX1_compared_35 ?_
          rw [nI_1]
          refine g_putI (T := TX1) (N := 9) B dX1_compared_36 (by decide) (by rfl) (inq inlX1) rfl 7 (by decide) (mq f_X1_34) tyX1_ok nmX1 rfl ⟨rfl, rfl⟩ (by rfl) ?_
          refine g_aload_n B dX1_compared_39 rfl ?_
          refine g_iload_n B dX1_compared_40 rfl ?_
          refine g_callVi (C := RX1) (As := [.int _]) B dX1_compared_41 (gc1 g_X1_152) (by rfl) ⟨rfl, hd_X1_sum⟩ (by constructor <;> (simp only [rmk]; omega)) ⟨rfl, rfl⟩ rfl rfl (by exact Nat.le_of_ble_eq_true rfl) recv1 (hin (d + 1) (a1 + 1) (cs ++ es) _ _ hq8.nx (by omega) (by omega) (fun q hf2 τ7 p7 e7 => ?_) (fun es2 a2 hf2 m1 m2 m3 τ7 hq7 => ?_))
          · rw [hf2] at hK1
            refine g_if_eq (tgt := 71) B dX1_compared_44 (by decide) (fun c44 => ?_) (fun c44 => ?_)
            · refine g_iconst (v := (0)) B dX1_compared_71 (by decide) ?_
              refine g_zreti B dX1_compared_72 (by rfl) ?_
              first
                | exact hK1 q rfl τ7 p7 e7
                | (rw [if_pos c18] at hK2
                   have e1 : cs ++ (es ++ es2 ++ [-13]) = cs ++ es ++ es2 ++ [-13] := by simp only [List.append_assoc]
                   exact hK2 (es ++ es2 ++ [-13]) a2 rfl (by rw [e1, List.length_append]; show (cs ++ es ++ es2).length + 1 + d ≤ a2; omega) m2 (by omega) τ9 (by rw [e1]; exact hq9))
                | (rw [if_neg c18] at hK2
                   have e1 : cs ++ (es ++ es2 ++ [-14]) = cs ++ es ++ es2 ++ [-14] := by simp only [List.append_assoc]
                   exact hK2 (es ++ es2 ++ [-14]) a2 rfl (by rw [e1, List.length_append]; show (cs ++ es ++ es2).length + 1 + d ≤ a2; omega) m2 (by omega) τ9 (by rw [e1]; exact hq9))
            · exact absurd rfl c44
          · rw [hf2] at hK1 hK2; dsimp only at hK1 hK2
            refine g_if_eq (tgt := 71) B dX1_compared_44 (by decide) (fun c44 => ?_) (fun c44 => ?_)
            · exact absurd c44 (by decide)
            · refine g_aload_n B dX1_compared_47 rfl ?_
              refine g_iload_n B dX1_compared_48 rfl ?_
              refine g_bipush (v := (60)) B dX1_compared_49 (by decide) ?_
              refine g_icmp_ne (tgt := 59) B dX1_compared_51 (by decide) (fun c51 => ?_) (fun c51 => ?_)
              · refine g_bipush (v := (-14)) B dX1_compared_59 (by decide) ?_
                refine g_callVi (C := RX1) (As := [.int _]) B dX1_compared_61 (gc1 g_X1_143) (by rfl) ⟨rfl, hd_X1_write⟩ (by constructor <;> (simp only [rmk]; omega)) ⟨rfl, rfl⟩ rfl rfl (by exact Nat.le_of_ble_eq_true rfl) recv1 (x_write h0 hq7 (by omega) (fun τ9 hq9 => ?_))
                refine g_if_eq (tgt := 71) B dX1_compared_64 (by decide) (fun c64 => ?_) (fun c64 => ?_)
                · exact absurd c64 (by decide)
                · refine g_iconst (v := (1)) B dX1_compared_67 (by decide) ?_
                  refine g_goto (tgt := 72) B dX1_compared_68 (by decide) ?_
                  refine g_zreti B dX1_compared_72 (by rfl) ?_
                  first
                    | exact hK1 q rfl τ7 p7 e7
                    | (rw [if_pos c18] at hK2
                       have e1 : cs ++ (es ++ es2 ++ [-13]) = cs ++ es ++ es2 ++ [-13] := by simp only [List.append_assoc]
                       exact hK2 (es ++ es2 ++ [-13]) a2 rfl (by rw [e1, List.length_append]; show (cs ++ es ++ es2).length + 1 + d ≤ a2; omega) m2 (by omega) τ9 (by rw [e1]; exact hq9))
                    | (rw [if_neg c18] at hK2
                       have e1 : cs ++ (es ++ es2 ++ [-14]) = cs ++ es ++ es2 ++ [-14] := by simp only [List.append_assoc]
                       exact hK2 (es ++ es2 ++ [-14]) a2 rfl (by rw [e1, List.length_append]; show (cs ++ es ++ es2).length + 1 + d ≤ a2; omega) m2 (by omega) τ9 (by rw [e1]; exact hq9))
              · exact absurd c51 c18
        · refine g_iconst (v := (1)) B dX1_compared_27 (by decide) ?_
          refine g_zreti B dX1_compared_28 (by rfl) ?_
          rw [if_neg (fun z => z.elim c18 c24)] at hK2
          exact hK2 es a1 rfl l1 l2 l3 τ8 hq8
    · exact absurd c5 (by decide)
set_option maxRecDepth 100000 in
set_option maxHeartbeats 4000000 in
theorem x_negated {Z : LZ} {ad : Nat → Nat} {τ0 τ : St} {K : Int32 → St → Prop} {g : Nat → Int32} {p k op b d a : Nat} {cs : List Int32} {lo : Option LT} (h0 : RD0 τ0 g p k) (hb : 2 ≤ b) (hop : op ≤ 5) (hlo : LOk Z ad b op τ0 g p k lo) (hin : RC Z ad yX1_compared wsX1_compared (b + 4) op τ0 g p k (pCmp (TT g) (VV g) lo)) (hq : RQ τ0 k a cs τ) (hl : cs.length + d ≤ a) (ha : a ≤ p) (hK1 : ∀ q, pNot (TT g) (VV g) lo a = .inl q → ∀ τ', pkr [k + 26, k + 32] [2, 7] τ0 τ' → τ'.1 11 2 = nI (lxS g q) → K 0 τ') (hK2 : ∀ ds a2, pNot (TT g) (VV g) lo a = .inr (ds, a2) → (cs ++ ds).length + d ≤ a2 → a2 ≤ p → a < a2 → ∀ τ', RQ τ0 k a2 (cs ++ ds) τ' → K 1 τ') : CC lyX Z ad yX1_negated wsX1_negated (rmk (b + 5)) [.ref (ad 11), .int (nI op)] τ (rI K) := by
  refine CC.of (cc := cX1_negated) (nL := 2) (ret := (some .boolean)) rfl rfl ⟨rfl, rfl⟩ (by exact Nat.le_of_ble_eq_true rfl) ?_
  intro X B
  change GG _ _ _ _ X _ 0 [some (.ref (ad 11)), some (.int (nI op))] [] _
  change Amb _ _ _ _ X _ _ RX1 _ _ at B
  obtain ⟨hG, hS, hinto, hat⟩ := h0.at hq
  have hp160 := hG.1.2.2
  unfold pNot at hK1 hK2
  refine g_aload_n B dX1_negated_0 rfl ?_
  refine g_callVi (C := RX1) (As := []) B dX1_negated_1 (gc1 g_X1_123) (by rfl) ⟨rfl, hd_X1_sortNow⟩ (by constructor <;> (simp only [rmk]; omega)) ⟨rfl, rfl⟩ rfl rfl (by exact Nat.le_of_ble_eq_true rfl) recv1 (x_sort hG hS hat (by omega) ?_)
  refine g_sipush (v := (306)) B dX1_negated_4 (by decide) ?_
  refine g_icmp_eq (tgt := 16) B dX1_negated_7 (by decide) (fun c7 => ?_) (fun c7 => ?_)
  · rw [if_pos c7] at hK1 hK2
    refine g_iload_n B dX1_negated_16 rfl ?_
    refine g_iconst (v := (5)) B dX1_negated_17 (by decide) ?_
    refine g_icmp_lt (tgt := 26) B dX1_negated_18 (by decide) (fun c18 => ?_) (fun c18 => ?_)
    · obtain ⟨l, b', hll, ho, hbb, r1, r2, r3⟩ := hlo.yes c18
      subst hll
      dsimp only at hK1 hK2
      have hnz : ¬ TT g a = 0 := fun z => by rw [z] at c7; exact absurd c7 (by decide)
      have hap := tt_lt hG.1 hnz
      refine g_aload_n B dX1_negated_26 rfl ?_
      refine g_dup B dX1_negated_27 rfl ?_
      refine g_getI (T := TX1) (N := 9) B dX1_negated_28 (by decide) (by rfl) (inq inlX1) rfl 7 (by decide) (mq f_X1_34) (by rfl) ?_
      rw [hat]
      refine g_iconst (v := (1)) B dX1_negated_31 (by decide) ?_
      refine g_iadd B dX1_negated_32 ?_
      rw [nI_1]
      refine g_putI (T := TX1) (N := 9) B dX1_negated_33 (by decide) (by rfl) (inq inlX1) rfl 7 (by decide) (mq f_X1_34) tyX1_ok nmX1 rfl ⟨rfl, rfl⟩ (by rfl) ?_
      refine g_aload_n B dX1_negated_36 rfl ?_
      refine g_iload_n B dX1_negated_37 rfl ?_
      refine g_iconst (v := (1)) B dX1_negated_38 (by decide) ?_
      refine g_iadd B dX1_negated_39 ?_
      rw [nI_1]
      refine g_callVi (C := RX1) (As := [.int _]) B dX1_negated_40 (gc1 g_X1_146) (by rfl) ⟨rfl, hd_X1_negated⟩ (by constructor <;> (simp only [rmk]; omega)) ⟨rfl, rfl⟩ rfl rfl (by exact Nat.le_of_ble_eq_true rfl) recv1 (r2 (d + 1) (a + 1) cs _ _ hq.nx (by omega) (by omega) (fun q hf τ8 p8 e8 => ?_) (fun es a2 hf l1 l2 l3 τ8 hq8 => ?_))
      · rw [hf] at hK1
        refine g_if_eq (tgt := 59) B dX1_negated_43 (by decide) (fun c43 => ?_) (fun c43 => ?_)
        · refine g_iconst (v := (0)) B dX1_negated_59 (by decide) ?_
          refine g_zreti B dX1_negated_60 (by rfl) ?_
          first
            | exact hK1 q rfl τ8 p8 e8
            | (rw [List.append_assoc] at hq9
               exact hK2 (es ++ [-21]) a2 rfl (by rw [← List.append_assoc, List.length_append]; show (cs ++ es).length + 1 + d ≤ a2; omega) l2 (by omega) τ9 hq9)
        · exact absurd rfl c43
      · rw [hf] at hK1 hK2; dsimp only at hK1 hK2
        refine g_if_eq (tgt := 59) B dX1_negated_43 (by decide) (fun c43 => ?_) (fun c43 => ?_)
        · exact absurd c43 (by decide)
        · refine g_aload_n B dX1_negated_46 rfl ?_
          refine g_bipush (v := (-21)) B dX1_negated_47 (by decide) ?_
          refine g_callVi (C := RX1) (As := [.int _]) B dX1_negated_49 (gc1 g_X1_143) (by rfl) ⟨rfl, hd_X1_write⟩ (by constructor <;> (simp only [rmk]; omega)) ⟨rfl, rfl⟩ rfl rfl (by exact Nat.le_of_ble_eq_true rfl) recv1 (x_write h0 hq8 (by omega) (fun τ9 hq9 => ?_))
          refine g_if_eq (tgt := 59) B dX1_negated_52 (by decide) (fun c52 => ?_) (fun c52 => ?_)
          · exact absurd c52 (by decide)
          · refine g_iconst (v := (1)) B dX1_negated_55 (by decide) ?_
            refine g_goto (tgt := 60) B dX1_negated_56 (by decide) ?_
            refine g_zreti B dX1_negated_60 (by rfl) ?_
            first
              | exact hK1 q rfl τ8 p8 e8
              | (rw [List.append_assoc] at hq9
                 exact hK2 (es ++ [-21]) a2 rfl (by rw [← List.append_assoc, List.length_append]; show (cs ++ es).length + 1 + d ≤ a2; omega) l2 (by omega) τ9 hq9)
    · have hn := hlo.no hop c18
      subst hn
      refine g_aload_n B dX1_negated_21 rfl ?_
      refine g_callVi (C := RX1) (As := []) B dX1_negated_22 (gc1 g_X1_126) (by rfl) ⟨rfl, hd_X1_refuse⟩ (by constructor <;> (simp only [rmk]; omega)) ⟨rfl, rfl⟩ rfl rfl (by exact Nat.le_of_ble_eq_true rfl) recv1 (x_ref hG hS hat (by omega) ?_)
      refine g_zreti B dX1_negated_25 (by rfl) ?_
      exact hK1 a rfl _ hq.fl upS_1
  · rw [if_neg c7] at hK1 hK2
    refine g_aload_n B dX1_negated_10 rfl ?_
    refine g_iload_n B dX1_negated_11 rfl ?_
    refine g_callVi (C := RX1) (As := [.int _]) B dX1_negated_12 (gc1 g_X1_149) (by rfl) ⟨rfl, hd_X1_compared⟩ (by constructor <;> (simp only [rmk]; omega)) ⟨rfl, rfl⟩ rfl rfl (by exact Nat.le_of_ble_eq_true rfl) recv1 (hin d a cs _ _ hq hl ha (fun q hf τ8 p8 e8 => ?_) (fun es a1 hf l1 l2 l3 τ8 hq8 => ?_))
    · skip
      refine g_zreti B dX1_negated_15 (by rfl) ?_
      first
        | exact hK1 q hf τ8 p8 e8
        | exact hK2 es a1 hf l1 l2 l3 τ8 hq8
    · skip
      refine g_zreti B dX1_negated_15 (by rfl) ?_
      first
        | exact hK1 q hf τ8 p8 e8
        | exact hK2 es a1 hf l1 l2 l3 τ8 hq8
set_option maxRecDepth 100000 in
set_option maxHeartbeats 4000000 in
theorem lx_both {Z : LZ} {ad : Nat → Nat} {X : CX} {K : Int32 → St → Prop} {τ0 : St} {g : Nat → Int32} {p k op b d : Nat} {pf : Nat → PR} {cs0 : List Int32} (B : Amb lyX Z ad (rmk (b + 6)) X cX1_both wsX1_both RX1 3 (some .boolean)) (h0 : RD0 τ0 g p k) (hb : 2 ≤ b) (hin : RC Z ad yX1_negated wsX1_negated (b + 5) op τ0 g p k pf) : ∀ (kf i a : Nat) (ds : List Int32) (τ : St), i + kf = 200 → RQ τ0 k a (cs0 ++ ds) τ → (cs0 ++ ds).length + d ≤ a → a ≤ p → i ≤ a → (∀ q, pLoop pf (opAnd (TT g)) kf ds a = .inl q → ∀ τ', pkr [k + 26, k + 32] [2, 7] τ0 τ' → τ'.1 11 2 = nI (lxS g q) → K 0 τ') → (∀ es a2, pLoop pf (opAnd (TT g)) kf ds a = .inr (es, a2) → (cs0 ++ es).length + d ≤ a2 → a2 ≤ p → a ≤ a2 → ∀ τ', RQ τ0 k a2 (cs0 ++ es) τ' → K 1 τ') → GG lyX Z ad (rmk (b + 6)) X (rI K) 12 [some (.ref (ad 11)), some (.int (nI op)), some (.int (nI i))] [] τ := by
  have hp160 := h0.1.1.2.2
  intro kf
  induction kf with
  | zero => intro i a ds τ h1 _ _ h2 h3; omega
  | succ kf ih =>
    intro i a ds τ h1 hq hl ha hia hK1 hK2
    obtain ⟨hG, hS, hinto, hat⟩ := h0.at hq
    unfold pLoop at hK1 hK2
    refine g_iload_n B dX1_both_12 rfl ?_
    refine g_sipush (v := (160)) B dX1_both_13 (by decide) ?_
    refine g_icmp_ge (tgt := 64) B dX1_both_16 (by decide) (fun c16 => ?_) (fun c16 => ?_)
    · refine g_iconst (v := (1)) B dX1_both_64 (by decide) ?_
      refine g_zreti B dX1_both_65 (by rfl) ?_
      have hn : opAnd (TT g) a = none := by
        unfold opAnd
        first
        | exact if_neg c26
        | (have h160 : 160 ≤ i := by
             have := c16
             rw [i_le, i_n (by omega), show (160 : Int32).toInt = 160 from rfl] at this
             omega
           rw [tt_end hG.1 (show ¬ a < p by omega)]
           rfl)
      rw [hn] at hK2
      exact hK2 ds a rfl hl ha (Nat.le_refl _) τ hq
    · refine g_aload_n B dX1_both_19 rfl ?_
      refine g_callVi (C := RX1) (As := []) B dX1_both_20 (gc1 g_X1_123) (by rfl) ⟨rfl, hd_X1_sortNow⟩ (by constructor <;> (simp only [rmk]; omega)) ⟨rfl, rfl⟩ rfl rfl (by exact Nat.le_of_ble_eq_true rfl) recv1 (x_sort hG hS hat (by omega) ?_)
      refine g_sipush (v := (305)) B dX1_both_23 (by decide) ?_
      refine g_icmp_ne (tgt := 64) B dX1_both_26 (by decide) (fun c26 => ?_) (fun c26 => ?_)
      · refine g_iconst (v := (1)) B dX1_both_64 (by decide) ?_
        refine g_zreti B dX1_both_65 (by rfl) ?_
        have hn : opAnd (TT g) a = none := by
          unfold opAnd
          first
          | exact if_neg c26
          | (have h160 : 160 ≤ i := by
               have := c16
               rw [i_le, i_n (by omega), show (160 : Int32).toInt = 160 from rfl] at this
               omega
             rw [tt_end hG.1 (show ¬ a < p by omega)]
             rfl)
        rw [hn] at hK2
        exact hK2 ds a rfl hl ha (Nat.le_refl _) τ hq
      · have hop : opAnd (TT g) a = some (-12) := if_pos c26
        have hnz : ¬ TT g a = 0 := fun z => by rw [z] at c26; exact absurd c26 (by decide)
        rw [hop] at hK1 hK2
        dsimp only at hK1 hK2
        have hap := tt_lt hG.1 hnz
        refine g_aload_n B dX1_both_29 rfl ?_
        refine g_dup B dX1_both_30 rfl ?_
        refine g_getI (T := TX1) (N := 9) B dX1_both_31 (by decide) (by rfl) (inq inlX1) rfl 7 (by decide) (mq f_X1_34) (by rfl) ?_
        rw [hat]
        refine g_iconst (v := (1)) B dX1_both_34 (by decide) ?_
        refine g_iadd B dX1_both_35 ?_
        rw [nI_1]
        refine g_putI (T := TX1) (N := 9) B dX1_both_36 (by decide) (by rfl) (inq inlX1) rfl 7 (by decide) (mq f_X1_34) tyX1_ok nmX1 rfl ⟨rfl, rfl⟩ (by rfl) ?_
        refine g_aload_n B dX1_both_39 rfl ?_
        refine g_iload_n B dX1_both_40 rfl ?_
        refine g_callVi (C := RX1) (As := [.int _]) B dX1_both_41 (gc1 g_X1_146) (by rfl) ⟨rfl, hd_X1_negated⟩ (by constructor <;> (simp only [rmk]; omega)) ⟨rfl, rfl⟩ rfl rfl (by exact Nat.le_of_ble_eq_true rfl) recv1 (hin (d + 1) (a + 1) (cs0 ++ ds) _ _ hq.nx (by omega) (by omega) (fun q hf τ8 p8 e8 => ?_) (fun es a2 hf l1 l2 l3 τ8 hq8 => ?_))
        · rw [hf] at hK1
          refine g_if_eq (tgt := 56) B dX1_both_44 (by decide) (fun c44 => ?_) (fun c44 => ?_)
          · refine g_iconst (v := (0)) B dX1_both_56 (by decide) ?_
            refine g_zreti B dX1_both_57 (by rfl) ?_
            exact hK1 q rfl τ8 p8 e8
          · exact absurd rfl c44
        · rw [hf] at hK1 hK2; dsimp only at hK1 hK2
          refine g_if_eq (tgt := 56) B dX1_both_44 (by decide) (fun c44 => ?_) (fun c44 => ?_)
          · exact absurd c44 (by decide)
          · refine g_aload_n B dX1_both_47 rfl ?_
            refine g_bipush (v := (-12)) B dX1_both_48 (by decide) ?_
            refine g_callVi (C := RX1) (As := [.int _]) B dX1_both_50 (gc1 g_X1_143) (by rfl) ⟨rfl, hd_X1_write⟩ (by constructor <;> (simp only [rmk]; omega)) ⟨rfl, rfl⟩ rfl rfl (by exact Nat.le_of_ble_eq_true rfl) recv1 (x_write h0 hq8 (by omega) (fun τ9 hq9 => ?_))
            refine g_if_ne (tgt := 58) B dX1_both_53 (by decide) (fun c53 => ?_) (fun c53 => ?_)
            · refine g_iinc (c9 := (1)) B dX1_both_58 rfl (by decide) (by decide) rfl ?_
              refine g_goto (tgt := 12) B dX1_both_61 (by decide) ?_
              rw [nI_1 i]
              first
                | (have e1 : cs0 ++ (ds ++ es ++ [(-12)]) = cs0 ++ ds ++ es ++ [(-12)] := by simp only [List.append_assoc]
                   refine ih (i + 1) a2 (ds ++ es ++ [(-12)]) τ9 (by omega) (by rw [e1]; exact hq9) (by rw [e1, List.length_append]; show (cs0 ++ ds ++ es).length + 1 + d ≤ a2; omega) l2 (by omega) hK1 (fun es2 a3 hf2 x1 x2 x3 τ' h' => hK2 es2 a3 hf2 x1 x2 (by omega) τ' h'))
            · exact absurd c53 (by decide)
set_option maxRecDepth 100000 in
set_option maxHeartbeats 4000000 in
theorem x_both {Z : LZ} {ad : Nat → Nat} {τ0 τ : St} {K : Int32 → St → Prop} {g : Nat → Int32} {p k op b d a : Nat} {pf : Nat → PR} {cs : List Int32} (h0 : RD0 τ0 g p k) (hb : 2 ≤ b) (hin : RC Z ad yX1_negated wsX1_negated (b + 5) op τ0 g p k pf) (hq : RQ τ0 k a cs τ) (hl : cs.length + d ≤ a) (ha : a ≤ p) (hK1 : ∀ q, pSeq pf (opAnd (TT g)) a = .inl q → ∀ τ', pkr [k + 26, k + 32] [2, 7] τ0 τ' → τ'.1 11 2 = nI (lxS g q) → K 0 τ') (hK2 : ∀ ds a2, pSeq pf (opAnd (TT g)) a = .inr (ds, a2) → (cs ++ ds).length + d ≤ a2 → a2 ≤ p → a < a2 → ∀ τ', RQ τ0 k a2 (cs ++ ds) τ' → K 1 τ') : CC lyX Z ad yX1_both wsX1_both (rmk (b + 6)) [.ref (ad 11), .int (nI op)] τ (rI K) := by
  refine CC.of (cc := cX1_both) (nL := 3) (ret := (some .boolean)) rfl rfl ⟨rfl, rfl⟩ (by exact Nat.le_of_ble_eq_true rfl) ?_
  intro X B
  change GG _ _ _ _ X _ 0 [some (.ref (ad 11)), some (.int (nI op)), none] [] _
  change Amb _ _ _ _ X _ _ RX1 _ _ at B
  unfold pSeq at hK1 hK2
  refine g_aload_n B dX1_both_0 rfl ?_
  refine g_iload_n B dX1_both_1 rfl ?_
  refine g_callVi (C := RX1) (As := [.int _]) B dX1_both_2 (gc1 g_X1_146) (by rfl) ⟨rfl, hd_X1_negated⟩ (by constructor <;> (simp only [rmk]; omega)) ⟨rfl, rfl⟩ rfl rfl (by exact Nat.le_of_ble_eq_true rfl) recv1 (hin d a cs _ _ hq hl ha (fun q hf τ8 p8 e8 => ?_) (fun es a1 hf l1 l2 l3 τ8 hq8 => ?_))
  · rw [hf] at hK1
    refine g_if_ne (tgt := 10) B dX1_both_5 (by decide) (fun c5 => ?_) (fun c5 => ?_)
    · exact absurd rfl c5
    · refine g_iconst (v := (0)) B dX1_both_8 (by decide) ?_
      refine g_zreti B dX1_both_9 (by rfl) ?_
      exact hK1 q rfl τ8 p8 e8
  · rw [hf] at hK1 hK2; dsimp only at hK1 hK2
    refine g_if_ne (tgt := 10) B dX1_both_5 (by decide) (fun c5 => ?_) (fun c5 => ?_)
    · refine g_iconst (v := (0)) B dX1_both_10 (by decide) ?_
      refine g_istore_n B dX1_both_11 (by decide) rfl ?_
      exact lx_both B h0 hb hin 200 0 a1 es τ8 (by omega) hq8 l1 l2 (by omega) hK1 (fun es2 a3 hf x1 x2 x3 τ' h' => hK2 es2 a3 hf x1 x2 (by omega) τ' h')
    · exact absurd c5 (by decide)
set_option maxRecDepth 100000 in
set_option maxHeartbeats 4000000 in
theorem lx_either {Z : LZ} {ad : Nat → Nat} {X : CX} {K : Int32 → St → Prop} {τ0 : St} {g : Nat → Int32} {p k op b d : Nat} {pf : Nat → PR} {cs0 : List Int32} (B : Amb lyX Z ad (rmk (b + 7)) X cX1_either wsX1_either RX1 3 (some .boolean)) (h0 : RD0 τ0 g p k) (hb : 2 ≤ b) (hin : RC Z ad yX1_both wsX1_both (b + 6) op τ0 g p k pf) : ∀ (kf i a : Nat) (ds : List Int32) (τ : St), i + kf = 200 → RQ τ0 k a (cs0 ++ ds) τ → (cs0 ++ ds).length + d ≤ a → a ≤ p → i ≤ a → (∀ q, pLoop pf (opOr (TT g)) kf ds a = .inl q → ∀ τ', pkr [k + 26, k + 32] [2, 7] τ0 τ' → τ'.1 11 2 = nI (lxS g q) → K 0 τ') → (∀ es a2, pLoop pf (opOr (TT g)) kf ds a = .inr (es, a2) → (cs0 ++ es).length + d ≤ a2 → a2 ≤ p → a ≤ a2 → ∀ τ', RQ τ0 k a2 (cs0 ++ es) τ' → K 1 τ') → GG lyX Z ad (rmk (b + 7)) X (rI K) 12 [some (.ref (ad 11)), some (.int (nI op)), some (.int (nI i))] [] τ := by
  have hp160 := h0.1.1.2.2
  intro kf
  induction kf with
  | zero => intro i a ds τ h1 _ _ h2 h3; omega
  | succ kf ih =>
    intro i a ds τ h1 hq hl ha hia hK1 hK2
    obtain ⟨hG, hS, hinto, hat⟩ := h0.at hq
    unfold pLoop at hK1 hK2
    refine g_iload_n B dX1_either_12 rfl ?_
    refine g_sipush (v := (160)) B dX1_either_13 (by decide) ?_
    refine g_icmp_ge (tgt := 64) B dX1_either_16 (by decide) (fun c16 => ?_) (fun c16 => ?_)
    · refine g_iconst (v := (1)) B dX1_either_64 (by decide) ?_
      refine g_zreti B dX1_either_65 (by rfl) ?_
      have hn : opOr (TT g) a = none := by
        unfold opOr
        first
        | exact if_neg c26
        | (have h160 : 160 ≤ i := by
             have := c16
             rw [i_le, i_n (by omega), show (160 : Int32).toInt = 160 from rfl] at this
             omega
           rw [tt_end hG.1 (show ¬ a < p by omega)]
           rfl)
      rw [hn] at hK2
      exact hK2 ds a rfl hl ha (Nat.le_refl _) τ hq
    · refine g_aload_n B dX1_either_19 rfl ?_
      refine g_callVi (C := RX1) (As := []) B dX1_either_20 (gc1 g_X1_123) (by rfl) ⟨rfl, hd_X1_sortNow⟩ (by constructor <;> (simp only [rmk]; omega)) ⟨rfl, rfl⟩ rfl rfl (by exact Nat.le_of_ble_eq_true rfl) recv1 (x_sort hG hS hat (by omega) ?_)
      refine g_sipush (v := (304)) B dX1_either_23 (by decide) ?_
      refine g_icmp_ne (tgt := 64) B dX1_either_26 (by decide) (fun c26 => ?_) (fun c26 => ?_)
      · refine g_iconst (v := (1)) B dX1_either_64 (by decide) ?_
        refine g_zreti B dX1_either_65 (by rfl) ?_
        have hn : opOr (TT g) a = none := by
          unfold opOr
          first
          | exact if_neg c26
          | (have h160 : 160 ≤ i := by
               have := c16
               rw [i_le, i_n (by omega), show (160 : Int32).toInt = 160 from rfl] at this
               omega
             rw [tt_end hG.1 (show ¬ a < p by omega)]
             rfl)
        rw [hn] at hK2
        exact hK2 ds a rfl hl ha (Nat.le_refl _) τ hq
      · have hop : opOr (TT g) a = some (-11) := if_pos c26
        have hnz : ¬ TT g a = 0 := fun z => by rw [z] at c26; exact absurd c26 (by decide)
        rw [hop] at hK1 hK2
        dsimp only at hK1 hK2
        have hap := tt_lt hG.1 hnz
        refine g_aload_n B dX1_either_29 rfl ?_
        refine g_dup B dX1_either_30 rfl ?_
        refine g_getI (T := TX1) (N := 9) B dX1_either_31 (by decide) (by rfl) (inq inlX1) rfl 7 (by decide) (mq f_X1_34) (by rfl) ?_
        rw [hat]
        refine g_iconst (v := (1)) B dX1_either_34 (by decide) ?_
        refine g_iadd B dX1_either_35 ?_
        rw [nI_1]
        refine g_putI (T := TX1) (N := 9) B dX1_either_36 (by decide) (by rfl) (inq inlX1) rfl 7 (by decide) (mq f_X1_34) tyX1_ok nmX1 rfl ⟨rfl, rfl⟩ (by rfl) ?_
        refine g_aload_n B dX1_either_39 rfl ?_
        refine g_iload_n B dX1_either_40 rfl ?_
        refine g_callVi (C := RX1) (As := [.int _]) B dX1_either_41 (gc1 g_X1_140) (by rfl) ⟨rfl, hd_X1_both⟩ (by constructor <;> (simp only [rmk]; omega)) ⟨rfl, rfl⟩ rfl rfl (by exact Nat.le_of_ble_eq_true rfl) recv1 (hin (d + 1) (a + 1) (cs0 ++ ds) _ _ hq.nx (by omega) (by omega) (fun q hf τ8 p8 e8 => ?_) (fun es a2 hf l1 l2 l3 τ8 hq8 => ?_))
        · rw [hf] at hK1
          refine g_if_eq (tgt := 56) B dX1_either_44 (by decide) (fun c44 => ?_) (fun c44 => ?_)
          · refine g_iconst (v := (0)) B dX1_either_56 (by decide) ?_
            refine g_zreti B dX1_either_57 (by rfl) ?_
            exact hK1 q rfl τ8 p8 e8
          · exact absurd rfl c44
        · rw [hf] at hK1 hK2; dsimp only at hK1 hK2
          refine g_if_eq (tgt := 56) B dX1_either_44 (by decide) (fun c44 => ?_) (fun c44 => ?_)
          · exact absurd c44 (by decide)
          · refine g_aload_n B dX1_either_47 rfl ?_
            refine g_bipush (v := (-11)) B dX1_either_48 (by decide) ?_
            refine g_callVi (C := RX1) (As := [.int _]) B dX1_either_50 (gc1 g_X1_143) (by rfl) ⟨rfl, hd_X1_write⟩ (by constructor <;> (simp only [rmk]; omega)) ⟨rfl, rfl⟩ rfl rfl (by exact Nat.le_of_ble_eq_true rfl) recv1 (x_write h0 hq8 (by omega) (fun τ9 hq9 => ?_))
            refine g_if_ne (tgt := 58) B dX1_either_53 (by decide) (fun c53 => ?_) (fun c53 => ?_)
            · refine g_iinc (c9 := (1)) B dX1_either_58 rfl (by decide) (by decide) rfl ?_
              refine g_goto (tgt := 12) B dX1_either_61 (by decide) ?_
              rw [nI_1 i]
              first
                | (have e1 : cs0 ++ (ds ++ es ++ [(-11)]) = cs0 ++ ds ++ es ++ [(-11)] := by simp only [List.append_assoc]
                   refine ih (i + 1) a2 (ds ++ es ++ [(-11)]) τ9 (by omega) (by rw [e1]; exact hq9) (by rw [e1, List.length_append]; show (cs0 ++ ds ++ es).length + 1 + d ≤ a2; omega) l2 (by omega) hK1 (fun es2 a3 hf2 x1 x2 x3 τ' h' => hK2 es2 a3 hf2 x1 x2 (by omega) τ' h'))
            · exact absurd c53 (by decide)
set_option maxRecDepth 100000 in
set_option maxHeartbeats 4000000 in
theorem x_either {Z : LZ} {ad : Nat → Nat} {τ0 τ : St} {K : Int32 → St → Prop} {g : Nat → Int32} {p k op b d a : Nat} {pf : Nat → PR} {cs : List Int32} (h0 : RD0 τ0 g p k) (hb : 2 ≤ b) (hin : RC Z ad yX1_both wsX1_both (b + 6) op τ0 g p k pf) (hq : RQ τ0 k a cs τ) (hl : cs.length + d ≤ a) (ha : a ≤ p) (hK1 : ∀ q, pSeq pf (opOr (TT g)) a = .inl q → ∀ τ', pkr [k + 26, k + 32] [2, 7] τ0 τ' → τ'.1 11 2 = nI (lxS g q) → K 0 τ') (hK2 : ∀ ds a2, pSeq pf (opOr (TT g)) a = .inr (ds, a2) → (cs ++ ds).length + d ≤ a2 → a2 ≤ p → a < a2 → ∀ τ', RQ τ0 k a2 (cs ++ ds) τ' → K 1 τ') : CC lyX Z ad yX1_either wsX1_either (rmk (b + 7)) [.ref (ad 11), .int (nI op)] τ (rI K) := by
  refine CC.of (cc := cX1_either) (nL := 3) (ret := (some .boolean)) rfl rfl ⟨rfl, rfl⟩ (by exact Nat.le_of_ble_eq_true rfl) ?_
  intro X B
  change GG _ _ _ _ X _ 0 [some (.ref (ad 11)), some (.int (nI op)), none] [] _
  change Amb _ _ _ _ X _ _ RX1 _ _ at B
  unfold pSeq at hK1 hK2
  refine g_aload_n B dX1_either_0 rfl ?_
  refine g_iload_n B dX1_either_1 rfl ?_
  refine g_callVi (C := RX1) (As := [.int _]) B dX1_either_2 (gc1 g_X1_140) (by rfl) ⟨rfl, hd_X1_both⟩ (by constructor <;> (simp only [rmk]; omega)) ⟨rfl, rfl⟩ rfl rfl (by exact Nat.le_of_ble_eq_true rfl) recv1 (hin d a cs _ _ hq hl ha (fun q hf τ8 p8 e8 => ?_) (fun es a1 hf l1 l2 l3 τ8 hq8 => ?_))
  · rw [hf] at hK1
    refine g_if_ne (tgt := 10) B dX1_either_5 (by decide) (fun c5 => ?_) (fun c5 => ?_)
    · exact absurd rfl c5
    · refine g_iconst (v := (0)) B dX1_either_8 (by decide) ?_
      refine g_zreti B dX1_either_9 (by rfl) ?_
      exact hK1 q rfl τ8 p8 e8
  · rw [hf] at hK1 hK2; dsimp only at hK1 hK2
    refine g_if_ne (tgt := 10) B dX1_either_5 (by decide) (fun c5 => ?_) (fun c5 => ?_)
    · refine g_iconst (v := (0)) B dX1_either_10 (by decide) ?_
      refine g_istore_n B dX1_either_11 (by decide) rfl ?_
      exact lx_either B h0 hb hin 200 0 a1 es τ8 (by omega) hq8 l1 l2 (by omega) hK1 (fun es2 a3 hf x1 x2 x3 τ' h' => hK2 es2 a3 hf x1 x2 (by omega) τ' h')
    · exact absurd c5 (by decide)
/-- all levels: 5 less j stand open *room 7 * j + 2* -/
theorem LEV {Z : LZ} {ad : Nat → Nat} {τ0 : St} {g : Nat → Int32} {p k : Nat} (h0 : RD0 τ0 g p k) : ∀ j, j ≤ 5 → LOk Z ad (7 * j + 2) (5 - j) τ0 g p k (pLev (TT g) (VV g) j) ∧ RC Z ad yX1_either wsX1_either (7 * j + 2 + 7) (5 - j) τ0 g p k (pEith (TT g) (VV g) (pLev (TT g) (VV g) j)) := by
  have step : ∀ (b op : Nat) (lo : Option LT), 2 ≤ b → op ≤ 5 → LOk Z ad b op τ0 g p k lo → RC Z ad yX1_one wsX1_one (b + 1) op τ0 g p k (pAtom (TT g) (VV g) lo) ∧ RC Z ad yX1_negated wsX1_negated (b + 5) op τ0 g p k (pNot (TT g) (VV g) lo) ∧ RC Z ad yX1_either wsX1_either (b + 7) op τ0 g p k (pEith (TT g) (VV g) lo) := by
    intro b op lo hb hop hlo
    have r1 : RC Z ad yX1_one wsX1_one (b + 1) op τ0 g p k (pAtom (TT g) (VV g) lo) := fun d a cs τ K hq hl ha k1 k2 => x_one h0 hb hop hlo hq hl ha k1 k2
    have r2 : RC Z ad yX1_term wsX1_term (b + 2) op τ0 g p k (pTerm (TT g) (VV g) lo) := fun d a cs τ K hq hl ha k1 k2 => x_term h0 hb r1 hq hl ha k1 k2
    have r3 : RC Z ad yX1_sum wsX1_sum (b + 3) op τ0 g p k (pSum (TT g) (VV g) lo) := fun d a cs τ K hq hl ha k1 k2 => x_sum h0 hb r2 hq hl ha k1 k2
    have r4 : RC Z ad yX1_compared wsX1_compared (b + 4) op τ0 g p k (pCmp (TT g) (VV g) lo) := fun d a cs τ K hq hl ha k1 k2 => x_compared h0 hb r3 hq hl ha k1 k2
    have r5 : RC Z ad yX1_negated wsX1_negated (b + 5) op τ0 g p k (pNot (TT g) (VV g) lo) := fun d a cs τ K hq hl ha k1 k2 => x_negated h0 hb hop hlo r4 hq hl ha k1 k2
    have r6 : RC Z ad yX1_both wsX1_both (b + 6) op τ0 g p k (pBoth (TT g) (VV g) lo) := fun d a cs τ K hq hl ha k1 k2 => x_both h0 hb r5 hq hl ha k1 k2
    have r7 : RC Z ad yX1_either wsX1_either (b + 7) op τ0 g p k (pEith (TT g) (VV g) lo) := fun d a cs τ K hq hl ha k1 k2 => x_either h0 hb r6 hq hl ha k1 k2
    exact ⟨r1, r5, r7⟩
  intro j
  induction j with
  | zero =>
    intro _
    have hl : LOk Z ad (7 * 0 + 2) (5 - 0) τ0 g p k (pLev (TT g) (VV g) 0) := Or.inl ⟨rfl, rfl⟩
    exact ⟨hl, (step _ _ _ (by omega) (by omega) hl).2.2⟩
  | succ j ih =>
    intro hj
    obtain ⟨h1, _⟩ := ih (by omega)
    obtain ⟨r1, r5, r7⟩ := step _ _ _ (by omega) (by omega) h1
    have e : 5 - j = 5 - (j + 1) + 1 := by omega
    rw [e] at r1 r5 r7
    have hl : LOk Z ad (7 * (j + 1) + 2) (5 - (j + 1)) τ0 g p k (pLev (TT g) (VV g) (j + 1)) := Or.inr ⟨pMk (TT g) (VV g) (pLev (TT g) (VV g) j), 7 * j + 2, rfl, by omega, by omega, r1, r5, r7⟩
    exact ⟨hl, (step _ _ _ (by omega) (by omega) hl).2.2⟩

