/-! the tape cut into tokens *program* -/
/-- the tape holds p bytes, g says them (-1 behind the end) -/
def GB (τ : St) (g : Nat → Int32) (p : Nat) : Prop := gEnd g p ∧ τ.1 11 1 = nI p ∧ ∀ i, i < p → τ.1 16 i = g i
set_option maxRecDepth 100000 in
set_option maxHeartbeats 4000000 in
theorem x_byte {Z : LZ} {ad : Nat → Nat} {τ : St} {K : Int32 → St → Prop} {x : Int32} {g : Nat → Int32} {p j : Nat} (hG : GB τ g p) (hx : x = nI j) (hj : j < 2147483648) (hK : K (g j) τ) : CC lyX Z ad yX1_byteAt wsX1_byteAt (rmk 0) [.ref (ad 11), .int x] τ (rI K) := by
  refine CC.of (cc := cX1_byteAt) (nL := 2) (ret := (some .int)) rfl rfl ⟨rfl, rfl⟩ (by exact Nat.le_of_ble_eq_true rfl) ?_
  intro X B
  change GG _ _ _ _ X _ 0 [some (.ref (ad 11)), some (.int x)] [] _
  change Amb _ _ _ _ X _ _ RX1 _ _ at B
  subst hx
  have hp := hG.1.2.2
  refine g_iload_n B dX1_byteAt_0 rfl ?_
  refine g_if_lt (tgt := 28) B dX1_byteAt_1 (by decide) (fun c1 => ?_) (fun c1 => ?_)
  · exact absurd (i_lt.mp c1) (by rw [i_n hj, i0]; omega)
  · refine g_iload_n B dX1_byteAt_4 rfl ?_
    refine g_aload_n B dX1_byteAt_5 rfl ?_
    refine g_getI (T := TX1) (N := 9) B dX1_byteAt_6 (by decide) (by rfl) (inq inlX1) rfl 1 (by decide) (mq f_X1_15) (by rfl) ?_
    rw [hG.2.1]
    refine g_icmp_ge (tgt := 28) B dX1_byteAt_9 (by decide) (fun c9 => ?_) (fun c9 => ?_)
    · refine g_iconst (v := (-1)) B dX1_byteAt_28 (by decide) ?_
      refine g_ireti B dX1_byteAt_29 ?_
      first
        | (have h1 : p ≤ j := by
             have := i_le.mp c9
             rw [i_n (by omega), i_n (by omega)] at this
             omega
           rw [hG.1.1 j h1] at hK
           exact hK)
        | exact hK
    · have h1 : j < p := by
        have := Int32.not_le.mp c9
        rw [i_lt, i_n (by omega), i_n (by omega)] at this
        omega
      refine g_iload_n B dX1_byteAt_12 rfl ?_
      refine g_sipush (v := (160)) B dX1_byteAt_13 (by decide) ?_
      refine g_icmp_ge (tgt := 28) B dX1_byteAt_16 (by decide) (fun c16 => ?_) (fun c16 => ?_)
      · exact absurd (i_le.mp c16) (by rw [i_n (by omega), show (160 : Int32).toInt = 160 from rfl]; omega)
      · refine g_aload_n B dX1_byteAt_19 rfl ?_
        refine g_getR (T := TX1) (N := 9) B dX1_byteAt_20 (by decide) (by rfl) (inq inlX1) rfl 0 (by decide) (mq f_X1_9) (by rfl) ?_
        refine g_iload_n B dX1_byteAt_23 rfl ?_
        refine g_iald B dX1_byteAt_24 (by decide) (by rfl) (by exact vp_in_nI (by omega) (by omega)) ?_
        rw [i_cl (show j < 2147483648 by omega), hG.2.2 j h1]
        refine g_goto (tgt := 29) B dX1_byteAt_25 (by decide) ?_
        refine g_ireti B dX1_byteAt_29 ?_
        first
          | (have h1 : p ≤ j := by
               have := i_le.mp c9
               rw [i_n (by omega), i_n (by omega)] at this
               omega
             rw [hG.1.1 j h1] at hK
             exact hK)
          | exact hK
set_option maxRecDepth 100000 in
set_option maxHeartbeats 4000000 in
theorem x_isSign {ly : Lay} {Z : LZ} {ad : Nat → Nat} {τ : St} {K : Int32 → St → Prop} {x : Int32} (hK : K (b1 (isS x)) τ) : CC ly Z ad yX1_isSign wsX1_isSign (rmk 0) [.int x] τ (rI K) := by
  refine CC.of (cc := cX1_isSign) (nL := 1) (ret := (some .boolean)) rfl rfl ⟨rfl, rfl⟩ (by exact Nat.le_of_ble_eq_true rfl) ?_
  intro X B
  change GG _ _ _ _ X _ 0 [some (.int x)] [] _
  change Amb _ _ _ _ X _ _ RX1 _ _ at B
  refine g_iload_n B dX1_isSign_0 rfl ?_
  refine g_bipush (v := (40)) B dX1_isSign_1 (by decide) ?_
  refine g_icmp_eq (tgt := 48) B dX1_isSign_3 (by decide) (fun c3 => ?_) (fun c3 => ?_)
  · refine g_iconst (v := (1)) B dX1_isSign_48 (by decide) ?_
    refine g_goto (tgt := 53) B dX1_isSign_49 (by decide) ?_
    refine g_zreti B dX1_isSign_53 (by rfl) ?_
    refine kk (Eq.symm ?_) hK
    clear hK B
    first
      | (refine b1_t ?_; subst_vars; decide)
      | (refine b1_f ?_; simp only [isS, not_or]; exact And.intro (by assumption) (And.intro (by assumption) (And.intro (by assumption) (And.intro (by assumption) (And.intro (by assumption) (And.intro (by assumption) (And.intro (by assumption) (by assumption))))))))
  · refine g_iload_n B dX1_isSign_6 rfl ?_
    refine g_bipush (v := (41)) B dX1_isSign_7 (by decide) ?_
    refine g_icmp_eq (tgt := 48) B dX1_isSign_9 (by decide) (fun c9 => ?_) (fun c9 => ?_)
    · refine g_iconst (v := (1)) B dX1_isSign_48 (by decide) ?_
      refine g_goto (tgt := 53) B dX1_isSign_49 (by decide) ?_
      refine g_zreti B dX1_isSign_53 (by rfl) ?_
      refine kk (Eq.symm ?_) hK
      clear hK B
      first
        | (refine b1_t ?_; subst_vars; decide)
        | (refine b1_f ?_; simp only [isS, not_or]; exact And.intro (by assumption) (And.intro (by assumption) (And.intro (by assumption) (And.intro (by assumption) (And.intro (by assumption) (And.intro (by assumption) (And.intro (by assumption) (by assumption))))))))
    · refine g_iload_n B dX1_isSign_12 rfl ?_
      refine g_bipush (v := (59)) B dX1_isSign_13 (by decide) ?_
      refine g_icmp_eq (tgt := 48) B dX1_isSign_15 (by decide) (fun c15 => ?_) (fun c15 => ?_)
      · refine g_iconst (v := (1)) B dX1_isSign_48 (by decide) ?_
        refine g_goto (tgt := 53) B dX1_isSign_49 (by decide) ?_
        refine g_zreti B dX1_isSign_53 (by rfl) ?_
        refine kk (Eq.symm ?_) hK
        clear hK B
        first
          | (refine b1_t ?_; subst_vars; decide)
          | (refine b1_f ?_; simp only [isS, not_or]; exact And.intro (by assumption) (And.intro (by assumption) (And.intro (by assumption) (And.intro (by assumption) (And.intro (by assumption) (And.intro (by assumption) (And.intro (by assumption) (by assumption))))))))
      · refine g_iload_n B dX1_isSign_18 rfl ?_
        refine g_bipush (v := (43)) B dX1_isSign_19 (by decide) ?_
        refine g_icmp_eq (tgt := 48) B dX1_isSign_21 (by decide) (fun c21 => ?_) (fun c21 => ?_)
        · refine g_iconst (v := (1)) B dX1_isSign_48 (by decide) ?_
          refine g_goto (tgt := 53) B dX1_isSign_49 (by decide) ?_
          refine g_zreti B dX1_isSign_53 (by rfl) ?_
          refine kk (Eq.symm ?_) hK
          clear hK B
          first
            | (refine b1_t ?_; subst_vars; decide)
            | (refine b1_f ?_; simp only [isS, not_or]; exact And.intro (by assumption) (And.intro (by assumption) (And.intro (by assumption) (And.intro (by assumption) (And.intro (by assumption) (And.intro (by assumption) (And.intro (by assumption) (by assumption))))))))
        · refine g_iload_n B dX1_isSign_24 rfl ?_
          refine g_bipush (v := (45)) B dX1_isSign_25 (by decide) ?_
          refine g_icmp_eq (tgt := 48) B dX1_isSign_27 (by decide) (fun c27 => ?_) (fun c27 => ?_)
          · refine g_iconst (v := (1)) B dX1_isSign_48 (by decide) ?_
            refine g_goto (tgt := 53) B dX1_isSign_49 (by decide) ?_
            refine g_zreti B dX1_isSign_53 (by rfl) ?_
            refine kk (Eq.symm ?_) hK
            clear hK B
            first
              | (refine b1_t ?_; subst_vars; decide)
              | (refine b1_f ?_; simp only [isS, not_or]; exact And.intro (by assumption) (And.intro (by assumption) (And.intro (by assumption) (And.intro (by assumption) (And.intro (by assumption) (And.intro (by assumption) (And.intro (by assumption) (by assumption))))))))
          · refine g_iload_n B dX1_isSign_30 rfl ?_
            refine g_bipush (v := (42)) B dX1_isSign_31 (by decide) ?_
            refine g_icmp_eq (tgt := 48) B dX1_isSign_33 (by decide) (fun c33 => ?_) (fun c33 => ?_)
            · refine g_iconst (v := (1)) B dX1_isSign_48 (by decide) ?_
              refine g_goto (tgt := 53) B dX1_isSign_49 (by decide) ?_
              refine g_zreti B dX1_isSign_53 (by rfl) ?_
              refine kk (Eq.symm ?_) hK
              clear hK B
              first
                | (refine b1_t ?_; subst_vars; decide)
                | (refine b1_f ?_; simp only [isS, not_or]; exact And.intro (by assumption) (And.intro (by assumption) (And.intro (by assumption) (And.intro (by assumption) (And.intro (by assumption) (And.intro (by assumption) (And.intro (by assumption) (by assumption))))))))
            · refine g_iload_n B dX1_isSign_36 rfl ?_
              refine g_bipush (v := (60)) B dX1_isSign_37 (by decide) ?_
              refine g_icmp_eq (tgt := 48) B dX1_isSign_39 (by decide) (fun c39 => ?_) (fun c39 => ?_)
              · refine g_iconst (v := (1)) B dX1_isSign_48 (by decide) ?_
                refine g_goto (tgt := 53) B dX1_isSign_49 (by decide) ?_
                refine g_zreti B dX1_isSign_53 (by rfl) ?_
                refine kk (Eq.symm ?_) hK
                clear hK B
                first
                  | (refine b1_t ?_; subst_vars; decide)
                  | (refine b1_f ?_; simp only [isS, not_or]; exact And.intro (by assumption) (And.intro (by assumption) (And.intro (by assumption) (And.intro (by assumption) (And.intro (by assumption) (And.intro (by assumption) (And.intro (by assumption) (by assumption))))))))
              · refine g_iload_n B dX1_isSign_42 rfl ?_
                refine g_bipush (v := (61)) B dX1_isSign_43 (by decide) ?_
                refine g_icmp_ne (tgt := 52) B dX1_isSign_45 (by decide) (fun c45 => ?_) (fun c45 => ?_)
                · refine g_iconst (v := (0)) B dX1_isSign_52 (by decide) ?_
                  refine g_zreti B dX1_isSign_53 (by rfl) ?_
                  refine kk (Eq.symm ?_) hK
                  clear hK B
                  first
                    | (refine b1_t ?_; subst_vars; decide)
                    | (refine b1_f ?_; simp only [isS, not_or]; exact And.intro (by assumption) (And.intro (by assumption) (And.intro (by assumption) (And.intro (by assumption) (And.intro (by assumption) (And.intro (by assumption) (And.intro (by assumption) (by assumption))))))))
                · refine g_iconst (v := (1)) B dX1_isSign_48 (by decide) ?_
                  refine g_goto (tgt := 53) B dX1_isSign_49 (by decide) ?_
                  refine g_zreti B dX1_isSign_53 (by rfl) ?_
                  refine kk (Eq.symm ?_) hK
                  clear hK B
                  first
                    | (refine b1_t ?_; subst_vars; decide)
                    | (refine b1_f ?_; simp only [isS, not_or]; exact And.intro (by assumption) (And.intro (by assumption) (And.intro (by assumption) (And.intro (by assumption) (And.intro (by assumption) (And.intro (by assumption) (And.intro (by assumption) (by assumption))))))))
def spG (lo hi : Int32) (g : Nat → Int32) : Nat → Nat → Nat
  | 0, i => i
  | k + 1, i => if lo ≤ g i ∧ g i ≤ hi then spG lo hi g k (i + 1) else i
theorem spG_L {g : Nat → Int32} : ∀ k i, spG 97 122 g k i = spL g k i
  | 0, _ => rfl
  | k + 1, i => by
    unfold spG spL
    rw [spG_L k (i + 1)]
theorem spG_D {g : Nat → Int32} : ∀ k i, spG 48 57 g k i = spD g k i
  | 0, _ => rfl
  | k + 1, i => by
    unfold spG spD
    rw [spG_D k (i + 1)]
set_option maxRecDepth 100000 in
set_option maxHeartbeats 4000000 in
theorem lx_endOf {Z : LZ} {ad : Nat → Nat} {X : CX} {K : Int32 → St → Prop} {τ : St} {lo hi w : Int32} {g : Nat → Int32} {p : Nat} (B : Amb lyX Z ad (rmk 1) X cX1_endOf wsX1_endOf RX1 5 (some .int)) (hG : GB τ g p) (hlo : 0 ≤ lo.toInt) : ∀ (k i : Nat), i ≤ 160 → 160 - i < k → K (nI (spG lo hi g k i)) τ → GG lyX Z ad (rmk 1) X (rI K) 3 [some (.ref (ad 11)), some (.int w), some (.int lo), some (.int hi), some (.int (nI i))] [] τ := by
  intro k
  induction k with
  | zero => intro i _ h; omega
  | succ k ih =>
    intro i h1 h2 hK
    unfold spG at hK
    refine g_iload B dX1_endOf_3 rfl ?_
    refine g_sipush (v := (160)) B dX1_endOf_5 (by decide) ?_
    refine g_icmp_ge (tgt := 37) B dX1_endOf_8 (by decide) (fun c8 => ?_) (fun c8 => ?_)
    · refine g_iload B dX1_endOf_37 rfl ?_
      refine g_ireti B dX1_endOf_39 ?_
      have hn : ¬ (lo ≤ g i ∧ g i ≤ hi) := fun q => by
        first
        | exact absurd c28 (Int32.not_lt.mpr q.2)
        | exact absurd c18 (Int32.not_lt.mpr q.1)
        | (have h3 : i = 160 := by
             rw [i_le, i_n (by omega), show (160 : Int32).toInt = 160 from rfl] at c8
             omega
           have := hG.1.2.2
           rw [hG.1.1 i (by omega)] at q
           have := i_le.mp q.1
           rw [im1] at this
           omega)
      rw [if_neg hn] at hK
      exact hK
    · have h3 : i < 160 := by
        have := Int32.not_le.mp c8
        rw [i_lt, i_n (by omega), show (160 : Int32).toInt = 160 from rfl] at this
        omega
      refine g_aload_n B dX1_endOf_11 rfl ?_
      refine g_iload B dX1_endOf_12 rfl ?_
      refine g_callVi (C := RX1) (As := [.int _]) B dX1_endOf_14 (gc1 g_X1_65) (by rfl) ⟨rfl, hd_X1_byteAt⟩ (by exact ⟨Nat.le_of_ble_eq_true rfl, Nat.le_of_ble_eq_true rfl⟩) ⟨rfl, rfl⟩ rfl rfl (by exact Nat.le_of_ble_eq_true rfl) recv1 (x_byte (j := i) hG rfl (by omega) ?_)
      refine g_iload_n B dX1_endOf_17 rfl ?_
      refine g_icmp_lt (tgt := 37) B dX1_endOf_18 (by decide) (fun c18 => ?_) (fun c18 => ?_)
      · refine g_iload B dX1_endOf_37 rfl ?_
        refine g_ireti B dX1_endOf_39 ?_
        have hn : ¬ (lo ≤ g i ∧ g i ≤ hi) := fun q => by
          first
          | exact absurd c28 (Int32.not_lt.mpr q.2)
          | exact absurd c18 (Int32.not_lt.mpr q.1)
          | (have h3 : i = 160 := by
               rw [i_le, i_n (by omega), show (160 : Int32).toInt = 160 from rfl] at c8
               omega
             have := hG.1.2.2
             rw [hG.1.1 i (by omega)] at q
             have := i_le.mp q.1
             rw [im1] at this
             omega)
        rw [if_neg hn] at hK
        exact hK
      · refine g_aload_n B dX1_endOf_21 rfl ?_
        refine g_iload B dX1_endOf_22 rfl ?_
        refine g_callVi (C := RX1) (As := [.int _]) B dX1_endOf_24 (gc1 g_X1_65) (by rfl) ⟨rfl, hd_X1_byteAt⟩ (by exact ⟨Nat.le_of_ble_eq_true rfl, Nat.le_of_ble_eq_true rfl⟩) ⟨rfl, rfl⟩ rfl rfl (by exact Nat.le_of_ble_eq_true rfl) recv1 (x_byte (j := i) hG rfl (by omega) ?_)
        refine g_iload_n B dX1_endOf_27 rfl ?_
        refine g_icmp_gt (tgt := 37) B dX1_endOf_28 (by decide) (fun c28 => ?_) (fun c28 => ?_)
        · refine g_iload B dX1_endOf_37 rfl ?_
          refine g_ireti B dX1_endOf_39 ?_
          have hn : ¬ (lo ≤ g i ∧ g i ≤ hi) := fun q => by
            first
            | exact absurd c28 (Int32.not_lt.mpr q.2)
            | exact absurd c18 (Int32.not_lt.mpr q.1)
            | (have h3 : i = 160 := by
                 rw [i_le, i_n (by omega), show (160 : Int32).toInt = 160 from rfl] at c8
                 omega
               have := hG.1.2.2
               rw [hG.1.1 i (by omega)] at q
               have := i_le.mp q.1
               rw [im1] at this
               omega)
          rw [if_neg hn] at hK
          exact hK
        · refine g_iinc (c9 := (1)) B dX1_endOf_31 rfl (by decide) (by decide) rfl ?_
          refine g_goto (tgt := 3) B dX1_endOf_34 (by decide) ?_
          rw [nI_1 i]
          rw [if_pos ⟨Int32.not_lt.mp c18, Int32.not_lt.mp c28⟩] at hK
          exact ih (i + 1) (by omega) (by omega) hK
set_option maxRecDepth 100000 in
set_option maxHeartbeats 4000000 in
theorem x_endOf {Z : LZ} {ad : Nat → Nat} {τ : St} {K : Int32 → St → Prop} {lo hi x : Int32} {g : Nat → Int32} {p q : Nat} (hG : GB τ g p) (hlo : 0 ≤ lo.toInt) (hx : x = nI q) (hq : q ≤ 160) (hK : K (nI (spG lo hi g 200 q)) τ) : CC lyX Z ad yX1_endOf wsX1_endOf (rmk 1) [.ref (ad 11), .int x, .int lo, .int hi] τ (rI K) := by
  refine CC.of (cc := cX1_endOf) (nL := 5) (ret := (some .int)) rfl rfl ⟨rfl, rfl⟩ (by exact Nat.le_of_ble_eq_true rfl) ?_
  intro X B
  change GG _ _ _ _ X _ 0 [some (.ref (ad 11)), some (.int x), some (.int lo), some (.int hi), none] [] _
  change Amb _ _ _ _ X _ _ RX1 _ _ at B
  subst hx
  refine g_iload_n B dX1_endOf_0 rfl ?_
  refine g_istore B dX1_endOf_1 (by decide) rfl ?_
  exact lx_endOf B hG hlo 200 q hq (by omega) hK
set_option maxRecDepth 100000 in
set_option maxHeartbeats 4000000 in
theorem lx_num {Z : LZ} {ad : Nat → Nat} {X : CX} {K : Int32 → St → Prop} {τ : St} {g : Nat → Int32} {p q n : Nat} (B : Amb lyX Z ad (rmk 1) X cX1_numberOf wsX1_numberOf RX1 5 (some .int)) (hG : GB τ g p) (hq : q + n ≤ 400) (hK : K (nvI g q n) τ) : ∀ (k i : Nat), i + k = n → GG lyX Z ad (rmk 1) X (rI K) 5 [some (.ref (ad 11)), some (.int (nI q)), some (.int (nI (q + n))), some (.int (nvI g q i)), some (.int (nI (q + i)))] [] τ := by
  intro k
  induction k using Nat.strongRecOn with
  | ind k ih =>
    intro i h1
    refine g_iload B dX1_numberOf_5 rfl ?_
    refine g_iload_n B dX1_numberOf_7 rfl ?_
    refine g_icmp_ge (tgt := 32) B dX1_numberOf_8 (by decide) (fun c8 => ?_) (fun c8 => ?_)
    · refine g_iload_n B dX1_numberOf_32 rfl ?_
      refine g_ireti B dX1_numberOf_33 ?_
      rw [nI_leI (by omega) (by omega)] at c8
      have e : i = n := by omega
      subst e
      exact hK
    · rw [nI_leI (by omega) (by omega)] at c8
      refine g_iload_n B dX1_numberOf_11 rfl ?_
      refine g_bipush (v := (10)) B dX1_numberOf_12 (by decide) ?_
      refine g_imul B dX1_numberOf_14 ?_
      refine g_aload_n B dX1_numberOf_15 rfl ?_
      refine g_iload B dX1_numberOf_16 rfl ?_
      refine g_callVi (C := RX1) (As := [.int _]) B dX1_numberOf_18 (gc1 g_X1_65) (by rfl) ⟨rfl, hd_X1_byteAt⟩ (by exact ⟨Nat.le_of_ble_eq_true rfl, Nat.le_of_ble_eq_true rfl⟩) ⟨rfl, rfl⟩ rfl rfl (by exact Nat.le_of_ble_eq_true rfl) recv1 (x_byte (j := q + i) hG rfl (by omega) ?_)
      refine g_iadd B dX1_numberOf_21 ?_
      refine g_bipush (v := (48)) B dX1_numberOf_22 (by decide) ?_
      refine g_isub B dX1_numberOf_24 ?_
      refine g_istore_n B dX1_numberOf_25 (by decide) rfl ?_
      refine g_iinc (c9 := (1)) B dX1_numberOf_26 rfl (by decide) (by decide) rfl ?_
      refine g_goto (tgt := 5) B dX1_numberOf_29 (by decide) ?_
      rw [nI_1]
      exact ih (k - 1) (by omega) (i + 1) (by omega)
set_option maxRecDepth 100000 in
set_option maxHeartbeats 4000000 in
theorem x_num {Z : LZ} {ad : Nat → Nat} {τ : St} {K : Int32 → St → Prop} {x y : Int32} {g : Nat → Int32} {p q n : Nat} (hG : GB τ g p) (hx : x = nI q) (hy : y = nI (q + n)) (hq : q + n ≤ 400) (hK : K (nvI g q n) τ) : CC lyX Z ad yX1_numberOf wsX1_numberOf (rmk 1) [.ref (ad 11), .int x, .int y] τ (rI K) := by
  refine CC.of (cc := cX1_numberOf) (nL := 5) (ret := (some .int)) rfl rfl ⟨rfl, rfl⟩ (by exact Nat.le_of_ble_eq_true rfl) ?_
  intro X B
  change GG _ _ _ _ X _ 0 [some (.ref (ad 11)), some (.int x), some (.int y), none, none] [] _
  change Amb _ _ _ _ X _ _ RX1 _ _ at B
  subst hx hy
  refine g_iconst (v := (0)) B dX1_numberOf_0 (by decide) ?_
  refine g_istore_n B dX1_numberOf_1 (by decide) rfl ?_
  refine g_iload_n B dX1_numberOf_2 rfl ?_
  refine g_istore B dX1_numberOf_3 (by decide) rfl ?_
  exact lx_num B hG hq hK n 0 (by omega)
/-- word i of the twelve stands at q .. e less 1 -/
abbrev isWd (i : Nat) (g : Nat → Int32) (q e : Nat) : Prop := e = q + lenW.getD i 0 ∧ ∀ k, k < lenW.getD i 0 → g (q + k) = (bytW.getD i []).getD k 0
set_option maxRecDepth 100000 in
set_option maxHeartbeats 4000000 in
theorem lx_word {Z : LZ} {ad : Nat → Nat} {X : CX} {K : Int32 → St → Prop} {τ : St} {g : Nat → Int32} {p q e i : Nat} {aK aV : Nat → Nat} {tb fm : Nat} (B : Amb lyX Z ad (rmk 4) X cX1_isWord wsX1_isWord RX1 5 (some .boolean)) (hE : SI Z aK aV tb fm) (hi : i < 12) (hG : GB τ g p) (hq : q ≤ 160) (he : e = q + lenW.getD i 0) (hK : K (b1 (isWd i g q e)) τ) : ∀ (r k : Nat), k + r = lenW.getD i 0 → (∀ j, j < k → g (q + j) = (bytW.getD i []).getD j 0) → GG lyX Z ad (rmk 4) X (rI K) 15 [some (.ref (ad 11)), some (.ref (aK i)), some (.int (nI q)), some (.int (nI e)), some (.int (nI k))] [] τ := by
  intro r
  induction r using Nat.strongRecOn with
  | ind r ih =>
    intro k h1 h2
    have hl := len_bd i hi
    refine g_iload B dX1_isWord_15 rfl ?_
    refine g_aload_n B dX1_isWord_17 rfl ?_
    refine g_callWi (C := RJ0) (As := []) B dX1_isWord_18 (gc1 g_X1_113) (by rfl) ⟨rfl, hd_J0_length_8abf5⟩ (by exact ⟨Nat.le_of_ble_eq_true rfl, Nat.le_of_ble_eq_true rfl⟩) ⟨rfl, rfl⟩ rfl rfl (by exact Nat.le_of_ble_eq_true rfl) (hE.recv hi) (j_length hE hi ?_)
    refine g_icmp_ge (tgt := 49) B dX1_isWord_21 (by decide) (fun c21 => ?_) (fun c21 => ?_)
    · refine g_iconst (v := (1)) B dX1_isWord_49 (by decide) ?_
      refine g_zreti B dX1_isWord_50 (by rfl) ?_
      rw [nI_leI (by omega) (by omega)] at c21
      have ek : k = lenW.getD i 0 := by omega
      rw [b1_t ⟨he, fun j hj => h2 j (by omega)⟩] at hK
      exact hK
    · rw [nI_leI (by omega) (by omega)] at c21
      refine g_aload_n B dX1_isWord_24 rfl ?_
      refine g_iload_n B dX1_isWord_25 rfl ?_
      refine g_iload B dX1_isWord_26 rfl ?_
      refine g_iadd B dX1_isWord_28 ?_
      rw [nI_add]
      refine g_callVi (C := RX1) (As := [.int _]) B dX1_isWord_29 (gc1 g_X1_65) (by rfl) ⟨rfl, hd_X1_byteAt⟩ (by exact ⟨Nat.le_of_ble_eq_true rfl, Nat.le_of_ble_eq_true rfl⟩) ⟨rfl, rfl⟩ rfl rfl (by exact Nat.le_of_ble_eq_true rfl) recv1 (x_byte (j := q + k) hG rfl (by omega) ?_)
      refine g_aload_n B dX1_isWord_32 rfl ?_
      refine g_iload B dX1_isWord_33 rfl ?_
      refine g_callWi (C := RJ0) (As := [.int _]) B dX1_isWord_35 (gc1 g_X1_119) (by rfl) ⟨rfl, hd_J0_charAt_5068e⟩ (by exact ⟨Nat.le_of_ble_eq_true rfl, Nat.le_of_ble_eq_true rfl⟩) ⟨rfl, rfl⟩ rfl rfl (by exact Nat.le_of_ble_eq_true rfl) (hE.recv hi) (j_char hE hi (k := k) (by omega) ?_)
      refine g_icmp_eq (tgt := 43) B dX1_isWord_38 (by decide) (fun c38 => ?_) (fun c38 => ?_)
      · refine g_iinc (c9 := (1)) B dX1_isWord_43 rfl (by decide) (by decide) rfl ?_
        refine g_goto (tgt := 15) B dX1_isWord_46 (by decide) ?_
        rw [nI_1 k]
        exact ih (r - 1) (by omega) (k + 1) (by omega) (fun j hj => by
          by_cases q1 : j = k
          · subst q1; exact c38
          · exact h2 j (by omega))
      · refine g_iconst (v := (0)) B dX1_isWord_41 (by decide) ?_
        refine g_zreti B dX1_isWord_42 (by rfl) ?_
        rw [b1_f (fun z => c38 (z.2 k (by omega)))] at hK
        exact hK
set_option maxRecDepth 100000 in
set_option maxHeartbeats 4000000 in
theorem x_word {Z : LZ} {ad : Nat → Nat} {τ : St} {K : Int32 → St → Prop} {g : Nat → Int32} {x y : Int32} {p q e i : Nat} {aK aV : Nat → Nat} {tb fm : Nat} (hE : SI Z aK aV tb fm) (hi : i < 12) (hG : GB τ g p) (hx : x = nI q) (hy : y = nI e) (hq : q ≤ e) (he : e ≤ 160) (hK : K (b1 (isWd i g q e)) τ) : CC lyX Z ad yX1_isWord wsX1_isWord (rmk 4) [.ref (ad 11), .ref (aK i), .int x, .int y] τ (rI K) := by
  refine CC.of (cc := cX1_isWord) (nL := 5) (ret := (some .boolean)) rfl rfl ⟨rfl, rfl⟩ (by exact Nat.le_of_ble_eq_true rfl) ?_
  intro X B
  change GG _ _ _ _ X _ 0 [some (.ref (ad 11)), some (.ref (aK i)), some (.int x), some (.int y), none] [] _
  change Amb _ _ _ _ X _ _ RX1 _ _ at B
  subst hx hy
  have hl := len_bd i hi
  refine g_iload_n B dX1_isWord_0 rfl ?_
  refine g_iload_n B dX1_isWord_1 rfl ?_
  refine g_isub B dX1_isWord_2 ?_
  rw [show nI e - nI q = nI (e - q) from pk_sub hq]
  refine g_aload_n B dX1_isWord_3 rfl ?_
  refine g_callWi (C := RJ0) (As := []) B dX1_isWord_4 (gc1 g_X1_113) (by rfl) ⟨rfl, hd_J0_length_8abf5⟩ (by exact ⟨Nat.le_of_ble_eq_true rfl, Nat.le_of_ble_eq_true rfl⟩) ⟨rfl, rfl⟩ rfl rfl (by exact Nat.le_of_ble_eq_true rfl) (hE.recv hi) (j_length hE hi ?_)
  refine g_icmp_eq (tgt := 12) B dX1_isWord_7 (by decide) (fun c7 => ?_) (fun c7 => ?_)
  · refine g_iconst (v := (0)) B dX1_isWord_12 (by decide) ?_
    refine g_istore B dX1_isWord_13 (by decide) rfl ?_
    have he2 : e = q + lenW.getD i 0 := by
      have := congrArg Int32.toNatClampNeg c7
      rw [i_cl (by omega), i_cl (by omega)] at this
      omega
    exact lx_word B hE hi hG (by omega) he2 hK (lenW.getD i 0) 0 (by omega) (fun j hj => by omega)
  · refine g_iconst (v := (0)) B dX1_isWord_10 (by decide) ?_
    refine g_zreti B dX1_isWord_11 (by rfl) ?_
    rw [b1_f (fun z => c7 (by rw [z.1, show q + lenW.getD i 0 - q = lenW.getD i 0 by omega]))] at hK
    exact hK
def nmF (g : Nat → Int32) (q e : Nat) : Int32 := if isWd 0 g q e then 0 else if isWd 1 g q e then 1 else if isWd 2 g q e then 2 else if isWd 3 g q e then 3 else if isWd 4 g q e then 4 else if isWd 5 g q e then 5 else -1
def kyF (g : Nat → Int32) (q e : Nat) : Int32 := if isWd 6 g q e then 301 else if isWd 7 g q e then 302 else if isWd 8 g q e then 303 else if isWd 9 g q e then 304 else if isWd 10 g q e then 305 else if isWd 11 g q e then 306 else 1
set_option maxRecDepth 100000 in
set_option maxHeartbeats 4000000 in
theorem x_name {Z : LZ} {ad : Nat → Nat} {τ : St} {K : Int32 → St → Prop} {g : Nat → Int32} {x y : Int32} {p q e : Nat} {aK aV : Nat → Nat} {tb fm : Nat} (hE : SI Z aK aV tb fm) (hG : GB τ g p) (hx : x = nI q) (hy : y = nI e) (hq : q ≤ e) (he : e ≤ 160) (hK : K (nmF g q e) τ) : CC lyX Z ad yX1_nameOf wsX1_nameOf (rmk 5) [.ref (ad 11), .int x, .int y] τ (rI K) := by
  refine CC.of (cc := cX1_nameOf) (nL := 3) (ret := (some .int)) rfl rfl ⟨rfl, rfl⟩ (by exact Nat.le_of_ble_eq_true rfl) ?_
  intro X B
  change GG _ _ _ _ X _ 0 [some (.ref (ad 11)), some (.int x), some (.int y)] [] _
  change Amb _ _ _ _ X _ _ RX1 _ _ at B
  unfold nmF at hK
  refine g_aload_n B dX1_nameOf_0 rfl ?_
  refine g_ldcS B dX1_nameOf_1 (hE.wrd 0 (by decide)) ?_
  refine g_iload_n B dX1_nameOf_3 rfl ?_
  refine g_iload_n B dX1_nameOf_4 rfl ?_
  refine g_callVi (C := RX1) (As := [.ref _, .int _, .int _]) B dX1_nameOf_5 (gc1 g_X1_87) (by rfl) ⟨rfl, hd_X1_isWord⟩ (by exact ⟨Nat.le_of_ble_eq_true rfl, Nat.le_of_ble_eq_true rfl⟩) ⟨rfl, rfl⟩ rfl rfl (by exact Nat.le_of_ble_eq_true rfl) recv1 (x_word (i := 0) hE (by decide) hG hx hy hq he ?_)
  refine g_if_eq (tgt := 13) B dX1_nameOf_8 (by decide) (fun c8 => ?_) (fun c8 => ?_)
  · refine g_aload_n B dX1_nameOf_13 rfl ?_
    refine g_ldcS B dX1_nameOf_14 (hE.wrd 1 (by decide)) ?_
    refine g_iload_n B dX1_nameOf_16 rfl ?_
    refine g_iload_n B dX1_nameOf_17 rfl ?_
    refine g_callVi (C := RX1) (As := [.ref _, .int _, .int _]) B dX1_nameOf_18 (gc1 g_X1_87) (by rfl) ⟨rfl, hd_X1_isWord⟩ (by exact ⟨Nat.le_of_ble_eq_true rfl, Nat.le_of_ble_eq_true rfl⟩) ⟨rfl, rfl⟩ rfl rfl (by exact Nat.le_of_ble_eq_true rfl) recv1 (x_word (i := 1) hE (by decide) hG hx hy hq he ?_)
    refine g_if_eq (tgt := 26) B dX1_nameOf_21 (by decide) (fun c21 => ?_) (fun c21 => ?_)
    · refine g_aload_n B dX1_nameOf_26 rfl ?_
      refine g_ldcS B dX1_nameOf_27 (hE.wrd 2 (by decide)) ?_
      refine g_iload_n B dX1_nameOf_29 rfl ?_
      refine g_iload_n B dX1_nameOf_30 rfl ?_
      refine g_callVi (C := RX1) (As := [.ref _, .int _, .int _]) B dX1_nameOf_31 (gc1 g_X1_87) (by rfl) ⟨rfl, hd_X1_isWord⟩ (by exact ⟨Nat.le_of_ble_eq_true rfl, Nat.le_of_ble_eq_true rfl⟩) ⟨rfl, rfl⟩ rfl rfl (by exact Nat.le_of_ble_eq_true rfl) recv1 (x_word (i := 2) hE (by decide) hG hx hy hq he ?_)
      refine g_if_eq (tgt := 39) B dX1_nameOf_34 (by decide) (fun c34 => ?_) (fun c34 => ?_)
      · refine g_aload_n B dX1_nameOf_39 rfl ?_
        refine g_ldcS B dX1_nameOf_40 (hE.wrd 3 (by decide)) ?_
        refine g_iload_n B dX1_nameOf_42 rfl ?_
        refine g_iload_n B dX1_nameOf_43 rfl ?_
        refine g_callVi (C := RX1) (As := [.ref _, .int _, .int _]) B dX1_nameOf_44 (gc1 g_X1_87) (by rfl) ⟨rfl, hd_X1_isWord⟩ (by exact ⟨Nat.le_of_ble_eq_true rfl, Nat.le_of_ble_eq_true rfl⟩) ⟨rfl, rfl⟩ rfl rfl (by exact Nat.le_of_ble_eq_true rfl) recv1 (x_word (i := 3) hE (by decide) hG hx hy hq he ?_)
        refine g_if_eq (tgt := 52) B dX1_nameOf_47 (by decide) (fun c47 => ?_) (fun c47 => ?_)
        · refine g_aload_n B dX1_nameOf_52 rfl ?_
          refine g_ldcS B dX1_nameOf_53 (hE.wrd 4 (by decide)) ?_
          refine g_iload_n B dX1_nameOf_55 rfl ?_
          refine g_iload_n B dX1_nameOf_56 rfl ?_
          refine g_callVi (C := RX1) (As := [.ref _, .int _, .int _]) B dX1_nameOf_57 (gc1 g_X1_87) (by rfl) ⟨rfl, hd_X1_isWord⟩ (by exact ⟨Nat.le_of_ble_eq_true rfl, Nat.le_of_ble_eq_true rfl⟩) ⟨rfl, rfl⟩ rfl rfl (by exact Nat.le_of_ble_eq_true rfl) recv1 (x_word (i := 4) hE (by decide) hG hx hy hq he ?_)
          refine g_if_eq (tgt := 65) B dX1_nameOf_60 (by decide) (fun c60 => ?_) (fun c60 => ?_)
          · refine g_aload_n B dX1_nameOf_65 rfl ?_
            refine g_ldcS B dX1_nameOf_66 (hE.wrd 5 (by decide)) ?_
            refine g_iload_n B dX1_nameOf_68 rfl ?_
            refine g_iload_n B dX1_nameOf_69 rfl ?_
            refine g_callVi (C := RX1) (As := [.ref _, .int _, .int _]) B dX1_nameOf_70 (gc1 g_X1_87) (by rfl) ⟨rfl, hd_X1_isWord⟩ (by exact ⟨Nat.le_of_ble_eq_true rfl, Nat.le_of_ble_eq_true rfl⟩) ⟨rfl, rfl⟩ rfl rfl (by exact Nat.le_of_ble_eq_true rfl) recv1 (x_word (i := 5) hE (by decide) hG hx hy hq he ?_)
            refine g_if_eq (tgt := 78) B dX1_nameOf_73 (by decide) (fun c73 => ?_) (fun c73 => ?_)
            · refine g_iconst (v := (-1)) B dX1_nameOf_78 (by decide) ?_
              refine g_ireti B dX1_nameOf_79 ?_
              first
                | (rw [if_pos (b1_n0.mp c8)] at hK; exact hK)
                | (rw [if_neg (b1_0.mp c8), if_pos (b1_n0.mp c21)] at hK; exact hK)
                | (rw [if_neg (b1_0.mp c8), if_neg (b1_0.mp c21), if_pos (b1_n0.mp c34)] at hK; exact hK)
                | (rw [if_neg (b1_0.mp c8), if_neg (b1_0.mp c21), if_neg (b1_0.mp c34), if_pos (b1_n0.mp c47)] at hK; exact hK)
                | (rw [if_neg (b1_0.mp c8), if_neg (b1_0.mp c21), if_neg (b1_0.mp c34), if_neg (b1_0.mp c47), if_pos (b1_n0.mp c60)] at hK; exact hK)
                | (rw [if_neg (b1_0.mp c8), if_neg (b1_0.mp c21), if_neg (b1_0.mp c34), if_neg (b1_0.mp c47), if_neg (b1_0.mp c60), if_pos (b1_n0.mp c73)] at hK; exact hK)
                | (rw [if_neg (b1_0.mp c8), if_neg (b1_0.mp c21), if_neg (b1_0.mp c34), if_neg (b1_0.mp c47), if_neg (b1_0.mp c60), if_neg (b1_0.mp c73)] at hK; exact hK)
            · refine g_iconst (v := (5)) B dX1_nameOf_76 (by decide) ?_
              refine g_ireti B dX1_nameOf_77 ?_
              first
                | (rw [if_pos (b1_n0.mp c8)] at hK; exact hK)
                | (rw [if_neg (b1_0.mp c8), if_pos (b1_n0.mp c21)] at hK; exact hK)
                | (rw [if_neg (b1_0.mp c8), if_neg (b1_0.mp c21), if_pos (b1_n0.mp c34)] at hK; exact hK)
                | (rw [if_neg (b1_0.mp c8), if_neg (b1_0.mp c21), if_neg (b1_0.mp c34), if_pos (b1_n0.mp c47)] at hK; exact hK)
                | (rw [if_neg (b1_0.mp c8), if_neg (b1_0.mp c21), if_neg (b1_0.mp c34), if_neg (b1_0.mp c47), if_pos (b1_n0.mp c60)] at hK; exact hK)
                | (rw [if_neg (b1_0.mp c8), if_neg (b1_0.mp c21), if_neg (b1_0.mp c34), if_neg (b1_0.mp c47), if_neg (b1_0.mp c60), if_pos (b1_n0.mp c73)] at hK; exact hK)
                | (rw [if_neg (b1_0.mp c8), if_neg (b1_0.mp c21), if_neg (b1_0.mp c34), if_neg (b1_0.mp c47), if_neg (b1_0.mp c60), if_neg (b1_0.mp c73)] at hK; exact hK)
          · refine g_iconst (v := (4)) B dX1_nameOf_63 (by decide) ?_
            refine g_ireti B dX1_nameOf_64 ?_
            first
              | (rw [if_pos (b1_n0.mp c8)] at hK; exact hK)
              | (rw [if_neg (b1_0.mp c8), if_pos (b1_n0.mp c21)] at hK; exact hK)
              | (rw [if_neg (b1_0.mp c8), if_neg (b1_0.mp c21), if_pos (b1_n0.mp c34)] at hK; exact hK)
              | (rw [if_neg (b1_0.mp c8), if_neg (b1_0.mp c21), if_neg (b1_0.mp c34), if_pos (b1_n0.mp c47)] at hK; exact hK)
              | (rw [if_neg (b1_0.mp c8), if_neg (b1_0.mp c21), if_neg (b1_0.mp c34), if_neg (b1_0.mp c47), if_pos (b1_n0.mp c60)] at hK; exact hK)
              | (rw [if_neg (b1_0.mp c8), if_neg (b1_0.mp c21), if_neg (b1_0.mp c34), if_neg (b1_0.mp c47), if_neg (b1_0.mp c60), if_pos (b1_n0.mp c73)] at hK; exact hK)
              | (rw [if_neg (b1_0.mp c8), if_neg (b1_0.mp c21), if_neg (b1_0.mp c34), if_neg (b1_0.mp c47), if_neg (b1_0.mp c60), if_neg (b1_0.mp c73)] at hK; exact hK)
        · refine g_iconst (v := (3)) B dX1_nameOf_50 (by decide) ?_
          refine g_ireti B dX1_nameOf_51 ?_
          first
            | (rw [if_pos (b1_n0.mp c8)] at hK; exact hK)
            | (rw [if_neg (b1_0.mp c8), if_pos (b1_n0.mp c21)] at hK; exact hK)
            | (rw [if_neg (b1_0.mp c8), if_neg (b1_0.mp c21), if_pos (b1_n0.mp c34)] at hK; exact hK)
            | (rw [if_neg (b1_0.mp c8), if_neg (b1_0.mp c21), if_neg (b1_0.mp c34), if_pos (b1_n0.mp c47)] at hK; exact hK)
            | (rw [if_neg (b1_0.mp c8), if_neg (b1_0.mp c21), if_neg (b1_0.mp c34), if_neg (b1_0.mp c47), if_pos (b1_n0.mp c60)] at hK; exact hK)
            | (rw [if_neg (b1_0.mp c8), if_neg (b1_0.mp c21), if_neg (b1_0.mp c34), if_neg (b1_0.mp c47), if_neg (b1_0.mp c60), if_pos (b1_n0.mp c73)] at hK; exact hK)
            | (rw [if_neg (b1_0.mp c8), if_neg (b1_0.mp c21), if_neg (b1_0.mp c34), if_neg (b1_0.mp c47), if_neg (b1_0.mp c60), if_neg (b1_0.mp c73)] at hK; exact hK)
      · refine g_iconst (v := (2)) B dX1_nameOf_37 (by decide) ?_
        refine g_ireti B dX1_nameOf_38 ?_
        first
          | (rw [if_pos (b1_n0.mp c8)] at hK; exact hK)
          | (rw [if_neg (b1_0.mp c8), if_pos (b1_n0.mp c21)] at hK; exact hK)
          | (rw [if_neg (b1_0.mp c8), if_neg (b1_0.mp c21), if_pos (b1_n0.mp c34)] at hK; exact hK)
          | (rw [if_neg (b1_0.mp c8), if_neg (b1_0.mp c21), if_neg (b1_0.mp c34), if_pos (b1_n0.mp c47)] at hK; exact hK)
          | (rw [if_neg (b1_0.mp c8), if_neg (b1_0.mp c21), if_neg (b1_0.mp c34), if_neg (b1_0.mp c47), if_pos (b1_n0.mp c60)] at hK; exact hK)
          | (rw [if_neg (b1_0.mp c8), if_neg (b1_0.mp c21), if_neg (b1_0.mp c34), if_neg (b1_0.mp c47), if_neg (b1_0.mp c60), if_pos (b1_n0.mp c73)] at hK; exact hK)
          | (rw [if_neg (b1_0.mp c8), if_neg (b1_0.mp c21), if_neg (b1_0.mp c34), if_neg (b1_0.mp c47), if_neg (b1_0.mp c60), if_neg (b1_0.mp c73)] at hK; exact hK)
    · refine g_iconst (v := (1)) B dX1_nameOf_24 (by decide) ?_
      refine g_ireti B dX1_nameOf_25 ?_
      first
        | (rw [if_pos (b1_n0.mp c8)] at hK; exact hK)
        | (rw [if_neg (b1_0.mp c8), if_pos (b1_n0.mp c21)] at hK; exact hK)
        | (rw [if_neg (b1_0.mp c8), if_neg (b1_0.mp c21), if_pos (b1_n0.mp c34)] at hK; exact hK)
        | (rw [if_neg (b1_0.mp c8), if_neg (b1_0.mp c21), if_neg (b1_0.mp c34), if_pos (b1_n0.mp c47)] at hK; exact hK)
        | (rw [if_neg (b1_0.mp c8), if_neg (b1_0.mp c21), if_neg (b1_0.mp c34), if_neg (b1_0.mp c47), if_pos (b1_n0.mp c60)] at hK; exact hK)
        | (rw [if_neg (b1_0.mp c8), if_neg (b1_0.mp c21), if_neg (b1_0.mp c34), if_neg (b1_0.mp c47), if_neg (b1_0.mp c60), if_pos (b1_n0.mp c73)] at hK; exact hK)
        | (rw [if_neg (b1_0.mp c8), if_neg (b1_0.mp c21), if_neg (b1_0.mp c34), if_neg (b1_0.mp c47), if_neg (b1_0.mp c60), if_neg (b1_0.mp c73)] at hK; exact hK)
  · refine g_iconst (v := (0)) B dX1_nameOf_11 (by decide) ?_
    refine g_ireti B dX1_nameOf_12 ?_
    first
      | (rw [if_pos (b1_n0.mp c8)] at hK; exact hK)
      | (rw [if_neg (b1_0.mp c8), if_pos (b1_n0.mp c21)] at hK; exact hK)
      | (rw [if_neg (b1_0.mp c8), if_neg (b1_0.mp c21), if_pos (b1_n0.mp c34)] at hK; exact hK)
      | (rw [if_neg (b1_0.mp c8), if_neg (b1_0.mp c21), if_neg (b1_0.mp c34), if_pos (b1_n0.mp c47)] at hK; exact hK)
      | (rw [if_neg (b1_0.mp c8), if_neg (b1_0.mp c21), if_neg (b1_0.mp c34), if_neg (b1_0.mp c47), if_pos (b1_n0.mp c60)] at hK; exact hK)
      | (rw [if_neg (b1_0.mp c8), if_neg (b1_0.mp c21), if_neg (b1_0.mp c34), if_neg (b1_0.mp c47), if_neg (b1_0.mp c60), if_pos (b1_n0.mp c73)] at hK; exact hK)
      | (rw [if_neg (b1_0.mp c8), if_neg (b1_0.mp c21), if_neg (b1_0.mp c34), if_neg (b1_0.mp c47), if_neg (b1_0.mp c60), if_neg (b1_0.mp c73)] at hK; exact hK)
set_option maxRecDepth 100000 in
set_option maxHeartbeats 4000000 in
theorem x_key {Z : LZ} {ad : Nat → Nat} {τ : St} {K : Int32 → St → Prop} {g : Nat → Int32} {x y : Int32} {p q e : Nat} {aK aV : Nat → Nat} {tb fm : Nat} (hE : SI Z aK aV tb fm) (hG : GB τ g p) (hx : x = nI q) (hy : y = nI e) (hq : q ≤ e) (he : e ≤ 160) (hK : K (kyF g q e) τ) : CC lyX Z ad yX1_keyOf wsX1_keyOf (rmk 5) [.ref (ad 11), .int x, .int y] τ (rI K) := by
  refine CC.of (cc := cX1_keyOf) (nL := 3) (ret := (some .int)) rfl rfl ⟨rfl, rfl⟩ (by exact Nat.le_of_ble_eq_true rfl) ?_
  intro X B
  change GG _ _ _ _ X _ 0 [some (.ref (ad 11)), some (.int x), some (.int y)] [] _
  change Amb _ _ _ _ X _ _ RX1 _ _ at B
  unfold kyF at hK
  refine g_aload_n B dX1_keyOf_0 rfl ?_
  refine g_ldcS B dX1_keyOf_1 (hE.wrd 6 (by decide)) ?_
  refine g_iload_n B dX1_keyOf_3 rfl ?_
  refine g_iload_n B dX1_keyOf_4 rfl ?_
  refine g_callVi (C := RX1) (As := [.ref _, .int _, .int _]) B dX1_keyOf_5 (gc1 g_X1_87) (by rfl) ⟨rfl, hd_X1_isWord⟩ (by exact ⟨Nat.le_of_ble_eq_true rfl, Nat.le_of_ble_eq_true rfl⟩) ⟨rfl, rfl⟩ rfl rfl (by exact Nat.le_of_ble_eq_true rfl) recv1 (x_word (i := 6) hE (by decide) hG hx hy hq he ?_)
  refine g_if_eq (tgt := 15) B dX1_keyOf_8 (by decide) (fun c8 => ?_) (fun c8 => ?_)
  · refine g_aload_n B dX1_keyOf_15 rfl ?_
    refine g_ldcS B dX1_keyOf_16 (hE.wrd 7 (by decide)) ?_
    refine g_iload_n B dX1_keyOf_18 rfl ?_
    refine g_iload_n B dX1_keyOf_19 rfl ?_
    refine g_callVi (C := RX1) (As := [.ref _, .int _, .int _]) B dX1_keyOf_20 (gc1 g_X1_87) (by rfl) ⟨rfl, hd_X1_isWord⟩ (by exact ⟨Nat.le_of_ble_eq_true rfl, Nat.le_of_ble_eq_true rfl⟩) ⟨rfl, rfl⟩ rfl rfl (by exact Nat.le_of_ble_eq_true rfl) recv1 (x_word (i := 7) hE (by decide) hG hx hy hq he ?_)
    refine g_if_eq (tgt := 30) B dX1_keyOf_23 (by decide) (fun c23 => ?_) (fun c23 => ?_)
    · refine g_aload_n B dX1_keyOf_30 rfl ?_
      refine g_ldcS B dX1_keyOf_31 (hE.wrd 8 (by decide)) ?_
      refine g_iload_n B dX1_keyOf_33 rfl ?_
      refine g_iload_n B dX1_keyOf_34 rfl ?_
      refine g_callVi (C := RX1) (As := [.ref _, .int _, .int _]) B dX1_keyOf_35 (gc1 g_X1_87) (by rfl) ⟨rfl, hd_X1_isWord⟩ (by exact ⟨Nat.le_of_ble_eq_true rfl, Nat.le_of_ble_eq_true rfl⟩) ⟨rfl, rfl⟩ rfl rfl (by exact Nat.le_of_ble_eq_true rfl) recv1 (x_word (i := 8) hE (by decide) hG hx hy hq he ?_)
      refine g_if_eq (tgt := 45) B dX1_keyOf_38 (by decide) (fun c38 => ?_) (fun c38 => ?_)
      · refine g_aload_n B dX1_keyOf_45 rfl ?_
        refine g_ldcS B dX1_keyOf_46 (hE.wrd 9 (by decide)) ?_
        refine g_iload_n B dX1_keyOf_48 rfl ?_
        refine g_iload_n B dX1_keyOf_49 rfl ?_
        refine g_callVi (C := RX1) (As := [.ref _, .int _, .int _]) B dX1_keyOf_50 (gc1 g_X1_87) (by rfl) ⟨rfl, hd_X1_isWord⟩ (by exact ⟨Nat.le_of_ble_eq_true rfl, Nat.le_of_ble_eq_true rfl⟩) ⟨rfl, rfl⟩ rfl rfl (by exact Nat.le_of_ble_eq_true rfl) recv1 (x_word (i := 9) hE (by decide) hG hx hy hq he ?_)
        refine g_if_eq (tgt := 60) B dX1_keyOf_53 (by decide) (fun c53 => ?_) (fun c53 => ?_)
        · refine g_aload_n B dX1_keyOf_60 rfl ?_
          refine g_ldcS B dX1_keyOf_61 (hE.wrd 10 (by decide)) ?_
          refine g_iload_n B dX1_keyOf_63 rfl ?_
          refine g_iload_n B dX1_keyOf_64 rfl ?_
          refine g_callVi (C := RX1) (As := [.ref _, .int _, .int _]) B dX1_keyOf_65 (gc1 g_X1_87) (by rfl) ⟨rfl, hd_X1_isWord⟩ (by exact ⟨Nat.le_of_ble_eq_true rfl, Nat.le_of_ble_eq_true rfl⟩) ⟨rfl, rfl⟩ rfl rfl (by exact Nat.le_of_ble_eq_true rfl) recv1 (x_word (i := 10) hE (by decide) hG hx hy hq he ?_)
          refine g_if_eq (tgt := 75) B dX1_keyOf_68 (by decide) (fun c68 => ?_) (fun c68 => ?_)
          · refine g_aload_n B dX1_keyOf_75 rfl ?_
            refine g_ldcS B dX1_keyOf_76 (hE.wrd 11 (by decide)) ?_
            refine g_iload_n B dX1_keyOf_78 rfl ?_
            refine g_iload_n B dX1_keyOf_79 rfl ?_
            refine g_callVi (C := RX1) (As := [.ref _, .int _, .int _]) B dX1_keyOf_80 (gc1 g_X1_87) (by rfl) ⟨rfl, hd_X1_isWord⟩ (by exact ⟨Nat.le_of_ble_eq_true rfl, Nat.le_of_ble_eq_true rfl⟩) ⟨rfl, rfl⟩ rfl rfl (by exact Nat.le_of_ble_eq_true rfl) recv1 (x_word (i := 11) hE (by decide) hG hx hy hq he ?_)
            refine g_if_eq (tgt := 90) B dX1_keyOf_83 (by decide) (fun c83 => ?_) (fun c83 => ?_)
            · refine g_iconst (v := (1)) B dX1_keyOf_90 (by decide) ?_
              refine g_ireti B dX1_keyOf_91 ?_
              first
                | (rw [if_pos (b1_n0.mp c8)] at hK; exact hK)
                | (rw [if_neg (b1_0.mp c8), if_pos (b1_n0.mp c23)] at hK; exact hK)
                | (rw [if_neg (b1_0.mp c8), if_neg (b1_0.mp c23), if_pos (b1_n0.mp c38)] at hK; exact hK)
                | (rw [if_neg (b1_0.mp c8), if_neg (b1_0.mp c23), if_neg (b1_0.mp c38), if_pos (b1_n0.mp c53)] at hK; exact hK)
                | (rw [if_neg (b1_0.mp c8), if_neg (b1_0.mp c23), if_neg (b1_0.mp c38), if_neg (b1_0.mp c53), if_pos (b1_n0.mp c68)] at hK; exact hK)
                | (rw [if_neg (b1_0.mp c8), if_neg (b1_0.mp c23), if_neg (b1_0.mp c38), if_neg (b1_0.mp c53), if_neg (b1_0.mp c68), if_pos (b1_n0.mp c83)] at hK; exact hK)
                | (rw [if_neg (b1_0.mp c8), if_neg (b1_0.mp c23), if_neg (b1_0.mp c38), if_neg (b1_0.mp c53), if_neg (b1_0.mp c68), if_neg (b1_0.mp c83)] at hK; exact hK)
            · refine g_sipush (v := (306)) B dX1_keyOf_86 (by decide) ?_
              refine g_ireti B dX1_keyOf_89 ?_
              first
                | (rw [if_pos (b1_n0.mp c8)] at hK; exact hK)
                | (rw [if_neg (b1_0.mp c8), if_pos (b1_n0.mp c23)] at hK; exact hK)
                | (rw [if_neg (b1_0.mp c8), if_neg (b1_0.mp c23), if_pos (b1_n0.mp c38)] at hK; exact hK)
                | (rw [if_neg (b1_0.mp c8), if_neg (b1_0.mp c23), if_neg (b1_0.mp c38), if_pos (b1_n0.mp c53)] at hK; exact hK)
                | (rw [if_neg (b1_0.mp c8), if_neg (b1_0.mp c23), if_neg (b1_0.mp c38), if_neg (b1_0.mp c53), if_pos (b1_n0.mp c68)] at hK; exact hK)
                | (rw [if_neg (b1_0.mp c8), if_neg (b1_0.mp c23), if_neg (b1_0.mp c38), if_neg (b1_0.mp c53), if_neg (b1_0.mp c68), if_pos (b1_n0.mp c83)] at hK; exact hK)
                | (rw [if_neg (b1_0.mp c8), if_neg (b1_0.mp c23), if_neg (b1_0.mp c38), if_neg (b1_0.mp c53), if_neg (b1_0.mp c68), if_neg (b1_0.mp c83)] at hK; exact hK)
          · refine g_sipush (v := (305)) B dX1_keyOf_71 (by decide) ?_
            refine g_ireti B dX1_keyOf_74 ?_
            first
              | (rw [if_pos (b1_n0.mp c8)] at hK; exact hK)
              | (rw [if_neg (b1_0.mp c8), if_pos (b1_n0.mp c23)] at hK; exact hK)
              | (rw [if_neg (b1_0.mp c8), if_neg (b1_0.mp c23), if_pos (b1_n0.mp c38)] at hK; exact hK)
              | (rw [if_neg (b1_0.mp c8), if_neg (b1_0.mp c23), if_neg (b1_0.mp c38), if_pos (b1_n0.mp c53)] at hK; exact hK)
              | (rw [if_neg (b1_0.mp c8), if_neg (b1_0.mp c23), if_neg (b1_0.mp c38), if_neg (b1_0.mp c53), if_pos (b1_n0.mp c68)] at hK; exact hK)
              | (rw [if_neg (b1_0.mp c8), if_neg (b1_0.mp c23), if_neg (b1_0.mp c38), if_neg (b1_0.mp c53), if_neg (b1_0.mp c68), if_pos (b1_n0.mp c83)] at hK; exact hK)
              | (rw [if_neg (b1_0.mp c8), if_neg (b1_0.mp c23), if_neg (b1_0.mp c38), if_neg (b1_0.mp c53), if_neg (b1_0.mp c68), if_neg (b1_0.mp c83)] at hK; exact hK)
        · refine g_sipush (v := (304)) B dX1_keyOf_56 (by decide) ?_
          refine g_ireti B dX1_keyOf_59 ?_
          first
            | (rw [if_pos (b1_n0.mp c8)] at hK; exact hK)
            | (rw [if_neg (b1_0.mp c8), if_pos (b1_n0.mp c23)] at hK; exact hK)
            | (rw [if_neg (b1_0.mp c8), if_neg (b1_0.mp c23), if_pos (b1_n0.mp c38)] at hK; exact hK)
            | (rw [if_neg (b1_0.mp c8), if_neg (b1_0.mp c23), if_neg (b1_0.mp c38), if_pos (b1_n0.mp c53)] at hK; exact hK)
            | (rw [if_neg (b1_0.mp c8), if_neg (b1_0.mp c23), if_neg (b1_0.mp c38), if_neg (b1_0.mp c53), if_pos (b1_n0.mp c68)] at hK; exact hK)
            | (rw [if_neg (b1_0.mp c8), if_neg (b1_0.mp c23), if_neg (b1_0.mp c38), if_neg (b1_0.mp c53), if_neg (b1_0.mp c68), if_pos (b1_n0.mp c83)] at hK; exact hK)
            | (rw [if_neg (b1_0.mp c8), if_neg (b1_0.mp c23), if_neg (b1_0.mp c38), if_neg (b1_0.mp c53), if_neg (b1_0.mp c68), if_neg (b1_0.mp c83)] at hK; exact hK)
      · refine g_sipush (v := (303)) B dX1_keyOf_41 (by decide) ?_
        refine g_ireti B dX1_keyOf_44 ?_
        first
          | (rw [if_pos (b1_n0.mp c8)] at hK; exact hK)
          | (rw [if_neg (b1_0.mp c8), if_pos (b1_n0.mp c23)] at hK; exact hK)
          | (rw [if_neg (b1_0.mp c8), if_neg (b1_0.mp c23), if_pos (b1_n0.mp c38)] at hK; exact hK)
          | (rw [if_neg (b1_0.mp c8), if_neg (b1_0.mp c23), if_neg (b1_0.mp c38), if_pos (b1_n0.mp c53)] at hK; exact hK)
          | (rw [if_neg (b1_0.mp c8), if_neg (b1_0.mp c23), if_neg (b1_0.mp c38), if_neg (b1_0.mp c53), if_pos (b1_n0.mp c68)] at hK; exact hK)
          | (rw [if_neg (b1_0.mp c8), if_neg (b1_0.mp c23), if_neg (b1_0.mp c38), if_neg (b1_0.mp c53), if_neg (b1_0.mp c68), if_pos (b1_n0.mp c83)] at hK; exact hK)
          | (rw [if_neg (b1_0.mp c8), if_neg (b1_0.mp c23), if_neg (b1_0.mp c38), if_neg (b1_0.mp c53), if_neg (b1_0.mp c68), if_neg (b1_0.mp c83)] at hK; exact hK)
    · refine g_sipush (v := (302)) B dX1_keyOf_26 (by decide) ?_
      refine g_ireti B dX1_keyOf_29 ?_
      first
        | (rw [if_pos (b1_n0.mp c8)] at hK; exact hK)
        | (rw [if_neg (b1_0.mp c8), if_pos (b1_n0.mp c23)] at hK; exact hK)
        | (rw [if_neg (b1_0.mp c8), if_neg (b1_0.mp c23), if_pos (b1_n0.mp c38)] at hK; exact hK)
        | (rw [if_neg (b1_0.mp c8), if_neg (b1_0.mp c23), if_neg (b1_0.mp c38), if_pos (b1_n0.mp c53)] at hK; exact hK)
        | (rw [if_neg (b1_0.mp c8), if_neg (b1_0.mp c23), if_neg (b1_0.mp c38), if_neg (b1_0.mp c53), if_pos (b1_n0.mp c68)] at hK; exact hK)
        | (rw [if_neg (b1_0.mp c8), if_neg (b1_0.mp c23), if_neg (b1_0.mp c38), if_neg (b1_0.mp c53), if_neg (b1_0.mp c68), if_pos (b1_n0.mp c83)] at hK; exact hK)
        | (rw [if_neg (b1_0.mp c8), if_neg (b1_0.mp c23), if_neg (b1_0.mp c38), if_neg (b1_0.mp c53), if_neg (b1_0.mp c68), if_neg (b1_0.mp c83)] at hK; exact hK)
  · refine g_sipush (v := (301)) B dX1_keyOf_11 (by decide) ?_
    refine g_ireti B dX1_keyOf_14 ?_
    first
      | (rw [if_pos (b1_n0.mp c8)] at hK; exact hK)
      | (rw [if_neg (b1_0.mp c8), if_pos (b1_n0.mp c23)] at hK; exact hK)
      | (rw [if_neg (b1_0.mp c8), if_neg (b1_0.mp c23), if_pos (b1_n0.mp c38)] at hK; exact hK)
      | (rw [if_neg (b1_0.mp c8), if_neg (b1_0.mp c23), if_neg (b1_0.mp c38), if_pos (b1_n0.mp c53)] at hK; exact hK)
      | (rw [if_neg (b1_0.mp c8), if_neg (b1_0.mp c23), if_neg (b1_0.mp c38), if_neg (b1_0.mp c53), if_pos (b1_n0.mp c68)] at hK; exact hK)
      | (rw [if_neg (b1_0.mp c8), if_neg (b1_0.mp c23), if_neg (b1_0.mp c38), if_neg (b1_0.mp c53), if_neg (b1_0.mp c68), if_pos (b1_n0.mp c83)] at hK; exact hK)
      | (rw [if_neg (b1_0.mp c8), if_neg (b1_0.mp c23), if_neg (b1_0.mp c38), if_neg (b1_0.mp c53), if_neg (b1_0.mp c68), if_neg (b1_0.mp c83)] at hK; exact hK)
theorem byt_nz : ∀ i, i < 12 → ∀ k, k < 8 → ((lenW.getD i 0 ≤ k → (bytW.getD i []).getD k 0 = 0) ∧ (k < lenW.getD i 0 → ¬ (bytW.getD i []).getD k 0 = 0)) := by decide
theorem isL_nz {x : Int32} (h : isL x) : ¬ x = 0 := fun e => by subst e; exact absurd h.1 (by decide)
theorem wd_is {g : Nat → Int32} {q e i : Nat} (hi : i < 12) (hqe : q ≤ e) (hl : ∀ j, q ≤ j → j < e → isL (g j)) : (e ≤ q + 8 ∧ ∀ k, k < 8 → l8 g q e k = (bytW.getD i []).getD k 0) ↔ isWd i g q e := by
  have hb := len_bd i hi
  constructor
  · rintro ⟨h1, h2⟩
    have e1 : e ≤ q + lenW.getD i 0 := by
      rcases Nat.lt_or_ge (q + lenW.getD i 0) e with z | z
      · have h3 := h2 (lenW.getD i 0) (by omega)
        rw [(byt_nz i hi _ (by omega)).1 (Nat.le_refl _)] at h3
        unfold l8 at h3
        rw [if_pos z] at h3
        exact absurd h3 (isL_nz (hl _ (by omega) z))
      · exact z
    have key : ∀ k, k < lenW.getD i 0 → q + k < e ∧ g (q + k) = (bytW.getD i []).getD k 0 := fun k hk => by
      have h3 := h2 k (by omega)
      unfold l8 at h3
      by_cases z : q + k < e
      · rw [if_pos z] at h3
        exact ⟨z, h3⟩
      · rw [if_neg z] at h3
        exact absurd h3.symm ((byt_nz i hi k (by omega)).2 hk)
    have h4 := (key (lenW.getD i 0 - 1) (by omega)).1
    exact ⟨by omega, fun k hk => (key k hk).2⟩
  · rintro ⟨h1, h2⟩
    refine ⟨by omega, fun k hk => ?_⟩
    unfold l8
    by_cases z : k < lenW.getD i 0
    · rw [if_pos (by omega)]
      exact h2 k z
    · rw [if_neg (by omega)]
      exact ((byt_nz i hi k hk).1 (by omega)).symm
theorem wd_0 {g : Nat → Int32} {q e : Nat} (hqe : q ≤ e) (hl : ∀ j, q ≤ j → j < e → isL (g j)) : wd g q e 99 111 108 100 0 0 0 0 ↔ isWd 0 g q e := Iff.trans ⟨fun h => ⟨h.1, fun k hk => by
  rcases (show k = 0 ∨ k = 1 ∨ k = 2 ∨ k = 3 ∨ k = 4 ∨ k = 5 ∨ k = 6 ∨ k = 7 by omega) with z | z | z | z | z | z | z | z <;> subst z
  · exact h.2.1
  · exact h.2.2.1
  · exact h.2.2.2.1
  · exact h.2.2.2.2.1
  · exact h.2.2.2.2.2.1
  · exact h.2.2.2.2.2.2.1
  · exact h.2.2.2.2.2.2.2.1
  · exact h.2.2.2.2.2.2.2.2⟩, fun h => ⟨h.1, h.2 0 (by decide), h.2 1 (by decide), h.2 2 (by decide), h.2 3 (by decide), h.2 4 (by decide), h.2 5 (by decide), h.2 6 (by decide), h.2 7 (by decide)⟩⟩ (wd_is (i := 0) (by decide) hqe hl)
theorem wd_1 {g : Nat → Int32} {q e : Nat} (hqe : q ≤ e) (hl : ∀ j, q ≤ j → j < e → isL (g j)) : wd g q e 110 105 103 104 116 0 0 0 ↔ isWd 1 g q e := Iff.trans ⟨fun h => ⟨h.1, fun k hk => by
  rcases (show k = 0 ∨ k = 1 ∨ k = 2 ∨ k = 3 ∨ k = 4 ∨ k = 5 ∨ k = 6 ∨ k = 7 by omega) with z | z | z | z | z | z | z | z <;> subst z
  · exact h.2.1
  · exact h.2.2.1
  · exact h.2.2.2.1
  · exact h.2.2.2.2.1
  · exact h.2.2.2.2.2.1
  · exact h.2.2.2.2.2.2.1
  · exact h.2.2.2.2.2.2.2.1
  · exact h.2.2.2.2.2.2.2.2⟩, fun h => ⟨h.1, h.2 0 (by decide), h.2 1 (by decide), h.2 2 (by decide), h.2 3 (by decide), h.2 4 (by decide), h.2 5 (by decide), h.2 6 (by decide), h.2 7 (by decide)⟩⟩ (wd_is (i := 1) (by decide) hqe hl)
theorem wd_2 {g : Nat → Int32} {q e : Nat} (hqe : q ≤ e) (hl : ∀ j, q ≤ j → j < e → isL (g j)) : wd g q e 110 117 109 98 101 114 0 0 ↔ isWd 2 g q e := Iff.trans ⟨fun h => ⟨h.1, fun k hk => by
  rcases (show k = 0 ∨ k = 1 ∨ k = 2 ∨ k = 3 ∨ k = 4 ∨ k = 5 ∨ k = 6 ∨ k = 7 by omega) with z | z | z | z | z | z | z | z <;> subst z
  · exact h.2.1
  · exact h.2.2.1
  · exact h.2.2.2.1
  · exact h.2.2.2.2.1
  · exact h.2.2.2.2.2.1
  · exact h.2.2.2.2.2.2.1
  · exact h.2.2.2.2.2.2.2.1
  · exact h.2.2.2.2.2.2.2.2⟩, fun h => ⟨h.1, h.2 0 (by decide), h.2 1 (by decide), h.2 2 (by decide), h.2 3 (by decide), h.2 4 (by decide), h.2 5 (by decide), h.2 6 (by decide), h.2 7 (by decide)⟩⟩ (wd_is (i := 2) (by decide) hqe hl)
theorem wd_3 {g : Nat → Int32} {q e : Nat} (hqe : q ≤ e) (hl : ∀ j, q ≤ j → j < e → isL (g j)) : wd g q e 114 117 110 0 0 0 0 0 ↔ isWd 3 g q e := Iff.trans ⟨fun h => ⟨h.1, fun k hk => by
  rcases (show k = 0 ∨ k = 1 ∨ k = 2 ∨ k = 3 ∨ k = 4 ∨ k = 5 ∨ k = 6 ∨ k = 7 by omega) with z | z | z | z | z | z | z | z <;> subst z
  · exact h.2.1
  · exact h.2.2.1
  · exact h.2.2.2.1
  · exact h.2.2.2.2.1
  · exact h.2.2.2.2.2.1
  · exact h.2.2.2.2.2.2.1
  · exact h.2.2.2.2.2.2.2.1
  · exact h.2.2.2.2.2.2.2.2⟩, fun h => ⟨h.1, h.2 0 (by decide), h.2 1 (by decide), h.2 2 (by decide), h.2 3 (by decide), h.2 4 (by decide), h.2 5 (by decide), h.2 6 (by decide), h.2 7 (by decide)⟩⟩ (wd_is (i := 3) (by decide) hqe hl)
theorem wd_4 {g : Nat → Int32} {q e : Nat} (hqe : q ≤ e) (hl : ∀ j, q ≤ j → j < e → isL (g j)) : wd g q e 116 111 119 110 0 0 0 0 ↔ isWd 4 g q e := Iff.trans ⟨fun h => ⟨h.1, fun k hk => by
  rcases (show k = 0 ∨ k = 1 ∨ k = 2 ∨ k = 3 ∨ k = 4 ∨ k = 5 ∨ k = 6 ∨ k = 7 by omega) with z | z | z | z | z | z | z | z <;> subst z
  · exact h.2.1
  · exact h.2.2.1
  · exact h.2.2.2.1
  · exact h.2.2.2.2.1
  · exact h.2.2.2.2.2.1
  · exact h.2.2.2.2.2.2.1
  · exact h.2.2.2.2.2.2.2.1
  · exact h.2.2.2.2.2.2.2.2⟩, fun h => ⟨h.1, h.2 0 (by decide), h.2 1 (by decide), h.2 2 (by decide), h.2 3 (by decide), h.2 4 (by decide), h.2 5 (by decide), h.2 6 (by decide), h.2 7 (by decide)⟩⟩ (wd_is (i := 4) (by decide) hqe hl)
theorem wd_5 {g : Nat → Int32} {q e : Nat} (hqe : q ≤ e) (hl : ∀ j, q ≤ j → j < e → isL (g j)) : wd g q e 117 115 101 114 115 0 0 0 ↔ isWd 5 g q e := Iff.trans ⟨fun h => ⟨h.1, fun k hk => by
  rcases (show k = 0 ∨ k = 1 ∨ k = 2 ∨ k = 3 ∨ k = 4 ∨ k = 5 ∨ k = 6 ∨ k = 7 by omega) with z | z | z | z | z | z | z | z <;> subst z
  · exact h.2.1
  · exact h.2.2.1
  · exact h.2.2.2.1
  · exact h.2.2.2.2.1
  · exact h.2.2.2.2.2.1
  · exact h.2.2.2.2.2.2.1
  · exact h.2.2.2.2.2.2.2.1
  · exact h.2.2.2.2.2.2.2.2⟩, fun h => ⟨h.1, h.2 0 (by decide), h.2 1 (by decide), h.2 2 (by decide), h.2 3 (by decide), h.2 4 (by decide), h.2 5 (by decide), h.2 6 (by decide), h.2 7 (by decide)⟩⟩ (wd_is (i := 5) (by decide) hqe hl)
theorem wd_6 {g : Nat → Int32} {q e : Nat} (hqe : q ≤ e) (hl : ∀ j, q ≤ j → j < e → isL (g j)) : wd g q e 103 97 105 110 115 0 0 0 ↔ isWd 6 g q e := Iff.trans ⟨fun h => ⟨h.1, fun k hk => by
  rcases (show k = 0 ∨ k = 1 ∨ k = 2 ∨ k = 3 ∨ k = 4 ∨ k = 5 ∨ k = 6 ∨ k = 7 by omega) with z | z | z | z | z | z | z | z <;> subst z
  · exact h.2.1
  · exact h.2.2.1
  · exact h.2.2.2.1
  · exact h.2.2.2.2.1
  · exact h.2.2.2.2.2.1
  · exact h.2.2.2.2.2.2.1
  · exact h.2.2.2.2.2.2.2.1
  · exact h.2.2.2.2.2.2.2.2⟩, fun h => ⟨h.1, h.2 0 (by decide), h.2 1 (by decide), h.2 2 (by decide), h.2 3 (by decide), h.2 4 (by decide), h.2 5 (by decide), h.2 6 (by decide), h.2 7 (by decide)⟩⟩ (wd_is (i := 6) (by decide) hqe hl)
theorem wd_7 {g : Nat → Int32} {q e : Nat} (hqe : q ≤ e) (hl : ∀ j, q ≤ j → j < e → isL (g j)) : wd g q e 109 105 108 100 0 0 0 0 ↔ isWd 7 g q e := Iff.trans ⟨fun h => ⟨h.1, fun k hk => by
  rcases (show k = 0 ∨ k = 1 ∨ k = 2 ∨ k = 3 ∨ k = 4 ∨ k = 5 ∨ k = 6 ∨ k = 7 by omega) with z | z | z | z | z | z | z | z <;> subst z
  · exact h.2.1
  · exact h.2.2.1
  · exact h.2.2.2.1
  · exact h.2.2.2.2.1
  · exact h.2.2.2.2.2.1
  · exact h.2.2.2.2.2.2.1
  · exact h.2.2.2.2.2.2.2.1
  · exact h.2.2.2.2.2.2.2.2⟩, fun h => ⟨h.1, h.2 0 (by decide), h.2 1 (by decide), h.2 2 (by decide), h.2 3 (by decide), h.2 4 (by decide), h.2 5 (by decide), h.2 6 (by decide), h.2 7 (by decide)⟩⟩ (wd_is (i := 7) (by decide) hqe hl)
theorem wd_8 {g : Nat → Int32} {q e : Nat} (hqe : q ≤ e) (hl : ∀ j, q ≤ j → j < e → isL (g j)) : wd g q e 109 111 115 116 0 0 0 0 ↔ isWd 8 g q e := Iff.trans ⟨fun h => ⟨h.1, fun k hk => by
  rcases (show k = 0 ∨ k = 1 ∨ k = 2 ∨ k = 3 ∨ k = 4 ∨ k = 5 ∨ k = 6 ∨ k = 7 by omega) with z | z | z | z | z | z | z | z <;> subst z
  · exact h.2.1
  · exact h.2.2.1
  · exact h.2.2.2.1
  · exact h.2.2.2.2.1
  · exact h.2.2.2.2.2.1
  · exact h.2.2.2.2.2.2.1
  · exact h.2.2.2.2.2.2.2.1
  · exact h.2.2.2.2.2.2.2.2⟩, fun h => ⟨h.1, h.2 0 (by decide), h.2 1 (by decide), h.2 2 (by decide), h.2 3 (by decide), h.2 4 (by decide), h.2 5 (by decide), h.2 6 (by decide), h.2 7 (by decide)⟩⟩ (wd_is (i := 8) (by decide) hqe hl)
theorem wd_9 {g : Nat → Int32} {q e : Nat} (hqe : q ≤ e) (hl : ∀ j, q ≤ j → j < e → isL (g j)) : wd g q e 111 114 0 0 0 0 0 0 ↔ isWd 9 g q e := Iff.trans ⟨fun h => ⟨h.1, fun k hk => by
  rcases (show k = 0 ∨ k = 1 ∨ k = 2 ∨ k = 3 ∨ k = 4 ∨ k = 5 ∨ k = 6 ∨ k = 7 by omega) with z | z | z | z | z | z | z | z <;> subst z
  · exact h.2.1
  · exact h.2.2.1
  · exact h.2.2.2.1
  · exact h.2.2.2.2.1
  · exact h.2.2.2.2.2.1
  · exact h.2.2.2.2.2.2.1
  · exact h.2.2.2.2.2.2.2.1
  · exact h.2.2.2.2.2.2.2.2⟩, fun h => ⟨h.1, h.2 0 (by decide), h.2 1 (by decide), h.2 2 (by decide), h.2 3 (by decide), h.2 4 (by decide), h.2 5 (by decide), h.2 6 (by decide), h.2 7 (by decide)⟩⟩ (wd_is (i := 9) (by decide) hqe hl)
theorem wd_10 {g : Nat → Int32} {q e : Nat} (hqe : q ≤ e) (hl : ∀ j, q ≤ j → j < e → isL (g j)) : wd g q e 97 110 100 0 0 0 0 0 ↔ isWd 10 g q e := Iff.trans ⟨fun h => ⟨h.1, fun k hk => by
  rcases (show k = 0 ∨ k = 1 ∨ k = 2 ∨ k = 3 ∨ k = 4 ∨ k = 5 ∨ k = 6 ∨ k = 7 by omega) with z | z | z | z | z | z | z | z <;> subst z
  · exact h.2.1
  · exact h.2.2.1
  · exact h.2.2.2.1
  · exact h.2.2.2.2.1
  · exact h.2.2.2.2.2.1
  · exact h.2.2.2.2.2.2.1
  · exact h.2.2.2.2.2.2.2.1
  · exact h.2.2.2.2.2.2.2.2⟩, fun h => ⟨h.1, h.2 0 (by decide), h.2 1 (by decide), h.2 2 (by decide), h.2 3 (by decide), h.2 4 (by decide), h.2 5 (by decide), h.2 6 (by decide), h.2 7 (by decide)⟩⟩ (wd_is (i := 10) (by decide) hqe hl)
theorem wd_11 {g : Nat → Int32} {q e : Nat} (hqe : q ≤ e) (hl : ∀ j, q ≤ j → j < e → isL (g j)) : wd g q e 110 111 116 0 0 0 0 0 ↔ isWd 11 g q e := Iff.trans ⟨fun h => ⟨h.1, fun k hk => by
  rcases (show k = 0 ∨ k = 1 ∨ k = 2 ∨ k = 3 ∨ k = 4 ∨ k = 5 ∨ k = 6 ∨ k = 7 by omega) with z | z | z | z | z | z | z | z <;> subst z
  · exact h.2.1
  · exact h.2.2.1
  · exact h.2.2.2.1
  · exact h.2.2.2.2.1
  · exact h.2.2.2.2.2.1
  · exact h.2.2.2.2.2.2.1
  · exact h.2.2.2.2.2.2.2.1
  · exact h.2.2.2.2.2.2.2.2⟩, fun h => ⟨h.1, h.2 0 (by decide), h.2 1 (by decide), h.2 2 (by decide), h.2 3 (by decide), h.2 4 (by decide), h.2 5 (by decide), h.2 6 (by decide), h.2 7 (by decide)⟩⟩ (wd_is (i := 11) (by decide) hqe hl)
theorem wS_X {g : Nat → Int32} {q e : Nat} (hqe : q ≤ e) (hl : ∀ j, q ≤ j → j < e → isL (g j)) : wS g q e = (if nmF g q e = -1 then kyF g q e else 3, -1 - nmF g q e) := by
  unfold wS nmF kyF
  simp only [wd_0 hqe hl, wd_1 hqe hl, wd_2 hqe hl, wd_3 hqe hl, wd_4 hqe hl, wd_5 hqe hl, wd_6 hqe hl, wd_7 hqe hl, wd_8 hqe hl, wd_9 hqe hl, wd_10 hqe hl, wd_11 hqe hl]
  by_cases h0 : isWd 0 g q e
  · simp only [if_pos h0]
    rfl
  simp only [if_neg h0]
  by_cases h1 : isWd 1 g q e
  · simp only [if_pos h1]
    rfl
  simp only [if_neg h1]
  by_cases h2 : isWd 2 g q e
  · simp only [if_pos h2]
    rfl
  simp only [if_neg h2]
  by_cases h3 : isWd 3 g q e
  · simp only [if_pos h3]
    rfl
  simp only [if_neg h3]
  by_cases h4 : isWd 4 g q e
  · simp only [if_pos h4]
    rfl
  simp only [if_neg h4]
  by_cases h5 : isWd 5 g q e
  · simp only [if_pos h5]
    rfl
  simp only [if_neg h5]
  by_cases h6 : isWd 6 g q e
  · simp only [if_pos h6]
    rfl
  simp only [if_neg h6]
  by_cases h7 : isWd 7 g q e
  · simp only [if_pos h7]
    rfl
  simp only [if_neg h7]
  by_cases h8 : isWd 8 g q e
  · simp only [if_pos h8]
    rfl
  simp only [if_neg h8]
  by_cases h9 : isWd 9 g q e
  · simp only [if_pos h9]
    rfl
  simp only [if_neg h9]
  by_cases h10 : isWd 10 g q e
  · simp only [if_pos h10]
    rfl
  simp only [if_neg h10]
  by_cases h11 : isWd 11 g q e
  · simp only [if_pos h11]
    rfl
  simp only [if_neg h11]
  rfl
/-- one token more *t stand already* -/
def adT (τ : St) (t : Nat) (s v x : Int32) : St := upS (upS (upS (upS τ 17 t s) 18 t v) 19 t x) 11 6 (nI (t + 1))
set_option maxRecDepth 100000 in
set_option maxHeartbeats 4000000 in
theorem x_addT {Z : LZ} {ad : Nat → Nat} {τ : St} {K : St → Prop} {s v x : Int32} {t : Nat} (ht : t ≤ 160) (hc : τ.1 11 6 = nI t) (hK : K (adT τ t s v x)) : CC lyX Z ad yX1_addToken wsX1_addToken (rmk 0) [.ref (ad 11), .int s, .int v, .int x] τ (rV K) := by
  refine CC.of (cc := cX1_addToken) (nL := 4) (ret := none) rfl rfl ⟨rfl, rfl⟩ (by exact Nat.le_of_ble_eq_true rfl) ?_
  intro X B
  change GG _ _ _ _ X _ 0 [some (.ref (ad 11)), some (.int s), some (.int v), some (.int x)] [] _
  change Amb _ _ _ _ X _ _ RX1 _ _ at B
  have hct : (nI t).toNatClampNeg = t := i_cl (by omega)
  refine g_aload_n B dX1_addToken_0 rfl ?_
  refine g_getI (T := TX1) (N := 9) B dX1_addToken_1 (by decide) (by rfl) (inq inlX1) rfl 6 (by decide) (mq f_X1_31) (by rfl) ?_
  refine g_aload_n B dX1_addToken_4 rfl ?_
  refine g_getR (T := TX1) (N := 9) B dX1_addToken_5 (by decide) (by rfl) (inq inlX1) rfl 3 (by decide) (mq f_X1_22) (by rfl) ?_
  refine g_alen B dX1_addToken_8 (by decide) (by rfl) rfl ?_
  rw [hc]
  refine g_icmp_lt (tgt := 13) B dX1_addToken_9 (by decide) (fun c9 => ?_) (fun c9 => ?_)
  · refine g_aload_n B dX1_addToken_13 rfl ?_
    refine g_getR (T := TX1) (N := 9) B dX1_addToken_14 (by decide) (by rfl) (inq inlX1) rfl 3 (by decide) (mq f_X1_22) (by rfl) ?_
    refine g_aload_n B dX1_addToken_17 rfl ?_
    refine g_getI (T := TX1) (N := 9) B dX1_addToken_18 (by decide) (by rfl) (inq inlX1) rfl 6 (by decide) (mq f_X1_31) (by rfl) ?_
    rw [hc]
    refine g_iload_n B dX1_addToken_21 rfl ?_
    refine g_iast B dX1_addToken_22 (by decide) (by rfl) (by exact vp_in_nI (by omega) (by omega)) ?_
    rw [hct]
    refine g_aload_n B dX1_addToken_23 rfl ?_
    refine g_getR (T := TX1) (N := 9) B dX1_addToken_24 (by decide) (by rfl) (inq inlX1) rfl 4 (by decide) (mq f_X1_25) (by rfl) ?_
    refine g_aload_n B dX1_addToken_27 rfl ?_
    refine g_getI (T := TX1) (N := 9) B dX1_addToken_28 (by decide) (by rfl) (inq inlX1) rfl 6 (by decide) (mq f_X1_31) (by rfl) ?_
    rw [upS_3 (show (11 : Nat) ≠ 17 by decide), hc]
    refine g_iload_n B dX1_addToken_31 rfl ?_
    refine g_iast B dX1_addToken_32 (by decide) (by rfl) (by exact vp_in_nI (by omega) (by omega)) ?_
    rw [hct]
    refine g_aload_n B dX1_addToken_33 rfl ?_
    refine g_getR (T := TX1) (N := 9) B dX1_addToken_34 (by decide) (by rfl) (inq inlX1) rfl 5 (by decide) (mq f_X1_28) (by rfl) ?_
    refine g_aload_n B dX1_addToken_37 rfl ?_
    refine g_getI (T := TX1) (N := 9) B dX1_addToken_38 (by decide) (by rfl) (inq inlX1) rfl 6 (by decide) (mq f_X1_31) (by rfl) ?_
    rw [upS_3 (show (11 : Nat) ≠ 18 by decide), upS_3 (show (11 : Nat) ≠ 17 by decide), hc]
    refine g_iload_n B dX1_addToken_41 rfl ?_
    refine g_iast B dX1_addToken_42 (by decide) (by rfl) (by exact vp_in_nI (by omega) (by omega)) ?_
    rw [hct]
    refine g_aload_n B dX1_addToken_43 rfl ?_
    refine g_dup B dX1_addToken_44 rfl ?_
    refine g_getI (T := TX1) (N := 9) B dX1_addToken_45 (by decide) (by rfl) (inq inlX1) rfl 6 (by decide) (mq f_X1_31) (by rfl) ?_
    rw [upS_3 (show (11 : Nat) ≠ 19 by decide), upS_3 (show (11 : Nat) ≠ 18 by decide), upS_3 (show (11 : Nat) ≠ 17 by decide), hc]
    refine g_iconst (v := (1)) B dX1_addToken_48 (by decide) ?_
    refine g_iadd B dX1_addToken_49 ?_
    rw [nI_1]
    refine g_putI (T := TX1) (N := 9) B dX1_addToken_50 (by decide) (by rfl) (inq inlX1) rfl 6 (by decide) (mq f_X1_31) tyX1_ok nmX1 rfl ⟨rfl, rfl⟩ (by rfl) ?_
    refine g_vreti B dX1_addToken_53 ?_
    exact hK
  · exact absurd (show nI t < Int32.ofNat 161 by rw [i_lt, i_n (by omega), show (Int32.ofNat 161).toInt = 161 from rfl]; omega) c9
theorem lt_L {x : Int32} (h1 : ¬ x < 97) (h2 : ¬ 122 < x) : isL x := ⟨Int32.not_lt.mp h1, Int32.not_lt.mp h2⟩
theorem lt_D {x : Int32} (h1 : ¬ x < 48) (h2 : ¬ 57 < x) : isD x := ⟨Int32.not_lt.mp h1, Int32.not_lt.mp h2⟩
set_option maxRecDepth 100000 in
set_option maxHeartbeats 4000000 in
theorem x_scanT {Z : LZ} {ad : Nat → Nat} {τ : St} {K : Int32 → St → Prop} {x : Int32} {g : Nat → Int32} {p q t : Nat} {aK aV : Nat → Nat} {tb fm : Nat} (hE : SI Z aK aV tb fm) (hG : GB τ g p) (hx : x = nI q) (hq : q < p) (ht : t ≤ 160) (hc : τ.1 11 6 = nI t) (hK : K (nI (tokE g q)) (adT τ t (tokS g q) (tokV g q) (nI q))) : CC lyX Z ad yX1_scanToken wsX1_scanToken (rmk 6) [.ref (ad 11), .int x] τ (rI K) := by
  refine CC.of (cc := cX1_scanToken) (nL := 5) (ret := (some .int)) rfl rfl ⟨rfl, rfl⟩ (by exact Nat.le_of_ble_eq_true rfl) ?_
  intro X B
  change GG _ _ _ _ X _ 0 [some (.ref (ad 11)), some (.int x), none, none, none] [] _
  change Amb _ _ _ _ X _ _ RX1 _ _ at B
  subst hx
  have hp := hG.1.2.2
  have hg0 : ¬ g q < 0 := fun z => by have := hG.1.neg.mp z; omega
  unfold tokE tokS tokV at hK
  rw [if_neg hg0, if_neg hg0, if_neg hg0] at hK
  refine g_aload_n B dX1_scanToken_0 rfl ?_
  refine g_iload_n B dX1_scanToken_1 rfl ?_
  refine g_callVi (C := RX1) (As := [.int _]) B dX1_scanToken_2 (gc1 g_X1_65) (by rfl) ⟨rfl, hd_X1_byteAt⟩ (by exact ⟨Nat.le_of_ble_eq_true rfl, Nat.le_of_ble_eq_true rfl⟩) ⟨rfl, rfl⟩ rfl rfl (by exact Nat.le_of_ble_eq_true rfl) recv1 (x_byte (j := q) hG rfl (by omega) ?_)
  refine g_istore_n B dX1_scanToken_5 (by decide) rfl ?_
  refine g_iload_n B dX1_scanToken_6 rfl ?_
  refine g_bipush (v := (97)) B dX1_scanToken_7 (by decide) ?_
  refine g_icmp_lt (tgt := 63) B dX1_scanToken_9 (by decide) (fun c9 => ?_) (fun c9 => ?_)
  · have hL : ¬ isL (g q) := fun z => by
      first
      | exact absurd c15 (Int32.not_lt.mpr z.2)
      | exact absurd c9 (Int32.not_lt.mpr z.1)
    rw [if_neg hL, if_neg hL, if_neg hL] at hK
    refine g_iload_n B dX1_scanToken_63 rfl ?_
    refine g_bipush (v := (48)) B dX1_scanToken_64 (by decide) ?_
    refine g_icmp_lt (tgt := 131) B dX1_scanToken_66 (by decide) (fun c66 => ?_) (fun c66 => ?_)
    · have hD : ¬ isD (g q) := fun z => by
        first
        | exact absurd c72 (Int32.not_lt.mpr z.2)
        | exact absurd c66 (Int32.not_lt.mpr z.1)
      rw [if_neg hD, if_neg hD, if_neg hD] at hK
      refine g_aload_n B dX1_scanToken_131 rfl ?_
      refine g_iload_n B dX1_scanToken_132 rfl ?_
      refine g_callSi (As := [.int _]) B dX1_scanToken_133 (gc1 g_X1_82) (by rfl) hd_X1_isSign (by exact ⟨Nat.le_of_ble_eq_true rfl, Nat.le_of_ble_eq_true rfl⟩) ⟨rfl, rfl⟩ rfl rfl (by exact Nat.le_of_ble_eq_true rfl) (x_isSign ?_)
      refine g_if_eq (tgt := 143) B dX1_scanToken_136 (by decide) (fun c136 => ?_) (fun c136 => ?_)
      · refine g_iconst (v := (1)) B dX1_scanToken_143 (by decide) ?_
        refine g_iconst (v := (0)) B dX1_scanToken_144 (by decide) ?_
        refine g_iload_n B dX1_scanToken_145 rfl ?_
        refine g_callVv (C := RX1) (As := [.int _, .int _, .int _]) B dX1_scanToken_146 (gc1 g_X1_61) (by rfl) ⟨rfl, hd_X1_addToken⟩ (by exact ⟨Nat.le_of_ble_eq_true rfl, Nat.le_of_ble_eq_true rfl⟩) ⟨rfl, rfl⟩ rfl rfl (by exact Nat.le_of_ble_eq_true rfl) recv1 (x_addT ht hc ?_)
        refine g_iload_n B dX1_scanToken_149 rfl ?_
        refine g_iconst (v := (1)) B dX1_scanToken_150 (by decide) ?_
        refine g_iadd B dX1_scanToken_151 ?_
        rw [nI_1]
        refine g_ireti B dX1_scanToken_152 ?_
        first
          | (rw [if_pos (b1_n0.mp c136)] at hK; exact hK)
          | (rw [if_neg (b1_0.mp c136)] at hK; exact hK)
      · refine g_iload_n B dX1_scanToken_139 rfl ?_
        refine g_goto (tgt := 144) B dX1_scanToken_140 (by decide) ?_
        refine g_iconst (v := (0)) B dX1_scanToken_144 (by decide) ?_
        refine g_iload_n B dX1_scanToken_145 rfl ?_
        refine g_callVv (C := RX1) (As := [.int _, .int _, .int _]) B dX1_scanToken_146 (gc1 g_X1_61) (by rfl) ⟨rfl, hd_X1_addToken⟩ (by exact ⟨Nat.le_of_ble_eq_true rfl, Nat.le_of_ble_eq_true rfl⟩) ⟨rfl, rfl⟩ rfl rfl (by exact Nat.le_of_ble_eq_true rfl) recv1 (x_addT ht hc ?_)
        refine g_iload_n B dX1_scanToken_149 rfl ?_
        refine g_iconst (v := (1)) B dX1_scanToken_150 (by decide) ?_
        refine g_iadd B dX1_scanToken_151 ?_
        rw [nI_1]
        refine g_ireti B dX1_scanToken_152 ?_
        first
          | (rw [if_pos (b1_n0.mp c136)] at hK; exact hK)
          | (rw [if_neg (b1_0.mp c136)] at hK; exact hK)
    · refine g_iload_n B dX1_scanToken_69 rfl ?_
      refine g_bipush (v := (57)) B dX1_scanToken_70 (by decide) ?_
      refine g_icmp_gt (tgt := 131) B dX1_scanToken_72 (by decide) (fun c72 => ?_) (fun c72 => ?_)
      · have hD : ¬ isD (g q) := fun z => by
          first
          | exact absurd c72 (Int32.not_lt.mpr z.2)
          | exact absurd c66 (Int32.not_lt.mpr z.1)
        rw [if_neg hD, if_neg hD, if_neg hD] at hK
        refine g_aload_n B dX1_scanToken_131 rfl ?_
        refine g_iload_n B dX1_scanToken_132 rfl ?_
        refine g_callSi (As := [.int _]) B dX1_scanToken_133 (gc1 g_X1_82) (by rfl) hd_X1_isSign (by exact ⟨Nat.le_of_ble_eq_true rfl, Nat.le_of_ble_eq_true rfl⟩) ⟨rfl, rfl⟩ rfl rfl (by exact Nat.le_of_ble_eq_true rfl) (x_isSign ?_)
        refine g_if_eq (tgt := 143) B dX1_scanToken_136 (by decide) (fun c136 => ?_) (fun c136 => ?_)
        · refine g_iconst (v := (1)) B dX1_scanToken_143 (by decide) ?_
          refine g_iconst (v := (0)) B dX1_scanToken_144 (by decide) ?_
          refine g_iload_n B dX1_scanToken_145 rfl ?_
          refine g_callVv (C := RX1) (As := [.int _, .int _, .int _]) B dX1_scanToken_146 (gc1 g_X1_61) (by rfl) ⟨rfl, hd_X1_addToken⟩ (by exact ⟨Nat.le_of_ble_eq_true rfl, Nat.le_of_ble_eq_true rfl⟩) ⟨rfl, rfl⟩ rfl rfl (by exact Nat.le_of_ble_eq_true rfl) recv1 (x_addT ht hc ?_)
          refine g_iload_n B dX1_scanToken_149 rfl ?_
          refine g_iconst (v := (1)) B dX1_scanToken_150 (by decide) ?_
          refine g_iadd B dX1_scanToken_151 ?_
          rw [nI_1]
          refine g_ireti B dX1_scanToken_152 ?_
          first
            | (rw [if_pos (b1_n0.mp c136)] at hK; exact hK)
            | (rw [if_neg (b1_0.mp c136)] at hK; exact hK)
        · refine g_iload_n B dX1_scanToken_139 rfl ?_
          refine g_goto (tgt := 144) B dX1_scanToken_140 (by decide) ?_
          refine g_iconst (v := (0)) B dX1_scanToken_144 (by decide) ?_
          refine g_iload_n B dX1_scanToken_145 rfl ?_
          refine g_callVv (C := RX1) (As := [.int _, .int _, .int _]) B dX1_scanToken_146 (gc1 g_X1_61) (by rfl) ⟨rfl, hd_X1_addToken⟩ (by exact ⟨Nat.le_of_ble_eq_true rfl, Nat.le_of_ble_eq_true rfl⟩) ⟨rfl, rfl⟩ rfl rfl (by exact Nat.le_of_ble_eq_true rfl) recv1 (x_addT ht hc ?_)
          refine g_iload_n B dX1_scanToken_149 rfl ?_
          refine g_iconst (v := (1)) B dX1_scanToken_150 (by decide) ?_
          refine g_iadd B dX1_scanToken_151 ?_
          rw [nI_1]
          refine g_ireti B dX1_scanToken_152 ?_
          first
            | (rw [if_pos (b1_n0.mp c136)] at hK; exact hK)
            | (rw [if_neg (b1_0.mp c136)] at hK; exact hK)
      · have hD : isD (g q) := lt_D c66 c72
        rw [if_pos hD, if_pos hD, if_pos hD] at hK
        obtain ⟨s1, s2, s3, s4⟩ := spD_spec hG.1 200 q (by omega) (by omega)
        refine g_aload_n B dX1_scanToken_75 rfl ?_
        refine g_iload_n B dX1_scanToken_76 rfl ?_
        refine g_bipush (v := (48)) B dX1_scanToken_77 (by decide) ?_
        refine g_bipush (v := (57)) B dX1_scanToken_79 (by decide) ?_
        refine g_callVi (C := RX1) (As := [.int _, .int _, .int _]) B dX1_scanToken_81 (gc1 g_X1_68) (by rfl) ⟨rfl, hd_X1_endOf⟩ (by exact ⟨Nat.le_of_ble_eq_true rfl, Nat.le_of_ble_eq_true rfl⟩) ⟨rfl, rfl⟩ rfl rfl (by exact Nat.le_of_ble_eq_true rfl) recv1 (x_endOf hG (by decide) rfl (by omega) ?_)
        rw [spG_D]
        refine g_istore_n B dX1_scanToken_84 (by decide) rfl ?_
        refine g_iload_n B dX1_scanToken_85 rfl ?_
        refine g_iload_n B dX1_scanToken_86 rfl ?_
        refine g_isub B dX1_scanToken_87 ?_
        rw [show nI (spD g 200 q) - nI q = nI (spD g 200 q - q) from pk_sub s1]
        refine g_iconst (v := (4)) B dX1_scanToken_88 (by decide) ?_
        refine g_icmp_gt (tgt := 96) B dX1_scanToken_89 (by decide) (fun c89 => ?_) (fun c89 => ?_)
        · refine g_iconst (v := (0)) B dX1_scanToken_96 (by decide) ?_
          refine g_istore B dX1_scanToken_97 (by decide) rfl ?_
          refine g_aload_n B dX1_scanToken_99 rfl ?_
          refine g_iload B dX1_scanToken_100 rfl ?_
          refine g_if_eq (tgt := 109) B dX1_scanToken_102 (by decide) (fun c102 => ?_) (fun c102 => ?_)
          · refine g_iconst (v := (1)) B dX1_scanToken_109 (by decide) ?_
            refine g_iload B dX1_scanToken_110 rfl ?_
            refine g_if_eq (tgt := 124) B dX1_scanToken_112 (by decide) (fun c112 => ?_) (fun c112 => ?_)
            · refine g_iconst (v := (0)) B dX1_scanToken_124 (by decide) ?_
              refine g_iload_n B dX1_scanToken_125 rfl ?_
              refine g_callVv (C := RX1) (As := [.int _, .int _, .int _]) B dX1_scanToken_126 (gc1 g_X1_61) (by rfl) ⟨rfl, hd_X1_addToken⟩ (by exact ⟨Nat.le_of_ble_eq_true rfl, Nat.le_of_ble_eq_true rfl⟩) ⟨rfl, rfl⟩ rfl rfl (by exact Nat.le_of_ble_eq_true rfl) recv1 (x_addT ht hc ?_)
              refine g_iload_n B dX1_scanToken_129 rfl ?_
              refine g_ireti B dX1_scanToken_130 ?_
              first
                | (have h4 : spD g 200 q - q ≤ 4 := by
                     have := Int32.not_lt.mp c89
                     rw [i_le, i_n (by omega), i4] at this
                     omega
                   rw [if_pos h4, if_pos h4] at hK
                   exact hK)
                | (have h4 : ¬ spD g 200 q - q ≤ 4 := by
                     have := c89
                     rw [i_lt, i_n (by omega), i4] at this
                     omega
                   rw [if_neg h4, if_neg h4] at hK
                   exact hK)
            · exact absurd rfl c112
          · exact absurd rfl c102
        · refine g_iconst (v := (1)) B dX1_scanToken_92 (by decide) ?_
          refine g_goto (tgt := 97) B dX1_scanToken_93 (by decide) ?_
          refine g_istore B dX1_scanToken_97 (by decide) rfl ?_
          refine g_aload_n B dX1_scanToken_99 rfl ?_
          refine g_iload B dX1_scanToken_100 rfl ?_
          refine g_if_eq (tgt := 109) B dX1_scanToken_102 (by decide) (fun c102 => ?_) (fun c102 => ?_)
          · exact absurd c102 (by decide)
          · refine g_iconst (v := (2)) B dX1_scanToken_105 (by decide) ?_
            refine g_goto (tgt := 110) B dX1_scanToken_106 (by decide) ?_
            refine g_iload B dX1_scanToken_110 rfl ?_
            refine g_if_eq (tgt := 124) B dX1_scanToken_112 (by decide) (fun c112 => ?_) (fun c112 => ?_)
            · exact absurd c112 (by decide)
            · refine g_aload_n B dX1_scanToken_115 rfl ?_
              refine g_iload_n B dX1_scanToken_116 rfl ?_
              refine g_iload_n B dX1_scanToken_117 rfl ?_
              refine g_callVi (C := RX1) (As := [.int _, .int _]) B dX1_scanToken_118 (gc1 g_X1_79) (by rfl) ⟨rfl, hd_X1_numberOf⟩ (by exact ⟨Nat.le_of_ble_eq_true rfl, Nat.le_of_ble_eq_true rfl⟩) ⟨rfl, rfl⟩ rfl rfl (by exact Nat.le_of_ble_eq_true rfl) recv1 (x_num (n := spD g 200 q - q) hG rfl (by rw [show q + (spD g 200 q - q) = spD g 200 q by omega]) (by omega) ?_)
              refine g_goto (tgt := 125) B dX1_scanToken_121 (by decide) ?_
              refine g_iload_n B dX1_scanToken_125 rfl ?_
              refine g_callVv (C := RX1) (As := [.int _, .int _, .int _]) B dX1_scanToken_126 (gc1 g_X1_61) (by rfl) ⟨rfl, hd_X1_addToken⟩ (by exact ⟨Nat.le_of_ble_eq_true rfl, Nat.le_of_ble_eq_true rfl⟩) ⟨rfl, rfl⟩ rfl rfl (by exact Nat.le_of_ble_eq_true rfl) recv1 (x_addT ht hc ?_)
              refine g_iload_n B dX1_scanToken_129 rfl ?_
              refine g_ireti B dX1_scanToken_130 ?_
              first
                | (have h4 : spD g 200 q - q ≤ 4 := by
                     have := Int32.not_lt.mp c89
                     rw [i_le, i_n (by omega), i4] at this
                     omega
                   rw [if_pos h4, if_pos h4] at hK
                   exact hK)
                | (have h4 : ¬ spD g 200 q - q ≤ 4 := by
                     have := c89
                     rw [i_lt, i_n (by omega), i4] at this
                     omega
                   rw [if_neg h4, if_neg h4] at hK
                   exact hK)
  · refine g_iload_n B dX1_scanToken_12 rfl ?_
    refine g_bipush (v := (122)) B dX1_scanToken_13 (by decide) ?_
    refine g_icmp_gt (tgt := 63) B dX1_scanToken_15 (by decide) (fun c15 => ?_) (fun c15 => ?_)
    · have hL : ¬ isL (g q) := fun z => by
        first
        | exact absurd c15 (Int32.not_lt.mpr z.2)
        | exact absurd c9 (Int32.not_lt.mpr z.1)
      rw [if_neg hL, if_neg hL, if_neg hL] at hK
      refine g_iload_n B dX1_scanToken_63 rfl ?_
      refine g_bipush (v := (48)) B dX1_scanToken_64 (by decide) ?_
      refine g_icmp_lt (tgt := 131) B dX1_scanToken_66 (by decide) (fun c66 => ?_) (fun c66 => ?_)
      · have hD : ¬ isD (g q) := fun z => by
          first
          | exact absurd c72 (Int32.not_lt.mpr z.2)
          | exact absurd c66 (Int32.not_lt.mpr z.1)
        rw [if_neg hD, if_neg hD, if_neg hD] at hK
        refine g_aload_n B dX1_scanToken_131 rfl ?_
        refine g_iload_n B dX1_scanToken_132 rfl ?_
        refine g_callSi (As := [.int _]) B dX1_scanToken_133 (gc1 g_X1_82) (by rfl) hd_X1_isSign (by exact ⟨Nat.le_of_ble_eq_true rfl, Nat.le_of_ble_eq_true rfl⟩) ⟨rfl, rfl⟩ rfl rfl (by exact Nat.le_of_ble_eq_true rfl) (x_isSign ?_)
        refine g_if_eq (tgt := 143) B dX1_scanToken_136 (by decide) (fun c136 => ?_) (fun c136 => ?_)
        · refine g_iconst (v := (1)) B dX1_scanToken_143 (by decide) ?_
          refine g_iconst (v := (0)) B dX1_scanToken_144 (by decide) ?_
          refine g_iload_n B dX1_scanToken_145 rfl ?_
          refine g_callVv (C := RX1) (As := [.int _, .int _, .int _]) B dX1_scanToken_146 (gc1 g_X1_61) (by rfl) ⟨rfl, hd_X1_addToken⟩ (by exact ⟨Nat.le_of_ble_eq_true rfl, Nat.le_of_ble_eq_true rfl⟩) ⟨rfl, rfl⟩ rfl rfl (by exact Nat.le_of_ble_eq_true rfl) recv1 (x_addT ht hc ?_)
          refine g_iload_n B dX1_scanToken_149 rfl ?_
          refine g_iconst (v := (1)) B dX1_scanToken_150 (by decide) ?_
          refine g_iadd B dX1_scanToken_151 ?_
          rw [nI_1]
          refine g_ireti B dX1_scanToken_152 ?_
          first
            | (rw [if_pos (b1_n0.mp c136)] at hK; exact hK)
            | (rw [if_neg (b1_0.mp c136)] at hK; exact hK)
        · refine g_iload_n B dX1_scanToken_139 rfl ?_
          refine g_goto (tgt := 144) B dX1_scanToken_140 (by decide) ?_
          refine g_iconst (v := (0)) B dX1_scanToken_144 (by decide) ?_
          refine g_iload_n B dX1_scanToken_145 rfl ?_
          refine g_callVv (C := RX1) (As := [.int _, .int _, .int _]) B dX1_scanToken_146 (gc1 g_X1_61) (by rfl) ⟨rfl, hd_X1_addToken⟩ (by exact ⟨Nat.le_of_ble_eq_true rfl, Nat.le_of_ble_eq_true rfl⟩) ⟨rfl, rfl⟩ rfl rfl (by exact Nat.le_of_ble_eq_true rfl) recv1 (x_addT ht hc ?_)
          refine g_iload_n B dX1_scanToken_149 rfl ?_
          refine g_iconst (v := (1)) B dX1_scanToken_150 (by decide) ?_
          refine g_iadd B dX1_scanToken_151 ?_
          rw [nI_1]
          refine g_ireti B dX1_scanToken_152 ?_
          first
            | (rw [if_pos (b1_n0.mp c136)] at hK; exact hK)
            | (rw [if_neg (b1_0.mp c136)] at hK; exact hK)
      · refine g_iload_n B dX1_scanToken_69 rfl ?_
        refine g_bipush (v := (57)) B dX1_scanToken_70 (by decide) ?_
        refine g_icmp_gt (tgt := 131) B dX1_scanToken_72 (by decide) (fun c72 => ?_) (fun c72 => ?_)
        · have hD : ¬ isD (g q) := fun z => by
            first
            | exact absurd c72 (Int32.not_lt.mpr z.2)
            | exact absurd c66 (Int32.not_lt.mpr z.1)
          rw [if_neg hD, if_neg hD, if_neg hD] at hK
          refine g_aload_n B dX1_scanToken_131 rfl ?_
          refine g_iload_n B dX1_scanToken_132 rfl ?_
          refine g_callSi (As := [.int _]) B dX1_scanToken_133 (gc1 g_X1_82) (by rfl) hd_X1_isSign (by exact ⟨Nat.le_of_ble_eq_true rfl, Nat.le_of_ble_eq_true rfl⟩) ⟨rfl, rfl⟩ rfl rfl (by exact Nat.le_of_ble_eq_true rfl) (x_isSign ?_)
          refine g_if_eq (tgt := 143) B dX1_scanToken_136 (by decide) (fun c136 => ?_) (fun c136 => ?_)
          · refine g_iconst (v := (1)) B dX1_scanToken_143 (by decide) ?_
            refine g_iconst (v := (0)) B dX1_scanToken_144 (by decide) ?_
            refine g_iload_n B dX1_scanToken_145 rfl ?_
            refine g_callVv (C := RX1) (As := [.int _, .int _, .int _]) B dX1_scanToken_146 (gc1 g_X1_61) (by rfl) ⟨rfl, hd_X1_addToken⟩ (by exact ⟨Nat.le_of_ble_eq_true rfl, Nat.le_of_ble_eq_true rfl⟩) ⟨rfl, rfl⟩ rfl rfl (by exact Nat.le_of_ble_eq_true rfl) recv1 (x_addT ht hc ?_)
            refine g_iload_n B dX1_scanToken_149 rfl ?_
            refine g_iconst (v := (1)) B dX1_scanToken_150 (by decide) ?_
            refine g_iadd B dX1_scanToken_151 ?_
            rw [nI_1]
            refine g_ireti B dX1_scanToken_152 ?_
            first
              | (rw [if_pos (b1_n0.mp c136)] at hK; exact hK)
              | (rw [if_neg (b1_0.mp c136)] at hK; exact hK)
          · refine g_iload_n B dX1_scanToken_139 rfl ?_
            refine g_goto (tgt := 144) B dX1_scanToken_140 (by decide) ?_
            refine g_iconst (v := (0)) B dX1_scanToken_144 (by decide) ?_
            refine g_iload_n B dX1_scanToken_145 rfl ?_
            refine g_callVv (C := RX1) (As := [.int _, .int _, .int _]) B dX1_scanToken_146 (gc1 g_X1_61) (by rfl) ⟨rfl, hd_X1_addToken⟩ (by exact ⟨Nat.le_of_ble_eq_true rfl, Nat.le_of_ble_eq_true rfl⟩) ⟨rfl, rfl⟩ rfl rfl (by exact Nat.le_of_ble_eq_true rfl) recv1 (x_addT ht hc ?_)
            refine g_iload_n B dX1_scanToken_149 rfl ?_
            refine g_iconst (v := (1)) B dX1_scanToken_150 (by decide) ?_
            refine g_iadd B dX1_scanToken_151 ?_
            rw [nI_1]
            refine g_ireti B dX1_scanToken_152 ?_
            first
              | (rw [if_pos (b1_n0.mp c136)] at hK; exact hK)
              | (rw [if_neg (b1_0.mp c136)] at hK; exact hK)
        · have hD : isD (g q) := lt_D c66 c72
          rw [if_pos hD, if_pos hD, if_pos hD] at hK
          obtain ⟨s1, s2, s3, s4⟩ := spD_spec hG.1 200 q (by omega) (by omega)
          refine g_aload_n B dX1_scanToken_75 rfl ?_
          refine g_iload_n B dX1_scanToken_76 rfl ?_
          refine g_bipush (v := (48)) B dX1_scanToken_77 (by decide) ?_
          refine g_bipush (v := (57)) B dX1_scanToken_79 (by decide) ?_
          refine g_callVi (C := RX1) (As := [.int _, .int _, .int _]) B dX1_scanToken_81 (gc1 g_X1_68) (by rfl) ⟨rfl, hd_X1_endOf⟩ (by exact ⟨Nat.le_of_ble_eq_true rfl, Nat.le_of_ble_eq_true rfl⟩) ⟨rfl, rfl⟩ rfl rfl (by exact Nat.le_of_ble_eq_true rfl) recv1 (x_endOf hG (by decide) rfl (by omega) ?_)
          rw [spG_D]
          refine g_istore_n B dX1_scanToken_84 (by decide) rfl ?_
          refine g_iload_n B dX1_scanToken_85 rfl ?_
          refine g_iload_n B dX1_scanToken_86 rfl ?_
          refine g_isub B dX1_scanToken_87 ?_
          rw [show nI (spD g 200 q) - nI q = nI (spD g 200 q - q) from pk_sub s1]
          refine g_iconst (v := (4)) B dX1_scanToken_88 (by decide) ?_
          refine g_icmp_gt (tgt := 96) B dX1_scanToken_89 (by decide) (fun c89 => ?_) (fun c89 => ?_)
          · refine g_iconst (v := (0)) B dX1_scanToken_96 (by decide) ?_
            refine g_istore B dX1_scanToken_97 (by decide) rfl ?_
            refine g_aload_n B dX1_scanToken_99 rfl ?_
            refine g_iload B dX1_scanToken_100 rfl ?_
            refine g_if_eq (tgt := 109) B dX1_scanToken_102 (by decide) (fun c102 => ?_) (fun c102 => ?_)
            · refine g_iconst (v := (1)) B dX1_scanToken_109 (by decide) ?_
              refine g_iload B dX1_scanToken_110 rfl ?_
              refine g_if_eq (tgt := 124) B dX1_scanToken_112 (by decide) (fun c112 => ?_) (fun c112 => ?_)
              · refine g_iconst (v := (0)) B dX1_scanToken_124 (by decide) ?_
                refine g_iload_n B dX1_scanToken_125 rfl ?_
                refine g_callVv (C := RX1) (As := [.int _, .int _, .int _]) B dX1_scanToken_126 (gc1 g_X1_61) (by rfl) ⟨rfl, hd_X1_addToken⟩ (by exact ⟨Nat.le_of_ble_eq_true rfl, Nat.le_of_ble_eq_true rfl⟩) ⟨rfl, rfl⟩ rfl rfl (by exact Nat.le_of_ble_eq_true rfl) recv1 (x_addT ht hc ?_)
                refine g_iload_n B dX1_scanToken_129 rfl ?_
                refine g_ireti B dX1_scanToken_130 ?_
                first
                  | (have h4 : spD g 200 q - q ≤ 4 := by
                       have := Int32.not_lt.mp c89
                       rw [i_le, i_n (by omega), i4] at this
                       omega
                     rw [if_pos h4, if_pos h4] at hK
                     exact hK)
                  | (have h4 : ¬ spD g 200 q - q ≤ 4 := by
                       have := c89
                       rw [i_lt, i_n (by omega), i4] at this
                       omega
                     rw [if_neg h4, if_neg h4] at hK
                     exact hK)
              · exact absurd rfl c112
            · exact absurd rfl c102
          · refine g_iconst (v := (1)) B dX1_scanToken_92 (by decide) ?_
            refine g_goto (tgt := 97) B dX1_scanToken_93 (by decide) ?_
            refine g_istore B dX1_scanToken_97 (by decide) rfl ?_
            refine g_aload_n B dX1_scanToken_99 rfl ?_
            refine g_iload B dX1_scanToken_100 rfl ?_
            refine g_if_eq (tgt := 109) B dX1_scanToken_102 (by decide) (fun c102 => ?_) (fun c102 => ?_)
            · exact absurd c102 (by decide)
            · refine g_iconst (v := (2)) B dX1_scanToken_105 (by decide) ?_
              refine g_goto (tgt := 110) B dX1_scanToken_106 (by decide) ?_
              refine g_iload B dX1_scanToken_110 rfl ?_
              refine g_if_eq (tgt := 124) B dX1_scanToken_112 (by decide) (fun c112 => ?_) (fun c112 => ?_)
              · exact absurd c112 (by decide)
              · refine g_aload_n B dX1_scanToken_115 rfl ?_
                refine g_iload_n B dX1_scanToken_116 rfl ?_
                refine g_iload_n B dX1_scanToken_117 rfl ?_
                refine g_callVi (C := RX1) (As := [.int _, .int _]) B dX1_scanToken_118 (gc1 g_X1_79) (by rfl) ⟨rfl, hd_X1_numberOf⟩ (by exact ⟨Nat.le_of_ble_eq_true rfl, Nat.le_of_ble_eq_true rfl⟩) ⟨rfl, rfl⟩ rfl rfl (by exact Nat.le_of_ble_eq_true rfl) recv1 (x_num (n := spD g 200 q - q) hG rfl (by rw [show q + (spD g 200 q - q) = spD g 200 q by omega]) (by omega) ?_)
                refine g_goto (tgt := 125) B dX1_scanToken_121 (by decide) ?_
                refine g_iload_n B dX1_scanToken_125 rfl ?_
                refine g_callVv (C := RX1) (As := [.int _, .int _, .int _]) B dX1_scanToken_126 (gc1 g_X1_61) (by rfl) ⟨rfl, hd_X1_addToken⟩ (by exact ⟨Nat.le_of_ble_eq_true rfl, Nat.le_of_ble_eq_true rfl⟩) ⟨rfl, rfl⟩ rfl rfl (by exact Nat.le_of_ble_eq_true rfl) recv1 (x_addT ht hc ?_)
                refine g_iload_n B dX1_scanToken_129 rfl ?_
                refine g_ireti B dX1_scanToken_130 ?_
                first
                  | (have h4 : spD g 200 q - q ≤ 4 := by
                       have := Int32.not_lt.mp c89
                       rw [i_le, i_n (by omega), i4] at this
                       omega
                     rw [if_pos h4, if_pos h4] at hK
                     exact hK)
                  | (have h4 : ¬ spD g 200 q - q ≤ 4 := by
                       have := c89
                       rw [i_lt, i_n (by omega), i4] at this
                       omega
                     rw [if_neg h4, if_neg h4] at hK
                     exact hK)
    · have hL : isL (g q) := lt_L c9 c15
      rw [if_pos hL, if_pos hL, if_pos hL] at hK
      obtain ⟨s1, s2, s3, s4⟩ := spL_spec hG.1 200 q (by omega) (by omega)
      refine g_aload_n B dX1_scanToken_18 rfl ?_
      refine g_iload_n B dX1_scanToken_19 rfl ?_
      refine g_bipush (v := (97)) B dX1_scanToken_20 (by decide) ?_
      refine g_bipush (v := (122)) B dX1_scanToken_22 (by decide) ?_
      refine g_callVi (C := RX1) (As := [.int _, .int _, .int _]) B dX1_scanToken_24 (gc1 g_X1_68) (by rfl) ⟨rfl, hd_X1_endOf⟩ (by exact ⟨Nat.le_of_ble_eq_true rfl, Nat.le_of_ble_eq_true rfl⟩) ⟨rfl, rfl⟩ rfl rfl (by exact Nat.le_of_ble_eq_true rfl) recv1 (x_endOf hG (by decide) rfl (by omega) ?_)
      rw [spG_L]
      refine g_istore_n B dX1_scanToken_27 (by decide) rfl ?_
      refine g_aload_n B dX1_scanToken_28 rfl ?_
      refine g_iload_n B dX1_scanToken_29 rfl ?_
      refine g_iload_n B dX1_scanToken_30 rfl ?_
      refine g_callVi (C := RX1) (As := [.int _, .int _]) B dX1_scanToken_31 (gc1 g_X1_72) (by rfl) ⟨rfl, hd_X1_nameOf⟩ (by exact ⟨Nat.le_of_ble_eq_true rfl, Nat.le_of_ble_eq_true rfl⟩) ⟨rfl, rfl⟩ rfl rfl (by exact Nat.le_of_ble_eq_true rfl) recv1 (x_name hE hG rfl rfl s1 (by omega) ?_)
      refine g_istore B dX1_scanToken_34 (by decide) rfl ?_
      refine g_aload_n B dX1_scanToken_36 rfl ?_
      refine g_iload B dX1_scanToken_37 rfl ?_
      refine g_iconst (v := (-1)) B dX1_scanToken_39 (by decide) ?_
      refine g_icmp_ne (tgt := 52) B dX1_scanToken_40 (by decide) (fun c40 => ?_) (fun c40 => ?_)
      · refine g_iconst (v := (3)) B dX1_scanToken_52 (by decide) ?_
        refine g_iconst (v := (-1)) B dX1_scanToken_53 (by decide) ?_
        refine g_iload B dX1_scanToken_54 rfl ?_
        refine g_isub B dX1_scanToken_56 ?_
        refine g_iload_n B dX1_scanToken_57 rfl ?_
        refine g_callVv (C := RX1) (As := [.int _, .int _, .int _]) B dX1_scanToken_58 (gc1 g_X1_61) (by rfl) ⟨rfl, hd_X1_addToken⟩ (by exact ⟨Nat.le_of_ble_eq_true rfl, Nat.le_of_ble_eq_true rfl⟩) ⟨rfl, rfl⟩ rfl rfl (by exact Nat.le_of_ble_eq_true rfl) recv1 (x_addT ht hc ?_)
        rw [wS_X s1 s4] at hK
        dsimp only at hK
        refine g_iload_n B dX1_scanToken_61 rfl ?_
        refine g_ireti B dX1_scanToken_62 ?_
        first
          | (rw [if_pos c40] at hK; exact hK)
          | (rw [if_neg c40] at hK; exact hK)
      · refine g_aload_n B dX1_scanToken_43 rfl ?_
        refine g_iload_n B dX1_scanToken_44 rfl ?_
        refine g_iload_n B dX1_scanToken_45 rfl ?_
        refine g_callVi (C := RX1) (As := [.int _, .int _]) B dX1_scanToken_46 (gc1 g_X1_76) (by rfl) ⟨rfl, hd_X1_keyOf⟩ (by exact ⟨Nat.le_of_ble_eq_true rfl, Nat.le_of_ble_eq_true rfl⟩) ⟨rfl, rfl⟩ rfl rfl (by exact Nat.le_of_ble_eq_true rfl) recv1 (x_key hE hG rfl rfl s1 (by omega) ?_)
        refine g_goto (tgt := 53) B dX1_scanToken_49 (by decide) ?_
        refine g_iconst (v := (-1)) B dX1_scanToken_53 (by decide) ?_
        refine g_iload B dX1_scanToken_54 rfl ?_
        refine g_isub B dX1_scanToken_56 ?_
        refine g_iload_n B dX1_scanToken_57 rfl ?_
        refine g_callVv (C := RX1) (As := [.int _, .int _, .int _]) B dX1_scanToken_58 (gc1 g_X1_61) (by rfl) ⟨rfl, hd_X1_addToken⟩ (by exact ⟨Nat.le_of_ble_eq_true rfl, Nat.le_of_ble_eq_true rfl⟩) ⟨rfl, rfl⟩ rfl rfl (by exact Nat.le_of_ble_eq_true rfl) recv1 (x_addT ht hc ?_)
        rw [wS_X s1 s4] at hK
        dsimp only at hK
        refine g_iload_n B dX1_scanToken_61 rfl ?_
        refine g_ireti B dX1_scanToken_62 ?_
        first
          | (rw [if_pos c40] at hK; exact hK)
          | (rw [if_neg c40] at hK; exact hK)

