/-! the program: what all have *program; over a view V of its world* -/
/-- the rule, the number of users, the row of colds, the users are V's *w: the row of colds* -/
def VX (τ : St) (w : Nat) (V : VW) : Prop := τ.1 0 3 = V.2.1 ∧ ∀ t, t < 30 → τ.1 w t = V.2.2.2.2.2 t
def UX (τ : St) (o : Nat) (V : VW) (u : Nat) : Prop := (τ.1 o 0 = V.2.2.1 u ∧ τ.1 o 1 = V.2.2.2.1 u ∧ τ.1 o 2 = V.2.2.2.2.1 u) ∧ 0 ≤ (τ.1 o 0).toInt ∧ (τ.1 o 0).toInt ≤ 5
def RX (τ : St) (C : TC) : Prop := ∃ r, τ.1 0 8 = nI r ∧ TXX τ r C
def XV (τ : St) (w : Nat) (V : VW) (m : Nat) : Prop := WO w ∧ RX τ V.1 ∧ VX τ w V ∧ (m ≤ 6 ∧ V.2.1 = nI m) ∧ ∀ u, u < m → UX τ (u + 20) V u
/-- only rows of these numbers changed that no view reads -/
abbrev okC (cs : List Nat) : Prop := ∀ o, o ∈ cs → o < 20 ∧ o ≠ 1 ∧ o ≠ 4 ∧ o ≠ 12
theorem UX.pz {cs ks : List Nat} {τ τ' : St} {o u : Nat} {V : VW} (h : UX τ o V u) (hU : UO o) (hp : pkz cs ks τ τ') (hc : okC cs) : UX τ' o V u := by
  have := hU.z
  unfold UX at h ⊢
  rw [hp.1 o (by omega) (fun q => by have := hc o q; omega)]
  exact h
theorem RX.pz {cs ks : List Nat} {τ τ' : St} {C : TC} (h : RX τ C) (hp : pkz cs ks τ τ') (hc : okC cs) (h8 : 8 ∉ ks) : RX τ' C := by
  obtain ⟨r, h1, h2⟩ := h
  exact ⟨r, (hp.2.1 8 h8).trans h1, h2.pz hp (fun o q => by have := hc o q; omega)⟩
theorem VX.pz {cs ks : List Nat} {τ τ' : St} {w : Nat} {V : VW} (h : VX τ w V) (hw : WO w) (hp : pkz cs ks τ τ') (hc : okC cs) (h3 : 3 ∉ ks) : VX τ' w V := by
  refine ⟨(hp.2.1 3 h3).trans h.1, fun t ht => ?_⟩
  have : w ∉ cs := fun q => by
    have := hc w q
    rcases hw with e | e <;> subst e <;> omega
  rw [hp.1 w (by rcases hw with e | e <;> subst e <;> decide) this]
  exact h.2 t ht
theorem XV.pz {cs ks : List Nat} {τ τ' : St} {w m : Nat} {V : VW} (h : XV τ w V m) (hp : pkz cs ks τ τ') (hc : okC cs) (h3 : 3 ∉ ks) (h8 : 8 ∉ ks) : XV τ' w V m := by
  obtain ⟨a, b, c, d, e⟩ := h
  exact ⟨a, b.pz hp hc h8, c.pz a hp hc h3, d, fun u hu => (e u hu).pz (UO.u (by omega)) hp hc⟩
theorem XV.hm {τ : St} {w m : Nat} {V : VW} (h : XV τ w V m) : τ.1 0 3 = nI m := h.2.2.1.1.trans h.2.2.2.1.2
theorem okC23 : okC [2, 3] := by
  intro o h
  simp at h
  omega
set_option maxRecDepth 100000 in
set_option maxHeartbeats 4000000 in
theorem lx_sumOf {Z : LZ} {ad : Nat → Nat} {X : CX} {K : Int32 → St → Prop} {τ0 : St} {o u w k : Nat} {V : VW} {sh : Int32} (B : Amb lyX Z ad (rmk 3) X cX5_sumOf wsX5_sumOf RX5 8 (some .int)) (hU : UO o) (hW : WO w) (hT : TXX τ0 k V.1) (hV : VX τ0 w V) (hx : UX τ0 o V u) (hK : ∀ τ', pkz [2, 3] [] τ0 τ' → K (haV V sh u) τ') : ∀ (n i : Nat) (τ : St), i ≤ 30 → 30 - i < n → pkz [2, 3] [] τ0 τ → GG lyX Z ad (rmk 3) X (rI K) 19 [some (.ref (ad 0)), some (.ref (ad o)), some (.ref (ad w)), some (.int sh), some (.ref (ad (k + 26))), some (.int (smT (hsV V sh u) i)), some (.int (sR0 sh i)), some (.int (nI i))] [] τ := by
  intro n
  induction n with
  | zero => intro i τ _ h; omega
  | succ n ih =>
    intro i τ h1 h2 hp
    have hT' := hT.pz hp (by decide)
    have hV' := hV.pz hW hp okC23 (by decide)
    have hx' := hx.pz hU hp okC23
    refine g_iload B dX5_sumOf_19 rfl ?_
    refine g_bipush (v := (30)) B dX5_sumOf_21 (by decide) ?_
    refine g_icmp_ge (tgt := 65) B dX5_sumOf_23 (by decide) (fun c23 => ?_) (fun c23 => ?_)
    · refine g_iload B dX5_sumOf_65 rfl ?_
      refine g_ireti B dX5_sumOf_67 ?_
      rw [show (30 : Int32) = nI 30 from rfl, nI_leI (by omega) (by omega)] at c23
      have e : i = 30 := by omega
      subst e
      exact hK τ hp
    · rw [show (30 : Int32) = nI 30 from rfl, nI_leI (by omega) (by omega)] at c23
      refine g_iload_n B dX5_sumOf_26 rfl ?_
      refine g_iload B dX5_sumOf_27 rfl ?_
      refine g_iload B dX5_sumOf_29 rfl ?_
      refine g_callSi (As := [.int _, .int _, .int _]) B dX5_sumOf_31 (gc1 g_X5_185) (by rfl) hd_X5_runBehind (by exact ⟨Nat.le_of_ble_eq_true rfl, Nat.le_of_ble_eq_true rfl⟩) ⟨rfl, rfl⟩ rfl rfl (by exact Nat.le_of_ble_eq_true rfl) (x_runBehind (t := i) rfl (by omega) rfl ?_)
      refine g_istore B dX5_sumOf_34 (by decide) rfl ?_
      refine g_iload B dX5_sumOf_36 rfl ?_
      refine g_aload_n B dX5_sumOf_38 rfl ?_
      refine g_aload_n B dX5_sumOf_39 rfl ?_
      refine g_aload B dX5_sumOf_40 rfl ?_
      refine g_aload_n B dX5_sumOf_42 rfl ?_
      refine g_iload B dX5_sumOf_43 rfl ?_
      refine g_iload_n B dX5_sumOf_45 rfl ?_
      refine g_iload B dX5_sumOf_46 rfl ?_
      refine g_callSi (As := [.int _, .int _]) B dX5_sumOf_48 (gc1 g_X5_130) (by rfl) hd_X5_townOf (by exact ⟨Nat.le_of_ble_eq_true rfl, Nat.le_of_ble_eq_true rfl⟩) ⟨rfl, rfl⟩ rfl rfl (by exact Nat.le_of_ble_eq_true rfl) (x_townOf (t := i) rfl (by omega) ?_)
      refine g_iload B dX5_sumOf_51 rfl ?_
      refine g_callVi (C := RX5) (As := [.ref _, .ref _, .ref _, .int _, .int _, .int _]) B dX5_sumOf_53 (gc1 g_X5_154) (by rfl) ⟨rfl, hd_X5_hasAt⟩ (by exact ⟨Nat.le_of_ble_eq_true rfl, Nat.le_of_ble_eq_true rfl⟩) ⟨rfl, rfl⟩ rfl rfl (by exact Nat.le_of_ble_eq_true rfl) recv5 (x_hasAt (t := i) hU hT' hW rfl (by omega) hx'.2 (fun τ1 p1 => ?_))
      rw [hV'.1, hV'.2 i (by omega), hx'.1.1, hx'.1.2.1, hx'.1.2.2]
      refine g_iadd B dX5_sumOf_56 ?_
      refine g_istore B dX5_sumOf_57 (by decide) rfl ?_
      refine g_iinc (c9 := (1)) B dX5_sumOf_59 rfl (by decide) (by decide) rfl ?_
      refine g_goto (tgt := 19) B dX5_sumOf_62 (by decide) ?_
      rw [nI_1 i]
      exact ih (i + 1) τ1 (by omega) (by omega) (hp.trans p1)
set_option maxRecDepth 100000 in
set_option maxHeartbeats 4000000 in
theorem x_sumOf {Z : LZ} {ad : Nat → Nat} {τ : St} {K : Int32 → St → Prop} {o u w : Nat} {V : VW} {sh : Int32} (hU : UO o) (hW : WO w) (hR : RX τ V.1) (hV : VX τ w V) (hx : UX τ o V u) (hK : ∀ τ', pkz [2, 3] [] τ τ' → K (haV V sh u) τ') : CC lyX Z ad yX5_sumOf wsX5_sumOf (rmk 3) [.ref (ad 0), .ref (ad o), .ref (ad w), .int sh] τ (rI K) := by
  refine CC.of (cc := cX5_sumOf) (nL := 8) (ret := (some .int)) rfl rfl ⟨rfl, rfl⟩ (by exact Nat.le_of_ble_eq_true rfl) ?_
  intro X B
  change GG _ _ _ _ X _ 0 [some (.ref (ad 0)), some (.ref (ad o)), some (.ref (ad w)), some (.int sh), none, none, none, none] [] _
  change Amb _ _ _ _ X _ _ RX5 _ _ at B
  obtain ⟨r, hr, hT⟩ := hR
  refine g_aload_n B dX5_sumOf_0 rfl ?_
  refine g_aload_n B dX5_sumOf_1 rfl ?_
  refine g_getI (T := TX5) (N := 16) B dX5_sumOf_2 (by decide) (by rfl) (inq inlX5) rfl 8 (by decide) (mq f_X5_47) (by rfl) ?_
  refine g_callVr (C := RX5) (As := [.int _]) B dX5_sumOf_5 (gc1 g_X5_150) (by rfl) ⟨rfl, hd_X5_textAt⟩ (by exact ⟨Nat.le_of_ble_eq_true rfl, Nat.le_of_ble_eq_true rfl⟩) ⟨rfl, rfl⟩ rfl rfl (by exact Nat.le_of_ble_eq_true rfl) recv5 (x_textAt hr hT.1 ?_)
  refine g_astore B dX5_sumOf_8 (by decide) rfl ?_
  refine g_iconst (v := (0)) B dX5_sumOf_10 (by decide) ?_
  refine g_istore B dX5_sumOf_11 (by decide) rfl ?_
  refine g_iconst (v := (0)) B dX5_sumOf_13 (by decide) ?_
  refine g_istore B dX5_sumOf_14 (by decide) rfl ?_
  refine g_iconst (v := (0)) B dX5_sumOf_16 (by decide) ?_
  refine g_istore B dX5_sumOf_17 (by decide) rfl ?_
  exact lx_sumOf B hU hW hT hV hx hK 40 0 τ (by omega) (by omega) pkz.rf
set_option maxRecDepth 100000 in
set_option maxHeartbeats 4000000 in
theorem lx_worthOf {Z : LZ} {ad : Nat → Nat} {X : CX} {K : Int32 → St → Prop} {τ0 : St} {w m : Nat} {V : VW} {what sh : Int32} (B : Amb lyX Z ad (rmk 4) X cX5_worthOf wsX5_worthOf RX5 6 (some .int)) (hX : XV τ0 w V m) (hK : ∀ τ', pkz [2, 3] [] τ0 τ' → K (smT (wuV V sh what) m) τ') : ∀ (n i : Nat) (τ : St), i ≤ m → m - i < n → pkz [2, 3] [] τ0 τ → GG lyX Z ad (rmk 4) X (rI K) 6 [some (.ref (ad 0)), some (.int what), some (.ref (ad w)), some (.int sh), some (.int (smT (wuV V sh what) i)), some (.int (nI i))] [] τ := by
  intro n
  induction n with
  | zero => intro i τ _ h; omega
  | succ n ih =>
    intro i τ h1 h2 hp
    have hX' := hX.pz hp okC23 (by decide) (by decide)
    have hm6 := hX.2.2.2.1.1
    have hm := hX'.hm
    have hci : (nI i).toNatClampNeg = i := i_cl (by omega)
    refine g_iload B dX5_worthOf_6 rfl ?_
    refine g_aload_n B dX5_worthOf_8 rfl ?_
    refine g_getI (T := TX5) (N := 16) B dX5_worthOf_9 (by decide) (by rfl) (inq inlX5) rfl 3 (by decide) (mq f_X5_23) (by rfl) ?_
    rw [hm]
    refine g_icmp_ge (tgt := 65) B dX5_worthOf_12 (by decide) (fun c12 => ?_) (fun c12 => ?_)
    · refine g_iload B dX5_worthOf_65 rfl ?_
      refine g_ireti B dX5_worthOf_67 ?_
      rw [nI_leI (by omega) (by omega)] at c12
      have e : i = m := by omega
      subst e
      exact hK τ hp
    · rw [nI_leI (by omega) (by omega)] at c12
      have hU : UO (i + 20) := UO.u (by omega)
      have hx' := hX'.2.2.2.2 i (by omega)
      refine g_iload B dX5_worthOf_15 rfl ?_
      refine g_bipush (v := (6)) B dX5_worthOf_17 (by decide) ?_
      refine g_icmp_ge (tgt := 65) B dX5_worthOf_19 (by decide) (fun c19 => ?_) (fun c19 => ?_)
      · exact absurd (i_le.mp c19) (by rw [i_n (by omega), i6]; omega)
      · refine g_iload_n B dX5_worthOf_22 rfl ?_
        refine g_iconst (v := (2)) B dX5_worthOf_23 (by decide) ?_
        refine g_icmp_eq (tgt := 41) B dX5_worthOf_24 (by decide) (fun c24 => ?_) (fun c24 => ?_)
        · refine g_iload B dX5_worthOf_41 rfl ?_
          refine g_aload_n B dX5_worthOf_43 rfl ?_
          refine g_aload_n B dX5_worthOf_44 rfl ?_
          refine g_getR (T := TX5) (N := 16) B dX5_worthOf_45 (by decide) (by rfl) (inq inlX5) rfl 2 (by decide) (mq f_X5_19) (by rfl) ?_
          refine g_iload B dX5_worthOf_48 rfl ?_
          refine g_aald B dX5_worthOf_50 (by decide) (by rfl) (by exact vp_in_nI (by omega) (by omega)) ?_
          rw [hci]
          refine g_aload_n B dX5_worthOf_51 rfl ?_
          refine g_iload_n B dX5_worthOf_52 rfl ?_
          refine g_callVi (C := RX5) (As := [.ref _, .ref _, .int _]) B dX5_worthOf_53 (gc1 g_X5_177) (by rfl) ⟨rfl, hd_X5_sumOf⟩ (by exact ⟨Nat.le_of_ble_eq_true rfl, Nat.le_of_ble_eq_true rfl⟩) ⟨rfl, rfl⟩ rfl rfl (by exact Nat.le_of_ble_eq_true rfl) recv5 (x_sumOf hU hX'.1 hX'.2.1 hX'.2.2.1 hx' (fun τ1 p1 => ?_))
          refine g_iadd B dX5_worthOf_56 ?_
          refine g_istore B dX5_worthOf_57 (by decide) rfl ?_
          refine g_iinc (c9 := (1)) B dX5_worthOf_59 rfl (by decide) (by decide) rfl ?_
          refine g_goto (tgt := 6) B dX5_worthOf_62 (by decide) ?_
          rw [nI_1 i]
          first
            | (have h9 := ih (i + 1) τ1 (by omega) (by omega) (hp.trans p1)
               rw [show smT (wuV V sh what) (i + 1) = smT (wuV V sh what) i + wuV V sh what i from rfl] at h9
               unfold wuV at h9 ⊢
               first
               | (rw [if_pos (Or.inl c24)] at h9; exact h9)
               | (rw [if_pos (Or.inr c38)] at h9; exact h9))
            | (have h9 := ih (i + 1) τ (by omega) (by omega) hp
               rw [show smT (wuV V sh what) (i + 1) = smT (wuV V sh what) i + wuV V sh what i from rfl, show wuV V sh what i = 0 from if_neg (fun z => z.elim (fun q => c24 q) (fun q => c38 q)), Int32.add_zero] at h9
               exact h9)
        · refine g_aload_n B dX5_worthOf_27 rfl ?_
          refine g_getR (T := TX5) (N := 16) B dX5_worthOf_28 (by decide) (by rfl) (inq inlX5) rfl 2 (by decide) (mq f_X5_19) (by rfl) ?_
          refine g_iload B dX5_worthOf_31 rfl ?_
          refine g_aald B dX5_worthOf_33 (by decide) (by rfl) (by exact vp_in_nI (by omega) (by omega)) ?_
          rw [hci]
          refine g_getI (T := TX4) (N := 3) B dX5_worthOf_34 (hU.lt) (hU.lo) (inq inlX4) rfl 2 (by decide) (mq f_X5_114) (by rfl) ?_
          rw [hx'.1.2.2]
          refine g_iload_n B dX5_worthOf_37 rfl ?_
          refine g_icmp_ne (tgt := 59) B dX5_worthOf_38 (by decide) (fun c38 => ?_) (fun c38 => ?_)
          · refine g_iinc (c9 := (1)) B dX5_worthOf_59 rfl (by decide) (by decide) rfl ?_
            refine g_goto (tgt := 6) B dX5_worthOf_62 (by decide) ?_
            rw [nI_1 i]
            first
              | (have h9 := ih (i + 1) τ1 (by omega) (by omega) (hp.trans p1)
                 rw [show smT (wuV V sh what) (i + 1) = smT (wuV V sh what) i + wuV V sh what i from rfl] at h9
                 unfold wuV at h9 ⊢
                 first
                 | (rw [if_pos (Or.inl c24)] at h9; exact h9)
                 | (rw [if_pos (Or.inr c38)] at h9; exact h9))
              | (have h9 := ih (i + 1) τ (by omega) (by omega) hp
                 rw [show smT (wuV V sh what) (i + 1) = smT (wuV V sh what) i + wuV V sh what i from rfl, show wuV V sh what i = 0 from if_neg (fun z => z.elim (fun q => c24 q) (fun q => c38 q)), Int32.add_zero] at h9
                 exact h9)
          · refine g_iload B dX5_worthOf_41 rfl ?_
            refine g_aload_n B dX5_worthOf_43 rfl ?_
            refine g_aload_n B dX5_worthOf_44 rfl ?_
            refine g_getR (T := TX5) (N := 16) B dX5_worthOf_45 (by decide) (by rfl) (inq inlX5) rfl 2 (by decide) (mq f_X5_19) (by rfl) ?_
            refine g_iload B dX5_worthOf_48 rfl ?_
            refine g_aald B dX5_worthOf_50 (by decide) (by rfl) (by exact vp_in_nI (by omega) (by omega)) ?_
            rw [hci]
            refine g_aload_n B dX5_worthOf_51 rfl ?_
            refine g_iload_n B dX5_worthOf_52 rfl ?_
            refine g_callVi (C := RX5) (As := [.ref _, .ref _, .int _]) B dX5_worthOf_53 (gc1 g_X5_177) (by rfl) ⟨rfl, hd_X5_sumOf⟩ (by exact ⟨Nat.le_of_ble_eq_true rfl, Nat.le_of_ble_eq_true rfl⟩) ⟨rfl, rfl⟩ rfl rfl (by exact Nat.le_of_ble_eq_true rfl) recv5 (x_sumOf hU hX'.1 hX'.2.1 hX'.2.2.1 hx' (fun τ1 p1 => ?_))
            refine g_iadd B dX5_worthOf_56 ?_
            refine g_istore B dX5_worthOf_57 (by decide) rfl ?_
            refine g_iinc (c9 := (1)) B dX5_worthOf_59 rfl (by decide) (by decide) rfl ?_
            refine g_goto (tgt := 6) B dX5_worthOf_62 (by decide) ?_
            rw [nI_1 i]
            first
              | (have h9 := ih (i + 1) τ1 (by omega) (by omega) (hp.trans p1)
                 rw [show smT (wuV V sh what) (i + 1) = smT (wuV V sh what) i + wuV V sh what i from rfl] at h9
                 unfold wuV at h9 ⊢
                 first
                 | (rw [if_pos (Or.inl c24)] at h9; exact h9)
                 | (rw [if_pos (Or.inr c38)] at h9; exact h9))
              | (have h9 := ih (i + 1) τ (by omega) (by omega) hp
                 rw [show smT (wuV V sh what) (i + 1) = smT (wuV V sh what) i + wuV V sh what i from rfl, show wuV V sh what i = 0 from if_neg (fun z => z.elim (fun q => c24 q) (fun q => c38 q)), Int32.add_zero] at h9
                 exact h9)
set_option maxRecDepth 100000 in
set_option maxHeartbeats 4000000 in
theorem x_worthOf {Z : LZ} {ad : Nat → Nat} {τ : St} {K : Int32 → St → Prop} {w m : Nat} {V : VW} {what sh : Int32} (hX : XV τ w V m) (hK : ∀ τ', pkz [2, 3] [] τ τ' → K (woV V sh what) τ') : CC lyX Z ad yX5_worthOf wsX5_worthOf (rmk 4) [.ref (ad 0), .int what, .ref (ad w), .int sh] τ (rI K) := by
  refine CC.of (cc := cX5_worthOf) (nL := 6) (ret := (some .int)) rfl rfl ⟨rfl, rfl⟩ (by exact Nat.le_of_ble_eq_true rfl) ?_
  intro X B
  change GG _ _ _ _ X _ 0 [some (.ref (ad 0)), some (.int what), some (.ref (ad w)), some (.int sh), none, none] [] _
  change Amb _ _ _ _ X _ _ RX5 _ _ at B
  have hm6 := hX.2.2.2.1.1
  have hK' : ∀ τ', pkz [2, 3] [] τ τ' → K (smT (wuV V sh what) m) τ' := fun τ' p => by
    have := hK τ' p
    unfold woV at this
    rw [hX.2.2.2.1.2, i_cl (by omega)] at this
    exact this
  refine g_iconst (v := (0)) B dX5_worthOf_0 (by decide) ?_
  refine g_istore B dX5_worthOf_1 (by decide) rfl ?_
  refine g_iconst (v := (0)) B dX5_worthOf_3 (by decide) ?_
  refine g_istore B dX5_worthOf_4 (by decide) rfl ?_
  exact lx_worthOf B hX hK' 40 0 τ (by omega) (by omega) pkz.rf
set_option maxRecDepth 100000 in
set_option maxHeartbeats 4000000 in
theorem x_isUser {Z : LZ} {ad : Nat → Nat} {τ : St} {K : Int32 → St → Prop} {x : Int32} {m : Nat} (hm6 : m ≤ 6) (hm : τ.1 0 3 = nI m) (hK : K (b1 (0 ≤ x.toInt ∧ x.toInt < m)) τ) : CC lyX Z ad yX5_isUser wsX5_isUser (rmk 0) [.ref (ad 0), .int x] τ (rI K) := by
  refine CC.of (cc := cX5_isUser) (nL := 2) (ret := (some .boolean)) rfl rfl ⟨rfl, rfl⟩ (by exact Nat.le_of_ble_eq_true rfl) ?_
  intro X B
  change GG _ _ _ _ X _ 0 [some (.ref (ad 0)), some (.int x)] [] _
  change Amb _ _ _ _ X _ _ RX5 _ _ at B
  have hmi : (nI m).toInt = m := i_n (by omega)
  refine g_iload_n B dX5_isUser_0 rfl ?_
  refine g_if_lt (tgt := 22) B dX5_isUser_1 (by decide) (fun c1 => ?_) (fun c1 => ?_)
  · refine g_iconst (v := (0)) B dX5_isUser_22 (by decide) ?_
    refine g_zreti B dX5_isUser_23 (by first | rfl | exact b1_nar | assumption) ?_
    refine kk (Eq.symm ?_) hK
    clear hK B
    first
      | (refine b1_t ?_; simp only [i_le, i_lt, i0, i6, hm, hmi] at *; omega)
      | (refine b1_f ?_; simp only [i_le, i_lt, i0, i6, hm, hmi] at *; omega)
  · refine g_iload_n B dX5_isUser_4 rfl ?_
    refine g_aload_n B dX5_isUser_5 rfl ?_
    refine g_getI (T := TX5) (N := 16) B dX5_isUser_6 (by decide) (by rfl) (inq inlX5) rfl 3 (by decide) (mq f_X5_23) (by rfl) ?_
    rw [hm]
    refine g_icmp_ge (tgt := 22) B dX5_isUser_9 (by decide) (fun c9 => ?_) (fun c9 => ?_)
    · refine g_iconst (v := (0)) B dX5_isUser_22 (by decide) ?_
      refine g_zreti B dX5_isUser_23 (by first | rfl | exact b1_nar | assumption) ?_
      refine kk (Eq.symm ?_) hK
      clear hK B
      first
        | (refine b1_t ?_; simp only [i_le, i_lt, i0, i6, hm, hmi] at *; omega)
        | (refine b1_f ?_; simp only [i_le, i_lt, i0, i6, hm, hmi] at *; omega)
    · refine g_iload_n B dX5_isUser_12 rfl ?_
      refine g_bipush (v := (6)) B dX5_isUser_13 (by decide) ?_
      refine g_icmp_ge (tgt := 22) B dX5_isUser_15 (by decide) (fun c15 => ?_) (fun c15 => ?_)
      · refine g_iconst (v := (0)) B dX5_isUser_22 (by decide) ?_
        refine g_zreti B dX5_isUser_23 (by first | rfl | exact b1_nar | assumption) ?_
        refine kk (Eq.symm ?_) hK
        clear hK B
        first
          | (refine b1_t ?_; simp only [i_le, i_lt, i0, i6, hm, hmi] at *; omega)
          | (refine b1_f ?_; simp only [i_le, i_lt, i0, i6, hm, hmi] at *; omega)
      · refine g_iconst (v := (1)) B dX5_isUser_18 (by decide) ?_
        refine g_goto (tgt := 23) B dX5_isUser_19 (by decide) ?_
        refine g_zreti B dX5_isUser_23 (by first | rfl | exact b1_nar | assumption) ?_
        refine kk (Eq.symm ?_) hK
        clear hK B
        first
          | (refine b1_t ?_; simp only [i_le, i_lt, i0, i6, hm, hmi] at *; omega)
          | (refine b1_f ?_; simp only [i_le, i_lt, i0, i6, hm, hmi] at *; omega)
theorem XV.wl {τ : St} {w m : Nat} {V : VW} (h : XV τ w V m) : WO w := h.1
set_option maxRecDepth 100000 in
set_option maxHeartbeats 4000000 in
theorem x_has {Z : LZ} {ad : Nat → Nat} {τ : St} {K : Int32 → St → Prop} {x y : Int32} {m : Nat} {V : VW} (hX : XV τ 1 V m) (hK : ∀ τ', pkz [2, 3] [] τ τ' → K (fHas V m (τ.1 0 1) x y) τ') : CC lyX Z ad yX5_has wsX5_has (rmk 5) [.ref (ad 0), .int x, .int y] τ (rI K) := by
  refine CC.of (cc := cX5_has) (nL := 3) (ret := (some .int)) rfl rfl ⟨rfl, rfl⟩ (by exact Nat.le_of_ble_eq_true rfl) ?_
  intro X B
  change GG _ _ _ _ X _ 0 [some (.ref (ad 0)), some (.int x), some (.int y)] [] _
  change Amb _ _ _ _ X _ _ RX5 _ _ at B
  have hm6 := hX.2.2.2.1.1
  refine g_aload_n B dX5_has_0 rfl ?_
  refine g_iload_n B dX5_has_1 rfl ?_
  refine g_callVi (C := RX5) (As := [.int _]) B dX5_has_2 (gc1 g_X5_105) (by rfl) ⟨rfl, hd_X5_isUser⟩ (by exact ⟨Nat.le_of_ble_eq_true rfl, Nat.le_of_ble_eq_true rfl⟩) ⟨rfl, rfl⟩ rfl rfl (by exact Nat.le_of_ble_eq_true rfl) recv5 (x_isUser hm6 hX.hm ?_)
  refine g_if_eq (tgt := 15) B dX5_has_5 (by decide) (fun c5 => ?_) (fun c5 => ?_)
  · refine g_ldc (v := (-100000)) B dX5_has_15 (mq k_X5_149) ?_
    refine g_ireti B dX5_has_17 ?_
    first
      | (refine kk ?_ (hK _ p1)
         unfold fHas
         rw [if_pos ⟨h1, h2⟩, i_cl (by omega), i_cl (by omega)]
         rw [hX.2.2.1.1, hX.2.2.1.2 t ht, hx.1.1, hx.1.2.1, hx.1.2.2]
         rfl)
      | (refine kk ?_ (hK _ pkz.rf)
         unfold fHas
         rw [if_neg (fun h => b1_0.mp c12 h.2)])
      | (refine kk ?_ (hK _ pkz.rf)
         unfold fHas
         rw [if_neg (fun h => b1_0.mp c5 h.1)])
  · refine g_iload_n B dX5_has_8 rfl ?_
    refine g_callSi (As := [.int _]) B dX5_has_9 (gc1 g_X5_98) (by rfl) hd_X5_isNight (by exact ⟨Nat.le_of_ble_eq_true rfl, Nat.le_of_ble_eq_true rfl⟩) ⟨rfl, rfl⟩ rfl rfl (by exact Nat.le_of_ble_eq_true rfl) (x_isNight ?_)
    refine g_if_ne (tgt := 18) B dX5_has_12 (by decide) (fun c12 => ?_) (fun c12 => ?_)
    · have h1 := b1_n0.mp c5
      have h2 := b1_n0.mp c12
      obtain ⟨u, hu, rfl⟩ := i_nat h1.1 h1.2
      obtain ⟨t, ht, rfl⟩ := i_nat (n := 30) h2.1 (by omega)
      obtain ⟨r, hr, hT⟩ := hX.2.1
      have hU : UO (u + 20) := UO.u (by omega)
      have hx := hX.2.2.2.2 u hu
      refine g_aload_n B dX5_has_18 rfl ?_
      refine g_aload_n B dX5_has_19 rfl ?_
      refine g_getR (T := TX5) (N := 16) B dX5_has_20 (by decide) (by rfl) (inq inlX5) rfl 2 (by decide) (mq f_X5_19) (by rfl) ?_
      refine g_iload_n B dX5_has_23 rfl ?_
      refine g_aald B dX5_has_24 (by decide) (by rfl) (by exact vp_in_nI (by omega) (by omega)) ?_
      rw [i_cl (show u < 2147483648 by omega)]
      refine g_aload_n B dX5_has_25 rfl ?_
      refine g_aload_n B dX5_has_26 rfl ?_
      refine g_getI (T := TX5) (N := 16) B dX5_has_27 (by decide) (by rfl) (inq inlX5) rfl 8 (by decide) (mq f_X5_47) (by rfl) ?_
      refine g_callVr (C := RX5) (As := [.int _]) B dX5_has_30 (gc1 g_X5_150) (by rfl) ⟨rfl, hd_X5_textAt⟩ (by exact ⟨Nat.le_of_ble_eq_true rfl, Nat.le_of_ble_eq_true rfl⟩) ⟨rfl, rfl⟩ rfl rfl (by exact Nat.le_of_ble_eq_true rfl) recv5 (x_textAt hr hT.1 ?_)
      refine g_aload_n B dX5_has_33 rfl ?_
      refine g_getR (T := TX5) (N := 16) B dX5_has_34 (by decide) (by rfl) (inq inlX5) rfl 0 (by decide) (mq f_X5_9) (by rfl) ?_
      refine g_iload_n B dX5_has_37 rfl ?_
      refine g_aload_n B dX5_has_38 rfl ?_
      refine g_getI (T := TX5) (N := 16) B dX5_has_39 (by decide) (by rfl) (inq inlX5) rfl 1 (by decide) (mq f_X5_13) (by rfl) ?_
      refine g_iload_n B dX5_has_42 rfl ?_
      refine g_callSi (As := [.int _, .int _]) B dX5_has_43 (gc1 g_X5_130) (by rfl) hd_X5_townOf (by exact ⟨Nat.le_of_ble_eq_true rfl, Nat.le_of_ble_eq_true rfl⟩) ⟨rfl, rfl⟩ rfl rfl (by exact Nat.le_of_ble_eq_true rfl) (x_townOf (t := t) rfl (by omega) ?_)
      refine g_aload_n B dX5_has_46 rfl ?_
      refine g_getI (T := TX5) (N := 16) B dX5_has_47 (by decide) (by rfl) (inq inlX5) rfl 1 (by decide) (mq f_X5_13) (by rfl) ?_
      refine g_iload_n B dX5_has_50 rfl ?_
      refine g_callSi (As := [.int _, .int _]) B dX5_has_51 (gc1 g_X5_127) (by rfl) hd_X5_runOf (by exact ⟨Nat.le_of_ble_eq_true rfl, Nat.le_of_ble_eq_true rfl⟩) ⟨rfl, rfl⟩ rfl rfl (by exact Nat.le_of_ble_eq_true rfl) (x_runOf (t := t) rfl ht ?_)
      refine g_callVi (C := RX5) (As := [.ref _, .ref _, .ref _, .int _, .int _, .int _]) B dX5_has_54 (gc1 g_X5_154) (by rfl) ⟨rfl, hd_X5_hasAt⟩ (by exact ⟨Nat.le_of_ble_eq_true rfl, Nat.le_of_ble_eq_true rfl⟩) ⟨rfl, rfl⟩ rfl rfl (by exact Nat.le_of_ble_eq_true rfl) recv5 (x_hasAt (t := t) hU hT hX.1 rfl ht hx.2 (fun τ1 p1 => ?_))
      refine g_ireti B dX5_has_57 ?_
      first
        | (refine kk ?_ (hK _ p1)
           unfold fHas
           rw [if_pos ⟨h1, h2⟩, i_cl (by omega), i_cl (by omega)]
           rw [hX.2.2.1.1, hX.2.2.1.2 t ht, hx.1.1, hx.1.2.1, hx.1.2.2]
           rfl)
        | (refine kk ?_ (hK _ pkz.rf)
           unfold fHas
           rw [if_neg (fun h => b1_0.mp c12 h.2)])
        | (refine kk ?_ (hK _ pkz.rf)
           unfold fHas
           rw [if_neg (fun h => b1_0.mp c5 h.1)])
    · refine g_ldc (v := (-100000)) B dX5_has_15 (mq k_X5_149) ?_
      refine g_ireti B dX5_has_17 ?_
      first
        | (refine kk ?_ (hK _ p1)
           unfold fHas
           rw [if_pos ⟨h1, h2⟩, i_cl (by omega), i_cl (by omega)]
           rw [hX.2.2.1.1, hX.2.2.1.2 t ht, hx.1.1, hx.1.2.1, hx.1.2.2]
           rfl)
        | (refine kk ?_ (hK _ pkz.rf)
           unfold fHas
           rw [if_neg (fun h => b1_0.mp c12 h.2)])
        | (refine kk ?_ (hK _ pkz.rf)
           unfold fHas
           rw [if_neg (fun h => b1_0.mp c5 h.1)])
set_option maxRecDepth 100000 in
set_option maxHeartbeats 4000000 in
theorem x_worth {Z : LZ} {ad : Nat → Nat} {τ : St} {K : Int32 → St → Prop} {x : Int32} {m : Nat} {V : VW} (hX : XV τ 1 V m) (hK : ∀ τ', pkz [2, 3] [] τ τ' → K (fWorth V (τ.1 0 1) x) τ') : CC lyX Z ad yX5_worth wsX5_worth (rmk 5) [.ref (ad 0), .int x] τ (rI K) := by
  refine CC.of (cc := cX5_worth) (nL := 2) (ret := (some .int)) rfl rfl ⟨rfl, rfl⟩ (by exact Nat.le_of_ble_eq_true rfl) ?_
  intro X B
  change GG _ _ _ _ X _ 0 [some (.ref (ad 0)), some (.int x)] [] _
  change Amb _ _ _ _ X _ _ RX5 _ _ at B
  refine g_iload_n B dX5_worth_0 rfl ?_
  refine g_if_lt (tgt := 9) B dX5_worth_1 (by decide) (fun c1 => ?_) (fun c1 => ?_)
  · refine g_ldc (v := (-1000000)) B dX5_worth_9 (mq k_X5_158) ?_
    refine g_ireti B dX5_worth_11 ?_
    first
      | (refine kk ?_ (hK _ p1)
         unfold fWorth
         rw [if_pos ⟨i_le.mp (Int32.not_lt.mp c1), i_le.mp c6⟩])
      | (refine kk ?_ (hK _ pkz.rf)
         unfold fWorth
         rw [if_neg (fun z => by first | exact c6 (i_le.mpr z.2) | exact absurd (i_lt.mp c1) (by rw [i0]; omega))])
  · refine g_iload_n B dX5_worth_4 rfl ?_
    refine g_iconst (v := (2)) B dX5_worth_5 (by decide) ?_
    refine g_icmp_le (tgt := 12) B dX5_worth_6 (by decide) (fun c6 => ?_) (fun c6 => ?_)
    · refine g_aload_n B dX5_worth_12 rfl ?_
      refine g_iload_n B dX5_worth_13 rfl ?_
      refine g_aload_n B dX5_worth_14 rfl ?_
      refine g_getR (T := TX5) (N := 16) B dX5_worth_15 (by decide) (by rfl) (inq inlX5) rfl 0 (by decide) (mq f_X5_9) (by rfl) ?_
      refine g_aload_n B dX5_worth_18 rfl ?_
      refine g_getI (T := TX5) (N := 16) B dX5_worth_19 (by decide) (by rfl) (inq inlX5) rfl 1 (by decide) (mq f_X5_13) (by rfl) ?_
      refine g_callVi (C := RX5) (As := [.int _, .ref _, .int _]) B dX5_worth_22 (gc1 g_X5_159) (by rfl) ⟨rfl, hd_X5_worthOf⟩ (by exact ⟨Nat.le_of_ble_eq_true rfl, Nat.le_of_ble_eq_true rfl⟩) ⟨rfl, rfl⟩ rfl rfl (by exact Nat.le_of_ble_eq_true rfl) recv5 (x_worthOf hX (fun τ1 p1 => ?_))
      refine g_ireti B dX5_worth_25 ?_
      first
        | (refine kk ?_ (hK _ p1)
           unfold fWorth
           rw [if_pos ⟨i_le.mp (Int32.not_lt.mp c1), i_le.mp c6⟩])
        | (refine kk ?_ (hK _ pkz.rf)
           unfold fWorth
           rw [if_neg (fun z => by first | exact c6 (i_le.mpr z.2) | exact absurd (i_lt.mp c1) (by rw [i0]; omega))])
    · refine g_ldc (v := (-1000000)) B dX5_worth_9 (mq k_X5_158) ?_
      refine g_ireti B dX5_worth_11 ?_
      first
        | (refine kk ?_ (hK _ p1)
           unfold fWorth
           rw [if_pos ⟨i_le.mp (Int32.not_lt.mp c1), i_le.mp c6⟩])
        | (refine kk ?_ (hK _ pkz.rf)
           unfold fWorth
           rw [if_neg (fun z => by first | exact c6 (i_le.mpr z.2) | exact absurd (i_lt.mp c1) (by rw [i0]; omega))])
set_option maxRecDepth 100000 in
set_option maxHeartbeats 4000000 in
theorem lx_first {Z : LZ} {ad : Nat → Nat} {X : CX} {K : Int32 → St → Prop} {τ0 : St} {m : Nat} {V : VW} (B : Amb lyX Z ad (rmk 5) X cX5_firstTooLong wsX5_firstTooLong RX5 3 (some .int)) (hX : XV τ0 1 V m) : ∀ (k i : Nat) (τ : St), i + k = 30 → pkz [2, 3] [] τ0 τ → (∀ τ', pkz [2, 3] [] τ0 τ' → K (fsI (tooP V (τ0.1 0 1)) (tooD V (τ0.1 0 1)) k i) τ') → GG lyX Z ad (rmk 5) X (rI K) 4 [some (.ref (ad 0)), some (.int (sR0 (τ0.1 0 1) i)), some (.int (nI i))] [] τ := by
  intro k
  induction k using Nat.strongRecOn with
  | ind k ih =>
    intro i τ h1 hp hK
    have hX' := hX.pz hp okC23 (by decide) (by decide)
    have hs : τ.1 0 1 = τ0.1 0 1 := hp.2.1 1 (by decide)
    refine g_iload_n B dX5_firstTooLong_4 rfl ?_
    refine g_bipush (v := (30)) B dX5_firstTooLong_5 (by decide) ?_
    refine g_icmp_ge (tgt := 45) B dX5_firstTooLong_7 (by decide) (fun c7 => ?_) (fun c7 => ?_)
    · refine g_iconst (v := (-1)) B dX5_firstTooLong_45 (by decide) ?_
      refine g_ireti B dX5_firstTooLong_46 ?_
      first
        | (have := hK τ1 (hp.trans p1)
           rw [if_pos (show tooP V (τ0.1 0 1) i from c34)] at this
           exact this)
        | (rw [show (30 : Int32) = nI 30 from rfl, nI_leI (by omega) (by omega)] at c7
           have e : k = 0 := by omega
           subst e
           exact hK τ hp)
    · rw [show (30 : Int32) = nI 30 from rfl, nI_leI (by omega) (by omega)] at c7
      obtain ⟨k', rfl⟩ : ∃ k', k = k' + 1 := ⟨k - 1, by omega⟩
      unfold fsI at hK
      obtain ⟨r, hr, hT⟩ := hX'.2.1
      refine g_aload_n B dX5_firstTooLong_10 rfl ?_
      refine g_getI (T := TX5) (N := 16) B dX5_firstTooLong_11 (by decide) (by rfl) (inq inlX5) rfl 1 (by decide) (mq f_X5_13) (by rfl) ?_
      rw [hs]
      refine g_iload_n B dX5_firstTooLong_14 rfl ?_
      refine g_iload_n B dX5_firstTooLong_15 rfl ?_
      refine g_callSi (As := [.int _, .int _, .int _]) B dX5_firstTooLong_16 (gc1 g_X5_185) (by rfl) hd_X5_runBehind (by exact ⟨Nat.le_of_ble_eq_true rfl, Nat.le_of_ble_eq_true rfl⟩) ⟨rfl, rfl⟩ rfl rfl (by exact Nat.le_of_ble_eq_true rfl) (x_runBehind (t := i) rfl (by omega) rfl ?_)
      refine g_istore_n B dX5_firstTooLong_19 (by decide) rfl ?_
      refine g_iload_n B dX5_firstTooLong_20 rfl ?_
      refine g_aload_n B dX5_firstTooLong_21 rfl ?_
      refine g_iload_n B dX5_firstTooLong_22 rfl ?_
      refine g_aload_n B dX5_firstTooLong_23 rfl ?_
      refine g_getI (T := TX5) (N := 16) B dX5_firstTooLong_24 (by decide) (by rfl) (inq inlX5) rfl 1 (by decide) (mq f_X5_13) (by rfl) ?_
      rw [hs]
      refine g_iload_n B dX5_firstTooLong_27 rfl ?_
      refine g_callSi (As := [.int _, .int _]) B dX5_firstTooLong_28 (gc1 g_X5_130) (by rfl) hd_X5_townOf (by exact ⟨Nat.le_of_ble_eq_true rfl, Nat.le_of_ble_eq_true rfl⟩) ⟨rfl, rfl⟩ rfl rfl (by exact Nat.le_of_ble_eq_true rfl) (x_townOf (t := i) rfl (by omega) ?_)
      refine g_callVi (C := RX5) (As := [.int _, .int _]) B dX5_firstTooLong_31 (gc1 g_X5_133) (by rfl) ⟨rfl, hd_X5_mostOf⟩ (by exact ⟨Nat.le_of_ble_eq_true rfl, Nat.le_of_ble_eq_true rfl⟩) ⟨rfl, rfl⟩ rfl rfl (by exact Nat.le_of_ble_eq_true rfl) recv5 (x_mostOf (t := i) hr hT rfl (by omega) (fun τ1 p1 => ?_))
      rw [hX'.2.2.1.1, hX'.2.2.1.2 i (by omega)]
      refine g_icmp_le (tgt := 39) B dX5_firstTooLong_34 (by decide) (fun c34 => ?_) (fun c34 => ?_)
      · refine g_iinc (c9 := (1)) B dX5_firstTooLong_39 rfl (by decide) (by decide) rfl ?_
        refine g_goto (tgt := 4) B dX5_firstTooLong_42 (by decide) ?_
        rw [nI_1 i]
        refine ih k' (by omega) (i + 1) τ1 (by omega) (hp.trans p1) (fun τ' p => ?_)
        have := hK τ' p
        rw [if_neg (show ¬ tooP V (τ0.1 0 1) i from fun z => z c34)] at this
        exact this
      · refine g_iload_n B dX5_firstTooLong_37 rfl ?_
        refine g_ireti B dX5_firstTooLong_38 ?_
        first
          | (have := hK τ1 (hp.trans p1)
             rw [if_pos (show tooP V (τ0.1 0 1) i from c34)] at this
             exact this)
          | (rw [show (30 : Int32) = nI 30 from rfl, nI_leI (by omega) (by omega)] at c7
             have e : k = 0 := by omega
             subst e
             exact hK τ hp)
set_option maxRecDepth 100000 in
set_option maxHeartbeats 4000000 in
theorem x_first {Z : LZ} {ad : Nat → Nat} {τ : St} {K : Int32 → St → Prop} {m : Nat} {V : VW} (hX : XV τ 1 V m) (hK : ∀ τ', pkz [2, 3] [] τ τ' → K (sToo V (τ.1 0 1)) τ') : CC lyX Z ad yX5_firstTooLong wsX5_firstTooLong (rmk 5) [.ref (ad 0)] τ (rI K) := by
  refine CC.of (cc := cX5_firstTooLong) (nL := 3) (ret := (some .int)) rfl rfl ⟨rfl, rfl⟩ (by exact Nat.le_of_ble_eq_true rfl) ?_
  intro X B
  change GG _ _ _ _ X _ 0 [some (.ref (ad 0)), none, none] [] _
  change Amb _ _ _ _ X _ _ RX5 _ _ at B
  refine g_iconst (v := (0)) B dX5_firstTooLong_0 (by decide) ?_
  refine g_istore_n B dX5_firstTooLong_1 (by decide) rfl ?_
  refine g_iconst (v := (0)) B dX5_firstTooLong_2 (by decide) ?_
  refine g_istore_n B dX5_firstTooLong_3 (by decide) rfl ?_
  exact lx_first B hX 30 0 τ rfl pkz.rf hK
theorem mx_le {a b : Int32} : (if a < b then b else a) = if b ≤ a then a else b := by
  by_cases h : b ≤ a
  · rw [if_pos h, if_neg (Int32.not_lt.mpr h)]
  · rw [if_neg h, if_pos (Int32.not_le.mp h)]
set_option maxRecDepth 100000 in
set_option maxHeartbeats 4000000 in
theorem lx_long {Z : LZ} {ad : Nat → Nat} {X : CX} {K : Int32 → St → Prop} {τ : St} (B : Amb lyX Z ad (rmk 3) X cX5_longest wsX5_longest RX5 4 (some .int)) (hK : K (sLong (τ.1 0 1) 30) τ) : ∀ (n i : Nat), i ≤ 30 → 30 - i < n → GG lyX Z ad (rmk 3) X (rI K) 6 [some (.ref (ad 0)), some (.int (sR0 (τ.1 0 1) i)), some (.int (sLong (τ.1 0 1) i)), some (.int (nI i))] [] τ := by
  intro n
  induction n with
  | zero => intro i _ h; omega
  | succ n ih =>
    intro i h1 h2
    refine g_iload_n B dX5_longest_6 rfl ?_
    refine g_bipush (v := (30)) B dX5_longest_7 (by decide) ?_
    refine g_icmp_ge (tgt := 34) B dX5_longest_9 (by decide) (fun c9 => ?_) (fun c9 => ?_)
    · refine g_iload_n B dX5_longest_34 rfl ?_
      refine g_ireti B dX5_longest_35 ?_
      rw [show (30 : Int32) = nI 30 from rfl, nI_leI (by omega) (by omega)] at c9
      have e : i = 30 := by omega
      subst e
      exact hK
    · rw [show (30 : Int32) = nI 30 from rfl, nI_leI (by omega) (by omega)] at c9
      refine g_aload_n B dX5_longest_12 rfl ?_
      refine g_getI (T := TX5) (N := 16) B dX5_longest_13 (by decide) (by rfl) (inq inlX5) rfl 1 (by decide) (mq f_X5_13) (by rfl) ?_
      refine g_iload_n B dX5_longest_16 rfl ?_
      refine g_iload_n B dX5_longest_17 rfl ?_
      refine g_callSi (As := [.int _, .int _, .int _]) B dX5_longest_18 (gc1 g_X5_185) (by rfl) hd_X5_runBehind (by exact ⟨Nat.le_of_ble_eq_true rfl, Nat.le_of_ble_eq_true rfl⟩) ⟨rfl, rfl⟩ rfl rfl (by exact Nat.le_of_ble_eq_true rfl) (x_runBehind (t := i) rfl (by omega) rfl ?_)
      refine g_istore_n B dX5_longest_21 (by decide) rfl ?_
      refine g_iload_n B dX5_longest_22 rfl ?_
      refine g_iload_n B dX5_longest_23 rfl ?_
      refine g_mmax B dX5_longest_24 ⟨mq m_X5_189.1, mq m_X5_189.2.1, mq m_X5_189.2.2.1, mq m_X5_189.2.2.2⟩ (by exact ⟨Nat.le_of_ble_eq_true rfl, Nat.le_of_ble_eq_true rfl⟩) ?_
      refine g_istore_n B dX5_longest_27 (by decide) rfl ?_
      refine g_iinc (c9 := (1)) B dX5_longest_28 rfl (by decide) (by decide) rfl ?_
      refine g_goto (tgt := 6) B dX5_longest_31 (by decide) ?_
      rw [nI_1 i, mx_le]
      exact ih (i + 1) (by omega) (by omega)
set_option maxRecDepth 100000 in
set_option maxHeartbeats 4000000 in
theorem x_long {Z : LZ} {ad : Nat → Nat} {τ : St} {K : Int32 → St → Prop} (hK : K (sLong (τ.1 0 1) 30) τ) : CC lyX Z ad yX5_longest wsX5_longest (rmk 3) [.ref (ad 0)] τ (rI K) := by
  refine CC.of (cc := cX5_longest) (nL := 4) (ret := (some .int)) rfl rfl ⟨rfl, rfl⟩ (by exact Nat.le_of_ble_eq_true rfl) ?_
  intro X B
  change GG _ _ _ _ X _ 0 [some (.ref (ad 0)), none, none, none] [] _
  change Amb _ _ _ _ X _ _ RX5 _ _ at B
  refine g_iconst (v := (0)) B dX5_longest_0 (by decide) ?_
  refine g_istore_n B dX5_longest_1 (by decide) rfl ?_
  refine g_iconst (v := (0)) B dX5_longest_2 (by decide) ?_
  refine g_istore_n B dX5_longest_3 (by decide) rfl ?_
  refine g_iconst (v := (0)) B dX5_longest_4 (by decide) ?_
  refine g_istore_n B dX5_longest_5 (by decide) rfl ?_
  exact lx_long B hK 40 0 (by omega) (by omega)

