/-! the program: a text's value, a user's share of a night *program* -/
/-- text k of the program has these codes -/
def TXX (τ : St) (k : Nat) (C : TC) : Prop := k < 6 ∧ (CD (τ.1 (k + 32)) 0 C.1 ∧ CD (τ.1 (k + 32)) C.1.length C.2.1 ∧ CD (τ.1 (k + 32)) (C.1.length + C.2.1.length) C.2.2) ∧ (τ.1 (k + 38) 0 = nI C.1.length ∧ τ.1 (k + 38) 1 = nI (C.1.length + C.2.1.length) ∧ τ.1 (k + 38) 2 = nI (C.1.length + C.2.1.length + C.2.2.length)) ∧ C.1.length + C.2.1.length + C.2.2.length ≤ 160 ∧ TCok C
theorem TXX.eq {τ τ' : St} {k : Nat} {C : TC} (h : TXX τ k C) (h1 : τ'.1 (k + 32) = τ.1 (k + 32)) (h2 : τ'.1 (k + 38) = τ.1 (k + 38)) : TXX τ' k C := by
  unfold TXX at h ⊢
  rw [h1, h2]
  exact h
theorem TXX.pz {cs ks : List Nat} {τ τ' : St} {k : Nat} {C : TC} (h : TXX τ k C) (hp : pkz cs ks τ τ') (hc : ∀ o, o ∈ cs → o < 32) : TXX τ' k C :=
  h.eq (hp.1 _ (by omega) (fun q => by have := hc _ q; omega)) (hp.1 _ (by omega) (fun q => by have := hc _ q; omega))
theorem TXX.part {τ : St} {k : Nat} {C : TC} {w : Int32} (h : TXX τ k C) (hw : w = 0 ∨ w = 1 ∨ w = 2) : ∃ (s e : Nat) (ds : List Int32), (w ≤ 0 → s = 0) ∧ (¬ w ≤ 0 → vp_in (w - 1) 3 ∧ τ.1 (k + 38) (w - 1).toNatClampNeg = nI s) ∧ (¬ w < 0 ∧ ¬ 3 ≤ w ∧ vp_in w 3 ∧ τ.1 (k + 38) w.toNatClampNeg = nI e) ∧ s + ds.length = e ∧ e ≤ 160 ∧ CD (τ.1 (k + 32)) s ds ∧ htS ds 0 = some 1 ∧ ds = sPart C w := by
  obtain ⟨hk, ⟨d1, d2, d3⟩, ⟨e1, e2, e3⟩, hl, ⟨t1, t2, t3⟩⟩ := h
  rcases hw with e | e | e <;> subst e
  · exact ⟨0, C.1.length, C.1, fun _ => rfl, fun q => absurd (by decide) q, ⟨by decide, by decide, i_vp (by decide) (by decide), e1⟩, by omega, by omega, d1, t1, rfl⟩
  · exact ⟨C.1.length, C.1.length + C.2.1.length, C.2.1, fun q => absurd q (by decide), fun _ => ⟨i_vp (by decide) (by decide), e1⟩, ⟨by decide, by decide, i_vp (by decide) (by decide), e2⟩, by omega, by omega, d2, t2, rfl⟩
  · exact ⟨C.1.length + C.2.1.length, C.1.length + C.2.1.length + C.2.2.length, C.2.2, fun q => absurd q (by decide), fun _ => ⟨i_vp (by decide) (by decide), e2⟩, ⟨by decide, by decide, i_vp (by decide) (by decide), e3⟩, by omega, by omega, d3, t3, rfl⟩
set_option maxRecDepth 100000 in
set_option maxHeartbeats 4000000 in
theorem x_valueOf {Z : LZ} {ad : Nat → Nat} {τ : St} {K : Int32 → St → Prop} {k : Nat} {w : Int32} {C : TC} (hT : TXX τ k C) (hw : w = 0 ∨ w = 1 ∨ w = 2) (hK : ∀ τ', pkz [3] [] τ τ' → K (evc (envX τ) (sPart C w)) τ') : CC lyX Z ad yX3_valueOf wsX3_valueOf (rmk 1) [.ref (ad (k + 26)), .int w, .ref (ad 2), .ref (ad 3)] τ (rI K) := by
  refine CC.of (cc := cX3_valueOf) (nL := 10) (ret := (some .int)) rfl rfl ⟨rfl, rfl⟩ (by exact Nat.le_of_ble_eq_true rfl) ?_
  intro X B
  change GG _ _ _ _ X _ 0 [some (.ref (ad (k + 26))), some (.int w), some (.ref (ad 2)), some (.ref (ad 3)), none, none, none, none, none, none] [] _
  change Amb _ _ _ _ X _ _ RX3 _ _ at B
  obtain ⟨s, e, ds, h0, h1, ⟨h2, h3, h4, h5⟩, h6, h7, h8, h9, h10⟩ := hT.part hw
  have hk := hT.1
  refine g_iload_n B dX3_valueOf_0 rfl ?_
  refine g_if_le (tgt := 20) B dX3_valueOf_1 (by decide) (fun c1 => ?_) (fun c1 => ?_)
  · refine g_iconst (v := (0)) B dX3_valueOf_20 (by decide) ?_
    refine g_istore B dX3_valueOf_21 (by decide) rfl ?_
    refine g_iload_n B dX3_valueOf_23 rfl ?_
    refine g_if_lt (tgt := 41) B dX3_valueOf_24 (by decide) (fun c24 => ?_) (fun c24 => ?_)
    · exact absurd c24 h2
    · refine g_iload_n B dX3_valueOf_27 rfl ?_
      refine g_iconst (v := (3)) B dX3_valueOf_28 (by decide) ?_
      refine g_icmp_ge (tgt := 41) B dX3_valueOf_29 (by decide) (fun c29 => ?_) (fun c29 => ?_)
      · exact absurd c29 h3
      · refine g_aload_n B dX3_valueOf_32 rfl ?_
        refine g_getR (T := TX3) (N := 3) B dX3_valueOf_33 (hX (by omega)) (lo_t hk) (inq inlX3) rfl 1 (by decide) (mq f_X3_15) (by rfl) ?_
        refine g_iload_n B dX3_valueOf_36 rfl ?_
        refine g_iald B dX3_valueOf_37 (hX (by omega)) (lo_e hk) (by exact h4) ?_
        rw [h5]
        refine g_goto (tgt := 42) B dX3_valueOf_38 (by decide) ?_
        refine g_istore B dX3_valueOf_42 (by decide) rfl ?_
        refine g_iconst (v := (0)) B dX3_valueOf_44 (by decide) ?_
        refine g_istore B dX3_valueOf_45 (by decide) rfl ?_
        refine g_iload B dX3_valueOf_47 rfl ?_
        refine g_istore B dX3_valueOf_49 (by decide) rfl ?_
        first
          | (have e0 := h0 c1
             subst e0
             show GG lyX Z ad (rmk 1) X (rI K) 51 [some (.ref (ad (k + 26))), some (.int w), some (.ref (ad 2)), some (.ref (ad 3)), some (.int 0), some (.int (nI e)), some (.int (nI ([] : List Int32).length)), some (.int (nI 0)), none, none] [] τ
             exact l_valueOf B hk h7 ds 0 [] τ h6 h8 trivial (by decide) h9 pkz.rf (fun τ' p => by have := hK τ' p; rw [← h10] at this; exact this))
          | (show GG lyX Z ad (rmk 1) X (rI K) 51 [some (.ref (ad (k + 26))), some (.int w), some (.ref (ad 2)), some (.ref (ad 3)), some (.int (nI s)), some (.int (nI e)), some (.int (nI ([] : List Int32).length)), some (.int (nI s)), none, none] [] τ
             exact l_valueOf B hk h7 ds s [] τ h6 h8 trivial (by decide) h9 pkz.rf (fun τ' p => by have := hK τ' p; rw [← h10] at this; exact this))
  · refine g_iload_n B dX3_valueOf_4 rfl ?_
    refine g_iconst (v := (3)) B dX3_valueOf_5 (by decide) ?_
    refine g_icmp_ge (tgt := 20) B dX3_valueOf_6 (by decide) (fun c6 => ?_) (fun c6 => ?_)
    · exact absurd c6 h3
    · refine g_aload_n B dX3_valueOf_9 rfl ?_
      refine g_getR (T := TX3) (N := 3) B dX3_valueOf_10 (hX (by omega)) (lo_t hk) (inq inlX3) rfl 1 (by decide) (mq f_X3_15) (by rfl) ?_
      refine g_iload_n B dX3_valueOf_13 rfl ?_
      refine g_iconst (v := (1)) B dX3_valueOf_14 (by decide) ?_
      refine g_isub B dX3_valueOf_15 ?_
      refine g_iald B dX3_valueOf_16 (hX (by omega)) (lo_e hk) (by exact (h1 c1).1) ?_
      rw [(h1 c1).2]
      refine g_goto (tgt := 21) B dX3_valueOf_17 (by decide) ?_
      refine g_istore B dX3_valueOf_21 (by decide) rfl ?_
      refine g_iload_n B dX3_valueOf_23 rfl ?_
      refine g_if_lt (tgt := 41) B dX3_valueOf_24 (by decide) (fun c24 => ?_) (fun c24 => ?_)
      · exact absurd c24 h2
      · refine g_iload_n B dX3_valueOf_27 rfl ?_
        refine g_iconst (v := (3)) B dX3_valueOf_28 (by decide) ?_
        refine g_icmp_ge (tgt := 41) B dX3_valueOf_29 (by decide) (fun c29 => ?_) (fun c29 => ?_)
        · exact absurd c29 h3
        · refine g_aload_n B dX3_valueOf_32 rfl ?_
          refine g_getR (T := TX3) (N := 3) B dX3_valueOf_33 (hX (by omega)) (lo_t hk) (inq inlX3) rfl 1 (by decide) (mq f_X3_15) (by rfl) ?_
          refine g_iload_n B dX3_valueOf_36 rfl ?_
          refine g_iald B dX3_valueOf_37 (hX (by omega)) (lo_e hk) (by exact h4) ?_
          rw [h5]
          refine g_goto (tgt := 42) B dX3_valueOf_38 (by decide) ?_
          refine g_istore B dX3_valueOf_42 (by decide) rfl ?_
          refine g_iconst (v := (0)) B dX3_valueOf_44 (by decide) ?_
          refine g_istore B dX3_valueOf_45 (by decide) rfl ?_
          refine g_iload B dX3_valueOf_47 rfl ?_
          refine g_istore B dX3_valueOf_49 (by decide) rfl ?_
          first
            | (have e0 := h0 c1
               subst e0
               show GG lyX Z ad (rmk 1) X (rI K) 51 [some (.ref (ad (k + 26))), some (.int w), some (.ref (ad 2)), some (.ref (ad 3)), some (.int 0), some (.int (nI e)), some (.int (nI ([] : List Int32).length)), some (.int (nI 0)), none, none] [] τ
               exact l_valueOf B hk h7 ds 0 [] τ h6 h8 trivial (by decide) h9 pkz.rf (fun τ' p => by have := hK τ' p; rw [← h10] at this; exact this))
            | (show GG lyX Z ad (rmk 1) X (rI K) 51 [some (.ref (ad (k + 26))), some (.int w), some (.ref (ad 2)), some (.ref (ad 3)), some (.int (nI s)), some (.int (nI e)), some (.int (nI ([] : List Int32).length)), some (.int (nI s)), none, none] [] τ
               exact l_valueOf B hk h7 ds s [] τ h6 h8 trivial (by decide) h9 pkz.rf (fun τ' p => by have := hK τ' p; rw [← h10] at this; exact this))
/-- a user's cell -/
def UO (o : Nat) : Prop := o = 12 ∨ ∃ u, u < 6 ∧ o = u + 20
theorem UO.lt {o : Nat} (h : UO o) : o < lyX.2 := by
  rcases h with h | ⟨u, hu, h⟩
  · subst h; decide
  · subst h; exact hX (by omega)
theorem UO.lo {o : Nat} (h : UO o) : lyX.1 o = .inl (4, [0, 0, 0]) := by
  rcases h with h | ⟨u, hu, h⟩
  · subst h; rfl
  · subst h; exact lo_u hu
theorem UO.recv {o : Nat} (h : UO o) : ∃ (ci : Nat) (r : vw_C) (ks : List Nat), o < lyX.2 ∧ lyX.1 o = .inl (ci, ks) ∧ vwCl[ci]? = some r ∧ r.1 = RX4 := ⟨4, (RX4, TX4, 3), [0, 0, 0], h.lt, h.lo, rfl, rfl⟩
theorem UO.u {u : Nat} (h : u < 6) : UO (u + 20) := Or.inr ⟨u, h, rfl⟩
theorem UO.z {o : Nat} (h : UO o) : o ≠ 0 ∧ (o = 12 ∨ 20 ≤ o) := by
  rcases h with h | ⟨u, hu, h⟩ <;> omega
/-- a row of colds -/
def WO (w : Nat) : Prop := w = 1 ∨ w = 4
theorem WO.lt {w : Nat} (h : WO w) : w < lyX.2 := by
  rcases h with h | h <;> subst h <;> decide
theorem WO.lo {w : Nat} (h : WO w) : lyX.1 w = .inr (.int, (30, none)) := by
  rcases h with h | h <;> subst h <;> rfl
def oWin (kind number v cold run : Int32) : Int32 :=
  if kind = 5 then -cold else if kind = 2 ∨ kind = 4 then (if cold ≤ 4 then 0 else if kind = 4 then -2 * v else -v) else if kind = 0 then v
  else if kind = 3 ∧ ¬ cold ≤ 6 then (if run ≤ 1 then v else 2 * v) + number else if run ≤ 1 then v else 2 * v
def oMil (kind number v : Int32) : Int32 := if kind = 1 then 0 else if kind = 3 then -number else if kind = 4 then v + number else if kind = 5 then v + 2 else v
theorem sHas_own {C : TC} {users kind number townU cold tw run : Int32} {t : Nat} (h : townU = tw) : sHas C users kind number townU cold t tw run = oWin kind number (sSay C 0 cold t number run tw users) cold run := by
  unfold sHas
  rw [if_pos h]
  rfl
theorem sHas_mil {C : TC} {users kind number townU cold tw run : Int32} {t : Nat} (h : ¬ townU = tw) : sHas C users kind number townU cold t tw run = oMil kind number (sSay C 1 cold t number run tw users) := by
  unfold sHas
  rw [if_neg h]
  rfl
theorem run2 {run : Int32} : run < 2 ↔ run ≤ 1 := by
  rw [i_lt, i_le, show (2 : Int32).toInt = 2 from rfl, show (1 : Int32).toInt = 1 from rfl]
  omega
theorem tm2 {v : Int32} : 2 * -v = -2 * v := by rw [Int32.mul_neg, Int32.neg_mul]
theorem kd0 {x : Int32} (h : 0 ≤ x.toInt ∧ x.toInt ≤ 5) (h2 : x.toInt < 1 ∨ 5 < x.toInt) : x = 0 := by
  rw [i_eq, i0]
  omega
set_option maxRecDepth 100000 in
set_option maxHeartbeats 4000000 in
theorem x_ofWinter {Z : LZ} {ad : Nat → Nat} {τ : St} {K : Int32 → St → Prop} {o : Nat} {v cold run : Int32} (hU : UO o) (hk : 0 ≤ (τ.1 o 0).toInt ∧ (τ.1 o 0).toInt ≤ 5) (hK : K (oWin (τ.1 o 0) (τ.1 o 1) v cold run) τ) : CC lyX Z ad yX4_ofWinter wsX4_ofWinter (rmk 0) [.ref (ad o), .int v, .int cold, .int run] τ (rI K) := by
  refine CC.of (cc := cX4_ofWinter) (nL := 6) (ret := (some .int)) rfl rfl ⟨rfl, rfl⟩ (by exact Nat.le_of_ble_eq_true rfl) ?_
  intro X B
  change GG _ _ _ _ X _ 0 [some (.ref (ad o)), some (.int v), some (.int cold), some (.int run), none, none] [] _
  change Amb _ _ _ _ X _ _ RX4 _ _ at B
  generalize hkd : τ.1 o 0 = kind at hk hK
  refine g_iload_n B dX4_ofWinter_0 rfl ?_
  refine g_iconst (v := (2)) B dX4_ofWinter_1 (by decide) ?_
  refine g_icmp_lt (tgt := 11) B dX4_ofWinter_2 (by decide) (fun c2 => ?_) (fun c2 => ?_)
  · refine g_iload_n B dX4_ofWinter_11 rfl ?_
    refine g_istore B dX4_ofWinter_12 (by decide) rfl ?_
    refine g_iload_n B dX4_ofWinter_14 rfl ?_
    refine g_iconst (v := (4)) B dX4_ofWinter_15 (by decide) ?_
    refine g_icmp_le (tgt := 24) B dX4_ofWinter_16 (by decide) (fun c16 => ?_) (fun c16 => ?_)
    · refine g_iconst (v := (0)) B dX4_ofWinter_24 (by decide) ?_
      refine g_istore B dX4_ofWinter_25 (by decide) rfl ?_
      refine g_aload_n B dX4_ofWinter_27 rfl ?_
      refine g_getI (T := TX4) (N := 3) B dX4_ofWinter_28 (hU.lt) (hU.lo) (inq inlX4) rfl 0 (by decide) (mq f_X4_9) (by rfl) ?_
      rw [hkd]
      refine g_tsw (dt := 97) B dX4_ofWinter_31 (by decide) (by rfl) (by decide) (fun c31 => ?_) (And.intro (fun c31 => ?_) (And.intro (fun c31 => ?_) (And.intro (fun c31 => ?_) (And.intro (fun c31 => ?_) (And.intro (fun c31 => ?_) trivial)))))
      · refine g_iload_n B dX4_ofWinter_97 rfl ?_
        refine g_ireti B dX4_ofWinter_98 ?_
        refine kk ?_ hK
        clear hK B
        first
          | (have e := kd0 hk c31; subst e)
          | subst c31
        unfold oWin
        first
          | rfl
          | (rw [run2] at c2; simp [c2, c16, c73, tm2]; done)
          | (rw [run2] at c2; simp [c2, c16, tm2]; done)
          | (rw [run2] at c2; simp [c2, c16]; done)
      · change GG _ _ _ _ _ _ 64 _ _ _
        change _ = (1 : Int32) at c31
        refine g_iload B dX4_ofWinter_64 rfl ?_
        refine g_ireti B dX4_ofWinter_66 ?_
        refine kk ?_ hK
        clear hK B
        first
          | (have e := kd0 hk c31; subst e)
          | subst c31
        unfold oWin
        first
          | rfl
          | (rw [run2] at c2; simp [c2, c16, c73, tm2]; done)
          | (rw [run2] at c2; simp [c2, c16, tm2]; done)
          | (rw [run2] at c2; simp [c2, c16]; done)
      · change GG _ _ _ _ _ _ 67 _ _ _
        change _ = (2 : Int32) at c31
        refine g_iload B dX4_ofWinter_67 rfl ?_
        refine g_ireti B dX4_ofWinter_69 ?_
        refine kk ?_ hK
        clear hK B
        first
          | (have e := kd0 hk c31; subst e)
          | subst c31
        unfold oWin
        first
          | rfl
          | (rw [run2] at c2; simp [c2, c16, c73, tm2]; done)
          | (rw [run2] at c2; simp [c2, c16, tm2]; done)
          | (rw [run2] at c2; simp [c2, c16]; done)
      · change GG _ _ _ _ _ _ 70 _ _ _
        change _ = (3 : Int32) at c31
        refine g_iload_n B dX4_ofWinter_70 rfl ?_
        refine g_bipush (v := (6)) B dX4_ofWinter_71 (by decide) ?_
        refine g_icmp_le (tgt := 86) B dX4_ofWinter_73 (by decide) (fun c73 => ?_) (fun c73 => ?_)
        · refine g_iload B dX4_ofWinter_86 rfl ?_
          refine g_ireti B dX4_ofWinter_88 ?_
          refine kk ?_ hK
          clear hK B
          first
            | (have e := kd0 hk c31; subst e)
            | subst c31
          unfold oWin
          first
            | rfl
            | (rw [run2] at c2; simp [c2, c16, c73, tm2]; done)
            | (rw [run2] at c2; simp [c2, c16, tm2]; done)
            | (rw [run2] at c2; simp [c2, c16]; done)
        · refine g_iload B dX4_ofWinter_76 rfl ?_
          refine g_aload_n B dX4_ofWinter_78 rfl ?_
          refine g_getI (T := TX4) (N := 3) B dX4_ofWinter_79 (hU.lt) (hU.lo) (inq inlX4) rfl 1 (by decide) (mq f_X4_15) (by rfl) ?_
          refine g_iadd B dX4_ofWinter_82 ?_
          refine g_goto (tgt := 88) B dX4_ofWinter_83 (by decide) ?_
          refine g_ireti B dX4_ofWinter_88 ?_
          refine kk ?_ hK
          clear hK B
          first
            | (have e := kd0 hk c31; subst e)
            | subst c31
          unfold oWin
          first
            | rfl
            | (rw [run2] at c2; simp [c2, c16, c73, tm2]; done)
            | (rw [run2] at c2; simp [c2, c16, tm2]; done)
            | (rw [run2] at c2; simp [c2, c16]; done)
      · change GG _ _ _ _ _ _ 89 _ _ _
        change _ = (4 : Int32) at c31
        refine g_iconst (v := (2)) B dX4_ofWinter_89 (by decide) ?_
        refine g_iload B dX4_ofWinter_90 rfl ?_
        refine g_imul B dX4_ofWinter_92 ?_
        refine g_ireti B dX4_ofWinter_93 ?_
        refine kk ?_ hK
        clear hK B
        first
          | (have e := kd0 hk c31; subst e)
          | subst c31
        unfold oWin
        first
          | rfl
          | (rw [run2] at c2; simp [c2, c16, c73, tm2]; done)
          | (rw [run2] at c2; simp [c2, c16, tm2]; done)
          | (rw [run2] at c2; simp [c2, c16]; done)
      · change GG _ _ _ _ _ _ 94 _ _ _
        change _ = (5 : Int32) at c31
        refine g_iload_n B dX4_ofWinter_94 rfl ?_
        refine g_ineg B dX4_ofWinter_95 ?_
        refine g_ireti B dX4_ofWinter_96 ?_
        refine kk ?_ hK
        clear hK B
        first
          | (have e := kd0 hk c31; subst e)
          | subst c31
        unfold oWin
        first
          | rfl
          | (rw [run2] at c2; simp [c2, c16, c73, tm2]; done)
          | (rw [run2] at c2; simp [c2, c16, tm2]; done)
          | (rw [run2] at c2; simp [c2, c16]; done)
    · refine g_iload_n B dX4_ofWinter_19 rfl ?_
      refine g_ineg B dX4_ofWinter_20 ?_
      refine g_goto (tgt := 25) B dX4_ofWinter_21 (by decide) ?_
      refine g_istore B dX4_ofWinter_25 (by decide) rfl ?_
      refine g_aload_n B dX4_ofWinter_27 rfl ?_
      refine g_getI (T := TX4) (N := 3) B dX4_ofWinter_28 (hU.lt) (hU.lo) (inq inlX4) rfl 0 (by decide) (mq f_X4_9) (by rfl) ?_
      rw [hkd]
      refine g_tsw (dt := 97) B dX4_ofWinter_31 (by decide) (by rfl) (by decide) (fun c31 => ?_) (And.intro (fun c31 => ?_) (And.intro (fun c31 => ?_) (And.intro (fun c31 => ?_) (And.intro (fun c31 => ?_) (And.intro (fun c31 => ?_) trivial)))))
      · refine g_iload_n B dX4_ofWinter_97 rfl ?_
        refine g_ireti B dX4_ofWinter_98 ?_
        refine kk ?_ hK
        clear hK B
        first
          | (have e := kd0 hk c31; subst e)
          | subst c31
        unfold oWin
        first
          | rfl
          | (rw [run2] at c2; simp [c2, c16, c73, tm2]; done)
          | (rw [run2] at c2; simp [c2, c16, tm2]; done)
          | (rw [run2] at c2; simp [c2, c16]; done)
      · change GG _ _ _ _ _ _ 64 _ _ _
        change _ = (1 : Int32) at c31
        refine g_iload B dX4_ofWinter_64 rfl ?_
        refine g_ireti B dX4_ofWinter_66 ?_
        refine kk ?_ hK
        clear hK B
        first
          | (have e := kd0 hk c31; subst e)
          | subst c31
        unfold oWin
        first
          | rfl
          | (rw [run2] at c2; simp [c2, c16, c73, tm2]; done)
          | (rw [run2] at c2; simp [c2, c16, tm2]; done)
          | (rw [run2] at c2; simp [c2, c16]; done)
      · change GG _ _ _ _ _ _ 67 _ _ _
        change _ = (2 : Int32) at c31
        refine g_iload B dX4_ofWinter_67 rfl ?_
        refine g_ireti B dX4_ofWinter_69 ?_
        refine kk ?_ hK
        clear hK B
        first
          | (have e := kd0 hk c31; subst e)
          | subst c31
        unfold oWin
        first
          | rfl
          | (rw [run2] at c2; simp [c2, c16, c73, tm2]; done)
          | (rw [run2] at c2; simp [c2, c16, tm2]; done)
          | (rw [run2] at c2; simp [c2, c16]; done)
      · change GG _ _ _ _ _ _ 70 _ _ _
        change _ = (3 : Int32) at c31
        refine g_iload_n B dX4_ofWinter_70 rfl ?_
        refine g_bipush (v := (6)) B dX4_ofWinter_71 (by decide) ?_
        refine g_icmp_le (tgt := 86) B dX4_ofWinter_73 (by decide) (fun c73 => ?_) (fun c73 => ?_)
        · refine g_iload B dX4_ofWinter_86 rfl ?_
          refine g_ireti B dX4_ofWinter_88 ?_
          refine kk ?_ hK
          clear hK B
          first
            | (have e := kd0 hk c31; subst e)
            | subst c31
          unfold oWin
          first
            | rfl
            | (rw [run2] at c2; simp [c2, c16, c73, tm2]; done)
            | (rw [run2] at c2; simp [c2, c16, tm2]; done)
            | (rw [run2] at c2; simp [c2, c16]; done)
        · refine g_iload B dX4_ofWinter_76 rfl ?_
          refine g_aload_n B dX4_ofWinter_78 rfl ?_
          refine g_getI (T := TX4) (N := 3) B dX4_ofWinter_79 (hU.lt) (hU.lo) (inq inlX4) rfl 1 (by decide) (mq f_X4_15) (by rfl) ?_
          refine g_iadd B dX4_ofWinter_82 ?_
          refine g_goto (tgt := 88) B dX4_ofWinter_83 (by decide) ?_
          refine g_ireti B dX4_ofWinter_88 ?_
          refine kk ?_ hK
          clear hK B
          first
            | (have e := kd0 hk c31; subst e)
            | subst c31
          unfold oWin
          first
            | rfl
            | (rw [run2] at c2; simp [c2, c16, c73, tm2]; done)
            | (rw [run2] at c2; simp [c2, c16, tm2]; done)
            | (rw [run2] at c2; simp [c2, c16]; done)
      · change GG _ _ _ _ _ _ 89 _ _ _
        change _ = (4 : Int32) at c31
        refine g_iconst (v := (2)) B dX4_ofWinter_89 (by decide) ?_
        refine g_iload B dX4_ofWinter_90 rfl ?_
        refine g_imul B dX4_ofWinter_92 ?_
        refine g_ireti B dX4_ofWinter_93 ?_
        refine kk ?_ hK
        clear hK B
        first
          | (have e := kd0 hk c31; subst e)
          | subst c31
        unfold oWin
        first
          | rfl
          | (rw [run2] at c2; simp [c2, c16, c73, tm2]; done)
          | (rw [run2] at c2; simp [c2, c16, tm2]; done)
          | (rw [run2] at c2; simp [c2, c16]; done)
      · change GG _ _ _ _ _ _ 94 _ _ _
        change _ = (5 : Int32) at c31
        refine g_iload_n B dX4_ofWinter_94 rfl ?_
        refine g_ineg B dX4_ofWinter_95 ?_
        refine g_ireti B dX4_ofWinter_96 ?_
        refine kk ?_ hK
        clear hK B
        first
          | (have e := kd0 hk c31; subst e)
          | subst c31
        unfold oWin
        first
          | rfl
          | (rw [run2] at c2; simp [c2, c16, c73, tm2]; done)
          | (rw [run2] at c2; simp [c2, c16, tm2]; done)
          | (rw [run2] at c2; simp [c2, c16]; done)
  · refine g_iconst (v := (2)) B dX4_ofWinter_5 (by decide) ?_
    refine g_iload_n B dX4_ofWinter_6 rfl ?_
    refine g_imul B dX4_ofWinter_7 ?_
    refine g_goto (tgt := 12) B dX4_ofWinter_8 (by decide) ?_
    refine g_istore B dX4_ofWinter_12 (by decide) rfl ?_
    refine g_iload_n B dX4_ofWinter_14 rfl ?_
    refine g_iconst (v := (4)) B dX4_ofWinter_15 (by decide) ?_
    refine g_icmp_le (tgt := 24) B dX4_ofWinter_16 (by decide) (fun c16 => ?_) (fun c16 => ?_)
    · refine g_iconst (v := (0)) B dX4_ofWinter_24 (by decide) ?_
      refine g_istore B dX4_ofWinter_25 (by decide) rfl ?_
      refine g_aload_n B dX4_ofWinter_27 rfl ?_
      refine g_getI (T := TX4) (N := 3) B dX4_ofWinter_28 (hU.lt) (hU.lo) (inq inlX4) rfl 0 (by decide) (mq f_X4_9) (by rfl) ?_
      rw [hkd]
      refine g_tsw (dt := 97) B dX4_ofWinter_31 (by decide) (by rfl) (by decide) (fun c31 => ?_) (And.intro (fun c31 => ?_) (And.intro (fun c31 => ?_) (And.intro (fun c31 => ?_) (And.intro (fun c31 => ?_) (And.intro (fun c31 => ?_) trivial)))))
      · refine g_iload_n B dX4_ofWinter_97 rfl ?_
        refine g_ireti B dX4_ofWinter_98 ?_
        refine kk ?_ hK
        clear hK B
        first
          | (have e := kd0 hk c31; subst e)
          | subst c31
        unfold oWin
        first
          | rfl
          | (rw [run2] at c2; simp [c2, c16, c73, tm2]; done)
          | (rw [run2] at c2; simp [c2, c16, tm2]; done)
          | (rw [run2] at c2; simp [c2, c16]; done)
      · change GG _ _ _ _ _ _ 64 _ _ _
        change _ = (1 : Int32) at c31
        refine g_iload B dX4_ofWinter_64 rfl ?_
        refine g_ireti B dX4_ofWinter_66 ?_
        refine kk ?_ hK
        clear hK B
        first
          | (have e := kd0 hk c31; subst e)
          | subst c31
        unfold oWin
        first
          | rfl
          | (rw [run2] at c2; simp [c2, c16, c73, tm2]; done)
          | (rw [run2] at c2; simp [c2, c16, tm2]; done)
          | (rw [run2] at c2; simp [c2, c16]; done)
      · change GG _ _ _ _ _ _ 67 _ _ _
        change _ = (2 : Int32) at c31
        refine g_iload B dX4_ofWinter_67 rfl ?_
        refine g_ireti B dX4_ofWinter_69 ?_
        refine kk ?_ hK
        clear hK B
        first
          | (have e := kd0 hk c31; subst e)
          | subst c31
        unfold oWin
        first
          | rfl
          | (rw [run2] at c2; simp [c2, c16, c73, tm2]; done)
          | (rw [run2] at c2; simp [c2, c16, tm2]; done)
          | (rw [run2] at c2; simp [c2, c16]; done)
      · change GG _ _ _ _ _ _ 70 _ _ _
        change _ = (3 : Int32) at c31
        refine g_iload_n B dX4_ofWinter_70 rfl ?_
        refine g_bipush (v := (6)) B dX4_ofWinter_71 (by decide) ?_
        refine g_icmp_le (tgt := 86) B dX4_ofWinter_73 (by decide) (fun c73 => ?_) (fun c73 => ?_)
        · refine g_iload B dX4_ofWinter_86 rfl ?_
          refine g_ireti B dX4_ofWinter_88 ?_
          refine kk ?_ hK
          clear hK B
          first
            | (have e := kd0 hk c31; subst e)
            | subst c31
          unfold oWin
          first
            | rfl
            | (rw [run2] at c2; simp [c2, c16, c73, tm2]; done)
            | (rw [run2] at c2; simp [c2, c16, tm2]; done)
            | (rw [run2] at c2; simp [c2, c16]; done)
        · refine g_iload B dX4_ofWinter_76 rfl ?_
          refine g_aload_n B dX4_ofWinter_78 rfl ?_
          refine g_getI (T := TX4) (N := 3) B dX4_ofWinter_79 (hU.lt) (hU.lo) (inq inlX4) rfl 1 (by decide) (mq f_X4_15) (by rfl) ?_
          refine g_iadd B dX4_ofWinter_82 ?_
          refine g_goto (tgt := 88) B dX4_ofWinter_83 (by decide) ?_
          refine g_ireti B dX4_ofWinter_88 ?_
          refine kk ?_ hK
          clear hK B
          first
            | (have e := kd0 hk c31; subst e)
            | subst c31
          unfold oWin
          first
            | rfl
            | (rw [run2] at c2; simp [c2, c16, c73, tm2]; done)
            | (rw [run2] at c2; simp [c2, c16, tm2]; done)
            | (rw [run2] at c2; simp [c2, c16]; done)
      · change GG _ _ _ _ _ _ 89 _ _ _
        change _ = (4 : Int32) at c31
        refine g_iconst (v := (2)) B dX4_ofWinter_89 (by decide) ?_
        refine g_iload B dX4_ofWinter_90 rfl ?_
        refine g_imul B dX4_ofWinter_92 ?_
        refine g_ireti B dX4_ofWinter_93 ?_
        refine kk ?_ hK
        clear hK B
        first
          | (have e := kd0 hk c31; subst e)
          | subst c31
        unfold oWin
        first
          | rfl
          | (rw [run2] at c2; simp [c2, c16, c73, tm2]; done)
          | (rw [run2] at c2; simp [c2, c16, tm2]; done)
          | (rw [run2] at c2; simp [c2, c16]; done)
      · change GG _ _ _ _ _ _ 94 _ _ _
        change _ = (5 : Int32) at c31
        refine g_iload_n B dX4_ofWinter_94 rfl ?_
        refine g_ineg B dX4_ofWinter_95 ?_
        refine g_ireti B dX4_ofWinter_96 ?_
        refine kk ?_ hK
        clear hK B
        first
          | (have e := kd0 hk c31; subst e)
          | subst c31
        unfold oWin
        first
          | rfl
          | (rw [run2] at c2; simp [c2, c16, c73, tm2]; done)
          | (rw [run2] at c2; simp [c2, c16, tm2]; done)
          | (rw [run2] at c2; simp [c2, c16]; done)
    · refine g_iload_n B dX4_ofWinter_19 rfl ?_
      refine g_ineg B dX4_ofWinter_20 ?_
      refine g_goto (tgt := 25) B dX4_ofWinter_21 (by decide) ?_
      refine g_istore B dX4_ofWinter_25 (by decide) rfl ?_
      refine g_aload_n B dX4_ofWinter_27 rfl ?_
      refine g_getI (T := TX4) (N := 3) B dX4_ofWinter_28 (hU.lt) (hU.lo) (inq inlX4) rfl 0 (by decide) (mq f_X4_9) (by rfl) ?_
      rw [hkd]
      refine g_tsw (dt := 97) B dX4_ofWinter_31 (by decide) (by rfl) (by decide) (fun c31 => ?_) (And.intro (fun c31 => ?_) (And.intro (fun c31 => ?_) (And.intro (fun c31 => ?_) (And.intro (fun c31 => ?_) (And.intro (fun c31 => ?_) trivial)))))
      · refine g_iload_n B dX4_ofWinter_97 rfl ?_
        refine g_ireti B dX4_ofWinter_98 ?_
        refine kk ?_ hK
        clear hK B
        first
          | (have e := kd0 hk c31; subst e)
          | subst c31
        unfold oWin
        first
          | rfl
          | (rw [run2] at c2; simp [c2, c16, c73, tm2]; done)
          | (rw [run2] at c2; simp [c2, c16, tm2]; done)
          | (rw [run2] at c2; simp [c2, c16]; done)
      · change GG _ _ _ _ _ _ 64 _ _ _
        change _ = (1 : Int32) at c31
        refine g_iload B dX4_ofWinter_64 rfl ?_
        refine g_ireti B dX4_ofWinter_66 ?_
        refine kk ?_ hK
        clear hK B
        first
          | (have e := kd0 hk c31; subst e)
          | subst c31
        unfold oWin
        first
          | rfl
          | (rw [run2] at c2; simp [c2, c16, c73, tm2]; done)
          | (rw [run2] at c2; simp [c2, c16, tm2]; done)
          | (rw [run2] at c2; simp [c2, c16]; done)
      · change GG _ _ _ _ _ _ 67 _ _ _
        change _ = (2 : Int32) at c31
        refine g_iload B dX4_ofWinter_67 rfl ?_
        refine g_ireti B dX4_ofWinter_69 ?_
        refine kk ?_ hK
        clear hK B
        first
          | (have e := kd0 hk c31; subst e)
          | subst c31
        unfold oWin
        first
          | rfl
          | (rw [run2] at c2; simp [c2, c16, c73, tm2]; done)
          | (rw [run2] at c2; simp [c2, c16, tm2]; done)
          | (rw [run2] at c2; simp [c2, c16]; done)
      · change GG _ _ _ _ _ _ 70 _ _ _
        change _ = (3 : Int32) at c31
        refine g_iload_n B dX4_ofWinter_70 rfl ?_
        refine g_bipush (v := (6)) B dX4_ofWinter_71 (by decide) ?_
        refine g_icmp_le (tgt := 86) B dX4_ofWinter_73 (by decide) (fun c73 => ?_) (fun c73 => ?_)
        · refine g_iload B dX4_ofWinter_86 rfl ?_
          refine g_ireti B dX4_ofWinter_88 ?_
          refine kk ?_ hK
          clear hK B
          first
            | (have e := kd0 hk c31; subst e)
            | subst c31
          unfold oWin
          first
            | rfl
            | (rw [run2] at c2; simp [c2, c16, c73, tm2]; done)
            | (rw [run2] at c2; simp [c2, c16, tm2]; done)
            | (rw [run2] at c2; simp [c2, c16]; done)
        · refine g_iload B dX4_ofWinter_76 rfl ?_
          refine g_aload_n B dX4_ofWinter_78 rfl ?_
          refine g_getI (T := TX4) (N := 3) B dX4_ofWinter_79 (hU.lt) (hU.lo) (inq inlX4) rfl 1 (by decide) (mq f_X4_15) (by rfl) ?_
          refine g_iadd B dX4_ofWinter_82 ?_
          refine g_goto (tgt := 88) B dX4_ofWinter_83 (by decide) ?_
          refine g_ireti B dX4_ofWinter_88 ?_
          refine kk ?_ hK
          clear hK B
          first
            | (have e := kd0 hk c31; subst e)
            | subst c31
          unfold oWin
          first
            | rfl
            | (rw [run2] at c2; simp [c2, c16, c73, tm2]; done)
            | (rw [run2] at c2; simp [c2, c16, tm2]; done)
            | (rw [run2] at c2; simp [c2, c16]; done)
      · change GG _ _ _ _ _ _ 89 _ _ _
        change _ = (4 : Int32) at c31
        refine g_iconst (v := (2)) B dX4_ofWinter_89 (by decide) ?_
        refine g_iload B dX4_ofWinter_90 rfl ?_
        refine g_imul B dX4_ofWinter_92 ?_
        refine g_ireti B dX4_ofWinter_93 ?_
        refine kk ?_ hK
        clear hK B
        first
          | (have e := kd0 hk c31; subst e)
          | subst c31
        unfold oWin
        first
          | rfl
          | (rw [run2] at c2; simp [c2, c16, c73, tm2]; done)
          | (rw [run2] at c2; simp [c2, c16, tm2]; done)
          | (rw [run2] at c2; simp [c2, c16]; done)
      · change GG _ _ _ _ _ _ 94 _ _ _
        change _ = (5 : Int32) at c31
        refine g_iload_n B dX4_ofWinter_94 rfl ?_
        refine g_ineg B dX4_ofWinter_95 ?_
        refine g_ireti B dX4_ofWinter_96 ?_
        refine kk ?_ hK
        clear hK B
        first
          | (have e := kd0 hk c31; subst e)
          | subst c31
        unfold oWin
        first
          | rfl
          | (rw [run2] at c2; simp [c2, c16, c73, tm2]; done)
          | (rw [run2] at c2; simp [c2, c16, tm2]; done)
          | (rw [run2] at c2; simp [c2, c16]; done)
set_option maxRecDepth 100000 in
set_option maxHeartbeats 4000000 in
theorem x_ofMild {Z : LZ} {ad : Nat → Nat} {τ : St} {K : Int32 → St → Prop} {o : Nat} {v : Int32} (hU : UO o) (hk : 0 ≤ (τ.1 o 0).toInt ∧ (τ.1 o 0).toInt ≤ 5) (hK : K (oMil (τ.1 o 0) (τ.1 o 1) v) τ) : CC lyX Z ad yX4_ofMild wsX4_ofMild (rmk 0) [.ref (ad o), .int v] τ (rI K) := by
  refine CC.of (cc := cX4_ofMild) (nL := 2) (ret := (some .int)) rfl rfl ⟨rfl, rfl⟩ (by exact Nat.le_of_ble_eq_true rfl) ?_
  intro X B
  change GG _ _ _ _ X _ 0 [some (.ref (ad o)), some (.int v)] [] _
  change Amb _ _ _ _ X _ _ RX4 _ _ at B
  generalize hkd : τ.1 o 0 = kind at hk hK
  refine g_aload_n B dX4_ofMild_0 rfl ?_
  refine g_getI (T := TX4) (N := 3) B dX4_ofMild_1 (hU.lt) (hU.lo) (inq inlX4) rfl 0 (by decide) (mq f_X4_9) (by rfl) ?_
  rw [hkd]
  refine g_tsw (dt := 59) B dX4_ofMild_4 (by decide) (by rfl) (by decide) (fun c4 => ?_) (And.intro (fun c4 => ?_) (And.intro (fun c4 => ?_) (And.intro (fun c4 => ?_) (And.intro (fun c4 => ?_) (And.intro (fun c4 => ?_) trivial)))))
  · refine g_iload_n B dX4_ofMild_59 rfl ?_
    refine g_ireti B dX4_ofMild_60 ?_
    refine kk ?_ hK
    clear hK B
    first
      | (have e := kd0 hk c4; subst e; rfl)
      | (subst c4; rfl)
  · change GG _ _ _ _ _ _ 40 _ _ _
    change _ = (1 : Int32) at c4
    refine g_iconst (v := (0)) B dX4_ofMild_40 (by decide) ?_
    refine g_ireti B dX4_ofMild_41 ?_
    refine kk ?_ hK
    clear hK B
    first
      | (have e := kd0 hk c4; subst e; rfl)
      | (subst c4; rfl)
  · change GG _ _ _ _ _ _ 59 _ _ _
    change _ = (2 : Int32) at c4
    refine g_iload_n B dX4_ofMild_59 rfl ?_
    refine g_ireti B dX4_ofMild_60 ?_
    refine kk ?_ hK
    clear hK B
    first
      | (have e := kd0 hk c4; subst e; rfl)
      | (subst c4; rfl)
  · change GG _ _ _ _ _ _ 42 _ _ _
    change _ = (3 : Int32) at c4
    refine g_aload_n B dX4_ofMild_42 rfl ?_
    refine g_getI (T := TX4) (N := 3) B dX4_ofMild_43 (hU.lt) (hU.lo) (inq inlX4) rfl 1 (by decide) (mq f_X4_15) (by rfl) ?_
    refine g_ineg B dX4_ofMild_46 ?_
    refine g_ireti B dX4_ofMild_47 ?_
    refine kk ?_ hK
    clear hK B
    first
      | (have e := kd0 hk c4; subst e; rfl)
      | (subst c4; rfl)
  · change GG _ _ _ _ _ _ 48 _ _ _
    change _ = (4 : Int32) at c4
    refine g_iload_n B dX4_ofMild_48 rfl ?_
    refine g_aload_n B dX4_ofMild_49 rfl ?_
    refine g_getI (T := TX4) (N := 3) B dX4_ofMild_50 (hU.lt) (hU.lo) (inq inlX4) rfl 1 (by decide) (mq f_X4_15) (by rfl) ?_
    refine g_iadd B dX4_ofMild_53 ?_
    refine g_ireti B dX4_ofMild_54 ?_
    refine kk ?_ hK
    clear hK B
    first
      | (have e := kd0 hk c4; subst e; rfl)
      | (subst c4; rfl)
  · change GG _ _ _ _ _ _ 55 _ _ _
    change _ = (5 : Int32) at c4
    refine g_iload_n B dX4_ofMild_55 rfl ?_
    refine g_iconst (v := (2)) B dX4_ofMild_56 (by decide) ?_
    refine g_iadd B dX4_ofMild_57 ?_
    refine g_ireti B dX4_ofMild_58 ?_
    refine kk ?_ hK
    clear hK B
    first
      | (have e := kd0 hk c4; subst e; rfl)
      | (subst c4; rfl)
set_option maxRecDepth 100000 in
set_option maxHeartbeats 4000000 in
theorem x_textAt {Z : LZ} {ad : Nat → Nat} {τ : St} {K : Nat → St → Prop} {x : Int32} {k : Nat} (hx : x = nI k) (hk : k < 6) (hK : K (ad (k + 26)) τ) : CC lyX Z ad yX5_textAt wsX5_textAt (rmk 0) [.ref (ad 0), .int x] τ (rR K) := by
  refine CC.of (cc := cX5_textAt) (nL := 2) (ret := (some (.object "OneWinter$Text"))) rfl rfl ⟨rfl, rfl⟩ (by exact Nat.le_of_ble_eq_true rfl) ?_
  intro X B
  change GG _ _ _ _ X _ 0 [some (.ref (ad 0)), some (.int x)] [] _
  change Amb _ _ _ _ X _ _ RX5 _ _ at B
  subst hx
  have hck : (nI k).toNatClampNeg = k := i_cl (by omega)
  refine g_aload_n B dX5_textAt_0 rfl ?_
  refine g_getR (T := TX5) (N := 16) B dX5_textAt_1 (by decide) (by rfl) (inq inlX5) rfl 6 (by decide) (mq f_X5_40) (by rfl) ?_
  refine g_iload_n B dX5_textAt_4 rfl ?_
  refine g_if_lt (tgt := 18) B dX5_textAt_5 (by decide) (fun c5 => ?_) (fun c5 => ?_)
  · exact absurd (i_lt.mp c5) (by rw [i_n (by omega), i0]; omega)
  · refine g_iload_n B dX5_textAt_8 rfl ?_
    refine g_bipush (v := (6)) B dX5_textAt_9 (by decide) ?_
    refine g_icmp_ge (tgt := 18) B dX5_textAt_11 (by decide) (fun c11 => ?_) (fun c11 => ?_)
    · exact absurd (i_le.mp c11) (by rw [i_n (by omega), i6]; omega)
    · refine g_iload_n B dX5_textAt_14 rfl ?_
      refine g_goto (tgt := 19) B dX5_textAt_15 (by decide) ?_
      refine g_aald B dX5_textAt_19 (by decide) (by rfl) (by exact vp_in_nI hk (by omega)) ?_
      rw [hck]
      refine g_areti B dX5_textAt_20 (Or.inl ⟨_, rfl⟩) ?_
      exact hK
/-- the run behind a night, 0 ahead of the first -/
def sR0 (sh : Int32) : Nat → Int32
  | 0 => 0
  | t + 1 => nI (sRn sh t)
set_option maxRecDepth 100000 in
set_option maxHeartbeats 4000000 in
theorem x_runBehind {ly : Lay} {Z : LZ} {ad : Nat → Nat} {τ : St} {K : Int32 → St → Prop} {sh x y : Int32} {t : Nat} (hx : x = nI t) (ht : t < 30) (hy : y = sR0 sh t) (hK : K (nI (sRn sh t)) τ) : CC ly Z ad yX5_runBehind wsX5_runBehind (rmk 1) [.int sh, .int x, .int y] τ (rI K) := by
  refine CC.of (cc := cX5_runBehind) (nL := 3) (ret := (some .int)) rfl rfl ⟨rfl, rfl⟩ (by exact Nat.le_of_ble_eq_true rfl) ?_
  intro X B
  change GG _ _ _ _ X _ 0 [some (.int sh), some (.int x), some (.int y)] [] _
  change Amb _ _ _ _ X _ _ RX5 _ _ at B
  subst hx hy
  refine g_iload_n B dX5_runBehind_0 rfl ?_
  refine g_if_le (tgt := 23) B dX5_runBehind_1 (by decide) (fun c1 => ?_) (fun c1 => ?_)
  · refine g_iconst (v := (1)) B dX5_runBehind_23 (by decide) ?_
    refine g_ireti B dX5_runBehind_24 ?_
    refine kk ?_ hK
    clear hK B
    try simp only [Nat.add_sub_cancel] at c16
    first
      | (have e : t = 0 := by
           rw [i_le, i_n (by omega), i0] at c1
           omega
         subst e
         rfl)
      | (show nI (sRn sh n) + 1 = _
         rw [nI_1, sRn, if_pos c16])
      | (rw [sRn, if_neg c16]
         rfl)
  · refine g_iload_n B dX5_runBehind_4 rfl ?_
    refine g_iload_n B dX5_runBehind_5 rfl ?_
    refine g_callSi (As := [.int _, .int _]) B dX5_runBehind_6 (gc1 g_X5_130) (by rfl) hd_X5_townOf (by exact ⟨Nat.le_of_ble_eq_true rfl, Nat.le_of_ble_eq_true rfl⟩) ⟨rfl, rfl⟩ rfl rfl (by exact Nat.le_of_ble_eq_true rfl) (x_townOf (t := t) rfl (by omega) ?_)
    refine g_iload_n B dX5_runBehind_9 rfl ?_
    refine g_iload_n B dX5_runBehind_10 rfl ?_
    refine g_iconst (v := (1)) B dX5_runBehind_11 (by decide) ?_
    have ht0 : 1 ≤ t := by
      rw [i_le, i_n (by omega), i0] at c1
      omega
    refine g_isub B dX5_runBehind_12 ?_
    rw [show nI t - 1 = nI (t - 1) from pk_sub (b := 1) (by omega)]
    refine g_callSi (As := [.int _, .int _]) B dX5_runBehind_13 (gc1 g_X5_130) (by rfl) hd_X5_townOf (by exact ⟨Nat.le_of_ble_eq_true rfl, Nat.le_of_ble_eq_true rfl⟩) ⟨rfl, rfl⟩ rfl rfl (by exact Nat.le_of_ble_eq_true rfl) (x_townOf (t := t - 1) rfl (by omega) ?_)
    obtain ⟨n, rfl⟩ : ∃ n, t = n + 1 := ⟨t - 1, by omega⟩
    refine g_icmp_ne (tgt := 23) B dX5_runBehind_16 (by decide) (fun c16 => ?_) (fun c16 => ?_)
    · refine g_iconst (v := (1)) B dX5_runBehind_23 (by decide) ?_
      refine g_ireti B dX5_runBehind_24 ?_
      refine kk ?_ hK
      clear hK B
      try simp only [Nat.add_sub_cancel] at c16
      first
        | (have e : t = 0 := by
             rw [i_le, i_n (by omega), i0] at c1
             omega
           subst e
           rfl)
        | (show nI (sRn sh n) + 1 = _
           rw [nI_1, sRn, if_pos c16])
        | (rw [sRn, if_neg c16]
           rfl)
    · refine g_iload_n B dX5_runBehind_19 rfl ?_
      refine g_iconst (v := (1)) B dX5_runBehind_20 (by decide) ?_
      refine g_iadd B dX5_runBehind_21 ?_
      refine g_ireti B dX5_runBehind_22 ?_
      refine kk ?_ hK
      clear hK B
      try simp only [Nat.add_sub_cancel] at c16
      first
        | (have e : t = 0 := by
             rw [i_le, i_n (by omega), i0] at c1
             omega
           subst e
           rfl)
        | (show nI (sRn sh n) + 1 = _
           rw [nI_1, sRn, if_pos c16])
        | (rw [sRn, if_neg c16]
           rfl)
set_option maxRecDepth 100000 in
set_option maxHeartbeats 4000000 in
theorem lx_runOf {ly : Lay} {Z : LZ} {ad : Nat → Nat} {X : CX} {K : Int32 → St → Prop} {τ : St} {sh : Int32} {t : Nat} (B : Amb ly Z ad (rmk 2) X cX5_runOf wsX5_runOf RX5 4 (some .int)) (ht : t < 30) (hK : K (nI (sRn sh t)) τ) : ∀ (k i : Nat), i ≤ t + 1 → t + 1 - i < k → GG ly Z ad (rmk 2) X (rI K) 4 [some (.int sh), some (.int (nI t)), some (.int (sR0 sh i)), some (.int (nI i))] [] τ := by
  intro k
  induction k with
  | zero => intro i _ h; omega
  | succ k ih =>
    intro i h1 h2
    refine g_iload_n B dX5_runOf_4 rfl ?_
    refine g_iload_n B dX5_runOf_5 rfl ?_
    refine g_icmp_gt (tgt := 28) B dX5_runOf_6 (by decide) (fun c6 => ?_) (fun c6 => ?_)
    · refine g_iload_n B dX5_runOf_28 rfl ?_
      refine g_ireti B dX5_runOf_29 ?_
      have h3 : i = t + 1 := by
        rw [i_lt, i_n (by omega), i_n (by omega)] at c6
        omega
      subst h3
      exact hK
    · have h3 : i ≤ t := by
        have := Int32.not_lt.mp c6
        rw [i_le, i_n (by omega), i_n (by omega)] at this
        omega
      refine g_iload_n B dX5_runOf_9 rfl ?_
      refine g_bipush (v := (30)) B dX5_runOf_10 (by decide) ?_
      refine g_icmp_ge (tgt := 28) B dX5_runOf_12 (by decide) (fun c12 => ?_) (fun c12 => ?_)
      · exact absurd (i_le.mp c12) (by rw [i_n (by omega), i30]; omega)
      · refine g_iload_n B dX5_runOf_15 rfl ?_
        refine g_iload_n B dX5_runOf_16 rfl ?_
        refine g_iload_n B dX5_runOf_17 rfl ?_
        refine g_callSi (As := [.int _, .int _, .int _]) B dX5_runOf_18 (gc1 g_X5_185) (by rfl) hd_X5_runBehind (by exact ⟨Nat.le_of_ble_eq_true rfl, Nat.le_of_ble_eq_true rfl⟩) ⟨rfl, rfl⟩ rfl rfl (by exact Nat.le_of_ble_eq_true rfl) (x_runBehind (t := i) rfl (by omega) rfl ?_)
        refine g_istore_n B dX5_runOf_21 (by decide) rfl ?_
        refine g_iinc (c9 := (1)) B dX5_runOf_22 rfl (by decide) (by decide) rfl ?_
        refine g_goto (tgt := 4) B dX5_runOf_25 (by decide) ?_
        rw [nI_1 i]
        exact ih (i + 1) (by omega) (by omega)
set_option maxRecDepth 100000 in
set_option maxHeartbeats 4000000 in
theorem x_runOf {ly : Lay} {Z : LZ} {ad : Nat → Nat} {τ : St} {K : Int32 → St → Prop} {sh x : Int32} {t : Nat} (hx : x = nI t) (ht : t < 30) (hK : K (nI (sRn sh t)) τ) : CC ly Z ad yX5_runOf wsX5_runOf (rmk 2) [.int sh, .int x] τ (rI K) := by
  refine CC.of (cc := cX5_runOf) (nL := 4) (ret := (some .int)) rfl rfl ⟨rfl, rfl⟩ (by exact Nat.le_of_ble_eq_true rfl) ?_
  intro X B
  change GG _ _ _ _ X _ 0 [some (.int sh), some (.int x), none, none] [] _
  change Amb _ _ _ _ X _ _ RX5 _ _ at B
  subst hx
  refine g_iconst (v := (0)) B dX5_runOf_0 (by decide) ?_
  refine g_istore_n B dX5_runOf_1 (by decide) rfl ?_
  refine g_iconst (v := (0)) B dX5_runOf_2 (by decide) ?_
  refine g_istore_n B dX5_runOf_3 (by decide) rfl ?_
  exact lx_runOf B ht hK 40 0 (by omega) (by omega)
theorem envX_N {τ : St} {a b c d e f : Int32} (h0 : τ.1 2 0 = a) (h1 : τ.1 2 1 = b) (h2 : τ.1 2 2 = c) (h3 : τ.1 2 3 = d) (h4 : τ.1 2 4 = e) (h5 : τ.1 2 5 = f) : envX τ = envN a b c d e f := by
  funext i
  unfold envX
  by_cases hi : i < 6
  · rw [if_pos hi]
    rcases (show i = 0 ∨ i = 1 ∨ i = 2 ∨ i = 3 ∨ i = 4 ∨ i = 5 by omega) with rfl | rfl | rfl | rfl | rfl | rfl
    · exact h0
    · exact h1
    · exact h2
    · exact h3
    · exact h4
    · exact h5
  · rw [if_neg hi]
    obtain ⟨j, rfl⟩ : ∃ j, i = j + 6 := ⟨i - 6, by omega⟩
    rfl
theorem g_st {ly : Lay} {Z : LZ} {ad : Nat → Nat} {rm : Room} {X : CX} {K : Option Value → St → Prop} {pc : Nat} {L : List (Option Value)} {st : List Value} {τ : St} (g : ∀ σ : St, σ = τ → GG ly Z ad rm X K pc L st σ) : GG ly Z ad rm X K pc L st τ := g τ rfl
theorem cl0 : (0 : Int32).toNatClampNeg = 0 := rfl
theorem cl1 : (1 : Int32).toNatClampNeg = 1 := rfl
theorem cl2 : (2 : Int32).toNatClampNeg = 2 := rfl
theorem cl3 : (3 : Int32).toNatClampNeg = 3 := rfl
theorem cl4 : (4 : Int32).toNatClampNeg = 4 := rfl
theorem cl5 : (5 : Int32).toNatClampNeg = 5 := rfl
set_option maxRecDepth 100000 in
set_option maxHeartbeats 4000000 in
theorem x_mostOf {Z : LZ} {ad : Nat → Nat} {τ : St} {K : Int32 → St → Prop} {x town : Int32} {t r : Nat} {C : TC} (hr : τ.1 0 8 = nI r) (hT : TXX τ r C) (hx : x = nI t) (ht : t < 30) (hK : ∀ τ', pkz [2, 3] [] τ τ' → K (sMost C (τ.1 1 t) t town (τ.1 0 3)) τ') : CC lyX Z ad yX5_mostOf wsX5_mostOf (rmk 2) [.ref (ad 0), .int x, .int town] τ (rI K) := by
  refine CC.of (cc := cX5_mostOf) (nL := 3) (ret := (some .int)) rfl rfl ⟨rfl, rfl⟩ (by exact Nat.le_of_ble_eq_true rfl) ?_
  intro X B
  change GG _ _ _ _ X _ 0 [some (.ref (ad 0)), some (.int x), some (.int town)] [] _
  change Amb _ _ _ _ X _ _ RX5 _ _ at B
  subst hx
  have hct : (nI t).toNatClampNeg = t := i_cl (by omega)
  refine g_aload_n B dX5_mostOf_0 rfl ?_
  refine g_getR (T := TX5) (N := 16) B dX5_mostOf_1 (by decide) (by rfl) (inq inlX5) rfl 11 (by decide) (mq f_X5_63) (by rfl) ?_
  refine g_iconst (v := (0)) B dX5_mostOf_4 (by decide) ?_
  refine g_aload_n B dX5_mostOf_5 rfl ?_
  refine g_getR (T := TX5) (N := 16) B dX5_mostOf_6 (by decide) (by rfl) (inq inlX5) rfl 0 (by decide) (mq f_X5_9) (by rfl) ?_
  refine g_iload_n B dX5_mostOf_9 rfl ?_
  refine g_iald B dX5_mostOf_10 (by decide) (by rfl) (by exact vp_in_nI ht (by omega)) ?_
  rw [hct]
  refine g_iast B dX5_mostOf_11 (by decide) (by rfl) (by exact i_vp (by decide) (by decide)) ?_
  refine g_aload_n B dX5_mostOf_12 rfl ?_
  refine g_getR (T := TX5) (N := 16) B dX5_mostOf_13 (by decide) (by rfl) (inq inlX5) rfl 11 (by decide) (mq f_X5_63) (by rfl) ?_
  refine g_iconst (v := (1)) B dX5_mostOf_16 (by decide) ?_
  refine g_iload_n B dX5_mostOf_17 rfl ?_
  refine g_iast B dX5_mostOf_18 (by decide) (by rfl) (by exact i_vp (by decide) (by decide)) ?_
  refine g_aload_n B dX5_mostOf_19 rfl ?_
  refine g_getR (T := TX5) (N := 16) B dX5_mostOf_20 (by decide) (by rfl) (inq inlX5) rfl 11 (by decide) (mq f_X5_63) (by rfl) ?_
  refine g_iconst (v := (2)) B dX5_mostOf_23 (by decide) ?_
  refine g_iconst (v := (0)) B dX5_mostOf_24 (by decide) ?_
  refine g_iast B dX5_mostOf_25 (by decide) (by rfl) (by exact i_vp (by decide) (by decide)) ?_
  refine g_aload_n B dX5_mostOf_26 rfl ?_
  refine g_getR (T := TX5) (N := 16) B dX5_mostOf_27 (by decide) (by rfl) (inq inlX5) rfl 11 (by decide) (mq f_X5_63) (by rfl) ?_
  refine g_iconst (v := (3)) B dX5_mostOf_30 (by decide) ?_
  refine g_iconst (v := (0)) B dX5_mostOf_31 (by decide) ?_
  refine g_iast B dX5_mostOf_32 (by decide) (by rfl) (by exact i_vp (by decide) (by decide)) ?_
  refine g_aload_n B dX5_mostOf_33 rfl ?_
  refine g_getR (T := TX5) (N := 16) B dX5_mostOf_34 (by decide) (by rfl) (inq inlX5) rfl 11 (by decide) (mq f_X5_63) (by rfl) ?_
  refine g_iconst (v := (4)) B dX5_mostOf_37 (by decide) ?_
  refine g_iload_n B dX5_mostOf_38 rfl ?_
  refine g_iast B dX5_mostOf_39 (by decide) (by rfl) (by exact i_vp (by decide) (by decide)) ?_
  refine g_aload_n B dX5_mostOf_40 rfl ?_
  refine g_getR (T := TX5) (N := 16) B dX5_mostOf_41 (by decide) (by rfl) (inq inlX5) rfl 11 (by decide) (mq f_X5_63) (by rfl) ?_
  refine g_iconst (v := (5)) B dX5_mostOf_44 (by decide) ?_
  refine g_aload_n B dX5_mostOf_45 rfl ?_
  refine g_getI (T := TX5) (N := 16) B dX5_mostOf_46 (by decide) (by rfl) (inq inlX5) rfl 3 (by decide) (mq f_X5_23) (by rfl) ?_
  refine g_iast B dX5_mostOf_49 (by decide) (by rfl) (by exact i_vp (by decide) (by decide)) ?_
  refine g_st (fun σ hσ => ?_)
  simp only [cl0, cl1, cl2, cl3, cl4, cl5] at hσ
  have hp : pkz [2, 3] [] τ σ := by rw [hσ]; repeat (first | exact pkz.rf | refine pkz.upC ?_ (by decide) (by decide))
  have hE : envX σ = envN (τ.1 1 t) (nI t) 0 0 town (τ.1 0 3) := by
    rw [hσ]
    refine envX_N ?_ ?_ ?_ ?_ ?_ ?_ <;> rfl
  refine g_aload_n B dX5_mostOf_50 rfl ?_
  refine g_aload_n B dX5_mostOf_51 rfl ?_
  refine g_getI (T := TX5) (N := 16) B dX5_mostOf_52 (by decide) (by rfl) (inq inlX5) rfl 8 (by decide) (mq f_X5_47) (by rfl) ?_
  rw [show σ.1 0 8 = nI r from (hp.2.1 8 (by decide)).trans hr]
  refine g_callVr (C := RX5) (As := [.int _]) B dX5_mostOf_55 (gc1 g_X5_150) (by rfl) ⟨rfl, hd_X5_textAt⟩ (by exact ⟨Nat.le_of_ble_eq_true rfl, Nat.le_of_ble_eq_true rfl⟩) ⟨rfl, rfl⟩ rfl rfl (by exact Nat.le_of_ble_eq_true rfl) recv5 (x_textAt rfl hT.1 ?_)
  refine g_iconst (v := (2)) B dX5_mostOf_58 (by decide) ?_
  refine g_aload_n B dX5_mostOf_59 rfl ?_
  refine g_getR (T := TX5) (N := 16) B dX5_mostOf_60 (by decide) (by rfl) (inq inlX5) rfl 11 (by decide) (mq f_X5_63) (by rfl) ?_
  refine g_aload_n B dX5_mostOf_63 rfl ?_
  refine g_getR (T := TX5) (N := 16) B dX5_mostOf_64 (by decide) (by rfl) (inq inlX5) rfl 12 (by decide) (mq f_X5_66) (by rfl) ?_
  refine g_callVi (C := RX3) (As := [.int _, .ref _, .ref _]) B dX5_mostOf_67 (gc1 g_X5_194) (by rfl) ⟨rfl, hd_X3_valueOf⟩ (by exact ⟨Nat.le_of_ble_eq_true rfl, Nat.le_of_ble_eq_true rfl⟩) ⟨rfl, rfl⟩ rfl rfl (by exact Nat.le_of_ble_eq_true rfl) (recv3 hT.1) (x_valueOf (hT.pz hp (by decide)) (Or.inr (Or.inr rfl)) (fun τ1 p1 => ?_))
  refine g_iconst (v := (1)) B dX5_mostOf_70 (by decide) ?_
  refine g_bipush (v := (30)) B dX5_mostOf_71 (by decide) ?_
  refine g_callSi (As := [.int _, .int _, .int _]) B dX5_mostOf_73 (gc1 g_X5_198) (by rfl) hd_X5_bounded (by exact ⟨Nat.le_of_ble_eq_true rfl, Nat.le_of_ble_eq_true rfl⟩) ⟨rfl, rfl⟩ rfl rfl (by exact Nat.le_of_ble_eq_true rfl) (x_bounded (by decide) ?_)
  refine g_ireti B dX5_mostOf_76 ?_
  refine kk ?_ (hK _ (hp.trans (p1.mono (by decide) (by decide))))
  rw [hE]
  rfl
set_option maxRecDepth 100000 in
set_option maxHeartbeats 4000000 in
theorem x_hasAt {Z : LZ} {ad : Nat → Nat} {τ : St} {K : Int32 → St → Prop} {x tw run : Int32} {o k w t : Nat} {C : TC} (hU : UO o) (hT : TXX τ k C) (hW : WO w) (hx : x = nI t) (ht : t < 30) (hk : 0 ≤ (τ.1 o 0).toInt ∧ (τ.1 o 0).toInt ≤ 5) (hK : ∀ τ', pkz [2, 3] [] τ τ' → K (sHas C (τ.1 0 3) (τ.1 o 0) (τ.1 o 1) (τ.1 o 2) (τ.1 w t) t tw run) τ') : CC lyX Z ad yX5_hasAt wsX5_hasAt (rmk 2) [.ref (ad 0), .ref (ad o), .ref (ad (k + 26)), .ref (ad w), .int x, .int tw, .int run] τ (rI K) := by
  refine CC.of (cc := cX5_hasAt) (nL := 10) (ret := (some .int)) rfl rfl ⟨rfl, rfl⟩ (by exact Nat.le_of_ble_eq_true rfl) ?_
  intro X B
  change GG _ _ _ _ X _ 0 [some (.ref (ad 0)), some (.ref (ad o)), some (.ref (ad (k + 26))), some (.ref (ad w)), some (.int x), some (.int tw), some (.int run), none, none, none] [] _
  change Amb _ _ _ _ X _ _ RX5 _ _ at B
  subst hx
  have hct : (nI t).toNatClampNeg = t := i_cl (by omega)
  have hoz := hU.z
  refine g_iload B dX5_hasAt_0 rfl ?_
  refine g_if_lt (tgt := 19) B dX5_hasAt_2 (by decide) (fun c2 => ?_) (fun c2 => ?_)
  · exact absurd (i_lt.mp c2) (by rw [i_n (by omega), i0]; omega)
  · refine g_iload B dX5_hasAt_5 rfl ?_
    refine g_aload_n B dX5_hasAt_7 rfl ?_
    refine g_alen B dX5_hasAt_8 (hW.lt) (hW.lo) rfl ?_
    refine g_icmp_ge (tgt := 19) B dX5_hasAt_9 (by decide) (fun c9 => ?_) (fun c9 => ?_)
    · exact absurd (i_le.mp c9) (by rw [i_n (by omega), show (Int32.ofNat 30).toInt = 30 from rfl]; omega)
    · refine g_aload_n B dX5_hasAt_12 rfl ?_
      refine g_iload B dX5_hasAt_13 rfl ?_
      refine g_iald B dX5_hasAt_15 (hW.lt) (hW.lo) (by exact vp_in_nI ht (by omega)) ?_
      rw [hct]
      refine g_goto (tgt := 20) B dX5_hasAt_16 (by decide) ?_
      refine g_istore B dX5_hasAt_20 (by decide) rfl ?_
      refine g_aload_n B dX5_hasAt_22 rfl ?_
      refine g_getR (T := TX5) (N := 16) B dX5_hasAt_23 (by decide) (by rfl) (inq inlX5) rfl 11 (by decide) (mq f_X5_63) (by rfl) ?_
      refine g_iconst (v := (0)) B dX5_hasAt_26 (by decide) ?_
      refine g_iload B dX5_hasAt_27 rfl ?_
      refine g_iast B dX5_hasAt_29 (by decide) (by rfl) (by exact i_vp (by decide) (by decide)) ?_
      refine g_aload_n B dX5_hasAt_30 rfl ?_
      refine g_getR (T := TX5) (N := 16) B dX5_hasAt_31 (by decide) (by rfl) (inq inlX5) rfl 11 (by decide) (mq f_X5_63) (by rfl) ?_
      refine g_iconst (v := (1)) B dX5_hasAt_34 (by decide) ?_
      refine g_iload B dX5_hasAt_35 rfl ?_
      refine g_iast B dX5_hasAt_37 (by decide) (by rfl) (by exact i_vp (by decide) (by decide)) ?_
      refine g_aload_n B dX5_hasAt_38 rfl ?_
      refine g_getR (T := TX5) (N := 16) B dX5_hasAt_39 (by decide) (by rfl) (inq inlX5) rfl 11 (by decide) (mq f_X5_63) (by rfl) ?_
      refine g_iconst (v := (2)) B dX5_hasAt_42 (by decide) ?_
      refine g_aload_n B dX5_hasAt_43 rfl ?_
      refine g_getI (T := TX4) (N := 3) B dX5_hasAt_44 (hU.lt) (hU.lo) (inq inlX4) rfl 1 (by decide) (mq f_X5_108) (by rfl) ?_
      rw [show (upS (upS τ 2 _ _) 2 _ _).1 o 1 = τ.1 o 1 from by rw [upS_3 (by omega), upS_3 (by omega)]]
      refine g_iast B dX5_hasAt_47 (by decide) (by rfl) (by exact i_vp (by decide) (by decide)) ?_
      refine g_aload_n B dX5_hasAt_48 rfl ?_
      refine g_getR (T := TX5) (N := 16) B dX5_hasAt_49 (by decide) (by rfl) (inq inlX5) rfl 11 (by decide) (mq f_X5_63) (by rfl) ?_
      refine g_iconst (v := (3)) B dX5_hasAt_52 (by decide) ?_
      refine g_iload B dX5_hasAt_53 rfl ?_
      refine g_iast B dX5_hasAt_55 (by decide) (by rfl) (by exact i_vp (by decide) (by decide)) ?_
      refine g_aload_n B dX5_hasAt_56 rfl ?_
      refine g_getR (T := TX5) (N := 16) B dX5_hasAt_57 (by decide) (by rfl) (inq inlX5) rfl 11 (by decide) (mq f_X5_63) (by rfl) ?_
      refine g_iconst (v := (4)) B dX5_hasAt_60 (by decide) ?_
      refine g_iload B dX5_hasAt_61 rfl ?_
      refine g_iast B dX5_hasAt_63 (by decide) (by rfl) (by exact i_vp (by decide) (by decide)) ?_
      refine g_aload_n B dX5_hasAt_64 rfl ?_
      refine g_getR (T := TX5) (N := 16) B dX5_hasAt_65 (by decide) (by rfl) (inq inlX5) rfl 11 (by decide) (mq f_X5_63) (by rfl) ?_
      refine g_iconst (v := (5)) B dX5_hasAt_68 (by decide) ?_
      refine g_aload_n B dX5_hasAt_69 rfl ?_
      refine g_getI (T := TX5) (N := 16) B dX5_hasAt_70 (by decide) (by rfl) (inq inlX5) rfl 3 (by decide) (mq f_X5_23) (by rfl) ?_
      refine g_iast B dX5_hasAt_73 (by decide) (by rfl) (by exact i_vp (by decide) (by decide)) ?_
      refine g_st (fun σ hσ => ?_)
      simp only [cl0, cl1, cl2, cl3, cl4, cl5] at hσ
      have hp : pkz [2, 3] [] τ σ := by rw [hσ]; repeat (first | exact pkz.rf | refine pkz.upC ?_ (by decide) (by decide))
      have hE : envX σ = envN (τ.1 w t) (nI t) (τ.1 o 1) run tw (τ.1 0 3) := by
        rw [hσ]
        refine envX_N ?_ ?_ ?_ ?_ ?_ ?_ <;> rfl
      have hO : σ.1 o = τ.1 o := hp.1 o (by omega) (by simp; omega)
      refine g_aload_n B dX5_hasAt_74 rfl ?_
      refine g_getI (T := TX4) (N := 3) B dX5_hasAt_75 (hU.lt) (hU.lo) (inq inlX4) rfl 2 (by decide) (mq f_X5_114) (by rfl) ?_
      refine g_iload B dX5_hasAt_78 rfl ?_
      rw [show σ.1 o 2 = τ.1 o 2 from by rw [hO]]
      refine g_icmp_ne (tgt := 87) B dX5_hasAt_80 (by decide) (fun c80 => ?_) (fun c80 => ?_)
      · refine g_iconst (v := (0)) B dX5_hasAt_87 (by decide) ?_
        refine g_istore B dX5_hasAt_88 (by decide) rfl ?_
        refine g_aload_n B dX5_hasAt_90 rfl ?_
        refine g_iload B dX5_hasAt_91 rfl ?_
        refine g_if_eq (tgt := 100) B dX5_hasAt_93 (by decide) (fun c93 => ?_) (fun c93 => ?_)
        · refine g_iconst (v := (1)) B dX5_hasAt_100 (by decide) ?_
          refine g_aload_n B dX5_hasAt_101 rfl ?_
          refine g_getR (T := TX5) (N := 16) B dX5_hasAt_102 (by decide) (by rfl) (inq inlX5) rfl 11 (by decide) (mq f_X5_63) (by rfl) ?_
          refine g_aload_n B dX5_hasAt_105 rfl ?_
          refine g_getR (T := TX5) (N := 16) B dX5_hasAt_106 (by decide) (by rfl) (inq inlX5) rfl 12 (by decide) (mq f_X5_66) (by rfl) ?_
          refine g_callVi (C := RX3) (As := [.int _, .ref _, .ref _]) B dX5_hasAt_109 (gc1 g_X5_194) (by rfl) ⟨rfl, hd_X3_valueOf⟩ (by exact ⟨Nat.le_of_ble_eq_true rfl, Nat.le_of_ble_eq_true rfl⟩) ⟨rfl, rfl⟩ rfl rfl (by exact Nat.le_of_ble_eq_true rfl) (recv3 hT.1) (x_valueOf (hT.pz hp (by decide)) (by first | exact Or.inl rfl | exact Or.inr (Or.inl rfl)) (fun τ1 p1 => ?_))
          refine g_bipush (v := (-99)) B dX5_hasAt_112 (by decide) ?_
          refine g_bipush (v := (99)) B dX5_hasAt_114 (by decide) ?_
          refine g_callSi (As := [.int _, .int _, .int _]) B dX5_hasAt_116 (gc1 g_X5_198) (by rfl) hd_X5_bounded (by exact ⟨Nat.le_of_ble_eq_true rfl, Nat.le_of_ble_eq_true rfl⟩) ⟨rfl, rfl⟩ rfl rfl (by exact Nat.le_of_ble_eq_true rfl) (x_bounded (by decide) ?_)
          have hO1 : τ1.1 o = τ.1 o := (p1.1 o (by omega) (by simp; omega)).trans hO
          have hp1 := hp.trans (p1.mono (by decide) (by decide) : pkz [2, 3] [] σ τ1)
          rw [hE]
          refine g_istore B dX5_hasAt_119 (by decide) rfl ?_
          refine g_iload B dX5_hasAt_121 rfl ?_
          refine g_if_eq (tgt := 139) B dX5_hasAt_123 (by decide) (fun c123 => ?_) (fun c123 => ?_)
          · refine g_aload_n B dX5_hasAt_139 rfl ?_
            refine g_iload B dX5_hasAt_140 rfl ?_
            refine g_callVi (C := RX4) (As := [.int _]) B dX5_hasAt_142 (gc1 g_X5_204) (by rfl) ⟨rfl, hd_X4_ofMild⟩ (by exact ⟨Nat.le_of_ble_eq_true rfl, Nat.le_of_ble_eq_true rfl⟩) ⟨rfl, rfl⟩ rfl rfl (by exact Nat.le_of_ble_eq_true rfl) (hU.recv) (x_ofMild hU (by rw [hO1]; exact hk) ?_)
            refine g_ireti B dX5_hasAt_145 ?_
            refine kk ?_ (hK _ hp1)
            rw [hO1]
            first
              | (rw [sHas_own c80]; rfl)
              | (rw [sHas_mil c80]; rfl)
          · exact absurd rfl c123
        · exact absurd rfl c93
      · refine g_iconst (v := (1)) B dX5_hasAt_83 (by decide) ?_
        refine g_goto (tgt := 88) B dX5_hasAt_84 (by decide) ?_
        refine g_istore B dX5_hasAt_88 (by decide) rfl ?_
        refine g_aload_n B dX5_hasAt_90 rfl ?_
        refine g_iload B dX5_hasAt_91 rfl ?_
        refine g_if_eq (tgt := 100) B dX5_hasAt_93 (by decide) (fun c93 => ?_) (fun c93 => ?_)
        · exact absurd c93 (by decide)
        · refine g_iconst (v := (0)) B dX5_hasAt_96 (by decide) ?_
          refine g_goto (tgt := 101) B dX5_hasAt_97 (by decide) ?_
          refine g_aload_n B dX5_hasAt_101 rfl ?_
          refine g_getR (T := TX5) (N := 16) B dX5_hasAt_102 (by decide) (by rfl) (inq inlX5) rfl 11 (by decide) (mq f_X5_63) (by rfl) ?_
          refine g_aload_n B dX5_hasAt_105 rfl ?_
          refine g_getR (T := TX5) (N := 16) B dX5_hasAt_106 (by decide) (by rfl) (inq inlX5) rfl 12 (by decide) (mq f_X5_66) (by rfl) ?_
          refine g_callVi (C := RX3) (As := [.int _, .ref _, .ref _]) B dX5_hasAt_109 (gc1 g_X5_194) (by rfl) ⟨rfl, hd_X3_valueOf⟩ (by exact ⟨Nat.le_of_ble_eq_true rfl, Nat.le_of_ble_eq_true rfl⟩) ⟨rfl, rfl⟩ rfl rfl (by exact Nat.le_of_ble_eq_true rfl) (recv3 hT.1) (x_valueOf (hT.pz hp (by decide)) (by first | exact Or.inl rfl | exact Or.inr (Or.inl rfl)) (fun τ1 p1 => ?_))
          refine g_bipush (v := (-99)) B dX5_hasAt_112 (by decide) ?_
          refine g_bipush (v := (99)) B dX5_hasAt_114 (by decide) ?_
          refine g_callSi (As := [.int _, .int _, .int _]) B dX5_hasAt_116 (gc1 g_X5_198) (by rfl) hd_X5_bounded (by exact ⟨Nat.le_of_ble_eq_true rfl, Nat.le_of_ble_eq_true rfl⟩) ⟨rfl, rfl⟩ rfl rfl (by exact Nat.le_of_ble_eq_true rfl) (x_bounded (by decide) ?_)
          have hO1 : τ1.1 o = τ.1 o := (p1.1 o (by omega) (by simp; omega)).trans hO
          have hp1 := hp.trans (p1.mono (by decide) (by decide) : pkz [2, 3] [] σ τ1)
          rw [hE]
          refine g_istore B dX5_hasAt_119 (by decide) rfl ?_
          refine g_iload B dX5_hasAt_121 rfl ?_
          refine g_if_eq (tgt := 139) B dX5_hasAt_123 (by decide) (fun c123 => ?_) (fun c123 => ?_)
          · exact absurd c123 (by decide)
          · refine g_aload_n B dX5_hasAt_126 rfl ?_
            refine g_iload B dX5_hasAt_127 rfl ?_
            refine g_iload B dX5_hasAt_129 rfl ?_
            refine g_iload B dX5_hasAt_131 rfl ?_
            refine g_callVi (C := RX4) (As := [.int _, .int _, .int _]) B dX5_hasAt_133 (gc1 g_X5_201) (by rfl) ⟨rfl, hd_X4_ofWinter⟩ (by exact ⟨Nat.le_of_ble_eq_true rfl, Nat.le_of_ble_eq_true rfl⟩) ⟨rfl, rfl⟩ rfl rfl (by exact Nat.le_of_ble_eq_true rfl) (hU.recv) (x_ofWinter hU (by rw [hO1]; exact hk) ?_)
            refine g_goto (tgt := 145) B dX5_hasAt_136 (by decide) ?_
            refine g_ireti B dX5_hasAt_145 ?_
            refine kk ?_ (hK _ hp1)
            rw [hO1]
            first
              | (rw [sHas_own c80]; rfl)
              | (rw [sHas_mil c80]; rfl)

