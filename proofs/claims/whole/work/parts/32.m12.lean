/-! the best share from the last night back *reference* -/
/-- only the cells cs, and of cell 0 the places ks, and the long may be others -/
def pkz (cs ks : List Nat) (τ τ' : St) : Prop := (∀ o, o ≠ 0 → o ∉ cs → τ'.1 o = τ.1 o) ∧ (∀ k, k ∉ ks → τ'.1 0 k = τ.1 0 k) ∧ τ'.2.2 = τ.2.2
theorem pkz.rf {cs ks : List Nat} {τ : St} : pkz cs ks τ τ := ⟨fun _ _ _ => rfl, fun _ _ => rfl, rfl⟩
theorem pkz.trans {cs ks : List Nat} {a b c : St} (h1 : pkz cs ks a b) (h2 : pkz cs ks b c) : pkz cs ks a c := ⟨fun o h hc => (h2.1 o h hc).trans (h1.1 o h hc), fun k h => (h2.2.1 k h).trans (h1.2.1 k h), h2.2.2.trans h1.2.2⟩
theorem pkx.z {cs ks : List Nat} {a b : St} (h : pkx ks a b) : pkz cs ks a b := ⟨fun o ho _ => h.1 o ho, h.2.1, h.2.2⟩
theorem pkz.mono {cs ks cs' ks' : List Nat} {a b : St} (h : pkz cs ks a b) (hc : ∀ k, k ∈ cs → k ∈ cs') (hk : ∀ k, k ∈ ks → k ∈ ks') : pkz cs' ks' a b := ⟨fun o h0 hn => h.1 o h0 (fun q => hn (hc o q)), fun k hn => h.2.1 k (fun q => hn (hk k q)), h.2.2⟩
theorem pkz.up0 {cs ks : List Nat} {a b : St} {k : Nat} {v : Int32} (h : pkz cs ks a b) (hk : k ∈ ks) : pkz cs ks a (upS b 0 k v) :=
  ⟨fun o ho hc => by rw [upS_3 ho]; exact h.1 o ho hc, fun j hj => by rw [upS_2 (fun e => hj (by rw [e]; exact hk))]; exact h.2.1 j hj, h.2.2⟩
theorem pkz.upC {cs ks : List Nat} {a b : St} {o k : Nat} {v : Int32} (h : pkz cs ks a b) (h0 : o ≠ 0) (hc : o ∈ cs) : pkz cs ks a (upS b o k v) :=
  ⟨fun o' ho' hc' => by rw [upS_3 (fun e => hc' (by rw [e]; exact hc))]; exact h.1 o' ho' hc', fun j hj => by rw [upS_3 (Ne.symm h0)]; exact h.2.1 j hj, h.2.2⟩
theorem TXM.eq {τ τ' : St} {k n : Nat} {C : TC} (h : TXM τ k n C) (e1 : τ'.1 1 = τ.1 1) (e2 : τ'.1 2 = τ.1 2) : TXM τ' k n C := by
  obtain ⟨h1, h2, h3, h4, h5⟩ := h
  have eg : gM τ' k n = gM τ k n := by funext i; unfold gM; rw [e1]
  refine ⟨h1, by rw [e2]; exact h2, h3, fun i hi => by rw [e1]; exact h4 i hi, ?_⟩
  have eT : tT τ' k n = tT τ k n := by
    funext a
    show tokS _ (lxS _ a) = tokS _ (lxS _ a)
    rw [eg]
  have eW : tV τ' k n = tV τ k n := by
    funext a
    show tokV _ (lxS _ a) = tokV _ (lxS _ a)
    rw [eg]
  rw [eT, eW]
  exact h5
theorem RUL.eq {τ τ' : St} {C : TC} (h : RUL τ C) (e1 : τ'.1 1 = τ.1 1) (e2 : τ'.1 2 = τ.1 2) (e4 : τ'.1 0 4 = τ.1 0 4) : RUL τ' C := by
  obtain ⟨r, n, h1, h2⟩ := h
  exact ⟨r, n, e4.trans h1, h2.eq e1 e2⟩
theorem RUL.pz {cs ks : List Nat} {τ τ' : St} {C : TC} (h : RUL τ C) (hp : pkz cs ks τ τ') (h1 : 1 ∉ cs) (h2 : 2 ∉ cs) (h4 : 4 ∉ ks) : RUL τ' C := h.eq (hp.1 1 (by decide) h1) (hp.1 2 (by decide) h2) (hp.2.1 4 h4)
theorem vM_pz {cs ks : List Nat} {τ τ' : St} {C : TC} (h : pkz cs ks τ τ') (h4 : 4 ∉ cs) (h5 : 5 ∉ cs) (h6 : 6 ∉ cs) (hk : 11 ∉ ks) : vM τ' C = vM τ C := by
  unfold vM
  rw [h.2.1 11 hk, h.1 5 (by decide) h5, h.1 6 (by decide) h6, h.1 4 (by decide) h4]
def limV (V : VW) (t w : Nat) : Int32 := sMost V.1 (V.2.2.2.2.2 t) t (nI w) V.2.1
def gnV (V : VW) (t w r : Nat) : Nat → Int32 := fun u => sHas V.1 V.2.1 (V.2.2.1 u) (V.2.2.2.1 u) (V.2.2.2.2.1 u) (V.2.2.2.2.2 t) t (nI w) (nI r)
def gsV (V : VW) (t w r : Nat) : Int32 := smT (gnV V t w r) (V.2.1).toNatClampNeg
abbrev okV (V : VW) (t w r : Nat) : Prop := nI r ≤ limV V t w
/-- the run of the night behind -/
def rb (w r n : Nat) : Nat := if n = w then r + 1 else 1
/-- of those that may be the first that is the most -/
def nxF (c : Nat → Bool) (b : Nat → Int32) : Nat → Int32 × Int32
  | 0 => (0, 0)
  | n + 1 => if c n = true ∧ ((nxF c b n).1 = 0 ∨ ¬ b n ≤ (nxF c b n).2) then (1, b n) else nxF c b n
/-- the most from a night on that is a town's with a run; so many nights come behind it -/
def dpV (V : VW) : Nat → Nat → Nat → Int32
  | 0, w, r => gsV V 29 w r
  | k + 1, w, r => gsV V (28 - k) w r + (nxF (fun n => decide (okV V (29 - k) n (rb w r n))) (fun n => dpV V k n (rb w r n)) 2).2
theorem limV_bd (V : VW) (t w : Nat) : 1 ≤ (limV V t w).toInt ∧ (limV V t w).toInt ≤ 30 := by
  unfold limV sMost sSay
  rw [if_pos rfl]
  exact bd_rng (a := 1) (b := 30) (by decide)
theorem okV_1 (V : VW) (t w : Nat) : okV V t w 1 := by
  have := limV_bd V t w
  show nI 1 ≤ _
  rw [i_le, i_n (by omega)]
  omega
theorem rb_bd {w r n t : Nat} (h1 : 1 ≤ r) (h2 : r ≤ t + 1) : 1 ≤ rb w r n ∧ rb w r n ≤ t + 2 := by
  unfold rb
  split <;> omega
/-- one of the two towns may always be behind -/
theorem nx_is {V : VW} {t w r : Nat} {b : Nat → Int32} (hw : w < 2) : (nxF (fun n => decide (okV V t n (rb w r n))) b 2).1 = 1 := by
  have h1 := okV_1 V t (1 - w)
  have h2 : rb w r (1 - w) = 1 := if_neg (by omega)
  have hc : (fun n => decide (okV V t n (rb w r n))) (1 - w) = true := by
    show decide (okV V t (1 - w) (rb w r (1 - w))) = true
    rw [h2]
    exact decide_eq_true h1
  generalize (fun n => decide (okV V t n (rb w r n))) = c at *
  rcases (show w = 0 ∨ w = 1 by omega) with e | e
  · subst e
    have hc1 : c 1 = true := hc
    unfold nxF
    split
    · rfl
    next h =>
      by_cases q : (nxF c b 1).1 = 0
      · exact absurd ⟨hc1, Or.inl q⟩ h
      · unfold nxF at q ⊢
        split
        · rfl
        next h3 => exact absurd (by rw [if_neg h3]; rfl) q
  · subst e
    have hc0 : c 0 = true := hc
    have h3 : nxF c b 1 = (1, b 0) := by
      unfold nxF
      exact if_pos ⟨hc0, Or.inl rfl⟩
    unfold nxF
    split
    · rfl
    · rw [h3]
def spt (t w r : Nat) : Nat := 60 * t + 30 * w + r - 1
theorem spt_ne {t w r t' w' r' : Nat} (hw : w < 2) (hr : 1 ≤ r) (hr' : r ≤ 30) (hw2 : w' < 2) (h1 : 1 ≤ r') (h2 : r' ≤ 30) (h : ¬ (t = t' ∧ w = w' ∧ r = r')) : spt t w r ≠ spt t' w' r' := by
  unfold spt
  omega
set_option maxRecDepth 100000 in
set_option maxHeartbeats 4000000 in
theorem c_spot {ly : Lay} {Z : LZ} {ad : Nat → Nat} {τ : St} {K : Int32 → St → Prop} {x y z : Int32} {t w r : Nat} (hx : x = nI t) (hy : y = nI w) (hz : z = nI r) (hr : 1 ≤ r) (hK : K (nI (spt t w r)) τ) : CC ly Z ad yX6_spot wsX6_spot (rmk 0) [.int x, .int y, .int z] τ (rI K) := by
  refine CC.of (cc := cX6_spot) (nL := 3) (ret := (some .int)) rfl rfl ⟨rfl, rfl⟩ (by exact Nat.le_of_ble_eq_true rfl) ?_
  intro X B
  change GG _ _ _ _ X _ 0 [some (.int x), some (.int y), some (.int z)] [] _
  change Amb _ _ _ _ X _ _ RX6 _ _ at B
  subst hx hy hz
  refine g_bipush (v := (60)) B dX6_spot_0 (by decide) ?_
  refine g_iload_n B dX6_spot_2 rfl ?_
  refine g_imul B dX6_spot_3 ?_
  refine g_bipush (v := (30)) B dX6_spot_4 (by decide) ?_
  refine g_iload_n B dX6_spot_6 rfl ?_
  refine g_imul B dX6_spot_7 ?_
  refine g_iadd B dX6_spot_8 ?_
  refine g_iload_n B dX6_spot_9 rfl ?_
  refine g_iadd B dX6_spot_10 ?_
  refine g_iconst (v := (1)) B dX6_spot_11 (by decide) ?_
  refine g_isub B dX6_spot_12 ?_
  refine g_ireti B dX6_spot_13 ?_
  refine kk ?_ hK
  rw [show (60 : Int32) * nI t = nI (60 * t) from pk_mul 60 t, show (30 : Int32) * nI w = nI (30 * w) from pk_mul 30 w, nI_add, nI_add]
  exact pk_sub (b := 1) (by omega)
set_option maxRecDepth 100000 in
set_option maxHeartbeats 4000000 in
theorem c_spotBehind {Z : LZ} {ad : Nat → Nat} {τ : St} {K : Int32 → St → Prop} {x y z v : Int32} {t w r n : Nat} (hx : x = nI t) (hy : y = nI w) (hw : w < 2) (hz : z = nI r) (hr : r < 100) (hv : v = nI n) (hn : n < 2) (hK : K (nI (spt (t + 1) n (rb w r n))) τ) : CC lyM Z ad yX6_spotBehind wsX6_spotBehind (rmk 1) [.ref (ad 0), .int x, .int y, .int z, .int v] τ (rI K) := by
  refine CC.of (cc := cX6_spotBehind) (nL := 5) (ret := (some .int)) rfl rfl ⟨rfl, rfl⟩ (by exact Nat.le_of_ble_eq_true rfl) ?_
  intro X B
  change GG _ _ _ _ X _ 0 [some (.ref (ad 0)), some (.int x), some (.int y), some (.int z), some (.int v)] [] _
  change Amb _ _ _ _ X _ _ RX6 _ _ at B
  subst hx hy hz hv
  have e : nI n = nI w ↔ n = w := ⟨fun q => by have := congrArg Int32.toNatClampNeg q; rw [i_cl (by omega), i_cl (by omega)] at this; exact this, fun q => by rw [q]⟩
  refine g_iload_n B dX6_spotBehind_0 rfl ?_
  refine g_iconst (v := (1)) B dX6_spotBehind_1 (by decide) ?_
  refine g_iadd B dX6_spotBehind_2 ?_
  refine g_iload B dX6_spotBehind_3 rfl ?_
  refine g_iload B dX6_spotBehind_5 rfl ?_
  refine g_iload_n B dX6_spotBehind_7 rfl ?_
  refine g_icmp_ne (tgt := 17) B dX6_spotBehind_8 (by decide) (fun c8 => ?_) (fun c8 => ?_)
  · refine g_iconst (v := (1)) B dX6_spotBehind_17 (by decide) ?_
    refine g_callSi (As := [.int _, .int _, .int _]) B dX6_spotBehind_18 (gc1 g_X6_365) (by rfl) hd_X6_spot (by exact ⟨Nat.le_of_ble_eq_true rfl, Nat.le_of_ble_eq_true rfl⟩) ⟨rfl, rfl⟩ rfl rfl (by exact Nat.le_of_ble_eq_true rfl) (c_spot (t := t + 1) (w := n) (r := rb w r n) (nI_1 t) rfl (by
      unfold rb
      first
      | (rw [if_pos (e.mp c8)]; exact nI_1 r)
      | (rw [if_neg (fun q => c8 (e.mpr q))]; rfl)) (by unfold rb; split <;> omega) ?_)
    refine g_ireti B dX6_spotBehind_21 ?_
    exact hK
  · refine g_iload_n B dX6_spotBehind_11 rfl ?_
    refine g_iconst (v := (1)) B dX6_spotBehind_12 (by decide) ?_
    refine g_iadd B dX6_spotBehind_13 ?_
    refine g_goto (tgt := 18) B dX6_spotBehind_14 (by decide) ?_
    refine g_callSi (As := [.int _, .int _, .int _]) B dX6_spotBehind_18 (gc1 g_X6_365) (by rfl) hd_X6_spot (by exact ⟨Nat.le_of_ble_eq_true rfl, Nat.le_of_ble_eq_true rfl⟩) ⟨rfl, rfl⟩ rfl rfl (by exact Nat.le_of_ble_eq_true rfl) (c_spot (t := t + 1) (w := n) (r := rb w r n) (nI_1 t) rfl (by
      unfold rb
      first
      | (rw [if_pos (e.mp c8)]; exact nI_1 r)
      | (rw [if_neg (fun q => c8 (e.mpr q))]; rfl)) (by unfold rb; split <;> omega) ?_)
    refine g_ireti B dX6_spotBehind_21 ?_
    exact hK
/-- the entry of a night, a town and a run *of both rows* -/
def entM (V : VW) (τ : St) (t w r : Nat) : Prop := τ.1 8 (spt t w r) = b1 (okV V t w r) ∧ (okV V t w r → τ.1 7 (spt t w r) = dpV V (29 - t) w r)
theorem entM.eq {V : VW} {τ τ' : St} {t w r : Nat} (h : entM V τ t w r) (e7 : τ'.1 7 (spt t w r) = τ.1 7 (spt t w r)) (e8 : τ'.1 8 (spt t w r) = τ.1 8 (spt t w r)) : entM V τ' t w r := ⟨e8.trans h.1, fun q => e7.trans (h.2 q)⟩
set_option maxRecDepth 100000 in
set_option maxHeartbeats 4000000 in
theorem l_fills1 {Z : LZ} {ad : Nat → Nat} {X : CX} {K : Option Value → St → Prop} {τ0 : St} {t w r m q : Nat} {C : TC} (B : Amb lyM Z ad (rmk 44) X cX6_fills wsX6_fills RX6 10 none) (hC : RUL τ0 C) (ht : t < 30) (hm6 : m ≤ 6) (hm : τ0.1 0 11 = nI m) (hK : ∀ τ', pkx mS τ0 τ' → GG lyM Z ad (rmk 44) X K 76 [some (.ref (ad 0)), some (.int (nI t)), some (.int (nI w)), some (.int (nI r)), some (.int (nI q)), some (.int (smT (gnV (vM τ0 C) t w r) m)), some (.int (nI m)), none, none, none] [] τ') : ∀ (k i : Nat) (τ : St), i ≤ m → m - i < k → pkx mS τ0 τ → GG lyM Z ad (rmk 44) X K 47 [some (.ref (ad 0)), some (.int (nI t)), some (.int (nI w)), some (.int (nI r)), some (.int (nI q)), some (.int (smT (gnV (vM τ0 C) t w r) i)), some (.int (nI i)), none, none, none] [] τ := by
  intro k
  induction k with
  | zero => intro i τ _ h; omega
  | succ k ih =>
    intro i τ h1 h2 hp
    have e11 : τ.1 0 11 = nI m := (hp.2.1 11 (by decide)).trans hm
    refine g_iload B dX6_fills_47 rfl ?_
    refine g_aload_n B dX6_fills_49 rfl ?_
    refine g_getI (T := TX6) (N := 42) B dX6_fills_50 (by decide) (by rfl) (inq inlX6) rfl 11 (by decide) (mq f_X6_70) (by rfl) ?_
    refine g_icmp_ge (tgt := 76) B dX6_fills_53 (by decide) (fun c53 => ?_) (fun c53 => ?_)
    · rw [e11, nI_leI (by omega) (by omega)] at c53
      have e : i = m := by omega
      subst e
      exact hK τ hp
    · rw [e11, nI_leI (by omega) (by omega)] at c53
      refine g_iload B dX6_fills_56 rfl ?_
      refine g_aload_n B dX6_fills_58 rfl ?_
      refine g_iload B dX6_fills_59 rfl ?_
      refine g_iload_n B dX6_fills_61 rfl ?_
      refine g_iload_n B dX6_fills_62 rfl ?_
      refine g_iload_n B dX6_fills_63 rfl ?_
      refine g_callVi (C := RX6) (As := [.int _, .int _, .int _, .int _]) B dX6_fills_64 (gc1 g_X6_340) (by rfl) ⟨rfl, hd_X6_hasBy⟩ (by exact ⟨Nat.le_of_ble_eq_true rfl, Nat.le_of_ble_eq_true rfl⟩) ⟨rfl, rfl⟩ rfl rfl (by exact Nat.le_of_ble_eq_true rfl) recvM (c_hasBy (u := i) (t := t) (hC.pk hp) rfl (by omega) rfl ht (fun τ1 p1 => ?_))
      have eg : sHas C (τ.1 0 11) (τ.1 5 i) (τ.1 6 (2 * i)) (τ.1 6 (2 * i + 1)) (τ.1 4 t) t (nI w) (nI r) = gnV (vM τ0 C) t w r i := by
        rw [← vM_pk hp (by decide)]
        rfl
      rw [eg]
      refine g_iadd B dX6_fills_67 ?_
      refine g_istore B dX6_fills_68 (by decide) rfl ?_
      refine g_iinc (c9 := (1)) B dX6_fills_70 rfl (by decide) (by decide) rfl ?_
      refine g_goto (tgt := 47) B dX6_fills_73 (by decide) ?_
      rw [nI_1 i]
      exact ih (i + 1) τ1 (by omega) (by omega) (hp.trans p1)
set_option maxRecDepth 100000 in
set_option maxHeartbeats 4000000 in
theorem l_fills2 {Z : LZ} {ad : Nat → Nat} {X : CX} {K : Option Value → St → Prop} {τ : St} {t w r q : Nat} {v : Int32} {c : Nat → Bool} {b : Nat → Int32} (B : Amb lyM Z ad (rmk 44) X cX6_fills wsX6_fills RX6 10 none) (ht : t < 29) (hw : w < 2) (h1r : 1 ≤ r) (hr : r ≤ t + 1) (hc : ∀ n, n < 2 → τ.1 8 (spt (t + 1) n (rb w r n)) = b1 (c n = true)) (hb : ∀ n, n < 2 → c n = true → τ.1 7 (spt (t + 1) n (rb w r n)) = b n) (hK : GG lyM Z ad (rmk 44) X K 163 [some (.ref (ad 0)), some (.int (nI t)), some (.int (nI w)), some (.int (nI r)), some (.int (nI q)), some (.int v), some (.int (nxF c b 2).1), some (.int (nxF c b 2).2), some (.int (nI 2)), none] [] τ) : ∀ (k n : Nat), n + k = 2 → GG lyM Z ad (rmk 44) X K 101 [some (.ref (ad 0)), some (.int (nI t)), some (.int (nI w)), some (.int (nI r)), some (.int (nI q)), some (.int v), some (.int (nxF c b n).1), some (.int (nxF c b n).2), some (.int (nI n)), none] [] τ := by
  intro k
  induction k using Nat.strongRecOn with
  | ind k ih =>
    intro n h1
    have hbd := rb_bd (w := w) (n := n) h1r hr
    have hsp : n < 2 → spt (t + 1) n (rb w r n) < 1800 := fun q => by unfold spt; omega
    refine g_iload B dX6_fills_101 rfl ?_
    refine g_iconst (v := (2)) B dX6_fills_103 (by decide) ?_
    refine g_icmp_ge (tgt := 163) B dX6_fills_104 (by decide) (fun c104 => ?_) (fun c104 => ?_)
    · rw [show (2 : Int32) = nI 2 from rfl, nI_leI (by omega) (by omega)] at c104
      have e : n = 2 := by omega
      subst e
      exact hK
    · rw [show (2 : Int32) = nI 2 from rfl, nI_leI (by omega) (by omega)] at c104
      refine g_aload_n B dX6_fills_107 rfl ?_
      refine g_iload_n B dX6_fills_108 rfl ?_
      refine g_iload_n B dX6_fills_109 rfl ?_
      refine g_iload_n B dX6_fills_110 rfl ?_
      refine g_iload B dX6_fills_111 rfl ?_
      refine g_callVi (C := RX6) (As := [.int _, .int _, .int _, .int _]) B dX6_fills_113 (gc1 g_X6_368) (by rfl) ⟨rfl, hd_X6_spotBehind⟩ (by exact ⟨Nat.le_of_ble_eq_true rfl, Nat.le_of_ble_eq_true rfl⟩) ⟨rfl, rfl⟩ rfl rfl (by exact Nat.le_of_ble_eq_true rfl) recvM (c_spotBehind (t := t) (w := w) (r := r) (n := n) rfl rfl hw rfl (by omega) rfl (by omega) ?_)
      refine g_istore B dX6_fills_116 (by decide) rfl ?_
      refine g_aload_n B dX6_fills_118 rfl ?_
      refine g_getR (T := TX6) (N := 42) B dX6_fills_119 (by decide) (by rfl) (inq inlX6) rfl 28 (by decide) (mq f_X6_35) (by rfl) ?_
      refine g_iload B dX6_fills_122 rfl ?_
      refine g_zald B dX6_fills_124 (by decide) (by rfl) (by exact vp_in_nI (hsp (by omega)) (by omega)) ?_
      rw [i_cl (by have := hsp (by omega); omega), hc n (by omega)]
      refine g_if_eq (tgt := 157) B dX6_fills_125 (by decide) (fun c125 => ?_) (fun c125 => ?_)
      · refine g_iinc (c9 := (1)) B dX6_fills_157 rfl (by decide) (by decide) rfl ?_
        refine g_goto (tgt := 101) B dX6_fills_160 (by decide) ?_
        rw [nI_1 n]
        refine g_drop 9 ?_
        have h9 := ih (k - 1) (by omega) (n + 1) (by omega)
        unfold nxF at h9
        first
          | (rw [if_neg (fun z => b1_0.mp c125 z.1)] at h9; exact h9)
          | (rw [if_pos (And.intro (b1_n0.mp c125) (Or.inl c130))] at h9; exact h9)
          | (rw [if_pos (And.intro (b1_n0.mp c125) (Or.inr c142))] at h9; exact h9)
          | (rw [if_neg (fun z => z.2.elim c130 (fun z => z c142))] at h9; exact h9)
      · refine g_iload B dX6_fills_128 rfl ?_
        refine g_if_eq (tgt := 145) B dX6_fills_130 (by decide) (fun c130 => ?_) (fun c130 => ?_)
        · refine g_iconst (v := (1)) B dX6_fills_145 (by decide) ?_
          refine g_istore B dX6_fills_146 (by decide) rfl ?_
          refine g_aload_n B dX6_fills_148 rfl ?_
          refine g_getR (T := TX6) (N := 42) B dX6_fills_149 (by decide) (by rfl) (inq inlX6) rfl 27 (by decide) (mq f_X6_32) (by rfl) ?_
          refine g_iload B dX6_fills_152 rfl ?_
          refine g_iald B dX6_fills_154 (by decide) (by rfl) (by exact vp_in_nI (hsp (by omega)) (by omega)) ?_
          rw [i_cl (by have := hsp (by omega); omega), hb n (by omega) (b1_n0.mp c125)]
          refine g_istore B dX6_fills_155 (by decide) rfl ?_
          refine g_iinc (c9 := (1)) B dX6_fills_157 rfl (by decide) (by decide) rfl ?_
          refine g_goto (tgt := 101) B dX6_fills_160 (by decide) ?_
          rw [nI_1 n]
          refine g_drop 9 ?_
          have h9 := ih (k - 1) (by omega) (n + 1) (by omega)
          unfold nxF at h9
          first
            | (rw [if_neg (fun z => b1_0.mp c125 z.1)] at h9; exact h9)
            | (rw [if_pos (And.intro (b1_n0.mp c125) (Or.inl c130))] at h9; exact h9)
            | (rw [if_pos (And.intro (b1_n0.mp c125) (Or.inr c142))] at h9; exact h9)
            | (rw [if_neg (fun z => z.2.elim c130 (fun z => z c142))] at h9; exact h9)
        · refine g_aload_n B dX6_fills_133 rfl ?_
          refine g_getR (T := TX6) (N := 42) B dX6_fills_134 (by decide) (by rfl) (inq inlX6) rfl 27 (by decide) (mq f_X6_32) (by rfl) ?_
          refine g_iload B dX6_fills_137 rfl ?_
          refine g_iald B dX6_fills_139 (by decide) (by rfl) (by exact vp_in_nI (hsp (by omega)) (by omega)) ?_
          rw [i_cl (by have := hsp (by omega); omega), hb n (by omega) (b1_n0.mp c125)]
          refine g_iload B dX6_fills_140 rfl ?_
          refine g_icmp_le (tgt := 157) B dX6_fills_142 (by decide) (fun c142 => ?_) (fun c142 => ?_)
          · refine g_iinc (c9 := (1)) B dX6_fills_157 rfl (by decide) (by decide) rfl ?_
            refine g_goto (tgt := 101) B dX6_fills_160 (by decide) ?_
            rw [nI_1 n]
            refine g_drop 9 ?_
            have h9 := ih (k - 1) (by omega) (n + 1) (by omega)
            unfold nxF at h9
            first
              | (rw [if_neg (fun z => b1_0.mp c125 z.1)] at h9; exact h9)
              | (rw [if_pos (And.intro (b1_n0.mp c125) (Or.inl c130))] at h9; exact h9)
              | (rw [if_pos (And.intro (b1_n0.mp c125) (Or.inr c142))] at h9; exact h9)
              | (rw [if_neg (fun z => z.2.elim c130 (fun z => z c142))] at h9; exact h9)
          · refine g_iconst (v := (1)) B dX6_fills_145 (by decide) ?_
            refine g_istore B dX6_fills_146 (by decide) rfl ?_
            refine g_aload_n B dX6_fills_148 rfl ?_
            refine g_getR (T := TX6) (N := 42) B dX6_fills_149 (by decide) (by rfl) (inq inlX6) rfl 27 (by decide) (mq f_X6_32) (by rfl) ?_
            refine g_iload B dX6_fills_152 rfl ?_
            refine g_iald B dX6_fills_154 (by decide) (by rfl) (by exact vp_in_nI (hsp (by omega)) (by omega)) ?_
            rw [i_cl (by have := hsp (by omega); omega), hb n (by omega) (b1_n0.mp c125)]
            refine g_istore B dX6_fills_155 (by decide) rfl ?_
            refine g_iinc (c9 := (1)) B dX6_fills_157 rfl (by decide) (by decide) rfl ?_
            refine g_goto (tgt := 101) B dX6_fills_160 (by decide) ?_
            rw [nI_1 n]
            refine g_drop 9 ?_
            have h9 := ih (k - 1) (by omega) (n + 1) (by omega)
            unfold nxF at h9
            first
              | (rw [if_neg (fun z => b1_0.mp c125 z.1)] at h9; exact h9)
              | (rw [if_pos (And.intro (b1_n0.mp c125) (Or.inl c130))] at h9; exact h9)
              | (rw [if_pos (And.intro (b1_n0.mp c125) (Or.inr c142))] at h9; exact h9)
              | (rw [if_neg (fun z => z.2.elim c130 (fun z => z c142))] at h9; exact h9)
theorem nar1 : vp_nar .boolean 1 = 1 := rfl
theorem nar0 : vp_nar .boolean 0 = 0 := rfl
set_option maxRecDepth 100000 in
set_option maxHeartbeats 4000000 in
theorem h_fills5 {Z : LZ} {ad : Nat → Nat} {X : CX} {K : St → Prop} {τ τ3 : St} {t w r : Nat} {C : TC} (B : Amb lyM Z ad (rmk 44) X cX6_fills wsX6_fills RX6 10 none) (ht : t < 29) (hw : w < 2) (hsp : spt t w r < 1800) (hok : okV (vM τ C) t w r) (pp : pkz [7, 8] mS τ τ3) (e3 : ∀ j, j ≠ spt t w r → τ3.1 7 j = τ.1 7 j ∧ τ3.1 8 j = τ.1 8 j) (hK : ∀ τ', pkz [7, 8] mS τ τ' → (∀ j, j ≠ spt t w r → τ'.1 7 j = τ.1 7 j ∧ τ'.1 8 j = τ.1 8 j) → entM (vM τ C) τ' t w r → K τ') {v1 v2 : Int32} (e1 : v1 = 1) (e2 : gsV (vM τ C) t w r + v2 = dpV (vM τ C) (29 - t) w r) : GG lyM Z ad (rmk 44) X (rV K) 163 [some (.ref (ad 0)), some (.int (nI t)), some (.int (nI w)), some (.int (nI r)), some (.int (nI (spt t w r))), some (.int (gsV (vM τ C) t w r)), some (.int v1), some (.int v2), some (.int (nI 2)), none] [] (upS τ3 7 (spt t w r) (gsV (vM τ C) t w r)) := by
  have hcl : (nI (spt t w r)).toNatClampNeg = spt t w r := i_cl (by omega)
  refine g_aload_n B dX6_fills_163 rfl ?_
  refine g_getR (T := TX6) (N := 42) B dX6_fills_164 (by decide) (by rfl) (inq inlX6) rfl 28 (by decide) (mq f_X6_35) (by rfl) ?_
  refine g_iload B dX6_fills_167 rfl ?_
  refine g_iload B dX6_fills_169 rfl ?_
  refine g_zast B dX6_fills_171 (by decide) (by rfl) (by exact vp_in_nI hsp (by omega)) ?_
  rw [hcl]
  refine g_aload_n B dX6_fills_172 rfl ?_
  refine g_getR (T := TX6) (N := 42) B dX6_fills_173 (by decide) (by rfl) (inq inlX6) rfl 27 (by decide) (mq f_X6_32) (by rfl) ?_
  refine g_iload B dX6_fills_176 rfl ?_
  refine g_iload B dX6_fills_178 rfl ?_
  refine g_iload B dX6_fills_180 rfl ?_
  refine g_iadd B dX6_fills_182 ?_
  refine g_iast B dX6_fills_183 (by decide) (by rfl) (by exact vp_in_nI hsp (by omega)) ?_
  rw [hcl]
  refine g_vreti B dX6_fills_184 ?_
  refine hK _ (((pp.upC (by decide) (by decide)).upC (by decide) (by decide)).upC (by decide) (by decide)) (fun j hj => ⟨by rw [upS_2 hj, upS_3 (by decide), upS_2 hj]; exact (e3 j hj).1, by rw [upS_3 (by decide), upS_2 hj, upS_3 (by decide)]; exact (e3 j hj).2⟩) ⟨?_, fun _ => ?_⟩
  · rw [upS_3 (by decide), upS_1, b1_t hok, e1]
    rfl
  · rw [upS_1, e2]
theorem h_fills4 {Z : LZ} {ad : Nat → Nat} {X : CX} {K : St → Prop} {τ τ3 : St} {t w r : Nat} {C : TC} (B : Amb lyM Z ad (rmk 44) X cX6_fills wsX6_fills RX6 10 none) (ht : t < 29) (hw : w < 2) (h1r : 1 ≤ r) (hr : r ≤ t + 1) (hsp : spt t w r < 1800) (hok : okV (vM τ C) t w r) (hT : ∀ n, n < 2 → ∀ r', 1 ≤ r' → r' ≤ t + 2 → entM (vM τ C) τ (t + 1) n r') (pp : pkz [7, 8] mS τ τ3) (e3 : ∀ j, j ≠ spt t w r → τ3.1 7 j = τ.1 7 j ∧ τ3.1 8 j = τ.1 8 j) (hK : ∀ τ', pkz [7, 8] mS τ τ' → (∀ j, j ≠ spt t w r → τ'.1 7 j = τ.1 7 j ∧ τ'.1 8 j = τ.1 8 j) → entM (vM τ C) τ' t w r → K τ') : GG lyM Z ad (rmk 44) X (rV K) 101 [some (.ref (ad 0)), some (.int (nI t)), some (.int (nI w)), some (.int (nI r)), some (.int (nI (spt t w r))), some (.int (gsV (vM τ C) t w r)), some (.int 0), some (.int 0), some (.int 0), none] [] (upS τ3 7 (spt t w r) (gsV (vM τ C) t w r)) := by
  have hcl : (nI (spt t w r)).toNatClampNeg = spt t w r := i_cl (by omega)
  have hne : ∀ n, n < 2 → spt (t + 1) n (rb w r n) ≠ spt t w r := fun n hn => by
    have := rb_bd (w := w) (n := n) h1r hr
    exact spt_ne hn (by omega) (by omega) hw h1r (by omega) (by omega)
  have e5 : ∀ j, j ≠ spt t w r → (upS τ3 7 (spt t w r) (gsV (vM τ C) t w r)).1 7 j = τ.1 7 j ∧ (upS τ3 7 (spt t w r) (gsV (vM τ C) t w r)).1 8 j = τ.1 8 j := fun j hj => ⟨by rw [upS_2 hj]; exact (e3 j hj).1, by rw [upS_3 (by decide)]; exact (e3 j hj).2⟩
  have hent : ∀ n, n < 2 → entM (vM τ C) τ (t + 1) n (rb w r n) := fun n hn => hT n hn _ (rb_bd h1r hr).1 (rb_bd h1r hr).2
  refine l_fills2 (c := fun n => decide (okV (vM τ C) (t + 1) n (rb w r n))) (b := fun n => dpV (vM τ C) (29 - (t + 1)) n (rb w r n)) B ht hw h1r hr (fun n hn => ?_) (fun n hn hc => ?_) ?_ 2 0 rfl
  · rw [(e5 _ (hne n hn)).2, (hent n hn).1]
    exact b1_ct decide_eq_true_iff.symm
  · rw [(e5 _ (hne n hn)).1, (hent n hn).2 (of_decide_eq_true hc)]
  · exact h_fills5 B ht hw hsp hok pp e3 hK (nx_is hw) (by
      obtain ⟨k, hk⟩ : ∃ k, t = 28 - k ∧ k ≤ 28 := ⟨28 - t, by omega⟩
      obtain ⟨rfl, hk⟩ := hk
      have a1 : 29 - (28 - k) = k + 1 := by omega
      have a2 : 28 - k + 1 = 29 - k := by omega
      have a3 : 29 - (28 - k + 1) = k := by omega
      rw [a1, a2, show 29 - (29 - k) = k by omega]
      rfl)
set_option maxRecDepth 100000 in
set_option maxHeartbeats 4000000 in
theorem h_fills3 {Z : LZ} {ad : Nat → Nat} {X : CX} {K : St → Prop} {τ τ2 τ3 : St} {t w r m : Nat} {C : TC} (B : Amb lyM Z ad (rmk 44) X cX6_fills wsX6_fills RX6 10 none) (hm6 : m < 100) (ht : t < 30) (hw : w < 2) (h1r : 1 ≤ r) (hr : r ≤ t + 1) (hsp : spt t w r < 1800) (hok : okV (vM τ C) t w r) (hg : smT (gnV (vM τ C) t w r) m = gsV (vM τ C) t w r) (hT : t < 29 → ∀ n, n < 2 → ∀ r', 1 ≤ r' → r' ≤ t + 2 → entM (vM τ C) τ (t + 1) n r') (p2 : pkz [7, 8] mS τ τ2) (p3 : pkx mS τ2 τ3) (he : ∀ j, j ≠ spt t w r → τ2.1 7 j = τ.1 7 j ∧ τ2.1 8 j = τ.1 8 j) (h8 : τ2.1 8 (spt t w r) = vp_nar .boolean 1) (hK : ∀ τ', pkz [7, 8] mS τ τ' → (∀ j, j ≠ spt t w r → τ'.1 7 j = τ.1 7 j ∧ τ'.1 8 j = τ.1 8 j) → entM (vM τ C) τ' t w r → K τ') : GG lyM Z ad (rmk 44) X (rV K) 76 [some (.ref (ad 0)), some (.int (nI t)), some (.int (nI w)), some (.int (nI r)), some (.int (nI (spt t w r))), some (.int (smT (gnV (vM τ C) t w r) m)), some (.int (nI m)), none, none, none] [] τ3 := by
  have hcl : (nI (spt t w r)).toNatClampNeg = spt t w r := i_cl (by omega)
  have pp : pkz [7, 8] mS τ τ3 := p2.trans p3.z
  have e3 : ∀ j, j ≠ spt t w r → τ3.1 7 j = τ.1 7 j ∧ τ3.1 8 j = τ.1 8 j := fun j hj => ⟨by rw [p3.1 7 (by decide)]; exact (he j hj).1, by rw [p3.1 8 (by decide)]; exact (he j hj).2⟩
  rw [hg]
  refine g_aload_n B dX6_fills_76 rfl ?_
  refine g_getR (T := TX6) (N := 42) B dX6_fills_77 (by decide) (by rfl) (inq inlX6) rfl 27 (by decide) (mq f_X6_32) (by rfl) ?_
  refine g_iload B dX6_fills_80 rfl ?_
  refine g_iload B dX6_fills_82 rfl ?_
  refine g_iast B dX6_fills_84 (by decide) (by rfl) (by exact vp_in_nI hsp (by omega)) ?_
  rw [hcl]
  refine g_iload_n B dX6_fills_85 rfl ?_
  refine g_bipush (v := (29)) B dX6_fills_86 (by decide) ?_
  refine g_icmp_ne (tgt := 92) B dX6_fills_88 (by decide) (fun c88 => ?_) (fun c88 => ?_)
  · refine g_iconst (v := (0)) B dX6_fills_92 (by decide) ?_
    refine g_istore B dX6_fills_93 (by decide) rfl ?_
    refine g_iconst (v := (0)) B dX6_fills_95 (by decide) ?_
    refine g_istore B dX6_fills_96 (by decide) rfl ?_
    refine g_iconst (v := (0)) B dX6_fills_98 (by decide) ?_
    refine g_istore B dX6_fills_99 (by decide) rfl ?_
    have ht29 : t < 29 := by
      rcases Nat.lt_or_ge t 29 with h | h
      · exact h
      · exact absurd (congrArg nI (show t = 29 by omega)) c88
    exact h_fills4 B ht29 hw h1r hr hsp hok (hT ht29) pp e3 hK
  · have e29 : t = 29 := by
      have := congrArg Int32.toNatClampNeg c88
      rw [i_cl (by omega), show (29 : Int32) = nI 29 from rfl, i_cl (by omega)] at this
      exact this
    refine g_vreti B dX6_fills_91 ?_
    refine hK _ (pp.upC (by decide) (by decide)) (fun j hj => ⟨by rw [upS_2 hj]; exact (e3 j hj).1, by rw [upS_3 (by decide)]; exact (e3 j hj).2⟩) ⟨?_, fun _ => ?_⟩
    · rw [upS_3 (by decide), p3.1 8 (by decide), h8, b1_t hok]
      rfl
    · rw [upS_1, e29]
      rfl
set_option maxRecDepth 100000 in
set_option maxHeartbeats 4000000 in
theorem c_fills {Z : LZ} {ad : Nat → Nat} {τ : St} {K : St → Prop} {x y z : Int32} {t w r m : Nat} {C : TC} (hC : RUL τ C) (hx : x = nI t) (ht : t < 30) (hy : y = nI w) (hw : w < 2) (hz : z = nI r) (h1r : 1 ≤ r) (hr : r ≤ t + 1) (hm6 : m ≤ 6) (hm : τ.1 0 11 = nI m) (hT : t < 29 → ∀ n, n < 2 → ∀ r', 1 ≤ r' → r' ≤ t + 2 → entM (vM τ C) τ (t + 1) n r') (hK : ∀ τ', pkz [7, 8] mS τ τ' → (∀ j, j ≠ spt t w r → τ'.1 7 j = τ.1 7 j ∧ τ'.1 8 j = τ.1 8 j) → entM (vM τ C) τ' t w r → K τ') : CC lyM Z ad yX6_fills wsX6_fills (rmk 44) [.ref (ad 0), .int x, .int y, .int z] τ (rV K) := by
  refine CC.of (cc := cX6_fills) (nL := 10) (ret := none) rfl rfl ⟨rfl, rfl⟩ (by exact Nat.le_of_ble_eq_true rfl) ?_
  intro X B
  change GG _ _ _ _ X _ 0 [some (.ref (ad 0)), some (.int x), some (.int y), some (.int z), none, none, none, none, none, none] [] _
  change Amb _ _ _ _ X _ _ RX6 _ _ at B
  subst hx hy hz
  have hsp : spt t w r < 1800 := by unfold spt; omega
  have hcl : (nI (spt t w r)).toNatClampNeg = spt t w r := i_cl (by omega)
  refine g_iload_n B dX6_fills_0 rfl ?_
  refine g_iload_n B dX6_fills_1 rfl ?_
  refine g_iload_n B dX6_fills_2 rfl ?_
  refine g_callSi (As := [.int _, .int _, .int _]) B dX6_fills_3 (gc1 g_X6_365) (by rfl) hd_X6_spot (by exact ⟨Nat.le_of_ble_eq_true rfl, Nat.le_of_ble_eq_true rfl⟩) ⟨rfl, rfl⟩ rfl rfl (by exact Nat.le_of_ble_eq_true rfl) (c_spot (t := t) (w := w) (r := r) rfl rfl rfl h1r ?_)
  refine g_istore B dX6_fills_6 (by decide) rfl ?_
  refine g_aload_n B dX6_fills_8 rfl ?_
  refine g_getR (T := TX6) (N := 42) B dX6_fills_9 (by decide) (by rfl) (inq inlX6) rfl 28 (by decide) (mq f_X6_35) (by rfl) ?_
  refine g_iload B dX6_fills_12 rfl ?_
  refine g_iload_n B dX6_fills_14 rfl ?_
  refine g_aload_n B dX6_fills_15 rfl ?_
  refine g_iload_n B dX6_fills_16 rfl ?_
  refine g_iload_n B dX6_fills_17 rfl ?_
  refine g_callVi (C := RX6) (As := [.int _, .int _]) B dX6_fills_18 (gc1 g_X6_120) (by rfl) ⟨rfl, hd_X6_mostOf⟩ (by exact ⟨Nat.le_of_ble_eq_true rfl, Nat.le_of_ble_eq_true rfl⟩) ⟨rfl, rfl⟩ rfl rfl (by exact Nat.le_of_ble_eq_true rfl) recvM (c_mostOf (t := t) hC rfl ht (fun τ1 p1 => ?_))
  have el : sMost C (τ.1 4 t) t (nI w) (τ.1 0 11) = limV (vM τ C) t w := rfl
  rw [el]
  refine g_icmp_gt (tgt := 28) B dX6_fills_21 (by decide) (fun c21 => ?_) (fun c21 => ?_)
  · refine g_iconst (v := (0)) B dX6_fills_28 (by decide) ?_
    refine g_zast B dX6_fills_29 (by decide) (by rfl) (by exact vp_in_nI hsp (by omega)) ?_
    rw [hcl]
    refine g_aload_n B dX6_fills_30 rfl ?_
    refine g_getR (T := TX6) (N := 42) B dX6_fills_31 (by decide) (by rfl) (inq inlX6) rfl 28 (by decide) (mq f_X6_35) (by rfl) ?_
    refine g_iload B dX6_fills_34 rfl ?_
    refine g_zald B dX6_fills_36 (by decide) (by rfl) (by exact vp_in_nI hsp (by omega)) ?_
    rw [hcl, upS_1]
    refine g_if_ne (tgt := 41) B dX6_fills_37 (by decide) (fun c37 => ?_) (fun c37 => ?_)
    · exact absurd nar0 c37
    · refine g_vreti B dX6_fills_40 ?_
      refine hK _ (p1.z.upC (by decide) (by decide)) (fun j hj => ⟨by rw [upS_3 (by decide), p1.1 7 (by decide)], by rw [upS_2 hj, p1.1 8 (by decide)]⟩) ⟨?_, fun q => absurd q (Int32.not_le.mpr c21)⟩
      rw [upS_1, b1_f (Int32.not_le.mpr c21)]
      rfl
  · refine g_iconst (v := (1)) B dX6_fills_24 (by decide) ?_
    refine g_goto (tgt := 29) B dX6_fills_25 (by decide) ?_
    refine g_zast B dX6_fills_29 (by decide) (by rfl) (by exact vp_in_nI hsp (by omega)) ?_
    rw [hcl]
    refine g_aload_n B dX6_fills_30 rfl ?_
    refine g_getR (T := TX6) (N := 42) B dX6_fills_31 (by decide) (by rfl) (inq inlX6) rfl 28 (by decide) (mq f_X6_35) (by rfl) ?_
    refine g_iload B dX6_fills_34 rfl ?_
    refine g_zald B dX6_fills_36 (by decide) (by rfl) (by exact vp_in_nI hsp (by omega)) ?_
    rw [hcl, upS_1]
    refine g_if_ne (tgt := 41) B dX6_fills_37 (by decide) (fun c37 => ?_) (fun c37 => ?_)
    · refine g_iconst (v := (0)) B dX6_fills_41 (by decide) ?_
      refine g_istore B dX6_fills_42 (by decide) rfl ?_
      refine g_iconst (v := (0)) B dX6_fills_44 (by decide) ?_
      refine g_istore B dX6_fills_45 (by decide) rfl ?_
      have p2 : pkz [7, 8] mS τ (upS τ1 8 (spt t w r) (vp_nar .boolean 1)) := p1.z.upC (by decide) (by decide)
      have eV : vM (upS τ1 8 (spt t w r) (vp_nar .boolean 1)) C = vM τ C := vM_pz p2 (by decide) (by decide) (by decide) (by decide)
      refine l_fills1 B (hC.pz p2 (by decide) (by decide) (by decide)) ht hm6 ((p2.2.1 11 (by decide)).trans hm) (fun τ3 p3 => ?_) 10 0 _ (by omega) (by omega) pkx.rf
      rw [eV]
      exact h_fills3 B (by omega) ht hw h1r hr hsp (Int32.not_lt.mp c21) (by
        show smT (gnV (vM τ C) t w r) m = smT (gnV (vM τ C) t w r) ((τ.1 0 11).toNatClampNeg)
        rw [hm, i_cl (by omega)]) hT p2 p3 (fun j hj => ⟨by rw [upS_3 (by decide), p1.1 7 (by decide)], by rw [upS_2 hj, p1.1 8 (by decide)]⟩) upS_1 hK
    · exact absurd (nar1.symm.trans c37) (by decide)

