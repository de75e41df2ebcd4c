/-! colds drawn, films *reference* -/
def dz (seed : Int32) : Nat → Int32
  | 0 => seed
  | t + 1 => dz seed t * 1103515245 + 12345
def ush9 (z : Int32) : Int32 := (z.toUInt32 >>> ((9 : Int32).toUInt32 &&& Int32.toUInt32 31)).toInt32
def dc (z : Int32) : Int32 := ush9 z - ush9 z / 10 * 10
def drT (τ : St) (seed : Int32) : Nat → St
  | 0 => τ
  | i + 1 => upS (upS (drT τ seed i) 9 i (τ.1 4 i)) 4 i (dc (dz seed (i + 1)))
theorem drT_o {τ : St} {seed : Int32} {o : Nat} (h4 : o ≠ 4) (h9 : o ≠ 9) : ∀ i, (drT τ seed i).1 o = τ.1 o
  | 0 => rfl
  | i + 1 => by
    unfold drT
    rw [upS_3 h4, upS_3 h9]
    exact drT_o h4 h9 i
theorem drT_2 {τ : St} {seed : Int32} : ∀ i, (drT τ seed i).2 = τ.2
  | 0 => rfl
  | i + 1 => drT_2 (seed := seed) i
theorem drT_4 {τ : St} {seed : Int32} : ∀ i j, (drT τ seed i).1 4 j = if j < i then dc (dz seed (j + 1)) else τ.1 4 j
  | 0, j => by rw [if_neg (by omega)]; rfl
  | i + 1, j => by
    unfold drT
    by_cases e : j = i
    · subst e
      rw [upS_1, if_pos (by omega)]
    · rw [upS_2 e, upS_3 (by decide), drT_4 i j]
      by_cases q : j < i
      · rw [if_pos q, if_pos (by omega)]
      · rw [if_neg q, if_neg (by omega)]
theorem drT_9 {τ : St} {seed : Int32} : ∀ i j, (drT τ seed i).1 9 j = if j < i then τ.1 4 j else τ.1 9 j
  | 0, j => by rw [if_neg (by omega)]; rfl
  | i + 1, j => by
    unfold drT
    rw [upS_3 (by decide)]
    by_cases e : j = i
    · subst e
      rw [upS_1, if_pos (by omega)]
    · rw [upS_2 e, drT_9 i j]
      by_cases q : j < i
      · rw [if_pos q, if_pos (by omega)]
      · rw [if_neg q, if_neg (by omega)]
set_option maxRecDepth 100000 in
set_option maxHeartbeats 4000000 in
theorem l_draws {Z : LZ} {ad : Nat → Nat} {X : CX} {K : St → Prop} {τ : St} {seed : Int32} (B : Amb lyM Z ad (rmk 2) X cX6_draws wsX6_draws RX6 4 none) (hK : K (drT τ seed 30)) : ∀ (k i : Nat), i + k = 30 → GG lyM Z ad (rmk 2) X (rV K) 4 [some (.ref (ad 0)), some (.int seed), some (.int (dz seed i)), some (.int (nI i))] [] (drT τ seed i) := by
  intro k
  induction k using Nat.strongRecOn with
  | ind k ih =>
    intro i h1
    refine g_iload_n B dX6_draws_4 rfl ?_
    refine g_bipush (v := (30)) B dX6_draws_5 (by decide) ?_
    refine g_icmp_ge (tgt := 51) B dX6_draws_7 (by decide) (fun c7 => ?_) (fun c7 => ?_)
    · refine g_vreti B dX6_draws_51 ?_
      rw [show (30 : Int32) = nI 30 from rfl, nI_leI (by omega) (by omega)] at c7
      have e : i = 30 := by omega
      subst e
      exact hK
    · rw [show (30 : Int32) = nI 30 from rfl, nI_leI (by omega) (by omega)] at c7
      refine g_aload_n B dX6_draws_10 rfl ?_
      refine g_getR (T := TX6) (N := 42) B dX6_draws_11 (by decide) (by rfl) (inq inlX6) rfl 32 (by decide) (mq f_X6_39) (by rfl) ?_
      refine g_iload_n B dX6_draws_14 rfl ?_
      refine g_aload_n B dX6_draws_15 rfl ?_
      refine g_getR (T := TX6) (N := 42) B dX6_draws_16 (by decide) (by rfl) (inq inlX6) rfl 8 (by decide) (mq f_X6_23) (by rfl) ?_
      refine g_iload_n B dX6_draws_19 rfl ?_
      refine g_iald B dX6_draws_20 (by decide) (by rfl) (by exact vp_in_nI (n := i) (by omega) (by omega)) ?_
      rw [i_cl (by omega), drT_4, if_neg (by omega)]
      refine g_iast B dX6_draws_21 (by decide) (by rfl) (by exact vp_in_nI (n := i) (by omega) (by omega)) ?_
      rw [i_cl (by omega)]
      refine g_iload_n B dX6_draws_22 rfl ?_
      refine g_ldcw (v := (1103515245)) B dX6_draws_23 (mq k_X6_402) ?_
      refine g_imul B dX6_draws_26 ?_
      refine g_sipush (v := (12345)) B dX6_draws_27 (by decide) ?_
      refine g_iadd B dX6_draws_30 ?_
      refine g_istore_n B dX6_draws_31 (by decide) rfl ?_
      refine g_aload_n B dX6_draws_32 rfl ?_
      refine g_getR (T := TX6) (N := 42) B dX6_draws_33 (by decide) (by rfl) (inq inlX6) rfl 8 (by decide) (mq f_X6_23) (by rfl) ?_
      refine g_iload_n B dX6_draws_36 rfl ?_
      refine g_iload_n B dX6_draws_37 rfl ?_
      refine g_bipush (v := (9)) B dX6_draws_38 (by decide) ?_
      refine g_iushr B dX6_draws_40 rfl ?_
      refine g_bipush (v := (10)) B dX6_draws_41 (by decide) ?_
      refine g_irem B dX6_draws_43 (by decide) ?_
      refine g_iast B dX6_draws_44 (by decide) (by rfl) (by exact vp_in_nI (n := i) (by omega) (by omega)) ?_
      rw [i_cl (by omega)]
      refine g_iinc (c9 := (1)) B dX6_draws_45 rfl (by decide) (by decide) rfl ?_
      refine g_goto (tgt := 4) B dX6_draws_48 (by decide) ?_
      rw [nI_1 i]
      exact ih (k - 1) (by omega) (i + 1) (by omega)
set_option maxRecDepth 100000 in
set_option maxHeartbeats 4000000 in
theorem c_draws {Z : LZ} {ad : Nat → Nat} {τ : St} {K : St → Prop} {seed : Int32} (hK : K (drT τ seed 30)) : CC lyM Z ad yX6_draws wsX6_draws (rmk 2) [.ref (ad 0), .int seed] τ (rV K) := by
  refine CC.of (cc := cX6_draws) (nL := 4) (ret := none) rfl rfl ⟨rfl, rfl⟩ (by exact Nat.le_of_ble_eq_true rfl) ?_
  intro X B
  change GG _ _ _ _ X _ 0 [some (.ref (ad 0)), some (.int seed), none, none] [] _
  change Amb _ _ _ _ X _ _ RX6 _ _ at B
  refine g_iload_n B dX6_draws_0 rfl ?_
  refine g_istore_n B dX6_draws_1 (by decide) rfl ?_
  refine g_iconst (v := (0)) B dX6_draws_2 (by decide) ?_
  refine g_istore_n B dX6_draws_3 (by decide) rfl ?_
  exact l_draws B hK 30 0 rfl
set_option maxRecDepth 100000 in
set_option maxHeartbeats 4000000 in
theorem l_warms {Z : LZ} {ad : Nat → Nat} {X : CX} {K : St → Prop} {τ : St} (B : Amb lyM Z ad (rmk 2) X cX6_warms wsX6_warms RX6 2 none) (hK : K (cpG τ 9 4 30)) : ∀ (k i : Nat), i + k = 30 → GG lyM Z ad (rmk 2) X (rV K) 2 [some (.ref (ad 0)), some (.int (nI i))] [] (cpG τ 9 4 i) := by
  intro k
  induction k using Nat.strongRecOn with
  | ind k ih =>
    intro i h1
    refine g_iload_n B dX6_warms_2 rfl ?_
    refine g_bipush (v := (30)) B dX6_warms_3 (by decide) ?_
    refine g_icmp_ge (tgt := 26) B dX6_warms_5 (by decide) (fun c5 => ?_) (fun c5 => ?_)
    · refine g_vreti B dX6_warms_26 ?_
      rw [show (30 : Int32) = nI 30 from rfl, nI_leI (by omega) (by omega)] at c5
      have e : i = 30 := by omega
      subst e
      exact hK
    · rw [show (30 : Int32) = nI 30 from rfl, nI_leI (by omega) (by omega)] at c5
      refine g_aload_n B dX6_warms_8 rfl ?_
      refine g_getR (T := TX6) (N := 42) B dX6_warms_9 (by decide) (by rfl) (inq inlX6) rfl 8 (by decide) (mq f_X6_23) (by rfl) ?_
      refine g_iload_n B dX6_warms_12 rfl ?_
      refine g_aload_n B dX6_warms_13 rfl ?_
      refine g_getR (T := TX6) (N := 42) B dX6_warms_14 (by decide) (by rfl) (inq inlX6) rfl 32 (by decide) (mq f_X6_39) (by rfl) ?_
      refine g_iload_n B dX6_warms_17 rfl ?_
      refine g_iald B dX6_warms_18 (by decide) (by rfl) (by exact vp_in_nI (n := i) (by omega) (by omega)) ?_
      rw [i_cl (by omega), cpG_o (by decide)]
      refine g_iast B dX6_warms_19 (by decide) (by rfl) (by exact vp_in_nI (n := i) (by omega) (by omega)) ?_
      rw [i_cl (by omega)]
      refine g_iinc (c9 := (1)) B dX6_warms_20 rfl (by decide) (by decide) rfl ?_
      refine g_goto (tgt := 2) B dX6_warms_23 (by decide) ?_
      rw [nI_1 i]
      exact ih (k - 1) (by omega) (i + 1) (by omega)
set_option maxRecDepth 100000 in
set_option maxHeartbeats 4000000 in
theorem c_warms {Z : LZ} {ad : Nat → Nat} {τ : St} {K : St → Prop} (hK : K (cpG τ 9 4 30)) : CC lyM Z ad yX6_warms wsX6_warms (rmk 2) [.ref (ad 0)] τ (rV K) := by
  refine CC.of (cc := cX6_warms) (nL := 2) (ret := none) rfl rfl ⟨rfl, rfl⟩ (by exact Nat.le_of_ble_eq_true rfl) ?_
  intro X B
  change GG _ _ _ _ X _ 0 [some (.ref (ad 0)), none] [] _
  change Amb _ _ _ _ X _ _ RX6 _ _ at B
  refine g_iconst (v := (0)) B dX6_warms_0 (by decide) ?_
  refine g_istore_n B dX6_warms_1 (by decide) rfl ?_
  exact l_warms B hK 30 0 rfl
/-- the view with the colds of a seed -/
def vD (V : VW) (seed : Int32) : VW := (V.1, (V.2.1, (V.2.2.1, (V.2.2.2.1, (V.2.2.2.2.1, fun j => if j < 30 then dc (dz seed (j + 1)) else V.2.2.2.2.2 j)))))
theorem vM_dr {τ : St} {C : TC} {seed : Int32} : vM (drT τ seed 30) C = vD (vM τ C) seed := by
  unfold vM vD
  rw [drT_o (by decide) (by decide), drT_o (by decide) (by decide), drT_o (by decide) (by decide)]
  have : (drT τ seed 30).1 4 = fun j => if j < 30 then dc (dz seed (j + 1)) else τ.1 4 j := by
    funext j
    exact drT_4 30 j
  rw [this]
theorem RUL.dr {τ : St} {C : TC} {seed : Int32} (h : RUL τ C) : RUL (drT τ seed 30) C := h.eq (drT_o (by decide) (by decide) 30) (drT_o (by decide) (by decide) 30) (congrFun (drT_o (by decide) (by decide) 30) 4)
/-- warm again: as it was, the row behind apart -/
theorem wm_sg {τ τ1 : St} {seed : Int32} (p : pkx mS (drT τ seed 30) τ1) : pkz [9] mS τ (cpG τ1 9 4 30) := by
  refine ⟨fun o h0 hc => ?_, fun k hk => ?_, ?_⟩
  · by_cases e : o = 4
    · subst e
      funext j
      rw [cpG_1, p.1 9 (by decide), p.1 4 (by decide), drT_9, drT_4]
      by_cases q : j < 30
      · rw [if_pos q, if_pos q]
      · rw [if_neg q, if_neg q]
    · rw [cpG_o e, p.1 o h0, drT_o e (fun z => hc (by rw [z]; exact List.mem_cons_self))]
  · rw [cpG_o (by decide), p.2.1 k hk, drT_o (by decide) (by decide)]
  · rw [cpG_2, p.2.2, drT_2]
theorem sg9 {a b : St} (h : pkz [9] mS a b) : sg a b := (mQS h).mono (fun k hk => by rcases List.mem_cons.mp hk with e | hk; exact e ▸ List.mem_cons_of_mem _ (List.mem_cons_of_mem _ List.mem_cons_self); exact nomatch hk) (fun _ h => h)
def fDrawn (V : VW) (sh seed : Int32) : Int32 := woV (vD V seed) sh 2
set_option maxRecDepth 100000 in
set_option maxHeartbeats 4000000 in
theorem c_drawn {Z : LZ} {ad : Nat → Nat} {τ : St} {K : Int32 → St → Prop} {x : Int32} {m : Nat} {C : TC} (hC : RUL τ C) (hm6 : m ≤ 6) (hm : τ.1 0 11 = nI m) (hK : ∀ τ', sg τ τ' → K (fDrawn (vM τ C) (τ.1 0 7) x) τ') : CC lyM Z ad yX6_drawn wsX6_drawn (rmk 47) [.ref (ad 0), .int x] τ (rI K) := by
  refine CC.of (cc := cX6_drawn) (nL := 3) (ret := (some .int)) rfl rfl ⟨rfl, rfl⟩ (by exact Nat.le_of_ble_eq_true rfl) ?_
  intro X B
  change GG _ _ _ _ X _ 0 [some (.ref (ad 0)), some (.int x), none] [] _
  change Amb _ _ _ _ X _ _ RX6 _ _ at B
  refine g_aload_n B dX6_drawn_0 rfl ?_
  refine g_iload_n B dX6_drawn_1 rfl ?_
  refine g_callVv (C := RX6) (As := [.int _]) B dX6_drawn_2 (gc1 g_X6_403) (by rfl) ⟨rfl, hd_X6_draws⟩ (by exact ⟨Nat.le_of_ble_eq_true rfl, Nat.le_of_ble_eq_true rfl⟩) ⟨rfl, rfl⟩ rfl rfl (by exact Nat.le_of_ble_eq_true rfl) recvM (c_draws ?_)
  refine g_aload_n B dX6_drawn_5 rfl ?_
  refine g_aload_n B dX6_drawn_6 rfl ?_
  refine g_getI (T := TX6) (N := 42) B dX6_drawn_7 (by decide) (by rfl) (inq inlX6) rfl 7 (by decide) (mq f_X6_104) (by rfl) ?_
  rw [drT_o (by decide) (by decide)]
  refine g_iconst (v := (2)) B dX6_drawn_10 (by decide) ?_
  refine g_callVi (C := RX6) (As := [.int _, .int _]) B dX6_drawn_11 (gc1 g_X6_353) (by rfl) ⟨rfl, hd_X6_worthBy⟩ (by exact ⟨Nat.le_of_ble_eq_true rfl, Nat.le_of_ble_eq_true rfl⟩) ⟨rfl, rfl⟩ rfl rfl (by exact Nat.le_of_ble_eq_true rfl) recvM (c_worthBy hC.dr hm6 (by rw [drT_o (by decide) (by decide)]; exact hm) (fun τ1 p1 => ?_))
  refine g_istore_n B dX6_drawn_14 (by decide) rfl ?_
  refine g_aload_n B dX6_drawn_15 rfl ?_
  refine g_callVv (C := RX6) (As := []) B dX6_drawn_16 (gc1 g_X6_406) (by rfl) ⟨rfl, hd_X6_warms⟩ (by exact ⟨Nat.le_of_ble_eq_true rfl, Nat.le_of_ble_eq_true rfl⟩) ⟨rfl, rfl⟩ rfl rfl (by exact Nat.le_of_ble_eq_true rfl) recvM (c_warms ?_)
  refine g_iload_n B dX6_drawn_19 rfl ?_
  refine g_ireti B dX6_drawn_20 ?_
  rw [vM_dr]
  exact hK _ (sg9 (wm_sg p1))
def flT (τ : St) (s : Nat) (f : Nat → Int32) : Nat → St
  | 0 => τ
  | i + 1 => upS (flT τ s f i) 15 (40 * s + i) (f i)
theorem flT_o {τ : St} {s : Nat} {f : Nat → Int32} {o : Nat} (h : o ≠ 15) : ∀ i, (flT τ s f i).1 o = τ.1 o
  | 0 => rfl
  | i + 1 => by
    unfold flT
    rw [upS_3 h]
    exact flT_o h i
theorem zrT_o {τ : St} {s : Nat} {o : Nat} (h : o ≠ 15) : ∀ i, (zrT τ s i).1 o = τ.1 o
  | 0 => rfl
  | i + 1 => by
    unfold zrT
    rw [upS_3 h]
    exact zrT_o h i
theorem gSheet_o {τ : St} {x y z : Int32} {o : Nat} (h : o < 12) : (gSheet τ x y z).1 o = τ.1 o := by
  have h0 : ∀ s a, (gShe0 τ s a y z).1 o = τ.1 o := fun s a => by
    unfold gShe0
    rw [upS_3 (by omega), upS_3 (by omega), upS_3 (by omega)]
  unfold gSheet
  (repeat' split)
  · rfl
  · exact h0 _ _
  · rw [zrT_o (by omega)]
    exact h0 _ _
  · rfl
abbrev flmP (m : Nat) (x u n : Int32) : Prop := isSh x ∧ isUs m u ∧ 0 ≤ n.toInt ∧ n.toInt ≤ 30
def fFilm (m : Nat) (x u n : Int32) : Int32 := if flmP m x u n then n else -2
def gFilm (τ : St) (V : VW) (m : Nat) (x u n : Int32) : St := if flmP m x u n then flT (gSheet τ x 1 n) x.toNatClampNeg (hsV V (τ.1 0 7) u.toNatClampNeg) n.toNatClampNeg else τ
set_option maxRecDepth 100000 in
set_option maxHeartbeats 4000000 in
theorem l_film {Z : LZ} {ad : Nat → Nat} {X : CX} {K : Int32 → St → Prop} {σ : St} {s u n : Nat} {C : TC} (B : Amb lyM Z ad (rmk 46) X cX6_film wsX6_film RX6 5 (some .int)) (hC : RUL σ C) (hs : s < 4) (hu : u < 6) (hn : n ≤ 30) (hK : ∀ τ', sg (flT σ s (hsV (vM σ C) (σ.1 0 7) u) n) τ' → K (nI n) τ') : ∀ (k i : Nat) (τ : St), i + k = n → sg (flT σ s (hsV (vM σ C) (σ.1 0 7) u) i) τ → GG lyM Z ad (rmk 46) X (rI K) 41 [some (.ref (ad 0)), some (.int (nI s)), some (.int (nI u)), some (.int (nI n)), some (.int (nI i))] [] τ := by
  intro k
  induction k using Nat.strongRecOn with
  | ind k ih =>
    intro i τ h1 hp
    have e7 : τ.1 0 7 = σ.1 0 7 := by rw [hp.2.1 7 (by decide), flT_o (by decide)]
    have hC' : RUL τ C := (hC.eq (τ' := flT σ s (hsV (vM σ C) (σ.1 0 7) u) i) (flT_o (by decide) _) (flT_o (by decide) _) (congrFun (flT_o (by decide) _) _)).pz hp (by decide) (by decide) (by decide)
    have eV : vM τ C = vM σ C := by
      rw [vM_pz hp (by decide) (by decide) (by decide) (by decide)]
      unfold vM
      rw [flT_o (by decide), flT_o (by decide), flT_o (by decide), flT_o (by decide)]
    refine g_iload B dX6_film_41 rfl ?_
    refine g_iload_n B dX6_film_43 rfl ?_
    refine g_icmp_ge (tgt := 76) B dX6_film_44 (by decide) (fun c44 => ?_) (fun c44 => ?_)
    · refine g_iload_n B dX6_film_76 rfl ?_
      refine g_ireti B dX6_film_77 ?_
      rw [nI_leI (by omega) (by omega)] at c44
      have e : i = n := by omega
      subst e
      exact hK τ hp
    · rw [nI_leI (by omega) (by omega)] at c44
      refine g_aload_n B dX6_film_47 rfl ?_
      refine g_getR (T := TX6) (N := 42) B dX6_film_48 (by decide) (by rfl) (inq inlX6) rfl 41 (by decide) (mq f_X6_60) (by rfl) ?_
      refine g_bipush (v := (40)) B dX6_film_51 (by decide) ?_
      refine g_iload_n B dX6_film_53 rfl ?_
      refine g_imul B dX6_film_54 ?_
      rw [show (40 : Int32) * nI s = nI (40 * s) from pk_mul 40 s]
      refine g_iload B dX6_film_55 rfl ?_
      refine g_iadd B dX6_film_57 ?_
      rw [nI_add]
      refine g_aload_n B dX6_film_58 rfl ?_
      refine g_aload_n B dX6_film_59 rfl ?_
      refine g_getI (T := TX6) (N := 42) B dX6_film_60 (by decide) (by rfl) (inq inlX6) rfl 7 (by decide) (mq f_X6_104) (by rfl) ?_
      rw [e7]
      refine g_iload_n B dX6_film_63 rfl ?_
      refine g_iload B dX6_film_64 rfl ?_
      refine g_callVi (C := RX6) (As := [.int _, .int _, .int _]) B dX6_film_66 (gc1 g_X6_344) (by rfl) ⟨rfl, hd_X6_hasOf⟩ (by exact ⟨Nat.le_of_ble_eq_true rfl, Nat.le_of_ble_eq_true rfl⟩) ⟨rfl, rfl⟩ rfl rfl (by exact Nat.le_of_ble_eq_true rfl) recvM (c_hasOf (t := i) hC' rfl hu rfl (by omega) (fun τ1 p1 => ?_))
      rw [eV]
      refine g_iast B dX6_film_69 (by decide) (by rfl) (by exact vp_in_nI (n := 40 * s + i) (by omega) (by omega)) ?_
      rw [i_cl (by omega)]
      refine g_iinc (c9 := (1)) B dX6_film_70 rfl (by decide) (by decide) rfl ?_
      refine g_goto (tgt := 41) B dX6_film_73 (by decide) ?_
      rw [nI_1 i]
      exact ih (k - 1) (by omega) (i + 1) _ (by omega) (pkz.cg (hp.trans (sgx p1)))
set_option maxRecDepth 100000 in
set_option maxHeartbeats 4000000 in
theorem c_film {Z : LZ} {ad : Nat → Nat} {τ : St} {K : Int32 → St → Prop} {x y n : Int32} {m : Nat} {C : TC} (hC : RUL τ C) (hm6 : m ≤ 6) (hm : τ.1 0 11 = nI m) (hK : ∀ τ', sg (gFilm τ (vM τ C) m x y n) τ' → K (fFilm m x y n) τ') : CC lyM Z ad yX6_film wsX6_film (rmk 46) [.ref (ad 0), .int x, .int y, .int n] τ (rI K) := by
  refine CC.of (cc := cX6_film) (nL := 5) (ret := (some .int)) rfl rfl ⟨rfl, rfl⟩ (by exact Nat.le_of_ble_eq_true rfl) ?_
  intro X B
  change GG _ _ _ _ X _ 0 [some (.ref (ad 0)), some (.int x), some (.int y), some (.int n), none] [] _
  change Amb _ _ _ _ X _ _ RX6 _ _ at B
  unfold fFilm gFilm at hK
  refine g_iload_n B dX6_film_0 rfl ?_
  refine g_callSi (As := [.int _]) B dX6_film_1 (gc1 g_X6_391) (by rfl) hd_X6_isSheet (by exact ⟨Nat.le_of_ble_eq_true rfl, Nat.le_of_ble_eq_true rfl⟩) ⟨rfl, rfl⟩ rfl rfl (by exact Nat.le_of_ble_eq_true rfl) (c_isSheet ?_)
  refine g_if_eq (tgt := 27) B dX6_film_4 (by decide) (fun c4 => ?_) (fun c4 => ?_)
  · have hno : ¬ flmP m x y n := fun q => by
      first
      | exact b1_0.mp c4 q.1
      | exact b1_0.mp c12 q.2.1
      | exact b1_0.mp c24 q.2.2
    rw [if_neg hno, if_neg hno] at hK
    refine g_bipush (v := (-2)) B dX6_film_27 (by decide) ?_
    refine g_ireti B dX6_film_29 ?_
    exact hK _ pkz.rf
  · refine g_aload_n B dX6_film_7 rfl ?_
    refine g_iload_n B dX6_film_8 rfl ?_
    refine g_callVi (C := RX6) (As := [.int _]) B dX6_film_9 (gc1 g_X6_83) (by rfl) ⟨rfl, hd_X6_isUser⟩ (by exact ⟨Nat.le_of_ble_eq_true rfl, Nat.le_of_ble_eq_true rfl⟩) ⟨rfl, rfl⟩ rfl rfl (by exact Nat.le_of_ble_eq_true rfl) recvM (c_isUser hm6 hm ?_)
    refine g_if_eq (tgt := 27) B dX6_film_12 (by decide) (fun c12 => ?_) (fun c12 => ?_)
    · have hno : ¬ flmP m x y n := fun q => by
        first
        | exact b1_0.mp c4 q.1
        | exact b1_0.mp c12 q.2.1
        | exact b1_0.mp c24 q.2.2
      rw [if_neg hno, if_neg hno] at hK
      refine g_bipush (v := (-2)) B dX6_film_27 (by decide) ?_
      refine g_ireti B dX6_film_29 ?_
      exact hK _ pkz.rf
    · refine g_iload_n B dX6_film_15 rfl ?_
      refine g_i2l B dX6_film_16 rfl ?_
      refine g_lconst (v := (0)) B dX6_film_17 (by decide) ?_
      refine g_ldc2 (v := (30)) B dX6_film_18 (mq k_X6_397) ?_
      refine g_callSi (As := [.long _, .long _, .long _]) B dX6_film_21 (gc1 g_X6_73) (by rfl) hd_X6_in (by exact ⟨Nat.le_of_ble_eq_true rfl, Nat.le_of_ble_eq_true rfl⟩) ⟨rfl, rfl⟩ rfl rfl (by exact Nat.le_of_ble_eq_true rfl) (c_in ?_)
      rw [in_0, show (30 : Int64).toInt = 30 from rfl]
      refine g_if_ne (tgt := 30) B dX6_film_24 (by decide) (fun c24 => ?_) (fun c24 => ?_)
      · have hyes : flmP m x y n := ⟨b1_n0.mp c4, b1_n0.mp c12, b1_n0.mp c24⟩
        rw [if_pos hyes, if_pos hyes] at hK
        obtain ⟨s, hs, rfl⟩ := i_nat (n := 4) hyes.1.1 (by have := hyes.1.2; omega)
        obtain ⟨u, hu, rfl⟩ := i_nat (x := y) (n := m) hyes.2.1.1 hyes.2.1.2
        obtain ⟨n', hn', rfl⟩ := i_nat (x := n) (n := 31) hyes.2.2.1 (by have := hyes.2.2.2; omega)
        rw [i_cl (by omega), i_cl (by omega), i_cl (by omega)] at hK
        refine g_aload_n B dX6_film_30 rfl ?_
        refine g_iload_n B dX6_film_31 rfl ?_
        refine g_iconst (v := (1)) B dX6_film_32 (by decide) ?_
        refine g_iload_n B dX6_film_33 rfl ?_
        refine g_callVi (C := RX6) (As := [.int _, .int _, .int _]) B dX6_film_34 (gc1 g_X6_399) (by rfl) ⟨rfl, hd_X6_sheet⟩ (by exact ⟨Nat.le_of_ble_eq_true rfl, Nat.le_of_ble_eq_true rfl⟩) ⟨rfl, rfl⟩ rfl rfl (by exact Nat.le_of_ble_eq_true rfl) recvM (c_sheet ?_)
        refine g_pop B dX6_film_37 rfl ?_
        refine g_iconst (v := (0)) B dX6_film_38 (by decide) ?_
        refine g_istore B dX6_film_39 (by decide) rfl ?_
        have eV : vM (gSheet τ (nI s) 1 (nI n')) C = vM τ C := by
          unfold vM
          rw [gSheet_o (by decide), gSheet_o (by decide), gSheet_o (by decide), gSheet_o (by decide)]
        have e7 : (gSheet τ (nI s) 1 (nI n')).1 0 7 = τ.1 0 7 := by rw [gSheet_o (by decide)]
        refine l_film B (σ := gSheet τ (nI s) 1 (nI n')) (hC.eq (gSheet_o (by decide)) (gSheet_o (by decide)) (by rw [gSheet_o (by decide)])) hs (by omega) (by omega) ?_ n' 0 _ (by omega) pkz.rf
        rw [eV, e7]
        exact hK
      · have hno : ¬ flmP m x y n := fun q => by
          first
          | exact b1_0.mp c4 q.1
          | exact b1_0.mp c12 q.2.1
          | exact b1_0.mp c24 q.2.2
        rw [if_neg hno, if_neg hno] at hK
        refine g_bipush (v := (-2)) B dX6_film_27 (by decide) ?_
        refine g_ireti B dX6_film_29 ?_
        exact hK _ pkz.rf

