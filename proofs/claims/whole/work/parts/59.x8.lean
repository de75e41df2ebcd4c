/-! the program: the best share from the last night back *program* -/
theorem gsV_bd {V : VW} {m t w r : Nat} (hv : VOK V m) (hm6 : m ≤ 6) (hm : V.2.1 = nI m) (ht : t < 30) : -1260 ≤ (gsV V t w r).toInt ∧ (gsV V t w r).toInt ≤ 1260 := by
  unfold gsV
  rw [hm, i_cl (by omega)]
  have := smT_bd (f := gnV V t w r) m (by omega) (fun i hi => sHas_bd (hv.1 i hi) (hv.2 t ht))
  omega
theorem nx_one {V : VW} {t w r : Nat} {b : Nat → Int32} : (nxF (fun n => decide (okV V t n (rb w r n))) b 2).2 = (if okV V t 1 (rb w r 1) ∧ (¬ okV V t 0 (rb w r 0) ∨ ¬ b 1 ≤ b 0) then b 1 else if okV V t 0 (rb w r 0) then b 0 else 0) := by
  unfold nxF
  unfold nxF
  unfold nxF
  by_cases h0 : okV V t 0 (rb w r 0)
  · by_cases h1 : okV V t 1 (rb w r 1)
    · by_cases h2 : b 1 ≤ b 0
      · simp [h0, h1, h2]
      · simp [h0, h1, h2]
    · simp [h0, h1]
  · by_cases h1 : okV V t 1 (rb w r 1)
    · simp [h0, h1]
    · simp [h0, h1]
theorem ok_one {V : VW} {t w r : Nat} (hw : w < 2) : okV V t 0 (rb w r 0) ∨ okV V t 1 (rb w r 1) := by
  have h1 := okV_1 V t (1 - w)
  have h2 : rb w r (1 - w) = 1 := if_neg (by omega)
  rcases (show w = 0 ∨ w = 1 by omega) with e | e
  · subst e
    right
    rw [h2] 
    exact h1
  · subst e
    left
    rw [h2]
    exact h1
theorem dpV_bd {V : VW} {m : Nat} (hv : VOK V m) (hm6 : m ≤ 6) (hm : V.2.1 = nI m) : ∀ (k w r : Nat), k ≤ 29 → -(1260 * ((k : Int) + 1)) ≤ (dpV V k w r).toInt ∧ (dpV V k w r).toInt ≤ 1260 * ((k : Int) + 1)
  | 0, w, r, _ => by
    have := gsV_bd (t := 29) (w := w) (r := r) hv hm6 hm (by omega)
    unfold dpV
    omega
  | k + 1, w, r, hk => by
    have h1 := gsV_bd (t := 28 - k) (w := w) (r := r) hv hm6 hm (by omega)
    have h2 := dpV_bd hv hm6 hm k 0 (rb w r 0) (by omega)
    have h3 := dpV_bd hv hm6 hm k 1 (rb w r 1) (by omega)
    unfold dpV
    rw [nx_one]
    have e0 : (0 : Int32).toInt = 0 := rfl
    have key : ∀ x : Int32, (x = dpV V k 1 (rb w r 1) ∨ x = dpV V k 0 (rb w r 0) ∨ x = 0) → -(1260 * (((k + 1 : Nat) : Int) + 1)) ≤ (gsV V (28 - k) w r + x).toInt ∧ (gsV V (28 - k) w r + x).toInt ≤ 1260 * (((k + 1 : Nat) : Int) + 1) := by
      intro x hx
      rcases hx with e | e | e <;> subst e <;> rw [i_add] <;> omega
    split
    · exact key _ (Or.inl rfl)
    · split
      · exact key _ (Or.inr (Or.inl rfl))
      · exact key _ (Or.inr (Or.inr rfl))
/-- what is had from a night on, or less than all else *unlawful* -/
def ahV (V : VW) (t w r : Nat) : Int32 := if okV V t w r then dpV V (29 - t) w r else -2000000000
theorem ah_lt {V : VW} {m : Nat} (hv : VOK V m) (hm6 : m ≤ 6) (hm : V.2.1 = nI m) {t a b r s : Nat} (h1 : okV V t a r ∨ okV V t b s) : ahV V t a r < ahV V t b s ↔ okV V t b s ∧ (¬ okV V t a r ∨ ¬ dpV V (29 - t) b s ≤ dpV V (29 - t) a r) := by
  have b1 := dpV_bd hv hm6 hm (29 - t) a r (by omega)
  have b2 := dpV_bd hv hm6 hm (29 - t) b s (by omega)
  have e0 : (-2000000000 : Int32).toInt = -2000000000 := rfl
  unfold ahV
  by_cases h2 : okV V t a r <;> by_cases h3 : okV V t b s
  · rw [if_pos h2, if_pos h3, ← Int32.not_le]
    exact ⟨fun h => ⟨h3, Or.inr h⟩, fun h => h.2.elim (fun q => absurd h2 q) id⟩
  · rw [if_pos h2, if_neg h3, i_lt]
    exact ⟨fun h => by omega, fun h => absurd h.1 h3⟩
  · rw [if_neg h2, if_pos h3, i_lt]
    exact ⟨fun _ => ⟨h3, Or.inl h2⟩, fun _ => by omega⟩
  · exact absurd h1 (fun q => q.elim h2 h3)
theorem ah_max {V : VW} {m : Nat} (hv : VOK V m) (hm6 : m ≤ 6) (hm : V.2.1 = nI m) {t w r : Nat} (hw : w < 2) : (if ahV V t 0 (rb w r 0) < ahV V t 1 (rb w r 1) then ahV V t 1 (rb w r 1) else ahV V t 0 (rb w r 0)) = (nxF (fun n => decide (okV V t n (rb w r n))) (fun n => dpV V (29 - t) n (rb w r n)) 2).2 := by
  have h1 := ok_one (V := V) (t := t) (r := r) hw
  have h2 := ah_lt hv hm6 hm h1
  rw [nx_one]
  by_cases h3 : ahV V t 0 (rb w r 0) < ahV V t 1 (rb w r 1)
  · rw [if_pos h3, if_pos (h2.mp h3)]
    exact if_pos (h2.mp h3).1
  · rw [if_neg h3, if_neg (fun q => h3 (h2.mpr q))]
    have h0 : okV V t 0 (rb w r 0) := by
      rcases h1 with q | q
      · exact q
      · by_cases q0 : okV V t 0 (rb w r 0)
        · exact q0
        · exact absurd (h2.mpr ⟨q, Or.inl q0⟩) h3
    rw [if_pos h0]
    exact if_pos h0
theorem dpV_s {V : VW} {k w r : Nat} : dpV V (k + 1) w r = gsV V (28 - k) w r + (nxF (fun n => decide (okV V (29 - k) n (rb w r n))) (fun n => dpV V k n (rb w r n)) 2).2 := rfl
/-- the limits' row -/
def LIMX (V : VW) (τ : St) : Prop := ∀ t, t < 30 → ∀ w, w < 2 → τ.1 5 (2 * t + w) = limV V t w
def entX (V : VW) (τ : St) (t w r : Nat) : Prop := okV V t w r → τ.1 6 (spt t w r) = dpV V (29 - t) w r
def TBX (V : VW) (τ : St) (t : Nat) : Prop := ∀ t', t ≤ t' → t' < 30 → ∀ w, w < 2 → ∀ r, 1 ≤ r → r ≤ t' + 1 → entX V τ t' w r
theorem okC235 : okC [2, 3, 5] := by
  intro o h
  simp at h
  omega
theorem okC236 : okC [2, 3, 6] := by
  intro o h
  simp at h
  omega
theorem okC2356 : okC [2, 3, 5, 6] := by
  intro o h
  simp at h
  omega
set_option maxRecDepth 100000 in
set_option maxHeartbeats 4000000 in
theorem lx_lim {Z : LZ} {ad : Nat → Nat} {X : CX} {K : St → Prop} {τ0 : St} {m : Nat} {V : VW} (B : Amb lyX Z ad (rmk 3) X cX5_fillLimits wsX5_fillLimits RX5 2 none) (hX : XV τ0 1 V m) (hK : ∀ τ', pkz [2, 3, 5] [] τ0 τ' → LIMX V τ' → K τ') : ∀ (k i : Nat) (τ : St), i ≤ 30 → 30 - i < k → pkz [2, 3, 5] [] τ0 τ → (∀ t, t < i → ∀ w, w < 2 → τ.1 5 (2 * t + w) = limV V t w) → GG lyX Z ad (rmk 3) X (rV K) 2 [some (.ref (ad 0)), some (.int (nI i))] [] τ := by
  intro k
  induction k with
  | zero => intro i τ _ h; omega
  | succ k ih =>
    intro i τ h1 h2 hp hL
    have hX' := hX.pz hp okC235 (by decide) (by decide)
    refine g_iload_n B dX5_fillLimits_2 rfl ?_
    refine g_bipush (v := (30)) B dX5_fillLimits_3 (by decide) ?_
    refine g_icmp_ge (tgt := 44) B dX5_fillLimits_5 (by decide) (fun c5 => ?_) (fun c5 => ?_)
    · refine g_vreti B dX5_fillLimits_44 ?_
      rw [show (30 : Int32) = nI 30 from rfl, nI_leI (by omega) (by omega)] at c5
      have e : i = 30 := by omega
      subst e
      exact hK τ hp hL
    · rw [show (30 : Int32) = nI 30 from rfl, nI_leI (by omega) (by omega)] at c5
      obtain ⟨r, hr, hT⟩ := hX'.2.1
      refine g_aload_n B dX5_fillLimits_8 rfl ?_
      refine g_getR (T := TX5) (N := 16) B dX5_fillLimits_9 (by decide) (by rfl) (inq inlX5) rfl 14 (by decide) (mq f_X5_72) (by rfl) ?_
      refine g_iload_n B dX5_fillLimits_12 rfl ?_
      refine g_iconst (v := (2)) B dX5_fillLimits_13 (by decide) ?_
      refine g_imul B dX5_fillLimits_14 ?_
      rw [show nI i * (2 : Int32) = nI (2 * i) from by rw [Int32.mul_comm]; exact pk_mul 2 i]
      refine g_aload_n B dX5_fillLimits_15 rfl ?_
      refine g_iload_n B dX5_fillLimits_16 rfl ?_
      refine g_iconst (v := (0)) B dX5_fillLimits_17 (by decide) ?_
      refine g_callVi (C := RX5) (As := [.int _, .int _]) B dX5_fillLimits_18 (gc1 g_X5_133) (by rfl) ⟨rfl, hd_X5_mostOf⟩ (by exact ⟨Nat.le_of_ble_eq_true rfl, Nat.le_of_ble_eq_true rfl⟩) ⟨rfl, rfl⟩ rfl rfl (by exact Nat.le_of_ble_eq_true rfl) recv5 (x_mostOf (t := i) hr hT rfl (by omega) (fun τ1 p1 => ?_))
      rw [hX'.2.2.1.1, hX'.2.2.1.2 i (by omega)]
      refine g_iast B dX5_fillLimits_21 (by decide) (by rfl) (by exact vp_in_nI (n := 2 * i) (by omega) (by omega)) ?_
      rw [i_cl (show 2 * i < 2147483648 by omega)]
      refine g_st (fun σ hσ => ?_)
      have p1' : pkz [2, 3, 5] [] τ σ := by rw [hσ]; exact (p1.mono (by decide) (by decide)).upC (by decide) (by decide)
      have hXs := hX'.pz p1' okC235 (by decide) (by decide)
      have hs0 : ∀ j, σ.1 5 j = if j = 2 * i then limV V i 0 else τ.1 5 j := fun j => by
        rw [hσ]
        by_cases e : j = 2 * i
        · subst e; rw [upS_1, if_pos rfl]; rfl
        · rw [upS_2 e, if_neg e, p1.1 5 (by decide) (by decide)]
      obtain ⟨r2, hr2, hT2⟩ := hXs.2.1
      refine g_aload_n B dX5_fillLimits_22 rfl ?_
      refine g_getR (T := TX5) (N := 16) B dX5_fillLimits_23 (by decide) (by rfl) (inq inlX5) rfl 14 (by decide) (mq f_X5_72) (by rfl) ?_
      refine g_iload_n B dX5_fillLimits_26 rfl ?_
      refine g_iconst (v := (2)) B dX5_fillLimits_27 (by decide) ?_
      refine g_imul B dX5_fillLimits_28 ?_
      rw [show nI i * (2 : Int32) = nI (2 * i) from by rw [Int32.mul_comm]; exact pk_mul 2 i]
      refine g_iconst (v := (1)) B dX5_fillLimits_29 (by decide) ?_
      refine g_iadd B dX5_fillLimits_30 ?_
      rw [nI_1]
      refine g_aload_n B dX5_fillLimits_31 rfl ?_
      refine g_iload_n B dX5_fillLimits_32 rfl ?_
      refine g_iconst (v := (1)) B dX5_fillLimits_33 (by decide) ?_
      refine g_callVi (C := RX5) (As := [.int _, .int _]) B dX5_fillLimits_34 (gc1 g_X5_133) (by rfl) ⟨rfl, hd_X5_mostOf⟩ (by exact ⟨Nat.le_of_ble_eq_true rfl, Nat.le_of_ble_eq_true rfl⟩) ⟨rfl, rfl⟩ rfl rfl (by exact Nat.le_of_ble_eq_true rfl) recv5 (x_mostOf (t := i) hr2 hT2 rfl (by omega) (fun τ2 p2 => ?_))
      rw [hXs.2.2.1.1, hXs.2.2.1.2 i (by omega)]
      refine g_iast B dX5_fillLimits_37 (by decide) (by rfl) (by exact vp_in_nI (n := 2 * i + 1) (by omega) (by omega)) ?_
      rw [i_cl (show 2 * i + 1 < 2147483648 by omega)]
      refine g_iinc (c9 := (1)) B dX5_fillLimits_38 rfl (by decide) (by decide) rfl ?_
      refine g_goto (tgt := 2) B dX5_fillLimits_41 (by decide) ?_
      rw [nI_1 i]
      refine ih (i + 1) _ (by omega) (by omega) ((hp.trans p1').trans ((p2.mono (by decide) (by decide)).upC (by decide) (by decide))) (fun t ht w hw => ?_)
      by_cases e : 2 * t + w = 2 * i + 1
      · rw [e, upS_1, show t = i by omega, show w = 1 by omega]
        rfl
      · rw [upS_2 e, p2.1 5 (by decide) (by decide), hs0]
        by_cases e2 : 2 * t + w = 2 * i
        · rw [if_pos e2, show t = i by omega, show w = 0 by omega]
        · rw [if_neg e2]
          exact hL t (by omega) w hw
set_option maxRecDepth 100000 in
set_option maxHeartbeats 4000000 in
theorem x_lim {Z : LZ} {ad : Nat → Nat} {τ : St} {K : St → Prop} {m : Nat} {V : VW} (hX : XV τ 1 V m) (hK : ∀ τ', pkz [2, 3, 5] [] τ τ' → LIMX V τ' → K τ') : CC lyX Z ad yX5_fillLimits wsX5_fillLimits (rmk 3) [.ref (ad 0)] τ (rV K) := by
  refine CC.of (cc := cX5_fillLimits) (nL := 2) (ret := none) rfl rfl ⟨rfl, rfl⟩ (by exact Nat.le_of_ble_eq_true rfl) ?_
  intro X B
  change GG _ _ _ _ X _ 0 [some (.ref (ad 0)), none] [] _
  change Amb _ _ _ _ X _ _ RX5 _ _ at B
  refine g_iconst (v := (0)) B dX5_fillLimits_0 (by decide) ?_
  refine g_istore_n B dX5_fillLimits_1 (by decide) rfl ?_
  exact lx_lim B hX hK 40 0 τ (by omega) (by omega) pkz.rf (fun t ht => by omega)
set_option maxRecDepth 100000 in
set_option maxHeartbeats 4000000 in
theorem x_place {ly : Lay} {Z : LZ} {ad : Nat → Nat} {τ : St} {K : Int32 → St → Prop} {x y z : Int32} {t w r : Nat} (hx : x = nI t) (hy : y = nI w) (hz : z = nI r) (h1 : 1 ≤ r) (h2 : r ≤ 30) (hK : K (nI (spt t w r)) τ) : CC ly Z ad yX5_placeAhead wsX5_placeAhead (rmk 2) [.int x, .int y, .int z] τ (rI K) := by
  refine CC.of (cc := cX5_placeAhead) (nL := 3) (ret := (some .int)) rfl rfl ⟨rfl, rfl⟩ (by exact Nat.le_of_ble_eq_true rfl) ?_
  intro X B
  change GG _ _ _ _ X _ 0 [some (.int x), some (.int y), some (.int z)] [] _
  change Amb _ _ _ _ X _ _ RX5 _ _ at B
  subst hx hy hz
  refine g_iload_n B dX5_placeAhead_0 rfl ?_
  refine g_iconst (v := (2)) B dX5_placeAhead_1 (by decide) ?_
  refine g_imul B dX5_placeAhead_2 ?_
  refine g_iload_n B dX5_placeAhead_3 rfl ?_
  refine g_iadd B dX5_placeAhead_4 ?_
  refine g_bipush (v := (30)) B dX5_placeAhead_5 (by decide) ?_
  refine g_imul B dX5_placeAhead_7 ?_
  refine g_iload_n B dX5_placeAhead_8 rfl ?_
  refine g_iconst (v := (1)) B dX5_placeAhead_9 (by decide) ?_
  refine g_bipush (v := (30)) B dX5_placeAhead_10 (by decide) ?_
  refine g_callSi (As := [.int _, .int _, .int _]) B dX5_placeAhead_12 (gc1 g_X5_198) (by rfl) hd_X5_bounded (by exact ⟨Nat.le_of_ble_eq_true rfl, Nat.le_of_ble_eq_true rfl⟩) ⟨rfl, rfl⟩ rfl rfl (by exact Nat.le_of_ble_eq_true rfl) (x_bounded (by decide) ?_)
  refine g_iadd B dX5_placeAhead_15 ?_
  refine g_iconst (v := (1)) B dX5_placeAhead_16 (by decide) ?_
  refine g_isub B dX5_placeAhead_17 ?_
  refine g_ireti B dX5_placeAhead_18 ?_
  refine kk ?_ hK
  rw [show bd (nI r) 1 30 = nI r from by
    unfold bd
    rw [if_neg (by rw [i_lt, i_n (by omega), i1]; omega), if_neg (by rw [i_lt, i_n (by omega), i30]; omega)]]
  rw [show nI t * (2 : Int32) = nI (2 * t) from by rw [Int32.mul_comm]; exact pk_mul 2 t, nI_add, show nI (2 * t + w) * (30 : Int32) = nI (30 * (2 * t + w)) from by rw [Int32.mul_comm]; exact pk_mul 30 _, nI_add, show nI (30 * (2 * t + w) + r) - 1 = nI (30 * (2 * t + w) + r - 1) from pk_sub (b := 1) (by omega)]
  congr 1
  unfold spt
  omega
set_option maxRecDepth 100000 in
set_option maxHeartbeats 4000000 in
theorem x_ahead {Z : LZ} {ad : Nat → Nat} {τ : St} {K : Int32 → St → Prop} {x y b rbf : Int32} {t w r : Nat} {V : VW} (hx : x = nI t) (ht : t < 30) (hy : y = nI w) (hw : w < 2) (hr : (if nI w = b then rbf + 1 else 1) = nI r) (h1 : 1 ≤ r) (h2 : r ≤ t + 1) (hL : LIMX V τ) (hE : entX V τ t w r) (hK : K (ahV V t w r) τ) : CC lyX Z ad yX5_aheadBehind wsX5_aheadBehind (rmk 3) [.ref (ad 0), .int x, .int y, .int b, .int rbf] τ (rI K) := by
  refine CC.of (cc := cX5_aheadBehind) (nL := 6) (ret := (some .int)) rfl rfl ⟨rfl, rfl⟩ (by exact Nat.le_of_ble_eq_true rfl) ?_
  intro X B
  change GG _ _ _ _ X _ 0 [some (.ref (ad 0)), some (.int x), some (.int y), some (.int b), some (.int rbf), none] [] _
  change Amb _ _ _ _ X _ _ RX5 _ _ at B
  subst hx hy
  refine g_iload_n B dX5_aheadBehind_0 rfl ?_
  refine g_iload_n B dX5_aheadBehind_1 rfl ?_
  refine g_icmp_ne (tgt := 12) B dX5_aheadBehind_2 (by decide) (fun c2 => ?_) (fun c2 => ?_)
  · refine g_iconst (v := (1)) B dX5_aheadBehind_12 (by decide) ?_
    refine g_istore B dX5_aheadBehind_13 (by decide) rfl ?_
    have hr' := hr
    first
      | rw [if_pos c2] at hr'
      | rw [if_neg c2] at hr'
    rw [hr']
    refine g_iload B dX5_aheadBehind_15 rfl ?_
    refine g_aload_n B dX5_aheadBehind_17 rfl ?_
    refine g_getR (T := TX5) (N := 16) B dX5_aheadBehind_18 (by decide) (by rfl) (inq inlX5) rfl 14 (by decide) (mq f_X5_72) (by rfl) ?_
    refine g_iload_n B dX5_aheadBehind_21 rfl ?_
    refine g_iconst (v := (2)) B dX5_aheadBehind_22 (by decide) ?_
    refine g_imul B dX5_aheadBehind_23 ?_
    refine g_iload_n B dX5_aheadBehind_24 rfl ?_
    refine g_iadd B dX5_aheadBehind_25 ?_
    rw [show nI t * (2 : Int32) = nI (2 * t) from by rw [Int32.mul_comm]; exact pk_mul 2 t, nI_add]
    refine g_iald B dX5_aheadBehind_26 (by decide) (by rfl) (by exact vp_in_nI (n := 2 * t + w) (by omega) (by omega)) ?_
    rw [i_cl (show 2 * t + w < 2147483648 by omega), hL t ht w hw]
    refine g_icmp_le (tgt := 33) B dX5_aheadBehind_27 (by decide) (fun c27 => ?_) (fun c27 => ?_)
    · refine g_aload_n B dX5_aheadBehind_33 rfl ?_
      refine g_getR (T := TX5) (N := 16) B dX5_aheadBehind_34 (by decide) (by rfl) (inq inlX5) rfl 15 (by decide) (mq f_X5_75) (by rfl) ?_
      refine g_iload_n B dX5_aheadBehind_37 rfl ?_
      refine g_iload_n B dX5_aheadBehind_38 rfl ?_
      refine g_iload B dX5_aheadBehind_39 rfl ?_
      refine g_callSi (As := [.int _, .int _, .int _]) B dX5_aheadBehind_41 (gc1 g_X5_245) (by rfl) hd_X5_placeAhead (by exact ⟨Nat.le_of_ble_eq_true rfl, Nat.le_of_ble_eq_true rfl⟩) ⟨rfl, rfl⟩ rfl rfl (by exact Nat.le_of_ble_eq_true rfl) (x_place rfl rfl rfl h1 (by omega) ?_)
      refine g_iald B dX5_aheadBehind_44 (by decide) (by rfl) (by exact vp_in_nI (n := spt t w r) (by unfold spt; omega) (by omega)) ?_
      rw [i_cl (show spt t w r < 2147483648 by unfold spt; omega)]
      refine g_ireti B dX5_aheadBehind_45 ?_
      first
        | (refine kk ?_ hK
           rw [hE c27]
           exact (if_pos (show okV V t w r from c27)).symm)
        | exact kk (if_neg (show ¬ okV V t w r from c27)).symm hK
    · refine g_ldc (v := (-2000000000)) B dX5_aheadBehind_30 (mq k_X5_248) ?_
      refine g_ireti B dX5_aheadBehind_32 ?_
      first
        | (refine kk ?_ hK
           rw [hE c27]
           exact (if_pos (show okV V t w r from c27)).symm)
        | exact kk (if_neg (show ¬ okV V t w r from c27)).symm hK
  · refine g_iload B dX5_aheadBehind_5 rfl ?_
    refine g_iconst (v := (1)) B dX5_aheadBehind_7 (by decide) ?_
    refine g_iadd B dX5_aheadBehind_8 ?_
    refine g_goto (tgt := 13) B dX5_aheadBehind_9 (by decide) ?_
    refine g_istore B dX5_aheadBehind_13 (by decide) rfl ?_
    have hr' := hr
    first
      | rw [if_pos c2] at hr'
      | rw [if_neg c2] at hr'
    rw [hr']
    refine g_iload B dX5_aheadBehind_15 rfl ?_
    refine g_aload_n B dX5_aheadBehind_17 rfl ?_
    refine g_getR (T := TX5) (N := 16) B dX5_aheadBehind_18 (by decide) (by rfl) (inq inlX5) rfl 14 (by decide) (mq f_X5_72) (by rfl) ?_
    refine g_iload_n B dX5_aheadBehind_21 rfl ?_
    refine g_iconst (v := (2)) B dX5_aheadBehind_22 (by decide) ?_
    refine g_imul B dX5_aheadBehind_23 ?_
    refine g_iload_n B dX5_aheadBehind_24 rfl ?_
    refine g_iadd B dX5_aheadBehind_25 ?_
    rw [show nI t * (2 : Int32) = nI (2 * t) from by rw [Int32.mul_comm]; exact pk_mul 2 t, nI_add]
    refine g_iald B dX5_aheadBehind_26 (by decide) (by rfl) (by exact vp_in_nI (n := 2 * t + w) (by omega) (by omega)) ?_
    rw [i_cl (show 2 * t + w < 2147483648 by omega), hL t ht w hw]
    refine g_icmp_le (tgt := 33) B dX5_aheadBehind_27 (by decide) (fun c27 => ?_) (fun c27 => ?_)
    · refine g_aload_n B dX5_aheadBehind_33 rfl ?_
      refine g_getR (T := TX5) (N := 16) B dX5_aheadBehind_34 (by decide) (by rfl) (inq inlX5) rfl 15 (by decide) (mq f_X5_75) (by rfl) ?_
      refine g_iload_n B dX5_aheadBehind_37 rfl ?_
      refine g_iload_n B dX5_aheadBehind_38 rfl ?_
      refine g_iload B dX5_aheadBehind_39 rfl ?_
      refine g_callSi (As := [.int _, .int _, .int _]) B dX5_aheadBehind_41 (gc1 g_X5_245) (by rfl) hd_X5_placeAhead (by exact ⟨Nat.le_of_ble_eq_true rfl, Nat.le_of_ble_eq_true rfl⟩) ⟨rfl, rfl⟩ rfl rfl (by exact Nat.le_of_ble_eq_true rfl) (x_place rfl rfl rfl h1 (by omega) ?_)
      refine g_iald B dX5_aheadBehind_44 (by decide) (by rfl) (by exact vp_in_nI (n := spt t w r) (by unfold spt; omega) (by omega)) ?_
      rw [i_cl (show spt t w r < 2147483648 by unfold spt; omega)]
      refine g_ireti B dX5_aheadBehind_45 ?_
      first
        | (refine kk ?_ hK
           rw [hE c27]
           exact (if_pos (show okV V t w r from c27)).symm)
        | exact kk (if_neg (show ¬ okV V t w r from c27)).symm hK
    · refine g_ldc (v := (-2000000000)) B dX5_aheadBehind_30 (mq k_X5_248) ?_
      refine g_ireti B dX5_aheadBehind_32 ?_
      first
        | (refine kk ?_ hK
           rw [hE c27]
           exact (if_pos (show okV V t w r from c27)).symm)
        | exact kk (if_neg (show ¬ okV V t w r from c27)).symm hK
set_option maxRecDepth 100000 in
set_option maxHeartbeats 4000000 in
theorem lx_allAt {Z : LZ} {ad : Nat → Nat} {X : CX} {K : Int32 → St → Prop} {τ0 : St} {t w r m k0 : Nat} {V : VW} (B : Amb lyX Z ad (rmk 3) X cX5_allAt wsX5_allAt RX5 7 (some .int)) (hX : XV τ0 1 V m) (hT : TXX τ0 k0 V.1) (ht : t < 30) (hK : ∀ τ', pkz [2, 3] [] τ0 τ' → K (smT (gnV V t w r) m) τ') : ∀ (k i : Nat) (τ : St), i ≤ m → m - i < k → pkz [2, 3] [] τ0 τ → GG lyX Z ad (rmk 3) X (rI K) 16 [some (.ref (ad 0)), some (.int (nI t)), some (.int (nI w)), some (.int (nI r)), some (.ref (ad (k0 + 26))), some (.int (smT (gnV V t w r) i)), some (.int (nI i))] [] τ := by
  intro k
  induction k with
  | zero => intro i τ _ h; omega
  | succ k ih =>
    intro i τ h1 h2 hp
    have hX' := hX.pz hp okC23 (by decide) (by decide)
    have hT' := hT.pz hp (by decide)
    have hm6 := hX.2.2.2.1.1
    have hm := hX'.hm
    have hci : (nI i).toNatClampNeg = i := i_cl (by omega)
    refine g_iload B dX5_allAt_16 rfl ?_
    refine g_aload_n B dX5_allAt_18 rfl ?_
    refine g_getI (T := TX5) (N := 16) B dX5_allAt_19 (by decide) (by rfl) (inq inlX5) rfl 3 (by decide) (mq f_X5_23) (by rfl) ?_
    rw [hm]
    refine g_icmp_ge (tgt := 63) B dX5_allAt_22 (by decide) (fun c22 => ?_) (fun c22 => ?_)
    · refine g_iload B dX5_allAt_63 rfl ?_
      refine g_ireti B dX5_allAt_65 ?_
      rw [nI_leI (by omega) (by omega)] at c22
      have e : i = m := by omega
      subst e
      exact hK τ hp
    · rw [nI_leI (by omega) (by omega)] at c22
      have hU : UO (i + 20) := UO.u (by omega)
      have hx' := hX'.2.2.2.2 i (by omega)
      refine g_iload B dX5_allAt_25 rfl ?_
      refine g_bipush (v := (6)) B dX5_allAt_27 (by decide) ?_
      refine g_icmp_ge (tgt := 63) B dX5_allAt_29 (by decide) (fun c29 => ?_) (fun c29 => ?_)
      · exact absurd (i_le.mp c29) (by rw [i_n (by omega), i6]; omega)
      · refine g_iload B dX5_allAt_32 rfl ?_
        refine g_aload_n B dX5_allAt_34 rfl ?_
        refine g_aload_n B dX5_allAt_35 rfl ?_
        refine g_getR (T := TX5) (N := 16) B dX5_allAt_36 (by decide) (by rfl) (inq inlX5) rfl 2 (by decide) (mq f_X5_19) (by rfl) ?_
        refine g_iload B dX5_allAt_39 rfl ?_
        refine g_aald B dX5_allAt_41 (by decide) (by rfl) (by exact vp_in_nI (by omega) (by omega)) ?_
        rw [hci]
        refine g_aload B dX5_allAt_42 rfl ?_
        refine g_aload_n B dX5_allAt_44 rfl ?_
        refine g_getR (T := TX5) (N := 16) B dX5_allAt_45 (by decide) (by rfl) (inq inlX5) rfl 0 (by decide) (mq f_X5_9) (by rfl) ?_
        refine g_iload_n B dX5_allAt_48 rfl ?_
        refine g_iload_n B dX5_allAt_49 rfl ?_
        refine g_iload_n B dX5_allAt_50 rfl ?_
        refine g_callVi (C := RX5) (As := [.ref _, .ref _, .ref _, .int _, .int _, .int _]) B dX5_allAt_51 (gc1 g_X5_154) (by rfl) ⟨rfl, hd_X5_hasAt⟩ (by exact ⟨Nat.le_of_ble_eq_true rfl, Nat.le_of_ble_eq_true rfl⟩) ⟨rfl, rfl⟩ rfl rfl (by exact Nat.le_of_ble_eq_true rfl) recv5 (x_hasAt (t := t) hU hT' hX'.1 rfl ht hx'.2 (fun τ1 p1 => ?_))
        rw [hX'.2.2.1.1, hX'.2.2.1.2 t ht, hx'.1.1, hx'.1.2.1, hx'.1.2.2]
        refine g_iadd B dX5_allAt_54 ?_
        refine g_istore B dX5_allAt_55 (by decide) rfl ?_
        refine g_iinc (c9 := (1)) B dX5_allAt_57 rfl (by decide) (by decide) rfl ?_
        refine g_goto (tgt := 16) B dX5_allAt_60 (by decide) ?_
        rw [nI_1 i]
        exact ih (i + 1) τ1 (by omega) (by omega) (hp.trans p1)
set_option maxRecDepth 100000 in
set_option maxHeartbeats 4000000 in
theorem x_allAt {Z : LZ} {ad : Nat → Nat} {τ : St} {K : Int32 → St → Prop} {x y z : Int32} {t w r m : Nat} {V : VW} (hX : XV τ 1 V m) (hx : x = nI t) (ht : t < 30) (hy : y = nI w) (hz : z = nI r) (hK : ∀ τ', pkz [2, 3] [] τ τ' → K (gsV V t w r) τ') : CC lyX Z ad yX5_allAt wsX5_allAt (rmk 3) [.ref (ad 0), .int x, .int y, .int z] τ (rI K) := by
  refine CC.of (cc := cX5_allAt) (nL := 7) (ret := (some .int)) rfl rfl ⟨rfl, rfl⟩ (by exact Nat.le_of_ble_eq_true rfl) ?_
  intro X B
  change GG _ _ _ _ X _ 0 [some (.ref (ad 0)), some (.int x), some (.int y), some (.int z), none, none, none] [] _
  change Amb _ _ _ _ X _ _ RX5 _ _ at B
  subst hx hy hz
  obtain ⟨k0, hr, hT⟩ := hX.2.1
  have hm6 := hX.2.2.2.1.1
  have hK' : ∀ τ', pkz [2, 3] [] τ τ' → K (smT (gnV V t w r) m) τ' := fun τ' p => by
    have := hK τ' p
    unfold gsV at this
    rw [hX.2.2.2.1.2, i_cl (by omega)] at this
    exact this
  refine g_aload_n B dX5_allAt_0 rfl ?_
  refine g_aload_n B dX5_allAt_1 rfl ?_
  refine g_getI (T := TX5) (N := 16) B dX5_allAt_2 (by decide) (by rfl) (inq inlX5) rfl 8 (by decide) (mq f_X5_47) (by rfl) ?_
  refine g_callVr (C := RX5) (As := [.int _]) B dX5_allAt_5 (gc1 g_X5_150) (by rfl) ⟨rfl, hd_X5_textAt⟩ (by exact ⟨Nat.le_of_ble_eq_true rfl, Nat.le_of_ble_eq_true rfl⟩) ⟨rfl, rfl⟩ rfl rfl (by exact Nat.le_of_ble_eq_true rfl) recv5 (x_textAt hr hT.1 ?_)
  refine g_astore B dX5_allAt_8 (by decide) rfl ?_
  refine g_iconst (v := (0)) B dX5_allAt_10 (by decide) ?_
  refine g_istore B dX5_allAt_11 (by decide) rfl ?_
  refine g_iconst (v := (0)) B dX5_allAt_13 (by decide) ?_
  refine g_istore B dX5_allAt_14 (by decide) rfl ?_
  exact lx_allAt B hX hT ht hK' 10 0 τ (by omega) (by omega) pkz.rf
theorem spt_inj {t w r t' w' r' : Nat} (hw : w < 2) (h1 : 1 ≤ r) (h2 : r ≤ 30) (hw' : w' < 2) (h1' : 1 ≤ r') (h2' : r' ≤ 30) (h : spt t w r = spt t' w' r') : t = t' ∧ w = w' ∧ r = r' := by
  unfold spt at h
  omega
theorem mn_nI {a b : Nat} (ha : a < 100) (hb : b < 100) : (if nI b < nI a then nI b else nI a) = nI (if a ≤ b then a else b) := by
  by_cases h : a ≤ b
  · rw [if_pos h, if_neg (by rw [i_lt, i_n (by omega), i_n (by omega)]; omega)]
  · rw [if_neg h, if_pos (by rw [i_lt, i_n (by omega), i_n (by omega)]; omega)]
theorem LIMX.pz {V : VW} {cs ks : List Nat} {τ τ' : St} (h : LIMX V τ) (hp : pkz cs ks τ τ') (hc : 5 ∉ cs) : LIMX V τ' := by
  unfold LIMX
  rw [hp.1 5 (by decide) hc]
  exact h
theorem TBX.eq {V : VW} {τ τ' : St} {t : Nat} (h : TBX V τ t) (he : τ'.1 6 = τ.1 6) : TBX V τ' t := by
  unfold TBX entX at h ⊢
  rw [he]
  exact h
set_option maxRecDepth 100000 in
set_option maxHeartbeats 4000000 in
theorem lx_fa {Z : LZ} {ad : Nat → Nat} {X : CX} {K : St → Prop} {τ0 : St} {t w n m : Nat} {V : VW} (B : Amb lyX Z ad (rmk 4) X cX5_fillAhead wsX5_fillAhead RX5 6 none) (hX : XV τ0 1 V m) (hv : VOK V m) (hL : LIMX V τ0) (ht : t < 30) (hw : w < 2) (hn : n ≤ t + 1) (hn2 : ∀ r, 1 ≤ r → r ≤ t + 1 → okV V t w r → r ≤ n) (hK : ∀ τ', pkz [2, 3, 6] [] τ0 τ' → (∀ j, (∀ r, 1 ≤ r → r ≤ 30 → j ≠ spt t w r) → τ'.1 6 j = τ0.1 6 j) → (∀ r, 1 ≤ r → r ≤ t + 1 → entX V τ' t w r) → K τ') (hB : TBX V τ0 (t + 1)) : ∀ (k r : Nat) (τ : St), 1 ≤ r → r ≤ n + 1 → n + 1 - r < k → pkz [2, 3, 6] [] τ0 τ → (∀ j, (∀ r, 1 ≤ r → r ≤ 30 → j ≠ spt t w r) → τ.1 6 j = τ0.1 6 j) → (∀ r', 1 ≤ r' → r' < r → entX V τ t w r') → GG lyX Z ad (rmk 4) X (rV K) 20 [some (.ref (ad 0)), some (.int (nI t)), some (.int (nI w)), some (.int (nI n)), some (.int (nI r)), none] [] τ := by
  intro k
  induction k with
  | zero => intro r τ _ _ h; omega
  | succ k ih =>
    intro r τ h1 h2 h3 hp hj hE
    have hX' := hX.pz hp okC236 (by decide) (by decide)
    have hL' := hL.pz hp (by decide)
    have hm6 := hX.2.2.2.1.1
    have hVm := hX.2.2.2.1.2
    have hB' : TBX V τ (t + 1) := fun t' a b w' hw' r' c d => by
      have := hB t' a b w' hw' r' c d
      unfold entX at this ⊢
      rw [hj _ (fun r2 e1 e2 e3 => by have := spt_inj hw' c (by omega) hw e1 e2 e3; omega)]
      exact this
    refine g_iload B dX5_fillAhead_20 rfl ?_
    refine g_iload_n B dX5_fillAhead_22 rfl ?_
    refine g_icmp_gt (tgt := 94) B dX5_fillAhead_23 (by decide) (fun c23 => ?_) (fun c23 => ?_)
    · refine g_vreti B dX5_fillAhead_94 ?_
      have e : r = n + 1 := by
        rw [i_lt, i_n (by omega), i_n (by omega)] at c23
        omega
      refine hK τ hp hj (fun r' a b ho => ?_)
      exact hE r' a (by have := hn2 r' a b ho; omega) ho
    · have h4 : r ≤ n := by
        have := Int32.not_lt.mp c23
        rw [i_le, i_n (by omega), i_n (by omega)] at this
        omega
      have hcs : (nI (spt t w r)).toNatClampNeg = spt t w r := i_cl (by unfold spt; omega)
      refine g_aload_n B dX5_fillAhead_26 rfl ?_
      refine g_iload_n B dX5_fillAhead_27 rfl ?_
      refine g_iload_n B dX5_fillAhead_28 rfl ?_
      refine g_iload B dX5_fillAhead_29 rfl ?_
      refine g_callVi (C := RX5) (As := [.int _, .int _, .int _]) B dX5_fillAhead_31 (gc1 g_X5_242) (by rfl) ⟨rfl, hd_X5_allAt⟩ (by exact ⟨Nat.le_of_ble_eq_true rfl, Nat.le_of_ble_eq_true rfl⟩) ⟨rfl, rfl⟩ rfl rfl (by exact Nat.le_of_ble_eq_true rfl) recv5 (x_allAt hX' rfl ht rfl rfl (fun τ1 p1 => ?_))
      have hp1 : pkz [2, 3, 6] [] τ0 τ1 := hp.trans (p1.mono (by decide) (by decide))
      have hL1 := hL'.pz p1 (by decide)
      have e6 : τ1.1 6 = τ.1 6 := p1.1 6 (by decide) (by decide)
      have hB1 := hB'.eq e6
      have rbm := fun n => rb_bd (w := w) (r := r) (n := n) (t := t) h1 (by omega)
      have rbe : ∀ n, n < 2 → (if nI n = nI w then nI r + 1 else 1) = nI (rb w r n) := fun n hn => by
        unfold rb
        by_cases e : n = w
        · subst e
          rw [if_pos rfl, if_pos rfl, nI_1]
        · rw [if_neg (fun q => e (nI_inj2 (by omega) (by omega) q)), if_neg e]
          rfl
      refine g_istore B dX5_fillAhead_34 (by decide) rfl ?_
      refine g_iload_n B dX5_fillAhead_36 rfl ?_
      refine g_iconst (v := (1)) B dX5_fillAhead_37 (by decide) ?_
      refine g_iadd B dX5_fillAhead_38 ?_
      rw [nI_1]
      refine g_bipush (v := (30)) B dX5_fillAhead_39 (by decide) ?_
      refine g_icmp_ge (tgt := 74) B dX5_fillAhead_41 (by decide) (fun c41 => ?_) (fun c41 => ?_)
      · refine g_aload_n B dX5_fillAhead_74 rfl ?_
        refine g_getR (T := TX5) (N := 16) B dX5_fillAhead_75 (by decide) (by rfl) (inq inlX5) rfl 15 (by decide) (mq f_X5_75) (by rfl) ?_
        refine g_iload_n B dX5_fillAhead_78 rfl ?_
        refine g_iload_n B dX5_fillAhead_79 rfl ?_
        refine g_iload B dX5_fillAhead_80 rfl ?_
        refine g_callSi (As := [.int _, .int _, .int _]) B dX5_fillAhead_82 (gc1 g_X5_245) (by rfl) hd_X5_placeAhead (by exact ⟨Nat.le_of_ble_eq_true rfl, Nat.le_of_ble_eq_true rfl⟩) ⟨rfl, rfl⟩ rfl rfl (by exact Nat.le_of_ble_eq_true rfl) (x_place rfl rfl rfl h1 (by omega) ?_)
        refine g_iload B dX5_fillAhead_85 rfl ?_
        refine g_iast B dX5_fillAhead_87 (by decide) (by rfl) (by exact vp_in_nI (n := spt t w r) (by unfold spt; omega) (by omega)) ?_
        rw [hcs]
        refine g_iinc (c9 := (1)) B dX5_fillAhead_88 rfl (by decide) (by decide) rfl ?_
        refine g_goto (tgt := 20) B dX5_fillAhead_91 (by decide) ?_
        rw [nI_1 r]
        refine g_drop 5 ?_
        refine ih (r + 1) _ (by omega) (by omega) (by omega) (hp1.upC (by decide) (by decide)) (fun j hjj => ?_) (fun r' a b => ?_)
        · rw [upS_2 (hjj r h1 (by omega)), e6]
          exact hj j hjj
        · by_cases e : r' = r
          · subst e
            intro _
            rw [upS_1]
            first
            | (have h30 : t = 29 := by
                 have := c41
                 rw [i_le, i_n (by omega), i30] at this
                 omega
               rw [h30]
               rfl)
            | (rw [show 29 - t = 28 - t + 1 by omega, dpV_s]
               rw [show 28 - (28 - t) = t by omega, show 29 - (28 - t) = t + 1 by omega, show 29 - (t + 1) = 28 - t by omega])
          · have := hE r' a (by omega)
            unfold entX at this ⊢
            rw [upS_2 (fun q => e (spt_inj hw a (by omega) hw h1 (by omega) q).2.2), e6]
            exact this
      · have h29 : t < 29 := by
          have := Int32.not_le.mp c41
          rw [i_lt, i_n (by omega), i30] at this
          omega
        refine g_iload B dX5_fillAhead_44 rfl ?_
        refine g_aload_n B dX5_fillAhead_46 rfl ?_
        refine g_iload_n B dX5_fillAhead_47 rfl ?_
        refine g_iconst (v := (1)) B dX5_fillAhead_48 (by decide) ?_
        refine g_iadd B dX5_fillAhead_49 ?_
        rw [nI_1]
        refine g_iconst (v := (0)) B dX5_fillAhead_50 (by decide) ?_
        refine g_iload_n B dX5_fillAhead_51 rfl ?_
        refine g_iload B dX5_fillAhead_52 rfl ?_
        refine g_callVi (C := RX5) (As := [.int _, .int _, .int _, .int _]) B dX5_fillAhead_54 (gc1 g_X5_238) (by rfl) ⟨rfl, hd_X5_aheadBehind⟩ (by exact ⟨Nat.le_of_ble_eq_true rfl, Nat.le_of_ble_eq_true rfl⟩) ⟨rfl, rfl⟩ rfl rfl (by exact Nat.le_of_ble_eq_true rfl) recv5 (x_ahead (t := t + 1) (w := 0) (r := rb w r 0) rfl (by omega) rfl (by omega) (rbe 0 (by omega)) (rbm 0).1 (by have := (rbm 0).2; omega) hL1 (hB1 (t + 1) (Nat.le_refl _) (by omega) 0 (by omega) _ (rbm 0).1 (by have := (rbm 0).2; omega)) ?_)
        refine g_aload_n B dX5_fillAhead_57 rfl ?_
        refine g_iload_n B dX5_fillAhead_58 rfl ?_
        refine g_iconst (v := (1)) B dX5_fillAhead_59 (by decide) ?_
        refine g_iadd B dX5_fillAhead_60 ?_
        rw [nI_1]
        refine g_iconst (v := (1)) B dX5_fillAhead_61 (by decide) ?_
        refine g_iload_n B dX5_fillAhead_62 rfl ?_
        refine g_iload B dX5_fillAhead_63 rfl ?_
        refine g_callVi (C := RX5) (As := [.int _, .int _, .int _, .int _]) B dX5_fillAhead_65 (gc1 g_X5_238) (by rfl) ⟨rfl, hd_X5_aheadBehind⟩ (by exact ⟨Nat.le_of_ble_eq_true rfl, Nat.le_of_ble_eq_true rfl⟩) ⟨rfl, rfl⟩ rfl rfl (by exact Nat.le_of_ble_eq_true rfl) recv5 (x_ahead (t := t + 1) (w := 1) (r := rb w r 1) rfl (by omega) rfl (by omega) (rbe 1 (by omega)) (rbm 1).1 (by have := (rbm 1).2; omega) hL1 (hB1 (t + 1) (Nat.le_refl _) (by omega) 1 (by omega) _ (rbm 1).1 (by have := (rbm 1).2; omega)) ?_)
        refine g_mmax B dX5_fillAhead_68 ⟨mq m_X5_189.1, mq m_X5_189.2.1, mq m_X5_189.2.2.1, mq m_X5_189.2.2.2⟩ (by exact ⟨Nat.le_of_ble_eq_true rfl, Nat.le_of_ble_eq_true rfl⟩) ?_
        rw [ah_max hv hm6 hVm hw]
        refine g_iadd B dX5_fillAhead_71 ?_
        refine g_istore B dX5_fillAhead_72 (by decide) rfl ?_
        refine g_aload_n B dX5_fillAhead_74 rfl ?_
        refine g_getR (T := TX5) (N := 16) B dX5_fillAhead_75 (by decide) (by rfl) (inq inlX5) rfl 15 (by decide) (mq f_X5_75) (by rfl) ?_
        refine g_iload_n B dX5_fillAhead_78 rfl ?_
        refine g_iload_n B dX5_fillAhead_79 rfl ?_
        refine g_iload B dX5_fillAhead_80 rfl ?_
        refine g_callSi (As := [.int _, .int _, .int _]) B dX5_fillAhead_82 (gc1 g_X5_245) (by rfl) hd_X5_placeAhead (by exact ⟨Nat.le_of_ble_eq_true rfl, Nat.le_of_ble_eq_true rfl⟩) ⟨rfl, rfl⟩ rfl rfl (by exact Nat.le_of_ble_eq_true rfl) (x_place rfl rfl rfl h1 (by omega) ?_)
        refine g_iload B dX5_fillAhead_85 rfl ?_
        refine g_iast B dX5_fillAhead_87 (by decide) (by rfl) (by exact vp_in_nI (n := spt t w r) (by unfold spt; omega) (by omega)) ?_
        rw [hcs]
        refine g_iinc (c9 := (1)) B dX5_fillAhead_88 rfl (by decide) (by decide) rfl ?_
        refine g_goto (tgt := 20) B dX5_fillAhead_91 (by decide) ?_
        rw [nI_1 r]
        refine g_drop 5 ?_
        refine ih (r + 1) _ (by omega) (by omega) (by omega) (hp1.upC (by decide) (by decide)) (fun j hjj => ?_) (fun r' a b => ?_)
        · rw [upS_2 (hjj r h1 (by omega)), e6]
          exact hj j hjj
        · by_cases e : r' = r
          · subst e
            intro _
            rw [upS_1]
            first
            | (have h30 : t = 29 := by
                 have := c41
                 rw [i_le, i_n (by omega), i30] at this
                 omega
               rw [h30]
               rfl)
            | (rw [show 29 - t = 28 - t + 1 by omega, dpV_s]
               rw [show 28 - (28 - t) = t by omega, show 29 - (28 - t) = t + 1 by omega, show 29 - (t + 1) = 28 - t by omega])
          · have := hE r' a (by omega)
            unfold entX at this ⊢
            rw [upS_2 (fun q => e (spt_inj hw a (by omega) hw h1 (by omega) q).2.2), e6]
            exact this
set_option maxRecDepth 100000 in
set_option maxHeartbeats 4000000 in
theorem x_fa {Z : LZ} {ad : Nat → Nat} {τ : St} {K : St → Prop} {x y : Int32} {t w m : Nat} {V : VW} (hX : XV τ 1 V m) (hv : VOK V m) (hL : LIMX V τ) (hx : x = nI t) (ht : t < 30) (hy : y = nI w) (hw : w < 2) (hB : TBX V τ (t + 1)) (hK : ∀ τ', pkz [2, 3, 6] [] τ τ' → (∀ j, (∀ r, 1 ≤ r → r ≤ 30 → j ≠ spt t w r) → τ'.1 6 j = τ.1 6 j) → (∀ r, 1 ≤ r → r ≤ t + 1 → entX V τ' t w r) → K τ') : CC lyX Z ad yX5_fillAhead wsX5_fillAhead (rmk 4) [.ref (ad 0), .int x, .int y] τ (rV K) := by
  refine CC.of (cc := cX5_fillAhead) (nL := 6) (ret := none) rfl rfl ⟨rfl, rfl⟩ (by exact Nat.le_of_ble_eq_true rfl) ?_
  intro X B
  change GG _ _ _ _ X _ 0 [some (.ref (ad 0)), some (.int x), some (.int y), none, none, none] [] _
  change Amb _ _ _ _ X _ _ RX5 _ _ at B
  subst hx hy
  have hlb := limV_bd V t w
  obtain ⟨l, hl, el⟩ := i_nat (x := limV V t w) (n := 31) (by omega) (by omega)
  refine g_iload_n B dX5_fillAhead_0 rfl ?_
  refine g_iconst (v := (1)) B dX5_fillAhead_1 (by decide) ?_
  refine g_iadd B dX5_fillAhead_2 ?_
  rw [nI_1]
  refine g_aload_n B dX5_fillAhead_3 rfl ?_
  refine g_getR (T := TX5) (N := 16) B dX5_fillAhead_4 (by decide) (by rfl) (inq inlX5) rfl 14 (by decide) (mq f_X5_72) (by rfl) ?_
  refine g_iload_n B dX5_fillAhead_7 rfl ?_
  refine g_iconst (v := (2)) B dX5_fillAhead_8 (by decide) ?_
  refine g_imul B dX5_fillAhead_9 ?_
  refine g_iload_n B dX5_fillAhead_10 rfl ?_
  refine g_iadd B dX5_fillAhead_11 ?_
  rw [show nI t * (2 : Int32) = nI (2 * t) from by rw [Int32.mul_comm]; exact pk_mul 2 t, nI_add]
  refine g_iald B dX5_fillAhead_12 (by decide) (by rfl) (by exact vp_in_nI (n := 2 * t + w) (by omega) (by omega)) ?_
  rw [i_cl (show 2 * t + w < 2147483648 by omega), hL t ht w hw, el]
  refine g_mmin B dX5_fillAhead_13 ⟨mq m_X5_207.1, mq m_X5_207.2.1, mq m_X5_207.2.2.1, mq m_X5_207.2.2.2⟩ (by exact ⟨Nat.le_of_ble_eq_true rfl, Nat.le_of_ble_eq_true rfl⟩) ?_
  rw [mn_nI (by omega) (by omega)]
  refine g_istore_n B dX5_fillAhead_16 (by decide) rfl ?_
  refine g_iconst (v := (1)) B dX5_fillAhead_17 (by decide) ?_
  refine g_istore B dX5_fillAhead_18 (by decide) rfl ?_
  refine lx_fa B hX hv hL ht hw (n := if t + 1 ≤ l then t + 1 else l) (by split <;> omega) (fun r a b ho => ?_) hK hB 40 1 τ (by omega) (by omega) (by split <;> omega) pkz.rf (fun _ _ => rfl) (fun r' a b => by omega)
  have : nI r ≤ limV V t w := ho
  rw [el, i_le, i_n (by omega), i_n (by omega)] at this
  split <;> omega

/-- ahead of night i: its town, run, the share so far (-1, 0, 0 at first) -/
def bTw (V : VW) : Nat → Int32
  | 0 => -1
  | t + 1 => nI (pth V t).1
def bRn (V : VW) : Nat → Int32
  | 0 => 0
  | t + 1 => nI (pth V t).2.1
def bSh (V : VW) : Nat → Int32
  | 0 => 0
  | t + 1 => nI (pth V t).2.2
/-- the run that night i would have as town n's -/
def bRb (V : VW) (n : Nat) : Nat → Nat
  | 0 => 1
  | t + 1 => rb (pth V t).1 (pth V t).2.1 n
theorem bRb_bd (V : VW) (n : Nat) : ∀ i, 1 ≤ bRb V n i ∧ bRb V n i ≤ i + 1
  | 0 => ⟨Nat.le_refl _, Nat.le_refl _⟩
  | t + 1 => by
    obtain ⟨a, b, c, d⟩ := pth_bd V t
    exact rb_bd b c
theorem bRb_eq (V : VW) {n : Nat} (hn : n < 2) : ∀ i, i < 30 → (if nI n = bTw V i then bRn V i + 1 else 1) = nI (bRb V n i)
  | 0, _ => by
    rw [if_neg]
    · rfl
    · intro q
      have := i_eq.mp q
      rw [i_n (by omega), show (bTw V 0).toInt = -1 from rfl] at this
      omega
  | t + 1, _ => by
    obtain ⟨a, b, c, d⟩ := pth_bd V t
    show (if nI n = nI (pth V t).1 then nI (pth V t).2.1 + 1 else 1) = nI (rb (pth V t).1 (pth V t).2.1 n)
    unfold rb
    by_cases e : n = (pth V t).1
    · rw [if_pos (by rw [e]), if_pos e, nI_1]
    · rw [if_neg (fun q => e (nI_inj2 (by omega) (by omega) q)), if_neg e]
      rfl
/-- town 1 is taken just where the path takes it -/
theorem bNx {V : VW} {m : Nat} (hv : VOK V m) (hm6 : m ≤ 6) (hm : V.2.1 = nI m) : ∀ i, i < 30 → (ahV V i 0 (bRb V 0 i) < ahV V i 1 (bRb V 1 i) ↔ (pth V i).1 = 1)
  | 0, _ => by
    show ahV V 0 0 1 < ahV V 0 1 1 ↔ _
    rw [ah_lt hv hm6 hm (Or.inl (okV_1 V 0 0))]
    show okV V 0 1 1 ∧ (¬ okV V 0 0 1 ∨ ¬ dpV V 29 1 1 ≤ dpV V 29 0 1) ↔ wdV V = 1
    unfold wdV
    have a := okV_1 V 0 0
    have b := okV_1 V 0 1
    constructor
    · intro h
      rw [if_pos (h.2.elim (fun q => absurd a q) id)]
    · intro h
      refine ⟨b, Or.inr (fun q => ?_)⟩
      rw [if_neg (fun z => z q)] at h
      omega
  | t + 1, ht => by
    obtain ⟨a, b, c, d⟩ := pth_bd V t
    show ahV V (t + 1) 0 (rb (pth V t).1 (pth V t).2.1 0) < ahV V (t + 1) 1 (rb (pth V t).1 (pth V t).2.1 1) ↔ _
    rw [ah_lt hv hm6 hm (ok_one a)]
    show okV V (t + 1) 1 (rb (pth V t).1 (pth V t).2.1 1) ∧ (¬ okV V (t + 1) 0 (rb (pth V t).1 (pth V t).2.1 0) ∨ ¬ dpV V (29 - (t + 1)) 1 (rb (pth V t).1 (pth V t).2.1 1) ≤ dpV V (29 - (t + 1)) 0 (rb (pth V t).1 (pth V t).2.1 0)) ↔ nxt V t (pth V t).1 (pth V t).2.1 = 1
    rw [show 29 - (t + 1) = 28 - t by omega]
    unfold nxt
    split
    · next h => exact ⟨fun _ => rfl, fun _ => h⟩
    · next h => exact ⟨fun q => absurd q h, fun q => by omega⟩
theorem pth_run (V : VW) : ∀ i, i < 30 → (if nI (pth V i).1 = bTw V i then bRn V i + 1 else 1) = bRn V (i + 1)
  | 0, _ => by
    rw [bRb_eq V (pth_bd V 0).1 0 (by omega)]
    rfl
  | t + 1, h => by
    rw [bRb_eq V (pth_bd V (t + 1)).1 (t + 1) h]
    rfl
theorem pth_sh (V : VW) : ∀ i, i < 30 → bSh V i ||| (nI (pth V i).1 <<< (nI i &&& 31)) = bSh V (i + 1)
  | 0, _ => by
    have := or_add (S := 0) (n := (pth V 0).1) (t := 0) (by decide) (pth_bd V 0).1 (by decide)
    refine Eq.trans this ?_
    show nI (0 + wdV V * 2 ^ 0) = nI (wdV V)
    congr 1
    omega
  | t + 1, h => or_add (pth_bd V t).2.2.2 (pth_bd V (t + 1)).1 h
set_option maxRecDepth 100000 in
set_option maxHeartbeats 4000000 in
theorem lx_fb2 {Z : LZ} {ad : Nat → Nat} {X : CX} {K : Int32 → St → Prop} {τ : St} {m : Nat} {V : VW} (B : Amb lyX Z ad (rmk 5) X cX5_findBest wsX5_findBest RX5 6 (some .int)) (hm6 : m ≤ 6) (hm : V.2.1 = nI m) (hv : VOK V m) (hL : LIMX V τ) (hB : TBX V τ 0) (hK : K (bsS V) τ) : ∀ (k i : Nat), i ≤ 30 → 30 - i < k → GG lyX Z ad (rmk 5) X (rI K) 38 [some (.ref (ad 0)), some (.int (bSh V i)), some (.int (bTw V i)), some (.int (bRn V i)), some (.int (nI i)), none] [] τ := by
  intro k
  induction k with
  | zero => intro i _ h; omega
  | succ k ih =>
    intro i h1 h2
    refine g_iload B dX5_findBest_38 rfl ?_
    refine g_bipush (v := (30)) B dX5_findBest_40 (by decide) ?_
    refine g_icmp_ge (tgt := 103) B dX5_findBest_42 (by decide) (fun c42 => ?_) (fun c42 => ?_)
    · refine g_iload_n B dX5_findBest_103 rfl ?_
      refine g_ireti B dX5_findBest_104 ?_
      rw [show (30 : Int32) = nI 30 from rfl, nI_leI (by omega) (by omega)] at c42
      have e : i = 30 := by omega
      subst e
      exact hK
    · rw [show (30 : Int32) = nI 30 from rfl, nI_leI (by omega) (by omega)] at c42
      have hi : i < 30 := by omega
      refine g_aload_n B dX5_findBest_45 rfl ?_
      refine g_iload B dX5_findBest_46 rfl ?_
      refine g_iconst (v := (0)) B dX5_findBest_48 (by decide) ?_
      refine g_iload_n B dX5_findBest_49 rfl ?_
      refine g_iload_n B dX5_findBest_50 rfl ?_
      refine g_callVi (C := RX5) (As := [.int _, .int _, .int _, .int _]) B dX5_findBest_51 (gc1 g_X5_238) (by rfl) ⟨rfl, hd_X5_aheadBehind⟩ (by exact ⟨Nat.le_of_ble_eq_true rfl, Nat.le_of_ble_eq_true rfl⟩) ⟨rfl, rfl⟩ rfl rfl (by exact Nat.le_of_ble_eq_true rfl) recv5 (x_ahead (t := i) (w := 0) (r := bRb V 0 i) rfl hi rfl (by omega) (bRb_eq V (by omega) i hi) (bRb_bd V 0 i).1 (bRb_bd V 0 i).2 hL (hB i (by omega) hi 0 (by omega) _ (bRb_bd V 0 i).1 (bRb_bd V 0 i).2) ?_)
      refine g_aload_n B dX5_findBest_54 rfl ?_
      refine g_iload B dX5_findBest_55 rfl ?_
      refine g_iconst (v := (1)) B dX5_findBest_57 (by decide) ?_
      refine g_iload_n B dX5_findBest_58 rfl ?_
      refine g_iload_n B dX5_findBest_59 rfl ?_
      refine g_callVi (C := RX5) (As := [.int _, .int _, .int _, .int _]) B dX5_findBest_60 (gc1 g_X5_238) (by rfl) ⟨rfl, hd_X5_aheadBehind⟩ (by exact ⟨Nat.le_of_ble_eq_true rfl, Nat.le_of_ble_eq_true rfl⟩) ⟨rfl, rfl⟩ rfl rfl (by exact Nat.le_of_ble_eq_true rfl) recv5 (x_ahead (t := i) (w := 1) (r := bRb V 1 i) rfl hi rfl (by omega) (bRb_eq V (by omega) i hi) (bRb_bd V 1 i).1 (bRb_bd V 1 i).2 hL (hB i (by omega) hi 1 (by omega) _ (bRb_bd V 1 i).1 (bRb_bd V 1 i).2) ?_)
      refine g_icmp_lt (tgt := 70) B dX5_findBest_63 (by decide) (fun c63 => ?_) (fun c63 => ?_)
      · refine g_iconst (v := (1)) B dX5_findBest_70 (by decide) ?_
        have hw : (pth V i).1 = 0 ∨ (pth V i).1 = 1 := by
          have := (pth_bd V i).1
          omega
        first
          | (have h9 : (pth V i).1 = 1 := (bNx hv hm6 hm i hi).mp c63
             rw [show (1 : Int32) = nI (pth V i).1 by rw [h9]; rfl])
          | (have h9 : (pth V i).1 = 0 := hw.resolve_right (fun q => c63 ((bNx hv hm6 hm i hi).mpr q))
             rw [show (0 : Int32) = nI (pth V i).1 by rw [h9]; rfl])
        refine g_istore B dX5_findBest_71 (by decide) rfl ?_
        refine g_iload B dX5_findBest_73 rfl ?_
        refine g_iload_n B dX5_findBest_75 rfl ?_
        refine g_icmp_ne (tgt := 85) B dX5_findBest_76 (by decide) (fun c76 => ?_) (fun c76 => ?_)
        · refine g_iconst (v := (1)) B dX5_findBest_85 (by decide) ?_
          have hr := pth_run V i hi
          first
            | rw [if_pos c76] at hr
            | rw [if_neg c76] at hr
          rw [hr]
          refine g_istore_n B dX5_findBest_86 (by decide) rfl ?_
          refine g_iload B dX5_findBest_87 rfl ?_
          refine g_istore_n B dX5_findBest_89 (by decide) rfl ?_
          refine g_iload_n B dX5_findBest_90 rfl ?_
          refine g_iload_n B dX5_findBest_91 rfl ?_
          refine g_iload B dX5_findBest_92 rfl ?_
          refine g_ishl B dX5_findBest_94 ?_
          refine g_ior B dX5_findBest_95 ?_
          rw [pth_sh V i hi]
          refine g_istore_n B dX5_findBest_96 (by decide) rfl ?_
          refine g_iinc (c9 := (1)) B dX5_findBest_97 rfl (by decide) (by decide) rfl ?_
          refine g_goto (tgt := 38) B dX5_findBest_100 (by decide) ?_
          rw [nI_1 i]
          refine g_drop 5 ?_
          exact ih (i + 1) (by omega) (by omega)
        · refine g_iload_n B dX5_findBest_79 rfl ?_
          refine g_iconst (v := (1)) B dX5_findBest_80 (by decide) ?_
          refine g_iadd B dX5_findBest_81 ?_
          refine g_goto (tgt := 86) B dX5_findBest_82 (by decide) ?_
          have hr := pth_run V i hi
          first
            | rw [if_pos c76] at hr
            | rw [if_neg c76] at hr
          rw [hr]
          refine g_istore_n B dX5_findBest_86 (by decide) rfl ?_
          refine g_iload B dX5_findBest_87 rfl ?_
          refine g_istore_n B dX5_findBest_89 (by decide) rfl ?_
          refine g_iload_n B dX5_findBest_90 rfl ?_
          refine g_iload_n B dX5_findBest_91 rfl ?_
          refine g_iload B dX5_findBest_92 rfl ?_
          refine g_ishl B dX5_findBest_94 ?_
          refine g_ior B dX5_findBest_95 ?_
          rw [pth_sh V i hi]
          refine g_istore_n B dX5_findBest_96 (by decide) rfl ?_
          refine g_iinc (c9 := (1)) B dX5_findBest_97 rfl (by decide) (by decide) rfl ?_
          refine g_goto (tgt := 38) B dX5_findBest_100 (by decide) ?_
          rw [nI_1 i]
          refine g_drop 5 ?_
          exact ih (i + 1) (by omega) (by omega)
      · refine g_iconst (v := (0)) B dX5_findBest_66 (by decide) ?_
        refine g_goto (tgt := 71) B dX5_findBest_67 (by decide) ?_
        have hw : (pth V i).1 = 0 ∨ (pth V i).1 = 1 := by
          have := (pth_bd V i).1
          omega
        first
          | (have h9 : (pth V i).1 = 1 := (bNx hv hm6 hm i hi).mp c63
             rw [show (1 : Int32) = nI (pth V i).1 by rw [h9]; rfl])
          | (have h9 : (pth V i).1 = 0 := hw.resolve_right (fun q => c63 ((bNx hv hm6 hm i hi).mpr q))
             rw [show (0 : Int32) = nI (pth V i).1 by rw [h9]; rfl])
        refine g_istore B dX5_findBest_71 (by decide) rfl ?_
        refine g_iload B dX5_findBest_73 rfl ?_
        refine g_iload_n B dX5_findBest_75 rfl ?_
        refine g_icmp_ne (tgt := 85) B dX5_findBest_76 (by decide) (fun c76 => ?_) (fun c76 => ?_)
        · refine g_iconst (v := (1)) B dX5_findBest_85 (by decide) ?_
          have hr := pth_run V i hi
          first
            | rw [if_pos c76] at hr
            | rw [if_neg c76] at hr
          rw [hr]
          refine g_istore_n B dX5_findBest_86 (by decide) rfl ?_
          refine g_iload B dX5_findBest_87 rfl ?_
          refine g_istore_n B dX5_findBest_89 (by decide) rfl ?_
          refine g_iload_n B dX5_findBest_90 rfl ?_
          refine g_iload_n B dX5_findBest_91 rfl ?_
          refine g_iload B dX5_findBest_92 rfl ?_
          refine g_ishl B dX5_findBest_94 ?_
          refine g_ior B dX5_findBest_95 ?_
          rw [pth_sh V i hi]
          refine g_istore_n B dX5_findBest_96 (by decide) rfl ?_
          refine g_iinc (c9 := (1)) B dX5_findBest_97 rfl (by decide) (by decide) rfl ?_
          refine g_goto (tgt := 38) B dX5_findBest_100 (by decide) ?_
          rw [nI_1 i]
          refine g_drop 5 ?_
          exact ih (i + 1) (by omega) (by omega)
        · refine g_iload_n B dX5_findBest_79 rfl ?_
          refine g_iconst (v := (1)) B dX5_findBest_80 (by decide) ?_
          refine g_iadd B dX5_findBest_81 ?_
          refine g_goto (tgt := 86) B dX5_findBest_82 (by decide) ?_
          have hr := pth_run V i hi
          first
            | rw [if_pos c76] at hr
            | rw [if_neg c76] at hr
          rw [hr]
          refine g_istore_n B dX5_findBest_86 (by decide) rfl ?_
          refine g_iload B dX5_findBest_87 rfl ?_
          refine g_istore_n B dX5_findBest_89 (by decide) rfl ?_
          refine g_iload_n B dX5_findBest_90 rfl ?_
          refine g_iload_n B dX5_findBest_91 rfl ?_
          refine g_iload B dX5_findBest_92 rfl ?_
          refine g_ishl B dX5_findBest_94 ?_
          refine g_ior B dX5_findBest_95 ?_
          rw [pth_sh V i hi]
          refine g_istore_n B dX5_findBest_96 (by decide) rfl ?_
          refine g_iinc (c9 := (1)) B dX5_findBest_97 rfl (by decide) (by decide) rfl ?_
          refine g_goto (tgt := 38) B dX5_findBest_100 (by decide) ?_
          rw [nI_1 i]
          refine g_drop 5 ?_
          exact ih (i + 1) (by omega) (by omega)
set_option maxRecDepth 100000 in
set_option maxHeartbeats 4000000 in
theorem lx_fb1 {Z : LZ} {ad : Nat → Nat} {X : CX} {K : Option Value → St → Prop} {τ0 : St} {m : Nat} {V : VW} (B : Amb lyX Z ad (rmk 5) X cX5_findBest wsX5_findBest RX5 6 (some .int)) (hX : XV τ0 1 V m) (hv : VOK V m) (hL : LIMX V τ0) (hK : ∀ τ', pkz [2, 3, 6] [] τ0 τ' → TBX V τ' 0 → GG lyX Z ad (rmk 5) X K 29 [some (.ref (ad 0)), none, none, none, none, none] [] τ') : ∀ (k : Nat) (x : Int32) (τ : St), x.toInt = (k : Int) - 1 → k ≤ 30 → pkz [2, 3, 6] [] τ0 τ → TBX V τ k → GG lyX Z ad (rmk 5) X K 7 [some (.ref (ad 0)), some (.int x), none, none, none, none] [] τ := by
  intro k
  induction k with
  | zero =>
    intro x τ h1 h2 hp hB
    refine g_iload_n B dX5_findBest_7 rfl ?_
    refine g_if_lt (tgt := 29) B dX5_findBest_8 (by decide) (fun _ => g_drop 1 (hK τ hp hB)) (fun c => absurd (i_lt.mpr (by rw [h1, i0]; omega)) c)
  | succ k ih =>
    intro x τ h1 h2 hp hB
    have hx : x = nI k := by
      rw [i_eq, i_n (by omega), h1]
      omega
    subst hx
    have hX' := hX.pz hp okC236 (by decide) (by decide)
    have hL' := hL.pz hp (by decide)
    refine g_iload_n B dX5_findBest_7 rfl ?_
    refine g_if_lt (tgt := 29) B dX5_findBest_8 (by decide) (fun c8 => ?_) (fun c8 => ?_)
    · exact absurd (i_lt.mp c8) (by rw [i_n (by omega), i0]; omega)
    · refine g_aload_n B dX5_findBest_11 rfl ?_
      refine g_iload_n B dX5_findBest_12 rfl ?_
      refine g_iconst (v := (0)) B dX5_findBest_13 (by decide) ?_
      refine g_callVv (C := RX5) (As := [.int _, .int _]) B dX5_findBest_14 (gc1 g_X5_234) (by rfl) ⟨rfl, hd_X5_fillAhead⟩ (by exact ⟨Nat.le_of_ble_eq_true rfl, Nat.le_of_ble_eq_true rfl⟩) ⟨rfl, rfl⟩ rfl rfl (by exact Nat.le_of_ble_eq_true rfl) recv5 (x_fa (t := k) (w := 0) hX' hv hL' rfl (by omega) rfl (by omega) hB (fun τ1 p1 j1 e1 => ?_))
      have hX1 := hX'.pz p1 okC236 (by decide) (by decide)
      have hL1 := hL'.pz p1 (by decide)
      have hB1 : TBX V τ1 (k + 1) := fun t' a b w' hw' r' c d => by
        have := hB t' a b w' hw' r' c d
        unfold entX at this ⊢
        rw [j1 _ (fun r2 q1 q2 q3 => by have := spt_inj hw' c (by omega) (by omega) q1 q2 q3; omega)]
        exact this
      refine g_aload_n B dX5_findBest_17 rfl ?_
      refine g_iload_n B dX5_findBest_18 rfl ?_
      refine g_iconst (v := (1)) B dX5_findBest_19 (by decide) ?_
      refine g_callVv (C := RX5) (As := [.int _, .int _]) B dX5_findBest_20 (gc1 g_X5_234) (by rfl) ⟨rfl, hd_X5_fillAhead⟩ (by exact ⟨Nat.le_of_ble_eq_true rfl, Nat.le_of_ble_eq_true rfl⟩) ⟨rfl, rfl⟩ rfl rfl (by exact Nat.le_of_ble_eq_true rfl) recv5 (x_fa (t := k) (w := 1) hX1 hv hL1 rfl (by omega) rfl (by omega) hB1 (fun τ2 p2 j2 e2 => ?_))
      refine g_iinc (c9 := (-1)) B dX5_findBest_23 rfl (by decide) (by decide) rfl ?_
      refine g_goto (tgt := 7) B dX5_findBest_26 (by decide) ?_
      refine ih _ τ2 ?_ (by omega) ((hp.trans p1).trans p2) (fun t' a b w' hw' r' c d => ?_)
      · rw [i_add] <;> rw [i_n (by omega), show (-1 : Int32).toInt = -1 from rfl] <;> omega
      · by_cases e : t' = k
        · subst e
          rcases (show w' = 0 ∨ w' = 1 by omega) with q | q
          · subst q
            have := e1 r' c d
            unfold entX at this ⊢
            rw [j2 _ (fun r2 q1 q2 q3 => by have := spt_inj (by omega) c (by omega) (by omega) q1 q2 q3; omega)]
            exact this
          · subst q
            exact e2 r' c d
        · have := hB1 t' (by omega) b w' hw' r' c d
          unfold entX at this ⊢
          rw [j2 _ (fun r2 q1 q2 q3 => by have := spt_inj hw' c (by omega) (by omega) q1 q2 q3; omega)]
          exact this
set_option maxRecDepth 100000 in
set_option maxHeartbeats 4000000 in
theorem x_fb {Z : LZ} {ad : Nat → Nat} {τ : St} {K : Int32 → St → Prop} {m : Nat} {V : VW} (hX : XV τ 1 V m) (hv : VOK V m) (hK : ∀ τ', pkz [2, 3, 5, 6] [] τ τ' → K (bsS V) τ') : CC lyX Z ad yX5_findBest wsX5_findBest (rmk 5) [.ref (ad 0)] τ (rI K) := by
  refine CC.of (cc := cX5_findBest) (nL := 6) (ret := (some .int)) rfl rfl ⟨rfl, rfl⟩ (by exact Nat.le_of_ble_eq_true rfl) ?_
  intro X B
  change GG _ _ _ _ X _ 0 [some (.ref (ad 0)), none, none, none, none, none] [] _
  change Amb _ _ _ _ X _ _ RX5 _ _ at B
  refine g_aload_n B dX5_findBest_0 rfl ?_
  refine g_callVv (C := RX5) (As := []) B dX5_findBest_1 (gc1 g_X5_231) (by rfl) ⟨rfl, hd_X5_fillLimits⟩ (by exact ⟨Nat.le_of_ble_eq_true rfl, Nat.le_of_ble_eq_true rfl⟩) ⟨rfl, rfl⟩ rfl rfl (by exact Nat.le_of_ble_eq_true rfl) recv5 (x_lim hX (fun τ1 p1 hL => ?_))
  refine g_bipush (v := (29)) B dX5_findBest_4 (by decide) ?_
  refine g_istore_n B dX5_findBest_6 (by decide) rfl ?_
  have hX1 := hX.pz p1 okC235 (by decide) (by decide)
  refine lx_fb1 B hX1 hv hL (fun τ2 p2 hB => ?_) 30 _ τ1 (by decide) (by omega) pkz.rf (fun t' a b => by omega)
  refine g_iconst (v := (0)) B dX5_findBest_29 (by decide) ?_
  refine g_istore_n B dX5_findBest_30 (by decide) rfl ?_
  refine g_iconst (v := (-1)) B dX5_findBest_31 (by decide) ?_
  refine g_istore_n B dX5_findBest_32 (by decide) rfl ?_
  refine g_iconst (v := (0)) B dX5_findBest_33 (by decide) ?_
  refine g_istore_n B dX5_findBest_34 (by decide) rfl ?_
  refine g_iconst (v := (0)) B dX5_findBest_35 (by decide) ?_
  refine g_istore B dX5_findBest_36 (by decide) rfl ?_
  have hVm := hX.2.2.2.1
  exact lx_fb2 B hVm.1 hVm.2 hv (hL.pz p2 (by decide)) hB (hK τ2 ((p1.mono (by decide) (by decide)).trans (p2.mono (by decide) (by decide)))) 40 0 (by omega) (by omega)

