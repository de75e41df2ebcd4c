/-! the program: what the best share is worth; best, settle *program* -/
theorem smT_cg {f g : Nat → Int32} : ∀ n, (∀ i, i < n → f i = g i) → smT f n = smT g n
  | 0, _ => rfl
  | n + 1, h => by
    show smT f n + f n = smT g n + g n
    rw [smT_cg n (fun i hi => h i (by omega)), h n (by omega)]
theorem smT_ad {f g : Nat → Int32} : ∀ n, smT (fun i => f i + g i) n = smT f n + smT g n
  | 0 => rfl
  | n + 1 => by
    show smT (fun i => f i + g i) n + (f n + g n) = (smT f n + f n) + (smT g n + g n)
    rw [smT_ad n, Int32.add_assoc, Int32.add_assoc, ← Int32.add_assoc (smT g n) (f n) (g n), Int32.add_comm (smT g n) (f n), Int32.add_assoc (f n) (smT g n) (g n)]
theorem smT_z : ∀ n, smT (fun _ => 0) n = 0
  | 0 => rfl
  | n + 1 => by
    show smT (fun _ => 0) n + 0 = 0
    rw [smT_z n]
    rfl
theorem smT_ex {f : Nat → Nat → Int32} (a : Nat) : ∀ b, smT (fun u => smT (f u) a) b = smT (fun t => smT (fun u => f u t) b) a
  | 0 => (smT_z a).symm
  | b + 1 => by
    show smT (fun u => smT (f u) a) b + smT (f b) a = _
    rw [smT_ex a b, ← smT_ad]
    rfl
theorem pth_bit (V : VW) : ∀ n t, t ≤ n → (pth V n).2.2 / 2 ^ t % 2 = (pth V t).1
  | 0, t, h => by
    have : t = 0 := by omega
    subst this
    have := wdV_lt (V := V)
    show wdV V / 1 % 2 = wdV V
    omega
  | n + 1, t, h => by
    obtain ⟨a, b, c, d⟩ := pth_bd V n
    have h1 := nxt_lt (V := V) (t := n) (w := (pth V n).1) (r := (pth V n).2.1)
    have hs : (pth V (n + 1)).2.2 = (pth V n).2.2 + nxt V n (pth V n).1 (pth V n).2.1 * 2 ^ (n + 1) := rfl
    by_cases e : t = n + 1
    · subst e
      rw [hs, Nat.mul_comm, Nat.add_mul_div_left _ _ (Nat.two_pow_pos _), Nat.div_eq_of_lt d]
      show (0 + nxt V n (pth V n).1 (pth V n).2.1) % 2 = nxt V n (pth V n).1 (pth V n).2.1
      omega
    · have ih := pth_bit V n t (by omega)
      obtain ⟨q, rfl⟩ : ∃ q, n = t + q := ⟨n - t, by omega⟩
      have e2 : nxt V (t + q) (pth V (t + q)).1 (pth V (t + q)).2.1 * 2 ^ (t + q + 1) = 2 ^ t * (2 * (nxt V (t + q) (pth V (t + q)).1 (pth V (t + q)).2.1 * 2 ^ q)) := by
        rw [show t + q + 1 = t + (q + 1) by omega, Nat.pow_add, Nat.pow_succ]
        generalize nxt V (t + q) (pth V (t + q)).1 (pth V (t + q)).2.1 = z
        rw [Nat.mul_left_comm]
        congr 1
        rw [Nat.mul_comm (2 ^ q) 2, Nat.mul_left_comm]
      rw [hs, e2, Nat.add_mul_div_left _ _ (Nat.two_pow_pos _)]
      omega
theorem bs_tw (V : VW) {t : Nat} (ht : t < 30) : sTw (bsS V) t = nI (pth V t).1 := by
  have := (pth_bd V 29).2.2.2
  unfold sTw bsS
  rw [pk_tn (by omega), pth_bit V 29 t (by omega)]
theorem bs_rn (V : VW) : ∀ t, t < 30 → sRn (bsS V) t = (pth V t).2.1
  | 0, _ => rfl
  | t + 1, h => by
    have h1 := (pth_bd V t).1
    have h2 := (pth_bd V (t + 1)).1
    show (if sTw (bsS V) (t + 1) = sTw (bsS V) t then sRn (bsS V) t + 1 else 1) = rb (pth V t).1 (pth V t).2.1 (pth V (t + 1)).1
    rw [bs_tw V h, bs_tw V (by omega), bs_rn V t (by omega)]
    unfold rb
    by_cases e : (pth V (t + 1)).1 = (pth V t).1
    · rw [if_pos (by rw [e]), if_pos e]
    · rw [if_neg (fun q => e (nI_inj2 (by omega) (by omega) q)), if_neg e]
def gPt (V : VW) (t : Nat) : Int32 := gsV V t (pth V t).1 (pth V t).2.1
theorem nx_path {V : VW} {t : Nat} : (nxF (fun n => decide (okV V (t + 1) n (rb (pth V t).1 (pth V t).2.1 n))) (fun n => dpV V (28 - t) n (rb (pth V t).1 (pth V t).2.1 n)) 2).2 = dpV V (28 - t) (pth V (t + 1)).1 (pth V (t + 1)).2.1 := by
  rw [nx_one]
  show _ = dpV V (28 - t) (nxt V t (pth V t).1 (pth V t).2.1) (rb (pth V t).1 (pth V t).2.1 (nxt V t (pth V t).1 (pth V t).2.1))
  have ho := ok_one (V := V) (t := t + 1) (r := (pth V t).2.1) (pth_bd V t).1
  generalize (pth V t).1 = w at *
  generalize (pth V t).2.1 = r at *
  by_cases h : okV V (t + 1) 1 (rb w r 1) ∧ (¬ okV V (t + 1) 0 (rb w r 0) ∨ ¬ dpV V (28 - t) 1 (rb w r 1) ≤ dpV V (28 - t) 0 (rb w r 0))
  · rw [if_pos h, show nxt V t w r = 1 from if_pos h]
  · rw [if_neg h, show nxt V t w r = 0 from if_neg h]
    have h0 : okV V (t + 1) 0 (rb w r 0) := by
      by_cases q0 : okV V (t + 1) 0 (rb w r 0)
      · exact q0
      · exact absurd ⟨ho.resolve_left q0, Or.inl q0⟩ h
    rw [if_pos h0]
theorem dp_path (V : VW) : ∀ k t, k + t = 29 → smT (gPt V) t + dpV V k (pth V t).1 (pth V t).2.1 = smT (gPt V) 30
  | 0, t, h => by
    have : t = 29 := by omega
    subst this
    rfl
  | k + 1, t, h => by
    have ht : t = 28 - k := by omega
    rw [dpV_s, show 28 - k = t by omega, show 29 - k = t + 1 by omega, show (fun n => dpV V k n (rb (pth V t).1 (pth V t).2.1 n)) = (fun n => dpV V (28 - t) n (rb (pth V t).1 (pth V t).2.1 n)) from by rw [show 28 - t = k by omega]]
    rw [nx_path, show 28 - t = k by omega, ← Int32.add_assoc]
    exact dp_path V k (t + 1) (by omega)
theorem bs_wo {V : VW} {m : Nat} (hm6 : m ≤ 6) (hm : V.2.1 = nI m) : woV V (bsS V) 2 = dpV V 29 (wdV V) 1 := by
  have h1 := dp_path V 29 0 rfl
  rw [show smT (gPt V) 0 = 0 from rfl, Int32.zero_add] at h1
  rw [show dpV V 29 (wdV V) 1 = smT (gPt V) 30 from h1]
  unfold woV
  rw [hm, i_cl (by omega)]
  have e1 : smT (wuV V (bsS V) 2) m = smT (fun u => smT (fun t => gnV V t (pth V t).1 (pth V t).2.1 u) 30) m := by
    apply smT_cg
    intro u hu
    unfold wuV
    rw [if_pos (Or.inl rfl)]
    unfold haV
    apply smT_cg
    intro t ht
    unfold hsV gnV
    rw [bs_tw V ht, bs_rn V t ht]
  rw [e1, smT_ex]
  apply smT_cg
  intro t ht
  unfold gPt gsV
  rw [hm, i_cl (by omega)]
set_option maxRecDepth 100000 in
set_option maxHeartbeats 4000000 in
theorem x_best {Z : LZ} {ad : Nat → Nat} {τ : St} {K : Int32 → St → Prop} {x : Int32} {m : Nat} {V : VW} (hX : XV τ 1 V m) (hv : VOK V m) (hK : ∀ τ', pkz [2, 3, 5, 6] [] τ τ' → K (fBest V x) τ') : CC lyX Z ad yX5_best wsX5_best (rmk 6) [.ref (ad 0), .int x] τ (rI K) := by
  refine CC.of (cc := cX5_best) (nL := 3) (ret := (some .int)) rfl rfl ⟨rfl, rfl⟩ (by exact Nat.le_of_ble_eq_true rfl) ?_
  intro X B
  change GG _ _ _ _ X _ 0 [some (.ref (ad 0)), some (.int x), none] [] _
  change Amb _ _ _ _ X _ _ RX5 _ _ at B
  have hVm := hX.2.2.2.1
  unfold fBest at hK
  refine g_iload_n B dX5_best_0 rfl ?_
  refine g_if_lt (tgt := 9) B dX5_best_1 (by decide) (fun c1 => ?_) (fun c1 => ?_)
  · refine g_ldc (v := (-1000000)) B dX5_best_9 (mq k_X5_158) ?_
    refine g_ireti B dX5_best_11 ?_
    first
      | exact kk (if_neg (w01n1 c1)).symm (hK τ pkz.rf)
      | exact kk (if_neg (w01n2 c6)).symm (hK τ pkz.rf)
  · refine g_iload_n B dX5_best_4 rfl ?_
    refine g_iconst (v := (1)) B dX5_best_5 (by decide) ?_
    refine g_icmp_le (tgt := 12) B dX5_best_6 (by decide) (fun c6 => ?_) (fun c6 => ?_)
    · rw [if_pos (w01 c1 c6)] at hK
      refine g_aload_n B dX5_best_12 rfl ?_
      refine g_callVi (C := RX5) (As := []) B dX5_best_13 (gc1 g_X5_216) (by rfl) ⟨rfl, hd_X5_findBest⟩ (by exact ⟨Nat.le_of_ble_eq_true rfl, Nat.le_of_ble_eq_true rfl⟩) ⟨rfl, rfl⟩ rfl rfl (by exact Nat.le_of_ble_eq_true rfl) recv5 (x_fb hX hv (fun τ1 p1 => ?_))
      refine g_istore_n B dX5_best_16 (by decide) rfl ?_
      refine g_iload_n B dX5_best_17 rfl ?_
      refine g_if_ne (tgt := 25) B dX5_best_18 (by decide) (fun c18 => ?_) (fun c18 => ?_)
      · refine g_aload_n B dX5_best_25 rfl ?_
        refine g_iconst (v := (2)) B dX5_best_26 (by decide) ?_
        refine g_aload_n B dX5_best_27 rfl ?_
        refine g_getR (T := TX5) (N := 16) B dX5_best_28 (by decide) (by rfl) (inq inlX5) rfl 0 (by decide) (mq f_X5_9) (by rfl) ?_
        refine g_iload_n B dX5_best_31 rfl ?_
        refine g_callVi (C := RX5) (As := [.int _, .ref _, .int _]) B dX5_best_32 (gc1 g_X5_159) (by rfl) ⟨rfl, hd_X5_worthOf⟩ (by exact ⟨Nat.le_of_ble_eq_true rfl, Nat.le_of_ble_eq_true rfl⟩) ⟨rfl, rfl⟩ rfl rfl (by exact Nat.le_of_ble_eq_true rfl) recv5 (x_worthOf (hX.pz p1 okC2356 (by decide) (by decide)) (fun τ2 p2 => ?_))
        refine g_ireti B dX5_best_35 ?_
        first
          | (have h9 := hK τ1 p1
             rw [if_pos c18] at h9
             exact h9)
          | (have h9 := hK τ2 (p1.trans (p2.mono (by decide) (by decide)))
             rw [if_neg c18] at h9
             exact kk (bs_wo hVm.1 hVm.2) h9)
      · refine g_iload_n B dX5_best_21 rfl ?_
        refine g_goto (tgt := 35) B dX5_best_22 (by decide) ?_
        refine g_ireti B dX5_best_35 ?_
        first
          | (have h9 := hK τ1 p1
             rw [if_pos c18] at h9
             exact h9)
          | (have h9 := hK τ2 (p1.trans (p2.mono (by decide) (by decide)))
             rw [if_neg c18] at h9
             exact kk (bs_wo hVm.1 hVm.2) h9)
    · refine g_ldc (v := (-1000000)) B dX5_best_9 (mq k_X5_158) ?_
      refine g_ireti B dX5_best_11 ?_
      first
        | exact kk (if_neg (w01n1 c1)).symm (hK τ pkz.rf)
        | exact kk (if_neg (w01n2 c6)).symm (hK τ pkz.rf)
set_option maxRecDepth 100000 in
set_option maxHeartbeats 4000000 in
theorem x_settle {Z : LZ} {ad : Nat → Nat} {τ : St} {K : Int32 → St → Prop} {m : Nat} {V : VW} (hX : XV τ 1 V m) (hv : VOK V m) (hK : ∀ τ', pkz [2, 3, 5, 6] [1] τ τ' → τ'.1 0 1 = bsS V → K (dpV V 29 (wdV V) 1) τ') : CC lyX Z ad yX5_settle wsX5_settle (rmk 6) [.ref (ad 0)] τ (rI K) := by
  refine CC.of (cc := cX5_settle) (nL := 1) (ret := (some .int)) rfl rfl ⟨rfl, rfl⟩ (by exact Nat.le_of_ble_eq_true rfl) ?_
  intro X B
  change GG _ _ _ _ X _ 0 [some (.ref (ad 0))] [] _
  change Amb _ _ _ _ X _ _ RX5 _ _ at B
  have hVm := hX.2.2.2.1
  refine g_aload_n B dX5_settle_0 rfl ?_
  refine g_aload_n B dX5_settle_1 rfl ?_
  refine g_callVi (C := RX5) (As := []) B dX5_settle_2 (gc1 g_X5_216) (by rfl) ⟨rfl, hd_X5_findBest⟩ (by exact ⟨Nat.le_of_ble_eq_true rfl, Nat.le_of_ble_eq_true rfl⟩) ⟨rfl, rfl⟩ rfl rfl (by exact Nat.le_of_ble_eq_true rfl) recv5 (x_fb hX hv (fun τ1 p1 => ?_))
  refine g_putI (T := TX5) (N := 16) B dX5_settle_5 (by decide) (by rfl) (inq inlX5) rfl 1 (by decide) (mq f_X5_13) tyX5_ok nmX5 rfl ⟨rfl, rfl⟩ (by rfl) ?_
  refine g_st (fun σ hσ => ?_)
  have p2 : pkz [2, 3, 5, 6] [1] τ σ := by rw [hσ]; exact (p1.mono (by decide) (by decide)).up0 (by decide)
  have e1 : σ.1 0 1 = bsS V := by rw [hσ, upS_1]
  refine g_aload_n B dX5_settle_8 rfl ?_
  refine g_iconst (v := (2)) B dX5_settle_9 (by decide) ?_
  refine g_aload_n B dX5_settle_10 rfl ?_
  refine g_getR (T := TX5) (N := 16) B dX5_settle_11 (by decide) (by rfl) (inq inlX5) rfl 0 (by decide) (mq f_X5_9) (by rfl) ?_
  refine g_aload_n B dX5_settle_14 rfl ?_
  refine g_getI (T := TX5) (N := 16) B dX5_settle_15 (by decide) (by rfl) (inq inlX5) rfl 1 (by decide) (mq f_X5_13) (by rfl) ?_
  rw [e1]
  refine g_callVi (C := RX5) (As := [.int _, .ref _, .int _]) B dX5_settle_18 (gc1 g_X5_159) (by rfl) ⟨rfl, hd_X5_worthOf⟩ (by exact ⟨Nat.le_of_ble_eq_true rfl, Nat.le_of_ble_eq_true rfl⟩) ⟨rfl, rfl⟩ rfl rfl (by exact Nat.le_of_ble_eq_true rfl) recv5 (x_worthOf (hX.pz p2 okC2356 (by decide) (by decide)) (fun τ2 p3 => ?_))
  refine g_ireti B dX5_settle_21 ?_
  exact kk (bs_wo hVm.1 hVm.2) (hK τ2 (p2.trans (p3.mono (by decide) (by decide))) ((p3.2.1 1 (by decide)).trans e1))

