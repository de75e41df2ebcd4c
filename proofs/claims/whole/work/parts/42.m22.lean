/-! what a sheet tells *reference* -/
theorem upS_same {τ : St} {o k : Nat} : upS τ o k (τ.1 o k) = τ := by
  unfold upS
  have : va_up τ.1 o (va_up (τ.1 o) k (τ.1 o k)) = τ.1 := by
    funext j
    unfold va_up
    by_cases e : j = o
    · subst e
      rw [if_pos rfl]
      funext i
      by_cases e2 : i = k
      · rw [e2, if_pos rfl]
      · rw [if_neg e2]
    · rw [if_neg e]
  rw [this]
theorem upS_upS {τ : St} {o k : Nat} {a b : Int32} : upS (upS τ o k a) o k b = upS τ o k b := by
  unfold upS
  have : va_up (va_up τ.1 o (va_up (τ.1 o) k a)) o (va_up ((va_up τ.1 o (va_up (τ.1 o) k a)) o) k b) = va_up τ.1 o (va_up (τ.1 o) k b) := by
    funext j
    unfold va_up
    by_cases e : j = o
    · subst e
      simp only [if_pos]
      funext i
      by_cases e2 : i = k
      · rw [if_pos e2, if_pos e2]
      · rw [if_neg e2, if_neg e2, if_neg e2]
    · rw [if_neg e, if_neg e, if_neg e]
  simp only [this]
theorem lays_lays {τ : St} {w o : Nat} {a b : Int32} : laysT (laysT τ w o a) w o b = laysT τ w o b := by
  unfold laysT
  (repeat' split) <;> exact upS_upS
def btF (f : Nat → Int32) : Nat → Int32
  | 0 => 0
  | i + 1 => btF f i ||| ((b1 (f i = -1)) <<< (nI i &&& 31))
theorem lays_o {τ : St} {w o q : Nat} {v : Int32} (h0 : q ≠ 0) (h4 : q ≠ 4) (h5 : q ≠ 5) (h6 : q ≠ 6) : (laysT τ w o v).1 q = τ.1 q := by
  unfold laysT
  (repeat' split) <;> (rw [upS_3]; assumption)
theorem lays_7 {τ : St} {w o k : Nat} {v : Int32} (hw : w ≠ 0) (hk : k ≠ 4) : (laysT τ w o v).1 0 k = τ.1 0 k := by
  unfold laysT
  rw [if_neg hw]
  (repeat' split) <;> first | rw [upS_3 (by decide)] | rw [upS_2 hk]
theorem lays_4 {τ : St} {w o : Nat} {v : Int32} (hw : w ≠ 0) (h5 : w < 5) : (laysT τ w o v).1 0 4 = τ.1 0 4 := by
  unfold laysT
  rw [if_neg hw]
  (repeat' split) <;> first | rw [upS_3 (by decide)] | (exfalso; omega)
theorem lays_rul {τ : St} {w o : Nat} (h : w = 5) {v : Int32} : laysT τ w o v = upS τ 0 4 v := by
  subst h
  rfl
def tlf (τ : St) (C : TC) (T : Nat → TC) (s u w n : Nat) (v : Nat) : Int32 := sFO (vM (laysT τ w u (nI v)) (if w = 5 then T v else C)) (τ.1 0 7) u (itM τ s) n
theorem lays_RUL {τ : St} {C : TC} {T : Nat → TC} {w o v : Nat} (hC : RUL τ C) (hT : w = 5 → ∃ n, TXM τ v n (T v)) (hw : w ≠ 0) (hw5 : w ≤ 5) : RUL (laysT τ w o (nI v)) (if w = 5 then T v else C) := by
  by_cases h5 : w = 5
  · rw [if_pos h5, lays_rul h5]
    obtain ⟨n, h⟩ := hT h5
    exact ⟨v, n, upS_1, h.eq (by rw [upS_3 (by decide)]) (by rw [upS_3 (by decide)])⟩
  · rw [if_neg h5]
    exact hC.eq (lays_o (by decide) (by decide) (by decide) (by decide)) (lays_o (by decide) (by decide) (by decide) (by decide)) (lays_4 hw (by omega))
set_option maxRecDepth 100000 in
set_option maxHeartbeats 4000000 in
theorem l_tells {Z : LZ} {ad : Nat → Nat} {X : CX} {K : Int32 → St → Prop} {τ : St} {what was : Int32} {s u w n al : Nat} {C : TC} {T : Nat → TC} (B : Amb lyM Z ad (rmk 47) X cX6_tells wsX6_tells RX6 9 (some .int)) (hC : RUL τ C) (hs : s < 4) (hu : u < 6) (hn : n ≤ 30) (hz : τ.1 14 s = nI n) (hw2 : 2 ≤ w) (hw5 : w ≤ 5) (hal : al ≤ 10) (hT : w = 5 → ∀ v, v < al → ∃ n, TXM τ v n (T v)) (hwas : laysT τ w u was = τ) (hK : ∀ τ', sg τ τ' → K (btF (tlf τ C T s u w n) al) τ') : ∀ (k i : Nat) (σ : St), i + k = al → (∃ a, sg (laysT τ w u a) σ) → GG lyM Z ad (rmk 47) X (rI K) 215 [some (.ref (ad 0)), some (.int (nI s)), some (.int (nI u)), some (.int what), some (.int (btF (tlf τ C T s u w n) i)), some (.int (nI w)), some (.int was), some (.int (nI al)), some (.int (nI i))] [] σ := by
  intro k
  induction k using Nat.strongRecOn with
  | ind k ih =>
    intro i σ h1 ha
    obtain ⟨a, ha⟩ := ha
    have p0 : ∀ b, sg (laysT τ w u b) (laysT σ w u b) := fun b => by
      have := sg_lays (w := w) (o := u) (v := b) ha
      rw [lays_lays] at this
      exact this
    refine g_iload B dX6_tells_215 rfl ?_
    refine g_iload B dX6_tells_217 rfl ?_
    refine g_icmp_ge (tgt := 264) B dX6_tells_219 (by decide) (fun c219 => ?_) (fun c219 => ?_)
    · refine g_aload_n B dX6_tells_264 rfl ?_
      refine g_iload B dX6_tells_265 rfl ?_
      refine g_iload_n B dX6_tells_267 rfl ?_
      refine g_iload B dX6_tells_268 rfl ?_
      refine g_callVv (C := RX6) (As := [.int _, .int _, .int _]) B dX6_tells_270 (gc1 g_X6_100) (by rfl) ⟨rfl, hd_X6_lays⟩ (by exact ⟨Nat.le_of_ble_eq_true rfl, Nat.le_of_ble_eq_true rfl⟩) ⟨rfl, rfl⟩ rfl rfl (by exact Nat.le_of_ble_eq_true rfl) recvM (c_lays (w := w) (o := u) rfl hw5 (fun e => by omega) (fun _ _ => ⟨rfl, hu⟩) ?_)
      refine g_iload B dX6_tells_273 rfl ?_
      refine g_ireti B dX6_tells_275 ?_
      rw [nI_leI (by omega) (by omega)] at c219
      have e : i = al := by omega
      subst e
      have p1 := p0 was
      rw [hwas] at p1
      exact hK _ p1
    · rw [nI_leI (by omega) (by omega)] at c219
      refine g_aload_n B dX6_tells_222 rfl ?_
      refine g_iload B dX6_tells_223 rfl ?_
      refine g_iload_n B dX6_tells_225 rfl ?_
      refine g_iload B dX6_tells_226 rfl ?_
      refine g_callVv (C := RX6) (As := [.int _, .int _, .int _]) B dX6_tells_228 (gc1 g_X6_100) (by rfl) ⟨rfl, hd_X6_lays⟩ (by exact ⟨Nat.le_of_ble_eq_true rfl, Nat.le_of_ble_eq_true rfl⟩) ⟨rfl, rfl⟩ rfl rfl (by exact Nat.le_of_ble_eq_true rfl) recvM (c_lays (w := w) (o := u) rfl hw5 (fun e => by omega) (fun _ _ => ⟨rfl, hu⟩) ?_)
      refine g_iload B dX6_tells_231 rfl ?_
      refine g_aload_n B dX6_tells_233 rfl ?_
      refine g_iload_n B dX6_tells_234 rfl ?_
      refine g_iload_n B dX6_tells_235 rfl ?_
      refine g_aload_n B dX6_tells_236 rfl ?_
      refine g_getI (T := TX6) (N := 42) B dX6_tells_237 (by decide) (by rfl) (inq inlX6) rfl 7 (by decide) (mq f_X6_104) (by rfl) ?_
      rw [(p0 (nI i)).2.1 7 (by decide), lays_7 (by omega) (by decide)]
      refine g_callVi (C := RX6) (As := [.int _, .int _, .int _]) B dX6_tells_240 (gc1 g_X6_394) (by rfl) ⟨rfl, hd_X6_firstOther⟩ (by exact ⟨Nat.le_of_ble_eq_true rfl, Nat.le_of_ble_eq_true rfl⟩) ⟨rfl, rfl⟩ rfl rfl (by exact Nat.le_of_ble_eq_true rfl) recvM (c_firstOther (s := s) (u := u) (n := n) ((lays_RUL hC (fun e => hT e i (by omega)) (by omega) hw5).pz (p0 (nI i)) (by decide) (by decide) (by decide)) rfl hs rfl hu hn (by rw [(p0 (nI i)).1 14 (by decide) (by decide), lays_o (by decide) (by decide) (by decide) (by decide)]; exact hz) (fun τ1 p1 => ?_))
      have ef : sFO (vM (laysT σ w u (nI i)) (if w = 5 then T i else C)) (τ.1 0 7) u (itM (laysT σ w u (nI i)) s) n = tlf τ C T s u w n i := by
        unfold tlf
        rw [vM_pz (p0 (nI i)) (by decide) (by decide) (by decide) (by decide)]
        have e2 : itM (laysT σ w u (nI i)) s = itM τ s := by
          unfold itM
          rw [(p0 (nI i)).1 15 (by decide) (by decide), lays_o (by decide) (by decide) (by decide) (by decide)]
        rw [e2]
      rw [ef]
      refine g_iconst (v := (-1)) B dX6_tells_243 (by decide) ?_
      refine g_icmp_ne (tgt := 251) B dX6_tells_244 (by decide) (fun c244 => ?_) (fun c244 => ?_)
      · refine g_iconst (v := (0)) B dX6_tells_251 (by decide) ?_
        refine g_iload B dX6_tells_252 rfl ?_
        refine g_ishl B dX6_tells_254 ?_
        refine g_ior B dX6_tells_255 ?_
        refine g_istore B dX6_tells_256 (by decide) rfl ?_
        refine g_iinc (c9 := (1)) B dX6_tells_258 rfl (by decide) (by decide) rfl ?_
        refine g_goto (tgt := 215) B dX6_tells_261 (by decide) ?_
        rw [nI_1 i]
        have h9 := ih (k - 1) (by omega) (i + 1) τ1 (by omega) ⟨nI i, (p0 (nI i)).trans (sgx p1)⟩
        unfold btF at h9
        first
          | (rw [b1_t c244] at h9; exact h9)
          | (rw [b1_f c244] at h9; exact h9)
      · refine g_iconst (v := (1)) B dX6_tells_247 (by decide) ?_
        refine g_goto (tgt := 252) B dX6_tells_248 (by decide) ?_
        refine g_iload B dX6_tells_252 rfl ?_
        refine g_ishl B dX6_tells_254 ?_
        refine g_ior B dX6_tells_255 ?_
        refine g_istore B dX6_tells_256 (by decide) rfl ?_
        refine g_iinc (c9 := (1)) B dX6_tells_258 rfl (by decide) (by decide) rfl ?_
        refine g_goto (tgt := 215) B dX6_tells_261 (by decide) ?_
        rw [nI_1 i]
        have h9 := ih (k - 1) (by omega) (i + 1) τ1 (by omega) ⟨nI i, (p0 (nI i)).trans (sgx p1)⟩
        unfold btF at h9
        first
          | (rw [b1_t c244] at h9; exact h9)
          | (rw [b1_f c244] at h9; exact h9)
set_option maxRecDepth 100000 in
set_option maxHeartbeats 4000000 in
theorem l_tells5 {Z : LZ} {ad : Nat → Nat} {X : CX} {K : Int32 → St → Prop} {τ : St} {what : Int32} {s u n : Nat} {C : TC} (B : Amb lyM Z ad (rmk 47) X cX6_tells wsX6_tells RX6 9 (some .int)) (hC : RUL τ C) (hs : s < 4) (hu : u < 6) (hn : n ≤ 30) (hz : τ.1 14 s = nI n) (hK : ∀ τ', sg τ τ' → K (btF (fun t => sFO (vM τ C) (flS (τ.1 0 7) t) u (itM τ s) n) n) τ') : ∀ (k i : Nat) (σ : St), i + k = n → pkx mS τ σ → GG lyM Z ad (rmk 47) X (rI K) 82 [some (.ref (ad 0)), some (.int (nI s)), some (.int (nI u)), some (.int what), some (.int (btF (fun t => sFO (vM τ C) (flS (τ.1 0 7) t) u (itM τ s) n) i)), some (.int (nI i)), none, none, none] [] σ := by
  intro k
  induction k using Nat.strongRecOn with
  | ind k ih =>
    intro i σ h1 hp
    refine g_iload B dX6_tells_82 rfl ?_
    refine g_aload_n B dX6_tells_84 rfl ?_
    refine g_getR (T := TX6) (N := 42) B dX6_tells_85 (by decide) (by rfl) (inq inlX6) rfl 40 (by decide) (mq f_X6_57) (by rfl) ?_
    refine g_iload_n B dX6_tells_88 rfl ?_
    refine g_iald B dX6_tells_89 (by decide) (by rfl) (by exact vp_in_nI (n := s) (by omega) (by omega)) ?_
    rw [i_cl (by omega), hp.1 14 (by decide), hz]
    refine g_icmp_ge (tgt := 131) B dX6_tells_90 (by decide) (fun c90 => ?_) (fun c90 => ?_)
    · refine g_iload B dX6_tells_131 rfl ?_
      refine g_ireti B dX6_tells_133 ?_
      rw [nI_leI (by omega) (by omega)] at c90
      have e : i = n := by omega
      subst e
      exact hK _ (sgx hp)
    · rw [nI_leI (by omega) (by omega)] at c90
      refine g_iload B dX6_tells_93 rfl ?_
      refine g_aload_n B dX6_tells_95 rfl ?_
      refine g_iload_n B dX6_tells_96 rfl ?_
      refine g_iload_n B dX6_tells_97 rfl ?_
      refine g_aload_n B dX6_tells_98 rfl ?_
      refine g_getI (T := TX6) (N := 42) B dX6_tells_99 (by decide) (by rfl) (inq inlX6) rfl 7 (by decide) (mq f_X6_104) (by rfl) ?_
      rw [hp.2.1 7 (by decide)]
      refine g_iconst (v := (1)) B dX6_tells_102 (by decide) ?_
      refine g_iload B dX6_tells_103 rfl ?_
      refine g_ishl B dX6_tells_105 ?_
      refine g_ixor B dX6_tells_106 ?_
      refine g_callVi (C := RX6) (As := [.int _, .int _, .int _]) B dX6_tells_107 (gc1 g_X6_394) (by rfl) ⟨rfl, hd_X6_firstOther⟩ (by exact ⟨Nat.le_of_ble_eq_true rfl, Nat.le_of_ble_eq_true rfl⟩) ⟨rfl, rfl⟩ rfl rfl (by exact Nat.le_of_ble_eq_true rfl) recvM (c_firstOther (s := s) (u := u) (n := n) (hC.pk hp) rfl hs rfl hu hn (by rw [hp.1 14 (by decide)]; exact hz) (fun τ1 p1 => ?_))
      have ef : sFO (vM σ C) (τ.1 0 7 ^^^ ((1 : Int32) <<< (nI i &&& 31))) u (itM σ s) n = (fun t => sFO (vM τ C) (flS (τ.1 0 7) t) u (itM τ s) n) i := by
        have e2 : itM σ s = itM τ s := by
          unfold itM
          rw [hp.1 15 (by decide)]
        rw [vM_pk hp (by decide), e2]
        rfl
      rw [ef]
      refine g_iconst (v := (-1)) B dX6_tells_110 (by decide) ?_
      refine g_icmp_ne (tgt := 118) B dX6_tells_111 (by decide) (fun c111 => ?_) (fun c111 => ?_)
      · refine g_iconst (v := (0)) B dX6_tells_118 (by decide) ?_
        refine g_iload B dX6_tells_119 rfl ?_
        refine g_ishl B dX6_tells_121 ?_
        refine g_ior B dX6_tells_122 ?_
        refine g_istore B dX6_tells_123 (by decide) rfl ?_
        refine g_iinc (c9 := (1)) B dX6_tells_125 rfl (by decide) (by decide) rfl ?_
        refine g_goto (tgt := 82) B dX6_tells_128 (by decide) ?_
        rw [nI_1 i]
        have h9 := ih (k - 1) (by omega) (i + 1) τ1 (by omega) (hp.trans p1)
        unfold btF at h9
        first
          | (rw [b1_t c111] at h9; exact h9)
          | (rw [b1_f c111] at h9; exact h9)
      · refine g_iconst (v := (1)) B dX6_tells_114 (by decide) ?_
        refine g_goto (tgt := 119) B dX6_tells_115 (by decide) ?_
        refine g_iload B dX6_tells_119 rfl ?_
        refine g_ishl B dX6_tells_121 ?_
        refine g_ior B dX6_tells_122 ?_
        refine g_istore B dX6_tells_123 (by decide) rfl ?_
        refine g_iinc (c9 := (1)) B dX6_tells_125 rfl (by decide) (by decide) rfl ?_
        refine g_goto (tgt := 82) B dX6_tells_128 (by decide) ?_
        rw [nI_1 i]
        have h9 := ih (k - 1) (by omega) (i + 1) τ1 (by omega) (hp.trans p1)
        unfold btF at h9
        first
          | (rw [b1_t c111] at h9; exact h9)
          | (rw [b1_f c111] at h9; exact h9)

