/-! the tape scanned; what stands at hand; a code written *program* -/
/-- only rows cs, and of the reader (cell 11) places ks, may be others -/
def pkr (cs ks : List Nat) (τ τ' : St) : Prop := (∀ o, o ≠ 11 → o ∉ cs → τ'.1 o = τ.1 o) ∧ (∀ k, k ∉ ks → τ'.1 11 k = τ.1 11 k) ∧ τ'.2.2 = τ.2.2
theorem pkr.rf {cs ks : List Nat} {τ : St} : pkr cs ks τ τ := ⟨fun _ _ _ => rfl, fun _ _ => rfl, rfl⟩
theorem pkr.trans {cs ks : List Nat} {a b c : St} (h1 : pkr cs ks a b) (h2 : pkr cs ks b c) : pkr cs ks a c := ⟨fun o h hc => (h2.1 o h hc).trans (h1.1 o h hc), fun k h => (h2.2.1 k h).trans (h1.2.1 k h), h2.2.2.trans h1.2.2⟩
theorem pkr.mono {cs ks cs' ks' : List Nat} {a b : St} (h : pkr cs ks a b) (hc : ∀ k, k ∈ cs → k ∈ cs') (hk : ∀ k, k ∈ ks → k ∈ ks') : pkr cs' ks' a b := ⟨fun o h0 hn => h.1 o h0 (fun q => hn (hc o q)), fun k hn => h.2.1 k (fun q => hn (hk k q)), h.2.2⟩
theorem pkr.upR {cs ks : List Nat} {a b : St} {k : Nat} {v : Int32} (h : pkr cs ks a b) (hk : k ∈ ks) : pkr cs ks a (upS b 11 k v) :=
  ⟨fun o ho hc => by rw [upS_3 ho]; exact h.1 o ho hc, fun j hj => by rw [upS_2 (fun e => hj (by rw [e]; exact hk))]; exact h.2.1 j hj, h.2.2⟩
theorem pkr.upC {cs ks : List Nat} {a b : St} {o k : Nat} {v : Int32} (h : pkr cs ks a b) (h0 : o ≠ 11) (hc : o ∈ cs) : pkr cs ks a (upS b o k v) :=
  ⟨fun o' ho' hc' => by rw [upS_3 (fun e => hc' (by rw [e]; exact hc))]; exact h.1 o' ho' hc', fun j hj => by rw [upS_3 (Ne.symm h0)]; exact h.2.1 j hj, h.2.2⟩
theorem GB.pr {cs ks : List Nat} {τ τ' : St} {g : Nat → Int32} {p : Nat} (h : GB τ g p) (hp : pkr cs ks τ τ') (h16 : 16 ∉ cs) (h1 : 1 ∉ ks) : GB τ' g p := by
  refine ⟨h.1, (hp.2.1 1 h1).trans h.2.1, ?_⟩
  rw [hp.1 16 (by decide) h16]
  exact h.2.2
abbrev TT (g : Nat → Int32) (a : Nat) : Int32 := tokS g (lxS g a)
abbrev VV (g : Nat → Int32) (a : Nat) : Int32 := tokV g (lxS g a)
def TK (τ : St) (g : Nat → Int32) (t : Nat) : Prop := ∀ a, a < t → τ.1 17 a = TT g a ∧ τ.1 18 a = VV g a ∧ τ.1 19 a = nI (lxS g a)
theorem TK.ad {τ : St} {g : Nat → Int32} {t : Nat} {s v x : Int32} (h : TK τ g t) (h1 : s = TT g t) (h2 : v = VV g t) (h3 : x = nI (lxS g t)) : TK (adT τ t s v x) g (t + 1) := fun a ha => by
  subst h1 h2 h3
  unfold adT
  by_cases e : a = t
  · subst e
    exact ⟨by rw [upS_3 (by decide), upS_3 (by decide), upS_3 (by decide), upS_1], by rw [upS_3 (by decide), upS_3 (by decide), upS_1], by rw [upS_3 (by decide), upS_1]⟩
  · obtain ⟨x1, x2, x3⟩ := h a (by omega)
    exact ⟨by rw [upS_3 (by decide), upS_3 (by decide), upS_3 (by decide), upS_2 e]; exact x1, by rw [upS_3 (by decide), upS_3 (by decide), upS_2 e, upS_3 (by decide)]; exact x2, by rw [upS_3 (by decide), upS_2 e, upS_3 (by decide), upS_3 (by decide)]; exact x3⟩
theorem adT_p {τ0 τ : St} {t : Nat} {s v x : Int32} (h : pkr [17, 18, 19] [6] τ0 τ) : pkr [17, 18, 19] [6] τ0 (adT τ t s v x) := (((h.upC (by decide) (by decide)).upC (by decide) (by decide)).upC (by decide) (by decide)).upR (by decide)
/-- where token t's search begins -/
def eT (g : Nat → Int32) : Nat → Nat
  | 0 => 0
  | t + 1 => tokE g (lxS g t)
theorem lxS_e {g : Nat → Int32} : ∀ t, lxS g t = skp g 200 (eT g t)
  | 0 => rfl
  | _ + 1 => rfl
/-- all tokens stand in their rows, the end the last -/
def SC (τ : St) (g : Nat → Int32) (p : Nat) : Prop := ∃ N, N ≤ 160 ∧ τ.1 11 6 = nI (N + 1) ∧ TK τ g (N + 1) ∧ ∀ a, N ≤ a → lxS g a = p
theorem SC.pr {cs ks : List Nat} {τ τ' : St} {g : Nat → Int32} {p : Nat} (h : SC τ g p) (hp : pkr cs ks τ τ') (h1 : 17 ∉ cs) (h2 : 18 ∉ cs) (h3 : 19 ∉ cs) (h6 : 6 ∉ ks) : SC τ' g p := by
  obtain ⟨N, a, b, c, d⟩ := h
  refine ⟨N, a, (hp.2.1 6 h6).trans b, ?_, d⟩
  unfold TK
  rw [hp.1 17 (by decide) h1, hp.1 18 (by decide) h2, hp.1 19 (by decide) h3]
  exact c
theorem lxS_end {g : Nat → Int32} {p t : Nat} (hg : gEnd g p) (h : lxS g t = p) : ∀ a, t ≤ a → lxS g a = p
  | 0, h0 => by
    have : t = 0 := by omega
    rw [← this]; exact h
  | a + 1, h0 => by
    by_cases e : t = a + 1
    · rw [← e]; exact h
    · have ih := lxS_end hg h a (by omega)
      have gp : g p < 0 := hg.neg.mpr (Nat.le_refl _)
      show skp g 200 (tokE g (lxS g a)) = p
      rw [ih]
      have e1 : tokE g p = p := by unfold tokE; rw [if_pos gp]
      rw [e1]
      have := hg.2.2
      exact skp_eq (by rw [hg.1 p (Nat.le_refl _)]; exact not_isB_neg) 200 p (Nat.le_refl _) (by omega) (fun j a b => by omega)
set_option maxRecDepth 100000 in
set_option maxHeartbeats 4000000 in
theorem lx_scan2 {Z : LZ} {ad : Nat → Nat} {X : CX} {K : St → Prop} {τ0 τ : St} {g : Nat → Int32} {p t : Nat} {w1 w2 : Int32} (B : Amb lyX Z ad (rmk 7) X cX1_scan wsX1_scan RX1 4 none) (hG : GB τ g p) (hp : pkr [17, 18, 19] [6] τ0 τ) (hc : τ.1 11 6 = nI t) (hT : TK τ g t) (ht : t ≤ p) (hl : lxS g t = p) (hK : ∀ τ', pkr [17, 18, 19] [6] τ0 τ' → SC τ' g p → K τ') : GG lyX Z ad (rmk 7) X (rV K) 73 [some (.ref (ad 11)), some (.int w1), some (.int w2), none] [] τ := by
  have hp160 := hG.1.2.2
  refine g_aload_n B dX1_scan_73 rfl ?_
  refine g_iconst (v := (0)) B dX1_scan_74 (by decide) ?_
  refine g_iconst (v := (0)) B dX1_scan_75 (by decide) ?_
  refine g_aload_n B dX1_scan_76 rfl ?_
  refine g_getI (T := TX1) (N := 9) B dX1_scan_77 (by decide) (by rfl) (inq inlX1) rfl 1 (by decide) (mq f_X1_15) (by rfl) ?_
  rw [hG.2.1]
  refine g_callVv (C := RX1) (As := [.int _, .int _, .int _]) B dX1_scan_80 (gc1 g_X1_61) (by rfl) ⟨rfl, hd_X1_addToken⟩ (by exact ⟨Nat.le_of_ble_eq_true rfl, Nat.le_of_ble_eq_true rfl⟩) ⟨rfl, rfl⟩ rfl rfl (by exact Nat.le_of_ble_eq_true rfl) recv1 (x_addT (t := t) (by omega) hc ?_)
  refine g_vreti B dX1_scan_83 ?_
  refine hK _ (adT_p hp) ⟨t, by omega, upS_1, hT.ad ?_ ?_ ?_, fun a ha => lxS_end hG.1 hl a ha⟩
  · show (0 : Int32) = tokS g (lxS g t)
    rw [hl, tokS_end hG.1 (Nat.le_refl _)]
  · show (0 : Int32) = tokV g (lxS g t)
    rw [hl]
    unfold tokV
    rw [if_pos (hG.1.neg.mpr (Nat.le_refl _))]
  · rw [hl]
set_option maxRecDepth 100000 in
set_option maxHeartbeats 4000000 in
theorem lx_scan {Z : LZ} {ad : Nat → Nat} {X : CX} {K : St → Prop} {τ0 : St} {g : Nat → Int32} {p : Nat} {aK aV : Nat → Nat} {tb fm : Nat} (B : Amb lyX Z ad (rmk 7) X cX1_scan wsX1_scan RX1 4 none) (hE : SI Z aK aV tb fm) (hG0 : GB τ0 g p) (hK : ∀ τ', pkr [17, 18, 19] [6] τ0 τ' → SC τ' g p → K τ') : ∀ (k i t : Nat) (τ : St), i + k = p → pkr [17, 18, 19] [6] τ0 τ → τ.1 11 6 = nI t → TK τ g t → eT g t ≤ p → (∀ j, eT g t ≤ j → j < i → isB (g j)) → (1 ≤ t → lxS g (t - 1) < i) → GG lyX Z ad (rmk 7) X (rV K) 9 [some (.ref (ad 11)), some (.int (nI (eT g t))), some (.int (nI i)), none] [] τ := by
  intro k
  induction k using Nat.strongRecOn with
  | ind k ih =>
    intro i t τ h1 hp hc hT he hb hlt
    have hG := hG0.pr hp (by decide) (by decide)
    have hp160 := hG.1.2.2
    have htp : t ≤ p := by
      rcases Nat.eq_zero_or_pos t with z | z
      · omega
      · have z2 := hlt z
        have := lxS_ge hG.1 (t - 1) (by omega)
        omega
    have hci : (nI i).toNatClampNeg = i := i_cl (by omega)
    refine g_iload_n B dX1_scan_9 rfl ?_
    refine g_aload_n B dX1_scan_10 rfl ?_
    refine g_getI (T := TX1) (N := 9) B dX1_scan_11 (by decide) (by rfl) (inq inlX1) rfl 1 (by decide) (mq f_X1_15) (by rfl) ?_
    rw [hG.2.1]
    refine g_icmp_ge (tgt := 73) B dX1_scan_14 (by decide) (fun c14 => ?_) (fun c14 => ?_)
    · rw [nI_leI (by omega) (by omega)] at c14
      have ei : i = p := by omega
      subst ei
      refine lx_scan2 B hG hp hc hT htp ?_ hK
      rw [lxS_e]
      exact skp_eq (by rw [hG.1.1 i (Nat.le_refl _)]; exact not_isB_neg) 200 (eT g t) he (by omega) (fun j a b => hb j a b)
    · have hip : i < p := by
        have := c14
        rw [nI_leI (by omega) (by omega)] at this
        omega
      refine g_iload_n B dX1_scan_17 rfl ?_
      refine g_sipush (v := (160)) B dX1_scan_18 (by decide) ?_
      refine g_icmp_ge (tgt := 73) B dX1_scan_21 (by decide) (fun c21 => ?_) (fun c21 => ?_)
      · exact absurd (i_le.mp c21) (by rw [i_n (by omega), show (160 : Int32).toInt = 160 from rfl]; omega)
      · refine g_aload_n B dX1_scan_24 rfl ?_
        refine g_getR (T := TX1) (N := 9) B dX1_scan_25 (by decide) (by rfl) (inq inlX1) rfl 0 (by decide) (mq f_X1_9) (by rfl) ?_
        refine g_iload_n B dX1_scan_28 rfl ?_
        refine g_iald B dX1_scan_29 (by decide) (by rfl) (by exact vp_in_nI (by omega) (by omega)) ?_
        rw [hci, hG.2.2 i hip]
        refine g_bipush (v := (32)) B dX1_scan_30 (by decide) ?_
        refine g_icmp_eq (tgt := 46) B dX1_scan_32 (by decide) (fun c32 => ?_) (fun c32 => ?_)
        · refine g_iconst (v := (1)) B dX1_scan_46 (by decide) ?_
          refine g_goto (tgt := 51) B dX1_scan_47 (by decide) ?_
          refine g_istore_n B dX1_scan_51 (by decide) rfl ?_
          refine g_iload_n B dX1_scan_52 rfl ?_
          refine g_iload_n B dX1_scan_53 rfl ?_
          refine g_icmp_lt (tgt := 67) B dX1_scan_54 (by decide) (fun c54 => ?_) (fun c54 => ?_)
          · refine g_iinc (c9 := (1)) B dX1_scan_67 rfl (by decide) (by decide) rfl ?_
            refine g_goto (tgt := 9) B dX1_scan_70 (by decide) ?_
            rw [nI_1 i]
            refine g_drop 3 ?_
            first
              | (have h9 := ih (k - 1) (by omega) (i + 1) (t + 1) _ (by omega) (adT_p hp) upS_1 (hT.ad (s := tokS g i) (v := tokV g i) (x := nI i) (by rw [← hli]) (by rw [← hli]) (by rw [hli])) (by
                   show tokE g (lxS g t) ≤ p
                   rw [hli]
                   exact (tokE_le hG.1 (by omega)).2.1) (fun j a b => by
                   have := (tokE_le hG.1 (show i ≤ p by omega)).2.2 hip
                   have a2 : tokE g (lxS g t) ≤ j := a
                   rw [hli] at a2
                   omega) (fun _ => by rw [show t + 1 - 1 = t by omega, hli]; omega)
                 rw [show eT g (t + 1) = tokE g i from by show tokE g (lxS g t) = _; rw [hli]] at h9
                 exact h9)
              | (refine ih (k - 1) (by omega) (i + 1) t τ (by omega) hp hc hT he (fun j a b => ?_) (fun q => by have := hlt q; omega)
                 by_cases e : j = i
                 · subst e
                   first
                   | exact Or.inl c32
                   | exact Or.inr c43
                   | (rw [i_lt, i_n (by omega), i_n (by omega)] at c54
                      omega)
                 · exact hb j a (by omega))
          · refine g_iload_n B dX1_scan_57 rfl ?_
            refine g_if_ne (tgt := 67) B dX1_scan_58 (by decide) (fun c58 => ?_) (fun c58 => ?_)
            · refine g_iinc (c9 := (1)) B dX1_scan_67 rfl (by decide) (by decide) rfl ?_
              refine g_goto (tgt := 9) B dX1_scan_70 (by decide) ?_
              rw [nI_1 i]
              refine g_drop 3 ?_
              first
                | (have h9 := ih (k - 1) (by omega) (i + 1) (t + 1) _ (by omega) (adT_p hp) upS_1 (hT.ad (s := tokS g i) (v := tokV g i) (x := nI i) (by rw [← hli]) (by rw [← hli]) (by rw [hli])) (by
                     show tokE g (lxS g t) ≤ p
                     rw [hli]
                     exact (tokE_le hG.1 (by omega)).2.1) (fun j a b => by
                     have := (tokE_le hG.1 (show i ≤ p by omega)).2.2 hip
                     have a2 : tokE g (lxS g t) ≤ j := a
                     rw [hli] at a2
                     omega) (fun _ => by rw [show t + 1 - 1 = t by omega, hli]; omega)
                   rw [show eT g (t + 1) = tokE g i from by show tokE g (lxS g t) = _; rw [hli]] at h9
                   exact h9)
                | (refine ih (k - 1) (by omega) (i + 1) t τ (by omega) hp hc hT he (fun j a b => ?_) (fun q => by have := hlt q; omega)
                   by_cases e : j = i
                   · subst e
                     first
                     | exact Or.inl c32
                     | exact Or.inr c43
                     | (rw [i_lt, i_n (by omega), i_n (by omega)] at c54
                        omega)
                   · exact hb j a (by omega))
            · exact absurd c58 (by decide)
        · refine g_aload_n B dX1_scan_35 rfl ?_
          refine g_getR (T := TX1) (N := 9) B dX1_scan_36 (by decide) (by rfl) (inq inlX1) rfl 0 (by decide) (mq f_X1_9) (by rfl) ?_
          refine g_iload_n B dX1_scan_39 rfl ?_
          refine g_iald B dX1_scan_40 (by decide) (by rfl) (by exact vp_in_nI (by omega) (by omega)) ?_
          rw [hci, hG.2.2 i hip]
          refine g_bipush (v := (10)) B dX1_scan_41 (by decide) ?_
          refine g_icmp_ne (tgt := 50) B dX1_scan_43 (by decide) (fun c43 => ?_) (fun c43 => ?_)
          · refine g_iconst (v := (0)) B dX1_scan_50 (by decide) ?_
            refine g_istore_n B dX1_scan_51 (by decide) rfl ?_
            refine g_iload_n B dX1_scan_52 rfl ?_
            refine g_iload_n B dX1_scan_53 rfl ?_
            refine g_icmp_lt (tgt := 67) B dX1_scan_54 (by decide) (fun c54 => ?_) (fun c54 => ?_)
            · refine g_iinc (c9 := (1)) B dX1_scan_67 rfl (by decide) (by decide) rfl ?_
              refine g_goto (tgt := 9) B dX1_scan_70 (by decide) ?_
              rw [nI_1 i]
              refine g_drop 3 ?_
              first
                | (have h9 := ih (k - 1) (by omega) (i + 1) (t + 1) _ (by omega) (adT_p hp) upS_1 (hT.ad (s := tokS g i) (v := tokV g i) (x := nI i) (by rw [← hli]) (by rw [← hli]) (by rw [hli])) (by
                     show tokE g (lxS g t) ≤ p
                     rw [hli]
                     exact (tokE_le hG.1 (by omega)).2.1) (fun j a b => by
                     have := (tokE_le hG.1 (show i ≤ p by omega)).2.2 hip
                     have a2 : tokE g (lxS g t) ≤ j := a
                     rw [hli] at a2
                     omega) (fun _ => by rw [show t + 1 - 1 = t by omega, hli]; omega)
                   rw [show eT g (t + 1) = tokE g i from by show tokE g (lxS g t) = _; rw [hli]] at h9
                   exact h9)
                | (refine ih (k - 1) (by omega) (i + 1) t τ (by omega) hp hc hT he (fun j a b => ?_) (fun q => by have := hlt q; omega)
                   by_cases e : j = i
                   · subst e
                     first
                     | exact Or.inl c32
                     | exact Or.inr c43
                     | (rw [i_lt, i_n (by omega), i_n (by omega)] at c54
                        omega)
                   · exact hb j a (by omega))
            · refine g_iload_n B dX1_scan_57 rfl ?_
              refine g_if_ne (tgt := 67) B dX1_scan_58 (by decide) (fun c58 => ?_) (fun c58 => ?_)
              · exact absurd rfl c58
              · have hnb : ¬ isB (g i) := fun z => z.elim c32 c43
                have hle : eT g t ≤ i := by
                  have := c54
                  rw [i_lt, i_n (by omega), i_n (by omega)] at this
                  omega
                have hli : lxS g t = i := by
                  rw [lxS_e]
                  exact skp_eq hnb 200 (eT g t) hle (by omega) (fun j a b => hb j a b)
                refine g_aload_n B dX1_scan_61 rfl ?_
                refine g_iload_n B dX1_scan_62 rfl ?_
                refine g_callVi (C := RX1) (As := [.int _]) B dX1_scan_63 (gc1 g_X1_57) (by rfl) ⟨rfl, hd_X1_scanToken⟩ (by exact ⟨Nat.le_of_ble_eq_true rfl, Nat.le_of_ble_eq_true rfl⟩) ⟨rfl, rfl⟩ rfl rfl (by exact Nat.le_of_ble_eq_true rfl) recv1 (x_scanT (q := i) (t := t) hE hG rfl hip (by omega) hc ?_)
                refine g_istore_n B dX1_scan_66 (by decide) rfl ?_
                refine g_iinc (c9 := (1)) B dX1_scan_67 rfl (by decide) (by decide) rfl ?_
                refine g_goto (tgt := 9) B dX1_scan_70 (by decide) ?_
                rw [nI_1 i]
                refine g_drop 3 ?_
                first
                  | (have h9 := ih (k - 1) (by omega) (i + 1) (t + 1) _ (by omega) (adT_p hp) upS_1 (hT.ad (s := tokS g i) (v := tokV g i) (x := nI i) (by rw [← hli]) (by rw [← hli]) (by rw [hli])) (by
                       show tokE g (lxS g t) ≤ p
                       rw [hli]
                       exact (tokE_le hG.1 (by omega)).2.1) (fun j a b => by
                       have := (tokE_le hG.1 (show i ≤ p by omega)).2.2 hip
                       have a2 : tokE g (lxS g t) ≤ j := a
                       rw [hli] at a2
                       omega) (fun _ => by rw [show t + 1 - 1 = t by omega, hli]; omega)
                     rw [show eT g (t + 1) = tokE g i from by show tokE g (lxS g t) = _; rw [hli]] at h9
                     exact h9)
                  | (refine ih (k - 1) (by omega) (i + 1) t τ (by omega) hp hc hT he (fun j a b => ?_) (fun q => by have := hlt q; omega)
                     by_cases e : j = i
                     · subst e
                       first
                       | exact Or.inl c32
                       | exact Or.inr c43
                       | (rw [i_lt, i_n (by omega), i_n (by omega)] at c54
                          omega)
                     · exact hb j a (by omega))
          · refine g_iconst (v := (1)) B dX1_scan_46 (by decide) ?_
            refine g_goto (tgt := 51) B dX1_scan_47 (by decide) ?_
            refine g_istore_n B dX1_scan_51 (by decide) rfl ?_
            refine g_iload_n B dX1_scan_52 rfl ?_
            refine g_iload_n B dX1_scan_53 rfl ?_
            refine g_icmp_lt (tgt := 67) B dX1_scan_54 (by decide) (fun c54 => ?_) (fun c54 => ?_)
            · refine g_iinc (c9 := (1)) B dX1_scan_67 rfl (by decide) (by decide) rfl ?_
              refine g_goto (tgt := 9) B dX1_scan_70 (by decide) ?_
              rw [nI_1 i]
              refine g_drop 3 ?_
              first
                | (have h9 := ih (k - 1) (by omega) (i + 1) (t + 1) _ (by omega) (adT_p hp) upS_1 (hT.ad (s := tokS g i) (v := tokV g i) (x := nI i) (by rw [← hli]) (by rw [← hli]) (by rw [hli])) (by
                     show tokE g (lxS g t) ≤ p
                     rw [hli]
                     exact (tokE_le hG.1 (by omega)).2.1) (fun j a b => by
                     have := (tokE_le hG.1 (show i ≤ p by omega)).2.2 hip
                     have a2 : tokE g (lxS g t) ≤ j := a
                     rw [hli] at a2
                     omega) (fun _ => by rw [show t + 1 - 1 = t by omega, hli]; omega)
                   rw [show eT g (t + 1) = tokE g i from by show tokE g (lxS g t) = _; rw [hli]] at h9
                   exact h9)
                | (refine ih (k - 1) (by omega) (i + 1) t τ (by omega) hp hc hT he (fun j a b => ?_) (fun q => by have := hlt q; omega)
                   by_cases e : j = i
                   · subst e
                     first
                     | exact Or.inl c32
                     | exact Or.inr c43
                     | (rw [i_lt, i_n (by omega), i_n (by omega)] at c54
                        omega)
                   · exact hb j a (by omega))
            · refine g_iload_n B dX1_scan_57 rfl ?_
              refine g_if_ne (tgt := 67) B dX1_scan_58 (by decide) (fun c58 => ?_) (fun c58 => ?_)
              · refine g_iinc (c9 := (1)) B dX1_scan_67 rfl (by decide) (by decide) rfl ?_
                refine g_goto (tgt := 9) B dX1_scan_70 (by decide) ?_
                rw [nI_1 i]
                refine g_drop 3 ?_
                first
                  | (have h9 := ih (k - 1) (by omega) (i + 1) (t + 1) _ (by omega) (adT_p hp) upS_1 (hT.ad (s := tokS g i) (v := tokV g i) (x := nI i) (by rw [← hli]) (by rw [← hli]) (by rw [hli])) (by
                       show tokE g (lxS g t) ≤ p
                       rw [hli]
                       exact (tokE_le hG.1 (by omega)).2.1) (fun j a b => by
                       have := (tokE_le hG.1 (show i ≤ p by omega)).2.2 hip
                       have a2 : tokE g (lxS g t) ≤ j := a
                       rw [hli] at a2
                       omega) (fun _ => by rw [show t + 1 - 1 = t by omega, hli]; omega)
                     rw [show eT g (t + 1) = tokE g i from by show tokE g (lxS g t) = _; rw [hli]] at h9
                     exact h9)
                  | (refine ih (k - 1) (by omega) (i + 1) t τ (by omega) hp hc hT he (fun j a b => ?_) (fun q => by have := hlt q; omega)
                     by_cases e : j = i
                     · subst e
                       first
                       | exact Or.inl c32
                       | exact Or.inr c43
                       | (rw [i_lt, i_n (by omega), i_n (by omega)] at c54
                          omega)
                     · exact hb j a (by omega))
              · exact absurd c58 (by decide)
set_option maxRecDepth 100000 in
set_option maxHeartbeats 4000000 in
theorem x_scan {Z : LZ} {ad : Nat → Nat} {τ : St} {K : St → Prop} {g : Nat → Int32} {p : Nat} {aK aV : Nat → Nat} {tb fm : Nat} (hE : SI Z aK aV tb fm) (hG : GB τ g p) (hK : ∀ τ', pkr [17, 18, 19] [6] τ τ' → SC τ' g p → K τ') : CC lyX Z ad yX1_scan wsX1_scan (rmk 7) [.ref (ad 11)] τ (rV K) := by
  refine CC.of (cc := cX1_scan) (nL := 4) (ret := none) rfl rfl ⟨rfl, rfl⟩ (by exact Nat.le_of_ble_eq_true rfl) ?_
  intro X B
  change GG _ _ _ _ X _ 0 [some (.ref (ad 11)), none, none, none] [] _
  change Amb _ _ _ _ X _ _ RX1 _ _ at B
  refine g_aload_n B dX1_scan_0 rfl ?_
  refine g_iconst (v := (0)) B dX1_scan_1 (by decide) ?_
  refine g_putI (T := TX1) (N := 9) B dX1_scan_2 (by decide) (by rfl) (inq inlX1) rfl 6 (by decide) (mq f_X1_31) tyX1_ok nmX1 rfl ⟨rfl, rfl⟩ (by rfl) ?_
  refine g_iconst (v := (0)) B dX1_scan_5 (by decide) ?_
  refine g_istore_n B dX1_scan_6 (by decide) rfl ?_
  refine g_iconst (v := (0)) B dX1_scan_7 (by decide) ?_
  refine g_istore_n B dX1_scan_8 (by decide) rfl ?_
  have h9 := lx_scan (τ0 := upS τ 11 6 0) B hE (hG.pr (pkr.rf.upR (ks := [6]) (cs := []) (by decide)) (by decide) (by decide)) (fun τ' q s => hK τ' ((pkr.rf.upR (by decide)).trans q) s) p 0 0 (upS τ 11 6 0) (by omega) pkr.rf upS_1 (fun a ha => absurd ha (Nat.not_lt_zero _)) (Nat.zero_le _) (fun j a b => by omega) (fun q => by omega)
  exact h9
theorem SC.lo {τ : St} {g : Nat → Int32} {p a N : Nat} (hg : gEnd g p) (h : ∀ a, N ≤ a → lxS g a = p) (ha : N + 1 ≤ a) : TT g a = 0 ∧ lxS g a = p := by
  have := h a (by omega)
  refine ⟨?_, this⟩
  show tokS g (lxS g a) = 0
  rw [this, tokS_end hg (Nat.le_refl _)]
set_option maxRecDepth 100000 in
set_option maxHeartbeats 4000000 in
theorem x_sort {Z : LZ} {ad : Nat → Nat} {τ : St} {K : Int32 → St → Prop} {g : Nat → Int32} {p a : Nat} (hG : GB τ g p) (hS : SC τ g p) (ha : τ.1 11 7 = nI a) (hb : a < 1000) (hK : K (TT g a) τ) : CC lyX Z ad yX1_sortNow wsX1_sortNow (rmk 0) [.ref (ad 11)] τ (rI K) := by
  refine CC.of (cc := cX1_sortNow) (nL := 1) (ret := (some .int)) rfl rfl ⟨rfl, rfl⟩ (by exact Nat.le_of_ble_eq_true rfl) ?_
  intro X B
  change GG _ _ _ _ X _ 0 [some (.ref (ad 11))] [] _
  change Amb _ _ _ _ X _ _ RX1 _ _ at B
  obtain ⟨N, hN, hc, hT, hl⟩ := hS
  refine g_aload_n B dX1_sortNow_0 rfl ?_
  refine g_getI (T := TX1) (N := 9) B dX1_sortNow_1 (by decide) (by rfl) (inq inlX1) rfl 7 (by decide) (mq f_X1_34) (by rfl) ?_
  rw [ha]
  refine g_if_lt (tgt := 42) B dX1_sortNow_4 (by decide) (fun c4 => ?_) (fun c4 => ?_)
  · exact absurd (i_lt.mp c4) (by rw [i_n (by omega), i0]; omega)
  · refine g_aload_n B dX1_sortNow_7 rfl ?_
    refine g_getI (T := TX1) (N := 9) B dX1_sortNow_8 (by decide) (by rfl) (inq inlX1) rfl 7 (by decide) (mq f_X1_34) (by rfl) ?_
    refine g_aload_n B dX1_sortNow_11 rfl ?_
    refine g_getI (T := TX1) (N := 9) B dX1_sortNow_12 (by decide) (by rfl) (inq inlX1) rfl 6 (by decide) (mq f_X1_31) (by rfl) ?_
    rw [ha, hc]
    refine g_icmp_ge (tgt := 42) B dX1_sortNow_15 (by decide) (fun c15 => ?_) (fun c15 => ?_)
    · refine g_iconst (v := (0)) B dX1_sortNow_42 (by decide) ?_
      refine g_ireti B dX1_sortNow_43 ?_
      first
        | (rw [nI_leI (by omega) (by omega)] at c15
           rw [(SC.lo (τ := τ) hG.1 hl c15).1] at hK
           exact hK)
        | exact hK
    · refine g_aload_n B dX1_sortNow_18 rfl ?_
      refine g_getI (T := TX1) (N := 9) B dX1_sortNow_19 (by decide) (by rfl) (inq inlX1) rfl 7 (by decide) (mq f_X1_34) (by rfl) ?_
      refine g_aload_n B dX1_sortNow_22 rfl ?_
      refine g_getR (T := TX1) (N := 9) B dX1_sortNow_23 (by decide) (by rfl) (inq inlX1) rfl 3 (by decide) (mq f_X1_22) (by rfl) ?_
      refine g_alen B dX1_sortNow_26 (by decide) (by rfl) rfl ?_
      rw [ha]
      have haN : a < N + 1 := by
        have := c15
        rw [nI_leI (by omega) (by omega)] at this
        omega
      refine g_icmp_ge (tgt := 42) B dX1_sortNow_27 (by decide) (fun c27 => ?_) (fun c27 => ?_)
      · exact absurd (i_le.mp c27) (by rw [i_n (by omega), show (Int32.ofNat 161).toInt = 161 from rfl]; omega)
      · refine g_aload_n B dX1_sortNow_30 rfl ?_
        refine g_getR (T := TX1) (N := 9) B dX1_sortNow_31 (by decide) (by rfl) (inq inlX1) rfl 3 (by decide) (mq f_X1_22) (by rfl) ?_
        refine g_aload_n B dX1_sortNow_34 rfl ?_
        refine g_getI (T := TX1) (N := 9) B dX1_sortNow_35 (by decide) (by rfl) (inq inlX1) rfl 7 (by decide) (mq f_X1_34) (by rfl) ?_
        rw [ha]
        refine g_iald B dX1_sortNow_38 (by decide) (by rfl) (by exact vp_in_nI (by omega) (by omega)) ?_
        rw [i_cl (show a < 2147483648 by omega), (hT a haN).1]
        refine g_goto (tgt := 43) B dX1_sortNow_39 (by decide) ?_
        refine g_ireti B dX1_sortNow_43 ?_
        first
          | (rw [nI_leI (by omega) (by omega)] at c15
             rw [(SC.lo (τ := τ) hG.1 hl c15).1] at hK
             exact hK)
          | exact hK
set_option maxRecDepth 100000 in
set_option maxHeartbeats 4000000 in
theorem x_ref {Z : LZ} {ad : Nat → Nat} {τ : St} {K : Int32 → St → Prop} {g : Nat → Int32} {p a : Nat} (hG : GB τ g p) (hS : SC τ g p) (ha : τ.1 11 7 = nI a) (hb : a < 1000) (hK : K 0 (upS τ 11 2 (nI (lxS g a)))) : CC lyX Z ad yX1_refuse wsX1_refuse (rmk 0) [.ref (ad 11)] τ (rI K) := by
  refine CC.of (cc := cX1_refuse) (nL := 1) (ret := (some .boolean)) rfl rfl ⟨rfl, rfl⟩ (by exact Nat.le_of_ble_eq_true rfl) ?_
  intro X B
  change GG _ _ _ _ X _ 0 [some (.ref (ad 11))] [] _
  change Amb _ _ _ _ X _ _ RX1 _ _ at B
  obtain ⟨N, hN, hc, hT, hl⟩ := hS
  refine g_aload_n B dX1_refuse_0 rfl ?_
  refine g_aload_n B dX1_refuse_1 rfl ?_
  refine g_getI (T := TX1) (N := 9) B dX1_refuse_2 (by decide) (by rfl) (inq inlX1) rfl 7 (by decide) (mq f_X1_34) (by rfl) ?_
  rw [ha]
  refine g_if_lt (tgt := 43) B dX1_refuse_5 (by decide) (fun c5 => ?_) (fun c5 => ?_)
  · exact absurd (i_lt.mp c5) (by rw [i_n (by omega), i0]; omega)
  · refine g_aload_n B dX1_refuse_8 rfl ?_
    refine g_getI (T := TX1) (N := 9) B dX1_refuse_9 (by decide) (by rfl) (inq inlX1) rfl 7 (by decide) (mq f_X1_34) (by rfl) ?_
    refine g_aload_n B dX1_refuse_12 rfl ?_
    refine g_getI (T := TX1) (N := 9) B dX1_refuse_13 (by decide) (by rfl) (inq inlX1) rfl 6 (by decide) (mq f_X1_31) (by rfl) ?_
    rw [ha, hc]
    refine g_icmp_ge (tgt := 43) B dX1_refuse_16 (by decide) (fun c16 => ?_) (fun c16 => ?_)
    · refine g_aload_n B dX1_refuse_43 rfl ?_
      refine g_getI (T := TX1) (N := 9) B dX1_refuse_44 (by decide) (by rfl) (inq inlX1) rfl 1 (by decide) (mq f_X1_15) (by rfl) ?_
      first
        | (rw [nI_leI (by omega) (by omega)] at c16
           rw [show τ.1 11 1 = nI (lxS g a) from by rw [(SC.lo (τ := τ) hG.1 hl c16).2]; exact hG.2.1])
        | skip
      refine g_putI (T := TX1) (N := 9) B dX1_refuse_47 (by decide) (by rfl) (inq inlX1) rfl 2 (by decide) (mq f_X1_19) tyX1_ok nmX1 rfl ⟨rfl, rfl⟩ (by rfl) ?_
      refine g_iconst (v := (0)) B dX1_refuse_50 (by decide) ?_
      refine g_zreti B dX1_refuse_51 (by rfl) ?_
      exact hK
    · refine g_aload_n B dX1_refuse_19 rfl ?_
      refine g_getI (T := TX1) (N := 9) B dX1_refuse_20 (by decide) (by rfl) (inq inlX1) rfl 7 (by decide) (mq f_X1_34) (by rfl) ?_
      refine g_aload_n B dX1_refuse_23 rfl ?_
      refine g_getR (T := TX1) (N := 9) B dX1_refuse_24 (by decide) (by rfl) (inq inlX1) rfl 5 (by decide) (mq f_X1_28) (by rfl) ?_
      refine g_alen B dX1_refuse_27 (by decide) (by rfl) rfl ?_
      rw [ha]
      have haN : a < N + 1 := by
        have := c16
        rw [nI_leI (by omega) (by omega)] at this
        omega
      refine g_icmp_ge (tgt := 43) B dX1_refuse_28 (by decide) (fun c28 => ?_) (fun c28 => ?_)
      · exact absurd (i_le.mp c28) (by rw [i_n (by omega), show (Int32.ofNat 161).toInt = 161 from rfl]; omega)
      · refine g_aload_n B dX1_refuse_31 rfl ?_
        refine g_getR (T := TX1) (N := 9) B dX1_refuse_32 (by decide) (by rfl) (inq inlX1) rfl 5 (by decide) (mq f_X1_28) (by rfl) ?_
        refine g_aload_n B dX1_refuse_35 rfl ?_
        refine g_getI (T := TX1) (N := 9) B dX1_refuse_36 (by decide) (by rfl) (inq inlX1) rfl 7 (by decide) (mq f_X1_34) (by rfl) ?_
        rw [ha]
        refine g_iald B dX1_refuse_39 (by decide) (by rfl) (by exact vp_in_nI (by omega) (by omega)) ?_
        rw [i_cl (show a < 2147483648 by omega), (hT a haN).2.2]
        refine g_goto (tgt := 47) B dX1_refuse_40 (by decide) ?_
        first
          | (rw [nI_leI (by omega) (by omega)] at c16
             rw [show τ.1 11 1 = nI (lxS g a) from by rw [(SC.lo (τ := τ) hG.1 hl c16).2]; exact hG.2.1])
          | skip
        refine g_putI (T := TX1) (N := 9) B dX1_refuse_47 (by decide) (by rfl) (inq inlX1) rfl 2 (by decide) (mq f_X1_19) tyX1_ok nmX1 rfl ⟨rfl, rfl⟩ (by rfl) ?_
        refine g_iconst (v := (0)) B dX1_refuse_50 (by decide) ?_
        refine g_zreti B dX1_refuse_51 (by rfl) ?_
        exact hK
set_option maxRecDepth 100000 in
set_option maxHeartbeats 4000000 in
theorem x_take {Z : LZ} {ad : Nat → Nat} {τ : St} {K : Int32 → St → Prop} {s : Int32} {g : Nat → Int32} {p a : Nat} (hG : GB τ g p) (hS : SC τ g p) (ha : τ.1 11 7 = nI a) (hb : a < 1000) (hK1 : TT g a = s → K 1 (upS τ 11 7 (nI (a + 1)))) (hK2 : ¬ TT g a = s → K 0 (upS τ 11 2 (nI (lxS g a)))) : CC lyX Z ad yX1_take wsX1_take (rmk 1) [.ref (ad 11), .int s] τ (rI K) := by
  refine CC.of (cc := cX1_take) (nL := 2) (ret := (some .boolean)) rfl rfl ⟨rfl, rfl⟩ (by exact Nat.le_of_ble_eq_true rfl) ?_
  intro X B
  change GG _ _ _ _ X _ 0 [some (.ref (ad 11)), some (.int s)] [] _
  change Amb _ _ _ _ X _ _ RX1 _ _ at B
  refine g_aload_n B dX1_take_0 rfl ?_
  refine g_callVi (C := RX1) (As := []) B dX1_take_1 (gc1 g_X1_123) (by rfl) ⟨rfl, hd_X1_sortNow⟩ (by exact ⟨Nat.le_of_ble_eq_true rfl, Nat.le_of_ble_eq_true rfl⟩) ⟨rfl, rfl⟩ rfl rfl (by exact Nat.le_of_ble_eq_true rfl) recv1 (x_sort hG hS ha hb ?_)
  refine g_iload_n B dX1_take_4 rfl ?_
  refine g_icmp_eq (tgt := 13) B dX1_take_5 (by decide) (fun c5 => ?_) (fun c5 => ?_)
  · refine g_aload_n B dX1_take_13 rfl ?_
    refine g_dup B dX1_take_14 rfl ?_
    refine g_getI (T := TX1) (N := 9) B dX1_take_15 (by decide) (by rfl) (inq inlX1) rfl 7 (by decide) (mq f_X1_34) (by rfl) ?_
    rw [ha]
    refine g_iconst (v := (1)) B dX1_take_18 (by decide) ?_
    refine g_iadd B dX1_take_19 ?_
    rw [nI_1]
    refine g_putI (T := TX1) (N := 9) B dX1_take_20 (by decide) (by rfl) (inq inlX1) rfl 7 (by decide) (mq f_X1_34) tyX1_ok nmX1 rfl ⟨rfl, rfl⟩ (by rfl) ?_
    refine g_iconst (v := (1)) B dX1_take_23 (by decide) ?_
    refine g_zreti B dX1_take_24 (by rfl) ?_
    exact hK1 c5
  · refine g_aload_n B dX1_take_8 rfl ?_
    refine g_callVi (C := RX1) (As := []) B dX1_take_9 (gc1 g_X1_126) (by rfl) ⟨rfl, hd_X1_refuse⟩ (by exact ⟨Nat.le_of_ble_eq_true rfl, Nat.le_of_ble_eq_true rfl⟩) ⟨rfl, rfl⟩ rfl rfl (by exact Nat.le_of_ble_eq_true rfl) recv1 (x_ref hG hS ha hb ?_)
    refine g_zreti B dX1_take_12 (by rfl) ?_
    exact hK2 c5
set_option maxRecDepth 100000 in
set_option maxHeartbeats 4000000 in
theorem x_add {Z : LZ} {ad : Nat → Nat} {τ : St} {K : Int32 → St → Prop} {c : Int32} {k n : Nat} (hk : k < 6) (hn : τ.1 (k + 26) 2 = nI n) (h160 : n < 160) (hK : K 1 (upS (upS τ (k + 32) n c) (k + 26) 2 (nI (n + 1)))) : CC lyX Z ad yX3_add wsX3_add (rmk 0) [.ref (ad (k + 26)), .int c] τ (rI K) := by
  refine CC.of (cc := cX3_add) (nL := 2) (ret := (some .boolean)) rfl rfl ⟨rfl, rfl⟩ (by exact Nat.le_of_ble_eq_true rfl) ?_
  intro X B
  change GG _ _ _ _ X _ 0 [some (.ref (ad (k + 26))), some (.int c)] [] _
  change Amb _ _ _ _ X _ _ RX3 _ _ at B
  refine g_aload_n B dX3_add_0 rfl ?_
  refine g_getI (T := TX3) (N := 3) B dX3_add_1 (hX (by omega)) (lo_t hk) (inq inlX3) rfl 2 (by decide) (mq f_X3_18) (by rfl) ?_
  refine g_aload_n B dX3_add_4 rfl ?_
  refine g_getR (T := TX3) (N := 3) B dX3_add_5 (hX (by omega)) (lo_t hk) (inq inlX3) rfl 0 (by decide) (mq f_X3_9) (by rfl) ?_
  refine g_alen B dX3_add_8 (hX (by omega)) (lo_c hk) rfl ?_
  rw [hn]
  refine g_icmp_lt (tgt := 14) B dX3_add_9 (by decide) (fun c9 => ?_) (fun c9 => ?_)
  · refine g_aload_n B dX3_add_14 rfl ?_
    refine g_getR (T := TX3) (N := 3) B dX3_add_15 (hX (by omega)) (lo_t hk) (inq inlX3) rfl 0 (by decide) (mq f_X3_9) (by rfl) ?_
    refine g_aload_n B dX3_add_18 rfl ?_
    refine g_getI (T := TX3) (N := 3) B dX3_add_19 (hX (by omega)) (lo_t hk) (inq inlX3) rfl 2 (by decide) (mq f_X3_18) (by rfl) ?_
    rw [hn]
    refine g_iload_n B dX3_add_22 rfl ?_
    refine g_iast B dX3_add_23 (hX (by omega)) (lo_c hk) (by exact vp_in_nI (by omega) (by omega)) ?_
    rw [i_cl (show n < 2147483648 by omega)]
    refine g_aload_n B dX3_add_24 rfl ?_
    refine g_dup B dX3_add_25 rfl ?_
    refine g_getI (T := TX3) (N := 3) B dX3_add_26 (hX (by omega)) (lo_t hk) (inq inlX3) rfl 2 (by decide) (mq f_X3_18) (by rfl) ?_
    rw [upS_3 (show k + 26 ≠ k + 32 by omega), hn]
    refine g_iconst (v := (1)) B dX3_add_29 (by decide) ?_
    refine g_iadd B dX3_add_30 ?_
    rw [nI_1]
    refine g_putI (T := TX3) (N := 3) B dX3_add_31 (hX (by omega)) (lo_t hk) (inq inlX3) rfl 2 (by decide) (mq f_X3_18) tyX3_ok nmX3 rfl ⟨rfl, rfl⟩ (by rfl) ?_
    refine g_iconst (v := (1)) B dX3_add_34 (by decide) ?_
    refine g_zreti B dX3_add_35 (by rfl) ?_
    exact hK
  · exact absurd (show nI n < Int32.ofNat 160 by rw [i_lt, i_n (by omega), show (Int32.ofNat 160).toInt = 160 from rfl]; omega) c9

