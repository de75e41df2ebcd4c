/-! a text read into its codes *program, both worlds kept alike* -/
def gnr : LO → Bool
  | .inl (_, ks) => ks.all (fun k => k != 2)
  | _ => true
theorem gcell_noR {Z : LZ} {ad : Nat → Nat} {τ : St} {o : Nat} {r : Option Nat} {q : LO} (h : gnr q = true) : gcell Z ad (upR τ r) o q = gcell Z ad τ o q := by
  match q, h with
  | .inl (ci, ks), h =>
    simp only [gcell, gfs]
    congr 2
    apply List.map_congr_left
    intro k hk
    have hk2 : k < ks.length := by simpa using hk
    have h1 := List.all_eq_true.mp h (ks.getD k 0) (by rw [List.getD_eq_getElem?_getD, List.getElem?_eq_getElem hk2]; simp)
    generalize ks.getD k 0 = kd at h1
    match kd, h1 with
    | 0, _ => rfl
    | 1, _ => rfl
    | 2, h1 => simp at h1
    | q + 3, _ => rfl
  | .inr (_, (n, none)), _ => rfl
  | .inr (_, (n, some rs)), _ => rfl
theorem gfs_putR {ad : Nat → Nat} {τ : St} {o k : Nat} {ks : List Nat} {r : Nat} (h : ks[k]? = some 2) (hu : (List.range ks.length).all (fun j => j == k || ks.getD j 0 != 2) = true) : gfs ad (upR τ (some r)) o ks = (gfs ad τ o ks).set k (.ref (ad r)) := by
  apply List.ext_getElem?
  intro j
  by_cases hj : j < ks.length
  · rw [gfs_at (List.getElem?_eq_getElem hj)]
    by_cases hjk : j = k
    · subst hjk
      rw [List.getElem?_set_self (by rw [gfs_len]; exact hj)]
      have : ks[j] = 2 := (List.getElem?_eq_some_iff.mp h).2
      rw [this]
      rfl
    · rw [List.getElem?_set_ne (Ne.symm hjk), gfs_at (List.getElem?_eq_getElem hj)]
      congr 1
      have h1 := List.all_eq_true.mp hu j (by simpa using hj)
      rw [List.getD_eq_getElem?_getD, List.getElem?_eq_getElem hj] at h1
      simp only [Option.getD_some] at h1
      generalize ks[j] = kd at h1
      match kd, h1 with
      | 0, _ => rfl
      | 1, _ => rfl
      | 2, h1 => simp [hjk] at h1
      | q + 3, _ => rfl
  · rw [List.getElem?_eq_none (by rw [gfs_len]; omega), List.getElem?_eq_none (by rw [List.length_set, gfs_len]; omega)]
section GGP
variable {ly : Lay} {Z : LZ} {ad : Nat → Nat} {rm : Room} {X : CX} {K : Option Value → St → Prop} {pc : Nat} {L : List (Option Value)} {st : List Value} {τ : St} {cc : ByteArray} {Ts : List Cond} {own : String} {nL : Nat} {ret : Option FieldType}
theorem g_putR (B : Amb ly Z ad rm X cc Ts own nL ret) {C : String} {T : u_T} {N ci idx o : Nat} {ks : List Nat} {ty0 : Nat → FieldType} {r : Nat} (d : decode cc pc = .ok (.putfield idx, 3)) (ho : o < ly.2) (hl : ly.1 o = .inl (ci, ks)) (hin : ∀ w ∈ u_ws C T N, w ∈ Ts) (hc : vwCl[ci]? = some (C, T, N)) (k : Nat) (hk : k < N) (hlink : Cond.fieldLink own idx (T k).1 (T k).2.1 (T k).2.2.1 ∈ Ts) (hty : ∀ k, k < N → parseFieldDescriptor (T k).2.2.1 = some (ty0 k)) (hnm : ∀ a, a < N → ∀ b, b < N → a ≠ b → (T a).2.1 ≠ (T b).2.1) (hfin : (T k).2.2.2 = false) (hd : narrow (ty0 k) (.ref (ad r)) = .ref (ad r) ∧ fits (ty0 k) (.ref (ad r)) = true) (hkk : ks[k]? = some 2) (hu1 : (List.range ly.2).all (fun j => j == o || gnr (ly.1 j)) = true) (hu2 : (List.range ks.length).all (fun j => j == k || ks.getD j 0 != 2) = true) (g : GG ly Z ad rm X K (pc + 3) (L) (st) (upR τ (some r))) : GG ly Z ad rm X K (pc) (L) (.ref (ad r) :: .ref (ad o) :: st) (τ) := by
  obtain ⟨p, e, s, m, args, below, meth, c, n⟩ := X
  obtain ⟨hx, hb, hml, rfl, hown, hts, hr, hlk, hK, hJ, hE, hEs, hR⟩ := B
  intro H locs ls hP hS hL
  have hat : (gws ly Z ad τ)[o]? = some (ad o, .inr (ci, gfs ad τ o ks)) := by rw [gws_at ho, hl]; rfl
  have hD := gws_D (ly := ly) (Z := Z) (ad := ad) (τ := τ) (A := gA ad ly.2 s.heap.size) hJ (fun o h => gA_in h)
  have he : gcell Z ad (upR τ (some r)) o (ly.1 o) = .inr (ci, (gfs ad τ o ks).set k (.ref (ad r))) := by rw [hl]; simp only [gcell]; rw [gfs_putR hkk hu2]
  refine va_put (D := Z.2.1) hx hb hts hin ty0 hty hnm hown hK.1 hP hD hS o hat hc k hk (hts _ hlink) (fun _ h9 => h9) hfin (hty k hk) hd.1 hd.2 (by rw [gfs_len]; exact (List.getElem?_eq_some_iff.mp hkk).1) d (fun H1 locs1 hP1 _ hS1 => g H1 locs1 ls ?_ hS1 hL)
  rw [gws_set he (fun o' ho' h => gcell_noR (by
    have h1 := List.all_eq_true.mp hu1 o' (by simpa using ho')
    simpa [h] using h1))] at hP1
  exact hP1
end GGP
theorem TV_g {g : Nat → Int32} {p : Nat} (hg : gEnd g p) : TVok (TT g) (VV g) := by
  intro a h
  show -6 ≤ (tokV _ _).toInt
  have h : tokS g (lxS g a) = 2 ∨ tokS g (lxS g a) = 3 := h
  have hq := (lxS_le hg a).1
  generalize lxS g a = q at h hq ⊢
  unfold tokS at h
  unfold tokV
  have hn := hg.2.2
  by_cases h0 : g q < 0
  · rw [if_pos h0]; decide
  rw [if_neg h0] at h ⊢
  by_cases h1 : isL (g q)
  · rw [if_pos h1]
    rcases wS_cases g q (spL g 200 q) with w | w
    · exact w.2
    · rw [w.2]; decide
  rw [if_neg h1] at h ⊢
  by_cases h2 : isD (g q)
  · rw [if_pos h2]
    by_cases h3 : spD g 200 q - q ≤ 4
    · rw [if_pos h3]
      obtain ⟨a1, a2, a3, a4⟩ := spD_spec hg 200 q hq (by omega)
      have := (nvI_bd (spD g 200 q - q) h3 (fun j b c => a4 j b (by omega))).1
      omega
    · rw [if_neg h3]; decide
  · rw [if_neg h2]; decide
set_option maxRecDepth 100000 in
set_option maxHeartbeats 4000000 in
theorem x_clear {Z : LZ} {ad : Nat → Nat} {τ : St} {K : St → Prop} {k : Nat} (hk : k < 6) (hK : K (upS τ (k + 26) 2 0)) : CC lyX Z ad yX3_clear wsX3_clear (rmk 0) [.ref (ad (k + 26))] τ (rV K) := by
  refine CC.of (cc := cX3_clear) (nL := 1) (ret := none) rfl rfl ⟨rfl, rfl⟩ (by exact Nat.le_of_ble_eq_true rfl) ?_
  intro X B
  change GG _ _ _ _ X _ 0 [some (.ref (ad (k + 26)))] [] _
  change Amb _ _ _ _ X _ _ RX3 _ _ at B
  refine g_aload_n B dX3_clear_0 rfl ?_
  refine g_iconst (v := (0)) B dX3_clear_1 (by decide) ?_
  refine g_putI (T := TX3) (N := 3) B dX3_clear_2 (hX (by omega)) (lo_t hk) (inq inlX3) rfl 2 (by decide) (mq f_X3_18) tyX3_ok nmX3 rfl ⟨rfl, rfl⟩ (by rfl) ?_
  refine g_vreti B dX3_clear_5 ?_
  exact hK
set_option maxRecDepth 100000 in
set_option maxHeartbeats 4000000 in
theorem x_endP {Z : LZ} {ad : Nat → Nat} {τ : St} {K : St → Prop} {x : Int32} {k q : Nat} (hk : k < 6) (hx : x = nI q) (hq : q < 3) (hK : K (upS τ (k + 38) q (τ.1 (k + 26) 2))) : CC lyX Z ad yX3_endPart wsX3_endPart (rmk 0) [.ref (ad (k + 26)), .int x] τ (rV K) := by
  refine CC.of (cc := cX3_endPart) (nL := 2) (ret := none) rfl rfl ⟨rfl, rfl⟩ (by exact Nat.le_of_ble_eq_true rfl) ?_
  intro X B
  change GG _ _ _ _ X _ 0 [some (.ref (ad (k + 26))), some (.int x)] [] _
  change Amb _ _ _ _ X _ _ RX3 _ _ at B
  subst hx
  refine g_iload_n B dX3_endPart_0 rfl ?_
  refine g_if_lt (tgt := 19) B dX3_endPart_1 (by decide) (fun c1 => ?_) (fun c1 => ?_)
  · exact absurd (i_lt.mp c1) (by rw [i_n (by omega), i0]; omega)
  · refine g_iload_n B dX3_endPart_4 rfl ?_
    refine g_iconst (v := (3)) B dX3_endPart_5 (by decide) ?_
    refine g_icmp_ge (tgt := 19) B dX3_endPart_6 (by decide) (fun c6 => ?_) (fun c6 => ?_)
    · exact absurd (i_le.mp c6) (by rw [i_n (by omega), show (3 : Int32).toInt = 3 from rfl]; omega)
    · refine g_aload_n B dX3_endPart_9 rfl ?_
      refine g_getR (T := TX3) (N := 3) B dX3_endPart_10 (hX (by omega)) (lo_t hk) (inq inlX3) rfl 1 (by decide) (mq f_X3_15) (by rfl) ?_
      refine g_iload_n B dX3_endPart_13 rfl ?_
      refine g_aload_n B dX3_endPart_14 rfl ?_
      refine g_getI (T := TX3) (N := 3) B dX3_endPart_15 (hX (by omega)) (lo_t hk) (inq inlX3) rfl 2 (by decide) (mq f_X3_18) (by rfl) ?_
      refine g_iast B dX3_endPart_18 (hX (by omega)) (lo_e hk) (by exact vp_in_nI hq (by omega)) ?_
      rw [i_cl (show q < 2147483648 by omega)]
      refine g_vreti B dX3_endPart_19 ?_
      exact hK
theorem RD0.pr2 {τ0 τ : St} {g : Nat → Int32} {p k : Nat} (h : RD0 τ0 g p k) (hp : pkr [k + 26, k + 32, k + 38] [2, 7] τ0 τ) : RD0 τ g p k :=
  ⟨h.1.pr hp (by simp <;> omega) (by decide), h.2.1.pr hp (by simp <;> omega) (by simp <;> omega) (by simp <;> omega) (by decide), h.2.2.1, hp.2.2.trans h.2.2.2⟩
set_option maxRecDepth 100000 in
set_option maxHeartbeats 4000000 in
theorem x_part {Z : LZ} {ad : Nat → Nat} {τ : St} {K : Int32 → St → Prop} {key x : Int32} {g : Nat → Int32} {p k a q : Nat} {cs : List Int32} (hd : RD0 τ g p k) (hq : RQ τ k a cs τ) (hl : cs.length ≤ a) (ha : a ≤ p) (hkey : ¬ key = 0) (hx : x = nI q) (hq3 : q < 3)
    (hK1 : ∀ f, pPart (TT g) (VV g) key a = .inl f → ∀ τ', pkr [k + 26, k + 32, k + 38] [2, 7] τ τ' → τ'.1 11 2 = nI (lxS g f) → K 0 τ')
    (hK2 : ∀ es a2, pPart (TT g) (VV g) key a = .inr (es, a2) → (cs ++ es).length ≤ a2 → a2 ≤ p → ∀ τ', pkr [k + 26, k + 32, k + 38] [2, 7] τ τ' → RQ τ' k a2 (cs ++ es) τ' → τ'.1 (k + 38) = va_up (τ.1 (k + 38)) q (nI (cs ++ es).length) → K 1 τ') : CC lyX Z ad yX1_part wsX1_part (rmk 45) [.ref (ad 11), .int key, .int x] τ (rI K) := by
  refine CC.of (cc := cX1_part) (nL := 3) (ret := (some .boolean)) rfl rfl ⟨rfl, rfl⟩ (by exact Nat.le_of_ble_eq_true rfl) ?_
  intro X B
  change GG _ _ _ _ X _ 0 [some (.ref (ad 11)), some (.int key), some (.int x)] [] _
  change Amb _ _ _ _ X _ _ RX1 _ _ at B
  have hp160 := hd.1.1.2.2
  have hk := hd.2.2.1
  have hE0 : RC Z ad yX1_either wsX1_either 44 0 τ g p k (pEith (TT g) (VV g) (pLev (TT g) (VV g) 5)) := (LEV hd 5 (Nat.le_refl _)).2
  have mn : ∀ {σ σ' : St}, pkr [k + 26, k + 32] [2, 7] σ σ' → pkr [k + 26, k + 32, k + 38] [2, 7] σ σ' := fun h => h.mono (fun o ho => by simp at ho ⊢; omega) (fun o ho => ho)
  unfold pPart at hK1 hK2
  refine g_aload_n B dX1_part_0 rfl ?_
  refine g_iload_n B dX1_part_1 rfl ?_
  refine g_callVi (C := RX1) (As := [.int _]) B dX1_part_2 (gc1 g_X1_53) (by rfl) ⟨rfl, hd_X1_take⟩ (by exact ⟨Nat.le_of_ble_eq_true rfl, Nat.le_of_ble_eq_true rfl⟩) ⟨rfl, rfl⟩ rfl rfl (by exact Nat.le_of_ble_eq_true rfl) recv1 (x_take hd.1 hd.2.1 hq.2.1 (by omega) (fun h1 => ?_) (fun h1 => ?_))
  · rw [if_pos h1] at hK1 hK2; have hap := tt_lt hd.1.1 (show ¬ TT g a = 0 from fun z => hkey (h1.symm.trans z))
    refine g_if_eq (tgt := 25) B dX1_part_5 (by decide) (fun c5 => ?_) (fun c5 => ?_)
    · exact absurd c5 (by decide)
    · refine g_aload_n B dX1_part_8 rfl ?_
      refine g_iconst (v := (0)) B dX1_part_9 (by decide) ?_
      refine g_callVi (C := RX1) (As := [.int _]) B dX1_part_10 (gc1 g_X1_133) (by rfl) ⟨rfl, hd_X1_either⟩ (by exact ⟨Nat.le_of_ble_eq_true rfl, Nat.le_of_ble_eq_true rfl⟩) ⟨rfl, rfl⟩ rfl rfl (by exact Nat.le_of_ble_eq_true rfl) recv1 (hE0 0 (a + 1) cs _ _ hq.nx (by omega) (by omega) (fun f hf τ8 p8 e8 => ?_) (fun es a2 hf l1 l2 l3 τ8 hq8 => ?_))
      · rw [hf] at hK1
        refine g_if_eq (tgt := 25) B dX1_part_13 (by decide) (fun c13 => ?_) (fun c13 => ?_)
        · refine g_iconst (v := (0)) B dX1_part_25 (by decide) ?_
          refine g_zreti B dX1_part_26 (by rfl) ?_
          first
            | exact hK1 a rfl _ (mn hq.fl) upS_1
            | exact hK1 f rfl τ8 (mn p8) e8
            | exact hK1 a2 rfl _ (mn hq8.fl) upS_1
        · exact absurd rfl c13
      · rw [hf] at hK1 hK2; dsimp only at hK1 hK2; obtain ⟨hG8, hS8, hinto8, hat8⟩ := hd.at hq8
        refine g_if_eq (tgt := 25) B dX1_part_13 (by decide) (fun c13 => ?_) (fun c13 => ?_)
        · exact absurd c13 (by decide)
        · refine g_aload_n B dX1_part_16 rfl ?_
          refine g_bipush (v := (59)) B dX1_part_17 (by decide) ?_
          refine g_callVi (C := RX1) (As := [.int _]) B dX1_part_19 (gc1 g_X1_53) (by rfl) ⟨rfl, hd_X1_take⟩ (by exact ⟨Nat.le_of_ble_eq_true rfl, Nat.le_of_ble_eq_true rfl⟩) ⟨rfl, rfl⟩ rfl rfl (by exact Nat.le_of_ble_eq_true rfl) recv1 (x_take (a := a2) hG8 hS8 hat8 (by omega) (fun h59 => ?_) (fun h59 => ?_))
          · rw [if_pos h59] at hK2
            refine g_if_ne (tgt := 27) B dX1_part_22 (by decide) (fun c22 => ?_) (fun c22 => ?_)
            · refine g_aload_n B dX1_part_27 rfl ?_
              refine g_getD (T := TX1) (N := 9) B dX1_part_28 (by decide) (by rfl) (inq inlX1) rfl 8 (by decide) (mq f_X1_37) (by rfl) (by exact hinto8) ?_
              refine g_ifnull B dX1_part_31 ?_
              refine g_aload_n B dX1_part_34 rfl ?_
              refine g_getD (T := TX1) (N := 9) B dX1_part_35 (by decide) (by rfl) (inq inlX1) rfl 8 (by decide) (mq f_X1_37) (by rfl) (by exact hinto8) ?_
              refine g_iload_n B dX1_part_38 rfl ?_
              refine g_callVv (C := RX3) (As := [.int _]) B dX1_part_39 (gc1 g_X1_136) (by rfl) ⟨rfl, hd_X3_endPart⟩ (by exact ⟨Nat.le_of_ble_eq_true rfl, Nat.le_of_ble_eq_true rfl⟩) ⟨rfl, rfl⟩ rfl rfl (by exact Nat.le_of_ble_eq_true rfl) (recv3 hk) (x_endP hk hx hq3 ?_)
              refine g_iconst (v := (1)) B dX1_part_42 (by decide) ?_
              refine g_zreti B dX1_part_43 (by rfl) ?_
              have hap2 := tt_lt hG8.1 (show ¬ TT g a2 = 0 from fun z => by rw [z] at h59; exact absurd h59 (by decide))
              rw [upS_3 (show k + 26 ≠ 11 by omega), hq8.2.2.1]
              refine hK2 es (a2 + 1) rfl (by omega) (by omega) _ ((mn hq8.nx.1).upC (by omega) (by simp)) ⟨pkr.rf, ?_, ?_, ?_⟩ ?_
              · rw [upS_3 (show (11 : Nat) ≠ k + 38 by omega), upS_1]
              · rw [upS_3 (show k + 26 ≠ k + 38 by omega), upS_3 (show k + 26 ≠ 11 by omega)]
                exact hq8.2.2.1
              · rw [upS_3 (show k + 32 ≠ k + 38 by omega), upS_3 (show k + 32 ≠ 11 by omega)]
                exact hq8.2.2.2
              · rw [upS_row, upS_3 (show k + 38 ≠ 11 by omega), hq8.1.1 (k + 38) (by omega) (by simp <;> omega)]
            · exact absurd c22 (by decide)
          · rw [if_neg h59] at hK1
            refine g_if_ne (tgt := 27) B dX1_part_22 (by decide) (fun c22 => ?_) (fun c22 => ?_)
            · exact absurd rfl c22
            · refine g_iconst (v := (0)) B dX1_part_25 (by decide) ?_
              refine g_zreti B dX1_part_26 (by rfl) ?_
              first
                | exact hK1 a rfl _ (mn hq.fl) upS_1
                | exact hK1 f rfl τ8 (mn p8) e8
                | exact hK1 a2 rfl _ (mn hq8.fl) upS_1
  · rw [if_neg h1] at hK1
    refine g_if_eq (tgt := 25) B dX1_part_5 (by decide) (fun c5 => ?_) (fun c5 => ?_)
    · refine g_iconst (v := (0)) B dX1_part_25 (by decide) ?_
      refine g_zreti B dX1_part_26 (by rfl) ?_
      first
        | exact hK1 a rfl _ (mn hq.fl) upS_1
        | exact hK1 f rfl τ8 (mn p8) e8
        | exact hK1 a2 rfl _ (mn hq8.fl) upS_1
    · exact absurd rfl c5
/-- what a text's reading may change *its row k* -/
def FRM (k : Nat) (τ τ' : St) : Prop := (∀ o, o ≠ 11 → o ∉ [17, 18, 19, k + 26, k + 32, k + 38] → τ'.1 o = τ.1 o) ∧ τ'.1 11 1 = τ.1 11 1
theorem pkr.frm {k : Nat} {τ τ' : St} (h : pkr [k + 26, k + 32, k + 38] [2, 7] τ τ') : FRM k τ τ' := ⟨fun o h1 h2 => h.1 o h1 (fun q => h2 (by simp at q ⊢; omega)), h.2.1 1 (by decide)⟩
theorem FRM.trans {k : Nat} {a b c : St} (h1 : FRM k a b) (h2 : FRM k b c) : FRM k a c := ⟨fun o a1 a2 => (h2.1 o a1 a2).trans (h1.1 o a1 a2), h2.2.trans h1.2⟩
theorem CD_sp {f : Nat → Int32} {ys : List Int32} : ∀ (xs : List Int32) (i : Nat), CD f i (xs ++ ys) → CD f i xs ∧ CD f (i + xs.length) ys
  | [], i, h => ⟨trivial, h⟩
  | x :: xs, i, h => by
    obtain ⟨a, b⟩ := CD_sp xs (i + 1) h.2
    refine ⟨⟨h.1, a⟩, ?_⟩
    rw [show i + (x :: xs).length = i + 1 + xs.length by show i + (xs.length + 1) = _; omega]
    exact b
set_option maxRecDepth 100000 in
set_option maxHeartbeats 4000000 in
theorem x_reads {Z : LZ} {ad : Nat → Nat} {τ : St} {K : Int32 → St → Prop} {g : Nat → Int32} {p k : Nat} {aK aV : Nat → Nat} {tb fm : Nat} (hE : SI Z aK aV tb fm) (hk : k < 6) (hG : GB τ g p) (hK1 : ∀ f, txR g = .inl f → ∀ τ', FRM k τ τ' → τ'.1 11 2 = nI (lxS g f) → K 0 τ') (hK2 : ∀ C, txR g = .inr C → ∀ τ', FRM k τ τ' → TXX τ' k C → K 1 τ') : CC lyX Z ad yX1_readsInto wsX1_readsInto (rmk 46) [.ref (ad 11), .ref (ad (k + 26))] τ (rI K) := by
  refine CC.of (cc := cX1_readsInto) (nL := 2) (ret := (some .boolean)) rfl rfl ⟨rfl, rfl⟩ (by exact Nat.le_of_ble_eq_true rfl) ?_
  intro X B
  change GG _ _ _ _ X _ 0 [some (.ref (ad 11)), some (.ref (ad (k + 26)))] [] _
  change Amb _ _ _ _ X _ _ RX1 _ _ at B
  have hp160 := hG.1.2.2
  have hdp : ∀ C, txR g = .inr C → TCok C := fun C h => pText_dp (TV_g hG.1) h
  have et : txR g = pText (TT g) (VV g) := rfl
  rw [et] at hK1 hK2 hdp
  unfold pText at hK1 hK2 hdp
  refine g_aload_n B dX1_readsInto_0 rfl ?_
  refine g_ifnonnull (tgt := 6) B dX1_readsInto_1 (by decide) ?_
  refine g_aload_n B dX1_readsInto_6 rfl ?_
  refine g_callVv (C := RX3) (As := []) B dX1_readsInto_7 (gc1 g_X1_41) (by rfl) ⟨rfl, hd_X3_clear⟩ (by exact ⟨Nat.le_of_ble_eq_true rfl, Nat.le_of_ble_eq_true rfl⟩) ⟨rfl, rfl⟩ rfl rfl (by exact Nat.le_of_ble_eq_true rfl) (recv3 hk) (x_clear hk ?_)
  refine g_aload_n B dX1_readsInto_10 rfl ?_
  refine g_aload_n B dX1_readsInto_11 rfl ?_
  refine g_putR (r := k + 26) (T := TX1) (N := 9) B dX1_readsInto_12 (by decide) (by rfl) (inq inlX1) rfl 8 (by decide) (mq f_X1_37) tyX1_ok nmX1 rfl ⟨rfl, rfl⟩ (by rfl) (by decide) (by decide) ?_
  refine g_aload_n B dX1_readsInto_15 rfl ?_
  have hG2 : GB (upR (upS τ (k + 26) 2 0) (some (k + 26))) g p := ⟨hG.1, by show (upS τ (k + 26) 2 0).1 11 1 = _; rw [upS_3 (show (11 : Nat) ≠ k + 26 by omega)]; exact hG.2.1, by show ∀ i, i < p → (upS τ (k + 26) 2 0).1 16 i = g i; rw [upS_3 (show (16 : Nat) ≠ k + 26 by omega)]; exact hG.2.2⟩
  refine g_callVv (C := RX1) (As := []) B dX1_readsInto_16 (gc1 g_X1_46) (by rfl) ⟨rfl, hd_X1_scan⟩ (by exact ⟨Nat.le_of_ble_eq_true rfl, Nat.le_of_ble_eq_true rfl⟩) ⟨rfl, rfl⟩ rfl rfl (by exact Nat.le_of_ble_eq_true rfl) recv1 (x_scan hE hG2 (fun τ3 p3 hS3 => ?_))
  refine g_aload_n B dX1_readsInto_19 rfl ?_
  refine g_iconst (v := (0)) B dX1_readsInto_20 (by decide) ?_
  refine g_putI (T := TX1) (N := 9) B dX1_readsInto_21 (by decide) (by rfl) (inq inlX1) rfl 7 (by decide) (mq f_X1_34) tyX1_ok nmX1 rfl ⟨rfl, rfl⟩ (by rfl) ?_
  refine g_aload_n B dX1_readsInto_24 rfl ?_
  refine g_iconst (v := (0)) B dX1_readsInto_25 (by decide) ?_
  refine g_putI (T := TX1) (N := 9) B dX1_readsInto_26 (by decide) (by rfl) (inq inlX1) rfl 2 (by decide) (mq f_X1_19) tyX1_ok nmX1 rfl ⟨rfl, rfl⟩ (by rfl) ?_
  refine g_st (fun σ hσ => ?_)
  have p4 : pkr [] [2, 7] τ3 σ := by rw [hσ]; exact (pkr.rf.upR (by decide)).upR (by decide)
  have hd4 : RD0 σ g p k := ⟨(hG2.pr p3 (by decide) (by decide)).pr p4 (by decide) (by decide), hS3.pr p4 (by decide) (by decide) (by decide) (by decide), hk, p4.2.2.trans p3.2.2⟩
  have f4 : FRM k τ σ := ⟨fun o h1 h2 => by
    have h3 : o ∉ [17, 18, 19] := fun q => h2 (by simp at q ⊢; omega)
    have h4 : o ≠ k + 26 := fun q => h2 (by simp <;> omega)
    rw [p4.1 o h1 (by simp), p3.1 o h1 h3]
    show (upS τ (k + 26) 2 0).1 o = τ.1 o
    exact upS_3 h4, by
    rw [p4.2.1 1 (by decide), p3.2.1 1 (by decide)]
    show (upS τ (k + 26) 2 0).1 11 1 = τ.1 11 1
    rw [upS_3 (show (11 : Nat) ≠ k + 26 by omega)]⟩
  have q4' : RQ σ k 0 [] σ := ⟨pkr.rf, by rw [hσ, upS_2 (by decide), upS_1]; rfl, by
    rw [p4.1 (k + 26) (by omega) (by simp), p3.1 (k + 26) (by omega) (by simp <;> omega)]
    show (upS τ (k + 26) 2 0).1 (k + 26) 2 = 0
    exact upS_1, trivial⟩
  clear hσ
  refine g_aload_n B dX1_readsInto_29 rfl ?_
  refine g_sipush (v := (301)) B dX1_readsInto_30 (by decide) ?_
  refine g_iconst (v := (0)) B dX1_readsInto_33 (by decide) ?_
  refine g_callVi (C := RX1) (As := [.int _, .int _]) B dX1_readsInto_34 (gc1 g_X1_49) (by rfl) ⟨rfl, hd_X1_part⟩ (by exact ⟨Nat.le_of_ble_eq_true rfl, Nat.le_of_ble_eq_true rfl⟩) ⟨rfl, rfl⟩ rfl rfl (by exact Nat.le_of_ble_eq_true rfl) recv1 (x_part (key := 301) (q := 0) hd4 q4' (Nat.le_refl _) (Nat.zero_le _) (by decide) rfl (by omega) (fun f hf τ5 p5 e5 => ?_) (fun c1 a1 hf1 l1 m1 τ5 p5 q5 e5 => ?_))
  · rw [hf] at hK1
    refine g_if_eq (tgt := 74) B dX1_readsInto_37 (by decide) (fun c37 => ?_) (fun c37 => ?_)
    · refine g_iconst (v := (0)) B dX1_readsInto_74 (by decide) ?_
      refine g_zreti B dX1_readsInto_75 (by rfl) ?_
      first
        | exact hK1 f rfl τ5 (f4.trans p5.frm) e5
        | exact hK1 f rfl τ6 ((f4.trans p5.frm).trans p6.frm) e6
        | exact hK1 f rfl τ7 (((f4.trans p5.frm).trans p6.frm).trans p7.frm) e7
        | exact hK1 a3 rfl _ ((((f4.trans p5.frm).trans p6.frm).trans p7.frm).trans (pkr.rf.upR (by decide) : pkr [k + 26, k + 32, k + 38] [2, 7] τ7 _).frm) upS_1
        | (refine hK2 (c1, (c2, c3)) rfl _ ((((f4.trans p5.frm).trans p6.frm).trans p7.frm).trans (pkr.rf.upR (by decide) : pkr [k + 26, k + 32, k + 38] [2, 7] τ7 _).frm) ?_
           have hok := hdp (c1, (c2, c3)) rfl
           have hcd := q7.2.2.2
           obtain ⟨g1, g2⟩ := CD_sp (c1 ++ c2) 0 hcd
           obtain ⟨g3, g4⟩ := CD_sp c1 0 g1
           rw [Nat.zero_add] at g2 g4
           rw [List.length_append] at g2
           rw [List.length_append, List.length_append] at l3
           refine ⟨hk, ⟨?_, ?_, ?_⟩, ⟨?_, ?_, ?_⟩, by show c1.length + c2.length + c3.length ≤ 160; omega, hok⟩
           · rw [upS_3 (show k + 32 ≠ 11 by omega)]; exact g3
           · rw [upS_3 (show k + 32 ≠ 11 by omega)]; exact g4
           · rw [upS_3 (show k + 32 ≠ 11 by omega)]; exact g2
           · rw [upS_3 (show k + 38 ≠ 11 by omega), e7, e6, e5]
             rfl
           · rw [upS_3 (show k + 38 ≠ 11 by omega), e7, e6, e5]
             show nI (c1 ++ c2).length = nI (c1.length + c2.length)
             rw [List.length_append]
           · rw [upS_3 (show k + 38 ≠ 11 by omega), e7, e6, e5]
             show nI (c1 ++ c2 ++ c3).length = nI (c1.length + c2.length + c3.length)
             rw [List.length_append, List.length_append])
    · exact absurd rfl c37
  · rw [hf1] at hK1 hK2 hdp; dsimp only at hK1 hK2 hdp; rw [List.nil_append] at l1 q5 e5
    refine g_if_eq (tgt := 74) B dX1_readsInto_37 (by decide) (fun c37 => ?_) (fun c37 => ?_)
    · exact absurd c37 (by decide)
    · refine g_aload_n B dX1_readsInto_40 rfl ?_
      refine g_sipush (v := (302)) B dX1_readsInto_41 (by decide) ?_
      refine g_iconst (v := (1)) B dX1_readsInto_44 (by decide) ?_
      refine g_callVi (C := RX1) (As := [.int _, .int _]) B dX1_readsInto_45 (gc1 g_X1_49) (by rfl) ⟨rfl, hd_X1_part⟩ (by exact ⟨Nat.le_of_ble_eq_true rfl, Nat.le_of_ble_eq_true rfl⟩) ⟨rfl, rfl⟩ rfl rfl (by exact Nat.le_of_ble_eq_true rfl) recv1 (x_part (key := 302) (q := 1) (hd4.pr2 p5) q5 l1 m1 (by decide) rfl (by omega) (fun f hf τ6 p6 e6 => ?_) (fun c2 a2 hf2 l2 m2 τ6 p6 q6 e6 => ?_))
      · rw [hf] at hK1
        refine g_if_eq (tgt := 74) B dX1_readsInto_48 (by decide) (fun c48 => ?_) (fun c48 => ?_)
        · refine g_iconst (v := (0)) B dX1_readsInto_74 (by decide) ?_
          refine g_zreti B dX1_readsInto_75 (by rfl) ?_
          first
            | exact hK1 f rfl τ5 (f4.trans p5.frm) e5
            | exact hK1 f rfl τ6 ((f4.trans p5.frm).trans p6.frm) e6
            | exact hK1 f rfl τ7 (((f4.trans p5.frm).trans p6.frm).trans p7.frm) e7
            | exact hK1 a3 rfl _ ((((f4.trans p5.frm).trans p6.frm).trans p7.frm).trans (pkr.rf.upR (by decide) : pkr [k + 26, k + 32, k + 38] [2, 7] τ7 _).frm) upS_1
            | (refine hK2 (c1, (c2, c3)) rfl _ ((((f4.trans p5.frm).trans p6.frm).trans p7.frm).trans (pkr.rf.upR (by decide) : pkr [k + 26, k + 32, k + 38] [2, 7] τ7 _).frm) ?_
               have hok := hdp (c1, (c2, c3)) rfl
               have hcd := q7.2.2.2
               obtain ⟨g1, g2⟩ := CD_sp (c1 ++ c2) 0 hcd
               obtain ⟨g3, g4⟩ := CD_sp c1 0 g1
               rw [Nat.zero_add] at g2 g4
               rw [List.length_append] at g2
               rw [List.length_append, List.length_append] at l3
               refine ⟨hk, ⟨?_, ?_, ?_⟩, ⟨?_, ?_, ?_⟩, by show c1.length + c2.length + c3.length ≤ 160; omega, hok⟩
               · rw [upS_3 (show k + 32 ≠ 11 by omega)]; exact g3
               · rw [upS_3 (show k + 32 ≠ 11 by omega)]; exact g4
               · rw [upS_3 (show k + 32 ≠ 11 by omega)]; exact g2
               · rw [upS_3 (show k + 38 ≠ 11 by omega), e7, e6, e5]
                 rfl
               · rw [upS_3 (show k + 38 ≠ 11 by omega), e7, e6, e5]
                 show nI (c1 ++ c2).length = nI (c1.length + c2.length)
                 rw [List.length_append]
               · rw [upS_3 (show k + 38 ≠ 11 by omega), e7, e6, e5]
                 show nI (c1 ++ c2 ++ c3).length = nI (c1.length + c2.length + c3.length)
                 rw [List.length_append, List.length_append])
        · exact absurd rfl c48
      · rw [hf2] at hK1 hK2 hdp; dsimp only at hK1 hK2 hdp
        refine g_if_eq (tgt := 74) B dX1_readsInto_48 (by decide) (fun c48 => ?_) (fun c48 => ?_)
        · exact absurd c48 (by decide)
        · refine g_aload_n B dX1_readsInto_51 rfl ?_
          refine g_sipush (v := (303)) B dX1_readsInto_52 (by decide) ?_
          refine g_iconst (v := (2)) B dX1_readsInto_55 (by decide) ?_
          refine g_callVi (C := RX1) (As := [.int _, .int _]) B dX1_readsInto_56 (gc1 g_X1_49) (by rfl) ⟨rfl, hd_X1_part⟩ (by exact ⟨Nat.le_of_ble_eq_true rfl, Nat.le_of_ble_eq_true rfl⟩) ⟨rfl, rfl⟩ rfl rfl (by exact Nat.le_of_ble_eq_true rfl) recv1 (x_part (key := 303) (q := 2) ((hd4.pr2 p5).pr2 p6) q6 l2 m2 (by decide) rfl (by omega) (fun f hf τ7 p7 e7 => ?_) (fun c3 a3 hf3 l3 m3 τ7 p7 q7 e7 => ?_))
          · rw [hf] at hK1
            refine g_if_eq (tgt := 74) B dX1_readsInto_59 (by decide) (fun c59 => ?_) (fun c59 => ?_)
            · refine g_iconst (v := (0)) B dX1_readsInto_74 (by decide) ?_
              refine g_zreti B dX1_readsInto_75 (by rfl) ?_
              first
                | exact hK1 f rfl τ5 (f4.trans p5.frm) e5
                | exact hK1 f rfl τ6 ((f4.trans p5.frm).trans p6.frm) e6
                | exact hK1 f rfl τ7 (((f4.trans p5.frm).trans p6.frm).trans p7.frm) e7
                | exact hK1 a3 rfl _ ((((f4.trans p5.frm).trans p6.frm).trans p7.frm).trans (pkr.rf.upR (by decide) : pkr [k + 26, k + 32, k + 38] [2, 7] τ7 _).frm) upS_1
                | (refine hK2 (c1, (c2, c3)) rfl _ ((((f4.trans p5.frm).trans p6.frm).trans p7.frm).trans (pkr.rf.upR (by decide) : pkr [k + 26, k + 32, k + 38] [2, 7] τ7 _).frm) ?_
                   have hok := hdp (c1, (c2, c3)) rfl
                   have hcd := q7.2.2.2
                   obtain ⟨g1, g2⟩ := CD_sp (c1 ++ c2) 0 hcd
                   obtain ⟨g3, g4⟩ := CD_sp c1 0 g1
                   rw [Nat.zero_add] at g2 g4
                   rw [List.length_append] at g2
                   rw [List.length_append, List.length_append] at l3
                   refine ⟨hk, ⟨?_, ?_, ?_⟩, ⟨?_, ?_, ?_⟩, by show c1.length + c2.length + c3.length ≤ 160; omega, hok⟩
                   · rw [upS_3 (show k + 32 ≠ 11 by omega)]; exact g3
                   · rw [upS_3 (show k + 32 ≠ 11 by omega)]; exact g4
                   · rw [upS_3 (show k + 32 ≠ 11 by omega)]; exact g2
                   · rw [upS_3 (show k + 38 ≠ 11 by omega), e7, e6, e5]
                     rfl
                   · rw [upS_3 (show k + 38 ≠ 11 by omega), e7, e6, e5]
                     show nI (c1 ++ c2).length = nI (c1.length + c2.length)
                     rw [List.length_append]
                   · rw [upS_3 (show k + 38 ≠ 11 by omega), e7, e6, e5]
                     show nI (c1 ++ c2 ++ c3).length = nI (c1.length + c2.length + c3.length)
                     rw [List.length_append, List.length_append])
            · exact absurd rfl c59
          · rw [hf3] at hK1 hK2 hdp; dsimp only at hK1 hK2 hdp
            refine g_if_eq (tgt := 74) B dX1_readsInto_59 (by decide) (fun c59 => ?_) (fun c59 => ?_)
            · exact absurd c59 (by decide)
            · refine g_aload_n B dX1_readsInto_62 rfl ?_
              refine g_iconst (v := (0)) B dX1_readsInto_63 (by decide) ?_
              have hd7 := ((hd4.pr2 p5).pr2 p6).pr2 p7
              refine g_callVi (C := RX1) (As := [.int _]) B dX1_readsInto_64 (gc1 g_X1_53) (by rfl) ⟨rfl, hd_X1_take⟩ (by exact ⟨Nat.le_of_ble_eq_true rfl, Nat.le_of_ble_eq_true rfl⟩) ⟨rfl, rfl⟩ rfl rfl (by exact Nat.le_of_ble_eq_true rfl) recv1 (x_take (a := a3) hd7.1 hd7.2.1 q7.2.1 (by omega) (fun h0 => ?_) (fun h0 => ?_))
              · rw [if_pos h0] at hK2 hdp
                refine g_if_eq (tgt := 74) B dX1_readsInto_67 (by decide) (fun c67 => ?_) (fun c67 => ?_)
                · exact absurd c67 (by decide)
                · refine g_iconst (v := (1)) B dX1_readsInto_70 (by decide) ?_
                  refine g_goto (tgt := 75) B dX1_readsInto_71 (by decide) ?_
                  refine g_zreti B dX1_readsInto_75 (by rfl) ?_
                  first
                    | exact hK1 f rfl τ5 (f4.trans p5.frm) e5
                    | exact hK1 f rfl τ6 ((f4.trans p5.frm).trans p6.frm) e6
                    | exact hK1 f rfl τ7 (((f4.trans p5.frm).trans p6.frm).trans p7.frm) e7
                    | exact hK1 a3 rfl _ ((((f4.trans p5.frm).trans p6.frm).trans p7.frm).trans (pkr.rf.upR (by decide) : pkr [k + 26, k + 32, k + 38] [2, 7] τ7 _).frm) upS_1
                    | (refine hK2 (c1, (c2, c3)) rfl _ ((((f4.trans p5.frm).trans p6.frm).trans p7.frm).trans (pkr.rf.upR (by decide) : pkr [k + 26, k + 32, k + 38] [2, 7] τ7 _).frm) ?_
                       have hok := hdp (c1, (c2, c3)) rfl
                       have hcd := q7.2.2.2
                       obtain ⟨g1, g2⟩ := CD_sp (c1 ++ c2) 0 hcd
                       obtain ⟨g3, g4⟩ := CD_sp c1 0 g1
                       rw [Nat.zero_add] at g2 g4
                       rw [List.length_append] at g2
                       rw [List.length_append, List.length_append] at l3
                       refine ⟨hk, ⟨?_, ?_, ?_⟩, ⟨?_, ?_, ?_⟩, by show c1.length + c2.length + c3.length ≤ 160; omega, hok⟩
                       · rw [upS_3 (show k + 32 ≠ 11 by omega)]; exact g3
                       · rw [upS_3 (show k + 32 ≠ 11 by omega)]; exact g4
                       · rw [upS_3 (show k + 32 ≠ 11 by omega)]; exact g2
                       · rw [upS_3 (show k + 38 ≠ 11 by omega), e7, e6, e5]
                         rfl
                       · rw [upS_3 (show k + 38 ≠ 11 by omega), e7, e6, e5]
                         show nI (c1 ++ c2).length = nI (c1.length + c2.length)
                         rw [List.length_append]
                       · rw [upS_3 (show k + 38 ≠ 11 by omega), e7, e6, e5]
                         show nI (c1 ++ c2 ++ c3).length = nI (c1.length + c2.length + c3.length)
                         rw [List.length_append, List.length_append])
              · rw [if_neg h0] at hK1
                refine g_if_eq (tgt := 74) B dX1_readsInto_67 (by decide) (fun c67 => ?_) (fun c67 => ?_)
                · refine g_iconst (v := (0)) B dX1_readsInto_74 (by decide) ?_
                  refine g_zreti B dX1_readsInto_75 (by rfl) ?_
                  first
                    | exact hK1 f rfl τ5 (f4.trans p5.frm) e5
                    | exact hK1 f rfl τ6 ((f4.trans p5.frm).trans p6.frm) e6
                    | exact hK1 f rfl τ7 (((f4.trans p5.frm).trans p6.frm).trans p7.frm) e7
                    | exact hK1 a3 rfl _ ((((f4.trans p5.frm).trans p6.frm).trans p7.frm).trans (pkr.rf.upR (by decide) : pkr [k + 26, k + 32, k + 38] [2, 7] τ7 _).frm) upS_1
                    | (refine hK2 (c1, (c2, c3)) rfl _ ((((f4.trans p5.frm).trans p6.frm).trans p7.frm).trans (pkr.rf.upR (by decide) : pkr [k + 26, k + 32, k + 38] [2, 7] τ7 _).frm) ?_
                       have hok := hdp (c1, (c2, c3)) rfl
                       have hcd := q7.2.2.2
                       obtain ⟨g1, g2⟩ := CD_sp (c1 ++ c2) 0 hcd
                       obtain ⟨g3, g4⟩ := CD_sp c1 0 g1
                       rw [Nat.zero_add] at g2 g4
                       rw [List.length_append] at g2
                       rw [List.length_append, List.length_append] at l3
                       refine ⟨hk, ⟨?_, ?_, ?_⟩, ⟨?_, ?_, ?_⟩, by show c1.length + c2.length + c3.length ≤ 160; omega, hok⟩
                       · rw [upS_3 (show k + 32 ≠ 11 by omega)]; exact g3
                       · rw [upS_3 (show k + 32 ≠ 11 by omega)]; exact g4
                       · rw [upS_3 (show k + 32 ≠ 11 by omega)]; exact g2
                       · rw [upS_3 (show k + 38 ≠ 11 by omega), e7, e6, e5]
                         rfl
                       · rw [upS_3 (show k + 38 ≠ 11 by omega), e7, e6, e5]
                         show nI (c1 ++ c2).length = nI (c1.length + c2.length)
                         rw [List.length_append]
                       · rw [upS_3 (show k + 38 ≠ 11 by omega), e7, e6, e5]
                         show nI (c1 ++ c2 ++ c3).length = nI (c1.length + c2.length + c3.length)
                         rw [List.length_append, List.length_append])
                · exact absurd rfl c67
theorem gTx_0 {a : St} {c p : Nat} : (∀ o, o ≠ 0 → o ≠ 1 → o ≠ 2 → (gTx0 a c p).1 o = a.1 o) ∧ (∀ k, k ≠ 6 → (gTx0 a c p).1 0 k = a.1 0 k) := by
  unfold gTx0
  exact ⟨fun o h0 h1 h2 => by rw [upS_3 h0, upS_3 h2, cpT_o h1], fun k hk => by rw [upS_2 hk, upS_3 (by decide), cpT_o (by decide)]⟩
/-- behind a text that was read, or not *T of the texts c' that stand then* -/
theorem REL.txt {a b b' : St} {T T' : Nat → TC} {m c r p c' : Nat} {a' : St} (h : REL a b T m c r p) (hc6 : c < 6) (ha : ∀ o, o ≠ 0 → o ≠ 1 → o ≠ 2 → a'.1 o = a.1 o) (ha0 : ∀ k, k ≠ 6 → k ≠ 3 → a'.1 0 k = a.1 0 k) (hb : ∀ o, o ≠ 0 → o ≠ 11 → o ∉ [17, 18, 19, c + 26, c + 32, c + 38] → b'.1 o = b.1 o) (hb0 : ∀ k, k ≠ 7 → b'.1 0 k = b.1 0 k) (h7 : b'.1 0 7 = nI c') (h11 : b'.1 11 1 = 0) (hT : ∀ k, k < c' → TXX b' k (T' k)) : REL a' b' T' m c' r 0 := by
  obtain ⟨⟨x1, x2, x3, x4⟩, ⟨_, _⟩, y7, y8, y9, y10, y11⟩ := h
  refine ⟨⟨?_, ?_, h7, ?_⟩, ⟨h11, fun i hi => absurd hi (Nat.not_lt_zero _)⟩, ?_, ?_, hT, ?_, ?_⟩
  · rw [hb0 1 (by decide), ha0 7 (by decide) (by decide)]; exact x1
  · rw [hb0 3 (by decide)]; exact x2
  · rw [hb0 8 (by decide)]; exact x4
  · rw [hb 1 (by decide) (by decide) (by simp <;> omega), ha 4 (by decide) (by decide) (by decide)]; exact y7
  · exact y8.eq (ha _ (by decide) (by decide) (by decide)) (ha _ (by decide) (by decide) (by decide)) (fun u hu => hb _ (by omega) (by omega) (by simp <;> omega))
  · exact y10.eq (ha _ (by decide) (by decide) (by decide)) (ha _ (by decide) (by decide) (by decide)) (ha _ (by decide) (by decide) (by decide)) (ha _ (by decide) (by decide) (by decide)) (fun s hs => ⟨hb _ (by omega) (by omega) (by simp <;> omega), hb _ (by omega) (by omega) (by simp <;> omega)⟩)
  · exact y11.eq (ha0 _ (by decide) (by decide)) (ha0 _ (by decide) (by decide)) (ha0 _ (by decide) (by decide)) (ha _ (by decide) (by decide) (by decide)) (ha _ (by decide) (by decide) (by decide)) (hb _ (by decide) (by decide) (by simp <;> omega)) (hb _ (by decide) (by decide) (by simp <;> omega)) (hb _ (by decide) (by decide) (by simp <;> omega)) (hb _ (by decide) (by decide) (by simp <;> omega))
set_option maxRecDepth 100000 in
set_option maxHeartbeats 4000000 in
theorem z_text {Z : LZ} {ad : Nat → Nat} {a b : St} {T : Nat → TC} {m c r p : Nat} {K : Int32 → St → Prop} {aK aV : Nat → Nat} {tb fm : Nat} (hE : SI Z aK aV tb fm) (hI : INV a T m c r p) (hR : REL a b T m c r p) (hK1 : c = 6 → K (-4) b) (hK2 : ∀ f, c < 6 → txR (bT a p) = .inl f → ∀ b', REL (gTx0 a c p) b' T m c r 0 → K (-100 - nI (lxS (bT a p) f)) b') (hK3 : ∀ C, c < 6 → txR (bT a p) = .inr C → ∀ b', REL (upS (gTx0 a c p) 0 3 (nI (c + 1))) b' (fun v => if v = c then C else T v) m (c + 1) r 0 → K (nI c) b') : CC lyX Z ad yX5_text wsX5_text (rmk 47) [.ref (ad 0)] b (rI K) := by
  refine CC.of (cc := cX5_text) (nL := 2) (ret := (some .int)) rfl rfl ⟨rfl, rfl⟩ (by exact Nat.le_of_ble_eq_true rfl) ?_
  intro X B
  change GG _ _ _ _ X _ 0 [some (.ref (ad 0)), none] [] _
  change Amb _ _ _ _ X _ _ RX5 _ _ at B
  have hc6 := hI.1.2.1.2.1
  have hp160 := hI.1.2.2.2.1
  have hG : GB b (bT a p) p := by
    refine ⟨⟨fun i hi => if_neg (by omega), fun i hi => ?_, hp160⟩, hR.2.1.1, fun i hi => ?_⟩
    · have h9 := hI.2.1.2.2 i hi
      unfold bT
      rw [if_pos hi]
      omega
    · rw [hR.2.1.2 i hi]
      exact (if_pos hi).symm
  refine g_aload_n B dX5_text_0 rfl ?_
  refine g_getI (T := TX5) (N := 16) B dX5_text_1 (by decide) (by rfl) (inq inlX5) rfl 7 (by decide) (mq f_X5_44) (by rfl) ?_
  rw [hR.1.2.2.1]
  refine g_bipush (v := (6)) B dX5_text_4 (by decide) ?_
  refine g_icmp_lt (tgt := 12) B dX5_text_6 (by decide) (fun c6 => ?_) (fun c6 => ?_)
  · have hlt : c < 6 := by
      rw [i_lt, i_n (by omega), i6] at c6
      omega
    refine g_aload_n B dX5_text_12 rfl ?_
    refine g_getR (T := TX5) (N := 16) B dX5_text_13 (by decide) (by rfl) (inq inlX5) rfl 5 (by decide) (mq f_X5_34) (by rfl) ?_
    refine g_aload_n B dX5_text_16 rfl ?_
    refine g_getR (T := TX5) (N := 16) B dX5_text_17 (by decide) (by rfl) (inq inlX5) rfl 6 (by decide) (mq f_X5_40) (by rfl) ?_
    refine g_aload_n B dX5_text_20 rfl ?_
    refine g_getI (T := TX5) (N := 16) B dX5_text_21 (by decide) (by rfl) (inq inlX5) rfl 7 (by decide) (mq f_X5_44) (by rfl) ?_
    rw [hR.1.2.2.1]
    refine g_aald B dX5_text_24 (by decide) (by rfl) (by exact vp_in_nI hlt (by omega)) ?_
    rw [i_cl (show c < 2147483648 by omega)]
    refine g_callVi (C := RX1) (As := [.ref _]) B dX5_text_25 (gc1 g_X5_142) (by rfl) ⟨rfl, hd_X1_readsInto⟩ (by exact ⟨Nat.le_of_ble_eq_true rfl, Nat.le_of_ble_eq_true rfl⟩) ⟨rfl, rfl⟩ rfl rfl (by exact Nat.le_of_ble_eq_true rfl) recv1 (x_reads hE hlt hG (fun f hf τ1 f1 e1 => ?_) (fun C hf τ1 f1 t1 => ?_))
    · skip
      refine g_istore_n B dX5_text_28 (by decide) rfl ?_
      refine g_aload_n B dX5_text_29 rfl ?_
      refine g_getR (T := TX5) (N := 16) B dX5_text_30 (by decide) (by rfl) (inq inlX5) rfl 5 (by decide) (mq f_X5_34) (by rfl) ?_
      refine g_iconst (v := (0)) B dX5_text_33 (by decide) ?_
      refine g_putI (T := TX1) (N := 9) B dX5_text_34 (by decide) (by rfl) (inq inlX1) rfl 1 (by decide) (mq f_X5_139) tyX1_ok nmX1 rfl ⟨rfl, rfl⟩ (by rfl) ?_
      refine g_iload_n B dX5_text_37 rfl ?_
      refine g_if_ne (tgt := 52) B dX5_text_38 (by decide) (fun c38 => ?_) (fun c38 => ?_)
      · exact absurd rfl c38
      · refine g_bipush (v := (-100)) B dX5_text_41 (by decide) ?_
        refine g_aload_n B dX5_text_43 rfl ?_
        refine g_getR (T := TX5) (N := 16) B dX5_text_44 (by decide) (by rfl) (inq inlX5) rfl 5 (by decide) (mq f_X5_34) (by rfl) ?_
        refine g_getI (T := TX1) (N := 9) B dX5_text_47 (by decide) (by rfl) (inq inlX1) rfl 2 (by decide) (mq f_X5_146) (by rfl) ?_
        rw [upS_2 (show (2 : Nat) ≠ 1 by decide), e1]
        refine g_isub B dX5_text_50 ?_
        refine g_ireti B dX5_text_51 ?_
        have q0 : ∀ k, τ1.1 0 k = b.1 0 k := fun k => by rw [f1.1 0 (by decide) (by simp <;> omega)]
        refine hK2 f hlt hf _ (hR.txt hlt gTx_0.1 (fun k h6 _ => gTx_0.2 k h6) (fun o h0 h1 h2 => by rw [upS_3 h1]; exact f1.1 o h1 h2) (fun k _ => by rw [upS_3 (by decide)]; exact q0 k) (by rw [upS_3 (by decide), q0]; exact hR.1.2.2.1) upS_1 (fun v hv => ?_))
        exact (hR.2.2.2.2.1 v hv).eq (by rw [upS_3 (by omega)]; exact f1.1 _ (by omega) (by simp <;> omega)) (by rw [upS_3 (by omega)]; exact f1.1 _ (by omega) (by simp <;> omega))
    · skip
      refine g_istore_n B dX5_text_28 (by decide) rfl ?_
      refine g_aload_n B dX5_text_29 rfl ?_
      refine g_getR (T := TX5) (N := 16) B dX5_text_30 (by decide) (by rfl) (inq inlX5) rfl 5 (by decide) (mq f_X5_34) (by rfl) ?_
      refine g_iconst (v := (0)) B dX5_text_33 (by decide) ?_
      refine g_putI (T := TX1) (N := 9) B dX5_text_34 (by decide) (by rfl) (inq inlX1) rfl 1 (by decide) (mq f_X5_139) tyX1_ok nmX1 rfl ⟨rfl, rfl⟩ (by rfl) ?_
      refine g_iload_n B dX5_text_37 rfl ?_
      refine g_if_ne (tgt := 52) B dX5_text_38 (by decide) (fun c38 => ?_) (fun c38 => ?_)
      · refine g_aload_n B dX5_text_52 rfl ?_
        refine g_dup B dX5_text_53 rfl ?_
        refine g_getI (T := TX5) (N := 16) B dX5_text_54 (by decide) (by rfl) (inq inlX5) rfl 7 (by decide) (mq f_X5_44) (by rfl) ?_
        rw [upS_3 (show (0 : Nat) ≠ 11 by decide), f1.1 0 (by decide) (by simp <;> omega), hR.1.2.2.1]
        refine g_iconst (v := (1)) B dX5_text_57 (by decide) ?_
        refine g_iadd B dX5_text_58 ?_
        rw [nI_1]
        refine g_putI (T := TX5) (N := 16) B dX5_text_59 (by decide) (by rfl) (inq inlX5) rfl 7 (by decide) (mq f_X5_44) tyX5_ok nmX5 rfl ⟨rfl, rfl⟩ (by rfl) ?_
        refine g_aload_n B dX5_text_62 rfl ?_
        refine g_getI (T := TX5) (N := 16) B dX5_text_63 (by decide) (by rfl) (inq inlX5) rfl 7 (by decide) (mq f_X5_44) (by rfl) ?_
        rw [upS_1]
        refine g_iconst (v := (1)) B dX5_text_66 (by decide) ?_
        refine g_isub B dX5_text_67 ?_
        rw [show nI (c + 1) - 1 = nI c from pk_sub (b := 1) (by omega)]
        refine g_ireti B dX5_text_68 ?_
        have q0 : ∀ k, τ1.1 0 k = b.1 0 k := fun k => by rw [f1.1 0 (by decide) (by simp <;> omega)]
        refine hK3 C hlt hf _ (hR.txt hlt (fun o h0 h1 h2 => by rw [upS_3 h0]; exact gTx_0.1 o h0 h1 h2) (fun k h6 h3 => by rw [upS_2 h3]; exact gTx_0.2 k h6) (fun o h0 h1 h2 => by rw [upS_3 h0, upS_3 h1]; exact f1.1 o h1 h2) (fun k h7 => by rw [upS_2 h7, upS_3 (by decide)]; exact q0 k) upS_1 (by rw [upS_3 (by decide), upS_1]) (fun v hv => ?_))
        by_cases e : v = c
        · subst e
          rw [if_pos rfl]
          exact t1.eq (by rw [upS_3 (by omega), upS_3 (by omega)]) (by rw [upS_3 (by omega), upS_3 (by omega)])
        · rw [if_neg e]
          exact (hR.2.2.2.2.1 v (by omega)).eq (by rw [upS_3 (by omega), upS_3 (by omega)]; exact f1.1 _ (by omega) (by simp <;> omega)) (by rw [upS_3 (by omega), upS_3 (by omega)]; exact f1.1 _ (by omega) (by simp <;> omega))
      · exact absurd c38 (by decide)
  · have e6 : c = 6 := by
      rw [i_lt, i_n (by omega), i6] at c6
      omega
    refine g_bipush (v := (-4)) B dX5_text_9 (by decide) ?_
    refine g_ireti B dX5_text_11 ?_
    exact hK1 e6

