/-! the law: its loop, its start *by program* -/
section LAWL
variable {l : Launch} {D : va_G} {cI cZ cU cT cS : ClassId} {aK aV : Nat → Nat} {tb fm : Nat} {X : CX} {A : Nat → Prop} {Q : State → Prop} {b0 N : Nat} {xs : Nat → Int32}
theorem L_loop {adX adM : Nat → Nat} (B : AmbN (zL l D cI cZ cU cT cS) room_1 X A cL_law wsL_law RL 4) (hS : sN X b0 N xs A) (hN : N ≤ 3072) (hX0 : eN X (SX aK aV tb fm) A) (hend : ∀ (i : Nat) (ws : va_W), GN (zL l D cI cZ cU cT cS) room_1 X A Q 68 8948 1032 (lL b0 adX adM i) [] ws) : ∀ (k i : Nat) (a b : St) (T : Nat → TC) (m c r p : Nat), i + k = N + 6 → INV a T m c r p → REL a b T m c r p → GN (zL l D cI cZ cU cT cS) room_1 X A Q 68 8948 18 (lL b0 adX adM i) [] (gws lyM (zR l D cI cZ) adM a ++ gws lyX (zS l D cI cU cT cS aK aV tb fm) adX b) := by
  intro k
  induction k using Nat.strongRecOn with
  | ind k ih =>
    intro i a b T m c r p h1 hI hR
    have hsub : (nI N - 6).toInt = (N : Int) - 6 := by
      rw [i_sub] <;> rw [i_n (by omega), show (6 : Int32).toInt = 6 from rfl] <;> omega
    refine n_iload_n (k := 3) B dL_law_18 rfl ?_
    refine n_aload_n (k := 0) B dL_law_19 rfl ?_
    refine n_slen (v := nI N) B hS dL_law_20 rfl ?_
    refine n_bipush (v := 6) B dL_law_21 (by decide) ?_
    refine n_isub B dL_law_23 ?_
    refine n_icmp_gt (tgt := 1032) B dL_law_24 (by decide) (fun _ => hend i _) (fun h => ?_)
    have hi : i + 6 ≤ N := by
      rw [i_lt, hsub, i_n (by omega)] at h
      omega
    refine n_aload_n (k := 0) B dL_law_27 rfl ?_
    refine n_iload_n (k := 3) B dL_law_28 rfl ?_
    refine n_sald B hS dL_law_29 (vp_in_nI (by omega) (by omega)) ?_
    refine n_bipush (v := 31) B dL_law_30 (by decide) ?_
    refine n_iand B dL_law_32 ?_
    generalize xs (nI i).toNatClampNeg &&& 31 = x
    have g : ∀ (a b : St) (T : Nat → TC) (m c r p : Nat), INV a T m c r p → REL a b T m c r p → GN (zL l D cI cZ cU cT cS) room_1 X A Q 68 8948 1026 (lL b0 adX adM i) [] (gws lyM (zR l D cI cZ) adM a ++ gws lyX (zS l D cI cU cT cS aK aV tb fm) adX b) := by
      intro a b T m c r p hI hR
      refine n_iinc (k := 3) (x := nI i) (c9 := 6) B dL_law_1026 rfl (by decide) (by decide) rfl ?_
      refine n_goto (tgt := 18) B dL_law_1029 (by decide) ?_
      change GN _ _ _ _ _ _ _ _ [some (.ref b0), some (.ref (adX 0)), some (.ref (adM 0)), some (.int (nI i + 6))] _ _
      rw [show nI i + 6 = nI (i + 6) from nI_add i 6]
      exact ih (k - 6) (by omega) (i + 6) a b T m c r p (by omega) hI hR
    by_cases hx : x.toInt < 0 ∨ 27 < x.toInt
    · exact n_tableOut (tgt := 1026) B dL_law_33 hx (by decide) (g a b T m c r p hI hR)
    · obtain ⟨n, hn, e⟩ : ∃ n : Nat, n < 28 ∧ x.toInt = (n : Int) := ⟨x.toInt.toNat, by omega, by omega⟩
      rcases (show n = 0 ∨ n = 1 ∨ n = 2 ∨ n = 3 ∨ n = 4 ∨ n = 5 ∨ n = 6 ∨ n = 7 ∨ n = 8 ∨ n = 9 ∨ n = 10 ∨ n = 11 ∨ n = 12 ∨ n = 13 ∨ n = 14 ∨ n = 15 ∨ n = 16 ∨ n = 17 ∨ n = 18 ∨ n = 19 ∨ n = 20 ∨ n = 21 ∨ n = 22 ∨ n = 23 ∨ n = 24 ∨ n = 25 ∨ n = 26 ∨ n = 27 by omega) with rfl | rfl | rfl | rfl | rfl | rfl | rfl | rfl | rfl | rfl | rfl | rfl | rfl | rfl | rfl | rfl | rfl | rfl | rfl | rfl | rfl | rfl | rfl | rfl | rfl | rfl | rfl | rfl
      · exact n_tableIn (off := 127) (tgt := 160) B dL_law_33 (by rw [e]; decide) (by rw [e]; decide) (by rw [e]; rfl) (by decide) (L_set B hS hi hN hX0 hI hR g)
      · exact n_tableIn (off := 170) (tgt := 203) B dL_law_33 (by rw [e]; decide) (by rw [e]; decide) (by rw [e]; rfl) (by decide) (L_user B hS hi hN hX0 hI hR g)
      · exact n_tableIn (off := 213) (tgt := 246) B dL_law_33 (by rw [e]; decide) (by rw [e]; decide) (by rw [e]; rfl) (by decide) (L_told B hS hi hN hX0 hI hR g)
      · exact n_tableIn (off := 246) (tgt := 279) B dL_law_33 (by rw [e]; decide) (by rw [e]; decide) (by rw [e]; rfl) (by decide) (L_feed B hS hi hN hX0 hI hR g)
      · exact n_tableIn (off := 269) (tgt := 302) B dL_law_33 (by rw [e]; decide) (by rw [e]; decide) (by rw [e]; rfl) (by decide) (L_text B hS hi hN hX0 hI hR g)
      · exact n_tableIn (off := 282) (tgt := 315) B dL_law_33 (by rw [e]; decide) (by rw [e]; decide) (by rw [e]; rfl) (by decide) (L_force B hS hi hN hX0 hI hR g)
      · exact n_tableIn (off := 305) (tgt := 338) B dL_law_33 (by rw [e]; decide) (by rw [e]; decide) (by rw [e]; rfl) (by decide) (L_has B hS hi hN hX0 hI hR g)
      · exact n_tableIn (off := 338) (tgt := 371) B dL_law_33 (by rw [e]; decide) (by rw [e]; decide) (by rw [e]; rfl) (by decide) (L_worth B hS hi hN hX0 hI hR g)
      · exact n_tableIn (off := 361) (tgt := 394) B dL_law_33 (by rw [e]; decide) (by rw [e]; decide) (by rw [e]; rfl) (by decide) (L_share B hS hi hN hX0 hI hR g)
      · exact n_tableIn (off := 384) (tgt := 417) B dL_law_33 (by rw [e]; decide) (by rw [e]; decide) (by rw [e]; rfl) (by decide) (L_mean B hS hi hN hX0 hI hR g)
      · exact n_tableIn (off := 418) (tgt := 451) B dL_law_33 (by rw [e]; decide) (by rw [e]; decide) (by rw [e]; rfl) (by decide) (L_best B hS hi hN hX0 hI hR g)
      · exact n_tableIn (off := 441) (tgt := 474) B dL_law_33 (by rw [e]; decide) (by rw [e]; decide) (by rw [e]; rfl) (by decide) (L_settle B hS hi hN hX0 hI hR g)
      · exact n_tableIn (off := 454) (tgt := 487) B dL_law_33 (by rw [e]; decide) (by rw [e]; decide) (by rw [e]; rfl) (by decide) (L_cut B hS hi hN hX0 hI hR g)
      · exact n_tableIn (off := 477) (tgt := 510) B dL_law_33 (by rw [e]; decide) (by rw [e]; decide) (by rw [e]; rfl) (by decide) (L_change B hS hi hN hX0 hI hR g)
      · exact n_tableIn (off := 500) (tgt := 533) B dL_law_33 (by rw [e]; decide) (by rw [e]; decide) (by rw [e]; rfl) (by decide) (L_forTown B hS hi hN hX0 hI hR g)
      · exact n_tableIn (off := 533) (tgt := 566) B dL_law_33 (by rw [e]; decide) (by rw [e]; decide) (by rw [e]; rfl) (by decide) (L_heaviest B hS hi hN hX0 hI hR g)
      · exact n_tableIn (off := 556) (tgt := 589) B dL_law_33 (by rw [e]; decide) (by rw [e]; decide) (by rw [e]; rfl) (by decide) (L_tells B hS hi hN hX0 hI hR g)
      · exact n_tableIn (off := 599) (tgt := 632) B dL_law_33 (by rw [e]; decide) (by rw [e]; decide) (by rw [e]; rfl) (by decide) (L_film B hS hi hN hX0 hI hR g)
      · exact n_tableIn (off := 642) (tgt := 675) B dL_law_33 (by rw [e]; decide) (by rw [e]; decide) (by rw [e]; rfl) (by decide) (L_drawn B hS hi hN hX0 hI hR g)
      · exact n_tableIn (off := 665) (tgt := 698) B dL_law_33 (by rw [e]; decide) (by rw [e]; decide) (by rw [e]; rfl) (by decide) (L_chance B hS hi hN hX0 hI hR g)
      · exact n_tableIn (off := 709) (tgt := 742) B dL_law_33 (by rw [e]; decide) (by rw [e]; decide) (by rw [e]; rfl) (by decide) (L_image B hS hi hN hX0 hI hR g)
      · exact n_tableIn (off := 722) (tgt := 755) B dL_law_33 (by rw [e]; decide) (by rw [e]; decide) (by rw [e]; rfl) (by decide) (L_back B hS hi hN hX0 hI hR g)
      · exact n_tableIn (off := 735) (tgt := 768) B dL_law_33 (by rw [e]; decide) (by rw [e]; decide) (by rw [e]; rfl) (by decide) (L_count B hS hi hN hX0 hI hR g)
      · exact n_tableIn (off := 758) (tgt := 791) B dL_law_33 (by rw [e]; decide) (by rw [e]; decide) (by rw [e]; rfl) (by decide) (L_sheet B hS hi hN hX0 hI hR g)
      · exact n_tableIn (off := 801) (tgt := 834) B dL_law_33 (by rw [e]; decide) (by rw [e]; decide) (by rw [e]; rfl) (by decide) (L_cell B hS hi hN hX0 hI hR g)
      · exact n_tableIn (off := 844) (tgt := 877) B dL_law_33 (by rw [e]; decide) (by rw [e]; decide) (by rw [e]; rfl) (by decide) (L_copy B hS hi hN hX0 hI hR g)
      · exact n_tableIn (off := 907) (tgt := 940) B dL_law_33 (by rw [e]; decide) (by rw [e]; decide) (by rw [e]; rfl) (by decide) (L_users B hS hi hN hX0 hI hR g)
      · exact n_tableIn (off := 960) (tgt := 993) B dL_law_33 (by rw [e]; decide) (by rw [e]; decide) (by rw [e]; rfl) (by decide) (L_taken B hS hi hN hX0 hI hR g)
theorem wl_c5 : Cond.classLink RL 7 RX5 ∈ wsL_law := in_r1 _ (by decide +kernel)
theorem wl_z5 : Cond.initialized RX5 ∈ wsL_law := in_r1 _ (by decide +kernel)
theorem wl_c6 : Cond.classLink RL 10 RX6 ∈ wsL_law := in_r1 _ (by decide +kernel)
theorem wl_z6 : Cond.initialized RX6 ∈ wsL_law := in_r1 _ (by decide +kernel)
theorem wl_l5 : Cond.methodLink RL 9 yX5_init ∈ wsL_law := in_r1 _ (by decide +kernel)
theorem wl_m5 : Cond.instanceMethod yX5_init ∈ wsL_law := in_r1 _ (by decide +kernel)
theorem wl_k5 : Cond.code yX5_init cX5_init 2 none ∈ wsL_law := in_r1 _ (by decide +kernel)
theorem wl_l6 : Cond.methodLink RL 12 yX6_init ∈ wsL_law := in_r5 _ (by decide +kernel)
theorem wl_m6 : Cond.instanceMethod yX6_init ∈ wsL_law := in_r5 _ (by decide +kernel)
theorem wl_k6 : Cond.code yX6_init cX6_init 2 none ∈ wsL_law := in_r5 _ (by decide +kernel)
theorem last_get {u : va_W} {x : Nat × va_E} {n : Nat} (h : u.length = n) : [n].map (fun i => (u ++ [x])[i]?) = [x].map some := by
  subst h
  simp
theorem rng_get {u : va_W} {x : Nat × va_E} {n : Nat} (h : u.length = n) : (List.range n).map (fun i => (u ++ [x])[i]?) = u.map some := by
  subst h
  apply List.ext_getElem?
  intro j
  by_cases hj : j < u.length
  · rw [List.getElem?_map, List.getElem?_map, List.getElem?_range hj]
    show some ((u ++ [x])[j]?) = _
    rw [List.getElem?_append_left hj, List.getElem?_eq_getElem hj]
    rfl
  · rw [List.getElem?_eq_none (by simp; omega), List.getElem?_eq_none (by simp; omega)]
theorem gws_len {ly : Lay} {Z : LZ} {ad : Nat → Nat} {τ : St} : (gws ly Z ad τ).length = ly.2 := by simp [gws]
theorem fs5_ok : ∀ j, j < 16 → defaultValue (tyX5 j) = vp_V [.null, .int (0), .null, .int (0), .null, .null, .null, .int (0), .int (0), .null, .null, .null, .null, .null, .null, .null] j := by
  intro j hj
  rcases (show j = 0 ∨ j = 1 ∨ j = 2 ∨ j = 3 ∨ j = 4 ∨ j = 5 ∨ j = 6 ∨ j = 7 ∨ j = 8 ∨ j = 9 ∨ j = 10 ∨ j = 11 ∨ j = 12 ∨ j = 13 ∨ j = 14 ∨ j = 15 by omega) with rfl | rfl | rfl | rfl | rfl | rfl | rfl | rfl | rfl | rfl | rfl | rfl | rfl | rfl | rfl | rfl <;> rfl
theorem fs6_ok : ∀ j, j < 42 → defaultValue (tyX6 j) = vp_V [.int (0), .null, .null, .int (0), .int (0), .null, .int (0), .int (0), .null, .null, .null, .int (0), .int (0), .int (0), .int (0), .int (0), .int (0), .int (0), .int (0), .int (0), .int (0), .int (0), .int (0), .long (0), .int (0), .int (0), .int (0), .null, .null, .int (0), .int (0), .int (0), .null, .null, .null, .int (0), .int (0), .int (0), .null, .null, .null, .null] j := by
  intro j hj
  rcases (show j = 0 ∨ j = 1 ∨ j = 2 ∨ j = 3 ∨ j = 4 ∨ j = 5 ∨ j = 6 ∨ j = 7 ∨ j = 8 ∨ j = 9 ∨ j = 10 ∨ j = 11 ∨ j = 12 ∨ j = 13 ∨ j = 14 ∨ j = 15 ∨ j = 16 ∨ j = 17 ∨ j = 18 ∨ j = 19 ∨ j = 20 ∨ j = 21 ∨ j = 22 ∨ j = 23 ∨ j = 24 ∨ j = 25 ∨ j = 26 ∨ j = 27 ∨ j = 28 ∨ j = 29 ∨ j = 30 ∨ j = 31 ∨ j = 32 ∨ j = 33 ∨ j = 34 ∨ j = 35 ∨ j = 36 ∨ j = 37 ∨ j = 38 ∨ j = 39 ∨ j = 40 ∨ j = 41 by omega) with rfl | rfl | rfl | rfl | rfl | rfl | rfl | rfl | rfl | rfl | rfl | rfl | rfl | rfl | rfl | rfl | rfl | rfl | rfl | rfl | rfl | rfl | rfl | rfl | rfl | rfl | rfl | rfl | rfl | rfl | rfl | rfl | rfl | rfl | rfl | rfl | rfl | rfl | rfl | rfl | rfl | rfl <;> rfl
set_option maxRecDepth 100000 in
theorem L_run (B : AmbN (zL l D cI cZ cU cT cS) room_1 X A cL_law wsL_law RL 4) (hS : sN X b0 N xs A) (hN : N ≤ 3072) (hX0 : eN X (SX aK aV tb fm) A) (hend : ∀ (adX adM : Nat → Nat) (i : Nat) (ws : va_W), GN (zL l D cI cZ cU cT cS) room_1 X A Q 68 8948 1032 (lL b0 adX adM i) [] ws) : GN (zL l D cI cZ cU cT cS) room_1 X A Q 0 0 0 [some (.ref b0), none, none, none] [] [] := by
  refine n_new (ci := 5) (C := RX5) (T := TX5) (N := 16) (ty0 := tyX5) (fs := [.null, .int (0), .null, .int (0), .null, .null, .null, .int (0), .int (0), .null, .null, .null, .null, .null, .null, .null]) (nc2 := 1) (ns2 := 16) B dL_law_0 inlX5 tyX5_ok ⟨wl_c5, wi5, wl_z5⟩ rfl fs5_ok rfl rfl (by exact ⟨Nat.le_of_ble_eq_true rfl, Nat.le_of_ble_eq_true rfl⟩) (fun q1 => ?_)
  refine n_dup B dL_law_3 rfl ?_
  refine n_callI (mc := 51) (ms := 3872) (rmc := rmn (0 + 11) 51 3872) (wc := [(q1, .inr (5, [.null, .int (0), .null, .int (0), .null, .null, .null, .int (0), .int (0), .null, .null, .null, .null, .null, .null, .null]))]) (wr := []) (nc2 := 52) (ns2 := 3888) B dL_law_4 (gc0 (inw wl_k5)) hd_X5_init rfl wl_l5 ⟨wl_z5, wl_m5⟩ (by exact ⟨Nat.le_of_ble_eq_true rfl, Nat.le_of_ble_eq_true rfl⟩) ⟨rfl, rfl⟩ (by exact Nat.le_of_ble_eq_true rfl) [0] [] rfl rfl (by decide) (by decide) (by decide) rfl rfl (by exact ⟨Nat.le_of_ble_eq_true rfl, Nat.le_of_ble_eq_true rfl⟩) (k_X5_init (h := 0) rfl (fun U h => h.1) (fun U h => h.2) (fun adX hX => ?_))
  subst hX
  change GN (zL l D cI cZ cU cT cS) room_1 X A Q 52 3888 7 [some (.ref b0), none, none, none] [.ref (adX 0)] (gws lyX (zS l D cI cU cT cS aK aV tb fm) adX (wF sX0 0))
  refine n_astore_n (k := 1) B dL_law_7 (by decide) rfl ?_
  refine n_new (ci := 6) (C := RX6) (T := TX6) (N := 42) (ty0 := tyX6) (fs := [.int (0), .null, .null, .int (0), .int (0), .null, .int (0), .int (0), .null, .null, .null, .int (0), .int (0), .int (0), .int (0), .int (0), .int (0), .int (0), .int (0), .int (0), .int (0), .int (0), .int (0), .long (0), .int (0), .int (0), .int (0), .null, .null, .int (0), .int (0), .int (0), .null, .null, .null, .int (0), .int (0), .int (0), .null, .null, .null, .null]) (nc2 := 53) (ns2 := 3930) B dL_law_8 inlX6 tyX6_ok ⟨wl_c6, wi6, wl_z6⟩ rfl fs6_ok rfl rfl (by exact ⟨Nat.le_of_ble_eq_true rfl, Nat.le_of_ble_eq_true rfl⟩) (fun q2 => ?_)
  refine n_dup B dL_law_11 rfl ?_
  refine n_callI (mc := 15) (ms := 5018) (rmc := rmn (0 + 2) 15 5018) (wc := [(q2, .inr (6, [.int (0), .null, .null, .int (0), .int (0), .null, .int (0), .int (0), .null, .null, .null, .int (0), .int (0), .int (0), .int (0), .int (0), .int (0), .int (0), .int (0), .int (0), .int (0), .int (0), .int (0), .long (0), .int (0), .int (0), .int (0), .null, .null, .int (0), .int (0), .int (0), .null, .null, .null, .int (0), .int (0), .int (0), .null, .null, .null, .null]))]) (wr := gws lyX (zS l D cI cU cT cS aK aV tb fm) adX (wF sX0 0)) (nc2 := 68) (ns2 := 8948) B dL_law_12 (gc0 (inw wl_k6)) hd_X6_init rfl wl_l6 ⟨wl_z6, wl_m6⟩ (by exact ⟨Nat.le_of_ble_eq_true rfl, Nat.le_of_ble_eq_true rfl⟩) ⟨rfl, rfl⟩ (by exact Nat.le_of_ble_eq_true rfl) [52] (List.range 52) (last_get gws_len) (rng_get gws_len) (by decide) (by decide +kernel) (by decide +kernel) rfl rfl (by exact ⟨Nat.le_of_ble_eq_true rfl, Nat.le_of_ble_eq_true rfl⟩) (k_X6_init (h := 0) rfl (fun adM hM => ?_))
  subst hM
  refine n_astore_n (k := 2) B dL_law_15 (by decide) rfl ?_
  refine n_iconst (v := 0) B dL_law_16 (by decide) ?_
  refine n_istore_n (k := 3) B dL_law_17 (by decide) rfl ?_
  refine n_flip ?_
  exact L_loop B hS hN hX0 (hend adX adM) (N + 6) 0 sA5 (wF sX0 0) TC0 0 1 0 0 (by omega) inv0 rel0
end LAWL
