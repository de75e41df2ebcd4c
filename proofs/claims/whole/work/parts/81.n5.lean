/-! the program's constructor, its end -/
def sX0 : St := (fun o => if o = 0 then (fun k => if k = 7 then 1 else 0) else if o = 1 then (fun j => if 0 ≤ j ∧ j < 30 then 5 else 0) else if 44 ≤ o ∧ o < 48 then (fun k => if k = 0 then -1 else 0) else fun _ => 0, (0, none))
def arX (cI cU cT cS : ClassId) : Nat → ClassId := fun o => if o = 7 then cU else if o = 8 then cT else if o = 9 then cS else cI
def zX (Z : NZ) (cI cU cT cS : ClassId) : LZ := (Z.1, (Z.2.1, (arX cI cU cT cS, fun _ _ _ => True)))
def loT : LO → Option FieldType
  | .inr (ty, _) => some ty
  | _ => none
theorem loT_X : ∀ o, o < 52 → (o = 7 ∨ o = 8 ∨ o = 9 ∨ loT (lyX.1 o) = none ∨ loT (lyX.1 o) = some .int) := by decide +kernel
theorem gK_X {Z : NZ} {cI cZ cU cT cS : ClassId} {E : (Nat → Prop) → State → Heap → Prop} (hT : Z.2.2.1 = [(cI, .int), (cZ, .boolean), (cU, .object RX4), (cT, .object RX3), (cS, .object RX2)]) {U : State} (h : va_K Z.2.1 vwCl Z.2.2.1 U) : gK lyX (Z.1, (Z.2.1, (arX cI cU cT cS, E))) U := by
  refine ⟨h.sub [] rfl, fun o ho ty x e => ?_⟩
  have e2 : loT (lyX.1 o) = some ty := by rw [e]; rfl
  rw [hT] at h
  rcases loT_X o ho with h1 | h1 | h1 | h1 | h1
  · subst h1
    obtain rfl : ty = .object RX4 := (Option.some.inj e2).symm
    exact h.sub [2] rfl
  · subst h1
    obtain rfl : ty = .object RX3 := (Option.some.inj e2).symm
    exact h.sub [3] rfl
  · subst h1
    obtain rfl : ty = .object RX2 := (Option.some.inj e2).symm
    exact h.sub [4] rfl
  · rw [h1] at e2
    cases e2
  · by_cases h7 : o = 7
    · subst h7
      obtain rfl : ty = .object RX4 := (Option.some.inj e2).symm
      exact h.sub [2] rfl
    · by_cases h8 : o = 8
      · subst h8
        obtain rfl : ty = .object RX3 := (Option.some.inj e2).symm
        exact h.sub [3] rfl
      · by_cases h9 : o = 9
        · subst h9
          obtain rfl : ty = .object RX2 := (Option.some.inj e2).symm
          exact h.sub [4] rfl
        · rw [h1] at e2
          obtain rfl : ty = .int := (Option.some.inj e2).symm
          show va_K _ _ [(arX cI cU cT cS o, _)] U
          unfold arX
          rw [if_neg h7, if_neg h8, if_neg h9]
          exact h.sub [0] rfl
set_option maxRecDepth 100000 in
set_option maxHeartbeats 4000000 in
theorem x5_g {Z : NZ} {h : Nat} {X : CX} {A : Nat → Prop} {Q : State → Prop} {cI cZ cU cT cS : ClassId} (hT : Z.2.2.1 = [(cI, .int), (cZ, .boolean), (cU, .object RX4), (cT, .object RX3), (cS, .object RX2)]) (B : AmbN Z (rmn (h + 11) 51 3872) X A cX5_init wsX5_init RX5 2) {a q1 q2 q3 q4 q5 q6 q7 q8 q9 q10 q11 q12 q13 q14 q15 q16 q17 q18 q19 q20 q21 q22 q23 q24 q25 q26 q27 q28 q29 q30 q31 q32 q33 q34 q35 q36 q37 q38 q39 q40 q41 q42 q43 q44 q45 q46 q47 q48 q49 q50 q51 : Nat} (g : ∀ ad : Nat → Nat, ad 0 = a → GN Z (rmn (h + 11) 51 3872) X A Q 51 3872 242 [some (.ref a), some (.int (4))] [] (gws lyX (zX Z cI cU cT cS) ad (wF sX0 0))) : GN Z (rmn (h + 11) 51 3872) X A Q 51 3872 233 [some (.ref a), some (.int (4))] [] [(a, .inr (5, [.ref q1, .int (0), .ref q2, .int (0), .ref q3, .ref q4, .ref q9, .int (1), .int (0), .ref q10, .ref q11, .ref q15, .ref q16, .ref q17, .ref q18, .ref q19])), (q1, .inl (cI, (30, .inl (fun j => if 0 ≤ j ∧ j < 30 then 5 else (fun _ => 0) j)))), (q2, .inl (cU, (6, .inr (.inr (.inr (.inr (va_up (va_up (va_up (va_up (va_up (va_up (fun _ => none) 0 (some q20)) 1 (some q21)) 2 (some q22)) 3 (some q23)) 4 (some q24)) 5 (some q25)))))))), (q3, .inr (4, [.int (0), .int (0), .int (0)])), (q4, .inr (1, [.ref q5, .int (0), .int (0), .ref q6, .ref q7, .ref q8, .int (0), .int (0), .null])), (q5, .inl (cI, (160, .inl (fun _ => 0)))), (q6, .inl (cI, (161, .inl (fun _ => 0)))), (q7, .inl (cI, (161, .inl (fun _ => 0)))), (q8, .inl (cI, (161, .inl (fun _ => 0)))), (q9, .inl (cT, (6, .inr (.inr (.inr (.inr (va_up (va_up (va_up (va_up (va_up (va_up (fun _ => none) 0 (some q26)) 1 (some q29)) 2 (some q32)) 3 (some q35)) 4 (some q38)) 5 (some q41)))))))), (q10, .inl (cS, (4, .inr (.inr (.inr (.inr (va_up (va_up (va_up (va_up (fun _ => none) 0 (some q44)) 1 (some q46)) 2 (some q48)) 3 (some q50)))))))), (q11, .inr (0, [.int (0), .ref q12, .int (0), .int (0), .int (0), .ref q13, .ref q14])), (q12, .inl (cI, (30, .inl (fun _ => 0)))), (q13, .inl (cI, (6, .inl (fun _ => 0)))), (q14, .inl (cI, (6, .inl (fun _ => 0)))), (q15, .inl (cI, (6, .inl (fun _ => 0)))), (q16, .inl (cI, (40, .inl (fun _ => 0)))), (q17, .inl (cI, (30, .inl (fun _ => 0)))), (q18, .inl (cI, (60, .inl (fun _ => 0)))), (q19, .inl (cI, (1800, .inl (fun _ => 0)))), (q20, .inr (4, [.int (0), .int (0), .int (0)])), (q21, .inr (4, [.int (0), .int (0), .int (0)])), (q22, .inr (4, [.int (0), .int (0), .int (0)])), (q23, .inr (4, [.int (0), .int (0), .int (0)])), (q24, .inr (4, [.int (0), .int (0), .int (0)])), (q25, .inr (4, [.int (0), .int (0), .int (0)])), (q26, .inr (3, [.ref q27, .ref q28, .int (0)])), (q27, .inl (cI, (160, .inl (fun _ => 0)))), (q28, .inl (cI, (3, .inl (fun _ => 0)))), (q29, .inr (3, [.ref q30, .ref q31, .int (0)])), (q30, .inl (cI, (160, .inl (fun _ => 0)))), (q31, .inl (cI, (3, .inl (fun _ => 0)))), (q32, .inr (3, [.ref q33, .ref q34, .int (0)])), (q33, .inl (cI, (160, .inl (fun _ => 0)))), (q34, .inl (cI, (3, .inl (fun _ => 0)))), (q35, .inr (3, [.ref q36, .ref q37, .int (0)])), (q36, .inl (cI, (160, .inl (fun _ => 0)))), (q37, .inl (cI, (3, .inl (fun _ => 0)))), (q38, .inr (3, [.ref q39, .ref q40, .int (0)])), (q39, .inl (cI, (160, .inl (fun _ => 0)))), (q40, .inl (cI, (3, .inl (fun _ => 0)))), (q41, .inr (3, [.ref q42, .ref q43, .int (0)])), (q42, .inl (cI, (160, .inl (fun _ => 0)))), (q43, .inl (cI, (3, .inl (fun _ => 0)))), (q44, .inr (2, [.int (-1), .int (0), .ref q45])), (q45, .inl (cI, (40, .inl (fun _ => 0)))), (q46, .inr (2, [.int (-1), .int (0), .ref q47])), (q47, .inl (cI, (40, .inl (fun _ => 0)))), (q48, .inr (2, [.int (-1), .int (0), .ref q49])), (q49, .inl (cI, (40, .inl (fun _ => 0)))), (q50, .inr (2, [.int (-1), .int (0), .ref q51])), (q51, .inl (cI, (40, .inl (fun _ => 0))))] := by
  refine n_aload_n B dX5_init_233 rfl ?_
  refine n_get (q0 := 0) (k := 6) (ci := 5) (C := RX5) (T := TX5) (N := 16) B rfl dX5_init_234 (inq inlX5) rfl (by decide) (mq f_X5_40) rfl rfl ?_
  refine n_iconst (v := (0)) B dX5_init_237 (by decide) ?_
  refine n_aldq (q0 := 9) (t0 := 3) B dX5_init_238 rfl (by rw [hT]; rfl) (i_vp (by decide) (by decide)) (v := q26) rfl ?_
  refine n_swapq (k := 2) (f2 := (fun j => some ((fun o => [a, q1, q15, q16, q17, q18, q19, q2, q9, q10, q11, q4, q3, q12, q13, q14, q5, q6, q7, q8, q20, q21, q22, q23, q24, q25, q26, q29, q32, q35, q38, q41, q27, q30, q33, q36, q39, q42, q28, q31, q34, q37, q40, q43, q44, q46, q48, q50, q45, q47, q49, q51].getD o 0) (j + 20)))) rfl (fun j hj => by rcases (show j = 0 ∨ j = 1 ∨ j = 2 ∨ j = 3 ∨ j = 4 ∨ j = 5 by omega) with rfl | rfl | rfl | rfl | rfl | rfl <;> rfl) rfl ?_
  refine n_swapq (k := 9) (f2 := (fun j => some ((fun o => [a, q1, q15, q16, q17, q18, q19, q2, q9, q10, q11, q4, q3, q12, q13, q14, q5, q6, q7, q8, q20, q21, q22, q23, q24, q25, q26, q29, q32, q35, q38, q41, q27, q30, q33, q36, q39, q42, q28, q31, q34, q37, q40, q43, q44, q46, q48, q50, q45, q47, q49, q51].getD o 0) (j + 26)))) rfl (fun j hj => by rcases (show j = 0 ∨ j = 1 ∨ j = 2 ∨ j = 3 ∨ j = 4 ∨ j = 5 by omega) with rfl | rfl | rfl | rfl | rfl | rfl <;> rfl) rfl ?_
  refine n_swapq (k := 10) (f2 := (fun j => some ((fun o => [a, q1, q15, q16, q17, q18, q19, q2, q9, q10, q11, q4, q3, q12, q13, q14, q5, q6, q7, q8, q20, q21, q22, q23, q24, q25, q26, q29, q32, q35, q38, q41, q27, q30, q33, q36, q39, q42, q28, q31, q34, q37, q40, q43, q44, q46, q48, q50, q45, q47, q49, q51].getD o 0) (j + 44)))) rfl (fun j hj => by rcases (show j = 0 ∨ j = 1 ∨ j = 2 ∨ j = 3 by omega) with rfl | rfl | rfl | rfl <;> rfl) rfl ?_
  refine n_perm [0, 1, 15, 16, 17, 18, 19, 2, 9, 10, 11, 4, 3, 12, 13, 14, 5, 6, 7, 8, 20, 21, 22, 23, 24, 25, 26, 29, 32, 35, 38, 41, 27, 30, 33, 36, 39, 42, 28, 31, 34, 37, 40, 43, 44, 46, 48, 50, 45, 47, 49, 51] (ws2 := gws lyX (zX Z cI cU cT cS) (fun o => [a, q1, q15, q16, q17, q18, q19, q2, q9, q10, q11, q4, q3, q12, q13, q14, q5, q6, q7, q8, q20, q21, q22, q23, q24, q25, q26, q29, q32, q35, q38, q41, q27, q30, q33, q36, q39, q42, q28, q31, q34, q37, q40, q43, q44, q46, q48, q50, q45, q47, q49, q51].getD o 0) sX0) ?_ (by decide) ?_
  · exact rfl
  refine n_callVv (C := RX3) (As := []) (o := 26) (Z9 := zX Z cI cU cT cS) (ly := lyX) (ad := (fun o => [a, q1, q15, q16, q17, q18, q19, q2, q9, q10, q11, q4, q3, q12, q13, q14, q5, q6, q7, q8, q20, q21, q22, q23, q24, q25, q26, q29, q32, q35, q38, q41, q27, q30, q33, q36, q39, q42, q28, q31, q34, q37, q40, q43, q44, q46, q48, q50, q45, q47, q49, q51].getD o 0)) (τ := sX0) B ⟨rfl, rfl⟩ rfl (fun U hU => gK_X hT hU) dX5_init_239 (gc1 g_X5_80) rfl ⟨rfl, hd_X3_writeFirst⟩ (by exact ⟨Nat.le_of_ble_eq_true rfl, Nat.le_of_ble_eq_true rfl⟩) ⟨rfl, rfl⟩ rfl rfl (by exact Nat.le_of_ble_eq_true rfl) (recv3 (k := 0) (by decide)) (by exact ⟨Nat.le_of_ble_eq_true rfl, Nat.le_of_ble_eq_true rfl⟩) rfl (x_wF (k := 0) (by decide) rfl ?_)
  exact g (fun o => [a, q1, q15, q16, q17, q18, q19, q2, q9, q10, q11, q4, q3, q12, q13, q14, q5, q6, q7, q8, q20, q21, q22, q23, q24, q25, q26, q29, q32, q35, q38, q41, q27, q30, q33, q36, q39, q42, q28, q31, q34, q37, q40, q43, q44, q46, q48, q50, q45, q47, q49, q51].getD o 0) rfl
theorem k_X5_init {Z : NZ} {h a : Nat} {K : va_W → Prop} {cI cZ cU cT cS : ClassId} (hT : Z.2.2.1 = [(cI, .int), (cZ, .boolean), (cU, .object RX4), (cT, .object RX3), (cS, .object RX2)]) (hNN : ∀ U, Z.2.2.2 U → NN5 U) (hAO : ∀ U, Z.2.2.2 U → AO5 U) (hk : ∀ ad : Nat → Nat, ad 0 = a → K (gws lyX (zX Z cI cU cT cS) ad (wF sX0 0))) : CN Z yX5_init wsX5_init (rmn (h + 11) 51 3872) 51 3872 [.ref a] [(a, .inr (5, [.null, .int (0), .null, .int (0), .null, .null, .null, .int (0), .int (0), .null, .null, .null, .null, .null, .null, .null]))] K := by
  refine CN.of (by decide) rfl rfl (Nat.le_of_ble_eq_true rfl) (fun X B hI => ?_)
  refine x5_a hT hNN hAO B hI (fun q1 q2 q3 q4 q5 q6 q7 q8 q9 => ?_)
  refine x5_b hT hNN hAO B hI (fun q10 q11 q12 q13 q14 q15 q16 q17 q18 q19 => ?_)
  refine x5_c hT hNN hAO B hI ?_
  refine x5_d hT hNN hAO B hI (fun q20 q21 q22 q23 q24 q25 => ?_)
  refine x5_e hT hNN hAO B hI (fun q26 q27 q28 q29 q30 q31 q32 q33 q34 q35 q36 q37 q38 q39 q40 q41 q42 q43 => ?_)
  refine x5_f hT hNN hAO B hI (fun q44 q45 q46 q47 q48 q49 q50 q51 => ?_)
  refine x5_g hT B (fun ad he => ?_)
  exact n_ret B hI dX5_init_242 rfl rfl (hk ad he)
