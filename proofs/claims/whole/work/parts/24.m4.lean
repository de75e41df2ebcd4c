/-! the reference: the next token, whole -/
/-- the token at q is the one at hand -/
def AtT (τ0 τ : St) (t n q : Nat) : Prop := τ.1 0 22 = nI q ∧ q ≤ n ∧
  ((gM τ0 t n q < 0 ∧ τ.1 0 21 = 0) ∨
   (¬ gM τ0 t n q < 0 ∧ isL (gM τ0 t n q) ∧ τ.1 0 21 = 1 ∧ τ.1 0 20 = nI (spL (gM τ0 t n) 200 q)) ∨
   (¬ gM τ0 t n q < 0 ∧ ¬ isL (gM τ0 t n q) ∧ isD (gM τ0 t n q) ∧ τ.1 0 20 = nI (spD (gM τ0 t n) 200 q) ∧ ((spD (gM τ0 t n) 200 q - q ≤ 4 ∧ τ.1 0 21 = 2 ∧ τ.2.1 = nvL (gM τ0 t n) q (spD (gM τ0 t n) 200 q - q)) ∨ (4 < spD (gM τ0 t n) 200 q - q ∧ τ.1 0 21 = 4))) ∨
   (¬ gM τ0 t n q < 0 ∧ ¬ isL (gM τ0 t n q) ∧ ¬ isD (gM τ0 t n q) ∧ isS (gM τ0 t n q) ∧ τ.1 0 21 = 3 ∧ τ.2.1 = (gM τ0 t n q).toInt64 ∧ τ.1 0 20 = nI (q + 1)) ∨
   (¬ gM τ0 t n q < 0 ∧ ¬ isL (gM τ0 t n q) ∧ ¬ isD (gM τ0 t n q) ∧ ¬ isS (gM τ0 t n q) ∧ τ.1 0 21 = 4))
theorem in_Lp {b : Int32} : ¬ b1 ((97 : Int64) ≤ b.toInt64 ∧ b.toInt64 ≤ 122) = 0 ↔ isL b := by rw [in_L, Decidable.not_not]
theorem in_Dp {b : Int32} : ¬ b1 ((48 : Int64) ≤ b.toInt64 ∧ b.toInt64 ≤ 57) = 0 ↔ isD b := by rw [in_D, Decidable.not_not]
set_option maxRecDepth 100000 in
set_option maxHeartbeats 4000000 in
theorem c_next {Z : LZ} {ad : Nat → Nat} {τ0 τ : St} {K : St → Prop} {t n h : Nat} (hp : PT τ0 t n) (hg : gEnd (gM τ0 t n) n) (hs : pkx pS τ0 τ) (hh : τ.1 0 20 = nI h) (hh2 : h ≤ n) (hK : ∀ τ', pkx [20, 21, 22] τ τ' → AtT τ0 τ' t n (skp (gM τ0 t n) 200 h) → K τ') : CC lyM Z ad yX6_next wsX6_next (rmk 2) [.ref (ad 0)] τ (rV K) := by
  refine CC.of (cc := cX6_next) (nL := 3) (ret := none) rfl rfl ⟨rfl, rfl⟩ (by exact Nat.le_of_ble_eq_true rfl) ?_
  intro X B
  change GG _ _ _ _ X _ 0 [some (.ref (ad 0)), none, none] [] _
  change Amb _ _ _ _ X _ _ RX6 _ _ at B
  have hn := hp.2.1
  refine nx_l1 (h := h) B hp hg hs ?_ 200 h τ (Nat.le_refl _) hh2 (by omega) pkx.rf hh (fun j a b => by omega)
  intro τ1 hk1 h20 hq
  generalize hqe : skp (gM τ0 t n) 200 h = q at *
  have hk2 : pkx [20, 21, 22] τ τ1 := hk1.mono (by decide)
  have hs1 : pkx pS τ0 τ1 := hs.trans (hk2.mono (by decide))
  have e19 : τ1.1 0 19 = nI n := (hs1.2.1 19 (by decide)).trans hp.2.2.2
  refine g_aload_n B dX6_next_39 rfl ?_
  refine g_aload_n B dX6_next_40 rfl ?_
  refine g_getI (T := TX6) (N := 42) B dX6_next_41 (by decide) (by rfl) (inq inlX6) rfl 20 (by decide) (mq f_X6_134) (by rfl) ?_
  refine g_putI (T := TX6) (N := 42) B dX6_next_44 (by decide) (by rfl) (inq inlX6) rfl 22 (by decide) (mq f_X6_141) tyX6_ok nmX6 rfl ⟨rfl, rfl⟩ (by rfl) ?_
  refine g_aload_n B dX6_next_47 rfl ?_
  refine g_aload_n B dX6_next_48 rfl ?_
  refine g_getI (T := TX6) (N := 42) B dX6_next_49 (by decide) (by rfl) (inq inlX6) rfl 20 (by decide) (mq f_X6_134) (by rfl) ?_
  refine g_callVi (C := RX6) (As := [.int _]) B dX6_next_52 (gc1 g_X6_137) (by rfl) ⟨rfl, hd_X6_byteAt⟩ (by exact ⟨Nat.le_of_ble_eq_true rfl, Nat.le_of_ble_eq_true rfl⟩) ⟨rfl, rfl⟩ rfl rfl (by exact Nat.le_of_ble_eq_true rfl) recvM (c_byteAt (j := q) hp (hs1.up (by decide)) (by omega) (by rw [upS_2 (by decide)]; exact h20) ?_)
  refine g_istore_n B dX6_next_55 (by decide) rfl ?_
  refine g_aload_n B dX6_next_56 rfl ?_
  refine g_iconst (v := (4)) B dX6_next_57 (by decide) ?_
  refine g_putI (T := TX6) (N := 42) B dX6_next_58 (by decide) (by rfl) (inq inlX6) rfl 21 (by decide) (mq f_X6_144) tyX6_ok nmX6 rfl ⟨rfl, rfl⟩ (by rfl) ?_
  refine g_iload_n B dX6_next_61 rfl ?_
  generalize hbe : gM τ0 t n q = b at *
  refine g_if_ge (tgt := 81) B dX6_next_62 (by decide) (fun c62 => ?_) (fun c62 => ?_)
  · have hge : ¬ b < 0 := fun z => absurd c62 (Int32.not_le.mpr z)
    refine g_iload_n B dX6_next_81 rfl ?_
    refine g_i2l B dX6_next_82 rfl ?_
    refine g_ldc2 (v := (97)) B dX6_next_83 (mq k_X6_147) ?_
    refine g_ldc2 (v := (122)) B dX6_next_86 (mq k_X6_149) ?_
    refine g_callSi (As := [.long _, .long _, .long _]) B dX6_next_89 (gc1 g_X6_73) (by rfl) hd_X6_in (by exact ⟨Nat.le_of_ble_eq_true rfl, Nat.le_of_ble_eq_true rfl⟩) ⟨rfl, rfl⟩ rfl rfl (by exact Nat.le_of_ble_eq_true rfl) (c_in ?_)
    refine g_if_eq (tgt := 134) B dX6_next_92 (by decide) (fun c92 => ?_) (fun c92 => ?_)
    · refine g_iload_n B dX6_next_134 rfl ?_
      refine g_i2l B dX6_next_135 rfl ?_
      refine g_ldc2 (v := (48)) B dX6_next_136 (mq k_X6_151) ?_
      refine g_ldc2 (v := (57)) B dX6_next_139 (mq k_X6_153) ?_
      refine g_callSi (As := [.long _, .long _, .long _]) B dX6_next_142 (gc1 g_X6_73) (by rfl) hd_X6_in (by exact ⟨Nat.le_of_ble_eq_true rfl, Nat.le_of_ble_eq_true rfl⟩) ⟨rfl, rfl⟩ rfl rfl (by exact Nat.le_of_ble_eq_true rfl) (c_in ?_)
      refine g_if_eq (tgt := 252) B dX6_next_145 (by decide) (fun c145 => ?_) (fun c145 => ?_)
      · refine g_iload_n B dX6_next_252 rfl ?_
        refine g_bipush (v := (40)) B dX6_next_253 (by decide) ?_
        refine g_icmp_eq (tgt := 300) B dX6_next_255 (by decide) (fun c255 => ?_) (fun c255 => ?_)
        · refine g_aload_n B dX6_next_300 rfl ?_
          refine g_iconst (v := (3)) B dX6_next_301 (by decide) ?_
          refine g_putI (T := TX6) (N := 42) B dX6_next_302 (by decide) (by rfl) (inq inlX6) rfl 21 (by decide) (mq f_X6_144) tyX6_ok nmX6 rfl ⟨rfl, rfl⟩ (by rfl) ?_
          refine g_aload_n B dX6_next_305 rfl ?_
          refine g_iload_n B dX6_next_306 rfl ?_
          refine g_i2l B dX6_next_307 rfl ?_
          refine g_putL (T := TX6) (N := 42) B dX6_next_308 (by decide) (by rfl) (inq inlX6) rfl 23 (by decide) (mq f_X6_155) tyX6_ok nmX6 rfl ⟨rfl, rfl⟩ (by rfl) (by rfl) (by rfl) ?_
          refine g_aload_n B dX6_next_311 rfl ?_
          refine g_dup B dX6_next_312 rfl ?_
          refine g_getI (T := TX6) (N := 42) B dX6_next_313 (by decide) (by rfl) (inq inlX6) rfl 20 (by decide) (mq f_X6_134) (by rfl) ?_
          refine g_iconst (v := (1)) B dX6_next_316 (by decide) ?_
          refine g_iadd B dX6_next_317 ?_
          refine g_putI (T := TX6) (N := 42) B dX6_next_318 (by decide) (by rfl) (inq inlX6) rfl 20 (by decide) (mq f_X6_134) tyX6_ok nmX6 rfl ⟨rfl, rfl⟩ (by rfl) ?_
          refine g_vreti B dX6_next_321 ?_
          first
            | (refine hK _ (by repeat (first | exact hk2 | refine pkx.up ?_ (by decide) | refine pkx.upL ?_)) ⟨by simp [upS_1, upS_2, e19, hqn], hq, Or.inl ⟨by rw [hbe]; exact hlt, by simp [upS_1, upS_2]⟩⟩)
            | (rw [in_L] at c92
               rw [in_D] at c145
               first
               | (have hS : isS b := by
                    first
                      | exact Or.inl c255
                      | exact Or.inr (Or.inl c261)
                      | exact Or.inr (Or.inr (Or.inl c267))
                      | exact Or.inr (Or.inr (Or.inr (Or.inl c273)))
                      | exact Or.inr (Or.inr (Or.inr (Or.inr (Or.inl c279))))
                      | exact Or.inr (Or.inr (Or.inr (Or.inr (Or.inr (Or.inl c285)))))
                      | exact Or.inr (Or.inr (Or.inr (Or.inr (Or.inr (Or.inr (Or.inl c291))))))
                      | exact Or.inr (Or.inr (Or.inr (Or.inr (Or.inr (Or.inr (Or.inr c297))))))
                  refine hK _ (by repeat (first | exact hk2 | refine pkx.up ?_ (by decide) | refine pkx.upL ?_)) ⟨by simp [upS_1, upS_2, upL_1, h20], hq, Or.inr (Or.inr (Or.inr (Or.inl ⟨by rw [hbe]; exact hge, by rw [hbe]; exact c92, by rw [hbe]; exact c145, by rw [hbe]; exact hS, by simp [upS_1, upS_2, upL_1], by rw [hbe]; rfl, ?_⟩)))⟩
                  simp only [upS_1, upS_2, upL_1, ne_eq, Nat.reduceEqDiff, not_false_eq_true, h20]
                  exact nI_1 q)
               | (refine hK _ (by repeat (first | exact hk2 | refine pkx.up ?_ (by decide) | refine pkx.upL ?_)) ⟨by simp [upS_1, upS_2, h20], hq, Or.inr (Or.inr (Or.inr (Or.inr ⟨by rw [hbe]; exact hge, by rw [hbe]; exact c92, by rw [hbe]; exact c145, ?_, by simp [upS_1, upS_2]⟩)))⟩
                  rw [hbe]
                  rintro (h | h | h | h | h | h | h | h)
                  · exact c255 h
                  · exact c261 h
                  · exact c267 h
                  · exact c273 h
                  · exact c279 h
                  · exact c285 h
                  · exact c291 h
                  · exact c297 h))
        · refine g_iload_n B dX6_next_258 rfl ?_
          refine g_bipush (v := (41)) B dX6_next_259 (by decide) ?_
          refine g_icmp_eq (tgt := 300) B dX6_next_261 (by decide) (fun c261 => ?_) (fun c261 => ?_)
          · refine g_aload_n B dX6_next_300 rfl ?_
            refine g_iconst (v := (3)) B dX6_next_301 (by decide) ?_
            refine g_putI (T := TX6) (N := 42) B dX6_next_302 (by decide) (by rfl) (inq inlX6) rfl 21 (by decide) (mq f_X6_144) tyX6_ok nmX6 rfl ⟨rfl, rfl⟩ (by rfl) ?_
            refine g_aload_n B dX6_next_305 rfl ?_
            refine g_iload_n B dX6_next_306 rfl ?_
            refine g_i2l B dX6_next_307 rfl ?_
            refine g_putL (T := TX6) (N := 42) B dX6_next_308 (by decide) (by rfl) (inq inlX6) rfl 23 (by decide) (mq f_X6_155) tyX6_ok nmX6 rfl ⟨rfl, rfl⟩ (by rfl) (by rfl) (by rfl) ?_
            refine g_aload_n B dX6_next_311 rfl ?_
            refine g_dup B dX6_next_312 rfl ?_
            refine g_getI (T := TX6) (N := 42) B dX6_next_313 (by decide) (by rfl) (inq inlX6) rfl 20 (by decide) (mq f_X6_134) (by rfl) ?_
            refine g_iconst (v := (1)) B dX6_next_316 (by decide) ?_
            refine g_iadd B dX6_next_317 ?_
            refine g_putI (T := TX6) (N := 42) B dX6_next_318 (by decide) (by rfl) (inq inlX6) rfl 20 (by decide) (mq f_X6_134) tyX6_ok nmX6 rfl ⟨rfl, rfl⟩ (by rfl) ?_
            refine g_vreti B dX6_next_321 ?_
            first
              | (refine hK _ (by repeat (first | exact hk2 | refine pkx.up ?_ (by decide) | refine pkx.upL ?_)) ⟨by simp [upS_1, upS_2, e19, hqn], hq, Or.inl ⟨by rw [hbe]; exact hlt, by simp [upS_1, upS_2]⟩⟩)
              | (rw [in_L] at c92
                 rw [in_D] at c145
                 first
                 | (have hS : isS b := by
                      first
                        | exact Or.inl c255
                        | exact Or.inr (Or.inl c261)
                        | exact Or.inr (Or.inr (Or.inl c267))
                        | exact Or.inr (Or.inr (Or.inr (Or.inl c273)))
                        | exact Or.inr (Or.inr (Or.inr (Or.inr (Or.inl c279))))
                        | exact Or.inr (Or.inr (Or.inr (Or.inr (Or.inr (Or.inl c285)))))
                        | exact Or.inr (Or.inr (Or.inr (Or.inr (Or.inr (Or.inr (Or.inl c291))))))
                        | exact Or.inr (Or.inr (Or.inr (Or.inr (Or.inr (Or.inr (Or.inr c297))))))
                    refine hK _ (by repeat (first | exact hk2 | refine pkx.up ?_ (by decide) | refine pkx.upL ?_)) ⟨by simp [upS_1, upS_2, upL_1, h20], hq, Or.inr (Or.inr (Or.inr (Or.inl ⟨by rw [hbe]; exact hge, by rw [hbe]; exact c92, by rw [hbe]; exact c145, by rw [hbe]; exact hS, by simp [upS_1, upS_2, upL_1], by rw [hbe]; rfl, ?_⟩)))⟩
                    simp only [upS_1, upS_2, upL_1, ne_eq, Nat.reduceEqDiff, not_false_eq_true, h20]
                    exact nI_1 q)
                 | (refine hK _ (by repeat (first | exact hk2 | refine pkx.up ?_ (by decide) | refine pkx.upL ?_)) ⟨by simp [upS_1, upS_2, h20], hq, Or.inr (Or.inr (Or.inr (Or.inr ⟨by rw [hbe]; exact hge, by rw [hbe]; exact c92, by rw [hbe]; exact c145, ?_, by simp [upS_1, upS_2]⟩)))⟩
                    rw [hbe]
                    rintro (h | h | h | h | h | h | h | h)
                    · exact c255 h
                    · exact c261 h
                    · exact c267 h
                    · exact c273 h
                    · exact c279 h
                    · exact c285 h
                    · exact c291 h
                    · exact c297 h))
          · refine g_iload_n B dX6_next_264 rfl ?_
            refine g_bipush (v := (59)) B dX6_next_265 (by decide) ?_
            refine g_icmp_eq (tgt := 300) B dX6_next_267 (by decide) (fun c267 => ?_) (fun c267 => ?_)
            · refine g_aload_n B dX6_next_300 rfl ?_
              refine g_iconst (v := (3)) B dX6_next_301 (by decide) ?_
              refine g_putI (T := TX6) (N := 42) B dX6_next_302 (by decide) (by rfl) (inq inlX6) rfl 21 (by decide) (mq f_X6_144) tyX6_ok nmX6 rfl ⟨rfl, rfl⟩ (by rfl) ?_
              refine g_aload_n B dX6_next_305 rfl ?_
              refine g_iload_n B dX6_next_306 rfl ?_
              refine g_i2l B dX6_next_307 rfl ?_
              refine g_putL (T := TX6) (N := 42) B dX6_next_308 (by decide) (by rfl) (inq inlX6) rfl 23 (by decide) (mq f_X6_155) tyX6_ok nmX6 rfl ⟨rfl, rfl⟩ (by rfl) (by rfl) (by rfl) ?_
              refine g_aload_n B dX6_next_311 rfl ?_
              refine g_dup B dX6_next_312 rfl ?_
              refine g_getI (T := TX6) (N := 42) B dX6_next_313 (by decide) (by rfl) (inq inlX6) rfl 20 (by decide) (mq f_X6_134) (by rfl) ?_
              refine g_iconst (v := (1)) B dX6_next_316 (by decide) ?_
              refine g_iadd B dX6_next_317 ?_
              refine g_putI (T := TX6) (N := 42) B dX6_next_318 (by decide) (by rfl) (inq inlX6) rfl 20 (by decide) (mq f_X6_134) tyX6_ok nmX6 rfl ⟨rfl, rfl⟩ (by rfl) ?_
              refine g_vreti B dX6_next_321 ?_
              first
                | (refine hK _ (by repeat (first | exact hk2 | refine pkx.up ?_ (by decide) | refine pkx.upL ?_)) ⟨by simp [upS_1, upS_2, e19, hqn], hq, Or.inl ⟨by rw [hbe]; exact hlt, by simp [upS_1, upS_2]⟩⟩)
                | (rw [in_L] at c92
                   rw [in_D] at c145
                   first
                   | (have hS : isS b := by
                        first
                          | exact Or.inl c255
                          | exact Or.inr (Or.inl c261)
                          | exact Or.inr (Or.inr (Or.inl c267))
                          | exact Or.inr (Or.inr (Or.inr (Or.inl c273)))
                          | exact Or.inr (Or.inr (Or.inr (Or.inr (Or.inl c279))))
                          | exact Or.inr (Or.inr (Or.inr (Or.inr (Or.inr (Or.inl c285)))))
                          | exact Or.inr (Or.inr (Or.inr (Or.inr (Or.inr (Or.inr (Or.inl c291))))))
                          | exact Or.inr (Or.inr (Or.inr (Or.inr (Or.inr (Or.inr (Or.inr c297))))))
                      refine hK _ (by repeat (first | exact hk2 | refine pkx.up ?_ (by decide) | refine pkx.upL ?_)) ⟨by simp [upS_1, upS_2, upL_1, h20], hq, Or.inr (Or.inr (Or.inr (Or.inl ⟨by rw [hbe]; exact hge, by rw [hbe]; exact c92, by rw [hbe]; exact c145, by rw [hbe]; exact hS, by simp [upS_1, upS_2, upL_1], by rw [hbe]; rfl, ?_⟩)))⟩
                      simp only [upS_1, upS_2, upL_1, ne_eq, Nat.reduceEqDiff, not_false_eq_true, h20]
                      exact nI_1 q)
                   | (refine hK _ (by repeat (first | exact hk2 | refine pkx.up ?_ (by decide) | refine pkx.upL ?_)) ⟨by simp [upS_1, upS_2, h20], hq, Or.inr (Or.inr (Or.inr (Or.inr ⟨by rw [hbe]; exact hge, by rw [hbe]; exact c92, by rw [hbe]; exact c145, ?_, by simp [upS_1, upS_2]⟩)))⟩
                      rw [hbe]
                      rintro (h | h | h | h | h | h | h | h)
                      · exact c255 h
                      · exact c261 h
                      · exact c267 h
                      · exact c273 h
                      · exact c279 h
                      · exact c285 h
                      · exact c291 h
                      · exact c297 h))
            · refine g_iload_n B dX6_next_270 rfl ?_
              refine g_bipush (v := (43)) B dX6_next_271 (by decide) ?_
              refine g_icmp_eq (tgt := 300) B dX6_next_273 (by decide) (fun c273 => ?_) (fun c273 => ?_)
              · refine g_aload_n B dX6_next_300 rfl ?_
                refine g_iconst (v := (3)) B dX6_next_301 (by decide) ?_
                refine g_putI (T := TX6) (N := 42) B dX6_next_302 (by decide) (by rfl) (inq inlX6) rfl 21 (by decide) (mq f_X6_144) tyX6_ok nmX6 rfl ⟨rfl, rfl⟩ (by rfl) ?_
                refine g_aload_n B dX6_next_305 rfl ?_
                refine g_iload_n B dX6_next_306 rfl ?_
                refine g_i2l B dX6_next_307 rfl ?_
                refine g_putL (T := TX6) (N := 42) B dX6_next_308 (by decide) (by rfl) (inq inlX6) rfl 23 (by decide) (mq f_X6_155) tyX6_ok nmX6 rfl ⟨rfl, rfl⟩ (by rfl) (by rfl) (by rfl) ?_
                refine g_aload_n B dX6_next_311 rfl ?_
                refine g_dup B dX6_next_312 rfl ?_
                refine g_getI (T := TX6) (N := 42) B dX6_next_313 (by decide) (by rfl) (inq inlX6) rfl 20 (by decide) (mq f_X6_134) (by rfl) ?_
                refine g_iconst (v := (1)) B dX6_next_316 (by decide) ?_
                refine g_iadd B dX6_next_317 ?_
                refine g_putI (T := TX6) (N := 42) B dX6_next_318 (by decide) (by rfl) (inq inlX6) rfl 20 (by decide) (mq f_X6_134) tyX6_ok nmX6 rfl ⟨rfl, rfl⟩ (by rfl) ?_
                refine g_vreti B dX6_next_321 ?_
                first
                  | (refine hK _ (by repeat (first | exact hk2 | refine pkx.up ?_ (by decide) | refine pkx.upL ?_)) ⟨by simp [upS_1, upS_2, e19, hqn], hq, Or.inl ⟨by rw [hbe]; exact hlt, by simp [upS_1, upS_2]⟩⟩)
                  | (rw [in_L] at c92
                     rw [in_D] at c145
                     first
                     | (have hS : isS b := by
                          first
                            | exact Or.inl c255
                            | exact Or.inr (Or.inl c261)
                            | exact Or.inr (Or.inr (Or.inl c267))
                            | exact Or.inr (Or.inr (Or.inr (Or.inl c273)))
                            | exact Or.inr (Or.inr (Or.inr (Or.inr (Or.inl c279))))
                            | exact Or.inr (Or.inr (Or.inr (Or.inr (Or.inr (Or.inl c285)))))
                            | exact Or.inr (Or.inr (Or.inr (Or.inr (Or.inr (Or.inr (Or.inl c291))))))
                            | exact Or.inr (Or.inr (Or.inr (Or.inr (Or.inr (Or.inr (Or.inr c297))))))
                        refine hK _ (by repeat (first | exact hk2 | refine pkx.up ?_ (by decide) | refine pkx.upL ?_)) ⟨by simp [upS_1, upS_2, upL_1, h20], hq, Or.inr (Or.inr (Or.inr (Or.inl ⟨by rw [hbe]; exact hge, by rw [hbe]; exact c92, by rw [hbe]; exact c145, by rw [hbe]; exact hS, by simp [upS_1, upS_2, upL_1], by rw [hbe]; rfl, ?_⟩)))⟩
                        simp only [upS_1, upS_2, upL_1, ne_eq, Nat.reduceEqDiff, not_false_eq_true, h20]
                        exact nI_1 q)
                     | (refine hK _ (by repeat (first | exact hk2 | refine pkx.up ?_ (by decide) | refine pkx.upL ?_)) ⟨by simp [upS_1, upS_2, h20], hq, Or.inr (Or.inr (Or.inr (Or.inr ⟨by rw [hbe]; exact hge, by rw [hbe]; exact c92, by rw [hbe]; exact c145, ?_, by simp [upS_1, upS_2]⟩)))⟩
                        rw [hbe]
                        rintro (h | h | h | h | h | h | h | h)
                        · exact c255 h
                        · exact c261 h
                        · exact c267 h
                        · exact c273 h
                        · exact c279 h
                        · exact c285 h
                        · exact c291 h
                        · exact c297 h))
              · refine g_iload_n B dX6_next_276 rfl ?_
                refine g_bipush (v := (45)) B dX6_next_277 (by decide) ?_
                refine g_icmp_eq (tgt := 300) B dX6_next_279 (by decide) (fun c279 => ?_) (fun c279 => ?_)
                · refine g_aload_n B dX6_next_300 rfl ?_
                  refine g_iconst (v := (3)) B dX6_next_301 (by decide) ?_
                  refine g_putI (T := TX6) (N := 42) B dX6_next_302 (by decide) (by rfl) (inq inlX6) rfl 21 (by decide) (mq f_X6_144) tyX6_ok nmX6 rfl ⟨rfl, rfl⟩ (by rfl) ?_
                  refine g_aload_n B dX6_next_305 rfl ?_
                  refine g_iload_n B dX6_next_306 rfl ?_
                  refine g_i2l B dX6_next_307 rfl ?_
                  refine g_putL (T := TX6) (N := 42) B dX6_next_308 (by decide) (by rfl) (inq inlX6) rfl 23 (by decide) (mq f_X6_155) tyX6_ok nmX6 rfl ⟨rfl, rfl⟩ (by rfl) (by rfl) (by rfl) ?_
                  refine g_aload_n B dX6_next_311 rfl ?_
                  refine g_dup B dX6_next_312 rfl ?_
                  refine g_getI (T := TX6) (N := 42) B dX6_next_313 (by decide) (by rfl) (inq inlX6) rfl 20 (by decide) (mq f_X6_134) (by rfl) ?_
                  refine g_iconst (v := (1)) B dX6_next_316 (by decide) ?_
                  refine g_iadd B dX6_next_317 ?_
                  refine g_putI (T := TX6) (N := 42) B dX6_next_318 (by decide) (by rfl) (inq inlX6) rfl 20 (by decide) (mq f_X6_134) tyX6_ok nmX6 rfl ⟨rfl, rfl⟩ (by rfl) ?_
                  refine g_vreti B dX6_next_321 ?_
                  first
                    | (refine hK _ (by repeat (first | exact hk2 | refine pkx.up ?_ (by decide) | refine pkx.upL ?_)) ⟨by simp [upS_1, upS_2, e19, hqn], hq, Or.inl ⟨by rw [hbe]; exact hlt, by simp [upS_1, upS_2]⟩⟩)
                    | (rw [in_L] at c92
                       rw [in_D] at c145
                       first
                       | (have hS : isS b := by
                            first
                              | exact Or.inl c255
                              | exact Or.inr (Or.inl c261)
                              | exact Or.inr (Or.inr (Or.inl c267))
                              | exact Or.inr (Or.inr (Or.inr (Or.inl c273)))
                              | exact Or.inr (Or.inr (Or.inr (Or.inr (Or.inl c279))))
                              | exact Or.inr (Or.inr (Or.inr (Or.inr (Or.inr (Or.inl c285)))))
                              | exact Or.inr (Or.inr (Or.inr (Or.inr (Or.inr (Or.inr (Or.inl c291))))))
                              | exact Or.inr (Or.inr (Or.inr (Or.inr (Or.inr (Or.inr (Or.inr c297))))))
                          refine hK _ (by repeat (first | exact hk2 | refine pkx.up ?_ (by decide) | refine pkx.upL ?_)) ⟨by simp [upS_1, upS_2, upL_1, h20], hq, Or.inr (Or.inr (Or.inr (Or.inl ⟨by rw [hbe]; exact hge, by rw [hbe]; exact c92, by rw [hbe]; exact c145, by rw [hbe]; exact hS, by simp [upS_1, upS_2, upL_1], by rw [hbe]; rfl, ?_⟩)))⟩
                          simp only [upS_1, upS_2, upL_1, ne_eq, Nat.reduceEqDiff, not_false_eq_true, h20]
                          exact nI_1 q)
                       | (refine hK _ (by repeat (first | exact hk2 | refine pkx.up ?_ (by decide) | refine pkx.upL ?_)) ⟨by simp [upS_1, upS_2, h20], hq, Or.inr (Or.inr (Or.inr (Or.inr ⟨by rw [hbe]; exact hge, by rw [hbe]; exact c92, by rw [hbe]; exact c145, ?_, by simp [upS_1, upS_2]⟩)))⟩
                          rw [hbe]
                          rintro (h | h | h | h | h | h | h | h)
                          · exact c255 h
                          · exact c261 h
                          · exact c267 h
                          · exact c273 h
                          · exact c279 h
                          · exact c285 h
                          · exact c291 h
                          · exact c297 h))
                · refine g_iload_n B dX6_next_282 rfl ?_
                  refine g_bipush (v := (42)) B dX6_next_283 (by decide) ?_
                  refine g_icmp_eq (tgt := 300) B dX6_next_285 (by decide) (fun c285 => ?_) (fun c285 => ?_)
                  · refine g_aload_n B dX6_next_300 rfl ?_
                    refine g_iconst (v := (3)) B dX6_next_301 (by decide) ?_
                    refine g_putI (T := TX6) (N := 42) B dX6_next_302 (by decide) (by rfl) (inq inlX6) rfl 21 (by decide) (mq f_X6_144) tyX6_ok nmX6 rfl ⟨rfl, rfl⟩ (by rfl) ?_
                    refine g_aload_n B dX6_next_305 rfl ?_
                    refine g_iload_n B dX6_next_306 rfl ?_
                    refine g_i2l B dX6_next_307 rfl ?_
                    refine g_putL (T := TX6) (N := 42) B dX6_next_308 (by decide) (by rfl) (inq inlX6) rfl 23 (by decide) (mq f_X6_155) tyX6_ok nmX6 rfl ⟨rfl, rfl⟩ (by rfl) (by rfl) (by rfl) ?_
                    refine g_aload_n B dX6_next_311 rfl ?_
                    refine g_dup B dX6_next_312 rfl ?_
                    refine g_getI (T := TX6) (N := 42) B dX6_next_313 (by decide) (by rfl) (inq inlX6) rfl 20 (by decide) (mq f_X6_134) (by rfl) ?_
                    refine g_iconst (v := (1)) B dX6_next_316 (by decide) ?_
                    refine g_iadd B dX6_next_317 ?_
                    refine g_putI (T := TX6) (N := 42) B dX6_next_318 (by decide) (by rfl) (inq inlX6) rfl 20 (by decide) (mq f_X6_134) tyX6_ok nmX6 rfl ⟨rfl, rfl⟩ (by rfl) ?_
                    refine g_vreti B dX6_next_321 ?_
                    first
                      | (refine hK _ (by repeat (first | exact hk2 | refine pkx.up ?_ (by decide) | refine pkx.upL ?_)) ⟨by simp [upS_1, upS_2, e19, hqn], hq, Or.inl ⟨by rw [hbe]; exact hlt, by simp [upS_1, upS_2]⟩⟩)
                      | (rw [in_L] at c92
                         rw [in_D] at c145
                         first
                         | (have hS : isS b := by
                              first
                                | exact Or.inl c255
                                | exact Or.inr (Or.inl c261)
                                | exact Or.inr (Or.inr (Or.inl c267))
                                | exact Or.inr (Or.inr (Or.inr (Or.inl c273)))
                                | exact Or.inr (Or.inr (Or.inr (Or.inr (Or.inl c279))))
                                | exact Or.inr (Or.inr (Or.inr (Or.inr (Or.inr (Or.inl c285)))))
                                | exact Or.inr (Or.inr (Or.inr (Or.inr (Or.inr (Or.inr (Or.inl c291))))))
                                | exact Or.inr (Or.inr (Or.inr (Or.inr (Or.inr (Or.inr (Or.inr c297))))))
                            refine hK _ (by repeat (first | exact hk2 | refine pkx.up ?_ (by decide) | refine pkx.upL ?_)) ⟨by simp [upS_1, upS_2, upL_1, h20], hq, Or.inr (Or.inr (Or.inr (Or.inl ⟨by rw [hbe]; exact hge, by rw [hbe]; exact c92, by rw [hbe]; exact c145, by rw [hbe]; exact hS, by simp [upS_1, upS_2, upL_1], by rw [hbe]; rfl, ?_⟩)))⟩
                            simp only [upS_1, upS_2, upL_1, ne_eq, Nat.reduceEqDiff, not_false_eq_true, h20]
                            exact nI_1 q)
                         | (refine hK _ (by repeat (first | exact hk2 | refine pkx.up ?_ (by decide) | refine pkx.upL ?_)) ⟨by simp [upS_1, upS_2, h20], hq, Or.inr (Or.inr (Or.inr (Or.inr ⟨by rw [hbe]; exact hge, by rw [hbe]; exact c92, by rw [hbe]; exact c145, ?_, by simp [upS_1, upS_2]⟩)))⟩
                            rw [hbe]
                            rintro (h | h | h | h | h | h | h | h)
                            · exact c255 h
                            · exact c261 h
                            · exact c267 h
                            · exact c273 h
                            · exact c279 h
                            · exact c285 h
                            · exact c291 h
                            · exact c297 h))
                  · refine g_iload_n B dX6_next_288 rfl ?_
                    refine g_bipush (v := (60)) B dX6_next_289 (by decide) ?_
                    refine g_icmp_eq (tgt := 300) B dX6_next_291 (by decide) (fun c291 => ?_) (fun c291 => ?_)
                    · refine g_aload_n B dX6_next_300 rfl ?_
                      refine g_iconst (v := (3)) B dX6_next_301 (by decide) ?_
                      refine g_putI (T := TX6) (N := 42) B dX6_next_302 (by decide) (by rfl) (inq inlX6) rfl 21 (by decide) (mq f_X6_144) tyX6_ok nmX6 rfl ⟨rfl, rfl⟩ (by rfl) ?_
                      refine g_aload_n B dX6_next_305 rfl ?_
                      refine g_iload_n B dX6_next_306 rfl ?_
                      refine g_i2l B dX6_next_307 rfl ?_
                      refine g_putL (T := TX6) (N := 42) B dX6_next_308 (by decide) (by rfl) (inq inlX6) rfl 23 (by decide) (mq f_X6_155) tyX6_ok nmX6 rfl ⟨rfl, rfl⟩ (by rfl) (by rfl) (by rfl) ?_
                      refine g_aload_n B dX6_next_311 rfl ?_
                      refine g_dup B dX6_next_312 rfl ?_
                      refine g_getI (T := TX6) (N := 42) B dX6_next_313 (by decide) (by rfl) (inq inlX6) rfl 20 (by decide) (mq f_X6_134) (by rfl) ?_
                      refine g_iconst (v := (1)) B dX6_next_316 (by decide) ?_
                      refine g_iadd B dX6_next_317 ?_
                      refine g_putI (T := TX6) (N := 42) B dX6_next_318 (by decide) (by rfl) (inq inlX6) rfl 20 (by decide) (mq f_X6_134) tyX6_ok nmX6 rfl ⟨rfl, rfl⟩ (by rfl) ?_
                      refine g_vreti B dX6_next_321 ?_
                      first
                        | (refine hK _ (by repeat (first | exact hk2 | refine pkx.up ?_ (by decide) | refine pkx.upL ?_)) ⟨by simp [upS_1, upS_2, e19, hqn], hq, Or.inl ⟨by rw [hbe]; exact hlt, by simp [upS_1, upS_2]⟩⟩)
                        | (rw [in_L] at c92
                           rw [in_D] at c145
                           first
                           | (have hS : isS b := by
                                first
                                  | exact Or.inl c255
                                  | exact Or.inr (Or.inl c261)
                                  | exact Or.inr (Or.inr (Or.inl c267))
                                  | exact Or.inr (Or.inr (Or.inr (Or.inl c273)))
                                  | exact Or.inr (Or.inr (Or.inr (Or.inr (Or.inl c279))))
                                  | exact Or.inr (Or.inr (Or.inr (Or.inr (Or.inr (Or.inl c285)))))
                                  | exact Or.inr (Or.inr (Or.inr (Or.inr (Or.inr (Or.inr (Or.inl c291))))))
                                  | exact Or.inr (Or.inr (Or.inr (Or.inr (Or.inr (Or.inr (Or.inr c297))))))
                              refine hK _ (by repeat (first | exact hk2 | refine pkx.up ?_ (by decide) | refine pkx.upL ?_)) ⟨by simp [upS_1, upS_2, upL_1, h20], hq, Or.inr (Or.inr (Or.inr (Or.inl ⟨by rw [hbe]; exact hge, by rw [hbe]; exact c92, by rw [hbe]; exact c145, by rw [hbe]; exact hS, by simp [upS_1, upS_2, upL_1], by rw [hbe]; rfl, ?_⟩)))⟩
                              simp only [upS_1, upS_2, upL_1, ne_eq, Nat.reduceEqDiff, not_false_eq_true, h20]
                              exact nI_1 q)
                           | (refine hK _ (by repeat (first | exact hk2 | refine pkx.up ?_ (by decide) | refine pkx.upL ?_)) ⟨by simp [upS_1, upS_2, h20], hq, Or.inr (Or.inr (Or.inr (Or.inr ⟨by rw [hbe]; exact hge, by rw [hbe]; exact c92, by rw [hbe]; exact c145, ?_, by simp [upS_1, upS_2]⟩)))⟩
                              rw [hbe]
                              rintro (h | h | h | h | h | h | h | h)
                              · exact c255 h
                              · exact c261 h
                              · exact c267 h
                              · exact c273 h
                              · exact c279 h
                              · exact c285 h
                              · exact c291 h
                              · exact c297 h))
                    · refine g_iload_n B dX6_next_294 rfl ?_
                      refine g_bipush (v := (61)) B dX6_next_295 (by decide) ?_
                      refine g_icmp_ne (tgt := 321) B dX6_next_297 (by decide) (fun c297 => ?_) (fun c297 => ?_)
                      · refine g_vreti B dX6_next_321 ?_
                        first
                          | (refine hK _ (by repeat (first | exact hk2 | refine pkx.up ?_ (by decide) | refine pkx.upL ?_)) ⟨by simp [upS_1, upS_2, e19, hqn], hq, Or.inl ⟨by rw [hbe]; exact hlt, by simp [upS_1, upS_2]⟩⟩)
                          | (rw [in_L] at c92
                             rw [in_D] at c145
                             first
                             | (have hS : isS b := by
                                  first
                                    | exact Or.inl c255
                                    | exact Or.inr (Or.inl c261)
                                    | exact Or.inr (Or.inr (Or.inl c267))
                                    | exact Or.inr (Or.inr (Or.inr (Or.inl c273)))
                                    | exact Or.inr (Or.inr (Or.inr (Or.inr (Or.inl c279))))
                                    | exact Or.inr (Or.inr (Or.inr (Or.inr (Or.inr (Or.inl c285)))))
                                    | exact Or.inr (Or.inr (Or.inr (Or.inr (Or.inr (Or.inr (Or.inl c291))))))
                                    | exact Or.inr (Or.inr (Or.inr (Or.inr (Or.inr (Or.inr (Or.inr c297))))))
                                refine hK _ (by repeat (first | exact hk2 | refine pkx.up ?_ (by decide) | refine pkx.upL ?_)) ⟨by simp [upS_1, upS_2, upL_1, h20], hq, Or.inr (Or.inr (Or.inr (Or.inl ⟨by rw [hbe]; exact hge, by rw [hbe]; exact c92, by rw [hbe]; exact c145, by rw [hbe]; exact hS, by simp [upS_1, upS_2, upL_1], by rw [hbe]; rfl, ?_⟩)))⟩
                                simp only [upS_1, upS_2, upL_1, ne_eq, Nat.reduceEqDiff, not_false_eq_true, h20]
                                exact nI_1 q)
                             | (refine hK _ (by repeat (first | exact hk2 | refine pkx.up ?_ (by decide) | refine pkx.upL ?_)) ⟨by simp [upS_1, upS_2, h20], hq, Or.inr (Or.inr (Or.inr (Or.inr ⟨by rw [hbe]; exact hge, by rw [hbe]; exact c92, by rw [hbe]; exact c145, ?_, by simp [upS_1, upS_2]⟩)))⟩
                                rw [hbe]
                                rintro (h | h | h | h | h | h | h | h)
                                · exact c255 h
                                · exact c261 h
                                · exact c267 h
                                · exact c273 h
                                · exact c279 h
                                · exact c285 h
                                · exact c291 h
                                · exact c297 h))
                      · refine g_aload_n B dX6_next_300 rfl ?_
                        refine g_iconst (v := (3)) B dX6_next_301 (by decide) ?_
                        refine g_putI (T := TX6) (N := 42) B dX6_next_302 (by decide) (by rfl) (inq inlX6) rfl 21 (by decide) (mq f_X6_144) tyX6_ok nmX6 rfl ⟨rfl, rfl⟩ (by rfl) ?_
                        refine g_aload_n B dX6_next_305 rfl ?_
                        refine g_iload_n B dX6_next_306 rfl ?_
                        refine g_i2l B dX6_next_307 rfl ?_
                        refine g_putL (T := TX6) (N := 42) B dX6_next_308 (by decide) (by rfl) (inq inlX6) rfl 23 (by decide) (mq f_X6_155) tyX6_ok nmX6 rfl ⟨rfl, rfl⟩ (by rfl) (by rfl) (by rfl) ?_
                        refine g_aload_n B dX6_next_311 rfl ?_
                        refine g_dup B dX6_next_312 rfl ?_
                        refine g_getI (T := TX6) (N := 42) B dX6_next_313 (by decide) (by rfl) (inq inlX6) rfl 20 (by decide) (mq f_X6_134) (by rfl) ?_
                        refine g_iconst (v := (1)) B dX6_next_316 (by decide) ?_
                        refine g_iadd B dX6_next_317 ?_
                        refine g_putI (T := TX6) (N := 42) B dX6_next_318 (by decide) (by rfl) (inq inlX6) rfl 20 (by decide) (mq f_X6_134) tyX6_ok nmX6 rfl ⟨rfl, rfl⟩ (by rfl) ?_
                        refine g_vreti B dX6_next_321 ?_
                        first
                          | (refine hK _ (by repeat (first | exact hk2 | refine pkx.up ?_ (by decide) | refine pkx.upL ?_)) ⟨by simp [upS_1, upS_2, e19, hqn], hq, Or.inl ⟨by rw [hbe]; exact hlt, by simp [upS_1, upS_2]⟩⟩)
                          | (rw [in_L] at c92
                             rw [in_D] at c145
                             first
                             | (have hS : isS b := by
                                  first
                                    | exact Or.inl c255
                                    | exact Or.inr (Or.inl c261)
                                    | exact Or.inr (Or.inr (Or.inl c267))
                                    | exact Or.inr (Or.inr (Or.inr (Or.inl c273)))
                                    | exact Or.inr (Or.inr (Or.inr (Or.inr (Or.inl c279))))
                                    | exact Or.inr (Or.inr (Or.inr (Or.inr (Or.inr (Or.inl c285)))))
                                    | exact Or.inr (Or.inr (Or.inr (Or.inr (Or.inr (Or.inr (Or.inl c291))))))
                                    | exact Or.inr (Or.inr (Or.inr (Or.inr (Or.inr (Or.inr (Or.inr c297))))))
                                refine hK _ (by repeat (first | exact hk2 | refine pkx.up ?_ (by decide) | refine pkx.upL ?_)) ⟨by simp [upS_1, upS_2, upL_1, h20], hq, Or.inr (Or.inr (Or.inr (Or.inl ⟨by rw [hbe]; exact hge, by rw [hbe]; exact c92, by rw [hbe]; exact c145, by rw [hbe]; exact hS, by simp [upS_1, upS_2, upL_1], by rw [hbe]; rfl, ?_⟩)))⟩
                                simp only [upS_1, upS_2, upL_1, ne_eq, Nat.reduceEqDiff, not_false_eq_true, h20]
                                exact nI_1 q)
                             | (refine hK _ (by repeat (first | exact hk2 | refine pkx.up ?_ (by decide) | refine pkx.upL ?_)) ⟨by simp [upS_1, upS_2, h20], hq, Or.inr (Or.inr (Or.inr (Or.inr ⟨by rw [hbe]; exact hge, by rw [hbe]; exact c92, by rw [hbe]; exact c145, ?_, by simp [upS_1, upS_2]⟩)))⟩
                                rw [hbe]
                                rintro (h | h | h | h | h | h | h | h)
                                · exact c255 h
                                · exact c261 h
                                · exact c267 h
                                · exact c273 h
                                · exact c279 h
                                · exact c285 h
                                · exact c291 h
                                · exact c297 h))
      · refine g_aload_n B dX6_next_148 rfl ?_
        refine g_iconst (v := (2)) B dX6_next_149 (by decide) ?_
        refine g_putI (T := TX6) (N := 42) B dX6_next_150 (by decide) (by rfl) (inq inlX6) rfl 21 (by decide) (mq f_X6_144) tyX6_ok nmX6 rfl ⟨rfl, rfl⟩ (by rfl) ?_
        refine g_aload_n B dX6_next_153 rfl ?_
        refine g_lconst (v := (0)) B dX6_next_154 (by decide) ?_
        refine g_putL (T := TX6) (N := 42) B dX6_next_155 (by decide) (by rfl) (inq inlX6) rfl 23 (by decide) (mq f_X6_155) tyX6_ok nmX6 rfl ⟨rfl, rfl⟩ (by rfl) (by rfl) (by rfl) ?_
        refine g_iconst (v := (0)) B dX6_next_158 (by decide) ?_
        refine g_istore_n B dX6_next_159 (by decide) rfl ?_
        rw [in_L] at c92
        rw [in_Dp] at c145
        refine nx_l3 (q := q) B hp hg (by repeat (first | exact hs1 | refine pkx.up ?_ (by decide) | refine pkx.upL ?_)) (fun τ' hk9 h9 ha hb9 => ?_) 200 0 _ (by omega) (by omega) pkx.rf (by simp [upS_1, upS_2, upL_1, h20]) rfl (fun j a b => by omega)
        refine hK τ' ((show pkx [20, 21, 22] τ _ from (by repeat (first | exact hk2 | refine pkx.up ?_ (by decide) | refine pkx.upL ?_))).trans (hk9.mono (by decide))) ⟨by rw [hk9.2.1 22 (by decide)]; simp [upS_1, upS_2, upL_1, h20], hq, Or.inr (Or.inr (Or.inl ⟨by rw [hbe]; exact hge, by rw [hbe]; exact c92, by rw [hbe]; exact c145, h9, ?_⟩))⟩
        rcases Nat.lt_or_ge 4 (spD (gM τ0 t n) 200 q - q) with r | r
        · exact Or.inr ⟨r, hb9 r⟩
        · exact Or.inl ⟨r, ha r⟩
    · refine g_aload_n B dX6_next_95 rfl ?_
      refine g_iconst (v := (1)) B dX6_next_96 (by decide) ?_
      refine g_putI (T := TX6) (N := 42) B dX6_next_97 (by decide) (by rfl) (inq inlX6) rfl 21 (by decide) (mq f_X6_144) tyX6_ok nmX6 rfl ⟨rfl, rfl⟩ (by rfl) ?_
      rw [in_Lp] at c92
      refine nx_l2 (q := q) B hp hg (by repeat (first | exact hs1 | refine pkx.up ?_ (by decide))) (fun τ' hk9 h9 => ?_) 200 q _ (Nat.le_refl _) hq (by omega) pkx.rf (by simp [upS_1, upS_2, h20]) (fun j a b => by omega)
      refine hK τ' ((show pkx [20, 21, 22] τ _ from (by repeat (first | exact hk2 | refine pkx.up ?_ (by decide) | refine pkx.upL ?_))).trans (hk9.mono (by decide))) ⟨by rw [hk9.2.1 22 (by decide)]; simp [upS_1, upS_2, h20], hq, Or.inr (Or.inl ⟨by rw [hbe]; exact hge, by rw [hbe]; exact c92, by rw [hk9.2.1 21 (by decide)]; simp [upS_1, upS_2], h9⟩)⟩
  · have hlt : b < 0 := Int32.not_le.mp c62
    have hqn : q = n := by
      have := hg.neg.mp (by rw [hbe]; exact hlt)
      omega
    refine g_aload_n B dX6_next_65 rfl ?_
    refine g_iconst (v := (0)) B dX6_next_66 (by decide) ?_
    refine g_putI (T := TX6) (N := 42) B dX6_next_67 (by decide) (by rfl) (inq inlX6) rfl 21 (by decide) (mq f_X6_144) tyX6_ok nmX6 rfl ⟨rfl, rfl⟩ (by rfl) ?_
    refine g_aload_n B dX6_next_70 rfl ?_
    refine g_aload_n B dX6_next_71 rfl ?_
    refine g_getI (T := TX6) (N := 42) B dX6_next_72 (by decide) (by rfl) (inq inlX6) rfl 19 (by decide) (mq f_X6_128) (by rfl) ?_
    refine g_putI (T := TX6) (N := 42) B dX6_next_75 (by decide) (by rfl) (inq inlX6) rfl 22 (by decide) (mq f_X6_141) tyX6_ok nmX6 rfl ⟨rfl, rfl⟩ (by rfl) ?_
    refine g_goto (tgt := 321) B dX6_next_78 (by decide) ?_
    refine g_vreti B dX6_next_321 ?_
    first
      | (refine hK _ (by repeat (first | exact hk2 | refine pkx.up ?_ (by decide) | refine pkx.upL ?_)) ⟨by simp [upS_1, upS_2, e19, hqn], hq, Or.inl ⟨by rw [hbe]; exact hlt, by simp [upS_1, upS_2]⟩⟩)
      | (rw [in_L] at c92
         rw [in_D] at c145
         first
         | (have hS : isS b := by
              first
                | exact Or.inl c255
                | exact Or.inr (Or.inl c261)
                | exact Or.inr (Or.inr (Or.inl c267))
                | exact Or.inr (Or.inr (Or.inr (Or.inl c273)))
                | exact Or.inr (Or.inr (Or.inr (Or.inr (Or.inl c279))))
                | exact Or.inr (Or.inr (Or.inr (Or.inr (Or.inr (Or.inl c285)))))
                | exact Or.inr (Or.inr (Or.inr (Or.inr (Or.inr (Or.inr (Or.inl c291))))))
                | exact Or.inr (Or.inr (Or.inr (Or.inr (Or.inr (Or.inr (Or.inr c297))))))
            refine hK _ (by repeat (first | exact hk2 | refine pkx.up ?_ (by decide) | refine pkx.upL ?_)) ⟨by simp [upS_1, upS_2, upL_1, h20], hq, Or.inr (Or.inr (Or.inr (Or.inl ⟨by rw [hbe]; exact hge, by rw [hbe]; exact c92, by rw [hbe]; exact c145, by rw [hbe]; exact hS, by simp [upS_1, upS_2, upL_1], by rw [hbe]; rfl, ?_⟩)))⟩
            simp only [upS_1, upS_2, upL_1, ne_eq, Nat.reduceEqDiff, not_false_eq_true, h20]
            exact nI_1 q)
         | (refine hK _ (by repeat (first | exact hk2 | refine pkx.up ?_ (by decide) | refine pkx.upL ?_)) ⟨by simp [upS_1, upS_2, h20], hq, Or.inr (Or.inr (Or.inr (Or.inr ⟨by rw [hbe]; exact hge, by rw [hbe]; exact c92, by rw [hbe]; exact c145, ?_, by simp [upS_1, upS_2]⟩)))⟩
            rw [hbe]
            rintro (h | h | h | h | h | h | h | h)
            · exact c255 h
            · exact c261 h
            · exact c267 h
            · exact c273 h
            · exact c279 h
            · exact c285 h
            · exact c291 h
            · exact c297 h))
set_option maxRecDepth 100000 in
set_option maxHeartbeats 4000000 in
/-- one more open: what 5 of them refuse, what fewer go on to -/
theorem c_opens5 {Z : LZ} {ad : Nat → Nat} {τ : St} {K : Int32 → St → Prop} (h5 : τ.1 0 24 = 5) (hK : K 0 (failS τ)) : CC lyM Z ad yX6_opens wsX6_opens (rmk 3) [.ref (ad 0)] τ (rI K) := by
  refine CC.of (cc := cX6_opens) (nL := 1) (ret := (some .boolean)) rfl rfl ⟨rfl, rfl⟩ (by exact Nat.le_of_ble_eq_true rfl) ?_
  intro X B
  change GG _ _ _ _ X _ 0 [some (.ref (ad 0))] [] _
  change Amb _ _ _ _ X _ _ RX6 _ _ at B
  refine g_aload_n B dX6_opens_0 rfl ?_
  refine g_getI (T := TX6) (N := 42) B dX6_opens_1 (by decide) (by rfl) (inq inlX6) rfl 24 (by decide) (mq f_X6_171) (by rfl) ?_
  refine g_iconst (v := (5)) B dX6_opens_4 (by decide) ?_
  refine g_icmp_ne (tgt := 14) B dX6_opens_5 (by decide) (fun c5 => ?_) (fun c5 => ?_)
  · exact absurd h5 c5
  · refine g_aload_n B dX6_opens_8 rfl ?_
    refine g_callVv (C := RX6) (As := []) B dX6_opens_9 (gc1 g_X6_174) (by rfl) ⟨rfl, hd_X6_fail⟩ (by exact ⟨Nat.le_of_ble_eq_true rfl, Nat.le_of_ble_eq_true rfl⟩) ⟨rfl, rfl⟩ rfl rfl (by exact Nat.le_of_ble_eq_true rfl) recvM (c_fail ?_)
    refine g_iconst (v := (0)) B dX6_opens_12 (by decide) ?_
    refine g_zreti B dX6_opens_13 (by first | rfl | exact b1_nar | assumption) ?_
    exact hK
set_option maxRecDepth 100000 in
set_option maxHeartbeats 4000000 in
theorem c_opens {Z : LZ} {ad : Nat → Nat} {τ0 τ : St} {K : Int32 → St → Prop} {t n h d : Nat} (hp : PT τ0 t n) (hg : gEnd (gM τ0 t n) n) (hs : pkx pS τ0 τ) (hh : τ.1 0 20 = nI h) (hh2 : h ≤ n) (hd : τ.1 0 24 = nI d) (hd2 : d < 5) (hK : ∀ τ', pkx [20, 21, 22, 24] τ τ' → τ'.1 0 24 = nI (d + 1) → AtT τ0 τ' t n (skp (gM τ0 t n) 200 h) → K 1 τ') : CC lyM Z ad yX6_opens wsX6_opens (rmk 3) [.ref (ad 0)] τ (rI K) := by
  refine CC.of (cc := cX6_opens) (nL := 1) (ret := (some .boolean)) rfl rfl ⟨rfl, rfl⟩ (by exact Nat.le_of_ble_eq_true rfl) ?_
  intro X B
  change GG _ _ _ _ X _ 0 [some (.ref (ad 0))] [] _
  change Amb _ _ _ _ X _ _ RX6 _ _ at B
  refine g_aload_n B dX6_opens_0 rfl ?_
  refine g_getI (T := TX6) (N := 42) B dX6_opens_1 (by decide) (by rfl) (inq inlX6) rfl 24 (by decide) (mq f_X6_171) (by rfl) ?_
  refine g_iconst (v := (5)) B dX6_opens_4 (by decide) ?_
  refine g_icmp_ne (tgt := 14) B dX6_opens_5 (by decide) (fun c5 => ?_) (fun c5 => ?_)
  · refine g_aload_n B dX6_opens_14 rfl ?_
    refine g_dup B dX6_opens_15 rfl ?_
    refine g_getI (T := TX6) (N := 42) B dX6_opens_16 (by decide) (by rfl) (inq inlX6) rfl 24 (by decide) (mq f_X6_171) (by rfl) ?_
    refine g_iconst (v := (1)) B dX6_opens_19 (by decide) ?_
    refine g_iadd B dX6_opens_20 ?_
    refine g_putI (T := TX6) (N := 42) B dX6_opens_21 (by decide) (by rfl) (inq inlX6) rfl 24 (by decide) (mq f_X6_171) tyX6_ok nmX6 rfl ⟨rfl, rfl⟩ (by rfl) ?_
    refine g_aload_n B dX6_opens_24 rfl ?_
    refine g_callVv (C := RX6) (As := []) B dX6_opens_25 (gc1 g_X6_177) (by rfl) ⟨rfl, hd_X6_next⟩ (by exact ⟨Nat.le_of_ble_eq_true rfl, Nat.le_of_ble_eq_true rfl⟩) ⟨rfl, rfl⟩ rfl rfl (by exact Nat.le_of_ble_eq_true rfl) recvM (c_next (h := h) hp hg (hs.up (by decide)) (by rw [upS_2 (by decide)]; exact hh) hh2 (fun τ' h1 h2 => ?_))
    refine g_iconst (v := (1)) B dX6_opens_28 (by decide) ?_
    refine g_zreti B dX6_opens_29 (by first | rfl | exact b1_nar | assumption) ?_
    refine hK τ' (((pkx.rf (ks := [20, 21, 22, 24])).up (by decide)).trans (h1.mono (by decide))) ?_ h2
    rw [h1.2.1 24 (by decide), upS_1, hd]
    exact nI_1 d
  · rw [hd] at c5
    exact absurd ((nI_eq (by omega) (by omega)).mp (show nI d = nI 5 from c5)) (by omega)

