/-! a text's part worked off *program* -/
/-- the stack's row holds these, the last on top -/
def SK (f : Nat → Int32) : List Int32 → Prop
  | [] => True
  | a :: r => f r.length = a ∧ SK f r
theorem SK.up {f : Nat → Int32} {k : Nat} {v : Int32} : ∀ {r : List Int32}, SK f r → r.length ≤ k → SK (va_up f k v) r
  | [], _, _ => trivial
  | a :: r, h, hk => by
    have hk' : r.length + 1 ≤ k := hk
    refine ⟨?_, SK.up h.2 (by omega)⟩
    show va_up f k v r.length = a
    unfold va_up
    rw [if_neg (by omega)]
    exact h.1
def CD (g : Nat → Int32) : Nat → List Int32 → Prop
  | _, [] => True
  | i, c :: cs => g i = c ∧ CD g (i + 1) cs
theorem ht_bin {c : Int32} {cs st : List Int32} (hb : c ≤ -11 ∧ -17 ≤ c) (h : htS (c :: cs) st.length = some 1) : ∃ b a r, st = b :: a :: r ∧ htS cs (r.length + 1) = some 1 := by
  have h1 : (ht1 c st.length).bind (htS cs) = some 1 := h
  unfold ht1 at h1
  rw [if_pos hb] at h1
  match st, h1 with
  | [], h1 => exact absurd h1 (by simp)
  | [_], h1 => exact absurd h1 (by simp)
  | b :: a :: r, h1 =>
    refine ⟨b, a, r, rfl, ?_⟩
    rw [if_pos (by simp)] at h1
    exact h1
theorem ht_un {c : Int32} {cs st : List Int32} (hb : ¬ (c ≤ -11 ∧ -17 ≤ c)) (hu : c = -21 ∨ c = -22) (h : htS (c :: cs) st.length = some 1) : ∃ a r, st = a :: r ∧ htS cs (r.length + 1) = some 1 := by
  have h1 : (ht1 c st.length).bind (htS cs) = some 1 := h
  unfold ht1 at h1
  rw [if_neg hb, if_pos hu] at h1
  match st, h1 with
  | [], h1 => exact absurd h1 (by simp)
  | a :: r, h1 =>
    refine ⟨a, r, rfl, ?_⟩
    rw [if_pos (by simp)] at h1
    exact h1
theorem ht_op {c : Int32} {cs st : List Int32} (hb : ¬ (c ≤ -11 ∧ -17 ≤ c)) (hu : ¬ (c = -21 ∨ c = -22)) (h : htS (c :: cs) st.length = some 1) : st.length < 40 ∧ htS cs (st.length + 1) = some 1 := by
  have h1 : (ht1 c st.length).bind (htS cs) = some 1 := h
  unfold ht1 at h1
  rw [if_neg hb, if_neg hu] at h1
  by_cases q : st.length < 40
  · rw [if_pos q] at h1
    exact ⟨q, h1⟩
  · rw [if_neg q] at h1
    cases h1
theorem envX_pz {τ τ' : St} {cs ks : List Nat} (h : pkz cs ks τ τ') (h2 : 2 ∉ cs) : envX τ' = envX τ := by
  unfold envX
  rw [h.1 2 (by decide) h2]
theorem stp_bin {env : Nat → Int32} {c a b : Int32} {r : List Int32} (hb : c ≤ -11 ∧ -17 ≤ c) : stp env c (b :: a :: r) = jn c a b :: r := by
  unfold stp
  rw [if_pos hb]
theorem stp_op {env : Nat → Int32} {c : Int32} {st : List Int32} (hb : ¬ (c ≤ -11 ∧ -17 ≤ c)) (hu : ¬ (c = -21 ∨ c = -22)) : stp env c st = opd env c :: st := by
  unfold stp
  rw [if_neg hb, if_neg (fun q => hu (Or.inl q)), if_neg (fun q => hu (Or.inr q))]
theorem stp_neg {env : Nat → Int32} {a : Int32} {r : List Int32} : stp env (-22) (a :: r) = (-a) :: r := rfl
theorem stp_not {env : Nat → Int32} {a : Int32} {r : List Int32} : stp env (-21) (a :: r) = (if a = 0 then 1 else 0) :: r := rfl
set_option maxRecDepth 100000 in
set_option maxHeartbeats 4000000 in
theorem l_vo9 {Z : LZ} {ad : Nat → Nat} {X : CX} {K : Int32 → St → Prop} {τ : St} {a x y e i : Int32} {r0 : Value} {w8 w9 : Option Value} (B : Amb lyX Z ad (rmk 1) X cX3_valueOf wsX3_valueOf RX3 10 (some .int)) (hS : SK (τ.1 3) [a]) (hK : K a τ) : GG lyX Z ad (rmk 1) X (rI K) 216 [some r0, some (.int x), some (.ref (ad 2)), some (.ref (ad 3)), some (.int y), some (.int e), some (.int 1), some (.int i), w8, w9] [] τ := by
  refine g_iload B dX3_valueOf_216 rfl ?_
  refine g_if_le (tgt := 230) B dX3_valueOf_218 (by decide) (fun c218 => ?_) (fun c218 => ?_)
  · exact absurd c218 (by decide)
  · refine g_aload_n B dX3_valueOf_221 rfl ?_
    refine g_iload B dX3_valueOf_222 rfl ?_
    refine g_iconst (v := (1)) B dX3_valueOf_224 (by decide) ?_
    refine g_isub B dX3_valueOf_225 ?_
    rw [show (1 : Int32) - 1 = nI 0 from rfl]
    refine g_iald B dX3_valueOf_226 (by decide) (by rfl) (by exact vp_in_nI (by omega) (by omega)) ?_
    rw [i_cl (by omega), show τ.1 3 0 = a from hS.1]
    refine g_goto (tgt := 231) B dX3_valueOf_227 (by decide) ?_
    refine g_ireti B dX3_valueOf_231 ?_
    exact hK
set_option maxRecDepth 100000 in
set_option maxHeartbeats 4000000 in
theorem l_valueOf {Z : LZ} {ad : Nat → Nat} {X : CX} {K : Int32 → St → Prop} {τ0 : St} {k e : Nat} {x y : Int32} (B : Amb lyX Z ad (rmk 1) X cX3_valueOf wsX3_valueOf RX3 10 (some .int)) (hk : k < 6) (he : e ≤ 160) : ∀ (ds : List Int32) (i : Nat) (st : List Int32) (τ : St), i + ds.length = e → CD (τ0.1 (k + 32)) i ds → SK (τ.1 3) st → st.length ≤ 40 → htS ds st.length = some 1 → pkz [3] [] τ0 τ → (∀ τ', pkz [3] [] τ0 τ' → K ((evS (envX τ0) ds st).headD 0) τ') → GG lyX Z ad (rmk 1) X (rI K) 51 [some (.ref (ad (k + 26))), some (.int x), some (.ref (ad 2)), some (.ref (ad 3)), some (.int y), some (.int (nI e)), some (.int (nI st.length)), some (.int (nI i)), none, none] [] τ := by
  intro ds
  induction ds with
  | nil =>
    intro i st τ hi hC hS hl hH hp hK
    have hi' : i = e := hi
    subst hi'
    have h1 : st.length = 1 := by
      have : some st.length = some 1 := hH
      injection this
    refine g_iload B dX3_valueOf_51 rfl ?_
    refine g_iload B dX3_valueOf_53 rfl ?_
    refine g_icmp_ge (tgt := 216) B dX3_valueOf_55 (by decide) (fun _ => ?_) (fun c => absurd ((nI_leI (by omega) (by omega)).mpr (Nat.le_refl i)) c)
    match st, h1, hS with
    | [a], _, hS =>
      exact l_vo9 B hS (hK τ hp)
  | cons c cs ih =>
    intro i st τ hi hC hS hl hH hp hK
    have hi' : i + (cs.length + 1) = e := hi
    have hci : (nI i).toNatClampNeg = i := i_cl (by omega)
    refine g_iload B dX3_valueOf_51 rfl ?_
    refine g_iload B dX3_valueOf_53 rfl ?_
    refine g_icmp_ge (tgt := 216) B dX3_valueOf_55 (by decide) (fun c55 => ?_) (fun c55 => ?_)
    · exact absurd ((nI_leI (by omega) (by omega)).mp c55) (by omega)
    · refine g_iload B dX3_valueOf_58 rfl ?_
      refine g_aload_n B dX3_valueOf_60 rfl ?_
      refine g_getR (T := TX3) (N := 3) B dX3_valueOf_61 (hX (by omega)) (lo_t hk) (inq inlX3) rfl 0 (by decide) (mq f_X3_9) (by rfl) ?_
      refine g_alen B dX3_valueOf_64 (hX (by omega)) (lo_c hk) rfl ?_
      refine g_icmp_ge (tgt := 216) B dX3_valueOf_65 (by decide) (fun c65 => ?_) (fun c65 => ?_)
      · exact absurd (i_le.mp c65) (by rw [i_n (by omega), show (Int32.ofNat 160).toInt = 160 from rfl]; omega)
      · refine g_aload_n B dX3_valueOf_68 rfl ?_
        refine g_getR (T := TX3) (N := 3) B dX3_valueOf_69 (hX (by omega)) (lo_t hk) (inq inlX3) rfl 0 (by decide) (mq f_X3_9) (by rfl) ?_
        refine g_iload B dX3_valueOf_72 rfl ?_
        refine g_iald B dX3_valueOf_74 (hX (by omega)) (lo_c hk) (by exact vp_in_nI (by omega) (by omega)) ?_
        rw [hci, hp.1 (k + 32) (by omega) (by simp), hC.1]
        refine g_istore B dX3_valueOf_75 (by decide) rfl ?_
        refine g_iload B dX3_valueOf_77 rfl ?_
        refine g_bipush (v := (-11)) B dX3_valueOf_79 (by decide) ?_
        refine g_icmp_gt (tgt := 126) B dX3_valueOf_81 (by decide) (fun c81 => ?_) (fun c81 => ?_)
        · have hb : ¬ (c ≤ -11 ∧ -17 ≤ c) := by
            intro q
            first
            | exact absurd q.1 (Int32.not_le.mpr c81)
            | exact absurd q.2 (Int32.not_le.mpr c88)
          refine g_iload B dX3_valueOf_126 rfl ?_
          refine g_bipush (v := (-21)) B dX3_valueOf_128 (by decide) ?_
          refine g_icmp_eq (tgt := 140) B dX3_valueOf_130 (by decide) (fun c130 => ?_) (fun c130 => ?_)
          · have hu : c = -21 ∨ c = -22 := by
              first
              | exact Or.inl c130
              | exact Or.inr c137
            obtain ⟨a, r, hst, h9⟩ := ht_un hb hu hH
            subst hst
            rw [show (a :: r).length = r.length + 1 from rfl] at hl ⊢
            have s1 : τ.1 3 r.length = a := hS.1
            refine g_iload B dX3_valueOf_140 rfl ?_
            refine g_iconst (v := (1)) B dX3_valueOf_142 (by decide) ?_
            refine g_icmp_ge (tgt := 148) B dX3_valueOf_143 (by decide) (fun c143 => ?_) (fun c143 => ?_)
            · refine g_aload_n B dX3_valueOf_148 rfl ?_
              refine g_iload B dX3_valueOf_149 rfl ?_
              refine g_iconst (v := (1)) B dX3_valueOf_151 (by decide) ?_
              refine g_isub B dX3_valueOf_152 ?_
              rw [show nI (r.length + 1) - 1 = nI r.length from pk_sub (b := 1) (by omega)]
              refine g_iald B dX3_valueOf_153 (by decide) (by rfl) (by exact vp_in_nI (n := r.length) (by omega) (by omega)) ?_
              rw [i_cl (by omega), s1]
              refine g_istore B dX3_valueOf_154 (by decide) rfl ?_
              refine g_aload_n B dX3_valueOf_156 rfl ?_
              refine g_iload B dX3_valueOf_157 rfl ?_
              refine g_iconst (v := (1)) B dX3_valueOf_159 (by decide) ?_
              refine g_isub B dX3_valueOf_160 ?_
              rw [show nI (r.length + 1) - 1 = nI r.length from pk_sub (b := 1) (by omega)]
              refine g_iload B dX3_valueOf_161 rfl ?_
              refine g_bipush (v := (-22)) B dX3_valueOf_163 (by decide) ?_
              refine g_icmp_ne (tgt := 174) B dX3_valueOf_165 (by decide) (fun c165 => ?_) (fun c165 => ?_)
              · refine g_iload B dX3_valueOf_174 rfl ?_
                refine g_if_ne (tgt := 183) B dX3_valueOf_176 (by decide) (fun c176 => ?_) (fun c176 => ?_)
                · refine g_iconst (v := (0)) B dX3_valueOf_183 (by decide) ?_
                  refine g_iast B dX3_valueOf_184 (by decide) (by rfl) (by exact vp_in_nI (n := r.length) (by omega) (by omega)) ?_
                  rw [i_cl (by omega)]
                  refine g_goto (tgt := 210) B dX3_valueOf_185 (by decide) ?_
                  skip
                  refine g_iinc (c9 := (1)) B dX3_valueOf_210 rfl (by decide) (by decide) rfl ?_
                  refine g_goto (tgt := 51) B dX3_valueOf_213 (by decide) ?_
                  rw [nI_1 i]
                  refine g_drop 8 (g_drop 9 ?_)
                  first
                    | (refine ih (i + 1) (jn c a b :: r) _ (by omega) hC.2 ⟨upS_1, ?_⟩ (by show r.length + 1 ≤ 40; omega) h9 (hp.upC (by decide) (by decide)) (fun τ' p => ?_)
                       · rw [upS_row]
                         exact SK.up hS.2.2 (Nat.le_refl _)
                       · have := hK τ' p
                         rw [show evS (envX τ0) (c :: cs) (b :: a :: r) = evS (envX τ0) cs (stp (envX τ0) c (b :: a :: r)) from rfl, stp_bin hb] at this
                         exact this)
                    | (have e : c = -22 := c165
                       refine ih (i + 1) ((-a) :: r) _ (by omega) hC.2 ⟨upS_1, ?_⟩ (by show r.length + 1 ≤ 40; omega) h9 (hp.upC (by decide) (by decide)) (fun τ' p => ?_)
                       · rw [upS_row]
                         exact SK.up hS.2 (Nat.le_refl _)
                       · have := hK τ' p
                         rw [show evS (envX τ0) (c :: cs) (a :: r) = evS (envX τ0) cs (stp (envX τ0) c (a :: r)) from rfl, e, stp_neg] at this
                         exact this)
                    | (have e : c = -21 := hu.resolve_right c165
                       have e1 : a = 0 := c176
                       refine ih (i + 1) (1 :: r) _ (by omega) hC.2 ⟨upS_1, ?_⟩ (by show r.length + 1 ≤ 40; omega) h9 (hp.upC (by decide) (by decide)) (fun τ' p => ?_)
                       · rw [upS_row]
                         exact SK.up hS.2 (Nat.le_refl _)
                       · have := hK τ' p
                         rw [show evS (envX τ0) (c :: cs) (a :: r) = evS (envX τ0) cs (stp (envX τ0) c (a :: r)) from rfl, e, stp_not, if_pos e1] at this
                         exact this)
                    | (have e : c = -21 := hu.resolve_right c165
                       have e1 : ¬ a = 0 := c176
                       refine ih (i + 1) (0 :: r) _ (by omega) hC.2 ⟨upS_1, ?_⟩ (by show r.length + 1 ≤ 40; omega) h9 (hp.upC (by decide) (by decide)) (fun τ' p => ?_)
                       · rw [upS_row]
                         exact SK.up hS.2 (Nat.le_refl _)
                       · have := hK τ' p
                         rw [show evS (envX τ0) (c :: cs) (a :: r) = evS (envX τ0) cs (stp (envX τ0) c (a :: r)) from rfl, e, stp_not, if_neg e1] at this
                         exact this)
                    | (rw [nI_1]
                       refine ih (i + 1) (opd (envX τ) c :: st) _ (by omega) hC.2 ⟨?_, ?_⟩ (by show st.length + 1 ≤ 40; omega) h9 (hp.upC (by decide) (by decide)) (fun τ' p => ?_)
                       · exact upS_1
                       · rw [upS_row]
                         exact hS.up (Nat.le_refl _)
                       · have := hK τ' p
                         rw [show evS (envX τ0) (c :: cs) st = evS (envX τ0) cs (stp (envX τ0) c st) from rfl, stp_op hb hu] at this
                         rw [envX_pz hp (by decide)]
                         exact this)
                · refine g_iconst (v := (1)) B dX3_valueOf_179 (by decide) ?_
                  refine g_goto (tgt := 184) B dX3_valueOf_180 (by decide) ?_
                  refine g_iast B dX3_valueOf_184 (by decide) (by rfl) (by exact vp_in_nI (n := r.length) (by omega) (by omega)) ?_
                  rw [i_cl (by omega)]
                  refine g_goto (tgt := 210) B dX3_valueOf_185 (by decide) ?_
                  skip
                  refine g_iinc (c9 := (1)) B dX3_valueOf_210 rfl (by decide) (by decide) rfl ?_
                  refine g_goto (tgt := 51) B dX3_valueOf_213 (by decide) ?_
                  rw [nI_1 i]
                  refine g_drop 8 (g_drop 9 ?_)
                  first
                    | (refine ih (i + 1) (jn c a b :: r) _ (by omega) hC.2 ⟨upS_1, ?_⟩ (by show r.length + 1 ≤ 40; omega) h9 (hp.upC (by decide) (by decide)) (fun τ' p => ?_)
                       · rw [upS_row]
                         exact SK.up hS.2.2 (Nat.le_refl _)
                       · have := hK τ' p
                         rw [show evS (envX τ0) (c :: cs) (b :: a :: r) = evS (envX τ0) cs (stp (envX τ0) c (b :: a :: r)) from rfl, stp_bin hb] at this
                         exact this)
                    | (have e : c = -22 := c165
                       refine ih (i + 1) ((-a) :: r) _ (by omega) hC.2 ⟨upS_1, ?_⟩ (by show r.length + 1 ≤ 40; omega) h9 (hp.upC (by decide) (by decide)) (fun τ' p => ?_)
                       · rw [upS_row]
                         exact SK.up hS.2 (Nat.le_refl _)
                       · have := hK τ' p
                         rw [show evS (envX τ0) (c :: cs) (a :: r) = evS (envX τ0) cs (stp (envX τ0) c (a :: r)) from rfl, e, stp_neg] at this
                         exact this)
                    | (have e : c = -21 := hu.resolve_right c165
                       have e1 : a = 0 := c176
                       refine ih (i + 1) (1 :: r) _ (by omega) hC.2 ⟨upS_1, ?_⟩ (by show r.length + 1 ≤ 40; omega) h9 (hp.upC (by decide) (by decide)) (fun τ' p => ?_)
                       · rw [upS_row]
                         exact SK.up hS.2 (Nat.le_refl _)
                       · have := hK τ' p
                         rw [show evS (envX τ0) (c :: cs) (a :: r) = evS (envX τ0) cs (stp (envX τ0) c (a :: r)) from rfl, e, stp_not, if_pos e1] at this
                         exact this)
                    | (have e : c = -21 := hu.resolve_right c165
                       have e1 : ¬ a = 0 := c176
                       refine ih (i + 1) (0 :: r) _ (by omega) hC.2 ⟨upS_1, ?_⟩ (by show r.length + 1 ≤ 40; omega) h9 (hp.upC (by decide) (by decide)) (fun τ' p => ?_)
                       · rw [upS_row]
                         exact SK.up hS.2 (Nat.le_refl _)
                       · have := hK τ' p
                         rw [show evS (envX τ0) (c :: cs) (a :: r) = evS (envX τ0) cs (stp (envX τ0) c (a :: r)) from rfl, e, stp_not, if_neg e1] at this
                         exact this)
                    | (rw [nI_1]
                       refine ih (i + 1) (opd (envX τ) c :: st) _ (by omega) hC.2 ⟨?_, ?_⟩ (by show st.length + 1 ≤ 40; omega) h9 (hp.upC (by decide) (by decide)) (fun τ' p => ?_)
                       · exact upS_1
                       · rw [upS_row]
                         exact hS.up (Nat.le_refl _)
                       · have := hK τ' p
                         rw [show evS (envX τ0) (c :: cs) st = evS (envX τ0) cs (stp (envX τ0) c st) from rfl, stp_op hb hu] at this
                         rw [envX_pz hp (by decide)]
                         exact this)
              · refine g_iload B dX3_valueOf_168 rfl ?_
                refine g_ineg B dX3_valueOf_170 ?_
                refine g_goto (tgt := 184) B dX3_valueOf_171 (by decide) ?_
                refine g_iast B dX3_valueOf_184 (by decide) (by rfl) (by exact vp_in_nI (n := r.length) (by omega) (by omega)) ?_
                rw [i_cl (by omega)]
                refine g_goto (tgt := 210) B dX3_valueOf_185 (by decide) ?_
                skip
                refine g_iinc (c9 := (1)) B dX3_valueOf_210 rfl (by decide) (by decide) rfl ?_
                refine g_goto (tgt := 51) B dX3_valueOf_213 (by decide) ?_
                rw [nI_1 i]
                refine g_drop 8 (g_drop 9 ?_)
                first
                  | (refine ih (i + 1) (jn c a b :: r) _ (by omega) hC.2 ⟨upS_1, ?_⟩ (by show r.length + 1 ≤ 40; omega) h9 (hp.upC (by decide) (by decide)) (fun τ' p => ?_)
                     · rw [upS_row]
                       exact SK.up hS.2.2 (Nat.le_refl _)
                     · have := hK τ' p
                       rw [show evS (envX τ0) (c :: cs) (b :: a :: r) = evS (envX τ0) cs (stp (envX τ0) c (b :: a :: r)) from rfl, stp_bin hb] at this
                       exact this)
                  | (have e : c = -22 := c165
                     refine ih (i + 1) ((-a) :: r) _ (by omega) hC.2 ⟨upS_1, ?_⟩ (by show r.length + 1 ≤ 40; omega) h9 (hp.upC (by decide) (by decide)) (fun τ' p => ?_)
                     · rw [upS_row]
                       exact SK.up hS.2 (Nat.le_refl _)
                     · have := hK τ' p
                       rw [show evS (envX τ0) (c :: cs) (a :: r) = evS (envX τ0) cs (stp (envX τ0) c (a :: r)) from rfl, e, stp_neg] at this
                       exact this)
                  | (have e : c = -21 := hu.resolve_right c165
                     have e1 : a = 0 := c176
                     refine ih (i + 1) (1 :: r) _ (by omega) hC.2 ⟨upS_1, ?_⟩ (by show r.length + 1 ≤ 40; omega) h9 (hp.upC (by decide) (by decide)) (fun τ' p => ?_)
                     · rw [upS_row]
                       exact SK.up hS.2 (Nat.le_refl _)
                     · have := hK τ' p
                       rw [show evS (envX τ0) (c :: cs) (a :: r) = evS (envX τ0) cs (stp (envX τ0) c (a :: r)) from rfl, e, stp_not, if_pos e1] at this
                       exact this)
                  | (have e : c = -21 := hu.resolve_right c165
                     have e1 : ¬ a = 0 := c176
                     refine ih (i + 1) (0 :: r) _ (by omega) hC.2 ⟨upS_1, ?_⟩ (by show r.length + 1 ≤ 40; omega) h9 (hp.upC (by decide) (by decide)) (fun τ' p => ?_)
                     · rw [upS_row]
                       exact SK.up hS.2 (Nat.le_refl _)
                     · have := hK τ' p
                       rw [show evS (envX τ0) (c :: cs) (a :: r) = evS (envX τ0) cs (stp (envX τ0) c (a :: r)) from rfl, e, stp_not, if_neg e1] at this
                       exact this)
                  | (rw [nI_1]
                     refine ih (i + 1) (opd (envX τ) c :: st) _ (by omega) hC.2 ⟨?_, ?_⟩ (by show st.length + 1 ≤ 40; omega) h9 (hp.upC (by decide) (by decide)) (fun τ' p => ?_)
                     · exact upS_1
                     · rw [upS_row]
                       exact hS.up (Nat.le_refl _)
                     · have := hK τ' p
                       rw [show evS (envX τ0) (c :: cs) st = evS (envX τ0) cs (stp (envX τ0) c st) from rfl, stp_op hb hu] at this
                       rw [envX_pz hp (by decide)]
                       exact this)
            · exact absurd (i_le.mpr (show (1 : Int32).toInt ≤ (nI (r.length + 1)).toInt by rw [i_n (by omega), i1]; omega)) c143
          · refine g_iload B dX3_valueOf_133 rfl ?_
            refine g_bipush (v := (-22)) B dX3_valueOf_135 (by decide) ?_
            refine g_icmp_ne (tgt := 188) B dX3_valueOf_137 (by decide) (fun c137 => ?_) (fun c137 => ?_)
            · have hu : ¬ (c = -21 ∨ c = -22) := fun q => q.elim c130 c137
              obtain ⟨hl40, h9⟩ := ht_op hb hu hH
              refine g_iload B dX3_valueOf_188 rfl ?_
              refine g_aload_n B dX3_valueOf_190 rfl ?_
              refine g_alen B dX3_valueOf_191 (by decide) (by rfl) rfl ?_
              refine g_icmp_lt (tgt := 197) B dX3_valueOf_192 (by decide) (fun c192 => ?_) (fun c192 => ?_)
              · refine g_aload_n B dX3_valueOf_197 rfl ?_
                refine g_iload B dX3_valueOf_198 rfl ?_
                refine g_iload B dX3_valueOf_200 rfl ?_
                refine g_aload_n B dX3_valueOf_202 rfl ?_
                refine g_callSi (As := [.int _, .ref _]) B dX3_valueOf_203 (gc1 g_X3_34) (by rfl) hd_X3_operand (by exact ⟨Nat.le_of_ble_eq_true rfl, Nat.le_of_ble_eq_true rfl⟩) ⟨rfl, rfl⟩ rfl rfl (by exact Nat.le_of_ble_eq_true rfl) (x_operand ?_)
                refine g_iast B dX3_valueOf_206 (by decide) (by rfl) (by exact vp_in_nI (n := st.length) (by omega) (by omega)) ?_
                rw [i_cl (by omega)]
                refine g_iinc (c9 := (1)) B dX3_valueOf_207 rfl (by decide) (by decide) rfl ?_
                skip
                refine g_iinc (c9 := (1)) B dX3_valueOf_210 rfl (by decide) (by decide) rfl ?_
                refine g_goto (tgt := 51) B dX3_valueOf_213 (by decide) ?_
                rw [nI_1 i]
                refine g_drop 8 (g_drop 9 ?_)
                first
                  | (refine ih (i + 1) (jn c a b :: r) _ (by omega) hC.2 ⟨upS_1, ?_⟩ (by show r.length + 1 ≤ 40; omega) h9 (hp.upC (by decide) (by decide)) (fun τ' p => ?_)
                     · rw [upS_row]
                       exact SK.up hS.2.2 (Nat.le_refl _)
                     · have := hK τ' p
                       rw [show evS (envX τ0) (c :: cs) (b :: a :: r) = evS (envX τ0) cs (stp (envX τ0) c (b :: a :: r)) from rfl, stp_bin hb] at this
                       exact this)
                  | (have e : c = -22 := c165
                     refine ih (i + 1) ((-a) :: r) _ (by omega) hC.2 ⟨upS_1, ?_⟩ (by show r.length + 1 ≤ 40; omega) h9 (hp.upC (by decide) (by decide)) (fun τ' p => ?_)
                     · rw [upS_row]
                       exact SK.up hS.2 (Nat.le_refl _)
                     · have := hK τ' p
                       rw [show evS (envX τ0) (c :: cs) (a :: r) = evS (envX τ0) cs (stp (envX τ0) c (a :: r)) from rfl, e, stp_neg] at this
                       exact this)
                  | (have e : c = -21 := hu.resolve_right c165
                     have e1 : a = 0 := c176
                     refine ih (i + 1) (1 :: r) _ (by omega) hC.2 ⟨upS_1, ?_⟩ (by show r.length + 1 ≤ 40; omega) h9 (hp.upC (by decide) (by decide)) (fun τ' p => ?_)
                     · rw [upS_row]
                       exact SK.up hS.2 (Nat.le_refl _)
                     · have := hK τ' p
                       rw [show evS (envX τ0) (c :: cs) (a :: r) = evS (envX τ0) cs (stp (envX τ0) c (a :: r)) from rfl, e, stp_not, if_pos e1] at this
                       exact this)
                  | (have e : c = -21 := hu.resolve_right c165
                     have e1 : ¬ a = 0 := c176
                     refine ih (i + 1) (0 :: r) _ (by omega) hC.2 ⟨upS_1, ?_⟩ (by show r.length + 1 ≤ 40; omega) h9 (hp.upC (by decide) (by decide)) (fun τ' p => ?_)
                     · rw [upS_row]
                       exact SK.up hS.2 (Nat.le_refl _)
                     · have := hK τ' p
                       rw [show evS (envX τ0) (c :: cs) (a :: r) = evS (envX τ0) cs (stp (envX τ0) c (a :: r)) from rfl, e, stp_not, if_neg e1] at this
                       exact this)
                  | (rw [nI_1]
                     refine ih (i + 1) (opd (envX τ) c :: st) _ (by omega) hC.2 ⟨?_, ?_⟩ (by show st.length + 1 ≤ 40; omega) h9 (hp.upC (by decide) (by decide)) (fun τ' p => ?_)
                     · exact upS_1
                     · rw [upS_row]
                       exact hS.up (Nat.le_refl _)
                     · have := hK τ' p
                       rw [show evS (envX τ0) (c :: cs) st = evS (envX τ0) cs (stp (envX τ0) c st) from rfl, stp_op hb hu] at this
                       rw [envX_pz hp (by decide)]
                       exact this)
              · exact absurd (i_lt.mpr (show (nI st.length).toInt < (Int32.ofNat 40).toInt by rw [i_n (by omega), show (Int32.ofNat 40).toInt = 40 from rfl]; omega)) c192
            · have hu : c = -21 ∨ c = -22 := by
                first
                | exact Or.inl c130
                | exact Or.inr c137
              obtain ⟨a, r, hst, h9⟩ := ht_un hb hu hH
              subst hst
              rw [show (a :: r).length = r.length + 1 from rfl] at hl ⊢
              have s1 : τ.1 3 r.length = a := hS.1
              refine g_iload B dX3_valueOf_140 rfl ?_
              refine g_iconst (v := (1)) B dX3_valueOf_142 (by decide) ?_
              refine g_icmp_ge (tgt := 148) B dX3_valueOf_143 (by decide) (fun c143 => ?_) (fun c143 => ?_)
              · refine g_aload_n B dX3_valueOf_148 rfl ?_
                refine g_iload B dX3_valueOf_149 rfl ?_
                refine g_iconst (v := (1)) B dX3_valueOf_151 (by decide) ?_
                refine g_isub B dX3_valueOf_152 ?_
                rw [show nI (r.length + 1) - 1 = nI r.length from pk_sub (b := 1) (by omega)]
                refine g_iald B dX3_valueOf_153 (by decide) (by rfl) (by exact vp_in_nI (n := r.length) (by omega) (by omega)) ?_
                rw [i_cl (by omega), s1]
                refine g_istore B dX3_valueOf_154 (by decide) rfl ?_
                refine g_aload_n B dX3_valueOf_156 rfl ?_
                refine g_iload B dX3_valueOf_157 rfl ?_
                refine g_iconst (v := (1)) B dX3_valueOf_159 (by decide) ?_
                refine g_isub B dX3_valueOf_160 ?_
                rw [show nI (r.length + 1) - 1 = nI r.length from pk_sub (b := 1) (by omega)]
                refine g_iload B dX3_valueOf_161 rfl ?_
                refine g_bipush (v := (-22)) B dX3_valueOf_163 (by decide) ?_
                refine g_icmp_ne (tgt := 174) B dX3_valueOf_165 (by decide) (fun c165 => ?_) (fun c165 => ?_)
                · refine g_iload B dX3_valueOf_174 rfl ?_
                  refine g_if_ne (tgt := 183) B dX3_valueOf_176 (by decide) (fun c176 => ?_) (fun c176 => ?_)
                  · refine g_iconst (v := (0)) B dX3_valueOf_183 (by decide) ?_
                    refine g_iast B dX3_valueOf_184 (by decide) (by rfl) (by exact vp_in_nI (n := r.length) (by omega) (by omega)) ?_
                    rw [i_cl (by omega)]
                    refine g_goto (tgt := 210) B dX3_valueOf_185 (by decide) ?_
                    skip
                    refine g_iinc (c9 := (1)) B dX3_valueOf_210 rfl (by decide) (by decide) rfl ?_
                    refine g_goto (tgt := 51) B dX3_valueOf_213 (by decide) ?_
                    rw [nI_1 i]
                    refine g_drop 8 (g_drop 9 ?_)
                    first
                      | (refine ih (i + 1) (jn c a b :: r) _ (by omega) hC.2 ⟨upS_1, ?_⟩ (by show r.length + 1 ≤ 40; omega) h9 (hp.upC (by decide) (by decide)) (fun τ' p => ?_)
                         · rw [upS_row]
                           exact SK.up hS.2.2 (Nat.le_refl _)
                         · have := hK τ' p
                           rw [show evS (envX τ0) (c :: cs) (b :: a :: r) = evS (envX τ0) cs (stp (envX τ0) c (b :: a :: r)) from rfl, stp_bin hb] at this
                           exact this)
                      | (have e : c = -22 := c165
                         refine ih (i + 1) ((-a) :: r) _ (by omega) hC.2 ⟨upS_1, ?_⟩ (by show r.length + 1 ≤ 40; omega) h9 (hp.upC (by decide) (by decide)) (fun τ' p => ?_)
                         · rw [upS_row]
                           exact SK.up hS.2 (Nat.le_refl _)
                         · have := hK τ' p
                           rw [show evS (envX τ0) (c :: cs) (a :: r) = evS (envX τ0) cs (stp (envX τ0) c (a :: r)) from rfl, e, stp_neg] at this
                           exact this)
                      | (have e : c = -21 := hu.resolve_right c165
                         have e1 : a = 0 := c176
                         refine ih (i + 1) (1 :: r) _ (by omega) hC.2 ⟨upS_1, ?_⟩ (by show r.length + 1 ≤ 40; omega) h9 (hp.upC (by decide) (by decide)) (fun τ' p => ?_)
                         · rw [upS_row]
                           exact SK.up hS.2 (Nat.le_refl _)
                         · have := hK τ' p
                           rw [show evS (envX τ0) (c :: cs) (a :: r) = evS (envX τ0) cs (stp (envX τ0) c (a :: r)) from rfl, e, stp_not, if_pos e1] at this
                           exact this)
                      | (have e : c = -21 := hu.resolve_right c165
                         have e1 : ¬ a = 0 := c176
                         refine ih (i + 1) (0 :: r) _ (by omega) hC.2 ⟨upS_1, ?_⟩ (by show r.length + 1 ≤ 40; omega) h9 (hp.upC (by decide) (by decide)) (fun τ' p => ?_)
                         · rw [upS_row]
                           exact SK.up hS.2 (Nat.le_refl _)
                         · have := hK τ' p
                           rw [show evS (envX τ0) (c :: cs) (a :: r) = evS (envX τ0) cs (stp (envX τ0) c (a :: r)) from rfl, e, stp_not, if_neg e1] at this
                           exact this)
                      | (rw [nI_1]
                         refine ih (i + 1) (opd (envX τ) c :: st) _ (by omega) hC.2 ⟨?_, ?_⟩ (by show st.length + 1 ≤ 40; omega) h9 (hp.upC (by decide) (by decide)) (fun τ' p => ?_)
                         · exact upS_1
                         · rw [upS_row]
                           exact hS.up (Nat.le_refl _)
                         · have := hK τ' p
                           rw [show evS (envX τ0) (c :: cs) st = evS (envX τ0) cs (stp (envX τ0) c st) from rfl, stp_op hb hu] at this
                           rw [envX_pz hp (by decide)]
                           exact this)
                  · refine g_iconst (v := (1)) B dX3_valueOf_179 (by decide) ?_
                    refine g_goto (tgt := 184) B dX3_valueOf_180 (by decide) ?_
                    refine g_iast B dX3_valueOf_184 (by decide) (by rfl) (by exact vp_in_nI (n := r.length) (by omega) (by omega)) ?_
                    rw [i_cl (by omega)]
                    refine g_goto (tgt := 210) B dX3_valueOf_185 (by decide) ?_
                    skip
                    refine g_iinc (c9 := (1)) B dX3_valueOf_210 rfl (by decide) (by decide) rfl ?_
                    refine g_goto (tgt := 51) B dX3_valueOf_213 (by decide) ?_
                    rw [nI_1 i]
                    refine g_drop 8 (g_drop 9 ?_)
                    first
                      | (refine ih (i + 1) (jn c a b :: r) _ (by omega) hC.2 ⟨upS_1, ?_⟩ (by show r.length + 1 ≤ 40; omega) h9 (hp.upC (by decide) (by decide)) (fun τ' p => ?_)
                         · rw [upS_row]
                           exact SK.up hS.2.2 (Nat.le_refl _)
                         · have := hK τ' p
                           rw [show evS (envX τ0) (c :: cs) (b :: a :: r) = evS (envX τ0) cs (stp (envX τ0) c (b :: a :: r)) from rfl, stp_bin hb] at this
                           exact this)
                      | (have e : c = -22 := c165
                         refine ih (i + 1) ((-a) :: r) _ (by omega) hC.2 ⟨upS_1, ?_⟩ (by show r.length + 1 ≤ 40; omega) h9 (hp.upC (by decide) (by decide)) (fun τ' p => ?_)
                         · rw [upS_row]
                           exact SK.up hS.2 (Nat.le_refl _)
                         · have := hK τ' p
                           rw [show evS (envX τ0) (c :: cs) (a :: r) = evS (envX τ0) cs (stp (envX τ0) c (a :: r)) from rfl, e, stp_neg] at this
                           exact this)
                      | (have e : c = -21 := hu.resolve_right c165
                         have e1 : a = 0 := c176
                         refine ih (i + 1) (1 :: r) _ (by omega) hC.2 ⟨upS_1, ?_⟩ (by show r.length + 1 ≤ 40; omega) h9 (hp.upC (by decide) (by decide)) (fun τ' p => ?_)
                         · rw [upS_row]
                           exact SK.up hS.2 (Nat.le_refl _)
                         · have := hK τ' p
                           rw [show evS (envX τ0) (c :: cs) (a :: r) = evS (envX τ0) cs (stp (envX τ0) c (a :: r)) from rfl, e, stp_not, if_pos e1] at this
                           exact this)
                      | (have e : c = -21 := hu.resolve_right c165
                         have e1 : ¬ a = 0 := c176
                         refine ih (i + 1) (0 :: r) _ (by omega) hC.2 ⟨upS_1, ?_⟩ (by show r.length + 1 ≤ 40; omega) h9 (hp.upC (by decide) (by decide)) (fun τ' p => ?_)
                         · rw [upS_row]
                           exact SK.up hS.2 (Nat.le_refl _)
                         · have := hK τ' p
                           rw [show evS (envX τ0) (c :: cs) (a :: r) = evS (envX τ0) cs (stp (envX τ0) c (a :: r)) from rfl, e, stp_not, if_neg e1] at this
                           exact this)
                      | (rw [nI_1]
                         refine ih (i + 1) (opd (envX τ) c :: st) _ (by omega) hC.2 ⟨?_, ?_⟩ (by show st.length + 1 ≤ 40; omega) h9 (hp.upC (by decide) (by decide)) (fun τ' p => ?_)
                         · exact upS_1
                         · rw [upS_row]
                           exact hS.up (Nat.le_refl _)
                         · have := hK τ' p
                           rw [show evS (envX τ0) (c :: cs) st = evS (envX τ0) cs (stp (envX τ0) c st) from rfl, stp_op hb hu] at this
                           rw [envX_pz hp (by decide)]
                           exact this)
                · refine g_iload B dX3_valueOf_168 rfl ?_
                  refine g_ineg B dX3_valueOf_170 ?_
                  refine g_goto (tgt := 184) B dX3_valueOf_171 (by decide) ?_
                  refine g_iast B dX3_valueOf_184 (by decide) (by rfl) (by exact vp_in_nI (n := r.length) (by omega) (by omega)) ?_
                  rw [i_cl (by omega)]
                  refine g_goto (tgt := 210) B dX3_valueOf_185 (by decide) ?_
                  skip
                  refine g_iinc (c9 := (1)) B dX3_valueOf_210 rfl (by decide) (by decide) rfl ?_
                  refine g_goto (tgt := 51) B dX3_valueOf_213 (by decide) ?_
                  rw [nI_1 i]
                  refine g_drop 8 (g_drop 9 ?_)
                  first
                    | (refine ih (i + 1) (jn c a b :: r) _ (by omega) hC.2 ⟨upS_1, ?_⟩ (by show r.length + 1 ≤ 40; omega) h9 (hp.upC (by decide) (by decide)) (fun τ' p => ?_)
                       · rw [upS_row]
                         exact SK.up hS.2.2 (Nat.le_refl _)
                       · have := hK τ' p
                         rw [show evS (envX τ0) (c :: cs) (b :: a :: r) = evS (envX τ0) cs (stp (envX τ0) c (b :: a :: r)) from rfl, stp_bin hb] at this
                         exact this)
                    | (have e : c = -22 := c165
                       refine ih (i + 1) ((-a) :: r) _ (by omega) hC.2 ⟨upS_1, ?_⟩ (by show r.length + 1 ≤ 40; omega) h9 (hp.upC (by decide) (by decide)) (fun τ' p => ?_)
                       · rw [upS_row]
                         exact SK.up hS.2 (Nat.le_refl _)
                       · have := hK τ' p
                         rw [show evS (envX τ0) (c :: cs) (a :: r) = evS (envX τ0) cs (stp (envX τ0) c (a :: r)) from rfl, e, stp_neg] at this
                         exact this)
                    | (have e : c = -21 := hu.resolve_right c165
                       have e1 : a = 0 := c176
                       refine ih (i + 1) (1 :: r) _ (by omega) hC.2 ⟨upS_1, ?_⟩ (by show r.length + 1 ≤ 40; omega) h9 (hp.upC (by decide) (by decide)) (fun τ' p => ?_)
                       · rw [upS_row]
                         exact SK.up hS.2 (Nat.le_refl _)
                       · have := hK τ' p
                         rw [show evS (envX τ0) (c :: cs) (a :: r) = evS (envX τ0) cs (stp (envX τ0) c (a :: r)) from rfl, e, stp_not, if_pos e1] at this
                         exact this)
                    | (have e : c = -21 := hu.resolve_right c165
                       have e1 : ¬ a = 0 := c176
                       refine ih (i + 1) (0 :: r) _ (by omega) hC.2 ⟨upS_1, ?_⟩ (by show r.length + 1 ≤ 40; omega) h9 (hp.upC (by decide) (by decide)) (fun τ' p => ?_)
                       · rw [upS_row]
                         exact SK.up hS.2 (Nat.le_refl _)
                       · have := hK τ' p
                         rw [show evS (envX τ0) (c :: cs) (a :: r) = evS (envX τ0) cs (stp (envX τ0) c (a :: r)) from rfl, e, stp_not, if_neg e1] at this
                         exact this)
                    | (rw [nI_1]
                       refine ih (i + 1) (opd (envX τ) c :: st) _ (by omega) hC.2 ⟨?_, ?_⟩ (by show st.length + 1 ≤ 40; omega) h9 (hp.upC (by decide) (by decide)) (fun τ' p => ?_)
                       · exact upS_1
                       · rw [upS_row]
                         exact hS.up (Nat.le_refl _)
                       · have := hK τ' p
                         rw [show evS (envX τ0) (c :: cs) st = evS (envX τ0) cs (stp (envX τ0) c st) from rfl, stp_op hb hu] at this
                         rw [envX_pz hp (by decide)]
                         exact this)
              · exact absurd (i_le.mpr (show (1 : Int32).toInt ≤ (nI (r.length + 1)).toInt by rw [i_n (by omega), i1]; omega)) c143
        · refine g_iload B dX3_valueOf_84 rfl ?_
          refine g_bipush (v := (-17)) B dX3_valueOf_86 (by decide) ?_
          refine g_icmp_lt (tgt := 126) B dX3_valueOf_88 (by decide) (fun c88 => ?_) (fun c88 => ?_)
          · have hb : ¬ (c ≤ -11 ∧ -17 ≤ c) := by
              intro q
              first
              | exact absurd q.1 (Int32.not_le.mpr c81)
              | exact absurd q.2 (Int32.not_le.mpr c88)
            refine g_iload B dX3_valueOf_126 rfl ?_
            refine g_bipush (v := (-21)) B dX3_valueOf_128 (by decide) ?_
            refine g_icmp_eq (tgt := 140) B dX3_valueOf_130 (by decide) (fun c130 => ?_) (fun c130 => ?_)
            · have hu : c = -21 ∨ c = -22 := by
                first
                | exact Or.inl c130
                | exact Or.inr c137
              obtain ⟨a, r, hst, h9⟩ := ht_un hb hu hH
              subst hst
              rw [show (a :: r).length = r.length + 1 from rfl] at hl ⊢
              have s1 : τ.1 3 r.length = a := hS.1
              refine g_iload B dX3_valueOf_140 rfl ?_
              refine g_iconst (v := (1)) B dX3_valueOf_142 (by decide) ?_
              refine g_icmp_ge (tgt := 148) B dX3_valueOf_143 (by decide) (fun c143 => ?_) (fun c143 => ?_)
              · refine g_aload_n B dX3_valueOf_148 rfl ?_
                refine g_iload B dX3_valueOf_149 rfl ?_
                refine g_iconst (v := (1)) B dX3_valueOf_151 (by decide) ?_
                refine g_isub B dX3_valueOf_152 ?_
                rw [show nI (r.length + 1) - 1 = nI r.length from pk_sub (b := 1) (by omega)]
                refine g_iald B dX3_valueOf_153 (by decide) (by rfl) (by exact vp_in_nI (n := r.length) (by omega) (by omega)) ?_
                rw [i_cl (by omega), s1]
                refine g_istore B dX3_valueOf_154 (by decide) rfl ?_
                refine g_aload_n B dX3_valueOf_156 rfl ?_
                refine g_iload B dX3_valueOf_157 rfl ?_
                refine g_iconst (v := (1)) B dX3_valueOf_159 (by decide) ?_
                refine g_isub B dX3_valueOf_160 ?_
                rw [show nI (r.length + 1) - 1 = nI r.length from pk_sub (b := 1) (by omega)]
                refine g_iload B dX3_valueOf_161 rfl ?_
                refine g_bipush (v := (-22)) B dX3_valueOf_163 (by decide) ?_
                refine g_icmp_ne (tgt := 174) B dX3_valueOf_165 (by decide) (fun c165 => ?_) (fun c165 => ?_)
                · refine g_iload B dX3_valueOf_174 rfl ?_
                  refine g_if_ne (tgt := 183) B dX3_valueOf_176 (by decide) (fun c176 => ?_) (fun c176 => ?_)
                  · refine g_iconst (v := (0)) B dX3_valueOf_183 (by decide) ?_
                    refine g_iast B dX3_valueOf_184 (by decide) (by rfl) (by exact vp_in_nI (n := r.length) (by omega) (by omega)) ?_
                    rw [i_cl (by omega)]
                    refine g_goto (tgt := 210) B dX3_valueOf_185 (by decide) ?_
                    skip
                    refine g_iinc (c9 := (1)) B dX3_valueOf_210 rfl (by decide) (by decide) rfl ?_
                    refine g_goto (tgt := 51) B dX3_valueOf_213 (by decide) ?_
                    rw [nI_1 i]
                    refine g_drop 8 (g_drop 9 ?_)
                    first
                      | (refine ih (i + 1) (jn c a b :: r) _ (by omega) hC.2 ⟨upS_1, ?_⟩ (by show r.length + 1 ≤ 40; omega) h9 (hp.upC (by decide) (by decide)) (fun τ' p => ?_)
                         · rw [upS_row]
                           exact SK.up hS.2.2 (Nat.le_refl _)
                         · have := hK τ' p
                           rw [show evS (envX τ0) (c :: cs) (b :: a :: r) = evS (envX τ0) cs (stp (envX τ0) c (b :: a :: r)) from rfl, stp_bin hb] at this
                           exact this)
                      | (have e : c = -22 := c165
                         refine ih (i + 1) ((-a) :: r) _ (by omega) hC.2 ⟨upS_1, ?_⟩ (by show r.length + 1 ≤ 40; omega) h9 (hp.upC (by decide) (by decide)) (fun τ' p => ?_)
                         · rw [upS_row]
                           exact SK.up hS.2 (Nat.le_refl _)
                         · have := hK τ' p
                           rw [show evS (envX τ0) (c :: cs) (a :: r) = evS (envX τ0) cs (stp (envX τ0) c (a :: r)) from rfl, e, stp_neg] at this
                           exact this)
                      | (have e : c = -21 := hu.resolve_right c165
                         have e1 : a = 0 := c176
                         refine ih (i + 1) (1 :: r) _ (by omega) hC.2 ⟨upS_1, ?_⟩ (by show r.length + 1 ≤ 40; omega) h9 (hp.upC (by decide) (by decide)) (fun τ' p => ?_)
                         · rw [upS_row]
                           exact SK.up hS.2 (Nat.le_refl _)
                         · have := hK τ' p
                           rw [show evS (envX τ0) (c :: cs) (a :: r) = evS (envX τ0) cs (stp (envX τ0) c (a :: r)) from rfl, e, stp_not, if_pos e1] at this
                           exact this)
                      | (have e : c = -21 := hu.resolve_right c165
                         have e1 : ¬ a = 0 := c176
                         refine ih (i + 1) (0 :: r) _ (by omega) hC.2 ⟨upS_1, ?_⟩ (by show r.length + 1 ≤ 40; omega) h9 (hp.upC (by decide) (by decide)) (fun τ' p => ?_)
                         · rw [upS_row]
                           exact SK.up hS.2 (Nat.le_refl _)
                         · have := hK τ' p
                           rw [show evS (envX τ0) (c :: cs) (a :: r) = evS (envX τ0) cs (stp (envX τ0) c (a :: r)) from rfl, e, stp_not, if_neg e1] at this
                           exact this)
                      | (rw [nI_1]
                         refine ih (i + 1) (opd (envX τ) c :: st) _ (by omega) hC.2 ⟨?_, ?_⟩ (by show st.length + 1 ≤ 40; omega) h9 (hp.upC (by decide) (by decide)) (fun τ' p => ?_)
                         · exact upS_1
                         · rw [upS_row]
                           exact hS.up (Nat.le_refl _)
                         · have := hK τ' p
                           rw [show evS (envX τ0) (c :: cs) st = evS (envX τ0) cs (stp (envX τ0) c st) from rfl, stp_op hb hu] at this
                           rw [envX_pz hp (by decide)]
                           exact this)
                  · refine g_iconst (v := (1)) B dX3_valueOf_179 (by decide) ?_
                    refine g_goto (tgt := 184) B dX3_valueOf_180 (by decide) ?_
                    refine g_iast B dX3_valueOf_184 (by decide) (by rfl) (by exact vp_in_nI (n := r.length) (by omega) (by omega)) ?_
                    rw [i_cl (by omega)]
                    refine g_goto (tgt := 210) B dX3_valueOf_185 (by decide) ?_
                    skip
                    refine g_iinc (c9 := (1)) B dX3_valueOf_210 rfl (by decide) (by decide) rfl ?_
                    refine g_goto (tgt := 51) B dX3_valueOf_213 (by decide) ?_
                    rw [nI_1 i]
                    refine g_drop 8 (g_drop 9 ?_)
                    first
                      | (refine ih (i + 1) (jn c a b :: r) _ (by omega) hC.2 ⟨upS_1, ?_⟩ (by show r.length + 1 ≤ 40; omega) h9 (hp.upC (by decide) (by decide)) (fun τ' p => ?_)
                         · rw [upS_row]
                           exact SK.up hS.2.2 (Nat.le_refl _)
                         · have := hK τ' p
                           rw [show evS (envX τ0) (c :: cs) (b :: a :: r) = evS (envX τ0) cs (stp (envX τ0) c (b :: a :: r)) from rfl, stp_bin hb] at this
                           exact this)
                      | (have e : c = -22 := c165
                         refine ih (i + 1) ((-a) :: r) _ (by omega) hC.2 ⟨upS_1, ?_⟩ (by show r.length + 1 ≤ 40; omega) h9 (hp.upC (by decide) (by decide)) (fun τ' p => ?_)
                         · rw [upS_row]
                           exact SK.up hS.2 (Nat.le_refl _)
                         · have := hK τ' p
                           rw [show evS (envX τ0) (c :: cs) (a :: r) = evS (envX τ0) cs (stp (envX τ0) c (a :: r)) from rfl, e, stp_neg] at this
                           exact this)
                      | (have e : c = -21 := hu.resolve_right c165
                         have e1 : a = 0 := c176
                         refine ih (i + 1) (1 :: r) _ (by omega) hC.2 ⟨upS_1, ?_⟩ (by show r.length + 1 ≤ 40; omega) h9 (hp.upC (by decide) (by decide)) (fun τ' p => ?_)
                         · rw [upS_row]
                           exact SK.up hS.2 (Nat.le_refl _)
                         · have := hK τ' p
                           rw [show evS (envX τ0) (c :: cs) (a :: r) = evS (envX τ0) cs (stp (envX τ0) c (a :: r)) from rfl, e, stp_not, if_pos e1] at this
                           exact this)
                      | (have e : c = -21 := hu.resolve_right c165
                         have e1 : ¬ a = 0 := c176
                         refine ih (i + 1) (0 :: r) _ (by omega) hC.2 ⟨upS_1, ?_⟩ (by show r.length + 1 ≤ 40; omega) h9 (hp.upC (by decide) (by decide)) (fun τ' p => ?_)
                         · rw [upS_row]
                           exact SK.up hS.2 (Nat.le_refl _)
                         · have := hK τ' p
                           rw [show evS (envX τ0) (c :: cs) (a :: r) = evS (envX τ0) cs (stp (envX τ0) c (a :: r)) from rfl, e, stp_not, if_neg e1] at this
                           exact this)
                      | (rw [nI_1]
                         refine ih (i + 1) (opd (envX τ) c :: st) _ (by omega) hC.2 ⟨?_, ?_⟩ (by show st.length + 1 ≤ 40; omega) h9 (hp.upC (by decide) (by decide)) (fun τ' p => ?_)
                         · exact upS_1
                         · rw [upS_row]
                           exact hS.up (Nat.le_refl _)
                         · have := hK τ' p
                           rw [show evS (envX τ0) (c :: cs) st = evS (envX τ0) cs (stp (envX τ0) c st) from rfl, stp_op hb hu] at this
                           rw [envX_pz hp (by decide)]
                           exact this)
                · refine g_iload B dX3_valueOf_168 rfl ?_
                  refine g_ineg B dX3_valueOf_170 ?_
                  refine g_goto (tgt := 184) B dX3_valueOf_171 (by decide) ?_
                  refine g_iast B dX3_valueOf_184 (by decide) (by rfl) (by exact vp_in_nI (n := r.length) (by omega) (by omega)) ?_
                  rw [i_cl (by omega)]
                  refine g_goto (tgt := 210) B dX3_valueOf_185 (by decide) ?_
                  skip
                  refine g_iinc (c9 := (1)) B dX3_valueOf_210 rfl (by decide) (by decide) rfl ?_
                  refine g_goto (tgt := 51) B dX3_valueOf_213 (by decide) ?_
                  rw [nI_1 i]
                  refine g_drop 8 (g_drop 9 ?_)
                  first
                    | (refine ih (i + 1) (jn c a b :: r) _ (by omega) hC.2 ⟨upS_1, ?_⟩ (by show r.length + 1 ≤ 40; omega) h9 (hp.upC (by decide) (by decide)) (fun τ' p => ?_)
                       · rw [upS_row]
                         exact SK.up hS.2.2 (Nat.le_refl _)
                       · have := hK τ' p
                         rw [show evS (envX τ0) (c :: cs) (b :: a :: r) = evS (envX τ0) cs (stp (envX τ0) c (b :: a :: r)) from rfl, stp_bin hb] at this
                         exact this)
                    | (have e : c = -22 := c165
                       refine ih (i + 1) ((-a) :: r) _ (by omega) hC.2 ⟨upS_1, ?_⟩ (by show r.length + 1 ≤ 40; omega) h9 (hp.upC (by decide) (by decide)) (fun τ' p => ?_)
                       · rw [upS_row]
                         exact SK.up hS.2 (Nat.le_refl _)
                       · have := hK τ' p
                         rw [show evS (envX τ0) (c :: cs) (a :: r) = evS (envX τ0) cs (stp (envX τ0) c (a :: r)) from rfl, e, stp_neg] at this
                         exact this)
                    | (have e : c = -21 := hu.resolve_right c165
                       have e1 : a = 0 := c176
                       refine ih (i + 1) (1 :: r) _ (by omega) hC.2 ⟨upS_1, ?_⟩ (by show r.length + 1 ≤ 40; omega) h9 (hp.upC (by decide) (by decide)) (fun τ' p => ?_)
                       · rw [upS_row]
                         exact SK.up hS.2 (Nat.le_refl _)
                       · have := hK τ' p
                         rw [show evS (envX τ0) (c :: cs) (a :: r) = evS (envX τ0) cs (stp (envX τ0) c (a :: r)) from rfl, e, stp_not, if_pos e1] at this
                         exact this)
                    | (have e : c = -21 := hu.resolve_right c165
                       have e1 : ¬ a = 0 := c176
                       refine ih (i + 1) (0 :: r) _ (by omega) hC.2 ⟨upS_1, ?_⟩ (by show r.length + 1 ≤ 40; omega) h9 (hp.upC (by decide) (by decide)) (fun τ' p => ?_)
                       · rw [upS_row]
                         exact SK.up hS.2 (Nat.le_refl _)
                       · have := hK τ' p
                         rw [show evS (envX τ0) (c :: cs) (a :: r) = evS (envX τ0) cs (stp (envX τ0) c (a :: r)) from rfl, e, stp_not, if_neg e1] at this
                         exact this)
                    | (rw [nI_1]
                       refine ih (i + 1) (opd (envX τ) c :: st) _ (by omega) hC.2 ⟨?_, ?_⟩ (by show st.length + 1 ≤ 40; omega) h9 (hp.upC (by decide) (by decide)) (fun τ' p => ?_)
                       · exact upS_1
                       · rw [upS_row]
                         exact hS.up (Nat.le_refl _)
                       · have := hK τ' p
                         rw [show evS (envX τ0) (c :: cs) st = evS (envX τ0) cs (stp (envX τ0) c st) from rfl, stp_op hb hu] at this
                         rw [envX_pz hp (by decide)]
                         exact this)
              · exact absurd (i_le.mpr (show (1 : Int32).toInt ≤ (nI (r.length + 1)).toInt by rw [i_n (by omega), i1]; omega)) c143
            · refine g_iload B dX3_valueOf_133 rfl ?_
              refine g_bipush (v := (-22)) B dX3_valueOf_135 (by decide) ?_
              refine g_icmp_ne (tgt := 188) B dX3_valueOf_137 (by decide) (fun c137 => ?_) (fun c137 => ?_)
              · have hu : ¬ (c = -21 ∨ c = -22) := fun q => q.elim c130 c137
                obtain ⟨hl40, h9⟩ := ht_op hb hu hH
                refine g_iload B dX3_valueOf_188 rfl ?_
                refine g_aload_n B dX3_valueOf_190 rfl ?_
                refine g_alen B dX3_valueOf_191 (by decide) (by rfl) rfl ?_
                refine g_icmp_lt (tgt := 197) B dX3_valueOf_192 (by decide) (fun c192 => ?_) (fun c192 => ?_)
                · refine g_aload_n B dX3_valueOf_197 rfl ?_
                  refine g_iload B dX3_valueOf_198 rfl ?_
                  refine g_iload B dX3_valueOf_200 rfl ?_
                  refine g_aload_n B dX3_valueOf_202 rfl ?_
                  refine g_callSi (As := [.int _, .ref _]) B dX3_valueOf_203 (gc1 g_X3_34) (by rfl) hd_X3_operand (by exact ⟨Nat.le_of_ble_eq_true rfl, Nat.le_of_ble_eq_true rfl⟩) ⟨rfl, rfl⟩ rfl rfl (by exact Nat.le_of_ble_eq_true rfl) (x_operand ?_)
                  refine g_iast B dX3_valueOf_206 (by decide) (by rfl) (by exact vp_in_nI (n := st.length) (by omega) (by omega)) ?_
                  rw [i_cl (by omega)]
                  refine g_iinc (c9 := (1)) B dX3_valueOf_207 rfl (by decide) (by decide) rfl ?_
                  skip
                  refine g_iinc (c9 := (1)) B dX3_valueOf_210 rfl (by decide) (by decide) rfl ?_
                  refine g_goto (tgt := 51) B dX3_valueOf_213 (by decide) ?_
                  rw [nI_1 i]
                  refine g_drop 8 (g_drop 9 ?_)
                  first
                    | (refine ih (i + 1) (jn c a b :: r) _ (by omega) hC.2 ⟨upS_1, ?_⟩ (by show r.length + 1 ≤ 40; omega) h9 (hp.upC (by decide) (by decide)) (fun τ' p => ?_)
                       · rw [upS_row]
                         exact SK.up hS.2.2 (Nat.le_refl _)
                       · have := hK τ' p
                         rw [show evS (envX τ0) (c :: cs) (b :: a :: r) = evS (envX τ0) cs (stp (envX τ0) c (b :: a :: r)) from rfl, stp_bin hb] at this
                         exact this)
                    | (have e : c = -22 := c165
                       refine ih (i + 1) ((-a) :: r) _ (by omega) hC.2 ⟨upS_1, ?_⟩ (by show r.length + 1 ≤ 40; omega) h9 (hp.upC (by decide) (by decide)) (fun τ' p => ?_)
                       · rw [upS_row]
                         exact SK.up hS.2 (Nat.le_refl _)
                       · have := hK τ' p
                         rw [show evS (envX τ0) (c :: cs) (a :: r) = evS (envX τ0) cs (stp (envX τ0) c (a :: r)) from rfl, e, stp_neg] at this
                         exact this)
                    | (have e : c = -21 := hu.resolve_right c165
                       have e1 : a = 0 := c176
                       refine ih (i + 1) (1 :: r) _ (by omega) hC.2 ⟨upS_1, ?_⟩ (by show r.length + 1 ≤ 40; omega) h9 (hp.upC (by decide) (by decide)) (fun τ' p => ?_)
                       · rw [upS_row]
                         exact SK.up hS.2 (Nat.le_refl _)
                       · have := hK τ' p
                         rw [show evS (envX τ0) (c :: cs) (a :: r) = evS (envX τ0) cs (stp (envX τ0) c (a :: r)) from rfl, e, stp_not, if_pos e1] at this
                         exact this)
                    | (have e : c = -21 := hu.resolve_right c165
                       have e1 : ¬ a = 0 := c176
                       refine ih (i + 1) (0 :: r) _ (by omega) hC.2 ⟨upS_1, ?_⟩ (by show r.length + 1 ≤ 40; omega) h9 (hp.upC (by decide) (by decide)) (fun τ' p => ?_)
                       · rw [upS_row]
                         exact SK.up hS.2 (Nat.le_refl _)
                       · have := hK τ' p
                         rw [show evS (envX τ0) (c :: cs) (a :: r) = evS (envX τ0) cs (stp (envX τ0) c (a :: r)) from rfl, e, stp_not, if_neg e1] at this
                         exact this)
                    | (rw [nI_1]
                       refine ih (i + 1) (opd (envX τ) c :: st) _ (by omega) hC.2 ⟨?_, ?_⟩ (by show st.length + 1 ≤ 40; omega) h9 (hp.upC (by decide) (by decide)) (fun τ' p => ?_)
                       · exact upS_1
                       · rw [upS_row]
                         exact hS.up (Nat.le_refl _)
                       · have := hK τ' p
                         rw [show evS (envX τ0) (c :: cs) st = evS (envX τ0) cs (stp (envX τ0) c st) from rfl, stp_op hb hu] at this
                         rw [envX_pz hp (by decide)]
                         exact this)
                · exact absurd (i_lt.mpr (show (nI st.length).toInt < (Int32.ofNat 40).toInt by rw [i_n (by omega), show (Int32.ofNat 40).toInt = 40 from rfl]; omega)) c192
              · have hu : c = -21 ∨ c = -22 := by
                  first
                  | exact Or.inl c130
                  | exact Or.inr c137
                obtain ⟨a, r, hst, h9⟩ := ht_un hb hu hH
                subst hst
                rw [show (a :: r).length = r.length + 1 from rfl] at hl ⊢
                have s1 : τ.1 3 r.length = a := hS.1
                refine g_iload B dX3_valueOf_140 rfl ?_
                refine g_iconst (v := (1)) B dX3_valueOf_142 (by decide) ?_
                refine g_icmp_ge (tgt := 148) B dX3_valueOf_143 (by decide) (fun c143 => ?_) (fun c143 => ?_)
                · refine g_aload_n B dX3_valueOf_148 rfl ?_
                  refine g_iload B dX3_valueOf_149 rfl ?_
                  refine g_iconst (v := (1)) B dX3_valueOf_151 (by decide) ?_
                  refine g_isub B dX3_valueOf_152 ?_
                  rw [show nI (r.length + 1) - 1 = nI r.length from pk_sub (b := 1) (by omega)]
                  refine g_iald B dX3_valueOf_153 (by decide) (by rfl) (by exact vp_in_nI (n := r.length) (by omega) (by omega)) ?_
                  rw [i_cl (by omega), s1]
                  refine g_istore B dX3_valueOf_154 (by decide) rfl ?_
                  refine g_aload_n B dX3_valueOf_156 rfl ?_
                  refine g_iload B dX3_valueOf_157 rfl ?_
                  refine g_iconst (v := (1)) B dX3_valueOf_159 (by decide) ?_
                  refine g_isub B dX3_valueOf_160 ?_
                  rw [show nI (r.length + 1) - 1 = nI r.length from pk_sub (b := 1) (by omega)]
                  refine g_iload B dX3_valueOf_161 rfl ?_
                  refine g_bipush (v := (-22)) B dX3_valueOf_163 (by decide) ?_
                  refine g_icmp_ne (tgt := 174) B dX3_valueOf_165 (by decide) (fun c165 => ?_) (fun c165 => ?_)
                  · refine g_iload B dX3_valueOf_174 rfl ?_
                    refine g_if_ne (tgt := 183) B dX3_valueOf_176 (by decide) (fun c176 => ?_) (fun c176 => ?_)
                    · refine g_iconst (v := (0)) B dX3_valueOf_183 (by decide) ?_
                      refine g_iast B dX3_valueOf_184 (by decide) (by rfl) (by exact vp_in_nI (n := r.length) (by omega) (by omega)) ?_
                      rw [i_cl (by omega)]
                      refine g_goto (tgt := 210) B dX3_valueOf_185 (by decide) ?_
                      skip
                      refine g_iinc (c9 := (1)) B dX3_valueOf_210 rfl (by decide) (by decide) rfl ?_
                      refine g_goto (tgt := 51) B dX3_valueOf_213 (by decide) ?_
                      rw [nI_1 i]
                      refine g_drop 8 (g_drop 9 ?_)
                      first
                        | (refine ih (i + 1) (jn c a b :: r) _ (by omega) hC.2 ⟨upS_1, ?_⟩ (by show r.length + 1 ≤ 40; omega) h9 (hp.upC (by decide) (by decide)) (fun τ' p => ?_)
                           · rw [upS_row]
                             exact SK.up hS.2.2 (Nat.le_refl _)
                           · have := hK τ' p
                             rw [show evS (envX τ0) (c :: cs) (b :: a :: r) = evS (envX τ0) cs (stp (envX τ0) c (b :: a :: r)) from rfl, stp_bin hb] at this
                             exact this)
                        | (have e : c = -22 := c165
                           refine ih (i + 1) ((-a) :: r) _ (by omega) hC.2 ⟨upS_1, ?_⟩ (by show r.length + 1 ≤ 40; omega) h9 (hp.upC (by decide) (by decide)) (fun τ' p => ?_)
                           · rw [upS_row]
                             exact SK.up hS.2 (Nat.le_refl _)
                           · have := hK τ' p
                             rw [show evS (envX τ0) (c :: cs) (a :: r) = evS (envX τ0) cs (stp (envX τ0) c (a :: r)) from rfl, e, stp_neg] at this
                             exact this)
                        | (have e : c = -21 := hu.resolve_right c165
                           have e1 : a = 0 := c176
                           refine ih (i + 1) (1 :: r) _ (by omega) hC.2 ⟨upS_1, ?_⟩ (by show r.length + 1 ≤ 40; omega) h9 (hp.upC (by decide) (by decide)) (fun τ' p => ?_)
                           · rw [upS_row]
                             exact SK.up hS.2 (Nat.le_refl _)
                           · have := hK τ' p
                             rw [show evS (envX τ0) (c :: cs) (a :: r) = evS (envX τ0) cs (stp (envX τ0) c (a :: r)) from rfl, e, stp_not, if_pos e1] at this
                             exact this)
                        | (have e : c = -21 := hu.resolve_right c165
                           have e1 : ¬ a = 0 := c176
                           refine ih (i + 1) (0 :: r) _ (by omega) hC.2 ⟨upS_1, ?_⟩ (by show r.length + 1 ≤ 40; omega) h9 (hp.upC (by decide) (by decide)) (fun τ' p => ?_)
                           · rw [upS_row]
                             exact SK.up hS.2 (Nat.le_refl _)
                           · have := hK τ' p
                             rw [show evS (envX τ0) (c :: cs) (a :: r) = evS (envX τ0) cs (stp (envX τ0) c (a :: r)) from rfl, e, stp_not, if_neg e1] at this
                             exact this)
                        | (rw [nI_1]
                           refine ih (i + 1) (opd (envX τ) c :: st) _ (by omega) hC.2 ⟨?_, ?_⟩ (by show st.length + 1 ≤ 40; omega) h9 (hp.upC (by decide) (by decide)) (fun τ' p => ?_)
                           · exact upS_1
                           · rw [upS_row]
                             exact hS.up (Nat.le_refl _)
                           · have := hK τ' p
                             rw [show evS (envX τ0) (c :: cs) st = evS (envX τ0) cs (stp (envX τ0) c st) from rfl, stp_op hb hu] at this
                             rw [envX_pz hp (by decide)]
                             exact this)
                    · refine g_iconst (v := (1)) B dX3_valueOf_179 (by decide) ?_
                      refine g_goto (tgt := 184) B dX3_valueOf_180 (by decide) ?_
                      refine g_iast B dX3_valueOf_184 (by decide) (by rfl) (by exact vp_in_nI (n := r.length) (by omega) (by omega)) ?_
                      rw [i_cl (by omega)]
                      refine g_goto (tgt := 210) B dX3_valueOf_185 (by decide) ?_
                      skip
                      refine g_iinc (c9 := (1)) B dX3_valueOf_210 rfl (by decide) (by decide) rfl ?_
                      refine g_goto (tgt := 51) B dX3_valueOf_213 (by decide) ?_
                      rw [nI_1 i]
                      refine g_drop 8 (g_drop 9 ?_)
                      first
                        | (refine ih (i + 1) (jn c a b :: r) _ (by omega) hC.2 ⟨upS_1, ?_⟩ (by show r.length + 1 ≤ 40; omega) h9 (hp.upC (by decide) (by decide)) (fun τ' p => ?_)
                           · rw [upS_row]
                             exact SK.up hS.2.2 (Nat.le_refl _)
                           · have := hK τ' p
                             rw [show evS (envX τ0) (c :: cs) (b :: a :: r) = evS (envX τ0) cs (stp (envX τ0) c (b :: a :: r)) from rfl, stp_bin hb] at this
                             exact this)
                        | (have e : c = -22 := c165
                           refine ih (i + 1) ((-a) :: r) _ (by omega) hC.2 ⟨upS_1, ?_⟩ (by show r.length + 1 ≤ 40; omega) h9 (hp.upC (by decide) (by decide)) (fun τ' p => ?_)
                           · rw [upS_row]
                             exact SK.up hS.2 (Nat.le_refl _)
                           · have := hK τ' p
                             rw [show evS (envX τ0) (c :: cs) (a :: r) = evS (envX τ0) cs (stp (envX τ0) c (a :: r)) from rfl, e, stp_neg] at this
                             exact this)
                        | (have e : c = -21 := hu.resolve_right c165
                           have e1 : a = 0 := c176
                           refine ih (i + 1) (1 :: r) _ (by omega) hC.2 ⟨upS_1, ?_⟩ (by show r.length + 1 ≤ 40; omega) h9 (hp.upC (by decide) (by decide)) (fun τ' p => ?_)
                           · rw [upS_row]
                             exact SK.up hS.2 (Nat.le_refl _)
                           · have := hK τ' p
                             rw [show evS (envX τ0) (c :: cs) (a :: r) = evS (envX τ0) cs (stp (envX τ0) c (a :: r)) from rfl, e, stp_not, if_pos e1] at this
                             exact this)
                        | (have e : c = -21 := hu.resolve_right c165
                           have e1 : ¬ a = 0 := c176
                           refine ih (i + 1) (0 :: r) _ (by omega) hC.2 ⟨upS_1, ?_⟩ (by show r.length + 1 ≤ 40; omega) h9 (hp.upC (by decide) (by decide)) (fun τ' p => ?_)
                           · rw [upS_row]
                             exact SK.up hS.2 (Nat.le_refl _)
                           · have := hK τ' p
                             rw [show evS (envX τ0) (c :: cs) (a :: r) = evS (envX τ0) cs (stp (envX τ0) c (a :: r)) from rfl, e, stp_not, if_neg e1] at this
                             exact this)
                        | (rw [nI_1]
                           refine ih (i + 1) (opd (envX τ) c :: st) _ (by omega) hC.2 ⟨?_, ?_⟩ (by show st.length + 1 ≤ 40; omega) h9 (hp.upC (by decide) (by decide)) (fun τ' p => ?_)
                           · exact upS_1
                           · rw [upS_row]
                             exact hS.up (Nat.le_refl _)
                           · have := hK τ' p
                             rw [show evS (envX τ0) (c :: cs) st = evS (envX τ0) cs (stp (envX τ0) c st) from rfl, stp_op hb hu] at this
                             rw [envX_pz hp (by decide)]
                             exact this)
                  · refine g_iload B dX3_valueOf_168 rfl ?_
                    refine g_ineg B dX3_valueOf_170 ?_
                    refine g_goto (tgt := 184) B dX3_valueOf_171 (by decide) ?_
                    refine g_iast B dX3_valueOf_184 (by decide) (by rfl) (by exact vp_in_nI (n := r.length) (by omega) (by omega)) ?_
                    rw [i_cl (by omega)]
                    refine g_goto (tgt := 210) B dX3_valueOf_185 (by decide) ?_
                    skip
                    refine g_iinc (c9 := (1)) B dX3_valueOf_210 rfl (by decide) (by decide) rfl ?_
                    refine g_goto (tgt := 51) B dX3_valueOf_213 (by decide) ?_
                    rw [nI_1 i]
                    refine g_drop 8 (g_drop 9 ?_)
                    first
                      | (refine ih (i + 1) (jn c a b :: r) _ (by omega) hC.2 ⟨upS_1, ?_⟩ (by show r.length + 1 ≤ 40; omega) h9 (hp.upC (by decide) (by decide)) (fun τ' p => ?_)
                         · rw [upS_row]
                           exact SK.up hS.2.2 (Nat.le_refl _)
                         · have := hK τ' p
                           rw [show evS (envX τ0) (c :: cs) (b :: a :: r) = evS (envX τ0) cs (stp (envX τ0) c (b :: a :: r)) from rfl, stp_bin hb] at this
                           exact this)
                      | (have e : c = -22 := c165
                         refine ih (i + 1) ((-a) :: r) _ (by omega) hC.2 ⟨upS_1, ?_⟩ (by show r.length + 1 ≤ 40; omega) h9 (hp.upC (by decide) (by decide)) (fun τ' p => ?_)
                         · rw [upS_row]
                           exact SK.up hS.2 (Nat.le_refl _)
                         · have := hK τ' p
                           rw [show evS (envX τ0) (c :: cs) (a :: r) = evS (envX τ0) cs (stp (envX τ0) c (a :: r)) from rfl, e, stp_neg] at this
                           exact this)
                      | (have e : c = -21 := hu.resolve_right c165
                         have e1 : a = 0 := c176
                         refine ih (i + 1) (1 :: r) _ (by omega) hC.2 ⟨upS_1, ?_⟩ (by show r.length + 1 ≤ 40; omega) h9 (hp.upC (by decide) (by decide)) (fun τ' p => ?_)
                         · rw [upS_row]
                           exact SK.up hS.2 (Nat.le_refl _)
                         · have := hK τ' p
                           rw [show evS (envX τ0) (c :: cs) (a :: r) = evS (envX τ0) cs (stp (envX τ0) c (a :: r)) from rfl, e, stp_not, if_pos e1] at this
                           exact this)
                      | (have e : c = -21 := hu.resolve_right c165
                         have e1 : ¬ a = 0 := c176
                         refine ih (i + 1) (0 :: r) _ (by omega) hC.2 ⟨upS_1, ?_⟩ (by show r.length + 1 ≤ 40; omega) h9 (hp.upC (by decide) (by decide)) (fun τ' p => ?_)
                         · rw [upS_row]
                           exact SK.up hS.2 (Nat.le_refl _)
                         · have := hK τ' p
                           rw [show evS (envX τ0) (c :: cs) (a :: r) = evS (envX τ0) cs (stp (envX τ0) c (a :: r)) from rfl, e, stp_not, if_neg e1] at this
                           exact this)
                      | (rw [nI_1]
                         refine ih (i + 1) (opd (envX τ) c :: st) _ (by omega) hC.2 ⟨?_, ?_⟩ (by show st.length + 1 ≤ 40; omega) h9 (hp.upC (by decide) (by decide)) (fun τ' p => ?_)
                         · exact upS_1
                         · rw [upS_row]
                           exact hS.up (Nat.le_refl _)
                         · have := hK τ' p
                           rw [show evS (envX τ0) (c :: cs) st = evS (envX τ0) cs (stp (envX τ0) c st) from rfl, stp_op hb hu] at this
                           rw [envX_pz hp (by decide)]
                           exact this)
                · exact absurd (i_le.mpr (show (1 : Int32).toInt ≤ (nI (r.length + 1)).toInt by rw [i_n (by omega), i1]; omega)) c143
          · have hb := And.intro (Int32.not_lt.mp c81) (Int32.not_lt.mp c88)
            obtain ⟨b, a, r, hst, h9⟩ := ht_bin hb hH
            subst hst
            rw [show (b :: a :: r).length = r.length + 2 from rfl] at hl ⊢
            have s1 : τ.1 3 (r.length + 1) = b := hS.1
            have s2 : τ.1 3 r.length = a := hS.2.1
            refine g_iload B dX3_valueOf_91 rfl ?_
            refine g_iconst (v := (2)) B dX3_valueOf_93 (by decide) ?_
            refine g_icmp_ge (tgt := 99) B dX3_valueOf_94 (by decide) (fun c94 => ?_) (fun c94 => ?_)
            · refine g_iinc (c9 := (-1)) B dX3_valueOf_99 rfl (by decide) (by decide) rfl ?_
              rw [show nI (r.length + 2) + (-1) = nI (r.length + 1) from pk_m1 (r.length + 1)]
              refine g_aload_n B dX3_valueOf_102 rfl ?_
              refine g_iload B dX3_valueOf_103 rfl ?_
              refine g_iconst (v := (1)) B dX3_valueOf_105 (by decide) ?_
              refine g_isub B dX3_valueOf_106 ?_
              rw [show nI (r.length + 1) - 1 = nI r.length from pk_sub (b := 1) (by omega)]
              refine g_iload B dX3_valueOf_107 rfl ?_
              refine g_aload_n B dX3_valueOf_109 rfl ?_
              refine g_iload B dX3_valueOf_110 rfl ?_
              refine g_iconst (v := (1)) B dX3_valueOf_112 (by decide) ?_
              refine g_isub B dX3_valueOf_113 ?_
              rw [show nI (r.length + 1) - 1 = nI r.length from pk_sub (b := 1) (by omega)]
              refine g_iald B dX3_valueOf_114 (by decide) (by rfl) (by exact vp_in_nI (n := r.length) (by omega) (by omega)) ?_
              rw [i_cl (by omega), s2]
              refine g_aload_n B dX3_valueOf_115 rfl ?_
              refine g_iload B dX3_valueOf_116 rfl ?_
              refine g_iald B dX3_valueOf_118 (by decide) (by rfl) (by exact vp_in_nI (n := r.length + 1) (by omega) (by omega)) ?_
              rw [i_cl (by omega), s1]
              refine g_callSi (As := [.int _, .int _, .int _]) B dX3_valueOf_119 (gc1 g_X3_30) (by rfl) hd_X3_joined (by exact ⟨Nat.le_of_ble_eq_true rfl, Nat.le_of_ble_eq_true rfl⟩) ⟨rfl, rfl⟩ rfl rfl (by exact Nat.le_of_ble_eq_true rfl) (x_joined hb ?_)
              refine g_iast B dX3_valueOf_122 (by decide) (by rfl) (by exact vp_in_nI (n := r.length) (by omega) (by omega)) ?_
              rw [i_cl (by omega)]
              refine g_goto (tgt := 210) B dX3_valueOf_123 (by decide) ?_
              skip
              refine g_iinc (c9 := (1)) B dX3_valueOf_210 rfl (by decide) (by decide) rfl ?_
              refine g_goto (tgt := 51) B dX3_valueOf_213 (by decide) ?_
              rw [nI_1 i]
              refine g_drop 8 (g_drop 9 ?_)
              first
                | (refine ih (i + 1) (jn c a b :: r) _ (by omega) hC.2 ⟨upS_1, ?_⟩ (by show r.length + 1 ≤ 40; omega) h9 (hp.upC (by decide) (by decide)) (fun τ' p => ?_)
                   · rw [upS_row]
                     exact SK.up hS.2.2 (Nat.le_refl _)
                   · have := hK τ' p
                     rw [show evS (envX τ0) (c :: cs) (b :: a :: r) = evS (envX τ0) cs (stp (envX τ0) c (b :: a :: r)) from rfl, stp_bin hb] at this
                     exact this)
                | (have e : c = -22 := c165
                   refine ih (i + 1) ((-a) :: r) _ (by omega) hC.2 ⟨upS_1, ?_⟩ (by show r.length + 1 ≤ 40; omega) h9 (hp.upC (by decide) (by decide)) (fun τ' p => ?_)
                   · rw [upS_row]
                     exact SK.up hS.2 (Nat.le_refl _)
                   · have := hK τ' p
                     rw [show evS (envX τ0) (c :: cs) (a :: r) = evS (envX τ0) cs (stp (envX τ0) c (a :: r)) from rfl, e, stp_neg] at this
                     exact this)
                | (have e : c = -21 := hu.resolve_right c165
                   have e1 : a = 0 := c176
                   refine ih (i + 1) (1 :: r) _ (by omega) hC.2 ⟨upS_1, ?_⟩ (by show r.length + 1 ≤ 40; omega) h9 (hp.upC (by decide) (by decide)) (fun τ' p => ?_)
                   · rw [upS_row]
                     exact SK.up hS.2 (Nat.le_refl _)
                   · have := hK τ' p
                     rw [show evS (envX τ0) (c :: cs) (a :: r) = evS (envX τ0) cs (stp (envX τ0) c (a :: r)) from rfl, e, stp_not, if_pos e1] at this
                     exact this)
                | (have e : c = -21 := hu.resolve_right c165
                   have e1 : ¬ a = 0 := c176
                   refine ih (i + 1) (0 :: r) _ (by omega) hC.2 ⟨upS_1, ?_⟩ (by show r.length + 1 ≤ 40; omega) h9 (hp.upC (by decide) (by decide)) (fun τ' p => ?_)
                   · rw [upS_row]
                     exact SK.up hS.2 (Nat.le_refl _)
                   · have := hK τ' p
                     rw [show evS (envX τ0) (c :: cs) (a :: r) = evS (envX τ0) cs (stp (envX τ0) c (a :: r)) from rfl, e, stp_not, if_neg e1] at this
                     exact this)
                | (rw [nI_1]
                   refine ih (i + 1) (opd (envX τ) c :: st) _ (by omega) hC.2 ⟨?_, ?_⟩ (by show st.length + 1 ≤ 40; omega) h9 (hp.upC (by decide) (by decide)) (fun τ' p => ?_)
                   · exact upS_1
                   · rw [upS_row]
                     exact hS.up (Nat.le_refl _)
                   · have := hK τ' p
                     rw [show evS (envX τ0) (c :: cs) st = evS (envX τ0) cs (stp (envX τ0) c st) from rfl, stp_op hb hu] at this
                     rw [envX_pz hp (by decide)]
                     exact this)
            · exact absurd (i_le.mpr (show (2 : Int32).toInt ≤ (nI (r.length + 2)).toInt by rw [i_n (by omega), i2]; omega)) c94

