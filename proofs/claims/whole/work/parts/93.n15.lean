/-! the law, case by case: the same call on both worlds, the answers are equal *by program* -/
theorem eN_true {X : CX} {A : Nat → Prop} : eN X (fun _ _ _ => True) A := by
  obtain ⟨p, e, s, m, args, below, meth, c, n⟩ := X
  trivial
abbrev tysL (cI cZ cU cT cS : ClassId) : List (ClassId × FieldType) := [(cI, .int), (cZ, .boolean), (cU, .object RX4), (cT, .object RX3), (cS, .object RX2)]
abbrev zL (l : Launch) (D : va_G) (cI cZ cU cT cS : ClassId) : NZ := (l, (D, (tysL cI cZ cU cT cS, EC)))
abbrev zS (l : Launch) (D : va_G) (cI cU cT cS : ClassId) (aK aV : Nat → Nat) (tb fm : Nat) : LZ := (l, (D, (arX cI cU cT cS, SX aK aV tb fm)))
abbrev zR (l : Launch) (D : va_G) (cI cZ : ClassId) : LZ := (l, (D, (arM cI cZ, fun _ _ _ => True)))
theorem zS_SI {l : Launch} {D : va_G} {cI cU cT cS : ClassId} {aK aV : Nat → Nat} {tb fm : Nat} : SI (zS l D cI cU cT cS aK aV tb fm) aK aV tb fm := fun _ _ _ h => h
abbrev lL (b0 : Nat) (adX adM : Nat → Nat) (i : Nat) : List (Option Value) := [some (.ref b0), some (.ref (adX 0)), some (.ref (adM 0)), some (.int (nI i))]
section LAWC
variable {l : Launch} {D : va_G} {cI cZ cU cT cS : ClassId} {aK aV : Nat → Nat} {tb fm : Nat} {X : CX} {A : Nat → Prop} {Q : State → Prop} {b0 N : Nat} {xs : Nat → Int32} {i : Nat} {adX adM : Nat → Nat} {a b : St} {T : Nat → TC} {m c r p : Nat}
theorem l_arg {st : List Value} {ws : va_W} {pc k : Nat} {z : Int} (B : AmbN (zL l D cI cZ cU cT cS) room_1 X A cL_law wsL_law RL 4) (hS : sN X b0 N xs A) (hi : i + 6 ≤ N) (hN : N ≤ 3072) (hk : k ≤ 5) (hz : Int32.ofInt z = nI k) (d0 : decode cL_law pc = .ok (.aload_n 0, 1)) (d1 : decode cL_law (pc + 1) = .ok (.iload_n 3, 1)) (d2 : decode cL_law (pc + 2) = .ok (.iconst z, 1)) (d3 : decode cL_law (pc + 3) = .ok (.iadd, 1)) (d4 : decode cL_law (pc + 4) = .ok (.iaload, 1)) (g : GN (zL l D cI cZ cU cT cS) room_1 X A Q 68 8948 (pc + 5) (lL b0 adX adM i) (.int (xs (i + k)) :: st) ws) : GN (zL l D cI cZ cU cT cS) room_1 X A Q 68 8948 pc (lL b0 adX adM i) st ws := by
  refine n_aload_n (k := 0) B d0 rfl ?_
  refine n_iload_n (k := 3) B d1 rfl ?_
  refine n_iconst B d2 hz ?_
  refine n_iadd B d3 ?_
  rw [nI_add]
  refine n_sald B hS d4 (vp_in_nI (by omega) (by omega)) ?_
  rw [show (nI (i + k)).toNatClampNeg = i + k from i_cl (by omega)]
  exact g
set_option maxRecDepth 100000 in
theorem L_set (B : AmbN (zL l D cI cZ cU cT cS) room_1 X A cL_law wsL_law RL 4) (hS : sN X b0 N xs A) (hi : i + 6 ≤ N) (hN : N ≤ 3072) (hX0 : eN X (SX aK aV tb fm) A) (hI : INV a T m c r p) (hR : REL a b T m c r p) (g : ∀ (a b : St) (T : Nat → TC) (m c r p : Nat), INV a T m c r p → REL a b T m c r p → GN (zL l D cI cZ cU cT cS) room_1 X A Q 68 8948 1026 (lL b0 adX adM i) [] (gws lyM (zR l D cI cZ) adM a ++ gws lyX (zS l D cI cU cT cS aK aV tb fm) adX b)) : GN (zL l D cI cZ cU cT cS) room_1 X A Q 68 8948 160 (lL b0 adX adM i) [] (gws lyM (zR l D cI cZ) adM a ++ gws lyX (zS l D cI cU cT cS aK aV tb fm) adX b) := by
  refine n_aload_n (k := 1) B dL_law_160 rfl ?_
  refine l_arg (k := 1) B hS hi hN (by decide) rfl dL_law_161 dL_law_162 dL_law_163 dL_law_164 dL_law_165 ?_
  refine l_arg (k := 2) B hS hi hN (by decide) rfl dL_law_166 dL_law_167 dL_law_168 dL_law_169 dL_law_170 ?_
  refine l_arg (k := 3) B hS hi hN (by decide) rfl dL_law_171 dL_law_172 dL_law_173 dL_law_174 dL_law_175 ?_
  refine n_call2i (C := RX5) (As := [.int (xs (i + 1)), .int (xs (i + 2)), .int (xs (i + 3))]) (o := 0) (Z9 := (zS l D cI cU cT cS aK aV tb fm)) (ly := lyX) (ad := adX) (τ := b) (wr := (gws lyM (zR l D cI cZ) adM a)) B ⟨rfl, rfl⟩ EOk_SX hX0 (fun U hU => gK_X rfl hU) dL_law_176 (gc0 g_L_13) rfl ⟨rfl, hd_X5_set⟩ (by exact ⟨Nat.le_of_ble_eq_true rfl, Nat.le_of_ble_eq_true rfl⟩) ⟨rfl, rfl⟩ rfl rfl (by exact Nat.le_of_ble_eq_true rfl) recv5 (by exact ⟨Nat.le_of_ble_eq_true rfl, Nat.le_of_ble_eq_true rfl⟩) (z_set hI hR (fun b2 hR2 => ?_))
  refine n_flip ?_
  refine n_aload_n (k := 2) B dL_law_179 rfl ?_
  refine l_arg (k := 1) B hS hi hN (by decide) rfl dL_law_180 dL_law_181 dL_law_182 dL_law_183 dL_law_184 ?_
  refine l_arg (k := 2) B hS hi hN (by decide) rfl dL_law_185 dL_law_186 dL_law_187 dL_law_188 dL_law_189 ?_
  refine l_arg (k := 3) B hS hi hN (by decide) rfl dL_law_190 dL_law_191 dL_law_192 dL_law_193 dL_law_194 ?_
  refine n_call2i (C := RX6) (As := [.int (xs (i + 1)), .int (xs (i + 2)), .int (xs (i + 3))]) (o := 0) (Z9 := (zR l D cI cZ)) (ly := lyM) (ad := adM) (τ := a) (wr := (gws lyX (zS l D cI cU cT cS aK aV tb fm) adX b2)) B ⟨rfl, rfl⟩ EOk_true eN_true (fun U hU => gK_M rfl hU) dL_law_195 (gc0 g_L_17) rfl ⟨rfl, hd_X6_set⟩ (by exact ⟨Nat.le_of_ble_eq_true rfl, Nat.le_of_ble_eq_true rfl⟩) ⟨rfl, rfl⟩ rfl rfl (by exact Nat.le_of_ble_eq_true rfl) recvM (by exact ⟨Nat.le_of_ble_eq_true rfl, Nat.le_of_ble_eq_true rfl⟩) (c_set hI.rul hI.1.1.1 hI.1.1.2 (fun a2 hs => ?_))
  refine n_flip ?_
  refine n_icmp_eq (tgt := 1026) B dL_law_198 (by decide) (fun _ => g _ _ _ _ _ _ _ ((INV_set hI).sg hs) (hR2.sg hs)) (fun h => absurd rfl h)
set_option maxRecDepth 100000 in
theorem L_user (B : AmbN (zL l D cI cZ cU cT cS) room_1 X A cL_law wsL_law RL 4) (hS : sN X b0 N xs A) (hi : i + 6 ≤ N) (hN : N ≤ 3072) (hX0 : eN X (SX aK aV tb fm) A) (hI : INV a T m c r p) (hR : REL a b T m c r p) (g : ∀ (a b : St) (T : Nat → TC) (m c r p : Nat), INV a T m c r p → REL a b T m c r p → GN (zL l D cI cZ cU cT cS) room_1 X A Q 68 8948 1026 (lL b0 adX adM i) [] (gws lyM (zR l D cI cZ) adM a ++ gws lyX (zS l D cI cU cT cS aK aV tb fm) adX b)) : GN (zL l D cI cZ cU cT cS) room_1 X A Q 68 8948 203 (lL b0 adX adM i) [] (gws lyM (zR l D cI cZ) adM a ++ gws lyX (zS l D cI cU cT cS aK aV tb fm) adX b) := by
  refine n_aload_n (k := 1) B dL_law_203 rfl ?_
  refine l_arg (k := 1) B hS hi hN (by decide) rfl dL_law_204 dL_law_205 dL_law_206 dL_law_207 dL_law_208 ?_
  refine l_arg (k := 2) B hS hi hN (by decide) rfl dL_law_209 dL_law_210 dL_law_211 dL_law_212 dL_law_213 ?_
  refine l_arg (k := 3) B hS hi hN (by decide) rfl dL_law_214 dL_law_215 dL_law_216 dL_law_217 dL_law_218 ?_
  refine n_call2i (C := RX5) (As := [.int (xs (i + 1)), .int (xs (i + 2)), .int (xs (i + 3))]) (o := 0) (Z9 := (zS l D cI cU cT cS aK aV tb fm)) (ly := lyX) (ad := adX) (τ := b) (wr := (gws lyM (zR l D cI cZ) adM a)) B ⟨rfl, rfl⟩ EOk_SX hX0 (fun U hU => gK_X rfl hU) dL_law_219 (gc0 g_L_18) rfl ⟨rfl, hd_X5_user⟩ (by exact ⟨Nat.le_of_ble_eq_true rfl, Nat.le_of_ble_eq_true rfl⟩) ⟨rfl, rfl⟩ rfl rfl (by exact Nat.le_of_ble_eq_true rfl) recv5 (by exact ⟨Nat.le_of_ble_eq_true rfl, Nat.le_of_ble_eq_true rfl⟩) (z_user hI.1.1.1 hI.1.2.1.2.1 hR (fun b2 hR2 => ?_))
  refine n_flip ?_
  refine n_aload_n (k := 2) B dL_law_222 rfl ?_
  refine l_arg (k := 1) B hS hi hN (by decide) rfl dL_law_223 dL_law_224 dL_law_225 dL_law_226 dL_law_227 ?_
  refine l_arg (k := 2) B hS hi hN (by decide) rfl dL_law_228 dL_law_229 dL_law_230 dL_law_231 dL_law_232 ?_
  refine l_arg (k := 3) B hS hi hN (by decide) rfl dL_law_233 dL_law_234 dL_law_235 dL_law_236 dL_law_237 ?_
  refine n_call2i (C := RX6) (As := [.int (xs (i + 1)), .int (xs (i + 2)), .int (xs (i + 3))]) (o := 0) (Z9 := (zR l D cI cZ)) (ly := lyM) (ad := adM) (τ := a) (wr := (gws lyX (zS l D cI cU cT cS aK aV tb fm) adX b2)) B ⟨rfl, rfl⟩ EOk_true eN_true (fun U hU => gK_M rfl hU) dL_law_238 (gc0 g_L_21) rfl ⟨rfl, hd_X6_user⟩ (by exact ⟨Nat.le_of_ble_eq_true rfl, Nat.le_of_ble_eq_true rfl⟩) ⟨rfl, rfl⟩ rfl rfl (by exact Nat.le_of_ble_eq_true rfl) recvM (by exact ⟨Nat.le_of_ble_eq_true rfl, Nat.le_of_ble_eq_true rfl⟩) (c_user hI.1.1.1 hI.1.1.2 ?_)
  refine n_flip ?_
  refine n_icmp_eq (tgt := 1026) B dL_law_241 (by decide) (fun _ => g _ _ _ _ _ _ _ (INV_user hI) (hR2)) (fun h => absurd rfl h)
set_option maxRecDepth 100000 in
theorem L_told (B : AmbN (zL l D cI cZ cU cT cS) room_1 X A cL_law wsL_law RL 4) (hS : sN X b0 N xs A) (hi : i + 6 ≤ N) (hN : N ≤ 3072) (hX0 : eN X (SX aK aV tb fm) A) (hI : INV a T m c r p) (hR : REL a b T m c r p) (g : ∀ (a b : St) (T : Nat → TC) (m c r p : Nat), INV a T m c r p → REL a b T m c r p → GN (zL l D cI cZ cU cT cS) room_1 X A Q 68 8948 1026 (lL b0 adX adM i) [] (gws lyM (zR l D cI cZ) adM a ++ gws lyX (zS l D cI cU cT cS aK aV tb fm) adX b)) : GN (zL l D cI cZ cU cT cS) room_1 X A Q 68 8948 246 (lL b0 adX adM i) [] (gws lyM (zR l D cI cZ) adM a ++ gws lyX (zS l D cI cU cT cS aK aV tb fm) adX b) := by
  refine n_aload_n (k := 1) B dL_law_246 rfl ?_
  refine l_arg (k := 1) B hS hi hN (by decide) rfl dL_law_247 dL_law_248 dL_law_249 dL_law_250 dL_law_251 ?_
  refine l_arg (k := 2) B hS hi hN (by decide) rfl dL_law_252 dL_law_253 dL_law_254 dL_law_255 dL_law_256 ?_
  refine n_call2i (C := RX5) (As := [.int (xs (i + 1)), .int (xs (i + 2))]) (o := 0) (Z9 := (zS l D cI cU cT cS aK aV tb fm)) (ly := lyX) (ad := adX) (τ := b) (wr := (gws lyM (zR l D cI cZ) adM a)) B ⟨rfl, rfl⟩ EOk_SX hX0 (fun U hU => gK_X rfl hU) dL_law_257 (gc0 g_L_22) rfl ⟨rfl, hd_X5_told⟩ (by exact ⟨Nat.le_of_ble_eq_true rfl, Nat.le_of_ble_eq_true rfl⟩) ⟨rfl, rfl⟩ rfl rfl (by exact Nat.le_of_ble_eq_true rfl) recv5 (by exact ⟨Nat.le_of_ble_eq_true rfl, Nat.le_of_ble_eq_true rfl⟩) (z_told hI hR (fun b2 hR2 => ?_))
  refine n_flip ?_
  refine n_aload_n (k := 2) B dL_law_260 rfl ?_
  refine l_arg (k := 1) B hS hi hN (by decide) rfl dL_law_261 dL_law_262 dL_law_263 dL_law_264 dL_law_265 ?_
  refine l_arg (k := 2) B hS hi hN (by decide) rfl dL_law_266 dL_law_267 dL_law_268 dL_law_269 dL_law_270 ?_
  refine n_call2i (C := RX6) (As := [.int (xs (i + 1)), .int (xs (i + 2))]) (o := 0) (Z9 := (zR l D cI cZ)) (ly := lyM) (ad := adM) (τ := a) (wr := (gws lyX (zS l D cI cU cT cS aK aV tb fm) adX b2)) B ⟨rfl, rfl⟩ EOk_true eN_true (fun U hU => gK_M rfl hU) dL_law_271 (gc0 g_L_26) rfl ⟨rfl, hd_X6_told⟩ (by exact ⟨Nat.le_of_ble_eq_true rfl, Nat.le_of_ble_eq_true rfl⟩) ⟨rfl, rfl⟩ rfl rfl (by exact Nat.le_of_ble_eq_true rfl) recvM (by exact ⟨Nat.le_of_ble_eq_true rfl, Nat.le_of_ble_eq_true rfl⟩) (c_told hI.rul hI.1.1.1 hI.1.1.2 (fun a2 hs => ?_))
  refine n_flip ?_
  refine n_icmp_eq (tgt := 1026) B dL_law_274 (by decide) (fun _ => g _ _ _ _ _ _ _ (hI.sg (sgx hs)) (hR2.sg (sgx hs))) (fun h => absurd rfl h)
set_option maxRecDepth 100000 in
theorem L_feed (B : AmbN (zL l D cI cZ cU cT cS) room_1 X A cL_law wsL_law RL 4) (hS : sN X b0 N xs A) (hi : i + 6 ≤ N) (hN : N ≤ 3072) (hX0 : eN X (SX aK aV tb fm) A) (hI : INV a T m c r p) (hR : REL a b T m c r p) (g : ∀ (a b : St) (T : Nat → TC) (m c r p : Nat), INV a T m c r p → REL a b T m c r p → GN (zL l D cI cZ cU cT cS) room_1 X A Q 68 8948 1026 (lL b0 adX adM i) [] (gws lyM (zR l D cI cZ) adM a ++ gws lyX (zS l D cI cU cT cS aK aV tb fm) adX b)) : GN (zL l D cI cZ cU cT cS) room_1 X A Q 68 8948 279 (lL b0 adX adM i) [] (gws lyM (zR l D cI cZ) adM a ++ gws lyX (zS l D cI cU cT cS aK aV tb fm) adX b) := by
  refine n_aload_n (k := 1) B dL_law_279 rfl ?_
  refine l_arg (k := 1) B hS hi hN (by decide) rfl dL_law_280 dL_law_281 dL_law_282 dL_law_283 dL_law_284 ?_
  refine n_call2i (C := RX5) (As := [.int (xs (i + 1))]) (o := 0) (Z9 := (zS l D cI cU cT cS aK aV tb fm)) (ly := lyX) (ad := adX) (τ := b) (wr := (gws lyM (zR l D cI cZ) adM a)) B ⟨rfl, rfl⟩ EOk_SX hX0 (fun U hU => gK_X rfl hU) dL_law_285 (gc0 g_L_27) rfl ⟨rfl, hd_X5_feed⟩ (by exact ⟨Nat.le_of_ble_eq_true rfl, Nat.le_of_ble_eq_true rfl⟩) ⟨rfl, rfl⟩ rfl rfl (by exact Nat.le_of_ble_eq_true rfl) recv5 (by exact ⟨Nat.le_of_ble_eq_true rfl, Nat.le_of_ble_eq_true rfl⟩) (z_feed hI hR (fun b2 hR2 => ?_))
  refine n_flip ?_
  refine n_aload_n (k := 2) B dL_law_288 rfl ?_
  refine l_arg (k := 1) B hS hi hN (by decide) rfl dL_law_289 dL_law_290 dL_law_291 dL_law_292 dL_law_293 ?_
  refine n_call2i (C := RX6) (As := [.int (xs (i + 1))]) (o := 0) (Z9 := (zR l D cI cZ)) (ly := lyM) (ad := adM) (τ := a) (wr := (gws lyX (zS l D cI cU cT cS aK aV tb fm) adX b2)) B ⟨rfl, rfl⟩ EOk_true eN_true (fun U hU => gK_M rfl hU) dL_law_294 (gc0 g_L_31) rfl ⟨rfl, hd_X6_feed⟩ (by exact ⟨Nat.le_of_ble_eq_true rfl, Nat.le_of_ble_eq_true rfl⟩) ⟨rfl, rfl⟩ rfl rfl (by exact Nat.le_of_ble_eq_true rfl) recvM (by exact ⟨Nat.le_of_ble_eq_true rfl, Nat.le_of_ble_eq_true rfl⟩) (c_feed hI.1.2.2.2.1 hI.1.2.2.2.2 ?_)
  refine n_flip ?_
  refine n_icmp_eq (tgt := 1026) B dL_law_297 (by decide) (fun _ => g _ _ _ _ _ _ _ (INV_feed hI) (hR2)) (fun h => absurd rfl h)
set_option maxRecDepth 100000 in
theorem L_text (B : AmbN (zL l D cI cZ cU cT cS) room_1 X A cL_law wsL_law RL 4) (hS : sN X b0 N xs A) (hi : i + 6 ≤ N) (hN : N ≤ 3072) (hX0 : eN X (SX aK aV tb fm) A) (hI : INV a T m c r p) (hR : REL a b T m c r p) (g : ∀ (a b : St) (T : Nat → TC) (m c r p : Nat), INV a T m c r p → REL a b T m c r p → GN (zL l D cI cZ cU cT cS) room_1 X A Q 68 8948 1026 (lL b0 adX adM i) [] (gws lyM (zR l D cI cZ) adM a ++ gws lyX (zS l D cI cU cT cS aK aV tb fm) adX b)) : GN (zL l D cI cZ cU cT cS) room_1 X A Q 68 8948 302 (lL b0 adX adM i) [] (gws lyM (zR l D cI cZ) adM a ++ gws lyX (zS l D cI cU cT cS aK aV tb fm) adX b) := by
  refine n_aload_n (k := 1) B dL_law_302 rfl ?_
  have rest : ∀ (T2 : Nat → TC) (c2 p2 : Nat) (b2 : St), INV (gText a c p) T2 m c2 r p2 → REL (gText a c p) b2 T2 m c2 r p2 → GN (zL l D cI cZ cU cT cS) room_1 X A Q 68 8948 306 (lL b0 adX adM i) [.int (fText a c p)] (gws lyM (zR l D cI cZ) adM a ++ gws lyX (zS l D cI cU cT cS aK aV tb fm) adX b2) := by
    intro T2 c2 p2 b2 hI2 hR2
    refine n_flip ?_
    refine n_aload_n (k := 2) B dL_law_306 rfl ?_
    refine n_call2i (C := RX6) (As := []) (o := 0) (Z9 := (zR l D cI cZ)) (ly := lyM) (ad := adM) (τ := a) (wr := (gws lyX (zS l D cI cU cT cS aK aV tb fm) adX b2)) B ⟨rfl, rfl⟩ EOk_true eN_true (fun U hU => gK_M rfl hU) dL_law_307 (gc0 g_L_36) rfl ⟨rfl, hd_X6_text⟩ (by exact ⟨Nat.le_of_ble_eq_true rfl, Nat.le_of_ble_eq_true rfl⟩) ⟨rfl, rfl⟩ rfl rfl (by exact Nat.le_of_ble_eq_true rfl) recvM (by exact ⟨Nat.le_of_ble_eq_true rfl, Nat.le_of_ble_eq_true rfl⟩) (c_text hI.1.2.1.2.2 hI.1.2.1.2.1 hI.1.2.2.2.2 hI.1.2.2.2.1 (fun j hj => ⟨(hI.2.1.2.2 j hj).1, by have := (hI.2.1.2.2 j hj).2; omega⟩) (fun a2 hs => ?_))
    refine n_flip ?_
    refine n_icmp_eq (tgt := 1026) B dL_law_310 (by decide) (fun _ => g _ _ _ _ _ _ _ (hI2.sg hs) (hR2.sg hs)) (fun h => absurd rfl h)
  refine n_call2i (C := RX5) (As := []) (o := 0) (Z9 := (zS l D cI cU cT cS aK aV tb fm)) (ly := lyX) (ad := adX) (τ := b) (wr := (gws lyM (zR l D cI cZ) adM a)) B ⟨rfl, rfl⟩ EOk_SX hX0 (fun U hU => gK_X rfl hU) dL_law_303 (gc0 g_L_32) rfl ⟨rfl, hd_X5_text⟩ (by exact ⟨Nat.le_of_ble_eq_true rfl, Nat.le_of_ble_eq_true rfl⟩) ⟨rfl, rfl⟩ rfl rfl (by exact Nat.le_of_ble_eq_true rfl) recv5 (by exact ⟨Nat.le_of_ble_eq_true rfl, Nat.le_of_ble_eq_true rfl⟩) (z_text zS_SI hI hR (fun h6 => ?_) (fun f h6 hf b2 hR2 => ?_) (fun C h6 hC b2 hR2 => ?_))
  · have e1 : fText a c p = -4 := by
      unfold fText
      exact if_pos h6
    have e2 : gText a c p = a := by
      unfold gText
      exact if_pos h6
    have q := rest T c p b (by rw [e2]; exact hI) (by rw [e2]; exact hR)
    rw [e1] at q
    exact q
  · have e1 : fText a c p = -100 - nI (lxS (bT a p) f) := by
      unfold fText
      rw [if_neg (by omega), hf]
    have e2 : gText a c p = gTx0 a c p := by
      unfold gText
      rw [if_neg (by omega), hf]
    have q := rest T c 0 b2 (by rw [e2]; exact INV_tx0 hI h6) (by rw [e2]; exact hR2)
    rw [e1] at q
    exact q
  · have e1 : fText a c p = nI c := by
      unfold fText
      rw [if_neg (by omega), hC]
    have e2 : gText a c p = upS (gTx0 a c p) 0 3 (nI (c + 1)) := by
      unfold gText
      rw [if_neg (by omega), hC]
    have q := rest _ (c + 1) 0 b2 (by rw [e2]; exact INV_txt hI h6 hC) (by rw [e2]; exact hR2)
    rw [e1] at q
    exact q
set_option maxRecDepth 100000 in
theorem L_force (B : AmbN (zL l D cI cZ cU cT cS) room_1 X A cL_law wsL_law RL 4) (hS : sN X b0 N xs A) (hi : i + 6 ≤ N) (hN : N ≤ 3072) (hX0 : eN X (SX aK aV tb fm) A) (hI : INV a T m c r p) (hR : REL a b T m c r p) (g : ∀ (a b : St) (T : Nat → TC) (m c r p : Nat), INV a T m c r p → REL a b T m c r p → GN (zL l D cI cZ cU cT cS) room_1 X A Q 68 8948 1026 (lL b0 adX adM i) [] (gws lyM (zR l D cI cZ) adM a ++ gws lyX (zS l D cI cU cT cS aK aV tb fm) adX b)) : GN (zL l D cI cZ cU cT cS) room_1 X A Q 68 8948 315 (lL b0 adX adM i) [] (gws lyM (zR l D cI cZ) adM a ++ gws lyX (zS l D cI cU cT cS aK aV tb fm) adX b) := by
  refine n_aload_n (k := 1) B dL_law_315 rfl ?_
  refine l_arg (k := 1) B hS hi hN (by decide) rfl dL_law_316 dL_law_317 dL_law_318 dL_law_319 dL_law_320 ?_
  refine n_call2i (C := RX5) (As := [.int (xs (i + 1))]) (o := 0) (Z9 := (zS l D cI cU cT cS aK aV tb fm)) (ly := lyX) (ad := adX) (τ := b) (wr := (gws lyM (zR l D cI cZ) adM a)) B ⟨rfl, rfl⟩ EOk_SX hX0 (fun U hU => gK_X rfl hU) dL_law_321 (gc0 g_L_37) rfl ⟨rfl, hd_X5_force⟩ (by exact ⟨Nat.le_of_ble_eq_true rfl, Nat.le_of_ble_eq_true rfl⟩) ⟨rfl, rfl⟩ rfl rfl (by exact Nat.le_of_ble_eq_true rfl) recv5 (by exact ⟨Nat.le_of_ble_eq_true rfl, Nat.le_of_ble_eq_true rfl⟩) (z_force hI hR (fun b2 hR2 => ?_))
  refine n_flip ?_
  refine n_aload_n (k := 2) B dL_law_324 rfl ?_
  refine l_arg (k := 1) B hS hi hN (by decide) rfl dL_law_325 dL_law_326 dL_law_327 dL_law_328 dL_law_329 ?_
  refine n_call2i (C := RX6) (As := [.int (xs (i + 1))]) (o := 0) (Z9 := (zR l D cI cZ)) (ly := lyM) (ad := adM) (τ := a) (wr := (gws lyX (zS l D cI cU cT cS aK aV tb fm) adX b2)) B ⟨rfl, rfl⟩ EOk_true eN_true (fun U hU => gK_M rfl hU) dL_law_330 (gc0 g_L_40) rfl ⟨rfl, hd_X6_force⟩ (by exact ⟨Nat.le_of_ble_eq_true rfl, Nat.le_of_ble_eq_true rfl⟩) ⟨rfl, rfl⟩ rfl rfl (by exact Nat.le_of_ble_eq_true rfl) recvM (by exact ⟨Nat.le_of_ble_eq_true rfl, Nat.le_of_ble_eq_true rfl⟩) (c_force hI.1.2.1.1 hI.1.2.1.2.1 hI.1.2.1.2.2 ?_)
  refine n_flip ?_
  refine n_icmp_eq (tgt := 1026) B dL_law_333 (by decide) (fun _ => g _ _ _ _ _ _ _ (INV_force hI) (hR2)) (fun h => absurd rfl h)
set_option maxRecDepth 100000 in
theorem L_has (B : AmbN (zL l D cI cZ cU cT cS) room_1 X A cL_law wsL_law RL 4) (hS : sN X b0 N xs A) (hi : i + 6 ≤ N) (hN : N ≤ 3072) (hX0 : eN X (SX aK aV tb fm) A) (hI : INV a T m c r p) (hR : REL a b T m c r p) (g : ∀ (a b : St) (T : Nat → TC) (m c r p : Nat), INV a T m c r p → REL a b T m c r p → GN (zL l D cI cZ cU cT cS) room_1 X A Q 68 8948 1026 (lL b0 adX adM i) [] (gws lyM (zR l D cI cZ) adM a ++ gws lyX (zS l D cI cU cT cS aK aV tb fm) adX b)) : GN (zL l D cI cZ cU cT cS) room_1 X A Q 68 8948 338 (lL b0 adX adM i) [] (gws lyM (zR l D cI cZ) adM a ++ gws lyX (zS l D cI cU cT cS aK aV tb fm) adX b) := by
  refine n_aload_n (k := 1) B dL_law_338 rfl ?_
  refine l_arg (k := 1) B hS hi hN (by decide) rfl dL_law_339 dL_law_340 dL_law_341 dL_law_342 dL_law_343 ?_
  refine l_arg (k := 2) B hS hi hN (by decide) rfl dL_law_344 dL_law_345 dL_law_346 dL_law_347 dL_law_348 ?_
  refine n_call2i (C := RX5) (As := [.int (xs (i + 1)), .int (xs (i + 2))]) (o := 0) (Z9 := (zS l D cI cU cT cS aK aV tb fm)) (ly := lyX) (ad := adX) (τ := b) (wr := (gws lyM (zR l D cI cZ) adM a)) B ⟨rfl, rfl⟩ EOk_SX hX0 (fun U hU => gK_X rfl hU) dL_law_349 (gc0 g_L_41) rfl ⟨rfl, hd_X5_has⟩ (by exact ⟨Nat.le_of_ble_eq_true rfl, Nat.le_of_ble_eq_true rfl⟩) ⟨rfl, rfl⟩ rfl rfl (by exact Nat.le_of_ble_eq_true rfl) recv5 (by exact ⟨Nat.le_of_ble_eq_true rfl, Nat.le_of_ble_eq_true rfl⟩) (z_has hI hR (fun b2 hR2 => ?_))
  refine n_flip ?_
  refine n_aload_n (k := 2) B dL_law_352 rfl ?_
  refine l_arg (k := 1) B hS hi hN (by decide) rfl dL_law_353 dL_law_354 dL_law_355 dL_law_356 dL_law_357 ?_
  refine l_arg (k := 2) B hS hi hN (by decide) rfl dL_law_358 dL_law_359 dL_law_360 dL_law_361 dL_law_362 ?_
  refine n_call2i (C := RX6) (As := [.int (xs (i + 1)), .int (xs (i + 2))]) (o := 0) (Z9 := (zR l D cI cZ)) (ly := lyM) (ad := adM) (τ := a) (wr := (gws lyX (zS l D cI cU cT cS aK aV tb fm) adX b2)) B ⟨rfl, rfl⟩ EOk_true eN_true (fun U hU => gK_M rfl hU) dL_law_363 (gc0 g_L_44) rfl ⟨rfl, hd_X6_has⟩ (by exact ⟨Nat.le_of_ble_eq_true rfl, Nat.le_of_ble_eq_true rfl⟩) ⟨rfl, rfl⟩ rfl rfl (by exact Nat.le_of_ble_eq_true rfl) recvM (by exact ⟨Nat.le_of_ble_eq_true rfl, Nat.le_of_ble_eq_true rfl⟩) (c_has hI.rul hI.1.1.1 hI.1.1.2 (fun a2 hs => ?_))
  refine n_flip ?_
  refine n_icmp_eq (tgt := 1026) B dL_law_366 (by decide) (fun _ => g _ _ _ _ _ _ _ (hI.sg (sgx hs)) (hR2.sg (sgx hs))) (fun h => absurd rfl h)
set_option maxRecDepth 100000 in
theorem L_worth (B : AmbN (zL l D cI cZ cU cT cS) room_1 X A cL_law wsL_law RL 4) (hS : sN X b0 N xs A) (hi : i + 6 ≤ N) (hN : N ≤ 3072) (hX0 : eN X (SX aK aV tb fm) A) (hI : INV a T m c r p) (hR : REL a b T m c r p) (g : ∀ (a b : St) (T : Nat → TC) (m c r p : Nat), INV a T m c r p → REL a b T m c r p → GN (zL l D cI cZ cU cT cS) room_1 X A Q 68 8948 1026 (lL b0 adX adM i) [] (gws lyM (zR l D cI cZ) adM a ++ gws lyX (zS l D cI cU cT cS aK aV tb fm) adX b)) : GN (zL l D cI cZ cU cT cS) room_1 X A Q 68 8948 371 (lL b0 adX adM i) [] (gws lyM (zR l D cI cZ) adM a ++ gws lyX (zS l D cI cU cT cS aK aV tb fm) adX b) := by
  refine n_aload_n (k := 1) B dL_law_371 rfl ?_
  refine l_arg (k := 1) B hS hi hN (by decide) rfl dL_law_372 dL_law_373 dL_law_374 dL_law_375 dL_law_376 ?_
  refine n_call2i (C := RX5) (As := [.int (xs (i + 1))]) (o := 0) (Z9 := (zS l D cI cU cT cS aK aV tb fm)) (ly := lyX) (ad := adX) (τ := b) (wr := (gws lyM (zR l D cI cZ) adM a)) B ⟨rfl, rfl⟩ EOk_SX hX0 (fun U hU => gK_X rfl hU) dL_law_377 (gc0 g_L_45) rfl ⟨rfl, hd_X5_worth⟩ (by exact ⟨Nat.le_of_ble_eq_true rfl, Nat.le_of_ble_eq_true rfl⟩) ⟨rfl, rfl⟩ rfl rfl (by exact Nat.le_of_ble_eq_true rfl) recv5 (by exact ⟨Nat.le_of_ble_eq_true rfl, Nat.le_of_ble_eq_true rfl⟩) (z_worth hI hR (fun b2 hR2 => ?_))
  refine n_flip ?_
  refine n_aload_n (k := 2) B dL_law_380 rfl ?_
  refine l_arg (k := 1) B hS hi hN (by decide) rfl dL_law_381 dL_law_382 dL_law_383 dL_law_384 dL_law_385 ?_
  refine n_call2i (C := RX6) (As := [.int (xs (i + 1))]) (o := 0) (Z9 := (zR l D cI cZ)) (ly := lyM) (ad := adM) (τ := a) (wr := (gws lyX (zS l D cI cU cT cS aK aV tb fm) adX b2)) B ⟨rfl, rfl⟩ EOk_true eN_true (fun U hU => gK_M rfl hU) dL_law_386 (gc0 g_L_48) rfl ⟨rfl, hd_X6_worth⟩ (by exact ⟨Nat.le_of_ble_eq_true rfl, Nat.le_of_ble_eq_true rfl⟩) ⟨rfl, rfl⟩ rfl rfl (by exact Nat.le_of_ble_eq_true rfl) recvM (by exact ⟨Nat.le_of_ble_eq_true rfl, Nat.le_of_ble_eq_true rfl⟩) (c_worth hI.rul hI.1.1.1 hI.1.1.2 (fun a2 hs => ?_))
  refine n_flip ?_
  refine n_icmp_eq (tgt := 1026) B dL_law_389 (by decide) (fun _ => g _ _ _ _ _ _ _ (hI.sg (sgx hs)) (hR2.sg (sgx hs))) (fun h => absurd rfl h)
set_option maxRecDepth 100000 in
theorem L_share (B : AmbN (zL l D cI cZ cU cT cS) room_1 X A cL_law wsL_law RL 4) (hS : sN X b0 N xs A) (hi : i + 6 ≤ N) (hN : N ≤ 3072) (hX0 : eN X (SX aK aV tb fm) A) (hI : INV a T m c r p) (hR : REL a b T m c r p) (g : ∀ (a b : St) (T : Nat → TC) (m c r p : Nat), INV a T m c r p → REL a b T m c r p → GN (zL l D cI cZ cU cT cS) room_1 X A Q 68 8948 1026 (lL b0 adX adM i) [] (gws lyM (zR l D cI cZ) adM a ++ gws lyX (zS l D cI cU cT cS aK aV tb fm) adX b)) : GN (zL l D cI cZ cU cT cS) room_1 X A Q 68 8948 394 (lL b0 adX adM i) [] (gws lyM (zR l D cI cZ) adM a ++ gws lyX (zS l D cI cU cT cS aK aV tb fm) adX b) := by
  refine n_aload_n (k := 1) B dL_law_394 rfl ?_
  refine l_arg (k := 1) B hS hi hN (by decide) rfl dL_law_395 dL_law_396 dL_law_397 dL_law_398 dL_law_399 ?_
  refine n_call2i (C := RX5) (As := [.int (xs (i + 1))]) (o := 0) (Z9 := (zS l D cI cU cT cS aK aV tb fm)) (ly := lyX) (ad := adX) (τ := b) (wr := (gws lyM (zR l D cI cZ) adM a)) B ⟨rfl, rfl⟩ EOk_SX hX0 (fun U hU => gK_X rfl hU) dL_law_400 (gc0 g_L_49) rfl ⟨rfl, hd_X5_share⟩ (by exact ⟨Nat.le_of_ble_eq_true rfl, Nat.le_of_ble_eq_true rfl⟩) ⟨rfl, rfl⟩ rfl rfl (by exact Nat.le_of_ble_eq_true rfl) recv5 (by exact ⟨Nat.le_of_ble_eq_true rfl, Nat.le_of_ble_eq_true rfl⟩) (z_share hI hR (fun b2 hR2 => ?_))
  refine n_flip ?_
  refine n_aload_n (k := 2) B dL_law_403 rfl ?_
  refine l_arg (k := 1) B hS hi hN (by decide) rfl dL_law_404 dL_law_405 dL_law_406 dL_law_407 dL_law_408 ?_
  refine n_call2i (C := RX6) (As := [.int (xs (i + 1))]) (o := 0) (Z9 := (zR l D cI cZ)) (ly := lyM) (ad := adM) (τ := a) (wr := (gws lyX (zS l D cI cU cT cS aK aV tb fm) adX b2)) B ⟨rfl, rfl⟩ EOk_true eN_true (fun U hU => gK_M rfl hU) dL_law_409 (gc0 g_L_52) rfl ⟨rfl, hd_X6_share⟩ (by exact ⟨Nat.le_of_ble_eq_true rfl, Nat.le_of_ble_eq_true rfl⟩) ⟨rfl, rfl⟩ rfl rfl (by exact Nat.le_of_ble_eq_true rfl) recvM (by exact ⟨Nat.le_of_ble_eq_true rfl, Nat.le_of_ble_eq_true rfl⟩) (c_share hI.rul (fun a2 hs => ?_))
  refine n_flip ?_
  refine n_icmp_eq (tgt := 1026) B dL_law_412 (by decide) (fun _ => g _ _ _ _ _ _ _ (hI.sg (sgx hs)) (hR2.sg (sgx hs))) (fun h => absurd rfl h)
set_option maxRecDepth 100000 in
theorem L_mean (B : AmbN (zL l D cI cZ cU cT cS) room_1 X A cL_law wsL_law RL 4) (hS : sN X b0 N xs A) (hi : i + 6 ≤ N) (hN : N ≤ 3072) (hX0 : eN X (SX aK aV tb fm) A) (hI : INV a T m c r p) (hR : REL a b T m c r p) (g : ∀ (a b : St) (T : Nat → TC) (m c r p : Nat), INV a T m c r p → REL a b T m c r p → GN (zL l D cI cZ cU cT cS) room_1 X A Q 68 8948 1026 (lL b0 adX adM i) [] (gws lyM (zR l D cI cZ) adM a ++ gws lyX (zS l D cI cU cT cS aK aV tb fm) adX b)) : GN (zL l D cI cZ cU cT cS) room_1 X A Q 68 8948 417 (lL b0 adX adM i) [] (gws lyM (zR l D cI cZ) adM a ++ gws lyX (zS l D cI cU cT cS aK aV tb fm) adX b) := by
  refine n_aload_n (k := 1) B dL_law_417 rfl ?_
  refine l_arg (k := 1) B hS hi hN (by decide) rfl dL_law_418 dL_law_419 dL_law_420 dL_law_421 dL_law_422 ?_
  refine l_arg (k := 2) B hS hi hN (by decide) rfl dL_law_423 dL_law_424 dL_law_425 dL_law_426 dL_law_427 ?_
  refine n_call2l (C := RX5) (As := [.int (xs (i + 1)), .int (xs (i + 2))]) (o := 0) (Z9 := (zS l D cI cU cT cS aK aV tb fm)) (ly := lyX) (ad := adX) (τ := b) (wr := (gws lyM (zR l D cI cZ) adM a)) B ⟨rfl, rfl⟩ EOk_SX hX0 (fun U hU => gK_X rfl hU) dL_law_428 (gc0 g_L_53) rfl ⟨rfl, hd_X5_mean⟩ (by exact ⟨Nat.le_of_ble_eq_true rfl, Nat.le_of_ble_eq_true rfl⟩) ⟨rfl, rfl⟩ rfl rfl (by exact Nat.le_of_ble_eq_true rfl) recv5 (by exact ⟨Nat.le_of_ble_eq_true rfl, Nat.le_of_ble_eq_true rfl⟩) (z_mean hI hR (fun b2 hR2 => ?_))
  refine n_flip ?_
  refine n_aload_n (k := 2) B dL_law_431 rfl ?_
  refine l_arg (k := 1) B hS hi hN (by decide) rfl dL_law_432 dL_law_433 dL_law_434 dL_law_435 dL_law_436 ?_
  refine l_arg (k := 2) B hS hi hN (by decide) rfl dL_law_437 dL_law_438 dL_law_439 dL_law_440 dL_law_441 ?_
  refine n_call2l (C := RX6) (As := [.int (xs (i + 1)), .int (xs (i + 2))]) (o := 0) (Z9 := (zR l D cI cZ)) (ly := lyM) (ad := adM) (τ := a) (wr := (gws lyX (zS l D cI cU cT cS aK aV tb fm) adX b2)) B ⟨rfl, rfl⟩ EOk_true eN_true (fun U hU => gK_M rfl hU) dL_law_442 (gc0 g_L_57) rfl ⟨rfl, hd_X6_mean⟩ (by exact ⟨Nat.le_of_ble_eq_true rfl, Nat.le_of_ble_eq_true rfl⟩) ⟨rfl, rfl⟩ rfl rfl (by exact Nat.le_of_ble_eq_true rfl) recvM (by exact ⟨Nat.le_of_ble_eq_true rfl, Nat.le_of_ble_eq_true rfl⟩) (c_mean hI.rul hI.1.1.1 hI.1.1.2 hI.vok (fun a2 hs => ?_))
  refine n_flip ?_
  refine n_lcmp B dL_law_445 ?_
  refine n_if_eq (tgt := 1026) B dL_law_446 (by decide) (fun _ => g _ _ _ _ _ _ _ (hI.sg (sgx hs)) (hR2.sg (sgx hs))) (fun h => absurd (l_cmp_eq0.mpr rfl) h)
set_option maxRecDepth 100000 in
theorem L_best (B : AmbN (zL l D cI cZ cU cT cS) room_1 X A cL_law wsL_law RL 4) (hS : sN X b0 N xs A) (hi : i + 6 ≤ N) (hN : N ≤ 3072) (hX0 : eN X (SX aK aV tb fm) A) (hI : INV a T m c r p) (hR : REL a b T m c r p) (g : ∀ (a b : St) (T : Nat → TC) (m c r p : Nat), INV a T m c r p → REL a b T m c r p → GN (zL l D cI cZ cU cT cS) room_1 X A Q 68 8948 1026 (lL b0 adX adM i) [] (gws lyM (zR l D cI cZ) adM a ++ gws lyX (zS l D cI cU cT cS aK aV tb fm) adX b)) : GN (zL l D cI cZ cU cT cS) room_1 X A Q 68 8948 451 (lL b0 adX adM i) [] (gws lyM (zR l D cI cZ) adM a ++ gws lyX (zS l D cI cU cT cS aK aV tb fm) adX b) := by
  refine n_aload_n (k := 1) B dL_law_451 rfl ?_
  refine l_arg (k := 1) B hS hi hN (by decide) rfl dL_law_452 dL_law_453 dL_law_454 dL_law_455 dL_law_456 ?_
  refine n_call2i (C := RX5) (As := [.int (xs (i + 1))]) (o := 0) (Z9 := (zS l D cI cU cT cS aK aV tb fm)) (ly := lyX) (ad := adX) (τ := b) (wr := (gws lyM (zR l D cI cZ) adM a)) B ⟨rfl, rfl⟩ EOk_SX hX0 (fun U hU => gK_X rfl hU) dL_law_457 (gc0 g_L_58) rfl ⟨rfl, hd_X5_best⟩ (by exact ⟨Nat.le_of_ble_eq_true rfl, Nat.le_of_ble_eq_true rfl⟩) ⟨rfl, rfl⟩ rfl rfl (by exact Nat.le_of_ble_eq_true rfl) recv5 (by exact ⟨Nat.le_of_ble_eq_true rfl, Nat.le_of_ble_eq_true rfl⟩) (z_best hI hR (fun b2 hR2 => ?_))
  refine n_flip ?_
  refine n_aload_n (k := 2) B dL_law_460 rfl ?_
  refine l_arg (k := 1) B hS hi hN (by decide) rfl dL_law_461 dL_law_462 dL_law_463 dL_law_464 dL_law_465 ?_
  refine n_call2i (C := RX6) (As := [.int (xs (i + 1))]) (o := 0) (Z9 := (zR l D cI cZ)) (ly := lyM) (ad := adM) (τ := a) (wr := (gws lyX (zS l D cI cU cT cS aK aV tb fm) adX b2)) B ⟨rfl, rfl⟩ EOk_true eN_true (fun U hU => gK_M rfl hU) dL_law_466 (gc0 g_L_61) rfl ⟨rfl, hd_X6_best⟩ (by exact ⟨Nat.le_of_ble_eq_true rfl, Nat.le_of_ble_eq_true rfl⟩) ⟨rfl, rfl⟩ rfl rfl (by exact Nat.le_of_ble_eq_true rfl) recvM (by exact ⟨Nat.le_of_ble_eq_true rfl, Nat.le_of_ble_eq_true rfl⟩) (c_best hI.rul hI.1.1.1 hI.1.1.2 (fun a2 hs => ?_))
  refine n_flip ?_
  refine n_icmp_eq (tgt := 1026) B dL_law_469 (by decide) (fun _ => g _ _ _ _ _ _ _ (hI.sg (sgz hs)) (hR2.sg (sgz hs))) (fun h => absurd rfl h)
set_option maxRecDepth 100000 in
theorem L_settle (B : AmbN (zL l D cI cZ cU cT cS) room_1 X A cL_law wsL_law RL 4) (hS : sN X b0 N xs A) (hi : i + 6 ≤ N) (hN : N ≤ 3072) (hX0 : eN X (SX aK aV tb fm) A) (hI : INV a T m c r p) (hR : REL a b T m c r p) (g : ∀ (a b : St) (T : Nat → TC) (m c r p : Nat), INV a T m c r p → REL a b T m c r p → GN (zL l D cI cZ cU cT cS) room_1 X A Q 68 8948 1026 (lL b0 adX adM i) [] (gws lyM (zR l D cI cZ) adM a ++ gws lyX (zS l D cI cU cT cS aK aV tb fm) adX b)) : GN (zL l D cI cZ cU cT cS) room_1 X A Q 68 8948 474 (lL b0 adX adM i) [] (gws lyM (zR l D cI cZ) adM a ++ gws lyX (zS l D cI cU cT cS aK aV tb fm) adX b) := by
  refine n_aload_n (k := 1) B dL_law_474 rfl ?_
  refine n_call2i (C := RX5) (As := []) (o := 0) (Z9 := (zS l D cI cU cT cS aK aV tb fm)) (ly := lyX) (ad := adX) (τ := b) (wr := (gws lyM (zR l D cI cZ) adM a)) B ⟨rfl, rfl⟩ EOk_SX hX0 (fun U hU => gK_X rfl hU) dL_law_475 (gc0 g_L_62) rfl ⟨rfl, hd_X5_settle⟩ (by exact ⟨Nat.le_of_ble_eq_true rfl, Nat.le_of_ble_eq_true rfl⟩) ⟨rfl, rfl⟩ rfl rfl (by exact Nat.le_of_ble_eq_true rfl) recv5 (by exact ⟨Nat.le_of_ble_eq_true rfl, Nat.le_of_ble_eq_true rfl⟩) (z_settle hI hR (fun b2 hR2 => ?_))
  refine n_flip ?_
  refine n_aload_n (k := 2) B dL_law_478 rfl ?_
  refine n_call2i (C := RX6) (As := []) (o := 0) (Z9 := (zR l D cI cZ)) (ly := lyM) (ad := adM) (τ := a) (wr := (gws lyX (zS l D cI cU cT cS aK aV tb fm) adX b2)) B ⟨rfl, rfl⟩ EOk_true eN_true (fun U hU => gK_M rfl hU) dL_law_479 (gc0 g_L_65) rfl ⟨rfl, hd_X6_settle⟩ (by exact ⟨Nat.le_of_ble_eq_true rfl, Nat.le_of_ble_eq_true rfl⟩) ⟨rfl, rfl⟩ rfl rfl (by exact Nat.le_of_ble_eq_true rfl) recvM (by exact ⟨Nat.le_of_ble_eq_true rfl, Nat.le_of_ble_eq_true rfl⟩) (c_settle hI.rul hI.1.1.1 hI.1.1.2 (fun a2 hs h7 => ?_))
  refine n_flip ?_
  refine n_icmp_eq (tgt := 1026) B dL_law_482 (by decide) (fun _ => g _ _ _ _ _ _ _ ((INV_settle hI).sg (sg_settle hs h7)) (hR2.sg (sg_settle hs h7))) (fun h => absurd rfl h)
set_option maxRecDepth 100000 in
theorem L_cut (B : AmbN (zL l D cI cZ cU cT cS) room_1 X A cL_law wsL_law RL 4) (hS : sN X b0 N xs A) (hi : i + 6 ≤ N) (hN : N ≤ 3072) (hX0 : eN X (SX aK aV tb fm) A) (hI : INV a T m c r p) (hR : REL a b T m c r p) (g : ∀ (a b : St) (T : Nat → TC) (m c r p : Nat), INV a T m c r p → REL a b T m c r p → GN (zL l D cI cZ cU cT cS) room_1 X A Q 68 8948 1026 (lL b0 adX adM i) [] (gws lyM (zR l D cI cZ) adM a ++ gws lyX (zS l D cI cU cT cS aK aV tb fm) adX b)) : GN (zL l D cI cZ cU cT cS) room_1 X A Q 68 8948 487 (lL b0 adX adM i) [] (gws lyM (zR l D cI cZ) adM a ++ gws lyX (zS l D cI cU cT cS aK aV tb fm) adX b) := by
  refine n_aload_n (k := 1) B dL_law_487 rfl ?_
  refine l_arg (k := 1) B hS hi hN (by decide) rfl dL_law_488 dL_law_489 dL_law_490 dL_law_491 dL_law_492 ?_
  refine n_call2i (C := RX5) (As := [.int (xs (i + 1))]) (o := 0) (Z9 := (zS l D cI cU cT cS aK aV tb fm)) (ly := lyX) (ad := adX) (τ := b) (wr := (gws lyM (zR l D cI cZ) adM a)) B ⟨rfl, rfl⟩ EOk_SX hX0 (fun U hU => gK_X rfl hU) dL_law_493 (gc0 g_L_66) rfl ⟨rfl, hd_X5_cut⟩ (by exact ⟨Nat.le_of_ble_eq_true rfl, Nat.le_of_ble_eq_true rfl⟩) ⟨rfl, rfl⟩ rfl rfl (by exact Nat.le_of_ble_eq_true rfl) recv5 (by exact ⟨Nat.le_of_ble_eq_true rfl, Nat.le_of_ble_eq_true rfl⟩) (z_cut hI hR (fun b2 hR2 => ?_))
  refine n_flip ?_
  refine n_aload_n (k := 2) B dL_law_496 rfl ?_
  refine l_arg (k := 1) B hS hi hN (by decide) rfl dL_law_497 dL_law_498 dL_law_499 dL_law_500 dL_law_501 ?_
  refine n_call2i (C := RX6) (As := [.int (xs (i + 1))]) (o := 0) (Z9 := (zR l D cI cZ)) (ly := lyM) (ad := adM) (τ := a) (wr := (gws lyX (zS l D cI cU cT cS aK aV tb fm) adX b2)) B ⟨rfl, rfl⟩ EOk_true eN_true (fun U hU => gK_M rfl hU) dL_law_502 (gc0 g_L_69) rfl ⟨rfl, hd_X6_cut⟩ (by exact ⟨Nat.le_of_ble_eq_true rfl, Nat.le_of_ble_eq_true rfl⟩) ⟨rfl, rfl⟩ rfl rfl (by exact Nat.le_of_ble_eq_true rfl) recvM (by exact ⟨Nat.le_of_ble_eq_true rfl, Nat.le_of_ble_eq_true rfl⟩) (c_cut hI.rul hI.1.1.1 hI.1.1.2 (fun a2 hs => ?_))
  refine n_flip ?_
  refine n_icmp_eq (tgt := 1026) B dL_law_505 (by decide) (fun _ => g _ _ _ _ _ _ _ (hI.sg (sgx hs)) (hR2.sg (sgx hs))) (fun h => absurd rfl h)
set_option maxRecDepth 100000 in
theorem L_change (B : AmbN (zL l D cI cZ cU cT cS) room_1 X A cL_law wsL_law RL 4) (hS : sN X b0 N xs A) (hi : i + 6 ≤ N) (hN : N ≤ 3072) (hX0 : eN X (SX aK aV tb fm) A) (hI : INV a T m c r p) (hR : REL a b T m c r p) (g : ∀ (a b : St) (T : Nat → TC) (m c r p : Nat), INV a T m c r p → REL a b T m c r p → GN (zL l D cI cZ cU cT cS) room_1 X A Q 68 8948 1026 (lL b0 adX adM i) [] (gws lyM (zR l D cI cZ) adM a ++ gws lyX (zS l D cI cU cT cS aK aV tb fm) adX b)) : GN (zL l D cI cZ cU cT cS) room_1 X A Q 68 8948 510 (lL b0 adX adM i) [] (gws lyM (zR l D cI cZ) adM a ++ gws lyX (zS l D cI cU cT cS aK aV tb fm) adX b) := by
  refine n_aload_n (k := 1) B dL_law_510 rfl ?_
  refine l_arg (k := 1) B hS hi hN (by decide) rfl dL_law_511 dL_law_512 dL_law_513 dL_law_514 dL_law_515 ?_
  refine n_call2i (C := RX5) (As := [.int (xs (i + 1))]) (o := 0) (Z9 := (zS l D cI cU cT cS aK aV tb fm)) (ly := lyX) (ad := adX) (τ := b) (wr := (gws lyM (zR l D cI cZ) adM a)) B ⟨rfl, rfl⟩ EOk_SX hX0 (fun U hU => gK_X rfl hU) dL_law_516 (gc0 g_L_70) rfl ⟨rfl, hd_X5_change⟩ (by exact ⟨Nat.le_of_ble_eq_true rfl, Nat.le_of_ble_eq_true rfl⟩) ⟨rfl, rfl⟩ rfl rfl (by exact Nat.le_of_ble_eq_true rfl) recv5 (by exact ⟨Nat.le_of_ble_eq_true rfl, Nat.le_of_ble_eq_true rfl⟩) (z_change hI hR (fun b2 hR2 => ?_))
  refine n_flip ?_
  refine n_aload_n (k := 2) B dL_law_519 rfl ?_
  refine l_arg (k := 1) B hS hi hN (by decide) rfl dL_law_520 dL_law_521 dL_law_522 dL_law_523 dL_law_524 ?_
  refine n_call2i (C := RX6) (As := [.int (xs (i + 1))]) (o := 0) (Z9 := (zR l D cI cZ)) (ly := lyM) (ad := adM) (τ := a) (wr := (gws lyX (zS l D cI cU cT cS aK aV tb fm) adX b2)) B ⟨rfl, rfl⟩ EOk_true eN_true (fun U hU => gK_M rfl hU) dL_law_525 (gc0 g_L_73) rfl ⟨rfl, hd_X6_change⟩ (by exact ⟨Nat.le_of_ble_eq_true rfl, Nat.le_of_ble_eq_true rfl⟩) ⟨rfl, rfl⟩ rfl rfl (by exact Nat.le_of_ble_eq_true rfl) recvM (by exact ⟨Nat.le_of_ble_eq_true rfl, Nat.le_of_ble_eq_true rfl⟩) (c_change hI.rul hI.1.1.1 hI.1.1.2 (fun a2 hs => ?_))
  refine n_flip ?_
  refine n_icmp_eq (tgt := 1026) B dL_law_528 (by decide) (fun _ => g _ _ _ _ _ _ _ (hI.sg (pkx.z hs)) (hR2.sg (pkx.z hs))) (fun h => absurd rfl h)
set_option maxRecDepth 100000 in
theorem L_forTown (B : AmbN (zL l D cI cZ cU cT cS) room_1 X A cL_law wsL_law RL 4) (hS : sN X b0 N xs A) (hi : i + 6 ≤ N) (hN : N ≤ 3072) (hX0 : eN X (SX aK aV tb fm) A) (hI : INV a T m c r p) (hR : REL a b T m c r p) (g : ∀ (a b : St) (T : Nat → TC) (m c r p : Nat), INV a T m c r p → REL a b T m c r p → GN (zL l D cI cZ cU cT cS) room_1 X A Q 68 8948 1026 (lL b0 adX adM i) [] (gws lyM (zR l D cI cZ) adM a ++ gws lyX (zS l D cI cU cT cS aK aV tb fm) adX b)) : GN (zL l D cI cZ cU cT cS) room_1 X A Q 68 8948 533 (lL b0 adX adM i) [] (gws lyM (zR l D cI cZ) adM a ++ gws lyX (zS l D cI cU cT cS aK aV tb fm) adX b) := by
  refine n_aload_n (k := 1) B dL_law_533 rfl ?_
  refine l_arg (k := 1) B hS hi hN (by decide) rfl dL_law_534 dL_law_535 dL_law_536 dL_law_537 dL_law_538 ?_
  refine l_arg (k := 2) B hS hi hN (by decide) rfl dL_law_539 dL_law_540 dL_law_541 dL_law_542 dL_law_543 ?_
  refine n_call2i (C := RX5) (As := [.int (xs (i + 1)), .int (xs (i + 2))]) (o := 0) (Z9 := (zS l D cI cU cT cS aK aV tb fm)) (ly := lyX) (ad := adX) (τ := b) (wr := (gws lyM (zR l D cI cZ) adM a)) B ⟨rfl, rfl⟩ EOk_SX hX0 (fun U hU => gK_X rfl hU) dL_law_544 (gc0 g_L_74) rfl ⟨rfl, hd_X5_forTown⟩ (by exact ⟨Nat.le_of_ble_eq_true rfl, Nat.le_of_ble_eq_true rfl⟩) ⟨rfl, rfl⟩ rfl rfl (by exact Nat.le_of_ble_eq_true rfl) recv5 (by exact ⟨Nat.le_of_ble_eq_true rfl, Nat.le_of_ble_eq_true rfl⟩) (z_forTown hI hR (fun b2 hR2 => ?_))
  refine n_flip ?_
  refine n_aload_n (k := 2) B dL_law_547 rfl ?_
  refine l_arg (k := 1) B hS hi hN (by decide) rfl dL_law_548 dL_law_549 dL_law_550 dL_law_551 dL_law_552 ?_
  refine l_arg (k := 2) B hS hi hN (by decide) rfl dL_law_553 dL_law_554 dL_law_555 dL_law_556 dL_law_557 ?_
  refine n_call2i (C := RX6) (As := [.int (xs (i + 1)), .int (xs (i + 2))]) (o := 0) (Z9 := (zR l D cI cZ)) (ly := lyM) (ad := adM) (τ := a) (wr := (gws lyX (zS l D cI cU cT cS aK aV tb fm) adX b2)) B ⟨rfl, rfl⟩ EOk_true eN_true (fun U hU => gK_M rfl hU) dL_law_558 (gc0 g_L_77) rfl ⟨rfl, hd_X6_forTown⟩ (by exact ⟨Nat.le_of_ble_eq_true rfl, Nat.le_of_ble_eq_true rfl⟩) ⟨rfl, rfl⟩ rfl rfl (by exact Nat.le_of_ble_eq_true rfl) recvM (by exact ⟨Nat.le_of_ble_eq_true rfl, Nat.le_of_ble_eq_true rfl⟩) (c_forTown hI.rul hI.1.1.1 hI.1.1.2 (fun a2 hs => ?_))
  refine n_flip ?_
  refine n_icmp_eq (tgt := 1026) B dL_law_561 (by decide) (fun _ => g _ _ _ _ _ _ _ (hI.sg (pkx.z hs)) (hR2.sg (pkx.z hs))) (fun h => absurd rfl h)
set_option maxRecDepth 100000 in
theorem L_heaviest (B : AmbN (zL l D cI cZ cU cT cS) room_1 X A cL_law wsL_law RL 4) (hS : sN X b0 N xs A) (hi : i + 6 ≤ N) (hN : N ≤ 3072) (hX0 : eN X (SX aK aV tb fm) A) (hI : INV a T m c r p) (hR : REL a b T m c r p) (g : ∀ (a b : St) (T : Nat → TC) (m c r p : Nat), INV a T m c r p → REL a b T m c r p → GN (zL l D cI cZ cU cT cS) room_1 X A Q 68 8948 1026 (lL b0 adX adM i) [] (gws lyM (zR l D cI cZ) adM a ++ gws lyX (zS l D cI cU cT cS aK aV tb fm) adX b)) : GN (zL l D cI cZ cU cT cS) room_1 X A Q 68 8948 566 (lL b0 adX adM i) [] (gws lyM (zR l D cI cZ) adM a ++ gws lyX (zS l D cI cU cT cS aK aV tb fm) adX b) := by
  refine n_aload_n (k := 1) B dL_law_566 rfl ?_
  refine l_arg (k := 1) B hS hi hN (by decide) rfl dL_law_567 dL_law_568 dL_law_569 dL_law_570 dL_law_571 ?_
  refine n_call2i (C := RX5) (As := [.int (xs (i + 1))]) (o := 0) (Z9 := (zS l D cI cU cT cS aK aV tb fm)) (ly := lyX) (ad := adX) (τ := b) (wr := (gws lyM (zR l D cI cZ) adM a)) B ⟨rfl, rfl⟩ EOk_SX hX0 (fun U hU => gK_X rfl hU) dL_law_572 (gc0 g_L_78) rfl ⟨rfl, hd_X5_heaviest⟩ (by exact ⟨Nat.le_of_ble_eq_true rfl, Nat.le_of_ble_eq_true rfl⟩) ⟨rfl, rfl⟩ rfl rfl (by exact Nat.le_of_ble_eq_true rfl) recv5 (by exact ⟨Nat.le_of_ble_eq_true rfl, Nat.le_of_ble_eq_true rfl⟩) (z_heaviest hI hR (fun b2 hR2 => ?_))
  refine n_flip ?_
  refine n_aload_n (k := 2) B dL_law_575 rfl ?_
  refine l_arg (k := 1) B hS hi hN (by decide) rfl dL_law_576 dL_law_577 dL_law_578 dL_law_579 dL_law_580 ?_
  refine n_call2i (C := RX6) (As := [.int (xs (i + 1))]) (o := 0) (Z9 := (zR l D cI cZ)) (ly := lyM) (ad := adM) (τ := a) (wr := (gws lyX (zS l D cI cU cT cS aK aV tb fm) adX b2)) B ⟨rfl, rfl⟩ EOk_true eN_true (fun U hU => gK_M rfl hU) dL_law_581 (gc0 g_L_81) rfl ⟨rfl, hd_X6_heaviest⟩ (by exact ⟨Nat.le_of_ble_eq_true rfl, Nat.le_of_ble_eq_true rfl⟩) ⟨rfl, rfl⟩ rfl rfl (by exact Nat.le_of_ble_eq_true rfl) recvM (by exact ⟨Nat.le_of_ble_eq_true rfl, Nat.le_of_ble_eq_true rfl⟩) (c_heaviest hI.rul hI.1.1.1 hI.1.1.2 (fun a2 hs => ?_))
  refine n_flip ?_
  refine n_icmp_eq (tgt := 1026) B dL_law_584 (by decide) (fun _ => g _ _ _ _ _ _ _ (hI.sg (sgx hs)) (hR2.sg (sgx hs))) (fun h => absurd rfl h)
set_option maxRecDepth 100000 in
theorem L_tells (B : AmbN (zL l D cI cZ cU cT cS) room_1 X A cL_law wsL_law RL 4) (hS : sN X b0 N xs A) (hi : i + 6 ≤ N) (hN : N ≤ 3072) (hX0 : eN X (SX aK aV tb fm) A) (hI : INV a T m c r p) (hR : REL a b T m c r p) (g : ∀ (a b : St) (T : Nat → TC) (m c r p : Nat), INV a T m c r p → REL a b T m c r p → GN (zL l D cI cZ cU cT cS) room_1 X A Q 68 8948 1026 (lL b0 adX adM i) [] (gws lyM (zR l D cI cZ) adM a ++ gws lyX (zS l D cI cU cT cS aK aV tb fm) adX b)) : GN (zL l D cI cZ cU cT cS) room_1 X A Q 68 8948 589 (lL b0 adX adM i) [] (gws lyM (zR l D cI cZ) adM a ++ gws lyX (zS l D cI cU cT cS aK aV tb fm) adX b) := by
  refine n_aload_n (k := 1) B dL_law_589 rfl ?_
  refine l_arg (k := 1) B hS hi hN (by decide) rfl dL_law_590 dL_law_591 dL_law_592 dL_law_593 dL_law_594 ?_
  refine l_arg (k := 2) B hS hi hN (by decide) rfl dL_law_595 dL_law_596 dL_law_597 dL_law_598 dL_law_599 ?_
  refine l_arg (k := 3) B hS hi hN (by decide) rfl dL_law_600 dL_law_601 dL_law_602 dL_law_603 dL_law_604 ?_
  refine n_call2i (C := RX5) (As := [.int (xs (i + 1)), .int (xs (i + 2)), .int (xs (i + 3))]) (o := 0) (Z9 := (zS l D cI cU cT cS aK aV tb fm)) (ly := lyX) (ad := adX) (τ := b) (wr := (gws lyM (zR l D cI cZ) adM a)) B ⟨rfl, rfl⟩ EOk_SX hX0 (fun U hU => gK_X rfl hU) dL_law_605 (gc0 g_L_82) rfl ⟨rfl, hd_X5_tells⟩ (by exact ⟨Nat.le_of_ble_eq_true rfl, Nat.le_of_ble_eq_true rfl⟩) ⟨rfl, rfl⟩ rfl rfl (by exact Nat.le_of_ble_eq_true rfl) recv5 (by exact ⟨Nat.le_of_ble_eq_true rfl, Nat.le_of_ble_eq_true rfl⟩) (z_tells hI hR (fun b2 hR2 => ?_))
  refine n_flip ?_
  refine n_aload_n (k := 2) B dL_law_608 rfl ?_
  refine l_arg (k := 1) B hS hi hN (by decide) rfl dL_law_609 dL_law_610 dL_law_611 dL_law_612 dL_law_613 ?_
  refine l_arg (k := 2) B hS hi hN (by decide) rfl dL_law_614 dL_law_615 dL_law_616 dL_law_617 dL_law_618 ?_
  refine l_arg (k := 3) B hS hi hN (by decide) rfl dL_law_619 dL_law_620 dL_law_621 dL_law_622 dL_law_623 ?_
  refine n_call2i (C := RX6) (As := [.int (xs (i + 1)), .int (xs (i + 2)), .int (xs (i + 3))]) (o := 0) (Z9 := (zR l D cI cZ)) (ly := lyM) (ad := adM) (τ := a) (wr := (gws lyX (zS l D cI cU cT cS aK aV tb fm) adX b2)) B ⟨rfl, rfl⟩ EOk_true eN_true (fun U hU => gK_M rfl hU) dL_law_624 (gc0 g_L_85) rfl ⟨rfl, hd_X6_tells⟩ (by exact ⟨Nat.le_of_ble_eq_true rfl, Nat.le_of_ble_eq_true rfl⟩) ⟨rfl, rfl⟩ rfl rfl (by exact Nat.le_of_ble_eq_true rfl) recvM (by exact ⟨Nat.le_of_ble_eq_true rfl, Nat.le_of_ble_eq_true rfl⟩) (c_tells hI.rul hI.sho hI.1.1.1 hI.1.1.2 hI.1.2.1.2.1 hI.1.2.1.2.2 hI.2.1.2.1 (fun a2 hs => ?_))
  refine n_flip ?_
  refine n_icmp_eq (tgt := 1026) B dL_law_627 (by decide) (fun _ => g _ _ _ _ _ _ _ (hI.sg hs) (hR2.sg hs)) (fun h => absurd rfl h)
set_option maxRecDepth 100000 in
theorem L_film (B : AmbN (zL l D cI cZ cU cT cS) room_1 X A cL_law wsL_law RL 4) (hS : sN X b0 N xs A) (hi : i + 6 ≤ N) (hN : N ≤ 3072) (hX0 : eN X (SX aK aV tb fm) A) (hI : INV a T m c r p) (hR : REL a b T m c r p) (g : ∀ (a b : St) (T : Nat → TC) (m c r p : Nat), INV a T m c r p → REL a b T m c r p → GN (zL l D cI cZ cU cT cS) room_1 X A Q 68 8948 1026 (lL b0 adX adM i) [] (gws lyM (zR l D cI cZ) adM a ++ gws lyX (zS l D cI cU cT cS aK aV tb fm) adX b)) : GN (zL l D cI cZ cU cT cS) room_1 X A Q 68 8948 632 (lL b0 adX adM i) [] (gws lyM (zR l D cI cZ) adM a ++ gws lyX (zS l D cI cU cT cS aK aV tb fm) adX b) := by
  refine n_aload_n (k := 1) B dL_law_632 rfl ?_
  refine l_arg (k := 1) B hS hi hN (by decide) rfl dL_law_633 dL_law_634 dL_law_635 dL_law_636 dL_law_637 ?_
  refine l_arg (k := 2) B hS hi hN (by decide) rfl dL_law_638 dL_law_639 dL_law_640 dL_law_641 dL_law_642 ?_
  refine l_arg (k := 3) B hS hi hN (by decide) rfl dL_law_643 dL_law_644 dL_law_645 dL_law_646 dL_law_647 ?_
  refine n_call2i (C := RX5) (As := [.int (xs (i + 1)), .int (xs (i + 2)), .int (xs (i + 3))]) (o := 0) (Z9 := (zS l D cI cU cT cS aK aV tb fm)) (ly := lyX) (ad := adX) (τ := b) (wr := (gws lyM (zR l D cI cZ) adM a)) B ⟨rfl, rfl⟩ EOk_SX hX0 (fun U hU => gK_X rfl hU) dL_law_648 (gc0 g_L_86) rfl ⟨rfl, hd_X5_film⟩ (by exact ⟨Nat.le_of_ble_eq_true rfl, Nat.le_of_ble_eq_true rfl⟩) ⟨rfl, rfl⟩ rfl rfl (by exact Nat.le_of_ble_eq_true rfl) recv5 (by exact ⟨Nat.le_of_ble_eq_true rfl, Nat.le_of_ble_eq_true rfl⟩) (z_film zS_SI hI hR (fun b2 hR2 => ?_))
  refine n_flip ?_
  refine n_aload_n (k := 2) B dL_law_651 rfl ?_
  refine l_arg (k := 1) B hS hi hN (by decide) rfl dL_law_652 dL_law_653 dL_law_654 dL_law_655 dL_law_656 ?_
  refine l_arg (k := 2) B hS hi hN (by decide) rfl dL_law_657 dL_law_658 dL_law_659 dL_law_660 dL_law_661 ?_
  refine l_arg (k := 3) B hS hi hN (by decide) rfl dL_law_662 dL_law_663 dL_law_664 dL_law_665 dL_law_666 ?_
  refine n_call2i (C := RX6) (As := [.int (xs (i + 1)), .int (xs (i + 2)), .int (xs (i + 3))]) (o := 0) (Z9 := (zR l D cI cZ)) (ly := lyM) (ad := adM) (τ := a) (wr := (gws lyX (zS l D cI cU cT cS aK aV tb fm) adX b2)) B ⟨rfl, rfl⟩ EOk_true eN_true (fun U hU => gK_M rfl hU) dL_law_667 (gc0 g_L_89) rfl ⟨rfl, hd_X6_film⟩ (by exact ⟨Nat.le_of_ble_eq_true rfl, Nat.le_of_ble_eq_true rfl⟩) ⟨rfl, rfl⟩ rfl rfl (by exact Nat.le_of_ble_eq_true rfl) recvM (by exact ⟨Nat.le_of_ble_eq_true rfl, Nat.le_of_ble_eq_true rfl⟩) (c_film hI.rul hI.1.1.1 hI.1.1.2 (fun a2 hs => ?_))
  refine n_flip ?_
  refine n_icmp_eq (tgt := 1026) B dL_law_670 (by decide) (fun _ => g _ _ _ _ _ _ _ ((INV_film hI).sg hs) (hR2.sg hs)) (fun h => absurd rfl h)
set_option maxRecDepth 100000 in
theorem L_drawn (B : AmbN (zL l D cI cZ cU cT cS) room_1 X A cL_law wsL_law RL 4) (hS : sN X b0 N xs A) (hi : i + 6 ≤ N) (hN : N ≤ 3072) (hX0 : eN X (SX aK aV tb fm) A) (hI : INV a T m c r p) (hR : REL a b T m c r p) (g : ∀ (a b : St) (T : Nat → TC) (m c r p : Nat), INV a T m c r p → REL a b T m c r p → GN (zL l D cI cZ cU cT cS) room_1 X A Q 68 8948 1026 (lL b0 adX adM i) [] (gws lyM (zR l D cI cZ) adM a ++ gws lyX (zS l D cI cU cT cS aK aV tb fm) adX b)) : GN (zL l D cI cZ cU cT cS) room_1 X A Q 68 8948 675 (lL b0 adX adM i) [] (gws lyM (zR l D cI cZ) adM a ++ gws lyX (zS l D cI cU cT cS aK aV tb fm) adX b) := by
  refine n_aload_n (k := 1) B dL_law_675 rfl ?_
  refine l_arg (k := 1) B hS hi hN (by decide) rfl dL_law_676 dL_law_677 dL_law_678 dL_law_679 dL_law_680 ?_
  refine n_call2i (C := RX5) (As := [.int (xs (i + 1))]) (o := 0) (Z9 := (zS l D cI cU cT cS aK aV tb fm)) (ly := lyX) (ad := adX) (τ := b) (wr := (gws lyM (zR l D cI cZ) adM a)) B ⟨rfl, rfl⟩ EOk_SX hX0 (fun U hU => gK_X rfl hU) dL_law_681 (gc0 g_L_90) rfl ⟨rfl, hd_X5_drawn⟩ (by exact ⟨Nat.le_of_ble_eq_true rfl, Nat.le_of_ble_eq_true rfl⟩) ⟨rfl, rfl⟩ rfl rfl (by exact Nat.le_of_ble_eq_true rfl) recv5 (by exact ⟨Nat.le_of_ble_eq_true rfl, Nat.le_of_ble_eq_true rfl⟩) (z_drawn hI hR (fun b2 hR2 => ?_))
  refine n_flip ?_
  refine n_aload_n (k := 2) B dL_law_684 rfl ?_
  refine l_arg (k := 1) B hS hi hN (by decide) rfl dL_law_685 dL_law_686 dL_law_687 dL_law_688 dL_law_689 ?_
  refine n_call2i (C := RX6) (As := [.int (xs (i + 1))]) (o := 0) (Z9 := (zR l D cI cZ)) (ly := lyM) (ad := adM) (τ := a) (wr := (gws lyX (zS l D cI cU cT cS aK aV tb fm) adX b2)) B ⟨rfl, rfl⟩ EOk_true eN_true (fun U hU => gK_M rfl hU) dL_law_690 (gc0 g_L_93) rfl ⟨rfl, hd_X6_drawn⟩ (by exact ⟨Nat.le_of_ble_eq_true rfl, Nat.le_of_ble_eq_true rfl⟩) ⟨rfl, rfl⟩ rfl rfl (by exact Nat.le_of_ble_eq_true rfl) recvM (by exact ⟨Nat.le_of_ble_eq_true rfl, Nat.le_of_ble_eq_true rfl⟩) (c_drawn hI.rul hI.1.1.1 hI.1.1.2 (fun a2 hs => ?_))
  refine n_flip ?_
  refine n_icmp_eq (tgt := 1026) B dL_law_693 (by decide) (fun _ => g _ _ _ _ _ _ _ (hI.sg hs) (hR2.sg hs)) (fun h => absurd rfl h)
set_option maxRecDepth 100000 in
theorem L_chance (B : AmbN (zL l D cI cZ cU cT cS) room_1 X A cL_law wsL_law RL 4) (hS : sN X b0 N xs A) (hi : i + 6 ≤ N) (hN : N ≤ 3072) (hX0 : eN X (SX aK aV tb fm) A) (hI : INV a T m c r p) (hR : REL a b T m c r p) (g : ∀ (a b : St) (T : Nat → TC) (m c r p : Nat), INV a T m c r p → REL a b T m c r p → GN (zL l D cI cZ cU cT cS) room_1 X A Q 68 8948 1026 (lL b0 adX adM i) [] (gws lyM (zR l D cI cZ) adM a ++ gws lyX (zS l D cI cU cT cS aK aV tb fm) adX b)) : GN (zL l D cI cZ cU cT cS) room_1 X A Q 68 8948 698 (lL b0 adX adM i) [] (gws lyM (zR l D cI cZ) adM a ++ gws lyX (zS l D cI cU cT cS aK aV tb fm) adX b) := by
  refine n_aload_n (k := 1) B dL_law_698 rfl ?_
  refine l_arg (k := 1) B hS hi hN (by decide) rfl dL_law_699 dL_law_700 dL_law_701 dL_law_702 dL_law_703 ?_
  refine l_arg (k := 2) B hS hi hN (by decide) rfl dL_law_704 dL_law_705 dL_law_706 dL_law_707 dL_law_708 ?_
  refine l_arg (k := 3) B hS hi hN (by decide) rfl dL_law_709 dL_law_710 dL_law_711 dL_law_712 dL_law_713 ?_
  refine n_call2l (C := RX5) (As := [.int (xs (i + 1)), .int (xs (i + 2)), .int (xs (i + 3))]) (o := 0) (Z9 := (zS l D cI cU cT cS aK aV tb fm)) (ly := lyX) (ad := adX) (τ := b) (wr := (gws lyM (zR l D cI cZ) adM a)) B ⟨rfl, rfl⟩ EOk_SX hX0 (fun U hU => gK_X rfl hU) dL_law_714 (gc0 g_L_94) rfl ⟨rfl, hd_X5_chance⟩ (by exact ⟨Nat.le_of_ble_eq_true rfl, Nat.le_of_ble_eq_true rfl⟩) ⟨rfl, rfl⟩ rfl rfl (by exact Nat.le_of_ble_eq_true rfl) recv5 (by exact ⟨Nat.le_of_ble_eq_true rfl, Nat.le_of_ble_eq_true rfl⟩) (z_chance hI hR (fun b2 hR2 => ?_))
  refine n_flip ?_
  refine n_aload_n (k := 2) B dL_law_717 rfl ?_
  refine l_arg (k := 1) B hS hi hN (by decide) rfl dL_law_718 dL_law_719 dL_law_720 dL_law_721 dL_law_722 ?_
  refine l_arg (k := 2) B hS hi hN (by decide) rfl dL_law_723 dL_law_724 dL_law_725 dL_law_726 dL_law_727 ?_
  refine l_arg (k := 3) B hS hi hN (by decide) rfl dL_law_728 dL_law_729 dL_law_730 dL_law_731 dL_law_732 ?_
  refine n_call2l (C := RX6) (As := [.int (xs (i + 1)), .int (xs (i + 2)), .int (xs (i + 3))]) (o := 0) (Z9 := (zR l D cI cZ)) (ly := lyM) (ad := adM) (τ := a) (wr := (gws lyX (zS l D cI cU cT cS aK aV tb fm) adX b2)) B ⟨rfl, rfl⟩ EOk_true eN_true (fun U hU => gK_M rfl hU) dL_law_733 (gc0 g_L_98) rfl ⟨rfl, hd_X6_chance⟩ (by exact ⟨Nat.le_of_ble_eq_true rfl, Nat.le_of_ble_eq_true rfl⟩) ⟨rfl, rfl⟩ rfl rfl (by exact Nat.le_of_ble_eq_true rfl) recvM (by exact ⟨Nat.le_of_ble_eq_true rfl, Nat.le_of_ble_eq_true rfl⟩) (c_chance hI.rul hI.1.1.1 hI.1.1.2 (fun a2 hs => ?_))
  refine n_flip ?_
  refine n_lcmp B dL_law_736 ?_
  refine n_if_eq (tgt := 1026) B dL_law_737 (by decide) (fun _ => g _ _ _ _ _ _ _ (hI.sg hs) (hR2.sg hs)) (fun h => absurd (l_cmp_eq0.mpr rfl) h)
set_option maxRecDepth 100000 in
theorem L_image (B : AmbN (zL l D cI cZ cU cT cS) room_1 X A cL_law wsL_law RL 4) (hS : sN X b0 N xs A) (hi : i + 6 ≤ N) (hN : N ≤ 3072) (hX0 : eN X (SX aK aV tb fm) A) (hI : INV a T m c r p) (hR : REL a b T m c r p) (g : ∀ (a b : St) (T : Nat → TC) (m c r p : Nat), INV a T m c r p → REL a b T m c r p → GN (zL l D cI cZ cU cT cS) room_1 X A Q 68 8948 1026 (lL b0 adX adM i) [] (gws lyM (zR l D cI cZ) adM a ++ gws lyX (zS l D cI cU cT cS aK aV tb fm) adX b)) : GN (zL l D cI cZ cU cT cS) room_1 X A Q 68 8948 742 (lL b0 adX adM i) [] (gws lyM (zR l D cI cZ) adM a ++ gws lyX (zS l D cI cU cT cS aK aV tb fm) adX b) := by
  refine n_aload_n (k := 1) B dL_law_742 rfl ?_
  refine n_call2i (C := RX5) (As := []) (o := 0) (Z9 := (zS l D cI cU cT cS aK aV tb fm)) (ly := lyX) (ad := adX) (τ := b) (wr := (gws lyM (zR l D cI cZ) adM a)) B ⟨rfl, rfl⟩ EOk_SX hX0 (fun U hU => gK_X rfl hU) dL_law_743 (gc0 g_L_99) rfl ⟨rfl, hd_X5_image⟩ (by exact ⟨Nat.le_of_ble_eq_true rfl, Nat.le_of_ble_eq_true rfl⟩) ⟨rfl, rfl⟩ rfl rfl (by exact Nat.le_of_ble_eq_true rfl) recv5 (by exact ⟨Nat.le_of_ble_eq_true rfl, Nat.le_of_ble_eq_true rfl⟩) (z_image hI hR (fun b2 hR2 => ?_))
  refine n_flip ?_
  refine n_aload_n (k := 2) B dL_law_746 rfl ?_
  refine n_call2i (C := RX6) (As := []) (o := 0) (Z9 := (zR l D cI cZ)) (ly := lyM) (ad := adM) (τ := a) (wr := (gws lyX (zS l D cI cU cT cS aK aV tb fm) adX b2)) B ⟨rfl, rfl⟩ EOk_true eN_true (fun U hU => gK_M rfl hU) dL_law_747 (gc0 g_L_102) rfl ⟨rfl, hd_X6_image⟩ (by exact ⟨Nat.le_of_ble_eq_true rfl, Nat.le_of_ble_eq_true rfl⟩) ⟨rfl, rfl⟩ rfl rfl (by exact Nat.le_of_ble_eq_true rfl) recvM (by exact ⟨Nat.le_of_ble_eq_true rfl, Nat.le_of_ble_eq_true rfl⟩) (c_image  ?_)
  refine n_flip ?_
  refine n_icmp_eq (tgt := 1026) B dL_law_750 (by decide) (fun _ => g _ _ _ _ _ _ _ (INV_image hI) (hR2)) (fun h => absurd rfl h)
set_option maxRecDepth 100000 in
theorem L_back (B : AmbN (zL l D cI cZ cU cT cS) room_1 X A cL_law wsL_law RL 4) (hS : sN X b0 N xs A) (hi : i + 6 ≤ N) (hN : N ≤ 3072) (hX0 : eN X (SX aK aV tb fm) A) (hI : INV a T m c r p) (hR : REL a b T m c r p) (g : ∀ (a b : St) (T : Nat → TC) (m c r p : Nat), INV a T m c r p → REL a b T m c r p → GN (zL l D cI cZ cU cT cS) room_1 X A Q 68 8948 1026 (lL b0 adX adM i) [] (gws lyM (zR l D cI cZ) adM a ++ gws lyX (zS l D cI cU cT cS aK aV tb fm) adX b)) : GN (zL l D cI cZ cU cT cS) room_1 X A Q 68 8948 755 (lL b0 adX adM i) [] (gws lyM (zR l D cI cZ) adM a ++ gws lyX (zS l D cI cU cT cS aK aV tb fm) adX b) := by
  refine n_aload_n (k := 1) B dL_law_755 rfl ?_
  have rest : ∀ (m2 r2 : Nat) (b2 : St), INV (gBack a) T m2 c r2 p → REL (gBack a) b2 T m2 c r2 p → GN (zL l D cI cZ cU cT cS) room_1 X A Q 68 8948 759 (lL b0 adX adM i) [.int (fBack a)] (gws lyM (zR l D cI cZ) adM a ++ gws lyX (zS l D cI cU cT cS aK aV tb fm) adX b2) := by
    intro m2 r2 b2 hI2 hR2
    refine n_flip ?_
    refine n_aload_n (k := 2) B dL_law_759 rfl ?_
    refine n_call2i (C := RX6) (As := []) (o := 0) (Z9 := (zR l D cI cZ)) (ly := lyM) (ad := adM) (τ := a) (wr := (gws lyX (zS l D cI cU cT cS aK aV tb fm) adX b2)) B ⟨rfl, rfl⟩ EOk_true eN_true (fun U hU => gK_M rfl hU) dL_law_760 (gc0 g_L_106) rfl ⟨rfl, hd_X6_back⟩ (by exact ⟨Nat.le_of_ble_eq_true rfl, Nat.le_of_ble_eq_true rfl⟩) ⟨rfl, rfl⟩ rfl rfl (by exact Nat.le_of_ble_eq_true rfl) recvM (by exact ⟨Nat.le_of_ble_eq_true rfl, Nat.le_of_ble_eq_true rfl⟩) (c_back  ?_)
    refine n_flip ?_
    refine n_icmp_eq (tgt := 1026) B dL_law_763 (by decide) (fun _ => g _ _ _ _ _ _ _ (hI2) (hR2)) (fun h => absurd rfl h)
  refine n_call2i (C := RX5) (As := []) (o := 0) (Z9 := (zS l D cI cU cT cS aK aV tb fm)) (ly := lyX) (ad := adX) (τ := b) (wr := (gws lyM (zR l D cI cZ) adM a)) B ⟨rfl, rfl⟩ EOk_SX hX0 (fun U hU => gK_X rfl hU) dL_law_756 (gc0 g_L_103) rfl ⟨rfl, hd_X5_back⟩ (by exact ⟨Nat.le_of_ble_eq_true rfl, Nat.le_of_ble_eq_true rfl⟩) ⟨rfl, rfl⟩ rfl rfl (by exact Nat.le_of_ble_eq_true rfl) recv5 (by exact ⟨Nat.le_of_ble_eq_true rfl, Nat.le_of_ble_eq_true rfl⟩) (z_back hI hR (fun h9 => ?_) (fun m2 r2 h9 e1 e2 b2 hR2 => ?_))
  · have e : gBack a = a := by
      unfold gBack
      exact if_pos h9
    exact rest m r b (by rw [e]; exact hI) (by rw [e]; exact hR)
  · obtain ⟨m3, r3, h3⟩ := INV_back hI
    have f1 : nI m3 = nI m2 := by rw [← e1, ← gBack_11 h9]; exact h3.1.1.2.symm
    have f2 : nI r3 = nI r2 := by rw [← e2, ← gBack_4 h9]; exact h3.1.2.2.1.2.symm
    exact rest m3 r3 b2 h3 (hR2.mr f1 f2)
set_option maxRecDepth 100000 in
theorem L_count (B : AmbN (zL l D cI cZ cU cT cS) room_1 X A cL_law wsL_law RL 4) (hS : sN X b0 N xs A) (hi : i + 6 ≤ N) (hN : N ≤ 3072) (hX0 : eN X (SX aK aV tb fm) A) (hI : INV a T m c r p) (hR : REL a b T m c r p) (g : ∀ (a b : St) (T : Nat → TC) (m c r p : Nat), INV a T m c r p → REL a b T m c r p → GN (zL l D cI cZ cU cT cS) room_1 X A Q 68 8948 1026 (lL b0 adX adM i) [] (gws lyM (zR l D cI cZ) adM a ++ gws lyX (zS l D cI cU cT cS aK aV tb fm) adX b)) : GN (zL l D cI cZ cU cT cS) room_1 X A Q 68 8948 768 (lL b0 adX adM i) [] (gws lyM (zR l D cI cZ) adM a ++ gws lyX (zS l D cI cU cT cS aK aV tb fm) adX b) := by
  refine n_aload_n (k := 1) B dL_law_768 rfl ?_
  refine l_arg (k := 1) B hS hi hN (by decide) rfl dL_law_769 dL_law_770 dL_law_771 dL_law_772 dL_law_773 ?_
  refine n_call2i (C := RX5) (As := [.int (xs (i + 1))]) (o := 0) (Z9 := (zS l D cI cU cT cS aK aV tb fm)) (ly := lyX) (ad := adX) (τ := b) (wr := (gws lyM (zR l D cI cZ) adM a)) B ⟨rfl, rfl⟩ EOk_SX hX0 (fun U hU => gK_X rfl hU) dL_law_774 (gc0 g_L_107) rfl ⟨rfl, hd_X5_count⟩ (by exact ⟨Nat.le_of_ble_eq_true rfl, Nat.le_of_ble_eq_true rfl⟩) ⟨rfl, rfl⟩ rfl rfl (by exact Nat.le_of_ble_eq_true rfl) recv5 (by exact ⟨Nat.le_of_ble_eq_true rfl, Nat.le_of_ble_eq_true rfl⟩) (z_count hI hR ?_)
  refine n_flip ?_
  refine n_aload_n (k := 2) B dL_law_777 rfl ?_
  refine l_arg (k := 1) B hS hi hN (by decide) rfl dL_law_778 dL_law_779 dL_law_780 dL_law_781 dL_law_782 ?_
  refine n_call2i (C := RX6) (As := [.int (xs (i + 1))]) (o := 0) (Z9 := (zR l D cI cZ)) (ly := lyM) (ad := adM) (τ := a) (wr := (gws lyX (zS l D cI cU cT cS aK aV tb fm) adX b)) B ⟨rfl, rfl⟩ EOk_true eN_true (fun U hU => gK_M rfl hU) dL_law_783 (gc0 g_L_110) rfl ⟨rfl, hd_X6_count⟩ (by exact ⟨Nat.le_of_ble_eq_true rfl, Nat.le_of_ble_eq_true rfl⟩) ⟨rfl, rfl⟩ rfl rfl (by exact Nat.le_of_ble_eq_true rfl) recvM (by exact ⟨Nat.le_of_ble_eq_true rfl, Nat.le_of_ble_eq_true rfl⟩) (c_count hI.1.1.1 hI.1.1.2 ?_)
  refine n_flip ?_
  refine n_icmp_eq (tgt := 1026) B dL_law_786 (by decide) (fun _ => g _ _ _ _ _ _ _ (hI) (hR)) (fun h => absurd rfl h)
set_option maxRecDepth 100000 in
theorem L_sheet (B : AmbN (zL l D cI cZ cU cT cS) room_1 X A cL_law wsL_law RL 4) (hS : sN X b0 N xs A) (hi : i + 6 ≤ N) (hN : N ≤ 3072) (hX0 : eN X (SX aK aV tb fm) A) (hI : INV a T m c r p) (hR : REL a b T m c r p) (g : ∀ (a b : St) (T : Nat → TC) (m c r p : Nat), INV a T m c r p → REL a b T m c r p → GN (zL l D cI cZ cU cT cS) room_1 X A Q 68 8948 1026 (lL b0 adX adM i) [] (gws lyM (zR l D cI cZ) adM a ++ gws lyX (zS l D cI cU cT cS aK aV tb fm) adX b)) : GN (zL l D cI cZ cU cT cS) room_1 X A Q 68 8948 791 (lL b0 adX adM i) [] (gws lyM (zR l D cI cZ) adM a ++ gws lyX (zS l D cI cU cT cS aK aV tb fm) adX b) := by
  refine n_aload_n (k := 1) B dL_law_791 rfl ?_
  refine l_arg (k := 1) B hS hi hN (by decide) rfl dL_law_792 dL_law_793 dL_law_794 dL_law_795 dL_law_796 ?_
  refine l_arg (k := 2) B hS hi hN (by decide) rfl dL_law_797 dL_law_798 dL_law_799 dL_law_800 dL_law_801 ?_
  refine l_arg (k := 3) B hS hi hN (by decide) rfl dL_law_802 dL_law_803 dL_law_804 dL_law_805 dL_law_806 ?_
  refine n_call2i (C := RX5) (As := [.int (xs (i + 1)), .int (xs (i + 2)), .int (xs (i + 3))]) (o := 0) (Z9 := (zS l D cI cU cT cS aK aV tb fm)) (ly := lyX) (ad := adX) (τ := b) (wr := (gws lyM (zR l D cI cZ) adM a)) B ⟨rfl, rfl⟩ EOk_SX hX0 (fun U hU => gK_X rfl hU) dL_law_807 (gc0 g_L_111) rfl ⟨rfl, hd_X5_sheet⟩ (by exact ⟨Nat.le_of_ble_eq_true rfl, Nat.le_of_ble_eq_true rfl⟩) ⟨rfl, rfl⟩ rfl rfl (by exact Nat.le_of_ble_eq_true rfl) recv5 (by exact ⟨Nat.le_of_ble_eq_true rfl, Nat.le_of_ble_eq_true rfl⟩) (z_sheet zS_SI hI hR (fun b2 hR2 => ?_))
  refine n_flip ?_
  refine n_aload_n (k := 2) B dL_law_810 rfl ?_
  refine l_arg (k := 1) B hS hi hN (by decide) rfl dL_law_811 dL_law_812 dL_law_813 dL_law_814 dL_law_815 ?_
  refine l_arg (k := 2) B hS hi hN (by decide) rfl dL_law_816 dL_law_817 dL_law_818 dL_law_819 dL_law_820 ?_
  refine l_arg (k := 3) B hS hi hN (by decide) rfl dL_law_821 dL_law_822 dL_law_823 dL_law_824 dL_law_825 ?_
  refine n_call2i (C := RX6) (As := [.int (xs (i + 1)), .int (xs (i + 2)), .int (xs (i + 3))]) (o := 0) (Z9 := (zR l D cI cZ)) (ly := lyM) (ad := adM) (τ := a) (wr := (gws lyX (zS l D cI cU cT cS aK aV tb fm) adX b2)) B ⟨rfl, rfl⟩ EOk_true eN_true (fun U hU => gK_M rfl hU) dL_law_826 (gc0 g_L_114) rfl ⟨rfl, hd_X6_sheet⟩ (by exact ⟨Nat.le_of_ble_eq_true rfl, Nat.le_of_ble_eq_true rfl⟩) ⟨rfl, rfl⟩ rfl rfl (by exact Nat.le_of_ble_eq_true rfl) recvM (by exact ⟨Nat.le_of_ble_eq_true rfl, Nat.le_of_ble_eq_true rfl⟩) (c_sheet  ?_)
  refine n_flip ?_
  refine n_icmp_eq (tgt := 1026) B dL_law_829 (by decide) (fun _ => g _ _ _ _ _ _ _ (INV_sheet hI) (hR2)) (fun h => absurd rfl h)
set_option maxRecDepth 100000 in
theorem L_cell (B : AmbN (zL l D cI cZ cU cT cS) room_1 X A cL_law wsL_law RL 4) (hS : sN X b0 N xs A) (hi : i + 6 ≤ N) (hN : N ≤ 3072) (hX0 : eN X (SX aK aV tb fm) A) (hI : INV a T m c r p) (hR : REL a b T m c r p) (g : ∀ (a b : St) (T : Nat → TC) (m c r p : Nat), INV a T m c r p → REL a b T m c r p → GN (zL l D cI cZ cU cT cS) room_1 X A Q 68 8948 1026 (lL b0 adX adM i) [] (gws lyM (zR l D cI cZ) adM a ++ gws lyX (zS l D cI cU cT cS aK aV tb fm) adX b)) : GN (zL l D cI cZ cU cT cS) room_1 X A Q 68 8948 834 (lL b0 adX adM i) [] (gws lyM (zR l D cI cZ) adM a ++ gws lyX (zS l D cI cU cT cS aK aV tb fm) adX b) := by
  refine n_aload_n (k := 1) B dL_law_834 rfl ?_
  refine l_arg (k := 1) B hS hi hN (by decide) rfl dL_law_835 dL_law_836 dL_law_837 dL_law_838 dL_law_839 ?_
  refine l_arg (k := 2) B hS hi hN (by decide) rfl dL_law_840 dL_law_841 dL_law_842 dL_law_843 dL_law_844 ?_
  refine l_arg (k := 3) B hS hi hN (by decide) rfl dL_law_845 dL_law_846 dL_law_847 dL_law_848 dL_law_849 ?_
  refine n_call2i (C := RX5) (As := [.int (xs (i + 1)), .int (xs (i + 2)), .int (xs (i + 3))]) (o := 0) (Z9 := (zS l D cI cU cT cS aK aV tb fm)) (ly := lyX) (ad := adX) (τ := b) (wr := (gws lyM (zR l D cI cZ) adM a)) B ⟨rfl, rfl⟩ EOk_SX hX0 (fun U hU => gK_X rfl hU) dL_law_850 (gc0 g_L_115) rfl ⟨rfl, hd_X5_cell⟩ (by exact ⟨Nat.le_of_ble_eq_true rfl, Nat.le_of_ble_eq_true rfl⟩) ⟨rfl, rfl⟩ rfl rfl (by exact Nat.le_of_ble_eq_true rfl) recv5 (by exact ⟨Nat.le_of_ble_eq_true rfl, Nat.le_of_ble_eq_true rfl⟩) (z_cell hI hR (fun b2 hR2 => ?_))
  refine n_flip ?_
  refine n_aload_n (k := 2) B dL_law_853 rfl ?_
  refine l_arg (k := 1) B hS hi hN (by decide) rfl dL_law_854 dL_law_855 dL_law_856 dL_law_857 dL_law_858 ?_
  refine l_arg (k := 2) B hS hi hN (by decide) rfl dL_law_859 dL_law_860 dL_law_861 dL_law_862 dL_law_863 ?_
  refine l_arg (k := 3) B hS hi hN (by decide) rfl dL_law_864 dL_law_865 dL_law_866 dL_law_867 dL_law_868 ?_
  refine n_call2i (C := RX6) (As := [.int (xs (i + 1)), .int (xs (i + 2)), .int (xs (i + 3))]) (o := 0) (Z9 := (zR l D cI cZ)) (ly := lyM) (ad := adM) (τ := a) (wr := (gws lyX (zS l D cI cU cT cS aK aV tb fm) adX b2)) B ⟨rfl, rfl⟩ EOk_true eN_true (fun U hU => gK_M rfl hU) dL_law_869 (gc0 g_L_118) rfl ⟨rfl, hd_X6_cell⟩ (by exact ⟨Nat.le_of_ble_eq_true rfl, Nat.le_of_ble_eq_true rfl⟩) ⟨rfl, rfl⟩ rfl rfl (by exact Nat.le_of_ble_eq_true rfl) recvM (by exact ⟨Nat.le_of_ble_eq_true rfl, Nat.le_of_ble_eq_true rfl⟩) (c_cell hI.sho ?_)
  refine n_flip ?_
  refine n_icmp_eq (tgt := 1026) B dL_law_872 (by decide) (fun _ => g _ _ _ _ _ _ _ (INV_cell hI) (hR2)) (fun h => absurd rfl h)
set_option maxRecDepth 100000 in
theorem L_copy (B : AmbN (zL l D cI cZ cU cT cS) room_1 X A cL_law wsL_law RL 4) (hS : sN X b0 N xs A) (hi : i + 6 ≤ N) (hN : N ≤ 3072) (hX0 : eN X (SX aK aV tb fm) A) (hI : INV a T m c r p) (hR : REL a b T m c r p) (g : ∀ (a b : St) (T : Nat → TC) (m c r p : Nat), INV a T m c r p → REL a b T m c r p → GN (zL l D cI cZ cU cT cS) room_1 X A Q 68 8948 1026 (lL b0 adX adM i) [] (gws lyM (zR l D cI cZ) adM a ++ gws lyX (zS l D cI cU cT cS aK aV tb fm) adX b)) : GN (zL l D cI cZ cU cT cS) room_1 X A Q 68 8948 877 (lL b0 adX adM i) [] (gws lyM (zR l D cI cZ) adM a ++ gws lyX (zS l D cI cU cT cS aK aV tb fm) adX b) := by
  refine n_aload_n (k := 1) B dL_law_877 rfl ?_
  refine l_arg (k := 1) B hS hi hN (by decide) rfl dL_law_878 dL_law_879 dL_law_880 dL_law_881 dL_law_882 ?_
  refine l_arg (k := 2) B hS hi hN (by decide) rfl dL_law_883 dL_law_884 dL_law_885 dL_law_886 dL_law_887 ?_
  refine l_arg (k := 3) B hS hi hN (by decide) rfl dL_law_888 dL_law_889 dL_law_890 dL_law_891 dL_law_892 ?_
  refine l_arg (k := 4) B hS hi hN (by decide) rfl dL_law_893 dL_law_894 dL_law_895 dL_law_896 dL_law_897 ?_
  refine l_arg (k := 5) B hS hi hN (by decide) rfl dL_law_898 dL_law_899 dL_law_900 dL_law_901 dL_law_902 ?_
  refine n_call2i (C := RX5) (As := [.int (xs (i + 1)), .int (xs (i + 2)), .int (xs (i + 3)), .int (xs (i + 4)), .int (xs (i + 5))]) (o := 0) (Z9 := (zS l D cI cU cT cS aK aV tb fm)) (ly := lyX) (ad := adX) (τ := b) (wr := (gws lyM (zR l D cI cZ) adM a)) B ⟨rfl, rfl⟩ EOk_SX hX0 (fun U hU => gK_X rfl hU) dL_law_903 (gc0 g_L_119) rfl ⟨rfl, hd_X5_copy⟩ (by exact ⟨Nat.le_of_ble_eq_true rfl, Nat.le_of_ble_eq_true rfl⟩) ⟨rfl, rfl⟩ rfl rfl (by exact Nat.le_of_ble_eq_true rfl) recv5 (by exact ⟨Nat.le_of_ble_eq_true rfl, Nat.le_of_ble_eq_true rfl⟩) (z_copy hI hR (fun b2 hR2 => ?_))
  refine n_flip ?_
  refine n_aload_n (k := 2) B dL_law_906 rfl ?_
  refine l_arg (k := 1) B hS hi hN (by decide) rfl dL_law_907 dL_law_908 dL_law_909 dL_law_910 dL_law_911 ?_
  refine l_arg (k := 2) B hS hi hN (by decide) rfl dL_law_912 dL_law_913 dL_law_914 dL_law_915 dL_law_916 ?_
  refine l_arg (k := 3) B hS hi hN (by decide) rfl dL_law_917 dL_law_918 dL_law_919 dL_law_920 dL_law_921 ?_
  refine l_arg (k := 4) B hS hi hN (by decide) rfl dL_law_922 dL_law_923 dL_law_924 dL_law_925 dL_law_926 ?_
  refine l_arg (k := 5) B hS hi hN (by decide) rfl dL_law_927 dL_law_928 dL_law_929 dL_law_930 dL_law_931 ?_
  refine n_call2i (C := RX6) (As := [.int (xs (i + 1)), .int (xs (i + 2)), .int (xs (i + 3)), .int (xs (i + 4)), .int (xs (i + 5))]) (o := 0) (Z9 := (zR l D cI cZ)) (ly := lyM) (ad := adM) (τ := a) (wr := (gws lyX (zS l D cI cU cT cS aK aV tb fm) adX b2)) B ⟨rfl, rfl⟩ EOk_true eN_true (fun U hU => gK_M rfl hU) dL_law_932 (gc0 g_L_123) rfl ⟨rfl, hd_X6_copy⟩ (by exact ⟨Nat.le_of_ble_eq_true rfl, Nat.le_of_ble_eq_true rfl⟩) ⟨rfl, rfl⟩ rfl rfl (by exact Nat.le_of_ble_eq_true rfl) recvM (by exact ⟨Nat.le_of_ble_eq_true rfl, Nat.le_of_ble_eq_true rfl⟩) (c_copy hI.sho ?_)
  refine n_flip ?_
  refine n_icmp_eq (tgt := 1026) B dL_law_935 (by decide) (fun _ => g _ _ _ _ _ _ _ (INV_copy hI) (hR2)) (fun h => absurd rfl h)
set_option maxRecDepth 100000 in
theorem L_users (B : AmbN (zL l D cI cZ cU cT cS) room_1 X A cL_law wsL_law RL 4) (hS : sN X b0 N xs A) (hi : i + 6 ≤ N) (hN : N ≤ 3072) (hX0 : eN X (SX aK aV tb fm) A) (hI : INV a T m c r p) (hR : REL a b T m c r p) (g : ∀ (a b : St) (T : Nat → TC) (m c r p : Nat), INV a T m c r p → REL a b T m c r p → GN (zL l D cI cZ cU cT cS) room_1 X A Q 68 8948 1026 (lL b0 adX adM i) [] (gws lyM (zR l D cI cZ) adM a ++ gws lyX (zS l D cI cU cT cS aK aV tb fm) adX b)) : GN (zL l D cI cZ cU cT cS) room_1 X A Q 68 8948 940 (lL b0 adX adM i) [] (gws lyM (zR l D cI cZ) adM a ++ gws lyX (zS l D cI cU cT cS aK aV tb fm) adX b) := by
  refine n_aload_n (k := 1) B dL_law_940 rfl ?_
  refine l_arg (k := 1) B hS hi hN (by decide) rfl dL_law_941 dL_law_942 dL_law_943 dL_law_944 dL_law_945 ?_
  refine l_arg (k := 2) B hS hi hN (by decide) rfl dL_law_946 dL_law_947 dL_law_948 dL_law_949 dL_law_950 ?_
  refine l_arg (k := 3) B hS hi hN (by decide) rfl dL_law_951 dL_law_952 dL_law_953 dL_law_954 dL_law_955 ?_
  refine l_arg (k := 4) B hS hi hN (by decide) rfl dL_law_956 dL_law_957 dL_law_958 dL_law_959 dL_law_960 ?_
  refine n_call2i (C := RX5) (As := [.int (xs (i + 1)), .int (xs (i + 2)), .int (xs (i + 3)), .int (xs (i + 4))]) (o := 0) (Z9 := (zS l D cI cU cT cS aK aV tb fm)) (ly := lyX) (ad := adX) (τ := b) (wr := (gws lyM (zR l D cI cZ) adM a)) B ⟨rfl, rfl⟩ EOk_SX hX0 (fun U hU => gK_X rfl hU) dL_law_961 (gc0 g_L_124) rfl ⟨rfl, hd_X5_users⟩ (by exact ⟨Nat.le_of_ble_eq_true rfl, Nat.le_of_ble_eq_true rfl⟩) ⟨rfl, rfl⟩ rfl rfl (by exact Nat.le_of_ble_eq_true rfl) recv5 (by exact ⟨Nat.le_of_ble_eq_true rfl, Nat.le_of_ble_eq_true rfl⟩) (z_users2 hI hR (fun m2 b2 hm2 h11 hR2 => ?_))
  refine n_flip ?_
  refine n_aload_n (k := 2) B dL_law_964 rfl ?_
  refine l_arg (k := 1) B hS hi hN (by decide) rfl dL_law_965 dL_law_966 dL_law_967 dL_law_968 dL_law_969 ?_
  refine l_arg (k := 2) B hS hi hN (by decide) rfl dL_law_970 dL_law_971 dL_law_972 dL_law_973 dL_law_974 ?_
  refine l_arg (k := 3) B hS hi hN (by decide) rfl dL_law_975 dL_law_976 dL_law_977 dL_law_978 dL_law_979 ?_
  refine l_arg (k := 4) B hS hi hN (by decide) rfl dL_law_980 dL_law_981 dL_law_982 dL_law_983 dL_law_984 ?_
  refine n_call2i (C := RX6) (As := [.int (xs (i + 1)), .int (xs (i + 2)), .int (xs (i + 3)), .int (xs (i + 4))]) (o := 0) (Z9 := (zR l D cI cZ)) (ly := lyM) (ad := adM) (τ := a) (wr := (gws lyX (zS l D cI cU cT cS aK aV tb fm) adX b2)) B ⟨rfl, rfl⟩ EOk_true eN_true (fun U hU => gK_M rfl hU) dL_law_985 (gc0 g_L_128) rfl ⟨rfl, hd_X6_users⟩ (by exact ⟨Nat.le_of_ble_eq_true rfl, Nat.le_of_ble_eq_true rfl⟩) ⟨rfl, rfl⟩ rfl rfl (by exact Nat.le_of_ble_eq_true rfl) recvM (by exact ⟨Nat.le_of_ble_eq_true rfl, Nat.le_of_ble_eq_true rfl⟩) (c_users hI.sho hI.1.1.1 hI.1.1.2 ?_)
  refine n_flip ?_
  refine n_icmp_eq (tgt := 1026) B dL_law_988 (by decide) (fun _ => g _ _ _ _ _ _ _ (INV_rU hI hm2 h11) (hR2)) (fun h => absurd rfl h)
set_option maxRecDepth 100000 in
theorem L_taken (B : AmbN (zL l D cI cZ cU cT cS) room_1 X A cL_law wsL_law RL 4) (hS : sN X b0 N xs A) (hi : i + 6 ≤ N) (hN : N ≤ 3072) (hX0 : eN X (SX aK aV tb fm) A) (hI : INV a T m c r p) (hR : REL a b T m c r p) (g : ∀ (a b : St) (T : Nat → TC) (m c r p : Nat), INV a T m c r p → REL a b T m c r p → GN (zL l D cI cZ cU cT cS) room_1 X A Q 68 8948 1026 (lL b0 adX adM i) [] (gws lyM (zR l D cI cZ) adM a ++ gws lyX (zS l D cI cU cT cS aK aV tb fm) adX b)) : GN (zL l D cI cZ cU cT cS) room_1 X A Q 68 8948 993 (lL b0 adX adM i) [] (gws lyM (zR l D cI cZ) adM a ++ gws lyX (zS l D cI cU cT cS aK aV tb fm) adX b) := by
  refine n_aload_n (k := 1) B dL_law_993 rfl ?_
  refine l_arg (k := 1) B hS hi hN (by decide) rfl dL_law_994 dL_law_995 dL_law_996 dL_law_997 dL_law_998 ?_
  refine l_arg (k := 2) B hS hi hN (by decide) rfl dL_law_999 dL_law_1000 dL_law_1001 dL_law_1002 dL_law_1003 ?_
  refine n_call2i (C := RX5) (As := [.int (xs (i + 1)), .int (xs (i + 2))]) (o := 0) (Z9 := (zS l D cI cU cT cS aK aV tb fm)) (ly := lyX) (ad := adX) (τ := b) (wr := (gws lyM (zR l D cI cZ) adM a)) B ⟨rfl, rfl⟩ EOk_SX hX0 (fun U hU => gK_X rfl hU) dL_law_1004 (gc0 g_L_129) rfl ⟨rfl, hd_X5_taken⟩ (by exact ⟨Nat.le_of_ble_eq_true rfl, Nat.le_of_ble_eq_true rfl⟩) ⟨rfl, rfl⟩ rfl rfl (by exact Nat.le_of_ble_eq_true rfl) recv5 (by exact ⟨Nat.le_of_ble_eq_true rfl, Nat.le_of_ble_eq_true rfl⟩) (z_taken zS_SI hI hR ?_)
  refine n_flip ?_
  refine n_aload_n (k := 2) B dL_law_1007 rfl ?_
  refine l_arg (k := 1) B hS hi hN (by decide) rfl dL_law_1008 dL_law_1009 dL_law_1010 dL_law_1011 dL_law_1012 ?_
  refine l_arg (k := 2) B hS hi hN (by decide) rfl dL_law_1013 dL_law_1014 dL_law_1015 dL_law_1016 dL_law_1017 ?_
  refine n_call2i (C := RX6) (As := [.int (xs (i + 1)), .int (xs (i + 2))]) (o := 0) (Z9 := (zR l D cI cZ)) (ly := lyM) (ad := adM) (τ := a) (wr := (gws lyX (zS l D cI cU cT cS aK aV tb fm) adX b)) B ⟨rfl, rfl⟩ EOk_true eN_true (fun U hU => gK_M rfl hU) dL_law_1018 (gc0 g_L_132) rfl ⟨rfl, hd_X6_taken⟩ (by exact ⟨Nat.le_of_ble_eq_true rfl, Nat.le_of_ble_eq_true rfl⟩) ⟨rfl, rfl⟩ rfl rfl (by exact Nat.le_of_ble_eq_true rfl) recvM (by exact ⟨Nat.le_of_ble_eq_true rfl, Nat.le_of_ble_eq_true rfl⟩) (c_taken hI.1.1.1 hI.1.1.2 hI.2.2.1.2.1 ?_)
  refine n_flip ?_
  refine n_icmp_eq (tgt := 1026) B dL_law_1021 (by decide) (fun _ => g _ _ _ _ _ _ _ (hI) (hR)) (fun h => absurd rfl h)
end LAWC
