/-! how many nights are town 1's *bits counted* program *share* -/
theorem and1 (x r M : Nat) (hr : r < 256) : x &&& (r + 256 * M) = (x % 256 &&& r) + 256 * (x / 256 &&& M) := by
  have h1 : (x &&& (r + 256 * M)) % 2 ^ 8 = x % 2 ^ 8 &&& (r + 256 * M) % 2 ^ 8 := Nat.and_mod_two_pow
  have h2 : (x &&& (r + 256 * M)) / 2 ^ 8 = x / 2 ^ 8 &&& (r + 256 * M) / 2 ^ 8 := Nat.and_div_two_pow
  rw [show (2 : Nat) ^ 8 = 256 from rfl] at h1 h2
  rw [show (r + 256 * M) % 256 = r by omega] at h1
  rw [show (r + 256 * M) / 256 = M by omega] at h2
  rw [← h1, ← h2]
  omega
theorem and4 (x r : Nat) (hr : r < 256) : x &&& (r + 256 * (r + 256 * (r + 256 * r))) = (x % 256 &&& r) + 256 * ((x / 256 % 256 &&& r) + 256 * ((x / 65536 % 256 &&& r) + 256 * (x / 16777216 &&& r))) := by
  rw [and1 x r _ hr, and1 (x / 256) r _ hr, and1 (x / 256 / 256) r _ hr, Nat.div_div_eq_div_mul, Nat.div_div_eq_div_mul]
def f1B (b : Nat) : Nat := b - (b / 2 &&& 85)
def f2B (c : Nat) : Nat := (c &&& 51) + (c / 4 &&& 51)
def pcB (b : Nat) : Nat := b % 2 + b / 2 % 2 + b / 4 % 2 + b / 8 % 2 + b / 16 % 2 + b / 32 % 2 + b / 64 % 2 + b / 128 % 2
theorem bA : ∀ b, b < 256 → (b / 2 &&& 85) ≤ b ∧ ∀ e, e < 2 → (b / 2 + 128 * e) &&& 85 = b / 2 &&& 85 := by decide +kernel
theorem bB : ∀ b, b < 256 → f1B b < 256 ∧ (f1B b &&& 51) + (f1B b / 4 &&& 51) ≤ 68 ∧ f2B (f1B b) % 16 ≤ 4 ∧ ∀ e, e < 4 → (f1B b / 4 + 64 * e) &&& 51 = f1B b / 4 &&& 51 := by decide +kernel
theorem bC : ∀ b, b < 256 → ∀ e, e < 5 → (f2B (f1B b) + f2B (f1B b) / 16 + 16 * e) &&& 15 = pcB b := by decide +kernel
theorem pc_le (b : Nat) : pcB b ≤ 8 := by unfold pcB; omega
def bcN (n : Nat) : Nat :=
  let n1 := n - (n / 2 &&& 1431655765)
  let n2 := (n1 &&& 858993459) + (n1 / 4 &&& 858993459)
  let n3 := (n2 + n2 / 16) &&& 252645135
  let n4 := n3 + n3 / 256
  let n5 := n4 + n4 / 65536
  n5 % 64
/-- four bytes -/
def q4 (a b c d : Nat) : Nat := a + 256 * (b + 256 * (c + 256 * d))
theorem and4q {a b c d r : Nat} (ha : a < 256) (hb : b < 256) (hc : c < 256) (hr : r < 256) : q4 a b c d &&& q4 r r r r = q4 (a &&& r) (b &&& r) (c &&& r) (d &&& r) := by
  have h := and4 (q4 a b c d) r hr
  rw [show q4 a b c d % 256 = a by unfold q4; omega, show q4 a b c d / 256 % 256 = b by unfold q4; omega, show q4 a b c d / 65536 % 256 = c by unfold q4; omega, show q4 a b c d / 16777216 = d by unfold q4; omega] at h
  exact h
theorem stp1 {a b c d : Nat} (ha : a < 256) (hb : b < 256) (hc : c < 256) (hd : d < 256) : q4 a b c d / 2 &&& 1431655765 = q4 (a / 2 &&& 85) (b / 2 &&& 85) (c / 2 &&& 85) (d / 2 &&& 85) := by
  rw [show q4 a b c d / 2 = q4 (a / 2 + 128 * (b % 2)) (b / 2 + 128 * (c % 2)) (c / 2 + 128 * (d % 2)) (d / 2) by unfold q4; omega, show (1431655765 : Nat) = q4 85 85 85 85 from rfl, and4q (by omega) (by omega) (by omega) (by omega), (bA a ha).2 _ (by omega), (bA b hb).2 _ (by omega), (bA c hc).2 _ (by omega)]
theorem bcN_eq {a b c d : Nat} (ha : a < 256) (hb : b < 256) (hc : c < 256) (hd : d < 256) : bcN (q4 a b c d) = pcB a + pcB b + pcB c + pcB d := by
  unfold bcN
  dsimp only
  rw [stp1 ha hb hc hd]
  have a1 := (bA a ha).1
  have b1' := (bA b hb).1
  have c1 := (bA c hc).1
  have d1 := (bA d hd).1
  rw [show q4 a b c d - q4 (a / 2 &&& 85) (b / 2 &&& 85) (c / 2 &&& 85) (d / 2 &&& 85) = q4 (f1B a) (f1B b) (f1B c) (f1B d) by unfold q4 f1B; omega]
  obtain ⟨a2, a3, a4, a5⟩ := bB a ha
  obtain ⟨b2, b3, b4, b5⟩ := bB b hb
  obtain ⟨c2, c3, c4, c5⟩ := bB c hc
  obtain ⟨d2, d3, d4, d5⟩ := bB d hd
  have ca := bC a ha
  have cb := bC b hb
  have cc := bC c hc
  have cd := bC d hd
  have ea : f2B (f1B a) = (f1B a &&& 51) + (f1B a / 4 &&& 51) := rfl
  have eb : f2B (f1B b) = (f1B b &&& 51) + (f1B b / 4 &&& 51) := rfl
  have ec : f2B (f1B c) = (f1B c &&& 51) + (f1B c / 4 &&& 51) := rfl
  have ed : f2B (f1B d) = (f1B d &&& 51) + (f1B d / 4 &&& 51) := rfl
  generalize f1B a = A at *
  generalize f1B b = Bb at *
  generalize f1B c = Cc at *
  generalize f1B d = D at *
  rw [show (858993459 : Nat) = q4 51 51 51 51 from rfl, and4q (by omega) (by omega) (by omega) (by omega)]
  rw [show q4 A Bb Cc D / 4 = q4 (A / 4 + 64 * (Bb % 4)) (Bb / 4 + 64 * (Cc % 4)) (Cc / 4 + 64 * (D % 4)) (D / 4) by unfold q4; omega, and4q (by omega) (by omega) (by omega) (by omega), a5 _ (by omega), b5 _ (by omega), c5 _ (by omega)]
  rw [show q4 (A &&& 51) (Bb &&& 51) (Cc &&& 51) (D &&& 51) + q4 (A / 4 &&& 51) (Bb / 4 &&& 51) (Cc / 4 &&& 51) (D / 4 &&& 51) = q4 (f2B A) (f2B Bb) (f2B Cc) (f2B D) by unfold q4; omega]
  rw [← ea] at a3
  rw [← eb] at b3
  rw [← ec] at c3
  rw [← ed] at d3
  generalize f2B A = A' at *
  generalize f2B Bb = B' at *
  generalize f2B Cc = C' at *
  generalize f2B D = D' at *
  rw [show q4 A' B' C' D' + q4 A' B' C' D' / 16 = q4 (A' + A' / 16 + 16 * (B' % 16)) (B' + B' / 16 + 16 * (C' % 16)) (C' + C' / 16 + 16 * (D' % 16)) (D' + D' / 16) by unfold q4; omega]
  rw [show (252645135 : Nat) = q4 15 15 15 15 from rfl, and4q (by omega) (by omega) (by omega) (by omega), ca _ (by omega), cb _ (by omega), cc _ (by omega), show (D' + D' / 16) &&& 15 = pcB d from cd 0 (by omega)]
  have p1 := pc_le a
  have p2 := pc_le b
  have p3 := pc_le c
  have p4 := pc_le d
  generalize pcB a = w at *
  generalize pcB b = x at *
  generalize pcB c = y at *
  generalize pcB d = z at *
  rw [show q4 w x y z + q4 w x y z / 256 = q4 (w + x) (x + y) (y + z) z by unfold q4; omega]
  rw [show q4 (w + x) (x + y) (y + z) z + q4 (w + x) (x + y) (y + z) z / 65536 = q4 (w + x + y + z) (x + y + z) (y + z) z by unfold q4; omega]
  unfold q4
  omega
def smN (f : Nat → Nat) : Nat → Nat
  | 0 => 0
  | n + 1 => smN f n + f n
theorem smT_N {f : Nat → Nat} : ∀ n, smT (fun t => nI (f t)) n = nI (smN f n)
  | 0 => rfl
  | n + 1 => by
    show smT (fun t => nI (f t)) n + nI (f n) = nI (smN f n + f n)
    rw [smT_N n, nI_add]
theorem smN_cg {f g : Nat → Nat} : ∀ n, (∀ i, i < n → f i = g i) → smN f n = smN g n
  | 0, _ => rfl
  | n + 1, h => by
    show smN f n + f n = smN g n + g n
    rw [smN_cg n (fun i hi => h i (by omega)), h n (by omega)]
theorem pc_sum (n : Nat) (hn : n < 1073741824) : smN (fun t => n / 2 ^ t % 2) 30 = pcB (n % 256) + pcB (n / 256 % 256) + pcB (n / 65536 % 256) + pcB (n / 16777216) := by
  show ((((((((((((((((((((((((((((((0 + n / 2 ^ 0 % 2) + n / 2 ^ 1 % 2) + n / 2 ^ 2 % 2) + n / 2 ^ 3 % 2) + n / 2 ^ 4 % 2) + n / 2 ^ 5 % 2) + n / 2 ^ 6 % 2) + n / 2 ^ 7 % 2) + n / 2 ^ 8 % 2) + n / 2 ^ 9 % 2) + n / 2 ^ 10 % 2) + n / 2 ^ 11 % 2) + n / 2 ^ 12 % 2) + n / 2 ^ 13 % 2) + n / 2 ^ 14 % 2) + n / 2 ^ 15 % 2) + n / 2 ^ 16 % 2) + n / 2 ^ 17 % 2) + n / 2 ^ 18 % 2) + n / 2 ^ 19 % 2) + n / 2 ^ 20 % 2) + n / 2 ^ 21 % 2) + n / 2 ^ 22 % 2) + n / 2 ^ 23 % 2) + n / 2 ^ 24 % 2) + n / 2 ^ 25 % 2) + n / 2 ^ 26 % 2) + n / 2 ^ 27 % 2) + n / 2 ^ 28 % 2) + n / 2 ^ 29 % 2) = _
  simp only [show (2 : Nat) ^ 0 = 1 from rfl, show (2 : Nat) ^ 1 = 2 from rfl, show (2 : Nat) ^ 2 = 4 from rfl, show (2 : Nat) ^ 3 = 8 from rfl, show (2 : Nat) ^ 4 = 16 from rfl, show (2 : Nat) ^ 5 = 32 from rfl, show (2 : Nat) ^ 6 = 64 from rfl, show (2 : Nat) ^ 7 = 128 from rfl, show (2 : Nat) ^ 8 = 256 from rfl, show (2 : Nat) ^ 9 = 512 from rfl, show (2 : Nat) ^ 10 = 1024 from rfl, show (2 : Nat) ^ 11 = 2048 from rfl, show (2 : Nat) ^ 12 = 4096 from rfl, show (2 : Nat) ^ 13 = 8192 from rfl, show (2 : Nat) ^ 14 = 16384 from rfl, show (2 : Nat) ^ 15 = 32768 from rfl, show (2 : Nat) ^ 16 = 65536 from rfl, show (2 : Nat) ^ 17 = 131072 from rfl, show (2 : Nat) ^ 18 = 262144 from rfl, show (2 : Nat) ^ 19 = 524288 from rfl, show (2 : Nat) ^ 20 = 1048576 from rfl, show (2 : Nat) ^ 21 = 2097152 from rfl, show (2 : Nat) ^ 22 = 4194304 from rfl, show (2 : Nat) ^ 23 = 8388608 from rfl, show (2 : Nat) ^ 24 = 16777216 from rfl, show (2 : Nat) ^ 25 = 33554432 from rfl, show (2 : Nat) ^ 26 = 67108864 from rfl, show (2 : Nat) ^ 27 = 134217728 from rfl, show (2 : Nat) ^ 28 = 268435456 from rfl, show (2 : Nat) ^ 29 = 536870912 from rfl, Nat.div_one]
  unfold pcB
  rw [show n % 256 % 2 = n % 2 by omega]
  rw [show n % 256 / 2 % 2 = n / 2 % 2 by omega]
  rw [show n % 256 / 4 % 2 = n / 4 % 2 by omega]
  rw [show n % 256 / 8 % 2 = n / 8 % 2 by omega]
  rw [show n % 256 / 16 % 2 = n / 16 % 2 by omega]
  rw [show n % 256 / 32 % 2 = n / 32 % 2 by omega]
  rw [show n % 256 / 64 % 2 = n / 64 % 2 by omega]
  rw [show n % 256 / 128 % 2 = n / 128 % 2 by omega]
  rw [show n / 256 % 256 % 2 = n / 256 % 2 by omega]
  rw [show n / 256 % 256 / 2 % 2 = n / 512 % 2 by omega]
  rw [show n / 256 % 256 / 4 % 2 = n / 1024 % 2 by omega]
  rw [show n / 256 % 256 / 8 % 2 = n / 2048 % 2 by omega]
  rw [show n / 256 % 256 / 16 % 2 = n / 4096 % 2 by omega]
  rw [show n / 256 % 256 / 32 % 2 = n / 8192 % 2 by omega]
  rw [show n / 256 % 256 / 64 % 2 = n / 16384 % 2 by omega]
  rw [show n / 256 % 256 / 128 % 2 = n / 32768 % 2 by omega]
  rw [show n / 65536 % 256 % 2 = n / 65536 % 2 by omega]
  rw [show n / 65536 % 256 / 2 % 2 = n / 131072 % 2 by omega]
  rw [show n / 65536 % 256 / 4 % 2 = n / 262144 % 2 by omega]
  rw [show n / 65536 % 256 / 8 % 2 = n / 524288 % 2 by omega]
  rw [show n / 65536 % 256 / 16 % 2 = n / 1048576 % 2 by omega]
  rw [show n / 65536 % 256 / 32 % 2 = n / 2097152 % 2 by omega]
  rw [show n / 65536 % 256 / 64 % 2 = n / 4194304 % 2 by omega]
  rw [show n / 65536 % 256 / 128 % 2 = n / 8388608 % 2 by omega]
  rw [show n / 16777216 / 2 % 2 = n / 33554432 % 2 by omega]
  rw [show n / 16777216 / 4 % 2 = n / 67108864 % 2 by omega]
  rw [show n / 16777216 / 8 % 2 = n / 134217728 % 2 by omega]
  rw [show n / 16777216 / 16 % 2 = n / 268435456 % 2 by omega]
  rw [show n / 16777216 / 32 % 2 = n / 536870912 % 2 by omega]
  rw [show n / 16777216 / 64 % 2 = 0 by omega]
  rw [show n / 16777216 / 128 % 2 = 0 by omega]
  omega
theorem nI_and {a b : Nat} (ha : a < 4294967296) (hb : b < 4294967296) : nI a &&& nI b = nI (a &&& b) := by
  apply Int32.toBitVec_inj.mp
  apply BitVec.eq_of_toNat_eq
  have h := @Nat.and_le_left a b
  rw [Int32.toBitVec_and, BitVec.toNat_and, pk_tn (by omega), pk_tn (by omega), pk_tn (by omega)]
theorem q4_of (n : Nat) : n = q4 (n % 256) (n / 256 % 256) (n / 65536 % 256) (n / 16777216) := by
  unfold q4
  omega
theorem sm_pc {sh : Int32} (h : shR sh) : smT (sTw sh) 30 = nI (bcN sh.toBitVec.toNat) := by
  have h1 := i_cases sh
  have hn : sh.toBitVec.toNat < 1073741824 := by
    have := h.1
    have := h.2
    have := sh.toBitVec.isLt
    omega
  unfold sTw
  rw [smT_N, pc_sum _ hn]
  conv => rhs; rw [q4_of sh.toBitVec.toNat]
  rw [bcN_eq (by omega) (by omega) (by omega) (by omega)]
set_option maxRecDepth 100000 in
set_option maxHeartbeats 4000000 in
theorem j_bits {ly : Lay} {Z : LZ} {ad : Nat → Nat} {τ : St} {K : Int32 → St → Prop} {sh : Int32} (h : shR sh) (hK : K (smT (sTw sh) 30) τ) : CC ly Z ad yJ6_bitCount_0f7a4 wsJ6_bitCount_0f7a4 (rmk 0) [.int sh] τ (rI K) := by
  refine CC.of (cc := cJ6_bitCount_0f7a4) (nL := 1) (ret := (some .int)) rfl rfl ⟨rfl, rfl⟩ (by exact Nat.le_of_ble_eq_true rfl) ?_
  intro X B
  change GG _ _ _ _ X _ 0 [some (.int sh)] [] _
  change Amb _ _ _ _ X _ _ RJ6 _ _ at B
  rw [sm_pc h] at hK
  have h1 := i_cases sh
  obtain ⟨n, hn, rfl⟩ : ∃ n, n < 1073741824 ∧ sh = nI n := by
    obtain ⟨n, hn, e⟩ := i_nat (n := 1073741824) h.1 (by have := h.2; omega)
    exact ⟨n, hn, e⟩
  rw [pk_tn (by omega)] at hK
  have e1 := stp1 (a := n % 256) (b := n / 256 % 256) (c := n / 65536 % 256) (d := n / 16777216) (by omega) (by omega) (by omega) (by omega)
  rw [← q4_of n] at e1
  have a1 := (bA (n % 256) (by omega)).1
  have a2 := (bA (n / 256 % 256) (by omega)).1
  have a3 := (bA (n / 65536 % 256) (by omega)).1
  have a4 := (bA (n / 16777216) (by omega)).1
  have l1 : (n / 2 &&& 1431655765) ≤ n := Nat.le_trans (Nat.and_le_left) (Nat.div_le_self _ _)
  unfold bcN at hK
  dsimp only at hK
  generalize hn1 : n - (n / 2 &&& 1431655765) = n1 at hK
  have b1 : n1 < 4294967296 := by omega
  generalize hn2 : (n1 &&& 858993459) + (n1 / 4 &&& 858993459) = n2 at hK
  have b2 : n2 < 2147483648 := by
    have := @Nat.and_le_right n1 858993459
    have := @Nat.and_le_right (n1 / 4) 858993459
    omega
  generalize hn3 : (n2 + n2 / 16) &&& 252645135 = n3 at hK
  have b3 : n3 < 268435456 := by
    have := @Nat.and_le_right (n2 + n2 / 16) 252645135
    omega
  generalize hn4 : n3 + n3 / 256 = n4 at hK
  generalize hn5 : n4 + n4 / 65536 = n5 at hK
  refine g_iload_n B dJ6_bitCount_0f7a4_0 rfl ?_
  refine g_iload_n B dJ6_bitCount_0f7a4_1 rfl ?_
  refine g_iconst (v := (1)) B dJ6_bitCount_0f7a4_2 (by decide) ?_
  refine g_iushr B dJ6_bitCount_0f7a4_3 rfl ?_
  rw [pk_ushrN (by omega) 1 1 (by decide)]
  refine g_ldcw (v := (1431655765)) B dJ6_bitCount_0f7a4_4 (mq k_J6_265) ?_
  refine g_iand B dJ6_bitCount_0f7a4_7 ?_
  rw [show ((1431655765 : Int32)) = nI 1431655765 from rfl, nI_and (by omega) (by omega), show n / 2 ^ 1 = n / 2 from rfl]
  refine g_isub B dJ6_bitCount_0f7a4_8 ?_
  rw [pk_sub l1, hn1]
  refine g_istore_n B dJ6_bitCount_0f7a4_9 (by decide) rfl ?_
  refine g_iload_n B dJ6_bitCount_0f7a4_10 rfl ?_
  refine g_ldcw (v := (858993459)) B dJ6_bitCount_0f7a4_11 (mq k_J6_266) ?_
  refine g_iand B dJ6_bitCount_0f7a4_14 ?_
  rw [show ((858993459 : Int32)) = nI 858993459 from rfl, nI_and (by omega) (by omega)]
  refine g_iload_n B dJ6_bitCount_0f7a4_15 rfl ?_
  refine g_iconst (v := (2)) B dJ6_bitCount_0f7a4_16 (by decide) ?_
  refine g_iushr B dJ6_bitCount_0f7a4_17 rfl ?_
  rw [pk_ushrN (by omega) 2 2 (by decide)]
  refine g_ldcw (v := (858993459)) B dJ6_bitCount_0f7a4_18 (mq k_J6_266) ?_
  refine g_iand B dJ6_bitCount_0f7a4_21 ?_
  rw [show ((858993459 : Int32)) = nI 858993459 from rfl, nI_and (by omega) (by omega), show n1 / 2 ^ 2 = n1 / 4 from rfl]
  refine g_iadd B dJ6_bitCount_0f7a4_22 ?_
  rw [nI_add, hn2]
  refine g_istore_n B dJ6_bitCount_0f7a4_23 (by decide) rfl ?_
  refine g_iload_n B dJ6_bitCount_0f7a4_24 rfl ?_
  refine g_iload_n B dJ6_bitCount_0f7a4_25 rfl ?_
  refine g_iconst (v := (4)) B dJ6_bitCount_0f7a4_26 (by decide) ?_
  refine g_iushr B dJ6_bitCount_0f7a4_27 rfl ?_
  rw [pk_ushrN (by omega) 4 4 (by decide)]
  refine g_iadd B dJ6_bitCount_0f7a4_28 ?_
  rw [nI_add, show n2 / 2 ^ 4 = n2 / 16 from rfl]
  refine g_ldcw (v := (252645135)) B dJ6_bitCount_0f7a4_29 (mq k_J6_267) ?_
  refine g_iand B dJ6_bitCount_0f7a4_32 ?_
  rw [show ((252645135 : Int32)) = nI 252645135 from rfl, nI_and (by omega) (by omega), hn3]
  refine g_istore_n B dJ6_bitCount_0f7a4_33 (by decide) rfl ?_
  refine g_iload_n B dJ6_bitCount_0f7a4_34 rfl ?_
  refine g_iload_n B dJ6_bitCount_0f7a4_35 rfl ?_
  refine g_bipush (v := (8)) B dJ6_bitCount_0f7a4_36 (by decide) ?_
  refine g_iushr B dJ6_bitCount_0f7a4_38 rfl ?_
  rw [pk_ushrN (by omega) 8 8 (by decide)]
  refine g_iadd B dJ6_bitCount_0f7a4_39 ?_
  rw [nI_add, show n3 / 2 ^ 8 = n3 / 256 from rfl, hn4]
  refine g_istore_n B dJ6_bitCount_0f7a4_40 (by decide) rfl ?_
  refine g_iload_n B dJ6_bitCount_0f7a4_41 rfl ?_
  refine g_iload_n B dJ6_bitCount_0f7a4_42 rfl ?_
  refine g_bipush (v := (16)) B dJ6_bitCount_0f7a4_43 (by decide) ?_
  refine g_iushr B dJ6_bitCount_0f7a4_45 rfl ?_
  rw [pk_ushrN (by omega) 16 16 (by decide)]
  refine g_iadd B dJ6_bitCount_0f7a4_46 ?_
  rw [nI_add, show n4 / 2 ^ 16 = n4 / 65536 from rfl, hn5]
  refine g_istore_n B dJ6_bitCount_0f7a4_47 (by decide) rfl ?_
  refine g_iload_n B dJ6_bitCount_0f7a4_48 rfl ?_
  refine g_bipush (v := (63)) B dJ6_bitCount_0f7a4_49 (by decide) ?_
  refine g_iand B dJ6_bitCount_0f7a4_51 ?_
  rw [pk_andN (by omega) 6 (by decide)]
  refine g_ireti B dJ6_bitCount_0f7a4_52 ?_
  exact hK
set_option maxRecDepth 100000 in
set_option maxHeartbeats 4000000 in
theorem x_share {Z : LZ} {ad : Nat → Nat} {τ : St} {K : Int32 → St → Prop} {x : Int32} {m : Nat} {V : VW} (hX : XV τ 1 V m) (hs : shR (τ.1 0 1)) (hK : ∀ τ', pkz [2, 3] [] τ τ' → K (fShare V (τ.1 0 1) x) τ') : CC lyX Z ad yX5_share wsX5_share (rmk 6) [.ref (ad 0), .int x] τ (rI K) := by
  refine CC.of (cc := cX5_share) (nL := 2) (ret := (some .int)) rfl rfl ⟨rfl, rfl⟩ (by exact Nat.le_of_ble_eq_true rfl) ?_
  intro X B
  change GG _ _ _ _ X _ 0 [some (.ref (ad 0)), some (.int x)] [] _
  change Amb _ _ _ _ X _ _ RX5 _ _ at B
  unfold fShare at hK
  refine g_iload_n B dX5_share_0 rfl ?_
  refine g_tsw (dt := 64) B dX5_share_1 (by decide) (by rfl) (by decide) (fun c1 => ?_) (And.intro (fun c1 => ?_) (And.intro (fun c1 => ?_) (And.intro (fun c1 => ?_) (And.intro (fun c1 => ?_) trivial))))
  · refine g_bipush (v := (-2)) B dX5_share_64 (by decide) ?_
    refine g_ireti B dX5_share_66 ?_
    have h9 := hK τ pkz.rf
    rw [if_neg (by omega)] at h9
    exact h9
  · change GG _ _ _ _ _ _ 32 _ _ _
    change _ = (0 : Int32) at c1
    refine g_aload_n B dX5_share_32 rfl ?_
    refine g_callVi (C := RX5) (As := []) B dX5_share_33 (gc1 g_X5_163) (by rfl) ⟨rfl, hd_X5_firstTooLong⟩ (by exact ⟨Nat.le_of_ble_eq_true rfl, Nat.le_of_ble_eq_true rfl⟩) ⟨rfl, rfl⟩ rfl rfl (by exact Nat.le_of_ble_eq_true rfl) recv5 (x_first hX (fun τ1 p1 => ?_))
    refine g_iconst (v := (-1)) B dX5_share_36 (by decide) ?_
    refine g_icmp_ne (tgt := 44) B dX5_share_37 (by decide) (fun c37 => ?_) (fun c37 => ?_)
    · refine g_iconst (v := (0)) B dX5_share_44 (by decide) ?_
      refine g_ireti B dX5_share_45 ?_
      subst c1
      have h9 := hK τ1 p1
      rw [if_pos (by decide), if_neg (by decide), if_pos rfl] at h9
      first
        | (rw [b1_t c37] at h9; exact h9)
        | (rw [b1_f c37] at h9; exact h9)
    · refine g_iconst (v := (1)) B dX5_share_40 (by decide) ?_
      refine g_goto (tgt := 45) B dX5_share_41 (by decide) ?_
      refine g_ireti B dX5_share_45 ?_
      subst c1
      have h9 := hK τ1 p1
      rw [if_pos (by decide), if_neg (by decide), if_pos rfl] at h9
      first
        | (rw [b1_t c37] at h9; exact h9)
        | (rw [b1_f c37] at h9; exact h9)
  · change GG _ _ _ _ _ _ 46 _ _ _
    change _ = (1 : Int32) at c1
    refine g_aload_n B dX5_share_46 rfl ?_
    refine g_callVi (C := RX5) (As := []) B dX5_share_47 (gc1 g_X5_163) (by rfl) ⟨rfl, hd_X5_firstTooLong⟩ (by exact ⟨Nat.le_of_ble_eq_true rfl, Nat.le_of_ble_eq_true rfl⟩) ⟨rfl, rfl⟩ rfl rfl (by exact Nat.le_of_ble_eq_true rfl) recv5 (x_first hX (fun τ1 p1 => ?_))
    refine g_ireti B dX5_share_50 ?_
    subst c1
    have h9 := hK τ1 p1
    rw [if_pos (by decide), if_pos rfl] at h9
    exact h9
  · change GG _ _ _ _ _ _ 51 _ _ _
    change _ = (2 : Int32) at c1
    refine g_aload_n B dX5_share_51 rfl ?_
    refine g_callVi (C := RX5) (As := []) B dX5_share_52 (gc1 g_X5_167) (by rfl) ⟨rfl, hd_X5_longest⟩ (by exact ⟨Nat.le_of_ble_eq_true rfl, Nat.le_of_ble_eq_true rfl⟩) ⟨rfl, rfl⟩ rfl rfl (by exact Nat.le_of_ble_eq_true rfl) recv5 (x_long ?_)
    refine g_ireti B dX5_share_55 ?_
    subst c1
    have h9 := hK τ pkz.rf
    rw [if_pos (by decide), if_neg (by decide), if_neg (by decide), if_pos rfl] at h9
    exact h9
  · change GG _ _ _ _ _ _ 56 _ _ _
    change _ = (3 : Int32) at c1
    refine g_aload_n B dX5_share_56 rfl ?_
    refine g_getI (T := TX5) (N := 16) B dX5_share_57 (by decide) (by rfl) (inq inlX5) rfl 1 (by decide) (mq f_X5_13) (by rfl) ?_
    refine g_callSi (As := [.int _]) B dX5_share_60 (gc1 g_X5_170) (by rfl) hd_J6_bitCount_0f7a4 (by exact ⟨Nat.le_of_ble_eq_true rfl, Nat.le_of_ble_eq_true rfl⟩) ⟨rfl, rfl⟩ rfl rfl (by exact Nat.le_of_ble_eq_true rfl) (j_bits hs ?_)
    refine g_ireti B dX5_share_63 ?_
    subst c1
    have h9 := hK τ pkz.rf
    rw [if_pos (by decide), if_neg (by decide), if_neg (by decide), if_neg (by decide)] at h9
    exact h9
theorem z_share {Z : LZ} {ad : Nat → Nat} {a b : St} {T : Nat → TC} {m c r p : Nat} {K : Int32 → St → Prop} {x : Int32} (hI : INV a T m c r p) (hR : REL a b T m c r p) (hK : ∀ b', REL a b' T m c r p → K (fShare (vM a (T r)) (a.1 0 7) x) b') : CC lyX Z ad yX5_share wsX5_share (rmk 6) [.ref (ad 0), .int x] b (rI K) :=
  x_share (hR.xv hI) (by rw [hR.1.1]; exact hI.2.1.1) (fun b' q => by rw [hR.1.1]; exact hK b' (hR.x q okD23 okK0 hI.1.2.1.2.1))

