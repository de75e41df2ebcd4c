/-! copies, users of a sheet, counts, images *reference* -/
theorem upA_1 {τ : St} {o : Nat} {f : Nat → Int32} : (upA τ o f).1 o = f := by simp [upA, va_up]
theorem upA_3 {τ : St} {o o' : Nat} {f : Nat → Int32} (h : o' ≠ o) : (upA τ o f).1 o' = τ.1 o' := by simp [upA, va_up, h]
theorem upA_eq {τ : St} {o : Nat} {f : Nat → Int32} (h : f = τ.1 o) : upA τ o f = τ := by
  subst h
  unfold upA
  have : va_up τ.1 o (τ.1 o) = τ.1 := by
    funext j
    unfold va_up
    split
    · next e => rw [e]
    · rfl
  rw [this]
theorem upS_A {τ : St} {o k : Nat} {f : Nat → Int32} {v : Int32} : upS (upA τ o f) o k v = upA τ o (va_up f k v) := by
  unfold upS upA
  have : va_up (va_up τ.1 o f) o (va_up (va_up τ.1 o f o) k v) = va_up τ.1 o (va_up f k v) := by
    funext j
    unfold va_up
    by_cases e : j = o
    · simp [e]
    · simp [e]
  simp only [this]
def cpA (f : Nat → Int32) (a b lo hi : Nat) : Nat → Int32 := fun j => if b + lo ≤ j ∧ j < b + hi then f (a + (j - b)) else f j
abbrev cpyP (τ : St) (s o : Nat) (i j n : Int32) : Prop := 0 ≤ n.toInt ∧ 0 ≤ i.toInt ∧ 0 ≤ j.toInt ∧ i.toInt + n.toInt ≤ (τ.1 14 s).toInt ∧ j.toInt + n.toInt ≤ (τ.1 14 o).toInt
def fCopy (τ : St) (x i y j n : Int32) : Int32 :=
  if isSh x ∧ isSh y then
    (if τ.1 12 x.toNatClampNeg = 0 ∨ τ.1 12 y.toNatClampNeg = 0 then -11
    else if ¬ τ.1 13 x.toNatClampNeg = τ.1 13 y.toNatClampNeg then -13
    else if cpyP τ x.toNatClampNeg y.toNatClampNeg i j n then n else -12)
  else -2
def gCopy (τ : St) (x i y j n : Int32) : St :=
  if isSh x ∧ isSh y then
    (if τ.1 12 x.toNatClampNeg = 0 ∨ τ.1 12 y.toNatClampNeg = 0 then τ
    else if ¬ τ.1 13 x.toNatClampNeg = τ.1 13 y.toNatClampNeg then τ
    else if cpyP τ x.toNatClampNeg y.toNatClampNeg i j n then upA τ 15 (cpA (τ.1 15) (40 * x.toNatClampNeg + i.toNatClampNeg) (40 * y.toNatClampNeg + j.toNatClampNeg) 0 n.toNatClampNeg) else τ)
  else τ
set_option maxRecDepth 100000 in
set_option maxHeartbeats 4000000 in
theorem l_copy {Z : LZ} {ad : Nat → Nat} {X : CX} {K : Int32 → St → Prop} {τ : St} {s o i j n : Nat} {up : Int32} (B : Amb lyM Z ad (rmk 2) X cX6_copy wsX6_copy RX6 9 (some .int)) (hs : s < 4) (ho : o < 4) (hi : i + n ≤ 40) (hj : j + n ≤ 40) (hup : (¬ up = 0 ∧ s = o ∧ i < j) ∨ (up = 0 ∧ (s ≠ o ∨ j ≤ i))) (hK : K (nI n) (upA τ 15 (cpA (τ.1 15) (40 * s + i) (40 * o + j) 0 n))) : ∀ (r k : Nat), k + r = n → GG lyM Z ad (rmk 2) X (rI K) 121 [some (.ref (ad 0)), some (.int (nI s)), some (.int (nI i)), some (.int (nI o)), some (.int (nI j)), some (.int (nI n)), some (.int up), some (.int (nI k)), none] [] (upA τ 15 (cpA (τ.1 15) (40 * s + i) (40 * o + j) (if up = 0 then 0 else n - k) (if up = 0 then k else n))) := by
  intro r
  induction r using Nat.strongRecOn with
  | ind r ih =>
    intro k h1
    refine g_iload B dX6_copy_121 rfl ?_
    refine g_iload B dX6_copy_123 rfl ?_
    refine g_icmp_ge (tgt := 182) B dX6_copy_125 (by decide) (fun c125 => ?_) (fun c125 => ?_)
    · refine g_iload B dX6_copy_182 rfl ?_
      refine g_ireti B dX6_copy_184 ?_
      rw [nI_leI (by omega) (by omega)] at c125
      have e : k = n := by omega
      subst e
      have e2 : cpA (τ.1 15) (40 * s + i) (40 * o + j) (if up = 0 then 0 else k - k) (if up = 0 then k else k) = cpA (τ.1 15) (40 * s + i) (40 * o + j) 0 k := by
        have a : (if up = 0 then 0 else k - k) = 0 := by split <;> omega
        have b : (if up = 0 then k else k) = k := by split <;> rfl
        rw [a, b]
      rw [e2]
      exact hK
    · rw [nI_leI (by omega) (by omega)] at c125
      refine g_iload B dX6_copy_128 rfl ?_
      refine g_if_eq (tgt := 143) B dX6_copy_130 (by decide) (fun c130 => ?_) (fun c130 => ?_)
      · refine g_iload B dX6_copy_143 rfl ?_
        have hq : ∃ q, q < n ∧ q = (if up = 0 then k else n - 1 - k) := ⟨_, by split <;> omega, rfl⟩
        obtain ⟨q, hq, eq⟩ := hq
        first
          | rw [show nI (n - 1 - k) = nI q from congrArg nI (eq.trans (if_neg c130)).symm]
          | rw [show ∀ L st τ', GG lyM Z ad (rmk 2) X (rI K) 145 L (.int (nI k) :: st) τ' = GG lyM Z ad (rmk 2) X (rI K) 145 L (.int (nI q) :: st) τ' from fun _ _ _ => by rw [eq.trans (if_pos c130)]]
        refine g_istore B dX6_copy_145 (by decide) rfl ?_
        refine g_aload_n B dX6_copy_147 rfl ?_
        refine g_getR (T := TX6) (N := 42) B dX6_copy_148 (by decide) (by rfl) (inq inlX6) rfl 41 (by decide) (mq f_X6_60) (by rfl) ?_
        refine g_bipush (v := (40)) B dX6_copy_151 (by decide) ?_
        refine g_iload_n B dX6_copy_153 rfl ?_
        refine g_imul B dX6_copy_154 ?_
        rw [show (40 : Int32) * nI o = nI (40 * o) from pk_mul 40 o]
        refine g_iload B dX6_copy_155 rfl ?_
        refine g_iadd B dX6_copy_157 ?_
        rw [nI_add]
        refine g_iload B dX6_copy_158 rfl ?_
        refine g_iadd B dX6_copy_160 ?_
        rw [nI_add]
        refine g_aload_n B dX6_copy_161 rfl ?_
        refine g_getR (T := TX6) (N := 42) B dX6_copy_162 (by decide) (by rfl) (inq inlX6) rfl 41 (by decide) (mq f_X6_60) (by rfl) ?_
        refine g_bipush (v := (40)) B dX6_copy_165 (by decide) ?_
        refine g_iload_n B dX6_copy_167 rfl ?_
        refine g_imul B dX6_copy_168 ?_
        rw [show (40 : Int32) * nI s = nI (40 * s) from pk_mul 40 s]
        refine g_iload_n B dX6_copy_169 rfl ?_
        refine g_iadd B dX6_copy_170 ?_
        rw [nI_add]
        refine g_iload B dX6_copy_171 rfl ?_
        refine g_iadd B dX6_copy_173 ?_
        rw [nI_add]
        refine g_iald B dX6_copy_174 (by decide) (by rfl) (by exact vp_in_nI (n := 40 * s + i + q) (by omega) (by omega)) ?_
        rw [i_cl (by omega), upA_1]
        refine g_iast B dX6_copy_175 (by decide) (by rfl) (by exact vp_in_nI (n := 40 * o + j + q) (by omega) (by omega)) ?_
        rw [i_cl (by omega), upS_A]
        refine g_iinc (c9 := (1)) B dX6_copy_176 rfl (by decide) (by decide) rfl ?_
        refine g_goto (tgt := 121) B dX6_copy_179 (by decide) ?_
        rw [nI_1 k]
        refine g_drop 8 ?_
        have h9 := ih (r - 1) (by omega) (k + 1) (by omega)
        have e : va_up (cpA (τ.1 15) (40 * s + i) (40 * o + j) (if up = 0 then 0 else n - k) (if up = 0 then k else n)) (40 * o + j + q) (cpA (τ.1 15) (40 * s + i) (40 * o + j) (if up = 0 then 0 else n - k) (if up = 0 then k else n) (40 * s + i + q)) = cpA (τ.1 15) (40 * s + i) (40 * o + j) (if up = 0 then 0 else n - (k + 1)) (if up = 0 then k + 1 else n) := by
          funext p
          unfold va_up cpA
          by_cases hu : up = 0
          · simp only [if_pos hu] at eq ⊢
            subst eq
            rcases hup with ⟨h, _⟩ | ⟨_, h⟩
            · exact absurd hu h
            · by_cases e1 : p = 40 * o + j + q
              · have n1 : ¬ (40 * o + j + 0 ≤ 40 * s + i + q ∧ 40 * s + i + q < 40 * o + j + q) := by omega
                have n2 : 40 * o + j + 0 ≤ p ∧ p < 40 * o + j + (q + 1) := by omega
                rw [if_pos e1, if_neg n1, if_pos n2]
                exact congrArg (τ.1 15) (by omega)
              · rw [if_neg e1]
                by_cases e2 : 40 * o + j + 0 ≤ p ∧ p < 40 * o + j + q
                · have n2 : 40 * o + j + 0 ≤ p ∧ p < 40 * o + j + (q + 1) := by omega
                  rw [if_pos e2, if_pos n2]
                · have n2 : ¬ (40 * o + j + 0 ≤ p ∧ p < 40 * o + j + (q + 1)) := by omega
                  rw [if_neg e2, if_neg n2]
          · simp only [if_neg hu] at eq ⊢
            rcases hup with ⟨_, h, h2⟩ | ⟨h, _⟩
            · subst h
              by_cases e1 : p = 40 * s + j + q
              · have n1 : ¬ (40 * s + j + (n - k) ≤ 40 * s + i + q ∧ 40 * s + i + q < 40 * s + j + n) := by omega
                have n2 : 40 * s + j + (n - (k + 1)) ≤ p ∧ p < 40 * s + j + n := by omega
                rw [if_pos e1, if_neg n1, if_pos n2]
                exact congrArg (τ.1 15) (by omega)
              · rw [if_neg e1]
                by_cases e2 : 40 * s + j + (n - k) ≤ p ∧ p < 40 * s + j + n
                · have n2 : 40 * s + j + (n - (k + 1)) ≤ p ∧ p < 40 * s + j + n := by omega
                  rw [if_pos e2, if_pos n2]
                · have n2 : ¬ (40 * s + j + (n - (k + 1)) ≤ p ∧ p < 40 * s + j + n) := by omega
                  rw [if_neg e2, if_neg n2]
            · exact absurd h hu
        rw [e]
        exact h9
      · refine g_iload B dX6_copy_133 rfl ?_
        refine g_iconst (v := (1)) B dX6_copy_135 (by decide) ?_
        refine g_isub B dX6_copy_136 ?_
        rw [show nI n - 1 = nI (n - 1) from pk_sub (b := 1) (by omega)]
        refine g_iload B dX6_copy_137 rfl ?_
        refine g_isub B dX6_copy_139 ?_
        rw [show nI (n - 1) - nI k = nI (n - 1 - k) from pk_sub (by omega)]
        refine g_goto (tgt := 145) B dX6_copy_140 (by decide) ?_
        have hq : ∃ q, q < n ∧ q = (if up = 0 then k else n - 1 - k) := ⟨_, by split <;> omega, rfl⟩
        obtain ⟨q, hq, eq⟩ := hq
        first
          | rw [show nI (n - 1 - k) = nI q from congrArg nI (eq.trans (if_neg c130)).symm]
          | rw [show ∀ L st τ', GG lyM Z ad (rmk 2) X (rI K) 145 L (.int (nI k) :: st) τ' = GG lyM Z ad (rmk 2) X (rI K) 145 L (.int (nI q) :: st) τ' from fun _ _ _ => by rw [eq.trans (if_pos c130)]]
        refine g_istore B dX6_copy_145 (by decide) rfl ?_
        refine g_aload_n B dX6_copy_147 rfl ?_
        refine g_getR (T := TX6) (N := 42) B dX6_copy_148 (by decide) (by rfl) (inq inlX6) rfl 41 (by decide) (mq f_X6_60) (by rfl) ?_
        refine g_bipush (v := (40)) B dX6_copy_151 (by decide) ?_
        refine g_iload_n B dX6_copy_153 rfl ?_
        refine g_imul B dX6_copy_154 ?_
        rw [show (40 : Int32) * nI o = nI (40 * o) from pk_mul 40 o]
        refine g_iload B dX6_copy_155 rfl ?_
        refine g_iadd B dX6_copy_157 ?_
        rw [nI_add]
        refine g_iload B dX6_copy_158 rfl ?_
        refine g_iadd B dX6_copy_160 ?_
        rw [nI_add]
        refine g_aload_n B dX6_copy_161 rfl ?_
        refine g_getR (T := TX6) (N := 42) B dX6_copy_162 (by decide) (by rfl) (inq inlX6) rfl 41 (by decide) (mq f_X6_60) (by rfl) ?_
        refine g_bipush (v := (40)) B dX6_copy_165 (by decide) ?_
        refine g_iload_n B dX6_copy_167 rfl ?_
        refine g_imul B dX6_copy_168 ?_
        rw [show (40 : Int32) * nI s = nI (40 * s) from pk_mul 40 s]
        refine g_iload_n B dX6_copy_169 rfl ?_
        refine g_iadd B dX6_copy_170 ?_
        rw [nI_add]
        refine g_iload B dX6_copy_171 rfl ?_
        refine g_iadd B dX6_copy_173 ?_
        rw [nI_add]
        refine g_iald B dX6_copy_174 (by decide) (by rfl) (by exact vp_in_nI (n := 40 * s + i + q) (by omega) (by omega)) ?_
        rw [i_cl (by omega), upA_1]
        refine g_iast B dX6_copy_175 (by decide) (by rfl) (by exact vp_in_nI (n := 40 * o + j + q) (by omega) (by omega)) ?_
        rw [i_cl (by omega), upS_A]
        refine g_iinc (c9 := (1)) B dX6_copy_176 rfl (by decide) (by decide) rfl ?_
        refine g_goto (tgt := 121) B dX6_copy_179 (by decide) ?_
        rw [nI_1 k]
        refine g_drop 8 ?_
        have h9 := ih (r - 1) (by omega) (k + 1) (by omega)
        have e : va_up (cpA (τ.1 15) (40 * s + i) (40 * o + j) (if up = 0 then 0 else n - k) (if up = 0 then k else n)) (40 * o + j + q) (cpA (τ.1 15) (40 * s + i) (40 * o + j) (if up = 0 then 0 else n - k) (if up = 0 then k else n) (40 * s + i + q)) = cpA (τ.1 15) (40 * s + i) (40 * o + j) (if up = 0 then 0 else n - (k + 1)) (if up = 0 then k + 1 else n) := by
          funext p
          unfold va_up cpA
          by_cases hu : up = 0
          · simp only [if_pos hu] at eq ⊢
            subst eq
            rcases hup with ⟨h, _⟩ | ⟨_, h⟩
            · exact absurd hu h
            · by_cases e1 : p = 40 * o + j + q
              · have n1 : ¬ (40 * o + j + 0 ≤ 40 * s + i + q ∧ 40 * s + i + q < 40 * o + j + q) := by omega
                have n2 : 40 * o + j + 0 ≤ p ∧ p < 40 * o + j + (q + 1) := by omega
                rw [if_pos e1, if_neg n1, if_pos n2]
                exact congrArg (τ.1 15) (by omega)
              · rw [if_neg e1]
                by_cases e2 : 40 * o + j + 0 ≤ p ∧ p < 40 * o + j + q
                · have n2 : 40 * o + j + 0 ≤ p ∧ p < 40 * o + j + (q + 1) := by omega
                  rw [if_pos e2, if_pos n2]
                · have n2 : ¬ (40 * o + j + 0 ≤ p ∧ p < 40 * o + j + (q + 1)) := by omega
                  rw [if_neg e2, if_neg n2]
          · simp only [if_neg hu] at eq ⊢
            rcases hup with ⟨_, h, h2⟩ | ⟨h, _⟩
            · subst h
              by_cases e1 : p = 40 * s + j + q
              · have n1 : ¬ (40 * s + j + (n - k) ≤ 40 * s + i + q ∧ 40 * s + i + q < 40 * s + j + n) := by omega
                have n2 : 40 * s + j + (n - (k + 1)) ≤ p ∧ p < 40 * s + j + n := by omega
                rw [if_pos e1, if_neg n1, if_pos n2]
                exact congrArg (τ.1 15) (by omega)
              · rw [if_neg e1]
                by_cases e2 : 40 * s + j + (n - k) ≤ p ∧ p < 40 * s + j + n
                · have n2 : 40 * s + j + (n - (k + 1)) ≤ p ∧ p < 40 * s + j + n := by omega
                  rw [if_pos e2, if_pos n2]
                · have n2 : ¬ (40 * s + j + (n - (k + 1)) ≤ p ∧ p < 40 * s + j + n) := by omega
                  rw [if_neg e2, if_neg n2]
            · exact absurd h hu
        rw [e]
        exact h9
theorem cpA_0 {f : Nat → Int32} {a b lo hi : Nat} (h : hi ≤ lo) : cpA f a b lo hi = f := by
  funext p
  unfold cpA
  rw [if_neg (by omega)]
theorem l_copy0 {Z : LZ} {ad : Nat → Nat} {X : CX} {K : Int32 → St → Prop} {τ : St} {s o i j n : Nat} {up : Int32} (B : Amb lyM Z ad (rmk 2) X cX6_copy wsX6_copy RX6 9 (some .int)) (hs : s < 4) (ho : o < 4) (hi : i + n ≤ 40) (hj : j + n ≤ 40) (hup : (¬ up = 0 ∧ s = o ∧ i < j) ∨ (up = 0 ∧ (s ≠ o ∨ j ≤ i))) (hK : K (nI n) (upA τ 15 (cpA (τ.1 15) (40 * s + i) (40 * o + j) 0 n))) : GG lyM Z ad (rmk 2) X (rI K) 121 [some (.ref (ad 0)), some (.int (nI s)), some (.int (nI i)), some (.int (nI o)), some (.int (nI j)), some (.int (nI n)), some (.int up), some (.int 0), none] [] τ := by
  have h9 := l_copy B hs ho hi hj hup hK n 0 (by omega)
  rw [cpA_0 (by by_cases q : up = 0 <;> simp [q]), upA_eq rfl] at h9
  exact h9
set_option maxRecDepth 100000 in
set_option maxHeartbeats 4000000 in
theorem c_copy {Z : LZ} {ad : Nat → Nat} {τ : St} {K : Int32 → St → Prop} {x i y j n : Int32} (hS : SHO τ) (hK : K (fCopy τ x i y j n) (gCopy τ x i y j n)) : CC lyM Z ad yX6_copy wsX6_copy (rmk 2) [.ref (ad 0), .int x, .int i, .int y, .int j, .int n] τ (rI K) := by
  refine CC.of (cc := cX6_copy) (nL := 9) (ret := (some .int)) rfl rfl ⟨rfl, rfl⟩ (by exact Nat.le_of_ble_eq_true rfl) ?_
  intro X B
  change GG _ _ _ _ X _ 0 [some (.ref (ad 0)), some (.int x), some (.int i), some (.int y), some (.int j), some (.int n), none, none, none] [] _
  change Amb _ _ _ _ X _ _ RX6 _ _ at B
  unfold fCopy gCopy at hK
  refine g_iload_n B dX6_copy_0 rfl ?_
  refine g_callSi (As := [.int _]) B dX6_copy_1 (gc1 g_X6_391) (by rfl) hd_X6_isSheet (by exact ⟨Nat.le_of_ble_eq_true rfl, Nat.le_of_ble_eq_true rfl⟩) ⟨rfl, rfl⟩ rfl rfl (by exact Nat.le_of_ble_eq_true rfl) (c_isSheet ?_)
  refine g_if_eq (tgt := 14) B dX6_copy_4 (by decide) (fun c4 => ?_) (fun c4 => ?_)
  · have hno : ¬ (isSh x ∧ isSh y) := fun q => by
      first
      | exact b1_0.mp c4 q.1
      | exact b1_0.mp c11 q.2
    rw [if_neg hno, if_neg hno] at hK
    refine g_bipush (v := (-2)) B dX6_copy_14 (by decide) ?_
    refine g_ireti B dX6_copy_16 ?_
    exact hK
  · refine g_iload_n B dX6_copy_7 rfl ?_
    refine g_callSi (As := [.int _]) B dX6_copy_8 (gc1 g_X6_391) (by rfl) hd_X6_isSheet (by exact ⟨Nat.le_of_ble_eq_true rfl, Nat.le_of_ble_eq_true rfl⟩) ⟨rfl, rfl⟩ rfl rfl (by exact Nat.le_of_ble_eq_true rfl) (c_isSheet ?_)
    refine g_if_ne (tgt := 17) B dX6_copy_11 (by decide) (fun c11 => ?_) (fun c11 => ?_)
    · have h4 := b1_n0.mp c4
      have h11 := b1_n0.mp c11
      rw [if_pos (And.intro h4 h11), if_pos (And.intro h4 h11)] at hK
      obtain ⟨s, hs, rfl⟩ := i_nat (n := 4) h4.1 (by have := h4.2; omega)
      obtain ⟨o, ho, rfl⟩ := i_nat (n := 4) h11.1 (by have := h11.2; omega)
      rw [i_cl (by omega), i_cl (by omega)] at hK
      refine g_aload_n B dX6_copy_17 rfl ?_
      refine g_getR (T := TX6) (N := 42) B dX6_copy_18 (by decide) (by rfl) (inq inlX6) rfl 38 (by decide) (mq f_X6_51) (by rfl) ?_
      refine g_iload_n B dX6_copy_21 rfl ?_
      refine g_zald B dX6_copy_22 (by decide) (by rfl) (by exact vp_in_nI hs (by omega)) ?_
      rw [i_cl (by omega)]
      refine g_if_eq (tgt := 35) B dX6_copy_23 (by decide) (fun c23 => ?_) (fun c23 => ?_)
      · have hno : τ.1 12 s = 0 ∨ τ.1 12 o = 0 := by
          first
          | exact Or.inl c23
          | exact Or.inr c32
        rw [if_pos hno, if_pos hno] at hK
        refine g_bipush (v := (-11)) B dX6_copy_35 (by decide) ?_
        refine g_ireti B dX6_copy_37 ?_
        exact hK
      · refine g_aload_n B dX6_copy_26 rfl ?_
        refine g_getR (T := TX6) (N := 42) B dX6_copy_27 (by decide) (by rfl) (inq inlX6) rfl 38 (by decide) (mq f_X6_51) (by rfl) ?_
        refine g_iload_n B dX6_copy_30 rfl ?_
        refine g_zald B dX6_copy_31 (by decide) (by rfl) (by exact vp_in_nI ho (by omega)) ?_
        rw [i_cl (by omega)]
        refine g_if_ne (tgt := 38) B dX6_copy_32 (by decide) (fun c32 => ?_) (fun c32 => ?_)
        · have hno : ¬ (τ.1 12 s = 0 ∨ τ.1 12 o = 0) := fun q => q.elim c23 c32
          rw [if_neg hno, if_neg hno] at hK
          refine g_aload_n B dX6_copy_38 rfl ?_
          refine g_getR (T := TX6) (N := 42) B dX6_copy_39 (by decide) (by rfl) (inq inlX6) rfl 39 (by decide) (mq f_X6_54) (by rfl) ?_
          refine g_iload_n B dX6_copy_42 rfl ?_
          refine g_iald B dX6_copy_43 (by decide) (by rfl) (by exact vp_in_nI hs (by omega)) ?_
          rw [i_cl (by omega)]
          refine g_aload_n B dX6_copy_44 rfl ?_
          refine g_getR (T := TX6) (N := 42) B dX6_copy_45 (by decide) (by rfl) (inq inlX6) rfl 39 (by decide) (mq f_X6_54) (by rfl) ?_
          refine g_iload_n B dX6_copy_48 rfl ?_
          refine g_iald B dX6_copy_49 (by decide) (by rfl) (by exact vp_in_nI ho (by omega)) ?_
          rw [i_cl (by omega)]
          refine g_icmp_eq (tgt := 56) B dX6_copy_50 (by decide) (fun c50 => ?_) (fun c50 => ?_)
          · rw [if_neg (show ¬ ¬ (τ.1 13 s = τ.1 13 o) from fun q => q c50), if_neg (show ¬ ¬ (τ.1 13 s = τ.1 13 o) from fun q => q c50)] at hK
            obtain ⟨ns, hns, hzs⟩ := hS s hs c23
            obtain ⟨no, hno2, hzo⟩ := hS o ho c32
            have ens : (τ.1 14 s).toInt = ns := by rw [hzs, i_n (by omega)]
            have eno : (τ.1 14 o).toInt = no := by rw [hzo, i_n (by omega)]
            refine g_iload B dX6_copy_56 rfl ?_
            refine g_if_lt (tgt := 97) B dX6_copy_58 (by decide) (fun c58 => ?_) (fun c58 => ?_)
            · have hno : ¬ cpyP τ s o i j n := fun q => by
                obtain ⟨q1, q2, q3, q4, q5⟩ := q
                rw [ens] at q4
                rw [eno] at q5
                first
                | (rw [i_lt, i0] at c58; omega)
                | (rw [i_lt, i0] at c62; omega)
                | (rw [i_lt, i0] at c67; omega)
                | (rw [i_lt, hs1] at c80; omega)
                | (rw [i_le, hs2] at c94; omega)
              rw [if_neg hno, if_neg hno] at hK
              refine g_bipush (v := (-12)) B dX6_copy_97 (by decide) ?_
              refine g_ireti B dX6_copy_99 ?_
              exact hK
            · refine g_iload_n B dX6_copy_61 rfl ?_
              refine g_if_lt (tgt := 97) B dX6_copy_62 (by decide) (fun c62 => ?_) (fun c62 => ?_)
              · have hno : ¬ cpyP τ s o i j n := fun q => by
                  obtain ⟨q1, q2, q3, q4, q5⟩ := q
                  rw [ens] at q4
                  rw [eno] at q5
                  first
                  | (rw [i_lt, i0] at c58; omega)
                  | (rw [i_lt, i0] at c62; omega)
                  | (rw [i_lt, i0] at c67; omega)
                  | (rw [i_lt, hs1] at c80; omega)
                  | (rw [i_le, hs2] at c94; omega)
                rw [if_neg hno, if_neg hno] at hK
                refine g_bipush (v := (-12)) B dX6_copy_97 (by decide) ?_
                refine g_ireti B dX6_copy_99 ?_
                exact hK
              · refine g_iload B dX6_copy_65 rfl ?_
                refine g_if_lt (tgt := 97) B dX6_copy_67 (by decide) (fun c67 => ?_) (fun c67 => ?_)
                · have hno : ¬ cpyP τ s o i j n := fun q => by
                    obtain ⟨q1, q2, q3, q4, q5⟩ := q
                    rw [ens] at q4
                    rw [eno] at q5
                    first
                    | (rw [i_lt, i0] at c58; omega)
                    | (rw [i_lt, i0] at c62; omega)
                    | (rw [i_lt, i0] at c67; omega)
                    | (rw [i_lt, hs1] at c80; omega)
                    | (rw [i_le, hs2] at c94; omega)
                  rw [if_neg hno, if_neg hno] at hK
                  refine g_bipush (v := (-12)) B dX6_copy_97 (by decide) ?_
                  refine g_ireti B dX6_copy_99 ?_
                  exact hK
                · refine g_iload_n B dX6_copy_70 rfl ?_
                  refine g_aload_n B dX6_copy_71 rfl ?_
                  refine g_getR (T := TX6) (N := 42) B dX6_copy_72 (by decide) (by rfl) (inq inlX6) rfl 40 (by decide) (mq f_X6_57) (by rfl) ?_
                  refine g_iload_n B dX6_copy_75 rfl ?_
                  refine g_iald B dX6_copy_76 (by decide) (by rfl) (by exact vp_in_nI hs (by omega)) ?_
                  rw [i_cl (by omega)]
                  refine g_iload B dX6_copy_77 rfl ?_
                  refine g_isub B dX6_copy_79 ?_
                  have hn0 : 0 ≤ n.toInt := by have := c58; rw [i_lt, i0] at this; omega
                  have hs1 : (τ.1 14 s - n).toInt = ns - n.toInt := by rw [i_sub, ens] <;> (rw [ens]; have := i_rng n; omega)
                  refine g_icmp_gt (tgt := 97) B dX6_copy_80 (by decide) (fun c80 => ?_) (fun c80 => ?_)
                  · have hno : ¬ cpyP τ s o i j n := fun q => by
                      obtain ⟨q1, q2, q3, q4, q5⟩ := q
                      rw [ens] at q4
                      rw [eno] at q5
                      first
                      | (rw [i_lt, i0] at c58; omega)
                      | (rw [i_lt, i0] at c62; omega)
                      | (rw [i_lt, i0] at c67; omega)
                      | (rw [i_lt, hs1] at c80; omega)
                      | (rw [i_le, hs2] at c94; omega)
                    rw [if_neg hno, if_neg hno] at hK
                    refine g_bipush (v := (-12)) B dX6_copy_97 (by decide) ?_
                    refine g_ireti B dX6_copy_99 ?_
                    exact hK
                  · refine g_iload B dX6_copy_83 rfl ?_
                    refine g_aload_n B dX6_copy_85 rfl ?_
                    refine g_getR (T := TX6) (N := 42) B dX6_copy_86 (by decide) (by rfl) (inq inlX6) rfl 40 (by decide) (mq f_X6_57) (by rfl) ?_
                    refine g_iload_n B dX6_copy_89 rfl ?_
                    refine g_iald B dX6_copy_90 (by decide) (by rfl) (by exact vp_in_nI ho (by omega)) ?_
                    rw [i_cl (by omega)]
                    refine g_iload B dX6_copy_91 rfl ?_
                    refine g_isub B dX6_copy_93 ?_
                    have hs2 : (τ.1 14 o - n).toInt = no - n.toInt := by rw [i_sub, eno] <;> (rw [eno]; have := i_rng n; omega)
                    refine g_icmp_le (tgt := 100) B dX6_copy_94 (by decide) (fun c94 => ?_) (fun c94 => ?_)
                    · have hi0 : 0 ≤ i.toInt := by have := c62; rw [i_lt, i0] at this; omega
                      have hj0 : 0 ≤ j.toInt := by have := c67; rw [i_lt, i0] at this; omega
                      have hin : i.toInt + n.toInt ≤ ns := by have := c80; rw [i_lt, hs1] at this; omega
                      have hjn : j.toInt + n.toInt ≤ no := by have := c94; rw [i_le, hs2] at this; omega
                      have hyes : cpyP τ s o i j n := ⟨hn0, hi0, hj0, by rw [ens]; exact hin, by rw [eno]; exact hjn⟩
                      rw [if_pos hyes, if_pos hyes] at hK
                      obtain ⟨i', hi', rfl⟩ := i_nat (n := 41) hi0 (by omega)
                      obtain ⟨j', hj', rfl⟩ := i_nat (n := 41) hj0 (by omega)
                      obtain ⟨n', hn', rfl⟩ := i_nat (n := 41) hn0 (by omega)
                      rw [i_n (by omega), i_n (by omega)] at hin hjn
                      rw [i_cl (by omega), i_cl (by omega), i_cl (by omega)] at hK
                      refine g_iload_n B dX6_copy_100 rfl ?_
                      refine g_iload_n B dX6_copy_101 rfl ?_
                      refine g_icmp_ne (tgt := 115) B dX6_copy_102 (by decide) (fun c102 => ?_) (fun c102 => ?_)
                      · refine g_iconst (v := (0)) B dX6_copy_115 (by decide) ?_
                        have hup : ∀ v : Int32, v = (if s = o ∧ i' < j' then 1 else 0) → (¬ v = 0 ∧ s = o ∧ i' < j') ∨ (v = 0 ∧ (s ≠ o ∨ j' ≤ i')) := fun v e => by
                          subst e
                          by_cases q : s = o ∧ i' < j'
                          · rw [if_pos q]; exact Or.inl ⟨by decide, q⟩
                          · rw [if_neg q]; exact Or.inr ⟨rfl, by omega⟩
                        refine g_istore B dX6_copy_116 (by decide) rfl ?_
                        refine g_iconst (v := (0)) B dX6_copy_118 (by decide) ?_
                        refine g_istore B dX6_copy_119 (by decide) rfl ?_
                        refine l_copy0 B hs ho (by omega) (by omega) (hup _ ?_) hK
                        first
                        | exact (if_pos (And.intro ((nI_eqI (by omega) (by omega)).mp c102) (Nat.lt_of_not_le (fun q => c108 ((nI_leI (by omega) (by omega)).mpr q))))).symm
                        | exact (if_neg (fun q => c102 (congrArg nI q.1))).symm
                        | exact (if_neg (fun q => absurd ((nI_leI (by omega) (by omega)).mp c108) (Nat.not_le.mpr q.2))).symm
                      · refine g_iload_n B dX6_copy_105 rfl ?_
                        refine g_iload B dX6_copy_106 rfl ?_
                        refine g_icmp_ge (tgt := 115) B dX6_copy_108 (by decide) (fun c108 => ?_) (fun c108 => ?_)
                        · refine g_iconst (v := (0)) B dX6_copy_115 (by decide) ?_
                          have hup : ∀ v : Int32, v = (if s = o ∧ i' < j' then 1 else 0) → (¬ v = 0 ∧ s = o ∧ i' < j') ∨ (v = 0 ∧ (s ≠ o ∨ j' ≤ i')) := fun v e => by
                            subst e
                            by_cases q : s = o ∧ i' < j'
                            · rw [if_pos q]; exact Or.inl ⟨by decide, q⟩
                            · rw [if_neg q]; exact Or.inr ⟨rfl, by omega⟩
                          refine g_istore B dX6_copy_116 (by decide) rfl ?_
                          refine g_iconst (v := (0)) B dX6_copy_118 (by decide) ?_
                          refine g_istore B dX6_copy_119 (by decide) rfl ?_
                          refine l_copy0 B hs ho (by omega) (by omega) (hup _ ?_) hK
                          first
                          | exact (if_pos (And.intro ((nI_eqI (by omega) (by omega)).mp c102) (Nat.lt_of_not_le (fun q => c108 ((nI_leI (by omega) (by omega)).mpr q))))).symm
                          | exact (if_neg (fun q => c102 (congrArg nI q.1))).symm
                          | exact (if_neg (fun q => absurd ((nI_leI (by omega) (by omega)).mp c108) (Nat.not_le.mpr q.2))).symm
                        · refine g_iconst (v := (1)) B dX6_copy_111 (by decide) ?_
                          refine g_goto (tgt := 116) B dX6_copy_112 (by decide) ?_
                          have hup : ∀ v : Int32, v = (if s = o ∧ i' < j' then 1 else 0) → (¬ v = 0 ∧ s = o ∧ i' < j') ∨ (v = 0 ∧ (s ≠ o ∨ j' ≤ i')) := fun v e => by
                            subst e
                            by_cases q : s = o ∧ i' < j'
                            · rw [if_pos q]; exact Or.inl ⟨by decide, q⟩
                            · rw [if_neg q]; exact Or.inr ⟨rfl, by omega⟩
                          refine g_istore B dX6_copy_116 (by decide) rfl ?_
                          refine g_iconst (v := (0)) B dX6_copy_118 (by decide) ?_
                          refine g_istore B dX6_copy_119 (by decide) rfl ?_
                          refine l_copy0 B hs ho (by omega) (by omega) (hup _ ?_) hK
                          first
                          | exact (if_pos (And.intro ((nI_eqI (by omega) (by omega)).mp c102) (Nat.lt_of_not_le (fun q => c108 ((nI_leI (by omega) (by omega)).mpr q))))).symm
                          | exact (if_neg (fun q => c102 (congrArg nI q.1))).symm
                          | exact (if_neg (fun q => absurd ((nI_leI (by omega) (by omega)).mp c108) (Nat.not_le.mpr q.2))).symm
                    · have hno : ¬ cpyP τ s o i j n := fun q => by
                        obtain ⟨q1, q2, q3, q4, q5⟩ := q
                        rw [ens] at q4
                        rw [eno] at q5
                        first
                        | (rw [i_lt, i0] at c58; omega)
                        | (rw [i_lt, i0] at c62; omega)
                        | (rw [i_lt, i0] at c67; omega)
                        | (rw [i_lt, hs1] at c80; omega)
                        | (rw [i_le, hs2] at c94; omega)
                      rw [if_neg hno, if_neg hno] at hK
                      refine g_bipush (v := (-12)) B dX6_copy_97 (by decide) ?_
                      refine g_ireti B dX6_copy_99 ?_
                      exact hK
          · rw [if_pos c50, if_pos c50] at hK
            refine g_bipush (v := (-13)) B dX6_copy_53 (by decide) ?_
            refine g_ireti B dX6_copy_55 ?_
            exact hK
        · have hno : τ.1 12 s = 0 ∨ τ.1 12 o = 0 := by
            first
            | exact Or.inl c23
            | exact Or.inr c32
          rw [if_pos hno, if_pos hno] at hK
          refine g_bipush (v := (-11)) B dX6_copy_35 (by decide) ?_
          refine g_ireti B dX6_copy_37 ?_
          exact hK
    · have hno : ¬ (isSh x ∧ isSh y) := fun q => by
        first
        | exact b1_0.mp c4 q.1
        | exact b1_0.mp c11 q.2
      rw [if_neg hno, if_neg hno] at hK
      refine g_bipush (v := (-2)) B dX6_copy_14 (by decide) ?_
      refine g_ireti B dX6_copy_16 ?_
      exact hK

