/-! the first text, written *program* -/
def wA (τ : St) (k n : Nat) (c : Int32) : St := upS (upS τ (k + 32) n c) (k + 26) 2 (nI (n + 1))
def wE (τ : St) (k q : Nat) : St := upS τ (k + 38) q (τ.1 (k + 26) 2)
def wF (τ : St) (k : Nat) : St := wE (wA (wE (wA (wE (wA τ k 0 (-1)) k 0) k 1 1) k 1) k 2 9) k 2
theorem wE_n {τ : St} {k n q : Nat} {c : Int32} : (wE (wA τ k n c) k q).1 (k + 26) 2 = nI (n + 1) := by
  unfold wE wA
  rw [upS_3 (by omega), upS_1]
set_option maxRecDepth 100000 in
set_option maxHeartbeats 4000000 in
theorem x_wF {Z : LZ} {ad : Nat → Nat} {τ : St} {K : St → Prop} {k : Nat} (hk : k < 6) (hn : τ.1 (k + 26) 2 = nI 0) (hK : K (wF τ k)) : CC lyX Z ad yX3_writeFirst wsX3_writeFirst (rmk 1) [.ref (ad (k + 26))] τ (rV K) := by
  refine CC.of (cc := cX3_writeFirst) (nL := 1) (ret := none) rfl rfl ⟨rfl, rfl⟩ (by exact Nat.le_of_ble_eq_true rfl) ?_
  intro X B
  change GG _ _ _ _ X _ 0 [some (.ref (ad (k + 26)))] [] _
  change Amb _ _ _ _ X _ _ RX3 _ _ at B
  refine g_aload_n B dX3_writeFirst_0 rfl ?_
  refine g_iconst (v := (-1)) B dX3_writeFirst_1 (by decide) ?_
  refine g_callVi (C := RX3) (As := [.int _]) B dX3_writeFirst_2 (gc1 g_X3_22) (by rfl) ⟨rfl, hd_X3_add⟩ (by exact ⟨Nat.le_of_ble_eq_true rfl, Nat.le_of_ble_eq_true rfl⟩) ⟨rfl, rfl⟩ rfl rfl (by exact Nat.le_of_ble_eq_true rfl) (recv3 hk) (x_add (k := k) (n := 0) hk hn (by decide) ?_)
  refine g_pop B dX3_writeFirst_5 rfl ?_
  refine g_aload_n B dX3_writeFirst_6 rfl ?_
  refine g_iconst (v := (0)) B dX3_writeFirst_7 (by decide) ?_
  refine g_callVv (C := RX3) (As := [.int _]) B dX3_writeFirst_8 (gc1 g_X3_26) (by rfl) ⟨rfl, hd_X3_endPart⟩ (by exact ⟨Nat.le_of_ble_eq_true rfl, Nat.le_of_ble_eq_true rfl⟩) ⟨rfl, rfl⟩ rfl rfl (by exact Nat.le_of_ble_eq_true rfl) (recv3 hk) (x_endP (k := k) (q := 0) hk rfl (by decide) ?_)
  refine g_aload_n B dX3_writeFirst_11 rfl ?_
  refine g_iconst (v := (1)) B dX3_writeFirst_12 (by decide) ?_
  refine g_callVi (C := RX3) (As := [.int _]) B dX3_writeFirst_13 (gc1 g_X3_22) (by rfl) ⟨rfl, hd_X3_add⟩ (by exact ⟨Nat.le_of_ble_eq_true rfl, Nat.le_of_ble_eq_true rfl⟩) ⟨rfl, rfl⟩ rfl rfl (by exact Nat.le_of_ble_eq_true rfl) (recv3 hk) (x_add (k := k) (n := 1) hk wE_n (by decide) ?_)
  refine g_pop B dX3_writeFirst_16 rfl ?_
  refine g_aload_n B dX3_writeFirst_17 rfl ?_
  refine g_iconst (v := (1)) B dX3_writeFirst_18 (by decide) ?_
  refine g_callVv (C := RX3) (As := [.int _]) B dX3_writeFirst_19 (gc1 g_X3_26) (by rfl) ⟨rfl, hd_X3_endPart⟩ (by exact ⟨Nat.le_of_ble_eq_true rfl, Nat.le_of_ble_eq_true rfl⟩) ⟨rfl, rfl⟩ rfl rfl (by exact Nat.le_of_ble_eq_true rfl) (recv3 hk) (x_endP (k := k) (q := 1) hk rfl (by decide) ?_)
  refine g_aload_n B dX3_writeFirst_22 rfl ?_
  refine g_bipush (v := (9)) B dX3_writeFirst_23 (by decide) ?_
  refine g_callVi (C := RX3) (As := [.int _]) B dX3_writeFirst_25 (gc1 g_X3_22) (by rfl) ⟨rfl, hd_X3_add⟩ (by exact ⟨Nat.le_of_ble_eq_true rfl, Nat.le_of_ble_eq_true rfl⟩) ⟨rfl, rfl⟩ rfl rfl (by exact Nat.le_of_ble_eq_true rfl) (recv3 hk) (x_add (k := k) (n := 2) hk wE_n (by decide) ?_)
  refine g_pop B dX3_writeFirst_28 rfl ?_
  refine g_aload_n B dX3_writeFirst_29 rfl ?_
  refine g_iconst (v := (2)) B dX3_writeFirst_30 (by decide) ?_
  refine g_callVv (C := RX3) (As := [.int _]) B dX3_writeFirst_31 (gc1 g_X3_26) (by rfl) ⟨rfl, hd_X3_endPart⟩ (by exact ⟨Nat.le_of_ble_eq_true rfl, Nat.le_of_ble_eq_true rfl⟩) ⟨rfl, rfl⟩ rfl rfl (by exact Nat.le_of_ble_eq_true rfl) (recv3 hk) (x_endP (k := k) (q := 2) hk rfl (by decide) ?_)
  refine g_vreti B dX3_writeFirst_34 ?_
  exact hK

