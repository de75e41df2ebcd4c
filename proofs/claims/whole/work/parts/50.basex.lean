/-! the program's layout: 0 the object; 1 colds 2 names 3 stack 4 drawnColds 5 limits 6 ahead; 7 crowd 8 texts 9 sheets; 10 Image 11 Reader 12 guess; 13 Image.colds 14 numbers 15 towns; 16 tape 17 sorts 18 values 19 places; users u + 20, texts k + 26, codes k + 32, ends k + 38, sheets s + 44, items s + 48 -/
def ksX : List Nat := [4, 0, 10, 0, 15, 14, 11, 0, 0, 12, 13, 5, 6, 7, 8, 9]
def loU (n : Nat) : LO := if n < 6 then .inl (4, [0, 0, 0]) else if n < 12 then .inl (3, [n + 29, n + 35, 0]) else if n < 18 then .inr (.int, (160, none)) else if n < 24 then .inr (.int, (3, none)) else if n < 28 then .inl (2, [0, 0, n + 27]) else .inr (.int, (40, none))
def loX : Nat → LO
  | 0 => .inl (5, ksX)
  | 1 => .inr (.int, (30, none))
  | 2 => .inr (.int, (6, none))
  | 3 => .inr (.int, (40, none))
  | 4 => .inr (.int, (30, none))
  | 5 => .inr (.int, (60, none))
  | 6 => .inr (.int, (1800, none))
  | 7 => .inr (.object "OneWinter$User", (6, some (fun j => j + 20)))
  | 8 => .inr (.object "OneWinter$Text", (6, some (fun j => j + 26)))
  | 9 => .inr (.object "OneWinter$Sheet", (4, some (fun j => j + 44)))
  | 10 => .inl (0, [0, 16, 0, 0, 0, 17, 18])
  | 11 => .inl (1, [19, 0, 0, 20, 21, 22, 0, 0, 2])
  | 12 => .inl (4, [0, 0, 0])
  | 13 => .inr (.int, (30, none))
  | 14 => .inr (.int, (6, none))
  | 15 => .inr (.int, (6, none))
  | 16 => .inr (.int, (160, none))
  | 17 => .inr (.int, (161, none))
  | 18 => .inr (.int, (161, none))
  | 19 => .inr (.int, (161, none))
  | n + 20 => loU n
def lyX : Lay := (loX, 52)
theorem lo_u {u : Nat} (h : u < 6) : lyX.1 (u + 20) = .inl (4, [0, 0, 0]) := if_pos h
theorem lo_t {k : Nat} (h : k < 6) : lyX.1 (k + 26) = .inl (3, [k + 35, k + 41, 0]) := by
  show loU (k + 6) = _
  unfold loU
  rw [if_neg (by omega), if_pos (by omega)]
theorem lo_c {k : Nat} (h : k < 6) : lyX.1 (k + 32) = .inr (.int, (160, none)) := by
  show loU (k + 12) = _
  unfold loU
  rw [if_neg (by omega), if_neg (by omega), if_pos (by omega)]
theorem lo_e {k : Nat} (h : k < 6) : lyX.1 (k + 38) = .inr (.int, (3, none)) := by
  show loU (k + 18) = _
  unfold loU
  rw [if_neg (by omega), if_neg (by omega), if_neg (by omega), if_pos (by omega)]
theorem lo_s {k : Nat} (h : k < 4) : lyX.1 (k + 44) = .inl (2, [0, 0, k + 51]) := by
  show loU (k + 24) = _
  unfold loU
  rw [if_neg (by omega), if_neg (by omega), if_neg (by omega), if_neg (by omega), if_pos (by omega)]
theorem lo_i {k : Nat} (h : k < 4) : lyX.1 (k + 48) = .inr (.int, (40, none)) := by
  show loU (k + 28) = _
  unfold loU
  rw [if_neg (by omega), if_neg (by omega), if_neg (by omega), if_neg (by omega), if_neg (by omega)]
theorem hX {o : Nat} (h : o < 52) : o < lyX.2 := h
theorem recv5 : ∃ (ci : Nat) (r : vw_C) (ks : List Nat), 0 < lyX.2 ∧ lyX.1 0 = .inl (ci, ks) ∧ vwCl[ci]? = some r ∧ r.1 = RX5 := ⟨5, (RX5, TX5, 16), ksX, by decide, rfl, rfl, rfl⟩
theorem recv0 : ∃ (ci : Nat) (r : vw_C) (ks : List Nat), 10 < lyX.2 ∧ lyX.1 10 = .inl (ci, ks) ∧ vwCl[ci]? = some r ∧ r.1 = RX0 := ⟨0, (RX0, TX0, 7), [0, 16, 0, 0, 0, 17, 18], by decide, rfl, rfl, rfl⟩
theorem recv1 : ∃ (ci : Nat) (r : vw_C) (ks : List Nat), 11 < lyX.2 ∧ lyX.1 11 = .inl (ci, ks) ∧ vwCl[ci]? = some r ∧ r.1 = RX1 := ⟨1, (RX1, TX1, 9), [19, 0, 0, 20, 21, 22, 0, 0, 2], by decide, rfl, rfl, rfl⟩
theorem recvG : ∃ (ci : Nat) (r : vw_C) (ks : List Nat), 12 < lyX.2 ∧ lyX.1 12 = .inl (ci, ks) ∧ vwCl[ci]? = some r ∧ r.1 = RX4 := ⟨4, (RX4, TX4, 3), [0, 0, 0], by decide, rfl, rfl, rfl⟩
theorem recv4 {u : Nat} (h : u < 6) : ∃ (ci : Nat) (r : vw_C) (ks : List Nat), u + 20 < lyX.2 ∧ lyX.1 (u + 20) = .inl (ci, ks) ∧ vwCl[ci]? = some r ∧ r.1 = RX4 := ⟨4, (RX4, TX4, 3), [0, 0, 0], hX (by omega), lo_u h, rfl, rfl⟩
theorem recv3 {k : Nat} (h : k < 6) : ∃ (ci : Nat) (r : vw_C) (ks : List Nat), k + 26 < lyX.2 ∧ lyX.1 (k + 26) = .inl (ci, ks) ∧ vwCl[ci]? = some r ∧ r.1 = RX3 := ⟨3, (RX3, TX3, 3), [k + 35, k + 41, 0], hX (by omega), lo_t h, rfl, rfl⟩
theorem recv2 {s : Nat} (h : s < 4) : ∃ (ci : Nat) (r : vw_C) (ks : List Nat), s + 44 < lyX.2 ∧ lyX.1 (s + 44) = .inl (ci, ks) ∧ vwCl[ci]? = some r ∧ r.1 = RX2 := ⟨2, (RX2, TX2, 3), [0, 0, s + 51], hX (by omega), lo_s h, rfl, rfl⟩
