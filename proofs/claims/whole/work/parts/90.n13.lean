/-! the classes' numbers out of the words *the law's start* -/
theorem wi5 : Cond.instantiable RX5 16 ∈ wsL_law := in_r1 _ (by decide +kernel)
theorem wi6 : Cond.instantiable RX6 42 ∈ wsL_law := in_r1 _ (by decide +kernel)
theorem law_D {args : Array Value} {s : State} (hts : ∀ w ∈ wsL_law, w.before args s = true) : ∃ D : va_G, va_K D vwCl [] s := by
  obtain ⟨c0, i0, h0⟩ := u_known (ws := wsL_law) (C := RX0) (T := TX0) (N := 7) hts inlX0 (hts _ wi_X0)
  obtain ⟨c1, i1, h1⟩ := u_known (ws := wsL_law) (C := RX1) (T := TX1) (N := 9) hts inlX1 (hts _ wi_X1)
  obtain ⟨c2, i2, h2⟩ := u_known (ws := wsL_law) (C := RX2) (T := TX2) (N := 3) hts inlX2 (hts _ wi_X2)
  obtain ⟨c3, i3, h3⟩ := u_known (ws := wsL_law) (C := RX3) (T := TX3) (N := 3) hts inlX3 (hts _ wi_X3)
  obtain ⟨c4, i4, h4⟩ := u_known (ws := wsL_law) (C := RX4) (T := TX4) (N := 3) hts inlX4 (hts _ wi_X4)
  obtain ⟨c5, i5, h5⟩ := u_known (ws := wsL_law) (C := RX5) (T := TX5) (N := 16) hts inlX5 (hts _ wi5)
  obtain ⟨c6, i6, h6⟩ := u_known (ws := wsL_law) (C := RX6) (T := TX6) (N := 42) hts inlX6 (hts _ wi6)
  refine ⟨(fun k => [c0, c1, c2, c3, c4, c5, c6].getD k c0, fun k => [i0, i1, i2, i3, i4, i5, i6].getD k i0), fun c q hq => ?_, fun k q hk => by cases hk⟩
  match c, hq with
  | 0, hq => cases hq; exact h0
  | 1, hq => cases hq; exact h1
  | 2, hq => cases hq; exact h2
  | 3, hq => cases hq; exact h3
  | 4, hq => cases hq; exact h4
  | 5, hq => cases hq; exact h5
  | 6, hq => cases hq; exact h6
  | k + 7, hq => cases hq
