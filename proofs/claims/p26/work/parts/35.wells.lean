/-! what isWell asks of a court -/
theorem rsn_2 {Z : CV} {a n c : Nat} (h8 : Z 8 n = 0) (h : Z 10 c = nI n) : rsn Z a n c = nI 2 := by
  rw [rsn, rsnq, if_neg (Classical.not_not.mpr h8), if_pos h]; rfl
theorem rsn_1 {Z : CV} {a n : Nat} (h8 : Z 8 n ≠ 0) (c : Nat) : rsn Z a n c = nI 1 := by
  rw [rsn, rsnq, if_pos h8]; rfl
theorem lw_hits {f : Nat → Int32} : ∀ n, lw f n < n → f (lw f n) = 0
  | 0, h => absurd h (Nat.not_lt_zero _)
  | n + 1, h => by
    rw [lw] at h ⊢
    split at h
    · rename_i q; rw [if_pos q]; exact lw_hits n q
    · rename_i q
      rw [if_neg q]
      split at h
      · rename_i q2; rw [if_pos q2]; exact q2
      · omega
theorem low_r (f : Nat → Int32) : low f = -6 ∨ ∃ b, b < 12 ∧ f b = 0 ∧ low f = nI b := by
  by_cases h : lw f 12 < 12
  · exact Or.inr ⟨lw f 12, h, lw_hits 12 h, by rw [low, if_pos h]⟩
  · exact Or.inl (by rw [low, if_neg h])
theorem low_w {Z : CV} {a n : Nat} (h8 : Z 8 n ≠ 0) : low (rsn Z a n) = -6 := by
  rcases low_r (rsn Z a n) with q | ⟨b, -, q, -⟩
  · exact q
  · rw [rsn_1 h8] at q; exact absurd q (by decide)
theorem plc_le {Z : CV} {n : Nat} : ∀ k, plc Z n k ≤ k
  | 0 => Nat.le_refl _
  | k + 1 => by
    have := plc_le (Z := Z) (n := n) k
    rw [plc]; split <;> omega
theorem wtn_le {Z : CV} : ∀ k, wtn Z k ≤ k
  | 0 => Nat.le_refl _
  | k + 1 => by
    have := wtn_le (Z := Z) k
    rw [wtn]; split <;> omega
theorem lw_0 {f : Nat → Int32} (h : f 0 = 0) : ∀ n, lw f (n + 1) = 0
  | 0 => by rw [lw, if_neg (Nat.not_lt_zero _), if_pos h]
  | n + 1 => by rw [lw, lw_0 h n, if_pos (by omega)]
theorem utl_0 {f : Nat → Int32} (h : f 0 = 0) : utl f = nI 0 := by rw [utl, lw_0 h 300, if_pos (by decide)]
theorem utl_n {f : Nat → Int32} (h : f 0 ≠ 0) : utl f ≠ 0 := by
  intro q
  rw [utl] at q
  split at q
  · rename_i hl
    have h0 : lw f 301 = 0 := (nI_eq (b := 0) (by omega) (by decide)).mp q
    have := lw_hits 301 hl
    rw [h0] at this
    exact h this
  · exact absurd q (by decide)
theorem pof_0 {V : CV} {a N P : Nat} (h : sm (V 11) 12 = 0) : pof V a N P 0 = 0 := by rw [pof, days, if_pos h]
theorem pof_1 {V : CV} {a N P : Nat} (h : sm (V 11) 12 ≠ 0) : pof V a N P 0 ≠ 0 := by rw [pof, days, if_neg h]; decide
theorem CZ.un8 {Z : CV} {N n c : Nat} (h : CZ Z N) (hn : n < N) (hc : c < 12) (hb : Z 10 c = nI n) : Z 8 n = 0 := by
  by_cases q : Z 8 n = 0
  · exact q
  · exact absurd hb (h.wd n hn q c hc)
theorem CZ.nb8 {Z : CV} {N n : Nat} (h : CZ Z N) (hn : n < N) (h8 : Z 8 n ≠ 0) : nb Z (nI n) 12 = 0 := by
  rcases Nat.eq_zero_or_pos (nb Z (nI n) 12) with q | q
  · exact q
  · obtain ⟨c, hc, e⟩ := nb_ex 12 q
    exact absurd e (h.wd n hn h8 c hc)
