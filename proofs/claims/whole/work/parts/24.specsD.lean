/-! the model's row a holds the court V with N names -/
def Rw (V : CV) (N : Nat) (a : Nat → Int32) : Prop :=
  ((∀ j, j < 4 → a j = V 1 j) ∧ a 4 = V 0 1 ∧ a 5 = V 0 2 ∧ a 6 = V 0 14 ∧ a 7 = sm (V 12) 12 ∧ a 8 = sm (V 9) 20) ∧
  (∀ n, n < N → a (9 + 12 * n + 0) = V 7 n ∧ a (9 + 12 * n + 1) = V 8 n ∧ a (9 + 12 * n + 2) = V 9 n ∧ a (9 + 12 * n + 3) = V 5 n ∧ a (9 + 12 * n + 4) = V 6 n) ∧
  ∀ c, c < 12 → a (249 + c) = V 10 c ∧ a (261 + c) = V 11 c ∧ a (273 + c) = V 12 c ∧ a (285 + c) = (if V 10 c = -6 then -6 else V 13 c) ∧ a (297 + c) = V 14 c ∧ a (309 + c) = (if V 0 14 = 0 then -6 else V 16 c)
theorem Rw.st {V : CV} {N : Nat} {a : Nat → Int32} (h : Rw V N a) : ∀ j, j < 4 → a j = V 1 j := h.1.1
theorem Rw.dy {V : CV} {N : Nat} {a : Nat → Int32} (h : Rw V N a) : a 4 = V 0 1 := h.1.2.1
theorem Rw.nm {V : CV} {N : Nat} {a : Nat → Int32} (h : Rw V N a) : a 5 = V 0 2 := h.1.2.2.1
theorem Rw.mp {V : CV} {N : Nat} {a : Nat → Int32} (h : Rw V N a) : a 6 = V 0 14 := h.1.2.2.2.1
theorem Rw.su {V : CV} {N : Nat} {a : Nat → Int32} (h : Rw V N a) : a 7 = sm (V 12) 12 := h.1.2.2.2.2.1
theorem Rw.gi {V : CV} {N : Nat} {a : Nat → Int32} (h : Rw V N a) : a 8 = sm (V 9) 20 := h.1.2.2.2.2.2
theorem Rw.ho {V : CV} {N : Nat} {a : Nat → Int32} (h : Rw V N a) {n : Nat} (hn : n < N) : a (9 + 12 * n + 0) = V 7 n := (h.2.1 n hn).1
theorem Rw.wd {V : CV} {N : Nat} {a : Nat → Int32} (h : Rw V N a) {n : Nat} (hn : n < N) : a (9 + 12 * n + 1) = V 8 n := (h.2.1 n hn).2.1
theorem Rw.ti {V : CV} {N : Nat} {a : Nat → Int32} (h : Rw V N a) {n : Nat} (hn : n < N) : a (9 + 12 * n + 2) = V 9 n := (h.2.1 n hn).2.2.1
theorem Rw.le {V : CV} {N : Nat} {a : Nat → Int32} (h : Rw V N a) {n : Nat} (hn : n < N) : a (9 + 12 * n + 3) = V 5 n := (h.2.1 n hn).2.2.2.1
theorem Rw.sn {V : CV} {N : Nat} {a : Nat → Int32} (h : Rw V N a) {n : Nat} (hn : n < N) : a (9 + 12 * n + 4) = V 6 n := (h.2.1 n hn).2.2.2.2
theorem Rw.bo {V : CV} {N : Nat} {a : Nat → Int32} (h : Rw V N a) {c : Nat} (hc : c < 12) : a (249 + c) = V 10 c := (h.2.2 c hc).1
theorem Rw.ow {V : CV} {N : Nat} {a : Nat → Int32} (h : Rw V N a) {c : Nat} (hc : c < 12) : a (261 + c) = V 11 c := (h.2.2 c hc).2.1
theorem Rw.po {V : CV} {N : Nat} {a : Nat → Int32} (h : Rw V N a) {c : Nat} (hc : c < 12) : a (273 + c) = V 12 c := (h.2.2 c hc).2.2.1
theorem Rw.da {V : CV} {N : Nat} {a : Nat → Int32} (h : Rw V N a) {c : Nat} (hc : c < 12) : a (285 + c) = (if V 10 c = -6 then -6 else V 13 c) := (h.2.2 c hc).2.2.2.1
theorem Rw.go {V : CV} {N : Nat} {a : Nat → Int32} (h : Rw V N a) {c : Nat} (hc : c < 12) : a (297 + c) = V 14 c := (h.2.2 c hc).2.2.2.2.1
theorem Rw.sh {V : CV} {N : Nat} {a : Nat → Int32} (h : Rw V N a) {c : Nat} (hc : c < 12) : a (309 + c) = (if V 0 14 = 0 then -6 else V 16 c) := (h.2.2 c hc).2.2.2.2.2
theorem Rw.cong {V : CV} {N : Nat} {a a1 : Nat → Int32} (hN : N ≤ 20) (h : Rw V N a) (e : ∀ k, k < 322 → a1 k = a k) : Rw V N a1 := by
  refine ⟨⟨fun j hj => by rw [e j (by omega)]; exact h.st j hj, by rw [e 4 (by decide)]; exact h.dy, by rw [e 5 (by decide)]; exact h.nm, by rw [e 6 (by decide)]; exact h.mp, by rw [e 7 (by decide)]; exact h.su, by rw [e 8 (by decide)]; exact h.gi⟩, fun n hn => ?_, fun c hc => ?_⟩
  · rw [e _ (by omega), e _ (by omega), e _ (by omega), e _ (by omega), e _ (by omega)]
    exact h.2.1 n hn
  · rw [e _ (by omega), e _ (by omega), e _ (by omega), e _ (by omega), e _ (by omega), e _ (by omega)]
    exact h.2.2 c hc
/-! longs -/
theorem in_64 {x : Int32} {a b : Nat} (ha : a < 2 ^ 31) (hb : b < 2 ^ 31) : (lN a ≤ x.toInt64 ∧ x.toInt64 ≤ lN b) ↔ (nI a ≤ x ∧ x ≤ nI b) := by
  rw [← nI_l ha, ← nI_l hb]
  constructor
  · intro h
    refine ⟨?_, ?_⟩
    · have := Int64.le_iff_toInt_le.mp h.1
      rw [Int32.toInt_toInt64, Int32.toInt_toInt64] at this
      exact Int32.le_iff_toInt_le.mpr this
    · have := Int64.le_iff_toInt_le.mp h.2
      rw [Int32.toInt_toInt64, Int32.toInt_toInt64] at this
      exact Int32.le_iff_toInt_le.mpr this
  · intro h
    refine ⟨?_, ?_⟩
    · apply Int64.le_iff_toInt_le.mpr
      rw [Int32.toInt_toInt64, Int32.toInt_toInt64]
      exact Int32.le_iff_toInt_le.mp h.1
    · apply Int64.le_iff_toInt_le.mpr
      rw [Int32.toInt_toInt64, Int32.toInt_toInt64]
      exact Int32.le_iff_toInt_le.mp h.2
theorem le_lt {x : Int32} {n : Nat} (hn : n < 2 ^ 30) : x ≤ nI n ↔ x < nI (n + 1) := by
  have h1 : (nI n).toInt = n := nI_toInt (by omega)
  have h2 : (nI (n + 1)).toInt = (n : Int) + 1 := by rw [nI_toInt (by omega)]; rfl
  constructor
  · intro h
    apply Int32.lt_iff_toInt_lt.mpr
    have := Int32.le_iff_toInt_le.mp h
    omega
  · intro h
    apply Int32.le_iff_toInt_le.mpr
    have := Int32.lt_iff_toInt_lt.mp h
    omega
theorem isN_iff {V : CV} {N : Nat} {x : Int32} (hN : V 0 2 = nI N) (hN20 : N ≤ 20) : (lN 0 ≤ x.toInt64 ∧ x.toInt64 ≤ lN N - lN 1) ↔ hasN V x := by
  rcases Nat.eq_zero_or_pos N with q | q
  · subst q
    constructor
    · intro h
      have h1 := Int64.le_iff_toInt_le.mp h.1
      have h2 := Int64.le_iff_toInt_le.mp h.2
      have h3 : (lN 0).toInt = 0 := by decide
      have h4 : (lN 0 - lN 1).toInt = -1 := by decide
      omega
    · intro h
      have h2 := h.2.1
      rw [hN] at h2
      exact absurd (Int32.lt_of_le_of_lt h.1 h2) (by decide)
  · rw [lN_sub (show 1 ≤ N by omega), in_64 (by decide) (by omega), le_lt (by omega), show N - 1 + 1 = N by omega]
    constructor
    · intro h
      refine ⟨h.1, by rw [hN]; exact h.2, Int32.lt_of_lt_of_le h.2 (nI_le (b := 20) hN20 (by decide))⟩
    · intro h
      exact ⟨h.1, by rw [← hN]; exact h.2.1⟩
theorem lgc_lt {x y : Int64} : lg_cmp x y < 0 ↔ x < y := by
  unfold lg_cmp
  constructor
  · intro h
    split at h
    · exact absurd h (by decide)
    · split at h
      · exact absurd h (by decide)
      · rename_i h1 h2
        exact Int64.lt_of_le_of_ne (Int64.not_lt.mp h1) h2
  · intro h
    rw [if_neg (Int64.lt_asymm h), if_neg (Int64.ne_of_lt h)]
    decide
theorem lgc_gt {x y : Int64} : 0 < lg_cmp x y ↔ y < x := by
  unfold lg_cmp
  constructor
  · intro h
    split at h
    · assumption
    · split at h
      · exact absurd h (by decide)
      · exact absurd h (by decide)
  · intro h
    rw [if_pos h]
    decide
/-! the mask of bearers -/
theorem bt_bm {V : CV} {x : Int32} : ∀ k, k ≤ 12 → ∀ d, d < 32 → bt (bm V x k) d = (decide (d < k) && decide (V 10 d = x))
  | 0, _, d, _ => by rw [bm, b_0]; simp
  | k + 1, hk, d, hd => by
    have ih := bt_bm (V := V) (x := x) k (by omega) d hd
    rw [bm]
    by_cases h : V 10 k = x
    · rw [if_pos h, b_or, b_tw k d (by omega), ih]
      apply Bool.eq_iff_iff.mpr
      simp only [Bool.or_eq_true, Bool.and_eq_true, decide_eq_true_eq]
      constructor
      · rintro (q | q)
        · exact ⟨by omega, q.2⟩
        · subst q; exact ⟨by omega, h⟩
      · rintro ⟨q1, q2⟩
        rcases Nat.lt_or_ge d k with r | r
        · exact Or.inl ⟨r, q2⟩
        · exact Or.inr (by omega)
    · rw [if_neg h, ih]
      apply Bool.eq_iff_iff.mpr
      simp only [Bool.and_eq_true, decide_eq_true_eq]
      constructor
      · rintro ⟨q1, q2⟩; exact ⟨by omega, q2⟩
      · rintro ⟨q1, q2⟩
        refine ⟨?_, q2⟩
        rcases Nat.lt_or_ge d k with r | r
        · exact r
        · exact absurd (by rw [← q2, show d = k by omega]) h
theorem sh1 (m : Int32) : m ||| nI 0 = m := by
  apply b_ext
  intro i _
  rw [b_or, b_n0, Bool.or_false]
/-- a bit taken out by a shift -/
theorem b_bit (m : Int32) (c : Nat) (hc : c < 31) : (m >>> (nI c &&& 31)) &&& nI 1 = if bt m c = true then nI 1 else nI 0 := by
  have sl : ∀ n, n < 32 → ((nI n &&& 31).toBitVec.smod 32).toNat = n := by decide +kernel
  have hs : ∀ i, i < 32 → bt (m >>> (nI c &&& 31)) i = if c + i < 32 then bt m (c + i) else bt m 31 := by
    intro i hi
    unfold bt
    rw [Int32.toBitVec_shiftRight]
    show (m.toBitVec.sshiftRight ((nI c &&& 31).toBitVec.smod 32).toNat).getLsbD i = _
    rw [sl c (by omega), BitVec.getLsbD_sshiftRight, BitVec.msb_eq_getLsbD_last]
    simp [hi]
  have h1 : ∀ i, i < 32 → bt (nI 1) i = decide (i = 0) := by decide +kernel
  apply b_ext
  intro i hi
  rw [b_and, hs i hi, h1 i hi]
  by_cases h0 : i = 0
  · subst h0
    rw [if_pos (by omega), Nat.add_zero]
    by_cases hb : bt m c = true
    · rw [if_pos hb, hb, h1 0 (by decide)]; simp
    · rw [if_neg hb, b_n0]
      cases hx : bt m c with
      | true => exact absurd hx hb
      | false => simp
  · have e : decide (i = 0) = false := decide_eq_false h0
    rw [e, Bool.and_false]
    split
    · rw [h1 i hi, e]
    · rw [b_n0]
theorem bm_ne {V : CV} {x : Int32} : bm V x 12 ≠ 0 ↔ 0 < nb V x 12 := by
  have key : ∀ k, k ≤ 12 → (0 < nb V x k ↔ ∃ d, d < k ∧ V 10 d = x) := by
    intro k
    induction k with
    | zero => intro _; exact ⟨fun h => absurd h (Nat.lt_irrefl _), fun ⟨d, h, _⟩ => absurd h (Nat.not_lt_zero _)⟩
    | succ k ih =>
      intro hk
      rw [nb]
      by_cases h : V 10 k = x
      · rw [if_pos h]
        exact ⟨fun _ => ⟨k, by omega, h⟩, fun _ => Nat.succ_pos _⟩
      · rw [if_neg h, ih (by omega)]
        constructor
        · rintro ⟨d, h1, h2⟩; exact ⟨d, by omega, h2⟩
        · rintro ⟨d, h1, h2⟩
          rcases Nat.lt_or_ge d k with r | r
          · exact ⟨d, r, h2⟩
          · exact absurd (by rw [← h2, show d = k by omega]) h
  rw [key 12 (by decide)]
  constructor
  · intro h
    by_cases q : ∃ d, d < 12 ∧ V 10 d = x
    · exact q
    · exfalso
      apply h
      apply b_ext
      intro i hi
      rw [bt_bm 12 (by decide) i hi, b_0]
      apply Bool.eq_false_iff.mpr
      intro z
      simp only [Bool.and_eq_true, decide_eq_true_eq] at z
      exact q ⟨i, z.1, z.2⟩
  · rintro ⟨d, h1, h2⟩ z
    have h3 := bt_bm (V := V) (x := x) 12 (by decide) d (by omega)
    rw [z, b_0] at h3
    simp [h1, h2] at h3
theorem bits_s {V : CV} {x : Int32} {i r : Nat} (hi : i < 12) (hr : r = nb V x i) : nI r + (if bt (bm V x 12) i = true then nI 1 else nI 0) = nI (nb V x (i + 1)) := by
  rw [hr, nb, bt_bm 12 (by decide) i (by omega)]
  have e : decide (i < 12) = true := decide_eq_true hi
  rw [e, Bool.true_and]
  by_cases q : V 10 i = x
  · rw [if_pos q, if_pos (decide_eq_true q), nI_add]
  · rw [if_neg q, if_neg (by simp [q]), nI_add, Nat.add_zero]
