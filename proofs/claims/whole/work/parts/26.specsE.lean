/-! steps of the model beside steps of the court -/
theorem nearB_s {V : CV} {a n c i : Nat} : nearB V a n c (i + 1) = true ↔ nearB V a n c i = true ∨ (punS V (nI n) (V 10 i) ∧ nearC a c i) := by
  rw [nearB, Bool.or_eq_true, decide_eq_true_eq]
theorem sub_gt {a i c : Nat} (ha : a < 2 ^ 29) (hi : i < 2 ^ 29) (hc : c < 2 ^ 29) : nI a < nI i - nI c ↔ c + a < i := by
  have h1 : (nI a).toInt = a := nI_toInt (by omega)
  have h2 := pk_sub_toInt (a := i) (b := c) (by omega) (by omega)
  constructor
  · intro h
    have := Int32.lt_iff_toInt_lt.mp h
    omega
  · intro h
    apply Int32.lt_iff_toInt_lt.mpr
    omega
/-- a step of a row -/
def inc (M : CV) (i : Nat) (v : Int32) : CV := us M 1 i (M 1 i + v)
def gv1 (M : CV) (n c : Nat) : CV := us M 1 (249 + c) (nI n)
def gv2 (M : CV) (c : Nat) : CV := us M 1 (285 + c) (M 1 4)
def gvL (M : CV) (c : Nat) : CV := if 0 < c then inc M (261 + c - 1) (nI 1) else M
def gvR (M : CV) (c : Nat) : CV := if c < 11 then inc M (261 + c + 1) (nI 1) else M
def gvS (M : CV) (n c : Nat) : CV := inc (inc (gvR (gvL (inc (inc (gv2 (gv1 M n c) c) (297 + c) (nI 1)) (261 + c) (nI 2)) c) c) (9 + 12 * n + 2) (nI 1)) 8 (nI 1)
theorem inc_row {M : CV} {i k : Nat} {v : Int32} (h : k ≠ 1) : inc M i v k = M k := us_n h
theorem inc_at {M : CV} {i j : Nat} {v : Int32} : inc M i v 1 j = if j = i then M 1 i + v else M 1 j := us_i
theorem gvS_row {M : CV} {n c k : Nat} (h : k ≠ 1) : gvS M n c k = M k := by
  rw [gvS, inc_row h, inc_row h, gvR]
  have e : gvL (inc (inc (gv2 (gv1 M n c) c) (297 + c) (nI 1)) (261 + c) (nI 2)) c k = M k := by
    rw [gvL]
    split
    · rw [inc_row h, inc_row h, inc_row h, gv2, us_n h, gv1, us_n h]
    · rw [inc_row h, inc_row h, gv2, us_n h, gv1, us_n h]
  split
  · rw [inc_row h, e]
  · exact e
theorem gvS_at {M : CV} {n c j : Nat} (hn : n < 20) (hc : c < 12) : gvS M n c 1 j =
    if j = 249 + c then nI n else if j = 285 + c then M 1 4 else if j = 297 + c then M 1 j + nI 1 else if j = 261 + c then M 1 j + nI 2 else if (0 < c ∧ j = 261 + c - 1) ∨ (c < 11 ∧ j = 261 + c + 1) then M 1 j + nI 1 else if j = 9 + 12 * n + 2 then M 1 j + nI 1 else if j = 8 then M 1 j + nI 1 else M 1 j := by
  have e0 : ∀ j, gv2 (gv1 M n c) c 1 j = if j = 249 + c then nI n else if j = 285 + c then M 1 4 else M 1 j := by
    intro j
    by_cases h1 : j = 285 + c
    · rw [gv2, us_i, if_pos h1, gv1, us_i, if_neg (by omega), if_neg (by omega), if_pos h1]
    · rw [gv2, us_i, if_neg h1, gv1, us_i, if_neg h1]
  have e1 : ∀ j, inc (inc (gv2 (gv1 M n c) c) (297 + c) (nI 1)) (261 + c) (nI 2) 1 j = if j = 249 + c then nI n else if j = 285 + c then M 1 4 else if j = 297 + c then M 1 j + nI 1 else if j = 261 + c then M 1 j + nI 2 else M 1 j := by
    intro j
    rw [inc_at, inc_at, inc_at, e0, e0, e0]
    by_cases h1 : j = 261 + c
    · subst h1
      rw [if_pos rfl, if_neg (by omega), if_neg (by omega), if_neg (by omega), if_neg (by omega), if_neg (by omega), if_neg (by omega), if_pos rfl]
    · rw [if_neg h1]
      by_cases h2 : j = 297 + c
      · subst h2
        rw [if_pos rfl, if_neg (by omega), if_neg (by omega), if_neg (by omega), if_neg (by omega), if_pos rfl]
      · rw [if_neg h2]
        by_cases h3 : j = 249 + c
        · rw [if_pos h3, if_pos h3]
        · rw [if_neg h3, if_neg h3]
          by_cases h4 : j = 285 + c
          · rw [if_pos h4, if_pos h4]
          · rw [if_neg h4, if_neg h4, if_neg h2, if_neg h1]
  have e2 : ∀ j, gvL (inc (inc (gv2 (gv1 M n c) c) (297 + c) (nI 1)) (261 + c) (nI 2)) c 1 j = if j = 249 + c then nI n else if j = 285 + c then M 1 4 else if j = 297 + c then M 1 j + nI 1 else if j = 261 + c then M 1 j + nI 2 else if 0 < c ∧ j = 261 + c - 1 then M 1 j + nI 1 else M 1 j := by
    intro j
    rw [gvL]
    by_cases hc0 : 0 < c
    · rw [if_pos hc0, inc_at]
      by_cases h1 : j = 261 + c - 1
      · rw [if_pos h1, e1, ← h1, if_neg (by omega), if_neg (by omega), if_neg (by omega), if_neg (by omega), if_neg (by omega), if_neg (by omega), if_neg (by omega), if_neg (by omega), if_pos ⟨hc0, rfl⟩]
      · rw [if_neg h1, e1, if_neg (c := 0 < c ∧ j = 261 + c - 1) (fun q => h1 q.2)]
    · rw [if_neg hc0, e1, if_neg (c := 0 < c ∧ j = 261 + c - 1) (fun q => hc0 q.1)]
  have e3 : ∀ j, gvR (gvL (inc (inc (gv2 (gv1 M n c) c) (297 + c) (nI 1)) (261 + c) (nI 2)) c) c 1 j = if j = 249 + c then nI n else if j = 285 + c then M 1 4 else if j = 297 + c then M 1 j + nI 1 else if j = 261 + c then M 1 j + nI 2 else if (0 < c ∧ j = 261 + c - 1) ∨ (c < 11 ∧ j = 261 + c + 1) then M 1 j + nI 1 else M 1 j := by
    intro j
    rw [gvR]
    by_cases hc0 : c < 11
    · rw [if_pos hc0, inc_at]
      by_cases h1 : j = 261 + c + 1
      · rw [if_pos h1, e2, ← h1, if_neg (by omega), if_neg (by omega), if_neg (by omega), if_neg (by omega), if_neg (by omega), if_neg (by omega), if_neg (by omega), if_neg (by omega), if_neg (by omega), if_pos (Or.inr ⟨hc0, rfl⟩)]
      · rw [if_neg h1, e2]
        by_cases h2 : 0 < c ∧ j = 261 + c - 1
        · rw [if_pos h2, if_pos (c := (0 < c ∧ j = 261 + c - 1) ∨ (c < 11 ∧ j = 261 + c + 1)) (Or.inl h2)]
        · rw [if_neg h2, if_neg (c := (0 < c ∧ j = 261 + c - 1) ∨ (c < 11 ∧ j = 261 + c + 1)) (fun q => q.elim h2 (fun w => h1 w.2))]
    · rw [if_neg hc0, e2]
      by_cases h2 : 0 < c ∧ j = 261 + c - 1
      · rw [if_pos h2, if_pos (c := (0 < c ∧ j = 261 + c - 1) ∨ (c < 11 ∧ j = 261 + c + 1)) (Or.inl h2)]
      · rw [if_neg h2, if_neg (c := (0 < c ∧ j = 261 + c - 1) ∨ (c < 11 ∧ j = 261 + c + 1)) (fun q => q.elim h2 (fun w => hc0 w.1))]
  rw [gvS, inc_at, inc_at, inc_at, e3, e3, e3]
  by_cases h8 : j = 8
  · subst h8
    rw [if_pos rfl, if_neg (by omega), if_neg (by omega), if_neg (by omega), if_neg (by omega), if_neg (by omega), if_neg (by omega), if_neg (by omega), if_neg (by omega), if_neg (by omega), if_neg (by omega), if_neg (by omega), if_neg (by omega), if_pos rfl]
  · rw [if_neg h8]
    by_cases h9 : j = 9 + 12 * n + 2
    · rw [if_pos h9, ← h9, if_neg (by omega), if_neg (by omega), if_neg (by omega), if_neg (by omega), if_neg (by omega), if_neg (by omega), if_neg (by omega), if_neg (by omega), if_neg (by omega), if_neg (by omega), if_pos rfl]
    · rw [if_neg h9, if_neg h9, if_neg h8]
/-! places of a court behind a gift -/
theorem pl_10 {V : CV} {n c d : Nat} : placeS V n c 10 d = if d = c then nI n else V 10 d := by
  rw [placeS, upR_row (by decide), upL_row (by decide), pl5, pa5, us_n (by decide), pa4, us_n (by decide), pa3, us_n (by decide), pa2, us_n (by decide), pa1, us_i]
theorem pl_13 {V : CV} {n c d : Nat} : placeS V n c 13 d = if d = c then V 0 1 else V 13 d := by
  rw [placeS, upR_row (by decide), upL_row (by decide), pl5, pa5, us_n (by decide), pa4, us_n (by decide), pa3, us_n (by decide), pa2, us_i, pa1, us_n (by decide), us_n (by decide)]
theorem pl_14 {V : CV} {n c d : Nat} : placeS V n c 14 d = if d = c then V 14 c + nI 1 else V 14 d := by
  rw [placeS, upR_row (by decide), upL_row (by decide), pl5, pa5, us_n (by decide), pa4, us_n (by decide), pa3, us_i, pa2, us_n (by decide), pa1, us_n (by decide)]
theorem pl_9 {V : CV} {n c d : Nat} : placeS V n c 9 d = if d = n then V 9 n + nI 1 else V 9 d := by
  rw [placeS, upR_row (by decide), upL_row (by decide), pl5, pa5, us_n (by decide), pa4, us_i, pa3, us_n (by decide), pa2, us_n (by decide), pa1, us_n (by decide)]
theorem bump_at {V : CV} {c d : Nat} : bump V c 11 d = if d = c then V 11 c + nI 1 else V 11 d := us_i
theorem pl_11 {V : CV} {n c d : Nat} (hc : c < 12) (hd : d < 12) : placeS V n c 11 d = if d = c then V 11 d + nI 2 else if (0 < c ∧ d = c - 1) ∨ (c < 11 ∧ d = c + 1) then V 11 d + nI 1 else V 11 d := by
  have e0 : ∀ d, pl5 V n c 11 d = if d = c then V 11 c + nI 2 else V 11 d := by
    intro d
    rw [pl5, pa5, us_i, pa4, us_n (by decide), pa3, us_n (by decide), pa2, us_n (by decide), pa1, us_n (by decide)]
  have e1 : ∀ d, upL (pl5 V n c) c 11 d = if d = c then V 11 d + nI 2 else if 0 < c ∧ d = c - 1 then V 11 d + nI 1 else V 11 d := by
    intro d
    rw [upL]
    by_cases h0 : 0 < c
    · rw [if_pos h0, bump_at]
      by_cases h1 : d = c - 1
      · rw [if_pos h1, ← h1, e0, if_neg (by omega), if_neg (by omega), if_pos ⟨h0, rfl⟩]
      · rw [if_neg h1, e0, if_neg (c := 0 < c ∧ d = c - 1) (fun q => h1 q.2)]
        by_cases h2 : d = c
        · rw [if_pos h2, if_pos h2, h2]
        · rw [if_neg h2, if_neg h2]
    · rw [if_neg h0, e0, if_neg (c := 0 < c ∧ d = c - 1) (fun q => h0 q.1)]
      by_cases h2 : d = c
      · rw [if_pos h2, if_pos h2, h2]
      · rw [if_neg h2, if_neg h2]
  rw [placeS, upR]
  by_cases h0 : c < 11
  · rw [if_pos h0, bump_at]
    by_cases h1 : d = c + 1
    · rw [if_pos h1, ← h1, e1, if_neg (by omega), if_neg (by omega), if_neg (by omega), if_pos (Or.inr ⟨h0, rfl⟩)]
    · rw [if_neg h1, e1]
      by_cases h2 : d = c
      · rw [if_pos h2, if_pos h2]
      · rw [if_neg h2, if_neg h2]
        by_cases h3 : 0 < c ∧ d = c - 1
        · rw [if_pos h3, if_pos (Or.inl h3)]
        · rw [if_neg h3, if_neg (fun q => q.elim h3 (fun w => h1 w.2))]
  · rw [if_neg h0, e1]
    by_cases h2 : d = c
    · rw [if_pos h2, if_pos h2]
    · rw [if_neg h2, if_neg h2]
      by_cases h3 : 0 < c ∧ d = c - 1
      · rw [if_pos h3, if_pos (Or.inl h3)]
      · rw [if_neg h3, if_neg (fun q => q.elim h3 (fun w => h0 w.1))]
theorem sm_cong {f g : Nat → Int32} : ∀ n, (∀ k, k < n → f k = g k) → sm f n = sm g n
  | 0, _ => rfl
  | n + 1, h => by rw [sm, sm, sm_cong n (fun k hk => h k (by omega)), h n (by omega)]
theorem sm_add1 {f g : Nat → Int32} {i : Nat} {v : Int32} (he : g i = f i + v) (ho : ∀ k, k ≠ i → g k = f k) : ∀ n, i < n → sm g n = sm f n + v
  | 0, h => absurd h (Nat.not_lt_zero _)
  | n + 1, h => by
    rw [sm, sm]
    rcases Nat.lt_or_ge i n with q | q
    · rw [sm_add1 he ho n q, ho n (by omega), Int32.add_assoc, Int32.add_assoc, Int32.add_comm v]
    · have e : n = i := by omega
      subst e
      rw [sm_cong n (fun k hk => ho k (by omega)), he, Int32.add_assoc]
theorem n6 {n : Nat} (h : n < 2 ^ 31) : ¬ nI n = -6 := fun q => by
  have h1 : (nI n).toInt = n := nI_toInt h
  rw [q] at h1
  have h2 : (-6 : Int32).toInt = -6 := by decide
  omega
theorem Rw_gives {V M : CV} {N n c : Nat} (hw : Rw V N (M 1)) (hN : N ≤ 20) (hn : n < N) (hc : c < 12) : Rw (placeS V n c) N (gvS M n c 1) := by
  have e := fun j => gvS_at (M := M) (n := n) (c := c) (j := j) (by omega) hc
  have p0 : ∀ r, r ≠ 10 → r ≠ 13 → r ≠ 14 → r ≠ 9 → r ≠ 11 → placeS V n c r = V r := fun r h1 h2 h3 h4 h5 => place_row h1 h2 h3 h4 h5
  refine ⟨⟨fun j hj => ?_, ?_, ?_, ?_, ?_, ?_⟩, fun m hm => ⟨?_, ?_, ?_, ?_, ?_⟩, fun d hd => ⟨?_, ?_, ?_, ?_, ?_, ?_⟩⟩
  · rw [e, if_neg (by omega), if_neg (by omega), if_neg (by omega), if_neg (by omega), if_neg (by omega), if_neg (by omega), if_neg (by omega), p0 1 (by decide) (by decide) (by decide) (by decide) (by decide)]
    exact hw.st j hj
  · rw [e, if_neg (by omega), if_neg (by omega), if_neg (by omega), if_neg (by omega), if_neg (by omega), if_neg (by omega), if_neg (by omega), p0 0 (by decide) (by decide) (by decide) (by decide) (by decide)]
    exact hw.dy
  · rw [e, if_neg (by omega), if_neg (by omega), if_neg (by omega), if_neg (by omega), if_neg (by omega), if_neg (by omega), if_neg (by omega), p0 0 (by decide) (by decide) (by decide) (by decide) (by decide)]
    exact hw.nm
  · rw [e, if_neg (by omega), if_neg (by omega), if_neg (by omega), if_neg (by omega), if_neg (by omega), if_neg (by omega), if_neg (by omega), p0 0 (by decide) (by decide) (by decide) (by decide) (by decide)]
    exact hw.mp
  · rw [e, if_neg (by omega), if_neg (by omega), if_neg (by omega), if_neg (by omega), if_neg (by omega), if_neg (by omega), if_neg (by omega), p0 12 (by decide) (by decide) (by decide) (by decide) (by decide)]
    exact hw.su
  · rw [e, if_neg (by omega), if_neg (by omega), if_neg (by omega), if_neg (by omega), if_neg (by omega), if_neg (by omega), if_pos rfl, hw.gi]
    exact (sm_add1 (f := V 9) (g := placeS V n c 9) (i := n) (v := nI 1) (by rw [pl_9, if_pos rfl]) (fun k hk => by rw [pl_9, if_neg hk]) 20 (by omega)).symm
  · rw [e, if_neg (by omega), if_neg (by omega), if_neg (by omega), if_neg (by omega), if_neg (by omega), if_neg (by omega), if_neg (by omega), p0 7 (by decide) (by decide) (by decide) (by decide) (by decide)]
    exact hw.ho hm
  · rw [e, if_neg (by omega), if_neg (by omega), if_neg (by omega), if_neg (by omega), if_neg (by omega), if_neg (by omega), if_neg (by omega), p0 8 (by decide) (by decide) (by decide) (by decide) (by decide)]
    exact hw.wd hm
  · rw [e, if_neg (by omega), if_neg (by omega), if_neg (by omega), if_neg (by omega), if_neg (by omega), pl_9]
    by_cases q : m = n
    · subst q
      rw [if_pos rfl, if_pos rfl, hw.ti hm]
    · rw [if_neg (by omega), if_neg (by omega), if_neg q]
      exact hw.ti hm
  · rw [e, if_neg (by omega), if_neg (by omega), if_neg (by omega), if_neg (by omega), if_neg (by omega), if_neg (by omega), if_neg (by omega), p0 5 (by decide) (by decide) (by decide) (by decide) (by decide)]
    exact hw.le hm
  · rw [e, if_neg (by omega), if_neg (by omega), if_neg (by omega), if_neg (by omega), if_neg (by omega), if_neg (by omega), if_neg (by omega), p0 6 (by decide) (by decide) (by decide) (by decide) (by decide)]
    exact hw.sn hm
  · rw [e, pl_10]
    by_cases q : d = c
    · subst q; rw [if_pos rfl, if_pos rfl]
    · rw [if_neg (by omega), if_neg (by omega), if_neg (by omega), if_neg (by omega), if_neg (by omega), if_neg (by omega), if_neg (by omega), if_neg q]
      exact hw.bo hd
  · rw [e, pl_11 hc hd, if_neg (by omega), if_neg (by omega), if_neg (by omega), hw.ow hd]
    by_cases q : d = c
    · rw [if_pos (by omega), if_pos q]
    · rw [if_neg (by omega), if_neg q]
      by_cases q2 : (0 < c ∧ d = c - 1) ∨ (c < 11 ∧ d = c + 1)
      · rw [if_pos (by omega), if_pos q2]
      · rw [if_neg (by omega), if_neg (by omega), if_neg (by omega), if_neg q2]
  · rw [e, if_neg (by omega), if_neg (by omega), if_neg (by omega), if_neg (by omega), if_neg (by omega), if_neg (by omega), if_neg (by omega), p0 12 (by decide) (by decide) (by decide) (by decide) (by decide)]
    exact hw.po hd
  · rw [e, if_neg (by omega), pl_10, pl_13]
    by_cases q : d = c
    · rw [if_pos (by omega), if_pos q, if_pos q, if_neg (n6 (by omega))]
      exact hw.dy
    · rw [if_neg (by omega), if_neg (by omega), if_neg (by omega), if_neg (by omega), if_neg (by omega), if_neg (by omega), if_neg q, if_neg q]
      exact hw.da hd
  · rw [e, if_neg (by omega), if_neg (by omega), pl_14]
    by_cases q : d = c
    · rw [if_pos (by omega), if_pos q, hw.go hd, q]
    · rw [if_neg (by omega), if_neg (by omega), if_neg (by omega), if_neg (by omega), if_neg (by omega), if_neg q]
      exact hw.go hd
  · rw [e, if_neg (by omega), if_neg (by omega), if_neg (by omega), if_neg (by omega), if_neg (by omega), if_neg (by omega), if_neg (by omega), p0 0 (by decide) (by decide) (by decide) (by decide) (by decide), p0 16 (by decide) (by decide) (by decide) (by decide) (by decide)]
    exact hw.sh hd
/-- a post is set up -/
def suR (M : CV) (m : Nat) : CV := inc (inc (us M 1 (261 + m) (M 1 (261 + m) - nI 1)) (273 + m) (nI 1)) 7 (nI 1)
theorem suR_row {M : CV} {m k : Nat} (h : k ≠ 1) : suR M m k = M k := by rw [suR, inc_row h, inc_row h, us_n h]
theorem suR_at {M : CV} {m j : Nat} (hm : m < 12) : suR M m 1 j = if j = 261 + m then M 1 j - nI 1 else if j = 273 + m then M 1 j + nI 1 else if j = 7 then M 1 j + nI 1 else M 1 j := by
  rw [suR, inc_at, inc_at, inc_at, us_i, us_i, us_i]
  by_cases h1 : j = 7
  · subst h1
    rw [if_pos rfl, if_neg (by omega), if_neg (by omega), if_neg (by omega), if_neg (by omega), if_pos rfl]
  · rw [if_neg h1]
    by_cases h2 : j = 273 + m
    · rw [if_pos h2, ← h2, if_neg (by omega), if_neg (by omega), if_pos rfl]
    · rw [if_neg h2]
      by_cases h3 : j = 261 + m
      · rw [if_pos h3, if_pos h3, h3]
      · rw [if_neg h3, if_neg h3, if_neg h2, if_neg h1]
theorem Rw_post {V M : CV} {N m : Nat} (hw : Rw V N (M 1)) (hN : N ≤ 20) (hm : m < 12) : Rw (pst V m) N (suR M m 1) := by
  have e := fun j => suR_at (M := M) (m := m) (j := j) hm
  have p0 : ∀ r, r ≠ 11 → r ≠ 12 → pst V m r = V r := fun r h1 h2 => by rw [pst, us_n h2, us_n h1]
  have p11 : ∀ d, pst V m 11 d = if d = m then V 11 m - nI 1 else V 11 d := fun d => by rw [pst, us_n (by decide), us_i]
  have p12 : ∀ d, pst V m 12 d = if d = m then V 12 m + nI 1 else V 12 d := fun d => by rw [pst, us_i, us_n (by decide)]
  refine ⟨⟨fun j hj => ?_, ?_, ?_, ?_, ?_, ?_⟩, fun k hk => ⟨?_, ?_, ?_, ?_, ?_⟩, fun d hd => ⟨?_, ?_, ?_, ?_, ?_, ?_⟩⟩
  · rw [e, if_neg (by omega), if_neg (by omega), if_neg (by omega), p0 1 (by decide) (by decide)]; exact hw.st j hj
  · rw [e, if_neg (by omega), if_neg (by omega), if_neg (by omega), p0 0 (by decide) (by decide)]; exact hw.dy
  · rw [e, if_neg (by omega), if_neg (by omega), if_neg (by omega), p0 0 (by decide) (by decide)]; exact hw.nm
  · rw [e, if_neg (by omega), if_neg (by omega), if_neg (by omega), p0 0 (by decide) (by decide)]; exact hw.mp
  · rw [e, if_neg (by omega), if_neg (by omega), if_pos rfl, hw.su]
    exact (sm_add1 (f := V 12) (g := pst V m 12) (i := m) (v := nI 1) (by rw [p12, if_pos rfl]) (fun k hk => by rw [p12, if_neg hk]) 12 hm).symm
  · rw [e, if_neg (by omega), if_neg (by omega), if_neg (by omega), p0 9 (by decide) (by decide)]; exact hw.gi
  · rw [e, if_neg (by omega), if_neg (by omega), if_neg (by omega), p0 7 (by decide) (by decide)]; exact hw.ho hk
  · rw [e, if_neg (by omega), if_neg (by omega), if_neg (by omega), p0 8 (by decide) (by decide)]; exact hw.wd hk
  · rw [e, if_neg (by omega), if_neg (by omega), if_neg (by omega), p0 9 (by decide) (by decide)]; exact hw.ti hk
  · rw [e, if_neg (by omega), if_neg (by omega), if_neg (by omega), p0 5 (by decide) (by decide)]; exact hw.le hk
  · rw [e, if_neg (by omega), if_neg (by omega), if_neg (by omega), p0 6 (by decide) (by decide)]; exact hw.sn hk
  · rw [e, if_neg (by omega), if_neg (by omega), if_neg (by omega), p0 10 (by decide) (by decide)]; exact hw.bo hd
  · rw [e, p11, hw.ow hd]
    by_cases q : d = m
    · rw [if_pos (by omega), if_pos q, q]
    · rw [if_neg (by omega), if_neg (by omega), if_neg (by omega), if_neg q]
  · rw [e, p12, hw.po hd, if_neg (by omega)]
    by_cases q : d = m
    · rw [if_pos (by omega), if_pos q, q]
    · rw [if_neg (by omega), if_neg (by omega), if_neg q]
  · rw [e, if_neg (by omega), if_neg (by omega), if_neg (by omega), p0 10 (by decide) (by decide), p0 13 (by decide) (by decide)]; exact hw.da hd
  · rw [e, if_neg (by omega), if_neg (by omega), if_neg (by omega), p0 14 (by decide) (by decide)]; exact hw.go hd
  · rw [e, if_neg (by omega), if_neg (by omega), if_neg (by omega), p0 0 (by decide) (by decide), p0 16 (by decide) (by decide)]; exact hw.sh hd
/-- what holds of a court goes on -/
theorem CI.go {V W : CV} {N : Nat} (h : CI V N) (e0 : W 0 2 = V 0 2) (em : isBo (W 0 14)) (e1 : W 1 = V 1) (e4 : W 4 = V 4) (e5 : W 5 = V 5) (e6 : W 6 = V 6) (e7 : ∀ n, n < N → ∃ k, k ≤ 9 ∧ W 7 n = nI k) (e8 : W 8 = V 8) (e9 : ∀ n, n < 20 → N ≤ n → W 9 n = V 9 n) (e10 : ∀ c, c < 12 → W 10 c = V 10 c ∨ W 10 c = -6 ∨ ∃ n, n < N ∧ V 8 n = 0 ∧ W 10 c = nI n) (e16 : W 0 14 = 0 → V 0 14 = 0 ∧ W 16 = V 16) : CI W N := by
  obtain ⟨⟨a1, a2, a3⟩, ⟨⟨a, ha, hb⟩, P, hP, hQ⟩, ⟨b1, b2⟩, ⟨d1, d2, d3, d4⟩, f⟩ := h
  refine ⟨⟨by rw [e0]; exact a1, a2, em⟩, ⟨⟨a, ha, by rw [e1]; exact hb⟩, P, hP, by rw [e1]; exact hQ⟩, ⟨fun c hc => ?_, fun n hn h8 c hc => ?_⟩, ⟨e7, fun n hn => by rw [e8]; exact d2 n hn, fun n h1 h2 => by rw [e9 n h1 h2]; exact d3 n h1 h2, fun q c hc => by rw [(e16 q).2]; exact d4 (e16 q).1 c hc⟩, fun n hn => ?_⟩
  · rcases e10 c hc with q | q | ⟨n, q1, q2, q3⟩
    · rw [q]; exact b1 c hc
    · exact Or.inl q
    · exact Or.inr ⟨n, q1, q3⟩
  · rw [e8] at h8
    rcases e10 c hc with q | q | ⟨m, q1, q2, q3⟩
    · rw [q]; exact b2 n hn h8 c hc
    · rw [q]; exact fun z => n6 (by omega) z.symm
    · rw [q3]
      intro z
      have := (nI_eq (by omega) (by omega)).mp z
      subst this
      exact h8 q2
  · obtain ⟨L, l1, l2, l3, l4, l5⟩ := f n hn
    have hs : sga W n = sga V n := by
      funext i
      rw [sga, sga, e4]
    exact ⟨L, l1, l2, by rw [e5]; exact l3, fun i hi => by rw [e4]; exact l4 i hi, by rw [e6, hs]; exact l5⟩
theorem CI.place {V : CV} {N n c : Nat} (h : CI V N) (hn : n < N) (h8 : V 8 n = 0) : CI (placeS V n c) N := by
  have p0 : ∀ r, r ≠ 10 → r ≠ 13 → r ≠ 14 → r ≠ 9 → r ≠ 11 → placeS V n c r = V r := fun r h1 h2 h3 h4 h5 => place_row h1 h2 h3 h4 h5
  refine h.go (by rw [p0 0 (by decide) (by decide) (by decide) (by decide) (by decide)]) (by rw [p0 0 (by decide) (by decide) (by decide) (by decide) (by decide)]; exact h.1.2.2) (p0 1 (by decide) (by decide) (by decide) (by decide) (by decide)) (p0 4 (by decide) (by decide) (by decide) (by decide) (by decide)) (p0 5 (by decide) (by decide) (by decide) (by decide) (by decide)) (p0 6 (by decide) (by decide) (by decide) (by decide) (by decide)) (fun m hm => by rw [p0 7 (by decide) (by decide) (by decide) (by decide) (by decide)]; exact h.2.2.2.1.1 m hm) (p0 8 (by decide) (by decide) (by decide) (by decide) (by decide)) (fun m h1 h2 => by rw [pl_9, if_neg (by omega)]) (fun d hd => ?_) (fun q => ⟨by rw [p0 0 (by decide) (by decide) (by decide) (by decide) (by decide)] at q; exact q, p0 16 (by decide) (by decide) (by decide) (by decide) (by decide)⟩)
  rw [pl_10]
  by_cases q : d = c
  · rw [if_pos q]; exact Or.inr (Or.inr ⟨n, hn, h8, rfl⟩)
  · rw [if_neg q]; exact Or.inl rfl
theorem CI.row {V W : CV} {N : Nat} (h : CI V N) (e0 : W 0 2 = V 0 2) (em : W 0 14 = V 0 14) (er : ∀ r, r ≠ 0 → r ≠ 11 → r ≠ 12 → r ≠ 13 → r ≠ 14 → W r = V r) : CI W N :=
  h.go e0 (by rw [em]; exact h.1.2.2) (er 1 (by decide) (by decide) (by decide) (by decide) (by decide)) (er 4 (by decide) (by decide) (by decide) (by decide) (by decide)) (er 5 (by decide) (by decide) (by decide) (by decide) (by decide)) (er 6 (by decide) (by decide) (by decide) (by decide) (by decide)) (fun m hm => by rw [er 7 (by decide) (by decide) (by decide) (by decide) (by decide)]; exact h.2.2.2.1.1 m hm) (er 8 (by decide) (by decide) (by decide) (by decide) (by decide)) (fun m h1 h2 => by rw [er 9 (by decide) (by decide) (by decide) (by decide) (by decide)]) (fun d hd => Or.inl (by rw [er 10 (by decide) (by decide) (by decide) (by decide) (by decide)])) (fun q => ⟨em ▸ q, er 16 (by decide) (by decide) (by decide) (by decide) (by decide)⟩)
theorem CI.suk {V : CV} {N : Nat} (h : CI V N) (k : Nat) : CI (su V k) N :=
  h.row (by rw [su_row (by decide) (by decide)]) (by rw [su_row (by decide) (by decide)]) (fun r h0 h1 h2 h3 h4 => su_row h1 h2 k)
theorem wh_0 {V : CV} {n : Nat} (h : wh V n = 0) : V 8 n = 0 := by
  by_cases q : V 8 n = 0
  · exact q
  · rw [wh, if_neg q] at h
    exact absurd h (by decide)
theorem CI.gqk {V : CV} {a N : Nat} (h : CI V N) : CI (gq V a N) N := by
  rw [gq]
  split
  · exact h
  · rename_i q
    rcases pkN_is V a N h.1.2.1 with ⟨e, -⟩ | ⟨hc, -⟩
    · exact absurd e q
    · exact h.place hc.1 (wh_0 hc.2.1)
theorem CI.dayk {V : CV} {a N P : Nat} (h : CI V N) : CI (day V a N P) N := by
  have h1 := (h.gqk (a := a)).suk P
  rw [day]
  exact h1.row (by rw [us_i, if_neg (by decide)]) (by rw [us_i, if_neg (by decide)]) (fun r h0 _ _ _ _ => us_n h0)
theorem CI.daysk {V : CV} {a N P : Nat} (h : CI V N) : ∀ k, CI (days V a N P k) N
  | 0 => h
  | k + 1 => (CI.daysk h k).dayk
theorem Rw_day {V : CV} {N : Nat} {r : Nat → Int32} (hw : Rw V N r) : Rw (us V 0 1 (V 0 1 + nI 1)) N (upd r 4 (r 4 + nI 1)) := by
  have e : ∀ j, j ≠ 4 → upd r 4 (r 4 + nI 1) j = r j := fun j hj => if_neg hj
  have p0 : ∀ k, k ≠ 0 → us V 0 1 (V 0 1 + nI 1) k = V k := fun k hk => us_n hk
  have p1 : ∀ j, j ≠ 1 → us V 0 1 (V 0 1 + nI 1) 0 j = V 0 j := fun j hj => by rw [us_i, if_neg hj]
  refine ⟨⟨fun j hj => by rw [e j (by omega), p0 1 (by decide)]; exact hw.st j hj, ?_, by rw [e 5 (by decide), p1 2 (by decide)]; exact hw.nm, by rw [e 6 (by decide), p1 14 (by decide)]; exact hw.mp, by rw [e 7 (by decide), p0 12 (by decide)]; exact hw.su, by rw [e 8 (by decide), p0 9 (by decide)]; exact hw.gi⟩, fun n hn => ?_, fun c hc => ?_⟩
  · show (if 4 = 4 then r 4 + nI 1 else r 4) = us V 0 1 (V 0 1 + nI 1) 0 1
    rw [if_pos rfl, us_s, hw.dy]
  · rw [e _ (by omega), e _ (by omega), e _ (by omega), e _ (by omega), e _ (by omega), p0 7 (by decide), p0 8 (by decide), p0 9 (by decide), p0 5 (by decide), p0 6 (by decide)]
    exact hw.2.1 n hn
  · rw [e _ (by omega), e _ (by omega), e _ (by omega), e _ (by omega), e _ (by omega), e _ (by omega), p0 10 (by decide), p0 11 (by decide), p0 12 (by decide), p0 13 (by decide), p0 14 (by decide), p0 16 (by decide), p1 14 (by decide)]
    exact hw.2.2 c hc
/-- the best name as an answer -/
def bI (k : Nat) : Int32 := if k = 20 then -6 else nI k
theorem bI_y {k : Nat} (h : k ≠ 20) : bI k = nI k := if_neg h
theorem bI_6 {k : Nat} (hk : k ≤ 20) : bI k = -6 ↔ k = 20 := by
  constructor
  · intro h
    by_cases q : k = 20
    · exact q
    · rw [bI_y q] at h
      exact absurd h (n6 (by omega))
  · intro h; rw [bI, if_pos h]
theorem pkN_lt (V : CV) (a : Nat) : ∀ k, pkN V a k = 20 ∨ pkN V a k < k
  | 0 => Or.inl rfl
  | k + 1 => by
    rw [pkN]
    split
    · exact Or.inr (Nat.lt_succ_self k)
    · rcases pkN_lt V a k with h | h
      · exact Or.inl h
      · exact Or.inr (by omega)
theorem Rw_day2 {V M : CV} {N : Nat} (hw : Rw V N (M 1)) : Rw (us V 0 1 (V 0 1 + nI 1)) N (us M 1 4 (M 1 4 + nI 1) 1) := by
  have e : us M 1 4 (M 1 4 + nI 1) 1 = upd (M 1) 4 (M 1 4 + nI 1) := by
    funext j
    rw [us_i]
    rfl
  rw [e]
  exact Rw_day hw
