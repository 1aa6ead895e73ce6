/-! reading the pad -/
theorem lw_all {f : Nat → Int32} : ∀ n, lw f n = n → ∀ k, k < n → f k ≠ 0
  | 0, _, k, hk => absurd hk (Nat.not_lt_zero _)
  | n + 1, h, k, hk => by
    have hn : lw f n = n := by
      rw [lw] at h
      have := lw_le f n
      split at h
      · omega
      · omega
    rcases Nat.lt_or_ge k n with q | q
    · exact lw_all n hn k q
    · intro h0
      rw [show k = n by omega] at h0
      rw [lw, if_neg (by omega), if_pos h0] at h
      omega
theorem acf_acc {f : Nat → Int32} {k : Nat} (h : acf f k ≠ 0) : acc f k := by
  by_cases q : acc f k
  · exact q
  · exact absurd (acf_0 q) h
/-- the text is read through -/
def txO (f : Nat → Int32) (n : Nat) : Prop := (∀ k, k < n → acc f k) ∧ n ≠ 0 ∧ ltn f n = 0
theorem ft_ok {f : Nat → Int32} {n : Nat} (hn : n ≤ 60) (h : ftS f n = -6) : txO f n := by
  have hl := lw_le (acf f) n
  have m6 : ∀ k, k ≤ 60 → nI k ≠ -6 := by decide
  rw [ftS] at h
  split at h
  · exact absurd h (m6 _ (by omega))
  · split at h
    · exact absurd h (m6 _ (by omega))
    · rename_i h1 h2
      exact ⟨fun k hk => acf_acc (lw_all n (by omega) k hk), fun q => h2 (Or.inl q), by
        rcases Nat.eq_zero_or_pos (ltn f n) with q | q
        · exact q
        · exact absurd (Or.inr q) h2⟩
/-- where the name begins that is being read behind k characters -/
def rst (f : Nat → Int32) : Nat → Nat
  | 0 => 0
  | k + 1 => if isD (f k) then k + 1 else rst f k
theorem rst_ltn {f : Nat → Int32} : ∀ k, (∀ t, t < k → acc f t) → rst f k + ltn f k = k ∧ ltn f k ≤ 9
  | 0, _ => ⟨rfl, Nat.zero_le _⟩
  | k + 1, h => by
    have ih := rst_ltn k (fun t ht => h t (by omega))
    have ha := h k (by omega)
    rw [rst, ltn]
    rcases ha with ⟨hL, h9⟩ | ⟨hD, h2⟩
    · rw [if_neg (isLD hL), if_pos hL]
      omega
    · rw [if_pos hD, if_neg (fun q => isLD q hD)]
      omega
/-- the court behind k characters -/
def rdW (V : CV) (f : Nat → Int32) (N : Nat) : Nat → CV
  | 0 => V
  | k + 1 => if isD (f k) then apS (rdW V f N k) f (N + dgn f k) (rst f k) (k - rst f k) (f k - nI 48) else rdW V f N k
theorem dgn_mono (f : Nat → Int32) {i : Nat} : ∀ n, i ≤ n → dgn f i ≤ dgn f n
  | 0, h => by rw [show i = 0 by omega]; exact Nat.le_refl _
  | n + 1, h => by
    rcases Nat.lt_or_ge n i with q | q
    · rw [show i = n + 1 by omega]; exact Nat.le_refl _
    · have := dgn_mono f n q
      rw [dgn]; split <;> omega
theorem rdW_N {V : CV} {f : Nat → Int32} {N : Nat} (hN : V 0 2 = nI N) : ∀ k, rdW V f N k 0 2 = nI (N + dgn f k)
  | 0 => hN
  | k + 1 => by
    rw [rdW, dgn]
    split
    · rw [apS, us_s, Nat.add_assoc]
    · exact rdW_N hN k
def Rrea (N : Nat) (f : Nat → Int32) (pl : Nat) : Int32 := if ftS f pl ≠ -6 then -3 else if 20 < N + dgn f pl then -4 else nI (N + dgn f pl)
abbrev Erea (N : Nat) (f : Nat → Int32) (pl : Nat) : Prop := ftS f pl = -6 ∧ N + dgn f pl ≤ 20
theorem GS.pad0 {μ : Mm} {V : CV} {h : Nat} {hc : Nat → CV} {s0 s1 : CV} {u : Nat → Int32} {pl : Nat} {pd : Nat → Int32} (q : GS μ V h hc s0 s1 u pl pd) : GS (ms μ 10 0 7 (nI 0)) V h hc s0 s1 u 0 pd := by
  obtain ⟨h0, ⟨π, hx, hh⟩, h8, h9, h6, h7, hp, h5, h51⟩ := q
  have e : ∀ b, b ≠ 10 → ms μ 10 0 7 (nI 0) b = μ b := fun b hb => by rw [ms_mb, mb_n hb]
  have ek : ∀ k, k ≠ 0 → ms μ 10 0 7 (nI 0) 10 k = μ 10 k := fun k hk => by rw [ms_n (Or.inr hk)]
  refine ⟨by rw [e 0 (by decide)]; exact h0, ⟨π, ⟨fun j hj => by rw [ek 3 (by decide)]; exact hx.1 j hj, hx.2.1, hx.2.2.1, by rw [ms_i, if_neg (by decide)]; exact hx.2.2.2⟩, fun j hj => ?_⟩, by rw [e 8 (by decide)]; exact h8, by rw [e 9 (by decide)]; exact h9, by rw [ek 6 (by decide)]; exact h6, by rw [ms_s], by rw [ek 7 (by decide)]; exact hp, by rw [ek 5 (by decide)]; exact h5, by rw [ek 5 (by decide)]; exact h51⟩
  have := hx.1 j (by have := hx.2.2.1; omega)
  rw [e _ (by omega)]
  exact hh j hj
/-- n characters behind p others, k of them so far -/
def ptx (f : Nat → Int32) (x : Int64) (n p : Nat) : Nat → Nat → Int32
  | 0 => f
  | k + 1 => upd (ptx f x n p k) (p + k) (cdA x (n - 1 - k))
theorem apd_row {V : CV} {x : Int64} {n p r : Nat} (h0 : r ≠ 0) (h7 : r ≠ 7) : ∀ k, apd V x n p k r = V r
  | 0 => rfl
  | k + 1 => by rw [apd, us_n h0, us_n h7, apd_row h0 h7 k]
theorem apd_0 {V : CV} {x : Int64} {n p j : Nat} (h7 : j ≠ 7) : ∀ k, apd V x n p k 0 j = V 0 j
  | 0 => rfl
  | k + 1 => by rw [apd, us_i, if_neg h7, us_n (by decide), apd_0 h7 k]
theorem apd_7 {V : CV} {x : Int64} {n p : Nat} : ∀ k, apd V x n p k 7 = ptx (V 7) x n p k
  | 0 => rfl
  | k + 1 => by
    rw [apd, us_n (by decide), ptx, ← apd_7 k]
    funext j
    rw [us_i]
    rfl
theorem apd_pl {V : CV} {x : Int64} {n p : Nat} (h : V 0 7 = nI p) : ∀ k, apd V x n p k 0 7 = nI (p + k)
  | 0 => h
  | k + 1 => by rw [apd, us_s]; rfl
theorem GS.put {μ : Mm} {V : CV} {h : Nat} {hc : Nat → CV} {s0 s1 : CV} {u : Nat → Int32} {pl : Nat} {pd : Nat → Int32} (q : GS μ V h hc s0 s1 u pl pd) (x : Int64) (n k : Nat) : GS (mb μ 10 (apd (μ 10) x n pl k)) V h hc s0 s1 u (pl + k) (ptx pd x n pl k) := by
  obtain ⟨h0, ⟨π, hx, hh⟩, h8, h9, h6, h7, hp, h5, h51⟩ := q
  refine ⟨by rw [mb_n (by decide)]; exact h0, ⟨π, ⟨fun j hj => ?_, hx.2.1, hx.2.2.1, ?_⟩, fun j hj => ?_⟩, by rw [mb_n (by decide)]; exact h8, by rw [mb_n (by decide)]; exact h9, by rw [mb_s, apd_row (by decide) (by decide)]; exact h6, by rw [mb_s]; exact apd_pl h7 k, by rw [mb_s, apd_7, hp], by rw [mb_s, apd_row (by decide) (by decide)]; exact h5, by rw [mb_s, apd_row (by decide) (by decide)]; exact h51⟩
  · rw [mb_s, apd_row (by decide) (by decide)]; exact hx.1 j hj
  · rw [mb_s, apd_0 (by decide)]; exact hx.2.2.2
  · have := hx.1 j (by have := hx.2.2.1; omega)
    rw [mb_n (by omega)]
    exact hh j hj
/-- a state comes back -/
theorem GS.und {μ : Mm} {V : CV} {h : Nat} {hc : Nat → CV} {s0 s1 : CV} {u : Nat → Int32} {pl : Nat} {pd : Nat → Int32} (q : GS μ V (h + 1) hc s0 s1 u pl pd) (V1 : CV) : GS (mb (ms μ 10 0 3 (nI h)) 0 V1) V1 h hc s0 s1 u pl pd := by
  obtain ⟨h0, ⟨π, hx, hh⟩, h8, h9, h6, h7, hp, h5, h51⟩ := q
  have e : ∀ b, b ≠ 10 → ms μ 10 0 3 (nI h) b = μ b := fun b hb => by rw [ms_mb, mb_n hb]
  have ek : ∀ k, k ≠ 0 → ms μ 10 0 3 (nI h) 10 k = μ 10 k := fun k hk => by rw [ms_n (Or.inr hk)]
  refine GS.now (V := μ 0) ⟨by rw [e 0 (by decide)], ⟨π, ⟨fun j hj => by rw [ek 3 (by decide)]; exact hx.1 j hj, hx.2.1, by have := hx.2.2.1; omega, by rw [ms_s]⟩, fun j hj => ?_⟩, by rw [e 8 (by decide)]; exact h8, by rw [e 9 (by decide)]; exact h9, by rw [ek 6 (by decide)]; exact h6, by rw [ms_i, if_neg (by decide)]; exact h7, by rw [ek 7 (by decide)]; exact hp, by rw [ek 5 (by decide)]; exact h5, by rw [ek 5 (by decide)]; exact h51⟩
  have := hx.1 j (by have := hx.2.2.1; omega)
  rw [e _ (by omega)]
  exact hh j (by omega)
/-- a slot is written -/
theorem GS.sav {μ : Mm} {V : CV} {h : Nat} {hc : Nat → CV} {s0 s1 : CV} {u : Nat → Int32} {pl : Nat} {pd : Nat → Int32} (q : GS μ V h hc s0 s1 u pl pd) (k : Nat) (hk : k < 2) : GS (ms (mb μ (8 + k) V) 10 6 k (nI 1)) V h hc (if k = 0 then V else s0) (if k = 1 then V else s1) (upd u k (nI 1)) pl pd := by
  obtain ⟨h0, ⟨π, hx, hh⟩, h8, h9, h6, h7, hp, h5, h51⟩ := q
  have e : ∀ b, b ≠ 10 → ms (mb μ (8 + k) V) 10 6 k (nI 1) b = mb μ (8 + k) V b := fun b hb => by rw [ms_mb, mb_n hb]
  have ek : ∀ r, r ≠ 6 → ms (mb μ (8 + k) V) 10 6 k (nI 1) 10 r = μ 10 r := fun r hr => by rw [ms_n (Or.inr hr), mb_n (by omega)]
  refine ⟨by rw [e 0 (by decide), mb_n (by omega)]; exact h0, ⟨π, ⟨fun j hj => by rw [ek 3 (by decide)]; exact hx.1 j hj, hx.2.1, hx.2.2.1, by rw [ek 0 (by decide)]; exact hx.2.2.2⟩, fun j hj => ?_⟩, ?_, ?_, ?_, by rw [ek 0 (by decide)]; exact h7, by rw [ek 7 (by decide)]; exact hp, by rw [ek 5 (by decide)]; exact h5, by rw [ek 5 (by decide)]; exact h51⟩
  · have := hx.1 j (by have := hx.2.2.1; omega)
    rw [e _ (by omega), mb_n (by omega)]
    exact hh j hj
  · rw [e 8 (by decide)]
    by_cases z : k = 0
    · subst z; rw [mb_s, if_pos rfl]
    · rw [mb_n (by omega), if_neg z]; exact h8
  · rw [e 9 (by decide)]
    by_cases z : k = 1
    · subst z; rw [mb_s, if_pos rfl]
    · rw [mb_n (by omega), if_neg z]; exact h9
  · funext j
    rw [ms_i, mb_n (by omega), h6]
    rfl
