/-! what holds of a court always, with N names -/
def CI (V : CV) (N : Nat) : Prop :=
  (V 0 2 = nI N ∧ N ≤ 20 ∧ isBo (V 0 14)) ∧ ((∃ a, a ≤ 11 ∧ V 1 0 = nI a) ∧ ∃ P, P ≤ 9 ∧ V 1 2 = nI P) ∧
  ((∀ c, c < 12 → V 10 c = -6 ∨ ∃ n, n < N ∧ V 10 c = nI n) ∧ ∀ n, n < N → V 8 n ≠ 0 → ∀ c, c < 12 → V 10 c ≠ nI n) ∧
  ((∀ n, n < N → ∃ h, h ≤ 9 ∧ V 7 n = nI h) ∧ (∀ n, n < N → isBo (V 8 n)) ∧ (∀ n, n < 20 → N ≤ n → V 9 n = 0) ∧ (V 0 14 = 0 → ∀ c, c < 12 → V 16 c = -6)) ∧
  ∀ n, n < N → ∃ L, 2 ≤ L ∧ L ≤ 9 ∧ V 5 n = nI L ∧ (∀ i, i < L → isL (V 4 (n * 9 + i))) ∧ V 6 n = sdS (sga V n) L
theorem sh_at {V : CV} {N k : Nat} (h : CI V N) (hk : k < 12) : (if V 0 14 = 0 then -6 else V 16 k) = V 16 k := by
  by_cases q : V 0 14 = 0
  · rw [if_pos q, h.2.2.2.1.2.2.2 q k hk]
  · rw [if_neg q]
theorem CI.pd {V : CV} {N : Nat} (h : CI V N) : ∃ a P, PD V a N P := by
  obtain ⟨⟨h1, h2, -⟩, ⟨⟨a, ha, ha2⟩, P, hP, hP2⟩, -, ⟨h7, -⟩, -⟩ := h
  exact ⟨a, P, ha2, ha, h1, h2, hP2, hP, h7⟩
theorem hasN_n {V : CV} {N : Nat} {x : Int32} (hN : V 0 2 = nI N) (hN20 : N ≤ 20) (h : hasN V x) : ∃ n, n < N ∧ x = nI n := by
  have hx := h.ix
  refine ⟨x.toNatClampNeg, ?_, hx.1⟩
  have h2 := h.2.1
  rw [hN, hx.1] at h2
  exact (nI_ltI (by omega) (by omega)).mp h2
theorem n_hasN {V : CV} {N n : Nat} (hN : V 0 2 = nI N) (hN20 : N ≤ 20) (h : n < N) : hasN V (nI n) := ⟨nI_pos' (by omega), by rw [hN]; exact nI_lt h (by omega), nI_lt (b := 20) (by omega) (by decide)⟩
theorem ix_n {n : Nat} (h : n < 2 ^ 31) : (nI n).toNatClampNeg = n := nI_clamp h
/-- a number in a range, by its place -/
theorem in_n {x : Int32} {n : Nat} (h0 : 0 ≤ x) (h1 : x < nI n) (hn : n < 2 ^ 31) : ∃ j, j < n ∧ x = nI j := by
  have := ixx (x := x) (n := n) (Int32.not_lt.mpr h0) (Int32.not_le.mpr h1) hn
  exact ⟨x.toNatClampNeg, this.2, this.1⟩
theorem swc (w : Int32) (n : Nat) (hn : n < 2 ^ 31) : (w.toInt < 0 ∨ (n : Int) < w.toInt) ∨ ∃ i, i ≤ n ∧ w = nI i := by
  by_cases h0 : w < 0
  · exact Or.inl (Or.inl (by have := Int32.lt_iff_toInt_lt.mp h0; simpa using this))
  · obtain ⟨j, hj, rfl⟩ := nI_of h0
    rcases Nat.lt_or_ge n j with q | q
    · exact Or.inl (Or.inr (by rw [nI_toInt hj]; omega))
    · exact Or.inr ⟨j, q, rfl⟩
theorem sw_ne {w : Int32} {n : Nat} (hn : n < 2 ^ 31) (h : w.toInt < 0 ∨ (n : Int) < w.toInt) : ∀ i, i ≤ n → ¬ w = nI i := by
  intro i hi e
  rw [e, nI_toInt (by omega)] at h
  omega
abbrev isC (c : Int32) : Prop := 0 ≤ c ∧ c < nI 12
abbrev okS (s v : Int32) : Prop := 0 ≤ s ∧ s < nI 4 ∧ lo4 s.toNatClampNeg ≤ v ∧ v ≤ hi4 s.toNatClampNeg
abbrev okH (h : Int32) : Prop := 0 ≤ h ∧ h ≤ nI 9
def Rset (V : CV) (s v : Int32) : Int32 := if okS s v then V 1 s.toNatClampNeg else -2
def Nset (V : CV) (s v : Int32) : CV := us V 1 s.toNatClampNeg v
def Rhon (V : CV) (x h : Int32) : Int32 := if ¬ hasN V x then -1 else if ¬ okH h then -2 else V 7 x.toNatClampNeg
abbrev Ehon (V : CV) (x h : Int32) : Prop := hasN V x ∧ okH h
def Nhon (V : CV) (x h : Int32) : CV := us V 7 x.toNatClampNeg h
def Rwit (V : CV) (x : Int32) : Int32 := if ¬ hasN V x then -1 else if V 8 x.toNatClampNeg ≠ 0 then -5 else nI (nb V x 12)
abbrev Ewit (V : CV) (x : Int32) : Prop := hasN V x ∧ V 8 x.toNatClampNeg = 0
def Nwit (V : CV) (x : Int32) : CV := dr (us V 8 x.toNatClampNeg (nI 1)) x.toNatClampNeg 12
def Rgiv (V : CV) (a : Nat) (x c : Int32) : Int32 := if ¬ (hasN V x ∧ isC c) then -1 else if rsn V a x.toNatClampNeg c.toNatClampNeg ≠ 0 then -5 else placeS V x.toNatClampNeg c.toNatClampNeg 11 c.toNatClampNeg
abbrev Egiv (V : CV) (a : Nat) (x c : Int32) : Prop := (hasN V x ∧ isC c) ∧ rsn V a x.toNatClampNeg c.toNatClampNeg = 0
def Ngiv (V : CV) (x c : Int32) : CV := placeS V x.toNatClampNeg c.toNatClampNeg
def Rstr (V : CV) (c : Int32) : Int32 := if ¬ isC c then -1 else if V 10 c.toNatClampNeg = -6 then -5 else V 10 c.toNatClampNeg
abbrev Estr (V : CV) (c : Int32) : Prop := isC c ∧ V 10 c.toNatClampNeg ≠ -6
def Nstr (V : CV) (c : Int32) : CV := us (us V 10 c.toNatClampNeg (-6)) 11 c.toNatClampNeg ((us V 10 c.toNatClampNeg (-6)) 11 c.toNatClampNeg + nI 1)
abbrev okD (d : Int32) (n : Nat) : Prop := nI 1 ≤ d ∧ d ≤ nI n
def Rpas (V : CV) (a N P : Nat) (d : Int32) : Int32 := if ¬ okD d 99 then -2 else if nI 9999 < V 0 1 + d then -4 else nI (dayn V a N P d.toNatClampNeg)
abbrev Epas (V : CV) (d : Int32) : Prop := okD d 99 ∧ ¬ nI 9999 < V 0 1 + d
def Npas (V : CV) (a N P : Nat) (d : Int32) : CV := days V a N P d.toNatClampNeg
def Rnam (V : CV) (N : Nat) (x w : Int32) : Int32 := if ¬ hasN V x then -1 else if w = nI 0 then V 7 x.toNatClampNeg else if w = nI 1 then wh V x.toNatClampNeg else if w = nI 2 then bm V x 12 else if w = nI 3 then (if wh V x.toNatClampNeg = 0 then nI (plc V x.toNatClampNeg N) else -6) else if w = nI 4 then V 6 x.toNatClampNeg else if w = nI 5 then V 5 x.toNatClampNeg else if w = nI 6 then V 9 x.toNatClampNeg else -2
def Rali (V : CV) (x y w : Int32) : Int32 := if ¬ (hasN V x ∧ hasN V y) then -1 else if w = nI 0 ∨ w = nI 1 then (if V 6 x.toNatClampNeg = V 6 y.toNatClampNeg then 1 else 0) else -2
def Rcor (V : CV) (c w : Int32) : Int32 := if ¬ isC c then -1 else if w = nI 0 then V 10 c.toNatClampNeg else if w = nI 1 then V 11 c.toNatClampNeg else if w = nI 2 then V 12 c.toNatClampNeg else if w = nI 3 then (if V 10 c.toNatClampNeg = -6 then -6 else V 13 c.toNatClampNeg) else if w = nI 4 then V 14 c.toNatClampNeg else if w = nI 5 then (if V 0 14 = 0 then -6 else V 16 c.toNatClampNeg) else -2
def Rwhy (V : CV) (a : Nat) (x c : Int32) : Int32 := if ¬ (hasN V x ∧ isC c) then -1 else rsn V a x.toNatClampNeg c.toNatClampNeg
def Rcnt (V : CV) (N h pl : Nat) (w : Int32) : Int32 := if w = nI 0 then V 1 0 else if w = nI 1 then V 1 1 else if w = nI 2 then V 1 2 else if w = nI 3 then V 1 3 else if w = nI 4 then V 0 1 else if w = nI 5 then nI N else if w = nI 6 then nI (wtn V N) else if w = nI 7 then nI (12 - nb V (-6) 12) else if w = nI 8 then sm (V 11) 12 else if w = nI 9 then sm (V 12) 12 else if w = nI 10 then sm (V 9) 20 else if w = nI 11 then wmS V else if w = nI 12 then nI (pp V 12) else if w = nI 13 then nI pl else if w = nI 14 then nI h else -2
def Rbes (V : CV) (a : Nat) (x : Int32) : Int32 := if ¬ hasN V x then -1 else low (rsn V a x.toNatClampNeg)
/-- the first of the days 0 to 300 on which something holds (f: 0), else none -/
def utl (f : Nat → Int32) : Int32 := if lw f 301 < 301 then nI (lw f 301) else -6
def bof (V : CV) (a N P : Nat) (x : Int32) (k : Nat) : Int32 := if 0 < nb (days V a N P k) x 12 then 0 else 1
def pof (V : CV) (a N P : Nat) (k : Nat) : Int32 := if sm (days V a N P k 11) 12 = 0 then 0 else 1
def Rubo (V : CV) (a N P : Nat) (x : Int32) : Int32 := if ¬ hasN V x then -1 else utl (bof V a N P x)
def Rifp (V : CV) (a N P : Nat) (d w : Int32) : Int32 := if ¬ (okD d 300 ∧ 0 ≤ w ∧ w ≤ nI 2) then -2 else if w = nI 0 then nI (dayn V a N P d.toNatClampNeg) else if w = nI 1 then sm (days V a N P d.toNatClampNeg 12) 12 - sm (V 12) 12 else sm (days V a N P d.toNatClampNeg 11) 12
theorem bof_n {V : CV} {a N P : Nat} {x : Int32} {k : Nat} (h : ¬ 0 < nb (days V a N P k) x 12) : bof V a N P x k ≠ 0 := by rw [bof, if_neg h]; decide
theorem bof_y {V : CV} {a N P : Nat} {x : Int32} {k : Nat} (h : 0 < nb (days V a N P k) x 12) : bof V a N P x k = 0 := by rw [bof, if_pos h]
theorem pof_n {V : CV} {a N P k : Nat} (h : sm (days V a N P k 11) 12 ≠ 0) : pof V a N P k ≠ 0 := by rw [pof, if_neg h]; decide
theorem pof_y {V : CV} {a N P k : Nat} (h : sm (days V a N P k 11) 12 = 0) : pof V a N P k = 0 := by rw [pof, if_pos h]
theorem days_1 {V : CV} {a N P i : Nat} (hi : 1 ≤ i) : days (days V a N P (i - 1)) a N P 1 = days V a N P i := by
  obtain ⟨j, rfl⟩ : ∃ j, i = j + 1 := ⟨i - 1, by omega⟩
  rfl
theorem pos_of {k : Nat} (h : ¬ nI k ≤ 0) : 0 < k := by
  rcases Nat.eq_zero_or_pos k with q | q
  · subst q; exact absurd (by decide) h
  · exact q
