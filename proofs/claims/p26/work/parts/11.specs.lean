/-! WHAT THE METHODS COMPUTE, of a court's memory V (V k j: place j of the array in field k - 1; V 0 f: the int in field f) -/
abbrev CV : Type := Nat → Nat → Int32
/-- a boolean answer -/
def bP (r : Int32) (P : Prop) : Prop := (r = 1 ∧ P) ∨ (r = 0 ∧ ¬ P)
theorem bP.y {P : Prop} (h : P) : bP 1 P := Or.inl ⟨rfl, h⟩
theorem bP.n {P : Prop} (h : ¬ P) : bP 0 P := Or.inr ⟨rfl, h⟩
theorem bP.yn {P : Prop} (h : P) : bP (nI 1) P := Or.inl ⟨rfl, h⟩
theorem bP.nn {P : Prop} (h : ¬ P) : bP (nI 0) P := Or.inr ⟨rfl, h⟩
theorem bP.t {r : Int32} {P : Prop} (h : bP r P) (hr : ¬ r = 0) : P := h.elim (fun q => q.2) (fun q => absurd q.1 hr)
theorem bP.f {r : Int32} {P : Prop} (h : bP r P) (hr : r = 0) : ¬ P := h.elim (fun q => by rw [q.1] at hr; exact absurd hr (by decide)) (fun q => q.2)
theorem bP.bo {r : Int32} {P : Prop} (h : bP r P) : isBo r := h.elim (fun q => Or.inr q.1) (fun q => Or.inl q.1)
theorem bP.iff {r : Int32} {P R : Prop} (h : bP r P) (e : P ↔ R) : bP r R := h.elim (fun q => Or.inl ⟨q.1, e.mp q.2⟩) (fun q => Or.inr ⟨q.1, fun z => q.2 (e.mpr z)⟩)
theorem bP.nt {r : Int32} {P : Prop} (h : bP r P) (hr : r ≠ 0) : P := h.t hr
theorem bP.nf {r : Int32} {P : Prop} (h : bP r P) (hr : ¬ r ≠ 0) : ¬ P := h.f (Classical.not_not.mp hr)
/-! numbers and bits -/
theorem ixx {x : Int32} {n : Nat} (h0 : ¬ x < 0) (h1 : ¬ nI n ≤ x) (hn : n < 2 ^ 31) : x = nI x.toNatClampNeg ∧ x.toNatClampNeg < n := by
  rcases pk_ix x hn with h | h | ⟨j, hj, rfl⟩
  · exact absurd h h0
  · exact absurd h h1
  · rw [nI_clamp (Nat.lt_trans hj hn)]
    exact ⟨rfl, hj⟩
def bt (x : Int32) (i : Nat) : Bool := x.toBitVec.getLsbD i
theorem b_or (x y : Int32) (i : Nat) : bt (x ||| y) i = (bt x i || bt y i) := by unfold bt; rw [Int32.toBitVec_or, BitVec.getLsbD_or]
theorem b_and (x y : Int32) (i : Nat) : bt (x &&& y) i = (bt x i && bt y i) := by unfold bt; rw [Int32.toBitVec_and, BitVec.getLsbD_and]
theorem b_ext {x y : Int32} (h : ∀ i, i < 32 → bt x i = bt y i) : x = y := Int32.toBitVec_inj.mp (BitVec.eq_of_getLsbD_eq (fun i hi => h i hi))
theorem b_0 (i : Nat) : bt 0 i = false := BitVec.getLsbD_zero
theorem b_n0 (i : Nat) : bt (nI 0) i = false := BitVec.getLsbD_zero
theorem sh_tw : ∀ l, l < 32 → ((nI 1) <<< (nI l &&& 31)).toBitVec = BitVec.twoPow 32 l := by decide +kernel
theorem b_tw (c d : Nat) (hc : c < 32) : bt ((nI 1) <<< (nI c &&& 31)) d = decide (d = c) := by
  unfold bt
  rw [sh_tw c hc, BitVec.getLsbD_twoPow]
  by_cases h : d = c
  · subst h; simp [hc]
  · have : ¬ c = d := fun q => h q.symm
    simp [h, this]
theorem b_in (x : Int32) (c : Nat) (hc : c < 32) : (x &&& ((nI 1) <<< (nI c &&& 31))) = 0 ↔ bt x c = false := by
  constructor
  · intro h
    have h1 := b_and x ((nI 1) <<< (nI c &&& 31)) c
    rw [h, b_0, b_tw c c hc] at h1
    simpa using h1.symm
  · intro h
    apply b_ext
    intro i hi
    rw [b_and, b_tw c i hc, b_0]
    by_cases hic : i = c
    · subst hic; simp [h]
    · simp [hic]
/-- how many of the first k corners bear x -/
def nb (V : CV) (x : Int32) : Nat → Nat
  | 0 => 0
  | k + 1 => if V 10 k = x then nb V x k + 1 else nb V x k
theorem nb_le (V : CV) (x : Int32) : ∀ k, nb V x k ≤ k
  | 0 => Nat.le_refl _
  | k + 1 => by
    have := nb_le V x k
    rw [nb]
    split <;> omega
/-- the first k corners that bear x, as a mask -/
def bm (V : CV) (x : Int32) : Nat → Int32
  | 0 => 0
  | k + 1 => if V 10 k = x then bm V x k ||| ((nI 1) <<< (nI k &&& 31)) else bm V x k
abbrev hasN (V : CV) (x : Int32) : Prop := 0 ≤ x ∧ x < V 0 2 ∧ x < 20
theorem hasN.ix {V : CV} {x : Int32} (h : hasN V x) : x = nI x.toNatClampNeg ∧ x.toNatClampNeg < 20 := ixx (by simpa using h.1) (by have := h.2.2; show ¬ (20 : Int32) ≤ x; simpa using this) (by decide)
/-- 0 waiting, 1 borne, 2 withdrawn -/
def wh (V : CV) (n : Nat) : Int32 := if V 8 n = 0 then (if 0 < nb V (nI n) 12 then 1 else 0) else 2
/-- i stands before n in the queue, by honour and number -/
abbrev befS (V : CV) (i n : Nat) : Prop := V 7 n < V 7 i ∨ (V 7 i = V 7 n ∧ i < n)
def plc (V : CV) (n : Nat) : Nat → Nat
  | 0 => 0
  | k + 1 => if befS V k n ∧ wh V k = 0 then plc V n k + 1 else plc V n k
def wtn (V : CV) : Nat → Nat
  | 0 => 0
  | k + 1 => if wh V k = 0 then wtn V k + 1 else wtn V k
abbrev punS (V : CV) (x y : Int32) : Prop := x ≠ y ∧ hasN V x ∧ hasN V y ∧ V 6 x.toNatClampNeg = V 6 y.toNatClampNeg
def pq (V : CV) (i : Nat) : Nat → Nat
  | 0 => 0
  | d + 1 => if i < d ∧ punS V (V 10 i) (V 10 d) then pq V i d + 1 else pq V i d
def pp (V : CV) : Nat → Nat
  | 0 => 0
  | i + 1 => pp V i + pq V i 12
theorem pq_0 (V : CV) (i : Nat) : ∀ d, d ≤ i + 1 → pq V i d = 0
  | 0, _ => rfl
  | d + 1, h => by rw [pq, if_neg (fun q => absurd q.1 (by omega)), pq_0 V i d (by omega)]
/-- a corner at most a away, another one -/
abbrev nearC (a c d : Nat) : Prop := c ≠ d ∧ c ≤ d + a ∧ d ≤ c + a
/-- some of the first k corners is near c and bears a pun on n -/
def nearB (V : CV) (a n c : Nat) : Nat → Bool
  | 0 => false
  | k + 1 => nearB V a n c k || decide (punS V (nI n) (V 10 k) ∧ nearC a c k)
/-- why n is refused for c, with k bearers, q: a pun near -/
def rsnq (V : CV) (n c k : Nat) (q : Bool) : Int32 :=
  if V 8 n ≠ 0 then 1 else if V 10 c = nI n then 2 else if ¬ nI k < V 1 1 then 3 else if q = true then 4 else if hasN V (V 10 c) ∧ V 7 n < V 7 (V 10 c).toNatClampNeg then 5 else if hasN V (V 10 c) ∧ V 0 1 - V 13 c < V 1 3 then 6 else 0
def rsn (V : CV) (a n c : Nat) : Int32 := rsnq V n c (nb V (nI n) 12) (nearB V a n c 12)
/-- the first of k places where f is 0, else k -/
def lw (f : Nat → Int32) : Nat → Nat
  | 0 => 0
  | k + 1 => if lw f k < k then lw f k else if f k = 0 then k else k + 1
theorem lw_hit {f : Nat → Int32} {i : Nat} (h : lw f i = i) (h0 : f i = 0) : ∀ n, i < n → lw f n = i
  | 0, q => absurd q (Nat.not_lt_zero _)
  | n + 1, q => by
    rcases Nat.lt_or_ge i n with r | r
    · have := lw_hit h h0 n r
      rw [lw, if_pos (by omega), this]
    · have e : n = i := by omega
      subst e
      rw [lw, if_neg (by omega), if_pos h0]
theorem lw_go {f : Nat → Int32} {i : Nat} (h : lw f i = i) (h0 : f i ≠ 0) : lw f (i + 1) = i + 1 := by rw [lw, if_neg (by omega), if_neg h0]
def low (f : Nat → Int32) : Int32 := if lw f 12 < 12 then nI (lw f 12) else -6
/-- a sum of the first k numbers of a row -/
def sm (f : Nat → Int32) : Nat → Int32
  | 0 => 0
  | k + 1 => sm f k + f k
/-- the sign of a letter's code -/
def sgn (x : Int32) : Int32 := if ¬ (x - nI 97 < 0) ∧ ¬ (nI 26 ≤ x - nI 97) then sg (x - nI 97).toNatClampNeg else 0
/-- the sign at a letter of a name -/
def sga (V : CV) (n i : Nat) : Int32 := sgn (V 4 (n * 9 + i))
/-- the last sign, and the sound, of the first k letters, by their signs -/
def sdP (g : Nat → Int32) : Nat → Int32
  | 0 => 0
  | k + 1 => if g k = 0 then sdP g k else g k
abbrev hrd (g : Nat → Int32) (k : Nat) : Prop := g k ≠ 0 ∧ g k ≠ sdP g k ∧ (g k ≠ nI 7 ∨ sdP g k = 0)
def sdS (g : Nat → Int32) : Nat → Int32
  | 0 => 0
  | k + 1 => if hrd g k then sdS g k * nI 10 + g k else sdS g k
theorem sdP_pred {g : Nat → Int32} {j : Nat} (h : 1 ≤ j) : sdP g j = if g (j - 1) = 0 then sdP g (j - 1) else g (j - 1) := by
  obtain ⟨i, rfl⟩ : ∃ i, j = i + 1 := ⟨j - 1, by omega⟩
  rfl
/-- the heard signs of the first k letters -/
def hls (g : Nat → Int32) : Nat → List Int32
  | 0 => []
  | k + 1 => if hrd g k then hls g k ++ [g k] else hls g k
theorem hls_len (g : Nat → Int32) : ∀ k, (hls g k).length ≤ k
  | 0 => Nat.le_refl _
  | k + 1 => by
    have := hls_len g k
    rw [hls]
    split
    · rw [List.length_append]; simp; omega
    · omega
theorem hls_skip {g : Nat → Int32} {i : Nat} : ∀ k, i ≤ k → (∀ t, i ≤ t → t < k → ¬ hrd g t) → hls g k = hls g i
  | 0, h, _ => by rw [show i = 0 by omega]
  | k + 1, h, hn => by
    rcases Nat.lt_or_ge k i with q | q
    · rw [show i = k + 1 by omega]
    · rw [hls, if_neg (hn k q (by omega)), hls_skip k q (fun t h1 h2 => hn t h1 (by omega))]
theorem hls_pre {g : Nat → Int32} {i : Nat} : ∀ k, i ≤ k → ∃ l, hls g k = hls g i ++ l
  | 0, h => ⟨[], by rw [show i = 0 by omega, List.append_nil]⟩
  | k + 1, h => by
    rcases Nat.lt_or_ge k i with q | q
    · exact ⟨[], by rw [show i = k + 1 by omega, List.append_nil]⟩
    · obtain ⟨l, hl⟩ := hls_pre k q
      rw [hls]
      split
      · exact ⟨l ++ [g k], by rw [hl, List.append_assoc]⟩
      · exact ⟨l, hl⟩
theorem hls_at {g : Nat → Int32} {i k : Nat} (h : i < k) (hh : hrd g i) : ∃ l, hls g k = hls g i ++ (g i :: l) := by
  obtain ⟨l, hl⟩ := hls_pre (g := g) (i := i + 1) k h
  exact ⟨l, by rw [hl, hls, if_pos hh, List.append_assoc]; rfl⟩
theorem mx_sub {a c : Nat} (ha : a < 2 ^ 30) (hc : c < 2 ^ 30) : (if nI 0 < nI c - nI a then nI c - nI a else nI 0) = nI (c - a) := by
  rcases Nat.lt_or_ge a c with h | h
  · rw [pk_sub (Nat.le_of_lt h), if_pos (nI_lt (by omega) (by omega))]
  · rw [if_neg, show c - a = 0 by omega]
    rcases Nat.lt_or_ge c a with q | q
    · intro z
      have := pk_sneg ha q
      exact absurd z (Int32.not_lt.mpr (Int32.le_of_lt this))
    · rw [show a = c by omega, pk_sub (Nat.le_refl _), Nat.sub_self]
      exact nI_nlt (Nat.le_refl _) (by omega)
theorem mn_add {x : Nat} (hx : x < 2 ^ 30) : (if nI x < nI 11 then nI x else nI 11) = nI (min 11 x) := by
  rcases Nat.lt_or_ge x 11 with h | h
  · rw [if_pos (nI_lt h (by omega)), Nat.min_eq_right (by omega)]
  · rw [if_neg (nI_nlt h (by omega)), Nat.min_eq_left h]
theorem sub1_t {j : Nat} (hj : j < 2 ^ 30) (h : nI j - nI 1 < 0) : j = 0 := by
  rcases Nat.eq_zero_or_pos j with q | q
  · exact q
  · rw [pk_sub (show 1 ≤ j by omega)] at h
    exact absurd h (nI_pos (by omega))
theorem sub1_f {j : Nat} (h : ¬ nI j - nI 1 < 0) : 1 ≤ j := by
  rcases Nat.eq_zero_or_pos j with q | q
  · subst q
    exact absurd (pk_sneg (a := 0) (b := 1) (by decide) (by decide)) h
  · exact q
theorem hls_ne {g g' : Nat → Int32} {i j L1 L2 : Nat} (hll : hls g i = hls g' j) (hx : (i < L1 ∧ j = L2) ∨ (j < L2 ∧ i = L1)) (hhi : i < L1 → hrd g i) (hhj : j < L2 → hrd g' j) : ¬ hls g L1 = hls g' L2 := by
  intro q
  rcases hx with ⟨h, e⟩ | ⟨h, e⟩
  · obtain ⟨u, hu⟩ := hls_at (k := L1) h (hhi h)
    rw [hu, ← e, hll] at q
    exact absurd (congrArg List.length q) (by simp)
  · obtain ⟨u, hu⟩ := hls_at (k := L2) h (hhj h)
    rw [hu, ← e, hll] at q
    exact absurd (congrArg List.length q) (by simp)
theorem iinc_m1 (x : Int32) : x + Int32.ofInt (-1) = x - nI 1 := by
  rw [Int32.sub_eq_add_neg, show Int32.ofInt (-1) = -nI 1 by decide]
theorem hls_0 (g : Nat → Int32) : hls g 0 = [] := rfl
/-! changes of a court -/
def bump (V : CV) (c : Nat) : CV := us V 11 c (V 11 c + nI 1)
def pa1 (V : CV) (n c : Nat) : CV := us V 10 c (nI n)
def pa2 (V : CV) (c : Nat) : CV := us V 13 c (V 0 1)
def pa3 (V : CV) (c : Nat) : CV := us V 14 c (V 14 c + nI 1)
def pa4 (V : CV) (n : Nat) : CV := us V 9 n (V 9 n + nI 1)
def pa5 (V : CV) (c : Nat) : CV := us V 11 c (V 11 c + nI 2)
def pl5 (V : CV) (n c : Nat) : CV := pa5 (pa4 (pa3 (pa2 (pa1 V n c) c) c) n) c
def upL (V : CV) (c : Nat) : CV := if 0 < c then bump V (c - 1) else V
def upR (V : CV) (c : Nat) : CV := if c < 11 then bump V (c + 1) else V
/-- a name is given to a corner -/
def placeS (V : CV) (n c : Nat) : CV := upR (upL (pl5 V n c) c) c
/-- the first k corners lose the name n -/
def dr (V : CV) (n : Nat) : Nat → CV
  | 0 => V
  | k + 1 => if dr V n k 10 k = nI n then us (dr V n k) 10 k (-6) else dr V n k
/-- the corner that owes the most, of the first k -/
def mo (V : CV) : Nat → Nat
  | 0 => 0
  | k + 1 => if V 11 (mo V k) < V 11 k then k else mo V k
theorem mo_lt (V : CV) : ∀ k, mo V k ≤ k - 1
  | 0 => Nat.le_refl _
  | k + 1 => by
    have := mo_lt V k
    rw [mo]
    split <;> omega
theorem mo_1 (V : CV) : mo V 1 = 0 := by rw [mo]; split <;> rfl
def pst (V : CV) (m : Nat) : CV := us (us V 11 m (V 11 m - nI 1)) 12 m ((us V 11 m (V 11 m - nI 1)) 12 m + nI 1)
def up1 (V : CV) : CV := if 0 < V 11 (mo V 12) then pst V (mo V 12) else V
def su (V : CV) : Nat → CV
  | 0 => V
  | k + 1 => up1 (su V k)
theorem su_fix {V : CV} {i : Nat} (h : up1 (su V i) = su V i) : ∀ k, i ≤ k → su V k = su V i
  | 0, q => by rw [show i = 0 by omega]
  | k + 1, q => by
    rcases Nat.lt_or_ge k i with r | r
    · rw [show i = k + 1 by omega]
    · rw [su, su_fix h k r, h]
theorem up1_row {V : CV} {r : Nat} (h1 : r ≠ 11) (h2 : r ≠ 12) : up1 V r = V r := by
  rw [up1]
  split
  · rw [pst, us_n h2, us_n h1]
  · rfl
theorem su_row {V : CV} {r : Nat} (h1 : r ≠ 11) (h2 : r ≠ 12) : ∀ k, su V k r = V r
  | 0 => rfl
  | k + 1 => by rw [su, up1_row h1 h2, su_row h1 h2 k]
theorem bump_row {V : CV} {c r : Nat} (h : r ≠ 11) : bump V c r = V r := us_n h
theorem upL_row {V : CV} {c r : Nat} (h : r ≠ 11) : upL V c r = V r := by
  rw [upL]; split
  · exact bump_row h
  · rfl
theorem upR_row {V : CV} {c r : Nat} (h : r ≠ 11) : upR V c r = V r := by
  rw [upR]; split
  · exact bump_row h
  · rfl
theorem place_row {V : CV} {n c r : Nat} (h1 : r ≠ 10) (h2 : r ≠ 13) (h3 : r ≠ 14) (h4 : r ≠ 9) (h5 : r ≠ 11) : placeS V n c r = V r := by
  rw [placeS, upR_row h5, upL_row h5, pl5, pa5, us_n h5, pa4, us_n h4, pa3, us_n h3, pa2, us_n h2, pa1, us_n h1]
/-- a name that waits and has a corner -/
abbrev cnd (V : CV) (a N n : Nat) : Prop := n < N ∧ wh V n = 0 ∧ low (rsn V a n) ≠ -6
/-- the name that is given next among the first k, 20: none -/
def pkN (V : CV) (a : Nat) : Nat → Nat
  | 0 => 20
  | k + 1 => if wh V k = 0 ∧ (pkN V a k = 20 ∨ befS V k (pkN V a k)) ∧ low (rsn V a k) ≠ -6 then k else pkN V a k
theorem low_c {f : Nat → Int32} (h : low f ≠ -6) : low f = nI (lw f 12) ∧ lw f 12 < 12 := by
  by_cases q : lw f 12 < 12
  · exact ⟨by rw [low, if_pos q], q⟩
  · exact absurd (by rw [low, if_neg q]) h
theorem lw_le (f : Nat → Int32) : ∀ k, lw f k ≤ k
  | 0 => Nat.le_refl _
  | k + 1 => by
    have := lw_le f k
    rw [lw]; split
    · omega
    · split <;> omega
theorem bef_tot (V : CV) {m n : Nat} (h : m ≠ n) : befS V m n ∨ befS V n m := by
  by_cases q : V 7 n < V 7 m
  · exact Or.inl (Or.inl q)
  · by_cases q2 : V 7 m < V 7 n
    · exact Or.inr (Or.inl q2)
    · have e : V 7 m = V 7 n := Int32.le_antisymm (Int32.not_lt.mp q) (Int32.not_lt.mp q2)
      rcases Nat.lt_or_gt_of_ne h with z | z
      · exact Or.inl (Or.inr ⟨e, z⟩)
      · exact Or.inr (Or.inr ⟨e.symm, z⟩)
theorem bef_trans (V : CV) {m n q : Nat} (h1 : befS V m n) (h2 : befS V n q) : befS V m q := by
  rcases h1 with h1 | ⟨e1, l1⟩ <;> rcases h2 with h2 | ⟨e2, l2⟩
  · exact Or.inl (Int32.lt_trans h2 h1)
  · exact Or.inl (by rw [← e2]; exact h1)
  · exact Or.inl (by rw [e1]; exact h2)
  · exact Or.inr ⟨e1.trans e2, by omega⟩
theorem bef_asym (V : CV) {m n : Nat} (h1 : befS V m n) (h2 : befS V n m) : False := by
  rcases h1 with h1 | ⟨e1, l1⟩ <;> rcases h2 with h2 | ⟨e2, l2⟩
  · exact Int32.lt_asymm h1 h2
  · rw [e2] at h1; exact Int32.lt_irrefl h1
  · rw [e1] at h2; exact Int32.lt_irrefl h2
  · omega
/-- what pkN finds -/
theorem pkN_is (V : CV) (a : Nat) : ∀ k, k ≤ 20 → (pkN V a k = 20 ∧ ∀ n, ¬ cnd V a k n) ∨ (cnd V a k (pkN V a k) ∧ ∀ m, cnd V a k m → ¬ befS V m (pkN V a k))
  | 0, _ => Or.inl ⟨rfl, fun n h => absurd h.1 (Nat.not_lt_zero _)⟩
  | k + 1, hk => by
    have ih := pkN_is V a k (by omega)
    rw [pkN]
    by_cases h : wh V k = 0 ∧ (pkN V a k = 20 ∨ befS V k (pkN V a k)) ∧ low (rsn V a k) ≠ -6
    · rw [if_pos h]
      refine Or.inr ⟨⟨Nat.lt_succ_self k, h.1, h.2.2⟩, fun m hm hb => ?_⟩
      rcases Nat.lt_or_ge m k with q | q
      · rcases ih with ⟨e, hn⟩ | ⟨hc, hn⟩
        · exact hn m ⟨q, hm.2⟩
        · rcases h.2.1 with e | e
          · have := hc.1; omega
          · exact hn m ⟨q, hm.2⟩ (bef_trans V hb e)
      · have e : m = k := by have := hm.1; omega
        subst e
        exact bef_asym V hb hb
    · rw [if_neg h]
      rcases ih with ⟨e, hn⟩ | ⟨hc, hn⟩
      · refine Or.inl ⟨e, fun n hc => ?_⟩
        rcases Nat.lt_or_ge n k with q | q
        · exact hn n ⟨q, hc.2⟩
        · have e2 : n = k := by have := hc.1; omega
          subst e2
          exact h ⟨hc.2.1, Or.inl e, hc.2.2⟩
      · refine Or.inr ⟨⟨Nat.lt_succ_of_lt hc.1, hc.2⟩, fun m hm hb => ?_⟩
        rcases Nat.lt_or_ge m k with q | q
        · exact hn m ⟨q, hm.2⟩ hb
        · have e2 : m = k := by have := hm.1; omega
          subst e2
          exact h ⟨hm.2.1, Or.inr hb, hm.2.2⟩
theorem pkN_eq {V : CV} {a N n : Nat} (hN : N ≤ 20) (h : cnd V a N n) (hb : ∀ m, cnd V a N m → ¬ befS V m n) : pkN V a N = n := by
  rcases pkN_is V a N hN with ⟨-, q⟩ | ⟨hc, q⟩
  · exact absurd h (q n)
  · by_cases e : pkN V a N = n
    · exact e
    · rcases bef_tot V e with z | z
      · exact absurd z (hb _ hc)
      · exact absurd z (q _ h)
theorem pkN_none {V : CV} {a N : Nat} (hN : N ≤ 20) (h : ∀ n, ¬ cnd V a N n) : pkN V a N = 20 := by
  rcases pkN_is V a N hN with ⟨q, -⟩ | ⟨hc, -⟩
  · exact q
  · exact absurd hc (h _)
/-- a day: a name of the queue is given, posts are set up, the day is counted -/
def gq (V : CV) (a N : Nat) : CV := if pkN V a N = 20 then V else placeS V (pkN V a N) (lw (rsn V a (pkN V a N)) 12)
def gqn (V : CV) (a N : Nat) : Nat := if pkN V a N = 20 then 0 else 1
def day (V : CV) (a N P : Nat) : CV := us (su (gq V a N) P) 0 1 (su (gq V a N) P 0 1 + nI 1)
def days (V : CV) (a N P : Nat) : Nat → CV
  | 0 => V
  | k + 1 => day (days V a N P k) a N P
def dayn (V : CV) (a N P : Nat) : Nat → Nat
  | 0 => 0
  | k + 1 => dayn V a N P k + gqn (days V a N P k) a N
theorem gqn_le (V : CV) (a N : Nat) : gqn V a N ≤ 1 := by rw [gqn]; split <;> omega
theorem dayn_le (V : CV) (a N P : Nat) : ∀ k, dayn V a N P k ≤ k
  | 0 => Nat.le_refl _
  | k + 1 => by
    have h1 := dayn_le V a N P k
    have h2 := gqn_le (days V a N P k) a N
    rw [dayn]; omega
theorem gq_row {V : CV} {a N r : Nat} (h1 : r ≠ 10) (h2 : r ≠ 13) (h3 : r ≠ 14) (h4 : r ≠ 9) (h5 : r ≠ 11) : gq V a N r = V r := by
  rw [gq]; split
  · rfl
  · exact place_row h1 h2 h3 h4 h5
theorem day_row {V : CV} {a N P r : Nat} (h0 : r ≠ 0) (h1 : r ≠ 10) (h2 : r ≠ 13) (h3 : r ≠ 14) (h4 : r ≠ 9) (h5 : r ≠ 11) (h6 : r ≠ 12) : day V a N P r = V r := by
  rw [day, us_n h0, su_row h5 h6, gq_row h1 h2 h3 h4 h5]
theorem day_2 {V : CV} {a N P : Nat} : day V a N P 0 2 = V 0 2 := by
  rw [day, us_i, if_neg (by decide), su_row (by decide) (by decide), gq_row (by decide) (by decide) (by decide) (by decide) (by decide)]
/-- what a day asks of a court -/
def PD (V : CV) (a N P : Nat) : Prop := V 1 0 = nI a ∧ a ≤ 11 ∧ V 0 2 = nI N ∧ N ≤ 20 ∧ V 1 2 = nI P ∧ P ≤ 9 ∧ ∀ n, n < N → ∃ h, h ≤ 9 ∧ V 7 n = nI h
theorem PD.row {V W : CV} {a N P : Nat} (h : PD V a N P) (h1 : W 1 = V 1) (h2 : W 0 2 = V 0 2) (h7 : W 7 = V 7) : PD W a N P := by
  obtain ⟨q1, q2, q3, q4, q5, q6, q7⟩ := h
  exact ⟨by rw [h1]; exact q1, q2, by rw [h2]; exact q3, q4, by rw [h1]; exact q5, q6, fun n hn => by rw [h7]; exact q7 n hn⟩
theorem PD.day {V : CV} {a N P : Nat} (h : PD V a N P) : PD (day V a N P) a N P := h.row (day_row (by decide) (by decide) (by decide) (by decide) (by decide) (by decide) (by decide)) day_2 (day_row (by decide) (by decide) (by decide) (by decide) (by decide) (by decide) (by decide))
theorem PD.days {V : CV} {a N P : Nat} (h : PD V a N P) : ∀ k, PD (days V a N P k) a N P
  | 0 => h
  | k + 1 => (PD.days h k).day
/-- corners at which the map is wrong -/
def wm (V : CV) : Nat → Nat
  | 0 => 0
  | k + 1 => if V 16 k = V 10 k then wm V k else wm V k + 1
def wmS (V : CV) : Int32 := if V 0 14 = 0 then -6 else nI (wm V 12)
def dm (V : CV) : CV := uc (us V 0 14 (nI 1)) 16 (va_cpy (us V 0 14 (nI 1) 10) (us V 0 14 (nI 1) 16) 0 0 12)
def apS (V : CV) (f : Nat → Int32) (N s n : Nat) (h : Int32) : CV :=
  us (us (us (us (us (us (uc V 4 (va_cpy f (V 4) s (N * 9) n)) 5 N (nI n)) 7 N h) 8 N (nI 0)) 9 N (nI 0)) 6 N (sdS (sga (us (us (us (us (uc V 4 (va_cpy f (V 4) s (N * 9) n)) 5 N (nI n)) 7 N h) 8 N (nI 0)) 9 N (nI 0)) N) n)) 0 2 (nI (N + 1))
set_option maxHeartbeats 4000000 in
theorem cp_fin {S V a1 a2 a3 a4 a5 a6 a7 a8 a9 b1 b2 b3 b4 b5 b6 b7 : CV} {k j : Nat} (hk : k ∈ ixC) (hj : j < rgC k) (hz : k = 0 → j = 1 ∨ j = 2 ∨ j = 14) (ea1 : a1 = uc V 1 (va_cpy (S 1) (V 1) 0 0 4)) (ea2 : a2 = us a1 0 1 (S 0 1)) (ea3 : a3 = us a2 0 2 (S 0 2)) (ea4 : a4 = uc a3 4 (va_cpy (S 4) (a3 4) 0 0 180)) (ea5 : a5 = uc a4 5 (va_cpy (S 5) (a4 5) 0 0 20)) (ea6 : a6 = uc a5 6 (va_cpy (S 6) (a5 6) 0 0 20)) (ea7 : a7 = uc a6 7 (va_cpy (S 7) (a6 7) 0 0 20)) (ea8 : a8 = uc a7 8 (va_cpy (S 8) (a7 8) 0 0 20)) (ea9 : a9 = uc a8 9 (va_cpy (S 9) (a8 9) 0 0 20)) (eb1 : b1 = uc a9 10 (va_cpy (S 10) (a9 10) 0 0 12)) (eb2 : b2 = uc b1 11 (va_cpy (S 11) (b1 11) 0 0 12)) (eb3 : b3 = uc b2 12 (va_cpy (S 12) (b2 12) 0 0 12)) (eb4 : b4 = uc b3 13 (va_cpy (S 13) (b3 13) 0 0 12)) (eb5 : b5 = uc b4 14 (va_cpy (S 14) (b4 14) 0 0 12)) (eb6 : b6 = us b5 0 14 (S 0 14)) (eb7 : b7 = uc b6 16 (va_cpy (S 16) (b6 16) 0 0 12)) : b7 k j = S k j := by
  simp only [ixC, List.mem_cons, List.not_mem_nil, or_false] at hk
  rcases hk with rfl | rfl | rfl | rfl | rfl | rfl | rfl | rfl | rfl | rfl | rfl | rfl | rfl | rfl
  · rcases hz rfl with rfl | rfl | rfl
    · rw [eb7, uc_n (by decide), eb6, us_i, if_neg (by decide), eb5, uc_n (by decide), eb4, uc_n (by decide), eb3, uc_n (by decide), eb2, uc_n (by decide), eb1, uc_n (by decide), ea9, uc_n (by decide), ea8, uc_n (by decide), ea7, uc_n (by decide), ea6, uc_n (by decide), ea5, uc_n (by decide), ea4, uc_n (by decide), ea3, us_i, if_neg (by decide), ea2, us_s]
    · rw [eb7, uc_n (by decide), eb6, us_i, if_neg (by decide), eb5, uc_n (by decide), eb4, uc_n (by decide), eb3, uc_n (by decide), eb2, uc_n (by decide), eb1, uc_n (by decide), ea9, uc_n (by decide), ea8, uc_n (by decide), ea7, uc_n (by decide), ea6, uc_n (by decide), ea5, uc_n (by decide), ea4, uc_n (by decide), ea3, us_s]
    · rw [eb7, uc_n (by decide), eb6, us_s]
  · have hj : j < 4 := hj
    rw [eb7, uc_n (by decide), eb6, us_n (by decide), eb5, uc_n (by decide), eb4, uc_n (by decide), eb3, uc_n (by decide), eb2, uc_n (by decide), eb1, uc_n (by decide), ea9, uc_n (by decide), ea8, uc_n (by decide), ea7, uc_n (by decide), ea6, uc_n (by decide), ea5, uc_n (by decide), ea4, uc_n (by decide), ea3, us_n (by decide), ea2, us_n (by decide), ea1, uc_s, pk_cpy_in (Nat.zero_le _) (by omega), Nat.zero_add, Nat.sub_zero]
  · have hj : j < 180 := hj
    rw [eb7, uc_n (by decide), eb6, us_n (by decide), eb5, uc_n (by decide), eb4, uc_n (by decide), eb3, uc_n (by decide), eb2, uc_n (by decide), eb1, uc_n (by decide), ea9, uc_n (by decide), ea8, uc_n (by decide), ea7, uc_n (by decide), ea6, uc_n (by decide), ea5, uc_n (by decide), ea4, uc_s, pk_cpy_in (Nat.zero_le _) (by omega), Nat.zero_add, Nat.sub_zero]
  · have hj : j < 20 := hj
    rw [eb7, uc_n (by decide), eb6, us_n (by decide), eb5, uc_n (by decide), eb4, uc_n (by decide), eb3, uc_n (by decide), eb2, uc_n (by decide), eb1, uc_n (by decide), ea9, uc_n (by decide), ea8, uc_n (by decide), ea7, uc_n (by decide), ea6, uc_n (by decide), ea5, uc_s, pk_cpy_in (Nat.zero_le _) (by omega), Nat.zero_add, Nat.sub_zero]
  · have hj : j < 20 := hj
    rw [eb7, uc_n (by decide), eb6, us_n (by decide), eb5, uc_n (by decide), eb4, uc_n (by decide), eb3, uc_n (by decide), eb2, uc_n (by decide), eb1, uc_n (by decide), ea9, uc_n (by decide), ea8, uc_n (by decide), ea7, uc_n (by decide), ea6, uc_s, pk_cpy_in (Nat.zero_le _) (by omega), Nat.zero_add, Nat.sub_zero]
  · have hj : j < 20 := hj
    rw [eb7, uc_n (by decide), eb6, us_n (by decide), eb5, uc_n (by decide), eb4, uc_n (by decide), eb3, uc_n (by decide), eb2, uc_n (by decide), eb1, uc_n (by decide), ea9, uc_n (by decide), ea8, uc_n (by decide), ea7, uc_s, pk_cpy_in (Nat.zero_le _) (by omega), Nat.zero_add, Nat.sub_zero]
  · have hj : j < 20 := hj
    rw [eb7, uc_n (by decide), eb6, us_n (by decide), eb5, uc_n (by decide), eb4, uc_n (by decide), eb3, uc_n (by decide), eb2, uc_n (by decide), eb1, uc_n (by decide), ea9, uc_n (by decide), ea8, uc_s, pk_cpy_in (Nat.zero_le _) (by omega), Nat.zero_add, Nat.sub_zero]
  · have hj : j < 20 := hj
    rw [eb7, uc_n (by decide), eb6, us_n (by decide), eb5, uc_n (by decide), eb4, uc_n (by decide), eb3, uc_n (by decide), eb2, uc_n (by decide), eb1, uc_n (by decide), ea9, uc_s, pk_cpy_in (Nat.zero_le _) (by omega), Nat.zero_add, Nat.sub_zero]
  · have hj : j < 12 := hj
    rw [eb7, uc_n (by decide), eb6, us_n (by decide), eb5, uc_n (by decide), eb4, uc_n (by decide), eb3, uc_n (by decide), eb2, uc_n (by decide), eb1, uc_s, pk_cpy_in (Nat.zero_le _) (by omega), Nat.zero_add, Nat.sub_zero]
  · have hj : j < 12 := hj
    rw [eb7, uc_n (by decide), eb6, us_n (by decide), eb5, uc_n (by decide), eb4, uc_n (by decide), eb3, uc_n (by decide), eb2, uc_s, pk_cpy_in (Nat.zero_le _) (by omega), Nat.zero_add, Nat.sub_zero]
  · have hj : j < 12 := hj
    rw [eb7, uc_n (by decide), eb6, us_n (by decide), eb5, uc_n (by decide), eb4, uc_n (by decide), eb3, uc_s, pk_cpy_in (Nat.zero_le _) (by omega), Nat.zero_add, Nat.sub_zero]
  · have hj : j < 12 := hj
    rw [eb7, uc_n (by decide), eb6, us_n (by decide), eb5, uc_n (by decide), eb4, uc_s, pk_cpy_in (Nat.zero_le _) (by omega), Nat.zero_add, Nat.sub_zero]
  · have hj : j < 12 := hj
    rw [eb7, uc_n (by decide), eb6, us_n (by decide), eb5, uc_s, pk_cpy_in (Nat.zero_le _) (by omega), Nat.zero_add, Nat.sub_zero]
  · have hj : j < 12 := hj
    rw [eb7, uc_s, pk_cpy_in (Nat.zero_le _) (by omega), Nat.zero_add, Nat.sub_zero]
/-! the pad -/
abbrev isL (x : Int32) : Prop := nI 97 ≤ x ∧ x ≤ nI 122
abbrev isD (x : Int32) : Prop := nI 48 ≤ x ∧ x ≤ nI 57
/-- letters behind the last other character, of the first k -/
def ltn (f : Nat → Int32) : Nat → Nat
  | 0 => 0
  | k + 1 => if isL (f k) then ltn f k + 1 else 0
abbrev acc (f : Nat → Int32) (k : Nat) : Prop := (isL (f k) ∧ ltn f k < 9) ∨ (isD (f k) ∧ 2 ≤ ltn f k)
def acf (f : Nat → Int32) (k : Nat) : Int32 := if acc f k then 1 else 0
theorem acf_0 {f : Nat → Int32} {k : Nat} (h : ¬ acc f k) : acf f k = 0 := by rw [acf, if_neg h]
theorem acf_1 {f : Nat → Int32} {k : Nat} (h : acc f k) : acf f k ≠ 0 := by rw [acf, if_pos h]; decide
/-- the fault of a text of n characters -/
def ftS (f : Nat → Int32) (n : Nat) : Int32 := if lw (acf f) n < n then nI (lw (acf f) n) else if n = 0 ∨ 0 < ltn f n then nI n else -6
theorem ltn_le (f : Nat → Int32) : ∀ k, ltn f k ≤ k
  | 0 => Nat.le_refl _
  | k + 1 => by
    have := ltn_le f k
    rw [ltn]; split <;> omega
def dgn (f : Nat → Int32) : Nat → Nat
  | 0 => 0
  | k + 1 => if isD (f k) then dgn f k + 1 else dgn f k
theorem dgn_le (f : Nat → Int32) : ∀ k, dgn f k ≤ k
  | 0 => Nat.le_refl _
  | k + 1 => by
    have := dgn_le f k
    rw [dgn]; split <;> omega
theorem isLD {x : Int32} (h : isL x) : ¬ isD x := fun q => by
  have h1 := Int32.le_trans h.1 q.2
  exact absurd h1 (by decide)
/-- a character of a number, counted from the last -/
def cdA (x : Int64) (i : Nat) : Int32 := ((x.toUInt64 >>> ((nI (8 * i)).toInt64.toUInt64 &&& Int64.toUInt64 63)).toInt64 &&& 255).toInt32
abbrev cdG (x : Int64) (i : Nat) : Prop := nI 33 ≤ cdA x i ∧ cdA x i ≤ nI 126
/-- the number tells n characters -/
def cdN (x : Int64) (n : Nat) : Prop := n ≤ 8 ∧ (∀ i, i < n → cdG x i) ∧ ∀ i, n ≤ i → i < 8 → cdA x i = 0
theorem cdG_ne {x : Int64} {i : Nat} (h : cdG x i) : cdA x i ≠ 0 := fun q => by
  have h1 := h.1
  rw [q] at h1
  exact absurd h1 (by decide)
theorem cdN_inj {x : Int64} {m n : Nat} (h : cdN x m) (h2 : cdN x n) : m = n := by
  rcases Nat.lt_trichotomy m n with q | q | q
  · exact absurd (h.2.2 m (Nat.le_refl _) (by have := h2.1; omega)) (cdG_ne (h2.2.1 m q))
  · exact q
  · exact absurd (h2.2.2 n (Nat.le_refl _) (by have := h.1; omega)) (cdG_ne (h.2.1 n q))
/-- what is told of a number's characters: n of them, 0 if it is not well made -/
def cdR (x : Int64) (n : Nat) : Prop := n ≤ 8 ∧ (1 ≤ n → cdN x n) ∧ (n = 0 → ∀ k, 1 ≤ k → ¬ cdN x k)
theorem cdR_inj {x : Int64} {m n : Nat} (h : cdR x m) (h2 : cdR x n) : m = n := by
  rcases Nat.eq_zero_or_pos m with q | q
  · rcases Nat.eq_zero_or_pos n with r | r
    · omega
    · exact absurd (h2.2.1 r) (h.2.2 q n r)
  · rcases Nat.eq_zero_or_pos n with r | r
    · exact absurd (h.2.1 q) (h2.2.2 r m q)
    · exact cdN_inj (h.2.1 q) (h2.2.1 r)
/-- n characters are put behind p others, k of them so far -/
def apd (V : CV) (x : Int64) (n p : Nat) : Nat → CV
  | 0 => V
  | k + 1 => us (us (apd V x n p k) 7 (p + k) (cdA x (n - 1 - k))) 0 7 (nI (p + k + 1))
theorem rng_n {x : Int32} {a b : Nat} (h1 : nI a ≤ x) (h2 : x ≤ nI b) (ha : a < 2 ^ 31) (hb : b < 2 ^ 31) : ∃ q, a ≤ q ∧ q ≤ b ∧ x = nI q := by
  have h0 : ¬ x < 0 := fun q => nI_pos ha (Int32.lt_of_le_of_lt h1 q)
  obtain ⟨j, hj, rfl⟩ := nI_of h0
  exact ⟨j, (nI_leI ha hj).mp h1, (nI_leI hj hb).mp h2, rfl⟩
theorem cdG_n {x : Int64} {i : Nat} (h : cdG x i) : ∃ q, 33 ≤ q ∧ q ≤ 126 ∧ cdA x i = nI q := rng_n h.1 h.2 (by decide) (by decide)
theorem i2c_n {q : Nat} (h : q < 65536) : ((nI q).toUInt32 % 65536).toInt32 = nI q := by
  have := pk_char (nI q)
  rw [this, pk_tn (by omega), Nat.mod_eq_of_lt h]
/-! the class's state: what it is now, the history of h states hc, the slots, which are used, the pad -/
def XS (μ : Mm) (π : Nat → Nat) (h : Nat) : Prop := (∀ j, j < 6 → 2 ≤ π j ∧ π j < 8 ∧ μ 10 3 j = nI (π j)) ∧ (∀ i j, i < 6 → j < 6 → π i = π j → i = j) ∧ h ≤ 6 ∧ μ 10 0 3 = nI h
def GS (μ : Mm) (V : CV) (h : Nat) (hc : Nat → CV) (s0 s1 : CV) (u : Nat → Int32) (pl : Nat) (pd : Nat → Int32) : Prop :=
  μ 0 = V ∧ (∃ π, XS μ π h ∧ ∀ j, j < h → μ (π j) = hc j) ∧ μ 8 = s0 ∧ μ 9 = s1 ∧ μ 10 6 = u ∧ μ 10 0 7 = nI pl ∧ μ 10 7 = pd ∧ μ 10 5 0 = nI 8 ∧ μ 10 5 1 = nI 9
def rech (h : Nat) : Nat := if h < 6 then h + 1 else 6
def recH (hc : Nat → CV) (h : Nat) (V : CV) (j : Nat) : CV := if h < 6 then (if j = h then V else hc j) else (if j = 5 then V else hc (j + 1))
theorem GS.eqb {μ : Mm} {V : CV} {h : Nat} {hc : Nat → CV} {s0 s1 : CV} {u : Nat → Int32} {pl : Nat} {pd : Nat → Int32} (q : GS μ V h hc s0 s1 u pl pd) : μ = mb μ 0 V := by rw [← q.1, mb_self]
/-- the court of now changes, the rest stays -/
theorem GS.now {μ : Mm} {V V1 : CV} {h : Nat} {hc : Nat → CV} {s0 s1 : CV} {u : Nat → Int32} {pl : Nat} {pd : Nat → Int32} (q : GS μ V h hc s0 s1 u pl pd) : GS (mb μ 0 V1) V1 h hc s0 s1 u pl pd := by
  obtain ⟨-, ⟨π, hx, hh⟩, h8, h9, h6, h7, hp, h5, h51⟩ := q
  refine ⟨mb_s, ⟨π, ?_, fun j hj => ?_⟩, ?_⟩
  · unfold XS
    rw [mb_n (by decide)]
    exact hx
  · have := hx.1 j (by have := hx.2.2.1; omega)
    rw [mb_n (by omega)]
    exact hh j hj
  · rw [mb_n (by decide), mb_n (by decide), mb_n (by decide)]
    exact ⟨h8, h9, h6, h7, hp, h5, h51⟩
/-- the model, or the trial, changes: the class's state stays -/
theorem GS.oth {μ : Mm} {V V1 : CV} {b h : Nat} {hc : Nat → CV} {s0 s1 : CV} {u : Nat → Int32} {pl : Nat} {pd : Nat → Int32} (hb : b = 1 ∨ b = 11) (q : GS μ V h hc s0 s1 u pl pd) : GS (mb μ b V1) V h hc s0 s1 u pl pd := by
  obtain ⟨h0, ⟨π, hx, hh⟩, h8, h9, h6, h7, hp, h5, h51⟩ := q
  refine ⟨by rw [mb_n (by omega)]; exact h0, ⟨π, ?_, fun j hj => ?_⟩, ?_⟩
  · unfold XS
    rw [mb_n (by omega)]
    exact hx
  · have := hx.1 j (by have := hx.2.2.1; omega)
    rw [mb_n (by omega)]
    exact hh j hj
  · rw [mb_n (by omega), mb_n (by omega), mb_n (by omega)]
    exact ⟨h8, h9, h6, h7, hp, h5, h51⟩
/-- the references of the past turned round, the first i - 1 so far -/
def rot (μ : Mm) (π : Nat → Nat) (i : Nat) : Mm := mb μ 10 (uc (μ 10) 3 (fun j => if j + 1 < i then nI (π (j + 1)) else μ 10 3 j))
theorem rot_1 {μ : Mm} {π : Nat → Nat} : rot μ π 1 = μ := by
  have e : uc (μ 10) 3 (fun j => if j + 1 < 1 then nI (π (j + 1)) else μ 10 3 j) = μ 10 := by
    funext k j
    by_cases h : k = 3
    · subst h
      rw [uc_s, if_neg (by omega)]
    · rw [uc_n h]
  rw [rot, e, mb_self]
theorem rot_s {μ : Mm} {π : Nat → Nat} {i : Nat} (hi : 1 ≤ i) : ms (rot μ π i) 10 3 (i - 1) (nI (π i)) = rot μ π (i + 1) := by
  have e : us (uc (μ 10) 3 (fun j => if j + 1 < i then nI (π (j + 1)) else μ 10 3 j)) 3 (i - 1) (nI (π i)) = uc (μ 10) 3 (fun j => if j + 1 < i + 1 then nI (π (j + 1)) else μ 10 3 j) := by
    funext k j
    by_cases h : k = 3
    · subst h
      rw [us_i, uc_s, uc_s]
      by_cases hj : j = i - 1
      · rw [if_pos hj, if_pos (by omega), show j + 1 = i by omega]
      · rw [if_neg hj]
        by_cases hji : j + 1 < i
        · rw [if_pos hji, if_pos (by omega)]
        · rw [if_neg hji, if_neg (by omega)]
    · rw [us_n h, uc_n h, uc_n h]
  rw [rot, ms_b, e, rot]
theorem rot_at {μ : Mm} {π : Nat → Nat} {i j : Nat} (h : i ≤ j + 1) : rot μ π i 10 3 j = μ 10 3 j := by
  rw [rot, mb_s, uc_s, if_neg (by omega)]
/-- the state is recorded: room is left -/
theorem rec_lt {μ : Mm} {V : CV} {h : Nat} {hc : Nat → CV} {s0 s1 : CV} {u : Nat → Int32} {pl : Nat} {pd : Nat → Int32} {π : Nat → Nat} (q : GS μ V h hc s0 s1 u pl pd) (hx : XS μ π h) (hh : ∀ j, j < h → μ (π j) = hc j) (h6 : h < 6) : GS (ms (mb μ (π h) (μ 0)) 10 0 3 (nI (h + 1))) V (rech h) (recH hc h V) s0 s1 u pl pd ∧ ms (mb μ (π h) (μ 0)) 10 0 3 (nI (h + 1)) 11 = μ 11 := by
  obtain ⟨h0, -, h8, h9, hu, h7, hp, h5, h51⟩ := q
  have hph := hx.1 h h6
  have e : ∀ b, b ≠ 10 → ms (mb μ (π h) (μ 0)) 10 0 3 (nI (h + 1)) b = mb μ (π h) (μ 0) b := fun b hb => by rw [ms_mb, mb_n hb]
  have e10 : ∀ k, k ≠ 0 → ms (mb μ (π h) (μ 0)) 10 0 3 (nI (h + 1)) 10 k = μ 10 k := fun k hk => by rw [ms_n (Or.inr hk), mb_n (by omega)]
  have e0 : ∀ j, j ≠ 3 → ms (mb μ (π h) (μ 0)) 10 0 3 (nI (h + 1)) 10 0 j = μ 10 0 j := fun j hj => by rw [ms_i, if_neg hj, mb_n (by omega)]
  refine ⟨⟨by rw [e 0 (by decide), mb_n (by omega)]; exact h0, ⟨π, ⟨fun j hj => ?_, hx.2.1, by rw [rech, if_pos h6]; omega, by rw [rech, if_pos h6, ms_s]⟩, fun j hj => ?_⟩, by rw [e 8 (by decide), mb_n (by omega)]; exact h8, by rw [e 9 (by decide), mb_n (by omega)]; exact h9, by rw [e10 6 (by decide)]; exact hu, by rw [e0 7 (by decide)]; exact h7, by rw [e10 7 (by decide)]; exact hp, by rw [e10 5 (by decide)]; exact h5, by rw [e10 5 (by decide)]; exact h51⟩, by rw [e 11 (by decide), mb_n (by omega)]⟩
  · rw [e10 3 (by decide)]; exact hx.1 j hj
  · have hj6 : j < 6 := by rw [rech, if_pos h6] at hj; omega
    have hpj := hx.1 j hj6
    rw [e _ (by omega), recH, if_pos h6]
    by_cases hjh : j = h
    · subst hjh
      rw [mb_s, if_pos rfl]; exact h0
    · rw [if_neg hjh, mb_n (fun z => hjh (hx.2.1 j h hj6 h6 z))]
      exact hh j (by rw [rech, if_pos h6] at hj; omega)
/-- the state is recorded: the oldest one is dropped -/
theorem rec_6 {μ : Mm} {V : CV} {hc : Nat → CV} {s0 s1 : CV} {u : Nat → Int32} {pl : Nat} {pd : Nat → Int32} {π : Nat → Nat} (q : GS μ V 6 hc s0 s1 u pl pd) (hx : XS μ π 6) (hh : ∀ j, j < 6 → μ (π j) = hc j) {W : Mm} (hW : W = ms (ms (rot μ π 6) 10 3 5 (nI (π 0))) 10 0 3 (nI 5)) : GS (ms (mb W (π 0) (W 0)) 10 0 3 (nI 6)) V (rech 6) (recH hc 6 V) s0 s1 u pl pd ∧ ms (mb W (π 0) (W 0)) 10 0 3 (nI 6) 11 = μ 11 := by
  obtain ⟨h0, -, h8, h9, hu, h7, hp, h5, h51⟩ := q
  have hp0 := hx.1 0 (by decide)
  have wb : ∀ b, b ≠ 10 → W b = μ b := fun b hb => by rw [hW, ms_mb, mb_n hb, ms_mb, mb_n hb, rot, mb_n hb]
  have wk : ∀ k, k ≠ 0 → k ≠ 3 → W 10 k = μ 10 k := fun k hk hk3 => by rw [hW, ms_n (Or.inr hk), ms_n (Or.inr hk3), rot, mb_s, uc_n hk3]
  have w0 : ∀ j, j ≠ 3 → W 10 0 j = μ 10 0 j := fun j hj => by rw [hW, ms_i, if_neg hj, ms_n (Or.inr (by decide)), rot, mb_s, uc_n (by decide)]
  have w3 : ∀ j, j < 6 → W 10 3 j = nI (if j < 5 then π (j + 1) else π 0) := fun j hj => by
    rw [hW, ms_n (Or.inr (by decide)), ms_i]
    by_cases h : j = 5
    · rw [if_pos h, if_neg (by omega)]
    · rw [if_neg h, if_pos (by omega), rot, mb_s, uc_s, if_pos (by omega)]
  have e : ∀ b, b ≠ 10 → ms (mb W (π 0) (W 0)) 10 0 3 (nI 6) b = mb W (π 0) (W 0) b := fun b hb => by rw [ms_mb, mb_n hb]
  have e10 : ∀ k, k ≠ 0 → ms (mb W (π 0) (W 0)) 10 0 3 (nI 6) 10 k = W 10 k := fun k hk => by rw [ms_n (Or.inr hk), mb_n (by omega)]
  have e0 : ∀ j, j ≠ 3 → ms (mb W (π 0) (W 0)) 10 0 3 (nI 6) 10 0 j = W 10 0 j := fun j hj => by rw [ms_i, if_neg hj, mb_n (by omega)]
  have hr : rech 6 = 6 := by rw [rech, if_neg (by decide)]
  refine ⟨⟨by rw [e 0 (by decide), mb_n (by omega), wb 0 (by decide)]; exact h0, ⟨fun j => if j < 5 then π (j + 1) else π 0, ⟨fun j hj => ?_, fun i j hi hj hij => ?_, by rw [hr]; omega, by rw [hr, ms_s]⟩, fun j hj => ?_⟩, by rw [e 8 (by decide), mb_n (by omega), wb 8 (by decide)]; exact h8, by rw [e 9 (by decide), mb_n (by omega), wb 9 (by decide)]; exact h9, by rw [e10 6 (by decide), wk 6 (by decide) (by decide)]; exact hu, by rw [e0 7 (by decide), w0 7 (by decide)]; exact h7, by rw [e10 7 (by decide), wk 7 (by decide) (by decide)]; exact hp, by rw [e10 5 (by decide), wk 5 (by decide) (by decide)]; exact h5, by rw [e10 5 (by decide), wk 5 (by decide) (by decide)]; exact h51⟩, by rw [e 11 (by decide), mb_n (by omega), wb 11 (by decide)]⟩
  · rw [e10 3 (by decide), w3 j hj]
    by_cases h : j < 5
    · have := hx.1 (j + 1) (by omega)
      simp only [if_pos h]
      exact ⟨this.1, this.2.1, trivial⟩
    · simp only [if_neg h]
      exact ⟨hp0.1, hp0.2.1, trivial⟩
  · simp only at hij
    by_cases h1 : i < 5 <;> by_cases h2 : j < 5
    · rw [if_pos h1, if_pos h2] at hij
      have := hx.2.1 (i + 1) (j + 1) (by omega) (by omega) hij
      omega
    · rw [if_pos h1, if_neg h2] at hij
      have := hx.2.1 (i + 1) 0 (by omega) (by omega) hij
      omega
    · rw [if_neg h1, if_pos h2] at hij
      have := hx.2.1 0 (j + 1) (by omega) (by omega) hij
      omega
    · omega
  · rw [hr] at hj
    rw [recH, if_neg (by decide)]
    show ms (mb W (π 0) (W 0)) 10 0 3 (nI 6) (if j < 5 then π (j + 1) else π 0) = if j = 5 then V else hc (j + 1)
    by_cases h : j < 5
    · have hpj := hx.1 (j + 1) (by omega)
      rw [if_pos h, if_neg (by omega), e _ (by omega), mb_n (fun z => by have := hx.2.1 (j + 1) 0 (by omega) (by omega) z; omega), wb _ (by omega)]
      exact hh (j + 1) (by omega)
    · rw [if_neg h, if_pos (by omega), e _ (by omega), mb_s, wb 0 (by decide)]
      exact h0
