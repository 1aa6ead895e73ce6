/-! WHAT THE METHODS COMPUTE, of a court's memory V (V k j: place j of the array in field k - 1; V 0 f: the int in field f) -/
abbrev CV : Type := Nat → Nat → Int32
/-- a boolean answer -/
def bP (r : Int32) (P : Prop) : Prop := (r = 1 ∧ P) ∨ (r = 0 ∧ ¬ P)
theorem bP.y {P : Prop} (h : P) : bP 1 P := Or.inl ⟨rfl, h⟩
theorem bP.n {P : Prop} (h : ¬ P) : bP 0 P := Or.inr ⟨rfl, h⟩
theorem bP.yn {P : Prop} (h : P) : bP (nI 1) P := Or.inl ⟨rfl, h⟩
theorem bP.nn {P : Prop} (h : ¬ P) : bP (nI 0) P := Or.inr ⟨rfl, h⟩
theorem bP.t {r : Int32} {P : Prop} (h : bP r P) (hr : ¬ r = 0) : P := h.elim (fun q => q.2) (fun q => absurd q.1 hr)
theorem bP.f {r : Int32} {P : Prop} (h : bP r P) (hr : r = 0) : ¬ P := h.elim (fun q => by rw [q.1] at hr; exact absurd hr (by decide)) (fun q => q.2)
theorem bP.bo {r : Int32} {P : Prop} (h : bP r P) : isBo r := h.elim (fun q => Or.inr q.1) (fun q => Or.inl q.1)
theorem bP.iff {r : Int32} {P R : Prop} (h : bP r P) (e : P ↔ R) : bP r R := h.elim (fun q => Or.inl ⟨q.1, e.mp q.2⟩) (fun q => Or.inr ⟨q.1, fun z => q.2 (e.mpr z)⟩)
theorem bP.nt {r : Int32} {P : Prop} (h : bP r P) (hr : r ≠ 0) : P := h.t hr
theorem bP.nf {r : Int32} {P : Prop} (h : bP r P) (hr : ¬ r ≠ 0) : ¬ P := h.f (Classical.not_not.mp hr)
/-! numbers and bits -/
theorem ixx {x : Int32} {n : Nat} (h0 : ¬ x < 0) (h1 : ¬ nI n ≤ x) (hn : n < 2 ^ 31) : x = nI x.toNatClampNeg ∧ x.toNatClampNeg < n := by
  rcases pk_ix x hn with h | h | ⟨j, hj, rfl⟩
  · exact absurd h h0
  · exact absurd h h1
  · rw [nI_clamp (Nat.lt_trans hj hn)]
    exact ⟨rfl, hj⟩
def bt (x : Int32) (i : Nat) : Bool := x.toBitVec.getLsbD i
theorem b_or (x y : Int32) (i : Nat) : bt (x ||| y) i = (bt x i || bt y i) := by unfold bt; rw [Int32.toBitVec_or, BitVec.getLsbD_or]
theorem b_and (x y : Int32) (i : Nat) : bt (x &&& y) i = (bt x i && bt y i) := by unfold bt; rw [Int32.toBitVec_and, BitVec.getLsbD_and]
theorem b_ext {x y : Int32} (h : ∀ i, i < 32 → bt x i = bt y i) : x = y := Int32.toBitVec_inj.mp (BitVec.eq_of_getLsbD_eq (fun i hi => h i hi))
theorem b_0 (i : Nat) : bt 0 i = false := BitVec.getLsbD_zero
theorem b_n0 (i : Nat) : bt (nI 0) i = false := BitVec.getLsbD_zero
theorem sh_tw : ∀ l, l < 32 → ((nI 1) <<< (nI l &&& 31)).toBitVec = BitVec.twoPow 32 l := by decide +kernel
theorem b_tw (c d : Nat) (hc : c < 32) : bt ((nI 1) <<< (nI c &&& 31)) d = decide (d = c) := by
  unfold bt
  rw [sh_tw c hc, BitVec.getLsbD_twoPow]
  by_cases h : d = c
  · subst h; simp [hc]
  · have : ¬ c = d := fun q => h q.symm
    simp [h, this]
theorem b_in (x : Int32) (c : Nat) (hc : c < 32) : (x &&& ((nI 1) <<< (nI c &&& 31))) = 0 ↔ bt x c = false := by
  constructor
  · intro h
    have h1 := b_and x ((nI 1) <<< (nI c &&& 31)) c
    rw [h, b_0, b_tw c c hc] at h1
    simpa using h1.symm
  · intro h
    apply b_ext
    intro i hi
    rw [b_and, b_tw c i hc, b_0]
    by_cases hic : i = c
    · subst hic; simp [h]
    · simp [hic]
/-- how many of the first k corners bear x -/
def nb (V : CV) (x : Int32) : Nat → Nat
  | 0 => 0
  | k + 1 => if V 10 k = x then nb V x k + 1 else nb V x k
theorem nb_le (V : CV) (x : Int32) : ∀ k, nb V x k ≤ k
  | 0 => Nat.le_refl _
  | k + 1 => by
    have := nb_le V x k
    rw [nb]
    split <;> omega
/-- the first k corners that bear x, as a mask -/
def bm (V : CV) (x : Int32) : Nat → Int32
  | 0 => 0
  | k + 1 => if V 10 k = x then bm V x k ||| ((nI 1) <<< (nI k &&& 31)) else bm V x k
abbrev hasN (V : CV) (x : Int32) : Prop := 0 ≤ x ∧ x < V 0 2 ∧ x < 20
theorem hasN.ix {V : CV} {x : Int32} (h : hasN V x) : x = nI x.toNatClampNeg ∧ x.toNatClampNeg < 20 := ixx (by simpa using h.1) (by have := h.2.2; show ¬ (20 : Int32) ≤ x; simpa using this) (by decide)
/-- 0 waiting, 1 borne, 2 withdrawn -/
def wh (V : CV) (n : Nat) : Int32 := if V 8 n = 0 then (if 0 < nb V (nI n) 12 then 1 else 0) else 2
/-- i stands before n in the queue, by honour and number -/
abbrev befS (V : CV) (i n : Nat) : Prop := V 7 n < V 7 i ∨ (V 7 i = V 7 n ∧ i < n)
def plc (V : CV) (n : Nat) : Nat → Nat
  | 0 => 0
  | k + 1 => if befS V k n ∧ wh V k = 0 then plc V n k + 1 else plc V n k
def wtn (V : CV) : Nat → Nat
  | 0 => 0
  | k + 1 => if wh V k = 0 then wtn V k + 1 else wtn V k
abbrev punS (V : CV) (x y : Int32) : Prop := x ≠ y ∧ hasN V x ∧ hasN V y ∧ V 6 x.toNatClampNeg = V 6 y.toNatClampNeg
def pq (V : CV) (i : Nat) : Nat → Nat
  | 0 => 0
  | d + 1 => if i < d ∧ punS V (V 10 i) (V 10 d) then pq V i d + 1 else pq V i d
def pp (V : CV) : Nat → Nat
  | 0 => 0
  | i + 1 => pp V i + pq V i 12
theorem pq_0 (V : CV) (i : Nat) : ∀ d, d ≤ i + 1 → pq V i d = 0
  | 0, _ => rfl
  | d + 1, h => by rw [pq, if_neg (fun q => absurd q.1 (by omega)), pq_0 V i d (by omega)]
/-- a corner at most a away, another one -/
abbrev nearC (a c d : Nat) : Prop := c ≠ d ∧ c ≤ d + a ∧ d ≤ c + a
/-- some of the first k corners is near c and bears a pun on n -/
def nearB (V : CV) (a n c : Nat) : Nat → Bool
  | 0 => false
  | k + 1 => nearB V a n c k || decide (punS V (nI n) (V 10 k) ∧ nearC a c k)
/-- why n is refused for c, with k bearers, q: a pun near -/
def rsnq (V : CV) (n c k : Nat) (q : Bool) : Int32 :=
  if V 8 n ≠ 0 then 1 else if V 10 c = nI n then 2 else if ¬ nI k < V 1 1 then 3 else if q = true then 4 else if hasN V (V 10 c) ∧ V 7 n < V 7 (V 10 c).toNatClampNeg then 5 else if hasN V (V 10 c) ∧ V 0 1 - V 13 c < V 1 3 then 6 else 0
def rsn (V : CV) (a n c : Nat) : Int32 := rsnq V n c (nb V (nI n) 12) (nearB V a n c 12)
/-- the first of k places where f is 0, else k -/
def lw (f : Nat → Int32) : Nat → Nat
  | 0 => 0
  | k + 1 => if lw f k < k then lw f k else if f k = 0 then k else k + 1
theorem lw_hit {f : Nat → Int32} {i : Nat} (h : lw f i = i) (h0 : f i = 0) : ∀ n, i < n → lw f n = i
  | 0, q => absurd q (Nat.not_lt_zero _)
  | n + 1, q => by
    rcases Nat.lt_or_ge i n with r | r
    · have := lw_hit h h0 n r
      rw [lw, if_pos (by omega), this]
    · have e : n = i := by omega
      subst e
      rw [lw, if_neg (by omega), if_pos h0]
theorem lw_go {f : Nat → Int32} {i : Nat} (h : lw f i = i) (h0 : f i ≠ 0) : lw f (i + 1) = i + 1 := by rw [lw, if_neg (by omega), if_neg h0]
def low (f : Nat → Int32) : Int32 := if lw f 12 < 12 then nI (lw f 12) else -6
/-- a sum of the first k numbers of a row -/
def sm (f : Nat → Int32) : Nat → Int32
  | 0 => 0
  | k + 1 => sm f k + f k
/-- the sign of a letter's code -/
def sgn (x : Int32) : Int32 := if ¬ (x - nI 97 < 0) ∧ ¬ (nI 26 ≤ x - nI 97) then sg (x - nI 97).toNatClampNeg else 0
/-- the sign at a letter of a name -/
def sga (V : CV) (n i : Nat) : Int32 := sgn (V 4 (n * 9 + i))
/-- the last sign, and the sound, of the first k letters, by their signs -/
def sdP (g : Nat → Int32) : Nat → Int32
  | 0 => 0
  | k + 1 => if g k = 0 then sdP g k else g k
abbrev hrd (g : Nat → Int32) (k : Nat) : Prop := g k ≠ 0 ∧ g k ≠ sdP g k ∧ (g k ≠ nI 7 ∨ sdP g k = 0)
def sdS (g : Nat → Int32) : Nat → Int32
  | 0 => 0
  | k + 1 => if hrd g k then sdS g k * nI 10 + g k else sdS g k
theorem sdP_pred {g : Nat → Int32} {j : Nat} (h : 1 ≤ j) : sdP g j = if g (j - 1) = 0 then sdP g (j - 1) else g (j - 1) := by
  obtain ⟨i, rfl⟩ : ∃ i, j = i + 1 := ⟨j - 1, by omega⟩
  rfl
/-- the heard signs of the first k letters -/
def hls (g : Nat → Int32) : Nat → List Int32
  | 0 => []
  | k + 1 => if hrd g k then hls g k ++ [g k] else hls g k
theorem hls_len (g : Nat → Int32) : ∀ k, (hls g k).length ≤ k
  | 0 => Nat.le_refl _
  | k + 1 => by
    have := hls_len g k
    rw [hls]
    split
    · rw [List.length_append]; simp; omega
    · omega
theorem hls_skip {g : Nat → Int32} {i : Nat} : ∀ k, i ≤ k → (∀ t, i ≤ t → t < k → ¬ hrd g t) → hls g k = hls g i
  | 0, h, _ => by rw [show i = 0 by omega]
  | k + 1, h, hn => by
    rcases Nat.lt_or_ge k i with q | q
    · rw [show i = k + 1 by omega]
    · rw [hls, if_neg (hn k q (by omega)), hls_skip k q (fun t h1 h2 => hn t h1 (by omega))]
theorem hls_pre {g : Nat → Int32} {i : Nat} : ∀ k, i ≤ k → ∃ l, hls g k = hls g i ++ l
  | 0, h => ⟨[], by rw [show i = 0 by omega, List.append_nil]⟩
  | k + 1, h => by
    rcases Nat.lt_or_ge k i with q | q
    · exact ⟨[], by rw [show i = k + 1 by omega, List.append_nil]⟩
    · obtain ⟨l, hl⟩ := hls_pre k q
      rw [hls]
      split
      · exact ⟨l ++ [g k], by rw [hl, List.append_assoc]⟩
      · exact ⟨l, hl⟩
theorem hls_at {g : Nat → Int32} {i k : Nat} (h : i < k) (hh : hrd g i) : ∃ l, hls g k = hls g i ++ (g i :: l) := by
  obtain ⟨l, hl⟩ := hls_pre (g := g) (i := i + 1) k h
  exact ⟨l, by rw [hl, hls, if_pos hh, List.append_assoc]; rfl⟩
theorem mx_sub {a c : Nat} (ha : a < 2 ^ 30) (hc : c < 2 ^ 30) : (if nI 0 < nI c - nI a then nI c - nI a else nI 0) = nI (c - a) := by
  rcases Nat.lt_or_ge a c with h | h
  · rw [pk_sub (Nat.le_of_lt h), if_pos (nI_lt (by omega) (by omega))]
  · rw [if_neg, show c - a = 0 by omega]
    rcases Nat.lt_or_ge c a with q | q
    · intro z
      have := pk_sneg ha q
      exact absurd z (Int32.not_lt.mpr (Int32.le_of_lt this))
    · rw [show a = c by omega, pk_sub (Nat.le_refl _), Nat.sub_self]
      exact nI_nlt (Nat.le_refl _) (by omega)
theorem mn_add {x : Nat} (hx : x < 2 ^ 30) : (if nI x < nI 11 then nI x else nI 11) = nI (min 11 x) := by
  rcases Nat.lt_or_ge x 11 with h | h
  · rw [if_pos (nI_lt h (by omega)), Nat.min_eq_right (by omega)]
  · rw [if_neg (nI_nlt h (by omega)), Nat.min_eq_left h]
theorem sub1_t {j : Nat} (hj : j < 2 ^ 30) (h : nI j - nI 1 < 0) : j = 0 := by
  rcases Nat.eq_zero_or_pos j with q | q
  · exact q
  · rw [pk_sub (show 1 ≤ j by omega)] at h
    exact absurd h (nI_pos (by omega))
theorem sub1_f {j : Nat} (h : ¬ nI j - nI 1 < 0) : 1 ≤ j := by
  rcases Nat.eq_zero_or_pos j with q | q
  · subst q
    exact absurd (pk_sneg (a := 0) (b := 1) (by decide) (by decide)) h
  · exact q
theorem hls_ne {g g' : Nat → Int32} {i j L1 L2 : Nat} (hll : hls g i = hls g' j) (hx : (i < L1 ∧ j = L2) ∨ (j < L2 ∧ i = L1)) (hhi : i < L1 → hrd g i) (hhj : j < L2 → hrd g' j) : ¬ hls g L1 = hls g' L2 := by
  intro q
  rcases hx with ⟨h, e⟩ | ⟨h, e⟩
  · obtain ⟨u, hu⟩ := hls_at (k := L1) h (hhi h)
    rw [hu, ← e, hll] at q
    exact absurd (congrArg List.length q) (by simp)
  · obtain ⟨u, hu⟩ := hls_at (k := L2) h (hhj h)
    rw [hu, ← e, hll] at q
    exact absurd (congrArg List.length q) (by simp)
theorem iinc_m1 (x : Int32) : x + Int32.ofInt (-1) = x - nI 1 := by
  rw [Int32.sub_eq_add_neg, show Int32.ofInt (-1) = -nI 1 by decide]
