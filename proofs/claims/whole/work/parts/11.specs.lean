/-! WHAT THE METHODS COMPUTE, of a court's memory V (V k j: place j of the array in field k - 1; V 0 f: the int in field f) -/
abbrev CV : Type := Nat → Nat → Int32
/-- a boolean answer -/
def bP (r : Int32) (P : Prop) : Prop := (r = 1 ∧ P) ∨ (r = 0 ∧ ¬ P)
theorem bP.y {P : Prop} (h : P) : bP 1 P := Or.inl ⟨rfl, h⟩
theorem bP.n {P : Prop} (h : ¬ P) : bP 0 P := Or.inr ⟨rfl, h⟩
theorem bP.yn {P : Prop} (h : P) : bP (nI 1) P := Or.inl ⟨rfl, h⟩
theorem bP.nn {P : Prop} (h : ¬ P) : bP (nI 0) P := Or.inr ⟨rfl, h⟩
theorem bP.t {r : Int32} {P : Prop} (h : bP r P) (hr : ¬ r = 0) : P := h.elim (fun q => q.2) (fun q => absurd q.1 hr)
theorem bP.f {r : Int32} {P : Prop} (h : bP r P) (hr : r = 0) : ¬ P := h.elim (fun q => by rw [q.1] at hr; exact absurd hr (by decide)) (fun q => q.2)
theorem bP.bo {r : Int32} {P : Prop} (h : bP r P) : isBo r := h.elim (fun q => Or.inr q.1) (fun q => Or.inl q.1)
theorem bP.iff {r : Int32} {P R : Prop} (h : bP r P) (e : P ↔ R) : bP r R := h.elim (fun q => Or.inl ⟨q.1, e.mp q.2⟩) (fun q => Or.inr ⟨q.1, fun z => q.2 (e.mpr z)⟩)
theorem bP.nt {r : Int32} {P : Prop} (h : bP r P) (hr : r ≠ 0) : P := h.t hr
theorem bP.nf {r : Int32} {P : Prop} (h : bP r P) (hr : ¬ r ≠ 0) : ¬ P := h.f (Classical.not_not.mp hr)
/-- how many of the first k corners bear x -/
def nb (V : CV) (x : Int32) : Nat → Nat
  | 0 => 0
  | k + 1 => if V 10 k = x then nb V x k + 1 else nb V x k
theorem nb_le (V : CV) (x : Int32) : ∀ k, nb V x k ≤ k
  | 0 => Nat.le_refl _
  | k + 1 => by
    have := nb_le V x k
    rw [nb]
    split <;> omega
abbrev hasN (V : CV) (x : Int32) : Prop := 0 ≤ x ∧ x < V 0 2 ∧ x < 20
/-- 0 waiting, 1 borne, 2 withdrawn -/
def wh (V : CV) (n : Nat) : Int32 := if V 8 n = 0 then (if 0 < nb V (nI n) 12 then 1 else 0) else 2
/-- a sum of the first k numbers of a row -/
def sm (f : Nat → Int32) : Nat → Int32
  | 0 => 0
  | k + 1 => sm f k + f k
/-- the sign of a letter's code -/
def sgn (x : Int32) : Int32 := if 0 ≤ x - 97 ∧ x - 97 < 26 then sg (x - 97).toNatClampNeg else 0
/-- the sign at a letter of a name -/
def sga (V : CV) (n i : Nat) : Int32 := sgn (V 4 (9 * n + i))
