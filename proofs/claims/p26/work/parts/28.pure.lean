/-! what a court without letters tells, given that it is well -/
theorem CZ.n0 {Z : CV} {N : Nat} (h : CZ Z N) : Z 0 2 = nI N := by obtain ⟨V, rfl, h⟩ := h; exact h.1.1
theorem CZ.le {Z : CV} {N : Nat} (h : CZ Z N) : N ≤ 20 := by obtain ⟨V, -, h⟩ := h; exact h.1.2.1
theorem CZ.c10 {Z : CV} {N : Nat} (h : CZ Z N) : ∀ c, c < 12 → Z 10 c = -6 ∨ ∃ n, n < N ∧ Z 10 c = nI n := by obtain ⟨V, rfl, h⟩ := h; exact h.2.2.1.1
theorem CZ.wd {Z : CV} {N : Nat} (h : CZ Z N) : ∀ n, n < N → Z 8 n ≠ 0 → ∀ c, c < 12 → Z 10 c ≠ nI n := by obtain ⟨V, rfl, h⟩ := h; exact h.2.2.1.2
theorem CZ.z9 {Z : CV} {N : Nat} (h : CZ Z N) : ∀ n, n < 20 → N ≤ n → Z 9 n = 0 := by obtain ⟨V, rfl, h⟩ := h; exact h.2.2.2.1.2.2.1
theorem CZ.len {Z : CV} {N : Nat} (h : CZ Z N) : ∀ n, n < N → ∃ L, 2 ≤ L ∧ L ≤ 9 ∧ Z 5 n = nI L := by
  obtain ⟨V, rfl, h⟩ := h
  intro n hn
  obtain ⟨L, a, b, c, -⟩ := h.2.2.2.2 n hn
  exact ⟨L, a, b, c⟩
theorem CZ.pd {Z : CV} {N : Nat} (h : CZ Z N) : PD Z (aV Z) N (pV Z) := by
  obtain ⟨V, rfl, h⟩ := h
  rw [t_aV, t_pV]
  exact h.pv.row z1 (by rw [z0]) z7
theorem CZ.has {Z : CV} {N k : Nat} (h : CZ Z N) (hk : k < N) : hasN Z (nI k) := n_hasN h.n0 h.le hk
theorem CZ.no {Z : CV} {N : Nat} (h : CZ Z N) : ¬ hasN Z (nI N) := fun q => by
  have := q.2.1
  rw [h.n0] at this
  exact Int32.lt_irrefl this
theorem c_in {c : Nat} (hc : c < 12) : isC (nI c) := ⟨nI_pos' (by omega), nI_lt hc (by decide)⟩
theorem ixk {Z : CV} {N k : Nat} (h : CZ Z N) (hk : k ≤ N) : (nI k).toNatClampNeg = k := ix_n (by have := h.le; omega)
/-! answers by number -/
theorem R_nam0 {Z : CV} {N k : Nat} (h : CZ Z N) (hk : k < N) : Rnam Z N (nI k) (nI 0) = Z 7 k := by rw [Rnam, if_neg (Classical.not_not.mpr (h.has hk)), if_pos rfl, ixk h (Nat.le_of_lt hk)]
theorem R_nam1 {Z : CV} {N k : Nat} (h : CZ Z N) (hk : k < N) : Rnam Z N (nI k) (nI 1) = wh Z k := by rw [Rnam, if_neg (Classical.not_not.mpr (h.has hk)), if_neg (by decide), if_pos rfl, ixk h (Nat.le_of_lt hk)]
theorem R_nam2 {Z : CV} {N k : Nat} (h : CZ Z N) (hk : k < N) : Rnam Z N (nI k) (nI 2) = bm Z (nI k) 12 := by rw [Rnam, if_neg (Classical.not_not.mpr (h.has hk)), if_neg (by decide), if_neg (by decide), if_pos rfl]
theorem R_nam3 {Z : CV} {N k : Nat} (h : CZ Z N) (hk : k < N) : Rnam Z N (nI k) (nI 3) = if wh Z k = 0 then nI (plc Z k N) else -6 := by rw [Rnam, if_neg (Classical.not_not.mpr (h.has hk)), if_neg (by decide), if_neg (by decide), if_neg (by decide), if_pos rfl, ixk h (Nat.le_of_lt hk)]
theorem R_nam4 {Z : CV} {N k : Nat} (h : CZ Z N) (hk : k < N) : Rnam Z N (nI k) (nI 4) = Z 6 k := by rw [Rnam, if_neg (Classical.not_not.mpr (h.has hk)), if_neg (by decide), if_neg (by decide), if_neg (by decide), if_neg (by decide), if_pos rfl, ixk h (Nat.le_of_lt hk)]
theorem R_nam5 {Z : CV} {N k : Nat} (h : CZ Z N) (hk : k < N) : Rnam Z N (nI k) (nI 5) = Z 5 k := by rw [Rnam, if_neg (Classical.not_not.mpr (h.has hk)), if_neg (by decide), if_neg (by decide), if_neg (by decide), if_neg (by decide), if_neg (by decide), if_pos rfl, ixk h (Nat.le_of_lt hk)]
theorem R_nam6 {Z : CV} {N k : Nat} (h : CZ Z N) (hk : k < N) : Rnam Z N (nI k) (nI 6) = Z 9 k := by rw [Rnam, if_neg (Classical.not_not.mpr (h.has hk)), if_neg (by decide), if_neg (by decide), if_neg (by decide), if_neg (by decide), if_neg (by decide), if_neg (by decide), if_pos rfl, ixk h (Nat.le_of_lt hk)]
theorem R_namN {Z : CV} {N : Nat} {w : Int32} (h : CZ Z N) : Rnam Z N (nI N) w = -1 := by rw [Rnam, if_pos h.no]
theorem R_cor0 {Z : CV} {c : Nat} (hc : c < 12) : Rcor Z (nI c) (nI 0) = Z 10 c := by rw [Rcor, if_neg (Classical.not_not.mpr (c_in hc)), if_pos rfl, ix_n (by omega)]
theorem R_cor1 {Z : CV} {c : Nat} (hc : c < 12) : Rcor Z (nI c) (nI 1) = Z 11 c := by rw [Rcor, if_neg (Classical.not_not.mpr (c_in hc)), if_neg (by decide), if_pos rfl, ix_n (by omega)]
theorem R_cor2 {Z : CV} {c : Nat} (hc : c < 12) : Rcor Z (nI c) (nI 2) = Z 12 c := by rw [Rcor, if_neg (Classical.not_not.mpr (c_in hc)), if_neg (by decide), if_neg (by decide), if_pos rfl, ix_n (by omega)]
theorem R_cor3 {Z : CV} {c : Nat} (hc : c < 12) : Rcor Z (nI c) (nI 3) = if Z 10 c = -6 then -6 else Z 13 c := by rw [Rcor, if_neg (Classical.not_not.mpr (c_in hc)), if_neg (by decide), if_neg (by decide), if_neg (by decide), if_pos rfl, ix_n (by omega)]
theorem R_cor4 {Z : CV} {c : Nat} (hc : c < 12) : Rcor Z (nI c) (nI 4) = Z 14 c := by rw [Rcor, if_neg (Classical.not_not.mpr (c_in hc)), if_neg (by decide), if_neg (by decide), if_neg (by decide), if_neg (by decide), if_pos rfl, ix_n (by omega)]
theorem R_cnt0 {Z : CV} {N : Nat} : Rcnt Z N 0 0 (nI 0) = Z 1 0 := by rw [Rcnt, if_pos rfl]
theorem R_cnt1 {Z : CV} {N : Nat} : Rcnt Z N 0 0 (nI 1) = Z 1 1 := by rw [Rcnt, if_neg (by decide), if_pos rfl]
theorem R_cnt2 {Z : CV} {N : Nat} : Rcnt Z N 0 0 (nI 2) = Z 1 2 := by rw [Rcnt, if_neg (by decide), if_neg (by decide), if_pos rfl]
theorem R_cnt3 {Z : CV} {N : Nat} : Rcnt Z N 0 0 (nI 3) = Z 1 3 := by rw [Rcnt, if_neg (by decide), if_neg (by decide), if_neg (by decide), if_pos rfl]
theorem R_cnt4 {Z : CV} {N : Nat} : Rcnt Z N 0 0 (nI 4) = Z 0 1 := by rw [Rcnt, if_neg (by decide), if_neg (by decide), if_neg (by decide), if_neg (by decide), if_pos rfl]
theorem R_cnt5 {Z : CV} {N : Nat} : Rcnt Z N 0 0 (nI 5) = nI N := by rw [Rcnt, if_neg (by decide), if_neg (by decide), if_neg (by decide), if_neg (by decide), if_neg (by decide), if_pos rfl]
theorem R_cnt6 {Z : CV} {N : Nat} : Rcnt Z N 0 0 (nI 6) = nI (wtn Z N) := by rw [Rcnt, if_neg (by decide), if_neg (by decide), if_neg (by decide), if_neg (by decide), if_neg (by decide), if_neg (by decide), if_pos rfl]
theorem R_cnt7 {Z : CV} {N : Nat} : Rcnt Z N 0 0 (nI 7) = nI (12 - nb Z (-6) 12) := by rw [Rcnt, if_neg (by decide), if_neg (by decide), if_neg (by decide), if_neg (by decide), if_neg (by decide), if_neg (by decide), if_neg (by decide), if_pos rfl]
theorem R_cnt8 {Z : CV} {N : Nat} : Rcnt Z N 0 0 (nI 8) = sm (Z 11) 12 := by rw [Rcnt, if_neg (by decide), if_neg (by decide), if_neg (by decide), if_neg (by decide), if_neg (by decide), if_neg (by decide), if_neg (by decide), if_neg (by decide), if_pos rfl]
theorem R_cnt9 {Z : CV} {N : Nat} : Rcnt Z N 0 0 (nI 9) = sm (Z 12) 12 := by rw [Rcnt, if_neg (by decide), if_neg (by decide), if_neg (by decide), if_neg (by decide), if_neg (by decide), if_neg (by decide), if_neg (by decide), if_neg (by decide), if_neg (by decide), if_pos rfl]
theorem R_cnt10 {Z : CV} {N : Nat} : Rcnt Z N 0 0 (nI 10) = sm (Z 9) 20 := by rw [Rcnt, if_neg (by decide), if_neg (by decide), if_neg (by decide), if_neg (by decide), if_neg (by decide), if_neg (by decide), if_neg (by decide), if_neg (by decide), if_neg (by decide), if_neg (by decide), if_pos rfl]
theorem R_cnt11 {Z : CV} {N : Nat} : Rcnt Z N 0 0 (nI 11) = wmS Z := by rw [Rcnt, if_neg (by decide), if_neg (by decide), if_neg (by decide), if_neg (by decide), if_neg (by decide), if_neg (by decide), if_neg (by decide), if_neg (by decide), if_neg (by decide), if_neg (by decide), if_neg (by decide), if_pos rfl]
theorem R_why {Z : CV} {N a k c : Nat} (h : CZ Z N) (hk : k < N) (hc : c < 12) : Rwhy Z a (nI k) (nI c) = rsn Z a k c := by rw [Rwhy, if_neg (Classical.not_not.mpr ⟨h.has hk, c_in hc⟩), ixk h (Nat.le_of_lt hk), ix_n (by omega)]
theorem R_whyN {Z : CV} {N a : Nat} {c : Int32} (h : CZ Z N) : Rwhy Z a (nI N) c = -1 := by rw [Rwhy, if_pos (fun q => h.no q.1)]
theorem R_bes {Z : CV} {N a k : Nat} (h : CZ Z N) (hk : k < N) : Rbes Z a (nI k) = low (rsn Z a k) := by rw [Rbes, if_neg (Classical.not_not.mpr (h.has hk)), ixk h (Nat.le_of_lt hk)]
theorem R_ali {Z : CV} {N j k w : Nat} (h : CZ Z N) (hj : j < N) (hk : k < N) (hw : w < 2) : Rali Z (nI j) (nI k) (nI w) = if Z 6 j = Z 6 k then 1 else 0 := by
  rw [Rali, if_neg (Classical.not_not.mpr ⟨h.has hj, h.has hk⟩), if_pos (by rcases (show w = 0 ∨ w = 1 by omega) with rfl | rfl; exact Or.inl rfl; exact Or.inr rfl), ixk h (Nat.le_of_lt hj), ixk h (Nat.le_of_lt hk)]
/-! masks -/
def bmN (V : CV) (x : Int32) : Nat → Nat
  | 0 => 0
  | k + 1 => if V 10 k = x then 2 ^ k + bmN V x k else bmN V x k
theorem bmN_lt (V : CV) (x : Int32) : ∀ k, bmN V x k < 2 ^ k
  | 0 => Nat.one_pos
  | k + 1 => by
    have := bmN_lt V x k
    rw [bmN, Nat.pow_succ]; split <;> omega
theorem or_tw {a k : Nat} (h : a < 2 ^ k) (hk : k < 31) : nI a ||| ((nI 1) <<< (nI k &&& 31)) = nI (2 ^ k + a) := by
  apply b_ext
  intro i hi
  rw [b_or, b_tw k i (by omega)]
  have e : ∀ n, n < 2 ^ 32 → bt (nI n) i = n.testBit i := fun n hn => by
    unfold bt
    rw [BitVec.getLsbD, pk_tn hn]
  have h32 : 2 ^ k + a < 2 ^ 32 := by
    have h1 : 2 ^ k ≤ 2 ^ 30 := Nat.pow_le_pow_right (by decide) (by omega)
    omega
  rw [e a (by omega), e _ h32]
  rcases Nat.lt_trichotomy i k with q | q | q
  · rw [Nat.testBit_two_pow_add_gt q]
    simp only [show ¬ i = k by omega, decide_false, Bool.or_false]
  · subst q
    rw [Nat.testBit_two_pow_add_eq, Nat.testBit_lt_two_pow h]
    simp
  · have h1 : 2 ^ (k + 1) ≤ 2 ^ i := Nat.pow_le_pow_right (by decide) (by omega)
    rw [Nat.pow_succ] at h1
    rw [Nat.testBit_lt_two_pow (show a < 2 ^ i by omega), Nat.testBit_lt_two_pow (show 2 ^ k + a < 2 ^ i by omega)]
    simp only [show ¬ i = k by omega, decide_false, Bool.or_false]
theorem bm_n (V : CV) (x : Int32) : ∀ k, k ≤ 12 → bm V x k = nI (bmN V x k)
  | 0, _ => rfl
  | k + 1, hk => by
    rw [bm, bmN]
    split
    · rw [bm_n V x k (by omega), or_tw (bmN_lt V x k) (by omega)]
    · exact bm_n V x k (by omega)
theorem bmN_bit (V : CV) (x : Int32) {i : Nat} : ∀ k, (bmN V x k).testBit i = decide (i < k ∧ V 10 i = x)
  | 0 => by rw [bmN, Nat.zero_testBit]; simp
  | k + 1 => by
    have ih := bmN_bit V x (i := i) k
    have hl := bmN_lt V x k
    rw [bmN]
    split
    · rename_i hx
      rcases Nat.lt_trichotomy i k with q | q | q
      · rw [Nat.testBit_two_pow_add_gt q, ih]
        simp only [q, show i < k + 1 by omega]
      · subst q
        rw [Nat.testBit_two_pow_add_eq, Nat.testBit_lt_two_pow hl]
        simp [hx]
      · have h1 : 2 ^ (k + 1) ≤ 2 ^ i := Nat.pow_le_pow_right (by decide) (by omega)
        rw [Nat.pow_succ] at h1
        rw [Nat.testBit_lt_two_pow (show 2 ^ k + bmN V x k < 2 ^ i by omega)]
        simp only [show ¬ i < k + 1 by omega, false_and, decide_false]
    · rename_i hx
      rw [ih]
      rcases Nat.lt_trichotomy i k with q | q | q
      · simp only [q, show i < k + 1 by omega]
      · subst q; simp [hx]
      · simp only [show ¬ i < k by omega, show ¬ i < k + 1 by omega]
theorem s_lo : ∀ n, n < 32 → ((nI n &&& 31).toBitVec.smod 32).toNat = n := by decide +kernel
/-- a bit of a mask -/
theorem bm_sh {V : CV} {x : Int32} {c : Nat} (hc : c < 12) : (bm V x 12 >>> (nI c &&& 31)) &&& nI 1 = if V 10 c = x then nI 1 else nI 0 := by
  have hl : bmN V x 12 < 2 ^ 31 := Nat.lt_of_lt_of_le (bmN_lt V x 12) (by decide)
  rw [bm_n V x 12 (by decide), pk_shrN hl _ c (s_lo c (by omega)), pk_andN (Nat.lt_of_le_of_lt (Nat.div_le_self _ _) (by omega)) 1 (by decide)]
  have h := bmN_bit V x (i := c) 12
  rw [Nat.testBit_eq_decide_div_mod_eq] at h
  by_cases q : V 10 c = x
  · rw [if_pos q]
    simp only [hc, q, and_self, decide_true, decide_eq_true_eq] at h
    rw [show (2 : Nat) ^ 1 = 2 by rfl, h]
  · rw [if_neg q]
    simp only [q, and_false, decide_false, decide_eq_false_iff_not] at h
    rw [show (2 : Nat) ^ 1 = 2 by rfl, show bmN V x 12 / 2 ^ c % 2 = 0 by omega]
theorem nb_0 {V : CV} {x : Int32} : ∀ k, nb V x k = 0 → bm V x k = 0
  | 0, _ => rfl
  | k + 1, h => by
    rw [nb] at h
    rw [bm]
    split at h
    · omega
    · rename_i q
      rw [if_neg q]; exact nb_0 k h
theorem nb_ex {V : CV} {x : Int32} : ∀ k, 0 < nb V x k → ∃ c, c < k ∧ V 10 c = x
  | 0, h => absurd h (Nat.lt_irrefl _)
  | k + 1, h => by
    rw [nb] at h
    split at h
    · rename_i q; exact ⟨k, by omega, q⟩
    · obtain ⟨c, h1, h2⟩ := nb_ex k h
      exact ⟨c, by omega, h2⟩
theorem nb_in {V : CV} {x : Int32} {c : Nat} (h : V 10 c = x) : ∀ k, c < k → 0 < nb V x k
  | 0, q => absurd q (Nat.not_lt_zero _)
  | k + 1, q => by
    rw [nb]
    rcases Nat.lt_or_ge c k with z | z
    · have := nb_in h k z
      split <;> omega
    · rw [show k = c by omega, if_pos h]; omega
theorem bm_0 {V : CV} {x : Int32} (h : bm V x 12 = 0) : nb V x 12 = 0 := by
  rcases Nat.eq_zero_or_pos (nb V x 12) with q | q
  · exact q
  · obtain ⟨c, hc, e⟩ := nb_ex 12 q
    have h1 := bm_sh (V := V) (x := x) hc
    rw [h, if_pos e] at h1
    have h2 : ∀ c, c < 12 → ((0 : Int32) >>> (nI c &&& 31)) &&& nI 1 = 0 := by decide +kernel
    rw [h2 c hc] at h1
    exact absurd h1 (by decide)
theorem bm_np {V : CV} {x : Int32} (h : ¬ 0 < bm V x 12) : nb V x 12 = 0 := by
  refine bm_0 ?_
  have hl : bmN V x 12 < 2 ^ 31 := Nat.lt_of_lt_of_le (bmN_lt V x 12) (by decide)
  rw [bm_n V x 12 (by decide)] at h ⊢
  rcases Nat.eq_zero_or_pos (bmN V x 12) with q | q
  · rw [q]; rfl
  · exact absurd (nI_lt (a := 0) q hl) h
theorem bm_nn {V : CV} {x : Int32} : ¬ bm V x 12 < 0 := by
  rw [bm_n V x 12 (by decide)]
  exact nI_pos (Nat.lt_of_lt_of_le (bmN_lt V x 12) (by decide))
theorem nb_mono {V : CV} {x : Int32} {j : Nat} : ∀ k, j ≤ k → nb V x j ≤ nb V x k
  | 0, h => by rw [show j = 0 by omega]; exact Nat.le_refl _
  | k + 1, h => by
    rcases Nat.lt_or_ge k j with q | q
    · rw [show j = k + 1 by omega]; exact Nat.le_refl _
    · have := nb_mono (V := V) (x := x) k q
      rw [nb]; split <;> omega
/-! sums -/
theorem sm_add {f g : Nat → Int32} {j : Nat} {v : Int32} (h : ∀ i, g i = if i = j then f j + v else f i) : ∀ n, sm g n = if j < n then sm f n + v else sm f n
  | 0 => by rw [if_neg (Nat.not_lt_zero _)]; rfl
  | n + 1 => by
    rw [sm, sm, sm_add h n, h n]
    rcases Nat.lt_trichotomy j n with q | q | q
    · rw [if_pos q, if_neg (by omega), if_pos (by omega), Int32.add_assoc, Int32.add_assoc, Int32.add_comm v]
    · rw [if_neg (by omega), if_pos q.symm, if_pos (by omega), q, Int32.add_assoc]
    · rw [if_neg (by omega), if_neg (by omega), if_neg (by omega)]
theorem sm_us {V : CV} {r j : Nat} {v : Int32} (n : Nat) (h : j < n) : sm (us V r j (V r j + v) r) n = sm (V r) n + v := by
  rw [sm_add (f := V r) (j := j) (v := v) (fun i => us_i) n, if_pos h]
theorem sm_eq {f g : Nat → Int32} : ∀ n, (∀ i, i < n → f i = g i) → sm f n = sm g n
  | 0, _ => rfl
  | n + 1, h => by rw [sm, sm, sm_eq n (fun i hi => h i (by omega)), h n (by omega)]
theorem sm_0 {f : Nat → Int32} {N : Nat} : ∀ n, N ≤ n → (∀ i, i < n → N ≤ i → f i = 0) → sm f n = sm f N
  | 0, h, _ => by rw [show N = 0 by omega]
  | n + 1, h, hz => by
    rcases Nat.lt_or_ge n N with q | q
    · rw [show N = n + 1 by omega]
    · rw [sm, sm_0 n q (fun i h1 h2 => hz i (by omega) h2), hz n (by omega) q, Int32.add_zero]
