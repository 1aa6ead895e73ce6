/-! pads that hold whole names -/
theorem lw_n {f : Nat → Int32} : ∀ n, (∀ k, k < n → f k ≠ 0) → lw f n = n
  | 0, _ => rfl
  | n + 1, h => lw_go (lw_n n (fun k hk => h k (by omega))) (h n (by omega))
theorem ltn_cg {f g : Nat → Int32} : ∀ n, (∀ t, t < n → f t = g t) → ltn f n = ltn g n
  | 0, _ => rfl
  | n + 1, h => by rw [ltn, ltn, ltn_cg n (fun t ht => h t (by omega)), h n (by omega)]
theorem dgn_cg {f g : Nat → Int32} : ∀ n, (∀ t, t < n → f t = g t) → dgn f n = dgn g n
  | 0, _ => rfl
  | n + 1, h => by rw [dgn, dgn, dgn_cg n (fun t ht => h t (by omega)), h n (by omega)]
theorem rst_cg {f g : Nat → Int32} : ∀ n, (∀ t, t < n → f t = g t) → rst f n = rst g n
  | 0, _ => rfl
  | n + 1, h => by rw [rst, rst, rst_cg n (fun t ht => h t (by omega)), h n (by omega)]
theorem acc_cg {f g : Nat → Int32} {n : Nat} (h : ∀ t, t ≤ n → f t = g t) : acc f n ↔ acc g n := by
  rw [acc, acc, ltn_cg n (fun t ht => h t (by omega)), h n (Nat.le_refl n)]
theorem rz_cg {f g : Nat → Int32} {Z : CV} {N : Nat} : ∀ n, (∀ t, t < n → f t = g t) → rz Z f N n = rz Z g N n
  | 0, _ => rfl
  | n + 1, h => by
    have h0 : ∀ t, t < n → f t = g t := fun t ht => h t (by omega)
    have hr : rst g n ≤ n := by
      have : ∀ k, rst g k ≤ k := fun k => by
        induction k with
        | zero => exact Nat.le_refl _
        | succ k ih => rw [rst]; split <;> omega
      exact this n
    have hs : sdS (sgF f (rst g n)) (n - rst g n) = sdS (sgF g (rst g n)) (n - rst g n) := (sdS_cong _ (fun i hi => by rw [sgF, sgF, h0 _ (by omega)])).2
    rw [rz, rz, rz_cg n h0, dgn_cg n h0, rst_cg n h0, h n (by omega), hs]
/-- the first L characters are k whole names -/
def NM (f : Nat → Int32) (L k : Nat) : Prop := (∀ t, t < L → acc f t) ∧ ltn f L = 0 ∧ rst f L = L ∧ dgn f L = k ∧ L ≤ 10 * k ∧ (0 < k → 0 < L)
theorem NM.z (f : Nat → Int32) : NM f 0 0 := ⟨fun t h => absurd h (Nat.not_lt_zero _), rfl, rfl, rfl, Nat.le_refl _, id⟩
theorem NM.cg {f g : Nat → Int32} {L k : Nat} (h : NM f L k) (e : ∀ t, t < L → f t = g t) : NM g L k := by
  obtain ⟨h1, h2, h3, h4, h5, h6⟩ := h
  exact ⟨fun t ht => (acc_cg (fun u hu => e u (by omega))).mp (h1 t ht), by rw [← ltn_cg L e]; exact h2, by rw [← rst_cg L e]; exact h3, by rw [← dgn_cg L e]; exact h4, h5, h6⟩
theorem NM.ft {f : Nat → Int32} {L k : Nat} (h : NM f L k) (hk : 0 < k) : ftS f L = -6 := by
  have hl : lw (acf f) L = L := lw_n L (fun t ht => acf_1 (h.1 t ht))
  have h0 := h.2.2.2.2.2 hk
  rw [ftS, hl, if_neg (Nat.lt_irrefl _), h.2.1, if_neg (by omega)]
theorem NM.lets {f : Nat → Int32} {L k : Nat} (h : NM f L k) : ∀ m, m ≤ 9 → (∀ t, t < m → isL (f (L + t))) → (∀ t, t < L + m → acc f t) ∧ ltn f (L + m) = m ∧ rst f (L + m) = L ∧ dgn f (L + m) = k ∧ ∀ Z N, rz Z f N (L + m) = rz Z f N L
  | 0, _, _ => ⟨h.1, h.2.1, h.2.2.1, h.2.2.2.1, fun _ _ => rfl⟩
  | m + 1, hm, hl => by
    obtain ⟨i1, i2, i3, i4, i5⟩ := NM.lets h m (by omega) (fun t ht => hl t (by omega))
    have hL := hl m (by omega)
    have hD := isLD hL
    refine ⟨fun t ht => ?_, ?_, ?_, ?_, fun Z N => ?_⟩
    · rcases Nat.lt_or_ge t (L + m) with q | q
      · exact i1 t q
      · rw [show t = L + m by omega]
        exact Or.inl ⟨hL, by rw [i2]; omega⟩
    · show ltn f (L + m + 1) = m + 1
      rw [ltn, if_pos hL, i2]
    · show rst f (L + m + 1) = L
      rw [rst, if_neg hD, i3]
    · show dgn f (L + m + 1) = k
      rw [dgn, if_neg hD, i4]
    · show rz Z f N (L + m + 1) = _
      rw [rz, if_neg hD, i5]
theorem NM.dig {f : Nat → Int32} {L k m : Nat} (h : NM f L k) (h2 : 2 ≤ m) (h9 : m ≤ 9) (hl : ∀ t, t < m → isL (f (L + t))) (hd : isD (f (L + m))) : NM f (L + m + 1) (k + 1) ∧ ∀ Z N, rz Z f N (L + m + 1) = zN (rz Z f N L) (N + k) (sdS (sgF f L) m) (nI m) (f (L + m) - nI 48) := by
  obtain ⟨i1, i2, i3, i4, i5⟩ := h.lets m h9 hl
  have hL : ¬ isL (f (L + m)) := fun q => isLD q hd
  refine ⟨⟨fun t ht => ?_, ?_, ?_, ?_, ?_, fun _ => by omega⟩, fun Z N => ?_⟩
  · rcases Nat.lt_or_ge t (L + m) with q | q
    · exact i1 t q
    · rw [show t = L + m by omega]
      exact Or.inr ⟨hd, by rw [i2]; exact h2⟩
  · rw [ltn, if_neg hL]
  · rw [rst, if_pos hd]
  · rw [dgn, if_pos hd, i4]
  · have := h.2.2.2.2.1; omega
  · rw [rz, if_pos hd, i5, i4, i3, show L + m - L = m by omega]
/-- a name of one pad, read by itself, is that of another, where signs and digits agree -/
theorem snd_cg {f g : Nat → Int32} {a b m : Nat} (h : ∀ t, t < m → sgn (f (a + t)) = sgn (g (b + t))) : sdS (sgF f a) m = sdS (sgF g b) m := (sdS_cong m (fun i hi => by rw [sgF, sgF]; exact h i hi)).2
theorem zN_7 {Z : CV} {N : Nat} {snd L h : Int32} : zN Z N snd L h 7 N = h := by rw [zN, us_n (by decide), us_n (by decide), us_n (by decide), us_n (by decide), us_s]
theorem zN_5 {Z : CV} {N : Nat} {snd L h : Int32} : zN Z N snd L h 5 N = L := by rw [zN, us_n (by decide), us_n (by decide), us_n (by decide), us_n (by decide), us_n (by decide), us_s]
theorem rz_wb {Z : CV} {f : Nat → Int32} {N B D : Nat} (h : WB Z B D) (hz : ∀ n, n < 20 → N ≤ n → Z 9 n = 0) : ∀ k, N + dgn f k ≤ 20 → WB (rz Z f N k) B D ∧ rz Z f N k 9 = Z 9
  | 0, _ => ⟨h, rfl⟩
  | k + 1, hk => by
    rw [dgn] at hk
    rw [rz]
    split at hk
    · rename_i hD
      have ih := rz_wb (f := f) h hz k (by omega)
      rw [if_pos hD]
      have z : rz Z f N k 9 (N + dgn f k) = 0 := by rw [ih.2]; exact hz _ (by omega) (by omega)
      exact ⟨ih.1.xzN z, by rw [zN_9 z]; exact ih.2⟩
    · rename_i hD
      rw [if_neg hD]
      exact rz_wb (f := f) h hz k hk
/-- the courts behind k names of a pad -/
def RK (K : KS) (Q : PS) (k : Nat) : KS := ((rz K.1.1 Q.2 K.1.2 Q.1, K.1.2 + k), K.2)
theorem RK_0 (K : KS) (f : Nat → Int32) : K = RK K ((0, f) : PS) 0 := rfl
/-- a name under way in both pads: j letters -/
def LT (Q R Rp : PS) (j : Nat) : Prop := R.1 = Q.1 + j ∧ (∀ t, t < Q.1 → R.2 t = Q.2 t) ∧ (∀ t, t < j → isL (R.2 (Q.1 + t))) ∧ Rp.1 = j ∧ (∀ t, t < j → isL (Rp.2 t)) ∧ ∀ t, t < j → sgn (R.2 (Q.1 + t)) = sgn (Rp.2 t)
theorem LT.z {Q Rp : PS} (h : Rp.1 = 0) : LT Q Q Rp 0 := ⟨rfl, fun _ _ => rfl, fun t ht => absurd ht (Nat.not_lt_zero _), h, fun t ht => absurd ht (Nat.not_lt_zero _), fun t ht => absurd ht (Nat.not_lt_zero _)⟩
theorem gPut_at {P : PS} {q t : Nat} : (gPut P q).2 t = if t = P.1 then nI q else P.2 t := rfl
theorem isL_n {q : Nat} (h1 : 97 ≤ q) (h2 : q ≤ 122) : isL (nI q) := ⟨nI_le h1 (by omega), nI_le h2 (by decide)⟩
theorem LT.put {Q R Rp : PS} {j q q' : Nat} (h : LT Q R Rp j) (hq : isL (nI q)) (hq' : isL (nI q')) (hs : sgn (nI q) = sgn (nI q')) : LT Q (gPut R q) (gPut Rp q') (j + 1) := by
  obtain ⟨h1, h2, h3, h4, h5, h6⟩ := h
  refine ⟨?_, fun t ht => ?_, fun t ht => ?_, ?_, fun t ht => ?_, fun t ht => ?_⟩
  · show R.1 + 1 = _; omega
  · rw [gPut_at, if_neg (by omega)]; exact h2 t ht
  · rw [gPut_at]
    by_cases e : Q.1 + t = R.1
    · rw [if_pos e]; exact hq
    · rw [if_neg e]; exact h3 t (by omega)
  · show Rp.1 + 1 = _; omega
  · rw [gPut_at]
    by_cases e : t = Rp.1
    · rw [if_pos e]; exact hq'
    · rw [if_neg e]; exact h5 t (by omega)
  · rw [gPut_at, gPut_at]
    by_cases e : t = j
    · rw [if_pos (by omega), if_pos (by omega)]; exact hs
    · rw [if_neg (by omega), if_neg (by omega)]; exact h6 t (by omega)
/-- the digit behind it: one name more in both -/
theorem LT.dig {Q R Rp : PS} {k m d : Nat} (h : LT Q R Rp m) (hn : NM Q.2 Q.1 k) (h2 : 2 ≤ m) (h9 : m ≤ 9) (hd : d ≤ 9) : NM (gPut R (48 + d)).2 (gPut R (48 + d)).1 (k + 1) ∧ NM (gPut Rp (48 + d)).2 (gPut Rp (48 + d)).1 1 ∧ ∀ K : KS, gRdK (RK K Q k) (gPut Rp (48 + d)) = RK K (gPut R (48 + d)) (k + 1) ∧ (RK K (gPut R (48 + d)) (k + 1)).1.1 7 (K.1.2 + k) = nI d ∧ (RK K (gPut R (48 + d)) (k + 1)).1.1 5 (K.1.2 + k) = nI m := by
  obtain ⟨h1, hp, h3, h4, h5, h6⟩ := h
  have hD : isD (nI (48 + d)) := ⟨nI_le (by omega) (by omega), nI_le (by omega) (by decide)⟩
  have eR : (gPut R (48 + d)).1 = Q.1 + m + 1 := by show R.1 + 1 = _; omega
  have eP : (gPut Rp (48 + d)).1 = 0 + m + 1 := by show Rp.1 + 1 = _; omega
  have aR : (gPut R (48 + d)).2 (Q.1 + m) = nI (48 + d) := by rw [gPut_at, if_pos h1.symm]
  have aP : (gPut Rp (48 + d)).2 (0 + m) = nI (48 + d) := by rw [gPut_at, if_pos (by omega)]
  have lR : ∀ t, t < m → (gPut R (48 + d)).2 (Q.1 + t) = R.2 (Q.1 + t) := fun t ht => by rw [gPut_at, if_neg (by omega)]
  have lP : ∀ t, t < m → (gPut Rp (48 + d)).2 (0 + t) = Rp.2 t := fun t ht => by rw [gPut_at, if_neg (by omega), Nat.zero_add]
  have oR : ∀ t, t < Q.1 → Q.2 t = (gPut R (48 + d)).2 t := fun t ht => by rw [gPut_at, if_neg (by omega)]; exact (hp t ht).symm
  have nR := (hn.cg oR).dig h2 h9 (fun t ht => by rw [lR t ht]; exact h3 t ht) (by rw [aR]; exact hD)
  have nP := (NM.z (gPut Rp (48 + d)).2).dig h2 h9 (fun t ht => by rw [lP t ht]; exact h5 t ht) (by rw [aP]; exact hD)
  have ed : nI (48 + d) - nI 48 = nI d := by rw [pk_sub (by omega), show 48 + d - 48 = d by omega]
  have eS : sdS (sgF (gPut R (48 + d)).2 Q.1) m = sdS (sgF (gPut Rp (48 + d)).2 0) m := snd_cg (fun t ht => by rw [lR t ht, lP t ht]; exact h6 t ht)
  have eZ : ∀ (Z : CV) (N : Nat), rz Z (gPut R (48 + d)).2 N (Q.1 + m + 1) = zN (rz Z Q.2 N Q.1) (N + k) (sdS (sgF (gPut Rp (48 + d)).2 0) m) (nI m) (nI d) := fun Z N => by rw [nR.2 Z N, eS, aR, ed, rz_cg Q.1 (fun t ht => (oR t ht).symm)]
  refine ⟨by rw [eR]; exact nR.1, by rw [eP]; exact nP.1, fun K => ⟨?_, ?_, ?_⟩⟩
  · have e1 : dgn (gPut Rp (48 + d)).2 (gPut Rp (48 + d)).1 = 1 := by rw [eP]; exact nP.1.2.2.2.1
    show ((rz (rz K.1.1 Q.2 K.1.2 Q.1) (gPut Rp (48 + d)).2 (K.1.2 + k) (gPut Rp (48 + d)).1, K.1.2 + k + dgn (gPut Rp (48 + d)).2 (gPut Rp (48 + d)).1), K.2) = ((rz K.1.1 (gPut R (48 + d)).2 K.1.2 (gPut R (48 + d)).1, K.1.2 + (k + 1)), K.2)
    rw [e1, eP, eR, eZ, nP.2, aP, ed]
    rfl
  · show rz K.1.1 (gPut R (48 + d)).2 K.1.2 (gPut R (48 + d)).1 7 (K.1.2 + k) = nI d
    rw [eR, eZ, zN_7]
  · show rz K.1.1 (gPut R (48 + d)).2 K.1.2 (gPut R (48 + d)).1 5 (K.1.2 + k) = nI m
    rw [eR, eZ, zN_5]
theorem WK.rd {K : KS} {Q : PS} {k t : Nat} (h : WK K t) (hc : CZ K.1.1 K.1.2) (hn : NM Q.2 Q.1 k) (h20 : K.1.2 + k ≤ 20) : WK (RK K Q k) (t + 1) := by
  have h' := h.mono (Nat.le_succ t)
  exact ⟨(rz_wb h'.1 hc.z9 Q.1 (by rw [hn.2.2.2.1]; exact h20)).1, h'.2⟩
