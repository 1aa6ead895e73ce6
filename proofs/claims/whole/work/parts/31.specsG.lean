/-! a number's characters -/
theorem lgc_eq {x y : Int64} : lg_cmp x y = 0 ↔ x = y := by
  unfold lg_cmp
  constructor
  · intro h
    split at h
    · exact absurd h (by decide)
    · split at h
      · assumption
      · exact absurd h (by decide)
  · rintro rfl
    rw [if_neg (fun q => Int64.lt_irrefl q), if_pos rfl]
theorem l64_tn {n : Nat} (h : n < 2 ^ 64) : (lN n).toBitVec.toNat = n := by
  show (BitVec.ofNat 64 n).toNat = n
  rw [BitVec.toNat_ofNat, Nat.mod_eq_of_lt h]
theorem l64_of (x : Int64) : ∃ w, w < 2 ^ 64 ∧ x = lN w := by
  refine ⟨x.toBitVec.toNat, x.toBitVec.isLt, ?_⟩
  apply Int64.toBitVec_inj.mp
  apply BitVec.eq_of_toNat_eq
  rw [l64_tn x.toBitVec.isLt]
theorem l64_sa : ∀ k, k < 64 → ((nI k).toInt64.toUInt64 &&& Int64.toUInt64 63) = UInt64.ofNat k := by decide +kernel
theorem l64_sb : ∀ k, k < 64 → (UInt64.ofNat k).toNat % 64 = k := by decide +kernel
theorem l64_shr {n k : Nat} (hn : n < 2 ^ 64) (hk : k < 64) : ((lN n).toUInt64 >>> ((nI k).toInt64.toUInt64 &&& Int64.toUInt64 63)).toInt64 = lN (n / 2 ^ k) := by
  rw [l64_sa k hk]
  apply Int64.toBitVec_inj.mp
  apply BitVec.eq_of_toNat_eq
  rw [l64_tn (Nat.lt_of_le_of_lt (Nat.div_le_self _ _) hn)]
  show ((lN n).toUInt64 >>> UInt64.ofNat k).toNat = _
  rw [UInt64.toNat_shiftRight, l64_sb k hk, Nat.shiftRight_eq_div_pow]
  show (lN n).toBitVec.toNat / _ = _
  rw [l64_tn hn]
theorem l64_and {n k : Nat} (hn : n < 2 ^ 64) (hk : k < 64) : lN n &&& lN (2 ^ k - 1) = lN (n % 2 ^ k) := by
  have h1 : 2 ^ k - 1 < 2 ^ 64 := by
    have := Nat.pow_lt_pow_right (a := 2) (by decide) hk
    omega
  apply Int64.toBitVec_inj.mp
  apply BitVec.eq_of_toNat_eq
  rw [Int64.toBitVec_and, BitVec.toNat_and, l64_tn hn, l64_tn h1, l64_tn (Nat.lt_of_le_of_lt (Nat.mod_le _ _) hn), Nat.and_two_pow_sub_one_eq_mod]
theorem lN_z {v : Nat} (hv : v < 2 ^ 64) : lN v = lN 0 ↔ v = 0 := by
  constructor
  · intro h
    have h1 := l64_tn hv
    have h2 := l64_tn (n := 0) (by decide)
    rw [h] at h1
    omega
  · rintro rfl; rfl
theorem cdA_n {w i : Nat} (hw : w < 2 ^ 64) (hi : i < 8) : cdA (lN w) i = nI (w / 2 ^ (8 * i) % 256) := by
  have h : w / 2 ^ (8 * i) < 2 ^ 64 := Nat.lt_of_le_of_lt (Nat.div_le_self _ _) hw
  rw [cdA, l64_shr hw (show 8 * i < 64 by omega), show (255 : Int64) = lN (2 ^ 8 - 1) by decide, l64_and h (by decide), lN_i]
theorem cdG_iff {w i v : Nat} (hw : w < 2 ^ 64) (hi : i < 8) (hv : v = w / 2 ^ (8 * i)) : (lN 33 ≤ lN (v % 256) ∧ lN (v % 256) ≤ lN 126) ↔ cdG (lN w) i := by
  have h := Nat.mod_lt v (show 0 < 256 by decide)
  show _ ↔ (nI 33 ≤ cdA (lN w) i ∧ cdA (lN w) i ≤ nI 126)
  rw [cdA_n hw hi, ← hv, lN_le (by decide) (by omega), lN_le (by omega) (by decide), nI_leI (by decide) (by omega), nI_leI (by omega) (by decide)]
theorem by0 {w : Nat} (hw : w < 2 ^ 64) : ∀ j, j ≤ 8 → (∀ t, 8 - j ≤ t → t < 8 → w / 2 ^ (8 * t) % 256 = 0) → w / 2 ^ (8 * (8 - j)) = 0
  | 0, _, _ => Nat.div_eq_of_lt hw
  | j + 1, hj, h => by
    have ih := by0 hw j (by omega) (fun t h1 h2 => h t (by omega) h2)
    have h0 := h (8 - (j + 1)) (Nat.le_refl _) (by omega)
    rw [show 8 * (8 - j) = 8 * (8 - (j + 1)) + 8 by omega, Nat.pow_add, ← Nat.div_div_eq_div_mul] at ih
    generalize w / 2 ^ (8 * (8 - (j + 1))) = q at ih h0 ⊢
    omega
theorem cdR_y {w i : Nat} (hw : w < 2 ^ 64) (hi : i ≤ 8) (hg : ∀ t, t < i → cdG (lN w) t) (h0 : w / 2 ^ (8 * i) = 0) : cdR (lN w) i := by
  have hz : ∀ t, i ≤ t → t < 8 → cdA (lN w) t = 0 := by
    intro t h1 h2
    have h3 : w / 2 ^ (8 * t) = 0 := by
      rw [show 8 * t = 8 * i + 8 * (t - i) by omega, Nat.pow_add, ← Nat.div_div_eq_div_mul, h0, Nat.zero_div]
    rw [cdA_n hw h2, h3]; rfl
  exact ⟨hi, fun _ => ⟨hi, hg, hz⟩, fun q k hk hn => by subst q; exact cdG_ne (hn.2.1 0 (by omega)) (hz 0 (Nat.le_refl _) (by decide))⟩
theorem cdR_n {w i : Nat} (hw : w < 2 ^ 64) (hi : i ≤ 8) (hg : ∀ t, t < i → cdG (lN w) t) (hex : i = 8 ∨ ¬ cdG (lN w) i) (h0 : w / 2 ^ (8 * i) ≠ 0) : cdR (lN w) 0 := by
  refine ⟨by omega, fun q => absurd q (by omega), fun _ k hk hn => ?_⟩
  rcases Nat.lt_trichotomy k i with q | q | q
  · exact cdG_ne (hg k q) (hn.2.2 k (Nat.le_refl _) (by omega))
  · subst q
    apply h0
    have h1 := by0 hw (8 - k) (by omega) (fun t h1 h2 => by
      have h3 := hn.2.2 t (by omega) h2
      rw [cdA_n hw h2] at h3
      have h4 := Nat.mod_lt (w / 2 ^ (8 * t)) (show 0 < 256 by decide)
      generalize w / 2 ^ (8 * t) % 256 = y at h3 h4 ⊢
      rcases Nat.eq_zero_or_pos y with z | z
      · exact z
      · exact absurd h3 (nI_ne0 z (by omega)))
    rwa [show 8 - (8 - k) = k by omega] at h1
  · rcases hex with r | r
    · have := hn.1; omega
    · exact r (hn.2.1 i q)
theorem us_over {M : CV} {k j : Nat} {x y : Int32} : us (us M k j x) k j y = us M k j y := by
  funext r s
  by_cases q : r = k
  · subst q
    rw [us_i, us_i, us_i]
    by_cases z : s = j
    · rw [if_pos z, if_pos z]
    · rw [if_neg z, if_neg z, if_neg z]
  · rw [us_n q, us_n q, us_n q]
theorem us_self {M : CV} {k j : Nat} {x : Int32} (h : M k j = x) : us M k j x = M := by
  funext r s
  by_cases q : r = k
  · subst q
    rw [us_i]
    by_cases z : s = j
    · rw [if_pos z, z, h]
    · rw [if_neg z]
  · rw [us_n q]
/-! a text -/
def sgF (f : Nat → Int32) (st i : Nat) : Int32 := sgn (f (st + i))
theorem ltn_run {f : Nat → Int32} {st : Nat} (h0 : ltn f st = 0) : ∀ t, (∀ k, k < t → isL (f (st + k))) → ltn f (st + t) = t
  | 0, _ => h0
  | t + 1, h => by
    show ltn f (st + t + 1) = _
    rw [ltn, if_pos (h t (by omega)), ltn_run h0 t (fun k hk => h k (by omega))]
theorem dgn_run {f : Nat → Int32} {st : Nat} : ∀ t, (∀ k, k < t → isL (f (st + k))) → dgn f (st + t) = dgn f st
  | 0, _ => rfl
  | t + 1, h => by
    show dgn f (st + t + 1) = _
    rw [dgn, if_neg (isLD (h t (by omega))), dgn_run t (fun k hk => h k (by omega))]
theorem rst_run {f : Nat → Int32} {st : Nat} (h0 : rst f st = st) : ∀ t, (∀ k, k < t → isL (f (st + k))) → rst f (st + t) = st
  | 0, _ => h0
  | t + 1, h => by
    show rst f (st + t + 1) = _
    rw [rst, if_neg (isLD (h t (by omega))), rst_run h0 t (fun k hk => h k (by omega))]
theorem lw_run {f : Nat → Int32} {st : Nat} (hl : lw (acf f) st = st) (h0 : ltn f st = 0) : ∀ t, t ≤ 9 → (∀ k, k < t → isL (f (st + k))) → lw (acf f) (st + t) = st + t
  | 0, _, _ => hl
  | t + 1, h9, h => by
    show lw (acf f) (st + t + 1) = st + t + 1
    exact lw_go (lw_run hl h0 t (by omega) (fun k hk => h k (by omega))) (acf_1 (Or.inl ⟨h t (by omega), by rw [ltn_run h0 t (fun k hk => h k (by omega))]; omega⟩))
theorem dgn3 {f : Nat → Int32} : ∀ k, (∀ t, t < k → acc f t) → 3 * dgn f k + ltn f k ≤ k
  | 0, _ => Nat.le_refl _
  | k + 1, h => by
    have ih := dgn3 k (fun t ht => h t (by omega))
    rcases h k (by omega) with ⟨hL, _⟩ | ⟨hD, h2⟩
    · rw [dgn, if_neg (isLD hL), ltn, if_pos hL]; omega
    · rw [dgn, if_pos hD, ltn, if_neg (fun q => isLD q hD)]; omega
/-- what was read of the names, up to the place st -/
def NR (M : CV) (f : Nat → Int32) (st : Nat) : Prop := ∀ k, k < st → isD (f k) → M 10 (dgn f k) = sdS (sgF f (rst f k)) (k - rst f k) ∧ M 11 (dgn f k) = nI (k - rst f k) ∧ M 12 (dgn f k) = f k - nI 48
/-- a name begins at st -/
def FS (M : CV) (f : Nat → Int32) (pl st : Nat) : Prop := M 0 8 = nI st ∧ M 0 12 = nI (dgn f st) ∧ lw (acf f) st = st ∧ ltn f st = 0 ∧ rst f st = st ∧ NR M f st ∧ st ≤ pl
/-- only the reader's own rows change -/
def FO (M M1 : CV) : Prop := (∀ k, k ≠ 0 → k ≠ 10 → k ≠ 11 → k ≠ 12 → M1 k = M k) ∧ ∀ j, j ≠ 8 → j ≠ 12 → M1 0 j = M 0 j
theorem FO.rf {M : CV} : FO M M := ⟨fun _ _ _ _ _ => rfl, fun _ _ _ => rfl⟩
theorem FO.tr {M M1 M2 : CV} (h : FO M M1) (h2 : FO M1 M2) : FO M M2 := ⟨fun k a b c d => (h2.1 k a b c d).trans (h.1 k a b c d), fun j a b => (h2.2 j a b).trans (h.2 j a b)⟩
theorem FO.s0 {M : CV} {j : Nat} {v : Int32} (h : j = 8 ∨ j = 12) : FO M (us M 0 j v) := ⟨fun k a _ _ _ => us_n a, fun i a b => by rw [us_i, if_neg (by omega)]⟩
theorem FO.sk {M : CV} {k j : Nat} {v : Int32} (h : k = 10 ∨ k = 11 ∨ k = 12) : FO M (us M k j v) := ⟨fun r a b c d => us_n (by omega), fun i _ _ => by rw [us_n (by omega)]⟩
/-- the text ends, or is wrong, at sp, L letters behind st -/
theorem ft_at {f : Nat → Int32} {pl st L : Nat} (hl : lw (acf f) st = st) (h0 : ltn f st = 0) (hL9 : L ≤ 9) (hr : ∀ k, k < L → isL (f (st + k))) (hp : st + L ≤ pl) (hst : st < pl ∨ pl = 0) (hx : L = 9 ∨ ¬ (st + L < pl ∧ isL (f (st + L)))) (hd : L < 2 ∨ ¬ (st + L < pl ∧ isD (f (st + L)))) : ftS f pl = nI (st + L) := by
  have e1 := ltn_run h0 L hr
  have e2 := lw_run hl h0 L hL9 hr
  rcases Nat.lt_or_ge (st + L) pl with q | q
  · have hna : ¬ acc f (st + L) := by
      rintro (⟨a, b⟩ | ⟨a, b⟩)
      · rw [e1] at b
        exact hx.elim (fun z => by omega) (fun z => z ⟨q, a⟩)
      · rw [e1] at b
        exact hd.elim (fun z => by omega) (fun z => z ⟨q, a⟩)
    have e3 := lw_hit e2 (acf_0 hna) pl q
    rw [ftS, e3, if_pos q]
  · have e : pl = st + L := by omega
    rw [ftS, e, e2, if_neg (Nat.lt_irrefl _), if_pos]
    rw [e1]
    omega
theorem sdS_cong {g g' : Nat → Int32} : ∀ n, (∀ i, i < n → g i = g' i) → sdP g n = sdP g' n ∧ sdS g n = sdS g' n
  | 0, _ => ⟨rfl, rfl⟩
  | n + 1, h => by
    have ih := sdS_cong n (fun i hi => h i (by omega))
    have hn := h n (by omega)
    refine ⟨by rw [sdP, sdP, hn, ih.1], ?_⟩
    rw [sdS, sdS]
    by_cases q : hrd g n
    · rw [if_pos q, if_pos (by have q1 := q; unfold hrd at q1; rw [hn, ih.1] at q1; exact q1), ih.2, hn]
    · rw [if_neg q, if_neg (by intro q1; apply q; unfold hrd; rw [hn, ih.1]; exact q1), ih.2]
theorem dig_ex {f : Nat → Int32} {i : Nat} : ∀ n, i < dgn f n → ∃ k, k < n ∧ isD (f k) ∧ dgn f k = i
  | 0, h => absurd h (Nat.not_lt_zero _)
  | n + 1, h => by
    by_cases hD : isD (f n)
    · rw [dgn, if_pos hD] at h
      rcases Nat.lt_or_ge i (dgn f n) with q | q
      · obtain ⟨k, a, b⟩ := dig_ex n q
        exact ⟨k, by omega, b⟩
      · exact ⟨n, by omega, hD, by omega⟩
    · rw [dgn, if_neg hD] at h
      obtain ⟨k, a, b⟩ := dig_ex n h
      exact ⟨k, by omega, b⟩
theorem rdW_same {V : CV} {f : Nat → Int32} {N k : Nat} : ∀ m, k ≤ m → dgn f m = dgn f k → rdW V f N m = rdW V f N k
  | 0, h, _ => by rw [show k = 0 by omega]
  | m + 1, h, e => by
    rcases Nat.lt_or_ge m k with q | q
    · rw [show k = m + 1 by omega]
    · have h1 := dgn_mono f m q
      by_cases hD : isD (f m)
      · rw [dgn, if_pos hD] at e
        omega
      · rw [dgn, if_neg hD] at e
        rw [rdW, if_neg hD, rdW_same m q e]
theorem rdW_eq {V : CV} {f : Nat → Int32} {N k m : Nat} (e : dgn f m = dgn f k) : rdW V f N m = rdW V f N k := by
  rcases Nat.le_total k m with q | q
  · exact rdW_same m q e
  · exact (rdW_same k q e.symm).symm
/-- a name's fields laid at 0, the first w so far -/
def zr (M : CV) (n w : Nat) : CV := uc M 1 (fun j => if 9 + 12 * n ≤ j ∧ j < 9 + 12 * n + w then nI 0 else M 1 j)
theorem zr_0 {M : CV} {n : Nat} : zr M n 0 = M := uc_eta (fun j => if_neg (by omega))
theorem zr_s {M : CV} {n w : Nat} : us (zr M n w) 1 (9 + 12 * n + w) (nI 0) = zr M n (w + 1) :=
  uc_us (fun j => by
    by_cases q : j = 9 + 12 * n + w
    · rw [if_pos q, if_pos (by omega)]
    · rw [if_neg q]
      by_cases q2 : 9 + 12 * n ≤ j ∧ j < 9 + 12 * n + w
      · rw [if_pos q2, if_pos (by omega)]
      · rw [if_neg q2, if_neg (by omega)])
theorem apS_row {V : CV} {f : Nat → Int32} {n s L r : Nat} {h : Int32} (h0 : r ≠ 0) (h4 : r ≠ 4) (h5 : r ≠ 5) (h6 : r ≠ 6) (h7 : r ≠ 7) (h8 : r ≠ 8) (h9 : r ≠ 9) : apS V f n s L h r = V r := by
  rw [apS, us_n h0, us_n h6, us_n h9, us_n h8, us_n h7, us_n h5, uc_n h4]
theorem apS_0 {V : CV} {f : Nat → Int32} {n s L j : Nat} {h : Int32} (hj : j ≠ 2) : apS V f n s L h 0 j = V 0 j := by
  rw [apS, us_i, if_neg hj, us_n (by decide), us_n (by decide), us_n (by decide), us_n (by decide), us_n (by decide), uc_n (by decide)]
theorem apS_9 {V : CV} {f : Nat → Int32} {n s L m : Nat} {h : Int32} : apS V f n s L h 9 m = if m = n then nI 0 else V 9 m := by
  rw [apS, us_n (by decide), us_n (by decide), us_i, us_n (by decide), us_n (by decide), us_n (by decide), uc_n (by decide)]
theorem apS_8 {V : CV} {f : Nat → Int32} {n s L m : Nat} {h : Int32} : apS V f n s L h 8 m = if m = n then nI 0 else V 8 m := by
  rw [apS, us_n (by decide), us_n (by decide), us_n (by decide), us_i, us_n (by decide), us_n (by decide), uc_n (by decide)]
theorem apS_7 {V : CV} {f : Nat → Int32} {n s L m : Nat} {h : Int32} : apS V f n s L h 7 m = if m = n then h else V 7 m := by
  rw [apS, us_n (by decide), us_n (by decide), us_n (by decide), us_n (by decide), us_i, us_n (by decide), uc_n (by decide)]
theorem apS_5 {V : CV} {f : Nat → Int32} {n s L m : Nat} {h : Int32} : apS V f n s L h 5 m = if m = n then nI L else V 5 m := by
  rw [apS, us_n (by decide), us_n (by decide), us_n (by decide), us_n (by decide), us_n (by decide), us_i, uc_n (by decide)]
theorem apS_4 {V : CV} {f : Nat → Int32} {n s L : Nat} {h : Int32} : apS V f n s L h 4 = va_cpy f (V 4) s (n * 9) L := by
  rw [apS, us_n (by decide), us_n (by decide), us_n (by decide), us_n (by decide), us_n (by decide), us_n (by decide), uc_s]
theorem apS_6 {V : CV} {f : Nat → Int32} {n s L m : Nat} {h : Int32} : apS V f n s L h 6 m = if m = n then sdS (sgF f s) L else V 6 m := by
  rw [apS, us_n (by decide), us_i, us_n (by decide), us_n (by decide), us_n (by decide), us_n (by decide), uc_n (by decide)]
  by_cases q : m = n
  · rw [if_pos q, if_pos q]
    refine (sdS_cong L (fun i hi => ?_)).2
    rw [sga, us_n (by decide), us_n (by decide), us_n (by decide), us_n (by decide), uc_s, pk_cpy_in (by omega) (by omega), sgF]
    congr 2
    omega
  · rw [if_neg q, if_neg q]
theorem Rw_ap {V : CV} {a b f : Nat → Int32} {n s L : Nat} {h : Int32} (hw : Rw V n a) (hn : n < 20) (h9 : V 9 n = 0) (e5 : b 5 = nI (n + 1)) (e0 : b (9 + 12 * n + 0) = h) (e1 : b (9 + 12 * n + 1) = nI 0) (e2 : b (9 + 12 * n + 2) = nI 0) (e3 : b (9 + 12 * n + 3) = nI L) (e4 : b (9 + 12 * n + 4) = sdS (sgF f s) L) (eo : ∀ j, j ≠ 5 → ¬ (9 + 12 * n ≤ j ∧ j < 9 + 12 * n + 12) → b j = a j) : Rw (apS V f n s L h) (n + 1) b := by
  have po : ∀ r, r ≠ 0 → r ≠ 4 → r ≠ 5 → r ≠ 6 → r ≠ 7 → r ≠ 8 → r ≠ 9 → apS V f n s L h r = V r := fun r h0 h4 h5 h6 h7 h8 h9 => apS_row h0 h4 h5 h6 h7 h8 h9
  have p9 : apS V f n s L h 9 = V 9 := by
    funext m
    rw [apS_9]
    by_cases q : m = n
    · rw [if_pos q, q, h9]; rfl
    · rw [if_neg q]
  refine ⟨⟨fun j hj => ?_, ?_, ?_, ?_, ?_, ?_⟩, fun m hm => ?_, fun d hd => ⟨?_, ?_, ?_, ?_, ?_, ?_⟩⟩
  · rw [eo j (by omega) (by omega), po 1 (by decide) (by decide) (by decide) (by decide) (by decide) (by decide) (by decide)]; exact hw.st j hj
  · rw [eo 4 (by decide) (by omega), apS_0 (by decide)]; exact hw.dy
  · rw [e5, apS, us_s]
  · rw [eo 6 (by decide) (by omega), apS_0 (by decide)]; exact hw.mp
  · rw [eo 7 (by decide) (by omega), po 12 (by decide) (by decide) (by decide) (by decide) (by decide) (by decide) (by decide)]; exact hw.su
  · rw [eo 8 (by decide) (by omega), p9]; exact hw.gi
  · by_cases q : m = n
    · rw [q, apS_7, apS_8, apS_9, apS_5, apS_6, if_pos rfl, if_pos rfl, if_pos rfl, if_pos rfl, if_pos rfl]
      exact ⟨e0, e1, e2, e3, e4⟩
    · rw [eo _ (by omega) (by omega), eo _ (by omega) (by omega), eo _ (by omega) (by omega), eo _ (by omega) (by omega), eo _ (by omega) (by omega), apS_7, apS_8, apS_9, apS_5, apS_6, if_neg q, if_neg q, if_neg q, if_neg q, if_neg q]
      exact hw.2.1 m (by omega)
  · rw [eo _ (by omega) (by omega), po 10 (by decide) (by decide) (by decide) (by decide) (by decide) (by decide) (by decide)]; exact hw.bo hd
  · rw [eo _ (by omega) (by omega), po 11 (by decide) (by decide) (by decide) (by decide) (by decide) (by decide) (by decide)]; exact hw.ow hd
  · rw [eo _ (by omega) (by omega), po 12 (by decide) (by decide) (by decide) (by decide) (by decide) (by decide) (by decide)]; exact hw.po hd
  · rw [eo _ (by omega) (by omega), po 10 (by decide) (by decide) (by decide) (by decide) (by decide) (by decide) (by decide), po 13 (by decide) (by decide) (by decide) (by decide) (by decide) (by decide) (by decide)]; exact hw.da hd
  · rw [eo _ (by omega) (by omega), po 14 (by decide) (by decide) (by decide) (by decide) (by decide) (by decide) (by decide)]; exact hw.go hd
  · rw [eo _ (by omega) (by omega), apS_0 (by decide), po 16 (by decide) (by decide) (by decide) (by decide) (by decide) (by decide) (by decide)]; exact hw.sh hd
/-- the model's row taken from another row -/
def rco (M : CV) (t s o i : Nat) : CV := uc M t (fun k => if k < i then M s (o + k) else M t k)
theorem rco_0 {M : CV} {t s o : Nat} : rco M t s o 0 = M := uc_eta (fun j => if_neg (Nat.not_lt_zero _))
theorem rco_s {M : CV} {t s o i : Nat} (h : s ≠ t) : us (rco M t s o i) t i (rco M t s o i s (o + i)) = rco M t s o (i + 1) := by
  have e : rco M t s o i s (o + i) = M s (o + i) := by rw [rco, uc_n h]
  rw [e]
  exact uc_us (fun j => by
    by_cases q : j = i
    · rw [if_pos q, if_pos (by omega), q]
    · rw [if_neg q]
      by_cases q2 : j < i
      · rw [if_pos q2, if_pos (by omega)]
      · rw [if_neg q2, if_neg (by omega)])
/-- the model's row laid into another row -/
def rci (M : CV) (t s o i : Nat) : CV := uc M t (fun k => if o ≤ k ∧ k < o + i then M s (k - o) else M t k)
theorem rci_0 {M : CV} {t s o : Nat} : rci M t s o 0 = M := uc_eta (fun j => if_neg (by omega))
theorem rci_s {M : CV} {t s o i : Nat} (h : s ≠ t) : us (rci M t s o i) t (o + i) (rci M t s o i s i) = rci M t s o (i + 1) := by
  have e : rci M t s o i s i = M s i := by rw [rci, uc_n h]
  rw [e]
  exact uc_us (fun j => by
    by_cases q : j = o + i
    · rw [if_pos q, if_pos (by omega), q, show o + i - o = i by omega]
    · rw [if_neg q]
      by_cases q2 : o ≤ j ∧ j < o + i
      · rw [if_pos q2, if_pos (by omega)]
      · rw [if_neg q2, if_neg (by omega)])
