/-! answers and next courts of a step -/
theorem CZ.hon {Z : CV} {N : Nat} (h : CZ Z N) : ∀ n, n < N → ∃ k, k ≤ 9 ∧ Z 7 n = nI k := by obtain ⟨V, rfl, h⟩ := h; exact h.2.2.2.1.1
theorem CZ.bo8 {Z : CV} {N : Nat} (h : CZ Z N) : ∀ n, n < N → isBo (Z 8 n) := by obtain ⟨V, rfl, h⟩ := h; exact h.2.2.2.1.2.1
theorem R_set {Z : CV} {i : Nat} {v : Int32} (hi : i < 4) (h : okS (nI i) v) : Rset Z (nI i) v = Z 1 i := by rw [Rset, if_pos h, ix_n (by omega)]
theorem gSet_1 {K : KS} {i : Nat} {v : Int32} (hi : i < 4) (h : okS (nI i) v) : (gSet K (nI i) v).1.1 1 i = v := by
  rw [gSet, if_pos h]
  show Nset K.1.1 (nI i) v 1 i = v
  rw [Nset, ix_n (by omega), us_s]
theorem okH_n {v : Nat} (hv : v ≤ 9) : okH (nI v) := ⟨nI_pos' (by omega), nI_le hv (by decide)⟩
theorem R_hon {Z : CV} {N k v : Nat} (h : CZ Z N) (hk : k < N) (hv : v ≤ 9) : Rhon Z (nI k) (nI v) = Z 7 k := by
  rw [Rhon, if_neg (Classical.not_not.mpr (h.has hk)), if_neg (Classical.not_not.mpr (okH_n hv)), ixk h (Nat.le_of_lt hk)]
theorem R_honN {Z : CV} {N : Nat} {v : Int32} (h : CZ Z N) : Rhon Z (nI N) v = -1 := by rw [Rhon, if_pos h.no]
theorem gHon_N {K : KS} {x v : Int32} : (gHon K x v).1.2 = K.1.2 := by rw [gHon]; split <;> rfl
theorem gHon_7 {K : KS} {k v : Nat} (h : CZ K.1.1 K.1.2) (hk : k < K.1.2) (hv : v ≤ 9) : (gHon K (nI k) (nI v)).1.1 7 k = nI v := by
  rw [gHon, if_pos ⟨h.has hk, okH_n hv⟩]
  show Nhon K.1.1 (nI k) (nI v) 7 k = nI v
  rw [Nhon, ixk h (Nat.le_of_lt hk), us_s]
theorem wh_n2 {Z : CV} {n : Nat} (h : Z 8 n ≠ 0) : wh Z n = nI 2 := by rw [wh, if_neg h]; rfl
theorem wh_n1 {Z : CV} {n : Nat} (h : Z 8 n = 0) (hb : 0 < nb Z (nI n) 12) : wh Z n = nI 1 := by rw [wh, if_pos h, if_pos hb]; rfl
theorem wh_n0 {Z : CV} {n : Nat} (h : Z 8 n = 0) (hb : ¬ 0 < nb Z (nI n) 12) : wh Z n = nI 0 := by rw [wh, if_pos h, if_neg hb]; rfl
theorem R_wit0 {Z : CV} {N k : Nat} (h : CZ Z N) (hk : k < N) (h8 : Z 8 k = 0) : Rwit Z (nI k) = nI (nb Z (nI k) 12) := by
  rw [Rwit, if_neg (Classical.not_not.mpr (h.has hk)), ixk h (Nat.le_of_lt hk), if_neg (Classical.not_not.mpr h8)]
theorem R_wit2 {Z : CV} {N k : Nat} (h : CZ Z N) (hk : k < N) (h8 : Z 8 k ≠ 0) : Rwit Z (nI k) = -5 := by
  rw [Rwit, if_neg (Classical.not_not.mpr (h.has hk)), ixk h (Nat.le_of_lt hk), if_pos h8]
theorem R_witN {Z : CV} {N : Nat} (h : CZ Z N) : Rwit Z (nI N) = -1 := by rw [Rwit, if_pos h.no]
theorem gNow_V {K : KS} {V : CV} : (gNow K V).1.1 = V := rfl
theorem gWit_11 {K : KS} {x : Int32} : (gWit K x).1.1 11 = K.1.1 11 := by
  rw [gWit]; split
  · rw [gNow_V, Nwit, dr_row (by decide), us_n (by decide)]
  · rfl
theorem bm_sh2 {V : CV} {x : Int32} {c : Nat} (hc : c < 12) : (bm V x 12 >>> (nI c &&& 31)) &&& nI 1 = nI (if V 10 c = x then 1 else 0) := by
  rw [bm_sh hc]; split <;> rfl
theorem nb_step {V : CV} {x : Int32} {j q : Nat} (h : q = nb V x j) : q + (if V 10 j = x then 1 else 0) = nb V x (j + 1) := by
  rw [nb, h]
  by_cases q : V 10 j = x
  · rw [if_pos q, if_pos q]
  · rw [if_neg q, if_neg q, Nat.add_zero]
theorem R_str6 {Z : CV} {c : Nat} (hc : c < 12) (h : Z 10 c = -6) : Rstr Z (nI c) = -5 := by rw [Rstr, if_neg (Classical.not_not.mpr (c_in hc)), ix_n (by omega), if_pos h]
theorem R_strn {Z : CV} {c n : Nat} (hc : c < 12) (hn : n < 20) (h : Z 10 c = nI n) : Rstr Z (nI c) = nI n := by
  rw [Rstr, if_neg (Classical.not_not.mpr (c_in hc)), ix_n (by omega), h, if_neg (n6 (by omega))]
theorem gStr_n {K : KS} {c n : Nat} (hc : c < 12) (hn : n < 20) (h : K.1.1 10 c = nI n) : (gStr K (nI c)).1.1 10 c = -6 ∧ (gStr K (nI c)).1.1 11 c = K.1.1 11 c + nI 1 := by
  have hE : Estr K.1.1 (nI c) := ⟨c_in hc, by rw [ix_n (by omega), h]; exact n6 (by omega)⟩
  rw [gStr, if_pos hE]
  refine ⟨?_, ?_⟩
  · show Nstr K.1.1 (nI c) 10 c = -6
    rw [Nstr, us_n (by decide), ix_n (by omega), us_s]
  · show Nstr K.1.1 (nI c) 11 c = _
    rw [Nstr, ix_n (by omega), us_s, us_n (by decide)]
theorem wm_0 {V : CV} : ∀ k, (∀ c, c < k → V 16 c = V 10 c) → wm V k = 0
  | 0, _ => rfl
  | k + 1, h => by rw [wm, if_pos (h k (by omega)), wm_0 k (fun c hc => h c (by omega))]
theorem gIss_w {K : KS} : wmS (gIss K).1.1 = nI 0 := by
  show wmS (dm K.1.1) = nI 0
  have e14 : dm K.1.1 0 14 = nI 1 := by rw [dm, uc_n (by decide), us_s]
  rw [wmS, if_neg (by rw [e14]; decide), wm_0 12 (fun c hc => ?_)]
  rw [dm, uc_s, uc_n (by decide), us_n (by decide), us_n (by decide), pk_cpy_in (Nat.zero_le _) (by omega), Nat.zero_add, Nat.sub_zero]
/-! days -/
def dn (K : KS) (k : Nat) : Nat := dayn K.1.1 (aV K.1.1) K.1.2 (pV K.1.1) k
def DK (K : KS) (k : Nat) : KS := gNow K (days K.1.1 (aV K.1.1) K.1.2 (pV K.1.1) k)
def dq (K : KS) (k : Nat) : Nat := gqn (days K.1.1 (aV K.1.1) K.1.2 (pV K.1.1) k) (aV K.1.1) K.1.2
theorem DK_0 (K : KS) : K = DK K 0 := rfl
theorem dn_s {K : KS} {k : Nat} : dn K (k + 1) = dn K k + dq K k := rfl
theorem dq_le {K : KS} {k : Nat} : dq K k ≤ 1 := gqn_le _ _ _
theorem R_pasn {Z : CV} {a N P n d : Nat} (h1 : 1 ≤ d) (h99 : d ≤ 99) (hd : Z 0 1 = nI n) (hn : n + d ≤ 9999) : Rpas Z a N P (nI d) = nI (dayn Z a N P d) ∧ Epas Z (nI d) := by
  have h2 : okD (nI d) 99 := ⟨nI_le h1 (by omega), nI_le h99 (by decide)⟩
  have h3 : ¬ nI 9999 < Z 0 1 + nI d := by rw [hd, nI_add]; exact nI_nlt (by omega) (by decide)
  exact ⟨by rw [Rpas, if_neg (Classical.not_not.mpr h2), if_neg h3, ix_n (by omega)], h2, h3⟩
theorem DK_aV {K : KS} {k : Nat} : aV (DK K k).1.1 = aV K.1.1 := days_aV k
theorem DK_pV {K : KS} {k : Nat} : pV (DK K k).1.1 = pV K.1.1 := days_pV k
theorem DK_01 {K : KS} {k n : Nat} (h : K.1.1 0 1 = nI n) : (DK K k).1.1 0 1 = nI (n + k) := by
  show days K.1.1 _ _ _ k 0 1 = _
  rw [days_01, h, nI_add]
theorem R_pas1 {K : KS} {k n : Nat} (h : K.1.1 0 1 = nI n) (hn : n + k + 1 ≤ 9999) : Rpas (DK K k).1.1 (aV (DK K k).1.1) (DK K k).1.2 (pV (DK K k).1.1) (nI 1) = nI (dq K k) ∧ gPas (DK K k) (nI 1) = DK K (k + 1) := by
  have q := R_pasn (Z := (DK K k).1.1) (a := aV (DK K k).1.1) (N := (DK K k).1.2) (P := pV (DK K k).1.1) (d := 1) (by decide) (by decide) (DK_01 h) (by omega)
  refine ⟨?_, ?_⟩
  · rw [q.1, dayn, dayn, Nat.zero_add, days, DK_aV]
    rfl
  · rw [gPas, if_pos q.2, Npas, DK_aV, DK_pV, ix_n (by decide)]
    rfl
theorem R_pasd {K : KS} {d n : Nat} (h : K.1.1 0 1 = nI n) (h1 : 1 ≤ d) (h99 : d ≤ 99) (hn : n + d ≤ 9999) : Rpas K.1.1 (aV K.1.1) K.1.2 (pV K.1.1) (nI d) = nI (dn K d) ∧ gPas K (nI d) = DK K d := by
  have q := R_pasn (a := aV K.1.1) (N := K.1.2) (P := pV K.1.1) h1 h99 h hn
  exact ⟨q.1, by rw [gPas, if_pos q.2, Npas, ix_n (by omega)]; rfl⟩
theorem DK_9 {K : KS} {d : Nat} (hN : K.1.2 ≤ 20) : sm ((DK K d).1.1 9) 20 = sm (K.1.1 9) 20 + nI (dn K d) := days_9 hN d
/-! gifts -/
theorem rsnq_r {Z : CV} {n c k : Nat} {q : Bool} : ∃ r, r ≤ 6 ∧ rsnq Z n c k q = nI r := by
  rw [rsnq]
  split
  · exact ⟨1, by decide, rfl⟩
  · split
    · exact ⟨2, by decide, rfl⟩
    · split
      · exact ⟨3, by decide, rfl⟩
      · split
        · exact ⟨4, by decide, rfl⟩
        · split
          · exact ⟨5, by decide, rfl⟩
          · split
            · exact ⟨6, by decide, rfl⟩
            · exact ⟨0, by decide, rfl⟩
theorem rsn_r {Z : CV} {a n c : Nat} : ∃ r, r ≤ 6 ∧ rsn Z a n c = nI r := rsnq_r
theorem R_givN {Z : CV} {N a : Nat} {c : Int32} (h : CZ Z N) : Rgiv Z a (nI N) c = -1 := by rw [Rgiv, if_pos (fun q => h.no q.1)]
theorem R_giv5 {Z : CV} {N a k c r : Nat} (h : CZ Z N) (hk : k < N) (hc : c < 12) (hr : rsn Z a k c = nI r) (h0 : 0 < r) (h6 : r ≤ 6) : Rgiv Z a (nI k) (nI c) = -5 := by
  rw [Rgiv, if_neg (Classical.not_not.mpr ⟨h.has hk, c_in hc⟩), ixk h (Nat.le_of_lt hk), ix_n (by omega), hr, if_pos (nI_ne0 h0 (by omega))]
theorem R_giv0 {Z : CV} {N a k c : Nat} (h : CZ Z N) (hk : k < N) (hc : c < 12) (hr : rsn Z a k c = nI 0) : Rgiv Z a (nI k) (nI c) = Z 11 c + nI 2 := by
  rw [Rgiv, if_neg (Classical.not_not.mpr ⟨h.has hk, c_in hc⟩), ixk h (Nat.le_of_lt hk), ix_n (by omega), hr, if_neg (show ¬ (nI 0 ≠ 0) from fun q => q rfl), pl_11 hc hc, plA, if_pos rfl]
theorem gGiv_N {K : KS} (h : CZ K.1.1 K.1.2) {c : Int32} : gGiv K (nI K.1.2) c = K := by rw [gGiv, if_neg (fun q => h.no q.1.1)]
theorem gGiv_5 {K : KS} {k c r : Nat} (h : CZ K.1.1 K.1.2) (hk : k < K.1.2) (hc : c < 12) (hr : rsn K.1.1 (aV K.1.1) k c = nI r) (h0 : 0 < r) (h6 : r ≤ 6) : gGiv K (nI k) (nI c) = K := by
  rw [gGiv, if_neg (fun q => ?_)]
  have := q.2
  rw [ixk h (Nat.le_of_lt hk), ix_n (by omega), hr] at this
  exact nI_ne0 h0 (by omega) this
theorem gGiv_0 {K : KS} {k c : Nat} (h : CZ K.1.1 K.1.2) (hk : k < K.1.2) (hc : c < 12) (hr : rsn K.1.1 (aV K.1.1) k c = nI 0) : gGiv K (nI k) (nI c) = gNow K (placeS K.1.1 k c) := by
  have e1 := ixk h (Nat.le_of_lt hk)
  have e2 : (nI c).toNatClampNeg = c := ix_n (by omega)
  rw [gGiv, if_pos ⟨⟨h.has hk, c_in hc⟩, by rw [e1, e2, hr]; rfl⟩, Ngiv, e1, e2]
theorem rsn_0 {Z : CV} {a n c : Nat} (h : rsn Z a n c = nI 0) : Z 8 n = 0 := by
  by_cases q : Z 8 n = 0
  · exact q
  · rw [rsn, rsnq, if_pos q] at h
    exact absurd h (by decide)
theorem gGiv_wh {K : KS} {k c : Nat} (hc : c < 12) (hr : rsn K.1.1 (aV K.1.1) k c = nI 0) : wh (placeS K.1.1 k c) k = nI 1 := by
  refine wh_n1 ?_ ?_
  · rw [place_row (by decide) (by decide) (by decide) (by decide) (by decide)]; exact rsn_0 hr
  · exact nb_in (c := c) (by rw [pl_10, if_pos rfl]) 12 hc
