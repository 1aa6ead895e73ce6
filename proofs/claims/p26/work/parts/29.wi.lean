/-! what stays within bounds: posts owed, days; names given come to what corners got -/
def WB (Z : CV) (B D : Nat) : Prop := (∀ c, c < 12 → ∃ q, q ≤ B ∧ Z 11 c = nI q) ∧ (∃ d, d ≤ D ∧ Z 0 1 = nI d ∧ ∀ c, c < 12 → Z 10 c ≠ -6 → ∃ g, g ≤ d ∧ Z 13 c = nI g) ∧ sm (Z 14) 12 = sm (Z 9) 20
theorem WB.mono {Z : CV} {B D B1 D1 : Nat} (h : WB Z B D) (hB : B ≤ B1) (hD : D ≤ D1) : WB Z B1 D1 := by
  obtain ⟨h1, ⟨d, h2, h3, h4⟩, h5⟩ := h
  refine ⟨fun c hc => ?_, ⟨d, by omega, h3, h4⟩, h5⟩
  obtain ⟨q, q1, q2⟩ := h1 c hc
  exact ⟨q, by omega, q2⟩
theorem WB.row {Z W : CV} {B D : Nat} (h : WB Z B D) (e11 : W 11 = Z 11) (e0 : W 0 1 = Z 0 1) (e10 : ∀ c, c < 12 → W 10 c ≠ -6 → Z 10 c ≠ -6) (e13 : W 13 = Z 13) (e14 : W 14 = Z 14) (e9 : W 9 = Z 9) : WB W B D := by
  obtain ⟨h1, ⟨d, h2, h3, h4⟩, h5⟩ := h
  exact ⟨fun c hc => by rw [e11]; exact h1 c hc, ⟨d, h2, by rw [e0]; exact h3, fun c hc hb => by rw [e13]; exact h4 c hc (e10 c hc hb)⟩, by rw [e14, e9]; exact h5⟩
/-! posts of a gift -/
theorem pl5_11 {V : CV} {n c : Nat} : pl5 V n c 11 = us V 11 c (V 11 c + nI 2) 11 := by
  rw [pl5, pa5]
  have e : pa4 (pa3 (pa2 (pa1 V n c) c) c) n 11 = V 11 := by rw [pa4, us_n (by decide), pa3, us_n (by decide), pa2, us_n (by decide), pa1, us_n (by decide)]
  funext j
  rw [us_i, us_i, e]
theorem pl_13 {V : CV} {n c d : Nat} : placeS V n c 13 d = if d = c then V 0 1 else V 13 d := by
  rw [placeS, upR_row (by decide), upL_row (by decide), pl5, pa5, us_n (by decide), pa4, us_n (by decide), pa3, us_n (by decide), pa2, us_i, pa1, us_n (by decide), us_n (by decide)]
theorem pl_14 {V : CV} {n c : Nat} : ∀ d, placeS V n c 14 d = if d = c then V 14 c + nI 1 else V 14 d := by
  intro d
  rw [placeS, upR_row (by decide), upL_row (by decide), pl5, pa5, us_n (by decide), pa4, us_n (by decide), pa3, us_i, pa2, us_n (by decide), pa1, us_n (by decide)]
theorem pl_0 {V : CV} {n c : Nat} : placeS V n c 0 = V 0 := place_row (by decide) (by decide) (by decide) (by decide) (by decide)
/-- what a gift adds to the posts of a corner -/
def plA (c d : Nat) : Nat := if d = c then 2 else if d + 1 = c ∨ c + 1 = d then 1 else 0
theorem plA_le (c d : Nat) : plA c d ≤ 2 := by
  rw [plA]; split
  · exact Nat.le_refl _
  · split <;> omega
theorem pl_11 {V : CV} {n c d : Nat} (hc : c < 12) (hd : d < 12) : placeS V n c 11 d = V 11 d + nI (plA c d) := by
  have e5 : ∀ j, pl5 V n c 11 j = if j = c then V 11 c + nI 2 else V 11 j := fun j => by rw [pl5_11, us_i]
  have eL : ∀ j, upL (pl5 V n c) c 11 j = if j + 1 = c then V 11 j + nI 1 else if j = c then V 11 c + nI 2 else V 11 j := fun j => by
    by_cases h0 : 0 < c
    · rw [upL, if_pos h0, bump, us_i, e5, e5]
      by_cases q : j + 1 = c
      · rw [if_pos q, if_pos (by omega), if_neg (by omega), show c - 1 = j by omega]
      · rw [if_neg q, if_neg (by omega)]
    · rw [upL, if_neg h0, e5, if_neg (show ¬ j + 1 = c by omega)]
  have eR : placeS V n c 11 d = if c + 1 = d then V 11 d + nI 1 else if d + 1 = c then V 11 d + nI 1 else if d = c then V 11 c + nI 2 else V 11 d := by
    by_cases h0 : c < 11
    · rw [placeS, upR, if_pos h0, bump, us_i, eL, eL]
      by_cases q : c + 1 = d
      · rw [if_pos q, if_pos q.symm, if_neg (by omega), if_neg (by omega), q]
      · rw [if_neg q, if_neg (by omega)]
    · rw [placeS, upR, if_neg h0, eL, if_neg (show ¬ c + 1 = d by omega)]
  rw [eR, plA]
  by_cases q1 : c + 1 = d
  · rw [if_pos q1, if_neg (by omega), if_pos (Or.inr q1)]
  · by_cases q2 : d + 1 = c
    · rw [if_neg q1, if_pos q2, if_neg (by omega), if_pos (Or.inl q2)]
    · by_cases q3 : d = c
      · rw [if_neg q1, if_neg q2, if_pos q3, if_pos q3, q3]
      · rw [if_neg q1, if_neg q2, if_neg q3, if_neg q3, if_neg (by omega), nI_0, Int32.add_zero]
theorem sm_pl {f g : Nat → Int32} {c : Nat} : ∀ n, n ≤ 12 → (∀ d, d < 12 → g d = f d + nI (plA c d)) → sm g n = sm f n + nI ((List.range n).foldl (fun a d => a + plA c d) 0)
  | 0, _, _ => by rw [sm, sm]; rfl
  | n + 1, hn, h => by
    rw [sm, sm, sm_pl n (by omega) h, h n (by omega), List.range_succ, List.foldl_append]
    show sm f n + nI _ + (f n + nI (plA c n)) = sm f n + f n + nI (_ + plA c n)
    rw [← nI_add, Int32.add_assoc, Int32.add_assoc, ← Int32.add_assoc (nI _), Int32.add_comm (nI _) (f n), Int32.add_assoc]
/-- posts owed behind a gift: 2 more there, 1 at each corner beside -/
theorem sm_place {V : CV} {n c : Nat} (hc : c < 12) : sm (placeS V n c 11) 12 = sm (V 11) 12 + nI (2 + ((if c = 0 then 0 else 1) + (if c = 11 then 0 else 1))) := by
  rw [sm_pl 12 (Nat.le_refl _) (fun d hd => pl_11 hc hd)]
  have h : ∀ c, c < 12 → (List.range 12).foldl (fun a d => a + plA c d) 0 = 2 + ((if c = 0 then 0 else 1) + (if c = 11 then 0 else 1)) := by decide +kernel
  rw [h c hc]
theorem sm_pl9 {V : CV} {n c : Nat} (hn : n < 20) : sm (placeS V n c 9) 20 = sm (V 9) 20 + nI 1 := by
  rw [sm_add (f := V 9) (j := n) (v := nI 1) (fun i => pl_9) 20, if_pos hn]
theorem sm_pl14 {V : CV} {n c : Nat} (hc : c < 12) : sm (placeS V n c 14) 12 = sm (V 14) 12 + nI 1 := by
  rw [sm_add (f := V 14) (j := c) (v := nI 1) (fun i => pl_14 i) 12, if_pos hc]
theorem WB.xpl {V : CV} {n c B D : Nat} (h : WB V B D) (hn : n < 20) (hc : c < 12) : WB (placeS V n c) (B + 2) D := by
  obtain ⟨h1, ⟨d, h2, h3, h4⟩, h5⟩ := h
  refine ⟨fun k hk => ?_, ⟨d, h2, by rw [pl_0]; exact h3, fun k hk hb => ?_⟩, by rw [sm_pl14 hc, sm_pl9 hn, h5]⟩
  · obtain ⟨q, q1, q2⟩ := h1 k hk
    refine ⟨q + plA c k, ?_, by rw [pl_11 hc hk, q2, nI_add]⟩
    have := plA_le c k
    omega
  · rw [pl_13]
    by_cases q : k = c
    · rw [if_pos q]; exact ⟨d, Nat.le_refl _, h3⟩
    · rw [if_neg q]
      rw [pl_10, if_neg q] at hb
      exact h4 k hk hb
theorem WB.xup {V : CV} {B D : Nat} (h : WB V B D) : WB (up1 V) B D := by
  rw [up1]
  split
  · rename_i hp
    obtain ⟨h1, ⟨d, h2, h3, h4⟩, h5⟩ := h
    have e : ∀ r, r ≠ 11 → r ≠ 12 → pst V (mo V 12) r = V r := fun r r1 r2 => by rw [pst, us_n r2, us_n r1]
    refine ⟨fun k hk => ?_, ⟨d, h2, by rw [e 0 (by decide) (by decide)]; exact h3, fun k hk hb => ?_⟩, by rw [e 14 (by decide) (by decide), e 9 (by decide) (by decide)]; exact h5⟩
    · rw [pst, us_n (by decide), us_i]
      by_cases q : k = mo V 12
      · rw [if_pos q]
        obtain ⟨x, x1, x2⟩ := h1 (mo V 12) (by rw [← q]; exact hk)
        rw [x2] at hp ⊢
        have hx : 1 ≤ x := by
          rcases Nat.eq_zero_or_pos x with z | z
          · rw [z] at hp; exact absurd hp (by decide)
          · exact z
        exact ⟨x - 1, by omega, by rw [pk_sub hx]⟩
      · rw [if_neg q]; exact h1 k hk
    · rw [e 10 (by decide) (by decide)] at hb
      rw [e 13 (by decide) (by decide)]; exact h4 k hk hb
  · exact h
theorem WB.xsu {V : CV} {B D : Nat} (h : WB V B D) : ∀ k, WB (su V k) B D
  | 0 => h
  | k + 1 => (WB.xsu h k).xup
theorem pk_is2 {V : CV} {a N : Nat} (hN : N ≤ 20) (h : pkN V a N ≠ 20) : pkN V a N < N ∧ lw (rsn V a (pkN V a N)) 12 < 12 := by
  rcases pkN_is V a N hN with ⟨e, -⟩ | ⟨hc, -⟩
  · exact absurd e h
  · exact ⟨hc.1, (low_c hc.2.2).2⟩
theorem WB.xgq {V : CV} {a N B D : Nat} (h : WB V B D) (hN : N ≤ 20) : WB (gq V a N) (B + 2) D := by
  rw [gq]
  split
  · exact h.mono (by omega) (Nat.le_refl _)
  · rename_i q
    have := pk_is2 hN q
    exact h.xpl (by omega) this.2
theorem sm_gq {V : CV} {a N : Nat} (hN : N ≤ 20) : sm (gq V a N 9) 20 = sm (V 9) 20 + nI (gqn V a N) := by
  rw [gq, gqn]
  split
  · rw [nI_0, Int32.add_zero]
  · rename_i q
    have := pk_is2 hN q
    exact sm_pl9 (by omega)
theorem WB.xday {V : CV} {a N P B D : Nat} (h : WB V B D) (hN : N ≤ 20) : WB (day V a N P) (B + 2) (D + 1) := by
  have hg := (h.xgq (a := a) hN).xsu P
  obtain ⟨h1, ⟨d, h2, h3, h4⟩, h5⟩ := hg
  have e : ∀ r, r ≠ 0 → day V a N P r = su (gq V a N) P r := fun r hr => by rw [day, us_n hr]
  refine ⟨fun k hk => by rw [e 11 (by decide)]; exact h1 k hk, ⟨d + 1, by omega, by rw [day, us_s, h3, nI_add], fun k hk hb => ?_⟩, by rw [e 14 (by decide), e 9 (by decide)]; exact h5⟩
  rw [e 10 (by decide)] at hb
  obtain ⟨g, g1, g2⟩ := h4 k hk hb
  exact ⟨g, by omega, by rw [e 13 (by decide)]; exact g2⟩
theorem WB.xdys {V : CV} {a N P B D : Nat} (h : WB V B D) (hN : N ≤ 20) : ∀ k, WB (days V a N P k) (B + 2 * k) (D + k)
  | 0 => h
  | k + 1 => by
    have := (WB.xdys h hN (a := a) (P := P) k).xday (a := a) (P := P) hN
    exact this.mono (by omega) (by omega)
theorem days_01 {V : CV} {a N P : Nat} : ∀ k, days V a N P k 0 1 = V 0 1 + nI k
  | 0 => by rw [days, nI_0, Int32.add_zero]
  | k + 1 => by
    rw [days, day, us_s, su_row (by decide) (by decide), gq_row (by decide) (by decide) (by decide) (by decide) (by decide), days_01 k, Int32.add_assoc, nI_add]
theorem days_9 {V : CV} {a N P : Nat} (hN : N ≤ 20) : ∀ k, sm (days V a N P k 9) 20 = sm (V 9) 20 + nI (dayn V a N P k)
  | 0 => by rw [days, dayn, nI_0, Int32.add_zero]
  | k + 1 => by
    rw [days, dayn, day, us_n (by decide), su_row (by decide) (by decide), sm_gq hN, days_9 hN k, Int32.add_assoc, nI_add]
theorem days_row1 {V : CV} {a N P : Nat} : ∀ k, days V a N P k 1 = V 1
  | 0 => rfl
  | k + 1 => by rw [days, day_row (by decide) (by decide) (by decide) (by decide) (by decide) (by decide) (by decide), days_row1 k]
theorem days_aV {V : CV} {a N P : Nat} (k : Nat) : aV (days V a N P k) = aV V := by rw [aV, days_row1, aV]
theorem days_pV {V : CV} {a N P : Nat} (k : Nat) : pV (days V a N P k) = pV V := by rw [pV, days_row1, pV]
theorem WB.strip {V : CV} {c B D : Nat} (h : WB V B D) (hc : c < 12) : WB (Nstr V (nI c)) (B + 1) D := by
  obtain ⟨h1, ⟨d, h2, h3, h4⟩, h5⟩ := h
  have e : ∀ r, r ≠ 10 → r ≠ 11 → Nstr V (nI c) r = V r := fun r r1 r2 => by rw [Nstr, us_n r2, us_n r1]
  have ec : (nI c).toNatClampNeg = c := ix_n (by omega)
  refine ⟨fun k hk => ?_, ⟨d, h2, by rw [e 0 (by decide) (by decide)]; exact h3, fun k hk hb => ?_⟩, by rw [e 14 (by decide) (by decide), e 9 (by decide) (by decide)]; exact h5⟩
  · rw [Nstr, us_i, us_n (by decide), ec]
    obtain ⟨q, q1, q2⟩ := h1 k hk
    by_cases z : k = c
    · rw [if_pos z, ← z, q2, nI_add]; exact ⟨q + 1, by omega, rfl⟩
    · rw [if_neg z]; exact ⟨q, by omega, q2⟩
  · rw [e 13 (by decide) (by decide)]
    refine h4 k hk (fun q => hb ?_)
    rw [Nstr, us_n (by decide), us_i, ec]
    by_cases z : k = c
    · rw [if_pos z]
    · rw [if_neg z]; exact q
theorem dr_n6 {V : CV} {n c : Nat} (k : Nat) (h : dr V n k 10 c ≠ -6) : V 10 c ≠ -6 := by
  rcases (dr_10 (V := V) (n := n) k c).1 with q | q
  · rw [← q]; exact h
  · exact absurd q h
theorem WB.wit {V : CV} {x : Int32} {B D : Nat} (h : WB V B D) : WB (Nwit V x) B D := by
  have e : ∀ r, r ≠ 10 → r ≠ 8 → Nwit V x r = V r := fun r r1 r2 => by rw [Nwit, dr_row r1, us_n r2]
  refine h.row (e 11 (by decide) (by decide)) (by rw [e 0 (by decide) (by decide)]) (fun c hc hb => ?_) (e 13 (by decide) (by decide)) (e 14 (by decide) (by decide)) (e 9 (by decide) (by decide))
  rw [Nwit] at hb
  have := dr_n6 12 hb
  rw [us_n (by decide)] at this
  exact this
theorem us_same {V : CV} {r j : Nat} {v : Int32} (h : V r j = v) : us V r j v = V := by
  funext r' j'
  rw [us_e]
  by_cases q : r' = r ∧ j' = j
  · rw [if_pos q, q.1, q.2, h]
  · rw [if_neg q]
theorem zN_row {Z : CV} {N r : Nat} {snd L h : Int32} (h0 : r ≠ 0) (h5 : r ≠ 5) (h6 : r ≠ 6) (h7 : r ≠ 7) (h8 : r ≠ 8) (h9 : r ≠ 9) : zN Z N snd L h r = Z r := by rw [zN, us_n h0, us_n h6, us_n h9, us_n h8, us_n h7, us_n h5]
theorem zN_9 {Z : CV} {N : Nat} {snd L h : Int32} (hz : Z 9 N = 0) : zN Z N snd L h 9 = Z 9 := by
  rw [zN, us_n (by decide), us_n (by decide)]
  have e : us (us (us Z 5 N L) 7 N h) 8 N (nI 0) 9 = Z 9 := by rw [us_n (by decide), us_n (by decide), us_n (by decide)]
  rw [us_same (by rw [e]; exact hz), e]
theorem zN_01 {Z : CV} {N : Nat} {snd L h : Int32} : zN Z N snd L h 0 1 = Z 0 1 := by
  rw [zN, us_i, if_neg (by decide), us_n (by decide), us_n (by decide), us_n (by decide), us_n (by decide), us_n (by decide)]
theorem WB.xzN {Z : CV} {N B D : Nat} {snd L h : Int32} (hw : WB Z B D) (hz : Z 9 N = 0) : WB (zN Z N snd L h) B D := by
  have e : ∀ r, r ≠ 0 → r ≠ 5 → r ≠ 6 → r ≠ 7 → r ≠ 8 → r ≠ 9 → zN Z N snd L h r = Z r := fun r => zN_row
  exact hw.row (e 11 (by decide) (by decide) (by decide) (by decide) (by decide) (by decide)) zN_01 (fun c hc hb => by rw [e 10 (by decide) (by decide) (by decide) (by decide) (by decide) (by decide)] at hb; exact hb) (e 13 (by decide) (by decide) (by decide) (by decide) (by decide) (by decide)) (e 14 (by decide) (by decide) (by decide) (by decide) (by decide) (by decide)) (zN_9 hz)
/-! what holds of the courts behind t steps -/
def WK (K : KS) (t : Nat) : Prop := WB K.1.1 (200 * t) (99 * t) ∧ (K.2.2.2 0 ≠ 0 → WB K.2.1.1 (200 * t) (99 * t)) ∧ (K.2.2.2 1 ≠ 0 → WB K.2.2.1.1 (200 * t) (99 * t))
theorem WK.mono {K : KS} {t t1 : Nat} (h : WK K t) (ht : t ≤ t1) : WK K t1 := ⟨h.1.mono (by omega) (by omega), fun q => (h.2.1 q).mono (by omega) (by omega), fun q => (h.2.2 q).mono (by omega) (by omega)⟩
theorem WK.now {K : KS} {V : CV} {t : Nat} (h : WK K t) (hV : WB V (200 * (t + 1)) (99 * (t + 1))) : WK (gNow K V) (t + 1) := ⟨hV, (h.mono (Nat.le_succ t)).2⟩
theorem WK.set {K : KS} {s v : Int32} {t : Nat} (h : WK K t) : WK (gSet K s v) (t + 1) := by
  have h' := h.mono (Nat.le_succ t)
  rw [gSet]; split
  · exact h.now (h'.1.row (us_n (by decide)) (by rw [Nset, us_n (by decide)]) (fun c hc hb => by rw [Nset, us_n (by decide)] at hb; exact hb) (us_n (by decide)) (us_n (by decide)) (us_n (by decide)))
  · exact h'
theorem WK.hon {K : KS} {x v : Int32} {t : Nat} (h : WK K t) : WK (gHon K x v) (t + 1) := by
  have h' := h.mono (Nat.le_succ t)
  rw [gHon]; split
  · exact h.now (h'.1.row (us_n (by decide)) (by rw [Nhon, us_n (by decide)]) (fun c hc hb => by rw [Nhon, us_n (by decide)] at hb; exact hb) (us_n (by decide)) (us_n (by decide)) (us_n (by decide)))
  · exact h'
theorem WK.wit {K : KS} {x : Int32} {t : Nat} (h : WK K t) : WK (gWit K x) (t + 1) := by
  have h' := h.mono (Nat.le_succ t)
  rw [gWit]; split
  · exact h.now h'.1.wit
  · exact h'
theorem WK.str {K : KS} {c t : Nat} (h : WK K t) (hc : c < 12) : WK (gStr K (nI c)) (t + 1) := by
  have h' := h.mono (Nat.le_succ t)
  rw [gStr]; split
  · exact h.now ((h.1.strip hc).mono (by omega) (by omega))
  · exact h'
theorem WK.iss {K : KS} {t : Nat} (h : WK K t) : WK (gIss K) (t + 1) := by
  have h' := h.mono (Nat.le_succ t)
  have e : ∀ r, r ≠ 0 → r ≠ 16 → dm K.1.1 r = K.1.1 r := fun r r1 r2 => by rw [dm, uc_n r2, us_n r1]
  exact h.now (h'.1.row (e 11 (by decide) (by decide)) (by rw [dm, uc_n (by decide), us_i, if_neg (by decide)]) (fun c hc hb => by rw [e 10 (by decide) (by decide)] at hb; exact hb) (e 13 (by decide) (by decide)) (e 14 (by decide) (by decide)) (e 9 (by decide) (by decide)))
theorem WK.giv {K : KS} {n c t : Nat} (h : WK K t) (hn : n ≤ 20) (hc : c < 12) : WK (gGiv K (nI n) (nI c)) (t + 1) := by
  have h' := h.mono (Nat.le_succ t)
  rw [gGiv]; split
  · rename_i hE
    have h2 := hE.1.1.ix.2
    rw [ix_n (by omega)] at h2
    have := h.1.xpl (n := n) (c := c) h2 hc
    rw [Ngiv, ix_n (by omega), ix_n (by omega)]
    exact h.now (this.mono (by omega) (by omega))
  · exact h'
theorem WK.pas {K : KS} {d t : Nat} (h : WK K t) (hd : d ≤ 99) (hN : K.1.2 ≤ 20) : WK (gPas K (nI d)) (t + 1) := by
  have h' := h.mono (Nat.le_succ t)
  rw [gPas]; split
  · have := h.1.xdys hN (a := aV K.1.1) (P := pV K.1.1) d
    rw [Npas, ix_n (by omega)]
    exact h.now (this.mono (by omega) (by omega))
  · exact h'
theorem WK.sav {K : KS} {i t : Nat} (h : WK K t) (hi : i < 2) : WK (gSav K i) (t + 1) := by
  have h' := h.mono (Nat.le_succ t)
  rcases (show i = 0 ∨ i = 1 by omega) with rfl | rfl
  · exact ⟨h'.1, fun _ => h'.1, fun q => h'.2.2 q⟩
  · exact ⟨h'.1, fun q => h'.2.1 q, fun _ => h'.1⟩
theorem WK.res {K : KS} {i t : Nat} (h : WK K t) (hi : i < 2) : WK (gRes K i) (t + 1) := by
  have h' := h.mono (Nat.le_succ t)
  rw [gRes]; split
  · exact h'
  · rename_i q
    rcases (show i = 0 ∨ i = 1 by omega) with rfl | rfl
    · exact ⟨h'.2.1 q, h'.2⟩
    · exact ⟨h'.2.2 q, h'.2⟩
