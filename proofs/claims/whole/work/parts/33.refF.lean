theorem ft_end {f : Nat → Int32} {pl : Nat} (hp : 0 < pl) (h3 : lw (acf f) pl = pl) (h4 : ltn f pl = 0) : ftS f pl = -6 := by
  rw [ftS, h3, if_neg (Nat.lt_irrefl _), if_neg]
  rw [h4]
  omega
set_option maxHeartbeats 4000000 in
set_option maxRecDepth 100000 in
theorem kX2_fault (l : Launch) (D : va_G) (ad : Nat → Nat → Nat) (cs : Nat → ClassId) (A : Nat → Prop) (z : Nat → Nat) (μ : Mm) (M : CV) (f : Nat → Int32) (h7f : M 7 = f) (pl : Nat) (hpl : M 0 7 = nI pl) (hpl60 : pl ≤ 60) : KI l D ad cs A z yX2_fault wsX2_fault (rm 3 68) [.ref (ad 11 0)] (mb μ 11 M) (fun r μ1 => ∃ M1, μ1 = mb μ 11 M1 ∧ r = ftS f pl ∧ FO M M1 ∧ (ftS f pl = -6 → NR M1 f pl ∧ M1 0 12 = nI (dgn f pl))) := by
  refine KI_of (cc := cX2_fault) (maxL := 2) (ret := (some .int)) (by decide) rfl (Nat.le_of_ble_eq_true rfl) ?_
  intro p e s m args below meth c hr hlk X
  show J p l e _ s m args below meth c 0 0 _ 2 D ad cs A 0 [(0, .ref (ad 11 0))] [] (mb μ 11 M)
  have hinX2 : ∀ w ∈ wsX20, w ∈ wsX2_fault := by decide +kernel
  have k166 : (Cond.fieldLink RX2 166 "PunCourtsModel" "spot" "I").before args s = true := X.1.2.2.2.2 _ (by decide +kernel)
  have k175 : (Cond.fieldLink RX2 175 "PunCourtsModel" "read" "I").before args s = true := X.1.2.2.2.2 _ (by decide +kernel)
  have k140 : (Cond.fieldLink RX2 140 "PunCourtsModel" "textLong" "I").before args s = true := X.1.2.2.2.2 _ (by decide +kernel)
  refine j_aload_n (q := 0) X dX2_fault_0 rfl rfl ?_
  refine j_iconst (v := (nI 0)) X dX2_fault_1 (by decide) ?_
  refine j_putRB (ty := .int) X oR hinX2 8 (by decide) (fun _ => rfl) rfl rfl rfl rfl (Nat.le_of_ble_eq_true rfl) k166 dX2_fault_2 ?_
  refine j_nm (fun W2 eW2 => ?_)
  refine j_aload_n (q := 0) X dX2_fault_5 rfl rfl ?_
  refine j_iconst (v := (nI 0)) X dX2_fault_6 (by decide) ?_
  refine j_putRB (ty := .int) X oR hinX2 12 (by decide) (fun _ => rfl) rfl rfl rfl rfl (Nat.le_of_ble_eq_true rfl) k175 dX2_fault_7 ?_
  refine j_nm (fun W7 eW7 => ?_)
  refine j_iconst (v := (nI 1)) X dX2_fault_10 (by decide) ?_
  refine j_istore_n (lv' := [(1, .int (nI 1)), (0, .ref (ad 11 0))]) X dX2_fault_11 rfl (by decide) rfl ?_
  refine jl3 (G := J p l e _ s m args below meth c 0 0 _ _ D ad cs A) (pc := 12) (fun (st : Nat) (fl : Nat) (M2 : CV) => [(1, .int (nI fl)), (0, .ref (ad 11 0))]) (fun (st : Nat) (fl : Nat) (M2 : CV) => (mb μ 11 M2)) (fun (st : Nat) (fl : Nat) (M2 : CV) => FO M M2 ∧ FS M2 f pl st ∧ ((fl = 1 ∧ (st < pl ∨ pl = 0)) ∨ (fl = 0 ∧ st = pl ∧ 0 < pl))) (fun (st : Nat) (fl : Nat) (M2 : CV) => 60 - st) ?_ 0 1 W7 ⟨(show FO M W2 by rw [eW2]; exact FO.s0 (Or.inl rfl)).tr (show FO W2 W7 by rw [eW7]; exact FO.s0 (Or.inr rfl)), ⟨by rw [eW7, us_i, if_neg (by decide), eW2, us_s], by rw [eW7, us_s]; rfl, rfl, rfl, rfl, fun k hk => absurd hk (Nat.not_lt_zero _), by omega⟩, Or.inl ⟨rfl, by omega⟩⟩
  intro st fl M2 hI12 ih12
  try dsimp only at ih12 ⊢
  obtain ⟨hfo, hfs, hfl⟩ := hI12
  have m7 : M2 7 = f := (hfo.1 7 (by decide) (by decide) (by decide) (by decide)).trans h7f
  have mpl : M2 0 7 = nI pl := (hfo.2 7 (by decide) (by decide)).trans hpl
  refine j_iload_n (q := 0) X dX2_fault_12 rfl rfl ?_
  refine j_if_eq (tgt := 48) X dX2_fault_13 (by decide) (fun c13 => ?_) (fun c13 => ?_)
  · skip
    have hz : st = pl ∧ 0 < pl := hfl.elim (fun q => by rw [q.1] at c13; exact absurd c13 (by decide)) (fun q => q.2)
    rw [hz.1] at hfs
    have he := ft_end hz.2 hfs.2.2.1 hfs.2.2.2.1
    refine j_bipush (v := (-6)) X dX2_fault_48 (by decide) ?_
    exact j_iret X hr hlk ⟨M2, rfl, he.symm, hfo, fun _ => ⟨hfs.2.2.2.2.2.1, hfs.2.1⟩⟩ dX2_fault_50
  · skip
    have hst : st < pl ∨ pl = 0 := hfl.elim (fun q => q.2) (fun q => absurd (by rw [q.1]; rfl) c13)
    refine j_aload_n (q := 1) X dX2_fault_16 rfl rfl ?_
    refine j_callVi (As := []) X (kX2_readsName l D ad cs A z μ M2 f m7 pl st mpl hpl60 hfs hst) oR rfl (cwV 0 X.1.2.2.2.2 gX2_fault_X2_readsName rfl rfl rfl (by decide +kernel) ⟨Nat.le_of_ble_eq_true rfl, Nat.le_of_ble_eq_true rfl⟩) rfl rfl (Nat.le_of_ble_eq_true rfl) dX2_fault_17 (fun r17 μ17 h17 => ?_)
    obtain ⟨M3, rfl, hfo3, hres⟩ := h17
    have mpl3 : M3 0 7 = nI pl := (hfo3.2 7 (by decide) (by decide)).trans mpl
    refine j_if_ne (tgt := 28) X dX2_fault_20 (by decide) (fun c20 => ?_) (fun c20 => ?_)
    · skip
      obtain ⟨st1, hst1, hfs1⟩ := (hres.resolve_left (fun q => c20 q.1)).2
      have hle1 := hfs1.2.2.2.2.2.2
      refine j_aload_n (q := 1) X dX2_fault_28 rfl rfl ?_
      refine j_getRB X oR hinX2 8 (by decide) rfl k166 dX2_fault_29 ?_
      rw [hfs1.1]
      refine j_aload_n (q := 1) X dX2_fault_32 rfl rfl ?_
      refine j_getRB X oR hinX2 7 (by decide) rfl k140 dX2_fault_33 ?_
      rw [mpl3]
      refine j_ncmp_ge (tgt := 43) X st1 pl dX2_fault_36 (by decide) rfl rfl (by omega) (by omega) (fun c36 => ?_) (fun c36 => ?_)
      · skip
        refine j_iconst (v := (nI 0)) X dX2_fault_43 (by decide) ?_
        refine j_istore_n (lv' := [(1, .int (nI 0)), (0, .ref (ad 11 0))]) X dX2_fault_44 rfl (by decide) rfl ?_
        refine j_goto (tgt := 12) X dX2_fault_45 (by decide) ?_
        exact ih12 st1 0 M3 ⟨hfo.tr hfo3, hfs1, Or.inr ⟨rfl, by omega, by omega⟩⟩ (by omega)
      · skip
        refine j_iconst (v := (nI 1)) X dX2_fault_39 (by decide) ?_
        refine j_goto (tgt := 44) X dX2_fault_40 (by decide) ?_
        refine j_istore_n (lv' := [(1, .int (nI 1)), (0, .ref (ad 11 0))]) X dX2_fault_44 rfl (by decide) rfl ?_
        refine j_goto (tgt := 12) X dX2_fault_45 (by decide) ?_
        exact ih12 st1 1 M3 ⟨hfo.tr hfo3, hfs1, Or.inl ⟨rfl, Or.inl (by omega)⟩⟩ (by omega)
    · skip
      obtain ⟨sp, hs60, hsp2, hft⟩ := (hres.resolve_right (fun q => absurd (Classical.not_not.mp c20) (by rw [q.1]; decide))).2
      refine j_aload_n (q := 1) X dX2_fault_23 rfl rfl ?_
      refine j_getRB X oR hinX2 8 (by decide) rfl k166 dX2_fault_24 ?_
      rw [hsp2]
      exact j_iret X hr hlk ⟨M3, rfl, hft.symm, hfo.tr hfo3, fun q => absurd (hft.symm.trans q) (n6 (by omega))⟩ dX2_fault_27
theorem slot01 {x : Int32} : (0 ≤ x ∧ x < nI 2) ↔ (x = 0 ∨ x = nI 1) := by
  constructor
  · intro h
    obtain ⟨j, hj, rfl⟩ := in_n h.1 h.2 (by decide)
    rcases (show j = 0 ∨ j = 1 by omega) with rfl | rfl
    · exact Or.inl rfl
    · exact Or.inr rfl
  · rintro (rfl | rfl) <;> decide
theorem rdW_9 {V : CV} {f : Nat → Int32} {N m : Nat} (h : V 9 m = 0) : ∀ k, rdW V f N k 9 m = 0
  | 0 => h
  | k + 1 => by
    rw [rdW]
    split
    · rw [apS_9]
      split
      · rfl
      · exact rdW_9 h k
    · exact rdW_9 h k
theorem RM.und {M V : CV} {N g : Nat} {hc : Nat → CV} {nh : Nat → Nat} {s0 s1 : CV} {n0 n1 : Nat} {u : Nat → Int32} {pl : Nat} {pd : Nat → Int32} (q : RM M V N (g + 1) hc nh s0 s1 n0 n1 u pl pd) : RM (rco (us M 0 3 (nI g)) 1 3 (322 * g) 322) (hc g) (nh g) g hc nh s0 s1 n0 n1 u pl pd := by
  obtain ⟨⟨a1, a2⟩, ⟨b1, b2, b3⟩, d, e1, e2, e3⟩ := q
  have e : ∀ r, r ≠ 0 → r ≠ 1 → rco (us M 0 3 (nI g)) 1 3 (322 * g) 322 r = M r := fun r h0 h1 => by rw [rco, uc_n h1, us_n h0]
  have hg := b3 g (by omega)
  unfold RM
  rw [e 3 (by decide) (by decide), e 5 (by decide) (by decide), e 6 (by decide) (by decide), e 7 (by decide) (by decide)]
  refine ⟨⟨hg.2.cong hg.1 (fun k hk => by rw [rco, uc_s, if_pos hk, us_n (by decide)]), hg.1⟩, ⟨by rw [rco, uc_n (by decide), us_s], by omega, fun j hj => b3 j (by omega)⟩, d, ?_, e2, e3⟩
  rw [rco, uc_n (by decide), us_i, if_neg (by decide)]; exact e1
theorem RM.sav {M V : CV} {N h : Nat} {hc : Nat → CV} {nh : Nat → Nat} {s0 s1 : CV} {n0 n1 : Nat} {u : Nat → Int32} {pl : Nat} {pd : Nat → Int32} (q : RM M V N h hc nh s0 s1 n0 n1 u pl pd) {k : Nat} (hk : k < 2) : RM (us (rci M 5 1 (322 * k) 322) 6 k (nI 1)) V N h hc nh (if k = 0 then V else s0) (if k = 1 then V else s1) (if k = 0 then N else n0) (if k = 1 then N else n1) (upd u k (nI 1)) pl pd := by
  obtain ⟨⟨a1, a2⟩, b, ⟨⟨d1, d2, d3, d4⟩, d5, d6⟩, e⟩ := q
  have er : ∀ r, r ≠ 5 → r ≠ 6 → us (rci M 5 1 (322 * k) 322) 6 k (nI 1) r = M r := fun r h5 h6 => by rw [us_n h6, rci, uc_n h5]
  have r5 : ∀ j, us (rci M 5 1 (322 * k) 322) 6 k (nI 1) 5 j = if 322 * k ≤ j ∧ j < 322 * k + 322 then M 1 (j - 322 * k) else M 5 j := fun j => by rw [us_n (by decide), rci, uc_s]
  have r6 : ∀ j, us (rci M 5 1 (322 * k) 322) 6 k (nI 1) 6 j = if j = k then nI 1 else M 6 j := fun j => by rw [us_i, rci, uc_n (by decide)]
  have ru : ∀ j, upd u k (nI 1) j = if j = k then nI 1 else u j := fun j => rfl
  have hs : Rw V N (fun j => us (rci M 5 1 (322 * k) 322) 6 k (nI 1) 5 (322 * k + j)) := a1.cong a2 (fun j hj => by
    show us (rci M 5 1 (322 * k) 322) 6 k (nI 1) 5 (322 * k + j) = M 1 j
    rw [r5, if_pos (by omega), show 322 * k + j - 322 * k = j by omega])
  unfold RM
  rw [er 0 (by decide) (by decide), er 1 (by decide) (by decide), er 3 (by decide) (by decide), er 7 (by decide) (by decide)]
  rcases (show k = 0 ∨ k = 1 by omega) with rfl | rfl
  · refine ⟨⟨a1, a2⟩, b, ⟨⟨by rw [r6, ru, if_pos rfl, if_pos rfl], by rw [r6, ru, if_neg (by decide), if_neg (by decide)]; exact d2, by rw [if_pos rfl]; exact a2, by rw [if_neg (by decide)]; exact d4⟩, fun _ => by rw [if_pos rfl, if_pos rfl]; exact hs, fun hu => ?_⟩, e⟩
    rw [ru, if_neg (by decide)] at hu
    rw [if_neg (by decide), if_neg (by decide)]
    exact (d6 hu).cong d4 (fun j hj => by
      show us (rci M 5 1 (322 * 0) 322) 6 0 (nI 1) 5 (322 * 1 + j) = M 5 (322 * 1 + j)
      rw [r5, if_neg (by omega)])
  · refine ⟨⟨a1, a2⟩, b, ⟨⟨by rw [r6, ru, if_neg (by decide), if_neg (by decide)]; exact d1, by rw [r6, ru, if_pos rfl, if_pos rfl], by rw [if_neg (by decide)]; exact d3, by rw [if_pos rfl]; exact a2⟩, fun hu => ?_, fun _ => by rw [if_pos rfl, if_pos rfl]; exact hs⟩, e⟩
    rw [ru, if_neg (by decide)] at hu
    rw [if_neg (by decide), if_neg (by decide)]
    exact (d5 hu).cong d3 (fun j hj => by
      show us (rci M 5 1 (322 * 1) 322) 6 1 (nI 1) 5 (322 * 0 + j) = M 5 (322 * 0 + j)
      rw [r5, if_neg (by omega)])
theorem RM.slot {M V : CV} {N h : Nat} {hc : Nat → CV} {nh : Nat → Nat} {s0 s1 : CV} {n0 n1 : Nat} {u : Nat → Int32} {pl : Nat} {pd : Nat → Int32} (q : RM M V N h hc nh s0 s1 n0 n1 u pl pd) {k : Nat} (hk : k < 2) (hu : u k ≠ 0) : Rw (if k = 0 then s0 else s1) (if k = 0 then n0 else n1) (fun j => M 5 (322 * k + j)) ∧ (if k = 0 then n0 else n1) ≤ 20 := by
  obtain ⟨-, -, ⟨⟨d1, d2, d3, d4⟩, d5, d6⟩, -⟩ := q
  rcases (show k = 0 ∨ k = 1 by omega) with rfl | rfl
  · rw [if_pos rfl, if_pos rfl]; exact ⟨d5 hu, d3⟩
  · rw [if_neg (by decide), if_neg (by decide)]; exact ⟨d6 hu, d4⟩
theorem RM.used {M V : CV} {N h : Nat} {hc : Nat → CV} {nh : Nat → Nat} {s0 s1 : CV} {n0 n1 : Nat} {u : Nat → Int32} {pl : Nat} {pd : Nat → Int32} (q : RM M V N h hc nh s0 s1 n0 n1 u pl pd) {k : Nat} (hk : k < 2) : M 6 k = u k := by
  obtain ⟨-, -, ⟨⟨d1, d2, -⟩, -⟩, -⟩ := q
  rcases (show k = 0 ∨ k = 1 by omega) with rfl | rfl
  · exact d1
  · exact d2
set_option maxHeartbeats 4000000 in
set_option maxRecDepth 100000 in
theorem kX2_isSlot (l : Launch) (D : va_G) (ad : Nat → Nat → Nat) (cs : Nat → ClassId) (A : Nat → Prop) (z : Nat → Nat) (μ : Mm) (M : CV) (x : Int32) : KI l D ad cs A z yX2_isSlot wsX2_isSlot (rm 0 0) [.int x] (mb μ 11 M) (fun r μ1 => bP r (0 ≤ x ∧ x < nI 2) ∧ μ1 = mb μ 11 M) := by
  refine KI_of (cc := cX2_isSlot) (maxL := 1) (ret := (some .boolean)) (by decide) rfl (Nat.le_of_ble_eq_true rfl) ?_
  intro p e s m args below meth c hr hlk X
  show J p l e _ s m args below meth c 0 0 _ 1 D ad cs A 0 [(0, .int x)] [] (mb μ 11 M)
  refine j_iload_n (q := 0) X dX2_isSlot_0 rfl rfl ?_
  refine j_if_eq (tgt := 9) X dX2_isSlot_1 (by decide) (fun c1 => ?_) (fun c1 => ?_)
  · skip
    have hh : 0 ≤ x ∧ x < nI 2 := slot01.mpr (Or.inl c1)
    refine j_iconst (v := (nI 1)) X dX2_isSlot_9 (by decide) ?_
    refine j_goto (tgt := 14) X dX2_isSlot_10 (by decide) ?_
    exact j_zret X hr hlk (by first | exact Or.inl rfl | exact Or.inr rfl) ⟨bP.yn hh, rfl⟩ dX2_isSlot_14
  · skip
    refine j_iload_n (q := 0) X dX2_isSlot_4 rfl rfl ?_
    refine j_iconst (v := (nI 1)) X dX2_isSlot_5 (by decide) ?_
    refine j_icmp_ne (tgt := 13) X dX2_isSlot_6 (by decide) (fun c6 => ?_) (fun c6 => ?_)
    · skip
      have hh : ¬ (0 ≤ x ∧ x < nI 2) := fun q => (slot01.mp q).elim c1 c6
      refine j_iconst (v := (nI 0)) X dX2_isSlot_13 (by decide) ?_
      exact j_zret X hr hlk (by first | exact Or.inl rfl | exact Or.inr rfl) ⟨bP.nn hh, rfl⟩ dX2_isSlot_14
    · skip
      have hh : 0 ≤ x ∧ x < nI 2 := slot01.mpr (Or.inr (Classical.not_not.mp c6))
      refine j_iconst (v := (nI 1)) X dX2_isSlot_9 (by decide) ?_
      refine j_goto (tgt := 14) X dX2_isSlot_10 (by decide) ?_
      exact j_zret X hr hlk (by first | exact Or.inl rfl | exact Or.inr rfl) ⟨bP.yn hh, rfl⟩ dX2_isSlot_14
set_option maxHeartbeats 4000000 in
set_option maxRecDepth 100000 in
theorem kX2_undo (l : Launch) (D : va_G) (ad : Nat → Nat → Nat) (cs : Nat → ClassId) (A : Nat → Prop) (z : Nat → Nat) (μ : Mm) (M : CV) (V : CV) (N h : Nat) (hc : Nat → CV) (nh : Nat → Nat) (s0 s1 : CV) (n0 n1 : Nat) (u : Nat → Int32) (pl : Nat) (pd : Nat → Int32) (hm : RM M V N h hc nh s0 s1 n0 n1 u pl pd) (hci : CI V N) : KI l D ad cs A z yX2_undo wsX2_undo (rm 0 0) [.ref (ad 11 0)] (mb μ 11 M) (fun r μ1 => ∃ M1, μ1 = mb μ 11 M1 ∧ ((h = 0 ∧ r = -5 ∧ M1 = M) ∨ ∃ g, h = g + 1 ∧ r = nI g ∧ RM M1 (hc g) (nh g) g hc nh s0 s1 n0 n1 u pl pd)) := by
  refine KI_of (cc := cX2_undo) (maxL := 2) (ret := (some .int)) (by decide) rfl (Nat.le_of_ble_eq_true rfl) ?_
  intro p e s m args below meth c hr hlk X
  show J p l e _ s m args below meth c 0 0 _ 2 D ad cs A 0 [(0, .ref (ad 11 0))] [] (mb μ 11 M)
  have hinX2 : ∀ w ∈ wsX20, w ∈ wsX2_undo := by decide +kernel
  have k37 : (Cond.fieldLink RX2 37 "PunCourtsModel" "historyLong" "I").before args s = true := X.1.2.2.2.2 _ (by decide +kernel)
  have k7 : (Cond.fieldLink RX2 7 "PunCourtsModel" "all" "[I").before args s = true := X.1.2.2.2.2 _ (by decide +kernel)
  have k16 : (Cond.fieldLink RX2 16 "PunCourtsModel" "history" "[I").before args s = true := X.1.2.2.2.2 _ (by decide +kernel)
  have hN := hci.1.1
  have hN20 := hci.1.2.1
  have hw := hm.1.1
  refine j_aload_n (q := 0) X dX2_undo_0 rfl rfl ?_
  refine j_getRB X oR hinX2 3 (by decide) rfl k37 dX2_undo_1 ?_
  rw [hm.2.1.1]
  refine j_if_ne (tgt := 10) X dX2_undo_4 (by decide) (fun c4 => ?_) (fun c4 => ?_)
  · skip
    have h1 : 1 ≤ h := by rcases Nat.eq_zero_or_pos h with q | q; (rw [q] at c4; exact absurd rfl c4); exact q
    obtain ⟨g, rfl⟩ : ∃ g, h = g + 1 := ⟨h - 1, by omega⟩
    have hg6 := hm.2.1.2.1
    refine j_aload_n (q := 0) X dX2_undo_10 rfl rfl ?_
    refine j_dup X dX2_undo_11 rfl ?_
    refine j_getRB X oR hinX2 3 (by decide) rfl k37 dX2_undo_12 ?_
    rw [hm.2.1.1]
    refine j_iconst (v := (nI 1)) X dX2_undo_15 (by decide) ?_
    refine j_isub (v := (nI g)) X dX2_undo_16 (by rw [pk_sub (by omega)]; rfl) ?_
    refine j_putRB (ty := .int) X oR hinX2 3 (by decide) (fun _ => rfl) rfl rfl rfl rfl (Nat.le_of_ble_eq_true rfl) k37 dX2_undo_17 ?_
    refine j_iconst (v := (nI 0)) X dX2_undo_20 (by decide) ?_
    refine j_istore_n (lv' := [(1, .int (nI 0)), (0, .ref (ad 11 0))]) X dX2_undo_21 rfl (by decide) rfl ?_
    refine jl2 (G := J p l e _ s m args below meth c 0 0 _ _ D ad cs A) (pc := 22) (fun (i : Nat) (M2 : CV) => [(1, .int (nI i)), (0, .ref (ad 11 0))]) (fun (i : Nat) (M2 : CV) => (mb μ 11 M2)) (fun (i : Nat) (M2 : CV) => i ≤ 322 ∧ M2 = rco (us M 0 3 (nI g)) 1 3 (322 * g) i) (fun (i : Nat) (M2 : CV) => 322 - i) ?_ 0 (us M 0 3 (nI g)) ⟨by omega, rco_0.symm⟩
    intro i M2 hI22 ih22
    try dsimp only at ih22 ⊢
    obtain ⟨hi, hM2⟩ := hI22
    have hg3 : M2 0 3 = nI g := by rw [hM2, rco, uc_n (by decide), us_s]
    refine j_iload_n (q := 0) X dX2_undo_22 rfl rfl ?_
    refine j_sipush (v := (nI 322)) X dX2_undo_23 (by decide) ?_
    refine j_ncmp_ge (tgt := 56) X i 322 dX2_undo_26 (by decide) rfl rfl (by omega) (by omega) (fun c26 => ?_) (fun c26 => ?_)
    · skip
      rw [show i = 322 by omega] at hM2
      refine j_aload_n (q := 1) X dX2_undo_56 rfl rfl ?_
      refine j_getRB X oR hinX2 3 (by decide) rfl k37 dX2_undo_57 ?_
      rw [hg3]
      exact j_iret X hr hlk ⟨_, rfl, Or.inr ⟨g, rfl, rfl, by rw [hM2]; exact hm.und⟩⟩ dX2_undo_60
    · skip
      refine j_aload_n (q := 1) X dX2_undo_29 rfl rfl ?_
      refine j_getRB X oR hinX2 0 (by decide) rfl k7 dX2_undo_30 ?_
      refine j_iload_n (q := 0) X dX2_undo_33 rfl rfl ?_
      refine j_aload_n (q := 1) X dX2_undo_34 rfl rfl ?_
      refine j_getRB X oR hinX2 2 (by decide) rfl k16 dX2_undo_35 ?_
      refine j_sipush (v := (nI 322)) X dX2_undo_38 (by decide) ?_
      refine j_aload_n (q := 1) X dX2_undo_41 rfl rfl ?_
      refine j_getRB X oR hinX2 3 (by decide) rfl k37 dX2_undo_42 ?_
      rw [hg3]
      refine j_imul (v := (nI (322 * g))) X dX2_undo_45 (pk_mul _ _) ?_
      refine j_iload_n (q := 0) X dX2_undo_46 rfl rfl ?_
      refine j_iadd (v := (nI ((322 * g) + i))) X dX2_undo_47 (nI_add _ _) ?_
      refine j_ialdB X aR_3 ((322 * g) + i) rfl (by omega) (by decide) dX2_undo_48 ?_
      refine j_iastB X aR_1 i rfl (by omega) (by decide) (by decide) dX2_undo_49 ?_
      refine j_iinc (q := 0) (v := (nI (i + 1))) (lv' := [(1, .int (nI (i + 1))), (0, .ref (ad 11 0))]) X dX2_undo_50 rfl (nI_1 _) (by decide) rfl ?_
      refine j_goto (tgt := 22) X dX2_undo_53 (by decide) ?_
      exact ih22 (i + 1) (us M2 1 i (M2 3 ((322 * g) + i))) ⟨by omega, by rw [hM2]; exact rco_s (by decide)⟩ (by omega)
  · skip
    have h0 : h = 0 := by rcases Nat.eq_zero_or_pos h with q | q; exact q; exact absurd (Classical.not_not.mp c4) (nI_ne0 q (by have := hm.2.1.2.1; omega))
    refine j_bipush (v := (-5)) X dX2_undo_7 (by decide) ?_
    exact j_iret X hr hlk ⟨M, rfl, Or.inl ⟨h0, rfl, rfl⟩⟩ dX2_undo_9
set_option maxHeartbeats 4000000 in
set_option maxRecDepth 100000 in
theorem kX2_save (l : Launch) (D : va_G) (ad : Nat → Nat → Nat) (cs : Nat → ClassId) (A : Nat → Prop) (z : Nat → Nat) (μ : Mm) (M : CV) (V : CV) (N h : Nat) (hc : Nat → CV) (nh : Nat → Nat) (s0 s1 : CV) (n0 n1 : Nat) (u : Nat → Int32) (pl : Nat) (pd : Nat → Int32) (hm : RM M V N h hc nh s0 s1 n0 n1 u pl pd) (hci : CI V N) (sx : Int32) : KI l D ad cs A z yX2_save wsX2_save (rm 1 20) [.ref (ad 11 0), .int sx] (mb μ 11 M) (fun r μ1 => ∃ M1, μ1 = mb μ 11 M1 ∧ ((¬ (0 ≤ sx ∧ sx < nI 2) ∧ r = -2 ∧ M1 = M) ∨ ∃ k, k < 2 ∧ sx = nI k ∧ r = V 0 1 ∧ RM M1 V N h hc nh (if k = 0 then V else s0) (if k = 1 then V else s1) (if k = 0 then N else n0) (if k = 1 then N else n1) (upd u k (nI 1)) pl pd)) := by
  refine KI_of (cc := cX2_save) (maxL := 3) (ret := (some .int)) (by decide) rfl (Nat.le_of_ble_eq_true rfl) ?_
  intro p e s m args below meth c hr hlk X
  show J p l e _ s m args below meth c 0 0 _ 3 D ad cs A 0 [(0, .ref (ad 11 0)), (1, .int sx)] [] (mb μ 11 M)
  have hinX2 : ∀ w ∈ wsX20, w ∈ wsX2_save := by decide +kernel
  have k22 : (Cond.fieldLink RX2 22 "PunCourtsModel" "isSaved" "[I").before args s = true := X.1.2.2.2.2 _ (by decide +kernel)
  have k7 : (Cond.fieldLink RX2 7 "PunCourtsModel" "all" "[I").before args s = true := X.1.2.2.2.2 _ (by decide +kernel)
  have k19 : (Cond.fieldLink RX2 19 "PunCourtsModel" "slots" "[I").before args s = true := X.1.2.2.2.2 _ (by decide +kernel)
  have hN := hci.1.1
  have hN20 := hci.1.2.1
  have hw := hm.1.1
  refine j_iload_n (q := 1) X dX2_save_0 rfl rfl ?_
  refine j_callSi (As := [.int sx]) X (kX2_isSlot l D ad cs A z μ M sx) (va_cwS 1 X.1.2.2.2.2 gX2_save_X2_isSlot rfl rfl rfl (by decide +kernel) ⟨Nat.le_of_ble_eq_true rfl, Nat.le_of_ble_eq_true rfl⟩) rfl rfl (Nat.le_of_ble_eq_true rfl) dX2_save_1 (fun r1 μ1 h1 => ?_)
  obtain ⟨h1, rfl⟩ := h1
  refine j_if_ne (tgt := 10) X dX2_save_4 (by decide) (fun c4 => ?_) (fun c4 => ?_)
  · skip
    have h1 := h1.nt c4
    have h10 := h1
    obtain ⟨k, hk, rfl⟩ := in_n h1.1 h1.2 (by decide)
    refine j_iconst (v := (nI 0)) X dX2_save_10 (by decide) ?_
    refine j_istore_n (lv' := [(2, .int (nI 0)), (0, .ref (ad 11 0)), (1, .int (nI k))]) X dX2_save_11 rfl (by decide) rfl ?_
    refine j_lv [0, 2, 1] rfl ?_
    refine jl2 (G := J p l e _ s m args below meth c 0 0 _ _ D ad cs A) (pc := 12) (fun (i : Nat) (M2 : CV) => [(2, .int (nI i)), (1, .int (nI k)), (0, .ref (ad 11 0))]) (fun (i : Nat) (M2 : CV) => (mb μ 11 M2)) (fun (i : Nat) (M2 : CV) => i ≤ 322 ∧ M2 = rci M 5 1 (322 * k) i) (fun (i : Nat) (M2 : CV) => 322 - i) ?_ 0 M ⟨by omega, rci_0.symm⟩
    intro i M2 hI12 ih12
    try dsimp only at ih12 ⊢
    obtain ⟨hi, hM2⟩ := hI12
    refine j_iload_n (q := 0) X dX2_save_12 rfl rfl ?_
    refine j_sipush (v := (nI 322)) X dX2_save_13 (by decide) ?_
    refine j_ncmp_ge (tgt := 43) X i 322 dX2_save_16 (by decide) rfl rfl (by omega) (by omega) (fun c16 => ?_) (fun c16 => ?_)
    · skip
      rw [show i = 322 by omega] at hM2
      refine j_aload_n (q := 2) X dX2_save_43 rfl rfl ?_
      refine j_getRB X oR hinX2 5 (by decide) rfl k22 dX2_save_44 ?_
      refine j_iload_n (q := 1) X dX2_save_47 rfl rfl ?_
      refine j_iconst (v := (nI 1)) X dX2_save_48 (by decide) ?_
      refine j_iastB X aR_6 k rfl (by omega) (by decide) (by decide) dX2_save_49 ?_
      refine j_aload_n (q := 2) X dX2_save_50 rfl rfl ?_
      refine j_getRB X oR hinX2 0 (by decide) rfl k7 dX2_save_51 ?_
      refine j_iconst (v := (nI 4)) X dX2_save_54 (by decide) ?_
      refine j_ialdB X aR_1 4 rfl (by decide) (by decide) dX2_save_55 ?_
      rw [show (us M2 6 k (nI 1)) 1 4 = V 0 1 from by rw [us_n (by decide), hM2, rci, uc_n (by decide)]; exact hw.dy]
      exact j_iret X hr hlk ⟨_, rfl, Or.inr ⟨k, hk, rfl, rfl, by rw [hM2]; exact hm.sav hk⟩⟩ dX2_save_56
    · skip
      refine j_aload_n (q := 2) X dX2_save_19 rfl rfl ?_
      refine j_getRB X oR hinX2 4 (by decide) rfl k19 dX2_save_20 ?_
      refine j_sipush (v := (nI 322)) X dX2_save_23 (by decide) ?_
      refine j_iload_n (q := 1) X dX2_save_26 rfl rfl ?_
      refine j_imul (v := (nI (322 * k))) X dX2_save_27 (pk_mul _ _) ?_
      refine j_iload_n (q := 0) X dX2_save_28 rfl rfl ?_
      refine j_iadd (v := (nI ((322 * k) + i))) X dX2_save_29 (nI_add _ _) ?_
      refine j_aload_n (q := 2) X dX2_save_30 rfl rfl ?_
      refine j_getRB X oR hinX2 0 (by decide) rfl k7 dX2_save_31 ?_
      refine j_iload_n (q := 0) X dX2_save_34 rfl rfl ?_
      refine j_ialdB X aR_1 i rfl (by omega) (by decide) dX2_save_35 ?_
      refine j_iastB X aR_5 ((322 * k) + i) rfl (by omega) (by decide) (by decide) dX2_save_36 ?_
      refine j_iinc (q := 0) (v := (nI (i + 1))) (lv' := [(2, .int (nI (i + 1))), (1, .int (nI k)), (0, .ref (ad 11 0))]) X dX2_save_37 rfl (nI_1 _) (by decide) rfl ?_
      refine j_goto (tgt := 12) X dX2_save_40 (by decide) ?_
      exact ih12 (i + 1) (us M2 5 ((322 * k) + i) (M2 1 i)) ⟨by omega, by rw [hM2]; exact rci_s (by decide)⟩ (by omega)
  · skip
    refine j_bipush (v := (-2)) X dX2_save_7 (by decide) ?_
    exact j_iret X hr hlk ⟨M, rfl, Or.inl ⟨h1.nf c4, rfl, rfl⟩⟩ dX2_save_9
set_option maxHeartbeats 4000000 in
set_option maxRecDepth 100000 in
theorem kX2_restore (l : Launch) (D : va_G) (ad : Nat → Nat → Nat) (cs : Nat → ClassId) (A : Nat → Prop) (z : Nat → Nat) (μ : Mm) (M : CV) (V : CV) (N h : Nat) (hc : Nat → CV) (nh : Nat → Nat) (s0 s1 : CV) (n0 n1 : Nat) (u : Nat → Int32) (pl : Nat) (pd : Nat → Int32) (hm : RM M V N h hc nh s0 s1 n0 n1 u pl pd) (hci : CI V N) (sx : Int32) : KI l D ad cs A z yX2_restore wsX2_restore (rm 1 21) [.ref (ad 11 0), .int sx] (mb μ 11 M) (fun r μ1 => ∃ M1, μ1 = mb μ 11 M1 ∧ ((¬ (0 ≤ sx ∧ sx < nI 2) ∧ r = -2 ∧ M1 = M) ∨ ∃ k, k < 2 ∧ sx = nI k ∧ ((u k = 0 ∧ r = -5 ∧ M1 = M) ∨ (u k ≠ 0 ∧ r = (if k = 0 then s0 else s1) 0 1 ∧ RM M1 (if k = 0 then s0 else s1) (if k = 0 then n0 else n1) (rech h) (recH hc h V) (recN nh h N) s0 s1 n0 n1 u pl pd)))) := by
  refine KI_of (cc := cX2_restore) (maxL := 3) (ret := (some .int)) (by decide) rfl (Nat.le_of_ble_eq_true rfl) ?_
  intro p e s m args below meth c hr hlk X
  show J p l e _ s m args below meth c 0 0 _ 3 D ad cs A 0 [(0, .ref (ad 11 0)), (1, .int sx)] [] (mb μ 11 M)
  have hinX2 : ∀ w ∈ wsX20, w ∈ wsX2_restore := by decide +kernel
  have k22 : (Cond.fieldLink RX2 22 "PunCourtsModel" "isSaved" "[I").before args s = true := X.1.2.2.2.2 _ (by decide +kernel)
  have k7 : (Cond.fieldLink RX2 7 "PunCourtsModel" "all" "[I").before args s = true := X.1.2.2.2.2 _ (by decide +kernel)
  have k19 : (Cond.fieldLink RX2 19 "PunCourtsModel" "slots" "[I").before args s = true := X.1.2.2.2.2 _ (by decide +kernel)
  have hN := hci.1.1
  have hN20 := hci.1.2.1
  have hw := hm.1.1
  refine j_iload_n (q := 1) X dX2_restore_0 rfl rfl ?_
  refine j_callSi (As := [.int sx]) X (kX2_isSlot l D ad cs A z μ M sx) (va_cwS 1 X.1.2.2.2.2 gX2_restore_X2_isSlot rfl rfl rfl (by decide +kernel) ⟨Nat.le_of_ble_eq_true rfl, Nat.le_of_ble_eq_true rfl⟩) rfl rfl (Nat.le_of_ble_eq_true rfl) dX2_restore_1 (fun r1 μ1 h1 => ?_)
  obtain ⟨h1, rfl⟩ := h1
  refine j_if_ne (tgt := 10) X dX2_restore_4 (by decide) (fun c4 => ?_) (fun c4 => ?_)
  · skip
    have h1 := h1.nt c4
    have h10 := h1
    obtain ⟨k, hk, rfl⟩ := in_n h1.1 h1.2 (by decide)
    refine j_aload_n (q := 0) X dX2_restore_10 rfl rfl ?_
    refine j_getRB X oR hinX2 5 (by decide) rfl k22 dX2_restore_11 ?_
    refine j_iload_n (q := 1) X dX2_restore_14 rfl rfl ?_
    refine j_ialdB X aR_6 k rfl (by omega) (by decide) dX2_restore_15 ?_
    rw [hm.used hk]
    refine j_if_ne (tgt := 22) X dX2_restore_16 (by decide) (fun c16 => ?_) (fun c16 => ?_)
    · skip
      have hsl := hm.slot hk c16
      refine j_aload_n (q := 0) X dX2_restore_22 rfl rfl ?_
      refine j_callVv (As := []) X (kX2_changes l D ad cs A z μ M h hm.2.1.1 hm.2.1.2.1) oR rfl (cwV 0 X.1.2.2.2.2 gX2_restore_X2_changes rfl rfl rfl (by decide +kernel) ⟨Nat.le_of_ble_eq_true rfl, Nat.le_of_ble_eq_true rfl⟩) rfl rfl (Nat.le_of_ble_eq_true rfl) dX2_restore_23 (fun μ23 h23 => ?_)
      obtain ⟨M1, rfl, hch⟩ := h23
      have hm1 := hm.chg hch
      have hw1 := hm1.1.1
      refine j_iconst (v := (nI 0)) X dX2_restore_26 (by decide) ?_
      refine j_istore_n (lv' := [(2, .int (nI 0)), (0, .ref (ad 11 0)), (1, .int (nI k))]) X dX2_restore_27 rfl (by decide) rfl ?_
      refine j_lv [0, 2, 1] rfl ?_
      refine jl2 (G := J p l e _ s m args below meth c 0 0 _ _ D ad cs A) (pc := 28) (fun (i : Nat) (M2 : CV) => [(2, .int (nI i)), (1, .int (nI k)), (0, .ref (ad 11 0))]) (fun (i : Nat) (M2 : CV) => (mb μ 11 M2)) (fun (i : Nat) (M2 : CV) => i ≤ 322 ∧ M2 = rco M1 1 5 (322 * k) i) (fun (i : Nat) (M2 : CV) => 322 - i) ?_ 0 M1 ⟨by omega, rco_0.symm⟩
      intro i M2 hI28 ih28
      try dsimp only at ih28 ⊢
      obtain ⟨hi, hM2⟩ := hI28
      refine j_iload_n (q := 0) X dX2_restore_28 rfl rfl ?_
      refine j_sipush (v := (nI 322)) X dX2_restore_29 (by decide) ?_
      refine j_ncmp_ge (tgt := 59) X i 322 dX2_restore_32 (by decide) rfl rfl (by omega) (by omega) (fun c32 => ?_) (fun c32 => ?_)
      · skip
        rw [show i = 322 by omega] at hM2
        have hrw : Rw (if k = 0 then s0 else s1) (if k = 0 then n0 else n1) (M2 1) := hsl.1.cong hsl.2 (fun j hj => by show M2 1 j = M 5 (322 * k + j); rw [hM2, rco, uc_s, if_pos hj, hch.2.1 5 (by decide) (by decide)])
        refine j_aload_n (q := 2) X dX2_restore_59 rfl rfl ?_
        refine j_getRB X oR hinX2 0 (by decide) rfl k7 dX2_restore_60 ?_
        refine j_iconst (v := (nI 4)) X dX2_restore_63 (by decide) ?_
        refine j_ialdB X aR_1 4 rfl (by decide) (by decide) dX2_restore_64 ?_
        rw [hrw.dy]
        exact j_iret X hr hlk ⟨M2, rfl, Or.inr ⟨k, hk, rfl, Or.inr ⟨c16, rfl, hm1.now hrw hsl.2 (fun r hr => by rw [hM2, rco, uc_n hr])⟩⟩⟩ dX2_restore_65
      · skip
        refine j_aload_n (q := 2) X dX2_restore_35 rfl rfl ?_
        refine j_getRB X oR hinX2 0 (by decide) rfl k7 dX2_restore_36 ?_
        refine j_iload_n (q := 0) X dX2_restore_39 rfl rfl ?_
        refine j_aload_n (q := 2) X dX2_restore_40 rfl rfl ?_
        refine j_getRB X oR hinX2 4 (by decide) rfl k19 dX2_restore_41 ?_
        refine j_sipush (v := (nI 322)) X dX2_restore_44 (by decide) ?_
        refine j_iload_n (q := 1) X dX2_restore_47 rfl rfl ?_
        refine j_imul (v := (nI (322 * k))) X dX2_restore_48 (pk_mul _ _) ?_
        refine j_iload_n (q := 0) X dX2_restore_49 rfl rfl ?_
        refine j_iadd (v := (nI ((322 * k) + i))) X dX2_restore_50 (nI_add _ _) ?_
        refine j_ialdB X aR_5 ((322 * k) + i) rfl (by omega) (by decide) dX2_restore_51 ?_
        refine j_iastB X aR_1 i rfl (by omega) (by decide) (by decide) dX2_restore_52 ?_
        refine j_iinc (q := 0) (v := (nI (i + 1))) (lv' := [(2, .int (nI (i + 1))), (1, .int (nI k)), (0, .ref (ad 11 0))]) X dX2_restore_53 rfl (nI_1 _) (by decide) rfl ?_
        refine j_goto (tgt := 28) X dX2_restore_56 (by decide) ?_
        exact ih28 (i + 1) (us M2 1 i (M2 5 ((322 * k) + i))) ⟨by omega, by rw [hM2]; exact rco_s (by decide)⟩ (by omega)
    · skip
      refine j_bipush (v := (-5)) X dX2_restore_19 (by decide) ?_
      exact j_iret X hr hlk ⟨M, rfl, Or.inr ⟨k, hk, rfl, Or.inl ⟨Classical.not_not.mp c16, rfl, rfl⟩⟩⟩ dX2_restore_21
  · skip
    refine j_bipush (v := (-2)) X dX2_restore_7 (by decide) ?_
    exact j_iret X hr hlk ⟨M, rfl, Or.inl ⟨h1.nf c4, rfl, rfl⟩⟩ dX2_restore_9
set_option maxHeartbeats 4000000 in
set_option maxRecDepth 100000 in
theorem kX2_read (l : Launch) (D : va_G) (ad : Nat → Nat → Nat) (cs : Nat → ClassId) (A : Nat → Prop) (z : Nat → Nat) (μ : Mm) (M : CV) (V : CV) (N h : Nat) (hc : Nat → CV) (nh : Nat → Nat) (s0 s1 : CV) (n0 n1 : Nat) (u : Nat → Int32) (pl : Nat) (pd : Nat → Int32) (hm : RM M V N h hc nh s0 s1 n0 n1 u pl pd) (hci : CI V N) : KI l D ad cs A z yX2_read wsX2_read (rm 4 89) [.ref (ad 11 0)] (mb μ 11 M) (fun r μ1 => ∃ M1, μ1 = mb μ 11 M1 ∧ r = Rrea N pd pl ∧ (Erea N pd pl → RM M1 (rdW V pd N pl) (N + dgn pd pl) (rech h) (recH hc h V) (recN nh h N) s0 s1 n0 n1 u 0 pd) ∧ (¬ Erea N pd pl → RM M1 V N h hc nh s0 s1 n0 n1 u pl pd)) := by
  refine KI_of (cc := cX2_read) (maxL := 4) (ret := (some .int)) (by decide) rfl (Nat.le_of_ble_eq_true rfl) ?_
  intro p e s m args below meth c hr hlk X
  show J p l e _ s m args below meth c 0 0 _ 4 D ad cs A 0 [(0, .ref (ad 11 0))] [] (mb μ 11 M)
  have hinX2 : ∀ w ∈ wsX20, w ∈ wsX2_read := by decide +kernel
  have k7 : (Cond.fieldLink RX2 7 "PunCourtsModel" "all" "[I").before args s = true := X.1.2.2.2.2 _ (by decide +kernel)
  have k175 : (Cond.fieldLink RX2 175 "PunCourtsModel" "read" "I").before args s = true := X.1.2.2.2.2 _ (by decide +kernel)
  have k140 : (Cond.fieldLink RX2 140 "PunCourtsModel" "textLong" "I").before args s = true := X.1.2.2.2.2 _ (by decide +kernel)
  have k34 : (Cond.fieldLink RX2 34 "PunCourtsModel" "honours" "[I").before args s = true := X.1.2.2.2.2 _ (by decide +kernel)
  have k31 : (Cond.fieldLink RX2 31 "PunCourtsModel" "lengths" "[I").before args s = true := X.1.2.2.2.2 _ (by decide +kernel)
  have k28 : (Cond.fieldLink RX2 28 "PunCourtsModel" "sounds" "[I").before args s = true := X.1.2.2.2.2 _ (by decide +kernel)
  have hN := hci.1.1
  have hN20 := hci.1.2.1
  have hw := hm.1.1
  have hpl := hm.2.2.2.1
  have hpl60 := hm.2.2.2.2.1
  have hdl := dgn_le pd pl
  refine j_aload_n (q := 0) X dX2_read_0 rfl rfl ?_
  refine j_callVi (As := []) X (kX2_fault l D ad cs A z μ M pd hm.2.2.2.2.2 pl hpl hpl60) oR rfl (cwV 0 X.1.2.2.2.2 gX2_read_X2_fault rfl rfl rfl (by decide +kernel) ⟨Nat.le_of_ble_eq_true rfl, Nat.le_of_ble_eq_true rfl⟩) rfl rfl (Nat.le_of_ble_eq_true rfl) dX2_read_1 (fun r1 μ1 h1 => ?_)
  obtain ⟨M1, rfl, h1, hfo, hnr⟩ := h1
  rw [h1]
  have hm1 : RM M1 V N h hc nh s0 s1 n0 n1 u pl pd := hm.oth (fun k _ => by rw [hfo.1 1 (by decide) (by decide) (by decide) (by decide)]) hfo.2 (fun k hk => hfo.1 k (by omega) (by omega) (by omega) (by omega))
  refine j_bipush (v := (-6)) X dX2_read_4 (by decide) ?_
  refine j_icmp_eq (tgt := 12) X dX2_read_6 (by decide) (fun c6 => ?_) (fun c6 => ?_)
  · skip
    refine j_aload_n (q := 0) X dX2_read_12 rfl rfl ?_
    refine j_getRB X oR hinX2 0 (by decide) rfl k7 dX2_read_13 ?_
    refine j_iconst (v := (nI 5)) X dX2_read_16 (by decide) ?_
    refine j_ialdB X aR_1 5 rfl (by decide) (by decide) dX2_read_17 ?_
    rw [hm1.1.1.nm, hN]
    refine j_aload_n (q := 0) X dX2_read_18 rfl rfl ?_
    refine j_getRB X oR hinX2 12 (by decide) rfl k175 dX2_read_19 ?_
    rw [(hnr c6).2]
    refine j_iadd (v := (nI (N + (dgn pd pl)))) X dX2_read_22 (nI_add _ _) ?_
    refine j_bipush (v := (nI 20)) X dX2_read_23 (by decide) ?_
    refine j_ncmp_le (tgt := 31) X (N + (dgn pd pl)) 20 dX2_read_25 (by decide) rfl rfl (by omega) (by omega) (fun c25 => ?_) (fun c25 => ?_)
    · skip
      have hE : Erea N pd pl := ⟨c6, c25⟩
      refine j_aload_n (q := 0) X dX2_read_31 rfl rfl ?_
      refine j_callVv (As := []) X (kX2_changes l D ad cs A z μ M1 h hm1.2.1.1 hm1.2.1.2.1) oR rfl (cwV 0 X.1.2.2.2.2 gX2_read_X2_changes rfl rfl rfl (by decide +kernel) ⟨Nat.le_of_ble_eq_true rfl, Nat.le_of_ble_eq_true rfl⟩) rfl rfl (Nat.le_of_ble_eq_true rfl) dX2_read_32 (fun μ32 h32 => ?_)
      obtain ⟨M2, rfl, hch⟩ := h32
      have hm2 := hm1.chg hch
      refine j_iconst (v := (nI 0)) X dX2_read_35 (by decide) ?_
      refine j_istore_n (lv' := [(1, .int (nI 0)), (0, .ref (ad 11 0))]) X dX2_read_36 rfl (by decide) rfl ?_
      refine jl2 (G := J p l e _ s m args below meth c 0 0 _ _ D ad cs A) (pc := 37) (fun (i : Nat) (M3 : CV) => [(1, .int (nI i)), (0, .ref (ad 11 0))]) (fun (i : Nat) (M3 : CV) => (mb μ 11 M3)) (fun (i : Nat) (M3 : CV) => i ≤ dgn pd pl ∧ (∀ k, k ≤ pl → dgn pd k = i → Rw (rdW V pd N k) (N + i) (M3 1)) ∧ ∀ k, k ≠ 1 → M3 k = M2 k) (fun (i : Nat) (M3 : CV) => dgn pd pl - i) ?_ 0 M2 ⟨by omega, fun k hk hd => by rw [rdW_eq (k := 0) hd]; exact hm2.1.1, fun _ _ => rfl⟩
      intro i M3 hI37 ih37
      try dsimp only at ih37 ⊢
      obtain ⟨hi, hR, hk3⟩ := hI37
      have q12 : M3 0 12 = nI (dgn pd pl) := by rw [hk3 0 (by decide), hch.2.2.1 12 (by decide)]; exact (hnr c6).2
      refine j_iload_n (q := 0) X dX2_read_37 rfl rfl ?_
      refine j_aload_n (q := 1) X dX2_read_38 rfl rfl ?_
      refine j_getRB X oR hinX2 12 (by decide) rfl k175 dX2_read_39 ?_
      rw [q12]
      refine j_ncmp_ge (tgt := 125) X i (dgn pd pl) dX2_read_42 (by decide) rfl rfl (by omega) (by omega) (fun c42 => ?_) (fun c42 => ?_)
      · skip
        have hRp := hR pl (Nat.le_refl _) (by omega)
        rw [show i = dgn pd pl by omega] at hRp
        refine j_aload_n (q := 1) X dX2_read_125 rfl rfl ?_
        refine j_iconst (v := (nI 0)) X dX2_read_126 (by decide) ?_
        refine j_putRB (ty := .int) X oR hinX2 7 (by decide) (fun _ => rfl) rfl rfl rfl rfl (Nat.le_of_ble_eq_true rfl) k140 dX2_read_127 ?_
        refine j_nm (fun W127 eW127 => ?_)
        refine j_aload_n (q := 1) X dX2_read_130 rfl rfl ?_
        refine j_getRB X oR hinX2 0 (by decide) rfl k7 dX2_read_131 ?_
        refine j_iconst (v := (nI 5)) X dX2_read_134 (by decide) ?_
        refine j_ialdB X aR_1 5 rfl (by decide) (by decide) dX2_read_135 ?_
        rw [show W127 1 5 = nI (N + dgn pd pl) from by rw [eW127, us_n (by decide), hRp.nm]; exact rdW_N hN pl]
        exact j_iret X hr hlk ⟨_, rfl, by rw [Rrea, if_neg (Classical.not_not.mpr c6), if_neg (by omega)], fun _ => by rw [eW127]; exact (hm2.now hRp c25 hk3).wip, fun q => absurd hE q⟩ dX2_read_136
      · skip
        obtain ⟨k, hk, hD, hdk⟩ := dig_ex pl (show i < dgn pd pl by omega)
        have hwk := hR k (by omega) hdk
        have hNk : rdW V pd N k 0 2 = nI (N + i) := by rw [rdW_N hN k, hdk]
        have hrc := (hnr c6).1 k hk hD
        rw [hdk] at hrc
        have h9 : rdW V pd N k 9 (N + i) = 0 := rdW_9 (hci.2.2.2.1.2.2.1 (N + i) (by omega) (by omega)) k
        refine j_aload_n (q := 1) X dX2_read_45 rfl rfl ?_
        refine j_getRB X oR hinX2 0 (by decide) rfl k7 dX2_read_46 ?_
        refine j_iconst (v := (nI 5)) X dX2_read_49 (by decide) ?_
        refine j_ialdB X aR_1 5 rfl (by decide) (by decide) dX2_read_50 ?_
        rw [hwk.nm, hNk]
        refine j_istore_n (lv' := [(2, .int (nI (N + i))), (1, .int (nI i)), (0, .ref (ad 11 0))]) X dX2_read_51 rfl (by decide) rfl ?_
        refine j_aload_n (q := 2) X dX2_read_52 rfl rfl ?_
        refine j_getRB X oR hinX2 0 (by decide) rfl k7 dX2_read_53 ?_
        refine j_iconst (v := (nI 5)) X dX2_read_56 (by decide) ?_
        refine j_dup2 X dX2_read_57 rfl rfl ?_
        refine j_ialdB X aR_1 5 rfl (by decide) (by decide) dX2_read_58 ?_
        rw [hwk.nm, hNk]
        refine j_iconst (v := (nI 1)) X dX2_read_59 (by decide) ?_
        refine j_iadd (v := (nI ((N + i) + 1))) X dX2_read_60 (nI_add _ _) ?_
        refine j_iastB X aR_1 5 rfl (by decide) (by decide) (by decide) dX2_read_61 ?_
        refine j_nm (fun W61 eW61 => ?_)
        refine j_iconst (v := (nI 0)) X dX2_read_62 (by decide) ?_
        refine j_istore_n (lv' := [(3, .int (nI 0)), (2, .int (nI (N + i))), (1, .int (nI i)), (0, .ref (ad 11 0))]) X dX2_read_63 rfl (by decide) rfl ?_
        refine jl2 (G := J p l e _ s m args below meth c 0 0 _ _ D ad cs A) (pc := 64) (fun (w : Nat) (M4 : CV) => [(3, .int (nI w)), (2, .int (nI (N + i))), (1, .int (nI i)), (0, .ref (ad 11 0))]) (fun (w : Nat) (M4 : CV) => (mb μ 11 M4)) (fun (w : Nat) (M4 : CV) => w ≤ 12 ∧ M4 = zr W61 (N + i) w) (fun (w : Nat) (M4 : CV) => 12 - w) ?_ 0 W61 ⟨by omega, zr_0.symm⟩
        intro w M4 hI64 ih64
        try dsimp only at ih64 ⊢
        obtain ⟨hw12, hM4⟩ := hI64
        refine j_iload_n (q := 0) X dX2_read_64 rfl rfl ?_
        refine j_bipush (v := (nI 12)) X dX2_read_65 (by decide) ?_
        refine j_ncmp_ge (tgt := 83) X w 12 dX2_read_67 (by decide) rfl rfl (by omega) (by omega) (fun c67 => ?_) (fun c67 => ?_)
        · skip
          rw [show w = 12 by omega] at hM4
          have rr : ∀ r, r ≠ 0 → r ≠ 1 → r ≠ 3 → M4 r = M1 r := fun r h0 h1 h3 => by rw [hM4, zr, uc_n h1, eW61, us_n h1, hk3 r h1, hch.2.1 r h0 h3]
          have r12 : M4 12 i = pd k - nI 48 := by rw [rr 12 (by decide) (by decide) (by decide)]; exact hrc.2.2
          have r11 : M4 11 i = nI (k - rst pd k) := by rw [rr 11 (by decide) (by decide) (by decide)]; exact hrc.2.1
          have r10 : M4 10 i = sdS (sgF pd (rst pd k)) (k - rst pd k) := by rw [rr 10 (by decide) (by decide) (by decide)]; exact hrc.1
          refine j_aload_n (q := 3) X dX2_read_83 rfl rfl ?_
          refine j_iload_n (q := 1) X dX2_read_84 rfl rfl ?_
          refine j_iconst (v := (nI 0)) X dX2_read_85 (by decide) ?_
          refine j_aload_n (q := 3) X dX2_read_86 rfl rfl ?_
          refine j_getRB X oR hinX2 11 (by decide) rfl k34 dX2_read_87 ?_
          refine j_iload_n (q := 2) X dX2_read_90 rfl rfl ?_
          refine j_ialdB X aR_12 i rfl (by omega) (by decide) dX2_read_91 ?_
          rw [r12]
          refine j_callVv (As := [.int (nI (N + i)), .int (nI 0), .int (pd k - nI 48)]) X (kX2_lays l D ad cs A z μ M4 (N + i) 0 (by omega) (by decide) (pd k - nI 48)) oR rfl (cwV 3 X.1.2.2.2.2 gX2_read_X2_lays rfl rfl rfl (by decide +kernel) ⟨Nat.le_of_ble_eq_true rfl, Nat.le_of_ble_eq_true rfl⟩) rfl rfl (Nat.le_of_ble_eq_true rfl) dX2_read_92 (fun μ92 h92 => ?_)
          subst h92
          refine j_nm (fun W92 eW92 => ?_)
          refine j_aload_n (q := 3) X dX2_read_95 rfl rfl ?_
          refine j_iload_n (q := 1) X dX2_read_96 rfl rfl ?_
          refine j_iconst (v := (nI 3)) X dX2_read_97 (by decide) ?_
          refine j_aload_n (q := 3) X dX2_read_98 rfl rfl ?_
          refine j_getRB X oR hinX2 10 (by decide) rfl k31 dX2_read_99 ?_
          refine j_iload_n (q := 2) X dX2_read_102 rfl rfl ?_
          refine j_ialdB X aR_11 i rfl (by omega) (by decide) dX2_read_103 ?_
          rw [show W92 11 i = nI (k - rst pd k) from by rw [eW92, us_n (by decide)]; exact r11]
          refine j_callVv (As := [.int (nI (N + i)), .int (nI 3), .int (nI (k - rst pd k))]) X (kX2_lays l D ad cs A z μ W92 (N + i) 3 (by omega) (by decide) (nI (k - rst pd k))) oR rfl (cwV 3 X.1.2.2.2.2 gX2_read_X2_lays rfl rfl rfl (by decide +kernel) ⟨Nat.le_of_ble_eq_true rfl, Nat.le_of_ble_eq_true rfl⟩) rfl rfl (Nat.le_of_ble_eq_true rfl) dX2_read_104 (fun μ104 h104 => ?_)
          subst h104
          refine j_nm (fun W104 eW104 => ?_)
          refine j_aload_n (q := 3) X dX2_read_107 rfl rfl ?_
          refine j_iload_n (q := 1) X dX2_read_108 rfl rfl ?_
          refine j_iconst (v := (nI 4)) X dX2_read_109 (by decide) ?_
          refine j_aload_n (q := 3) X dX2_read_110 rfl rfl ?_
          refine j_getRB X oR hinX2 9 (by decide) rfl k28 dX2_read_111 ?_
          refine j_iload_n (q := 2) X dX2_read_114 rfl rfl ?_
          refine j_ialdB X aR_10 i rfl (by omega) (by decide) dX2_read_115 ?_
          rw [show W104 10 i = sdS (sgF pd (rst pd k)) (k - rst pd k) from by rw [eW104, us_n (by decide), eW92, us_n (by decide)]; exact r10]
          refine j_callVv (As := [.int (nI (N + i)), .int (nI 4), .int (sdS (sgF pd (rst pd k)) (k - rst pd k))]) X (kX2_lays l D ad cs A z μ W104 (N + i) 4 (by omega) (by decide) (sdS (sgF pd (rst pd k)) (k - rst pd k))) oR rfl (cwV 3 X.1.2.2.2.2 gX2_read_X2_lays rfl rfl rfl (by decide +kernel) ⟨Nat.le_of_ble_eq_true rfl, Nat.le_of_ble_eq_true rfl⟩) rfl rfl (Nat.le_of_ble_eq_true rfl) dX2_read_116 (fun μ116 h116 => ?_)
          subst h116
          refine j_nm (fun W116 eW116 => ?_)
          refine j_iinc (q := 2) (v := (nI (i + 1))) (lv' := [(1, .int (nI (i + 1))), (3, .int (nI w)), (2, .int (nI (N + i))), (0, .ref (ad 11 0))]) X dX2_read_119 rfl (nI_1 _) (by decide) rfl ?_
          refine j_goto (tgt := 37) X dX2_read_122 (by decide) ?_
          refine j_lv (lv1 := [(1, .int (nI (i + 1))), (0, .ref (ad 11 0))]) [0, 3] rfl ?_
          have hat : ∀ j, W116 1 j = if j = 9 + 12 * (N + i) + 4 then sdS (sgF pd (rst pd k)) (k - rst pd k) else if j = 9 + 12 * (N + i) + 3 then nI (k - rst pd k) else if j = 9 + 12 * (N + i) + 0 then pd k - nI 48 else if 9 + 12 * (N + i) ≤ j ∧ j < 9 + 12 * (N + i) + 12 then nI 0 else if j = 5 then nI (N + i + 1) else M3 1 j := fun j => by rw [eW116, us_i, eW104, us_i, eW92, us_i, hM4, zr, uc_s, eW61, us_i]
          exact ih37 (i + 1) W116 ⟨by omega, fun m hm3 hdm => by rw [rdW_eq (k := k + 1) (by rw [hdm, dgn, if_pos hD, hdk]), rdW, if_pos hD, hdk]; exact Rw_ap hwk (by omega) h9 (by rw [hat, if_neg (by omega), if_neg (by omega), if_neg (by omega), if_neg (by omega), if_pos rfl]) (by rw [hat, if_neg (by omega), if_neg (by omega), if_pos rfl]) (by rw [hat, if_neg (by omega), if_neg (by omega), if_neg (by omega), if_pos (by omega)]) (by rw [hat, if_neg (by omega), if_neg (by omega), if_neg (by omega), if_pos (by omega)]) (by rw [hat, if_neg (by omega), if_pos rfl]) (by rw [hat, if_pos rfl]) (fun j hj hj2 => by rw [hat, if_neg (by omega), if_neg (by omega), if_neg (by omega), if_neg (by omega), if_neg (by omega)]), fun r hr => by rw [eW116, us_n hr, eW104, us_n hr, eW92, us_n hr, hM4, zr, uc_n hr, eW61, us_n hr]; exact hk3 r hr⟩ (by omega)
        · skip
          refine j_aload_n (q := 3) X dX2_read_70 rfl rfl ?_
          refine j_iload_n (q := 1) X dX2_read_71 rfl rfl ?_
          refine j_iload_n (q := 0) X dX2_read_72 rfl rfl ?_
          refine j_iconst (v := (nI 0)) X dX2_read_73 (by decide) ?_
          refine j_callVv (As := [.int (nI (N + i)), .int (nI w), .int (nI 0)]) X (kX2_lays l D ad cs A z μ M4 (N + i) w (by omega) (by omega) (nI 0)) oR rfl (cwV 3 X.1.2.2.2.2 gX2_read_X2_lays rfl rfl rfl (by decide +kernel) ⟨Nat.le_of_ble_eq_true rfl, Nat.le_of_ble_eq_true rfl⟩) rfl rfl (Nat.le_of_ble_eq_true rfl) dX2_read_74 (fun μ74 h74 => ?_)
          subst h74
          refine j_iinc (q := 0) (v := (nI (w + 1))) (lv' := [(3, .int (nI (w + 1))), (2, .int (nI (N + i))), (1, .int (nI i)), (0, .ref (ad 11 0))]) X dX2_read_77 rfl (nI_1 _) (by decide) rfl ?_
          refine j_goto (tgt := 64) X dX2_read_80 (by decide) ?_
          exact ih64 (w + 1) (us M4 1 (9 + 12 * (N + i) + w) (nI 0)) ⟨by omega, by rw [hM4]; exact zr_s⟩ (by omega)
    · skip
      have hE : ¬ Erea N pd pl := fun q => c25 q.2
      refine j_bipush (v := (-4)) X dX2_read_28 (by decide) ?_
      exact j_iret X hr hlk ⟨M1, rfl, by rw [Rrea, if_neg (Classical.not_not.mpr c6), if_pos (by omega)], fun q => absurd q hE, fun _ => hm1⟩ dX2_read_30
  · skip
    have hE : ¬ Erea N pd pl := fun q => c6 q.1
    refine j_bipush (v := (-3)) X dX2_read_9 (by decide) ?_
    exact j_iret X hr hlk ⟨M1, rfl, by rw [Rrea, if_pos c6], fun q => absurd q hE, fun _ => hm1⟩ dX2_read_11
