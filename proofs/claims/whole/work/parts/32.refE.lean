set_option maxHeartbeats 4000000 in
set_option maxRecDepth 100000 in
theorem kX2_charactersOf (l : Launch) (D : va_G) (ad : Nat → Nat → Nat) (cs : Nat → ClassId) (A : Nat → Prop) (z : Nat → Nat) (μ : Mm) (M : CV) (w0 : Nat) (hw0 : w0 < 2 ^ 64) : KI l D ad cs A z yX2_charactersOf wsX2_charactersOf (rm 1 25) [.long (lN w0)] (mb μ 11 M) (fun r μ1 => (∃ n, r = nI n ∧ cdR (lN w0) n) ∧ μ1 = mb μ 11 M) := by
  refine KI_of (cc := cX2_charactersOf) (maxL := 5) (ret := (some .int)) (by decide) rfl (Nat.le_of_ble_eq_true rfl) ?_
  intro p e s m args below meth c hr hlk X
  show J p l e _ s m args below meth c 0 0 _ 5 D ad cs A 0 [(0, .long (lN w0))] [] (mb μ 11 M)
  refine j_lload_n (q := 0) X dX2_charactersOf_0 rfl rfl ?_
  refine j_lstore_n (lv' := [(2, .long (lN w0)), (0, .long (lN w0))]) X dX2_charactersOf_1 rfl (by decide) rfl ?_
  refine j_iconst (v := (nI 0)) X dX2_charactersOf_2 (by decide) ?_
  refine j_istore (lv' := [(4, .int (nI 0)), (2, .long (lN w0)), (0, .long (lN w0))]) X dX2_charactersOf_3 (by decide) rfl ?_
  refine jl2 (G := J p l e _ s m args below meth c 0 0 _ _ D ad cs A) (pc := 5) (fun (i : Nat) (v : Nat) => [(4, .int (nI i)), (2, .long (lN v)), (0, .long (lN w0))]) (fun (i : Nat) (v : Nat) => (mb μ 11 M)) (fun (i : Nat) (v : Nat) => i ≤ 8 ∧ v = w0 / 2 ^ (8 * i) ∧ ∀ t, t < i → cdG (lN w0) t) (fun (i : Nat) (v : Nat) => 8 - i) ?_ 0 w0 ⟨by omega, by rw [Nat.mul_zero, Nat.pow_zero, Nat.div_one], fun t ht => absurd ht (Nat.not_lt_zero _)⟩
  intro i v hI5 ih5
  try dsimp only at ih5 ⊢
  obtain ⟨hi, hv, hg⟩ := hI5
  have hv64 : v < 2 ^ 64 := by rw [hv]; exact Nat.lt_of_le_of_lt (Nat.div_le_self _ _) hw0
  refine j_iload (q := 0) X dX2_charactersOf_5 rfl ?_
  refine j_bipush (v := (nI 8)) X dX2_charactersOf_7 (by decide) ?_
  refine j_ncmp_ge (tgt := 40) X i 8 dX2_charactersOf_9 (by decide) rfl rfl (by omega) (by omega) (fun c9 => ?_) (fun c9 => ?_)
  · skip
    have hex : i = 8 ∨ ¬ cdG (lN w0) i := Or.inl (by omega)
    refine j_lload_n (q := 1) X dX2_charactersOf_40 rfl rfl ?_
    refine j_lconst (v := lN 0) X dX2_charactersOf_41 (by decide) ?_
    refine j_lcmp X dX2_charactersOf_42 ?_
    refine j_if_ne (tgt := 51) X dX2_charactersOf_43 (by decide) (fun c43 => ?_) (fun c43 => ?_)
    · skip
      have h0 : w0 / 2 ^ (8 * i) ≠ 0 := by rw [← hv]; exact fun q => c43 (lgc_eq.mpr ((lN_z hv64).mpr q))
      refine j_iconst (v := (nI 0)) X dX2_charactersOf_51 (by decide) ?_
      exact j_iret X hr hlk ⟨⟨0, rfl, cdR_n hw0 hi hg hex h0⟩, rfl⟩ dX2_charactersOf_52
    · skip
      have h0 : w0 / 2 ^ (8 * i) = 0 := by rw [← hv]; exact (lN_z hv64).mp (lgc_eq.mp (Classical.not_not.mp c43))
      refine j_iload (q := 0) X dX2_charactersOf_46 rfl ?_
      refine j_goto (tgt := 52) X dX2_charactersOf_48 (by decide) ?_
      exact j_iret X hr hlk ⟨⟨i, rfl, cdR_y hw0 hi hg h0⟩, rfl⟩ dX2_charactersOf_52
  · skip
    refine j_lload_n (q := 1) X dX2_charactersOf_12 rfl rfl ?_
    refine j_ldc2 (v := lN 255) X (X.1.2.2.2.2 _ (by decide +kernel)) dX2_charactersOf_13 ?_
    refine j_land (v := (lN (v % 256))) X dX2_charactersOf_16 (l64_and (k := 8) hv64 (by decide)) ?_
    refine j_ldc2 (v := lN 33) X (X.1.2.2.2.2 _ (by decide +kernel)) dX2_charactersOf_17 ?_
    refine j_ldc2 (v := lN 126) X (X.1.2.2.2.2 _ (by decide +kernel)) dX2_charactersOf_20 ?_
    refine j_callSi (As := [.long (lN (v % 256)), .long (lN 33), .long (lN 126)]) X (kX2_in l D ad cs A z μ M (lN (v % 256)) (lN 33) (lN 126)) (va_cwS 3 X.1.2.2.2.2 gX2_charactersOf_X2_in rfl rfl rfl (by decide +kernel) ⟨Nat.le_of_ble_eq_true rfl, Nat.le_of_ble_eq_true rfl⟩) rfl rfl (Nat.le_of_ble_eq_true rfl) dX2_charactersOf_23 (fun r23 μ23 h23 => ?_)
    obtain ⟨h23, rfl⟩ := h23
    refine j_if_eq (tgt := 40) X dX2_charactersOf_26 (by decide) (fun c26 => ?_) (fun c26 => ?_)
    · skip
      have hex : i = 8 ∨ ¬ cdG (lN w0) i := Or.inr (fun q => h23.f c26 ((cdG_iff hw0 (by omega) hv).mpr q))
      refine j_lload_n (q := 1) X dX2_charactersOf_40 rfl rfl ?_
      refine j_lconst (v := lN 0) X dX2_charactersOf_41 (by decide) ?_
      refine j_lcmp X dX2_charactersOf_42 ?_
      refine j_if_ne (tgt := 51) X dX2_charactersOf_43 (by decide) (fun c43 => ?_) (fun c43 => ?_)
      · skip
        have h0 : w0 / 2 ^ (8 * i) ≠ 0 := by rw [← hv]; exact fun q => c43 (lgc_eq.mpr ((lN_z hv64).mpr q))
        refine j_iconst (v := (nI 0)) X dX2_charactersOf_51 (by decide) ?_
        exact j_iret X hr hlk ⟨⟨0, rfl, cdR_n hw0 hi hg hex h0⟩, rfl⟩ dX2_charactersOf_52
      · skip
        have h0 : w0 / 2 ^ (8 * i) = 0 := by rw [← hv]; exact (lN_z hv64).mp (lgc_eq.mp (Classical.not_not.mp c43))
        refine j_iload (q := 0) X dX2_charactersOf_46 rfl ?_
        refine j_goto (tgt := 52) X dX2_charactersOf_48 (by decide) ?_
        exact j_iret X hr hlk ⟨⟨i, rfl, cdR_y hw0 hi hg h0⟩, rfl⟩ dX2_charactersOf_52
    · skip
      have hgi := (cdG_iff hw0 (by omega) hv).mp (h23.t c26)
      refine j_lload_n (q := 1) X dX2_charactersOf_29 rfl rfl ?_
      refine j_bipush (v := (nI 8)) X dX2_charactersOf_30 (by decide) ?_
      refine j_lushr (v := (lN (v / 2 ^ 8))) X dX2_charactersOf_32 (l64_shr (k := 8) hv64 (by decide)) ?_
      refine j_lstore_n (lv' := [(2, .long (lN (v / 2 ^ 8))), (4, .int (nI i)), (0, .long (lN w0))]) X dX2_charactersOf_33 rfl (by decide) rfl ?_
      refine j_iinc (q := 1) (v := (nI (i + 1))) (lv' := [(4, .int (nI (i + 1))), (2, .long (lN (v / 2 ^ 8))), (0, .long (lN w0))]) X dX2_charactersOf_34 rfl (nI_1 _) (by decide) rfl ?_
      refine j_goto (tgt := 5) X dX2_charactersOf_37 (by decide) ?_
      exact ih5 (i + 1) (v / 2 ^ 8) ⟨by omega, by rw [hv, Nat.div_div_eq_div_mul, ← Nat.pow_add]; rfl, fun t ht => by rcases Nat.lt_or_ge t i with q | q; exact hg t q; rw [show t = i by omega]; exact hgi⟩ (by omega)
theorem RM.putx {M V : CV} {N h : Nat} {hc : Nat → CV} {nh : Nat → Nat} {s0 s1 : CV} {n0 n1 : Nat} {u : Nat → Int32} {pl : Nat} {pd : Nat → Int32} (q : RM M V N h hc nh s0 s1 n0 n1 u pl pd) (x : Int64) (n k : Nat) (h60 : pl + k ≤ 60) : RM (us (uc M 7 (ptx (M 7) x n pl k)) 0 7 (nI (pl + k))) V N h hc nh s0 s1 n0 n1 u (pl + k) (ptx pd x n pl k) := by
  obtain ⟨⟨a1, a2⟩, ⟨b1, b2, b3⟩, d, e1, e2, e3⟩ := q
  have e : ∀ r, r ≠ 0 → r ≠ 7 → us (uc M 7 (ptx (M 7) x n pl k)) 0 7 (nI (pl + k)) r = M r := fun r h0 h7 => by rw [us_n h0, uc_n h7]
  unfold RM
  rw [e 1 (by decide) (by decide), e 3 (by decide) (by decide), e 5 (by decide) (by decide), e 6 (by decide) (by decide)]
  exact ⟨⟨a1, a2⟩, ⟨by rw [us_i, if_neg (by decide), uc_n (by decide)]; exact b1, b2, b3⟩, d, us_s, h60, by rw [us_n (by decide), uc_s, e3]⟩
theorem RM.wip {M V : CV} {N h : Nat} {hc : Nat → CV} {nh : Nat → Nat} {s0 s1 : CV} {n0 n1 : Nat} {u : Nat → Int32} {pl : Nat} {pd : Nat → Int32} (q : RM M V N h hc nh s0 s1 n0 n1 u pl pd) : RM (us M 0 7 (nI 0)) V N h hc nh s0 s1 n0 n1 u 0 pd := by
  obtain ⟨⟨a1, a2⟩, ⟨b1, b2, b3⟩, d, e1, e2, e3⟩ := q
  unfold RM
  rw [us_n (show 1 ≠ 0 by decide), us_n (show 3 ≠ 0 by decide), us_n (show 5 ≠ 0 by decide), us_n (show 6 ≠ 0 by decide), us_n (show 7 ≠ 0 by decide)]
  exact ⟨⟨a1, a2⟩, ⟨by rw [us_i, if_neg (by decide)]; exact b1, b2, b3⟩, d, us_s, by omega, e3⟩
set_option maxHeartbeats 4000000 in
set_option maxRecDepth 100000 in
theorem kX2_put (l : Launch) (D : va_G) (ad : Nat → Nat → Nat) (cs : Nat → ClassId) (A : Nat → Prop) (z : Nat → Nat) (μ : Mm) (M : CV) (V : CV) (N h : Nat) (hc : Nat → CV) (nh : Nat → Nat) (s0 s1 : CV) (n0 n1 : Nat) (u : Nat → Int32) (pl : Nat) (pd : Nat → Int32) (hm : RM M V N h hc nh s0 s1 n0 n1 u pl pd) (hci : CI V N) (w0 : Nat) (hw0 : w0 < 2 ^ 64) : KI l D ad cs A z yX2_put wsX2_put (rm 2 49) [.ref (ad 11 0), .long (lN w0)] (mb μ 11 M) (fun r μ1 => ∃ M1, μ1 = mb μ 11 M1 ∧ ∃ n, cdR (lN w0) n ∧ ((n = 0 ∧ r = -2 ∧ M1 = M) ∨ (1 ≤ n ∧ 60 < pl + n ∧ r = -4 ∧ M1 = M) ∨ (1 ≤ n ∧ pl + n ≤ 60 ∧ r = nI (pl + n) ∧ RM M1 V N h hc nh s0 s1 n0 n1 u (pl + n) (ptx pd (lN w0) n pl n)))) := by
  refine KI_of (cc := cX2_put) (maxL := 5) (ret := (some .int)) (by decide) rfl (Nat.le_of_ble_eq_true rfl) ?_
  intro p e s m args below meth c hr hlk X
  show J p l e _ s m args below meth c 0 0 _ 5 D ad cs A 0 [(0, .ref (ad 11 0)), (1, .long (lN w0))] [] (mb μ 11 M)
  have hinX2 : ∀ w ∈ wsX20, w ∈ wsX2_put := by decide +kernel
  have k140 : (Cond.fieldLink RX2 140 "PunCourtsModel" "textLong" "I").before args s = true := X.1.2.2.2.2 _ (by decide +kernel)
  have k25 : (Cond.fieldLink RX2 25 "PunCourtsModel" "text" "[I").before args s = true := X.1.2.2.2.2 _ (by decide +kernel)
  have hN := hci.1.1
  have hN20 := hci.1.2.1
  have hw := hm.1.1
  have hpl := hm.2.2.2.1
  have hpl60 := hm.2.2.2.2.1
  refine j_lload_n (q := 1) X dX2_put_0 rfl rfl ?_
  refine j_callSi (As := [.long (lN w0)]) X (kX2_charactersOf l D ad cs A z μ M w0 hw0) (va_cwS 1 X.1.2.2.2.2 gX2_put_X2_charactersOf rfl rfl rfl (by decide +kernel) ⟨Nat.le_of_ble_eq_true rfl, Nat.le_of_ble_eq_true rfl⟩) rfl rfl (Nat.le_of_ble_eq_true rfl) dX2_put_1 (fun r1 μ1 h1 => ?_)
  obtain ⟨⟨n, e1, hn⟩, rfl⟩ := h1
  rw [e1]
  have hn8 : n ≤ 8 := hn.1
  refine j_istore_n (lv' := [(3, .int (nI n)), (0, .ref (ad 11 0)), (1, .long (lN w0))]) X dX2_put_4 rfl (by decide) rfl ?_
  refine j_iload_n (q := 0) X dX2_put_5 rfl rfl ?_
  refine j_if_ne (tgt := 12) X dX2_put_6 (by decide) (fun c6 => ?_) (fun c6 => ?_)
  · skip
    have hn1 : 1 ≤ n := by rcases Nat.eq_zero_or_pos n with q | q; (subst q; exact absurd rfl c6); exact q
    refine j_aload_n (q := 1) X dX2_put_12 rfl rfl ?_
    refine j_getRB X oR hinX2 7 (by decide) rfl k140 dX2_put_13 ?_
    rw [hpl]
    refine j_iload_n (q := 0) X dX2_put_16 rfl rfl ?_
    refine j_iadd (v := (nI (pl + n))) X dX2_put_17 (nI_add _ _) ?_
    refine j_bipush (v := (nI 60)) X dX2_put_18 (by decide) ?_
    refine j_ncmp_le (tgt := 26) X (pl + n) 60 dX2_put_20 (by decide) rfl rfl (by omega) (by omega) (fun c20 => ?_) (fun c20 => ?_)
    · skip
      refine j_iconst (v := (nI 0)) X dX2_put_26 (by decide) ?_
      refine j_istore (lv' := [(4, .int (nI 0)), (3, .int (nI n)), (0, .ref (ad 11 0)), (1, .long (lN w0))]) X dX2_put_27 (by decide) rfl ?_
      refine j_lv [0, 1, 3, 2] rfl ?_
      refine jl2 (G := J p l e _ s m args below meth c 0 0 _ _ D ad cs A) (pc := 29) (fun (i : Nat) (M2 : CV) => [(4, .int (nI i)), (3, .int (nI n)), (1, .long (lN w0)), (0, .ref (ad 11 0))]) (fun (i : Nat) (M2 : CV) => (mb μ 11 M2)) (fun (i : Nat) (M2 : CV) => i ≤ n ∧ M2 = (uc M 7 (ptx (M 7) (lN w0) n pl i))) (fun (i : Nat) (M2 : CV) => n - i) ?_ 0 M ⟨by omega, (uc_eta (fun j => rfl)).symm⟩
      intro i M2 hI29 ih29
      try dsimp only at ih29 ⊢
      obtain ⟨hi, hM2⟩ := hI29
      have hp2 : M2 0 7 = nI pl := by rw [hM2, uc_n (by decide)]; exact hpl
      refine j_iload (q := 0) X dX2_put_29 rfl ?_
      refine j_iload_n (q := 1) X dX2_put_31 rfl rfl ?_
      refine j_ncmp_ge (tgt := 69) X i n dX2_put_32 (by decide) rfl rfl (by omega) (by omega) (fun c32 => ?_) (fun c32 => ?_)
      · skip
        rw [show i = n by omega] at hM2
        subst hM2
        refine j_aload_n (q := 3) X dX2_put_69 rfl rfl ?_
        refine j_dup X dX2_put_70 rfl ?_
        refine j_getRB X oR hinX2 7 (by decide) rfl k140 dX2_put_71 ?_
        rw [show (uc M 7 (ptx (M 7) (lN w0) n pl n)) 0 7 = nI pl from by rw [uc_n (by decide)]; exact hpl]
        refine j_iload_n (q := 1) X dX2_put_74 rfl rfl ?_
        refine j_iadd (v := (nI (pl + n))) X dX2_put_75 (nI_add _ _) ?_
        refine j_putRB (ty := .int) X oR hinX2 7 (by decide) (fun _ => rfl) rfl rfl rfl rfl (Nat.le_of_ble_eq_true rfl) k140 dX2_put_76 ?_
        refine j_aload_n (q := 3) X dX2_put_79 rfl rfl ?_
        refine j_getRB X oR hinX2 7 (by decide) rfl k140 dX2_put_80 ?_
        rw [us_s]
        exact j_iret X hr hlk ⟨_, rfl, n, hn, Or.inr (Or.inr ⟨hn1, by omega, rfl, hm.putx (lN w0) n n (by omega)⟩)⟩ dX2_put_83
      · skip
        refine j_aload_n (q := 3) X dX2_put_35 rfl rfl ?_
        refine j_getRB X oR hinX2 6 (by decide) rfl k25 dX2_put_36 ?_
        refine j_aload_n (q := 3) X dX2_put_39 rfl rfl ?_
        refine j_getRB X oR hinX2 7 (by decide) rfl k140 dX2_put_40 ?_
        rw [hp2]
        refine j_iload (q := 0) X dX2_put_43 rfl ?_
        refine j_iadd (v := (nI (pl + i))) X dX2_put_45 (nI_add _ _) ?_
        refine j_lload_n (q := 2) X dX2_put_46 rfl rfl ?_
        refine j_bipush (v := (nI 8)) X dX2_put_47 (by decide) ?_
        refine j_iload_n (q := 1) X dX2_put_49 rfl rfl ?_
        refine j_iconst (v := (nI 1)) X dX2_put_50 (by decide) ?_
        refine j_isub (v := (nI (n - 1))) X dX2_put_51 (pk_sub (by omega)) ?_
        refine j_iload (q := 0) X dX2_put_52 rfl ?_
        refine j_isub (v := (nI ((n - 1) - i))) X dX2_put_54 (pk_sub (by omega)) ?_
        refine j_imul (v := (nI (8 * ((n - 1) - i)))) X dX2_put_55 (pk_mul _ _) ?_
        refine j_lushr (v := (((lN w0).toUInt64 >>> ((nI (8 * ((n - 1) - i))).toInt64.toUInt64 &&& Int64.toUInt64 63)).toInt64)) X dX2_put_56 rfl ?_
        refine j_ldc2 (v := 255) X (X.1.2.2.2.2 _ (by decide +kernel)) dX2_put_57 ?_
        refine j_land (v := ((((lN w0).toUInt64 >>> ((nI (8 * ((n - 1) - i))).toInt64.toUInt64 &&& Int64.toUInt64 63)).toInt64) &&& 255)) X dX2_put_60 rfl ?_
        refine j_l2i (v := (cdA (lN w0) (n - 1 - i))) X dX2_put_61 rfl ?_
        refine j_iastB X aR_7 (pl + i) rfl (by omega) (by decide) (by decide) dX2_put_62 ?_
        refine j_iinc (q := 0) (v := (nI (i + 1))) (lv' := [(4, .int (nI (i + 1))), (3, .int (nI n)), (1, .long (lN w0)), (0, .ref (ad 11 0))]) X dX2_put_63 rfl (nI_1 _) (by decide) rfl ?_
        refine j_goto (tgt := 29) X dX2_put_66 (by decide) ?_
        exact ih29 (i + 1) (us M2 7 (pl + i) (cdA (lN w0) (n - 1 - i))) ⟨by omega, by rw [hM2]; exact uc_us (fun j => rfl)⟩ (by omega)
    · skip
      refine j_bipush (v := (-4)) X dX2_put_23 (by decide) ?_
      exact j_iret X hr hlk ⟨M, rfl, n, hn, Or.inr (Or.inl ⟨hn1, by omega, rfl, rfl⟩)⟩ dX2_put_25
  · skip
    have hn0 : n = 0 := by rcases Nat.eq_zero_or_pos n with q | q; exact q; exact absurd (Classical.not_not.mp c6) (nI_ne0 q (by omega))
    refine j_bipush (v := (-2)) X dX2_put_9 (by decide) ?_
    exact j_iret X hr hlk ⟨M, rfl, n, hn, Or.inl ⟨hn0, rfl, rfl⟩⟩ dX2_put_11
set_option maxHeartbeats 4000000 in
set_option maxRecDepth 100000 in
theorem kX2_wipe (l : Launch) (D : va_G) (ad : Nat → Nat → Nat) (cs : Nat → ClassId) (A : Nat → Prop) (z : Nat → Nat) (μ : Mm) (M : CV) (V : CV) (N h : Nat) (hc : Nat → CV) (nh : Nat → Nat) (s0 s1 : CV) (n0 n1 : Nat) (u : Nat → Int32) (pl : Nat) (pd : Nat → Int32) (hm : RM M V N h hc nh s0 s1 n0 n1 u pl pd) (hci : CI V N) : KI l D ad cs A z yX2_wipe wsX2_wipe (rm 0 0) [.ref (ad 11 0)] (mb μ 11 M) (fun r μ1 => ∃ M1, μ1 = mb μ 11 M1 ∧ r = nI pl ∧ RM M1 V N h hc nh s0 s1 n0 n1 u 0 pd) := by
  refine KI_of (cc := cX2_wipe) (maxL := 2) (ret := (some .int)) (by decide) rfl (Nat.le_of_ble_eq_true rfl) ?_
  intro p e s m args below meth c hr hlk X
  show J p l e _ s m args below meth c 0 0 _ 2 D ad cs A 0 [(0, .ref (ad 11 0))] [] (mb μ 11 M)
  have hinX2 : ∀ w ∈ wsX20, w ∈ wsX2_wipe := by decide +kernel
  have k140 : (Cond.fieldLink RX2 140 "PunCourtsModel" "textLong" "I").before args s = true := X.1.2.2.2.2 _ (by decide +kernel)
  have hN := hci.1.1
  have hN20 := hci.1.2.1
  have hw := hm.1.1
  have hpl := hm.2.2.2.1
  have hpl60 := hm.2.2.2.2.1
  refine j_aload_n (q := 0) X dX2_wipe_0 rfl rfl ?_
  refine j_getRB X oR hinX2 7 (by decide) rfl k140 dX2_wipe_1 ?_
  rw [hpl]
  refine j_istore_n (lv' := [(1, .int (nI pl)), (0, .ref (ad 11 0))]) X dX2_wipe_4 rfl (by decide) rfl ?_
  refine j_aload_n (q := 1) X dX2_wipe_5 rfl rfl ?_
  refine j_iconst (v := (nI 0)) X dX2_wipe_6 (by decide) ?_
  refine j_putRB (ty := .int) X oR hinX2 7 (by decide) (fun _ => rfl) rfl rfl rfl rfl (Nat.le_of_ble_eq_true rfl) k140 dX2_wipe_7 ?_
  refine j_iload_n (q := 0) X dX2_wipe_10 rfl rfl ?_
  exact j_iret X hr hlk ⟨_, rfl, rfl, hm.wip⟩ dX2_wipe_11
set_option maxHeartbeats 4000000 in
set_option maxRecDepth 100000 in
theorem kX2_isHere (l : Launch) (D : va_G) (ad : Nat → Nat → Nat) (cs : Nat → ClassId) (A : Nat → Prop) (z : Nat → Nat) (μ : Mm) (M : CV) (sp pl q0 q1 : Nat) (hsp : M 0 8 = nI sp) (hpl : M 0 7 = nI pl) (hs : sp ≤ 60) (hp : pl ≤ 60) (h0 : q0 < 1000) (h1 : q1 < 1000) : KI l D ad cs A z yX2_isHere wsX2_isHere (rm 1 25) [.ref (ad 11 0), .int (nI q0), .int (nI q1)] (mb μ 11 M) (fun r μ1 => bP r (sp < pl ∧ nI q0 ≤ M 7 sp ∧ M 7 sp ≤ nI q1) ∧ μ1 = mb μ 11 M) := by
  refine KI_of (cc := cX2_isHere) (maxL := 3) (ret := (some .boolean)) (by decide) rfl (Nat.le_of_ble_eq_true rfl) ?_
  intro p e s m args below meth c hr hlk X
  show J p l e _ s m args below meth c 0 0 _ 3 D ad cs A 0 [(0, .ref (ad 11 0)), (1, .int (nI q0)), (2, .int (nI q1))] [] (mb μ 11 M)
  have hinX2 : ∀ w ∈ wsX20, w ∈ wsX2_isHere := by decide +kernel
  have k166 : (Cond.fieldLink RX2 166 "PunCourtsModel" "spot" "I").before args s = true := X.1.2.2.2.2 _ (by decide +kernel)
  have k140 : (Cond.fieldLink RX2 140 "PunCourtsModel" "textLong" "I").before args s = true := X.1.2.2.2.2 _ (by decide +kernel)
  have k25 : (Cond.fieldLink RX2 25 "PunCourtsModel" "text" "[I").before args s = true := X.1.2.2.2.2 _ (by decide +kernel)
  refine j_aload_n (q := 0) X dX2_isHere_0 rfl rfl ?_
  refine j_getRB X oR hinX2 8 (by decide) rfl k166 dX2_isHere_1 ?_
  rw [hsp]
  refine j_aload_n (q := 0) X dX2_isHere_4 rfl rfl ?_
  refine j_getRB X oR hinX2 7 (by decide) rfl k140 dX2_isHere_5 ?_
  rw [hpl]
  refine j_ncmp_ge (tgt := 35) X sp pl dX2_isHere_8 (by decide) rfl rfl (by omega) (by omega) (fun c8 => ?_) (fun c8 => ?_)
  · skip
    have hh : ¬ (sp < pl ∧ nI q0 ≤ M 7 sp ∧ M 7 sp ≤ nI q1) := fun q => absurd q.1 (by omega)
    refine j_iconst (v := (nI 0)) X dX2_isHere_35 (by decide) ?_
    exact j_zret X hr hlk (by first | exact Or.inl rfl | exact Or.inr rfl) ⟨bP.nn hh, rfl⟩ dX2_isHere_36
  · skip
    refine j_aload_n (q := 0) X dX2_isHere_11 rfl rfl ?_
    refine j_getRB X oR hinX2 6 (by decide) rfl k25 dX2_isHere_12 ?_
    refine j_aload_n (q := 0) X dX2_isHere_15 rfl rfl ?_
    refine j_getRB X oR hinX2 8 (by decide) rfl k166 dX2_isHere_16 ?_
    rw [hsp]
    refine j_ialdB X aR_7 sp rfl (by omega) (by decide) dX2_isHere_19 ?_
    refine j_i2l (v := ((M 7 sp).toInt64)) X dX2_isHere_20 rfl ?_
    refine j_iload_n (q := 1) X dX2_isHere_21 rfl rfl ?_
    refine j_i2l (v := (lN q0)) X dX2_isHere_22 (nI_l (by omega)) ?_
    refine j_iload_n (q := 2) X dX2_isHere_23 rfl rfl ?_
    refine j_i2l (v := (lN q1)) X dX2_isHere_24 (nI_l (by omega)) ?_
    refine j_callSi (As := [.long ((M 7 sp).toInt64), .long (lN q0), .long (lN q1)]) X (kX2_in l D ad cs A z μ M ((M 7 sp).toInt64) (lN q0) (lN q1)) (va_cwS 3 X.1.2.2.2.2 gX2_isHere_X2_in rfl rfl rfl (by decide +kernel) ⟨Nat.le_of_ble_eq_true rfl, Nat.le_of_ble_eq_true rfl⟩) rfl rfl (Nat.le_of_ble_eq_true rfl) dX2_isHere_25 (fun r25 μ25 h25 => ?_)
    obtain ⟨h25, rfl⟩ := h25
    refine j_if_eq (tgt := 35) X dX2_isHere_28 (by decide) (fun c28 => ?_) (fun c28 => ?_)
    · skip
      have hh : ¬ (sp < pl ∧ nI q0 ≤ M 7 sp ∧ M 7 sp ≤ nI q1) := fun q => h25.f c28 ((in_64 (by omega) (by omega)).mpr q.2)
      refine j_iconst (v := (nI 0)) X dX2_isHere_35 (by decide) ?_
      exact j_zret X hr hlk (by first | exact Or.inl rfl | exact Or.inr rfl) ⟨bP.nn hh, rfl⟩ dX2_isHere_36
    · skip
      have hh : sp < pl ∧ nI q0 ≤ M 7 sp ∧ M 7 sp ≤ nI q1 := ⟨by omega, (in_64 (by omega) (by omega)).mp (h25.t c28)⟩
      refine j_iconst (v := (nI 1)) X dX2_isHere_31 (by decide) ?_
      refine j_goto (tgt := 36) X dX2_isHere_32 (by decide) ?_
      exact j_zret X hr hlk (by first | exact Or.inl rfl | exact Or.inr rfl) ⟨bP.yn hh, rfl⟩ dX2_isHere_36
set_option maxHeartbeats 4000000 in
set_option maxRecDepth 100000 in
theorem kX2_soundOf (l : Launch) (D : va_G) (ad : Nat → Nat → Nat) (cs : Nat → ClassId) (A : Nat → Prop) (z : Nat → Nat) (μ : Mm) (M : CV) (f L : Nat) (hfl : f + L ≤ 60) (hL : ∀ k, k < L → isL (M 7 (f + k))) : KI l D ad cs A z yX2_soundOf wsX2_soundOf (rm 1 20) [.ref (ad 11 0), .int (nI f), .int (nI (f + L))] (mb μ 11 M) (fun r μ1 => r = sdS (sgF (M 7) f) L ∧ μ1 = mb μ 11 M) := by
  refine KI_of (cc := cX2_soundOf) (maxL := 7) (ret := (some .int)) (by decide) rfl (Nat.le_of_ble_eq_true rfl) ?_
  intro p e s m args below meth c hr hlk X
  show J p l e _ s m args below meth c 0 0 _ 7 D ad cs A 0 [(0, .ref (ad 11 0)), (1, .int (nI f)), (2, .int (nI (f + L)))] [] (mb μ 11 M)
  have hinX2 : ∀ w ∈ wsX20, w ∈ wsX2_soundOf := by decide +kernel
  have k25 : (Cond.fieldLink RX2 25 "PunCourtsModel" "text" "[I").before args s = true := X.1.2.2.2.2 _ (by decide +kernel)
  refine j_iconst (v := (nI 0)) X dX2_soundOf_0 (by decide) ?_
  refine j_istore_n (lv' := [(3, .int (nI 0)), (0, .ref (ad 11 0)), (1, .int (nI f)), (2, .int (nI (f + L)))]) X dX2_soundOf_1 rfl (by decide) rfl ?_
  refine j_iconst (v := (nI 0)) X dX2_soundOf_2 (by decide) ?_
  refine j_istore (lv' := [(4, .int (nI 0)), (3, .int (nI 0)), (0, .ref (ad 11 0)), (1, .int (nI f)), (2, .int (nI (f + L)))]) X dX2_soundOf_3 (by decide) rfl ?_
  refine j_iload_n (q := 3) X dX2_soundOf_5 rfl rfl ?_
  refine j_istore (lv' := [(5, .int (nI f)), (4, .int (nI 0)), (3, .int (nI 0)), (0, .ref (ad 11 0)), (1, .int (nI f)), (2, .int (nI (f + L)))]) X dX2_soundOf_6 (by decide) rfl ?_
  refine j_lv [0, 2, 1, 5, 4, 3] rfl ?_
  refine jl3 (G := J p l e _ s m args below meth c 0 0 _ _ D ad cs A) (pc := 8) (fun (k : Nat) (x3 : Int32) (x4 : Int32) => [(5, .int (nI (f + k))), (3, .int x3), (4, .int x4), (2, .int (nI (f + L))), (1, .int (nI f)), (0, .ref (ad 11 0))]) (fun (k : Nat) (x3 : Int32) (x4 : Int32) => (mb μ 11 M)) (fun (k : Nat) (x3 : Int32) (x4 : Int32) => k ≤ L ∧ x3 = sdS (sgF (M 7) f) k ∧ x4 = sdP (sgF (M 7) f) k) (fun (k : Nat) (x3 : Int32) (x4 : Int32) => L - k) ?_ 0 (nI 0) (nI 0) ⟨by omega, rfl, rfl⟩
  intro k x3 x4 hI8 ih8
  try dsimp only at ih8 ⊢
  obtain ⟨hk, h3, h4⟩ := hI8
  refine j_iload (q := 0) X dX2_soundOf_8 rfl ?_
  refine j_iload_n (q := 3) X dX2_soundOf_10 rfl rfl ?_
  refine j_ncmp_ge (tgt := 72) X (f + k) (f + L) dX2_soundOf_11 (by decide) rfl rfl (by omega) (by omega) (fun c11 => ?_) (fun c11 => ?_)
  · skip
    refine j_iload_n (q := 1) X dX2_soundOf_72 rfl rfl ?_
    exact j_iret X hr hlk ⟨by rw [h3, show k = L by omega], rfl⟩ dX2_soundOf_73
  · skip
    refine j_aload_n (q := 5) X dX2_soundOf_14 rfl rfl ?_
    refine j_getRB X oR hinX2 6 (by decide) rfl k25 dX2_soundOf_15 ?_
    refine j_iload (q := 0) X dX2_soundOf_18 rfl ?_
    refine j_ialdB X aR_7 (f + k) rfl (by omega) (by decide) dX2_soundOf_20 ?_
    refine j_callSi (As := [.int (M 7 (f + k))]) X (kX2_sign l D ad cs A z μ M (M 7 (f + k)) (hL k (by omega))) (va_cwS 1 X.1.2.2.2.2 gX2_soundOf_X2_sign rfl rfl rfl (by decide +kernel) ⟨Nat.le_of_ble_eq_true rfl, Nat.le_of_ble_eq_true rfl⟩) rfl rfl (Nat.le_of_ble_eq_true rfl) dX2_soundOf_21 (fun r21 μ21 h21 => ?_)
    obtain ⟨h21, rfl⟩ := h21
    have h21 : r21 = sgF (M 7) f k := h21
    rw [h21]
    refine j_istore (lv' := [(6, .int (sgF (M 7) f k)), (5, .int (nI (f + k))), (3, .int x3), (4, .int x4), (2, .int (nI (f + L))), (1, .int (nI f)), (0, .ref (ad 11 0))]) X dX2_soundOf_24 (by decide) rfl ?_
    refine j_iload (q := 0) X dX2_soundOf_26 rfl ?_
    refine j_if_eq (tgt := 66) X dX2_soundOf_28 (by decide) (fun c28 => ?_) (fun c28 => ?_)
    · skip
      have ho : ¬ hrd (sgF (M 7) f) k := fun q => q.1 c28
      have hs : sdS (sgF (M 7) f) (k + 1) = x3 := by rw [sdS, if_neg ho, ← h3]
      have hq : sdP (sgF (M 7) f) (k + 1) = x4 := by rw [sdP, if_pos c28, ← h4]
      refine j_iinc (q := 1) (v := (nI ((f + k) + 1))) (lv' := [(5, .int (nI ((f + k) + 1))), (6, .int (sgF (M 7) f k)), (3, .int x3), (4, .int x4), (2, .int (nI (f + L))), (1, .int (nI f)), (0, .ref (ad 11 0))]) X dX2_soundOf_66 rfl (nI_1 _) (by decide) rfl ?_
      refine j_goto (tgt := 8) X dX2_soundOf_69 (by decide) ?_
      refine j_lv (lv1 := [(5, .int (nI ((f + k) + 1))), (3, .int x3), (4, .int x4), (2, .int (nI (f + L))), (1, .int (nI f)), (0, .ref (ad 11 0))]) [0, 2, 3, 4, 5, 6] rfl ?_
      exact ih8 (k + 1) x3 x4 ⟨by omega, hs.symm, hq.symm⟩ (by omega)
    · skip
      have hq0 : sdP (sgF (M 7) f) (k + 1) = sgF (M 7) f k := by rw [sdP, if_neg c28]
      refine j_iload (q := 0) X dX2_soundOf_31 rfl ?_
      refine j_iload (q := 3) X dX2_soundOf_33 rfl ?_
      refine j_icmp_eq (tgt := 66) X dX2_soundOf_35 (by decide) (fun c35 => ?_) (fun c35 => ?_)
      · skip
        have ho : ¬ hrd (sgF (M 7) f) k := fun q => q.2.1 (c35.trans h4)
        have hs : sdS (sgF (M 7) f) (k + 1) = x3 := by rw [sdS, if_neg ho, ← h3]
        have hq : sdP (sgF (M 7) f) (k + 1) = x4 := hq0.trans c35
        refine j_iinc (q := 1) (v := (nI ((f + k) + 1))) (lv' := [(5, .int (nI ((f + k) + 1))), (6, .int (sgF (M 7) f k)), (3, .int x3), (4, .int x4), (2, .int (nI (f + L))), (1, .int (nI f)), (0, .ref (ad 11 0))]) X dX2_soundOf_66 rfl (nI_1 _) (by decide) rfl ?_
        refine j_goto (tgt := 8) X dX2_soundOf_69 (by decide) ?_
        refine j_lv (lv1 := [(5, .int (nI ((f + k) + 1))), (3, .int x3), (4, .int x4), (2, .int (nI (f + L))), (1, .int (nI f)), (0, .ref (ad 11 0))]) [0, 2, 3, 4, 5, 6] rfl ?_
        exact ih8 (k + 1) x3 x4 ⟨by omega, hs.symm, hq.symm⟩ (by omega)
      · skip
        have hq := hq0
        have hne : sgF (M 7) f k ≠ sdP (sgF (M 7) f) k := fun q => c35 (q.trans h4.symm)
        refine j_iload (q := 0) X dX2_soundOf_38 rfl ?_
        refine j_bipush (v := (nI 7)) X dX2_soundOf_40 (by decide) ?_
        refine j_icmp_ne (tgt := 54) X dX2_soundOf_42 (by decide) (fun c42 => ?_) (fun c42 => ?_)
        · skip
          have hs : sdS (sgF (M 7) f) (k + 1) = nI 10 * x3 + sgF (M 7) f k := by rw [sdS, if_pos ⟨c28, hne, Or.inl c42⟩, ← h3, Int32.mul_comm]
          refine j_bipush (v := (nI 10)) X dX2_soundOf_54 (by decide) ?_
          refine j_iload_n (q := 2) X dX2_soundOf_56 rfl rfl ?_
          refine j_imul (v := ((nI 10) * x3)) X dX2_soundOf_57 rfl ?_
          refine j_iload (q := 0) X dX2_soundOf_58 rfl ?_
          refine j_iadd (v := (((nI 10) * x3) + (sgF (M 7) f k))) X dX2_soundOf_60 rfl ?_
          refine j_istore_n (lv' := [(3, .int (((nI 10) * x3) + (sgF (M 7) f k))), (6, .int (sgF (M 7) f k)), (5, .int (nI (f + k))), (4, .int x4), (2, .int (nI (f + L))), (1, .int (nI f)), (0, .ref (ad 11 0))]) X dX2_soundOf_61 rfl (by decide) rfl ?_
          refine j_iload (q := 1) X dX2_soundOf_62 rfl ?_
          refine j_istore (lv' := [(4, .int (sgF (M 7) f k)), (3, .int (((nI 10) * x3) + (sgF (M 7) f k))), (6, .int (sgF (M 7) f k)), (5, .int (nI (f + k))), (2, .int (nI (f + L))), (1, .int (nI f)), (0, .ref (ad 11 0))]) X dX2_soundOf_64 (by decide) rfl ?_
          refine j_iinc (q := 3) (v := (nI ((f + k) + 1))) (lv' := [(5, .int (nI ((f + k) + 1))), (4, .int (sgF (M 7) f k)), (3, .int (((nI 10) * x3) + (sgF (M 7) f k))), (6, .int (sgF (M 7) f k)), (2, .int (nI (f + L))), (1, .int (nI f)), (0, .ref (ad 11 0))]) X dX2_soundOf_66 rfl (nI_1 _) (by decide) rfl ?_
          refine j_goto (tgt := 8) X dX2_soundOf_69 (by decide) ?_
          refine j_lv (lv1 := [(5, .int (nI ((f + k) + 1))), (3, .int (((nI 10) * x3) + (sgF (M 7) f k))), (4, .int (sgF (M 7) f k)), (2, .int (nI (f + L))), (1, .int (nI f)), (0, .ref (ad 11 0))]) [0, 2, 1, 4, 5, 6] rfl ?_
          exact ih8 (k + 1) (((nI 10) * x3) + (sgF (M 7) f k)) (sgF (M 7) f k) ⟨by omega, hs.symm, hq.symm⟩ (by omega)
        · skip
          refine j_iload (q := 3) X dX2_soundOf_45 rfl ?_
          refine j_if_eq (tgt := 54) X dX2_soundOf_47 (by decide) (fun c47 => ?_) (fun c47 => ?_)
          · skip
            have hs : sdS (sgF (M 7) f) (k + 1) = nI 10 * x3 + sgF (M 7) f k := by rw [sdS, if_pos ⟨c28, hne, Or.inr (h4.symm.trans c47)⟩, ← h3, Int32.mul_comm]
            refine j_bipush (v := (nI 10)) X dX2_soundOf_54 (by decide) ?_
            refine j_iload_n (q := 2) X dX2_soundOf_56 rfl rfl ?_
            refine j_imul (v := ((nI 10) * x3)) X dX2_soundOf_57 rfl ?_
            refine j_iload (q := 0) X dX2_soundOf_58 rfl ?_
            refine j_iadd (v := (((nI 10) * x3) + (sgF (M 7) f k))) X dX2_soundOf_60 rfl ?_
            refine j_istore_n (lv' := [(3, .int (((nI 10) * x3) + (sgF (M 7) f k))), (6, .int (sgF (M 7) f k)), (5, .int (nI (f + k))), (4, .int x4), (2, .int (nI (f + L))), (1, .int (nI f)), (0, .ref (ad 11 0))]) X dX2_soundOf_61 rfl (by decide) rfl ?_
            refine j_iload (q := 1) X dX2_soundOf_62 rfl ?_
            refine j_istore (lv' := [(4, .int (sgF (M 7) f k)), (3, .int (((nI 10) * x3) + (sgF (M 7) f k))), (6, .int (sgF (M 7) f k)), (5, .int (nI (f + k))), (2, .int (nI (f + L))), (1, .int (nI f)), (0, .ref (ad 11 0))]) X dX2_soundOf_64 (by decide) rfl ?_
            refine j_iinc (q := 3) (v := (nI ((f + k) + 1))) (lv' := [(5, .int (nI ((f + k) + 1))), (4, .int (sgF (M 7) f k)), (3, .int (((nI 10) * x3) + (sgF (M 7) f k))), (6, .int (sgF (M 7) f k)), (2, .int (nI (f + L))), (1, .int (nI f)), (0, .ref (ad 11 0))]) X dX2_soundOf_66 rfl (nI_1 _) (by decide) rfl ?_
            refine j_goto (tgt := 8) X dX2_soundOf_69 (by decide) ?_
            refine j_lv (lv1 := [(5, .int (nI ((f + k) + 1))), (3, .int (((nI 10) * x3) + (sgF (M 7) f k))), (4, .int (sgF (M 7) f k)), (2, .int (nI (f + L))), (1, .int (nI f)), (0, .ref (ad 11 0))]) [0, 2, 1, 4, 5, 6] rfl ?_
            exact ih8 (k + 1) (((nI 10) * x3) + (sgF (M 7) f k)) (sgF (M 7) f k) ⟨by omega, hs.symm, hq.symm⟩ (by omega)
          · skip
            have ho : ¬ hrd (sgF (M 7) f) k := fun q => q.2.2.elim (fun w => w (Classical.not_not.mp c42)) (fun w => c47 (h4.trans w))
            have hs : sdS (sgF (M 7) f) (k + 1) = x3 := by rw [sdS, if_neg ho, ← h3]
            refine j_iload_n (q := 2) X dX2_soundOf_50 rfl rfl ?_
            refine j_goto (tgt := 61) X dX2_soundOf_51 (by decide) ?_
            refine j_istore_n (lv' := [(3, .int x3), (6, .int (sgF (M 7) f k)), (5, .int (nI (f + k))), (4, .int x4), (2, .int (nI (f + L))), (1, .int (nI f)), (0, .ref (ad 11 0))]) X dX2_soundOf_61 rfl (by decide) rfl ?_
            refine j_iload (q := 1) X dX2_soundOf_62 rfl ?_
            refine j_istore (lv' := [(4, .int (sgF (M 7) f k)), (3, .int x3), (6, .int (sgF (M 7) f k)), (5, .int (nI (f + k))), (2, .int (nI (f + L))), (1, .int (nI f)), (0, .ref (ad 11 0))]) X dX2_soundOf_64 (by decide) rfl ?_
            refine j_iinc (q := 3) (v := (nI ((f + k) + 1))) (lv' := [(5, .int (nI ((f + k) + 1))), (4, .int (sgF (M 7) f k)), (3, .int x3), (6, .int (sgF (M 7) f k)), (2, .int (nI (f + L))), (1, .int (nI f)), (0, .ref (ad 11 0))]) X dX2_soundOf_66 rfl (nI_1 _) (by decide) rfl ?_
            refine j_goto (tgt := 8) X dX2_soundOf_69 (by decide) ?_
            refine j_lv (lv1 := [(5, .int (nI ((f + k) + 1))), (3, .int x3), (4, .int (sgF (M 7) f k)), (2, .int (nI (f + L))), (1, .int (nI f)), (0, .ref (ad 11 0))]) [0, 2, 1, 4, 5, 6] rfl ?_
            exact ih8 (k + 1) x3 (sgF (M 7) f k) ⟨by omega, hs.symm, hq.symm⟩ (by omega)
/-- a name was read: the next one begins behind its digit -/
theorem rn_ok {M M1 : CV} {f : Nat → Int32} {pl st L q : Nat} (hf : FS M f pl st) (hL9 : L ≤ 9) (hL2 : 2 ≤ L) (hrun : ∀ k, k < L → isL (f (st + k))) (hd : st + L < pl ∧ isD (f (st + L))) (hq : q = dgn f st) (e8 : M1 0 8 = nI (st + L + 1)) (e12 : M1 0 12 = nI (q + 1)) (e10 : M1 10 = fun j => if j = q then sdS (sgF f st) L else M 10 j) (e11 : M1 11 = fun j => if j = q then nI L else M 11 j) (eh : M1 12 = fun j => if j = q then f (st + L) - nI 48 else M 12 j) : FS M1 f pl (st + L + 1) := by
  obtain ⟨-, -, h3, h4, h5, h6, -⟩ := hf
  have r1 := ltn_run h4 L hrun
  have r2 := dgn_run L hrun
  have r3 := rst_run h5 L hrun
  have r4 := lw_run h3 h4 L hL9 hrun
  refine ⟨e8, by rw [e12, dgn, if_pos hd.2, r2, hq], lw_go r4 (acf_1 (Or.inr ⟨hd.2, by rw [r1]; exact hL2⟩)), by rw [ltn, if_neg (fun z => isLD z hd.2)], by rw [rst, if_pos hd.2], fun k hk hD => ?_, by omega⟩
  rw [e10, e11, eh]
  show (if dgn f k = q then _ else _) = _ ∧ (if dgn f k = q then _ else _) = _ ∧ (if dgn f k = q then _ else _) = _
  rcases Nat.lt_or_ge k st with z | z
  · have hlt : dgn f k < q := by
      have h1 := dgn_mono f (i := k + 1) st (by omega)
      rw [dgn, if_pos hD] at h1
      omega
    rw [if_neg (by omega), if_neg (by omega), if_neg (by omega)]
    exact h6 k z hD
  · rcases Nat.lt_or_ge k (st + L) with y | y
    · have h1 := hrun (k - st) (by omega)
      rw [show st + (k - st) = k by omega] at h1
      exact absurd hD (isLD h1)
    · have e : k = st + L := by omega
      subst e
      rw [if_pos (by rw [r2, hq]), if_pos (by rw [r2, hq]), if_pos (by rw [r2, hq]), r3, show st + L - st = L by omega]
      exact ⟨rfl, rfl, rfl⟩
set_option maxHeartbeats 4000000 in
set_option maxRecDepth 100000 in
theorem kX2_readsName (l : Launch) (D : va_G) (ad : Nat → Nat → Nat) (cs : Nat → ClassId) (A : Nat → Prop) (z : Nat → Nat) (μ : Mm) (M : CV) (f : Nat → Int32) (h7f : M 7 = f) (pl st : Nat) (hpl : M 0 7 = nI pl) (hpl60 : pl ≤ 60) (hf : FS M f pl st) (hst : st < pl ∨ pl = 0) : KI l D ad cs A z yX2_readsName wsX2_readsName (rm 2 47) [.ref (ad 11 0)] (mb μ 11 M) (fun r μ1 => ∃ M1, μ1 = mb μ 11 M1 ∧ FO M M1 ∧ ((r = 0 ∧ ∃ sp, sp ≤ 60 ∧ M1 0 8 = nI sp ∧ ftS f pl = nI sp) ∨ (r = 1 ∧ ∃ st1, st < st1 ∧ FS M1 f pl st1))) := by
  refine KI_of (cc := cX2_readsName) (maxL := 2) (ret := (some .boolean)) (by decide) rfl (Nat.le_of_ble_eq_true rfl) ?_
  intro p e s m args below meth c hr hlk X
  show J p l e _ s m args below meth c 0 0 _ 2 D ad cs A 0 [(0, .ref (ad 11 0))] [] (mb μ 11 M)
  have hinX2 : ∀ w ∈ wsX20, w ∈ wsX2_readsName := by decide +kernel
  have k166 : (Cond.fieldLink RX2 166 "PunCourtsModel" "spot" "I").before args s = true := X.1.2.2.2.2 _ (by decide +kernel)
  have k28 : (Cond.fieldLink RX2 28 "PunCourtsModel" "sounds" "[I").before args s = true := X.1.2.2.2.2 _ (by decide +kernel)
  have k175 : (Cond.fieldLink RX2 175 "PunCourtsModel" "read" "I").before args s = true := X.1.2.2.2.2 _ (by decide +kernel)
  have k31 : (Cond.fieldLink RX2 31 "PunCourtsModel" "lengths" "[I").before args s = true := X.1.2.2.2.2 _ (by decide +kernel)
  have k34 : (Cond.fieldLink RX2 34 "PunCourtsModel" "honours" "[I").before args s = true := X.1.2.2.2.2 _ (by decide +kernel)
  have k25 : (Cond.fieldLink RX2 25 "PunCourtsModel" "text" "[I").before args s = true := X.1.2.2.2.2 _ (by decide +kernel)
  obtain ⟨q, hq⟩ : ∃ q, q = dgn f st := ⟨_, rfl⟩
  have f8 := hf.1
  have f12 : M 0 12 = nI q := by rw [hq]; exact hf.2.1
  have f3 := hf.2.2.1
  have f4 := hf.2.2.2.1
  have hsp := hf.2.2.2.2.2.2
  have hq3 := dgn3 st (fun t ht => acf_acc (lw_all st f3 t ht))
  refine j_aload_n (q := 0) X dX2_readsName_0 rfl rfl ?_
  refine j_getRB X oR hinX2 8 (by decide) rfl k166 dX2_readsName_1 ?_
  rw [f8]
  refine j_istore_n (lv' := [(1, .int (nI st)), (0, .ref (ad 11 0))]) X dX2_readsName_4 rfl (by decide) rfl ?_
  refine jl2 (G := J p l e _ s m args below meth c 0 0 _ _ D ad cs A) (pc := 5) (fun (L : Nat) (M2 : CV) => [(1, .int (nI st)), (0, .ref (ad 11 0))]) (fun (L : Nat) (M2 : CV) => (mb μ 11 M2)) (fun (L : Nat) (M2 : CV) => L ≤ 9 ∧ st + L ≤ pl ∧ (∀ k, k < L → isL (f (st + k))) ∧ M2 = us M 0 8 (nI (st + L))) (fun (L : Nat) (M2 : CV) => 9 - L) ?_ 0 M ⟨by omega, hsp, fun k hk => absurd hk (Nat.not_lt_zero _), (us_self f8).symm⟩
  intro L M2 hI5 ih5
  try dsimp only at ih5 ⊢
  obtain ⟨hL9, hLp, hrun, hM2⟩ := hI5
  have m8 : M2 0 8 = nI (st + L) := by rw [hM2, us_s]
  have m12 : M2 0 12 = nI q := by rw [hM2, us_i, if_neg (by decide)]; exact f12
  have m7 : M2 7 = f := by rw [hM2, us_n (by decide)]; exact h7f
  have mpl : M2 0 7 = nI pl := by rw [hM2, us_i, if_neg (by decide)]; exact hpl
  have mfo : FO M M2 := by rw [hM2]; exact FO.s0 (Or.inl rfl)
  refine j_aload_n (q := 1) X dX2_readsName_5 rfl rfl ?_
  refine j_getRB X oR hinX2 8 (by decide) rfl k166 dX2_readsName_6 ?_
  rw [m8]
  refine j_iload_n (q := 0) X dX2_readsName_9 rfl rfl ?_
  refine j_isub (v := (nI L)) X dX2_readsName_10 (by rw [pk_sub (by omega), Nat.add_sub_cancel_left]) ?_
  refine j_bipush (v := (nI 9)) X dX2_readsName_11 (by decide) ?_
  refine j_ncmp_ge (tgt := 40) X L 9 dX2_readsName_13 (by decide) rfl rfl (by omega) (by omega) (fun c13 => ?_) (fun c13 => ?_)
  · skip
    have hx : L = 9 ∨ ¬ (st + L < pl ∧ isL (f (st + L))) := Or.inl (by omega)
    refine j_aload_n (q := 1) X dX2_readsName_40 rfl rfl ?_
    refine j_getRB X oR hinX2 8 (by decide) rfl k166 dX2_readsName_41 ?_
    rw [m8]
    refine j_iload_n (q := 0) X dX2_readsName_44 rfl rfl ?_
    refine j_isub (v := (nI L)) X dX2_readsName_45 (by rw [pk_sub (by omega), Nat.add_sub_cancel_left]) ?_
    refine j_iconst (v := (nI 2)) X dX2_readsName_46 (by decide) ?_
    refine j_ncmp_lt (tgt := 61) X L 2 dX2_readsName_47 (by decide) rfl rfl (by omega) (by omega) (fun c47 => ?_) (fun c47 => ?_)
    · skip
      have hd : L < 2 ∨ ¬ (st + L < pl ∧ isD (f (st + L))) := Or.inl (by omega)
      refine j_iconst (v := (nI 0)) X dX2_readsName_61 (by decide) ?_
      exact j_zret X hr hlk (by first | exact Or.inl rfl | exact Or.inr rfl) ⟨M2, rfl, mfo, Or.inl ⟨rfl, st + L, by omega, m8, ft_at f3 f4 hL9 hrun hLp hst hx hd⟩⟩ dX2_readsName_62
    · skip
      refine j_aload_n (q := 1) X dX2_readsName_50 rfl rfl ?_
      refine j_bipush (v := (nI 48)) X dX2_readsName_51 (by decide) ?_
      refine j_bipush (v := (nI 57)) X dX2_readsName_53 (by decide) ?_
      refine j_callVi (As := [.int (nI 48), .int (nI 57)]) X (kX2_isHere l D ad cs A z μ M2 (st + L) pl 48 57 m8 mpl (by omega) hpl60 (by decide) (by decide)) oR rfl (cwV 2 X.1.2.2.2.2 gX2_readsName_X2_isHere rfl rfl rfl (by decide +kernel) ⟨Nat.le_of_ble_eq_true rfl, Nat.le_of_ble_eq_true rfl⟩) rfl rfl (Nat.le_of_ble_eq_true rfl) dX2_readsName_55 (fun r55 μ55 h55 => ?_)
      obtain ⟨h55, rfl⟩ := h55
      refine j_if_ne (tgt := 63) X dX2_readsName_58 (by decide) (fun c58 => ?_) (fun c58 => ?_)
      · skip
        have hd : st + L < pl ∧ isD (f (st + L)) := by have z := h55.nt c58; rw [m7] at z; exact z
        refine j_aload_n (q := 1) X dX2_readsName_63 rfl rfl ?_
        refine j_getRB X oR hinX2 9 (by decide) rfl k28 dX2_readsName_64 ?_
        refine j_aload_n (q := 1) X dX2_readsName_67 rfl rfl ?_
        refine j_getRB X oR hinX2 12 (by decide) rfl k175 dX2_readsName_68 ?_
        rw [m12]
        refine j_aload_n (q := 1) X dX2_readsName_71 rfl rfl ?_
        refine j_iload_n (q := 0) X dX2_readsName_72 rfl rfl ?_
        refine j_aload_n (q := 1) X dX2_readsName_73 rfl rfl ?_
        refine j_getRB X oR hinX2 8 (by decide) rfl k166 dX2_readsName_74 ?_
        rw [m8]
        refine j_callVi (As := [.int (nI st), .int (nI (st + L))]) X (kX2_soundOf l D ad cs A z μ M2 st L (by omega) (by rw [m7]; exact hrun)) oR rfl (cwV 2 X.1.2.2.2.2 gX2_readsName_X2_soundOf rfl rfl rfl (by decide +kernel) ⟨Nat.le_of_ble_eq_true rfl, Nat.le_of_ble_eq_true rfl⟩) rfl rfl (Nat.le_of_ble_eq_true rfl) dX2_readsName_77 (fun r77 μ77 h77 => ?_)
        obtain ⟨h77, rfl⟩ := h77
        rw [m7] at h77
        rw [h77]
        refine j_iastB X aR_10 q rfl (by omega) (by decide) (by decide) dX2_readsName_80 ?_
        refine j_nm (fun W80 eW80 => ?_)
        have w80 : ∀ j, j ≠ 99 → W80 0 j = M2 0 j := fun j _ => by rw [eW80, us_n (by decide)]
        refine j_aload_n (q := 1) X dX2_readsName_81 rfl rfl ?_
        refine j_getRB X oR hinX2 10 (by decide) rfl k31 dX2_readsName_82 ?_
        refine j_aload_n (q := 1) X dX2_readsName_85 rfl rfl ?_
        refine j_getRB X oR hinX2 12 (by decide) rfl k175 dX2_readsName_86 ?_
        rw [w80 12 (by decide), m12]
        refine j_aload_n (q := 1) X dX2_readsName_89 rfl rfl ?_
        refine j_getRB X oR hinX2 8 (by decide) rfl k166 dX2_readsName_90 ?_
        rw [w80 8 (by decide), m8]
        refine j_iload_n (q := 0) X dX2_readsName_93 rfl rfl ?_
        refine j_isub (v := (nI L)) X dX2_readsName_94 (by rw [pk_sub (by omega), Nat.add_sub_cancel_left]) ?_
        refine j_iastB X aR_11 q rfl (by omega) (by decide) (by decide) dX2_readsName_95 ?_
        refine j_nm (fun W95 eW95 => ?_)
        have w95 : ∀ j, j ≠ 99 → W95 0 j = M2 0 j := fun j _ => by rw [eW95, us_n (by decide), eW80, us_n (by decide)]
        have w957 : W95 7 (st + L) = f (st + L) := by rw [eW95, us_n (by decide), eW80, us_n (by decide), m7]
        refine j_aload_n (q := 1) X dX2_readsName_96 rfl rfl ?_
        refine j_getRB X oR hinX2 11 (by decide) rfl k34 dX2_readsName_97 ?_
        refine j_aload_n (q := 1) X dX2_readsName_100 rfl rfl ?_
        refine j_getRB X oR hinX2 12 (by decide) rfl k175 dX2_readsName_101 ?_
        rw [w95 12 (by decide), m12]
        refine j_aload_n (q := 1) X dX2_readsName_104 rfl rfl ?_
        refine j_getRB X oR hinX2 6 (by decide) rfl k25 dX2_readsName_105 ?_
        refine j_aload_n (q := 1) X dX2_readsName_108 rfl rfl ?_
        refine j_getRB X oR hinX2 8 (by decide) rfl k166 dX2_readsName_109 ?_
        rw [w95 8 (by decide), m8]
        refine j_ialdB X aR_7 (st + L) rfl (by omega) (by decide) dX2_readsName_112 ?_
        rw [w957]
        refine j_bipush (v := (nI 48)) X dX2_readsName_113 (by decide) ?_
        refine j_isub (v := ((f (st + L)) - (nI 48))) X dX2_readsName_115 rfl ?_
        refine j_iastB X aR_12 q rfl (by omega) (by decide) (by decide) dX2_readsName_116 ?_
        refine j_nm (fun W116 eW116 => ?_)
        have w116 : ∀ j, j ≠ 99 → W116 0 j = M2 0 j := fun j _ => by rw [eW116, us_n (by decide), eW95, us_n (by decide), eW80, us_n (by decide)]
        refine j_aload_n (q := 1) X dX2_readsName_117 rfl rfl ?_
        refine j_dup X dX2_readsName_118 rfl ?_
        refine j_getRB X oR hinX2 12 (by decide) rfl k175 dX2_readsName_119 ?_
        rw [w116 12 (by decide), m12]
        refine j_iconst (v := (nI 1)) X dX2_readsName_122 (by decide) ?_
        refine j_iadd (v := (nI (q + 1))) X dX2_readsName_123 (nI_add _ _) ?_
        refine j_putRB (ty := .int) X oR hinX2 12 (by decide) (fun _ => rfl) rfl rfl rfl rfl (Nat.le_of_ble_eq_true rfl) k175 dX2_readsName_124 ?_
        refine j_nm (fun W124 eW124 => ?_)
        have w124 : W124 0 8 = M2 0 8 := by rw [eW124, us_i, if_neg (by decide)]; exact w116 8 (by decide)
        refine j_aload_n (q := 1) X dX2_readsName_127 rfl rfl ?_
        refine j_dup X dX2_readsName_128 rfl ?_
        refine j_getRB X oR hinX2 8 (by decide) rfl k166 dX2_readsName_129 ?_
        rw [w124, m8]
        refine j_iconst (v := (nI 1)) X dX2_readsName_132 (by decide) ?_
        refine j_iadd (v := (nI ((st + L) + 1))) X dX2_readsName_133 (nI_add _ _) ?_
        refine j_putRB (ty := .int) X oR hinX2 8 (by decide) (fun _ => rfl) rfl rfl rfl rfl (Nat.le_of_ble_eq_true rfl) k166 dX2_readsName_134 ?_
        refine j_nm (fun W134 eW134 => ?_)
        refine j_iconst (v := (nI 1)) X dX2_readsName_137 (by decide) ?_
        exact j_zret X hr hlk (by first | exact Or.inl rfl | exact Or.inr rfl) ⟨_, rfl, ((((mfo.tr (show FO M2 W80 by rw [eW80]; exact FO.sk (Or.inl rfl))).tr (show FO W80 W95 by rw [eW95]; exact FO.sk (Or.inr (Or.inl rfl)))).tr (show FO W95 W116 by rw [eW116]; exact FO.sk (Or.inr (Or.inr rfl)))).tr (show FO W116 W124 by rw [eW124]; exact FO.s0 (Or.inr rfl))).tr (show FO W124 W134 by rw [eW134]; exact FO.s0 (Or.inl rfl)), Or.inr ⟨rfl, st + L + 1, by omega, rn_ok hf hL9 (by omega) hrun hd hq (by rw [eW134, us_s]) (by rw [eW134, us_i, if_neg (by decide), eW124, us_s]) (by rw [eW134, us_n (by decide), eW124, us_n (by decide), eW116, us_n (by decide), eW95, us_n (by decide), eW80, hM2]; funext j; rw [us_i, us_n (by decide)]) (by rw [eW134, us_n (by decide), eW124, us_n (by decide), eW116, us_n (by decide), eW95]; funext j; rw [us_i, eW80, us_n (by decide), hM2, us_n (by decide)]) (by rw [eW134, us_n (by decide), eW124, us_n (by decide), eW116]; funext j; rw [us_i, eW95, us_n (by decide), eW80, us_n (by decide), hM2, us_n (by decide)])⟩⟩ dX2_readsName_138
      · skip
        have hd : L < 2 ∨ ¬ (st + L < pl ∧ isD (f (st + L))) := Or.inr (fun z => h55.nf c58 (by rw [m7]; exact z))
        refine j_iconst (v := (nI 0)) X dX2_readsName_61 (by decide) ?_
        exact j_zret X hr hlk (by first | exact Or.inl rfl | exact Or.inr rfl) ⟨M2, rfl, mfo, Or.inl ⟨rfl, st + L, by omega, m8, ft_at f3 f4 hL9 hrun hLp hst hx hd⟩⟩ dX2_readsName_62
  · skip
    refine j_aload_n (q := 1) X dX2_readsName_16 rfl rfl ?_
    refine j_bipush (v := (nI 97)) X dX2_readsName_17 (by decide) ?_
    refine j_bipush (v := (nI 122)) X dX2_readsName_19 (by decide) ?_
    refine j_callVi (As := [.int (nI 97), .int (nI 122)]) X (kX2_isHere l D ad cs A z μ M2 (st + L) pl 97 122 m8 mpl (by omega) hpl60 (by decide) (by decide)) oR rfl (cwV 2 X.1.2.2.2.2 gX2_readsName_X2_isHere rfl rfl rfl (by decide +kernel) ⟨Nat.le_of_ble_eq_true rfl, Nat.le_of_ble_eq_true rfl⟩) rfl rfl (Nat.le_of_ble_eq_true rfl) dX2_readsName_21 (fun r21 μ21 h21 => ?_)
    obtain ⟨h21, rfl⟩ := h21
    refine j_if_eq (tgt := 40) X dX2_readsName_24 (by decide) (fun c24 => ?_) (fun c24 => ?_)
    · skip
      have hx : L = 9 ∨ ¬ (st + L < pl ∧ isL (f (st + L))) := Or.inr (fun z => h21.f c24 (by rw [m7]; exact z))
      refine j_aload_n (q := 1) X dX2_readsName_40 rfl rfl ?_
      refine j_getRB X oR hinX2 8 (by decide) rfl k166 dX2_readsName_41 ?_
      rw [m8]
      refine j_iload_n (q := 0) X dX2_readsName_44 rfl rfl ?_
      refine j_isub (v := (nI L)) X dX2_readsName_45 (by rw [pk_sub (by omega), Nat.add_sub_cancel_left]) ?_
      refine j_iconst (v := (nI 2)) X dX2_readsName_46 (by decide) ?_
      refine j_ncmp_lt (tgt := 61) X L 2 dX2_readsName_47 (by decide) rfl rfl (by omega) (by omega) (fun c47 => ?_) (fun c47 => ?_)
      · skip
        have hd : L < 2 ∨ ¬ (st + L < pl ∧ isD (f (st + L))) := Or.inl (by omega)
        refine j_iconst (v := (nI 0)) X dX2_readsName_61 (by decide) ?_
        exact j_zret X hr hlk (by first | exact Or.inl rfl | exact Or.inr rfl) ⟨M2, rfl, mfo, Or.inl ⟨rfl, st + L, by omega, m8, ft_at f3 f4 hL9 hrun hLp hst hx hd⟩⟩ dX2_readsName_62
      · skip
        refine j_aload_n (q := 1) X dX2_readsName_50 rfl rfl ?_
        refine j_bipush (v := (nI 48)) X dX2_readsName_51 (by decide) ?_
        refine j_bipush (v := (nI 57)) X dX2_readsName_53 (by decide) ?_
        refine j_callVi (As := [.int (nI 48), .int (nI 57)]) X (kX2_isHere l D ad cs A z μ M2 (st + L) pl 48 57 m8 mpl (by omega) hpl60 (by decide) (by decide)) oR rfl (cwV 2 X.1.2.2.2.2 gX2_readsName_X2_isHere rfl rfl rfl (by decide +kernel) ⟨Nat.le_of_ble_eq_true rfl, Nat.le_of_ble_eq_true rfl⟩) rfl rfl (Nat.le_of_ble_eq_true rfl) dX2_readsName_55 (fun r55 μ55 h55 => ?_)
        obtain ⟨h55, rfl⟩ := h55
        refine j_if_ne (tgt := 63) X dX2_readsName_58 (by decide) (fun c58 => ?_) (fun c58 => ?_)
        · skip
          have hd : st + L < pl ∧ isD (f (st + L)) := by have z := h55.nt c58; rw [m7] at z; exact z
          refine j_aload_n (q := 1) X dX2_readsName_63 rfl rfl ?_
          refine j_getRB X oR hinX2 9 (by decide) rfl k28 dX2_readsName_64 ?_
          refine j_aload_n (q := 1) X dX2_readsName_67 rfl rfl ?_
          refine j_getRB X oR hinX2 12 (by decide) rfl k175 dX2_readsName_68 ?_
          rw [m12]
          refine j_aload_n (q := 1) X dX2_readsName_71 rfl rfl ?_
          refine j_iload_n (q := 0) X dX2_readsName_72 rfl rfl ?_
          refine j_aload_n (q := 1) X dX2_readsName_73 rfl rfl ?_
          refine j_getRB X oR hinX2 8 (by decide) rfl k166 dX2_readsName_74 ?_
          rw [m8]
          refine j_callVi (As := [.int (nI st), .int (nI (st + L))]) X (kX2_soundOf l D ad cs A z μ M2 st L (by omega) (by rw [m7]; exact hrun)) oR rfl (cwV 2 X.1.2.2.2.2 gX2_readsName_X2_soundOf rfl rfl rfl (by decide +kernel) ⟨Nat.le_of_ble_eq_true rfl, Nat.le_of_ble_eq_true rfl⟩) rfl rfl (Nat.le_of_ble_eq_true rfl) dX2_readsName_77 (fun r77 μ77 h77 => ?_)
          obtain ⟨h77, rfl⟩ := h77
          rw [m7] at h77
          rw [h77]
          refine j_iastB X aR_10 q rfl (by omega) (by decide) (by decide) dX2_readsName_80 ?_
          refine j_nm (fun W80 eW80 => ?_)
          have w80 : ∀ j, j ≠ 99 → W80 0 j = M2 0 j := fun j _ => by rw [eW80, us_n (by decide)]
          refine j_aload_n (q := 1) X dX2_readsName_81 rfl rfl ?_
          refine j_getRB X oR hinX2 10 (by decide) rfl k31 dX2_readsName_82 ?_
          refine j_aload_n (q := 1) X dX2_readsName_85 rfl rfl ?_
          refine j_getRB X oR hinX2 12 (by decide) rfl k175 dX2_readsName_86 ?_
          rw [w80 12 (by decide), m12]
          refine j_aload_n (q := 1) X dX2_readsName_89 rfl rfl ?_
          refine j_getRB X oR hinX2 8 (by decide) rfl k166 dX2_readsName_90 ?_
          rw [w80 8 (by decide), m8]
          refine j_iload_n (q := 0) X dX2_readsName_93 rfl rfl ?_
          refine j_isub (v := (nI L)) X dX2_readsName_94 (by rw [pk_sub (by omega), Nat.add_sub_cancel_left]) ?_
          refine j_iastB X aR_11 q rfl (by omega) (by decide) (by decide) dX2_readsName_95 ?_
          refine j_nm (fun W95 eW95 => ?_)
          have w95 : ∀ j, j ≠ 99 → W95 0 j = M2 0 j := fun j _ => by rw [eW95, us_n (by decide), eW80, us_n (by decide)]
          have w957 : W95 7 (st + L) = f (st + L) := by rw [eW95, us_n (by decide), eW80, us_n (by decide), m7]
          refine j_aload_n (q := 1) X dX2_readsName_96 rfl rfl ?_
          refine j_getRB X oR hinX2 11 (by decide) rfl k34 dX2_readsName_97 ?_
          refine j_aload_n (q := 1) X dX2_readsName_100 rfl rfl ?_
          refine j_getRB X oR hinX2 12 (by decide) rfl k175 dX2_readsName_101 ?_
          rw [w95 12 (by decide), m12]
          refine j_aload_n (q := 1) X dX2_readsName_104 rfl rfl ?_
          refine j_getRB X oR hinX2 6 (by decide) rfl k25 dX2_readsName_105 ?_
          refine j_aload_n (q := 1) X dX2_readsName_108 rfl rfl ?_
          refine j_getRB X oR hinX2 8 (by decide) rfl k166 dX2_readsName_109 ?_
          rw [w95 8 (by decide), m8]
          refine j_ialdB X aR_7 (st + L) rfl (by omega) (by decide) dX2_readsName_112 ?_
          rw [w957]
          refine j_bipush (v := (nI 48)) X dX2_readsName_113 (by decide) ?_
          refine j_isub (v := ((f (st + L)) - (nI 48))) X dX2_readsName_115 rfl ?_
          refine j_iastB X aR_12 q rfl (by omega) (by decide) (by decide) dX2_readsName_116 ?_
          refine j_nm (fun W116 eW116 => ?_)
          have w116 : ∀ j, j ≠ 99 → W116 0 j = M2 0 j := fun j _ => by rw [eW116, us_n (by decide), eW95, us_n (by decide), eW80, us_n (by decide)]
          refine j_aload_n (q := 1) X dX2_readsName_117 rfl rfl ?_
          refine j_dup X dX2_readsName_118 rfl ?_
          refine j_getRB X oR hinX2 12 (by decide) rfl k175 dX2_readsName_119 ?_
          rw [w116 12 (by decide), m12]
          refine j_iconst (v := (nI 1)) X dX2_readsName_122 (by decide) ?_
          refine j_iadd (v := (nI (q + 1))) X dX2_readsName_123 (nI_add _ _) ?_
          refine j_putRB (ty := .int) X oR hinX2 12 (by decide) (fun _ => rfl) rfl rfl rfl rfl (Nat.le_of_ble_eq_true rfl) k175 dX2_readsName_124 ?_
          refine j_nm (fun W124 eW124 => ?_)
          have w124 : W124 0 8 = M2 0 8 := by rw [eW124, us_i, if_neg (by decide)]; exact w116 8 (by decide)
          refine j_aload_n (q := 1) X dX2_readsName_127 rfl rfl ?_
          refine j_dup X dX2_readsName_128 rfl ?_
          refine j_getRB X oR hinX2 8 (by decide) rfl k166 dX2_readsName_129 ?_
          rw [w124, m8]
          refine j_iconst (v := (nI 1)) X dX2_readsName_132 (by decide) ?_
          refine j_iadd (v := (nI ((st + L) + 1))) X dX2_readsName_133 (nI_add _ _) ?_
          refine j_putRB (ty := .int) X oR hinX2 8 (by decide) (fun _ => rfl) rfl rfl rfl rfl (Nat.le_of_ble_eq_true rfl) k166 dX2_readsName_134 ?_
          refine j_nm (fun W134 eW134 => ?_)
          refine j_iconst (v := (nI 1)) X dX2_readsName_137 (by decide) ?_
          exact j_zret X hr hlk (by first | exact Or.inl rfl | exact Or.inr rfl) ⟨_, rfl, ((((mfo.tr (show FO M2 W80 by rw [eW80]; exact FO.sk (Or.inl rfl))).tr (show FO W80 W95 by rw [eW95]; exact FO.sk (Or.inr (Or.inl rfl)))).tr (show FO W95 W116 by rw [eW116]; exact FO.sk (Or.inr (Or.inr rfl)))).tr (show FO W116 W124 by rw [eW124]; exact FO.s0 (Or.inr rfl))).tr (show FO W124 W134 by rw [eW134]; exact FO.s0 (Or.inl rfl)), Or.inr ⟨rfl, st + L + 1, by omega, rn_ok hf hL9 (by omega) hrun hd hq (by rw [eW134, us_s]) (by rw [eW134, us_i, if_neg (by decide), eW124, us_s]) (by rw [eW134, us_n (by decide), eW124, us_n (by decide), eW116, us_n (by decide), eW95, us_n (by decide), eW80, hM2]; funext j; rw [us_i, us_n (by decide)]) (by rw [eW134, us_n (by decide), eW124, us_n (by decide), eW116, us_n (by decide), eW95]; funext j; rw [us_i, eW80, us_n (by decide), hM2, us_n (by decide)]) (by rw [eW134, us_n (by decide), eW124, us_n (by decide), eW116]; funext j; rw [us_i, eW95, us_n (by decide), eW80, us_n (by decide), hM2, us_n (by decide)])⟩⟩ dX2_readsName_138
        · skip
          have hd : L < 2 ∨ ¬ (st + L < pl ∧ isD (f (st + L))) := Or.inr (fun z => h55.nf c58 (by rw [m7]; exact z))
          refine j_iconst (v := (nI 0)) X dX2_readsName_61 (by decide) ?_
          exact j_zret X hr hlk (by first | exact Or.inl rfl | exact Or.inr rfl) ⟨M2, rfl, mfo, Or.inl ⟨rfl, st + L, by omega, m8, ft_at f3 f4 hL9 hrun hLp hst hx hd⟩⟩ dX2_readsName_62
    · skip
      have hl : st + L < pl ∧ isL (f (st + L)) := by have z := h21.t c24; rw [m7] at z; exact z
      refine j_aload_n (q := 1) X dX2_readsName_27 rfl rfl ?_
      refine j_dup X dX2_readsName_28 rfl ?_
      refine j_getRB X oR hinX2 8 (by decide) rfl k166 dX2_readsName_29 ?_
      rw [m8]
      refine j_iconst (v := (nI 1)) X dX2_readsName_32 (by decide) ?_
      refine j_iadd (v := (nI ((st + L) + 1))) X dX2_readsName_33 (nI_add _ _) ?_
      refine j_putRB (ty := .int) X oR hinX2 8 (by decide) (fun _ => rfl) rfl rfl rfl rfl (Nat.le_of_ble_eq_true rfl) k166 dX2_readsName_34 ?_
      refine j_nm (fun W34 eW34 => ?_)
      refine j_goto (tgt := 5) X dX2_readsName_37 (by decide) ?_
      exact ih5 (L + 1) W34 ⟨by omega, by have := hl.1; omega, fun k hk => by rcases Nat.lt_or_ge k L with z | z; exact hrun k z; rw [show k = L by omega]; exact hl.2, by rw [eW34, hM2, us_over]; rfl⟩ (by omega)
