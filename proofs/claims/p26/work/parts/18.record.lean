set_option maxHeartbeats 4000000 in
set_option maxRecDepth 100000 in
theorem kX1_put (l : Launch) (D : va_G) (ad : Nat → Nat → Nat) (cs : Nat → ClassId) (A : Nat → Prop) (z : Nat → Nat) (μ : Mm) (V : CV) (pl : Nat) (hpl : V 0 7 = nI pl) (hpl60 : pl ≤ 60) (x : Int64) : KI l D ad cs A z yX1_put wsX1_put (rm 2 45) [.ref (ad 10 0), .long x] (mb μ 10 V) (fun r μ1 => ∃ n, cdR x n ∧ ((n = 0 ∧ r = -2 ∧ μ1 = mb μ 10 V) ∨ (1 ≤ n ∧ 60 < pl + n ∧ r = -4 ∧ μ1 = mb μ 10 V) ∨ (1 ≤ n ∧ pl + n ≤ 60 ∧ r = nI (pl + n) ∧ μ1 = mb μ 10 (apd V x n pl n)))) := by
  refine KI_of (cc := cX1_put) (maxL := 5) (ret := (some .int)) (by decide) rfl (Nat.le_of_ble_eq_true rfl) ?_
  intro p e s m args below meth c hr hlk X
  show J p l e _ s m args below meth c 0 0 _ 5 D ad cs A 0 [(0, .ref (ad 10 0)), (1, .long x)] [] (mb μ 10 V)
  have hinX1 : ∀ w ∈ wsX10, w ∈ wsX1_put := by decide +kernel
  have k58 : (Cond.fieldLink RX1 58 "PunCourts" "padLength" "I").before args s = true := X.1.2.2.2.2 _ (by decide +kernel)
  refine j_lload_n (q := 1) X dX1_put_0 rfl rfl ?_
  refine j_callSi (As := [.long x]) X (kX1_charactersIn l D ad cs A z μ V x) (va_cwS 1 X.1.2.2.2.2 gX1_put_X1_charactersIn rfl rfl rfl (by decide +kernel) ⟨Nat.le_of_ble_eq_true rfl, Nat.le_of_ble_eq_true rfl⟩) rfl rfl (Nat.le_of_ble_eq_true rfl) dX1_put_1 (fun r1 μ1 h1 => ?_)
  obtain ⟨⟨n, h1, hcr⟩, rfl⟩ := h1
  have hn8 := hcr.1
  rw [h1]
  refine j_istore_n (lv' := [(3, .int (nI n)), (0, .ref (ad 10 0)), (1, .long x)]) X dX1_put_4 rfl (by decide) rfl ?_
  refine j_iload_n (q := 0) X dX1_put_5 rfl rfl ?_
  refine j_if_ne (tgt := 12) X dX1_put_6 (by decide) (fun c6 => ?_) (fun c6 => ?_)
  · skip
    have hn1 : 1 ≤ n := by rcases Nat.eq_zero_or_pos n with q | q; (rw [q] at c6; exact absurd (by decide) c6); exact q
    refine j_aload_n (q := 1) X dX1_put_12 rfl rfl ?_
    refine j_getMB X oM hinX1 7 (by decide) rfl k58 dX1_put_13 ?_
    rw [hpl]
    refine j_iload_n (q := 0) X dX1_put_16 rfl rfl ?_
    refine j_iadd (v := (nI (pl + n))) X dX1_put_17 (nI_add _ _) ?_
    refine j_bipush (v := (nI 60)) X dX1_put_18 (by decide) ?_
    refine j_ncmp_le (tgt := 26) X (pl + n) 60 dX1_put_20 (by decide) rfl rfl (by omega) (by omega) (fun c20 => ?_) (fun c20 => ?_)
    · skip
      refine j_iload_n (q := 0) X dX1_put_26 rfl rfl ?_
      refine j_iconst (v := (nI 1)) X dX1_put_27 (by decide) ?_
      refine j_isub (v := (nI n - nI 1)) X dX1_put_28 rfl ?_
      refine j_istore (lv' := [(4, .int (nI n - nI 1)), (3, .int (nI n)), (0, .ref (ad 10 0)), (1, .long x)]) X dX1_put_29 (by decide) rfl ?_
      refine j_lv [0, 2, 3, 1] rfl ?_
      refine jl2 (G := J p l e _ s m args below meth c 0 0 _ _ D ad cs A) (pc := 31) (fun (j : Nat) (W : CV) => [(4, .int (nI j - nI 1)), (0, .ref (ad 10 0)), (1, .long x), (3, .int (nI n))]) (fun (j : Nat) (W : CV) => (mb μ 10 W)) (fun (j : Nat) (W : CV) => j ≤ n ∧ W = apd V x n pl (n - j) ∧ W 0 7 = nI (pl + (n - j))) (fun (j : Nat) (W : CV) => j) ?_ n V ⟨by omega, by rw [Nat.sub_self]; rfl, by rw [Nat.sub_self]; exact hpl⟩
      intro j W hI31 ih31
      try dsimp only at ih31 ⊢
      obtain ⟨hj, hW, hW7⟩ := hI31
      refine j_iload (q := 0) X dX1_put_31 rfl ?_
      refine j_if_lt (tgt := 53) X dX1_put_33 (by decide) (fun c33 => ?_) (fun c33 => ?_)
      · skip
        have hj0 := sub1_t (by omega) c33
        subst hj0
        refine j_aload_n (q := 1) X dX1_put_53 rfl rfl ?_
        refine j_getMB X oM hinX1 7 (by decide) rfl k58 dX1_put_54 ?_
        rw [hW7]
        exact j_iret X hr hlk ⟨n, hcr, Or.inr (Or.inr ⟨hn1, by omega, rfl, by rw [hW]; rfl⟩)⟩ dX1_put_57
      · skip
        have hj1 := sub1_f c33
        rw [pk_sub hj1]
        obtain ⟨q3, q3a, q3b, q3e⟩ := cdG_n ((hcr.2.1 (by omega)).2.1 (j - 1) (by omega))
        refine j_aload_n (q := 1) X dX1_put_36 rfl rfl ?_
        refine j_lload_n (q := 2) X dX1_put_37 rfl rfl ?_
        refine j_iload (q := 0) X dX1_put_38 rfl ?_
        refine j_callSi (As := [.long x, .int (nI (j - 1))]) X (kX1_codeAt l D ad cs A z μ W x (j - 1) (by omega)) (va_cwS 2 X.1.2.2.2.2 gX1_put_X1_codeAt rfl rfl rfl (by decide +kernel) ⟨Nat.le_of_ble_eq_true rfl, Nat.le_of_ble_eq_true rfl⟩) rfl rfl (Nat.le_of_ble_eq_true rfl) dX1_put_40 (fun r40 μ40 h40 => ?_)
        obtain ⟨h40, rfl⟩ := h40
        rw [h40]
        refine j_i2c (v := (cdA x (j - 1))) X dX1_put_43 (by rw [q3e]; exact i2c_n (by omega)) ?_
        refine j_callVv (As := [.int (cdA x (j - 1))]) X (kX1_append l D ad cs A z μ W (pl + (n - j)) hW7 (by omega) (cdA x (j - 1)) ⟨q3, by omega, q3e⟩) oM rfl (cwV 1 X.1.2.2.2.2 gX1_put_X1_append rfl rfl rfl (by decide +kernel) ⟨Nat.le_of_ble_eq_true rfl, Nat.le_of_ble_eq_true rfl⟩) rfl rfl (Nat.le_of_ble_eq_true rfl) dX1_put_44 (fun μ44 h44 => ?_)
        subst h44
        refine j_iinc (q := 0) (v := (nI (j - 1) - nI 1)) (lv' := [(4, .int (nI (j - 1) - nI 1)), (0, .ref (ad 10 0)), (1, .long x), (3, .int (nI n))]) X dX1_put_47 rfl (iinc_m1 _) (by decide) rfl ?_
        refine j_goto (tgt := 31) X dX1_put_50 (by decide) ?_
        exact ih31 (j - 1) (us (us W 7 (pl + (n - j)) (cdA x (j - 1))) 0 7 (nI (pl + (n - j) + 1))) ⟨by omega, by rw [show n - (j - 1) = (n - j) + 1 by omega, apd, ← hW, show n - 1 - (n - j) = j - 1 by omega], by rw [us_s, show n - (j - 1) = (n - j) + 1 by omega]; rfl⟩ (by omega)
    · skip
      refine j_bipush (v := (-4)) X dX1_put_23 (by decide) ?_
      exact j_iret X hr hlk ⟨n, hcr, Or.inr (Or.inl ⟨hn1, by omega, rfl, rfl⟩)⟩ dX1_put_25
  · skip
    have hn0 : n = 0 := by rcases Nat.eq_zero_or_pos n with q | q; exact q; exact absurd (Classical.not_not.mp c6) (nI_ne0 q (by omega))
    refine j_bipush (v := (-2)) X dX1_put_9 (by decide) ?_
    exact j_iret X hr hlk ⟨n, hcr, Or.inl ⟨hn0, rfl, rfl⟩⟩ dX1_put_11
set_option maxHeartbeats 4000000 in
set_option maxRecDepth 100000 in
theorem kX1_wipe (l : Launch) (D : va_G) (ad : Nat → Nat → Nat) (cs : Nat → ClassId) (A : Nat → Prop) (z : Nat → Nat) (μ : Mm) (V : CV) (pl : Nat) (hpl : V 0 7 = nI pl) (hpl60 : pl ≤ 60) : KI l D ad cs A z yX1_wipe wsX1_wipe (rm 0 0) [.ref (ad 10 0)] (mb μ 10 V) (fun r μ1 => r = nI pl ∧ μ1 = mb μ 10 (us V 0 7 (nI 0))) := by
  refine KI_of (cc := cX1_wipe) (maxL := 2) (ret := (some .int)) (by decide) rfl (Nat.le_of_ble_eq_true rfl) ?_
  intro p e s m args below meth c hr hlk X
  show J p l e _ s m args below meth c 0 0 _ 2 D ad cs A 0 [(0, .ref (ad 10 0))] [] (mb μ 10 V)
  have hinX1 : ∀ w ∈ wsX10, w ∈ wsX1_wipe := by decide +kernel
  have k58 : (Cond.fieldLink RX1 58 "PunCourts" "padLength" "I").before args s = true := X.1.2.2.2.2 _ (by decide +kernel)
  refine j_aload_n (q := 0) X dX1_wipe_0 rfl rfl ?_
  refine j_getMB X oM hinX1 7 (by decide) rfl k58 dX1_wipe_1 ?_
  rw [hpl]
  refine j_istore_n (lv' := [(1, .int (nI pl)), (0, .ref (ad 10 0))]) X dX1_wipe_4 rfl (by decide) rfl ?_
  refine j_aload_n (q := 1) X dX1_wipe_5 rfl rfl ?_
  refine j_iconst (v := (nI 0)) X dX1_wipe_6 (by decide) ?_
  refine j_putMB (ty := .int) X oM hinX1 7 (by decide) (fun _ => rfl) rfl rfl rfl rfl (Nat.le_of_ble_eq_true rfl) k58 dX1_wipe_7 ?_
  refine j_iload_n (q := 0) X dX1_wipe_10 rfl rfl ?_
  exact j_iret X hr hlk ⟨rfl, rfl⟩ dX1_wipe_11

set_option maxHeartbeats 4000000 in
set_option maxRecDepth 100000 in
theorem kX1_record (l : Launch) (D : va_G) (ad : Nat → Nat → Nat) (cs : Nat → ClassId) (A : Nat → Prop) (z : Nat → Nat) (μ : Mm) (V : CV) (h : Nat) (hc : Nat → CV) (s0 s1 : CV) (u : Nat → Int32) (pl : Nat) (pd : Nat → Int32) (hG : GS μ V h hc s0 s1 u pl pd) (hbo : isBo (V 0 14)) : KV l D ad cs A z yX1_record wsX1_record (rm 3 82) [.ref (ad 10 0)] μ (fun μ1 => GS μ1 V (rech h) (recH hc h V) s0 s1 u pl pd ∧ μ1 11 = μ 11) := by
  refine KV_of (cc := cX1_record) (maxL := 3) (ret := none) (by decide) rfl (Nat.le_of_ble_eq_true rfl) ?_
  intro p e s m args below meth c hr hlk X
  show J p l e _ s m args below meth c 0 0 _ 3 D ad cs A 0 [(0, .ref (ad 10 0))] [] μ
  have hinX1 : ∀ w ∈ wsX10, w ∈ wsX1_record := by decide +kernel
  have k163 : (Cond.fieldLink RX1 163 "PunCourts" "pastLength" "I").before args s = true := X.1.2.2.2.2 _ (by decide +kernel)
  have k10 : (Cond.fieldLink RX1 10 "PunCourts" "now" "LPunCourts$Court;").before args s = true := X.1.2.2.2.2 _ (by decide +kernel)
  have k19 : (Cond.fieldLink RX1 19 "PunCourts" "past" "[LPunCourts$Court;").before args s = true := X.1.2.2.2.2 _ (by decide +kernel)
  obtain ⟨π, hx, hhc⟩ := hG.2.1
  have hh := hx.2.2.2
  have hh6 := hx.2.2.1
  refine j_aload_n (q := 0) X dX1_record_0 rfl rfl ?_
  refine j_getM X oM hinX1 3 (by decide) rfl k163 dX1_record_1 ?_
  rw [hh]
  refine j_bipush (v := (nI 6)) X dX1_record_4 (by decide) ?_
  refine j_ncmp_lt (tgt := 56) X h 6 dX1_record_6 (by decide) rfl rfl (by omega) (by omega) (fun c6 => ?_) (fun c6 => ?_)
  · skip
    have hph := hx.1 h (by omega)
    refine j_aload_n (q := 0) X dX1_record_56 rfl rfl ?_
    refine j_getM X oM hinX1 3 (by decide) rfl k163 dX1_record_57 ?_
    rw [hh]
    refine j_if_lt (tgt := 89) X dX1_record_60 (by decide) (fun c60 => absurd c60 (nI_pos (by omega))) (fun c60 => ?_)
    refine j_aload_n (q := 0) X dX1_record_63 rfl rfl ?_
    refine j_getM X oM hinX1 0 (by decide) rfl k10 dX1_record_64 ?_
    refine j_aload_n (q := 0) X dX1_record_67 rfl rfl ?_
    refine j_getM X oM hinX1 2 (by decide) rfl k19 dX1_record_68 ?_
    refine j_aload_n (q := 0) X dX1_record_71 rfl rfl ?_
    refine j_getM X oM hinX1 3 (by decide) rfl k163 dX1_record_72 ?_
    rw [hh]
    refine j_aald X qM_3 h rfl (by omega) (by decide) (π h) (hx.1 h (by omega)).2.2 (by omega) dX1_record_75 ?_
    refine j_eq (mb_self (μ := (μ)) (b := (π h))).symm ?_
    refine j_callSv (As := [.ref (ad 0 0), .ref (ad (π h) 0)]) X (kX1_copy l D ad cs A z (b0 := 0) (b1 := (π h)) (by decide) (by omega) (by omega) (μ) (μ (π h)) (by rw [hG.1]; exact hbo)) (va_cwS 2 X.1.2.2.2.2 gX1_record_X1_copy rfl rfl rfl (by decide +kernel) ⟨Nat.le_of_ble_eq_true rfl, Nat.le_of_ble_eq_true rfl⟩) rfl rfl (Nat.le_of_ble_eq_true rfl) dX1_record_76 (fun μ76 h76 => ?_)
    refine j_aload_n (q := 0) X dX1_record_79 rfl rfl ?_
    refine j_dup X dX1_record_80 rfl ?_
    refine j_getM X oM hinX1 3 (by decide) rfl k163 dX1_record_81 ?_
    rw [show μ76 10 0 3 = nI h by rw [h76, mb_n (by have := (hx.1 h (by omega)).2.1; omega)]; exact hh]
    refine j_iconst (v := (nI 1)) X dX1_record_84 (by decide) ?_
    refine j_iadd (v := (nI (h + 1))) X dX1_record_85 (nI_add _ _) ?_
    refine j_putM (ty := .int) X oM hinX1 3 (by decide) (fun _ => rfl) rfl rfl rfl rfl (Nat.le_of_ble_eq_true rfl) k163 dX1_record_86 ?_
    exact j_vret X hr hlk (by rw [h76]; exact rec_lt hG hx hhc (by omega)) dX1_record_89
  · skip
    have h6 : h = 6 := by have := hx.2.2.1; omega
    subst h6
    have hp0 := hx.1 0 (by omega)
    refine j_aload_n (q := 0) X dX1_record_9 rfl rfl ?_
    refine j_getM X oM hinX1 2 (by decide) rfl k19 dX1_record_10 ?_
    refine j_iconst (v := (nI 0)) X dX1_record_13 (by decide) ?_
    refine j_aald X qM_3 0 rfl (by decide) (by decide) (π 0) (hx.1 0 (by omega)).2.2 (by omega) dX1_record_14 ?_
    refine j_astore_n (lv' := [(1, .ref (ad (π 0) 0)), (0, .ref (ad 10 0))]) X dX1_record_15 rfl (by decide) rfl ?_
    refine j_iconst (v := (nI 1)) X dX1_record_16 (by decide) ?_
    refine j_istore_n (lv' := [(2, .int (nI 1)), (1, .ref (ad (π 0) 0)), (0, .ref (ad 10 0))]) X dX1_record_17 rfl (by decide) rfl ?_
    refine jl2 (G := J p l e _ s m args below meth c 0 0 _ _ D ad cs A) (pc := 18) (fun (i : Nat) (W : Mm) => [(2, .int (nI i)), (1, .ref (ad (π 0) 0)), (0, .ref (ad 10 0))]) (fun (i : Nat) (W : Mm) => W) (fun (i : Nat) (W : Mm) => 1 ≤ i ∧ i ≤ 6 ∧ W = rot μ π i) (fun (i : Nat) (W : Mm) => 6 - i) ?_ 1 (μ) ⟨by omega, by omega, rot_1.symm⟩
    intro i W hI18 ih18
    try dsimp only at ih18 ⊢
    obtain ⟨hi1, hi, hW⟩ := hI18
    have hpi : i < 6 → 2 ≤ π i ∧ π i < 8 := fun q => ⟨(hx.1 i q).1, (hx.1 i q).2.1⟩
    refine j_iload_n (q := 0) X dX1_record_18 rfl rfl ?_
    refine j_bipush (v := (nI 6)) X dX1_record_19 (by decide) ?_
    refine j_ncmp_ge (tgt := 44) X i 6 dX1_record_21 (by decide) rfl rfl (by omega) (by omega) (fun c21 => ?_) (fun c21 => ?_)
    · skip
      refine j_aload_n (q := 2) X dX1_record_44 rfl rfl ?_
      refine j_getM X oM hinX1 2 (by decide) rfl k19 dX1_record_45 ?_
      refine j_iconst (v := (nI 5)) X dX1_record_48 (by decide) ?_
      refine j_aload_n (q := 1) X dX1_record_49 rfl rfl ?_
      refine j_aast X qM_3 (by decide) (by decide) 5 rfl (by decide) (by decide) (π 0) (by omega) dX1_record_50 ?_
      refine j_ng (fun W50 e50 => ?_)
      refine j_aload_n (q := 2) X dX1_record_51 rfl rfl ?_
      refine j_iconst (v := (nI 5)) X dX1_record_52 (by decide) ?_
      refine j_putM (ty := .int) X oM hinX1 3 (by decide) (fun _ => rfl) rfl rfl rfl rfl (Nat.le_of_ble_eq_true rfl) k163 dX1_record_53 ?_
      refine j_ng (fun W53 e53 => ?_)
      refine j_aload_n (q := 2) X dX1_record_56 rfl rfl ?_
      refine j_getM X oM hinX1 3 (by decide) rfl k163 dX1_record_57 ?_
      rw [show W53 10 0 3 = nI 5 by rw [e53, ms_s]]
      refine j_if_lt (tgt := 89) X dX1_record_60 (by decide) (fun c60 => absurd c60 (by decide)) (fun c60 => ?_)
      refine j_aload_n (q := 2) X dX1_record_63 rfl rfl ?_
      refine j_getM X oM hinX1 0 (by decide) rfl k10 dX1_record_64 ?_
      refine j_aload_n (q := 2) X dX1_record_67 rfl rfl ?_
      refine j_getM X oM hinX1 2 (by decide) rfl k19 dX1_record_68 ?_
      refine j_aload_n (q := 2) X dX1_record_71 rfl rfl ?_
      refine j_getM X oM hinX1 3 (by decide) rfl k163 dX1_record_72 ?_
      rw [show W53 10 0 3 = nI 5 by rw [e53, ms_s]]
      refine j_aald X qM_3 5 rfl (by decide) (by decide) (π 0) (by rw [e53, ms_n (Or.inr (by decide)), e50, ms_s]) (by omega) dX1_record_75 ?_
      refine j_eq (mb_self (μ := W53) (b := (π 0))).symm ?_
      refine j_callSv (As := [.ref (ad 0 0), .ref (ad (π 0) 0)]) X (kX1_copy l D ad cs A z (b0 := 0) (b1 := (π 0)) (by decide) (by omega) (by omega) W53 (W53 (π 0)) (by rw [e53, ms_mb, mb_n (by decide), e50, ms_mb, mb_n (by decide), hW, rot, mb_n (by decide), hG.1]; exact hbo)) (va_cwS 2 X.1.2.2.2.2 gX1_record_X1_copy rfl rfl rfl (by decide +kernel) ⟨Nat.le_of_ble_eq_true rfl, Nat.le_of_ble_eq_true rfl⟩) rfl rfl (Nat.le_of_ble_eq_true rfl) dX1_record_76 (fun μ76 h76 => ?_)
      refine j_aload_n (q := 2) X dX1_record_79 rfl rfl ?_
      refine j_dup X dX1_record_80 rfl ?_
      refine j_getM X oM hinX1 3 (by decide) rfl k163 dX1_record_81 ?_
      rw [show μ76 10 0 3 = nI 5 by rw [h76, mb_n (by have := (hx.1 0 (by omega)).2.1; omega), e53, ms_s]]
      refine j_iconst (v := (nI 1)) X dX1_record_84 (by decide) ?_
      refine j_iadd (v := (nI 6)) X dX1_record_85 (nI_add _ _) ?_
      refine j_putM (ty := .int) X oM hinX1 3 (by decide) (fun _ => rfl) rfl rfl rfl rfl (Nat.le_of_ble_eq_true rfl) k163 dX1_record_86 ?_
      exact j_vret X hr hlk (by rw [h76]; exact rec_6 hG hx hhc (W := W53) (by rw [e53, e50, hW, show i = 6 by omega])) dX1_record_89
    · skip
      have hpi := hpi (by omega)
      refine j_aload_n (q := 2) X dX1_record_24 rfl rfl ?_
      refine j_getM X oM hinX1 2 (by decide) rfl k19 dX1_record_25 ?_
      refine j_iload_n (q := 0) X dX1_record_28 rfl rfl ?_
      refine j_iconst (v := (nI 1)) X dX1_record_29 (by decide) ?_
      refine j_isub (v := (nI (i - 1))) X dX1_record_30 (pk_sub (by omega)) ?_
      refine j_aload_n (q := 2) X dX1_record_31 rfl rfl ?_
      refine j_getM X oM hinX1 2 (by decide) rfl k19 dX1_record_32 ?_
      refine j_iload_n (q := 0) X dX1_record_35 rfl rfl ?_
      refine j_aald X qM_3 i rfl (by omega) (by decide) (π i) (by rw [hW, rot_at (by omega)]; exact (hx.1 i (by omega)).2.2) (by omega) dX1_record_36 ?_
      refine j_aast X qM_3 (by decide) (by decide) (i - 1) rfl (by omega) (by decide) (π i) (by omega) dX1_record_37 ?_
      refine j_iinc (q := 0) (v := (nI (i + 1))) (lv' := [(2, .int (nI (i + 1))), (1, .ref (ad (π 0) 0)), (0, .ref (ad 10 0))]) X dX1_record_38 rfl (nI_1 _) (by decide) rfl ?_
      refine j_goto (tgt := 18) X dX1_record_41 (by decide) ?_
      exact ih18 (i + 1) (ms W 10 3 (i - 1) (nI (π i))) ⟨by omega, by omega, by rw [hW]; exact rot_s hi1⟩ (by omega)
