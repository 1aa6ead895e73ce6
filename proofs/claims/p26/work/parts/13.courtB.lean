set_option maxHeartbeats 4000000 in
set_option maxRecDepth 100000 in
theorem kX0_around (l : Launch) (D : va_G) (ad : Nat → Nat → Nat) (cs : Nat → ClassId) (A : Nat → Prop) (z : Nat → Nat) {b : Nat} (hb : b < 10) (μ : Mm) (V : CV) (a : Nat) (ha : V 1 0 = nI a) (ha11 : a ≤ 11) (c0 : Nat) (hc : c0 < 12) : KI l D ad cs A z yX0_around wsX0_around (rm 1 21) [.ref (ad b 0), .int (nI c0)] (mb μ b V) (fun r μ1 => (∀ d, d < 12 → bt r d = decide (nearC a d c0)) ∧ μ1 = mb μ b V) := by
  refine KI_of (cc := cX0_around) (maxL := 6) (ret := (some .int)) (by decide) rfl (Nat.le_of_ble_eq_true rfl) ?_
  intro p e s m args below meth c hr hlk X
  show J p l e _ s m args below meth c 0 0 _ 6 D ad cs A 0 [(0, .ref (ad b 0)), (1, .int (nI c0))] [] (mb μ b V)
  have hinX0 : ∀ w ∈ wsX00, w ∈ wsX0_around := by decide +kernel
  have k9 : (Cond.fieldLink RX0 9 "PunCourts$Court" "settings" "[I").before args s = true := X.1.2.2.2.2 _ (by decide +kernel)
  refine j_iconst (v := (nI 0)) X dX0_around_0 (by decide) ?_
  refine j_iload_n (q := 1) X dX0_around_1 rfl rfl ?_
  refine j_aload_n (q := 0) X dX0_around_2 rfl rfl ?_
  refine j_getCB X (oC hb) hinX0 0 (by decide) rfl k9 dX0_around_3 ?_
  refine j_iconst (v := (nI 0)) X dX0_around_6 (by decide) ?_
  refine j_ialdB X (aC_1 hb) 0 rfl (by decide) (by decide) dX0_around_7 ?_
  rw [ha]
  refine j_isub (v := (nI c0 - nI a)) X dX0_around_8 rfl ?_
  refine j_mmax (v := (nI (c0 - a))) X (X.1.2.2.2.2 _ (by decide +kernel)) (X.1.2.2.2.2 _ (by decide +kernel)) (X.1.2.2.2.2 _ (by decide +kernel)) (X.1.2.2.2.2 _ (by decide +kernel)) (Nat.le_of_ble_eq_true rfl) (Nat.le_of_ble_eq_true rfl) (mx_sub (by omega) (by omega)) dX0_around_9 ?_
  refine j_istore_n (lv' := [(2, .int (nI (c0 - a))), (0, .ref (ad b 0)), (1, .int (nI c0))]) X dX0_around_12 rfl (by decide) rfl ?_
  refine j_bipush (v := (nI 11)) X dX0_around_13 (by decide) ?_
  refine j_iload_n (q := 2) X dX0_around_15 rfl rfl ?_
  refine j_aload_n (q := 1) X dX0_around_16 rfl rfl ?_
  refine j_getCB X (oC hb) hinX0 0 (by decide) rfl k9 dX0_around_17 ?_
  refine j_iconst (v := (nI 0)) X dX0_around_20 (by decide) ?_
  refine j_ialdB X (aC_1 hb) 0 rfl (by decide) (by decide) dX0_around_21 ?_
  rw [ha]
  refine j_iadd (v := (nI (c0 + a))) X dX0_around_22 (nI_add _ _) ?_
  refine j_mmin (v := (nI (min 11 (c0 + a)))) X (X.1.2.2.2.2 _ (by decide +kernel)) (X.1.2.2.2.2 _ (by decide +kernel)) (X.1.2.2.2.2 _ (by decide +kernel)) (X.1.2.2.2.2 _ (by decide +kernel)) (Nat.le_of_ble_eq_true rfl) (Nat.le_of_ble_eq_true rfl) (mn_add (by omega)) dX0_around_23 ?_
  refine j_istore_n (lv' := [(3, .int (nI (min 11 (c0 + a)))), (2, .int (nI (c0 - a))), (0, .ref (ad b 0)), (1, .int (nI c0))]) X dX0_around_26 rfl (by decide) rfl ?_
  refine j_iconst (v := (nI 0)) X dX0_around_27 (by decide) ?_
  refine j_istore (lv' := [(4, .int (nI 0)), (3, .int (nI (min 11 (c0 + a)))), (2, .int (nI (c0 - a))), (0, .ref (ad b 0)), (1, .int (nI c0))]) X dX0_around_28 (by decide) rfl ?_
  refine j_iload_n (q := 2) X dX0_around_30 rfl rfl ?_
  refine j_istore (lv' := [(5, .int (nI (c0 - a))), (4, .int (nI 0)), (3, .int (nI (min 11 (c0 + a)))), (2, .int (nI (c0 - a))), (0, .ref (ad b 0)), (1, .int (nI c0))]) X dX0_around_31 (by decide) rfl ?_
  refine j_lv [0, 1, 4, 5, 3, 2] rfl ?_
  refine jl2 (G := J p l e _ s m args below meth c 0 0 _ _ D ad cs A) (pc := 33) (fun (i : Nat) (m1 : Int32) => [(5, .int (nI i)), (4, .int m1), (0, .ref (ad b 0)), (1, .int (nI c0)), (2, .int (nI (c0 - a))), (3, .int (nI (min 11 (c0 + a))))]) (fun (i : Nat) (m1 : Int32) => (mb μ b V)) (fun (i : Nat) (m1 : Int32) => c0 - a ≤ i ∧ i ≤ min 11 (c0 + a) + 1 ∧ ∀ d, d < 12 → bt m1 d = decide (nearC a d c0 ∧ d < i)) (fun (i : Nat) (m1 : Int32) => 12 - i) ?_ (c0 - a) (nI 0) ⟨by omega, by omega, fun d hd => by rw [b_n0]; exact (decide_eq_false (by simp only [nearC]; omega)).symm⟩
  intro i m1 hI33 ih33
  try dsimp only at ih33 ⊢
  obtain ⟨hi, hi2, hm⟩ := hI33
  refine j_iload (q := 0) X dX0_around_33 rfl ?_
  refine j_iload_n (q := 5) X dX0_around_35 rfl rfl ?_
  refine j_ncmp_gt (tgt := 60) X i (min 11 (c0 + a)) dX0_around_36 (by decide) rfl rfl (by omega) (by omega) (fun c36 => ?_) (fun c36 => ?_)
  · skip
    refine j_iload (q := 1) X dX0_around_60 rfl ?_
    exact j_iret X hr hlk ⟨fun d hd => by rw [hm d hd]; exact Bool.eq_iff_iff.mpr (by simp only [decide_eq_true_eq, nearC]; omega), rfl⟩ dX0_around_62
  · skip
    refine j_iload (q := 0) X dX0_around_39 rfl ?_
    refine j_iload_n (q := 3) X dX0_around_41 rfl rfl ?_
    refine j_ncmp_eq (tgt := 54) X i c0 dX0_around_42 (by decide) rfl rfl (by omega) (by omega) (fun c42 => ?_) (fun c42 => ?_)
    · skip
      refine j_iinc (q := 0) (v := (nI (i + 1))) (lv' := [(5, .int (nI (i + 1))), (4, .int m1), (0, .ref (ad b 0)), (1, .int (nI c0)), (2, .int (nI (c0 - a))), (3, .int (nI (min 11 (c0 + a))))]) X dX0_around_54 rfl (nI_1 _) (by decide) rfl ?_
      refine j_goto (tgt := 33) X dX0_around_57 (by decide) ?_
      exact ih33 (i + 1) m1 ⟨by omega, by omega, fun d hd => by rw [hm d hd]; exact Bool.eq_iff_iff.mpr (by simp only [Bool.or_eq_true, decide_eq_true_eq, nearC]; omega)⟩ (by omega)
    · skip
      refine j_iload (q := 1) X dX0_around_45 rfl ?_
      refine j_iconst (v := (nI 1)) X dX0_around_47 (by decide) ?_
      refine j_iload (q := 0) X dX0_around_48 rfl ?_
      refine j_ishl (v := ((nI 1) <<< ((nI i) &&& 31))) X dX0_around_50 rfl ?_
      refine j_ior (v := (m1 ||| ((nI 1) <<< ((nI i) &&& 31)))) X dX0_around_51 rfl ?_
      refine j_istore (lv' := [(4, .int (m1 ||| ((nI 1) <<< ((nI i) &&& 31)))), (5, .int (nI i)), (0, .ref (ad b 0)), (1, .int (nI c0)), (2, .int (nI (c0 - a))), (3, .int (nI (min 11 (c0 + a))))]) X dX0_around_52 (by decide) rfl ?_
      refine j_iinc (q := 1) (v := (nI (i + 1))) (lv' := [(5, .int (nI (i + 1))), (4, .int (m1 ||| ((nI 1) <<< ((nI i) &&& 31)))), (0, .ref (ad b 0)), (1, .int (nI c0)), (2, .int (nI (c0 - a))), (3, .int (nI (min 11 (c0 + a))))]) X dX0_around_54 rfl (nI_1 _) (by decide) rfl ?_
      refine j_goto (tgt := 33) X dX0_around_57 (by decide) ?_
      exact ih33 (i + 1) (m1 ||| ((nI 1) <<< ((nI i) &&& 31))) ⟨by omega, by omega, fun d hd => by rw [b_or, b_tw i d (by omega), hm d hd]; exact Bool.eq_iff_iff.mpr (by simp only [Bool.or_eq_true, decide_eq_true_eq, nearC]; omega)⟩ (by omega)
set_option maxHeartbeats 4000000 in
set_option maxRecDepth 100000 in
theorem kX0_nearPuns (l : Launch) (D : va_G) (ad : Nat → Nat → Nat) (cs : Nat → ClassId) (A : Nat → Prop) (z : Nat → Nat) {b : Nat} (hb : b < 10) (μ : Mm) (V : CV) (a : Nat) (ha : V 1 0 = nI a) (ha11 : a ≤ 11) (n : Nat) (hn : n < 20) : KI l D ad cs A z yX0_nearPuns wsX0_nearPuns (rm 2 46) [.ref (ad b 0), .int (nI n)] (mb μ b V) (fun r μ1 => (∀ c, c < 12 → bt r c = nearB V a n c 12) ∧ μ1 = mb μ b V) := by
  refine KI_of (cc := cX0_nearPuns) (maxL := 4) (ret := (some .int)) (by decide) rfl (Nat.le_of_ble_eq_true rfl) ?_
  intro p e s m args below meth c hr hlk X
  show J p l e _ s m args below meth c 0 0 _ 4 D ad cs A 0 [(0, .ref (ad b 0)), (1, .int (nI n))] [] (mb μ b V)
  have hinX0 : ∀ w ∈ wsX00, w ∈ wsX0_nearPuns := by decide +kernel
  have k35 : (Cond.fieldLink RX0 35 "PunCourts$Court" "borne" "[I").before args s = true := X.1.2.2.2.2 _ (by decide +kernel)
  refine j_iconst (v := (nI 0)) X dX0_nearPuns_0 (by decide) ?_
  refine j_istore_n (lv' := [(2, .int (nI 0)), (0, .ref (ad b 0)), (1, .int (nI n))]) X dX0_nearPuns_1 rfl (by decide) rfl ?_
  refine j_iconst (v := (nI 0)) X dX0_nearPuns_2 (by decide) ?_
  refine j_istore_n (lv' := [(3, .int (nI 0)), (2, .int (nI 0)), (0, .ref (ad b 0)), (1, .int (nI n))]) X dX0_nearPuns_3 rfl (by decide) rfl ?_
  refine jl2 (G := J p l e _ s m args below meth c 0 0 _ _ D ad cs A) (pc := 4) (fun (i : Nat) (m1 : Int32) => [(3, .int (nI i)), (2, .int m1), (0, .ref (ad b 0)), (1, .int (nI n))]) (fun (i : Nat) (m1 : Int32) => (mb μ b V)) (fun (i : Nat) (m1 : Int32) => i ≤ 12 ∧ ∀ c, c < 12 → bt m1 c = nearB V a n c i) (fun (i : Nat) (m1 : Int32) => 12 - i) ?_ 0 (nI 0) ⟨by omega, fun c hc => b_n0 c⟩
  intro i m1 hI4 ih4
  try dsimp only at ih4 ⊢
  obtain ⟨hi, hm⟩ := hI4
  refine j_iload_n (q := 0) X dX0_nearPuns_4 rfl rfl ?_
  refine j_bipush (v := (nI 12)) X dX0_nearPuns_5 (by decide) ?_
  refine j_ncmp_ge (tgt := 38) X i 12 dX0_nearPuns_7 (by decide) rfl rfl (by omega) (by omega) (fun c7 => ?_) (fun c7 => ?_)
  · skip
    refine j_iload_n (q := 1) X dX0_nearPuns_38 rfl rfl ?_
    exact j_iret X hr hlk ⟨fun c hc => by rw [hm c hc, show i = 12 by omega], rfl⟩ dX0_nearPuns_39
  · skip
    refine j_aload_n (q := 2) X dX0_nearPuns_10 rfl rfl ?_
    refine j_iload_n (q := 3) X dX0_nearPuns_11 rfl rfl ?_
    refine j_aload_n (q := 2) X dX0_nearPuns_12 rfl rfl ?_
    refine j_getCB X (oC hb) hinX0 9 (by decide) rfl k35 dX0_nearPuns_13 ?_
    refine j_iload_n (q := 0) X dX0_nearPuns_16 rfl rfl ?_
    refine j_ialdB X (aC_10 hb) i rfl (by omega) (by decide) dX0_nearPuns_17 ?_
    refine j_callVi (As := [.int (nI n), .int (V 10 i)]) X (kX0_isPun l D ad cs A z hb μ V (nI n) (V 10 i)) (oC hb) rfl (cwV 2 X.1.2.2.2.2 gX0_nearPuns_X0_isPun rfl rfl rfl (by decide +kernel) ⟨Nat.le_of_ble_eq_true rfl, Nat.le_of_ble_eq_true rfl⟩) rfl rfl (Nat.le_of_ble_eq_true rfl) dX0_nearPuns_18 (fun r18 μ18 h18 => ?_)
    obtain ⟨h18, rfl⟩ := h18
    refine j_if_eq (tgt := 32) X dX0_nearPuns_21 (by decide) (fun c21 => ?_) (fun c21 => ?_)
    · skip
      have hw := h18.f c21
      refine j_iinc (q := 0) (v := (nI (i + 1))) (lv' := [(3, .int (nI (i + 1))), (2, .int m1), (0, .ref (ad b 0)), (1, .int (nI n))]) X dX0_nearPuns_32 rfl (nI_1 _) (by decide) rfl ?_
      refine j_goto (tgt := 4) X dX0_nearPuns_35 (by decide) ?_
      exact ih4 (i + 1) m1 ⟨by omega, fun c hc => by rw [hm c hc, nearB]; simp [hw]⟩ (by omega)
    · skip
      have hw := h18.t c21
      refine j_iload_n (q := 1) X dX0_nearPuns_24 rfl rfl ?_
      refine j_aload_n (q := 2) X dX0_nearPuns_25 rfl rfl ?_
      refine j_iload_n (q := 0) X dX0_nearPuns_26 rfl rfl ?_
      refine j_callVi (As := [.int (nI i)]) X (kX0_around l D ad cs A z hb μ V a ha ha11 i (by omega)) (oC hb) rfl (cwV 1 X.1.2.2.2.2 gX0_nearPuns_X0_around rfl rfl rfl (by decide +kernel) ⟨Nat.le_of_ble_eq_true rfl, Nat.le_of_ble_eq_true rfl⟩) rfl rfl (Nat.le_of_ble_eq_true rfl) dX0_nearPuns_27 (fun r27 μ27 h27 => ?_)
      obtain ⟨h27, rfl⟩ := h27
      refine j_ior (v := (m1 ||| r27)) X dX0_nearPuns_30 rfl ?_
      refine j_istore_n (lv' := [(2, .int (m1 ||| r27)), (3, .int (nI i)), (0, .ref (ad b 0)), (1, .int (nI n))]) X dX0_nearPuns_31 rfl (by decide) rfl ?_
      refine j_iinc (q := 1) (v := (nI (i + 1))) (lv' := [(3, .int (nI (i + 1))), (2, .int (m1 ||| r27)), (0, .ref (ad b 0)), (1, .int (nI n))]) X dX0_nearPuns_32 rfl (nI_1 _) (by decide) rfl ?_
      refine j_goto (tgt := 4) X dX0_nearPuns_35 (by decide) ?_
      exact ih4 (i + 1) (m1 ||| r27) ⟨by omega, fun c hc => by rw [b_or, hm c hc, h27 c hc, nearB]; simp [hw]⟩ (by omega)
set_option maxHeartbeats 4000000 in
set_option maxRecDepth 100000 in
theorem kX0_reason (l : Launch) (D : va_G) (ad : Nat → Nat → Nat) (cs : Nat → ClassId) (A : Nat → Prop) (z : Nat → Nat) {b : Nat} (hb : b < 10) (μ : Mm) (V : CV) (n : Nat) (hn : n < 20) (c0 : Nat) (hc : c0 < 12) (k : Nat) (np : Int32) : KI l D ad cs A z yX0_reason wsX0_reason (rm 1 21) [.ref (ad b 0), .int (nI n), .int (nI c0), .int (nI k), .int np] (mb μ b V) (fun r μ1 => r = rsnq V n c0 k (bt np c0) ∧ μ1 = mb μ b V) := by
  refine KI_of (cc := cX0_reason) (maxL := 6) (ret := (some .int)) (by decide) rfl (Nat.le_of_ble_eq_true rfl) ?_
  intro p e s m args below meth c hr hlk X
  show J p l e _ s m args below meth c 0 0 _ 6 D ad cs A 0 [(0, .ref (ad b 0)), (1, .int (nI n)), (2, .int (nI c0)), (3, .int (nI k)), (4, .int np)] [] (mb μ b V)
  have hinX0 : ∀ w ∈ wsX00, w ∈ wsX0_reason := by decide +kernel
  have k35 : (Cond.fieldLink RX0 35 "PunCourts$Court" "borne" "[I").before args s = true := X.1.2.2.2.2 _ (by decide +kernel)
  have k28 : (Cond.fieldLink RX0 28 "PunCourts$Court" "withdrawn" "[Z").before args s = true := X.1.2.2.2.2 _ (by decide +kernel)
  have k9 : (Cond.fieldLink RX0 9 "PunCourts$Court" "settings" "[I").before args s = true := X.1.2.2.2.2 _ (by decide +kernel)
  have k104 : (Cond.fieldLink RX0 104 "PunCourts$Court" "days" "I").before args s = true := X.1.2.2.2.2 _ (by decide +kernel)
  have k44 : (Cond.fieldLink RX0 44 "PunCourts$Court" "gotDay" "[I").before args s = true := X.1.2.2.2.2 _ (by decide +kernel)
  have k25 : (Cond.fieldLink RX0 25 "PunCourts$Court" "honours" "[I").before args s = true := X.1.2.2.2.2 _ (by decide +kernel)
  refine j_aload_n (q := 0) X dX0_reason_0 rfl rfl ?_
  refine j_getCB X (oC hb) hinX0 9 (by decide) rfl k35 dX0_reason_1 ?_
  refine j_iload_n (q := 2) X dX0_reason_4 rfl rfl ?_
  refine j_ialdB X (aC_10 hb) c0 rfl (by omega) (by decide) dX0_reason_5 ?_
  refine j_istore (lv' := [(5, .int (V 10 c0)), (0, .ref (ad b 0)), (1, .int (nI n)), (2, .int (nI c0)), (3, .int (nI k)), (4, .int np)]) X dX0_reason_6 (by decide) rfl ?_
  refine j_aload_n (q := 1) X dX0_reason_8 rfl rfl ?_
  refine j_getCB X (oC hb) hinX0 7 (by decide) rfl k28 dX0_reason_9 ?_
  refine j_iload_n (q := 2) X dX0_reason_12 rfl rfl ?_
  refine j_zaldB X (aC_8 hb) n rfl (by omega) (by decide) dX0_reason_13 ?_
  refine j_if_eq (tgt := 19) X dX0_reason_14 (by decide) (fun c14 => ?_) (fun c14 => ?_)
  · skip
    refine j_iload (q := 0) X dX0_reason_19 rfl ?_
    refine j_iload_n (q := 2) X dX0_reason_21 rfl rfl ?_
    refine j_icmp_ne (tgt := 27) X dX0_reason_22 (by decide) (fun c22 => ?_) (fun c22 => ?_)
    · skip
      refine j_iload_n (q := 4) X dX0_reason_27 rfl rfl ?_
      refine j_aload_n (q := 1) X dX0_reason_28 rfl rfl ?_
      refine j_getCB X (oC hb) hinX0 0 (by decide) rfl k9 dX0_reason_29 ?_
      refine j_iconst (v := (nI 1)) X dX0_reason_32 (by decide) ?_
      refine j_ialdB X (aC_1 hb) 1 rfl (by decide) (by decide) dX0_reason_33 ?_
      refine j_icmp_lt (tgt := 39) X dX0_reason_34 (by decide) (fun c34 => ?_) (fun c34 => ?_)
      · skip
        refine j_iload (q := 5) X dX0_reason_39 rfl ?_
        refine j_iconst (v := (nI 1)) X dX0_reason_41 (by decide) ?_
        refine j_iload_n (q := 3) X dX0_reason_42 rfl rfl ?_
        refine j_ishl (v := ((nI 1) <<< ((nI c0) &&& 31))) X dX0_reason_43 rfl ?_
        refine j_iand (v := (np &&& ((nI 1) <<< ((nI c0) &&& 31)))) X dX0_reason_44 rfl ?_
        refine j_if_eq (tgt := 50) X dX0_reason_45 (by decide) (fun c45 => ?_) (fun c45 => ?_)
        · skip
          have hq : ¬ bt np c0 = true := by rw [(b_in np c0 (by omega)).mp c45]; decide
          refine j_aload_n (q := 1) X dX0_reason_50 rfl rfl ?_
          refine j_iload (q := 0) X dX0_reason_51 rfl ?_
          refine j_callVi (As := [.int (V 10 c0)]) X (kX0_hasName l D ad cs A z hb μ V (V 10 c0)) (oC hb) rfl (cwV 1 X.1.2.2.2.2 gX0_reason_X0_hasName rfl rfl rfl (by decide +kernel) ⟨Nat.le_of_ble_eq_true rfl, Nat.le_of_ble_eq_true rfl⟩) rfl rfl (Nat.le_of_ble_eq_true rfl) dX0_reason_53 (fun r53 μ53 h53 => ?_)
          obtain ⟨h53, rfl⟩ := h53
          refine j_if_eq (tgt := 77) X dX0_reason_56 (by decide) (fun c56 => ?_) (fun c56 => ?_)
          · skip
            have h5 : ¬ (hasN V (V 10 c0) ∧ V 7 n < V 7 (V 10 c0).toNatClampNeg) := fun q => h53.f c56 q.1
            refine j_aload_n (q := 1) X dX0_reason_77 rfl rfl ?_
            refine j_iload (q := 0) X dX0_reason_78 rfl ?_
            refine j_callVi (As := [.int (V 10 c0)]) X (kX0_hasName l D ad cs A z hb μ V (V 10 c0)) (oC hb) rfl (cwV 1 X.1.2.2.2.2 gX0_reason_X0_hasName rfl rfl rfl (by decide +kernel) ⟨Nat.le_of_ble_eq_true rfl, Nat.le_of_ble_eq_true rfl⟩) rfl rfl (Nat.le_of_ble_eq_true rfl) dX0_reason_80 (fun r80 μ80 h80 => ?_)
            obtain ⟨h80, rfl⟩ := h80
            refine j_if_eq (tgt := 109) X dX0_reason_83 (by decide) (fun c83 => ?_) (fun c83 => ?_)
            · skip
              have h6 : ¬ (hasN V (V 10 c0) ∧ V 0 1 - V 13 c0 < V 1 3) := fun q => h80.f c83 q.1
              refine j_iconst (v := (nI 0)) X dX0_reason_109 (by decide) ?_
              exact j_iret X hr hlk ⟨by rw [rsnq, if_neg (Classical.not_not.mpr c14), if_neg c22, if_neg (Classical.not_not.mpr c34), if_neg hq, if_neg h5, if_neg h6]; rfl, rfl⟩ dX0_reason_110
            · skip
              refine j_aload_n (q := 1) X dX0_reason_86 rfl rfl ?_
              refine j_getCB X (oC hb) hinX0 1 (by decide) rfl k104 dX0_reason_87 ?_
              refine j_aload_n (q := 1) X dX0_reason_90 rfl rfl ?_
              refine j_getCB X (oC hb) hinX0 12 (by decide) rfl k44 dX0_reason_91 ?_
              refine j_iload_n (q := 3) X dX0_reason_94 rfl rfl ?_
              refine j_ialdB X (aC_13 hb) c0 rfl (by omega) (by decide) dX0_reason_95 ?_
              refine j_isub (v := ((V 0 1) - (V 13 c0))) X dX0_reason_96 rfl ?_
              refine j_aload_n (q := 1) X dX0_reason_97 rfl rfl ?_
              refine j_getCB X (oC hb) hinX0 0 (by decide) rfl k9 dX0_reason_98 ?_
              refine j_iconst (v := (nI 3)) X dX0_reason_101 (by decide) ?_
              refine j_ialdB X (aC_1 hb) 3 rfl (by decide) (by decide) dX0_reason_102 ?_
              refine j_icmp_ge (tgt := 109) X dX0_reason_103 (by decide) (fun c103 => ?_) (fun c103 => ?_)
              · skip
                have h6 : ¬ (hasN V (V 10 c0) ∧ V 0 1 - V 13 c0 < V 1 3) := fun q => absurd q.2 (Int32.not_lt.mpr c103)
                refine j_iconst (v := (nI 0)) X dX0_reason_109 (by decide) ?_
                exact j_iret X hr hlk ⟨by rw [rsnq, if_neg (Classical.not_not.mpr c14), if_neg c22, if_neg (Classical.not_not.mpr c34), if_neg hq, if_neg h5, if_neg h6]; rfl, rfl⟩ dX0_reason_110
              · skip
                have h6 : (hasN V (V 10 c0) ∧ V 0 1 - V 13 c0 < V 1 3) := ⟨h80.t c83, Int32.not_le.mp c103⟩
                refine j_bipush (v := (nI 6)) X dX0_reason_106 (by decide) ?_
                exact j_iret X hr hlk ⟨by rw [rsnq, if_neg (Classical.not_not.mpr c14), if_neg c22, if_neg (Classical.not_not.mpr c34), if_neg hq, if_neg h5, if_pos h6]; rfl, rfl⟩ dX0_reason_108
          · skip
            have h53 := h53.t c56
            have hx := h53.ix
            refine j_aload_n (q := 1) X dX0_reason_59 rfl rfl ?_
            refine j_getCB X (oC hb) hinX0 6 (by decide) rfl k25 dX0_reason_60 ?_
            refine j_iload (q := 0) X dX0_reason_63 rfl ?_
            refine j_ialdB X (aC_7 hb) ((V 10 c0).toNatClampNeg) hx.1 hx.2 (by decide) dX0_reason_65 ?_
            refine j_aload_n (q := 1) X dX0_reason_66 rfl rfl ?_
            refine j_getCB X (oC hb) hinX0 6 (by decide) rfl k25 dX0_reason_67 ?_
            refine j_iload_n (q := 2) X dX0_reason_70 rfl rfl ?_
            refine j_ialdB X (aC_7 hb) n rfl (by omega) (by decide) dX0_reason_71 ?_
            refine j_icmp_le (tgt := 77) X dX0_reason_72 (by decide) (fun c72 => ?_) (fun c72 => ?_)
            · skip
              have h5 : ¬ (hasN V (V 10 c0) ∧ V 7 n < V 7 (V 10 c0).toNatClampNeg) := fun q => absurd q.2 (Int32.not_lt.mpr c72)
              refine j_aload_n (q := 1) X dX0_reason_77 rfl rfl ?_
              refine j_iload (q := 0) X dX0_reason_78 rfl ?_
              refine j_callVi (As := [.int (V 10 c0)]) X (kX0_hasName l D ad cs A z hb μ V (V 10 c0)) (oC hb) rfl (cwV 1 X.1.2.2.2.2 gX0_reason_X0_hasName rfl rfl rfl (by decide +kernel) ⟨Nat.le_of_ble_eq_true rfl, Nat.le_of_ble_eq_true rfl⟩) rfl rfl (Nat.le_of_ble_eq_true rfl) dX0_reason_80 (fun r80 μ80 h80 => ?_)
              obtain ⟨h80, rfl⟩ := h80
              refine j_if_eq (tgt := 109) X dX0_reason_83 (by decide) (fun c83 => ?_) (fun c83 => ?_)
              · skip
                have h6 : ¬ (hasN V (V 10 c0) ∧ V 0 1 - V 13 c0 < V 1 3) := fun q => h80.f c83 q.1
                refine j_iconst (v := (nI 0)) X dX0_reason_109 (by decide) ?_
                exact j_iret X hr hlk ⟨by rw [rsnq, if_neg (Classical.not_not.mpr c14), if_neg c22, if_neg (Classical.not_not.mpr c34), if_neg hq, if_neg h5, if_neg h6]; rfl, rfl⟩ dX0_reason_110
              · skip
                refine j_aload_n (q := 1) X dX0_reason_86 rfl rfl ?_
                refine j_getCB X (oC hb) hinX0 1 (by decide) rfl k104 dX0_reason_87 ?_
                refine j_aload_n (q := 1) X dX0_reason_90 rfl rfl ?_
                refine j_getCB X (oC hb) hinX0 12 (by decide) rfl k44 dX0_reason_91 ?_
                refine j_iload_n (q := 3) X dX0_reason_94 rfl rfl ?_
                refine j_ialdB X (aC_13 hb) c0 rfl (by omega) (by decide) dX0_reason_95 ?_
                refine j_isub (v := ((V 0 1) - (V 13 c0))) X dX0_reason_96 rfl ?_
                refine j_aload_n (q := 1) X dX0_reason_97 rfl rfl ?_
                refine j_getCB X (oC hb) hinX0 0 (by decide) rfl k9 dX0_reason_98 ?_
                refine j_iconst (v := (nI 3)) X dX0_reason_101 (by decide) ?_
                refine j_ialdB X (aC_1 hb) 3 rfl (by decide) (by decide) dX0_reason_102 ?_
                refine j_icmp_ge (tgt := 109) X dX0_reason_103 (by decide) (fun c103 => ?_) (fun c103 => ?_)
                · skip
                  have h6 : ¬ (hasN V (V 10 c0) ∧ V 0 1 - V 13 c0 < V 1 3) := fun q => absurd q.2 (Int32.not_lt.mpr c103)
                  refine j_iconst (v := (nI 0)) X dX0_reason_109 (by decide) ?_
                  exact j_iret X hr hlk ⟨by rw [rsnq, if_neg (Classical.not_not.mpr c14), if_neg c22, if_neg (Classical.not_not.mpr c34), if_neg hq, if_neg h5, if_neg h6]; rfl, rfl⟩ dX0_reason_110
                · skip
                  have h6 : (hasN V (V 10 c0) ∧ V 0 1 - V 13 c0 < V 1 3) := ⟨h80.t c83, Int32.not_le.mp c103⟩
                  refine j_bipush (v := (nI 6)) X dX0_reason_106 (by decide) ?_
                  exact j_iret X hr hlk ⟨by rw [rsnq, if_neg (Classical.not_not.mpr c14), if_neg c22, if_neg (Classical.not_not.mpr c34), if_neg hq, if_neg h5, if_pos h6]; rfl, rfl⟩ dX0_reason_108
            · skip
              refine j_iconst (v := (nI 5)) X dX0_reason_75 (by decide) ?_
              exact j_iret X hr hlk ⟨by rw [rsnq, if_neg (Classical.not_not.mpr c14), if_neg c22, if_neg (Classical.not_not.mpr c34), if_neg hq, if_pos ⟨h53, Int32.not_le.mp c72⟩]; rfl, rfl⟩ dX0_reason_76
        · skip
          have hq : bt np c0 = true := by rw [b_in np c0 (by omega)] at c45; simpa using c45
          refine j_iconst (v := (nI 4)) X dX0_reason_48 (by decide) ?_
          exact j_iret X hr hlk ⟨by rw [rsnq, if_neg (Classical.not_not.mpr c14), if_neg c22, if_neg (Classical.not_not.mpr c34), if_pos hq]; rfl, rfl⟩ dX0_reason_49
      · skip
        refine j_iconst (v := (nI 3)) X dX0_reason_37 (by decide) ?_
        exact j_iret X hr hlk ⟨by rw [rsnq, if_neg (Classical.not_not.mpr c14), if_neg c22, if_pos c34]; rfl, rfl⟩ dX0_reason_38
    · skip
      refine j_iconst (v := (nI 2)) X dX0_reason_25 (by decide) ?_
      exact j_iret X hr hlk ⟨by rw [rsnq, if_neg (Classical.not_not.mpr c14), if_pos (Classical.not_not.mp c22)]; rfl, rfl⟩ dX0_reason_26
  · skip
    refine j_iconst (v := (nI 1)) X dX0_reason_17 (by decide) ?_
    exact j_iret X hr hlk ⟨by rw [rsnq, if_pos c14]; rfl, rfl⟩ dX0_reason_18
set_option maxHeartbeats 4000000 in
set_option maxRecDepth 100000 in
theorem kX0_refusal (l : Launch) (D : va_G) (ad : Nat → Nat → Nat) (cs : Nat → ClassId) (A : Nat → Prop) (z : Nat → Nat) {b : Nat} (hb : b < 10) (μ : Mm) (V : CV) (a : Nat) (ha : V 1 0 = nI a) (ha11 : a ≤ 11) (n : Nat) (hn : n < 20) (c0 : Nat) (hc : c0 < 12) : KI l D ad cs A z yX0_refusal wsX0_refusal (rm 3 69) [.ref (ad b 0), .int (nI n), .int (nI c0)] (mb μ b V) (fun r μ1 => r = rsn V a n c0 ∧ μ1 = mb μ b V) := by
  refine KI_of (cc := cX0_refusal) (maxL := 3) (ret := (some .int)) (by decide) rfl (Nat.le_of_ble_eq_true rfl) ?_
  intro p e s m args below meth c hr hlk X
  show J p l e _ s m args below meth c 0 0 _ 3 D ad cs A 0 [(0, .ref (ad b 0)), (1, .int (nI n)), (2, .int (nI c0))] [] (mb μ b V)
  refine j_aload_n (q := 0) X dX0_refusal_0 rfl rfl ?_
  refine j_iload_n (q := 1) X dX0_refusal_1 rfl rfl ?_
  refine j_iload_n (q := 2) X dX0_refusal_2 rfl rfl ?_
  refine j_aload_n (q := 0) X dX0_refusal_3 rfl rfl ?_
  refine j_iload_n (q := 1) X dX0_refusal_4 rfl rfl ?_
  refine j_callVi (As := [.int (nI n)]) X (kX0_bearers l D ad cs A z hb μ V (nI n)) (oC hb) rfl (cwV 1 X.1.2.2.2.2 gX0_refusal_X0_bearers rfl rfl rfl (by decide +kernel) ⟨Nat.le_of_ble_eq_true rfl, Nat.le_of_ble_eq_true rfl⟩) rfl rfl (Nat.le_of_ble_eq_true rfl) dX0_refusal_5 (fun r5 μ5 h5 => ?_)
  obtain ⟨rfl, rfl⟩ := h5
  have hnb := nb_le V (nI n) 12
  refine j_aload_n (q := 0) X dX0_refusal_8 rfl rfl ?_
  refine j_iload_n (q := 1) X dX0_refusal_9 rfl rfl ?_
  refine j_callVi (As := [.int (nI n)]) X (kX0_nearPuns l D ad cs A z hb μ V a ha ha11 n hn) (oC hb) rfl (cwV 1 X.1.2.2.2.2 gX0_refusal_X0_nearPuns rfl rfl rfl (by decide +kernel) ⟨Nat.le_of_ble_eq_true rfl, Nat.le_of_ble_eq_true rfl⟩) rfl rfl (Nat.le_of_ble_eq_true rfl) dX0_refusal_10 (fun r10 μ10 h10 => ?_)
  obtain ⟨h10, rfl⟩ := h10
  refine j_callVi (As := [.int (nI n), .int (nI c0), .int (nI (nb V (nI n) 12)), .int r10]) X (kX0_reason l D ad cs A z hb μ V n hn c0 hc (nb V (nI n) 12) r10) (oC hb) rfl (cwV 4 X.1.2.2.2.2 gX0_refusal_X0_reason rfl rfl rfl (by decide +kernel) ⟨Nat.le_of_ble_eq_true rfl, Nat.le_of_ble_eq_true rfl⟩) rfl rfl (Nat.le_of_ble_eq_true rfl) dX0_refusal_13 (fun r13 μ13 h13 => ?_)
  obtain ⟨h13, rfl⟩ := h13
  exact j_iret X hr hlk ⟨by rw [h13, h10 c0 hc]; rfl, rfl⟩ dX0_refusal_16
set_option maxHeartbeats 4000000 in
set_option maxRecDepth 100000 in
theorem kX0_lowestFree (l : Launch) (D : va_G) (ad : Nat → Nat → Nat) (cs : Nat → ClassId) (A : Nat → Prop) (z : Nat → Nat) {b : Nat} (hb : b < 10) (μ : Mm) (V : CV) (a : Nat) (ha : V 1 0 = nI a) (ha11 : a ≤ 11) (n : Nat) (hn : n < 20) : KI l D ad cs A z yX0_lowestFree wsX0_lowestFree (rm 3 69) [.ref (ad b 0), .int (nI n)] (mb μ b V) (fun r μ1 => r = low (rsn V a n) ∧ μ1 = mb μ b V) := by
  refine KI_of (cc := cX0_lowestFree) (maxL := 5) (ret := (some .int)) (by decide) rfl (Nat.le_of_ble_eq_true rfl) ?_
  intro p e s m args below meth c hr hlk X
  show J p l e _ s m args below meth c 0 0 _ 5 D ad cs A 0 [(0, .ref (ad b 0)), (1, .int (nI n))] [] (mb μ b V)
  refine j_aload_n (q := 0) X dX0_lowestFree_0 rfl rfl ?_
  refine j_iload_n (q := 1) X dX0_lowestFree_1 rfl rfl ?_
  refine j_callVi (As := [.int (nI n)]) X (kX0_bearers l D ad cs A z hb μ V (nI n)) (oC hb) rfl (cwV 1 X.1.2.2.2.2 gX0_lowestFree_X0_bearers rfl rfl rfl (by decide +kernel) ⟨Nat.le_of_ble_eq_true rfl, Nat.le_of_ble_eq_true rfl⟩) rfl rfl (Nat.le_of_ble_eq_true rfl) dX0_lowestFree_2 (fun r2 μ2 h2 => ?_)
  obtain ⟨rfl, rfl⟩ := h2
  have hnb := nb_le V (nI n) 12
  refine j_istore_n (lv' := [(2, .int (nI (nb V (nI n) 12))), (0, .ref (ad b 0)), (1, .int (nI n))]) X dX0_lowestFree_5 rfl (by decide) rfl ?_
  refine j_aload_n (q := 1) X dX0_lowestFree_6 rfl rfl ?_
  refine j_iload_n (q := 2) X dX0_lowestFree_7 rfl rfl ?_
  refine j_callVi (As := [.int (nI n)]) X (kX0_nearPuns l D ad cs A z hb μ V a ha ha11 n hn) (oC hb) rfl (cwV 1 X.1.2.2.2.2 gX0_lowestFree_X0_nearPuns rfl rfl rfl (by decide +kernel) ⟨Nat.le_of_ble_eq_true rfl, Nat.le_of_ble_eq_true rfl⟩) rfl rfl (Nat.le_of_ble_eq_true rfl) dX0_lowestFree_8 (fun r8 μ8 h8 => ?_)
  obtain ⟨h8, rfl⟩ := h8
  refine j_istore_n (lv' := [(3, .int r8), (2, .int (nI (nb V (nI n) 12))), (0, .ref (ad b 0)), (1, .int (nI n))]) X dX0_lowestFree_11 rfl (by decide) rfl ?_
  refine j_iconst (v := (nI 0)) X dX0_lowestFree_12 (by decide) ?_
  refine j_istore (lv' := [(4, .int (nI 0)), (3, .int r8), (2, .int (nI (nb V (nI n) 12))), (0, .ref (ad b 0)), (1, .int (nI n))]) X dX0_lowestFree_13 (by decide) rfl ?_
  refine j_lv [0, 3, 4, 2, 1] rfl ?_
  refine jl1 (G := J p l e _ s m args below meth c 0 0 _ _ D ad cs A) (pc := 15) (fun (i : Nat) => [(4, .int (nI i)), (0, .ref (ad b 0)), (1, .int (nI n)), (2, .int (nI (nb V (nI n) 12))), (3, .int r8)]) (fun (i : Nat) => (mb μ b V)) (fun (i : Nat) => i ≤ 12 ∧ lw (rsn V a n) i = i) (fun (i : Nat) => 12 - i) ?_ 0 ⟨by omega, rfl⟩
  intro i hI15 ih15
  try dsimp only at ih15 ⊢
  obtain ⟨hi, hl⟩ := hI15
  refine j_iload (q := 0) X dX0_lowestFree_15 rfl ?_
  refine j_bipush (v := (nI 12)) X dX0_lowestFree_17 (by decide) ?_
  refine j_ncmp_ge (tgt := 43) X i 12 dX0_lowestFree_19 (by decide) rfl rfl (by omega) (by omega) (fun c19 => ?_) (fun c19 => ?_)
  · skip
    refine j_bipush (v := (-6)) X dX0_lowestFree_43 (by decide) ?_
    exact j_iret X hr hlk ⟨by rw [low, if_neg (by rw [show i = 12 by omega] at hl; omega)], rfl⟩ dX0_lowestFree_45
  · skip
    refine j_aload_n (q := 1) X dX0_lowestFree_22 rfl rfl ?_
    refine j_iload_n (q := 2) X dX0_lowestFree_23 rfl rfl ?_
    refine j_iload (q := 0) X dX0_lowestFree_24 rfl ?_
    refine j_iload_n (q := 3) X dX0_lowestFree_26 rfl rfl ?_
    refine j_iload_n (q := 4) X dX0_lowestFree_27 rfl rfl ?_
    refine j_callVi (As := [.int (nI n), .int (nI i), .int (nI (nb V (nI n) 12)), .int r8]) X (kX0_reason l D ad cs A z hb μ V n hn i (by omega) (nb V (nI n) 12) r8) (oC hb) rfl (cwV 4 X.1.2.2.2.2 gX0_lowestFree_X0_reason rfl rfl rfl (by decide +kernel) ⟨Nat.le_of_ble_eq_true rfl, Nat.le_of_ble_eq_true rfl⟩) rfl rfl (Nat.le_of_ble_eq_true rfl) dX0_lowestFree_28 (fun r28 μ28 h28 => ?_)
    obtain ⟨h28, rfl⟩ := h28
    have h28 : r28 = rsn V a n i := by rw [h28, h8 i (by omega)]; rfl
    rw [h28]
    refine j_if_ne (tgt := 37) X dX0_lowestFree_31 (by decide) (fun c31 => ?_) (fun c31 => ?_)
    · skip
      refine j_iinc (q := 0) (v := (nI (i + 1))) (lv' := [(4, .int (nI (i + 1))), (0, .ref (ad b 0)), (1, .int (nI n)), (2, .int (nI (nb V (nI n) 12))), (3, .int r8)]) X dX0_lowestFree_37 rfl (nI_1 _) (by decide) rfl ?_
      refine j_goto (tgt := 15) X dX0_lowestFree_40 (by decide) ?_
      exact ih15 (i + 1) ⟨by omega, lw_go hl c31⟩ (by omega)
    · skip
      refine j_iload (q := 0) X dX0_lowestFree_34 rfl ?_
      exact j_iret X hr hlk ⟨by rw [low, lw_hit hl (Classical.not_not.mp c31) 12 (by omega), if_pos (by omega)], rfl⟩ dX0_lowestFree_36
set_option maxHeartbeats 4000000 in
set_option maxRecDepth 100000 in
theorem kX0_signAt (l : Launch) (D : va_G) (ad : Nat → Nat → Nat) (cs : Nat → ClassId) (A : Nat → Prop) (z : Nat → Nat) {b : Nat} (hb : b < 10) (μ : Mm) (V : CV) (n : Nat) (hn : n < 20) (i : Nat) (hi : i < 9) : KI l D ad cs A z yX0_signAt wsX0_signAt (rm 0 0) [.ref (ad b 0), .int (nI n), .int (nI i)] (mb μ b V) (fun r μ1 => r = sga V n i ∧ μ1 = mb μ b V) := by
  refine KI_of (cc := cX0_signAt) (maxL := 4) (ret := (some .int)) (by decide) rfl (Nat.le_of_ble_eq_true rfl) ?_
  intro p e s m args below meth c hr hlk X
  show J p l e _ s m args below meth c 0 0 _ 4 D ad cs A 0 [(0, .ref (ad b 0)), (1, .int (nI n)), (2, .int (nI i))] [] (mb μ b V)
  have hinX0 : ∀ w ∈ wsX00, w ∈ wsX0_signAt := by decide +kernel
  have k15 : (Cond.fieldLink RX0 15 "PunCourts$Court" "letters" "[C").before args s = true := X.1.2.2.2.2 _ (by decide +kernel)
  refine j_iload_n (q := 2) X dX0_signAt_0 rfl rfl ?_
  refine j_if_lt (tgt := 10) X dX0_signAt_1 (by decide) (fun c1 => absurd c1 (nI_pos (by omega))) (fun c1 => ?_)
  refine j_iload_n (q := 2) X dX0_signAt_4 rfl rfl ?_
  refine j_bipush (v := (nI 9)) X dX0_signAt_5 (by decide) ?_
  refine j_ncmp_lt (tgt := 12) X i 9 dX0_signAt_7 (by decide) rfl rfl (by omega) (by omega) (fun c7 => ?_) (fun c7 => absurd hi c7)
  refine j_aload_n (q := 0) X dX0_signAt_12 rfl rfl ?_
  refine j_getCB X (oC hb) hinX0 3 (by decide) rfl k15 dX0_signAt_13 ?_
  refine j_iload_n (q := 1) X dX0_signAt_16 rfl rfl ?_
  refine j_bipush (v := (nI 9)) X dX0_signAt_17 (by decide) ?_
  refine j_imul (v := (nI (n * 9))) X dX0_signAt_19 (pk_mul _ _) ?_
  refine j_iload_n (q := 2) X dX0_signAt_20 rfl rfl ?_
  refine j_iadd (v := (nI ((n * 9) + i))) X dX0_signAt_21 (nI_add _ _) ?_
  refine j_caldB X (aC_4 hb) ((n * 9) + i) rfl (by omega) (by decide) dX0_signAt_22 ?_
  refine j_bipush (v := (nI 97)) X dX0_signAt_23 (by decide) ?_
  refine j_isub (v := ((V 4 ((n * 9) + i)) - (nI 97))) X dX0_signAt_25 rfl ?_
  refine j_istore_n (lv' := [(3, .int ((V 4 ((n * 9) + i)) - (nI 97))), (0, .ref (ad b 0)), (1, .int (nI n)), (2, .int (nI i))]) X dX0_signAt_26 rfl (by decide) rfl ?_
  refine j_iload_n (q := 0) X dX0_signAt_27 rfl rfl ?_
  refine j_if_lt (tgt := 47) X dX0_signAt_28 (by decide) (fun c28 => ?_) (fun c28 => ?_)
  · skip
    refine j_iconst (v := (nI 0)) X dX0_signAt_47 (by decide) ?_
    exact j_iret X hr hlk ⟨by rw [sga, sgn, if_neg (fun q => by first | exact q.1 c28 | exact q.2 c36)]; rfl, rfl⟩ dX0_signAt_48
  · skip
    refine j_iload_n (q := 0) X dX0_signAt_31 rfl rfl ?_
    refine j_sgs X rfl dX0_signAt_32 ?_
    refine j_sgl X dX0_signAt_35 ?_
    refine j_icmp_ge (tgt := 47) X dX0_signAt_36 (by decide) (fun c36 => ?_) (fun c36 => ?_)
    · skip
      refine j_iconst (v := (nI 0)) X dX0_signAt_47 (by decide) ?_
      exact j_iret X hr hlk ⟨by rw [sga, sgn, if_neg (fun q => by first | exact q.1 c28 | exact q.2 c36)]; rfl, rfl⟩ dX0_signAt_48
    · skip
      refine j_sgs X rfl dX0_signAt_39 ?_
      refine j_iload_n (q := 0) X dX0_signAt_42 rfl rfl ?_
      refine j_sga X ((V 4 (n * 9 + i) - nI 97).toNatClampNeg) (ixx c28 c36 (by decide)).1 (ixx c28 c36 (by decide)).2 dX0_signAt_43 ?_
      refine j_goto (tgt := 48) X dX0_signAt_44 (by decide) ?_
      exact j_iret X hr hlk ⟨by rw [sga, sgn, if_pos ⟨c28, c36⟩], rfl⟩ dX0_signAt_48
set_option maxHeartbeats 4000000 in
set_option maxRecDepth 100000 in
theorem kX0_soundOf (l : Launch) (D : va_G) (ad : Nat → Nat → Nat) (cs : Nat → ClassId) (A : Nat → Prop) (z : Nat → Nat) {b : Nat} (hb : b < 10) (μ : Mm) (V : CV) (n : Nat) (hn : n < 20) (L : Nat) (hL : V 5 n = nI L) (hL9 : L ≤ 9) : KI l D ad cs A z yX0_soundOf wsX0_soundOf (rm 1 23) [.ref (ad b 0), .int (nI n)] (mb μ b V) (fun r μ1 => r = sdS (sga V n) L ∧ μ1 = mb μ b V) := by
  refine KI_of (cc := cX0_soundOf) (maxL := 6) (ret := (some .int)) (by decide) rfl (Nat.le_of_ble_eq_true rfl) ?_
  intro p e s m args below meth c hr hlk X
  show J p l e _ s m args below meth c 0 0 _ 6 D ad cs A 0 [(0, .ref (ad b 0)), (1, .int (nI n))] [] (mb μ b V)
  have hinX0 : ∀ w ∈ wsX00, w ∈ wsX0_soundOf := by decide +kernel
  have k19 : (Cond.fieldLink RX0 19 "PunCourts$Court" "lengths" "[I").before args s = true := X.1.2.2.2.2 _ (by decide +kernel)
  refine j_iconst (v := (nI 0)) X dX0_soundOf_0 (by decide) ?_
  refine j_istore_n (lv' := [(2, .int (nI 0)), (0, .ref (ad b 0)), (1, .int (nI n))]) X dX0_soundOf_1 rfl (by decide) rfl ?_
  refine j_iconst (v := (nI 0)) X dX0_soundOf_2 (by decide) ?_
  refine j_istore_n (lv' := [(3, .int (nI 0)), (2, .int (nI 0)), (0, .ref (ad b 0)), (1, .int (nI n))]) X dX0_soundOf_3 rfl (by decide) rfl ?_
  refine j_iconst (v := (nI 0)) X dX0_soundOf_4 (by decide) ?_
  refine j_istore (lv' := [(4, .int (nI 0)), (3, .int (nI 0)), (2, .int (nI 0)), (0, .ref (ad b 0)), (1, .int (nI n))]) X dX0_soundOf_5 (by decide) rfl ?_
  refine j_lv [0, 2, 1, 3, 4] rfl ?_
  refine jl3 (G := J p l e _ s m args below meth c 0 0 _ _ D ad cs A) (pc := 7) (fun (i : Nat) (so : Int32) (pr : Int32) => [(4, .int (nI i)), (2, .int so), (3, .int pr), (0, .ref (ad b 0)), (1, .int (nI n))]) (fun (i : Nat) (so : Int32) (pr : Int32) => (mb μ b V)) (fun (i : Nat) (so : Int32) (pr : Int32) => i ≤ L ∧ so = sdS (sga V n) i ∧ pr = sdP (sga V n) i) (fun (i : Nat) (so : Int32) (pr : Int32) => L - i) ?_ 0 (nI 0) (nI 0) ⟨by omega, rfl, rfl⟩
  intro i so pr hI7 ih7
  try dsimp only at ih7 ⊢
  obtain ⟨hi, hso, hpr⟩ := hI7
  refine j_iload (q := 0) X dX0_soundOf_7 rfl ?_
  refine j_aload_n (q := 3) X dX0_soundOf_9 rfl rfl ?_
  refine j_getCB X (oC hb) hinX0 4 (by decide) rfl k19 dX0_soundOf_10 ?_
  refine j_iload_n (q := 4) X dX0_soundOf_13 rfl rfl ?_
  refine j_ialdB X (aC_5 hb) n rfl (by omega) (by decide) dX0_soundOf_14 ?_
  rw [hL]
  refine j_ncmp_ge (tgt := 66) X i L dX0_soundOf_15 (by decide) rfl rfl (by omega) (by omega) (fun c15 => ?_) (fun c15 => ?_)
  · skip
    refine j_iload_n (q := 1) X dX0_soundOf_66 rfl rfl ?_
    exact j_iret X hr hlk ⟨by rw [hso, show i = L by omega], rfl⟩ dX0_soundOf_67
  · skip
    refine j_aload_n (q := 3) X dX0_soundOf_18 rfl rfl ?_
    refine j_iload_n (q := 4) X dX0_soundOf_19 rfl rfl ?_
    refine j_iload (q := 0) X dX0_soundOf_20 rfl ?_
    refine j_callVi (As := [.int (nI n), .int (nI i)]) X (kX0_signAt l D ad cs A z hb μ V n hn i (by omega)) (oC hb) rfl (cwV 2 X.1.2.2.2.2 gX0_soundOf_X0_signAt rfl rfl rfl (by decide +kernel) ⟨Nat.le_of_ble_eq_true rfl, Nat.le_of_ble_eq_true rfl⟩) rfl rfl (Nat.le_of_ble_eq_true rfl) dX0_soundOf_22 (fun r22 μ22 h22 => ?_)
    obtain ⟨h22, rfl⟩ := h22
    rw [h22]
    refine j_istore (lv' := [(5, .int (sga V n i)), (4, .int (nI i)), (2, .int so), (3, .int pr), (0, .ref (ad b 0)), (1, .int (nI n))]) X dX0_soundOf_25 (by decide) rfl ?_
    refine j_iload (q := 0) X dX0_soundOf_27 rfl ?_
    refine j_if_eq (tgt := 60) X dX0_soundOf_29 (by decide) (fun c29 => ?_) (fun c29 => ?_)
    · skip
      have hh : ¬ hrd (sga V n) i := fun q => q.1 c29
      have hp : sdP (sga V n) (i + 1) = sdP (sga V n) i := by rw [sdP, if_pos c29]
      refine j_iinc (q := 1) (v := (nI (i + 1))) (lv' := [(4, .int (nI (i + 1))), (5, .int (sga V n i)), (2, .int so), (3, .int pr), (0, .ref (ad b 0)), (1, .int (nI n))]) X dX0_soundOf_60 rfl (nI_1 _) (by decide) rfl ?_
      refine j_goto (tgt := 7) X dX0_soundOf_63 (by decide) ?_
      refine j_lv (lv1 := [(4, .int (nI (i + 1))), (2, .int so), (3, .int pr), (0, .ref (ad b 0)), (1, .int (nI n))]) [0, 2, 3, 4, 5] rfl ?_
      exact ih7 (i + 1) so pr ⟨by omega, by first | rw [sdS, if_pos hh, hso] | rw [sdS, if_neg hh, hso], by first | exact hp.symm | (rw [hp]; exact hpr)⟩ (by omega)
    · skip
      refine j_iload (q := 0) X dX0_soundOf_32 rfl ?_
      refine j_iload_n (q := 3) X dX0_soundOf_34 rfl rfl ?_
      refine j_icmp_eq (tgt := 60) X dX0_soundOf_35 (by decide) (fun c35 => ?_) (fun c35 => ?_)
      · skip
        have hh : ¬ hrd (sga V n) i := fun q => q.2.1 (by rw [← hpr]; exact c35)
        have hp : sdP (sga V n) (i + 1) = sdP (sga V n) i := by rw [sdP, if_neg c29, ← hpr]; exact c35
        refine j_iinc (q := 1) (v := (nI (i + 1))) (lv' := [(4, .int (nI (i + 1))), (5, .int (sga V n i)), (2, .int so), (3, .int pr), (0, .ref (ad b 0)), (1, .int (nI n))]) X dX0_soundOf_60 rfl (nI_1 _) (by decide) rfl ?_
        refine j_goto (tgt := 7) X dX0_soundOf_63 (by decide) ?_
        refine j_lv (lv1 := [(4, .int (nI (i + 1))), (2, .int so), (3, .int pr), (0, .ref (ad b 0)), (1, .int (nI n))]) [0, 2, 3, 4, 5] rfl ?_
        exact ih7 (i + 1) so pr ⟨by omega, by first | rw [sdS, if_pos hh, hso] | rw [sdS, if_neg hh, hso], by first | exact hp.symm | (rw [hp]; exact hpr)⟩ (by omega)
      · skip
        have hp : sdP (sga V n) (i + 1) = sga V n i := by rw [sdP, if_neg c29]
        refine j_iload (q := 0) X dX0_soundOf_38 rfl ?_
        refine j_bipush (v := (nI 7)) X dX0_soundOf_40 (by decide) ?_
        refine j_icmp_ne (tgt := 49) X dX0_soundOf_42 (by decide) (fun c42 => ?_) (fun c42 => ?_)
        · skip
          have hh : hrd (sga V n) i := ⟨c29, by rw [← hpr]; exact c35, Or.inl c42⟩
          refine j_iload_n (q := 2) X dX0_soundOf_49 rfl rfl ?_
          refine j_bipush (v := (nI 10)) X dX0_soundOf_50 (by decide) ?_
          refine j_imul (v := (so * (nI 10))) X dX0_soundOf_52 rfl ?_
          refine j_iload (q := 0) X dX0_soundOf_53 rfl ?_
          refine j_iadd (v := ((so * (nI 10)) + (sga V n i))) X dX0_soundOf_55 rfl ?_
          refine j_istore_n (lv' := [(2, .int ((so * (nI 10)) + (sga V n i))), (5, .int (sga V n i)), (4, .int (nI i)), (3, .int pr), (0, .ref (ad b 0)), (1, .int (nI n))]) X dX0_soundOf_56 rfl (by decide) rfl ?_
          refine j_iload (q := 1) X dX0_soundOf_57 rfl ?_
          refine j_istore_n (lv' := [(3, .int (sga V n i)), (2, .int ((so * (nI 10)) + (sga V n i))), (5, .int (sga V n i)), (4, .int (nI i)), (0, .ref (ad b 0)), (1, .int (nI n))]) X dX0_soundOf_59 rfl (by decide) rfl ?_
          refine j_iinc (q := 3) (v := (nI (i + 1))) (lv' := [(4, .int (nI (i + 1))), (3, .int (sga V n i)), (2, .int ((so * (nI 10)) + (sga V n i))), (5, .int (sga V n i)), (0, .ref (ad b 0)), (1, .int (nI n))]) X dX0_soundOf_60 rfl (nI_1 _) (by decide) rfl ?_
          refine j_goto (tgt := 7) X dX0_soundOf_63 (by decide) ?_
          refine j_lv (lv1 := [(4, .int (nI (i + 1))), (2, .int ((so * (nI 10)) + (sga V n i))), (3, .int (sga V n i)), (0, .ref (ad b 0)), (1, .int (nI n))]) [0, 2, 1, 4, 5] rfl ?_
          exact ih7 (i + 1) ((so * (nI 10)) + (sga V n i)) (sga V n i) ⟨by omega, by first | rw [sdS, if_pos hh, hso] | rw [sdS, if_neg hh, hso], by first | exact hp.symm | (rw [hp]; exact hpr)⟩ (by omega)
        · skip
          refine j_iload_n (q := 3) X dX0_soundOf_45 rfl rfl ?_
          refine j_if_ne (tgt := 57) X dX0_soundOf_46 (by decide) (fun c46 => ?_) (fun c46 => ?_)
          · skip
            have hh : ¬ hrd (sga V n) i := fun q => q.2.2.elim (fun w => c42 w) (fun w => c46 (by rw [hpr]; exact w))
            refine j_iload (q := 0) X dX0_soundOf_57 rfl ?_
            refine j_istore_n (lv' := [(3, .int (sga V n i)), (5, .int (sga V n i)), (4, .int (nI i)), (2, .int so), (0, .ref (ad b 0)), (1, .int (nI n))]) X dX0_soundOf_59 rfl (by decide) rfl ?_
            refine j_iinc (q := 2) (v := (nI (i + 1))) (lv' := [(4, .int (nI (i + 1))), (3, .int (sga V n i)), (5, .int (sga V n i)), (2, .int so), (0, .ref (ad b 0)), (1, .int (nI n))]) X dX0_soundOf_60 rfl (nI_1 _) (by decide) rfl ?_
            refine j_goto (tgt := 7) X dX0_soundOf_63 (by decide) ?_
            refine j_lv (lv1 := [(4, .int (nI (i + 1))), (2, .int so), (3, .int (sga V n i)), (0, .ref (ad b 0)), (1, .int (nI n))]) [0, 3, 1, 4, 5] rfl ?_
            exact ih7 (i + 1) so (sga V n i) ⟨by omega, by first | rw [sdS, if_pos hh, hso] | rw [sdS, if_neg hh, hso], by first | exact hp.symm | (rw [hp]; exact hpr)⟩ (by omega)
          · skip
            have hh : hrd (sga V n) i := ⟨c29, by rw [← hpr]; exact c35, Or.inr (by rw [← hpr]; exact Classical.not_not.mp c46)⟩
            refine j_iload_n (q := 2) X dX0_soundOf_49 rfl rfl ?_
            refine j_bipush (v := (nI 10)) X dX0_soundOf_50 (by decide) ?_
            refine j_imul (v := (so * (nI 10))) X dX0_soundOf_52 rfl ?_
            refine j_iload (q := 0) X dX0_soundOf_53 rfl ?_
            refine j_iadd (v := ((so * (nI 10)) + (sga V n i))) X dX0_soundOf_55 rfl ?_
            refine j_istore_n (lv' := [(2, .int ((so * (nI 10)) + (sga V n i))), (5, .int (sga V n i)), (4, .int (nI i)), (3, .int pr), (0, .ref (ad b 0)), (1, .int (nI n))]) X dX0_soundOf_56 rfl (by decide) rfl ?_
            refine j_iload (q := 1) X dX0_soundOf_57 rfl ?_
            refine j_istore_n (lv' := [(3, .int (sga V n i)), (2, .int ((so * (nI 10)) + (sga V n i))), (5, .int (sga V n i)), (4, .int (nI i)), (0, .ref (ad b 0)), (1, .int (nI n))]) X dX0_soundOf_59 rfl (by decide) rfl ?_
            refine j_iinc (q := 3) (v := (nI (i + 1))) (lv' := [(4, .int (nI (i + 1))), (3, .int (sga V n i)), (2, .int ((so * (nI 10)) + (sga V n i))), (5, .int (sga V n i)), (0, .ref (ad b 0)), (1, .int (nI n))]) X dX0_soundOf_60 rfl (nI_1 _) (by decide) rfl ?_
            refine j_goto (tgt := 7) X dX0_soundOf_63 (by decide) ?_
            refine j_lv (lv1 := [(4, .int (nI (i + 1))), (2, .int ((so * (nI 10)) + (sga V n i))), (3, .int (sga V n i)), (0, .ref (ad b 0)), (1, .int (nI n))]) [0, 2, 1, 4, 5] rfl ?_
            exact ih7 (i + 1) ((so * (nI 10)) + (sga V n i)) (sga V n i) ⟨by omega, by first | rw [sdS, if_pos hh, hso] | rw [sdS, if_neg hh, hso], by first | exact hp.symm | (rw [hp]; exact hpr)⟩ (by omega)
set_option maxHeartbeats 4000000 in
set_option maxRecDepth 100000 in
theorem kX0_isHeard (l : Launch) (D : va_G) (ad : Nat → Nat → Nat) (cs : Nat → ClassId) (A : Nat → Prop) (z : Nat → Nat) {b : Nat} (hb : b < 10) (μ : Mm) (V : CV) (n : Nat) (hn : n < 20) (i : Nat) (hi : i < 9) : KI l D ad cs A z yX0_isHeard wsX0_isHeard (rm 1 23) [.ref (ad b 0), .int (nI n), .int (nI i)] (mb μ b V) (fun r μ1 => bP r (hrd (sga V n) i) ∧ μ1 = mb μ b V) := by
  refine KI_of (cc := cX0_isHeard) (maxL := 6) (ret := (some .boolean)) (by decide) rfl (Nat.le_of_ble_eq_true rfl) ?_
  intro p e s m args below meth c hr hlk X
  show J p l e _ s m args below meth c 0 0 _ 6 D ad cs A 0 [(0, .ref (ad b 0)), (1, .int (nI n)), (2, .int (nI i))] [] (mb μ b V)
  refine j_aload_n (q := 0) X dX0_isHeard_0 rfl rfl ?_
  refine j_iload_n (q := 1) X dX0_isHeard_1 rfl rfl ?_
  refine j_iload_n (q := 2) X dX0_isHeard_2 rfl rfl ?_
  refine j_callVi (As := [.int (nI n), .int (nI i)]) X (kX0_signAt l D ad cs A z hb μ V n hn i (by omega)) (oC hb) rfl (cwV 2 X.1.2.2.2.2 gX0_isHeard_X0_signAt rfl rfl rfl (by decide +kernel) ⟨Nat.le_of_ble_eq_true rfl, Nat.le_of_ble_eq_true rfl⟩) rfl rfl (Nat.le_of_ble_eq_true rfl) dX0_isHeard_3 (fun r3 μ3 h3 => ?_)
  obtain ⟨h3, rfl⟩ := h3
  rw [h3]
  refine j_istore_n (lv' := [(3, .int (sga V n i)), (0, .ref (ad b 0)), (1, .int (nI n)), (2, .int (nI i))]) X dX0_isHeard_6 rfl (by decide) rfl ?_
  refine j_iconst (v := (nI 0)) X dX0_isHeard_7 (by decide) ?_
  refine j_istore (lv' := [(4, .int (nI 0)), (3, .int (sga V n i)), (0, .ref (ad b 0)), (1, .int (nI n)), (2, .int (nI i))]) X dX0_isHeard_8 (by decide) rfl ?_
  refine j_iload_n (q := 4) X dX0_isHeard_10 rfl rfl ?_
  refine j_iconst (v := (nI 1)) X dX0_isHeard_11 (by decide) ?_
  refine j_isub (v := (nI i - nI 1)) X dX0_isHeard_12 rfl ?_
  refine j_istore (lv' := [(5, .int (nI i - nI 1)), (4, .int (nI 0)), (3, .int (sga V n i)), (0, .ref (ad b 0)), (1, .int (nI n)), (2, .int (nI i))]) X dX0_isHeard_13 (by decide) rfl ?_
  refine j_lv [0, 1, 3, 4, 5, 2] rfl ?_
  refine jl2 (G := J p l e _ s m args below meth c 0 0 _ _ D ad cs A) (pc := 15) (fun (j : Nat) (pr : Int32) => [(5, .int (nI j - nI 1)), (4, .int pr), (0, .ref (ad b 0)), (1, .int (nI n)), (2, .int (nI i)), (3, .int (sga V n i))]) (fun (j : Nat) (pr : Int32) => (mb μ b V)) (fun (j : Nat) (pr : Int32) => j ≤ i ∧ sdP (sga V n) i = (if pr = 0 then sdP (sga V n) j else pr)) (fun (j : Nat) (pr : Int32) => j) ?_ i (nI 0) ⟨by omega, (if_pos (rfl : nI 0 = 0)).symm⟩
  intro j pr hI15 ih15
  try dsimp only at ih15 ⊢
  obtain ⟨hj, hps⟩ := hI15
  refine j_iload (q := 0) X dX0_isHeard_15 rfl ?_
  refine j_if_lt (tgt := 40) X dX0_isHeard_17 (by decide) (fun c17 => ?_) (fun c17 => ?_)
  · skip
    have hj0 := sub1_t (by omega) c17
    have hp : sdP (sga V n) i = pr := by rw [hps, hj0]; by_cases q : pr = 0; (rw [if_pos q, q]; rfl); rw [if_neg q]
    refine j_iload_n (q := 5) X dX0_isHeard_40 rfl rfl ?_
    refine j_if_eq (tgt := 65) X dX0_isHeard_41 (by decide) (fun c41 => ?_) (fun c41 => ?_)
    · skip
      refine j_iconst (v := (nI 0)) X dX0_isHeard_65 (by decide) ?_
      exact j_zret X hr hlk (by first | exact Or.inl rfl | exact Or.inr rfl) ⟨bP.nn (fun q => by first | exact q.1 c41 | exact q.2.1 (by rw [hp]; exact c47) | exact q.2.2.elim (fun w => c53 w) (fun w => c58 (by rw [← hp]; exact w))), rfl⟩ dX0_isHeard_66
    · skip
      refine j_iload_n (q := 5) X dX0_isHeard_44 rfl rfl ?_
      refine j_iload (q := 1) X dX0_isHeard_45 rfl ?_
      refine j_icmp_eq (tgt := 65) X dX0_isHeard_47 (by decide) (fun c47 => ?_) (fun c47 => ?_)
      · skip
        refine j_iconst (v := (nI 0)) X dX0_isHeard_65 (by decide) ?_
        exact j_zret X hr hlk (by first | exact Or.inl rfl | exact Or.inr rfl) ⟨bP.nn (fun q => by first | exact q.1 c41 | exact q.2.1 (by rw [hp]; exact c47) | exact q.2.2.elim (fun w => c53 w) (fun w => c58 (by rw [← hp]; exact w))), rfl⟩ dX0_isHeard_66
      · skip
        refine j_iload_n (q := 5) X dX0_isHeard_50 rfl rfl ?_
        refine j_bipush (v := (nI 7)) X dX0_isHeard_51 (by decide) ?_
        refine j_icmp_ne (tgt := 61) X dX0_isHeard_53 (by decide) (fun c53 => ?_) (fun c53 => ?_)
        · skip
          refine j_iconst (v := (nI 1)) X dX0_isHeard_61 (by decide) ?_
          refine j_goto (tgt := 66) X dX0_isHeard_62 (by decide) ?_
          exact j_zret X hr hlk (by first | exact Or.inl rfl | exact Or.inr rfl) ⟨bP.yn ⟨c41, by rw [hp]; exact c47, by first | exact Or.inl c53 | exact Or.inr (by rw [hp]; exact Classical.not_not.mp c58)⟩, rfl⟩ dX0_isHeard_66
        · skip
          refine j_iload (q := 1) X dX0_isHeard_56 rfl ?_
          refine j_if_ne (tgt := 65) X dX0_isHeard_58 (by decide) (fun c58 => ?_) (fun c58 => ?_)
          · skip
            refine j_iconst (v := (nI 0)) X dX0_isHeard_65 (by decide) ?_
            exact j_zret X hr hlk (by first | exact Or.inl rfl | exact Or.inr rfl) ⟨bP.nn (fun q => by first | exact q.1 c41 | exact q.2.1 (by rw [hp]; exact c47) | exact q.2.2.elim (fun w => c53 w) (fun w => c58 (by rw [← hp]; exact w))), rfl⟩ dX0_isHeard_66
          · skip
            refine j_iconst (v := (nI 1)) X dX0_isHeard_61 (by decide) ?_
            refine j_goto (tgt := 66) X dX0_isHeard_62 (by decide) ?_
            exact j_zret X hr hlk (by first | exact Or.inl rfl | exact Or.inr rfl) ⟨bP.yn ⟨c41, by rw [hp]; exact c47, by first | exact Or.inl c53 | exact Or.inr (by rw [hp]; exact Classical.not_not.mp c58)⟩, rfl⟩ dX0_isHeard_66
  · skip
    have hj1 := sub1_f c17
    rw [pk_sub hj1]
    refine j_iload (q := 1) X dX0_isHeard_20 rfl ?_
    refine j_if_ne (tgt := 40) X dX0_isHeard_22 (by decide) (fun c22 => ?_) (fun c22 => ?_)
    · skip
      have hp : sdP (sga V n) i = pr := by rw [hps, if_neg c22]
      refine j_iload_n (q := 5) X dX0_isHeard_40 rfl rfl ?_
      refine j_if_eq (tgt := 65) X dX0_isHeard_41 (by decide) (fun c41 => ?_) (fun c41 => ?_)
      · skip
        refine j_iconst (v := (nI 0)) X dX0_isHeard_65 (by decide) ?_
        exact j_zret X hr hlk (by first | exact Or.inl rfl | exact Or.inr rfl) ⟨bP.nn (fun q => by first | exact q.1 c41 | exact q.2.1 (by rw [hp]; exact c47) | exact q.2.2.elim (fun w => c53 w) (fun w => c58 (by rw [← hp]; exact w))), rfl⟩ dX0_isHeard_66
      · skip
        refine j_iload_n (q := 5) X dX0_isHeard_44 rfl rfl ?_
        refine j_iload (q := 1) X dX0_isHeard_45 rfl ?_
        refine j_icmp_eq (tgt := 65) X dX0_isHeard_47 (by decide) (fun c47 => ?_) (fun c47 => ?_)
        · skip
          refine j_iconst (v := (nI 0)) X dX0_isHeard_65 (by decide) ?_
          exact j_zret X hr hlk (by first | exact Or.inl rfl | exact Or.inr rfl) ⟨bP.nn (fun q => by first | exact q.1 c41 | exact q.2.1 (by rw [hp]; exact c47) | exact q.2.2.elim (fun w => c53 w) (fun w => c58 (by rw [← hp]; exact w))), rfl⟩ dX0_isHeard_66
        · skip
          refine j_iload_n (q := 5) X dX0_isHeard_50 rfl rfl ?_
          refine j_bipush (v := (nI 7)) X dX0_isHeard_51 (by decide) ?_
          refine j_icmp_ne (tgt := 61) X dX0_isHeard_53 (by decide) (fun c53 => ?_) (fun c53 => ?_)
          · skip
            refine j_iconst (v := (nI 1)) X dX0_isHeard_61 (by decide) ?_
            refine j_goto (tgt := 66) X dX0_isHeard_62 (by decide) ?_
            exact j_zret X hr hlk (by first | exact Or.inl rfl | exact Or.inr rfl) ⟨bP.yn ⟨c41, by rw [hp]; exact c47, by first | exact Or.inl c53 | exact Or.inr (by rw [hp]; exact Classical.not_not.mp c58)⟩, rfl⟩ dX0_isHeard_66
          · skip
            refine j_iload (q := 1) X dX0_isHeard_56 rfl ?_
            refine j_if_ne (tgt := 65) X dX0_isHeard_58 (by decide) (fun c58 => ?_) (fun c58 => ?_)
            · skip
              refine j_iconst (v := (nI 0)) X dX0_isHeard_65 (by decide) ?_
              exact j_zret X hr hlk (by first | exact Or.inl rfl | exact Or.inr rfl) ⟨bP.nn (fun q => by first | exact q.1 c41 | exact q.2.1 (by rw [hp]; exact c47) | exact q.2.2.elim (fun w => c53 w) (fun w => c58 (by rw [← hp]; exact w))), rfl⟩ dX0_isHeard_66
            · skip
              refine j_iconst (v := (nI 1)) X dX0_isHeard_61 (by decide) ?_
              refine j_goto (tgt := 66) X dX0_isHeard_62 (by decide) ?_
              exact j_zret X hr hlk (by first | exact Or.inl rfl | exact Or.inr rfl) ⟨bP.yn ⟨c41, by rw [hp]; exact c47, by first | exact Or.inl c53 | exact Or.inr (by rw [hp]; exact Classical.not_not.mp c58)⟩, rfl⟩ dX0_isHeard_66
    · skip
      refine j_aload_n (q := 2) X dX0_isHeard_25 rfl rfl ?_
      refine j_iload_n (q := 3) X dX0_isHeard_26 rfl rfl ?_
      refine j_iload (q := 0) X dX0_isHeard_27 rfl ?_
      refine j_callVi (As := [.int (nI n), .int (nI (j - 1))]) X (kX0_signAt l D ad cs A z hb μ V n hn (j - 1) (by omega)) (oC hb) rfl (cwV 2 X.1.2.2.2.2 gX0_isHeard_X0_signAt rfl rfl rfl (by decide +kernel) ⟨Nat.le_of_ble_eq_true rfl, Nat.le_of_ble_eq_true rfl⟩) rfl rfl (Nat.le_of_ble_eq_true rfl) dX0_isHeard_29 (fun r29 μ29 h29 => ?_)
      obtain ⟨h29, rfl⟩ := h29
      rw [h29]
      refine j_istore (lv' := [(4, .int (sga V n (j - 1))), (5, .int (nI (j - 1))), (0, .ref (ad b 0)), (1, .int (nI n)), (2, .int (nI i)), (3, .int (sga V n i))]) X dX0_isHeard_32 (by decide) rfl ?_
      refine j_iinc (q := 1) (v := (nI (j - 1) - nI 1)) (lv' := [(5, .int (nI (j - 1) - nI 1)), (4, .int (sga V n (j - 1))), (0, .ref (ad b 0)), (1, .int (nI n)), (2, .int (nI i)), (3, .int (sga V n i))]) X dX0_isHeard_34 rfl (iinc_m1 _) (by decide) rfl ?_
      refine j_goto (tgt := 15) X dX0_isHeard_37 (by decide) ?_
      exact ih15 (j - 1) (sga V n (j - 1)) ⟨by omega, by rw [hps, if_pos (Classical.not_not.mp c22), sdP_pred hj1]⟩ (by omega)
set_option maxHeartbeats 4000000 in
set_option maxRecDepth 100000 in
theorem kX0_nextHeard (l : Launch) (D : va_G) (ad : Nat → Nat → Nat) (cs : Nat → ClassId) (A : Nat → Prop) (z : Nat → Nat) {b : Nat} (hb : b < 10) (μ : Mm) (V : CV) (n : Nat) (hn : n < 20) (L : Nat) (hL : V 5 n = nI L) (hL9 : L ≤ 9) (i0 : Nat) (hi0 : i0 ≤ L) : KI l D ad cs A z yX0_nextHeard wsX0_nextHeard (rm 2 48) [.ref (ad b 0), .int (nI n), .int (nI i0)] (mb μ b V) (fun r μ1 => (∃ k, r = nI k ∧ i0 ≤ k ∧ k ≤ L ∧ (∀ t, i0 ≤ t → t < k → ¬ hrd (sga V n) t) ∧ (k < L → hrd (sga V n) k)) ∧ μ1 = mb μ b V) := by
  refine KI_of (cc := cX0_nextHeard) (maxL := 4) (ret := (some .int)) (by decide) rfl (Nat.le_of_ble_eq_true rfl) ?_
  intro p e s m args below meth c hr hlk X
  show J p l e _ s m args below meth c 0 0 _ 4 D ad cs A 0 [(0, .ref (ad b 0)), (1, .int (nI n)), (2, .int (nI i0))] [] (mb μ b V)
  have hinX0 : ∀ w ∈ wsX00, w ∈ wsX0_nextHeard := by decide +kernel
  have k19 : (Cond.fieldLink RX0 19 "PunCourts$Court" "lengths" "[I").before args s = true := X.1.2.2.2.2 _ (by decide +kernel)
  refine j_iload_n (q := 2) X dX0_nextHeard_0 rfl rfl ?_
  refine j_istore_n (lv' := [(3, .int (nI i0)), (0, .ref (ad b 0)), (1, .int (nI n)), (2, .int (nI i0))]) X dX0_nextHeard_1 rfl (by decide) rfl ?_
  refine jl1 (G := J p l e _ s m args below meth c 0 0 _ _ D ad cs A) (pc := 2) (fun (k : Nat) => [(3, .int (nI k)), (0, .ref (ad b 0)), (1, .int (nI n)), (2, .int (nI i0))]) (fun (k : Nat) => (mb μ b V)) (fun (k : Nat) => i0 ≤ k ∧ k ≤ L ∧ ∀ t, i0 ≤ t → t < k → ¬ hrd (sga V n) t) (fun (k : Nat) => L - k) ?_ i0 ⟨by omega, by omega, fun t _ _ => by omega⟩
  intro k hI2 ih2
  try dsimp only at ih2 ⊢
  obtain ⟨hk, hk2, hk3⟩ := hI2
  refine j_iload_n (q := 0) X dX0_nextHeard_2 rfl rfl ?_
  refine j_aload_n (q := 1) X dX0_nextHeard_3 rfl rfl ?_
  refine j_getCB X (oC hb) hinX0 4 (by decide) rfl k19 dX0_nextHeard_4 ?_
  refine j_iload_n (q := 2) X dX0_nextHeard_7 rfl rfl ?_
  refine j_ialdB X (aC_5 hb) n rfl (by omega) (by decide) dX0_nextHeard_8 ?_
  rw [hL]
  refine j_ncmp_ge (tgt := 27) X k L dX0_nextHeard_9 (by decide) rfl rfl (by omega) (by omega) (fun c9 => ?_) (fun c9 => ?_)
  · skip
    refine j_iload_n (q := 0) X dX0_nextHeard_27 rfl rfl ?_
    exact j_iret X hr hlk ⟨⟨k, rfl, hk, hk2, hk3, fun q => by first | omega | exact h15.nt c18⟩, rfl⟩ dX0_nextHeard_28
  · skip
    refine j_aload_n (q := 1) X dX0_nextHeard_12 rfl rfl ?_
    refine j_iload_n (q := 2) X dX0_nextHeard_13 rfl rfl ?_
    refine j_iload_n (q := 0) X dX0_nextHeard_14 rfl rfl ?_
    refine j_callVi (As := [.int (nI n), .int (nI k)]) X (kX0_isHeard l D ad cs A z hb μ V n hn k (by omega)) (oC hb) rfl (cwV 2 X.1.2.2.2.2 gX0_nextHeard_X0_isHeard rfl rfl rfl (by decide +kernel) ⟨Nat.le_of_ble_eq_true rfl, Nat.le_of_ble_eq_true rfl⟩) rfl rfl (Nat.le_of_ble_eq_true rfl) dX0_nextHeard_15 (fun r15 μ15 h15 => ?_)
    obtain ⟨h15, rfl⟩ := h15
    refine j_if_ne (tgt := 27) X dX0_nextHeard_18 (by decide) (fun c18 => ?_) (fun c18 => ?_)
    · skip
      refine j_iload_n (q := 0) X dX0_nextHeard_27 rfl rfl ?_
      exact j_iret X hr hlk ⟨⟨k, rfl, hk, hk2, hk3, fun q => by first | omega | exact h15.nt c18⟩, rfl⟩ dX0_nextHeard_28
    · skip
      refine j_iinc (q := 0) (v := (nI (k + 1))) (lv' := [(3, .int (nI (k + 1))), (0, .ref (ad b 0)), (1, .int (nI n)), (2, .int (nI i0))]) X dX0_nextHeard_21 rfl (nI_1 _) (by decide) rfl ?_
      refine j_goto (tgt := 2) X dX0_nextHeard_24 (by decide) ?_
      exact ih2 (k + 1) ⟨by omega, by omega, fun t h1 h2 => by rcases Nat.lt_or_ge t k with q | q; exact hk3 t h1 q; rw [show t = k by omega]; exact h15.nf c18⟩ (by omega)
