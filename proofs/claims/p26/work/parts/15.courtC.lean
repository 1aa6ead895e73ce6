set_option maxHeartbeats 4000000 in
set_option maxRecDepth 100000 in
theorem kX0_place (l : Launch) (D : va_G) (ad : Nat → Nat → Nat) (cs : Nat → ClassId) (A : Nat → Prop) (z : Nat → Nat) {b : Nat} (hb : b < 10) (μ : Mm) (V : CV) (n : Nat) (hn : n < 20) (c0 : Nat) (hc : c0 < 12) : KV l D ad cs A z yX0_place wsX0_place (rm 0 0) [.ref (ad b 0), .int (nI n), .int (nI c0)] (mb μ b V) (fun μ1 => μ1 = mb μ b (placeS V n c0)) := by
  refine KV_of (cc := cX0_place) (maxL := 3) (ret := none) (by decide) rfl (Nat.le_of_ble_eq_true rfl) ?_
  intro p e s m args below meth c hr hlk X
  show J p l e _ s m args below meth c 0 0 _ 3 D ad cs A 0 [(0, .ref (ad b 0)), (1, .int (nI n)), (2, .int (nI c0))] [] (mb μ b V)
  have hinX0 : ∀ w ∈ wsX00, w ∈ wsX0_place := by decide +kernel
  have k35 : (Cond.fieldLink RX0 35 "PunCourts$Court" "borne" "[I").before args s = true := X.1.2.2.2.2 _ (by decide +kernel)
  have k44 : (Cond.fieldLink RX0 44 "PunCourts$Court" "gotDay" "[I").before args s = true := X.1.2.2.2.2 _ (by decide +kernel)
  have k104 : (Cond.fieldLink RX0 104 "PunCourts$Court" "days" "I").before args s = true := X.1.2.2.2.2 _ (by decide +kernel)
  have k47 : (Cond.fieldLink RX0 47 "PunCourts$Court" "cornerGiven" "[I").before args s = true := X.1.2.2.2.2 _ (by decide +kernel)
  have k32 : (Cond.fieldLink RX0 32 "PunCourts$Court" "nameGiven" "[I").before args s = true := X.1.2.2.2.2 _ (by decide +kernel)
  have k38 : (Cond.fieldLink RX0 38 "PunCourts$Court" "owed" "[I").before args s = true := X.1.2.2.2.2 _ (by decide +kernel)
  refine j_aload_n (q := 0) X dX0_place_0 rfl rfl ?_
  refine j_getCB X (oC hb) hinX0 9 (by decide) rfl k35 dX0_place_1 ?_
  refine j_iload_n (q := 2) X dX0_place_4 rfl rfl ?_
  refine j_iload_n (q := 1) X dX0_place_5 rfl rfl ?_
  refine j_iastB X (aC_10 hb) c0 rfl (by omega) (by decide) (by omega) dX0_place_6 ?_
  refine j_nm (fun W6 eW6 => ?_)
  refine j_aload_n (q := 0) X dX0_place_7 rfl rfl ?_
  refine j_getCB X (oC hb) hinX0 12 (by decide) rfl k44 dX0_place_8 ?_
  refine j_iload_n (q := 2) X dX0_place_11 rfl rfl ?_
  refine j_aload_n (q := 0) X dX0_place_12 rfl rfl ?_
  refine j_getCB X (oC hb) hinX0 1 (by decide) rfl k104 dX0_place_13 ?_
  refine j_iastB X (aC_13 hb) c0 rfl (by omega) (by decide) (by omega) dX0_place_16 ?_
  refine j_nm (fun W16 eW16 => ?_)
  refine j_aload_n (q := 0) X dX0_place_17 rfl rfl ?_
  refine j_getCB X (oC hb) hinX0 13 (by decide) rfl k47 dX0_place_18 ?_
  refine j_iload_n (q := 2) X dX0_place_21 rfl rfl ?_
  refine j_dup2 X dX0_place_22 rfl rfl ?_
  refine j_ialdB X (aC_14 hb) c0 rfl (by omega) (by decide) dX0_place_23 ?_
  refine j_iconst (v := (nI 1)) X dX0_place_24 (by decide) ?_
  refine j_iadd (v := ((W16 14 c0) + (nI 1))) X dX0_place_25 rfl ?_
  refine j_iastB X (aC_14 hb) c0 rfl (by omega) (by decide) (by omega) dX0_place_26 ?_
  refine j_nm (fun W26 eW26 => ?_)
  refine j_aload_n (q := 0) X dX0_place_27 rfl rfl ?_
  refine j_getCB X (oC hb) hinX0 8 (by decide) rfl k32 dX0_place_28 ?_
  refine j_iload_n (q := 1) X dX0_place_31 rfl rfl ?_
  refine j_dup2 X dX0_place_32 rfl rfl ?_
  refine j_ialdB X (aC_9 hb) n rfl (by omega) (by decide) dX0_place_33 ?_
  refine j_iconst (v := (nI 1)) X dX0_place_34 (by decide) ?_
  refine j_iadd (v := ((W26 9 n) + (nI 1))) X dX0_place_35 rfl ?_
  refine j_iastB X (aC_9 hb) n rfl (by omega) (by decide) (by omega) dX0_place_36 ?_
  refine j_nm (fun W36 eW36 => ?_)
  refine j_aload_n (q := 0) X dX0_place_37 rfl rfl ?_
  refine j_getCB X (oC hb) hinX0 10 (by decide) rfl k38 dX0_place_38 ?_
  refine j_iload_n (q := 2) X dX0_place_41 rfl rfl ?_
  refine j_dup2 X dX0_place_42 rfl rfl ?_
  refine j_ialdB X (aC_11 hb) c0 rfl (by omega) (by decide) dX0_place_43 ?_
  refine j_iconst (v := (nI 2)) X dX0_place_44 (by decide) ?_
  refine j_iadd (v := ((W36 11 c0) + (nI 2))) X dX0_place_45 rfl ?_
  refine j_iastB X (aC_11 hb) c0 rfl (by omega) (by decide) (by omega) dX0_place_46 ?_
  refine j_nm (fun W46 eW46 => ?_)
  refine j_iload_n (q := 2) X dX0_place_47 rfl rfl ?_
  refine j_if_le (tgt := 63) X dX0_place_48 (by decide) (fun c48 => ?_) (fun c48 => ?_)
  · skip
    have h48 : ¬ 0 < c0 := fun q => absurd c48 (nI_nle q (by omega))
    refine j_iload_n (q := 2) X dX0_place_63 rfl rfl ?_
    refine j_bipush (v := (nI 11)) X dX0_place_64 (by decide) ?_
    refine j_ncmp_ge (tgt := 81) X c0 11 dX0_place_66 (by decide) rfl rfl (by omega) (by omega) (fun c66 => ?_) (fun c66 => ?_)
    · skip
      have h66 : ¬ c0 < 11 := by omega
      exact j_vret X hr hlk (congrArg (mb μ b) (by rw [placeS, upL, if_neg h48, upR, if_neg h66, pl5]; subst_vars; rfl)) dX0_place_81
    · skip
      have h66 : c0 < 11 := by omega
      refine j_aload_n (q := 0) X dX0_place_69 rfl rfl ?_
      refine j_getCB X (oC hb) hinX0 10 (by decide) rfl k38 dX0_place_70 ?_
      refine j_iload_n (q := 2) X dX0_place_73 rfl rfl ?_
      refine j_iconst (v := (nI 1)) X dX0_place_74 (by decide) ?_
      refine j_iadd (v := (nI (c0 + 1))) X dX0_place_75 (nI_add _ _) ?_
      refine j_dup2 X dX0_place_76 rfl rfl ?_
      refine j_ialdB X (aC_11 hb) (c0 + 1) rfl (by omega) (by decide) dX0_place_77 ?_
      refine j_iconst (v := (nI 1)) X dX0_place_78 (by decide) ?_
      refine j_iadd (v := ((W46 11 (c0 + 1)) + (nI 1))) X dX0_place_79 rfl ?_
      refine j_iastB X (aC_11 hb) (c0 + 1) rfl (by omega) (by decide) (by omega) dX0_place_80 ?_
      refine j_nm (fun W80 eW80 => ?_)
      exact j_vret X hr hlk (congrArg (mb μ b) (by rw [placeS, upL, if_neg h48, upR, if_pos h66, pl5]; subst_vars; rfl)) dX0_place_81
  · skip
    have h48 : 0 < c0 := by rcases Nat.eq_zero_or_pos c0 with q | q; (subst q; exact absurd (by decide) c48); exact q
    refine j_aload_n (q := 0) X dX0_place_51 rfl rfl ?_
    refine j_getCB X (oC hb) hinX0 10 (by decide) rfl k38 dX0_place_52 ?_
    refine j_iload_n (q := 2) X dX0_place_55 rfl rfl ?_
    refine j_iconst (v := (nI 1)) X dX0_place_56 (by decide) ?_
    refine j_isub (v := (nI (c0 - 1))) X dX0_place_57 (pk_sub (by omega)) ?_
    refine j_dup2 X dX0_place_58 rfl rfl ?_
    refine j_ialdB X (aC_11 hb) (c0 - 1) rfl (by omega) (by decide) dX0_place_59 ?_
    refine j_iconst (v := (nI 1)) X dX0_place_60 (by decide) ?_
    refine j_iadd (v := ((W46 11 (c0 - 1)) + (nI 1))) X dX0_place_61 rfl ?_
    refine j_iastB X (aC_11 hb) (c0 - 1) rfl (by omega) (by decide) (by omega) dX0_place_62 ?_
    refine j_nm (fun W62 eW62 => ?_)
    refine j_iload_n (q := 2) X dX0_place_63 rfl rfl ?_
    refine j_bipush (v := (nI 11)) X dX0_place_64 (by decide) ?_
    refine j_ncmp_ge (tgt := 81) X c0 11 dX0_place_66 (by decide) rfl rfl (by omega) (by omega) (fun c66 => ?_) (fun c66 => ?_)
    · skip
      have h66 : ¬ c0 < 11 := by omega
      exact j_vret X hr hlk (congrArg (mb μ b) (by rw [placeS, upL, if_pos h48, upR, if_neg h66, pl5]; subst_vars; rfl)) dX0_place_81
    · skip
      have h66 : c0 < 11 := by omega
      refine j_aload_n (q := 0) X dX0_place_69 rfl rfl ?_
      refine j_getCB X (oC hb) hinX0 10 (by decide) rfl k38 dX0_place_70 ?_
      refine j_iload_n (q := 2) X dX0_place_73 rfl rfl ?_
      refine j_iconst (v := (nI 1)) X dX0_place_74 (by decide) ?_
      refine j_iadd (v := (nI (c0 + 1))) X dX0_place_75 (nI_add _ _) ?_
      refine j_dup2 X dX0_place_76 rfl rfl ?_
      refine j_ialdB X (aC_11 hb) (c0 + 1) rfl (by omega) (by decide) dX0_place_77 ?_
      refine j_iconst (v := (nI 1)) X dX0_place_78 (by decide) ?_
      refine j_iadd (v := ((W62 11 (c0 + 1)) + (nI 1))) X dX0_place_79 rfl ?_
      refine j_iastB X (aC_11 hb) (c0 + 1) rfl (by omega) (by decide) (by omega) dX0_place_80 ?_
      refine j_nm (fun W80 eW80 => ?_)
      exact j_vret X hr hlk (congrArg (mb μ b) (by rw [placeS, upL, if_pos h48, upR, if_pos h66, pl5]; subst_vars; rfl)) dX0_place_81
set_option maxHeartbeats 4000000 in
set_option maxRecDepth 100000 in
theorem kX0_bare (l : Launch) (D : va_G) (ad : Nat → Nat → Nat) (cs : Nat → ClassId) (A : Nat → Prop) (z : Nat → Nat) {b : Nat} (hb : b < 10) (μ : Mm) (V : CV) (c0 : Nat) (hc : c0 < 12) : KV l D ad cs A z yX0_bare wsX0_bare (rm 0 0) [.ref (ad b 0), .int (nI c0)] (mb μ b V) (fun μ1 => μ1 = mb μ b (us V 10 c0 (-6))) := by
  refine KV_of (cc := cX0_bare) (maxL := 2) (ret := none) (by decide) rfl (Nat.le_of_ble_eq_true rfl) ?_
  intro p e s m args below meth c hr hlk X
  show J p l e _ s m args below meth c 0 0 _ 2 D ad cs A 0 [(0, .ref (ad b 0)), (1, .int (nI c0))] [] (mb μ b V)
  have hinX0 : ∀ w ∈ wsX00, w ∈ wsX0_bare := by decide +kernel
  have k35 : (Cond.fieldLink RX0 35 "PunCourts$Court" "borne" "[I").before args s = true := X.1.2.2.2.2 _ (by decide +kernel)
  refine j_aload_n (q := 0) X dX0_bare_0 rfl rfl ?_
  refine j_getCB X (oC hb) hinX0 9 (by decide) rfl k35 dX0_bare_1 ?_
  refine j_iload_n (q := 1) X dX0_bare_4 rfl rfl ?_
  refine j_bipush (v := (-6)) X dX0_bare_5 (by decide) ?_
  refine j_iastB X (aC_10 hb) c0 rfl (by omega) (by decide) (by omega) dX0_bare_7 ?_
  exact j_vret X hr hlk rfl dX0_bare_8
set_option maxHeartbeats 4000000 in
set_option maxRecDepth 100000 in
theorem kX0_drop (l : Launch) (D : va_G) (ad : Nat → Nat → Nat) (cs : Nat → ClassId) (A : Nat → Prop) (z : Nat → Nat) {b : Nat} (hb : b < 10) (μ : Mm) (V : CV) (n : Nat) (hn : n < 20) : KI l D ad cs A z yX0_drop wsX0_drop (rm 1 23) [.ref (ad b 0), .int (nI n)] (mb μ b V) (fun r μ1 => r = nI (nb V (nI n) 12) ∧ μ1 = mb μ b (dr (us V 8 n (nI 1)) n 12)) := by
  refine KI_of (cc := cX0_drop) (maxL := 4) (ret := (some .int)) (by decide) rfl (Nat.le_of_ble_eq_true rfl) ?_
  intro p e s m args below meth c hr hlk X
  show J p l e _ s m args below meth c 0 0 _ 4 D ad cs A 0 [(0, .ref (ad b 0)), (1, .int (nI n))] [] (mb μ b V)
  have hinX0 : ∀ w ∈ wsX00, w ∈ wsX0_drop := by decide +kernel
  have k28 : (Cond.fieldLink RX0 28 "PunCourts$Court" "withdrawn" "[Z").before args s = true := X.1.2.2.2.2 _ (by decide +kernel)
  have k35 : (Cond.fieldLink RX0 35 "PunCourts$Court" "borne" "[I").before args s = true := X.1.2.2.2.2 _ (by decide +kernel)
  refine j_aload_n (q := 0) X dX0_drop_0 rfl rfl ?_
  refine j_iload_n (q := 1) X dX0_drop_1 rfl rfl ?_
  refine j_callVi (As := [.int (nI n)]) X (kX0_bearers l D ad cs A z hb μ V (nI n)) (oC hb) rfl (cwV 1 X.1.2.2.2.2 gX0_drop_X0_bearers rfl rfl rfl (by decide +kernel) ⟨Nat.le_of_ble_eq_true rfl, Nat.le_of_ble_eq_true rfl⟩) rfl rfl (Nat.le_of_ble_eq_true rfl) dX0_drop_2 (fun r2 μ2 h2 => ?_)
  obtain ⟨rfl, rfl⟩ := h2
  have hnb := nb_le V (nI n) 12
  refine j_istore_n (lv' := [(2, .int (nI (nb V (nI n) 12))), (0, .ref (ad b 0)), (1, .int (nI n))]) X dX0_drop_5 rfl (by decide) rfl ?_
  refine j_aload_n (q := 1) X dX0_drop_6 rfl rfl ?_
  refine j_getCB X (oC hb) hinX0 7 (by decide) rfl k28 dX0_drop_7 ?_
  refine j_iload_n (q := 2) X dX0_drop_10 rfl rfl ?_
  refine j_iconst (v := (nI 1)) X dX0_drop_11 (by decide) ?_
  refine j_zastB X (aC_8 hb) n rfl (by omega) (by decide) (Or.inr rfl) (by omega) dX0_drop_12 ?_
  refine j_iconst (v := (nI 0)) X dX0_drop_13 (by decide) ?_
  refine j_istore_n (lv' := [(3, .int (nI 0)), (2, .int (nI (nb V (nI n) 12))), (0, .ref (ad b 0)), (1, .int (nI n))]) X dX0_drop_14 rfl (by decide) rfl ?_
  refine j_lv [0, 2, 3, 1] rfl ?_
  refine jl2 (G := J p l e _ s m args below meth c 0 0 _ _ D ad cs A) (pc := 15) (fun (i : Nat) (W : CV) => [(3, .int (nI i)), (0, .ref (ad b 0)), (1, .int (nI n)), (2, .int (nI (nb V (nI n) 12)))]) (fun (i : Nat) (W : CV) => (mb μ b W)) (fun (i : Nat) (W : CV) => i ≤ 12 ∧ W = dr (us V 8 n (nI 1)) n i) (fun (i : Nat) (W : CV) => 12 - i) ?_ 0 (us V 8 n (nI 1)) ⟨by omega, rfl⟩
  intro i W hI15 ih15
  try dsimp only at ih15 ⊢
  obtain ⟨hi, hW⟩ := hI15
  refine j_iload_n (q := 0) X dX0_drop_15 rfl rfl ?_
  refine j_bipush (v := (nI 12)) X dX0_drop_16 (by decide) ?_
  refine j_ncmp_ge (tgt := 42) X i 12 dX0_drop_18 (by decide) rfl rfl (by omega) (by omega) (fun c18 => ?_) (fun c18 => ?_)
  · skip
    refine j_iload_n (q := 3) X dX0_drop_42 rfl rfl ?_
    exact j_iret X hr hlk ⟨rfl, by rw [hW, show i = 12 by omega]⟩ dX0_drop_43
  · skip
    refine j_aload_n (q := 1) X dX0_drop_21 rfl rfl ?_
    refine j_getCB X (oC hb) hinX0 9 (by decide) rfl k35 dX0_drop_22 ?_
    refine j_iload_n (q := 0) X dX0_drop_25 rfl rfl ?_
    refine j_ialdB X (aC_10 hb) i rfl (by omega) (by decide) dX0_drop_26 ?_
    refine j_iload_n (q := 2) X dX0_drop_27 rfl rfl ?_
    refine j_icmp_ne (tgt := 36) X dX0_drop_28 (by decide) (fun c28 => ?_) (fun c28 => ?_)
    · skip
      refine j_iinc (q := 0) (v := (nI (i + 1))) (lv' := [(3, .int (nI (i + 1))), (0, .ref (ad b 0)), (1, .int (nI n)), (2, .int (nI (nb V (nI n) 12)))]) X dX0_drop_36 rfl (nI_1 _) (by decide) rfl ?_
      refine j_goto (tgt := 15) X dX0_drop_39 (by decide) ?_
      exact ih15 (i + 1) W ⟨by omega, by rw [dr, ← hW]; first | exact (if_neg c28).symm | exact (if_pos (Classical.not_not.mp c28)).symm⟩ (by omega)
    · skip
      refine j_aload_n (q := 1) X dX0_drop_31 rfl rfl ?_
      refine j_iload_n (q := 0) X dX0_drop_32 rfl rfl ?_
      refine j_callVv (As := [.int (nI i)]) X (kX0_bare l D ad cs A z hb μ W i (by omega)) (oC hb) rfl (cwV 1 X.1.2.2.2.2 gX0_drop_X0_bare rfl rfl rfl (by decide +kernel) ⟨Nat.le_of_ble_eq_true rfl, Nat.le_of_ble_eq_true rfl⟩) rfl rfl (Nat.le_of_ble_eq_true rfl) dX0_drop_33 (fun μ33 h33 => ?_)
      subst h33
      refine j_iinc (q := 0) (v := (nI (i + 1))) (lv' := [(3, .int (nI (i + 1))), (0, .ref (ad b 0)), (1, .int (nI n)), (2, .int (nI (nb V (nI n) 12)))]) X dX0_drop_36 rfl (nI_1 _) (by decide) rfl ?_
      refine j_goto (tgt := 15) X dX0_drop_39 (by decide) ?_
      exact ih15 (i + 1) (us W 10 i (-6)) ⟨by omega, by rw [dr, ← hW]; first | exact (if_neg c28).symm | exact (if_pos (Classical.not_not.mp c28)).symm⟩ (by omega)
set_option maxHeartbeats 4000000 in
set_option maxRecDepth 100000 in
theorem kX0_mostOwing (l : Launch) (D : va_G) (ad : Nat → Nat → Nat) (cs : Nat → ClassId) (A : Nat → Prop) (z : Nat → Nat) {b : Nat} (hb : b < 10) (μ : Mm) (V : CV) : KI l D ad cs A z yX0_mostOwing wsX0_mostOwing (rm 0 0) [.ref (ad b 0)] (mb μ b V) (fun r μ1 => r = nI (mo V 12) ∧ μ1 = mb μ b V) := by
  refine KI_of (cc := cX0_mostOwing) (maxL := 3) (ret := (some .int)) (by decide) rfl (Nat.le_of_ble_eq_true rfl) ?_
  intro p e s m args below meth c hr hlk X
  show J p l e _ s m args below meth c 0 0 _ 3 D ad cs A 0 [(0, .ref (ad b 0))] [] (mb μ b V)
  have hinX0 : ∀ w ∈ wsX00, w ∈ wsX0_mostOwing := by decide +kernel
  have k38 : (Cond.fieldLink RX0 38 "PunCourts$Court" "owed" "[I").before args s = true := X.1.2.2.2.2 _ (by decide +kernel)
  refine j_iconst (v := (nI 0)) X dX0_mostOwing_0 (by decide) ?_
  refine j_istore_n (lv' := [(1, .int (nI 0)), (0, .ref (ad b 0))]) X dX0_mostOwing_1 rfl (by decide) rfl ?_
  refine j_iconst (v := (nI 1)) X dX0_mostOwing_2 (by decide) ?_
  refine j_istore_n (lv' := [(2, .int (nI 1)), (1, .int (nI 0)), (0, .ref (ad b 0))]) X dX0_mostOwing_3 rfl (by decide) rfl ?_
  refine jl2 (G := J p l e _ s m args below meth c 0 0 _ _ D ad cs A) (pc := 4) (fun (i : Nat) (m1 : Nat) => [(2, .int (nI i)), (1, .int (nI m1)), (0, .ref (ad b 0))]) (fun (i : Nat) (m1 : Nat) => (mb μ b V)) (fun (i : Nat) (m1 : Nat) => 1 ≤ i ∧ i ≤ 12 ∧ m1 = mo V i) (fun (i : Nat) (m1 : Nat) => 12 - i) ?_ 1 0 ⟨by omega, by omega, (mo_1 V).symm⟩
  intro i m1 hI4 ih4
  try dsimp only at ih4 ⊢
  obtain ⟨hi1, hi, hm⟩ := hI4
  have hml := mo_lt V i
  refine j_iload_n (q := 0) X dX0_mostOwing_4 rfl rfl ?_
  refine j_bipush (v := (nI 12)) X dX0_mostOwing_5 (by decide) ?_
  refine j_ncmp_ge (tgt := 33) X i 12 dX0_mostOwing_7 (by decide) rfl rfl (by omega) (by omega) (fun c7 => ?_) (fun c7 => ?_)
  · skip
    refine j_iload_n (q := 1) X dX0_mostOwing_33 rfl rfl ?_
    exact j_iret X hr hlk ⟨by rw [hm, show i = 12 by omega], rfl⟩ dX0_mostOwing_34
  · skip
    refine j_aload_n (q := 2) X dX0_mostOwing_10 rfl rfl ?_
    refine j_getCB X (oC hb) hinX0 10 (by decide) rfl k38 dX0_mostOwing_11 ?_
    refine j_iload_n (q := 0) X dX0_mostOwing_14 rfl rfl ?_
    refine j_ialdB X (aC_11 hb) i rfl (by omega) (by decide) dX0_mostOwing_15 ?_
    refine j_aload_n (q := 2) X dX0_mostOwing_16 rfl rfl ?_
    refine j_getCB X (oC hb) hinX0 10 (by decide) rfl k38 dX0_mostOwing_17 ?_
    refine j_iload_n (q := 1) X dX0_mostOwing_20 rfl rfl ?_
    refine j_ialdB X (aC_11 hb) m1 rfl (by omega) (by decide) dX0_mostOwing_21 ?_
    refine j_icmp_le (tgt := 27) X dX0_mostOwing_22 (by decide) (fun c22 => ?_) (fun c22 => ?_)
    · skip
      refine j_iinc (q := 0) (v := (nI (i + 1))) (lv' := [(2, .int (nI (i + 1))), (1, .int (nI m1)), (0, .ref (ad b 0))]) X dX0_mostOwing_27 rfl (nI_1 _) (by decide) rfl ?_
      refine j_goto (tgt := 4) X dX0_mostOwing_30 (by decide) ?_
      exact ih4 (i + 1) m1 ⟨by omega, by omega, by rw [mo, ← hm]; first | exact (if_neg (Int32.not_lt.mpr c22)).symm | exact (if_pos (Int32.not_le.mp c22)).symm⟩ (by omega)
    · skip
      refine j_iload_n (q := 0) X dX0_mostOwing_25 rfl rfl ?_
      refine j_istore_n (lv' := [(1, .int (nI i)), (2, .int (nI i)), (0, .ref (ad b 0))]) X dX0_mostOwing_26 rfl (by decide) rfl ?_
      refine j_iinc (q := 1) (v := (nI (i + 1))) (lv' := [(2, .int (nI (i + 1))), (1, .int (nI i)), (0, .ref (ad b 0))]) X dX0_mostOwing_27 rfl (nI_1 _) (by decide) rfl ?_
      refine j_goto (tgt := 4) X dX0_mostOwing_30 (by decide) ?_
      exact ih4 (i + 1) i ⟨by omega, by omega, by rw [mo, ← hm]; first | exact (if_neg (Int32.not_lt.mpr c22)).symm | exact (if_pos (Int32.not_le.mp c22)).symm⟩ (by omega)
set_option maxHeartbeats 4000000 in
set_option maxRecDepth 100000 in
theorem kX0_setUpPosts (l : Launch) (D : va_G) (ad : Nat → Nat → Nat) (cs : Nat → ClassId) (A : Nat → Prop) (z : Nat → Nat) {b : Nat} (hb : b < 10) (μ : Mm) (V : CV) (P : Nat) (hP : V 1 2 = nI P) (hP9 : P ≤ 9) : KV l D ad cs A z yX0_setUpPosts wsX0_setUpPosts (rm 1 22) [.ref (ad b 0)] (mb μ b V) (fun μ1 => μ1 = mb μ b (su V P)) := by
  refine KV_of (cc := cX0_setUpPosts) (maxL := 3) (ret := none) (by decide) rfl (Nat.le_of_ble_eq_true rfl) ?_
  intro p e s m args below meth c hr hlk X
  show J p l e _ s m args below meth c 0 0 _ 3 D ad cs A 0 [(0, .ref (ad b 0))] [] (mb μ b V)
  have hinX0 : ∀ w ∈ wsX00, w ∈ wsX0_setUpPosts := by decide +kernel
  have k9 : (Cond.fieldLink RX0 9 "PunCourts$Court" "settings" "[I").before args s = true := X.1.2.2.2.2 _ (by decide +kernel)
  have k38 : (Cond.fieldLink RX0 38 "PunCourts$Court" "owed" "[I").before args s = true := X.1.2.2.2.2 _ (by decide +kernel)
  have k41 : (Cond.fieldLink RX0 41 "PunCourts$Court" "posted" "[I").before args s = true := X.1.2.2.2.2 _ (by decide +kernel)
  refine j_iconst (v := (nI 0)) X dX0_setUpPosts_0 (by decide) ?_
  refine j_istore_n (lv' := [(1, .int (nI 0)), (0, .ref (ad b 0))]) X dX0_setUpPosts_1 rfl (by decide) rfl ?_
  refine jl2 (G := J p l e _ s m args below meth c 0 0 _ _ D ad cs A) (pc := 2) (fun (i : Nat) (W : CV) => [(1, .int (nI i)), (0, .ref (ad b 0))]) (fun (i : Nat) (W : CV) => (mb μ b W)) (fun (i : Nat) (W : CV) => i ≤ P ∧ W = su V i) (fun (i : Nat) (W : CV) => P - i) ?_ 0 V ⟨by omega, rfl⟩
  intro i W hI2 ih2
  try dsimp only at ih2 ⊢
  obtain ⟨hi, hW⟩ := hI2
  have hW12 : W 1 2 = nI P := by rw [hW, su_row (by decide) (by decide)]; exact hP
  refine j_iload_n (q := 0) X dX0_setUpPosts_2 rfl rfl ?_
  refine j_aload_n (q := 1) X dX0_setUpPosts_3 rfl rfl ?_
  refine j_getCB X (oC hb) hinX0 0 (by decide) rfl k9 dX0_setUpPosts_4 ?_
  refine j_iconst (v := (nI 2)) X dX0_setUpPosts_7 (by decide) ?_
  refine j_ialdB X (aC_1 hb) 2 rfl (by decide) (by decide) dX0_setUpPosts_8 ?_
  rw [hW12]
  refine j_ncmp_ge (tgt := 53) X i P dX0_setUpPosts_9 (by decide) rfl rfl (by omega) (by omega) (fun c9 => ?_) (fun c9 => ?_)
  · skip
    exact j_vret X hr hlk (congrArg (mb μ b) (by rw [hW, show i = P by omega])) dX0_setUpPosts_53
  · skip
    refine j_aload_n (q := 1) X dX0_setUpPosts_12 rfl rfl ?_
    refine j_callVi (As := []) X (kX0_mostOwing l D ad cs A z hb μ W) (oC hb) rfl (cwV 0 X.1.2.2.2.2 gX0_setUpPosts_X0_mostOwing rfl rfl rfl (by decide +kernel) ⟨Nat.le_of_ble_eq_true rfl, Nat.le_of_ble_eq_true rfl⟩) rfl rfl (Nat.le_of_ble_eq_true rfl) dX0_setUpPosts_13 (fun r13 μ13 h13 => ?_)
    obtain ⟨h13, rfl⟩ := h13
    rw [h13]
    have hml := mo_lt W 12
    refine j_istore_n (lv' := [(2, .int (nI (mo W 12))), (1, .int (nI i)), (0, .ref (ad b 0))]) X dX0_setUpPosts_16 rfl (by decide) rfl ?_
    refine j_aload_n (q := 2) X dX0_setUpPosts_17 rfl rfl ?_
    refine j_getCB X (oC hb) hinX0 10 (by decide) rfl k38 dX0_setUpPosts_18 ?_
    refine j_iload_n (q := 0) X dX0_setUpPosts_21 rfl rfl ?_
    refine j_ialdB X (aC_11 hb) (mo W 12) rfl (by omega) (by decide) dX0_setUpPosts_22 ?_
    refine j_if_gt (tgt := 27) X dX0_setUpPosts_23 (by decide) (fun c23 => ?_) (fun c23 => ?_)
    · skip
      refine j_aload_n (q := 2) X dX0_setUpPosts_27 rfl rfl ?_
      refine j_getCB X (oC hb) hinX0 10 (by decide) rfl k38 dX0_setUpPosts_28 ?_
      refine j_iload_n (q := 0) X dX0_setUpPosts_31 rfl rfl ?_
      refine j_dup2 X dX0_setUpPosts_32 rfl rfl ?_
      refine j_ialdB X (aC_11 hb) (mo W 12) rfl (by omega) (by decide) dX0_setUpPosts_33 ?_
      refine j_iconst (v := (nI 1)) X dX0_setUpPosts_34 (by decide) ?_
      refine j_isub (v := ((W 11 (mo W 12)) - (nI 1))) X dX0_setUpPosts_35 rfl ?_
      refine j_iastB X (aC_11 hb) (mo W 12) rfl (by omega) (by decide) (by omega) dX0_setUpPosts_36 ?_
      refine j_aload_n (q := 2) X dX0_setUpPosts_37 rfl rfl ?_
      refine j_getCB X (oC hb) hinX0 11 (by decide) rfl k41 dX0_setUpPosts_38 ?_
      refine j_iload_n (q := 0) X dX0_setUpPosts_41 rfl rfl ?_
      refine j_dup2 X dX0_setUpPosts_42 rfl rfl ?_
      refine j_ialdB X (aC_12 hb) (mo W 12) rfl (by omega) (by decide) dX0_setUpPosts_43 ?_
      refine j_iconst (v := (nI 1)) X dX0_setUpPosts_44 (by decide) ?_
      refine j_iadd (v := (((us W 11 (mo W 12) ((W 11 (mo W 12)) - (nI 1))) 12 (mo W 12)) + (nI 1))) X dX0_setUpPosts_45 rfl ?_
      refine j_iastB X (aC_12 hb) (mo W 12) rfl (by omega) (by decide) (by omega) dX0_setUpPosts_46 ?_
      refine j_iinc (q := 1) (v := (nI (i + 1))) (lv' := [(1, .int (nI (i + 1))), (2, .int (nI (mo W 12))), (0, .ref (ad b 0))]) X dX0_setUpPosts_47 rfl (nI_1 _) (by decide) rfl ?_
      refine j_goto (tgt := 2) X dX0_setUpPosts_50 (by decide) ?_
      refine j_lv (lv1 := [(1, .int (nI (i + 1))), (0, .ref (ad b 0))]) [0, 2] rfl ?_
      exact ih2 (i + 1) (us (us W 11 (mo W 12) ((W 11 (mo W 12)) - (nI 1))) 12 (mo W 12) (((us W 11 (mo W 12) ((W 11 (mo W 12)) - (nI 1))) 12 (mo W 12)) + (nI 1))) ⟨by omega, by rw [su, ← hW, up1, if_pos c23]; rfl⟩ (by omega)
    · skip
      exact j_vret X hr hlk (congrArg (mb μ b) (by rw [hW]; exact (su_fix (by rw [← hW, up1, if_neg c23]) P hi).symm)) dX0_setUpPosts_26
set_option maxHeartbeats 4000000 in
set_option maxRecDepth 100000 in
theorem kX0_wrongOnMap (l : Launch) (D : va_G) (ad : Nat → Nat → Nat) (cs : Nat → ClassId) (A : Nat → Prop) (z : Nat → Nat) {b : Nat} (hb : b < 10) (μ : Mm) (V : CV) : KI l D ad cs A z yX0_wrongOnMap wsX0_wrongOnMap (rm 0 0) [.ref (ad b 0)] (mb μ b V) (fun r μ1 => r = wmS V ∧ μ1 = mb μ b V) := by
  refine KI_of (cc := cX0_wrongOnMap) (maxL := 3) (ret := (some .int)) (by decide) rfl (Nat.le_of_ble_eq_true rfl) ?_
  intro p e s m args below meth c hr hlk X
  show J p l e _ s m args below meth c 0 0 _ 3 D ad cs A 0 [(0, .ref (ad b 0))] [] (mb μ b V)
  have hinX0 : ∀ w ∈ wsX00, w ∈ wsX0_wrongOnMap := by decide +kernel
  have k140 : (Cond.fieldLink RX0 140 "PunCourts$Court" "mapIssued" "Z").before args s = true := X.1.2.2.2.2 _ (by decide +kernel)
  have k50 : (Cond.fieldLink RX0 50 "PunCourts$Court" "shown" "[I").before args s = true := X.1.2.2.2.2 _ (by decide +kernel)
  have k35 : (Cond.fieldLink RX0 35 "PunCourts$Court" "borne" "[I").before args s = true := X.1.2.2.2.2 _ (by decide +kernel)
  refine j_aload_n (q := 0) X dX0_wrongOnMap_0 rfl rfl ?_
  refine j_getCB X (oC hb) hinX0 14 (by decide) rfl k140 dX0_wrongOnMap_1 ?_
  refine j_if_ne (tgt := 10) X dX0_wrongOnMap_4 (by decide) (fun c4 => ?_) (fun c4 => ?_)
  · skip
    refine j_iconst (v := (nI 0)) X dX0_wrongOnMap_10 (by decide) ?_
    refine j_istore_n (lv' := [(1, .int (nI 0)), (0, .ref (ad b 0))]) X dX0_wrongOnMap_11 rfl (by decide) rfl ?_
    refine j_iconst (v := (nI 0)) X dX0_wrongOnMap_12 (by decide) ?_
    refine j_istore_n (lv' := [(2, .int (nI 0)), (1, .int (nI 0)), (0, .ref (ad b 0))]) X dX0_wrongOnMap_13 rfl (by decide) rfl ?_
    refine jl2 (G := J p l e _ s m args below meth c 0 0 _ _ D ad cs A) (pc := 14) (fun (i : Nat) (r : Nat) => [(2, .int (nI i)), (1, .int (nI r)), (0, .ref (ad b 0))]) (fun (i : Nat) (r : Nat) => (mb μ b V)) (fun (i : Nat) (r : Nat) => i ≤ 12 ∧ r = wm V i) (fun (i : Nat) (r : Nat) => 12 - i) ?_ 0 0 ⟨by omega, rfl⟩
    intro i r hI14 ih14
    try dsimp only at ih14 ⊢
    obtain ⟨hi, hrr⟩ := hI14
    refine j_iload_n (q := 0) X dX0_wrongOnMap_14 rfl rfl ?_
    refine j_bipush (v := (nI 12)) X dX0_wrongOnMap_15 (by decide) ?_
    refine j_ncmp_ge (tgt := 44) X i 12 dX0_wrongOnMap_17 (by decide) rfl rfl (by omega) (by omega) (fun c17 => ?_) (fun c17 => ?_)
    · skip
      refine j_iload_n (q := 1) X dX0_wrongOnMap_44 rfl rfl ?_
      exact j_iret X hr hlk ⟨by rw [wmS, if_neg c4, hrr, show i = 12 by omega], rfl⟩ dX0_wrongOnMap_45
    · skip
      refine j_aload_n (q := 2) X dX0_wrongOnMap_20 rfl rfl ?_
      refine j_getCB X (oC hb) hinX0 15 (by decide) rfl k50 dX0_wrongOnMap_21 ?_
      refine j_iload_n (q := 0) X dX0_wrongOnMap_24 rfl rfl ?_
      refine j_ialdB X (aC_16 hb) i rfl (by omega) (by decide) dX0_wrongOnMap_25 ?_
      refine j_aload_n (q := 2) X dX0_wrongOnMap_26 rfl rfl ?_
      refine j_getCB X (oC hb) hinX0 9 (by decide) rfl k35 dX0_wrongOnMap_27 ?_
      refine j_iload_n (q := 0) X dX0_wrongOnMap_30 rfl rfl ?_
      refine j_ialdB X (aC_10 hb) i rfl (by omega) (by decide) dX0_wrongOnMap_31 ?_
      refine j_icmp_eq (tgt := 38) X dX0_wrongOnMap_32 (by decide) (fun c32 => ?_) (fun c32 => ?_)
      · skip
        refine j_iinc (q := 0) (v := (nI (i + 1))) (lv' := [(2, .int (nI (i + 1))), (1, .int (nI r)), (0, .ref (ad b 0))]) X dX0_wrongOnMap_38 rfl (nI_1 _) (by decide) rfl ?_
        refine j_goto (tgt := 14) X dX0_wrongOnMap_41 (by decide) ?_
        exact ih14 (i + 1) r ⟨by omega, by rw [wm]; simp_all⟩ (by omega)
      · skip
        refine j_iinc (q := 1) (v := (nI (r + 1))) (lv' := [(1, .int (nI (r + 1))), (2, .int (nI i)), (0, .ref (ad b 0))]) X dX0_wrongOnMap_35 rfl (nI_1 _) (by decide) rfl ?_
        refine j_iinc (q := 1) (v := (nI (i + 1))) (lv' := [(2, .int (nI (i + 1))), (1, .int (nI (r + 1))), (0, .ref (ad b 0))]) X dX0_wrongOnMap_38 rfl (nI_1 _) (by decide) rfl ?_
        refine j_goto (tgt := 14) X dX0_wrongOnMap_41 (by decide) ?_
        exact ih14 (i + 1) (r + 1) ⟨by omega, by rw [wm]; simp_all⟩ (by omega)
  · skip
    refine j_bipush (v := (-6)) X dX0_wrongOnMap_7 (by decide) ?_
    exact j_iret X hr hlk ⟨by rw [wmS, if_pos (Classical.not_not.mp c4)], rfl⟩ dX0_wrongOnMap_9
set_option maxHeartbeats 4000000 in
set_option maxRecDepth 100000 in
theorem kX0_giveFromQueue (l : Launch) (D : va_G) (ad : Nat → Nat → Nat) (cs : Nat → ClassId) (A : Nat → Prop) (z : Nat → Nat) {b : Nat} (hb : b < 10) (μ : Mm) (V : CV) (a N P : Nat) (hpd : PD V a N P) : KI l D ad cs A z yX0_giveFromQueue wsX0_giveFromQueue (rm 4 93) [.ref (ad b 0)] (mb μ b V) (fun r μ1 => r = nI (gqn V a N) ∧ μ1 = mb μ b (gq V a N)) := by
  refine KI_of (cc := cX0_giveFromQueue) (maxL := 4) (ret := (some .boolean)) (by decide) rfl (Nat.le_of_ble_eq_true rfl) ?_
  intro p e s m args below meth c hr hlk X
  show J p l e _ s m args below meth c 0 0 _ 4 D ad cs A 0 [(0, .ref (ad b 0))] [] (mb μ b V)
  have hinX0 : ∀ w ∈ wsX00, w ∈ wsX0_giveFromQueue := by decide +kernel
  have k53 : (Cond.fieldLink RX0 53 "PunCourts$Court" "names" "I").before args s = true := X.1.2.2.2.2 _ (by decide +kernel)
  have k25 : (Cond.fieldLink RX0 25 "PunCourts$Court" "honours" "[I").before args s = true := X.1.2.2.2.2 _ (by decide +kernel)
  obtain ⟨ha, ha11, hN, hN20, hP, hP9, hhon⟩ := id hpd
  refine j_bipush (v := (nI 10 - nI 1)) X dX0_giveFromQueue_0 (by decide) ?_
  refine j_istore_n (lv' := [(1, .int (nI 10 - nI 1)), (0, .ref (ad b 0))]) X dX0_giveFromQueue_2 rfl (by decide) rfl ?_
  refine jl1 (G := J p l e _ s m args below meth c 0 0 _ _ D ad cs A) (pc := 3) (fun (j : Nat) => [(1, .int (nI j - nI 1)), (0, .ref (ad b 0))]) (fun (j : Nat) => (mb μ b V)) (fun (j : Nat) => j ≤ 10 ∧ ∀ m, cnd V a N m → V 7 m < nI j) (fun (j : Nat) => j) ?_ 10 ⟨by omega, fun m hm => by obtain ⟨h, h9, e⟩ := hhon m hm.1; rw [e]; exact nI_lt (by omega) (by omega)⟩
  intro j hI3 ih3
  try dsimp only at ih3 ⊢
  obtain ⟨hj, hout⟩ := hI3
  refine j_iload_n (q := 0) X dX0_giveFromQueue_3 rfl rfl ?_
  refine j_if_lt (tgt := 67) X dX0_giveFromQueue_4 (by decide) (fun c4 => ?_) (fun c4 => ?_)
  · skip
    have hj0 := sub1_t (by omega) c4
    have hpk : pkN V a N = 20 := pkN_none hN20 (fun m hm => by have h1 := hout m hm; rw [hj0] at h1; obtain ⟨h, h9, e⟩ := hhon m hm.1; rw [e] at h1; exact nI_pos (by omega) h1)
    refine j_iconst (v := (nI 0)) X dX0_giveFromQueue_67 (by decide) ?_
    exact j_zret X hr hlk (by first | exact Or.inl rfl | exact Or.inr rfl) ⟨by rw [gqn, if_pos hpk], by rw [gq, if_pos hpk]⟩ dX0_giveFromQueue_68
  · skip
    have hj1 := sub1_f c4
    rw [pk_sub hj1]
    refine j_iconst (v := (nI 0)) X dX0_giveFromQueue_7 (by decide) ?_
    refine j_istore_n (lv' := [(2, .int (nI 0)), (1, .int (nI (j - 1))), (0, .ref (ad b 0))]) X dX0_giveFromQueue_8 rfl (by decide) rfl ?_
    refine j_lv [0, 2, 1] rfl ?_
    refine jl1 (G := J p l e _ s m args below meth c 0 0 _ _ D ad cs A) (pc := 9) (fun (i : Nat) => [(2, .int (nI i)), (0, .ref (ad b 0)), (1, .int (nI (j - 1)))]) (fun (i : Nat) => (mb μ b V)) (fun (i : Nat) => i ≤ N ∧ ∀ m, m < i → cnd V a N m → V 7 m ≠ nI (j - 1)) (fun (i : Nat) => N - i) ?_ 0 ⟨by omega, fun m hm => absurd hm (Nat.not_lt_zero _)⟩
    intro i hI9 ih9
    try dsimp only at ih9 ⊢
    obtain ⟨hi, hin⟩ := hI9
    refine j_iload_n (q := 0) X dX0_giveFromQueue_9 rfl rfl ?_
    refine j_aload_n (q := 1) X dX0_giveFromQueue_10 rfl rfl ?_
    refine j_getCB X (oC hb) hinX0 2 (by decide) rfl k53 dX0_giveFromQueue_11 ?_
    rw [hN]
    refine j_ncmp_ge (tgt := 61) X i N dX0_giveFromQueue_14 (by decide) rfl rfl (by omega) (by omega) (fun c14 => ?_) (fun c14 => ?_)
    · skip
      refine j_iinc (q := 2) (v := (nI (j - 1) - nI 1)) (lv' := [(1, .int (nI (j - 1) - nI 1)), (2, .int (nI i)), (0, .ref (ad b 0))]) X dX0_giveFromQueue_61 rfl (iinc_m1 _) (by decide) rfl ?_
      refine j_goto (tgt := 3) X dX0_giveFromQueue_64 (by decide) ?_
      refine j_lv (lv1 := [(1, .int (nI (j - 1) - nI 1)), (0, .ref (ad b 0))]) [0, 2] rfl ?_
      exact ih3 (j - 1) ⟨by omega, fun m hm => by obtain ⟨h, h9, e⟩ := hhon m hm.1; have h1 := hout m hm; have h2 := hin m (by have := hm.1; omega) hm; rw [e] at h1 h2 ⊢; have h3 := (nI_ltI (by omega) (by omega)).mp h1; have h4 : h ≠ j - 1 := fun z => h2 (by rw [z]); exact nI_lt (by omega) (by omega)⟩ (by omega)
    · skip
      refine j_aload_n (q := 1) X dX0_giveFromQueue_17 rfl rfl ?_
      refine j_getCB X (oC hb) hinX0 6 (by decide) rfl k25 dX0_giveFromQueue_18 ?_
      refine j_iload_n (q := 0) X dX0_giveFromQueue_21 rfl rfl ?_
      refine j_ialdB X (aC_7 hb) i rfl (by omega) (by decide) dX0_giveFromQueue_22 ?_
      refine j_iload_n (q := 2) X dX0_giveFromQueue_23 rfl rfl ?_
      refine j_icmp_ne (tgt := 55) X dX0_giveFromQueue_24 (by decide) (fun c24 => ?_) (fun c24 => ?_)
      · skip
        have hno : cnd V a N i → V 7 i ≠ nI (j - 1) := fun _ => c24
        refine j_iinc (q := 0) (v := (nI (i + 1))) (lv' := [(2, .int (nI (i + 1))), (0, .ref (ad b 0)), (1, .int (nI (j - 1)))]) X dX0_giveFromQueue_55 rfl (nI_1 _) (by decide) rfl ?_
        refine j_goto (tgt := 9) X dX0_giveFromQueue_58 (by decide) ?_
        exact ih9 (i + 1) ⟨by omega, fun m hm hc => by rcases Nat.lt_or_ge m i with q | q; exact hin m q hc; (have e : m = i := by omega); subst e; exact hno hc⟩ (by omega)
      · skip
        refine j_aload_n (q := 1) X dX0_giveFromQueue_27 rfl rfl ?_
        refine j_iload_n (q := 0) X dX0_giveFromQueue_28 rfl rfl ?_
        refine j_callVi (As := [.int (nI i)]) X (kX0_waits l D ad cs A z hb μ V i (by omega)) (oC hb) rfl (cwV 1 X.1.2.2.2.2 gX0_giveFromQueue_X0_waits rfl rfl rfl (by decide +kernel) ⟨Nat.le_of_ble_eq_true rfl, Nat.le_of_ble_eq_true rfl⟩) rfl rfl (Nat.le_of_ble_eq_true rfl) dX0_giveFromQueue_29 (fun r29 μ29 h29 => ?_)
        obtain ⟨h29, rfl⟩ := h29
        refine j_if_eq (tgt := 55) X dX0_giveFromQueue_32 (by decide) (fun c32 => ?_) (fun c32 => ?_)
        · skip
          have hno : cnd V a N i → V 7 i ≠ nI (j - 1) := fun q => absurd q.2.1 (h29.f c32)
          refine j_iinc (q := 0) (v := (nI (i + 1))) (lv' := [(2, .int (nI (i + 1))), (0, .ref (ad b 0)), (1, .int (nI (j - 1)))]) X dX0_giveFromQueue_55 rfl (nI_1 _) (by decide) rfl ?_
          refine j_goto (tgt := 9) X dX0_giveFromQueue_58 (by decide) ?_
          exact ih9 (i + 1) ⟨by omega, fun m hm hc => by rcases Nat.lt_or_ge m i with q | q; exact hin m q hc; (have e : m = i := by omega); subst e; exact hno hc⟩ (by omega)
        · skip
          refine j_aload_n (q := 1) X dX0_giveFromQueue_35 rfl rfl ?_
          refine j_iload_n (q := 0) X dX0_giveFromQueue_36 rfl rfl ?_
          refine j_callVi (As := [.int (nI i)]) X (kX0_lowestFree l D ad cs A z hb μ V a ha ha11 i (by omega)) (oC hb) rfl (cwV 1 X.1.2.2.2.2 gX0_giveFromQueue_X0_lowestFree rfl rfl rfl (by decide +kernel) ⟨Nat.le_of_ble_eq_true rfl, Nat.le_of_ble_eq_true rfl⟩) rfl rfl (Nat.le_of_ble_eq_true rfl) dX0_giveFromQueue_37 (fun r37 μ37 h37 => ?_)
          obtain ⟨h37, rfl⟩ := h37
          rw [h37]
          refine j_istore_n (lv' := [(3, .int (low (rsn V a i))), (2, .int (nI i)), (0, .ref (ad b 0)), (1, .int (nI (j - 1)))]) X dX0_giveFromQueue_40 rfl (by decide) rfl ?_
          refine j_iload_n (q := 0) X dX0_giveFromQueue_41 rfl rfl ?_
          refine j_bipush (v := (-6)) X dX0_giveFromQueue_42 (by decide) ?_
          refine j_icmp_eq (tgt := 55) X dX0_giveFromQueue_44 (by decide) (fun c44 => ?_) (fun c44 => ?_)
          · skip
            have hno : cnd V a N i → V 7 i ≠ nI (j - 1) := fun q => absurd c44 q.2.2
            refine j_iinc (q := 1) (v := (nI (i + 1))) (lv' := [(2, .int (nI (i + 1))), (3, .int (low (rsn V a i))), (0, .ref (ad b 0)), (1, .int (nI (j - 1)))]) X dX0_giveFromQueue_55 rfl (nI_1 _) (by decide) rfl ?_
            refine j_goto (tgt := 9) X dX0_giveFromQueue_58 (by decide) ?_
            refine j_lv (lv1 := [(2, .int (nI (i + 1))), (0, .ref (ad b 0)), (1, .int (nI (j - 1)))]) [0, 2, 3] rfl ?_
            exact ih9 (i + 1) ⟨by omega, fun m hm hc => by rcases Nat.lt_or_ge m i with q | q; exact hin m q hc; (have e : m = i := by omega); subst e; exact hno hc⟩ (by omega)
          · skip
            obtain ⟨hlc, hlc2⟩ := low_c c44
            rw [hlc]
            have hcn : cnd V a N i := ⟨by omega, h29.t c32, c44⟩
            have hpk : pkN V a N = i := pkN_eq hN20 hcn (fun m hm hb2 => by have e24 := Classical.not_not.mp c24; rcases hb2 with q | ⟨q, w⟩; (have h1 := hout m hm; obtain ⟨h, h9, e⟩ := hhon m hm.1; rw [e] at h1 q; rw [e24] at q; have h2 := (nI_ltI (by omega) (by omega)).mp h1; have h3 := (nI_ltI (by omega) (by omega)).mp q; omega); exact hin m w hm (q.trans e24))
            refine j_aload_n (q := 2) X dX0_giveFromQueue_47 rfl rfl ?_
            refine j_iload_n (q := 1) X dX0_giveFromQueue_48 rfl rfl ?_
            refine j_iload_n (q := 0) X dX0_giveFromQueue_49 rfl rfl ?_
            refine j_callVv (As := [.int (nI i), .int (nI (lw (rsn V a i) 12))]) X (kX0_place l D ad cs A z hb μ V i (by omega) (lw (rsn V a i) 12) hlc2) (oC hb) rfl (cwV 2 X.1.2.2.2.2 gX0_giveFromQueue_X0_place rfl rfl rfl (by decide +kernel) ⟨Nat.le_of_ble_eq_true rfl, Nat.le_of_ble_eq_true rfl⟩) rfl rfl (Nat.le_of_ble_eq_true rfl) dX0_giveFromQueue_50 (fun μ50 h50 => ?_)
            subst h50
            refine j_iconst (v := (nI 1)) X dX0_giveFromQueue_53 (by decide) ?_
            exact j_zret X hr hlk (by first | exact Or.inl rfl | exact Or.inr rfl) ⟨by rw [gqn, hpk, if_neg (by omega)], by rw [gq, hpk, if_neg (by omega)]⟩ dX0_giveFromQueue_54
set_option maxHeartbeats 4000000 in
set_option maxRecDepth 100000 in
theorem kX0_live (l : Launch) (D : va_G) (ad : Nat → Nat → Nat) (cs : Nat → ClassId) (A : Nat → Prop) (z : Nat → Nat) {b : Nat} (hb : b < 10) (μ : Mm) (V : CV) (a N P : Nat) (hpd : PD V a N P) (k : Nat) (hk : k ≤ 300) : KI l D ad cs A z yX0_live wsX0_live (rm 5 116) [.ref (ad b 0), .int (nI k)] (mb μ b V) (fun r μ1 => r = nI (dayn V a N P k) ∧ μ1 = mb μ b (days V a N P k)) := by
  refine KI_of (cc := cX0_live) (maxL := 4) (ret := (some .int)) (by decide) rfl (Nat.le_of_ble_eq_true rfl) ?_
  intro p e s m args below meth c hr hlk X
  show J p l e _ s m args below meth c 0 0 _ 4 D ad cs A 0 [(0, .ref (ad b 0)), (1, .int (nI k))] [] (mb μ b V)
  have hinX0 : ∀ w ∈ wsX00, w ∈ wsX0_live := by decide +kernel
  have k104 : (Cond.fieldLink RX0 104 "PunCourts$Court" "days" "I").before args s = true := X.1.2.2.2.2 _ (by decide +kernel)
  refine j_iconst (v := (nI 0)) X dX0_live_0 (by decide) ?_
  refine j_istore_n (lv' := [(2, .int (nI 0)), (0, .ref (ad b 0)), (1, .int (nI k))]) X dX0_live_1 rfl (by decide) rfl ?_
  refine j_iconst (v := (nI 0)) X dX0_live_2 (by decide) ?_
  refine j_istore_n (lv' := [(3, .int (nI 0)), (2, .int (nI 0)), (0, .ref (ad b 0)), (1, .int (nI k))]) X dX0_live_3 rfl (by decide) rfl ?_
  refine jl3 (G := J p l e _ s m args below meth c 0 0 _ _ D ad cs A) (pc := 4) (fun (i : Nat) (r : Nat) (W : CV) => [(3, .int (nI i)), (2, .int (nI r)), (0, .ref (ad b 0)), (1, .int (nI k))]) (fun (i : Nat) (r : Nat) (W : CV) => (mb μ b W)) (fun (i : Nat) (r : Nat) (W : CV) => i ≤ k ∧ r = dayn V a N P i ∧ W = days V a N P i) (fun (i : Nat) (r : Nat) (W : CV) => k - i) ?_ 0 0 V ⟨by omega, rfl, rfl⟩
  intro i r W hI4 ih4
  try dsimp only at ih4 ⊢
  obtain ⟨hi, hrr, hW⟩ := hI4
  have hW1 : PD W a N P := by rw [hW]; exact hpd.days i
  have hP9 := hW1.2.2.2.2.2.1
  have hP2 : gq W a N 1 2 = nI P := by rw [gq_row (by decide) (by decide) (by decide) (by decide) (by decide)]; exact hW1.2.2.2.2.1
  have hrk := dayn_le V a N P i
  refine j_iload_n (q := 0) X dX0_live_4 rfl rfl ?_
  refine j_iload_n (q := 3) X dX0_live_5 rfl rfl ?_
  refine j_ncmp_ge (tgt := 39) X i k dX0_live_6 (by decide) rfl rfl (by omega) (by omega) (fun c6 => ?_) (fun c6 => ?_)
  · skip
    refine j_iload_n (q := 1) X dX0_live_39 rfl rfl ?_
    exact j_iret X hr hlk ⟨by rw [hrr, show i = k by omega], by rw [hW, show i = k by omega]⟩ dX0_live_40
  · skip
    refine j_aload_n (q := 2) X dX0_live_9 rfl rfl ?_
    refine j_callVi (As := []) X (kX0_giveFromQueue l D ad cs A z hb μ W a N P hW1) (oC hb) rfl (cwV 0 X.1.2.2.2.2 gX0_live_X0_giveFromQueue rfl rfl rfl (by decide +kernel) ⟨Nat.le_of_ble_eq_true rfl, Nat.le_of_ble_eq_true rfl⟩) rfl rfl (Nat.le_of_ble_eq_true rfl) dX0_live_10 (fun r10 μ10 h10 => ?_)
    obtain ⟨h10, rfl⟩ := h10
    rw [h10]
    refine j_if_eq (tgt := 19) X dX0_live_13 (by decide) (fun c13 => ?_) (fun c13 => ?_)
    · skip
      have h13n : gqn W a N = 0 := by rcases Nat.eq_zero_or_pos (gqn W a N) with q | q; exact q; exact absurd c13 (nI_ne0 q (by have := gqn_le W a N; omega))
      refine j_aload_n (q := 2) X dX0_live_19 rfl rfl ?_
      refine j_callVv (As := []) X (kX0_setUpPosts l D ad cs A z hb μ (gq W a N) P hP2 hP9) (oC hb) rfl (cwV 0 X.1.2.2.2.2 gX0_live_X0_setUpPosts rfl rfl rfl (by decide +kernel) ⟨Nat.le_of_ble_eq_true rfl, Nat.le_of_ble_eq_true rfl⟩) rfl rfl (Nat.le_of_ble_eq_true rfl) dX0_live_20 (fun μ20 h20 => ?_)
      subst h20
      refine j_aload_n (q := 2) X dX0_live_23 rfl rfl ?_
      refine j_dup X dX0_live_24 rfl ?_
      refine j_getCB X (oC hb) hinX0 1 (by decide) rfl k104 dX0_live_25 ?_
      refine j_iconst (v := (nI 1)) X dX0_live_28 (by decide) ?_
      refine j_iadd (v := (((su (gq W a N) P) 0 1) + (nI 1))) X dX0_live_29 rfl ?_
      refine j_putCB (ty := .int) X (oC hb) hinX0 1 (by decide) (fun _ => rfl) rfl rfl rfl rfl (Nat.le_of_ble_eq_true rfl) k104 dX0_live_30 ?_
      refine j_iinc (q := 0) (v := (nI (i + 1))) (lv' := [(3, .int (nI (i + 1))), (2, .int (nI r)), (0, .ref (ad b 0)), (1, .int (nI k))]) X dX0_live_33 rfl (nI_1 _) (by decide) rfl ?_
      refine j_goto (tgt := 4) X dX0_live_36 (by decide) ?_
      exact ih4 (i + 1) r (us (su (gq W a N) P) 0 1 (((su (gq W a N) P) 0 1) + (nI 1))) ⟨by omega, by rw [dayn, ← hW, ← hrr]; omega, by rw [days, ← hW]; rfl⟩ (by omega)
    · skip
      have h13n : gqn W a N = 1 := by have := gqn_le W a N; rcases Nat.eq_zero_or_pos (gqn W a N) with q | q; (rw [q] at c13; exact absurd (by decide) c13); omega
      refine j_iinc (q := 1) (v := (nI (r + 1))) (lv' := [(2, .int (nI (r + 1))), (3, .int (nI i)), (0, .ref (ad b 0)), (1, .int (nI k))]) X dX0_live_16 rfl (nI_1 _) (by decide) rfl ?_
      refine j_aload_n (q := 2) X dX0_live_19 rfl rfl ?_
      refine j_callVv (As := []) X (kX0_setUpPosts l D ad cs A z hb μ (gq W a N) P hP2 hP9) (oC hb) rfl (cwV 0 X.1.2.2.2.2 gX0_live_X0_setUpPosts rfl rfl rfl (by decide +kernel) ⟨Nat.le_of_ble_eq_true rfl, Nat.le_of_ble_eq_true rfl⟩) rfl rfl (Nat.le_of_ble_eq_true rfl) dX0_live_20 (fun μ20 h20 => ?_)
      subst h20
      refine j_aload_n (q := 2) X dX0_live_23 rfl rfl ?_
      refine j_dup X dX0_live_24 rfl ?_
      refine j_getCB X (oC hb) hinX0 1 (by decide) rfl k104 dX0_live_25 ?_
      refine j_iconst (v := (nI 1)) X dX0_live_28 (by decide) ?_
      refine j_iadd (v := (((su (gq W a N) P) 0 1) + (nI 1))) X dX0_live_29 rfl ?_
      refine j_putCB (ty := .int) X (oC hb) hinX0 1 (by decide) (fun _ => rfl) rfl rfl rfl rfl (Nat.le_of_ble_eq_true rfl) k104 dX0_live_30 ?_
      refine j_iinc (q := 1) (v := (nI (i + 1))) (lv' := [(3, .int (nI (i + 1))), (2, .int (nI (r + 1))), (0, .ref (ad b 0)), (1, .int (nI k))]) X dX0_live_33 rfl (nI_1 _) (by decide) rfl ?_
      refine j_goto (tgt := 4) X dX0_live_36 (by decide) ?_
      exact ih4 (i + 1) (r + 1) (us (su (gq W a N) P) 0 1 (((su (gq W a N) P) 0 1) + (nI 1))) ⟨by omega, by rw [dayn, ← hW, ← hrr]; omega, by rw [days, ← hW]; rfl⟩ (by omega)
