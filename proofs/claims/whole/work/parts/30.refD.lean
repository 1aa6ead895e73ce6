set_option maxHeartbeats 4000000 in
set_option maxRecDepth 100000 in
theorem kX2_placeOf (l : Launch) (D : va_G) (ad : Nat → Nat → Nat) (cs : Nat → ClassId) (A : Nat → Prop) (z : Nat → Nat) (μ : Mm) (M : CV) (V : CV) (N : Nat) (hw : Rw V N (M 1)) (hci : CI V N) (n : Nat) (hn : n < N) : KI l D ad cs A z yX2_placeOf wsX2_placeOf (rm 2 44) [.ref (ad 11 0), .int (nI n)] (mb μ 11 M) (fun r μ1 => r = (if wh V n = 0 then nI (plc V n N) else -6) ∧ μ1 = mb μ 11 M) := by
  refine KI_of (cc := cX2_placeOf) (maxL := 4) (ret := (some .int)) (by decide) rfl (Nat.le_of_ble_eq_true rfl) ?_
  intro p e s m args below meth c hr hlk X
  show J p l e _ s m args below meth c 0 0 _ 4 D ad cs A 0 [(0, .ref (ad 11 0)), (1, .int (nI n))] [] (mb μ 11 M)
  have hinX2 : ∀ w ∈ wsX20, w ∈ wsX2_placeOf := by decide +kernel
  have k7 : (Cond.fieldLink RX2 7 "PunCourtsModel" "all" "[I").before args s = true := X.1.2.2.2.2 _ (by decide +kernel)
  have hN := hci.1.1
  have hN20 := hci.1.2.1
  refine j_aload_n (q := 0) X dX2_placeOf_0 rfl rfl ?_
  refine j_iload_n (q := 1) X dX2_placeOf_1 rfl rfl ?_
  refine j_callVi (As := [.int (nI n)]) X (kX2_whereIs l D ad cs A z μ M V N hw hci n (by omega)) oR rfl (cwV 1 X.1.2.2.2.2 gX2_placeOf_X2_whereIs rfl rfl rfl (by decide +kernel) ⟨Nat.le_of_ble_eq_true rfl, Nat.le_of_ble_eq_true rfl⟩) rfl rfl (Nat.le_of_ble_eq_true rfl) dX2_placeOf_2 (fun r2 μ2 h2 => ?_)
  obtain ⟨h2, rfl⟩ := h2
  rw [h2]
  refine j_if_eq (tgt := 11) X dX2_placeOf_5 (by decide) (fun c5 => ?_) (fun c5 => ?_)
  · skip
    refine j_iconst (v := (nI 0)) X dX2_placeOf_11 (by decide) ?_
    refine j_istore_n (lv' := [(2, .int (nI 0)), (0, .ref (ad 11 0)), (1, .int (nI n))]) X dX2_placeOf_12 rfl (by decide) rfl ?_
    refine j_iconst (v := (nI 0)) X dX2_placeOf_13 (by decide) ?_
    refine j_istore_n (lv' := [(3, .int (nI 0)), (2, .int (nI 0)), (0, .ref (ad 11 0)), (1, .int (nI n))]) X dX2_placeOf_14 rfl (by decide) rfl ?_
    refine j_lv [0, 1, 3, 2] rfl ?_
    refine jl2 (G := J p l e _ s m args below meth c 0 0 _ _ D ad cs A) (pc := 15) (fun (i : Nat) (r : Nat) => [(3, .int (nI i)), (2, .int (nI r)), (1, .int (nI n)), (0, .ref (ad 11 0))]) (fun (i : Nat) (r : Nat) => (mb μ 11 M)) (fun (i : Nat) (r : Nat) => i ≤ N ∧ r = plc V n i) (fun (i : Nat) (r : Nat) => N - i) ?_ 0 0 ⟨by omega, rfl⟩
    intro i r hI15 ih15
    try dsimp only at ih15 ⊢
    obtain ⟨hi, hrr⟩ := hI15
    refine j_iload_n (q := 0) X dX2_placeOf_15 rfl rfl ?_
    refine j_aload_n (q := 3) X dX2_placeOf_16 rfl rfl ?_
    refine j_getRB X oR hinX2 0 (by decide) rfl k7 dX2_placeOf_17 ?_
    refine j_iconst (v := (nI 5)) X dX2_placeOf_20 (by decide) ?_
    refine j_ialdB X aR_1 5 rfl (by decide) (by decide) dX2_placeOf_21 ?_
    rw [hw.nm, hN]
    refine j_ncmp_ge (tgt := 56) X i N dX2_placeOf_22 (by decide) rfl rfl (by omega) (by omega) (fun c22 => ?_) (fun c22 => ?_)
    · skip
      refine j_iload_n (q := 1) X dX2_placeOf_56 rfl rfl ?_
      exact j_iret X hr hlk ⟨by rw [if_pos c5, hrr, show i = N by omega], rfl⟩ dX2_placeOf_57
    · skip
      refine j_iload_n (q := 1) X dX2_placeOf_25 rfl rfl ?_
      refine j_aload_n (q := 3) X dX2_placeOf_26 rfl rfl ?_
      refine j_iload_n (q := 0) X dX2_placeOf_27 rfl rfl ?_
      refine j_callVi (As := [.int (nI i)]) X (kX2_whereIs l D ad cs A z μ M V N hw hci i (by omega)) oR rfl (cwV 1 X.1.2.2.2.2 gX2_placeOf_X2_whereIs rfl rfl rfl (by decide +kernel) ⟨Nat.le_of_ble_eq_true rfl, Nat.le_of_ble_eq_true rfl⟩) rfl rfl (Nat.le_of_ble_eq_true rfl) dX2_placeOf_28 (fun r28 μ28 h28 => ?_)
      obtain ⟨h28, rfl⟩ := h28
      rw [h28]
      refine j_if_ne (tgt := 47) X dX2_placeOf_31 (by decide) (fun c31 => ?_) (fun c31 => ?_)
      · skip
        have hnew : r + 0 = plc V n (i + 1) := by rw [plc, if_neg (fun q => c31 q.2), ← hrr]; rfl
        refine j_iconst (v := (nI 0)) X dX2_placeOf_47 (by decide) ?_
        refine j_iadd (v := (nI (r + 0))) X dX2_placeOf_48 (nI_add _ _) ?_
        refine j_istore_n (lv' := [(2, .int (nI (r + 0))), (3, .int (nI i)), (1, .int (nI n)), (0, .ref (ad 11 0))]) X dX2_placeOf_49 rfl (by decide) rfl ?_
        refine j_iinc (q := 1) (v := (nI (i + 1))) (lv' := [(3, .int (nI (i + 1))), (2, .int (nI (r + 0))), (1, .int (nI n)), (0, .ref (ad 11 0))]) X dX2_placeOf_50 rfl (nI_1 _) (by decide) rfl ?_
        refine j_goto (tgt := 15) X dX2_placeOf_53 (by decide) ?_
        exact ih15 (i + 1) (r + 0) ⟨by omega, hnew⟩ (by omega)
      · skip
        refine j_aload_n (q := 3) X dX2_placeOf_34 rfl rfl ?_
        refine j_iload_n (q := 0) X dX2_placeOf_35 rfl rfl ?_
        refine j_iload_n (q := 2) X dX2_placeOf_36 rfl rfl ?_
        refine j_callVi (As := [.int (nI i), .int (nI n)]) X (kX2_comesFirst l D ad cs A z μ M V N hw hci i (by omega) n hn) oR rfl (cwV 2 X.1.2.2.2.2 gX2_placeOf_X2_comesFirst rfl rfl rfl (by decide +kernel) ⟨Nat.le_of_ble_eq_true rfl, Nat.le_of_ble_eq_true rfl⟩) rfl rfl (Nat.le_of_ble_eq_true rfl) dX2_placeOf_37 (fun r37 μ37 h37 => ?_)
        obtain ⟨h37, rfl⟩ := h37
        refine j_if_eq (tgt := 47) X dX2_placeOf_40 (by decide) (fun c40 => ?_) (fun c40 => ?_)
        · skip
          have hnew : r + 0 = plc V n (i + 1) := by rw [plc, if_neg (fun q => h37.f c40 q.1), ← hrr]; rfl
          refine j_iconst (v := (nI 0)) X dX2_placeOf_47 (by decide) ?_
          refine j_iadd (v := (nI (r + 0))) X dX2_placeOf_48 (nI_add _ _) ?_
          refine j_istore_n (lv' := [(2, .int (nI (r + 0))), (3, .int (nI i)), (1, .int (nI n)), (0, .ref (ad 11 0))]) X dX2_placeOf_49 rfl (by decide) rfl ?_
          refine j_iinc (q := 1) (v := (nI (i + 1))) (lv' := [(3, .int (nI (i + 1))), (2, .int (nI (r + 0))), (1, .int (nI n)), (0, .ref (ad 11 0))]) X dX2_placeOf_50 rfl (nI_1 _) (by decide) rfl ?_
          refine j_goto (tgt := 15) X dX2_placeOf_53 (by decide) ?_
          exact ih15 (i + 1) (r + 0) ⟨by omega, hnew⟩ (by omega)
        · skip
          have hnew : r + 1 = plc V n (i + 1) := by rw [plc, if_pos ⟨h37.t c40, Classical.not_not.mp c31⟩, ← hrr]
          refine j_iconst (v := (nI 1)) X dX2_placeOf_43 (by decide) ?_
          refine j_goto (tgt := 48) X dX2_placeOf_44 (by decide) ?_
          refine j_iadd (v := (nI (r + 1))) X dX2_placeOf_48 (nI_add _ _) ?_
          refine j_istore_n (lv' := [(2, .int (nI (r + 1))), (3, .int (nI i)), (1, .int (nI n)), (0, .ref (ad 11 0))]) X dX2_placeOf_49 rfl (by decide) rfl ?_
          refine j_iinc (q := 1) (v := (nI (i + 1))) (lv' := [(3, .int (nI (i + 1))), (2, .int (nI (r + 1))), (1, .int (nI n)), (0, .ref (ad 11 0))]) X dX2_placeOf_50 rfl (nI_1 _) (by decide) rfl ?_
          refine j_goto (tgt := 15) X dX2_placeOf_53 (by decide) ?_
          exact ih15 (i + 1) (r + 1) ⟨by omega, hnew⟩ (by omega)
  · skip
    refine j_bipush (v := (-6)) X dX2_placeOf_8 (by decide) ?_
    exact j_iret X hr hlk ⟨by rw [if_neg c5], rfl⟩ dX2_placeOf_10
set_option maxHeartbeats 4000000 in
set_option maxRecDepth 100000 in
theorem kX2_name (l : Launch) (D : va_G) (ad : Nat → Nat → Nat) (cs : Nat → ClassId) (A : Nat → Prop) (z : Nat → Nat) (μ : Mm) (M : CV) (V : CV) (N : Nat) (hw : Rw V N (M 1)) (hci : CI V N) (x w : Int32) : KI l D ad cs A z yX2_name wsX2_name (rm 3 67) [.ref (ad 11 0), .int x, .int w] (mb μ 11 M) (fun r μ1 => r = Rnam V N x w ∧ μ1 = mb μ 11 M) := by
  refine KI_of (cc := cX2_name) (maxL := 3) (ret := (some .int)) (by decide) rfl (Nat.le_of_ble_eq_true rfl) ?_
  intro p e s m args below meth c hr hlk X
  show J p l e _ s m args below meth c 0 0 _ 3 D ad cs A 0 [(0, .ref (ad 11 0)), (1, .int x), (2, .int w)] [] (mb μ 11 M)
  have hN := hci.1.1
  have hN20 := hci.1.2.1
  refine j_aload_n (q := 0) X dX2_name_0 rfl rfl ?_
  refine j_iload_n (q := 1) X dX2_name_1 rfl rfl ?_
  refine j_callVi (As := [.int x]) X (kX2_isName l D ad cs A z μ M V N hw hci x) oR rfl (cwV 1 X.1.2.2.2.2 gX2_name_X2_isName rfl rfl rfl (by decide +kernel) ⟨Nat.le_of_ble_eq_true rfl, Nat.le_of_ble_eq_true rfl⟩) rfl rfl (Nat.le_of_ble_eq_true rfl) dX2_name_2 (fun r2 μ2 h2 => ?_)
  obtain ⟨h2, rfl⟩ := h2
  refine j_if_ne (tgt := 10) X dX2_name_5 (by decide) (fun c5 => ?_) (fun c5 => ?_)
  · skip
    have h2 := h2.nt c5
    have h2s := h2
    obtain ⟨n, hn, rfl⟩ := hasN_n hN hN20 h2
    refine j_iload_n (q := 2) X dX2_name_10 rfl rfl ?_
    rcases swc w 6 (by decide) with hsw | ⟨isw, hisw, hisw2⟩
    · refine j_tabOut (tgt := 98) X dX2_name_11 hsw (by decide) ?_
      have hsn := sw_ne (n := 6) (by decide) hsw
      refine j_bipush (v := (-2)) X dX2_name_98 (by decide) ?_
      exact j_iret X hr hlk ⟨by rw [Rnam, if_neg (Classical.not_not.mpr h2s), if_neg (hsn 0 (by decide)), if_neg (hsn 1 (by decide)), if_neg (hsn 2 (by decide)), if_neg (hsn 3 (by decide)), if_neg (hsn 4 (by decide)), if_neg (hsn 5 (by decide)), if_neg (hsn 6 (by decide))], rfl⟩ dX2_name_100
    · rcases (show isw = 0 ∨ isw = 1 ∨ isw = 2 ∨ isw = 3 ∨ isw = 4 ∨ isw = 5 ∨ isw = 6 by omega) with rfl | rfl | rfl | rfl | rfl | rfl | rfl
      · subst hisw2
        refine j_tabIn (off := 41) (tgt := 52) X dX2_name_11 (by decide) (by decide) (by decide) (by decide) ?_
        refine j_aload_n (q := 0) X dX2_name_52 rfl rfl ?_
        refine j_iload_n (q := 1) X dX2_name_53 rfl rfl ?_
        refine j_iconst (v := (nI 0)) X dX2_name_54 (by decide) ?_
        refine j_callVi (As := [.int (nI n), .int (nI 0)]) X (kX2_get l D ad cs A z μ M n 0 (by omega) (by decide)) oR rfl (cwV 2 X.1.2.2.2.2 gX2_name_X2_get rfl rfl rfl (by decide +kernel) ⟨Nat.le_of_ble_eq_true rfl, Nat.le_of_ble_eq_true rfl⟩) rfl rfl (Nat.le_of_ble_eq_true rfl) dX2_name_55 (fun r55 μ55 h55 => ?_)
        obtain ⟨h55, rfl⟩ := h55
        rw [hw.ho (by omega)] at h55
        rw [h55]
        exact j_iret X hr hlk ⟨Eq.symm (by rw [Rnam, if_neg (Classical.not_not.mpr h2s), if_pos rfl, ix_n (by omega)]), rfl⟩ dX2_name_58
      · subst hisw2
        refine j_tabIn (off := 48) (tgt := 59) X dX2_name_11 (by decide) (by decide) (by decide) (by decide) ?_
        refine j_aload_n (q := 0) X dX2_name_59 rfl rfl ?_
        refine j_iload_n (q := 1) X dX2_name_60 rfl rfl ?_
        refine j_callVi (As := [.int (nI n)]) X (kX2_whereIs l D ad cs A z μ M V N hw hci n (by omega)) oR rfl (cwV 1 X.1.2.2.2.2 gX2_name_X2_whereIs rfl rfl rfl (by decide +kernel) ⟨Nat.le_of_ble_eq_true rfl, Nat.le_of_ble_eq_true rfl⟩) rfl rfl (Nat.le_of_ble_eq_true rfl) dX2_name_61 (fun r61 μ61 h61 => ?_)
        obtain ⟨h61, rfl⟩ := h61
        rw [h61]
        exact j_iret X hr hlk ⟨Eq.symm (by rw [Rnam, if_neg (Classical.not_not.mpr h2s), if_neg (by decide), if_pos rfl, ix_n (by omega)]), rfl⟩ dX2_name_64
      · subst hisw2
        refine j_tabIn (off := 54) (tgt := 65) X dX2_name_11 (by decide) (by decide) (by decide) (by decide) ?_
        refine j_aload_n (q := 0) X dX2_name_65 rfl rfl ?_
        refine j_iload_n (q := 1) X dX2_name_66 rfl rfl ?_
        refine j_callVi (As := [.int (nI n)]) X (kX2_bearers l D ad cs A z μ M V N hw hci (nI n)) oR rfl (cwV 1 X.1.2.2.2.2 gX2_name_X2_bearers rfl rfl rfl (by decide +kernel) ⟨Nat.le_of_ble_eq_true rfl, Nat.le_of_ble_eq_true rfl⟩) rfl rfl (Nat.le_of_ble_eq_true rfl) dX2_name_67 (fun r67 μ67 h67 => ?_)
        obtain ⟨h67, rfl⟩ := h67
        rw [h67]
        exact j_iret X hr hlk ⟨Eq.symm (by rw [Rnam, if_neg (Classical.not_not.mpr h2s), if_neg (by decide), if_neg (by decide), if_pos rfl]), rfl⟩ dX2_name_70
      · subst hisw2
        refine j_tabIn (off := 60) (tgt := 71) X dX2_name_11 (by decide) (by decide) (by decide) (by decide) ?_
        refine j_aload_n (q := 0) X dX2_name_71 rfl rfl ?_
        refine j_iload_n (q := 1) X dX2_name_72 rfl rfl ?_
        refine j_callVi (As := [.int (nI n)]) X (kX2_placeOf l D ad cs A z μ M V N hw hci n hn) oR rfl (cwV 1 X.1.2.2.2.2 gX2_name_X2_placeOf rfl rfl rfl (by decide +kernel) ⟨Nat.le_of_ble_eq_true rfl, Nat.le_of_ble_eq_true rfl⟩) rfl rfl (Nat.le_of_ble_eq_true rfl) dX2_name_73 (fun r73 μ73 h73 => ?_)
        obtain ⟨h73, rfl⟩ := h73
        rw [h73]
        exact j_iret X hr hlk ⟨Eq.symm (by rw [Rnam, if_neg (Classical.not_not.mpr h2s), if_neg (by decide), if_neg (by decide), if_neg (by decide), if_pos rfl, ix_n (by omega)]), rfl⟩ dX2_name_76
      · subst hisw2
        refine j_tabIn (off := 66) (tgt := 77) X dX2_name_11 (by decide) (by decide) (by decide) (by decide) ?_
        refine j_aload_n (q := 0) X dX2_name_77 rfl rfl ?_
        refine j_iload_n (q := 1) X dX2_name_78 rfl rfl ?_
        refine j_iconst (v := (nI 4)) X dX2_name_79 (by decide) ?_
        refine j_callVi (As := [.int (nI n), .int (nI 4)]) X (kX2_get l D ad cs A z μ M n 4 (by omega) (by decide)) oR rfl (cwV 2 X.1.2.2.2.2 gX2_name_X2_get rfl rfl rfl (by decide +kernel) ⟨Nat.le_of_ble_eq_true rfl, Nat.le_of_ble_eq_true rfl⟩) rfl rfl (Nat.le_of_ble_eq_true rfl) dX2_name_80 (fun r80 μ80 h80 => ?_)
        obtain ⟨h80, rfl⟩ := h80
        rw [hw.sn (by omega)] at h80
        rw [h80]
        exact j_iret X hr hlk ⟨Eq.symm (by rw [Rnam, if_neg (Classical.not_not.mpr h2s), if_neg (by decide), if_neg (by decide), if_neg (by decide), if_neg (by decide), if_pos rfl, ix_n (by omega)]), rfl⟩ dX2_name_83
      · subst hisw2
        refine j_tabIn (off := 73) (tgt := 84) X dX2_name_11 (by decide) (by decide) (by decide) (by decide) ?_
        refine j_aload_n (q := 0) X dX2_name_84 rfl rfl ?_
        refine j_iload_n (q := 1) X dX2_name_85 rfl rfl ?_
        refine j_iconst (v := (nI 3)) X dX2_name_86 (by decide) ?_
        refine j_callVi (As := [.int (nI n), .int (nI 3)]) X (kX2_get l D ad cs A z μ M n 3 (by omega) (by decide)) oR rfl (cwV 2 X.1.2.2.2.2 gX2_name_X2_get rfl rfl rfl (by decide +kernel) ⟨Nat.le_of_ble_eq_true rfl, Nat.le_of_ble_eq_true rfl⟩) rfl rfl (Nat.le_of_ble_eq_true rfl) dX2_name_87 (fun r87 μ87 h87 => ?_)
        obtain ⟨h87, rfl⟩ := h87
        rw [hw.le (by omega)] at h87
        rw [h87]
        exact j_iret X hr hlk ⟨Eq.symm (by rw [Rnam, if_neg (Classical.not_not.mpr h2s), if_neg (by decide), if_neg (by decide), if_neg (by decide), if_neg (by decide), if_neg (by decide), if_pos rfl, ix_n (by omega)]), rfl⟩ dX2_name_90
      · subst hisw2
        refine j_tabIn (off := 80) (tgt := 91) X dX2_name_11 (by decide) (by decide) (by decide) (by decide) ?_
        refine j_aload_n (q := 0) X dX2_name_91 rfl rfl ?_
        refine j_iload_n (q := 1) X dX2_name_92 rfl rfl ?_
        refine j_iconst (v := (nI 2)) X dX2_name_93 (by decide) ?_
        refine j_callVi (As := [.int (nI n), .int (nI 2)]) X (kX2_get l D ad cs A z μ M n 2 (by omega) (by decide)) oR rfl (cwV 2 X.1.2.2.2.2 gX2_name_X2_get rfl rfl rfl (by decide +kernel) ⟨Nat.le_of_ble_eq_true rfl, Nat.le_of_ble_eq_true rfl⟩) rfl rfl (Nat.le_of_ble_eq_true rfl) dX2_name_94 (fun r94 μ94 h94 => ?_)
        obtain ⟨h94, rfl⟩ := h94
        rw [hw.ti (by omega)] at h94
        rw [h94]
        exact j_iret X hr hlk ⟨Eq.symm (by rw [Rnam, if_neg (Classical.not_not.mpr h2s), if_neg (by decide), if_neg (by decide), if_neg (by decide), if_neg (by decide), if_neg (by decide), if_neg (by decide), if_pos rfl, ix_n (by omega)]), rfl⟩ dX2_name_97
  · skip
    refine j_iconst (v := (-1)) X dX2_name_8 (by decide) ?_
    exact j_iret X hr hlk ⟨by rw [Rnam, if_pos (h2.nf c5)], rfl⟩ dX2_name_9
theorem le01 {w : Int32} : (nI 0 ≤ w ∧ w ≤ nI 1) ↔ (w = nI 0 ∨ w = nI 1) := by
  constructor
  · intro h
    obtain ⟨j, -, hj, rfl⟩ := rng_n h.1 h.2 (by decide) (by decide)
    rcases (show j = 0 ∨ j = 1 by omega) with rfl | rfl
    · exact Or.inl rfl
    · exact Or.inr rfl
  · rintro (rfl | rfl) <;> decide
theorem rcor_at {V : CV} {N : Nat} {a : Nat → Int32} (hw : Rw V N a) {k j : Nat} (hk : k < 12) (hj : j ≤ 5) : a (249 + 12 * j + k) = Rcor V (nI k) (nI j) := by
  have hC : isC (nI k) := ⟨nI_pos' (by omega), nI_lt hk (by decide)⟩
  have e : (nI k).toNatClampNeg = k := ix_n (by omega)
  rw [Rcor, if_neg (Classical.not_not.mpr hC), e]
  rcases (show j = 0 ∨ j = 1 ∨ j = 2 ∨ j = 3 ∨ j = 4 ∨ j = 5 by omega) with rfl | rfl | rfl | rfl | rfl | rfl
  · rw [if_pos rfl]; exact hw.bo hk
  · rw [if_neg (by decide), if_pos rfl]; exact hw.ow hk
  · rw [if_neg (by decide), if_neg (by decide), if_pos rfl]; exact hw.po hk
  · rw [if_neg (by decide), if_neg (by decide), if_neg (by decide), if_pos rfl]; exact hw.da hk
  · rw [if_neg (by decide), if_neg (by decide), if_neg (by decide), if_neg (by decide), if_pos rfl]; exact hw.go hk
  · rw [if_neg (by decide), if_neg (by decide), if_neg (by decide), if_neg (by decide), if_neg (by decide), if_pos rfl]; exact hw.sh hk
theorem rcor_no {V : CV} {c w : Int32} (hc : isC c) (h : ¬ (nI 0 ≤ w ∧ w ≤ nI 5)) : Rcor V c w = -2 := by
  have no : ∀ i, i ≤ 5 → ¬ w = nI i := fun i hi e => h (by rw [e]; exact ⟨nI_le (by omega) (by omega), nI_le hi (by decide)⟩)
  rw [Rcor, if_neg (Classical.not_not.mpr hc), if_neg (no 0 (by decide)), if_neg (no 1 (by decide)), if_neg (no 2 (by decide)), if_neg (no 3 (by decide)), if_neg (no 4 (by decide)), if_neg (no 5 (by decide))]
set_option maxHeartbeats 4000000 in
set_option maxRecDepth 100000 in
theorem kX2_alike (l : Launch) (D : va_G) (ad : Nat → Nat → Nat) (cs : Nat → ClassId) (A : Nat → Prop) (z : Nat → Nat) (μ : Mm) (M : CV) (V : CV) (N : Nat) (hw : Rw V N (M 1)) (hci : CI V N) (x y w : Int32) : KI l D ad cs A z yX2_alike wsX2_alike (rm 2 46) [.ref (ad 11 0), .int x, .int y, .int w] (mb μ 11 M) (fun r μ1 => r = Rali V x y w ∧ μ1 = mb μ 11 M) := by
  refine KI_of (cc := cX2_alike) (maxL := 4) (ret := (some .int)) (by decide) rfl (Nat.le_of_ble_eq_true rfl) ?_
  intro p e s m args below meth c hr hlk X
  show J p l e _ s m args below meth c 0 0 _ 4 D ad cs A 0 [(0, .ref (ad 11 0)), (1, .int x), (2, .int y), (3, .int w)] [] (mb μ 11 M)
  have hN := hci.1.1
  have hN20 := hci.1.2.1
  refine j_aload_n (q := 0) X dX2_alike_0 rfl rfl ?_
  refine j_iload_n (q := 1) X dX2_alike_1 rfl rfl ?_
  refine j_callVi (As := [.int x]) X (kX2_isName l D ad cs A z μ M V N hw hci x) oR rfl (cwV 1 X.1.2.2.2.2 gX2_alike_X2_isName rfl rfl rfl (by decide +kernel) ⟨Nat.le_of_ble_eq_true rfl, Nat.le_of_ble_eq_true rfl⟩) rfl rfl (Nat.le_of_ble_eq_true rfl) dX2_alike_2 (fun r2 μ2 h2 => ?_)
  obtain ⟨h2, rfl⟩ := h2
  refine j_if_eq (tgt := 16) X dX2_alike_5 (by decide) (fun c5 => ?_) (fun c5 => ?_)
  · skip
    have ho : ¬ (hasN V x ∧ hasN V y) := fun q => h2.f c5 q.1
    refine j_iconst (v := (-1)) X dX2_alike_16 (by decide) ?_
    exact j_iret X hr hlk ⟨by rw [Rali, if_pos ho], rfl⟩ dX2_alike_17
  · skip
    have h2 := h2.t c5
    have h2s := h2
    refine j_aload_n (q := 0) X dX2_alike_8 rfl rfl ?_
    refine j_iload_n (q := 2) X dX2_alike_9 rfl rfl ?_
    refine j_callVi (As := [.int y]) X (kX2_isName l D ad cs A z μ M V N hw hci y) oR rfl (cwV 1 X.1.2.2.2.2 gX2_alike_X2_isName rfl rfl rfl (by decide +kernel) ⟨Nat.le_of_ble_eq_true rfl, Nat.le_of_ble_eq_true rfl⟩) rfl rfl (Nat.le_of_ble_eq_true rfl) dX2_alike_10 (fun r10 μ10 h10 => ?_)
    obtain ⟨h10, rfl⟩ := h10
    refine j_if_ne (tgt := 18) X dX2_alike_13 (by decide) (fun c13 => ?_) (fun c13 => ?_)
    · skip
      have h10 := h10.nt c13
      have ho : hasN V x ∧ hasN V y := ⟨h2, h10⟩
      obtain ⟨n, hn, rfl⟩ := hasN_n hN hN20 h2
      obtain ⟨n2, hn2, rfl⟩ := hasN_n hN hN20 h10
      refine j_iload_n (q := 3) X dX2_alike_18 rfl rfl ?_
      refine j_i2l (v := w.toInt64) X dX2_alike_19 rfl ?_
      refine j_lconst (v := lN 0) X dX2_alike_20 (by decide) ?_
      refine j_lconst (v := lN 1) X dX2_alike_21 (by decide) ?_
      refine j_callSi (As := [.long w.toInt64, .long (lN 0), .long (lN 1)]) X (kX2_in l D ad cs A z μ M (w.toInt64) (lN 0) (lN 1)) (va_cwS 3 X.1.2.2.2.2 gX2_alike_X2_in rfl rfl rfl (by decide +kernel) ⟨Nat.le_of_ble_eq_true rfl, Nat.le_of_ble_eq_true rfl⟩) rfl rfl (Nat.le_of_ble_eq_true rfl) dX2_alike_22 (fun r22 μ22 h22 => ?_)
      obtain ⟨h22, rfl⟩ := h22
      refine j_if_ne (tgt := 33) X dX2_alike_25 (by decide) (fun c25 => ?_) (fun c25 => ?_)
      · skip
        have hq : w = nI 0 ∨ w = nI 1 := le01.mp ((in_64 (by decide) (by decide)).mp (h22.nt c25))
        refine j_aload_n (q := 0) X dX2_alike_33 rfl rfl ?_
        refine j_iload_n (q := 1) X dX2_alike_34 rfl rfl ?_
        refine j_iload_n (q := 2) X dX2_alike_35 rfl rfl ?_
        refine j_callVi (As := [.int (nI n), .int (nI n2)]) X (kX2_soundAlike l D ad cs A z μ M V N hw hci n hn n2 hn2) oR rfl (cwV 2 X.1.2.2.2.2 gX2_alike_X2_soundAlike rfl rfl rfl (by decide +kernel) ⟨Nat.le_of_ble_eq_true rfl, Nat.le_of_ble_eq_true rfl⟩) rfl rfl (Nat.le_of_ble_eq_true rfl) dX2_alike_36 (fun r36 μ36 h36 => ?_)
        obtain ⟨h36, rfl⟩ := h36
        refine j_if_eq (tgt := 46) X dX2_alike_39 (by decide) (fun c39 => ?_) (fun c39 => ?_)
        · skip
          have h6 : ¬ V 6 n = V 6 n2 := h36.f c39
          refine j_iconst (v := (nI 0)) X dX2_alike_46 (by decide) ?_
          exact j_iret X hr hlk ⟨by rw [Rali, if_neg (Classical.not_not.mpr ho), if_pos hq, ix_n (by omega), ix_n (by omega), if_neg h6]; rfl, rfl⟩ dX2_alike_47
        · skip
          have h6 : V 6 n = V 6 n2 := h36.t c39
          refine j_iconst (v := (nI 1)) X dX2_alike_42 (by decide) ?_
          refine j_goto (tgt := 47) X dX2_alike_43 (by decide) ?_
          exact j_iret X hr hlk ⟨by rw [Rali, if_neg (Classical.not_not.mpr ho), if_pos hq, ix_n (by omega), ix_n (by omega), if_pos h6]; rfl, rfl⟩ dX2_alike_47
      · skip
        have hq : ¬ (w = nI 0 ∨ w = nI 1) := fun q => h22.nf c25 ((in_64 (by decide) (by decide)).mpr (le01.mpr q))
        refine j_bipush (v := (-2)) X dX2_alike_28 (by decide) ?_
        refine j_goto (tgt := 47) X dX2_alike_30 (by decide) ?_
        exact j_iret X hr hlk ⟨by rw [Rali, if_neg (Classical.not_not.mpr ho), if_neg hq], rfl⟩ dX2_alike_47
    · skip
      have ho : ¬ (hasN V x ∧ hasN V y) := fun q => h10.nf c13 q.2
      refine j_iconst (v := (-1)) X dX2_alike_16 (by decide) ?_
      exact j_iret X hr hlk ⟨by rw [Rali, if_pos ho], rfl⟩ dX2_alike_17
set_option maxHeartbeats 4000000 in
set_option maxRecDepth 100000 in
theorem kX2_corner (l : Launch) (D : va_G) (ad : Nat → Nat → Nat) (cs : Nat → ClassId) (A : Nat → Prop) (z : Nat → Nat) (μ : Mm) (M : CV) (V : CV) (N : Nat) (hw : Rw V N (M 1)) (hci : CI V N) (cx w : Int32) : KI l D ad cs A z yX2_corner wsX2_corner (rm 2 45) [.ref (ad 11 0), .int cx, .int w] (mb μ 11 M) (fun r μ1 => r = Rcor V cx w ∧ μ1 = mb μ 11 M) := by
  refine KI_of (cc := cX2_corner) (maxL := 3) (ret := (some .int)) (by decide) rfl (Nat.le_of_ble_eq_true rfl) ?_
  intro p e s m args below meth c hr hlk X
  show J p l e _ s m args below meth c 0 0 _ 3 D ad cs A 0 [(0, .ref (ad 11 0)), (1, .int cx), (2, .int w)] [] (mb μ 11 M)
  have hinX2 : ∀ w ∈ wsX20, w ∈ wsX2_corner := by decide +kernel
  have k7 : (Cond.fieldLink RX2 7 "PunCourtsModel" "all" "[I").before args s = true := X.1.2.2.2.2 _ (by decide +kernel)
  have hN := hci.1.1
  have hN20 := hci.1.2.1
  refine j_iload_n (q := 1) X dX2_corner_0 rfl rfl ?_
  refine j_callSi (As := [.int cx]) X (kX2_isCorner l D ad cs A z μ M cx) (va_cwS 1 X.1.2.2.2.2 gX2_corner_X2_isCorner rfl rfl rfl (by decide +kernel) ⟨Nat.le_of_ble_eq_true rfl, Nat.le_of_ble_eq_true rfl⟩) rfl rfl (Nat.le_of_ble_eq_true rfl) dX2_corner_1 (fun r1 μ1 h1 => ?_)
  obtain ⟨h1, rfl⟩ := h1
  refine j_if_ne (tgt := 9) X dX2_corner_4 (by decide) (fun c4 => ?_) (fun c4 => ?_)
  · skip
    have h1 := h1.nt c4
    have h10 := h1
    obtain ⟨k, hk, rfl⟩ := in_n h1.1 h1.2 (by decide)
    refine j_iload_n (q := 2) X dX2_corner_9 rfl rfl ?_
    refine j_i2l (v := w.toInt64) X dX2_corner_10 rfl ?_
    refine j_lconst (v := lN 0) X dX2_corner_11 (by decide) ?_
    refine j_ldc2 (v := lN 5) X (X.1.2.2.2.2 _ (by decide +kernel)) dX2_corner_12 ?_
    refine j_callSi (As := [.long w.toInt64, .long (lN 0), .long (lN 5)]) X (kX2_in l D ad cs A z μ M (w.toInt64) (lN 0) (lN 5)) (va_cwS 3 X.1.2.2.2.2 gX2_corner_X2_in rfl rfl rfl (by decide +kernel) ⟨Nat.le_of_ble_eq_true rfl, Nat.le_of_ble_eq_true rfl⟩) rfl rfl (Nat.le_of_ble_eq_true rfl) dX2_corner_15 (fun r15 μ15 h15 => ?_)
    obtain ⟨h15, rfl⟩ := h15
    refine j_if_eq (tgt := 39) X dX2_corner_18 (by decide) (fun c18 => ?_) (fun c18 => ?_)
    · skip
      have ho : ¬ (nI 0 ≤ w ∧ w ≤ nI 5) := fun q => h15.f c18 ((in_64 (by decide) (by decide)).mpr q)
      refine j_bipush (v := (-2)) X dX2_corner_39 (by decide) ?_
      exact j_iret X hr hlk ⟨(rcor_no h10 ho).symm, rfl⟩ dX2_corner_41
    · skip
      have ho := (in_64 (by decide) (by decide)).mp (h15.t c18)
      obtain ⟨j, -, hj, rfl⟩ := rng_n ho.1 ho.2 (by decide) (by decide)
      refine j_aload_n (q := 0) X dX2_corner_21 rfl rfl ?_
      refine j_getRB X oR hinX2 0 (by decide) rfl k7 dX2_corner_22 ?_
      refine j_sipush (v := (nI 249)) X dX2_corner_25 (by decide) ?_
      refine j_bipush (v := (nI 12)) X dX2_corner_28 (by decide) ?_
      refine j_iload_n (q := 2) X dX2_corner_30 rfl rfl ?_
      refine j_imul (v := (nI (12 * j))) X dX2_corner_31 (pk_mul _ _) ?_
      refine j_iadd (v := (nI (249 + (12 * j)))) X dX2_corner_32 (nI_add _ _) ?_
      refine j_iload_n (q := 1) X dX2_corner_33 rfl rfl ?_
      refine j_iadd (v := (nI ((249 + (12 * j)) + k))) X dX2_corner_34 (nI_add _ _) ?_
      refine j_ialdB X aR_1 ((249 + (12 * j)) + k) rfl (by omega) (by decide) dX2_corner_35 ?_
      refine j_goto (tgt := 41) X dX2_corner_36 (by decide) ?_
      exact j_iret X hr hlk ⟨rcor_at hw hk hj, rfl⟩ dX2_corner_41
  · skip
    refine j_iconst (v := (-1)) X dX2_corner_7 (by decide) ?_
    exact j_iret X hr hlk ⟨by rw [Rcor, if_pos (h1.nf c4)]; try rfl, rfl⟩ dX2_corner_8
set_option maxHeartbeats 4000000 in
set_option maxRecDepth 100000 in
theorem kX2_why (l : Launch) (D : va_G) (ad : Nat → Nat → Nat) (cs : Nat → ClassId) (A : Nat → Prop) (z : Nat → Nat) (μ : Mm) (M : CV) (V : CV) (N : Nat) (hw : Rw V N (M 1)) (hci : CI V N) (a : Nat) (ha : V 1 0 = nI a) (ha11 : a ≤ 11) (x cx : Int32) : KI l D ad cs A z yX2_why wsX2_why (rm 4 92) [.ref (ad 11 0), .int x, .int cx] (mb μ 11 M) (fun r μ1 => r = Rwhy V a x cx ∧ μ1 = mb μ 11 M) := by
  refine KI_of (cc := cX2_why) (maxL := 3) (ret := (some .int)) (by decide) rfl (Nat.le_of_ble_eq_true rfl) ?_
  intro p e s m args below meth c hr hlk X
  show J p l e _ s m args below meth c 0 0 _ 3 D ad cs A 0 [(0, .ref (ad 11 0)), (1, .int x), (2, .int cx)] [] (mb μ 11 M)
  have hN := hci.1.1
  have hN20 := hci.1.2.1
  refine j_aload_n (q := 0) X dX2_why_0 rfl rfl ?_
  refine j_iload_n (q := 1) X dX2_why_1 rfl rfl ?_
  refine j_callVi (As := [.int x]) X (kX2_isName l D ad cs A z μ M V N hw hci x) oR rfl (cwV 1 X.1.2.2.2.2 gX2_why_X2_isName rfl rfl rfl (by decide +kernel) ⟨Nat.le_of_ble_eq_true rfl, Nat.le_of_ble_eq_true rfl⟩) rfl rfl (Nat.le_of_ble_eq_true rfl) dX2_why_2 (fun r2 μ2 h2 => ?_)
  obtain ⟨h2, rfl⟩ := h2
  refine j_if_eq (tgt := 24) X dX2_why_5 (by decide) (fun c5 => ?_) (fun c5 => ?_)
  · skip
    have ho : ¬ (hasN V x ∧ isC cx) := fun q => h2.f c5 q.1
    refine j_iconst (v := (-1)) X dX2_why_24 (by decide) ?_
    exact j_iret X hr hlk ⟨by rw [Rwhy, if_pos ho]; try rfl, rfl⟩ dX2_why_25
  · skip
    have h2 := h2.t c5
    have h2s := h2
    refine j_iload_n (q := 2) X dX2_why_8 rfl rfl ?_
    refine j_callSi (As := [.int cx]) X (kX2_isCorner l D ad cs A z μ M cx) (va_cwS 1 X.1.2.2.2.2 gX2_why_X2_isCorner rfl rfl rfl (by decide +kernel) ⟨Nat.le_of_ble_eq_true rfl, Nat.le_of_ble_eq_true rfl⟩) rfl rfl (Nat.le_of_ble_eq_true rfl) dX2_why_9 (fun r9 μ9 h9 => ?_)
    obtain ⟨h9, rfl⟩ := h9
    refine j_if_eq (tgt := 24) X dX2_why_12 (by decide) (fun c12 => ?_) (fun c12 => ?_)
    · skip
      have ho : ¬ (hasN V x ∧ isC cx) := fun q => h9.f c12 q.2
      refine j_iconst (v := (-1)) X dX2_why_24 (by decide) ?_
      exact j_iret X hr hlk ⟨by rw [Rwhy, if_pos ho]; try rfl, rfl⟩ dX2_why_25
    · skip
      have h9 := h9.t c12
      have ho : hasN V x ∧ isC cx := ⟨h2, h9⟩
      obtain ⟨n, hn, rfl⟩ := hasN_n hN hN20 h2
      have h90 := h9
      obtain ⟨k, hk, rfl⟩ := in_n h9.1 h9.2 (by decide)
      refine j_aload_n (q := 0) X dX2_why_15 rfl rfl ?_
      refine j_iload_n (q := 1) X dX2_why_16 rfl rfl ?_
      refine j_iload_n (q := 2) X dX2_why_17 rfl rfl ?_
      refine j_callVi (As := [.int (nI n), .int (nI k)]) X (kX2_reason l D ad cs A z μ M V N hw hci a ha ha11 n hn k hk) oR rfl (cwV 2 X.1.2.2.2.2 gX2_why_X2_reason rfl rfl rfl (by decide +kernel) ⟨Nat.le_of_ble_eq_true rfl, Nat.le_of_ble_eq_true rfl⟩) rfl rfl (Nat.le_of_ble_eq_true rfl) dX2_why_18 (fun r18 μ18 h18 => ?_)
      obtain ⟨h18, rfl⟩ := h18
      rw [h18]
      refine j_goto (tgt := 25) X dX2_why_21 (by decide) ?_
      exact j_iret X hr hlk ⟨by rw [Rwhy, if_neg (Classical.not_not.mpr ho), ix_n (by omega), ix_n (by omega)], rfl⟩ dX2_why_25
set_option maxHeartbeats 4000000 in
set_option maxRecDepth 100000 in
theorem kX2_waiting (l : Launch) (D : va_G) (ad : Nat → Nat → Nat) (cs : Nat → ClassId) (A : Nat → Prop) (z : Nat → Nat) (μ : Mm) (M : CV) (V : CV) (N : Nat) (hw : Rw V N (M 1)) (hci : CI V N) : KI l D ad cs A z yX2_waiting wsX2_waiting (rm 2 44) [.ref (ad 11 0)] (mb μ 11 M) (fun r μ1 => r = nI (wtn V N) ∧ μ1 = mb μ 11 M) := by
  refine KI_of (cc := cX2_waiting) (maxL := 3) (ret := (some .int)) (by decide) rfl (Nat.le_of_ble_eq_true rfl) ?_
  intro p e s m args below meth c hr hlk X
  show J p l e _ s m args below meth c 0 0 _ 3 D ad cs A 0 [(0, .ref (ad 11 0))] [] (mb μ 11 M)
  have hinX2 : ∀ w ∈ wsX20, w ∈ wsX2_waiting := by decide +kernel
  have k7 : (Cond.fieldLink RX2 7 "PunCourtsModel" "all" "[I").before args s = true := X.1.2.2.2.2 _ (by decide +kernel)
  have hN := hci.1.1
  have hN20 := hci.1.2.1
  refine j_iconst (v := (nI 0)) X dX2_waiting_0 (by decide) ?_
  refine j_istore_n (lv' := [(1, .int (nI 0)), (0, .ref (ad 11 0))]) X dX2_waiting_1 rfl (by decide) rfl ?_
  refine j_iconst (v := (nI 0)) X dX2_waiting_2 (by decide) ?_
  refine j_istore_n (lv' := [(2, .int (nI 0)), (1, .int (nI 0)), (0, .ref (ad 11 0))]) X dX2_waiting_3 rfl (by decide) rfl ?_
  refine jl2 (G := J p l e _ s m args below meth c 0 0 _ _ D ad cs A) (pc := 4) (fun (i : Nat) (r : Nat) => [(2, .int (nI i)), (1, .int (nI r)), (0, .ref (ad 11 0))]) (fun (i : Nat) (r : Nat) => (mb μ 11 M)) (fun (i : Nat) (r : Nat) => i ≤ N ∧ r = wtn V i) (fun (i : Nat) (r : Nat) => N - i) ?_ 0 0 ⟨by omega, rfl⟩
  intro i r hI4 ih4
  try dsimp only at ih4 ⊢
  obtain ⟨hi, hrr⟩ := hI4
  refine j_iload_n (q := 0) X dX2_waiting_4 rfl rfl ?_
  refine j_aload_n (q := 2) X dX2_waiting_5 rfl rfl ?_
  refine j_getRB X oR hinX2 0 (by decide) rfl k7 dX2_waiting_6 ?_
  refine j_iconst (v := (nI 5)) X dX2_waiting_9 (by decide) ?_
  refine j_ialdB X aR_1 5 rfl (by decide) (by decide) dX2_waiting_10 ?_
  rw [hw.nm, hN]
  refine j_ncmp_ge (tgt := 36) X i N dX2_waiting_11 (by decide) rfl rfl (by omega) (by omega) (fun c11 => ?_) (fun c11 => ?_)
  · skip
    refine j_iload_n (q := 1) X dX2_waiting_36 rfl rfl ?_
    exact j_iret X hr hlk ⟨by rw [hrr, show i = N by omega], rfl⟩ dX2_waiting_37
  · skip
    refine j_iload_n (q := 1) X dX2_waiting_14 rfl rfl ?_
    refine j_aload_n (q := 2) X dX2_waiting_15 rfl rfl ?_
    refine j_iload_n (q := 0) X dX2_waiting_16 rfl rfl ?_
    refine j_callVi (As := [.int (nI i)]) X (kX2_whereIs l D ad cs A z μ M V N hw hci i (by omega)) oR rfl (cwV 1 X.1.2.2.2.2 gX2_waiting_X2_whereIs rfl rfl rfl (by decide +kernel) ⟨Nat.le_of_ble_eq_true rfl, Nat.le_of_ble_eq_true rfl⟩) rfl rfl (Nat.le_of_ble_eq_true rfl) dX2_waiting_17 (fun r17 μ17 h17 => ?_)
    obtain ⟨h17, rfl⟩ := h17
    rw [h17]
    refine j_if_ne (tgt := 27) X dX2_waiting_20 (by decide) (fun c20 => ?_) (fun c20 => ?_)
    · skip
      have hnew : r + 0 = wtn V (i + 1) := by rw [wtn, if_neg c20, ← hrr]; rfl
      refine j_iconst (v := (nI 0)) X dX2_waiting_27 (by decide) ?_
      refine j_iadd (v := (nI (r + 0))) X dX2_waiting_28 (nI_add _ _) ?_
      refine j_istore_n (lv' := [(1, .int (nI (r + 0))), (2, .int (nI i)), (0, .ref (ad 11 0))]) X dX2_waiting_29 rfl (by decide) rfl ?_
      refine j_iinc (q := 1) (v := (nI (i + 1))) (lv' := [(2, .int (nI (i + 1))), (1, .int (nI (r + 0))), (0, .ref (ad 11 0))]) X dX2_waiting_30 rfl (nI_1 _) (by decide) rfl ?_
      refine j_goto (tgt := 4) X dX2_waiting_33 (by decide) ?_
      exact ih4 (i + 1) (r + 0) ⟨by omega, hnew⟩ (by omega)
    · skip
      have hnew : r + 1 = wtn V (i + 1) := by rw [wtn, if_pos (Classical.not_not.mp c20), ← hrr]
      refine j_iconst (v := (nI 1)) X dX2_waiting_23 (by decide) ?_
      refine j_goto (tgt := 28) X dX2_waiting_24 (by decide) ?_
      refine j_iadd (v := (nI (r + 1))) X dX2_waiting_28 (nI_add _ _) ?_
      refine j_istore_n (lv' := [(1, .int (nI (r + 1))), (2, .int (nI i)), (0, .ref (ad 11 0))]) X dX2_waiting_29 rfl (by decide) rfl ?_
      refine j_iinc (q := 1) (v := (nI (i + 1))) (lv' := [(2, .int (nI (i + 1))), (1, .int (nI (r + 1))), (0, .ref (ad 11 0))]) X dX2_waiting_30 rfl (nI_1 _) (by decide) rfl ?_
      refine j_goto (tgt := 4) X dX2_waiting_33 (by decide) ?_
      exact ih4 (i + 1) (r + 1) ⟨by omega, hnew⟩ (by omega)
set_option maxHeartbeats 4000000 in
set_option maxRecDepth 100000 in
theorem kX2_named (l : Launch) (D : va_G) (ad : Nat → Nat → Nat) (cs : Nat → ClassId) (A : Nat → Prop) (z : Nat → Nat) (μ : Mm) (M : CV) (V : CV) (N : Nat) (hw : Rw V N (M 1)) (hci : CI V N) : KI l D ad cs A z yX2_named wsX2_named (rm 0 0) [.ref (ad 11 0)] (mb μ 11 M) (fun r μ1 => r = nI (12 - nb V (-6) 12) ∧ μ1 = mb μ 11 M) := by
  refine KI_of (cc := cX2_named) (maxL := 3) (ret := (some .int)) (by decide) rfl (Nat.le_of_ble_eq_true rfl) ?_
  intro p e s m args below meth c hr hlk X
  show J p l e _ s m args below meth c 0 0 _ 3 D ad cs A 0 [(0, .ref (ad 11 0))] [] (mb μ 11 M)
  have hinX2 : ∀ w ∈ wsX20, w ∈ wsX2_named := by decide +kernel
  have k7 : (Cond.fieldLink RX2 7 "PunCourtsModel" "all" "[I").before args s = true := X.1.2.2.2.2 _ (by decide +kernel)
  have hN := hci.1.1
  have hN20 := hci.1.2.1
  refine j_iconst (v := (nI 0)) X dX2_named_0 (by decide) ?_
  refine j_istore_n (lv' := [(1, .int (nI 0)), (0, .ref (ad 11 0))]) X dX2_named_1 rfl (by decide) rfl ?_
  refine j_iconst (v := (nI 0)) X dX2_named_2 (by decide) ?_
  refine j_istore_n (lv' := [(2, .int (nI 0)), (1, .int (nI 0)), (0, .ref (ad 11 0))]) X dX2_named_3 rfl (by decide) rfl ?_
  refine jl2 (G := J p l e _ s m args below meth c 0 0 _ _ D ad cs A) (pc := 4) (fun (i : Nat) (r : Nat) => [(2, .int (nI i)), (1, .int (nI r)), (0, .ref (ad 11 0))]) (fun (i : Nat) (r : Nat) => (mb μ 11 M)) (fun (i : Nat) (r : Nat) => i ≤ 12 ∧ r = i - nb V (-6) i) (fun (i : Nat) (r : Nat) => 12 - i) ?_ 0 0 ⟨by omega, rfl⟩
  intro i r hI4 ih4
  try dsimp only at ih4 ⊢
  obtain ⟨hi, hrr⟩ := hI4
  have hnl := nb_le V (-6) i
  refine j_iload_n (q := 0) X dX2_named_4 rfl rfl ?_
  refine j_bipush (v := (nI 12)) X dX2_named_5 (by decide) ?_
  refine j_ncmp_ge (tgt := 39) X i 12 dX2_named_7 (by decide) rfl rfl (by omega) (by omega) (fun c7 => ?_) (fun c7 => ?_)
  · skip
    refine j_iload_n (q := 1) X dX2_named_39 rfl rfl ?_
    exact j_iret X hr hlk ⟨by rw [hrr, show i = 12 by omega], rfl⟩ dX2_named_40
  · skip
    refine j_iload_n (q := 1) X dX2_named_10 rfl rfl ?_
    refine j_aload_n (q := 2) X dX2_named_11 rfl rfl ?_
    refine j_getRB X oR hinX2 0 (by decide) rfl k7 dX2_named_12 ?_
    refine j_sipush (v := (nI 249)) X dX2_named_15 (by decide) ?_
    refine j_iload_n (q := 0) X dX2_named_18 rfl rfl ?_
    refine j_iadd (v := (nI (249 + i))) X dX2_named_19 (nI_add _ _) ?_
    refine j_ialdB X aR_1 (249 + i) rfl (by omega) (by decide) dX2_named_20 ?_
    rw [hw.bo (show i < 12 by omega)]
    refine j_bipush (v := (-6)) X dX2_named_21 (by decide) ?_
    refine j_icmp_ne (tgt := 30) X dX2_named_23 (by decide) (fun c23 => ?_) (fun c23 => ?_)
    · skip
      have hnew : r + 1 = i + 1 - nb V (-6) (i + 1) := by rw [nb, if_neg c23]; omega
      refine j_iconst (v := (nI 1)) X dX2_named_30 (by decide) ?_
      refine j_iadd (v := (nI (r + 1))) X dX2_named_31 (nI_add _ _) ?_
      refine j_istore_n (lv' := [(1, .int (nI (r + 1))), (2, .int (nI i)), (0, .ref (ad 11 0))]) X dX2_named_32 rfl (by decide) rfl ?_
      refine j_iinc (q := 1) (v := (nI (i + 1))) (lv' := [(2, .int (nI (i + 1))), (1, .int (nI (r + 1))), (0, .ref (ad 11 0))]) X dX2_named_33 rfl (nI_1 _) (by decide) rfl ?_
      refine j_goto (tgt := 4) X dX2_named_36 (by decide) ?_
      exact ih4 (i + 1) (r + 1) ⟨by omega, hnew⟩ (by omega)
    · skip
      have hnew : r + 0 = i + 1 - nb V (-6) (i + 1) := by rw [nb, if_pos (Classical.not_not.mp c23)]; omega
      refine j_iconst (v := (nI 0)) X dX2_named_26 (by decide) ?_
      refine j_goto (tgt := 31) X dX2_named_27 (by decide) ?_
      refine j_iadd (v := (nI (r + 0))) X dX2_named_31 (nI_add _ _) ?_
      refine j_istore_n (lv' := [(1, .int (nI (r + 0))), (2, .int (nI i)), (0, .ref (ad 11 0))]) X dX2_named_32 rfl (by decide) rfl ?_
      refine j_iinc (q := 1) (v := (nI (i + 1))) (lv' := [(2, .int (nI (i + 1))), (1, .int (nI (r + 0))), (0, .ref (ad 11 0))]) X dX2_named_33 rfl (nI_1 _) (by decide) rfl ?_
      refine j_goto (tgt := 4) X dX2_named_36 (by decide) ?_
      exact ih4 (i + 1) (r + 0) ⟨by omega, hnew⟩ (by omega)
set_option maxHeartbeats 4000000 in
set_option maxRecDepth 100000 in
theorem kX2_punPairs (l : Launch) (D : va_G) (ad : Nat → Nat → Nat) (cs : Nat → ClassId) (A : Nat → Prop) (z : Nat → Nat) (μ : Mm) (M : CV) (V : CV) (N : Nat) (hw : Rw V N (M 1)) (hci : CI V N) : KI l D ad cs A z yX2_punPairs wsX2_punPairs (rm 2 44) [.ref (ad 11 0)] (mb μ 11 M) (fun r μ1 => r = nI (pp V 12) ∧ μ1 = mb μ 11 M) := by
  refine KI_of (cc := cX2_punPairs) (maxL := 6) (ret := (some .int)) (by decide) rfl (Nat.le_of_ble_eq_true rfl) ?_
  intro p e s m args below meth c hr hlk X
  show J p l e _ s m args below meth c 0 0 _ 6 D ad cs A 0 [(0, .ref (ad 11 0))] [] (mb μ 11 M)
  have hinX2 : ∀ w ∈ wsX20, w ∈ wsX2_punPairs := by decide +kernel
  have k7 : (Cond.fieldLink RX2 7 "PunCourtsModel" "all" "[I").before args s = true := X.1.2.2.2.2 _ (by decide +kernel)
  have hN := hci.1.1
  have hN20 := hci.1.2.1
  refine j_iconst (v := (nI 0)) X dX2_punPairs_0 (by decide) ?_
  refine j_istore_n (lv' := [(1, .int (nI 0)), (0, .ref (ad 11 0))]) X dX2_punPairs_1 rfl (by decide) rfl ?_
  refine j_iconst (v := (nI 0)) X dX2_punPairs_2 (by decide) ?_
  refine j_istore_n (lv' := [(2, .int (nI 0)), (1, .int (nI 0)), (0, .ref (ad 11 0))]) X dX2_punPairs_3 rfl (by decide) rfl ?_
  refine jl2 (G := J p l e _ s m args below meth c 0 0 _ _ D ad cs A) (pc := 4) (fun (i : Nat) (r : Nat) => [(2, .int (nI i)), (1, .int (nI r)), (0, .ref (ad 11 0))]) (fun (i : Nat) (r : Nat) => (mb μ 11 M)) (fun (i : Nat) (r : Nat) => i ≤ 12 ∧ r = pp V i) (fun (i : Nat) (r : Nat) => 12 - i) ?_ 0 0 ⟨by omega, rfl⟩
  intro i r hI4 ih4
  try dsimp only at ih4 ⊢
  obtain ⟨hi, hrr⟩ := hI4
  refine j_iload_n (q := 0) X dX2_punPairs_4 rfl rfl ?_
  refine j_bipush (v := (nI 12)) X dX2_punPairs_5 (by decide) ?_
  refine j_ncmp_ge (tgt := 96) X i 12 dX2_punPairs_7 (by decide) rfl rfl (by omega) (by omega) (fun c7 => ?_) (fun c7 => ?_)
  · skip
    refine j_iload_n (q := 1) X dX2_punPairs_96 rfl rfl ?_
    exact j_iret X hr hlk ⟨by rw [hrr, show i = 12 by omega], rfl⟩ dX2_punPairs_97
  · skip
    refine j_iload_n (q := 0) X dX2_punPairs_10 rfl rfl ?_
    refine j_iconst (v := (nI 1)) X dX2_punPairs_11 (by decide) ?_
    refine j_iadd (v := (nI (i + 1))) X dX2_punPairs_12 (nI_add _ _) ?_
    refine j_istore_n (lv' := [(3, .int (nI (i + 1))), (2, .int (nI i)), (1, .int (nI r)), (0, .ref (ad 11 0))]) X dX2_punPairs_13 rfl (by decide) rfl ?_
    refine j_lv [0, 2, 1, 3] rfl ?_
    refine jl2 (G := J p l e _ s m args below meth c 0 0 _ _ D ad cs A) (pc := 14) (fun (d : Nat) (r2 : Nat) => [(3, .int (nI d)), (1, .int (nI r2)), (2, .int (nI i)), (0, .ref (ad 11 0))]) (fun (d : Nat) (r2 : Nat) => (mb μ 11 M)) (fun (d : Nat) (r2 : Nat) => i < d ∧ d ≤ 12 ∧ r2 = pp V i + pq V i d) (fun (d : Nat) (r2 : Nat) => 12 - d) ?_ (i + 1) r ⟨by omega, by omega, by rw [pq_0 V i (i + 1) (by omega), hrr]; rfl⟩
    intro d r2 hI14 ih14
    try dsimp only at ih14 ⊢
    obtain ⟨hid, hd, hr2⟩ := hI14
    refine j_iload_n (q := 0) X dX2_punPairs_14 rfl rfl ?_
    refine j_bipush (v := (nI 12)) X dX2_punPairs_15 (by decide) ?_
    refine j_ncmp_ge (tgt := 90) X d 12 dX2_punPairs_17 (by decide) rfl rfl (by omega) (by omega) (fun c17 => ?_) (fun c17 => ?_)
    · skip
      refine j_iinc (q := 2) (v := (nI (i + 1))) (lv' := [(2, .int (nI (i + 1))), (3, .int (nI d)), (1, .int (nI r2)), (0, .ref (ad 11 0))]) X dX2_punPairs_90 rfl (nI_1 _) (by decide) rfl ?_
      refine j_goto (tgt := 4) X dX2_punPairs_93 (by decide) ?_
      refine j_lv (lv1 := [(2, .int (nI (i + 1))), (1, .int (nI r2)), (0, .ref (ad 11 0))]) [0, 2, 3] rfl ?_
      exact ih4 (i + 1) r2 ⟨by omega, by rw [pp, hr2, show d = 12 by omega]⟩ (by omega)
    · skip
      refine j_aload_n (q := 3) X dX2_punPairs_20 rfl rfl ?_
      refine j_getRB X oR hinX2 0 (by decide) rfl k7 dX2_punPairs_21 ?_
      refine j_sipush (v := (nI 249)) X dX2_punPairs_24 (by decide) ?_
      refine j_iload_n (q := 2) X dX2_punPairs_27 rfl rfl ?_
      refine j_iadd (v := (nI (249 + i))) X dX2_punPairs_28 (nI_add _ _) ?_
      refine j_ialdB X aR_1 (249 + i) rfl (by omega) (by decide) dX2_punPairs_29 ?_
      rw [hw.bo (show i < 12 by omega)]
      refine j_istore (lv' := [(4, .int (V 10 i)), (3, .int (nI d)), (1, .int (nI r2)), (2, .int (nI i)), (0, .ref (ad 11 0))]) X dX2_punPairs_30 (by decide) rfl ?_
      refine j_aload_n (q := 4) X dX2_punPairs_32 rfl rfl ?_
      refine j_getRB X oR hinX2 0 (by decide) rfl k7 dX2_punPairs_33 ?_
      refine j_sipush (v := (nI 249)) X dX2_punPairs_36 (by decide) ?_
      refine j_iload_n (q := 1) X dX2_punPairs_39 rfl rfl ?_
      refine j_iadd (v := (nI (249 + d))) X dX2_punPairs_40 (nI_add _ _) ?_
      refine j_ialdB X aR_1 (249 + d) rfl (by omega) (by decide) dX2_punPairs_41 ?_
      rw [hw.bo (show d < 12 by omega)]
      refine j_istore (lv' := [(5, .int (V 10 d)), (4, .int (V 10 i)), (3, .int (nI d)), (1, .int (nI r2)), (2, .int (nI i)), (0, .ref (ad 11 0))]) X dX2_punPairs_42 (by decide) rfl ?_
      refine j_iload_n (q := 3) X dX2_punPairs_44 rfl rfl ?_
      refine j_iload (q := 1) X dX2_punPairs_45 rfl ?_
      refine j_bipush (v := (-6)) X dX2_punPairs_47 (by decide) ?_
      refine j_icmp_eq (tgt := 81) X dX2_punPairs_49 (by decide) (fun c49 => ?_) (fun c49 => ?_)
      · skip
        have hp : ¬ (i < d ∧ punS V (V 10 i) (V 10 d)) := fun q => absurd q.2.2.1.1 (by rw [c49]; decide)
        have hnew : r2 + 0 = pp V i + pq V i (d + 1) := by rw [pq, if_neg hp]; exact hr2
        refine j_iconst (v := (nI 0)) X dX2_punPairs_81 (by decide) ?_
        refine j_iadd (v := (nI (r2 + 0))) X dX2_punPairs_82 (nI_add _ _) ?_
        refine j_istore_n (lv' := [(1, .int (nI (r2 + 0))), (5, .int (V 10 d)), (4, .int (V 10 i)), (3, .int (nI d)), (2, .int (nI i)), (0, .ref (ad 11 0))]) X dX2_punPairs_83 rfl (by decide) rfl ?_
        refine j_iinc (q := 3) (v := (nI (d + 1))) (lv' := [(3, .int (nI (d + 1))), (1, .int (nI (r2 + 0))), (5, .int (V 10 d)), (4, .int (V 10 i)), (2, .int (nI i)), (0, .ref (ad 11 0))]) X dX2_punPairs_84 rfl (nI_1 _) (by decide) rfl ?_
        refine j_goto (tgt := 14) X dX2_punPairs_87 (by decide) ?_
        refine j_lv (lv1 := [(3, .int (nI (d + 1))), (1, .int (nI (r2 + 0))), (2, .int (nI i)), (0, .ref (ad 11 0))]) [0, 1, 4, 5] rfl ?_
        exact ih14 (d + 1) (r2 + 0) ⟨by omega, by omega, hnew⟩ (by omega)
      · skip
        refine j_iload (q := 0) X dX2_punPairs_52 rfl ?_
        refine j_bipush (v := (-6)) X dX2_punPairs_54 (by decide) ?_
        refine j_icmp_eq (tgt := 81) X dX2_punPairs_56 (by decide) (fun c56 => ?_) (fun c56 => ?_)
        · skip
          have hp : ¬ (i < d ∧ punS V (V 10 i) (V 10 d)) := fun q => absurd q.2.2.2.1.1 (by rw [c56]; decide)
          have hnew : r2 + 0 = pp V i + pq V i (d + 1) := by rw [pq, if_neg hp]; exact hr2
          refine j_iconst (v := (nI 0)) X dX2_punPairs_81 (by decide) ?_
          refine j_iadd (v := (nI (r2 + 0))) X dX2_punPairs_82 (nI_add _ _) ?_
          refine j_istore_n (lv' := [(1, .int (nI (r2 + 0))), (5, .int (V 10 d)), (4, .int (V 10 i)), (3, .int (nI d)), (2, .int (nI i)), (0, .ref (ad 11 0))]) X dX2_punPairs_83 rfl (by decide) rfl ?_
          refine j_iinc (q := 3) (v := (nI (d + 1))) (lv' := [(3, .int (nI (d + 1))), (1, .int (nI (r2 + 0))), (5, .int (V 10 d)), (4, .int (V 10 i)), (2, .int (nI i)), (0, .ref (ad 11 0))]) X dX2_punPairs_84 rfl (nI_1 _) (by decide) rfl ?_
          refine j_goto (tgt := 14) X dX2_punPairs_87 (by decide) ?_
          refine j_lv (lv1 := [(3, .int (nI (d + 1))), (1, .int (nI (r2 + 0))), (2, .int (nI i)), (0, .ref (ad 11 0))]) [0, 1, 4, 5] rfl ?_
          exact ih14 (d + 1) (r2 + 0) ⟨by omega, by omega, hnew⟩ (by omega)
        · skip
          refine j_iload (q := 1) X dX2_punPairs_59 rfl ?_
          refine j_iload (q := 0) X dX2_punPairs_61 rfl ?_
          refine j_icmp_eq (tgt := 81) X dX2_punPairs_63 (by decide) (fun c63 => ?_) (fun c63 => ?_)
          · skip
            have hp : ¬ (i < d ∧ punS V (V 10 i) (V 10 d)) := fun q => q.2.1 c63
            have hnew : r2 + 0 = pp V i + pq V i (d + 1) := by rw [pq, if_neg hp]; exact hr2
            refine j_iconst (v := (nI 0)) X dX2_punPairs_81 (by decide) ?_
            refine j_iadd (v := (nI (r2 + 0))) X dX2_punPairs_82 (nI_add _ _) ?_
            refine j_istore_n (lv' := [(1, .int (nI (r2 + 0))), (5, .int (V 10 d)), (4, .int (V 10 i)), (3, .int (nI d)), (2, .int (nI i)), (0, .ref (ad 11 0))]) X dX2_punPairs_83 rfl (by decide) rfl ?_
            refine j_iinc (q := 3) (v := (nI (d + 1))) (lv' := [(3, .int (nI (d + 1))), (1, .int (nI (r2 + 0))), (5, .int (V 10 d)), (4, .int (V 10 i)), (2, .int (nI i)), (0, .ref (ad 11 0))]) X dX2_punPairs_84 rfl (nI_1 _) (by decide) rfl ?_
            refine j_goto (tgt := 14) X dX2_punPairs_87 (by decide) ?_
            refine j_lv (lv1 := [(3, .int (nI (d + 1))), (1, .int (nI (r2 + 0))), (2, .int (nI i)), (0, .ref (ad 11 0))]) [0, 1, 4, 5] rfl ?_
            exact ih14 (d + 1) (r2 + 0) ⟨by omega, by omega, hnew⟩ (by omega)
          · skip
            obtain ⟨n1, hn1, e1⟩ := (hci.2.2.1.1 i (by omega)).resolve_left c49
            obtain ⟨n2, hn2, e2⟩ := (hci.2.2.1.1 d (by omega)).resolve_left c56
            rw [e1, e2]
            refine j_aload_n (q := 5) X dX2_punPairs_66 rfl rfl ?_
            refine j_iload (q := 1) X dX2_punPairs_67 rfl ?_
            refine j_iload (q := 0) X dX2_punPairs_69 rfl ?_
            refine j_callVi (As := [.int (nI n1), .int (nI n2)]) X (kX2_soundAlike l D ad cs A z μ M V N hw hci n1 hn1 n2 hn2) oR rfl (cwV 2 X.1.2.2.2.2 gX2_punPairs_X2_soundAlike rfl rfl rfl (by decide +kernel) ⟨Nat.le_of_ble_eq_true rfl, Nat.le_of_ble_eq_true rfl⟩) rfl rfl (Nat.le_of_ble_eq_true rfl) dX2_punPairs_71 (fun r71 μ71 h71 => ?_)
            obtain ⟨h71, rfl⟩ := h71
            refine j_if_eq (tgt := 81) X dX2_punPairs_74 (by decide) (fun c74 => ?_) (fun c74 => ?_)
            · skip
              have hp : ¬ (i < d ∧ punS V (V 10 i) (V 10 d)) := fun q => h71.f c74 (by have := q.2.2.2.2; rw [e1, e2, ix_n (by omega), ix_n (by omega)] at this; exact this)
              have hnew : r2 + 0 = pp V i + pq V i (d + 1) := by rw [pq, if_neg hp]; exact hr2
              refine j_iconst (v := (nI 0)) X dX2_punPairs_81 (by decide) ?_
              refine j_iadd (v := (nI (r2 + 0))) X dX2_punPairs_82 (nI_add _ _) ?_
              refine j_istore_n (lv' := [(1, .int (nI (r2 + 0))), (5, .int (nI n2)), (4, .int (nI n1)), (3, .int (nI d)), (2, .int (nI i)), (0, .ref (ad 11 0))]) X dX2_punPairs_83 rfl (by decide) rfl ?_
              refine j_iinc (q := 3) (v := (nI (d + 1))) (lv' := [(3, .int (nI (d + 1))), (1, .int (nI (r2 + 0))), (5, .int (nI n2)), (4, .int (nI n1)), (2, .int (nI i)), (0, .ref (ad 11 0))]) X dX2_punPairs_84 rfl (nI_1 _) (by decide) rfl ?_
              refine j_goto (tgt := 14) X dX2_punPairs_87 (by decide) ?_
              refine j_lv (lv1 := [(3, .int (nI (d + 1))), (1, .int (nI (r2 + 0))), (2, .int (nI i)), (0, .ref (ad 11 0))]) [0, 1, 4, 5] rfl ?_
              exact ih14 (d + 1) (r2 + 0) ⟨by omega, by omega, hnew⟩ (by omega)
            · skip
              have hp : i < d ∧ punS V (V 10 i) (V 10 d) := ⟨hid, c63, by rw [e1]; exact n_hasN hN hN20 hn1, by rw [e2]; exact n_hasN hN hN20 hn2, by rw [e1, e2, ix_n (by omega), ix_n (by omega)]; exact h71.t c74⟩
              have hnew : r2 + 1 = pp V i + pq V i (d + 1) := by rw [pq, if_pos hp, hr2]; rfl
              refine j_iconst (v := (nI 1)) X dX2_punPairs_77 (by decide) ?_
              refine j_goto (tgt := 82) X dX2_punPairs_78 (by decide) ?_
              refine j_iadd (v := (nI (r2 + 1))) X dX2_punPairs_82 (nI_add _ _) ?_
              refine j_istore_n (lv' := [(1, .int (nI (r2 + 1))), (5, .int (nI n2)), (4, .int (nI n1)), (3, .int (nI d)), (2, .int (nI i)), (0, .ref (ad 11 0))]) X dX2_punPairs_83 rfl (by decide) rfl ?_
              refine j_iinc (q := 3) (v := (nI (d + 1))) (lv' := [(3, .int (nI (d + 1))), (1, .int (nI (r2 + 1))), (5, .int (nI n2)), (4, .int (nI n1)), (2, .int (nI i)), (0, .ref (ad 11 0))]) X dX2_punPairs_84 rfl (nI_1 _) (by decide) rfl ?_
              refine j_goto (tgt := 14) X dX2_punPairs_87 (by decide) ?_
              refine j_lv (lv1 := [(3, .int (nI (d + 1))), (1, .int (nI (r2 + 1))), (2, .int (nI i)), (0, .ref (ad 11 0))]) [0, 1, 4, 5] rfl ?_
              exact ih14 (d + 1) (r2 + 1) ⟨by omega, by omega, hnew⟩ (by omega)
theorem swc2 (w : Int32) (a b : Nat) (ha : a < 2 ^ 31) (hb : b < 2 ^ 31) : (w.toInt < a ∨ (b : Int) < w.toInt) ∨ ∃ i, a ≤ i ∧ i ≤ b ∧ w = nI i := by
  rcases swc w b hb with h | ⟨i, hi, rfl⟩
  · rcases h with h | h
    · exact Or.inl (Or.inl (by omega))
    · exact Or.inl (Or.inr h)
  · rcases Nat.lt_or_ge i a with q | q
    · exact Or.inl (Or.inl (by rw [nI_toInt (by omega)]; omega))
    · exact Or.inr ⟨i, q, hi, rfl⟩
theorem sw_ne2 {w : Int32} {a b : Nat} (hb : b < 2 ^ 31) (h : w.toInt < a ∨ (b : Int) < w.toInt) : ∀ i, a ≤ i → i ≤ b → ¬ w = nI i := by
  intro i h1 h2 e
  rw [e, nI_toInt (by omega)] at h
  omega
theorem rcnt_lo {V : CV} {N h pl : Nat} {a : Nat → Int32} (hw : Rw V N a) (hN : V 0 2 = nI N) {j : Nat} (hj : j ≤ 5) : a j = Rcnt V N h pl (nI j) := by
  rw [Rcnt]
  rcases (show j = 0 ∨ j = 1 ∨ j = 2 ∨ j = 3 ∨ j = 4 ∨ j = 5 by omega) with rfl | rfl | rfl | rfl | rfl | rfl
  · rw [if_pos rfl]; exact hw.st 0 (by decide)
  · rw [if_neg (by decide), if_pos rfl]; exact hw.st 1 (by decide)
  · rw [if_neg (by decide), if_neg (by decide), if_pos rfl]; exact hw.st 2 (by decide)
  · rw [if_neg (by decide), if_neg (by decide), if_neg (by decide), if_pos rfl]; exact hw.st 3 (by decide)
  · rw [if_neg (by decide), if_neg (by decide), if_neg (by decide), if_neg (by decide), if_pos rfl]; exact hw.dy
  · rw [if_neg (by decide), if_neg (by decide), if_neg (by decide), if_neg (by decide), if_neg (by decide), if_pos rfl]; exact hw.nm.trans hN
theorem rcnt_no {V : CV} {N h pl : Nat} {w : Int32} (no : ∀ i, i ≤ 14 → ¬ w = nI i) : Rcnt V N h pl w = -2 := by
  rw [Rcnt, if_neg (no 0 (by decide)), if_neg (no 1 (by decide)), if_neg (no 2 (by decide)), if_neg (no 3 (by decide)), if_neg (no 4 (by decide)), if_neg (no 5 (by decide)), if_neg (no 6 (by decide)), if_neg (no 7 (by decide)), if_neg (no 8 (by decide)), if_neg (no 9 (by decide)), if_neg (no 10 (by decide)), if_neg (no 11 (by decide)), if_neg (no 12 (by decide)), if_neg (no 13 (by decide)), if_neg (no 14 (by decide))]
theorem nI_no {w : Int32} {b : Nat} (hb : b < 2 ^ 31) (h : ¬ (nI 0 ≤ w ∧ w ≤ nI b)) : ∀ i, i ≤ b → ¬ w = nI i := fun i hi e => h (by rw [e]; exact ⟨nI_le (by omega) (by omega), nI_le hi hb⟩)
set_option maxHeartbeats 4000000 in
set_option maxRecDepth 100000 in
theorem kX2_count (l : Launch) (D : va_G) (ad : Nat → Nat → Nat) (cs : Nat → ClassId) (A : Nat → Prop) (z : Nat → Nat) (μ : Mm) (M : CV) (V : CV) (N h : Nat) (hc : Nat → CV) (nh : Nat → Nat) (s0 s1 : CV) (n0 n1 : Nat) (u : Nat → Int32) (pl : Nat) (pd : Nat → Int32) (hm : RM M V N h hc nh s0 s1 n0 n1 u pl pd) (hci : CI V N) (w : Int32) : KI l D ad cs A z yX2_count wsX2_count (rm 3 69) [.ref (ad 11 0), .int w] (mb μ 11 M) (fun r μ1 => r = Rcnt V N h pl w ∧ μ1 = mb μ 11 M) := by
  refine KI_of (cc := cX2_count) (maxL := 2) (ret := (some .int)) (by decide) rfl (Nat.le_of_ble_eq_true rfl) ?_
  intro p e s m args below meth c hr hlk X
  show J p l e _ s m args below meth c 0 0 _ 2 D ad cs A 0 [(0, .ref (ad 11 0)), (1, .int w)] [] (mb μ 11 M)
  have hinX2 : ∀ w ∈ wsX20, w ∈ wsX2_count := by decide +kernel
  have k7 : (Cond.fieldLink RX2 7 "PunCourtsModel" "all" "[I").before args s = true := X.1.2.2.2.2 _ (by decide +kernel)
  have k140 : (Cond.fieldLink RX2 140 "PunCourtsModel" "textLong" "I").before args s = true := X.1.2.2.2.2 _ (by decide +kernel)
  have k37 : (Cond.fieldLink RX2 37 "PunCourtsModel" "historyLong" "I").before args s = true := X.1.2.2.2.2 _ (by decide +kernel)
  have hN := hci.1.1
  have hN20 := hci.1.2.1
  have hw := hm.1.1
  refine j_iload_n (q := 1) X dX2_count_0 rfl rfl ?_
  rcases swc2 w 6 14 (by decide) (by decide) with hsw | ⟨isw, hisw1, hisw, hisw2⟩
  · refine j_tabOut (tgt := 106) X dX2_count_1 hsw (by decide) ?_
    have hsn := sw_ne2 (a := 6) (b := 14) (by decide) hsw
    refine j_iload_n (q := 1) X dX2_count_106 rfl rfl ?_
    refine j_i2l (v := w.toInt64) X dX2_count_107 rfl ?_
    refine j_lconst (v := lN 0) X dX2_count_108 (by decide) ?_
    refine j_ldc2 (v := lN 5) X (X.1.2.2.2.2 _ (by decide +kernel)) dX2_count_109 ?_
    refine j_callSi (As := [.long w.toInt64, .long (lN 0), .long (lN 5)]) X (kX2_in l D ad cs A z μ M (w.toInt64) (lN 0) (lN 5)) (va_cwS 3 X.1.2.2.2.2 gX2_count_X2_in rfl rfl rfl (by decide +kernel) ⟨Nat.le_of_ble_eq_true rfl, Nat.le_of_ble_eq_true rfl⟩) rfl rfl (Nat.le_of_ble_eq_true rfl) dX2_count_112 (fun r112 μ112 h112 => ?_)
    obtain ⟨h112, rfl⟩ := h112
    refine j_if_eq (tgt := 127) X dX2_count_115 (by decide) (fun c115 => ?_) (fun c115 => ?_)
    · skip
      have no : ∀ i, i ≤ 14 → ¬ w = nI i := fun i hi => (Nat.lt_or_ge 5 i).elim (fun q => hsn i q hi) (fun q => nI_no (b := 5) (by decide) (fun z => h112.f c115 ((in_64 (by decide) (by decide)).mpr z)) i q)
      refine j_bipush (v := (-2)) X dX2_count_127 (by decide) ?_
      exact j_iret X hr hlk ⟨(rcnt_no no).symm, rfl⟩ dX2_count_129
    · skip
      have ho := (in_64 (by decide) (by decide)).mp (h112.t c115)
      obtain ⟨j, -, hj, rfl⟩ := rng_n ho.1 ho.2 (by decide) (by decide)
      refine j_aload_n (q := 0) X dX2_count_118 rfl rfl ?_
      refine j_getRB X oR hinX2 0 (by decide) rfl k7 dX2_count_119 ?_
      refine j_iload_n (q := 1) X dX2_count_122 rfl rfl ?_
      refine j_ialdB X aR_1 j rfl (by omega) (by decide) dX2_count_123 ?_
      refine j_goto (tgt := 129) X dX2_count_124 (by decide) ?_
      exact j_iret X hr hlk ⟨rcnt_lo hw hN hj, rfl⟩ dX2_count_129
  · rcases (show isw = 6 ∨ isw = 7 ∨ isw = 8 ∨ isw = 9 ∨ isw = 10 ∨ isw = 11 ∨ isw = 12 ∨ isw = 13 ∨ isw = 14 by omega) with rfl | rfl | rfl | rfl | rfl | rfl | rfl | rfl | rfl
    · subst hisw2
      refine j_tabIn (off := 51) (tgt := 52) X dX2_count_1 (by decide) (by decide) (by decide) (by decide) ?_
      refine j_aload_n (q := 0) X dX2_count_52 rfl rfl ?_
      refine j_callVi (As := []) X (kX2_waiting l D ad cs A z μ M V N hw hci) oR rfl (cwV 0 X.1.2.2.2.2 gX2_count_X2_waiting rfl rfl rfl (by decide +kernel) ⟨Nat.le_of_ble_eq_true rfl, Nat.le_of_ble_eq_true rfl⟩) rfl rfl (Nat.le_of_ble_eq_true rfl) dX2_count_53 (fun r53 μ53 h53 => ?_)
      obtain ⟨h53, rfl⟩ := h53
      rw [h53]
      exact j_iret X hr hlk ⟨Eq.symm (by rw [Rcnt, if_neg (by decide), if_neg (by decide), if_neg (by decide), if_neg (by decide), if_neg (by decide), if_neg (by decide), if_pos rfl]), rfl⟩ dX2_count_56
    · subst hisw2
      refine j_tabIn (off := 56) (tgt := 57) X dX2_count_1 (by decide) (by decide) (by decide) (by decide) ?_
      refine j_aload_n (q := 0) X dX2_count_57 rfl rfl ?_
      refine j_callVi (As := []) X (kX2_named l D ad cs A z μ M V N hw hci) oR rfl (cwV 0 X.1.2.2.2.2 gX2_count_X2_named rfl rfl rfl (by decide +kernel) ⟨Nat.le_of_ble_eq_true rfl, Nat.le_of_ble_eq_true rfl⟩) rfl rfl (Nat.le_of_ble_eq_true rfl) dX2_count_58 (fun r58 μ58 h58 => ?_)
      obtain ⟨h58, rfl⟩ := h58
      rw [h58]
      exact j_iret X hr hlk ⟨Eq.symm (by rw [Rcnt, if_neg (by decide), if_neg (by decide), if_neg (by decide), if_neg (by decide), if_neg (by decide), if_neg (by decide), if_neg (by decide), if_pos rfl]), rfl⟩ dX2_count_61
    · subst hisw2
      refine j_tabIn (off := 61) (tgt := 62) X dX2_count_1 (by decide) (by decide) (by decide) (by decide) ?_
      refine j_aload_n (q := 0) X dX2_count_62 rfl rfl ?_
      refine j_sipush (v := (nI 261)) X dX2_count_63 (by decide) ?_
      refine j_callVi (As := [.int (nI 261)]) X (kX2_sum l D ad cs A z μ M 261 (by decide)) oR rfl (cwV 1 X.1.2.2.2.2 gX2_count_X2_sum rfl rfl rfl (by decide +kernel) ⟨Nat.le_of_ble_eq_true rfl, Nat.le_of_ble_eq_true rfl⟩) rfl rfl (Nat.le_of_ble_eq_true rfl) dX2_count_66 (fun r66 μ66 h66 => ?_)
      obtain ⟨h66, rfl⟩ := h66
      rw [sm_cong (f := fun c => M 1 (261 + c)) (g := V 11) 12 (fun k hk => hw.ow hk)] at h66
      rw [h66]
      exact j_iret X hr hlk ⟨Eq.symm (by rw [Rcnt, if_neg (by decide), if_neg (by decide), if_neg (by decide), if_neg (by decide), if_neg (by decide), if_neg (by decide), if_neg (by decide), if_neg (by decide), if_pos rfl]), rfl⟩ dX2_count_69
    · subst hisw2
      refine j_tabIn (off := 69) (tgt := 70) X dX2_count_1 (by decide) (by decide) (by decide) (by decide) ?_
      refine j_aload_n (q := 0) X dX2_count_70 rfl rfl ?_
      refine j_getRB X oR hinX2 0 (by decide) rfl k7 dX2_count_71 ?_
      refine j_bipush (v := (nI 7)) X dX2_count_74 (by decide) ?_
      refine j_ialdB X aR_1 7 rfl (by decide) (by decide) dX2_count_76 ?_
      rw [hw.su]
      exact j_iret X hr hlk ⟨Eq.symm (by rw [Rcnt, if_neg (by decide), if_neg (by decide), if_neg (by decide), if_neg (by decide), if_neg (by decide), if_neg (by decide), if_neg (by decide), if_neg (by decide), if_neg (by decide), if_pos rfl]), rfl⟩ dX2_count_77
    · subst hisw2
      refine j_tabIn (off := 77) (tgt := 78) X dX2_count_1 (by decide) (by decide) (by decide) (by decide) ?_
      refine j_aload_n (q := 0) X dX2_count_78 rfl rfl ?_
      refine j_getRB X oR hinX2 0 (by decide) rfl k7 dX2_count_79 ?_
      refine j_bipush (v := (nI 8)) X dX2_count_82 (by decide) ?_
      refine j_ialdB X aR_1 8 rfl (by decide) (by decide) dX2_count_84 ?_
      rw [hw.gi]
      exact j_iret X hr hlk ⟨Eq.symm (by rw [Rcnt, if_neg (by decide), if_neg (by decide), if_neg (by decide), if_neg (by decide), if_neg (by decide), if_neg (by decide), if_neg (by decide), if_neg (by decide), if_neg (by decide), if_neg (by decide), if_pos rfl]), rfl⟩ dX2_count_85
    · subst hisw2
      refine j_tabIn (off := 85) (tgt := 86) X dX2_count_1 (by decide) (by decide) (by decide) (by decide) ?_
      refine j_aload_n (q := 0) X dX2_count_86 rfl rfl ?_
      refine j_callVi (As := []) X (kX2_wrongCorners l D ad cs A z μ M V N hw hci) oR rfl (cwV 0 X.1.2.2.2.2 gX2_count_X2_wrongCorners rfl rfl rfl (by decide +kernel) ⟨Nat.le_of_ble_eq_true rfl, Nat.le_of_ble_eq_true rfl⟩) rfl rfl (Nat.le_of_ble_eq_true rfl) dX2_count_87 (fun r87 μ87 h87 => ?_)
      obtain ⟨h87, rfl⟩ := h87
      rw [h87]
      exact j_iret X hr hlk ⟨Eq.symm (by rw [Rcnt, if_neg (by decide), if_neg (by decide), if_neg (by decide), if_neg (by decide), if_neg (by decide), if_neg (by decide), if_neg (by decide), if_neg (by decide), if_neg (by decide), if_neg (by decide), if_neg (by decide), if_pos rfl]), rfl⟩ dX2_count_90
    · subst hisw2
      refine j_tabIn (off := 90) (tgt := 91) X dX2_count_1 (by decide) (by decide) (by decide) (by decide) ?_
      refine j_aload_n (q := 0) X dX2_count_91 rfl rfl ?_
      refine j_callVi (As := []) X (kX2_punPairs l D ad cs A z μ M V N hw hci) oR rfl (cwV 0 X.1.2.2.2.2 gX2_count_X2_punPairs rfl rfl rfl (by decide +kernel) ⟨Nat.le_of_ble_eq_true rfl, Nat.le_of_ble_eq_true rfl⟩) rfl rfl (Nat.le_of_ble_eq_true rfl) dX2_count_92 (fun r92 μ92 h92 => ?_)
      obtain ⟨h92, rfl⟩ := h92
      rw [h92]
      exact j_iret X hr hlk ⟨Eq.symm (by rw [Rcnt, if_neg (by decide), if_neg (by decide), if_neg (by decide), if_neg (by decide), if_neg (by decide), if_neg (by decide), if_neg (by decide), if_neg (by decide), if_neg (by decide), if_neg (by decide), if_neg (by decide), if_neg (by decide), if_pos rfl]), rfl⟩ dX2_count_95
    · subst hisw2
      refine j_tabIn (off := 95) (tgt := 96) X dX2_count_1 (by decide) (by decide) (by decide) (by decide) ?_
      refine j_aload_n (q := 0) X dX2_count_96 rfl rfl ?_
      refine j_getRB X oR hinX2 7 (by decide) rfl k140 dX2_count_97 ?_
      rw [hm.2.2.2.1]
      exact j_iret X hr hlk ⟨Eq.symm (by rw [Rcnt, if_neg (by decide), if_neg (by decide), if_neg (by decide), if_neg (by decide), if_neg (by decide), if_neg (by decide), if_neg (by decide), if_neg (by decide), if_neg (by decide), if_neg (by decide), if_neg (by decide), if_neg (by decide), if_neg (by decide), if_pos rfl]), rfl⟩ dX2_count_100
    · subst hisw2
      refine j_tabIn (off := 100) (tgt := 101) X dX2_count_1 (by decide) (by decide) (by decide) (by decide) ?_
      refine j_aload_n (q := 0) X dX2_count_101 rfl rfl ?_
      refine j_getRB X oR hinX2 3 (by decide) rfl k37 dX2_count_102 ?_
      rw [hm.2.1.1]
      exact j_iret X hr hlk ⟨Eq.symm (by rw [Rcnt, if_neg (by decide), if_neg (by decide), if_neg (by decide), if_neg (by decide), if_neg (by decide), if_neg (by decide), if_neg (by decide), if_neg (by decide), if_neg (by decide), if_neg (by decide), if_neg (by decide), if_neg (by decide), if_neg (by decide), if_neg (by decide), if_pos rfl]), rfl⟩ dX2_count_105
set_option maxHeartbeats 4000000 in
set_option maxRecDepth 100000 in
theorem kX2_bestCorner (l : Launch) (D : va_G) (ad : Nat → Nat → Nat) (cs : Nat → ClassId) (A : Nat → Prop) (z : Nat → Nat) (μ : Mm) (M : CV) (V : CV) (N : Nat) (hw : Rw V N (M 1)) (hci : CI V N) (a : Nat) (ha : V 1 0 = nI a) (ha11 : a ≤ 11) (x : Int32) : KI l D ad cs A z yX2_bestCorner wsX2_bestCorner (rm 5 114) [.ref (ad 11 0), .int x] (mb μ 11 M) (fun r μ1 => r = Rbes V a x ∧ μ1 = mb μ 11 M) := by
  refine KI_of (cc := cX2_bestCorner) (maxL := 2) (ret := (some .int)) (by decide) rfl (Nat.le_of_ble_eq_true rfl) ?_
  intro p e s m args below meth c hr hlk X
  show J p l e _ s m args below meth c 0 0 _ 2 D ad cs A 0 [(0, .ref (ad 11 0)), (1, .int x)] [] (mb μ 11 M)
  have hN := hci.1.1
  have hN20 := hci.1.2.1
  refine j_aload_n (q := 0) X dX2_bestCorner_0 rfl rfl ?_
  refine j_iload_n (q := 1) X dX2_bestCorner_1 rfl rfl ?_
  refine j_callVi (As := [.int x]) X (kX2_isName l D ad cs A z μ M V N hw hci x) oR rfl (cwV 1 X.1.2.2.2.2 gX2_bestCorner_X2_isName rfl rfl rfl (by decide +kernel) ⟨Nat.le_of_ble_eq_true rfl, Nat.le_of_ble_eq_true rfl⟩) rfl rfl (Nat.le_of_ble_eq_true rfl) dX2_bestCorner_2 (fun r2 μ2 h2 => ?_)
  obtain ⟨h2, rfl⟩ := h2
  refine j_if_eq (tgt := 16) X dX2_bestCorner_5 (by decide) (fun c5 => ?_) (fun c5 => ?_)
  · skip
    have h2 := h2.f c5
    refine j_iconst (v := (-1)) X dX2_bestCorner_16 (by decide) ?_
    exact j_iret X hr hlk ⟨by rw [Rbes, if_pos h2]; try rfl, rfl⟩ dX2_bestCorner_17
  · skip
    have h2 := h2.t c5
    have h2s := h2
    obtain ⟨n, hn, rfl⟩ := hasN_n hN hN20 h2
    refine j_aload_n (q := 0) X dX2_bestCorner_8 rfl rfl ?_
    refine j_iload_n (q := 1) X dX2_bestCorner_9 rfl rfl ?_
    refine j_callVi (As := [.int (nI n)]) X (kX2_lowest l D ad cs A z μ M V N hw hci a ha ha11 n hn) oR rfl (cwV 1 X.1.2.2.2.2 gX2_bestCorner_X2_lowest rfl rfl rfl (by decide +kernel) ⟨Nat.le_of_ble_eq_true rfl, Nat.le_of_ble_eq_true rfl⟩) rfl rfl (Nat.le_of_ble_eq_true rfl) dX2_bestCorner_10 (fun r10 μ10 h10 => ?_)
    obtain ⟨h10, rfl⟩ := h10
    rw [h10]
    refine j_goto (tgt := 17) X dX2_bestCorner_13 (by decide) ?_
    exact j_iret X hr hlk ⟨by rw [Rbes, if_neg (Classical.not_not.mpr h2s), ix_n (by omega)], rfl⟩ dX2_bestCorner_17
theorem nb_zero {V : CV} {x : Int32} : ∀ k, (∀ c, c < k → V 10 c ≠ x) → nb V x k = 0
  | 0, _ => rfl
  | k + 1, h => by rw [nb, if_neg (h k (by omega)), nb_zero k (fun c hc => h c (by omega))]
theorem wh_1 {W : CV} {N n : Nat} (hci : CI W N) (hn : n < N) : wh W n = nI 1 ↔ 0 < nb W (nI n) 12 := by
  rw [wh]
  by_cases h8 : W 8 n = 0
  · rw [if_pos h8]
    by_cases q : 0 < nb W (nI n) 12
    · rw [if_pos q]; exact ⟨fun _ => q, fun _ => rfl⟩
    · rw [if_neg q]; exact ⟨fun z => absurd z (by decide), fun z => absurd z q⟩
  · rw [if_neg h8, nb_zero 12 (hci.2.2.1.2 n hn h8)]
    exact ⟨fun z => absurd z (by decide), fun z => absurd z (by decide)⟩
theorem RM.back {M M2 V : CV} {N h : Nat} {hc : Nat → CV} {nh : Nat → Nat} {s0 s1 : CV} {n0 n1 : Nat} {u : Nat → Int32} {pl : Nat} {pd : Nat → Int32} (q : RM M V N h hc nh s0 s1 n0 n1 u pl pd) (hk : ∀ k, k ≠ 1 → M2 k = rcp M 2 1 322 k) : RM (rcp M2 1 2 322) V N h hc nh s0 s1 n0 n1 u pl pd := by
  have e0 : ∀ k, k ≠ 1 → k ≠ 2 → rcp M2 1 2 322 k = M k := fun k h1 h2 => by rw [rcp, uc_n h1, hk k h1, rcp, uc_n h2]
  refine q.oth (fun k hk2 => ?_) (fun j _ _ => by rw [e0 0 (by decide) (by decide)]) (fun k hk2 => e0 k (by omega) (by omega))
  rw [rcp, uc_s, if_pos hk2, hk 2 (by decide), rcp, uc_s, if_pos hk2]
theorem kept_row {M : CV} : rcp M 2 1 322 1 = M 1 := by rw [rcp, uc_n (by decide)]
theorem kept_at {M M2 : CV} (hk : ∀ k, k ≠ 1 → M2 k = rcp M 2 1 322 k) {j : Nat} (hj : j < 322) : M2 2 j = M 1 j := by rw [hk 2 (by decide), rcp, uc_s, if_pos hj]
set_option maxHeartbeats 4000000 in
set_option maxRecDepth 100000 in
theorem kX2_untilB (l : Launch) (D : va_G) (ad : Nat → Nat → Nat) (cs : Nat → ClassId) (A : Nat → Prop) (z : Nat → Nat) (μ : Mm) (M : CV) (V : CV) (N h : Nat) (hc : Nat → CV) (nh : Nat → Nat) (s0 s1 : CV) (n0 n1 : Nat) (u : Nat → Int32) (pl : Nat) (pd : Nat → Int32) (hm : RM M V N h hc nh s0 s1 n0 n1 u pl pd) (hci : CI V N) (a P : Nat) (hpd : PD V a N P) (n : Nat) (hn : n < N) : KI l D ad cs A z yX2_until wsX2_until (rm 7 159) [.ref (ad 11 0), .int (nI n)] (mb μ 11 M) (fun r μ1 => ∃ M1, μ1 = mb μ 11 M1 ∧ r = utl (bof V a N P (nI n)) ∧ RM M1 V N h hc nh s0 s1 n0 n1 u pl pd) := by
  refine KI_of (cc := cX2_until) (maxL := 3) (ret := (some .int)) (by decide) rfl (Nat.le_of_ble_eq_true rfl) ?_
  intro p e s m args below meth c hr hlk X
  show J p l e _ s m args below meth c 0 0 _ 3 D ad cs A 0 [(0, .ref (ad 11 0)), (1, .int (nI n))] [] (mb μ 11 M)
  have hN := hci.1.1
  have hN20 := hci.1.2.1
  have hw := hm.1.1
  refine j_aload_n (q := 0) X dX2_until_0 rfl rfl ?_
  refine j_callVv (As := []) X (kX2_keeps l D ad cs A z μ M) oR rfl (cwV 0 X.1.2.2.2.2 gX2_until_X2_keeps rfl rfl rfl (by decide +kernel) ⟨Nat.le_of_ble_eq_true rfl, Nat.le_of_ble_eq_true rfl⟩) rfl rfl (Nat.le_of_ble_eq_true rfl) dX2_until_1 (fun μ1 h1 => ?_)
  subst h1
  refine j_iconst (v := (nI 0)) X dX2_until_4 (by decide) ?_
  refine j_istore_n (lv' := [(2, .int (nI 0)), (0, .ref (ad 11 0)), (1, .int (nI n))]) X dX2_until_5 rfl (by decide) rfl ?_
  refine j_lv [0, 2, 1] rfl ?_
  refine jl2 (G := J p l e _ s m args below meth c 0 0 _ _ D ad cs A) (pc := 6) (fun (i : Nat) (M2 : CV) => [(2, .int (nI i)), (1, .int (nI n)), (0, .ref (ad 11 0))]) (fun (i : Nat) (M2 : CV) => (mb μ 11 M2)) (fun (i : Nat) (M2 : CV) => i ≤ 301 ∧ Rw (days V a N P i) N (M2 1) ∧ (∀ k, k ≠ 1 → M2 k = rcp M 2 1 322 k) ∧ lw (bof V a N P (nI n)) i = i) (fun (i : Nat) (M2 : CV) => 301 - i) ?_ 0 (rcp M 2 1 322) ⟨by omega, by rw [kept_row]; exact hw, fun _ _ => rfl, rfl⟩
  intro i M2 hI6 ih6
  try dsimp only at ih6 ⊢
  obtain ⟨hi, hw2, hk2, hl⟩ := hI6
  refine j_iload_n (q := 0) X dX2_until_6 rfl rfl ?_
  refine j_sipush (v := (nI 300)) X dX2_until_7 (by decide) ?_
  refine j_ncmp_gt (tgt := 51) X i 300 dX2_until_10 (by decide) rfl rfl (by omega) (by omega) (fun c10 => ?_) (fun c10 => ?_)
  · skip
    refine j_aload_n (q := 2) X dX2_until_51 rfl rfl ?_
    refine j_callVv (As := []) X (kX2_comesBack l D ad cs A z μ M2) oR rfl (cwV 0 X.1.2.2.2.2 gX2_until_X2_comesBack rfl rfl rfl (by decide +kernel) ⟨Nat.le_of_ble_eq_true rfl, Nat.le_of_ble_eq_true rfl⟩) rfl rfl (Nat.le_of_ble_eq_true rfl) dX2_until_52 (fun μ52 h52 => ?_)
    subst h52
    refine j_iload_n (q := 0) X dX2_until_55 rfl rfl ?_
    refine j_sipush (v := (nI 300)) X dX2_until_56 (by decide) ?_
    refine j_ncmp_le (tgt := 67) X i 300 dX2_until_59 (by decide) rfl rfl (by omega) (by omega) (fun c59 => absurd c59 (by omega)) (fun c59 => ?_)
    refine j_bipush (v := (-6)) X dX2_until_62 (by decide) ?_
    refine j_goto (tgt := 68) X dX2_until_64 (by decide) ?_
    exact j_iret X hr hlk ⟨_, rfl, by rw [utl, if_neg (show ¬ _ < 301 by rw [show i = 301 by omega] at hl; omega)]; try rfl, hm.back hk2⟩ dX2_until_68
  · skip
    refine j_iload_n (q := 1) X dX2_until_13 rfl rfl ?_
    refine j_bipush (v := (-6)) X dX2_until_14 (by decide) ?_
    refine j_icmp_ne (tgt := 32) X dX2_until_16 (by decide) (fun c16 => ?_) (fun c16 => absurd (Classical.not_not.mp c16) (n6 (by omega)))
    refine j_aload_n (q := 2) X dX2_until_32 rfl rfl ?_
    refine j_iload_n (q := 1) X dX2_until_33 rfl rfl ?_
    refine j_callVi (As := [.int (nI n)]) X (kX2_whereIs l D ad cs A z μ M2 (days V a N P i) N hw2 (hci.daysk i) n hn) oR rfl (cwV 1 X.1.2.2.2.2 gX2_until_X2_whereIs rfl rfl rfl (by decide +kernel) ⟨Nat.le_of_ble_eq_true rfl, Nat.le_of_ble_eq_true rfl⟩) rfl rfl (Nat.le_of_ble_eq_true rfl) dX2_until_34 (fun r34 μ34 h34 => ?_)
    obtain ⟨h34, rfl⟩ := h34
    rw [h34]
    refine j_iconst (v := (nI 1)) X dX2_until_37 (by decide) ?_
    refine j_icmp_eq (tgt := 51) X dX2_until_38 (by decide) (fun c38 => ?_) (fun c38 => ?_)
    · skip
      have hf : bof V a N P (nI n) i = 0 := bof_y ((wh_1 (hci.daysk i) hn).mp c38)
      refine j_aload_n (q := 2) X dX2_until_51 rfl rfl ?_
      refine j_callVv (As := []) X (kX2_comesBack l D ad cs A z μ M2) oR rfl (cwV 0 X.1.2.2.2.2 gX2_until_X2_comesBack rfl rfl rfl (by decide +kernel) ⟨Nat.le_of_ble_eq_true rfl, Nat.le_of_ble_eq_true rfl⟩) rfl rfl (Nat.le_of_ble_eq_true rfl) dX2_until_52 (fun μ52 h52 => ?_)
      subst h52
      refine j_iload_n (q := 0) X dX2_until_55 rfl rfl ?_
      refine j_sipush (v := (nI 300)) X dX2_until_56 (by decide) ?_
      refine j_ncmp_le (tgt := 67) X i 300 dX2_until_59 (by decide) rfl rfl (by omega) (by omega) (fun c59 => ?_) (fun c59 => absurd (show i ≤ 300 by omega) c59)
      refine j_iload_n (q := 0) X dX2_until_67 rfl rfl ?_
      exact j_iret X hr hlk ⟨_, rfl, by rw [utl, lw_hit hl hf 301 (by omega), if_pos (show i < 301 by omega)], hm.back hk2⟩ dX2_until_68
    · skip
      have hf : bof V a N P (nI n) i ≠ 0 := bof_n (fun q => c38 ((wh_1 (hci.daysk i) hn).mpr q))
      refine j_aload_n (q := 2) X dX2_until_41 rfl rfl ?_
      refine j_callVv (As := []) X (kX2_day l D ad cs A z μ M2 (days V a N P i) N hw2 (hci.daysk i) a P (hpd.days i)) oR rfl (cwV 0 X.1.2.2.2.2 gX2_until_X2_day rfl rfl rfl (by decide +kernel) ⟨Nat.le_of_ble_eq_true rfl, Nat.le_of_ble_eq_true rfl⟩) rfl rfl (Nat.le_of_ble_eq_true rfl) dX2_until_42 (fun μ42 h42 => ?_)
      obtain ⟨M3, rfl, hw3, hk3⟩ := h42
      refine j_iinc (q := 0) (v := (nI (i + 1))) (lv' := [(2, .int (nI (i + 1))), (1, .int (nI n)), (0, .ref (ad 11 0))]) X dX2_until_45 rfl (nI_1 _) (by decide) rfl ?_
      refine j_goto (tgt := 6) X dX2_until_48 (by decide) ?_
      exact ih6 (i + 1) M3 ⟨by omega, hw3, fun k hk => (hk3 k hk).trans (hk2 k hk), lw_go hl hf⟩ (by omega)
set_option maxHeartbeats 4000000 in
set_option maxRecDepth 100000 in
theorem kX2_untilP (l : Launch) (D : va_G) (ad : Nat → Nat → Nat) (cs : Nat → ClassId) (A : Nat → Prop) (z : Nat → Nat) (μ : Mm) (M : CV) (V : CV) (N h : Nat) (hc : Nat → CV) (nh : Nat → Nat) (s0 s1 : CV) (n0 n1 : Nat) (u : Nat → Int32) (pl : Nat) (pd : Nat → Int32) (hm : RM M V N h hc nh s0 s1 n0 n1 u pl pd) (hci : CI V N) (a P : Nat) (hpd : PD V a N P) : KI l D ad cs A z yX2_until wsX2_until (rm 7 159) [.ref (ad 11 0), .int (-6)] (mb μ 11 M) (fun r μ1 => ∃ M1, μ1 = mb μ 11 M1 ∧ r = utl (pof V a N P) ∧ RM M1 V N h hc nh s0 s1 n0 n1 u pl pd) := by
  refine KI_of (cc := cX2_until) (maxL := 3) (ret := (some .int)) (by decide) rfl (Nat.le_of_ble_eq_true rfl) ?_
  intro p e s m args below meth c hr hlk X
  show J p l e _ s m args below meth c 0 0 _ 3 D ad cs A 0 [(0, .ref (ad 11 0)), (1, .int (-6))] [] (mb μ 11 M)
  have hN := hci.1.1
  have hN20 := hci.1.2.1
  have hw := hm.1.1
  refine j_aload_n (q := 0) X dX2_until_0 rfl rfl ?_
  refine j_callVv (As := []) X (kX2_keeps l D ad cs A z μ M) oR rfl (cwV 0 X.1.2.2.2.2 gX2_until_X2_keeps rfl rfl rfl (by decide +kernel) ⟨Nat.le_of_ble_eq_true rfl, Nat.le_of_ble_eq_true rfl⟩) rfl rfl (Nat.le_of_ble_eq_true rfl) dX2_until_1 (fun μ1 h1 => ?_)
  subst h1
  refine j_iconst (v := (nI 0)) X dX2_until_4 (by decide) ?_
  refine j_istore_n (lv' := [(2, .int (nI 0)), (0, .ref (ad 11 0)), (1, .int (-6))]) X dX2_until_5 rfl (by decide) rfl ?_
  refine j_lv [0, 2, 1] rfl ?_
  refine jl2 (G := J p l e _ s m args below meth c 0 0 _ _ D ad cs A) (pc := 6) (fun (i : Nat) (M2 : CV) => [(2, .int (nI i)), (1, .int (-6)), (0, .ref (ad 11 0))]) (fun (i : Nat) (M2 : CV) => (mb μ 11 M2)) (fun (i : Nat) (M2 : CV) => i ≤ 301 ∧ Rw (days V a N P i) N (M2 1) ∧ (∀ k, k ≠ 1 → M2 k = rcp M 2 1 322 k) ∧ lw (pof V a N P) i = i) (fun (i : Nat) (M2 : CV) => 301 - i) ?_ 0 (rcp M 2 1 322) ⟨by omega, by rw [kept_row]; exact hw, fun _ _ => rfl, rfl⟩
  intro i M2 hI6 ih6
  try dsimp only at ih6 ⊢
  obtain ⟨hi, hw2, hk2, hl⟩ := hI6
  refine j_iload_n (q := 0) X dX2_until_6 rfl rfl ?_
  refine j_sipush (v := (nI 300)) X dX2_until_7 (by decide) ?_
  refine j_ncmp_gt (tgt := 51) X i 300 dX2_until_10 (by decide) rfl rfl (by omega) (by omega) (fun c10 => ?_) (fun c10 => ?_)
  · skip
    refine j_aload_n (q := 2) X dX2_until_51 rfl rfl ?_
    refine j_callVv (As := []) X (kX2_comesBack l D ad cs A z μ M2) oR rfl (cwV 0 X.1.2.2.2.2 gX2_until_X2_comesBack rfl rfl rfl (by decide +kernel) ⟨Nat.le_of_ble_eq_true rfl, Nat.le_of_ble_eq_true rfl⟩) rfl rfl (Nat.le_of_ble_eq_true rfl) dX2_until_52 (fun μ52 h52 => ?_)
    subst h52
    refine j_iload_n (q := 0) X dX2_until_55 rfl rfl ?_
    refine j_sipush (v := (nI 300)) X dX2_until_56 (by decide) ?_
    refine j_ncmp_le (tgt := 67) X i 300 dX2_until_59 (by decide) rfl rfl (by omega) (by omega) (fun c59 => absurd c59 (by omega)) (fun c59 => ?_)
    refine j_bipush (v := (-6)) X dX2_until_62 (by decide) ?_
    refine j_goto (tgt := 68) X dX2_until_64 (by decide) ?_
    exact j_iret X hr hlk ⟨_, rfl, by rw [utl, if_neg (show ¬ _ < 301 by rw [show i = 301 by omega] at hl; omega)]; try rfl, hm.back hk2⟩ dX2_until_68
  · skip
    refine j_iload_n (q := 1) X dX2_until_13 rfl rfl ?_
    refine j_bipush (v := (-6)) X dX2_until_14 (by decide) ?_
    refine j_icmp_ne (tgt := 32) X dX2_until_16 (by decide) (fun c16 => absurd rfl c16) (fun c16 => ?_)
    refine j_aload_n (q := 2) X dX2_until_19 rfl rfl ?_
    refine j_sipush (v := (nI 261)) X dX2_until_20 (by decide) ?_
    refine j_callVi (As := [.int (nI 261)]) X (kX2_sum l D ad cs A z μ M2 261 (by decide)) oR rfl (cwV 1 X.1.2.2.2.2 gX2_until_X2_sum rfl rfl rfl (by decide +kernel) ⟨Nat.le_of_ble_eq_true rfl, Nat.le_of_ble_eq_true rfl⟩) rfl rfl (Nat.le_of_ble_eq_true rfl) dX2_until_23 (fun r23 μ23 h23 => ?_)
    obtain ⟨h23, rfl⟩ := h23
    rw [sm_cong (f := fun c => M2 1 (261 + c)) (g := (days V a N P i) 11) 12 (fun k hk => hw2.ow hk)] at h23
    rw [h23]
    refine j_if_ne (tgt := 41) X dX2_until_26 (by decide) (fun c26 => ?_) (fun c26 => ?_)
    · skip
      have hf : pof V a N P i ≠ 0 := pof_n c26
      refine j_aload_n (q := 2) X dX2_until_41 rfl rfl ?_
      refine j_callVv (As := []) X (kX2_day l D ad cs A z μ M2 (days V a N P i) N hw2 (hci.daysk i) a P (hpd.days i)) oR rfl (cwV 0 X.1.2.2.2.2 gX2_until_X2_day rfl rfl rfl (by decide +kernel) ⟨Nat.le_of_ble_eq_true rfl, Nat.le_of_ble_eq_true rfl⟩) rfl rfl (Nat.le_of_ble_eq_true rfl) dX2_until_42 (fun μ42 h42 => ?_)
      obtain ⟨M3, rfl, hw3, hk3⟩ := h42
      refine j_iinc (q := 0) (v := (nI (i + 1))) (lv' := [(2, .int (nI (i + 1))), (1, .int (-6)), (0, .ref (ad 11 0))]) X dX2_until_45 rfl (nI_1 _) (by decide) rfl ?_
      refine j_goto (tgt := 6) X dX2_until_48 (by decide) ?_
      exact ih6 (i + 1) M3 ⟨by omega, hw3, fun k hk => (hk3 k hk).trans (hk2 k hk), lw_go hl hf⟩ (by omega)
    · skip
      have hf : pof V a N P i = 0 := pof_y (Classical.not_not.mp c26)
      refine j_goto (tgt := 51) X dX2_until_29 (by decide) ?_
      refine j_aload_n (q := 2) X dX2_until_51 rfl rfl ?_
      refine j_callVv (As := []) X (kX2_comesBack l D ad cs A z μ M2) oR rfl (cwV 0 X.1.2.2.2.2 gX2_until_X2_comesBack rfl rfl rfl (by decide +kernel) ⟨Nat.le_of_ble_eq_true rfl, Nat.le_of_ble_eq_true rfl⟩) rfl rfl (Nat.le_of_ble_eq_true rfl) dX2_until_52 (fun μ52 h52 => ?_)
      subst h52
      refine j_iload_n (q := 0) X dX2_until_55 rfl rfl ?_
      refine j_sipush (v := (nI 300)) X dX2_until_56 (by decide) ?_
      refine j_ncmp_le (tgt := 67) X i 300 dX2_until_59 (by decide) rfl rfl (by omega) (by omega) (fun c59 => ?_) (fun c59 => absurd (show i ≤ 300 by omega) c59)
      refine j_iload_n (q := 0) X dX2_until_67 rfl rfl ?_
      exact j_iret X hr hlk ⟨_, rfl, by rw [utl, lw_hit hl hf 301 (by omega), if_pos (show i < 301 by omega)], hm.back hk2⟩ dX2_until_68
set_option maxHeartbeats 4000000 in
set_option maxRecDepth 100000 in
theorem kX2_untilBorne (l : Launch) (D : va_G) (ad : Nat → Nat → Nat) (cs : Nat → ClassId) (A : Nat → Prop) (z : Nat → Nat) (μ : Mm) (M : CV) (V : CV) (N h : Nat) (hc : Nat → CV) (nh : Nat → Nat) (s0 s1 : CV) (n0 n1 : Nat) (u : Nat → Int32) (pl : Nat) (pd : Nat → Int32) (hm : RM M V N h hc nh s0 s1 n0 n1 u pl pd) (hci : CI V N) (a P : Nat) (hpd : PD V a N P) (x : Int32) : KI l D ad cs A z yX2_untilBorne wsX2_untilBorne (rm 8 181) [.ref (ad 11 0), .int x] (mb μ 11 M) (fun r μ1 => ∃ M1, μ1 = mb μ 11 M1 ∧ r = Rubo V a N P x ∧ RM M1 V N h hc nh s0 s1 n0 n1 u pl pd) := by
  refine KI_of (cc := cX2_untilBorne) (maxL := 2) (ret := (some .int)) (by decide) rfl (Nat.le_of_ble_eq_true rfl) ?_
  intro p e s m args below meth c hr hlk X
  show J p l e _ s m args below meth c 0 0 _ 2 D ad cs A 0 [(0, .ref (ad 11 0)), (1, .int x)] [] (mb μ 11 M)
  have hN := hci.1.1
  have hN20 := hci.1.2.1
  have hw := hm.1.1
  refine j_aload_n (q := 0) X dX2_untilBorne_0 rfl rfl ?_
  refine j_iload_n (q := 1) X dX2_untilBorne_1 rfl rfl ?_
  refine j_callVi (As := [.int x]) X (kX2_isName l D ad cs A z μ M V N hw hci x) oR rfl (cwV 1 X.1.2.2.2.2 gX2_untilBorne_X2_isName rfl rfl rfl (by decide +kernel) ⟨Nat.le_of_ble_eq_true rfl, Nat.le_of_ble_eq_true rfl⟩) rfl rfl (Nat.le_of_ble_eq_true rfl) dX2_untilBorne_2 (fun r2 μ2 h2 => ?_)
  obtain ⟨h2, rfl⟩ := h2
  refine j_if_eq (tgt := 16) X dX2_untilBorne_5 (by decide) (fun c5 => ?_) (fun c5 => ?_)
  · skip
    have h2 := h2.f c5
    refine j_iconst (v := (-1)) X dX2_untilBorne_16 (by decide) ?_
    exact j_iret X hr hlk ⟨M, rfl, by rw [Rubo, if_pos h2]; try rfl, hm⟩ dX2_untilBorne_17
  · skip
    have h2 := h2.t c5
    have h2s := h2
    obtain ⟨n, hn, rfl⟩ := hasN_n hN hN20 h2
    refine j_aload_n (q := 0) X dX2_untilBorne_8 rfl rfl ?_
    refine j_iload_n (q := 1) X dX2_untilBorne_9 rfl rfl ?_
    refine j_callVi (As := [.int (nI n)]) X (kX2_untilB l D ad cs A z μ M V N h hc nh s0 s1 n0 n1 u pl pd hm hci a P hpd n hn) oR rfl (cwV 1 X.1.2.2.2.2 gX2_untilBorne_X2_until rfl rfl rfl (by decide +kernel) ⟨Nat.le_of_ble_eq_true rfl, Nat.le_of_ble_eq_true rfl⟩) rfl rfl (Nat.le_of_ble_eq_true rfl) dX2_untilBorne_10 (fun r10 μ10 h10 => ?_)
    obtain ⟨M1, rfl, h10, hm1⟩ := h10
    rw [h10]
    refine j_goto (tgt := 17) X dX2_untilBorne_13 (by decide) ?_
    exact j_iret X hr hlk ⟨M1, rfl, by rw [Rubo, if_neg (Classical.not_not.mpr h2s)], hm1⟩ dX2_untilBorne_17
set_option maxHeartbeats 4000000 in
set_option maxRecDepth 100000 in
theorem kX2_untilPosted (l : Launch) (D : va_G) (ad : Nat → Nat → Nat) (cs : Nat → ClassId) (A : Nat → Prop) (z : Nat → Nat) (μ : Mm) (M : CV) (V : CV) (N h : Nat) (hc : Nat → CV) (nh : Nat → Nat) (s0 s1 : CV) (n0 n1 : Nat) (u : Nat → Int32) (pl : Nat) (pd : Nat → Int32) (hm : RM M V N h hc nh s0 s1 n0 n1 u pl pd) (hci : CI V N) (a P : Nat) (hpd : PD V a N P) : KI l D ad cs A z yX2_untilPosted wsX2_untilPosted (rm 8 181) [.ref (ad 11 0)] (mb μ 11 M) (fun r μ1 => ∃ M1, μ1 = mb μ 11 M1 ∧ r = utl (pof V a N P) ∧ RM M1 V N h hc nh s0 s1 n0 n1 u pl pd) := by
  refine KI_of (cc := cX2_untilPosted) (maxL := 1) (ret := (some .int)) (by decide) rfl (Nat.le_of_ble_eq_true rfl) ?_
  intro p e s m args below meth c hr hlk X
  show J p l e _ s m args below meth c 0 0 _ 1 D ad cs A 0 [(0, .ref (ad 11 0))] [] (mb μ 11 M)
  have hN := hci.1.1
  have hN20 := hci.1.2.1
  have hw := hm.1.1
  refine j_aload_n (q := 0) X dX2_untilPosted_0 rfl rfl ?_
  refine j_bipush (v := (-6)) X dX2_untilPosted_1 (by decide) ?_
  refine j_callVi (As := [.int (-6)]) X (kX2_untilP l D ad cs A z μ M V N h hc nh s0 s1 n0 n1 u pl pd hm hci a P hpd) oR rfl (cwV 1 X.1.2.2.2.2 gX2_untilPosted_X2_until rfl rfl rfl (by decide +kernel) ⟨Nat.le_of_ble_eq_true rfl, Nat.le_of_ble_eq_true rfl⟩) rfl rfl (Nat.le_of_ble_eq_true rfl) dX2_untilPosted_3 (fun r3 μ3 h3 => ?_)
  obtain ⟨M1, rfl, h3, hm1⟩ := h3
  rw [h3]
  exact j_iret X hr hlk ⟨M1, rfl, rfl, hm1⟩ dX2_untilPosted_6
set_option maxHeartbeats 4000000 in
set_option maxRecDepth 100000 in
theorem kX2_ifPassed (l : Launch) (D : va_G) (ad : Nat → Nat → Nat) (cs : Nat → ClassId) (A : Nat → Prop) (z : Nat → Nat) (μ : Mm) (M : CV) (V : CV) (N h : Nat) (hc : Nat → CV) (nh : Nat → Nat) (s0 s1 : CV) (n0 n1 : Nat) (u : Nat → Int32) (pl : Nat) (pd : Nat → Int32) (hm : RM M V N h hc nh s0 s1 n0 n1 u pl pd) (hci : CI V N) (a P : Nat) (hpd : PD V a N P) (dx w : Int32) : KI l D ad cs A z yX2_ifPassed wsX2_ifPassed (rm 7 159) [.ref (ad 11 0), .int dx, .int w] (mb μ 11 M) (fun r μ1 => ∃ M1, μ1 = mb μ 11 M1 ∧ r = Rifp V a N P dx w ∧ RM M1 V N h hc nh s0 s1 n0 n1 u pl pd) := by
  refine KI_of (cc := cX2_ifPassed) (maxL := 4) (ret := (some .int)) (by decide) rfl (Nat.le_of_ble_eq_true rfl) ?_
  intro p e s m args below meth c hr hlk X
  show J p l e _ s m args below meth c 0 0 _ 4 D ad cs A 0 [(0, .ref (ad 11 0)), (1, .int dx), (2, .int w)] [] (mb μ 11 M)
  have hinX2 : ∀ w ∈ wsX20, w ∈ wsX2_ifPassed := by decide +kernel
  have k7 : (Cond.fieldLink RX2 7 "PunCourtsModel" "all" "[I").before args s = true := X.1.2.2.2.2 _ (by decide +kernel)
  have k13 : (Cond.fieldLink RX2 13 "PunCourtsModel" "kept" "[I").before args s = true := X.1.2.2.2.2 _ (by decide +kernel)
  have hN := hci.1.1
  have hN20 := hci.1.2.1
  have hw := hm.1.1
  refine j_iload_n (q := 1) X dX2_ifPassed_0 rfl rfl ?_
  refine j_i2l (v := dx.toInt64) X dX2_ifPassed_1 rfl ?_
  refine j_lconst (v := lN 1) X dX2_ifPassed_2 (by decide) ?_
  refine j_ldc2 (v := lN 300) X (X.1.2.2.2.2 _ (by decide +kernel)) dX2_ifPassed_3 ?_
  refine j_callSi (As := [.long dx.toInt64, .long (lN 1), .long (lN 300)]) X (kX2_in l D ad cs A z μ M (dx.toInt64) (lN 1) (lN 300)) (va_cwS 3 X.1.2.2.2.2 gX2_ifPassed_X2_in rfl rfl rfl (by decide +kernel) ⟨Nat.le_of_ble_eq_true rfl, Nat.le_of_ble_eq_true rfl⟩) rfl rfl (Nat.le_of_ble_eq_true rfl) dX2_ifPassed_6 (fun r6 μ6 h6 => ?_)
  obtain ⟨h6, rfl⟩ := h6
  refine j_if_eq (tgt := 24) X dX2_ifPassed_9 (by decide) (fun c9 => ?_) (fun c9 => ?_)
  · skip
    have ho : ¬ (okD dx 300 ∧ 0 ≤ w ∧ w ≤ nI 2) := fun q => h6.f c9 ((in_64 (by decide) (by decide)).mpr q.1)
    refine j_bipush (v := (-2)) X dX2_ifPassed_24 (by decide) ?_
    exact j_iret X hr hlk ⟨M, rfl, by rw [Rifp, if_pos ho], hm⟩ dX2_ifPassed_26
  · skip
    have hod : okD dx 300 := (in_64 (by decide) (by decide)).mp (h6.t c9)
    refine j_iload_n (q := 2) X dX2_ifPassed_12 rfl rfl ?_
    refine j_i2l (v := w.toInt64) X dX2_ifPassed_13 rfl ?_
    refine j_lconst (v := lN 0) X dX2_ifPassed_14 (by decide) ?_
    refine j_ldc2 (v := lN 2) X (X.1.2.2.2.2 _ (by decide +kernel)) dX2_ifPassed_15 ?_
    refine j_callSi (As := [.long w.toInt64, .long (lN 0), .long (lN 2)]) X (kX2_in l D ad cs A z μ M (w.toInt64) (lN 0) (lN 2)) (va_cwS 3 X.1.2.2.2.2 gX2_ifPassed_X2_in rfl rfl rfl (by decide +kernel) ⟨Nat.le_of_ble_eq_true rfl, Nat.le_of_ble_eq_true rfl⟩) rfl rfl (Nat.le_of_ble_eq_true rfl) dX2_ifPassed_18 (fun r18 μ18 h18 => ?_)
    obtain ⟨h18, rfl⟩ := h18
    refine j_if_ne (tgt := 27) X dX2_ifPassed_21 (by decide) (fun c21 => ?_) (fun c21 => ?_)
    · skip
      have how := (in_64 (by decide) (by decide)).mp (h18.nt c21)
      have ho : okD dx 300 ∧ 0 ≤ w ∧ w ≤ nI 2 := ⟨hod, how⟩
      obtain ⟨k, hk1, hk2, rfl⟩ := rng_n hod.1 hod.2 (by decide) (by decide)
      refine j_aload_n (q := 0) X dX2_ifPassed_27 rfl rfl ?_
      refine j_callVv (As := []) X (kX2_keeps l D ad cs A z μ M) oR rfl (cwV 0 X.1.2.2.2.2 gX2_ifPassed_X2_keeps rfl rfl rfl (by decide +kernel) ⟨Nat.le_of_ble_eq_true rfl, Nat.le_of_ble_eq_true rfl⟩) rfl rfl (Nat.le_of_ble_eq_true rfl) dX2_ifPassed_28 (fun μ28 h28 => ?_)
      subst h28
      refine j_iconst (v := (nI 0)) X dX2_ifPassed_31 (by decide) ?_
      refine j_istore_n (lv' := [(3, .int (nI 0)), (0, .ref (ad 11 0)), (1, .int (nI k)), (2, .int w)]) X dX2_ifPassed_32 rfl (by decide) rfl ?_
      refine j_lv [0, 3, 2, 1] rfl ?_
      refine jl2 (G := J p l e _ s m args below meth c 0 0 _ _ D ad cs A) (pc := 33) (fun (i : Nat) (M2 : CV) => [(3, .int (nI i)), (2, .int w), (1, .int (nI k)), (0, .ref (ad 11 0))]) (fun (i : Nat) (M2 : CV) => (mb μ 11 M2)) (fun (i : Nat) (M2 : CV) => i ≤ k ∧ Rw (days V a N P i) N (M2 1) ∧ ∀ q, q ≠ 1 → M2 q = rcp M 2 1 322 q) (fun (i : Nat) (M2 : CV) => k - i) ?_ 0 (rcp M 2 1 322) ⟨by omega, by rw [kept_row]; exact hw, fun _ _ => rfl⟩
      intro i M2 hI33 ih33
      try dsimp only at ih33 ⊢
      obtain ⟨hi, hw2, hk2⟩ := hI33
      refine j_iload_n (q := 0) X dX2_ifPassed_33 rfl rfl ?_
      refine j_iload_n (q := 2) X dX2_ifPassed_34 rfl rfl ?_
      refine j_ncmp_ge (tgt := 48) X i k dX2_ifPassed_35 (by decide) rfl rfl (by omega) (by omega) (fun c35 => ?_) (fun c35 => ?_)
      · skip
        rw [show i = k by omega] at hw2
        refine j_iload_n (q := 1) X dX2_ifPassed_48 rfl rfl ?_
        refine j_if_ne (tgt := 70) X dX2_ifPassed_49 (by decide) (fun c49 => ?_) (fun c49 => ?_)
        · skip
          refine j_iload_n (q := 1) X dX2_ifPassed_70 rfl rfl ?_
          refine j_iconst (v := (nI 1)) X dX2_ifPassed_71 (by decide) ?_
          refine j_icmp_ne (tgt := 93) X dX2_ifPassed_72 (by decide) (fun c72 => ?_) (fun c72 => ?_)
          · skip
            refine j_aload_n (q := 3) X dX2_ifPassed_93 rfl rfl ?_
            refine j_sipush (v := (nI 261)) X dX2_ifPassed_94 (by decide) ?_
            refine j_callVi (As := [.int (nI 261)]) X (kX2_sum l D ad cs A z μ M2 261 (by decide)) oR rfl (cwV 1 X.1.2.2.2.2 gX2_ifPassed_X2_sum rfl rfl rfl (by decide +kernel) ⟨Nat.le_of_ble_eq_true rfl, Nat.le_of_ble_eq_true rfl⟩) rfl rfl (Nat.le_of_ble_eq_true rfl) dX2_ifPassed_97 (fun r97 μ97 h97 => ?_)
            obtain ⟨h97, rfl⟩ := h97
            rw [sm_cong (f := fun c => M2 1 (261 + c)) (g := (days V a N P k) 11) 12 (fun k hk => hw2.ow hk)] at h97
            rw [h97]
            refine j_istore_n (lv' := [(3, .int (sm ((days V a N P k) 11) 12)), (2, .int w), (1, .int (nI k)), (0, .ref (ad 11 0))]) X dX2_ifPassed_100 rfl (by decide) rfl ?_
            refine j_aload_n (q := 3) X dX2_ifPassed_101 rfl rfl ?_
            refine j_callVv (As := []) X (kX2_comesBack l D ad cs A z μ M2) oR rfl (cwV 0 X.1.2.2.2.2 gX2_ifPassed_X2_comesBack rfl rfl rfl (by decide +kernel) ⟨Nat.le_of_ble_eq_true rfl, Nat.le_of_ble_eq_true rfl⟩) rfl rfl (Nat.le_of_ble_eq_true rfl) dX2_ifPassed_102 (fun μ102 h102 => ?_)
            subst h102
            refine j_iload_n (q := 0) X dX2_ifPassed_105 rfl rfl ?_
            exact j_iret X hr hlk ⟨_, rfl, by rw [Rifp, if_neg (Classical.not_not.mpr ho), ix_n (by omega), if_neg (show ¬ w = nI 0 from c49), if_neg c72], hm.back hk2⟩ dX2_ifPassed_106
          · skip
            refine j_aload_n (q := 3) X dX2_ifPassed_75 rfl rfl ?_
            refine j_getRB X oR hinX2 0 (by decide) rfl k7 dX2_ifPassed_76 ?_
            refine j_bipush (v := (nI 7)) X dX2_ifPassed_79 (by decide) ?_
            refine j_ialdB X aR_1 7 rfl (by decide) (by decide) dX2_ifPassed_81 ?_
            rw [hw2.su]
            refine j_aload_n (q := 3) X dX2_ifPassed_82 rfl rfl ?_
            refine j_getRB X oR hinX2 1 (by decide) rfl k13 dX2_ifPassed_83 ?_
            refine j_bipush (v := (nI 7)) X dX2_ifPassed_86 (by decide) ?_
            refine j_ialdB X aR_2 7 rfl (by decide) (by decide) dX2_ifPassed_88 ?_
            rw [kept_at hk2 (by decide), hw.su]
            refine j_isub (v := ((sm (days V a N P k 12) 12) - (sm (V 12) 12))) X dX2_ifPassed_89 rfl ?_
            refine j_goto (tgt := 100) X dX2_ifPassed_90 (by decide) ?_
            refine j_istore_n (lv' := [(3, .int ((sm (days V a N P k 12) 12) - (sm (V 12) 12))), (2, .int w), (1, .int (nI k)), (0, .ref (ad 11 0))]) X dX2_ifPassed_100 rfl (by decide) rfl ?_
            refine j_aload_n (q := 3) X dX2_ifPassed_101 rfl rfl ?_
            refine j_callVv (As := []) X (kX2_comesBack l D ad cs A z μ M2) oR rfl (cwV 0 X.1.2.2.2.2 gX2_ifPassed_X2_comesBack rfl rfl rfl (by decide +kernel) ⟨Nat.le_of_ble_eq_true rfl, Nat.le_of_ble_eq_true rfl⟩) rfl rfl (Nat.le_of_ble_eq_true rfl) dX2_ifPassed_102 (fun μ102 h102 => ?_)
            subst h102
            refine j_iload_n (q := 0) X dX2_ifPassed_105 rfl rfl ?_
            exact j_iret X hr hlk ⟨_, rfl, by rw [Rifp, if_neg (Classical.not_not.mpr ho), ix_n (by omega), if_neg (show ¬ w = nI 0 from c49), if_pos (Classical.not_not.mp c72)], hm.back hk2⟩ dX2_ifPassed_106
        · skip
          refine j_aload_n (q := 3) X dX2_ifPassed_52 rfl rfl ?_
          refine j_getRB X oR hinX2 0 (by decide) rfl k7 dX2_ifPassed_53 ?_
          refine j_bipush (v := (nI 8)) X dX2_ifPassed_56 (by decide) ?_
          refine j_ialdB X aR_1 8 rfl (by decide) (by decide) dX2_ifPassed_58 ?_
          rw [hw2.gi]
          refine j_aload_n (q := 3) X dX2_ifPassed_59 rfl rfl ?_
          refine j_getRB X oR hinX2 1 (by decide) rfl k13 dX2_ifPassed_60 ?_
          refine j_bipush (v := (nI 8)) X dX2_ifPassed_63 (by decide) ?_
          refine j_ialdB X aR_2 8 rfl (by decide) (by decide) dX2_ifPassed_65 ?_
          rw [kept_at hk2 (by decide), hw.gi]
          refine j_isub (v := (nI (dayn V a N P k))) X dX2_ifPassed_66 (by rw [sm_days hN20]; exact sub_add) ?_
          refine j_goto (tgt := 100) X dX2_ifPassed_67 (by decide) ?_
          refine j_istore_n (lv' := [(3, .int (nI (dayn V a N P k))), (2, .int w), (1, .int (nI k)), (0, .ref (ad 11 0))]) X dX2_ifPassed_100 rfl (by decide) rfl ?_
          refine j_aload_n (q := 3) X dX2_ifPassed_101 rfl rfl ?_
          refine j_callVv (As := []) X (kX2_comesBack l D ad cs A z μ M2) oR rfl (cwV 0 X.1.2.2.2.2 gX2_ifPassed_X2_comesBack rfl rfl rfl (by decide +kernel) ⟨Nat.le_of_ble_eq_true rfl, Nat.le_of_ble_eq_true rfl⟩) rfl rfl (Nat.le_of_ble_eq_true rfl) dX2_ifPassed_102 (fun μ102 h102 => ?_)
          subst h102
          refine j_iload_n (q := 0) X dX2_ifPassed_105 rfl rfl ?_
          exact j_iret X hr hlk ⟨_, rfl, by rw [Rifp, if_neg (Classical.not_not.mpr ho), ix_n (by omega), if_pos (show w = nI 0 from Classical.not_not.mp c49)], hm.back hk2⟩ dX2_ifPassed_106
      · skip
        refine j_aload_n (q := 3) X dX2_ifPassed_38 rfl rfl ?_
        refine j_callVv (As := []) X (kX2_day l D ad cs A z μ M2 (days V a N P i) N hw2 (hci.daysk i) a P (hpd.days i)) oR rfl (cwV 0 X.1.2.2.2.2 gX2_ifPassed_X2_day rfl rfl rfl (by decide +kernel) ⟨Nat.le_of_ble_eq_true rfl, Nat.le_of_ble_eq_true rfl⟩) rfl rfl (Nat.le_of_ble_eq_true rfl) dX2_ifPassed_39 (fun μ39 h39 => ?_)
        obtain ⟨M3, rfl, hw3, hk3⟩ := h39
        refine j_iinc (q := 0) (v := (nI (i + 1))) (lv' := [(3, .int (nI (i + 1))), (2, .int w), (1, .int (nI k)), (0, .ref (ad 11 0))]) X dX2_ifPassed_42 rfl (nI_1 _) (by decide) rfl ?_
        refine j_goto (tgt := 33) X dX2_ifPassed_45 (by decide) ?_
        exact ih33 (i + 1) M3 ⟨by omega, hw3, fun q hq => (hk3 q hq).trans (hk2 q hq)⟩ (by omega)
    · skip
      have ho : ¬ (okD dx 300 ∧ 0 ≤ w ∧ w ≤ nI 2) := fun q => h18.nf c21 ((in_64 (by decide) (by decide)).mpr q.2)
      refine j_bipush (v := (-2)) X dX2_ifPassed_24 (by decide) ?_
      exact j_iret X hr hlk ⟨M, rfl, by rw [Rifp, if_pos ho], hm⟩ dX2_ifPassed_26
