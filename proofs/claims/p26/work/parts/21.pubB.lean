set_option maxHeartbeats 4000000 in
set_option maxRecDepth 100000 in
theorem kX1_name (l : Launch) (D : va_G) (ad : Nat → Nat → Nat) (cs : Nat → ClassId) (A : Nat → Prop) (z : Nat → Nat) (μ : Mm) (V : CV) (h : Nat) (hc : Nat → CV) (s0 s1 : CV) (u : Nat → Int32) (pl : Nat) (pd : Nat → Int32) (hG : GS (mb μ 0 V) V h hc s0 s1 u pl pd) (N : Nat) (hci : CI V N) (x w : Int32) : KI l D ad cs A z yX1_name wsX1_name (rm 4 89) [.ref (ad 10 0), .int x, .int w] (mb μ 0 V) (fun r μ1 => r = Rnam V N x w ∧ μ1 = mb μ 0 V) := by
  refine KI_of (cc := cX1_name) (maxL := 3) (ret := (some .int)) (by decide) rfl (Nat.le_of_ble_eq_true rfl) ?_
  intro p e s m args below meth c hr hlk X
  show J p l e _ s m args below meth c 0 0 _ 3 D ad cs A 0 [(0, .ref (ad 10 0)), (1, .int x), (2, .int w)] [] (mb μ 0 V)
  have hinX0 : ∀ w ∈ wsX00, w ∈ wsX1_name := by decide +kernel
  have hinX1 : ∀ w ∈ wsX10, w ∈ wsX1_name := by decide +kernel
  have k10 : (Cond.fieldLink RX1 10 "PunCourts" "now" "LPunCourts$Court;").before args s = true := X.1.2.2.2.2 _ (by decide +kernel)
  have k73 : (Cond.fieldLink RX1 73 "PunCourts$Court" "honours" "[I").before args s = true := X.1.2.2.2.2 _ (by decide +kernel)
  have k125 : (Cond.fieldLink RX1 125 "PunCourts$Court" "sounds" "[I").before args s = true := X.1.2.2.2.2 _ (by decide +kernel)
  have k128 : (Cond.fieldLink RX1 128 "PunCourts$Court" "lengths" "[I").before args s = true := X.1.2.2.2.2 _ (by decide +kernel)
  have k131 : (Cond.fieldLink RX1 131 "PunCourts$Court" "nameGiven" "[I").before args s = true := X.1.2.2.2.2 _ (by decide +kernel)
  have hN := hci.1.1
  have hN20 := hci.1.2.1
  have hbo := hci.1.2.2
  refine j_aload_n (q := 0) X dX1_name_0 rfl rfl ?_
  refine j_getM (v := .ref (ad 0 0)) X oM hinX1 0 (by decide) rfl k10 dX1_name_1 ?_
  refine j_iload_n (q := 1) X dX1_name_4 rfl rfl ?_
  refine j_callVi (As := [.int x]) X (kX0_hasName l D ad cs A z (b := 0) (by decide) μ V x) (oC (by decide)) rfl (cwV 1 X.1.2.2.2.2 gX1_name_X0_hasName rfl rfl rfl (by decide +kernel) ⟨Nat.le_of_ble_eq_true rfl, Nat.le_of_ble_eq_true rfl⟩) rfl rfl (Nat.le_of_ble_eq_true rfl) dX1_name_5 (fun r5 μ5 h5 => ?_)
  obtain ⟨h5, rfl⟩ := h5
  refine j_if_ne (tgt := 13) X dX1_name_8 (by decide) (fun c8 => ?_) (fun c8 => ?_)
  · skip
    have h5 := h5.nt c8
    have h5s := h5
    obtain ⟨n, hn, rfl⟩ := hasN_n hN hN20 h5
    refine j_iload_n (q := 2) X dX1_name_13 rfl rfl ?_
    rcases swc w 6 (by decide) with hsw | ⟨isw, hisw, hisw2⟩
    · refine j_tabOut (tgt := 123) X dX1_name_14 hsw (by decide) ?_
      have hsn := sw_ne (n := 6) (by decide) hsw
      refine j_bipush (v := (-2)) X dX1_name_123 (by decide) ?_
      exact j_iret X hr hlk ⟨by rw [Rnam, if_neg (Classical.not_not.mpr h5s), if_neg (hsn 0 (by decide)), if_neg (hsn 1 (by decide)), if_neg (hsn 2 (by decide)), if_neg (hsn 3 (by decide)), if_neg (hsn 4 (by decide)), if_neg (hsn 5 (by decide)), if_neg (hsn 6 (by decide))], rfl⟩ dX1_name_125
    · rcases (show isw = 0 ∨ isw = 1 ∨ isw = 2 ∨ isw = 3 ∨ isw = 4 ∨ isw = 5 ∨ isw = 6 by omega) with rfl | rfl | rfl | rfl | rfl | rfl | rfl
      · subst hisw2
        refine j_tabIn (off := 42) (tgt := 56) X dX1_name_14 (by decide) (by decide) (by decide) (by decide) ?_
        refine j_aload_n (q := 0) X dX1_name_56 rfl rfl ?_
        refine j_getM (v := .ref (ad 0 0)) X oM hinX1 0 (by decide) rfl k10 dX1_name_57 ?_
        refine j_getCB X (oC (by decide)) hinX0 6 (by decide) rfl k73 dX1_name_60 ?_
        refine j_iload_n (q := 1) X dX1_name_63 rfl rfl ?_
        refine j_ialdB X (aC_7 (by decide)) n rfl (by omega) (by decide) dX1_name_64 ?_
        exact j_iret X hr hlk ⟨Eq.symm (by rw [Rnam, if_neg (Classical.not_not.mpr h5s), if_pos rfl, ix_n (by omega)]), rfl⟩ dX1_name_65
      · subst hisw2
        refine j_tabIn (off := 52) (tgt := 66) X dX1_name_14 (by decide) (by decide) (by decide) (by decide) ?_
        refine j_aload_n (q := 0) X dX1_name_66 rfl rfl ?_
        refine j_getM (v := .ref (ad 0 0)) X oM hinX1 0 (by decide) rfl k10 dX1_name_67 ?_
        refine j_iload_n (q := 1) X dX1_name_70 rfl rfl ?_
        refine j_callVi (As := [.int (nI n)]) X (kX0_whereIs l D ad cs A z (b := 0) (by decide) μ V n (by omega)) (oC (by decide)) rfl (cwV 1 X.1.2.2.2.2 gX1_name_X0_whereIs rfl rfl rfl (by decide +kernel) ⟨Nat.le_of_ble_eq_true rfl, Nat.le_of_ble_eq_true rfl⟩) rfl rfl (Nat.le_of_ble_eq_true rfl) dX1_name_71 (fun r71 μ71 h71 => ?_)
        obtain ⟨h71, rfl⟩ := h71
        rw [h71]
        exact j_iret X hr hlk ⟨Eq.symm (by rw [Rnam, if_neg (Classical.not_not.mpr h5s), if_neg (by decide), if_pos rfl, ix_n (by omega)]), rfl⟩ dX1_name_74
      · subst hisw2
        refine j_tabIn (off := 61) (tgt := 75) X dX1_name_14 (by decide) (by decide) (by decide) (by decide) ?_
        refine j_aload_n (q := 0) X dX1_name_75 rfl rfl ?_
        refine j_getM (v := .ref (ad 0 0)) X oM hinX1 0 (by decide) rfl k10 dX1_name_76 ?_
        refine j_iload_n (q := 1) X dX1_name_79 rfl rfl ?_
        refine j_callVi (As := [.int (nI n)]) X (kX0_bearerSet l D ad cs A z (b := 0) (by decide) μ V (nI n)) (oC (by decide)) rfl (cwV 1 X.1.2.2.2.2 gX1_name_X0_bearerSet rfl rfl rfl (by decide +kernel) ⟨Nat.le_of_ble_eq_true rfl, Nat.le_of_ble_eq_true rfl⟩) rfl rfl (Nat.le_of_ble_eq_true rfl) dX1_name_80 (fun r80 μ80 h80 => ?_)
        obtain ⟨h80, rfl⟩ := h80
        rw [h80]
        exact j_iret X hr hlk ⟨Eq.symm (by rw [Rnam, if_neg (Classical.not_not.mpr h5s), if_neg (by decide), if_neg (by decide), if_pos rfl]), rfl⟩ dX1_name_83
      · subst hisw2
        refine j_tabIn (off := 70) (tgt := 84) X dX1_name_14 (by decide) (by decide) (by decide) (by decide) ?_
        refine j_aload_n (q := 0) X dX1_name_84 rfl rfl ?_
        refine j_getM (v := .ref (ad 0 0)) X oM hinX1 0 (by decide) rfl k10 dX1_name_85 ?_
        refine j_iload_n (q := 1) X dX1_name_88 rfl rfl ?_
        refine j_callVi (As := [.int (nI n)]) X (kX0_placeInQueue l D ad cs A z (b := 0) (by decide) μ V N hN hN20 n (by omega)) (oC (by decide)) rfl (cwV 1 X.1.2.2.2.2 gX1_name_X0_placeInQueue rfl rfl rfl (by decide +kernel) ⟨Nat.le_of_ble_eq_true rfl, Nat.le_of_ble_eq_true rfl⟩) rfl rfl (Nat.le_of_ble_eq_true rfl) dX1_name_89 (fun r89 μ89 h89 => ?_)
        obtain ⟨h89, rfl⟩ := h89
        rw [h89]
        exact j_iret X hr hlk ⟨Eq.symm (by rw [Rnam, if_neg (Classical.not_not.mpr h5s), if_neg (by decide), if_neg (by decide), if_neg (by decide), if_pos rfl, ix_n (by omega)]), rfl⟩ dX1_name_92
      · subst hisw2
        refine j_tabIn (off := 79) (tgt := 93) X dX1_name_14 (by decide) (by decide) (by decide) (by decide) ?_
        refine j_aload_n (q := 0) X dX1_name_93 rfl rfl ?_
        refine j_getM (v := .ref (ad 0 0)) X oM hinX1 0 (by decide) rfl k10 dX1_name_94 ?_
        refine j_getCB X (oC (by decide)) hinX0 5 (by decide) rfl k125 dX1_name_97 ?_
        refine j_iload_n (q := 1) X dX1_name_100 rfl rfl ?_
        refine j_ialdB X (aC_6 (by decide)) n rfl (by omega) (by decide) dX1_name_101 ?_
        exact j_iret X hr hlk ⟨Eq.symm (by rw [Rnam, if_neg (Classical.not_not.mpr h5s), if_neg (by decide), if_neg (by decide), if_neg (by decide), if_neg (by decide), if_pos rfl, ix_n (by omega)]), rfl⟩ dX1_name_102
      · subst hisw2
        refine j_tabIn (off := 89) (tgt := 103) X dX1_name_14 (by decide) (by decide) (by decide) (by decide) ?_
        refine j_aload_n (q := 0) X dX1_name_103 rfl rfl ?_
        refine j_getM (v := .ref (ad 0 0)) X oM hinX1 0 (by decide) rfl k10 dX1_name_104 ?_
        refine j_getCB X (oC (by decide)) hinX0 4 (by decide) rfl k128 dX1_name_107 ?_
        refine j_iload_n (q := 1) X dX1_name_110 rfl rfl ?_
        refine j_ialdB X (aC_5 (by decide)) n rfl (by omega) (by decide) dX1_name_111 ?_
        exact j_iret X hr hlk ⟨Eq.symm (by rw [Rnam, if_neg (Classical.not_not.mpr h5s), if_neg (by decide), if_neg (by decide), if_neg (by decide), if_neg (by decide), if_neg (by decide), if_pos rfl, ix_n (by omega)]), rfl⟩ dX1_name_112
      · subst hisw2
        refine j_tabIn (off := 99) (tgt := 113) X dX1_name_14 (by decide) (by decide) (by decide) (by decide) ?_
        refine j_aload_n (q := 0) X dX1_name_113 rfl rfl ?_
        refine j_getM (v := .ref (ad 0 0)) X oM hinX1 0 (by decide) rfl k10 dX1_name_114 ?_
        refine j_getCB X (oC (by decide)) hinX0 8 (by decide) rfl k131 dX1_name_117 ?_
        refine j_iload_n (q := 1) X dX1_name_120 rfl rfl ?_
        refine j_ialdB X (aC_9 (by decide)) n rfl (by omega) (by decide) dX1_name_121 ?_
        exact j_iret X hr hlk ⟨Eq.symm (by rw [Rnam, if_neg (Classical.not_not.mpr h5s), if_neg (by decide), if_neg (by decide), if_neg (by decide), if_neg (by decide), if_neg (by decide), if_neg (by decide), if_pos rfl, ix_n (by omega)]), rfl⟩ dX1_name_122
  · skip
    refine j_iconst (v := (-1)) X dX1_name_11 (by decide) ?_
    exact j_iret X hr hlk ⟨by rw [Rnam, if_pos (h5.nf c8)], rfl⟩ dX1_name_12
theorem lsw_2 {w : Int32} (h0 : ¬ w = nI 0) (h1 : ¬ w = nI 1) : Op.lookupswitch.offset (#[((0 : Int), (27 : Int)), (1, 54)] : Array (Int × Int)).toList 72 w.toInt = 72 := by
  have e0 : ¬ (0 : Int) = w.toInt := fun q => h0 (Int32.toInt_inj.mp q.symm)
  have e1 : ¬ (1 : Int) = w.toInt := fun q => h1 (Int32.toInt_inj.mp q.symm)
  show (if (0 : Int) = w.toInt then (27 : Int) else if (1 : Int) = w.toInt then 54 else 72) = 72
  rw [if_neg e0, if_neg e1]
set_option maxHeartbeats 4000000 in
set_option maxRecDepth 100000 in
theorem kX1_alike (l : Launch) (D : va_G) (ad : Nat → Nat → Nat) (cs : Nat → ClassId) (A : Nat → Prop) (z : Nat → Nat) (μ : Mm) (V : CV) (h : Nat) (hc : Nat → CV) (s0 s1 : CV) (u : Nat → Int32) (pl : Nat) (pd : Nat → Int32) (hG : GS (mb μ 0 V) V h hc s0 s1 u pl pd) (N : Nat) (hci : CI V N) (hal : ∀ n1 n2 L1 L2, n1 < N → n2 < N → L1 ≤ 9 → L2 ≤ 9 → V 5 n1 = nI L1 → V 5 n2 = nI L2 → V 6 n1 = sdS (sga V n1) L1 → V 6 n2 = sdS (sga V n2) L2 → (hls (sga V n1) L1 = hls (sga V n2) L2 ↔ V 6 n1 = V 6 n2)) (x y w : Int32) : KI l D ad cs A z yX1_alike wsX1_alike (rm 4 96) [.ref (ad 10 0), .int x, .int y, .int w] (mb μ 0 V) (fun r μ1 => r = Rali V x y w ∧ μ1 = mb μ 0 V) := by
  refine KI_of (cc := cX1_alike) (maxL := 4) (ret := (some .int)) (by decide) rfl (Nat.le_of_ble_eq_true rfl) ?_
  intro p e s m args below meth c hr hlk X
  show J p l e _ s m args below meth c 0 0 _ 4 D ad cs A 0 [(0, .ref (ad 10 0)), (1, .int x), (2, .int y), (3, .int w)] [] (mb μ 0 V)
  have hinX0 : ∀ w ∈ wsX00, w ∈ wsX1_alike := by decide +kernel
  have hinX1 : ∀ w ∈ wsX10, w ∈ wsX1_alike := by decide +kernel
  have k10 : (Cond.fieldLink RX1 10 "PunCourts" "now" "LPunCourts$Court;").before args s = true := X.1.2.2.2.2 _ (by decide +kernel)
  have k125 : (Cond.fieldLink RX1 125 "PunCourts$Court" "sounds" "[I").before args s = true := X.1.2.2.2.2 _ (by decide +kernel)
  have hN := hci.1.1
  have hN20 := hci.1.2.1
  have hbo := hci.1.2.2
  refine j_aload_n (q := 0) X dX1_alike_0 rfl rfl ?_
  refine j_getM (v := .ref (ad 0 0)) X oM hinX1 0 (by decide) rfl k10 dX1_alike_1 ?_
  refine j_iload_n (q := 1) X dX1_alike_4 rfl rfl ?_
  refine j_callVi (As := [.int x]) X (kX0_hasName l D ad cs A z (b := 0) (by decide) μ V x) (oC (by decide)) rfl (cwV 1 X.1.2.2.2.2 gX1_alike_X0_hasName rfl rfl rfl (by decide +kernel) ⟨Nat.le_of_ble_eq_true rfl, Nat.le_of_ble_eq_true rfl⟩) rfl rfl (Nat.le_of_ble_eq_true rfl) dX1_alike_5 (fun r5 μ5 h5 => ?_)
  obtain ⟨h5, rfl⟩ := h5
  refine j_if_eq (tgt := 22) X dX1_alike_8 (by decide) (fun c8 => ?_) (fun c8 => ?_)
  · skip
    have hna : ¬ (hasN V x ∧ hasN V y) := fun q => h5.f c8 q.1
    refine j_iconst (v := (-1)) X dX1_alike_22 (by decide) ?_
    exact j_iret X hr hlk ⟨by rw [Rali, if_pos hna], rfl⟩ dX1_alike_23
  · skip
    have h5 := h5.t c8
    have h5s := h5
    refine j_aload_n (q := 0) X dX1_alike_11 rfl rfl ?_
    refine j_getM (v := .ref (ad 0 0)) X oM hinX1 0 (by decide) rfl k10 dX1_alike_12 ?_
    refine j_iload_n (q := 2) X dX1_alike_15 rfl rfl ?_
    refine j_callVi (As := [.int y]) X (kX0_hasName l D ad cs A z (b := 0) (by decide) μ V y) (oC (by decide)) rfl (cwV 1 X.1.2.2.2.2 gX1_alike_X0_hasName rfl rfl rfl (by decide +kernel) ⟨Nat.le_of_ble_eq_true rfl, Nat.le_of_ble_eq_true rfl⟩) rfl rfl (Nat.le_of_ble_eq_true rfl) dX1_alike_16 (fun r16 μ16 h16 => ?_)
    obtain ⟨h16, rfl⟩ := h16
    refine j_if_ne (tgt := 24) X dX1_alike_19 (by decide) (fun c19 => ?_) (fun c19 => ?_)
    · skip
      have h16 := h16.nt c19
      have hna := And.intro h5s h16
      obtain ⟨n1, hn1, rfl⟩ := hasN_n hN hN20 h5
      obtain ⟨n2, hn2, rfl⟩ := hasN_n hN hN20 h16
      refine j_iload_n (q := 3) X dX1_alike_24 rfl rfl ?_
      by_cases hw0 : w = nI 0
      · subst hw0
        refine j_lookup (off := 27) (tgt := 52) X dX1_alike_25 (by decide) (by decide) (by decide) ?_
        refine j_aload_n (q := 0) X dX1_alike_52 rfl rfl ?_
        refine j_getM (v := .ref (ad 0 0)) X oM hinX1 0 (by decide) rfl k10 dX1_alike_53 ?_
        refine j_getCB X (oC (by decide)) hinX0 5 (by decide) rfl k125 dX1_alike_56 ?_
        refine j_iload_n (q := 1) X dX1_alike_59 rfl rfl ?_
        refine j_ialdB X (aC_6 (by decide)) n1 rfl (by omega) (by decide) dX1_alike_60 ?_
        refine j_aload_n (q := 0) X dX1_alike_61 rfl rfl ?_
        refine j_getM (v := .ref (ad 0 0)) X oM hinX1 0 (by decide) rfl k10 dX1_alike_62 ?_
        refine j_getCB X (oC (by decide)) hinX0 5 (by decide) rfl k125 dX1_alike_65 ?_
        refine j_iload_n (q := 2) X dX1_alike_68 rfl rfl ?_
        refine j_ialdB X (aC_6 (by decide)) n2 rfl (by omega) (by decide) dX1_alike_69 ?_
        refine j_icmp_ne (tgt := 77) X dX1_alike_70 (by decide) (fun c70 => ?_) (fun c70 => ?_)
        · skip
          refine j_iconst (v := (nI 0)) X dX1_alike_77 (by decide) ?_
          exact j_iret X hr hlk ⟨by rw [Rali, if_neg (Classical.not_not.mpr hna), if_pos (Or.inl rfl), ix_n (by omega), ix_n (by omega), if_neg c70]; rfl, rfl⟩ dX1_alike_78
        · skip
          refine j_iconst (v := (nI 1)) X dX1_alike_73 (by decide) ?_
          refine j_goto (tgt := 78) X dX1_alike_74 (by decide) ?_
          exact j_iret X hr hlk ⟨by rw [Rali, if_neg (Classical.not_not.mpr hna), if_pos (Or.inl rfl), ix_n (by omega), ix_n (by omega), if_pos (Classical.not_not.mp c70)]; rfl, rfl⟩ dX1_alike_78
      · by_cases hw1 : w = nI 1
        · subst hw1
          refine j_lookup (off := 54) (tgt := 79) X dX1_alike_25 (by decide) (by decide) (by decide) ?_
          obtain ⟨L1, -, hL1a, hL1b, -, hL1c⟩ := hci.2.2.2.2 n1 hn1
          obtain ⟨L2, -, hL2a, hL2b, -, hL2c⟩ := hci.2.2.2.2 n2 hn2
          refine j_aload_n (q := 0) X dX1_alike_79 rfl rfl ?_
          refine j_getM (v := .ref (ad 0 0)) X oM hinX1 0 (by decide) rfl k10 dX1_alike_80 ?_
          refine j_iload_n (q := 1) X dX1_alike_83 rfl rfl ?_
          refine j_iload_n (q := 2) X dX1_alike_84 rfl rfl ?_
          refine j_callVi (As := [.int (nI n1), .int (nI n2)]) X (kX0_alikeByLetters l D ad cs A z (b := 0) (by decide) μ V n1 (by omega) L1 hL1b hL1a n2 (by omega) L2 hL2b hL2a) (oC (by decide)) rfl (cwV 2 X.1.2.2.2.2 gX1_alike_X0_alikeByLetters rfl rfl rfl (by decide +kernel) ⟨Nat.le_of_ble_eq_true rfl, Nat.le_of_ble_eq_true rfl⟩) rfl rfl (Nat.le_of_ble_eq_true rfl) dX1_alike_85 (fun r85 μ85 h85 => ?_)
          obtain ⟨h85, rfl⟩ := h85
          have hq := hal n1 n2 L1 L2 hn1 hn2 hL1a hL2a hL1b hL2b hL1c hL2c
          refine j_if_eq (tgt := 95) X dX1_alike_88 (by decide) (fun c88 => ?_) (fun c88 => ?_)
          · skip
            have h85 := h85.f c88
            refine j_iconst (v := (nI 0)) X dX1_alike_95 (by decide) ?_
            exact j_iret X hr hlk ⟨by rw [Rali, if_neg (Classical.not_not.mpr hna), if_pos (Or.inr rfl), ix_n (by omega), ix_n (by omega), if_neg (fun q => h85 (hq.mpr q))]; rfl, rfl⟩ dX1_alike_96
          · skip
            have h85 := h85.t c88
            refine j_iconst (v := (nI 1)) X dX1_alike_91 (by decide) ?_
            refine j_goto (tgt := 96) X dX1_alike_92 (by decide) ?_
            exact j_iret X hr hlk ⟨by rw [Rali, if_neg (Classical.not_not.mpr hna), if_pos (Or.inr rfl), ix_n (by omega), ix_n (by omega), if_pos (hq.mp h85)]; rfl, rfl⟩ dX1_alike_96
        · refine j_lookup (off := 72) (tgt := 97) X dX1_alike_25 (by decide) (lsw_2 hw0 hw1) (by decide) ?_
          refine j_bipush (v := (-2)) X dX1_alike_97 (by decide) ?_
          exact j_iret X hr hlk ⟨by rw [Rali, if_neg (Classical.not_not.mpr hna), if_neg (fun q => q.elim hw0 hw1)], rfl⟩ dX1_alike_99
    · skip
      have hna : ¬ (hasN V x ∧ hasN V y) := fun q => h16.nf c19 q.2
      refine j_iconst (v := (-1)) X dX1_alike_22 (by decide) ?_
      exact j_iret X hr hlk ⟨by rw [Rali, if_pos hna], rfl⟩ dX1_alike_23
set_option maxHeartbeats 4000000 in
set_option maxRecDepth 100000 in
theorem kX1_corner (l : Launch) (D : va_G) (ad : Nat → Nat → Nat) (cs : Nat → ClassId) (A : Nat → Prop) (z : Nat → Nat) (μ : Mm) (V : CV) (h : Nat) (hc : Nat → CV) (s0 s1 : CV) (u : Nat → Int32) (pl : Nat) (pd : Nat → Int32) (hG : GS (mb μ 0 V) V h hc s0 s1 u pl pd) (N : Nat) (hci : CI V N) (cx w : Int32) : KI l D ad cs A z yX1_corner wsX1_corner (rm 1 20) [.ref (ad 10 0), .int cx, .int w] (mb μ 0 V) (fun r μ1 => r = Rcor V cx w ∧ μ1 = mb μ 0 V) := by
  refine KI_of (cc := cX1_corner) (maxL := 3) (ret := (some .int)) (by decide) rfl (Nat.le_of_ble_eq_true rfl) ?_
  intro p e s m args below meth c hr hlk X
  show J p l e _ s m args below meth c 0 0 _ 3 D ad cs A 0 [(0, .ref (ad 10 0)), (1, .int cx), (2, .int w)] [] (mb μ 0 V)
  have hinX0 : ∀ w ∈ wsX00, w ∈ wsX1_corner := by decide +kernel
  have hinX1 : ∀ w ∈ wsX10, w ∈ wsX1_corner := by decide +kernel
  have k10 : (Cond.fieldLink RX1 10 "PunCourts" "now" "LPunCourts$Court;").before args s = true := X.1.2.2.2.2 _ (by decide +kernel)
  have k97 : (Cond.fieldLink RX1 97 "PunCourts$Court" "borne" "[I").before args s = true := X.1.2.2.2.2 _ (by decide +kernel)
  have k94 : (Cond.fieldLink RX1 94 "PunCourts$Court" "owed" "[I").before args s = true := X.1.2.2.2.2 _ (by decide +kernel)
  have k138 : (Cond.fieldLink RX1 138 "PunCourts$Court" "posted" "[I").before args s = true := X.1.2.2.2.2 _ (by decide +kernel)
  have k141 : (Cond.fieldLink RX1 141 "PunCourts$Court" "gotDay" "[I").before args s = true := X.1.2.2.2.2 _ (by decide +kernel)
  have k144 : (Cond.fieldLink RX1 144 "PunCourts$Court" "cornerGiven" "[I").before args s = true := X.1.2.2.2.2 _ (by decide +kernel)
  have k147 : (Cond.fieldLink RX1 147 "PunCourts$Court" "shown" "[I").before args s = true := X.1.2.2.2.2 _ (by decide +kernel)
  have hN := hci.1.1
  have hN20 := hci.1.2.1
  have hbo := hci.1.2.2
  refine j_iload_n (q := 1) X dX1_corner_0 rfl rfl ?_
  refine j_callSi (As := [.int cx]) X (aX1_isCorner l D ad cs A z (mb μ 0 V) cx) (va_cwS 1 X.1.2.2.2.2 gX1_corner_X1_isCorner rfl rfl rfl (by decide +kernel) ⟨Nat.le_of_ble_eq_true rfl, Nat.le_of_ble_eq_true rfl⟩) rfl rfl (Nat.le_of_ble_eq_true rfl) dX1_corner_1 (fun r1 μ1 h1 => ?_)
  obtain ⟨h1, rfl⟩ := h1
  refine j_if_ne (tgt := 9) X dX1_corner_4 (by decide) (fun c4 => ?_) (fun c4 => ?_)
  · skip
    have hsx := h1.nt c4
    have hsx0 := hsx
    obtain ⟨k, hk, rfl⟩ := in_n hsx.1 hsx.2 (by decide)
    refine j_iload_n (q := 2) X dX1_corner_9 rfl rfl ?_
    rcases swc w 5 (by decide) with hsw | ⟨isw, hisw, hisw2⟩
    · refine j_tabOut (tgt := 127) X dX1_corner_10 hsw (by decide) ?_
      have hsn := sw_ne (n := 5) (by decide) hsw
      refine j_bipush (v := (-2)) X dX1_corner_127 (by decide) ?_
      exact j_iret X hr hlk ⟨by rw [Rcor, if_neg (Classical.not_not.mpr hsx0), if_neg (hsn 0 (by decide)), if_neg (hsn 1 (by decide)), if_neg (hsn 2 (by decide)), if_neg (hsn 3 (by decide)), if_neg (hsn 4 (by decide)), if_neg (hsn 5 (by decide))], rfl⟩ dX1_corner_129
    · rcases (show isw = 0 ∨ isw = 1 ∨ isw = 2 ∨ isw = 3 ∨ isw = 4 ∨ isw = 5 by omega) with rfl | rfl | rfl | rfl | rfl | rfl
      · subst hisw2
        refine j_tabIn (off := 38) (tgt := 48) X dX1_corner_10 (by decide) (by decide) (by decide) (by decide) ?_
        refine j_aload_n (q := 0) X dX1_corner_48 rfl rfl ?_
        refine j_getM (v := .ref (ad 0 0)) X oM hinX1 0 (by decide) rfl k10 dX1_corner_49 ?_
        refine j_getCB X (oC (by decide)) hinX0 9 (by decide) rfl k97 dX1_corner_52 ?_
        refine j_iload_n (q := 1) X dX1_corner_55 rfl rfl ?_
        refine j_ialdB X (aC_10 (by decide)) k rfl (by omega) (by decide) dX1_corner_56 ?_
        exact j_iret X hr hlk ⟨by rw [Rcor, if_neg (Classical.not_not.mpr hsx0), if_pos rfl, ix_n (by omega)], rfl⟩ dX1_corner_57
      · subst hisw2
        refine j_tabIn (off := 48) (tgt := 58) X dX1_corner_10 (by decide) (by decide) (by decide) (by decide) ?_
        refine j_aload_n (q := 0) X dX1_corner_58 rfl rfl ?_
        refine j_getM (v := .ref (ad 0 0)) X oM hinX1 0 (by decide) rfl k10 dX1_corner_59 ?_
        refine j_getCB X (oC (by decide)) hinX0 10 (by decide) rfl k94 dX1_corner_62 ?_
        refine j_iload_n (q := 1) X dX1_corner_65 rfl rfl ?_
        refine j_ialdB X (aC_11 (by decide)) k rfl (by omega) (by decide) dX1_corner_66 ?_
        exact j_iret X hr hlk ⟨by rw [Rcor, if_neg (Classical.not_not.mpr hsx0), if_neg (by decide), if_pos rfl, ix_n (by omega)], rfl⟩ dX1_corner_67
      · subst hisw2
        refine j_tabIn (off := 58) (tgt := 68) X dX1_corner_10 (by decide) (by decide) (by decide) (by decide) ?_
        refine j_aload_n (q := 0) X dX1_corner_68 rfl rfl ?_
        refine j_getM (v := .ref (ad 0 0)) X oM hinX1 0 (by decide) rfl k10 dX1_corner_69 ?_
        refine j_getCB X (oC (by decide)) hinX0 11 (by decide) rfl k138 dX1_corner_72 ?_
        refine j_iload_n (q := 1) X dX1_corner_75 rfl rfl ?_
        refine j_ialdB X (aC_12 (by decide)) k rfl (by omega) (by decide) dX1_corner_76 ?_
        exact j_iret X hr hlk ⟨by rw [Rcor, if_neg (Classical.not_not.mpr hsx0), if_neg (by decide), if_neg (by decide), if_pos rfl, ix_n (by omega)], rfl⟩ dX1_corner_77
      · subst hisw2
        refine j_tabIn (off := 68) (tgt := 78) X dX1_corner_10 (by decide) (by decide) (by decide) (by decide) ?_
        refine j_aload_n (q := 0) X dX1_corner_78 rfl rfl ?_
        refine j_getM (v := .ref (ad 0 0)) X oM hinX1 0 (by decide) rfl k10 dX1_corner_79 ?_
        refine j_getCB X (oC (by decide)) hinX0 9 (by decide) rfl k97 dX1_corner_82 ?_
        refine j_iload_n (q := 1) X dX1_corner_85 rfl rfl ?_
        refine j_ialdB X (aC_10 (by decide)) k rfl (by omega) (by decide) dX1_corner_86 ?_
        refine j_bipush (v := (-6)) X dX1_corner_87 (by decide) ?_
        refine j_icmp_ne (tgt := 97) X dX1_corner_89 (by decide) (fun c89 => ?_) (fun c89 => ?_)
        · skip
          refine j_aload_n (q := 0) X dX1_corner_97 rfl rfl ?_
          refine j_getM (v := .ref (ad 0 0)) X oM hinX1 0 (by decide) rfl k10 dX1_corner_98 ?_
          refine j_getCB X (oC (by decide)) hinX0 12 (by decide) rfl k141 dX1_corner_101 ?_
          refine j_iload_n (q := 1) X dX1_corner_104 rfl rfl ?_
          refine j_ialdB X (aC_13 (by decide)) k rfl (by omega) (by decide) dX1_corner_105 ?_
          exact j_iret X hr hlk ⟨by rw [Rcor, if_neg (Classical.not_not.mpr hsx0), if_neg (by decide), if_neg (by decide), if_neg (by decide), if_pos rfl, ix_n (by omega), if_neg c89], rfl⟩ dX1_corner_106
        · skip
          refine j_bipush (v := (-6)) X dX1_corner_92 (by decide) ?_
          refine j_goto (tgt := 106) X dX1_corner_94 (by decide) ?_
          exact j_iret X hr hlk ⟨by rw [Rcor, if_neg (Classical.not_not.mpr hsx0), if_neg (by decide), if_neg (by decide), if_neg (by decide), if_pos rfl, ix_n (by omega), if_pos (Classical.not_not.mp c89)], rfl⟩ dX1_corner_106
      · subst hisw2
        refine j_tabIn (off := 97) (tgt := 107) X dX1_corner_10 (by decide) (by decide) (by decide) (by decide) ?_
        refine j_aload_n (q := 0) X dX1_corner_107 rfl rfl ?_
        refine j_getM (v := .ref (ad 0 0)) X oM hinX1 0 (by decide) rfl k10 dX1_corner_108 ?_
        refine j_getCB X (oC (by decide)) hinX0 13 (by decide) rfl k144 dX1_corner_111 ?_
        refine j_iload_n (q := 1) X dX1_corner_114 rfl rfl ?_
        refine j_ialdB X (aC_14 (by decide)) k rfl (by omega) (by decide) dX1_corner_115 ?_
        exact j_iret X hr hlk ⟨by rw [Rcor, if_neg (Classical.not_not.mpr hsx0), if_neg (by decide), if_neg (by decide), if_neg (by decide), if_neg (by decide), if_pos rfl, ix_n (by omega)], rfl⟩ dX1_corner_116
      · subst hisw2
        refine j_tabIn (off := 107) (tgt := 117) X dX1_corner_10 (by decide) (by decide) (by decide) (by decide) ?_
        refine j_aload_n (q := 0) X dX1_corner_117 rfl rfl ?_
        refine j_getM (v := .ref (ad 0 0)) X oM hinX1 0 (by decide) rfl k10 dX1_corner_118 ?_
        refine j_getCB X (oC (by decide)) hinX0 15 (by decide) rfl k147 dX1_corner_121 ?_
        refine j_iload_n (q := 1) X dX1_corner_124 rfl rfl ?_
        refine j_ialdB X (aC_16 (by decide)) k rfl (by omega) (by decide) dX1_corner_125 ?_
        exact j_iret X hr hlk ⟨by rw [Rcor, if_neg (Classical.not_not.mpr hsx0), if_neg (by decide), if_neg (by decide), if_neg (by decide), if_neg (by decide), if_neg (by decide), if_pos rfl, ix_n (by omega), sh_at hci hk], rfl⟩ dX1_corner_126
  · skip
    refine j_iconst (v := (-1)) X dX1_corner_7 (by decide) ?_
    exact j_iret X hr hlk ⟨by rw [Rcor, if_pos (h1.nf c4)], rfl⟩ dX1_corner_8
set_option maxHeartbeats 4000000 in
set_option maxRecDepth 100000 in
theorem kX1_why (l : Launch) (D : va_G) (ad : Nat → Nat → Nat) (cs : Nat → ClassId) (A : Nat → Prop) (z : Nat → Nat) (μ : Mm) (V : CV) (h : Nat) (hc : Nat → CV) (s0 s1 : CV) (u : Nat → Int32) (pl : Nat) (pd : Nat → Int32) (hG : GS (mb μ 0 V) V h hc s0 s1 u pl pd) (N : Nat) (hci : CI V N) (a P : Nat) (hpd : PD V a N P) (x cx : Int32) : KI l D ad cs A z yX1_why wsX1_why (rm 4 91) [.ref (ad 10 0), .int x, .int cx] (mb μ 0 V) (fun r μ1 => r = Rwhy V a x cx ∧ μ1 = mb μ 0 V) := by
  refine KI_of (cc := cX1_why) (maxL := 3) (ret := (some .int)) (by decide) rfl (Nat.le_of_ble_eq_true rfl) ?_
  intro p e s m args below meth c hr hlk X
  show J p l e _ s m args below meth c 0 0 _ 3 D ad cs A 0 [(0, .ref (ad 10 0)), (1, .int x), (2, .int cx)] [] (mb μ 0 V)
  have hinX1 : ∀ w ∈ wsX10, w ∈ wsX1_why := by decide +kernel
  have k10 : (Cond.fieldLink RX1 10 "PunCourts" "now" "LPunCourts$Court;").before args s = true := X.1.2.2.2.2 _ (by decide +kernel)
  have hN := hci.1.1
  have hN20 := hci.1.2.1
  have hbo := hci.1.2.2
  refine j_aload_n (q := 0) X dX1_why_0 rfl rfl ?_
  refine j_getM (v := .ref (ad 0 0)) X oM hinX1 0 (by decide) rfl k10 dX1_why_1 ?_
  refine j_iload_n (q := 1) X dX1_why_4 rfl rfl ?_
  refine j_callVi (As := [.int x]) X (kX0_hasName l D ad cs A z (b := 0) (by decide) μ V x) (oC (by decide)) rfl (cwV 1 X.1.2.2.2.2 gX1_why_X0_hasName rfl rfl rfl (by decide +kernel) ⟨Nat.le_of_ble_eq_true rfl, Nat.le_of_ble_eq_true rfl⟩) rfl rfl (Nat.le_of_ble_eq_true rfl) dX1_why_5 (fun r5 μ5 h5 => ?_)
  obtain ⟨h5, rfl⟩ := h5
  refine j_if_eq (tgt := 18) X dX1_why_8 (by decide) (fun c8 => ?_) (fun c8 => ?_)
  · skip
    have hna : ¬ (hasN V x ∧ isC cx) := fun q => h5.f c8 q.1
    refine j_iconst (v := (-1)) X dX1_why_18 (by decide) ?_
    exact j_iret X hr hlk ⟨by rw [Rwhy, if_pos hna], rfl⟩ dX1_why_19
  · skip
    have h5 := h5.t c8
    have h5s := h5
    refine j_iload_n (q := 2) X dX1_why_11 rfl rfl ?_
    refine j_callSi (As := [.int cx]) X (aX1_isCorner l D ad cs A z (mb μ 0 V) cx) (va_cwS 1 X.1.2.2.2.2 gX1_why_X1_isCorner rfl rfl rfl (by decide +kernel) ⟨Nat.le_of_ble_eq_true rfl, Nat.le_of_ble_eq_true rfl⟩) rfl rfl (Nat.le_of_ble_eq_true rfl) dX1_why_12 (fun r12 μ12 h12 => ?_)
    obtain ⟨h12, rfl⟩ := h12
    refine j_if_ne (tgt := 20) X dX1_why_15 (by decide) (fun c15 => ?_) (fun c15 => ?_)
    · skip
      have h12 := h12.nt c15
      have hsx := h12
      have hna : hasN V x ∧ isC cx := ⟨h5s, h12⟩
      obtain ⟨n, hn, rfl⟩ := hasN_n hN hN20 h5
      have hsx0 := hsx
      obtain ⟨k, hk, rfl⟩ := in_n hsx.1 hsx.2 (by decide)
      refine j_aload_n (q := 0) X dX1_why_20 rfl rfl ?_
      refine j_getM (v := .ref (ad 0 0)) X oM hinX1 0 (by decide) rfl k10 dX1_why_21 ?_
      refine j_iload_n (q := 1) X dX1_why_24 rfl rfl ?_
      refine j_iload_n (q := 2) X dX1_why_25 rfl rfl ?_
      refine j_callVi (As := [.int (nI n), .int (nI k)]) X (kX0_refusal l D ad cs A z (b := 0) (by decide) μ V a hpd.1 hpd.2.1 n (by omega) k (by omega)) (oC (by decide)) rfl (cwV 2 X.1.2.2.2.2 gX1_why_X0_refusal rfl rfl rfl (by decide +kernel) ⟨Nat.le_of_ble_eq_true rfl, Nat.le_of_ble_eq_true rfl⟩) rfl rfl (Nat.le_of_ble_eq_true rfl) dX1_why_26 (fun r26 μ26 h26 => ?_)
      obtain ⟨h26, rfl⟩ := h26
      rw [h26]
      exact j_iret X hr hlk ⟨by rw [Rwhy, if_neg (Classical.not_not.mpr hna), ix_n (by omega), ix_n (by omega)], rfl⟩ dX1_why_29
    · skip
      have hna : ¬ (hasN V x ∧ isC cx) := fun q => h12.nf c15 q.2
      refine j_iconst (v := (-1)) X dX1_why_18 (by decide) ?_
      exact j_iret X hr hlk ⟨by rw [Rwhy, if_pos hna], rfl⟩ dX1_why_19
set_option maxHeartbeats 4000000 in
set_option maxRecDepth 100000 in
theorem kX1_bestCorner (l : Launch) (D : va_G) (ad : Nat → Nat → Nat) (cs : Nat → ClassId) (A : Nat → Prop) (z : Nat → Nat) (μ : Mm) (V : CV) (h : Nat) (hc : Nat → CV) (s0 s1 : CV) (u : Nat → Int32) (pl : Nat) (pd : Nat → Int32) (hG : GS (mb μ 0 V) V h hc s0 s1 u pl pd) (N : Nat) (hci : CI V N) (a P : Nat) (hpd : PD V a N P) (x : Int32) : KI l D ad cs A z yX1_bestCorner wsX1_bestCorner (rm 4 93) [.ref (ad 10 0), .int x] (mb μ 0 V) (fun r μ1 => r = Rbes V a x ∧ μ1 = mb μ 0 V) := by
  refine KI_of (cc := cX1_bestCorner) (maxL := 2) (ret := (some .int)) (by decide) rfl (Nat.le_of_ble_eq_true rfl) ?_
  intro p e s m args below meth c hr hlk X
  show J p l e _ s m args below meth c 0 0 _ 2 D ad cs A 0 [(0, .ref (ad 10 0)), (1, .int x)] [] (mb μ 0 V)
  have hinX1 : ∀ w ∈ wsX10, w ∈ wsX1_bestCorner := by decide +kernel
  have k10 : (Cond.fieldLink RX1 10 "PunCourts" "now" "LPunCourts$Court;").before args s = true := X.1.2.2.2.2 _ (by decide +kernel)
  have hN := hci.1.1
  have hN20 := hci.1.2.1
  have hbo := hci.1.2.2
  refine j_aload_n (q := 0) X dX1_bestCorner_0 rfl rfl ?_
  refine j_getM (v := .ref (ad 0 0)) X oM hinX1 0 (by decide) rfl k10 dX1_bestCorner_1 ?_
  refine j_iload_n (q := 1) X dX1_bestCorner_4 rfl rfl ?_
  refine j_callVi (As := [.int x]) X (kX0_hasName l D ad cs A z (b := 0) (by decide) μ V x) (oC (by decide)) rfl (cwV 1 X.1.2.2.2.2 gX1_bestCorner_X0_hasName rfl rfl rfl (by decide +kernel) ⟨Nat.le_of_ble_eq_true rfl, Nat.le_of_ble_eq_true rfl⟩) rfl rfl (Nat.le_of_ble_eq_true rfl) dX1_bestCorner_5 (fun r5 μ5 h5 => ?_)
  obtain ⟨h5, rfl⟩ := h5
  refine j_if_ne (tgt := 13) X dX1_bestCorner_8 (by decide) (fun c8 => ?_) (fun c8 => ?_)
  · skip
    have h5 := h5.nt c8
    have h5s := h5
    obtain ⟨n, hn, rfl⟩ := hasN_n hN hN20 h5
    refine j_aload_n (q := 0) X dX1_bestCorner_13 rfl rfl ?_
    refine j_getM (v := .ref (ad 0 0)) X oM hinX1 0 (by decide) rfl k10 dX1_bestCorner_14 ?_
    refine j_iload_n (q := 1) X dX1_bestCorner_17 rfl rfl ?_
    refine j_callVi (As := [.int (nI n)]) X (kX0_lowestFree l D ad cs A z (b := 0) (by decide) μ V a hpd.1 hpd.2.1 n (by omega)) (oC (by decide)) rfl (cwV 1 X.1.2.2.2.2 gX1_bestCorner_X0_lowestFree rfl rfl rfl (by decide +kernel) ⟨Nat.le_of_ble_eq_true rfl, Nat.le_of_ble_eq_true rfl⟩) rfl rfl (Nat.le_of_ble_eq_true rfl) dX1_bestCorner_18 (fun r18 μ18 h18 => ?_)
    obtain ⟨h18, rfl⟩ := h18
    rw [h18]
    exact j_iret X hr hlk ⟨by rw [Rbes, if_neg (Classical.not_not.mpr h5s), ix_n (by omega)], rfl⟩ dX1_bestCorner_21
  · skip
    refine j_iconst (v := (-1)) X dX1_bestCorner_11 (by decide) ?_
    exact j_iret X hr hlk ⟨by rw [Rbes, if_pos (h5.nf c8)], rfl⟩ dX1_bestCorner_12
set_option maxHeartbeats 4000000 in
set_option maxRecDepth 100000 in
theorem kX1_count (l : Launch) (D : va_G) (ad : Nat → Nat → Nat) (cs : Nat → ClassId) (A : Nat → Prop) (z : Nat → Nat) (μ : Mm) (V : CV) (h : Nat) (hc : Nat → CV) (s0 s1 : CV) (u : Nat → Int32) (pl : Nat) (pd : Nat → Int32) (hG : GS (mb μ 0 V) V h hc s0 s1 u pl pd) (N : Nat) (hci : CI V N) (w : Int32) : KI l D ad cs A z yX1_count wsX1_count (rm 4 87) [.ref (ad 10 0), .int w] (mb μ 0 V) (fun r μ1 => r = Rcnt V N h pl w ∧ μ1 = mb μ 0 V) := by
  refine KI_of (cc := cX1_count) (maxL := 2) (ret := (some .int)) (by decide) rfl (Nat.le_of_ble_eq_true rfl) ?_
  intro p e s m args below meth c hr hlk X
  show J p l e _ s m args below meth c 0 0 _ 2 D ad cs A 0 [(0, .ref (ad 10 0)), (1, .int w)] [] (mb μ 0 V)
  have hinX0 : ∀ w ∈ wsX00, w ∈ wsX1_count := by decide +kernel
  have hinX1 : ∀ w ∈ wsX10, w ∈ wsX1_count := by decide +kernel
  have k10 : (Cond.fieldLink RX1 10 "PunCourts" "now" "LPunCourts$Court;").before args s = true := X.1.2.2.2.2 _ (by decide +kernel)
  have k44 : (Cond.fieldLink RX1 44 "PunCourts$Court" "settings" "[I").before args s = true := X.1.2.2.2.2 _ (by decide +kernel)
  have k110 : (Cond.fieldLink RX1 110 "PunCourts$Court" "days" "I").before args s = true := X.1.2.2.2.2 _ (by decide +kernel)
  have k51 : (Cond.fieldLink RX1 51 "PunCourts$Court" "names" "I").before args s = true := X.1.2.2.2.2 _ (by decide +kernel)
  have k94 : (Cond.fieldLink RX1 94 "PunCourts$Court" "owed" "[I").before args s = true := X.1.2.2.2.2 _ (by decide +kernel)
  have k138 : (Cond.fieldLink RX1 138 "PunCourts$Court" "posted" "[I").before args s = true := X.1.2.2.2.2 _ (by decide +kernel)
  have k131 : (Cond.fieldLink RX1 131 "PunCourts$Court" "nameGiven" "[I").before args s = true := X.1.2.2.2.2 _ (by decide +kernel)
  have k58 : (Cond.fieldLink RX1 58 "PunCourts" "padLength" "I").before args s = true := X.1.2.2.2.2 _ (by decide +kernel)
  have k163 : (Cond.fieldLink RX1 163 "PunCourts" "pastLength" "I").before args s = true := X.1.2.2.2.2 _ (by decide +kernel)
  have hN := hci.1.1
  have hN20 := hci.1.2.1
  have hbo := hci.1.2.2
  refine j_iload_n (q := 1) X dX1_count_0 rfl rfl ?_
  rcases swc w 14 (by decide) with hsw | ⟨isw, hisw, hisw2⟩
  · refine j_tabOut (tgt := 177) X dX1_count_1 hsw (by decide) ?_
    have hsn := sw_ne (n := 14) (by decide) hsw
    refine j_bipush (v := (-2)) X dX1_count_177 (by decide) ?_
    exact j_iret X hr hlk ⟨by rw [Rcnt, if_neg (hsn 0 (by decide)), if_neg (hsn 1 (by decide)), if_neg (hsn 2 (by decide)), if_neg (hsn 3 (by decide)), if_neg (hsn 4 (by decide)), if_neg (hsn 5 (by decide)), if_neg (hsn 6 (by decide)), if_neg (hsn 7 (by decide)), if_neg (hsn 8 (by decide)), if_neg (hsn 9 (by decide)), if_neg (hsn 10 (by decide)), if_neg (hsn 11 (by decide)), if_neg (hsn 12 (by decide)), if_neg (hsn 13 (by decide)), if_neg (hsn 14 (by decide))], rfl⟩ dX1_count_179
  · rcases (show isw = 0 ∨ isw = 1 ∨ isw = 2 ∨ isw = 3 ∨ isw = 4 ∨ isw = 5 ∨ isw = 6 ∨ isw = 7 ∨ isw = 8 ∨ isw = 9 ∨ isw = 10 ∨ isw = 11 ∨ isw = 12 ∨ isw = 13 ∨ isw = 14 by omega) with rfl | rfl | rfl | rfl | rfl | rfl | rfl | rfl | rfl | rfl | rfl | rfl | rfl | rfl | rfl
    · subst hisw2
      refine j_tabIn (off := 75) (tgt := 76) X dX1_count_1 (by decide) (by decide) (by decide) (by decide) ?_
      refine j_aload_n (q := 0) X dX1_count_76 rfl rfl ?_
      refine j_getM (v := .ref (ad 0 0)) X oM hinX1 0 (by decide) rfl k10 dX1_count_77 ?_
      refine j_getCB X (oC (by decide)) hinX0 0 (by decide) rfl k44 dX1_count_80 ?_
      refine j_iload_n (q := 1) X dX1_count_83 rfl rfl ?_
      refine j_ialdB X (aC_1 (by decide)) 0 rfl (by decide) (by decide) dX1_count_84 ?_
      exact j_iret X hr hlk ⟨Eq.symm (by rw [Rcnt, if_pos rfl]), rfl⟩ dX1_count_85
    · subst hisw2
      refine j_tabIn (off := 75) (tgt := 76) X dX1_count_1 (by decide) (by decide) (by decide) (by decide) ?_
      refine j_aload_n (q := 0) X dX1_count_76 rfl rfl ?_
      refine j_getM (v := .ref (ad 0 0)) X oM hinX1 0 (by decide) rfl k10 dX1_count_77 ?_
      refine j_getCB X (oC (by decide)) hinX0 0 (by decide) rfl k44 dX1_count_80 ?_
      refine j_iload_n (q := 1) X dX1_count_83 rfl rfl ?_
      refine j_ialdB X (aC_1 (by decide)) 1 rfl (by decide) (by decide) dX1_count_84 ?_
      exact j_iret X hr hlk ⟨Eq.symm (by rw [Rcnt, if_neg (by decide), if_pos rfl]), rfl⟩ dX1_count_85
    · subst hisw2
      refine j_tabIn (off := 75) (tgt := 76) X dX1_count_1 (by decide) (by decide) (by decide) (by decide) ?_
      refine j_aload_n (q := 0) X dX1_count_76 rfl rfl ?_
      refine j_getM (v := .ref (ad 0 0)) X oM hinX1 0 (by decide) rfl k10 dX1_count_77 ?_
      refine j_getCB X (oC (by decide)) hinX0 0 (by decide) rfl k44 dX1_count_80 ?_
      refine j_iload_n (q := 1) X dX1_count_83 rfl rfl ?_
      refine j_ialdB X (aC_1 (by decide)) 2 rfl (by decide) (by decide) dX1_count_84 ?_
      exact j_iret X hr hlk ⟨Eq.symm (by rw [Rcnt, if_neg (by decide), if_neg (by decide), if_pos rfl]), rfl⟩ dX1_count_85
    · subst hisw2
      refine j_tabIn (off := 75) (tgt := 76) X dX1_count_1 (by decide) (by decide) (by decide) (by decide) ?_
      refine j_aload_n (q := 0) X dX1_count_76 rfl rfl ?_
      refine j_getM (v := .ref (ad 0 0)) X oM hinX1 0 (by decide) rfl k10 dX1_count_77 ?_
      refine j_getCB X (oC (by decide)) hinX0 0 (by decide) rfl k44 dX1_count_80 ?_
      refine j_iload_n (q := 1) X dX1_count_83 rfl rfl ?_
      refine j_ialdB X (aC_1 (by decide)) 3 rfl (by decide) (by decide) dX1_count_84 ?_
      exact j_iret X hr hlk ⟨Eq.symm (by rw [Rcnt, if_neg (by decide), if_neg (by decide), if_neg (by decide), if_pos rfl]), rfl⟩ dX1_count_85
    · subst hisw2
      refine j_tabIn (off := 85) (tgt := 86) X dX1_count_1 (by decide) (by decide) (by decide) (by decide) ?_
      refine j_aload_n (q := 0) X dX1_count_86 rfl rfl ?_
      refine j_getM (v := .ref (ad 0 0)) X oM hinX1 0 (by decide) rfl k10 dX1_count_87 ?_
      refine j_getCB X (oC (by decide)) hinX0 1 (by decide) rfl k110 dX1_count_90 ?_
      exact j_iret X hr hlk ⟨Eq.symm (by rw [Rcnt, if_neg (by decide), if_neg (by decide), if_neg (by decide), if_neg (by decide), if_pos rfl]), rfl⟩ dX1_count_93
    · subst hisw2
      refine j_tabIn (off := 93) (tgt := 94) X dX1_count_1 (by decide) (by decide) (by decide) (by decide) ?_
      refine j_aload_n (q := 0) X dX1_count_94 rfl rfl ?_
      refine j_getM (v := .ref (ad 0 0)) X oM hinX1 0 (by decide) rfl k10 dX1_count_95 ?_
      refine j_getCB X (oC (by decide)) hinX0 2 (by decide) rfl k51 dX1_count_98 ?_
      rw [hN]
      exact j_iret X hr hlk ⟨Eq.symm (by rw [Rcnt, if_neg (by decide), if_neg (by decide), if_neg (by decide), if_neg (by decide), if_neg (by decide), if_pos rfl]), rfl⟩ dX1_count_101
    · subst hisw2
      refine j_tabIn (off := 101) (tgt := 102) X dX1_count_1 (by decide) (by decide) (by decide) (by decide) ?_
      refine j_aload_n (q := 0) X dX1_count_102 rfl rfl ?_
      refine j_getM (v := .ref (ad 0 0)) X oM hinX1 0 (by decide) rfl k10 dX1_count_103 ?_
      refine j_callVi (As := []) X (kX0_waitingNames l D ad cs A z (b := 0) (by decide) μ V N hN hN20) (oC (by decide)) rfl (cwV 0 X.1.2.2.2.2 gX1_count_X0_waitingNames rfl rfl rfl (by decide +kernel) ⟨Nat.le_of_ble_eq_true rfl, Nat.le_of_ble_eq_true rfl⟩) rfl rfl (Nat.le_of_ble_eq_true rfl) dX1_count_106 (fun r106 μ106 h106 => ?_)
      obtain ⟨h106, rfl⟩ := h106
      rw [h106]
      exact j_iret X hr hlk ⟨Eq.symm (by rw [Rcnt, if_neg (by decide), if_neg (by decide), if_neg (by decide), if_neg (by decide), if_neg (by decide), if_neg (by decide), if_pos rfl]), rfl⟩ dX1_count_109
    · subst hisw2
      refine j_tabIn (off := 109) (tgt := 110) X dX1_count_1 (by decide) (by decide) (by decide) (by decide) ?_
      refine j_aload_n (q := 0) X dX1_count_110 rfl rfl ?_
      refine j_getM (v := .ref (ad 0 0)) X oM hinX1 0 (by decide) rfl k10 dX1_count_111 ?_
      refine j_callVi (As := []) X (kX0_bearingCorners l D ad cs A z (b := 0) (by decide) μ V ) (oC (by decide)) rfl (cwV 0 X.1.2.2.2.2 gX1_count_X0_bearingCorners rfl rfl rfl (by decide +kernel) ⟨Nat.le_of_ble_eq_true rfl, Nat.le_of_ble_eq_true rfl⟩) rfl rfl (Nat.le_of_ble_eq_true rfl) dX1_count_114 (fun r114 μ114 h114 => ?_)
      obtain ⟨h114, rfl⟩ := h114
      rw [h114]
      exact j_iret X hr hlk ⟨Eq.symm (by rw [Rcnt, if_neg (by decide), if_neg (by decide), if_neg (by decide), if_neg (by decide), if_neg (by decide), if_neg (by decide), if_neg (by decide), if_pos rfl]), rfl⟩ dX1_count_117
    · subst hisw2
      refine j_tabIn (off := 117) (tgt := 118) X dX1_count_1 (by decide) (by decide) (by decide) (by decide) ?_
      refine j_aload_n (q := 0) X dX1_count_118 rfl rfl ?_
      refine j_getM (v := .ref (ad 0 0)) X oM hinX1 0 (by decide) rfl k10 dX1_count_119 ?_
      refine j_getCB X (oC (by decide)) hinX0 10 (by decide) rfl k94 dX1_count_122 ?_
      refine j_callSi (As := [.ref (ad 0 11)]) X (kX1_sum l D ad cs A z (aC_11 (by decide : 0 < 10)) (by decide) (mb μ 0 V)) (va_cwS 1 X.1.2.2.2.2 gX1_count_X1_sum rfl rfl rfl (by decide +kernel) ⟨Nat.le_of_ble_eq_true rfl, Nat.le_of_ble_eq_true rfl⟩) rfl rfl (Nat.le_of_ble_eq_true rfl) dX1_count_125 (fun r125 μ125 h125 => ?_)
      obtain ⟨h125, rfl⟩ := h125
      rw [mb_s] at h125
      rw [h125]
      exact j_iret X hr hlk ⟨Eq.symm (by rw [Rcnt, if_neg (by decide), if_neg (by decide), if_neg (by decide), if_neg (by decide), if_neg (by decide), if_neg (by decide), if_neg (by decide), if_neg (by decide), if_pos rfl]), rfl⟩ dX1_count_128
    · subst hisw2
      refine j_tabIn (off := 128) (tgt := 129) X dX1_count_1 (by decide) (by decide) (by decide) (by decide) ?_
      refine j_aload_n (q := 0) X dX1_count_129 rfl rfl ?_
      refine j_getM (v := .ref (ad 0 0)) X oM hinX1 0 (by decide) rfl k10 dX1_count_130 ?_
      refine j_getCB X (oC (by decide)) hinX0 11 (by decide) rfl k138 dX1_count_133 ?_
      refine j_callSi (As := [.ref (ad 0 12)]) X (kX1_sum l D ad cs A z (aC_12 (by decide : 0 < 10)) (by decide) (mb μ 0 V)) (va_cwS 1 X.1.2.2.2.2 gX1_count_X1_sum rfl rfl rfl (by decide +kernel) ⟨Nat.le_of_ble_eq_true rfl, Nat.le_of_ble_eq_true rfl⟩) rfl rfl (Nat.le_of_ble_eq_true rfl) dX1_count_136 (fun r136 μ136 h136 => ?_)
      obtain ⟨h136, rfl⟩ := h136
      rw [mb_s] at h136
      rw [h136]
      exact j_iret X hr hlk ⟨Eq.symm (by rw [Rcnt, if_neg (by decide), if_neg (by decide), if_neg (by decide), if_neg (by decide), if_neg (by decide), if_neg (by decide), if_neg (by decide), if_neg (by decide), if_neg (by decide), if_pos rfl]), rfl⟩ dX1_count_139
    · subst hisw2
      refine j_tabIn (off := 139) (tgt := 140) X dX1_count_1 (by decide) (by decide) (by decide) (by decide) ?_
      refine j_aload_n (q := 0) X dX1_count_140 rfl rfl ?_
      refine j_getM (v := .ref (ad 0 0)) X oM hinX1 0 (by decide) rfl k10 dX1_count_141 ?_
      refine j_getCB X (oC (by decide)) hinX0 8 (by decide) rfl k131 dX1_count_144 ?_
      refine j_callSi (As := [.ref (ad 0 9)]) X (kX1_sum l D ad cs A z (aC_9 (by decide : 0 < 10)) (by decide) (mb μ 0 V)) (va_cwS 1 X.1.2.2.2.2 gX1_count_X1_sum rfl rfl rfl (by decide +kernel) ⟨Nat.le_of_ble_eq_true rfl, Nat.le_of_ble_eq_true rfl⟩) rfl rfl (Nat.le_of_ble_eq_true rfl) dX1_count_147 (fun r147 μ147 h147 => ?_)
      obtain ⟨h147, rfl⟩ := h147
      rw [mb_s] at h147
      rw [h147]
      exact j_iret X hr hlk ⟨Eq.symm (by rw [Rcnt, if_neg (by decide), if_neg (by decide), if_neg (by decide), if_neg (by decide), if_neg (by decide), if_neg (by decide), if_neg (by decide), if_neg (by decide), if_neg (by decide), if_neg (by decide), if_pos rfl]), rfl⟩ dX1_count_150
    · subst hisw2
      refine j_tabIn (off := 150) (tgt := 151) X dX1_count_1 (by decide) (by decide) (by decide) (by decide) ?_
      refine j_aload_n (q := 0) X dX1_count_151 rfl rfl ?_
      refine j_getM (v := .ref (ad 0 0)) X oM hinX1 0 (by decide) rfl k10 dX1_count_152 ?_
      refine j_callVi (As := []) X (kX0_wrongOnMap l D ad cs A z (b := 0) (by decide) μ V ) (oC (by decide)) rfl (cwV 0 X.1.2.2.2.2 gX1_count_X0_wrongOnMap rfl rfl rfl (by decide +kernel) ⟨Nat.le_of_ble_eq_true rfl, Nat.le_of_ble_eq_true rfl⟩) rfl rfl (Nat.le_of_ble_eq_true rfl) dX1_count_155 (fun r155 μ155 h155 => ?_)
      obtain ⟨h155, rfl⟩ := h155
      rw [h155]
      exact j_iret X hr hlk ⟨Eq.symm (by rw [Rcnt, if_neg (by decide), if_neg (by decide), if_neg (by decide), if_neg (by decide), if_neg (by decide), if_neg (by decide), if_neg (by decide), if_neg (by decide), if_neg (by decide), if_neg (by decide), if_neg (by decide), if_pos rfl]), rfl⟩ dX1_count_158
    · subst hisw2
      refine j_tabIn (off := 158) (tgt := 159) X dX1_count_1 (by decide) (by decide) (by decide) (by decide) ?_
      refine j_aload_n (q := 0) X dX1_count_159 rfl rfl ?_
      refine j_getM (v := .ref (ad 0 0)) X oM hinX1 0 (by decide) rfl k10 dX1_count_160 ?_
      refine j_callVi (As := []) X (kX0_punPairs l D ad cs A z (b := 0) (by decide) μ V ) (oC (by decide)) rfl (cwV 0 X.1.2.2.2.2 gX1_count_X0_punPairs rfl rfl rfl (by decide +kernel) ⟨Nat.le_of_ble_eq_true rfl, Nat.le_of_ble_eq_true rfl⟩) rfl rfl (Nat.le_of_ble_eq_true rfl) dX1_count_163 (fun r163 μ163 h163 => ?_)
      obtain ⟨h163, rfl⟩ := h163
      rw [h163]
      exact j_iret X hr hlk ⟨Eq.symm (by rw [Rcnt, if_neg (by decide), if_neg (by decide), if_neg (by decide), if_neg (by decide), if_neg (by decide), if_neg (by decide), if_neg (by decide), if_neg (by decide), if_neg (by decide), if_neg (by decide), if_neg (by decide), if_neg (by decide), if_pos rfl]), rfl⟩ dX1_count_166
    · subst hisw2
      refine j_tabIn (off := 166) (tgt := 167) X dX1_count_1 (by decide) (by decide) (by decide) (by decide) ?_
      refine j_aload_n (q := 0) X dX1_count_167 rfl rfl ?_
      refine j_getM (v := .int (μ 10 0 7)) X oM hinX1 7 (by decide) (by rw [mb_n (by omega)]; rfl) k58 dX1_count_168 ?_
      rw [show μ 10 0 7 = nI pl by rw [← mb_n (μ := μ) (b := 0) (V := V) (show (10 : Nat) ≠ 0 by decide)]; exact hG.2.2.2.2.2.1]
      exact j_iret X hr hlk ⟨Eq.symm (by rw [Rcnt, if_neg (by decide), if_neg (by decide), if_neg (by decide), if_neg (by decide), if_neg (by decide), if_neg (by decide), if_neg (by decide), if_neg (by decide), if_neg (by decide), if_neg (by decide), if_neg (by decide), if_neg (by decide), if_neg (by decide), if_pos rfl]), rfl⟩ dX1_count_171
    · subst hisw2
      refine j_tabIn (off := 171) (tgt := 172) X dX1_count_1 (by decide) (by decide) (by decide) (by decide) ?_
      refine j_aload_n (q := 0) X dX1_count_172 rfl rfl ?_
      refine j_getM (v := .int (μ 10 0 3)) X oM hinX1 3 (by decide) (by rw [mb_n (by omega)]; rfl) k163 dX1_count_173 ?_
      obtain ⟨π, hx, -⟩ := hG.2.1
      rw [show μ 10 0 3 = nI h by rw [← mb_n (μ := μ) (b := 0) (V := V) (show (10 : Nat) ≠ 0 by decide)]; exact hx.2.2.2]
      exact j_iret X hr hlk ⟨Eq.symm (by rw [Rcnt, if_neg (by decide), if_neg (by decide), if_neg (by decide), if_neg (by decide), if_neg (by decide), if_neg (by decide), if_neg (by decide), if_neg (by decide), if_neg (by decide), if_neg (by decide), if_neg (by decide), if_neg (by decide), if_neg (by decide), if_neg (by decide), if_pos rfl]), rfl⟩ dX1_count_176
set_option maxHeartbeats 4000000 in
set_option maxRecDepth 100000 in
theorem kX1_untilBorne (l : Launch) (D : va_G) (ad : Nat → Nat → Nat) (cs : Nat → ClassId) (A : Nat → Prop) (z : Nat → Nat) (μ : Mm) (V : CV) (h : Nat) (hc : Nat → CV) (s0 s1 : CV) (u : Nat → Int32) (pl : Nat) (pd : Nat → Int32) (hG : GS (mb μ 0 V) V h hc s0 s1 u pl pd) (N : Nat) (hci : CI V N) (a P : Nat) (hpd : PD V a N P) (x : Int32) : KI l D ad cs A z yX1_untilBorne wsX1_untilBorne (rm 6 139) [.ref (ad 10 0), .int x] (mb μ 0 V) (fun r μ1 => r = Rubo V a N P x ∧ ∃ V1, μ1 = mb (mb μ 0 V) 1 V1) := by
  refine KI_of (cc := cX1_untilBorne) (maxL := 3) (ret := (some .int)) (by decide) rfl (Nat.le_of_ble_eq_true rfl) ?_
  intro p e s m args below meth c hr hlk X
  show J p l e _ s m args below meth c 0 0 _ 3 D ad cs A 0 [(0, .ref (ad 10 0)), (1, .int x)] [] (mb μ 0 V)
  have hinX1 : ∀ w ∈ wsX10, w ∈ wsX1_untilBorne := by decide +kernel
  have k10 : (Cond.fieldLink RX1 10 "PunCourts" "now" "LPunCourts$Court;").before args s = true := X.1.2.2.2.2 _ (by decide +kernel)
  have k16 : (Cond.fieldLink RX1 16 "PunCourts" "trial" "LPunCourts$Court;").before args s = true := X.1.2.2.2.2 _ (by decide +kernel)
  have hN := hci.1.1
  have hN20 := hci.1.2.1
  have hbo := hci.1.2.2
  refine j_aload_n (q := 0) X dX1_untilBorne_0 rfl rfl ?_
  refine j_getM (v := .ref (ad 0 0)) X oM hinX1 0 (by decide) rfl k10 dX1_untilBorne_1 ?_
  refine j_iload_n (q := 1) X dX1_untilBorne_4 rfl rfl ?_
  refine j_callVi (As := [.int x]) X (kX0_hasName l D ad cs A z (b := 0) (by decide) μ V x) (oC (by decide)) rfl (cwV 1 X.1.2.2.2.2 gX1_untilBorne_X0_hasName rfl rfl rfl (by decide +kernel) ⟨Nat.le_of_ble_eq_true rfl, Nat.le_of_ble_eq_true rfl⟩) rfl rfl (Nat.le_of_ble_eq_true rfl) dX1_untilBorne_5 (fun r5 μ5 h5 => ?_)
  obtain ⟨h5, rfl⟩ := h5
  refine j_if_ne (tgt := 13) X dX1_untilBorne_8 (by decide) (fun c8 => ?_) (fun c8 => ?_)
  · skip
    have h5 := h5.nt c8
    have h5s := h5
    obtain ⟨n, hn, rfl⟩ := hasN_n hN hN20 h5
    refine j_aload_n (q := 0) X dX1_untilBorne_13 rfl rfl ?_
    refine j_getM (v := .ref (ad 0 0)) X oM hinX1 0 (by decide) rfl k10 dX1_untilBorne_14 ?_
    refine j_iload_n (q := 1) X dX1_untilBorne_17 rfl rfl ?_
    refine j_callVi (As := [.int (nI n)]) X (kX0_bearers l D ad cs A z (b := 0) (by decide) μ V (nI n)) (oC (by decide)) rfl (cwV 1 X.1.2.2.2.2 gX1_untilBorne_X0_bearers rfl rfl rfl (by decide +kernel) ⟨Nat.le_of_ble_eq_true rfl, Nat.le_of_ble_eq_true rfl⟩) rfl rfl (Nat.le_of_ble_eq_true rfl) dX1_untilBorne_18 (fun r18 μ18 h18 => ?_)
    obtain ⟨h18, rfl⟩ := h18
    rw [h18]
    have hnb := nb_le V (nI n) 12
    refine j_if_le (tgt := 26) X dX1_untilBorne_21 (by decide) (fun c21 => ?_) (fun c21 => ?_)
    · skip
      have h24 : ¬ 0 < nb (days V a N P 0) (nI n) 12 := fun q => nI_nle q (Nat.lt_of_le_of_lt (nb_le _ _ _) (by decide)) c21
      refine j_aload_n (q := 0) X dX1_untilBorne_26 rfl rfl ?_
      refine j_getM (v := .ref (ad 0 0)) X oM hinX1 0 (by decide) rfl k10 dX1_untilBorne_27 ?_
      refine j_aload_n (q := 0) X dX1_untilBorne_30 rfl rfl ?_
      refine j_getM (v := .ref (ad 1 0)) X oM hinX1 1 (by decide) rfl k16 dX1_untilBorne_31 ?_
      refine j_eq (mb_self (μ := mb μ 0 V) (b := 1)).symm ?_
      refine j_callSv (As := [.ref (ad 0 0), .ref (ad 1 0)]) X (kX1_copy l D ad cs A z (b0 := 0) (b1 := 1) (by decide) (by decide) (by decide) (mb μ 0 V) (mb μ 0 V 1) (by rw [mb_s]; exact hbo)) (va_cwS 2 X.1.2.2.2.2 gX1_untilBorne_X1_copy rfl rfl rfl (by decide +kernel) ⟨Nat.le_of_ble_eq_true rfl, Nat.le_of_ble_eq_true rfl⟩) rfl rfl (Nat.le_of_ble_eq_true rfl) dX1_untilBorne_34 (fun μ34 h34 => ?_)
      subst h34
      rw [mb_s]
      refine j_iconst (v := (nI 1)) X dX1_untilBorne_37 (by decide) ?_
      refine j_istore_n (lv' := [(2, .int (nI 1)), (0, .ref (ad 10 0)), (1, .int (nI n))]) X dX1_untilBorne_38 rfl (by decide) rfl ?_
      refine jl2 (G := J p l e _ s m args below meth c 0 0 _ _ D ad cs A) (pc := 39) (fun (i : Nat) (W : CV) => [(2, .int (nI i)), (0, .ref (ad 10 0)), (1, .int (nI n))]) (fun (i : Nat) (W : CV) => (mb (mb μ 0 V) 1 W)) (fun (i : Nat) (W : CV) => 1 ≤ i ∧ i ≤ 301 ∧ W = days V a N P (i - 1) ∧ lw (bof V a N P (nI n)) i = i) (fun (i : Nat) (W : CV) => 301 - i) ?_ 1 V ⟨by omega, by omega, rfl, lw_go (i := 0) rfl (bof_n h24)⟩
      intro i W hI39 ih39
      try dsimp only at ih39 ⊢
      obtain ⟨hi1, hi, hW, hl⟩ := hI39
      have hWpd : PD W a N P := by rw [hW]; exact hpd.days _
      have hWd : days W a N P 1 = days V a N P i := by rw [hW]; exact days_1 hi1
      refine j_iload_n (q := 0) X dX1_untilBorne_39 rfl rfl ?_
      refine j_sipush (v := (nI 300)) X dX1_untilBorne_40 (by decide) ?_
      refine j_ncmp_gt (tgt := 74) X i 300 dX1_untilBorne_43 (by decide) rfl rfl (by omega) (by omega) (fun c43 => ?_) (fun c43 => ?_)
      · skip
        refine j_bipush (v := (-6)) X dX1_untilBorne_74 (by decide) ?_
        exact j_iret X hr hlk ⟨by rw [Rubo, if_neg (Classical.not_not.mpr h5s), utl, if_neg (by rw [show i = 301 by omega] at hl; omega)], _, rfl⟩ dX1_untilBorne_76
      · skip
        refine j_aload_n (q := 1) X dX1_untilBorne_46 rfl rfl ?_
        refine j_getM (v := .ref (ad 1 0)) X oM hinX1 1 (by decide) rfl k16 dX1_untilBorne_47 ?_
        refine j_iconst (v := (nI 1)) X dX1_untilBorne_50 (by decide) ?_
        refine j_callVi (As := [.int (nI 1)]) X (kX0_live l D ad cs A z (b := 1) (by decide) (mb μ 0 V) W a N P hWpd 1 (by decide)) (oC (by decide)) rfl (cwV 1 X.1.2.2.2.2 gX1_untilBorne_X0_live rfl rfl rfl (by decide +kernel) ⟨Nat.le_of_ble_eq_true rfl, Nat.le_of_ble_eq_true rfl⟩) rfl rfl (Nat.le_of_ble_eq_true rfl) dX1_untilBorne_51 (fun r51 μ51 h51 => ?_)
        obtain ⟨h51, rfl⟩ := h51
        rw [h51]
        refine j_pop X dX1_untilBorne_54 rfl ?_
        refine j_aload_n (q := 1) X dX1_untilBorne_55 rfl rfl ?_
        refine j_getM (v := .ref (ad 1 0)) X oM hinX1 1 (by decide) rfl k16 dX1_untilBorne_56 ?_
        refine j_iload_n (q := 2) X dX1_untilBorne_59 rfl rfl ?_
        refine j_callVi (As := [.int (nI n)]) X (kX0_bearers l D ad cs A z (b := 1) (by decide) (mb μ 0 V) (days W a N P 1) (nI n)) (oC (by decide)) rfl (cwV 1 X.1.2.2.2.2 gX1_untilBorne_X0_bearers rfl rfl rfl (by decide +kernel) ⟨Nat.le_of_ble_eq_true rfl, Nat.le_of_ble_eq_true rfl⟩) rfl rfl (Nat.le_of_ble_eq_true rfl) dX1_untilBorne_60 (fun r60 μ60 h60 => ?_)
        obtain ⟨h60, rfl⟩ := h60
        rw [h60]
        have hnb2 := nb_le (days W a N P 1) (nI n) 12
        refine j_if_le (tgt := 68) X dX1_untilBorne_63 (by decide) (fun c63 => ?_) (fun c63 => ?_)
        · skip
          have h63 : ¬ 0 < nb (days V a N P i) (nI n) 12 := fun q => by rw [hWd] at c63; exact nI_nle q (Nat.lt_of_le_of_lt (nb_le _ _ _) (by decide)) c63
          refine j_iinc (q := 0) (v := (nI (i + 1))) (lv' := [(2, .int (nI (i + 1))), (0, .ref (ad 10 0)), (1, .int (nI n))]) X dX1_untilBorne_68 rfl (nI_1 _) (by decide) rfl ?_
          refine j_goto (tgt := 39) X dX1_untilBorne_71 (by decide) ?_
          exact ih39 (i + 1) (days W a N P 1) ⟨by omega, by omega, by rw [hWd]; rfl, lw_go hl (bof_n h63)⟩ (by omega)
        · skip
          have h63 : 0 < nb (days V a N P i) (nI n) 12 := by rw [hWd] at c63; exact pos_of c63
          refine j_iload_n (q := 0) X dX1_untilBorne_66 rfl rfl ?_
          exact j_iret X hr hlk ⟨by rw [Rubo, if_neg (Classical.not_not.mpr h5s), utl, lw_hit hl (bof_y h63) 301 (by omega), if_pos (by omega)], _, rfl⟩ dX1_untilBorne_67
    · skip
      have h24 : 0 < nb V (nI n) 12 := pos_of c21
      refine j_iconst (v := (nI 0)) X dX1_untilBorne_24 (by decide) ?_
      exact j_iret X hr hlk ⟨by rw [Rubo, if_neg (Classical.not_not.mpr h5s), utl, lw_hit (i := 0) rfl (bof_y h24) 301 (by decide)]; rfl, mb μ 0 V 1, mb_self.symm⟩ dX1_untilBorne_25
  · skip
    refine j_iconst (v := (-1)) X dX1_untilBorne_11 (by decide) ?_
    exact j_iret X hr hlk ⟨by rw [Rubo, if_pos (h5.nf c8)], mb μ 0 V 1, mb_self.symm⟩ dX1_untilBorne_12
set_option maxHeartbeats 4000000 in
set_option maxRecDepth 100000 in
theorem kX1_untilPosted (l : Launch) (D : va_G) (ad : Nat → Nat → Nat) (cs : Nat → ClassId) (A : Nat → Prop) (z : Nat → Nat) (μ : Mm) (V : CV) (h : Nat) (hc : Nat → CV) (s0 s1 : CV) (u : Nat → Int32) (pl : Nat) (pd : Nat → Int32) (hG : GS (mb μ 0 V) V h hc s0 s1 u pl pd) (N : Nat) (hci : CI V N) (a P : Nat) (hpd : PD V a N P) : KI l D ad cs A z yX1_untilPosted wsX1_untilPosted (rm 6 139) [.ref (ad 10 0)] (mb μ 0 V) (fun r μ1 => r = utl (pof V a N P) ∧ ∃ V1, μ1 = mb (mb μ 0 V) 1 V1) := by
  refine KI_of (cc := cX1_untilPosted) (maxL := 2) (ret := (some .int)) (by decide) rfl (Nat.le_of_ble_eq_true rfl) ?_
  intro p e s m args below meth c hr hlk X
  show J p l e _ s m args below meth c 0 0 _ 2 D ad cs A 0 [(0, .ref (ad 10 0))] [] (mb μ 0 V)
  have hinX0 : ∀ w ∈ wsX00, w ∈ wsX1_untilPosted := by decide +kernel
  have hinX1 : ∀ w ∈ wsX10, w ∈ wsX1_untilPosted := by decide +kernel
  have k10 : (Cond.fieldLink RX1 10 "PunCourts" "now" "LPunCourts$Court;").before args s = true := X.1.2.2.2.2 _ (by decide +kernel)
  have k94 : (Cond.fieldLink RX1 94 "PunCourts$Court" "owed" "[I").before args s = true := X.1.2.2.2.2 _ (by decide +kernel)
  have k16 : (Cond.fieldLink RX1 16 "PunCourts" "trial" "LPunCourts$Court;").before args s = true := X.1.2.2.2.2 _ (by decide +kernel)
  have hN := hci.1.1
  have hN20 := hci.1.2.1
  have hbo := hci.1.2.2
  refine j_aload_n (q := 0) X dX1_untilPosted_0 rfl rfl ?_
  refine j_getM (v := .ref (ad 0 0)) X oM hinX1 0 (by decide) rfl k10 dX1_untilPosted_1 ?_
  refine j_getCB X (oC (by decide)) hinX0 10 (by decide) rfl k94 dX1_untilPosted_4 ?_
  refine j_callSi (As := [.ref (ad 0 11)]) X (kX1_sum l D ad cs A z (aC_11 (by decide : 0 < 10)) (by decide) (mb μ 0 V)) (va_cwS 1 X.1.2.2.2.2 gX1_untilPosted_X1_sum rfl rfl rfl (by decide +kernel) ⟨Nat.le_of_ble_eq_true rfl, Nat.le_of_ble_eq_true rfl⟩) rfl rfl (Nat.le_of_ble_eq_true rfl) dX1_untilPosted_7 (fun r7 μ7 h7 => ?_)
  obtain ⟨h7, rfl⟩ := h7
  rw [mb_s] at h7
  rw [h7]
  refine j_if_ne (tgt := 15) X dX1_untilPosted_10 (by decide) (fun c10 => ?_) (fun c10 => ?_)
  · skip
    refine j_aload_n (q := 0) X dX1_untilPosted_15 rfl rfl ?_
    refine j_getM (v := .ref (ad 0 0)) X oM hinX1 0 (by decide) rfl k10 dX1_untilPosted_16 ?_
    refine j_aload_n (q := 0) X dX1_untilPosted_19 rfl rfl ?_
    refine j_getM (v := .ref (ad 1 0)) X oM hinX1 1 (by decide) rfl k16 dX1_untilPosted_20 ?_
    refine j_eq (mb_self (μ := mb μ 0 V) (b := 1)).symm ?_
    refine j_callSv (As := [.ref (ad 0 0), .ref (ad 1 0)]) X (kX1_copy l D ad cs A z (b0 := 0) (b1 := 1) (by decide) (by decide) (by decide) (mb μ 0 V) (mb μ 0 V 1) (by rw [mb_s]; exact hbo)) (va_cwS 2 X.1.2.2.2.2 gX1_untilPosted_X1_copy rfl rfl rfl (by decide +kernel) ⟨Nat.le_of_ble_eq_true rfl, Nat.le_of_ble_eq_true rfl⟩) rfl rfl (Nat.le_of_ble_eq_true rfl) dX1_untilPosted_23 (fun μ23 h23 => ?_)
    subst h23
    rw [mb_s]
    refine j_iconst (v := (nI 1)) X dX1_untilPosted_26 (by decide) ?_
    refine j_istore_n (lv' := [(1, .int (nI 1)), (0, .ref (ad 10 0))]) X dX1_untilPosted_27 rfl (by decide) rfl ?_
    refine jl2 (G := J p l e _ s m args below meth c 0 0 _ _ D ad cs A) (pc := 28) (fun (i : Nat) (W : CV) => [(1, .int (nI i)), (0, .ref (ad 10 0))]) (fun (i : Nat) (W : CV) => (mb (mb μ 0 V) 1 W)) (fun (i : Nat) (W : CV) => 1 ≤ i ∧ i ≤ 301 ∧ W = days V a N P (i - 1) ∧ lw (pof V a N P) i = i) (fun (i : Nat) (W : CV) => 301 - i) ?_ 1 V ⟨by omega, by omega, rfl, lw_go (i := 0) rfl (pof_n c10)⟩
    intro i W hI28 ih28
    try dsimp only at ih28 ⊢
    obtain ⟨hi1, hi, hW, hl⟩ := hI28
    have hWpd : PD W a N P := by rw [hW]; exact hpd.days _
    have hWd : days W a N P 1 = days V a N P i := by rw [hW]; exact days_1 hi1
    refine j_iload_n (q := 0) X dX1_untilPosted_28 rfl rfl ?_
    refine j_sipush (v := (nI 300)) X dX1_untilPosted_29 (by decide) ?_
    refine j_ncmp_gt (tgt := 65) X i 300 dX1_untilPosted_32 (by decide) rfl rfl (by omega) (by omega) (fun c32 => ?_) (fun c32 => ?_)
    · skip
      refine j_bipush (v := (-6)) X dX1_untilPosted_65 (by decide) ?_
      exact j_iret X hr hlk ⟨by rw [utl, if_neg (by rw [show i = 301 by omega] at hl; omega)], _, rfl⟩ dX1_untilPosted_67
    · skip
      refine j_aload_n (q := 1) X dX1_untilPosted_35 rfl rfl ?_
      refine j_getM (v := .ref (ad 1 0)) X oM hinX1 1 (by decide) rfl k16 dX1_untilPosted_36 ?_
      refine j_iconst (v := (nI 1)) X dX1_untilPosted_39 (by decide) ?_
      refine j_callVi (As := [.int (nI 1)]) X (kX0_live l D ad cs A z (b := 1) (by decide) (mb μ 0 V) W a N P hWpd 1 (by decide)) (oC (by decide)) rfl (cwV 1 X.1.2.2.2.2 gX1_untilPosted_X0_live rfl rfl rfl (by decide +kernel) ⟨Nat.le_of_ble_eq_true rfl, Nat.le_of_ble_eq_true rfl⟩) rfl rfl (Nat.le_of_ble_eq_true rfl) dX1_untilPosted_40 (fun r40 μ40 h40 => ?_)
      obtain ⟨h40, rfl⟩ := h40
      rw [h40]
      refine j_pop X dX1_untilPosted_43 rfl ?_
      refine j_aload_n (q := 1) X dX1_untilPosted_44 rfl rfl ?_
      refine j_getM (v := .ref (ad 1 0)) X oM hinX1 1 (by decide) rfl k16 dX1_untilPosted_45 ?_
      refine j_getCB X (oC (by decide)) hinX0 10 (by decide) rfl k94 dX1_untilPosted_48 ?_
      refine j_callSi (As := [.ref (ad 1 11)]) X (kX1_sum l D ad cs A z (aC_11 (by decide : 1 < 10)) (by decide) (mb (mb μ 0 V) 1 (days W a N P 1))) (va_cwS 1 X.1.2.2.2.2 gX1_untilPosted_X1_sum rfl rfl rfl (by decide +kernel) ⟨Nat.le_of_ble_eq_true rfl, Nat.le_of_ble_eq_true rfl⟩) rfl rfl (Nat.le_of_ble_eq_true rfl) dX1_untilPosted_51 (fun r51 μ51 h51 => ?_)
      obtain ⟨h51, rfl⟩ := h51
      rw [mb_s] at h51
      rw [h51]
      refine j_if_ne (tgt := 59) X dX1_untilPosted_54 (by decide) (fun c54 => ?_) (fun c54 => ?_)
      · skip
        refine j_iinc (q := 0) (v := (nI (i + 1))) (lv' := [(1, .int (nI (i + 1))), (0, .ref (ad 10 0))]) X dX1_untilPosted_59 rfl (nI_1 _) (by decide) rfl ?_
        refine j_goto (tgt := 28) X dX1_untilPosted_62 (by decide) ?_
        exact ih28 (i + 1) (days W a N P 1) ⟨by omega, by omega, by rw [hWd]; rfl, lw_go hl (pof_n (by rw [hWd] at c54; exact c54))⟩ (by omega)
      · skip
        refine j_iload_n (q := 0) X dX1_untilPosted_57 rfl rfl ?_
        exact j_iret X hr hlk ⟨by rw [utl, lw_hit hl (pof_y (by rw [hWd] at c54; exact Classical.not_not.mp c54)) 301 (by omega), if_pos (by omega)], _, rfl⟩ dX1_untilPosted_58
  · skip
    refine j_iconst (v := (nI 0)) X dX1_untilPosted_13 (by decide) ?_
    exact j_iret X hr hlk ⟨by rw [utl, lw_hit (i := 0) rfl (pof_y (Classical.not_not.mp c10)) 301 (by decide)]; rfl, mb μ 0 V 1, mb_self.symm⟩ dX1_untilPosted_14
set_option maxHeartbeats 4000000 in
set_option maxRecDepth 100000 in
theorem kX1_ifPassed (l : Launch) (D : va_G) (ad : Nat → Nat → Nat) (cs : Nat → ClassId) (A : Nat → Prop) (z : Nat → Nat) (μ : Mm) (V : CV) (h : Nat) (hc : Nat → CV) (s0 s1 : CV) (u : Nat → Int32) (pl : Nat) (pd : Nat → Int32) (hG : GS (mb μ 0 V) V h hc s0 s1 u pl pd) (N : Nat) (hci : CI V N) (a P : Nat) (hpd : PD V a N P) (dx w : Int32) : KI l D ad cs A z yX1_ifPassed wsX1_ifPassed (rm 6 139) [.ref (ad 10 0), .int dx, .int w] (mb μ 0 V) (fun r μ1 => r = Rifp V a N P dx w ∧ ∃ V1, μ1 = mb (mb μ 0 V) 1 V1) := by
  refine KI_of (cc := cX1_ifPassed) (maxL := 4) (ret := (some .int)) (by decide) rfl (Nat.le_of_ble_eq_true rfl) ?_
  intro p e s m args below meth c hr hlk X
  show J p l e _ s m args below meth c 0 0 _ 4 D ad cs A 0 [(0, .ref (ad 10 0)), (1, .int dx), (2, .int w)] [] (mb μ 0 V)
  have hinX0 : ∀ w ∈ wsX00, w ∈ wsX1_ifPassed := by decide +kernel
  have hinX1 : ∀ w ∈ wsX10, w ∈ wsX1_ifPassed := by decide +kernel
  have k10 : (Cond.fieldLink RX1 10 "PunCourts" "now" "LPunCourts$Court;").before args s = true := X.1.2.2.2.2 _ (by decide +kernel)
  have k16 : (Cond.fieldLink RX1 16 "PunCourts" "trial" "LPunCourts$Court;").before args s = true := X.1.2.2.2.2 _ (by decide +kernel)
  have k94 : (Cond.fieldLink RX1 94 "PunCourts$Court" "owed" "[I").before args s = true := X.1.2.2.2.2 _ (by decide +kernel)
  have k138 : (Cond.fieldLink RX1 138 "PunCourts$Court" "posted" "[I").before args s = true := X.1.2.2.2.2 _ (by decide +kernel)
  have hN := hci.1.1
  have hN20 := hci.1.2.1
  have hbo := hci.1.2.2
  refine j_iload_n (q := 1) X dX1_ifPassed_0 rfl rfl ?_
  refine j_iconst (v := (nI 1)) X dX1_ifPassed_1 (by decide) ?_
  refine j_icmp_lt (tgt := 21) X dX1_ifPassed_2 (by decide) (fun c2 => ?_) (fun c2 => ?_)
  · skip
    have ho : ¬ (okD dx 300 ∧ 0 ≤ w ∧ w ≤ nI 2) := fun q => absurd c2 (Int32.not_lt.mpr q.1.1)
    refine j_bipush (v := (-2)) X dX1_ifPassed_21 (by decide) ?_
    exact j_iret X hr hlk ⟨by rw [Rifp, if_pos ho], mb μ 0 V 1, mb_self.symm⟩ dX1_ifPassed_23
  · skip
    refine j_iload_n (q := 1) X dX1_ifPassed_5 rfl rfl ?_
    refine j_sipush (v := (nI 300)) X dX1_ifPassed_6 (by decide) ?_
    refine j_icmp_gt (tgt := 21) X dX1_ifPassed_9 (by decide) (fun c9 => ?_) (fun c9 => ?_)
    · skip
      have ho : ¬ (okD dx 300 ∧ 0 ≤ w ∧ w ≤ nI 2) := fun q => absurd c9 (Int32.not_lt.mpr q.1.2)
      refine j_bipush (v := (-2)) X dX1_ifPassed_21 (by decide) ?_
      exact j_iret X hr hlk ⟨by rw [Rifp, if_pos ho], mb μ 0 V 1, mb_self.symm⟩ dX1_ifPassed_23
    · skip
      refine j_iload_n (q := 2) X dX1_ifPassed_12 rfl rfl ?_
      refine j_if_lt (tgt := 21) X dX1_ifPassed_13 (by decide) (fun c13 => ?_) (fun c13 => ?_)
      · skip
        have ho : ¬ (okD dx 300 ∧ 0 ≤ w ∧ w ≤ nI 2) := fun q => absurd c13 (Int32.not_lt.mpr q.2.1)
        refine j_bipush (v := (-2)) X dX1_ifPassed_21 (by decide) ?_
        exact j_iret X hr hlk ⟨by rw [Rifp, if_pos ho], mb μ 0 V 1, mb_self.symm⟩ dX1_ifPassed_23
      · skip
        refine j_iload_n (q := 2) X dX1_ifPassed_16 rfl rfl ?_
        refine j_iconst (v := (nI 2)) X dX1_ifPassed_17 (by decide) ?_
        refine j_icmp_le (tgt := 24) X dX1_ifPassed_18 (by decide) (fun c18 => ?_) (fun c18 => ?_)
        · skip
          have ho : okD dx 300 ∧ 0 ≤ w ∧ w ≤ nI 2 := ⟨⟨Int32.not_lt.mp c2, Int32.not_lt.mp c9⟩, Int32.not_lt.mp c13, c18⟩
          obtain ⟨k, hk1, hk2, rfl⟩ := rng_n ho.1.1 ho.1.2 (by decide) (by decide)
          refine j_aload_n (q := 0) X dX1_ifPassed_24 rfl rfl ?_
          refine j_getM (v := .ref (ad 0 0)) X oM hinX1 0 (by decide) rfl k10 dX1_ifPassed_25 ?_
          refine j_aload_n (q := 0) X dX1_ifPassed_28 rfl rfl ?_
          refine j_getM (v := .ref (ad 1 0)) X oM hinX1 1 (by decide) rfl k16 dX1_ifPassed_29 ?_
          refine j_eq (mb_self (μ := mb μ 0 V) (b := 1)).symm ?_
          refine j_callSv (As := [.ref (ad 0 0), .ref (ad 1 0)]) X (kX1_copy l D ad cs A z (b0 := 0) (b1 := 1) (by decide) (by decide) (by decide) (mb μ 0 V) (mb μ 0 V 1) (by rw [mb_s]; exact hbo)) (va_cwS 2 X.1.2.2.2.2 gX1_ifPassed_X1_copy rfl rfl rfl (by decide +kernel) ⟨Nat.le_of_ble_eq_true rfl, Nat.le_of_ble_eq_true rfl⟩) rfl rfl (Nat.le_of_ble_eq_true rfl) dX1_ifPassed_32 (fun μ32 h32 => ?_)
          subst h32
          rw [mb_s]
          refine j_aload_n (q := 0) X dX1_ifPassed_35 rfl rfl ?_
          refine j_getM (v := .ref (ad 1 0)) X oM hinX1 1 (by decide) rfl k16 dX1_ifPassed_36 ?_
          refine j_iload_n (q := 1) X dX1_ifPassed_39 rfl rfl ?_
          refine j_callVi (As := [.int (nI k)]) X (kX0_live l D ad cs A z (b := 1) (by decide) (mb μ 0 V) V a N P hpd k (by omega)) (oC (by decide)) rfl (cwV 1 X.1.2.2.2.2 gX1_ifPassed_X0_live rfl rfl rfl (by decide +kernel) ⟨Nat.le_of_ble_eq_true rfl, Nat.le_of_ble_eq_true rfl⟩) rfl rfl (Nat.le_of_ble_eq_true rfl) dX1_ifPassed_40 (fun r40 μ40 h40 => ?_)
          obtain ⟨h40, rfl⟩ := h40
          rw [h40]
          refine j_istore_n (lv' := [(3, .int (nI (dayn V a N P k))), (0, .ref (ad 10 0)), (1, .int (nI k)), (2, .int w)]) X dX1_ifPassed_43 rfl (by decide) rfl ?_
          refine j_iload_n (q := 3) X dX1_ifPassed_44 rfl rfl ?_
          refine j_if_ne (tgt := 50) X dX1_ifPassed_45 (by decide) (fun c45 => ?_) (fun c45 => ?_)
          · skip
            refine j_iload_n (q := 3) X dX1_ifPassed_50 rfl rfl ?_
            refine j_iconst (v := (nI 1)) X dX1_ifPassed_51 (by decide) ?_
            refine j_icmp_ne (tgt := 77) X dX1_ifPassed_52 (by decide) (fun c52 => ?_) (fun c52 => ?_)
            · skip
              refine j_aload_n (q := 1) X dX1_ifPassed_77 rfl rfl ?_
              refine j_getM (v := .ref (ad 1 0)) X oM hinX1 1 (by decide) rfl k16 dX1_ifPassed_78 ?_
              refine j_getCB X (oC (by decide)) hinX0 10 (by decide) rfl k94 dX1_ifPassed_81 ?_
              refine j_callSi (As := [.ref (ad 1 11)]) X (kX1_sum l D ad cs A z (aC_11 (by decide : 1 < 10)) (by decide) (mb (mb μ 0 V) 1 (days V a N P k))) (va_cwS 1 X.1.2.2.2.2 gX1_ifPassed_X1_sum rfl rfl rfl (by decide +kernel) ⟨Nat.le_of_ble_eq_true rfl, Nat.le_of_ble_eq_true rfl⟩) rfl rfl (Nat.le_of_ble_eq_true rfl) dX1_ifPassed_84 (fun r84 μ84 h84 => ?_)
              obtain ⟨h84, rfl⟩ := h84
              rw [mb_s] at h84
              rw [h84]
              exact j_iret X hr hlk ⟨by rw [Rifp, if_neg (Classical.not_not.mpr ho), if_neg (show ¬ w = nI 0 from c45), if_neg c52, ix_n (by omega)], _, rfl⟩ dX1_ifPassed_87
            · skip
              refine j_aload_n (q := 1) X dX1_ifPassed_55 rfl rfl ?_
              refine j_getM (v := .ref (ad 1 0)) X oM hinX1 1 (by decide) rfl k16 dX1_ifPassed_56 ?_
              refine j_getCB X (oC (by decide)) hinX0 11 (by decide) rfl k138 dX1_ifPassed_59 ?_
              refine j_callSi (As := [.ref (ad 1 12)]) X (kX1_sum l D ad cs A z (aC_12 (by decide : 1 < 10)) (by decide) (mb (mb μ 0 V) 1 (days V a N P k))) (va_cwS 1 X.1.2.2.2.2 gX1_ifPassed_X1_sum rfl rfl rfl (by decide +kernel) ⟨Nat.le_of_ble_eq_true rfl, Nat.le_of_ble_eq_true rfl⟩) rfl rfl (Nat.le_of_ble_eq_true rfl) dX1_ifPassed_62 (fun r62 μ62 h62 => ?_)
              obtain ⟨h62, rfl⟩ := h62
              rw [mb_s] at h62
              rw [h62]
              refine j_aload_n (q := 1) X dX1_ifPassed_65 rfl rfl ?_
              refine j_getM (v := .ref (ad 0 0)) X oM hinX1 0 (by decide) rfl k10 dX1_ifPassed_66 ?_
              refine j_getC (v := .ref (ad 0 12)) X (oC (by decide)) hinX0 11 (by decide) rfl k138 dX1_ifPassed_69 ?_
              refine j_callSi (As := [.ref (ad 0 12)]) X (kX1_sum l D ad cs A z (aC_12 (by decide : 0 < 10)) (by decide) (mb (mb μ 0 V) 1 (days V a N P k))) (va_cwS 1 X.1.2.2.2.2 gX1_ifPassed_X1_sum rfl rfl rfl (by decide +kernel) ⟨Nat.le_of_ble_eq_true rfl, Nat.le_of_ble_eq_true rfl⟩) rfl rfl (Nat.le_of_ble_eq_true rfl) dX1_ifPassed_72 (fun r72 μ72 h72 => ?_)
              obtain ⟨h72, rfl⟩ := h72
              rw [mb_n (by decide), mb_s] at h72
              rw [h72]
              refine j_isub (v := ((sm ((days V a N P k) 12) 12) - (sm (V 12) 12))) X dX1_ifPassed_75 rfl ?_
              exact j_iret X hr hlk ⟨by rw [Rifp, if_neg (Classical.not_not.mpr ho), if_neg (show ¬ w = nI 0 from c45), if_pos (Classical.not_not.mp c52), ix_n (by omega)], _, rfl⟩ dX1_ifPassed_76
          · skip
            refine j_iload_n (q := 0) X dX1_ifPassed_48 rfl rfl ?_
            exact j_iret X hr hlk ⟨by rw [Rifp, if_neg (Classical.not_not.mpr ho), if_pos (show w = nI 0 from Classical.not_not.mp c45), ix_n (by omega)], _, rfl⟩ dX1_ifPassed_49
        · skip
          have ho : ¬ (okD dx 300 ∧ 0 ≤ w ∧ w ≤ nI 2) := fun q => c18 q.2.2
          refine j_bipush (v := (-2)) X dX1_ifPassed_21 (by decide) ?_
          exact j_iret X hr hlk ⟨by rw [Rifp, if_pos ho], mb μ 0 V 1, mb_self.symm⟩ dX1_ifPassed_23
