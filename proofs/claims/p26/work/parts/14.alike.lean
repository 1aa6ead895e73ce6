set_option maxHeartbeats 4000000 in
set_option maxRecDepth 100000 in
theorem kX0_alikeByLetters (l : Launch) (D : va_G) (ad : Nat → Nat → Nat) (cs : Nat → ClassId) (A : Nat → Prop) (z : Nat → Nat) {b : Nat} (hb : b < 10) (μ : Mm) (V : CV) (n1 : Nat) (hn1 : n1 < 20) (L1 : Nat) (hL1 : V 5 n1 = nI L1) (hL91 : L1 ≤ 9) (n2 : Nat) (hn2 : n2 < 20) (L2 : Nat) (hL2 : V 5 n2 = nI L2) (hL92 : L2 ≤ 9) : KI l D ad cs A z yX0_alikeByLetters wsX0_alikeByLetters (rm 3 71) [.ref (ad b 0), .int (nI n1), .int (nI n2)] (mb μ b V) (fun r μ1 => bP r (hls (sga V n1) L1 = hls (sga V n2) L2) ∧ μ1 = mb μ b V) := by
  refine KI_of (cc := cX0_alikeByLetters) (maxL := 6) (ret := (some .boolean)) (by decide) rfl (Nat.le_of_ble_eq_true rfl) ?_
  intro p e s m args below meth c hr hlk X
  show J p l e _ s m args below meth c 0 0 _ 6 D ad cs A 0 [(0, .ref (ad b 0)), (1, .int (nI n1)), (2, .int (nI n2))] [] (mb μ b V)
  have hinX0 : ∀ w ∈ wsX00, w ∈ wsX0_alikeByLetters := by decide +kernel
  have k19 : (Cond.fieldLink RX0 19 "PunCourts$Court" "lengths" "[I").before args s = true := X.1.2.2.2.2 _ (by decide +kernel)
  refine j_aload_n (q := 0) X dX0_alikeByLetters_0 rfl rfl ?_
  refine j_iload_n (q := 1) X dX0_alikeByLetters_1 rfl rfl ?_
  refine j_iconst (v := (nI 0)) X dX0_alikeByLetters_2 (by decide) ?_
  refine j_callVi (As := [.int (nI n1), .int (nI 0)]) X (kX0_nextHeard l D ad cs A z hb μ V n1 hn1 L1 hL1 hL91 0 (by omega)) (oC hb) rfl (cwV 2 X.1.2.2.2.2 gX0_alikeByLetters_X0_nextHeard rfl rfl rfl (by decide +kernel) ⟨Nat.le_of_ble_eq_true rfl, Nat.le_of_ble_eq_true rfl⟩) rfl rfl (Nat.le_of_ble_eq_true rfl) dX0_alikeByLetters_3 (fun r3 μ3 h3 => ?_)
  obtain ⟨⟨k3, h3, k3a, k3b, k3c, k3d⟩, rfl⟩ := h3
  rw [h3]
  refine j_istore_n (lv' := [(3, .int (nI k3)), (0, .ref (ad b 0)), (1, .int (nI n1)), (2, .int (nI n2))]) X dX0_alikeByLetters_6 rfl (by decide) rfl ?_
  refine j_aload_n (q := 1) X dX0_alikeByLetters_7 rfl rfl ?_
  refine j_iload_n (q := 3) X dX0_alikeByLetters_8 rfl rfl ?_
  refine j_iconst (v := (nI 0)) X dX0_alikeByLetters_9 (by decide) ?_
  refine j_callVi (As := [.int (nI n2), .int (nI 0)]) X (kX0_nextHeard l D ad cs A z hb μ V n2 hn2 L2 hL2 hL92 0 (by omega)) (oC hb) rfl (cwV 2 X.1.2.2.2.2 gX0_alikeByLetters_X0_nextHeard rfl rfl rfl (by decide +kernel) ⟨Nat.le_of_ble_eq_true rfl, Nat.le_of_ble_eq_true rfl⟩) rfl rfl (Nat.le_of_ble_eq_true rfl) dX0_alikeByLetters_10 (fun r10 μ10 h10 => ?_)
  obtain ⟨⟨k10, h10, k10a, k10b, k10c, k10d⟩, rfl⟩ := h10
  rw [h10]
  refine j_istore (lv' := [(4, .int (nI k10)), (3, .int (nI k3)), (0, .ref (ad b 0)), (1, .int (nI n1)), (2, .int (nI n2))]) X dX0_alikeByLetters_13 (by decide) rfl ?_
  refine j_iconst (v := (nI 0)) X dX0_alikeByLetters_15 (by decide) ?_
  refine j_istore (lv' := [(5, .int (nI 0)), (4, .int (nI k10)), (3, .int (nI k3)), (0, .ref (ad b 0)), (1, .int (nI n1)), (2, .int (nI n2))]) X dX0_alikeByLetters_16 (by decide) rfl ?_
  refine j_lv [0, 2, 1, 3, 4, 5] rfl ?_
  refine jl3 (G := J p l e _ s m args below meth c 0 0 _ _ D ad cs A) (pc := 18) (fun (h0 : Nat) (i : Nat) (j : Nat) => [(5, .int (nI h0)), (3, .int (nI i)), (4, .int (nI j)), (0, .ref (ad b 0)), (1, .int (nI n1)), (2, .int (nI n2))]) (fun (h0 : Nat) (i : Nat) (j : Nat) => (mb μ b V)) (fun (h0 : Nat) (i : Nat) (j : Nat) => i ≤ L1 ∧ j ≤ L2 ∧ (i < L1 → hrd (sga V n1) i) ∧ (j < L2 → hrd (sga V n2) j) ∧ hls (sga V n1) i = hls (sga V n2) j ∧ h0 = (hls (sga V n1) i).length ∧ h0 ≤ 9) (fun (h0 : Nat) (i : Nat) (j : Nat) => 9 - h0) ?_ 0 k3 k10 ⟨k3b, k10b, k3d, k10d, by rw [hls_skip k3 k3a k3c, hls_skip k10 k10a k10c, hls_0, hls_0], by rw [hls_skip k3 k3a k3c, hls_0, List.length_nil], by omega⟩
  intro h0 i j hI18 ih18
  try dsimp only at ih18 ⊢
  obtain ⟨hi, hj, hhi, hhj, hll, hh0, hh9⟩ := hI18
  have hle1 := hls_len (sga V n1) i
  have hle2 := hls_len (sga V n2) j
  refine j_iload (q := 0) X dX0_alikeByLetters_18 rfl ?_
  refine j_bipush (v := (nI 9)) X dX0_alikeByLetters_20 (by decide) ?_
  refine j_ncmp_ge (tgt := 90) X h0 9 dX0_alikeByLetters_22 (by decide) rfl rfl (by omega) (by omega) (fun c22 => ?_) (fun c22 => ?_)
  · skip
    refine j_iload_n (q := 1) X dX0_alikeByLetters_90 rfl rfl ?_
    refine j_aload_n (q := 3) X dX0_alikeByLetters_91 rfl rfl ?_
    refine j_getCB X (oC hb) hinX0 4 (by decide) rfl k19 dX0_alikeByLetters_92 ?_
    refine j_iload_n (q := 4) X dX0_alikeByLetters_95 rfl rfl ?_
    refine j_ialdB X (aC_5 hb) n1 rfl (by omega) (by decide) dX0_alikeByLetters_96 ?_
    rw [hL1]
    refine j_ncmp_lt (tgt := 115) X i L1 dX0_alikeByLetters_97 (by decide) rfl rfl (by omega) (by omega) (fun c97 => ?_) (fun c97 => ?_)
    · skip
      refine j_iconst (v := (nI 0)) X dX0_alikeByLetters_115 (by decide) ?_
      have hx : (i < L1 ∧ j = L2) ∨ (j < L2 ∧ i = L1) := by rw [hll] at hh0; omega
      exact j_zret X hr hlk (by first | exact Or.inl rfl | exact Or.inr rfl) ⟨bP.nn (hls_ne hll hx hhi hhj), rfl⟩ dX0_alikeByLetters_116
    · skip
      refine j_iload (q := 2) X dX0_alikeByLetters_100 rfl ?_
      refine j_aload_n (q := 3) X dX0_alikeByLetters_102 rfl rfl ?_
      refine j_getCB X (oC hb) hinX0 4 (by decide) rfl k19 dX0_alikeByLetters_103 ?_
      refine j_iload_n (q := 5) X dX0_alikeByLetters_106 rfl rfl ?_
      refine j_ialdB X (aC_5 hb) n2 rfl (by omega) (by decide) dX0_alikeByLetters_107 ?_
      rw [hL2]
      refine j_ncmp_lt (tgt := 115) X j L2 dX0_alikeByLetters_108 (by decide) rfl rfl (by omega) (by omega) (fun c108 => ?_) (fun c108 => ?_)
      · skip
        refine j_iconst (v := (nI 0)) X dX0_alikeByLetters_115 (by decide) ?_
        have hx : (i < L1 ∧ j = L2) ∨ (j < L2 ∧ i = L1) := by rw [hll] at hh0; omega
        exact j_zret X hr hlk (by first | exact Or.inl rfl | exact Or.inr rfl) ⟨bP.nn (hls_ne hll hx hhi hhj), rfl⟩ dX0_alikeByLetters_116
      · skip
        refine j_iconst (v := (nI 1)) X dX0_alikeByLetters_111 (by decide) ?_
        refine j_goto (tgt := 116) X dX0_alikeByLetters_112 (by decide) ?_
        exact j_zret X hr hlk (by first | exact Or.inl rfl | exact Or.inr rfl) ⟨bP.yn (by rw [show L1 = i by omega, show L2 = j by omega]; exact hll), rfl⟩ dX0_alikeByLetters_116
  · skip
    refine j_iload_n (q := 1) X dX0_alikeByLetters_25 rfl rfl ?_
    refine j_aload_n (q := 3) X dX0_alikeByLetters_26 rfl rfl ?_
    refine j_getCB X (oC hb) hinX0 4 (by decide) rfl k19 dX0_alikeByLetters_27 ?_
    refine j_iload_n (q := 4) X dX0_alikeByLetters_30 rfl rfl ?_
    refine j_ialdB X (aC_5 hb) n1 rfl (by omega) (by decide) dX0_alikeByLetters_31 ?_
    rw [hL1]
    refine j_ncmp_ge (tgt := 90) X i L1 dX0_alikeByLetters_32 (by decide) rfl rfl (by omega) (by omega) (fun c32 => ?_) (fun c32 => ?_)
    · skip
      refine j_iload_n (q := 1) X dX0_alikeByLetters_90 rfl rfl ?_
      refine j_aload_n (q := 3) X dX0_alikeByLetters_91 rfl rfl ?_
      refine j_getCB X (oC hb) hinX0 4 (by decide) rfl k19 dX0_alikeByLetters_92 ?_
      refine j_iload_n (q := 4) X dX0_alikeByLetters_95 rfl rfl ?_
      refine j_ialdB X (aC_5 hb) n1 rfl (by omega) (by decide) dX0_alikeByLetters_96 ?_
      rw [hL1]
      refine j_ncmp_lt (tgt := 115) X i L1 dX0_alikeByLetters_97 (by decide) rfl rfl (by omega) (by omega) (fun c97 => ?_) (fun c97 => ?_)
      · skip
        refine j_iconst (v := (nI 0)) X dX0_alikeByLetters_115 (by decide) ?_
        have hx : (i < L1 ∧ j = L2) ∨ (j < L2 ∧ i = L1) := by rw [hll] at hh0; omega
        exact j_zret X hr hlk (by first | exact Or.inl rfl | exact Or.inr rfl) ⟨bP.nn (hls_ne hll hx hhi hhj), rfl⟩ dX0_alikeByLetters_116
      · skip
        refine j_iload (q := 2) X dX0_alikeByLetters_100 rfl ?_
        refine j_aload_n (q := 3) X dX0_alikeByLetters_102 rfl rfl ?_
        refine j_getCB X (oC hb) hinX0 4 (by decide) rfl k19 dX0_alikeByLetters_103 ?_
        refine j_iload_n (q := 5) X dX0_alikeByLetters_106 rfl rfl ?_
        refine j_ialdB X (aC_5 hb) n2 rfl (by omega) (by decide) dX0_alikeByLetters_107 ?_
        rw [hL2]
        refine j_ncmp_lt (tgt := 115) X j L2 dX0_alikeByLetters_108 (by decide) rfl rfl (by omega) (by omega) (fun c108 => ?_) (fun c108 => ?_)
        · skip
          refine j_iconst (v := (nI 0)) X dX0_alikeByLetters_115 (by decide) ?_
          have hx : (i < L1 ∧ j = L2) ∨ (j < L2 ∧ i = L1) := by rw [hll] at hh0; omega
          exact j_zret X hr hlk (by first | exact Or.inl rfl | exact Or.inr rfl) ⟨bP.nn (hls_ne hll hx hhi hhj), rfl⟩ dX0_alikeByLetters_116
        · skip
          refine j_iconst (v := (nI 1)) X dX0_alikeByLetters_111 (by decide) ?_
          refine j_goto (tgt := 116) X dX0_alikeByLetters_112 (by decide) ?_
          exact j_zret X hr hlk (by first | exact Or.inl rfl | exact Or.inr rfl) ⟨bP.yn (by rw [show L1 = i by omega, show L2 = j by omega]; exact hll), rfl⟩ dX0_alikeByLetters_116
    · skip
      refine j_iload (q := 2) X dX0_alikeByLetters_35 rfl ?_
      refine j_aload_n (q := 3) X dX0_alikeByLetters_37 rfl rfl ?_
      refine j_getCB X (oC hb) hinX0 4 (by decide) rfl k19 dX0_alikeByLetters_38 ?_
      refine j_iload_n (q := 5) X dX0_alikeByLetters_41 rfl rfl ?_
      refine j_ialdB X (aC_5 hb) n2 rfl (by omega) (by decide) dX0_alikeByLetters_42 ?_
      rw [hL2]
      refine j_ncmp_ge (tgt := 90) X j L2 dX0_alikeByLetters_43 (by decide) rfl rfl (by omega) (by omega) (fun c43 => ?_) (fun c43 => ?_)
      · skip
        refine j_iload_n (q := 1) X dX0_alikeByLetters_90 rfl rfl ?_
        refine j_aload_n (q := 3) X dX0_alikeByLetters_91 rfl rfl ?_
        refine j_getCB X (oC hb) hinX0 4 (by decide) rfl k19 dX0_alikeByLetters_92 ?_
        refine j_iload_n (q := 4) X dX0_alikeByLetters_95 rfl rfl ?_
        refine j_ialdB X (aC_5 hb) n1 rfl (by omega) (by decide) dX0_alikeByLetters_96 ?_
        rw [hL1]
        refine j_ncmp_lt (tgt := 115) X i L1 dX0_alikeByLetters_97 (by decide) rfl rfl (by omega) (by omega) (fun c97 => ?_) (fun c97 => ?_)
        · skip
          refine j_iconst (v := (nI 0)) X dX0_alikeByLetters_115 (by decide) ?_
          have hx : (i < L1 ∧ j = L2) ∨ (j < L2 ∧ i = L1) := by rw [hll] at hh0; omega
          exact j_zret X hr hlk (by first | exact Or.inl rfl | exact Or.inr rfl) ⟨bP.nn (hls_ne hll hx hhi hhj), rfl⟩ dX0_alikeByLetters_116
        · skip
          refine j_iload (q := 2) X dX0_alikeByLetters_100 rfl ?_
          refine j_aload_n (q := 3) X dX0_alikeByLetters_102 rfl rfl ?_
          refine j_getCB X (oC hb) hinX0 4 (by decide) rfl k19 dX0_alikeByLetters_103 ?_
          refine j_iload_n (q := 5) X dX0_alikeByLetters_106 rfl rfl ?_
          refine j_ialdB X (aC_5 hb) n2 rfl (by omega) (by decide) dX0_alikeByLetters_107 ?_
          rw [hL2]
          refine j_ncmp_lt (tgt := 115) X j L2 dX0_alikeByLetters_108 (by decide) rfl rfl (by omega) (by omega) (fun c108 => ?_) (fun c108 => ?_)
          · skip
            refine j_iconst (v := (nI 0)) X dX0_alikeByLetters_115 (by decide) ?_
            have hx : (i < L1 ∧ j = L2) ∨ (j < L2 ∧ i = L1) := by rw [hll] at hh0; omega
            exact j_zret X hr hlk (by first | exact Or.inl rfl | exact Or.inr rfl) ⟨bP.nn (hls_ne hll hx hhi hhj), rfl⟩ dX0_alikeByLetters_116
          · skip
            refine j_iconst (v := (nI 1)) X dX0_alikeByLetters_111 (by decide) ?_
            refine j_goto (tgt := 116) X dX0_alikeByLetters_112 (by decide) ?_
            exact j_zret X hr hlk (by first | exact Or.inl rfl | exact Or.inr rfl) ⟨bP.yn (by rw [show L1 = i by omega, show L2 = j by omega]; exact hll), rfl⟩ dX0_alikeByLetters_116
      · skip
        refine j_aload_n (q := 3) X dX0_alikeByLetters_46 rfl rfl ?_
        refine j_iload_n (q := 4) X dX0_alikeByLetters_47 rfl rfl ?_
        refine j_iload_n (q := 1) X dX0_alikeByLetters_48 rfl rfl ?_
        refine j_callVi (As := [.int (nI n1), .int (nI i)]) X (kX0_signAt l D ad cs A z hb μ V n1 hn1 i (by omega)) (oC hb) rfl (cwV 2 X.1.2.2.2.2 gX0_alikeByLetters_X0_signAt rfl rfl rfl (by decide +kernel) ⟨Nat.le_of_ble_eq_true rfl, Nat.le_of_ble_eq_true rfl⟩) rfl rfl (Nat.le_of_ble_eq_true rfl) dX0_alikeByLetters_49 (fun r49 μ49 h49 => ?_)
        obtain ⟨h49, rfl⟩ := h49
        rw [h49]
        refine j_aload_n (q := 3) X dX0_alikeByLetters_52 rfl rfl ?_
        refine j_iload_n (q := 5) X dX0_alikeByLetters_53 rfl rfl ?_
        refine j_iload (q := 2) X dX0_alikeByLetters_54 rfl ?_
        refine j_callVi (As := [.int (nI n2), .int (nI j)]) X (kX0_signAt l D ad cs A z hb μ V n2 hn2 j (by omega)) (oC hb) rfl (cwV 2 X.1.2.2.2.2 gX0_alikeByLetters_X0_signAt rfl rfl rfl (by decide +kernel) ⟨Nat.le_of_ble_eq_true rfl, Nat.le_of_ble_eq_true rfl⟩) rfl rfl (Nat.le_of_ble_eq_true rfl) dX0_alikeByLetters_56 (fun r56 μ56 h56 => ?_)
        obtain ⟨h56, rfl⟩ := h56
        rw [h56]
        refine j_icmp_eq (tgt := 64) X dX0_alikeByLetters_59 (by decide) (fun c59 => ?_) (fun c59 => ?_)
        · skip
          refine j_aload_n (q := 3) X dX0_alikeByLetters_64 rfl rfl ?_
          refine j_iload_n (q := 4) X dX0_alikeByLetters_65 rfl rfl ?_
          refine j_iload_n (q := 1) X dX0_alikeByLetters_66 rfl rfl ?_
          refine j_iconst (v := (nI 1)) X dX0_alikeByLetters_67 (by decide) ?_
          refine j_iadd (v := (nI (i + 1))) X dX0_alikeByLetters_68 (nI_add _ _) ?_
          refine j_callVi (As := [.int (nI n1), .int (nI (i + 1))]) X (kX0_nextHeard l D ad cs A z hb μ V n1 hn1 L1 hL1 hL91 (i + 1) (by omega)) (oC hb) rfl (cwV 2 X.1.2.2.2.2 gX0_alikeByLetters_X0_nextHeard rfl rfl rfl (by decide +kernel) ⟨Nat.le_of_ble_eq_true rfl, Nat.le_of_ble_eq_true rfl⟩) rfl rfl (Nat.le_of_ble_eq_true rfl) dX0_alikeByLetters_69 (fun r69 μ69 h69 => ?_)
          obtain ⟨⟨k69, h69, k69a, k69b, k69c, k69d⟩, rfl⟩ := h69
          rw [h69]
          refine j_istore_n (lv' := [(3, .int (nI k69)), (5, .int (nI h0)), (4, .int (nI j)), (0, .ref (ad b 0)), (1, .int (nI n1)), (2, .int (nI n2))]) X dX0_alikeByLetters_72 rfl (by decide) rfl ?_
          refine j_aload_n (q := 3) X dX0_alikeByLetters_73 rfl rfl ?_
          refine j_iload_n (q := 5) X dX0_alikeByLetters_74 rfl rfl ?_
          refine j_iload (q := 2) X dX0_alikeByLetters_75 rfl ?_
          refine j_iconst (v := (nI 1)) X dX0_alikeByLetters_77 (by decide) ?_
          refine j_iadd (v := (nI (j + 1))) X dX0_alikeByLetters_78 (nI_add _ _) ?_
          refine j_callVi (As := [.int (nI n2), .int (nI (j + 1))]) X (kX0_nextHeard l D ad cs A z hb μ V n2 hn2 L2 hL2 hL92 (j + 1) (by omega)) (oC hb) rfl (cwV 2 X.1.2.2.2.2 gX0_alikeByLetters_X0_nextHeard rfl rfl rfl (by decide +kernel) ⟨Nat.le_of_ble_eq_true rfl, Nat.le_of_ble_eq_true rfl⟩) rfl rfl (Nat.le_of_ble_eq_true rfl) dX0_alikeByLetters_79 (fun r79 μ79 h79 => ?_)
          obtain ⟨⟨k79, h79, k79a, k79b, k79c, k79d⟩, rfl⟩ := h79
          rw [h79]
          refine j_istore (lv' := [(4, .int (nI k79)), (3, .int (nI k69)), (5, .int (nI h0)), (0, .ref (ad b 0)), (1, .int (nI n1)), (2, .int (nI n2))]) X dX0_alikeByLetters_82 (by decide) rfl ?_
          refine j_iinc (q := 2) (v := (nI (h0 + 1))) (lv' := [(5, .int (nI (h0 + 1))), (4, .int (nI k79)), (3, .int (nI k69)), (0, .ref (ad b 0)), (1, .int (nI n1)), (2, .int (nI n2))]) X dX0_alikeByLetters_84 rfl (nI_1 _) (by decide) rfl ?_
          refine j_goto (tgt := 18) X dX0_alikeByLetters_87 (by decide) ?_
          refine j_lv (lv1 := [(5, .int (nI (h0 + 1))), (3, .int (nI k69)), (4, .int (nI k79)), (0, .ref (ad b 0)), (1, .int (nI n1)), (2, .int (nI n2))]) [0, 2, 1, 3, 4, 5] rfl ?_
          exact ih18 (h0 + 1) k69 k79 ⟨k69b, k79b, k69d, k79d, by rw [hls_skip k69 k69a k69c, hls_skip k79 k79a k79c, hls, if_pos (hhi (by omega)), hls, if_pos (hhj (by omega)), hll, c59], by rw [hls_skip k69 k69a k69c, hls, if_pos (hhi (by omega)), List.length_append, ← hh0, List.length_singleton], by omega⟩ (by omega)
        · skip
          refine j_iconst (v := (nI 0)) X dX0_alikeByLetters_62 (by decide) ?_
          exact j_zret X hr hlk (by first | exact Or.inl rfl | exact Or.inr rfl) ⟨bP.nn (fun q => by obtain ⟨u, hu⟩ := hls_at (k := L1) (by omega) (hhi (by omega)); obtain ⟨w, hw⟩ := hls_at (k := L2) (by omega) (hhj (by omega)); rw [hu, hw, hll] at q; exact c59 (List.cons.inj (List.append_cancel_left q)).1), rfl⟩ dX0_alikeByLetters_63
