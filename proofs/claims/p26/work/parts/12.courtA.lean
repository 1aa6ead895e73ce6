set_option maxHeartbeats 4000000 in
set_option maxRecDepth 100000 in
theorem kX0_hasName (l : Launch) (D : va_G) (ad : Nat → Nat → Nat) (cs : Nat → ClassId) (A : Nat → Prop) (z : Nat → Nat) {b : Nat} (hb : b < 10) (μ : Mm) (V : CV) (x : Int32) : KI l D ad cs A z yX0_hasName wsX0_hasName (rm 0 0) [.ref (ad b 0), .int x] (mb μ b V) (fun r μ1 => bP r (hasN V x) ∧ μ1 = mb μ b V) := by
  refine KI_of (cc := cX0_hasName) (maxL := 2) (ret := (some .boolean)) (by decide) rfl (Nat.le_of_ble_eq_true rfl) ?_
  intro p e s m args below meth c hr hlk X
  show J p l e _ s m args below meth c 0 0 _ 2 D ad cs A 0 [(0, .ref (ad b 0)), (1, .int x)] [] (mb μ b V)
  have hinX0 : ∀ w ∈ wsX00, w ∈ wsX0_hasName := by decide +kernel
  have k53 : (Cond.fieldLink RX0 53 "PunCourts$Court" "names" "I").before args s = true := X.1.2.2.2.2 _ (by decide +kernel)
  refine j_iload_n (q := 1) X dX0_hasName_0 rfl rfl ?_
  refine j_if_lt (tgt := 22) X dX0_hasName_1 (by decide) (fun c1 => ?_) (fun c1 => ?_)
  · skip
    refine j_iconst (v := (nI 0)) X dX0_hasName_22 (by decide) ?_
    exact j_zret X hr hlk (by first | exact Or.inl rfl | exact Or.inr rfl) ⟨bP.nn (fun h => by first | exact absurd c1 (Int32.not_lt.mpr h.1) | exact absurd h.2.1 (Int32.not_lt.mpr c9) | exact absurd h.2.2 (Int32.not_lt.mpr c15)), rfl⟩ dX0_hasName_23
  · skip
    refine j_iload_n (q := 1) X dX0_hasName_4 rfl rfl ?_
    refine j_aload_n (q := 0) X dX0_hasName_5 rfl rfl ?_
    refine j_getCB X (oC hb) hinX0 2 (by decide) rfl k53 dX0_hasName_6 ?_
    refine j_icmp_ge (tgt := 22) X dX0_hasName_9 (by decide) (fun c9 => ?_) (fun c9 => ?_)
    · skip
      refine j_iconst (v := (nI 0)) X dX0_hasName_22 (by decide) ?_
      exact j_zret X hr hlk (by first | exact Or.inl rfl | exact Or.inr rfl) ⟨bP.nn (fun h => by first | exact absurd c1 (Int32.not_lt.mpr h.1) | exact absurd h.2.1 (Int32.not_lt.mpr c9) | exact absurd h.2.2 (Int32.not_lt.mpr c15)), rfl⟩ dX0_hasName_23
    · skip
      refine j_iload_n (q := 1) X dX0_hasName_12 rfl rfl ?_
      refine j_bipush (v := (nI 20)) X dX0_hasName_13 (by decide) ?_
      refine j_icmp_ge (tgt := 22) X dX0_hasName_15 (by decide) (fun c15 => ?_) (fun c15 => ?_)
      · skip
        refine j_iconst (v := (nI 0)) X dX0_hasName_22 (by decide) ?_
        exact j_zret X hr hlk (by first | exact Or.inl rfl | exact Or.inr rfl) ⟨bP.nn (fun h => by first | exact absurd c1 (Int32.not_lt.mpr h.1) | exact absurd h.2.1 (Int32.not_lt.mpr c9) | exact absurd h.2.2 (Int32.not_lt.mpr c15)), rfl⟩ dX0_hasName_23
      · skip
        refine j_iconst (v := (nI 1)) X dX0_hasName_18 (by decide) ?_
        refine j_goto (tgt := 23) X dX0_hasName_19 (by decide) ?_
        exact j_zret X hr hlk (by first | exact Or.inl rfl | exact Or.inr rfl) ⟨bP.yn ⟨Int32.not_lt.mp c1, Int32.not_le.mp c9, Int32.not_le.mp c15⟩, rfl⟩ dX0_hasName_23
set_option maxHeartbeats 4000000 in
set_option maxRecDepth 100000 in
theorem kX0_bearers (l : Launch) (D : va_G) (ad : Nat → Nat → Nat) (cs : Nat → ClassId) (A : Nat → Prop) (z : Nat → Nat) {b : Nat} (hb : b < 10) (μ : Mm) (V : CV) (x : Int32) : KI l D ad cs A z yX0_bearers wsX0_bearers (rm 0 0) [.ref (ad b 0), .int x] (mb μ b V) (fun r μ1 => r = nI (nb V x 12) ∧ μ1 = mb μ b V) := by
  refine KI_of (cc := cX0_bearers) (maxL := 4) (ret := (some .int)) (by decide) rfl (Nat.le_of_ble_eq_true rfl) ?_
  intro p e s m args below meth c hr hlk X
  show J p l e _ s m args below meth c 0 0 _ 4 D ad cs A 0 [(0, .ref (ad b 0)), (1, .int x)] [] (mb μ b V)
  have hinX0 : ∀ w ∈ wsX00, w ∈ wsX0_bearers := by decide +kernel
  have k35 : (Cond.fieldLink RX0 35 "PunCourts$Court" "borne" "[I").before args s = true := X.1.2.2.2.2 _ (by decide +kernel)
  refine j_iconst (v := (nI 0)) X dX0_bearers_0 (by decide) ?_
  refine j_istore_n (lv' := [(2, .int (nI 0)), (0, .ref (ad b 0)), (1, .int x)]) X dX0_bearers_1 rfl (by decide) rfl ?_
  refine j_iconst (v := (nI 0)) X dX0_bearers_2 (by decide) ?_
  refine j_istore_n (lv' := [(3, .int (nI 0)), (2, .int (nI 0)), (0, .ref (ad b 0)), (1, .int x)]) X dX0_bearers_3 rfl (by decide) rfl ?_
  refine jl2 (G := J p l e _ s m args below meth c 0 0 _ _ D ad cs A) (pc := 4) (fun (i : Nat) (r : Nat) => [(3, .int (nI i)), (2, .int (nI r)), (0, .ref (ad b 0)), (1, .int x)]) (fun (i : Nat) (r : Nat) => (mb μ b V)) (fun (i : Nat) (r : Nat) => i ≤ 12 ∧ r = nb V x i) (fun (i : Nat) (r : Nat) => 12 - i) ?_ 0 0 ⟨by omega, rfl⟩
  intro i r hI4 ih4
  try dsimp only at ih4 ⊢
  obtain ⟨hi, hrr⟩ := hI4
  refine j_iload_n (q := 0) X dX0_bearers_4 rfl rfl ?_
  refine j_bipush (v := (nI 12)) X dX0_bearers_5 (by decide) ?_
  refine j_ncmp_ge (tgt := 29) X i 12 dX0_bearers_7 (by decide) rfl rfl (by omega) (by omega) (fun c7 => ?_) (fun c7 => ?_)
  · skip
    refine j_iload_n (q := 1) X dX0_bearers_29 rfl rfl ?_
    exact j_iret X hr hlk ⟨by rw [hrr, show i = 12 by omega], rfl⟩ dX0_bearers_30
  · skip
    refine j_aload_n (q := 2) X dX0_bearers_10 rfl rfl ?_
    refine j_getCB X (oC hb) hinX0 9 (by decide) rfl k35 dX0_bearers_11 ?_
    refine j_iload_n (q := 0) X dX0_bearers_14 rfl rfl ?_
    refine j_ialdB X (aC_10 hb) i rfl (by omega) (by decide) dX0_bearers_15 ?_
    refine j_iload_n (q := 3) X dX0_bearers_16 rfl rfl ?_
    refine j_icmp_ne (tgt := 23) X dX0_bearers_17 (by decide) (fun c17 => ?_) (fun c17 => ?_)
    · skip
      refine j_iinc (q := 0) (v := (nI (i + 1))) (lv' := [(3, .int (nI (i + 1))), (2, .int (nI r)), (0, .ref (ad b 0)), (1, .int x)]) X dX0_bearers_23 rfl (nI_1 _) (by decide) rfl ?_
      refine j_goto (tgt := 4) X dX0_bearers_26 (by decide) ?_
      exact ih4 (i + 1) r ⟨by omega, by rw [nb]; simp_all⟩ (by omega)
    · skip
      refine j_iinc (q := 1) (v := (nI (r + 1))) (lv' := [(2, .int (nI (r + 1))), (3, .int (nI i)), (0, .ref (ad b 0)), (1, .int x)]) X dX0_bearers_20 rfl (nI_1 _) (by decide) rfl ?_
      refine j_iinc (q := 1) (v := (nI (i + 1))) (lv' := [(3, .int (nI (i + 1))), (2, .int (nI (r + 1))), (0, .ref (ad b 0)), (1, .int x)]) X dX0_bearers_23 rfl (nI_1 _) (by decide) rfl ?_
      refine j_goto (tgt := 4) X dX0_bearers_26 (by decide) ?_
      exact ih4 (i + 1) (r + 1) ⟨by omega, by rw [nb]; simp_all⟩ (by omega)
set_option maxHeartbeats 4000000 in
set_option maxRecDepth 100000 in
theorem kX0_bearerSet (l : Launch) (D : va_G) (ad : Nat → Nat → Nat) (cs : Nat → ClassId) (A : Nat → Prop) (z : Nat → Nat) {b : Nat} (hb : b < 10) (μ : Mm) (V : CV) (x : Int32) : KI l D ad cs A z yX0_bearerSet wsX0_bearerSet (rm 0 0) [.ref (ad b 0), .int x] (mb μ b V) (fun r μ1 => r = bm V x 12 ∧ μ1 = mb μ b V) := by
  refine KI_of (cc := cX0_bearerSet) (maxL := 4) (ret := (some .int)) (by decide) rfl (Nat.le_of_ble_eq_true rfl) ?_
  intro p e s m args below meth c hr hlk X
  show J p l e _ s m args below meth c 0 0 _ 4 D ad cs A 0 [(0, .ref (ad b 0)), (1, .int x)] [] (mb μ b V)
  have hinX0 : ∀ w ∈ wsX00, w ∈ wsX0_bearerSet := by decide +kernel
  have k35 : (Cond.fieldLink RX0 35 "PunCourts$Court" "borne" "[I").before args s = true := X.1.2.2.2.2 _ (by decide +kernel)
  refine j_iconst (v := (nI 0)) X dX0_bearerSet_0 (by decide) ?_
  refine j_istore_n (lv' := [(2, .int (nI 0)), (0, .ref (ad b 0)), (1, .int x)]) X dX0_bearerSet_1 rfl (by decide) rfl ?_
  refine j_iconst (v := (nI 0)) X dX0_bearerSet_2 (by decide) ?_
  refine j_istore_n (lv' := [(3, .int (nI 0)), (2, .int (nI 0)), (0, .ref (ad b 0)), (1, .int x)]) X dX0_bearerSet_3 rfl (by decide) rfl ?_
  refine jl2 (G := J p l e _ s m args below meth c 0 0 _ _ D ad cs A) (pc := 4) (fun (i : Nat) (r : Int32) => [(3, .int (nI i)), (2, .int r), (0, .ref (ad b 0)), (1, .int x)]) (fun (i : Nat) (r : Int32) => (mb μ b V)) (fun (i : Nat) (r : Int32) => i ≤ 12 ∧ r = bm V x i) (fun (i : Nat) (r : Int32) => 12 - i) ?_ 0 (nI 0) ⟨by omega, rfl⟩
  intro i r hI4 ih4
  try dsimp only at ih4 ⊢
  obtain ⟨hi, hrr⟩ := hI4
  refine j_iload_n (q := 0) X dX0_bearerSet_4 rfl rfl ?_
  refine j_bipush (v := (nI 12)) X dX0_bearerSet_5 (by decide) ?_
  refine j_ncmp_ge (tgt := 32) X i 12 dX0_bearerSet_7 (by decide) rfl rfl (by omega) (by omega) (fun c7 => ?_) (fun c7 => ?_)
  · skip
    refine j_iload_n (q := 1) X dX0_bearerSet_32 rfl rfl ?_
    exact j_iret X hr hlk ⟨by rw [hrr, show i = 12 by omega], rfl⟩ dX0_bearerSet_33
  · skip
    refine j_aload_n (q := 2) X dX0_bearerSet_10 rfl rfl ?_
    refine j_getCB X (oC hb) hinX0 9 (by decide) rfl k35 dX0_bearerSet_11 ?_
    refine j_iload_n (q := 0) X dX0_bearerSet_14 rfl rfl ?_
    refine j_ialdB X (aC_10 hb) i rfl (by omega) (by decide) dX0_bearerSet_15 ?_
    refine j_iload_n (q := 3) X dX0_bearerSet_16 rfl rfl ?_
    refine j_icmp_ne (tgt := 26) X dX0_bearerSet_17 (by decide) (fun c17 => ?_) (fun c17 => ?_)
    · skip
      refine j_iinc (q := 0) (v := (nI (i + 1))) (lv' := [(3, .int (nI (i + 1))), (2, .int r), (0, .ref (ad b 0)), (1, .int x)]) X dX0_bearerSet_26 rfl (nI_1 _) (by decide) rfl ?_
      refine j_goto (tgt := 4) X dX0_bearerSet_29 (by decide) ?_
      exact ih4 (i + 1) r ⟨by omega, by rw [bm]; simp_all⟩ (by omega)
    · skip
      refine j_iload_n (q := 1) X dX0_bearerSet_20 rfl rfl ?_
      refine j_iconst (v := (nI 1)) X dX0_bearerSet_21 (by decide) ?_
      refine j_iload_n (q := 0) X dX0_bearerSet_22 rfl rfl ?_
      refine j_ishl (v := ((nI 1) <<< ((nI i) &&& 31))) X dX0_bearerSet_23 rfl ?_
      refine j_ior (v := (r ||| ((nI 1) <<< ((nI i) &&& 31)))) X dX0_bearerSet_24 rfl ?_
      refine j_istore_n (lv' := [(2, .int (r ||| ((nI 1) <<< ((nI i) &&& 31)))), (3, .int (nI i)), (0, .ref (ad b 0)), (1, .int x)]) X dX0_bearerSet_25 rfl (by decide) rfl ?_
      refine j_iinc (q := 1) (v := (nI (i + 1))) (lv' := [(3, .int (nI (i + 1))), (2, .int (r ||| ((nI 1) <<< ((nI i) &&& 31)))), (0, .ref (ad b 0)), (1, .int x)]) X dX0_bearerSet_26 rfl (nI_1 _) (by decide) rfl ?_
      refine j_goto (tgt := 4) X dX0_bearerSet_29 (by decide) ?_
      exact ih4 (i + 1) (r ||| ((nI 1) <<< ((nI i) &&& 31))) ⟨by omega, by rw [bm]; simp_all⟩ (by omega)
set_option maxHeartbeats 4000000 in
set_option maxRecDepth 100000 in
theorem kX0_whereIs (l : Launch) (D : va_G) (ad : Nat → Nat → Nat) (cs : Nat → ClassId) (A : Nat → Prop) (z : Nat → Nat) {b : Nat} (hb : b < 10) (μ : Mm) (V : CV) (n : Nat) (hn : n < 20) : KI l D ad cs A z yX0_whereIs wsX0_whereIs (rm 1 23) [.ref (ad b 0), .int (nI n)] (mb μ b V) (fun r μ1 => r = wh V n ∧ μ1 = mb μ b V) := by
  refine KI_of (cc := cX0_whereIs) (maxL := 2) (ret := (some .int)) (by decide) rfl (Nat.le_of_ble_eq_true rfl) ?_
  intro p e s m args below meth c hr hlk X
  show J p l e _ s m args below meth c 0 0 _ 2 D ad cs A 0 [(0, .ref (ad b 0)), (1, .int (nI n))] [] (mb μ b V)
  have hinX0 : ∀ w ∈ wsX00, w ∈ wsX0_whereIs := by decide +kernel
  have k28 : (Cond.fieldLink RX0 28 "PunCourts$Court" "withdrawn" "[Z").before args s = true := X.1.2.2.2.2 _ (by decide +kernel)
  refine j_aload_n (q := 0) X dX0_whereIs_0 rfl rfl ?_
  refine j_getCB X (oC hb) hinX0 7 (by decide) rfl k28 dX0_whereIs_1 ?_
  refine j_iload_n (q := 1) X dX0_whereIs_4 rfl rfl ?_
  refine j_zaldB X (aC_8 hb) n rfl (by omega) (by decide) dX0_whereIs_5 ?_
  refine j_if_eq (tgt := 11) X dX0_whereIs_6 (by decide) (fun c6 => ?_) (fun c6 => ?_)
  · skip
    refine j_aload_n (q := 0) X dX0_whereIs_11 rfl rfl ?_
    refine j_iload_n (q := 1) X dX0_whereIs_12 rfl rfl ?_
    refine j_callVi (As := [.int (nI n)]) X (kX0_bearers l D ad cs A z hb μ V (nI n)) (oC hb) rfl (cwV 1 X.1.2.2.2.2 gX0_whereIs_X0_bearers rfl rfl rfl (by decide +kernel) ⟨Nat.le_of_ble_eq_true rfl, Nat.le_of_ble_eq_true rfl⟩) rfl rfl (Nat.le_of_ble_eq_true rfl) dX0_whereIs_13 (fun r13 μ13 h13 => ?_)
    obtain ⟨rfl, rfl⟩ := h13
    have hnb := nb_le V (nI n) 12
    refine j_if_le (tgt := 23) X dX0_whereIs_16 (by decide) (fun c16 => ?_) (fun c16 => ?_)
    · skip
      have c16n : ¬ 0 < nb V (nI n) 12 := fun q => absurd c16 (nI_nle q (by omega))
      refine j_iconst (v := (nI 0)) X dX0_whereIs_23 (by decide) ?_
      exact j_iret X hr hlk ⟨by rw [wh, if_pos c6]; rw [if_neg c16n]; rfl, rfl⟩ dX0_whereIs_24
    · skip
      have c16n : 0 < nb V (nI n) 12 := by rcases Nat.eq_zero_or_pos (nb V (nI n) 12) with q | q; (rw [q] at c16; exact absurd (by decide) c16); exact q
      refine j_iconst (v := (nI 1)) X dX0_whereIs_19 (by decide) ?_
      refine j_goto (tgt := 24) X dX0_whereIs_20 (by decide) ?_
      exact j_iret X hr hlk ⟨by rw [wh, if_pos c6]; rw [if_pos c16n]; rfl, rfl⟩ dX0_whereIs_24
  · skip
    refine j_iconst (v := (nI 2)) X dX0_whereIs_9 (by decide) ?_
    exact j_iret X hr hlk ⟨by rw [wh, if_neg c6]; rfl, rfl⟩ dX0_whereIs_10
set_option maxHeartbeats 4000000 in
set_option maxRecDepth 100000 in
theorem kX0_waits (l : Launch) (D : va_G) (ad : Nat → Nat → Nat) (cs : Nat → ClassId) (A : Nat → Prop) (z : Nat → Nat) {b : Nat} (hb : b < 10) (μ : Mm) (V : CV) (n : Nat) (hn : n < 20) : KI l D ad cs A z yX0_waits wsX0_waits (rm 2 44) [.ref (ad b 0), .int (nI n)] (mb μ b V) (fun r μ1 => bP r (wh V n = 0) ∧ μ1 = mb μ b V) := by
  refine KI_of (cc := cX0_waits) (maxL := 2) (ret := (some .boolean)) (by decide) rfl (Nat.le_of_ble_eq_true rfl) ?_
  intro p e s m args below meth c hr hlk X
  show J p l e _ s m args below meth c 0 0 _ 2 D ad cs A 0 [(0, .ref (ad b 0)), (1, .int (nI n))] [] (mb μ b V)
  refine j_aload_n (q := 0) X dX0_waits_0 rfl rfl ?_
  refine j_iload_n (q := 1) X dX0_waits_1 rfl rfl ?_
  refine j_callVi (As := [.int (nI n)]) X (kX0_whereIs l D ad cs A z hb μ V n hn) (oC hb) rfl (cwV 1 X.1.2.2.2.2 gX0_waits_X0_whereIs rfl rfl rfl (by decide +kernel) ⟨Nat.le_of_ble_eq_true rfl, Nat.le_of_ble_eq_true rfl⟩) rfl rfl (Nat.le_of_ble_eq_true rfl) dX0_waits_2 (fun r2 μ2 h2 => ?_)
  obtain ⟨h2, rfl⟩ := h2
  rw [h2]
  refine j_if_ne (tgt := 12) X dX0_waits_5 (by decide) (fun c5 => ?_) (fun c5 => ?_)
  · skip
    refine j_iconst (v := (nI 0)) X dX0_waits_12 (by decide) ?_
    exact j_zret X hr hlk (by first | exact Or.inl rfl | exact Or.inr rfl) ⟨bP.nn c5, rfl⟩ dX0_waits_13
  · skip
    refine j_iconst (v := (nI 1)) X dX0_waits_8 (by decide) ?_
    refine j_goto (tgt := 13) X dX0_waits_9 (by decide) ?_
    exact j_zret X hr hlk (by first | exact Or.inl rfl | exact Or.inr rfl) ⟨bP.yn (Classical.not_not.mp c5), rfl⟩ dX0_waits_13
set_option maxHeartbeats 4000000 in
set_option maxRecDepth 100000 in
theorem kX0_placeInQueue (l : Launch) (D : va_G) (ad : Nat → Nat → Nat) (cs : Nat → ClassId) (A : Nat → Prop) (z : Nat → Nat) {b : Nat} (hb : b < 10) (μ : Mm) (V : CV) (N : Nat) (hN : V 0 2 = nI N) (hN20 : N ≤ 20) (n : Nat) (hn : n < 20) : KI l D ad cs A z yX0_placeInQueue wsX0_placeInQueue (rm 3 65) [.ref (ad b 0), .int (nI n)] (mb μ b V) (fun r μ1 => r = (if wh V n = 0 then nI (plc V n N) else -6) ∧ μ1 = mb μ b V) := by
  refine KI_of (cc := cX0_placeInQueue) (maxL := 5) (ret := (some .int)) (by decide) rfl (Nat.le_of_ble_eq_true rfl) ?_
  intro p e s m args below meth c hr hlk X
  show J p l e _ s m args below meth c 0 0 _ 5 D ad cs A 0 [(0, .ref (ad b 0)), (1, .int (nI n))] [] (mb μ b V)
  have hinX0 : ∀ w ∈ wsX00, w ∈ wsX0_placeInQueue := by decide +kernel
  have k53 : (Cond.fieldLink RX0 53 "PunCourts$Court" "names" "I").before args s = true := X.1.2.2.2.2 _ (by decide +kernel)
  have k25 : (Cond.fieldLink RX0 25 "PunCourts$Court" "honours" "[I").before args s = true := X.1.2.2.2.2 _ (by decide +kernel)
  refine j_aload_n (q := 0) X dX0_placeInQueue_0 rfl rfl ?_
  refine j_iload_n (q := 1) X dX0_placeInQueue_1 rfl rfl ?_
  refine j_callVi (As := [.int (nI n)]) X (kX0_waits l D ad cs A z hb μ V n (by omega)) (oC hb) rfl (cwV 1 X.1.2.2.2.2 gX0_placeInQueue_X0_waits rfl rfl rfl (by decide +kernel) ⟨Nat.le_of_ble_eq_true rfl, Nat.le_of_ble_eq_true rfl⟩) rfl rfl (Nat.le_of_ble_eq_true rfl) dX0_placeInQueue_2 (fun r2 μ2 h2 => ?_)
  obtain ⟨h2, rfl⟩ := h2
  refine j_if_ne (tgt := 11) X dX0_placeInQueue_5 (by decide) (fun c5 => ?_) (fun c5 => ?_)
  · skip
    have hw0 := h2.nt c5
    refine j_iconst (v := (nI 0)) X dX0_placeInQueue_11 (by decide) ?_
    refine j_istore_n (lv' := [(2, .int (nI 0)), (0, .ref (ad b 0)), (1, .int (nI n))]) X dX0_placeInQueue_12 rfl (by decide) rfl ?_
    refine j_iconst (v := (nI 0)) X dX0_placeInQueue_13 (by decide) ?_
    refine j_istore_n (lv' := [(3, .int (nI 0)), (2, .int (nI 0)), (0, .ref (ad b 0)), (1, .int (nI n))]) X dX0_placeInQueue_14 rfl (by decide) rfl ?_
    refine jl2 (G := J p l e _ s m args below meth c 0 0 _ _ D ad cs A) (pc := 15) (fun (i : Nat) (r : Nat) => [(3, .int (nI i)), (2, .int (nI r)), (0, .ref (ad b 0)), (1, .int (nI n))]) (fun (i : Nat) (r : Nat) => (mb μ b V)) (fun (i : Nat) (r : Nat) => i ≤ N ∧ r = plc V n i) (fun (i : Nat) (r : Nat) => N - i) ?_ 0 0 ⟨by omega, rfl⟩
    intro i r hI15 ih15
    try dsimp only at ih15 ⊢
    obtain ⟨hi, hrr⟩ := hI15
    refine j_iload_n (q := 0) X dX0_placeInQueue_15 rfl rfl ?_
    refine j_aload_n (q := 2) X dX0_placeInQueue_16 rfl rfl ?_
    refine j_getCB X (oC hb) hinX0 2 (by decide) rfl k53 dX0_placeInQueue_17 ?_
    rw [hN]
    refine j_ncmp_ge (tgt := 87) X i N dX0_placeInQueue_20 (by decide) rfl rfl (by omega) (by omega) (fun c20 => ?_) (fun c20 => ?_)
    · skip
      refine j_iload_n (q := 1) X dX0_placeInQueue_87 rfl rfl ?_
      exact j_iret X hr hlk ⟨by rw [if_pos hw0, hrr, show i = N by omega], rfl⟩ dX0_placeInQueue_88
    · skip
      refine j_aload_n (q := 2) X dX0_placeInQueue_23 rfl rfl ?_
      refine j_getCB X (oC hb) hinX0 6 (by decide) rfl k25 dX0_placeInQueue_24 ?_
      refine j_iload_n (q := 0) X dX0_placeInQueue_27 rfl rfl ?_
      refine j_ialdB X (aC_7 hb) i rfl (by omega) (by decide) dX0_placeInQueue_28 ?_
      refine j_aload_n (q := 2) X dX0_placeInQueue_29 rfl rfl ?_
      refine j_getCB X (oC hb) hinX0 6 (by decide) rfl k25 dX0_placeInQueue_30 ?_
      refine j_iload_n (q := 3) X dX0_placeInQueue_33 rfl rfl ?_
      refine j_ialdB X (aC_7 hb) n rfl (by omega) (by decide) dX0_placeInQueue_34 ?_
      refine j_icmp_gt (tgt := 58) X dX0_placeInQueue_35 (by decide) (fun c35 => ?_) (fun c35 => ?_)
      · skip
        have hbf : befS V i n := Or.inl c35
        refine j_iconst (v := (nI 1)) X dX0_placeInQueue_58 (by decide) ?_
        refine j_goto (tgt := 63) X dX0_placeInQueue_59 (by decide) ?_
        refine j_istore (lv' := [(4, .int (nI 1)), (3, .int (nI i)), (2, .int (nI r)), (0, .ref (ad b 0)), (1, .int (nI n))]) X dX0_placeInQueue_63 (by decide) rfl ?_
        refine j_iload (q := 0) X dX0_placeInQueue_65 rfl ?_
        refine j_if_eq (tgt := 81) X dX0_placeInQueue_67 (by decide) (fun c67 => absurd c67 (by decide)) (fun c67 => ?_)
        refine j_aload_n (q := 3) X dX0_placeInQueue_70 rfl rfl ?_
        refine j_iload_n (q := 1) X dX0_placeInQueue_71 rfl rfl ?_
        refine j_callVi (As := [.int (nI i)]) X (kX0_waits l D ad cs A z hb μ V i (by omega)) (oC hb) rfl (cwV 1 X.1.2.2.2.2 gX0_placeInQueue_X0_waits rfl rfl rfl (by decide +kernel) ⟨Nat.le_of_ble_eq_true rfl, Nat.le_of_ble_eq_true rfl⟩) rfl rfl (Nat.le_of_ble_eq_true rfl) dX0_placeInQueue_72 (fun r72 μ72 h72 => ?_)
        obtain ⟨h72, rfl⟩ := h72
        refine j_if_eq (tgt := 81) X dX0_placeInQueue_75 (by decide) (fun c75 => ?_) (fun c75 => ?_)
        · skip
          have hs : ¬ (befS V i n ∧ wh V i = 0) := fun q => h72.f c75 q.2
          refine j_iinc (q := 1) (v := (nI (i + 1))) (lv' := [(3, .int (nI (i + 1))), (4, .int (nI 1)), (2, .int (nI r)), (0, .ref (ad b 0)), (1, .int (nI n))]) X dX0_placeInQueue_81 rfl (nI_1 _) (by decide) rfl ?_
          refine j_goto (tgt := 15) X dX0_placeInQueue_84 (by decide) ?_
          refine j_lv (lv1 := [(3, .int (nI (i + 1))), (2, .int (nI r)), (0, .ref (ad b 0)), (1, .int (nI n))]) [0, 2, 3, 4] rfl ?_
          exact ih15 (i + 1) r ⟨by omega, by rw [plc]; first | rw [if_pos hs, hrr] | rw [if_neg hs, hrr]⟩ (by omega)
        · skip
          have hs : befS V i n ∧ wh V i = 0 := And.intro hbf (h72.t c75)
          refine j_iinc (q := 2) (v := (nI (r + 1))) (lv' := [(2, .int (nI (r + 1))), (4, .int (nI 1)), (3, .int (nI i)), (0, .ref (ad b 0)), (1, .int (nI n))]) X dX0_placeInQueue_78 rfl (nI_1 _) (by decide) rfl ?_
          refine j_iinc (q := 2) (v := (nI (i + 1))) (lv' := [(3, .int (nI (i + 1))), (2, .int (nI (r + 1))), (4, .int (nI 1)), (0, .ref (ad b 0)), (1, .int (nI n))]) X dX0_placeInQueue_81 rfl (nI_1 _) (by decide) rfl ?_
          refine j_goto (tgt := 15) X dX0_placeInQueue_84 (by decide) ?_
          refine j_lv (lv1 := [(3, .int (nI (i + 1))), (2, .int (nI (r + 1))), (0, .ref (ad b 0)), (1, .int (nI n))]) [0, 1, 3, 4] rfl ?_
          exact ih15 (i + 1) (r + 1) ⟨by omega, by rw [plc]; first | rw [if_pos hs, hrr] | rw [if_neg hs, hrr]⟩ (by omega)
      · skip
        refine j_aload_n (q := 2) X dX0_placeInQueue_38 rfl rfl ?_
        refine j_getCB X (oC hb) hinX0 6 (by decide) rfl k25 dX0_placeInQueue_39 ?_
        refine j_iload_n (q := 0) X dX0_placeInQueue_42 rfl rfl ?_
        refine j_ialdB X (aC_7 hb) i rfl (by omega) (by decide) dX0_placeInQueue_43 ?_
        refine j_aload_n (q := 2) X dX0_placeInQueue_44 rfl rfl ?_
        refine j_getCB X (oC hb) hinX0 6 (by decide) rfl k25 dX0_placeInQueue_45 ?_
        refine j_iload_n (q := 3) X dX0_placeInQueue_48 rfl rfl ?_
        refine j_ialdB X (aC_7 hb) n rfl (by omega) (by decide) dX0_placeInQueue_49 ?_
        refine j_icmp_ne (tgt := 62) X dX0_placeInQueue_50 (by decide) (fun c50 => ?_) (fun c50 => ?_)
        · skip
          have hs : ¬ (befS V i n ∧ wh V i = 0) := fun q => q.1.elim (fun w => c35 w) (fun w => c50 w.1)
          refine j_iconst (v := (nI 0)) X dX0_placeInQueue_62 (by decide) ?_
          refine j_istore (lv' := [(4, .int (nI 0)), (3, .int (nI i)), (2, .int (nI r)), (0, .ref (ad b 0)), (1, .int (nI n))]) X dX0_placeInQueue_63 (by decide) rfl ?_
          refine j_iload (q := 0) X dX0_placeInQueue_65 rfl ?_
          refine j_if_eq (tgt := 81) X dX0_placeInQueue_67 (by decide) (fun c67 => ?_) (fun c67 => absurd (by decide) c67)
          refine j_iinc (q := 1) (v := (nI (i + 1))) (lv' := [(3, .int (nI (i + 1))), (4, .int (nI 0)), (2, .int (nI r)), (0, .ref (ad b 0)), (1, .int (nI n))]) X dX0_placeInQueue_81 rfl (nI_1 _) (by decide) rfl ?_
          refine j_goto (tgt := 15) X dX0_placeInQueue_84 (by decide) ?_
          refine j_lv (lv1 := [(3, .int (nI (i + 1))), (2, .int (nI r)), (0, .ref (ad b 0)), (1, .int (nI n))]) [0, 2, 3, 4] rfl ?_
          exact ih15 (i + 1) r ⟨by omega, by rw [plc]; first | rw [if_pos hs, hrr] | rw [if_neg hs, hrr]⟩ (by omega)
        · skip
          refine j_iload_n (q := 0) X dX0_placeInQueue_53 rfl rfl ?_
          refine j_iload_n (q := 3) X dX0_placeInQueue_54 rfl rfl ?_
          refine j_ncmp_ge (tgt := 62) X i n dX0_placeInQueue_55 (by decide) rfl rfl (by omega) (by omega) (fun c55 => ?_) (fun c55 => ?_)
          · skip
            have hs : ¬ (befS V i n ∧ wh V i = 0) := fun q => q.1.elim (fun w => c35 w) (fun w => absurd w.2 (by omega))
            refine j_iconst (v := (nI 0)) X dX0_placeInQueue_62 (by decide) ?_
            refine j_istore (lv' := [(4, .int (nI 0)), (3, .int (nI i)), (2, .int (nI r)), (0, .ref (ad b 0)), (1, .int (nI n))]) X dX0_placeInQueue_63 (by decide) rfl ?_
            refine j_iload (q := 0) X dX0_placeInQueue_65 rfl ?_
            refine j_if_eq (tgt := 81) X dX0_placeInQueue_67 (by decide) (fun c67 => ?_) (fun c67 => absurd (by decide) c67)
            refine j_iinc (q := 1) (v := (nI (i + 1))) (lv' := [(3, .int (nI (i + 1))), (4, .int (nI 0)), (2, .int (nI r)), (0, .ref (ad b 0)), (1, .int (nI n))]) X dX0_placeInQueue_81 rfl (nI_1 _) (by decide) rfl ?_
            refine j_goto (tgt := 15) X dX0_placeInQueue_84 (by decide) ?_
            refine j_lv (lv1 := [(3, .int (nI (i + 1))), (2, .int (nI r)), (0, .ref (ad b 0)), (1, .int (nI n))]) [0, 2, 3, 4] rfl ?_
            exact ih15 (i + 1) r ⟨by omega, by rw [plc]; first | rw [if_pos hs, hrr] | rw [if_neg hs, hrr]⟩ (by omega)
          · skip
            have hbf : befS V i n := Or.inr ⟨Classical.not_not.mp c50, by omega⟩
            refine j_iconst (v := (nI 1)) X dX0_placeInQueue_58 (by decide) ?_
            refine j_goto (tgt := 63) X dX0_placeInQueue_59 (by decide) ?_
            refine j_istore (lv' := [(4, .int (nI 1)), (3, .int (nI i)), (2, .int (nI r)), (0, .ref (ad b 0)), (1, .int (nI n))]) X dX0_placeInQueue_63 (by decide) rfl ?_
            refine j_iload (q := 0) X dX0_placeInQueue_65 rfl ?_
            refine j_if_eq (tgt := 81) X dX0_placeInQueue_67 (by decide) (fun c67 => absurd c67 (by decide)) (fun c67 => ?_)
            refine j_aload_n (q := 3) X dX0_placeInQueue_70 rfl rfl ?_
            refine j_iload_n (q := 1) X dX0_placeInQueue_71 rfl rfl ?_
            refine j_callVi (As := [.int (nI i)]) X (kX0_waits l D ad cs A z hb μ V i (by omega)) (oC hb) rfl (cwV 1 X.1.2.2.2.2 gX0_placeInQueue_X0_waits rfl rfl rfl (by decide +kernel) ⟨Nat.le_of_ble_eq_true rfl, Nat.le_of_ble_eq_true rfl⟩) rfl rfl (Nat.le_of_ble_eq_true rfl) dX0_placeInQueue_72 (fun r72 μ72 h72 => ?_)
            obtain ⟨h72, rfl⟩ := h72
            refine j_if_eq (tgt := 81) X dX0_placeInQueue_75 (by decide) (fun c75 => ?_) (fun c75 => ?_)
            · skip
              have hs : ¬ (befS V i n ∧ wh V i = 0) := fun q => h72.f c75 q.2
              refine j_iinc (q := 1) (v := (nI (i + 1))) (lv' := [(3, .int (nI (i + 1))), (4, .int (nI 1)), (2, .int (nI r)), (0, .ref (ad b 0)), (1, .int (nI n))]) X dX0_placeInQueue_81 rfl (nI_1 _) (by decide) rfl ?_
              refine j_goto (tgt := 15) X dX0_placeInQueue_84 (by decide) ?_
              refine j_lv (lv1 := [(3, .int (nI (i + 1))), (2, .int (nI r)), (0, .ref (ad b 0)), (1, .int (nI n))]) [0, 2, 3, 4] rfl ?_
              exact ih15 (i + 1) r ⟨by omega, by rw [plc]; first | rw [if_pos hs, hrr] | rw [if_neg hs, hrr]⟩ (by omega)
            · skip
              have hs : befS V i n ∧ wh V i = 0 := And.intro hbf (h72.t c75)
              refine j_iinc (q := 2) (v := (nI (r + 1))) (lv' := [(2, .int (nI (r + 1))), (4, .int (nI 1)), (3, .int (nI i)), (0, .ref (ad b 0)), (1, .int (nI n))]) X dX0_placeInQueue_78 rfl (nI_1 _) (by decide) rfl ?_
              refine j_iinc (q := 2) (v := (nI (i + 1))) (lv' := [(3, .int (nI (i + 1))), (2, .int (nI (r + 1))), (4, .int (nI 1)), (0, .ref (ad b 0)), (1, .int (nI n))]) X dX0_placeInQueue_81 rfl (nI_1 _) (by decide) rfl ?_
              refine j_goto (tgt := 15) X dX0_placeInQueue_84 (by decide) ?_
              refine j_lv (lv1 := [(3, .int (nI (i + 1))), (2, .int (nI (r + 1))), (0, .ref (ad b 0)), (1, .int (nI n))]) [0, 1, 3, 4] rfl ?_
              exact ih15 (i + 1) (r + 1) ⟨by omega, by rw [plc]; first | rw [if_pos hs, hrr] | rw [if_neg hs, hrr]⟩ (by omega)
  · skip
    have hw0 := h2.nf c5
    refine j_bipush (v := (-6)) X dX0_placeInQueue_8 (by decide) ?_
    exact j_iret X hr hlk ⟨by rw [if_neg hw0], rfl⟩ dX0_placeInQueue_10
set_option maxHeartbeats 4000000 in
set_option maxRecDepth 100000 in
theorem kX0_waitingNames (l : Launch) (D : va_G) (ad : Nat → Nat → Nat) (cs : Nat → ClassId) (A : Nat → Prop) (z : Nat → Nat) {b : Nat} (hb : b < 10) (μ : Mm) (V : CV) (N : Nat) (hN : V 0 2 = nI N) (hN20 : N ≤ 20) : KI l D ad cs A z yX0_waitingNames wsX0_waitingNames (rm 3 65) [.ref (ad b 0)] (mb μ b V) (fun r μ1 => r = nI (wtn V N) ∧ μ1 = mb μ b V) := by
  refine KI_of (cc := cX0_waitingNames) (maxL := 3) (ret := (some .int)) (by decide) rfl (Nat.le_of_ble_eq_true rfl) ?_
  intro p e s m args below meth c hr hlk X
  show J p l e _ s m args below meth c 0 0 _ 3 D ad cs A 0 [(0, .ref (ad b 0))] [] (mb μ b V)
  have hinX0 : ∀ w ∈ wsX00, w ∈ wsX0_waitingNames := by decide +kernel
  have k53 : (Cond.fieldLink RX0 53 "PunCourts$Court" "names" "I").before args s = true := X.1.2.2.2.2 _ (by decide +kernel)
  refine j_iconst (v := (nI 0)) X dX0_waitingNames_0 (by decide) ?_
  refine j_istore_n (lv' := [(1, .int (nI 0)), (0, .ref (ad b 0))]) X dX0_waitingNames_1 rfl (by decide) rfl ?_
  refine j_iconst (v := (nI 0)) X dX0_waitingNames_2 (by decide) ?_
  refine j_istore_n (lv' := [(2, .int (nI 0)), (1, .int (nI 0)), (0, .ref (ad b 0))]) X dX0_waitingNames_3 rfl (by decide) rfl ?_
  refine jl2 (G := J p l e _ s m args below meth c 0 0 _ _ D ad cs A) (pc := 4) (fun (i : Nat) (r : Nat) => [(2, .int (nI i)), (1, .int (nI r)), (0, .ref (ad b 0))]) (fun (i : Nat) (r : Nat) => (mb μ b V)) (fun (i : Nat) (r : Nat) => i ≤ N ∧ r = wtn V i) (fun (i : Nat) (r : Nat) => N - i) ?_ 0 0 ⟨by omega, rfl⟩
  intro i r hI4 ih4
  try dsimp only at ih4 ⊢
  obtain ⟨hi, hrr⟩ := hI4
  refine j_iload_n (q := 0) X dX0_waitingNames_4 rfl rfl ?_
  refine j_aload_n (q := 2) X dX0_waitingNames_5 rfl rfl ?_
  refine j_getCB X (oC hb) hinX0 2 (by decide) rfl k53 dX0_waitingNames_6 ?_
  rw [hN]
  refine j_ncmp_ge (tgt := 29) X i N dX0_waitingNames_9 (by decide) rfl rfl (by omega) (by omega) (fun c9 => ?_) (fun c9 => ?_)
  · skip
    refine j_iload_n (q := 1) X dX0_waitingNames_29 rfl rfl ?_
    exact j_iret X hr hlk ⟨by rw [hrr, show i = N by omega], rfl⟩ dX0_waitingNames_30
  · skip
    refine j_aload_n (q := 2) X dX0_waitingNames_12 rfl rfl ?_
    refine j_iload_n (q := 0) X dX0_waitingNames_13 rfl rfl ?_
    refine j_callVi (As := [.int (nI i)]) X (kX0_waits l D ad cs A z hb μ V i (by omega)) (oC hb) rfl (cwV 1 X.1.2.2.2.2 gX0_waitingNames_X0_waits rfl rfl rfl (by decide +kernel) ⟨Nat.le_of_ble_eq_true rfl, Nat.le_of_ble_eq_true rfl⟩) rfl rfl (Nat.le_of_ble_eq_true rfl) dX0_waitingNames_14 (fun r14 μ14 h14 => ?_)
    obtain ⟨h14, rfl⟩ := h14
    refine j_if_eq (tgt := 23) X dX0_waitingNames_17 (by decide) (fun c17 => ?_) (fun c17 => ?_)
    · skip
      have hw := h14.f c17
      refine j_iinc (q := 0) (v := (nI (i + 1))) (lv' := [(2, .int (nI (i + 1))), (1, .int (nI r)), (0, .ref (ad b 0))]) X dX0_waitingNames_23 rfl (nI_1 _) (by decide) rfl ?_
      refine j_goto (tgt := 4) X dX0_waitingNames_26 (by decide) ?_
      exact ih4 (i + 1) r ⟨by omega, by rw [wtn]; simp_all⟩ (by omega)
    · skip
      have hw := h14.t c17
      refine j_iinc (q := 1) (v := (nI (r + 1))) (lv' := [(1, .int (nI (r + 1))), (2, .int (nI i)), (0, .ref (ad b 0))]) X dX0_waitingNames_20 rfl (nI_1 _) (by decide) rfl ?_
      refine j_iinc (q := 1) (v := (nI (i + 1))) (lv' := [(2, .int (nI (i + 1))), (1, .int (nI (r + 1))), (0, .ref (ad b 0))]) X dX0_waitingNames_23 rfl (nI_1 _) (by decide) rfl ?_
      refine j_goto (tgt := 4) X dX0_waitingNames_26 (by decide) ?_
      exact ih4 (i + 1) (r + 1) ⟨by omega, by rw [wtn]; simp_all⟩ (by omega)
set_option maxHeartbeats 4000000 in
set_option maxRecDepth 100000 in
theorem kX0_bearingCorners (l : Launch) (D : va_G) (ad : Nat → Nat → Nat) (cs : Nat → ClassId) (A : Nat → Prop) (z : Nat → Nat) {b : Nat} (hb : b < 10) (μ : Mm) (V : CV) : KI l D ad cs A z yX0_bearingCorners wsX0_bearingCorners (rm 1 23) [.ref (ad b 0)] (mb μ b V) (fun r μ1 => r = nI (12 - nb V (-6) 12) ∧ μ1 = mb μ b V) := by
  refine KI_of (cc := cX0_bearingCorners) (maxL := 1) (ret := (some .int)) (by decide) rfl (Nat.le_of_ble_eq_true rfl) ?_
  intro p e s m args below meth c hr hlk X
  show J p l e _ s m args below meth c 0 0 _ 1 D ad cs A 0 [(0, .ref (ad b 0))] [] (mb μ b V)
  refine j_bipush (v := (nI 12)) X dX0_bearingCorners_0 (by decide) ?_
  refine j_aload_n (q := 0) X dX0_bearingCorners_2 rfl rfl ?_
  refine j_bipush (v := (-6)) X dX0_bearingCorners_3 (by decide) ?_
  refine j_callVi (As := [.int (-6)]) X (kX0_bearers l D ad cs A z hb μ V (-6)) (oC hb) rfl (cwV 1 X.1.2.2.2.2 gX0_bearingCorners_X0_bearers rfl rfl rfl (by decide +kernel) ⟨Nat.le_of_ble_eq_true rfl, Nat.le_of_ble_eq_true rfl⟩) rfl rfl (Nat.le_of_ble_eq_true rfl) dX0_bearingCorners_5 (fun r5 μ5 h5 => ?_)
  obtain ⟨rfl, rfl⟩ := h5
  have hnb := nb_le V (-6) 12
  refine j_isub (v := (nI (12 - (nb V (-6) 12)))) X dX0_bearingCorners_8 (pk_sub (by omega)) ?_
  exact j_iret X hr hlk ⟨rfl, rfl⟩ dX0_bearingCorners_9
set_option maxHeartbeats 4000000 in
set_option maxRecDepth 100000 in
theorem kX0_isPun (l : Launch) (D : va_G) (ad : Nat → Nat → Nat) (cs : Nat → ClassId) (A : Nat → Prop) (z : Nat → Nat) {b : Nat} (hb : b < 10) (μ : Mm) (V : CV) (x y : Int32) : KI l D ad cs A z yX0_isPun wsX0_isPun (rm 1 21) [.ref (ad b 0), .int x, .int y] (mb μ b V) (fun r μ1 => bP r (punS V x y) ∧ μ1 = mb μ b V) := by
  refine KI_of (cc := cX0_isPun) (maxL := 3) (ret := (some .boolean)) (by decide) rfl (Nat.le_of_ble_eq_true rfl) ?_
  intro p e s m args below meth c hr hlk X
  show J p l e _ s m args below meth c 0 0 _ 3 D ad cs A 0 [(0, .ref (ad b 0)), (1, .int x), (2, .int y)] [] (mb μ b V)
  have hinX0 : ∀ w ∈ wsX00, w ∈ wsX0_isPun := by decide +kernel
  have k22 : (Cond.fieldLink RX0 22 "PunCourts$Court" "sounds" "[I").before args s = true := X.1.2.2.2.2 _ (by decide +kernel)
  refine j_iload_n (q := 1) X dX0_isPun_0 rfl rfl ?_
  refine j_iload_n (q := 2) X dX0_isPun_1 rfl rfl ?_
  refine j_icmp_eq (tgt := 40) X dX0_isPun_2 (by decide) (fun c2 => ?_) (fun c2 => ?_)
  · skip
    refine j_iconst (v := (nI 0)) X dX0_isPun_40 (by decide) ?_
    exact j_zret X hr hlk (by first | exact Or.inl rfl | exact Or.inr rfl) ⟨bP.nn (fun h => by first | exact h.1 c2 | exact h7 h.2.1 | exact h15 h.2.2.1 | exact c33 h.2.2.2), rfl⟩ dX0_isPun_41
  · skip
    refine j_aload_n (q := 0) X dX0_isPun_5 rfl rfl ?_
    refine j_iload_n (q := 1) X dX0_isPun_6 rfl rfl ?_
    refine j_callVi (As := [.int x]) X (kX0_hasName l D ad cs A z hb μ V x) (oC hb) rfl (cwV 1 X.1.2.2.2.2 gX0_isPun_X0_hasName rfl rfl rfl (by decide +kernel) ⟨Nat.le_of_ble_eq_true rfl, Nat.le_of_ble_eq_true rfl⟩) rfl rfl (Nat.le_of_ble_eq_true rfl) dX0_isPun_7 (fun r7 μ7 h7 => ?_)
    obtain ⟨h7, rfl⟩ := h7
    refine j_if_eq (tgt := 40) X dX0_isPun_10 (by decide) (fun c10 => ?_) (fun c10 => ?_)
    · skip
      have h7 := h7.f c10
      refine j_iconst (v := (nI 0)) X dX0_isPun_40 (by decide) ?_
      exact j_zret X hr hlk (by first | exact Or.inl rfl | exact Or.inr rfl) ⟨bP.nn (fun h => by first | exact h.1 c2 | exact h7 h.2.1 | exact h15 h.2.2.1 | exact c33 h.2.2.2), rfl⟩ dX0_isPun_41
    · skip
      have h7 := h7.t c10
      have hx := h7.ix
      refine j_aload_n (q := 0) X dX0_isPun_13 rfl rfl ?_
      refine j_iload_n (q := 2) X dX0_isPun_14 rfl rfl ?_
      refine j_callVi (As := [.int y]) X (kX0_hasName l D ad cs A z hb μ V y) (oC hb) rfl (cwV 1 X.1.2.2.2.2 gX0_isPun_X0_hasName rfl rfl rfl (by decide +kernel) ⟨Nat.le_of_ble_eq_true rfl, Nat.le_of_ble_eq_true rfl⟩) rfl rfl (Nat.le_of_ble_eq_true rfl) dX0_isPun_15 (fun r15 μ15 h15 => ?_)
      obtain ⟨h15, rfl⟩ := h15
      refine j_if_eq (tgt := 40) X dX0_isPun_18 (by decide) (fun c18 => ?_) (fun c18 => ?_)
      · skip
        have h15 := h15.f c18
        refine j_iconst (v := (nI 0)) X dX0_isPun_40 (by decide) ?_
        exact j_zret X hr hlk (by first | exact Or.inl rfl | exact Or.inr rfl) ⟨bP.nn (fun h => by first | exact h.1 c2 | exact h7 h.2.1 | exact h15 h.2.2.1 | exact c33 h.2.2.2), rfl⟩ dX0_isPun_41
      · skip
        have h15 := h15.t c18
        have hy := h15.ix
        refine j_aload_n (q := 0) X dX0_isPun_21 rfl rfl ?_
        refine j_getCB X (oC hb) hinX0 5 (by decide) rfl k22 dX0_isPun_22 ?_
        refine j_iload_n (q := 1) X dX0_isPun_25 rfl rfl ?_
        refine j_ialdB X (aC_6 hb) x.toNatClampNeg hx.1 hx.2 (by decide) dX0_isPun_26 ?_
        refine j_aload_n (q := 0) X dX0_isPun_27 rfl rfl ?_
        refine j_getCB X (oC hb) hinX0 5 (by decide) rfl k22 dX0_isPun_28 ?_
        refine j_iload_n (q := 2) X dX0_isPun_31 rfl rfl ?_
        refine j_ialdB X (aC_6 hb) y.toNatClampNeg hy.1 hy.2 (by decide) dX0_isPun_32 ?_
        refine j_icmp_ne (tgt := 40) X dX0_isPun_33 (by decide) (fun c33 => ?_) (fun c33 => ?_)
        · skip
          refine j_iconst (v := (nI 0)) X dX0_isPun_40 (by decide) ?_
          exact j_zret X hr hlk (by first | exact Or.inl rfl | exact Or.inr rfl) ⟨bP.nn (fun h => by first | exact h.1 c2 | exact h7 h.2.1 | exact h15 h.2.2.1 | exact c33 h.2.2.2), rfl⟩ dX0_isPun_41
        · skip
          refine j_iconst (v := (nI 1)) X dX0_isPun_36 (by decide) ?_
          refine j_goto (tgt := 41) X dX0_isPun_37 (by decide) ?_
          exact j_zret X hr hlk (by first | exact Or.inl rfl | exact Or.inr rfl) ⟨bP.yn ⟨c2, h7, h15, Classical.not_not.mp c33⟩, rfl⟩ dX0_isPun_41
set_option maxHeartbeats 4000000 in
set_option maxRecDepth 100000 in
theorem kX0_punPairs (l : Launch) (D : va_G) (ad : Nat → Nat → Nat) (cs : Nat → ClassId) (A : Nat → Prop) (z : Nat → Nat) {b : Nat} (hb : b < 10) (μ : Mm) (V : CV) : KI l D ad cs A z yX0_punPairs wsX0_punPairs (rm 2 43) [.ref (ad b 0)] (mb μ b V) (fun r μ1 => r = nI (pp V 12) ∧ μ1 = mb μ b V) := by
  refine KI_of (cc := cX0_punPairs) (maxL := 4) (ret := (some .int)) (by decide) rfl (Nat.le_of_ble_eq_true rfl) ?_
  intro p e s m args below meth c hr hlk X
  show J p l e _ s m args below meth c 0 0 _ 4 D ad cs A 0 [(0, .ref (ad b 0))] [] (mb μ b V)
  have hinX0 : ∀ w ∈ wsX00, w ∈ wsX0_punPairs := by decide +kernel
  have k35 : (Cond.fieldLink RX0 35 "PunCourts$Court" "borne" "[I").before args s = true := X.1.2.2.2.2 _ (by decide +kernel)
  refine j_iconst (v := (nI 0)) X dX0_punPairs_0 (by decide) ?_
  refine j_istore_n (lv' := [(1, .int (nI 0)), (0, .ref (ad b 0))]) X dX0_punPairs_1 rfl (by decide) rfl ?_
  refine j_iconst (v := (nI 0)) X dX0_punPairs_2 (by decide) ?_
  refine j_istore_n (lv' := [(2, .int (nI 0)), (1, .int (nI 0)), (0, .ref (ad b 0))]) X dX0_punPairs_3 rfl (by decide) rfl ?_
  refine jl2 (G := J p l e _ s m args below meth c 0 0 _ _ D ad cs A) (pc := 4) (fun (i : Nat) (r : Nat) => [(2, .int (nI i)), (1, .int (nI r)), (0, .ref (ad b 0))]) (fun (i : Nat) (r : Nat) => (mb μ b V)) (fun (i : Nat) (r : Nat) => i ≤ 12 ∧ r = pp V i) (fun (i : Nat) (r : Nat) => 12 - i) ?_ 0 0 ⟨by omega, rfl⟩
  intro i r hI4 ih4
  try dsimp only at ih4 ⊢
  obtain ⟨hi, hrr⟩ := hI4
  refine j_iload_n (q := 0) X dX0_punPairs_4 rfl rfl ?_
  refine j_bipush (v := (nI 12)) X dX0_punPairs_5 (by decide) ?_
  refine j_ncmp_ge (tgt := 54) X i 12 dX0_punPairs_7 (by decide) rfl rfl (by omega) (by omega) (fun c7 => ?_) (fun c7 => ?_)
  · skip
    refine j_iload_n (q := 1) X dX0_punPairs_54 rfl rfl ?_
    exact j_iret X hr hlk ⟨by rw [hrr, show i = 12 by omega], rfl⟩ dX0_punPairs_55
  · skip
    refine j_iload_n (q := 0) X dX0_punPairs_10 rfl rfl ?_
    refine j_iconst (v := (nI 1)) X dX0_punPairs_11 (by decide) ?_
    refine j_iadd (v := (nI (i + 1))) X dX0_punPairs_12 (nI_add _ _) ?_
    refine j_istore_n (lv' := [(3, .int (nI (i + 1))), (2, .int (nI i)), (1, .int (nI r)), (0, .ref (ad b 0))]) X dX0_punPairs_13 rfl (by decide) rfl ?_
    refine j_lv [0, 2, 3, 1] rfl ?_
    refine jl2 (G := J p l e _ s m args below meth c 0 0 _ _ D ad cs A) (pc := 14) (fun (d : Nat) (r2 : Nat) => [(3, .int (nI d)), (1, .int (nI r2)), (0, .ref (ad b 0)), (2, .int (nI i))]) (fun (d : Nat) (r2 : Nat) => (mb μ b V)) (fun (d : Nat) (r2 : Nat) => i < d ∧ d ≤ 12 ∧ r2 = pp V i + pq V i d) (fun (d : Nat) (r2 : Nat) => 12 - d) ?_ (i + 1) r ⟨by omega, by omega, by rw [pq_0 V i (i + 1) (by omega), hrr]; rfl⟩
    intro d r2 hI14 ih14
    try dsimp only at ih14 ⊢
    obtain ⟨hid, hd, hr2⟩ := hI14
    refine j_iload_n (q := 0) X dX0_punPairs_14 rfl rfl ?_
    refine j_bipush (v := (nI 12)) X dX0_punPairs_15 (by decide) ?_
    refine j_ncmp_ge (tgt := 48) X d 12 dX0_punPairs_17 (by decide) rfl rfl (by omega) (by omega) (fun c17 => ?_) (fun c17 => ?_)
    · skip
      refine j_iinc (q := 3) (v := (nI (i + 1))) (lv' := [(2, .int (nI (i + 1))), (3, .int (nI d)), (1, .int (nI r2)), (0, .ref (ad b 0))]) X dX0_punPairs_48 rfl (nI_1 _) (by decide) rfl ?_
      refine j_goto (tgt := 4) X dX0_punPairs_51 (by decide) ?_
      refine j_lv (lv1 := [(2, .int (nI (i + 1))), (1, .int (nI r2)), (0, .ref (ad b 0))]) [0, 2, 3] rfl ?_
      exact ih4 (i + 1) r2 ⟨by omega, by rw [pp, hr2, show d = 12 by omega]⟩ (by omega)
    · skip
      refine j_aload_n (q := 2) X dX0_punPairs_20 rfl rfl ?_
      refine j_aload_n (q := 2) X dX0_punPairs_21 rfl rfl ?_
      refine j_getCB X (oC hb) hinX0 9 (by decide) rfl k35 dX0_punPairs_22 ?_
      refine j_iload_n (q := 3) X dX0_punPairs_25 rfl rfl ?_
      refine j_ialdB X (aC_10 hb) i rfl (by omega) (by decide) dX0_punPairs_26 ?_
      refine j_aload_n (q := 2) X dX0_punPairs_27 rfl rfl ?_
      refine j_getCB X (oC hb) hinX0 9 (by decide) rfl k35 dX0_punPairs_28 ?_
      refine j_iload_n (q := 0) X dX0_punPairs_31 rfl rfl ?_
      refine j_ialdB X (aC_10 hb) d rfl (by omega) (by decide) dX0_punPairs_32 ?_
      refine j_callVi (As := [.int (V 10 i), .int (V 10 d)]) X (kX0_isPun l D ad cs A z hb μ V (V 10 i) (V 10 d)) (oC hb) rfl (cwV 2 X.1.2.2.2.2 gX0_punPairs_X0_isPun rfl rfl rfl (by decide +kernel) ⟨Nat.le_of_ble_eq_true rfl, Nat.le_of_ble_eq_true rfl⟩) rfl rfl (Nat.le_of_ble_eq_true rfl) dX0_punPairs_33 (fun r33 μ33 h33 => ?_)
      obtain ⟨h33, rfl⟩ := h33
      refine j_if_eq (tgt := 42) X dX0_punPairs_36 (by decide) (fun c36 => ?_) (fun c36 => ?_)
      · skip
        have hw := h33.f c36
        have hw2 : ¬ (i < d ∧ punS V (V 10 i) (V 10 d)) := fun q => hw q.2
        refine j_iinc (q := 0) (v := (nI (d + 1))) (lv' := [(3, .int (nI (d + 1))), (1, .int (nI r2)), (0, .ref (ad b 0)), (2, .int (nI i))]) X dX0_punPairs_42 rfl (nI_1 _) (by decide) rfl ?_
        refine j_goto (tgt := 14) X dX0_punPairs_45 (by decide) ?_
        exact ih14 (d + 1) r2 ⟨by omega, by omega, by rw [pq]; first | rw [if_neg hw2]; exact hr2 | (rw [if_pos hw2, hr2]; omega)⟩ (by omega)
      · skip
        have hw := h33.t c36
        have hw2 : (i < d ∧ punS V (V 10 i) (V 10 d)) := ⟨hid, hw⟩
        refine j_iinc (q := 1) (v := (nI (r2 + 1))) (lv' := [(1, .int (nI (r2 + 1))), (3, .int (nI d)), (0, .ref (ad b 0)), (2, .int (nI i))]) X dX0_punPairs_39 rfl (nI_1 _) (by decide) rfl ?_
        refine j_iinc (q := 1) (v := (nI (d + 1))) (lv' := [(3, .int (nI (d + 1))), (1, .int (nI (r2 + 1))), (0, .ref (ad b 0)), (2, .int (nI i))]) X dX0_punPairs_42 rfl (nI_1 _) (by decide) rfl ?_
        refine j_goto (tgt := 14) X dX0_punPairs_45 (by decide) ?_
        exact ih14 (d + 1) (r2 + 1) ⟨by omega, by omega, by rw [pq]; first | rw [if_neg hw2]; exact hr2 | (rw [if_pos hw2, hr2]; omega)⟩ (by omega)
