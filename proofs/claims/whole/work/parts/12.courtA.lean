set_option maxHeartbeats 4000000 in
set_option maxRecDepth 100000 in
theorem kX0_hasName (l : Launch) (D : va_G) (ad : Nat → Nat → Nat) (cs : Nat → ClassId) (A : Nat → Prop) (z : Nat → Nat) {b : Nat} (hb : b < 10) (μ : Mm) (V : CV) (x : Int32) : KI l D ad cs A z yX0_hasName wsX0_hasName (rm 0 0) [.ref (ad b 0), .int x] (mb μ b V) (fun r μ1 => bP r (hasN V x) ∧ μ1 = mb μ b V) := by
  refine KI_of (cc := cX0_hasName) (maxL := 2) (ret := (some .boolean)) (by decide) rfl (by decide) ?_
  intro p e s m args below meth c hr hlk X
  show J p l e _ s m args below meth c 0 0 _ 2 D ad cs A 0 [(0, .ref (ad b 0)), (1, .int x)] [] (mb μ b V)
  have hinX0 : ∀ w ∈ wsX00, w ∈ wsX0_hasName := by decide +kernel
  have k53 : (Cond.fieldLink RX0 53 "PunCourts$Court" "names" "I").before args s = true := X.1.2.2.2.2 _ (by decide +kernel)
  refine j_iload_n (q := 1) X dX0_hasName_0 rfl rfl ?_
  refine j_if_lt (tgt := 22) X dX0_hasName_1 (by decide) (fun c1 => ?_) (fun c1 => ?_)
  · skip
    refine j_iconst (v := (nI 0)) X dX0_hasName_22 (by decide) ?_
    exact j_zret X hr hlk (by first | exact Or.inl rfl | exact Or.inr rfl) ⟨bP.nn (fun h => by first | exact c1 h.1 | exact c1 (by simpa using h.1) | exact c9 h.2.1 | exact c14 h.2.2), rfl⟩ dX0_hasName_23
  · skip
    refine j_iload_n (q := 1) X dX0_hasName_4 rfl rfl ?_
    refine j_aload_n (q := 0) X dX0_hasName_5 rfl rfl ?_
    refine j_getCB X (oC hb) hinX0 2 (by decide) rfl k53 dX0_hasName_6 ?_
    refine j_icmp_ge (tgt := 22) X dX0_hasName_9 (by decide) (fun c9 => ?_) (fun c9 => ?_)
    · skip
      refine j_iconst (v := (nI 0)) X dX0_hasName_22 (by decide) ?_
      exact j_zret X hr hlk (by first | exact Or.inl rfl | exact Or.inr rfl) ⟨bP.nn (fun h => by first | exact c1 h.1 | exact c1 (by simpa using h.1) | exact c9 h.2.1 | exact c14 h.2.2), rfl⟩ dX0_hasName_23
    · skip
      refine j_iload_n (q := 1) X dX0_hasName_12 rfl rfl ?_
      refine j_bipush (v := (nI 20)) X dX0_hasName_13 (by decide) ?_
      refine j_icmp_ge (tgt := 22) X dX0_hasName_15 (by decide) (fun c15 => ?_) (fun c15 => ?_)
      · skip
        refine j_iconst (v := (nI 0)) X dX0_hasName_22 (by decide) ?_
        exact j_zret X hr hlk (by first | exact Or.inl rfl | exact Or.inr rfl) ⟨bP.nn (fun h => by first | exact c1 h.1 | exact c1 (by simpa using h.1) | exact c9 h.2.1 | exact c14 h.2.2), rfl⟩ dX0_hasName_23
      · skip
        refine j_iconst (v := (nI 1)) X dX0_hasName_18 (by decide) ?_
        refine j_goto (tgt := 23) X dX0_hasName_19 (by decide) ?_
        exact j_zret X hr hlk (by first | exact Or.inl rfl | exact Or.inr rfl) ⟨bP.yn ⟨by simpa using c1, c9, by simpa using c14⟩, rfl⟩ dX0_hasName_23
set_option maxHeartbeats 4000000 in
set_option maxRecDepth 100000 in
theorem kX0_bearers (l : Launch) (D : va_G) (ad : Nat → Nat → Nat) (cs : Nat → ClassId) (A : Nat → Prop) (z : Nat → Nat) {b : Nat} (hb : b < 10) (μ : Mm) (V : CV) (x : Int32) : KI l D ad cs A z yX0_bearers wsX0_bearers (rm 0 0) [.ref (ad b 0), .int x] (mb μ b V) (fun r μ1 => r = nI (nb V x 12) ∧ μ1 = mb μ b V) := by
  refine KI_of (cc := cX0_bearers) (maxL := 4) (ret := (some .int)) (by decide) rfl (by decide) ?_
  intro p e s m args below meth c hr hlk X
  show J p l e _ s m args below meth c 0 0 _ 4 D ad cs A 0 [(0, .ref (ad b 0)), (1, .int x)] [] (mb μ b V)
  have hinX0 : ∀ w ∈ wsX00, w ∈ wsX0_bearers := by decide +kernel
  have k35 : (Cond.fieldLink RX0 35 "PunCourts$Court" "borne" "[I").before args s = true := X.1.2.2.2.2 _ (by decide +kernel)
  refine j_iconst (v := (nI 0)) X dX0_bearers_0 (by decide) ?_
  refine j_istore_n (lv' := [(2, .int (nI 0)), (0, .ref (ad b 0)), (1, .int x)]) X dX0_bearers_1 rfl (by decide) rfl ?_
  refine j_iconst (v := (nI 0)) X dX0_bearers_2 (by decide) ?_
  refine j_istore_n (lv' := [(3, .int (nI 0)), (2, .int (nI 0)), (0, .ref (ad b 0)), (1, .int x)]) X dX0_bearers_3 rfl (by decide) rfl ?_
  refine jl2 (G := J p l e _ s m args below meth c 0 0 _ _ D ad cs A) (pc := 4) (fun (i : Nat) (r : Nat) => [(3, .int (nI i)), (2, .int (nI r)), (0, .ref (ad b 0)), (1, .int x)]) (fun (i : Nat) (r : Nat) => (mb μ b V)) (fun (i : Nat) (r : Nat) => i ≤ 12 ∧ r = nb V x i) (fun (i : Nat) (r : Nat) => 12 - i) ?_ 0 0 ⟨by omega, rfl⟩
  intro i r hI4 ih4
  try dsimp only at ih4 ⊢
  obtain ⟨hi, hrr⟩ := hI4
  refine j_iload_n (q := 0) X dX0_bearers_4 rfl rfl ?_
  refine j_bipush (v := (nI 12)) X dX0_bearers_5 (by decide) ?_
  refine j_ncmp_ge (tgt := 29) X i 12 dX0_bearers_7 (by decide) rfl rfl (by omega) (by omega) (fun c7 => ?_) (fun c7 => ?_)
  · skip
    refine j_iload_n (q := 1) X dX0_bearers_29 rfl rfl ?_
    exact j_iret X hr hlk ⟨by rw [hrr, show i = 12 by omega], rfl⟩ dX0_bearers_30
  · skip
    refine j_aload_n (q := 2) X dX0_bearers_10 rfl rfl ?_
    refine j_getCB X (oC hb) hinX0 9 (by decide) rfl k35 dX0_bearers_11 ?_
    refine j_iload_n (q := 0) X dX0_bearers_14 rfl rfl ?_
    refine j_ialdB X (aC_10 hb) i rfl (by omega) (by decide) dX0_bearers_15 ?_
    refine j_iload_n (q := 3) X dX0_bearers_16 rfl rfl ?_
    refine j_icmp_ne (tgt := 23) X dX0_bearers_17 (by decide) (fun c17 => ?_) (fun c17 => ?_)
    · skip
      refine j_iinc (q := 0) (v := (nI (i + 1))) (lv' := [(3, .int (nI (i + 1))), (2, .int (nI r)), (0, .ref (ad b 0)), (1, .int x)]) X dX0_bearers_23 rfl (nI_1 _) (by decide) rfl ?_
      refine j_goto (tgt := 4) X dX0_bearers_26 (by decide) ?_
      exact ih4 (i + 1) r ⟨by omega, by rw [nb]; simp_all⟩ (by omega)
    · skip
      refine j_iinc (q := 1) (v := (nI (r + 1))) (lv' := [(2, .int (nI (r + 1))), (3, .int (nI i)), (0, .ref (ad b 0)), (1, .int x)]) X dX0_bearers_20 rfl (nI_1 _) (by decide) rfl ?_
      refine j_iinc (q := 1) (v := (nI (i + 1))) (lv' := [(3, .int (nI (i + 1))), (2, .int (nI (r + 1))), (0, .ref (ad b 0)), (1, .int x)]) X dX0_bearers_23 rfl (nI_1 _) (by decide) rfl ?_
      refine j_goto (tgt := 4) X dX0_bearers_26 (by decide) ?_
      exact ih4 (i + 1) (r + 1) ⟨by omega, by rw [nb]; simp_all⟩ (by omega)
set_option maxHeartbeats 4000000 in
set_option maxRecDepth 100000 in
theorem kX0_whereIs (l : Launch) (D : va_G) (ad : Nat → Nat → Nat) (cs : Nat → ClassId) (A : Nat → Prop) (z : Nat → Nat) {b : Nat} (hb : b < 10) (μ : Mm) (V : CV) (n : Nat) (hn : n < 20) : KI l D ad cs A z yX0_whereIs wsX0_whereIs (rm 1 23) [.ref (ad b 0), .int (nI n)] (mb μ b V) (fun r μ1 => r = wh V n ∧ μ1 = mb μ b V) := by
  refine KI_of (cc := cX0_whereIs) (maxL := 2) (ret := (some .int)) (by decide) rfl (by decide) ?_
  intro p e s m args below meth c hr hlk X
  show J p l e _ s m args below meth c 0 0 _ 2 D ad cs A 0 [(0, .ref (ad b 0)), (1, .int (nI n))] [] (mb μ b V)
  have hinX0 : ∀ w ∈ wsX00, w ∈ wsX0_whereIs := by decide +kernel
  have k28 : (Cond.fieldLink RX0 28 "PunCourts$Court" "withdrawn" "[Z").before args s = true := X.1.2.2.2.2 _ (by decide +kernel)
  refine j_aload_n (q := 0) X dX0_whereIs_0 rfl rfl ?_
  refine j_getCB X (oC hb) hinX0 7 (by decide) rfl k28 dX0_whereIs_1 ?_
  refine j_iload_n (q := 1) X dX0_whereIs_4 rfl rfl ?_
  refine j_zaldB X (aC_8 hb) n rfl (by omega) (by decide) dX0_whereIs_5 ?_
  refine j_if_eq (tgt := 11) X dX0_whereIs_6 (by decide) (fun c6 => ?_) (fun c6 => ?_)
  · skip
    refine j_aload_n (q := 0) X dX0_whereIs_11 rfl rfl ?_
    refine j_iload_n (q := 1) X dX0_whereIs_12 rfl rfl ?_
    refine j_callVi (As := [.int (nI n)]) X (kX0_bearers l D ad cs A z hb μ V (nI n)) (oC hb) rfl (cwV 1 X.1.2.2.2.2 gX0_whereIs_X0_bearers rfl rfl rfl (by decide +kernel) ⟨Nat.le_of_ble_eq_true rfl, Nat.le_of_ble_eq_true rfl⟩) rfl rfl (by decide) dX0_whereIs_13 (fun r13 μ13 h13 => ?_)
    obtain ⟨rfl, rfl⟩ := h13
    have hnb := nb_le V (nI n) 12
    refine j_if_le (tgt := 23) X dX0_whereIs_16 (by decide) (fun c16 => ?_) (fun c16 => ?_)
    · skip
      refine j_iconst (v := (nI 0)) X dX0_whereIs_23 (by decide) ?_
      exact j_iret X hr hlk ⟨by rw [wh]; simp_all, rfl⟩ dX0_whereIs_24
    · skip
      refine j_iconst (v := (nI 1)) X dX0_whereIs_19 (by decide) ?_
      refine j_goto (tgt := 24) X dX0_whereIs_20 (by decide) ?_
      exact j_iret X hr hlk ⟨by rw [wh]; simp_all, rfl⟩ dX0_whereIs_24
  · skip
    refine j_iconst (v := (nI 2)) X dX0_whereIs_9 (by decide) ?_
    exact j_iret X hr hlk ⟨by rw [wh]; simp_all, rfl⟩ dX0_whereIs_10
