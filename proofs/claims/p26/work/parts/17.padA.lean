set_option maxHeartbeats 4000000 in
set_option maxRecDepth 100000 in
theorem kX1_isLetter (l : Launch) (D : va_G) (ad : Nat → Nat → Nat) (cs : Nat → ClassId) (A : Nat → Prop) (z : Nat → Nat) (μ : Mm) (V : CV) (x : Int32) : KI l D ad cs A z yX1_isLetter wsX1_isLetter (rm 0 0) [.int x] (mb μ 10 V) (fun r μ1 => bP r (isL x) ∧ μ1 = mb μ 10 V) := by
  refine KI_of (cc := cX1_isLetter) (maxL := 1) (ret := (some .boolean)) (by decide) rfl (Nat.le_of_ble_eq_true rfl) ?_
  intro p e s m args below meth c hr hlk X
  show J p l e _ s m args below meth c 0 0 _ 1 D ad cs A 0 [(0, .int x)] [] (mb μ 10 V)
  refine j_iload_n (q := 0) X dX1_isLetter_0 rfl rfl ?_
  refine j_bipush (v := (nI 97)) X dX1_isLetter_1 (by decide) ?_
  refine j_icmp_lt (tgt := 16) X dX1_isLetter_3 (by decide) (fun c3 => ?_) (fun c3 => ?_)
  · skip
    refine j_iconst (v := (nI 0)) X dX1_isLetter_16 (by decide) ?_
    exact j_zret X hr hlk (by first | exact Or.inl rfl | exact Or.inr rfl) ⟨bP.nn (fun q => by first | exact absurd c3 (Int32.not_lt.mpr q.1) | exact absurd c9 (Int32.not_lt.mpr q.2)), rfl⟩ dX1_isLetter_17
  · skip
    refine j_iload_n (q := 0) X dX1_isLetter_6 rfl rfl ?_
    refine j_bipush (v := (nI 122)) X dX1_isLetter_7 (by decide) ?_
    refine j_icmp_gt (tgt := 16) X dX1_isLetter_9 (by decide) (fun c9 => ?_) (fun c9 => ?_)
    · skip
      refine j_iconst (v := (nI 0)) X dX1_isLetter_16 (by decide) ?_
      exact j_zret X hr hlk (by first | exact Or.inl rfl | exact Or.inr rfl) ⟨bP.nn (fun q => by first | exact absurd c3 (Int32.not_lt.mpr q.1) | exact absurd c9 (Int32.not_lt.mpr q.2)), rfl⟩ dX1_isLetter_17
    · skip
      refine j_iconst (v := (nI 1)) X dX1_isLetter_12 (by decide) ?_
      refine j_goto (tgt := 17) X dX1_isLetter_13 (by decide) ?_
      exact j_zret X hr hlk (by first | exact Or.inl rfl | exact Or.inr rfl) ⟨bP.yn ⟨Int32.not_lt.mp c3, Int32.not_lt.mp c9⟩, rfl⟩ dX1_isLetter_17
set_option maxHeartbeats 4000000 in
set_option maxRecDepth 100000 in
theorem kX1_isDigit (l : Launch) (D : va_G) (ad : Nat → Nat → Nat) (cs : Nat → ClassId) (A : Nat → Prop) (z : Nat → Nat) (μ : Mm) (V : CV) (x : Int32) : KI l D ad cs A z yX1_isDigit wsX1_isDigit (rm 0 0) [.int x] (mb μ 10 V) (fun r μ1 => bP r (isD x) ∧ μ1 = mb μ 10 V) := by
  refine KI_of (cc := cX1_isDigit) (maxL := 1) (ret := (some .boolean)) (by decide) rfl (Nat.le_of_ble_eq_true rfl) ?_
  intro p e s m args below meth c hr hlk X
  show J p l e _ s m args below meth c 0 0 _ 1 D ad cs A 0 [(0, .int x)] [] (mb μ 10 V)
  refine j_iload_n (q := 0) X dX1_isDigit_0 rfl rfl ?_
  refine j_bipush (v := (nI 48)) X dX1_isDigit_1 (by decide) ?_
  refine j_icmp_lt (tgt := 16) X dX1_isDigit_3 (by decide) (fun c3 => ?_) (fun c3 => ?_)
  · skip
    refine j_iconst (v := (nI 0)) X dX1_isDigit_16 (by decide) ?_
    exact j_zret X hr hlk (by first | exact Or.inl rfl | exact Or.inr rfl) ⟨bP.nn (fun q => by first | exact absurd c3 (Int32.not_lt.mpr q.1) | exact absurd c9 (Int32.not_lt.mpr q.2)), rfl⟩ dX1_isDigit_17
  · skip
    refine j_iload_n (q := 0) X dX1_isDigit_6 rfl rfl ?_
    refine j_bipush (v := (nI 57)) X dX1_isDigit_7 (by decide) ?_
    refine j_icmp_gt (tgt := 16) X dX1_isDigit_9 (by decide) (fun c9 => ?_) (fun c9 => ?_)
    · skip
      refine j_iconst (v := (nI 0)) X dX1_isDigit_16 (by decide) ?_
      exact j_zret X hr hlk (by first | exact Or.inl rfl | exact Or.inr rfl) ⟨bP.nn (fun q => by first | exact absurd c3 (Int32.not_lt.mpr q.1) | exact absurd c9 (Int32.not_lt.mpr q.2)), rfl⟩ dX1_isDigit_17
    · skip
      refine j_iconst (v := (nI 1)) X dX1_isDigit_12 (by decide) ?_
      refine j_goto (tgt := 17) X dX1_isDigit_13 (by decide) ?_
      exact j_zret X hr hlk (by first | exact Or.inl rfl | exact Or.inr rfl) ⟨bP.yn ⟨Int32.not_lt.mp c3, Int32.not_lt.mp c9⟩, rfl⟩ dX1_isDigit_17
set_option maxHeartbeats 4000000 in
set_option maxRecDepth 100000 in
theorem kX1_isCorner (l : Launch) (D : va_G) (ad : Nat → Nat → Nat) (cs : Nat → ClassId) (A : Nat → Prop) (z : Nat → Nat) (μ : Mm) (V : CV) (x : Int32) : KI l D ad cs A z yX1_isCorner wsX1_isCorner (rm 0 0) [.int x] (mb μ 10 V) (fun r μ1 => bP r (0 ≤ x ∧ x < nI 12) ∧ μ1 = mb μ 10 V) := by
  refine KI_of (cc := cX1_isCorner) (maxL := 1) (ret := (some .boolean)) (by decide) rfl (Nat.le_of_ble_eq_true rfl) ?_
  intro p e s m args below meth c hr hlk X
  show J p l e _ s m args below meth c 0 0 _ 1 D ad cs A 0 [(0, .int x)] [] (mb μ 10 V)
  refine j_iload_n (q := 0) X dX1_isCorner_0 rfl rfl ?_
  refine j_if_lt (tgt := 14) X dX1_isCorner_1 (by decide) (fun c1 => ?_) (fun c1 => ?_)
  · skip
    refine j_iconst (v := (nI 0)) X dX1_isCorner_14 (by decide) ?_
    exact j_zret X hr hlk (by first | exact Or.inl rfl | exact Or.inr rfl) ⟨bP.nn (fun q => by first | exact absurd c1 (Int32.not_lt.mpr q.1) | exact absurd q.2 (Int32.not_lt.mpr c7)), rfl⟩ dX1_isCorner_15
  · skip
    refine j_iload_n (q := 0) X dX1_isCorner_4 rfl rfl ?_
    refine j_bipush (v := (nI 12)) X dX1_isCorner_5 (by decide) ?_
    refine j_icmp_ge (tgt := 14) X dX1_isCorner_7 (by decide) (fun c7 => ?_) (fun c7 => ?_)
    · skip
      refine j_iconst (v := (nI 0)) X dX1_isCorner_14 (by decide) ?_
      exact j_zret X hr hlk (by first | exact Or.inl rfl | exact Or.inr rfl) ⟨bP.nn (fun q => by first | exact absurd c1 (Int32.not_lt.mpr q.1) | exact absurd q.2 (Int32.not_lt.mpr c7)), rfl⟩ dX1_isCorner_15
    · skip
      refine j_iconst (v := (nI 1)) X dX1_isCorner_10 (by decide) ?_
      refine j_goto (tgt := 15) X dX1_isCorner_11 (by decide) ?_
      exact j_zret X hr hlk (by first | exact Or.inl rfl | exact Or.inr rfl) ⟨bP.yn ⟨Int32.not_lt.mp c1, Int32.not_le.mp c7⟩, rfl⟩ dX1_isCorner_15
set_option maxHeartbeats 4000000 in
set_option maxRecDepth 100000 in
theorem kX1_isSlot (l : Launch) (D : va_G) (ad : Nat → Nat → Nat) (cs : Nat → ClassId) (A : Nat → Prop) (z : Nat → Nat) (μ : Mm) (V : CV) (x : Int32) : KI l D ad cs A z yX1_isSlot wsX1_isSlot (rm 0 0) [.int x] (mb μ 10 V) (fun r μ1 => bP r (0 ≤ x ∧ x < nI 2) ∧ μ1 = mb μ 10 V) := by
  refine KI_of (cc := cX1_isSlot) (maxL := 1) (ret := (some .boolean)) (by decide) rfl (Nat.le_of_ble_eq_true rfl) ?_
  intro p e s m args below meth c hr hlk X
  show J p l e _ s m args below meth c 0 0 _ 1 D ad cs A 0 [(0, .int x)] [] (mb μ 10 V)
  refine j_iload_n (q := 0) X dX1_isSlot_0 rfl rfl ?_
  refine j_if_lt (tgt := 13) X dX1_isSlot_1 (by decide) (fun c1 => ?_) (fun c1 => ?_)
  · skip
    refine j_iconst (v := (nI 0)) X dX1_isSlot_13 (by decide) ?_
    exact j_zret X hr hlk (by first | exact Or.inl rfl | exact Or.inr rfl) ⟨bP.nn (fun q => by first | exact absurd c1 (Int32.not_lt.mpr q.1) | exact absurd q.2 (Int32.not_lt.mpr c6)), rfl⟩ dX1_isSlot_14
  · skip
    refine j_iload_n (q := 0) X dX1_isSlot_4 rfl rfl ?_
    refine j_iconst (v := (nI 2)) X dX1_isSlot_5 (by decide) ?_
    refine j_icmp_ge (tgt := 13) X dX1_isSlot_6 (by decide) (fun c6 => ?_) (fun c6 => ?_)
    · skip
      refine j_iconst (v := (nI 0)) X dX1_isSlot_13 (by decide) ?_
      exact j_zret X hr hlk (by first | exact Or.inl rfl | exact Or.inr rfl) ⟨bP.nn (fun q => by first | exact absurd c1 (Int32.not_lt.mpr q.1) | exact absurd q.2 (Int32.not_lt.mpr c6)), rfl⟩ dX1_isSlot_14
    · skip
      refine j_iconst (v := (nI 1)) X dX1_isSlot_9 (by decide) ?_
      refine j_goto (tgt := 14) X dX1_isSlot_10 (by decide) ?_
      exact j_zret X hr hlk (by first | exact Or.inl rfl | exact Or.inr rfl) ⟨bP.yn ⟨Int32.not_lt.mp c1, Int32.not_le.mp c6⟩, rfl⟩ dX1_isSlot_14
set_option maxHeartbeats 4000000 in
set_option maxRecDepth 100000 in
theorem kX1_codeAt (l : Launch) (D : va_G) (ad : Nat → Nat → Nat) (cs : Nat → ClassId) (A : Nat → Prop) (z : Nat → Nat) (μ : Mm) (V : CV) (x : Int64) (i : Nat) (hi : i < 8) : KI l D ad cs A z yX1_codeAt wsX1_codeAt (rm 0 0) [.long x, .int (nI i)] (mb μ 10 V) (fun r μ1 => r = cdA x i ∧ μ1 = mb μ 10 V) := by
  refine KI_of (cc := cX1_codeAt) (maxL := 3) (ret := (some .int)) (by decide) rfl (Nat.le_of_ble_eq_true rfl) ?_
  intro p e s m args below meth c hr hlk X
  show J p l e _ s m args below meth c 0 0 _ 3 D ad cs A 0 [(0, .long x), (2, .int (nI i))] [] (mb μ 10 V)
  refine j_lload_n (q := 0) X dX1_codeAt_0 rfl rfl ?_
  refine j_bipush (v := (nI 8)) X dX1_codeAt_1 (by decide) ?_
  refine j_iload_n (q := 1) X dX1_codeAt_3 rfl rfl ?_
  refine j_imul (v := (nI (8 * i))) X dX1_codeAt_4 (pk_mul _ _) ?_
  refine j_lushr (v := ((x.toUInt64 >>> ((nI (8 * i)).toInt64.toUInt64 &&& Int64.toUInt64 63)).toInt64)) X dX1_codeAt_5 rfl ?_
  refine j_ldc2 (v := 255) X (X.1.2.2.2.2 _ (by decide +kernel)) dX1_codeAt_6 ?_
  refine j_land (v := (((x.toUInt64 >>> ((nI (8 * i)).toInt64.toUInt64 &&& Int64.toUInt64 63)).toInt64) &&& 255)) X dX1_codeAt_9 rfl ?_
  refine j_l2i (v := ((((x.toUInt64 >>> ((nI (8 * i)).toInt64.toUInt64 &&& Int64.toUInt64 63)).toInt64) &&& 255).toInt32)) X dX1_codeAt_10 rfl ?_
  exact j_iret X hr hlk ⟨rfl, rfl⟩ dX1_codeAt_11
set_option maxHeartbeats 4000000 in
set_option maxRecDepth 100000 in
theorem kX1_charactersIn (l : Launch) (D : va_G) (ad : Nat → Nat → Nat) (cs : Nat → ClassId) (A : Nat → Prop) (z : Nat → Nat) (μ : Mm) (V : CV) (x : Int64) : KI l D ad cs A z yX1_charactersIn wsX1_charactersIn (rm 1 22) [.long x] (mb μ 10 V) (fun r μ1 => (∃ n, r = nI n ∧ cdR x n) ∧ μ1 = mb μ 10 V) := by
  refine KI_of (cc := cX1_charactersIn) (maxL := 4) (ret := (some .int)) (by decide) rfl (Nat.le_of_ble_eq_true rfl) ?_
  intro p e s m args below meth c hr hlk X
  show J p l e _ s m args below meth c 0 0 _ 4 D ad cs A 0 [(0, .long x)] [] (mb μ 10 V)
  refine j_iconst (v := (nI 0)) X dX1_charactersIn_0 (by decide) ?_
  refine j_istore_n (lv' := [(2, .int (nI 0)), (0, .long x)]) X dX1_charactersIn_1 rfl (by decide) rfl ?_
  refine jl1 (G := J p l e _ s m args below meth c 0 0 _ _ D ad cs A) (pc := 2) (fun (i : Nat) => [(2, .int (nI i)), (0, .long x)]) (fun (i : Nat) => (mb μ 10 V)) (fun (i : Nat) => i ≤ 8 ∧ ∀ t, t < i → cdG x t) (fun (i : Nat) => 8 - i) ?_ 0 ⟨by omega, fun t ht => absurd ht (Nat.not_lt_zero _)⟩
  intro i hI2 ih2
  try dsimp only at ih2 ⊢
  obtain ⟨hi, hg⟩ := hI2
  refine j_iload_n (q := 0) X dX1_charactersIn_2 rfl rfl ?_
  refine j_bipush (v := (nI 8)) X dX1_charactersIn_3 (by decide) ?_
  refine j_ncmp_ge (tgt := 42) X i 8 dX1_charactersIn_5 (by decide) rfl rfl (by omega) (by omega) (fun c5 => ?_) (fun c5 => ?_)
  · skip
    have he : ∀ k, 1 ≤ k → cdN x k → k = i := fun k hk q => by have hk8 := q.1; rcases Nat.lt_or_ge k i with w | w; exact absurd (q.2.2 k (Nat.le_refl _) (by omega)) (cdG_ne (hg k w)); omega
    refine j_iload_n (q := 0) X dX1_charactersIn_42 rfl rfl ?_
    refine j_istore_n (lv' := [(3, .int (nI i)), (2, .int (nI i)), (0, .long x)]) X dX1_charactersIn_43 rfl (by decide) rfl ?_
    refine j_lv [0, 2, 1] rfl ?_
    refine jl1 (G := J p l e _ s m args below meth c 0 0 _ _ D ad cs A) (pc := 44) (fun (j : Nat) => [(3, .int (nI j)), (0, .long x), (2, .int (nI i))]) (fun (j : Nat) => (mb μ 10 V)) (fun (j : Nat) => i ≤ j ∧ j ≤ 8 ∧ ∀ t, i ≤ t → t < j → cdA x t = 0) (fun (j : Nat) => 8 - j) ?_ i ⟨by omega, by omega, fun t h1 h2 => by omega⟩
    intro j hI44 ih44
    try dsimp only at ih44 ⊢
    obtain ⟨hj, hj8, hz⟩ := hI44
    refine j_iload_n (q := 0) X dX1_charactersIn_44 rfl rfl ?_
    refine j_bipush (v := (nI 8)) X dX1_charactersIn_45 (by decide) ?_
    refine j_ncmp_ge (tgt := 66) X j 8 dX1_charactersIn_47 (by decide) rfl rfl (by omega) (by omega) (fun c47 => ?_) (fun c47 => ?_)
    · skip
      refine j_iload_n (q := 2) X dX1_charactersIn_66 rfl rfl ?_
      exact j_iret X hr hlk ⟨⟨i, rfl, by omega, fun _ => ⟨by omega, hg, fun t h1 h2 => hz t h1 (by omega)⟩, fun q k hk w => by have e := he k hk w; omega⟩, rfl⟩ dX1_charactersIn_67
    · skip
      refine j_lload_n (q := 1) X dX1_charactersIn_50 rfl rfl ?_
      refine j_iload_n (q := 0) X dX1_charactersIn_51 rfl rfl ?_
      refine j_callSi (As := [.long x, .int (nI j)]) X (kX1_codeAt l D ad cs A z μ V x j (by omega)) (va_cwS 2 X.1.2.2.2.2 gX1_charactersIn_X1_codeAt rfl rfl rfl (by decide +kernel) ⟨Nat.le_of_ble_eq_true rfl, Nat.le_of_ble_eq_true rfl⟩) rfl rfl (Nat.le_of_ble_eq_true rfl) dX1_charactersIn_52 (fun r52 μ52 h52 => ?_)
      obtain ⟨h52, rfl⟩ := h52
      rw [h52]
      refine j_if_eq (tgt := 60) X dX1_charactersIn_55 (by decide) (fun c55 => ?_) (fun c55 => ?_)
      · skip
        refine j_iinc (q := 0) (v := (nI (j + 1))) (lv' := [(3, .int (nI (j + 1))), (0, .long x), (2, .int (nI i))]) X dX1_charactersIn_60 rfl (nI_1 _) (by decide) rfl ?_
        refine j_goto (tgt := 44) X dX1_charactersIn_63 (by decide) ?_
        exact ih44 (j + 1) ⟨by omega, by omega, fun t h1 h2 => by rcases Nat.lt_or_ge t j with q | q; exact hz t h1 q; rw [show t = j by omega]; exact c55⟩ (by omega)
      · skip
        refine j_iconst (v := (nI 0)) X dX1_charactersIn_58 (by decide) ?_
        exact j_iret X hr hlk ⟨⟨0, rfl, by omega, fun q => absurd q (by omega), fun _ k hk q => by have e := he k hk q; subst e; exact c55 (q.2.2 j (by omega) (by omega))⟩, rfl⟩ dX1_charactersIn_59
  · skip
    refine j_lload_n (q := 1) X dX1_charactersIn_8 rfl rfl ?_
    refine j_iload_n (q := 0) X dX1_charactersIn_9 rfl rfl ?_
    refine j_callSi (As := [.long x, .int (nI i)]) X (kX1_codeAt l D ad cs A z μ V x i (by omega)) (va_cwS 2 X.1.2.2.2.2 gX1_charactersIn_X1_codeAt rfl rfl rfl (by decide +kernel) ⟨Nat.le_of_ble_eq_true rfl, Nat.le_of_ble_eq_true rfl⟩) rfl rfl (Nat.le_of_ble_eq_true rfl) dX1_charactersIn_10 (fun r10 μ10 h10 => ?_)
    obtain ⟨h10, rfl⟩ := h10
    rw [h10]
    refine j_if_eq (tgt := 42) X dX1_charactersIn_13 (by decide) (fun c13 => ?_) (fun c13 => ?_)
    · skip
      have he : ∀ k, 1 ≤ k → cdN x k → k = i := fun k hk q => by rcases Nat.lt_trichotomy k i with w | w | w; exact absurd (q.2.2 k (Nat.le_refl _) (by omega)) (cdG_ne (hg k w)); exact w; exact absurd c13 (cdG_ne (q.2.1 i w))
      refine j_iload_n (q := 0) X dX1_charactersIn_42 rfl rfl ?_
      refine j_istore_n (lv' := [(3, .int (nI i)), (2, .int (nI i)), (0, .long x)]) X dX1_charactersIn_43 rfl (by decide) rfl ?_
      refine j_lv [0, 2, 1] rfl ?_
      refine jl1 (G := J p l e _ s m args below meth c 0 0 _ _ D ad cs A) (pc := 44) (fun (j : Nat) => [(3, .int (nI j)), (0, .long x), (2, .int (nI i))]) (fun (j : Nat) => (mb μ 10 V)) (fun (j : Nat) => i ≤ j ∧ j ≤ 8 ∧ ∀ t, i ≤ t → t < j → cdA x t = 0) (fun (j : Nat) => 8 - j) ?_ i ⟨by omega, by omega, fun t h1 h2 => by omega⟩
      intro j hI44 ih44
      try dsimp only at ih44 ⊢
      obtain ⟨hj, hj8, hz⟩ := hI44
      refine j_iload_n (q := 0) X dX1_charactersIn_44 rfl rfl ?_
      refine j_bipush (v := (nI 8)) X dX1_charactersIn_45 (by decide) ?_
      refine j_ncmp_ge (tgt := 66) X j 8 dX1_charactersIn_47 (by decide) rfl rfl (by omega) (by omega) (fun c47 => ?_) (fun c47 => ?_)
      · skip
        refine j_iload_n (q := 2) X dX1_charactersIn_66 rfl rfl ?_
        exact j_iret X hr hlk ⟨⟨i, rfl, by omega, fun _ => ⟨by omega, hg, fun t h1 h2 => hz t h1 (by omega)⟩, fun q k hk w => by have e := he k hk w; omega⟩, rfl⟩ dX1_charactersIn_67
      · skip
        refine j_lload_n (q := 1) X dX1_charactersIn_50 rfl rfl ?_
        refine j_iload_n (q := 0) X dX1_charactersIn_51 rfl rfl ?_
        refine j_callSi (As := [.long x, .int (nI j)]) X (kX1_codeAt l D ad cs A z μ V x j (by omega)) (va_cwS 2 X.1.2.2.2.2 gX1_charactersIn_X1_codeAt rfl rfl rfl (by decide +kernel) ⟨Nat.le_of_ble_eq_true rfl, Nat.le_of_ble_eq_true rfl⟩) rfl rfl (Nat.le_of_ble_eq_true rfl) dX1_charactersIn_52 (fun r52 μ52 h52 => ?_)
        obtain ⟨h52, rfl⟩ := h52
        rw [h52]
        refine j_if_eq (tgt := 60) X dX1_charactersIn_55 (by decide) (fun c55 => ?_) (fun c55 => ?_)
        · skip
          refine j_iinc (q := 0) (v := (nI (j + 1))) (lv' := [(3, .int (nI (j + 1))), (0, .long x), (2, .int (nI i))]) X dX1_charactersIn_60 rfl (nI_1 _) (by decide) rfl ?_
          refine j_goto (tgt := 44) X dX1_charactersIn_63 (by decide) ?_
          exact ih44 (j + 1) ⟨by omega, by omega, fun t h1 h2 => by rcases Nat.lt_or_ge t j with q | q; exact hz t h1 q; rw [show t = j by omega]; exact c55⟩ (by omega)
        · skip
          refine j_iconst (v := (nI 0)) X dX1_charactersIn_58 (by decide) ?_
          exact j_iret X hr hlk ⟨⟨0, rfl, by omega, fun q => absurd q (by omega), fun _ k hk q => by have e := he k hk q; subst e; exact c55 (q.2.2 j (by omega) (by omega))⟩, rfl⟩ dX1_charactersIn_59
    · skip
      refine j_lload_n (q := 1) X dX1_charactersIn_16 rfl rfl ?_
      refine j_iload_n (q := 0) X dX1_charactersIn_17 rfl rfl ?_
      refine j_callSi (As := [.long x, .int (nI i)]) X (kX1_codeAt l D ad cs A z μ V x i (by omega)) (va_cwS 2 X.1.2.2.2.2 gX1_charactersIn_X1_codeAt rfl rfl rfl (by decide +kernel) ⟨Nat.le_of_ble_eq_true rfl, Nat.le_of_ble_eq_true rfl⟩) rfl rfl (Nat.le_of_ble_eq_true rfl) dX1_charactersIn_18 (fun r18 μ18 h18 => ?_)
      obtain ⟨h18, rfl⟩ := h18
      rw [h18]
      refine j_istore_n (lv' := [(3, .int (cdA x i)), (2, .int (nI i)), (0, .long x)]) X dX1_charactersIn_21 rfl (by decide) rfl ?_
      refine j_iload_n (q := 0) X dX1_charactersIn_22 rfl rfl ?_
      refine j_bipush (v := (nI 33)) X dX1_charactersIn_23 (by decide) ?_
      refine j_icmp_lt (tgt := 34) X dX1_charactersIn_25 (by decide) (fun c25 => ?_) (fun c25 => ?_)
      · skip
        refine j_iconst (v := (nI 0)) X dX1_charactersIn_34 (by decide) ?_
        exact j_iret X hr hlk ⟨⟨0, rfl, by omega, fun q => absurd q (by omega), fun _ k hk q => by rcases Nat.lt_or_ge i k with w | w; (have w1 := q.2.1 i w; first | exact absurd c25 (Int32.not_lt.mpr w1.1) | exact c31 w1.2); (rcases Nat.lt_or_ge k i with w2 | w2; exact cdG_ne (hg k w2) (q.2.2 k (Nat.le_refl _) (by omega)); exact c13 (q.2.2 i (by omega) (by omega)))⟩, rfl⟩ dX1_charactersIn_35
      · skip
        refine j_iload_n (q := 0) X dX1_charactersIn_28 rfl rfl ?_
        refine j_bipush (v := (nI 126)) X dX1_charactersIn_29 (by decide) ?_
        refine j_icmp_le (tgt := 36) X dX1_charactersIn_31 (by decide) (fun c31 => ?_) (fun c31 => ?_)
        · skip
          refine j_iinc (q := 1) (v := (nI (i + 1))) (lv' := [(2, .int (nI (i + 1))), (3, .int (cdA x i)), (0, .long x)]) X dX1_charactersIn_36 rfl (nI_1 _) (by decide) rfl ?_
          refine j_goto (tgt := 2) X dX1_charactersIn_39 (by decide) ?_
          refine j_lv (lv1 := [(2, .int (nI (i + 1))), (0, .long x)]) [0, 2] rfl ?_
          exact ih2 (i + 1) ⟨by omega, fun t ht => by rcases Nat.lt_or_ge t i with q | q; exact hg t q; rw [show t = i by omega]; exact ⟨Int32.not_lt.mp c25, c31⟩⟩ (by omega)
        · skip
          refine j_iconst (v := (nI 0)) X dX1_charactersIn_34 (by decide) ?_
          exact j_iret X hr hlk ⟨⟨0, rfl, by omega, fun q => absurd q (by omega), fun _ k hk q => by rcases Nat.lt_or_ge i k with w | w; (have w1 := q.2.1 i w; first | exact absurd c25 (Int32.not_lt.mpr w1.1) | exact c31 w1.2); (rcases Nat.lt_or_ge k i with w2 | w2; exact cdG_ne (hg k w2) (q.2.2 k (Nat.le_refl _) (by omega)); exact c13 (q.2.2 i (by omega) (by omega)))⟩, rfl⟩ dX1_charactersIn_35
set_option maxHeartbeats 4000000 in
set_option maxRecDepth 100000 in
theorem kX1_append (l : Launch) (D : va_G) (ad : Nat → Nat → Nat) (cs : Nat → ClassId) (A : Nat → Prop) (z : Nat → Nat) (μ : Mm) (V : CV) (pl : Nat) (hpl : V 0 7 = nI pl) (hpl60 : pl < 60) (x : Int32) (hx : isCh x) : KV l D ad cs A z yX1_append wsX1_append (rm 0 0) [.ref (ad 10 0), .int x] (mb μ 10 V) (fun μ1 => μ1 = mb μ 10 (us (us V 7 pl x) 0 7 (nI (pl + 1)))) := by
  refine KV_of (cc := cX1_append) (maxL := 2) (ret := none) (by decide) rfl (Nat.le_of_ble_eq_true rfl) ?_
  intro p e s m args below meth c hr hlk X
  show J p l e _ s m args below meth c 0 0 _ 2 D ad cs A 0 [(0, .ref (ad 10 0)), (1, .int x)] [] (mb μ 10 V)
  have hinX1 : ∀ w ∈ wsX10, w ∈ wsX1_append := by decide +kernel
  have k58 : (Cond.fieldLink RX1 58 "PunCourts" "padLength" "I").before args s = true := X.1.2.2.2.2 _ (by decide +kernel)
  have k30 : (Cond.fieldLink RX1 30 "PunCourts" "pad" "[C").before args s = true := X.1.2.2.2.2 _ (by decide +kernel)
  refine j_aload_n (q := 0) X dX1_append_0 rfl rfl ?_
  refine j_getMB X oM hinX1 7 (by decide) rfl k58 dX1_append_1 ?_
  rw [hpl]
  refine j_if_lt (tgt := 36) X dX1_append_4 (by decide) (fun c4 => absurd c4 (nI_pos (by omega))) (fun c4 => ?_)
  refine j_aload_n (q := 0) X dX1_append_7 rfl rfl ?_
  refine j_getMB X oM hinX1 7 (by decide) rfl k58 dX1_append_8 ?_
  rw [hpl]
  refine j_bipush (v := (nI 60)) X dX1_append_11 (by decide) ?_
  refine j_ncmp_ge (tgt := 36) X pl 60 dX1_append_13 (by decide) rfl rfl (by omega) (by omega) (fun c13 => absurd hpl60 (by omega)) (fun c13 => ?_)
  refine j_aload_n (q := 0) X dX1_append_16 rfl rfl ?_
  refine j_getMB X oM hinX1 6 (by decide) rfl k30 dX1_append_17 ?_
  refine j_aload_n (q := 0) X dX1_append_20 rfl rfl ?_
  refine j_getMB X oM hinX1 7 (by decide) rfl k58 dX1_append_21 ?_
  rw [hpl]
  refine j_iload_n (q := 1) X dX1_append_24 rfl rfl ?_
  refine j_castB X pl rfl (by omega) hx dX1_append_25 ?_
  refine j_aload_n (q := 0) X dX1_append_26 rfl rfl ?_
  refine j_dup X dX1_append_27 rfl ?_
  refine j_getMB X oM hinX1 7 (by decide) rfl k58 dX1_append_28 ?_
  rw [us_n (show 0 ≠ 7 by decide), hpl]
  refine j_iconst (v := (nI 1)) X dX1_append_31 (by decide) ?_
  refine j_iadd (v := (nI (pl + 1))) X dX1_append_32 (nI_add _ _) ?_
  refine j_putMB (ty := .int) X oM hinX1 7 (by decide) (fun _ => rfl) rfl rfl rfl rfl (Nat.le_of_ble_eq_true rfl) k58 dX1_append_33 ?_
  exact j_vret X hr hlk rfl dX1_append_36
set_option maxHeartbeats 4000000 in
set_option maxRecDepth 100000 in
theorem kX1_padNames (l : Launch) (D : va_G) (ad : Nat → Nat → Nat) (cs : Nat → ClassId) (A : Nat → Prop) (z : Nat → Nat) (μ : Mm) (V : CV) (pl : Nat) (hpl : V 0 7 = nI pl) (hpl60 : pl ≤ 60) : KI l D ad cs A z yX1_padNames wsX1_padNames (rm 1 20) [.ref (ad 10 0)] (mb μ 10 V) (fun r μ1 => r = nI (dgn (V 7) pl) ∧ μ1 = mb μ 10 V) := by
  refine KI_of (cc := cX1_padNames) (maxL := 3) (ret := (some .int)) (by decide) rfl (Nat.le_of_ble_eq_true rfl) ?_
  intro p e s m args below meth c hr hlk X
  show J p l e _ s m args below meth c 0 0 _ 3 D ad cs A 0 [(0, .ref (ad 10 0))] [] (mb μ 10 V)
  have hinX1 : ∀ w ∈ wsX10, w ∈ wsX1_padNames := by decide +kernel
  have k58 : (Cond.fieldLink RX1 58 "PunCourts" "padLength" "I").before args s = true := X.1.2.2.2.2 _ (by decide +kernel)
  have k30 : (Cond.fieldLink RX1 30 "PunCourts" "pad" "[C").before args s = true := X.1.2.2.2.2 _ (by decide +kernel)
  refine j_iconst (v := (nI 0)) X dX1_padNames_0 (by decide) ?_
  refine j_istore_n (lv' := [(1, .int (nI 0)), (0, .ref (ad 10 0))]) X dX1_padNames_1 rfl (by decide) rfl ?_
  refine j_iconst (v := (nI 0)) X dX1_padNames_2 (by decide) ?_
  refine j_istore_n (lv' := [(2, .int (nI 0)), (1, .int (nI 0)), (0, .ref (ad 10 0))]) X dX1_padNames_3 rfl (by decide) rfl ?_
  refine jl2 (G := J p l e _ s m args below meth c 0 0 _ _ D ad cs A) (pc := 4) (fun (i : Nat) (r : Nat) => [(2, .int (nI i)), (1, .int (nI r)), (0, .ref (ad 10 0))]) (fun (i : Nat) (r : Nat) => (mb μ 10 V)) (fun (i : Nat) (r : Nat) => i ≤ pl ∧ r = dgn (V 7) i) (fun (i : Nat) (r : Nat) => pl - i) ?_ 0 0 ⟨by omega, rfl⟩
  intro i r hI4 ih4
  try dsimp only at ih4 ⊢
  obtain ⟨hi, hrr⟩ := hI4
  refine j_iload_n (q := 0) X dX1_padNames_4 rfl rfl ?_
  refine j_aload_n (q := 2) X dX1_padNames_5 rfl rfl ?_
  refine j_getMB X oM hinX1 7 (by decide) rfl k58 dX1_padNames_6 ?_
  rw [hpl]
  refine j_ncmp_ge (tgt := 33) X i pl dX1_padNames_9 (by decide) rfl rfl (by omega) (by omega) (fun c9 => ?_) (fun c9 => ?_)
  · skip
    refine j_iload_n (q := 1) X dX1_padNames_33 rfl rfl ?_
    exact j_iret X hr hlk ⟨by rw [hrr, show i = pl by omega], rfl⟩ dX1_padNames_34
  · skip
    refine j_aload_n (q := 2) X dX1_padNames_12 rfl rfl ?_
    refine j_getMB X oM hinX1 6 (by decide) rfl k30 dX1_padNames_13 ?_
    refine j_iload_n (q := 0) X dX1_padNames_16 rfl rfl ?_
    refine j_caldB X aM_7 i rfl (by omega) (by decide) dX1_padNames_17 ?_
    refine j_callSi (As := [.int (V 7 i)]) X (kX1_isDigit l D ad cs A z μ V (V 7 i)) (va_cwS 1 X.1.2.2.2.2 gX1_padNames_X1_isDigit rfl rfl rfl (by decide +kernel) ⟨Nat.le_of_ble_eq_true rfl, Nat.le_of_ble_eq_true rfl⟩) rfl rfl (Nat.le_of_ble_eq_true rfl) dX1_padNames_18 (fun r18 μ18 h18 => ?_)
    obtain ⟨h18, rfl⟩ := h18
    refine j_if_eq (tgt := 27) X dX1_padNames_21 (by decide) (fun c21 => ?_) (fun c21 => ?_)
    · skip
      have hd := h18.f c21
      refine j_iinc (q := 0) (v := (nI (i + 1))) (lv' := [(2, .int (nI (i + 1))), (1, .int (nI r)), (0, .ref (ad 10 0))]) X dX1_padNames_27 rfl (nI_1 _) (by decide) rfl ?_
      refine j_goto (tgt := 4) X dX1_padNames_30 (by decide) ?_
      exact ih4 (i + 1) r ⟨by omega, by rw [dgn, ← hrr]; first | exact (if_neg hd).symm | exact (if_pos hd).symm⟩ (by omega)
    · skip
      have hd := h18.t c21
      refine j_iinc (q := 1) (v := (nI (r + 1))) (lv' := [(1, .int (nI (r + 1))), (2, .int (nI i)), (0, .ref (ad 10 0))]) X dX1_padNames_24 rfl (nI_1 _) (by decide) rfl ?_
      refine j_iinc (q := 1) (v := (nI (i + 1))) (lv' := [(2, .int (nI (i + 1))), (1, .int (nI (r + 1))), (0, .ref (ad 10 0))]) X dX1_padNames_27 rfl (nI_1 _) (by decide) rfl ?_
      refine j_goto (tgt := 4) X dX1_padNames_30 (by decide) ?_
      exact ih4 (i + 1) (r + 1) ⟨by omega, by rw [dgn, ← hrr]; first | exact (if_neg hd).symm | exact (if_pos hd).symm⟩ (by omega)
set_option maxHeartbeats 4000000 in
set_option maxRecDepth 100000 in
theorem kX1_padFault (l : Launch) (D : va_G) (ad : Nat → Nat → Nat) (cs : Nat → ClassId) (A : Nat → Prop) (z : Nat → Nat) (μ : Mm) (V : CV) (pl : Nat) (hpl : V 0 7 = nI pl) (hpl60 : pl ≤ 60) : KI l D ad cs A z yX1_padFault wsX1_padFault (rm 1 20) [.ref (ad 10 0)] (mb μ 10 V) (fun r μ1 => r = ftS (V 7) pl ∧ μ1 = mb μ 10 V) := by
  refine KI_of (cc := cX1_padFault) (maxL := 3) (ret := (some .int)) (by decide) rfl (Nat.le_of_ble_eq_true rfl) ?_
  intro p e s m args below meth c hr hlk X
  show J p l e _ s m args below meth c 0 0 _ 3 D ad cs A 0 [(0, .ref (ad 10 0))] [] (mb μ 10 V)
  have hinX1 : ∀ w ∈ wsX10, w ∈ wsX1_padFault := by decide +kernel
  have k58 : (Cond.fieldLink RX1 58 "PunCourts" "padLength" "I").before args s = true := X.1.2.2.2.2 _ (by decide +kernel)
  have k30 : (Cond.fieldLink RX1 30 "PunCourts" "pad" "[C").before args s = true := X.1.2.2.2.2 _ (by decide +kernel)
  refine j_iconst (v := (nI 0)) X dX1_padFault_0 (by decide) ?_
  refine j_istore_n (lv' := [(1, .int (nI 0)), (0, .ref (ad 10 0))]) X dX1_padFault_1 rfl (by decide) rfl ?_
  refine j_iconst (v := (nI 0)) X dX1_padFault_2 (by decide) ?_
  refine j_istore_n (lv' := [(2, .int (nI 0)), (1, .int (nI 0)), (0, .ref (ad 10 0))]) X dX1_padFault_3 rfl (by decide) rfl ?_
  refine jl2 (G := J p l e _ s m args below meth c 0 0 _ _ D ad cs A) (pc := 4) (fun (i : Nat) (r : Nat) => [(2, .int (nI i)), (1, .int (nI r)), (0, .ref (ad 10 0))]) (fun (i : Nat) (r : Nat) => (mb μ 10 V)) (fun (i : Nat) (r : Nat) => i ≤ pl ∧ r = ltn (V 7) i ∧ lw (acf (V 7)) i = i) (fun (i : Nat) (r : Nat) => pl - i) ?_ 0 0 ⟨by omega, rfl, rfl⟩
  intro i r hI4 ih4
  try dsimp only at ih4 ⊢
  obtain ⟨hi, hrr, hl⟩ := hI4
  have hrl := ltn_le (V 7) i
  refine j_iload_n (q := 0) X dX1_padFault_4 rfl rfl ?_
  refine j_aload_n (q := 2) X dX1_padFault_5 rfl rfl ?_
  refine j_getMB X oM hinX1 7 (by decide) rfl k58 dX1_padFault_6 ?_
  rw [hpl]
  refine j_ncmp_ge (tgt := 66) X i pl dX1_padFault_9 (by decide) rfl rfl (by omega) (by omega) (fun c9 => ?_) (fun c9 => ?_)
  · skip
    refine j_aload_n (q := 2) X dX1_padFault_66 rfl rfl ?_
    refine j_getMB X oM hinX1 7 (by decide) rfl k58 dX1_padFault_67 ?_
    rw [hpl]
    refine j_if_eq (tgt := 77) X dX1_padFault_70 (by decide) (fun c70 => ?_) (fun c70 => ?_)
    · skip
      have h70 : pl = 0 := by rcases Nat.eq_zero_or_pos pl with q | q; exact q; exact absurd c70 (nI_ne0 q (by omega))
      refine j_aload_n (q := 2) X dX1_padFault_77 rfl rfl ?_
      refine j_getMB X oM hinX1 7 (by decide) rfl k58 dX1_padFault_78 ?_
      rw [hpl]
      refine j_goto (tgt := 86) X dX1_padFault_81 (by decide) ?_
      exact j_iret X hr hlk ⟨by rw [ftS, if_neg (by rw [show pl = i by omega]; omega), if_pos (by first | exact Or.inl h70 | exact Or.inr h74)], rfl⟩ dX1_padFault_86
    · skip
      have h70 : ¬ pl = 0 := fun q => c70 (by rw [q]; rfl)
      refine j_iload_n (q := 1) X dX1_padFault_73 rfl rfl ?_
      refine j_if_le (tgt := 84) X dX1_padFault_74 (by decide) (fun c74 => ?_) (fun c74 => ?_)
      · skip
        have h74 : ¬ 0 < ltn (V 7) pl := fun q => by rw [hrr, show i = pl by omega] at c74; exact nI_nle q (by have := ltn_le (V 7) pl; omega) c74
        refine j_bipush (v := (-6)) X dX1_padFault_84 (by decide) ?_
        exact j_iret X hr hlk ⟨by rw [ftS, if_neg (by rw [show pl = i by omega]; omega), if_neg (fun q => q.elim h70 h74)], rfl⟩ dX1_padFault_86
      · skip
        have h74 : 0 < ltn (V 7) pl := by rw [hrr, show i = pl by omega] at c74; rcases Nat.eq_zero_or_pos (ltn (V 7) pl) with q | q; (rw [q] at c74; exact absurd (by decide) c74); exact q
        refine j_aload_n (q := 2) X dX1_padFault_77 rfl rfl ?_
        refine j_getMB X oM hinX1 7 (by decide) rfl k58 dX1_padFault_78 ?_
        rw [hpl]
        refine j_goto (tgt := 86) X dX1_padFault_81 (by decide) ?_
        exact j_iret X hr hlk ⟨by rw [ftS, if_neg (by rw [show pl = i by omega]; omega), if_pos (by first | exact Or.inl h70 | exact Or.inr h74)], rfl⟩ dX1_padFault_86
  · skip
    refine j_aload_n (q := 2) X dX1_padFault_12 rfl rfl ?_
    refine j_getMB X oM hinX1 6 (by decide) rfl k30 dX1_padFault_13 ?_
    refine j_iload_n (q := 0) X dX1_padFault_16 rfl rfl ?_
    refine j_caldB X aM_7 i rfl (by omega) (by decide) dX1_padFault_17 ?_
    refine j_callSi (As := [.int (V 7 i)]) X (kX1_isLetter l D ad cs A z μ V (V 7 i)) (va_cwS 1 X.1.2.2.2.2 gX1_padFault_X1_isLetter rfl rfl rfl (by decide +kernel) ⟨Nat.le_of_ble_eq_true rfl, Nat.le_of_ble_eq_true rfl⟩) rfl rfl (Nat.le_of_ble_eq_true rfl) dX1_padFault_18 (fun r18 μ18 h18 => ?_)
    obtain ⟨h18, rfl⟩ := h18
    refine j_if_eq (tgt := 36) X dX1_padFault_21 (by decide) (fun c21 => ?_) (fun c21 => ?_)
    · skip
      have hnl : ¬ (isL (V 7 i) ∧ ltn (V 7) i < 9) := fun q => h18.f c21 q.1
      refine j_aload_n (q := 2) X dX1_padFault_36 rfl rfl ?_
      refine j_getMB X oM hinX1 6 (by decide) rfl k30 dX1_padFault_37 ?_
      refine j_iload_n (q := 0) X dX1_padFault_40 rfl rfl ?_
      refine j_caldB X aM_7 i rfl (by omega) (by decide) dX1_padFault_41 ?_
      refine j_callSi (As := [.int (V 7 i)]) X (kX1_isDigit l D ad cs A z μ V (V 7 i)) (va_cwS 1 X.1.2.2.2.2 gX1_padFault_X1_isDigit rfl rfl rfl (by decide +kernel) ⟨Nat.le_of_ble_eq_true rfl, Nat.le_of_ble_eq_true rfl⟩) rfl rfl (Nat.le_of_ble_eq_true rfl) dX1_padFault_42 (fun r42 μ42 h42 => ?_)
      obtain ⟨h42, rfl⟩ := h42
      refine j_if_eq (tgt := 58) X dX1_padFault_45 (by decide) (fun c45 => ?_) (fun c45 => ?_)
      · skip
        have hna : ¬ acc (V 7) i := fun q => q.elim hnl (fun w => h42.f c45 w.1)
        refine j_iload_n (q := 0) X dX1_padFault_58 rfl rfl ?_
        exact j_iret X hr hlk ⟨by rw [ftS, lw_hit hl (acf_0 hna) pl (by omega), if_pos (by omega)], rfl⟩ dX1_padFault_59
      · skip
        have hD := h42.t c45
        refine j_iload_n (q := 1) X dX1_padFault_48 rfl rfl ?_
        refine j_iconst (v := (nI 2)) X dX1_padFault_49 (by decide) ?_
        refine j_ncmp_lt (tgt := 58) X r 2 dX1_padFault_50 (by decide) rfl rfl (by omega) (by omega) (fun c50 => ?_) (fun c50 => ?_)
        · skip
          have hna : ¬ acc (V 7) i := fun q => q.elim hnl (fun w => absurd w.2 (by omega))
          refine j_iload_n (q := 0) X dX1_padFault_58 rfl rfl ?_
          exact j_iret X hr hlk ⟨by rw [ftS, lw_hit hl (acf_0 hna) pl (by omega), if_pos (by omega)], rfl⟩ dX1_padFault_59
        · skip
          have ha : acc (V 7) i := Or.inr ⟨hD, by omega⟩
          refine j_iconst (v := (nI 0)) X dX1_padFault_53 (by decide) ?_
          refine j_istore_n (lv' := [(1, .int (nI 0)), (2, .int (nI i)), (0, .ref (ad 10 0))]) X dX1_padFault_54 rfl (by decide) rfl ?_
          refine j_goto (tgt := 60) X dX1_padFault_55 (by decide) ?_
          refine j_iinc (q := 1) (v := (nI (i + 1))) (lv' := [(2, .int (nI (i + 1))), (1, .int (nI 0)), (0, .ref (ad 10 0))]) X dX1_padFault_60 rfl (nI_1 _) (by decide) rfl ?_
          refine j_goto (tgt := 4) X dX1_padFault_63 (by decide) ?_
          exact ih4 (i + 1) 0 ⟨by omega, by rw [ltn, ← hrr]; exact (if_neg (fun q => isLD q hD)).symm, lw_go hl (acf_1 ha)⟩ (by omega)
    · skip
      have hL := h18.t c21
      refine j_iload_n (q := 1) X dX1_padFault_24 rfl rfl ?_
      refine j_bipush (v := (nI 9)) X dX1_padFault_25 (by decide) ?_
      refine j_ncmp_ge (tgt := 36) X r 9 dX1_padFault_27 (by decide) rfl rfl (by omega) (by omega) (fun c27 => ?_) (fun c27 => ?_)
      · skip
        have hnl : ¬ (isL (V 7 i) ∧ ltn (V 7) i < 9) := fun q => absurd q.2 (by omega)
        refine j_aload_n (q := 2) X dX1_padFault_36 rfl rfl ?_
        refine j_getMB X oM hinX1 6 (by decide) rfl k30 dX1_padFault_37 ?_
        refine j_iload_n (q := 0) X dX1_padFault_40 rfl rfl ?_
        refine j_caldB X aM_7 i rfl (by omega) (by decide) dX1_padFault_41 ?_
        refine j_callSi (As := [.int (V 7 i)]) X (kX1_isDigit l D ad cs A z μ V (V 7 i)) (va_cwS 1 X.1.2.2.2.2 gX1_padFault_X1_isDigit rfl rfl rfl (by decide +kernel) ⟨Nat.le_of_ble_eq_true rfl, Nat.le_of_ble_eq_true rfl⟩) rfl rfl (Nat.le_of_ble_eq_true rfl) dX1_padFault_42 (fun r42 μ42 h42 => ?_)
        obtain ⟨h42, rfl⟩ := h42
        refine j_if_eq (tgt := 58) X dX1_padFault_45 (by decide) (fun c45 => ?_) (fun c45 => ?_)
        · skip
          have hna : ¬ acc (V 7) i := fun q => q.elim hnl (fun w => h42.f c45 w.1)
          refine j_iload_n (q := 0) X dX1_padFault_58 rfl rfl ?_
          exact j_iret X hr hlk ⟨by rw [ftS, lw_hit hl (acf_0 hna) pl (by omega), if_pos (by omega)], rfl⟩ dX1_padFault_59
        · skip
          have hD := h42.t c45
          refine j_iload_n (q := 1) X dX1_padFault_48 rfl rfl ?_
          refine j_iconst (v := (nI 2)) X dX1_padFault_49 (by decide) ?_
          refine j_ncmp_lt (tgt := 58) X r 2 dX1_padFault_50 (by decide) rfl rfl (by omega) (by omega) (fun c50 => ?_) (fun c50 => ?_)
          · skip
            have hna : ¬ acc (V 7) i := fun q => q.elim hnl (fun w => absurd w.2 (by omega))
            refine j_iload_n (q := 0) X dX1_padFault_58 rfl rfl ?_
            exact j_iret X hr hlk ⟨by rw [ftS, lw_hit hl (acf_0 hna) pl (by omega), if_pos (by omega)], rfl⟩ dX1_padFault_59
          · skip
            have ha : acc (V 7) i := Or.inr ⟨hD, by omega⟩
            refine j_iconst (v := (nI 0)) X dX1_padFault_53 (by decide) ?_
            refine j_istore_n (lv' := [(1, .int (nI 0)), (2, .int (nI i)), (0, .ref (ad 10 0))]) X dX1_padFault_54 rfl (by decide) rfl ?_
            refine j_goto (tgt := 60) X dX1_padFault_55 (by decide) ?_
            refine j_iinc (q := 1) (v := (nI (i + 1))) (lv' := [(2, .int (nI (i + 1))), (1, .int (nI 0)), (0, .ref (ad 10 0))]) X dX1_padFault_60 rfl (nI_1 _) (by decide) rfl ?_
            refine j_goto (tgt := 4) X dX1_padFault_63 (by decide) ?_
            exact ih4 (i + 1) 0 ⟨by omega, by rw [ltn, ← hrr]; exact (if_neg (fun q => isLD q hD)).symm, lw_go hl (acf_1 ha)⟩ (by omega)
      · skip
        have ha : acc (V 7) i := Or.inl ⟨hL, by omega⟩
        refine j_iinc (q := 1) (v := (nI (r + 1))) (lv' := [(1, .int (nI (r + 1))), (2, .int (nI i)), (0, .ref (ad 10 0))]) X dX1_padFault_30 rfl (nI_1 _) (by decide) rfl ?_
        refine j_goto (tgt := 60) X dX1_padFault_33 (by decide) ?_
        refine j_iinc (q := 1) (v := (nI (i + 1))) (lv' := [(2, .int (nI (i + 1))), (1, .int (nI (r + 1))), (0, .ref (ad 10 0))]) X dX1_padFault_60 rfl (nI_1 _) (by decide) rfl ?_
        refine j_goto (tgt := 4) X dX1_padFault_63 (by decide) ?_
        exact ih4 (i + 1) (r + 1) ⟨by omega, by rw [ltn, ← hrr]; exact (if_pos hL).symm, lw_go hl (acf_1 ha)⟩ (by omega)
