set_option maxHeartbeats 4000000 in
set_option maxRecDepth 100000 in
theorem kX2_in (l : Launch) (D : va_G) (ad : Nat → Nat → Nat) (cs : Nat → ClassId) (A : Nat → Prop) (z : Nat → Nat) (μ : Mm) (M : CV) (v lo hi : Int64) : KI l D ad cs A z yX2_in wsX2_in (rm 0 0) [.long v, .long lo, .long hi] (mb μ 11 M) (fun r μ1 => bP r (lo ≤ v ∧ v ≤ hi) ∧ μ1 = mb μ 11 M) := by
  refine KI_of (cc := cX2_in) (maxL := 6) (ret := (some .boolean)) (by decide) rfl (Nat.le_of_ble_eq_true rfl) ?_
  intro p e s m args below meth c hr hlk X
  show J p l e _ s m args below meth c 0 0 _ 6 D ad cs A 0 [(0, .long v), (2, .long lo), (4, .long hi)] [] (mb μ 11 M)
  refine j_lload_n (q := 0) X dX2_in_0 rfl rfl ?_
  refine j_lload_n (q := 1) X dX2_in_1 rfl rfl ?_
  refine j_lcmp X dX2_in_2 ?_
  refine j_if_lt (tgt := 17) X dX2_in_3 (by decide) (fun c3 => ?_) (fun c3 => ?_)
  · skip
    refine j_iconst (v := (nI 0)) X dX2_in_17 (by decide) ?_
    exact j_zret X hr hlk (by first | exact Or.inl rfl | exact Or.inr rfl) ⟨bP.nn (fun q => by first | exact absurd (lgc_lt.mp c3) (Int64.not_lt.mpr q.1) | exact absurd (lgc_gt.mp c10) (Int64.not_lt.mpr q.2)), rfl⟩ dX2_in_18
  · skip
    refine j_lload_n (q := 0) X dX2_in_6 rfl rfl ?_
    refine j_lload (q := 2) X dX2_in_7 rfl ?_
    refine j_lcmp X dX2_in_9 ?_
    refine j_if_gt (tgt := 17) X dX2_in_10 (by decide) (fun c10 => ?_) (fun c10 => ?_)
    · skip
      refine j_iconst (v := (nI 0)) X dX2_in_17 (by decide) ?_
      exact j_zret X hr hlk (by first | exact Or.inl rfl | exact Or.inr rfl) ⟨bP.nn (fun q => by first | exact absurd (lgc_lt.mp c3) (Int64.not_lt.mpr q.1) | exact absurd (lgc_gt.mp c10) (Int64.not_lt.mpr q.2)), rfl⟩ dX2_in_18
    · skip
      refine j_iconst (v := (nI 1)) X dX2_in_13 (by decide) ?_
      refine j_goto (tgt := 18) X dX2_in_14 (by decide) ?_
      exact j_zret X hr hlk (by first | exact Or.inl rfl | exact Or.inr rfl) ⟨bP.yn ⟨Int64.not_lt.mp (fun q => c3 (lgc_lt.mpr q)), Int64.not_lt.mp (fun q => c10 (lgc_gt.mpr q))⟩, rfl⟩ dX2_in_18
set_option maxHeartbeats 4000000 in
set_option maxRecDepth 100000 in
theorem kX2_isCorner (l : Launch) (D : va_G) (ad : Nat → Nat → Nat) (cs : Nat → ClassId) (A : Nat → Prop) (z : Nat → Nat) (μ : Mm) (M : CV) (x : Int32) : KI l D ad cs A z yX2_isCorner wsX2_isCorner (rm 1 25) [.int x] (mb μ 11 M) (fun r μ1 => bP r (isC x) ∧ μ1 = mb μ 11 M) := by
  refine KI_of (cc := cX2_isCorner) (maxL := 1) (ret := (some .boolean)) (by decide) rfl (Nat.le_of_ble_eq_true rfl) ?_
  intro p e s m args below meth c hr hlk X
  show J p l e _ s m args below meth c 0 0 _ 1 D ad cs A 0 [(0, .int x)] [] (mb μ 11 M)
  refine j_iload_n (q := 0) X dX2_isCorner_0 rfl rfl ?_
  refine j_i2l (v := x.toInt64) X dX2_isCorner_1 rfl ?_
  refine j_lconst (v := lN 0) X dX2_isCorner_2 (by decide) ?_
  refine j_ldc2 (v := lN 11) X (X.1.2.2.2.2 _ (by decide +kernel)) dX2_isCorner_3 ?_
  refine j_callSi (As := [.long x.toInt64, .long (lN 0), .long (lN 11)]) X (kX2_in l D ad cs A z μ M (x.toInt64) (lN 0) (lN 11)) (va_cwS 3 X.1.2.2.2.2 gX2_isCorner_X2_in rfl rfl rfl (by decide +kernel) ⟨Nat.le_of_ble_eq_true rfl, Nat.le_of_ble_eq_true rfl⟩) rfl rfl (Nat.le_of_ble_eq_true rfl) dX2_isCorner_6 (fun r6 μ6 h6 => ?_)
  obtain ⟨h6, rfl⟩ := h6
  exact j_zret X hr hlk h6.bo ⟨h6.iff (by rw [in_64 (by decide) (by decide), le_lt (by decide)]; exact Iff.rfl), rfl⟩ dX2_isCorner_9
set_option maxHeartbeats 4000000 in
set_option maxRecDepth 100000 in
theorem kX2_isName (l : Launch) (D : va_G) (ad : Nat → Nat → Nat) (cs : Nat → ClassId) (A : Nat → Prop) (z : Nat → Nat) (μ : Mm) (M : CV) (V : CV) (N : Nat) (hw : Rw V N (M 1)) (hci : CI V N) (x : Int32) : KI l D ad cs A z yX2_isName wsX2_isName (rm 1 25) [.ref (ad 11 0), .int x] (mb μ 11 M) (fun r μ1 => bP r (hasN V x) ∧ μ1 = mb μ 11 M) := by
  refine KI_of (cc := cX2_isName) (maxL := 2) (ret := (some .boolean)) (by decide) rfl (Nat.le_of_ble_eq_true rfl) ?_
  intro p e s m args below meth c hr hlk X
  show J p l e _ s m args below meth c 0 0 _ 2 D ad cs A 0 [(0, .ref (ad 11 0)), (1, .int x)] [] (mb μ 11 M)
  have hinX2 : ∀ w ∈ wsX20, w ∈ wsX2_isName := by decide +kernel
  have k7 : (Cond.fieldLink RX2 7 "PunCourtsModel" "all" "[I").before args s = true := X.1.2.2.2.2 _ (by decide +kernel)
  have hN := hci.1.1
  have hN20 := hci.1.2.1
  refine j_iload_n (q := 1) X dX2_isName_0 rfl rfl ?_
  refine j_i2l (v := x.toInt64) X dX2_isName_1 rfl ?_
  refine j_lconst (v := lN 0) X dX2_isName_2 (by decide) ?_
  refine j_aload_n (q := 0) X dX2_isName_3 rfl rfl ?_
  refine j_getRB X oR hinX2 0 (by decide) rfl k7 dX2_isName_4 ?_
  refine j_iconst (v := (nI 5)) X dX2_isName_7 (by decide) ?_
  refine j_ialdB X aR_1 5 rfl (by decide) (by decide) dX2_isName_8 ?_
  rw [hw.nm, hN]
  refine j_i2l (v := (lN N)) X dX2_isName_9 (nI_l (by omega)) ?_
  refine j_lconst (v := lN 1) X dX2_isName_10 (by decide) ?_
  refine j_lsub (v := ((lN N) - (lN 1))) X dX2_isName_11 rfl ?_
  refine j_callSi (As := [.long x.toInt64, .long (lN 0), .long ((lN N) - (lN 1))]) X (kX2_in l D ad cs A z μ M (x.toInt64) (lN 0) (lN N - lN 1)) (va_cwS 3 X.1.2.2.2.2 gX2_isName_X2_in rfl rfl rfl (by decide +kernel) ⟨Nat.le_of_ble_eq_true rfl, Nat.le_of_ble_eq_true rfl⟩) rfl rfl (Nat.le_of_ble_eq_true rfl) dX2_isName_12 (fun r12 μ12 h12 => ?_)
  obtain ⟨h12, rfl⟩ := h12
  exact j_zret X hr hlk h12.bo ⟨h12.iff (isN_iff hN hN20), rfl⟩ dX2_isName_15
set_option maxHeartbeats 4000000 in
set_option maxRecDepth 100000 in
theorem kX2_get (l : Launch) (D : va_G) (ad : Nat → Nat → Nat) (cs : Nat → ClassId) (A : Nat → Prop) (z : Nat → Nat) (μ : Mm) (M : CV) (n w : Nat) (hn : n < 20) (hw : w < 12) : KI l D ad cs A z yX2_get wsX2_get (rm 0 0) [.ref (ad 11 0), .int (nI n), .int (nI w)] (mb μ 11 M) (fun r μ1 => r = M 1 (9 + 12 * n + w) ∧ μ1 = mb μ 11 M) := by
  refine KI_of (cc := cX2_get) (maxL := 3) (ret := (some .int)) (by decide) rfl (Nat.le_of_ble_eq_true rfl) ?_
  intro p e s m args below meth c hr hlk X
  show J p l e _ s m args below meth c 0 0 _ 3 D ad cs A 0 [(0, .ref (ad 11 0)), (1, .int (nI n)), (2, .int (nI w))] [] (mb μ 11 M)
  have hinX2 : ∀ w ∈ wsX20, w ∈ wsX2_get := by decide +kernel
  have k7 : (Cond.fieldLink RX2 7 "PunCourtsModel" "all" "[I").before args s = true := X.1.2.2.2.2 _ (by decide +kernel)
  refine j_aload_n (q := 0) X dX2_get_0 rfl rfl ?_
  refine j_getRB X oR hinX2 0 (by decide) rfl k7 dX2_get_1 ?_
  refine j_bipush (v := (nI 9)) X dX2_get_4 (by decide) ?_
  refine j_bipush (v := (nI 12)) X dX2_get_6 (by decide) ?_
  refine j_iload_n (q := 1) X dX2_get_8 rfl rfl ?_
  refine j_imul (v := (nI (12 * n))) X dX2_get_9 (pk_mul _ _) ?_
  refine j_iadd (v := (nI (9 + (12 * n)))) X dX2_get_10 (nI_add _ _) ?_
  refine j_iload_n (q := 2) X dX2_get_11 rfl rfl ?_
  refine j_iadd (v := (nI ((9 + (12 * n)) + w))) X dX2_get_12 (nI_add _ _) ?_
  refine j_ialdB X aR_1 ((9 + (12 * n)) + w) rfl (by omega) (by decide) dX2_get_13 ?_
  exact j_iret X hr hlk ⟨rfl, rfl⟩ dX2_get_14
set_option maxHeartbeats 4000000 in
set_option maxRecDepth 100000 in
theorem kX2_lays (l : Launch) (D : va_G) (ad : Nat → Nat → Nat) (cs : Nat → ClassId) (A : Nat → Prop) (z : Nat → Nat) (μ : Mm) (M : CV) (n w : Nat) (hn : n < 20) (hw : w < 12) (v : Int32) : KV l D ad cs A z yX2_lays wsX2_lays (rm 0 0) [.ref (ad 11 0), .int (nI n), .int (nI w), .int v] (mb μ 11 M) (fun μ1 => μ1 = mb μ 11 (us M 1 (9 + 12 * n + w) v)) := by
  refine KV_of (cc := cX2_lays) (maxL := 4) (ret := none) (by decide) rfl (Nat.le_of_ble_eq_true rfl) ?_
  intro p e s m args below meth c hr hlk X
  show J p l e _ s m args below meth c 0 0 _ 4 D ad cs A 0 [(0, .ref (ad 11 0)), (1, .int (nI n)), (2, .int (nI w)), (3, .int v)] [] (mb μ 11 M)
  have hinX2 : ∀ w ∈ wsX20, w ∈ wsX2_lays := by decide +kernel
  have k7 : (Cond.fieldLink RX2 7 "PunCourtsModel" "all" "[I").before args s = true := X.1.2.2.2.2 _ (by decide +kernel)
  refine j_aload_n (q := 0) X dX2_lays_0 rfl rfl ?_
  refine j_getRB X oR hinX2 0 (by decide) rfl k7 dX2_lays_1 ?_
  refine j_bipush (v := (nI 9)) X dX2_lays_4 (by decide) ?_
  refine j_bipush (v := (nI 12)) X dX2_lays_6 (by decide) ?_
  refine j_iload_n (q := 1) X dX2_lays_8 rfl rfl ?_
  refine j_imul (v := (nI (12 * n))) X dX2_lays_9 (pk_mul _ _) ?_
  refine j_iadd (v := (nI (9 + (12 * n)))) X dX2_lays_10 (nI_add _ _) ?_
  refine j_iload_n (q := 2) X dX2_lays_11 rfl rfl ?_
  refine j_iadd (v := (nI ((9 + (12 * n)) + w))) X dX2_lays_12 (nI_add _ _) ?_
  refine j_iload_n (q := 3) X dX2_lays_13 rfl rfl ?_
  refine j_iastB X aR_1 ((9 + (12 * n)) + w) rfl (by omega) (by decide) (by decide) dX2_lays_14 ?_
  exact j_vret X hr hlk rfl dX2_lays_15
set_option maxHeartbeats 4000000 in
set_option maxRecDepth 100000 in
theorem kX2_sign (l : Launch) (D : va_G) (ad : Nat → Nat → Nat) (cs : Nat → ClassId) (A : Nat → Prop) (z : Nat → Nat) (μ : Mm) (M : CV) (x : Int32) (hx : isL x) : KI l D ad cs A z yX2_sign wsX2_sign (rm 0 0) [.int x] (mb μ 11 M) (fun r μ1 => r = sgn x ∧ μ1 = mb μ 11 M) := by
  refine KI_of (cc := cX2_sign) (maxL := 1) (ret := (some .int)) (by decide) rfl (Nat.le_of_ble_eq_true rfl) ?_
  intro p e s m args below meth c hr hlk X
  show J p l e _ s m args below meth c 0 0 _ 1 D ad cs A 0 [(0, .int x)] [] (mb μ 11 M)
  refine j_iload_n (q := 0) X dX2_sign_0 rfl rfl ?_
  obtain ⟨q, q1, q2, rfl⟩ := rng_n hx.1 hx.2 (by decide) (by decide)
  rcases (show q = 122 ∨ q = 97 ∨ q = 98 ∨ q = 99 ∨ q = 100 ∨ q = 101 ∨ q = 102 ∨ q = 103 ∨ q = 104 ∨ q = 105 ∨ q = 106 ∨ q = 107 ∨ q = 108 ∨ q = 109 ∨ q = 110 ∨ q = 111 ∨ q = 112 ∨ q = 113 ∨ q = 114 ∨ q = 115 ∨ q = 116 ∨ q = 117 ∨ q = 118 ∨ q = 119 ∨ q = 120 ∨ q = 121 by omega) with rfl | rfl | rfl | rfl | rfl | rfl | rfl | rfl | rfl | rfl | rfl | rfl | rfl | rfl | rfl | rfl | rfl | rfl | rfl | rfl | rfl | rfl | rfl | rfl | rfl | rfl
  · refine j_tabOut (tgt := 132) X dX2_sign_1 (by decide) (by decide) ?_
    refine j_iconst (v := (nI 2)) X dX2_sign_132 (by decide) ?_
    exact j_iret X hr hlk ⟨by decide +kernel, rfl⟩ dX2_sign_133
  · refine j_tabIn (off := 126) (tgt := 127) X dX2_sign_1 (by decide) (by decide) (by decide) (by decide) ?_
    refine j_bipush (v := (nI 7)) X dX2_sign_127 (by decide) ?_
    exact j_iret X hr hlk ⟨by decide +kernel, rfl⟩ dX2_sign_129
  · refine j_tabIn (off := 115) (tgt := 116) X dX2_sign_1 (by decide) (by decide) (by decide) (by decide) ?_
    refine j_iconst (v := (nI 1)) X dX2_sign_116 (by decide) ?_
    exact j_iret X hr hlk ⟨by decide +kernel, rfl⟩ dX2_sign_117
  · refine j_tabIn (off := 131) (tgt := 132) X dX2_sign_1 (by decide) (by decide) (by decide) (by decide) ?_
    refine j_iconst (v := (nI 2)) X dX2_sign_132 (by decide) ?_
    exact j_iret X hr hlk ⟨by decide +kernel, rfl⟩ dX2_sign_133
  · refine j_tabIn (off := 117) (tgt := 118) X dX2_sign_1 (by decide) (by decide) (by decide) (by decide) ?_
    refine j_iconst (v := (nI 3)) X dX2_sign_118 (by decide) ?_
    exact j_iret X hr hlk ⟨by decide +kernel, rfl⟩ dX2_sign_119
  · refine j_tabIn (off := 126) (tgt := 127) X dX2_sign_1 (by decide) (by decide) (by decide) (by decide) ?_
    refine j_bipush (v := (nI 7)) X dX2_sign_127 (by decide) ?_
    exact j_iret X hr hlk ⟨by decide +kernel, rfl⟩ dX2_sign_129
  · refine j_tabIn (off := 119) (tgt := 120) X dX2_sign_1 (by decide) (by decide) (by decide) (by decide) ?_
    refine j_iconst (v := (nI 4)) X dX2_sign_120 (by decide) ?_
    exact j_iret X hr hlk ⟨by decide +kernel, rfl⟩ dX2_sign_121
  · refine j_tabIn (off := 131) (tgt := 132) X dX2_sign_1 (by decide) (by decide) (by decide) (by decide) ?_
    refine j_iconst (v := (nI 2)) X dX2_sign_132 (by decide) ?_
    exact j_iret X hr hlk ⟨by decide +kernel, rfl⟩ dX2_sign_133
  · refine j_tabIn (off := 129) (tgt := 130) X dX2_sign_1 (by decide) (by decide) (by decide) (by decide) ?_
    refine j_iconst (v := (nI 0)) X dX2_sign_130 (by decide) ?_
    exact j_iret X hr hlk ⟨by decide +kernel, rfl⟩ dX2_sign_131
  · refine j_tabIn (off := 126) (tgt := 127) X dX2_sign_1 (by decide) (by decide) (by decide) (by decide) ?_
    refine j_bipush (v := (nI 7)) X dX2_sign_127 (by decide) ?_
    exact j_iret X hr hlk ⟨by decide +kernel, rfl⟩ dX2_sign_129
  · refine j_tabIn (off := 131) (tgt := 132) X dX2_sign_1 (by decide) (by decide) (by decide) (by decide) ?_
    refine j_iconst (v := (nI 2)) X dX2_sign_132 (by decide) ?_
    exact j_iret X hr hlk ⟨by decide +kernel, rfl⟩ dX2_sign_133
  · refine j_tabIn (off := 131) (tgt := 132) X dX2_sign_1 (by decide) (by decide) (by decide) (by decide) ?_
    refine j_iconst (v := (nI 2)) X dX2_sign_132 (by decide) ?_
    exact j_iret X hr hlk ⟨by decide +kernel, rfl⟩ dX2_sign_133
  · refine j_tabIn (off := 121) (tgt := 122) X dX2_sign_1 (by decide) (by decide) (by decide) (by decide) ?_
    refine j_iconst (v := (nI 5)) X dX2_sign_122 (by decide) ?_
    exact j_iret X hr hlk ⟨by decide +kernel, rfl⟩ dX2_sign_123
  · refine j_tabIn (off := 123) (tgt := 124) X dX2_sign_1 (by decide) (by decide) (by decide) (by decide) ?_
    refine j_bipush (v := (nI 6)) X dX2_sign_124 (by decide) ?_
    exact j_iret X hr hlk ⟨by decide +kernel, rfl⟩ dX2_sign_126
  · refine j_tabIn (off := 123) (tgt := 124) X dX2_sign_1 (by decide) (by decide) (by decide) (by decide) ?_
    refine j_bipush (v := (nI 6)) X dX2_sign_124 (by decide) ?_
    exact j_iret X hr hlk ⟨by decide +kernel, rfl⟩ dX2_sign_126
  · refine j_tabIn (off := 126) (tgt := 127) X dX2_sign_1 (by decide) (by decide) (by decide) (by decide) ?_
    refine j_bipush (v := (nI 7)) X dX2_sign_127 (by decide) ?_
    exact j_iret X hr hlk ⟨by decide +kernel, rfl⟩ dX2_sign_129
  · refine j_tabIn (off := 115) (tgt := 116) X dX2_sign_1 (by decide) (by decide) (by decide) (by decide) ?_
    refine j_iconst (v := (nI 1)) X dX2_sign_116 (by decide) ?_
    exact j_iret X hr hlk ⟨by decide +kernel, rfl⟩ dX2_sign_117
  · refine j_tabIn (off := 131) (tgt := 132) X dX2_sign_1 (by decide) (by decide) (by decide) (by decide) ?_
    refine j_iconst (v := (nI 2)) X dX2_sign_132 (by decide) ?_
    exact j_iret X hr hlk ⟨by decide +kernel, rfl⟩ dX2_sign_133
  · refine j_tabIn (off := 121) (tgt := 122) X dX2_sign_1 (by decide) (by decide) (by decide) (by decide) ?_
    refine j_iconst (v := (nI 5)) X dX2_sign_122 (by decide) ?_
    exact j_iret X hr hlk ⟨by decide +kernel, rfl⟩ dX2_sign_123
  · refine j_tabIn (off := 131) (tgt := 132) X dX2_sign_1 (by decide) (by decide) (by decide) (by decide) ?_
    refine j_iconst (v := (nI 2)) X dX2_sign_132 (by decide) ?_
    exact j_iret X hr hlk ⟨by decide +kernel, rfl⟩ dX2_sign_133
  · refine j_tabIn (off := 117) (tgt := 118) X dX2_sign_1 (by decide) (by decide) (by decide) (by decide) ?_
    refine j_iconst (v := (nI 3)) X dX2_sign_118 (by decide) ?_
    exact j_iret X hr hlk ⟨by decide +kernel, rfl⟩ dX2_sign_119
  · refine j_tabIn (off := 126) (tgt := 127) X dX2_sign_1 (by decide) (by decide) (by decide) (by decide) ?_
    refine j_bipush (v := (nI 7)) X dX2_sign_127 (by decide) ?_
    exact j_iret X hr hlk ⟨by decide +kernel, rfl⟩ dX2_sign_129
  · refine j_tabIn (off := 119) (tgt := 120) X dX2_sign_1 (by decide) (by decide) (by decide) (by decide) ?_
    refine j_iconst (v := (nI 4)) X dX2_sign_120 (by decide) ?_
    exact j_iret X hr hlk ⟨by decide +kernel, rfl⟩ dX2_sign_121
  · refine j_tabIn (off := 119) (tgt := 120) X dX2_sign_1 (by decide) (by decide) (by decide) (by decide) ?_
    refine j_iconst (v := (nI 4)) X dX2_sign_120 (by decide) ?_
    exact j_iret X hr hlk ⟨by decide +kernel, rfl⟩ dX2_sign_121
  · refine j_tabIn (off := 131) (tgt := 132) X dX2_sign_1 (by decide) (by decide) (by decide) (by decide) ?_
    refine j_iconst (v := (nI 2)) X dX2_sign_132 (by decide) ?_
    exact j_iret X hr hlk ⟨by decide +kernel, rfl⟩ dX2_sign_133
  · refine j_tabIn (off := 129) (tgt := 130) X dX2_sign_1 (by decide) (by decide) (by decide) (by decide) ?_
    refine j_iconst (v := (nI 0)) X dX2_sign_130 (by decide) ?_
    exact j_iret X hr hlk ⟨by decide +kernel, rfl⟩ dX2_sign_131
set_option maxHeartbeats 4000000 in
set_option maxRecDepth 100000 in
theorem kX2_bearers (l : Launch) (D : va_G) (ad : Nat → Nat → Nat) (cs : Nat → ClassId) (A : Nat → Prop) (z : Nat → Nat) (μ : Mm) (M : CV) (V : CV) (N : Nat) (hw : Rw V N (M 1)) (hci : CI V N) (x : Int32) : KI l D ad cs A z yX2_bearers wsX2_bearers (rm 0 0) [.ref (ad 11 0), .int x] (mb μ 11 M) (fun r μ1 => r = bm V x 12 ∧ μ1 = mb μ 11 M) := by
  refine KI_of (cc := cX2_bearers) (maxL := 4) (ret := (some .int)) (by decide) rfl (Nat.le_of_ble_eq_true rfl) ?_
  intro p e s m args below meth c hr hlk X
  show J p l e _ s m args below meth c 0 0 _ 4 D ad cs A 0 [(0, .ref (ad 11 0)), (1, .int x)] [] (mb μ 11 M)
  have hinX2 : ∀ w ∈ wsX20, w ∈ wsX2_bearers := by decide +kernel
  have k7 : (Cond.fieldLink RX2 7 "PunCourtsModel" "all" "[I").before args s = true := X.1.2.2.2.2 _ (by decide +kernel)
  have hN := hci.1.1
  have hN20 := hci.1.2.1
  refine j_iconst (v := (nI 0)) X dX2_bearers_0 (by decide) ?_
  refine j_istore_n (lv' := [(2, .int (nI 0)), (0, .ref (ad 11 0)), (1, .int x)]) X dX2_bearers_1 rfl (by decide) rfl ?_
  refine j_iconst (v := (nI 0)) X dX2_bearers_2 (by decide) ?_
  refine j_istore_n (lv' := [(3, .int (nI 0)), (2, .int (nI 0)), (0, .ref (ad 11 0)), (1, .int x)]) X dX2_bearers_3 rfl (by decide) rfl ?_
  refine jl2 (G := J p l e _ s m args below meth c 0 0 _ _ D ad cs A) (pc := 4) (fun (i : Nat) (m1 : Int32) => [(3, .int (nI i)), (2, .int m1), (0, .ref (ad 11 0)), (1, .int x)]) (fun (i : Nat) (m1 : Int32) => (mb μ 11 M)) (fun (i : Nat) (m1 : Int32) => i ≤ 12 ∧ m1 = bm V x i) (fun (i : Nat) (m1 : Int32) => 12 - i) ?_ 0 (nI 0) ⟨by omega, rfl⟩
  intro i m1 hI4 ih4
  try dsimp only at ih4 ⊢
  obtain ⟨hi, hm⟩ := hI4
  refine j_iload_n (q := 0) X dX2_bearers_4 rfl rfl ?_
  refine j_bipush (v := (nI 12)) X dX2_bearers_5 (by decide) ?_
  refine j_ncmp_ge (tgt := 40) X i 12 dX2_bearers_7 (by decide) rfl rfl (by omega) (by omega) (fun c7 => ?_) (fun c7 => ?_)
  · skip
    refine j_iload_n (q := 1) X dX2_bearers_40 rfl rfl ?_
    exact j_iret X hr hlk ⟨by rw [hm, show i = 12 by omega], rfl⟩ dX2_bearers_41
  · skip
    refine j_iload_n (q := 1) X dX2_bearers_10 rfl rfl ?_
    refine j_aload_n (q := 2) X dX2_bearers_11 rfl rfl ?_
    refine j_getRB X oR hinX2 0 (by decide) rfl k7 dX2_bearers_12 ?_
    refine j_sipush (v := (nI 249)) X dX2_bearers_15 (by decide) ?_
    refine j_iload_n (q := 0) X dX2_bearers_18 rfl rfl ?_
    refine j_iadd (v := (nI (249 + i))) X dX2_bearers_19 (nI_add _ _) ?_
    refine j_ialdB X aR_1 (249 + i) rfl (by omega) (by decide) dX2_bearers_20 ?_
    rw [hw.bo (show i < 12 by omega)]
    refine j_iload_n (q := 3) X dX2_bearers_21 rfl rfl ?_
    refine j_icmp_ne (tgt := 31) X dX2_bearers_22 (by decide) (fun c22 => ?_) (fun c22 => ?_)
    · skip
      refine j_iconst (v := (nI 0)) X dX2_bearers_31 (by decide) ?_
      refine j_ior (v := (m1 ||| (nI 0))) X dX2_bearers_32 rfl ?_
      refine j_istore_n (lv' := [(2, .int (m1 ||| (nI 0))), (3, .int (nI i)), (0, .ref (ad 11 0)), (1, .int x)]) X dX2_bearers_33 rfl (by decide) rfl ?_
      refine j_iinc (q := 1) (v := (nI (i + 1))) (lv' := [(3, .int (nI (i + 1))), (2, .int (m1 ||| (nI 0))), (0, .ref (ad 11 0)), (1, .int x)]) X dX2_bearers_34 rfl (nI_1 _) (by decide) rfl ?_
      refine j_goto (tgt := 4) X dX2_bearers_37 (by decide) ?_
      exact ih4 (i + 1) (m1 ||| (nI 0)) ⟨by omega, by rw [bm, ← hm]; first | (rw [if_neg c22]; exact sh1 m1) | exact (if_pos (Classical.not_not.mp c22)).symm⟩ (by omega)
    · skip
      refine j_iconst (v := (nI 1)) X dX2_bearers_25 (by decide) ?_
      refine j_iload_n (q := 0) X dX2_bearers_26 rfl rfl ?_
      refine j_ishl (v := ((nI 1) <<< ((nI i) &&& 31))) X dX2_bearers_27 rfl ?_
      refine j_goto (tgt := 32) X dX2_bearers_28 (by decide) ?_
      refine j_ior (v := (m1 ||| ((nI 1) <<< ((nI i) &&& 31)))) X dX2_bearers_32 rfl ?_
      refine j_istore_n (lv' := [(2, .int (m1 ||| ((nI 1) <<< ((nI i) &&& 31)))), (3, .int (nI i)), (0, .ref (ad 11 0)), (1, .int x)]) X dX2_bearers_33 rfl (by decide) rfl ?_
      refine j_iinc (q := 1) (v := (nI (i + 1))) (lv' := [(3, .int (nI (i + 1))), (2, .int (m1 ||| ((nI 1) <<< ((nI i) &&& 31)))), (0, .ref (ad 11 0)), (1, .int x)]) X dX2_bearers_34 rfl (nI_1 _) (by decide) rfl ?_
      refine j_goto (tgt := 4) X dX2_bearers_37 (by decide) ?_
      exact ih4 (i + 1) (m1 ||| ((nI 1) <<< ((nI i) &&& 31))) ⟨by omega, by rw [bm, ← hm]; first | (rw [if_neg c22]; exact sh1 m1) | exact (if_pos (Classical.not_not.mp c22)).symm⟩ (by omega)
set_option maxHeartbeats 4000000 in
set_option maxRecDepth 100000 in
theorem kX2_bits (l : Launch) (D : va_G) (ad : Nat → Nat → Nat) (cs : Nat → ClassId) (A : Nat → Prop) (z : Nat → Nat) (μ : Mm) (M : CV) (V : CV) (N : Nat) (hw : Rw V N (M 1)) (hci : CI V N) (x : Int32) : KI l D ad cs A z yX2_bits wsX2_bits (rm 0 0) [.int (bm V x 12)] (mb μ 11 M) (fun r μ1 => r = nI (nb V x 12) ∧ μ1 = mb μ 11 M) := by
  refine KI_of (cc := cX2_bits) (maxL := 3) (ret := (some .int)) (by decide) rfl (Nat.le_of_ble_eq_true rfl) ?_
  intro p e s m args below meth c hr hlk X
  show J p l e _ s m args below meth c 0 0 _ 3 D ad cs A 0 [(0, .int (bm V x 12))] [] (mb μ 11 M)
  have hN := hci.1.1
  have hN20 := hci.1.2.1
  refine j_iconst (v := (nI 0)) X dX2_bits_0 (by decide) ?_
  refine j_istore_n (lv' := [(1, .int (nI 0)), (0, .int (bm V x 12))]) X dX2_bits_1 rfl (by decide) rfl ?_
  refine j_iconst (v := (nI 0)) X dX2_bits_2 (by decide) ?_
  refine j_istore_n (lv' := [(2, .int (nI 0)), (1, .int (nI 0)), (0, .int (bm V x 12))]) X dX2_bits_3 rfl (by decide) rfl ?_
  refine jl2 (G := J p l e _ s m args below meth c 0 0 _ _ D ad cs A) (pc := 4) (fun (i : Nat) (r : Nat) => [(2, .int (nI i)), (1, .int (nI r)), (0, .int (bm V x 12))]) (fun (i : Nat) (r : Nat) => (mb μ 11 M)) (fun (i : Nat) (r : Nat) => i ≤ 12 ∧ r = nb V x i) (fun (i : Nat) (r : Nat) => 12 - i) ?_ 0 0 ⟨by omega, rfl⟩
  intro i r hI4 ih4
  try dsimp only at ih4 ⊢
  obtain ⟨hi, hrr⟩ := hI4
  refine j_iload_n (q := 0) X dX2_bits_4 rfl rfl ?_
  refine j_bipush (v := (nI 12)) X dX2_bits_5 (by decide) ?_
  refine j_ncmp_ge (tgt := 24) X i 12 dX2_bits_7 (by decide) rfl rfl (by omega) (by omega) (fun c7 => ?_) (fun c7 => ?_)
  · skip
    refine j_iload_n (q := 1) X dX2_bits_24 rfl rfl ?_
    exact j_iret X hr hlk ⟨by rw [hrr, show i = 12 by omega], rfl⟩ dX2_bits_25
  · skip
    have hstep := bits_s (V := V) (x := x) (i := i) (by omega) hrr
    refine j_iload_n (q := 1) X dX2_bits_10 rfl rfl ?_
    refine j_iload_n (q := 2) X dX2_bits_11 rfl rfl ?_
    refine j_iload_n (q := 0) X dX2_bits_12 rfl rfl ?_
    refine j_ishr (v := ((bm V x 12) >>> ((nI i) &&& 31))) X dX2_bits_13 rfl ?_
    refine j_iconst (v := (nI 1)) X dX2_bits_14 (by decide) ?_
    refine j_iand (v := (if bt (bm V x 12) i = true then nI 1 else nI 0)) X dX2_bits_15 (b_bit _ i (by omega)) ?_
    refine j_iadd (v := (nI (nb V x (i + 1)))) X dX2_bits_16 hstep ?_
    refine j_istore_n (lv' := [(1, .int (nI (nb V x (i + 1)))), (2, .int (nI i)), (0, .int (bm V x 12))]) X dX2_bits_17 rfl (by decide) rfl ?_
    refine j_iinc (q := 1) (v := (nI (i + 1))) (lv' := [(2, .int (nI (i + 1))), (1, .int (nI (nb V x (i + 1)))), (0, .int (bm V x 12))]) X dX2_bits_18 rfl (nI_1 _) (by decide) rfl ?_
    refine j_goto (tgt := 4) X dX2_bits_21 (by decide) ?_
    exact ih4 (i + 1) (nb V x (i + 1)) ⟨by omega, rfl⟩ (by omega)
set_option maxHeartbeats 4000000 in
set_option maxRecDepth 100000 in
theorem kX2_whereIs (l : Launch) (D : va_G) (ad : Nat → Nat → Nat) (cs : Nat → ClassId) (A : Nat → Prop) (z : Nat → Nat) (μ : Mm) (M : CV) (V : CV) (N : Nat) (hw : Rw V N (M 1)) (hci : CI V N) (n : Nat) (hn : n < N) : KI l D ad cs A z yX2_whereIs wsX2_whereIs (rm 1 23) [.ref (ad 11 0), .int (nI n)] (mb μ 11 M) (fun r μ1 => r = wh V n ∧ μ1 = mb μ 11 M) := by
  refine KI_of (cc := cX2_whereIs) (maxL := 2) (ret := (some .int)) (by decide) rfl (Nat.le_of_ble_eq_true rfl) ?_
  intro p e s m args below meth c hr hlk X
  show J p l e _ s m args below meth c 0 0 _ 2 D ad cs A 0 [(0, .ref (ad 11 0)), (1, .int (nI n))] [] (mb μ 11 M)
  have hN := hci.1.1
  have hN20 := hci.1.2.1
  refine j_aload_n (q := 0) X dX2_whereIs_0 rfl rfl ?_
  refine j_iload_n (q := 1) X dX2_whereIs_1 rfl rfl ?_
  refine j_iconst (v := (nI 1)) X dX2_whereIs_2 (by decide) ?_
  refine j_callVi (As := [.int (nI n), .int (nI 1)]) X (kX2_get l D ad cs A z μ M n 1 (by omega) (by decide)) oR rfl (cwV 2 X.1.2.2.2.2 gX2_whereIs_X2_get rfl rfl rfl (by decide +kernel) ⟨Nat.le_of_ble_eq_true rfl, Nat.le_of_ble_eq_true rfl⟩) rfl rfl (Nat.le_of_ble_eq_true rfl) dX2_whereIs_3 (fun r3 μ3 h3 => ?_)
  obtain ⟨h3, rfl⟩ := h3
  rw [hw.wd (by omega)] at h3
  rw [h3]
  refine j_iconst (v := (nI 1)) X dX2_whereIs_6 (by decide) ?_
  refine j_icmp_ne (tgt := 14) X dX2_whereIs_7 (by decide) (fun c7 => ?_) (fun c7 => ?_)
  · skip
    have hw0 : V 8 n = 0 := (hci.2.2.2.1.2.1 n hn).elim id (fun q => absurd q c7)
    refine j_aload_n (q := 0) X dX2_whereIs_14 rfl rfl ?_
    refine j_iload_n (q := 1) X dX2_whereIs_15 rfl rfl ?_
    refine j_callVi (As := [.int (nI n)]) X (kX2_bearers l D ad cs A z μ M V N hw hci (nI n)) oR rfl (cwV 1 X.1.2.2.2.2 gX2_whereIs_X2_bearers rfl rfl rfl (by decide +kernel) ⟨Nat.le_of_ble_eq_true rfl, Nat.le_of_ble_eq_true rfl⟩) rfl rfl (Nat.le_of_ble_eq_true rfl) dX2_whereIs_16 (fun r16 μ16 h16 => ?_)
    obtain ⟨h16, rfl⟩ := h16
    rw [h16]
    refine j_if_eq (tgt := 26) X dX2_whereIs_19 (by decide) (fun c19 => ?_) (fun c19 => ?_)
    · skip
      refine j_iconst (v := (nI 0)) X dX2_whereIs_26 (by decide) ?_
      exact j_iret X hr hlk ⟨by rw [wh]; rw [if_pos hw0, if_neg (fun q => bm_ne.mpr q c19)]; rfl, rfl⟩ dX2_whereIs_27
    · skip
      refine j_iconst (v := (nI 1)) X dX2_whereIs_22 (by decide) ?_
      refine j_goto (tgt := 27) X dX2_whereIs_23 (by decide) ?_
      exact j_iret X hr hlk ⟨by rw [wh]; rw [if_pos hw0, if_pos (bm_ne.mp c19)]; rfl, rfl⟩ dX2_whereIs_27
  · skip
    refine j_iconst (v := (nI 2)) X dX2_whereIs_10 (by decide) ?_
    refine j_goto (tgt := 27) X dX2_whereIs_11 (by decide) ?_
    exact j_iret X hr hlk ⟨by rw [wh]; rw [if_neg (by rw [Classical.not_not.mp c7]; decide)]; rfl, rfl⟩ dX2_whereIs_27
set_option maxHeartbeats 4000000 in
set_option maxRecDepth 100000 in
theorem kX2_soundAlike (l : Launch) (D : va_G) (ad : Nat → Nat → Nat) (cs : Nat → ClassId) (A : Nat → Prop) (z : Nat → Nat) (μ : Mm) (M : CV) (V : CV) (N : Nat) (hw : Rw V N (M 1)) (hci : CI V N) (n : Nat) (hn : n < N) (n2 : Nat) (hn2 : n2 < N) : KI l D ad cs A z yX2_soundAlike wsX2_soundAlike (rm 1 22) [.ref (ad 11 0), .int (nI n), .int (nI n2)] (mb μ 11 M) (fun r μ1 => bP r (V 6 n = V 6 n2) ∧ μ1 = mb μ 11 M) := by
  refine KI_of (cc := cX2_soundAlike) (maxL := 3) (ret := (some .boolean)) (by decide) rfl (Nat.le_of_ble_eq_true rfl) ?_
  intro p e s m args below meth c hr hlk X
  show J p l e _ s m args below meth c 0 0 _ 3 D ad cs A 0 [(0, .ref (ad 11 0)), (1, .int (nI n)), (2, .int (nI n2))] [] (mb μ 11 M)
  have hN := hci.1.1
  have hN20 := hci.1.2.1
  refine j_aload_n (q := 0) X dX2_soundAlike_0 rfl rfl ?_
  refine j_iload_n (q := 1) X dX2_soundAlike_1 rfl rfl ?_
  refine j_iconst (v := (nI 4)) X dX2_soundAlike_2 (by decide) ?_
  refine j_callVi (As := [.int (nI n), .int (nI 4)]) X (kX2_get l D ad cs A z μ M n 4 (by omega) (by decide)) oR rfl (cwV 2 X.1.2.2.2.2 gX2_soundAlike_X2_get rfl rfl rfl (by decide +kernel) ⟨Nat.le_of_ble_eq_true rfl, Nat.le_of_ble_eq_true rfl⟩) rfl rfl (Nat.le_of_ble_eq_true rfl) dX2_soundAlike_3 (fun r3 μ3 h3 => ?_)
  obtain ⟨h3, rfl⟩ := h3
  rw [hw.sn (by omega)] at h3
  rw [h3]
  refine j_aload_n (q := 0) X dX2_soundAlike_6 rfl rfl ?_
  refine j_iload_n (q := 2) X dX2_soundAlike_7 rfl rfl ?_
  refine j_iconst (v := (nI 4)) X dX2_soundAlike_8 (by decide) ?_
  refine j_callVi (As := [.int (nI n2), .int (nI 4)]) X (kX2_get l D ad cs A z μ M n2 4 (by omega) (by decide)) oR rfl (cwV 2 X.1.2.2.2.2 gX2_soundAlike_X2_get rfl rfl rfl (by decide +kernel) ⟨Nat.le_of_ble_eq_true rfl, Nat.le_of_ble_eq_true rfl⟩) rfl rfl (Nat.le_of_ble_eq_true rfl) dX2_soundAlike_9 (fun r9 μ9 h9 => ?_)
  obtain ⟨h9, rfl⟩ := h9
  rw [hw.sn (by omega)] at h9
  rw [h9]
  refine j_icmp_ne (tgt := 19) X dX2_soundAlike_12 (by decide) (fun c12 => ?_) (fun c12 => ?_)
  · skip
    refine j_iconst (v := (nI 0)) X dX2_soundAlike_19 (by decide) ?_
    exact j_zret X hr hlk (by first | exact Or.inl rfl | exact Or.inr rfl) ⟨bP.nn c12, rfl⟩ dX2_soundAlike_20
  · skip
    refine j_iconst (v := (nI 1)) X dX2_soundAlike_15 (by decide) ?_
    refine j_goto (tgt := 20) X dX2_soundAlike_16 (by decide) ?_
    exact j_zret X hr hlk (by first | exact Or.inl rfl | exact Or.inr rfl) ⟨bP.yn (Classical.not_not.mp c12), rfl⟩ dX2_soundAlike_20
set_option maxHeartbeats 4000000 in
set_option maxRecDepth 100000 in
theorem kX2_comesFirst (l : Launch) (D : va_G) (ad : Nat → Nat → Nat) (cs : Nat → ClassId) (A : Nat → Prop) (z : Nat → Nat) (μ : Mm) (M : CV) (V : CV) (N : Nat) (hw : Rw V N (M 1)) (hci : CI V N) (n : Nat) (hn : n < N) (n2 : Nat) (hn2 : n2 < N) : KI l D ad cs A z yX2_comesFirst wsX2_comesFirst (rm 1 22) [.ref (ad 11 0), .int (nI n), .int (nI n2)] (mb μ 11 M) (fun r μ1 => bP r (befS V n n2) ∧ μ1 = mb μ 11 M) := by
  refine KI_of (cc := cX2_comesFirst) (maxL := 3) (ret := (some .boolean)) (by decide) rfl (Nat.le_of_ble_eq_true rfl) ?_
  intro p e s m args below meth c hr hlk X
  show J p l e _ s m args below meth c 0 0 _ 3 D ad cs A 0 [(0, .ref (ad 11 0)), (1, .int (nI n)), (2, .int (nI n2))] [] (mb μ 11 M)
  have hN := hci.1.1
  have hN20 := hci.1.2.1
  refine j_aload_n (q := 0) X dX2_comesFirst_0 rfl rfl ?_
  refine j_iload_n (q := 1) X dX2_comesFirst_1 rfl rfl ?_
  refine j_iconst (v := (nI 0)) X dX2_comesFirst_2 (by decide) ?_
  refine j_callVi (As := [.int (nI n), .int (nI 0)]) X (kX2_get l D ad cs A z μ M n 0 (by omega) (by decide)) oR rfl (cwV 2 X.1.2.2.2.2 gX2_comesFirst_X2_get rfl rfl rfl (by decide +kernel) ⟨Nat.le_of_ble_eq_true rfl, Nat.le_of_ble_eq_true rfl⟩) rfl rfl (Nat.le_of_ble_eq_true rfl) dX2_comesFirst_3 (fun r3 μ3 h3 => ?_)
  obtain ⟨h3, rfl⟩ := h3
  rw [hw.ho (by omega)] at h3
  rw [h3]
  refine j_aload_n (q := 0) X dX2_comesFirst_6 rfl rfl ?_
  refine j_iload_n (q := 2) X dX2_comesFirst_7 rfl rfl ?_
  refine j_iconst (v := (nI 0)) X dX2_comesFirst_8 (by decide) ?_
  refine j_callVi (As := [.int (nI n2), .int (nI 0)]) X (kX2_get l D ad cs A z μ M n2 0 (by omega) (by decide)) oR rfl (cwV 2 X.1.2.2.2.2 gX2_comesFirst_X2_get rfl rfl rfl (by decide +kernel) ⟨Nat.le_of_ble_eq_true rfl, Nat.le_of_ble_eq_true rfl⟩) rfl rfl (Nat.le_of_ble_eq_true rfl) dX2_comesFirst_9 (fun r9 μ9 h9 => ?_)
  obtain ⟨h9, rfl⟩ := h9
  rw [hw.ho (by omega)] at h9
  rw [h9]
  refine j_icmp_gt (tgt := 35) X dX2_comesFirst_12 (by decide) (fun c12 => ?_) (fun c12 => ?_)
  · skip
    have hb : befS V n n2 := Or.inl c12
    refine j_iconst (v := (nI 1)) X dX2_comesFirst_35 (by decide) ?_
    refine j_goto (tgt := 40) X dX2_comesFirst_36 (by decide) ?_
    exact j_zret X hr hlk (by first | exact Or.inl rfl | exact Or.inr rfl) ⟨bP.yn hb, rfl⟩ dX2_comesFirst_40
  · skip
    refine j_aload_n (q := 0) X dX2_comesFirst_15 rfl rfl ?_
    refine j_iload_n (q := 1) X dX2_comesFirst_16 rfl rfl ?_
    refine j_iconst (v := (nI 0)) X dX2_comesFirst_17 (by decide) ?_
    refine j_callVi (As := [.int (nI n), .int (nI 0)]) X (kX2_get l D ad cs A z μ M n 0 (by omega) (by decide)) oR rfl (cwV 2 X.1.2.2.2.2 gX2_comesFirst_X2_get rfl rfl rfl (by decide +kernel) ⟨Nat.le_of_ble_eq_true rfl, Nat.le_of_ble_eq_true rfl⟩) rfl rfl (Nat.le_of_ble_eq_true rfl) dX2_comesFirst_18 (fun r18 μ18 h18 => ?_)
    obtain ⟨h18, rfl⟩ := h18
    rw [hw.ho (by omega)] at h18
    rw [h18]
    refine j_aload_n (q := 0) X dX2_comesFirst_21 rfl rfl ?_
    refine j_iload_n (q := 2) X dX2_comesFirst_22 rfl rfl ?_
    refine j_iconst (v := (nI 0)) X dX2_comesFirst_23 (by decide) ?_
    refine j_callVi (As := [.int (nI n2), .int (nI 0)]) X (kX2_get l D ad cs A z μ M n2 0 (by omega) (by decide)) oR rfl (cwV 2 X.1.2.2.2.2 gX2_comesFirst_X2_get rfl rfl rfl (by decide +kernel) ⟨Nat.le_of_ble_eq_true rfl, Nat.le_of_ble_eq_true rfl⟩) rfl rfl (Nat.le_of_ble_eq_true rfl) dX2_comesFirst_24 (fun r24 μ24 h24 => ?_)
    obtain ⟨h24, rfl⟩ := h24
    rw [hw.ho (by omega)] at h24
    rw [h24]
    refine j_icmp_ne (tgt := 39) X dX2_comesFirst_27 (by decide) (fun c27 => ?_) (fun c27 => ?_)
    · skip
      have hb : ¬ befS V n n2 := fun q => q.elim (fun w => c12 w) (fun w => c27 w.1)
      refine j_iconst (v := (nI 0)) X dX2_comesFirst_39 (by decide) ?_
      exact j_zret X hr hlk (by first | exact Or.inl rfl | exact Or.inr rfl) ⟨bP.nn hb, rfl⟩ dX2_comesFirst_40
    · skip
      refine j_iload_n (q := 1) X dX2_comesFirst_30 rfl rfl ?_
      refine j_iload_n (q := 2) X dX2_comesFirst_31 rfl rfl ?_
      refine j_ncmp_ge (tgt := 39) X n n2 dX2_comesFirst_32 (by decide) rfl rfl (by omega) (by omega) (fun c32 => ?_) (fun c32 => ?_)
      · skip
        have hb : ¬ befS V n n2 := fun q => q.elim (fun w => c12 w) (fun w => absurd w.2 (by omega))
        refine j_iconst (v := (nI 0)) X dX2_comesFirst_39 (by decide) ?_
        exact j_zret X hr hlk (by first | exact Or.inl rfl | exact Or.inr rfl) ⟨bP.nn hb, rfl⟩ dX2_comesFirst_40
      · skip
        have hb : befS V n n2 := Or.inr ⟨Classical.not_not.mp c27, by omega⟩
        refine j_iconst (v := (nI 1)) X dX2_comesFirst_35 (by decide) ?_
        refine j_goto (tgt := 40) X dX2_comesFirst_36 (by decide) ?_
        exact j_zret X hr hlk (by first | exact Or.inl rfl | exact Or.inr rfl) ⟨bP.yn hb, rfl⟩ dX2_comesFirst_40
