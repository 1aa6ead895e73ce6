set_option maxHeartbeats 4000000 in
set_option maxRecDepth 100000 in
theorem kX1_copyRow (l : Launch) (D : va_G) (ad : Nat → Nat → Nat) (cs : Nat → ClassId) (A : Nat → Prop) (z : Nat → Nat) {b k b1 k1 n : Nat} (ha : Arr ad cs b k 0 n) (ha1 : Arr ad cs b1 k1 0 n) (hn : n < 2 ^ 30) (hne : k1 ≠ 4 ∧ k1 ≠ 8 ∧ ¬ (b1 = 10 ∧ k1 = 7)) (μ : Mm) : KV l D ad cs A z yX1_copyRow wsX1_copyRow (rm 1 39) [.ref (ad b k), .ref (ad b1 k1)] μ (fun μ1 => μ1 = mc μ b1 k1 (va_cpy (μ b k) (μ b1 k1) 0 0 n)) := by
  refine KV_of (cc := cX1_copyRow) (maxL := 2) (ret := none) (by decide) rfl (Nat.le_of_ble_eq_true rfl) ?_
  intro p e s m args below meth c hr hlk X
  show J p l e _ s m args below meth c 0 0 _ 2 D ad cs A 0 [(0, .ref (ad b k)), (1, .ref (ad b1 k1))] [] μ
  refine j_aload_n (q := 0) X dX1_copyRow_0 rfl rfl ?_
  refine j_iconst (v := (nI 0)) X dX1_copyRow_1 (by decide) ?_
  refine j_aload_n (q := 1) X dX1_copyRow_2 rfl rfl ?_
  refine j_iconst (v := (nI 0)) X dX1_copyRow_3 (by decide) ?_
  refine j_aload_n (q := 0) X dX1_copyRow_4 rfl rfl ?_
  refine j_alen (v := nI n) X ha rfl rfl dX1_copyRow_5 ?_
  refine j_aload_n (q := 1) X dX1_copyRow_6 rfl rfl ?_
  refine j_alen (v := nI n) X ha1 rfl rfl dX1_copyRow_7 ?_
  refine j_mmin (v := nI n) X (X.1.2.2.2.2 _ (by decide +kernel)) (X.1.2.2.2.2 _ (by decide +kernel)) (X.1.2.2.2.2 _ (by decide +kernel)) (X.1.2.2.2.2 _ (by decide +kernel)) (Nat.le_of_ble_eq_true rfl) (Nat.le_of_ble_eq_true rfl) (ite_self _) dX1_copyRow_8 ?_
  refine j_copy X ha ha1 rfl rfl 0 0 n rfl rfl rfl (by omega) (by omega) (by omega) (by omega) (fun _ i _ => rfl) (fun hT => hT.keep (fun _ q => absurd q hne.1) (fun _ q => absurd q hne.2.1) (fun q r => absurd ⟨q, r⟩ hne.2.2)) (X.1.2.2.2.2 _ (by decide +kernel)) (X.1.2.2.2.2 _ (by decide +kernel)) (X.1.2.2.2.2 _ (by decide +kernel)) (X.1.2.2.2.2 _ (by decide +kernel)) (Nat.le_of_ble_eq_true rfl) (Nat.le_of_ble_eq_true rfl) dX1_copyRow_11 ?_
  exact j_vret X hr hlk rfl dX1_copyRow_14
set_option maxHeartbeats 4000000 in
set_option maxRecDepth 100000 in
theorem kX1_sum (l : Launch) (D : va_G) (ad : Nat → Nat → Nat) (cs : Nat → ClassId) (A : Nat → Prop) (z : Nat → Nat) {b k n : Nat} (ha : Arr ad cs b k 0 n) (hn : n < 2 ^ 30) (μ : Mm) : KI l D ad cs A z yX1_sum wsX1_sum (rm 0 0) [.ref (ad b k)] μ (fun r μ1 => r = sm (μ b k) n ∧ μ1 = μ) := by
  refine KI_of (cc := cX1_sum) (maxL := 3) (ret := (some .int)) (by decide) rfl (Nat.le_of_ble_eq_true rfl) ?_
  intro p e s m args below meth c hr hlk X
  show J p l e _ s m args below meth c 0 0 _ 3 D ad cs A 0 [(0, .ref (ad b k))] [] μ
  refine j_iconst (v := (nI 0)) X dX1_sum_0 (by decide) ?_
  refine j_istore_n (lv' := [(1, .int (nI 0)), (0, .ref (ad b k))]) X dX1_sum_1 rfl (by decide) rfl ?_
  refine j_iconst (v := (nI 0)) X dX1_sum_2 (by decide) ?_
  refine j_istore_n (lv' := [(2, .int (nI 0)), (1, .int (nI 0)), (0, .ref (ad b k))]) X dX1_sum_3 rfl (by decide) rfl ?_
  refine jl2 (G := J p l e _ s m args below meth c 0 0 _ _ D ad cs A) (pc := 4) (fun (i : Nat) (r : Int32) => [(2, .int (nI i)), (1, .int r), (0, .ref (ad b k))]) (fun (i : Nat) (r : Int32) => μ) (fun (i : Nat) (r : Int32) => i ≤ n ∧ r = sm (μ b k) i) (fun (i : Nat) (r : Int32) => n - i) ?_ 0 (nI 0) ⟨by omega, rfl⟩
  intro i r hI4 ih4
  try dsimp only at ih4 ⊢
  obtain ⟨hi, hrr⟩ := hI4
  refine j_iload_n (q := 0) X dX1_sum_4 rfl rfl ?_
  refine j_aload_n (q := 2) X dX1_sum_5 rfl rfl ?_
  refine j_alen (v := nI n) X ha rfl rfl dX1_sum_6 ?_
  refine j_ncmp_ge (tgt := 22) X i n dX1_sum_7 (by decide) rfl rfl (by omega) (by omega) (fun c7 => ?_) (fun c7 => ?_)
  · refine j_iload_n (q := 1) X dX1_sum_22 rfl rfl ?_
    exact j_iret X hr hlk ⟨by rw [hrr, show i = n by omega], rfl⟩ dX1_sum_23
  · refine j_iload_n (q := 1) X dX1_sum_10 rfl rfl ?_
    refine j_aload_n (q := 2) X dX1_sum_11 rfl rfl ?_
    refine j_iload_n (q := 0) X dX1_sum_12 rfl rfl ?_
    refine j_iald (v := μ b k i) X ha i rfl (by omega) (by omega) rfl dX1_sum_13 ?_
    refine j_iadd (v := r + μ b k i) X dX1_sum_14 rfl ?_
    refine j_istore_n (lv' := [(1, .int (r + μ b k i)), (2, .int (nI i)), (0, .ref (ad b k))]) X dX1_sum_15 rfl (by decide) rfl ?_
    refine j_iinc (q := 1) (v := nI (i + 1)) (lv' := [(2, .int (nI (i + 1))), (1, .int (r + μ b k i)), (0, .ref (ad b k))]) X dX1_sum_16 rfl (nI_1 _) (by decide) rfl ?_
    refine j_goto (tgt := 4) X dX1_sum_19 (by decide) ?_
    exact ih4 (i + 1) (r + μ b k i) ⟨by omega, by rw [sm, hrr]⟩ (by omega)
set_option maxHeartbeats 4000000 in
set_option maxRecDepth 100000 in
theorem kX0_drawMap (l : Launch) (D : va_G) (ad : Nat → Nat → Nat) (cs : Nat → ClassId) (A : Nat → Prop) (z : Nat → Nat) {b : Nat} (hb : b < 10) (μ : Mm) (V : CV) : KV l D ad cs A z yX0_drawMap wsX0_drawMap (rm 2 60) [.ref (ad b 0)] (mb μ b V) (fun μ1 => μ1 = mb μ b (dm V)) := by
  refine KV_of (cc := cX0_drawMap) (maxL := 1) (ret := none) (by decide) rfl (Nat.le_of_ble_eq_true rfl) ?_
  intro p e s m args below meth c hr hlk X
  show J p l e _ s m args below meth c 0 0 _ 1 D ad cs A 0 [(0, .ref (ad b 0))] [] (mb μ b V)
  have hinX0 : ∀ w ∈ wsX00, w ∈ wsX0_drawMap := by decide +kernel
  have k140 : (Cond.fieldLink RX0 140 "PunCourts$Court" "mapIssued" "Z").before args s = true := X.1.2.2.2.2 _ (by decide +kernel)
  have k35 : (Cond.fieldLink RX0 35 "PunCourts$Court" "borne" "[I").before args s = true := X.1.2.2.2.2 _ (by decide +kernel)
  have k50 : (Cond.fieldLink RX0 50 "PunCourts$Court" "shown" "[I").before args s = true := X.1.2.2.2.2 _ (by decide +kernel)
  refine j_aload_n (q := 0) X dX0_drawMap_0 rfl rfl ?_
  refine j_iconst (v := (nI 1)) X dX0_drawMap_1 (by decide) ?_
  refine j_putCB (ty := .boolean) X (oC hb) hinX0 14 (by decide) (fun _ => rfl) rfl rfl (by decide) (by decide) (Nat.le_of_ble_eq_true rfl) k140 dX0_drawMap_2 ?_
  refine j_aload_n (q := 0) X dX0_drawMap_5 rfl rfl ?_
  refine j_getCB X (oC hb) hinX0 9 (by decide) rfl k35 dX0_drawMap_6 ?_
  refine j_aload_n (q := 0) X dX0_drawMap_9 rfl rfl ?_
  refine j_getCB X (oC hb) hinX0 15 (by decide) rfl k50 dX0_drawMap_10 ?_
  refine j_callSNv (As := [.ref (ad b 10), .ref (ad b 16)]) X (kX1_copyRow l D ad cs A z (aC_10 hb) (aC_16 hb) (by decide) ⟨by decide, by decide, fun q => absurd q.2 (by decide)⟩ (mb μ b (us V 0 14 (nI 1)))) ⟨va_cnB 2 X.1.2.2.2.2 gX0_drawMap_X1_copyRow_n144 rfl rfl rfl X.2.2.2.2.2.2 (X.1.2.2.2.2 (.initialized RX1) (by decide +kernel)) (by decide +kernel) ⟨Nat.le_of_ble_eq_true rfl, Nat.le_of_ble_eq_true rfl⟩, X.1.2.2.2.2 (.static yX1_copyRow) (by decide +kernel), trivial⟩ rfl rfl (Nat.le_of_ble_eq_true rfl) dX0_drawMap_13 (fun μ2 h2 => ?_)
  subst h2
  refine j_eq (μ1 := mb μ b (dm V)) (by rw [mc_b, mb_s]; rfl) ?_
  exact j_vret X hr hlk rfl dX0_drawMap_16
theorem j_ty {p : Program} {l : Launch} {e : Env} {R : Room} {s : State} {m : MethodId} {args : Array Value} {below : List Frame} {meth : Method} {c : Code} {ce sl : Nat} {Q : State → Prop} {nL : Nat} {D : va_G} {ad : Nat → Nat → Nat} {cs : Nat → ClassId} {A : Nat → Prop} {pc : Nat} {lv : List (Nat × Value)} {st : List Value} {μ : Mm} (kk : TY μ → J p l e R s m args below meth c ce sl Q nL D ad cs A pc lv st μ) : J p l e R s m args below meth c ce sl Q nL D ad cs A pc lv st μ := fun H locs ls hP hT hS hl => kk hT H locs ls hP hT hS hl
theorem cpy_z {M : CV} {k n : Nat} {f : Nat → Int32} (hn : n = 0) : M = uc M k (va_cpy f (M k) 0 0 n) := by
  funext k' j
  by_cases h : k' = k
  · subst h; rw [uc_s, pk_cpy_out (by omega)]
  · rw [uc_n h]
theorem cpy_st {M : CV} {k i : Nat} {f g : Nat → Int32} : us (uc M k (va_cpy f g 0 0 i)) k i (f i) = uc M k (va_cpy f g 0 0 (i + 1)) := by
  funext k' j
  by_cases h : k' = k
  · subst h
    rw [us_i, uc_s, uc_s]
    by_cases q : j = i
    · rw [if_pos q, pk_cpy_in (by omega) (by omega), q]; simp
    · rw [if_neg q]
      by_cases w : j < i
      · rw [pk_cpy_in (by omega) (by omega), pk_cpy_in (by omega) (by omega)]
      · rw [pk_cpy_out (by omega), pk_cpy_out (by omega)]
  · rw [us_n h, uc_n h, uc_n h]
set_option maxHeartbeats 4000000 in
set_option maxRecDepth 100000 in
theorem kX1_copy (l : Launch) (D : va_G) (ad : Nat → Nat → Nat) (cs : Nat → ClassId) (A : Nat → Prop) (z : Nat → Nat) {b0 b1 : Nat} (hb0 : b0 < 10) (hb1 : b1 < 10) (h01 : b0 ≠ b1) (μ : Mm) (V : CV) (hmi : isBo (μ b0 0 14)) : KV l D ad cs A z yX1_copy wsX1_copy (rm 2 60) [.ref (ad b0 0), .ref (ad b1 0)] (mb μ b1 V) (fun μ1 => μ1 = mb μ b1 (μ b0)) := by
  refine KV_of (cc := cX1_copy) (maxL := 3) (ret := none) (by decide) rfl (Nat.le_of_ble_eq_true rfl) ?_
  intro p e s m args below meth c hr hlk X
  show J p l e _ s m args below meth c 0 0 _ 3 D ad cs A 0 [(0, .ref (ad b0 0)), (1, .ref (ad b1 0))] [] (mb μ b1 V)
  have hinX0 : ∀ w ∈ wsX00, w ∈ wsX1_copy := by decide +kernel
  have k44 : (Cond.fieldLink RX1 44 "PunCourts$Court" "settings" "[I").before args s = true := X.1.2.2.2.2 _ (by decide +kernel)
  have k110 : (Cond.fieldLink RX1 110 "PunCourts$Court" "days" "I").before args s = true := X.1.2.2.2.2 _ (by decide +kernel)
  have k51 : (Cond.fieldLink RX1 51 "PunCourts$Court" "names" "I").before args s = true := X.1.2.2.2.2 _ (by decide +kernel)
  have k195 : (Cond.fieldLink RX1 195 "PunCourts$Court" "letters" "[C").before args s = true := X.1.2.2.2.2 _ (by decide +kernel)
  have k128 : (Cond.fieldLink RX1 128 "PunCourts$Court" "lengths" "[I").before args s = true := X.1.2.2.2.2 _ (by decide +kernel)
  have k125 : (Cond.fieldLink RX1 125 "PunCourts$Court" "sounds" "[I").before args s = true := X.1.2.2.2.2 _ (by decide +kernel)
  have k73 : (Cond.fieldLink RX1 73 "PunCourts$Court" "honours" "[I").before args s = true := X.1.2.2.2.2 _ (by decide +kernel)
  have k76 : (Cond.fieldLink RX1 76 "PunCourts$Court" "withdrawn" "[Z").before args s = true := X.1.2.2.2.2 _ (by decide +kernel)
  have k131 : (Cond.fieldLink RX1 131 "PunCourts$Court" "nameGiven" "[I").before args s = true := X.1.2.2.2.2 _ (by decide +kernel)
  have k97 : (Cond.fieldLink RX1 97 "PunCourts$Court" "borne" "[I").before args s = true := X.1.2.2.2.2 _ (by decide +kernel)
  have k94 : (Cond.fieldLink RX1 94 "PunCourts$Court" "owed" "[I").before args s = true := X.1.2.2.2.2 _ (by decide +kernel)
  have k138 : (Cond.fieldLink RX1 138 "PunCourts$Court" "posted" "[I").before args s = true := X.1.2.2.2.2 _ (by decide +kernel)
  have k141 : (Cond.fieldLink RX1 141 "PunCourts$Court" "gotDay" "[I").before args s = true := X.1.2.2.2.2 _ (by decide +kernel)
  have k144 : (Cond.fieldLink RX1 144 "PunCourts$Court" "cornerGiven" "[I").before args s = true := X.1.2.2.2.2 _ (by decide +kernel)
  have k209 : (Cond.fieldLink RX1 209 "PunCourts$Court" "mapIssued" "Z").before args s = true := X.1.2.2.2.2 _ (by decide +kernel)
  have k147 : (Cond.fieldLink RX1 147 "PunCourts$Court" "shown" "[I").before args s = true := X.1.2.2.2.2 _ (by decide +kernel)
  refine j_aload_n (q := 0) X dX1_copy_0 rfl rfl ?_
  refine j_ifnull X dX1_copy_1 ?_
  refine j_aload_n (q := 1) X dX1_copy_4 rfl rfl ?_
  refine j_ifnonnull (tgt := 9) X dX1_copy_5 (by decide) ?_
  refine j_aload_n (q := 0) X dX1_copy_9 rfl rfl ?_
  refine j_getC (v := .ref (ad b0 1)) X (oC hb0) hinX0 0 (by decide) rfl k44 dX1_copy_10 ?_
  refine j_aload_n (q := 1) X dX1_copy_13 rfl rfl ?_
  refine j_getCB X (oC hb1) hinX0 0 (by decide) rfl k44 dX1_copy_14 ?_
  refine j_callSv (As := [.ref (ad b0 1), .ref (ad b1 1)]) X (kX1_copyRow l D ad cs A z (aC_1 hb0) (aC_1 hb1) (by decide) ⟨by decide, by decide, fun q => absurd q.1 (by omega)⟩ (mb μ b1 V)) (va_cwS 2 X.1.2.2.2.2 gX1_copy_X1_copyRow rfl rfl rfl (by decide +kernel) ⟨Nat.le_of_ble_eq_true rfl, Nat.le_of_ble_eq_true rfl⟩) rfl rfl (Nat.le_of_ble_eq_true rfl) dX1_copy_17 (fun μ2 h2 => ?_)
  subst h2
  refine j_eq (μ1 := mb μ b1 (uc V 1 (va_cpy (μ b0 1) (V 1) 0 0 4))) (by rw [mc_b, mb_n h01, mb_s]) ?_
  refine j_nm (fun W17 eW17 => ?_)
  refine j_aload_n (q := 1) X dX1_copy_20 rfl rfl ?_
  refine j_aload_n (q := 0) X dX1_copy_21 rfl rfl ?_
  refine j_getC (v := .int (μ b0 0 1)) X (oC hb0) hinX0 1 (by decide) (by rw [mb_n (by omega)]; rfl) k110 dX1_copy_22 ?_
  refine j_putCB (ty := .int) X (oC hb1) hinX0 1 (by decide) (fun _ => rfl) rfl rfl rfl rfl (Nat.le_of_ble_eq_true rfl) k110 dX1_copy_25 ?_
  refine j_nm (fun W25 eW25 => ?_)
  refine j_aload_n (q := 1) X dX1_copy_28 rfl rfl ?_
  refine j_aload_n (q := 0) X dX1_copy_29 rfl rfl ?_
  refine j_getC (v := .int (μ b0 0 2)) X (oC hb0) hinX0 2 (by decide) (by rw [mb_n (by omega)]; rfl) k51 dX1_copy_30 ?_
  refine j_putCB (ty := .int) X (oC hb1) hinX0 2 (by decide) (fun _ => rfl) rfl rfl rfl rfl (Nat.le_of_ble_eq_true rfl) k51 dX1_copy_33 ?_
  refine j_nm (fun W33 eW33 => ?_)
  refine j_aload_n (q := 0) X dX1_copy_36 rfl rfl ?_
  refine j_getC (v := .ref (ad b0 4)) X (oC hb0) hinX0 3 (by decide) rfl k195 dX1_copy_37 ?_
  refine j_iconst (v := (nI 0)) X dX1_copy_40 (by decide) ?_
  refine j_aload_n (q := 1) X dX1_copy_41 rfl rfl ?_
  refine j_getCB X (oC hb1) hinX0 3 (by decide) rfl k195 dX1_copy_42 ?_
  refine j_iconst (v := (nI 0)) X dX1_copy_45 (by decide) ?_
  refine j_aload_n (q := 0) X dX1_copy_46 rfl rfl ?_
  refine j_getC (v := .ref (ad b0 4)) X (oC hb0) hinX0 3 (by decide) rfl k195 dX1_copy_47 ?_
  refine j_alen (v := nI 180) X (aC_4 hb0) rfl rfl dX1_copy_50 ?_
  refine j_aload_n (q := 1) X dX1_copy_51 rfl rfl ?_
  refine j_getCB X (oC hb1) hinX0 3 (by decide) rfl k195 dX1_copy_52 ?_
  refine j_alen (v := nI 180) X (aC_4 hb1) rfl rfl dX1_copy_55 ?_
  refine j_mmin (v := (nI 180)) X (X.1.2.2.2.2 _ (by decide +kernel)) (X.1.2.2.2.2 _ (by decide +kernel)) (X.1.2.2.2.2 _ (by decide +kernel)) (X.1.2.2.2.2 _ (by decide +kernel)) (Nat.le_of_ble_eq_true rfl) (Nat.le_of_ble_eq_true rfl) (ite_self _) dX1_copy_56 ?_
  refine j_copy X (aC_4 hb0) (aC_4 hb1) rfl rfl 0 0 180 rfl rfl rfl (by omega) (by omega) (by omega) (by omega) (fun hT i hi => by obtain ⟨q, hq, e⟩ := hT.1 b0 (0 + i) hb0 (by omega); rw [e]; exact (pk_charN hq).2) (fun hT => hT.keep (fun _ _ j hj => by rw [pk_cpy_in (by omega) (by omega)]; exact hT.1 b0 _ hb0 (by omega)) (fun _ q => absurd q (by decide)) (fun q => absurd q (by omega))) (X.1.2.2.2.2 _ (by decide +kernel)) (X.1.2.2.2.2 _ (by decide +kernel)) (X.1.2.2.2.2 _ (by decide +kernel)) (X.1.2.2.2.2 _ (by decide +kernel)) (Nat.le_of_ble_eq_true rfl) (Nat.le_of_ble_eq_true rfl) dX1_copy_59 ?_
  refine j_eq (μ1 := mb μ b1 (uc W33 4 (va_cpy (μ b0 4) (W33 4) 0 0 180))) (by rw [mc_b, mb_n h01, mb_s]) ?_
  refine j_nm (fun W59 eW59 => ?_)
  refine j_aload_n (q := 0) X dX1_copy_62 rfl rfl ?_
  refine j_getC (v := .ref (ad b0 5)) X (oC hb0) hinX0 4 (by decide) rfl k128 dX1_copy_63 ?_
  refine j_aload_n (q := 1) X dX1_copy_66 rfl rfl ?_
  refine j_getCB X (oC hb1) hinX0 4 (by decide) rfl k128 dX1_copy_67 ?_
  refine j_callSv (As := [.ref (ad b0 5), .ref (ad b1 5)]) X (kX1_copyRow l D ad cs A z (aC_5 hb0) (aC_5 hb1) (by decide) ⟨by decide, by decide, fun q => absurd q.1 (by omega)⟩ (mb μ b1 W59)) (va_cwS 2 X.1.2.2.2.2 gX1_copy_X1_copyRow rfl rfl rfl (by decide +kernel) ⟨Nat.le_of_ble_eq_true rfl, Nat.le_of_ble_eq_true rfl⟩) rfl rfl (Nat.le_of_ble_eq_true rfl) dX1_copy_70 (fun μ2 h2 => ?_)
  subst h2
  refine j_eq (μ1 := mb μ b1 (uc W59 5 (va_cpy (μ b0 5) (W59 5) 0 0 20))) (by rw [mc_b, mb_n h01, mb_s]) ?_
  refine j_nm (fun W70 eW70 => ?_)
  refine j_aload_n (q := 0) X dX1_copy_73 rfl rfl ?_
  refine j_getC (v := .ref (ad b0 6)) X (oC hb0) hinX0 5 (by decide) rfl k125 dX1_copy_74 ?_
  refine j_aload_n (q := 1) X dX1_copy_77 rfl rfl ?_
  refine j_getCB X (oC hb1) hinX0 5 (by decide) rfl k125 dX1_copy_78 ?_
  refine j_callSv (As := [.ref (ad b0 6), .ref (ad b1 6)]) X (kX1_copyRow l D ad cs A z (aC_6 hb0) (aC_6 hb1) (by decide) ⟨by decide, by decide, fun q => absurd q.1 (by omega)⟩ (mb μ b1 W70)) (va_cwS 2 X.1.2.2.2.2 gX1_copy_X1_copyRow rfl rfl rfl (by decide +kernel) ⟨Nat.le_of_ble_eq_true rfl, Nat.le_of_ble_eq_true rfl⟩) rfl rfl (Nat.le_of_ble_eq_true rfl) dX1_copy_81 (fun μ2 h2 => ?_)
  subst h2
  refine j_eq (μ1 := mb μ b1 (uc W70 6 (va_cpy (μ b0 6) (W70 6) 0 0 20))) (by rw [mc_b, mb_n h01, mb_s]) ?_
  refine j_nm (fun W81 eW81 => ?_)
  refine j_aload_n (q := 0) X dX1_copy_84 rfl rfl ?_
  refine j_getC (v := .ref (ad b0 7)) X (oC hb0) hinX0 6 (by decide) rfl k73 dX1_copy_85 ?_
  refine j_aload_n (q := 1) X dX1_copy_88 rfl rfl ?_
  refine j_getCB X (oC hb1) hinX0 6 (by decide) rfl k73 dX1_copy_89 ?_
  refine j_callSv (As := [.ref (ad b0 7), .ref (ad b1 7)]) X (kX1_copyRow l D ad cs A z (aC_7 hb0) (aC_7 hb1) (by decide) ⟨by decide, by decide, fun q => absurd q.1 (by omega)⟩ (mb μ b1 W81)) (va_cwS 2 X.1.2.2.2.2 gX1_copy_X1_copyRow rfl rfl rfl (by decide +kernel) ⟨Nat.le_of_ble_eq_true rfl, Nat.le_of_ble_eq_true rfl⟩) rfl rfl (Nat.le_of_ble_eq_true rfl) dX1_copy_92 (fun μ2 h2 => ?_)
  subst h2
  refine j_eq (μ1 := mb μ b1 (uc W81 7 (va_cpy (μ b0 7) (W81 7) 0 0 20))) (by rw [mc_b, mb_n h01, mb_s]) ?_
  refine j_nm (fun W92 eW92 => ?_)
  refine j_ty (fun hTY => ?_)
  have hbo : ∀ j, j < 20 → isBo (μ b0 8 j) := fun j hj => by have q := hTY.2.1 b0 j hb0 hj; rw [mb_n h01] at q; exact q
  refine j_iconst (v := (nI 0)) X dX1_copy_95 (by decide) ?_
  refine j_istore_n (lv' := [(2, .int (nI 0)), (0, .ref (ad b0 0)), (1, .ref (ad b1 0))]) X dX1_copy_96 rfl (by decide) rfl ?_
  refine jl2 (G := J p l e _ s m args below meth c 0 0 _ _ D ad cs A) (pc := 97) (fun (i : Nat) (M1 : CV) => [(2, .int (nI i)), (0, .ref (ad b0 0)), (1, .ref (ad b1 0))]) (fun (i : Nat) (M1 : CV) => (mb μ b1 M1)) (fun (i : Nat) (M1 : CV) => i ≤ 20 ∧ M1 = uc W92 8 (va_cpy (μ b0 8) (W92 8) 0 0 i)) (fun (i : Nat) (M1 : CV) => 20 - i) ?_ 0 W92 ⟨by omega, cpy_z rfl⟩
  intro i M1 hI97 ih97
  try dsimp only at ih97 ⊢
  obtain ⟨hi, hM⟩ := hI97
  refine j_iload_n (q := 0) X dX1_copy_97 rfl rfl ?_
  refine j_aload_n (q := 1) X dX1_copy_98 rfl rfl ?_
  refine j_getC (v := .ref (ad b0 8)) X (oC hb0) hinX0 7 (by decide) rfl k76 dX1_copy_99 ?_
  refine j_alen (v := nI 20) X (aC_8 hb0) rfl rfl dX1_copy_102 ?_
  refine j_ncmp_ge (tgt := 133) X i 20 dX1_copy_103 (by decide) rfl rfl (by omega) (by omega) (fun c103 => ?_) (fun c103 => ?_)
  · skip
    have eM1 : M1 = uc W92 8 (va_cpy (μ b0 8) (W92 8) 0 0 20) := by rw [hM, show i = 20 by omega]
    refine j_aload_n (q := 1) X dX1_copy_133 rfl rfl ?_
    refine j_getC (v := .ref (ad b0 9)) X (oC hb0) hinX0 8 (by decide) rfl k131 dX1_copy_134 ?_
    refine j_aload_n (q := 2) X dX1_copy_137 rfl rfl ?_
    refine j_getCB X (oC hb1) hinX0 8 (by decide) rfl k131 dX1_copy_138 ?_
    refine j_callSv (As := [.ref (ad b0 9), .ref (ad b1 9)]) X (kX1_copyRow l D ad cs A z (aC_9 hb0) (aC_9 hb1) (by decide) ⟨by decide, by decide, fun q => absurd q.1 (by omega)⟩ (mb μ b1 M1)) (va_cwS 2 X.1.2.2.2.2 gX1_copy_X1_copyRow rfl rfl rfl (by decide +kernel) ⟨Nat.le_of_ble_eq_true rfl, Nat.le_of_ble_eq_true rfl⟩) rfl rfl (Nat.le_of_ble_eq_true rfl) dX1_copy_141 (fun μ2 h2 => ?_)
    subst h2
    refine j_eq (μ1 := mb μ b1 (uc M1 9 (va_cpy (μ b0 9) (M1 9) 0 0 20))) (by rw [mc_b, mb_n h01, mb_s]) ?_
    refine j_nm (fun W141 eW141 => ?_)
    refine j_aload_n (q := 1) X dX1_copy_144 rfl rfl ?_
    refine j_getC (v := .ref (ad b0 10)) X (oC hb0) hinX0 9 (by decide) rfl k97 dX1_copy_145 ?_
    refine j_aload_n (q := 2) X dX1_copy_148 rfl rfl ?_
    refine j_getCB X (oC hb1) hinX0 9 (by decide) rfl k97 dX1_copy_149 ?_
    refine j_callSv (As := [.ref (ad b0 10), .ref (ad b1 10)]) X (kX1_copyRow l D ad cs A z (aC_10 hb0) (aC_10 hb1) (by decide) ⟨by decide, by decide, fun q => absurd q.1 (by omega)⟩ (mb μ b1 W141)) (va_cwS 2 X.1.2.2.2.2 gX1_copy_X1_copyRow rfl rfl rfl (by decide +kernel) ⟨Nat.le_of_ble_eq_true rfl, Nat.le_of_ble_eq_true rfl⟩) rfl rfl (Nat.le_of_ble_eq_true rfl) dX1_copy_152 (fun μ2 h2 => ?_)
    subst h2
    refine j_eq (μ1 := mb μ b1 (uc W141 10 (va_cpy (μ b0 10) (W141 10) 0 0 12))) (by rw [mc_b, mb_n h01, mb_s]) ?_
    refine j_nm (fun W152 eW152 => ?_)
    refine j_aload_n (q := 1) X dX1_copy_155 rfl rfl ?_
    refine j_getC (v := .ref (ad b0 11)) X (oC hb0) hinX0 10 (by decide) rfl k94 dX1_copy_156 ?_
    refine j_aload_n (q := 2) X dX1_copy_159 rfl rfl ?_
    refine j_getCB X (oC hb1) hinX0 10 (by decide) rfl k94 dX1_copy_160 ?_
    refine j_callSv (As := [.ref (ad b0 11), .ref (ad b1 11)]) X (kX1_copyRow l D ad cs A z (aC_11 hb0) (aC_11 hb1) (by decide) ⟨by decide, by decide, fun q => absurd q.1 (by omega)⟩ (mb μ b1 W152)) (va_cwS 2 X.1.2.2.2.2 gX1_copy_X1_copyRow rfl rfl rfl (by decide +kernel) ⟨Nat.le_of_ble_eq_true rfl, Nat.le_of_ble_eq_true rfl⟩) rfl rfl (Nat.le_of_ble_eq_true rfl) dX1_copy_163 (fun μ2 h2 => ?_)
    subst h2
    refine j_eq (μ1 := mb μ b1 (uc W152 11 (va_cpy (μ b0 11) (W152 11) 0 0 12))) (by rw [mc_b, mb_n h01, mb_s]) ?_
    refine j_nm (fun W163 eW163 => ?_)
    refine j_aload_n (q := 1) X dX1_copy_166 rfl rfl ?_
    refine j_getC (v := .ref (ad b0 12)) X (oC hb0) hinX0 11 (by decide) rfl k138 dX1_copy_167 ?_
    refine j_aload_n (q := 2) X dX1_copy_170 rfl rfl ?_
    refine j_getCB X (oC hb1) hinX0 11 (by decide) rfl k138 dX1_copy_171 ?_
    refine j_callSv (As := [.ref (ad b0 12), .ref (ad b1 12)]) X (kX1_copyRow l D ad cs A z (aC_12 hb0) (aC_12 hb1) (by decide) ⟨by decide, by decide, fun q => absurd q.1 (by omega)⟩ (mb μ b1 W163)) (va_cwS 2 X.1.2.2.2.2 gX1_copy_X1_copyRow rfl rfl rfl (by decide +kernel) ⟨Nat.le_of_ble_eq_true rfl, Nat.le_of_ble_eq_true rfl⟩) rfl rfl (Nat.le_of_ble_eq_true rfl) dX1_copy_174 (fun μ2 h2 => ?_)
    subst h2
    refine j_eq (μ1 := mb μ b1 (uc W163 12 (va_cpy (μ b0 12) (W163 12) 0 0 12))) (by rw [mc_b, mb_n h01, mb_s]) ?_
    refine j_nm (fun W174 eW174 => ?_)
    refine j_aload_n (q := 1) X dX1_copy_177 rfl rfl ?_
    refine j_getC (v := .ref (ad b0 13)) X (oC hb0) hinX0 12 (by decide) rfl k141 dX1_copy_178 ?_
    refine j_aload_n (q := 2) X dX1_copy_181 rfl rfl ?_
    refine j_getCB X (oC hb1) hinX0 12 (by decide) rfl k141 dX1_copy_182 ?_
    refine j_callSv (As := [.ref (ad b0 13), .ref (ad b1 13)]) X (kX1_copyRow l D ad cs A z (aC_13 hb0) (aC_13 hb1) (by decide) ⟨by decide, by decide, fun q => absurd q.1 (by omega)⟩ (mb μ b1 W174)) (va_cwS 2 X.1.2.2.2.2 gX1_copy_X1_copyRow rfl rfl rfl (by decide +kernel) ⟨Nat.le_of_ble_eq_true rfl, Nat.le_of_ble_eq_true rfl⟩) rfl rfl (Nat.le_of_ble_eq_true rfl) dX1_copy_185 (fun μ2 h2 => ?_)
    subst h2
    refine j_eq (μ1 := mb μ b1 (uc W174 13 (va_cpy (μ b0 13) (W174 13) 0 0 12))) (by rw [mc_b, mb_n h01, mb_s]) ?_
    refine j_nm (fun W185 eW185 => ?_)
    refine j_aload_n (q := 1) X dX1_copy_188 rfl rfl ?_
    refine j_getC (v := .ref (ad b0 14)) X (oC hb0) hinX0 13 (by decide) rfl k144 dX1_copy_189 ?_
    refine j_aload_n (q := 2) X dX1_copy_192 rfl rfl ?_
    refine j_getCB X (oC hb1) hinX0 13 (by decide) rfl k144 dX1_copy_193 ?_
    refine j_callSv (As := [.ref (ad b0 14), .ref (ad b1 14)]) X (kX1_copyRow l D ad cs A z (aC_14 hb0) (aC_14 hb1) (by decide) ⟨by decide, by decide, fun q => absurd q.1 (by omega)⟩ (mb μ b1 W185)) (va_cwS 2 X.1.2.2.2.2 gX1_copy_X1_copyRow rfl rfl rfl (by decide +kernel) ⟨Nat.le_of_ble_eq_true rfl, Nat.le_of_ble_eq_true rfl⟩) rfl rfl (Nat.le_of_ble_eq_true rfl) dX1_copy_196 (fun μ2 h2 => ?_)
    subst h2
    refine j_eq (μ1 := mb μ b1 (uc W185 14 (va_cpy (μ b0 14) (W185 14) 0 0 12))) (by rw [mc_b, mb_n h01, mb_s]) ?_
    refine j_nm (fun W196 eW196 => ?_)
    refine j_aload_n (q := 2) X dX1_copy_199 rfl rfl ?_
    refine j_aload_n (q := 1) X dX1_copy_200 rfl rfl ?_
    refine j_getC (v := .int (μ b0 0 14)) X (oC hb0) hinX0 14 (by decide) (by rw [mb_n (by omega)]; rfl) k209 dX1_copy_201 ?_
    refine j_putCB (ty := .boolean) X (oC hb1) hinX0 14 (by decide) (fun _ => rfl) rfl rfl (by rcases hmi with q | q <;> rw [q] <;> rfl) (by rcases hmi with q | q <;> rw [q] <;> rfl) (Nat.le_of_ble_eq_true rfl) k209 dX1_copy_204 ?_
    refine j_nm (fun W204 eW204 => ?_)
    refine j_aload_n (q := 1) X dX1_copy_207 rfl rfl ?_
    refine j_getC (v := .ref (ad b0 16)) X (oC hb0) hinX0 15 (by decide) rfl k147 dX1_copy_208 ?_
    refine j_aload_n (q := 2) X dX1_copy_211 rfl rfl ?_
    refine j_getCB X (oC hb1) hinX0 15 (by decide) rfl k147 dX1_copy_212 ?_
    refine j_callSv (As := [.ref (ad b0 16), .ref (ad b1 16)]) X (kX1_copyRow l D ad cs A z (aC_16 hb0) (aC_16 hb1) (by decide) ⟨by decide, by decide, fun q => absurd q.1 (by omega)⟩ (mb μ b1 W204)) (va_cwS 2 X.1.2.2.2.2 gX1_copy_X1_copyRow rfl rfl rfl (by decide +kernel) ⟨Nat.le_of_ble_eq_true rfl, Nat.le_of_ble_eq_true rfl⟩) rfl rfl (Nat.le_of_ble_eq_true rfl) dX1_copy_215 (fun μ2 h2 => ?_)
    subst h2
    refine j_eq (μ1 := mb μ b1 (uc W204 16 (va_cpy (μ b0 16) (W204 16) 0 0 12))) (by rw [mc_b, mb_n h01, mb_s]) ?_
    refine j_nm (fun W215 eW215 => ?_)
    refine j_cg hb1 (V1 := μ b0) (fun k hk j hj hz => ?_) ?_
    · exact cp_fin hk hj hz eW17 eW25 eW33 eW59 eW70 eW81 eW92 eM1 eW141 eW152 eW163 eW174 eW185 eW196 eW204 eW215
    exact j_vret X hr hlk rfl dX1_copy_218
  · skip
    refine j_iload_n (q := 0) X dX1_copy_106 rfl rfl ?_
    refine j_aload_n (q := 2) X dX1_copy_107 rfl rfl ?_
    refine j_getCB X (oC hb1) hinX0 7 (by decide) rfl k76 dX1_copy_108 ?_
    refine j_alen (v := nI 20) X (aC_8 hb1) rfl rfl dX1_copy_111 ?_
    refine j_ncmp_ge (tgt := 133) X i 20 dX1_copy_112 (by decide) rfl rfl (by omega) (by omega) (fun c112 => absurd c112 (by omega)) (fun c112 => ?_)
    refine j_aload_n (q := 2) X dX1_copy_115 rfl rfl ?_
    refine j_getCB X (oC hb1) hinX0 7 (by decide) rfl k76 dX1_copy_116 ?_
    refine j_iload_n (q := 0) X dX1_copy_119 rfl rfl ?_
    refine j_aload_n (q := 1) X dX1_copy_120 rfl rfl ?_
    refine j_getC (v := .ref (ad b0 8)) X (oC hb0) hinX0 7 (by decide) rfl k76 dX1_copy_121 ?_
    refine j_iload_n (q := 0) X dX1_copy_124 rfl rfl ?_
    refine j_zald (v := μ b0 8 i) X (aC_8 hb0) i rfl (by omega) (by decide) (by rw [mb_n (by omega)]) dX1_copy_125 ?_
    refine j_zastB X (aC_8 hb1) i rfl (by omega) (by decide) (hbo i (by omega)) (by omega) dX1_copy_126 ?_
    refine j_nm (fun W126 eW126 => ?_)
    refine j_iinc (q := 0) (v := (nI (i + 1))) (lv' := [(2, .int (nI (i + 1))), (0, .ref (ad b0 0)), (1, .ref (ad b1 0))]) X dX1_copy_127 rfl (nI_1 _) (by decide) rfl ?_
    refine j_goto (tgt := 97) X dX1_copy_130 (by decide) ?_
    exact ih97 (i + 1) W126 ⟨by omega, by rw [eW126, hM, cpy_st]⟩ (by omega)
set_option maxHeartbeats 4000000 in
set_option maxRecDepth 100000 in
theorem kX0_apply (l : Launch) (D : va_G) (ad : Nat → Nat → Nat) (cs : Nat → ClassId) (A : Nat → Prop) (z : Nat → Nat) {b : Nat} (hb : b < 10) (μ : Mm) (V : CV) (N : Nat) (hN : V 0 2 = nI N) (hN20 : N < 20) (s0 n : Nat) (hn : n ≤ 9) (hs : s0 + n ≤ 60) (h : Int32) : KV l D ad cs A z yX0_apply wsX0_apply (rm 2 48) [.ref (ad b 0), .ref (ad 10 7), .int (nI s0), .int (nI n), .int h] (mb μ b V) (fun μ1 => μ1 = mb μ b (apS V (μ 10 7) N s0 n h)) := by
  refine KV_of (cc := cX0_apply) (maxL := 6) (ret := none) (by decide) rfl (Nat.le_of_ble_eq_true rfl) ?_
  intro p e s m args below meth c hr hlk X
  show J p l e _ s m args below meth c 0 0 _ 6 D ad cs A 0 [(0, .ref (ad b 0)), (1, .ref (ad 10 7)), (2, .int (nI s0)), (3, .int (nI n)), (4, .int h)] [] (mb μ b V)
  have hinX0 : ∀ w ∈ wsX00, w ∈ wsX0_apply := by decide +kernel
  have k53 : (Cond.fieldLink RX0 53 "PunCourts$Court" "names" "I").before args s = true := X.1.2.2.2.2 _ (by decide +kernel)
  have k15 : (Cond.fieldLink RX0 15 "PunCourts$Court" "letters" "[C").before args s = true := X.1.2.2.2.2 _ (by decide +kernel)
  have k19 : (Cond.fieldLink RX0 19 "PunCourts$Court" "lengths" "[I").before args s = true := X.1.2.2.2.2 _ (by decide +kernel)
  have k25 : (Cond.fieldLink RX0 25 "PunCourts$Court" "honours" "[I").before args s = true := X.1.2.2.2.2 _ (by decide +kernel)
  have k28 : (Cond.fieldLink RX0 28 "PunCourts$Court" "withdrawn" "[Z").before args s = true := X.1.2.2.2.2 _ (by decide +kernel)
  have k32 : (Cond.fieldLink RX0 32 "PunCourts$Court" "nameGiven" "[I").before args s = true := X.1.2.2.2.2 _ (by decide +kernel)
  have k22 : (Cond.fieldLink RX0 22 "PunCourts$Court" "sounds" "[I").before args s = true := X.1.2.2.2.2 _ (by decide +kernel)
  refine j_aload_n (q := 0) X dX0_apply_0 rfl rfl ?_
  refine j_getCB X (oC hb) hinX0 2 (by decide) rfl k53 dX0_apply_1 ?_
  rw [hN]
  refine j_if_lt (tgt := 26) X dX0_apply_4 (by decide) (fun c4 => absurd c4 (nI_pos (by omega))) (fun c4 => ?_)
  refine j_aload_n (q := 0) X dX0_apply_7 rfl rfl ?_
  refine j_getCB X (oC hb) hinX0 2 (by decide) rfl k53 dX0_apply_8 ?_
  rw [hN]
  refine j_bipush (v := (nI 20)) X dX0_apply_11 (by decide) ?_
  refine j_ncmp_ge (tgt := 26) X N 20 dX0_apply_13 (by decide) rfl rfl (by omega) (by omega) (fun c13 => absurd c13 (by omega)) (fun c13 => ?_)
  refine j_iload_n (q := 3) X dX0_apply_16 rfl rfl ?_
  refine j_if_lt (tgt := 26) X dX0_apply_17 (by decide) (fun c17 => absurd c17 (nI_pos (by omega))) (fun c17 => ?_)
  refine j_iload_n (q := 3) X dX0_apply_20 rfl rfl ?_
  refine j_bipush (v := (nI 9)) X dX0_apply_21 (by decide) ?_
  refine j_ncmp_le (tgt := 27) X n 9 dX0_apply_23 (by decide) rfl rfl (by omega) (by omega) (fun c23 => ?_) (fun c23 => absurd hn c23)
  refine j_iload_n (q := 2) X dX0_apply_27 rfl rfl ?_
  refine j_if_lt (tgt := 39) X dX0_apply_28 (by decide) (fun c28 => absurd c28 (nI_pos (by omega))) (fun c28 => ?_)
  refine j_iload_n (q := 2) X dX0_apply_31 rfl rfl ?_
  refine j_iload_n (q := 3) X dX0_apply_32 rfl rfl ?_
  refine j_iadd (v := (nI (s0 + n))) X dX0_apply_33 (nI_add _ _) ?_
  refine j_aload_n (q := 1) X dX0_apply_34 rfl rfl ?_
  refine j_alen (v := nI 60) X aM_7 rfl rfl dX0_apply_35 ?_
  refine j_ncmp_le (tgt := 40) X (s0 + n) 60 dX0_apply_36 (by decide) rfl rfl (by omega) (by omega) (fun c36 => ?_) (fun c36 => absurd hs c36)
  refine j_aload_n (q := 0) X dX0_apply_40 rfl rfl ?_
  refine j_getCB X (oC hb) hinX0 2 (by decide) rfl k53 dX0_apply_41 ?_
  rw [hN]
  refine j_istore (lv' := [(5, .int (nI N)), (0, .ref (ad b 0)), (1, .ref (ad 10 7)), (2, .int (nI s0)), (3, .int (nI n)), (4, .int h)]) X dX0_apply_44 (by decide) rfl ?_
  refine j_aload_n (q := 2) X dX0_apply_46 rfl rfl ?_
  refine j_iload_n (q := 3) X dX0_apply_47 rfl rfl ?_
  refine j_aload_n (q := 1) X dX0_apply_48 rfl rfl ?_
  refine j_getCB X (oC hb) hinX0 3 (by decide) rfl k15 dX0_apply_49 ?_
  refine j_iload (q := 0) X dX0_apply_52 rfl ?_
  refine j_bipush (v := (nI 9)) X dX0_apply_54 (by decide) ?_
  refine j_imul (v := (nI (N * 9))) X dX0_apply_56 (pk_mul _ _) ?_
  refine j_iload_n (q := 4) X dX0_apply_57 rfl rfl ?_
  refine j_copy X aM_7 (aC_4 hb) rfl rfl s0 (N * 9) n rfl rfl rfl (by omega) (by omega) (by omega) (by omega) (fun hT i hi => by obtain ⟨q, hq, e⟩ := hT.2.2 (s0 + i) (by omega); rw [e]; exact (pk_charN hq).2) (fun hT => hT.keep (fun _ _ j hj => by by_cases w : N * 9 ≤ j ∧ j < N * 9 + n; (rw [pk_cpy_in w.1 w.2]; exact hT.2.2 _ (by omega)); (rw [pk_cpy_out (by omega)]; exact hT.1 b j hb hj)) (fun _ q => absurd q (by decide)) (fun q => absurd q (by omega))) (X.1.2.2.2.2 _ (by decide +kernel)) (X.1.2.2.2.2 _ (by decide +kernel)) (X.1.2.2.2.2 _ (by decide +kernel)) (X.1.2.2.2.2 _ (by decide +kernel)) (Nat.le_of_ble_eq_true rfl) (Nat.le_of_ble_eq_true rfl) dX0_apply_58 ?_
  refine j_eq (μ1 := mb μ b (uc V 4 (va_cpy (μ 10 7) (V 4) s0 (N * 9) n))) (by rw [mc_b, mb_n (by omega), mb_s]) ?_
  refine j_nm (fun W58 eW58 => ?_)
  refine j_aload_n (q := 1) X dX0_apply_61 rfl rfl ?_
  refine j_getCB X (oC hb) hinX0 4 (by decide) rfl k19 dX0_apply_62 ?_
  refine j_iload (q := 0) X dX0_apply_65 rfl ?_
  refine j_iload_n (q := 4) X dX0_apply_67 rfl rfl ?_
  refine j_iastB X (aC_5 hb) N rfl (by omega) (by decide) (by omega) dX0_apply_68 ?_
  refine j_nm (fun W68 eW68 => ?_)
  refine j_aload_n (q := 1) X dX0_apply_69 rfl rfl ?_
  refine j_getCB X (oC hb) hinX0 6 (by decide) rfl k25 dX0_apply_70 ?_
  refine j_iload (q := 0) X dX0_apply_73 rfl ?_
  refine j_iload (q := 5) X dX0_apply_75 rfl ?_
  refine j_iastB X (aC_7 hb) N rfl (by omega) (by decide) (by omega) dX0_apply_77 ?_
  refine j_nm (fun W77 eW77 => ?_)
  refine j_aload_n (q := 1) X dX0_apply_78 rfl rfl ?_
  refine j_getCB X (oC hb) hinX0 7 (by decide) rfl k28 dX0_apply_79 ?_
  refine j_iload (q := 0) X dX0_apply_82 rfl ?_
  refine j_iconst (v := (nI 0)) X dX0_apply_84 (by decide) ?_
  refine j_zastB X (aC_8 hb) N rfl (by omega) (by decide) (Or.inl rfl) (by omega) dX0_apply_85 ?_
  refine j_nm (fun W85 eW85 => ?_)
  refine j_aload_n (q := 1) X dX0_apply_86 rfl rfl ?_
  refine j_getCB X (oC hb) hinX0 8 (by decide) rfl k32 dX0_apply_87 ?_
  refine j_iload (q := 0) X dX0_apply_90 rfl ?_
  refine j_iconst (v := (nI 0)) X dX0_apply_92 (by decide) ?_
  refine j_iastB X (aC_9 hb) N rfl (by omega) (by decide) (by omega) dX0_apply_93 ?_
  refine j_nm (fun W93 eW93 => ?_)
  have hL2 : W93 5 N = nI n := by rw [eW93, us_n (by decide), eW85, us_n (by decide), eW77, us_n (by decide), eW68, us_s]
  refine j_aload_n (q := 1) X dX0_apply_94 rfl rfl ?_
  refine j_getCB X (oC hb) hinX0 5 (by decide) rfl k22 dX0_apply_95 ?_
  refine j_iload (q := 0) X dX0_apply_98 rfl ?_
  refine j_aload_n (q := 1) X dX0_apply_100 rfl rfl ?_
  refine j_iload (q := 0) X dX0_apply_101 rfl ?_
  refine j_callVi (As := [.int (nI N)]) X (kX0_soundOf l D ad cs A z hb μ W93 N hN20 n hL2 hn) (oC hb) rfl (cwV 1 X.1.2.2.2.2 gX0_apply_X0_soundOf rfl rfl rfl (by decide +kernel) ⟨Nat.le_of_ble_eq_true rfl, Nat.le_of_ble_eq_true rfl⟩) rfl rfl (Nat.le_of_ble_eq_true rfl) dX0_apply_103 (fun r103 μ103 h103 => ?_)
  obtain ⟨h103, rfl⟩ := h103
  rw [h103]
  refine j_iastB X (aC_6 hb) N rfl (by omega) (by decide) (by omega) dX0_apply_106 ?_
  refine j_nm (fun W106 eW106 => ?_)
  have hN2 : W106 0 2 = nI N := by rw [eW106, us_n (by decide), eW93, us_n (by decide), eW85, us_n (by decide), eW77, us_n (by decide), eW68, us_n (by decide), eW58, uc_n (by decide)]; exact hN
  refine j_aload_n (q := 1) X dX0_apply_107 rfl rfl ?_
  refine j_dup X dX0_apply_108 rfl ?_
  refine j_getCB X (oC hb) hinX0 2 (by decide) rfl k53 dX0_apply_109 ?_
  rw [hN2]
  refine j_iconst (v := (nI 1)) X dX0_apply_112 (by decide) ?_
  refine j_iadd (v := (nI (N + 1))) X dX0_apply_113 (nI_add _ _) ?_
  refine j_putCB (ty := .int) X (oC hb) hinX0 2 (by decide) (fun _ => rfl) rfl rfl rfl rfl (Nat.le_of_ble_eq_true rfl) k53 dX0_apply_114 ?_
  refine j_nm (fun W114 eW114 => ?_)
  exact j_vret X hr hlk (congrArg (mb μ b) (by rw [apS]; subst_vars; rfl)) dX0_apply_117
