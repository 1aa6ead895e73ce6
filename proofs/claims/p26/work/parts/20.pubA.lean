theorem aX1_isCorner (l : Launch) (D : va_G) (ad : Nat → Nat → Nat) (cs : Nat → ClassId) (A : Nat → Prop) (z : Nat → Nat) (M : Mm) (x : Int32) : KI l D ad cs A z yX1_isCorner wsX1_isCorner (rm 0 0) [.int x] M (fun r μ1 => bP r (0 ≤ x ∧ x < nI 12) ∧ μ1 = M) := by
  have h := kX1_isCorner l D ad cs A z M (M 10) x
  rw [mb_self] at h
  exact h
theorem aX1_isSlot (l : Launch) (D : va_G) (ad : Nat → Nat → Nat) (cs : Nat → ClassId) (A : Nat → Prop) (z : Nat → Nat) (M : Mm) (x : Int32) : KI l D ad cs A z yX1_isSlot wsX1_isSlot (rm 0 0) [.int x] M (fun r μ1 => bP r (0 ≤ x ∧ x < nI 2) ∧ μ1 = M) := by
  have h := kX1_isSlot l D ad cs A z M (M 10) x
  rw [mb_self] at h
  exact h
theorem aX1_isDigit (l : Launch) (D : va_G) (ad : Nat → Nat → Nat) (cs : Nat → ClassId) (A : Nat → Prop) (z : Nat → Nat) (M : Mm) (x : Int32) : KI l D ad cs A z yX1_isDigit wsX1_isDigit (rm 0 0) [.int x] M (fun r μ1 => bP r (isD x) ∧ μ1 = M) := by
  have h := kX1_isDigit l D ad cs A z M (M 10) x
  rw [mb_self] at h
  exact h
set_option maxHeartbeats 4000000 in
set_option maxRecDepth 100000 in
theorem kX1_set (l : Launch) (D : va_G) (ad : Nat → Nat → Nat) (cs : Nat → ClassId) (A : Nat → Prop) (z : Nat → Nat) (μ : Mm) (V : CV) (h : Nat) (hc : Nat → CV) (s0 s1 : CV) (u : Nat → Int32) (pl : Nat) (pd : Nat → Int32) (hG : GS (mb μ 0 V) V h hc s0 s1 u pl pd) (N : Nat) (hci : CI V N) (sx v : Int32) : KI l D ad cs A z yX1_set wsX1_set (rm 4 104) [.ref (ad 10 0), .int sx, .int v] (mb μ 0 V) (fun r μ1 => r = Rset V sx v ∧ (okS sx v → GS μ1 (Nset V sx v) (rech h) (recH hc h V) s0 s1 u pl pd ∧ μ1 11 = μ 11) ∧ (¬ okS sx v → μ1 = mb μ 0 V)) := by
  refine KI_of (cc := cX1_set) (maxL := 4) (ret := (some .int)) (by decide) rfl (Nat.le_of_ble_eq_true rfl) ?_
  intro p e s m args below meth c hr hlk X
  show J p l e _ s m args below meth c 0 0 _ 4 D ad cs A 0 [(0, .ref (ad 10 0)), (1, .int sx), (2, .int v)] [] (mb μ 0 V)
  have hinX0 : ∀ w ∈ wsX00, w ∈ wsX1_set := by decide +kernel
  have hinX1 : ∀ w ∈ wsX10, w ∈ wsX1_set := by decide +kernel
  have k10 : (Cond.fieldLink RX1 10 "PunCourts" "now" "LPunCourts$Court;").before args s = true := X.1.2.2.2.2 _ (by decide +kernel)
  have k44 : (Cond.fieldLink RX1 44 "PunCourts$Court" "settings" "[I").before args s = true := X.1.2.2.2.2 _ (by decide +kernel)
  have hN := hci.1.1
  have hN20 := hci.1.2.1
  have hbo := hci.1.2.2
  refine j_iload_n (q := 1) X dX1_set_0 rfl rfl ?_
  refine j_if_lt (tgt := 9) X dX1_set_1 (by decide) (fun c1 => ?_) (fun c1 => ?_)
  · skip
    have hE : ¬ okS sx v := fun q => absurd c1 (Int32.not_lt.mpr q.1)
    refine j_bipush (v := (-2)) X dX1_set_9 (by decide) ?_
    exact j_iret X hr hlk ⟨by rw [Rset, if_neg hE], fun q => absurd q hE, fun _ => rfl⟩ dX1_set_11
  · skip
    refine j_iload_n (q := 1) X dX1_set_4 rfl rfl ?_
    refine j_iconst (v := (nI 4)) X dX1_set_5 (by decide) ?_
    refine j_icmp_lt (tgt := 12) X dX1_set_6 (by decide) (fun c6 => ?_) (fun c6 => ?_)
    · skip
      have hsx : 0 ≤ sx ∧ sx < nI 4 := ⟨Int32.not_lt.mp c1, c6⟩
      have hsx0 := hsx
      obtain ⟨k, hk, rfl⟩ := in_n hsx.1 hsx.2 (by decide)
      refine j_iload_n (q := 2) X dX1_set_12 rfl rfl ?_
      refine j_los X (X.1.2.2.2.2 _ (by decide +kernel)) dX1_set_13 ?_
      refine j_iload_n (q := 1) X dX1_set_16 rfl rfl ?_
      refine j_loa X k rfl (by omega) dX1_set_17 ?_
      refine j_icmp_lt (tgt := 30) X dX1_set_18 (by decide) (fun c18 => ?_) (fun c18 => ?_)
      · skip
        have hE : ¬ okS (nI k) v := fun q => absurd c18 (Int32.not_lt.mpr (by have q2 := q.2.2.1; rw [ix_n (by omega)] at q2; exact q2))
        refine j_bipush (v := (-2)) X dX1_set_30 (by decide) ?_
        exact j_iret X hr hlk ⟨by rw [Rset, if_neg hE], fun q => absurd q hE, fun _ => rfl⟩ dX1_set_32
      · skip
        refine j_iload_n (q := 2) X dX1_set_21 rfl rfl ?_
        refine j_his X (X.1.2.2.2.2 _ (by decide +kernel)) dX1_set_22 ?_
        refine j_iload_n (q := 1) X dX1_set_25 rfl rfl ?_
        refine j_hia X k rfl (by omega) dX1_set_26 ?_
        refine j_icmp_le (tgt := 33) X dX1_set_27 (by decide) (fun c27 => ?_) (fun c27 => ?_)
        · skip
          have hE : okS (nI k) v := ⟨hsx0.1, hsx0.2, by rw [ix_n (by omega)]; exact Int32.not_lt.mp c18, by rw [ix_n (by omega)]; exact c27⟩
          refine j_aload_n (q := 0) X dX1_set_33 rfl rfl ?_
          refine j_callVv (As := []) X (kX1_record l D ad cs A z (mb μ 0 V) V h hc s0 s1 u pl pd hG hbo) oM rfl (cwV 0 X.1.2.2.2.2 gX1_set_X1_record rfl rfl rfl (by decide +kernel) ⟨Nat.le_of_ble_eq_true rfl, Nat.le_of_ble_eq_true rfl⟩) rfl rfl (Nat.le_of_ble_eq_true rfl) dX1_set_34 (fun μ34 h34 => ?_)
          refine j_eq h34.1.eqb ?_
          refine j_aload_n (q := 0) X dX1_set_37 rfl rfl ?_
          refine j_getM (v := .ref (ad 0 0)) X oM hinX1 0 (by decide) rfl k10 dX1_set_38 ?_
          refine j_getCB X (oC (by decide)) hinX0 0 (by decide) rfl k44 dX1_set_41 ?_
          refine j_iload_n (q := 1) X dX1_set_44 rfl rfl ?_
          refine j_ialdB X (aC_1 (by decide)) k rfl (by omega) (by decide) dX1_set_45 ?_
          refine j_istore_n (lv' := [(3, .int (V 1 k)), (0, .ref (ad 10 0)), (1, .int (nI k)), (2, .int v)]) X dX1_set_46 rfl (by decide) rfl ?_
          refine j_aload_n (q := 1) X dX1_set_47 rfl rfl ?_
          refine j_getM (v := .ref (ad 0 0)) X oM hinX1 0 (by decide) rfl k10 dX1_set_48 ?_
          refine j_getCB X (oC (by decide)) hinX0 0 (by decide) rfl k44 dX1_set_51 ?_
          refine j_iload_n (q := 2) X dX1_set_54 rfl rfl ?_
          refine j_iload_n (q := 3) X dX1_set_55 rfl rfl ?_
          refine j_iastB X (aC_1 (by decide)) k rfl (by omega) (by decide) (by decide) dX1_set_56 ?_
          refine j_iload_n (q := 0) X dX1_set_57 rfl rfl ?_
          exact j_iret X hr hlk ⟨by rw [Rset, if_pos hE, ix_n (by omega)], fun _ => ⟨by rw [Nset, ix_n (by omega)]; exact h34.1.now, by rw [mb_n (by decide), h34.2, mb_n (by decide)]⟩, fun q => absurd hE q⟩ dX1_set_58
        · skip
          have hE : ¬ okS (nI k) v := fun q => c27 (by have q2 := q.2.2.2; rw [ix_n (by omega)] at q2; exact q2)
          refine j_bipush (v := (-2)) X dX1_set_30 (by decide) ?_
          exact j_iret X hr hlk ⟨by rw [Rset, if_neg hE], fun q => absurd q hE, fun _ => rfl⟩ dX1_set_32
    · skip
      have hE : ¬ okS sx v := fun q => c6 q.2.1
      refine j_bipush (v := (-2)) X dX1_set_9 (by decide) ?_
      exact j_iret X hr hlk ⟨by rw [Rset, if_neg hE], fun q => absurd q hE, fun _ => rfl⟩ dX1_set_11
set_option maxHeartbeats 4000000 in
set_option maxRecDepth 100000 in
theorem kX1_honour (l : Launch) (D : va_G) (ad : Nat → Nat → Nat) (cs : Nat → ClassId) (A : Nat → Prop) (z : Nat → Nat) (μ : Mm) (V : CV) (h : Nat) (hc : Nat → CV) (s0 s1 : CV) (u : Nat → Int32) (pl : Nat) (pd : Nat → Int32) (hG : GS (mb μ 0 V) V h hc s0 s1 u pl pd) (N : Nat) (hci : CI V N) (x hx : Int32) : KI l D ad cs A z yX1_honour wsX1_honour (rm 4 104) [.ref (ad 10 0), .int x, .int hx] (mb μ 0 V) (fun r μ1 => r = Rhon V x hx ∧ (Ehon V x hx → GS μ1 (Nhon V x hx) (rech h) (recH hc h V) s0 s1 u pl pd ∧ μ1 11 = μ 11) ∧ (¬ Ehon V x hx → μ1 = mb μ 0 V)) := by
  refine KI_of (cc := cX1_honour) (maxL := 4) (ret := (some .int)) (by decide) rfl (Nat.le_of_ble_eq_true rfl) ?_
  intro p e s m args below meth c hr hlk X
  show J p l e _ s m args below meth c 0 0 _ 4 D ad cs A 0 [(0, .ref (ad 10 0)), (1, .int x), (2, .int hx)] [] (mb μ 0 V)
  have hinX0 : ∀ w ∈ wsX00, w ∈ wsX1_honour := by decide +kernel
  have hinX1 : ∀ w ∈ wsX10, w ∈ wsX1_honour := by decide +kernel
  have k10 : (Cond.fieldLink RX1 10 "PunCourts" "now" "LPunCourts$Court;").before args s = true := X.1.2.2.2.2 _ (by decide +kernel)
  have k73 : (Cond.fieldLink RX1 73 "PunCourts$Court" "honours" "[I").before args s = true := X.1.2.2.2.2 _ (by decide +kernel)
  have hN := hci.1.1
  have hN20 := hci.1.2.1
  have hbo := hci.1.2.2
  refine j_aload_n (q := 0) X dX1_honour_0 rfl rfl ?_
  refine j_getM (v := .ref (ad 0 0)) X oM hinX1 0 (by decide) rfl k10 dX1_honour_1 ?_
  refine j_iload_n (q := 1) X dX1_honour_4 rfl rfl ?_
  refine j_callVi (As := [.int x]) X (kX0_hasName l D ad cs A z (b := 0) (by decide) μ V x) (oC (by decide)) rfl (cwV 1 X.1.2.2.2.2 gX1_honour_X0_hasName rfl rfl rfl (by decide +kernel) ⟨Nat.le_of_ble_eq_true rfl, Nat.le_of_ble_eq_true rfl⟩) rfl rfl (Nat.le_of_ble_eq_true rfl) dX1_honour_5 (fun r5 μ5 h5 => ?_)
  obtain ⟨h5, rfl⟩ := h5
  refine j_if_ne (tgt := 13) X dX1_honour_8 (by decide) (fun c8 => ?_) (fun c8 => ?_)
  · skip
    have h5 := h5.nt c8
    have h5s := h5
    obtain ⟨n, hn, rfl⟩ := hasN_n hN hN20 h5
    refine j_iload_n (q := 2) X dX1_honour_13 rfl rfl ?_
    refine j_if_lt (tgt := 23) X dX1_honour_14 (by decide) (fun c14 => ?_) (fun c14 => ?_)
    · skip
      have ho : ¬ okH hx := fun q => absurd c14 (Int32.not_lt.mpr q.1)
      have hE : ¬ Ehon V (nI n) hx := fun q => ho q.2
      refine j_bipush (v := (-2)) X dX1_honour_23 (by decide) ?_
      exact j_iret X hr hlk ⟨by rw [Rhon, if_neg (Classical.not_not.mpr h5s), if_pos ho], fun q => absurd q hE, fun _ => rfl⟩ dX1_honour_25
    · skip
      refine j_iload_n (q := 2) X dX1_honour_17 rfl rfl ?_
      refine j_bipush (v := (nI 9)) X dX1_honour_18 (by decide) ?_
      refine j_icmp_le (tgt := 26) X dX1_honour_20 (by decide) (fun c20 => ?_) (fun c20 => ?_)
      · skip
        have ho : okH hx := ⟨Int32.not_lt.mp c14, c20⟩
        have hE : Ehon V (nI n) hx := ⟨h5s, ho⟩
        refine j_aload_n (q := 0) X dX1_honour_26 rfl rfl ?_
        refine j_callVv (As := []) X (kX1_record l D ad cs A z (mb μ 0 V) V h hc s0 s1 u pl pd hG hbo) oM rfl (cwV 0 X.1.2.2.2.2 gX1_honour_X1_record rfl rfl rfl (by decide +kernel) ⟨Nat.le_of_ble_eq_true rfl, Nat.le_of_ble_eq_true rfl⟩) rfl rfl (Nat.le_of_ble_eq_true rfl) dX1_honour_27 (fun μ27 h27 => ?_)
        refine j_eq h27.1.eqb ?_
        refine j_aload_n (q := 0) X dX1_honour_30 rfl rfl ?_
        refine j_getM (v := .ref (ad 0 0)) X oM hinX1 0 (by decide) rfl k10 dX1_honour_31 ?_
        refine j_getCB X (oC (by decide)) hinX0 6 (by decide) rfl k73 dX1_honour_34 ?_
        refine j_iload_n (q := 1) X dX1_honour_37 rfl rfl ?_
        refine j_ialdB X (aC_7 (by decide)) n rfl (by omega) (by decide) dX1_honour_38 ?_
        refine j_istore_n (lv' := [(3, .int (V 7 n)), (0, .ref (ad 10 0)), (1, .int (nI n)), (2, .int hx)]) X dX1_honour_39 rfl (by decide) rfl ?_
        refine j_aload_n (q := 1) X dX1_honour_40 rfl rfl ?_
        refine j_getM (v := .ref (ad 0 0)) X oM hinX1 0 (by decide) rfl k10 dX1_honour_41 ?_
        refine j_getCB X (oC (by decide)) hinX0 6 (by decide) rfl k73 dX1_honour_44 ?_
        refine j_iload_n (q := 2) X dX1_honour_47 rfl rfl ?_
        refine j_iload_n (q := 3) X dX1_honour_48 rfl rfl ?_
        refine j_iastB X (aC_7 (by decide)) n rfl (by omega) (by decide) (by decide) dX1_honour_49 ?_
        refine j_iload_n (q := 0) X dX1_honour_50 rfl rfl ?_
        exact j_iret X hr hlk ⟨by rw [Rhon, if_neg (Classical.not_not.mpr h5s), if_neg (Classical.not_not.mpr ho), ix_n (by omega)], fun _ => ⟨by rw [Nhon, ix_n (by omega)]; exact h27.1.now, by rw [mb_n (by decide), h27.2, mb_n (by decide)]⟩, fun q => absurd hE q⟩ dX1_honour_51
      · skip
        have ho : ¬ okH hx := fun q => c20 q.2
        have hE : ¬ Ehon V (nI n) hx := fun q => ho q.2
        refine j_bipush (v := (-2)) X dX1_honour_23 (by decide) ?_
        exact j_iret X hr hlk ⟨by rw [Rhon, if_neg (Classical.not_not.mpr h5s), if_pos ho], fun q => absurd q hE, fun _ => rfl⟩ dX1_honour_25
  · skip
    have hE : ¬ Ehon V x hx := fun q => h5.nf c8 q.1
    refine j_iconst (v := (-1)) X dX1_honour_11 (by decide) ?_
    exact j_iret X hr hlk ⟨by rw [Rhon, if_pos (h5.nf c8)], fun q => absurd q hE, fun _ => rfl⟩ dX1_honour_12
set_option maxHeartbeats 4000000 in
set_option maxRecDepth 100000 in
theorem kX1_withdraw (l : Launch) (D : va_G) (ad : Nat → Nat → Nat) (cs : Nat → ClassId) (A : Nat → Prop) (z : Nat → Nat) (μ : Mm) (V : CV) (h : Nat) (hc : Nat → CV) (s0 s1 : CV) (u : Nat → Int32) (pl : Nat) (pd : Nat → Int32) (hG : GS (mb μ 0 V) V h hc s0 s1 u pl pd) (N : Nat) (hci : CI V N) (x : Int32) : KI l D ad cs A z yX1_withdraw wsX1_withdraw (rm 4 104) [.ref (ad 10 0), .int x] (mb μ 0 V) (fun r μ1 => r = Rwit V x ∧ (Ewit V x → GS μ1 (Nwit V x) (rech h) (recH hc h V) s0 s1 u pl pd ∧ μ1 11 = μ 11) ∧ (¬ Ewit V x → μ1 = mb μ 0 V)) := by
  refine KI_of (cc := cX1_withdraw) (maxL := 2) (ret := (some .int)) (by decide) rfl (Nat.le_of_ble_eq_true rfl) ?_
  intro p e s m args below meth c hr hlk X
  show J p l e _ s m args below meth c 0 0 _ 2 D ad cs A 0 [(0, .ref (ad 10 0)), (1, .int x)] [] (mb μ 0 V)
  have hinX0 : ∀ w ∈ wsX00, w ∈ wsX1_withdraw := by decide +kernel
  have hinX1 : ∀ w ∈ wsX10, w ∈ wsX1_withdraw := by decide +kernel
  have k10 : (Cond.fieldLink RX1 10 "PunCourts" "now" "LPunCourts$Court;").before args s = true := X.1.2.2.2.2 _ (by decide +kernel)
  have k76 : (Cond.fieldLink RX1 76 "PunCourts$Court" "withdrawn" "[Z").before args s = true := X.1.2.2.2.2 _ (by decide +kernel)
  have hN := hci.1.1
  have hN20 := hci.1.2.1
  have hbo := hci.1.2.2
  refine j_aload_n (q := 0) X dX1_withdraw_0 rfl rfl ?_
  refine j_getM (v := .ref (ad 0 0)) X oM hinX1 0 (by decide) rfl k10 dX1_withdraw_1 ?_
  refine j_iload_n (q := 1) X dX1_withdraw_4 rfl rfl ?_
  refine j_callVi (As := [.int x]) X (kX0_hasName l D ad cs A z (b := 0) (by decide) μ V x) (oC (by decide)) rfl (cwV 1 X.1.2.2.2.2 gX1_withdraw_X0_hasName rfl rfl rfl (by decide +kernel) ⟨Nat.le_of_ble_eq_true rfl, Nat.le_of_ble_eq_true rfl⟩) rfl rfl (Nat.le_of_ble_eq_true rfl) dX1_withdraw_5 (fun r5 μ5 h5 => ?_)
  obtain ⟨h5, rfl⟩ := h5
  refine j_if_ne (tgt := 13) X dX1_withdraw_8 (by decide) (fun c8 => ?_) (fun c8 => ?_)
  · skip
    have h5 := h5.nt c8
    have h5s := h5
    obtain ⟨n, hn, rfl⟩ := hasN_n hN hN20 h5
    refine j_aload_n (q := 0) X dX1_withdraw_13 rfl rfl ?_
    refine j_getM (v := .ref (ad 0 0)) X oM hinX1 0 (by decide) rfl k10 dX1_withdraw_14 ?_
    refine j_getCB X (oC (by decide)) hinX0 7 (by decide) rfl k76 dX1_withdraw_17 ?_
    refine j_iload_n (q := 1) X dX1_withdraw_20 rfl rfl ?_
    refine j_zaldB X (aC_8 (by decide)) n rfl (by omega) (by decide) dX1_withdraw_21 ?_
    refine j_if_eq (tgt := 28) X dX1_withdraw_22 (by decide) (fun c22 => ?_) (fun c22 => ?_)
    · skip
      have hE : Ewit V (nI n) := ⟨h5s, by rw [ix_n (by omega)]; exact c22⟩
      refine j_aload_n (q := 0) X dX1_withdraw_28 rfl rfl ?_
      refine j_callVv (As := []) X (kX1_record l D ad cs A z (mb μ 0 V) V h hc s0 s1 u pl pd hG hbo) oM rfl (cwV 0 X.1.2.2.2.2 gX1_withdraw_X1_record rfl rfl rfl (by decide +kernel) ⟨Nat.le_of_ble_eq_true rfl, Nat.le_of_ble_eq_true rfl⟩) rfl rfl (Nat.le_of_ble_eq_true rfl) dX1_withdraw_29 (fun μ29 h29 => ?_)
      refine j_eq h29.1.eqb ?_
      refine j_aload_n (q := 0) X dX1_withdraw_32 rfl rfl ?_
      refine j_getM (v := .ref (ad 0 0)) X oM hinX1 0 (by decide) rfl k10 dX1_withdraw_33 ?_
      refine j_iload_n (q := 1) X dX1_withdraw_36 rfl rfl ?_
      refine j_callVi (As := [.int (nI n)]) X (kX0_drop l D ad cs A z (b := 0) (by decide) μ29 V n (by omega)) (oC (by decide)) rfl (cwV 1 X.1.2.2.2.2 gX1_withdraw_X0_drop rfl rfl rfl (by decide +kernel) ⟨Nat.le_of_ble_eq_true rfl, Nat.le_of_ble_eq_true rfl⟩) rfl rfl (Nat.le_of_ble_eq_true rfl) dX1_withdraw_37 (fun r37 μ37 h37 => ?_)
      obtain ⟨h37, rfl⟩ := h37
      rw [h37]
      exact j_iret X hr hlk ⟨by rw [Rwit, if_neg (Classical.not_not.mpr h5s), ix_n (by omega), if_neg (Classical.not_not.mpr c22)], fun _ => ⟨by rw [Nwit, ix_n (by omega)]; exact h29.1.now, by rw [mb_n (by decide), h29.2, mb_n (by decide)]⟩, fun q => absurd hE q⟩ dX1_withdraw_40
    · skip
      have hE : ¬ Ewit V (nI n) := fun q => c22 (by have q2 := q.2; rw [ix_n (by omega)] at q2; exact q2)
      refine j_bipush (v := (-5)) X dX1_withdraw_25 (by decide) ?_
      exact j_iret X hr hlk ⟨by rw [Rwit, if_neg (Classical.not_not.mpr h5s), ix_n (by omega), if_pos c22], fun q => absurd q hE, fun _ => rfl⟩ dX1_withdraw_27
  · skip
    have hE : ¬ Ewit V x := fun q => h5.nf c8 q.1
    refine j_iconst (v := (-1)) X dX1_withdraw_11 (by decide) ?_
    exact j_iret X hr hlk ⟨by rw [Rwit, if_pos (h5.nf c8)], fun q => absurd q hE, fun _ => rfl⟩ dX1_withdraw_12
set_option maxHeartbeats 4000000 in
set_option maxRecDepth 100000 in
theorem kX1_give (l : Launch) (D : va_G) (ad : Nat → Nat → Nat) (cs : Nat → ClassId) (A : Nat → Prop) (z : Nat → Nat) (μ : Mm) (V : CV) (h : Nat) (hc : Nat → CV) (s0 s1 : CV) (u : Nat → Int32) (pl : Nat) (pd : Nat → Int32) (hG : GS (mb μ 0 V) V h hc s0 s1 u pl pd) (N : Nat) (hci : CI V N) (a P : Nat) (hpd : PD V a N P) (x cx : Int32) : KI l D ad cs A z yX1_give wsX1_give (rm 4 104) [.ref (ad 10 0), .int x, .int cx] (mb μ 0 V) (fun r μ1 => r = Rgiv V a x cx ∧ (Egiv V a x cx → GS μ1 (Ngiv V x cx) (rech h) (recH hc h V) s0 s1 u pl pd ∧ μ1 11 = μ 11) ∧ (¬ Egiv V a x cx → μ1 = mb μ 0 V)) := by
  refine KI_of (cc := cX1_give) (maxL := 3) (ret := (some .int)) (by decide) rfl (Nat.le_of_ble_eq_true rfl) ?_
  intro p e s m args below meth c hr hlk X
  show J p l e _ s m args below meth c 0 0 _ 3 D ad cs A 0 [(0, .ref (ad 10 0)), (1, .int x), (2, .int cx)] [] (mb μ 0 V)
  have hinX0 : ∀ w ∈ wsX00, w ∈ wsX1_give := by decide +kernel
  have hinX1 : ∀ w ∈ wsX10, w ∈ wsX1_give := by decide +kernel
  have k10 : (Cond.fieldLink RX1 10 "PunCourts" "now" "LPunCourts$Court;").before args s = true := X.1.2.2.2.2 _ (by decide +kernel)
  have k94 : (Cond.fieldLink RX1 94 "PunCourts$Court" "owed" "[I").before args s = true := X.1.2.2.2.2 _ (by decide +kernel)
  have hN := hci.1.1
  have hN20 := hci.1.2.1
  have hbo := hci.1.2.2
  refine j_aload_n (q := 0) X dX1_give_0 rfl rfl ?_
  refine j_getM (v := .ref (ad 0 0)) X oM hinX1 0 (by decide) rfl k10 dX1_give_1 ?_
  refine j_iload_n (q := 1) X dX1_give_4 rfl rfl ?_
  refine j_callVi (As := [.int x]) X (kX0_hasName l D ad cs A z (b := 0) (by decide) μ V x) (oC (by decide)) rfl (cwV 1 X.1.2.2.2.2 gX1_give_X0_hasName rfl rfl rfl (by decide +kernel) ⟨Nat.le_of_ble_eq_true rfl, Nat.le_of_ble_eq_true rfl⟩) rfl rfl (Nat.le_of_ble_eq_true rfl) dX1_give_5 (fun r5 μ5 h5 => ?_)
  obtain ⟨h5, rfl⟩ := h5
  refine j_if_eq (tgt := 18) X dX1_give_8 (by decide) (fun c8 => ?_) (fun c8 => ?_)
  · skip
    have hna : ¬ (hasN V x ∧ isC cx) := fun q => h5.f c8 q.1
    have hE : ¬ Egiv V a x cx := fun q => hna q.1
    refine j_iconst (v := (-1)) X dX1_give_18 (by decide) ?_
    exact j_iret X hr hlk ⟨by rw [Rgiv, if_pos hna], fun q => absurd q hE, fun _ => rfl⟩ dX1_give_19
  · skip
    have h5 := h5.t c8
    have h5s := h5
    refine j_iload_n (q := 2) X dX1_give_11 rfl rfl ?_
    refine j_callSi (As := [.int cx]) X (aX1_isCorner l D ad cs A z (mb μ 0 V) cx) (va_cwS 1 X.1.2.2.2.2 gX1_give_X1_isCorner rfl rfl rfl (by decide +kernel) ⟨Nat.le_of_ble_eq_true rfl, Nat.le_of_ble_eq_true rfl⟩) rfl rfl (Nat.le_of_ble_eq_true rfl) dX1_give_12 (fun r12 μ12 h12 => ?_)
    obtain ⟨h12, rfl⟩ := h12
    refine j_if_ne (tgt := 20) X dX1_give_15 (by decide) (fun c15 => ?_) (fun c15 => ?_)
    · skip
      have h12 := h12.nt c15
      have hsx := h12
      have hna : hasN V x ∧ isC cx := ⟨h5s, h12⟩
      obtain ⟨n, hn, rfl⟩ := hasN_n hN hN20 h5
      have hsx0 := hsx
      obtain ⟨k, hk, rfl⟩ := in_n hsx.1 hsx.2 (by decide)
      refine j_aload_n (q := 0) X dX1_give_20 rfl rfl ?_
      refine j_getM (v := .ref (ad 0 0)) X oM hinX1 0 (by decide) rfl k10 dX1_give_21 ?_
      refine j_iload_n (q := 1) X dX1_give_24 rfl rfl ?_
      refine j_iload_n (q := 2) X dX1_give_25 rfl rfl ?_
      refine j_callVi (As := [.int (nI n), .int (nI k)]) X (kX0_refusal l D ad cs A z (b := 0) (by decide) μ V a hpd.1 hpd.2.1 n (by omega) k (by omega)) (oC (by decide)) rfl (cwV 2 X.1.2.2.2.2 gX1_give_X0_refusal rfl rfl rfl (by decide +kernel) ⟨Nat.le_of_ble_eq_true rfl, Nat.le_of_ble_eq_true rfl⟩) rfl rfl (Nat.le_of_ble_eq_true rfl) dX1_give_26 (fun r26 μ26 h26 => ?_)
      obtain ⟨h26, rfl⟩ := h26
      rw [h26]
      refine j_if_eq (tgt := 35) X dX1_give_29 (by decide) (fun c29 => ?_) (fun c29 => ?_)
      · skip
        have hE : Egiv V a (nI n) (nI k) := ⟨hna, by rw [ix_n (by omega), ix_n (by omega)]; exact c29⟩
        refine j_aload_n (q := 0) X dX1_give_35 rfl rfl ?_
        refine j_callVv (As := []) X (kX1_record l D ad cs A z (mb μ 0 V) V h hc s0 s1 u pl pd hG hbo) oM rfl (cwV 0 X.1.2.2.2.2 gX1_give_X1_record rfl rfl rfl (by decide +kernel) ⟨Nat.le_of_ble_eq_true rfl, Nat.le_of_ble_eq_true rfl⟩) rfl rfl (Nat.le_of_ble_eq_true rfl) dX1_give_36 (fun μ36 h36 => ?_)
        refine j_eq h36.1.eqb ?_
        refine j_aload_n (q := 0) X dX1_give_39 rfl rfl ?_
        refine j_getM (v := .ref (ad 0 0)) X oM hinX1 0 (by decide) rfl k10 dX1_give_40 ?_
        refine j_iload_n (q := 1) X dX1_give_43 rfl rfl ?_
        refine j_iload_n (q := 2) X dX1_give_44 rfl rfl ?_
        refine j_callVv (As := [.int (nI n), .int (nI k)]) X (kX0_place l D ad cs A z (b := 0) (by decide) μ36 V n (by omega) k (by omega)) (oC (by decide)) rfl (cwV 2 X.1.2.2.2.2 gX1_give_X0_place rfl rfl rfl (by decide +kernel) ⟨Nat.le_of_ble_eq_true rfl, Nat.le_of_ble_eq_true rfl⟩) rfl rfl (Nat.le_of_ble_eq_true rfl) dX1_give_45 (fun μ45 h45 => ?_)
        subst h45
        refine j_aload_n (q := 0) X dX1_give_48 rfl rfl ?_
        refine j_getM (v := .ref (ad 0 0)) X oM hinX1 0 (by decide) rfl k10 dX1_give_49 ?_
        refine j_getCB X (oC (by decide)) hinX0 10 (by decide) rfl k94 dX1_give_52 ?_
        refine j_iload_n (q := 2) X dX1_give_55 rfl rfl ?_
        refine j_ialdB X (aC_11 (by decide)) k rfl (by omega) (by decide) dX1_give_56 ?_
        exact j_iret X hr hlk ⟨by rw [Rgiv, if_neg (Classical.not_not.mpr hna), ix_n (by omega), ix_n (by omega), if_neg (Classical.not_not.mpr c29)], fun _ => ⟨by rw [Ngiv, ix_n (by omega), ix_n (by omega)]; exact h36.1.now, by rw [mb_n (by decide), h36.2, mb_n (by decide)]⟩, fun q => absurd hE q⟩ dX1_give_57
      · skip
        have hE : ¬ Egiv V a (nI n) (nI k) := fun q => c29 (by have q2 := q.2; rw [ix_n (by omega), ix_n (by omega)] at q2; exact q2)
        refine j_bipush (v := (-5)) X dX1_give_32 (by decide) ?_
        exact j_iret X hr hlk ⟨by rw [Rgiv, if_neg (Classical.not_not.mpr hna), ix_n (by omega), ix_n (by omega), if_pos c29], fun q => absurd q hE, fun _ => rfl⟩ dX1_give_34
    · skip
      have hna : ¬ (hasN V x ∧ isC cx) := fun q => h12.nf c15 q.2
      have hE : ¬ Egiv V a x cx := fun q => hna q.1
      refine j_iconst (v := (-1)) X dX1_give_18 (by decide) ?_
      exact j_iret X hr hlk ⟨by rw [Rgiv, if_pos hna], fun q => absurd q hE, fun _ => rfl⟩ dX1_give_19
set_option maxHeartbeats 4000000 in
set_option maxRecDepth 100000 in
theorem kX1_strip (l : Launch) (D : va_G) (ad : Nat → Nat → Nat) (cs : Nat → ClassId) (A : Nat → Prop) (z : Nat → Nat) (μ : Mm) (V : CV) (h : Nat) (hc : Nat → CV) (s0 s1 : CV) (u : Nat → Int32) (pl : Nat) (pd : Nat → Int32) (hG : GS (mb μ 0 V) V h hc s0 s1 u pl pd) (N : Nat) (hci : CI V N) (cx : Int32) : KI l D ad cs A z yX1_strip wsX1_strip (rm 4 104) [.ref (ad 10 0), .int cx] (mb μ 0 V) (fun r μ1 => r = Rstr V cx ∧ (Estr V cx → GS μ1 (Nstr V cx) (rech h) (recH hc h V) s0 s1 u pl pd ∧ μ1 11 = μ 11) ∧ (¬ Estr V cx → μ1 = mb μ 0 V)) := by
  refine KI_of (cc := cX1_strip) (maxL := 3) (ret := (some .int)) (by decide) rfl (Nat.le_of_ble_eq_true rfl) ?_
  intro p e s m args below meth c hr hlk X
  show J p l e _ s m args below meth c 0 0 _ 3 D ad cs A 0 [(0, .ref (ad 10 0)), (1, .int cx)] [] (mb μ 0 V)
  have hinX0 : ∀ w ∈ wsX00, w ∈ wsX1_strip := by decide +kernel
  have hinX1 : ∀ w ∈ wsX10, w ∈ wsX1_strip := by decide +kernel
  have k10 : (Cond.fieldLink RX1 10 "PunCourts" "now" "LPunCourts$Court;").before args s = true := X.1.2.2.2.2 _ (by decide +kernel)
  have k97 : (Cond.fieldLink RX1 97 "PunCourts$Court" "borne" "[I").before args s = true := X.1.2.2.2.2 _ (by decide +kernel)
  have k94 : (Cond.fieldLink RX1 94 "PunCourts$Court" "owed" "[I").before args s = true := X.1.2.2.2.2 _ (by decide +kernel)
  have hN := hci.1.1
  have hN20 := hci.1.2.1
  have hbo := hci.1.2.2
  refine j_iload_n (q := 1) X dX1_strip_0 rfl rfl ?_
  refine j_callSi (As := [.int cx]) X (aX1_isCorner l D ad cs A z (mb μ 0 V) cx) (va_cwS 1 X.1.2.2.2.2 gX1_strip_X1_isCorner rfl rfl rfl (by decide +kernel) ⟨Nat.le_of_ble_eq_true rfl, Nat.le_of_ble_eq_true rfl⟩) rfl rfl (Nat.le_of_ble_eq_true rfl) dX1_strip_1 (fun r1 μ1 h1 => ?_)
  obtain ⟨h1, rfl⟩ := h1
  refine j_if_ne (tgt := 9) X dX1_strip_4 (by decide) (fun c4 => ?_) (fun c4 => ?_)
  · skip
    have hsx := h1.nt c4
    have hsx0 := hsx
    obtain ⟨k, hk, rfl⟩ := in_n hsx.1 hsx.2 (by decide)
    refine j_aload_n (q := 0) X dX1_strip_9 rfl rfl ?_
    refine j_getM (v := .ref (ad 0 0)) X oM hinX1 0 (by decide) rfl k10 dX1_strip_10 ?_
    refine j_getCB X (oC (by decide)) hinX0 9 (by decide) rfl k97 dX1_strip_13 ?_
    refine j_iload_n (q := 1) X dX1_strip_16 rfl rfl ?_
    refine j_ialdB X (aC_10 (by decide)) k rfl (by omega) (by decide) dX1_strip_17 ?_
    refine j_istore_n (lv' := [(2, .int (V 10 k)), (0, .ref (ad 10 0)), (1, .int (nI k))]) X dX1_strip_18 rfl (by decide) rfl ?_
    refine j_iload_n (q := 0) X dX1_strip_19 rfl rfl ?_
    refine j_bipush (v := (-6)) X dX1_strip_20 (by decide) ?_
    refine j_icmp_ne (tgt := 28) X dX1_strip_22 (by decide) (fun c22 => ?_) (fun c22 => ?_)
    · skip
      have hE : Estr V (nI k) := ⟨hsx0, by rw [ix_n (by omega)]; exact c22⟩
      refine j_aload_n (q := 1) X dX1_strip_28 rfl rfl ?_
      refine j_callVv (As := []) X (kX1_record l D ad cs A z (mb μ 0 V) V h hc s0 s1 u pl pd hG hbo) oM rfl (cwV 0 X.1.2.2.2.2 gX1_strip_X1_record rfl rfl rfl (by decide +kernel) ⟨Nat.le_of_ble_eq_true rfl, Nat.le_of_ble_eq_true rfl⟩) rfl rfl (Nat.le_of_ble_eq_true rfl) dX1_strip_29 (fun μ29 h29 => ?_)
      refine j_eq h29.1.eqb ?_
      refine j_aload_n (q := 1) X dX1_strip_32 rfl rfl ?_
      refine j_getM (v := .ref (ad 0 0)) X oM hinX1 0 (by decide) rfl k10 dX1_strip_33 ?_
      refine j_iload_n (q := 2) X dX1_strip_36 rfl rfl ?_
      refine j_callVv (As := [.int (nI k)]) X (kX0_bare l D ad cs A z (b := 0) (by decide) μ29 V k (by omega)) (oC (by decide)) rfl (cwV 1 X.1.2.2.2.2 gX1_strip_X0_bare rfl rfl rfl (by decide +kernel) ⟨Nat.le_of_ble_eq_true rfl, Nat.le_of_ble_eq_true rfl⟩) rfl rfl (Nat.le_of_ble_eq_true rfl) dX1_strip_37 (fun μ37 h37 => ?_)
      subst h37
      refine j_aload_n (q := 1) X dX1_strip_40 rfl rfl ?_
      refine j_getM (v := .ref (ad 0 0)) X oM hinX1 0 (by decide) rfl k10 dX1_strip_41 ?_
      refine j_getCB X (oC (by decide)) hinX0 10 (by decide) rfl k94 dX1_strip_44 ?_
      refine j_iload_n (q := 2) X dX1_strip_47 rfl rfl ?_
      refine j_dup2 X dX1_strip_48 rfl rfl ?_
      refine j_ialdB X (aC_11 (by decide)) k rfl (by omega) (by decide) dX1_strip_49 ?_
      refine j_iconst (v := (nI 1)) X dX1_strip_50 (by decide) ?_
      refine j_iadd (v := (((us V 10 k (-6)) 11 k) + (nI 1))) X dX1_strip_51 rfl ?_
      refine j_iastB X (aC_11 (by decide)) k rfl (by omega) (by decide) (by decide) dX1_strip_52 ?_
      refine j_iload_n (q := 0) X dX1_strip_53 rfl rfl ?_
      exact j_iret X hr hlk ⟨by rw [Rstr, if_neg (Classical.not_not.mpr hsx0), ix_n (by omega), if_neg c22], fun _ => ⟨by rw [Nstr, ix_n (by omega)]; exact h29.1.now, by rw [mb_n (by decide), h29.2, mb_n (by decide)]⟩, fun q => absurd hE q⟩ dX1_strip_54
    · skip
      have hE : ¬ Estr V (nI k) := fun q => by have q2 := q.2; rw [ix_n (by omega)] at q2; exact q2 (Classical.not_not.mp c22)
      refine j_bipush (v := (-5)) X dX1_strip_25 (by decide) ?_
      exact j_iret X hr hlk ⟨by rw [Rstr, if_neg (Classical.not_not.mpr hsx0), ix_n (by omega), if_pos (Classical.not_not.mp c22)], fun q => absurd q hE, fun _ => rfl⟩ dX1_strip_27
  · skip
    have hE : ¬ Estr V cx := fun q => h1.nf c4 q.1
    refine j_iconst (v := (-1)) X dX1_strip_7 (by decide) ?_
    exact j_iret X hr hlk ⟨by rw [Rstr, if_pos (h1.nf c4)], fun q => absurd q hE, fun _ => rfl⟩ dX1_strip_8
set_option maxHeartbeats 4000000 in
set_option maxRecDepth 100000 in
theorem kX1_issue (l : Launch) (D : va_G) (ad : Nat → Nat → Nat) (cs : Nat → ClassId) (A : Nat → Prop) (z : Nat → Nat) (μ : Mm) (V : CV) (h : Nat) (hc : Nat → CV) (s0 s1 : CV) (u : Nat → Int32) (pl : Nat) (pd : Nat → Int32) (hG : GS (mb μ 0 V) V h hc s0 s1 u pl pd) (N : Nat) (hci : CI V N) : KI l D ad cs A z yX1_issue wsX1_issue (rm 4 104) [.ref (ad 10 0)] (mb μ 0 V) (fun r μ1 => r = wmS V ∧ GS μ1 (dm V) (rech h) (recH hc h V) s0 s1 u pl pd ∧ μ1 11 = μ 11) := by
  refine KI_of (cc := cX1_issue) (maxL := 2) (ret := (some .int)) (by decide) rfl (Nat.le_of_ble_eq_true rfl) ?_
  intro p e s m args below meth c hr hlk X
  show J p l e _ s m args below meth c 0 0 _ 2 D ad cs A 0 [(0, .ref (ad 10 0))] [] (mb μ 0 V)
  have hinX1 : ∀ w ∈ wsX10, w ∈ wsX1_issue := by decide +kernel
  have k10 : (Cond.fieldLink RX1 10 "PunCourts" "now" "LPunCourts$Court;").before args s = true := X.1.2.2.2.2 _ (by decide +kernel)
  have hN := hci.1.1
  have hN20 := hci.1.2.1
  have hbo := hci.1.2.2
  refine j_aload_n (q := 0) X dX1_issue_0 rfl rfl ?_
  refine j_callVv (As := []) X (kX1_record l D ad cs A z (mb μ 0 V) V h hc s0 s1 u pl pd hG hbo) oM rfl (cwV 0 X.1.2.2.2.2 gX1_issue_X1_record rfl rfl rfl (by decide +kernel) ⟨Nat.le_of_ble_eq_true rfl, Nat.le_of_ble_eq_true rfl⟩) rfl rfl (Nat.le_of_ble_eq_true rfl) dX1_issue_1 (fun μ1 h1 => ?_)
  refine j_eq h1.1.eqb ?_
  refine j_aload_n (q := 0) X dX1_issue_4 rfl rfl ?_
  refine j_getM (v := .ref (ad 0 0)) X oM hinX1 0 (by decide) rfl k10 dX1_issue_5 ?_
  refine j_callVi (As := []) X (kX0_wrongOnMap l D ad cs A z (b := 0) (by decide) μ1 V) (oC (by decide)) rfl (cwV 0 X.1.2.2.2.2 gX1_issue_X0_wrongOnMap rfl rfl rfl (by decide +kernel) ⟨Nat.le_of_ble_eq_true rfl, Nat.le_of_ble_eq_true rfl⟩) rfl rfl (Nat.le_of_ble_eq_true rfl) dX1_issue_8 (fun r8 μ8 h8 => ?_)
  obtain ⟨h8, rfl⟩ := h8
  rw [h8]
  refine j_istore_n (lv' := [(1, .int (wmS V)), (0, .ref (ad 10 0))]) X dX1_issue_11 rfl (by decide) rfl ?_
  refine j_aload_n (q := 1) X dX1_issue_12 rfl rfl ?_
  refine j_getM (v := .ref (ad 0 0)) X oM hinX1 0 (by decide) rfl k10 dX1_issue_13 ?_
  refine j_callVv (As := []) X (kX0_drawMap l D ad cs A z (b := 0) (by decide) μ1 V) (oC (by decide)) rfl (cwV 0 X.1.2.2.2.2 gX1_issue_X0_drawMap rfl rfl rfl (by decide +kernel) ⟨Nat.le_of_ble_eq_true rfl, Nat.le_of_ble_eq_true rfl⟩) rfl rfl (Nat.le_of_ble_eq_true rfl) dX1_issue_16 (fun μ16 h16 => ?_)
  subst h16
  refine j_iload_n (q := 0) X dX1_issue_19 rfl rfl ?_
  exact j_iret X hr hlk ⟨rfl, h1.1.now, by rw [mb_n (by decide), h1.2, mb_n (by decide)]⟩ dX1_issue_20
set_option maxHeartbeats 4000000 in
set_option maxRecDepth 100000 in
theorem kX1_pass (l : Launch) (D : va_G) (ad : Nat → Nat → Nat) (cs : Nat → ClassId) (A : Nat → Prop) (z : Nat → Nat) (μ : Mm) (V : CV) (h : Nat) (hc : Nat → CV) (s0 s1 : CV) (u : Nat → Int32) (pl : Nat) (pd : Nat → Int32) (hG : GS (mb μ 0 V) V h hc s0 s1 u pl pd) (N : Nat) (hci : CI V N) (a P : Nat) (hpd : PD V a N P) (dx : Int32) : KI l D ad cs A z yX1_pass wsX1_pass (rm 6 139) [.ref (ad 10 0), .int dx] (mb μ 0 V) (fun r μ1 => r = Rpas V a N P dx ∧ (Epas V dx → GS μ1 (Npas V a N P dx) (rech h) (recH hc h V) s0 s1 u pl pd ∧ μ1 11 = μ 11) ∧ (¬ Epas V dx → μ1 = mb μ 0 V)) := by
  refine KI_of (cc := cX1_pass) (maxL := 2) (ret := (some .int)) (by decide) rfl (Nat.le_of_ble_eq_true rfl) ?_
  intro p e s m args below meth c hr hlk X
  show J p l e _ s m args below meth c 0 0 _ 2 D ad cs A 0 [(0, .ref (ad 10 0)), (1, .int dx)] [] (mb μ 0 V)
  have hinX0 : ∀ w ∈ wsX00, w ∈ wsX1_pass := by decide +kernel
  have hinX1 : ∀ w ∈ wsX10, w ∈ wsX1_pass := by decide +kernel
  have k10 : (Cond.fieldLink RX1 10 "PunCourts" "now" "LPunCourts$Court;").before args s = true := X.1.2.2.2.2 _ (by decide +kernel)
  have k110 : (Cond.fieldLink RX1 110 "PunCourts$Court" "days" "I").before args s = true := X.1.2.2.2.2 _ (by decide +kernel)
  have hN := hci.1.1
  have hN20 := hci.1.2.1
  have hbo := hci.1.2.2
  refine j_iload_n (q := 1) X dX1_pass_0 rfl rfl ?_
  refine j_iconst (v := (nI 1)) X dX1_pass_1 (by decide) ?_
  refine j_icmp_lt (tgt := 11) X dX1_pass_2 (by decide) (fun c2 => ?_) (fun c2 => ?_)
  · skip
    have ho : ¬ okD dx 99 := fun q => absurd c2 (Int32.not_lt.mpr q.1)
    have hE : ¬ Epas V dx := fun q => ho q.1
    refine j_bipush (v := (-2)) X dX1_pass_11 (by decide) ?_
    exact j_iret X hr hlk ⟨by rw [Rpas, if_pos ho], fun q => absurd q hE, fun _ => rfl⟩ dX1_pass_13
  · skip
    refine j_iload_n (q := 1) X dX1_pass_5 rfl rfl ?_
    refine j_bipush (v := (nI 99)) X dX1_pass_6 (by decide) ?_
    refine j_icmp_le (tgt := 14) X dX1_pass_8 (by decide) (fun c8 => ?_) (fun c8 => ?_)
    · skip
      have ho : okD dx 99 := ⟨Int32.not_lt.mp c2, c8⟩
      obtain ⟨k, hk1, hk2, rfl⟩ := rng_n ho.1 ho.2 (by decide) (by decide)
      refine j_aload_n (q := 0) X dX1_pass_14 rfl rfl ?_
      refine j_getM (v := .ref (ad 0 0)) X oM hinX1 0 (by decide) rfl k10 dX1_pass_15 ?_
      refine j_getCB X (oC (by decide)) hinX0 1 (by decide) rfl k110 dX1_pass_18 ?_
      refine j_iload_n (q := 1) X dX1_pass_21 rfl rfl ?_
      refine j_iadd (v := ((V 0 1) + (nI k))) X dX1_pass_22 rfl ?_
      refine j_sipush (v := (nI 9999)) X dX1_pass_23 (by decide) ?_
      refine j_icmp_le (tgt := 32) X dX1_pass_26 (by decide) (fun c26 => ?_) (fun c26 => ?_)
      · skip
        have hE : Epas V (nI k) := ⟨ho, Int32.not_lt.mpr c26⟩
        refine j_aload_n (q := 0) X dX1_pass_32 rfl rfl ?_
        refine j_callVv (As := []) X (kX1_record l D ad cs A z (mb μ 0 V) V h hc s0 s1 u pl pd hG hbo) oM rfl (cwV 0 X.1.2.2.2.2 gX1_pass_X1_record rfl rfl rfl (by decide +kernel) ⟨Nat.le_of_ble_eq_true rfl, Nat.le_of_ble_eq_true rfl⟩) rfl rfl (Nat.le_of_ble_eq_true rfl) dX1_pass_33 (fun μ33 h33 => ?_)
        refine j_eq h33.1.eqb ?_
        refine j_aload_n (q := 0) X dX1_pass_36 rfl rfl ?_
        refine j_getM (v := .ref (ad 0 0)) X oM hinX1 0 (by decide) rfl k10 dX1_pass_37 ?_
        refine j_iload_n (q := 1) X dX1_pass_40 rfl rfl ?_
        refine j_callVi (As := [.int (nI k)]) X (kX0_live l D ad cs A z (b := 0) (by decide) μ33 V a N P hpd k (by omega)) (oC (by decide)) rfl (cwV 1 X.1.2.2.2.2 gX1_pass_X0_live rfl rfl rfl (by decide +kernel) ⟨Nat.le_of_ble_eq_true rfl, Nat.le_of_ble_eq_true rfl⟩) rfl rfl (Nat.le_of_ble_eq_true rfl) dX1_pass_41 (fun r41 μ41 h41 => ?_)
        obtain ⟨h41, rfl⟩ := h41
        rw [h41]
        exact j_iret X hr hlk ⟨by rw [Rpas, if_neg (Classical.not_not.mpr ho), if_neg (Int32.not_lt.mpr c26), ix_n (by omega)], fun _ => ⟨by rw [Npas, ix_n (by omega)]; exact h33.1.now, by rw [mb_n (by decide), h33.2, mb_n (by decide)]⟩, fun q => absurd hE q⟩ dX1_pass_44
      · skip
        have hE : ¬ Epas V (nI k) := fun q => q.2 (Int32.not_le.mp c26)
        refine j_bipush (v := (-4)) X dX1_pass_29 (by decide) ?_
        exact j_iret X hr hlk ⟨by rw [Rpas, if_neg (Classical.not_not.mpr ho), if_pos (Int32.not_le.mp c26)], fun q => absurd q hE, fun _ => rfl⟩ dX1_pass_31
    · skip
      have ho : ¬ okD dx 99 := fun q => c8 q.2
      have hE : ¬ Epas V dx := fun q => ho q.1
      refine j_bipush (v := (-2)) X dX1_pass_11 (by decide) ?_
      exact j_iret X hr hlk ⟨by rw [Rpas, if_pos ho], fun q => absurd q hE, fun _ => rfl⟩ dX1_pass_13
