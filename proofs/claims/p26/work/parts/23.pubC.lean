theorem aX1_padFault (l : Launch) (D : va_G) (ad : Nat → Nat → Nat) (cs : Nat → ClassId) (A : Nat → Prop) (z : Nat → Nat) (M : Mm) (pl : Nat) (hpl : M 10 0 7 = nI pl) (hpl60 : pl ≤ 60) : KI l D ad cs A z yX1_padFault wsX1_padFault (rm 1 20) [.ref (ad 10 0)] M (fun r μ1 => r = ftS (M 10 7) pl ∧ μ1 = M) := by
  have h := kX1_padFault l D ad cs A z M (M 10) pl hpl hpl60
  rw [mb_self] at h
  exact h
theorem aX1_padNames (l : Launch) (D : va_G) (ad : Nat → Nat → Nat) (cs : Nat → ClassId) (A : Nat → Prop) (z : Nat → Nat) (M : Mm) (pl : Nat) (hpl : M 10 0 7 = nI pl) (hpl60 : pl ≤ 60) : KI l D ad cs A z yX1_padNames wsX1_padNames (rm 1 20) [.ref (ad 10 0)] M (fun r μ1 => r = nI (dgn (M 10 7) pl) ∧ μ1 = M) := by
  have h := kX1_padNames l D ad cs A z M (M 10) pl hpl hpl60
  rw [mb_self] at h
  exact h


set_option maxHeartbeats 4000000 in
set_option maxRecDepth 100000 in
theorem kX1_save (l : Launch) (D : va_G) (ad : Nat → Nat → Nat) (cs : Nat → ClassId) (A : Nat → Prop) (z : Nat → Nat) (μ : Mm) (V : CV) (h : Nat) (hc : Nat → CV) (s0 s1 : CV) (u : Nat → Int32) (pl : Nat) (pd : Nat → Int32) (hG : GS μ V h hc s0 s1 u pl pd) (hbo : isBo (V 0 14)) (sx : Int32) : KI l D ad cs A z yX1_save wsX1_save (rm 3 82) [.ref (ad 10 0), .int sx] μ (fun r μ1 => (¬ (0 ≤ sx ∧ sx < nI 2) ∧ r = -2 ∧ μ1 = μ) ∨ ∃ k, k < 2 ∧ sx = nI k ∧ r = V 0 1 ∧ GS μ1 V h hc (if k = 0 then V else s0) (if k = 1 then V else s1) (upd u k (nI 1)) pl pd ∧ μ1 11 = μ 11) := by
  refine KI_of (cc := cX1_save) (maxL := 2) (ret := (some .int)) (by decide) rfl (Nat.le_of_ble_eq_true rfl) ?_
  intro p e s m args below meth c hr hlk X
  show J p l e _ s m args below meth c 0 0 _ 2 D ad cs A 0 [(0, .ref (ad 10 0)), (1, .int sx)] [] μ
  have hinX0 : ∀ w ∈ wsX00, w ∈ wsX1_save := by decide +kernel
  have hinX1 : ∀ w ∈ wsX10, w ∈ wsX1_save := by decide +kernel
  have k10 : (Cond.fieldLink RX1 10 "PunCourts" "now" "LPunCourts$Court;").before args s = true := X.1.2.2.2.2 _ (by decide +kernel)
  have k23 : (Cond.fieldLink RX1 23 "PunCourts" "slots" "[LPunCourts$Court;").before args s = true := X.1.2.2.2.2 _ (by decide +kernel)
  have k26 : (Cond.fieldLink RX1 26 "PunCourts" "slotUsed" "[Z").before args s = true := X.1.2.2.2.2 _ (by decide +kernel)
  have k110 : (Cond.fieldLink RX1 110 "PunCourts$Court" "days" "I").before args s = true := X.1.2.2.2.2 _ (by decide +kernel)
  refine j_iload_n (q := 1) X dX1_save_0 rfl rfl ?_
  refine j_callSi (As := [.int sx]) X (aX1_isSlot l D ad cs A z (μ) sx) (va_cwS 1 X.1.2.2.2.2 gX1_save_X1_isSlot rfl rfl rfl (by decide +kernel) ⟨Nat.le_of_ble_eq_true rfl, Nat.le_of_ble_eq_true rfl⟩) rfl rfl (Nat.le_of_ble_eq_true rfl) dX1_save_1 (fun r1 μ1 h1 => ?_)
  obtain ⟨h1, e1⟩ := h1
  have e1 := e1.symm
  subst e1
  refine j_if_ne (tgt := 10) X dX1_save_4 (by decide) (fun c4 => ?_) (fun c4 => ?_)
  · skip
    have hsx := h1.nt c4
    have hsx0 := hsx
    obtain ⟨k, hk, rfl⟩ := in_n hsx.1 hsx.2 (by decide)
    refine j_aload_n (q := 0) X dX1_save_10 rfl rfl ?_
    refine j_getM X oM hinX1 0 (by decide) rfl k10 dX1_save_11 ?_
    refine j_aload_n (q := 0) X dX1_save_14 rfl rfl ?_
    refine j_getM X oM hinX1 4 (by decide) rfl k23 dX1_save_15 ?_
    refine j_iload_n (q := 1) X dX1_save_18 rfl rfl ?_
    refine j_aald X qM_5 k rfl (by omega) (by decide) (8 + k) (by rcases (show k = 0 ∨ k = 1 by omega) with rfl | rfl; exact hG.2.2.2.2.2.2.2.1; exact hG.2.2.2.2.2.2.2.2) (by omega) dX1_save_19 ?_
    refine j_eq (mb_self (μ := μ) (b := 8 + k)).symm ?_
    refine j_callSv (As := [.ref (ad 0 0), .ref (ad (8 + k) 0)]) X (kX1_copy l D ad cs A z (b0 := 0) (b1 := 8 + k) (by decide) (by omega) (by omega) μ (μ (8 + k)) (by rw [hG.1]; exact hbo)) (va_cwS 2 X.1.2.2.2.2 gX1_save_X1_copy rfl rfl rfl (by decide +kernel) ⟨Nat.le_of_ble_eq_true rfl, Nat.le_of_ble_eq_true rfl⟩) rfl rfl (Nat.le_of_ble_eq_true rfl) dX1_save_20 (fun μ20 h20 => ?_)
    subst h20
    rw [hG.1]
    refine j_aload_n (q := 0) X dX1_save_23 rfl rfl ?_
    refine j_getM X oM hinX1 5 (by decide) rfl k26 dX1_save_24 ?_
    refine j_iload_n (q := 1) X dX1_save_27 rfl rfl ?_
    refine j_iconst (v := (nI 1)) X dX1_save_28 (by decide) ?_
    refine j_zast X aM_6 k rfl (by omega) (by decide) (Or.inr rfl) (by decide) dX1_save_29 ?_
    refine j_aload_n (q := 0) X dX1_save_30 rfl rfl ?_
    refine j_getM X oM hinX1 0 (by decide) rfl k10 dX1_save_31 ?_
    refine j_getC X (oC (by decide)) hinX0 1 (by decide) rfl k110 dX1_save_34 ?_
    exact j_iret X hr hlk (Or.inr ⟨k, hk, rfl, by rw [ms_mb, mb_n (by decide), mb_n (by omega), hG.1], hG.sav k hk, by rw [ms_mb, mb_n (by decide), mb_n (by omega)]⟩) dX1_save_37
  · skip
    have hE := h1.nf c4
    refine j_bipush (v := (-2)) X dX1_save_7 (by decide) ?_
    exact j_iret X hr hlk (Or.inl ⟨hE, rfl, rfl⟩) dX1_save_9
set_option maxHeartbeats 4000000 in
set_option maxRecDepth 100000 in
theorem kX1_restore (l : Launch) (D : va_G) (ad : Nat → Nat → Nat) (cs : Nat → ClassId) (A : Nat → Prop) (z : Nat → Nat) (μ : Mm) (V : CV) (h : Nat) (hc : Nat → CV) (s0 s1 : CV) (u : Nat → Int32) (pl : Nat) (pd : Nat → Int32) (hG : GS μ V h hc s0 s1 u pl pd) (hbo : isBo (V 0 14)) (hb0 : isBo (s0 0 14)) (hb1 : isBo (s1 0 14)) (sx : Int32) : KI l D ad cs A z yX1_restore wsX1_restore (rm 4 104) [.ref (ad 10 0), .int sx] μ (fun r μ1 => (¬ (0 ≤ sx ∧ sx < nI 2) ∧ r = -2 ∧ μ1 = μ) ∨ ∃ k, k < 2 ∧ sx = nI k ∧ ((u k = 0 ∧ r = -5 ∧ μ1 = μ) ∨ (u k ≠ 0 ∧ r = (if k = 0 then s0 else s1) 0 1 ∧ GS μ1 (if k = 0 then s0 else s1) (rech h) (recH hc h V) s0 s1 u pl pd ∧ μ1 11 = μ 11))) := by
  refine KI_of (cc := cX1_restore) (maxL := 2) (ret := (some .int)) (by decide) rfl (Nat.le_of_ble_eq_true rfl) ?_
  intro p e s m args below meth c hr hlk X
  show J p l e _ s m args below meth c 0 0 _ 2 D ad cs A 0 [(0, .ref (ad 10 0)), (1, .int sx)] [] μ
  have hinX0 : ∀ w ∈ wsX00, w ∈ wsX1_restore := by decide +kernel
  have hinX1 : ∀ w ∈ wsX10, w ∈ wsX1_restore := by decide +kernel
  have k26 : (Cond.fieldLink RX1 26 "PunCourts" "slotUsed" "[Z").before args s = true := X.1.2.2.2.2 _ (by decide +kernel)
  have k23 : (Cond.fieldLink RX1 23 "PunCourts" "slots" "[LPunCourts$Court;").before args s = true := X.1.2.2.2.2 _ (by decide +kernel)
  have k10 : (Cond.fieldLink RX1 10 "PunCourts" "now" "LPunCourts$Court;").before args s = true := X.1.2.2.2.2 _ (by decide +kernel)
  have k110 : (Cond.fieldLink RX1 110 "PunCourts$Court" "days" "I").before args s = true := X.1.2.2.2.2 _ (by decide +kernel)
  refine j_iload_n (q := 1) X dX1_restore_0 rfl rfl ?_
  refine j_callSi (As := [.int sx]) X (aX1_isSlot l D ad cs A z (μ) sx) (va_cwS 1 X.1.2.2.2.2 gX1_restore_X1_isSlot rfl rfl rfl (by decide +kernel) ⟨Nat.le_of_ble_eq_true rfl, Nat.le_of_ble_eq_true rfl⟩) rfl rfl (Nat.le_of_ble_eq_true rfl) dX1_restore_1 (fun r1 μ1 h1 => ?_)
  obtain ⟨h1, e1⟩ := h1
  have e1 := e1.symm
  subst e1
  refine j_if_ne (tgt := 10) X dX1_restore_4 (by decide) (fun c4 => ?_) (fun c4 => ?_)
  · skip
    have hsx := h1.nt c4
    have hsx0 := hsx
    obtain ⟨k, hk, rfl⟩ := in_n hsx.1 hsx.2 (by decide)
    refine j_aload_n (q := 0) X dX1_restore_10 rfl rfl ?_
    refine j_getM X oM hinX1 5 (by decide) rfl k26 dX1_restore_11 ?_
    refine j_iload_n (q := 1) X dX1_restore_14 rfl rfl ?_
    refine j_zald (v := (μ) 10 6 k) X aM_6 k rfl (by omega) (by decide) rfl dX1_restore_15 ?_
    rw [hG.2.2.2.2.1]
    refine j_if_ne (tgt := 22) X dX1_restore_16 (by decide) (fun c16 => ?_) (fun c16 => ?_)
    · skip
      refine j_aload_n (q := 0) X dX1_restore_22 rfl rfl ?_
      refine j_callVv (As := []) X (kX1_record l D ad cs A z μ V h hc s0 s1 u pl pd hG hbo) oM rfl (cwV 0 X.1.2.2.2.2 gX1_restore_X1_record rfl rfl rfl (by decide +kernel) ⟨Nat.le_of_ble_eq_true rfl, Nat.le_of_ble_eq_true rfl⟩) rfl rfl (Nat.le_of_ble_eq_true rfl) dX1_restore_23 (fun μ23 h23 => ?_)
      refine j_aload_n (q := 0) X dX1_restore_26 rfl rfl ?_
      refine j_getM X oM hinX1 4 (by decide) rfl k23 dX1_restore_27 ?_
      refine j_iload_n (q := 1) X dX1_restore_30 rfl rfl ?_
      refine j_aald X qM_5 k rfl (by omega) (by decide) (8 + k) (by rcases (show k = 0 ∨ k = 1 by omega) with rfl | rfl; exact h23.1.2.2.2.2.2.2.2.1; exact h23.1.2.2.2.2.2.2.2.2) (by omega) dX1_restore_31 ?_
      refine j_aload_n (q := 0) X dX1_restore_32 rfl rfl ?_
      refine j_getM X oM hinX1 0 (by decide) rfl k10 dX1_restore_33 ?_
      refine j_eq (mb_self (μ := μ23) (b := 0)).symm ?_
      refine j_callSv (As := [.ref (ad (8 + k) 0), .ref (ad 0 0)]) X (kX1_copy l D ad cs A z (b0 := 8 + k) (b1 := 0) (by omega) (by decide) (by omega) μ23 (μ23 0) (by rcases (show k = 0 ∨ k = 1 by omega) with rfl | rfl; (rw [h23.1.2.2.1]; exact hb0); (rw [h23.1.2.2.2.1]; exact hb1))) (va_cwS 2 X.1.2.2.2.2 gX1_restore_X1_copy rfl rfl rfl (by decide +kernel) ⟨Nat.le_of_ble_eq_true rfl, Nat.le_of_ble_eq_true rfl⟩) rfl rfl (Nat.le_of_ble_eq_true rfl) dX1_restore_36 (fun μ36 h36 => ?_)
      have hsk : μ23 (8 + k) = (if k = 0 then s0 else s1) := by rcases (show k = 0 ∨ k = 1 by omega) with rfl | rfl; (rw [if_pos rfl]; exact h23.1.2.2.1); (rw [if_neg (by decide)]; exact h23.1.2.2.2.1)
      rw [hsk] at h36
      refine j_aload_n (q := 0) X dX1_restore_39 rfl rfl ?_
      refine j_getM X oM hinX1 0 (by decide) rfl k10 dX1_restore_40 ?_
      refine j_getC X (oC (by decide)) hinX0 1 (by decide) rfl k110 dX1_restore_43 ?_
      exact j_iret X hr hlk (Or.inr ⟨k, hk, rfl, Or.inr ⟨c16, by rw [h36, mb_s], by rw [h36]; exact h23.1.now, by rw [h36, mb_n (by decide)]; exact h23.2⟩⟩) dX1_restore_46
    · skip
      refine j_bipush (v := (-5)) X dX1_restore_19 (by decide) ?_
      exact j_iret X hr hlk (Or.inr ⟨k, hk, rfl, Or.inl ⟨Classical.not_not.mp c16, rfl, rfl⟩⟩) dX1_restore_21
  · skip
    have hE := h1.nf c4
    refine j_bipush (v := (-2)) X dX1_restore_7 (by decide) ?_
    exact j_iret X hr hlk (Or.inl ⟨hE, rfl, rfl⟩) dX1_restore_9
set_option maxHeartbeats 4000000 in
set_option maxRecDepth 100000 in
theorem kX1_read (l : Launch) (D : va_G) (ad : Nat → Nat → Nat) (cs : Nat → ClassId) (A : Nat → Prop) (z : Nat → Nat) (μ : Mm) (V : CV) (h : Nat) (hc : Nat → CV) (s0 s1 : CV) (u : Nat → Int32) (pl : Nat) (pd : Nat → Int32) (hG : GS (mb μ 0 V) V h hc s0 s1 u pl pd) (N : Nat) (hci : CI V N) (hpl60 : pl ≤ 60) : KI l D ad cs A z yX1_read wsX1_read (rm 4 104) [.ref (ad 10 0)] (mb μ 0 V) (fun r μ1 => r = Rrea N pd pl ∧ (Erea N pd pl → GS μ1 (rdW V pd N pl) (rech h) (recH hc h V) s0 s1 u 0 pd ∧ μ1 11 = μ 11) ∧ (¬ Erea N pd pl → μ1 = mb μ 0 V)) := by
  refine KI_of (cc := cX1_read) (maxL := 3) (ret := (some .int)) (by decide) rfl (Nat.le_of_ble_eq_true rfl) ?_
  intro p e s m args below meth c hr hlk X
  show J p l e _ s m args below meth c 0 0 _ 3 D ad cs A 0 [(0, .ref (ad 10 0))] [] (mb μ 0 V)
  have hinX0 : ∀ w ∈ wsX00, w ∈ wsX1_read := by decide +kernel
  have hinX1 : ∀ w ∈ wsX10, w ∈ wsX1_read := by decide +kernel
  have k10 : (Cond.fieldLink RX1 10 "PunCourts" "now" "LPunCourts$Court;").before args s = true := X.1.2.2.2.2 _ (by decide +kernel)
  have k51 : (Cond.fieldLink RX1 51 "PunCourts$Court" "names" "I").before args s = true := X.1.2.2.2.2 _ (by decide +kernel)
  have k58 : (Cond.fieldLink RX1 58 "PunCourts" "padLength" "I").before args s = true := X.1.2.2.2.2 _ (by decide +kernel)
  have k30 : (Cond.fieldLink RX1 30 "PunCourts" "pad" "[C").before args s = true := X.1.2.2.2.2 _ (by decide +kernel)
  have hN := hci.1.1
  have hN20 := hci.1.2.1
  have hbo := hci.1.2.2
  have k10 : (Cond.fieldLink RX1 10 "PunCourts" "now" "LPunCourts$Court;").before args s = true := X.1.2.2.2.2 _ (by decide +kernel)
  refine j_aload_n (q := 0) X dX1_read_0 rfl rfl ?_
  refine j_callVi (As := []) X (aX1_padFault l D ad cs A z (mb μ 0 V) pl hG.2.2.2.2.2.1 hpl60) oM rfl (cwV 0 X.1.2.2.2.2 gX1_read_X1_padFault rfl rfl rfl (by decide +kernel) ⟨Nat.le_of_ble_eq_true rfl, Nat.le_of_ble_eq_true rfl⟩) rfl rfl (Nat.le_of_ble_eq_true rfl) dX1_read_1 (fun r1 μ1 h1 => ?_)
  obtain ⟨h1, rfl⟩ := h1
  rw [hG.2.2.2.2.2.2.1] at h1
  rw [h1]
  refine j_bipush (v := (-6)) X dX1_read_4 (by decide) ?_
  refine j_icmp_eq (tgt := 12) X dX1_read_6 (by decide) (fun c6 => ?_) (fun c6 => ?_)
  · skip
    have htx := ft_ok hpl60 c6
    refine j_aload_n (q := 0) X dX1_read_12 rfl rfl ?_
    refine j_getM (v := .ref (ad 0 0)) X oM hinX1 0 (by decide) rfl k10 dX1_read_13 ?_
    refine j_getCB X (oC (by decide)) hinX0 2 (by decide) rfl k51 dX1_read_16 ?_
    rw [hN]
    refine j_aload_n (q := 0) X dX1_read_19 rfl rfl ?_
    refine j_callVi (As := []) X (aX1_padNames l D ad cs A z (mb μ 0 V) pl hG.2.2.2.2.2.1 hpl60) oM rfl (cwV 0 X.1.2.2.2.2 gX1_read_X1_padNames rfl rfl rfl (by decide +kernel) ⟨Nat.le_of_ble_eq_true rfl, Nat.le_of_ble_eq_true rfl⟩) rfl rfl (Nat.le_of_ble_eq_true rfl) dX1_read_20 (fun r20 μ20 h20 => ?_)
    obtain ⟨h20, rfl⟩ := h20
    rw [hG.2.2.2.2.2.2.1] at h20
    rw [h20]
    have hdl := dgn_le pd pl
    refine j_iadd (v := (nI (N + (dgn pd pl)))) X dX1_read_23 (nI_add _ _) ?_
    refine j_bipush (v := (nI 20)) X dX1_read_24 (by decide) ?_
    refine j_ncmp_le (tgt := 32) X (N + (dgn pd pl)) 20 dX1_read_26 (by decide) rfl rfl (by omega) (by omega) (fun c26 => ?_) (fun c26 => ?_)
    · skip
      have hE : Erea N pd pl := ⟨c6, c26⟩
      refine j_aload_n (q := 0) X dX1_read_32 rfl rfl ?_
      refine j_callVv (As := []) X (kX1_record l D ad cs A z (mb μ 0 V) V h hc s0 s1 u pl pd hG hbo) oM rfl (cwV 0 X.1.2.2.2.2 gX1_read_X1_record rfl rfl rfl (by decide +kernel) ⟨Nat.le_of_ble_eq_true rfl, Nat.le_of_ble_eq_true rfl⟩) rfl rfl (Nat.le_of_ble_eq_true rfl) dX1_read_33 (fun μ33 h33 => ?_)
      refine j_eq h33.1.eqb ?_
      refine j_iconst (v := (nI 0)) X dX1_read_36 (by decide) ?_
      refine j_istore_n (lv' := [(1, .int (nI 0)), (0, .ref (ad 10 0))]) X dX1_read_37 rfl (by decide) rfl ?_
      refine j_iconst (v := (nI 0)) X dX1_read_38 (by decide) ?_
      refine j_istore_n (lv' := [(2, .int (nI 0)), (1, .int (nI 0)), (0, .ref (ad 10 0))]) X dX1_read_39 rfl (by decide) rfl ?_
      refine jl2 (G := J p l e _ s m args below meth c 0 0 _ _ D ad cs A) (pc := 40) (fun (i : Nat) (W : CV) => [(2, .int (nI i)), (1, .int (nI (rst pd i))), (0, .ref (ad 10 0))]) (fun (i : Nat) (W : CV) => (mb μ33 0 W)) (fun (i : Nat) (W : CV) => i ≤ pl ∧ W = rdW V pd N i) (fun (i : Nat) (W : CV) => pl - i) ?_ 0 V ⟨by omega, rfl⟩
      intro i W hI40 ih40
      try dsimp only at ih40 ⊢
      obtain ⟨hi, hW⟩ := hI40
      have hWN : W 0 2 = nI (N + dgn pd i) := by rw [hW]; exact rdW_N hN i
      have hrl := rst_ltn (f := pd) i (fun t ht => htx.1 t (by omega))
      have hdm := dgn_mono pd pl hi
      refine j_iload_n (q := 0) X dX1_read_40 rfl rfl ?_
      refine j_aload_n (q := 2) X dX1_read_41 rfl rfl ?_
      refine j_getM (v := .int (μ33 10 0 7)) X oM hinX1 7 (by decide) (by rw [mb_n (by omega)]; rfl) k58 dX1_read_42 ?_
      rw [h33.1.2.2.2.2.2.1]
      refine j_ncmp_ge (tgt := 94) X i pl dX1_read_45 (by decide) rfl rfl (by omega) (by omega) (fun c45 => ?_) (fun c45 => ?_)
      · skip
        refine j_aload_n (q := 2) X dX1_read_94 rfl rfl ?_
        refine j_iconst (v := (nI 0)) X dX1_read_95 (by decide) ?_
        refine j_putM (ty := .int) X oM hinX1 7 (by decide) (fun _ => rfl) rfl rfl rfl rfl (Nat.le_of_ble_eq_true rfl) k58 dX1_read_96 ?_
        have hF := (h33.1.now (V1 := W)).pad0
        have hWN : ms (mb μ33 0 W) 10 0 7 (nI 0) 0 0 2 = nI (N + dgn pd pl) := by rw [hF.1, hW, show i = pl by omega]; exact rdW_N hN pl
        refine j_aload_n (q := 2) X dX1_read_99 rfl rfl ?_
        refine j_getM (v := .ref (ad 0 0)) X oM hinX1 0 (by decide) rfl k10 dX1_read_100 ?_
        refine j_getC (v := .int (nI (N + dgn pd pl))) X (oC (by decide)) hinX0 2 (by decide) (by rw [← hWN]; rfl) k51 dX1_read_103 ?_
        have eW : W = rdW V pd N pl := by rw [hW, show i = pl by omega]
        exact j_iret X hr hlk ⟨by rw [Rrea, if_neg (Classical.not_not.mpr hE.1), if_neg (by omega)], fun _ => ⟨by rw [← eW]; exact hF, by rw [ms_mb, mb_n (by decide), mb_n (by decide), h33.2, mb_n (by decide)]⟩, fun q => absurd hE q⟩ dX1_read_106
      · skip
        refine j_aload_n (q := 2) X dX1_read_48 rfl rfl ?_
        refine j_getM (v := .ref (ad 10 7)) X oM hinX1 6 (by decide) rfl k30 dX1_read_49 ?_
        refine j_iload_n (q := 0) X dX1_read_52 rfl rfl ?_
        refine j_cald (v := μ33 10 7 i) X aM_7 i rfl (by omega) (by decide) (by rw [mb_n (by omega)]) dX1_read_53 ?_
        rw [h33.1.2.2.2.2.2.2.1]
        refine j_callSi (As := [.int (pd i)]) X (aX1_isDigit l D ad cs A z (mb μ33 0 W) (pd i)) (va_cwS 1 X.1.2.2.2.2 gX1_read_X1_isDigit rfl rfl rfl (by decide +kernel) ⟨Nat.le_of_ble_eq_true rfl, Nat.le_of_ble_eq_true rfl⟩) rfl rfl (Nat.le_of_ble_eq_true rfl) dX1_read_54 (fun r54 μ54 h54 => ?_)
        obtain ⟨h54, rfl⟩ := h54
        refine j_if_eq (tgt := 88) X dX1_read_57 (by decide) (fun c57 => ?_) (fun c57 => ?_)
        · skip
          have hd := h54.f c57
          have hrs : rst pd (i + 1) = rst pd i := by rw [rst, if_neg hd]
          refine j_iinc (q := 0) (v := (nI (i + 1))) (lv' := [(2, .int (nI (i + 1))), (1, .int (nI (rst pd i))), (0, .ref (ad 10 0))]) X dX1_read_88 rfl (nI_1 _) (by decide) rfl ?_
          refine j_goto (tgt := 40) X dX1_read_91 (by decide) ?_
          refine j_lvq (lv1 := [(2, .int (nI (i + 1))), (1, .int (nI (rst pd (i + 1)))), (0, .ref (ad 10 0))]) (by rw [hrs]) ?_
          exact ih40 (i + 1) W ⟨by omega, by rw [rdW, ← hW]; first | exact (if_pos hd).symm | exact (if_neg hd).symm⟩ (by omega)
        · skip
          have hd := h54.t c57
          have hrs : rst pd (i + 1) = i + 1 := by rw [rst, if_pos hd]
          have hdi : dgn pd (i + 1) = dgn pd i + 1 := by rw [dgn, if_pos hd]
          have hdm2 := dgn_mono pd (i := i + 1) pl (by omega)
          refine j_aload_n (q := 2) X dX1_read_60 rfl rfl ?_
          refine j_getM (v := .ref (ad 0 0)) X oM hinX1 0 (by decide) rfl k10 dX1_read_61 ?_
          refine j_aload_n (q := 2) X dX1_read_64 rfl rfl ?_
          refine j_getM (v := .ref (ad 10 7)) X oM hinX1 6 (by decide) rfl k30 dX1_read_65 ?_
          refine j_iload_n (q := 1) X dX1_read_68 rfl rfl ?_
          refine j_iload_n (q := 0) X dX1_read_69 rfl rfl ?_
          refine j_iload_n (q := 1) X dX1_read_70 rfl rfl ?_
          refine j_isub (v := (nI (i - (rst pd i)))) X dX1_read_71 (pk_sub (by omega)) ?_
          refine j_aload_n (q := 2) X dX1_read_72 rfl rfl ?_
          refine j_getM (v := .ref (ad 10 7)) X oM hinX1 6 (by decide) rfl k30 dX1_read_73 ?_
          refine j_iload_n (q := 0) X dX1_read_76 rfl rfl ?_
          refine j_cald (v := μ33 10 7 i) X aM_7 i rfl (by omega) (by decide) (by rw [mb_n (by omega)]) dX1_read_77 ?_
          rw [h33.1.2.2.2.2.2.2.1]
          refine j_bipush (v := (nI 48)) X dX1_read_78 (by decide) ?_
          refine j_isub (v := ((pd i) - (nI 48))) X dX1_read_80 rfl ?_
          refine j_callVv (As := [.ref (ad 10 7), .int (nI (rst pd i)), .int (nI (i - (rst pd i))), .int ((pd i) - (nI 48))]) X (kX0_apply l D ad cs A z (b := 0) (by decide) μ33 W (N + dgn pd i) hWN (by omega) (rst pd i) (i - rst pd i) (by omega) (by omega) (pd i - nI 48)) (oC (by decide)) rfl (cwV 4 X.1.2.2.2.2 gX1_read_X0_apply rfl rfl rfl (by decide +kernel) ⟨Nat.le_of_ble_eq_true rfl, Nat.le_of_ble_eq_true rfl⟩) rfl rfl (Nat.le_of_ble_eq_true rfl) dX1_read_81 (fun μ81 h81 => ?_)
          rw [h33.1.2.2.2.2.2.2.1] at h81
          subst h81
          refine j_iload_n (q := 0) X dX1_read_84 rfl rfl ?_
          refine j_iconst (v := (nI 1)) X dX1_read_85 (by decide) ?_
          refine j_iadd (v := (nI (i + 1))) X dX1_read_86 (nI_add _ _) ?_
          refine j_istore_n (lv' := [(1, .int (nI (i + 1))), (2, .int (nI i)), (0, .ref (ad 10 0))]) X dX1_read_87 rfl (by decide) rfl ?_
          refine j_iinc (q := 1) (v := (nI (i + 1))) (lv' := [(2, .int (nI (i + 1))), (1, .int (nI (i + 1))), (0, .ref (ad 10 0))]) X dX1_read_88 rfl (nI_1 _) (by decide) rfl ?_
          refine j_goto (tgt := 40) X dX1_read_91 (by decide) ?_
          refine j_lvq (lv1 := [(2, .int (nI (i + 1))), (1, .int (nI (rst pd (i + 1)))), (0, .ref (ad 10 0))]) (by rw [hrs]) ?_
          exact ih40 (i + 1) (apS W pd (N + dgn pd i) (rst pd i) (i - rst pd i) (pd i - nI 48)) ⟨by omega, by rw [rdW, ← hW]; first | exact (if_pos hd).symm | exact (if_neg hd).symm⟩ (by omega)
    · skip
      have hE : ¬ Erea N pd pl := fun q => c26 q.2
      refine j_bipush (v := (-4)) X dX1_read_29 (by decide) ?_
      exact j_iret X hr hlk ⟨by rw [Rrea, if_neg (Classical.not_not.mpr c6), if_pos (by omega)], fun q => absurd q hE, fun _ => rfl⟩ dX1_read_31
  · skip
    have hE : ¬ Erea N pd pl := fun q => c6 q.1
    refine j_bipush (v := (-3)) X dX1_read_9 (by decide) ?_
    exact j_iret X hr hlk ⟨by rw [Rrea, if_pos c6], fun q => absurd q hE, fun _ => rfl⟩ dX1_read_11
