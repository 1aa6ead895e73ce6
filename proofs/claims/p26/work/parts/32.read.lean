set_option maxHeartbeats 4000000 in
set_option maxRecDepth 100000 in
theorem kL_isRead (l : Launch) (D : va_G) (ad bd : Nat → Nat → Nat) (cs : Nat → ClassId) (A B : Nat → Prop) (z : Nat → Nat) (K : KS) (Po Pp : PS) (x y : Int32) (t : Nat) (hwk : WK K t) : KP l D ad bd cs A B z yL_isRead wsL_isRead (rm 5 126) [.ref (ad 10 0), .ref (bd 10 0), .int x, .int y] ((K, Po), (K, Pp)) (fun r μ1 => r = 1 ∧ ∃ (K1 : KS) (P1 P2 : PS), μ1 = ((K1, P1), (K1, P2)) ∧ WK K1 (t + 1)) := by
  refine KP_of (cc := cL_isRead) (maxL := 13) (ret := (some .boolean)) (by decide) rfl (Nat.le_of_ble_eq_true rfl) ?_
  intro p e s m args below meth c hr hlk X
  show P2 p l e _ s m args below meth c 0 0 _ 13 D ad bd cs A B 0 [(0, .ref (ad 10 0)), (1, .ref (bd 10 0)), (2, .int x), (3, .int y)] [] ((K, Po), (K, Pp))
  refine p_ok (fun hoo hpp => ?_)
  have hcz : CZ K.1.1 K.1.2 := hoo.1.1
  have hPo : Po.1 ≤ 60 := hoo.2
  have hPp : Pp.1 ≤ 60 := hpp.2
  have hN20 := hcz.le
  refine p_aload_n (q := 0) X dL_isRead_0 rfl rfl ?_
  refine p_o (As := []) X (q_wipe l z K Po) (cwV 0 X.1.2.2.2.2 gL_isRead_X1_wipe rfl rfl rfl (by decide +kernel) ⟨Nat.le_of_ble_eq_true rfl, Nat.le_of_ble_eq_true rfl⟩) rfl rfl (Nat.le_of_ble_eq_true rfl) dL_isRead_1 ?_
  refine p_if_lt (tgt := 11) X dL_isRead_4 (by decide) (fun c4 => absurd c4 (nI_pos (by omega))) (fun c4 => ?_)
  refine p_iconst (v := (nI 1)) X dL_isRead_7 (by decide) ?_
  refine p_goto (tgt := 12) X dL_isRead_8 (by decide) ?_
  refine p_istore (lv' := [(4, .int (nI 1)), (0, .ref (ad 10 0)), (1, .ref (bd 10 0)), (2, .int x), (3, .int y)]) X dL_isRead_12 (by decide) rfl ?_
  refine p_aload_n (q := 1) X dL_isRead_14 rfl rfl ?_
  refine p_iconst (v := (nI 5)) X dL_isRead_15 (by decide) ?_
  refine p_o (As := [.int (nI 5)]) X (q_count l z K ((0, Po.2) : PS) 5 (by decide)) (cwV 1 X.1.2.2.2.2 gL_isRead_X1_count rfl rfl rfl (by decide +kernel) ⟨Nat.le_of_ble_eq_true rfl, Nat.le_of_ble_eq_true rfl⟩) rfl rfl (Nat.le_of_ble_eq_true rfl) dL_isRead_16 ?_
  rw [R_cnt5]
  refine p_istore (lv' := [(5, .int (nI K.1.2)), (4, .int (nI 1)), (0, .ref (ad 10 0)), (1, .ref (bd 10 0)), (2, .int x), (3, .int y)]) X dL_isRead_19 (by decide) rfl ?_
  refine p_iconst (v := (nI 1)) X dL_isRead_21 (by decide) ?_
  refine p_iload_n (q := 4) X dL_isRead_22 rfl rfl ?_
  refine p_iconst (v := (nI 3)) X dL_isRead_23 (by decide) ?_
  refine p_callS (As := [.int x, .int (nI 3)]) X (kL_up l D ad bd cs A B z x 3 (by omega) (by omega) ((K, ((0, Po.2) : PS)), (K, Pp))) (va_cwS 2 X.1.2.2.2.2 gL_isRead_L_up rfl rfl rfl (by decide +kernel) ⟨Nat.le_of_ble_eq_true rfl, Nat.le_of_ble_eq_true rfl⟩) rfl rfl (Nat.le_of_ble_eq_true rfl) dL_isRead_24 (fun r24 m24 h24 => ?_)
  obtain ⟨h24, e24⟩ := h24
  have e24 := e24.symm
  subst e24
  subst h24
  have hu24 := uq_lt x (n := 3) (by omega)
  refine p_iadd (v := (nI (1 + (uq x 3)))) X dL_isRead_27 (nI_add _ _) ?_
  refine p_istore (lv' := [(6, .int (nI (1 + (uq x 3)))), (5, .int (nI K.1.2)), (4, .int (nI 1)), (0, .ref (ad 10 0)), (1, .ref (bd 10 0)), (2, .int x), (3, .int y)]) X dL_isRead_28 (by decide) rfl ?_
  refine p_iload (q := 1) X dL_isRead_30 rfl ?_
  refine p_iload (q := 0) X dL_isRead_32 rfl ?_
  refine p_iadd (v := (nI (K.1.2 + (1 + (uq x 3))))) X dL_isRead_34 (nI_add _ _) ?_
  refine p_bipush (v := (nI 20)) X dL_isRead_35 (by decide) ?_
  refine p_ncmp_le (tgt := 62) X (K.1.2 + (1 + (uq x 3))) 20 dL_isRead_37 (by decide) rfl rfl (by omega) (by omega) (fun c37 => ?_) (fun c37 => ?_)
  · skip
    refine p_iconst (v := (nI 0)) X dL_isRead_62 (by decide) ?_
    refine p_istore (lv' := [(7, .int (nI 0)), (6, .int (nI (1 + (uq x 3)))), (5, .int (nI K.1.2)), (4, .int (nI 1)), (0, .ref (ad 10 0)), (1, .ref (bd 10 0)), (2, .int x), (3, .int y)]) X dL_isRead_63 (by decide) rfl ?_
    refine p_eq (μ1 := ((K, ((0, Po.2) : PS)), (RK K ((0, Po.2) : PS) 0, Pp))) rfl ?_
    refine p_lv (lv1 := [(7, .int (nI 0)), (0, .ref (ad 10 0)), (1, .ref (bd 10 0)), (2, .int x), (3, .int y), (4, .int (nI 1)), (5, .int (nI K.1.2)), (6, .int (nI (1 + (uq x 3))))]) [0, 4, 5, 6, 7, 3, 2, 1] rfl ?_
    refine loop3 (G := P2 p l e _ s m args below meth c 0 0 _ _ D ad bd cs A B) (pc := 65) (fun (k : Nat) (Q : PS) (Qp : PS) => [(7, .int (nI k)), (0, .ref (ad 10 0)), (1, .ref (bd 10 0)), (2, .int x), (3, .int y), (4, .int (nI 1)), (5, .int (nI K.1.2)), (6, .int (nI (1 + (uq x 3))))]) (fun (k : Nat) (Q : PS) (Qp : PS) => ((K, Q), (RK K Q k, Qp))) (fun (k : Nat) (Q : PS) (Qp : PS) => k ≤ 1 + uq x 3 ∧ NM Q.2 Q.1 k ∧ Qp.1 ≤ 60) (fun (k : Nat) (Q : PS) (Qp : PS) => 1 + uq x 3 - k) ?_ 0 ((0, Po.2) : PS) Pp ⟨by omega, NM.z _, by omega⟩
    intro k Q Qp hI65 ih65
    try dsimp only at ih65 ⊢
    obtain ⟨hk1, hNM, hQp⟩ := hI65
    have hQ10 := hNM.2.2.2.2.1
    refine p_iload (q := 0) X dL_isRead_65 rfl ?_
    refine p_iload (q := 7) X dL_isRead_67 rfl ?_
    refine p_ncmp_ge (tgt := 331) X k (1 + (uq x 3)) dL_isRead_69 (by decide) rfl rfl (by omega) (by omega) (fun c69 => ?_) (fun c69 => ?_)
    · skip
      refine p_iload (q := 5) X dL_isRead_331 rfl ?_
      refine p_if_eq (tgt := 365) X dL_isRead_333 (by decide) (fun c333 => absurd c333 (by decide)) (fun c333 => ?_)
      refine p_aload_n (q := 1) X dL_isRead_336 rfl rfl ?_
      have hk : k = 1 + uq x 3 := by omega
      have hd := hNM.2.2.2.1
      have hE : gRdK K Q = RK K Q k := by rw [gRdK, RK, hd]
      refine p_o (As := []) X (q_read l z K Q (hNM.ft (by omega)) (by rw [hd]; omega)) (cwV 0 X.1.2.2.2.2 gL_isRead_X1_read rfl rfl rfl (by decide +kernel) ⟨Nat.le_of_ble_eq_true rfl, Nat.le_of_ble_eq_true rfl⟩) rfl rfl (Nat.le_of_ble_eq_true rfl) dL_isRead_337 ?_
      rw [hd, hE]
      refine p_iload (q := 6) X dL_isRead_340 rfl ?_
      refine p_iload (q := 7) X dL_isRead_342 rfl ?_
      refine p_iadd (v := (nI (K.1.2 + (1 + (uq x 3))))) X dL_isRead_344 (nI_add _ _) ?_
      refine p_ncmp_ne (tgt := 365) X (K.1.2 + k) (K.1.2 + (1 + (uq x 3))) dL_isRead_345 (by decide) rfl rfl (by omega) (by omega) (fun c345 => absurd (show K.1.2 + k = K.1.2 + (1 + (uq x 3)) by omega) c345) (fun c345 => ?_)
      refine p_aload_n (q := 1) X dL_isRead_348 rfl rfl ?_
      refine p_iconst (v := (nI 5)) X dL_isRead_349 (by decide) ?_
      refine p_o (As := [.int (nI 5)]) X (q_count l z (RK K Q k) ((0, Q.2) : PS) 5 (by decide)) (cwV 1 X.1.2.2.2.2 gL_isRead_X1_count rfl rfl rfl (by decide +kernel) ⟨Nat.le_of_ble_eq_true rfl, Nat.le_of_ble_eq_true rfl⟩) rfl rfl (Nat.le_of_ble_eq_true rfl) dL_isRead_350 ?_
      rw [R_cnt5]
      rw [show (RK K Q k).1.2 = K.1.2 + k from rfl]
      refine p_iload (q := 6) X dL_isRead_353 rfl ?_
      refine p_iload (q := 7) X dL_isRead_355 rfl ?_
      refine p_iadd (v := (nI (K.1.2 + (1 + (uq x 3))))) X dL_isRead_357 (nI_add _ _) ?_
      refine p_ncmp_ne (tgt := 365) X (K.1.2 + k) (K.1.2 + (1 + (uq x 3))) dL_isRead_358 (by decide) rfl rfl (by omega) (by omega) (fun c358 => absurd (show K.1.2 + k = K.1.2 + (1 + (uq x 3)) by omega) c358) (fun c358 => ?_)
      refine p_iconst (v := (nI 1)) X dL_isRead_361 (by decide) ?_
      refine p_goto (tgt := 366) X dL_isRead_362 (by decide) ?_
      exact p_zret X hr hlk (by first | exact Or.inl rfl | exact Or.inr rfl) ⟨rfl, RK K Q k, _, _, rfl, hwk.rd hcz hNM (by omega)⟩ dL_isRead_366
    · skip
      have hkn : k < 1 + uq x 3 := by omega
      refine p_iload_n (q := 3) X dL_isRead_72 rfl rfl ?_
      refine p_iconst (v := (nI 2)) X dL_isRead_73 (by decide) ?_
      refine p_iload (q := 0) X dL_isRead_74 rfl ?_
      refine p_imul (v := (nI (2 * k))) X dL_isRead_76 (pk_mul _ _) ?_
      refine p_ishr (v := (x >>> ((nI (2 * k)) &&& 31))) X dL_isRead_77 rfl ?_
      refine p_iload_n (q := 4) X dL_isRead_78 rfl rfl ?_
      refine p_iconst (v := (nI 3)) X dL_isRead_79 (by decide) ?_
      refine p_iload (q := 0) X dL_isRead_80 rfl ?_
      refine p_imul (v := (nI (3 * k))) X dL_isRead_82 (pk_mul _ _) ?_
      refine p_ishr (v := (y >>> ((nI (3 * k)) &&& 31))) X dL_isRead_83 rfl ?_
      refine p_ixor (v := ((x >>> ((nI (2 * k)) &&& 31)) ^^^ (y >>> ((nI (3 * k)) &&& 31)))) X dL_isRead_84 rfl ?_
      refine p_istore (lv' := [(8, .int ((x >>> ((nI (2 * k)) &&& 31)) ^^^ (y >>> ((nI (3 * k)) &&& 31)))), (7, .int (nI k)), (0, .ref (ad 10 0)), (1, .ref (bd 10 0)), (2, .int x), (3, .int y), (4, .int (nI 1)), (5, .int (nI K.1.2)), (6, .int (nI (1 + (uq x 3))))]) X dL_isRead_85 (by decide) rfl ?_
      generalize (x >>> ((nI (2 * k)) &&& 31)) ^^^ (y >>> ((nI (3 * k)) &&& 31)) = w
      refine p_join (tgt := 114) (st1 := []) (μ1 := ((K, Q), (RK K Q k, Qp))) (fun (L0 : Nat) => [(9, .int (nI L0)), (0, .ref (ad 10 0)), (1, .ref (bd 10 0)), (2, .int x), (3, .int y), (4, .int (nI 1)), (5, .int (nI K.1.2)), (6, .int (nI (1 + (uq x 3)))), (7, .int (nI k)), (8, .int w)]) (fun (L0 : Nat) => 2 ≤ L0 ∧ L0 ≤ 9) ?_ (fun tail87 => ?_)
      · skip
        intro L0 hJ87
        try dsimp only at hJ87 ⊢
        refine p_iload (q := 9) X dL_isRead_114 rfl ?_
        refine p_iconst (v := (nI 5)) X dL_isRead_116 (by decide) ?_
        refine p_ishr (v := (w >>> ((nI 5) &&& 31))) X dL_isRead_117 rfl ?_
        refine p_bipush (v := (nI 10)) X dL_isRead_118 (by decide) ?_
        refine p_callS (As := [.int (w >>> ((nI 5) &&& 31)), .int (nI 10)]) X (kL_up l D ad bd cs A B z (w >>> ((nI 5) &&& 31)) 10 (by omega) (by omega) ((K, Q), (RK K Q k, Qp))) (va_cwS 2 X.1.2.2.2.2 gL_isRead_L_up rfl rfl rfl (by decide +kernel) ⟨Nat.le_of_ble_eq_true rfl, Nat.le_of_ble_eq_true rfl⟩) rfl rfl (Nat.le_of_ble_eq_true rfl) dL_isRead_120 (fun r120 m120 h120 => ?_)
        obtain ⟨h120, e120⟩ := h120
        have e120 := e120.symm
        subst e120
        subst h120
        have hu120 := uq_lt (w >>> ((nI 5) &&& 31)) (n := 10) (by omega)
        refine p_istore (lv' := [(10, .int (nI (uq (w >>> ((nI 5) &&& 31)) 10))), (9, .int (nI L0)), (0, .ref (ad 10 0)), (1, .ref (bd 10 0)), (2, .int x), (3, .int y), (4, .int (nI 1)), (5, .int (nI K.1.2)), (6, .int (nI (1 + (uq x 3)))), (7, .int (nI k)), (8, .int w)]) X dL_isRead_123 (by decide) rfl ?_
        obtain ⟨hn, ehn, hn9⟩ : ∃ q, uq (w >>> ((nI 5) &&& 31)) 10 = q ∧ q ≤ 9 := ⟨_, rfl, by omega⟩
        rw [ehn]
        refine p_iload (q := 6) X dL_isRead_125 rfl ?_
        refine p_if_eq (tgt := 141) X dL_isRead_127 (by decide) (fun c127 => absurd c127 (by decide)) (fun c127 => ?_)
        refine p_aload_n (q := 3) X dL_isRead_130 rfl rfl ?_
        refine p_p (As := []) X (q_wipe l z (RK K Q k) Qp) (cwV 0 X.1.2.2.2.2 gL_isRead_X1_wipe rfl rfl rfl (by decide +kernel) ⟨Nat.le_of_ble_eq_true rfl, Nat.le_of_ble_eq_true rfl⟩) rfl rfl (Nat.le_of_ble_eq_true rfl) dL_isRead_131 ?_
        refine p_if_lt (tgt := 141) X dL_isRead_134 (by decide) (fun c134 => absurd c134 (nI_pos (by omega))) (fun c134 => ?_)
        refine p_iconst (v := (nI 1)) X dL_isRead_137 (by decide) ?_
        refine p_goto (tgt := 142) X dL_isRead_138 (by decide) ?_
        refine p_g2 (fun Q2 eQ2 => ?_)
        refine p_istore (lv' := [(4, .int (nI 1)), (10, .int (nI hn)), (9, .int (nI L0)), (0, .ref (ad 10 0)), (1, .ref (bd 10 0)), (2, .int x), (3, .int y), (5, .int (nI K.1.2)), (6, .int (nI (1 + (uq x 3)))), (7, .int (nI k)), (8, .int w)]) X dL_isRead_142 (by decide) rfl ?_
        refine p_iconst (v := (nI 0)) X dL_isRead_144 (by decide) ?_
        refine p_istore (lv' := [(11, .int (nI 0)), (4, .int (nI 1)), (10, .int (nI hn)), (9, .int (nI L0)), (0, .ref (ad 10 0)), (1, .ref (bd 10 0)), (2, .int x), (3, .int y), (5, .int (nI K.1.2)), (6, .int (nI (1 + (uq x 3)))), (7, .int (nI k)), (8, .int w)]) X dL_isRead_145 (by decide) rfl ?_
        refine p_lv (lv1 := [(11, .int (nI 0)), (0, .ref (ad 10 0)), (1, .ref (bd 10 0)), (2, .int x), (3, .int y), (4, .int (nI 1)), (5, .int (nI K.1.2)), (6, .int (nI (1 + (uq x 3)))), (7, .int (nI k)), (8, .int w), (9, .int (nI L0)), (10, .int (nI hn))]) [0, 4, 5, 6, 7, 1, 8, 9, 10, 11, 3, 2] rfl ?_
        refine loop3 (G := P2 p l e _ s m args below meth c 0 0 _ _ D ad bd cs A B) (pc := 147) (fun (j : Nat) (R : PS) (Rp : PS) => [(11, .int (nI j)), (0, .ref (ad 10 0)), (1, .ref (bd 10 0)), (2, .int x), (3, .int y), (4, .int (nI 1)), (5, .int (nI K.1.2)), (6, .int (nI (1 + (uq x 3)))), (7, .int (nI k)), (8, .int w), (9, .int (nI L0)), (10, .int (nI hn))]) (fun (j : Nat) (R : PS) (Rp : PS) => ((K, R), (RK K Q k, Rp))) (fun (j : Nat) (R : PS) (Rp : PS) => j ≤ L0 ∧ LT Q R Rp j) (fun (j : Nat) (R : PS) (Rp : PS) => L0 - j) ?_ 0 Q Q2 ⟨by omega, LT.z (by rw [eQ2])⟩
        intro j R Rp hI147 ih147
        try dsimp only at ih147 ⊢
        obtain ⟨hj, hLT⟩ := hI147
        have hR1 := hLT.1
        have hRp1 := hLT.2.2.2.1
        refine p_iload (q := 0) X dL_isRead_147 rfl ?_
        refine p_iload (q := 10) X dL_isRead_149 rfl ?_
        refine p_ncmp_ge (tgt := 243) X j L0 dL_isRead_151 (by decide) rfl rfl (by omega) (by omega) (fun c151 => ?_) (fun c151 => ?_)
        · skip
          have hLT2 : LT Q R Rp L0 := by have e : j = L0 := (by omega); rw [← e]; exact hLT
          refine p_iload (q := 5) X dL_isRead_243 rfl ?_
          refine p_if_eq (tgt := 322) X dL_isRead_245 (by decide) (fun c245 => absurd c245 (by decide)) (fun c245 => ?_)
          refine p_aload_n (q := 1) X dL_isRead_248 rfl rfl ?_
          refine p_bipush (v := (nI 48)) X dL_isRead_249 (by decide) ?_
          refine p_iload (q := 11) X dL_isRead_251 rfl ?_
          refine p_iadd (v := (nI (48 + hn))) X dL_isRead_253 (nI_add _ _) ?_
          refine p_i2l (v := (nI (48 + hn)).toInt64) X dL_isRead_254 rfl ?_
          refine p_o (As := [.long ((nI (48 + hn)).toInt64)]) X (q_put l z K R (48 + hn) (by omega) (by omega) (by first | omega | (show 0 + 1 ≤ 60; omega))) (cwV 1 X.1.2.2.2.2 gL_isRead_X1_put rfl rfl rfl (by decide +kernel) ⟨Nat.le_of_ble_eq_true rfl, Nat.le_of_ble_eq_true rfl⟩) rfl rfl (Nat.le_of_ble_eq_true rfl) dL_isRead_255 ?_
          refine p_g1 (fun Rn eRn => ?_)
          refine p_if_le (tgt := 322) X dL_isRead_258 (by decide) (fun c258 => absurd c258 (nI_nle (by omega) (by omega))) (fun c258 => ?_)
          refine p_aload_n (q := 2) X dL_isRead_261 rfl rfl ?_
          refine p_bipush (v := (nI 48)) X dL_isRead_262 (by decide) ?_
          refine p_iload (q := 11) X dL_isRead_264 rfl ?_
          refine p_iadd (v := (nI (48 + hn))) X dL_isRead_266 (nI_add _ _) ?_
          refine p_i2l (v := (nI (48 + hn)).toInt64) X dL_isRead_267 rfl ?_
          refine p_p (As := [.long ((nI (48 + hn)).toInt64)]) X (q_put l z (RK K Q k) Rp (48 + hn) (by omega) (by omega) (by first | omega | (show 0 + 1 ≤ 60; omega))) (cwV 1 X.1.2.2.2.2 gL_isRead_X1_put rfl rfl rfl (by decide +kernel) ⟨Nat.le_of_ble_eq_true rfl, Nat.le_of_ble_eq_true rfl⟩) rfl rfl (Nat.le_of_ble_eq_true rfl) dL_isRead_268 ?_
          refine p_g2 (fun Rq eRq => ?_)
          refine p_if_le (tgt := 322) X dL_isRead_271 (by decide) (fun c271 => absurd c271 (nI_nle (by omega) (by omega))) (fun c271 => ?_)
          refine p_aload_n (q := 2) X dL_isRead_274 rfl rfl ?_
          obtain ⟨hRn, hRq, hRK⟩ := hLT2.dig hNM hJ87.1 hJ87.2 hn9
          rw [← eRn] at hRn hRK
          rw [← eRq] at hRq hRK
          obtain ⟨hE, h7, h5⟩ := hRK K
          have hd := hRq.2.2.2.1
          refine p_p (As := []) X (q_read l z (RK K Q k) Rq (hRq.ft (by omega)) (by rw [hd]; show K.1.2 + k + 1 ≤ 20; omega)) (cwV 0 X.1.2.2.2.2 gL_isRead_X1_read rfl rfl rfl (by decide +kernel) ⟨Nat.le_of_ble_eq_true rfl, Nat.le_of_ble_eq_true rfl⟩) rfl rfl (Nat.le_of_ble_eq_true rfl) dL_isRead_275 ?_
          rw [hd, hE]
          rw [show (RK K Q k).1.2 = K.1.2 + k from rfl]
          refine p_ok (fun hoo2 hpp2 => ?_)
          have hcz2 : CZ (RK K Rn (k + 1)).1.1 (RK K Rn (k + 1)).1.2 := hpp2.1.1
          refine p_iload (q := 6) X dL_isRead_278 rfl ?_
          refine p_iload (q := 8) X dL_isRead_280 rfl ?_
          refine p_iadd (v := (nI (K.1.2 + k))) X dL_isRead_282 (nI_add _ _) ?_
          refine p_iconst (v := (nI 1)) X dL_isRead_283 (by decide) ?_
          refine p_iadd (v := (nI ((K.1.2 + k) + 1))) X dL_isRead_284 (nI_add _ _) ?_
          refine p_ncmp_ne (tgt := 322) X (K.1.2 + k + 1) ((K.1.2 + k) + 1) dL_isRead_285 (by decide) rfl rfl (by omega) (by omega) (fun c285 => absurd (show K.1.2 + k + 1 = (K.1.2 + k) + 1 by omega) c285) (fun c285 => ?_)
          refine p_aload_n (q := 2) X dL_isRead_288 rfl rfl ?_
          refine p_iload (q := 6) X dL_isRead_289 rfl ?_
          refine p_iload (q := 8) X dL_isRead_291 rfl ?_
          refine p_iadd (v := (nI (K.1.2 + k))) X dL_isRead_293 (nI_add _ _) ?_
          refine p_iconst (v := (nI 0)) X dL_isRead_294 (by decide) ?_
          refine p_p (As := [.int (nI (K.1.2 + k)), .int (nI 0)]) X (q_name l z (RK K Rn (k + 1)) ((0, Rq.2) : PS) (nI (K.1.2 + k)) (nI 0)) (cwV 2 X.1.2.2.2.2 gL_isRead_X1_name rfl rfl rfl (by decide +kernel) ⟨Nat.le_of_ble_eq_true rfl, Nat.le_of_ble_eq_true rfl⟩) rfl rfl (Nat.le_of_ble_eq_true rfl) dL_isRead_295 ?_
          rw [R_nam0 hcz2 (show K.1.2 + k < K.1.2 + (k + 1) by omega), h7]
          refine p_iload (q := 11) X dL_isRead_298 rfl ?_
          refine p_ncmp_ne (tgt := 322) X hn hn dL_isRead_300 (by decide) rfl rfl (by omega) (by omega) (fun c300 => absurd rfl c300) (fun c300 => ?_)
          refine p_aload_n (q := 2) X dL_isRead_303 rfl rfl ?_
          refine p_iload (q := 6) X dL_isRead_304 rfl ?_
          refine p_iload (q := 8) X dL_isRead_306 rfl ?_
          refine p_iadd (v := (nI (K.1.2 + k))) X dL_isRead_308 (nI_add _ _) ?_
          refine p_iconst (v := (nI 5)) X dL_isRead_309 (by decide) ?_
          refine p_p (As := [.int (nI (K.1.2 + k)), .int (nI 5)]) X (q_name l z (RK K Rn (k + 1)) ((0, Rq.2) : PS) (nI (K.1.2 + k)) (nI 5)) (cwV 2 X.1.2.2.2.2 gL_isRead_X1_name rfl rfl rfl (by decide +kernel) ⟨Nat.le_of_ble_eq_true rfl, Nat.le_of_ble_eq_true rfl⟩) rfl rfl (Nat.le_of_ble_eq_true rfl) dL_isRead_310 ?_
          rw [R_nam5 hcz2 (show K.1.2 + k < K.1.2 + (k + 1) by omega), h5]
          refine p_iload (q := 10) X dL_isRead_313 rfl ?_
          refine p_ncmp_ne (tgt := 322) X L0 L0 dL_isRead_315 (by decide) rfl rfl (by omega) (by omega) (fun c315 => absurd rfl c315) (fun c315 => ?_)
          refine p_iconst (v := (nI 1)) X dL_isRead_318 (by decide) ?_
          refine p_goto (tgt := 323) X dL_isRead_319 (by decide) ?_
          refine p_istore (lv' := [(4, .int (nI 1)), (11, .int (nI j)), (0, .ref (ad 10 0)), (1, .ref (bd 10 0)), (2, .int x), (3, .int y), (5, .int (nI K.1.2)), (6, .int (nI (1 + (uq x 3)))), (7, .int (nI k)), (8, .int w), (9, .int (nI L0)), (10, .int (nI hn))]) X dL_isRead_323 (by decide) rfl ?_
          refine p_iinc (q := 8) (v := (nI (k + 1))) (lv' := [(7, .int (nI (k + 1))), (4, .int (nI 1)), (11, .int (nI j)), (0, .ref (ad 10 0)), (1, .ref (bd 10 0)), (2, .int x), (3, .int y), (5, .int (nI K.1.2)), (6, .int (nI (1 + (uq x 3)))), (8, .int w), (9, .int (nI L0)), (10, .int (nI hn))]) X dL_isRead_325 rfl (nI_1 _) (by decide) rfl ?_
          refine p_goto (tgt := 65) X dL_isRead_328 (by decide) ?_
          refine p_lv (lv1 := [(7, .int (nI (k + 1))), (0, .ref (ad 10 0)), (1, .ref (bd 10 0)), (2, .int x), (3, .int y), (4, .int (nI 1)), (5, .int (nI K.1.2)), (6, .int (nI (1 + (uq x 3))))]) [0, 3, 4, 5, 6, 1, 7, 8] rfl ?_
          exact ih65 (k + 1) Rn ((0, Rq.2) : PS) ⟨by omega, hRn, Nat.zero_le _⟩ (by omega)
        · skip
          refine p_join (tgt := 183) (st1 := []) (μ1 := ((K, R), (RK K Q k, Rp))) (fun (g : Nat) => [(12, .int (nI g)), (0, .ref (ad 10 0)), (1, .ref (bd 10 0)), (2, .int x), (3, .int y), (4, .int (nI 1)), (5, .int (nI K.1.2)), (6, .int (nI (1 + (uq x 3)))), (7, .int (nI k)), (8, .int w), (9, .int (nI L0)), (10, .int (nI hn)), (11, .int (nI j))]) (fun (g : Nat) => g ≤ 7) ?_ (fun tail154 => ?_)
          · skip
            intro g hJ154
            try dsimp only at hJ154 ⊢
            refine p_iload (q := 5) X dL_isRead_183 rfl ?_
            refine p_if_eq (tgt := 234) X dL_isRead_185 (by decide) (fun c185 => absurd c185 (by decide)) (fun c185 => ?_)
            refine p_aload_n (q := 1) X dL_isRead_188 rfl rfl ?_
            refine p_iload (q := 0) X dL_isRead_189 rfl ?_
            refine p_iload (q := 9) X dL_isRead_191 rfl ?_
            refine p_iload (q := 12) X dL_isRead_193 rfl ?_
            refine p_ishr (v := (w >>> ((nI j) &&& 31))) X dL_isRead_195 rfl ?_
            refine p_callS (As := [.int (nI g), .int (w >>> ((nI j) &&& 31))]) X (kL_here l D ad bd cs A B z g (by omega) (w >>> ((nI j) &&& 31)) ((K, R), (RK K Q k, Rp))) (va_cwS 2 X.1.2.2.2.2 gL_isRead_L_here rfl rfl rfl (by decide +kernel) ⟨Nat.le_of_ble_eq_true rfl, Nat.le_of_ble_eq_true rfl⟩) rfl rfl (Nat.le_of_ble_eq_true rfl) dL_isRead_196 (fun r196 m196 h196 => ?_)
            obtain ⟨q1, q1a, q1b, h196, q1s, e196⟩ := h196
            have e196 := e196.symm
            subst e196
            subst h196
            refine p_i2l (v := (nI q1).toInt64) X dL_isRead_199 rfl ?_
            refine p_o (As := [.long ((nI q1).toInt64)]) X (q_put l z K R q1 (by omega) (by omega) (by first | omega | (show 0 + 1 ≤ 60; omega))) (cwV 1 X.1.2.2.2.2 gL_isRead_X1_put rfl rfl rfl (by decide +kernel) ⟨Nat.le_of_ble_eq_true rfl, Nat.le_of_ble_eq_true rfl⟩) rfl rfl (Nat.le_of_ble_eq_true rfl) dL_isRead_200 ?_
            refine p_if_le (tgt := 234) X dL_isRead_203 (by decide) (fun c203 => absurd c203 (nI_nle (by omega) (by omega))) (fun c203 => ?_)
            refine p_aload_n (q := 2) X dL_isRead_206 rfl rfl ?_
            refine p_iload (q := 0) X dL_isRead_207 rfl ?_
            refine p_iload (q := 9) X dL_isRead_209 rfl ?_
            refine p_iload (q := 12) X dL_isRead_211 rfl ?_
            refine p_iconst (v := (nI 2)) X dL_isRead_213 (by decide) ?_
            refine p_iadd (v := (nI (j + 2))) X dL_isRead_214 (nI_add _ _) ?_
            refine p_ishr (v := (w >>> ((nI (j + 2)) &&& 31))) X dL_isRead_215 rfl ?_
            refine p_callS (As := [.int (nI g), .int (w >>> ((nI (j + 2)) &&& 31))]) X (kL_there l D ad bd cs A B z g (by omega) (w >>> ((nI (j + 2)) &&& 31)) ((K, gPut R q1), (RK K Q k, Rp))) (va_cwS 2 X.1.2.2.2.2 gL_isRead_L_there rfl rfl rfl (by decide +kernel) ⟨Nat.le_of_ble_eq_true rfl, Nat.le_of_ble_eq_true rfl⟩) rfl rfl (Nat.le_of_ble_eq_true rfl) dL_isRead_216 (fun r216 m216 h216 => ?_)
            obtain ⟨q2, q2a, q2b, h216, q2s, e216⟩ := h216
            have e216 := e216.symm
            subst e216
            subst h216
            refine p_i2l (v := (nI q2).toInt64) X dL_isRead_219 rfl ?_
            refine p_p (As := [.long ((nI q2).toInt64)]) X (q_put l z (RK K Q k) Rp q2 (by omega) (by omega) (by first | omega | (show 0 + 1 ≤ 60; omega))) (cwV 1 X.1.2.2.2.2 gL_isRead_X1_put rfl rfl rfl (by decide +kernel) ⟨Nat.le_of_ble_eq_true rfl, Nat.le_of_ble_eq_true rfl⟩) rfl rfl (Nat.le_of_ble_eq_true rfl) dL_isRead_220 ?_
            refine p_iload (q := 12) X dL_isRead_223 rfl ?_
            refine p_iconst (v := (nI 1)) X dL_isRead_225 (by decide) ?_
            refine p_iadd (v := (nI (j + 1))) X dL_isRead_226 (nI_add _ _) ?_
            refine p_ncmp_ne (tgt := 234) X (Rp.1 + 1) (j + 1) dL_isRead_227 (by decide) rfl rfl (by omega) (by omega) (fun c227 => absurd (show Rp.1 + 1 = j + 1 by omega) c227) (fun c227 => ?_)
            refine p_iconst (v := (nI 1)) X dL_isRead_230 (by decide) ?_
            refine p_goto (tgt := 235) X dL_isRead_231 (by decide) ?_
            refine p_istore (lv' := [(4, .int (nI 1)), (12, .int (nI g)), (0, .ref (ad 10 0)), (1, .ref (bd 10 0)), (2, .int x), (3, .int y), (5, .int (nI K.1.2)), (6, .int (nI (1 + (uq x 3)))), (7, .int (nI k)), (8, .int w), (9, .int (nI L0)), (10, .int (nI hn)), (11, .int (nI j))]) X dL_isRead_235 (by decide) rfl ?_
            refine p_iinc (q := 12) (v := (nI (j + 1))) (lv' := [(11, .int (nI (j + 1))), (4, .int (nI 1)), (12, .int (nI g)), (0, .ref (ad 10 0)), (1, .ref (bd 10 0)), (2, .int x), (3, .int y), (5, .int (nI K.1.2)), (6, .int (nI (1 + (uq x 3)))), (7, .int (nI k)), (8, .int w), (9, .int (nI L0)), (10, .int (nI hn))]) X dL_isRead_237 rfl (nI_1 _) (by decide) rfl ?_
            refine p_goto (tgt := 147) X dL_isRead_240 (by decide) ?_
            refine p_lv (lv1 := [(11, .int (nI (j + 1))), (0, .ref (ad 10 0)), (1, .ref (bd 10 0)), (2, .int x), (3, .int y), (4, .int (nI 1)), (5, .int (nI K.1.2)), (6, .int (nI (1 + (uq x 3)))), (7, .int (nI k)), (8, .int w), (9, .int (nI L0)), (10, .int (nI hn))]) [0, 3, 4, 5, 6, 1, 7, 8, 9, 10, 11, 12] rfl ?_
            exact ih147 (j + 1) (gPut R q1) (gPut Rp q2) ⟨by omega, hLT.put (isL_n q1a q1b) (isL_n q2a q2b) (q1s.trans q2s.symm)⟩ (by omega)
          · skip
            refine p_iload (q := 9) X dL_isRead_154 rfl ?_
            refine p_iload (q := 0) X dL_isRead_156 rfl ?_
            refine p_ishr (v := (w >>> ((nI j) &&& 31))) X dL_isRead_158 rfl ?_
            refine p_iconst (v := (nI 5)) X dL_isRead_159 (by decide) ?_
            refine p_callS (As := [.int (w >>> ((nI j) &&& 31)), .int (nI 5)]) X (kL_up l D ad bd cs A B z (w >>> ((nI j) &&& 31)) 5 (by omega) (by omega) ((K, R), (RK K Q k, Rp))) (va_cwS 2 X.1.2.2.2.2 gL_isRead_L_up rfl rfl rfl (by decide +kernel) ⟨Nat.le_of_ble_eq_true rfl, Nat.le_of_ble_eq_true rfl⟩) rfl rfl (Nat.le_of_ble_eq_true rfl) dL_isRead_160 (fun r160 m160 h160 => ?_)
            obtain ⟨h160, e160⟩ := h160
            have e160 := e160.symm
            subst e160
            subst h160
            have hu160 := uq_lt (w >>> ((nI j) &&& 31)) (n := 5) (by omega)
            refine p_if_ne (tgt := 171) X dL_isRead_163 (by decide) (fun c163 => ?_) (fun c163 => ?_)
            · skip
              refine p_iload (q := 9) X dL_isRead_171 rfl ?_
              refine p_iload (q := 0) X dL_isRead_173 rfl ?_
              refine p_ishr (v := (w >>> ((nI j) &&& 31))) X dL_isRead_175 rfl ?_
              refine p_bipush (v := (nI 8)) X dL_isRead_176 (by decide) ?_
              refine p_callS (As := [.int (w >>> ((nI j) &&& 31)), .int (nI 8)]) X (kL_up l D ad bd cs A B z (w >>> ((nI j) &&& 31)) 8 (by omega) (by omega) ((K, R), (RK K Q k, Rp))) (va_cwS 2 X.1.2.2.2.2 gL_isRead_L_up rfl rfl rfl (by decide +kernel) ⟨Nat.le_of_ble_eq_true rfl, Nat.le_of_ble_eq_true rfl⟩) rfl rfl (Nat.le_of_ble_eq_true rfl) dL_isRead_178 (fun r178 m178 h178 => ?_)
              obtain ⟨h178, e178⟩ := h178
              have e178 := e178.symm
              subst e178
              subst h178
              have hu178 := uq_lt (w >>> ((nI j) &&& 31)) (n := 8) (by omega)
              refine p_istore (lv' := [(12, .int (nI (uq (w >>> ((nI j) &&& 31)) 8))), (11, .int (nI j)), (0, .ref (ad 10 0)), (1, .ref (bd 10 0)), (2, .int x), (3, .int y), (4, .int (nI 1)), (5, .int (nI K.1.2)), (6, .int (nI (1 + (uq x 3)))), (7, .int (nI k)), (8, .int w), (9, .int (nI L0)), (10, .int (nI hn))]) X dL_isRead_181 (by decide) rfl ?_
              refine p_lv (lv1 := [(12, .int (nI (uq (w >>> ((nI j) &&& 31)) 8))), (0, .ref (ad 10 0)), (1, .ref (bd 10 0)), (2, .int x), (3, .int y), (4, .int (nI 1)), (5, .int (nI K.1.2)), (6, .int (nI (1 + (uq x 3)))), (7, .int (nI k)), (8, .int w), (9, .int (nI L0)), (10, .int (nI hn)), (11, .int (nI j))]) [0, 2, 3, 4, 5, 6, 7, 8, 9, 10, 11, 12, 1] rfl ?_
              exact tail154 (uq (w >>> ((nI j) &&& 31)) 8) (by omega)
            · skip
              refine p_bipush (v := (nI 7)) X dL_isRead_166 (by decide) ?_
              refine p_goto (tgt := 181) X dL_isRead_168 (by decide) ?_
              refine p_istore (lv' := [(12, .int (nI 7)), (11, .int (nI j)), (0, .ref (ad 10 0)), (1, .ref (bd 10 0)), (2, .int x), (3, .int y), (4, .int (nI 1)), (5, .int (nI K.1.2)), (6, .int (nI (1 + (uq x 3)))), (7, .int (nI k)), (8, .int w), (9, .int (nI L0)), (10, .int (nI hn))]) X dL_isRead_181 (by decide) rfl ?_
              refine p_lv (lv1 := [(12, .int (nI 7)), (0, .ref (ad 10 0)), (1, .ref (bd 10 0)), (2, .int x), (3, .int y), (4, .int (nI 1)), (5, .int (nI K.1.2)), (6, .int (nI (1 + (uq x 3)))), (7, .int (nI k)), (8, .int w), (9, .int (nI L0)), (10, .int (nI hn)), (11, .int (nI j))]) [0, 2, 3, 4, 5, 6, 7, 8, 9, 10, 11, 12, 1] rfl ?_
              exact tail154 7 (by omega)
      · skip
        refine p_iconst (v := (nI 2)) X dL_isRead_87 (by decide) ?_
        refine p_iload (q := 0) X dL_isRead_88 rfl ?_
        refine p_iload (q := 0) X dL_isRead_90 rfl ?_
        refine p_bipush (v := (nI 9)) X dL_isRead_92 (by decide) ?_
        refine p_ishr (v := (w >>> ((nI 9) &&& 31))) X dL_isRead_94 rfl ?_
        refine p_iconst (v := (nI 4)) X dL_isRead_95 (by decide) ?_
        refine p_callS (As := [.int (w >>> ((nI 9) &&& 31)), .int (nI 4)]) X (kL_up l D ad bd cs A B z (w >>> ((nI 9) &&& 31)) 4 (by omega) (by omega) ((K, Q), (RK K Q k, Qp))) (va_cwS 2 X.1.2.2.2.2 gL_isRead_L_up rfl rfl rfl (by decide +kernel) ⟨Nat.le_of_ble_eq_true rfl, Nat.le_of_ble_eq_true rfl⟩) rfl rfl (Nat.le_of_ble_eq_true rfl) dL_isRead_96 (fun r96 m96 h96 => ?_)
        obtain ⟨h96, e96⟩ := h96
        have e96 := e96.symm
        subst e96
        subst h96
        have hu96 := uq_lt (w >>> ((nI 9) &&& 31)) (n := 4) (by omega)
        refine p_if_ne (tgt := 107) X dL_isRead_99 (by decide) (fun c99 => ?_) (fun c99 => ?_)
        · skip
          refine p_iconst (v := (nI 3)) X dL_isRead_107 (by decide) ?_
          refine p_callS (As := [.int w, .int (nI 3)]) X (kL_up l D ad bd cs A B z w 3 (by omega) (by omega) ((K, Q), (RK K Q k, Qp))) (va_cwS 2 X.1.2.2.2.2 gL_isRead_L_up rfl rfl rfl (by decide +kernel) ⟨Nat.le_of_ble_eq_true rfl, Nat.le_of_ble_eq_true rfl⟩) rfl rfl (Nat.le_of_ble_eq_true rfl) dL_isRead_108 (fun r108 m108 h108 => ?_)
          obtain ⟨h108, e108⟩ := h108
          have e108 := e108.symm
          subst e108
          subst h108
          have hu108 := uq_lt w (n := 3) (by omega)
          refine p_iadd (v := (nI (2 + (uq w 3)))) X dL_isRead_111 (nI_add _ _) ?_
          refine p_istore (lv' := [(9, .int (nI (2 + (uq w 3)))), (8, .int w), (7, .int (nI k)), (0, .ref (ad 10 0)), (1, .ref (bd 10 0)), (2, .int x), (3, .int y), (4, .int (nI 1)), (5, .int (nI K.1.2)), (6, .int (nI (1 + (uq x 3))))]) X dL_isRead_112 (by decide) rfl ?_
          refine p_lv (lv1 := [(9, .int (nI (2 + (uq w 3)))), (0, .ref (ad 10 0)), (1, .ref (bd 10 0)), (2, .int x), (3, .int y), (4, .int (nI 1)), (5, .int (nI K.1.2)), (6, .int (nI (1 + (uq x 3)))), (7, .int (nI k)), (8, .int w)]) [0, 3, 4, 5, 6, 7, 8, 9, 2, 1] rfl ?_
          exact tail87 (2 + (uq w 3)) ⟨by omega, by omega⟩
        · skip
          refine p_bipush (v := (nI 8)) X dL_isRead_102 (by decide) ?_
          refine p_goto (tgt := 108) X dL_isRead_104 (by decide) ?_
          refine p_callS (As := [.int w, .int (nI 8)]) X (kL_up l D ad bd cs A B z w 8 (by omega) (by omega) ((K, Q), (RK K Q k, Qp))) (va_cwS 2 X.1.2.2.2.2 gL_isRead_L_up rfl rfl rfl (by decide +kernel) ⟨Nat.le_of_ble_eq_true rfl, Nat.le_of_ble_eq_true rfl⟩) rfl rfl (Nat.le_of_ble_eq_true rfl) dL_isRead_108 (fun r108 m108 h108 => ?_)
          obtain ⟨h108, e108⟩ := h108
          have e108 := e108.symm
          subst e108
          subst h108
          have hu108 := uq_lt w (n := 8) (by omega)
          refine p_iadd (v := (nI (2 + (uq w 8)))) X dL_isRead_111 (nI_add _ _) ?_
          refine p_istore (lv' := [(9, .int (nI (2 + (uq w 8)))), (8, .int w), (7, .int (nI k)), (0, .ref (ad 10 0)), (1, .ref (bd 10 0)), (2, .int x), (3, .int y), (4, .int (nI 1)), (5, .int (nI K.1.2)), (6, .int (nI (1 + (uq x 3))))]) X dL_isRead_112 (by decide) rfl ?_
          refine p_lv (lv1 := [(9, .int (nI (2 + (uq w 8)))), (0, .ref (ad 10 0)), (1, .ref (bd 10 0)), (2, .int x), (3, .int y), (4, .int (nI 1)), (5, .int (nI K.1.2)), (6, .int (nI (1 + (uq x 3)))), (7, .int (nI k)), (8, .int w)]) [0, 3, 4, 5, 6, 7, 8, 9, 2, 1] rfl ?_
          exact tail87 (2 + (uq w 8)) ⟨by omega, by omega⟩
  · skip
    refine p_iload (q := 2) X dL_isRead_40 rfl ?_
    refine p_if_eq (tgt := 60) X dL_isRead_42 (by decide) (fun c42 => absurd c42 (by decide)) (fun c42 => ?_)
    refine p_aload_n (q := 3) X dL_isRead_45 rfl rfl ?_
    refine p_ldc2 (v := (nI 97).toInt64) X (X.1.2.2.2.2 _ (by decide +kernel)) dL_isRead_46 ?_
    refine p_o (As := [.long ((nI 97).toInt64)]) X (q_put l z K ((0, Po.2) : PS) 97 (by omega) (by omega) (by first | omega | (show 0 + 1 ≤ 60; omega))) (cwV 1 X.1.2.2.2.2 gL_isRead_X1_put rfl rfl rfl (by decide +kernel) ⟨Nat.le_of_ble_eq_true rfl, Nat.le_of_ble_eq_true rfl⟩) rfl rfl (Nat.le_of_ble_eq_true rfl) dL_isRead_49 ?_
    refine p_iconst (v := (nI 1)) X dL_isRead_52 (by decide) ?_
    refine p_ncmp_ne (tgt := 60) X 1 1 dL_isRead_53 (by decide) rfl rfl (by omega) (by omega) (fun c53 => absurd c53 (by decide)) (fun c53 => ?_)
    refine p_iconst (v := (nI 1)) X dL_isRead_56 (by decide) ?_
    refine p_goto (tgt := 61) X dL_isRead_57 (by decide) ?_
    exact p_zret X hr hlk (by first | exact Or.inl rfl | exact Or.inr rfl) ⟨rfl, K, _, _, rfl, hwk.mono (Nat.le_succ t)⟩ dL_isRead_61
