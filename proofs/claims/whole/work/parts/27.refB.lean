set_option maxHeartbeats 4000000 in
set_option maxRecDepth 100000 in
theorem kX2_isPun (l : Launch) (D : va_G) (ad : Nat → Nat → Nat) (cs : Nat → ClassId) (A : Nat → Prop) (z : Nat → Nat) (μ : Mm) (M : CV) (V : CV) (N : Nat) (hw : Rw V N (M 1)) (hci : CI V N) (a : Nat) (ha : V 1 0 = nI a) (ha11 : a ≤ 11) (n : Nat) (hn : n < N) (c0 : Nat) (hc : c0 < 12) : KI l D ad cs A z yX2_isPun wsX2_isPun (rm 2 44) [.ref (ad 11 0), .int (nI n), .int (nI c0)] (mb μ 11 M) (fun r μ1 => bP r (nearB V a n c0 12 = true) ∧ μ1 = mb μ 11 M) := by
  refine KI_of (cc := cX2_isPun) (maxL := 6) (ret := (some .boolean)) (by decide) rfl (Nat.le_of_ble_eq_true rfl) ?_
  intro p e s m args below meth c hr hlk X
  show J p l e _ s m args below meth c 0 0 _ 6 D ad cs A 0 [(0, .ref (ad 11 0)), (1, .int (nI n)), (2, .int (nI c0))] [] (mb μ 11 M)
  have hinX2 : ∀ w ∈ wsX20, w ∈ wsX2_isPun := by decide +kernel
  have k7 : (Cond.fieldLink RX2 7 "PunCourtsModel" "all" "[I").before args s = true := X.1.2.2.2.2 _ (by decide +kernel)
  have hN := hci.1.1
  have hN20 := hci.1.2.1
  refine j_iconst (v := (nI 0)) X dX2_isPun_0 (by decide) ?_
  refine j_istore_n (lv' := [(3, .int (nI 0)), (0, .ref (ad 11 0)), (1, .int (nI n)), (2, .int (nI c0))]) X dX2_isPun_1 rfl (by decide) rfl ?_
  refine j_iconst (v := (nI 0)) X dX2_isPun_2 (by decide) ?_
  refine j_istore (lv' := [(4, .int (nI 0)), (3, .int (nI 0)), (0, .ref (ad 11 0)), (1, .int (nI n)), (2, .int (nI c0))]) X dX2_isPun_3 (by decide) rfl ?_
  refine jl2 (G := J p l e _ s m args below meth c 0 0 _ _ D ad cs A) (pc := 5) (fun (i : Nat) (r : Int32) => [(4, .int (nI i)), (3, .int r), (0, .ref (ad 11 0)), (1, .int (nI n)), (2, .int (nI c0))]) (fun (i : Nat) (r : Int32) => (mb μ 11 M)) (fun (i : Nat) (r : Int32) => i ≤ 12 ∧ bP r (nearB V a n c0 i = true)) (fun (i : Nat) (r : Int32) => 12 - i) ?_ 0 (nI 0) ⟨by omega, bP.nn (by rw [nearB]; decide)⟩
  intro i r hI5 ih5
  try dsimp only at ih5 ⊢
  obtain ⟨hi, hb⟩ := hI5
  refine j_iload (q := 0) X dX2_isPun_5 rfl ?_
  refine j_bipush (v := (nI 12)) X dX2_isPun_7 (by decide) ?_
  refine j_ncmp_ge (tgt := 96) X i 12 dX2_isPun_9 (by decide) rfl rfl (by omega) (by omega) (fun c9 => ?_) (fun c9 => ?_)
  · skip
    refine j_iload_n (q := 1) X dX2_isPun_96 rfl rfl ?_
    exact j_zret X hr hlk hb.bo ⟨by rw [show i = 12 by omega] at hb; exact hb, rfl⟩ dX2_isPun_97
  · skip
    refine j_aload_n (q := 2) X dX2_isPun_12 rfl rfl ?_
    refine j_getRB X oR hinX2 0 (by decide) rfl k7 dX2_isPun_13 ?_
    refine j_sipush (v := (nI 249)) X dX2_isPun_16 (by decide) ?_
    refine j_iload (q := 0) X dX2_isPun_19 rfl ?_
    refine j_iadd (v := (nI (249 + i))) X dX2_isPun_21 (nI_add _ _) ?_
    refine j_ialdB X aR_1 (249 + i) rfl (by omega) (by decide) dX2_isPun_22 ?_
    rw [hw.bo (show i < 12 by omega)]
    refine j_istore (lv' := [(5, .int (V 10 i)), (4, .int (nI i)), (3, .int r), (0, .ref (ad 11 0)), (1, .int (nI n)), (2, .int (nI c0))]) X dX2_isPun_23 (by decide) rfl ?_
    refine j_iload_n (q := 2) X dX2_isPun_25 rfl rfl ?_
    refine j_if_ne (tgt := 84) X dX2_isPun_26 (by decide) (fun c26 => ?_) (fun c26 => ?_)
    · skip
      have hnew : nearB V a n c0 (i + 1) = true := nearB_s.mpr (Or.inl (hb.nt c26))
      refine j_iconst (v := (nI 1)) X dX2_isPun_84 (by decide) ?_
      refine j_goto (tgt := 89) X dX2_isPun_85 (by decide) ?_
      refine j_istore_n (lv' := [(3, .int (nI 1)), (5, .int (V 10 i)), (4, .int (nI i)), (0, .ref (ad 11 0)), (1, .int (nI n)), (2, .int (nI c0))]) X dX2_isPun_89 rfl (by decide) rfl ?_
      refine j_iinc (q := 2) (v := (nI (i + 1))) (lv' := [(4, .int (nI (i + 1))), (3, .int (nI 1)), (5, .int (V 10 i)), (0, .ref (ad 11 0)), (1, .int (nI n)), (2, .int (nI c0))]) X dX2_isPun_90 rfl (nI_1 _) (by decide) rfl ?_
      refine j_goto (tgt := 5) X dX2_isPun_93 (by decide) ?_
      refine j_lv (lv1 := [(4, .int (nI (i + 1))), (3, .int (nI 1)), (0, .ref (ad 11 0)), (1, .int (nI n)), (2, .int (nI c0))]) [0, 1, 3, 4, 5] rfl ?_
      exact ih5 (i + 1) (nI 1) ⟨by omega, bP.yn hnew⟩ (by omega)
    · skip
      have hb0 := hb.nf c26
      refine j_iload (q := 1) X dX2_isPun_29 rfl ?_
      refine j_iload_n (q := 5) X dX2_isPun_31 rfl rfl ?_
      refine j_ncmp_eq (tgt := 88) X i c0 dX2_isPun_32 (by decide) rfl rfl (by omega) (by omega) (fun c32 => ?_) (fun c32 => ?_)
      · skip
        have hno : ¬ (punS V (nI n) (V 10 i) ∧ nearC a c0 i) := fun q => q.2.1 c32.symm
        have hnew : ¬ nearB V a n c0 (i + 1) = true := fun q => (nearB_s.mp q).elim hb0 hno
        refine j_iconst (v := (nI 0)) X dX2_isPun_88 (by decide) ?_
        refine j_istore_n (lv' := [(3, .int (nI 0)), (5, .int (V 10 i)), (4, .int (nI i)), (0, .ref (ad 11 0)), (1, .int (nI n)), (2, .int (nI c0))]) X dX2_isPun_89 rfl (by decide) rfl ?_
        refine j_iinc (q := 2) (v := (nI (i + 1))) (lv' := [(4, .int (nI (i + 1))), (3, .int (nI 0)), (5, .int (V 10 i)), (0, .ref (ad 11 0)), (1, .int (nI n)), (2, .int (nI c0))]) X dX2_isPun_90 rfl (nI_1 _) (by decide) rfl ?_
        refine j_goto (tgt := 5) X dX2_isPun_93 (by decide) ?_
        refine j_lv (lv1 := [(4, .int (nI (i + 1))), (3, .int (nI 0)), (0, .ref (ad 11 0)), (1, .int (nI n)), (2, .int (nI c0))]) [0, 1, 3, 4, 5] rfl ?_
        exact ih5 (i + 1) (nI 0) ⟨by omega, bP.nn hnew⟩ (by omega)
      · skip
        refine j_iload (q := 1) X dX2_isPun_35 rfl ?_
        refine j_iload_n (q := 5) X dX2_isPun_37 rfl rfl ?_
        refine j_isub (v := (nI i - nI c0)) X dX2_isPun_38 rfl ?_
        refine j_aload_n (q := 3) X dX2_isPun_39 rfl rfl ?_
        refine j_getRB X oR hinX2 0 (by decide) rfl k7 dX2_isPun_40 ?_
        refine j_iconst (v := (nI 0)) X dX2_isPun_43 (by decide) ?_
        refine j_ialdB X aR_1 0 rfl (by decide) (by decide) dX2_isPun_44 ?_
        rw [hw.st 0 (by decide), ha]
        refine j_icmp_gt (tgt := 88) X dX2_isPun_45 (by decide) (fun c45 => ?_) (fun c45 => ?_)
        · skip
          have hno : ¬ (punS V (nI n) (V 10 i) ∧ nearC a c0 i) := fun q => by have := (sub_gt (by omega) (by omega) (by omega)).mp c45; have := q.2.2.2; omega
          have hnew : ¬ nearB V a n c0 (i + 1) = true := fun q => (nearB_s.mp q).elim hb0 hno
          refine j_iconst (v := (nI 0)) X dX2_isPun_88 (by decide) ?_
          refine j_istore_n (lv' := [(3, .int (nI 0)), (5, .int (V 10 i)), (4, .int (nI i)), (0, .ref (ad 11 0)), (1, .int (nI n)), (2, .int (nI c0))]) X dX2_isPun_89 rfl (by decide) rfl ?_
          refine j_iinc (q := 2) (v := (nI (i + 1))) (lv' := [(4, .int (nI (i + 1))), (3, .int (nI 0)), (5, .int (V 10 i)), (0, .ref (ad 11 0)), (1, .int (nI n)), (2, .int (nI c0))]) X dX2_isPun_90 rfl (nI_1 _) (by decide) rfl ?_
          refine j_goto (tgt := 5) X dX2_isPun_93 (by decide) ?_
          refine j_lv (lv1 := [(4, .int (nI (i + 1))), (3, .int (nI 0)), (0, .ref (ad 11 0)), (1, .int (nI n)), (2, .int (nI c0))]) [0, 1, 3, 4, 5] rfl ?_
          exact ih5 (i + 1) (nI 0) ⟨by omega, bP.nn hnew⟩ (by omega)
        · skip
          refine j_iload_n (q := 5) X dX2_isPun_48 rfl rfl ?_
          refine j_iload (q := 1) X dX2_isPun_49 rfl ?_
          refine j_isub (v := (nI c0 - nI i)) X dX2_isPun_51 rfl ?_
          refine j_aload_n (q := 3) X dX2_isPun_52 rfl rfl ?_
          refine j_getRB X oR hinX2 0 (by decide) rfl k7 dX2_isPun_53 ?_
          refine j_iconst (v := (nI 0)) X dX2_isPun_56 (by decide) ?_
          refine j_ialdB X aR_1 0 rfl (by decide) (by decide) dX2_isPun_57 ?_
          rw [hw.st 0 (by decide), ha]
          refine j_icmp_gt (tgt := 88) X dX2_isPun_58 (by decide) (fun c58 => ?_) (fun c58 => ?_)
          · skip
            have hno : ¬ (punS V (nI n) (V 10 i) ∧ nearC a c0 i) := fun q => by have := (sub_gt (by omega) (by omega) (by omega)).mp c58; have := q.2.2.1; omega
            have hnew : ¬ nearB V a n c0 (i + 1) = true := fun q => (nearB_s.mp q).elim hb0 hno
            refine j_iconst (v := (nI 0)) X dX2_isPun_88 (by decide) ?_
            refine j_istore_n (lv' := [(3, .int (nI 0)), (5, .int (V 10 i)), (4, .int (nI i)), (0, .ref (ad 11 0)), (1, .int (nI n)), (2, .int (nI c0))]) X dX2_isPun_89 rfl (by decide) rfl ?_
            refine j_iinc (q := 2) (v := (nI (i + 1))) (lv' := [(4, .int (nI (i + 1))), (3, .int (nI 0)), (5, .int (V 10 i)), (0, .ref (ad 11 0)), (1, .int (nI n)), (2, .int (nI c0))]) X dX2_isPun_90 rfl (nI_1 _) (by decide) rfl ?_
            refine j_goto (tgt := 5) X dX2_isPun_93 (by decide) ?_
            refine j_lv (lv1 := [(4, .int (nI (i + 1))), (3, .int (nI 0)), (0, .ref (ad 11 0)), (1, .int (nI n)), (2, .int (nI c0))]) [0, 1, 3, 4, 5] rfl ?_
            exact ih5 (i + 1) (nI 0) ⟨by omega, bP.nn hnew⟩ (by omega)
          · skip
            refine j_iload (q := 0) X dX2_isPun_61 rfl ?_
            refine j_bipush (v := (-6)) X dX2_isPun_63 (by decide) ?_
            refine j_icmp_eq (tgt := 88) X dX2_isPun_65 (by decide) (fun c65 => ?_) (fun c65 => ?_)
            · skip
              have hno : ¬ (punS V (nI n) (V 10 i) ∧ nearC a c0 i) := fun q => by have := q.1.2.2.1.1; rw [c65] at this; exact absurd this (by decide)
              have hnew : ¬ nearB V a n c0 (i + 1) = true := fun q => (nearB_s.mp q).elim hb0 hno
              refine j_iconst (v := (nI 0)) X dX2_isPun_88 (by decide) ?_
              refine j_istore_n (lv' := [(3, .int (nI 0)), (5, .int (V 10 i)), (4, .int (nI i)), (0, .ref (ad 11 0)), (1, .int (nI n)), (2, .int (nI c0))]) X dX2_isPun_89 rfl (by decide) rfl ?_
              refine j_iinc (q := 2) (v := (nI (i + 1))) (lv' := [(4, .int (nI (i + 1))), (3, .int (nI 0)), (5, .int (V 10 i)), (0, .ref (ad 11 0)), (1, .int (nI n)), (2, .int (nI c0))]) X dX2_isPun_90 rfl (nI_1 _) (by decide) rfl ?_
              refine j_goto (tgt := 5) X dX2_isPun_93 (by decide) ?_
              refine j_lv (lv1 := [(4, .int (nI (i + 1))), (3, .int (nI 0)), (0, .ref (ad 11 0)), (1, .int (nI n)), (2, .int (nI c0))]) [0, 1, 3, 4, 5] rfl ?_
              exact ih5 (i + 1) (nI 0) ⟨by omega, bP.nn hnew⟩ (by omega)
            · skip
              refine j_iload (q := 0) X dX2_isPun_68 rfl ?_
              refine j_iload_n (q := 4) X dX2_isPun_70 rfl rfl ?_
              refine j_icmp_eq (tgt := 88) X dX2_isPun_71 (by decide) (fun c71 => ?_) (fun c71 => ?_)
              · skip
                have hno : ¬ (punS V (nI n) (V 10 i) ∧ nearC a c0 i) := fun q => q.1.1 c71.symm
                have hnew : ¬ nearB V a n c0 (i + 1) = true := fun q => (nearB_s.mp q).elim hb0 hno
                refine j_iconst (v := (nI 0)) X dX2_isPun_88 (by decide) ?_
                refine j_istore_n (lv' := [(3, .int (nI 0)), (5, .int (V 10 i)), (4, .int (nI i)), (0, .ref (ad 11 0)), (1, .int (nI n)), (2, .int (nI c0))]) X dX2_isPun_89 rfl (by decide) rfl ?_
                refine j_iinc (q := 2) (v := (nI (i + 1))) (lv' := [(4, .int (nI (i + 1))), (3, .int (nI 0)), (5, .int (V 10 i)), (0, .ref (ad 11 0)), (1, .int (nI n)), (2, .int (nI c0))]) X dX2_isPun_90 rfl (nI_1 _) (by decide) rfl ?_
                refine j_goto (tgt := 5) X dX2_isPun_93 (by decide) ?_
                refine j_lv (lv1 := [(4, .int (nI (i + 1))), (3, .int (nI 0)), (0, .ref (ad 11 0)), (1, .int (nI n)), (2, .int (nI c0))]) [0, 1, 3, 4, 5] rfl ?_
                exact ih5 (i + 1) (nI 0) ⟨by omega, bP.nn hnew⟩ (by omega)
              · skip
                have hits := hci.2.2.1.1 i (by omega)
                obtain ⟨n2, hn2, e2⟩ := hits.resolve_left c65
                rw [e2]
                refine j_aload_n (q := 3) X dX2_isPun_74 rfl rfl ?_
                refine j_iload (q := 0) X dX2_isPun_75 rfl ?_
                refine j_iload_n (q := 4) X dX2_isPun_77 rfl rfl ?_
                refine j_callVi (As := [.int (nI n2), .int (nI n)]) X (kX2_soundAlike l D ad cs A z μ M V N hw hci n2 hn2 n hn) oR rfl (cwV 2 X.1.2.2.2.2 gX2_isPun_X2_soundAlike rfl rfl rfl (by decide +kernel) ⟨Nat.le_of_ble_eq_true rfl, Nat.le_of_ble_eq_true rfl⟩) rfl rfl (Nat.le_of_ble_eq_true rfl) dX2_isPun_78 (fun r78 μ78 h78 => ?_)
                obtain ⟨h78, rfl⟩ := h78
                refine j_if_eq (tgt := 88) X dX2_isPun_81 (by decide) (fun c81 => ?_) (fun c81 => ?_)
                · skip
                  have hno : ¬ (punS V (nI n) (V 10 i) ∧ nearC a c0 i) := fun q => h78.f c81 (by have := q.1.2.2.2; rw [e2, ix_n (by omega), ix_n (by omega)] at this; exact this.symm)
                  have hnew : ¬ nearB V a n c0 (i + 1) = true := fun q => (nearB_s.mp q).elim hb0 hno
                  refine j_iconst (v := (nI 0)) X dX2_isPun_88 (by decide) ?_
                  refine j_istore_n (lv' := [(3, .int (nI 0)), (5, .int (nI n2)), (4, .int (nI i)), (0, .ref (ad 11 0)), (1, .int (nI n)), (2, .int (nI c0))]) X dX2_isPun_89 rfl (by decide) rfl ?_
                  refine j_iinc (q := 2) (v := (nI (i + 1))) (lv' := [(4, .int (nI (i + 1))), (3, .int (nI 0)), (5, .int (nI n2)), (0, .ref (ad 11 0)), (1, .int (nI n)), (2, .int (nI c0))]) X dX2_isPun_90 rfl (nI_1 _) (by decide) rfl ?_
                  refine j_goto (tgt := 5) X dX2_isPun_93 (by decide) ?_
                  refine j_lv (lv1 := [(4, .int (nI (i + 1))), (3, .int (nI 0)), (0, .ref (ad 11 0)), (1, .int (nI n)), (2, .int (nI c0))]) [0, 1, 3, 4, 5] rfl ?_
                  exact ih5 (i + 1) (nI 0) ⟨by omega, bP.nn hnew⟩ (by omega)
                · skip
                  have hnew : nearB V a n c0 (i + 1) = true := nearB_s.mpr (Or.inr ⟨⟨fun q => c71 q.symm, n_hasN hN hN20 hn, by rw [e2]; exact n_hasN hN hN20 hn2, by rw [e2, ix_n (by omega), ix_n (by omega)]; exact (h78.t c81).symm⟩, ⟨fun q => c32 q.symm, Nat.le_of_not_lt (fun w => c58 ((sub_gt (by omega) (by omega) (by omega)).mpr w)), Nat.le_of_not_lt (fun w => c45 ((sub_gt (by omega) (by omega) (by omega)).mpr w))⟩⟩)
                  refine j_iconst (v := (nI 1)) X dX2_isPun_84 (by decide) ?_
                  refine j_goto (tgt := 89) X dX2_isPun_85 (by decide) ?_
                  refine j_istore_n (lv' := [(3, .int (nI 1)), (5, .int (nI n2)), (4, .int (nI i)), (0, .ref (ad 11 0)), (1, .int (nI n)), (2, .int (nI c0))]) X dX2_isPun_89 rfl (by decide) rfl ?_
                  refine j_iinc (q := 2) (v := (nI (i + 1))) (lv' := [(4, .int (nI (i + 1))), (3, .int (nI 1)), (5, .int (nI n2)), (0, .ref (ad 11 0)), (1, .int (nI n)), (2, .int (nI c0))]) X dX2_isPun_90 rfl (nI_1 _) (by decide) rfl ?_
                  refine j_goto (tgt := 5) X dX2_isPun_93 (by decide) ?_
                  refine j_lv (lv1 := [(4, .int (nI (i + 1))), (3, .int (nI 1)), (0, .ref (ad 11 0)), (1, .int (nI n)), (2, .int (nI c0))]) [0, 1, 3, 4, 5] rfl ?_
                  exact ih5 (i + 1) (nI 1) ⟨by omega, bP.yn hnew⟩ (by omega)
set_option maxHeartbeats 4000000 in
set_option maxRecDepth 100000 in
theorem kX2_reason (l : Launch) (D : va_G) (ad : Nat → Nat → Nat) (cs : Nat → ClassId) (A : Nat → Prop) (z : Nat → Nat) (μ : Mm) (M : CV) (V : CV) (N : Nat) (hw : Rw V N (M 1)) (hci : CI V N) (a : Nat) (ha : V 1 0 = nI a) (ha11 : a ≤ 11) (n : Nat) (hn : n < N) (c0 : Nat) (hc : c0 < 12) : KI l D ad cs A z yX2_reason wsX2_reason (rm 3 69) [.ref (ad 11 0), .int (nI n), .int (nI c0)] (mb μ 11 M) (fun r μ1 => r = rsn V a n c0 ∧ μ1 = mb μ 11 M) := by
  refine KI_of (cc := cX2_reason) (maxL := 4) (ret := (some .int)) (by decide) rfl (Nat.le_of_ble_eq_true rfl) ?_
  intro p e s m args below meth c hr hlk X
  show J p l e _ s m args below meth c 0 0 _ 4 D ad cs A 0 [(0, .ref (ad 11 0)), (1, .int (nI n)), (2, .int (nI c0))] [] (mb μ 11 M)
  have hinX2 : ∀ w ∈ wsX20, w ∈ wsX2_reason := by decide +kernel
  have k7 : (Cond.fieldLink RX2 7 "PunCourtsModel" "all" "[I").before args s = true := X.1.2.2.2.2 _ (by decide +kernel)
  have hN := hci.1.1
  have hN20 := hci.1.2.1
  refine j_aload_n (q := 0) X dX2_reason_0 rfl rfl ?_
  refine j_getRB X oR hinX2 0 (by decide) rfl k7 dX2_reason_1 ?_
  refine j_sipush (v := (nI 249)) X dX2_reason_4 (by decide) ?_
  refine j_iload_n (q := 2) X dX2_reason_7 rfl rfl ?_
  refine j_iadd (v := (nI (249 + c0))) X dX2_reason_8 (nI_add _ _) ?_
  refine j_ialdB X aR_1 (249 + c0) rfl (by omega) (by decide) dX2_reason_9 ?_
  rw [hw.bo hc]
  refine j_istore_n (lv' := [(3, .int (V 10 c0)), (0, .ref (ad 11 0)), (1, .int (nI n)), (2, .int (nI c0))]) X dX2_reason_10 rfl (by decide) rfl ?_
  refine j_aload_n (q := 1) X dX2_reason_11 rfl rfl ?_
  refine j_iload_n (q := 2) X dX2_reason_12 rfl rfl ?_
  refine j_iconst (v := (nI 1)) X dX2_reason_13 (by decide) ?_
  refine j_callVi (As := [.int (nI n), .int (nI 1)]) X (kX2_get l D ad cs A z μ M n 1 (by omega) (by decide)) oR rfl (cwV 2 X.1.2.2.2.2 gX2_reason_X2_get rfl rfl rfl (by decide +kernel) ⟨Nat.le_of_ble_eq_true rfl, Nat.le_of_ble_eq_true rfl⟩) rfl rfl (Nat.le_of_ble_eq_true rfl) dX2_reason_14 (fun r14 μ14 h14 => ?_)
  obtain ⟨h14, rfl⟩ := h14
  rw [hw.wd (by omega)] at h14
  rw [h14]
  refine j_iconst (v := (nI 1)) X dX2_reason_17 (by decide) ?_
  refine j_icmp_ne (tgt := 23) X dX2_reason_18 (by decide) (fun c18 => ?_) (fun c18 => ?_)
  · skip
    have hw0 : V 8 n = 0 := (hci.2.2.2.1.2.1 n hn).elim id (fun q => absurd q c18)
    refine j_iload_n (q := 0) X dX2_reason_23 rfl rfl ?_
    refine j_iload_n (q := 2) X dX2_reason_24 rfl rfl ?_
    refine j_icmp_ne (tgt := 30) X dX2_reason_25 (by decide) (fun c25 => ?_) (fun c25 => ?_)
    · skip
      refine j_aload_n (q := 1) X dX2_reason_30 rfl rfl ?_
      refine j_iload_n (q := 2) X dX2_reason_31 rfl rfl ?_
      refine j_callVi (As := [.int (nI n)]) X (kX2_bearers l D ad cs A z μ M V N hw hci (nI n)) oR rfl (cwV 1 X.1.2.2.2.2 gX2_reason_X2_bearers rfl rfl rfl (by decide +kernel) ⟨Nat.le_of_ble_eq_true rfl, Nat.le_of_ble_eq_true rfl⟩) rfl rfl (Nat.le_of_ble_eq_true rfl) dX2_reason_32 (fun r32 μ32 h32 => ?_)
      obtain ⟨h32, rfl⟩ := h32
      rw [h32]
      refine j_callSi (As := [.int (bm V (nI n) 12)]) X (kX2_bits l D ad cs A z μ M V N hw hci (nI n)) (va_cwS 1 X.1.2.2.2.2 gX2_reason_X2_bits rfl rfl rfl (by decide +kernel) ⟨Nat.le_of_ble_eq_true rfl, Nat.le_of_ble_eq_true rfl⟩) rfl rfl (Nat.le_of_ble_eq_true rfl) dX2_reason_35 (fun r35 μ35 h35 => ?_)
      obtain ⟨h35, rfl⟩ := h35
      rw [h35]
      refine j_aload_n (q := 1) X dX2_reason_38 rfl rfl ?_
      refine j_getRB X oR hinX2 0 (by decide) rfl k7 dX2_reason_39 ?_
      refine j_iconst (v := (nI 1)) X dX2_reason_42 (by decide) ?_
      refine j_ialdB X aR_1 1 rfl (by decide) (by decide) dX2_reason_43 ?_
      rw [hw.st 1 (by decide)]
      refine j_icmp_lt (tgt := 49) X dX2_reason_44 (by decide) (fun c44 => ?_) (fun c44 => ?_)
      · skip
        refine j_aload_n (q := 1) X dX2_reason_49 rfl rfl ?_
        refine j_iload_n (q := 2) X dX2_reason_50 rfl rfl ?_
        refine j_iload_n (q := 3) X dX2_reason_51 rfl rfl ?_
        refine j_callVi (As := [.int (nI n), .int (nI c0)]) X (kX2_isPun l D ad cs A z μ M V N hw hci a ha ha11 n hn c0 hc) oR rfl (cwV 2 X.1.2.2.2.2 gX2_reason_X2_isPun rfl rfl rfl (by decide +kernel) ⟨Nat.le_of_ble_eq_true rfl, Nat.le_of_ble_eq_true rfl⟩) rfl rfl (Nat.le_of_ble_eq_true rfl) dX2_reason_52 (fun r52 μ52 h52 => ?_)
        obtain ⟨h52, rfl⟩ := h52
        refine j_if_eq (tgt := 60) X dX2_reason_55 (by decide) (fun c55 => ?_) (fun c55 => ?_)
        · skip
          have hq : ¬ nearB V a n c0 12 = true := h52.f c55
          refine j_iload_n (q := 0) X dX2_reason_60 rfl rfl ?_
          refine j_bipush (v := (-6)) X dX2_reason_61 (by decide) ?_
          refine j_icmp_ne (tgt := 68) X dX2_reason_63 (by decide) (fun c63 => ?_) (fun c63 => ?_)
          · skip
            have hits := hci.2.2.1.1 c0 hc
            obtain ⟨n2, hn2, e2⟩ := hits.resolve_left c63
            have hh2 : hasN V (V 10 c0) := by rw [e2]; exact n_hasN hN hN20 hn2
            have hix : (V 10 c0).toNatClampNeg = n2 := by rw [e2]; exact ix_n (by omega)
            rw [e2]
            refine j_aload_n (q := 1) X dX2_reason_68 rfl rfl ?_
            refine j_iload_n (q := 0) X dX2_reason_69 rfl rfl ?_
            refine j_iconst (v := (nI 0)) X dX2_reason_70 (by decide) ?_
            refine j_callVi (As := [.int (nI n2), .int (nI 0)]) X (kX2_get l D ad cs A z μ M n2 0 (by omega) (by decide)) oR rfl (cwV 2 X.1.2.2.2.2 gX2_reason_X2_get rfl rfl rfl (by decide +kernel) ⟨Nat.le_of_ble_eq_true rfl, Nat.le_of_ble_eq_true rfl⟩) rfl rfl (Nat.le_of_ble_eq_true rfl) dX2_reason_71 (fun r71 μ71 h71 => ?_)
            obtain ⟨h71, rfl⟩ := h71
            rw [hw.ho (by omega)] at h71
            rw [h71]
            refine j_aload_n (q := 1) X dX2_reason_74 rfl rfl ?_
            refine j_iload_n (q := 2) X dX2_reason_75 rfl rfl ?_
            refine j_iconst (v := (nI 0)) X dX2_reason_76 (by decide) ?_
            refine j_callVi (As := [.int (nI n), .int (nI 0)]) X (kX2_get l D ad cs A z μ M n 0 (by omega) (by decide)) oR rfl (cwV 2 X.1.2.2.2.2 gX2_reason_X2_get rfl rfl rfl (by decide +kernel) ⟨Nat.le_of_ble_eq_true rfl, Nat.le_of_ble_eq_true rfl⟩) rfl rfl (Nat.le_of_ble_eq_true rfl) dX2_reason_77 (fun r77 μ77 h77 => ?_)
            obtain ⟨h77, rfl⟩ := h77
            rw [hw.ho (by omega)] at h77
            rw [h77]
            refine j_icmp_le (tgt := 87) X dX2_reason_80 (by decide) (fun c80 => ?_) (fun c80 => ?_)
            · skip
              have h5 : ¬ (hasN V (V 10 c0) ∧ V 7 n < V 7 (V 10 c0).toNatClampNeg) := fun q => absurd q.2 (by rw [hix]; exact Int32.not_lt.mpr c80)
              refine j_aload_n (q := 1) X dX2_reason_87 rfl rfl ?_
              refine j_getRB X oR hinX2 0 (by decide) rfl k7 dX2_reason_88 ?_
              refine j_iconst (v := (nI 4)) X dX2_reason_91 (by decide) ?_
              refine j_ialdB X aR_1 4 rfl (by decide) (by decide) dX2_reason_92 ?_
              rw [hw.dy]
              refine j_aload_n (q := 1) X dX2_reason_93 rfl rfl ?_
              refine j_getRB X oR hinX2 0 (by decide) rfl k7 dX2_reason_94 ?_
              refine j_sipush (v := (nI 285)) X dX2_reason_97 (by decide) ?_
              refine j_iload_n (q := 3) X dX2_reason_100 rfl rfl ?_
              refine j_iadd (v := (nI (285 + c0))) X dX2_reason_101 (nI_add _ _) ?_
              refine j_ialdB X aR_1 (285 + c0) rfl (by omega) (by decide) dX2_reason_102 ?_
              rw [hw.da hc, if_neg c63]
              refine j_isub (v := ((V 0 1) - (V 13 c0))) X dX2_reason_103 rfl ?_
              refine j_aload_n (q := 1) X dX2_reason_104 rfl rfl ?_
              refine j_getRB X oR hinX2 0 (by decide) rfl k7 dX2_reason_105 ?_
              refine j_iconst (v := (nI 3)) X dX2_reason_108 (by decide) ?_
              refine j_ialdB X aR_1 3 rfl (by decide) (by decide) dX2_reason_109 ?_
              rw [hw.st 3 (by decide)]
              refine j_icmp_ge (tgt := 118) X dX2_reason_110 (by decide) (fun c110 => ?_) (fun c110 => ?_)
              · skip
                have h6 : ¬ (hasN V (V 10 c0) ∧ V 0 1 - V 13 c0 < V 1 3) := fun q => absurd q.2 (Int32.not_lt.mpr c110)
                refine j_iconst (v := (nI 0)) X dX2_reason_118 (by decide) ?_
                exact j_iret X hr hlk ⟨by rw [rsn, rsnq, if_neg (Classical.not_not.mpr hw0), if_neg c25, if_neg (Classical.not_not.mpr c44), if_neg hq, if_neg h5, if_neg h6]; rfl, rfl⟩ dX2_reason_119
              · skip
                refine j_bipush (v := (nI 6)) X dX2_reason_113 (by decide) ?_
                refine j_goto (tgt := 119) X dX2_reason_115 (by decide) ?_
                exact j_iret X hr hlk ⟨by rw [rsn, rsnq, if_neg (Classical.not_not.mpr hw0), if_neg c25, if_neg (Classical.not_not.mpr c44), if_neg hq, if_neg h5, if_pos ⟨hh2, Int32.not_le.mp c110⟩]; rfl, rfl⟩ dX2_reason_119
            · skip
              refine j_iconst (v := (nI 5)) X dX2_reason_83 (by decide) ?_
              refine j_goto (tgt := 119) X dX2_reason_84 (by decide) ?_
              exact j_iret X hr hlk ⟨by rw [rsn, rsnq, if_neg (Classical.not_not.mpr hw0), if_neg c25, if_neg (Classical.not_not.mpr c44), if_neg hq, if_pos ⟨hh2, by rw [hix]; exact Int32.not_le.mp c80⟩]; rfl, rfl⟩ dX2_reason_119
          · skip
            have hhn : ¬ hasN V (V 10 c0) := fun q => by have := q.1; rw [Classical.not_not.mp c63] at this; exact absurd this (by decide)
            refine j_iconst (v := (nI 0)) X dX2_reason_66 (by decide) ?_
            exact j_iret X hr hlk ⟨by rw [rsn, rsnq, if_neg (Classical.not_not.mpr hw0), if_neg c25, if_neg (Classical.not_not.mpr c44), if_neg hq, if_neg (fun q => hhn q.1), if_neg (fun q => hhn q.1)]; rfl, rfl⟩ dX2_reason_67
        · skip
          have hq : nearB V a n c0 12 = true := h52.t c55
          refine j_iconst (v := (nI 4)) X dX2_reason_58 (by decide) ?_
          exact j_iret X hr hlk ⟨by rw [rsn, rsnq, if_neg (Classical.not_not.mpr hw0), if_neg c25, if_neg (Classical.not_not.mpr c44), if_pos hq]; rfl, rfl⟩ dX2_reason_59
      · skip
        refine j_iconst (v := (nI 3)) X dX2_reason_47 (by decide) ?_
        exact j_iret X hr hlk ⟨by rw [rsn, rsnq, if_neg (Classical.not_not.mpr hw0), if_neg c25, if_pos c44]; rfl, rfl⟩ dX2_reason_48
    · skip
      refine j_iconst (v := (nI 2)) X dX2_reason_28 (by decide) ?_
      exact j_iret X hr hlk ⟨by rw [rsn, rsnq, if_neg (Classical.not_not.mpr hw0), if_pos (Classical.not_not.mp c25)]; rfl, rfl⟩ dX2_reason_29
  · skip
    have hw1 : V 8 n ≠ 0 := by rw [Classical.not_not.mp c18]; decide
    refine j_iconst (v := (nI 1)) X dX2_reason_21 (by decide) ?_
    exact j_iret X hr hlk ⟨by rw [rsn, rsnq, if_pos hw1]; rfl, rfl⟩ dX2_reason_22
set_option maxHeartbeats 4000000 in
set_option maxRecDepth 100000 in
theorem kX2_gives (l : Launch) (D : va_G) (ad : Nat → Nat → Nat) (cs : Nat → ClassId) (A : Nat → Prop) (z : Nat → Nat) (μ : Mm) (M : CV) (n : Nat) (hn : n < 20) (c0 : Nat) (hc : c0 < 12) : KV l D ad cs A z yX2_gives wsX2_gives (rm 1 23) [.ref (ad 11 0), .int (nI n), .int (nI c0)] (mb μ 11 M) (fun μ1 => μ1 = mb μ 11 (gvS M n c0)) := by
  refine KV_of (cc := cX2_gives) (maxL := 3) (ret := none) (by decide) rfl (Nat.le_of_ble_eq_true rfl) ?_
  intro p e s m args below meth c hr hlk X
  show J p l e _ s m args below meth c 0 0 _ 3 D ad cs A 0 [(0, .ref (ad 11 0)), (1, .int (nI n)), (2, .int (nI c0))] [] (mb μ 11 M)
  have hinX2 : ∀ w ∈ wsX20, w ∈ wsX2_gives := by decide +kernel
  have k7 : (Cond.fieldLink RX2 7 "PunCourtsModel" "all" "[I").before args s = true := X.1.2.2.2.2 _ (by decide +kernel)
  refine j_aload_n (q := 0) X dX2_gives_0 rfl rfl ?_
  refine j_getRB X oR hinX2 0 (by decide) rfl k7 dX2_gives_1 ?_
  refine j_sipush (v := (nI 249)) X dX2_gives_4 (by decide) ?_
  refine j_iload_n (q := 2) X dX2_gives_7 rfl rfl ?_
  refine j_iadd (v := (nI (249 + c0))) X dX2_gives_8 (nI_add _ _) ?_
  refine j_iload_n (q := 1) X dX2_gives_9 rfl rfl ?_
  refine j_iastB X aR_1 (249 + c0) rfl (by omega) (by decide) (by decide) dX2_gives_10 ?_
  refine j_nm (fun W10 eW10 => ?_)
  refine j_aload_n (q := 0) X dX2_gives_11 rfl rfl ?_
  refine j_getRB X oR hinX2 0 (by decide) rfl k7 dX2_gives_12 ?_
  refine j_sipush (v := (nI 285)) X dX2_gives_15 (by decide) ?_
  refine j_iload_n (q := 2) X dX2_gives_18 rfl rfl ?_
  refine j_iadd (v := (nI (285 + c0))) X dX2_gives_19 (nI_add _ _) ?_
  refine j_aload_n (q := 0) X dX2_gives_20 rfl rfl ?_
  refine j_getRB X oR hinX2 0 (by decide) rfl k7 dX2_gives_21 ?_
  refine j_iconst (v := (nI 4)) X dX2_gives_24 (by decide) ?_
  refine j_ialdB X aR_1 4 rfl (by decide) (by decide) dX2_gives_25 ?_
  refine j_iastB X aR_1 (285 + c0) rfl (by omega) (by decide) (by decide) dX2_gives_26 ?_
  refine j_nm (fun W26 eW26 => ?_)
  refine j_aload_n (q := 0) X dX2_gives_27 rfl rfl ?_
  refine j_getRB X oR hinX2 0 (by decide) rfl k7 dX2_gives_28 ?_
  refine j_sipush (v := (nI 297)) X dX2_gives_31 (by decide) ?_
  refine j_iload_n (q := 2) X dX2_gives_34 rfl rfl ?_
  refine j_iadd (v := (nI (297 + c0))) X dX2_gives_35 (nI_add _ _) ?_
  refine j_dup2 X dX2_gives_36 rfl rfl ?_
  refine j_ialdB X aR_1 (297 + c0) rfl (by omega) (by decide) dX2_gives_37 ?_
  refine j_iconst (v := (nI 1)) X dX2_gives_38 (by decide) ?_
  refine j_iadd (v := ((W26 1 (297 + c0)) + (nI 1))) X dX2_gives_39 rfl ?_
  refine j_iastB X aR_1 (297 + c0) rfl (by omega) (by decide) (by decide) dX2_gives_40 ?_
  refine j_nm (fun W40 eW40 => ?_)
  refine j_aload_n (q := 0) X dX2_gives_41 rfl rfl ?_
  refine j_getRB X oR hinX2 0 (by decide) rfl k7 dX2_gives_42 ?_
  refine j_sipush (v := (nI 261)) X dX2_gives_45 (by decide) ?_
  refine j_iload_n (q := 2) X dX2_gives_48 rfl rfl ?_
  refine j_iadd (v := (nI (261 + c0))) X dX2_gives_49 (nI_add _ _) ?_
  refine j_dup2 X dX2_gives_50 rfl rfl ?_
  refine j_ialdB X aR_1 (261 + c0) rfl (by omega) (by decide) dX2_gives_51 ?_
  refine j_iconst (v := (nI 2)) X dX2_gives_52 (by decide) ?_
  refine j_iadd (v := ((W40 1 (261 + c0)) + (nI 2))) X dX2_gives_53 rfl ?_
  refine j_iastB X aR_1 (261 + c0) rfl (by omega) (by decide) (by decide) dX2_gives_54 ?_
  refine j_nm (fun W54 eW54 => ?_)
  refine j_iload_n (q := 2) X dX2_gives_55 rfl rfl ?_
  refine j_if_le (tgt := 75) X dX2_gives_56 (by decide) (fun c56 => ?_) (fun c56 => ?_)
  · skip
    have h48 : ¬ 0 < c0 := fun q => absurd c56 (nI_nle q (by omega))
    refine j_iload_n (q := 2) X dX2_gives_75 rfl rfl ?_
    refine j_bipush (v := (nI 11)) X dX2_gives_76 (by decide) ?_
    refine j_ncmp_ge (tgt := 97) X c0 11 dX2_gives_78 (by decide) rfl rfl (by omega) (by omega) (fun c78 => ?_) (fun c78 => ?_)
    · skip
      have h66 : ¬ c0 < 11 := by omega
      refine j_aload_n (q := 0) X dX2_gives_97 rfl rfl ?_
      refine j_iload_n (q := 1) X dX2_gives_98 rfl rfl ?_
      refine j_iconst (v := (nI 2)) X dX2_gives_99 (by decide) ?_
      refine j_aload_n (q := 0) X dX2_gives_100 rfl rfl ?_
      refine j_iload_n (q := 1) X dX2_gives_101 rfl rfl ?_
      refine j_iconst (v := (nI 2)) X dX2_gives_102 (by decide) ?_
      refine j_callVi (As := [.int (nI n), .int (nI 2)]) X (kX2_get l D ad cs A z μ W54 n 2 hn (by decide)) oR rfl (cwV 2 X.1.2.2.2.2 gX2_gives_X2_get rfl rfl rfl (by decide +kernel) ⟨Nat.le_of_ble_eq_true rfl, Nat.le_of_ble_eq_true rfl⟩) rfl rfl (Nat.le_of_ble_eq_true rfl) dX2_gives_103 (fun r103 μ103 h103 => ?_)
      obtain ⟨h103, rfl⟩ := h103
      rw [h103]
      refine j_iconst (v := (nI 1)) X dX2_gives_106 (by decide) ?_
      refine j_iadd (v := ((W54 1 (9 + 12 * n + 2)) + (nI 1))) X dX2_gives_107 rfl ?_
      refine j_callVv (As := [.int (nI n), .int (nI 2), .int ((W54 1 (9 + 12 * n + 2)) + (nI 1))]) X (kX2_lays l D ad cs A z μ W54 n 2 hn (by decide) (W54 1 (9 + 12 * n + 2) + nI 1)) oR rfl (cwV 3 X.1.2.2.2.2 gX2_gives_X2_lays rfl rfl rfl (by decide +kernel) ⟨Nat.le_of_ble_eq_true rfl, Nat.le_of_ble_eq_true rfl⟩) rfl rfl (Nat.le_of_ble_eq_true rfl) dX2_gives_108 (fun μ108 h108 => ?_)
      subst h108
      refine j_nm (fun W108 eW108 => ?_)
      refine j_aload_n (q := 0) X dX2_gives_111 rfl rfl ?_
      refine j_getRB X oR hinX2 0 (by decide) rfl k7 dX2_gives_112 ?_
      refine j_bipush (v := (nI 8)) X dX2_gives_115 (by decide) ?_
      refine j_dup2 X dX2_gives_117 rfl rfl ?_
      refine j_ialdB X aR_1 8 rfl (by decide) (by decide) dX2_gives_118 ?_
      refine j_iconst (v := (nI 1)) X dX2_gives_119 (by decide) ?_
      refine j_iadd (v := ((W108 1 8) + (nI 1))) X dX2_gives_120 rfl ?_
      refine j_iastB X aR_1 8 rfl (by decide) (by decide) (by decide) dX2_gives_121 ?_
      refine j_nm (fun W121 eW121 => ?_)
      exact j_vret X hr hlk (congrArg (mb μ 11) (by rw [gvS, gvL, if_neg h48, gvR, if_neg h66]; subst_vars; rfl)) dX2_gives_122
    · skip
      have h66 : c0 < 11 := by omega
      refine j_aload_n (q := 0) X dX2_gives_81 rfl rfl ?_
      refine j_getRB X oR hinX2 0 (by decide) rfl k7 dX2_gives_82 ?_
      refine j_sipush (v := (nI 261)) X dX2_gives_85 (by decide) ?_
      refine j_iload_n (q := 2) X dX2_gives_88 rfl rfl ?_
      refine j_iadd (v := (nI (261 + c0))) X dX2_gives_89 (nI_add _ _) ?_
      refine j_iconst (v := (nI 1)) X dX2_gives_90 (by decide) ?_
      refine j_iadd (v := (nI ((261 + c0) + 1))) X dX2_gives_91 (nI_add _ _) ?_
      refine j_dup2 X dX2_gives_92 rfl rfl ?_
      refine j_ialdB X aR_1 ((261 + c0) + 1) rfl (by omega) (by decide) dX2_gives_93 ?_
      refine j_iconst (v := (nI 1)) X dX2_gives_94 (by decide) ?_
      refine j_iadd (v := ((W54 1 ((261 + c0) + 1)) + (nI 1))) X dX2_gives_95 rfl ?_
      refine j_iastB X aR_1 ((261 + c0) + 1) rfl (by omega) (by decide) (by decide) dX2_gives_96 ?_
      refine j_nm (fun W96 eW96 => ?_)
      refine j_aload_n (q := 0) X dX2_gives_97 rfl rfl ?_
      refine j_iload_n (q := 1) X dX2_gives_98 rfl rfl ?_
      refine j_iconst (v := (nI 2)) X dX2_gives_99 (by decide) ?_
      refine j_aload_n (q := 0) X dX2_gives_100 rfl rfl ?_
      refine j_iload_n (q := 1) X dX2_gives_101 rfl rfl ?_
      refine j_iconst (v := (nI 2)) X dX2_gives_102 (by decide) ?_
      refine j_callVi (As := [.int (nI n), .int (nI 2)]) X (kX2_get l D ad cs A z μ W96 n 2 hn (by decide)) oR rfl (cwV 2 X.1.2.2.2.2 gX2_gives_X2_get rfl rfl rfl (by decide +kernel) ⟨Nat.le_of_ble_eq_true rfl, Nat.le_of_ble_eq_true rfl⟩) rfl rfl (Nat.le_of_ble_eq_true rfl) dX2_gives_103 (fun r103 μ103 h103 => ?_)
      obtain ⟨h103, rfl⟩ := h103
      rw [h103]
      refine j_iconst (v := (nI 1)) X dX2_gives_106 (by decide) ?_
      refine j_iadd (v := ((W96 1 (9 + 12 * n + 2)) + (nI 1))) X dX2_gives_107 rfl ?_
      refine j_callVv (As := [.int (nI n), .int (nI 2), .int ((W96 1 (9 + 12 * n + 2)) + (nI 1))]) X (kX2_lays l D ad cs A z μ W96 n 2 hn (by decide) (W96 1 (9 + 12 * n + 2) + nI 1)) oR rfl (cwV 3 X.1.2.2.2.2 gX2_gives_X2_lays rfl rfl rfl (by decide +kernel) ⟨Nat.le_of_ble_eq_true rfl, Nat.le_of_ble_eq_true rfl⟩) rfl rfl (Nat.le_of_ble_eq_true rfl) dX2_gives_108 (fun μ108 h108 => ?_)
      subst h108
      refine j_nm (fun W108 eW108 => ?_)
      refine j_aload_n (q := 0) X dX2_gives_111 rfl rfl ?_
      refine j_getRB X oR hinX2 0 (by decide) rfl k7 dX2_gives_112 ?_
      refine j_bipush (v := (nI 8)) X dX2_gives_115 (by decide) ?_
      refine j_dup2 X dX2_gives_117 rfl rfl ?_
      refine j_ialdB X aR_1 8 rfl (by decide) (by decide) dX2_gives_118 ?_
      refine j_iconst (v := (nI 1)) X dX2_gives_119 (by decide) ?_
      refine j_iadd (v := ((W108 1 8) + (nI 1))) X dX2_gives_120 rfl ?_
      refine j_iastB X aR_1 8 rfl (by decide) (by decide) (by decide) dX2_gives_121 ?_
      refine j_nm (fun W121 eW121 => ?_)
      exact j_vret X hr hlk (congrArg (mb μ 11) (by rw [gvS, gvL, if_neg h48, gvR, if_pos h66]; subst_vars; rfl)) dX2_gives_122
  · skip
    have h48 : 0 < c0 := pos_of c56
    refine j_aload_n (q := 0) X dX2_gives_59 rfl rfl ?_
    refine j_getRB X oR hinX2 0 (by decide) rfl k7 dX2_gives_60 ?_
    refine j_sipush (v := (nI 261)) X dX2_gives_63 (by decide) ?_
    refine j_iload_n (q := 2) X dX2_gives_66 rfl rfl ?_
    refine j_iadd (v := (nI (261 + c0))) X dX2_gives_67 (nI_add _ _) ?_
    refine j_iconst (v := (nI 1)) X dX2_gives_68 (by decide) ?_
    refine j_isub (v := (nI ((261 + c0) - 1))) X dX2_gives_69 (pk_sub (by omega)) ?_
    refine j_dup2 X dX2_gives_70 rfl rfl ?_
    refine j_ialdB X aR_1 ((261 + c0) - 1) rfl (by omega) (by decide) dX2_gives_71 ?_
    refine j_iconst (v := (nI 1)) X dX2_gives_72 (by decide) ?_
    refine j_iadd (v := ((W54 1 ((261 + c0) - 1)) + (nI 1))) X dX2_gives_73 rfl ?_
    refine j_iastB X aR_1 ((261 + c0) - 1) rfl (by omega) (by decide) (by decide) dX2_gives_74 ?_
    refine j_nm (fun W74 eW74 => ?_)
    refine j_iload_n (q := 2) X dX2_gives_75 rfl rfl ?_
    refine j_bipush (v := (nI 11)) X dX2_gives_76 (by decide) ?_
    refine j_ncmp_ge (tgt := 97) X c0 11 dX2_gives_78 (by decide) rfl rfl (by omega) (by omega) (fun c78 => ?_) (fun c78 => ?_)
    · skip
      have h66 : ¬ c0 < 11 := by omega
      refine j_aload_n (q := 0) X dX2_gives_97 rfl rfl ?_
      refine j_iload_n (q := 1) X dX2_gives_98 rfl rfl ?_
      refine j_iconst (v := (nI 2)) X dX2_gives_99 (by decide) ?_
      refine j_aload_n (q := 0) X dX2_gives_100 rfl rfl ?_
      refine j_iload_n (q := 1) X dX2_gives_101 rfl rfl ?_
      refine j_iconst (v := (nI 2)) X dX2_gives_102 (by decide) ?_
      refine j_callVi (As := [.int (nI n), .int (nI 2)]) X (kX2_get l D ad cs A z μ W74 n 2 hn (by decide)) oR rfl (cwV 2 X.1.2.2.2.2 gX2_gives_X2_get rfl rfl rfl (by decide +kernel) ⟨Nat.le_of_ble_eq_true rfl, Nat.le_of_ble_eq_true rfl⟩) rfl rfl (Nat.le_of_ble_eq_true rfl) dX2_gives_103 (fun r103 μ103 h103 => ?_)
      obtain ⟨h103, rfl⟩ := h103
      rw [h103]
      refine j_iconst (v := (nI 1)) X dX2_gives_106 (by decide) ?_
      refine j_iadd (v := ((W74 1 (9 + 12 * n + 2)) + (nI 1))) X dX2_gives_107 rfl ?_
      refine j_callVv (As := [.int (nI n), .int (nI 2), .int ((W74 1 (9 + 12 * n + 2)) + (nI 1))]) X (kX2_lays l D ad cs A z μ W74 n 2 hn (by decide) (W74 1 (9 + 12 * n + 2) + nI 1)) oR rfl (cwV 3 X.1.2.2.2.2 gX2_gives_X2_lays rfl rfl rfl (by decide +kernel) ⟨Nat.le_of_ble_eq_true rfl, Nat.le_of_ble_eq_true rfl⟩) rfl rfl (Nat.le_of_ble_eq_true rfl) dX2_gives_108 (fun μ108 h108 => ?_)
      subst h108
      refine j_nm (fun W108 eW108 => ?_)
      refine j_aload_n (q := 0) X dX2_gives_111 rfl rfl ?_
      refine j_getRB X oR hinX2 0 (by decide) rfl k7 dX2_gives_112 ?_
      refine j_bipush (v := (nI 8)) X dX2_gives_115 (by decide) ?_
      refine j_dup2 X dX2_gives_117 rfl rfl ?_
      refine j_ialdB X aR_1 8 rfl (by decide) (by decide) dX2_gives_118 ?_
      refine j_iconst (v := (nI 1)) X dX2_gives_119 (by decide) ?_
      refine j_iadd (v := ((W108 1 8) + (nI 1))) X dX2_gives_120 rfl ?_
      refine j_iastB X aR_1 8 rfl (by decide) (by decide) (by decide) dX2_gives_121 ?_
      refine j_nm (fun W121 eW121 => ?_)
      exact j_vret X hr hlk (congrArg (mb μ 11) (by rw [gvS, gvL, if_pos h48, gvR, if_neg h66]; subst_vars; rfl)) dX2_gives_122
    · skip
      have h66 : c0 < 11 := by omega
      refine j_aload_n (q := 0) X dX2_gives_81 rfl rfl ?_
      refine j_getRB X oR hinX2 0 (by decide) rfl k7 dX2_gives_82 ?_
      refine j_sipush (v := (nI 261)) X dX2_gives_85 (by decide) ?_
      refine j_iload_n (q := 2) X dX2_gives_88 rfl rfl ?_
      refine j_iadd (v := (nI (261 + c0))) X dX2_gives_89 (nI_add _ _) ?_
      refine j_iconst (v := (nI 1)) X dX2_gives_90 (by decide) ?_
      refine j_iadd (v := (nI ((261 + c0) + 1))) X dX2_gives_91 (nI_add _ _) ?_
      refine j_dup2 X dX2_gives_92 rfl rfl ?_
      refine j_ialdB X aR_1 ((261 + c0) + 1) rfl (by omega) (by decide) dX2_gives_93 ?_
      refine j_iconst (v := (nI 1)) X dX2_gives_94 (by decide) ?_
      refine j_iadd (v := ((W74 1 ((261 + c0) + 1)) + (nI 1))) X dX2_gives_95 rfl ?_
      refine j_iastB X aR_1 ((261 + c0) + 1) rfl (by omega) (by decide) (by decide) dX2_gives_96 ?_
      refine j_nm (fun W96 eW96 => ?_)
      refine j_aload_n (q := 0) X dX2_gives_97 rfl rfl ?_
      refine j_iload_n (q := 1) X dX2_gives_98 rfl rfl ?_
      refine j_iconst (v := (nI 2)) X dX2_gives_99 (by decide) ?_
      refine j_aload_n (q := 0) X dX2_gives_100 rfl rfl ?_
      refine j_iload_n (q := 1) X dX2_gives_101 rfl rfl ?_
      refine j_iconst (v := (nI 2)) X dX2_gives_102 (by decide) ?_
      refine j_callVi (As := [.int (nI n), .int (nI 2)]) X (kX2_get l D ad cs A z μ W96 n 2 hn (by decide)) oR rfl (cwV 2 X.1.2.2.2.2 gX2_gives_X2_get rfl rfl rfl (by decide +kernel) ⟨Nat.le_of_ble_eq_true rfl, Nat.le_of_ble_eq_true rfl⟩) rfl rfl (Nat.le_of_ble_eq_true rfl) dX2_gives_103 (fun r103 μ103 h103 => ?_)
      obtain ⟨h103, rfl⟩ := h103
      rw [h103]
      refine j_iconst (v := (nI 1)) X dX2_gives_106 (by decide) ?_
      refine j_iadd (v := ((W96 1 (9 + 12 * n + 2)) + (nI 1))) X dX2_gives_107 rfl ?_
      refine j_callVv (As := [.int (nI n), .int (nI 2), .int ((W96 1 (9 + 12 * n + 2)) + (nI 1))]) X (kX2_lays l D ad cs A z μ W96 n 2 hn (by decide) (W96 1 (9 + 12 * n + 2) + nI 1)) oR rfl (cwV 3 X.1.2.2.2.2 gX2_gives_X2_lays rfl rfl rfl (by decide +kernel) ⟨Nat.le_of_ble_eq_true rfl, Nat.le_of_ble_eq_true rfl⟩) rfl rfl (Nat.le_of_ble_eq_true rfl) dX2_gives_108 (fun μ108 h108 => ?_)
      subst h108
      refine j_nm (fun W108 eW108 => ?_)
      refine j_aload_n (q := 0) X dX2_gives_111 rfl rfl ?_
      refine j_getRB X oR hinX2 0 (by decide) rfl k7 dX2_gives_112 ?_
      refine j_bipush (v := (nI 8)) X dX2_gives_115 (by decide) ?_
      refine j_dup2 X dX2_gives_117 rfl rfl ?_
      refine j_ialdB X aR_1 8 rfl (by decide) (by decide) dX2_gives_118 ?_
      refine j_iconst (v := (nI 1)) X dX2_gives_119 (by decide) ?_
      refine j_iadd (v := ((W108 1 8) + (nI 1))) X dX2_gives_120 rfl ?_
      refine j_iastB X aR_1 8 rfl (by decide) (by decide) (by decide) dX2_gives_121 ?_
      refine j_nm (fun W121 eW121 => ?_)
      exact j_vret X hr hlk (congrArg (mb μ 11) (by rw [gvS, gvL, if_pos h48, gvR, if_pos h66]; subst_vars; rfl)) dX2_gives_122
set_option maxHeartbeats 4000000 in
set_option maxRecDepth 100000 in
theorem kX2_takesAway (l : Launch) (D : va_G) (ad : Nat → Nat → Nat) (cs : Nat → ClassId) (A : Nat → Prop) (z : Nat → Nat) (μ : Mm) (M : CV) (c0 : Nat) (hc : c0 < 12) : KV l D ad cs A z yX2_takesAway wsX2_takesAway (rm 0 0) [.ref (ad 11 0), .int (nI c0)] (mb μ 11 M) (fun μ1 => μ1 = mb μ 11 (us (us M 1 (249 + c0) (-6)) 1 (285 + c0) (-6))) := by
  refine KV_of (cc := cX2_takesAway) (maxL := 2) (ret := none) (by decide) rfl (Nat.le_of_ble_eq_true rfl) ?_
  intro p e s m args below meth c hr hlk X
  show J p l e _ s m args below meth c 0 0 _ 2 D ad cs A 0 [(0, .ref (ad 11 0)), (1, .int (nI c0))] [] (mb μ 11 M)
  have hinX2 : ∀ w ∈ wsX20, w ∈ wsX2_takesAway := by decide +kernel
  have k7 : (Cond.fieldLink RX2 7 "PunCourtsModel" "all" "[I").before args s = true := X.1.2.2.2.2 _ (by decide +kernel)
  refine j_aload_n (q := 0) X dX2_takesAway_0 rfl rfl ?_
  refine j_getRB X oR hinX2 0 (by decide) rfl k7 dX2_takesAway_1 ?_
  refine j_sipush (v := (nI 249)) X dX2_takesAway_4 (by decide) ?_
  refine j_iload_n (q := 1) X dX2_takesAway_7 rfl rfl ?_
  refine j_iadd (v := (nI (249 + c0))) X dX2_takesAway_8 (nI_add _ _) ?_
  refine j_bipush (v := (-6)) X dX2_takesAway_9 (by decide) ?_
  refine j_iastB X aR_1 (249 + c0) rfl (by omega) (by decide) (by decide) dX2_takesAway_11 ?_
  refine j_aload_n (q := 0) X dX2_takesAway_12 rfl rfl ?_
  refine j_getRB X oR hinX2 0 (by decide) rfl k7 dX2_takesAway_13 ?_
  refine j_sipush (v := (nI 285)) X dX2_takesAway_16 (by decide) ?_
  refine j_iload_n (q := 1) X dX2_takesAway_19 rfl rfl ?_
  refine j_iadd (v := (nI (285 + c0))) X dX2_takesAway_20 (nI_add _ _) ?_
  refine j_bipush (v := (-6)) X dX2_takesAway_21 (by decide) ?_
  refine j_iastB X aR_1 (285 + c0) rfl (by omega) (by decide) (by decide) dX2_takesAway_23 ?_
  exact j_vret X hr hlk rfl dX2_takesAway_24
set_option maxHeartbeats 4000000 in
set_option maxRecDepth 100000 in
theorem kX2_lowest (l : Launch) (D : va_G) (ad : Nat → Nat → Nat) (cs : Nat → ClassId) (A : Nat → Prop) (z : Nat → Nat) (μ : Mm) (M : CV) (V : CV) (N : Nat) (hw : Rw V N (M 1)) (hci : CI V N) (a : Nat) (ha : V 1 0 = nI a) (ha11 : a ≤ 11) (n : Nat) (hn : n < N) : KI l D ad cs A z yX2_lowest wsX2_lowest (rm 4 92) [.ref (ad 11 0), .int (nI n)] (mb μ 11 M) (fun r μ1 => r = low (rsn V a n) ∧ μ1 = mb μ 11 M) := by
  refine KI_of (cc := cX2_lowest) (maxL := 3) (ret := (some .int)) (by decide) rfl (Nat.le_of_ble_eq_true rfl) ?_
  intro p e s m args below meth c hr hlk X
  show J p l e _ s m args below meth c 0 0 _ 3 D ad cs A 0 [(0, .ref (ad 11 0)), (1, .int (nI n))] [] (mb μ 11 M)
  have hN := hci.1.1
  have hN20 := hci.1.2.1
  refine j_iconst (v := (nI 0)) X dX2_lowest_0 (by decide) ?_
  refine j_istore_n (lv' := [(2, .int (nI 0)), (0, .ref (ad 11 0)), (1, .int (nI n))]) X dX2_lowest_1 rfl (by decide) rfl ?_
  refine jl1 (G := J p l e _ s m args below meth c 0 0 _ _ D ad cs A) (pc := 2) (fun (i : Nat) => [(2, .int (nI i)), (0, .ref (ad 11 0)), (1, .int (nI n))]) (fun (i : Nat) => (mb μ 11 M)) (fun (i : Nat) => i ≤ 12 ∧ lw (rsn V a n) i = i) (fun (i : Nat) => 12 - i) ?_ 0 ⟨by omega, rfl⟩
  intro i hI2 ih2
  try dsimp only at ih2 ⊢
  obtain ⟨hi, hl⟩ := hI2
  refine j_iload_n (q := 0) X dX2_lowest_2 rfl rfl ?_
  refine j_bipush (v := (nI 12)) X dX2_lowest_3 (by decide) ?_
  refine j_ncmp_ge (tgt := 25) X i 12 dX2_lowest_5 (by decide) rfl rfl (by omega) (by omega) (fun c5 => ?_) (fun c5 => ?_)
  · skip
    refine j_bipush (v := (-6)) X dX2_lowest_25 (by decide) ?_
    exact j_iret X hr hlk ⟨by rw [low, if_neg (by rw [show i = 12 by omega] at hl; omega)], rfl⟩ dX2_lowest_27
  · skip
    refine j_aload_n (q := 1) X dX2_lowest_8 rfl rfl ?_
    refine j_iload_n (q := 2) X dX2_lowest_9 rfl rfl ?_
    refine j_iload_n (q := 0) X dX2_lowest_10 rfl rfl ?_
    refine j_callVi (As := [.int (nI n), .int (nI i)]) X (kX2_reason l D ad cs A z μ M V N hw hci a ha ha11 n hn i (by omega)) oR rfl (cwV 2 X.1.2.2.2.2 gX2_lowest_X2_reason rfl rfl rfl (by decide +kernel) ⟨Nat.le_of_ble_eq_true rfl, Nat.le_of_ble_eq_true rfl⟩) rfl rfl (Nat.le_of_ble_eq_true rfl) dX2_lowest_11 (fun r11 μ11 h11 => ?_)
    obtain ⟨h11, rfl⟩ := h11
    rw [h11]
    refine j_if_ne (tgt := 19) X dX2_lowest_14 (by decide) (fun c14 => ?_) (fun c14 => ?_)
    · skip
      refine j_iinc (q := 0) (v := (nI (i + 1))) (lv' := [(2, .int (nI (i + 1))), (0, .ref (ad 11 0)), (1, .int (nI n))]) X dX2_lowest_19 rfl (nI_1 _) (by decide) rfl ?_
      refine j_goto (tgt := 2) X dX2_lowest_22 (by decide) ?_
      exact ih2 (i + 1) ⟨by omega, lw_go hl c14⟩ (by omega)
    · skip
      refine j_iload_n (q := 0) X dX2_lowest_17 rfl rfl ?_
      exact j_iret X hr hlk ⟨by rw [low, lw_hit hl (Classical.not_not.mp c14) 12 (by omega), if_pos (by omega)], rfl⟩ dX2_lowest_18
set_option maxHeartbeats 4000000 in
set_option maxRecDepth 100000 in
theorem kX2_sum (l : Launch) (D : va_G) (ad : Nat → Nat → Nat) (cs : Nat → ClassId) (A : Nat → Prop) (z : Nat → Nat) (μ : Mm) (M : CV) (w : Nat) (hw12 : w ≤ 300) : KI l D ad cs A z yX2_sum wsX2_sum (rm 0 0) [.ref (ad 11 0), .int (nI w)] (mb μ 11 M) (fun r μ1 => r = sm (fun c => M 1 (w + c)) 12 ∧ μ1 = mb μ 11 M) := by
  refine KI_of (cc := cX2_sum) (maxL := 4) (ret := (some .int)) (by decide) rfl (Nat.le_of_ble_eq_true rfl) ?_
  intro p e s m args below meth c hr hlk X
  show J p l e _ s m args below meth c 0 0 _ 4 D ad cs A 0 [(0, .ref (ad 11 0)), (1, .int (nI w))] [] (mb μ 11 M)
  have hinX2 : ∀ w ∈ wsX20, w ∈ wsX2_sum := by decide +kernel
  have k7 : (Cond.fieldLink RX2 7 "PunCourtsModel" "all" "[I").before args s = true := X.1.2.2.2.2 _ (by decide +kernel)
  refine j_iconst (v := (nI 0)) X dX2_sum_0 (by decide) ?_
  refine j_istore_n (lv' := [(2, .int (nI 0)), (0, .ref (ad 11 0)), (1, .int (nI w))]) X dX2_sum_1 rfl (by decide) rfl ?_
  refine j_iconst (v := (nI 0)) X dX2_sum_2 (by decide) ?_
  refine j_istore_n (lv' := [(3, .int (nI 0)), (2, .int (nI 0)), (0, .ref (ad 11 0)), (1, .int (nI w))]) X dX2_sum_3 rfl (by decide) rfl ?_
  refine jl2 (G := J p l e _ s m args below meth c 0 0 _ _ D ad cs A) (pc := 4) (fun (i : Nat) (r : Int32) => [(3, .int (nI i)), (2, .int r), (0, .ref (ad 11 0)), (1, .int (nI w))]) (fun (i : Nat) (r : Int32) => (mb μ 11 M)) (fun (i : Nat) (r : Int32) => i ≤ 12 ∧ r = sm (fun c => M 1 (w + c)) i) (fun (i : Nat) (r : Int32) => 12 - i) ?_ 0 (nI 0) ⟨by omega, rfl⟩
  intro i r hI4 ih4
  try dsimp only at ih4 ⊢
  obtain ⟨hi, hrr⟩ := hI4
  refine j_iload_n (q := 0) X dX2_sum_4 rfl rfl ?_
  refine j_bipush (v := (nI 12)) X dX2_sum_5 (by decide) ?_
  refine j_ncmp_ge (tgt := 27) X i 12 dX2_sum_7 (by decide) rfl rfl (by omega) (by omega) (fun c7 => ?_) (fun c7 => ?_)
  · skip
    refine j_iload_n (q := 1) X dX2_sum_27 rfl rfl ?_
    exact j_iret X hr hlk ⟨by rw [hrr, show i = 12 by omega], rfl⟩ dX2_sum_28
  · skip
    refine j_iload_n (q := 1) X dX2_sum_10 rfl rfl ?_
    refine j_aload_n (q := 2) X dX2_sum_11 rfl rfl ?_
    refine j_getRB X oR hinX2 0 (by decide) rfl k7 dX2_sum_12 ?_
    refine j_iload_n (q := 3) X dX2_sum_15 rfl rfl ?_
    refine j_iload_n (q := 0) X dX2_sum_16 rfl rfl ?_
    refine j_iadd (v := (nI (w + i))) X dX2_sum_17 (nI_add _ _) ?_
    refine j_ialdB X aR_1 (w + i) rfl (by omega) (by decide) dX2_sum_18 ?_
    refine j_iadd (v := (r + (M 1 (w + i)))) X dX2_sum_19 rfl ?_
    refine j_istore_n (lv' := [(2, .int (r + (M 1 (w + i)))), (3, .int (nI i)), (0, .ref (ad 11 0)), (1, .int (nI w))]) X dX2_sum_20 rfl (by decide) rfl ?_
    refine j_iinc (q := 1) (v := (nI (i + 1))) (lv' := [(3, .int (nI (i + 1))), (2, .int (r + (M 1 (w + i)))), (0, .ref (ad 11 0)), (1, .int (nI w))]) X dX2_sum_21 rfl (nI_1 _) (by decide) rfl ?_
    refine j_goto (tgt := 4) X dX2_sum_24 (by decide) ?_
    exact ih4 (i + 1) (r + (M 1 (w + i))) ⟨by omega, by rw [sm, ← hrr]⟩ (by omega)
set_option maxHeartbeats 4000000 in
set_option maxRecDepth 100000 in
theorem kX2_nextGiven (l : Launch) (D : va_G) (ad : Nat → Nat → Nat) (cs : Nat → ClassId) (A : Nat → Prop) (z : Nat → Nat) (μ : Mm) (M : CV) (V : CV) (N : Nat) (hw : Rw V N (M 1)) (hci : CI V N) (a : Nat) (ha : V 1 0 = nI a) (ha11 : a ≤ 11) : KI l D ad cs A z yX2_nextGiven wsX2_nextGiven (rm 5 114) [.ref (ad 11 0)] (mb μ 11 M) (fun r μ1 => r = bI (pkN V a N) ∧ μ1 = mb μ 11 M) := by
  refine KI_of (cc := cX2_nextGiven) (maxL := 4) (ret := (some .int)) (by decide) rfl (Nat.le_of_ble_eq_true rfl) ?_
  intro p e s m args below meth c hr hlk X
  show J p l e _ s m args below meth c 0 0 _ 4 D ad cs A 0 [(0, .ref (ad 11 0))] [] (mb μ 11 M)
  have hinX2 : ∀ w ∈ wsX20, w ∈ wsX2_nextGiven := by decide +kernel
  have k7 : (Cond.fieldLink RX2 7 "PunCourtsModel" "all" "[I").before args s = true := X.1.2.2.2.2 _ (by decide +kernel)
  have hN := hci.1.1
  have hN20 := hci.1.2.1
  refine j_bipush (v := (bI 20)) X dX2_nextGiven_0 (by decide) ?_
  refine j_istore_n (lv' := [(1, .int (bI 20)), (0, .ref (ad 11 0))]) X dX2_nextGiven_2 rfl (by decide) rfl ?_
  refine j_iconst (v := (nI 0)) X dX2_nextGiven_3 (by decide) ?_
  refine j_istore_n (lv' := [(2, .int (nI 0)), (1, .int (bI 20)), (0, .ref (ad 11 0))]) X dX2_nextGiven_4 rfl (by decide) rfl ?_
  refine jl2 (G := J p l e _ s m args below meth c 0 0 _ _ D ad cs A) (pc := 5) (fun (i : Nat) (k : Nat) => [(2, .int (nI i)), (1, .int (bI k)), (0, .ref (ad 11 0))]) (fun (i : Nat) (k : Nat) => (mb μ 11 M)) (fun (i : Nat) (k : Nat) => i ≤ N ∧ k = pkN V a i) (fun (i : Nat) (k : Nat) => N - i) ?_ 0 20 ⟨by omega, rfl⟩
  intro i k hI5 ih5
  try dsimp only at ih5 ⊢
  obtain ⟨hi, hk⟩ := hI5
  have hk2 : k ≤ 20 := by have := pkN_lt V a i; omega
  refine j_iload_n (q := 0) X dX2_nextGiven_5 rfl rfl ?_
  refine j_aload_n (q := 2) X dX2_nextGiven_6 rfl rfl ?_
  refine j_getRB X oR hinX2 0 (by decide) rfl k7 dX2_nextGiven_7 ?_
  refine j_iconst (v := (nI 5)) X dX2_nextGiven_10 (by decide) ?_
  refine j_ialdB X aR_1 5 rfl (by decide) (by decide) dX2_nextGiven_11 ?_
  rw [hw.nm, hN]
  refine j_ncmp_ge (tgt := 70) X i N dX2_nextGiven_12 (by decide) rfl rfl (by omega) (by omega) (fun c12 => ?_) (fun c12 => ?_)
  · skip
    refine j_iload_n (q := 1) X dX2_nextGiven_70 rfl rfl ?_
    exact j_iret X hr hlk ⟨by rw [hk, show i = N by omega], rfl⟩ dX2_nextGiven_71
  · skip
    refine j_aload_n (q := 2) X dX2_nextGiven_15 rfl rfl ?_
    refine j_iload_n (q := 0) X dX2_nextGiven_16 rfl rfl ?_
    refine j_callVi (As := [.int (nI i)]) X (kX2_whereIs l D ad cs A z μ M V N hw hci i (by omega)) oR rfl (cwV 1 X.1.2.2.2.2 gX2_nextGiven_X2_whereIs rfl rfl rfl (by decide +kernel) ⟨Nat.le_of_ble_eq_true rfl, Nat.le_of_ble_eq_true rfl⟩) rfl rfl (Nat.le_of_ble_eq_true rfl) dX2_nextGiven_17 (fun r17 μ17 h17 => ?_)
    obtain ⟨h17, rfl⟩ := h17
    rw [h17]
    refine j_if_ne (tgt := 52) X dX2_nextGiven_20 (by decide) (fun c20 => ?_) (fun c20 => ?_)
    · skip
      have hs : ¬ (wh V i = 0 ∧ (k = 20 ∨ befS V i k) ∧ low (rsn V a i) ≠ -6) := fun q => c20 q.1
      refine j_iconst (v := (nI 0)) X dX2_nextGiven_52 (by decide) ?_
      refine j_istore_n (lv' := [(3, .int (nI 0)), (2, .int (nI i)), (1, .int (bI k)), (0, .ref (ad 11 0))]) X dX2_nextGiven_53 rfl (by decide) rfl ?_
      refine j_iload_n (q := 0) X dX2_nextGiven_54 rfl rfl ?_
      refine j_if_eq (tgt := 62) X dX2_nextGiven_55 (by decide) (fun c55 => ?_) (fun c55 => absurd (by decide) c55)
      refine j_iload_n (q := 2) X dX2_nextGiven_62 rfl rfl ?_
      refine j_istore_n (lv' := [(1, .int (bI k)), (3, .int (nI 0)), (2, .int (nI i)), (0, .ref (ad 11 0))]) X dX2_nextGiven_63 rfl (by decide) rfl ?_
      refine j_iinc (q := 2) (v := (nI (i + 1))) (lv' := [(2, .int (nI (i + 1))), (1, .int (bI k)), (3, .int (nI 0)), (0, .ref (ad 11 0))]) X dX2_nextGiven_64 rfl (nI_1 _) (by decide) rfl ?_
      refine j_goto (tgt := 5) X dX2_nextGiven_67 (by decide) ?_
      refine j_lv (lv1 := [(2, .int (nI (i + 1))), (1, .int (bI k)), (0, .ref (ad 11 0))]) [0, 1, 3] rfl ?_
      refine j_lvq (lv1 := [(2, .int (nI (i + 1))), (1, .int (bI k)), (0, .ref (ad 11 0))]) (rfl) ?_
      exact ih5 (i + 1) k ⟨by omega, by rw [pkN, ← hk]; exact (if_neg hs).symm⟩ (by omega)
    · skip
      refine j_iload_n (q := 1) X dX2_nextGiven_23 rfl rfl ?_
      refine j_bipush (v := (-6)) X dX2_nextGiven_24 (by decide) ?_
      refine j_icmp_eq (tgt := 38) X dX2_nextGiven_26 (by decide) (fun c26 => ?_) (fun c26 => ?_)
      · skip
        have hor : k = 20 ∨ befS V i k := Or.inl ((bI_6 (by omega)).mp c26)
        refine j_aload_n (q := 2) X dX2_nextGiven_38 rfl rfl ?_
        refine j_iload_n (q := 0) X dX2_nextGiven_39 rfl rfl ?_
        refine j_callVi (As := [.int (nI i)]) X (kX2_lowest l D ad cs A z μ M V N hw hci a ha ha11 i (by omega)) oR rfl (cwV 1 X.1.2.2.2.2 gX2_nextGiven_X2_lowest rfl rfl rfl (by decide +kernel) ⟨Nat.le_of_ble_eq_true rfl, Nat.le_of_ble_eq_true rfl⟩) rfl rfl (Nat.le_of_ble_eq_true rfl) dX2_nextGiven_40 (fun r40 μ40 h40 => ?_)
        obtain ⟨h40, rfl⟩ := h40
        rw [h40]
        refine j_bipush (v := (-6)) X dX2_nextGiven_43 (by decide) ?_
        refine j_icmp_eq (tgt := 52) X dX2_nextGiven_45 (by decide) (fun c45 => ?_) (fun c45 => ?_)
        · skip
          have hs : ¬ (wh V i = 0 ∧ (k = 20 ∨ befS V i k) ∧ low (rsn V a i) ≠ -6) := fun q => q.2.2 c45
          refine j_iconst (v := (nI 0)) X dX2_nextGiven_52 (by decide) ?_
          refine j_istore_n (lv' := [(3, .int (nI 0)), (2, .int (nI i)), (1, .int (bI k)), (0, .ref (ad 11 0))]) X dX2_nextGiven_53 rfl (by decide) rfl ?_
          refine j_iload_n (q := 0) X dX2_nextGiven_54 rfl rfl ?_
          refine j_if_eq (tgt := 62) X dX2_nextGiven_55 (by decide) (fun c55 => ?_) (fun c55 => absurd (by decide) c55)
          refine j_iload_n (q := 2) X dX2_nextGiven_62 rfl rfl ?_
          refine j_istore_n (lv' := [(1, .int (bI k)), (3, .int (nI 0)), (2, .int (nI i)), (0, .ref (ad 11 0))]) X dX2_nextGiven_63 rfl (by decide) rfl ?_
          refine j_iinc (q := 2) (v := (nI (i + 1))) (lv' := [(2, .int (nI (i + 1))), (1, .int (bI k)), (3, .int (nI 0)), (0, .ref (ad 11 0))]) X dX2_nextGiven_64 rfl (nI_1 _) (by decide) rfl ?_
          refine j_goto (tgt := 5) X dX2_nextGiven_67 (by decide) ?_
          refine j_lv (lv1 := [(2, .int (nI (i + 1))), (1, .int (bI k)), (0, .ref (ad 11 0))]) [0, 1, 3] rfl ?_
          refine j_lvq (lv1 := [(2, .int (nI (i + 1))), (1, .int (bI k)), (0, .ref (ad 11 0))]) (rfl) ?_
          exact ih5 (i + 1) k ⟨by omega, by rw [pkN, ← hk]; exact (if_neg hs).symm⟩ (by omega)
        · skip
          have hs : wh V i = 0 ∧ (k = 20 ∨ befS V i k) ∧ low (rsn V a i) ≠ -6 := ⟨Classical.not_not.mp c20, hor, c45⟩
          refine j_iconst (v := (nI 1)) X dX2_nextGiven_48 (by decide) ?_
          refine j_goto (tgt := 53) X dX2_nextGiven_49 (by decide) ?_
          refine j_istore_n (lv' := [(3, .int (nI 1)), (2, .int (nI i)), (1, .int (bI k)), (0, .ref (ad 11 0))]) X dX2_nextGiven_53 rfl (by decide) rfl ?_
          refine j_iload_n (q := 0) X dX2_nextGiven_54 rfl rfl ?_
          refine j_if_eq (tgt := 62) X dX2_nextGiven_55 (by decide) (fun c55 => absurd c55 (by decide)) (fun c55 => ?_)
          refine j_iload_n (q := 1) X dX2_nextGiven_58 rfl rfl ?_
          refine j_goto (tgt := 63) X dX2_nextGiven_59 (by decide) ?_
          refine j_istore_n (lv' := [(1, .int (nI i)), (3, .int (nI 1)), (2, .int (nI i)), (0, .ref (ad 11 0))]) X dX2_nextGiven_63 rfl (by decide) rfl ?_
          refine j_iinc (q := 2) (v := (nI (i + 1))) (lv' := [(2, .int (nI (i + 1))), (1, .int (nI i)), (3, .int (nI 1)), (0, .ref (ad 11 0))]) X dX2_nextGiven_64 rfl (nI_1 _) (by decide) rfl ?_
          refine j_goto (tgt := 5) X dX2_nextGiven_67 (by decide) ?_
          refine j_lv (lv1 := [(2, .int (nI (i + 1))), (1, .int (nI i)), (0, .ref (ad 11 0))]) [0, 1, 3] rfl ?_
          refine j_lvq (lv1 := [(2, .int (nI (i + 1))), (1, .int (bI i)), (0, .ref (ad 11 0))]) (by rw [show bI i = nI i from bI_y (by omega)]) ?_
          exact ih5 (i + 1) i ⟨by omega, by rw [pkN, ← hk]; exact (if_pos hs).symm⟩ (by omega)
      · skip
        have hk20 : k ≠ 20 := fun q => c26 ((bI_6 (by omega)).mpr q)
        have hki : k < N := by have := pkN_lt V a i; omega
        rw [bI_y hk20]
        refine j_aload_n (q := 2) X dX2_nextGiven_29 rfl rfl ?_
        refine j_iload_n (q := 0) X dX2_nextGiven_30 rfl rfl ?_
        refine j_iload_n (q := 1) X dX2_nextGiven_31 rfl rfl ?_
        refine j_callVi (As := [.int (nI i), .int (nI k)]) X (kX2_comesFirst l D ad cs A z μ M V N hw hci i (by omega) k hki) oR rfl (cwV 2 X.1.2.2.2.2 gX2_nextGiven_X2_comesFirst rfl rfl rfl (by decide +kernel) ⟨Nat.le_of_ble_eq_true rfl, Nat.le_of_ble_eq_true rfl⟩) rfl rfl (Nat.le_of_ble_eq_true rfl) dX2_nextGiven_32 (fun r32 μ32 h32 => ?_)
        obtain ⟨h32, rfl⟩ := h32
        refine j_if_eq (tgt := 52) X dX2_nextGiven_35 (by decide) (fun c35 => ?_) (fun c35 => ?_)
        · skip
          have hs : ¬ (wh V i = 0 ∧ (k = 20 ∨ befS V i k) ∧ low (rsn V a i) ≠ -6) := fun q => q.2.1.elim hk20 (h32.f c35)
          refine j_iconst (v := (nI 0)) X dX2_nextGiven_52 (by decide) ?_
          refine j_istore_n (lv' := [(3, .int (nI 0)), (2, .int (nI i)), (1, .int (nI k)), (0, .ref (ad 11 0))]) X dX2_nextGiven_53 rfl (by decide) rfl ?_
          refine j_iload_n (q := 0) X dX2_nextGiven_54 rfl rfl ?_
          refine j_if_eq (tgt := 62) X dX2_nextGiven_55 (by decide) (fun c55 => ?_) (fun c55 => absurd (by decide) c55)
          refine j_iload_n (q := 2) X dX2_nextGiven_62 rfl rfl ?_
          refine j_istore_n (lv' := [(1, .int (nI k)), (3, .int (nI 0)), (2, .int (nI i)), (0, .ref (ad 11 0))]) X dX2_nextGiven_63 rfl (by decide) rfl ?_
          refine j_iinc (q := 2) (v := (nI (i + 1))) (lv' := [(2, .int (nI (i + 1))), (1, .int (nI k)), (3, .int (nI 0)), (0, .ref (ad 11 0))]) X dX2_nextGiven_64 rfl (nI_1 _) (by decide) rfl ?_
          refine j_goto (tgt := 5) X dX2_nextGiven_67 (by decide) ?_
          refine j_lv (lv1 := [(2, .int (nI (i + 1))), (1, .int (nI k)), (0, .ref (ad 11 0))]) [0, 1, 3] rfl ?_
          refine j_lvq (lv1 := [(2, .int (nI (i + 1))), (1, .int (bI k)), (0, .ref (ad 11 0))]) (by rw [bI_y hk20]) ?_
          exact ih5 (i + 1) k ⟨by omega, by rw [pkN, ← hk]; exact (if_neg hs).symm⟩ (by omega)
        · skip
          have hor : k = 20 ∨ befS V i k := Or.inr (h32.t c35)
          refine j_aload_n (q := 2) X dX2_nextGiven_38 rfl rfl ?_
          refine j_iload_n (q := 0) X dX2_nextGiven_39 rfl rfl ?_
          refine j_callVi (As := [.int (nI i)]) X (kX2_lowest l D ad cs A z μ M V N hw hci a ha ha11 i (by omega)) oR rfl (cwV 1 X.1.2.2.2.2 gX2_nextGiven_X2_lowest rfl rfl rfl (by decide +kernel) ⟨Nat.le_of_ble_eq_true rfl, Nat.le_of_ble_eq_true rfl⟩) rfl rfl (Nat.le_of_ble_eq_true rfl) dX2_nextGiven_40 (fun r40 μ40 h40 => ?_)
          obtain ⟨h40, rfl⟩ := h40
          rw [h40]
          refine j_bipush (v := (-6)) X dX2_nextGiven_43 (by decide) ?_
          refine j_icmp_eq (tgt := 52) X dX2_nextGiven_45 (by decide) (fun c45 => ?_) (fun c45 => ?_)
          · skip
            have hs : ¬ (wh V i = 0 ∧ (k = 20 ∨ befS V i k) ∧ low (rsn V a i) ≠ -6) := fun q => q.2.2 c45
            refine j_iconst (v := (nI 0)) X dX2_nextGiven_52 (by decide) ?_
            refine j_istore_n (lv' := [(3, .int (nI 0)), (2, .int (nI i)), (1, .int (nI k)), (0, .ref (ad 11 0))]) X dX2_nextGiven_53 rfl (by decide) rfl ?_
            refine j_iload_n (q := 0) X dX2_nextGiven_54 rfl rfl ?_
            refine j_if_eq (tgt := 62) X dX2_nextGiven_55 (by decide) (fun c55 => ?_) (fun c55 => absurd (by decide) c55)
            refine j_iload_n (q := 2) X dX2_nextGiven_62 rfl rfl ?_
            refine j_istore_n (lv' := [(1, .int (nI k)), (3, .int (nI 0)), (2, .int (nI i)), (0, .ref (ad 11 0))]) X dX2_nextGiven_63 rfl (by decide) rfl ?_
            refine j_iinc (q := 2) (v := (nI (i + 1))) (lv' := [(2, .int (nI (i + 1))), (1, .int (nI k)), (3, .int (nI 0)), (0, .ref (ad 11 0))]) X dX2_nextGiven_64 rfl (nI_1 _) (by decide) rfl ?_
            refine j_goto (tgt := 5) X dX2_nextGiven_67 (by decide) ?_
            refine j_lv (lv1 := [(2, .int (nI (i + 1))), (1, .int (nI k)), (0, .ref (ad 11 0))]) [0, 1, 3] rfl ?_
            refine j_lvq (lv1 := [(2, .int (nI (i + 1))), (1, .int (bI k)), (0, .ref (ad 11 0))]) (by rw [bI_y hk20]) ?_
            exact ih5 (i + 1) k ⟨by omega, by rw [pkN, ← hk]; exact (if_neg hs).symm⟩ (by omega)
          · skip
            have hs : wh V i = 0 ∧ (k = 20 ∨ befS V i k) ∧ low (rsn V a i) ≠ -6 := ⟨Classical.not_not.mp c20, hor, c45⟩
            refine j_iconst (v := (nI 1)) X dX2_nextGiven_48 (by decide) ?_
            refine j_goto (tgt := 53) X dX2_nextGiven_49 (by decide) ?_
            refine j_istore_n (lv' := [(3, .int (nI 1)), (2, .int (nI i)), (1, .int (nI k)), (0, .ref (ad 11 0))]) X dX2_nextGiven_53 rfl (by decide) rfl ?_
            refine j_iload_n (q := 0) X dX2_nextGiven_54 rfl rfl ?_
            refine j_if_eq (tgt := 62) X dX2_nextGiven_55 (by decide) (fun c55 => absurd c55 (by decide)) (fun c55 => ?_)
            refine j_iload_n (q := 1) X dX2_nextGiven_58 rfl rfl ?_
            refine j_goto (tgt := 63) X dX2_nextGiven_59 (by decide) ?_
            refine j_istore_n (lv' := [(1, .int (nI i)), (3, .int (nI 1)), (2, .int (nI i)), (0, .ref (ad 11 0))]) X dX2_nextGiven_63 rfl (by decide) rfl ?_
            refine j_iinc (q := 2) (v := (nI (i + 1))) (lv' := [(2, .int (nI (i + 1))), (1, .int (nI i)), (3, .int (nI 1)), (0, .ref (ad 11 0))]) X dX2_nextGiven_64 rfl (nI_1 _) (by decide) rfl ?_
            refine j_goto (tgt := 5) X dX2_nextGiven_67 (by decide) ?_
            refine j_lv (lv1 := [(2, .int (nI (i + 1))), (1, .int (nI i)), (0, .ref (ad 11 0))]) [0, 1, 3] rfl ?_
            refine j_lvq (lv1 := [(2, .int (nI (i + 1))), (1, .int (bI i)), (0, .ref (ad 11 0))]) (by rw [show bI i = nI i from bI_y (by omega)]) ?_
            exact ih5 (i + 1) i ⟨by omega, by rw [pkN, ← hk]; exact (if_pos hs).symm⟩ (by omega)
set_option maxHeartbeats 4000000 in
set_option maxRecDepth 100000 in
theorem kX2_setsUp (l : Launch) (D : va_G) (ad : Nat → Nat → Nat) (cs : Nat → ClassId) (A : Nat → Prop) (z : Nat → Nat) (μ : Mm) (M : CV) (V : CV) (N : Nat) (hw : Rw V N (M 1)) (hci : CI V N) : KV l D ad cs A z yX2_setsUp wsX2_setsUp (rm 0 0) [.ref (ad 11 0)] (mb μ 11 M) (fun μ1 => ∃ M1, μ1 = mb μ 11 M1 ∧ Rw (up1 V) N (M1 1) ∧ ∀ k, k ≠ 1 → M1 k = M k) := by
  refine KV_of (cc := cX2_setsUp) (maxL := 3) (ret := none) (by decide) rfl (Nat.le_of_ble_eq_true rfl) ?_
  intro p e s m args below meth c hr hlk X
  show J p l e _ s m args below meth c 0 0 _ 3 D ad cs A 0 [(0, .ref (ad 11 0))] [] (mb μ 11 M)
  have hinX2 : ∀ w ∈ wsX20, w ∈ wsX2_setsUp := by decide +kernel
  have k7 : (Cond.fieldLink RX2 7 "PunCourtsModel" "all" "[I").before args s = true := X.1.2.2.2.2 _ (by decide +kernel)
  have hN := hci.1.1
  have hN20 := hci.1.2.1
  refine j_iconst (v := (nI 0)) X dX2_setsUp_0 (by decide) ?_
  refine j_istore_n (lv' := [(1, .int (nI 0)), (0, .ref (ad 11 0))]) X dX2_setsUp_1 rfl (by decide) rfl ?_
  refine j_iconst (v := (nI 1)) X dX2_setsUp_2 (by decide) ?_
  refine j_istore_n (lv' := [(2, .int (nI 1)), (1, .int (nI 0)), (0, .ref (ad 11 0))]) X dX2_setsUp_3 rfl (by decide) rfl ?_
  refine jl2 (G := J p l e _ s m args below meth c 0 0 _ _ D ad cs A) (pc := 4) (fun (i : Nat) (m1 : Nat) => [(2, .int (nI i)), (1, .int (nI m1)), (0, .ref (ad 11 0))]) (fun (i : Nat) (m1 : Nat) => (mb μ 11 M)) (fun (i : Nat) (m1 : Nat) => 1 ≤ i ∧ i ≤ 12 ∧ m1 = mo V i) (fun (i : Nat) (m1 : Nat) => 12 - i) ?_ 1 0 ⟨by omega, by omega, (mo_1 V).symm⟩
  intro i m1 hI4 ih4
  try dsimp only at ih4 ⊢
  obtain ⟨hi1, hi, hm⟩ := hI4
  have hml := mo_lt V i
  refine j_iload_n (q := 0) X dX2_setsUp_4 rfl rfl ?_
  refine j_bipush (v := (nI 12)) X dX2_setsUp_5 (by decide) ?_
  refine j_ncmp_ge (tgt := 45) X i 12 dX2_setsUp_7 (by decide) rfl rfl (by omega) (by omega) (fun c7 => ?_) (fun c7 => ?_)
  · skip
    refine j_aload_n (q := 2) X dX2_setsUp_45 rfl rfl ?_
    refine j_getRB X oR hinX2 0 (by decide) rfl k7 dX2_setsUp_46 ?_
    refine j_sipush (v := (nI 261)) X dX2_setsUp_49 (by decide) ?_
    refine j_iload_n (q := 1) X dX2_setsUp_52 rfl rfl ?_
    refine j_iadd (v := (nI (261 + m1))) X dX2_setsUp_53 (nI_add _ _) ?_
    refine j_ialdB X aR_1 (261 + m1) rfl (by omega) (by decide) dX2_setsUp_54 ?_
    rw [hw.ow (show m1 < 12 by omega)]
    refine j_if_le (tgt := 97) X dX2_setsUp_55 (by decide) (fun c55 => ?_) (fun c55 => ?_)
    · skip
      have hu : up1 V = V := by rw [up1, ← show i = 12 by omega, ← hm, if_neg (Int32.not_lt.mpr c55)]
      exact j_vret X hr hlk ⟨M, rfl, by rw [hu]; exact hw, fun _ _ => rfl⟩ dX2_setsUp_97
    · skip
      have hu : up1 V = pst V m1 := by rw [up1, ← show i = 12 by omega, ← hm, if_pos (Int32.not_le.mp c55)]
      refine j_aload_n (q := 2) X dX2_setsUp_58 rfl rfl ?_
      refine j_getRB X oR hinX2 0 (by decide) rfl k7 dX2_setsUp_59 ?_
      refine j_sipush (v := (nI 261)) X dX2_setsUp_62 (by decide) ?_
      refine j_iload_n (q := 1) X dX2_setsUp_65 rfl rfl ?_
      refine j_iadd (v := (nI (261 + m1))) X dX2_setsUp_66 (nI_add _ _) ?_
      refine j_dup2 X dX2_setsUp_67 rfl rfl ?_
      refine j_ialdB X aR_1 (261 + m1) rfl (by omega) (by decide) dX2_setsUp_68 ?_
      refine j_iconst (v := (nI 1)) X dX2_setsUp_69 (by decide) ?_
      refine j_isub (v := ((M 1 (261 + m1)) - (nI 1))) X dX2_setsUp_70 rfl ?_
      refine j_iastB X aR_1 (261 + m1) rfl (by omega) (by decide) (by decide) dX2_setsUp_71 ?_
      refine j_aload_n (q := 2) X dX2_setsUp_72 rfl rfl ?_
      refine j_getRB X oR hinX2 0 (by decide) rfl k7 dX2_setsUp_73 ?_
      refine j_sipush (v := (nI 273)) X dX2_setsUp_76 (by decide) ?_
      refine j_iload_n (q := 1) X dX2_setsUp_79 rfl rfl ?_
      refine j_iadd (v := (nI (273 + m1))) X dX2_setsUp_80 (nI_add _ _) ?_
      refine j_dup2 X dX2_setsUp_81 rfl rfl ?_
      refine j_ialdB X aR_1 (273 + m1) rfl (by omega) (by decide) dX2_setsUp_82 ?_
      refine j_iconst (v := (nI 1)) X dX2_setsUp_83 (by decide) ?_
      refine j_iadd (v := (((us M 1 (261 + m1) ((M 1 (261 + m1)) - (nI 1))) 1 (273 + m1)) + (nI 1))) X dX2_setsUp_84 rfl ?_
      refine j_iastB X aR_1 (273 + m1) rfl (by omega) (by decide) (by decide) dX2_setsUp_85 ?_
      refine j_aload_n (q := 2) X dX2_setsUp_86 rfl rfl ?_
      refine j_getRB X oR hinX2 0 (by decide) rfl k7 dX2_setsUp_87 ?_
      refine j_bipush (v := (nI 7)) X dX2_setsUp_90 (by decide) ?_
      refine j_dup2 X dX2_setsUp_92 rfl rfl ?_
      refine j_ialdB X aR_1 7 rfl (by decide) (by decide) dX2_setsUp_93 ?_
      refine j_iconst (v := (nI 1)) X dX2_setsUp_94 (by decide) ?_
      refine j_iadd (v := (((us (us M 1 (261 + m1) ((M 1 (261 + m1)) - (nI 1))) 1 (273 + m1) (((us M 1 (261 + m1) ((M 1 (261 + m1)) - (nI 1))) 1 (273 + m1)) + (nI 1))) 1 7) + (nI 1))) X dX2_setsUp_95 rfl ?_
      refine j_iastB X aR_1 7 rfl (by decide) (by decide) (by decide) dX2_setsUp_96 ?_
      exact j_vret X hr hlk ⟨suR M m1, rfl, by rw [hu]; exact Rw_post hw hN20 (by omega), fun k hk => suR_row hk⟩ dX2_setsUp_97
  · skip
    refine j_aload_n (q := 2) X dX2_setsUp_10 rfl rfl ?_
    refine j_getRB X oR hinX2 0 (by decide) rfl k7 dX2_setsUp_11 ?_
    refine j_sipush (v := (nI 261)) X dX2_setsUp_14 (by decide) ?_
    refine j_iload_n (q := 0) X dX2_setsUp_17 rfl rfl ?_
    refine j_iadd (v := (nI (261 + i))) X dX2_setsUp_18 (nI_add _ _) ?_
    refine j_ialdB X aR_1 (261 + i) rfl (by omega) (by decide) dX2_setsUp_19 ?_
    rw [hw.ow (show i < 12 by omega)]
    refine j_aload_n (q := 2) X dX2_setsUp_20 rfl rfl ?_
    refine j_getRB X oR hinX2 0 (by decide) rfl k7 dX2_setsUp_21 ?_
    refine j_sipush (v := (nI 261)) X dX2_setsUp_24 (by decide) ?_
    refine j_iload_n (q := 1) X dX2_setsUp_27 rfl rfl ?_
    refine j_iadd (v := (nI (261 + m1))) X dX2_setsUp_28 (nI_add _ _) ?_
    refine j_ialdB X aR_1 (261 + m1) rfl (by omega) (by decide) dX2_setsUp_29 ?_
    rw [hw.ow (show m1 < 12 by omega)]
    refine j_icmp_le (tgt := 37) X dX2_setsUp_30 (by decide) (fun c30 => ?_) (fun c30 => ?_)
    · skip
      refine j_iload_n (q := 1) X dX2_setsUp_37 rfl rfl ?_
      refine j_istore_n (lv' := [(1, .int (nI m1)), (2, .int (nI i)), (0, .ref (ad 11 0))]) X dX2_setsUp_38 rfl (by decide) rfl ?_
      refine j_iinc (q := 1) (v := (nI (i + 1))) (lv' := [(2, .int (nI (i + 1))), (1, .int (nI m1)), (0, .ref (ad 11 0))]) X dX2_setsUp_39 rfl (nI_1 _) (by decide) rfl ?_
      refine j_goto (tgt := 4) X dX2_setsUp_42 (by decide) ?_
      exact ih4 (i + 1) m1 ⟨by omega, by omega, by rw [mo, ← hm]; first | exact (if_neg (Int32.not_lt.mpr c30)).symm | exact (if_pos (Int32.not_le.mp c30)).symm⟩ (by omega)
    · skip
      refine j_iload_n (q := 0) X dX2_setsUp_33 rfl rfl ?_
      refine j_goto (tgt := 38) X dX2_setsUp_34 (by decide) ?_
      refine j_istore_n (lv' := [(1, .int (nI i)), (2, .int (nI i)), (0, .ref (ad 11 0))]) X dX2_setsUp_38 rfl (by decide) rfl ?_
      refine j_iinc (q := 1) (v := (nI (i + 1))) (lv' := [(2, .int (nI (i + 1))), (1, .int (nI i)), (0, .ref (ad 11 0))]) X dX2_setsUp_39 rfl (nI_1 _) (by decide) rfl ?_
      refine j_goto (tgt := 4) X dX2_setsUp_42 (by decide) ?_
      exact ih4 (i + 1) i ⟨by omega, by omega, by rw [mo, ← hm]; first | exact (if_neg (Int32.not_lt.mpr c30)).symm | exact (if_pos (Int32.not_le.mp c30)).symm⟩ (by omega)
set_option maxHeartbeats 4000000 in
set_option maxRecDepth 100000 in
theorem kX2_day (l : Launch) (D : va_G) (ad : Nat → Nat → Nat) (cs : Nat → ClassId) (A : Nat → Prop) (z : Nat → Nat) (μ : Mm) (M : CV) (V : CV) (N : Nat) (hw : Rw V N (M 1)) (hci : CI V N) (a P : Nat) (hpd : PD V a N P) : KV l D ad cs A z yX2_day wsX2_day (rm 6 137) [.ref (ad 11 0)] (mb μ 11 M) (fun μ1 => ∃ M1, μ1 = mb μ 11 M1 ∧ Rw (day V a N P) N (M1 1) ∧ ∀ k, k ≠ 1 → M1 k = M k) := by
  refine KV_of (cc := cX2_day) (maxL := 3) (ret := none) (by decide) rfl (Nat.le_of_ble_eq_true rfl) ?_
  intro p e s m args below meth c hr hlk X
  show J p l e _ s m args below meth c 0 0 _ 3 D ad cs A 0 [(0, .ref (ad 11 0))] [] (mb μ 11 M)
  have hinX2 : ∀ w ∈ wsX20, w ∈ wsX2_day := by decide +kernel
  have k7 : (Cond.fieldLink RX2 7 "PunCourtsModel" "all" "[I").before args s = true := X.1.2.2.2.2 _ (by decide +kernel)
  have hN := hci.1.1
  have hN20 := hci.1.2.1
  refine j_aload_n (q := 0) X dX2_day_0 rfl rfl ?_
  refine j_callVi (As := []) X (kX2_nextGiven l D ad cs A z μ M V N hw hci a hpd.1 hpd.2.1) oR rfl (cwV 0 X.1.2.2.2.2 gX2_day_X2_nextGiven rfl rfl rfl (by decide +kernel) ⟨Nat.le_of_ble_eq_true rfl, Nat.le_of_ble_eq_true rfl⟩) rfl rfl (Nat.le_of_ble_eq_true rfl) dX2_day_1 (fun r1 μ1 h1 => ?_)
  obtain ⟨h1, rfl⟩ := h1
  rw [h1]
  have hpl := pkN_lt V a N
  refine j_istore_n (lv' := [(1, .int (bI (pkN V a N))), (0, .ref (ad 11 0))]) X dX2_day_4 rfl (by decide) rfl ?_
  refine j_iload_n (q := 0) X dX2_day_5 rfl rfl ?_
  refine j_bipush (v := (-6)) X dX2_day_6 (by decide) ?_
  refine j_icmp_eq (tgt := 21) X dX2_day_8 (by decide) (fun c8 => ?_) (fun c8 => ?_)
  · skip
    have hg : Rw (gq V a N) N (M 1) := by rw [gq, if_pos ((bI_6 (by omega)).mp c8)]; exact hw
    refine j_iconst (v := (nI 0)) X dX2_day_21 (by decide) ?_
    refine j_istore_n (lv' := [(2, .int (nI 0)), (1, .int (bI (pkN V a N))), (0, .ref (ad 11 0))]) X dX2_day_22 rfl (by decide) rfl ?_
    refine j_lv [0, 2] rfl ?_
    refine jl2 (G := J p l e _ s m args below meth c 0 0 _ _ D ad cs A) (pc := 23) (fun (i : Nat) (M2 : CV) => [(2, .int (nI i)), (0, .ref (ad 11 0))]) (fun (i : Nat) (M2 : CV) => (mb μ 11 M2)) (fun (i : Nat) (M2 : CV) => i ≤ P ∧ Rw (su (gq V a N) i) N (M2 1) ∧ ∀ k, k ≠ 1 → M2 k = M k) (fun (i : Nat) (M2 : CV) => P - i) ?_ 0 M ⟨by omega, hg, fun k hk => rfl⟩
    intro i M2 hI23 ih23
    try dsimp only at ih23 ⊢
    obtain ⟨hi, hw2, hk2⟩ := hI23
    have hP9 := hpd.2.2.2.2.2.1
    refine j_iload_n (q := 0) X dX2_day_23 rfl rfl ?_
    refine j_aload_n (q := 1) X dX2_day_24 rfl rfl ?_
    refine j_getRB X oR hinX2 0 (by decide) rfl k7 dX2_day_25 ?_
    refine j_iconst (v := (nI 2)) X dX2_day_28 (by decide) ?_
    refine j_ialdB X aR_1 2 rfl (by decide) (by decide) dX2_day_29 ?_
    rw [hw2.st 2 (by decide), su_row (by decide) (by decide), gq_row (by decide) (by decide) (by decide) (by decide) (by decide), hpd.2.2.2.2.1]
    refine j_ncmp_ge (tgt := 43) X i P dX2_day_30 (by decide) rfl rfl (by omega) (by omega) (fun c30 => ?_) (fun c30 => ?_)
    · skip
      refine j_aload_n (q := 1) X dX2_day_43 rfl rfl ?_
      refine j_getRB X oR hinX2 0 (by decide) rfl k7 dX2_day_44 ?_
      refine j_iconst (v := (nI 4)) X dX2_day_47 (by decide) ?_
      refine j_dup2 X dX2_day_48 rfl rfl ?_
      refine j_ialdB X aR_1 4 rfl (by decide) (by decide) dX2_day_49 ?_
      refine j_iconst (v := (nI 1)) X dX2_day_50 (by decide) ?_
      refine j_iadd (v := ((M2 1 4) + (nI 1))) X dX2_day_51 rfl ?_
      refine j_iastB X aR_1 4 rfl (by decide) (by decide) (by decide) dX2_day_52 ?_
      exact j_vret X hr hlk ⟨_, rfl, by rw [day, show P = i by omega]; exact Rw_day2 hw2, fun k hk => (us_n hk).trans (hk2 k hk)⟩ dX2_day_53
    · skip
      refine j_aload_n (q := 1) X dX2_day_33 rfl rfl ?_
      refine j_callVv (As := []) X (kX2_setsUp l D ad cs A z μ M2 (su (gq V a N) i) N hw2 ((hci.gqk (a := a)).suk i)) oR rfl (cwV 0 X.1.2.2.2.2 gX2_day_X2_setsUp rfl rfl rfl (by decide +kernel) ⟨Nat.le_of_ble_eq_true rfl, Nat.le_of_ble_eq_true rfl⟩) rfl rfl (Nat.le_of_ble_eq_true rfl) dX2_day_34 (fun μ34 h34 => ?_)
      obtain ⟨M3, rfl, hw3, hk3⟩ := h34
      refine j_iinc (q := 0) (v := (nI (i + 1))) (lv' := [(2, .int (nI (i + 1))), (0, .ref (ad 11 0))]) X dX2_day_37 rfl (nI_1 _) (by decide) rfl ?_
      refine j_goto (tgt := 23) X dX2_day_40 (by decide) ?_
      exact ih23 (i + 1) M3 ⟨by omega, hw3, fun k hk => (hk3 k hk).trans (hk2 k hk)⟩ (by omega)
  · skip
    have hp20 : pkN V a N ≠ 20 := fun q => c8 ((bI_6 (by omega)).mpr q)
    have hpc := ((pkN_is V a N hN20).resolve_left (fun q => hp20 q.1)).1
    obtain ⟨hlc, hlc2⟩ := low_c hpc.2.2
    rw [bI_y hp20]
    refine j_aload_n (q := 1) X dX2_day_11 rfl rfl ?_
    refine j_iload_n (q := 0) X dX2_day_12 rfl rfl ?_
    refine j_aload_n (q := 1) X dX2_day_13 rfl rfl ?_
    refine j_iload_n (q := 0) X dX2_day_14 rfl rfl ?_
    refine j_callVi (As := [.int (nI (pkN V a N))]) X (kX2_lowest l D ad cs A z μ M V N hw hci a hpd.1 hpd.2.1 (pkN V a N) hpc.1) oR rfl (cwV 1 X.1.2.2.2.2 gX2_day_X2_lowest rfl rfl rfl (by decide +kernel) ⟨Nat.le_of_ble_eq_true rfl, Nat.le_of_ble_eq_true rfl⟩) rfl rfl (Nat.le_of_ble_eq_true rfl) dX2_day_15 (fun r15 μ15 h15 => ?_)
    obtain ⟨h15, rfl⟩ := h15
    rw [h15, hlc]
    refine j_callVv (As := [.int (nI (pkN V a N)), .int (nI (lw (rsn V a (pkN V a N)) 12))]) X (kX2_gives l D ad cs A z μ M (pkN V a N) (by omega) (lw (rsn V a (pkN V a N)) 12) hlc2) oR rfl (cwV 2 X.1.2.2.2.2 gX2_day_X2_gives rfl rfl rfl (by decide +kernel) ⟨Nat.le_of_ble_eq_true rfl, Nat.le_of_ble_eq_true rfl⟩) rfl rfl (Nat.le_of_ble_eq_true rfl) dX2_day_18 (fun μ18 h18 => ?_)
    subst h18
    have hg : Rw (gq V a N) N (gvS M (pkN V a N) (lw (rsn V a (pkN V a N)) 12) 1) := by rw [gq, if_neg (by omega)]; exact Rw_gives hw hN20 hpc.1 hlc2
    refine j_iconst (v := (nI 0)) X dX2_day_21 (by decide) ?_
    refine j_istore_n (lv' := [(2, .int (nI 0)), (1, .int (nI (pkN V a N))), (0, .ref (ad 11 0))]) X dX2_day_22 rfl (by decide) rfl ?_
    refine j_lv [0, 2] rfl ?_
    refine jl2 (G := J p l e _ s m args below meth c 0 0 _ _ D ad cs A) (pc := 23) (fun (i : Nat) (M2 : CV) => [(2, .int (nI i)), (0, .ref (ad 11 0))]) (fun (i : Nat) (M2 : CV) => (mb μ 11 M2)) (fun (i : Nat) (M2 : CV) => i ≤ P ∧ Rw (su (gq V a N) i) N (M2 1) ∧ ∀ k, k ≠ 1 → M2 k = M k) (fun (i : Nat) (M2 : CV) => P - i) ?_ 0 (gvS M (pkN V a N) (lw (rsn V a (pkN V a N)) 12)) ⟨by omega, hg, fun k hk => gvS_row hk⟩
    intro i M2 hI23 ih23
    try dsimp only at ih23 ⊢
    obtain ⟨hi, hw2, hk2⟩ := hI23
    have hP9 := hpd.2.2.2.2.2.1
    refine j_iload_n (q := 0) X dX2_day_23 rfl rfl ?_
    refine j_aload_n (q := 1) X dX2_day_24 rfl rfl ?_
    refine j_getRB X oR hinX2 0 (by decide) rfl k7 dX2_day_25 ?_
    refine j_iconst (v := (nI 2)) X dX2_day_28 (by decide) ?_
    refine j_ialdB X aR_1 2 rfl (by decide) (by decide) dX2_day_29 ?_
    rw [hw2.st 2 (by decide), su_row (by decide) (by decide), gq_row (by decide) (by decide) (by decide) (by decide) (by decide), hpd.2.2.2.2.1]
    refine j_ncmp_ge (tgt := 43) X i P dX2_day_30 (by decide) rfl rfl (by omega) (by omega) (fun c30 => ?_) (fun c30 => ?_)
    · skip
      refine j_aload_n (q := 1) X dX2_day_43 rfl rfl ?_
      refine j_getRB X oR hinX2 0 (by decide) rfl k7 dX2_day_44 ?_
      refine j_iconst (v := (nI 4)) X dX2_day_47 (by decide) ?_
      refine j_dup2 X dX2_day_48 rfl rfl ?_
      refine j_ialdB X aR_1 4 rfl (by decide) (by decide) dX2_day_49 ?_
      refine j_iconst (v := (nI 1)) X dX2_day_50 (by decide) ?_
      refine j_iadd (v := ((M2 1 4) + (nI 1))) X dX2_day_51 rfl ?_
      refine j_iastB X aR_1 4 rfl (by decide) (by decide) (by decide) dX2_day_52 ?_
      exact j_vret X hr hlk ⟨_, rfl, by rw [day, show P = i by omega]; exact Rw_day2 hw2, fun k hk => (us_n hk).trans (hk2 k hk)⟩ dX2_day_53
    · skip
      refine j_aload_n (q := 1) X dX2_day_33 rfl rfl ?_
      refine j_callVv (As := []) X (kX2_setsUp l D ad cs A z μ M2 (su (gq V a N) i) N hw2 ((hci.gqk (a := a)).suk i)) oR rfl (cwV 0 X.1.2.2.2.2 gX2_day_X2_setsUp rfl rfl rfl (by decide +kernel) ⟨Nat.le_of_ble_eq_true rfl, Nat.le_of_ble_eq_true rfl⟩) rfl rfl (Nat.le_of_ble_eq_true rfl) dX2_day_34 (fun μ34 h34 => ?_)
      obtain ⟨M3, rfl, hw3, hk3⟩ := h34
      refine j_iinc (q := 0) (v := (nI (i + 1))) (lv' := [(2, .int (nI (i + 1))), (0, .ref (ad 11 0))]) X dX2_day_37 rfl (nI_1 _) (by decide) rfl ?_
      refine j_goto (tgt := 23) X dX2_day_40 (by decide) ?_
      exact ih23 (i + 1) M3 ⟨by omega, hw3, fun k hk => (hk3 k hk).trans (hk2 k hk)⟩ (by omega)
