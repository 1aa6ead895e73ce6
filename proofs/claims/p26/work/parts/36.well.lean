set_option maxHeartbeats 4000000 in
set_option maxRecDepth 100000 in
theorem kL_isWell (l : Launch) (D : va_G) (ad bd : Nat → Nat → Nat) (cs : Nat → ClassId) (A B : Nat → Prop) (z : Nat → Nat) (K K2 : KS) (Po Pw : PS) (t : Nat) (hwk : WK K t) (ht : t ≤ 60) : KP l D ad bd cs A B z yL_isWell wsL_isWell (rm 7 160) [.ref (ad 10 0)] ((K, Po), (K2, Pw)) (fun r μ1 => r = 1 ∧ μ1 = ((K, Po), (K2, Pw))) := by
  refine KP_of (cc := cL_isWell) (maxL := 14) (ret := (some .boolean)) (by decide) rfl (Nat.le_of_ble_eq_true rfl) ?_
  intro p e s m args below meth c hr hlk X
  show P2 p l e _ s m args below meth c 0 0 _ 14 D ad bd cs A B 0 [(0, .ref (ad 10 0))] [] ((K, Po), (K2, Pw))
  refine p_ok (fun hoo hpp => ?_)
  have hcz : CZ K.1.1 K.1.2 := hoo.1.1
  have hN20 := hcz.le
  obtain ⟨dd, hdd, edd, hgd⟩ := hwk.1.2.1
  have ht20 : dd < 2 ^ 30 := by omega
  have hwt0 := wtn_le (Z := K.1.1) K.1.2
  refine p_iconst (v := (nI 0)) X dL_isWell_0 (by decide) ?_
  refine p_istore_n (lv' := [(1, .int (nI 0)), (0, .ref (ad 10 0))]) X dL_isWell_1 rfl (by decide) rfl ?_
  refine p_iconst (v := (nI 0)) X dL_isWell_2 (by decide) ?_
  refine p_istore_n (lv' := [(2, .int (nI 0)), (1, .int (nI 0)), (0, .ref (ad 10 0))]) X dL_isWell_3 rfl (by decide) rfl ?_
  refine p_iconst (v := (nI 0)) X dL_isWell_4 (by decide) ?_
  refine p_istore_n (lv' := [(3, .int (nI 0)), (2, .int (nI 0)), (1, .int (nI 0)), (0, .ref (ad 10 0))]) X dL_isWell_5 rfl (by decide) rfl ?_
  refine p_iconst (v := (nI 0)) X dL_isWell_6 (by decide) ?_
  refine p_istore (lv' := [(4, .int (nI 0)), (3, .int (nI 0)), (2, .int (nI 0)), (1, .int (nI 0)), (0, .ref (ad 10 0))]) X dL_isWell_7 (by decide) rfl ?_
  refine p_iconst (v := (nI 0)) X dL_isWell_9 (by decide) ?_
  refine p_istore (lv' := [(5, .int (nI 0)), (4, .int (nI 0)), (3, .int (nI 0)), (2, .int (nI 0)), (1, .int (nI 0)), (0, .ref (ad 10 0))]) X dL_isWell_10 (by decide) rfl ?_
  refine p_iconst (v := (nI 0)) X dL_isWell_12 (by decide) ?_
  refine p_istore (lv' := [(6, .int (nI 0)), (5, .int (nI 0)), (4, .int (nI 0)), (3, .int (nI 0)), (2, .int (nI 0)), (1, .int (nI 0)), (0, .ref (ad 10 0))]) X dL_isWell_13 (by decide) rfl ?_
  refine p_aload_n (q := 6) X dL_isWell_15 rfl rfl ?_
  refine p_iconst (v := (nI 5)) X dL_isWell_16 (by decide) ?_
  refine p_o (As := [.int (nI 5)]) X (q_count l z K Po 5 (by decide)) (cwV 1 X.1.2.2.2.2 gL_isWell_X1_count rfl rfl rfl (by decide +kernel) ⟨Nat.le_of_ble_eq_true rfl, Nat.le_of_ble_eq_true rfl⟩) rfl rfl (Nat.le_of_ble_eq_true rfl) dL_isWell_17 ?_
  rw [R_cnt5]
  refine p_istore (lv' := [(7, .int (nI K.1.2)), (6, .int (nI 0)), (5, .int (nI 0)), (4, .int (nI 0)), (3, .int (nI 0)), (2, .int (nI 0)), (1, .int (nI 0)), (0, .ref (ad 10 0))]) X dL_isWell_20 (by decide) rfl ?_
  refine p_iconst (v := (nI 1)) X dL_isWell_22 (by decide) ?_
  refine p_istore (lv' := [(8, .int (nI 1)), (7, .int (nI K.1.2)), (6, .int (nI 0)), (5, .int (nI 0)), (4, .int (nI 0)), (3, .int (nI 0)), (2, .int (nI 0)), (1, .int (nI 0)), (0, .ref (ad 10 0))]) X dL_isWell_23 (by decide) rfl ?_
  refine p_iconst (v := (nI 0)) X dL_isWell_25 (by decide) ?_
  refine p_istore (lv' := [(9, .int (nI 0)), (8, .int (nI 1)), (7, .int (nI K.1.2)), (6, .int (nI 0)), (5, .int (nI 0)), (4, .int (nI 0)), (3, .int (nI 0)), (2, .int (nI 0)), (1, .int (nI 0)), (0, .ref (ad 10 0))]) X dL_isWell_26 (by decide) rfl ?_
  refine p_lv (lv1 := [(9, .int (nI 0)), (1, .int (nI 0)), (2, .int (nI 0)), (3, .int (nI 0)), (4, .int (nI 0)), (0, .ref (ad 10 0)), (5, .int (nI 0)), (6, .int (nI 0)), (7, .int (nI K.1.2)), (8, .int (nI 1))]) [0, 8, 7, 6, 5, 9, 4, 3, 2, 1] rfl ?_
  refine loop5 (G := P2 p l e _ s m args below meth c 0 0 _ _ D ad bd cs A B) (pc := 28) (fun (i : Nat) (ow : Int32) (po : Int32) (nd : Nat) (go : Int32) => [(9, .int (nI i)), (1, .int ow), (2, .int po), (3, .int (nI nd)), (4, .int go), (0, .ref (ad 10 0)), (5, .int (nI 0)), (6, .int (nI 0)), (7, .int (nI K.1.2)), (8, .int (nI 1))]) (fun (i : Nat) (ow : Int32) (po : Int32) (nd : Nat) (go : Int32) => ((K, Po), (K2, Pw))) (fun (i : Nat) (ow : Int32) (po : Int32) (nd : Nat) (go : Int32) => i ≤ 12 ∧ ow = sm (K.1.1 11) i ∧ po = sm (K.1.1 12) i ∧ nd + nb K.1.1 (-6) i = i ∧ go = sm (K.1.1 14) i) (fun (i : Nat) (ow : Int32) (po : Int32) (nd : Nat) (go : Int32) => 12 - i) ?_ 0 (nI 0) (nI 0) 0 (nI 0) ⟨by omega, rfl, rfl, rfl, rfl⟩
  intro i ow po nd go hI28 ih28
  try dsimp only at ih28 ⊢
  obtain ⟨hi, how, hpo, hnd, hgo⟩ := hI28
  refine p_iload (q := 0) X dL_isWell_28 rfl ?_
  refine p_bipush (v := (nI 12)) X dL_isWell_30 (by decide) ?_
  refine p_ncmp_ge (tgt := 204) X i 12 dL_isWell_32 (by decide) rfl rfl (by omega) (by omega) (fun c32 => ?_) (fun c32 => ?_)
  · skip
    refine p_iconst (v := (nI 0)) X dL_isWell_204 (by decide) ?_
    refine p_istore (lv' := [(9, .int (nI 0)), (1, .int ow), (2, .int po), (3, .int (nI nd)), (4, .int go), (0, .ref (ad 10 0)), (5, .int (nI 0)), (6, .int (nI 0)), (7, .int (nI K.1.2)), (8, .int (nI 1))]) X dL_isWell_205 (by decide) rfl ?_
    refine p_lv (lv1 := [(9, .int (nI 0)), (5, .int (nI 0)), (6, .int (nI 0)), (0, .ref (ad 10 0)), (1, .int ow), (2, .int po), (3, .int (nI nd)), (4, .int go), (7, .int (nI K.1.2)), (8, .int (nI 1))]) [0, 6, 7, 5, 1, 2, 3, 4, 8, 9] rfl ?_
    refine loop3 (G := P2 p l e _ s m args below meth c 0 0 _ _ D ad bd cs A B) (pc := 207) (fun (k : Nat) (gv : Int32) (wt : Nat) => [(9, .int (nI k)), (5, .int gv), (6, .int (nI wt)), (0, .ref (ad 10 0)), (1, .int ow), (2, .int po), (3, .int (nI nd)), (4, .int go), (7, .int (nI K.1.2)), (8, .int (nI 1))]) (fun (k : Nat) (gv : Int32) (wt : Nat) => ((K, Po), (K2, Pw))) (fun (k : Nat) (gv : Int32) (wt : Nat) => k ≤ K.1.2 ∧ gv = sm (K.1.1 9) k ∧ wt = wtn K.1.1 k) (fun (k : Nat) (gv : Int32) (wt : Nat) => K.1.2 - k) ?_ 0 (nI 0) 0 ⟨by omega, rfl, rfl⟩
    intro k gv wt hI207 ih207
    try dsimp only at ih207 ⊢
    obtain ⟨hk, hgv, hwt⟩ := hI207
    have hwl : wt ≤ k := by rw [hwt]; exact wtn_le k
    refine p_iload (q := 0) X dL_isWell_207 rfl ?_
    refine p_iload (q := 8) X dL_isWell_209 rfl ?_
    refine p_ncmp_ge (tgt := 474) X k K.1.2 dL_isWell_211 (by decide) rfl rfl (by omega) (by omega) (fun c211 => ?_) (fun c211 => ?_)
    · skip
      refine p_iload (q := 9) X dL_isWell_474 rfl ?_
      refine p_if_eq (tgt := 571) X dL_isWell_476 (by decide) (fun c476 => absurd c476 (by decide)) (fun c476 => ?_)
      refine p_iload_n (q := 4) X dL_isWell_479 rfl rfl ?_
      refine p_aload_n (q := 3) X dL_isWell_480 rfl rfl ?_
      refine p_bipush (v := (nI 8)) X dL_isWell_481 (by decide) ?_
      refine p_o (As := [.int (nI 8)]) X (q_count l z K Po 8 (by decide)) (cwV 1 X.1.2.2.2.2 gL_isWell_X1_count rfl rfl rfl (by decide +kernel) ⟨Nat.le_of_ble_eq_true rfl, Nat.le_of_ble_eq_true rfl⟩) rfl rfl (Nat.le_of_ble_eq_true rfl) dL_isWell_483 ?_
      rw [R_cnt8]
      refine p_icmp_ne (tgt := 571) X dL_isWell_486 (by decide) (fun c486 => absurd (show ow = sm (K.1.1 11) 12 by rw [how, show i = 12 by omega]) c486) (fun c486 => ?_)
      refine p_iload_n (q := 5) X dL_isWell_489 rfl rfl ?_
      refine p_aload_n (q := 3) X dL_isWell_490 rfl rfl ?_
      refine p_bipush (v := (nI 9)) X dL_isWell_491 (by decide) ?_
      refine p_o (As := [.int (nI 9)]) X (q_count l z K Po 9 (by decide)) (cwV 1 X.1.2.2.2.2 gL_isWell_X1_count rfl rfl rfl (by decide +kernel) ⟨Nat.le_of_ble_eq_true rfl, Nat.le_of_ble_eq_true rfl⟩) rfl rfl (Nat.le_of_ble_eq_true rfl) dL_isWell_493 ?_
      rw [R_cnt9]
      refine p_icmp_ne (tgt := 571) X dL_isWell_496 (by decide) (fun c496 => absurd (show po = sm (K.1.1 12) 12 by rw [hpo, show i = 12 by omega]) c496) (fun c496 => ?_)
      refine p_iload_n (q := 6) X dL_isWell_499 rfl rfl ?_
      refine p_aload_n (q := 3) X dL_isWell_500 rfl rfl ?_
      refine p_bipush (v := (nI 7)) X dL_isWell_501 (by decide) ?_
      refine p_o (As := [.int (nI 7)]) X (q_count l z K Po 7 (by decide)) (cwV 1 X.1.2.2.2.2 gL_isWell_X1_count rfl rfl rfl (by decide +kernel) ⟨Nat.le_of_ble_eq_true rfl, Nat.le_of_ble_eq_true rfl⟩) rfl rfl (Nat.le_of_ble_eq_true rfl) dL_isWell_503 ?_
      rw [R_cnt7]
      refine p_ncmp_ne (tgt := 571) X nd (12 - nb K.1.1 (-6) 12) dL_isWell_506 (by decide) rfl rfl (by omega) (by omega) (fun c506 => absurd (show nd = 12 - nb K.1.1 (-6) 12 by rw [show (12 : Nat) = i by omega]; omega) c506) (fun c506 => ?_)
      refine p_iload (q := 1) X dL_isWell_509 rfl ?_
      refine p_aload_n (q := 3) X dL_isWell_511 rfl rfl ?_
      refine p_bipush (v := (nI 10)) X dL_isWell_512 (by decide) ?_
      refine p_o (As := [.int (nI 10)]) X (q_count l z K Po 10 (by decide)) (cwV 1 X.1.2.2.2.2 gL_isWell_X1_count rfl rfl rfl (by decide +kernel) ⟨Nat.le_of_ble_eq_true rfl, Nat.le_of_ble_eq_true rfl⟩) rfl rfl (Nat.le_of_ble_eq_true rfl) dL_isWell_514 ?_
      rw [R_cnt10]
      refine p_icmp_ne (tgt := 571) X dL_isWell_517 (by decide) (fun c517 => absurd (show gv = sm (K.1.1 9) 20 by rw [hgv, sm_0 20 hN20 (fun a h1 h2 => hcz.z9 a h1 h2), show k = K.1.2 by omega]) c517) (fun c517 => ?_)
      refine p_iload (q := 7) X dL_isWell_520 rfl ?_
      refine p_iload (q := 1) X dL_isWell_522 rfl ?_
      refine p_icmp_ne (tgt := 571) X dL_isWell_524 (by decide) (fun c524 => absurd (show go = gv by rw [hgo, hgv, show i = 12 by omega, show k = K.1.2 by omega, ← sm_0 20 hN20 (fun a h1 h2 => hcz.z9 a h1 h2)]; exact hwk.1.2.2) c524) (fun c524 => ?_)
      refine p_iload (q := 2) X dL_isWell_527 rfl ?_
      refine p_aload_n (q := 3) X dL_isWell_529 rfl rfl ?_
      refine p_bipush (v := (nI 6)) X dL_isWell_530 (by decide) ?_
      refine p_o (As := [.int (nI 6)]) X (q_count l z K Po 6 (by decide)) (cwV 1 X.1.2.2.2.2 gL_isWell_X1_count rfl rfl rfl (by decide +kernel) ⟨Nat.le_of_ble_eq_true rfl, Nat.le_of_ble_eq_true rfl⟩) rfl rfl (Nat.le_of_ble_eq_true rfl) dL_isWell_532 ?_
      rw [R_cnt6]
      refine p_ncmp_ne (tgt := 571) X wt (wtn K.1.1 K.1.2) dL_isWell_535 (by decide) rfl rfl (by omega) (by omega) (fun c535 => absurd (show wt = wtn K.1.1 K.1.2 by rw [hwt, show k = K.1.2 by omega]) c535) (fun c535 => ?_)
      by_cases hs0 : sm (K.1.1 11) 12 = 0
      · skip
        refine p_aload_n (q := 3) X dL_isWell_538 rfl rfl ?_
        refine p_bipush (v := (nI 8)) X dL_isWell_539 (by decide) ?_
        refine p_o (As := [.int (nI 8)]) X (q_count l z K Po 8 (by decide)) (cwV 1 X.1.2.2.2.2 gL_isWell_X1_count rfl rfl rfl (by decide +kernel) ⟨Nat.le_of_ble_eq_true rfl, Nat.le_of_ble_eq_true rfl⟩) rfl rfl (Nat.le_of_ble_eq_true rfl) dL_isWell_541 ?_
        rw [R_cnt8, hs0]
        rw [show (0 : Int32) = nI 0 from rfl]
        refine p_if_ne (tgt := 551) X dL_isWell_544 (by decide) (fun c544 => absurd c544 (by decide)) (fun c544 => ?_)
        refine p_iconst (v := (nI 1)) X dL_isWell_547 (by decide) ?_
        refine p_goto (tgt := 552) X dL_isWell_548 (by decide) ?_
        refine p_aload_n (q := 3) X dL_isWell_552 rfl rfl ?_
        refine p_o (As := []) X (q_untilPosted l z K Po ) (cwV 0 X.1.2.2.2.2 gL_isWell_X1_untilPosted rfl rfl rfl (by decide +kernel) ⟨Nat.le_of_ble_eq_true rfl, Nat.le_of_ble_eq_true rfl⟩) rfl rfl (Nat.le_of_ble_eq_true rfl) dL_isWell_553 ?_
        rw [utl_0 (pof_0 hs0)]
        refine p_if_ne (tgt := 563) X dL_isWell_556 (by decide) (fun c556 => absurd c556 (by decide)) (fun c556 => ?_)
        refine p_iconst (v := (nI 1)) X dL_isWell_559 (by decide) ?_
        refine p_goto (tgt := 564) X dL_isWell_560 (by decide) ?_
        refine p_ncmp_ne (tgt := 571) X 1 1 dL_isWell_564 (by decide) rfl rfl (by omega) (by omega) (fun c564 => absurd c564 (by decide)) (fun c564 => ?_)
        refine p_iconst (v := (nI 1)) X dL_isWell_567 (by decide) ?_
        refine p_goto (tgt := 572) X dL_isWell_568 (by decide) ?_
        exact p_zret X hr hlk (by first | exact Or.inl rfl | exact Or.inr rfl) ⟨rfl, rfl⟩ dL_isWell_572
      · skip
        refine p_aload_n (q := 3) X dL_isWell_538 rfl rfl ?_
        refine p_bipush (v := (nI 8)) X dL_isWell_539 (by decide) ?_
        refine p_o (As := [.int (nI 8)]) X (q_count l z K Po 8 (by decide)) (cwV 1 X.1.2.2.2.2 gL_isWell_X1_count rfl rfl rfl (by decide +kernel) ⟨Nat.le_of_ble_eq_true rfl, Nat.le_of_ble_eq_true rfl⟩) rfl rfl (Nat.le_of_ble_eq_true rfl) dL_isWell_541 ?_
        rw [R_cnt8]
        refine p_if_ne (tgt := 551) X dL_isWell_544 (by decide) (fun c544 => ?_) (fun c544 => absurd hs0 c544)
        refine p_iconst (v := (nI 0)) X dL_isWell_551 (by decide) ?_
        refine p_aload_n (q := 3) X dL_isWell_552 rfl rfl ?_
        refine p_o (As := []) X (q_untilPosted l z K Po ) (cwV 0 X.1.2.2.2.2 gL_isWell_X1_untilPosted rfl rfl rfl (by decide +kernel) ⟨Nat.le_of_ble_eq_true rfl, Nat.le_of_ble_eq_true rfl⟩) rfl rfl (Nat.le_of_ble_eq_true rfl) dL_isWell_553 ?_
        refine p_if_ne (tgt := 563) X dL_isWell_556 (by decide) (fun c556 => ?_) (fun c556 => absurd (utl_n (pof_1 hs0)) c556)
        refine p_iconst (v := (nI 0)) X dL_isWell_563 (by decide) ?_
        refine p_ncmp_ne (tgt := 571) X 0 0 dL_isWell_564 (by decide) rfl rfl (by omega) (by omega) (fun c564 => absurd c564 (by decide)) (fun c564 => ?_)
        refine p_iconst (v := (nI 1)) X dL_isWell_567 (by decide) ?_
        refine p_goto (tgt := 572) X dL_isWell_568 (by decide) ?_
        exact p_zret X hr hlk (by first | exact Or.inl rfl | exact Or.inr rfl) ⟨rfl, rfl⟩ dL_isWell_572
    · skip
      have hkN : k < K.1.2 := by omega
      obtain ⟨L0, hL2, hL9, eL⟩ := hcz.len k hkN
      have hpl := plc_le (Z := K.1.1) (n := k) K.1.2
      by_cases h8 : K.1.1 8 k = 0
      · skip
        by_cases hb : 0 < nb K.1.1 (nI k) 12
        · skip
          rcases low_r (rsn K.1.1 (aV K.1.1) k) with hlow | ⟨b0, hb0, hr0, hlow⟩
          · skip
            refine p_aload_n (q := 3) X dL_isWell_214 rfl rfl ?_
            refine p_iload (q := 0) X dL_isWell_215 rfl ?_
            refine p_iconst (v := (nI 1)) X dL_isWell_217 (by decide) ?_
            refine p_o (As := [.int (nI k), .int (nI 1)]) X (q_name l z K Po (nI k) (nI 1)) (cwV 2 X.1.2.2.2.2 gL_isWell_X1_name rfl rfl rfl (by decide +kernel) ⟨Nat.le_of_ble_eq_true rfl, Nat.le_of_ble_eq_true rfl⟩) rfl rfl (Nat.le_of_ble_eq_true rfl) dL_isWell_218 ?_
            rw [R_nam1 hcz hkN, wh_n1 h8 hb]
            refine p_istore (lv' := [(10, .int (nI 1)), (9, .int (nI k)), (5, .int gv), (6, .int (nI wt)), (0, .ref (ad 10 0)), (1, .int ow), (2, .int po), (3, .int (nI nd)), (4, .int go), (7, .int (nI K.1.2)), (8, .int (nI 1))]) X dL_isWell_221 (by decide) rfl ?_
            refine p_aload_n (q := 4) X dL_isWell_223 rfl rfl ?_
            refine p_iload (q := 1) X dL_isWell_224 rfl ?_
            refine p_o (As := [.int (nI k)]) X (q_bestCorner l z K Po (nI k)) (cwV 1 X.1.2.2.2.2 gL_isWell_X1_bestCorner rfl rfl rfl (by decide +kernel) ⟨Nat.le_of_ble_eq_true rfl, Nat.le_of_ble_eq_true rfl⟩) rfl rfl (Nat.le_of_ble_eq_true rfl) dL_isWell_226 ?_
            rw [R_bes hcz hkN, hlow]
            refine p_istore (lv' := [(11, .int (-6)), (10, .int (nI 1)), (9, .int (nI k)), (5, .int gv), (6, .int (nI wt)), (0, .ref (ad 10 0)), (1, .int ow), (2, .int po), (3, .int (nI nd)), (4, .int go), (7, .int (nI K.1.2)), (8, .int (nI 1))]) X dL_isWell_229 (by decide) rfl ?_
            refine p_iload (q := 3) X dL_isWell_231 rfl ?_
            refine p_aload_n (q := 5) X dL_isWell_233 rfl rfl ?_
            refine p_iload (q := 2) X dL_isWell_234 rfl ?_
            refine p_bipush (v := (nI 6)) X dL_isWell_236 (by decide) ?_
            refine p_o (As := [.int (nI k), .int (nI 6)]) X (q_name l z K Po (nI k) (nI 6)) (cwV 2 X.1.2.2.2.2 gL_isWell_X1_name rfl rfl rfl (by decide +kernel) ⟨Nat.le_of_ble_eq_true rfl, Nat.le_of_ble_eq_true rfl⟩) rfl rfl (Nat.le_of_ble_eq_true rfl) dL_isWell_238 ?_
            rw [R_nam6 hcz hkN]
            refine p_iadd (v := (gv + (K.1.1 9 k))) X dL_isWell_241 rfl ?_
            refine p_istore (lv' := [(5, .int (gv + (K.1.1 9 k))), (11, .int (-6)), (10, .int (nI 1)), (9, .int (nI k)), (6, .int (nI wt)), (0, .ref (ad 10 0)), (1, .int ow), (2, .int po), (3, .int (nI nd)), (4, .int go), (7, .int (nI K.1.2)), (8, .int (nI 1))]) X dL_isWell_242 (by decide) rfl ?_
            refine p_iload (q := 4) X dL_isWell_244 rfl ?_
            refine p_iload (q := 2) X dL_isWell_246 rfl ?_
            refine p_if_ne (tgt := 255) X dL_isWell_248 (by decide) (fun c248 => ?_) (fun c248 => absurd (by decide) c248)
            refine p_iconst (v := (nI 0)) X dL_isWell_255 (by decide) ?_
            refine p_iadd (v := (nI (wt + 0))) X dL_isWell_256 (nI_add _ _) ?_
            refine p_istore (lv' := [(6, .int (nI (wt + 0))), (5, .int (gv + (K.1.1 9 k))), (11, .int (-6)), (10, .int (nI 1)), (9, .int (nI k)), (0, .ref (ad 10 0)), (1, .int ow), (2, .int po), (3, .int (nI nd)), (4, .int go), (7, .int (nI K.1.2)), (8, .int (nI 1))]) X dL_isWell_257 (by decide) rfl ?_
            refine p_iload (q := 11) X dL_isWell_259 rfl ?_
            refine p_if_eq (tgt := 376) X dL_isWell_261 (by decide) (fun c261 => absurd c261 (by decide)) (fun c261 => ?_)
            refine p_iload (q := 3) X dL_isWell_264 rfl ?_
            refine p_iconst (v := (nI 1)) X dL_isWell_266 (by decide) ?_
            refine p_ncmp_ne (tgt := 274) X 1 1 dL_isWell_267 (by decide) rfl rfl (by omega) (by omega) (fun c267 => absurd c267 (by decide)) (fun c267 => ?_)
            refine p_iconst (v := (nI 1)) X dL_isWell_270 (by decide) ?_
            refine p_goto (tgt := 275) X dL_isWell_271 (by decide) ?_
            refine p_aload_n (q := 5) X dL_isWell_275 rfl rfl ?_
            refine p_iload (q := 4) X dL_isWell_276 rfl ?_
            refine p_iconst (v := (nI 2)) X dL_isWell_278 (by decide) ?_
            refine p_o (As := [.int (nI k), .int (nI 2)]) X (q_name l z K Po (nI k) (nI 2)) (cwV 2 X.1.2.2.2.2 gL_isWell_X1_name rfl rfl rfl (by decide +kernel) ⟨Nat.le_of_ble_eq_true rfl, Nat.le_of_ble_eq_true rfl⟩) rfl rfl (Nat.le_of_ble_eq_true rfl) dL_isWell_279 ?_
            rw [R_nam2 hcz hkN]
            refine p_if_eq (tgt := 289) X dL_isWell_282 (by decide) (fun c282 => absurd (bm_0 c282) (by omega)) (fun c282 => ?_)
            refine p_iconst (v := (nI 1)) X dL_isWell_285 (by decide) ?_
            refine p_goto (tgt := 290) X dL_isWell_286 (by decide) ?_
            refine p_ncmp_ne (tgt := 376) X 1 1 dL_isWell_290 (by decide) rfl rfl (by omega) (by omega) (fun c290 => absurd c290 (by decide)) (fun c290 => ?_)
            refine p_iload (q := 3) X dL_isWell_293 rfl ?_
            refine p_if_ne (tgt := 302) X dL_isWell_295 (by decide) (fun c295 => ?_) (fun c295 => absurd (by decide) c295)
            refine p_iconst (v := (nI 0)) X dL_isWell_302 (by decide) ?_
            refine p_aload_n (q := 5) X dL_isWell_303 rfl rfl ?_
            refine p_iload (q := 4) X dL_isWell_304 rfl ?_
            refine p_iconst (v := (nI 3)) X dL_isWell_306 (by decide) ?_
            refine p_o (As := [.int (nI k), .int (nI 3)]) X (q_name l z K Po (nI k) (nI 3)) (cwV 2 X.1.2.2.2.2 gL_isWell_X1_name rfl rfl rfl (by decide +kernel) ⟨Nat.le_of_ble_eq_true rfl, Nat.le_of_ble_eq_true rfl⟩) rfl rfl (Nat.le_of_ble_eq_true rfl) dL_isWell_307 ?_
            rw [R_nam3 hcz hkN, if_neg (by rw [wh_n1 h8 hb]; decide)]
            refine p_if_lt (tgt := 317) X dL_isWell_310 (by decide) (fun c310 => ?_) (fun c310 => absurd (by decide) c310)
            refine p_iconst (v := (nI 0)) X dL_isWell_317 (by decide) ?_
            refine p_ncmp_ne (tgt := 376) X 0 0 dL_isWell_318 (by decide) rfl rfl (by omega) (by omega) (fun c318 => absurd c318 (by decide)) (fun c318 => ?_)
            refine p_iload (q := 3) X dL_isWell_321 rfl ?_
            refine p_iconst (v := (nI 2)) X dL_isWell_323 (by decide) ?_
            refine p_ncmp_ne (tgt := 345) X 1 2 dL_isWell_324 (by decide) rfl rfl (by omega) (by omega) (fun c324 => ?_) (fun c324 => absurd (by decide) c324)
            refine p_iload (q := 2) X dL_isWell_345 rfl ?_
            refine p_if_lt (tgt := 361) X dL_isWell_347 (by decide) (fun c347 => ?_) (fun c347 => absurd (by decide) c347)
            refine p_aload_n (q := 5) X dL_isWell_361 rfl rfl ?_
            refine p_iload (q := 4) X dL_isWell_362 rfl ?_
            refine p_iconst (v := (nI 5)) X dL_isWell_364 (by decide) ?_
            refine p_o (As := [.int (nI k), .int (nI 5)]) X (q_name l z K Po (nI k) (nI 5)) (cwV 2 X.1.2.2.2.2 gL_isWell_X1_name rfl rfl rfl (by decide +kernel) ⟨Nat.le_of_ble_eq_true rfl, Nat.le_of_ble_eq_true rfl⟩) rfl rfl (Nat.le_of_ble_eq_true rfl) dL_isWell_365 ?_
            rw [R_nam5 hcz hkN, eL]
            refine p_iconst (v := (nI 1)) X dL_isWell_368 (by decide) ?_
            refine p_ncmp_le (tgt := 376) X L0 1 dL_isWell_369 (by decide) rfl rfl (by omega) (by omega) (fun c369 => absurd c369 (by omega)) (fun c369 => ?_)
            refine p_iconst (v := (nI 1)) X dL_isWell_372 (by decide) ?_
            refine p_goto (tgt := 377) X dL_isWell_373 (by decide) ?_
            refine p_istore (lv' := [(8, .int (nI 1)), (6, .int (nI (wt + 0))), (5, .int (gv + (K.1.1 9 k))), (11, .int (-6)), (10, .int (nI 1)), (9, .int (nI k)), (0, .ref (ad 10 0)), (1, .int ow), (2, .int po), (3, .int (nI nd)), (4, .int go), (7, .int (nI K.1.2))]) X dL_isWell_377 (by decide) rfl ?_
            refine p_iconst (v := (nI 0)) X dL_isWell_379 (by decide) ?_
            refine p_istore (lv' := [(12, .int (nI 0)), (8, .int (nI 1)), (6, .int (nI (wt + 0))), (5, .int (gv + (K.1.1 9 k))), (11, .int (-6)), (10, .int (nI 1)), (9, .int (nI k)), (0, .ref (ad 10 0)), (1, .int ow), (2, .int po), (3, .int (nI nd)), (4, .int go), (7, .int (nI K.1.2))]) X dL_isWell_380 (by decide) rfl ?_
            refine p_lv (lv1 := [(12, .int (nI 0)), (0, .ref (ad 10 0)), (1, .int ow), (2, .int po), (3, .int (nI nd)), (4, .int go), (5, .int (gv + (K.1.1 9 k))), (6, .int (nI (wt + 0))), (7, .int (nI K.1.2)), (8, .int (nI 1)), (9, .int (nI k)), (10, .int (nI 1)), (11, .int (-6))]) [0, 7, 8, 9, 10, 11, 3, 2, 12, 1, 6, 5, 4] rfl ?_
            refine loop1 (G := P2 p l e _ s m args below meth c 0 0 _ _ D ad bd cs A B) (pc := 382) (fun (j : Nat) => [(12, .int (nI j)), (0, .ref (ad 10 0)), (1, .int ow), (2, .int po), (3, .int (nI nd)), (4, .int go), (5, .int (gv + (K.1.1 9 k))), (6, .int (nI (wt + 0))), (7, .int (nI K.1.2)), (8, .int (nI 1)), (9, .int (nI k)), (10, .int (nI 1)), (11, .int (-6))]) (fun (j : Nat) => ((K, Po), (K2, Pw))) (fun (j : Nat) => j ≤ k) (fun (j : Nat) => k - j) ?_ 0 (by omega)
            intro j hI382 ih382
            try dsimp only at ih382 ⊢
            have hj := hI382
            refine p_iload (q := 0) X dL_isWell_382 rfl ?_
            refine p_iload (q := 10) X dL_isWell_384 rfl ?_
            refine p_ncmp_ge (tgt := 468) X j k dL_isWell_386 (by decide) rfl rfl (by omega) (by omega) (fun c386 => ?_) (fun c386 => ?_)
            · skip
              refine p_iinc (q := 10) (v := (nI (k + 1))) (lv' := [(9, .int (nI (k + 1))), (12, .int (nI j)), (0, .ref (ad 10 0)), (1, .int ow), (2, .int po), (3, .int (nI nd)), (4, .int go), (5, .int (gv + (K.1.1 9 k))), (6, .int (nI (wt + 0))), (7, .int (nI K.1.2)), (8, .int (nI 1)), (10, .int (nI 1)), (11, .int (-6))]) X dL_isWell_468 rfl (nI_1 _) (by decide) rfl ?_
              refine p_goto (tgt := 207) X dL_isWell_471 (by decide) ?_
              refine p_lv (lv1 := [(9, .int (nI (k + 1))), (5, .int (gv + (K.1.1 9 k))), (6, .int (nI (wt + 0))), (0, .ref (ad 10 0)), (1, .int ow), (2, .int po), (3, .int (nI nd)), (4, .int go), (7, .int (nI K.1.2)), (8, .int (nI 1))]) [0, 7, 8, 2, 3, 4, 5, 6, 9, 10] rfl ?_
              exact ih207 (k + 1) (gv + (K.1.1 9 k)) (wt + 0) ⟨by omega, by rw [sm, hgv], by rw [wtn, if_neg (by rw [wh_n1 h8 hb]; decide), hwt]; rfl⟩ (by omega)
            · skip
              have hjk : j < k := by omega
              by_cases hs : K.1.1 6 j = K.1.1 6 k
              · skip
                refine p_aload_n (q := 1) X dL_isWell_389 rfl rfl ?_
                refine p_iload (q := 0) X dL_isWell_390 rfl ?_
                refine p_iload (q := 10) X dL_isWell_392 rfl ?_
                refine p_iconst (v := (nI 0)) X dL_isWell_394 (by decide) ?_
                refine p_o (As := [.int (nI j), .int (nI k), .int (nI 0)]) X (q_alike l z K Po (nI j) (nI k) (nI 0)) (cwV 3 X.1.2.2.2.2 gL_isWell_X1_alike rfl rfl rfl (by decide +kernel) ⟨Nat.le_of_ble_eq_true rfl, Nat.le_of_ble_eq_true rfl⟩) rfl rfl (Nat.le_of_ble_eq_true rfl) dL_isWell_395 ?_
                rw [R_ali hcz (by omega) (by omega) (by decide), if_pos hs]
                rw [show (1 : Int32) = nI 1 from rfl]
                refine p_istore (lv' := [(13, .int (nI 1)), (12, .int (nI j)), (0, .ref (ad 10 0)), (1, .int ow), (2, .int po), (3, .int (nI nd)), (4, .int go), (5, .int (gv + (K.1.1 9 k))), (6, .int (nI (wt + 0))), (7, .int (nI K.1.2)), (8, .int (nI 1)), (9, .int (nI k)), (10, .int (nI 1)), (11, .int (-6))]) X dL_isWell_398 (by decide) rfl ?_
                refine p_iload (q := 10) X dL_isWell_400 rfl ?_
                refine p_if_eq (tgt := 459) X dL_isWell_402 (by decide) (fun c402 => absurd c402 (by decide)) (fun c402 => ?_)
                refine p_iload (q := 0) X dL_isWell_405 rfl ?_
                refine p_aload_n (q := 2) X dL_isWell_407 rfl rfl ?_
                refine p_iload (q := 11) X dL_isWell_408 rfl ?_
                refine p_iload (q := 1) X dL_isWell_410 rfl ?_
                refine p_iconst (v := (nI 1)) X dL_isWell_412 (by decide) ?_
                refine p_o (As := [.int (nI k), .int (nI j), .int (nI 1)]) X (q_alike l z K Po (nI k) (nI j) (nI 1)) (cwV 3 X.1.2.2.2.2 gL_isWell_X1_alike rfl rfl rfl (by decide +kernel) ⟨Nat.le_of_ble_eq_true rfl, Nat.le_of_ble_eq_true rfl⟩) rfl rfl (Nat.le_of_ble_eq_true rfl) dL_isWell_413 ?_
                rw [R_ali hcz (by omega) (by omega) (by decide), if_pos hs.symm]
                rw [show (1 : Int32) = nI 1 from rfl]
                refine p_ncmp_ne (tgt := 459) X 1 1 dL_isWell_416 (by decide) rfl rfl (by omega) (by omega) (fun c416 => absurd c416 (by decide)) (fun c416 => ?_)
                refine p_iload (q := 0) X dL_isWell_419 rfl ?_
                refine p_iconst (v := (nI 1)) X dL_isWell_421 (by decide) ?_
                refine p_ncmp_ne (tgt := 429) X 1 1 dL_isWell_422 (by decide) rfl rfl (by omega) (by omega) (fun c422 => absurd c422 (by decide)) (fun c422 => ?_)
                refine p_iconst (v := (nI 1)) X dL_isWell_425 (by decide) ?_
                refine p_goto (tgt := 430) X dL_isWell_426 (by decide) ?_
                refine p_aload_n (q := 2) X dL_isWell_430 rfl rfl ?_
                refine p_iload (q := 1) X dL_isWell_431 rfl ?_
                refine p_iconst (v := (nI 4)) X dL_isWell_433 (by decide) ?_
                refine p_o (As := [.int (nI j), .int (nI 4)]) X (q_name l z K Po (nI j) (nI 4)) (cwV 2 X.1.2.2.2.2 gL_isWell_X1_name rfl rfl rfl (by decide +kernel) ⟨Nat.le_of_ble_eq_true rfl, Nat.le_of_ble_eq_true rfl⟩) rfl rfl (Nat.le_of_ble_eq_true rfl) dL_isWell_434 ?_
                rw [R_nam4 hcz (by omega)]
                refine p_aload_n (q := 2) X dL_isWell_437 rfl rfl ?_
                refine p_iload (q := 11) X dL_isWell_438 rfl ?_
                refine p_iconst (v := (nI 4)) X dL_isWell_440 (by decide) ?_
                refine p_o (As := [.int (nI k), .int (nI 4)]) X (q_name l z K Po (nI k) (nI 4)) (cwV 2 X.1.2.2.2.2 gL_isWell_X1_name rfl rfl rfl (by decide +kernel) ⟨Nat.le_of_ble_eq_true rfl, Nat.le_of_ble_eq_true rfl⟩) rfl rfl (Nat.le_of_ble_eq_true rfl) dL_isWell_441 ?_
                rw [R_nam4 hcz (by omega)]
                refine p_icmp_ne (tgt := 451) X dL_isWell_444 (by decide) (fun c444 => absurd hs c444) (fun c444 => ?_)
                refine p_iconst (v := (nI 1)) X dL_isWell_447 (by decide) ?_
                refine p_goto (tgt := 452) X dL_isWell_448 (by decide) ?_
                refine p_ncmp_ne (tgt := 459) X 1 1 dL_isWell_452 (by decide) rfl rfl (by omega) (by omega) (fun c452 => absurd c452 (by decide)) (fun c452 => ?_)
                refine p_iconst (v := (nI 1)) X dL_isWell_455 (by decide) ?_
                refine p_goto (tgt := 460) X dL_isWell_456 (by decide) ?_
                refine p_istore (lv' := [(8, .int (nI 1)), (13, .int (nI 1)), (12, .int (nI j)), (0, .ref (ad 10 0)), (1, .int ow), (2, .int po), (3, .int (nI nd)), (4, .int go), (5, .int (gv + (K.1.1 9 k))), (6, .int (nI (wt + 0))), (7, .int (nI K.1.2)), (9, .int (nI k)), (10, .int (nI 1)), (11, .int (-6))]) X dL_isWell_460 (by decide) rfl ?_
                refine p_iinc (q := 2) (v := (nI (j + 1))) (lv' := [(12, .int (nI (j + 1))), (8, .int (nI 1)), (13, .int (nI 1)), (0, .ref (ad 10 0)), (1, .int ow), (2, .int po), (3, .int (nI nd)), (4, .int go), (5, .int (gv + (K.1.1 9 k))), (6, .int (nI (wt + 0))), (7, .int (nI K.1.2)), (9, .int (nI k)), (10, .int (nI 1)), (11, .int (-6))]) X dL_isWell_462 rfl (nI_1 _) (by decide) rfl ?_
                refine p_goto (tgt := 382) X dL_isWell_465 (by decide) ?_
                refine p_lv (lv1 := [(12, .int (nI (j + 1))), (0, .ref (ad 10 0)), (1, .int ow), (2, .int po), (3, .int (nI nd)), (4, .int go), (5, .int (gv + (K.1.1 9 k))), (6, .int (nI (wt + 0))), (7, .int (nI K.1.2)), (8, .int (nI 1)), (9, .int (nI k)), (10, .int (nI 1)), (11, .int (-6))]) [0, 3, 4, 5, 6, 7, 8, 9, 10, 1, 11, 12, 13] rfl ?_
                exact ih382 (j + 1) (by omega) (by omega)
              · skip
                refine p_aload_n (q := 1) X dL_isWell_389 rfl rfl ?_
                refine p_iload (q := 0) X dL_isWell_390 rfl ?_
                refine p_iload (q := 10) X dL_isWell_392 rfl ?_
                refine p_iconst (v := (nI 0)) X dL_isWell_394 (by decide) ?_
                refine p_o (As := [.int (nI j), .int (nI k), .int (nI 0)]) X (q_alike l z K Po (nI j) (nI k) (nI 0)) (cwV 3 X.1.2.2.2.2 gL_isWell_X1_alike rfl rfl rfl (by decide +kernel) ⟨Nat.le_of_ble_eq_true rfl, Nat.le_of_ble_eq_true rfl⟩) rfl rfl (Nat.le_of_ble_eq_true rfl) dL_isWell_395 ?_
                rw [R_ali hcz (by omega) (by omega) (by decide), if_neg hs]
                rw [show (0 : Int32) = nI 0 from rfl]
                refine p_istore (lv' := [(13, .int (nI 0)), (12, .int (nI j)), (0, .ref (ad 10 0)), (1, .int ow), (2, .int po), (3, .int (nI nd)), (4, .int go), (5, .int (gv + (K.1.1 9 k))), (6, .int (nI (wt + 0))), (7, .int (nI K.1.2)), (8, .int (nI 1)), (9, .int (nI k)), (10, .int (nI 1)), (11, .int (-6))]) X dL_isWell_398 (by decide) rfl ?_
                refine p_iload (q := 10) X dL_isWell_400 rfl ?_
                refine p_if_eq (tgt := 459) X dL_isWell_402 (by decide) (fun c402 => absurd c402 (by decide)) (fun c402 => ?_)
                refine p_iload (q := 0) X dL_isWell_405 rfl ?_
                refine p_aload_n (q := 2) X dL_isWell_407 rfl rfl ?_
                refine p_iload (q := 11) X dL_isWell_408 rfl ?_
                refine p_iload (q := 1) X dL_isWell_410 rfl ?_
                refine p_iconst (v := (nI 1)) X dL_isWell_412 (by decide) ?_
                refine p_o (As := [.int (nI k), .int (nI j), .int (nI 1)]) X (q_alike l z K Po (nI k) (nI j) (nI 1)) (cwV 3 X.1.2.2.2.2 gL_isWell_X1_alike rfl rfl rfl (by decide +kernel) ⟨Nat.le_of_ble_eq_true rfl, Nat.le_of_ble_eq_true rfl⟩) rfl rfl (Nat.le_of_ble_eq_true rfl) dL_isWell_413 ?_
                rw [R_ali hcz (by omega) (by omega) (by decide), if_neg (fun y => hs y.symm)]
                rw [show (0 : Int32) = nI 0 from rfl]
                refine p_ncmp_ne (tgt := 459) X 0 0 dL_isWell_416 (by decide) rfl rfl (by omega) (by omega) (fun c416 => absurd c416 (by decide)) (fun c416 => ?_)
                refine p_iload (q := 0) X dL_isWell_419 rfl ?_
                refine p_iconst (v := (nI 1)) X dL_isWell_421 (by decide) ?_
                refine p_ncmp_ne (tgt := 429) X 0 1 dL_isWell_422 (by decide) rfl rfl (by omega) (by omega) (fun c422 => ?_) (fun c422 => absurd (by decide) c422)
                refine p_iconst (v := (nI 0)) X dL_isWell_429 (by decide) ?_
                refine p_aload_n (q := 2) X dL_isWell_430 rfl rfl ?_
                refine p_iload (q := 1) X dL_isWell_431 rfl ?_
                refine p_iconst (v := (nI 4)) X dL_isWell_433 (by decide) ?_
                refine p_o (As := [.int (nI j), .int (nI 4)]) X (q_name l z K Po (nI j) (nI 4)) (cwV 2 X.1.2.2.2.2 gL_isWell_X1_name rfl rfl rfl (by decide +kernel) ⟨Nat.le_of_ble_eq_true rfl, Nat.le_of_ble_eq_true rfl⟩) rfl rfl (Nat.le_of_ble_eq_true rfl) dL_isWell_434 ?_
                rw [R_nam4 hcz (by omega)]
                refine p_aload_n (q := 2) X dL_isWell_437 rfl rfl ?_
                refine p_iload (q := 11) X dL_isWell_438 rfl ?_
                refine p_iconst (v := (nI 4)) X dL_isWell_440 (by decide) ?_
                refine p_o (As := [.int (nI k), .int (nI 4)]) X (q_name l z K Po (nI k) (nI 4)) (cwV 2 X.1.2.2.2.2 gL_isWell_X1_name rfl rfl rfl (by decide +kernel) ⟨Nat.le_of_ble_eq_true rfl, Nat.le_of_ble_eq_true rfl⟩) rfl rfl (Nat.le_of_ble_eq_true rfl) dL_isWell_441 ?_
                rw [R_nam4 hcz (by omega)]
                refine p_icmp_ne (tgt := 451) X dL_isWell_444 (by decide) (fun c444 => ?_) (fun c444 => absurd hs c444)
                refine p_iconst (v := (nI 0)) X dL_isWell_451 (by decide) ?_
                refine p_ncmp_ne (tgt := 459) X 0 0 dL_isWell_452 (by decide) rfl rfl (by omega) (by omega) (fun c452 => absurd c452 (by decide)) (fun c452 => ?_)
                refine p_iconst (v := (nI 1)) X dL_isWell_455 (by decide) ?_
                refine p_goto (tgt := 460) X dL_isWell_456 (by decide) ?_
                refine p_istore (lv' := [(8, .int (nI 1)), (13, .int (nI 0)), (12, .int (nI j)), (0, .ref (ad 10 0)), (1, .int ow), (2, .int po), (3, .int (nI nd)), (4, .int go), (5, .int (gv + (K.1.1 9 k))), (6, .int (nI (wt + 0))), (7, .int (nI K.1.2)), (9, .int (nI k)), (10, .int (nI 1)), (11, .int (-6))]) X dL_isWell_460 (by decide) rfl ?_
                refine p_iinc (q := 2) (v := (nI (j + 1))) (lv' := [(12, .int (nI (j + 1))), (8, .int (nI 1)), (13, .int (nI 0)), (0, .ref (ad 10 0)), (1, .int ow), (2, .int po), (3, .int (nI nd)), (4, .int go), (5, .int (gv + (K.1.1 9 k))), (6, .int (nI (wt + 0))), (7, .int (nI K.1.2)), (9, .int (nI k)), (10, .int (nI 1)), (11, .int (-6))]) X dL_isWell_462 rfl (nI_1 _) (by decide) rfl ?_
                refine p_goto (tgt := 382) X dL_isWell_465 (by decide) ?_
                refine p_lv (lv1 := [(12, .int (nI (j + 1))), (0, .ref (ad 10 0)), (1, .int ow), (2, .int po), (3, .int (nI nd)), (4, .int go), (5, .int (gv + (K.1.1 9 k))), (6, .int (nI (wt + 0))), (7, .int (nI K.1.2)), (8, .int (nI 1)), (9, .int (nI k)), (10, .int (nI 1)), (11, .int (-6))]) [0, 3, 4, 5, 6, 7, 8, 9, 10, 1, 11, 12, 13] rfl ?_
                exact ih382 (j + 1) (by omega) (by omega)
          · skip
            refine p_aload_n (q := 3) X dL_isWell_214 rfl rfl ?_
            refine p_iload (q := 0) X dL_isWell_215 rfl ?_
            refine p_iconst (v := (nI 1)) X dL_isWell_217 (by decide) ?_
            refine p_o (As := [.int (nI k), .int (nI 1)]) X (q_name l z K Po (nI k) (nI 1)) (cwV 2 X.1.2.2.2.2 gL_isWell_X1_name rfl rfl rfl (by decide +kernel) ⟨Nat.le_of_ble_eq_true rfl, Nat.le_of_ble_eq_true rfl⟩) rfl rfl (Nat.le_of_ble_eq_true rfl) dL_isWell_218 ?_
            rw [R_nam1 hcz hkN, wh_n1 h8 hb]
            refine p_istore (lv' := [(10, .int (nI 1)), (9, .int (nI k)), (5, .int gv), (6, .int (nI wt)), (0, .ref (ad 10 0)), (1, .int ow), (2, .int po), (3, .int (nI nd)), (4, .int go), (7, .int (nI K.1.2)), (8, .int (nI 1))]) X dL_isWell_221 (by decide) rfl ?_
            refine p_aload_n (q := 4) X dL_isWell_223 rfl rfl ?_
            refine p_iload (q := 1) X dL_isWell_224 rfl ?_
            refine p_o (As := [.int (nI k)]) X (q_bestCorner l z K Po (nI k)) (cwV 1 X.1.2.2.2.2 gL_isWell_X1_bestCorner rfl rfl rfl (by decide +kernel) ⟨Nat.le_of_ble_eq_true rfl, Nat.le_of_ble_eq_true rfl⟩) rfl rfl (Nat.le_of_ble_eq_true rfl) dL_isWell_226 ?_
            rw [R_bes hcz hkN, hlow]
            refine p_istore (lv' := [(11, .int (nI b0)), (10, .int (nI 1)), (9, .int (nI k)), (5, .int gv), (6, .int (nI wt)), (0, .ref (ad 10 0)), (1, .int ow), (2, .int po), (3, .int (nI nd)), (4, .int go), (7, .int (nI K.1.2)), (8, .int (nI 1))]) X dL_isWell_229 (by decide) rfl ?_
            refine p_iload (q := 3) X dL_isWell_231 rfl ?_
            refine p_aload_n (q := 5) X dL_isWell_233 rfl rfl ?_
            refine p_iload (q := 2) X dL_isWell_234 rfl ?_
            refine p_bipush (v := (nI 6)) X dL_isWell_236 (by decide) ?_
            refine p_o (As := [.int (nI k), .int (nI 6)]) X (q_name l z K Po (nI k) (nI 6)) (cwV 2 X.1.2.2.2.2 gL_isWell_X1_name rfl rfl rfl (by decide +kernel) ⟨Nat.le_of_ble_eq_true rfl, Nat.le_of_ble_eq_true rfl⟩) rfl rfl (Nat.le_of_ble_eq_true rfl) dL_isWell_238 ?_
            rw [R_nam6 hcz hkN]
            refine p_iadd (v := (gv + (K.1.1 9 k))) X dL_isWell_241 rfl ?_
            refine p_istore (lv' := [(5, .int (gv + (K.1.1 9 k))), (11, .int (nI b0)), (10, .int (nI 1)), (9, .int (nI k)), (6, .int (nI wt)), (0, .ref (ad 10 0)), (1, .int ow), (2, .int po), (3, .int (nI nd)), (4, .int go), (7, .int (nI K.1.2)), (8, .int (nI 1))]) X dL_isWell_242 (by decide) rfl ?_
            refine p_iload (q := 4) X dL_isWell_244 rfl ?_
            refine p_iload (q := 2) X dL_isWell_246 rfl ?_
            refine p_if_ne (tgt := 255) X dL_isWell_248 (by decide) (fun c248 => ?_) (fun c248 => absurd (by decide) c248)
            refine p_iconst (v := (nI 0)) X dL_isWell_255 (by decide) ?_
            refine p_iadd (v := (nI (wt + 0))) X dL_isWell_256 (nI_add _ _) ?_
            refine p_istore (lv' := [(6, .int (nI (wt + 0))), (5, .int (gv + (K.1.1 9 k))), (11, .int (nI b0)), (10, .int (nI 1)), (9, .int (nI k)), (0, .ref (ad 10 0)), (1, .int ow), (2, .int po), (3, .int (nI nd)), (4, .int go), (7, .int (nI K.1.2)), (8, .int (nI 1))]) X dL_isWell_257 (by decide) rfl ?_
            refine p_iload (q := 11) X dL_isWell_259 rfl ?_
            refine p_if_eq (tgt := 376) X dL_isWell_261 (by decide) (fun c261 => absurd c261 (by decide)) (fun c261 => ?_)
            refine p_iload (q := 3) X dL_isWell_264 rfl ?_
            refine p_iconst (v := (nI 1)) X dL_isWell_266 (by decide) ?_
            refine p_ncmp_ne (tgt := 274) X 1 1 dL_isWell_267 (by decide) rfl rfl (by omega) (by omega) (fun c267 => absurd c267 (by decide)) (fun c267 => ?_)
            refine p_iconst (v := (nI 1)) X dL_isWell_270 (by decide) ?_
            refine p_goto (tgt := 275) X dL_isWell_271 (by decide) ?_
            refine p_aload_n (q := 5) X dL_isWell_275 rfl rfl ?_
            refine p_iload (q := 4) X dL_isWell_276 rfl ?_
            refine p_iconst (v := (nI 2)) X dL_isWell_278 (by decide) ?_
            refine p_o (As := [.int (nI k), .int (nI 2)]) X (q_name l z K Po (nI k) (nI 2)) (cwV 2 X.1.2.2.2.2 gL_isWell_X1_name rfl rfl rfl (by decide +kernel) ⟨Nat.le_of_ble_eq_true rfl, Nat.le_of_ble_eq_true rfl⟩) rfl rfl (Nat.le_of_ble_eq_true rfl) dL_isWell_279 ?_
            rw [R_nam2 hcz hkN]
            refine p_if_eq (tgt := 289) X dL_isWell_282 (by decide) (fun c282 => absurd (bm_0 c282) (by omega)) (fun c282 => ?_)
            refine p_iconst (v := (nI 1)) X dL_isWell_285 (by decide) ?_
            refine p_goto (tgt := 290) X dL_isWell_286 (by decide) ?_
            refine p_ncmp_ne (tgt := 376) X 1 1 dL_isWell_290 (by decide) rfl rfl (by omega) (by omega) (fun c290 => absurd c290 (by decide)) (fun c290 => ?_)
            refine p_iload (q := 3) X dL_isWell_293 rfl ?_
            refine p_if_ne (tgt := 302) X dL_isWell_295 (by decide) (fun c295 => ?_) (fun c295 => absurd (by decide) c295)
            refine p_iconst (v := (nI 0)) X dL_isWell_302 (by decide) ?_
            refine p_aload_n (q := 5) X dL_isWell_303 rfl rfl ?_
            refine p_iload (q := 4) X dL_isWell_304 rfl ?_
            refine p_iconst (v := (nI 3)) X dL_isWell_306 (by decide) ?_
            refine p_o (As := [.int (nI k), .int (nI 3)]) X (q_name l z K Po (nI k) (nI 3)) (cwV 2 X.1.2.2.2.2 gL_isWell_X1_name rfl rfl rfl (by decide +kernel) ⟨Nat.le_of_ble_eq_true rfl, Nat.le_of_ble_eq_true rfl⟩) rfl rfl (Nat.le_of_ble_eq_true rfl) dL_isWell_307 ?_
            rw [R_nam3 hcz hkN, if_neg (by rw [wh_n1 h8 hb]; decide)]
            refine p_if_lt (tgt := 317) X dL_isWell_310 (by decide) (fun c310 => ?_) (fun c310 => absurd (by decide) c310)
            refine p_iconst (v := (nI 0)) X dL_isWell_317 (by decide) ?_
            refine p_ncmp_ne (tgt := 376) X 0 0 dL_isWell_318 (by decide) rfl rfl (by omega) (by omega) (fun c318 => absurd c318 (by decide)) (fun c318 => ?_)
            refine p_iload (q := 3) X dL_isWell_321 rfl ?_
            refine p_iconst (v := (nI 2)) X dL_isWell_323 (by decide) ?_
            refine p_ncmp_ne (tgt := 345) X 1 2 dL_isWell_324 (by decide) rfl rfl (by omega) (by omega) (fun c324 => ?_) (fun c324 => absurd (by decide) c324)
            refine p_iload (q := 2) X dL_isWell_345 rfl ?_
            refine p_if_lt (tgt := 361) X dL_isWell_347 (by decide) (fun c347 => absurd c347 (nI_pos (by omega))) (fun c347 => ?_)
            refine p_aload_n (q := 5) X dL_isWell_350 rfl rfl ?_
            refine p_iload (q := 4) X dL_isWell_351 rfl ?_
            refine p_iload (q := 2) X dL_isWell_353 rfl ?_
            refine p_o (As := [.int (nI k), .int (nI b0)]) X (q_why l z K Po (nI k) (nI b0)) (cwV 2 X.1.2.2.2.2 gL_isWell_X1_why rfl rfl rfl (by decide +kernel) ⟨Nat.le_of_ble_eq_true rfl, Nat.le_of_ble_eq_true rfl⟩) rfl rfl (Nat.le_of_ble_eq_true rfl) dL_isWell_355 ?_
            rw [R_why hcz hkN hb0, show rsn K.1.1 (aV K.1.1) k b0 = nI 0 from hr0]
            refine p_if_ne (tgt := 376) X dL_isWell_358 (by decide) (fun c358 => absurd c358 (by decide)) (fun c358 => ?_)
            refine p_aload_n (q := 5) X dL_isWell_361 rfl rfl ?_
            refine p_iload (q := 4) X dL_isWell_362 rfl ?_
            refine p_iconst (v := (nI 5)) X dL_isWell_364 (by decide) ?_
            refine p_o (As := [.int (nI k), .int (nI 5)]) X (q_name l z K Po (nI k) (nI 5)) (cwV 2 X.1.2.2.2.2 gL_isWell_X1_name rfl rfl rfl (by decide +kernel) ⟨Nat.le_of_ble_eq_true rfl, Nat.le_of_ble_eq_true rfl⟩) rfl rfl (Nat.le_of_ble_eq_true rfl) dL_isWell_365 ?_
            rw [R_nam5 hcz hkN, eL]
            refine p_iconst (v := (nI 1)) X dL_isWell_368 (by decide) ?_
            refine p_ncmp_le (tgt := 376) X L0 1 dL_isWell_369 (by decide) rfl rfl (by omega) (by omega) (fun c369 => absurd c369 (by omega)) (fun c369 => ?_)
            refine p_iconst (v := (nI 1)) X dL_isWell_372 (by decide) ?_
            refine p_goto (tgt := 377) X dL_isWell_373 (by decide) ?_
            refine p_istore (lv' := [(8, .int (nI 1)), (6, .int (nI (wt + 0))), (5, .int (gv + (K.1.1 9 k))), (11, .int (nI b0)), (10, .int (nI 1)), (9, .int (nI k)), (0, .ref (ad 10 0)), (1, .int ow), (2, .int po), (3, .int (nI nd)), (4, .int go), (7, .int (nI K.1.2))]) X dL_isWell_377 (by decide) rfl ?_
            refine p_iconst (v := (nI 0)) X dL_isWell_379 (by decide) ?_
            refine p_istore (lv' := [(12, .int (nI 0)), (8, .int (nI 1)), (6, .int (nI (wt + 0))), (5, .int (gv + (K.1.1 9 k))), (11, .int (nI b0)), (10, .int (nI 1)), (9, .int (nI k)), (0, .ref (ad 10 0)), (1, .int ow), (2, .int po), (3, .int (nI nd)), (4, .int go), (7, .int (nI K.1.2))]) X dL_isWell_380 (by decide) rfl ?_
            refine p_lv (lv1 := [(12, .int (nI 0)), (0, .ref (ad 10 0)), (1, .int ow), (2, .int po), (3, .int (nI nd)), (4, .int go), (5, .int (gv + (K.1.1 9 k))), (6, .int (nI (wt + 0))), (7, .int (nI K.1.2)), (8, .int (nI 1)), (9, .int (nI k)), (10, .int (nI 1)), (11, .int (nI b0))]) [0, 7, 8, 9, 10, 11, 3, 2, 12, 1, 6, 5, 4] rfl ?_
            refine loop1 (G := P2 p l e _ s m args below meth c 0 0 _ _ D ad bd cs A B) (pc := 382) (fun (j : Nat) => [(12, .int (nI j)), (0, .ref (ad 10 0)), (1, .int ow), (2, .int po), (3, .int (nI nd)), (4, .int go), (5, .int (gv + (K.1.1 9 k))), (6, .int (nI (wt + 0))), (7, .int (nI K.1.2)), (8, .int (nI 1)), (9, .int (nI k)), (10, .int (nI 1)), (11, .int (nI b0))]) (fun (j : Nat) => ((K, Po), (K2, Pw))) (fun (j : Nat) => j ≤ k) (fun (j : Nat) => k - j) ?_ 0 (by omega)
            intro j hI382 ih382
            try dsimp only at ih382 ⊢
            have hj := hI382
            refine p_iload (q := 0) X dL_isWell_382 rfl ?_
            refine p_iload (q := 10) X dL_isWell_384 rfl ?_
            refine p_ncmp_ge (tgt := 468) X j k dL_isWell_386 (by decide) rfl rfl (by omega) (by omega) (fun c386 => ?_) (fun c386 => ?_)
            · skip
              refine p_iinc (q := 10) (v := (nI (k + 1))) (lv' := [(9, .int (nI (k + 1))), (12, .int (nI j)), (0, .ref (ad 10 0)), (1, .int ow), (2, .int po), (3, .int (nI nd)), (4, .int go), (5, .int (gv + (K.1.1 9 k))), (6, .int (nI (wt + 0))), (7, .int (nI K.1.2)), (8, .int (nI 1)), (10, .int (nI 1)), (11, .int (nI b0))]) X dL_isWell_468 rfl (nI_1 _) (by decide) rfl ?_
              refine p_goto (tgt := 207) X dL_isWell_471 (by decide) ?_
              refine p_lv (lv1 := [(9, .int (nI (k + 1))), (5, .int (gv + (K.1.1 9 k))), (6, .int (nI (wt + 0))), (0, .ref (ad 10 0)), (1, .int ow), (2, .int po), (3, .int (nI nd)), (4, .int go), (7, .int (nI K.1.2)), (8, .int (nI 1))]) [0, 7, 8, 2, 3, 4, 5, 6, 9, 10] rfl ?_
              exact ih207 (k + 1) (gv + (K.1.1 9 k)) (wt + 0) ⟨by omega, by rw [sm, hgv], by rw [wtn, if_neg (by rw [wh_n1 h8 hb]; decide), hwt]; rfl⟩ (by omega)
            · skip
              have hjk : j < k := by omega
              by_cases hs : K.1.1 6 j = K.1.1 6 k
              · skip
                refine p_aload_n (q := 1) X dL_isWell_389 rfl rfl ?_
                refine p_iload (q := 0) X dL_isWell_390 rfl ?_
                refine p_iload (q := 10) X dL_isWell_392 rfl ?_
                refine p_iconst (v := (nI 0)) X dL_isWell_394 (by decide) ?_
                refine p_o (As := [.int (nI j), .int (nI k), .int (nI 0)]) X (q_alike l z K Po (nI j) (nI k) (nI 0)) (cwV 3 X.1.2.2.2.2 gL_isWell_X1_alike rfl rfl rfl (by decide +kernel) ⟨Nat.le_of_ble_eq_true rfl, Nat.le_of_ble_eq_true rfl⟩) rfl rfl (Nat.le_of_ble_eq_true rfl) dL_isWell_395 ?_
                rw [R_ali hcz (by omega) (by omega) (by decide), if_pos hs]
                rw [show (1 : Int32) = nI 1 from rfl]
                refine p_istore (lv' := [(13, .int (nI 1)), (12, .int (nI j)), (0, .ref (ad 10 0)), (1, .int ow), (2, .int po), (3, .int (nI nd)), (4, .int go), (5, .int (gv + (K.1.1 9 k))), (6, .int (nI (wt + 0))), (7, .int (nI K.1.2)), (8, .int (nI 1)), (9, .int (nI k)), (10, .int (nI 1)), (11, .int (nI b0))]) X dL_isWell_398 (by decide) rfl ?_
                refine p_iload (q := 10) X dL_isWell_400 rfl ?_
                refine p_if_eq (tgt := 459) X dL_isWell_402 (by decide) (fun c402 => absurd c402 (by decide)) (fun c402 => ?_)
                refine p_iload (q := 0) X dL_isWell_405 rfl ?_
                refine p_aload_n (q := 2) X dL_isWell_407 rfl rfl ?_
                refine p_iload (q := 11) X dL_isWell_408 rfl ?_
                refine p_iload (q := 1) X dL_isWell_410 rfl ?_
                refine p_iconst (v := (nI 1)) X dL_isWell_412 (by decide) ?_
                refine p_o (As := [.int (nI k), .int (nI j), .int (nI 1)]) X (q_alike l z K Po (nI k) (nI j) (nI 1)) (cwV 3 X.1.2.2.2.2 gL_isWell_X1_alike rfl rfl rfl (by decide +kernel) ⟨Nat.le_of_ble_eq_true rfl, Nat.le_of_ble_eq_true rfl⟩) rfl rfl (Nat.le_of_ble_eq_true rfl) dL_isWell_413 ?_
                rw [R_ali hcz (by omega) (by omega) (by decide), if_pos hs.symm]
                rw [show (1 : Int32) = nI 1 from rfl]
                refine p_ncmp_ne (tgt := 459) X 1 1 dL_isWell_416 (by decide) rfl rfl (by omega) (by omega) (fun c416 => absurd c416 (by decide)) (fun c416 => ?_)
                refine p_iload (q := 0) X dL_isWell_419 rfl ?_
                refine p_iconst (v := (nI 1)) X dL_isWell_421 (by decide) ?_
                refine p_ncmp_ne (tgt := 429) X 1 1 dL_isWell_422 (by decide) rfl rfl (by omega) (by omega) (fun c422 => absurd c422 (by decide)) (fun c422 => ?_)
                refine p_iconst (v := (nI 1)) X dL_isWell_425 (by decide) ?_
                refine p_goto (tgt := 430) X dL_isWell_426 (by decide) ?_
                refine p_aload_n (q := 2) X dL_isWell_430 rfl rfl ?_
                refine p_iload (q := 1) X dL_isWell_431 rfl ?_
                refine p_iconst (v := (nI 4)) X dL_isWell_433 (by decide) ?_
                refine p_o (As := [.int (nI j), .int (nI 4)]) X (q_name l z K Po (nI j) (nI 4)) (cwV 2 X.1.2.2.2.2 gL_isWell_X1_name rfl rfl rfl (by decide +kernel) ⟨Nat.le_of_ble_eq_true rfl, Nat.le_of_ble_eq_true rfl⟩) rfl rfl (Nat.le_of_ble_eq_true rfl) dL_isWell_434 ?_
                rw [R_nam4 hcz (by omega)]
                refine p_aload_n (q := 2) X dL_isWell_437 rfl rfl ?_
                refine p_iload (q := 11) X dL_isWell_438 rfl ?_
                refine p_iconst (v := (nI 4)) X dL_isWell_440 (by decide) ?_
                refine p_o (As := [.int (nI k), .int (nI 4)]) X (q_name l z K Po (nI k) (nI 4)) (cwV 2 X.1.2.2.2.2 gL_isWell_X1_name rfl rfl rfl (by decide +kernel) ⟨Nat.le_of_ble_eq_true rfl, Nat.le_of_ble_eq_true rfl⟩) rfl rfl (Nat.le_of_ble_eq_true rfl) dL_isWell_441 ?_
                rw [R_nam4 hcz (by omega)]
                refine p_icmp_ne (tgt := 451) X dL_isWell_444 (by decide) (fun c444 => absurd hs c444) (fun c444 => ?_)
                refine p_iconst (v := (nI 1)) X dL_isWell_447 (by decide) ?_
                refine p_goto (tgt := 452) X dL_isWell_448 (by decide) ?_
                refine p_ncmp_ne (tgt := 459) X 1 1 dL_isWell_452 (by decide) rfl rfl (by omega) (by omega) (fun c452 => absurd c452 (by decide)) (fun c452 => ?_)
                refine p_iconst (v := (nI 1)) X dL_isWell_455 (by decide) ?_
                refine p_goto (tgt := 460) X dL_isWell_456 (by decide) ?_
                refine p_istore (lv' := [(8, .int (nI 1)), (13, .int (nI 1)), (12, .int (nI j)), (0, .ref (ad 10 0)), (1, .int ow), (2, .int po), (3, .int (nI nd)), (4, .int go), (5, .int (gv + (K.1.1 9 k))), (6, .int (nI (wt + 0))), (7, .int (nI K.1.2)), (9, .int (nI k)), (10, .int (nI 1)), (11, .int (nI b0))]) X dL_isWell_460 (by decide) rfl ?_
                refine p_iinc (q := 2) (v := (nI (j + 1))) (lv' := [(12, .int (nI (j + 1))), (8, .int (nI 1)), (13, .int (nI 1)), (0, .ref (ad 10 0)), (1, .int ow), (2, .int po), (3, .int (nI nd)), (4, .int go), (5, .int (gv + (K.1.1 9 k))), (6, .int (nI (wt + 0))), (7, .int (nI K.1.2)), (9, .int (nI k)), (10, .int (nI 1)), (11, .int (nI b0))]) X dL_isWell_462 rfl (nI_1 _) (by decide) rfl ?_
                refine p_goto (tgt := 382) X dL_isWell_465 (by decide) ?_
                refine p_lv (lv1 := [(12, .int (nI (j + 1))), (0, .ref (ad 10 0)), (1, .int ow), (2, .int po), (3, .int (nI nd)), (4, .int go), (5, .int (gv + (K.1.1 9 k))), (6, .int (nI (wt + 0))), (7, .int (nI K.1.2)), (8, .int (nI 1)), (9, .int (nI k)), (10, .int (nI 1)), (11, .int (nI b0))]) [0, 3, 4, 5, 6, 7, 8, 9, 10, 1, 11, 12, 13] rfl ?_
                exact ih382 (j + 1) (by omega) (by omega)
              · skip
                refine p_aload_n (q := 1) X dL_isWell_389 rfl rfl ?_
                refine p_iload (q := 0) X dL_isWell_390 rfl ?_
                refine p_iload (q := 10) X dL_isWell_392 rfl ?_
                refine p_iconst (v := (nI 0)) X dL_isWell_394 (by decide) ?_
                refine p_o (As := [.int (nI j), .int (nI k), .int (nI 0)]) X (q_alike l z K Po (nI j) (nI k) (nI 0)) (cwV 3 X.1.2.2.2.2 gL_isWell_X1_alike rfl rfl rfl (by decide +kernel) ⟨Nat.le_of_ble_eq_true rfl, Nat.le_of_ble_eq_true rfl⟩) rfl rfl (Nat.le_of_ble_eq_true rfl) dL_isWell_395 ?_
                rw [R_ali hcz (by omega) (by omega) (by decide), if_neg hs]
                rw [show (0 : Int32) = nI 0 from rfl]
                refine p_istore (lv' := [(13, .int (nI 0)), (12, .int (nI j)), (0, .ref (ad 10 0)), (1, .int ow), (2, .int po), (3, .int (nI nd)), (4, .int go), (5, .int (gv + (K.1.1 9 k))), (6, .int (nI (wt + 0))), (7, .int (nI K.1.2)), (8, .int (nI 1)), (9, .int (nI k)), (10, .int (nI 1)), (11, .int (nI b0))]) X dL_isWell_398 (by decide) rfl ?_
                refine p_iload (q := 10) X dL_isWell_400 rfl ?_
                refine p_if_eq (tgt := 459) X dL_isWell_402 (by decide) (fun c402 => absurd c402 (by decide)) (fun c402 => ?_)
                refine p_iload (q := 0) X dL_isWell_405 rfl ?_
                refine p_aload_n (q := 2) X dL_isWell_407 rfl rfl ?_
                refine p_iload (q := 11) X dL_isWell_408 rfl ?_
                refine p_iload (q := 1) X dL_isWell_410 rfl ?_
                refine p_iconst (v := (nI 1)) X dL_isWell_412 (by decide) ?_
                refine p_o (As := [.int (nI k), .int (nI j), .int (nI 1)]) X (q_alike l z K Po (nI k) (nI j) (nI 1)) (cwV 3 X.1.2.2.2.2 gL_isWell_X1_alike rfl rfl rfl (by decide +kernel) ⟨Nat.le_of_ble_eq_true rfl, Nat.le_of_ble_eq_true rfl⟩) rfl rfl (Nat.le_of_ble_eq_true rfl) dL_isWell_413 ?_
                rw [R_ali hcz (by omega) (by omega) (by decide), if_neg (fun y => hs y.symm)]
                rw [show (0 : Int32) = nI 0 from rfl]
                refine p_ncmp_ne (tgt := 459) X 0 0 dL_isWell_416 (by decide) rfl rfl (by omega) (by omega) (fun c416 => absurd c416 (by decide)) (fun c416 => ?_)
                refine p_iload (q := 0) X dL_isWell_419 rfl ?_
                refine p_iconst (v := (nI 1)) X dL_isWell_421 (by decide) ?_
                refine p_ncmp_ne (tgt := 429) X 0 1 dL_isWell_422 (by decide) rfl rfl (by omega) (by omega) (fun c422 => ?_) (fun c422 => absurd (by decide) c422)
                refine p_iconst (v := (nI 0)) X dL_isWell_429 (by decide) ?_
                refine p_aload_n (q := 2) X dL_isWell_430 rfl rfl ?_
                refine p_iload (q := 1) X dL_isWell_431 rfl ?_
                refine p_iconst (v := (nI 4)) X dL_isWell_433 (by decide) ?_
                refine p_o (As := [.int (nI j), .int (nI 4)]) X (q_name l z K Po (nI j) (nI 4)) (cwV 2 X.1.2.2.2.2 gL_isWell_X1_name rfl rfl rfl (by decide +kernel) ⟨Nat.le_of_ble_eq_true rfl, Nat.le_of_ble_eq_true rfl⟩) rfl rfl (Nat.le_of_ble_eq_true rfl) dL_isWell_434 ?_
                rw [R_nam4 hcz (by omega)]
                refine p_aload_n (q := 2) X dL_isWell_437 rfl rfl ?_
                refine p_iload (q := 11) X dL_isWell_438 rfl ?_
                refine p_iconst (v := (nI 4)) X dL_isWell_440 (by decide) ?_
                refine p_o (As := [.int (nI k), .int (nI 4)]) X (q_name l z K Po (nI k) (nI 4)) (cwV 2 X.1.2.2.2.2 gL_isWell_X1_name rfl rfl rfl (by decide +kernel) ⟨Nat.le_of_ble_eq_true rfl, Nat.le_of_ble_eq_true rfl⟩) rfl rfl (Nat.le_of_ble_eq_true rfl) dL_isWell_441 ?_
                rw [R_nam4 hcz (by omega)]
                refine p_icmp_ne (tgt := 451) X dL_isWell_444 (by decide) (fun c444 => ?_) (fun c444 => absurd hs c444)
                refine p_iconst (v := (nI 0)) X dL_isWell_451 (by decide) ?_
                refine p_ncmp_ne (tgt := 459) X 0 0 dL_isWell_452 (by decide) rfl rfl (by omega) (by omega) (fun c452 => absurd c452 (by decide)) (fun c452 => ?_)
                refine p_iconst (v := (nI 1)) X dL_isWell_455 (by decide) ?_
                refine p_goto (tgt := 460) X dL_isWell_456 (by decide) ?_
                refine p_istore (lv' := [(8, .int (nI 1)), (13, .int (nI 0)), (12, .int (nI j)), (0, .ref (ad 10 0)), (1, .int ow), (2, .int po), (3, .int (nI nd)), (4, .int go), (5, .int (gv + (K.1.1 9 k))), (6, .int (nI (wt + 0))), (7, .int (nI K.1.2)), (9, .int (nI k)), (10, .int (nI 1)), (11, .int (nI b0))]) X dL_isWell_460 (by decide) rfl ?_
                refine p_iinc (q := 2) (v := (nI (j + 1))) (lv' := [(12, .int (nI (j + 1))), (8, .int (nI 1)), (13, .int (nI 0)), (0, .ref (ad 10 0)), (1, .int ow), (2, .int po), (3, .int (nI nd)), (4, .int go), (5, .int (gv + (K.1.1 9 k))), (6, .int (nI (wt + 0))), (7, .int (nI K.1.2)), (9, .int (nI k)), (10, .int (nI 1)), (11, .int (nI b0))]) X dL_isWell_462 rfl (nI_1 _) (by decide) rfl ?_
                refine p_goto (tgt := 382) X dL_isWell_465 (by decide) ?_
                refine p_lv (lv1 := [(12, .int (nI (j + 1))), (0, .ref (ad 10 0)), (1, .int ow), (2, .int po), (3, .int (nI nd)), (4, .int go), (5, .int (gv + (K.1.1 9 k))), (6, .int (nI (wt + 0))), (7, .int (nI K.1.2)), (8, .int (nI 1)), (9, .int (nI k)), (10, .int (nI 1)), (11, .int (nI b0))]) [0, 3, 4, 5, 6, 7, 8, 9, 10, 1, 11, 12, 13] rfl ?_
                exact ih382 (j + 1) (by omega) (by omega)
        · skip
          rcases low_r (rsn K.1.1 (aV K.1.1) k) with hlow | ⟨b0, hb0, hr0, hlow⟩
          · skip
            refine p_aload_n (q := 3) X dL_isWell_214 rfl rfl ?_
            refine p_iload (q := 0) X dL_isWell_215 rfl ?_
            refine p_iconst (v := (nI 1)) X dL_isWell_217 (by decide) ?_
            refine p_o (As := [.int (nI k), .int (nI 1)]) X (q_name l z K Po (nI k) (nI 1)) (cwV 2 X.1.2.2.2.2 gL_isWell_X1_name rfl rfl rfl (by decide +kernel) ⟨Nat.le_of_ble_eq_true rfl, Nat.le_of_ble_eq_true rfl⟩) rfl rfl (Nat.le_of_ble_eq_true rfl) dL_isWell_218 ?_
            rw [R_nam1 hcz hkN, wh_n0 h8 hb]
            refine p_istore (lv' := [(10, .int (nI 0)), (9, .int (nI k)), (5, .int gv), (6, .int (nI wt)), (0, .ref (ad 10 0)), (1, .int ow), (2, .int po), (3, .int (nI nd)), (4, .int go), (7, .int (nI K.1.2)), (8, .int (nI 1))]) X dL_isWell_221 (by decide) rfl ?_
            refine p_aload_n (q := 4) X dL_isWell_223 rfl rfl ?_
            refine p_iload (q := 1) X dL_isWell_224 rfl ?_
            refine p_o (As := [.int (nI k)]) X (q_bestCorner l z K Po (nI k)) (cwV 1 X.1.2.2.2.2 gL_isWell_X1_bestCorner rfl rfl rfl (by decide +kernel) ⟨Nat.le_of_ble_eq_true rfl, Nat.le_of_ble_eq_true rfl⟩) rfl rfl (Nat.le_of_ble_eq_true rfl) dL_isWell_226 ?_
            rw [R_bes hcz hkN, hlow]
            refine p_istore (lv' := [(11, .int (-6)), (10, .int (nI 0)), (9, .int (nI k)), (5, .int gv), (6, .int (nI wt)), (0, .ref (ad 10 0)), (1, .int ow), (2, .int po), (3, .int (nI nd)), (4, .int go), (7, .int (nI K.1.2)), (8, .int (nI 1))]) X dL_isWell_229 (by decide) rfl ?_
            refine p_iload (q := 3) X dL_isWell_231 rfl ?_
            refine p_aload_n (q := 5) X dL_isWell_233 rfl rfl ?_
            refine p_iload (q := 2) X dL_isWell_234 rfl ?_
            refine p_bipush (v := (nI 6)) X dL_isWell_236 (by decide) ?_
            refine p_o (As := [.int (nI k), .int (nI 6)]) X (q_name l z K Po (nI k) (nI 6)) (cwV 2 X.1.2.2.2.2 gL_isWell_X1_name rfl rfl rfl (by decide +kernel) ⟨Nat.le_of_ble_eq_true rfl, Nat.le_of_ble_eq_true rfl⟩) rfl rfl (Nat.le_of_ble_eq_true rfl) dL_isWell_238 ?_
            rw [R_nam6 hcz hkN]
            refine p_iadd (v := (gv + (K.1.1 9 k))) X dL_isWell_241 rfl ?_
            refine p_istore (lv' := [(5, .int (gv + (K.1.1 9 k))), (11, .int (-6)), (10, .int (nI 0)), (9, .int (nI k)), (6, .int (nI wt)), (0, .ref (ad 10 0)), (1, .int ow), (2, .int po), (3, .int (nI nd)), (4, .int go), (7, .int (nI K.1.2)), (8, .int (nI 1))]) X dL_isWell_242 (by decide) rfl ?_
            refine p_iload (q := 4) X dL_isWell_244 rfl ?_
            refine p_iload (q := 2) X dL_isWell_246 rfl ?_
            refine p_if_ne (tgt := 255) X dL_isWell_248 (by decide) (fun c248 => absurd c248 (by decide)) (fun c248 => ?_)
            refine p_iconst (v := (nI 1)) X dL_isWell_251 (by decide) ?_
            refine p_goto (tgt := 256) X dL_isWell_252 (by decide) ?_
            refine p_iadd (v := (nI (wt + 1))) X dL_isWell_256 (nI_add _ _) ?_
            refine p_istore (lv' := [(6, .int (nI (wt + 1))), (5, .int (gv + (K.1.1 9 k))), (11, .int (-6)), (10, .int (nI 0)), (9, .int (nI k)), (0, .ref (ad 10 0)), (1, .int ow), (2, .int po), (3, .int (nI nd)), (4, .int go), (7, .int (nI K.1.2)), (8, .int (nI 1))]) X dL_isWell_257 (by decide) rfl ?_
            refine p_iload (q := 11) X dL_isWell_259 rfl ?_
            refine p_if_eq (tgt := 376) X dL_isWell_261 (by decide) (fun c261 => absurd c261 (by decide)) (fun c261 => ?_)
            refine p_iload (q := 3) X dL_isWell_264 rfl ?_
            refine p_iconst (v := (nI 1)) X dL_isWell_266 (by decide) ?_
            refine p_ncmp_ne (tgt := 274) X 0 1 dL_isWell_267 (by decide) rfl rfl (by omega) (by omega) (fun c267 => ?_) (fun c267 => absurd (by decide) c267)
            refine p_iconst (v := (nI 0)) X dL_isWell_274 (by decide) ?_
            refine p_aload_n (q := 5) X dL_isWell_275 rfl rfl ?_
            refine p_iload (q := 4) X dL_isWell_276 rfl ?_
            refine p_iconst (v := (nI 2)) X dL_isWell_278 (by decide) ?_
            refine p_o (As := [.int (nI k), .int (nI 2)]) X (q_name l z K Po (nI k) (nI 2)) (cwV 2 X.1.2.2.2.2 gL_isWell_X1_name rfl rfl rfl (by decide +kernel) ⟨Nat.le_of_ble_eq_true rfl, Nat.le_of_ble_eq_true rfl⟩) rfl rfl (Nat.le_of_ble_eq_true rfl) dL_isWell_279 ?_
            rw [R_nam2 hcz hkN, nb_0 12 (by omega)]
            rw [show (0 : Int32) = nI 0 from rfl]
            refine p_if_eq (tgt := 289) X dL_isWell_282 (by decide) (fun c282 => ?_) (fun c282 => absurd (by decide) c282)
            refine p_iconst (v := (nI 0)) X dL_isWell_289 (by decide) ?_
            refine p_ncmp_ne (tgt := 376) X 0 0 dL_isWell_290 (by decide) rfl rfl (by omega) (by omega) (fun c290 => absurd c290 (by decide)) (fun c290 => ?_)
            refine p_iload (q := 3) X dL_isWell_293 rfl ?_
            refine p_if_ne (tgt := 302) X dL_isWell_295 (by decide) (fun c295 => absurd c295 (by decide)) (fun c295 => ?_)
            refine p_iconst (v := (nI 1)) X dL_isWell_298 (by decide) ?_
            refine p_goto (tgt := 303) X dL_isWell_299 (by decide) ?_
            refine p_aload_n (q := 5) X dL_isWell_303 rfl rfl ?_
            refine p_iload (q := 4) X dL_isWell_304 rfl ?_
            refine p_iconst (v := (nI 3)) X dL_isWell_306 (by decide) ?_
            refine p_o (As := [.int (nI k), .int (nI 3)]) X (q_name l z K Po (nI k) (nI 3)) (cwV 2 X.1.2.2.2.2 gL_isWell_X1_name rfl rfl rfl (by decide +kernel) ⟨Nat.le_of_ble_eq_true rfl, Nat.le_of_ble_eq_true rfl⟩) rfl rfl (Nat.le_of_ble_eq_true rfl) dL_isWell_307 ?_
            rw [R_nam3 hcz hkN, if_pos (show wh K.1.1 k = 0 from wh_n0 h8 hb)]
            refine p_if_lt (tgt := 317) X dL_isWell_310 (by decide) (fun c310 => absurd c310 (nI_pos (by omega))) (fun c310 => ?_)
            refine p_iconst (v := (nI 1)) X dL_isWell_313 (by decide) ?_
            refine p_goto (tgt := 318) X dL_isWell_314 (by decide) ?_
            refine p_ncmp_ne (tgt := 376) X 1 1 dL_isWell_318 (by decide) rfl rfl (by omega) (by omega) (fun c318 => absurd c318 (by decide)) (fun c318 => ?_)
            refine p_iload (q := 3) X dL_isWell_321 rfl ?_
            refine p_iconst (v := (nI 2)) X dL_isWell_323 (by decide) ?_
            refine p_ncmp_ne (tgt := 345) X 0 2 dL_isWell_324 (by decide) rfl rfl (by omega) (by omega) (fun c324 => ?_) (fun c324 => absurd (by decide) c324)
            refine p_iload (q := 2) X dL_isWell_345 rfl ?_
            refine p_if_lt (tgt := 361) X dL_isWell_347 (by decide) (fun c347 => ?_) (fun c347 => absurd (by decide) c347)
            refine p_aload_n (q := 5) X dL_isWell_361 rfl rfl ?_
            refine p_iload (q := 4) X dL_isWell_362 rfl ?_
            refine p_iconst (v := (nI 5)) X dL_isWell_364 (by decide) ?_
            refine p_o (As := [.int (nI k), .int (nI 5)]) X (q_name l z K Po (nI k) (nI 5)) (cwV 2 X.1.2.2.2.2 gL_isWell_X1_name rfl rfl rfl (by decide +kernel) ⟨Nat.le_of_ble_eq_true rfl, Nat.le_of_ble_eq_true rfl⟩) rfl rfl (Nat.le_of_ble_eq_true rfl) dL_isWell_365 ?_
            rw [R_nam5 hcz hkN, eL]
            refine p_iconst (v := (nI 1)) X dL_isWell_368 (by decide) ?_
            refine p_ncmp_le (tgt := 376) X L0 1 dL_isWell_369 (by decide) rfl rfl (by omega) (by omega) (fun c369 => absurd c369 (by omega)) (fun c369 => ?_)
            refine p_iconst (v := (nI 1)) X dL_isWell_372 (by decide) ?_
            refine p_goto (tgt := 377) X dL_isWell_373 (by decide) ?_
            refine p_istore (lv' := [(8, .int (nI 1)), (6, .int (nI (wt + 1))), (5, .int (gv + (K.1.1 9 k))), (11, .int (-6)), (10, .int (nI 0)), (9, .int (nI k)), (0, .ref (ad 10 0)), (1, .int ow), (2, .int po), (3, .int (nI nd)), (4, .int go), (7, .int (nI K.1.2))]) X dL_isWell_377 (by decide) rfl ?_
            refine p_iconst (v := (nI 0)) X dL_isWell_379 (by decide) ?_
            refine p_istore (lv' := [(12, .int (nI 0)), (8, .int (nI 1)), (6, .int (nI (wt + 1))), (5, .int (gv + (K.1.1 9 k))), (11, .int (-6)), (10, .int (nI 0)), (9, .int (nI k)), (0, .ref (ad 10 0)), (1, .int ow), (2, .int po), (3, .int (nI nd)), (4, .int go), (7, .int (nI K.1.2))]) X dL_isWell_380 (by decide) rfl ?_
            refine p_lv (lv1 := [(12, .int (nI 0)), (0, .ref (ad 10 0)), (1, .int ow), (2, .int po), (3, .int (nI nd)), (4, .int go), (5, .int (gv + (K.1.1 9 k))), (6, .int (nI (wt + 1))), (7, .int (nI K.1.2)), (8, .int (nI 1)), (9, .int (nI k)), (10, .int (nI 0)), (11, .int (-6))]) [0, 7, 8, 9, 10, 11, 3, 2, 12, 1, 6, 5, 4] rfl ?_
            refine loop1 (G := P2 p l e _ s m args below meth c 0 0 _ _ D ad bd cs A B) (pc := 382) (fun (j : Nat) => [(12, .int (nI j)), (0, .ref (ad 10 0)), (1, .int ow), (2, .int po), (3, .int (nI nd)), (4, .int go), (5, .int (gv + (K.1.1 9 k))), (6, .int (nI (wt + 1))), (7, .int (nI K.1.2)), (8, .int (nI 1)), (9, .int (nI k)), (10, .int (nI 0)), (11, .int (-6))]) (fun (j : Nat) => ((K, Po), (K2, Pw))) (fun (j : Nat) => j ≤ k) (fun (j : Nat) => k - j) ?_ 0 (by omega)
            intro j hI382 ih382
            try dsimp only at ih382 ⊢
            have hj := hI382
            refine p_iload (q := 0) X dL_isWell_382 rfl ?_
            refine p_iload (q := 10) X dL_isWell_384 rfl ?_
            refine p_ncmp_ge (tgt := 468) X j k dL_isWell_386 (by decide) rfl rfl (by omega) (by omega) (fun c386 => ?_) (fun c386 => ?_)
            · skip
              refine p_iinc (q := 10) (v := (nI (k + 1))) (lv' := [(9, .int (nI (k + 1))), (12, .int (nI j)), (0, .ref (ad 10 0)), (1, .int ow), (2, .int po), (3, .int (nI nd)), (4, .int go), (5, .int (gv + (K.1.1 9 k))), (6, .int (nI (wt + 1))), (7, .int (nI K.1.2)), (8, .int (nI 1)), (10, .int (nI 0)), (11, .int (-6))]) X dL_isWell_468 rfl (nI_1 _) (by decide) rfl ?_
              refine p_goto (tgt := 207) X dL_isWell_471 (by decide) ?_
              refine p_lv (lv1 := [(9, .int (nI (k + 1))), (5, .int (gv + (K.1.1 9 k))), (6, .int (nI (wt + 1))), (0, .ref (ad 10 0)), (1, .int ow), (2, .int po), (3, .int (nI nd)), (4, .int go), (7, .int (nI K.1.2)), (8, .int (nI 1))]) [0, 7, 8, 2, 3, 4, 5, 6, 9, 10] rfl ?_
              exact ih207 (k + 1) (gv + (K.1.1 9 k)) (wt + 1) ⟨by omega, by rw [sm, hgv], by rw [wtn, if_pos (show wh K.1.1 k = 0 from wh_n0 h8 hb), hwt]⟩ (by omega)
            · skip
              have hjk : j < k := by omega
              by_cases hs : K.1.1 6 j = K.1.1 6 k
              · skip
                refine p_aload_n (q := 1) X dL_isWell_389 rfl rfl ?_
                refine p_iload (q := 0) X dL_isWell_390 rfl ?_
                refine p_iload (q := 10) X dL_isWell_392 rfl ?_
                refine p_iconst (v := (nI 0)) X dL_isWell_394 (by decide) ?_
                refine p_o (As := [.int (nI j), .int (nI k), .int (nI 0)]) X (q_alike l z K Po (nI j) (nI k) (nI 0)) (cwV 3 X.1.2.2.2.2 gL_isWell_X1_alike rfl rfl rfl (by decide +kernel) ⟨Nat.le_of_ble_eq_true rfl, Nat.le_of_ble_eq_true rfl⟩) rfl rfl (Nat.le_of_ble_eq_true rfl) dL_isWell_395 ?_
                rw [R_ali hcz (by omega) (by omega) (by decide), if_pos hs]
                rw [show (1 : Int32) = nI 1 from rfl]
                refine p_istore (lv' := [(13, .int (nI 1)), (12, .int (nI j)), (0, .ref (ad 10 0)), (1, .int ow), (2, .int po), (3, .int (nI nd)), (4, .int go), (5, .int (gv + (K.1.1 9 k))), (6, .int (nI (wt + 1))), (7, .int (nI K.1.2)), (8, .int (nI 1)), (9, .int (nI k)), (10, .int (nI 0)), (11, .int (-6))]) X dL_isWell_398 (by decide) rfl ?_
                refine p_iload (q := 10) X dL_isWell_400 rfl ?_
                refine p_if_eq (tgt := 459) X dL_isWell_402 (by decide) (fun c402 => absurd c402 (by decide)) (fun c402 => ?_)
                refine p_iload (q := 0) X dL_isWell_405 rfl ?_
                refine p_aload_n (q := 2) X dL_isWell_407 rfl rfl ?_
                refine p_iload (q := 11) X dL_isWell_408 rfl ?_
                refine p_iload (q := 1) X dL_isWell_410 rfl ?_
                refine p_iconst (v := (nI 1)) X dL_isWell_412 (by decide) ?_
                refine p_o (As := [.int (nI k), .int (nI j), .int (nI 1)]) X (q_alike l z K Po (nI k) (nI j) (nI 1)) (cwV 3 X.1.2.2.2.2 gL_isWell_X1_alike rfl rfl rfl (by decide +kernel) ⟨Nat.le_of_ble_eq_true rfl, Nat.le_of_ble_eq_true rfl⟩) rfl rfl (Nat.le_of_ble_eq_true rfl) dL_isWell_413 ?_
                rw [R_ali hcz (by omega) (by omega) (by decide), if_pos hs.symm]
                rw [show (1 : Int32) = nI 1 from rfl]
                refine p_ncmp_ne (tgt := 459) X 1 1 dL_isWell_416 (by decide) rfl rfl (by omega) (by omega) (fun c416 => absurd c416 (by decide)) (fun c416 => ?_)
                refine p_iload (q := 0) X dL_isWell_419 rfl ?_
                refine p_iconst (v := (nI 1)) X dL_isWell_421 (by decide) ?_
                refine p_ncmp_ne (tgt := 429) X 1 1 dL_isWell_422 (by decide) rfl rfl (by omega) (by omega) (fun c422 => absurd c422 (by decide)) (fun c422 => ?_)
                refine p_iconst (v := (nI 1)) X dL_isWell_425 (by decide) ?_
                refine p_goto (tgt := 430) X dL_isWell_426 (by decide) ?_
                refine p_aload_n (q := 2) X dL_isWell_430 rfl rfl ?_
                refine p_iload (q := 1) X dL_isWell_431 rfl ?_
                refine p_iconst (v := (nI 4)) X dL_isWell_433 (by decide) ?_
                refine p_o (As := [.int (nI j), .int (nI 4)]) X (q_name l z K Po (nI j) (nI 4)) (cwV 2 X.1.2.2.2.2 gL_isWell_X1_name rfl rfl rfl (by decide +kernel) ⟨Nat.le_of_ble_eq_true rfl, Nat.le_of_ble_eq_true rfl⟩) rfl rfl (Nat.le_of_ble_eq_true rfl) dL_isWell_434 ?_
                rw [R_nam4 hcz (by omega)]
                refine p_aload_n (q := 2) X dL_isWell_437 rfl rfl ?_
                refine p_iload (q := 11) X dL_isWell_438 rfl ?_
                refine p_iconst (v := (nI 4)) X dL_isWell_440 (by decide) ?_
                refine p_o (As := [.int (nI k), .int (nI 4)]) X (q_name l z K Po (nI k) (nI 4)) (cwV 2 X.1.2.2.2.2 gL_isWell_X1_name rfl rfl rfl (by decide +kernel) ⟨Nat.le_of_ble_eq_true rfl, Nat.le_of_ble_eq_true rfl⟩) rfl rfl (Nat.le_of_ble_eq_true rfl) dL_isWell_441 ?_
                rw [R_nam4 hcz (by omega)]
                refine p_icmp_ne (tgt := 451) X dL_isWell_444 (by decide) (fun c444 => absurd hs c444) (fun c444 => ?_)
                refine p_iconst (v := (nI 1)) X dL_isWell_447 (by decide) ?_
                refine p_goto (tgt := 452) X dL_isWell_448 (by decide) ?_
                refine p_ncmp_ne (tgt := 459) X 1 1 dL_isWell_452 (by decide) rfl rfl (by omega) (by omega) (fun c452 => absurd c452 (by decide)) (fun c452 => ?_)
                refine p_iconst (v := (nI 1)) X dL_isWell_455 (by decide) ?_
                refine p_goto (tgt := 460) X dL_isWell_456 (by decide) ?_
                refine p_istore (lv' := [(8, .int (nI 1)), (13, .int (nI 1)), (12, .int (nI j)), (0, .ref (ad 10 0)), (1, .int ow), (2, .int po), (3, .int (nI nd)), (4, .int go), (5, .int (gv + (K.1.1 9 k))), (6, .int (nI (wt + 1))), (7, .int (nI K.1.2)), (9, .int (nI k)), (10, .int (nI 0)), (11, .int (-6))]) X dL_isWell_460 (by decide) rfl ?_
                refine p_iinc (q := 2) (v := (nI (j + 1))) (lv' := [(12, .int (nI (j + 1))), (8, .int (nI 1)), (13, .int (nI 1)), (0, .ref (ad 10 0)), (1, .int ow), (2, .int po), (3, .int (nI nd)), (4, .int go), (5, .int (gv + (K.1.1 9 k))), (6, .int (nI (wt + 1))), (7, .int (nI K.1.2)), (9, .int (nI k)), (10, .int (nI 0)), (11, .int (-6))]) X dL_isWell_462 rfl (nI_1 _) (by decide) rfl ?_
                refine p_goto (tgt := 382) X dL_isWell_465 (by decide) ?_
                refine p_lv (lv1 := [(12, .int (nI (j + 1))), (0, .ref (ad 10 0)), (1, .int ow), (2, .int po), (3, .int (nI nd)), (4, .int go), (5, .int (gv + (K.1.1 9 k))), (6, .int (nI (wt + 1))), (7, .int (nI K.1.2)), (8, .int (nI 1)), (9, .int (nI k)), (10, .int (nI 0)), (11, .int (-6))]) [0, 3, 4, 5, 6, 7, 8, 9, 10, 1, 11, 12, 13] rfl ?_
                exact ih382 (j + 1) (by omega) (by omega)
              · skip
                refine p_aload_n (q := 1) X dL_isWell_389 rfl rfl ?_
                refine p_iload (q := 0) X dL_isWell_390 rfl ?_
                refine p_iload (q := 10) X dL_isWell_392 rfl ?_
                refine p_iconst (v := (nI 0)) X dL_isWell_394 (by decide) ?_
                refine p_o (As := [.int (nI j), .int (nI k), .int (nI 0)]) X (q_alike l z K Po (nI j) (nI k) (nI 0)) (cwV 3 X.1.2.2.2.2 gL_isWell_X1_alike rfl rfl rfl (by decide +kernel) ⟨Nat.le_of_ble_eq_true rfl, Nat.le_of_ble_eq_true rfl⟩) rfl rfl (Nat.le_of_ble_eq_true rfl) dL_isWell_395 ?_
                rw [R_ali hcz (by omega) (by omega) (by decide), if_neg hs]
                rw [show (0 : Int32) = nI 0 from rfl]
                refine p_istore (lv' := [(13, .int (nI 0)), (12, .int (nI j)), (0, .ref (ad 10 0)), (1, .int ow), (2, .int po), (3, .int (nI nd)), (4, .int go), (5, .int (gv + (K.1.1 9 k))), (6, .int (nI (wt + 1))), (7, .int (nI K.1.2)), (8, .int (nI 1)), (9, .int (nI k)), (10, .int (nI 0)), (11, .int (-6))]) X dL_isWell_398 (by decide) rfl ?_
                refine p_iload (q := 10) X dL_isWell_400 rfl ?_
                refine p_if_eq (tgt := 459) X dL_isWell_402 (by decide) (fun c402 => absurd c402 (by decide)) (fun c402 => ?_)
                refine p_iload (q := 0) X dL_isWell_405 rfl ?_
                refine p_aload_n (q := 2) X dL_isWell_407 rfl rfl ?_
                refine p_iload (q := 11) X dL_isWell_408 rfl ?_
                refine p_iload (q := 1) X dL_isWell_410 rfl ?_
                refine p_iconst (v := (nI 1)) X dL_isWell_412 (by decide) ?_
                refine p_o (As := [.int (nI k), .int (nI j), .int (nI 1)]) X (q_alike l z K Po (nI k) (nI j) (nI 1)) (cwV 3 X.1.2.2.2.2 gL_isWell_X1_alike rfl rfl rfl (by decide +kernel) ⟨Nat.le_of_ble_eq_true rfl, Nat.le_of_ble_eq_true rfl⟩) rfl rfl (Nat.le_of_ble_eq_true rfl) dL_isWell_413 ?_
                rw [R_ali hcz (by omega) (by omega) (by decide), if_neg (fun y => hs y.symm)]
                rw [show (0 : Int32) = nI 0 from rfl]
                refine p_ncmp_ne (tgt := 459) X 0 0 dL_isWell_416 (by decide) rfl rfl (by omega) (by omega) (fun c416 => absurd c416 (by decide)) (fun c416 => ?_)
                refine p_iload (q := 0) X dL_isWell_419 rfl ?_
                refine p_iconst (v := (nI 1)) X dL_isWell_421 (by decide) ?_
                refine p_ncmp_ne (tgt := 429) X 0 1 dL_isWell_422 (by decide) rfl rfl (by omega) (by omega) (fun c422 => ?_) (fun c422 => absurd (by decide) c422)
                refine p_iconst (v := (nI 0)) X dL_isWell_429 (by decide) ?_
                refine p_aload_n (q := 2) X dL_isWell_430 rfl rfl ?_
                refine p_iload (q := 1) X dL_isWell_431 rfl ?_
                refine p_iconst (v := (nI 4)) X dL_isWell_433 (by decide) ?_
                refine p_o (As := [.int (nI j), .int (nI 4)]) X (q_name l z K Po (nI j) (nI 4)) (cwV 2 X.1.2.2.2.2 gL_isWell_X1_name rfl rfl rfl (by decide +kernel) ⟨Nat.le_of_ble_eq_true rfl, Nat.le_of_ble_eq_true rfl⟩) rfl rfl (Nat.le_of_ble_eq_true rfl) dL_isWell_434 ?_
                rw [R_nam4 hcz (by omega)]
                refine p_aload_n (q := 2) X dL_isWell_437 rfl rfl ?_
                refine p_iload (q := 11) X dL_isWell_438 rfl ?_
                refine p_iconst (v := (nI 4)) X dL_isWell_440 (by decide) ?_
                refine p_o (As := [.int (nI k), .int (nI 4)]) X (q_name l z K Po (nI k) (nI 4)) (cwV 2 X.1.2.2.2.2 gL_isWell_X1_name rfl rfl rfl (by decide +kernel) ⟨Nat.le_of_ble_eq_true rfl, Nat.le_of_ble_eq_true rfl⟩) rfl rfl (Nat.le_of_ble_eq_true rfl) dL_isWell_441 ?_
                rw [R_nam4 hcz (by omega)]
                refine p_icmp_ne (tgt := 451) X dL_isWell_444 (by decide) (fun c444 => ?_) (fun c444 => absurd hs c444)
                refine p_iconst (v := (nI 0)) X dL_isWell_451 (by decide) ?_
                refine p_ncmp_ne (tgt := 459) X 0 0 dL_isWell_452 (by decide) rfl rfl (by omega) (by omega) (fun c452 => absurd c452 (by decide)) (fun c452 => ?_)
                refine p_iconst (v := (nI 1)) X dL_isWell_455 (by decide) ?_
                refine p_goto (tgt := 460) X dL_isWell_456 (by decide) ?_
                refine p_istore (lv' := [(8, .int (nI 1)), (13, .int (nI 0)), (12, .int (nI j)), (0, .ref (ad 10 0)), (1, .int ow), (2, .int po), (3, .int (nI nd)), (4, .int go), (5, .int (gv + (K.1.1 9 k))), (6, .int (nI (wt + 1))), (7, .int (nI K.1.2)), (9, .int (nI k)), (10, .int (nI 0)), (11, .int (-6))]) X dL_isWell_460 (by decide) rfl ?_
                refine p_iinc (q := 2) (v := (nI (j + 1))) (lv' := [(12, .int (nI (j + 1))), (8, .int (nI 1)), (13, .int (nI 0)), (0, .ref (ad 10 0)), (1, .int ow), (2, .int po), (3, .int (nI nd)), (4, .int go), (5, .int (gv + (K.1.1 9 k))), (6, .int (nI (wt + 1))), (7, .int (nI K.1.2)), (9, .int (nI k)), (10, .int (nI 0)), (11, .int (-6))]) X dL_isWell_462 rfl (nI_1 _) (by decide) rfl ?_
                refine p_goto (tgt := 382) X dL_isWell_465 (by decide) ?_
                refine p_lv (lv1 := [(12, .int (nI (j + 1))), (0, .ref (ad 10 0)), (1, .int ow), (2, .int po), (3, .int (nI nd)), (4, .int go), (5, .int (gv + (K.1.1 9 k))), (6, .int (nI (wt + 1))), (7, .int (nI K.1.2)), (8, .int (nI 1)), (9, .int (nI k)), (10, .int (nI 0)), (11, .int (-6))]) [0, 3, 4, 5, 6, 7, 8, 9, 10, 1, 11, 12, 13] rfl ?_
                exact ih382 (j + 1) (by omega) (by omega)
          · skip
            refine p_aload_n (q := 3) X dL_isWell_214 rfl rfl ?_
            refine p_iload (q := 0) X dL_isWell_215 rfl ?_
            refine p_iconst (v := (nI 1)) X dL_isWell_217 (by decide) ?_
            refine p_o (As := [.int (nI k), .int (nI 1)]) X (q_name l z K Po (nI k) (nI 1)) (cwV 2 X.1.2.2.2.2 gL_isWell_X1_name rfl rfl rfl (by decide +kernel) ⟨Nat.le_of_ble_eq_true rfl, Nat.le_of_ble_eq_true rfl⟩) rfl rfl (Nat.le_of_ble_eq_true rfl) dL_isWell_218 ?_
            rw [R_nam1 hcz hkN, wh_n0 h8 hb]
            refine p_istore (lv' := [(10, .int (nI 0)), (9, .int (nI k)), (5, .int gv), (6, .int (nI wt)), (0, .ref (ad 10 0)), (1, .int ow), (2, .int po), (3, .int (nI nd)), (4, .int go), (7, .int (nI K.1.2)), (8, .int (nI 1))]) X dL_isWell_221 (by decide) rfl ?_
            refine p_aload_n (q := 4) X dL_isWell_223 rfl rfl ?_
            refine p_iload (q := 1) X dL_isWell_224 rfl ?_
            refine p_o (As := [.int (nI k)]) X (q_bestCorner l z K Po (nI k)) (cwV 1 X.1.2.2.2.2 gL_isWell_X1_bestCorner rfl rfl rfl (by decide +kernel) ⟨Nat.le_of_ble_eq_true rfl, Nat.le_of_ble_eq_true rfl⟩) rfl rfl (Nat.le_of_ble_eq_true rfl) dL_isWell_226 ?_
            rw [R_bes hcz hkN, hlow]
            refine p_istore (lv' := [(11, .int (nI b0)), (10, .int (nI 0)), (9, .int (nI k)), (5, .int gv), (6, .int (nI wt)), (0, .ref (ad 10 0)), (1, .int ow), (2, .int po), (3, .int (nI nd)), (4, .int go), (7, .int (nI K.1.2)), (8, .int (nI 1))]) X dL_isWell_229 (by decide) rfl ?_
            refine p_iload (q := 3) X dL_isWell_231 rfl ?_
            refine p_aload_n (q := 5) X dL_isWell_233 rfl rfl ?_
            refine p_iload (q := 2) X dL_isWell_234 rfl ?_
            refine p_bipush (v := (nI 6)) X dL_isWell_236 (by decide) ?_
            refine p_o (As := [.int (nI k), .int (nI 6)]) X (q_name l z K Po (nI k) (nI 6)) (cwV 2 X.1.2.2.2.2 gL_isWell_X1_name rfl rfl rfl (by decide +kernel) ⟨Nat.le_of_ble_eq_true rfl, Nat.le_of_ble_eq_true rfl⟩) rfl rfl (Nat.le_of_ble_eq_true rfl) dL_isWell_238 ?_
            rw [R_nam6 hcz hkN]
            refine p_iadd (v := (gv + (K.1.1 9 k))) X dL_isWell_241 rfl ?_
            refine p_istore (lv' := [(5, .int (gv + (K.1.1 9 k))), (11, .int (nI b0)), (10, .int (nI 0)), (9, .int (nI k)), (6, .int (nI wt)), (0, .ref (ad 10 0)), (1, .int ow), (2, .int po), (3, .int (nI nd)), (4, .int go), (7, .int (nI K.1.2)), (8, .int (nI 1))]) X dL_isWell_242 (by decide) rfl ?_
            refine p_iload (q := 4) X dL_isWell_244 rfl ?_
            refine p_iload (q := 2) X dL_isWell_246 rfl ?_
            refine p_if_ne (tgt := 255) X dL_isWell_248 (by decide) (fun c248 => absurd c248 (by decide)) (fun c248 => ?_)
            refine p_iconst (v := (nI 1)) X dL_isWell_251 (by decide) ?_
            refine p_goto (tgt := 256) X dL_isWell_252 (by decide) ?_
            refine p_iadd (v := (nI (wt + 1))) X dL_isWell_256 (nI_add _ _) ?_
            refine p_istore (lv' := [(6, .int (nI (wt + 1))), (5, .int (gv + (K.1.1 9 k))), (11, .int (nI b0)), (10, .int (nI 0)), (9, .int (nI k)), (0, .ref (ad 10 0)), (1, .int ow), (2, .int po), (3, .int (nI nd)), (4, .int go), (7, .int (nI K.1.2)), (8, .int (nI 1))]) X dL_isWell_257 (by decide) rfl ?_
            refine p_iload (q := 11) X dL_isWell_259 rfl ?_
            refine p_if_eq (tgt := 376) X dL_isWell_261 (by decide) (fun c261 => absurd c261 (by decide)) (fun c261 => ?_)
            refine p_iload (q := 3) X dL_isWell_264 rfl ?_
            refine p_iconst (v := (nI 1)) X dL_isWell_266 (by decide) ?_
            refine p_ncmp_ne (tgt := 274) X 0 1 dL_isWell_267 (by decide) rfl rfl (by omega) (by omega) (fun c267 => ?_) (fun c267 => absurd (by decide) c267)
            refine p_iconst (v := (nI 0)) X dL_isWell_274 (by decide) ?_
            refine p_aload_n (q := 5) X dL_isWell_275 rfl rfl ?_
            refine p_iload (q := 4) X dL_isWell_276 rfl ?_
            refine p_iconst (v := (nI 2)) X dL_isWell_278 (by decide) ?_
            refine p_o (As := [.int (nI k), .int (nI 2)]) X (q_name l z K Po (nI k) (nI 2)) (cwV 2 X.1.2.2.2.2 gL_isWell_X1_name rfl rfl rfl (by decide +kernel) ⟨Nat.le_of_ble_eq_true rfl, Nat.le_of_ble_eq_true rfl⟩) rfl rfl (Nat.le_of_ble_eq_true rfl) dL_isWell_279 ?_
            rw [R_nam2 hcz hkN, nb_0 12 (by omega)]
            rw [show (0 : Int32) = nI 0 from rfl]
            refine p_if_eq (tgt := 289) X dL_isWell_282 (by decide) (fun c282 => ?_) (fun c282 => absurd (by decide) c282)
            refine p_iconst (v := (nI 0)) X dL_isWell_289 (by decide) ?_
            refine p_ncmp_ne (tgt := 376) X 0 0 dL_isWell_290 (by decide) rfl rfl (by omega) (by omega) (fun c290 => absurd c290 (by decide)) (fun c290 => ?_)
            refine p_iload (q := 3) X dL_isWell_293 rfl ?_
            refine p_if_ne (tgt := 302) X dL_isWell_295 (by decide) (fun c295 => absurd c295 (by decide)) (fun c295 => ?_)
            refine p_iconst (v := (nI 1)) X dL_isWell_298 (by decide) ?_
            refine p_goto (tgt := 303) X dL_isWell_299 (by decide) ?_
            refine p_aload_n (q := 5) X dL_isWell_303 rfl rfl ?_
            refine p_iload (q := 4) X dL_isWell_304 rfl ?_
            refine p_iconst (v := (nI 3)) X dL_isWell_306 (by decide) ?_
            refine p_o (As := [.int (nI k), .int (nI 3)]) X (q_name l z K Po (nI k) (nI 3)) (cwV 2 X.1.2.2.2.2 gL_isWell_X1_name rfl rfl rfl (by decide +kernel) ⟨Nat.le_of_ble_eq_true rfl, Nat.le_of_ble_eq_true rfl⟩) rfl rfl (Nat.le_of_ble_eq_true rfl) dL_isWell_307 ?_
            rw [R_nam3 hcz hkN, if_pos (show wh K.1.1 k = 0 from wh_n0 h8 hb)]
            refine p_if_lt (tgt := 317) X dL_isWell_310 (by decide) (fun c310 => absurd c310 (nI_pos (by omega))) (fun c310 => ?_)
            refine p_iconst (v := (nI 1)) X dL_isWell_313 (by decide) ?_
            refine p_goto (tgt := 318) X dL_isWell_314 (by decide) ?_
            refine p_ncmp_ne (tgt := 376) X 1 1 dL_isWell_318 (by decide) rfl rfl (by omega) (by omega) (fun c318 => absurd c318 (by decide)) (fun c318 => ?_)
            refine p_iload (q := 3) X dL_isWell_321 rfl ?_
            refine p_iconst (v := (nI 2)) X dL_isWell_323 (by decide) ?_
            refine p_ncmp_ne (tgt := 345) X 0 2 dL_isWell_324 (by decide) rfl rfl (by omega) (by omega) (fun c324 => ?_) (fun c324 => absurd (by decide) c324)
            refine p_iload (q := 2) X dL_isWell_345 rfl ?_
            refine p_if_lt (tgt := 361) X dL_isWell_347 (by decide) (fun c347 => absurd c347 (nI_pos (by omega))) (fun c347 => ?_)
            refine p_aload_n (q := 5) X dL_isWell_350 rfl rfl ?_
            refine p_iload (q := 4) X dL_isWell_351 rfl ?_
            refine p_iload (q := 2) X dL_isWell_353 rfl ?_
            refine p_o (As := [.int (nI k), .int (nI b0)]) X (q_why l z K Po (nI k) (nI b0)) (cwV 2 X.1.2.2.2.2 gL_isWell_X1_why rfl rfl rfl (by decide +kernel) ⟨Nat.le_of_ble_eq_true rfl, Nat.le_of_ble_eq_true rfl⟩) rfl rfl (Nat.le_of_ble_eq_true rfl) dL_isWell_355 ?_
            rw [R_why hcz hkN hb0, show rsn K.1.1 (aV K.1.1) k b0 = nI 0 from hr0]
            refine p_if_ne (tgt := 376) X dL_isWell_358 (by decide) (fun c358 => absurd c358 (by decide)) (fun c358 => ?_)
            refine p_aload_n (q := 5) X dL_isWell_361 rfl rfl ?_
            refine p_iload (q := 4) X dL_isWell_362 rfl ?_
            refine p_iconst (v := (nI 5)) X dL_isWell_364 (by decide) ?_
            refine p_o (As := [.int (nI k), .int (nI 5)]) X (q_name l z K Po (nI k) (nI 5)) (cwV 2 X.1.2.2.2.2 gL_isWell_X1_name rfl rfl rfl (by decide +kernel) ⟨Nat.le_of_ble_eq_true rfl, Nat.le_of_ble_eq_true rfl⟩) rfl rfl (Nat.le_of_ble_eq_true rfl) dL_isWell_365 ?_
            rw [R_nam5 hcz hkN, eL]
            refine p_iconst (v := (nI 1)) X dL_isWell_368 (by decide) ?_
            refine p_ncmp_le (tgt := 376) X L0 1 dL_isWell_369 (by decide) rfl rfl (by omega) (by omega) (fun c369 => absurd c369 (by omega)) (fun c369 => ?_)
            refine p_iconst (v := (nI 1)) X dL_isWell_372 (by decide) ?_
            refine p_goto (tgt := 377) X dL_isWell_373 (by decide) ?_
            refine p_istore (lv' := [(8, .int (nI 1)), (6, .int (nI (wt + 1))), (5, .int (gv + (K.1.1 9 k))), (11, .int (nI b0)), (10, .int (nI 0)), (9, .int (nI k)), (0, .ref (ad 10 0)), (1, .int ow), (2, .int po), (3, .int (nI nd)), (4, .int go), (7, .int (nI K.1.2))]) X dL_isWell_377 (by decide) rfl ?_
            refine p_iconst (v := (nI 0)) X dL_isWell_379 (by decide) ?_
            refine p_istore (lv' := [(12, .int (nI 0)), (8, .int (nI 1)), (6, .int (nI (wt + 1))), (5, .int (gv + (K.1.1 9 k))), (11, .int (nI b0)), (10, .int (nI 0)), (9, .int (nI k)), (0, .ref (ad 10 0)), (1, .int ow), (2, .int po), (3, .int (nI nd)), (4, .int go), (7, .int (nI K.1.2))]) X dL_isWell_380 (by decide) rfl ?_
            refine p_lv (lv1 := [(12, .int (nI 0)), (0, .ref (ad 10 0)), (1, .int ow), (2, .int po), (3, .int (nI nd)), (4, .int go), (5, .int (gv + (K.1.1 9 k))), (6, .int (nI (wt + 1))), (7, .int (nI K.1.2)), (8, .int (nI 1)), (9, .int (nI k)), (10, .int (nI 0)), (11, .int (nI b0))]) [0, 7, 8, 9, 10, 11, 3, 2, 12, 1, 6, 5, 4] rfl ?_
            refine loop1 (G := P2 p l e _ s m args below meth c 0 0 _ _ D ad bd cs A B) (pc := 382) (fun (j : Nat) => [(12, .int (nI j)), (0, .ref (ad 10 0)), (1, .int ow), (2, .int po), (3, .int (nI nd)), (4, .int go), (5, .int (gv + (K.1.1 9 k))), (6, .int (nI (wt + 1))), (7, .int (nI K.1.2)), (8, .int (nI 1)), (9, .int (nI k)), (10, .int (nI 0)), (11, .int (nI b0))]) (fun (j : Nat) => ((K, Po), (K2, Pw))) (fun (j : Nat) => j ≤ k) (fun (j : Nat) => k - j) ?_ 0 (by omega)
            intro j hI382 ih382
            try dsimp only at ih382 ⊢
            have hj := hI382
            refine p_iload (q := 0) X dL_isWell_382 rfl ?_
            refine p_iload (q := 10) X dL_isWell_384 rfl ?_
            refine p_ncmp_ge (tgt := 468) X j k dL_isWell_386 (by decide) rfl rfl (by omega) (by omega) (fun c386 => ?_) (fun c386 => ?_)
            · skip
              refine p_iinc (q := 10) (v := (nI (k + 1))) (lv' := [(9, .int (nI (k + 1))), (12, .int (nI j)), (0, .ref (ad 10 0)), (1, .int ow), (2, .int po), (3, .int (nI nd)), (4, .int go), (5, .int (gv + (K.1.1 9 k))), (6, .int (nI (wt + 1))), (7, .int (nI K.1.2)), (8, .int (nI 1)), (10, .int (nI 0)), (11, .int (nI b0))]) X dL_isWell_468 rfl (nI_1 _) (by decide) rfl ?_
              refine p_goto (tgt := 207) X dL_isWell_471 (by decide) ?_
              refine p_lv (lv1 := [(9, .int (nI (k + 1))), (5, .int (gv + (K.1.1 9 k))), (6, .int (nI (wt + 1))), (0, .ref (ad 10 0)), (1, .int ow), (2, .int po), (3, .int (nI nd)), (4, .int go), (7, .int (nI K.1.2)), (8, .int (nI 1))]) [0, 7, 8, 2, 3, 4, 5, 6, 9, 10] rfl ?_
              exact ih207 (k + 1) (gv + (K.1.1 9 k)) (wt + 1) ⟨by omega, by rw [sm, hgv], by rw [wtn, if_pos (show wh K.1.1 k = 0 from wh_n0 h8 hb), hwt]⟩ (by omega)
            · skip
              have hjk : j < k := by omega
              by_cases hs : K.1.1 6 j = K.1.1 6 k
              · skip
                refine p_aload_n (q := 1) X dL_isWell_389 rfl rfl ?_
                refine p_iload (q := 0) X dL_isWell_390 rfl ?_
                refine p_iload (q := 10) X dL_isWell_392 rfl ?_
                refine p_iconst (v := (nI 0)) X dL_isWell_394 (by decide) ?_
                refine p_o (As := [.int (nI j), .int (nI k), .int (nI 0)]) X (q_alike l z K Po (nI j) (nI k) (nI 0)) (cwV 3 X.1.2.2.2.2 gL_isWell_X1_alike rfl rfl rfl (by decide +kernel) ⟨Nat.le_of_ble_eq_true rfl, Nat.le_of_ble_eq_true rfl⟩) rfl rfl (Nat.le_of_ble_eq_true rfl) dL_isWell_395 ?_
                rw [R_ali hcz (by omega) (by omega) (by decide), if_pos hs]
                rw [show (1 : Int32) = nI 1 from rfl]
                refine p_istore (lv' := [(13, .int (nI 1)), (12, .int (nI j)), (0, .ref (ad 10 0)), (1, .int ow), (2, .int po), (3, .int (nI nd)), (4, .int go), (5, .int (gv + (K.1.1 9 k))), (6, .int (nI (wt + 1))), (7, .int (nI K.1.2)), (8, .int (nI 1)), (9, .int (nI k)), (10, .int (nI 0)), (11, .int (nI b0))]) X dL_isWell_398 (by decide) rfl ?_
                refine p_iload (q := 10) X dL_isWell_400 rfl ?_
                refine p_if_eq (tgt := 459) X dL_isWell_402 (by decide) (fun c402 => absurd c402 (by decide)) (fun c402 => ?_)
                refine p_iload (q := 0) X dL_isWell_405 rfl ?_
                refine p_aload_n (q := 2) X dL_isWell_407 rfl rfl ?_
                refine p_iload (q := 11) X dL_isWell_408 rfl ?_
                refine p_iload (q := 1) X dL_isWell_410 rfl ?_
                refine p_iconst (v := (nI 1)) X dL_isWell_412 (by decide) ?_
                refine p_o (As := [.int (nI k), .int (nI j), .int (nI 1)]) X (q_alike l z K Po (nI k) (nI j) (nI 1)) (cwV 3 X.1.2.2.2.2 gL_isWell_X1_alike rfl rfl rfl (by decide +kernel) ⟨Nat.le_of_ble_eq_true rfl, Nat.le_of_ble_eq_true rfl⟩) rfl rfl (Nat.le_of_ble_eq_true rfl) dL_isWell_413 ?_
                rw [R_ali hcz (by omega) (by omega) (by decide), if_pos hs.symm]
                rw [show (1 : Int32) = nI 1 from rfl]
                refine p_ncmp_ne (tgt := 459) X 1 1 dL_isWell_416 (by decide) rfl rfl (by omega) (by omega) (fun c416 => absurd c416 (by decide)) (fun c416 => ?_)
                refine p_iload (q := 0) X dL_isWell_419 rfl ?_
                refine p_iconst (v := (nI 1)) X dL_isWell_421 (by decide) ?_
                refine p_ncmp_ne (tgt := 429) X 1 1 dL_isWell_422 (by decide) rfl rfl (by omega) (by omega) (fun c422 => absurd c422 (by decide)) (fun c422 => ?_)
                refine p_iconst (v := (nI 1)) X dL_isWell_425 (by decide) ?_
                refine p_goto (tgt := 430) X dL_isWell_426 (by decide) ?_
                refine p_aload_n (q := 2) X dL_isWell_430 rfl rfl ?_
                refine p_iload (q := 1) X dL_isWell_431 rfl ?_
                refine p_iconst (v := (nI 4)) X dL_isWell_433 (by decide) ?_
                refine p_o (As := [.int (nI j), .int (nI 4)]) X (q_name l z K Po (nI j) (nI 4)) (cwV 2 X.1.2.2.2.2 gL_isWell_X1_name rfl rfl rfl (by decide +kernel) ⟨Nat.le_of_ble_eq_true rfl, Nat.le_of_ble_eq_true rfl⟩) rfl rfl (Nat.le_of_ble_eq_true rfl) dL_isWell_434 ?_
                rw [R_nam4 hcz (by omega)]
                refine p_aload_n (q := 2) X dL_isWell_437 rfl rfl ?_
                refine p_iload (q := 11) X dL_isWell_438 rfl ?_
                refine p_iconst (v := (nI 4)) X dL_isWell_440 (by decide) ?_
                refine p_o (As := [.int (nI k), .int (nI 4)]) X (q_name l z K Po (nI k) (nI 4)) (cwV 2 X.1.2.2.2.2 gL_isWell_X1_name rfl rfl rfl (by decide +kernel) ⟨Nat.le_of_ble_eq_true rfl, Nat.le_of_ble_eq_true rfl⟩) rfl rfl (Nat.le_of_ble_eq_true rfl) dL_isWell_441 ?_
                rw [R_nam4 hcz (by omega)]
                refine p_icmp_ne (tgt := 451) X dL_isWell_444 (by decide) (fun c444 => absurd hs c444) (fun c444 => ?_)
                refine p_iconst (v := (nI 1)) X dL_isWell_447 (by decide) ?_
                refine p_goto (tgt := 452) X dL_isWell_448 (by decide) ?_
                refine p_ncmp_ne (tgt := 459) X 1 1 dL_isWell_452 (by decide) rfl rfl (by omega) (by omega) (fun c452 => absurd c452 (by decide)) (fun c452 => ?_)
                refine p_iconst (v := (nI 1)) X dL_isWell_455 (by decide) ?_
                refine p_goto (tgt := 460) X dL_isWell_456 (by decide) ?_
                refine p_istore (lv' := [(8, .int (nI 1)), (13, .int (nI 1)), (12, .int (nI j)), (0, .ref (ad 10 0)), (1, .int ow), (2, .int po), (3, .int (nI nd)), (4, .int go), (5, .int (gv + (K.1.1 9 k))), (6, .int (nI (wt + 1))), (7, .int (nI K.1.2)), (9, .int (nI k)), (10, .int (nI 0)), (11, .int (nI b0))]) X dL_isWell_460 (by decide) rfl ?_
                refine p_iinc (q := 2) (v := (nI (j + 1))) (lv' := [(12, .int (nI (j + 1))), (8, .int (nI 1)), (13, .int (nI 1)), (0, .ref (ad 10 0)), (1, .int ow), (2, .int po), (3, .int (nI nd)), (4, .int go), (5, .int (gv + (K.1.1 9 k))), (6, .int (nI (wt + 1))), (7, .int (nI K.1.2)), (9, .int (nI k)), (10, .int (nI 0)), (11, .int (nI b0))]) X dL_isWell_462 rfl (nI_1 _) (by decide) rfl ?_
                refine p_goto (tgt := 382) X dL_isWell_465 (by decide) ?_
                refine p_lv (lv1 := [(12, .int (nI (j + 1))), (0, .ref (ad 10 0)), (1, .int ow), (2, .int po), (3, .int (nI nd)), (4, .int go), (5, .int (gv + (K.1.1 9 k))), (6, .int (nI (wt + 1))), (7, .int (nI K.1.2)), (8, .int (nI 1)), (9, .int (nI k)), (10, .int (nI 0)), (11, .int (nI b0))]) [0, 3, 4, 5, 6, 7, 8, 9, 10, 1, 11, 12, 13] rfl ?_
                exact ih382 (j + 1) (by omega) (by omega)
              · skip
                refine p_aload_n (q := 1) X dL_isWell_389 rfl rfl ?_
                refine p_iload (q := 0) X dL_isWell_390 rfl ?_
                refine p_iload (q := 10) X dL_isWell_392 rfl ?_
                refine p_iconst (v := (nI 0)) X dL_isWell_394 (by decide) ?_
                refine p_o (As := [.int (nI j), .int (nI k), .int (nI 0)]) X (q_alike l z K Po (nI j) (nI k) (nI 0)) (cwV 3 X.1.2.2.2.2 gL_isWell_X1_alike rfl rfl rfl (by decide +kernel) ⟨Nat.le_of_ble_eq_true rfl, Nat.le_of_ble_eq_true rfl⟩) rfl rfl (Nat.le_of_ble_eq_true rfl) dL_isWell_395 ?_
                rw [R_ali hcz (by omega) (by omega) (by decide), if_neg hs]
                rw [show (0 : Int32) = nI 0 from rfl]
                refine p_istore (lv' := [(13, .int (nI 0)), (12, .int (nI j)), (0, .ref (ad 10 0)), (1, .int ow), (2, .int po), (3, .int (nI nd)), (4, .int go), (5, .int (gv + (K.1.1 9 k))), (6, .int (nI (wt + 1))), (7, .int (nI K.1.2)), (8, .int (nI 1)), (9, .int (nI k)), (10, .int (nI 0)), (11, .int (nI b0))]) X dL_isWell_398 (by decide) rfl ?_
                refine p_iload (q := 10) X dL_isWell_400 rfl ?_
                refine p_if_eq (tgt := 459) X dL_isWell_402 (by decide) (fun c402 => absurd c402 (by decide)) (fun c402 => ?_)
                refine p_iload (q := 0) X dL_isWell_405 rfl ?_
                refine p_aload_n (q := 2) X dL_isWell_407 rfl rfl ?_
                refine p_iload (q := 11) X dL_isWell_408 rfl ?_
                refine p_iload (q := 1) X dL_isWell_410 rfl ?_
                refine p_iconst (v := (nI 1)) X dL_isWell_412 (by decide) ?_
                refine p_o (As := [.int (nI k), .int (nI j), .int (nI 1)]) X (q_alike l z K Po (nI k) (nI j) (nI 1)) (cwV 3 X.1.2.2.2.2 gL_isWell_X1_alike rfl rfl rfl (by decide +kernel) ⟨Nat.le_of_ble_eq_true rfl, Nat.le_of_ble_eq_true rfl⟩) rfl rfl (Nat.le_of_ble_eq_true rfl) dL_isWell_413 ?_
                rw [R_ali hcz (by omega) (by omega) (by decide), if_neg (fun y => hs y.symm)]
                rw [show (0 : Int32) = nI 0 from rfl]
                refine p_ncmp_ne (tgt := 459) X 0 0 dL_isWell_416 (by decide) rfl rfl (by omega) (by omega) (fun c416 => absurd c416 (by decide)) (fun c416 => ?_)
                refine p_iload (q := 0) X dL_isWell_419 rfl ?_
                refine p_iconst (v := (nI 1)) X dL_isWell_421 (by decide) ?_
                refine p_ncmp_ne (tgt := 429) X 0 1 dL_isWell_422 (by decide) rfl rfl (by omega) (by omega) (fun c422 => ?_) (fun c422 => absurd (by decide) c422)
                refine p_iconst (v := (nI 0)) X dL_isWell_429 (by decide) ?_
                refine p_aload_n (q := 2) X dL_isWell_430 rfl rfl ?_
                refine p_iload (q := 1) X dL_isWell_431 rfl ?_
                refine p_iconst (v := (nI 4)) X dL_isWell_433 (by decide) ?_
                refine p_o (As := [.int (nI j), .int (nI 4)]) X (q_name l z K Po (nI j) (nI 4)) (cwV 2 X.1.2.2.2.2 gL_isWell_X1_name rfl rfl rfl (by decide +kernel) ⟨Nat.le_of_ble_eq_true rfl, Nat.le_of_ble_eq_true rfl⟩) rfl rfl (Nat.le_of_ble_eq_true rfl) dL_isWell_434 ?_
                rw [R_nam4 hcz (by omega)]
                refine p_aload_n (q := 2) X dL_isWell_437 rfl rfl ?_
                refine p_iload (q := 11) X dL_isWell_438 rfl ?_
                refine p_iconst (v := (nI 4)) X dL_isWell_440 (by decide) ?_
                refine p_o (As := [.int (nI k), .int (nI 4)]) X (q_name l z K Po (nI k) (nI 4)) (cwV 2 X.1.2.2.2.2 gL_isWell_X1_name rfl rfl rfl (by decide +kernel) ⟨Nat.le_of_ble_eq_true rfl, Nat.le_of_ble_eq_true rfl⟩) rfl rfl (Nat.le_of_ble_eq_true rfl) dL_isWell_441 ?_
                rw [R_nam4 hcz (by omega)]
                refine p_icmp_ne (tgt := 451) X dL_isWell_444 (by decide) (fun c444 => ?_) (fun c444 => absurd hs c444)
                refine p_iconst (v := (nI 0)) X dL_isWell_451 (by decide) ?_
                refine p_ncmp_ne (tgt := 459) X 0 0 dL_isWell_452 (by decide) rfl rfl (by omega) (by omega) (fun c452 => absurd c452 (by decide)) (fun c452 => ?_)
                refine p_iconst (v := (nI 1)) X dL_isWell_455 (by decide) ?_
                refine p_goto (tgt := 460) X dL_isWell_456 (by decide) ?_
                refine p_istore (lv' := [(8, .int (nI 1)), (13, .int (nI 0)), (12, .int (nI j)), (0, .ref (ad 10 0)), (1, .int ow), (2, .int po), (3, .int (nI nd)), (4, .int go), (5, .int (gv + (K.1.1 9 k))), (6, .int (nI (wt + 1))), (7, .int (nI K.1.2)), (9, .int (nI k)), (10, .int (nI 0)), (11, .int (nI b0))]) X dL_isWell_460 (by decide) rfl ?_
                refine p_iinc (q := 2) (v := (nI (j + 1))) (lv' := [(12, .int (nI (j + 1))), (8, .int (nI 1)), (13, .int (nI 0)), (0, .ref (ad 10 0)), (1, .int ow), (2, .int po), (3, .int (nI nd)), (4, .int go), (5, .int (gv + (K.1.1 9 k))), (6, .int (nI (wt + 1))), (7, .int (nI K.1.2)), (9, .int (nI k)), (10, .int (nI 0)), (11, .int (nI b0))]) X dL_isWell_462 rfl (nI_1 _) (by decide) rfl ?_
                refine p_goto (tgt := 382) X dL_isWell_465 (by decide) ?_
                refine p_lv (lv1 := [(12, .int (nI (j + 1))), (0, .ref (ad 10 0)), (1, .int ow), (2, .int po), (3, .int (nI nd)), (4, .int go), (5, .int (gv + (K.1.1 9 k))), (6, .int (nI (wt + 1))), (7, .int (nI K.1.2)), (8, .int (nI 1)), (9, .int (nI k)), (10, .int (nI 0)), (11, .int (nI b0))]) [0, 3, 4, 5, 6, 7, 8, 9, 10, 1, 11, 12, 13] rfl ?_
                exact ih382 (j + 1) (by omega) (by omega)
      · skip
        have hb := hcz.nb8 hkN h8
        have hlow := low_w (a := aV K.1.1) h8
        refine p_aload_n (q := 3) X dL_isWell_214 rfl rfl ?_
        refine p_iload (q := 0) X dL_isWell_215 rfl ?_
        refine p_iconst (v := (nI 1)) X dL_isWell_217 (by decide) ?_
        refine p_o (As := [.int (nI k), .int (nI 1)]) X (q_name l z K Po (nI k) (nI 1)) (cwV 2 X.1.2.2.2.2 gL_isWell_X1_name rfl rfl rfl (by decide +kernel) ⟨Nat.le_of_ble_eq_true rfl, Nat.le_of_ble_eq_true rfl⟩) rfl rfl (Nat.le_of_ble_eq_true rfl) dL_isWell_218 ?_
        rw [R_nam1 hcz hkN, wh_n2 h8]
        refine p_istore (lv' := [(10, .int (nI 2)), (9, .int (nI k)), (5, .int gv), (6, .int (nI wt)), (0, .ref (ad 10 0)), (1, .int ow), (2, .int po), (3, .int (nI nd)), (4, .int go), (7, .int (nI K.1.2)), (8, .int (nI 1))]) X dL_isWell_221 (by decide) rfl ?_
        refine p_aload_n (q := 4) X dL_isWell_223 rfl rfl ?_
        refine p_iload (q := 1) X dL_isWell_224 rfl ?_
        refine p_o (As := [.int (nI k)]) X (q_bestCorner l z K Po (nI k)) (cwV 1 X.1.2.2.2.2 gL_isWell_X1_bestCorner rfl rfl rfl (by decide +kernel) ⟨Nat.le_of_ble_eq_true rfl, Nat.le_of_ble_eq_true rfl⟩) rfl rfl (Nat.le_of_ble_eq_true rfl) dL_isWell_226 ?_
        rw [R_bes hcz hkN, hlow]
        refine p_istore (lv' := [(11, .int (-6)), (10, .int (nI 2)), (9, .int (nI k)), (5, .int gv), (6, .int (nI wt)), (0, .ref (ad 10 0)), (1, .int ow), (2, .int po), (3, .int (nI nd)), (4, .int go), (7, .int (nI K.1.2)), (8, .int (nI 1))]) X dL_isWell_229 (by decide) rfl ?_
        refine p_iload (q := 3) X dL_isWell_231 rfl ?_
        refine p_aload_n (q := 5) X dL_isWell_233 rfl rfl ?_
        refine p_iload (q := 2) X dL_isWell_234 rfl ?_
        refine p_bipush (v := (nI 6)) X dL_isWell_236 (by decide) ?_
        refine p_o (As := [.int (nI k), .int (nI 6)]) X (q_name l z K Po (nI k) (nI 6)) (cwV 2 X.1.2.2.2.2 gL_isWell_X1_name rfl rfl rfl (by decide +kernel) ⟨Nat.le_of_ble_eq_true rfl, Nat.le_of_ble_eq_true rfl⟩) rfl rfl (Nat.le_of_ble_eq_true rfl) dL_isWell_238 ?_
        rw [R_nam6 hcz hkN]
        refine p_iadd (v := (gv + (K.1.1 9 k))) X dL_isWell_241 rfl ?_
        refine p_istore (lv' := [(5, .int (gv + (K.1.1 9 k))), (11, .int (-6)), (10, .int (nI 2)), (9, .int (nI k)), (6, .int (nI wt)), (0, .ref (ad 10 0)), (1, .int ow), (2, .int po), (3, .int (nI nd)), (4, .int go), (7, .int (nI K.1.2)), (8, .int (nI 1))]) X dL_isWell_242 (by decide) rfl ?_
        refine p_iload (q := 4) X dL_isWell_244 rfl ?_
        refine p_iload (q := 2) X dL_isWell_246 rfl ?_
        refine p_if_ne (tgt := 255) X dL_isWell_248 (by decide) (fun c248 => ?_) (fun c248 => absurd (by decide) c248)
        refine p_iconst (v := (nI 0)) X dL_isWell_255 (by decide) ?_
        refine p_iadd (v := (nI (wt + 0))) X dL_isWell_256 (nI_add _ _) ?_
        refine p_istore (lv' := [(6, .int (nI (wt + 0))), (5, .int (gv + (K.1.1 9 k))), (11, .int (-6)), (10, .int (nI 2)), (9, .int (nI k)), (0, .ref (ad 10 0)), (1, .int ow), (2, .int po), (3, .int (nI nd)), (4, .int go), (7, .int (nI K.1.2)), (8, .int (nI 1))]) X dL_isWell_257 (by decide) rfl ?_
        refine p_iload (q := 11) X dL_isWell_259 rfl ?_
        refine p_if_eq (tgt := 376) X dL_isWell_261 (by decide) (fun c261 => absurd c261 (by decide)) (fun c261 => ?_)
        refine p_iload (q := 3) X dL_isWell_264 rfl ?_
        refine p_iconst (v := (nI 1)) X dL_isWell_266 (by decide) ?_
        refine p_ncmp_ne (tgt := 274) X 2 1 dL_isWell_267 (by decide) rfl rfl (by omega) (by omega) (fun c267 => ?_) (fun c267 => absurd (by decide) c267)
        refine p_iconst (v := (nI 0)) X dL_isWell_274 (by decide) ?_
        refine p_aload_n (q := 5) X dL_isWell_275 rfl rfl ?_
        refine p_iload (q := 4) X dL_isWell_276 rfl ?_
        refine p_iconst (v := (nI 2)) X dL_isWell_278 (by decide) ?_
        refine p_o (As := [.int (nI k), .int (nI 2)]) X (q_name l z K Po (nI k) (nI 2)) (cwV 2 X.1.2.2.2.2 gL_isWell_X1_name rfl rfl rfl (by decide +kernel) ⟨Nat.le_of_ble_eq_true rfl, Nat.le_of_ble_eq_true rfl⟩) rfl rfl (Nat.le_of_ble_eq_true rfl) dL_isWell_279 ?_
        rw [R_nam2 hcz hkN, nb_0 12 (by omega)]
        rw [show (0 : Int32) = nI 0 from rfl]
        refine p_if_eq (tgt := 289) X dL_isWell_282 (by decide) (fun c282 => ?_) (fun c282 => absurd (by decide) c282)
        refine p_iconst (v := (nI 0)) X dL_isWell_289 (by decide) ?_
        refine p_ncmp_ne (tgt := 376) X 0 0 dL_isWell_290 (by decide) rfl rfl (by omega) (by omega) (fun c290 => absurd c290 (by decide)) (fun c290 => ?_)
        refine p_iload (q := 3) X dL_isWell_293 rfl ?_
        refine p_if_ne (tgt := 302) X dL_isWell_295 (by decide) (fun c295 => ?_) (fun c295 => absurd (by decide) c295)
        refine p_iconst (v := (nI 0)) X dL_isWell_302 (by decide) ?_
        refine p_aload_n (q := 5) X dL_isWell_303 rfl rfl ?_
        refine p_iload (q := 4) X dL_isWell_304 rfl ?_
        refine p_iconst (v := (nI 3)) X dL_isWell_306 (by decide) ?_
        refine p_o (As := [.int (nI k), .int (nI 3)]) X (q_name l z K Po (nI k) (nI 3)) (cwV 2 X.1.2.2.2.2 gL_isWell_X1_name rfl rfl rfl (by decide +kernel) ⟨Nat.le_of_ble_eq_true rfl, Nat.le_of_ble_eq_true rfl⟩) rfl rfl (Nat.le_of_ble_eq_true rfl) dL_isWell_307 ?_
        rw [R_nam3 hcz hkN, if_neg (by rw [wh_n2 h8]; decide)]
        refine p_if_lt (tgt := 317) X dL_isWell_310 (by decide) (fun c310 => ?_) (fun c310 => absurd (by decide) c310)
        refine p_iconst (v := (nI 0)) X dL_isWell_317 (by decide) ?_
        refine p_ncmp_ne (tgt := 376) X 0 0 dL_isWell_318 (by decide) rfl rfl (by omega) (by omega) (fun c318 => absurd c318 (by decide)) (fun c318 => ?_)
        refine p_iload (q := 3) X dL_isWell_321 rfl ?_
        refine p_iconst (v := (nI 2)) X dL_isWell_323 (by decide) ?_
        refine p_ncmp_ne (tgt := 345) X 2 2 dL_isWell_324 (by decide) rfl rfl (by omega) (by omega) (fun c324 => absurd c324 (by decide)) (fun c324 => ?_)
        refine p_iload (q := 2) X dL_isWell_327 rfl ?_
        refine p_bipush (v := (-6)) X dL_isWell_329 (by decide) ?_
        refine p_icmp_ne (tgt := 376) X dL_isWell_331 (by decide) (fun c331 => absurd rfl c331) (fun c331 => ?_)
        refine p_aload_n (q := 5) X dL_isWell_334 rfl rfl ?_
        refine p_iload (q := 4) X dL_isWell_335 rfl ?_
        refine p_iconst (v := (nI 3)) X dL_isWell_337 (by decide) ?_
        refine p_o (As := [.int (nI k), .int (nI 3)]) X (q_why l z K Po (nI k) (nI 3)) (cwV 2 X.1.2.2.2.2 gL_isWell_X1_why rfl rfl rfl (by decide +kernel) ⟨Nat.le_of_ble_eq_true rfl, Nat.le_of_ble_eq_true rfl⟩) rfl rfl (Nat.le_of_ble_eq_true rfl) dL_isWell_338 ?_
        rw [R_why hcz hkN (by decide), rsn_1 h8]
        refine p_iconst (v := (nI 1)) X dL_isWell_341 (by decide) ?_
        refine p_ncmp_ne (tgt := 376) X 1 1 dL_isWell_342 (by decide) rfl rfl (by omega) (by omega) (fun c342 => absurd c342 (by decide)) (fun c342 => ?_)
        refine p_iload (q := 2) X dL_isWell_345 rfl ?_
        refine p_if_lt (tgt := 361) X dL_isWell_347 (by decide) (fun c347 => ?_) (fun c347 => absurd (by decide) c347)
        refine p_aload_n (q := 5) X dL_isWell_361 rfl rfl ?_
        refine p_iload (q := 4) X dL_isWell_362 rfl ?_
        refine p_iconst (v := (nI 5)) X dL_isWell_364 (by decide) ?_
        refine p_o (As := [.int (nI k), .int (nI 5)]) X (q_name l z K Po (nI k) (nI 5)) (cwV 2 X.1.2.2.2.2 gL_isWell_X1_name rfl rfl rfl (by decide +kernel) ⟨Nat.le_of_ble_eq_true rfl, Nat.le_of_ble_eq_true rfl⟩) rfl rfl (Nat.le_of_ble_eq_true rfl) dL_isWell_365 ?_
        rw [R_nam5 hcz hkN, eL]
        refine p_iconst (v := (nI 1)) X dL_isWell_368 (by decide) ?_
        refine p_ncmp_le (tgt := 376) X L0 1 dL_isWell_369 (by decide) rfl rfl (by omega) (by omega) (fun c369 => absurd c369 (by omega)) (fun c369 => ?_)
        refine p_iconst (v := (nI 1)) X dL_isWell_372 (by decide) ?_
        refine p_goto (tgt := 377) X dL_isWell_373 (by decide) ?_
        refine p_istore (lv' := [(8, .int (nI 1)), (6, .int (nI (wt + 0))), (5, .int (gv + (K.1.1 9 k))), (11, .int (-6)), (10, .int (nI 2)), (9, .int (nI k)), (0, .ref (ad 10 0)), (1, .int ow), (2, .int po), (3, .int (nI nd)), (4, .int go), (7, .int (nI K.1.2))]) X dL_isWell_377 (by decide) rfl ?_
        refine p_iconst (v := (nI 0)) X dL_isWell_379 (by decide) ?_
        refine p_istore (lv' := [(12, .int (nI 0)), (8, .int (nI 1)), (6, .int (nI (wt + 0))), (5, .int (gv + (K.1.1 9 k))), (11, .int (-6)), (10, .int (nI 2)), (9, .int (nI k)), (0, .ref (ad 10 0)), (1, .int ow), (2, .int po), (3, .int (nI nd)), (4, .int go), (7, .int (nI K.1.2))]) X dL_isWell_380 (by decide) rfl ?_
        refine p_lv (lv1 := [(12, .int (nI 0)), (0, .ref (ad 10 0)), (1, .int ow), (2, .int po), (3, .int (nI nd)), (4, .int go), (5, .int (gv + (K.1.1 9 k))), (6, .int (nI (wt + 0))), (7, .int (nI K.1.2)), (8, .int (nI 1)), (9, .int (nI k)), (10, .int (nI 2)), (11, .int (-6))]) [0, 7, 8, 9, 10, 11, 3, 2, 12, 1, 6, 5, 4] rfl ?_
        refine loop1 (G := P2 p l e _ s m args below meth c 0 0 _ _ D ad bd cs A B) (pc := 382) (fun (j : Nat) => [(12, .int (nI j)), (0, .ref (ad 10 0)), (1, .int ow), (2, .int po), (3, .int (nI nd)), (4, .int go), (5, .int (gv + (K.1.1 9 k))), (6, .int (nI (wt + 0))), (7, .int (nI K.1.2)), (8, .int (nI 1)), (9, .int (nI k)), (10, .int (nI 2)), (11, .int (-6))]) (fun (j : Nat) => ((K, Po), (K2, Pw))) (fun (j : Nat) => j ≤ k) (fun (j : Nat) => k - j) ?_ 0 (by omega)
        intro j hI382 ih382
        try dsimp only at ih382 ⊢
        have hj := hI382
        refine p_iload (q := 0) X dL_isWell_382 rfl ?_
        refine p_iload (q := 10) X dL_isWell_384 rfl ?_
        refine p_ncmp_ge (tgt := 468) X j k dL_isWell_386 (by decide) rfl rfl (by omega) (by omega) (fun c386 => ?_) (fun c386 => ?_)
        · skip
          refine p_iinc (q := 10) (v := (nI (k + 1))) (lv' := [(9, .int (nI (k + 1))), (12, .int (nI j)), (0, .ref (ad 10 0)), (1, .int ow), (2, .int po), (3, .int (nI nd)), (4, .int go), (5, .int (gv + (K.1.1 9 k))), (6, .int (nI (wt + 0))), (7, .int (nI K.1.2)), (8, .int (nI 1)), (10, .int (nI 2)), (11, .int (-6))]) X dL_isWell_468 rfl (nI_1 _) (by decide) rfl ?_
          refine p_goto (tgt := 207) X dL_isWell_471 (by decide) ?_
          refine p_lv (lv1 := [(9, .int (nI (k + 1))), (5, .int (gv + (K.1.1 9 k))), (6, .int (nI (wt + 0))), (0, .ref (ad 10 0)), (1, .int ow), (2, .int po), (3, .int (nI nd)), (4, .int go), (7, .int (nI K.1.2)), (8, .int (nI 1))]) [0, 7, 8, 2, 3, 4, 5, 6, 9, 10] rfl ?_
          exact ih207 (k + 1) (gv + (K.1.1 9 k)) (wt + 0) ⟨by omega, by rw [sm, hgv], by rw [wtn, if_neg (by rw [wh_n2 h8]; decide), hwt]; rfl⟩ (by omega)
        · skip
          have hjk : j < k := by omega
          by_cases hs : K.1.1 6 j = K.1.1 6 k
          · skip
            refine p_aload_n (q := 1) X dL_isWell_389 rfl rfl ?_
            refine p_iload (q := 0) X dL_isWell_390 rfl ?_
            refine p_iload (q := 10) X dL_isWell_392 rfl ?_
            refine p_iconst (v := (nI 0)) X dL_isWell_394 (by decide) ?_
            refine p_o (As := [.int (nI j), .int (nI k), .int (nI 0)]) X (q_alike l z K Po (nI j) (nI k) (nI 0)) (cwV 3 X.1.2.2.2.2 gL_isWell_X1_alike rfl rfl rfl (by decide +kernel) ⟨Nat.le_of_ble_eq_true rfl, Nat.le_of_ble_eq_true rfl⟩) rfl rfl (Nat.le_of_ble_eq_true rfl) dL_isWell_395 ?_
            rw [R_ali hcz (by omega) (by omega) (by decide), if_pos hs]
            rw [show (1 : Int32) = nI 1 from rfl]
            refine p_istore (lv' := [(13, .int (nI 1)), (12, .int (nI j)), (0, .ref (ad 10 0)), (1, .int ow), (2, .int po), (3, .int (nI nd)), (4, .int go), (5, .int (gv + (K.1.1 9 k))), (6, .int (nI (wt + 0))), (7, .int (nI K.1.2)), (8, .int (nI 1)), (9, .int (nI k)), (10, .int (nI 2)), (11, .int (-6))]) X dL_isWell_398 (by decide) rfl ?_
            refine p_iload (q := 10) X dL_isWell_400 rfl ?_
            refine p_if_eq (tgt := 459) X dL_isWell_402 (by decide) (fun c402 => absurd c402 (by decide)) (fun c402 => ?_)
            refine p_iload (q := 0) X dL_isWell_405 rfl ?_
            refine p_aload_n (q := 2) X dL_isWell_407 rfl rfl ?_
            refine p_iload (q := 11) X dL_isWell_408 rfl ?_
            refine p_iload (q := 1) X dL_isWell_410 rfl ?_
            refine p_iconst (v := (nI 1)) X dL_isWell_412 (by decide) ?_
            refine p_o (As := [.int (nI k), .int (nI j), .int (nI 1)]) X (q_alike l z K Po (nI k) (nI j) (nI 1)) (cwV 3 X.1.2.2.2.2 gL_isWell_X1_alike rfl rfl rfl (by decide +kernel) ⟨Nat.le_of_ble_eq_true rfl, Nat.le_of_ble_eq_true rfl⟩) rfl rfl (Nat.le_of_ble_eq_true rfl) dL_isWell_413 ?_
            rw [R_ali hcz (by omega) (by omega) (by decide), if_pos hs.symm]
            rw [show (1 : Int32) = nI 1 from rfl]
            refine p_ncmp_ne (tgt := 459) X 1 1 dL_isWell_416 (by decide) rfl rfl (by omega) (by omega) (fun c416 => absurd c416 (by decide)) (fun c416 => ?_)
            refine p_iload (q := 0) X dL_isWell_419 rfl ?_
            refine p_iconst (v := (nI 1)) X dL_isWell_421 (by decide) ?_
            refine p_ncmp_ne (tgt := 429) X 1 1 dL_isWell_422 (by decide) rfl rfl (by omega) (by omega) (fun c422 => absurd c422 (by decide)) (fun c422 => ?_)
            refine p_iconst (v := (nI 1)) X dL_isWell_425 (by decide) ?_
            refine p_goto (tgt := 430) X dL_isWell_426 (by decide) ?_
            refine p_aload_n (q := 2) X dL_isWell_430 rfl rfl ?_
            refine p_iload (q := 1) X dL_isWell_431 rfl ?_
            refine p_iconst (v := (nI 4)) X dL_isWell_433 (by decide) ?_
            refine p_o (As := [.int (nI j), .int (nI 4)]) X (q_name l z K Po (nI j) (nI 4)) (cwV 2 X.1.2.2.2.2 gL_isWell_X1_name rfl rfl rfl (by decide +kernel) ⟨Nat.le_of_ble_eq_true rfl, Nat.le_of_ble_eq_true rfl⟩) rfl rfl (Nat.le_of_ble_eq_true rfl) dL_isWell_434 ?_
            rw [R_nam4 hcz (by omega)]
            refine p_aload_n (q := 2) X dL_isWell_437 rfl rfl ?_
            refine p_iload (q := 11) X dL_isWell_438 rfl ?_
            refine p_iconst (v := (nI 4)) X dL_isWell_440 (by decide) ?_
            refine p_o (As := [.int (nI k), .int (nI 4)]) X (q_name l z K Po (nI k) (nI 4)) (cwV 2 X.1.2.2.2.2 gL_isWell_X1_name rfl rfl rfl (by decide +kernel) ⟨Nat.le_of_ble_eq_true rfl, Nat.le_of_ble_eq_true rfl⟩) rfl rfl (Nat.le_of_ble_eq_true rfl) dL_isWell_441 ?_
            rw [R_nam4 hcz (by omega)]
            refine p_icmp_ne (tgt := 451) X dL_isWell_444 (by decide) (fun c444 => absurd hs c444) (fun c444 => ?_)
            refine p_iconst (v := (nI 1)) X dL_isWell_447 (by decide) ?_
            refine p_goto (tgt := 452) X dL_isWell_448 (by decide) ?_
            refine p_ncmp_ne (tgt := 459) X 1 1 dL_isWell_452 (by decide) rfl rfl (by omega) (by omega) (fun c452 => absurd c452 (by decide)) (fun c452 => ?_)
            refine p_iconst (v := (nI 1)) X dL_isWell_455 (by decide) ?_
            refine p_goto (tgt := 460) X dL_isWell_456 (by decide) ?_
            refine p_istore (lv' := [(8, .int (nI 1)), (13, .int (nI 1)), (12, .int (nI j)), (0, .ref (ad 10 0)), (1, .int ow), (2, .int po), (3, .int (nI nd)), (4, .int go), (5, .int (gv + (K.1.1 9 k))), (6, .int (nI (wt + 0))), (7, .int (nI K.1.2)), (9, .int (nI k)), (10, .int (nI 2)), (11, .int (-6))]) X dL_isWell_460 (by decide) rfl ?_
            refine p_iinc (q := 2) (v := (nI (j + 1))) (lv' := [(12, .int (nI (j + 1))), (8, .int (nI 1)), (13, .int (nI 1)), (0, .ref (ad 10 0)), (1, .int ow), (2, .int po), (3, .int (nI nd)), (4, .int go), (5, .int (gv + (K.1.1 9 k))), (6, .int (nI (wt + 0))), (7, .int (nI K.1.2)), (9, .int (nI k)), (10, .int (nI 2)), (11, .int (-6))]) X dL_isWell_462 rfl (nI_1 _) (by decide) rfl ?_
            refine p_goto (tgt := 382) X dL_isWell_465 (by decide) ?_
            refine p_lv (lv1 := [(12, .int (nI (j + 1))), (0, .ref (ad 10 0)), (1, .int ow), (2, .int po), (3, .int (nI nd)), (4, .int go), (5, .int (gv + (K.1.1 9 k))), (6, .int (nI (wt + 0))), (7, .int (nI K.1.2)), (8, .int (nI 1)), (9, .int (nI k)), (10, .int (nI 2)), (11, .int (-6))]) [0, 3, 4, 5, 6, 7, 8, 9, 10, 1, 11, 12, 13] rfl ?_
            exact ih382 (j + 1) (by omega) (by omega)
          · skip
            refine p_aload_n (q := 1) X dL_isWell_389 rfl rfl ?_
            refine p_iload (q := 0) X dL_isWell_390 rfl ?_
            refine p_iload (q := 10) X dL_isWell_392 rfl ?_
            refine p_iconst (v := (nI 0)) X dL_isWell_394 (by decide) ?_
            refine p_o (As := [.int (nI j), .int (nI k), .int (nI 0)]) X (q_alike l z K Po (nI j) (nI k) (nI 0)) (cwV 3 X.1.2.2.2.2 gL_isWell_X1_alike rfl rfl rfl (by decide +kernel) ⟨Nat.le_of_ble_eq_true rfl, Nat.le_of_ble_eq_true rfl⟩) rfl rfl (Nat.le_of_ble_eq_true rfl) dL_isWell_395 ?_
            rw [R_ali hcz (by omega) (by omega) (by decide), if_neg hs]
            rw [show (0 : Int32) = nI 0 from rfl]
            refine p_istore (lv' := [(13, .int (nI 0)), (12, .int (nI j)), (0, .ref (ad 10 0)), (1, .int ow), (2, .int po), (3, .int (nI nd)), (4, .int go), (5, .int (gv + (K.1.1 9 k))), (6, .int (nI (wt + 0))), (7, .int (nI K.1.2)), (8, .int (nI 1)), (9, .int (nI k)), (10, .int (nI 2)), (11, .int (-6))]) X dL_isWell_398 (by decide) rfl ?_
            refine p_iload (q := 10) X dL_isWell_400 rfl ?_
            refine p_if_eq (tgt := 459) X dL_isWell_402 (by decide) (fun c402 => absurd c402 (by decide)) (fun c402 => ?_)
            refine p_iload (q := 0) X dL_isWell_405 rfl ?_
            refine p_aload_n (q := 2) X dL_isWell_407 rfl rfl ?_
            refine p_iload (q := 11) X dL_isWell_408 rfl ?_
            refine p_iload (q := 1) X dL_isWell_410 rfl ?_
            refine p_iconst (v := (nI 1)) X dL_isWell_412 (by decide) ?_
            refine p_o (As := [.int (nI k), .int (nI j), .int (nI 1)]) X (q_alike l z K Po (nI k) (nI j) (nI 1)) (cwV 3 X.1.2.2.2.2 gL_isWell_X1_alike rfl rfl rfl (by decide +kernel) ⟨Nat.le_of_ble_eq_true rfl, Nat.le_of_ble_eq_true rfl⟩) rfl rfl (Nat.le_of_ble_eq_true rfl) dL_isWell_413 ?_
            rw [R_ali hcz (by omega) (by omega) (by decide), if_neg (fun y => hs y.symm)]
            rw [show (0 : Int32) = nI 0 from rfl]
            refine p_ncmp_ne (tgt := 459) X 0 0 dL_isWell_416 (by decide) rfl rfl (by omega) (by omega) (fun c416 => absurd c416 (by decide)) (fun c416 => ?_)
            refine p_iload (q := 0) X dL_isWell_419 rfl ?_
            refine p_iconst (v := (nI 1)) X dL_isWell_421 (by decide) ?_
            refine p_ncmp_ne (tgt := 429) X 0 1 dL_isWell_422 (by decide) rfl rfl (by omega) (by omega) (fun c422 => ?_) (fun c422 => absurd (by decide) c422)
            refine p_iconst (v := (nI 0)) X dL_isWell_429 (by decide) ?_
            refine p_aload_n (q := 2) X dL_isWell_430 rfl rfl ?_
            refine p_iload (q := 1) X dL_isWell_431 rfl ?_
            refine p_iconst (v := (nI 4)) X dL_isWell_433 (by decide) ?_
            refine p_o (As := [.int (nI j), .int (nI 4)]) X (q_name l z K Po (nI j) (nI 4)) (cwV 2 X.1.2.2.2.2 gL_isWell_X1_name rfl rfl rfl (by decide +kernel) ⟨Nat.le_of_ble_eq_true rfl, Nat.le_of_ble_eq_true rfl⟩) rfl rfl (Nat.le_of_ble_eq_true rfl) dL_isWell_434 ?_
            rw [R_nam4 hcz (by omega)]
            refine p_aload_n (q := 2) X dL_isWell_437 rfl rfl ?_
            refine p_iload (q := 11) X dL_isWell_438 rfl ?_
            refine p_iconst (v := (nI 4)) X dL_isWell_440 (by decide) ?_
            refine p_o (As := [.int (nI k), .int (nI 4)]) X (q_name l z K Po (nI k) (nI 4)) (cwV 2 X.1.2.2.2.2 gL_isWell_X1_name rfl rfl rfl (by decide +kernel) ⟨Nat.le_of_ble_eq_true rfl, Nat.le_of_ble_eq_true rfl⟩) rfl rfl (Nat.le_of_ble_eq_true rfl) dL_isWell_441 ?_
            rw [R_nam4 hcz (by omega)]
            refine p_icmp_ne (tgt := 451) X dL_isWell_444 (by decide) (fun c444 => ?_) (fun c444 => absurd hs c444)
            refine p_iconst (v := (nI 0)) X dL_isWell_451 (by decide) ?_
            refine p_ncmp_ne (tgt := 459) X 0 0 dL_isWell_452 (by decide) rfl rfl (by omega) (by omega) (fun c452 => absurd c452 (by decide)) (fun c452 => ?_)
            refine p_iconst (v := (nI 1)) X dL_isWell_455 (by decide) ?_
            refine p_goto (tgt := 460) X dL_isWell_456 (by decide) ?_
            refine p_istore (lv' := [(8, .int (nI 1)), (13, .int (nI 0)), (12, .int (nI j)), (0, .ref (ad 10 0)), (1, .int ow), (2, .int po), (3, .int (nI nd)), (4, .int go), (5, .int (gv + (K.1.1 9 k))), (6, .int (nI (wt + 0))), (7, .int (nI K.1.2)), (9, .int (nI k)), (10, .int (nI 2)), (11, .int (-6))]) X dL_isWell_460 (by decide) rfl ?_
            refine p_iinc (q := 2) (v := (nI (j + 1))) (lv' := [(12, .int (nI (j + 1))), (8, .int (nI 1)), (13, .int (nI 0)), (0, .ref (ad 10 0)), (1, .int ow), (2, .int po), (3, .int (nI nd)), (4, .int go), (5, .int (gv + (K.1.1 9 k))), (6, .int (nI (wt + 0))), (7, .int (nI K.1.2)), (9, .int (nI k)), (10, .int (nI 2)), (11, .int (-6))]) X dL_isWell_462 rfl (nI_1 _) (by decide) rfl ?_
            refine p_goto (tgt := 382) X dL_isWell_465 (by decide) ?_
            refine p_lv (lv1 := [(12, .int (nI (j + 1))), (0, .ref (ad 10 0)), (1, .int ow), (2, .int po), (3, .int (nI nd)), (4, .int go), (5, .int (gv + (K.1.1 9 k))), (6, .int (nI (wt + 0))), (7, .int (nI K.1.2)), (8, .int (nI 1)), (9, .int (nI k)), (10, .int (nI 2)), (11, .int (-6))]) [0, 3, 4, 5, 6, 7, 8, 9, 10, 1, 11, 12, 13] rfl ?_
            exact ih382 (j + 1) (by omega) (by omega)
  · skip
    have hi12 : i < 12 := by omega
    obtain ⟨q0, hq0, eq0⟩ := hwk.1.1 i hi12
    rcases hcz.c10 i hi12 with hb | ⟨n0, hn0, hb⟩
    · skip
      refine p_aload_n (q := 5) X dL_isWell_35 rfl rfl ?_
      refine p_iload (q := 0) X dL_isWell_36 rfl ?_
      refine p_iconst (v := (nI 0)) X dL_isWell_38 (by decide) ?_
      refine p_o (As := [.int (nI i), .int (nI 0)]) X (q_corner l z K Po (nI i) (nI 0)) (cwV 2 X.1.2.2.2.2 gL_isWell_X1_corner rfl rfl rfl (by decide +kernel) ⟨Nat.le_of_ble_eq_true rfl, Nat.le_of_ble_eq_true rfl⟩) rfl rfl (Nat.le_of_ble_eq_true rfl) dL_isWell_39 ?_
      rw [R_cor0 hi12, hb]
      refine p_istore (lv' := [(10, .int (-6)), (9, .int (nI i)), (1, .int ow), (2, .int po), (3, .int (nI nd)), (4, .int go), (0, .ref (ad 10 0)), (5, .int (nI 0)), (6, .int (nI 0)), (7, .int (nI K.1.2)), (8, .int (nI 1))]) X dL_isWell_42 (by decide) rfl ?_
      refine p_iload_n (q := 2) X dL_isWell_44 rfl rfl ?_
      refine p_aload_n (q := 6) X dL_isWell_45 rfl rfl ?_
      refine p_iload (q := 1) X dL_isWell_46 rfl ?_
      refine p_iconst (v := (nI 1)) X dL_isWell_48 (by decide) ?_
      refine p_o (As := [.int (nI i), .int (nI 1)]) X (q_corner l z K Po (nI i) (nI 1)) (cwV 2 X.1.2.2.2.2 gL_isWell_X1_corner rfl rfl rfl (by decide +kernel) ⟨Nat.le_of_ble_eq_true rfl, Nat.le_of_ble_eq_true rfl⟩) rfl rfl (Nat.le_of_ble_eq_true rfl) dL_isWell_49 ?_
      rw [R_cor1 hi12, eq0]
      refine p_iadd (v := (ow + (nI q0))) X dL_isWell_52 rfl ?_
      refine p_istore_n (lv' := [(1, .int (ow + (nI q0))), (10, .int (-6)), (9, .int (nI i)), (2, .int po), (3, .int (nI nd)), (4, .int go), (0, .ref (ad 10 0)), (5, .int (nI 0)), (6, .int (nI 0)), (7, .int (nI K.1.2)), (8, .int (nI 1))]) X dL_isWell_53 rfl (by decide) rfl ?_
      refine p_iload_n (q := 3) X dL_isWell_54 rfl rfl ?_
      refine p_aload_n (q := 6) X dL_isWell_55 rfl rfl ?_
      refine p_iload (q := 2) X dL_isWell_56 rfl ?_
      refine p_iconst (v := (nI 2)) X dL_isWell_58 (by decide) ?_
      refine p_o (As := [.int (nI i), .int (nI 2)]) X (q_corner l z K Po (nI i) (nI 2)) (cwV 2 X.1.2.2.2.2 gL_isWell_X1_corner rfl rfl rfl (by decide +kernel) ⟨Nat.le_of_ble_eq_true rfl, Nat.le_of_ble_eq_true rfl⟩) rfl rfl (Nat.le_of_ble_eq_true rfl) dL_isWell_59 ?_
      rw [R_cor2 hi12]
      refine p_iadd (v := (po + (K.1.1 12 i))) X dL_isWell_62 rfl ?_
      refine p_istore_n (lv' := [(2, .int (po + (K.1.1 12 i))), (1, .int (ow + (nI q0))), (10, .int (-6)), (9, .int (nI i)), (3, .int (nI nd)), (4, .int go), (0, .ref (ad 10 0)), (5, .int (nI 0)), (6, .int (nI 0)), (7, .int (nI K.1.2)), (8, .int (nI 1))]) X dL_isWell_63 rfl (by decide) rfl ?_
      refine p_iload (q := 5) X dL_isWell_64 rfl ?_
      refine p_aload_n (q := 6) X dL_isWell_66 rfl rfl ?_
      refine p_iload (q := 3) X dL_isWell_67 rfl ?_
      refine p_iconst (v := (nI 4)) X dL_isWell_69 (by decide) ?_
      refine p_o (As := [.int (nI i), .int (nI 4)]) X (q_corner l z K Po (nI i) (nI 4)) (cwV 2 X.1.2.2.2.2 gL_isWell_X1_corner rfl rfl rfl (by decide +kernel) ⟨Nat.le_of_ble_eq_true rfl, Nat.le_of_ble_eq_true rfl⟩) rfl rfl (Nat.le_of_ble_eq_true rfl) dL_isWell_70 ?_
      rw [R_cor4 hi12]
      refine p_iadd (v := (go + (K.1.1 14 i))) X dL_isWell_73 rfl ?_
      refine p_istore (lv' := [(4, .int (go + (K.1.1 14 i))), (2, .int (po + (K.1.1 12 i))), (1, .int (ow + (nI q0))), (10, .int (-6)), (9, .int (nI i)), (3, .int (nI nd)), (0, .ref (ad 10 0)), (5, .int (nI 0)), (6, .int (nI 0)), (7, .int (nI K.1.2)), (8, .int (nI 1))]) X dL_isWell_74 (by decide) rfl ?_
      refine p_iload_n (q := 5) X dL_isWell_76 rfl rfl ?_
      refine p_iload (q := 3) X dL_isWell_77 rfl ?_
      refine p_if_lt (tgt := 86) X dL_isWell_79 (by decide) (fun c79 => ?_) (fun c79 => absurd (by decide) c79)
      refine p_iconst (v := (nI 0)) X dL_isWell_86 (by decide) ?_
      refine p_iadd (v := (nI (nd + 0))) X dL_isWell_87 (nI_add _ _) ?_
      refine p_istore_n (lv' := [(3, .int (nI (nd + 0))), (4, .int (go + (K.1.1 14 i))), (2, .int (po + (K.1.1 12 i))), (1, .int (ow + (nI q0))), (10, .int (-6)), (9, .int (nI i)), (0, .ref (ad 10 0)), (5, .int (nI 0)), (6, .int (nI 0)), (7, .int (nI K.1.2)), (8, .int (nI 1))]) X dL_isWell_88 rfl (by decide) rfl ?_
      refine p_iload (q := 10) X dL_isWell_89 rfl ?_
      refine p_if_eq (tgt := 195) X dL_isWell_91 (by decide) (fun c91 => absurd c91 (by decide)) (fun c91 => ?_)
      refine p_aload_n (q := 6) X dL_isWell_94 rfl rfl ?_
      refine p_iload (q := 5) X dL_isWell_95 rfl ?_
      refine p_iconst (v := (nI 1)) X dL_isWell_97 (by decide) ?_
      refine p_o (As := [.int (nI i), .int (nI 1)]) X (q_corner l z K Po (nI i) (nI 1)) (cwV 2 X.1.2.2.2.2 gL_isWell_X1_corner rfl rfl rfl (by decide +kernel) ⟨Nat.le_of_ble_eq_true rfl, Nat.le_of_ble_eq_true rfl⟩) rfl rfl (Nat.le_of_ble_eq_true rfl) dL_isWell_98 ?_
      rw [R_cor1 hi12, eq0]
      refine p_if_lt (tgt := 195) X dL_isWell_101 (by decide) (fun c101 => absurd c101 (nI_pos (by omega))) (fun c101 => ?_)
      refine p_iload (q := 4) X dL_isWell_104 rfl ?_
      refine p_if_lt (tgt := 113) X dL_isWell_106 (by decide) (fun c106 => ?_) (fun c106 => absurd (by decide) c106)
      refine p_iconst (v := (nI 0)) X dL_isWell_113 (by decide) ?_
      refine p_aload_n (q := 6) X dL_isWell_114 rfl rfl ?_
      refine p_iload (q := 5) X dL_isWell_115 rfl ?_
      refine p_iconst (v := (nI 3)) X dL_isWell_117 (by decide) ?_
      refine p_o (As := [.int (nI i), .int (nI 3)]) X (q_corner l z K Po (nI i) (nI 3)) (cwV 2 X.1.2.2.2.2 gL_isWell_X1_corner rfl rfl rfl (by decide +kernel) ⟨Nat.le_of_ble_eq_true rfl, Nat.le_of_ble_eq_true rfl⟩) rfl rfl (Nat.le_of_ble_eq_true rfl) dL_isWell_118 ?_
      rw [R_cor3 hi12, if_pos hb]
      refine p_if_lt (tgt := 128) X dL_isWell_121 (by decide) (fun c121 => ?_) (fun c121 => absurd (by decide) c121)
      refine p_iconst (v := (nI 0)) X dL_isWell_128 (by decide) ?_
      refine p_ncmp_ne (tgt := 195) X 0 0 dL_isWell_129 (by decide) rfl rfl (by omega) (by omega) (fun c129 => absurd c129 (by decide)) (fun c129 => ?_)
      refine p_iload (q := 4) X dL_isWell_132 rfl ?_
      refine p_if_lt (tgt := 191) X dL_isWell_134 (by decide) (fun c134 => ?_) (fun c134 => absurd (by decide) c134)
      refine p_iconst (v := (nI 1)) X dL_isWell_191 (by decide) ?_
      refine p_goto (tgt := 196) X dL_isWell_192 (by decide) ?_
      refine p_istore (lv' := [(8, .int (nI 1)), (3, .int (nI (nd + 0))), (4, .int (go + (K.1.1 14 i))), (2, .int (po + (K.1.1 12 i))), (1, .int (ow + (nI q0))), (10, .int (-6)), (9, .int (nI i)), (0, .ref (ad 10 0)), (5, .int (nI 0)), (6, .int (nI 0)), (7, .int (nI K.1.2))]) X dL_isWell_196 (by decide) rfl ?_
      refine p_iinc (q := 6) (v := (nI (i + 1))) (lv' := [(9, .int (nI (i + 1))), (8, .int (nI 1)), (3, .int (nI (nd + 0))), (4, .int (go + (K.1.1 14 i))), (2, .int (po + (K.1.1 12 i))), (1, .int (ow + (nI q0))), (10, .int (-6)), (0, .ref (ad 10 0)), (5, .int (nI 0)), (6, .int (nI 0)), (7, .int (nI K.1.2))]) X dL_isWell_198 rfl (nI_1 _) (by decide) rfl ?_
      refine p_goto (tgt := 28) X dL_isWell_201 (by decide) ?_
      refine p_lv (lv1 := [(9, .int (nI (i + 1))), (1, .int (ow + (nI q0))), (2, .int (po + (K.1.1 12 i))), (3, .int (nI (nd + 0))), (4, .int (go + (K.1.1 14 i))), (0, .ref (ad 10 0)), (5, .int (nI 0)), (6, .int (nI 0)), (7, .int (nI K.1.2)), (8, .int (nI 1))]) [0, 5, 4, 2, 3, 7, 8, 9, 10, 1] rfl ?_
      exact ih28 (i + 1) (ow + (nI q0)) (po + (K.1.1 12 i)) (nd + 0) (go + (K.1.1 14 i)) ⟨by omega, by rw [sm, how, eq0], by rw [sm, hpo], by rw [nb, if_pos hb]; omega, by rw [sm, hgo]⟩ (by omega)
    · skip
      obtain ⟨g0, hg0, eg0⟩ := hgd i hi12 (by rw [hb]; exact n6 (by omega))
      have h8 := hcz.un8 hn0 hi12 hb
      have hbb := nb_in hb 12 hi12
      refine p_aload_n (q := 5) X dL_isWell_35 rfl rfl ?_
      refine p_iload (q := 0) X dL_isWell_36 rfl ?_
      refine p_iconst (v := (nI 0)) X dL_isWell_38 (by decide) ?_
      refine p_o (As := [.int (nI i), .int (nI 0)]) X (q_corner l z K Po (nI i) (nI 0)) (cwV 2 X.1.2.2.2.2 gL_isWell_X1_corner rfl rfl rfl (by decide +kernel) ⟨Nat.le_of_ble_eq_true rfl, Nat.le_of_ble_eq_true rfl⟩) rfl rfl (Nat.le_of_ble_eq_true rfl) dL_isWell_39 ?_
      rw [R_cor0 hi12, hb]
      refine p_istore (lv' := [(10, .int (nI n0)), (9, .int (nI i)), (1, .int ow), (2, .int po), (3, .int (nI nd)), (4, .int go), (0, .ref (ad 10 0)), (5, .int (nI 0)), (6, .int (nI 0)), (7, .int (nI K.1.2)), (8, .int (nI 1))]) X dL_isWell_42 (by decide) rfl ?_
      refine p_iload_n (q := 2) X dL_isWell_44 rfl rfl ?_
      refine p_aload_n (q := 6) X dL_isWell_45 rfl rfl ?_
      refine p_iload (q := 1) X dL_isWell_46 rfl ?_
      refine p_iconst (v := (nI 1)) X dL_isWell_48 (by decide) ?_
      refine p_o (As := [.int (nI i), .int (nI 1)]) X (q_corner l z K Po (nI i) (nI 1)) (cwV 2 X.1.2.2.2.2 gL_isWell_X1_corner rfl rfl rfl (by decide +kernel) ⟨Nat.le_of_ble_eq_true rfl, Nat.le_of_ble_eq_true rfl⟩) rfl rfl (Nat.le_of_ble_eq_true rfl) dL_isWell_49 ?_
      rw [R_cor1 hi12, eq0]
      refine p_iadd (v := (ow + (nI q0))) X dL_isWell_52 rfl ?_
      refine p_istore_n (lv' := [(1, .int (ow + (nI q0))), (10, .int (nI n0)), (9, .int (nI i)), (2, .int po), (3, .int (nI nd)), (4, .int go), (0, .ref (ad 10 0)), (5, .int (nI 0)), (6, .int (nI 0)), (7, .int (nI K.1.2)), (8, .int (nI 1))]) X dL_isWell_53 rfl (by decide) rfl ?_
      refine p_iload_n (q := 3) X dL_isWell_54 rfl rfl ?_
      refine p_aload_n (q := 6) X dL_isWell_55 rfl rfl ?_
      refine p_iload (q := 2) X dL_isWell_56 rfl ?_
      refine p_iconst (v := (nI 2)) X dL_isWell_58 (by decide) ?_
      refine p_o (As := [.int (nI i), .int (nI 2)]) X (q_corner l z K Po (nI i) (nI 2)) (cwV 2 X.1.2.2.2.2 gL_isWell_X1_corner rfl rfl rfl (by decide +kernel) ⟨Nat.le_of_ble_eq_true rfl, Nat.le_of_ble_eq_true rfl⟩) rfl rfl (Nat.le_of_ble_eq_true rfl) dL_isWell_59 ?_
      rw [R_cor2 hi12]
      refine p_iadd (v := (po + (K.1.1 12 i))) X dL_isWell_62 rfl ?_
      refine p_istore_n (lv' := [(2, .int (po + (K.1.1 12 i))), (1, .int (ow + (nI q0))), (10, .int (nI n0)), (9, .int (nI i)), (3, .int (nI nd)), (4, .int go), (0, .ref (ad 10 0)), (5, .int (nI 0)), (6, .int (nI 0)), (7, .int (nI K.1.2)), (8, .int (nI 1))]) X dL_isWell_63 rfl (by decide) rfl ?_
      refine p_iload (q := 5) X dL_isWell_64 rfl ?_
      refine p_aload_n (q := 6) X dL_isWell_66 rfl rfl ?_
      refine p_iload (q := 3) X dL_isWell_67 rfl ?_
      refine p_iconst (v := (nI 4)) X dL_isWell_69 (by decide) ?_
      refine p_o (As := [.int (nI i), .int (nI 4)]) X (q_corner l z K Po (nI i) (nI 4)) (cwV 2 X.1.2.2.2.2 gL_isWell_X1_corner rfl rfl rfl (by decide +kernel) ⟨Nat.le_of_ble_eq_true rfl, Nat.le_of_ble_eq_true rfl⟩) rfl rfl (Nat.le_of_ble_eq_true rfl) dL_isWell_70 ?_
      rw [R_cor4 hi12]
      refine p_iadd (v := (go + (K.1.1 14 i))) X dL_isWell_73 rfl ?_
      refine p_istore (lv' := [(4, .int (go + (K.1.1 14 i))), (2, .int (po + (K.1.1 12 i))), (1, .int (ow + (nI q0))), (10, .int (nI n0)), (9, .int (nI i)), (3, .int (nI nd)), (0, .ref (ad 10 0)), (5, .int (nI 0)), (6, .int (nI 0)), (7, .int (nI K.1.2)), (8, .int (nI 1))]) X dL_isWell_74 (by decide) rfl ?_
      refine p_iload_n (q := 5) X dL_isWell_76 rfl rfl ?_
      refine p_iload (q := 3) X dL_isWell_77 rfl ?_
      refine p_if_lt (tgt := 86) X dL_isWell_79 (by decide) (fun c79 => absurd c79 (nI_pos (by omega))) (fun c79 => ?_)
      refine p_iconst (v := (nI 1)) X dL_isWell_82 (by decide) ?_
      refine p_goto (tgt := 87) X dL_isWell_83 (by decide) ?_
      refine p_iadd (v := (nI (nd + 1))) X dL_isWell_87 (nI_add _ _) ?_
      refine p_istore_n (lv' := [(3, .int (nI (nd + 1))), (4, .int (go + (K.1.1 14 i))), (2, .int (po + (K.1.1 12 i))), (1, .int (ow + (nI q0))), (10, .int (nI n0)), (9, .int (nI i)), (0, .ref (ad 10 0)), (5, .int (nI 0)), (6, .int (nI 0)), (7, .int (nI K.1.2)), (8, .int (nI 1))]) X dL_isWell_88 rfl (by decide) rfl ?_
      refine p_iload (q := 10) X dL_isWell_89 rfl ?_
      refine p_if_eq (tgt := 195) X dL_isWell_91 (by decide) (fun c91 => absurd c91 (by decide)) (fun c91 => ?_)
      refine p_aload_n (q := 6) X dL_isWell_94 rfl rfl ?_
      refine p_iload (q := 5) X dL_isWell_95 rfl ?_
      refine p_iconst (v := (nI 1)) X dL_isWell_97 (by decide) ?_
      refine p_o (As := [.int (nI i), .int (nI 1)]) X (q_corner l z K Po (nI i) (nI 1)) (cwV 2 X.1.2.2.2.2 gL_isWell_X1_corner rfl rfl rfl (by decide +kernel) ⟨Nat.le_of_ble_eq_true rfl, Nat.le_of_ble_eq_true rfl⟩) rfl rfl (Nat.le_of_ble_eq_true rfl) dL_isWell_98 ?_
      rw [R_cor1 hi12, eq0]
      refine p_if_lt (tgt := 195) X dL_isWell_101 (by decide) (fun c101 => absurd c101 (nI_pos (by omega))) (fun c101 => ?_)
      refine p_iload (q := 4) X dL_isWell_104 rfl ?_
      refine p_if_lt (tgt := 113) X dL_isWell_106 (by decide) (fun c106 => absurd c106 (nI_pos (by omega))) (fun c106 => ?_)
      refine p_iconst (v := (nI 1)) X dL_isWell_109 (by decide) ?_
      refine p_goto (tgt := 114) X dL_isWell_110 (by decide) ?_
      refine p_aload_n (q := 6) X dL_isWell_114 rfl rfl ?_
      refine p_iload (q := 5) X dL_isWell_115 rfl ?_
      refine p_iconst (v := (nI 3)) X dL_isWell_117 (by decide) ?_
      refine p_o (As := [.int (nI i), .int (nI 3)]) X (q_corner l z K Po (nI i) (nI 3)) (cwV 2 X.1.2.2.2.2 gL_isWell_X1_corner rfl rfl rfl (by decide +kernel) ⟨Nat.le_of_ble_eq_true rfl, Nat.le_of_ble_eq_true rfl⟩) rfl rfl (Nat.le_of_ble_eq_true rfl) dL_isWell_118 ?_
      rw [R_cor3 hi12, if_neg (by rw [hb]; exact n6 (by omega)), eg0]
      refine p_if_lt (tgt := 128) X dL_isWell_121 (by decide) (fun c121 => absurd c121 (nI_pos (by omega))) (fun c121 => ?_)
      refine p_iconst (v := (nI 1)) X dL_isWell_124 (by decide) ?_
      refine p_goto (tgt := 129) X dL_isWell_125 (by decide) ?_
      refine p_ncmp_ne (tgt := 195) X 1 1 dL_isWell_129 (by decide) rfl rfl (by omega) (by omega) (fun c129 => absurd c129 (by decide)) (fun c129 => ?_)
      refine p_iload (q := 4) X dL_isWell_132 rfl ?_
      refine p_if_lt (tgt := 191) X dL_isWell_134 (by decide) (fun c134 => absurd c134 (nI_pos (by omega))) (fun c134 => ?_)
      refine p_aload_n (q := 6) X dL_isWell_137 rfl rfl ?_
      refine p_iload (q := 4) X dL_isWell_138 rfl ?_
      refine p_iconst (v := (nI 2)) X dL_isWell_140 (by decide) ?_
      refine p_o (As := [.int (nI n0), .int (nI 2)]) X (q_name l z K Po (nI n0) (nI 2)) (cwV 2 X.1.2.2.2.2 gL_isWell_X1_name rfl rfl rfl (by decide +kernel) ⟨Nat.le_of_ble_eq_true rfl, Nat.le_of_ble_eq_true rfl⟩) rfl rfl (Nat.le_of_ble_eq_true rfl) dL_isWell_141 ?_
      rw [R_nam2 hcz hn0]
      refine p_iload (q := 5) X dL_isWell_144 rfl ?_
      refine p_ishr (v := ((bm K.1.1 (nI n0) 12) >>> ((nI i) &&& 31))) X dL_isWell_146 rfl ?_
      refine p_iconst (v := (nI 1)) X dL_isWell_147 (by decide) ?_
      refine p_iand (v := (nI 1)) X dL_isWell_148 (by rw [bm_sh hi12, if_pos hb]) ?_
      refine p_iconst (v := (nI 1)) X dL_isWell_149 (by decide) ?_
      refine p_ncmp_ne (tgt := 195) X 1 1 dL_isWell_150 (by decide) rfl rfl (by omega) (by omega) (fun c150 => absurd c150 (by decide)) (fun c150 => ?_)
      refine p_aload_n (q := 6) X dL_isWell_153 rfl rfl ?_
      refine p_iload (q := 4) X dL_isWell_154 rfl ?_
      refine p_iconst (v := (nI 1)) X dL_isWell_156 (by decide) ?_
      refine p_o (As := [.int (nI n0), .int (nI 1)]) X (q_name l z K Po (nI n0) (nI 1)) (cwV 2 X.1.2.2.2.2 gL_isWell_X1_name rfl rfl rfl (by decide +kernel) ⟨Nat.le_of_ble_eq_true rfl, Nat.le_of_ble_eq_true rfl⟩) rfl rfl (Nat.le_of_ble_eq_true rfl) dL_isWell_157 ?_
      rw [R_nam1 hcz hn0, wh_n1 h8 hbb]
      refine p_iconst (v := (nI 1)) X dL_isWell_160 (by decide) ?_
      refine p_ncmp_ne (tgt := 195) X 1 1 dL_isWell_161 (by decide) rfl rfl (by omega) (by omega) (fun c161 => absurd c161 (by decide)) (fun c161 => ?_)
      refine p_aload_n (q := 6) X dL_isWell_164 rfl rfl ?_
      refine p_iload (q := 4) X dL_isWell_165 rfl ?_
      refine p_iload (q := 5) X dL_isWell_167 rfl ?_
      refine p_o (As := [.int (nI n0), .int (nI i)]) X (q_why l z K Po (nI n0) (nI i)) (cwV 2 X.1.2.2.2.2 gL_isWell_X1_why rfl rfl rfl (by decide +kernel) ⟨Nat.le_of_ble_eq_true rfl, Nat.le_of_ble_eq_true rfl⟩) rfl rfl (Nat.le_of_ble_eq_true rfl) dL_isWell_169 ?_
      rw [R_why hcz hn0 hi12, rsn_2 h8 hb]
      refine p_iconst (v := (nI 2)) X dL_isWell_172 (by decide) ?_
      refine p_ncmp_ne (tgt := 195) X 2 2 dL_isWell_173 (by decide) rfl rfl (by omega) (by omega) (fun c173 => absurd c173 (by decide)) (fun c173 => ?_)
      refine p_aload_n (q := 6) X dL_isWell_176 rfl rfl ?_
      refine p_iload (q := 5) X dL_isWell_177 rfl ?_
      refine p_iconst (v := (nI 3)) X dL_isWell_179 (by decide) ?_
      refine p_o (As := [.int (nI i), .int (nI 3)]) X (q_corner l z K Po (nI i) (nI 3)) (cwV 2 X.1.2.2.2.2 gL_isWell_X1_corner rfl rfl rfl (by decide +kernel) ⟨Nat.le_of_ble_eq_true rfl, Nat.le_of_ble_eq_true rfl⟩) rfl rfl (Nat.le_of_ble_eq_true rfl) dL_isWell_180 ?_
      rw [R_cor3 hi12, if_neg (by rw [hb]; exact n6 (by omega)), eg0]
      refine p_aload_n (q := 6) X dL_isWell_183 rfl rfl ?_
      refine p_iconst (v := (nI 4)) X dL_isWell_184 (by decide) ?_
      refine p_o (As := [.int (nI 4)]) X (q_count l z K Po 4 (by decide)) (cwV 1 X.1.2.2.2.2 gL_isWell_X1_count rfl rfl rfl (by decide +kernel) ⟨Nat.le_of_ble_eq_true rfl, Nat.le_of_ble_eq_true rfl⟩) rfl rfl (Nat.le_of_ble_eq_true rfl) dL_isWell_185 ?_
      rw [R_cnt4, edd]
      refine p_ncmp_gt (tgt := 195) X g0 dd dL_isWell_188 (by decide) rfl rfl (by omega) (by omega) (fun c188 => absurd c188 (by omega)) (fun c188 => ?_)
      refine p_iconst (v := (nI 1)) X dL_isWell_191 (by decide) ?_
      refine p_goto (tgt := 196) X dL_isWell_192 (by decide) ?_
      refine p_istore (lv' := [(8, .int (nI 1)), (3, .int (nI (nd + 1))), (4, .int (go + (K.1.1 14 i))), (2, .int (po + (K.1.1 12 i))), (1, .int (ow + (nI q0))), (10, .int (nI n0)), (9, .int (nI i)), (0, .ref (ad 10 0)), (5, .int (nI 0)), (6, .int (nI 0)), (7, .int (nI K.1.2))]) X dL_isWell_196 (by decide) rfl ?_
      refine p_iinc (q := 6) (v := (nI (i + 1))) (lv' := [(9, .int (nI (i + 1))), (8, .int (nI 1)), (3, .int (nI (nd + 1))), (4, .int (go + (K.1.1 14 i))), (2, .int (po + (K.1.1 12 i))), (1, .int (ow + (nI q0))), (10, .int (nI n0)), (0, .ref (ad 10 0)), (5, .int (nI 0)), (6, .int (nI 0)), (7, .int (nI K.1.2))]) X dL_isWell_198 rfl (nI_1 _) (by decide) rfl ?_
      refine p_goto (tgt := 28) X dL_isWell_201 (by decide) ?_
      refine p_lv (lv1 := [(9, .int (nI (i + 1))), (1, .int (ow + (nI q0))), (2, .int (po + (K.1.1 12 i))), (3, .int (nI (nd + 1))), (4, .int (go + (K.1.1 14 i))), (0, .ref (ad 10 0)), (5, .int (nI 0)), (6, .int (nI 0)), (7, .int (nI K.1.2)), (8, .int (nI 1))]) [0, 5, 4, 2, 3, 7, 8, 9, 10, 1] rfl ?_
      exact ih28 (i + 1) (ow + (nI q0)) (po + (K.1.1 12 i)) (nd + 1) (go + (K.1.1 14 i)) ⟨by omega, by rw [sm, how, eq0], by rw [sm, hpo], by rw [nb, if_neg (by rw [hb]; exact n6 (by omega))]; omega, by rw [sm, hgo]⟩ (by omega)
