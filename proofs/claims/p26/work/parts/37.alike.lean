set_option maxHeartbeats 4000000 in
set_option maxRecDepth 100000 in
theorem kL_areAlike (l : Launch) (D : va_G) (ad bd : Nat → Nat → Nat) (cs : Nat → ClassId) (A B : Nat → Prop) (z : Nat → Nat) (K : KS) (Po Pp : PS) (x : Int32) : KP l D ad bd cs A B z yL_areAlike wsL_areAlike (rm 7 162) [.ref (ad 10 0), .ref (bd 10 0), .int x] ((K, Po), (K, Pp)) (fun r μ1 => r = 1 ∧ True) := by
  refine KP_of (cc := cL_areAlike) (maxL := 7) (ret := (some .boolean)) (by decide) rfl (Nat.le_of_ble_eq_true rfl) ?_
  intro p e s m args below meth c hr hlk X
  show P2 p l e _ s m args below meth c 0 0 _ 7 D ad bd cs A B 0 [(0, .ref (ad 10 0)), (1, .ref (bd 10 0)), (2, .int x)] [] ((K, Po), (K, Pp))
  refine p_ok (fun hoo hpp => ?_)
  have hcz : CZ K.1.1 K.1.2 := hoo.1.1
  have hN20 := hcz.le
  refine p_iconst (v := (nI 1)) X dL_areAlike_0 (by decide) ?_
  refine p_iload_n (q := 2) X dL_areAlike_1 rfl rfl ?_
  refine p_sipush (v := (nI 300)) X dL_areAlike_2 (by decide) ?_
  refine p_callS (As := [.int x, .int (nI 300)]) X (kL_up l D ad bd cs A B z x 300 (by omega) (by omega) ((K, Po), (K, Pp))) (va_cwS 2 X.1.2.2.2.2 gL_areAlike_L_up rfl rfl rfl (by decide +kernel) ⟨Nat.le_of_ble_eq_true rfl, Nat.le_of_ble_eq_true rfl⟩) rfl rfl (Nat.le_of_ble_eq_true rfl) dL_areAlike_5 (fun r5 m5 h5 => ?_)
  obtain ⟨h5, e5⟩ := h5
  have e5 := e5.symm
  subst e5
  subst h5
  have hu5 := uq_lt x (n := 300) (by omega)
  refine p_iadd (v := (nI (1 + (uq x 300)))) X dL_areAlike_8 (nI_add _ _) ?_
  refine p_istore_n (lv' := [(3, .int (nI (1 + (uq x 300)))), (0, .ref (ad 10 0)), (1, .ref (bd 10 0)), (2, .int x)]) X dL_areAlike_9 rfl (by decide) rfl ?_
  refine p_aload_n (q := 1) X dL_areAlike_10 rfl rfl ?_
  refine p_o (As := []) X (q_untilPosted l z K Po ) (cwV 0 X.1.2.2.2.2 gL_areAlike_X1_untilPosted rfl rfl rfl (by decide +kernel) ⟨Nat.le_of_ble_eq_true rfl, Nat.le_of_ble_eq_true rfl⟩) rfl rfl (Nat.le_of_ble_eq_true rfl) dL_areAlike_11 ?_
  refine p_aload_n (q := 2) X dL_areAlike_14 rfl rfl ?_
  refine p_p (As := []) X (q_untilPosted l z K Pp ) (cwV 0 X.1.2.2.2.2 gL_areAlike_X1_untilPosted rfl rfl rfl (by decide +kernel) ⟨Nat.le_of_ble_eq_true rfl, Nat.le_of_ble_eq_true rfl⟩) rfl rfl (Nat.le_of_ble_eq_true rfl) dL_areAlike_15 ?_
  refine p_icmp_ne (tgt := 25) X dL_areAlike_18 (by decide) (fun c18 => absurd rfl c18) (fun c18 => ?_)
  refine p_iconst (v := (nI 1)) X dL_areAlike_21 (by decide) ?_
  refine p_goto (tgt := 26) X dL_areAlike_22 (by decide) ?_
  refine p_istore (lv' := [(4, .int (nI 1)), (3, .int (nI (1 + (uq x 300)))), (0, .ref (ad 10 0)), (1, .ref (bd 10 0)), (2, .int x)]) X dL_areAlike_26 (by decide) rfl ?_
  refine p_iconst (v := (nI 0)) X dL_areAlike_28 (by decide) ?_
  refine p_istore (lv' := [(5, .int (nI 0)), (4, .int (nI 1)), (3, .int (nI (1 + (uq x 300)))), (0, .ref (ad 10 0)), (1, .ref (bd 10 0)), (2, .int x)]) X dL_areAlike_29 (by decide) rfl ?_
  refine p_lv (lv1 := [(5, .int (nI 0)), (0, .ref (ad 10 0)), (1, .ref (bd 10 0)), (2, .int x), (3, .int (nI (1 + (uq x 300)))), (4, .int (nI 1))]) [0, 3, 4, 5, 2, 1] rfl ?_
  refine loop1 (G := P2 p l e _ s m args below meth c 0 0 _ _ D ad bd cs A B) (pc := 31) (fun (i : Nat) => [(5, .int (nI i)), (0, .ref (ad 10 0)), (1, .ref (bd 10 0)), (2, .int x), (3, .int (nI (1 + (uq x 300)))), (4, .int (nI 1))]) (fun (i : Nat) => ((K, Po), (K, Pp))) (fun (i : Nat) => i ≤ 13) (fun (i : Nat) => 13 - i) ?_ 0 (by omega)
  intro i hI31 ih31
  try dsimp only at ih31 ⊢
  refine p_iload (q := 0) X dL_areAlike_31 rfl ?_
  refine p_bipush (v := (nI 13)) X dL_areAlike_33 (by decide) ?_
  refine p_ncmp_ge (tgt := 94) X i 13 dL_areAlike_35 (by decide) rfl rfl (by omega) (by omega) (fun c35 => ?_) (fun c35 => ?_)
  · skip
    refine p_iconst (v := (nI 0)) X dL_areAlike_94 (by decide) ?_
    refine p_istore (lv' := [(5, .int (nI 0)), (0, .ref (ad 10 0)), (1, .ref (bd 10 0)), (2, .int x), (3, .int (nI (1 + (uq x 300)))), (4, .int (nI 1))]) X dL_areAlike_95 (by decide) rfl ?_
    refine loop1 (G := P2 p l e _ s m args below meth c 0 0 _ _ D ad bd cs A B) (pc := 97) (fun (k : Nat) => [(5, .int (nI k)), (0, .ref (ad 10 0)), (1, .ref (bd 10 0)), (2, .int x), (3, .int (nI (1 + (uq x 300)))), (4, .int (nI 1))]) (fun (k : Nat) => ((K, Po), (K, Pp))) (fun (k : Nat) => k ≤ K.1.2) (fun (k : Nat) => K.1.2 - k) ?_ 0 (by omega)
    intro k hI97 ih97
    try dsimp only at ih97 ⊢
    refine p_iload (q := 0) X dL_areAlike_97 rfl ?_
    refine p_aload_n (q := 1) X dL_areAlike_99 rfl rfl ?_
    refine p_iconst (v := (nI 5)) X dL_areAlike_100 (by decide) ?_
    refine p_o (As := [.int (nI 5)]) X (q_count l z K Po 5 (by decide)) (cwV 1 X.1.2.2.2.2 gL_areAlike_X1_count rfl rfl rfl (by decide +kernel) ⟨Nat.le_of_ble_eq_true rfl, Nat.le_of_ble_eq_true rfl⟩) rfl rfl (Nat.le_of_ble_eq_true rfl) dL_areAlike_101 ?_
    rw [R_cnt5]
    refine p_ncmp_ge (tgt := 220) X k K.1.2 dL_areAlike_104 (by decide) rfl rfl (by omega) (by omega) (fun c104 => ?_) (fun c104 => ?_)
    · skip
      refine p_iconst (v := (nI 0)) X dL_areAlike_220 (by decide) ?_
      refine p_istore (lv' := [(5, .int (nI 0)), (0, .ref (ad 10 0)), (1, .ref (bd 10 0)), (2, .int x), (3, .int (nI (1 + (uq x 300)))), (4, .int (nI 1))]) X dL_areAlike_221 (by decide) rfl ?_
      refine loop1 (G := P2 p l e _ s m args below meth c 0 0 _ _ D ad bd cs A B) (pc := 223) (fun (k : Nat) => [(5, .int (nI k)), (0, .ref (ad 10 0)), (1, .ref (bd 10 0)), (2, .int x), (3, .int (nI (1 + (uq x 300)))), (4, .int (nI 1))]) (fun (k : Nat) => ((K, Po), (K, Pp))) (fun (k : Nat) => k ≤ 72) (fun (k : Nat) => 72 - k) ?_ 0 (by omega)
      intro k hI223 ih223
      try dsimp only at ih223 ⊢
      refine p_iload (q := 0) X dL_areAlike_223 rfl ?_
      refine p_bipush (v := (nI 72)) X dL_areAlike_225 (by decide) ?_
      refine p_ncmp_ge (tgt := 279) X k 72 dL_areAlike_227 (by decide) rfl rfl (by omega) (by omega) (fun c227 => ?_) (fun c227 => ?_)
      · skip
        refine p_iload_n (q := 3) X dL_areAlike_279 rfl rfl ?_
        refine p_iconst (v := (nI 5)) X dL_areAlike_280 (by decide) ?_
        refine p_ishr (v := (x >>> ((nI 5) &&& 31))) X dL_areAlike_281 rfl ?_
        refine p_aload_n (q := 1) X dL_areAlike_282 rfl rfl ?_
        refine p_iconst (v := (nI 5)) X dL_areAlike_283 (by decide) ?_
        refine p_o (As := [.int (nI 5)]) X (q_count l z K Po 5 (by decide)) (cwV 1 X.1.2.2.2.2 gL_areAlike_X1_count rfl rfl rfl (by decide +kernel) ⟨Nat.le_of_ble_eq_true rfl, Nat.le_of_ble_eq_true rfl⟩) rfl rfl (Nat.le_of_ble_eq_true rfl) dL_areAlike_284 ?_
        rw [R_cnt5]
        refine p_iconst (v := (nI 1)) X dL_areAlike_287 (by decide) ?_
        refine p_iadd (v := (nI (K.1.2 + 1))) X dL_areAlike_288 (nI_add _ _) ?_
        refine p_callS (As := [.int (x >>> ((nI 5) &&& 31)), .int (nI (K.1.2 + 1))]) X (kL_up l D ad bd cs A B z (x >>> ((nI 5) &&& 31)) (K.1.2 + 1) (by omega) (by omega) ((K, Po), (K, Pp))) (va_cwS 2 X.1.2.2.2.2 gL_areAlike_L_up rfl rfl rfl (by decide +kernel) ⟨Nat.le_of_ble_eq_true rfl, Nat.le_of_ble_eq_true rfl⟩) rfl rfl (Nat.le_of_ble_eq_true rfl) dL_areAlike_289 (fun r289 m289 h289 => ?_)
        obtain ⟨h289, e289⟩ := h289
        have e289 := e289.symm
        subst e289
        subst h289
        have hu289 := uq_lt (x >>> ((nI 5) &&& 31)) (n := K.1.2 + 1) (by omega)
        refine p_istore (lv' := [(5, .int (nI (uq (x >>> ((nI 5) &&& 31)) (K.1.2 + 1)))), (0, .ref (ad 10 0)), (1, .ref (bd 10 0)), (2, .int x), (3, .int (nI (1 + (uq x 300)))), (4, .int (nI 1))]) X dL_areAlike_292 (by decide) rfl ?_
        refine p_iload (q := 5) X dL_areAlike_294 rfl ?_
        refine p_if_eq (tgt := 318) X dL_areAlike_296 (by decide) (fun c296 => absurd c296 (by decide)) (fun c296 => ?_)
        refine p_aload_n (q := 1) X dL_areAlike_299 rfl rfl ?_
        refine p_iload (q := 0) X dL_areAlike_300 rfl ?_
        refine p_o (As := [.int (nI (uq (x >>> ((nI 5) &&& 31)) (K.1.2 + 1)))]) X (q_untilBorne l z K Po (nI (uq (x >>> ((nI 5) &&& 31)) (K.1.2 + 1)))) (cwV 1 X.1.2.2.2.2 gL_areAlike_X1_untilBorne rfl rfl rfl (by decide +kernel) ⟨Nat.le_of_ble_eq_true rfl, Nat.le_of_ble_eq_true rfl⟩) rfl rfl (Nat.le_of_ble_eq_true rfl) dL_areAlike_302 ?_
        refine p_aload_n (q := 2) X dL_areAlike_305 rfl rfl ?_
        refine p_iload (q := 0) X dL_areAlike_306 rfl ?_
        refine p_p (As := [.int (nI (uq (x >>> ((nI 5) &&& 31)) (K.1.2 + 1)))]) X (q_untilBorne l z K Pp (nI (uq (x >>> ((nI 5) &&& 31)) (K.1.2 + 1)))) (cwV 1 X.1.2.2.2.2 gL_areAlike_X1_untilBorne rfl rfl rfl (by decide +kernel) ⟨Nat.le_of_ble_eq_true rfl, Nat.le_of_ble_eq_true rfl⟩) rfl rfl (Nat.le_of_ble_eq_true rfl) dL_areAlike_308 ?_
        refine p_icmp_ne (tgt := 318) X dL_areAlike_311 (by decide) (fun c311 => absurd rfl c311) (fun c311 => ?_)
        refine p_iconst (v := (nI 1)) X dL_areAlike_314 (by decide) ?_
        refine p_goto (tgt := 319) X dL_areAlike_315 (by decide) ?_
        exact p_zret X hr hlk (by first | exact Or.inl rfl | exact Or.inr rfl) ⟨rfl, trivial⟩ dL_areAlike_319
      · skip
        refine p_iload (q := 5) X dL_areAlike_230 rfl ?_
        refine p_if_eq (tgt := 270) X dL_areAlike_232 (by decide) (fun c232 => absurd c232 (by decide)) (fun c232 => ?_)
        refine p_aload_n (q := 1) X dL_areAlike_235 rfl rfl ?_
        refine p_iload (q := 0) X dL_areAlike_236 rfl ?_
        refine p_bipush (v := (nI 6)) X dL_areAlike_238 (by decide) ?_
        refine p_idiv (v := (nI (k / 6))) X dL_areAlike_240 (by decide) (pk_div (by omega) (by decide) (by decide)) ?_
        refine p_iload (q := 0) X dL_areAlike_241 rfl ?_
        refine p_bipush (v := (nI 6)) X dL_areAlike_243 (by decide) ?_
        refine p_irem (v := (nI (k % 6))) X dL_areAlike_245 (by decide) (pk_rem (by omega) (by decide) (by decide)) ?_
        refine p_o (As := [.int (nI (k / 6)), .int (nI (k % 6))]) X (q_corner l z K Po (nI (k / 6)) (nI (k % 6))) (cwV 2 X.1.2.2.2.2 gL_areAlike_X1_corner rfl rfl rfl (by decide +kernel) ⟨Nat.le_of_ble_eq_true rfl, Nat.le_of_ble_eq_true rfl⟩) rfl rfl (Nat.le_of_ble_eq_true rfl) dL_areAlike_246 ?_
        refine p_aload_n (q := 2) X dL_areAlike_249 rfl rfl ?_
        refine p_iload (q := 0) X dL_areAlike_250 rfl ?_
        refine p_bipush (v := (nI 6)) X dL_areAlike_252 (by decide) ?_
        refine p_idiv (v := (nI (k / 6))) X dL_areAlike_254 (by decide) (pk_div (by omega) (by decide) (by decide)) ?_
        refine p_iload (q := 0) X dL_areAlike_255 rfl ?_
        refine p_bipush (v := (nI 6)) X dL_areAlike_257 (by decide) ?_
        refine p_irem (v := (nI (k % 6))) X dL_areAlike_259 (by decide) (pk_rem (by omega) (by decide) (by decide)) ?_
        refine p_p (As := [.int (nI (k / 6)), .int (nI (k % 6))]) X (q_corner l z K Pp (nI (k / 6)) (nI (k % 6))) (cwV 2 X.1.2.2.2.2 gL_areAlike_X1_corner rfl rfl rfl (by decide +kernel) ⟨Nat.le_of_ble_eq_true rfl, Nat.le_of_ble_eq_true rfl⟩) rfl rfl (Nat.le_of_ble_eq_true rfl) dL_areAlike_260 ?_
        refine p_icmp_ne (tgt := 270) X dL_areAlike_263 (by decide) (fun c263 => absurd rfl c263) (fun c263 => ?_)
        refine p_iconst (v := (nI 1)) X dL_areAlike_266 (by decide) ?_
        refine p_goto (tgt := 271) X dL_areAlike_267 (by decide) ?_
        refine p_istore (lv' := [(4, .int (nI 1)), (5, .int (nI k)), (0, .ref (ad 10 0)), (1, .ref (bd 10 0)), (2, .int x), (3, .int (nI (1 + (uq x 300))))]) X dL_areAlike_271 (by decide) rfl ?_
        refine p_iinc (q := 1) (v := (nI (k + 1))) (lv' := [(5, .int (nI (k + 1))), (4, .int (nI 1)), (0, .ref (ad 10 0)), (1, .ref (bd 10 0)), (2, .int x), (3, .int (nI (1 + (uq x 300))))]) X dL_areAlike_273 rfl (nI_1 _) (by decide) rfl ?_
        refine p_goto (tgt := 223) X dL_areAlike_276 (by decide) ?_
        refine p_lv (lv1 := [(5, .int (nI (k + 1))), (0, .ref (ad 10 0)), (1, .ref (bd 10 0)), (2, .int x), (3, .int (nI (1 + (uq x 300)))), (4, .int (nI 1))]) [0, 2, 3, 4, 5, 1] rfl ?_
        exact ih223 (k + 1) (by omega) (by omega)
    · skip
      refine p_iconst (v := (nI 0)) X dL_areAlike_107 (by decide) ?_
      refine p_istore (lv' := [(6, .int (nI 0)), (5, .int (nI k)), (0, .ref (ad 10 0)), (1, .ref (bd 10 0)), (2, .int x), (3, .int (nI (1 + (uq x 300)))), (4, .int (nI 1))]) X dL_areAlike_108 (by decide) rfl ?_
      refine p_lv (lv1 := [(6, .int (nI 0)), (0, .ref (ad 10 0)), (1, .ref (bd 10 0)), (2, .int x), (3, .int (nI (1 + (uq x 300)))), (4, .int (nI 1)), (5, .int (nI k))]) [0, 2, 3, 4, 5, 6, 1] rfl ?_
      refine loop1 (G := P2 p l e _ s m args below meth c 0 0 _ _ D ad bd cs A B) (pc := 110) (fun (w : Nat) => [(6, .int (nI w)), (0, .ref (ad 10 0)), (1, .ref (bd 10 0)), (2, .int x), (3, .int (nI (1 + (uq x 300)))), (4, .int (nI 1)), (5, .int (nI k))]) (fun (w : Nat) => ((K, Po), (K, Pp))) (fun (w : Nat) => w ≤ 7) (fun (w : Nat) => 7 - w) ?_ 0 (by omega)
      intro w hI110 ih110
      try dsimp only at ih110 ⊢
      refine p_iload (q := 0) X dL_areAlike_110 rfl ?_
      refine p_bipush (v := (nI 7)) X dL_areAlike_112 (by decide) ?_
      refine p_ncmp_ge (tgt := 154) X w 7 dL_areAlike_114 (by decide) rfl rfl (by omega) (by omega) (fun c114 => ?_) (fun c114 => ?_)
      · skip
        refine p_iload (q := 5) X dL_areAlike_154 rfl ?_
        refine p_if_eq (tgt := 211) X dL_areAlike_156 (by decide) (fun c156 => absurd c156 (by decide)) (fun c156 => ?_)
        refine p_aload_n (q := 1) X dL_areAlike_159 rfl rfl ?_
        refine p_iload (q := 6) X dL_areAlike_160 rfl ?_
        refine p_o (As := [.int (nI k)]) X (q_bestCorner l z K Po (nI k)) (cwV 1 X.1.2.2.2.2 gL_areAlike_X1_bestCorner rfl rfl rfl (by decide +kernel) ⟨Nat.le_of_ble_eq_true rfl, Nat.le_of_ble_eq_true rfl⟩) rfl rfl (Nat.le_of_ble_eq_true rfl) dL_areAlike_162 ?_
        refine p_aload_n (q := 2) X dL_areAlike_165 rfl rfl ?_
        refine p_iload (q := 6) X dL_areAlike_166 rfl ?_
        refine p_p (As := [.int (nI k)]) X (q_bestCorner l z K Pp (nI k)) (cwV 1 X.1.2.2.2.2 gL_areAlike_X1_bestCorner rfl rfl rfl (by decide +kernel) ⟨Nat.le_of_ble_eq_true rfl, Nat.le_of_ble_eq_true rfl⟩) rfl rfl (Nat.le_of_ble_eq_true rfl) dL_areAlike_168 ?_
        refine p_icmp_ne (tgt := 211) X dL_areAlike_171 (by decide) (fun c171 => absurd rfl c171) (fun c171 => ?_)
        refine p_aload_n (q := 1) X dL_areAlike_174 rfl rfl ?_
        refine p_iload (q := 6) X dL_areAlike_175 rfl ?_
        refine p_iload_n (q := 3) X dL_areAlike_177 rfl rfl ?_
        refine p_iload (q := 6) X dL_areAlike_178 rfl ?_
        refine p_ishr (v := (x >>> ((nI k) &&& 31))) X dL_areAlike_180 rfl ?_
        refine p_bipush (v := (nI 12)) X dL_areAlike_181 (by decide) ?_
        refine p_callS (As := [.int (x >>> ((nI k) &&& 31)), .int (nI 12)]) X (kL_up l D ad bd cs A B z (x >>> ((nI k) &&& 31)) 12 (by omega) (by omega) ((K, Po), (K, Pp))) (va_cwS 2 X.1.2.2.2.2 gL_areAlike_L_up rfl rfl rfl (by decide +kernel) ⟨Nat.le_of_ble_eq_true rfl, Nat.le_of_ble_eq_true rfl⟩) rfl rfl (Nat.le_of_ble_eq_true rfl) dL_areAlike_183 (fun r183 m183 h183 => ?_)
        obtain ⟨h183, e183⟩ := h183
        have e183 := e183.symm
        subst e183
        subst h183
        have hu183 := uq_lt (x >>> ((nI k) &&& 31)) (n := 12) (by omega)
        refine p_o (As := [.int (nI k), .int (nI (uq (x >>> ((nI k) &&& 31)) 12))]) X (q_why l z K Po (nI k) (nI (uq (x >>> ((nI k) &&& 31)) 12))) (cwV 2 X.1.2.2.2.2 gL_areAlike_X1_why rfl rfl rfl (by decide +kernel) ⟨Nat.le_of_ble_eq_true rfl, Nat.le_of_ble_eq_true rfl⟩) rfl rfl (Nat.le_of_ble_eq_true rfl) dL_areAlike_186 ?_
        refine p_aload_n (q := 2) X dL_areAlike_189 rfl rfl ?_
        refine p_iload (q := 6) X dL_areAlike_190 rfl ?_
        refine p_iload_n (q := 3) X dL_areAlike_192 rfl rfl ?_
        refine p_iload (q := 6) X dL_areAlike_193 rfl ?_
        refine p_ishr (v := (x >>> ((nI k) &&& 31))) X dL_areAlike_195 rfl ?_
        refine p_bipush (v := (nI 12)) X dL_areAlike_196 (by decide) ?_
        refine p_callS (As := [.int (x >>> ((nI k) &&& 31)), .int (nI 12)]) X (kL_up l D ad bd cs A B z (x >>> ((nI k) &&& 31)) 12 (by omega) (by omega) ((K, Po), (K, Pp))) (va_cwS 2 X.1.2.2.2.2 gL_areAlike_L_up rfl rfl rfl (by decide +kernel) ⟨Nat.le_of_ble_eq_true rfl, Nat.le_of_ble_eq_true rfl⟩) rfl rfl (Nat.le_of_ble_eq_true rfl) dL_areAlike_198 (fun r198 m198 h198 => ?_)
        obtain ⟨h198, e198⟩ := h198
        have e198 := e198.symm
        subst e198
        subst h198
        have hu198 := uq_lt (x >>> ((nI k) &&& 31)) (n := 12) (by omega)
        refine p_p (As := [.int (nI k), .int (nI (uq (x >>> ((nI k) &&& 31)) 12))]) X (q_why l z K Pp (nI k) (nI (uq (x >>> ((nI k) &&& 31)) 12))) (cwV 2 X.1.2.2.2.2 gL_areAlike_X1_why rfl rfl rfl (by decide +kernel) ⟨Nat.le_of_ble_eq_true rfl, Nat.le_of_ble_eq_true rfl⟩) rfl rfl (Nat.le_of_ble_eq_true rfl) dL_areAlike_201 ?_
        refine p_icmp_ne (tgt := 211) X dL_areAlike_204 (by decide) (fun c204 => absurd rfl c204) (fun c204 => ?_)
        refine p_iconst (v := (nI 1)) X dL_areAlike_207 (by decide) ?_
        refine p_goto (tgt := 212) X dL_areAlike_208 (by decide) ?_
        refine p_istore (lv' := [(4, .int (nI 1)), (6, .int (nI w)), (0, .ref (ad 10 0)), (1, .ref (bd 10 0)), (2, .int x), (3, .int (nI (1 + (uq x 300)))), (5, .int (nI k))]) X dL_areAlike_212 (by decide) rfl ?_
        refine p_iinc (q := 6) (v := (nI (k + 1))) (lv' := [(5, .int (nI (k + 1))), (4, .int (nI 1)), (6, .int (nI w)), (0, .ref (ad 10 0)), (1, .ref (bd 10 0)), (2, .int x), (3, .int (nI (1 + (uq x 300))))]) X dL_areAlike_214 rfl (nI_1 _) (by decide) rfl ?_
        refine p_goto (tgt := 97) X dL_areAlike_217 (by decide) ?_
        refine p_lv (lv1 := [(5, .int (nI (k + 1))), (0, .ref (ad 10 0)), (1, .ref (bd 10 0)), (2, .int x), (3, .int (nI (1 + (uq x 300)))), (4, .int (nI 1))]) [0, 3, 4, 5, 6, 1] rfl ?_
        exact ih97 (k + 1) (by omega) (by omega)
      · skip
        refine p_iload (q := 5) X dL_areAlike_117 rfl ?_
        refine p_if_eq (tgt := 145) X dL_areAlike_119 (by decide) (fun c119 => absurd c119 (by decide)) (fun c119 => ?_)
        refine p_aload_n (q := 1) X dL_areAlike_122 rfl rfl ?_
        refine p_iload (q := 6) X dL_areAlike_123 rfl ?_
        refine p_iload (q := 0) X dL_areAlike_125 rfl ?_
        refine p_o (As := [.int (nI k), .int (nI w)]) X (q_name l z K Po (nI k) (nI w)) (cwV 2 X.1.2.2.2.2 gL_areAlike_X1_name rfl rfl rfl (by decide +kernel) ⟨Nat.le_of_ble_eq_true rfl, Nat.le_of_ble_eq_true rfl⟩) rfl rfl (Nat.le_of_ble_eq_true rfl) dL_areAlike_127 ?_
        refine p_aload_n (q := 2) X dL_areAlike_130 rfl rfl ?_
        refine p_iload (q := 6) X dL_areAlike_131 rfl ?_
        refine p_iload (q := 0) X dL_areAlike_133 rfl ?_
        refine p_p (As := [.int (nI k), .int (nI w)]) X (q_name l z K Pp (nI k) (nI w)) (cwV 2 X.1.2.2.2.2 gL_areAlike_X1_name rfl rfl rfl (by decide +kernel) ⟨Nat.le_of_ble_eq_true rfl, Nat.le_of_ble_eq_true rfl⟩) rfl rfl (Nat.le_of_ble_eq_true rfl) dL_areAlike_135 ?_
        refine p_icmp_ne (tgt := 145) X dL_areAlike_138 (by decide) (fun c138 => absurd rfl c138) (fun c138 => ?_)
        refine p_iconst (v := (nI 1)) X dL_areAlike_141 (by decide) ?_
        refine p_goto (tgt := 146) X dL_areAlike_142 (by decide) ?_
        refine p_istore (lv' := [(4, .int (nI 1)), (6, .int (nI w)), (0, .ref (ad 10 0)), (1, .ref (bd 10 0)), (2, .int x), (3, .int (nI (1 + (uq x 300)))), (5, .int (nI k))]) X dL_areAlike_146 (by decide) rfl ?_
        refine p_iinc (q := 1) (v := (nI (w + 1))) (lv' := [(6, .int (nI (w + 1))), (4, .int (nI 1)), (0, .ref (ad 10 0)), (1, .ref (bd 10 0)), (2, .int x), (3, .int (nI (1 + (uq x 300)))), (5, .int (nI k))]) X dL_areAlike_148 rfl (nI_1 _) (by decide) rfl ?_
        refine p_goto (tgt := 110) X dL_areAlike_151 (by decide) ?_
        refine p_lv (lv1 := [(6, .int (nI (w + 1))), (0, .ref (ad 10 0)), (1, .ref (bd 10 0)), (2, .int x), (3, .int (nI (1 + (uq x 300)))), (4, .int (nI 1)), (5, .int (nI k))]) [0, 2, 3, 4, 5, 1, 6] rfl ?_
        exact ih110 (w + 1) (by omega) (by omega)
  · skip
    refine p_iload (q := 5) X dL_areAlike_38 rfl ?_
    refine p_if_eq (tgt := 85) X dL_areAlike_40 (by decide) (fun c40 => absurd c40 (by decide)) (fun c40 => ?_)
    refine p_aload_n (q := 1) X dL_areAlike_43 rfl rfl ?_
    refine p_iload (q := 0) X dL_areAlike_44 rfl ?_
    refine p_o (As := [.int (nI i)]) X (q_count l z K Po i (by omega)) (cwV 1 X.1.2.2.2.2 gL_areAlike_X1_count rfl rfl rfl (by decide +kernel) ⟨Nat.le_of_ble_eq_true rfl, Nat.le_of_ble_eq_true rfl⟩) rfl rfl (Nat.le_of_ble_eq_true rfl) dL_areAlike_46 ?_
    refine p_aload_n (q := 2) X dL_areAlike_49 rfl rfl ?_
    refine p_iload (q := 0) X dL_areAlike_50 rfl ?_
    refine p_p (As := [.int (nI i)]) X (q_count l z K Pp i (by omega)) (cwV 1 X.1.2.2.2.2 gL_areAlike_X1_count rfl rfl rfl (by decide +kernel) ⟨Nat.le_of_ble_eq_true rfl, Nat.le_of_ble_eq_true rfl⟩) rfl rfl (Nat.le_of_ble_eq_true rfl) dL_areAlike_52 ?_
    refine p_icmp_ne (tgt := 85) X dL_areAlike_55 (by decide) (fun c55 => absurd rfl c55) (fun c55 => ?_)
    refine p_iload (q := 0) X dL_areAlike_58 rfl ?_
    refine p_iconst (v := (nI 2)) X dL_areAlike_60 (by decide) ?_
    refine p_ncmp_gt (tgt := 81) X i 2 dL_areAlike_61 (by decide) rfl rfl (by omega) (by omega) (fun c61 => ?_) (fun c61 => ?_)
    · skip
      refine p_iconst (v := (nI 1)) X dL_areAlike_81 (by decide) ?_
      refine p_goto (tgt := 86) X dL_areAlike_82 (by decide) ?_
      refine p_istore (lv' := [(4, .int (nI 1)), (5, .int (nI i)), (0, .ref (ad 10 0)), (1, .ref (bd 10 0)), (2, .int x), (3, .int (nI (1 + (uq x 300))))]) X dL_areAlike_86 (by decide) rfl ?_
      refine p_iinc (q := 1) (v := (nI (i + 1))) (lv' := [(5, .int (nI (i + 1))), (4, .int (nI 1)), (0, .ref (ad 10 0)), (1, .ref (bd 10 0)), (2, .int x), (3, .int (nI (1 + (uq x 300))))]) X dL_areAlike_88 rfl (nI_1 _) (by decide) rfl ?_
      refine p_goto (tgt := 31) X dL_areAlike_91 (by decide) ?_
      refine p_lv (lv1 := [(5, .int (nI (i + 1))), (0, .ref (ad 10 0)), (1, .ref (bd 10 0)), (2, .int x), (3, .int (nI (1 + (uq x 300)))), (4, .int (nI 1))]) [0, 2, 3, 4, 5, 1] rfl ?_
      exact ih31 (i + 1) (by omega) (by omega)
    · skip
      refine p_aload_n (q := 1) X dL_areAlike_64 rfl rfl ?_
      refine p_iload_n (q := 4) X dL_areAlike_65 rfl rfl ?_
      refine p_iload (q := 0) X dL_areAlike_66 rfl ?_
      refine p_o (As := [.int (nI (1 + (uq x 300))), .int (nI i)]) X (q_ifPassed l z K Po (nI (1 + (uq x 300))) (nI i)) (cwV 2 X.1.2.2.2.2 gL_areAlike_X1_ifPassed rfl rfl rfl (by decide +kernel) ⟨Nat.le_of_ble_eq_true rfl, Nat.le_of_ble_eq_true rfl⟩) rfl rfl (Nat.le_of_ble_eq_true rfl) dL_areAlike_68 ?_
      refine p_aload_n (q := 2) X dL_areAlike_71 rfl rfl ?_
      refine p_iload_n (q := 4) X dL_areAlike_72 rfl rfl ?_
      refine p_iload (q := 0) X dL_areAlike_73 rfl ?_
      refine p_p (As := [.int (nI (1 + (uq x 300))), .int (nI i)]) X (q_ifPassed l z K Pp (nI (1 + (uq x 300))) (nI i)) (cwV 2 X.1.2.2.2.2 gL_areAlike_X1_ifPassed rfl rfl rfl (by decide +kernel) ⟨Nat.le_of_ble_eq_true rfl, Nat.le_of_ble_eq_true rfl⟩) rfl rfl (Nat.le_of_ble_eq_true rfl) dL_areAlike_75 ?_
      refine p_icmp_ne (tgt := 85) X dL_areAlike_78 (by decide) (fun c78 => absurd rfl c78) (fun c78 => ?_)
      refine p_iconst (v := (nI 1)) X dL_areAlike_81 (by decide) ?_
      refine p_goto (tgt := 86) X dL_areAlike_82 (by decide) ?_
      refine p_istore (lv' := [(4, .int (nI 1)), (5, .int (nI i)), (0, .ref (ad 10 0)), (1, .ref (bd 10 0)), (2, .int x), (3, .int (nI (1 + (uq x 300))))]) X dL_areAlike_86 (by decide) rfl ?_
      refine p_iinc (q := 1) (v := (nI (i + 1))) (lv' := [(5, .int (nI (i + 1))), (4, .int (nI 1)), (0, .ref (ad 10 0)), (1, .ref (bd 10 0)), (2, .int x), (3, .int (nI (1 + (uq x 300))))]) X dL_areAlike_88 rfl (nI_1 _) (by decide) rfl ?_
      refine p_goto (tgt := 31) X dL_areAlike_91 (by decide) ?_
      refine p_lv (lv1 := [(5, .int (nI (i + 1))), (0, .ref (ad 10 0)), (1, .ref (bd 10 0)), (2, .int x), (3, .int (nI (1 + (uq x 300)))), (4, .int (nI 1))]) [0, 2, 3, 4, 5, 1] rfl ?_
      exact ih31 (i + 1) (by omega) (by omega)
