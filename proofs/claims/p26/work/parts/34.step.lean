/-! a step: each case of it -/
abbrev SP (t : Nat) : Int32 → CS × CS → Prop := fun r μ1 => r = 1 ∧ ∃ (K1 : KS) (P1 P2 : PS), μ1 = ((K1, P1), (K1, P2)) ∧ WK K1 (t + 1)
set_option maxHeartbeats 4000000 in
set_option maxRecDepth 100000 in
theorem ss_set (l : Launch) (D : va_G) (ad bd : Nat → Nat → Nat) (cs : Nat → ClassId) (A B : Nat → Prop) (z : Nat → Nat) {p : Program} {e : Env} {s : State} {m : MethodId} {args : Array Value} {below : List Frame} {meth : Method} {c : Code} (hr : meth.sig.returnType = some .boolean) (hlk : meth.locks = false) (X : PX p s m args c cL_isStep 13 yL_isStep.cls wsL_isStep (rm 7 160) 0 0 D ad bd cs A B z) (K : KS) (Po Pp : PS) (x y w : Int32) (t nm cn : Nat) (hwk : WK K t) (ht : t ≤ 53) (hnm : nm ≤ K.1.2) (hcn : cn < 12) (hcz : CZ K.1.1 K.1.2) : P2 p l e (rm 7 160) s m args below meth c 0 0 (MQ below (va_Qi (SP t) (QP D ad bd cs) (U2 A B)) args s 0 0 (U2 A B)) 13 D ad bd cs A B 104 [(0, .ref (ad 10 0)), (1, .ref (bd 10 0)), (2, .int x), (3, .int y), (4, .int w), (5, .int (nI nm)), (6, .int (nI cn))] [] ((K, Po), (K, Pp)) := by
  have hN20 := hcz.le
  refine p_iload (q := 4) X dL_isStep_104 rfl ?_
  refine p_iconst (v := (nI 4)) X dL_isStep_106 (by decide) ?_
  refine p_callS (As := [.int w, .int (nI 4)]) X (kL_up l D ad bd cs A B z w 4 (by omega) (by omega) ((K, Po), (K, Pp))) (va_cwS 2 X.1.2.2.2.2 gL_isStep_L_up rfl rfl rfl (by decide +kernel) ⟨Nat.le_of_ble_eq_true rfl, Nat.le_of_ble_eq_true rfl⟩) rfl rfl (Nat.le_of_ble_eq_true rfl) dL_isStep_107 (fun r107 m107 h107 => ?_)
  obtain ⟨h107, e107⟩ := h107
  have e107 := e107.symm
  subst e107
  subst h107
  have hu107 := uq_lt w (n := 4) (by omega)
  obtain ⟨wi, ewi, hwi⟩ : ∃ q, uq w 4 = q ∧ q < 4 := ⟨_, rfl, hu107⟩
  rw [ewi]
  refine p_istore (lv' := [(7, .int (nI wi)), (0, .ref (ad 10 0)), (1, .ref (bd 10 0)), (2, .int x), (3, .int y), (4, .int w), (5, .int (nI nm)), (6, .int (nI cn))]) X dL_isStep_110 (by decide) rfl ?_
  rcases (show wi = 0 ∨ wi = 1 ∨ wi = 2 ∨ wi = 3 by omega) with rfl | rfl | rfl | rfl
  · skip
    refine p_iload (q := 0) X dL_isStep_112 rfl ?_
    refine p_if_ne (tgt := 126) X dL_isStep_114 (by decide) (fun c114 => absurd c114 (by decide)) (fun c114 => ?_)
    refine p_iload_n (q := 4) X dL_isStep_117 rfl rfl ?_
    refine p_bipush (v := (nI 12)) X dL_isStep_118 (by decide) ?_
    refine p_callS (As := [.int y, .int (nI 12)]) X (kL_up l D ad bd cs A B z y 12 (by omega) (by omega) ((K, Po), (K, Pp))) (va_cwS 2 X.1.2.2.2.2 gL_isStep_L_up rfl rfl rfl (by decide +kernel) ⟨Nat.le_of_ble_eq_true rfl, Nat.le_of_ble_eq_true rfl⟩) rfl rfl (Nat.le_of_ble_eq_true rfl) dL_isStep_120 (fun r120 m120 h120 => ?_)
    obtain ⟨h120, e120⟩ := h120
    have e120 := e120.symm
    subst e120
    subst h120
    have hu120 := uq_lt y (n := 12) (by omega)
    refine p_goto (tgt := 164) X dL_isStep_123 (by decide) ?_
    refine p_istore (lv' := [(8, .int (nI (uq y 12))), (7, .int (nI 0)), (0, .ref (ad 10 0)), (1, .ref (bd 10 0)), (2, .int x), (3, .int y), (4, .int w), (5, .int (nI nm)), (6, .int (nI cn))]) X dL_isStep_164 (by decide) rfl ?_
    have hok : okS (nI 0) (nI (uq y 12)) := (okS_n (by decide)).mp ⟨show nI 0 ≤ (nI (uq y 12)) from nI_le (by omega) (by omega), show (nI (uq y 12)) ≤ nI 11 from nI_le (by omega) (by omega)⟩
    refine p_aload_n (q := 2) X dL_isStep_166 rfl rfl ?_
    refine p_iload (q := 1) X dL_isStep_167 rfl ?_
    refine p_o (As := [.int (nI 0)]) X (q_count l z K Po 0 (by decide)) (cwV 1 X.1.2.2.2.2 gL_isStep_X1_count rfl rfl rfl (by decide +kernel) ⟨Nat.le_of_ble_eq_true rfl, Nat.le_of_ble_eq_true rfl⟩) rfl rfl (Nat.le_of_ble_eq_true rfl) dL_isStep_169 ?_
    rw [R_cnt0]
    refine p_istore (lv' := [(9, .int (K.1.1 1 0)), (8, .int (nI (uq y 12))), (7, .int (nI 0)), (0, .ref (ad 10 0)), (1, .ref (bd 10 0)), (2, .int x), (3, .int y), (4, .int w), (5, .int (nI nm)), (6, .int (nI cn))]) X dL_isStep_172 (by decide) rfl ?_
    refine p_aload_n (q := 3) X dL_isStep_174 rfl rfl ?_
    refine p_iload (q := 2) X dL_isStep_175 rfl ?_
    refine p_iload (q := 1) X dL_isStep_177 rfl ?_
    refine p_o (As := [.int (nI 0), .int (nI (uq y 12))]) X (q_set l z K Po (nI 0) (nI (uq y 12))) (cwV 2 X.1.2.2.2.2 gL_isStep_X1_set rfl rfl rfl (by decide +kernel) ⟨Nat.le_of_ble_eq_true rfl, Nat.le_of_ble_eq_true rfl⟩) rfl rfl (Nat.le_of_ble_eq_true rfl) dL_isStep_179 ?_
    rw [R_set (by decide) hok]
    refine p_iload (q := 0) X dL_isStep_182 rfl ?_
    refine p_icmp_ne (tgt := 215) X dL_isStep_184 (by decide) (fun c184 => absurd rfl c184) (fun c184 => ?_)
    refine p_aload_n (q := 4) X dL_isStep_187 rfl rfl ?_
    refine p_iload (q := 2) X dL_isStep_188 rfl ?_
    refine p_iload (q := 1) X dL_isStep_190 rfl ?_
    refine p_p (As := [.int (nI 0), .int (nI (uq y 12))]) X (q_set l z K Pp (nI 0) (nI (uq y 12))) (cwV 2 X.1.2.2.2.2 gL_isStep_X1_set rfl rfl rfl (by decide +kernel) ⟨Nat.le_of_ble_eq_true rfl, Nat.le_of_ble_eq_true rfl⟩) rfl rfl (Nat.le_of_ble_eq_true rfl) dL_isStep_192 ?_
    rw [R_set (by decide) hok]
    refine p_iload (q := 0) X dL_isStep_195 rfl ?_
    refine p_icmp_ne (tgt := 215) X dL_isStep_197 (by decide) (fun c197 => absurd rfl c197) (fun c197 => ?_)
    refine p_aload_n (q := 3) X dL_isStep_200 rfl rfl ?_
    refine p_iload (q := 2) X dL_isStep_201 rfl ?_
    refine p_o (As := [.int (nI 0)]) X (q_count l z (gSet K (nI 0) (nI (uq y 12))) Po 0 (by decide)) (cwV 1 X.1.2.2.2.2 gL_isStep_X1_count rfl rfl rfl (by decide +kernel) ⟨Nat.le_of_ble_eq_true rfl, Nat.le_of_ble_eq_true rfl⟩) rfl rfl (Nat.le_of_ble_eq_true rfl) dL_isStep_203 ?_
    rw [R_cnt0, gSet_1 (by decide) hok]
    refine p_iload (q := 1) X dL_isStep_206 rfl ?_
    refine p_ncmp_ne (tgt := 215) X (uq y 12) (uq y 12) dL_isStep_208 (by decide) rfl rfl (by omega) (by omega) (fun c208 => absurd rfl c208) (fun c208 => ?_)
    refine p_iconst (v := (nI 1)) X dL_isStep_211 (by decide) ?_
    refine p_goto (tgt := 216) X dL_isStep_212 (by decide) ?_
    exact p_zret X hr hlk (by first | exact Or.inl rfl | exact Or.inr rfl) ⟨rfl, gSet K (nI 0) (nI (uq y 12)), _, _, rfl, hwk.set⟩ dL_isStep_216
  · skip
    refine p_iload (q := 0) X dL_isStep_112 rfl ?_
    refine p_if_ne (tgt := 126) X dL_isStep_114 (by decide) (fun c114 => ?_) (fun c114 => absurd (by decide) c114)
    refine p_iload (q := 0) X dL_isStep_126 rfl ?_
    refine p_iconst (v := (nI 1)) X dL_isStep_128 (by decide) ?_
    refine p_ncmp_ne (tgt := 143) X 1 1 dL_isStep_129 (by decide) rfl rfl (by omega) (by omega) (fun c129 => absurd c129 (by decide)) (fun c129 => ?_)
    refine p_iconst (v := (nI 1)) X dL_isStep_132 (by decide) ?_
    refine p_iload_n (q := 4) X dL_isStep_133 rfl rfl ?_
    refine p_bipush (v := (nI 6)) X dL_isStep_134 (by decide) ?_
    refine p_callS (As := [.int y, .int (nI 6)]) X (kL_up l D ad bd cs A B z y 6 (by omega) (by omega) ((K, Po), (K, Pp))) (va_cwS 2 X.1.2.2.2.2 gL_isStep_L_up rfl rfl rfl (by decide +kernel) ⟨Nat.le_of_ble_eq_true rfl, Nat.le_of_ble_eq_true rfl⟩) rfl rfl (Nat.le_of_ble_eq_true rfl) dL_isStep_136 (fun r136 m136 h136 => ?_)
    obtain ⟨h136, e136⟩ := h136
    have e136 := e136.symm
    subst e136
    subst h136
    have hu136 := uq_lt y (n := 6) (by omega)
    refine p_iadd (v := (nI (1 + (uq y 6)))) X dL_isStep_139 (nI_add _ _) ?_
    refine p_goto (tgt := 164) X dL_isStep_140 (by decide) ?_
    refine p_istore (lv' := [(8, .int (nI (1 + (uq y 6)))), (7, .int (nI 1)), (0, .ref (ad 10 0)), (1, .ref (bd 10 0)), (2, .int x), (3, .int y), (4, .int w), (5, .int (nI nm)), (6, .int (nI cn))]) X dL_isStep_164 (by decide) rfl ?_
    have hok : okS (nI 1) (nI (1 + (uq y 6))) := (okS_n (by decide)).mp ⟨show nI 1 ≤ (nI (1 + (uq y 6))) from nI_le (by omega) (by omega), show (nI (1 + (uq y 6))) ≤ nI 6 from nI_le (by omega) (by omega)⟩
    refine p_aload_n (q := 2) X dL_isStep_166 rfl rfl ?_
    refine p_iload (q := 1) X dL_isStep_167 rfl ?_
    refine p_o (As := [.int (nI 1)]) X (q_count l z K Po 1 (by decide)) (cwV 1 X.1.2.2.2.2 gL_isStep_X1_count rfl rfl rfl (by decide +kernel) ⟨Nat.le_of_ble_eq_true rfl, Nat.le_of_ble_eq_true rfl⟩) rfl rfl (Nat.le_of_ble_eq_true rfl) dL_isStep_169 ?_
    rw [R_cnt1]
    refine p_istore (lv' := [(9, .int (K.1.1 1 1)), (8, .int (nI (1 + (uq y 6)))), (7, .int (nI 1)), (0, .ref (ad 10 0)), (1, .ref (bd 10 0)), (2, .int x), (3, .int y), (4, .int w), (5, .int (nI nm)), (6, .int (nI cn))]) X dL_isStep_172 (by decide) rfl ?_
    refine p_aload_n (q := 3) X dL_isStep_174 rfl rfl ?_
    refine p_iload (q := 2) X dL_isStep_175 rfl ?_
    refine p_iload (q := 1) X dL_isStep_177 rfl ?_
    refine p_o (As := [.int (nI 1), .int (nI (1 + (uq y 6)))]) X (q_set l z K Po (nI 1) (nI (1 + (uq y 6)))) (cwV 2 X.1.2.2.2.2 gL_isStep_X1_set rfl rfl rfl (by decide +kernel) ⟨Nat.le_of_ble_eq_true rfl, Nat.le_of_ble_eq_true rfl⟩) rfl rfl (Nat.le_of_ble_eq_true rfl) dL_isStep_179 ?_
    rw [R_set (by decide) hok]
    refine p_iload (q := 0) X dL_isStep_182 rfl ?_
    refine p_icmp_ne (tgt := 215) X dL_isStep_184 (by decide) (fun c184 => absurd rfl c184) (fun c184 => ?_)
    refine p_aload_n (q := 4) X dL_isStep_187 rfl rfl ?_
    refine p_iload (q := 2) X dL_isStep_188 rfl ?_
    refine p_iload (q := 1) X dL_isStep_190 rfl ?_
    refine p_p (As := [.int (nI 1), .int (nI (1 + (uq y 6)))]) X (q_set l z K Pp (nI 1) (nI (1 + (uq y 6)))) (cwV 2 X.1.2.2.2.2 gL_isStep_X1_set rfl rfl rfl (by decide +kernel) ⟨Nat.le_of_ble_eq_true rfl, Nat.le_of_ble_eq_true rfl⟩) rfl rfl (Nat.le_of_ble_eq_true rfl) dL_isStep_192 ?_
    rw [R_set (by decide) hok]
    refine p_iload (q := 0) X dL_isStep_195 rfl ?_
    refine p_icmp_ne (tgt := 215) X dL_isStep_197 (by decide) (fun c197 => absurd rfl c197) (fun c197 => ?_)
    refine p_aload_n (q := 3) X dL_isStep_200 rfl rfl ?_
    refine p_iload (q := 2) X dL_isStep_201 rfl ?_
    refine p_o (As := [.int (nI 1)]) X (q_count l z (gSet K (nI 1) (nI (1 + (uq y 6)))) Po 1 (by decide)) (cwV 1 X.1.2.2.2.2 gL_isStep_X1_count rfl rfl rfl (by decide +kernel) ⟨Nat.le_of_ble_eq_true rfl, Nat.le_of_ble_eq_true rfl⟩) rfl rfl (Nat.le_of_ble_eq_true rfl) dL_isStep_203 ?_
    rw [R_cnt1, gSet_1 (by decide) hok]
    refine p_iload (q := 1) X dL_isStep_206 rfl ?_
    refine p_ncmp_ne (tgt := 215) X (1 + (uq y 6)) (1 + (uq y 6)) dL_isStep_208 (by decide) rfl rfl (by omega) (by omega) (fun c208 => absurd rfl c208) (fun c208 => ?_)
    refine p_iconst (v := (nI 1)) X dL_isStep_211 (by decide) ?_
    refine p_goto (tgt := 216) X dL_isStep_212 (by decide) ?_
    exact p_zret X hr hlk (by first | exact Or.inl rfl | exact Or.inr rfl) ⟨rfl, gSet K (nI 1) (nI (1 + (uq y 6))), _, _, rfl, hwk.set⟩ dL_isStep_216
  · skip
    refine p_iload (q := 0) X dL_isStep_112 rfl ?_
    refine p_if_ne (tgt := 126) X dL_isStep_114 (by decide) (fun c114 => ?_) (fun c114 => absurd (by decide) c114)
    refine p_iload (q := 0) X dL_isStep_126 rfl ?_
    refine p_iconst (v := (nI 1)) X dL_isStep_128 (by decide) ?_
    refine p_ncmp_ne (tgt := 143) X 2 1 dL_isStep_129 (by decide) rfl rfl (by omega) (by omega) (fun c129 => ?_) (fun c129 => absurd (by decide) c129)
    refine p_iload (q := 0) X dL_isStep_143 rfl ?_
    refine p_iconst (v := (nI 2)) X dL_isStep_145 (by decide) ?_
    refine p_ncmp_ne (tgt := 158) X 2 2 dL_isStep_146 (by decide) rfl rfl (by omega) (by omega) (fun c146 => absurd c146 (by decide)) (fun c146 => ?_)
    refine p_iload_n (q := 4) X dL_isStep_149 rfl rfl ?_
    refine p_bipush (v := (nI 10)) X dL_isStep_150 (by decide) ?_
    refine p_callS (As := [.int y, .int (nI 10)]) X (kL_up l D ad bd cs A B z y 10 (by omega) (by omega) ((K, Po), (K, Pp))) (va_cwS 2 X.1.2.2.2.2 gL_isStep_L_up rfl rfl rfl (by decide +kernel) ⟨Nat.le_of_ble_eq_true rfl, Nat.le_of_ble_eq_true rfl⟩) rfl rfl (Nat.le_of_ble_eq_true rfl) dL_isStep_152 (fun r152 m152 h152 => ?_)
    obtain ⟨h152, e152⟩ := h152
    have e152 := e152.symm
    subst e152
    subst h152
    have hu152 := uq_lt y (n := 10) (by omega)
    refine p_goto (tgt := 164) X dL_isStep_155 (by decide) ?_
    refine p_istore (lv' := [(8, .int (nI (uq y 10))), (7, .int (nI 2)), (0, .ref (ad 10 0)), (1, .ref (bd 10 0)), (2, .int x), (3, .int y), (4, .int w), (5, .int (nI nm)), (6, .int (nI cn))]) X dL_isStep_164 (by decide) rfl ?_
    have hok : okS (nI 2) (nI (uq y 10)) := (okS_n (by decide)).mp ⟨show nI 0 ≤ (nI (uq y 10)) from nI_le (by omega) (by omega), show (nI (uq y 10)) ≤ nI 9 from nI_le (by omega) (by omega)⟩
    refine p_aload_n (q := 2) X dL_isStep_166 rfl rfl ?_
    refine p_iload (q := 1) X dL_isStep_167 rfl ?_
    refine p_o (As := [.int (nI 2)]) X (q_count l z K Po 2 (by decide)) (cwV 1 X.1.2.2.2.2 gL_isStep_X1_count rfl rfl rfl (by decide +kernel) ⟨Nat.le_of_ble_eq_true rfl, Nat.le_of_ble_eq_true rfl⟩) rfl rfl (Nat.le_of_ble_eq_true rfl) dL_isStep_169 ?_
    rw [R_cnt2]
    refine p_istore (lv' := [(9, .int (K.1.1 1 2)), (8, .int (nI (uq y 10))), (7, .int (nI 2)), (0, .ref (ad 10 0)), (1, .ref (bd 10 0)), (2, .int x), (3, .int y), (4, .int w), (5, .int (nI nm)), (6, .int (nI cn))]) X dL_isStep_172 (by decide) rfl ?_
    refine p_aload_n (q := 3) X dL_isStep_174 rfl rfl ?_
    refine p_iload (q := 2) X dL_isStep_175 rfl ?_
    refine p_iload (q := 1) X dL_isStep_177 rfl ?_
    refine p_o (As := [.int (nI 2), .int (nI (uq y 10))]) X (q_set l z K Po (nI 2) (nI (uq y 10))) (cwV 2 X.1.2.2.2.2 gL_isStep_X1_set rfl rfl rfl (by decide +kernel) ⟨Nat.le_of_ble_eq_true rfl, Nat.le_of_ble_eq_true rfl⟩) rfl rfl (Nat.le_of_ble_eq_true rfl) dL_isStep_179 ?_
    rw [R_set (by decide) hok]
    refine p_iload (q := 0) X dL_isStep_182 rfl ?_
    refine p_icmp_ne (tgt := 215) X dL_isStep_184 (by decide) (fun c184 => absurd rfl c184) (fun c184 => ?_)
    refine p_aload_n (q := 4) X dL_isStep_187 rfl rfl ?_
    refine p_iload (q := 2) X dL_isStep_188 rfl ?_
    refine p_iload (q := 1) X dL_isStep_190 rfl ?_
    refine p_p (As := [.int (nI 2), .int (nI (uq y 10))]) X (q_set l z K Pp (nI 2) (nI (uq y 10))) (cwV 2 X.1.2.2.2.2 gL_isStep_X1_set rfl rfl rfl (by decide +kernel) ⟨Nat.le_of_ble_eq_true rfl, Nat.le_of_ble_eq_true rfl⟩) rfl rfl (Nat.le_of_ble_eq_true rfl) dL_isStep_192 ?_
    rw [R_set (by decide) hok]
    refine p_iload (q := 0) X dL_isStep_195 rfl ?_
    refine p_icmp_ne (tgt := 215) X dL_isStep_197 (by decide) (fun c197 => absurd rfl c197) (fun c197 => ?_)
    refine p_aload_n (q := 3) X dL_isStep_200 rfl rfl ?_
    refine p_iload (q := 2) X dL_isStep_201 rfl ?_
    refine p_o (As := [.int (nI 2)]) X (q_count l z (gSet K (nI 2) (nI (uq y 10))) Po 2 (by decide)) (cwV 1 X.1.2.2.2.2 gL_isStep_X1_count rfl rfl rfl (by decide +kernel) ⟨Nat.le_of_ble_eq_true rfl, Nat.le_of_ble_eq_true rfl⟩) rfl rfl (Nat.le_of_ble_eq_true rfl) dL_isStep_203 ?_
    rw [R_cnt2, gSet_1 (by decide) hok]
    refine p_iload (q := 1) X dL_isStep_206 rfl ?_
    refine p_ncmp_ne (tgt := 215) X (uq y 10) (uq y 10) dL_isStep_208 (by decide) rfl rfl (by omega) (by omega) (fun c208 => absurd rfl c208) (fun c208 => ?_)
    refine p_iconst (v := (nI 1)) X dL_isStep_211 (by decide) ?_
    refine p_goto (tgt := 216) X dL_isStep_212 (by decide) ?_
    exact p_zret X hr hlk (by first | exact Or.inl rfl | exact Or.inr rfl) ⟨rfl, gSet K (nI 2) (nI (uq y 10)), _, _, rfl, hwk.set⟩ dL_isStep_216
  · skip
    refine p_iload (q := 0) X dL_isStep_112 rfl ?_
    refine p_if_ne (tgt := 126) X dL_isStep_114 (by decide) (fun c114 => ?_) (fun c114 => absurd (by decide) c114)
    refine p_iload (q := 0) X dL_isStep_126 rfl ?_
    refine p_iconst (v := (nI 1)) X dL_isStep_128 (by decide) ?_
    refine p_ncmp_ne (tgt := 143) X 3 1 dL_isStep_129 (by decide) rfl rfl (by omega) (by omega) (fun c129 => ?_) (fun c129 => absurd (by decide) c129)
    refine p_iload (q := 0) X dL_isStep_143 rfl ?_
    refine p_iconst (v := (nI 2)) X dL_isStep_145 (by decide) ?_
    refine p_ncmp_ne (tgt := 158) X 3 2 dL_isStep_146 (by decide) rfl rfl (by omega) (by omega) (fun c146 => ?_) (fun c146 => absurd (by decide) c146)
    refine p_iload_n (q := 4) X dL_isStep_158 rfl rfl ?_
    refine p_bipush (v := (nI 61)) X dL_isStep_159 (by decide) ?_
    refine p_callS (As := [.int y, .int (nI 61)]) X (kL_up l D ad bd cs A B z y 61 (by omega) (by omega) ((K, Po), (K, Pp))) (va_cwS 2 X.1.2.2.2.2 gL_isStep_L_up rfl rfl rfl (by decide +kernel) ⟨Nat.le_of_ble_eq_true rfl, Nat.le_of_ble_eq_true rfl⟩) rfl rfl (Nat.le_of_ble_eq_true rfl) dL_isStep_161 (fun r161 m161 h161 => ?_)
    obtain ⟨h161, e161⟩ := h161
    have e161 := e161.symm
    subst e161
    subst h161
    have hu161 := uq_lt y (n := 61) (by omega)
    refine p_istore (lv' := [(8, .int (nI (uq y 61))), (7, .int (nI 3)), (0, .ref (ad 10 0)), (1, .ref (bd 10 0)), (2, .int x), (3, .int y), (4, .int w), (5, .int (nI nm)), (6, .int (nI cn))]) X dL_isStep_164 (by decide) rfl ?_
    have hok : okS (nI 3) (nI (uq y 61)) := (okS_n (by decide)).mp ⟨show nI 0 ≤ (nI (uq y 61)) from nI_le (by omega) (by omega), show (nI (uq y 61)) ≤ nI 60 from nI_le (by omega) (by omega)⟩
    refine p_aload_n (q := 2) X dL_isStep_166 rfl rfl ?_
    refine p_iload (q := 1) X dL_isStep_167 rfl ?_
    refine p_o (As := [.int (nI 3)]) X (q_count l z K Po 3 (by decide)) (cwV 1 X.1.2.2.2.2 gL_isStep_X1_count rfl rfl rfl (by decide +kernel) ⟨Nat.le_of_ble_eq_true rfl, Nat.le_of_ble_eq_true rfl⟩) rfl rfl (Nat.le_of_ble_eq_true rfl) dL_isStep_169 ?_
    rw [R_cnt3]
    refine p_istore (lv' := [(9, .int (K.1.1 1 3)), (8, .int (nI (uq y 61))), (7, .int (nI 3)), (0, .ref (ad 10 0)), (1, .ref (bd 10 0)), (2, .int x), (3, .int y), (4, .int w), (5, .int (nI nm)), (6, .int (nI cn))]) X dL_isStep_172 (by decide) rfl ?_
    refine p_aload_n (q := 3) X dL_isStep_174 rfl rfl ?_
    refine p_iload (q := 2) X dL_isStep_175 rfl ?_
    refine p_iload (q := 1) X dL_isStep_177 rfl ?_
    refine p_o (As := [.int (nI 3), .int (nI (uq y 61))]) X (q_set l z K Po (nI 3) (nI (uq y 61))) (cwV 2 X.1.2.2.2.2 gL_isStep_X1_set rfl rfl rfl (by decide +kernel) ⟨Nat.le_of_ble_eq_true rfl, Nat.le_of_ble_eq_true rfl⟩) rfl rfl (Nat.le_of_ble_eq_true rfl) dL_isStep_179 ?_
    rw [R_set (by decide) hok]
    refine p_iload (q := 0) X dL_isStep_182 rfl ?_
    refine p_icmp_ne (tgt := 215) X dL_isStep_184 (by decide) (fun c184 => absurd rfl c184) (fun c184 => ?_)
    refine p_aload_n (q := 4) X dL_isStep_187 rfl rfl ?_
    refine p_iload (q := 2) X dL_isStep_188 rfl ?_
    refine p_iload (q := 1) X dL_isStep_190 rfl ?_
    refine p_p (As := [.int (nI 3), .int (nI (uq y 61))]) X (q_set l z K Pp (nI 3) (nI (uq y 61))) (cwV 2 X.1.2.2.2.2 gL_isStep_X1_set rfl rfl rfl (by decide +kernel) ⟨Nat.le_of_ble_eq_true rfl, Nat.le_of_ble_eq_true rfl⟩) rfl rfl (Nat.le_of_ble_eq_true rfl) dL_isStep_192 ?_
    rw [R_set (by decide) hok]
    refine p_iload (q := 0) X dL_isStep_195 rfl ?_
    refine p_icmp_ne (tgt := 215) X dL_isStep_197 (by decide) (fun c197 => absurd rfl c197) (fun c197 => ?_)
    refine p_aload_n (q := 3) X dL_isStep_200 rfl rfl ?_
    refine p_iload (q := 2) X dL_isStep_201 rfl ?_
    refine p_o (As := [.int (nI 3)]) X (q_count l z (gSet K (nI 3) (nI (uq y 61))) Po 3 (by decide)) (cwV 1 X.1.2.2.2.2 gL_isStep_X1_count rfl rfl rfl (by decide +kernel) ⟨Nat.le_of_ble_eq_true rfl, Nat.le_of_ble_eq_true rfl⟩) rfl rfl (Nat.le_of_ble_eq_true rfl) dL_isStep_203 ?_
    rw [R_cnt3, gSet_1 (by decide) hok]
    refine p_iload (q := 1) X dL_isStep_206 rfl ?_
    refine p_ncmp_ne (tgt := 215) X (uq y 61) (uq y 61) dL_isStep_208 (by decide) rfl rfl (by omega) (by omega) (fun c208 => absurd rfl c208) (fun c208 => ?_)
    refine p_iconst (v := (nI 1)) X dL_isStep_211 (by decide) ?_
    refine p_goto (tgt := 216) X dL_isStep_212 (by decide) ?_
    exact p_zret X hr hlk (by first | exact Or.inl rfl | exact Or.inr rfl) ⟨rfl, gSet K (nI 3) (nI (uq y 61)), _, _, rfl, hwk.set⟩ dL_isStep_216
set_option maxHeartbeats 4000000 in
set_option maxRecDepth 100000 in
theorem ss_hon (l : Launch) (D : va_G) (ad bd : Nat → Nat → Nat) (cs : Nat → ClassId) (A B : Nat → Prop) (z : Nat → Nat) {p : Program} {e : Env} {s : State} {m : MethodId} {args : Array Value} {below : List Frame} {meth : Method} {c : Code} (hr : meth.sig.returnType = some .boolean) (hlk : meth.locks = false) (X : PX p s m args c cL_isStep 13 yL_isStep.cls wsL_isStep (rm 7 160) 0 0 D ad bd cs A B z) (K : KS) (Po Pp : PS) (x y w : Int32) (t nm cn : Nat) (hwk : WK K t) (ht : t ≤ 53) (hnm : nm ≤ K.1.2) (hcn : cn < 12) (hcz : CZ K.1.1 K.1.2) : P2 p l e (rm 7 160) s m args below meth c 0 0 (MQ below (va_Qi (SP t) (QP D ad bd cs) (U2 A B)) args s 0 0 (U2 A B)) 13 D ad bd cs A B 217 [(0, .ref (ad 10 0)), (1, .ref (bd 10 0)), (2, .int x), (3, .int y), (4, .int w), (5, .int (nI nm)), (6, .int (nI cn))] [] ((K, Po), (K, Pp)) := by
  have hN20 := hcz.le
  rcases Nat.lt_or_eq_of_le hnm with hn | hn
  · skip
    obtain ⟨h0, hh9, eh⟩ := hcz.hon nm hn
    refine p_aload_n (q := 0) X dL_isStep_217 rfl rfl ?_
    refine p_iload (q := 5) X dL_isStep_218 rfl ?_
    refine p_iconst (v := (nI 0)) X dL_isStep_220 (by decide) ?_
    refine p_o (As := [.int (nI nm), .int (nI 0)]) X (q_name l z K Po (nI nm) (nI 0)) (cwV 2 X.1.2.2.2.2 gL_isStep_X1_name rfl rfl rfl (by decide +kernel) ⟨Nat.le_of_ble_eq_true rfl, Nat.le_of_ble_eq_true rfl⟩) rfl rfl (Nat.le_of_ble_eq_true rfl) dL_isStep_221 ?_
    rw [R_nam0 hcz hn, eh]
    refine p_istore (lv' := [(7, .int (nI h0)), (0, .ref (ad 10 0)), (1, .ref (bd 10 0)), (2, .int x), (3, .int y), (4, .int w), (5, .int (nI nm)), (6, .int (nI cn))]) X dL_isStep_224 (by decide) rfl ?_
    refine p_aload_n (q := 1) X dL_isStep_226 rfl rfl ?_
    refine p_iload (q := 6) X dL_isStep_227 rfl ?_
    refine p_iload_n (q := 4) X dL_isStep_229 rfl rfl ?_
    refine p_bipush (v := (nI 10)) X dL_isStep_230 (by decide) ?_
    refine p_callS (As := [.int y, .int (nI 10)]) X (kL_up l D ad bd cs A B z y 10 (by omega) (by omega) ((K, Po), (K, Pp))) (va_cwS 2 X.1.2.2.2.2 gL_isStep_L_up rfl rfl rfl (by decide +kernel) ⟨Nat.le_of_ble_eq_true rfl, Nat.le_of_ble_eq_true rfl⟩) rfl rfl (Nat.le_of_ble_eq_true rfl) dL_isStep_232 (fun r232 m232 h232 => ?_)
    obtain ⟨h232, e232⟩ := h232
    have e232 := e232.symm
    subst e232
    subst h232
    have hu232 := uq_lt y (n := 10) (by omega)
    obtain ⟨v, ev, hv⟩ : ∃ q, uq y 10 = q ∧ q < 10 := ⟨_, rfl, hu232⟩
    rw [ev]
    refine p_o (As := [.int (nI nm), .int (nI v)]) X (q_honour l z K Po (nI nm) (nI v)) (cwV 2 X.1.2.2.2.2 gL_isStep_X1_honour rfl rfl rfl (by decide +kernel) ⟨Nat.le_of_ble_eq_true rfl, Nat.le_of_ble_eq_true rfl⟩) rfl rfl (Nat.le_of_ble_eq_true rfl) dL_isStep_235 ?_
    rw [R_hon hcz hn (by omega), eh]
    refine p_istore (lv' := [(8, .int (nI h0)), (7, .int (nI h0)), (0, .ref (ad 10 0)), (1, .ref (bd 10 0)), (2, .int x), (3, .int y), (4, .int w), (5, .int (nI nm)), (6, .int (nI cn))]) X dL_isStep_238 (by decide) rfl ?_
    refine p_iload (q := 0) X dL_isStep_240 rfl ?_
    refine p_aload_n (q := 3) X dL_isStep_242 rfl rfl ?_
    refine p_iload (q := 7) X dL_isStep_243 rfl ?_
    refine p_iload_n (q := 5) X dL_isStep_245 rfl rfl ?_
    refine p_bipush (v := (nI 10)) X dL_isStep_246 (by decide) ?_
    refine p_callS (As := [.int y, .int (nI 10)]) X (kL_up l D ad bd cs A B z y 10 (by omega) (by omega) ((gHon K (nI nm) (nI v), Po), (K, Pp))) (va_cwS 2 X.1.2.2.2.2 gL_isStep_L_up rfl rfl rfl (by decide +kernel) ⟨Nat.le_of_ble_eq_true rfl, Nat.le_of_ble_eq_true rfl⟩) rfl rfl (Nat.le_of_ble_eq_true rfl) dL_isStep_248 (fun r248 m248 h248 => ?_)
    obtain ⟨h248, e248⟩ := h248
    have e248 := e248.symm
    subst e248
    subst h248
    have hu248 := uq_lt y (n := 10) (by omega)
    rw [ev]
    refine p_p (As := [.int (nI nm), .int (nI v)]) X (q_honour l z K Pp (nI nm) (nI v)) (cwV 2 X.1.2.2.2.2 gL_isStep_X1_honour rfl rfl rfl (by decide +kernel) ⟨Nat.le_of_ble_eq_true rfl, Nat.le_of_ble_eq_true rfl⟩) rfl rfl (Nat.le_of_ble_eq_true rfl) dL_isStep_251 ?_
    rw [R_hon hcz hn (by omega), eh]
    refine p_ncmp_ne (tgt := 289) X h0 h0 dL_isStep_254 (by decide) rfl rfl (by omega) (by omega) (fun c254 => absurd rfl c254) (fun c254 => ?_)
    refine p_iload (q := 0) X dL_isStep_257 rfl ?_
    refine p_iload (q := 1) X dL_isStep_259 rfl ?_
    refine p_ncmp_ne (tgt := 289) X h0 h0 dL_isStep_261 (by decide) rfl rfl (by omega) (by omega) (fun c261 => absurd rfl c261) (fun c261 => ?_)
    refine p_iload (q := 0) X dL_isStep_264 rfl ?_
    refine p_if_lt (tgt := 285) X dL_isStep_266 (by decide) (fun c266 => absurd c266 (nI_pos (by omega))) (fun c266 => ?_)
    refine p_ok (fun hoo2 hpp2 => ?_)
    have hcz2 : CZ (gHon K (nI nm) (nI v)).1.1 (gHon K (nI nm) (nI v)).1.2 := hoo2.1.1
    refine p_aload_n (q := 2) X dL_isStep_269 rfl rfl ?_
    refine p_iload (q := 7) X dL_isStep_270 rfl ?_
    refine p_iconst (v := (nI 0)) X dL_isStep_272 (by decide) ?_
    refine p_o (As := [.int (nI nm), .int (nI 0)]) X (q_name l z (gHon K (nI nm) (nI v)) Po (nI nm) (nI 0)) (cwV 2 X.1.2.2.2.2 gL_isStep_X1_name rfl rfl rfl (by decide +kernel) ⟨Nat.le_of_ble_eq_true rfl, Nat.le_of_ble_eq_true rfl⟩) rfl rfl (Nat.le_of_ble_eq_true rfl) dL_isStep_273 ?_
    rw [R_nam0 hcz2 (by rw [gHon_N]; exact hn), gHon_7 hcz hn (by omega)]
    refine p_iload_n (q := 5) X dL_isStep_276 rfl rfl ?_
    refine p_bipush (v := (nI 10)) X dL_isStep_277 (by decide) ?_
    refine p_callS (As := [.int y, .int (nI 10)]) X (kL_up l D ad bd cs A B z y 10 (by omega) (by omega) ((gHon K (nI nm) (nI v), Po), (gHon K (nI nm) (nI v), Pp))) (va_cwS 2 X.1.2.2.2.2 gL_isStep_L_up rfl rfl rfl (by decide +kernel) ⟨Nat.le_of_ble_eq_true rfl, Nat.le_of_ble_eq_true rfl⟩) rfl rfl (Nat.le_of_ble_eq_true rfl) dL_isStep_279 (fun r279 m279 h279 => ?_)
    obtain ⟨h279, e279⟩ := h279
    have e279 := e279.symm
    subst e279
    subst h279
    have hu279 := uq_lt y (n := 10) (by omega)
    rw [ev]
    refine p_ncmp_ne (tgt := 289) X v v dL_isStep_282 (by decide) rfl rfl (by omega) (by omega) (fun c282 => absurd rfl c282) (fun c282 => ?_)
    refine p_iconst (v := (nI 1)) X dL_isStep_285 (by decide) ?_
    refine p_goto (tgt := 290) X dL_isStep_286 (by decide) ?_
    exact p_zret X hr hlk (by first | exact Or.inl rfl | exact Or.inr rfl) ⟨rfl, gHon K (nI nm) (nI v), _, _, rfl, hwk.hon⟩ dL_isStep_290
  · subst hn
    refine p_aload_n (q := 0) X dL_isStep_217 rfl rfl ?_
    refine p_iload (q := 5) X dL_isStep_218 rfl ?_
    refine p_iconst (v := (nI 0)) X dL_isStep_220 (by decide) ?_
    refine p_o (As := [.int (nI K.1.2), .int (nI 0)]) X (q_name l z K Po (nI K.1.2) (nI 0)) (cwV 2 X.1.2.2.2.2 gL_isStep_X1_name rfl rfl rfl (by decide +kernel) ⟨Nat.le_of_ble_eq_true rfl, Nat.le_of_ble_eq_true rfl⟩) rfl rfl (Nat.le_of_ble_eq_true rfl) dL_isStep_221 ?_
    rw [R_namN hcz]
    refine p_istore (lv' := [(7, .int (-1)), (0, .ref (ad 10 0)), (1, .ref (bd 10 0)), (2, .int x), (3, .int y), (4, .int w), (5, .int (nI K.1.2)), (6, .int (nI cn))]) X dL_isStep_224 (by decide) rfl ?_
    refine p_aload_n (q := 1) X dL_isStep_226 rfl rfl ?_
    refine p_iload (q := 6) X dL_isStep_227 rfl ?_
    refine p_iload_n (q := 4) X dL_isStep_229 rfl rfl ?_
    refine p_bipush (v := (nI 10)) X dL_isStep_230 (by decide) ?_
    refine p_callS (As := [.int y, .int (nI 10)]) X (kL_up l D ad bd cs A B z y 10 (by omega) (by omega) ((K, Po), (K, Pp))) (va_cwS 2 X.1.2.2.2.2 gL_isStep_L_up rfl rfl rfl (by decide +kernel) ⟨Nat.le_of_ble_eq_true rfl, Nat.le_of_ble_eq_true rfl⟩) rfl rfl (Nat.le_of_ble_eq_true rfl) dL_isStep_232 (fun r232 m232 h232 => ?_)
    obtain ⟨h232, e232⟩ := h232
    have e232 := e232.symm
    subst e232
    subst h232
    have hu232 := uq_lt y (n := 10) (by omega)
    obtain ⟨v, ev, hv⟩ : ∃ q, uq y 10 = q ∧ q < 10 := ⟨_, rfl, hu232⟩
    rw [ev]
    refine p_o (As := [.int (nI K.1.2), .int (nI v)]) X (q_honour l z K Po (nI K.1.2) (nI v)) (cwV 2 X.1.2.2.2.2 gL_isStep_X1_honour rfl rfl rfl (by decide +kernel) ⟨Nat.le_of_ble_eq_true rfl, Nat.le_of_ble_eq_true rfl⟩) rfl rfl (Nat.le_of_ble_eq_true rfl) dL_isStep_235 ?_
    rw [R_honN hcz]
    refine p_istore (lv' := [(8, .int (-1)), (7, .int (-1)), (0, .ref (ad 10 0)), (1, .ref (bd 10 0)), (2, .int x), (3, .int y), (4, .int w), (5, .int (nI K.1.2)), (6, .int (nI cn))]) X dL_isStep_238 (by decide) rfl ?_
    refine p_iload (q := 0) X dL_isStep_240 rfl ?_
    refine p_aload_n (q := 3) X dL_isStep_242 rfl rfl ?_
    refine p_iload (q := 7) X dL_isStep_243 rfl ?_
    refine p_iload_n (q := 5) X dL_isStep_245 rfl rfl ?_
    refine p_bipush (v := (nI 10)) X dL_isStep_246 (by decide) ?_
    refine p_callS (As := [.int y, .int (nI 10)]) X (kL_up l D ad bd cs A B z y 10 (by omega) (by omega) ((gHon K (nI K.1.2) (nI v), Po), (K, Pp))) (va_cwS 2 X.1.2.2.2.2 gL_isStep_L_up rfl rfl rfl (by decide +kernel) ⟨Nat.le_of_ble_eq_true rfl, Nat.le_of_ble_eq_true rfl⟩) rfl rfl (Nat.le_of_ble_eq_true rfl) dL_isStep_248 (fun r248 m248 h248 => ?_)
    obtain ⟨h248, e248⟩ := h248
    have e248 := e248.symm
    subst e248
    subst h248
    have hu248 := uq_lt y (n := 10) (by omega)
    rw [ev]
    refine p_p (As := [.int (nI K.1.2), .int (nI v)]) X (q_honour l z K Pp (nI K.1.2) (nI v)) (cwV 2 X.1.2.2.2.2 gL_isStep_X1_honour rfl rfl rfl (by decide +kernel) ⟨Nat.le_of_ble_eq_true rfl, Nat.le_of_ble_eq_true rfl⟩) rfl rfl (Nat.le_of_ble_eq_true rfl) dL_isStep_251 ?_
    rw [R_honN hcz]
    refine p_icmp_ne (tgt := 289) X dL_isStep_254 (by decide) (fun c254 => absurd rfl c254) (fun c254 => ?_)
    refine p_iload (q := 0) X dL_isStep_257 rfl ?_
    refine p_iload (q := 1) X dL_isStep_259 rfl ?_
    refine p_icmp_ne (tgt := 289) X dL_isStep_261 (by decide) (fun c261 => absurd rfl c261) (fun c261 => ?_)
    refine p_iload (q := 0) X dL_isStep_264 rfl ?_
    refine p_if_lt (tgt := 285) X dL_isStep_266 (by decide) (fun c266 => ?_) (fun c266 => absurd (by decide) c266)
    refine p_iconst (v := (nI 1)) X dL_isStep_285 (by decide) ?_
    refine p_goto (tgt := 290) X dL_isStep_286 (by decide) ?_
    exact p_zret X hr hlk (by first | exact Or.inl rfl | exact Or.inr rfl) ⟨rfl, gHon K (nI K.1.2) (nI v), _, _, rfl, hwk.hon⟩ dL_isStep_290
set_option maxHeartbeats 4000000 in
set_option maxRecDepth 100000 in
theorem ss_wit (l : Launch) (D : va_G) (ad bd : Nat → Nat → Nat) (cs : Nat → ClassId) (A B : Nat → Prop) (z : Nat → Nat) {p : Program} {e : Env} {s : State} {m : MethodId} {args : Array Value} {below : List Frame} {meth : Method} {c : Code} (hr : meth.sig.returnType = some .boolean) (hlk : meth.locks = false) (X : PX p s m args c cL_isStep 13 yL_isStep.cls wsL_isStep (rm 7 160) 0 0 D ad bd cs A B z) (K : KS) (Po Pp : PS) (x y w : Int32) (t nm cn : Nat) (hwk : WK K t) (ht : t ≤ 53) (hnm : nm ≤ K.1.2) (hcn : cn < 12) (hcz : CZ K.1.1 K.1.2) : P2 p l e (rm 7 160) s m args below meth c 0 0 (MQ below (va_Qi (SP t) (QP D ad bd cs) (U2 A B)) args s 0 0 (U2 A B)) 13 D ad bd cs A B 291 [(0, .ref (ad 10 0)), (1, .ref (bd 10 0)), (2, .int x), (3, .int y), (4, .int w), (5, .int (nI nm)), (6, .int (nI cn))] [] ((K, Po), (K, Pp)) := by
  have hN20 := hcz.le
  have hnb := nb_le K.1.1 (nI nm) 12
  rcases Nat.lt_or_eq_of_le hnm with hn | hn
  · skip
    by_cases h8 : K.1.1 8 nm = 0
    · skip
      by_cases hb : 0 < nb K.1.1 (nI nm) 12
      · skip
        refine p_aload_n (q := 0) X dL_isStep_291 rfl rfl ?_
        refine p_iload (q := 5) X dL_isStep_292 rfl ?_
        refine p_iconst (v := (nI 2)) X dL_isStep_294 (by decide) ?_
        refine p_o (As := [.int (nI nm), .int (nI 2)]) X (q_name l z K Po (nI nm) (nI 2)) (cwV 2 X.1.2.2.2.2 gL_isStep_X1_name rfl rfl rfl (by decide +kernel) ⟨Nat.le_of_ble_eq_true rfl, Nat.le_of_ble_eq_true rfl⟩) rfl rfl (Nat.le_of_ble_eq_true rfl) dL_isStep_295 ?_
        rw [R_nam2 hcz hn]
        refine p_istore (lv' := [(7, .int (bm K.1.1 (nI nm) 12)), (0, .ref (ad 10 0)), (1, .ref (bd 10 0)), (2, .int x), (3, .int y), (4, .int w), (5, .int (nI nm)), (6, .int (nI cn))]) X dL_isStep_298 (by decide) rfl ?_
        refine p_aload_n (q := 1) X dL_isStep_300 rfl rfl ?_
        refine p_iload (q := 6) X dL_isStep_301 rfl ?_
        refine p_iconst (v := (nI 1)) X dL_isStep_303 (by decide) ?_
        refine p_o (As := [.int (nI nm), .int (nI 1)]) X (q_name l z K Po (nI nm) (nI 1)) (cwV 2 X.1.2.2.2.2 gL_isStep_X1_name rfl rfl rfl (by decide +kernel) ⟨Nat.le_of_ble_eq_true rfl, Nat.le_of_ble_eq_true rfl⟩) rfl rfl (Nat.le_of_ble_eq_true rfl) dL_isStep_304 ?_
        rw [R_nam1 hcz hn, wh_n1 h8 hb]
        refine p_istore (lv' := [(8, .int (nI 1)), (7, .int (bm K.1.1 (nI nm) 12)), (0, .ref (ad 10 0)), (1, .ref (bd 10 0)), (2, .int x), (3, .int y), (4, .int w), (5, .int (nI nm)), (6, .int (nI cn))]) X dL_isStep_307 (by decide) rfl ?_
        refine p_aload_n (q := 2) X dL_isStep_309 rfl rfl ?_
        refine p_bipush (v := (nI 8)) X dL_isStep_310 (by decide) ?_
        refine p_o (As := [.int (nI 8)]) X (q_count l z K Po 8 (by decide)) (cwV 1 X.1.2.2.2.2 gL_isStep_X1_count rfl rfl rfl (by decide +kernel) ⟨Nat.le_of_ble_eq_true rfl, Nat.le_of_ble_eq_true rfl⟩) rfl rfl (Nat.le_of_ble_eq_true rfl) dL_isStep_312 ?_
        rw [R_cnt8]
        refine p_istore (lv' := [(9, .int (sm (K.1.1 11) 12)), (8, .int (nI 1)), (7, .int (bm K.1.1 (nI nm) 12)), (0, .ref (ad 10 0)), (1, .ref (bd 10 0)), (2, .int x), (3, .int y), (4, .int w), (5, .int (nI nm)), (6, .int (nI cn))]) X dL_isStep_315 (by decide) rfl ?_
        refine p_iload_n (q := 6) X dL_isStep_317 rfl rfl ?_
        refine p_iconst (v := (nI 3)) X dL_isStep_318 (by decide) ?_
        refine p_callS (As := [.int y, .int (nI 3)]) X (kL_up l D ad bd cs A B z y 3 (by omega) (by omega) ((K, Po), (K, Pp))) (va_cwS 2 X.1.2.2.2.2 gL_isStep_L_up rfl rfl rfl (by decide +kernel) ⟨Nat.le_of_ble_eq_true rfl, Nat.le_of_ble_eq_true rfl⟩) rfl rfl (Nat.le_of_ble_eq_true rfl) dL_isStep_319 (fun r319 m319 h319 => ?_)
        obtain ⟨h319, e319⟩ := h319
        have e319 := e319.symm
        subst e319
        subst h319
        have hu319 := uq_lt y (n := 3) (by omega)
        refine p_if_le (tgt := 327) X dL_isStep_322 (by decide) (fun c322 => ?_) (fun c322 => ?_)
        · skip
          refine p_aload_n (q := 3) X dL_isStep_327 rfl rfl ?_
          refine p_iload (q := 8) X dL_isStep_328 rfl ?_
          refine p_o (As := [.int (nI nm)]) X (q_withdraw l z K Po (nI nm)) (cwV 1 X.1.2.2.2.2 gL_isStep_X1_withdraw rfl rfl rfl (by decide +kernel) ⟨Nat.le_of_ble_eq_true rfl, Nat.le_of_ble_eq_true rfl⟩) rfl rfl (Nat.le_of_ble_eq_true rfl) dL_isStep_330 ?_
          rw [R_wit0 hcz hn h8]
          refine p_istore (lv' := [(10, .int (nI (nb K.1.1 (nI nm) 12))), (9, .int (sm (K.1.1 11) 12)), (8, .int (nI 1)), (7, .int (bm K.1.1 (nI nm) 12)), (0, .ref (ad 10 0)), (1, .ref (bd 10 0)), (2, .int x), (3, .int y), (4, .int w), (5, .int (nI nm)), (6, .int (nI cn))]) X dL_isStep_333 (by decide) rfl ?_
          refine p_iconst (v := (nI 0)) X dL_isStep_335 (by decide) ?_
          refine p_istore (lv' := [(11, .int (nI 0)), (10, .int (nI (nb K.1.1 (nI nm) 12))), (9, .int (sm (K.1.1 11) 12)), (8, .int (nI 1)), (7, .int (bm K.1.1 (nI nm) 12)), (0, .ref (ad 10 0)), (1, .ref (bd 10 0)), (2, .int x), (3, .int y), (4, .int w), (5, .int (nI nm)), (6, .int (nI cn))]) X dL_isStep_336 (by decide) rfl ?_
          refine p_iconst (v := (nI 0)) X dL_isStep_338 (by decide) ?_
          refine p_istore (lv' := [(12, .int (nI 0)), (11, .int (nI 0)), (10, .int (nI (nb K.1.1 (nI nm) 12))), (9, .int (sm (K.1.1 11) 12)), (8, .int (nI 1)), (7, .int (bm K.1.1 (nI nm) 12)), (0, .ref (ad 10 0)), (1, .ref (bd 10 0)), (2, .int x), (3, .int y), (4, .int w), (5, .int (nI nm)), (6, .int (nI cn))]) X dL_isStep_339 (by decide) rfl ?_
          refine p_lv (lv1 := [(12, .int (nI 0)), (11, .int (nI 0)), (0, .ref (ad 10 0)), (1, .ref (bd 10 0)), (2, .int x), (3, .int y), (4, .int w), (5, .int (nI nm)), (6, .int (nI cn)), (7, .int (bm K.1.1 (nI nm) 12)), (8, .int (nI 1)), (9, .int (sm (K.1.1 11) 12)), (10, .int (nI (nb K.1.1 (nI nm) 12)))]) [0, 1, 6, 7, 8, 9, 10, 11, 12, 5, 4, 3, 2] rfl ?_
          refine loop2 (G := P2 p l e _ s m args below meth c 0 0 _ _ D ad bd cs A B) (pc := 341) (fun (j : Nat) (q : Nat) => [(12, .int (nI j)), (11, .int (nI q)), (0, .ref (ad 10 0)), (1, .ref (bd 10 0)), (2, .int x), (3, .int y), (4, .int w), (5, .int (nI nm)), (6, .int (nI cn)), (7, .int (bm K.1.1 (nI nm) 12)), (8, .int (nI 1)), (9, .int (sm (K.1.1 11) 12)), (10, .int (nI (nb K.1.1 (nI nm) 12)))]) (fun (j : Nat) (q : Nat) => ((gWit K (nI nm), Po), (K, Pp))) (fun (j : Nat) (q : Nat) => j ≤ 12 ∧ q = nb K.1.1 (nI nm) j) (fun (j : Nat) (q : Nat) => 12 - j) ?_ 0 0 ⟨by omega, rfl⟩
          intro j q hI341 ih341
          try dsimp only at ih341 ⊢
          obtain ⟨hj, hq⟩ := hI341
          have hnj := nb_le K.1.1 (nI nm) j
          refine p_iload (q := 0) X dL_isStep_341 rfl ?_
          refine p_bipush (v := (nI 12)) X dL_isStep_343 (by decide) ?_
          refine p_ncmp_ge (tgt := 375) X j 12 dL_isStep_345 (by decide) rfl rfl (by omega) (by omega) (fun c345 => ?_) (fun c345 => ?_)
          · skip
            refine p_iload (q := 12) X dL_isStep_375 rfl ?_
            refine p_aload_n (q := 3) X dL_isStep_377 rfl rfl ?_
            refine p_iload (q := 7) X dL_isStep_378 rfl ?_
            refine p_p (As := [.int (nI nm)]) X (q_withdraw l z K Pp (nI nm)) (cwV 1 X.1.2.2.2.2 gL_isStep_X1_withdraw rfl rfl rfl (by decide +kernel) ⟨Nat.le_of_ble_eq_true rfl, Nat.le_of_ble_eq_true rfl⟩) rfl rfl (Nat.le_of_ble_eq_true rfl) dL_isStep_380 ?_
            rw [R_wit0 hcz hn h8]
            refine p_ncmp_ne (tgt := 428) X (nb K.1.1 (nI nm) 12) (nb K.1.1 (nI nm) 12) dL_isStep_383 (by decide) rfl rfl (by omega) (by omega) (fun c383 => absurd rfl c383) (fun c383 => ?_)
            refine p_iload (q := 12) X dL_isStep_386 rfl ?_
            refine p_iload (q := 10) X dL_isStep_388 rfl ?_
            refine p_if_ge (tgt := 397) X dL_isStep_390 (by decide) (fun c390 => ?_) (fun c390 => absurd (by decide) c390)
            refine p_iload (q := 10) X dL_isStep_397 rfl ?_
            refine p_iconst (v := (nI 2)) X dL_isStep_399 (by decide) ?_
            refine p_ncmp_ne (tgt := 408) X 1 2 dL_isStep_400 (by decide) rfl rfl (by omega) (by omega) (fun c400 => ?_) (fun c400 => absurd (by decide) c400)
            refine p_iload (q := 1) X dL_isStep_408 rfl ?_
            refine p_ncmp_ne (tgt := 428) X (nb K.1.1 (nI nm) 12) q dL_isStep_410 (by decide) rfl rfl (by omega) (by omega) (fun c410 => absurd (show nb K.1.1 (nI nm) 12 = q by rw [hq, show j = 12 by omega]) c410) (fun c410 => ?_)
            refine p_aload_n (q := 2) X dL_isStep_413 rfl rfl ?_
            refine p_bipush (v := (nI 8)) X dL_isStep_414 (by decide) ?_
            refine p_o (As := [.int (nI 8)]) X (q_count l z (gWit K (nI nm)) Po 8 (by decide)) (cwV 1 X.1.2.2.2.2 gL_isStep_X1_count rfl rfl rfl (by decide +kernel) ⟨Nat.le_of_ble_eq_true rfl, Nat.le_of_ble_eq_true rfl⟩) rfl rfl (Nat.le_of_ble_eq_true rfl) dL_isStep_416 ?_
            rw [R_cnt8, gWit_11]
            refine p_iload (q := 11) X dL_isStep_419 rfl ?_
            refine p_icmp_ne (tgt := 428) X dL_isStep_421 (by decide) (fun c421 => absurd rfl c421) (fun c421 => ?_)
            refine p_iconst (v := (nI 1)) X dL_isStep_424 (by decide) ?_
            refine p_goto (tgt := 429) X dL_isStep_425 (by decide) ?_
            exact p_zret X hr hlk (by first | exact Or.inl rfl | exact Or.inr rfl) ⟨rfl, gWit K (nI nm), _, _, rfl, hwk.wit⟩ dL_isStep_429
          · skip
            refine p_iload (q := 1) X dL_isStep_348 rfl ?_
            refine p_iload (q := 9) X dL_isStep_350 rfl ?_
            refine p_if_le (tgt := 365) X dL_isStep_352 (by decide) (fun c352 => ?_) (fun c352 => ?_)
            · skip
              refine p_iconst (v := (nI 0)) X dL_isStep_365 (by decide) ?_
              refine p_iadd (v := (nI (q + 0))) X dL_isStep_366 (nI_add _ _) ?_
              refine p_istore (lv' := [(11, .int (nI (q + 0))), (12, .int (nI j)), (0, .ref (ad 10 0)), (1, .ref (bd 10 0)), (2, .int x), (3, .int y), (4, .int w), (5, .int (nI nm)), (6, .int (nI cn)), (7, .int (bm K.1.1 (nI nm) 12)), (8, .int (nI 1)), (9, .int (sm (K.1.1 11) 12)), (10, .int (nI (nb K.1.1 (nI nm) 12)))]) X dL_isStep_367 (by decide) rfl ?_
              refine p_iinc (q := 1) (v := (nI (j + 1))) (lv' := [(12, .int (nI (j + 1))), (11, .int (nI (q + 0))), (0, .ref (ad 10 0)), (1, .ref (bd 10 0)), (2, .int x), (3, .int y), (4, .int w), (5, .int (nI nm)), (6, .int (nI cn)), (7, .int (bm K.1.1 (nI nm) 12)), (8, .int (nI 1)), (9, .int (sm (K.1.1 11) 12)), (10, .int (nI (nb K.1.1 (nI nm) 12)))]) X dL_isStep_369 rfl (nI_1 _) (by decide) rfl ?_
              refine p_goto (tgt := 341) X dL_isStep_372 (by decide) ?_
              have hz := bm_np (Int32.not_lt.mpr c352)
              have hm1 := nb_mono (V := K.1.1) (x := nI nm) 12 (show j + 1 ≤ 12 by omega)
              have hm2 := nb_mono (V := K.1.1) (x := nI nm) 12 (show j ≤ 12 by omega)
              exact ih341 (j + 1) (q + 0) ⟨by omega, by omega⟩ (by omega)
            · skip
              refine p_iload (q := 9) X dL_isStep_355 rfl ?_
              refine p_iload (q := 0) X dL_isStep_357 rfl ?_
              refine p_ishr (v := ((bm K.1.1 (nI nm) 12) >>> ((nI j) &&& 31))) X dL_isStep_359 rfl ?_
              refine p_iconst (v := (nI 1)) X dL_isStep_360 (by decide) ?_
              refine p_iand (v := (nI (if K.1.1 10 j = nI nm then 1 else 0))) X dL_isStep_361 (bm_sh2 (by omega)) ?_
              refine p_goto (tgt := 366) X dL_isStep_362 (by decide) ?_
              refine p_iadd (v := (nI (q + (if K.1.1 10 j = nI nm then 1 else 0)))) X dL_isStep_366 (nI_add _ _) ?_
              refine p_istore (lv' := [(11, .int (nI (q + (if K.1.1 10 j = nI nm then 1 else 0)))), (12, .int (nI j)), (0, .ref (ad 10 0)), (1, .ref (bd 10 0)), (2, .int x), (3, .int y), (4, .int w), (5, .int (nI nm)), (6, .int (nI cn)), (7, .int (bm K.1.1 (nI nm) 12)), (8, .int (nI 1)), (9, .int (sm (K.1.1 11) 12)), (10, .int (nI (nb K.1.1 (nI nm) 12)))]) X dL_isStep_367 (by decide) rfl ?_
              refine p_iinc (q := 1) (v := (nI (j + 1))) (lv' := [(12, .int (nI (j + 1))), (11, .int (nI (q + (if K.1.1 10 j = nI nm then 1 else 0)))), (0, .ref (ad 10 0)), (1, .ref (bd 10 0)), (2, .int x), (3, .int y), (4, .int w), (5, .int (nI nm)), (6, .int (nI cn)), (7, .int (bm K.1.1 (nI nm) 12)), (8, .int (nI 1)), (9, .int (sm (K.1.1 11) 12)), (10, .int (nI (nb K.1.1 (nI nm) 12)))]) X dL_isStep_369 rfl (nI_1 _) (by decide) rfl ?_
              refine p_goto (tgt := 341) X dL_isStep_372 (by decide) ?_
              exact ih341 (j + 1) (q + (if K.1.1 10 j = nI nm then 1 else 0)) ⟨by omega, nb_step hq⟩ (by omega)
        · skip
          refine p_iconst (v := (nI 1)) X dL_isStep_325 (by decide) ?_
          exact p_zret X hr hlk (by first | exact Or.inl rfl | exact Or.inr rfl) ⟨rfl, K, _, _, rfl, hwk.mono (Nat.le_succ t)⟩ dL_isStep_326
      · skip
        refine p_aload_n (q := 0) X dL_isStep_291 rfl rfl ?_
        refine p_iload (q := 5) X dL_isStep_292 rfl ?_
        refine p_iconst (v := (nI 2)) X dL_isStep_294 (by decide) ?_
        refine p_o (As := [.int (nI nm), .int (nI 2)]) X (q_name l z K Po (nI nm) (nI 2)) (cwV 2 X.1.2.2.2.2 gL_isStep_X1_name rfl rfl rfl (by decide +kernel) ⟨Nat.le_of_ble_eq_true rfl, Nat.le_of_ble_eq_true rfl⟩) rfl rfl (Nat.le_of_ble_eq_true rfl) dL_isStep_295 ?_
        rw [R_nam2 hcz hn]
        refine p_istore (lv' := [(7, .int (bm K.1.1 (nI nm) 12)), (0, .ref (ad 10 0)), (1, .ref (bd 10 0)), (2, .int x), (3, .int y), (4, .int w), (5, .int (nI nm)), (6, .int (nI cn))]) X dL_isStep_298 (by decide) rfl ?_
        refine p_aload_n (q := 1) X dL_isStep_300 rfl rfl ?_
        refine p_iload (q := 6) X dL_isStep_301 rfl ?_
        refine p_iconst (v := (nI 1)) X dL_isStep_303 (by decide) ?_
        refine p_o (As := [.int (nI nm), .int (nI 1)]) X (q_name l z K Po (nI nm) (nI 1)) (cwV 2 X.1.2.2.2.2 gL_isStep_X1_name rfl rfl rfl (by decide +kernel) ⟨Nat.le_of_ble_eq_true rfl, Nat.le_of_ble_eq_true rfl⟩) rfl rfl (Nat.le_of_ble_eq_true rfl) dL_isStep_304 ?_
        rw [R_nam1 hcz hn, wh_n0 h8 hb]
        refine p_istore (lv' := [(8, .int (nI 0)), (7, .int (bm K.1.1 (nI nm) 12)), (0, .ref (ad 10 0)), (1, .ref (bd 10 0)), (2, .int x), (3, .int y), (4, .int w), (5, .int (nI nm)), (6, .int (nI cn))]) X dL_isStep_307 (by decide) rfl ?_
        refine p_aload_n (q := 2) X dL_isStep_309 rfl rfl ?_
        refine p_bipush (v := (nI 8)) X dL_isStep_310 (by decide) ?_
        refine p_o (As := [.int (nI 8)]) X (q_count l z K Po 8 (by decide)) (cwV 1 X.1.2.2.2.2 gL_isStep_X1_count rfl rfl rfl (by decide +kernel) ⟨Nat.le_of_ble_eq_true rfl, Nat.le_of_ble_eq_true rfl⟩) rfl rfl (Nat.le_of_ble_eq_true rfl) dL_isStep_312 ?_
        rw [R_cnt8]
        refine p_istore (lv' := [(9, .int (sm (K.1.1 11) 12)), (8, .int (nI 0)), (7, .int (bm K.1.1 (nI nm) 12)), (0, .ref (ad 10 0)), (1, .ref (bd 10 0)), (2, .int x), (3, .int y), (4, .int w), (5, .int (nI nm)), (6, .int (nI cn))]) X dL_isStep_315 (by decide) rfl ?_
        refine p_iload_n (q := 6) X dL_isStep_317 rfl rfl ?_
        refine p_iconst (v := (nI 3)) X dL_isStep_318 (by decide) ?_
        refine p_callS (As := [.int y, .int (nI 3)]) X (kL_up l D ad bd cs A B z y 3 (by omega) (by omega) ((K, Po), (K, Pp))) (va_cwS 2 X.1.2.2.2.2 gL_isStep_L_up rfl rfl rfl (by decide +kernel) ⟨Nat.le_of_ble_eq_true rfl, Nat.le_of_ble_eq_true rfl⟩) rfl rfl (Nat.le_of_ble_eq_true rfl) dL_isStep_319 (fun r319 m319 h319 => ?_)
        obtain ⟨h319, e319⟩ := h319
        have e319 := e319.symm
        subst e319
        subst h319
        have hu319 := uq_lt y (n := 3) (by omega)
        refine p_if_le (tgt := 327) X dL_isStep_322 (by decide) (fun c322 => ?_) (fun c322 => ?_)
        · skip
          refine p_aload_n (q := 3) X dL_isStep_327 rfl rfl ?_
          refine p_iload (q := 8) X dL_isStep_328 rfl ?_
          refine p_o (As := [.int (nI nm)]) X (q_withdraw l z K Po (nI nm)) (cwV 1 X.1.2.2.2.2 gL_isStep_X1_withdraw rfl rfl rfl (by decide +kernel) ⟨Nat.le_of_ble_eq_true rfl, Nat.le_of_ble_eq_true rfl⟩) rfl rfl (Nat.le_of_ble_eq_true rfl) dL_isStep_330 ?_
          rw [R_wit0 hcz hn h8]
          refine p_istore (lv' := [(10, .int (nI (nb K.1.1 (nI nm) 12))), (9, .int (sm (K.1.1 11) 12)), (8, .int (nI 0)), (7, .int (bm K.1.1 (nI nm) 12)), (0, .ref (ad 10 0)), (1, .ref (bd 10 0)), (2, .int x), (3, .int y), (4, .int w), (5, .int (nI nm)), (6, .int (nI cn))]) X dL_isStep_333 (by decide) rfl ?_
          refine p_iconst (v := (nI 0)) X dL_isStep_335 (by decide) ?_
          refine p_istore (lv' := [(11, .int (nI 0)), (10, .int (nI (nb K.1.1 (nI nm) 12))), (9, .int (sm (K.1.1 11) 12)), (8, .int (nI 0)), (7, .int (bm K.1.1 (nI nm) 12)), (0, .ref (ad 10 0)), (1, .ref (bd 10 0)), (2, .int x), (3, .int y), (4, .int w), (5, .int (nI nm)), (6, .int (nI cn))]) X dL_isStep_336 (by decide) rfl ?_
          refine p_iconst (v := (nI 0)) X dL_isStep_338 (by decide) ?_
          refine p_istore (lv' := [(12, .int (nI 0)), (11, .int (nI 0)), (10, .int (nI (nb K.1.1 (nI nm) 12))), (9, .int (sm (K.1.1 11) 12)), (8, .int (nI 0)), (7, .int (bm K.1.1 (nI nm) 12)), (0, .ref (ad 10 0)), (1, .ref (bd 10 0)), (2, .int x), (3, .int y), (4, .int w), (5, .int (nI nm)), (6, .int (nI cn))]) X dL_isStep_339 (by decide) rfl ?_
          refine p_lv (lv1 := [(12, .int (nI 0)), (11, .int (nI 0)), (0, .ref (ad 10 0)), (1, .ref (bd 10 0)), (2, .int x), (3, .int y), (4, .int w), (5, .int (nI nm)), (6, .int (nI cn)), (7, .int (bm K.1.1 (nI nm) 12)), (8, .int (nI 0)), (9, .int (sm (K.1.1 11) 12)), (10, .int (nI (nb K.1.1 (nI nm) 12)))]) [0, 1, 6, 7, 8, 9, 10, 11, 12, 5, 4, 3, 2] rfl ?_
          refine loop2 (G := P2 p l e _ s m args below meth c 0 0 _ _ D ad bd cs A B) (pc := 341) (fun (j : Nat) (q : Nat) => [(12, .int (nI j)), (11, .int (nI q)), (0, .ref (ad 10 0)), (1, .ref (bd 10 0)), (2, .int x), (3, .int y), (4, .int w), (5, .int (nI nm)), (6, .int (nI cn)), (7, .int (bm K.1.1 (nI nm) 12)), (8, .int (nI 0)), (9, .int (sm (K.1.1 11) 12)), (10, .int (nI (nb K.1.1 (nI nm) 12)))]) (fun (j : Nat) (q : Nat) => ((gWit K (nI nm), Po), (K, Pp))) (fun (j : Nat) (q : Nat) => j ≤ 12 ∧ q = nb K.1.1 (nI nm) j) (fun (j : Nat) (q : Nat) => 12 - j) ?_ 0 0 ⟨by omega, rfl⟩
          intro j q hI341 ih341
          try dsimp only at ih341 ⊢
          obtain ⟨hj, hq⟩ := hI341
          have hnj := nb_le K.1.1 (nI nm) j
          refine p_iload (q := 0) X dL_isStep_341 rfl ?_
          refine p_bipush (v := (nI 12)) X dL_isStep_343 (by decide) ?_
          refine p_ncmp_ge (tgt := 375) X j 12 dL_isStep_345 (by decide) rfl rfl (by omega) (by omega) (fun c345 => ?_) (fun c345 => ?_)
          · skip
            refine p_iload (q := 12) X dL_isStep_375 rfl ?_
            refine p_aload_n (q := 3) X dL_isStep_377 rfl rfl ?_
            refine p_iload (q := 7) X dL_isStep_378 rfl ?_
            refine p_p (As := [.int (nI nm)]) X (q_withdraw l z K Pp (nI nm)) (cwV 1 X.1.2.2.2.2 gL_isStep_X1_withdraw rfl rfl rfl (by decide +kernel) ⟨Nat.le_of_ble_eq_true rfl, Nat.le_of_ble_eq_true rfl⟩) rfl rfl (Nat.le_of_ble_eq_true rfl) dL_isStep_380 ?_
            rw [R_wit0 hcz hn h8]
            refine p_ncmp_ne (tgt := 428) X (nb K.1.1 (nI nm) 12) (nb K.1.1 (nI nm) 12) dL_isStep_383 (by decide) rfl rfl (by omega) (by omega) (fun c383 => absurd rfl c383) (fun c383 => ?_)
            refine p_iload (q := 12) X dL_isStep_386 rfl ?_
            refine p_iload (q := 10) X dL_isStep_388 rfl ?_
            refine p_if_ge (tgt := 397) X dL_isStep_390 (by decide) (fun c390 => ?_) (fun c390 => absurd (by decide) c390)
            refine p_iload (q := 10) X dL_isStep_397 rfl ?_
            refine p_iconst (v := (nI 2)) X dL_isStep_399 (by decide) ?_
            refine p_ncmp_ne (tgt := 408) X 0 2 dL_isStep_400 (by decide) rfl rfl (by omega) (by omega) (fun c400 => ?_) (fun c400 => absurd (by decide) c400)
            refine p_iload (q := 1) X dL_isStep_408 rfl ?_
            refine p_ncmp_ne (tgt := 428) X (nb K.1.1 (nI nm) 12) q dL_isStep_410 (by decide) rfl rfl (by omega) (by omega) (fun c410 => absurd (show nb K.1.1 (nI nm) 12 = q by rw [hq, show j = 12 by omega]) c410) (fun c410 => ?_)
            refine p_aload_n (q := 2) X dL_isStep_413 rfl rfl ?_
            refine p_bipush (v := (nI 8)) X dL_isStep_414 (by decide) ?_
            refine p_o (As := [.int (nI 8)]) X (q_count l z (gWit K (nI nm)) Po 8 (by decide)) (cwV 1 X.1.2.2.2.2 gL_isStep_X1_count rfl rfl rfl (by decide +kernel) ⟨Nat.le_of_ble_eq_true rfl, Nat.le_of_ble_eq_true rfl⟩) rfl rfl (Nat.le_of_ble_eq_true rfl) dL_isStep_416 ?_
            rw [R_cnt8, gWit_11]
            refine p_iload (q := 11) X dL_isStep_419 rfl ?_
            refine p_icmp_ne (tgt := 428) X dL_isStep_421 (by decide) (fun c421 => absurd rfl c421) (fun c421 => ?_)
            refine p_iconst (v := (nI 1)) X dL_isStep_424 (by decide) ?_
            refine p_goto (tgt := 429) X dL_isStep_425 (by decide) ?_
            exact p_zret X hr hlk (by first | exact Or.inl rfl | exact Or.inr rfl) ⟨rfl, gWit K (nI nm), _, _, rfl, hwk.wit⟩ dL_isStep_429
          · skip
            refine p_iload (q := 1) X dL_isStep_348 rfl ?_
            refine p_iload (q := 9) X dL_isStep_350 rfl ?_
            refine p_if_le (tgt := 365) X dL_isStep_352 (by decide) (fun c352 => ?_) (fun c352 => ?_)
            · skip
              refine p_iconst (v := (nI 0)) X dL_isStep_365 (by decide) ?_
              refine p_iadd (v := (nI (q + 0))) X dL_isStep_366 (nI_add _ _) ?_
              refine p_istore (lv' := [(11, .int (nI (q + 0))), (12, .int (nI j)), (0, .ref (ad 10 0)), (1, .ref (bd 10 0)), (2, .int x), (3, .int y), (4, .int w), (5, .int (nI nm)), (6, .int (nI cn)), (7, .int (bm K.1.1 (nI nm) 12)), (8, .int (nI 0)), (9, .int (sm (K.1.1 11) 12)), (10, .int (nI (nb K.1.1 (nI nm) 12)))]) X dL_isStep_367 (by decide) rfl ?_
              refine p_iinc (q := 1) (v := (nI (j + 1))) (lv' := [(12, .int (nI (j + 1))), (11, .int (nI (q + 0))), (0, .ref (ad 10 0)), (1, .ref (bd 10 0)), (2, .int x), (3, .int y), (4, .int w), (5, .int (nI nm)), (6, .int (nI cn)), (7, .int (bm K.1.1 (nI nm) 12)), (8, .int (nI 0)), (9, .int (sm (K.1.1 11) 12)), (10, .int (nI (nb K.1.1 (nI nm) 12)))]) X dL_isStep_369 rfl (nI_1 _) (by decide) rfl ?_
              refine p_goto (tgt := 341) X dL_isStep_372 (by decide) ?_
              have hz := bm_np (Int32.not_lt.mpr c352)
              have hm1 := nb_mono (V := K.1.1) (x := nI nm) 12 (show j + 1 ≤ 12 by omega)
              have hm2 := nb_mono (V := K.1.1) (x := nI nm) 12 (show j ≤ 12 by omega)
              exact ih341 (j + 1) (q + 0) ⟨by omega, by omega⟩ (by omega)
            · skip
              refine p_iload (q := 9) X dL_isStep_355 rfl ?_
              refine p_iload (q := 0) X dL_isStep_357 rfl ?_
              refine p_ishr (v := ((bm K.1.1 (nI nm) 12) >>> ((nI j) &&& 31))) X dL_isStep_359 rfl ?_
              refine p_iconst (v := (nI 1)) X dL_isStep_360 (by decide) ?_
              refine p_iand (v := (nI (if K.1.1 10 j = nI nm then 1 else 0))) X dL_isStep_361 (bm_sh2 (by omega)) ?_
              refine p_goto (tgt := 366) X dL_isStep_362 (by decide) ?_
              refine p_iadd (v := (nI (q + (if K.1.1 10 j = nI nm then 1 else 0)))) X dL_isStep_366 (nI_add _ _) ?_
              refine p_istore (lv' := [(11, .int (nI (q + (if K.1.1 10 j = nI nm then 1 else 0)))), (12, .int (nI j)), (0, .ref (ad 10 0)), (1, .ref (bd 10 0)), (2, .int x), (3, .int y), (4, .int w), (5, .int (nI nm)), (6, .int (nI cn)), (7, .int (bm K.1.1 (nI nm) 12)), (8, .int (nI 0)), (9, .int (sm (K.1.1 11) 12)), (10, .int (nI (nb K.1.1 (nI nm) 12)))]) X dL_isStep_367 (by decide) rfl ?_
              refine p_iinc (q := 1) (v := (nI (j + 1))) (lv' := [(12, .int (nI (j + 1))), (11, .int (nI (q + (if K.1.1 10 j = nI nm then 1 else 0)))), (0, .ref (ad 10 0)), (1, .ref (bd 10 0)), (2, .int x), (3, .int y), (4, .int w), (5, .int (nI nm)), (6, .int (nI cn)), (7, .int (bm K.1.1 (nI nm) 12)), (8, .int (nI 0)), (9, .int (sm (K.1.1 11) 12)), (10, .int (nI (nb K.1.1 (nI nm) 12)))]) X dL_isStep_369 rfl (nI_1 _) (by decide) rfl ?_
              refine p_goto (tgt := 341) X dL_isStep_372 (by decide) ?_
              exact ih341 (j + 1) (q + (if K.1.1 10 j = nI nm then 1 else 0)) ⟨by omega, nb_step hq⟩ (by omega)
        · skip
          refine p_iconst (v := (nI 1)) X dL_isStep_325 (by decide) ?_
          exact p_zret X hr hlk (by first | exact Or.inl rfl | exact Or.inr rfl) ⟨rfl, K, _, _, rfl, hwk.mono (Nat.le_succ t)⟩ dL_isStep_326
    · skip
      refine p_aload_n (q := 0) X dL_isStep_291 rfl rfl ?_
      refine p_iload (q := 5) X dL_isStep_292 rfl ?_
      refine p_iconst (v := (nI 2)) X dL_isStep_294 (by decide) ?_
      refine p_o (As := [.int (nI nm), .int (nI 2)]) X (q_name l z K Po (nI nm) (nI 2)) (cwV 2 X.1.2.2.2.2 gL_isStep_X1_name rfl rfl rfl (by decide +kernel) ⟨Nat.le_of_ble_eq_true rfl, Nat.le_of_ble_eq_true rfl⟩) rfl rfl (Nat.le_of_ble_eq_true rfl) dL_isStep_295 ?_
      rw [R_nam2 hcz hn]
      refine p_istore (lv' := [(7, .int (bm K.1.1 (nI nm) 12)), (0, .ref (ad 10 0)), (1, .ref (bd 10 0)), (2, .int x), (3, .int y), (4, .int w), (5, .int (nI nm)), (6, .int (nI cn))]) X dL_isStep_298 (by decide) rfl ?_
      refine p_aload_n (q := 1) X dL_isStep_300 rfl rfl ?_
      refine p_iload (q := 6) X dL_isStep_301 rfl ?_
      refine p_iconst (v := (nI 1)) X dL_isStep_303 (by decide) ?_
      refine p_o (As := [.int (nI nm), .int (nI 1)]) X (q_name l z K Po (nI nm) (nI 1)) (cwV 2 X.1.2.2.2.2 gL_isStep_X1_name rfl rfl rfl (by decide +kernel) ⟨Nat.le_of_ble_eq_true rfl, Nat.le_of_ble_eq_true rfl⟩) rfl rfl (Nat.le_of_ble_eq_true rfl) dL_isStep_304 ?_
      rw [R_nam1 hcz hn, wh_n2 h8]
      refine p_istore (lv' := [(8, .int (nI 2)), (7, .int (bm K.1.1 (nI nm) 12)), (0, .ref (ad 10 0)), (1, .ref (bd 10 0)), (2, .int x), (3, .int y), (4, .int w), (5, .int (nI nm)), (6, .int (nI cn))]) X dL_isStep_307 (by decide) rfl ?_
      refine p_aload_n (q := 2) X dL_isStep_309 rfl rfl ?_
      refine p_bipush (v := (nI 8)) X dL_isStep_310 (by decide) ?_
      refine p_o (As := [.int (nI 8)]) X (q_count l z K Po 8 (by decide)) (cwV 1 X.1.2.2.2.2 gL_isStep_X1_count rfl rfl rfl (by decide +kernel) ⟨Nat.le_of_ble_eq_true rfl, Nat.le_of_ble_eq_true rfl⟩) rfl rfl (Nat.le_of_ble_eq_true rfl) dL_isStep_312 ?_
      rw [R_cnt8]
      refine p_istore (lv' := [(9, .int (sm (K.1.1 11) 12)), (8, .int (nI 2)), (7, .int (bm K.1.1 (nI nm) 12)), (0, .ref (ad 10 0)), (1, .ref (bd 10 0)), (2, .int x), (3, .int y), (4, .int w), (5, .int (nI nm)), (6, .int (nI cn))]) X dL_isStep_315 (by decide) rfl ?_
      refine p_iload_n (q := 6) X dL_isStep_317 rfl rfl ?_
      refine p_iconst (v := (nI 3)) X dL_isStep_318 (by decide) ?_
      refine p_callS (As := [.int y, .int (nI 3)]) X (kL_up l D ad bd cs A B z y 3 (by omega) (by omega) ((K, Po), (K, Pp))) (va_cwS 2 X.1.2.2.2.2 gL_isStep_L_up rfl rfl rfl (by decide +kernel) ⟨Nat.le_of_ble_eq_true rfl, Nat.le_of_ble_eq_true rfl⟩) rfl rfl (Nat.le_of_ble_eq_true rfl) dL_isStep_319 (fun r319 m319 h319 => ?_)
      obtain ⟨h319, e319⟩ := h319
      have e319 := e319.symm
      subst e319
      subst h319
      have hu319 := uq_lt y (n := 3) (by omega)
      refine p_if_le (tgt := 327) X dL_isStep_322 (by decide) (fun c322 => ?_) (fun c322 => ?_)
      · skip
        refine p_aload_n (q := 3) X dL_isStep_327 rfl rfl ?_
        refine p_iload (q := 8) X dL_isStep_328 rfl ?_
        refine p_o (As := [.int (nI nm)]) X (q_withdraw l z K Po (nI nm)) (cwV 1 X.1.2.2.2.2 gL_isStep_X1_withdraw rfl rfl rfl (by decide +kernel) ⟨Nat.le_of_ble_eq_true rfl, Nat.le_of_ble_eq_true rfl⟩) rfl rfl (Nat.le_of_ble_eq_true rfl) dL_isStep_330 ?_
        rw [R_wit2 hcz hn h8]
        refine p_istore (lv' := [(10, .int (-5)), (9, .int (sm (K.1.1 11) 12)), (8, .int (nI 2)), (7, .int (bm K.1.1 (nI nm) 12)), (0, .ref (ad 10 0)), (1, .ref (bd 10 0)), (2, .int x), (3, .int y), (4, .int w), (5, .int (nI nm)), (6, .int (nI cn))]) X dL_isStep_333 (by decide) rfl ?_
        refine p_iconst (v := (nI 0)) X dL_isStep_335 (by decide) ?_
        refine p_istore (lv' := [(11, .int (nI 0)), (10, .int (-5)), (9, .int (sm (K.1.1 11) 12)), (8, .int (nI 2)), (7, .int (bm K.1.1 (nI nm) 12)), (0, .ref (ad 10 0)), (1, .ref (bd 10 0)), (2, .int x), (3, .int y), (4, .int w), (5, .int (nI nm)), (6, .int (nI cn))]) X dL_isStep_336 (by decide) rfl ?_
        refine p_iconst (v := (nI 0)) X dL_isStep_338 (by decide) ?_
        refine p_istore (lv' := [(12, .int (nI 0)), (11, .int (nI 0)), (10, .int (-5)), (9, .int (sm (K.1.1 11) 12)), (8, .int (nI 2)), (7, .int (bm K.1.1 (nI nm) 12)), (0, .ref (ad 10 0)), (1, .ref (bd 10 0)), (2, .int x), (3, .int y), (4, .int w), (5, .int (nI nm)), (6, .int (nI cn))]) X dL_isStep_339 (by decide) rfl ?_
        refine p_lv (lv1 := [(12, .int (nI 0)), (11, .int (nI 0)), (0, .ref (ad 10 0)), (1, .ref (bd 10 0)), (2, .int x), (3, .int y), (4, .int w), (5, .int (nI nm)), (6, .int (nI cn)), (7, .int (bm K.1.1 (nI nm) 12)), (8, .int (nI 2)), (9, .int (sm (K.1.1 11) 12)), (10, .int (-5))]) [0, 1, 6, 7, 8, 9, 10, 11, 12, 5, 4, 3, 2] rfl ?_
        refine loop2 (G := P2 p l e _ s m args below meth c 0 0 _ _ D ad bd cs A B) (pc := 341) (fun (j : Nat) (q : Nat) => [(12, .int (nI j)), (11, .int (nI q)), (0, .ref (ad 10 0)), (1, .ref (bd 10 0)), (2, .int x), (3, .int y), (4, .int w), (5, .int (nI nm)), (6, .int (nI cn)), (7, .int (bm K.1.1 (nI nm) 12)), (8, .int (nI 2)), (9, .int (sm (K.1.1 11) 12)), (10, .int (-5))]) (fun (j : Nat) (q : Nat) => ((gWit K (nI nm), Po), (K, Pp))) (fun (j : Nat) (q : Nat) => j ≤ 12 ∧ q = nb K.1.1 (nI nm) j) (fun (j : Nat) (q : Nat) => 12 - j) ?_ 0 0 ⟨by omega, rfl⟩
        intro j q hI341 ih341
        try dsimp only at ih341 ⊢
        obtain ⟨hj, hq⟩ := hI341
        have hnj := nb_le K.1.1 (nI nm) j
        refine p_iload (q := 0) X dL_isStep_341 rfl ?_
        refine p_bipush (v := (nI 12)) X dL_isStep_343 (by decide) ?_
        refine p_ncmp_ge (tgt := 375) X j 12 dL_isStep_345 (by decide) rfl rfl (by omega) (by omega) (fun c345 => ?_) (fun c345 => ?_)
        · skip
          refine p_iload (q := 12) X dL_isStep_375 rfl ?_
          refine p_aload_n (q := 3) X dL_isStep_377 rfl rfl ?_
          refine p_iload (q := 7) X dL_isStep_378 rfl ?_
          refine p_p (As := [.int (nI nm)]) X (q_withdraw l z K Pp (nI nm)) (cwV 1 X.1.2.2.2.2 gL_isStep_X1_withdraw rfl rfl rfl (by decide +kernel) ⟨Nat.le_of_ble_eq_true rfl, Nat.le_of_ble_eq_true rfl⟩) rfl rfl (Nat.le_of_ble_eq_true rfl) dL_isStep_380 ?_
          rw [R_wit2 hcz hn h8]
          refine p_icmp_ne (tgt := 428) X dL_isStep_383 (by decide) (fun c383 => absurd rfl c383) (fun c383 => ?_)
          refine p_iload (q := 12) X dL_isStep_386 rfl ?_
          refine p_iload (q := 10) X dL_isStep_388 rfl ?_
          refine p_if_ge (tgt := 397) X dL_isStep_390 (by decide) (fun c390 => ?_) (fun c390 => absurd (by decide) c390)
          refine p_iload (q := 10) X dL_isStep_397 rfl ?_
          refine p_iconst (v := (nI 2)) X dL_isStep_399 (by decide) ?_
          refine p_ncmp_ne (tgt := 408) X 2 2 dL_isStep_400 (by decide) rfl rfl (by omega) (by omega) (fun c400 => absurd c400 (by decide)) (fun c400 => ?_)
          refine p_bipush (v := (-5)) X dL_isStep_403 (by decide) ?_
          refine p_goto (tgt := 410) X dL_isStep_405 (by decide) ?_
          refine p_icmp_ne (tgt := 428) X dL_isStep_410 (by decide) (fun c410 => absurd rfl c410) (fun c410 => ?_)
          refine p_aload_n (q := 2) X dL_isStep_413 rfl rfl ?_
          refine p_bipush (v := (nI 8)) X dL_isStep_414 (by decide) ?_
          refine p_o (As := [.int (nI 8)]) X (q_count l z (gWit K (nI nm)) Po 8 (by decide)) (cwV 1 X.1.2.2.2.2 gL_isStep_X1_count rfl rfl rfl (by decide +kernel) ⟨Nat.le_of_ble_eq_true rfl, Nat.le_of_ble_eq_true rfl⟩) rfl rfl (Nat.le_of_ble_eq_true rfl) dL_isStep_416 ?_
          rw [R_cnt8, gWit_11]
          refine p_iload (q := 11) X dL_isStep_419 rfl ?_
          refine p_icmp_ne (tgt := 428) X dL_isStep_421 (by decide) (fun c421 => absurd rfl c421) (fun c421 => ?_)
          refine p_iconst (v := (nI 1)) X dL_isStep_424 (by decide) ?_
          refine p_goto (tgt := 429) X dL_isStep_425 (by decide) ?_
          exact p_zret X hr hlk (by first | exact Or.inl rfl | exact Or.inr rfl) ⟨rfl, gWit K (nI nm), _, _, rfl, hwk.wit⟩ dL_isStep_429
        · skip
          refine p_iload (q := 1) X dL_isStep_348 rfl ?_
          refine p_iload (q := 9) X dL_isStep_350 rfl ?_
          refine p_if_le (tgt := 365) X dL_isStep_352 (by decide) (fun c352 => ?_) (fun c352 => ?_)
          · skip
            refine p_iconst (v := (nI 0)) X dL_isStep_365 (by decide) ?_
            refine p_iadd (v := (nI (q + 0))) X dL_isStep_366 (nI_add _ _) ?_
            refine p_istore (lv' := [(11, .int (nI (q + 0))), (12, .int (nI j)), (0, .ref (ad 10 0)), (1, .ref (bd 10 0)), (2, .int x), (3, .int y), (4, .int w), (5, .int (nI nm)), (6, .int (nI cn)), (7, .int (bm K.1.1 (nI nm) 12)), (8, .int (nI 2)), (9, .int (sm (K.1.1 11) 12)), (10, .int (-5))]) X dL_isStep_367 (by decide) rfl ?_
            refine p_iinc (q := 1) (v := (nI (j + 1))) (lv' := [(12, .int (nI (j + 1))), (11, .int (nI (q + 0))), (0, .ref (ad 10 0)), (1, .ref (bd 10 0)), (2, .int x), (3, .int y), (4, .int w), (5, .int (nI nm)), (6, .int (nI cn)), (7, .int (bm K.1.1 (nI nm) 12)), (8, .int (nI 2)), (9, .int (sm (K.1.1 11) 12)), (10, .int (-5))]) X dL_isStep_369 rfl (nI_1 _) (by decide) rfl ?_
            refine p_goto (tgt := 341) X dL_isStep_372 (by decide) ?_
            have hz := bm_np (Int32.not_lt.mpr c352)
            have hm1 := nb_mono (V := K.1.1) (x := nI nm) 12 (show j + 1 ≤ 12 by omega)
            have hm2 := nb_mono (V := K.1.1) (x := nI nm) 12 (show j ≤ 12 by omega)
            exact ih341 (j + 1) (q + 0) ⟨by omega, by omega⟩ (by omega)
          · skip
            refine p_iload (q := 9) X dL_isStep_355 rfl ?_
            refine p_iload (q := 0) X dL_isStep_357 rfl ?_
            refine p_ishr (v := ((bm K.1.1 (nI nm) 12) >>> ((nI j) &&& 31))) X dL_isStep_359 rfl ?_
            refine p_iconst (v := (nI 1)) X dL_isStep_360 (by decide) ?_
            refine p_iand (v := (nI (if K.1.1 10 j = nI nm then 1 else 0))) X dL_isStep_361 (bm_sh2 (by omega)) ?_
            refine p_goto (tgt := 366) X dL_isStep_362 (by decide) ?_
            refine p_iadd (v := (nI (q + (if K.1.1 10 j = nI nm then 1 else 0)))) X dL_isStep_366 (nI_add _ _) ?_
            refine p_istore (lv' := [(11, .int (nI (q + (if K.1.1 10 j = nI nm then 1 else 0)))), (12, .int (nI j)), (0, .ref (ad 10 0)), (1, .ref (bd 10 0)), (2, .int x), (3, .int y), (4, .int w), (5, .int (nI nm)), (6, .int (nI cn)), (7, .int (bm K.1.1 (nI nm) 12)), (8, .int (nI 2)), (9, .int (sm (K.1.1 11) 12)), (10, .int (-5))]) X dL_isStep_367 (by decide) rfl ?_
            refine p_iinc (q := 1) (v := (nI (j + 1))) (lv' := [(12, .int (nI (j + 1))), (11, .int (nI (q + (if K.1.1 10 j = nI nm then 1 else 0)))), (0, .ref (ad 10 0)), (1, .ref (bd 10 0)), (2, .int x), (3, .int y), (4, .int w), (5, .int (nI nm)), (6, .int (nI cn)), (7, .int (bm K.1.1 (nI nm) 12)), (8, .int (nI 2)), (9, .int (sm (K.1.1 11) 12)), (10, .int (-5))]) X dL_isStep_369 rfl (nI_1 _) (by decide) rfl ?_
            refine p_goto (tgt := 341) X dL_isStep_372 (by decide) ?_
            exact ih341 (j + 1) (q + (if K.1.1 10 j = nI nm then 1 else 0)) ⟨by omega, nb_step hq⟩ (by omega)
      · skip
        refine p_iconst (v := (nI 1)) X dL_isStep_325 (by decide) ?_
        exact p_zret X hr hlk (by first | exact Or.inl rfl | exact Or.inr rfl) ⟨rfl, K, _, _, rfl, hwk.mono (Nat.le_succ t)⟩ dL_isStep_326
  · subst hn
    refine p_aload_n (q := 0) X dL_isStep_291 rfl rfl ?_
    refine p_iload (q := 5) X dL_isStep_292 rfl ?_
    refine p_iconst (v := (nI 2)) X dL_isStep_294 (by decide) ?_
    refine p_o (As := [.int (nI K.1.2), .int (nI 2)]) X (q_name l z K Po (nI K.1.2) (nI 2)) (cwV 2 X.1.2.2.2.2 gL_isStep_X1_name rfl rfl rfl (by decide +kernel) ⟨Nat.le_of_ble_eq_true rfl, Nat.le_of_ble_eq_true rfl⟩) rfl rfl (Nat.le_of_ble_eq_true rfl) dL_isStep_295 ?_
    rw [R_namN hcz]
    refine p_istore (lv' := [(7, .int (-1)), (0, .ref (ad 10 0)), (1, .ref (bd 10 0)), (2, .int x), (3, .int y), (4, .int w), (5, .int (nI K.1.2)), (6, .int (nI cn))]) X dL_isStep_298 (by decide) rfl ?_
    refine p_aload_n (q := 1) X dL_isStep_300 rfl rfl ?_
    refine p_iload (q := 6) X dL_isStep_301 rfl ?_
    refine p_iconst (v := (nI 1)) X dL_isStep_303 (by decide) ?_
    refine p_o (As := [.int (nI K.1.2), .int (nI 1)]) X (q_name l z K Po (nI K.1.2) (nI 1)) (cwV 2 X.1.2.2.2.2 gL_isStep_X1_name rfl rfl rfl (by decide +kernel) ⟨Nat.le_of_ble_eq_true rfl, Nat.le_of_ble_eq_true rfl⟩) rfl rfl (Nat.le_of_ble_eq_true rfl) dL_isStep_304 ?_
    rw [R_namN hcz]
    refine p_istore (lv' := [(8, .int (-1)), (7, .int (-1)), (0, .ref (ad 10 0)), (1, .ref (bd 10 0)), (2, .int x), (3, .int y), (4, .int w), (5, .int (nI K.1.2)), (6, .int (nI cn))]) X dL_isStep_307 (by decide) rfl ?_
    refine p_aload_n (q := 2) X dL_isStep_309 rfl rfl ?_
    refine p_bipush (v := (nI 8)) X dL_isStep_310 (by decide) ?_
    refine p_o (As := [.int (nI 8)]) X (q_count l z K Po 8 (by decide)) (cwV 1 X.1.2.2.2.2 gL_isStep_X1_count rfl rfl rfl (by decide +kernel) ⟨Nat.le_of_ble_eq_true rfl, Nat.le_of_ble_eq_true rfl⟩) rfl rfl (Nat.le_of_ble_eq_true rfl) dL_isStep_312 ?_
    rw [R_cnt8]
    refine p_istore (lv' := [(9, .int (sm (K.1.1 11) 12)), (8, .int (-1)), (7, .int (-1)), (0, .ref (ad 10 0)), (1, .ref (bd 10 0)), (2, .int x), (3, .int y), (4, .int w), (5, .int (nI K.1.2)), (6, .int (nI cn))]) X dL_isStep_315 (by decide) rfl ?_
    refine p_iload_n (q := 6) X dL_isStep_317 rfl rfl ?_
    refine p_iconst (v := (nI 3)) X dL_isStep_318 (by decide) ?_
    refine p_callS (As := [.int y, .int (nI 3)]) X (kL_up l D ad bd cs A B z y 3 (by omega) (by omega) ((K, Po), (K, Pp))) (va_cwS 2 X.1.2.2.2.2 gL_isStep_L_up rfl rfl rfl (by decide +kernel) ⟨Nat.le_of_ble_eq_true rfl, Nat.le_of_ble_eq_true rfl⟩) rfl rfl (Nat.le_of_ble_eq_true rfl) dL_isStep_319 (fun r319 m319 h319 => ?_)
    obtain ⟨h319, e319⟩ := h319
    have e319 := e319.symm
    subst e319
    subst h319
    have hu319 := uq_lt y (n := 3) (by omega)
    refine p_if_le (tgt := 327) X dL_isStep_322 (by decide) (fun c322 => ?_) (fun c322 => ?_)
    · skip
      refine p_aload_n (q := 3) X dL_isStep_327 rfl rfl ?_
      refine p_iload (q := 8) X dL_isStep_328 rfl ?_
      refine p_o (As := [.int (nI K.1.2)]) X (q_withdraw l z K Po (nI K.1.2)) (cwV 1 X.1.2.2.2.2 gL_isStep_X1_withdraw rfl rfl rfl (by decide +kernel) ⟨Nat.le_of_ble_eq_true rfl, Nat.le_of_ble_eq_true rfl⟩) rfl rfl (Nat.le_of_ble_eq_true rfl) dL_isStep_330 ?_
      rw [R_witN hcz]
      refine p_istore (lv' := [(10, .int (-1)), (9, .int (sm (K.1.1 11) 12)), (8, .int (-1)), (7, .int (-1)), (0, .ref (ad 10 0)), (1, .ref (bd 10 0)), (2, .int x), (3, .int y), (4, .int w), (5, .int (nI K.1.2)), (6, .int (nI cn))]) X dL_isStep_333 (by decide) rfl ?_
      refine p_iconst (v := (nI 0)) X dL_isStep_335 (by decide) ?_
      refine p_istore (lv' := [(11, .int (nI 0)), (10, .int (-1)), (9, .int (sm (K.1.1 11) 12)), (8, .int (-1)), (7, .int (-1)), (0, .ref (ad 10 0)), (1, .ref (bd 10 0)), (2, .int x), (3, .int y), (4, .int w), (5, .int (nI K.1.2)), (6, .int (nI cn))]) X dL_isStep_336 (by decide) rfl ?_
      refine p_iconst (v := (nI 0)) X dL_isStep_338 (by decide) ?_
      refine p_istore (lv' := [(12, .int (nI 0)), (11, .int (nI 0)), (10, .int (-1)), (9, .int (sm (K.1.1 11) 12)), (8, .int (-1)), (7, .int (-1)), (0, .ref (ad 10 0)), (1, .ref (bd 10 0)), (2, .int x), (3, .int y), (4, .int w), (5, .int (nI K.1.2)), (6, .int (nI cn))]) X dL_isStep_339 (by decide) rfl ?_
      refine p_lv (lv1 := [(12, .int (nI 0)), (11, .int (nI 0)), (0, .ref (ad 10 0)), (1, .ref (bd 10 0)), (2, .int x), (3, .int y), (4, .int w), (5, .int (nI K.1.2)), (6, .int (nI cn)), (7, .int (-1)), (8, .int (-1)), (9, .int (sm (K.1.1 11) 12)), (10, .int (-1))]) [0, 1, 6, 7, 8, 9, 10, 11, 12, 5, 4, 3, 2] rfl ?_
      refine loop2 (G := P2 p l e _ s m args below meth c 0 0 _ _ D ad bd cs A B) (pc := 341) (fun (j : Nat) (q : Nat) => [(12, .int (nI j)), (11, .int (nI q)), (0, .ref (ad 10 0)), (1, .ref (bd 10 0)), (2, .int x), (3, .int y), (4, .int w), (5, .int (nI K.1.2)), (6, .int (nI cn)), (7, .int (-1)), (8, .int (-1)), (9, .int (sm (K.1.1 11) 12)), (10, .int (-1))]) (fun (j : Nat) (q : Nat) => ((gWit K (nI K.1.2), Po), (K, Pp))) (fun (j : Nat) (q : Nat) => j ≤ 12 ∧ q = 0) (fun (j : Nat) (q : Nat) => 12 - j) ?_ 0 0 ⟨by omega, rfl⟩
      intro j q hI341 ih341
      try dsimp only at ih341 ⊢
      obtain ⟨hj, hq⟩ := hI341
      refine p_iload (q := 0) X dL_isStep_341 rfl ?_
      refine p_bipush (v := (nI 12)) X dL_isStep_343 (by decide) ?_
      refine p_ncmp_ge (tgt := 375) X j 12 dL_isStep_345 (by decide) rfl rfl (by omega) (by omega) (fun c345 => ?_) (fun c345 => ?_)
      · skip
        refine p_iload (q := 12) X dL_isStep_375 rfl ?_
        refine p_aload_n (q := 3) X dL_isStep_377 rfl rfl ?_
        refine p_iload (q := 7) X dL_isStep_378 rfl ?_
        refine p_p (As := [.int (nI K.1.2)]) X (q_withdraw l z K Pp (nI K.1.2)) (cwV 1 X.1.2.2.2.2 gL_isStep_X1_withdraw rfl rfl rfl (by decide +kernel) ⟨Nat.le_of_ble_eq_true rfl, Nat.le_of_ble_eq_true rfl⟩) rfl rfl (Nat.le_of_ble_eq_true rfl) dL_isStep_380 ?_
        rw [R_witN hcz]
        refine p_icmp_ne (tgt := 428) X dL_isStep_383 (by decide) (fun c383 => absurd rfl c383) (fun c383 => ?_)
        refine p_iload (q := 12) X dL_isStep_386 rfl ?_
        refine p_iload (q := 10) X dL_isStep_388 rfl ?_
        refine p_if_ge (tgt := 397) X dL_isStep_390 (by decide) (fun c390 => absurd c390 (by decide)) (fun c390 => ?_)
        refine p_iconst (v := (-1)) X dL_isStep_393 (by decide) ?_
        refine p_goto (tgt := 410) X dL_isStep_394 (by decide) ?_
        refine p_icmp_ne (tgt := 428) X dL_isStep_410 (by decide) (fun c410 => absurd rfl c410) (fun c410 => ?_)
        refine p_aload_n (q := 2) X dL_isStep_413 rfl rfl ?_
        refine p_bipush (v := (nI 8)) X dL_isStep_414 (by decide) ?_
        refine p_o (As := [.int (nI 8)]) X (q_count l z (gWit K (nI K.1.2)) Po 8 (by decide)) (cwV 1 X.1.2.2.2.2 gL_isStep_X1_count rfl rfl rfl (by decide +kernel) ⟨Nat.le_of_ble_eq_true rfl, Nat.le_of_ble_eq_true rfl⟩) rfl rfl (Nat.le_of_ble_eq_true rfl) dL_isStep_416 ?_
        rw [R_cnt8, gWit_11]
        refine p_iload (q := 11) X dL_isStep_419 rfl ?_
        refine p_icmp_ne (tgt := 428) X dL_isStep_421 (by decide) (fun c421 => absurd rfl c421) (fun c421 => ?_)
        refine p_iconst (v := (nI 1)) X dL_isStep_424 (by decide) ?_
        refine p_goto (tgt := 429) X dL_isStep_425 (by decide) ?_
        exact p_zret X hr hlk (by first | exact Or.inl rfl | exact Or.inr rfl) ⟨rfl, gWit K (nI K.1.2), _, _, rfl, hwk.wit⟩ dL_isStep_429
      · skip
        refine p_iload (q := 1) X dL_isStep_348 rfl ?_
        refine p_iload (q := 9) X dL_isStep_350 rfl ?_
        refine p_if_le (tgt := 365) X dL_isStep_352 (by decide) (fun c352 => ?_) (fun c352 => absurd (by decide) c352)
        refine p_iconst (v := (nI 0)) X dL_isStep_365 (by decide) ?_
        refine p_iadd (v := (nI (q + 0))) X dL_isStep_366 (nI_add _ _) ?_
        refine p_istore (lv' := [(11, .int (nI (q + 0))), (12, .int (nI j)), (0, .ref (ad 10 0)), (1, .ref (bd 10 0)), (2, .int x), (3, .int y), (4, .int w), (5, .int (nI K.1.2)), (6, .int (nI cn)), (7, .int (-1)), (8, .int (-1)), (9, .int (sm (K.1.1 11) 12)), (10, .int (-1))]) X dL_isStep_367 (by decide) rfl ?_
        refine p_iinc (q := 1) (v := (nI (j + 1))) (lv' := [(12, .int (nI (j + 1))), (11, .int (nI (q + 0))), (0, .ref (ad 10 0)), (1, .ref (bd 10 0)), (2, .int x), (3, .int y), (4, .int w), (5, .int (nI K.1.2)), (6, .int (nI cn)), (7, .int (-1)), (8, .int (-1)), (9, .int (sm (K.1.1 11) 12)), (10, .int (-1))]) X dL_isStep_369 rfl (nI_1 _) (by decide) rfl ?_
        refine p_goto (tgt := 341) X dL_isStep_372 (by decide) ?_
        exact ih341 (j + 1) (q + 0) ⟨by omega, by omega⟩ (by omega)
    · skip
      refine p_iconst (v := (nI 1)) X dL_isStep_325 (by decide) ?_
      exact p_zret X hr hlk (by first | exact Or.inl rfl | exact Or.inr rfl) ⟨rfl, K, _, _, rfl, hwk.mono (Nat.le_succ t)⟩ dL_isStep_326
set_option maxHeartbeats 4000000 in
set_option maxRecDepth 100000 in
theorem ss_str (l : Launch) (D : va_G) (ad bd : Nat → Nat → Nat) (cs : Nat → ClassId) (A B : Nat → Prop) (z : Nat → Nat) {p : Program} {e : Env} {s : State} {m : MethodId} {args : Array Value} {below : List Frame} {meth : Method} {c : Code} (hr : meth.sig.returnType = some .boolean) (hlk : meth.locks = false) (X : PX p s m args c cL_isStep 13 yL_isStep.cls wsL_isStep (rm 7 160) 0 0 D ad bd cs A B z) (K : KS) (Po Pp : PS) (x y w : Int32) (t nm cn : Nat) (hwk : WK K t) (ht : t ≤ 53) (hnm : nm ≤ K.1.2) (hcn : cn < 12) (hcz : CZ K.1.1 K.1.2) : P2 p l e (rm 7 160) s m args below meth c 0 0 (MQ below (va_Qi (SP t) (QP D ad bd cs) (U2 A B)) args s 0 0 (U2 A B)) 13 D ad bd cs A B 430 [(0, .ref (ad 10 0)), (1, .ref (bd 10 0)), (2, .int x), (3, .int y), (4, .int w), (5, .int (nI nm)), (6, .int (nI cn))] [] ((K, Po), (K, Pp)) := by
  have hN20 := hcz.le
  rcases hcz.c10 cn hcn with hb | ⟨n0, hn0, hb⟩
  · skip
    refine p_aload_n (q := 0) X dL_isStep_430 rfl rfl ?_
    refine p_iload (q := 6) X dL_isStep_431 rfl ?_
    refine p_iconst (v := (nI 0)) X dL_isStep_433 (by decide) ?_
    refine p_o (As := [.int (nI cn), .int (nI 0)]) X (q_corner l z K Po (nI cn) (nI 0)) (cwV 2 X.1.2.2.2.2 gL_isStep_X1_corner rfl rfl rfl (by decide +kernel) ⟨Nat.le_of_ble_eq_true rfl, Nat.le_of_ble_eq_true rfl⟩) rfl rfl (Nat.le_of_ble_eq_true rfl) dL_isStep_434 ?_
    rw [R_cor0 hcn, hb]
    refine p_istore (lv' := [(7, .int (-6)), (0, .ref (ad 10 0)), (1, .ref (bd 10 0)), (2, .int x), (3, .int y), (4, .int w), (5, .int (nI nm)), (6, .int (nI cn))]) X dL_isStep_437 (by decide) rfl ?_
    refine p_aload_n (q := 1) X dL_isStep_439 rfl rfl ?_
    refine p_iload (q := 7) X dL_isStep_440 rfl ?_
    refine p_iconst (v := (nI 1)) X dL_isStep_442 (by decide) ?_
    refine p_o (As := [.int (nI cn), .int (nI 1)]) X (q_corner l z K Po (nI cn) (nI 1)) (cwV 2 X.1.2.2.2.2 gL_isStep_X1_corner rfl rfl rfl (by decide +kernel) ⟨Nat.le_of_ble_eq_true rfl, Nat.le_of_ble_eq_true rfl⟩) rfl rfl (Nat.le_of_ble_eq_true rfl) dL_isStep_443 ?_
    rw [R_cor1 hcn]
    refine p_istore (lv' := [(8, .int (K.1.1 11 cn)), (7, .int (-6)), (0, .ref (ad 10 0)), (1, .ref (bd 10 0)), (2, .int x), (3, .int y), (4, .int w), (5, .int (nI nm)), (6, .int (nI cn))]) X dL_isStep_446 (by decide) rfl ?_
    refine p_aload_n (q := 2) X dL_isStep_448 rfl rfl ?_
    refine p_iload (q := 8) X dL_isStep_449 rfl ?_
    refine p_o (As := [.int (nI cn)]) X (q_strip l z K Po (nI cn)) (cwV 1 X.1.2.2.2.2 gL_isStep_X1_strip rfl rfl rfl (by decide +kernel) ⟨Nat.le_of_ble_eq_true rfl, Nat.le_of_ble_eq_true rfl⟩) rfl rfl (Nat.le_of_ble_eq_true rfl) dL_isStep_451 ?_
    rw [R_str6 hcn hb]
    refine p_istore (lv' := [(9, .int (-5)), (8, .int (K.1.1 11 cn)), (7, .int (-6)), (0, .ref (ad 10 0)), (1, .ref (bd 10 0)), (2, .int x), (3, .int y), (4, .int w), (5, .int (nI nm)), (6, .int (nI cn))]) X dL_isStep_454 (by decide) rfl ?_
    refine p_iload (q := 0) X dL_isStep_456 rfl ?_
    refine p_aload_n (q := 4) X dL_isStep_458 rfl rfl ?_
    refine p_iload (q := 9) X dL_isStep_459 rfl ?_
    refine p_p (As := [.int (nI cn)]) X (q_strip l z K Pp (nI cn)) (cwV 1 X.1.2.2.2.2 gL_isStep_X1_strip rfl rfl rfl (by decide +kernel) ⟨Nat.le_of_ble_eq_true rfl, Nat.le_of_ble_eq_true rfl⟩) rfl rfl (Nat.le_of_ble_eq_true rfl) dL_isStep_461 ?_
    rw [R_str6 hcn hb]
    refine p_icmp_ne (tgt := 519) X dL_isStep_464 (by decide) (fun c464 => absurd rfl c464) (fun c464 => ?_)
    refine p_iload (q := 0) X dL_isStep_467 rfl ?_
    refine p_iload (q := 2) X dL_isStep_469 rfl ?_
    refine p_if_ge (tgt := 479) X dL_isStep_471 (by decide) (fun c471 => absurd c471 (by decide)) (fun c471 => ?_)
    refine p_bipush (v := (-5)) X dL_isStep_474 (by decide) ?_
    refine p_goto (tgt := 481) X dL_isStep_476 (by decide) ?_
    refine p_icmp_ne (tgt := 519) X dL_isStep_481 (by decide) (fun c481 => absurd rfl c481) (fun c481 => ?_)
    refine p_iload (q := 2) X dL_isStep_484 rfl ?_
    refine p_if_lt (tgt := 515) X dL_isStep_486 (by decide) (fun c486 => ?_) (fun c486 => absurd (by decide) c486)
    refine p_iconst (v := (nI 1)) X dL_isStep_515 (by decide) ?_
    refine p_goto (tgt := 520) X dL_isStep_516 (by decide) ?_
    exact p_zret X hr hlk (by first | exact Or.inl rfl | exact Or.inr rfl) ⟨rfl, gStr K (nI cn), _, _, rfl, hwk.str hcn⟩ dL_isStep_520
  · skip
    have hg := gStr_n hcn (by omega) hb
    refine p_aload_n (q := 0) X dL_isStep_430 rfl rfl ?_
    refine p_iload (q := 6) X dL_isStep_431 rfl ?_
    refine p_iconst (v := (nI 0)) X dL_isStep_433 (by decide) ?_
    refine p_o (As := [.int (nI cn), .int (nI 0)]) X (q_corner l z K Po (nI cn) (nI 0)) (cwV 2 X.1.2.2.2.2 gL_isStep_X1_corner rfl rfl rfl (by decide +kernel) ⟨Nat.le_of_ble_eq_true rfl, Nat.le_of_ble_eq_true rfl⟩) rfl rfl (Nat.le_of_ble_eq_true rfl) dL_isStep_434 ?_
    rw [R_cor0 hcn, hb]
    refine p_istore (lv' := [(7, .int (nI n0)), (0, .ref (ad 10 0)), (1, .ref (bd 10 0)), (2, .int x), (3, .int y), (4, .int w), (5, .int (nI nm)), (6, .int (nI cn))]) X dL_isStep_437 (by decide) rfl ?_
    refine p_aload_n (q := 1) X dL_isStep_439 rfl rfl ?_
    refine p_iload (q := 7) X dL_isStep_440 rfl ?_
    refine p_iconst (v := (nI 1)) X dL_isStep_442 (by decide) ?_
    refine p_o (As := [.int (nI cn), .int (nI 1)]) X (q_corner l z K Po (nI cn) (nI 1)) (cwV 2 X.1.2.2.2.2 gL_isStep_X1_corner rfl rfl rfl (by decide +kernel) ⟨Nat.le_of_ble_eq_true rfl, Nat.le_of_ble_eq_true rfl⟩) rfl rfl (Nat.le_of_ble_eq_true rfl) dL_isStep_443 ?_
    rw [R_cor1 hcn]
    refine p_istore (lv' := [(8, .int (K.1.1 11 cn)), (7, .int (nI n0)), (0, .ref (ad 10 0)), (1, .ref (bd 10 0)), (2, .int x), (3, .int y), (4, .int w), (5, .int (nI nm)), (6, .int (nI cn))]) X dL_isStep_446 (by decide) rfl ?_
    refine p_aload_n (q := 2) X dL_isStep_448 rfl rfl ?_
    refine p_iload (q := 8) X dL_isStep_449 rfl ?_
    refine p_o (As := [.int (nI cn)]) X (q_strip l z K Po (nI cn)) (cwV 1 X.1.2.2.2.2 gL_isStep_X1_strip rfl rfl rfl (by decide +kernel) ⟨Nat.le_of_ble_eq_true rfl, Nat.le_of_ble_eq_true rfl⟩) rfl rfl (Nat.le_of_ble_eq_true rfl) dL_isStep_451 ?_
    rw [R_strn hcn (by omega) hb]
    refine p_istore (lv' := [(9, .int (nI n0)), (8, .int (K.1.1 11 cn)), (7, .int (nI n0)), (0, .ref (ad 10 0)), (1, .ref (bd 10 0)), (2, .int x), (3, .int y), (4, .int w), (5, .int (nI nm)), (6, .int (nI cn))]) X dL_isStep_454 (by decide) rfl ?_
    refine p_iload (q := 0) X dL_isStep_456 rfl ?_
    refine p_aload_n (q := 4) X dL_isStep_458 rfl rfl ?_
    refine p_iload (q := 9) X dL_isStep_459 rfl ?_
    refine p_p (As := [.int (nI cn)]) X (q_strip l z K Pp (nI cn)) (cwV 1 X.1.2.2.2.2 gL_isStep_X1_strip rfl rfl rfl (by decide +kernel) ⟨Nat.le_of_ble_eq_true rfl, Nat.le_of_ble_eq_true rfl⟩) rfl rfl (Nat.le_of_ble_eq_true rfl) dL_isStep_461 ?_
    rw [R_strn hcn (by omega) hb]
    refine p_ncmp_ne (tgt := 519) X n0 n0 dL_isStep_464 (by decide) rfl rfl (by omega) (by omega) (fun c464 => absurd rfl c464) (fun c464 => ?_)
    refine p_iload (q := 0) X dL_isStep_467 rfl ?_
    refine p_iload (q := 2) X dL_isStep_469 rfl ?_
    refine p_if_ge (tgt := 479) X dL_isStep_471 (by decide) (fun c471 => ?_) (fun c471 => absurd (nI_pos' (by omega)) c471)
    refine p_iload (q := 2) X dL_isStep_479 rfl ?_
    refine p_ncmp_ne (tgt := 519) X n0 n0 dL_isStep_481 (by decide) rfl rfl (by omega) (by omega) (fun c481 => absurd rfl c481) (fun c481 => ?_)
    refine p_iload (q := 2) X dL_isStep_484 rfl ?_
    refine p_if_lt (tgt := 515) X dL_isStep_486 (by decide) (fun c486 => absurd c486 (nI_pos (by omega))) (fun c486 => ?_)
    refine p_aload_n (q := 3) X dL_isStep_489 rfl rfl ?_
    refine p_iload (q := 9) X dL_isStep_490 rfl ?_
    refine p_iconst (v := (nI 0)) X dL_isStep_492 (by decide) ?_
    refine p_o (As := [.int (nI cn), .int (nI 0)]) X (q_corner l z (gStr K (nI cn)) Po (nI cn) (nI 0)) (cwV 2 X.1.2.2.2.2 gL_isStep_X1_corner rfl rfl rfl (by decide +kernel) ⟨Nat.le_of_ble_eq_true rfl, Nat.le_of_ble_eq_true rfl⟩) rfl rfl (Nat.le_of_ble_eq_true rfl) dL_isStep_493 ?_
    rw [R_cor0 hcn, hg.1]
    refine p_bipush (v := (-6)) X dL_isStep_496 (by decide) ?_
    refine p_icmp_ne (tgt := 519) X dL_isStep_498 (by decide) (fun c498 => absurd rfl c498) (fun c498 => ?_)
    refine p_aload_n (q := 3) X dL_isStep_501 rfl rfl ?_
    refine p_iload (q := 9) X dL_isStep_502 rfl ?_
    refine p_iconst (v := (nI 1)) X dL_isStep_504 (by decide) ?_
    refine p_o (As := [.int (nI cn), .int (nI 1)]) X (q_corner l z (gStr K (nI cn)) Po (nI cn) (nI 1)) (cwV 2 X.1.2.2.2.2 gL_isStep_X1_corner rfl rfl rfl (by decide +kernel) ⟨Nat.le_of_ble_eq_true rfl, Nat.le_of_ble_eq_true rfl⟩) rfl rfl (Nat.le_of_ble_eq_true rfl) dL_isStep_505 ?_
    rw [R_cor1 hcn, hg.2]
    refine p_iload (q := 1) X dL_isStep_508 rfl ?_
    refine p_iconst (v := (nI 1)) X dL_isStep_510 (by decide) ?_
    refine p_iadd (v := ((K.1.1 11 cn) + (nI 1))) X dL_isStep_511 rfl ?_
    refine p_icmp_ne (tgt := 519) X dL_isStep_512 (by decide) (fun c512 => absurd rfl c512) (fun c512 => ?_)
    refine p_iconst (v := (nI 1)) X dL_isStep_515 (by decide) ?_
    refine p_goto (tgt := 520) X dL_isStep_516 (by decide) ?_
    exact p_zret X hr hlk (by first | exact Or.inl rfl | exact Or.inr rfl) ⟨rfl, gStr K (nI cn), _, _, rfl, hwk.str hcn⟩ dL_isStep_520
set_option maxHeartbeats 4000000 in
set_option maxRecDepth 100000 in
theorem ss_iss (l : Launch) (D : va_G) (ad bd : Nat → Nat → Nat) (cs : Nat → ClassId) (A B : Nat → Prop) (z : Nat → Nat) {p : Program} {e : Env} {s : State} {m : MethodId} {args : Array Value} {below : List Frame} {meth : Method} {c : Code} (hr : meth.sig.returnType = some .boolean) (hlk : meth.locks = false) (X : PX p s m args c cL_isStep 13 yL_isStep.cls wsL_isStep (rm 7 160) 0 0 D ad bd cs A B z) (K : KS) (Po Pp : PS) (x y w : Int32) (t nm cn : Nat) (hwk : WK K t) (ht : t ≤ 53) (hnm : nm ≤ K.1.2) (hcn : cn < 12) (hcz : CZ K.1.1 K.1.2) : P2 p l e (rm 7 160) s m args below meth c 0 0 (MQ below (va_Qi (SP t) (QP D ad bd cs) (U2 A B)) args s 0 0 (U2 A B)) 13 D ad bd cs A B 521 [(0, .ref (ad 10 0)), (1, .ref (bd 10 0)), (2, .int x), (3, .int y), (4, .int w), (5, .int (nI nm)), (6, .int (nI cn))] [] ((K, Po), (K, Pp)) := by
  have hN20 := hcz.le
  refine p_aload_n (q := 0) X dL_isStep_521 rfl rfl ?_
  refine p_bipush (v := (nI 11)) X dL_isStep_522 (by decide) ?_
  refine p_o (As := [.int (nI 11)]) X (q_count l z K Po 11 (by decide)) (cwV 1 X.1.2.2.2.2 gL_isStep_X1_count rfl rfl rfl (by decide +kernel) ⟨Nat.le_of_ble_eq_true rfl, Nat.le_of_ble_eq_true rfl⟩) rfl rfl (Nat.le_of_ble_eq_true rfl) dL_isStep_524 ?_
  rw [R_cnt11]
  refine p_istore (lv' := [(7, .int (wmS K.1.1)), (0, .ref (ad 10 0)), (1, .ref (bd 10 0)), (2, .int x), (3, .int y), (4, .int w), (5, .int (nI nm)), (6, .int (nI cn))]) X dL_isStep_527 (by decide) rfl ?_
  refine p_aload_n (q := 1) X dL_isStep_529 rfl rfl ?_
  refine p_o (As := []) X (q_issue l z K Po ) (cwV 0 X.1.2.2.2.2 gL_isStep_X1_issue rfl rfl rfl (by decide +kernel) ⟨Nat.le_of_ble_eq_true rfl, Nat.le_of_ble_eq_true rfl⟩) rfl rfl (Nat.le_of_ble_eq_true rfl) dL_isStep_530 ?_
  refine p_iload (q := 0) X dL_isStep_533 rfl ?_
  refine p_icmp_ne (tgt := 560) X dL_isStep_535 (by decide) (fun c535 => absurd rfl c535) (fun c535 => ?_)
  refine p_aload_n (q := 2) X dL_isStep_538 rfl rfl ?_
  refine p_p (As := []) X (q_issue l z K Pp ) (cwV 0 X.1.2.2.2.2 gL_isStep_X1_issue rfl rfl rfl (by decide +kernel) ⟨Nat.le_of_ble_eq_true rfl, Nat.le_of_ble_eq_true rfl⟩) rfl rfl (Nat.le_of_ble_eq_true rfl) dL_isStep_539 ?_
  refine p_iload (q := 0) X dL_isStep_542 rfl ?_
  refine p_icmp_ne (tgt := 560) X dL_isStep_544 (by decide) (fun c544 => absurd rfl c544) (fun c544 => ?_)
  refine p_aload_n (q := 1) X dL_isStep_547 rfl rfl ?_
  refine p_bipush (v := (nI 11)) X dL_isStep_548 (by decide) ?_
  refine p_o (As := [.int (nI 11)]) X (q_count l z (gIss K) Po 11 (by decide)) (cwV 1 X.1.2.2.2.2 gL_isStep_X1_count rfl rfl rfl (by decide +kernel) ⟨Nat.le_of_ble_eq_true rfl, Nat.le_of_ble_eq_true rfl⟩) rfl rfl (Nat.le_of_ble_eq_true rfl) dL_isStep_550 ?_
  rw [R_cnt11, gIss_w]
  refine p_if_ne (tgt := 560) X dL_isStep_553 (by decide) (fun c553 => absurd c553 (by decide)) (fun c553 => ?_)
  refine p_iconst (v := (nI 1)) X dL_isStep_556 (by decide) ?_
  refine p_goto (tgt := 561) X dL_isStep_557 (by decide) ?_
  exact p_zret X hr hlk (by first | exact Or.inl rfl | exact Or.inr rfl) ⟨rfl, gIss K, _, _, rfl, hwk.iss⟩ dL_isStep_561
set_option maxHeartbeats 4000000 in
set_option maxRecDepth 100000 in
theorem ss_sav (l : Launch) (D : va_G) (ad bd : Nat → Nat → Nat) (cs : Nat → ClassId) (A B : Nat → Prop) (z : Nat → Nat) {p : Program} {e : Env} {s : State} {m : MethodId} {args : Array Value} {below : List Frame} {meth : Method} {c : Code} (hr : meth.sig.returnType = some .boolean) (hlk : meth.locks = false) (X : PX p s m args c cL_isStep 13 yL_isStep.cls wsL_isStep (rm 7 160) 0 0 D ad bd cs A B z) (K : KS) (Po Pp : PS) (x y w : Int32) (t nm cn : Nat) (hwk : WK K t) (ht : t ≤ 53) (hnm : nm ≤ K.1.2) (hcn : cn < 12) (hcz : CZ K.1.1 K.1.2) : P2 p l e (rm 7 160) s m args below meth c 0 0 (MQ below (va_Qi (SP t) (QP D ad bd cs) (U2 A B)) args s 0 0 (U2 A B)) 13 D ad bd cs A B 562 [(0, .ref (ad 10 0)), (1, .ref (bd 10 0)), (2, .int x), (3, .int y), (4, .int w), (5, .int (nI nm)), (6, .int (nI cn))] [] ((K, Po), (K, Pp)) := by
  have hN20 := hcz.le
  refine p_iload_n (q := 3) X dL_isStep_562 rfl rfl ?_
  refine p_iconst (v := (nI 2)) X dL_isStep_563 (by decide) ?_
  refine p_callS (As := [.int y, .int (nI 2)]) X (kL_up l D ad bd cs A B z y 2 (by omega) (by omega) ((K, Po), (K, Pp))) (va_cwS 2 X.1.2.2.2.2 gL_isStep_L_up rfl rfl rfl (by decide +kernel) ⟨Nat.le_of_ble_eq_true rfl, Nat.le_of_ble_eq_true rfl⟩) rfl rfl (Nat.le_of_ble_eq_true rfl) dL_isStep_564 (fun r564 m564 h564 => ?_)
  obtain ⟨h564, e564⟩ := h564
  have e564 := e564.symm
  subst e564
  subst h564
  have hu564 := uq_lt y (n := 2) (by omega)
  refine p_if_ne (tgt := 601) X dL_isStep_567 (by decide) (fun c567 => ?_) (fun c567 => ?_)
  · skip
    refine p_aload_n (q := 0) X dL_isStep_601 rfl rfl ?_
    refine p_iload (q := 4) X dL_isStep_602 rfl ?_
    refine p_iconst (v := (nI 2)) X dL_isStep_604 (by decide) ?_
    refine p_callS (As := [.int w, .int (nI 2)]) X (kL_up l D ad bd cs A B z w 2 (by omega) (by omega) ((K, Po), (K, Pp))) (va_cwS 2 X.1.2.2.2.2 gL_isStep_L_up rfl rfl rfl (by decide +kernel) ⟨Nat.le_of_ble_eq_true rfl, Nat.le_of_ble_eq_true rfl⟩) rfl rfl (Nat.le_of_ble_eq_true rfl) dL_isStep_605 (fun r605 m605 h605 => ?_)
    obtain ⟨h605, e605⟩ := h605
    have e605 := e605.symm
    subst e605
    subst h605
    have hu605 := uq_lt w (n := 2) (by omega)
    obtain ⟨si, esi, hsi⟩ : ∃ q, uq w 2 = q ∧ q < 2 := ⟨_, rfl, hu605⟩
    rw [esi]
    refine p_o (As := [.int (nI si)]) X (q_restore l z K Po si (by omega)) (cwV 1 X.1.2.2.2.2 gL_isStep_X1_restore rfl rfl rfl (by decide +kernel) ⟨Nat.le_of_ble_eq_true rfl, Nat.le_of_ble_eq_true rfl⟩) rfl rfl (Nat.le_of_ble_eq_true rfl) dL_isStep_608 ?_
    refine p_aload_n (q := 1) X dL_isStep_611 rfl rfl ?_
    refine p_iload (q := 4) X dL_isStep_612 rfl ?_
    refine p_iconst (v := (nI 2)) X dL_isStep_614 (by decide) ?_
    refine p_callS (As := [.int w, .int (nI 2)]) X (kL_up l D ad bd cs A B z w 2 (by omega) (by omega) ((gRes K si, Po), (K, Pp))) (va_cwS 2 X.1.2.2.2.2 gL_isStep_L_up rfl rfl rfl (by decide +kernel) ⟨Nat.le_of_ble_eq_true rfl, Nat.le_of_ble_eq_true rfl⟩) rfl rfl (Nat.le_of_ble_eq_true rfl) dL_isStep_615 (fun r615 m615 h615 => ?_)
    obtain ⟨h615, e615⟩ := h615
    have e615 := e615.symm
    subst e615
    subst h615
    have hu615 := uq_lt w (n := 2) (by omega)
    rw [esi]
    refine p_p (As := [.int (nI si)]) X (q_restore l z K Pp si (by omega)) (cwV 1 X.1.2.2.2.2 gL_isStep_X1_restore rfl rfl rfl (by decide +kernel) ⟨Nat.le_of_ble_eq_true rfl, Nat.le_of_ble_eq_true rfl⟩) rfl rfl (Nat.le_of_ble_eq_true rfl) dL_isStep_618 ?_
    refine p_icmp_ne (tgt := 628) X dL_isStep_621 (by decide) (fun c621 => absurd rfl c621) (fun c621 => ?_)
    refine p_iconst (v := (nI 1)) X dL_isStep_624 (by decide) ?_
    refine p_goto (tgt := 629) X dL_isStep_625 (by decide) ?_
    exact p_zret X hr hlk (by first | exact Or.inl rfl | exact Or.inr rfl) ⟨rfl, gRes K si, _, _, rfl, hwk.res (by omega)⟩ dL_isStep_629
  · skip
    refine p_aload_n (q := 0) X dL_isStep_570 rfl rfl ?_
    refine p_iload (q := 4) X dL_isStep_571 rfl ?_
    refine p_iconst (v := (nI 2)) X dL_isStep_573 (by decide) ?_
    refine p_callS (As := [.int w, .int (nI 2)]) X (kL_up l D ad bd cs A B z w 2 (by omega) (by omega) ((K, Po), (K, Pp))) (va_cwS 2 X.1.2.2.2.2 gL_isStep_L_up rfl rfl rfl (by decide +kernel) ⟨Nat.le_of_ble_eq_true rfl, Nat.le_of_ble_eq_true rfl⟩) rfl rfl (Nat.le_of_ble_eq_true rfl) dL_isStep_574 (fun r574 m574 h574 => ?_)
    obtain ⟨h574, e574⟩ := h574
    have e574 := e574.symm
    subst e574
    subst h574
    have hu574 := uq_lt w (n := 2) (by omega)
    obtain ⟨si, esi, hsi⟩ : ∃ q, uq w 2 = q ∧ q < 2 := ⟨_, rfl, hu574⟩
    rw [esi]
    refine p_o (As := [.int (nI si)]) X (q_save l z K Po si (by omega)) (cwV 1 X.1.2.2.2.2 gL_isStep_X1_save rfl rfl rfl (by decide +kernel) ⟨Nat.le_of_ble_eq_true rfl, Nat.le_of_ble_eq_true rfl⟩) rfl rfl (Nat.le_of_ble_eq_true rfl) dL_isStep_577 ?_
    refine p_aload_n (q := 1) X dL_isStep_580 rfl rfl ?_
    refine p_iload (q := 4) X dL_isStep_581 rfl ?_
    refine p_iconst (v := (nI 2)) X dL_isStep_583 (by decide) ?_
    refine p_callS (As := [.int w, .int (nI 2)]) X (kL_up l D ad bd cs A B z w 2 (by omega) (by omega) ((gSav K si, Po), (K, Pp))) (va_cwS 2 X.1.2.2.2.2 gL_isStep_L_up rfl rfl rfl (by decide +kernel) ⟨Nat.le_of_ble_eq_true rfl, Nat.le_of_ble_eq_true rfl⟩) rfl rfl (Nat.le_of_ble_eq_true rfl) dL_isStep_584 (fun r584 m584 h584 => ?_)
    obtain ⟨h584, e584⟩ := h584
    have e584 := e584.symm
    subst e584
    subst h584
    have hu584 := uq_lt w (n := 2) (by omega)
    rw [esi]
    refine p_p (As := [.int (nI si)]) X (q_save l z K Pp si (by omega)) (cwV 1 X.1.2.2.2.2 gL_isStep_X1_save rfl rfl rfl (by decide +kernel) ⟨Nat.le_of_ble_eq_true rfl, Nat.le_of_ble_eq_true rfl⟩) rfl rfl (Nat.le_of_ble_eq_true rfl) dL_isStep_587 ?_
    refine p_icmp_ne (tgt := 597) X dL_isStep_590 (by decide) (fun c590 => absurd rfl c590) (fun c590 => ?_)
    refine p_iconst (v := (nI 1)) X dL_isStep_593 (by decide) ?_
    refine p_goto (tgt := 629) X dL_isStep_594 (by decide) ?_
    exact p_zret X hr hlk (by first | exact Or.inl rfl | exact Or.inr rfl) ⟨rfl, gSav K si, _, _, rfl, hwk.sav (by omega)⟩ dL_isStep_629
set_option maxHeartbeats 4000000 in
set_option maxRecDepth 100000 in
theorem ss_read (l : Launch) (D : va_G) (ad bd : Nat → Nat → Nat) (cs : Nat → ClassId) (A B : Nat → Prop) (z : Nat → Nat) {p : Program} {e : Env} {s : State} {m : MethodId} {args : Array Value} {below : List Frame} {meth : Method} {c : Code} (hr : meth.sig.returnType = some .boolean) (hlk : meth.locks = false) (X : PX p s m args c cL_isStep 13 yL_isStep.cls wsL_isStep (rm 7 160) 0 0 D ad bd cs A B z) (K : KS) (Po Pp : PS) (x y w : Int32) (t nm cn : Nat) (hwk : WK K t) (ht : t ≤ 53) (hnm : nm ≤ K.1.2) (hcn : cn < 12) (hcz : CZ K.1.1 K.1.2) : P2 p l e (rm 7 160) s m args below meth c 0 0 (MQ below (va_Qi (SP t) (QP D ad bd cs) (U2 A B)) args s 0 0 (U2 A B)) 13 D ad bd cs A B 630 [(0, .ref (ad 10 0)), (1, .ref (bd 10 0)), (2, .int x), (3, .int y), (4, .int w), (5, .int (nI nm)), (6, .int (nI cn))] [] ((K, Po), (K, Pp)) := by
  have hN20 := hcz.le
  refine p_aload_n (q := 0) X dL_isStep_630 rfl rfl ?_
  refine p_aload_n (q := 1) X dL_isStep_631 rfl rfl ?_
  refine p_iload_n (q := 3) X dL_isStep_632 rfl rfl ?_
  refine p_iload (q := 4) X dL_isStep_633 rfl ?_
  refine p_callS (As := [.ref (ad 10 0), .ref (bd 10 0), .int y, .int w]) X (kL_isRead l D ad bd cs A B z K Po Pp y w t hwk) (va_cwS 4 X.1.2.2.2.2 gL_isStep_L_isRead rfl rfl rfl (by decide +kernel) ⟨Nat.le_of_ble_eq_true rfl, Nat.le_of_ble_eq_true rfl⟩) rfl rfl (Nat.le_of_ble_eq_true rfl) dL_isStep_635 (fun r m635 h635 => ?_)
  obtain ⟨h635, K1, P1, P2, e635, hk1⟩ := h635
  have e635 := e635.symm
  subst e635
  have hr1 : r = nI 1 := h635
  subst hr1
  exact p_zret X hr hlk (by first | exact Or.inl rfl | exact Or.inr rfl) ⟨rfl, K1, _, _, rfl, hk1⟩ dL_isStep_638
set_option maxHeartbeats 4000000 in
set_option maxRecDepth 100000 in
theorem ss_pas (l : Launch) (D : va_G) (ad bd : Nat → Nat → Nat) (cs : Nat → ClassId) (A B : Nat → Prop) (z : Nat → Nat) {p : Program} {e : Env} {s : State} {m : MethodId} {args : Array Value} {below : List Frame} {meth : Method} {c : Code} (hr : meth.sig.returnType = some .boolean) (hlk : meth.locks = false) (X : PX p s m args c cL_isStep 13 yL_isStep.cls wsL_isStep (rm 7 160) 0 0 D ad bd cs A B z) (K : KS) (Po Pp : PS) (x y w : Int32) (t nm cn : Nat) (hwk : WK K t) (ht : t ≤ 53) (hnm : nm ≤ K.1.2) (hcn : cn < 12) (hcz : CZ K.1.1 K.1.2) : P2 p l e (rm 7 160) s m args below meth c 0 0 (MQ below (va_Qi (SP t) (QP D ad bd cs) (U2 A B)) args s 0 0 (U2 A B)) 13 D ad bd cs A B 639 [(0, .ref (ad 10 0)), (1, .ref (bd 10 0)), (2, .int x), (3, .int y), (4, .int w), (5, .int (nI nm)), (6, .int (nI cn))] [] ((K, Po), (K, Pp)) := by
  have hN20 := hcz.le
  obtain ⟨dd, hdd, edd, -⟩ := hwk.1.2.1
  refine p_join (tgt := 664) (st1 := []) (μ1 := ((K, Po), (K, Pp))) (fun (d : Nat) => [(7, .int (nI d)), (0, .ref (ad 10 0)), (1, .ref (bd 10 0)), (2, .int x), (3, .int y), (4, .int w), (5, .int (nI nm)), (6, .int (nI cn))]) (fun (d : Nat) => 1 ≤ d ∧ d ≤ 99) ?_ (fun tail639 => ?_)
  · skip
    intro d hJ639
    try dsimp only at hJ639 ⊢
    refine p_aload_n (q := 1) X dL_isStep_664 rfl rfl ?_
    refine p_iconst (v := (nI 4)) X dL_isStep_665 (by decide) ?_
    refine p_o (As := [.int (nI 4)]) X (q_count l z K Po 4 (by decide)) (cwV 1 X.1.2.2.2.2 gL_isStep_X1_count rfl rfl rfl (by decide +kernel) ⟨Nat.le_of_ble_eq_true rfl, Nat.le_of_ble_eq_true rfl⟩) rfl rfl (Nat.le_of_ble_eq_true rfl) dL_isStep_666 ?_
    rw [R_cnt4, edd]
    refine p_istore (lv' := [(8, .int (nI dd)), (7, .int (nI d)), (0, .ref (ad 10 0)), (1, .ref (bd 10 0)), (2, .int x), (3, .int y), (4, .int w), (5, .int (nI nm)), (6, .int (nI cn))]) X dL_isStep_669 (by decide) rfl ?_
    refine p_aload_n (q := 2) X dL_isStep_671 rfl rfl ?_
    refine p_bipush (v := (nI 10)) X dL_isStep_672 (by decide) ?_
    refine p_o (As := [.int (nI 10)]) X (q_count l z K Po 10 (by decide)) (cwV 1 X.1.2.2.2.2 gL_isStep_X1_count rfl rfl rfl (by decide +kernel) ⟨Nat.le_of_ble_eq_true rfl, Nat.le_of_ble_eq_true rfl⟩) rfl rfl (Nat.le_of_ble_eq_true rfl) dL_isStep_674 ?_
    rw [R_cnt10]
    refine p_istore (lv' := [(9, .int (sm (K.1.1 9) 20)), (8, .int (nI dd)), (7, .int (nI d)), (0, .ref (ad 10 0)), (1, .ref (bd 10 0)), (2, .int x), (3, .int y), (4, .int w), (5, .int (nI nm)), (6, .int (nI cn))]) X dL_isStep_677 (by decide) rfl ?_
    refine p_iconst (v := (nI 0)) X dL_isStep_679 (by decide) ?_
    refine p_istore (lv' := [(10, .int (nI 0)), (9, .int (sm (K.1.1 9) 20)), (8, .int (nI dd)), (7, .int (nI d)), (0, .ref (ad 10 0)), (1, .ref (bd 10 0)), (2, .int x), (3, .int y), (4, .int w), (5, .int (nI nm)), (6, .int (nI cn))]) X dL_isStep_680 (by decide) rfl ?_
    refine p_iconst (v := (nI 0)) X dL_isStep_682 (by decide) ?_
    refine p_istore (lv' := [(11, .int (nI 0)), (10, .int (nI 0)), (9, .int (sm (K.1.1 9) 20)), (8, .int (nI dd)), (7, .int (nI d)), (0, .ref (ad 10 0)), (1, .ref (bd 10 0)), (2, .int x), (3, .int y), (4, .int w), (5, .int (nI nm)), (6, .int (nI cn))]) X dL_isStep_683 (by decide) rfl ?_
    refine p_eq (μ1 := ((K, Po), (DK K 0, Pp))) rfl ?_
    refine p_lv (lv1 := [(11, .int (nI 0)), (10, .int (nI 0)), (0, .ref (ad 10 0)), (1, .ref (bd 10 0)), (2, .int x), (3, .int y), (4, .int w), (5, .int (nI nm)), (6, .int (nI cn)), (7, .int (nI d)), (8, .int (nI dd)), (9, .int (sm (K.1.1 9) 20))]) [0, 1, 5, 6, 7, 8, 9, 10, 11, 4, 3, 2] rfl ?_
    refine loop2 (G := P2 p l e _ s m args below meth c 0 0 _ _ D ad bd cs A B) (pc := 685) (fun (k : Nat) (q : Nat) => [(11, .int (nI k)), (10, .int (nI q)), (0, .ref (ad 10 0)), (1, .ref (bd 10 0)), (2, .int x), (3, .int y), (4, .int w), (5, .int (nI nm)), (6, .int (nI cn)), (7, .int (nI d)), (8, .int (nI dd)), (9, .int (sm (K.1.1 9) 20))]) (fun (k : Nat) (q : Nat) => ((K, Po), (DK K k, Pp))) (fun (k : Nat) (q : Nat) => k ≤ d ∧ q = dn K k) (fun (k : Nat) (q : Nat) => d - k) ?_ 0 0 ⟨by omega, rfl⟩
    intro k q hI685 ih685
    try dsimp only at ih685 ⊢
    obtain ⟨hk, hq⟩ := hI685
    have hql : q ≤ k := by rw [hq]; exact dayn_le _ _ _ _ _
    refine p_iload (q := 0) X dL_isStep_685 rfl ?_
    refine p_iload (q := 9) X dL_isStep_687 rfl ?_
    refine p_ncmp_ge (tgt := 725) X k d dL_isStep_689 (by decide) rfl rfl (by omega) (by omega) (fun c689 => ?_) (fun c689 => ?_)
    · skip
      refine p_aload_n (q := 2) X dL_isStep_725 rfl rfl ?_
      refine p_iload (q := 9) X dL_isStep_726 rfl ?_
      have hpd := R_pasd (K := K) (d := d) edd hJ639.1 hJ639.2 (by omega)
      have hqd : q = dn K d := by rw [hq, show k = d by omega]
      have hkd : k = d := by omega
      refine p_o (As := [.int (nI d)]) X (q_pass l z K Po (nI d)) (cwV 1 X.1.2.2.2.2 gL_isStep_X1_pass rfl rfl rfl (by decide +kernel) ⟨Nat.le_of_ble_eq_true rfl, Nat.le_of_ble_eq_true rfl⟩) rfl rfl (Nat.le_of_ble_eq_true rfl) dL_isStep_728 ?_
      rw [hpd.1, hpd.2, ← hqd]
      refine p_iload (q := 1) X dL_isStep_731 rfl ?_
      refine p_ncmp_ne (tgt := 767) X q q dL_isStep_733 (by decide) rfl rfl (by omega) (by omega) (fun c733 => absurd rfl c733) (fun c733 => ?_)
      refine p_aload_n (q := 2) X dL_isStep_736 rfl rfl ?_
      refine p_iconst (v := (nI 4)) X dL_isStep_737 (by decide) ?_
      refine p_o (As := [.int (nI 4)]) X (q_count l z (DK K d) Po 4 (by decide)) (cwV 1 X.1.2.2.2.2 gL_isStep_X1_count rfl rfl rfl (by decide +kernel) ⟨Nat.le_of_ble_eq_true rfl, Nat.le_of_ble_eq_true rfl⟩) rfl rfl (Nat.le_of_ble_eq_true rfl) dL_isStep_738 ?_
      rw [R_cnt4, DK_01 edd]
      refine p_iload (q := 10) X dL_isStep_741 rfl ?_
      refine p_iload (q := 9) X dL_isStep_743 rfl ?_
      refine p_iadd (v := (nI (dd + d))) X dL_isStep_745 (nI_add _ _) ?_
      refine p_ncmp_ne (tgt := 767) X (dd + d) (dd + d) dL_isStep_746 (by decide) rfl rfl (by omega) (by omega) (fun c746 => absurd rfl c746) (fun c746 => ?_)
      refine p_aload_n (q := 2) X dL_isStep_749 rfl rfl ?_
      refine p_bipush (v := (nI 10)) X dL_isStep_750 (by decide) ?_
      refine p_o (As := [.int (nI 10)]) X (q_count l z (DK K d) Po 10 (by decide)) (cwV 1 X.1.2.2.2.2 gL_isStep_X1_count rfl rfl rfl (by decide +kernel) ⟨Nat.le_of_ble_eq_true rfl, Nat.le_of_ble_eq_true rfl⟩) rfl rfl (Nat.le_of_ble_eq_true rfl) dL_isStep_752 ?_
      rw [R_cnt10, DK_9 hN20, ← hqd]
      refine p_iload (q := 11) X dL_isStep_755 rfl ?_
      refine p_iload (q := 1) X dL_isStep_757 rfl ?_
      refine p_iadd (v := ((sm (K.1.1 9) 20) + (nI q))) X dL_isStep_759 rfl ?_
      refine p_icmp_ne (tgt := 767) X dL_isStep_760 (by decide) (fun c760 => absurd rfl c760) (fun c760 => ?_)
      refine p_iconst (v := (nI 1)) X dL_isStep_763 (by decide) ?_
      refine p_goto (tgt := 768) X dL_isStep_764 (by decide) ?_
      have hw := hwk.pas (d := d) hJ639.2 hN20
      rw [hpd.2] at hw
      exact p_zret X hr hlk (by first | exact Or.inl rfl | exact Or.inr rfl) ⟨rfl, DK K d, Po, Pp, by rw [hkd], hw⟩ dL_isStep_768
    · skip
      refine p_aload_n (q := 3) X dL_isStep_692 rfl rfl ?_
      refine p_iconst (v := (nI 1)) X dL_isStep_693 (by decide) ?_
      have hp1 := R_pas1 (K := K) (k := k) edd (by omega)
      refine p_p (As := [.int (nI 1)]) X (q_pass l z (DK K k) Pp (nI 1)) (cwV 1 X.1.2.2.2.2 gL_isStep_X1_pass rfl rfl rfl (by decide +kernel) ⟨Nat.le_of_ble_eq_true rfl, Nat.le_of_ble_eq_true rfl⟩) rfl rfl (Nat.le_of_ble_eq_true rfl) dL_isStep_694 ?_
      rw [hp1.1, hp1.2]
      obtain ⟨g, eg, hg⟩ : ∃ g, dq K k = g ∧ g ≤ 1 := ⟨_, rfl, dq_le⟩
      rw [eg]
      refine p_istore (lv' := [(12, .int (nI g)), (11, .int (nI k)), (10, .int (nI q)), (0, .ref (ad 10 0)), (1, .ref (bd 10 0)), (2, .int x), (3, .int y), (4, .int w), (5, .int (nI nm)), (6, .int (nI cn)), (7, .int (nI d)), (8, .int (nI dd)), (9, .int (sm (K.1.1 9) 20))]) X dL_isStep_697 (by decide) rfl ?_
      refine p_iload (q := 2) X dL_isStep_699 rfl ?_
      refine p_iload (q := 0) X dL_isStep_701 rfl ?_
      refine p_iadd (v := (nI (q + g))) X dL_isStep_703 (nI_add _ _) ?_
      refine p_istore (lv' := [(10, .int (nI (q + g))), (12, .int (nI g)), (11, .int (nI k)), (0, .ref (ad 10 0)), (1, .ref (bd 10 0)), (2, .int x), (3, .int y), (4, .int w), (5, .int (nI nm)), (6, .int (nI cn)), (7, .int (nI d)), (8, .int (nI dd)), (9, .int (sm (K.1.1 9) 20))]) X dL_isStep_704 (by decide) rfl ?_
      refine p_iload (q := 1) X dL_isStep_706 rfl ?_
      refine p_if_lt (tgt := 717) X dL_isStep_708 (by decide) (fun c708 => absurd c708 (nI_pos (by omega))) (fun c708 => ?_)
      refine p_iload (q := 1) X dL_isStep_711 rfl ?_
      refine p_iconst (v := (nI 1)) X dL_isStep_713 (by decide) ?_
      refine p_ncmp_le (tgt := 719) X g 1 dL_isStep_714 (by decide) rfl rfl (by omega) (by omega) (fun c714 => ?_) (fun c714 => absurd hg c714)
      refine p_iinc (q := 2) (v := (nI (k + 1))) (lv' := [(11, .int (nI (k + 1))), (10, .int (nI (q + g))), (12, .int (nI g)), (0, .ref (ad 10 0)), (1, .ref (bd 10 0)), (2, .int x), (3, .int y), (4, .int w), (5, .int (nI nm)), (6, .int (nI cn)), (7, .int (nI d)), (8, .int (nI dd)), (9, .int (sm (K.1.1 9) 20))]) X dL_isStep_719 rfl (nI_1 _) (by decide) rfl ?_
      refine p_goto (tgt := 685) X dL_isStep_722 (by decide) ?_
      refine p_lv (lv1 := [(11, .int (nI (k + 1))), (10, .int (nI (q + g))), (0, .ref (ad 10 0)), (1, .ref (bd 10 0)), (2, .int x), (3, .int y), (4, .int w), (5, .int (nI nm)), (6, .int (nI cn)), (7, .int (nI d)), (8, .int (nI dd)), (9, .int (sm (K.1.1 9) 20))]) [0, 1, 3, 4, 5, 6, 7, 8, 9, 10, 11, 12] rfl ?_
      exact ih685 (k + 1) (q + g) ⟨by omega, by rw [dn_s, eg, hq]⟩ (by omega)
  · skip
    refine p_iconst (v := (nI 1)) X dL_isStep_639 (by decide) ?_
    refine p_iload_n (q := 3) X dL_isStep_640 rfl rfl ?_
    refine p_iload (q := 4) X dL_isStep_641 rfl ?_
    refine p_bipush (v := (nI 8)) X dL_isStep_643 (by decide) ?_
    refine p_callS (As := [.int w, .int (nI 8)]) X (kL_up l D ad bd cs A B z w 8 (by omega) (by omega) ((K, Po), (K, Pp))) (va_cwS 2 X.1.2.2.2.2 gL_isStep_L_up rfl rfl rfl (by decide +kernel) ⟨Nat.le_of_ble_eq_true rfl, Nat.le_of_ble_eq_true rfl⟩) rfl rfl (Nat.le_of_ble_eq_true rfl) dL_isStep_645 (fun r645 m645 h645 => ?_)
    obtain ⟨h645, e645⟩ := h645
    have e645 := e645.symm
    subst e645
    subst h645
    have hu645 := uq_lt w (n := 8) (by omega)
    refine p_if_ne (tgt := 656) X dL_isStep_648 (by decide) (fun c648 => ?_) (fun c648 => ?_)
    · skip
      refine p_bipush (v := (nI 7)) X dL_isStep_656 (by decide) ?_
      refine p_callS (As := [.int y, .int (nI 7)]) X (kL_up l D ad bd cs A B z y 7 (by omega) (by omega) ((K, Po), (K, Pp))) (va_cwS 2 X.1.2.2.2.2 gL_isStep_L_up rfl rfl rfl (by decide +kernel) ⟨Nat.le_of_ble_eq_true rfl, Nat.le_of_ble_eq_true rfl⟩) rfl rfl (Nat.le_of_ble_eq_true rfl) dL_isStep_658 (fun r658 m658 h658 => ?_)
      obtain ⟨h658, e658⟩ := h658
      have e658 := e658.symm
      subst e658
      subst h658
      have hu658 := uq_lt y (n := 7) (by omega)
      refine p_iadd (v := (nI (1 + (uq y 7)))) X dL_isStep_661 (nI_add _ _) ?_
      refine p_istore (lv' := [(7, .int (nI (1 + (uq y 7)))), (0, .ref (ad 10 0)), (1, .ref (bd 10 0)), (2, .int x), (3, .int y), (4, .int w), (5, .int (nI nm)), (6, .int (nI cn))]) X dL_isStep_662 (by decide) rfl ?_
      refine p_lv (lv1 := [(7, .int (nI (1 + (uq y 7)))), (0, .ref (ad 10 0)), (1, .ref (bd 10 0)), (2, .int x), (3, .int y), (4, .int w), (5, .int (nI nm)), (6, .int (nI cn))]) [0, 1, 2, 3, 4, 5, 6, 7] rfl ?_
      exact tail639 (1 + (uq y 7)) ⟨by omega, by omega⟩
    · skip
      refine p_bipush (v := (nI 99)) X dL_isStep_651 (by decide) ?_
      refine p_goto (tgt := 658) X dL_isStep_653 (by decide) ?_
      refine p_callS (As := [.int y, .int (nI 99)]) X (kL_up l D ad bd cs A B z y 99 (by omega) (by omega) ((K, Po), (K, Pp))) (va_cwS 2 X.1.2.2.2.2 gL_isStep_L_up rfl rfl rfl (by decide +kernel) ⟨Nat.le_of_ble_eq_true rfl, Nat.le_of_ble_eq_true rfl⟩) rfl rfl (Nat.le_of_ble_eq_true rfl) dL_isStep_658 (fun r658 m658 h658 => ?_)
      obtain ⟨h658, e658⟩ := h658
      have e658 := e658.symm
      subst e658
      subst h658
      have hu658 := uq_lt y (n := 99) (by omega)
      refine p_iadd (v := (nI (1 + (uq y 99)))) X dL_isStep_661 (nI_add _ _) ?_
      refine p_istore (lv' := [(7, .int (nI (1 + (uq y 99)))), (0, .ref (ad 10 0)), (1, .ref (bd 10 0)), (2, .int x), (3, .int y), (4, .int w), (5, .int (nI nm)), (6, .int (nI cn))]) X dL_isStep_662 (by decide) rfl ?_
      refine p_lv (lv1 := [(7, .int (nI (1 + (uq y 99)))), (0, .ref (ad 10 0)), (1, .ref (bd 10 0)), (2, .int x), (3, .int y), (4, .int w), (5, .int (nI nm)), (6, .int (nI cn))]) [0, 1, 2, 3, 4, 5, 6, 7] rfl ?_
      exact tail639 (1 + (uq y 99)) ⟨by omega, by omega⟩
set_option maxHeartbeats 4000000 in
set_option maxRecDepth 100000 in
theorem ss_giv (l : Launch) (D : va_G) (ad bd : Nat → Nat → Nat) (cs : Nat → ClassId) (A B : Nat → Prop) (z : Nat → Nat) {p : Program} {e : Env} {s : State} {m : MethodId} {args : Array Value} {below : List Frame} {meth : Method} {c : Code} (hr : meth.sig.returnType = some .boolean) (hlk : meth.locks = false) (X : PX p s m args c cL_isStep 13 yL_isStep.cls wsL_isStep (rm 7 160) 0 0 D ad bd cs A B z) (K : KS) (Po Pp : PS) (x y w : Int32) (t nm cn : Nat) (hwk : WK K t) (ht : t ≤ 53) (hnm : nm ≤ K.1.2) (hcn : cn < 12) (hcz : CZ K.1.1 K.1.2) : P2 p l e (rm 7 160) s m args below meth c 0 0 (MQ below (va_Qi (SP t) (QP D ad bd cs) (U2 A B)) args s 0 0 (U2 A B)) 13 D ad bd cs A B 769 [(0, .ref (ad 10 0)), (1, .ref (bd 10 0)), (2, .int x), (3, .int y), (4, .int w), (5, .int (nI nm)), (6, .int (nI cn))] [] ((K, Po), (K, Pp)) := by
  have hN20 := hcz.le
  rcases Nat.lt_or_eq_of_le hnm with hn | hn
  · skip
    obtain ⟨r, hr6, er⟩ := rsn_r (Z := K.1.1) (a := aV K.1.1) (n := nm) (c := cn)
    rcases Nat.eq_zero_or_pos r with h0 | h0
    · subst h0
      have hg := gGiv_0 hcz hn hcn er
      refine p_aload_n (q := 0) X dL_isStep_769 rfl rfl ?_
      refine p_iload (q := 5) X dL_isStep_770 rfl ?_
      refine p_iload (q := 6) X dL_isStep_772 rfl ?_
      refine p_o (As := [.int (nI nm), .int (nI cn)]) X (q_why l z K Po (nI nm) (nI cn)) (cwV 2 X.1.2.2.2.2 gL_isStep_X1_why rfl rfl rfl (by decide +kernel) ⟨Nat.le_of_ble_eq_true rfl, Nat.le_of_ble_eq_true rfl⟩) rfl rfl (Nat.le_of_ble_eq_true rfl) dL_isStep_774 ?_
      rw [R_why hcz hn hcn, er]
      refine p_istore (lv' := [(7, .int (nI 0)), (0, .ref (ad 10 0)), (1, .ref (bd 10 0)), (2, .int x), (3, .int y), (4, .int w), (5, .int (nI nm)), (6, .int (nI cn))]) X dL_isStep_777 (by decide) rfl ?_
      refine p_aload_n (q := 1) X dL_isStep_779 rfl rfl ?_
      refine p_iload (q := 7) X dL_isStep_780 rfl ?_
      refine p_iconst (v := (nI 1)) X dL_isStep_782 (by decide) ?_
      refine p_o (As := [.int (nI cn), .int (nI 1)]) X (q_corner l z K Po (nI cn) (nI 1)) (cwV 2 X.1.2.2.2.2 gL_isStep_X1_corner rfl rfl rfl (by decide +kernel) ⟨Nat.le_of_ble_eq_true rfl, Nat.le_of_ble_eq_true rfl⟩) rfl rfl (Nat.le_of_ble_eq_true rfl) dL_isStep_783 ?_
      rw [R_cor1 hcn]
      refine p_istore (lv' := [(8, .int (K.1.1 11 cn)), (7, .int (nI 0)), (0, .ref (ad 10 0)), (1, .ref (bd 10 0)), (2, .int x), (3, .int y), (4, .int w), (5, .int (nI nm)), (6, .int (nI cn))]) X dL_isStep_786 (by decide) rfl ?_
      refine p_aload_n (q := 2) X dL_isStep_788 rfl rfl ?_
      refine p_bipush (v := (nI 8)) X dL_isStep_789 (by decide) ?_
      refine p_o (As := [.int (nI 8)]) X (q_count l z K Po 8 (by decide)) (cwV 1 X.1.2.2.2.2 gL_isStep_X1_count rfl rfl rfl (by decide +kernel) ⟨Nat.le_of_ble_eq_true rfl, Nat.le_of_ble_eq_true rfl⟩) rfl rfl (Nat.le_of_ble_eq_true rfl) dL_isStep_791 ?_
      rw [R_cnt8]
      refine p_istore (lv' := [(9, .int (sm (K.1.1 11) 12)), (8, .int (K.1.1 11 cn)), (7, .int (nI 0)), (0, .ref (ad 10 0)), (1, .ref (bd 10 0)), (2, .int x), (3, .int y), (4, .int w), (5, .int (nI nm)), (6, .int (nI cn))]) X dL_isStep_794 (by decide) rfl ?_
      refine p_aload_n (q := 3) X dL_isStep_796 rfl rfl ?_
      refine p_iload (q := 8) X dL_isStep_797 rfl ?_
      refine p_iload (q := 9) X dL_isStep_799 rfl ?_
      refine p_o (As := [.int (nI nm), .int (nI cn)]) X (q_give l z K Po (nI nm) (nI cn)) (cwV 2 X.1.2.2.2.2 gL_isStep_X1_give rfl rfl rfl (by decide +kernel) ⟨Nat.le_of_ble_eq_true rfl, Nat.le_of_ble_eq_true rfl⟩) rfl rfl (Nat.le_of_ble_eq_true rfl) dL_isStep_801 ?_
      rw [R_giv0 hcz hn hcn er, hg]
      refine p_istore (lv' := [(10, .int ((K.1.1 11 cn) + (nI 2))), (9, .int (sm (K.1.1 11) 12)), (8, .int (K.1.1 11 cn)), (7, .int (nI 0)), (0, .ref (ad 10 0)), (1, .ref (bd 10 0)), (2, .int x), (3, .int y), (4, .int w), (5, .int (nI nm)), (6, .int (nI cn))]) X dL_isStep_804 (by decide) rfl ?_
      refine p_join (tgt := 831) (st1 := []) (μ1 := ((gNow K (placeS K.1.1 nm cn), Po), (K, Pp))) (fun (bs : Nat) => [(11, .int (nI bs)), (0, .ref (ad 10 0)), (1, .ref (bd 10 0)), (2, .int x), (3, .int y), (4, .int w), (5, .int (nI nm)), (6, .int (nI cn)), (7, .int (nI 0)), (8, .int (K.1.1 11 cn)), (9, .int (sm (K.1.1 11) 12)), (10, .int ((K.1.1 11 cn) + (nI 2)))]) (fun (bs : Nat) => bs = (if cn = 0 then 0 else 1) + (if cn = 11 then 0 else 1)) ?_ (fun tail806 => ?_)
      · skip
        intro bs hJ806
        try dsimp only at hJ806 ⊢
        refine p_iload (q := 11) X dL_isStep_831 rfl ?_
        refine p_aload_n (q := 2) X dL_isStep_833 rfl rfl ?_
        refine p_iload (q := 6) X dL_isStep_834 rfl ?_
        refine p_iload (q := 7) X dL_isStep_836 rfl ?_
        refine p_p (As := [.int (nI nm), .int (nI cn)]) X (q_give l z K Pp (nI nm) (nI cn)) (cwV 2 X.1.2.2.2.2 gL_isStep_X1_give rfl rfl rfl (by decide +kernel) ⟨Nat.le_of_ble_eq_true rfl, Nat.le_of_ble_eq_true rfl⟩) rfl rfl (Nat.le_of_ble_eq_true rfl) dL_isStep_838 ?_
        rw [R_giv0 hcz hn hcn er, hg]
        refine p_icmp_ne (tgt := 929) X dL_isStep_841 (by decide) (fun c841 => absurd rfl c841) (fun c841 => ?_)
        refine p_iload (q := 11) X dL_isStep_844 rfl ?_
        refine p_iload (q := 8) X dL_isStep_846 rfl ?_
        refine p_if_ge (tgt := 855) X dL_isStep_848 (by decide) (fun c848 => ?_) (fun c848 => absurd (by decide) c848)
        refine p_iload (q := 8) X dL_isStep_855 rfl ?_
        refine p_if_le (tgt := 865) X dL_isStep_857 (by decide) (fun c857 => ?_) (fun c857 => absurd (by decide) c857)
        refine p_iload (q := 9) X dL_isStep_865 rfl ?_
        refine p_iconst (v := (nI 2)) X dL_isStep_867 (by decide) ?_
        refine p_iadd (v := ((K.1.1 11 cn) + (nI 2))) X dL_isStep_868 rfl ?_
        refine p_icmp_ne (tgt := 929) X dL_isStep_869 (by decide) (fun c869 => absurd rfl c869) (fun c869 => ?_)
        refine p_aload_n (q := 1) X dL_isStep_872 rfl rfl ?_
        refine p_bipush (v := (nI 8)) X dL_isStep_873 (by decide) ?_
        refine p_o (As := [.int (nI 8)]) X (q_count l z (gNow K (placeS K.1.1 nm cn)) Po 8 (by decide)) (cwV 1 X.1.2.2.2.2 gL_isStep_X1_count rfl rfl rfl (by decide +kernel) ⟨Nat.le_of_ble_eq_true rfl, Nat.le_of_ble_eq_true rfl⟩) rfl rfl (Nat.le_of_ble_eq_true rfl) dL_isStep_875 ?_
        rw [R_cnt8, show sm ((gNow K (placeS K.1.1 nm cn)).1.1 11) 12 = sm (K.1.1 11) 12 + nI (2 + bs) from by rw [hJ806]; exact sm_place hcn]
        refine p_iload (q := 10) X dL_isStep_878 rfl ?_
        refine p_iload (q := 8) X dL_isStep_880 rfl ?_
        refine p_if_ne (tgt := 892) X dL_isStep_882 (by decide) (fun c882 => absurd c882 (by decide)) (fun c882 => ?_)
        refine p_iconst (v := (nI 2)) X dL_isStep_885 (by decide) ?_
        refine p_iload (q := 0) X dL_isStep_886 rfl ?_
        refine p_iadd (v := (nI (2 + bs))) X dL_isStep_888 (nI_add _ _) ?_
        refine p_goto (tgt := 893) X dL_isStep_889 (by decide) ?_
        refine p_iadd (v := ((sm (K.1.1 11) 12) + (nI (2 + bs)))) X dL_isStep_893 rfl ?_
        refine p_icmp_ne (tgt := 929) X dL_isStep_894 (by decide) (fun c894 => absurd rfl c894) (fun c894 => ?_)
        refine p_iload (q := 8) X dL_isStep_897 rfl ?_
        refine p_if_ne (tgt := 925) X dL_isStep_899 (by decide) (fun c899 => absurd c899 (by decide)) (fun c899 => ?_)
        refine p_aload_n (q := 1) X dL_isStep_902 rfl rfl ?_
        refine p_iload (q := 7) X dL_isStep_903 rfl ?_
        refine p_iconst (v := (nI 0)) X dL_isStep_905 (by decide) ?_
        refine p_o (As := [.int (nI cn), .int (nI 0)]) X (q_corner l z (gNow K (placeS K.1.1 nm cn)) Po (nI cn) (nI 0)) (cwV 2 X.1.2.2.2.2 gL_isStep_X1_corner rfl rfl rfl (by decide +kernel) ⟨Nat.le_of_ble_eq_true rfl, Nat.le_of_ble_eq_true rfl⟩) rfl rfl (Nat.le_of_ble_eq_true rfl) dL_isStep_906 ?_
        rw [R_cor0 hcn, show (gNow K (placeS K.1.1 nm cn)).1.1 10 cn = nI nm from by show placeS K.1.1 nm cn 10 cn = nI nm; rw [pl_10, if_pos rfl]]
        refine p_iload (q := 6) X dL_isStep_909 rfl ?_
        refine p_ncmp_ne (tgt := 929) X nm nm dL_isStep_911 (by decide) rfl rfl (by omega) (by omega) (fun c911 => absurd rfl c911) (fun c911 => ?_)
        refine p_aload_n (q := 1) X dL_isStep_914 rfl rfl ?_
        refine p_iload (q := 6) X dL_isStep_915 rfl ?_
        refine p_iconst (v := (nI 1)) X dL_isStep_917 (by decide) ?_
        refine p_ok (fun hoo2 hpp2 => ?_)
        have hcz2 : CZ (gNow K (placeS K.1.1 nm cn)).1.1 (gNow K (placeS K.1.1 nm cn)).1.2 := hoo2.1.1
        refine p_o (As := [.int (nI nm), .int (nI 1)]) X (q_name l z (gNow K (placeS K.1.1 nm cn)) Po (nI nm) (nI 1)) (cwV 2 X.1.2.2.2.2 gL_isStep_X1_name rfl rfl rfl (by decide +kernel) ⟨Nat.le_of_ble_eq_true rfl, Nat.le_of_ble_eq_true rfl⟩) rfl rfl (Nat.le_of_ble_eq_true rfl) dL_isStep_918 ?_
        rw [R_nam1 hcz2 hn, show wh (gNow K (placeS K.1.1 nm cn)).1.1 nm = nI 1 from gGiv_wh hcn er]
        refine p_iconst (v := (nI 1)) X dL_isStep_921 (by decide) ?_
        refine p_ncmp_ne (tgt := 929) X 1 1 dL_isStep_922 (by decide) rfl rfl (by omega) (by omega) (fun c922 => absurd c922 (by decide)) (fun c922 => ?_)
        refine p_iconst (v := (nI 1)) X dL_isStep_925 (by decide) ?_
        refine p_goto (tgt := 930) X dL_isStep_926 (by decide) ?_
        have hw := hwk.giv (n := nm) (c := cn) (by omega) hcn
        rw [hg] at hw
        exact p_zret X hr hlk (by first | exact Or.inl rfl | exact Or.inr rfl) ⟨rfl, gNow K (placeS K.1.1 nm cn), Po, Pp, rfl, hw⟩ dL_isStep_930
      · skip
        refine p_iload (q := 10) X dL_isStep_806 rfl ?_
        refine p_if_ne (tgt := 815) X dL_isStep_808 (by decide) (fun c808 => ?_) (fun c808 => ?_)
        · skip
          have hc0 : cn ≠ 0 := fun q => c808 (by rw [q]; rfl)
          refine p_iconst (v := (nI 1)) X dL_isStep_815 (by decide) ?_
          refine p_iload (q := 10) X dL_isStep_816 rfl ?_
          refine p_bipush (v := (nI 11)) X dL_isStep_818 (by decide) ?_
          refine p_ncmp_ne (tgt := 827) X cn 11 dL_isStep_820 (by decide) rfl rfl (by omega) (by omega) (fun c820 => ?_) (fun c820 => ?_)
          · skip
            refine p_iconst (v := (nI 1)) X dL_isStep_827 (by decide) ?_
            refine p_iadd (v := (nI 2)) X dL_isStep_828 (nI_add _ _) ?_
            refine p_istore (lv' := [(11, .int (nI 2)), (10, .int ((K.1.1 11 cn) + (nI 2))), (9, .int (sm (K.1.1 11) 12)), (8, .int (K.1.1 11 cn)), (7, .int (nI 0)), (0, .ref (ad 10 0)), (1, .ref (bd 10 0)), (2, .int x), (3, .int y), (4, .int w), (5, .int (nI nm)), (6, .int (nI cn))]) X dL_isStep_829 (by decide) rfl ?_
            refine p_lv (lv1 := [(11, .int (nI 2)), (0, .ref (ad 10 0)), (1, .ref (bd 10 0)), (2, .int x), (3, .int y), (4, .int w), (5, .int (nI nm)), (6, .int (nI cn)), (7, .int (nI 0)), (8, .int (K.1.1 11 cn)), (9, .int (sm (K.1.1 11) 12)), (10, .int ((K.1.1 11 cn) + (nI 2)))]) [0, 5, 6, 7, 8, 9, 10, 11, 4, 3, 2, 1] rfl ?_
            exact tail806 2 (by split <;> (first | omega | (split <;> omega)))
          · skip
            refine p_iconst (v := (nI 0)) X dL_isStep_823 (by decide) ?_
            refine p_goto (tgt := 828) X dL_isStep_824 (by decide) ?_
            refine p_iadd (v := (nI 1)) X dL_isStep_828 (nI_add _ _) ?_
            refine p_istore (lv' := [(11, .int (nI 1)), (10, .int ((K.1.1 11 cn) + (nI 2))), (9, .int (sm (K.1.1 11) 12)), (8, .int (K.1.1 11 cn)), (7, .int (nI 0)), (0, .ref (ad 10 0)), (1, .ref (bd 10 0)), (2, .int x), (3, .int y), (4, .int w), (5, .int (nI nm)), (6, .int (nI cn))]) X dL_isStep_829 (by decide) rfl ?_
            refine p_lv (lv1 := [(11, .int (nI 1)), (0, .ref (ad 10 0)), (1, .ref (bd 10 0)), (2, .int x), (3, .int y), (4, .int w), (5, .int (nI nm)), (6, .int (nI cn)), (7, .int (nI 0)), (8, .int (K.1.1 11 cn)), (9, .int (sm (K.1.1 11) 12)), (10, .int ((K.1.1 11 cn) + (nI 2)))]) [0, 5, 6, 7, 8, 9, 10, 11, 4, 3, 2, 1] rfl ?_
            exact tail806 1 (by split <;> (first | omega | (split <;> omega)))
        · skip
          have hc0 : cn = 0 := (nI_eq (b := 0) (by omega) (by decide)).mp (Classical.not_not.mp c808)
          refine p_iconst (v := (nI 0)) X dL_isStep_811 (by decide) ?_
          refine p_goto (tgt := 816) X dL_isStep_812 (by decide) ?_
          refine p_iload (q := 10) X dL_isStep_816 rfl ?_
          refine p_bipush (v := (nI 11)) X dL_isStep_818 (by decide) ?_
          refine p_ncmp_ne (tgt := 827) X cn 11 dL_isStep_820 (by decide) rfl rfl (by omega) (by omega) (fun c820 => ?_) (fun c820 => ?_)
          · skip
            refine p_iconst (v := (nI 1)) X dL_isStep_827 (by decide) ?_
            refine p_iadd (v := (nI 1)) X dL_isStep_828 (nI_add _ _) ?_
            refine p_istore (lv' := [(11, .int (nI 1)), (10, .int ((K.1.1 11 cn) + (nI 2))), (9, .int (sm (K.1.1 11) 12)), (8, .int (K.1.1 11 cn)), (7, .int (nI 0)), (0, .ref (ad 10 0)), (1, .ref (bd 10 0)), (2, .int x), (3, .int y), (4, .int w), (5, .int (nI nm)), (6, .int (nI cn))]) X dL_isStep_829 (by decide) rfl ?_
            refine p_lv (lv1 := [(11, .int (nI 1)), (0, .ref (ad 10 0)), (1, .ref (bd 10 0)), (2, .int x), (3, .int y), (4, .int w), (5, .int (nI nm)), (6, .int (nI cn)), (7, .int (nI 0)), (8, .int (K.1.1 11 cn)), (9, .int (sm (K.1.1 11) 12)), (10, .int ((K.1.1 11 cn) + (nI 2)))]) [0, 5, 6, 7, 8, 9, 10, 11, 4, 3, 2, 1] rfl ?_
            exact tail806 1 (by split <;> (first | omega | (split <;> omega)))
          · skip
            refine p_iconst (v := (nI 0)) X dL_isStep_823 (by decide) ?_
            refine p_goto (tgt := 828) X dL_isStep_824 (by decide) ?_
            refine p_iadd (v := (nI 0)) X dL_isStep_828 (nI_add _ _) ?_
            refine p_istore (lv' := [(11, .int (nI 0)), (10, .int ((K.1.1 11 cn) + (nI 2))), (9, .int (sm (K.1.1 11) 12)), (8, .int (K.1.1 11 cn)), (7, .int (nI 0)), (0, .ref (ad 10 0)), (1, .ref (bd 10 0)), (2, .int x), (3, .int y), (4, .int w), (5, .int (nI nm)), (6, .int (nI cn))]) X dL_isStep_829 (by decide) rfl ?_
            refine p_lv (lv1 := [(11, .int (nI 0)), (0, .ref (ad 10 0)), (1, .ref (bd 10 0)), (2, .int x), (3, .int y), (4, .int w), (5, .int (nI nm)), (6, .int (nI cn)), (7, .int (nI 0)), (8, .int (K.1.1 11 cn)), (9, .int (sm (K.1.1 11) 12)), (10, .int ((K.1.1 11 cn) + (nI 2)))]) [0, 5, 6, 7, 8, 9, 10, 11, 4, 3, 2, 1] rfl ?_
            exact tail806 0 (by split <;> (first | omega | (split <;> omega)))
    · skip
      have hg := gGiv_5 hcz hn hcn er h0 hr6
      refine p_aload_n (q := 0) X dL_isStep_769 rfl rfl ?_
      refine p_iload (q := 5) X dL_isStep_770 rfl ?_
      refine p_iload (q := 6) X dL_isStep_772 rfl ?_
      refine p_o (As := [.int (nI nm), .int (nI cn)]) X (q_why l z K Po (nI nm) (nI cn)) (cwV 2 X.1.2.2.2.2 gL_isStep_X1_why rfl rfl rfl (by decide +kernel) ⟨Nat.le_of_ble_eq_true rfl, Nat.le_of_ble_eq_true rfl⟩) rfl rfl (Nat.le_of_ble_eq_true rfl) dL_isStep_774 ?_
      rw [R_why hcz hn hcn, er]
      refine p_istore (lv' := [(7, .int (nI r)), (0, .ref (ad 10 0)), (1, .ref (bd 10 0)), (2, .int x), (3, .int y), (4, .int w), (5, .int (nI nm)), (6, .int (nI cn))]) X dL_isStep_777 (by decide) rfl ?_
      refine p_aload_n (q := 1) X dL_isStep_779 rfl rfl ?_
      refine p_iload (q := 7) X dL_isStep_780 rfl ?_
      refine p_iconst (v := (nI 1)) X dL_isStep_782 (by decide) ?_
      refine p_o (As := [.int (nI cn), .int (nI 1)]) X (q_corner l z K Po (nI cn) (nI 1)) (cwV 2 X.1.2.2.2.2 gL_isStep_X1_corner rfl rfl rfl (by decide +kernel) ⟨Nat.le_of_ble_eq_true rfl, Nat.le_of_ble_eq_true rfl⟩) rfl rfl (Nat.le_of_ble_eq_true rfl) dL_isStep_783 ?_
      rw [R_cor1 hcn]
      refine p_istore (lv' := [(8, .int (K.1.1 11 cn)), (7, .int (nI r)), (0, .ref (ad 10 0)), (1, .ref (bd 10 0)), (2, .int x), (3, .int y), (4, .int w), (5, .int (nI nm)), (6, .int (nI cn))]) X dL_isStep_786 (by decide) rfl ?_
      refine p_aload_n (q := 2) X dL_isStep_788 rfl rfl ?_
      refine p_bipush (v := (nI 8)) X dL_isStep_789 (by decide) ?_
      refine p_o (As := [.int (nI 8)]) X (q_count l z K Po 8 (by decide)) (cwV 1 X.1.2.2.2.2 gL_isStep_X1_count rfl rfl rfl (by decide +kernel) ⟨Nat.le_of_ble_eq_true rfl, Nat.le_of_ble_eq_true rfl⟩) rfl rfl (Nat.le_of_ble_eq_true rfl) dL_isStep_791 ?_
      rw [R_cnt8]
      refine p_istore (lv' := [(9, .int (sm (K.1.1 11) 12)), (8, .int (K.1.1 11 cn)), (7, .int (nI r)), (0, .ref (ad 10 0)), (1, .ref (bd 10 0)), (2, .int x), (3, .int y), (4, .int w), (5, .int (nI nm)), (6, .int (nI cn))]) X dL_isStep_794 (by decide) rfl ?_
      refine p_aload_n (q := 3) X dL_isStep_796 rfl rfl ?_
      refine p_iload (q := 8) X dL_isStep_797 rfl ?_
      refine p_iload (q := 9) X dL_isStep_799 rfl ?_
      refine p_o (As := [.int (nI nm), .int (nI cn)]) X (q_give l z K Po (nI nm) (nI cn)) (cwV 2 X.1.2.2.2.2 gL_isStep_X1_give rfl rfl rfl (by decide +kernel) ⟨Nat.le_of_ble_eq_true rfl, Nat.le_of_ble_eq_true rfl⟩) rfl rfl (Nat.le_of_ble_eq_true rfl) dL_isStep_801 ?_
      rw [R_giv5 hcz hn hcn er h0 hr6, hg]
      refine p_istore (lv' := [(10, .int (-5)), (9, .int (sm (K.1.1 11) 12)), (8, .int (K.1.1 11 cn)), (7, .int (nI r)), (0, .ref (ad 10 0)), (1, .ref (bd 10 0)), (2, .int x), (3, .int y), (4, .int w), (5, .int (nI nm)), (6, .int (nI cn))]) X dL_isStep_804 (by decide) rfl ?_
      refine p_join (tgt := 831) (st1 := []) (μ1 := ((K, Po), (K, Pp))) (fun (bs : Nat) => [(11, .int (nI bs)), (0, .ref (ad 10 0)), (1, .ref (bd 10 0)), (2, .int x), (3, .int y), (4, .int w), (5, .int (nI nm)), (6, .int (nI cn)), (7, .int (nI r)), (8, .int (K.1.1 11 cn)), (9, .int (sm (K.1.1 11) 12)), (10, .int (-5))]) (fun (bs : Nat) => bs = (if cn = 0 then 0 else 1) + (if cn = 11 then 0 else 1)) ?_ (fun tail806 => ?_)
      · skip
        intro bs hJ806
        try dsimp only at hJ806 ⊢
        refine p_iload (q := 11) X dL_isStep_831 rfl ?_
        refine p_aload_n (q := 2) X dL_isStep_833 rfl rfl ?_
        refine p_iload (q := 6) X dL_isStep_834 rfl ?_
        refine p_iload (q := 7) X dL_isStep_836 rfl ?_
        refine p_p (As := [.int (nI nm), .int (nI cn)]) X (q_give l z K Pp (nI nm) (nI cn)) (cwV 2 X.1.2.2.2.2 gL_isStep_X1_give rfl rfl rfl (by decide +kernel) ⟨Nat.le_of_ble_eq_true rfl, Nat.le_of_ble_eq_true rfl⟩) rfl rfl (Nat.le_of_ble_eq_true rfl) dL_isStep_838 ?_
        rw [R_giv5 hcz hn hcn er h0 hr6, hg]
        refine p_icmp_ne (tgt := 929) X dL_isStep_841 (by decide) (fun c841 => absurd rfl c841) (fun c841 => ?_)
        refine p_iload (q := 11) X dL_isStep_844 rfl ?_
        refine p_iload (q := 8) X dL_isStep_846 rfl ?_
        refine p_if_ge (tgt := 855) X dL_isStep_848 (by decide) (fun c848 => ?_) (fun c848 => absurd (nI_pos' (by omega)) c848)
        refine p_iload (q := 8) X dL_isStep_855 rfl ?_
        refine p_if_le (tgt := 865) X dL_isStep_857 (by decide) (fun c857 => absurd c857 (nI_nle h0 (by omega))) (fun c857 => ?_)
        refine p_bipush (v := (-5)) X dL_isStep_860 (by decide) ?_
        refine p_goto (tgt := 869) X dL_isStep_862 (by decide) ?_
        refine p_icmp_ne (tgt := 929) X dL_isStep_869 (by decide) (fun c869 => absurd rfl c869) (fun c869 => ?_)
        refine p_aload_n (q := 1) X dL_isStep_872 rfl rfl ?_
        refine p_bipush (v := (nI 8)) X dL_isStep_873 (by decide) ?_
        refine p_o (As := [.int (nI 8)]) X (q_count l z K Po 8 (by decide)) (cwV 1 X.1.2.2.2.2 gL_isStep_X1_count rfl rfl rfl (by decide +kernel) ⟨Nat.le_of_ble_eq_true rfl, Nat.le_of_ble_eq_true rfl⟩) rfl rfl (Nat.le_of_ble_eq_true rfl) dL_isStep_875 ?_
        rw [R_cnt8]
        refine p_iload (q := 10) X dL_isStep_878 rfl ?_
        refine p_iload (q := 8) X dL_isStep_880 rfl ?_
        refine p_if_ne (tgt := 892) X dL_isStep_882 (by decide) (fun c882 => ?_) (fun c882 => absurd (nI_ne0 h0 (by omega)) c882)
        refine p_iconst (v := (nI 0)) X dL_isStep_892 (by decide) ?_
        refine p_iadd (v := (sm (K.1.1 11) 12)) X dL_isStep_893 (by rw [nI_0, Int32.add_zero]) ?_
        refine p_icmp_ne (tgt := 929) X dL_isStep_894 (by decide) (fun c894 => absurd rfl c894) (fun c894 => ?_)
        refine p_iload (q := 8) X dL_isStep_897 rfl ?_
        refine p_if_ne (tgt := 925) X dL_isStep_899 (by decide) (fun c899 => ?_) (fun c899 => absurd (nI_ne0 h0 (by omega)) c899)
        refine p_iconst (v := (nI 1)) X dL_isStep_925 (by decide) ?_
        refine p_goto (tgt := 930) X dL_isStep_926 (by decide) ?_
        have hw := hwk.giv (n := nm) (c := cn) (by omega) hcn
        rw [hg] at hw
        exact p_zret X hr hlk (by first | exact Or.inl rfl | exact Or.inr rfl) ⟨rfl, K, Po, Pp, rfl, hw⟩ dL_isStep_930
      · skip
        refine p_iload (q := 10) X dL_isStep_806 rfl ?_
        refine p_if_ne (tgt := 815) X dL_isStep_808 (by decide) (fun c808 => ?_) (fun c808 => ?_)
        · skip
          have hc0 : cn ≠ 0 := fun q => c808 (by rw [q]; rfl)
          refine p_iconst (v := (nI 1)) X dL_isStep_815 (by decide) ?_
          refine p_iload (q := 10) X dL_isStep_816 rfl ?_
          refine p_bipush (v := (nI 11)) X dL_isStep_818 (by decide) ?_
          refine p_ncmp_ne (tgt := 827) X cn 11 dL_isStep_820 (by decide) rfl rfl (by omega) (by omega) (fun c820 => ?_) (fun c820 => ?_)
          · skip
            refine p_iconst (v := (nI 1)) X dL_isStep_827 (by decide) ?_
            refine p_iadd (v := (nI 2)) X dL_isStep_828 (nI_add _ _) ?_
            refine p_istore (lv' := [(11, .int (nI 2)), (10, .int (-5)), (9, .int (sm (K.1.1 11) 12)), (8, .int (K.1.1 11 cn)), (7, .int (nI r)), (0, .ref (ad 10 0)), (1, .ref (bd 10 0)), (2, .int x), (3, .int y), (4, .int w), (5, .int (nI nm)), (6, .int (nI cn))]) X dL_isStep_829 (by decide) rfl ?_
            refine p_lv (lv1 := [(11, .int (nI 2)), (0, .ref (ad 10 0)), (1, .ref (bd 10 0)), (2, .int x), (3, .int y), (4, .int w), (5, .int (nI nm)), (6, .int (nI cn)), (7, .int (nI r)), (8, .int (K.1.1 11 cn)), (9, .int (sm (K.1.1 11) 12)), (10, .int (-5))]) [0, 5, 6, 7, 8, 9, 10, 11, 4, 3, 2, 1] rfl ?_
            exact tail806 2 (by split <;> (first | omega | (split <;> omega)))
          · skip
            refine p_iconst (v := (nI 0)) X dL_isStep_823 (by decide) ?_
            refine p_goto (tgt := 828) X dL_isStep_824 (by decide) ?_
            refine p_iadd (v := (nI 1)) X dL_isStep_828 (nI_add _ _) ?_
            refine p_istore (lv' := [(11, .int (nI 1)), (10, .int (-5)), (9, .int (sm (K.1.1 11) 12)), (8, .int (K.1.1 11 cn)), (7, .int (nI r)), (0, .ref (ad 10 0)), (1, .ref (bd 10 0)), (2, .int x), (3, .int y), (4, .int w), (5, .int (nI nm)), (6, .int (nI cn))]) X dL_isStep_829 (by decide) rfl ?_
            refine p_lv (lv1 := [(11, .int (nI 1)), (0, .ref (ad 10 0)), (1, .ref (bd 10 0)), (2, .int x), (3, .int y), (4, .int w), (5, .int (nI nm)), (6, .int (nI cn)), (7, .int (nI r)), (8, .int (K.1.1 11 cn)), (9, .int (sm (K.1.1 11) 12)), (10, .int (-5))]) [0, 5, 6, 7, 8, 9, 10, 11, 4, 3, 2, 1] rfl ?_
            exact tail806 1 (by split <;> (first | omega | (split <;> omega)))
        · skip
          have hc0 : cn = 0 := (nI_eq (b := 0) (by omega) (by decide)).mp (Classical.not_not.mp c808)
          refine p_iconst (v := (nI 0)) X dL_isStep_811 (by decide) ?_
          refine p_goto (tgt := 816) X dL_isStep_812 (by decide) ?_
          refine p_iload (q := 10) X dL_isStep_816 rfl ?_
          refine p_bipush (v := (nI 11)) X dL_isStep_818 (by decide) ?_
          refine p_ncmp_ne (tgt := 827) X cn 11 dL_isStep_820 (by decide) rfl rfl (by omega) (by omega) (fun c820 => ?_) (fun c820 => ?_)
          · skip
            refine p_iconst (v := (nI 1)) X dL_isStep_827 (by decide) ?_
            refine p_iadd (v := (nI 1)) X dL_isStep_828 (nI_add _ _) ?_
            refine p_istore (lv' := [(11, .int (nI 1)), (10, .int (-5)), (9, .int (sm (K.1.1 11) 12)), (8, .int (K.1.1 11 cn)), (7, .int (nI r)), (0, .ref (ad 10 0)), (1, .ref (bd 10 0)), (2, .int x), (3, .int y), (4, .int w), (5, .int (nI nm)), (6, .int (nI cn))]) X dL_isStep_829 (by decide) rfl ?_
            refine p_lv (lv1 := [(11, .int (nI 1)), (0, .ref (ad 10 0)), (1, .ref (bd 10 0)), (2, .int x), (3, .int y), (4, .int w), (5, .int (nI nm)), (6, .int (nI cn)), (7, .int (nI r)), (8, .int (K.1.1 11 cn)), (9, .int (sm (K.1.1 11) 12)), (10, .int (-5))]) [0, 5, 6, 7, 8, 9, 10, 11, 4, 3, 2, 1] rfl ?_
            exact tail806 1 (by split <;> (first | omega | (split <;> omega)))
          · skip
            refine p_iconst (v := (nI 0)) X dL_isStep_823 (by decide) ?_
            refine p_goto (tgt := 828) X dL_isStep_824 (by decide) ?_
            refine p_iadd (v := (nI 0)) X dL_isStep_828 (nI_add _ _) ?_
            refine p_istore (lv' := [(11, .int (nI 0)), (10, .int (-5)), (9, .int (sm (K.1.1 11) 12)), (8, .int (K.1.1 11 cn)), (7, .int (nI r)), (0, .ref (ad 10 0)), (1, .ref (bd 10 0)), (2, .int x), (3, .int y), (4, .int w), (5, .int (nI nm)), (6, .int (nI cn))]) X dL_isStep_829 (by decide) rfl ?_
            refine p_lv (lv1 := [(11, .int (nI 0)), (0, .ref (ad 10 0)), (1, .ref (bd 10 0)), (2, .int x), (3, .int y), (4, .int w), (5, .int (nI nm)), (6, .int (nI cn)), (7, .int (nI r)), (8, .int (K.1.1 11 cn)), (9, .int (sm (K.1.1 11) 12)), (10, .int (-5))]) [0, 5, 6, 7, 8, 9, 10, 11, 4, 3, 2, 1] rfl ?_
            exact tail806 0 (by split <;> (first | omega | (split <;> omega)))
  · subst hn
    have hg := gGiv_N hcz (c := nI cn)
    refine p_aload_n (q := 0) X dL_isStep_769 rfl rfl ?_
    refine p_iload (q := 5) X dL_isStep_770 rfl ?_
    refine p_iload (q := 6) X dL_isStep_772 rfl ?_
    refine p_o (As := [.int (nI K.1.2), .int (nI cn)]) X (q_why l z K Po (nI K.1.2) (nI cn)) (cwV 2 X.1.2.2.2.2 gL_isStep_X1_why rfl rfl rfl (by decide +kernel) ⟨Nat.le_of_ble_eq_true rfl, Nat.le_of_ble_eq_true rfl⟩) rfl rfl (Nat.le_of_ble_eq_true rfl) dL_isStep_774 ?_
    rw [R_whyN hcz]
    refine p_istore (lv' := [(7, .int (-1)), (0, .ref (ad 10 0)), (1, .ref (bd 10 0)), (2, .int x), (3, .int y), (4, .int w), (5, .int (nI K.1.2)), (6, .int (nI cn))]) X dL_isStep_777 (by decide) rfl ?_
    refine p_aload_n (q := 1) X dL_isStep_779 rfl rfl ?_
    refine p_iload (q := 7) X dL_isStep_780 rfl ?_
    refine p_iconst (v := (nI 1)) X dL_isStep_782 (by decide) ?_
    refine p_o (As := [.int (nI cn), .int (nI 1)]) X (q_corner l z K Po (nI cn) (nI 1)) (cwV 2 X.1.2.2.2.2 gL_isStep_X1_corner rfl rfl rfl (by decide +kernel) ⟨Nat.le_of_ble_eq_true rfl, Nat.le_of_ble_eq_true rfl⟩) rfl rfl (Nat.le_of_ble_eq_true rfl) dL_isStep_783 ?_
    rw [R_cor1 hcn]
    refine p_istore (lv' := [(8, .int (K.1.1 11 cn)), (7, .int (-1)), (0, .ref (ad 10 0)), (1, .ref (bd 10 0)), (2, .int x), (3, .int y), (4, .int w), (5, .int (nI K.1.2)), (6, .int (nI cn))]) X dL_isStep_786 (by decide) rfl ?_
    refine p_aload_n (q := 2) X dL_isStep_788 rfl rfl ?_
    refine p_bipush (v := (nI 8)) X dL_isStep_789 (by decide) ?_
    refine p_o (As := [.int (nI 8)]) X (q_count l z K Po 8 (by decide)) (cwV 1 X.1.2.2.2.2 gL_isStep_X1_count rfl rfl rfl (by decide +kernel) ⟨Nat.le_of_ble_eq_true rfl, Nat.le_of_ble_eq_true rfl⟩) rfl rfl (Nat.le_of_ble_eq_true rfl) dL_isStep_791 ?_
    rw [R_cnt8]
    refine p_istore (lv' := [(9, .int (sm (K.1.1 11) 12)), (8, .int (K.1.1 11 cn)), (7, .int (-1)), (0, .ref (ad 10 0)), (1, .ref (bd 10 0)), (2, .int x), (3, .int y), (4, .int w), (5, .int (nI K.1.2)), (6, .int (nI cn))]) X dL_isStep_794 (by decide) rfl ?_
    refine p_aload_n (q := 3) X dL_isStep_796 rfl rfl ?_
    refine p_iload (q := 8) X dL_isStep_797 rfl ?_
    refine p_iload (q := 9) X dL_isStep_799 rfl ?_
    refine p_o (As := [.int (nI K.1.2), .int (nI cn)]) X (q_give l z K Po (nI K.1.2) (nI cn)) (cwV 2 X.1.2.2.2.2 gL_isStep_X1_give rfl rfl rfl (by decide +kernel) ⟨Nat.le_of_ble_eq_true rfl, Nat.le_of_ble_eq_true rfl⟩) rfl rfl (Nat.le_of_ble_eq_true rfl) dL_isStep_801 ?_
    rw [R_givN hcz, hg]
    refine p_istore (lv' := [(10, .int (-1)), (9, .int (sm (K.1.1 11) 12)), (8, .int (K.1.1 11 cn)), (7, .int (-1)), (0, .ref (ad 10 0)), (1, .ref (bd 10 0)), (2, .int x), (3, .int y), (4, .int w), (5, .int (nI K.1.2)), (6, .int (nI cn))]) X dL_isStep_804 (by decide) rfl ?_
    refine p_join (tgt := 831) (st1 := []) (μ1 := ((K, Po), (K, Pp))) (fun (bs : Nat) => [(11, .int (nI bs)), (0, .ref (ad 10 0)), (1, .ref (bd 10 0)), (2, .int x), (3, .int y), (4, .int w), (5, .int (nI K.1.2)), (6, .int (nI cn)), (7, .int (-1)), (8, .int (K.1.1 11 cn)), (9, .int (sm (K.1.1 11) 12)), (10, .int (-1))]) (fun (bs : Nat) => bs = (if cn = 0 then 0 else 1) + (if cn = 11 then 0 else 1)) ?_ (fun tail806 => ?_)
    · skip
      intro bs hJ806
      try dsimp only at hJ806 ⊢
      refine p_iload (q := 11) X dL_isStep_831 rfl ?_
      refine p_aload_n (q := 2) X dL_isStep_833 rfl rfl ?_
      refine p_iload (q := 6) X dL_isStep_834 rfl ?_
      refine p_iload (q := 7) X dL_isStep_836 rfl ?_
      refine p_p (As := [.int (nI K.1.2), .int (nI cn)]) X (q_give l z K Pp (nI K.1.2) (nI cn)) (cwV 2 X.1.2.2.2.2 gL_isStep_X1_give rfl rfl rfl (by decide +kernel) ⟨Nat.le_of_ble_eq_true rfl, Nat.le_of_ble_eq_true rfl⟩) rfl rfl (Nat.le_of_ble_eq_true rfl) dL_isStep_838 ?_
      rw [R_givN hcz, hg]
      refine p_icmp_ne (tgt := 929) X dL_isStep_841 (by decide) (fun c841 => absurd rfl c841) (fun c841 => ?_)
      refine p_iload (q := 11) X dL_isStep_844 rfl ?_
      refine p_iload (q := 8) X dL_isStep_846 rfl ?_
      refine p_if_ge (tgt := 855) X dL_isStep_848 (by decide) (fun c848 => absurd c848 (by decide)) (fun c848 => ?_)
      refine p_iconst (v := (-1)) X dL_isStep_851 (by decide) ?_
      refine p_goto (tgt := 869) X dL_isStep_852 (by decide) ?_
      refine p_icmp_ne (tgt := 929) X dL_isStep_869 (by decide) (fun c869 => absurd rfl c869) (fun c869 => ?_)
      refine p_aload_n (q := 1) X dL_isStep_872 rfl rfl ?_
      refine p_bipush (v := (nI 8)) X dL_isStep_873 (by decide) ?_
      refine p_o (As := [.int (nI 8)]) X (q_count l z K Po 8 (by decide)) (cwV 1 X.1.2.2.2.2 gL_isStep_X1_count rfl rfl rfl (by decide +kernel) ⟨Nat.le_of_ble_eq_true rfl, Nat.le_of_ble_eq_true rfl⟩) rfl rfl (Nat.le_of_ble_eq_true rfl) dL_isStep_875 ?_
      rw [R_cnt8]
      refine p_iload (q := 10) X dL_isStep_878 rfl ?_
      refine p_iload (q := 8) X dL_isStep_880 rfl ?_
      refine p_if_ne (tgt := 892) X dL_isStep_882 (by decide) (fun c882 => ?_) (fun c882 => absurd (by decide) c882)
      refine p_iconst (v := (nI 0)) X dL_isStep_892 (by decide) ?_
      refine p_iadd (v := (sm (K.1.1 11) 12)) X dL_isStep_893 (by rw [nI_0, Int32.add_zero]) ?_
      refine p_icmp_ne (tgt := 929) X dL_isStep_894 (by decide) (fun c894 => absurd rfl c894) (fun c894 => ?_)
      refine p_iload (q := 8) X dL_isStep_897 rfl ?_
      refine p_if_ne (tgt := 925) X dL_isStep_899 (by decide) (fun c899 => ?_) (fun c899 => absurd (by decide) c899)
      refine p_iconst (v := (nI 1)) X dL_isStep_925 (by decide) ?_
      refine p_goto (tgt := 930) X dL_isStep_926 (by decide) ?_
      have hw := hwk.giv (n := K.1.2) (c := cn) (by omega) hcn
      rw [hg] at hw
      exact p_zret X hr hlk (by first | exact Or.inl rfl | exact Or.inr rfl) ⟨rfl, K, Po, Pp, rfl, hw⟩ dL_isStep_930
    · skip
      refine p_iload (q := 10) X dL_isStep_806 rfl ?_
      refine p_if_ne (tgt := 815) X dL_isStep_808 (by decide) (fun c808 => ?_) (fun c808 => ?_)
      · skip
        have hc0 : cn ≠ 0 := fun q => c808 (by rw [q]; rfl)
        refine p_iconst (v := (nI 1)) X dL_isStep_815 (by decide) ?_
        refine p_iload (q := 10) X dL_isStep_816 rfl ?_
        refine p_bipush (v := (nI 11)) X dL_isStep_818 (by decide) ?_
        refine p_ncmp_ne (tgt := 827) X cn 11 dL_isStep_820 (by decide) rfl rfl (by omega) (by omega) (fun c820 => ?_) (fun c820 => ?_)
        · skip
          refine p_iconst (v := (nI 1)) X dL_isStep_827 (by decide) ?_
          refine p_iadd (v := (nI 2)) X dL_isStep_828 (nI_add _ _) ?_
          refine p_istore (lv' := [(11, .int (nI 2)), (10, .int (-1)), (9, .int (sm (K.1.1 11) 12)), (8, .int (K.1.1 11 cn)), (7, .int (-1)), (0, .ref (ad 10 0)), (1, .ref (bd 10 0)), (2, .int x), (3, .int y), (4, .int w), (5, .int (nI K.1.2)), (6, .int (nI cn))]) X dL_isStep_829 (by decide) rfl ?_
          refine p_lv (lv1 := [(11, .int (nI 2)), (0, .ref (ad 10 0)), (1, .ref (bd 10 0)), (2, .int x), (3, .int y), (4, .int w), (5, .int (nI K.1.2)), (6, .int (nI cn)), (7, .int (-1)), (8, .int (K.1.1 11 cn)), (9, .int (sm (K.1.1 11) 12)), (10, .int (-1))]) [0, 5, 6, 7, 8, 9, 10, 11, 4, 3, 2, 1] rfl ?_
          exact tail806 2 (by split <;> (first | omega | (split <;> omega)))
        · skip
          refine p_iconst (v := (nI 0)) X dL_isStep_823 (by decide) ?_
          refine p_goto (tgt := 828) X dL_isStep_824 (by decide) ?_
          refine p_iadd (v := (nI 1)) X dL_isStep_828 (nI_add _ _) ?_
          refine p_istore (lv' := [(11, .int (nI 1)), (10, .int (-1)), (9, .int (sm (K.1.1 11) 12)), (8, .int (K.1.1 11 cn)), (7, .int (-1)), (0, .ref (ad 10 0)), (1, .ref (bd 10 0)), (2, .int x), (3, .int y), (4, .int w), (5, .int (nI K.1.2)), (6, .int (nI cn))]) X dL_isStep_829 (by decide) rfl ?_
          refine p_lv (lv1 := [(11, .int (nI 1)), (0, .ref (ad 10 0)), (1, .ref (bd 10 0)), (2, .int x), (3, .int y), (4, .int w), (5, .int (nI K.1.2)), (6, .int (nI cn)), (7, .int (-1)), (8, .int (K.1.1 11 cn)), (9, .int (sm (K.1.1 11) 12)), (10, .int (-1))]) [0, 5, 6, 7, 8, 9, 10, 11, 4, 3, 2, 1] rfl ?_
          exact tail806 1 (by split <;> (first | omega | (split <;> omega)))
      · skip
        have hc0 : cn = 0 := (nI_eq (b := 0) (by omega) (by decide)).mp (Classical.not_not.mp c808)
        refine p_iconst (v := (nI 0)) X dL_isStep_811 (by decide) ?_
        refine p_goto (tgt := 816) X dL_isStep_812 (by decide) ?_
        refine p_iload (q := 10) X dL_isStep_816 rfl ?_
        refine p_bipush (v := (nI 11)) X dL_isStep_818 (by decide) ?_
        refine p_ncmp_ne (tgt := 827) X cn 11 dL_isStep_820 (by decide) rfl rfl (by omega) (by omega) (fun c820 => ?_) (fun c820 => ?_)
        · skip
          refine p_iconst (v := (nI 1)) X dL_isStep_827 (by decide) ?_
          refine p_iadd (v := (nI 1)) X dL_isStep_828 (nI_add _ _) ?_
          refine p_istore (lv' := [(11, .int (nI 1)), (10, .int (-1)), (9, .int (sm (K.1.1 11) 12)), (8, .int (K.1.1 11 cn)), (7, .int (-1)), (0, .ref (ad 10 0)), (1, .ref (bd 10 0)), (2, .int x), (3, .int y), (4, .int w), (5, .int (nI K.1.2)), (6, .int (nI cn))]) X dL_isStep_829 (by decide) rfl ?_
          refine p_lv (lv1 := [(11, .int (nI 1)), (0, .ref (ad 10 0)), (1, .ref (bd 10 0)), (2, .int x), (3, .int y), (4, .int w), (5, .int (nI K.1.2)), (6, .int (nI cn)), (7, .int (-1)), (8, .int (K.1.1 11 cn)), (9, .int (sm (K.1.1 11) 12)), (10, .int (-1))]) [0, 5, 6, 7, 8, 9, 10, 11, 4, 3, 2, 1] rfl ?_
          exact tail806 1 (by split <;> (first | omega | (split <;> omega)))
        · skip
          refine p_iconst (v := (nI 0)) X dL_isStep_823 (by decide) ?_
          refine p_goto (tgt := 828) X dL_isStep_824 (by decide) ?_
          refine p_iadd (v := (nI 0)) X dL_isStep_828 (nI_add _ _) ?_
          refine p_istore (lv' := [(11, .int (nI 0)), (10, .int (-1)), (9, .int (sm (K.1.1 11) 12)), (8, .int (K.1.1 11 cn)), (7, .int (-1)), (0, .ref (ad 10 0)), (1, .ref (bd 10 0)), (2, .int x), (3, .int y), (4, .int w), (5, .int (nI K.1.2)), (6, .int (nI cn))]) X dL_isStep_829 (by decide) rfl ?_
          refine p_lv (lv1 := [(11, .int (nI 0)), (0, .ref (ad 10 0)), (1, .ref (bd 10 0)), (2, .int x), (3, .int y), (4, .int w), (5, .int (nI K.1.2)), (6, .int (nI cn)), (7, .int (-1)), (8, .int (K.1.1 11 cn)), (9, .int (sm (K.1.1 11) 12)), (10, .int (-1))]) [0, 5, 6, 7, 8, 9, 10, 11, 4, 3, 2, 1] rfl ?_
          exact tail806 0 (by split <;> (first | omega | (split <;> omega)))
set_option maxHeartbeats 4000000 in
set_option maxRecDepth 100000 in
theorem kL_isStep (l : Launch) (D : va_G) (ad bd : Nat → Nat → Nat) (cs : Nat → ClassId) (A B : Nat → Prop) (z : Nat → Nat) (K : KS) (Po Pp : PS) (x y : Int32) (t : Nat) (hwk : WK K t) (ht : t ≤ 53) : KP l D ad bd cs A B z yL_isStep wsL_isStep (rm 7 160) [.ref (ad 10 0), .ref (bd 10 0), .int x, .int y] ((K, Po), (K, Pp)) (SP t) := by
  refine KP_of (cc := cL_isStep) (maxL := 13) (ret := (some .boolean)) (by decide) rfl (Nat.le_of_ble_eq_true rfl) ?_
  intro p e s m args below meth c hr hlk X
  show P2 p l e _ s m args below meth c 0 0 _ 13 D ad bd cs A B 0 [(0, .ref (ad 10 0)), (1, .ref (bd 10 0)), (2, .int x), (3, .int y)] [] ((K, Po), (K, Pp))
  refine p_ok (fun hoo hpp => ?_)
  have hcz : CZ K.1.1 K.1.2 := hoo.1.1
  have hN20 := hcz.le
  refine p_iload_n (q := 2) X dL_isStep_0 rfl rfl ?_
  refine p_iconst (v := (nI 4)) X dL_isStep_1 (by decide) ?_
  refine p_ishr (v := (x >>> ((nI 4) &&& 31))) X dL_isStep_2 rfl ?_
  refine p_istore (lv' := [(4, .int (x >>> ((nI 4) &&& 31))), (0, .ref (ad 10 0)), (1, .ref (bd 10 0)), (2, .int x), (3, .int y)]) X dL_isStep_3 (by decide) rfl ?_
  generalize x >>> ((nI 4) &&& 31) = w
  refine p_iload (q := 0) X dL_isStep_5 rfl ?_
  refine p_aload_n (q := 1) X dL_isStep_7 rfl rfl ?_
  refine p_iconst (v := (nI 5)) X dL_isStep_8 (by decide) ?_
  refine p_o (As := [.int (nI 5)]) X (q_count l z K Po 5 (by decide)) (cwV 1 X.1.2.2.2.2 gL_isStep_X1_count rfl rfl rfl (by decide +kernel) ⟨Nat.le_of_ble_eq_true rfl, Nat.le_of_ble_eq_true rfl⟩) rfl rfl (Nat.le_of_ble_eq_true rfl) dL_isStep_9 ?_
  rw [R_cnt5]
  refine p_iconst (v := (nI 1)) X dL_isStep_12 (by decide) ?_
  refine p_iadd (v := (nI (K.1.2 + 1))) X dL_isStep_13 (nI_add _ _) ?_
  refine p_callS (As := [.int w, .int (nI (K.1.2 + 1))]) X (kL_up l D ad bd cs A B z w (K.1.2 + 1) (by omega) (by omega) ((K, Po), (K, Pp))) (va_cwS 2 X.1.2.2.2.2 gL_isStep_L_up rfl rfl rfl (by decide +kernel) ⟨Nat.le_of_ble_eq_true rfl, Nat.le_of_ble_eq_true rfl⟩) rfl rfl (Nat.le_of_ble_eq_true rfl) dL_isStep_14 (fun r14 m14 h14 => ?_)
  obtain ⟨h14, e14⟩ := h14
  have e14 := e14.symm
  subst e14
  subst h14
  have hu14 := uq_lt w (n := K.1.2 + 1) (by omega)
  obtain ⟨nm, enm, hnm⟩ : ∃ q, uq w (K.1.2 + 1) = q ∧ q < K.1.2 + 1 := ⟨_, rfl, hu14⟩
  rw [enm]
  refine p_istore (lv' := [(5, .int (nI nm)), (4, .int w), (0, .ref (ad 10 0)), (1, .ref (bd 10 0)), (2, .int x), (3, .int y)]) X dL_isStep_17 (by decide) rfl ?_
  refine p_iload_n (q := 5) X dL_isStep_19 rfl rfl ?_
  refine p_bipush (v := (nI 12)) X dL_isStep_20 (by decide) ?_
  refine p_callS (As := [.int y, .int (nI 12)]) X (kL_up l D ad bd cs A B z y 12 (by omega) (by omega) ((K, Po), (K, Pp))) (va_cwS 2 X.1.2.2.2.2 gL_isStep_L_up rfl rfl rfl (by decide +kernel) ⟨Nat.le_of_ble_eq_true rfl, Nat.le_of_ble_eq_true rfl⟩) rfl rfl (Nat.le_of_ble_eq_true rfl) dL_isStep_22 (fun r22 m22 h22 => ?_)
  obtain ⟨h22, e22⟩ := h22
  have e22 := e22.symm
  subst e22
  subst h22
  have hu22 := uq_lt y (n := 12) (by omega)
  obtain ⟨cn, ecn, hcn⟩ : ∃ q, uq y 12 = q ∧ q < 12 := ⟨_, rfl, hu22⟩
  rw [ecn]
  refine p_istore (lv' := [(6, .int (nI cn)), (5, .int (nI nm)), (4, .int w), (0, .ref (ad 10 0)), (1, .ref (bd 10 0)), (2, .int x), (3, .int y)]) X dL_isStep_25 (by decide) rfl ?_
  refine p_iload_n (q := 5) X dL_isStep_27 rfl rfl ?_
  refine p_bipush (v := (nI 18)) X dL_isStep_28 (by decide) ?_
  refine p_callS (As := [.int x, .int (nI 18)]) X (kL_up l D ad bd cs A B z x 18 (by omega) (by omega) ((K, Po), (K, Pp))) (va_cwS 2 X.1.2.2.2.2 gL_isStep_L_up rfl rfl rfl (by decide +kernel) ⟨Nat.le_of_ble_eq_true rfl, Nat.le_of_ble_eq_true rfl⟩) rfl rfl (Nat.le_of_ble_eq_true rfl) dL_isStep_30 (fun r30 m30 h30 => ?_)
  obtain ⟨h30, e30⟩ := h30
  have e30 := e30.symm
  subst e30
  subst h30
  have hu30 := uq_lt x (n := 18) (by omega)
  obtain ⟨sx, esx, hsx⟩ : ∃ q, uq x 18 = q ∧ q < 18 := ⟨_, rfl, hu30⟩
  rw [esx]
  rcases (show (sx = 0) ∨ (sx = 1) ∨ (sx = 2) ∨ (sx = 3) ∨ (sx = 4) ∨ (sx = 5) ∨ (sx = 6 ∨ sx = 7 ∨ sx = 8 ∨ sx = 9) ∨ (sx = 10 ∨ sx = 11 ∨ sx = 12 ∨ sx = 13) ∨ (sx = 14 ∨ sx = 15 ∨ sx = 16 ∨ sx = 17) by omega) with hx0 | hx1 | hx2 | hx3 | hx4 | hx5 | hx6 | hx7 | hx8
  · refine p_tabIn (off := 71) (tgt := 104) X dL_isStep_33 (by subst hx0; decide) (by subst hx0; decide) (by subst hx0; decide) (by decide) ?_
    refine p_lv (lv1 := [(0, .ref (ad 10 0)), (1, .ref (bd 10 0)), (2, .int x), (3, .int y), (4, .int w), (5, .int (nI nm)), (6, .int (nI cn))]) [3, 4, 5, 6, 2, 1, 0] rfl ?_
    exact ss_set l D ad bd cs A B z hr hlk X K Po Pp x y w t nm cn hwk ht (by omega) (by omega) hcz
  · refine p_tabIn (off := 184) (tgt := 217) X dL_isStep_33 (by subst hx1; decide) (by subst hx1; decide) (by subst hx1; decide) (by decide) ?_
    refine p_lv (lv1 := [(0, .ref (ad 10 0)), (1, .ref (bd 10 0)), (2, .int x), (3, .int y), (4, .int w), (5, .int (nI nm)), (6, .int (nI cn))]) [3, 4, 5, 6, 2, 1, 0] rfl ?_
    exact ss_hon l D ad bd cs A B z hr hlk X K Po Pp x y w t nm cn hwk ht (by omega) (by omega) hcz
  · refine p_tabIn (off := 258) (tgt := 291) X dL_isStep_33 (by subst hx2; decide) (by subst hx2; decide) (by subst hx2; decide) (by decide) ?_
    refine p_lv (lv1 := [(0, .ref (ad 10 0)), (1, .ref (bd 10 0)), (2, .int x), (3, .int y), (4, .int w), (5, .int (nI nm)), (6, .int (nI cn))]) [3, 4, 5, 6, 2, 1, 0] rfl ?_
    exact ss_wit l D ad bd cs A B z hr hlk X K Po Pp x y w t nm cn hwk ht (by omega) (by omega) hcz
  · refine p_tabIn (off := 397) (tgt := 430) X dL_isStep_33 (by subst hx3; decide) (by subst hx3; decide) (by subst hx3; decide) (by decide) ?_
    refine p_lv (lv1 := [(0, .ref (ad 10 0)), (1, .ref (bd 10 0)), (2, .int x), (3, .int y), (4, .int w), (5, .int (nI nm)), (6, .int (nI cn))]) [3, 4, 5, 6, 2, 1, 0] rfl ?_
    exact ss_str l D ad bd cs A B z hr hlk X K Po Pp x y w t nm cn hwk ht (by omega) (by omega) hcz
  · refine p_tabIn (off := 488) (tgt := 521) X dL_isStep_33 (by subst hx4; decide) (by subst hx4; decide) (by subst hx4; decide) (by decide) ?_
    refine p_lv (lv1 := [(0, .ref (ad 10 0)), (1, .ref (bd 10 0)), (2, .int x), (3, .int y), (4, .int w), (5, .int (nI nm)), (6, .int (nI cn))]) [3, 4, 5, 6, 2, 1, 0] rfl ?_
    exact ss_iss l D ad bd cs A B z hr hlk X K Po Pp x y w t nm cn hwk ht (by omega) (by omega) hcz
  · refine p_tabIn (off := 529) (tgt := 562) X dL_isStep_33 (by subst hx5; decide) (by subst hx5; decide) (by subst hx5; decide) (by decide) ?_
    refine p_lv (lv1 := [(0, .ref (ad 10 0)), (1, .ref (bd 10 0)), (2, .int x), (3, .int y), (4, .int w), (5, .int (nI nm)), (6, .int (nI cn))]) [3, 4, 5, 6, 2, 1, 0] rfl ?_
    exact ss_sav l D ad bd cs A B z hr hlk X K Po Pp x y w t nm cn hwk ht (by omega) (by omega) hcz
  · refine p_tabIn (off := 597) (tgt := 630) X dL_isStep_33 (by rcases hx6 with rfl | rfl | rfl | rfl <;> decide) (by rcases hx6 with rfl | rfl | rfl | rfl <;> decide) (by rcases hx6 with rfl | rfl | rfl | rfl <;> decide) (by decide) ?_
    refine p_lv (lv1 := [(0, .ref (ad 10 0)), (1, .ref (bd 10 0)), (2, .int x), (3, .int y), (4, .int w), (5, .int (nI nm)), (6, .int (nI cn))]) [3, 4, 5, 6, 2, 1, 0] rfl ?_
    exact ss_read l D ad bd cs A B z hr hlk X K Po Pp x y w t nm cn hwk ht (by omega) (by omega) hcz
  · refine p_tabIn (off := 606) (tgt := 639) X dL_isStep_33 (by rcases hx7 with rfl | rfl | rfl | rfl <;> decide) (by rcases hx7 with rfl | rfl | rfl | rfl <;> decide) (by rcases hx7 with rfl | rfl | rfl | rfl <;> decide) (by decide) ?_
    refine p_lv (lv1 := [(0, .ref (ad 10 0)), (1, .ref (bd 10 0)), (2, .int x), (3, .int y), (4, .int w), (5, .int (nI nm)), (6, .int (nI cn))]) [3, 4, 5, 6, 2, 1, 0] rfl ?_
    exact ss_pas l D ad bd cs A B z hr hlk X K Po Pp x y w t nm cn hwk ht (by omega) (by omega) hcz
  · refine p_tabOut (tgt := 769) X dL_isStep_33 (by rcases hx8 with rfl | rfl | rfl | rfl <;> decide) (by decide) ?_
    refine p_lv (lv1 := [(0, .ref (ad 10 0)), (1, .ref (bd 10 0)), (2, .int x), (3, .int y), (4, .int w), (5, .int (nI nm)), (6, .int (nI cn))]) [3, 4, 5, 6, 2, 1, 0] rfl ?_
    exact ss_giv l D ad bd cs A B z hr hlk X K Po Pp x y w t nm cn hwk ht (by omega) (by omega) hcz
