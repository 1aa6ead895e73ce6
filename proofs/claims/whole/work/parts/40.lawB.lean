section LAWROWS
variable {p : Program} {l : Launch} {e : Env} {R : Room} {s : State} {m : MethodId} {args : Array Value} {below : List Frame} {meth : Method} {c : Code} {ce sl : Nat} {Q : State → Prop} {cc : ByteArray} {nL : Nat} {own : String} {Ts : List Cond} {D : va_G} {ad : Nat → Nat → Nat} {cs : Nat → ClassId} {A : Nat → Prop} {z : Nat → Nat} {pc : Nat} {lv : List (Nat × Value)} {st : List Value} {μ : Mm}
theorem j_sld (X : JX p s m args c cc nL own Ts R ce sl D ad cs A z) {b L : Nat} {xs : Nat → Int32} (hX : va_X b L xs s s.heap) (hbl : b < s.heap.size) (hbA : ¬ A b) {x : Int32} (i : Nat) (hx : x = nI i) (hi : i < L) (hL : L < 2 ^ 31) (d : decode cc pc = .ok (.iaload, 1)) (kk : J p l e R s m args below meth c ce sl Q nL D ad cs A (pc + 1) lv (.int (xs i) :: st) μ) : J p l e R s m args below meth c ce sl Q nL D ad cs A pc lv (.int x :: .ref b :: st) μ := fun H locs ls hP hT hS hl => by
  subst hx
  refine va_sld X.1.1 X.1.2.1 hX hbl hbA hS (vp_in_nI hi hL) d ?_
  rw [nI_clamp (Nat.lt_trans hi hL)]
  exact kk H locs ls hP hT hS hl
theorem j_slen (X : JX p s m args c cc nL own Ts R ce sl D ad cs A z) {b L : Nat} {xs : Nat → Int32} (hX : va_X b L xs s s.heap) (hbl : b < s.heap.size) (hbA : ¬ A b) (d : decode cc pc = .ok (.arraylength, 1)) (kk : J p l e R s m args below meth c ce sl Q nL D ad cs A (pc + 1) lv (.int (nI L) :: st) μ) : J p l e R s m args below meth c ce sl Q nL D ad cs A pc lv (.ref b :: st) μ := fun H locs ls hP hT hS hl => va_slen X.1.1 X.1.2.1 hX hbl hbA hS d (kk H locs ls hP hT hS hl)
end LAWROWS
theorem end_i {L i : Nat} (hL : L ≤ 2048) (h : ¬ nI L - nI 4 < nI i) (hi : i ≤ 4000) : i + 4 ≤ L := by
  have h2 := pk_sub_toInt (a := L) (b := 4) (by omega) (by omega)
  have h3 : (nI i).toInt = i := nI_toInt (by omega)
  rcases Nat.lt_or_ge L (i + 4) with q | q
  · exfalso
    apply h
    apply Int32.lt_iff_toInt_lt.mpr
    omega
  · exact q
section LAWLI
variable {μ μ1 : Mm} {V V1 M1 : CV} {N N1 h : Nat} {hc : Nat → CV} {nh : Nat → Nat} {s0 s1 : CV} {n0 n1 : Nat} {u : Nat → Int32} {pl pl1 : Nat} {pd pd1 : Nat → Int32}
theorem LI.lx (q : LI μ V N h hc nh s0 s1 n0 n1 u pl pd) : LX μ := ⟨V, N, h, hc, nh, s0, s1, n0, n1, u, pl, pd, q⟩
theorem LI.fin (hC : CI V N) (hh : ∀ j, j < h → CI (hc j) (nh j)) (hs : (u 0 ≠ 0 → CI s0 n0) ∧ (u 1 ≠ 0 → CI s1 n1)) (b0 : isBo (s0 0 14)) (b1 : isBo (s1 0 14)) (hG : GS μ1 V h hc s0 s1 u pl pd) (hM : RM M1 V N h hc nh s0 s1 n0 n1 u pl pd) : LX (mb μ1 11 M1) := ⟨V, N, h, hc, nh, s0, s1, n0, n1, u, pl, pd, hG.oth (Or.inr rfl), by rw [mb_s]; exact hM, hC, hh, hs, b0, b1⟩
theorem LI.fin1 (q : LI μ V N h hc nh s0 s1 n0 n1 u pl pd) (hG : GS μ1 V h hc s0 s1 u pl1 pd1) (hM : RM M1 V N h hc nh s0 s1 n0 n1 u pl1 pd1) : LX (mb μ1 11 M1) := LI.fin q.2.2.1 q.2.2.2.1 q.2.2.2.2.1 q.2.2.2.2.2.1 q.2.2.2.2.2.2 hG hM
theorem LI.mut (q : LI μ V N h hc nh s0 s1 n0 n1 u pl pd) (hG : GS μ1 V1 (rech h) (recH hc h V) s0 s1 u pl1 pd1) (hM : RM M1 V1 N1 (rech h) (recH hc h V) (recN nh h N) s0 s1 n0 n1 u pl1 pd1) (hC : CI V1 N1) : LX (mb μ1 11 M1) := by
  refine LI.fin hC (fun j hj => ?_) q.2.2.2.2.1 q.2.2.2.2.2.1 q.2.2.2.2.2.2 hG hM
  have hh := q.2.2.2.1
  have h6 := q.2.1.2.1.2.1
  rw [rech] at hj
  rw [recH, recN]
  by_cases z : h < 6
  · rw [if_pos z] at hj
    rw [if_pos z, if_pos z]
    by_cases y : j = h
    · rw [if_pos y, if_pos y]; exact q.2.2.1
    · rw [if_neg y, if_neg y]; exact hh j (by omega)
  · rw [if_neg z] at hj
    rw [if_neg z, if_neg z]
    by_cases y : j = 5
    · rw [if_pos y, if_pos y]; exact q.2.2.1
    · rw [if_neg y, if_neg y]; exact hh (j + 1) (by omega)
theorem LI.mut0 (q : LI μ V N h hc nh s0 s1 n0 n1 u pl pd) : LX (mb (mb μ 0 V) 11 (μ 11)) := by
  rw [← q.1.eqb, mb_self]; exact q.lx
end LAWLI
set_option maxHeartbeats 8000000 in
set_option maxRecDepth 100000 in
theorem law_loop {p : Program} {e : Env} {s : State} {m : MethodId} {below : List Frame} {meth : Method} {c : Code} (l : Launch) {D : va_G} {ad : Nat → Nat → Nat} {cs : Nat → ClassId} {A : Nat → Prop} {z : Nat → Nat} {b L : Nat} {xs : Nat → Int32} (hL : L ≤ 2048) (X : JX p s m #[Value.ref b] c cL_law 4 RL wsL_law room_1 155 7183 D ad cs A z) (hX0 : va_X b L xs s s.heap) (hbl : b < s.heap.size) (hbA : ¬ A b) (hAe : ∀ q, A q → s.heap.size ≤ q) (hr : meth.sig.returnType = ret) (hlk : meth.locks = false) (μ0 : Mm) (h0 : LX μ0) : J p l e room_1 s m #[Value.ref b] below meth c 155 7183 (lw_Z below #[Value.ref b] s) 4 D ad cs A 18 [(3, .int (nI 0)), (2, .ref (ad 11 0)), (1, .ref (ad 10 0)), (0, .ref b)] [] μ0 := by
  refine jl2 (G := J p l e _ s m #[Value.ref b] below meth c 155 7183 _ _ D ad cs A) (pc := 18) (fun (i : Nat) (μ : Mm) => [(3, .int (nI i)), (2, .ref (ad 11 0)), (1, .ref (ad 10 0)), (0, .ref b)]) (fun (i : Nat) (μ : Mm) => (μ)) (fun (i : Nat) (μ : Mm) => i ≤ L + 3 ∧ LX μ) (fun (i : Nat) (μ : Mm) => L + 8 - i) ?_ 0 (μ0) ⟨by omega, h0⟩
  intro i μ hI18 ih18
  try dsimp only at ih18 ⊢
  obtain ⟨hi, hX⟩ := hI18
  obtain ⟨V, N, h, hc, nh, s0, s1, n0, n1, u, pl, pd, q⟩ := hX
  have hm := q.2.1
  have hci := q.2.2.1
  obtain ⟨a, P, hpd⟩ := hci.pd
  have hG : GS (mb μ 0 V) V h hc s0 s1 u pl pd := by rw [← q.1.eqb]; exact q.1
  refine j_iload_n (q := 0) X dL_law_18 rfl rfl ?_
  refine j_aload_n (q := 3) X dL_law_19 rfl rfl ?_
  refine j_slen X hX0 hbl hbA dL_law_20 ?_
  refine j_iconst (v := (nI 4)) X dL_law_21 (by decide) ?_
  refine j_isub (v := (nI L - nI 4)) X dL_law_22 rfl ?_
  refine j_icmp_gt (tgt := 735) X dL_law_23 (by decide) (fun c23 => ?_) (fun c23 => ?_)
  · skip
    refine j_iconst (v := (nI 1)) X dL_law_735 (by decide) ?_
    refine fun H locs ls hP hT hS hl => ?_
    refine va_forget (fun q hq => hAe _ (hS.2.2 q hq)) ?_
    refine W.widen (k := 600000) (n := 7302250) (Nat.le_of_ble_eq_true rfl) (Nat.le_of_ble_eq_true rfl) ?_
    exact lw_ret X.1.1 X.1.2.1 hr hlk dL_law_736
  · skip
    have hi4 := end_i hL c23 (by omega)
    refine j_aload_n (q := 3) X dL_law_26 rfl rfl ?_
    refine j_iload_n (q := 0) X dL_law_27 rfl rfl ?_
    refine j_sld X hX0 hbl hbA i rfl (by omega) (by omega) dL_law_28 ?_
    refine j_bipush (v := (nI 31)) X dL_law_29 (by decide) ?_
    refine j_iand (v := ((xs i) &&& (nI 31))) X dL_law_31 rfl ?_
    generalize xs i &&& nI 31 = w
    rcases swc w 22 (by decide) with hsw | ⟨isw, hisw, hisw2⟩
    · refine j_tabOut (tgt := 729) X dL_law_32 hsw (by decide) ?_
      have hsn := sw_ne (n := 22) (by decide) hsw
      refine j_iinc (q := 0) (v := (nI (i + 4))) (lv' := [(3, .int (nI (i + 4))), (2, .ref (ad 11 0)), (1, .ref (ad 10 0)), (0, .ref b)]) X dL_law_729 rfl (nI_add _ _) (by decide) rfl ?_
      refine j_goto (tgt := 18) X dL_law_732 (by decide) ?_
      exact ih18 (i + 4) (μ) ⟨by omega, q.lx⟩ (by omega)
    · rcases (show isw = 0 ∨ isw = 1 ∨ isw = 2 ∨ isw = 3 ∨ isw = 4 ∨ isw = 5 ∨ isw = 6 ∨ isw = 7 ∨ isw = 8 ∨ isw = 9 ∨ isw = 10 ∨ isw = 11 ∨ isw = 12 ∨ isw = 13 ∨ isw = 14 ∨ isw = 15 ∨ isw = 16 ∨ isw = 17 ∨ isw = 18 ∨ isw = 19 ∨ isw = 20 ∨ isw = 21 ∨ isw = 22 by omega) with rfl | rfl | rfl | rfl | rfl | rfl | rfl | rfl | rfl | rfl | rfl | rfl | rfl | rfl | rfl | rfl | rfl | rfl | rfl | rfl | rfl | rfl | rfl
      · subst hisw2
        refine j_tabIn (off := 108) (tgt := 140) X dL_law_32 (by decide) (by decide) (by decide) (by decide) ?_
        refine j_aload_n (q := 2) X dL_law_140 rfl rfl ?_
        refine j_aload_n (q := 3) X dL_law_141 rfl rfl ?_
        refine j_iload_n (q := 0) X dL_law_142 rfl rfl ?_
        refine j_iconst (v := (nI 1)) X dL_law_143 (by decide) ?_
        refine j_iadd (v := (nI (i + 1))) X dL_law_144 (nI_add _ _) ?_
        refine j_sld X hX0 hbl hbA (i + 1) rfl (by omega) (by omega) dL_law_145 ?_
        refine j_aload_n (q := 3) X dL_law_146 rfl rfl ?_
        refine j_iload_n (q := 0) X dL_law_147 rfl rfl ?_
        refine j_iconst (v := (nI 2)) X dL_law_148 (by decide) ?_
        refine j_iadd (v := (nI (i + 2))) X dL_law_149 (nI_add _ _) ?_
        refine j_sld X hX0 hbl hbA (i + 2) rfl (by omega) (by omega) dL_law_150 ?_
        refine j_eq q.1.eqb ?_
        refine j_callVi (As := [.int (xs (i + 1)), .int (xs (i + 2))]) X (kX1_set l D ad cs A z μ V h hc s0 s1 u pl pd hG N hci (xs (i + 1)) (xs (i + 2))) oM rfl (cwV 2 X.1.2.2.2.2 gL_law_X1_set rfl rfl rfl (by decide +kernel) ⟨Nat.le_of_ble_eq_true rfl, Nat.le_of_ble_eq_true rfl⟩) rfl rfl (Nat.le_of_ble_eq_true rfl) dL_law_151 (fun r151 μ151 h151 => ?_)
        obtain ⟨e1, hy, hn⟩ := h151
        have h11 : μ151 11 = μ 11 := (Classical.em (okS (xs (i + 1)) (xs (i + 2)))).elim (fun z => (hy z).2) (fun z => by rw [hn z, mb_n (by decide)])
        refine j_aload_n (q := 1) X dL_law_154 rfl rfl ?_
        refine j_aload_n (q := 3) X dL_law_155 rfl rfl ?_
        refine j_iload_n (q := 0) X dL_law_156 rfl rfl ?_
        refine j_iconst (v := (nI 1)) X dL_law_157 (by decide) ?_
        refine j_iadd (v := (nI (i + 1))) X dL_law_158 (nI_add _ _) ?_
        refine j_sld X hX0 hbl hbA (i + 1) rfl (by omega) (by omega) dL_law_159 ?_
        refine j_aload_n (q := 3) X dL_law_160 rfl rfl ?_
        refine j_iload_n (q := 0) X dL_law_161 rfl rfl ?_
        refine j_iconst (v := (nI 2)) X dL_law_162 (by decide) ?_
        refine j_iadd (v := (nI (i + 2))) X dL_law_163 (nI_add _ _) ?_
        refine j_sld X hX0 hbl hbA (i + 2) rfl (by omega) (by omega) dL_law_164 ?_
        refine j_eq (μ1 := mb μ151 11 (μ 11)) (by rw [← h11, mb_self]) ?_
        refine j_callVi (As := [.int (xs (i + 1)), .int (xs (i + 2))]) X (kX2_set l D ad cs A z μ151 (μ 11) V N h hc nh s0 s1 n0 n1 u pl pd hm hci (xs (i + 1)) (xs (i + 2))) oR rfl (cwV 2 X.1.2.2.2.2 gL_law_X2_set rfl rfl rfl (by decide +kernel) ⟨Nat.le_of_ble_eq_true rfl, Nat.le_of_ble_eq_true rfl⟩) rfl rfl (Nat.le_of_ble_eq_true rfl) dL_law_165 (fun r165 μ165 h165 => ?_)
        obtain ⟨M1, rfl, e2, gy, gn⟩ := h165
        have hLX : LX (mb μ151 11 M1) := by
          by_cases hE : okS (xs (i + 1)) (xs (i + 2))
          · exact q.mut (hy hE).1 (gy hE) (hci.set hE)
          · rw [hn hE, gn hE]; exact q.mut0
        have heq : r151 = r165 := e1.trans e2.symm
        refine j_icmp_eq (tgt := 729) X dL_law_168 (by decide) (fun c168 => ?_) (fun c168 => absurd heq c168)
        refine j_iinc (q := 0) (v := (nI (i + 4))) (lv' := [(3, .int (nI (i + 4))), (2, .ref (ad 11 0)), (1, .ref (ad 10 0)), (0, .ref b)]) X dL_law_729 rfl (nI_add _ _) (by decide) rfl ?_
        refine j_goto (tgt := 18) X dL_law_732 (by decide) ?_
        exact ih18 (i + 4) (mb μ151 11 M1) ⟨by omega, hLX⟩ (by omega)
      · subst hisw2
        refine j_tabIn (off := 141) (tgt := 173) X dL_law_32 (by decide) (by decide) (by decide) (by decide) ?_
        refine j_aload_n (q := 2) X dL_law_173 rfl rfl ?_
        refine j_eq q.1.eqb ?_
        refine j_callVi (As := []) X (kX1_read l D ad cs A z μ V h hc s0 s1 u pl pd hG N hci hm.2.2.2.2.1 ) oM rfl (cwV 0 X.1.2.2.2.2 gL_law_X1_read rfl rfl rfl (by decide +kernel) ⟨Nat.le_of_ble_eq_true rfl, Nat.le_of_ble_eq_true rfl⟩) rfl rfl (Nat.le_of_ble_eq_true rfl) dL_law_174 (fun r174 μ174 h174 => ?_)
        obtain ⟨e1, hy, hn⟩ := h174
        have h11 : μ174 11 = μ 11 := (Classical.em (Erea N pd pl)).elim (fun z => (hy z).2) (fun z => by rw [hn z, mb_n (by decide)])
        refine j_aload_n (q := 1) X dL_law_177 rfl rfl ?_
        refine j_eq (μ1 := mb μ174 11 (μ 11)) (by rw [← h11, mb_self]) ?_
        refine j_callVi (As := []) X (kX2_read l D ad cs A z μ174 (μ 11) V N h hc nh s0 s1 n0 n1 u pl pd hm hci ) oR rfl (cwV 0 X.1.2.2.2.2 gL_law_X2_read rfl rfl rfl (by decide +kernel) ⟨Nat.le_of_ble_eq_true rfl, Nat.le_of_ble_eq_true rfl⟩) rfl rfl (Nat.le_of_ble_eq_true rfl) dL_law_178 (fun r178 μ178 h178 => ?_)
        obtain ⟨M1, rfl, e2, gy, gn⟩ := h178
        have hLX : LX (mb μ174 11 M1) := by
          by_cases hE : Erea N pd pl
          · exact q.mut (hy hE).1 (gy hE) (hci.rd (ft_ok hm.2.2.2.2.1 hE.1).1 hE.2 pl (Nat.le_refl _))
          · rw [hn hE]; exact q.fin1 hG (gn hE)
        have heq : r174 = r178 := e1.trans e2.symm
        refine j_icmp_eq (tgt := 729) X dL_law_181 (by decide) (fun c181 => ?_) (fun c181 => absurd heq c181)
        refine j_iinc (q := 0) (v := (nI (i + 4))) (lv' := [(3, .int (nI (i + 4))), (2, .ref (ad 11 0)), (1, .ref (ad 10 0)), (0, .ref b)]) X dL_law_729 rfl (nI_add _ _) (by decide) rfl ?_
        refine j_goto (tgt := 18) X dL_law_732 (by decide) ?_
        exact ih18 (i + 4) (mb μ174 11 M1) ⟨by omega, hLX⟩ (by omega)
      · subst hisw2
        refine j_tabIn (off := 154) (tgt := 186) X dL_law_32 (by decide) (by decide) (by decide) (by decide) ?_
        refine j_aload_n (q := 2) X dL_law_186 rfl rfl ?_
        refine j_aload_n (q := 3) X dL_law_187 rfl rfl ?_
        refine j_iload_n (q := 0) X dL_law_188 rfl rfl ?_
        refine j_iconst (v := (nI 1)) X dL_law_189 (by decide) ?_
        refine j_iadd (v := (nI (i + 1))) X dL_law_190 (nI_add _ _) ?_
        refine j_sld X hX0 hbl hbA (i + 1) rfl (by omega) (by omega) dL_law_191 ?_
        refine j_aload_n (q := 3) X dL_law_192 rfl rfl ?_
        refine j_iload_n (q := 0) X dL_law_193 rfl rfl ?_
        refine j_iconst (v := (nI 2)) X dL_law_194 (by decide) ?_
        refine j_iadd (v := (nI (i + 2))) X dL_law_195 (nI_add _ _) ?_
        refine j_sld X hX0 hbl hbA (i + 2) rfl (by omega) (by omega) dL_law_196 ?_
        refine j_eq q.1.eqb ?_
        refine j_callVi (As := [.int (xs (i + 1)), .int (xs (i + 2))]) X (kX1_honour l D ad cs A z μ V h hc s0 s1 u pl pd hG N hci (xs (i + 1)) (xs (i + 2))) oM rfl (cwV 2 X.1.2.2.2.2 gL_law_X1_honour rfl rfl rfl (by decide +kernel) ⟨Nat.le_of_ble_eq_true rfl, Nat.le_of_ble_eq_true rfl⟩) rfl rfl (Nat.le_of_ble_eq_true rfl) dL_law_197 (fun r197 μ197 h197 => ?_)
        obtain ⟨e1, hy, hn⟩ := h197
        have h11 : μ197 11 = μ 11 := (Classical.em (Ehon V (xs (i + 1)) (xs (i + 2)))).elim (fun z => (hy z).2) (fun z => by rw [hn z, mb_n (by decide)])
        refine j_aload_n (q := 1) X dL_law_200 rfl rfl ?_
        refine j_aload_n (q := 3) X dL_law_201 rfl rfl ?_
        refine j_iload_n (q := 0) X dL_law_202 rfl rfl ?_
        refine j_iconst (v := (nI 1)) X dL_law_203 (by decide) ?_
        refine j_iadd (v := (nI (i + 1))) X dL_law_204 (nI_add _ _) ?_
        refine j_sld X hX0 hbl hbA (i + 1) rfl (by omega) (by omega) dL_law_205 ?_
        refine j_aload_n (q := 3) X dL_law_206 rfl rfl ?_
        refine j_iload_n (q := 0) X dL_law_207 rfl rfl ?_
        refine j_iconst (v := (nI 2)) X dL_law_208 (by decide) ?_
        refine j_iadd (v := (nI (i + 2))) X dL_law_209 (nI_add _ _) ?_
        refine j_sld X hX0 hbl hbA (i + 2) rfl (by omega) (by omega) dL_law_210 ?_
        refine j_eq (μ1 := mb μ197 11 (μ 11)) (by rw [← h11, mb_self]) ?_
        refine j_callVi (As := [.int (xs (i + 1)), .int (xs (i + 2))]) X (kX2_honour l D ad cs A z μ197 (μ 11) V N h hc nh s0 s1 n0 n1 u pl pd hm hci (xs (i + 1)) (xs (i + 2))) oR rfl (cwV 2 X.1.2.2.2.2 gL_law_X2_honour rfl rfl rfl (by decide +kernel) ⟨Nat.le_of_ble_eq_true rfl, Nat.le_of_ble_eq_true rfl⟩) rfl rfl (Nat.le_of_ble_eq_true rfl) dL_law_211 (fun r211 μ211 h211 => ?_)
        obtain ⟨M1, rfl, e2, gy, gn⟩ := h211
        have hLX : LX (mb μ197 11 M1) := by
          by_cases hE : Ehon V (xs (i + 1)) (xs (i + 2))
          · exact q.mut (hy hE).1 (gy hE) (hci.hon hE)
          · rw [hn hE, gn hE]; exact q.mut0
        have heq : r197 = r211 := e1.trans e2.symm
        refine j_icmp_eq (tgt := 729) X dL_law_214 (by decide) (fun c214 => ?_) (fun c214 => absurd heq c214)
        refine j_iinc (q := 0) (v := (nI (i + 4))) (lv' := [(3, .int (nI (i + 4))), (2, .ref (ad 11 0)), (1, .ref (ad 10 0)), (0, .ref b)]) X dL_law_729 rfl (nI_add _ _) (by decide) rfl ?_
        refine j_goto (tgt := 18) X dL_law_732 (by decide) ?_
        exact ih18 (i + 4) (mb μ197 11 M1) ⟨by omega, hLX⟩ (by omega)
      · subst hisw2
        refine j_tabIn (off := 187) (tgt := 219) X dL_law_32 (by decide) (by decide) (by decide) (by decide) ?_
        refine j_aload_n (q := 2) X dL_law_219 rfl rfl ?_
        refine j_aload_n (q := 3) X dL_law_220 rfl rfl ?_
        refine j_iload_n (q := 0) X dL_law_221 rfl rfl ?_
        refine j_iconst (v := (nI 1)) X dL_law_222 (by decide) ?_
        refine j_iadd (v := (nI (i + 1))) X dL_law_223 (nI_add _ _) ?_
        refine j_sld X hX0 hbl hbA (i + 1) rfl (by omega) (by omega) dL_law_224 ?_
        refine j_eq q.1.eqb ?_
        refine j_callVi (As := [.int (xs (i + 1))]) X (kX1_withdraw l D ad cs A z μ V h hc s0 s1 u pl pd hG N hci (xs (i + 1))) oM rfl (cwV 1 X.1.2.2.2.2 gL_law_X1_withdraw rfl rfl rfl (by decide +kernel) ⟨Nat.le_of_ble_eq_true rfl, Nat.le_of_ble_eq_true rfl⟩) rfl rfl (Nat.le_of_ble_eq_true rfl) dL_law_225 (fun r225 μ225 h225 => ?_)
        obtain ⟨e1, hy, hn⟩ := h225
        have h11 : μ225 11 = μ 11 := (Classical.em (Ewit V (xs (i + 1)))).elim (fun z => (hy z).2) (fun z => by rw [hn z, mb_n (by decide)])
        refine j_aload_n (q := 1) X dL_law_228 rfl rfl ?_
        refine j_aload_n (q := 3) X dL_law_229 rfl rfl ?_
        refine j_iload_n (q := 0) X dL_law_230 rfl rfl ?_
        refine j_iconst (v := (nI 1)) X dL_law_231 (by decide) ?_
        refine j_iadd (v := (nI (i + 1))) X dL_law_232 (nI_add _ _) ?_
        refine j_sld X hX0 hbl hbA (i + 1) rfl (by omega) (by omega) dL_law_233 ?_
        refine j_eq (μ1 := mb μ225 11 (μ 11)) (by rw [← h11, mb_self]) ?_
        refine j_callVi (As := [.int (xs (i + 1))]) X (kX2_withdraw l D ad cs A z μ225 (μ 11) V N h hc nh s0 s1 n0 n1 u pl pd hm hci (xs (i + 1))) oR rfl (cwV 1 X.1.2.2.2.2 gL_law_X2_withdraw rfl rfl rfl (by decide +kernel) ⟨Nat.le_of_ble_eq_true rfl, Nat.le_of_ble_eq_true rfl⟩) rfl rfl (Nat.le_of_ble_eq_true rfl) dL_law_234 (fun r234 μ234 h234 => ?_)
        obtain ⟨M1, rfl, e2, gy, gn⟩ := h234
        have hLX : LX (mb μ225 11 M1) := by
          by_cases hE : Ewit V (xs (i + 1))
          · exact q.mut (hy hE).1 (gy hE) (hci.wit hE)
          · rw [hn hE, gn hE]; exact q.mut0
        have heq : r225 = r234 := e1.trans e2.symm
        refine j_icmp_eq (tgt := 729) X dL_law_237 (by decide) (fun c237 => ?_) (fun c237 => absurd heq c237)
        refine j_iinc (q := 0) (v := (nI (i + 4))) (lv' := [(3, .int (nI (i + 4))), (2, .ref (ad 11 0)), (1, .ref (ad 10 0)), (0, .ref b)]) X dL_law_729 rfl (nI_add _ _) (by decide) rfl ?_
        refine j_goto (tgt := 18) X dL_law_732 (by decide) ?_
        exact ih18 (i + 4) (mb μ225 11 M1) ⟨by omega, hLX⟩ (by omega)
      · subst hisw2
        refine j_tabIn (off := 210) (tgt := 242) X dL_law_32 (by decide) (by decide) (by decide) (by decide) ?_
        refine j_aload_n (q := 2) X dL_law_242 rfl rfl ?_
        refine j_aload_n (q := 3) X dL_law_243 rfl rfl ?_
        refine j_iload_n (q := 0) X dL_law_244 rfl rfl ?_
        refine j_iconst (v := (nI 1)) X dL_law_245 (by decide) ?_
        refine j_iadd (v := (nI (i + 1))) X dL_law_246 (nI_add _ _) ?_
        refine j_sld X hX0 hbl hbA (i + 1) rfl (by omega) (by omega) dL_law_247 ?_
        refine j_aload_n (q := 3) X dL_law_248 rfl rfl ?_
        refine j_iload_n (q := 0) X dL_law_249 rfl rfl ?_
        refine j_iconst (v := (nI 2)) X dL_law_250 (by decide) ?_
        refine j_iadd (v := (nI (i + 2))) X dL_law_251 (nI_add _ _) ?_
        refine j_sld X hX0 hbl hbA (i + 2) rfl (by omega) (by omega) dL_law_252 ?_
        refine j_eq q.1.eqb ?_
        refine j_callVi (As := [.int (xs (i + 1)), .int (xs (i + 2))]) X (kX1_give l D ad cs A z μ V h hc s0 s1 u pl pd hG N hci a P hpd (xs (i + 1)) (xs (i + 2))) oM rfl (cwV 2 X.1.2.2.2.2 gL_law_X1_give rfl rfl rfl (by decide +kernel) ⟨Nat.le_of_ble_eq_true rfl, Nat.le_of_ble_eq_true rfl⟩) rfl rfl (Nat.le_of_ble_eq_true rfl) dL_law_253 (fun r253 μ253 h253 => ?_)
        obtain ⟨e1, hy, hn⟩ := h253
        have h11 : μ253 11 = μ 11 := (Classical.em (Egiv V a (xs (i + 1)) (xs (i + 2)))).elim (fun z => (hy z).2) (fun z => by rw [hn z, mb_n (by decide)])
        refine j_aload_n (q := 1) X dL_law_256 rfl rfl ?_
        refine j_aload_n (q := 3) X dL_law_257 rfl rfl ?_
        refine j_iload_n (q := 0) X dL_law_258 rfl rfl ?_
        refine j_iconst (v := (nI 1)) X dL_law_259 (by decide) ?_
        refine j_iadd (v := (nI (i + 1))) X dL_law_260 (nI_add _ _) ?_
        refine j_sld X hX0 hbl hbA (i + 1) rfl (by omega) (by omega) dL_law_261 ?_
        refine j_aload_n (q := 3) X dL_law_262 rfl rfl ?_
        refine j_iload_n (q := 0) X dL_law_263 rfl rfl ?_
        refine j_iconst (v := (nI 2)) X dL_law_264 (by decide) ?_
        refine j_iadd (v := (nI (i + 2))) X dL_law_265 (nI_add _ _) ?_
        refine j_sld X hX0 hbl hbA (i + 2) rfl (by omega) (by omega) dL_law_266 ?_
        refine j_eq (μ1 := mb μ253 11 (μ 11)) (by rw [← h11, mb_self]) ?_
        refine j_callVi (As := [.int (xs (i + 1)), .int (xs (i + 2))]) X (kX2_give l D ad cs A z μ253 (μ 11) V N h hc nh s0 s1 n0 n1 u pl pd hm hci a hpd.1 hpd.2.1 (xs (i + 1)) (xs (i + 2))) oR rfl (cwV 2 X.1.2.2.2.2 gL_law_X2_give rfl rfl rfl (by decide +kernel) ⟨Nat.le_of_ble_eq_true rfl, Nat.le_of_ble_eq_true rfl⟩) rfl rfl (Nat.le_of_ble_eq_true rfl) dL_law_267 (fun r267 μ267 h267 => ?_)
        obtain ⟨M1, rfl, e2, gy, gn⟩ := h267
        have hLX : LX (mb μ253 11 M1) := by
          by_cases hE : Egiv V a (xs (i + 1)) (xs (i + 2))
          · exact q.mut (hy hE).1 (gy hE) (hci.giv hE)
          · rw [hn hE, gn hE]; exact q.mut0
        have heq : r253 = r267 := e1.trans e2.symm
        refine j_icmp_eq (tgt := 729) X dL_law_270 (by decide) (fun c270 => ?_) (fun c270 => absurd heq c270)
        refine j_iinc (q := 0) (v := (nI (i + 4))) (lv' := [(3, .int (nI (i + 4))), (2, .ref (ad 11 0)), (1, .ref (ad 10 0)), (0, .ref b)]) X dL_law_729 rfl (nI_add _ _) (by decide) rfl ?_
        refine j_goto (tgt := 18) X dL_law_732 (by decide) ?_
        exact ih18 (i + 4) (mb μ253 11 M1) ⟨by omega, hLX⟩ (by omega)
      · subst hisw2
        refine j_tabIn (off := 243) (tgt := 275) X dL_law_32 (by decide) (by decide) (by decide) (by decide) ?_
        refine j_aload_n (q := 2) X dL_law_275 rfl rfl ?_
        refine j_aload_n (q := 3) X dL_law_276 rfl rfl ?_
        refine j_iload_n (q := 0) X dL_law_277 rfl rfl ?_
        refine j_iconst (v := (nI 1)) X dL_law_278 (by decide) ?_
        refine j_iadd (v := (nI (i + 1))) X dL_law_279 (nI_add _ _) ?_
        refine j_sld X hX0 hbl hbA (i + 1) rfl (by omega) (by omega) dL_law_280 ?_
        refine j_eq q.1.eqb ?_
        refine j_callVi (As := [.int (xs (i + 1))]) X (kX1_strip l D ad cs A z μ V h hc s0 s1 u pl pd hG N hci (xs (i + 1))) oM rfl (cwV 1 X.1.2.2.2.2 gL_law_X1_strip rfl rfl rfl (by decide +kernel) ⟨Nat.le_of_ble_eq_true rfl, Nat.le_of_ble_eq_true rfl⟩) rfl rfl (Nat.le_of_ble_eq_true rfl) dL_law_281 (fun r281 μ281 h281 => ?_)
        obtain ⟨e1, hy, hn⟩ := h281
        have h11 : μ281 11 = μ 11 := (Classical.em (Estr V (xs (i + 1)))).elim (fun z => (hy z).2) (fun z => by rw [hn z, mb_n (by decide)])
        refine j_aload_n (q := 1) X dL_law_284 rfl rfl ?_
        refine j_aload_n (q := 3) X dL_law_285 rfl rfl ?_
        refine j_iload_n (q := 0) X dL_law_286 rfl rfl ?_
        refine j_iconst (v := (nI 1)) X dL_law_287 (by decide) ?_
        refine j_iadd (v := (nI (i + 1))) X dL_law_288 (nI_add _ _) ?_
        refine j_sld X hX0 hbl hbA (i + 1) rfl (by omega) (by omega) dL_law_289 ?_
        refine j_eq (μ1 := mb μ281 11 (μ 11)) (by rw [← h11, mb_self]) ?_
        refine j_callVi (As := [.int (xs (i + 1))]) X (kX2_strip l D ad cs A z μ281 (μ 11) V N h hc nh s0 s1 n0 n1 u pl pd hm hci (xs (i + 1))) oR rfl (cwV 1 X.1.2.2.2.2 gL_law_X2_strip rfl rfl rfl (by decide +kernel) ⟨Nat.le_of_ble_eq_true rfl, Nat.le_of_ble_eq_true rfl⟩) rfl rfl (Nat.le_of_ble_eq_true rfl) dL_law_290 (fun r290 μ290 h290 => ?_)
        obtain ⟨M1, rfl, e2, gy, gn⟩ := h290
        have hLX : LX (mb μ281 11 M1) := by
          by_cases hE : Estr V (xs (i + 1))
          · exact q.mut (hy hE).1 (gy hE) (hci.str)
          · rw [hn hE, gn hE]; exact q.mut0
        have heq : r281 = r290 := e1.trans e2.symm
        refine j_icmp_eq (tgt := 729) X dL_law_293 (by decide) (fun c293 => ?_) (fun c293 => absurd heq c293)
        refine j_iinc (q := 0) (v := (nI (i + 4))) (lv' := [(3, .int (nI (i + 4))), (2, .ref (ad 11 0)), (1, .ref (ad 10 0)), (0, .ref b)]) X dL_law_729 rfl (nI_add _ _) (by decide) rfl ?_
        refine j_goto (tgt := 18) X dL_law_732 (by decide) ?_
        exact ih18 (i + 4) (mb μ281 11 M1) ⟨by omega, hLX⟩ (by omega)
      · subst hisw2
        refine j_tabIn (off := 266) (tgt := 298) X dL_law_32 (by decide) (by decide) (by decide) (by decide) ?_
        refine j_aload_n (q := 2) X dL_law_298 rfl rfl ?_
        refine j_eq q.1.eqb ?_
        refine j_callVi (As := []) X (kX1_issue l D ad cs A z μ V h hc s0 s1 u pl pd hG N hci ) oM rfl (cwV 0 X.1.2.2.2.2 gL_law_X1_issue rfl rfl rfl (by decide +kernel) ⟨Nat.le_of_ble_eq_true rfl, Nat.le_of_ble_eq_true rfl⟩) rfl rfl (Nat.le_of_ble_eq_true rfl) dL_law_299 (fun r299 μ299 h299 => ?_)
        obtain ⟨e1, hy, h11⟩ := h299
        refine j_aload_n (q := 1) X dL_law_302 rfl rfl ?_
        refine j_eq (μ1 := mb μ299 11 (μ 11)) (by rw [← h11, mb_self]) ?_
        refine j_callVi (As := []) X (kX2_issue l D ad cs A z μ299 (μ 11) V N h hc nh s0 s1 n0 n1 u pl pd hm hci ) oR rfl (cwV 0 X.1.2.2.2.2 gL_law_X2_issue rfl rfl rfl (by decide +kernel) ⟨Nat.le_of_ble_eq_true rfl, Nat.le_of_ble_eq_true rfl⟩) rfl rfl (Nat.le_of_ble_eq_true rfl) dL_law_303 (fun r303 μ303 h303 => ?_)
        obtain ⟨M1, rfl, e2, g2⟩ := h303
        have hLX : LX (mb μ299 11 M1) := q.mut hy g2 hci.iss
        have heq : r299 = r303 := e1.trans e2.symm
        refine j_icmp_eq (tgt := 729) X dL_law_306 (by decide) (fun c306 => ?_) (fun c306 => absurd heq c306)
        refine j_iinc (q := 0) (v := (nI (i + 4))) (lv' := [(3, .int (nI (i + 4))), (2, .ref (ad 11 0)), (1, .ref (ad 10 0)), (0, .ref b)]) X dL_law_729 rfl (nI_add _ _) (by decide) rfl ?_
        refine j_goto (tgt := 18) X dL_law_732 (by decide) ?_
        exact ih18 (i + 4) (mb μ299 11 M1) ⟨by omega, hLX⟩ (by omega)
      · subst hisw2
        refine j_tabIn (off := 279) (tgt := 311) X dL_law_32 (by decide) (by decide) (by decide) (by decide) ?_
        refine j_aload_n (q := 2) X dL_law_311 rfl rfl ?_
        refine j_aload_n (q := 3) X dL_law_312 rfl rfl ?_
        refine j_iload_n (q := 0) X dL_law_313 rfl rfl ?_
        refine j_iconst (v := (nI 1)) X dL_law_314 (by decide) ?_
        refine j_iadd (v := (nI (i + 1))) X dL_law_315 (nI_add _ _) ?_
        refine j_sld X hX0 hbl hbA (i + 1) rfl (by omega) (by omega) dL_law_316 ?_
        refine j_eq q.1.eqb ?_
        refine j_callVi (As := [.int (xs (i + 1))]) X (kX1_pass l D ad cs A z μ V h hc s0 s1 u pl pd hG N hci a P hpd (xs (i + 1))) oM rfl (cwV 1 X.1.2.2.2.2 gL_law_X1_pass rfl rfl rfl (by decide +kernel) ⟨Nat.le_of_ble_eq_true rfl, Nat.le_of_ble_eq_true rfl⟩) rfl rfl (Nat.le_of_ble_eq_true rfl) dL_law_317 (fun r317 μ317 h317 => ?_)
        obtain ⟨e1, hy, hn⟩ := h317
        have h11 : μ317 11 = μ 11 := (Classical.em (Epas V (xs (i + 1)))).elim (fun z => (hy z).2) (fun z => by rw [hn z, mb_n (by decide)])
        refine j_aload_n (q := 1) X dL_law_320 rfl rfl ?_
        refine j_aload_n (q := 3) X dL_law_321 rfl rfl ?_
        refine j_iload_n (q := 0) X dL_law_322 rfl rfl ?_
        refine j_iconst (v := (nI 1)) X dL_law_323 (by decide) ?_
        refine j_iadd (v := (nI (i + 1))) X dL_law_324 (nI_add _ _) ?_
        refine j_sld X hX0 hbl hbA (i + 1) rfl (by omega) (by omega) dL_law_325 ?_
        refine j_eq (μ1 := mb μ317 11 (μ 11)) (by rw [← h11, mb_self]) ?_
        refine j_callVi (As := [.int (xs (i + 1))]) X (kX2_pass l D ad cs A z μ317 (μ 11) V N h hc nh s0 s1 n0 n1 u pl pd hm hci a P hpd (xs (i + 1))) oR rfl (cwV 1 X.1.2.2.2.2 gL_law_X2_pass rfl rfl rfl (by decide +kernel) ⟨Nat.le_of_ble_eq_true rfl, Nat.le_of_ble_eq_true rfl⟩) rfl rfl (Nat.le_of_ble_eq_true rfl) dL_law_326 (fun r326 μ326 h326 => ?_)
        obtain ⟨M1, rfl, e2, gy, gn⟩ := h326
        have hLX : LX (mb μ317 11 M1) := by
          by_cases hE : Epas V (xs (i + 1))
          · exact q.mut (hy hE).1 (gy hE) ((by rw [Npas]; exact hci.daysk _))
          · rw [hn hE, gn hE]; exact q.mut0
        have heq : r317 = r326 := e1.trans e2.symm
        refine j_icmp_eq (tgt := 729) X dL_law_329 (by decide) (fun c329 => ?_) (fun c329 => absurd heq c329)
        refine j_iinc (q := 0) (v := (nI (i + 4))) (lv' := [(3, .int (nI (i + 4))), (2, .ref (ad 11 0)), (1, .ref (ad 10 0)), (0, .ref b)]) X dL_law_729 rfl (nI_add _ _) (by decide) rfl ?_
        refine j_goto (tgt := 18) X dL_law_732 (by decide) ?_
        exact ih18 (i + 4) (mb μ317 11 M1) ⟨by omega, hLX⟩ (by omega)
      · subst hisw2
        refine j_tabIn (off := 302) (tgt := 334) X dL_law_32 (by decide) (by decide) (by decide) (by decide) ?_
        refine j_aload_n (q := 2) X dL_law_334 rfl rfl ?_
        refine j_aload_n (q := 3) X dL_law_335 rfl rfl ?_
        refine j_iload_n (q := 0) X dL_law_336 rfl rfl ?_
        refine j_iconst (v := (nI 1)) X dL_law_337 (by decide) ?_
        refine j_iadd (v := (nI (i + 1))) X dL_law_338 (nI_add _ _) ?_
        refine j_sld X hX0 hbl hbA (i + 1) rfl (by omega) (by omega) dL_law_339 ?_
        refine j_aload_n (q := 3) X dL_law_340 rfl rfl ?_
        refine j_iload_n (q := 0) X dL_law_341 rfl rfl ?_
        refine j_iconst (v := (nI 2)) X dL_law_342 (by decide) ?_
        refine j_iadd (v := (nI (i + 2))) X dL_law_343 (nI_add _ _) ?_
        refine j_sld X hX0 hbl hbA (i + 2) rfl (by omega) (by omega) dL_law_344 ?_
        refine j_eq q.1.eqb ?_
        refine j_callVi (As := [.int (xs (i + 1)), .int (xs (i + 2))]) X (kX1_name l D ad cs A z μ V h hc s0 s1 u pl pd hG N hci (xs (i + 1)) (xs (i + 2))) oM rfl (cwV 2 X.1.2.2.2.2 gL_law_X1_name rfl rfl rfl (by decide +kernel) ⟨Nat.le_of_ble_eq_true rfl, Nat.le_of_ble_eq_true rfl⟩) rfl rfl (Nat.le_of_ble_eq_true rfl) dL_law_345 (fun r345 μ345 h345 => ?_)
        obtain ⟨e1, e0⟩ := h345
        have h11 : μ345 11 = μ 11 := by rw [e0, mb_n (by decide)]
        refine j_aload_n (q := 1) X dL_law_348 rfl rfl ?_
        refine j_aload_n (q := 3) X dL_law_349 rfl rfl ?_
        refine j_iload_n (q := 0) X dL_law_350 rfl rfl ?_
        refine j_iconst (v := (nI 1)) X dL_law_351 (by decide) ?_
        refine j_iadd (v := (nI (i + 1))) X dL_law_352 (nI_add _ _) ?_
        refine j_sld X hX0 hbl hbA (i + 1) rfl (by omega) (by omega) dL_law_353 ?_
        refine j_aload_n (q := 3) X dL_law_354 rfl rfl ?_
        refine j_iload_n (q := 0) X dL_law_355 rfl rfl ?_
        refine j_iconst (v := (nI 2)) X dL_law_356 (by decide) ?_
        refine j_iadd (v := (nI (i + 2))) X dL_law_357 (nI_add _ _) ?_
        refine j_sld X hX0 hbl hbA (i + 2) rfl (by omega) (by omega) dL_law_358 ?_
        refine j_eq (μ1 := mb μ345 11 (μ 11)) (by rw [← h11, mb_self]) ?_
        refine j_callVi (As := [.int (xs (i + 1)), .int (xs (i + 2))]) X (kX2_name l D ad cs A z μ345 (μ 11) V N hm.1.1 hci (xs (i + 1)) (xs (i + 2))) oR rfl (cwV 2 X.1.2.2.2.2 gL_law_X2_name rfl rfl rfl (by decide +kernel) ⟨Nat.le_of_ble_eq_true rfl, Nat.le_of_ble_eq_true rfl⟩) rfl rfl (Nat.le_of_ble_eq_true rfl) dL_law_359 (fun r359 μ359 h359 => ?_)
        obtain ⟨e2, rfl⟩ := h359
        have hLX : LX (mb μ345 11 (μ 11)) := by rw [e0]; exact q.mut0
        have heq : r345 = r359 := e1.trans e2.symm
        refine j_icmp_eq (tgt := 729) X dL_law_362 (by decide) (fun c362 => ?_) (fun c362 => absurd heq c362)
        refine j_iinc (q := 0) (v := (nI (i + 4))) (lv' := [(3, .int (nI (i + 4))), (2, .ref (ad 11 0)), (1, .ref (ad 10 0)), (0, .ref b)]) X dL_law_729 rfl (nI_add _ _) (by decide) rfl ?_
        refine j_goto (tgt := 18) X dL_law_732 (by decide) ?_
        exact ih18 (i + 4) (mb μ345 11 (μ 11)) ⟨by omega, hLX⟩ (by omega)
      · subst hisw2
        refine j_tabIn (off := 335) (tgt := 367) X dL_law_32 (by decide) (by decide) (by decide) (by decide) ?_
        refine j_aload_n (q := 2) X dL_law_367 rfl rfl ?_
        refine j_aload_n (q := 3) X dL_law_368 rfl rfl ?_
        refine j_iload_n (q := 0) X dL_law_369 rfl rfl ?_
        refine j_iconst (v := (nI 1)) X dL_law_370 (by decide) ?_
        refine j_iadd (v := (nI (i + 1))) X dL_law_371 (nI_add _ _) ?_
        refine j_sld X hX0 hbl hbA (i + 1) rfl (by omega) (by omega) dL_law_372 ?_
        refine j_aload_n (q := 3) X dL_law_373 rfl rfl ?_
        refine j_iload_n (q := 0) X dL_law_374 rfl rfl ?_
        refine j_iconst (v := (nI 2)) X dL_law_375 (by decide) ?_
        refine j_iadd (v := (nI (i + 2))) X dL_law_376 (nI_add _ _) ?_
        refine j_sld X hX0 hbl hbA (i + 2) rfl (by omega) (by omega) dL_law_377 ?_
        refine j_aload_n (q := 3) X dL_law_378 rfl rfl ?_
        refine j_iload_n (q := 0) X dL_law_379 rfl rfl ?_
        refine j_iconst (v := (nI 3)) X dL_law_380 (by decide) ?_
        refine j_iadd (v := (nI (i + 3))) X dL_law_381 (nI_add _ _) ?_
        refine j_sld X hX0 hbl hbA (i + 3) rfl (by omega) (by omega) dL_law_382 ?_
        refine j_eq q.1.eqb ?_
        refine j_callVi (As := [.int (xs (i + 1)), .int (xs (i + 2)), .int (xs (i + 3))]) X (kX1_alike l D ad cs A z μ V h hc s0 s1 u pl pd hG N hci (hal_of hci) (xs (i + 1)) (xs (i + 2)) (xs (i + 3))) oM rfl (cwV 3 X.1.2.2.2.2 gL_law_X1_alike rfl rfl rfl (by decide +kernel) ⟨Nat.le_of_ble_eq_true rfl, Nat.le_of_ble_eq_true rfl⟩) rfl rfl (Nat.le_of_ble_eq_true rfl) dL_law_383 (fun r383 μ383 h383 => ?_)
        obtain ⟨e1, e0⟩ := h383
        have h11 : μ383 11 = μ 11 := by rw [e0, mb_n (by decide)]
        refine j_aload_n (q := 1) X dL_law_386 rfl rfl ?_
        refine j_aload_n (q := 3) X dL_law_387 rfl rfl ?_
        refine j_iload_n (q := 0) X dL_law_388 rfl rfl ?_
        refine j_iconst (v := (nI 1)) X dL_law_389 (by decide) ?_
        refine j_iadd (v := (nI (i + 1))) X dL_law_390 (nI_add _ _) ?_
        refine j_sld X hX0 hbl hbA (i + 1) rfl (by omega) (by omega) dL_law_391 ?_
        refine j_aload_n (q := 3) X dL_law_392 rfl rfl ?_
        refine j_iload_n (q := 0) X dL_law_393 rfl rfl ?_
        refine j_iconst (v := (nI 2)) X dL_law_394 (by decide) ?_
        refine j_iadd (v := (nI (i + 2))) X dL_law_395 (nI_add _ _) ?_
        refine j_sld X hX0 hbl hbA (i + 2) rfl (by omega) (by omega) dL_law_396 ?_
        refine j_aload_n (q := 3) X dL_law_397 rfl rfl ?_
        refine j_iload_n (q := 0) X dL_law_398 rfl rfl ?_
        refine j_iconst (v := (nI 3)) X dL_law_399 (by decide) ?_
        refine j_iadd (v := (nI (i + 3))) X dL_law_400 (nI_add _ _) ?_
        refine j_sld X hX0 hbl hbA (i + 3) rfl (by omega) (by omega) dL_law_401 ?_
        refine j_eq (μ1 := mb μ383 11 (μ 11)) (by rw [← h11, mb_self]) ?_
        refine j_callVi (As := [.int (xs (i + 1)), .int (xs (i + 2)), .int (xs (i + 3))]) X (kX2_alike l D ad cs A z μ383 (μ 11) V N hm.1.1 hci (xs (i + 1)) (xs (i + 2)) (xs (i + 3))) oR rfl (cwV 3 X.1.2.2.2.2 gL_law_X2_alike rfl rfl rfl (by decide +kernel) ⟨Nat.le_of_ble_eq_true rfl, Nat.le_of_ble_eq_true rfl⟩) rfl rfl (Nat.le_of_ble_eq_true rfl) dL_law_402 (fun r402 μ402 h402 => ?_)
        obtain ⟨e2, rfl⟩ := h402
        have hLX : LX (mb μ383 11 (μ 11)) := by rw [e0]; exact q.mut0
        have heq : r383 = r402 := e1.trans e2.symm
        refine j_icmp_eq (tgt := 729) X dL_law_405 (by decide) (fun c405 => ?_) (fun c405 => absurd heq c405)
        refine j_iinc (q := 0) (v := (nI (i + 4))) (lv' := [(3, .int (nI (i + 4))), (2, .ref (ad 11 0)), (1, .ref (ad 10 0)), (0, .ref b)]) X dL_law_729 rfl (nI_add _ _) (by decide) rfl ?_
        refine j_goto (tgt := 18) X dL_law_732 (by decide) ?_
        exact ih18 (i + 4) (mb μ383 11 (μ 11)) ⟨by omega, hLX⟩ (by omega)
      · subst hisw2
        refine j_tabIn (off := 378) (tgt := 410) X dL_law_32 (by decide) (by decide) (by decide) (by decide) ?_
        refine j_aload_n (q := 2) X dL_law_410 rfl rfl ?_
        refine j_aload_n (q := 3) X dL_law_411 rfl rfl ?_
        refine j_iload_n (q := 0) X dL_law_412 rfl rfl ?_
        refine j_iconst (v := (nI 1)) X dL_law_413 (by decide) ?_
        refine j_iadd (v := (nI (i + 1))) X dL_law_414 (nI_add _ _) ?_
        refine j_sld X hX0 hbl hbA (i + 1) rfl (by omega) (by omega) dL_law_415 ?_
        refine j_aload_n (q := 3) X dL_law_416 rfl rfl ?_
        refine j_iload_n (q := 0) X dL_law_417 rfl rfl ?_
        refine j_iconst (v := (nI 2)) X dL_law_418 (by decide) ?_
        refine j_iadd (v := (nI (i + 2))) X dL_law_419 (nI_add _ _) ?_
        refine j_sld X hX0 hbl hbA (i + 2) rfl (by omega) (by omega) dL_law_420 ?_
        refine j_eq q.1.eqb ?_
        refine j_callVi (As := [.int (xs (i + 1)), .int (xs (i + 2))]) X (kX1_corner l D ad cs A z μ V h hc s0 s1 u pl pd hG N hci (xs (i + 1)) (xs (i + 2))) oM rfl (cwV 2 X.1.2.2.2.2 gL_law_X1_corner rfl rfl rfl (by decide +kernel) ⟨Nat.le_of_ble_eq_true rfl, Nat.le_of_ble_eq_true rfl⟩) rfl rfl (Nat.le_of_ble_eq_true rfl) dL_law_421 (fun r421 μ421 h421 => ?_)
        obtain ⟨e1, e0⟩ := h421
        have h11 : μ421 11 = μ 11 := by rw [e0, mb_n (by decide)]
        refine j_aload_n (q := 1) X dL_law_424 rfl rfl ?_
        refine j_aload_n (q := 3) X dL_law_425 rfl rfl ?_
        refine j_iload_n (q := 0) X dL_law_426 rfl rfl ?_
        refine j_iconst (v := (nI 1)) X dL_law_427 (by decide) ?_
        refine j_iadd (v := (nI (i + 1))) X dL_law_428 (nI_add _ _) ?_
        refine j_sld X hX0 hbl hbA (i + 1) rfl (by omega) (by omega) dL_law_429 ?_
        refine j_aload_n (q := 3) X dL_law_430 rfl rfl ?_
        refine j_iload_n (q := 0) X dL_law_431 rfl rfl ?_
        refine j_iconst (v := (nI 2)) X dL_law_432 (by decide) ?_
        refine j_iadd (v := (nI (i + 2))) X dL_law_433 (nI_add _ _) ?_
        refine j_sld X hX0 hbl hbA (i + 2) rfl (by omega) (by omega) dL_law_434 ?_
        refine j_eq (μ1 := mb μ421 11 (μ 11)) (by rw [← h11, mb_self]) ?_
        refine j_callVi (As := [.int (xs (i + 1)), .int (xs (i + 2))]) X (kX2_corner l D ad cs A z μ421 (μ 11) V N hm.1.1 hci (xs (i + 1)) (xs (i + 2))) oR rfl (cwV 2 X.1.2.2.2.2 gL_law_X2_corner rfl rfl rfl (by decide +kernel) ⟨Nat.le_of_ble_eq_true rfl, Nat.le_of_ble_eq_true rfl⟩) rfl rfl (Nat.le_of_ble_eq_true rfl) dL_law_435 (fun r435 μ435 h435 => ?_)
        obtain ⟨e2, rfl⟩ := h435
        have hLX : LX (mb μ421 11 (μ 11)) := by rw [e0]; exact q.mut0
        have heq : r421 = r435 := e1.trans e2.symm
        refine j_icmp_eq (tgt := 729) X dL_law_438 (by decide) (fun c438 => ?_) (fun c438 => absurd heq c438)
        refine j_iinc (q := 0) (v := (nI (i + 4))) (lv' := [(3, .int (nI (i + 4))), (2, .ref (ad 11 0)), (1, .ref (ad 10 0)), (0, .ref b)]) X dL_law_729 rfl (nI_add _ _) (by decide) rfl ?_
        refine j_goto (tgt := 18) X dL_law_732 (by decide) ?_
        exact ih18 (i + 4) (mb μ421 11 (μ 11)) ⟨by omega, hLX⟩ (by omega)
      · subst hisw2
        refine j_tabIn (off := 411) (tgt := 443) X dL_law_32 (by decide) (by decide) (by decide) (by decide) ?_
        refine j_aload_n (q := 2) X dL_law_443 rfl rfl ?_
        refine j_aload_n (q := 3) X dL_law_444 rfl rfl ?_
        refine j_iload_n (q := 0) X dL_law_445 rfl rfl ?_
        refine j_iconst (v := (nI 1)) X dL_law_446 (by decide) ?_
        refine j_iadd (v := (nI (i + 1))) X dL_law_447 (nI_add _ _) ?_
        refine j_sld X hX0 hbl hbA (i + 1) rfl (by omega) (by omega) dL_law_448 ?_
        refine j_aload_n (q := 3) X dL_law_449 rfl rfl ?_
        refine j_iload_n (q := 0) X dL_law_450 rfl rfl ?_
        refine j_iconst (v := (nI 2)) X dL_law_451 (by decide) ?_
        refine j_iadd (v := (nI (i + 2))) X dL_law_452 (nI_add _ _) ?_
        refine j_sld X hX0 hbl hbA (i + 2) rfl (by omega) (by omega) dL_law_453 ?_
        refine j_eq q.1.eqb ?_
        refine j_callVi (As := [.int (xs (i + 1)), .int (xs (i + 2))]) X (kX1_why l D ad cs A z μ V h hc s0 s1 u pl pd hG N hci a P hpd (xs (i + 1)) (xs (i + 2))) oM rfl (cwV 2 X.1.2.2.2.2 gL_law_X1_why rfl rfl rfl (by decide +kernel) ⟨Nat.le_of_ble_eq_true rfl, Nat.le_of_ble_eq_true rfl⟩) rfl rfl (Nat.le_of_ble_eq_true rfl) dL_law_454 (fun r454 μ454 h454 => ?_)
        obtain ⟨e1, e0⟩ := h454
        have h11 : μ454 11 = μ 11 := by rw [e0, mb_n (by decide)]
        refine j_aload_n (q := 1) X dL_law_457 rfl rfl ?_
        refine j_aload_n (q := 3) X dL_law_458 rfl rfl ?_
        refine j_iload_n (q := 0) X dL_law_459 rfl rfl ?_
        refine j_iconst (v := (nI 1)) X dL_law_460 (by decide) ?_
        refine j_iadd (v := (nI (i + 1))) X dL_law_461 (nI_add _ _) ?_
        refine j_sld X hX0 hbl hbA (i + 1) rfl (by omega) (by omega) dL_law_462 ?_
        refine j_aload_n (q := 3) X dL_law_463 rfl rfl ?_
        refine j_iload_n (q := 0) X dL_law_464 rfl rfl ?_
        refine j_iconst (v := (nI 2)) X dL_law_465 (by decide) ?_
        refine j_iadd (v := (nI (i + 2))) X dL_law_466 (nI_add _ _) ?_
        refine j_sld X hX0 hbl hbA (i + 2) rfl (by omega) (by omega) dL_law_467 ?_
        refine j_eq (μ1 := mb μ454 11 (μ 11)) (by rw [← h11, mb_self]) ?_
        refine j_callVi (As := [.int (xs (i + 1)), .int (xs (i + 2))]) X (kX2_why l D ad cs A z μ454 (μ 11) V N hm.1.1 hci a hpd.1 hpd.2.1 (xs (i + 1)) (xs (i + 2))) oR rfl (cwV 2 X.1.2.2.2.2 gL_law_X2_why rfl rfl rfl (by decide +kernel) ⟨Nat.le_of_ble_eq_true rfl, Nat.le_of_ble_eq_true rfl⟩) rfl rfl (Nat.le_of_ble_eq_true rfl) dL_law_468 (fun r468 μ468 h468 => ?_)
        obtain ⟨e2, rfl⟩ := h468
        have hLX : LX (mb μ454 11 (μ 11)) := by rw [e0]; exact q.mut0
        have heq : r454 = r468 := e1.trans e2.symm
        refine j_icmp_eq (tgt := 729) X dL_law_471 (by decide) (fun c471 => ?_) (fun c471 => absurd heq c471)
        refine j_iinc (q := 0) (v := (nI (i + 4))) (lv' := [(3, .int (nI (i + 4))), (2, .ref (ad 11 0)), (1, .ref (ad 10 0)), (0, .ref b)]) X dL_law_729 rfl (nI_add _ _) (by decide) rfl ?_
        refine j_goto (tgt := 18) X dL_law_732 (by decide) ?_
        exact ih18 (i + 4) (mb μ454 11 (μ 11)) ⟨by omega, hLX⟩ (by omega)
      · subst hisw2
        refine j_tabIn (off := 444) (tgt := 476) X dL_law_32 (by decide) (by decide) (by decide) (by decide) ?_
        refine j_aload_n (q := 2) X dL_law_476 rfl rfl ?_
        refine j_aload_n (q := 3) X dL_law_477 rfl rfl ?_
        refine j_iload_n (q := 0) X dL_law_478 rfl rfl ?_
        refine j_iconst (v := (nI 1)) X dL_law_479 (by decide) ?_
        refine j_iadd (v := (nI (i + 1))) X dL_law_480 (nI_add _ _) ?_
        refine j_sld X hX0 hbl hbA (i + 1) rfl (by omega) (by omega) dL_law_481 ?_
        refine j_eq q.1.eqb ?_
        refine j_callVi (As := [.int (xs (i + 1))]) X (kX1_count l D ad cs A z μ V h hc s0 s1 u pl pd hG N hci (xs (i + 1))) oM rfl (cwV 1 X.1.2.2.2.2 gL_law_X1_count rfl rfl rfl (by decide +kernel) ⟨Nat.le_of_ble_eq_true rfl, Nat.le_of_ble_eq_true rfl⟩) rfl rfl (Nat.le_of_ble_eq_true rfl) dL_law_482 (fun r482 μ482 h482 => ?_)
        obtain ⟨e1, e0⟩ := h482
        have h11 : μ482 11 = μ 11 := by rw [e0, mb_n (by decide)]
        refine j_aload_n (q := 1) X dL_law_485 rfl rfl ?_
        refine j_aload_n (q := 3) X dL_law_486 rfl rfl ?_
        refine j_iload_n (q := 0) X dL_law_487 rfl rfl ?_
        refine j_iconst (v := (nI 1)) X dL_law_488 (by decide) ?_
        refine j_iadd (v := (nI (i + 1))) X dL_law_489 (nI_add _ _) ?_
        refine j_sld X hX0 hbl hbA (i + 1) rfl (by omega) (by omega) dL_law_490 ?_
        refine j_eq (μ1 := mb μ482 11 (μ 11)) (by rw [← h11, mb_self]) ?_
        refine j_callVi (As := [.int (xs (i + 1))]) X (kX2_count l D ad cs A z μ482 (μ 11) V N h hc nh s0 s1 n0 n1 u pl pd hm hci (xs (i + 1))) oR rfl (cwV 1 X.1.2.2.2.2 gL_law_X2_count rfl rfl rfl (by decide +kernel) ⟨Nat.le_of_ble_eq_true rfl, Nat.le_of_ble_eq_true rfl⟩) rfl rfl (Nat.le_of_ble_eq_true rfl) dL_law_491 (fun r491 μ491 h491 => ?_)
        obtain ⟨e2, rfl⟩ := h491
        have hLX : LX (mb μ482 11 (μ 11)) := by rw [e0]; exact q.mut0
        have heq : r482 = r491 := e1.trans e2.symm
        refine j_icmp_eq (tgt := 729) X dL_law_494 (by decide) (fun c494 => ?_) (fun c494 => absurd heq c494)
        refine j_iinc (q := 0) (v := (nI (i + 4))) (lv' := [(3, .int (nI (i + 4))), (2, .ref (ad 11 0)), (1, .ref (ad 10 0)), (0, .ref b)]) X dL_law_729 rfl (nI_add _ _) (by decide) rfl ?_
        refine j_goto (tgt := 18) X dL_law_732 (by decide) ?_
        exact ih18 (i + 4) (mb μ482 11 (μ 11)) ⟨by omega, hLX⟩ (by omega)
      · subst hisw2
        refine j_tabIn (off := 467) (tgt := 499) X dL_law_32 (by decide) (by decide) (by decide) (by decide) ?_
        refine j_aload_n (q := 2) X dL_law_499 rfl rfl ?_
        refine j_aload_n (q := 3) X dL_law_500 rfl rfl ?_
        refine j_iload_n (q := 0) X dL_law_501 rfl rfl ?_
        refine j_iconst (v := (nI 1)) X dL_law_502 (by decide) ?_
        refine j_iadd (v := (nI (i + 1))) X dL_law_503 (nI_add _ _) ?_
        refine j_sld X hX0 hbl hbA (i + 1) rfl (by omega) (by omega) dL_law_504 ?_
        refine j_eq q.1.eqb ?_
        refine j_callVi (As := [.int (xs (i + 1))]) X (kX1_bestCorner l D ad cs A z μ V h hc s0 s1 u pl pd hG N hci a P hpd (xs (i + 1))) oM rfl (cwV 1 X.1.2.2.2.2 gL_law_X1_bestCorner rfl rfl rfl (by decide +kernel) ⟨Nat.le_of_ble_eq_true rfl, Nat.le_of_ble_eq_true rfl⟩) rfl rfl (Nat.le_of_ble_eq_true rfl) dL_law_505 (fun r505 μ505 h505 => ?_)
        obtain ⟨e1, e0⟩ := h505
        have h11 : μ505 11 = μ 11 := by rw [e0, mb_n (by decide)]
        refine j_aload_n (q := 1) X dL_law_508 rfl rfl ?_
        refine j_aload_n (q := 3) X dL_law_509 rfl rfl ?_
        refine j_iload_n (q := 0) X dL_law_510 rfl rfl ?_
        refine j_iconst (v := (nI 1)) X dL_law_511 (by decide) ?_
        refine j_iadd (v := (nI (i + 1))) X dL_law_512 (nI_add _ _) ?_
        refine j_sld X hX0 hbl hbA (i + 1) rfl (by omega) (by omega) dL_law_513 ?_
        refine j_eq (μ1 := mb μ505 11 (μ 11)) (by rw [← h11, mb_self]) ?_
        refine j_callVi (As := [.int (xs (i + 1))]) X (kX2_bestCorner l D ad cs A z μ505 (μ 11) V N hm.1.1 hci a hpd.1 hpd.2.1 (xs (i + 1))) oR rfl (cwV 1 X.1.2.2.2.2 gL_law_X2_bestCorner rfl rfl rfl (by decide +kernel) ⟨Nat.le_of_ble_eq_true rfl, Nat.le_of_ble_eq_true rfl⟩) rfl rfl (Nat.le_of_ble_eq_true rfl) dL_law_514 (fun r514 μ514 h514 => ?_)
        obtain ⟨e2, rfl⟩ := h514
        have hLX : LX (mb μ505 11 (μ 11)) := by rw [e0]; exact q.mut0
        have heq : r505 = r514 := e1.trans e2.symm
        refine j_icmp_eq (tgt := 729) X dL_law_517 (by decide) (fun c517 => ?_) (fun c517 => absurd heq c517)
        refine j_iinc (q := 0) (v := (nI (i + 4))) (lv' := [(3, .int (nI (i + 4))), (2, .ref (ad 11 0)), (1, .ref (ad 10 0)), (0, .ref b)]) X dL_law_729 rfl (nI_add _ _) (by decide) rfl ?_
        refine j_goto (tgt := 18) X dL_law_732 (by decide) ?_
        exact ih18 (i + 4) (mb μ505 11 (μ 11)) ⟨by omega, hLX⟩ (by omega)
      · subst hisw2
        refine j_tabIn (off := 490) (tgt := 522) X dL_law_32 (by decide) (by decide) (by decide) (by decide) ?_
        refine j_aload_n (q := 2) X dL_law_522 rfl rfl ?_
        refine j_aload_n (q := 3) X dL_law_523 rfl rfl ?_
        refine j_iload_n (q := 0) X dL_law_524 rfl rfl ?_
        refine j_iconst (v := (nI 1)) X dL_law_525 (by decide) ?_
        refine j_iadd (v := (nI (i + 1))) X dL_law_526 (nI_add _ _) ?_
        refine j_sld X hX0 hbl hbA (i + 1) rfl (by omega) (by omega) dL_law_527 ?_
        refine j_eq q.1.eqb ?_
        refine j_callVi (As := [.int (xs (i + 1))]) X (kX1_untilBorne l D ad cs A z μ V h hc s0 s1 u pl pd hG N hci a P hpd (xs (i + 1))) oM rfl (cwV 1 X.1.2.2.2.2 gL_law_X1_untilBorne rfl rfl rfl (by decide +kernel) ⟨Nat.le_of_ble_eq_true rfl, Nat.le_of_ble_eq_true rfl⟩) rfl rfl (Nat.le_of_ble_eq_true rfl) dL_law_528 (fun r528 μ528 h528 => ?_)
        obtain ⟨e1, V1, e0⟩ := h528
        have h11 : μ528 11 = μ 11 := by rw [e0, mb_n (by decide), mb_n (by decide)]
        refine j_aload_n (q := 1) X dL_law_531 rfl rfl ?_
        refine j_aload_n (q := 3) X dL_law_532 rfl rfl ?_
        refine j_iload_n (q := 0) X dL_law_533 rfl rfl ?_
        refine j_iconst (v := (nI 1)) X dL_law_534 (by decide) ?_
        refine j_iadd (v := (nI (i + 1))) X dL_law_535 (nI_add _ _) ?_
        refine j_sld X hX0 hbl hbA (i + 1) rfl (by omega) (by omega) dL_law_536 ?_
        refine j_eq (μ1 := mb μ528 11 (μ 11)) (by rw [← h11, mb_self]) ?_
        refine j_callVi (As := [.int (xs (i + 1))]) X (kX2_untilBorne l D ad cs A z μ528 (μ 11) V N h hc nh s0 s1 n0 n1 u pl pd hm hci a P hpd (xs (i + 1))) oR rfl (cwV 1 X.1.2.2.2.2 gL_law_X2_untilBorne rfl rfl rfl (by decide +kernel) ⟨Nat.le_of_ble_eq_true rfl, Nat.le_of_ble_eq_true rfl⟩) rfl rfl (Nat.le_of_ble_eq_true rfl) dL_law_537 (fun r537 μ537 h537 => ?_)
        obtain ⟨M1, rfl, e2, g2⟩ := h537
        have hLX : LX (mb μ528 11 M1) := by rw [e0]; exact q.fin1 (hG.oth (Or.inl rfl)) g2
        have heq : r528 = r537 := e1.trans e2.symm
        refine j_icmp_eq (tgt := 729) X dL_law_540 (by decide) (fun c540 => ?_) (fun c540 => absurd heq c540)
        refine j_iinc (q := 0) (v := (nI (i + 4))) (lv' := [(3, .int (nI (i + 4))), (2, .ref (ad 11 0)), (1, .ref (ad 10 0)), (0, .ref b)]) X dL_law_729 rfl (nI_add _ _) (by decide) rfl ?_
        refine j_goto (tgt := 18) X dL_law_732 (by decide) ?_
        exact ih18 (i + 4) (mb μ528 11 M1) ⟨by omega, hLX⟩ (by omega)
      · subst hisw2
        refine j_tabIn (off := 513) (tgt := 545) X dL_law_32 (by decide) (by decide) (by decide) (by decide) ?_
        refine j_aload_n (q := 2) X dL_law_545 rfl rfl ?_
        refine j_eq q.1.eqb ?_
        refine j_callVi (As := []) X (kX1_untilPosted l D ad cs A z μ V h hc s0 s1 u pl pd hG N hci a P hpd ) oM rfl (cwV 0 X.1.2.2.2.2 gL_law_X1_untilPosted rfl rfl rfl (by decide +kernel) ⟨Nat.le_of_ble_eq_true rfl, Nat.le_of_ble_eq_true rfl⟩) rfl rfl (Nat.le_of_ble_eq_true rfl) dL_law_546 (fun r546 μ546 h546 => ?_)
        obtain ⟨e1, V1, e0⟩ := h546
        have h11 : μ546 11 = μ 11 := by rw [e0, mb_n (by decide), mb_n (by decide)]
        refine j_aload_n (q := 1) X dL_law_549 rfl rfl ?_
        refine j_eq (μ1 := mb μ546 11 (μ 11)) (by rw [← h11, mb_self]) ?_
        refine j_callVi (As := []) X (kX2_untilPosted l D ad cs A z μ546 (μ 11) V N h hc nh s0 s1 n0 n1 u pl pd hm hci a P hpd ) oR rfl (cwV 0 X.1.2.2.2.2 gL_law_X2_untilPosted rfl rfl rfl (by decide +kernel) ⟨Nat.le_of_ble_eq_true rfl, Nat.le_of_ble_eq_true rfl⟩) rfl rfl (Nat.le_of_ble_eq_true rfl) dL_law_550 (fun r550 μ550 h550 => ?_)
        obtain ⟨M1, rfl, e2, g2⟩ := h550
        have hLX : LX (mb μ546 11 M1) := by rw [e0]; exact q.fin1 (hG.oth (Or.inl rfl)) g2
        have heq : r546 = r550 := e1.trans e2.symm
        refine j_icmp_eq (tgt := 729) X dL_law_553 (by decide) (fun c553 => ?_) (fun c553 => absurd heq c553)
        refine j_iinc (q := 0) (v := (nI (i + 4))) (lv' := [(3, .int (nI (i + 4))), (2, .ref (ad 11 0)), (1, .ref (ad 10 0)), (0, .ref b)]) X dL_law_729 rfl (nI_add _ _) (by decide) rfl ?_
        refine j_goto (tgt := 18) X dL_law_732 (by decide) ?_
        exact ih18 (i + 4) (mb μ546 11 M1) ⟨by omega, hLX⟩ (by omega)
      · subst hisw2
        refine j_tabIn (off := 526) (tgt := 558) X dL_law_32 (by decide) (by decide) (by decide) (by decide) ?_
        refine j_aload_n (q := 2) X dL_law_558 rfl rfl ?_
        refine j_aload_n (q := 3) X dL_law_559 rfl rfl ?_
        refine j_iload_n (q := 0) X dL_law_560 rfl rfl ?_
        refine j_iconst (v := (nI 1)) X dL_law_561 (by decide) ?_
        refine j_iadd (v := (nI (i + 1))) X dL_law_562 (nI_add _ _) ?_
        refine j_sld X hX0 hbl hbA (i + 1) rfl (by omega) (by omega) dL_law_563 ?_
        refine j_aload_n (q := 3) X dL_law_564 rfl rfl ?_
        refine j_iload_n (q := 0) X dL_law_565 rfl rfl ?_
        refine j_iconst (v := (nI 2)) X dL_law_566 (by decide) ?_
        refine j_iadd (v := (nI (i + 2))) X dL_law_567 (nI_add _ _) ?_
        refine j_sld X hX0 hbl hbA (i + 2) rfl (by omega) (by omega) dL_law_568 ?_
        refine j_eq q.1.eqb ?_
        refine j_callVi (As := [.int (xs (i + 1)), .int (xs (i + 2))]) X (kX1_ifPassed l D ad cs A z μ V h hc s0 s1 u pl pd hG N hci a P hpd (xs (i + 1)) (xs (i + 2))) oM rfl (cwV 2 X.1.2.2.2.2 gL_law_X1_ifPassed rfl rfl rfl (by decide +kernel) ⟨Nat.le_of_ble_eq_true rfl, Nat.le_of_ble_eq_true rfl⟩) rfl rfl (Nat.le_of_ble_eq_true rfl) dL_law_569 (fun r569 μ569 h569 => ?_)
        obtain ⟨e1, V1, e0⟩ := h569
        have h11 : μ569 11 = μ 11 := by rw [e0, mb_n (by decide), mb_n (by decide)]
        refine j_aload_n (q := 1) X dL_law_572 rfl rfl ?_
        refine j_aload_n (q := 3) X dL_law_573 rfl rfl ?_
        refine j_iload_n (q := 0) X dL_law_574 rfl rfl ?_
        refine j_iconst (v := (nI 1)) X dL_law_575 (by decide) ?_
        refine j_iadd (v := (nI (i + 1))) X dL_law_576 (nI_add _ _) ?_
        refine j_sld X hX0 hbl hbA (i + 1) rfl (by omega) (by omega) dL_law_577 ?_
        refine j_aload_n (q := 3) X dL_law_578 rfl rfl ?_
        refine j_iload_n (q := 0) X dL_law_579 rfl rfl ?_
        refine j_iconst (v := (nI 2)) X dL_law_580 (by decide) ?_
        refine j_iadd (v := (nI (i + 2))) X dL_law_581 (nI_add _ _) ?_
        refine j_sld X hX0 hbl hbA (i + 2) rfl (by omega) (by omega) dL_law_582 ?_
        refine j_eq (μ1 := mb μ569 11 (μ 11)) (by rw [← h11, mb_self]) ?_
        refine j_callVi (As := [.int (xs (i + 1)), .int (xs (i + 2))]) X (kX2_ifPassed l D ad cs A z μ569 (μ 11) V N h hc nh s0 s1 n0 n1 u pl pd hm hci a P hpd (xs (i + 1)) (xs (i + 2))) oR rfl (cwV 2 X.1.2.2.2.2 gL_law_X2_ifPassed rfl rfl rfl (by decide +kernel) ⟨Nat.le_of_ble_eq_true rfl, Nat.le_of_ble_eq_true rfl⟩) rfl rfl (Nat.le_of_ble_eq_true rfl) dL_law_583 (fun r583 μ583 h583 => ?_)
        obtain ⟨M1, rfl, e2, g2⟩ := h583
        have hLX : LX (mb μ569 11 M1) := by rw [e0]; exact q.fin1 (hG.oth (Or.inl rfl)) g2
        have heq : r569 = r583 := e1.trans e2.symm
        refine j_icmp_eq (tgt := 729) X dL_law_586 (by decide) (fun c586 => ?_) (fun c586 => absurd heq c586)
        refine j_iinc (q := 0) (v := (nI (i + 4))) (lv' := [(3, .int (nI (i + 4))), (2, .ref (ad 11 0)), (1, .ref (ad 10 0)), (0, .ref b)]) X dL_law_729 rfl (nI_add _ _) (by decide) rfl ?_
        refine j_goto (tgt := 18) X dL_law_732 (by decide) ?_
        exact ih18 (i + 4) (mb μ569 11 M1) ⟨by omega, hLX⟩ (by omega)
      · subst hisw2
        refine j_tabIn (off := 559) (tgt := 591) X dL_law_32 (by decide) (by decide) (by decide) (by decide) ?_
        obtain ⟨w0, hw0, ew0⟩ := l64_of ((xs (i + 1)).toInt64 <<< ((nI 32).toInt64 &&& 63) ||| ((xs (i + 2)).toInt64 &&& 4294967295))
        refine j_aload_n (q := 2) X dL_law_591 rfl rfl ?_
        refine j_aload_n (q := 3) X dL_law_592 rfl rfl ?_
        refine j_iload_n (q := 0) X dL_law_593 rfl rfl ?_
        refine j_iconst (v := (nI 1)) X dL_law_594 (by decide) ?_
        refine j_iadd (v := (nI (i + 1))) X dL_law_595 (nI_add _ _) ?_
        refine j_sld X hX0 hbl hbA (i + 1) rfl (by omega) (by omega) dL_law_596 ?_
        refine j_i2l (v := ((xs (i + 1)).toInt64)) X dL_law_597 rfl ?_
        refine j_bipush (v := (nI 32)) X dL_law_598 (by decide) ?_
        refine j_lshl (v := (((xs (i + 1)).toInt64) <<< ((nI 32).toInt64 &&& 63))) X dL_law_600 rfl ?_
        refine j_aload_n (q := 3) X dL_law_601 rfl rfl ?_
        refine j_iload_n (q := 0) X dL_law_602 rfl rfl ?_
        refine j_iconst (v := (nI 2)) X dL_law_603 (by decide) ?_
        refine j_iadd (v := (nI (i + 2))) X dL_law_604 (nI_add _ _) ?_
        refine j_sld X hX0 hbl hbA (i + 2) rfl (by omega) (by omega) dL_law_605 ?_
        refine j_i2l (v := ((xs (i + 2)).toInt64)) X dL_law_606 rfl ?_
        refine j_ldc2 (v := 4294967295) X (X.1.2.2.2.2 _ (by decide +kernel)) dL_law_607 ?_
        refine j_land (v := (((xs (i + 2)).toInt64) &&& 4294967295)) X dL_law_610 rfl ?_
        refine j_lor (v := (lN w0)) X dL_law_611 ew0 ?_
        refine j_eq (mb_self (μ := μ) (b := 10)).symm ?_
        refine j_callVi (As := [.long (lN w0)]) X (kX1_put l D ad cs A z μ (μ 10) pl q.1.2.2.2.2.2.1 hm.2.2.2.2.1 (lN w0)) oM rfl (cwV 1 X.1.2.2.2.2 gL_law_X1_put rfl rfl rfl (by decide +kernel) ⟨Nat.le_of_ble_eq_true rfl, Nat.le_of_ble_eq_true rfl⟩) rfl rfl (Nat.le_of_ble_eq_true rfl) dL_law_612 (fun r612 μ612 h612 => ?_)
        obtain ⟨k1, hk1, hpc⟩ := h612
        have h11 : μ612 11 = μ 11 := by rcases hpc with ⟨_, _, e0⟩ | ⟨_, _, _, e0⟩ | ⟨_, _, _, e0⟩ <;> rw [e0, mb_n (by decide)]
        refine j_aload_n (q := 1) X dL_law_615 rfl rfl ?_
        refine j_aload_n (q := 3) X dL_law_616 rfl rfl ?_
        refine j_iload_n (q := 0) X dL_law_617 rfl rfl ?_
        refine j_iconst (v := (nI 1)) X dL_law_618 (by decide) ?_
        refine j_iadd (v := (nI (i + 1))) X dL_law_619 (nI_add _ _) ?_
        refine j_sld X hX0 hbl hbA (i + 1) rfl (by omega) (by omega) dL_law_620 ?_
        refine j_i2l (v := ((xs (i + 1)).toInt64)) X dL_law_621 rfl ?_
        refine j_bipush (v := (nI 32)) X dL_law_622 (by decide) ?_
        refine j_lshl (v := (((xs (i + 1)).toInt64) <<< ((nI 32).toInt64 &&& 63))) X dL_law_624 rfl ?_
        refine j_aload_n (q := 3) X dL_law_625 rfl rfl ?_
        refine j_iload_n (q := 0) X dL_law_626 rfl rfl ?_
        refine j_iconst (v := (nI 2)) X dL_law_627 (by decide) ?_
        refine j_iadd (v := (nI (i + 2))) X dL_law_628 (nI_add _ _) ?_
        refine j_sld X hX0 hbl hbA (i + 2) rfl (by omega) (by omega) dL_law_629 ?_
        refine j_i2l (v := ((xs (i + 2)).toInt64)) X dL_law_630 rfl ?_
        refine j_ldc2 (v := 4294967295) X (X.1.2.2.2.2 _ (by decide +kernel)) dL_law_631 ?_
        refine j_land (v := (((xs (i + 2)).toInt64) &&& 4294967295)) X dL_law_634 rfl ?_
        refine j_lor (v := (lN w0)) X dL_law_635 ew0 ?_
        refine j_eq (μ1 := mb μ612 11 (μ 11)) (by rw [← h11, mb_self]) ?_
        refine j_callVi (As := [.long (lN w0)]) X (kX2_put l D ad cs A z μ612 (μ 11) V N h hc nh s0 s1 n0 n1 u pl pd hm hci w0 hw0) oR rfl (cwV 1 X.1.2.2.2.2 gL_law_X2_put rfl rfl rfl (by decide +kernel) ⟨Nat.le_of_ble_eq_true rfl, Nat.le_of_ble_eq_true rfl⟩) rfl rfl (Nat.le_of_ble_eq_true rfl) dL_law_636 (fun r636 μ636 h636 => ?_)
        obtain ⟨M1, rfl, k2, hk2, hpm⟩ := h636
        have ek := cdR_inj hk1 hk2
        subst ek
        have hh : r612 = r636 ∧ LX (mb μ612 11 M1) := by
          rcases hpc with ⟨a1, a2, a3⟩ | ⟨a1, a4, a2, a3⟩ | ⟨a1, a4, a2, a3⟩
          · rcases hpm with ⟨b1, b2, b3⟩ | ⟨b1, b4, b2, b3⟩ | ⟨b1, b4, b2, b3⟩
            · exact ⟨a2.trans b2.symm, by rw [a3, b3, mb_self, mb_self]; exact q.lx⟩
            · omega
            · omega
          · rcases hpm with ⟨b1, b2, b3⟩ | ⟨b1, b4, b2, b3⟩ | ⟨b1, b4, b2, b3⟩
            · omega
            · exact ⟨a2.trans b2.symm, by rw [a3, b3, mb_self, mb_self]; exact q.lx⟩
            · omega
          · rcases hpm with ⟨b1, b2, b3⟩ | ⟨b1, b4, b2, b3⟩ | ⟨b1, b4, b2, b3⟩
            · omega
            · omega
            · exact ⟨a2.trans b2.symm, by rw [a3]; exact q.fin1 (q.1.put _ _ _) b3⟩
        have heq := hh.1
        have hLX := hh.2
        refine j_icmp_eq (tgt := 729) X dL_law_639 (by decide) (fun c639 => ?_) (fun c639 => absurd heq c639)
        refine j_iinc (q := 0) (v := (nI (i + 4))) (lv' := [(3, .int (nI (i + 4))), (2, .ref (ad 11 0)), (1, .ref (ad 10 0)), (0, .ref b)]) X dL_law_729 rfl (nI_add _ _) (by decide) rfl ?_
        refine j_goto (tgt := 18) X dL_law_732 (by decide) ?_
        exact ih18 (i + 4) (mb μ612 11 M1) ⟨by omega, hLX⟩ (by omega)
      · subst hisw2
        refine j_tabIn (off := 612) (tgt := 644) X dL_law_32 (by decide) (by decide) (by decide) (by decide) ?_
        refine j_aload_n (q := 2) X dL_law_644 rfl rfl ?_
        refine j_eq (mb_self (μ := μ) (b := 10)).symm ?_
        refine j_callVi (As := []) X (kX1_wipe l D ad cs A z μ (μ 10) pl q.1.2.2.2.2.2.1 hm.2.2.2.2.1) oM rfl (cwV 0 X.1.2.2.2.2 gL_law_X1_wipe rfl rfl rfl (by decide +kernel) ⟨Nat.le_of_ble_eq_true rfl, Nat.le_of_ble_eq_true rfl⟩) rfl rfl (Nat.le_of_ble_eq_true rfl) dL_law_645 (fun r645 μ645 h645 => ?_)
        obtain ⟨e1, e0⟩ := h645
        have h11 : μ645 11 = μ 11 := by rw [e0, mb_n (by decide)]
        refine j_aload_n (q := 1) X dL_law_648 rfl rfl ?_
        refine j_eq (μ1 := mb μ645 11 (μ 11)) (by rw [← h11, mb_self]) ?_
        refine j_callVi (As := []) X (kX2_wipe l D ad cs A z μ645 (μ 11) V N h hc nh s0 s1 n0 n1 u pl pd hm hci ) oR rfl (cwV 0 X.1.2.2.2.2 gL_law_X2_wipe rfl rfl rfl (by decide +kernel) ⟨Nat.le_of_ble_eq_true rfl, Nat.le_of_ble_eq_true rfl⟩) rfl rfl (Nat.le_of_ble_eq_true rfl) dL_law_649 (fun r649 μ649 h649 => ?_)
        obtain ⟨M1, rfl, e2, g2⟩ := h649
        have hLX : LX (mb μ645 11 M1) := by rw [e0, ← ms_mb]; exact q.fin1 q.1.pad0 g2
        have heq : r645 = r649 := e1.trans e2.symm
        refine j_icmp_eq (tgt := 729) X dL_law_652 (by decide) (fun c652 => ?_) (fun c652 => absurd heq c652)
        refine j_iinc (q := 0) (v := (nI (i + 4))) (lv' := [(3, .int (nI (i + 4))), (2, .ref (ad 11 0)), (1, .ref (ad 10 0)), (0, .ref b)]) X dL_law_729 rfl (nI_add _ _) (by decide) rfl ?_
        refine j_goto (tgt := 18) X dL_law_732 (by decide) ?_
        exact ih18 (i + 4) (mb μ645 11 M1) ⟨by omega, hLX⟩ (by omega)
      · subst hisw2
        refine j_tabIn (off := 625) (tgt := 657) X dL_law_32 (by decide) (by decide) (by decide) (by decide) ?_
        refine j_aload_n (q := 2) X dL_law_657 rfl rfl ?_
        refine j_eq (mb_self (μ := μ) (b := 10)).symm ?_
        refine j_callVi (As := []) X (kX1_fault l D ad cs A z μ (μ 10) pl q.1.2.2.2.2.2.1 hm.2.2.2.2.1) oM rfl (cwV 0 X.1.2.2.2.2 gL_law_X1_fault rfl rfl rfl (by decide +kernel) ⟨Nat.le_of_ble_eq_true rfl, Nat.le_of_ble_eq_true rfl⟩) rfl rfl (Nat.le_of_ble_eq_true rfl) dL_law_658 (fun r658 μ658 h658 => ?_)
        obtain ⟨e1, e0⟩ := h658
        have h11 : μ658 11 = μ 11 := by rw [e0, mb_n (by decide)]
        refine j_aload_n (q := 1) X dL_law_661 rfl rfl ?_
        refine j_eq (μ1 := mb μ658 11 (μ 11)) (by rw [← h11, mb_self]) ?_
        refine j_callVi (As := []) X (kX2_fault l D ad cs A z μ658 (μ 11) pd hm.2.2.2.2.2 pl hm.2.2.2.1 hm.2.2.2.2.1) oR rfl (cwV 0 X.1.2.2.2.2 gL_law_X2_fault rfl rfl rfl (by decide +kernel) ⟨Nat.le_of_ble_eq_true rfl, Nat.le_of_ble_eq_true rfl⟩) rfl rfl (Nat.le_of_ble_eq_true rfl) dL_law_662 (fun r662 μ662 h662 => ?_)
        obtain ⟨M1, rfl, e2, hfo, -⟩ := h662
        have hm1 : RM M1 V N h hc nh s0 s1 n0 n1 u pl pd := hm.oth (fun k _ => by rw [hfo.1 1 (by decide) (by decide) (by decide) (by decide)]) hfo.2 (fun k hk => hfo.1 k (by omega) (by omega) (by omega) (by omega))
        have hLX : LX (mb μ658 11 M1) := by rw [e0, mb_self]; exact q.fin1 q.1 hm1
        have heq : r658 = r662 := by rw [e1, e2, q.1.2.2.2.2.2.2.1]
        refine j_icmp_eq (tgt := 729) X dL_law_665 (by decide) (fun c665 => ?_) (fun c665 => absurd heq c665)
        refine j_iinc (q := 0) (v := (nI (i + 4))) (lv' := [(3, .int (nI (i + 4))), (2, .ref (ad 11 0)), (1, .ref (ad 10 0)), (0, .ref b)]) X dL_law_729 rfl (nI_add _ _) (by decide) rfl ?_
        refine j_goto (tgt := 18) X dL_law_732 (by decide) ?_
        exact ih18 (i + 4) (mb μ658 11 M1) ⟨by omega, hLX⟩ (by omega)
      · subst hisw2
        refine j_tabIn (off := 638) (tgt := 670) X dL_law_32 (by decide) (by decide) (by decide) (by decide) ?_
        refine j_aload_n (q := 2) X dL_law_670 rfl rfl ?_
        rcases Nat.eq_zero_or_pos h with h0 | h0
        · skip
          subst h0
          refine j_callVi (As := []) X (kX1_undo_0 l D ad cs A z μ V hc s0 s1 u pl pd q.1) oM rfl (cwV 0 X.1.2.2.2.2 gL_law_X1_undo rfl rfl rfl (by decide +kernel) ⟨Nat.le_of_ble_eq_true rfl, Nat.le_of_ble_eq_true rfl⟩) rfl rfl (Nat.le_of_ble_eq_true rfl) dL_law_671 (fun r671 μ671 h671 => ?_)
          obtain ⟨e1, e0⟩ := h671
          have h11 : μ671 11 = μ 11 := by rw [e0]
          refine j_aload_n (q := 1) X dL_law_674 rfl rfl ?_
          refine j_eq (μ1 := mb μ671 11 (μ 11)) (by rw [← h11, mb_self]) ?_
          refine j_callVi (As := []) X (kX2_undo l D ad cs A z μ671 (μ 11) V N 0 hc nh s0 s1 n0 n1 u pl pd hm hci) oR rfl (cwV 0 X.1.2.2.2.2 gL_law_X2_undo rfl rfl rfl (by decide +kernel) ⟨Nat.le_of_ble_eq_true rfl, Nat.le_of_ble_eq_true rfl⟩) rfl rfl (Nat.le_of_ble_eq_true rfl) dL_law_675 (fun r675 μ675 h675 => ?_)
          obtain ⟨M1, rfl, hu⟩ := h675
          have hu := hu.resolve_right (fun z => by obtain ⟨g, z, _⟩ := z; omega)
          have heq : r671 = r675 := e1.trans hu.2.1.symm
          have hLX : LX (mb μ671 11 M1) := by rw [e0, hu.2.2, mb_self]; exact q.lx
          refine j_icmp_eq (tgt := 729) X dL_law_678 (by decide) (fun c678 => ?_) (fun c678 => absurd heq c678)
          refine j_iinc (q := 0) (v := (nI (i + 4))) (lv' := [(3, .int (nI (i + 4))), (2, .ref (ad 11 0)), (1, .ref (ad 10 0)), (0, .ref b)]) X dL_law_729 rfl (nI_add _ _) (by decide) rfl ?_
          refine j_goto (tgt := 18) X dL_law_732 (by decide) ?_
          exact ih18 (i + 4) (mb μ671 11 M1) ⟨by omega, hLX⟩ (by omega)
        · skip
          obtain ⟨g, rfl⟩ : ∃ g, h = g + 1 := ⟨h - 1, by omega⟩
          refine j_callVi (As := []) X (kX1_undo l D ad cs A z μ V g hc s0 s1 u pl pd q.1 (q.2.2.2.1 g (by omega)).1.2.2) oM rfl (cwV 0 X.1.2.2.2.2 gL_law_X1_undo rfl rfl rfl (by decide +kernel) ⟨Nat.le_of_ble_eq_true rfl, Nat.le_of_ble_eq_true rfl⟩) rfl rfl (Nat.le_of_ble_eq_true rfl) dL_law_671 (fun r671 μ671 h671 => ?_)
          obtain ⟨e1, hy, h11⟩ := h671
          refine j_aload_n (q := 1) X dL_law_674 rfl rfl ?_
          refine j_eq (μ1 := mb μ671 11 (μ 11)) (by rw [← h11, mb_self]) ?_
          refine j_callVi (As := []) X (kX2_undo l D ad cs A z μ671 (μ 11) V N (g + 1) hc nh s0 s1 n0 n1 u pl pd hm hci) oR rfl (cwV 0 X.1.2.2.2.2 gL_law_X2_undo rfl rfl rfl (by decide +kernel) ⟨Nat.le_of_ble_eq_true rfl, Nat.le_of_ble_eq_true rfl⟩) rfl rfl (Nat.le_of_ble_eq_true rfl) dL_law_675 (fun r675 μ675 h675 => ?_)
          obtain ⟨M1, rfl, hu⟩ := h675
          obtain ⟨g2, hg2, e2, g3⟩ := hu.resolve_left (fun z => absurd z.1 (by omega))
          have eg : g2 = g := by omega
          subst eg
          have heq : r671 = r675 := e1.trans e2.symm
          have hLX : LX (mb μ671 11 M1) := LI.fin (q.2.2.2.1 g2 (by omega)) (fun j hj => q.2.2.2.1 j (by omega)) q.2.2.2.2.1 q.2.2.2.2.2.1 q.2.2.2.2.2.2 hy g3
          refine j_icmp_eq (tgt := 729) X dL_law_678 (by decide) (fun c678 => ?_) (fun c678 => absurd heq c678)
          refine j_iinc (q := 0) (v := (nI (i + 4))) (lv' := [(3, .int (nI (i + 4))), (2, .ref (ad 11 0)), (1, .ref (ad 10 0)), (0, .ref b)]) X dL_law_729 rfl (nI_add _ _) (by decide) rfl ?_
          refine j_goto (tgt := 18) X dL_law_732 (by decide) ?_
          exact ih18 (i + 4) (mb μ671 11 M1) ⟨by omega, hLX⟩ (by omega)
      · subst hisw2
        refine j_tabIn (off := 651) (tgt := 683) X dL_law_32 (by decide) (by decide) (by decide) (by decide) ?_
        refine j_aload_n (q := 2) X dL_law_683 rfl rfl ?_
        refine j_aload_n (q := 3) X dL_law_684 rfl rfl ?_
        refine j_iload_n (q := 0) X dL_law_685 rfl rfl ?_
        refine j_iconst (v := (nI 1)) X dL_law_686 (by decide) ?_
        refine j_iadd (v := (nI (i + 1))) X dL_law_687 (nI_add _ _) ?_
        refine j_sld X hX0 hbl hbA (i + 1) rfl (by omega) (by omega) dL_law_688 ?_
        refine j_callVi (As := [.int (xs (i + 1))]) X (kX1_save l D ad cs A z μ V h hc s0 s1 u pl pd q.1 hci.1.2.2 (xs (i + 1))) oM rfl (cwV 1 X.1.2.2.2.2 gL_law_X1_save rfl rfl rfl (by decide +kernel) ⟨Nat.le_of_ble_eq_true rfl, Nat.le_of_ble_eq_true rfl⟩) rfl rfl (Nat.le_of_ble_eq_true rfl) dL_law_689 (fun r689 μ689 h689 => ?_)
        have h11 : μ689 11 = μ 11 := by
          rcases h689 with ⟨_, _, e0⟩ | ⟨_, _, _, _, _, e0⟩
          · rw [e0]
          · exact e0
        refine j_aload_n (q := 1) X dL_law_692 rfl rfl ?_
        refine j_aload_n (q := 3) X dL_law_693 rfl rfl ?_
        refine j_iload_n (q := 0) X dL_law_694 rfl rfl ?_
        refine j_iconst (v := (nI 1)) X dL_law_695 (by decide) ?_
        refine j_iadd (v := (nI (i + 1))) X dL_law_696 (nI_add _ _) ?_
        refine j_sld X hX0 hbl hbA (i + 1) rfl (by omega) (by omega) dL_law_697 ?_
        refine j_eq (μ1 := mb μ689 11 (μ 11)) (by rw [← h11, mb_self]) ?_
        refine j_callVi (As := [.int (xs (i + 1))]) X (kX2_save l D ad cs A z μ689 (μ 11) V N h hc nh s0 s1 n0 n1 u pl pd hm hci (xs (i + 1))) oR rfl (cwV 1 X.1.2.2.2.2 gL_law_X2_save rfl rfl rfl (by decide +kernel) ⟨Nat.le_of_ble_eq_true rfl, Nat.le_of_ble_eq_true rfl⟩) rfl rfl (Nat.le_of_ble_eq_true rfl) dL_law_698 (fun r698 μ698 h698 => ?_)
        obtain ⟨M1, rfl, hv⟩ := h698
        have hh : r689 = r698 ∧ LX (mb μ689 11 M1) := by
          rcases h689 with ⟨a1, a2, a3⟩ | ⟨k, a1, a2, a3, a4, -⟩
          · rcases hv with ⟨b1, b2, b3⟩ | ⟨k2, b1, b2, b3, b4⟩
            · exact ⟨a2.trans b2.symm, by rw [a3, b3, mb_self]; exact q.lx⟩
            · exact absurd (by rw [b2]; exact ⟨nI_pos' (by omega), nI_lt b1 (by decide)⟩) a1
          · rcases hv with ⟨b1, b2, b3⟩ | ⟨k2, b1, b2, b3, b4⟩
            · exact absurd (by rw [a2]; exact ⟨nI_pos' (by omega), nI_lt a1 (by decide)⟩) b1
            · have ek : k = k2 := (nI_eq (by omega) (by omega)).mp (a2.symm.trans b2)
              subst ek
              refine ⟨a3.trans b3.symm, LI.fin q.2.2.1 q.2.2.2.1 ?_ ?_ ?_ a4 b4⟩
              · rcases (show k = 0 ∨ k = 1 by omega) with rfl | rfl
                · exact ⟨fun _ => by rw [if_pos rfl, if_pos rfl]; exact hci, fun z => by rw [if_neg (by decide), if_neg (by decide)]; exact q.2.2.2.2.1.2 z⟩
                · exact ⟨fun z => by rw [if_neg (by decide), if_neg (by decide)]; exact q.2.2.2.2.1.1 z, fun _ => by rw [if_pos rfl, if_pos rfl]; exact hci⟩
              · split
                · exact hci.1.2.2
                · exact q.2.2.2.2.2.1
              · split
                · exact hci.1.2.2
                · exact q.2.2.2.2.2.2
        have heq := hh.1
        have hLX := hh.2
        refine j_icmp_eq (tgt := 729) X dL_law_701 (by decide) (fun c701 => ?_) (fun c701 => absurd heq c701)
        refine j_iinc (q := 0) (v := (nI (i + 4))) (lv' := [(3, .int (nI (i + 4))), (2, .ref (ad 11 0)), (1, .ref (ad 10 0)), (0, .ref b)]) X dL_law_729 rfl (nI_add _ _) (by decide) rfl ?_
        refine j_goto (tgt := 18) X dL_law_732 (by decide) ?_
        exact ih18 (i + 4) (mb μ689 11 M1) ⟨by omega, hLX⟩ (by omega)
      · subst hisw2
        refine j_tabIn (off := 674) (tgt := 706) X dL_law_32 (by decide) (by decide) (by decide) (by decide) ?_
        refine j_aload_n (q := 2) X dL_law_706 rfl rfl ?_
        refine j_aload_n (q := 3) X dL_law_707 rfl rfl ?_
        refine j_iload_n (q := 0) X dL_law_708 rfl rfl ?_
        refine j_iconst (v := (nI 1)) X dL_law_709 (by decide) ?_
        refine j_iadd (v := (nI (i + 1))) X dL_law_710 (nI_add _ _) ?_
        refine j_sld X hX0 hbl hbA (i + 1) rfl (by omega) (by omega) dL_law_711 ?_
        refine j_callVi (As := [.int (xs (i + 1))]) X (kX1_restore l D ad cs A z μ V h hc s0 s1 u pl pd q.1 hci.1.2.2 q.2.2.2.2.2.1 q.2.2.2.2.2.2 (xs (i + 1))) oM rfl (cwV 1 X.1.2.2.2.2 gL_law_X1_restore rfl rfl rfl (by decide +kernel) ⟨Nat.le_of_ble_eq_true rfl, Nat.le_of_ble_eq_true rfl⟩) rfl rfl (Nat.le_of_ble_eq_true rfl) dL_law_712 (fun r712 μ712 h712 => ?_)
        have h11 : μ712 11 = μ 11 := by
          rcases h712 with ⟨_, _, e0⟩ | ⟨_, _, _, ⟨_, _, e0⟩ | ⟨_, _, _, e0⟩⟩
          · rw [e0]
          · rw [e0]
          · exact e0
        refine j_aload_n (q := 1) X dL_law_715 rfl rfl ?_
        refine j_aload_n (q := 3) X dL_law_716 rfl rfl ?_
        refine j_iload_n (q := 0) X dL_law_717 rfl rfl ?_
        refine j_iconst (v := (nI 1)) X dL_law_718 (by decide) ?_
        refine j_iadd (v := (nI (i + 1))) X dL_law_719 (nI_add _ _) ?_
        refine j_sld X hX0 hbl hbA (i + 1) rfl (by omega) (by omega) dL_law_720 ?_
        refine j_eq (μ1 := mb μ712 11 (μ 11)) (by rw [← h11, mb_self]) ?_
        refine j_callVi (As := [.int (xs (i + 1))]) X (kX2_restore l D ad cs A z μ712 (μ 11) V N h hc nh s0 s1 n0 n1 u pl pd hm hci (xs (i + 1))) oR rfl (cwV 1 X.1.2.2.2.2 gL_law_X2_restore rfl rfl rfl (by decide +kernel) ⟨Nat.le_of_ble_eq_true rfl, Nat.le_of_ble_eq_true rfl⟩) rfl rfl (Nat.le_of_ble_eq_true rfl) dL_law_721 (fun r721 μ721 h721 => ?_)
        obtain ⟨M1, rfl, hv⟩ := h721
        have hh : r712 = r721 ∧ LX (mb μ712 11 M1) := by
          rcases h712 with ⟨a1, a2, a3⟩ | ⟨k, a1, a2, a3⟩
          · rcases hv with ⟨b1, b2, b3⟩ | ⟨k2, b1, b2, b3⟩
            · exact ⟨a2.trans b2.symm, by rw [a3, b3, mb_self]; exact q.lx⟩
            · exact absurd (by rw [b2]; exact ⟨nI_pos' (by omega), nI_lt b1 (by decide)⟩) a1
          · rcases hv with ⟨b1, b2, b3⟩ | ⟨k2, b1, b2, b3⟩
            · exact absurd (by rw [a2]; exact ⟨nI_pos' (by omega), nI_lt a1 (by decide)⟩) b1
            · have ek : k = k2 := (nI_eq (by omega) (by omega)).mp (a2.symm.trans b2)
              subst ek
              rcases a3 with ⟨c1, c2, c3⟩ | ⟨c1, c2, c3, -⟩
              · rcases b3 with ⟨d1, d2, d3⟩ | ⟨d1, -⟩
                · exact ⟨c2.trans d2.symm, by rw [c3, d3, mb_self]; exact q.lx⟩
                · exact absurd c1 d1
              · rcases b3 with ⟨d1, -⟩ | ⟨d1, d2, d3⟩
                · exact absurd d1 c1
                · refine ⟨c2.trans d2.symm, q.mut c3 d3 ?_⟩
                  rcases (show k = 0 ∨ k = 1 by omega) with rfl | rfl
                  · rw [if_pos rfl, if_pos rfl]; exact q.2.2.2.2.1.1 c1
                  · rw [if_neg (by decide), if_neg (by decide)]; exact q.2.2.2.2.1.2 c1
        have heq := hh.1
        have hLX := hh.2
        refine j_icmp_eq (tgt := 729) X dL_law_724 (by decide) (fun c724 => ?_) (fun c724 => absurd heq c724)
        refine j_iinc (q := 0) (v := (nI (i + 4))) (lv' := [(3, .int (nI (i + 4))), (2, .ref (ad 11 0)), (1, .ref (ad 10 0)), (0, .ref b)]) X dL_law_729 rfl (nI_add _ _) (by decide) rfl ?_
        refine j_goto (tgt := 18) X dL_law_732 (by decide) ?_
        exact ih18 (i + 4) (mb μ712 11 M1) ⟨by omega, hLX⟩ (by omega)
