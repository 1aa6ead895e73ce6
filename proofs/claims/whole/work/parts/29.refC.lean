set_option maxHeartbeats 4000000 in
set_option maxRecDepth 100000 in
theorem kX2_changes (l : Launch) (D : va_G) (ad : Nat → Nat → Nat) (cs : Nat → ClassId) (A : Nat → Prop) (z : Nat → Nat) (μ : Mm) (M : CV) (h : Nat) (hh : M 0 3 = nI h) (hh6 : h ≤ 6) : KV l D ad cs A z yX2_changes wsX2_changes (rm 0 0) [.ref (ad 11 0)] (mb μ 11 M) (fun μ1 => ∃ M1, μ1 = mb μ 11 M1 ∧ CH M M1 h) := by
  refine KV_of (cc := cX2_changes) (maxL := 2) (ret := none) (by decide) rfl (Nat.le_of_ble_eq_true rfl) ?_
  intro p e s m args below meth c hr hlk X
  show J p l e _ s m args below meth c 0 0 _ 2 D ad cs A 0 [(0, .ref (ad 11 0))] [] (mb μ 11 M)
  have hinX2 : ∀ w ∈ wsX20, w ∈ wsX2_changes := by decide +kernel
  have k37 : (Cond.fieldLink RX2 37 "PunCourtsModel" "historyLong" "I").before args s = true := X.1.2.2.2.2 _ (by decide +kernel)
  have k16 : (Cond.fieldLink RX2 16 "PunCourtsModel" "history" "[I").before args s = true := X.1.2.2.2.2 _ (by decide +kernel)
  have k7 : (Cond.fieldLink RX2 7 "PunCourtsModel" "all" "[I").before args s = true := X.1.2.2.2.2 _ (by decide +kernel)
  refine j_aload_n (q := 0) X dX2_changes_0 rfl rfl ?_
  refine j_getRB X oR hinX2 3 (by decide) rfl k37 dX2_changes_1 ?_
  rw [hh]
  refine j_bipush (v := (nI 6)) X dX2_changes_4 (by decide) ?_
  refine j_ncmp_ne (tgt := 50) X h 6 dX2_changes_6 (by decide) rfl rfl (by omega) (by omega) (fun c6 => ?_) (fun c6 => ?_)
  · skip
    refine j_iconst (v := (nI 0)) X dX2_changes_50 (by decide) ?_
    refine j_istore_n (lv' := [(1, .int (nI 0)), (0, .ref (ad 11 0))]) X dX2_changes_51 rfl (by decide) rfl ?_
    refine jl2 (G := J p l e _ s m args below meth c 0 0 _ _ D ad cs A) (pc := 52) (fun (i : Nat) (M2 : CV) => [(1, .int (nI i)), (0, .ref (ad 11 0))]) (fun (i : Nat) (M2 : CV) => (mb μ 11 M2)) (fun (i : Nat) (M2 : CV) => i ≤ 322 ∧ M2 = hcp M h i) (fun (i : Nat) (M2 : CV) => 322 - i) ?_ 0 M ⟨by omega, hcp_0.symm⟩
    intro i M2 hI52 ih52
    try dsimp only at ih52 ⊢
    obtain ⟨hi, hM2⟩ := hI52
    have hl52 : M2 0 3 = nI h := by rw [hM2, hcp, uc_n (by decide)]; exact hh
    refine j_iload_n (q := 0) X dX2_changes_52 rfl rfl ?_
    refine j_sipush (v := (nI 322)) X dX2_changes_53 (by decide) ?_
    refine j_ncmp_ge (tgt := 86) X i 322 dX2_changes_56 (by decide) rfl rfl (by omega) (by omega) (fun c56 => ?_) (fun c56 => ?_)
    · skip
      have hi2 : i = 322 := by omega
      subst hi2 hM2
      refine j_aload_n (q := 1) X dX2_changes_86 rfl rfl ?_
      refine j_dup X dX2_changes_87 rfl ?_
      refine j_getRB X oR hinX2 3 (by decide) rfl k37 dX2_changes_88 ?_
      rw [hl52]
      refine j_iconst (v := (nI 1)) X dX2_changes_91 (by decide) ?_
      refine j_iadd (v := (nI (h + 1))) X dX2_changes_92 (nI_add _ _) ?_
      refine j_putRB (ty := .int) X oR hinX2 3 (by decide) (fun _ => rfl) rfl rfl rfl rfl (Nat.le_of_ble_eq_true rfl) k37 dX2_changes_93 ?_
      exact j_vret X hr hlk ⟨_, rfl, ch_lt (by omega)⟩ dX2_changes_96
    · skip
      refine j_aload_n (q := 1) X dX2_changes_59 rfl rfl ?_
      refine j_getRB X oR hinX2 2 (by decide) rfl k16 dX2_changes_60 ?_
      refine j_sipush (v := (nI 322)) X dX2_changes_63 (by decide) ?_
      refine j_aload_n (q := 1) X dX2_changes_66 rfl rfl ?_
      refine j_getRB X oR hinX2 3 (by decide) rfl k37 dX2_changes_67 ?_
      rw [hl52]
      refine j_imul (v := (nI (322 * h))) X dX2_changes_70 (pk_mul _ _) ?_
      refine j_iload_n (q := 0) X dX2_changes_71 rfl rfl ?_
      refine j_iadd (v := (nI ((322 * h) + i))) X dX2_changes_72 (nI_add _ _) ?_
      refine j_aload_n (q := 1) X dX2_changes_73 rfl rfl ?_
      refine j_getRB X oR hinX2 0 (by decide) rfl k7 dX2_changes_74 ?_
      refine j_iload_n (q := 0) X dX2_changes_77 rfl rfl ?_
      refine j_ialdB X aR_1 i rfl (by omega) (by decide) dX2_changes_78 ?_
      refine j_iastB X aR_3 ((322 * h) + i) rfl (by omega) (by decide) (by decide) dX2_changes_79 ?_
      refine j_iinc (q := 0) (v := (nI (i + 1))) (lv' := [(1, .int (nI (i + 1))), (0, .ref (ad 11 0))]) X dX2_changes_80 rfl (nI_1 _) (by decide) rfl ?_
      refine j_goto (tgt := 52) X dX2_changes_83 (by decide) ?_
      exact ih52 (i + 1) (us M2 3 ((322 * h) + i) (M2 1 i)) ⟨by omega, by rw [hM2]; exact hcp_s⟩ (by omega)
  · skip
    have h6 : h = 6 := Classical.not_not.mp c6
    subst h6
    refine j_iconst (v := (nI 0)) X dX2_changes_9 (by decide) ?_
    refine j_istore_n (lv' := [(1, .int (nI 0)), (0, .ref (ad 11 0))]) X dX2_changes_10 rfl (by decide) rfl ?_
    refine jl2 (G := J p l e _ s m args below meth c 0 0 _ _ D ad cs A) (pc := 11) (fun (i : Nat) (M2 : CV) => [(1, .int (nI i)), (0, .ref (ad 11 0))]) (fun (i : Nat) (M2 : CV) => (mb μ 11 M2)) (fun (i : Nat) (M2 : CV) => i ≤ 1610 ∧ M2 = hsh M i) (fun (i : Nat) (M2 : CV) => 1610 - i) ?_ 0 M ⟨by omega, hsh_0.symm⟩
    intro i M2 hI11 ih11
    try dsimp only at ih11 ⊢
    obtain ⟨hi, hM2⟩ := hI11
    refine j_iload_n (q := 0) X dX2_changes_11 rfl rfl ?_
    refine j_sipush (v := (nI 1610)) X dX2_changes_12 (by decide) ?_
    refine j_ncmp_ge (tgt := 40) X i 1610 dX2_changes_15 (by decide) rfl rfl (by omega) (by omega) (fun c15 => ?_) (fun c15 => ?_)
    · skip
      have hi2 : i = 1610 := by omega
      subst hi2 hM2
      have hl42 : hsh M 1610 0 3 = nI 6 := by rw [hsh, uc_n (by decide)]; exact hh
      refine j_aload_n (q := 1) X dX2_changes_40 rfl rfl ?_
      refine j_dup X dX2_changes_41 rfl ?_
      refine j_getRB X oR hinX2 3 (by decide) rfl k37 dX2_changes_42 ?_
      rw [hl42]
      refine j_iconst (v := (nI 1)) X dX2_changes_45 (by decide) ?_
      refine j_isub (v := (nI 5)) X dX2_changes_46 (by decide) ?_
      refine j_putRB (ty := .int) X oR hinX2 3 (by decide) (fun _ => rfl) rfl rfl rfl rfl (Nat.le_of_ble_eq_true rfl) k37 dX2_changes_47 ?_
      refine j_iconst (v := (nI 0)) X dX2_changes_50 (by decide) ?_
      refine j_istore_n (lv' := [(1, .int (nI 0)), (0, .ref (ad 11 0))]) X dX2_changes_51 rfl (by decide) rfl ?_
      refine jl2 (G := J p l e _ s m args below meth c 0 0 _ _ D ad cs A) (pc := 52) (fun (i : Nat) (M2 : CV) => [(1, .int (nI i)), (0, .ref (ad 11 0))]) (fun (i : Nat) (M2 : CV) => (mb μ 11 M2)) (fun (i : Nat) (M2 : CV) => i ≤ 322 ∧ M2 = hcp (us (hsh M 1610) 0 3 (nI 5)) 5 i) (fun (i : Nat) (M2 : CV) => 322 - i) ?_ 0 (us (hsh M 1610) 0 3 (nI 5)) ⟨by omega, hcp_0.symm⟩
      intro i M2 hI52 ih52
      try dsimp only at ih52 ⊢
      obtain ⟨hi, hM2⟩ := hI52
      have hl52 : M2 0 3 = nI 5 := by rw [hM2, hcp, uc_n (by decide)]; exact us_s
      refine j_iload_n (q := 0) X dX2_changes_52 rfl rfl ?_
      refine j_sipush (v := (nI 322)) X dX2_changes_53 (by decide) ?_
      refine j_ncmp_ge (tgt := 86) X i 322 dX2_changes_56 (by decide) rfl rfl (by omega) (by omega) (fun c56 => ?_) (fun c56 => ?_)
      · skip
        have hi2 : i = 322 := by omega
        subst hi2 hM2
        refine j_aload_n (q := 1) X dX2_changes_86 rfl rfl ?_
        refine j_dup X dX2_changes_87 rfl ?_
        refine j_getRB X oR hinX2 3 (by decide) rfl k37 dX2_changes_88 ?_
        rw [hl52]
        refine j_iconst (v := (nI 1)) X dX2_changes_91 (by decide) ?_
        refine j_iadd (v := (nI 6)) X dX2_changes_92 (nI_add _ _) ?_
        refine j_putRB (ty := .int) X oR hinX2 3 (by decide) (fun _ => rfl) rfl rfl rfl rfl (Nat.le_of_ble_eq_true rfl) k37 dX2_changes_93 ?_
        exact j_vret X hr hlk ⟨_, rfl, ch_6⟩ dX2_changes_96
      · skip
        refine j_aload_n (q := 1) X dX2_changes_59 rfl rfl ?_
        refine j_getRB X oR hinX2 2 (by decide) rfl k16 dX2_changes_60 ?_
        refine j_sipush (v := (nI 322)) X dX2_changes_63 (by decide) ?_
        refine j_aload_n (q := 1) X dX2_changes_66 rfl rfl ?_
        refine j_getRB X oR hinX2 3 (by decide) rfl k37 dX2_changes_67 ?_
        rw [hl52]
        refine j_imul (v := (nI (322 * 5))) X dX2_changes_70 (pk_mul _ _) ?_
        refine j_iload_n (q := 0) X dX2_changes_71 rfl rfl ?_
        refine j_iadd (v := (nI ((322 * 5) + i))) X dX2_changes_72 (nI_add _ _) ?_
        refine j_aload_n (q := 1) X dX2_changes_73 rfl rfl ?_
        refine j_getRB X oR hinX2 0 (by decide) rfl k7 dX2_changes_74 ?_
        refine j_iload_n (q := 0) X dX2_changes_77 rfl rfl ?_
        refine j_ialdB X aR_1 i rfl (by omega) (by decide) dX2_changes_78 ?_
        refine j_iastB X aR_3 ((322 * 5) + i) rfl (by omega) (by decide) (by decide) dX2_changes_79 ?_
        refine j_iinc (q := 0) (v := (nI (i + 1))) (lv' := [(1, .int (nI (i + 1))), (0, .ref (ad 11 0))]) X dX2_changes_80 rfl (nI_1 _) (by decide) rfl ?_
        refine j_goto (tgt := 52) X dX2_changes_83 (by decide) ?_
        exact ih52 (i + 1) (us M2 3 ((322 * 5) + i) (M2 1 i)) ⟨by omega, by rw [hM2]; exact hcp_s⟩ (by omega)
    · skip
      refine j_aload_n (q := 1) X dX2_changes_18 rfl rfl ?_
      refine j_getRB X oR hinX2 2 (by decide) rfl k16 dX2_changes_19 ?_
      refine j_iload_n (q := 0) X dX2_changes_22 rfl rfl ?_
      refine j_aload_n (q := 1) X dX2_changes_23 rfl rfl ?_
      refine j_getRB X oR hinX2 2 (by decide) rfl k16 dX2_changes_24 ?_
      refine j_iload_n (q := 0) X dX2_changes_27 rfl rfl ?_
      refine j_sipush (v := (nI 322)) X dX2_changes_28 (by decide) ?_
      refine j_iadd (v := (nI (i + 322))) X dX2_changes_31 (nI_add _ _) ?_
      refine j_ialdB X aR_3 (i + 322) rfl (by omega) (by decide) dX2_changes_32 ?_
      refine j_iastB X aR_3 i rfl (by omega) (by decide) (by decide) dX2_changes_33 ?_
      refine j_iinc (q := 0) (v := (nI (i + 1))) (lv' := [(1, .int (nI (i + 1))), (0, .ref (ad 11 0))]) X dX2_changes_34 rfl (nI_1 _) (by decide) rfl ?_
      refine j_goto (tgt := 11) X dX2_changes_37 (by decide) ?_
      exact ih11 (i + 1) (us M2 3 i (M2 3 (i + 322))) ⟨by omega, by rw [hM2]; exact hsh_s⟩ (by omega)
set_option maxHeartbeats 4000000 in
set_option maxRecDepth 100000 in
theorem kX2_keeps (l : Launch) (D : va_G) (ad : Nat → Nat → Nat) (cs : Nat → ClassId) (A : Nat → Prop) (z : Nat → Nat) (μ : Mm) (M : CV) : KV l D ad cs A z yX2_keeps wsX2_keeps (rm 0 0) [.ref (ad 11 0)] (mb μ 11 M) (fun μ1 => μ1 = mb μ 11 (rcp M 2 1 322)) := by
  refine KV_of (cc := cX2_keeps) (maxL := 2) (ret := none) (by decide) rfl (Nat.le_of_ble_eq_true rfl) ?_
  intro p e s m args below meth c hr hlk X
  show J p l e _ s m args below meth c 0 0 _ 2 D ad cs A 0 [(0, .ref (ad 11 0))] [] (mb μ 11 M)
  have hinX2 : ∀ w ∈ wsX20, w ∈ wsX2_keeps := by decide +kernel
  have k13 : (Cond.fieldLink RX2 13 "PunCourtsModel" "kept" "[I").before args s = true := X.1.2.2.2.2 _ (by decide +kernel)
  have k7 : (Cond.fieldLink RX2 7 "PunCourtsModel" "all" "[I").before args s = true := X.1.2.2.2.2 _ (by decide +kernel)
  refine j_iconst (v := (nI 0)) X dX2_keeps_0 (by decide) ?_
  refine j_istore_n (lv' := [(1, .int (nI 0)), (0, .ref (ad 11 0))]) X dX2_keeps_1 rfl (by decide) rfl ?_
  refine jl2 (G := J p l e _ s m args below meth c 0 0 _ _ D ad cs A) (pc := 2) (fun (i : Nat) (M2 : CV) => [(1, .int (nI i)), (0, .ref (ad 11 0))]) (fun (i : Nat) (M2 : CV) => (mb μ 11 M2)) (fun (i : Nat) (M2 : CV) => i ≤ 322 ∧ M2 = rcp M 2 1 i) (fun (i : Nat) (M2 : CV) => 322 - i) ?_ 0 M ⟨by omega, rcp_0.symm⟩
  intro i M2 hI2 ih2
  try dsimp only at ih2 ⊢
  obtain ⟨hi, hM2⟩ := hI2
  refine j_iload_n (q := 0) X dX2_keeps_2 rfl rfl ?_
  refine j_sipush (v := (nI 322)) X dX2_keeps_3 (by decide) ?_
  refine j_ncmp_ge (tgt := 27) X i 322 dX2_keeps_6 (by decide) rfl rfl (by omega) (by omega) (fun c6 => ?_) (fun c6 => ?_)
  · skip
    exact j_vret X hr hlk (by rw [hM2, show i = 322 by omega]) dX2_keeps_27
  · skip
    refine j_aload_n (q := 1) X dX2_keeps_9 rfl rfl ?_
    refine j_getRB X oR hinX2 1 (by decide) rfl k13 dX2_keeps_10 ?_
    refine j_iload_n (q := 0) X dX2_keeps_13 rfl rfl ?_
    refine j_aload_n (q := 1) X dX2_keeps_14 rfl rfl ?_
    refine j_getRB X oR hinX2 0 (by decide) rfl k7 dX2_keeps_15 ?_
    refine j_iload_n (q := 0) X dX2_keeps_18 rfl rfl ?_
    refine j_ialdB X aR_1 i rfl (by omega) (by decide) dX2_keeps_19 ?_
    refine j_iastB X aR_2 i rfl (by omega) (by decide) (by decide) dX2_keeps_20 ?_
    refine j_iinc (q := 0) (v := (nI (i + 1))) (lv' := [(1, .int (nI (i + 1))), (0, .ref (ad 11 0))]) X dX2_keeps_21 rfl (nI_1 _) (by decide) rfl ?_
    refine j_goto (tgt := 2) X dX2_keeps_24 (by decide) ?_
    exact ih2 (i + 1) (us M2 2 i (M2 1 i)) ⟨by omega, by rw [hM2]; exact rcp_s (by decide)⟩ (by omega)
set_option maxHeartbeats 4000000 in
set_option maxRecDepth 100000 in
theorem kX2_comesBack (l : Launch) (D : va_G) (ad : Nat → Nat → Nat) (cs : Nat → ClassId) (A : Nat → Prop) (z : Nat → Nat) (μ : Mm) (M : CV) : KV l D ad cs A z yX2_comesBack wsX2_comesBack (rm 0 0) [.ref (ad 11 0)] (mb μ 11 M) (fun μ1 => μ1 = mb μ 11 (rcp M 1 2 322)) := by
  refine KV_of (cc := cX2_comesBack) (maxL := 2) (ret := none) (by decide) rfl (Nat.le_of_ble_eq_true rfl) ?_
  intro p e s m args below meth c hr hlk X
  show J p l e _ s m args below meth c 0 0 _ 2 D ad cs A 0 [(0, .ref (ad 11 0))] [] (mb μ 11 M)
  have hinX2 : ∀ w ∈ wsX20, w ∈ wsX2_comesBack := by decide +kernel
  have k7 : (Cond.fieldLink RX2 7 "PunCourtsModel" "all" "[I").before args s = true := X.1.2.2.2.2 _ (by decide +kernel)
  have k13 : (Cond.fieldLink RX2 13 "PunCourtsModel" "kept" "[I").before args s = true := X.1.2.2.2.2 _ (by decide +kernel)
  refine j_iconst (v := (nI 0)) X dX2_comesBack_0 (by decide) ?_
  refine j_istore_n (lv' := [(1, .int (nI 0)), (0, .ref (ad 11 0))]) X dX2_comesBack_1 rfl (by decide) rfl ?_
  refine jl2 (G := J p l e _ s m args below meth c 0 0 _ _ D ad cs A) (pc := 2) (fun (i : Nat) (M2 : CV) => [(1, .int (nI i)), (0, .ref (ad 11 0))]) (fun (i : Nat) (M2 : CV) => (mb μ 11 M2)) (fun (i : Nat) (M2 : CV) => i ≤ 322 ∧ M2 = rcp M 1 2 i) (fun (i : Nat) (M2 : CV) => 322 - i) ?_ 0 M ⟨by omega, rcp_0.symm⟩
  intro i M2 hI2 ih2
  try dsimp only at ih2 ⊢
  obtain ⟨hi, hM2⟩ := hI2
  refine j_iload_n (q := 0) X dX2_comesBack_2 rfl rfl ?_
  refine j_sipush (v := (nI 322)) X dX2_comesBack_3 (by decide) ?_
  refine j_ncmp_ge (tgt := 27) X i 322 dX2_comesBack_6 (by decide) rfl rfl (by omega) (by omega) (fun c6 => ?_) (fun c6 => ?_)
  · skip
    exact j_vret X hr hlk (by rw [hM2, show i = 322 by omega]) dX2_comesBack_27
  · skip
    refine j_aload_n (q := 1) X dX2_comesBack_9 rfl rfl ?_
    refine j_getRB X oR hinX2 0 (by decide) rfl k7 dX2_comesBack_10 ?_
    refine j_iload_n (q := 0) X dX2_comesBack_13 rfl rfl ?_
    refine j_aload_n (q := 1) X dX2_comesBack_14 rfl rfl ?_
    refine j_getRB X oR hinX2 1 (by decide) rfl k13 dX2_comesBack_15 ?_
    refine j_iload_n (q := 0) X dX2_comesBack_18 rfl rfl ?_
    refine j_ialdB X aR_2 i rfl (by omega) (by decide) dX2_comesBack_19 ?_
    refine j_iastB X aR_1 i rfl (by omega) (by decide) (by decide) dX2_comesBack_20 ?_
    refine j_iinc (q := 0) (v := (nI (i + 1))) (lv' := [(1, .int (nI (i + 1))), (0, .ref (ad 11 0))]) X dX2_comesBack_21 rfl (nI_1 _) (by decide) rfl ?_
    refine j_goto (tgt := 2) X dX2_comesBack_24 (by decide) ?_
    exact ih2 (i + 1) (us M2 1 i (M2 2 i)) ⟨by omega, by rw [hM2]; exact rcp_s (by decide)⟩ (by omega)
theorem okS_n {k : Nat} {v : Int32} (hk : k < 4) : (lo4 k ≤ v ∧ v ≤ hi4 k) ↔ okS (nI k) v := by
  have e : (nI k).toNatClampNeg = k := ix_n (by omega)
  constructor
  · intro q
    exact ⟨nI_pos' (by omega), nI_lt hk (by decide), by rw [e]; exact q.1, by rw [e]; exact q.2⟩
  · intro q
    have q1 := q.2.2.1
    have q2 := q.2.2.2
    rw [e] at q1 q2
    exact ⟨q1, q2⟩
theorem okS_no {s v : Int32} (h : ∀ i, i ≤ 3 → ¬ s = nI i) : ¬ okS s v := fun q => by
  obtain ⟨j, hj, e⟩ := in_n q.1 q.2.1 (by decide)
  exact h j (by omega) e
set_option maxHeartbeats 4000000 in
set_option maxRecDepth 100000 in
theorem kX2_isSetting (l : Launch) (D : va_G) (ad : Nat → Nat → Nat) (cs : Nat → ClassId) (A : Nat → Prop) (z : Nat → Nat) (μ : Mm) (M : CV) (sx v : Int32) : KI l D ad cs A z yX2_isSetting wsX2_isSetting (rm 1 25) [.int sx, .int v] (mb μ 11 M) (fun r μ1 => bP r (okS sx v) ∧ μ1 = mb μ 11 M) := by
  refine KI_of (cc := cX2_isSetting) (maxL := 2) (ret := (some .boolean)) (by decide) rfl (Nat.le_of_ble_eq_true rfl) ?_
  intro p e s m args below meth c hr hlk X
  show J p l e _ s m args below meth c 0 0 _ 2 D ad cs A 0 [(0, .int sx), (1, .int v)] [] (mb μ 11 M)
  refine j_iload_n (q := 0) X dX2_isSetting_0 rfl rfl ?_
  rcases swc sx 3 (by decide) with hsw | ⟨isw, hisw, hisw2⟩
  · refine j_tabOut (tgt := 72) X dX2_isSetting_1 hsw (by decide) ?_
    have hsn := sw_ne (n := 3) (by decide) hsw
    refine j_iconst (v := (nI 0)) X dX2_isSetting_72 (by decide) ?_
    exact j_zret X hr hlk (Or.inl rfl) ⟨bP.nn (okS_no hsn), rfl⟩ dX2_isSetting_73
  · rcases (show isw = 0 ∨ isw = 1 ∨ isw = 2 ∨ isw = 3 by omega) with rfl | rfl | rfl | rfl
    · subst hisw2
      refine j_tabIn (off := 31) (tgt := 32) X dX2_isSetting_1 (by decide) (by decide) (by decide) (by decide) ?_
      refine j_iload_n (q := 1) X dX2_isSetting_32 rfl rfl ?_
      refine j_i2l (v := v.toInt64) X dX2_isSetting_33 rfl ?_
      refine j_lconst (v := lN 0) X dX2_isSetting_34 (by decide) ?_
      refine j_ldc2 (v := lN 11) X (X.1.2.2.2.2 _ (by decide +kernel)) dX2_isSetting_35 ?_
      refine j_callSi (As := [.long v.toInt64, .long (lN 0), .long (lN 11)]) X (kX2_in l D ad cs A z μ M (v.toInt64) (lN 0) (lN 11)) (va_cwS 3 X.1.2.2.2.2 gX2_isSetting_X2_in rfl rfl rfl (by decide +kernel) ⟨Nat.le_of_ble_eq_true rfl, Nat.le_of_ble_eq_true rfl⟩) rfl rfl (Nat.le_of_ble_eq_true rfl) dX2_isSetting_38 (fun r38 μ38 h38 => ?_)
      obtain ⟨h38, rfl⟩ := h38
      exact j_zret X hr hlk h38.bo ⟨h38.iff ((in_64 (by decide) (by decide)).trans (okS_n (k := 0) (by decide))), rfl⟩ dX2_isSetting_41
    · subst hisw2
      refine j_tabIn (off := 41) (tgt := 42) X dX2_isSetting_1 (by decide) (by decide) (by decide) (by decide) ?_
      refine j_iload_n (q := 1) X dX2_isSetting_42 rfl rfl ?_
      refine j_i2l (v := v.toInt64) X dX2_isSetting_43 rfl ?_
      refine j_lconst (v := lN 1) X dX2_isSetting_44 (by decide) ?_
      refine j_ldc2 (v := lN 6) X (X.1.2.2.2.2 _ (by decide +kernel)) dX2_isSetting_45 ?_
      refine j_callSi (As := [.long v.toInt64, .long (lN 1), .long (lN 6)]) X (kX2_in l D ad cs A z μ M (v.toInt64) (lN 1) (lN 6)) (va_cwS 3 X.1.2.2.2.2 gX2_isSetting_X2_in rfl rfl rfl (by decide +kernel) ⟨Nat.le_of_ble_eq_true rfl, Nat.le_of_ble_eq_true rfl⟩) rfl rfl (Nat.le_of_ble_eq_true rfl) dX2_isSetting_48 (fun r48 μ48 h48 => ?_)
      obtain ⟨h48, rfl⟩ := h48
      exact j_zret X hr hlk h48.bo ⟨h48.iff ((in_64 (by decide) (by decide)).trans (okS_n (k := 1) (by decide))), rfl⟩ dX2_isSetting_51
    · subst hisw2
      refine j_tabIn (off := 51) (tgt := 52) X dX2_isSetting_1 (by decide) (by decide) (by decide) (by decide) ?_
      refine j_iload_n (q := 1) X dX2_isSetting_52 rfl rfl ?_
      refine j_i2l (v := v.toInt64) X dX2_isSetting_53 rfl ?_
      refine j_lconst (v := lN 0) X dX2_isSetting_54 (by decide) ?_
      refine j_ldc2 (v := lN 9) X (X.1.2.2.2.2 _ (by decide +kernel)) dX2_isSetting_55 ?_
      refine j_callSi (As := [.long v.toInt64, .long (lN 0), .long (lN 9)]) X (kX2_in l D ad cs A z μ M (v.toInt64) (lN 0) (lN 9)) (va_cwS 3 X.1.2.2.2.2 gX2_isSetting_X2_in rfl rfl rfl (by decide +kernel) ⟨Nat.le_of_ble_eq_true rfl, Nat.le_of_ble_eq_true rfl⟩) rfl rfl (Nat.le_of_ble_eq_true rfl) dX2_isSetting_58 (fun r58 μ58 h58 => ?_)
      obtain ⟨h58, rfl⟩ := h58
      exact j_zret X hr hlk h58.bo ⟨h58.iff ((in_64 (by decide) (by decide)).trans (okS_n (k := 2) (by decide))), rfl⟩ dX2_isSetting_61
    · subst hisw2
      refine j_tabIn (off := 61) (tgt := 62) X dX2_isSetting_1 (by decide) (by decide) (by decide) (by decide) ?_
      refine j_iload_n (q := 1) X dX2_isSetting_62 rfl rfl ?_
      refine j_i2l (v := v.toInt64) X dX2_isSetting_63 rfl ?_
      refine j_lconst (v := lN 0) X dX2_isSetting_64 (by decide) ?_
      refine j_ldc2 (v := lN 60) X (X.1.2.2.2.2 _ (by decide +kernel)) dX2_isSetting_65 ?_
      refine j_callSi (As := [.long v.toInt64, .long (lN 0), .long (lN 60)]) X (kX2_in l D ad cs A z μ M (v.toInt64) (lN 0) (lN 60)) (va_cwS 3 X.1.2.2.2.2 gX2_isSetting_X2_in rfl rfl rfl (by decide +kernel) ⟨Nat.le_of_ble_eq_true rfl, Nat.le_of_ble_eq_true rfl⟩) rfl rfl (Nat.le_of_ble_eq_true rfl) dX2_isSetting_68 (fun r68 μ68 h68 => ?_)
      obtain ⟨h68, rfl⟩ := h68
      exact j_zret X hr hlk h68.bo ⟨h68.iff ((in_64 (by decide) (by decide)).trans (okS_n (k := 3) (by decide))), rfl⟩ dX2_isSetting_71
set_option maxHeartbeats 4000000 in
set_option maxRecDepth 100000 in
theorem kX2_set (l : Launch) (D : va_G) (ad : Nat → Nat → Nat) (cs : Nat → ClassId) (A : Nat → Prop) (z : Nat → Nat) (μ : Mm) (M : CV) (V : CV) (N h : Nat) (hc : Nat → CV) (nh : Nat → Nat) (s0 s1 : CV) (n0 n1 : Nat) (u : Nat → Int32) (pl : Nat) (pd : Nat → Int32) (hm : RM M V N h hc nh s0 s1 n0 n1 u pl pd) (hci : CI V N) (sx v : Int32) : KI l D ad cs A z yX2_set wsX2_set (rm 2 46) [.ref (ad 11 0), .int sx, .int v] (mb μ 11 M) (fun r μ1 => ∃ M1, μ1 = mb μ 11 M1 ∧ r = Rset V sx v ∧ (okS sx v → RM M1 (Nset V sx v) N (rech h) (recH hc h V) (recN nh h N) s0 s1 n0 n1 u pl pd) ∧ (¬ okS sx v → M1 = M)) := by
  refine KI_of (cc := cX2_set) (maxL := 4) (ret := (some .int)) (by decide) rfl (Nat.le_of_ble_eq_true rfl) ?_
  intro p e s m args below meth c hr hlk X
  show J p l e _ s m args below meth c 0 0 _ 4 D ad cs A 0 [(0, .ref (ad 11 0)), (1, .int sx), (2, .int v)] [] (mb μ 11 M)
  have hinX2 : ∀ w ∈ wsX20, w ∈ wsX2_set := by decide +kernel
  have k7 : (Cond.fieldLink RX2 7 "PunCourtsModel" "all" "[I").before args s = true := X.1.2.2.2.2 _ (by decide +kernel)
  have hN := hci.1.1
  have hN20 := hci.1.2.1
  have hw := hm.1.1
  refine j_iload_n (q := 1) X dX2_set_0 rfl rfl ?_
  refine j_iload_n (q := 2) X dX2_set_1 rfl rfl ?_
  refine j_callSi (As := [.int sx, .int v]) X (kX2_isSetting l D ad cs A z μ M sx v) (va_cwS 2 X.1.2.2.2.2 gX2_set_X2_isSetting rfl rfl rfl (by decide +kernel) ⟨Nat.le_of_ble_eq_true rfl, Nat.le_of_ble_eq_true rfl⟩) rfl rfl (Nat.le_of_ble_eq_true rfl) dX2_set_2 (fun r2 μ2 h2 => ?_)
  obtain ⟨h2, rfl⟩ := h2
  refine j_if_ne (tgt := 11) X dX2_set_5 (by decide) (fun c5 => ?_) (fun c5 => ?_)
  · skip
    have hE := h2.nt c5
    have hE0 := hE
    have hsx : 0 ≤ sx ∧ sx < nI 4 := ⟨hE.1, hE.2.1⟩
    have hsx0 := hsx
    obtain ⟨k, hk, rfl⟩ := in_n hsx.1 hsx.2 (by decide)
    refine j_aload_n (q := 0) X dX2_set_11 rfl rfl ?_
    refine j_callVv (As := []) X (kX2_changes l D ad cs A z μ M h hm.2.1.1 hm.2.1.2.1) oR rfl (cwV 0 X.1.2.2.2.2 gX2_set_X2_changes rfl rfl rfl (by decide +kernel) ⟨Nat.le_of_ble_eq_true rfl, Nat.le_of_ble_eq_true rfl⟩) rfl rfl (Nat.le_of_ble_eq_true rfl) dX2_set_12 (fun μ12 h12 => ?_)
    obtain ⟨M1, rfl, hch⟩ := h12
    have hm1 := hm.chg hch
    have hw1 := hm1.1.1
    refine j_aload_n (q := 0) X dX2_set_15 rfl rfl ?_
    refine j_getRB X oR hinX2 0 (by decide) rfl k7 dX2_set_16 ?_
    refine j_iload_n (q := 1) X dX2_set_19 rfl rfl ?_
    refine j_ialdB X aR_1 k rfl (by omega) (by decide) dX2_set_20 ?_
    rw [hw1.st k hk]
    refine j_istore_n (lv' := [(3, .int (V 1 k)), (0, .ref (ad 11 0)), (1, .int (nI k)), (2, .int v)]) X dX2_set_21 rfl (by decide) rfl ?_
    refine j_aload_n (q := 1) X dX2_set_22 rfl rfl ?_
    refine j_getRB X oR hinX2 0 (by decide) rfl k7 dX2_set_23 ?_
    refine j_iload_n (q := 2) X dX2_set_26 rfl rfl ?_
    refine j_iload_n (q := 3) X dX2_set_27 rfl rfl ?_
    refine j_iastB X aR_1 k rfl (by omega) (by decide) (by decide) dX2_set_28 ?_
    refine j_nm (fun W28 eW28 => ?_)
    refine j_iload_n (q := 0) X dX2_set_29 rfl rfl ?_
    exact j_iret X hr hlk ⟨_, rfl, by rw [Rset, if_pos hE, ix_n (by omega)], fun _ => hm1.now (by rw [Nset, ix_n (by omega), eW28, us1]; exact Rw_set hw1 hk hN20) hN20 (fun q hq => by rw [eW28]; exact us_n hq), fun q => absurd hE q⟩ dX2_set_30
  · skip
    have hE : ¬ okS sx v := h2.nf c5
    refine j_bipush (v := (-2)) X dX2_set_8 (by decide) ?_
    exact j_iret X hr hlk ⟨M, rfl, by rw [Rset, if_neg hE], fun q => absurd q hE, fun _ => rfl⟩ dX2_set_10
set_option maxHeartbeats 4000000 in
set_option maxRecDepth 100000 in
theorem kX2_honour (l : Launch) (D : va_G) (ad : Nat → Nat → Nat) (cs : Nat → ClassId) (A : Nat → Prop) (z : Nat → Nat) (μ : Mm) (M : CV) (V : CV) (N h : Nat) (hc : Nat → CV) (nh : Nat → Nat) (s0 s1 : CV) (n0 n1 : Nat) (u : Nat → Int32) (pl : Nat) (pd : Nat → Int32) (hm : RM M V N h hc nh s0 s1 n0 n1 u pl pd) (hci : CI V N) (x hx : Int32) : KI l D ad cs A z yX2_honour wsX2_honour (rm 2 46) [.ref (ad 11 0), .int x, .int hx] (mb μ 11 M) (fun r μ1 => ∃ M1, μ1 = mb μ 11 M1 ∧ r = Rhon V x hx ∧ (Ehon V x hx → RM M1 (Nhon V x hx) N (rech h) (recH hc h V) (recN nh h N) s0 s1 n0 n1 u pl pd) ∧ (¬ Ehon V x hx → M1 = M)) := by
  refine KI_of (cc := cX2_honour) (maxL := 4) (ret := (some .int)) (by decide) rfl (Nat.le_of_ble_eq_true rfl) ?_
  intro p e s m args below meth c hr hlk X
  show J p l e _ s m args below meth c 0 0 _ 4 D ad cs A 0 [(0, .ref (ad 11 0)), (1, .int x), (2, .int hx)] [] (mb μ 11 M)
  have hN := hci.1.1
  have hN20 := hci.1.2.1
  have hw := hm.1.1
  refine j_aload_n (q := 0) X dX2_honour_0 rfl rfl ?_
  refine j_iload_n (q := 1) X dX2_honour_1 rfl rfl ?_
  refine j_callVi (As := [.int x]) X (kX2_isName l D ad cs A z μ M V N hw hci x) oR rfl (cwV 1 X.1.2.2.2.2 gX2_honour_X2_isName rfl rfl rfl (by decide +kernel) ⟨Nat.le_of_ble_eq_true rfl, Nat.le_of_ble_eq_true rfl⟩) rfl rfl (Nat.le_of_ble_eq_true rfl) dX2_honour_2 (fun r2 μ2 h2 => ?_)
  obtain ⟨h2, rfl⟩ := h2
  refine j_if_ne (tgt := 10) X dX2_honour_5 (by decide) (fun c5 => ?_) (fun c5 => ?_)
  · skip
    have h2 := h2.nt c5
    have h2s := h2
    obtain ⟨n, hn, rfl⟩ := hasN_n hN hN20 h2
    refine j_iload_n (q := 2) X dX2_honour_10 rfl rfl ?_
    refine j_i2l (v := hx.toInt64) X dX2_honour_11 rfl ?_
    refine j_lconst (v := lN 0) X dX2_honour_12 (by decide) ?_
    refine j_ldc2 (v := lN 9) X (X.1.2.2.2.2 _ (by decide +kernel)) dX2_honour_13 ?_
    refine j_callSi (As := [.long hx.toInt64, .long (lN 0), .long (lN 9)]) X (kX2_in l D ad cs A z μ M (hx.toInt64) (lN 0) (lN 9)) (va_cwS 3 X.1.2.2.2.2 gX2_honour_X2_in rfl rfl rfl (by decide +kernel) ⟨Nat.le_of_ble_eq_true rfl, Nat.le_of_ble_eq_true rfl⟩) rfl rfl (Nat.le_of_ble_eq_true rfl) dX2_honour_16 (fun r16 μ16 h16 => ?_)
    obtain ⟨h16, rfl⟩ := h16
    refine j_if_ne (tgt := 25) X dX2_honour_19 (by decide) (fun c19 => ?_) (fun c19 => ?_)
    · skip
      have ho : okH hx := (in_64 (by decide) (by decide)).mp (h16.nt c19)
      have hE : Ehon V (nI n) hx := ⟨h2s, ho⟩
      refine j_aload_n (q := 0) X dX2_honour_25 rfl rfl ?_
      refine j_callVv (As := []) X (kX2_changes l D ad cs A z μ M h hm.2.1.1 hm.2.1.2.1) oR rfl (cwV 0 X.1.2.2.2.2 gX2_honour_X2_changes rfl rfl rfl (by decide +kernel) ⟨Nat.le_of_ble_eq_true rfl, Nat.le_of_ble_eq_true rfl⟩) rfl rfl (Nat.le_of_ble_eq_true rfl) dX2_honour_26 (fun μ26 h26 => ?_)
      obtain ⟨M1, rfl, hch⟩ := h26
      have hm1 := hm.chg hch
      have hw1 := hm1.1.1
      refine j_aload_n (q := 0) X dX2_honour_29 rfl rfl ?_
      refine j_iload_n (q := 1) X dX2_honour_30 rfl rfl ?_
      refine j_iconst (v := (nI 0)) X dX2_honour_31 (by decide) ?_
      refine j_callVi (As := [.int (nI n), .int (nI 0)]) X (kX2_get l D ad cs A z μ M1 n 0 (by omega) (by decide)) oR rfl (cwV 2 X.1.2.2.2.2 gX2_honour_X2_get rfl rfl rfl (by decide +kernel) ⟨Nat.le_of_ble_eq_true rfl, Nat.le_of_ble_eq_true rfl⟩) rfl rfl (Nat.le_of_ble_eq_true rfl) dX2_honour_32 (fun r32 μ32 h32 => ?_)
      obtain ⟨h32, rfl⟩ := h32
      rw [hw1.ho (by omega)] at h32
      rw [h32]
      refine j_istore_n (lv' := [(3, .int (V 7 n)), (0, .ref (ad 11 0)), (1, .int (nI n)), (2, .int hx)]) X dX2_honour_35 rfl (by decide) rfl ?_
      refine j_aload_n (q := 1) X dX2_honour_36 rfl rfl ?_
      refine j_iload_n (q := 2) X dX2_honour_37 rfl rfl ?_
      refine j_iconst (v := (nI 0)) X dX2_honour_38 (by decide) ?_
      refine j_iload_n (q := 3) X dX2_honour_39 rfl rfl ?_
      refine j_callVv (As := [.int (nI n), .int (nI 0), .int hx]) X (kX2_lays l D ad cs A z μ M1 n 0 (by omega) (by decide) hx) oR rfl (cwV 3 X.1.2.2.2.2 gX2_honour_X2_lays rfl rfl rfl (by decide +kernel) ⟨Nat.le_of_ble_eq_true rfl, Nat.le_of_ble_eq_true rfl⟩) rfl rfl (Nat.le_of_ble_eq_true rfl) dX2_honour_40 (fun μ40 h40 => ?_)
      subst h40
      refine j_iload_n (q := 0) X dX2_honour_43 rfl rfl ?_
      exact j_iret X hr hlk ⟨_, rfl, by rw [Rhon, if_neg (Classical.not_not.mpr h2s), if_neg (Classical.not_not.mpr ho), ix_n (by omega)], fun _ => hm1.now (by rw [Nhon, ix_n (by omega), us1]; exact Rw_hon hw1 hn hN20) hN20 (fun q hq => us_n hq), fun q => absurd hE q⟩ dX2_honour_44
    · skip
      have ho : ¬ okH hx := fun q => h16.nf c19 ((in_64 (by decide) (by decide)).mpr q)
      have hE : ¬ Ehon V (nI n) hx := fun q => ho q.2
      refine j_bipush (v := (-2)) X dX2_honour_22 (by decide) ?_
      exact j_iret X hr hlk ⟨M, rfl, by rw [Rhon, if_neg (Classical.not_not.mpr h2s), if_pos ho], fun q => absurd q hE, fun _ => rfl⟩ dX2_honour_24
  · skip
    have hE : ¬ Ehon V x hx := fun q => h2.nf c5 q.1
    refine j_iconst (v := (-1)) X dX2_honour_8 (by decide) ?_
    exact j_iret X hr hlk ⟨M, rfl, by rw [Rhon, if_pos (h2.nf c5)], fun q => absurd q hE, fun _ => rfl⟩ dX2_honour_9
theorem bt12 {V : CV} {x : Int32} {i : Nat} (hi : i < 12) : (if bt (bm V x 12) i = true then nI 1 else nI 0) = nI 1 ↔ V 10 i = x := by
  rw [bt_bm 12 (by decide) i (by omega)]
  have e : decide (i < 12) = true := decide_eq_true hi
  rw [e, Bool.true_and]
  by_cases q : V 10 i = x
  · rw [if_pos (decide_eq_true q)]; exact ⟨fun _ => q, fun _ => rfl⟩
  · rw [if_neg (by simp [q])]; exact ⟨fun z => absurd z (by decide), fun z => absurd z q⟩
set_option maxHeartbeats 4000000 in
set_option maxRecDepth 100000 in
theorem fX2_bits (l : Launch) (D : va_G) (ad : Nat → Nat → Nat) (cs : Nat → ClassId) (A : Nat → Prop) (z : Nat → Nat) (μ : Mm) (M : CV) (V : CV) (x : Int32) : KI l D ad cs A z yX2_bits wsX2_bits (rm 0 0) [.int (bm V x 12)] (mb μ 11 M) (fun r μ1 => r = nI (nb V x 12) ∧ μ1 = mb μ 11 M) := by
  refine KI_of (cc := cX2_bits) (maxL := 3) (ret := (some .int)) (by decide) rfl (Nat.le_of_ble_eq_true rfl) ?_
  intro p e s m args below meth c hr hlk X
  show J p l e _ s m args below meth c 0 0 _ 3 D ad cs A 0 [(0, .int (bm V x 12))] [] (mb μ 11 M)
  refine j_iconst (v := (nI 0)) X dX2_bits_0 (by decide) ?_
  refine j_istore_n (lv' := [(1, .int (nI 0)), (0, .int (bm V x 12))]) X dX2_bits_1 rfl (by decide) rfl ?_
  refine j_iconst (v := (nI 0)) X dX2_bits_2 (by decide) ?_
  refine j_istore_n (lv' := [(2, .int (nI 0)), (1, .int (nI 0)), (0, .int (bm V x 12))]) X dX2_bits_3 rfl (by decide) rfl ?_
  refine jl2 (G := J p l e _ s m args below meth c 0 0 _ _ D ad cs A) (pc := 4) (fun (i : Nat) (r : Nat) => [(2, .int (nI i)), (1, .int (nI r)), (0, .int (bm V x 12))]) (fun (i : Nat) (r : Nat) => (mb μ 11 M)) (fun (i : Nat) (r : Nat) => i ≤ 12 ∧ r = nb V x i) (fun (i : Nat) (r : Nat) => 12 - i) ?_ 0 0 ⟨by omega, rfl⟩
  intro i r hI4 ih4
  try dsimp only at ih4 ⊢
  obtain ⟨hi, hrr⟩ := hI4
  refine j_iload_n (q := 0) X dX2_bits_4 rfl rfl ?_
  refine j_bipush (v := (nI 12)) X dX2_bits_5 (by decide) ?_
  refine j_ncmp_ge (tgt := 24) X i 12 dX2_bits_7 (by decide) rfl rfl (by omega) (by omega) (fun c7 => ?_) (fun c7 => ?_)
  · skip
    refine j_iload_n (q := 1) X dX2_bits_24 rfl rfl ?_
    exact j_iret X hr hlk ⟨by rw [hrr, show i = 12 by omega], rfl⟩ dX2_bits_25
  · skip
    have hstep := bits_s (V := V) (x := x) (i := i) (by omega) hrr
    refine j_iload_n (q := 1) X dX2_bits_10 rfl rfl ?_
    refine j_iload_n (q := 2) X dX2_bits_11 rfl rfl ?_
    refine j_iload_n (q := 0) X dX2_bits_12 rfl rfl ?_
    refine j_ishr (v := ((bm V x 12) >>> ((nI i) &&& 31))) X dX2_bits_13 rfl ?_
    refine j_iconst (v := (nI 1)) X dX2_bits_14 (by decide) ?_
    refine j_iand (v := (if bt (bm V x 12) i = true then nI 1 else nI 0)) X dX2_bits_15 (b_bit _ i (by omega)) ?_
    refine j_iadd (v := (nI (nb V x (i + 1)))) X dX2_bits_16 hstep ?_
    refine j_istore_n (lv' := [(1, .int (nI (nb V x (i + 1)))), (2, .int (nI i)), (0, .int (bm V x 12))]) X dX2_bits_17 rfl (by decide) rfl ?_
    refine j_iinc (q := 1) (v := (nI (i + 1))) (lv' := [(2, .int (nI (i + 1))), (1, .int (nI (nb V x (i + 1)))), (0, .int (bm V x 12))]) X dX2_bits_18 rfl (nI_1 _) (by decide) rfl ?_
    refine j_goto (tgt := 4) X dX2_bits_21 (by decide) ?_
    exact ih4 (i + 1) (nb V x (i + 1)) ⟨by omega, rfl⟩ (by omega)
set_option maxHeartbeats 4000000 in
set_option maxRecDepth 100000 in
theorem kX2_withdraw (l : Launch) (D : va_G) (ad : Nat → Nat → Nat) (cs : Nat → ClassId) (A : Nat → Prop) (z : Nat → Nat) (μ : Mm) (M : CV) (V : CV) (N h : Nat) (hc : Nat → CV) (nh : Nat → Nat) (s0 s1 : CV) (n0 n1 : Nat) (u : Nat → Int32) (pl : Nat) (pd : Nat → Int32) (hm : RM M V N h hc nh s0 s1 n0 n1 u pl pd) (hci : CI V N) (x : Int32) : KI l D ad cs A z yX2_withdraw wsX2_withdraw (rm 2 46) [.ref (ad 11 0), .int x] (mb μ 11 M) (fun r μ1 => ∃ M1, μ1 = mb μ 11 M1 ∧ r = Rwit V x ∧ (Ewit V x → RM M1 (Nwit V x) N (rech h) (recH hc h V) (recN nh h N) s0 s1 n0 n1 u pl pd) ∧ (¬ Ewit V x → M1 = M)) := by
  refine KI_of (cc := cX2_withdraw) (maxL := 4) (ret := (some .int)) (by decide) rfl (Nat.le_of_ble_eq_true rfl) ?_
  intro p e s m args below meth c hr hlk X
  show J p l e _ s m args below meth c 0 0 _ 4 D ad cs A 0 [(0, .ref (ad 11 0)), (1, .int x)] [] (mb μ 11 M)
  have hN := hci.1.1
  have hN20 := hci.1.2.1
  have hw := hm.1.1
  refine j_aload_n (q := 0) X dX2_withdraw_0 rfl rfl ?_
  refine j_iload_n (q := 1) X dX2_withdraw_1 rfl rfl ?_
  refine j_callVi (As := [.int x]) X (kX2_isName l D ad cs A z μ M V N hw hci x) oR rfl (cwV 1 X.1.2.2.2.2 gX2_withdraw_X2_isName rfl rfl rfl (by decide +kernel) ⟨Nat.le_of_ble_eq_true rfl, Nat.le_of_ble_eq_true rfl⟩) rfl rfl (Nat.le_of_ble_eq_true rfl) dX2_withdraw_2 (fun r2 μ2 h2 => ?_)
  obtain ⟨h2, rfl⟩ := h2
  refine j_if_ne (tgt := 10) X dX2_withdraw_5 (by decide) (fun c5 => ?_) (fun c5 => ?_)
  · skip
    have h2 := h2.nt c5
    have h2s := h2
    obtain ⟨n, hn, rfl⟩ := hasN_n hN hN20 h2
    refine j_aload_n (q := 0) X dX2_withdraw_10 rfl rfl ?_
    refine j_iload_n (q := 1) X dX2_withdraw_11 rfl rfl ?_
    refine j_iconst (v := (nI 1)) X dX2_withdraw_12 (by decide) ?_
    refine j_callVi (As := [.int (nI n), .int (nI 1)]) X (kX2_get l D ad cs A z μ M n 1 (by omega) (by decide)) oR rfl (cwV 2 X.1.2.2.2.2 gX2_withdraw_X2_get rfl rfl rfl (by decide +kernel) ⟨Nat.le_of_ble_eq_true rfl, Nat.le_of_ble_eq_true rfl⟩) rfl rfl (Nat.le_of_ble_eq_true rfl) dX2_withdraw_13 (fun r13 μ13 h13 => ?_)
    obtain ⟨h13, rfl⟩ := h13
    rw [hw.wd (by omega)] at h13
    rw [h13]
    refine j_iconst (v := (nI 1)) X dX2_withdraw_16 (by decide) ?_
    refine j_icmp_ne (tgt := 23) X dX2_withdraw_17 (by decide) (fun c17 => ?_) (fun c17 => ?_)
    · skip
      have h8 : V 8 n = 0 := (hci.2.2.2.1.2.1 n hn).elim id (fun q => absurd q c17)
      have hE : Ewit V (nI n) := ⟨h2s, by rw [ix_n (by omega)]; exact h8⟩
      refine j_aload_n (q := 0) X dX2_withdraw_23 rfl rfl ?_
      refine j_callVv (As := []) X (kX2_changes l D ad cs A z μ M h hm.2.1.1 hm.2.1.2.1) oR rfl (cwV 0 X.1.2.2.2.2 gX2_withdraw_X2_changes rfl rfl rfl (by decide +kernel) ⟨Nat.le_of_ble_eq_true rfl, Nat.le_of_ble_eq_true rfl⟩) rfl rfl (Nat.le_of_ble_eq_true rfl) dX2_withdraw_24 (fun μ24 h24 => ?_)
      obtain ⟨M1, rfl, hch⟩ := h24
      have hm1 := hm.chg hch
      have hw1 := hm1.1.1
      refine j_aload_n (q := 0) X dX2_withdraw_27 rfl rfl ?_
      refine j_iload_n (q := 1) X dX2_withdraw_28 rfl rfl ?_
      refine j_callVi (As := [.int (nI n)]) X (kX2_bearers l D ad cs A z μ M1 V N hw1 hci (nI n)) oR rfl (cwV 1 X.1.2.2.2.2 gX2_withdraw_X2_bearers rfl rfl rfl (by decide +kernel) ⟨Nat.le_of_ble_eq_true rfl, Nat.le_of_ble_eq_true rfl⟩) rfl rfl (Nat.le_of_ble_eq_true rfl) dX2_withdraw_29 (fun r29 μ29 h29 => ?_)
      obtain ⟨h29, rfl⟩ := h29
      rw [h29]
      refine j_istore_n (lv' := [(2, .int (bm V (nI n) 12)), (0, .ref (ad 11 0)), (1, .int (nI n))]) X dX2_withdraw_32 rfl (by decide) rfl ?_
      refine j_iconst (v := (nI 0)) X dX2_withdraw_33 (by decide) ?_
      refine j_istore_n (lv' := [(3, .int (nI 0)), (2, .int (bm V (nI n) 12)), (0, .ref (ad 11 0)), (1, .int (nI n))]) X dX2_withdraw_34 rfl (by decide) rfl ?_
      refine j_lv [0, 1, 3, 2] rfl ?_
      refine jl2 (G := J p l e _ s m args below meth c 0 0 _ _ D ad cs A) (pc := 35) (fun (i : Nat) (M2 : CV) => [(3, .int (nI i)), (2, .int (bm V (nI n) 12)), (1, .int (nI n)), (0, .ref (ad 11 0))]) (fun (i : Nat) (M2 : CV) => (mb μ 11 M2)) (fun (i : Nat) (M2 : CV) => i ≤ 12 ∧ Rw (dr V n i) N (M2 1) ∧ ∀ k, k ≠ 1 → M2 k = M1 k) (fun (i : Nat) (M2 : CV) => 12 - i) ?_ 0 M1 ⟨by omega, hw1, fun _ _ => rfl⟩
      intro i M2 hI35 ih35
      try dsimp only at ih35 ⊢
      obtain ⟨hi, hw2, hk2⟩ := hI35
      refine j_iload_n (q := 0) X dX2_withdraw_35 rfl rfl ?_
      refine j_bipush (v := (nI 12)) X dX2_withdraw_36 (by decide) ?_
      refine j_ncmp_ge (tgt := 61) X i 12 dX2_withdraw_38 (by decide) rfl rfl (by omega) (by omega) (fun c38 => ?_) (fun c38 => ?_)
      · skip
        rw [show i = 12 by omega] at hw2
        refine j_aload_n (q := 3) X dX2_withdraw_61 rfl rfl ?_
        refine j_iload_n (q := 2) X dX2_withdraw_62 rfl rfl ?_
        refine j_iconst (v := (nI 1)) X dX2_withdraw_63 (by decide) ?_
        refine j_iconst (v := (nI 1)) X dX2_withdraw_64 (by decide) ?_
        refine j_callVv (As := [.int (nI n), .int (nI 1), .int (nI 1)]) X (kX2_lays l D ad cs A z μ M2 n 1 (by omega) (by decide) (nI 1)) oR rfl (cwV 3 X.1.2.2.2.2 gX2_withdraw_X2_lays rfl rfl rfl (by decide +kernel) ⟨Nat.le_of_ble_eq_true rfl, Nat.le_of_ble_eq_true rfl⟩) rfl rfl (Nat.le_of_ble_eq_true rfl) dX2_withdraw_65 (fun μ65 h65 => ?_)
        subst h65
        refine j_iload_n (q := 1) X dX2_withdraw_68 rfl rfl ?_
        refine j_callSi (As := [.int (bm V (nI n) 12)]) X (fX2_bits l D ad cs A z μ (us M2 1 (9 + 12 * n + 1) (nI 1)) V (nI n)) (va_cwS 1 X.1.2.2.2.2 gX2_withdraw_X2_bits rfl rfl rfl (by decide +kernel) ⟨Nat.le_of_ble_eq_true rfl, Nat.le_of_ble_eq_true rfl⟩) rfl rfl (Nat.le_of_ble_eq_true rfl) dX2_withdraw_69 (fun r69 μ69 h69 => ?_)
        obtain ⟨h69, rfl⟩ := h69
        exact j_iret X hr hlk ⟨_, rfl, by rw [h69, Rwit, if_neg (Classical.not_not.mpr h2s), ix_n (by omega), if_neg (Classical.not_not.mpr h8)], fun _ => hm1.now (by rw [Nwit, ix_n (by omega), dr_us, us1]; exact Rw_wd hw2 hn hN20) hN20 (fun q hq => (us_n hq).trans (hk2 q hq)), fun q => absurd hE q⟩ dX2_withdraw_72
      · skip
        refine j_iload_n (q := 1) X dX2_withdraw_41 rfl rfl ?_
        refine j_iload_n (q := 0) X dX2_withdraw_42 rfl rfl ?_
        refine j_ishr (v := ((bm V (nI n) 12) >>> ((nI i) &&& 31))) X dX2_withdraw_43 rfl ?_
        refine j_iconst (v := (nI 1)) X dX2_withdraw_44 (by decide) ?_
        refine j_iand (v := (if bt (bm V (nI n) 12) i = true then nI 1 else nI 0)) X dX2_withdraw_45 (b_bit _ i (by omega)) ?_
        refine j_iconst (v := (nI 1)) X dX2_withdraw_46 (by decide) ?_
        refine j_icmp_ne (tgt := 55) X dX2_withdraw_47 (by decide) (fun c47 => ?_) (fun c47 => ?_)
        · skip
          have hb : ¬ dr V n i 10 i = nI n := by rw [dr_at i (Nat.le_refl _)]; exact fun q => c47 ((bt12 (by omega)).mpr q)
          refine j_iinc (q := 0) (v := (nI (i + 1))) (lv' := [(3, .int (nI (i + 1))), (2, .int (bm V (nI n) 12)), (1, .int (nI n)), (0, .ref (ad 11 0))]) X dX2_withdraw_55 rfl (nI_1 _) (by decide) rfl ?_
          refine j_goto (tgt := 35) X dX2_withdraw_58 (by decide) ?_
          exact ih35 (i + 1) M2 ⟨by omega, by rw [dr, if_neg hb]; exact hw2, hk2⟩ (by omega)
        · skip
          have hb : dr V n i 10 i = nI n := by rw [dr_at i (Nat.le_refl _)]; exact (bt12 (by omega)).mp (Classical.not_not.mp c47)
          refine j_aload_n (q := 3) X dX2_withdraw_50 rfl rfl ?_
          refine j_iload_n (q := 0) X dX2_withdraw_51 rfl rfl ?_
          refine j_callVv (As := [.int (nI i)]) X (kX2_takesAway l D ad cs A z μ M2 i (by omega)) oR rfl (cwV 1 X.1.2.2.2.2 gX2_withdraw_X2_takesAway rfl rfl rfl (by decide +kernel) ⟨Nat.le_of_ble_eq_true rfl, Nat.le_of_ble_eq_true rfl⟩) rfl rfl (Nat.le_of_ble_eq_true rfl) dX2_withdraw_52 (fun μ52 h52 => ?_)
          subst h52
          refine j_iinc (q := 0) (v := (nI (i + 1))) (lv' := [(3, .int (nI (i + 1))), (2, .int (bm V (nI n) 12)), (1, .int (nI n)), (0, .ref (ad 11 0))]) X dX2_withdraw_55 rfl (nI_1 _) (by decide) rfl ?_
          refine j_goto (tgt := 35) X dX2_withdraw_58 (by decide) ?_
          exact ih35 (i + 1) (us (us M2 1 (249 + i) (-6)) 1 (285 + i) (-6)) ⟨by omega, by rw [dr, if_pos hb, us1, us1]; exact Rw_bare hw2 (by omega) hN20, fun k hk => (us_n hk).trans ((us_n hk).trans (hk2 k hk))⟩ (by omega)
    · skip
      have h8 : V 8 n ≠ 0 := by rw [Classical.not_not.mp c17]; decide
      have hE : ¬ Ewit V (nI n) := fun q => by have q2 := q.2; rw [ix_n (by omega)] at q2; exact h8 q2
      refine j_bipush (v := (-5)) X dX2_withdraw_20 (by decide) ?_
      exact j_iret X hr hlk ⟨M, rfl, by rw [Rwit, if_neg (Classical.not_not.mpr h2s), ix_n (by omega), if_pos h8], fun q => absurd q hE, fun _ => rfl⟩ dX2_withdraw_22
  · skip
    have hE : ¬ Ewit V x := fun q => h2.nf c5 q.1
    refine j_iconst (v := (-1)) X dX2_withdraw_8 (by decide) ?_
    exact j_iret X hr hlk ⟨M, rfl, by rw [Rwit, if_pos (h2.nf c5)], fun q => absurd q hE, fun _ => rfl⟩ dX2_withdraw_9
set_option maxHeartbeats 4000000 in
set_option maxRecDepth 100000 in
theorem kX2_give (l : Launch) (D : va_G) (ad : Nat → Nat → Nat) (cs : Nat → ClassId) (A : Nat → Prop) (z : Nat → Nat) (μ : Mm) (M : CV) (V : CV) (N h : Nat) (hc : Nat → CV) (nh : Nat → Nat) (s0 s1 : CV) (n0 n1 : Nat) (u : Nat → Int32) (pl : Nat) (pd : Nat → Int32) (hm : RM M V N h hc nh s0 s1 n0 n1 u pl pd) (hci : CI V N) (a : Nat) (ha : V 1 0 = nI a) (ha11 : a ≤ 11) (x cx : Int32) : KI l D ad cs A z yX2_give wsX2_give (rm 4 92) [.ref (ad 11 0), .int x, .int cx] (mb μ 11 M) (fun r μ1 => ∃ M1, μ1 = mb μ 11 M1 ∧ r = Rgiv V a x cx ∧ (Egiv V a x cx → RM M1 (Ngiv V x cx) N (rech h) (recH hc h V) (recN nh h N) s0 s1 n0 n1 u pl pd) ∧ (¬ Egiv V a x cx → M1 = M)) := by
  refine KI_of (cc := cX2_give) (maxL := 3) (ret := (some .int)) (by decide) rfl (Nat.le_of_ble_eq_true rfl) ?_
  intro p e s m args below meth c hr hlk X
  show J p l e _ s m args below meth c 0 0 _ 3 D ad cs A 0 [(0, .ref (ad 11 0)), (1, .int x), (2, .int cx)] [] (mb μ 11 M)
  have hinX2 : ∀ w ∈ wsX20, w ∈ wsX2_give := by decide +kernel
  have k7 : (Cond.fieldLink RX2 7 "PunCourtsModel" "all" "[I").before args s = true := X.1.2.2.2.2 _ (by decide +kernel)
  have hN := hci.1.1
  have hN20 := hci.1.2.1
  have hw := hm.1.1
  refine j_aload_n (q := 0) X dX2_give_0 rfl rfl ?_
  refine j_iload_n (q := 1) X dX2_give_1 rfl rfl ?_
  refine j_callVi (As := [.int x]) X (kX2_isName l D ad cs A z μ M V N hw hci x) oR rfl (cwV 1 X.1.2.2.2.2 gX2_give_X2_isName rfl rfl rfl (by decide +kernel) ⟨Nat.le_of_ble_eq_true rfl, Nat.le_of_ble_eq_true rfl⟩) rfl rfl (Nat.le_of_ble_eq_true rfl) dX2_give_2 (fun r2 μ2 h2 => ?_)
  obtain ⟨h2, rfl⟩ := h2
  refine j_if_eq (tgt := 15) X dX2_give_5 (by decide) (fun c5 => ?_) (fun c5 => ?_)
  · skip
    have ho : ¬ (hasN V x ∧ isC cx) := fun q => h2.f c5 q.1
    have hE : ¬ Egiv V a x cx := fun q => ho q.1
    refine j_iconst (v := (-1)) X dX2_give_15 (by decide) ?_
    exact j_iret X hr hlk ⟨M, rfl, by rw [Rgiv, if_pos ho], fun q => absurd q hE, fun _ => rfl⟩ dX2_give_16
  · skip
    have h2 := h2.t c5
    have h2s := h2
    refine j_iload_n (q := 2) X dX2_give_8 rfl rfl ?_
    refine j_callSi (As := [.int cx]) X (kX2_isCorner l D ad cs A z μ M cx) (va_cwS 1 X.1.2.2.2.2 gX2_give_X2_isCorner rfl rfl rfl (by decide +kernel) ⟨Nat.le_of_ble_eq_true rfl, Nat.le_of_ble_eq_true rfl⟩) rfl rfl (Nat.le_of_ble_eq_true rfl) dX2_give_9 (fun r9 μ9 h9 => ?_)
    obtain ⟨h9, rfl⟩ := h9
    refine j_if_ne (tgt := 17) X dX2_give_12 (by decide) (fun c12 => ?_) (fun c12 => ?_)
    · skip
      have h9 := h9.nt c12
      obtain ⟨n, hn, rfl⟩ := hasN_n hN hN20 h2
      have h90 := h9
      obtain ⟨k, hk, rfl⟩ := in_n h9.1 h9.2 (by decide)
      refine j_aload_n (q := 0) X dX2_give_17 rfl rfl ?_
      refine j_iload_n (q := 1) X dX2_give_18 rfl rfl ?_
      refine j_iload_n (q := 2) X dX2_give_19 rfl rfl ?_
      refine j_callVi (As := [.int (nI n), .int (nI k)]) X (kX2_reason l D ad cs A z μ M V N hw hci a ha ha11 n hn k hk) oR rfl (cwV 2 X.1.2.2.2.2 gX2_give_X2_reason rfl rfl rfl (by decide +kernel) ⟨Nat.le_of_ble_eq_true rfl, Nat.le_of_ble_eq_true rfl⟩) rfl rfl (Nat.le_of_ble_eq_true rfl) dX2_give_20 (fun r20 μ20 h20 => ?_)
      obtain ⟨h20, rfl⟩ := h20
      rw [h20]
      refine j_if_eq (tgt := 29) X dX2_give_23 (by decide) (fun c23 => ?_) (fun c23 => ?_)
      · skip
        have hE : Egiv V a (nI n) (nI k) := ⟨⟨h2s, h90⟩, by rw [ix_n (by omega), ix_n (by omega)]; exact c23⟩
        refine j_aload_n (q := 0) X dX2_give_29 rfl rfl ?_
        refine j_callVv (As := []) X (kX2_changes l D ad cs A z μ M h hm.2.1.1 hm.2.1.2.1) oR rfl (cwV 0 X.1.2.2.2.2 gX2_give_X2_changes rfl rfl rfl (by decide +kernel) ⟨Nat.le_of_ble_eq_true rfl, Nat.le_of_ble_eq_true rfl⟩) rfl rfl (Nat.le_of_ble_eq_true rfl) dX2_give_30 (fun μ30 h30 => ?_)
        obtain ⟨M1, rfl, hch⟩ := h30
        have hm1 := hm.chg hch
        have hw1 := hm1.1.1
        refine j_aload_n (q := 0) X dX2_give_33 rfl rfl ?_
        refine j_iload_n (q := 1) X dX2_give_34 rfl rfl ?_
        refine j_iload_n (q := 2) X dX2_give_35 rfl rfl ?_
        refine j_callVv (As := [.int (nI n), .int (nI k)]) X (kX2_gives l D ad cs A z μ M1 n (by omega) k hk) oR rfl (cwV 2 X.1.2.2.2.2 gX2_give_X2_gives rfl rfl rfl (by decide +kernel) ⟨Nat.le_of_ble_eq_true rfl, Nat.le_of_ble_eq_true rfl⟩) rfl rfl (Nat.le_of_ble_eq_true rfl) dX2_give_36 (fun μ36 h36 => ?_)
        subst h36
        have hg : Rw (placeS V n k) N (gvS M1 n k 1) := Rw_gives hw1 hN20 hn hk
        refine j_aload_n (q := 0) X dX2_give_39 rfl rfl ?_
        refine j_getRB X oR hinX2 0 (by decide) rfl k7 dX2_give_40 ?_
        refine j_sipush (v := (nI 261)) X dX2_give_43 (by decide) ?_
        refine j_iload_n (q := 2) X dX2_give_46 rfl rfl ?_
        refine j_iadd (v := (nI (261 + k))) X dX2_give_47 (nI_add _ _) ?_
        refine j_ialdB X aR_1 (261 + k) rfl (by omega) (by decide) dX2_give_48 ?_
        rw [hg.ow hk]
        exact j_iret X hr hlk ⟨_, rfl, by rw [Rgiv, if_neg (Classical.not_not.mpr ⟨h2s, h90⟩), ix_n (by omega), ix_n (by omega), if_neg (Classical.not_not.mpr c23)], fun _ => hm1.now (by rw [Ngiv, ix_n (by omega), ix_n (by omega)]; exact hg) hN20 (fun q hq => gvS_row hq), fun q => absurd hE q⟩ dX2_give_49
      · skip
        have hE : ¬ Egiv V a (nI n) (nI k) := fun q => by have q2 := q.2; rw [ix_n (by omega), ix_n (by omega)] at q2; exact c23 q2
        refine j_bipush (v := (-5)) X dX2_give_26 (by decide) ?_
        exact j_iret X hr hlk ⟨M, rfl, by rw [Rgiv, if_neg (Classical.not_not.mpr ⟨h2s, h90⟩), ix_n (by omega), ix_n (by omega), if_pos c23], fun q => absurd q hE, fun _ => rfl⟩ dX2_give_28
    · skip
      have ho : ¬ (hasN V x ∧ isC cx) := fun q => h9.nf c12 q.2
      have hE : ¬ Egiv V a x cx := fun q => ho q.1
      refine j_iconst (v := (-1)) X dX2_give_15 (by decide) ?_
      exact j_iret X hr hlk ⟨M, rfl, by rw [Rgiv, if_pos ho], fun q => absurd q hE, fun _ => rfl⟩ dX2_give_16
set_option maxHeartbeats 4000000 in
set_option maxRecDepth 100000 in
theorem kX2_strip (l : Launch) (D : va_G) (ad : Nat → Nat → Nat) (cs : Nat → ClassId) (A : Nat → Prop) (z : Nat → Nat) (μ : Mm) (M : CV) (V : CV) (N h : Nat) (hc : Nat → CV) (nh : Nat → Nat) (s0 s1 : CV) (n0 n1 : Nat) (u : Nat → Int32) (pl : Nat) (pd : Nat → Int32) (hm : RM M V N h hc nh s0 s1 n0 n1 u pl pd) (hci : CI V N) (cx : Int32) : KI l D ad cs A z yX2_strip wsX2_strip (rm 2 45) [.ref (ad 11 0), .int cx] (mb μ 11 M) (fun r μ1 => ∃ M1, μ1 = mb μ 11 M1 ∧ r = Rstr V cx ∧ (Estr V cx → RM M1 (Nstr V cx) N (rech h) (recH hc h V) (recN nh h N) s0 s1 n0 n1 u pl pd) ∧ (¬ Estr V cx → M1 = M)) := by
  refine KI_of (cc := cX2_strip) (maxL := 3) (ret := (some .int)) (by decide) rfl (Nat.le_of_ble_eq_true rfl) ?_
  intro p e s m args below meth c hr hlk X
  show J p l e _ s m args below meth c 0 0 _ 3 D ad cs A 0 [(0, .ref (ad 11 0)), (1, .int cx)] [] (mb μ 11 M)
  have hinX2 : ∀ w ∈ wsX20, w ∈ wsX2_strip := by decide +kernel
  have k7 : (Cond.fieldLink RX2 7 "PunCourtsModel" "all" "[I").before args s = true := X.1.2.2.2.2 _ (by decide +kernel)
  have hN := hci.1.1
  have hN20 := hci.1.2.1
  have hw := hm.1.1
  refine j_iload_n (q := 1) X dX2_strip_0 rfl rfl ?_
  refine j_callSi (As := [.int cx]) X (kX2_isCorner l D ad cs A z μ M cx) (va_cwS 1 X.1.2.2.2.2 gX2_strip_X2_isCorner rfl rfl rfl (by decide +kernel) ⟨Nat.le_of_ble_eq_true rfl, Nat.le_of_ble_eq_true rfl⟩) rfl rfl (Nat.le_of_ble_eq_true rfl) dX2_strip_1 (fun r1 μ1 h1 => ?_)
  obtain ⟨h1, rfl⟩ := h1
  refine j_if_ne (tgt := 9) X dX2_strip_4 (by decide) (fun c4 => ?_) (fun c4 => ?_)
  · skip
    have h1 := h1.nt c4
    have h10 := h1
    obtain ⟨k, hk, rfl⟩ := in_n h1.1 h1.2 (by decide)
    refine j_aload_n (q := 0) X dX2_strip_9 rfl rfl ?_
    refine j_getRB X oR hinX2 0 (by decide) rfl k7 dX2_strip_10 ?_
    refine j_sipush (v := (nI 249)) X dX2_strip_13 (by decide) ?_
    refine j_iload_n (q := 1) X dX2_strip_16 rfl rfl ?_
    refine j_iadd (v := (nI (249 + k))) X dX2_strip_17 (nI_add _ _) ?_
    refine j_ialdB X aR_1 (249 + k) rfl (by omega) (by decide) dX2_strip_18 ?_
    rw [hw.bo hk]
    refine j_istore_n (lv' := [(2, .int (V 10 k)), (0, .ref (ad 11 0)), (1, .int (nI k))]) X dX2_strip_19 rfl (by decide) rfl ?_
    refine j_iload_n (q := 0) X dX2_strip_20 rfl rfl ?_
    refine j_bipush (v := (-6)) X dX2_strip_21 (by decide) ?_
    refine j_icmp_ne (tgt := 29) X dX2_strip_23 (by decide) (fun c23 => ?_) (fun c23 => ?_)
    · skip
      have hE : Estr V (nI k) := ⟨h10, by rw [ix_n (by omega)]; exact c23⟩
      refine j_aload_n (q := 1) X dX2_strip_29 rfl rfl ?_
      refine j_callVv (As := []) X (kX2_changes l D ad cs A z μ M h hm.2.1.1 hm.2.1.2.1) oR rfl (cwV 0 X.1.2.2.2.2 gX2_strip_X2_changes rfl rfl rfl (by decide +kernel) ⟨Nat.le_of_ble_eq_true rfl, Nat.le_of_ble_eq_true rfl⟩) rfl rfl (Nat.le_of_ble_eq_true rfl) dX2_strip_30 (fun μ30 h30 => ?_)
      obtain ⟨M1, rfl, hch⟩ := h30
      have hm1 := hm.chg hch
      have hw1 := hm1.1.1
      refine j_aload_n (q := 1) X dX2_strip_33 rfl rfl ?_
      refine j_iload_n (q := 2) X dX2_strip_34 rfl rfl ?_
      refine j_callVv (As := [.int (nI k)]) X (kX2_takesAway l D ad cs A z μ M1 k (by omega)) oR rfl (cwV 1 X.1.2.2.2.2 gX2_strip_X2_takesAway rfl rfl rfl (by decide +kernel) ⟨Nat.le_of_ble_eq_true rfl, Nat.le_of_ble_eq_true rfl⟩) rfl rfl (Nat.le_of_ble_eq_true rfl) dX2_strip_35 (fun μ35 h35 => ?_)
      subst h35
      have hb : Rw (us V 10 k (-6)) N (us (us M1 1 (249 + k) (-6)) 1 (285 + k) (-6) 1) := by rw [us1, us1]; exact Rw_bare hw1 hk hN20
      refine j_aload_n (q := 1) X dX2_strip_38 rfl rfl ?_
      refine j_getRB X oR hinX2 0 (by decide) rfl k7 dX2_strip_39 ?_
      refine j_sipush (v := (nI 261)) X dX2_strip_42 (by decide) ?_
      refine j_iload_n (q := 2) X dX2_strip_45 rfl rfl ?_
      refine j_iadd (v := (nI (261 + k))) X dX2_strip_46 (nI_add _ _) ?_
      refine j_dup2 X dX2_strip_47 rfl rfl ?_
      refine j_ialdB X aR_1 (261 + k) rfl (by omega) (by decide) dX2_strip_48 ?_
      rw [hb.ow hk]
      refine j_iconst (v := (nI 1)) X dX2_strip_49 (by decide) ?_
      refine j_iadd (v := (((us V 10 k (-6)) 11 k) + (nI 1))) X dX2_strip_50 rfl ?_
      refine j_iastB X aR_1 (261 + k) rfl (by omega) (by decide) (by decide) dX2_strip_51 ?_
      refine j_nm (fun W51 eW51 => ?_)
      refine j_iload_n (q := 0) X dX2_strip_52 rfl rfl ?_
      exact j_iret X hr hlk ⟨_, rfl, by rw [Rstr, if_neg (Classical.not_not.mpr h10), ix_n (by omega), if_neg c23], fun _ => hm1.now (by rw [Nstr, ix_n (by omega), eW51, us1]; exact Rw_own hb hk hN20) hN20 (fun q hq => by rw [eW51, us_n hq, us_n hq, us_n hq]), fun q => absurd hE q⟩ dX2_strip_53
    · skip
      have hE : ¬ Estr V (nI k) := fun q => by have q2 := q.2; rw [ix_n (by omega)] at q2; exact q2 (Classical.not_not.mp c23)
      refine j_bipush (v := (-5)) X dX2_strip_26 (by decide) ?_
      exact j_iret X hr hlk ⟨M, rfl, by rw [Rstr, if_neg (Classical.not_not.mpr h10), ix_n (by omega), if_pos (Classical.not_not.mp c23)], fun q => absurd q hE, fun _ => rfl⟩ dX2_strip_28
  · skip
    have hE : ¬ Estr V cx := fun q => h1.nf c4 q.1
    refine j_iconst (v := (-1)) X dX2_strip_7 (by decide) ?_
    exact j_iret X hr hlk ⟨M, rfl, by rw [Rstr, if_pos (h1.nf c4)], fun q => absurd q hE, fun _ => rfl⟩ dX2_strip_8
set_option maxHeartbeats 4000000 in
set_option maxRecDepth 100000 in
theorem kX2_wrongCorners (l : Launch) (D : va_G) (ad : Nat → Nat → Nat) (cs : Nat → ClassId) (A : Nat → Prop) (z : Nat → Nat) (μ : Mm) (M : CV) (V : CV) (N : Nat) (hw : Rw V N (M 1)) (hci : CI V N) : KI l D ad cs A z yX2_wrongCorners wsX2_wrongCorners (rm 0 0) [.ref (ad 11 0)] (mb μ 11 M) (fun r μ1 => r = wmS V ∧ μ1 = mb μ 11 M) := by
  refine KI_of (cc := cX2_wrongCorners) (maxL := 3) (ret := (some .int)) (by decide) rfl (Nat.le_of_ble_eq_true rfl) ?_
  intro p e s m args below meth c hr hlk X
  show J p l e _ s m args below meth c 0 0 _ 3 D ad cs A 0 [(0, .ref (ad 11 0))] [] (mb μ 11 M)
  have hinX2 : ∀ w ∈ wsX20, w ∈ wsX2_wrongCorners := by decide +kernel
  have k7 : (Cond.fieldLink RX2 7 "PunCourtsModel" "all" "[I").before args s = true := X.1.2.2.2.2 _ (by decide +kernel)
  have hN := hci.1.1
  have hN20 := hci.1.2.1
  refine j_iconst (v := (nI 0)) X dX2_wrongCorners_0 (by decide) ?_
  refine j_istore_n (lv' := [(1, .int (nI 0)), (0, .ref (ad 11 0))]) X dX2_wrongCorners_1 rfl (by decide) rfl ?_
  refine j_iconst (v := (nI 0)) X dX2_wrongCorners_2 (by decide) ?_
  refine j_istore_n (lv' := [(2, .int (nI 0)), (1, .int (nI 0)), (0, .ref (ad 11 0))]) X dX2_wrongCorners_3 rfl (by decide) rfl ?_
  refine jl2 (G := J p l e _ s m args below meth c 0 0 _ _ D ad cs A) (pc := 4) (fun (i : Nat) (r : Nat) => [(2, .int (nI i)), (1, .int (nI r)), (0, .ref (ad 11 0))]) (fun (i : Nat) (r : Nat) => (mb μ 11 M)) (fun (i : Nat) (r : Nat) => i ≤ 12 ∧ r ≤ i ∧ (V 0 14 ≠ 0 → r = wm V i)) (fun (i : Nat) (r : Nat) => 12 - i) ?_ 0 0 ⟨by omega, by omega, fun _ => rfl⟩
  intro i r hI4 ih4
  try dsimp only at ih4 ⊢
  obtain ⟨hi, hri, hrr⟩ := hI4
  refine j_iload_n (q := 0) X dX2_wrongCorners_4 rfl rfl ?_
  refine j_bipush (v := (nI 12)) X dX2_wrongCorners_5 (by decide) ?_
  refine j_ncmp_ge (tgt := 47) X i 12 dX2_wrongCorners_7 (by decide) rfl rfl (by omega) (by omega) (fun c7 => ?_) (fun c7 => ?_)
  · skip
    refine j_aload_n (q := 2) X dX2_wrongCorners_47 rfl rfl ?_
    refine j_getRB X oR hinX2 0 (by decide) rfl k7 dX2_wrongCorners_48 ?_
    refine j_bipush (v := (nI 6)) X dX2_wrongCorners_51 (by decide) ?_
    refine j_ialdB X aR_1 6 rfl (by decide) (by decide) dX2_wrongCorners_53 ?_
    rw [hw.mp]
    refine j_iconst (v := (nI 1)) X dX2_wrongCorners_54 (by decide) ?_
    refine j_icmp_ne (tgt := 62) X dX2_wrongCorners_55 (by decide) (fun c55 => ?_) (fun c55 => ?_)
    · skip
      refine j_bipush (v := (-6)) X dX2_wrongCorners_62 (by decide) ?_
      exact j_iret X hr hlk ⟨by rw [wmS, if_pos (hci.1.2.2.elim id (fun q => absurd q c55))], rfl⟩ dX2_wrongCorners_64
    · skip
      refine j_iload_n (q := 1) X dX2_wrongCorners_58 rfl rfl ?_
      refine j_goto (tgt := 64) X dX2_wrongCorners_59 (by decide) ?_
      exact j_iret X hr hlk ⟨by rw [wmS, if_neg (show ¬ V 0 14 = 0 by rw [Classical.not_not.mp c55]; decide), hrr (by rw [Classical.not_not.mp c55]; decide), show i = 12 by omega], rfl⟩ dX2_wrongCorners_64
  · skip
    refine j_iload_n (q := 1) X dX2_wrongCorners_10 rfl rfl ?_
    refine j_aload_n (q := 2) X dX2_wrongCorners_11 rfl rfl ?_
    refine j_getRB X oR hinX2 0 (by decide) rfl k7 dX2_wrongCorners_12 ?_
    refine j_sipush (v := (nI 249)) X dX2_wrongCorners_15 (by decide) ?_
    refine j_iload_n (q := 0) X dX2_wrongCorners_18 rfl rfl ?_
    refine j_iadd (v := (nI (249 + i))) X dX2_wrongCorners_19 (nI_add _ _) ?_
    refine j_ialdB X aR_1 (249 + i) rfl (by omega) (by decide) dX2_wrongCorners_20 ?_
    rw [hw.bo (show i < 12 by omega)]
    refine j_aload_n (q := 2) X dX2_wrongCorners_21 rfl rfl ?_
    refine j_getRB X oR hinX2 0 (by decide) rfl k7 dX2_wrongCorners_22 ?_
    refine j_sipush (v := (nI 309)) X dX2_wrongCorners_25 (by decide) ?_
    refine j_iload_n (q := 0) X dX2_wrongCorners_28 rfl rfl ?_
    refine j_iadd (v := (nI (309 + i))) X dX2_wrongCorners_29 (nI_add _ _) ?_
    refine j_ialdB X aR_1 (309 + i) rfl (by omega) (by decide) dX2_wrongCorners_30 ?_
    rw [hw.sh (show i < 12 by omega)]
    refine j_icmp_ne (tgt := 38) X dX2_wrongCorners_31 (by decide) (fun c31 => ?_) (fun c31 => ?_)
    · skip
      refine j_iconst (v := (nI 1)) X dX2_wrongCorners_38 (by decide) ?_
      refine j_iadd (v := (nI (r + 1))) X dX2_wrongCorners_39 (nI_add _ _) ?_
      refine j_istore_n (lv' := [(1, .int (nI (r + 1))), (2, .int (nI i)), (0, .ref (ad 11 0))]) X dX2_wrongCorners_40 rfl (by decide) rfl ?_
      refine j_iinc (q := 1) (v := (nI (i + 1))) (lv' := [(2, .int (nI (i + 1))), (1, .int (nI (r + 1))), (0, .ref (ad 11 0))]) X dX2_wrongCorners_41 rfl (nI_1 _) (by decide) rfl ?_
      refine j_goto (tgt := 4) X dX2_wrongCorners_44 (by decide) ?_
      exact ih4 (i + 1) (r + 1) ⟨by omega, by omega, fun q => by rw [if_neg q] at c31; rw [wm, if_neg (fun z => c31 z.symm), hrr q]; try rfl⟩ (by omega)
    · skip
      refine j_iconst (v := (nI 0)) X dX2_wrongCorners_34 (by decide) ?_
      refine j_goto (tgt := 39) X dX2_wrongCorners_35 (by decide) ?_
      refine j_iadd (v := (nI (r + 0))) X dX2_wrongCorners_39 (nI_add _ _) ?_
      refine j_istore_n (lv' := [(1, .int (nI (r + 0))), (2, .int (nI i)), (0, .ref (ad 11 0))]) X dX2_wrongCorners_40 rfl (by decide) rfl ?_
      refine j_iinc (q := 1) (v := (nI (i + 1))) (lv' := [(2, .int (nI (i + 1))), (1, .int (nI (r + 0))), (0, .ref (ad 11 0))]) X dX2_wrongCorners_41 rfl (nI_1 _) (by decide) rfl ?_
      refine j_goto (tgt := 4) X dX2_wrongCorners_44 (by decide) ?_
      exact ih4 (i + 1) (r + 0) ⟨by omega, by omega, fun q => by rw [if_neg q] at c31; rw [wm, if_pos (Classical.not_not.mp c31).symm, hrr q]; try rfl⟩ (by omega)
set_option maxHeartbeats 4000000 in
set_option maxRecDepth 100000 in
theorem kX2_issue (l : Launch) (D : va_G) (ad : Nat → Nat → Nat) (cs : Nat → ClassId) (A : Nat → Prop) (z : Nat → Nat) (μ : Mm) (M : CV) (V : CV) (N h : Nat) (hc : Nat → CV) (nh : Nat → Nat) (s0 s1 : CV) (n0 n1 : Nat) (u : Nat → Int32) (pl : Nat) (pd : Nat → Int32) (hm : RM M V N h hc nh s0 s1 n0 n1 u pl pd) (hci : CI V N) : KI l D ad cs A z yX2_issue wsX2_issue (rm 1 22) [.ref (ad 11 0)] (mb μ 11 M) (fun r μ1 => ∃ M1, μ1 = mb μ 11 M1 ∧ r = wmS V ∧ RM M1 (dm V) N (rech h) (recH hc h V) (recN nh h N) s0 s1 n0 n1 u pl pd) := by
  refine KI_of (cc := cX2_issue) (maxL := 3) (ret := (some .int)) (by decide) rfl (Nat.le_of_ble_eq_true rfl) ?_
  intro p e s m args below meth c hr hlk X
  show J p l e _ s m args below meth c 0 0 _ 3 D ad cs A 0 [(0, .ref (ad 11 0))] [] (mb μ 11 M)
  have hinX2 : ∀ w ∈ wsX20, w ∈ wsX2_issue := by decide +kernel
  have k7 : (Cond.fieldLink RX2 7 "PunCourtsModel" "all" "[I").before args s = true := X.1.2.2.2.2 _ (by decide +kernel)
  have hN := hci.1.1
  have hN20 := hci.1.2.1
  have hw := hm.1.1
  refine j_aload_n (q := 0) X dX2_issue_0 rfl rfl ?_
  refine j_callVv (As := []) X (kX2_changes l D ad cs A z μ M h hm.2.1.1 hm.2.1.2.1) oR rfl (cwV 0 X.1.2.2.2.2 gX2_issue_X2_changes rfl rfl rfl (by decide +kernel) ⟨Nat.le_of_ble_eq_true rfl, Nat.le_of_ble_eq_true rfl⟩) rfl rfl (Nat.le_of_ble_eq_true rfl) dX2_issue_1 (fun μ1 h1 => ?_)
  obtain ⟨M1, rfl, hch⟩ := h1
  have hm1 := hm.chg hch
  have hw1 := hm1.1.1
  refine j_aload_n (q := 0) X dX2_issue_4 rfl rfl ?_
  refine j_callVi (As := []) X (kX2_wrongCorners l D ad cs A z μ M1 V N hw1 hci) oR rfl (cwV 0 X.1.2.2.2.2 gX2_issue_X2_wrongCorners rfl rfl rfl (by decide +kernel) ⟨Nat.le_of_ble_eq_true rfl, Nat.le_of_ble_eq_true rfl⟩) rfl rfl (Nat.le_of_ble_eq_true rfl) dX2_issue_5 (fun r5 μ5 h5 => ?_)
  obtain ⟨h5, rfl⟩ := h5
  rw [h5]
  refine j_istore_n (lv' := [(1, .int (wmS V)), (0, .ref (ad 11 0))]) X dX2_issue_8 rfl (by decide) rfl ?_
  refine j_aload_n (q := 1) X dX2_issue_9 rfl rfl ?_
  refine j_getRB X oR hinX2 0 (by decide) rfl k7 dX2_issue_10 ?_
  refine j_bipush (v := (nI 6)) X dX2_issue_13 (by decide) ?_
  refine j_iconst (v := (nI 1)) X dX2_issue_15 (by decide) ?_
  refine j_iastB X aR_1 6 rfl (by decide) (by decide) (by decide) dX2_issue_16 ?_
  refine j_iconst (v := (nI 0)) X dX2_issue_17 (by decide) ?_
  refine j_istore_n (lv' := [(2, .int (nI 0)), (1, .int (wmS V)), (0, .ref (ad 11 0))]) X dX2_issue_18 rfl (by decide) rfl ?_
  refine jl2 (G := J p l e _ s m args below meth c 0 0 _ _ D ad cs A) (pc := 19) (fun (i : Nat) (M2 : CV) => [(2, .int (nI i)), (1, .int (wmS V)), (0, .ref (ad 11 0))]) (fun (i : Nat) (M2 : CV) => (mb μ 11 M2)) (fun (i : Nat) (M2 : CV) => i ≤ 12 ∧ M2 = issM M1 i) (fun (i : Nat) (M2 : CV) => 12 - i) ?_ 0 (us M1 1 6 (nI 1)) ⟨by omega, issM_0⟩
  intro i M2 hI19 ih19
  try dsimp only at ih19 ⊢
  obtain ⟨hi, hM2⟩ := hI19
  refine j_iload_n (q := 0) X dX2_issue_19 rfl rfl ?_
  refine j_bipush (v := (nI 12)) X dX2_issue_20 (by decide) ?_
  refine j_ncmp_ge (tgt := 51) X i 12 dX2_issue_22 (by decide) rfl rfl (by omega) (by omega) (fun c22 => ?_) (fun c22 => ?_)
  · skip
    rw [show i = 12 by omega] at hM2
    refine j_iload_n (q := 1) X dX2_issue_51 rfl rfl ?_
    exact j_iret X hr hlk ⟨_, rfl, rfl, hm1.now (by rw [hM2]; exact Rw_iss hw1 hN20) hN20 (fun q hq => by rw [hM2, issM, uc_n hq])⟩ dX2_issue_52
  · skip
    refine j_aload_n (q := 2) X dX2_issue_25 rfl rfl ?_
    refine j_getRB X oR hinX2 0 (by decide) rfl k7 dX2_issue_26 ?_
    refine j_sipush (v := (nI 309)) X dX2_issue_29 (by decide) ?_
    refine j_iload_n (q := 0) X dX2_issue_32 rfl rfl ?_
    refine j_iadd (v := (nI (309 + i))) X dX2_issue_33 (nI_add _ _) ?_
    refine j_aload_n (q := 2) X dX2_issue_34 rfl rfl ?_
    refine j_getRB X oR hinX2 0 (by decide) rfl k7 dX2_issue_35 ?_
    refine j_sipush (v := (nI 249)) X dX2_issue_38 (by decide) ?_
    refine j_iload_n (q := 0) X dX2_issue_41 rfl rfl ?_
    refine j_iadd (v := (nI (249 + i))) X dX2_issue_42 (nI_add _ _) ?_
    refine j_ialdB X aR_1 (249 + i) rfl (by omega) (by decide) dX2_issue_43 ?_
    refine j_iastB X aR_1 (309 + i) rfl (by omega) (by decide) (by decide) dX2_issue_44 ?_
    refine j_iinc (q := 0) (v := (nI (i + 1))) (lv' := [(2, .int (nI (i + 1))), (1, .int (wmS V)), (0, .ref (ad 11 0))]) X dX2_issue_45 rfl (nI_1 _) (by decide) rfl ?_
    refine j_goto (tgt := 19) X dX2_issue_48 (by decide) ?_
    exact ih19 (i + 1) (us M2 1 (309 + i) (M2 1 (249 + i))) ⟨by omega, by rw [hM2]; exact issM_s (by omega)⟩ (by omega)
set_option maxHeartbeats 4000000 in
set_option maxRecDepth 100000 in
theorem kX2_pass (l : Launch) (D : va_G) (ad : Nat → Nat → Nat) (cs : Nat → ClassId) (A : Nat → Prop) (z : Nat → Nat) (μ : Mm) (M : CV) (V : CV) (N h : Nat) (hc : Nat → CV) (nh : Nat → Nat) (s0 s1 : CV) (n0 n1 : Nat) (u : Nat → Int32) (pl : Nat) (pd : Nat → Int32) (hm : RM M V N h hc nh s0 s1 n0 n1 u pl pd) (hci : CI V N) (a P : Nat) (hpd : PD V a N P) (dx : Int32) : KI l D ad cs A z yX2_pass wsX2_pass (rm 7 159) [.ref (ad 11 0), .int dx] (mb μ 11 M) (fun r μ1 => ∃ M1, μ1 = mb μ 11 M1 ∧ r = Rpas V a N P dx ∧ (Epas V dx → RM M1 (Npas V a N P dx) N (rech h) (recH hc h V) (recN nh h N) s0 s1 n0 n1 u pl pd) ∧ (¬ Epas V dx → M1 = M)) := by
  refine KI_of (cc := cX2_pass) (maxL := 4) (ret := (some .int)) (by decide) rfl (Nat.le_of_ble_eq_true rfl) ?_
  intro p e s m args below meth c hr hlk X
  show J p l e _ s m args below meth c 0 0 _ 4 D ad cs A 0 [(0, .ref (ad 11 0)), (1, .int dx)] [] (mb μ 11 M)
  have hinX2 : ∀ w ∈ wsX20, w ∈ wsX2_pass := by decide +kernel
  have k7 : (Cond.fieldLink RX2 7 "PunCourtsModel" "all" "[I").before args s = true := X.1.2.2.2.2 _ (by decide +kernel)
  have hN := hci.1.1
  have hN20 := hci.1.2.1
  have hw := hm.1.1
  refine j_iload_n (q := 1) X dX2_pass_0 rfl rfl ?_
  refine j_i2l (v := dx.toInt64) X dX2_pass_1 rfl ?_
  refine j_lconst (v := lN 1) X dX2_pass_2 (by decide) ?_
  refine j_ldc2 (v := lN 99) X (X.1.2.2.2.2 _ (by decide +kernel)) dX2_pass_3 ?_
  refine j_callSi (As := [.long dx.toInt64, .long (lN 1), .long (lN 99)]) X (kX2_in l D ad cs A z μ M (dx.toInt64) (lN 1) (lN 99)) (va_cwS 3 X.1.2.2.2.2 gX2_pass_X2_in rfl rfl rfl (by decide +kernel) ⟨Nat.le_of_ble_eq_true rfl, Nat.le_of_ble_eq_true rfl⟩) rfl rfl (Nat.le_of_ble_eq_true rfl) dX2_pass_6 (fun r6 μ6 h6 => ?_)
  obtain ⟨h6, rfl⟩ := h6
  refine j_if_ne (tgt := 15) X dX2_pass_9 (by decide) (fun c9 => ?_) (fun c9 => ?_)
  · skip
    have ho : okD dx 99 := (in_64 (by decide) (by decide)).mp (h6.nt c9)
    obtain ⟨k, hk1, hk2, rfl⟩ := rng_n ho.1 ho.2 (by decide) (by decide)
    refine j_aload_n (q := 0) X dX2_pass_15 rfl rfl ?_
    refine j_getRB X oR hinX2 0 (by decide) rfl k7 dX2_pass_16 ?_
    refine j_iconst (v := (nI 4)) X dX2_pass_19 (by decide) ?_
    refine j_ialdB X aR_1 4 rfl (by decide) (by decide) dX2_pass_20 ?_
    rw [hw.dy]
    refine j_iload_n (q := 1) X dX2_pass_21 rfl rfl ?_
    refine j_iadd (v := ((V 0 1) + (nI k))) X dX2_pass_22 rfl ?_
    refine j_sipush (v := (nI 9999)) X dX2_pass_23 (by decide) ?_
    refine j_icmp_le (tgt := 32) X dX2_pass_26 (by decide) (fun c26 => ?_) (fun c26 => ?_)
    · skip
      have hE : Epas V (nI k) := ⟨ho, Int32.not_lt.mpr c26⟩
      refine j_aload_n (q := 0) X dX2_pass_32 rfl rfl ?_
      refine j_callVv (As := []) X (kX2_changes l D ad cs A z μ M h hm.2.1.1 hm.2.1.2.1) oR rfl (cwV 0 X.1.2.2.2.2 gX2_pass_X2_changes rfl rfl rfl (by decide +kernel) ⟨Nat.le_of_ble_eq_true rfl, Nat.le_of_ble_eq_true rfl⟩) rfl rfl (Nat.le_of_ble_eq_true rfl) dX2_pass_33 (fun μ33 h33 => ?_)
      obtain ⟨M1, rfl, hch⟩ := h33
      have hm1 := hm.chg hch
      have hw1 := hm1.1.1
      refine j_aload_n (q := 0) X dX2_pass_36 rfl rfl ?_
      refine j_getRB X oR hinX2 0 (by decide) rfl k7 dX2_pass_37 ?_
      refine j_bipush (v := (nI 8)) X dX2_pass_40 (by decide) ?_
      refine j_ialdB X aR_1 8 rfl (by decide) (by decide) dX2_pass_42 ?_
      rw [hw1.gi]
      refine j_istore_n (lv' := [(2, .int (sm (V 9) 20)), (0, .ref (ad 11 0)), (1, .int (nI k))]) X dX2_pass_43 rfl (by decide) rfl ?_
      refine j_iconst (v := (nI 0)) X dX2_pass_44 (by decide) ?_
      refine j_istore_n (lv' := [(3, .int (nI 0)), (2, .int (sm (V 9) 20)), (0, .ref (ad 11 0)), (1, .int (nI k))]) X dX2_pass_45 rfl (by decide) rfl ?_
      refine j_lv [0, 1, 3, 2] rfl ?_
      refine jl2 (G := J p l e _ s m args below meth c 0 0 _ _ D ad cs A) (pc := 46) (fun (i : Nat) (M2 : CV) => [(3, .int (nI i)), (2, .int (sm (V 9) 20)), (1, .int (nI k)), (0, .ref (ad 11 0))]) (fun (i : Nat) (M2 : CV) => (mb μ 11 M2)) (fun (i : Nat) (M2 : CV) => i ≤ k ∧ Rw (days V a N P i) N (M2 1) ∧ ∀ q, q ≠ 1 → M2 q = M1 q) (fun (i : Nat) (M2 : CV) => k - i) ?_ 0 M1 ⟨by omega, hw1, fun _ _ => rfl⟩
      intro i M2 hI46 ih46
      try dsimp only at ih46 ⊢
      obtain ⟨hi, hw2, hk2⟩ := hI46
      refine j_iload_n (q := 0) X dX2_pass_46 rfl rfl ?_
      refine j_iload_n (q := 2) X dX2_pass_47 rfl rfl ?_
      refine j_ncmp_ge (tgt := 61) X i k dX2_pass_48 (by decide) rfl rfl (by omega) (by omega) (fun c48 => ?_) (fun c48 => ?_)
      · skip
        rw [show i = k by omega] at hw2
        refine j_aload_n (q := 3) X dX2_pass_61 rfl rfl ?_
        refine j_getRB X oR hinX2 0 (by decide) rfl k7 dX2_pass_62 ?_
        refine j_bipush (v := (nI 8)) X dX2_pass_65 (by decide) ?_
        refine j_ialdB X aR_1 8 rfl (by decide) (by decide) dX2_pass_67 ?_
        rw [hw2.gi]
        refine j_iload_n (q := 1) X dX2_pass_68 rfl rfl ?_
        refine j_isub (v := (nI (dayn V a N P k))) X dX2_pass_69 (by rw [sm_days hN20]; exact sub_add) ?_
        exact j_iret X hr hlk ⟨_, rfl, by rw [Rpas, if_neg (Classical.not_not.mpr ho), if_neg (Int32.not_lt.mpr c26), ix_n (by omega)], fun _ => hm1.now (by rw [Npas, ix_n (by omega)]; exact hw2) hN20 hk2, fun q => absurd hE q⟩ dX2_pass_70
      · skip
        refine j_aload_n (q := 3) X dX2_pass_51 rfl rfl ?_
        refine j_callVv (As := []) X (kX2_day l D ad cs A z μ M2 (days V a N P i) N hw2 (hci.daysk i) a P (hpd.days i)) oR rfl (cwV 0 X.1.2.2.2.2 gX2_pass_X2_day rfl rfl rfl (by decide +kernel) ⟨Nat.le_of_ble_eq_true rfl, Nat.le_of_ble_eq_true rfl⟩) rfl rfl (Nat.le_of_ble_eq_true rfl) dX2_pass_52 (fun μ52 h52 => ?_)
        obtain ⟨M3, rfl, hw3, hk3⟩ := h52
        refine j_iinc (q := 0) (v := (nI (i + 1))) (lv' := [(3, .int (nI (i + 1))), (2, .int (sm (V 9) 20)), (1, .int (nI k)), (0, .ref (ad 11 0))]) X dX2_pass_55 rfl (nI_1 _) (by decide) rfl ?_
        refine j_goto (tgt := 46) X dX2_pass_58 (by decide) ?_
        exact ih46 (i + 1) M3 ⟨by omega, hw3, fun q hq => (hk3 q hq).trans (hk2 q hq)⟩ (by omega)
    · skip
      have hE : ¬ Epas V (nI k) := fun q => q.2 (Int32.not_le.mp c26)
      refine j_bipush (v := (-4)) X dX2_pass_29 (by decide) ?_
      exact j_iret X hr hlk ⟨M, rfl, by rw [Rpas, if_neg (Classical.not_not.mpr ho), if_pos (Int32.not_le.mp c26)], fun q => absurd q hE, fun _ => rfl⟩ dX2_pass_31
  · skip
    have ho : ¬ okD dx 99 := fun q => h6.nf c9 ((in_64 (by decide) (by decide)).mpr q)
    have hE : ¬ Epas V dx := fun q => ho q.1
    refine j_bipush (v := (-2)) X dX2_pass_12 (by decide) ?_
    exact j_iret X hr hlk ⟨M, rfl, by rw [Rpas, if_pos ho], fun q => absurd q hE, fun _ => rfl⟩ dX2_pass_14
