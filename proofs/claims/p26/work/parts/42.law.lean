set_option maxHeartbeats 8000000 in
set_option maxRecDepth 100000 in
theorem law_body {p : Program} {e : Env} {s : State} {m : MethodId} {below : List Frame} {meth : Method} {c : Code} (l : Launch) {D : va_G} {ad bd : Nat → Nat → Nat} {cs : Nat → ClassId} {A B : Nat → Prop} {z : Nat → Nat} {sb L : Nat} {xs : Nat → Int32} (hL : L ≤ 260) (X : PX p s m #[Value.ref sb] c cL_law 5 RL wsL_law room_1 290 7596 D ad bd cs A B z) (hX0 : va_X sb L xs s s.heap) (hbl : sb < s.heap.size) (hbA : ¬ U2 A B sb) (hAe : ∀ q, U2 A B q → s.heap.size ≤ q) (hr : meth.sig.returnType = ret) (hlk : meth.locks = false) : P2 p l e room_1 s m #[Value.ref sb] below meth c 290 7596 (lw_Z below #[Value.ref sb] s) 5 D ad bd cs A B 16 [(2, .ref (bd 10 0)), (1, .ref (ad 10 0)), (0, .ref sb)] [] ((K0, P0), (K0, P0)) := by
  refine p_aload_n (q := 1) X dL_law_16 rfl rfl ?_
  refine p_aload_n (q := 0) X dL_law_17 rfl rfl ?_
  refine p_aload_n (q := 2) X dL_law_18 rfl rfl ?_
  refine p_iconst (v := (nI 0)) X dL_law_19 (by decide) ?_
  refine p_cell X hX0 hbl hbA (by omega) 0 (by omega) (va_cwS 2 X.1.2.2.2.2 gL_law_L_cell rfl rfl rfl (by decide +kernel) ⟨Nat.le_of_ble_eq_true rfl, Nat.le_of_ble_eq_true rfl⟩) (Nat.le_of_ble_eq_true rfl) dL_law_20 (fun x20 => ?_)
  refine p_aload_n (q := 2) X dL_law_23 rfl rfl ?_
  refine p_iconst (v := (nI 1)) X dL_law_24 (by decide) ?_
  refine p_cell X hX0 hbl hbA (by omega) 1 (by omega) (va_cwS 2 X.1.2.2.2.2 gL_law_L_cell rfl rfl rfl (by decide +kernel) ⟨Nat.le_of_ble_eq_true rfl, Nat.le_of_ble_eq_true rfl⟩) (Nat.le_of_ble_eq_true rfl) dL_law_25 (fun x25 => ?_)
  refine p_callS (As := [.ref (ad 10 0), .ref (bd 10 0), .int x20, .int x25]) X (kL_isRead l D ad bd cs A B z K0 P0 P0 x20 x25 0 start_wk) (va_cwS 4 X.1.2.2.2.2 gL_law_L_isRead rfl rfl rfl (by decide +kernel) ⟨Nat.le_of_ble_eq_true rfl, Nat.le_of_ble_eq_true rfl⟩) rfl rfl (Nat.le_of_ble_eq_true rfl) dL_law_28 (fun r28 m28 h28 => ?_)
  obtain ⟨h28, K28, P28, Q28, e28, hk28⟩ := h28
  have e28 := e28.symm
  subst e28
  have h28 : r28 = nI 1 := h28
  subst h28
  refine p_istore_n (lv' := [(3, .int (nI 1)), (2, .ref (bd 10 0)), (1, .ref (ad 10 0)), (0, .ref sb)]) X dL_law_31 rfl (by decide) rfl ?_
  refine p_iconst (v := (nI 2)) X dL_law_32 (by decide) ?_
  refine p_istore (lv' := [(4, .int (nI 2)), (3, .int (nI 1)), (2, .ref (bd 10 0)), (1, .ref (ad 10 0)), (0, .ref sb)]) X dL_law_33 (by decide) rfl ?_
  refine p_lv (lv1 := [(4, .int (nI 2)), (0, .ref sb), (1, .ref (ad 10 0)), (2, .ref (bd 10 0)), (3, .int (nI 1))]) [0, 4, 3, 2, 1] rfl ?_
  refine loop4 (G := P2 p l e _ s m #[Value.ref sb] below meth c 290 7596 _ _ D ad bd cs A B) (pc := 35) (fun (k : Nat) (K : KS) (P : PS) (P1 : PS) => [(4, .int (nI k)), (0, .ref sb), (1, .ref (ad 10 0)), (2, .ref (bd 10 0)), (3, .int (nI 1))]) (fun (k : Nat) (K : KS) (P : PS) (P1 : PS) => ((K, P), (K, P1))) (fun (k : Nat) (K : KS) (P : PS) (P1 : PS) => 2 ≤ k ∧ k ≤ 54 ∧ WK K k) (fun (k : Nat) (K : KS) (P : PS) (P1 : PS) => 54 - k) ?_ 2 K28 P28 Q28 ⟨by omega, by omega, hk28.mono (by omega)⟩
  intro k K P P1 hI35 ih35
  try dsimp only at ih35 ⊢
  obtain ⟨hk2, hk54, hwk⟩ := hI35
  refine p_iload (q := 0) X dL_law_35 rfl ?_
  refine p_bipush (v := (nI 54)) X dL_law_37 (by decide) ?_
  refine p_ncmp_ge (tgt := 96) X k 54 dL_law_39 (by decide) rfl rfl (by omega) (by omega) (fun c39 => ?_) (fun c39 => ?_)
  · skip
    refine p_iload_n (q := 4) X dL_law_96 rfl rfl ?_
    refine p_if_eq (tgt := 125) X dL_law_97 (by decide) (fun c97 => absurd c97 (by decide)) (fun c97 => ?_)
    refine p_aload_n (q := 2) X dL_law_100 rfl rfl ?_
    refine p_callS (As := [.ref (ad 10 0)]) X (kL_isWell l D ad bd cs A B z K K P P1 k hwk (by omega)) (va_cwS 1 X.1.2.2.2.2 gL_law_L_isWell rfl rfl rfl (by decide +kernel) ⟨Nat.le_of_ble_eq_true rfl, Nat.le_of_ble_eq_true rfl⟩) rfl rfl (Nat.le_of_ble_eq_true rfl) dL_law_101 (fun r101 m101 h101 => ?_)
    obtain ⟨h101, e101⟩ := h101
    have e101 := e101.symm
    subst e101
    have h101 : r101 = nI 1 := h101
    subst h101
    refine p_if_eq (tgt := 125) X dL_law_104 (by decide) (fun c104 => absurd c104 (by decide)) (fun c104 => ?_)
    refine p_aload_n (q := 2) X dL_law_107 rfl rfl ?_
    refine p_aload_n (q := 3) X dL_law_108 rfl rfl ?_
    refine p_aload_n (q := 1) X dL_law_109 rfl rfl ?_
    refine p_bipush (v := (nI 54)) X dL_law_110 (by decide) ?_
    refine p_cell X hX0 hbl hbA (by omega) 54 (by omega) (va_cwS 2 X.1.2.2.2.2 gL_law_L_cell rfl rfl rfl (by decide +kernel) ⟨Nat.le_of_ble_eq_true rfl, Nat.le_of_ble_eq_true rfl⟩) (Nat.le_of_ble_eq_true rfl) dL_law_112 (fun x112 => ?_)
    refine p_callS (As := [.ref (ad 10 0), .ref (bd 10 0), .int x112]) X (kL_areAlike l D ad bd cs A B z K P P1 x112) (va_cwS 3 X.1.2.2.2.2 gL_law_L_areAlike rfl rfl rfl (by decide +kernel) ⟨Nat.le_of_ble_eq_true rfl, Nat.le_of_ble_eq_true rfl⟩) rfl rfl (Nat.le_of_ble_eq_true rfl) dL_law_115 (fun r115 m115 h115 => ?_)
    obtain ⟨h115, -⟩ := h115
    have h115 : r115 = nI 1 := h115
    subst h115
    obtain ⟨⟨Ka, Pa⟩, Kb, Pb⟩ := m115
    refine p_if_eq (tgt := 125) X dL_law_118 (by decide) (fun c118 => absurd c118 (by decide)) (fun c118 => ?_)
    refine p_iconst (v := (nI 1)) X dL_law_121 (by decide) ?_
    refine p_goto (tgt := 126) X dL_law_122 (by decide) ?_
    refine fun H locs ls hP hT hS hl => ?_
    refine va_forget (fun q hq => hAe _ (hS.2.2 q hq)) ?_
    refine W.widen (k := 600000) (n := 7302249) (Nat.le_of_ble_eq_true rfl) (Nat.le_of_ble_eq_true rfl) ?_
    exact lw_ret X.1.1 X.1.2.1 hr hlk dL_law_126
  · skip
    refine p_iload_n (q := 4) X dL_law_42 rfl rfl ?_
    refine p_if_eq (tgt := 96) X dL_law_43 (by decide) (fun c43 => absurd c43 (by decide)) (fun c43 => ?_)
    refine p_aload_n (q := 2) X dL_law_46 rfl rfl ?_
    refine p_aload_n (q := 3) X dL_law_47 rfl rfl ?_
    refine p_aload_n (q := 1) X dL_law_48 rfl rfl ?_
    refine p_iload (q := 0) X dL_law_49 rfl ?_
    refine p_cell X hX0 hbl hbA (by omega) k (by omega) (va_cwS 2 X.1.2.2.2.2 gL_law_L_cell rfl rfl rfl (by decide +kernel) ⟨Nat.le_of_ble_eq_true rfl, Nat.le_of_ble_eq_true rfl⟩) (Nat.le_of_ble_eq_true rfl) dL_law_51 (fun x51 => ?_)
    refine p_aload_n (q := 1) X dL_law_54 rfl rfl ?_
    refine p_iload (q := 0) X dL_law_55 rfl ?_
    refine p_iconst (v := (nI 1)) X dL_law_57 (by decide) ?_
    refine p_iadd (v := (nI (k + 1))) X dL_law_58 (nI_add _ _) ?_
    refine p_cell X hX0 hbl hbA (by omega) (k + 1) (by omega) (va_cwS 2 X.1.2.2.2.2 gL_law_L_cell rfl rfl rfl (by decide +kernel) ⟨Nat.le_of_ble_eq_true rfl, Nat.le_of_ble_eq_true rfl⟩) (Nat.le_of_ble_eq_true rfl) dL_law_59 (fun x59 => ?_)
    refine p_iconst (v := (nI 2)) X dL_law_62 (by decide) ?_
    refine p_ishr (v := (x59 >>> ((nI 2) &&& 31))) X dL_law_63 rfl ?_
    refine p_callS (As := [.ref (ad 10 0), .ref (bd 10 0), .int x51, .int (x59 >>> ((nI 2) &&& 31))]) X (kL_isStep l D ad bd cs A B z K P P1 x51 (x59 >>> ((nI 2) &&& 31)) k hwk (by omega)) (va_cwS 4 X.1.2.2.2.2 gL_law_L_isStep rfl rfl rfl (by decide +kernel) ⟨Nat.le_of_ble_eq_true rfl, Nat.le_of_ble_eq_true rfl⟩) rfl rfl (Nat.le_of_ble_eq_true rfl) dL_law_64 (fun r64 m64 h64 => ?_)
    obtain ⟨h64, K64, P64, Q64, e64, hk64⟩ := h64
    have e64 := e64.symm
    subst e64
    have h64 : r64 = nI 1 := h64
    subst h64
    refine p_if_eq (tgt := 88) X dL_law_67 (by decide) (fun c67 => absurd c67 (by decide)) (fun c67 => ?_)
    refine p_iload (q := 0) X dL_law_70 rfl ?_
    refine p_iconst (v := (nI 3)) X dL_law_72 (by decide) ?_
    refine p_irem (v := (nI (k % 3))) X dL_law_73 (by decide) (pk_rem (by omega) (by decide) (by decide)) ?_
    refine p_if_gt (tgt := 84) X dL_law_74 (by decide) (fun c74 => ?_) (fun c74 => ?_)
    · skip
      refine p_iconst (v := (nI 1)) X dL_law_84 (by decide) ?_
      refine p_goto (tgt := 89) X dL_law_85 (by decide) ?_
      refine p_istore_n (lv' := [(3, .int (nI 1)), (4, .int (nI k)), (0, .ref sb), (1, .ref (ad 10 0)), (2, .ref (bd 10 0))]) X dL_law_89 rfl (by decide) rfl ?_
      refine p_iinc (q := 1) (v := (nI (k + 1))) (lv' := [(4, .int (nI (k + 1))), (3, .int (nI 1)), (0, .ref sb), (1, .ref (ad 10 0)), (2, .ref (bd 10 0))]) X dL_law_90 rfl (nI_1 _) (by decide) rfl ?_
      refine p_goto (tgt := 35) X dL_law_93 (by decide) ?_
      refine p_lv (lv1 := [(4, .int (nI (k + 1))), (0, .ref sb), (1, .ref (ad 10 0)), (2, .ref (bd 10 0)), (3, .int (nI 1))]) [0, 2, 3, 4, 1] rfl ?_
      exact ih35 (k + 1) K64 P64 Q64 ⟨by omega, by omega, hk64⟩ (by omega)
    · skip
      refine p_aload_n (q := 2) X dL_law_77 rfl rfl ?_
      refine p_callS (As := [.ref (ad 10 0)]) X (kL_isWell l D ad bd cs A B z K64 K64 P64 Q64 (k + 1) hk64 (by omega)) (va_cwS 1 X.1.2.2.2.2 gL_law_L_isWell rfl rfl rfl (by decide +kernel) ⟨Nat.le_of_ble_eq_true rfl, Nat.le_of_ble_eq_true rfl⟩) rfl rfl (Nat.le_of_ble_eq_true rfl) dL_law_78 (fun r78 m78 h78 => ?_)
      obtain ⟨h78, e78⟩ := h78
      have e78 := e78.symm
      subst e78
      have h78 : r78 = nI 1 := h78
      subst h78
      refine p_if_eq (tgt := 88) X dL_law_81 (by decide) (fun c81 => absurd c81 (by decide)) (fun c81 => ?_)
      refine p_iconst (v := (nI 1)) X dL_law_84 (by decide) ?_
      refine p_goto (tgt := 89) X dL_law_85 (by decide) ?_
      refine p_istore_n (lv' := [(3, .int (nI 1)), (4, .int (nI k)), (0, .ref sb), (1, .ref (ad 10 0)), (2, .ref (bd 10 0))]) X dL_law_89 rfl (by decide) rfl ?_
      refine p_iinc (q := 1) (v := (nI (k + 1))) (lv' := [(4, .int (nI (k + 1))), (3, .int (nI 1)), (0, .ref sb), (1, .ref (ad 10 0)), (2, .ref (bd 10 0))]) X dL_law_90 rfl (nI_1 _) (by decide) rfl ?_
      refine p_goto (tgt := 35) X dL_law_93 (by decide) ?_
      refine p_lv (lv1 := [(4, .int (nI (k + 1))), (0, .ref sb), (1, .ref (ad 10 0)), (2, .ref (bd 10 0)), (3, .int (nI 1))]) [0, 2, 3, 4, 1] rfl ?_
      exact ih35 (k + 1) K64 P64 Q64 ⟨by omega, by omega, hk64⟩ (by omega)
