/-! the law's own small methods -/
/-- a number below n, of v -/
def uq (v : Int32) (n : Nat) : Nat := v.toBitVec.toNat % 2147483648 % n
theorem uq_lt (v : Int32) {n : Nat} (h : 0 < n) : uq v n < n := Nat.mod_lt _ h
set_option maxHeartbeats 4000000 in
set_option maxRecDepth 100000 in
theorem kL_up (l : Launch) (D : va_G) (ad bd : Nat → Nat → Nat) (cs : Nat → ClassId) (A B : Nat → Prop) (z : Nat → Nat) (v : Int32) (n : Nat) (h0 : 0 < n) (hn : n < 2 ^ 31) (μ : CS × CS) : KP l D ad bd cs A B z yL_up wsL_up (rm 0 0) [.int v, .int (nI n)] μ (fun r μ1 => r = nI (uq v n) ∧ μ1 = μ) := by
  refine KP_of (cc := cL_up) (maxL := 2) (ret := (some .int)) (by decide) rfl (Nat.le_of_ble_eq_true rfl) ?_
  intro p e s m args below meth c hr hlk X
  show P2 p l e _ s m args below meth c 0 0 _ 2 D ad bd cs A B 0 [(0, .int v), (1, .int (nI n))] [] μ
  refine p_iload_n (q := 0) X dL_up_0 rfl rfl ?_
  refine p_ldc (v := 2147483647) X (X.1.2.2.2.2 _ (by decide +kernel)) dL_up_1 ?_
  refine p_iand (v := (nI (v.toBitVec.toNat % 2147483648))) X dL_up_3 (pk_and v 31 (by decide)) ?_
  refine p_iload_n (q := 1) X dL_up_4 rfl rfl ?_
  refine p_irem (v := (nI (uq v n))) X dL_up_5 (nI_ne0 h0 hn) (pk_rem (Nat.mod_lt _ (by decide)) h0 hn) ?_
  exact p_iret X hr hlk ⟨rfl, rfl⟩ dL_up_6
set_option maxHeartbeats 4000000 in
set_option maxRecDepth 100000 in
theorem kL_here (l : Launch) (D : va_G) (ad bd : Nat → Nat → Nat) (cs : Nat → ClassId) (A B : Nat → Prop) (z : Nat → Nat) (g : Nat) (hg : g ≤ 7) (x : Int32) (μ : CS × CS) : KP l D ad bd cs A B z yL_here wsL_here (rm 1 21) [.int (nI g), .int x] μ (fun r μ1 => ∃ q, 97 ≤ q ∧ q ≤ 122 ∧ r = nI q ∧ sgn (nI q) = nI g ∧ μ1 = μ) := by
  refine KP_of (cc := cL_here) (maxL := 2) (ret := (some .int)) (by decide) rfl (Nat.le_of_ble_eq_true rfl) ?_
  intro p e s m args below meth c hr hlk X
  show P2 p l e _ s m args below meth c 0 0 _ 2 D ad bd cs A B 0 [(0, .int (nI g)), (1, .int x)] [] μ
  refine p_iload_n (q := 0) X dL_here_0 rfl rfl ?_
  rcases (show g = 0 ∨ g = 1 ∨ g = 2 ∨ g = 3 ∨ g = 4 ∨ g = 5 ∨ g = 6 ∨ g = 7 by omega) with rfl | rfl | rfl | rfl | rfl | rfl | rfl | rfl
  · refine p_tabIn (off := 43) (tgt := 44) X dL_here_1 (by decide) (by decide) (by decide) (by decide) ?_
    refine p_bipush (v := (nI 104)) X dL_here_44 (by decide) ?_
    exact p_iret X hr hlk ⟨104, by decide, by decide, rfl, by decide +kernel, rfl⟩ dL_here_46
  · refine p_tabIn (off := 46) (tgt := 47) X dL_here_1 (by decide) (by decide) (by decide) (by decide) ?_
    refine p_bipush (v := (nI 98)) X dL_here_47 (by decide) ?_
    exact p_iret X hr hlk ⟨98, by decide, by decide, rfl, by decide +kernel, rfl⟩ dL_here_49
  · refine p_tabIn (off := 49) (tgt := 50) X dL_here_1 (by decide) (by decide) (by decide) (by decide) ?_
    refine p_iload_n (q := 1) X dL_here_50 rfl rfl ?_
    refine p_iconst (v := (nI 2)) X dL_here_51 (by decide) ?_
    refine p_callS (As := [.int x, .int (nI 2)]) X (kL_up l D ad bd cs A B z x 2 (by omega) (by omega) μ) (va_cwS 2 X.1.2.2.2.2 gL_here_L_up rfl rfl rfl (by decide +kernel) ⟨Nat.le_of_ble_eq_true rfl, Nat.le_of_ble_eq_true rfl⟩) rfl rfl (Nat.le_of_ble_eq_true rfl) dL_here_52 (fun r52 m52 h52 => ?_)
    obtain ⟨h52, e52⟩ := h52
    have e52 := e52.symm
    subst e52
    subst h52
    have hu52 := uq_lt x (n := 2) (by omega)
    refine p_if_ne (tgt := 63) X dL_here_55 (by decide) (fun c55 => ?_) (fun c55 => ?_)
    · skip
      refine p_bipush (v := (nI 115)) X dL_here_63 (by decide) ?_
      exact p_iret X hr hlk ⟨115, by decide, by decide, rfl, by decide +kernel, rfl⟩ dL_here_65
    · skip
      refine p_bipush (v := (nI 99)) X dL_here_58 (by decide) ?_
      refine p_goto (tgt := 65) X dL_here_60 (by decide) ?_
      exact p_iret X hr hlk ⟨99, by decide, by decide, rfl, by decide +kernel, rfl⟩ dL_here_65
  · refine p_tabIn (off := 65) (tgt := 66) X dL_here_1 (by decide) (by decide) (by decide) (by decide) ?_
    refine p_bipush (v := (nI 100)) X dL_here_66 (by decide) ?_
    exact p_iret X hr hlk ⟨100, by decide, by decide, rfl, by decide +kernel, rfl⟩ dL_here_68
  · refine p_tabIn (off := 68) (tgt := 69) X dL_here_1 (by decide) (by decide) (by decide) (by decide) ?_
    refine p_bipush (v := (nI 102)) X dL_here_69 (by decide) ?_
    exact p_iret X hr hlk ⟨102, by decide, by decide, rfl, by decide +kernel, rfl⟩ dL_here_71
  · refine p_tabIn (off := 71) (tgt := 72) X dL_here_1 (by decide) (by decide) (by decide) (by decide) ?_
    refine p_bipush (v := (nI 108)) X dL_here_72 (by decide) ?_
    exact p_iret X hr hlk ⟨108, by decide, by decide, rfl, by decide +kernel, rfl⟩ dL_here_74
  · refine p_tabIn (off := 74) (tgt := 75) X dL_here_1 (by decide) (by decide) (by decide) (by decide) ?_
    refine p_bipush (v := (nI 109)) X dL_here_75 (by decide) ?_
    exact p_iret X hr hlk ⟨109, by decide, by decide, rfl, by decide +kernel, rfl⟩ dL_here_77
  · refine p_tabOut (tgt := 78) X dL_here_1 (by decide) (by decide) ?_
    refine p_iload_n (q := 1) X dL_here_78 rfl rfl ?_
    refine p_iconst (v := (nI 2)) X dL_here_79 (by decide) ?_
    refine p_callS (As := [.int x, .int (nI 2)]) X (kL_up l D ad bd cs A B z x 2 (by omega) (by omega) μ) (va_cwS 2 X.1.2.2.2.2 gL_here_L_up rfl rfl rfl (by decide +kernel) ⟨Nat.le_of_ble_eq_true rfl, Nat.le_of_ble_eq_true rfl⟩) rfl rfl (Nat.le_of_ble_eq_true rfl) dL_here_80 (fun r80 m80 h80 => ?_)
    obtain ⟨h80, e80⟩ := h80
    have e80 := e80.symm
    subst e80
    subst h80
    have hu80 := uq_lt x (n := 2) (by omega)
    refine p_if_ne (tgt := 91) X dL_here_83 (by decide) (fun c83 => ?_) (fun c83 => ?_)
    · skip
      refine p_bipush (v := (nI 105)) X dL_here_91 (by decide) ?_
      exact p_iret X hr hlk ⟨105, by decide, by decide, rfl, by decide +kernel, rfl⟩ dL_here_93
    · skip
      refine p_bipush (v := (nI 97)) X dL_here_86 (by decide) ?_
      refine p_goto (tgt := 93) X dL_here_88 (by decide) ?_
      exact p_iret X hr hlk ⟨97, by decide, by decide, rfl, by decide +kernel, rfl⟩ dL_here_93
set_option maxHeartbeats 4000000 in
set_option maxRecDepth 100000 in
theorem kL_there (l : Launch) (D : va_G) (ad bd : Nat → Nat → Nat) (cs : Nat → ClassId) (A B : Nat → Prop) (z : Nat → Nat) (g : Nat) (hg : g ≤ 7) (x : Int32) (μ : CS × CS) : KP l D ad bd cs A B z yL_there wsL_there (rm 1 21) [.int (nI g), .int x] μ (fun r μ1 => ∃ q, 97 ≤ q ∧ q ≤ 122 ∧ r = nI q ∧ sgn (nI q) = nI g ∧ μ1 = μ) := by
  refine KP_of (cc := cL_there) (maxL := 2) (ret := (some .int)) (by decide) rfl (Nat.le_of_ble_eq_true rfl) ?_
  intro p e s m args below meth c hr hlk X
  show P2 p l e _ s m args below meth c 0 0 _ 2 D ad bd cs A B 0 [(0, .int (nI g)), (1, .int x)] [] μ
  refine p_iload_n (q := 0) X dL_there_0 rfl rfl ?_
  rcases (show g = 0 ∨ g = 1 ∨ g = 2 ∨ g = 3 ∨ g = 4 ∨ g = 5 ∨ g = 6 ∨ g = 7 by omega) with rfl | rfl | rfl | rfl | rfl | rfl | rfl | rfl
  · refine p_tabIn (off := 43) (tgt := 44) X dL_there_1 (by decide) (by decide) (by decide) (by decide) ?_
    refine p_bipush (v := (nI 121)) X dL_there_44 (by decide) ?_
    exact p_iret X hr hlk ⟨121, by decide, by decide, rfl, by decide +kernel, rfl⟩ dL_there_46
  · refine p_tabIn (off := 46) (tgt := 47) X dL_there_1 (by decide) (by decide) (by decide) (by decide) ?_
    refine p_bipush (v := (nI 112)) X dL_there_47 (by decide) ?_
    exact p_iret X hr hlk ⟨112, by decide, by decide, rfl, by decide +kernel, rfl⟩ dL_there_49
  · refine p_tabIn (off := 49) (tgt := 50) X dL_there_1 (by decide) (by decide) (by decide) (by decide) ?_
    refine p_iload_n (q := 1) X dL_there_50 rfl rfl ?_
    refine p_iconst (v := (nI 3)) X dL_there_51 (by decide) ?_
    refine p_callS (As := [.int x, .int (nI 3)]) X (kL_up l D ad bd cs A B z x 3 (by omega) (by omega) μ) (va_cwS 2 X.1.2.2.2.2 gL_there_L_up rfl rfl rfl (by decide +kernel) ⟨Nat.le_of_ble_eq_true rfl, Nat.le_of_ble_eq_true rfl⟩) rfl rfl (Nat.le_of_ble_eq_true rfl) dL_there_52 (fun r52 m52 h52 => ?_)
    obtain ⟨h52, e52⟩ := h52
    have e52 := e52.symm
    subst e52
    subst h52
    have hu52 := uq_lt x (n := 3) (by omega)
    refine p_if_ne (tgt := 63) X dL_there_55 (by decide) (fun c55 => ?_) (fun c55 => ?_)
    · skip
      refine p_iload_n (q := 1) X dL_there_63 rfl rfl ?_
      refine p_iconst (v := (nI 3)) X dL_there_64 (by decide) ?_
      refine p_callS (As := [.int x, .int (nI 3)]) X (kL_up l D ad bd cs A B z x 3 (by omega) (by omega) μ) (va_cwS 2 X.1.2.2.2.2 gL_there_L_up rfl rfl rfl (by decide +kernel) ⟨Nat.le_of_ble_eq_true rfl, Nat.le_of_ble_eq_true rfl⟩) rfl rfl (Nat.le_of_ble_eq_true rfl) dL_there_65 (fun r65 m65 h65 => ?_)
      obtain ⟨h65, e65⟩ := h65
      have e65 := e65.symm
      subst e65
      subst h65
      have hu65 := uq_lt x (n := 3) (by omega)
      refine p_iconst (v := (nI 1)) X dL_there_68 (by decide) ?_
      refine p_ncmp_ne (tgt := 77) X (uq x 3) 1 dL_there_69 (by decide) rfl rfl (by omega) (by omega) (fun c69 => ?_) (fun c69 => ?_)
      · skip
        refine p_bipush (v := (nI 106)) X dL_there_77 (by decide) ?_
        exact p_iret X hr hlk ⟨106, by decide, by decide, rfl, by decide +kernel, rfl⟩ dL_there_79
      · skip
        refine p_bipush (v := (nI 120)) X dL_there_72 (by decide) ?_
        refine p_goto (tgt := 79) X dL_there_74 (by decide) ?_
        exact p_iret X hr hlk ⟨120, by decide, by decide, rfl, by decide +kernel, rfl⟩ dL_there_79
    · skip
      refine p_bipush (v := (nI 113)) X dL_there_58 (by decide) ?_
      refine p_goto (tgt := 79) X dL_there_60 (by decide) ?_
      exact p_iret X hr hlk ⟨113, by decide, by decide, rfl, by decide +kernel, rfl⟩ dL_there_79
  · refine p_tabIn (off := 79) (tgt := 80) X dL_there_1 (by decide) (by decide) (by decide) (by decide) ?_
    refine p_bipush (v := (nI 116)) X dL_there_80 (by decide) ?_
    exact p_iret X hr hlk ⟨116, by decide, by decide, rfl, by decide +kernel, rfl⟩ dL_there_82
  · refine p_tabIn (off := 82) (tgt := 83) X dL_there_1 (by decide) (by decide) (by decide) (by decide) ?_
    refine p_iload_n (q := 1) X dL_there_83 rfl rfl ?_
    refine p_iconst (v := (nI 2)) X dL_there_84 (by decide) ?_
    refine p_callS (As := [.int x, .int (nI 2)]) X (kL_up l D ad bd cs A B z x 2 (by omega) (by omega) μ) (va_cwS 2 X.1.2.2.2.2 gL_there_L_up rfl rfl rfl (by decide +kernel) ⟨Nat.le_of_ble_eq_true rfl, Nat.le_of_ble_eq_true rfl⟩) rfl rfl (Nat.le_of_ble_eq_true rfl) dL_there_85 (fun r85 m85 h85 => ?_)
    obtain ⟨h85, e85⟩ := h85
    have e85 := e85.symm
    subst e85
    subst h85
    have hu85 := uq_lt x (n := 2) (by omega)
    refine p_if_ne (tgt := 96) X dL_there_88 (by decide) (fun c88 => ?_) (fun c88 => ?_)
    · skip
      refine p_bipush (v := (nI 118)) X dL_there_96 (by decide) ?_
      exact p_iret X hr hlk ⟨118, by decide, by decide, rfl, by decide +kernel, rfl⟩ dL_there_98
    · skip
      refine p_bipush (v := (nI 119)) X dL_there_91 (by decide) ?_
      refine p_goto (tgt := 98) X dL_there_93 (by decide) ?_
      exact p_iret X hr hlk ⟨119, by decide, by decide, rfl, by decide +kernel, rfl⟩ dL_there_98
  · refine p_tabIn (off := 98) (tgt := 99) X dL_there_1 (by decide) (by decide) (by decide) (by decide) ?_
    refine p_bipush (v := (nI 114)) X dL_there_99 (by decide) ?_
    exact p_iret X hr hlk ⟨114, by decide, by decide, rfl, by decide +kernel, rfl⟩ dL_there_101
  · refine p_tabIn (off := 101) (tgt := 102) X dL_there_1 (by decide) (by decide) (by decide) (by decide) ?_
    refine p_bipush (v := (nI 110)) X dL_there_102 (by decide) ?_
    exact p_iret X hr hlk ⟨110, by decide, by decide, rfl, by decide +kernel, rfl⟩ dL_there_104
  · refine p_tabOut (tgt := 105) X dL_there_1 (by decide) (by decide) ?_
    refine p_iload_n (q := 1) X dL_there_105 rfl rfl ?_
    refine p_iconst (v := (nI 3)) X dL_there_106 (by decide) ?_
    refine p_callS (As := [.int x, .int (nI 3)]) X (kL_up l D ad bd cs A B z x 3 (by omega) (by omega) μ) (va_cwS 2 X.1.2.2.2.2 gL_there_L_up rfl rfl rfl (by decide +kernel) ⟨Nat.le_of_ble_eq_true rfl, Nat.le_of_ble_eq_true rfl⟩) rfl rfl (Nat.le_of_ble_eq_true rfl) dL_there_107 (fun r107 m107 h107 => ?_)
    obtain ⟨h107, e107⟩ := h107
    have e107 := e107.symm
    subst e107
    subst h107
    have hu107 := uq_lt x (n := 3) (by omega)
    refine p_if_ne (tgt := 118) X dL_there_110 (by decide) (fun c110 => ?_) (fun c110 => ?_)
    · skip
      refine p_iload_n (q := 1) X dL_there_118 rfl rfl ?_
      refine p_iconst (v := (nI 3)) X dL_there_119 (by decide) ?_
      refine p_callS (As := [.int x, .int (nI 3)]) X (kL_up l D ad bd cs A B z x 3 (by omega) (by omega) μ) (va_cwS 2 X.1.2.2.2.2 gL_there_L_up rfl rfl rfl (by decide +kernel) ⟨Nat.le_of_ble_eq_true rfl, Nat.le_of_ble_eq_true rfl⟩) rfl rfl (Nat.le_of_ble_eq_true rfl) dL_there_120 (fun r120 m120 h120 => ?_)
      obtain ⟨h120, e120⟩ := h120
      have e120 := e120.symm
      subst e120
      subst h120
      have hu120 := uq_lt x (n := 3) (by omega)
      refine p_iconst (v := (nI 1)) X dL_there_123 (by decide) ?_
      refine p_ncmp_ne (tgt := 132) X (uq x 3) 1 dL_there_124 (by decide) rfl rfl (by omega) (by omega) (fun c124 => ?_) (fun c124 => ?_)
      · skip
        refine p_bipush (v := (nI 117)) X dL_there_132 (by decide) ?_
        exact p_iret X hr hlk ⟨117, by decide, by decide, rfl, by decide +kernel, rfl⟩ dL_there_134
      · skip
        refine p_bipush (v := (nI 111)) X dL_there_127 (by decide) ?_
        refine p_goto (tgt := 134) X dL_there_129 (by decide) ?_
        exact p_iret X hr hlk ⟨111, by decide, by decide, rfl, by decide +kernel, rfl⟩ dL_there_134
    · skip
      refine p_bipush (v := (nI 101)) X dL_there_113 (by decide) ?_
      refine p_goto (tgt := 134) X dL_there_115 (by decide) ?_
      exact p_iret X hr hlk ⟨101, by decide, by decide, rfl, by decide +kernel, rfl⟩ dL_there_134
