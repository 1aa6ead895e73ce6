def gX2 (h0 q1 q2 q3 q5 q6 q7 q10 q11 q12 : Nat) (k : Nat) : Nat := match k with
  | 0 => h0
  | 1 => q1
  | 2 => q2
  | 3 => q3
  | 5 => q5
  | 6 => q6
  | 7 => q7
  | 10 => q10
  | 11 => q11
  | _ => q12
set_option maxHeartbeats 4000000 in
set_option maxRecDepth 100000 in
theorem kX2_init (l : Launch) (D : va_G) (cs : Nat → ClassId) (h0 : Nat) (sz : Nat) : Met l yX2_init wsX2_init ({ frames := 1, cells := 9, slots := 3372, locals := 12 }) (va_Pc [.ref h0] (fun U => U.heap.size = sz ∧ va_P D vwCl [(h0, .inr (2, fr2))] U.heap ∧ va_K D vwCl (tyl cs) U ∧ va_D (fun _ => True) [(h0, .inr (2, fr2))])) (va_Qv (fun (g : Nat → Nat) => g 0 = h0) (fun (g : Nat → Nat) (t : State) => va_P D vwCl (wR g cs (frR 12)) t.heap ∧ va_D (va_A [(h0, .inr (2, fr2))] sz) (wR g cs (frR 12))) (va_A [(h0, .inr (2, fr2))] sz)) 9 3372 (va_A [(h0, .inr (2, fr2))] sz) := by
  refine Met.ofW (cc := cX2_init) (maxL := 2) (ret := none) (by decide) rfl ?_
  intro p e s m args below meth c s₁ B hml hv
  obtain ⟨rfl, hsz, hP, hK, hD0⟩ := hv
  have hx := B.exec
  have hb := B.bytes
  have hr := B.returns
  have hts := atoms_spec (ws := wsX2_init) B.pre
  have hown : s.vm.findClass RX2 = some m.cls := findClass_of_methodNamed B.named
  have hlocks := B.notSynchronized
  have hin2 : meth.name = "<init>" := (name_of_methodNamed B.named B.method).1
  have hinX2 : ∀ w ∈ wsX20, w ∈ wsX2_init := by decide +kernel
  subst hsz
  have hD := hD0.self (sz := s.heap.size)
  generalize hAe : va_A [(h0, .inr (2, fr2))] s.heap.size = A at hD ⊢
  have hA : ∀ q : Nat, s.heap.size ≤ q → A q := fun q h => by rw [← hAe]; exact Or.inr h
  have hS : va_S A s.heap s.heap [] := va_S.rf
  have hP : va_P D vwCl [(h0, .inr (2, fr2))] s.heap := hP
  have hl := lv_entry ([.ref h0]) (n := 2) (Nat.le_of_ble_eq_true rfl)
  rw [lg_entry_eq]
  generalize (lg_sl ([.ref h0]) ++ List.replicate (2 - (lg_sl ([.ref h0])).length) Slot.unset).toArray = ls at hl ⊢
  have hl : lv_has ls 2 [(0, .ref h0)] := hl
  refine lv_aload_n hx hb dX2_init_0 rfl (lv_at hl 0 rfl) ?_
  refine W.objInit hx hb hown (hts (.methodLink RX2 1 objectInit) (by decide +kernel)) (hts (.instanceMethod objectInit) (by decide +kernel)) (hts (.code objectInit ⟨#[0xb1]⟩ 1 none) (by decide +kernel)) rfl (by rw [hml]; exact hl.1) rfl dX2_init_1 (Nat.le_of_ble_eq_true rfl) (Nat.le_of_ble_eq_true rfl) ?_
  refine W.eq (g2 := F0 m 4 ls []) rfl ?_
  refine lv_aload_n hx hb dX2_init_4 rfl (lv_at hl 0 rfl) ?_
  refine lv_sipush (v := nI 322) hx hb dX2_init_5 (by decide) ?_
  refine va_newa (atype := .int) (a0 := (322, .inl (fun _ => (0 : Int32)))) hx hb (hts (.arrayClass .int) (by decide +kernel)) rfl hK hP hD hS hA (fun _ => rfl) (nI_pos (by decide)) (nI_clamp (by decide)) (Nat.le_of_ble_eq_true rfl) (Nat.le_of_ble_eq_true rfl) (Nat.le_of_ble_eq_true rfl) dX2_init_8 (fun q8 c8 H hK8 hP hD hS => ?_)
  have ec8 := cls_eq (t := 0) hK8 rfl
  subst ec8
  have hP : va_P D vwCl [(h0, .inr (2, [.null, .null, .null, .int 0, .null, .null, .null, .int 0, .int 0, .null, .null, .null, .int 0])), (q8, .inl (cs 0, 322, .inl (fun _ => (0 : Int32))))] H := hP
  have hD : va_D A [(h0, .inr (2, [.null, .null, .null, .int 0, .null, .null, .null, .int 0, .int 0, .null, .null, .null, .int 0])), (q8, .inl (cs 0, 322, .inl (fun _ => (0 : Int32))))] := hD
  refine va_putF (D := D) (ci := 2) (v := .ref q8) (ty := .array .int) (C := RX2) (T := TX2) (N := 13) hx hb hts hinX2 tyX2 tyX2_ok nmX2 hown hK hP hD hS 0 rfl rfl 0 (by decide) (hts (.fieldLink RX2 7 "PunCourtsModel" "all" "[I") (by decide +kernel)) (fun _ h9 => h9) rfl hin2 rfl (by decide +kernel) rfl rfl (Nat.le_of_ble_eq_true rfl) dX2_init_10 (fun H locs hP hD hS => ?_)
  have hP : va_P D vwCl [(h0, .inr (2, [.ref q8, .null, .null, .int 0, .null, .null, .null, .int 0, .int 0, .null, .null, .null, .int 0])), (q8, .inl (cs 0, 322, .inl (fun _ => (0 : Int32))))] H := hP
  have hD : va_D A [(h0, .inr (2, [.ref q8, .null, .null, .int 0, .null, .null, .null, .int 0, .int 0, .null, .null, .null, .int 0])), (q8, .inl (cs 0, 322, .inl (fun _ => (0 : Int32))))] := hD
  refine lv_aload_n hx hb dX2_init_13 rfl (lv_at hl 0 rfl) ?_
  refine lv_sipush (v := nI 322) hx hb dX2_init_14 (by decide) ?_
  refine va_newa (atype := .int) (a0 := (322, .inl (fun _ => (0 : Int32)))) hx hb (hts (.arrayClass .int) (by decide +kernel)) rfl hK hP hD hS hA (fun _ => rfl) (nI_pos (by decide)) (nI_clamp (by decide)) (Nat.le_of_ble_eq_true rfl) (Nat.le_of_ble_eq_true rfl) (Nat.le_of_ble_eq_true rfl) dX2_init_17 (fun q17 c17 H hK17 hP hD hS => ?_)
  have ec17 := cls_eq (t := 0) hK17 rfl
  subst ec17
  have hP : va_P D vwCl [(h0, .inr (2, [.ref q8, .null, .null, .int 0, .null, .null, .null, .int 0, .int 0, .null, .null, .null, .int 0])), (q8, .inl (cs 0, 322, .inl (fun _ => (0 : Int32)))), (q17, .inl (cs 0, 322, .inl (fun _ => (0 : Int32))))] H := hP
  have hD : va_D A [(h0, .inr (2, [.ref q8, .null, .null, .int 0, .null, .null, .null, .int 0, .int 0, .null, .null, .null, .int 0])), (q8, .inl (cs 0, 322, .inl (fun _ => (0 : Int32)))), (q17, .inl (cs 0, 322, .inl (fun _ => (0 : Int32))))] := hD
  refine va_putF (D := D) (ci := 2) (v := .ref q17) (ty := .array .int) (C := RX2) (T := TX2) (N := 13) hx hb hts hinX2 tyX2 tyX2_ok nmX2 hown hK hP hD hS 0 rfl rfl 1 (by decide) (hts (.fieldLink RX2 13 "PunCourtsModel" "kept" "[I") (by decide +kernel)) (fun _ h9 => h9) rfl hin2 rfl (by decide +kernel) rfl rfl (Nat.le_of_ble_eq_true rfl) dX2_init_19 (fun H locs hP hD hS => ?_)
  have hP : va_P D vwCl [(h0, .inr (2, [.ref q8, .ref q17, .null, .int 0, .null, .null, .null, .int 0, .int 0, .null, .null, .null, .int 0])), (q8, .inl (cs 0, 322, .inl (fun _ => (0 : Int32)))), (q17, .inl (cs 0, 322, .inl (fun _ => (0 : Int32))))] H := hP
  have hD : va_D A [(h0, .inr (2, [.ref q8, .ref q17, .null, .int 0, .null, .null, .null, .int 0, .int 0, .null, .null, .null, .int 0])), (q8, .inl (cs 0, 322, .inl (fun _ => (0 : Int32)))), (q17, .inl (cs 0, 322, .inl (fun _ => (0 : Int32))))] := hD
  refine lv_aload_n hx hb dX2_init_22 rfl (lv_at hl 0 rfl) ?_
  refine lv_sipush (v := nI 1932) hx hb dX2_init_23 (by decide) ?_
  refine va_newa (atype := .int) (a0 := (1932, .inl (fun _ => (0 : Int32)))) hx hb (hts (.arrayClass .int) (by decide +kernel)) rfl hK hP hD hS hA (fun _ => rfl) (nI_pos (by decide)) (nI_clamp (by decide)) (Nat.le_of_ble_eq_true rfl) (Nat.le_of_ble_eq_true rfl) (Nat.le_of_ble_eq_true rfl) dX2_init_26 (fun q26 c26 H hK26 hP hD hS => ?_)
  have ec26 := cls_eq (t := 0) hK26 rfl
  subst ec26
  have hP : va_P D vwCl [(h0, .inr (2, [.ref q8, .ref q17, .null, .int 0, .null, .null, .null, .int 0, .int 0, .null, .null, .null, .int 0])), (q8, .inl (cs 0, 322, .inl (fun _ => (0 : Int32)))), (q17, .inl (cs 0, 322, .inl (fun _ => (0 : Int32)))), (q26, .inl (cs 0, 1932, .inl (fun _ => (0 : Int32))))] H := hP
  have hD : va_D A [(h0, .inr (2, [.ref q8, .ref q17, .null, .int 0, .null, .null, .null, .int 0, .int 0, .null, .null, .null, .int 0])), (q8, .inl (cs 0, 322, .inl (fun _ => (0 : Int32)))), (q17, .inl (cs 0, 322, .inl (fun _ => (0 : Int32)))), (q26, .inl (cs 0, 1932, .inl (fun _ => (0 : Int32))))] := hD
  refine va_putF (D := D) (ci := 2) (v := .ref q26) (ty := .array .int) (C := RX2) (T := TX2) (N := 13) hx hb hts hinX2 tyX2 tyX2_ok nmX2 hown hK hP hD hS 0 rfl rfl 2 (by decide) (hts (.fieldLink RX2 16 "PunCourtsModel" "history" "[I") (by decide +kernel)) (fun _ h9 => h9) rfl hin2 rfl (by decide +kernel) rfl rfl (Nat.le_of_ble_eq_true rfl) dX2_init_28 (fun H locs hP hD hS => ?_)
  have hP : va_P D vwCl [(h0, .inr (2, [.ref q8, .ref q17, .ref q26, .int 0, .null, .null, .null, .int 0, .int 0, .null, .null, .null, .int 0])), (q8, .inl (cs 0, 322, .inl (fun _ => (0 : Int32)))), (q17, .inl (cs 0, 322, .inl (fun _ => (0 : Int32)))), (q26, .inl (cs 0, 1932, .inl (fun _ => (0 : Int32))))] H := hP
  have hD : va_D A [(h0, .inr (2, [.ref q8, .ref q17, .ref q26, .int 0, .null, .null, .null, .int 0, .int 0, .null, .null, .null, .int 0])), (q8, .inl (cs 0, 322, .inl (fun _ => (0 : Int32)))), (q17, .inl (cs 0, 322, .inl (fun _ => (0 : Int32)))), (q26, .inl (cs 0, 1932, .inl (fun _ => (0 : Int32))))] := hD
  refine lv_aload_n hx hb dX2_init_31 rfl (lv_at hl 0 rfl) ?_
  refine lv_sipush (v := nI 644) hx hb dX2_init_32 (by decide) ?_
  refine va_newa (atype := .int) (a0 := (644, .inl (fun _ => (0 : Int32)))) hx hb (hts (.arrayClass .int) (by decide +kernel)) rfl hK hP hD hS hA (fun _ => rfl) (nI_pos (by decide)) (nI_clamp (by decide)) (Nat.le_of_ble_eq_true rfl) (Nat.le_of_ble_eq_true rfl) (Nat.le_of_ble_eq_true rfl) dX2_init_35 (fun q35 c35 H hK35 hP hD hS => ?_)
  have ec35 := cls_eq (t := 0) hK35 rfl
  subst ec35
  have hP : va_P D vwCl [(h0, .inr (2, [.ref q8, .ref q17, .ref q26, .int 0, .null, .null, .null, .int 0, .int 0, .null, .null, .null, .int 0])), (q8, .inl (cs 0, 322, .inl (fun _ => (0 : Int32)))), (q17, .inl (cs 0, 322, .inl (fun _ => (0 : Int32)))), (q26, .inl (cs 0, 1932, .inl (fun _ => (0 : Int32)))), (q35, .inl (cs 0, 644, .inl (fun _ => (0 : Int32))))] H := hP
  have hD : va_D A [(h0, .inr (2, [.ref q8, .ref q17, .ref q26, .int 0, .null, .null, .null, .int 0, .int 0, .null, .null, .null, .int 0])), (q8, .inl (cs 0, 322, .inl (fun _ => (0 : Int32)))), (q17, .inl (cs 0, 322, .inl (fun _ => (0 : Int32)))), (q26, .inl (cs 0, 1932, .inl (fun _ => (0 : Int32)))), (q35, .inl (cs 0, 644, .inl (fun _ => (0 : Int32))))] := hD
  refine va_putF (D := D) (ci := 2) (v := .ref q35) (ty := .array .int) (C := RX2) (T := TX2) (N := 13) hx hb hts hinX2 tyX2 tyX2_ok nmX2 hown hK hP hD hS 0 rfl rfl 4 (by decide) (hts (.fieldLink RX2 19 "PunCourtsModel" "slots" "[I") (by decide +kernel)) (fun _ h9 => h9) rfl hin2 rfl (by decide +kernel) rfl rfl (Nat.le_of_ble_eq_true rfl) dX2_init_37 (fun H locs hP hD hS => ?_)
  have hP : va_P D vwCl [(h0, .inr (2, [.ref q8, .ref q17, .ref q26, .int 0, .ref q35, .null, .null, .int 0, .int 0, .null, .null, .null, .int 0])), (q8, .inl (cs 0, 322, .inl (fun _ => (0 : Int32)))), (q17, .inl (cs 0, 322, .inl (fun _ => (0 : Int32)))), (q26, .inl (cs 0, 1932, .inl (fun _ => (0 : Int32)))), (q35, .inl (cs 0, 644, .inl (fun _ => (0 : Int32))))] H := hP
  have hD : va_D A [(h0, .inr (2, [.ref q8, .ref q17, .ref q26, .int 0, .ref q35, .null, .null, .int 0, .int 0, .null, .null, .null, .int 0])), (q8, .inl (cs 0, 322, .inl (fun _ => (0 : Int32)))), (q17, .inl (cs 0, 322, .inl (fun _ => (0 : Int32)))), (q26, .inl (cs 0, 1932, .inl (fun _ => (0 : Int32)))), (q35, .inl (cs 0, 644, .inl (fun _ => (0 : Int32))))] := hD
  refine lv_aload_n hx hb dX2_init_40 rfl (lv_at hl 0 rfl) ?_
  refine lv_iconst (v := nI 2) hx hb dX2_init_41 (by decide) ?_
  refine va_newa (atype := .int) (a0 := (2, .inl (fun _ => (0 : Int32)))) hx hb (hts (.arrayClass .int) (by decide +kernel)) rfl hK hP hD hS hA (fun _ => rfl) (nI_pos (by decide)) (nI_clamp (by decide)) (Nat.le_of_ble_eq_true rfl) (Nat.le_of_ble_eq_true rfl) (Nat.le_of_ble_eq_true rfl) dX2_init_42 (fun q42 c42 H hK42 hP hD hS => ?_)
  have ec42 := cls_eq (t := 0) hK42 rfl
  subst ec42
  have hP : va_P D vwCl [(h0, .inr (2, [.ref q8, .ref q17, .ref q26, .int 0, .ref q35, .null, .null, .int 0, .int 0, .null, .null, .null, .int 0])), (q8, .inl (cs 0, 322, .inl (fun _ => (0 : Int32)))), (q17, .inl (cs 0, 322, .inl (fun _ => (0 : Int32)))), (q26, .inl (cs 0, 1932, .inl (fun _ => (0 : Int32)))), (q35, .inl (cs 0, 644, .inl (fun _ => (0 : Int32)))), (q42, .inl (cs 0, 2, .inl (fun _ => (0 : Int32))))] H := hP
  have hD : va_D A [(h0, .inr (2, [.ref q8, .ref q17, .ref q26, .int 0, .ref q35, .null, .null, .int 0, .int 0, .null, .null, .null, .int 0])), (q8, .inl (cs 0, 322, .inl (fun _ => (0 : Int32)))), (q17, .inl (cs 0, 322, .inl (fun _ => (0 : Int32)))), (q26, .inl (cs 0, 1932, .inl (fun _ => (0 : Int32)))), (q35, .inl (cs 0, 644, .inl (fun _ => (0 : Int32)))), (q42, .inl (cs 0, 2, .inl (fun _ => (0 : Int32))))] := hD
  refine va_putF (D := D) (ci := 2) (v := .ref q42) (ty := .array .int) (C := RX2) (T := TX2) (N := 13) hx hb hts hinX2 tyX2 tyX2_ok nmX2 hown hK hP hD hS 0 rfl rfl 5 (by decide) (hts (.fieldLink RX2 22 "PunCourtsModel" "isSaved" "[I") (by decide +kernel)) (fun _ h9 => h9) rfl hin2 rfl (by decide +kernel) rfl rfl (Nat.le_of_ble_eq_true rfl) dX2_init_44 (fun H locs hP hD hS => ?_)
  have hP : va_P D vwCl [(h0, .inr (2, [.ref q8, .ref q17, .ref q26, .int 0, .ref q35, .ref q42, .null, .int 0, .int 0, .null, .null, .null, .int 0])), (q8, .inl (cs 0, 322, .inl (fun _ => (0 : Int32)))), (q17, .inl (cs 0, 322, .inl (fun _ => (0 : Int32)))), (q26, .inl (cs 0, 1932, .inl (fun _ => (0 : Int32)))), (q35, .inl (cs 0, 644, .inl (fun _ => (0 : Int32)))), (q42, .inl (cs 0, 2, .inl (fun _ => (0 : Int32))))] H := hP
  have hD : va_D A [(h0, .inr (2, [.ref q8, .ref q17, .ref q26, .int 0, .ref q35, .ref q42, .null, .int 0, .int 0, .null, .null, .null, .int 0])), (q8, .inl (cs 0, 322, .inl (fun _ => (0 : Int32)))), (q17, .inl (cs 0, 322, .inl (fun _ => (0 : Int32)))), (q26, .inl (cs 0, 1932, .inl (fun _ => (0 : Int32)))), (q35, .inl (cs 0, 644, .inl (fun _ => (0 : Int32)))), (q42, .inl (cs 0, 2, .inl (fun _ => (0 : Int32))))] := hD
  refine lv_aload_n hx hb dX2_init_47 rfl (lv_at hl 0 rfl) ?_
  refine lv_bipush (v := nI 60) hx hb dX2_init_48 (by decide) ?_
  refine va_newa (atype := .int) (a0 := (60, .inl (fun _ => (0 : Int32)))) hx hb (hts (.arrayClass .int) (by decide +kernel)) rfl hK hP hD hS hA (fun _ => rfl) (nI_pos (by decide)) (nI_clamp (by decide)) (Nat.le_of_ble_eq_true rfl) (Nat.le_of_ble_eq_true rfl) (Nat.le_of_ble_eq_true rfl) dX2_init_50 (fun q50 c50 H hK50 hP hD hS => ?_)
  have ec50 := cls_eq (t := 0) hK50 rfl
  subst ec50
  have hP : va_P D vwCl [(h0, .inr (2, [.ref q8, .ref q17, .ref q26, .int 0, .ref q35, .ref q42, .null, .int 0, .int 0, .null, .null, .null, .int 0])), (q8, .inl (cs 0, 322, .inl (fun _ => (0 : Int32)))), (q17, .inl (cs 0, 322, .inl (fun _ => (0 : Int32)))), (q26, .inl (cs 0, 1932, .inl (fun _ => (0 : Int32)))), (q35, .inl (cs 0, 644, .inl (fun _ => (0 : Int32)))), (q42, .inl (cs 0, 2, .inl (fun _ => (0 : Int32)))), (q50, .inl (cs 0, 60, .inl (fun _ => (0 : Int32))))] H := hP
  have hD : va_D A [(h0, .inr (2, [.ref q8, .ref q17, .ref q26, .int 0, .ref q35, .ref q42, .null, .int 0, .int 0, .null, .null, .null, .int 0])), (q8, .inl (cs 0, 322, .inl (fun _ => (0 : Int32)))), (q17, .inl (cs 0, 322, .inl (fun _ => (0 : Int32)))), (q26, .inl (cs 0, 1932, .inl (fun _ => (0 : Int32)))), (q35, .inl (cs 0, 644, .inl (fun _ => (0 : Int32)))), (q42, .inl (cs 0, 2, .inl (fun _ => (0 : Int32)))), (q50, .inl (cs 0, 60, .inl (fun _ => (0 : Int32))))] := hD
  refine va_putF (D := D) (ci := 2) (v := .ref q50) (ty := .array .int) (C := RX2) (T := TX2) (N := 13) hx hb hts hinX2 tyX2 tyX2_ok nmX2 hown hK hP hD hS 0 rfl rfl 6 (by decide) (hts (.fieldLink RX2 25 "PunCourtsModel" "text" "[I") (by decide +kernel)) (fun _ h9 => h9) rfl hin2 rfl (by decide +kernel) rfl rfl (Nat.le_of_ble_eq_true rfl) dX2_init_52 (fun H locs hP hD hS => ?_)
  have hP : va_P D vwCl [(h0, .inr (2, [.ref q8, .ref q17, .ref q26, .int 0, .ref q35, .ref q42, .ref q50, .int 0, .int 0, .null, .null, .null, .int 0])), (q8, .inl (cs 0, 322, .inl (fun _ => (0 : Int32)))), (q17, .inl (cs 0, 322, .inl (fun _ => (0 : Int32)))), (q26, .inl (cs 0, 1932, .inl (fun _ => (0 : Int32)))), (q35, .inl (cs 0, 644, .inl (fun _ => (0 : Int32)))), (q42, .inl (cs 0, 2, .inl (fun _ => (0 : Int32)))), (q50, .inl (cs 0, 60, .inl (fun _ => (0 : Int32))))] H := hP
  have hD : va_D A [(h0, .inr (2, [.ref q8, .ref q17, .ref q26, .int 0, .ref q35, .ref q42, .ref q50, .int 0, .int 0, .null, .null, .null, .int 0])), (q8, .inl (cs 0, 322, .inl (fun _ => (0 : Int32)))), (q17, .inl (cs 0, 322, .inl (fun _ => (0 : Int32)))), (q26, .inl (cs 0, 1932, .inl (fun _ => (0 : Int32)))), (q35, .inl (cs 0, 644, .inl (fun _ => (0 : Int32)))), (q42, .inl (cs 0, 2, .inl (fun _ => (0 : Int32)))), (q50, .inl (cs 0, 60, .inl (fun _ => (0 : Int32))))] := hD
  refine lv_aload_n hx hb dX2_init_55 rfl (lv_at hl 0 rfl) ?_
  refine lv_bipush (v := nI 30) hx hb dX2_init_56 (by decide) ?_
  refine va_newa (atype := .int) (a0 := (30, .inl (fun _ => (0 : Int32)))) hx hb (hts (.arrayClass .int) (by decide +kernel)) rfl hK hP hD hS hA (fun _ => rfl) (nI_pos (by decide)) (nI_clamp (by decide)) (Nat.le_of_ble_eq_true rfl) (Nat.le_of_ble_eq_true rfl) (Nat.le_of_ble_eq_true rfl) dX2_init_58 (fun q58 c58 H hK58 hP hD hS => ?_)
  have ec58 := cls_eq (t := 0) hK58 rfl
  subst ec58
  have hP : va_P D vwCl [(h0, .inr (2, [.ref q8, .ref q17, .ref q26, .int 0, .ref q35, .ref q42, .ref q50, .int 0, .int 0, .null, .null, .null, .int 0])), (q8, .inl (cs 0, 322, .inl (fun _ => (0 : Int32)))), (q17, .inl (cs 0, 322, .inl (fun _ => (0 : Int32)))), (q26, .inl (cs 0, 1932, .inl (fun _ => (0 : Int32)))), (q35, .inl (cs 0, 644, .inl (fun _ => (0 : Int32)))), (q42, .inl (cs 0, 2, .inl (fun _ => (0 : Int32)))), (q50, .inl (cs 0, 60, .inl (fun _ => (0 : Int32)))), (q58, .inl (cs 0, 30, .inl (fun _ => (0 : Int32))))] H := hP
  have hD : va_D A [(h0, .inr (2, [.ref q8, .ref q17, .ref q26, .int 0, .ref q35, .ref q42, .ref q50, .int 0, .int 0, .null, .null, .null, .int 0])), (q8, .inl (cs 0, 322, .inl (fun _ => (0 : Int32)))), (q17, .inl (cs 0, 322, .inl (fun _ => (0 : Int32)))), (q26, .inl (cs 0, 1932, .inl (fun _ => (0 : Int32)))), (q35, .inl (cs 0, 644, .inl (fun _ => (0 : Int32)))), (q42, .inl (cs 0, 2, .inl (fun _ => (0 : Int32)))), (q50, .inl (cs 0, 60, .inl (fun _ => (0 : Int32)))), (q58, .inl (cs 0, 30, .inl (fun _ => (0 : Int32))))] := hD
  refine va_putF (D := D) (ci := 2) (v := .ref q58) (ty := .array .int) (C := RX2) (T := TX2) (N := 13) hx hb hts hinX2 tyX2 tyX2_ok nmX2 hown hK hP hD hS 0 rfl rfl 9 (by decide) (hts (.fieldLink RX2 28 "PunCourtsModel" "sounds" "[I") (by decide +kernel)) (fun _ h9 => h9) rfl hin2 rfl (by decide +kernel) rfl rfl (Nat.le_of_ble_eq_true rfl) dX2_init_60 (fun H locs hP hD hS => ?_)
  have hP : va_P D vwCl [(h0, .inr (2, [.ref q8, .ref q17, .ref q26, .int 0, .ref q35, .ref q42, .ref q50, .int 0, .int 0, .ref q58, .null, .null, .int 0])), (q8, .inl (cs 0, 322, .inl (fun _ => (0 : Int32)))), (q17, .inl (cs 0, 322, .inl (fun _ => (0 : Int32)))), (q26, .inl (cs 0, 1932, .inl (fun _ => (0 : Int32)))), (q35, .inl (cs 0, 644, .inl (fun _ => (0 : Int32)))), (q42, .inl (cs 0, 2, .inl (fun _ => (0 : Int32)))), (q50, .inl (cs 0, 60, .inl (fun _ => (0 : Int32)))), (q58, .inl (cs 0, 30, .inl (fun _ => (0 : Int32))))] H := hP
  have hD : va_D A [(h0, .inr (2, [.ref q8, .ref q17, .ref q26, .int 0, .ref q35, .ref q42, .ref q50, .int 0, .int 0, .ref q58, .null, .null, .int 0])), (q8, .inl (cs 0, 322, .inl (fun _ => (0 : Int32)))), (q17, .inl (cs 0, 322, .inl (fun _ => (0 : Int32)))), (q26, .inl (cs 0, 1932, .inl (fun _ => (0 : Int32)))), (q35, .inl (cs 0, 644, .inl (fun _ => (0 : Int32)))), (q42, .inl (cs 0, 2, .inl (fun _ => (0 : Int32)))), (q50, .inl (cs 0, 60, .inl (fun _ => (0 : Int32)))), (q58, .inl (cs 0, 30, .inl (fun _ => (0 : Int32))))] := hD
  refine lv_aload_n hx hb dX2_init_63 rfl (lv_at hl 0 rfl) ?_
  refine lv_bipush (v := nI 30) hx hb dX2_init_64 (by decide) ?_
  refine va_newa (atype := .int) (a0 := (30, .inl (fun _ => (0 : Int32)))) hx hb (hts (.arrayClass .int) (by decide +kernel)) rfl hK hP hD hS hA (fun _ => rfl) (nI_pos (by decide)) (nI_clamp (by decide)) (Nat.le_of_ble_eq_true rfl) (Nat.le_of_ble_eq_true rfl) (Nat.le_of_ble_eq_true rfl) dX2_init_66 (fun q66 c66 H hK66 hP hD hS => ?_)
  have ec66 := cls_eq (t := 0) hK66 rfl
  subst ec66
  have hP : va_P D vwCl [(h0, .inr (2, [.ref q8, .ref q17, .ref q26, .int 0, .ref q35, .ref q42, .ref q50, .int 0, .int 0, .ref q58, .null, .null, .int 0])), (q8, .inl (cs 0, 322, .inl (fun _ => (0 : Int32)))), (q17, .inl (cs 0, 322, .inl (fun _ => (0 : Int32)))), (q26, .inl (cs 0, 1932, .inl (fun _ => (0 : Int32)))), (q35, .inl (cs 0, 644, .inl (fun _ => (0 : Int32)))), (q42, .inl (cs 0, 2, .inl (fun _ => (0 : Int32)))), (q50, .inl (cs 0, 60, .inl (fun _ => (0 : Int32)))), (q58, .inl (cs 0, 30, .inl (fun _ => (0 : Int32)))), (q66, .inl (cs 0, 30, .inl (fun _ => (0 : Int32))))] H := hP
  have hD : va_D A [(h0, .inr (2, [.ref q8, .ref q17, .ref q26, .int 0, .ref q35, .ref q42, .ref q50, .int 0, .int 0, .ref q58, .null, .null, .int 0])), (q8, .inl (cs 0, 322, .inl (fun _ => (0 : Int32)))), (q17, .inl (cs 0, 322, .inl (fun _ => (0 : Int32)))), (q26, .inl (cs 0, 1932, .inl (fun _ => (0 : Int32)))), (q35, .inl (cs 0, 644, .inl (fun _ => (0 : Int32)))), (q42, .inl (cs 0, 2, .inl (fun _ => (0 : Int32)))), (q50, .inl (cs 0, 60, .inl (fun _ => (0 : Int32)))), (q58, .inl (cs 0, 30, .inl (fun _ => (0 : Int32)))), (q66, .inl (cs 0, 30, .inl (fun _ => (0 : Int32))))] := hD
  refine va_putF (D := D) (ci := 2) (v := .ref q66) (ty := .array .int) (C := RX2) (T := TX2) (N := 13) hx hb hts hinX2 tyX2 tyX2_ok nmX2 hown hK hP hD hS 0 rfl rfl 10 (by decide) (hts (.fieldLink RX2 31 "PunCourtsModel" "lengths" "[I") (by decide +kernel)) (fun _ h9 => h9) rfl hin2 rfl (by decide +kernel) rfl rfl (Nat.le_of_ble_eq_true rfl) dX2_init_68 (fun H locs hP hD hS => ?_)
  have hP : va_P D vwCl [(h0, .inr (2, [.ref q8, .ref q17, .ref q26, .int 0, .ref q35, .ref q42, .ref q50, .int 0, .int 0, .ref q58, .ref q66, .null, .int 0])), (q8, .inl (cs 0, 322, .inl (fun _ => (0 : Int32)))), (q17, .inl (cs 0, 322, .inl (fun _ => (0 : Int32)))), (q26, .inl (cs 0, 1932, .inl (fun _ => (0 : Int32)))), (q35, .inl (cs 0, 644, .inl (fun _ => (0 : Int32)))), (q42, .inl (cs 0, 2, .inl (fun _ => (0 : Int32)))), (q50, .inl (cs 0, 60, .inl (fun _ => (0 : Int32)))), (q58, .inl (cs 0, 30, .inl (fun _ => (0 : Int32)))), (q66, .inl (cs 0, 30, .inl (fun _ => (0 : Int32))))] H := hP
  have hD : va_D A [(h0, .inr (2, [.ref q8, .ref q17, .ref q26, .int 0, .ref q35, .ref q42, .ref q50, .int 0, .int 0, .ref q58, .ref q66, .null, .int 0])), (q8, .inl (cs 0, 322, .inl (fun _ => (0 : Int32)))), (q17, .inl (cs 0, 322, .inl (fun _ => (0 : Int32)))), (q26, .inl (cs 0, 1932, .inl (fun _ => (0 : Int32)))), (q35, .inl (cs 0, 644, .inl (fun _ => (0 : Int32)))), (q42, .inl (cs 0, 2, .inl (fun _ => (0 : Int32)))), (q50, .inl (cs 0, 60, .inl (fun _ => (0 : Int32)))), (q58, .inl (cs 0, 30, .inl (fun _ => (0 : Int32)))), (q66, .inl (cs 0, 30, .inl (fun _ => (0 : Int32))))] := hD
  refine lv_aload_n hx hb dX2_init_71 rfl (lv_at hl 0 rfl) ?_
  refine lv_bipush (v := nI 30) hx hb dX2_init_72 (by decide) ?_
  refine va_newa (atype := .int) (a0 := (30, .inl (fun _ => (0 : Int32)))) hx hb (hts (.arrayClass .int) (by decide +kernel)) rfl hK hP hD hS hA (fun _ => rfl) (nI_pos (by decide)) (nI_clamp (by decide)) (Nat.le_of_ble_eq_true rfl) (Nat.le_of_ble_eq_true rfl) (Nat.le_of_ble_eq_true rfl) dX2_init_74 (fun q74 c74 H hK74 hP hD hS => ?_)
  have ec74 := cls_eq (t := 0) hK74 rfl
  subst ec74
  have hP : va_P D vwCl [(h0, .inr (2, [.ref q8, .ref q17, .ref q26, .int 0, .ref q35, .ref q42, .ref q50, .int 0, .int 0, .ref q58, .ref q66, .null, .int 0])), (q8, .inl (cs 0, 322, .inl (fun _ => (0 : Int32)))), (q17, .inl (cs 0, 322, .inl (fun _ => (0 : Int32)))), (q26, .inl (cs 0, 1932, .inl (fun _ => (0 : Int32)))), (q35, .inl (cs 0, 644, .inl (fun _ => (0 : Int32)))), (q42, .inl (cs 0, 2, .inl (fun _ => (0 : Int32)))), (q50, .inl (cs 0, 60, .inl (fun _ => (0 : Int32)))), (q58, .inl (cs 0, 30, .inl (fun _ => (0 : Int32)))), (q66, .inl (cs 0, 30, .inl (fun _ => (0 : Int32)))), (q74, .inl (cs 0, 30, .inl (fun _ => (0 : Int32))))] H := hP
  have hD : va_D A [(h0, .inr (2, [.ref q8, .ref q17, .ref q26, .int 0, .ref q35, .ref q42, .ref q50, .int 0, .int 0, .ref q58, .ref q66, .null, .int 0])), (q8, .inl (cs 0, 322, .inl (fun _ => (0 : Int32)))), (q17, .inl (cs 0, 322, .inl (fun _ => (0 : Int32)))), (q26, .inl (cs 0, 1932, .inl (fun _ => (0 : Int32)))), (q35, .inl (cs 0, 644, .inl (fun _ => (0 : Int32)))), (q42, .inl (cs 0, 2, .inl (fun _ => (0 : Int32)))), (q50, .inl (cs 0, 60, .inl (fun _ => (0 : Int32)))), (q58, .inl (cs 0, 30, .inl (fun _ => (0 : Int32)))), (q66, .inl (cs 0, 30, .inl (fun _ => (0 : Int32)))), (q74, .inl (cs 0, 30, .inl (fun _ => (0 : Int32))))] := hD
  refine va_putF (D := D) (ci := 2) (v := .ref q74) (ty := .array .int) (C := RX2) (T := TX2) (N := 13) hx hb hts hinX2 tyX2 tyX2_ok nmX2 hown hK hP hD hS 0 rfl rfl 11 (by decide) (hts (.fieldLink RX2 34 "PunCourtsModel" "honours" "[I") (by decide +kernel)) (fun _ h9 => h9) rfl hin2 rfl (by decide +kernel) rfl rfl (Nat.le_of_ble_eq_true rfl) dX2_init_76 (fun H locs hP hD hS => ?_)
  have hP : va_P D vwCl [(h0, .inr (2, [.ref q8, .ref q17, .ref q26, .int 0, .ref q35, .ref q42, .ref q50, .int 0, .int 0, .ref q58, .ref q66, .ref q74, .int 0])), (q8, .inl (cs 0, 322, .inl (fun _ => (0 : Int32)))), (q17, .inl (cs 0, 322, .inl (fun _ => (0 : Int32)))), (q26, .inl (cs 0, 1932, .inl (fun _ => (0 : Int32)))), (q35, .inl (cs 0, 644, .inl (fun _ => (0 : Int32)))), (q42, .inl (cs 0, 2, .inl (fun _ => (0 : Int32)))), (q50, .inl (cs 0, 60, .inl (fun _ => (0 : Int32)))), (q58, .inl (cs 0, 30, .inl (fun _ => (0 : Int32)))), (q66, .inl (cs 0, 30, .inl (fun _ => (0 : Int32)))), (q74, .inl (cs 0, 30, .inl (fun _ => (0 : Int32))))] H := hP
  have hD : va_D A [(h0, .inr (2, [.ref q8, .ref q17, .ref q26, .int 0, .ref q35, .ref q42, .ref q50, .int 0, .int 0, .ref q58, .ref q66, .ref q74, .int 0])), (q8, .inl (cs 0, 322, .inl (fun _ => (0 : Int32)))), (q17, .inl (cs 0, 322, .inl (fun _ => (0 : Int32)))), (q26, .inl (cs 0, 1932, .inl (fun _ => (0 : Int32)))), (q35, .inl (cs 0, 644, .inl (fun _ => (0 : Int32)))), (q42, .inl (cs 0, 2, .inl (fun _ => (0 : Int32)))), (q50, .inl (cs 0, 60, .inl (fun _ => (0 : Int32)))), (q58, .inl (cs 0, 30, .inl (fun _ => (0 : Int32)))), (q66, .inl (cs 0, 30, .inl (fun _ => (0 : Int32)))), (q74, .inl (cs 0, 30, .inl (fun _ => (0 : Int32))))] := hD
  refine lv_aload_n hx hb dX2_init_79 rfl (lv_at hl 0 rfl) ?_
  refine va_get (D := D) (ci := 2) (v := .ref q8) (C := RX2) (T := TX2) (N := 13) hx hb hts hinX2 hown hK hP 0 rfl rfl 0 (by decide) (hts (.fieldLink RX2 7 "PunCourtsModel" "all" "[I") (by decide +kernel)) (fun _ h9 => h9) rfl dX2_init_80 ?_
  refine lv_iconst (v := nI 0) hx hb dX2_init_83 (by decide) ?_
  refine lv_iconst (v := nI 3) hx hb dX2_init_84 (by decide) ?_
  refine va_iast hx hb hK hP hD hS 1 0 rfl rfl (vp_in_nI (by decide) (by decide)) dX2_init_85 (fun H locs hP hD hS => ?_)
  rw [nI_clamp (by decide)] at hP hD
  have hP : va_P D vwCl [(h0, .inr (2, [.ref q8, .ref q17, .ref q26, .int 0, .ref q35, .ref q42, .ref q50, .int 0, .int 0, .ref q58, .ref q66, .ref q74, .int 0])), (q8, .inl (cs 0, 322, .inl (upd (fun _ => (0 : Int32)) 0 (nI 3)))), (q17, .inl (cs 0, 322, .inl (fun _ => (0 : Int32)))), (q26, .inl (cs 0, 1932, .inl (fun _ => (0 : Int32)))), (q35, .inl (cs 0, 644, .inl (fun _ => (0 : Int32)))), (q42, .inl (cs 0, 2, .inl (fun _ => (0 : Int32)))), (q50, .inl (cs 0, 60, .inl (fun _ => (0 : Int32)))), (q58, .inl (cs 0, 30, .inl (fun _ => (0 : Int32)))), (q66, .inl (cs 0, 30, .inl (fun _ => (0 : Int32)))), (q74, .inl (cs 0, 30, .inl (fun _ => (0 : Int32))))] H := hP
  have hD : va_D A [(h0, .inr (2, [.ref q8, .ref q17, .ref q26, .int 0, .ref q35, .ref q42, .ref q50, .int 0, .int 0, .ref q58, .ref q66, .ref q74, .int 0])), (q8, .inl (cs 0, 322, .inl (upd (fun _ => (0 : Int32)) 0 (nI 3)))), (q17, .inl (cs 0, 322, .inl (fun _ => (0 : Int32)))), (q26, .inl (cs 0, 1932, .inl (fun _ => (0 : Int32)))), (q35, .inl (cs 0, 644, .inl (fun _ => (0 : Int32)))), (q42, .inl (cs 0, 2, .inl (fun _ => (0 : Int32)))), (q50, .inl (cs 0, 60, .inl (fun _ => (0 : Int32)))), (q58, .inl (cs 0, 30, .inl (fun _ => (0 : Int32)))), (q66, .inl (cs 0, 30, .inl (fun _ => (0 : Int32)))), (q74, .inl (cs 0, 30, .inl (fun _ => (0 : Int32))))] := hD
  refine lv_aload_n hx hb dX2_init_86 rfl (lv_at hl 0 rfl) ?_
  refine va_get (D := D) (ci := 2) (v := .ref q8) (C := RX2) (T := TX2) (N := 13) hx hb hts hinX2 hown hK hP 0 rfl rfl 0 (by decide) (hts (.fieldLink RX2 7 "PunCourtsModel" "all" "[I") (by decide +kernel)) (fun _ h9 => h9) rfl dX2_init_87 ?_
  refine lv_iconst (v := nI 1) hx hb dX2_init_90 (by decide) ?_
  refine lv_iconst (v := nI 2) hx hb dX2_init_91 (by decide) ?_
  refine va_iast hx hb hK hP hD hS 1 0 rfl rfl (vp_in_nI (by decide) (by decide)) dX2_init_92 (fun H locs hP hD hS => ?_)
  rw [nI_clamp (by decide)] at hP hD
  have hP : va_P D vwCl [(h0, .inr (2, [.ref q8, .ref q17, .ref q26, .int 0, .ref q35, .ref q42, .ref q50, .int 0, .int 0, .ref q58, .ref q66, .ref q74, .int 0])), (q8, .inl (cs 0, 322, .inl (upd (upd (fun _ => (0 : Int32)) 0 (nI 3)) 1 (nI 2)))), (q17, .inl (cs 0, 322, .inl (fun _ => (0 : Int32)))), (q26, .inl (cs 0, 1932, .inl (fun _ => (0 : Int32)))), (q35, .inl (cs 0, 644, .inl (fun _ => (0 : Int32)))), (q42, .inl (cs 0, 2, .inl (fun _ => (0 : Int32)))), (q50, .inl (cs 0, 60, .inl (fun _ => (0 : Int32)))), (q58, .inl (cs 0, 30, .inl (fun _ => (0 : Int32)))), (q66, .inl (cs 0, 30, .inl (fun _ => (0 : Int32)))), (q74, .inl (cs 0, 30, .inl (fun _ => (0 : Int32))))] H := hP
  have hD : va_D A [(h0, .inr (2, [.ref q8, .ref q17, .ref q26, .int 0, .ref q35, .ref q42, .ref q50, .int 0, .int 0, .ref q58, .ref q66, .ref q74, .int 0])), (q8, .inl (cs 0, 322, .inl (upd (upd (fun _ => (0 : Int32)) 0 (nI 3)) 1 (nI 2)))), (q17, .inl (cs 0, 322, .inl (fun _ => (0 : Int32)))), (q26, .inl (cs 0, 1932, .inl (fun _ => (0 : Int32)))), (q35, .inl (cs 0, 644, .inl (fun _ => (0 : Int32)))), (q42, .inl (cs 0, 2, .inl (fun _ => (0 : Int32)))), (q50, .inl (cs 0, 60, .inl (fun _ => (0 : Int32)))), (q58, .inl (cs 0, 30, .inl (fun _ => (0 : Int32)))), (q66, .inl (cs 0, 30, .inl (fun _ => (0 : Int32)))), (q74, .inl (cs 0, 30, .inl (fun _ => (0 : Int32))))] := hD
  refine lv_aload_n hx hb dX2_init_93 rfl (lv_at hl 0 rfl) ?_
  refine va_get (D := D) (ci := 2) (v := .ref q8) (C := RX2) (T := TX2) (N := 13) hx hb hts hinX2 hown hK hP 0 rfl rfl 0 (by decide) (hts (.fieldLink RX2 7 "PunCourtsModel" "all" "[I") (by decide +kernel)) (fun _ h9 => h9) rfl dX2_init_94 ?_
  refine lv_iconst (v := nI 2) hx hb dX2_init_97 (by decide) ?_
  refine lv_iconst (v := nI 2) hx hb dX2_init_98 (by decide) ?_
  refine va_iast hx hb hK hP hD hS 1 0 rfl rfl (vp_in_nI (by decide) (by decide)) dX2_init_99 (fun H locs hP hD hS => ?_)
  rw [nI_clamp (by decide)] at hP hD
  have hP : va_P D vwCl [(h0, .inr (2, [.ref q8, .ref q17, .ref q26, .int 0, .ref q35, .ref q42, .ref q50, .int 0, .int 0, .ref q58, .ref q66, .ref q74, .int 0])), (q8, .inl (cs 0, 322, .inl (upd (upd (upd (fun _ => (0 : Int32)) 0 (nI 3)) 1 (nI 2)) 2 (nI 2)))), (q17, .inl (cs 0, 322, .inl (fun _ => (0 : Int32)))), (q26, .inl (cs 0, 1932, .inl (fun _ => (0 : Int32)))), (q35, .inl (cs 0, 644, .inl (fun _ => (0 : Int32)))), (q42, .inl (cs 0, 2, .inl (fun _ => (0 : Int32)))), (q50, .inl (cs 0, 60, .inl (fun _ => (0 : Int32)))), (q58, .inl (cs 0, 30, .inl (fun _ => (0 : Int32)))), (q66, .inl (cs 0, 30, .inl (fun _ => (0 : Int32)))), (q74, .inl (cs 0, 30, .inl (fun _ => (0 : Int32))))] H := hP
  have hD : va_D A [(h0, .inr (2, [.ref q8, .ref q17, .ref q26, .int 0, .ref q35, .ref q42, .ref q50, .int 0, .int 0, .ref q58, .ref q66, .ref q74, .int 0])), (q8, .inl (cs 0, 322, .inl (upd (upd (upd (fun _ => (0 : Int32)) 0 (nI 3)) 1 (nI 2)) 2 (nI 2)))), (q17, .inl (cs 0, 322, .inl (fun _ => (0 : Int32)))), (q26, .inl (cs 0, 1932, .inl (fun _ => (0 : Int32)))), (q35, .inl (cs 0, 644, .inl (fun _ => (0 : Int32)))), (q42, .inl (cs 0, 2, .inl (fun _ => (0 : Int32)))), (q50, .inl (cs 0, 60, .inl (fun _ => (0 : Int32)))), (q58, .inl (cs 0, 30, .inl (fun _ => (0 : Int32)))), (q66, .inl (cs 0, 30, .inl (fun _ => (0 : Int32)))), (q74, .inl (cs 0, 30, .inl (fun _ => (0 : Int32))))] := hD
  refine lv_aload_n hx hb dX2_init_100 rfl (lv_at hl 0 rfl) ?_
  refine va_get (D := D) (ci := 2) (v := .ref q8) (C := RX2) (T := TX2) (N := 13) hx hb hts hinX2 hown hK hP 0 rfl rfl 0 (by decide) (hts (.fieldLink RX2 7 "PunCourtsModel" "all" "[I") (by decide +kernel)) (fun _ h9 => h9) rfl dX2_init_101 ?_
  refine lv_iconst (v := nI 3) hx hb dX2_init_104 (by decide) ?_
  refine lv_bipush (v := nI 10) hx hb dX2_init_105 (by decide) ?_
  refine va_iast hx hb hK hP hD hS 1 0 rfl rfl (vp_in_nI (by decide) (by decide)) dX2_init_107 (fun H locs hP hD hS => ?_)
  rw [nI_clamp (by decide)] at hP hD
  have hP : va_P D vwCl [(h0, .inr (2, [.ref q8, .ref q17, .ref q26, .int 0, .ref q35, .ref q42, .ref q50, .int 0, .int 0, .ref q58, .ref q66, .ref q74, .int 0])), (q8, .inl (cs 0, 322, .inl (upd (upd (upd (upd (fun _ => (0 : Int32)) 0 (nI 3)) 1 (nI 2)) 2 (nI 2)) 3 (nI 10)))), (q17, .inl (cs 0, 322, .inl (fun _ => (0 : Int32)))), (q26, .inl (cs 0, 1932, .inl (fun _ => (0 : Int32)))), (q35, .inl (cs 0, 644, .inl (fun _ => (0 : Int32)))), (q42, .inl (cs 0, 2, .inl (fun _ => (0 : Int32)))), (q50, .inl (cs 0, 60, .inl (fun _ => (0 : Int32)))), (q58, .inl (cs 0, 30, .inl (fun _ => (0 : Int32)))), (q66, .inl (cs 0, 30, .inl (fun _ => (0 : Int32)))), (q74, .inl (cs 0, 30, .inl (fun _ => (0 : Int32))))] H := hP
  have hD : va_D A [(h0, .inr (2, [.ref q8, .ref q17, .ref q26, .int 0, .ref q35, .ref q42, .ref q50, .int 0, .int 0, .ref q58, .ref q66, .ref q74, .int 0])), (q8, .inl (cs 0, 322, .inl (upd (upd (upd (upd (fun _ => (0 : Int32)) 0 (nI 3)) 1 (nI 2)) 2 (nI 2)) 3 (nI 10)))), (q17, .inl (cs 0, 322, .inl (fun _ => (0 : Int32)))), (q26, .inl (cs 0, 1932, .inl (fun _ => (0 : Int32)))), (q35, .inl (cs 0, 644, .inl (fun _ => (0 : Int32)))), (q42, .inl (cs 0, 2, .inl (fun _ => (0 : Int32)))), (q50, .inl (cs 0, 60, .inl (fun _ => (0 : Int32)))), (q58, .inl (cs 0, 30, .inl (fun _ => (0 : Int32)))), (q66, .inl (cs 0, 30, .inl (fun _ => (0 : Int32)))), (q74, .inl (cs 0, 30, .inl (fun _ => (0 : Int32))))] := hD
  have e2 : frR 0 = fun k => if k = 1 then st4 else fun _ => 0 := by
    funext k
    unfold frR
    split
    · rw [if_pos rfl]; funext j; exact if_neg (by omega)
    · rename_i h1; rw [if_neg h1]
  have hP : va_P D vwCl (wR (gX2 h0 q8 q17 q26 q35 q42 q50 q58 q66 q74) cs (frR 0)) H := by rw [e2]; exact hP
  have hD : va_D A (wR (gX2 h0 q8 q17 q26 q35 q42 q50 q58 q66 q74) cs (frR 0)) := by rw [e2]; exact hD
  obtain ⟨g, hg⟩ : ∃ g : Nat → Nat, (gX2 h0 q8 q17 q26 q35 q42 q50 q58 q66 q74) = g := ⟨_, rfl⟩
  rw [hg] at hP hD
  have hg0 : h0 = g 0 := by rw [← hg]; rfl
  refine W.widen (k := 9) (n := 3372) (Nat.le_of_ble_eq_true rfl) (Nat.le_of_ble_eq_true rfl) ?_
  refine lv_iconst (v := nI 0) hx hb dX2_init_108 (by decide) ?_
  refine lv_istore_n (lv' := [(1, .int (nI 0)), (0, .ref h0)]) hx hb dX2_init_109 rfl hl (by decide) rfl (fun ls hl => ?_)
  rw [hg0] at hl
  refine loopW (I := fun n ls H locs => ∃ i, i + n = 12 ∧ lv_has ls 2 [(1, .int (nI i)), (0, .ref (g 0))] ∧ va_P D vwCl (wR g cs (frR i)) H ∧ va_D A (wR g cs (frR i)) ∧ va_S A s.heap H locs) (P := fun ls H locs => W p l e _ s m _ below meth c H locs 9 3372 _ (F0 m 110 ls [])) ?_ ?_ 12 ls _ _ ⟨0, by omega, hl, hP, hD, hS⟩
  · rintro ls H locs ⟨i, hi, hl, hP, hD, hS⟩
    refine lv_iload_n hx hb dX2_init_110 rfl (lv_at hl 0 rfl) ?_
    refine lv_bipush (v := nI 12) hx hb dX2_init_111 (by decide) ?_
    refine lv_icmp_ge (tgt := 158) hx hb dX2_init_113 (by decide) (fun c130 => ?_) (fun c130 => absurd (nI_le (by omega) (by omega)) c130)
    have ei : i = 12 := by omega
    subst ei
    exact W.vret hx hb hr (fun t ht hW => ⟨⟨g, rfl, hg0.symm, by rw [ht]; exact hP, hD⟩, hS.F ht⟩) hS.2.2 dX2_init_158
  · rintro n ih ls H locs ⟨i, hi, hl, hP, hD, hS⟩
    refine lv_iload_n hx hb dX2_init_110 rfl (lv_at hl 0 rfl) ?_
    refine lv_bipush (v := nI 12) hx hb dX2_init_111 (by decide) ?_
    refine lv_icmp_ge (tgt := 158) hx hb dX2_init_113 (by decide) (fun c130 => absurd c130 (fun z => by have := (nI_leI (by omega) (by omega)).mp z; omega)) (fun c130 => ?_)
    refine lv_aload_n hx hb dX2_init_116 rfl (lv_at hl 1 rfl) ?_
    refine va_get (D := D) (ci := 2) (v := .ref (g 1)) (C := RX2) (T := TX2) (N := 13) hx hb hts hinX2 hown hK hP 0 rfl rfl 0 (by decide) (hts (.fieldLink RX2 7 "PunCourtsModel" "all" "[I") (by decide +kernel)) (fun _ h9 => h9) rfl dX2_init_117 ?_
    refine lv_sipush (v := nI 249) hx hb dX2_init_120 (by decide) ?_
    refine lv_iload_n hx hb dX2_init_123 rfl (lv_at hl 0 rfl) ?_
    refine lv_iadd hx hb dX2_init_124 ?_
    rw [nI_add]
    refine lv_bipush (v := (-6)) hx hb dX2_init_125 (by decide) ?_
    refine va_iast hx hb hK hP hD hS 1 0 rfl rfl (vp_in_nI (by omega) (by decide)) dX2_init_127 (fun H locs hP hD hS => ?_)
    rw [nI_clamp (by omega)] at hP hD
    refine lv_aload_n hx hb dX2_init_128 rfl (lv_at hl 1 rfl) ?_
    refine va_get (D := D) (ci := 2) (v := .ref (g 1)) (C := RX2) (T := TX2) (N := 13) hx hb hts hinX2 hown hK hP 0 rfl rfl 0 (by decide) (hts (.fieldLink RX2 7 "PunCourtsModel" "all" "[I") (by decide +kernel)) (fun _ h9 => h9) rfl dX2_init_129 ?_
    refine lv_sipush (v := nI 285) hx hb dX2_init_132 (by decide) ?_
    refine lv_iload_n hx hb dX2_init_135 rfl (lv_at hl 0 rfl) ?_
    refine lv_iadd hx hb dX2_init_136 ?_
    rw [nI_add]
    refine lv_bipush (v := (-6)) hx hb dX2_init_137 (by decide) ?_
    refine va_iast hx hb hK hP hD hS 1 0 rfl rfl (vp_in_nI (by omega) (by decide)) dX2_init_139 (fun H locs hP hD hS => ?_)
    rw [nI_clamp (by omega)] at hP hD
    refine lv_aload_n hx hb dX2_init_140 rfl (lv_at hl 1 rfl) ?_
    refine va_get (D := D) (ci := 2) (v := .ref (g 1)) (C := RX2) (T := TX2) (N := 13) hx hb hts hinX2 hown hK hP 0 rfl rfl 0 (by decide) (hts (.fieldLink RX2 7 "PunCourtsModel" "all" "[I") (by decide +kernel)) (fun _ h9 => h9) rfl dX2_init_141 ?_
    refine lv_sipush (v := nI 309) hx hb dX2_init_144 (by decide) ?_
    refine lv_iload_n hx hb dX2_init_147 rfl (lv_at hl 0 rfl) ?_
    refine lv_iadd hx hb dX2_init_148 ?_
    rw [nI_add]
    refine lv_bipush (v := (-6)) hx hb dX2_init_149 (by decide) ?_
    refine va_iast hx hb hK hP hD hS 1 0 rfl rfl (vp_in_nI (by omega) (by decide)) dX2_init_151 (fun H locs hP hD hS => ?_)
    rw [nI_clamp (by omega)] at hP hD
    have ef := mr0_s (i := i) (by omega)
    have e : frR (i + 1) = fun k => match k with | 1 => upd (upd (upd (mr0 i) (249 + i) (-6)) (285 + i) (-6)) (309 + i) (-6) | _ => fun _ => 0 := by rw [ef]; rfl
    have hP : va_P D vwCl (wR g cs (frR (i + 1))) H := by rw [e]; exact hP
    have hD : va_D A (wR g cs (frR (i + 1))) := by rw [e]; exact hD
    refine lv_iinc (v := nI (i + 1)) (lv' := [(1, .int (nI (i + 1))), (0, .ref (g 0))]) hx hb dX2_init_152 hl (k := 0) rfl (nI_1 _) (by decide) rfl (fun ls hl => ?_)
    refine lv_goto (tgt := 110) hx hb dX2_init_155 (by decide) ?_
    exact ih ls H _ ⟨i + 1, by omega, hl, hP, hD, hS⟩
