def w1M (h0 qp qs qu qd : Nat) (gs : Nat → Nat → Nat) (cs : Nat → ClassId) : va_W := [(h0, .inr (1, [.ref (gs 0 0), .ref (gs 1 0), .ref qp, .int 0, .ref qs, .ref qu, .ref qd, .int 0])), (qp, .inl (cs 3, 6, .inr (.inr (.inr (.inr (va_up (va_up (va_up (va_up (va_up (va_up (fun _ => none) 0 (some (gs 2 0))) 1 (some (gs 3 0))) 2 (some (gs 4 0))) 3 (some (gs 5 0))) 4 (some (gs 6 0))) 5 (some (gs 7 0)))))))), (qs, .inl (cs 3, 2, .inr (.inr (.inr (.inr (va_up (va_up (fun _ => none) 0 (some (gs 8 0))) 1 (some (gs 9 0)))))))), (qu, .inl (cs 2, 2, .inl (fun _ => (0 : Int32)))), (qd, .inl (cs 1, 60, .inl (fun _ => (0 : Int32))))]
theorem fr0_ok : ∀ j, j < 16 → defaultValue (tyX0 j) = vp_V fr0 j := by decide +kernel
set_option maxHeartbeats 4000000 in
set_option maxRecDepth 100000 in
theorem kX1_init (l : Launch) (D : va_G) (cs : Nat → ClassId) (h0 : Nat) (sz : Nat) : Met l yX1_init wsX1_init ({ frames := 2, cells := 144, slots := 3790, locals := 33 }) (va_Pc [.ref h0] (fun U => U.heap.size = sz ∧ va_P D vwCl [(h0, .inr (1, fr1))] U.heap ∧ va_K D vwCl (tyl cs) U ∧ va_D (fun _ => True) [(h0, .inr (1, fr1))] ∧ va_AO RX0 U)) (va_Qv (fun (_ : Nat × Nat × Nat × Nat × (Nat → Nat → Nat)) => True) (fun (u : Nat × Nat × Nat × Nat × (Nat → Nat → Nat)) (t : State) => va_P D vwCl (w1M h0 u.1 u.2.1 u.2.2.1 u.2.2.2.1 u.2.2.2.2 cs ++ RB cs u.2.2.2.2 10) t.heap ∧ va_D (va_A [(h0, .inr (1, fr1))] sz) (w1M h0 u.1 u.2.1 u.2.2.1 u.2.2.2.1 u.2.2.2.2 cs ++ RB cs u.2.2.2.2 10)) (va_A [(h0, .inr (1, fr1))] sz)) 144 3790 (va_A [(h0, .inr (1, fr1))] sz) := by
  refine Met.ofW (cc := cX1_init) (maxL := 2) (ret := none) (by decide) rfl ?_
  intro p e s m args below meth c s₁ B hml hv
  obtain ⟨rfl, hsz, hP, hK, hD0, hAO⟩ := hv
  have hx := B.exec
  have hb := B.bytes
  have hr := B.returns
  have hts := atoms_spec (ws := wsX1_init) B.pre
  have hown : s.vm.findClass RX1 = some m.cls := findClass_of_methodNamed B.named
  have hlocks := B.notSynchronized
  have hin2 : meth.name = "<init>" := (name_of_methodNamed B.named B.method).1
  have hinX1 : ∀ w ∈ wsX10, w ∈ wsX1_init := by decide +kernel
  have hinX0 : ∀ w ∈ wsX00, w ∈ wsX1_init := by decide +kernel
  subst hsz
  have hD := hD0.self (sz := s.heap.size)
  generalize hAe : va_A [(h0, .inr (1, fr1))] s.heap.size = A at hD ⊢
  have hA : ∀ q : Nat, s.heap.size ≤ q → A q := fun q h => by rw [← hAe]; exact Or.inr h
  have hS : va_S A s.heap s.heap [] := va_S.rf
  have hP : va_P D vwCl [(h0, .inr (1, fr1))] s.heap := hP
  have hl := lv_entry ([.ref h0]) (n := 2) (Nat.le_of_ble_eq_true rfl)
  rw [lg_entry_eq]
  generalize (lg_sl ([.ref h0]) ++ List.replicate (2 - (lg_sl ([.ref h0])).length) Slot.unset).toArray = ls at hl ⊢
  have hl : lv_has ls 2 [(0, .ref h0)] := hl
  refine lv_aload_n hx hb dX1_init_0 rfl (lv_at hl 0 rfl) ?_
  refine W.objInit hx hb hown (hts (.methodLink RX1 1 objectInit) (by decide +kernel)) (hts (.instanceMethod objectInit) (by decide +kernel)) (hts (.code objectInit ⟨#[0xb1]⟩ 1 none) (by decide +kernel)) rfl (by rw [hml]; exact hl.1) rfl dX1_init_1 (Nat.le_of_ble_eq_true rfl) (Nat.le_of_ble_eq_true rfl) ?_
  refine W.eq (g2 := F0 m 4 ls []) rfl ?_
  have hP : va_P D vwCl ([(h0, .inr (1, [.null, .null, .null, .int 0, .null, .null, .null, .int 0]))] ++ RB cs (fun _ _ => 0) 0) s.heap := hP
  have hD : va_D A ([(h0, .inr (1, [.null, .null, .null, .int 0, .null, .null, .null, .int 0]))] ++ RB cs (fun _ _ => 0) 0) := hD
  refine lv_aload_n hx hb dX1_init_4 rfl (lv_at hl 0 rfl) ?_
  refine va_new (ci := 0) (fs := fr0) (C := RX0) (T := TX0) (N := 16) hx hb hts hinX0 tyX0 tyX0_ok hown (hts (.classLink RX1 7 RX0) (by decide +kernel)) (hts (.instantiable RX0 16) (by decide +kernel)) (hts (.initialized RX0) (by decide +kernel)) hK hP hD hS hA rfl fr0_ok (Nat.le_of_ble_eq_true rfl) (Nat.le_of_ble_eq_true rfl) dX1_init_5 (fun n0 H hP hD hS => ?_)
  refine W.widen (k := 1) (n := 16) (Nat.le_of_ble_eq_true rfl) (Nat.le_of_ble_eq_true rfl) ?_
  refine lv_dup hx hb dX1_init_8 rfl ?_
  have hPc := vP_last hP
  have hDc := vD_last hD
  have hFc := vfree_last hD hS hA
  refine va_callv (va_runI (As := []) (rest := [.ref n0, .ref h0]) ⟨hx, hb, hml, hown, hts⟩ (kX0_init l D cs n0 H.size) (cwI 0 hts gX1_init_X0_init rfl rfl rfl (hts (.initialized RX0) (by decide +kernel)) (hts (.methodLink RX1 9 yX0_init) (by decide +kernel)) (hts (.instanceMethod yX0_init) (by decide +kernel)) rfl (by decide +kernel) ⟨Nat.le_of_ble_eq_true rfl, Nat.le_of_ble_eq_true rfl⟩) ⟨fun a U g mk q => by obtain ⟨q0, q1, qP, qK, qD⟩ := q; exact ⟨q0, q1, qP, va_K.moved (u := U) (U := U.calling g mk a) (Vm.Alike.refl U.vm) qK, qD⟩, fun U hU hW => ⟨rfl, by rw [hU], by rw [hU]; exact hPc, va_K.moved hW.alike hK, hDc⟩⟩ rfl rfl hl.1 rfl (lv_room (Nat.le_of_ble_eq_true rfl)) dX1_init_9 ⟨Nat.le_of_ble_eq_true rfl, Nat.le_of_ble_eq_true rfl⟩) hS (fun q _ h => hFc q h) hFc (fun u t H1 locs ht hvm hw hB hz1 hk1 hS => ?_)
  obtain ⟨g0, rfl⟩ : ∃ z, z = u := ⟨_, rfl⟩
  obtain ⟨hP1, hD1⟩ := hB
  rw [ht] at hP1
  try dsimp only at hw
  obtain ⟨hP, hD⟩ := vjoin_last hP hD hk1 hFc hP1 hD1
  generalize H1 = H at hP hS ⊢
  rw [List.append_assoc, RB_s] at hP hD
  obtain ⟨gs0, hgs0⟩ : ∃ gs : Nat → Nat → Nat, (fun b => if b = 0 then g0 else (fun _ _ => 0) b) = gs := ⟨_, rfl⟩
  rw [hgs0] at hP hD
  have eg0 : gs0 0 = g0 := by rw [← hgs0]; exact if_pos rfl
  have hw : gs0 0 0 = n0 := by rw [eg0]; exact hw
  rw [← hw]
  have hP : va_P D vwCl ([(h0, .inr (1, [.null, .null, .null, .int 0, .null, .null, .null, .int 0]))] ++ RB cs gs0 1) H := hP
  have hD : va_D A ([(h0, .inr (1, [.null, .null, .null, .int 0, .null, .null, .null, .int 0]))] ++ RB cs gs0 1) := hD
  refine W.widen (k := 14) (n := 372) (Nat.le_of_ble_eq_true rfl) (Nat.le_of_ble_eq_true rfl) ?_
  refine va_putF (D := D) (ci := 1) (v := .ref (gs0 0 0)) (ty := .object "PunCourts$Court") (C := RX1) (T := TX1) (N := 8) hx hb hts hinX1 tyX1 tyX1_ok nmX1 hown hK hP hD hS 0 rfl rfl 0 (by decide) (hts (.fieldLink RX1 10 "PunCourts" "now" "LPunCourts$Court;") (by decide +kernel)) (fun _ h9 => h9) rfl hin2 rfl (by decide +kernel) rfl rfl (Nat.le_of_ble_eq_true rfl) dX1_init_12 (fun H locs hP hD hS => ?_)
  have hP : va_P D vwCl ([(h0, .inr (1, [.ref (gs0 0 0), .null, .null, .int 0, .null, .null, .null, .int 0]))] ++ RB cs gs0 1) H := hP
  have hD : va_D A ([(h0, .inr (1, [.ref (gs0 0 0), .null, .null, .int 0, .null, .null, .null, .int 0]))] ++ RB cs gs0 1) := hD
  refine lv_aload_n hx hb dX1_init_15 rfl (lv_at hl 0 rfl) ?_
  refine va_new (ci := 0) (fs := fr0) (C := RX0) (T := TX0) (N := 16) hx hb hts hinX0 tyX0 tyX0_ok hown (hts (.classLink RX1 7 RX0) (by decide +kernel)) (hts (.instantiable RX0 16) (by decide +kernel)) (hts (.initialized RX0) (by decide +kernel)) hK hP hD hS hA rfl fr0_ok (Nat.le_of_ble_eq_true rfl) (Nat.le_of_ble_eq_true rfl) dX1_init_16 (fun n1 H hP hD hS => ?_)
  refine W.widen (k := 15) (n := 388) (Nat.le_of_ble_eq_true rfl) (Nat.le_of_ble_eq_true rfl) ?_
  refine lv_dup hx hb dX1_init_19 rfl ?_
  have hPc := vP_last hP
  have hDc := vD_last hD
  have hFc := vfree_last hD hS hA
  refine va_callv (va_runI (As := []) (rest := [.ref n1, .ref h0]) ⟨hx, hb, hml, hown, hts⟩ (kX0_init l D cs n1 H.size) (cwI 0 hts gX1_init_X0_init rfl rfl rfl (hts (.initialized RX0) (by decide +kernel)) (hts (.methodLink RX1 9 yX0_init) (by decide +kernel)) (hts (.instanceMethod yX0_init) (by decide +kernel)) rfl (by decide +kernel) ⟨Nat.le_of_ble_eq_true rfl, Nat.le_of_ble_eq_true rfl⟩) ⟨fun a U g mk q => by obtain ⟨q0, q1, qP, qK, qD⟩ := q; exact ⟨q0, q1, qP, va_K.moved (u := U) (U := U.calling g mk a) (Vm.Alike.refl U.vm) qK, qD⟩, fun U hU hW => ⟨rfl, by rw [hU], by rw [hU]; exact hPc, va_K.moved hW.alike hK, hDc⟩⟩ rfl rfl hl.1 rfl (lv_room (Nat.le_of_ble_eq_true rfl)) dX1_init_20 ⟨Nat.le_of_ble_eq_true rfl, Nat.le_of_ble_eq_true rfl⟩) hS (fun q _ h => hFc q h) hFc (fun u t H1 locs ht hvm hw hB hz1 hk1 hS => ?_)
  obtain ⟨g1, rfl⟩ : ∃ z, z = u := ⟨_, rfl⟩
  obtain ⟨hP1, hD1⟩ := hB
  rw [ht] at hP1
  try dsimp only at hw
  obtain ⟨hP, hD⟩ := vjoin_last hP hD hk1 hFc hP1 hD1
  generalize H1 = H at hP hS ⊢
  rw [List.append_assoc, RB_s] at hP hD
  obtain ⟨gs1, hgs1⟩ : ∃ gs : Nat → Nat → Nat, (fun b => if b = 1 then g1 else gs0 b) = gs := ⟨_, rfl⟩
  rw [hgs1] at hP hD
  have eg1 : gs1 1 = g1 := by rw [← hgs1]; exact if_pos rfl
  have hw : gs1 1 0 = n1 := by rw [eg1]; exact hw
  rw [← hw]
  have hP : va_P D vwCl ([(h0, .inr (1, [.ref (gs0 0 0), .null, .null, .int 0, .null, .null, .null, .int 0]))] ++ RB cs gs1 2) H := hP
  have hD : va_D A ([(h0, .inr (1, [.ref (gs0 0 0), .null, .null, .int 0, .null, .null, .null, .int 0]))] ++ RB cs gs1 2) := hD
  refine W.widen (k := 28) (n := 744) (Nat.le_of_ble_eq_true rfl) (Nat.le_of_ble_eq_true rfl) ?_
  have eo1 : ∀ b, b < 1 → gs1 b = gs0 b := fun b hb => by rw [← hgs1]; exact if_neg (by omega)
  refine va_putF (D := D) (ci := 1) (v := .ref (gs1 1 0)) (ty := .object "PunCourts$Court") (C := RX1) (T := TX1) (N := 8) hx hb hts hinX1 tyX1 tyX1_ok nmX1 hown hK hP hD hS 0 rfl rfl 1 (by decide) (hts (.fieldLink RX1 16 "PunCourts" "trial" "LPunCourts$Court;") (by decide +kernel)) (fun _ h9 => h9) rfl hin2 rfl (by decide +kernel) rfl rfl (Nat.le_of_ble_eq_true rfl) dX1_init_23 (fun H locs hP hD hS => ?_)
  have hP : va_P D vwCl ([(h0, .inr (1, [.ref (gs0 0 0), .ref (gs1 1 0), .null, .int 0, .null, .null, .null, .int 0]))] ++ RB cs gs1 2) H := hP
  have hD : va_D A ([(h0, .inr (1, [.ref (gs0 0 0), .ref (gs1 1 0), .null, .int 0, .null, .null, .null, .int 0]))] ++ RB cs gs1 2) := hD
  refine lv_aload_n hx hb dX1_init_26 rfl (lv_at hl 0 rfl) ?_
  refine lv_bipush (v := nI 6) hx hb dX1_init_27 (by decide) ?_
  refine va_newq (C := RX0) hx hb hown (hts (.classLink RX1 7 RX0) (by decide +kernel)) hAO hK hP hD hS hA (nI_pos (by decide)) (nI_clamp (by decide)) (Nat.le_of_ble_eq_true rfl) (Nat.le_of_ble_eq_true rfl) (Nat.le_of_ble_eq_true rfl) dX1_init_29 (fun qp c29 H hK29 hP hD hS => ?_)
  have ec29 := cls_eq (t := 3) hK29 rfl
  subst ec29
  have hP := vP_rot hP
  have hD := vD_rot hD
  have hP : va_P D vwCl ([(h0, .inr (1, [.ref (gs0 0 0), .ref (gs1 1 0), .null, .int 0, .null, .null, .null, .int 0])), (qp, .inl (cs 3, 6, .inr (.inr (.inr (.inr (fun _ => none))))))] ++ RB cs gs1 2) H := hP
  have hD : va_D A ([(h0, .inr (1, [.ref (gs0 0 0), .ref (gs1 1 0), .null, .int 0, .null, .null, .null, .int 0])), (qp, .inl (cs 3, 6, .inr (.inr (.inr (.inr (fun _ => none))))))] ++ RB cs gs1 2) := hD
  refine W.widen (k := 29) (n := 750) (Nat.le_of_ble_eq_true rfl) (Nat.le_of_ble_eq_true rfl) ?_
  refine va_putF (D := D) (ci := 1) (v := .ref qp) (ty := .array (.object "PunCourts$Court")) (C := RX1) (T := TX1) (N := 8) hx hb hts hinX1 tyX1 tyX1_ok nmX1 hown hK hP hD hS 0 rfl rfl 2 (by decide) (hts (.fieldLink RX1 19 "PunCourts" "past" "[LPunCourts$Court;") (by decide +kernel)) (fun _ h9 => h9) rfl hin2 rfl (by decide +kernel) rfl rfl (Nat.le_of_ble_eq_true rfl) dX1_init_32 (fun H locs hP hD hS => ?_)
  have hP : va_P D vwCl ([(h0, .inr (1, [.ref (gs0 0 0), .ref (gs1 1 0), .ref qp, .int 0, .null, .null, .null, .int 0])), (qp, .inl (cs 3, 6, .inr (.inr (.inr (.inr (fun _ => none))))))] ++ RB cs gs1 2) H := hP
  have hD : va_D A ([(h0, .inr (1, [.ref (gs0 0 0), .ref (gs1 1 0), .ref qp, .int 0, .null, .null, .null, .int 0])), (qp, .inl (cs 3, 6, .inr (.inr (.inr (.inr (fun _ => none))))))] ++ RB cs gs1 2) := hD
  refine lv_iconst (v := nI 0) hx hb dX1_init_35 (by decide) ?_
  refine lv_istore_n (lv' := [(1, .int (nI 0)), (0, .ref h0)]) hx hb dX1_init_36 rfl hl (by decide) rfl (fun ls hl => ?_)
  refine lv_iload_n hx hb dX1_init_37 rfl (lv_at hl 0 rfl) ?_
  refine lv_bipush (v := nI 6) hx hb dX1_init_38 (by decide) ?_
  refine lv_icmp_ge (tgt := 62) hx hb dX1_init_40 (by decide) (fun c9 => absurd c9 (by decide)) (fun _ => ?_)
  refine lv_aload_n hx hb dX1_init_43 rfl (lv_at hl 1 rfl) ?_
  refine va_get (D := D) (ci := 1) (v := .ref qp) (C := RX1) (T := TX1) (N := 8) hx hb hts hinX1 hown hK hP 0 rfl rfl 2 (by decide) (hts (.fieldLink RX1 19 "PunCourts" "past" "[LPunCourts$Court;") (by decide +kernel)) (fun _ h9 => h9) rfl dX1_init_44 ?_
  refine lv_iload_n hx hb dX1_init_47 rfl (lv_at hl 0 rfl) ?_
  refine va_new (ci := 0) (fs := fr0) (C := RX0) (T := TX0) (N := 16) hx hb hts hinX0 tyX0 tyX0_ok hown (hts (.classLink RX1 7 RX0) (by decide +kernel)) (hts (.instantiable RX0 16) (by decide +kernel)) (hts (.initialized RX0) (by decide +kernel)) hK hP hD hS hA rfl fr0_ok (Nat.le_of_ble_eq_true rfl) (Nat.le_of_ble_eq_true rfl) dX1_init_48 (fun n2 H hP hD hS => ?_)
  refine W.widen (k := 30) (n := 766) (Nat.le_of_ble_eq_true rfl) (Nat.le_of_ble_eq_true rfl) ?_
  refine lv_dup hx hb dX1_init_51 rfl ?_
  have hPc := vP_last hP
  have hDc := vD_last hD
  have hFc := vfree_last hD hS hA
  refine va_callv (va_runI (As := []) (rest := [.ref n2, .int (nI 0), .ref qp]) ⟨hx, hb, hml, hown, hts⟩ (kX0_init l D cs n2 H.size) (cwI 0 hts gX1_init_X0_init rfl rfl rfl (hts (.initialized RX0) (by decide +kernel)) (hts (.methodLink RX1 9 yX0_init) (by decide +kernel)) (hts (.instanceMethod yX0_init) (by decide +kernel)) rfl (by decide +kernel) ⟨Nat.le_of_ble_eq_true rfl, Nat.le_of_ble_eq_true rfl⟩) ⟨fun a U g mk q => by obtain ⟨q0, q1, qP, qK, qD⟩ := q; exact ⟨q0, q1, qP, va_K.moved (u := U) (U := U.calling g mk a) (Vm.Alike.refl U.vm) qK, qD⟩, fun U hU hW => ⟨rfl, by rw [hU], by rw [hU]; exact hPc, va_K.moved hW.alike hK, hDc⟩⟩ rfl rfl hl.1 rfl (lv_room (Nat.le_of_ble_eq_true rfl)) dX1_init_52 ⟨Nat.le_of_ble_eq_true rfl, Nat.le_of_ble_eq_true rfl⟩) hS (fun q _ h => hFc q h) hFc (fun u t H1 locs ht hvm hw hB hz1 hk1 hS => ?_)
  obtain ⟨g2, rfl⟩ : ∃ z, z = u := ⟨_, rfl⟩
  obtain ⟨hP1, hD1⟩ := hB
  rw [ht] at hP1
  try dsimp only at hw
  obtain ⟨hP, hD⟩ := vjoin_last hP hD hk1 hFc hP1 hD1
  generalize H1 = H at hP hS ⊢
  rw [List.append_assoc, RB_s] at hP hD
  obtain ⟨gs2, hgs2⟩ : ∃ gs : Nat → Nat → Nat, (fun b => if b = 2 then g2 else gs1 b) = gs := ⟨_, rfl⟩
  rw [hgs2] at hP hD
  have eg2 : gs2 2 = g2 := by rw [← hgs2]; exact if_pos rfl
  have hw : gs2 2 0 = n2 := by rw [eg2]; exact hw
  rw [← hw]
  have hP : va_P D vwCl ([(h0, .inr (1, [.ref (gs0 0 0), .ref (gs1 1 0), .ref qp, .int 0, .null, .null, .null, .int 0])), (qp, .inl (cs 3, 6, .inr (.inr (.inr (.inr (fun _ => none))))))] ++ RB cs gs2 3) H := hP
  have hD : va_D A ([(h0, .inr (1, [.ref (gs0 0 0), .ref (gs1 1 0), .ref qp, .int 0, .null, .null, .null, .int 0])), (qp, .inl (cs 3, 6, .inr (.inr (.inr (.inr (fun _ => none))))))] ++ RB cs gs2 3) := hD
  refine W.widen (k := 43) (n := 1122) (Nat.le_of_ble_eq_true rfl) (Nat.le_of_ble_eq_true rfl) ?_
  have eo2 : ∀ b, b < 2 → gs2 b = gs1 b := fun b hb => by rw [← hgs2]; exact if_neg (by omega)
  obtain ⟨qk, hqk⟩ := List.getElem?_of_mem (List.mem_append_right [(h0, .inr (1, [.ref (gs0 0 0), .ref (gs1 1 0), .ref qp, .int 0, .null, .null, .null, .int 0])), (qp, .inl (cs 3, 6, .inr (.inr (.inr (.inr (fun _ => none))))))] (RB_mem (cs := cs) (gs := gs2) (n := 3) (show 2 < 3 by decide) (wC_head (g := gs2 2) (cs := cs) (V := frI 12))))
  refine va_astq hx hb hK hP hD hS 1 3 qk 0 (r := (RX0, TX0, 16)) rfl rfl hqk rfl (vp_in_nI (by decide) (by decide)) dX1_init_55 (fun H locs hP hD hS => ?_)
  rw [nI_clamp (by decide)] at hP hD
  have hP : va_P D vwCl ([(h0, .inr (1, [.ref (gs0 0 0), .ref (gs1 1 0), .ref qp, .int 0, .null, .null, .null, .int 0])), (qp, .inl (cs 3, 6, .inr (.inr (.inr (.inr (va_up (fun _ => none) 0 (some (gs2 2 0))))))))] ++ RB cs gs2 3) H := hP
  have hD : va_D A ([(h0, .inr (1, [.ref (gs0 0 0), .ref (gs1 1 0), .ref qp, .int 0, .null, .null, .null, .int 0])), (qp, .inl (cs 3, 6, .inr (.inr (.inr (.inr (va_up (fun _ => none) 0 (some (gs2 2 0))))))))] ++ RB cs gs2 3) := hD
  refine lv_iinc (v := nI 1) (lv' := [(1, .int (nI 1)), (0, .ref h0)]) hx hb dX1_init_56 hl (k := 0) rfl (nI_1 _) (by decide) rfl (fun ls hl => ?_)
  refine lv_goto (tgt := 37) hx hb dX1_init_59 (by decide) ?_
  refine lv_iload_n hx hb dX1_init_37 rfl (lv_at hl 0 rfl) ?_
  refine lv_bipush (v := nI 6) hx hb dX1_init_38 (by decide) ?_
  refine lv_icmp_ge (tgt := 62) hx hb dX1_init_40 (by decide) (fun c9 => absurd c9 (by decide)) (fun _ => ?_)
  refine lv_aload_n hx hb dX1_init_43 rfl (lv_at hl 1 rfl) ?_
  refine va_get (D := D) (ci := 1) (v := .ref qp) (C := RX1) (T := TX1) (N := 8) hx hb hts hinX1 hown hK hP 0 rfl rfl 2 (by decide) (hts (.fieldLink RX1 19 "PunCourts" "past" "[LPunCourts$Court;") (by decide +kernel)) (fun _ h9 => h9) rfl dX1_init_44 ?_
  refine lv_iload_n hx hb dX1_init_47 rfl (lv_at hl 0 rfl) ?_
  refine va_new (ci := 0) (fs := fr0) (C := RX0) (T := TX0) (N := 16) hx hb hts hinX0 tyX0 tyX0_ok hown (hts (.classLink RX1 7 RX0) (by decide +kernel)) (hts (.instantiable RX0 16) (by decide +kernel)) (hts (.initialized RX0) (by decide +kernel)) hK hP hD hS hA rfl fr0_ok (Nat.le_of_ble_eq_true rfl) (Nat.le_of_ble_eq_true rfl) dX1_init_48 (fun n3 H hP hD hS => ?_)
  refine W.widen (k := 44) (n := 1138) (Nat.le_of_ble_eq_true rfl) (Nat.le_of_ble_eq_true rfl) ?_
  refine lv_dup hx hb dX1_init_51 rfl ?_
  have hPc := vP_last hP
  have hDc := vD_last hD
  have hFc := vfree_last hD hS hA
  refine va_callv (va_runI (As := []) (rest := [.ref n3, .int (nI 1), .ref qp]) ⟨hx, hb, hml, hown, hts⟩ (kX0_init l D cs n3 H.size) (cwI 0 hts gX1_init_X0_init rfl rfl rfl (hts (.initialized RX0) (by decide +kernel)) (hts (.methodLink RX1 9 yX0_init) (by decide +kernel)) (hts (.instanceMethod yX0_init) (by decide +kernel)) rfl (by decide +kernel) ⟨Nat.le_of_ble_eq_true rfl, Nat.le_of_ble_eq_true rfl⟩) ⟨fun a U g mk q => by obtain ⟨q0, q1, qP, qK, qD⟩ := q; exact ⟨q0, q1, qP, va_K.moved (u := U) (U := U.calling g mk a) (Vm.Alike.refl U.vm) qK, qD⟩, fun U hU hW => ⟨rfl, by rw [hU], by rw [hU]; exact hPc, va_K.moved hW.alike hK, hDc⟩⟩ rfl rfl hl.1 rfl (lv_room (Nat.le_of_ble_eq_true rfl)) dX1_init_52 ⟨Nat.le_of_ble_eq_true rfl, Nat.le_of_ble_eq_true rfl⟩) hS (fun q _ h => hFc q h) hFc (fun u t H1 locs ht hvm hw hB hz1 hk1 hS => ?_)
  obtain ⟨g3, rfl⟩ : ∃ z, z = u := ⟨_, rfl⟩
  obtain ⟨hP1, hD1⟩ := hB
  rw [ht] at hP1
  try dsimp only at hw
  obtain ⟨hP, hD⟩ := vjoin_last hP hD hk1 hFc hP1 hD1
  generalize H1 = H at hP hS ⊢
  rw [List.append_assoc, RB_s] at hP hD
  obtain ⟨gs3, hgs3⟩ : ∃ gs : Nat → Nat → Nat, (fun b => if b = 3 then g3 else gs2 b) = gs := ⟨_, rfl⟩
  rw [hgs3] at hP hD
  have eg3 : gs3 3 = g3 := by rw [← hgs3]; exact if_pos rfl
  have hw : gs3 3 0 = n3 := by rw [eg3]; exact hw
  rw [← hw]
  have hP : va_P D vwCl ([(h0, .inr (1, [.ref (gs0 0 0), .ref (gs1 1 0), .ref qp, .int 0, .null, .null, .null, .int 0])), (qp, .inl (cs 3, 6, .inr (.inr (.inr (.inr (va_up (fun _ => none) 0 (some (gs2 2 0))))))))] ++ RB cs gs3 4) H := hP
  have hD : va_D A ([(h0, .inr (1, [.ref (gs0 0 0), .ref (gs1 1 0), .ref qp, .int 0, .null, .null, .null, .int 0])), (qp, .inl (cs 3, 6, .inr (.inr (.inr (.inr (va_up (fun _ => none) 0 (some (gs2 2 0))))))))] ++ RB cs gs3 4) := hD
  refine W.widen (k := 57) (n := 1494) (Nat.le_of_ble_eq_true rfl) (Nat.le_of_ble_eq_true rfl) ?_
  have eo3 : ∀ b, b < 3 → gs3 b = gs2 b := fun b hb => by rw [← hgs3]; exact if_neg (by omega)
  obtain ⟨qk, hqk⟩ := List.getElem?_of_mem (List.mem_append_right [(h0, .inr (1, [.ref (gs0 0 0), .ref (gs1 1 0), .ref qp, .int 0, .null, .null, .null, .int 0])), (qp, .inl (cs 3, 6, .inr (.inr (.inr (.inr (va_up (fun _ => none) 0 (some (gs2 2 0))))))))] (RB_mem (cs := cs) (gs := gs3) (n := 4) (show 3 < 4 by decide) (wC_head (g := gs3 3) (cs := cs) (V := frI 12))))
  refine va_astq hx hb hK hP hD hS 1 3 qk 0 (r := (RX0, TX0, 16)) rfl rfl hqk rfl (vp_in_nI (by decide) (by decide)) dX1_init_55 (fun H locs hP hD hS => ?_)
  rw [nI_clamp (by decide)] at hP hD
  have hP : va_P D vwCl ([(h0, .inr (1, [.ref (gs0 0 0), .ref (gs1 1 0), .ref qp, .int 0, .null, .null, .null, .int 0])), (qp, .inl (cs 3, 6, .inr (.inr (.inr (.inr (va_up (va_up (fun _ => none) 0 (some (gs2 2 0))) 1 (some (gs3 3 0))))))))] ++ RB cs gs3 4) H := hP
  have hD : va_D A ([(h0, .inr (1, [.ref (gs0 0 0), .ref (gs1 1 0), .ref qp, .int 0, .null, .null, .null, .int 0])), (qp, .inl (cs 3, 6, .inr (.inr (.inr (.inr (va_up (va_up (fun _ => none) 0 (some (gs2 2 0))) 1 (some (gs3 3 0))))))))] ++ RB cs gs3 4) := hD
  refine lv_iinc (v := nI 2) (lv' := [(1, .int (nI 2)), (0, .ref h0)]) hx hb dX1_init_56 hl (k := 0) rfl (nI_1 _) (by decide) rfl (fun ls hl => ?_)
  refine lv_goto (tgt := 37) hx hb dX1_init_59 (by decide) ?_
  refine lv_iload_n hx hb dX1_init_37 rfl (lv_at hl 0 rfl) ?_
  refine lv_bipush (v := nI 6) hx hb dX1_init_38 (by decide) ?_
  refine lv_icmp_ge (tgt := 62) hx hb dX1_init_40 (by decide) (fun c9 => absurd c9 (by decide)) (fun _ => ?_)
  refine lv_aload_n hx hb dX1_init_43 rfl (lv_at hl 1 rfl) ?_
  refine va_get (D := D) (ci := 1) (v := .ref qp) (C := RX1) (T := TX1) (N := 8) hx hb hts hinX1 hown hK hP 0 rfl rfl 2 (by decide) (hts (.fieldLink RX1 19 "PunCourts" "past" "[LPunCourts$Court;") (by decide +kernel)) (fun _ h9 => h9) rfl dX1_init_44 ?_
  refine lv_iload_n hx hb dX1_init_47 rfl (lv_at hl 0 rfl) ?_
  refine va_new (ci := 0) (fs := fr0) (C := RX0) (T := TX0) (N := 16) hx hb hts hinX0 tyX0 tyX0_ok hown (hts (.classLink RX1 7 RX0) (by decide +kernel)) (hts (.instantiable RX0 16) (by decide +kernel)) (hts (.initialized RX0) (by decide +kernel)) hK hP hD hS hA rfl fr0_ok (Nat.le_of_ble_eq_true rfl) (Nat.le_of_ble_eq_true rfl) dX1_init_48 (fun n4 H hP hD hS => ?_)
  refine W.widen (k := 58) (n := 1510) (Nat.le_of_ble_eq_true rfl) (Nat.le_of_ble_eq_true rfl) ?_
  refine lv_dup hx hb dX1_init_51 rfl ?_
  have hPc := vP_last hP
  have hDc := vD_last hD
  have hFc := vfree_last hD hS hA
  refine va_callv (va_runI (As := []) (rest := [.ref n4, .int (nI 2), .ref qp]) ⟨hx, hb, hml, hown, hts⟩ (kX0_init l D cs n4 H.size) (cwI 0 hts gX1_init_X0_init rfl rfl rfl (hts (.initialized RX0) (by decide +kernel)) (hts (.methodLink RX1 9 yX0_init) (by decide +kernel)) (hts (.instanceMethod yX0_init) (by decide +kernel)) rfl (by decide +kernel) ⟨Nat.le_of_ble_eq_true rfl, Nat.le_of_ble_eq_true rfl⟩) ⟨fun a U g mk q => by obtain ⟨q0, q1, qP, qK, qD⟩ := q; exact ⟨q0, q1, qP, va_K.moved (u := U) (U := U.calling g mk a) (Vm.Alike.refl U.vm) qK, qD⟩, fun U hU hW => ⟨rfl, by rw [hU], by rw [hU]; exact hPc, va_K.moved hW.alike hK, hDc⟩⟩ rfl rfl hl.1 rfl (lv_room (Nat.le_of_ble_eq_true rfl)) dX1_init_52 ⟨Nat.le_of_ble_eq_true rfl, Nat.le_of_ble_eq_true rfl⟩) hS (fun q _ h => hFc q h) hFc (fun u t H1 locs ht hvm hw hB hz1 hk1 hS => ?_)
  obtain ⟨g4, rfl⟩ : ∃ z, z = u := ⟨_, rfl⟩
  obtain ⟨hP1, hD1⟩ := hB
  rw [ht] at hP1
  try dsimp only at hw
  obtain ⟨hP, hD⟩ := vjoin_last hP hD hk1 hFc hP1 hD1
  generalize H1 = H at hP hS ⊢
  rw [List.append_assoc, RB_s] at hP hD
  obtain ⟨gs4, hgs4⟩ : ∃ gs : Nat → Nat → Nat, (fun b => if b = 4 then g4 else gs3 b) = gs := ⟨_, rfl⟩
  rw [hgs4] at hP hD
  have eg4 : gs4 4 = g4 := by rw [← hgs4]; exact if_pos rfl
  have hw : gs4 4 0 = n4 := by rw [eg4]; exact hw
  rw [← hw]
  have hP : va_P D vwCl ([(h0, .inr (1, [.ref (gs0 0 0), .ref (gs1 1 0), .ref qp, .int 0, .null, .null, .null, .int 0])), (qp, .inl (cs 3, 6, .inr (.inr (.inr (.inr (va_up (va_up (fun _ => none) 0 (some (gs2 2 0))) 1 (some (gs3 3 0))))))))] ++ RB cs gs4 5) H := hP
  have hD : va_D A ([(h0, .inr (1, [.ref (gs0 0 0), .ref (gs1 1 0), .ref qp, .int 0, .null, .null, .null, .int 0])), (qp, .inl (cs 3, 6, .inr (.inr (.inr (.inr (va_up (va_up (fun _ => none) 0 (some (gs2 2 0))) 1 (some (gs3 3 0))))))))] ++ RB cs gs4 5) := hD
  refine W.widen (k := 71) (n := 1866) (Nat.le_of_ble_eq_true rfl) (Nat.le_of_ble_eq_true rfl) ?_
  have eo4 : ∀ b, b < 4 → gs4 b = gs3 b := fun b hb => by rw [← hgs4]; exact if_neg (by omega)
  obtain ⟨qk, hqk⟩ := List.getElem?_of_mem (List.mem_append_right [(h0, .inr (1, [.ref (gs0 0 0), .ref (gs1 1 0), .ref qp, .int 0, .null, .null, .null, .int 0])), (qp, .inl (cs 3, 6, .inr (.inr (.inr (.inr (va_up (va_up (fun _ => none) 0 (some (gs2 2 0))) 1 (some (gs3 3 0))))))))] (RB_mem (cs := cs) (gs := gs4) (n := 5) (show 4 < 5 by decide) (wC_head (g := gs4 4) (cs := cs) (V := frI 12))))
  refine va_astq hx hb hK hP hD hS 1 3 qk 0 (r := (RX0, TX0, 16)) rfl rfl hqk rfl (vp_in_nI (by decide) (by decide)) dX1_init_55 (fun H locs hP hD hS => ?_)
  rw [nI_clamp (by decide)] at hP hD
  have hP : va_P D vwCl ([(h0, .inr (1, [.ref (gs0 0 0), .ref (gs1 1 0), .ref qp, .int 0, .null, .null, .null, .int 0])), (qp, .inl (cs 3, 6, .inr (.inr (.inr (.inr (va_up (va_up (va_up (fun _ => none) 0 (some (gs2 2 0))) 1 (some (gs3 3 0))) 2 (some (gs4 4 0))))))))] ++ RB cs gs4 5) H := hP
  have hD : va_D A ([(h0, .inr (1, [.ref (gs0 0 0), .ref (gs1 1 0), .ref qp, .int 0, .null, .null, .null, .int 0])), (qp, .inl (cs 3, 6, .inr (.inr (.inr (.inr (va_up (va_up (va_up (fun _ => none) 0 (some (gs2 2 0))) 1 (some (gs3 3 0))) 2 (some (gs4 4 0))))))))] ++ RB cs gs4 5) := hD
  refine lv_iinc (v := nI 3) (lv' := [(1, .int (nI 3)), (0, .ref h0)]) hx hb dX1_init_56 hl (k := 0) rfl (nI_1 _) (by decide) rfl (fun ls hl => ?_)
  refine lv_goto (tgt := 37) hx hb dX1_init_59 (by decide) ?_
  refine lv_iload_n hx hb dX1_init_37 rfl (lv_at hl 0 rfl) ?_
  refine lv_bipush (v := nI 6) hx hb dX1_init_38 (by decide) ?_
  refine lv_icmp_ge (tgt := 62) hx hb dX1_init_40 (by decide) (fun c9 => absurd c9 (by decide)) (fun _ => ?_)
  refine lv_aload_n hx hb dX1_init_43 rfl (lv_at hl 1 rfl) ?_
  refine va_get (D := D) (ci := 1) (v := .ref qp) (C := RX1) (T := TX1) (N := 8) hx hb hts hinX1 hown hK hP 0 rfl rfl 2 (by decide) (hts (.fieldLink RX1 19 "PunCourts" "past" "[LPunCourts$Court;") (by decide +kernel)) (fun _ h9 => h9) rfl dX1_init_44 ?_
  refine lv_iload_n hx hb dX1_init_47 rfl (lv_at hl 0 rfl) ?_
  refine va_new (ci := 0) (fs := fr0) (C := RX0) (T := TX0) (N := 16) hx hb hts hinX0 tyX0 tyX0_ok hown (hts (.classLink RX1 7 RX0) (by decide +kernel)) (hts (.instantiable RX0 16) (by decide +kernel)) (hts (.initialized RX0) (by decide +kernel)) hK hP hD hS hA rfl fr0_ok (Nat.le_of_ble_eq_true rfl) (Nat.le_of_ble_eq_true rfl) dX1_init_48 (fun n5 H hP hD hS => ?_)
  refine W.widen (k := 72) (n := 1882) (Nat.le_of_ble_eq_true rfl) (Nat.le_of_ble_eq_true rfl) ?_
  refine lv_dup hx hb dX1_init_51 rfl ?_
  have hPc := vP_last hP
  have hDc := vD_last hD
  have hFc := vfree_last hD hS hA
  refine va_callv (va_runI (As := []) (rest := [.ref n5, .int (nI 3), .ref qp]) ⟨hx, hb, hml, hown, hts⟩ (kX0_init l D cs n5 H.size) (cwI 0 hts gX1_init_X0_init rfl rfl rfl (hts (.initialized RX0) (by decide +kernel)) (hts (.methodLink RX1 9 yX0_init) (by decide +kernel)) (hts (.instanceMethod yX0_init) (by decide +kernel)) rfl (by decide +kernel) ⟨Nat.le_of_ble_eq_true rfl, Nat.le_of_ble_eq_true rfl⟩) ⟨fun a U g mk q => by obtain ⟨q0, q1, qP, qK, qD⟩ := q; exact ⟨q0, q1, qP, va_K.moved (u := U) (U := U.calling g mk a) (Vm.Alike.refl U.vm) qK, qD⟩, fun U hU hW => ⟨rfl, by rw [hU], by rw [hU]; exact hPc, va_K.moved hW.alike hK, hDc⟩⟩ rfl rfl hl.1 rfl (lv_room (Nat.le_of_ble_eq_true rfl)) dX1_init_52 ⟨Nat.le_of_ble_eq_true rfl, Nat.le_of_ble_eq_true rfl⟩) hS (fun q _ h => hFc q h) hFc (fun u t H1 locs ht hvm hw hB hz1 hk1 hS => ?_)
  obtain ⟨g5, rfl⟩ : ∃ z, z = u := ⟨_, rfl⟩
  obtain ⟨hP1, hD1⟩ := hB
  rw [ht] at hP1
  try dsimp only at hw
  obtain ⟨hP, hD⟩ := vjoin_last hP hD hk1 hFc hP1 hD1
  generalize H1 = H at hP hS ⊢
  rw [List.append_assoc, RB_s] at hP hD
  obtain ⟨gs5, hgs5⟩ : ∃ gs : Nat → Nat → Nat, (fun b => if b = 5 then g5 else gs4 b) = gs := ⟨_, rfl⟩
  rw [hgs5] at hP hD
  have eg5 : gs5 5 = g5 := by rw [← hgs5]; exact if_pos rfl
  have hw : gs5 5 0 = n5 := by rw [eg5]; exact hw
  rw [← hw]
  have hP : va_P D vwCl ([(h0, .inr (1, [.ref (gs0 0 0), .ref (gs1 1 0), .ref qp, .int 0, .null, .null, .null, .int 0])), (qp, .inl (cs 3, 6, .inr (.inr (.inr (.inr (va_up (va_up (va_up (fun _ => none) 0 (some (gs2 2 0))) 1 (some (gs3 3 0))) 2 (some (gs4 4 0))))))))] ++ RB cs gs5 6) H := hP
  have hD : va_D A ([(h0, .inr (1, [.ref (gs0 0 0), .ref (gs1 1 0), .ref qp, .int 0, .null, .null, .null, .int 0])), (qp, .inl (cs 3, 6, .inr (.inr (.inr (.inr (va_up (va_up (va_up (fun _ => none) 0 (some (gs2 2 0))) 1 (some (gs3 3 0))) 2 (some (gs4 4 0))))))))] ++ RB cs gs5 6) := hD
  refine W.widen (k := 85) (n := 2238) (Nat.le_of_ble_eq_true rfl) (Nat.le_of_ble_eq_true rfl) ?_
  have eo5 : ∀ b, b < 5 → gs5 b = gs4 b := fun b hb => by rw [← hgs5]; exact if_neg (by omega)
  obtain ⟨qk, hqk⟩ := List.getElem?_of_mem (List.mem_append_right [(h0, .inr (1, [.ref (gs0 0 0), .ref (gs1 1 0), .ref qp, .int 0, .null, .null, .null, .int 0])), (qp, .inl (cs 3, 6, .inr (.inr (.inr (.inr (va_up (va_up (va_up (fun _ => none) 0 (some (gs2 2 0))) 1 (some (gs3 3 0))) 2 (some (gs4 4 0))))))))] (RB_mem (cs := cs) (gs := gs5) (n := 6) (show 5 < 6 by decide) (wC_head (g := gs5 5) (cs := cs) (V := frI 12))))
  refine va_astq hx hb hK hP hD hS 1 3 qk 0 (r := (RX0, TX0, 16)) rfl rfl hqk rfl (vp_in_nI (by decide) (by decide)) dX1_init_55 (fun H locs hP hD hS => ?_)
  rw [nI_clamp (by decide)] at hP hD
  have hP : va_P D vwCl ([(h0, .inr (1, [.ref (gs0 0 0), .ref (gs1 1 0), .ref qp, .int 0, .null, .null, .null, .int 0])), (qp, .inl (cs 3, 6, .inr (.inr (.inr (.inr (va_up (va_up (va_up (va_up (fun _ => none) 0 (some (gs2 2 0))) 1 (some (gs3 3 0))) 2 (some (gs4 4 0))) 3 (some (gs5 5 0))))))))] ++ RB cs gs5 6) H := hP
  have hD : va_D A ([(h0, .inr (1, [.ref (gs0 0 0), .ref (gs1 1 0), .ref qp, .int 0, .null, .null, .null, .int 0])), (qp, .inl (cs 3, 6, .inr (.inr (.inr (.inr (va_up (va_up (va_up (va_up (fun _ => none) 0 (some (gs2 2 0))) 1 (some (gs3 3 0))) 2 (some (gs4 4 0))) 3 (some (gs5 5 0))))))))] ++ RB cs gs5 6) := hD
  refine lv_iinc (v := nI 4) (lv' := [(1, .int (nI 4)), (0, .ref h0)]) hx hb dX1_init_56 hl (k := 0) rfl (nI_1 _) (by decide) rfl (fun ls hl => ?_)
  refine lv_goto (tgt := 37) hx hb dX1_init_59 (by decide) ?_
  refine lv_iload_n hx hb dX1_init_37 rfl (lv_at hl 0 rfl) ?_
  refine lv_bipush (v := nI 6) hx hb dX1_init_38 (by decide) ?_
  refine lv_icmp_ge (tgt := 62) hx hb dX1_init_40 (by decide) (fun c9 => absurd c9 (by decide)) (fun _ => ?_)
  refine lv_aload_n hx hb dX1_init_43 rfl (lv_at hl 1 rfl) ?_
  refine va_get (D := D) (ci := 1) (v := .ref qp) (C := RX1) (T := TX1) (N := 8) hx hb hts hinX1 hown hK hP 0 rfl rfl 2 (by decide) (hts (.fieldLink RX1 19 "PunCourts" "past" "[LPunCourts$Court;") (by decide +kernel)) (fun _ h9 => h9) rfl dX1_init_44 ?_
  refine lv_iload_n hx hb dX1_init_47 rfl (lv_at hl 0 rfl) ?_
  refine va_new (ci := 0) (fs := fr0) (C := RX0) (T := TX0) (N := 16) hx hb hts hinX0 tyX0 tyX0_ok hown (hts (.classLink RX1 7 RX0) (by decide +kernel)) (hts (.instantiable RX0 16) (by decide +kernel)) (hts (.initialized RX0) (by decide +kernel)) hK hP hD hS hA rfl fr0_ok (Nat.le_of_ble_eq_true rfl) (Nat.le_of_ble_eq_true rfl) dX1_init_48 (fun n6 H hP hD hS => ?_)
  refine W.widen (k := 86) (n := 2254) (Nat.le_of_ble_eq_true rfl) (Nat.le_of_ble_eq_true rfl) ?_
  refine lv_dup hx hb dX1_init_51 rfl ?_
  have hPc := vP_last hP
  have hDc := vD_last hD
  have hFc := vfree_last hD hS hA
  refine va_callv (va_runI (As := []) (rest := [.ref n6, .int (nI 4), .ref qp]) ⟨hx, hb, hml, hown, hts⟩ (kX0_init l D cs n6 H.size) (cwI 0 hts gX1_init_X0_init rfl rfl rfl (hts (.initialized RX0) (by decide +kernel)) (hts (.methodLink RX1 9 yX0_init) (by decide +kernel)) (hts (.instanceMethod yX0_init) (by decide +kernel)) rfl (by decide +kernel) ⟨Nat.le_of_ble_eq_true rfl, Nat.le_of_ble_eq_true rfl⟩) ⟨fun a U g mk q => by obtain ⟨q0, q1, qP, qK, qD⟩ := q; exact ⟨q0, q1, qP, va_K.moved (u := U) (U := U.calling g mk a) (Vm.Alike.refl U.vm) qK, qD⟩, fun U hU hW => ⟨rfl, by rw [hU], by rw [hU]; exact hPc, va_K.moved hW.alike hK, hDc⟩⟩ rfl rfl hl.1 rfl (lv_room (Nat.le_of_ble_eq_true rfl)) dX1_init_52 ⟨Nat.le_of_ble_eq_true rfl, Nat.le_of_ble_eq_true rfl⟩) hS (fun q _ h => hFc q h) hFc (fun u t H1 locs ht hvm hw hB hz1 hk1 hS => ?_)
  obtain ⟨g6, rfl⟩ : ∃ z, z = u := ⟨_, rfl⟩
  obtain ⟨hP1, hD1⟩ := hB
  rw [ht] at hP1
  try dsimp only at hw
  obtain ⟨hP, hD⟩ := vjoin_last hP hD hk1 hFc hP1 hD1
  generalize H1 = H at hP hS ⊢
  rw [List.append_assoc, RB_s] at hP hD
  obtain ⟨gs6, hgs6⟩ : ∃ gs : Nat → Nat → Nat, (fun b => if b = 6 then g6 else gs5 b) = gs := ⟨_, rfl⟩
  rw [hgs6] at hP hD
  have eg6 : gs6 6 = g6 := by rw [← hgs6]; exact if_pos rfl
  have hw : gs6 6 0 = n6 := by rw [eg6]; exact hw
  rw [← hw]
  have hP : va_P D vwCl ([(h0, .inr (1, [.ref (gs0 0 0), .ref (gs1 1 0), .ref qp, .int 0, .null, .null, .null, .int 0])), (qp, .inl (cs 3, 6, .inr (.inr (.inr (.inr (va_up (va_up (va_up (va_up (fun _ => none) 0 (some (gs2 2 0))) 1 (some (gs3 3 0))) 2 (some (gs4 4 0))) 3 (some (gs5 5 0))))))))] ++ RB cs gs6 7) H := hP
  have hD : va_D A ([(h0, .inr (1, [.ref (gs0 0 0), .ref (gs1 1 0), .ref qp, .int 0, .null, .null, .null, .int 0])), (qp, .inl (cs 3, 6, .inr (.inr (.inr (.inr (va_up (va_up (va_up (va_up (fun _ => none) 0 (some (gs2 2 0))) 1 (some (gs3 3 0))) 2 (some (gs4 4 0))) 3 (some (gs5 5 0))))))))] ++ RB cs gs6 7) := hD
  refine W.widen (k := 99) (n := 2610) (Nat.le_of_ble_eq_true rfl) (Nat.le_of_ble_eq_true rfl) ?_
  have eo6 : ∀ b, b < 6 → gs6 b = gs5 b := fun b hb => by rw [← hgs6]; exact if_neg (by omega)
  obtain ⟨qk, hqk⟩ := List.getElem?_of_mem (List.mem_append_right [(h0, .inr (1, [.ref (gs0 0 0), .ref (gs1 1 0), .ref qp, .int 0, .null, .null, .null, .int 0])), (qp, .inl (cs 3, 6, .inr (.inr (.inr (.inr (va_up (va_up (va_up (va_up (fun _ => none) 0 (some (gs2 2 0))) 1 (some (gs3 3 0))) 2 (some (gs4 4 0))) 3 (some (gs5 5 0))))))))] (RB_mem (cs := cs) (gs := gs6) (n := 7) (show 6 < 7 by decide) (wC_head (g := gs6 6) (cs := cs) (V := frI 12))))
  refine va_astq hx hb hK hP hD hS 1 3 qk 0 (r := (RX0, TX0, 16)) rfl rfl hqk rfl (vp_in_nI (by decide) (by decide)) dX1_init_55 (fun H locs hP hD hS => ?_)
  rw [nI_clamp (by decide)] at hP hD
  have hP : va_P D vwCl ([(h0, .inr (1, [.ref (gs0 0 0), .ref (gs1 1 0), .ref qp, .int 0, .null, .null, .null, .int 0])), (qp, .inl (cs 3, 6, .inr (.inr (.inr (.inr (va_up (va_up (va_up (va_up (va_up (fun _ => none) 0 (some (gs2 2 0))) 1 (some (gs3 3 0))) 2 (some (gs4 4 0))) 3 (some (gs5 5 0))) 4 (some (gs6 6 0))))))))] ++ RB cs gs6 7) H := hP
  have hD : va_D A ([(h0, .inr (1, [.ref (gs0 0 0), .ref (gs1 1 0), .ref qp, .int 0, .null, .null, .null, .int 0])), (qp, .inl (cs 3, 6, .inr (.inr (.inr (.inr (va_up (va_up (va_up (va_up (va_up (fun _ => none) 0 (some (gs2 2 0))) 1 (some (gs3 3 0))) 2 (some (gs4 4 0))) 3 (some (gs5 5 0))) 4 (some (gs6 6 0))))))))] ++ RB cs gs6 7) := hD
  refine lv_iinc (v := nI 5) (lv' := [(1, .int (nI 5)), (0, .ref h0)]) hx hb dX1_init_56 hl (k := 0) rfl (nI_1 _) (by decide) rfl (fun ls hl => ?_)
  refine lv_goto (tgt := 37) hx hb dX1_init_59 (by decide) ?_
  refine lv_iload_n hx hb dX1_init_37 rfl (lv_at hl 0 rfl) ?_
  refine lv_bipush (v := nI 6) hx hb dX1_init_38 (by decide) ?_
  refine lv_icmp_ge (tgt := 62) hx hb dX1_init_40 (by decide) (fun c9 => absurd c9 (by decide)) (fun _ => ?_)
  refine lv_aload_n hx hb dX1_init_43 rfl (lv_at hl 1 rfl) ?_
  refine va_get (D := D) (ci := 1) (v := .ref qp) (C := RX1) (T := TX1) (N := 8) hx hb hts hinX1 hown hK hP 0 rfl rfl 2 (by decide) (hts (.fieldLink RX1 19 "PunCourts" "past" "[LPunCourts$Court;") (by decide +kernel)) (fun _ h9 => h9) rfl dX1_init_44 ?_
  refine lv_iload_n hx hb dX1_init_47 rfl (lv_at hl 0 rfl) ?_
  refine va_new (ci := 0) (fs := fr0) (C := RX0) (T := TX0) (N := 16) hx hb hts hinX0 tyX0 tyX0_ok hown (hts (.classLink RX1 7 RX0) (by decide +kernel)) (hts (.instantiable RX0 16) (by decide +kernel)) (hts (.initialized RX0) (by decide +kernel)) hK hP hD hS hA rfl fr0_ok (Nat.le_of_ble_eq_true rfl) (Nat.le_of_ble_eq_true rfl) dX1_init_48 (fun n7 H hP hD hS => ?_)
  refine W.widen (k := 100) (n := 2626) (Nat.le_of_ble_eq_true rfl) (Nat.le_of_ble_eq_true rfl) ?_
  refine lv_dup hx hb dX1_init_51 rfl ?_
  have hPc := vP_last hP
  have hDc := vD_last hD
  have hFc := vfree_last hD hS hA
  refine va_callv (va_runI (As := []) (rest := [.ref n7, .int (nI 5), .ref qp]) ⟨hx, hb, hml, hown, hts⟩ (kX0_init l D cs n7 H.size) (cwI 0 hts gX1_init_X0_init rfl rfl rfl (hts (.initialized RX0) (by decide +kernel)) (hts (.methodLink RX1 9 yX0_init) (by decide +kernel)) (hts (.instanceMethod yX0_init) (by decide +kernel)) rfl (by decide +kernel) ⟨Nat.le_of_ble_eq_true rfl, Nat.le_of_ble_eq_true rfl⟩) ⟨fun a U g mk q => by obtain ⟨q0, q1, qP, qK, qD⟩ := q; exact ⟨q0, q1, qP, va_K.moved (u := U) (U := U.calling g mk a) (Vm.Alike.refl U.vm) qK, qD⟩, fun U hU hW => ⟨rfl, by rw [hU], by rw [hU]; exact hPc, va_K.moved hW.alike hK, hDc⟩⟩ rfl rfl hl.1 rfl (lv_room (Nat.le_of_ble_eq_true rfl)) dX1_init_52 ⟨Nat.le_of_ble_eq_true rfl, Nat.le_of_ble_eq_true rfl⟩) hS (fun q _ h => hFc q h) hFc (fun u t H1 locs ht hvm hw hB hz1 hk1 hS => ?_)
  obtain ⟨g7, rfl⟩ : ∃ z, z = u := ⟨_, rfl⟩
  obtain ⟨hP1, hD1⟩ := hB
  rw [ht] at hP1
  try dsimp only at hw
  obtain ⟨hP, hD⟩ := vjoin_last hP hD hk1 hFc hP1 hD1
  generalize H1 = H at hP hS ⊢
  rw [List.append_assoc, RB_s] at hP hD
  obtain ⟨gs7, hgs7⟩ : ∃ gs : Nat → Nat → Nat, (fun b => if b = 7 then g7 else gs6 b) = gs := ⟨_, rfl⟩
  rw [hgs7] at hP hD
  have eg7 : gs7 7 = g7 := by rw [← hgs7]; exact if_pos rfl
  have hw : gs7 7 0 = n7 := by rw [eg7]; exact hw
  rw [← hw]
  have hP : va_P D vwCl ([(h0, .inr (1, [.ref (gs0 0 0), .ref (gs1 1 0), .ref qp, .int 0, .null, .null, .null, .int 0])), (qp, .inl (cs 3, 6, .inr (.inr (.inr (.inr (va_up (va_up (va_up (va_up (va_up (fun _ => none) 0 (some (gs2 2 0))) 1 (some (gs3 3 0))) 2 (some (gs4 4 0))) 3 (some (gs5 5 0))) 4 (some (gs6 6 0))))))))] ++ RB cs gs7 8) H := hP
  have hD : va_D A ([(h0, .inr (1, [.ref (gs0 0 0), .ref (gs1 1 0), .ref qp, .int 0, .null, .null, .null, .int 0])), (qp, .inl (cs 3, 6, .inr (.inr (.inr (.inr (va_up (va_up (va_up (va_up (va_up (fun _ => none) 0 (some (gs2 2 0))) 1 (some (gs3 3 0))) 2 (some (gs4 4 0))) 3 (some (gs5 5 0))) 4 (some (gs6 6 0))))))))] ++ RB cs gs7 8) := hD
  refine W.widen (k := 113) (n := 2982) (Nat.le_of_ble_eq_true rfl) (Nat.le_of_ble_eq_true rfl) ?_
  have eo7 : ∀ b, b < 7 → gs7 b = gs6 b := fun b hb => by rw [← hgs7]; exact if_neg (by omega)
  obtain ⟨qk, hqk⟩ := List.getElem?_of_mem (List.mem_append_right [(h0, .inr (1, [.ref (gs0 0 0), .ref (gs1 1 0), .ref qp, .int 0, .null, .null, .null, .int 0])), (qp, .inl (cs 3, 6, .inr (.inr (.inr (.inr (va_up (va_up (va_up (va_up (va_up (fun _ => none) 0 (some (gs2 2 0))) 1 (some (gs3 3 0))) 2 (some (gs4 4 0))) 3 (some (gs5 5 0))) 4 (some (gs6 6 0))))))))] (RB_mem (cs := cs) (gs := gs7) (n := 8) (show 7 < 8 by decide) (wC_head (g := gs7 7) (cs := cs) (V := frI 12))))
  refine va_astq hx hb hK hP hD hS 1 3 qk 0 (r := (RX0, TX0, 16)) rfl rfl hqk rfl (vp_in_nI (by decide) (by decide)) dX1_init_55 (fun H locs hP hD hS => ?_)
  rw [nI_clamp (by decide)] at hP hD
  have hP : va_P D vwCl ([(h0, .inr (1, [.ref (gs0 0 0), .ref (gs1 1 0), .ref qp, .int 0, .null, .null, .null, .int 0])), (qp, .inl (cs 3, 6, .inr (.inr (.inr (.inr (va_up (va_up (va_up (va_up (va_up (va_up (fun _ => none) 0 (some (gs2 2 0))) 1 (some (gs3 3 0))) 2 (some (gs4 4 0))) 3 (some (gs5 5 0))) 4 (some (gs6 6 0))) 5 (some (gs7 7 0))))))))] ++ RB cs gs7 8) H := hP
  have hD : va_D A ([(h0, .inr (1, [.ref (gs0 0 0), .ref (gs1 1 0), .ref qp, .int 0, .null, .null, .null, .int 0])), (qp, .inl (cs 3, 6, .inr (.inr (.inr (.inr (va_up (va_up (va_up (va_up (va_up (va_up (fun _ => none) 0 (some (gs2 2 0))) 1 (some (gs3 3 0))) 2 (some (gs4 4 0))) 3 (some (gs5 5 0))) 4 (some (gs6 6 0))) 5 (some (gs7 7 0))))))))] ++ RB cs gs7 8) := hD
  refine lv_iinc (v := nI 6) (lv' := [(1, .int (nI 6)), (0, .ref h0)]) hx hb dX1_init_56 hl (k := 0) rfl (nI_1 _) (by decide) rfl (fun ls hl => ?_)
  refine lv_goto (tgt := 37) hx hb dX1_init_59 (by decide) ?_
  refine lv_iload_n hx hb dX1_init_37 rfl (lv_at hl 0 rfl) ?_
  refine lv_bipush (v := nI 6) hx hb dX1_init_38 (by decide) ?_
  refine lv_icmp_ge (tgt := 62) hx hb dX1_init_40 (by decide) (fun _ => ?_) (fun c9 => absurd (by decide) c9)
  refine lv_aload_n hx hb dX1_init_62 rfl (lv_at hl 1 rfl) ?_
  refine lv_iconst (v := nI 2) hx hb dX1_init_63 (by decide) ?_
  refine va_newq (C := RX0) hx hb hown (hts (.classLink RX1 7 RX0) (by decide +kernel)) hAO hK hP hD hS hA (nI_pos (by decide)) (nI_clamp (by decide)) (Nat.le_of_ble_eq_true rfl) (Nat.le_of_ble_eq_true rfl) (Nat.le_of_ble_eq_true rfl) dX1_init_64 (fun qs c64 H hK64 hP hD hS => ?_)
  have ec64 := cls_eq (t := 3) hK64 rfl
  subst ec64
  have hP := vP_rot hP
  have hD := vD_rot hD
  have hP : va_P D vwCl ([(h0, .inr (1, [.ref (gs0 0 0), .ref (gs1 1 0), .ref qp, .int 0, .null, .null, .null, .int 0])), (qp, .inl (cs 3, 6, .inr (.inr (.inr (.inr (va_up (va_up (va_up (va_up (va_up (va_up (fun _ => none) 0 (some (gs2 2 0))) 1 (some (gs3 3 0))) 2 (some (gs4 4 0))) 3 (some (gs5 5 0))) 4 (some (gs6 6 0))) 5 (some (gs7 7 0)))))))), (qs, .inl (cs 3, 2, .inr (.inr (.inr (.inr (fun _ => none))))))] ++ RB cs gs7 8) H := hP
  have hD : va_D A ([(h0, .inr (1, [.ref (gs0 0 0), .ref (gs1 1 0), .ref qp, .int 0, .null, .null, .null, .int 0])), (qp, .inl (cs 3, 6, .inr (.inr (.inr (.inr (va_up (va_up (va_up (va_up (va_up (va_up (fun _ => none) 0 (some (gs2 2 0))) 1 (some (gs3 3 0))) 2 (some (gs4 4 0))) 3 (some (gs5 5 0))) 4 (some (gs6 6 0))) 5 (some (gs7 7 0)))))))), (qs, .inl (cs 3, 2, .inr (.inr (.inr (.inr (fun _ => none))))))] ++ RB cs gs7 8) := hD
  refine W.widen (k := 114) (n := 2984) (Nat.le_of_ble_eq_true rfl) (Nat.le_of_ble_eq_true rfl) ?_
  refine va_putF (D := D) (ci := 1) (v := .ref qs) (ty := .array (.object "PunCourts$Court")) (C := RX1) (T := TX1) (N := 8) hx hb hts hinX1 tyX1 tyX1_ok nmX1 hown hK hP hD hS 0 rfl rfl 4 (by decide) (hts (.fieldLink RX1 23 "PunCourts" "slots" "[LPunCourts$Court;") (by decide +kernel)) (fun _ h9 => h9) rfl hin2 rfl (by decide +kernel) rfl rfl (Nat.le_of_ble_eq_true rfl) dX1_init_67 (fun H locs hP hD hS => ?_)
  have hP : va_P D vwCl ([(h0, .inr (1, [.ref (gs0 0 0), .ref (gs1 1 0), .ref qp, .int 0, .ref qs, .null, .null, .int 0])), (qp, .inl (cs 3, 6, .inr (.inr (.inr (.inr (va_up (va_up (va_up (va_up (va_up (va_up (fun _ => none) 0 (some (gs2 2 0))) 1 (some (gs3 3 0))) 2 (some (gs4 4 0))) 3 (some (gs5 5 0))) 4 (some (gs6 6 0))) 5 (some (gs7 7 0)))))))), (qs, .inl (cs 3, 2, .inr (.inr (.inr (.inr (fun _ => none))))))] ++ RB cs gs7 8) H := hP
  have hD : va_D A ([(h0, .inr (1, [.ref (gs0 0 0), .ref (gs1 1 0), .ref qp, .int 0, .ref qs, .null, .null, .int 0])), (qp, .inl (cs 3, 6, .inr (.inr (.inr (.inr (va_up (va_up (va_up (va_up (va_up (va_up (fun _ => none) 0 (some (gs2 2 0))) 1 (some (gs3 3 0))) 2 (some (gs4 4 0))) 3 (some (gs5 5 0))) 4 (some (gs6 6 0))) 5 (some (gs7 7 0)))))))), (qs, .inl (cs 3, 2, .inr (.inr (.inr (.inr (fun _ => none))))))] ++ RB cs gs7 8) := hD
  refine lv_iconst (v := nI 0) hx hb dX1_init_70 (by decide) ?_
  refine lv_istore_n (lv' := [(1, .int (nI 0)), (0, .ref h0)]) hx hb dX1_init_71 rfl hl (by decide) rfl (fun ls hl => ?_)
  refine lv_iload_n hx hb dX1_init_72 rfl (lv_at hl 0 rfl) ?_
  refine lv_iconst (v := nI 2) hx hb dX1_init_73 (by decide) ?_
  refine lv_icmp_ge (tgt := 96) hx hb dX1_init_74 (by decide) (fun c9 => absurd c9 (by decide)) (fun _ => ?_)
  refine lv_aload_n hx hb dX1_init_77 rfl (lv_at hl 1 rfl) ?_
  refine va_get (D := D) (ci := 1) (v := .ref qs) (C := RX1) (T := TX1) (N := 8) hx hb hts hinX1 hown hK hP 0 rfl rfl 4 (by decide) (hts (.fieldLink RX1 23 "PunCourts" "slots" "[LPunCourts$Court;") (by decide +kernel)) (fun _ h9 => h9) rfl dX1_init_78 ?_
  refine lv_iload_n hx hb dX1_init_81 rfl (lv_at hl 0 rfl) ?_
  refine va_new (ci := 0) (fs := fr0) (C := RX0) (T := TX0) (N := 16) hx hb hts hinX0 tyX0 tyX0_ok hown (hts (.classLink RX1 7 RX0) (by decide +kernel)) (hts (.instantiable RX0 16) (by decide +kernel)) (hts (.initialized RX0) (by decide +kernel)) hK hP hD hS hA rfl fr0_ok (Nat.le_of_ble_eq_true rfl) (Nat.le_of_ble_eq_true rfl) dX1_init_82 (fun n8 H hP hD hS => ?_)
  refine W.widen (k := 115) (n := 3000) (Nat.le_of_ble_eq_true rfl) (Nat.le_of_ble_eq_true rfl) ?_
  refine lv_dup hx hb dX1_init_85 rfl ?_
  have hPc := vP_last hP
  have hDc := vD_last hD
  have hFc := vfree_last hD hS hA
  refine va_callv (va_runI (As := []) (rest := [.ref n8, .int (nI 0), .ref qs]) ⟨hx, hb, hml, hown, hts⟩ (kX0_init l D cs n8 H.size) (cwI 0 hts gX1_init_X0_init rfl rfl rfl (hts (.initialized RX0) (by decide +kernel)) (hts (.methodLink RX1 9 yX0_init) (by decide +kernel)) (hts (.instanceMethod yX0_init) (by decide +kernel)) rfl (by decide +kernel) ⟨Nat.le_of_ble_eq_true rfl, Nat.le_of_ble_eq_true rfl⟩) ⟨fun a U g mk q => by obtain ⟨q0, q1, qP, qK, qD⟩ := q; exact ⟨q0, q1, qP, va_K.moved (u := U) (U := U.calling g mk a) (Vm.Alike.refl U.vm) qK, qD⟩, fun U hU hW => ⟨rfl, by rw [hU], by rw [hU]; exact hPc, va_K.moved hW.alike hK, hDc⟩⟩ rfl rfl hl.1 rfl (lv_room (Nat.le_of_ble_eq_true rfl)) dX1_init_86 ⟨Nat.le_of_ble_eq_true rfl, Nat.le_of_ble_eq_true rfl⟩) hS (fun q _ h => hFc q h) hFc (fun u t H1 locs ht hvm hw hB hz1 hk1 hS => ?_)
  obtain ⟨g8, rfl⟩ : ∃ z, z = u := ⟨_, rfl⟩
  obtain ⟨hP1, hD1⟩ := hB
  rw [ht] at hP1
  try dsimp only at hw
  obtain ⟨hP, hD⟩ := vjoin_last hP hD hk1 hFc hP1 hD1
  generalize H1 = H at hP hS ⊢
  rw [List.append_assoc, RB_s] at hP hD
  obtain ⟨gs8, hgs8⟩ : ∃ gs : Nat → Nat → Nat, (fun b => if b = 8 then g8 else gs7 b) = gs := ⟨_, rfl⟩
  rw [hgs8] at hP hD
  have eg8 : gs8 8 = g8 := by rw [← hgs8]; exact if_pos rfl
  have hw : gs8 8 0 = n8 := by rw [eg8]; exact hw
  rw [← hw]
  have hP : va_P D vwCl ([(h0, .inr (1, [.ref (gs0 0 0), .ref (gs1 1 0), .ref qp, .int 0, .ref qs, .null, .null, .int 0])), (qp, .inl (cs 3, 6, .inr (.inr (.inr (.inr (va_up (va_up (va_up (va_up (va_up (va_up (fun _ => none) 0 (some (gs2 2 0))) 1 (some (gs3 3 0))) 2 (some (gs4 4 0))) 3 (some (gs5 5 0))) 4 (some (gs6 6 0))) 5 (some (gs7 7 0)))))))), (qs, .inl (cs 3, 2, .inr (.inr (.inr (.inr (fun _ => none))))))] ++ RB cs gs8 9) H := hP
  have hD : va_D A ([(h0, .inr (1, [.ref (gs0 0 0), .ref (gs1 1 0), .ref qp, .int 0, .ref qs, .null, .null, .int 0])), (qp, .inl (cs 3, 6, .inr (.inr (.inr (.inr (va_up (va_up (va_up (va_up (va_up (va_up (fun _ => none) 0 (some (gs2 2 0))) 1 (some (gs3 3 0))) 2 (some (gs4 4 0))) 3 (some (gs5 5 0))) 4 (some (gs6 6 0))) 5 (some (gs7 7 0)))))))), (qs, .inl (cs 3, 2, .inr (.inr (.inr (.inr (fun _ => none))))))] ++ RB cs gs8 9) := hD
  refine W.widen (k := 128) (n := 3356) (Nat.le_of_ble_eq_true rfl) (Nat.le_of_ble_eq_true rfl) ?_
  have eo8 : ∀ b, b < 8 → gs8 b = gs7 b := fun b hb => by rw [← hgs8]; exact if_neg (by omega)
  obtain ⟨qk, hqk⟩ := List.getElem?_of_mem (List.mem_append_right [(h0, .inr (1, [.ref (gs0 0 0), .ref (gs1 1 0), .ref qp, .int 0, .ref qs, .null, .null, .int 0])), (qp, .inl (cs 3, 6, .inr (.inr (.inr (.inr (va_up (va_up (va_up (va_up (va_up (va_up (fun _ => none) 0 (some (gs2 2 0))) 1 (some (gs3 3 0))) 2 (some (gs4 4 0))) 3 (some (gs5 5 0))) 4 (some (gs6 6 0))) 5 (some (gs7 7 0)))))))), (qs, .inl (cs 3, 2, .inr (.inr (.inr (.inr (fun _ => none))))))] (RB_mem (cs := cs) (gs := gs8) (n := 9) (show 8 < 9 by decide) (wC_head (g := gs8 8) (cs := cs) (V := frI 12))))
  refine va_astq hx hb hK hP hD hS 2 3 qk 0 (r := (RX0, TX0, 16)) rfl rfl hqk rfl (vp_in_nI (by decide) (by decide)) dX1_init_89 (fun H locs hP hD hS => ?_)
  rw [nI_clamp (by decide)] at hP hD
  have hP : va_P D vwCl ([(h0, .inr (1, [.ref (gs0 0 0), .ref (gs1 1 0), .ref qp, .int 0, .ref qs, .null, .null, .int 0])), (qp, .inl (cs 3, 6, .inr (.inr (.inr (.inr (va_up (va_up (va_up (va_up (va_up (va_up (fun _ => none) 0 (some (gs2 2 0))) 1 (some (gs3 3 0))) 2 (some (gs4 4 0))) 3 (some (gs5 5 0))) 4 (some (gs6 6 0))) 5 (some (gs7 7 0)))))))), (qs, .inl (cs 3, 2, .inr (.inr (.inr (.inr (va_up (fun _ => none) 0 (some (gs8 8 0))))))))] ++ RB cs gs8 9) H := hP
  have hD : va_D A ([(h0, .inr (1, [.ref (gs0 0 0), .ref (gs1 1 0), .ref qp, .int 0, .ref qs, .null, .null, .int 0])), (qp, .inl (cs 3, 6, .inr (.inr (.inr (.inr (va_up (va_up (va_up (va_up (va_up (va_up (fun _ => none) 0 (some (gs2 2 0))) 1 (some (gs3 3 0))) 2 (some (gs4 4 0))) 3 (some (gs5 5 0))) 4 (some (gs6 6 0))) 5 (some (gs7 7 0)))))))), (qs, .inl (cs 3, 2, .inr (.inr (.inr (.inr (va_up (fun _ => none) 0 (some (gs8 8 0))))))))] ++ RB cs gs8 9) := hD
  refine lv_iinc (v := nI 1) (lv' := [(1, .int (nI 1)), (0, .ref h0)]) hx hb dX1_init_90 hl (k := 0) rfl (nI_1 _) (by decide) rfl (fun ls hl => ?_)
  refine lv_goto (tgt := 72) hx hb dX1_init_93 (by decide) ?_
  refine lv_iload_n hx hb dX1_init_72 rfl (lv_at hl 0 rfl) ?_
  refine lv_iconst (v := nI 2) hx hb dX1_init_73 (by decide) ?_
  refine lv_icmp_ge (tgt := 96) hx hb dX1_init_74 (by decide) (fun c9 => absurd c9 (by decide)) (fun _ => ?_)
  refine lv_aload_n hx hb dX1_init_77 rfl (lv_at hl 1 rfl) ?_
  refine va_get (D := D) (ci := 1) (v := .ref qs) (C := RX1) (T := TX1) (N := 8) hx hb hts hinX1 hown hK hP 0 rfl rfl 4 (by decide) (hts (.fieldLink RX1 23 "PunCourts" "slots" "[LPunCourts$Court;") (by decide +kernel)) (fun _ h9 => h9) rfl dX1_init_78 ?_
  refine lv_iload_n hx hb dX1_init_81 rfl (lv_at hl 0 rfl) ?_
  refine va_new (ci := 0) (fs := fr0) (C := RX0) (T := TX0) (N := 16) hx hb hts hinX0 tyX0 tyX0_ok hown (hts (.classLink RX1 7 RX0) (by decide +kernel)) (hts (.instantiable RX0 16) (by decide +kernel)) (hts (.initialized RX0) (by decide +kernel)) hK hP hD hS hA rfl fr0_ok (Nat.le_of_ble_eq_true rfl) (Nat.le_of_ble_eq_true rfl) dX1_init_82 (fun n9 H hP hD hS => ?_)
  refine W.widen (k := 129) (n := 3372) (Nat.le_of_ble_eq_true rfl) (Nat.le_of_ble_eq_true rfl) ?_
  refine lv_dup hx hb dX1_init_85 rfl ?_
  have hPc := vP_last hP
  have hDc := vD_last hD
  have hFc := vfree_last hD hS hA
  refine va_callv (va_runI (As := []) (rest := [.ref n9, .int (nI 1), .ref qs]) ⟨hx, hb, hml, hown, hts⟩ (kX0_init l D cs n9 H.size) (cwI 0 hts gX1_init_X0_init rfl rfl rfl (hts (.initialized RX0) (by decide +kernel)) (hts (.methodLink RX1 9 yX0_init) (by decide +kernel)) (hts (.instanceMethod yX0_init) (by decide +kernel)) rfl (by decide +kernel) ⟨Nat.le_of_ble_eq_true rfl, Nat.le_of_ble_eq_true rfl⟩) ⟨fun a U g mk q => by obtain ⟨q0, q1, qP, qK, qD⟩ := q; exact ⟨q0, q1, qP, va_K.moved (u := U) (U := U.calling g mk a) (Vm.Alike.refl U.vm) qK, qD⟩, fun U hU hW => ⟨rfl, by rw [hU], by rw [hU]; exact hPc, va_K.moved hW.alike hK, hDc⟩⟩ rfl rfl hl.1 rfl (lv_room (Nat.le_of_ble_eq_true rfl)) dX1_init_86 ⟨Nat.le_of_ble_eq_true rfl, Nat.le_of_ble_eq_true rfl⟩) hS (fun q _ h => hFc q h) hFc (fun u t H1 locs ht hvm hw hB hz1 hk1 hS => ?_)
  obtain ⟨g9, rfl⟩ : ∃ z, z = u := ⟨_, rfl⟩
  obtain ⟨hP1, hD1⟩ := hB
  rw [ht] at hP1
  try dsimp only at hw
  obtain ⟨hP, hD⟩ := vjoin_last hP hD hk1 hFc hP1 hD1
  generalize H1 = H at hP hS ⊢
  rw [List.append_assoc, RB_s] at hP hD
  obtain ⟨gs9, hgs9⟩ : ∃ gs : Nat → Nat → Nat, (fun b => if b = 9 then g9 else gs8 b) = gs := ⟨_, rfl⟩
  rw [hgs9] at hP hD
  have eg9 : gs9 9 = g9 := by rw [← hgs9]; exact if_pos rfl
  have hw : gs9 9 0 = n9 := by rw [eg9]; exact hw
  rw [← hw]
  have hP : va_P D vwCl ([(h0, .inr (1, [.ref (gs0 0 0), .ref (gs1 1 0), .ref qp, .int 0, .ref qs, .null, .null, .int 0])), (qp, .inl (cs 3, 6, .inr (.inr (.inr (.inr (va_up (va_up (va_up (va_up (va_up (va_up (fun _ => none) 0 (some (gs2 2 0))) 1 (some (gs3 3 0))) 2 (some (gs4 4 0))) 3 (some (gs5 5 0))) 4 (some (gs6 6 0))) 5 (some (gs7 7 0)))))))), (qs, .inl (cs 3, 2, .inr (.inr (.inr (.inr (va_up (fun _ => none) 0 (some (gs8 8 0))))))))] ++ RB cs gs9 10) H := hP
  have hD : va_D A ([(h0, .inr (1, [.ref (gs0 0 0), .ref (gs1 1 0), .ref qp, .int 0, .ref qs, .null, .null, .int 0])), (qp, .inl (cs 3, 6, .inr (.inr (.inr (.inr (va_up (va_up (va_up (va_up (va_up (va_up (fun _ => none) 0 (some (gs2 2 0))) 1 (some (gs3 3 0))) 2 (some (gs4 4 0))) 3 (some (gs5 5 0))) 4 (some (gs6 6 0))) 5 (some (gs7 7 0)))))))), (qs, .inl (cs 3, 2, .inr (.inr (.inr (.inr (va_up (fun _ => none) 0 (some (gs8 8 0))))))))] ++ RB cs gs9 10) := hD
  refine W.widen (k := 142) (n := 3728) (Nat.le_of_ble_eq_true rfl) (Nat.le_of_ble_eq_true rfl) ?_
  have eo9 : ∀ b, b < 9 → gs9 b = gs8 b := fun b hb => by rw [← hgs9]; exact if_neg (by omega)
  obtain ⟨qk, hqk⟩ := List.getElem?_of_mem (List.mem_append_right [(h0, .inr (1, [.ref (gs0 0 0), .ref (gs1 1 0), .ref qp, .int 0, .ref qs, .null, .null, .int 0])), (qp, .inl (cs 3, 6, .inr (.inr (.inr (.inr (va_up (va_up (va_up (va_up (va_up (va_up (fun _ => none) 0 (some (gs2 2 0))) 1 (some (gs3 3 0))) 2 (some (gs4 4 0))) 3 (some (gs5 5 0))) 4 (some (gs6 6 0))) 5 (some (gs7 7 0)))))))), (qs, .inl (cs 3, 2, .inr (.inr (.inr (.inr (va_up (fun _ => none) 0 (some (gs8 8 0))))))))] (RB_mem (cs := cs) (gs := gs9) (n := 10) (show 9 < 10 by decide) (wC_head (g := gs9 9) (cs := cs) (V := frI 12))))
  refine va_astq hx hb hK hP hD hS 2 3 qk 0 (r := (RX0, TX0, 16)) rfl rfl hqk rfl (vp_in_nI (by decide) (by decide)) dX1_init_89 (fun H locs hP hD hS => ?_)
  rw [nI_clamp (by decide)] at hP hD
  have hP : va_P D vwCl ([(h0, .inr (1, [.ref (gs0 0 0), .ref (gs1 1 0), .ref qp, .int 0, .ref qs, .null, .null, .int 0])), (qp, .inl (cs 3, 6, .inr (.inr (.inr (.inr (va_up (va_up (va_up (va_up (va_up (va_up (fun _ => none) 0 (some (gs2 2 0))) 1 (some (gs3 3 0))) 2 (some (gs4 4 0))) 3 (some (gs5 5 0))) 4 (some (gs6 6 0))) 5 (some (gs7 7 0)))))))), (qs, .inl (cs 3, 2, .inr (.inr (.inr (.inr (va_up (va_up (fun _ => none) 0 (some (gs8 8 0))) 1 (some (gs9 9 0))))))))] ++ RB cs gs9 10) H := hP
  have hD : va_D A ([(h0, .inr (1, [.ref (gs0 0 0), .ref (gs1 1 0), .ref qp, .int 0, .ref qs, .null, .null, .int 0])), (qp, .inl (cs 3, 6, .inr (.inr (.inr (.inr (va_up (va_up (va_up (va_up (va_up (va_up (fun _ => none) 0 (some (gs2 2 0))) 1 (some (gs3 3 0))) 2 (some (gs4 4 0))) 3 (some (gs5 5 0))) 4 (some (gs6 6 0))) 5 (some (gs7 7 0)))))))), (qs, .inl (cs 3, 2, .inr (.inr (.inr (.inr (va_up (va_up (fun _ => none) 0 (some (gs8 8 0))) 1 (some (gs9 9 0))))))))] ++ RB cs gs9 10) := hD
  refine lv_iinc (v := nI 2) (lv' := [(1, .int (nI 2)), (0, .ref h0)]) hx hb dX1_init_90 hl (k := 0) rfl (nI_1 _) (by decide) rfl (fun ls hl => ?_)
  refine lv_goto (tgt := 72) hx hb dX1_init_93 (by decide) ?_
  refine lv_iload_n hx hb dX1_init_72 rfl (lv_at hl 0 rfl) ?_
  refine lv_iconst (v := nI 2) hx hb dX1_init_73 (by decide) ?_
  refine lv_icmp_ge (tgt := 96) hx hb dX1_init_74 (by decide) (fun _ => ?_) (fun c9 => absurd (by decide) c9)
  refine lv_aload_n hx hb dX1_init_96 rfl (lv_at hl 1 rfl) ?_
  refine lv_iconst (v := nI 2) hx hb dX1_init_97 (by decide) ?_
  refine va_newa (atype := .boolean) (a0 := (2, .inl (fun _ => (0 : Int32)))) hx hb (hts (.arrayClass .boolean) (by decide +kernel)) rfl hK hP hD hS hA (fun _ => rfl) (nI_pos (by decide)) (nI_clamp (by decide)) (Nat.le_of_ble_eq_true rfl) (Nat.le_of_ble_eq_true rfl) (Nat.le_of_ble_eq_true rfl) dX1_init_98 (fun qu c98 H hK98 hP hD hS => ?_)
  have ec98 := cls_eq (t := 2) hK98 rfl
  subst ec98
  have hP := vP_rot hP
  have hD := vD_rot hD
  have hP : va_P D vwCl ([(h0, .inr (1, [.ref (gs0 0 0), .ref (gs1 1 0), .ref qp, .int 0, .ref qs, .null, .null, .int 0])), (qp, .inl (cs 3, 6, .inr (.inr (.inr (.inr (va_up (va_up (va_up (va_up (va_up (va_up (fun _ => none) 0 (some (gs2 2 0))) 1 (some (gs3 3 0))) 2 (some (gs4 4 0))) 3 (some (gs5 5 0))) 4 (some (gs6 6 0))) 5 (some (gs7 7 0)))))))), (qs, .inl (cs 3, 2, .inr (.inr (.inr (.inr (va_up (va_up (fun _ => none) 0 (some (gs8 8 0))) 1 (some (gs9 9 0)))))))), (qu, .inl (cs 2, 2, .inl (fun _ => (0 : Int32))))] ++ RB cs gs9 10) H := hP
  have hD : va_D A ([(h0, .inr (1, [.ref (gs0 0 0), .ref (gs1 1 0), .ref qp, .int 0, .ref qs, .null, .null, .int 0])), (qp, .inl (cs 3, 6, .inr (.inr (.inr (.inr (va_up (va_up (va_up (va_up (va_up (va_up (fun _ => none) 0 (some (gs2 2 0))) 1 (some (gs3 3 0))) 2 (some (gs4 4 0))) 3 (some (gs5 5 0))) 4 (some (gs6 6 0))) 5 (some (gs7 7 0)))))))), (qs, .inl (cs 3, 2, .inr (.inr (.inr (.inr (va_up (va_up (fun _ => none) 0 (some (gs8 8 0))) 1 (some (gs9 9 0)))))))), (qu, .inl (cs 2, 2, .inl (fun _ => (0 : Int32))))] ++ RB cs gs9 10) := hD
  refine W.widen (k := 143) (n := 3730) (Nat.le_of_ble_eq_true rfl) (Nat.le_of_ble_eq_true rfl) ?_
  refine va_putF (D := D) (ci := 1) (v := .ref qu) (ty := .array .boolean) (C := RX1) (T := TX1) (N := 8) hx hb hts hinX1 tyX1 tyX1_ok nmX1 hown hK hP hD hS 0 rfl rfl 5 (by decide) (hts (.fieldLink RX1 26 "PunCourts" "slotUsed" "[Z") (by decide +kernel)) (fun _ h9 => h9) rfl hin2 rfl (by decide +kernel) rfl rfl (Nat.le_of_ble_eq_true rfl) dX1_init_100 (fun H locs hP hD hS => ?_)
  have hP : va_P D vwCl ([(h0, .inr (1, [.ref (gs0 0 0), .ref (gs1 1 0), .ref qp, .int 0, .ref qs, .ref qu, .null, .int 0])), (qp, .inl (cs 3, 6, .inr (.inr (.inr (.inr (va_up (va_up (va_up (va_up (va_up (va_up (fun _ => none) 0 (some (gs2 2 0))) 1 (some (gs3 3 0))) 2 (some (gs4 4 0))) 3 (some (gs5 5 0))) 4 (some (gs6 6 0))) 5 (some (gs7 7 0)))))))), (qs, .inl (cs 3, 2, .inr (.inr (.inr (.inr (va_up (va_up (fun _ => none) 0 (some (gs8 8 0))) 1 (some (gs9 9 0)))))))), (qu, .inl (cs 2, 2, .inl (fun _ => (0 : Int32))))] ++ RB cs gs9 10) H := hP
  have hD : va_D A ([(h0, .inr (1, [.ref (gs0 0 0), .ref (gs1 1 0), .ref qp, .int 0, .ref qs, .ref qu, .null, .int 0])), (qp, .inl (cs 3, 6, .inr (.inr (.inr (.inr (va_up (va_up (va_up (va_up (va_up (va_up (fun _ => none) 0 (some (gs2 2 0))) 1 (some (gs3 3 0))) 2 (some (gs4 4 0))) 3 (some (gs5 5 0))) 4 (some (gs6 6 0))) 5 (some (gs7 7 0)))))))), (qs, .inl (cs 3, 2, .inr (.inr (.inr (.inr (va_up (va_up (fun _ => none) 0 (some (gs8 8 0))) 1 (some (gs9 9 0)))))))), (qu, .inl (cs 2, 2, .inl (fun _ => (0 : Int32))))] ++ RB cs gs9 10) := hD
  refine lv_aload_n hx hb dX1_init_103 rfl (lv_at hl 1 rfl) ?_
  refine lv_bipush (v := nI 60) hx hb dX1_init_104 (by decide) ?_
  refine va_newa (atype := .char) (a0 := (60, .inl (fun _ => (0 : Int32)))) hx hb (hts (.arrayClass .char) (by decide +kernel)) rfl hK hP hD hS hA (fun _ => rfl) (nI_pos (by decide)) (nI_clamp (by decide)) (Nat.le_of_ble_eq_true rfl) (Nat.le_of_ble_eq_true rfl) (Nat.le_of_ble_eq_true rfl) dX1_init_106 (fun qd c106 H hK106 hP hD hS => ?_)
  have ec106 := cls_eq (t := 1) hK106 rfl
  subst ec106
  have hP := vP_rot hP
  have hD := vD_rot hD
  have hP : va_P D vwCl ([(h0, .inr (1, [.ref (gs0 0 0), .ref (gs1 1 0), .ref qp, .int 0, .ref qs, .ref qu, .null, .int 0])), (qp, .inl (cs 3, 6, .inr (.inr (.inr (.inr (va_up (va_up (va_up (va_up (va_up (va_up (fun _ => none) 0 (some (gs2 2 0))) 1 (some (gs3 3 0))) 2 (some (gs4 4 0))) 3 (some (gs5 5 0))) 4 (some (gs6 6 0))) 5 (some (gs7 7 0)))))))), (qs, .inl (cs 3, 2, .inr (.inr (.inr (.inr (va_up (va_up (fun _ => none) 0 (some (gs8 8 0))) 1 (some (gs9 9 0)))))))), (qu, .inl (cs 2, 2, .inl (fun _ => (0 : Int32)))), (qd, .inl (cs 1, 60, .inl (fun _ => (0 : Int32))))] ++ RB cs gs9 10) H := hP
  have hD : va_D A ([(h0, .inr (1, [.ref (gs0 0 0), .ref (gs1 1 0), .ref qp, .int 0, .ref qs, .ref qu, .null, .int 0])), (qp, .inl (cs 3, 6, .inr (.inr (.inr (.inr (va_up (va_up (va_up (va_up (va_up (va_up (fun _ => none) 0 (some (gs2 2 0))) 1 (some (gs3 3 0))) 2 (some (gs4 4 0))) 3 (some (gs5 5 0))) 4 (some (gs6 6 0))) 5 (some (gs7 7 0)))))))), (qs, .inl (cs 3, 2, .inr (.inr (.inr (.inr (va_up (va_up (fun _ => none) 0 (some (gs8 8 0))) 1 (some (gs9 9 0)))))))), (qu, .inl (cs 2, 2, .inl (fun _ => (0 : Int32)))), (qd, .inl (cs 1, 60, .inl (fun _ => (0 : Int32))))] ++ RB cs gs9 10) := hD
  refine W.widen (k := 144) (n := 3790) (Nat.le_of_ble_eq_true rfl) (Nat.le_of_ble_eq_true rfl) ?_
  refine va_putF (D := D) (ci := 1) (v := .ref qd) (ty := .array .char) (C := RX1) (T := TX1) (N := 8) hx hb hts hinX1 tyX1 tyX1_ok nmX1 hown hK hP hD hS 0 rfl rfl 6 (by decide) (hts (.fieldLink RX1 30 "PunCourts" "pad" "[C") (by decide +kernel)) (fun _ h9 => h9) rfl hin2 rfl (by decide +kernel) rfl rfl (Nat.le_of_ble_eq_true rfl) dX1_init_108 (fun H locs hP hD hS => ?_)
  have hP : va_P D vwCl ([(h0, .inr (1, [.ref (gs0 0 0), .ref (gs1 1 0), .ref qp, .int 0, .ref qs, .ref qu, .ref qd, .int 0])), (qp, .inl (cs 3, 6, .inr (.inr (.inr (.inr (va_up (va_up (va_up (va_up (va_up (va_up (fun _ => none) 0 (some (gs2 2 0))) 1 (some (gs3 3 0))) 2 (some (gs4 4 0))) 3 (some (gs5 5 0))) 4 (some (gs6 6 0))) 5 (some (gs7 7 0)))))))), (qs, .inl (cs 3, 2, .inr (.inr (.inr (.inr (va_up (va_up (fun _ => none) 0 (some (gs8 8 0))) 1 (some (gs9 9 0)))))))), (qu, .inl (cs 2, 2, .inl (fun _ => (0 : Int32)))), (qd, .inl (cs 1, 60, .inl (fun _ => (0 : Int32))))] ++ RB cs gs9 10) H := hP
  have hD : va_D A ([(h0, .inr (1, [.ref (gs0 0 0), .ref (gs1 1 0), .ref qp, .int 0, .ref qs, .ref qu, .ref qd, .int 0])), (qp, .inl (cs 3, 6, .inr (.inr (.inr (.inr (va_up (va_up (va_up (va_up (va_up (va_up (fun _ => none) 0 (some (gs2 2 0))) 1 (some (gs3 3 0))) 2 (some (gs4 4 0))) 3 (some (gs5 5 0))) 4 (some (gs6 6 0))) 5 (some (gs7 7 0)))))))), (qs, .inl (cs 3, 2, .inr (.inr (.inr (.inr (va_up (va_up (fun _ => none) 0 (some (gs8 8 0))) 1 (some (gs9 9 0)))))))), (qu, .inl (cs 2, 2, .inl (fun _ => (0 : Int32)))), (qd, .inl (cs 1, 60, .inl (fun _ => (0 : Int32))))] ++ RB cs gs9 10) := hD
  have hb9 : ∀ b, b < 10 → (b < 1 → gs0 b = gs9 b) ∧ (b < 2 → gs1 b = gs9 b) ∧ (b < 3 → gs2 b = gs9 b) ∧ (b < 4 → gs3 b = gs9 b) ∧ (b < 5 → gs4 b = gs9 b) ∧ (b < 6 → gs5 b = gs9 b) ∧ (b < 7 → gs6 b = gs9 b) ∧ (b < 8 → gs7 b = gs9 b) ∧ (b < 9 → gs8 b = gs9 b) := fun b _ => by
    have z8 : b < 9 → gs8 b = gs9 b := fun hb => by rw [← eo9 b hb]
    have z7 : b < 8 → gs7 b = gs9 b := fun hb => by rw [← eo8 b hb]; exact z8 (by omega)
    have z6 : b < 7 → gs6 b = gs9 b := fun hb => by rw [← eo7 b hb]; exact z7 (by omega)
    have z5 : b < 6 → gs5 b = gs9 b := fun hb => by rw [← eo6 b hb]; exact z6 (by omega)
    have z4 : b < 5 → gs4 b = gs9 b := fun hb => by rw [← eo5 b hb]; exact z5 (by omega)
    have z3 : b < 4 → gs3 b = gs9 b := fun hb => by rw [← eo4 b hb]; exact z4 (by omega)
    have z2 : b < 3 → gs2 b = gs9 b := fun hb => by rw [← eo3 b hb]; exact z3 (by omega)
    have z1 : b < 2 → gs1 b = gs9 b := fun hb => by rw [← eo2 b hb]; exact z2 (by omega)
    have z0 : b < 1 → gs0 b = gs9 b := fun hb => by rw [← eo1 b hb]; exact z1 (by omega)
    exact ⟨z0, z1, z2, z3, z4, z5, z6, z7, z8⟩
  have en0 : gs0 0 = gs9 0 := (hb9 0 (by decide)).1 (by decide)
  have en1 : gs1 1 = gs9 1 := (hb9 1 (by decide)).2.1 (by decide)
  have en2 : gs2 2 = gs9 2 := (hb9 2 (by decide)).2.2.1 (by decide)
  have en3 : gs3 3 = gs9 3 := (hb9 3 (by decide)).2.2.2.1 (by decide)
  have en4 : gs4 4 = gs9 4 := (hb9 4 (by decide)).2.2.2.2.1 (by decide)
  have en5 : gs5 5 = gs9 5 := (hb9 5 (by decide)).2.2.2.2.2.1 (by decide)
  have en6 : gs6 6 = gs9 6 := (hb9 6 (by decide)).2.2.2.2.2.2.1 (by decide)
  have en7 : gs7 7 = gs9 7 := (hb9 7 (by decide)).2.2.2.2.2.2.2.1 (by decide)
  have en8 : gs8 8 = gs9 8 := (hb9 8 (by decide)).2.2.2.2.2.2.2.2 (by decide)
  rw [en0, en1, en2, en3, en4, en5, en6, en7, en8] at hP hD
  exact W.vret hx hb hr (fun t ht hW => ⟨⟨(qp, qs, qu, qd, gs9), rfl, trivial, by rw [ht]; exact hP, hD⟩, hS.F ht⟩) hS.2.2 dX1_init_111
