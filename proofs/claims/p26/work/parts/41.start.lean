/-! THE CLAIM OUT OF ONE WALK OF THE LAW'S BODY. Your part is whole_start (and what it stands on); all else here is the same for every law, but numbers. -/
def R_law : String := "PunCourtsLaw"
def lw_P (b : Addr) (xs : List Int32) (args : Array Value) (s : State) : Prop := args = #[.ref b] ∧ s.IntsAt b xs ∧ xs.length ≤ 260 ∧ (Jvm.Cond.and given_1 narrow_1).before args s = true
def lw_Q (_ : Array Value) (s : State) (o : Outcome) (t : State) : Prop := o = .returned (some (.int 1)) ∧ Framed s o t [] 600000 7302249
def lw_Z (below : List Frame) (a : Array Value) (s : State) : State → Prop := fun t => ∃ o, t.status = .running ∧ Ended t below o ∧ lw_Q a s o t
/-- the law's own end, with 1 on the stack, nothing written that was there before, its room as the claim has it -/
theorem lw_ret {p : Program} {l : Launch} {e : Env} {s : State} {m : MethodId} {below : List Frame} {meth : Method} {c : Code} {b : Nat} (hx : p.tables.exec = Jvm.exec) (hb : c.code = code) (hr : meth.sig.returnType = ret) (hlocks : meth.locks = false) {pc : Nat} {H : Heap} {ls : Array Slot} (hdg : decode code pc = .ok (.ireturn, 1)) : W p l e room_1 s m #[Value.ref b] below meth c H [] 600000 7302249 (lw_Z below #[Value.ref b] s) (F0 m pc ls [.int 1]) := by
  intro T hT X
  obtain ⟨fs, hret, hrun, hended, hW, hframe⟩ := X.leave (v := some (.int 1)) (hlocks := hlocks) (fun h => by rw [hr] at h; cases h)
  have hmeth' : T.vm.method? m = some meth := X.method'
  refine ⟨T.setFrames fs, ?_, .returned (some (.int 1)), hrun, hended, rfl, ⟨_, rfl⟩, hW, hframe⟩
  jvm_step X.here [X.here.top, hx, hb, hdg, hmeth', hr, ret, narrow_b1]
  (try refine ⟨rfl, ?_⟩); (try refine ⟨rfl, ?_⟩)
  first | (intro acts; rw [hret _ acts rfl rfl rfl]) | rw [hret _ _ rfl rfl rfl]
  exact Steps.refl _
/-- what holds at the law's entry: the machine, the code, the tables' words (any of lw_tbl by 'hts w (by decide +kernel)'), the script of L ints xs at the cell b, what the Statement gives of the start (any of its parts by flat_of_before) -/
def lw_At (p : Program) (s : State) (m : MethodId) (meth : Method) (c : Code) (b L : Nat) (xs : Nat → Int32) : Prop :=
  p.tables.exec = Jvm.exec ∧ c.code = code ∧ meth.sig.returnType = ret ∧ c.maxLocals = 5 ∧ s.vm.findClass R_law = some m.cls ∧ (∀ w ∈ lw_tbl, w.before #[Value.ref b] s = true) ∧ va_X b L xs s s.heap ∧ b < s.heap.size ∧ meth.locks = false ∧ (Jvm.Cond.and given_1 narrow_1).before #[Value.ref b] s = true
theorem st_of {s : State} {args : Array Value} {A : Nat → Prop} (hts : ∀ w ∈ lw_tbl, w.before args s = true) (hgv : (Jvm.Cond.and given_1 narrow_1).before args s = true) (hA : ∀ a : Nat, a < s.heap.size → ¬ A a) : ∃ z : Nat → Nat, ST z A s s.heap := by
  have hs := flat_of_before _ hgv
  have m0 : ∀ j, j < 26 → Cond.eq (.elem (.static "PunCourts" "SIGNS" "[I") (.int (Int32.ofNat j))) (.int (sg j)) ∈ flatC (Jvm.Cond.and given_1 narrow_1) := by decide +kernel
  obtain ⟨t0, v0, T0⟩ := va_Tof (tm := .static "PunCourts" "SIGNS" "[I") (ty := .int) (N := 26) (f := fun j => .int (sg j)) (by decide) (hs _ (by decide +kernel)) (va_eqt (hs _ (by decide +kernel))) (fun j hj => va_eqt (z := sg j) (hs _ (m0 j hj))) hA
  have m1 : ∀ j, j < 4 → Cond.eq (.elem (.static "PunCourts" "LOWEST" "[I") (.int (Int32.ofNat j))) (.int (lo4 j)) ∈ flatC (Jvm.Cond.and given_1 narrow_1) := by decide +kernel
  obtain ⟨t1, v1, T1⟩ := va_Tof (tm := .static "PunCourts" "LOWEST" "[I") (ty := .int) (N := 4) (f := fun j => .int (lo4 j)) (by decide) (hs _ (by decide +kernel)) (va_eqt (hs _ (by decide +kernel))) (fun j hj => va_eqt (z := lo4 j) (hs _ (m1 j hj))) hA
  have m2 : ∀ j, j < 4 → Cond.eq (.elem (.static "PunCourts" "HIGHEST" "[I") (.int (Int32.ofNat j))) (.int (hi4 j)) ∈ flatC (Jvm.Cond.and given_1 narrow_1) := by decide +kernel
  obtain ⟨t2, v2, T2⟩ := va_Tof (tm := .static "PunCourts" "HIGHEST" "[I") (ty := .int) (N := 4) (f := fun j => .int (hi4 j)) (by decide) (hs _ (by decide +kernel)) (va_eqt (hs _ (by decide +kernel))) (fun j hj => va_eqt (z := hi4 j) (hs _ (m2 j hj))) hA
  have hini := hts (.initialized "PunCourts") (by decide +kernel)
  refine ⟨fun k => if k = 0 then t0 else if k = 1 then t1 else t2, ⟨va_Zof (hts (.laysStatic "PunCourts" "SIGNS" "[I") (by decide +kernel)) hini v0 hA, va_Zof (hts (.laysStatic "PunCourts" "LOWEST" "[I") (by decide +kernel)) hini v1 hA, va_Zof (hts (.laysStatic "PunCourts" "HIGHEST" "[I") (by decide +kernel)) hini v2 hA⟩, T0, T1, T2⟩
theorem nw_of {s : State} {args : Array Value} (hts : ∀ w ∈ lw_tbl, w.before args s = true) : NW s := ⟨va_Nw.of (by decide) (hts (.fieldLinkNest RX0 71 "PunCourts" "SIGNS" "[I" "PunCourts") (by decide +kernel)), va_Nw.of (by decide) (hts (.methodLinkNest RX0 144 yX1_copyRow "PunCourts") (by decide +kernel))⟩
theorem arr_of {s : State} {args : Array Value} {ty : FieldType} (hp : refKind ty = false) (h : (Cond.arrayClass ty).before args s = true) : ∃ c : ClassId, ArrOfT s c ty ∧ va_RA s c ty := by
  obtain ⟨c, k, comp, h1, h2, h3⟩ := Cond.arrayClass_spec h
  refine ⟨c, fun n z => ⟨fun k h => (by cases h), k, h2, comp, h3⟩, ?_⟩
  cases ty with
  | object C => cases hp
  | _ => exact h1
theorem arr_ov {s : State} {args : Array Value} {C : String} (h : (Cond.arrayOver (.object C)).before args s = true) : ∃ c : ClassId, ArrOfT s c (.object C) ∧ va_RA s c (.object C) := by
  obtain ⟨comp, c, k, h1, -, h2, h3, h4⟩ := Cond.arrayOver_spec h
  exact ⟨c, fun n z => ⟨fun k h => (by cases h), k, h2, comp, h3⟩, k, comp, h2, h3, h1, h4⟩
theorem k_of {s : State} {args : Array Value} (hts : ∀ w ∈ lw_tbl, w.before args s = true) : ∃ (D : va_G) (cs : Nat → ClassId), va_K D vwCl (tyl cs) s := by
  obtain ⟨c0, iS0, hK0⟩ := u_known (C := RX0) (T := TX0) (N := 16) (n := 16) hts inX0 (hts (.instantiable RX0 16) (by decide +kernel))
  obtain ⟨c1, iS1, hK1⟩ := u_known (C := RX1) (T := TX1) (N := 8) (n := 8) hts inX1 (hts (.instantiable RX1 8) (by decide +kernel))
  obtain ⟨a0, h0⟩ := arr_of (ty := .int) rfl (hts (.arrayClass .int) (by decide +kernel))
  obtain ⟨a1, h1⟩ := arr_of (ty := .char) rfl (hts (.arrayClass .char) (by decide +kernel))
  obtain ⟨a2, h2⟩ := arr_of (ty := .boolean) rfl (hts (.arrayClass .boolean) (by decide +kernel))
  obtain ⟨a3, h3⟩ := arr_ov (C := RX0) (hts (.arrayOver (.object RX0)) (by decide +kernel))
  refine ⟨(fun k => if k = 0 then c0 else c1, fun k => if k = 0 then iS0 else iS1), fun k => if k = 0 then a0 else if k = 1 then a1 else if k = 2 then a2 else a3, ?_, ?_⟩
  · intro k q hq
    match k, hq with
    | 0, hq => cases hq; exact hK0
    | 1, hq => cases hq; exact hK1
    | k + 2, hq => simp at hq
  · intro k q hq
    match k, hq with
    | 0, hq => cases hq; exact h0
    | 1, hq => cases hq; exact h1
    | 2, hq => cases hq; exact h2
    | 3, hq => cases hq; exact h3
    | k + 4, hq => simp at hq
/-! the first memory -/
def frM : CV := fun k => match k with
  | 3 => fun j => nI (j + 2)
  | 5 => fun j => nI (8 + j)
  | _ => fun _ => 0
def mu0 : Mm := fun b => if b < 10 then frI 12 else if b = 10 then frM else fun _ _ => 0
def adF (gs : Nat → Nat → Nat) (h0 qp qs qu qd : Nat) (b k : Nat) : Nat := if b < 10 then gs b k else (match k with | 0 => h0 | 3 => qp | 5 => qs | 6 => qu | _ => qd)
theorem eC_ad {ad : Nat → Nat → Nat} {cs : Nat → ClassId} {b k : Nat} {f : Nat → Int32} : eC ad cs b k f = eC (fun _ => ad b) cs 0 k f := by
  unfold eC
  split <;> rfl
theorem arrV_cong {c : ClassId} {n : Nat} {f g : Nat → Value} (h : ∀ j, j < n → f j = g j) : arrV c n f = arrV c n g := by
  unfold arrV
  congr 2
  funext j
  exact h j.val j.isLt
theorem nodup_inj {α β : Type} {f : α → β} : ∀ {l : List α}, (l.map f).Nodup → ∀ x ∈ l, ∀ y ∈ l, f x = f y → x = y := by
  intro l h x hx y hy e
  obtain ⟨i, hi⟩ := List.getElem?_of_mem hx
  obtain ⟨j, hj⟩ := List.getElem?_of_mem hy
  have h1 : (l.map f)[i]? = some (f x) := by rw [List.getElem?_map, hi]; rfl
  have h2 : (l.map f)[j]? = some (f y) := by rw [List.getElem?_map, hj]; rfl
  have h3 : i = j := (List.getElem?_inj (List.getElem?_eq_some_iff.mp h1).1 h).mp (h1.trans ((congrArg some e).trans h2.symm))
  subst h3
  exact Option.some.inj (hi.symm.trans hj)
theorem start_ad {A : Nat → Prop} {cs : Nat → ClassId} {gs : Nat → Nat → Nat} {h0 qp qs qu qd : Nat} (hD : va_D A (w1M h0 qp qs qu qd gs cs ++ RB cs gs 10)) : AD A (adF gs h0 qp qs qu qd) := by
  have hd := vD_mem.mp hD
  have e1 : ∀ l : List Nat, (∀ b ∈ l, b < 10) → (l.flatMap (fun b => wC (gs b) cs (frI 12))).map Prod.fst = (l.flatMap (fun b => ixC.map (fun k => (b, k)))).map (fun q => adF gs h0 qp qs qu qd q.1 q.2) := by
    intro l
    induction l with
    | nil => intro _; rfl
    | cons a l ih =>
      intro h
      rw [List.flatMap_cons, List.flatMap_cons, List.map_append, List.map_append, ih (fun b hb => h b (List.mem_cons_of_mem _ hb))]
      congr 1
      rw [wC, List.map_map, List.map_map]
      apply List.map_congr_left
      intro k _
      have hm : a < 10 := h a (List.mem_cons_self ..)
      exact (if_pos hm).symm
  have e : (w1M h0 qp qs qu qd gs cs ++ RB cs gs 10).map Prod.fst = ixM.map (fun q => adF gs h0 qp qs qu qd q.1 q.2) ++ ((List.range 10).flatMap (fun b => ixC.map (fun k => (b, k)))).map (fun q => adF gs h0 qp qs qu qd q.1 q.2) := by
    rw [List.map_append, RB, e1 _ (fun b hb => List.mem_range.mp hb)]
    rfl
  have pm : ((w1M h0 qp qs qu qd gs cs ++ RB cs gs 10).map Prod.fst).Perm (idx.map (fun q => adF gs h0 qp qs qu qd q.1 q.2)) := by
    rw [e, idx, List.map_append, show ixM ++ ixR = ixM from rfl]
    exact List.perm_append_comm
  have hn := pm.nodup_iff.mp hd.1
  refine ⟨fun p hp q hq => nodup_inj hn p hp q hq, fun p hp => ?_⟩
  have hm : adF gs h0 qp qs qu qd p.1 p.2 ∈ (w1M h0 qp qs qu qd gs cs ++ RB cs gs 10).map Prod.fst := pm.mem_iff.mpr (List.mem_map.mpr ⟨p, hp, rfl⟩)
  obtain ⟨x, hx, he⟩ := List.mem_map.mp hm
  rw [← he]
  exact hd.2 x hx
theorem start_wl {D : va_G} {H : Heap} {cs : Nat → ClassId} {gs : Nat → Nat → Nat} {h0 qp qs qu qd : Nat} (hP : va_P D vwCl (w1M h0 qp qs qu qd gs cs ++ RB cs gs 10) H) : va_P D vwCl (wl (adF gs h0 qp qs qu qd) cs mu0) H := by
  have hp := vP_mem.mp hP
  have hM : ∀ q ∈ w1M h0 qp qs qu qd gs cs, va_at D vwCl q H := fun q hq => hp q (List.mem_append_left _ hq)
  have e0 : ∀ b k, b < 10 → adF gs h0 qp qs qu qd b k = gs b k := fun b k hb => if_pos hb
  refine vP_mem.mpr (fun q hq => ?_)
  obtain ⟨⟨b, k⟩, hbk, rfl⟩ := List.mem_map.mp hq
  show va_at D vwCl (adF gs h0 qp qs qu qd b k, EE (adF gs h0 qp qs qu qd) cs b k (mu0 b k)) H
  rcases List.mem_append.mp hbk with h | h
  · obtain ⟨b', h1, h2⟩ := List.mem_flatMap.mp h
    obtain ⟨k', h3, h4⟩ := List.mem_map.mp h2
    cases h4
    have hb := List.mem_range.mp h1
    have hg : (fun k => adF gs h0 qp qs qu qd b k) = gs b := by funext k; exact e0 b k hb
    rw [EE, if_pos hb, eC_ad, e0 b k hb, mu0, if_pos hb]
    have hg2 : adF gs h0 qp qs qu qd b = gs b := hg
    rw [hg2]
    exact hp _ (List.mem_append_right _ (RB_mem hb (List.mem_map.mpr ⟨k, h3, rfl⟩)))
  · rcases List.mem_append.mp h with h | h
    · simp only [ixM, List.mem_cons, List.not_mem_nil, or_false, Prod.mk.injEq] at h
      rcases h with ⟨rfl, rfl⟩ | ⟨rfl, rfl⟩ | ⟨rfl, rfl⟩ | ⟨rfl, rfl⟩ | ⟨rfl, rfl⟩
      · exact hM (h0, _) (List.mem_cons_self ..)
      · have := hM (qp, _) (List.mem_cons_of_mem _ (List.mem_cons_self ..))
        show H[qp]? = some (vp_cell (cs 3) (6, .inr (.inr (.inr (.inr (qC (adF gs h0 qp qs qu qd) (frM 3)))))))
        have t : H[qp]? = some (vp_cell (cs 3) (6, _)) := this
        rw [t, vp_cell_q, vp_cell_q]
        refine congrArg some (arrV_cong (fun j hj => ?_))
        rcases (show j = 0 ∨ j = 1 ∨ j = 2 ∨ j = 3 ∨ j = 4 ∨ j = 5 by omega) with rfl | rfl | rfl | rfl | rfl | rfl <;> rfl
      · have := hM (qs, _) (List.mem_cons_of_mem _ (List.mem_cons_of_mem _ (List.mem_cons_self ..)))
        show H[qs]? = some (vp_cell (cs 3) (2, .inr (.inr (.inr (.inr (qC (adF gs h0 qp qs qu qd) (frM 5)))))))
        have t : H[qs]? = some (vp_cell (cs 3) (2, _)) := this
        rw [t, vp_cell_q, vp_cell_q]
        refine congrArg some (arrV_cong (fun j hj => ?_))
        rcases (show j = 0 ∨ j = 1 by omega) with rfl | rfl <;> rfl
      · exact hM (qu, _) (List.mem_cons_of_mem _ (List.mem_cons_of_mem _ (List.mem_cons_of_mem _ (List.mem_cons_self ..))))
      · exact hM (qd, _) (List.mem_cons_of_mem _ (List.mem_cons_of_mem _ (List.mem_cons_of_mem _ (List.mem_cons_of_mem _ (List.mem_cons_self ..)))))
    · exact absurd h List.not_mem_nil
theorem start_ty : TY mu0 := by
  refine ⟨fun b j hb _ => ?_, fun b j hb _ => ?_, fun j _ => ⟨0, by decide, rfl⟩⟩
  · rw [mu0, if_pos hb]; exact ⟨0, by decide, rfl⟩
  · rw [mu0, if_pos hb]; exact Or.inl rfl
def K0 : KS := ((zl (frI 12), 0), (zl (frI 12), 0), (zl (frI 12), 0), fun _ => 0)
def P0 : PS := (0, fun _ => 0)
theorem start_ci : CI (frI 12) 0 := by
  have nn : ∀ c, c < 12 → neg6 12 c = -6 := fun c hc => if_pos hc
  exact ⟨⟨rfl, by omega, Or.inl rfl⟩, ⟨⟨3, by omega, rfl⟩, 2, by omega, rfl⟩, ⟨fun c hc => Or.inl (nn c hc), fun n hn => absurd hn (Nat.not_lt_zero _)⟩, ⟨fun n hn => absurd hn (Nat.not_lt_zero _), fun n hn => absurd hn (Nat.not_lt_zero _), fun _ _ _ => rfl, fun _ c hc => nn c hc⟩, fun n hn => absurd hn (Nat.not_lt_zero _)⟩
theorem start_hs : HS mu0 (K0, P0) := ⟨frI 12, frI 12, frI 12, ⟨rfl, rfl, rfl⟩, ⟨start_ci, fun q => absurd rfl q, fun q => absurd rfl q, Or.inl rfl, Or.inl rfl, Nat.zero_le _⟩, 0, fun _ => frI 12, ⟨rfl, ⟨fun j => j + 2, ⟨fun j hj => ⟨Nat.le_add_left 2 j, show j + 2 < 8 by omega, rfl⟩, fun i j _ _ h => by have h : i + 2 = j + 2 := h; omega, by omega, rfl⟩, fun j hj => absurd hj (Nat.not_lt_zero _)⟩, rfl, rfl, rfl, rfl, rfl, rfl, rfl⟩⟩
theorem start_wk : WK K0 0 := by
  have nn : ∀ c, c < 12 → neg6 12 c = -6 := fun c hc => if_pos hc
  refine ⟨⟨fun c hc => ⟨0, Nat.zero_le _, rfl⟩, ⟨0, Nat.zero_le _, rfl, fun c hc hb => absurd (nn c hc) hb⟩, ?_⟩, fun q => absurd rfl q, fun q => absurd rfl q⟩
  show sm (fun _ => 0) 12 = sm (fun _ => 0) 20
  rfl
/-- two objects' cells apart -/
def cB (W2 : va_W) : Nat → Prop := fun q => ∃ x ∈ W2, x.1 = q
def cA (A0 : Nat → Prop) (W2 : va_W) : Nat → Prop := fun q => A0 q ∧ ¬ cB W2 q
theorem two_D {A0 : Nat → Prop} {W1 W2 : va_W} (hD : va_D A0 (W1 ++ W2)) : va_D (cA A0 W2) W1 ∧ va_D (cB W2) W2 ∧ (∀ q, cA A0 W2 q → ¬ cB W2 q) ∧ ∀ q, U2 (cA A0 W2) (cB W2) q ↔ A0 q := by
  have h := vD_mem.mp hD
  rw [List.map_append, List.nodup_append] at h
  obtain ⟨⟨n1, n2, n3⟩, ha⟩ := h
  refine ⟨vD_mem.mpr ⟨n1, fun q hq => ⟨ha q (List.mem_append_left _ hq), fun h2 => ?_⟩⟩, vD_mem.mpr ⟨n2, fun q hq => ⟨q, hq, rfl⟩⟩, fun q h => h.2, fun q => ⟨fun h => ?_, fun h => ?_⟩⟩
  · obtain ⟨x, hx, e⟩ := h2
    exact n3 q.1 (List.mem_map.mpr ⟨q, hq, rfl⟩) x.1 (List.mem_map.mpr ⟨x, hx, rfl⟩) e.symm
  · rcases h with h | ⟨x, hx, e⟩
    · exact h.1
    · rw [← e]; exact ha x (List.mem_append_right _ hx)
  · by_cases q2 : cB W2 q
    · exact Or.inr q2
    · exact Or.inl ⟨h, q2⟩
theorem S_eq {A A1 : Nat → Prop} {H0 H : Heap} {locs : List Loc} (e : ∀ q, A1 q ↔ A q) (h : va_S A H0 H locs) : va_S A1 H0 H locs := ⟨h.1, fun q h1 h2 => h.2.1 q h1 (fun y => h2 ((e q).mpr y)), fun q hq => (e _).mpr (h.2.2 q hq)⟩
/-! a number of the script -/
theorem cell_blind {as : List Value} {b L : Nat} {xs : Nat → Int32} : FrameBlind (va_Pc as (fun U => va_X b L xs U U.heap ∧ b < U.heap.size)) := fun a U g mk q => ⟨q.1, va_X.moved (u := U) (U := U.calling g mk a) (Vm.Alike.refl U.vm) q.2.1, q.2.2⟩
set_option maxHeartbeats 4000000 in
set_option maxRecDepth 100000 in
theorem kL_cell (l : Launch) (b L : Nat) (xs : Nat → Int32) (hL : L < 2 ^ 31) (k : Nat) (hk : k < 2 ^ 31) : Met l yL_cell wsL_cell (rm 0 0) (va_Pc [.ref b, .int (nI k)] (fun U => va_X b L xs U U.heap ∧ b < U.heap.size)) (va_Qi (fun (_ : Int32) (_ : Unit) => True) (fun _ _ => True) (fun _ => False)) 0 0 (fun _ => False) := by
  refine Met.ofW (cc := cL_cell) (maxL := 2) (ret := (some .int)) (by decide) rfl ?_
  intro p e s m args below meth c s₁ BB hml hv
  obtain ⟨rfl, hX, hbl⟩ := hv
  have hx := BB.exec
  have hb := BB.bytes
  have hr := BB.returns
  have hts := atoms_spec (ws := wsL_cell) BB.pre
  have hown : s.vm.findClass RL = some m.cls := findClass_of_methodNamed BB.named
  have hS : va_S (fun _ => False) s.heap s.heap [] := va_S.rf
  have hl := lv_entry ([.ref b, .int (nI k)]) (n := 2) (Nat.le_of_ble_eq_true rfl)
  rw [lg_entry_eq]
  generalize (lg_sl ([.ref b, .int (nI k)]) ++ List.replicate (2 - (lg_sl ([.ref b, .int (nI k)])).length) Slot.unset).toArray = ls at hl ⊢
  have hl : lv_has ls 2 [(0, .ref b), (1, .int (nI k))] := hl
  refine lv_iload_n hx hb dL_cell_0 rfl (lv_at hl 1 rfl) ?_
  refine lv_aload_n hx hb dL_cell_1 rfl (lv_at hl 0 rfl) ?_
  refine va_slen hx hb hX hbl (fun h => h) hS dL_cell_2 ?_
  refine lv_icmp_ge (tgt := 12) hx hb dL_cell_3 (by decide) (fun c3 => ?_) (fun c3 => ?_)
  · refine lv_ldc hx hb hown (v := 2144201169) (hts _ (by decide +kernel)) dL_cell_12 ?_
    refine lv_iload_n hx hb dL_cell_14 rfl (lv_at hl 1 rfl) ?_
    refine lv_sipush (v := nI 1483) hx hb dL_cell_15 (by decide) ?_
    refine lv_iadd hx hb dL_cell_18 ?_
    refine lv_imul hx hb dL_cell_19 ?_
    exact W.iret hx hb hr (fun t ht hW => ⟨⟨_, (), rfl, trivial, trivial⟩, hS.F ht⟩) hS.2.2 dL_cell_20
  · refine lv_aload_n hx hb dL_cell_6 rfl (lv_at hl 0 rfl) ?_
    refine lv_iload_n hx hb dL_cell_7 rfl (lv_at hl 1 rfl) ?_
    have hkL : k < L := by
      rcases Nat.lt_or_ge k L with q | q
      · exact q
      · exact absurd (nI_le q hk) c3
    refine va_sld hx hb hX hbl (fun h => h) hS (vp_in_nI hkL hL) dL_cell_8 ?_
    refine lv_goto (tgt := 20) hx hb dL_cell_9 (by decide) ?_
    exact W.iret hx hb hr (fun t ht hW => ⟨⟨_, (), rfl, trivial, trivial⟩, hS.F ht⟩) hS.2.2 dL_cell_20
theorem p_cell {p : Program} {l : Launch} {e : Env} {R : Room} {s : State} {m : MethodId} {args : Array Value} {below : List Frame} {meth : Method} {c : Code} {ce sl : Nat} {Q : State → Prop} {cc : ByteArray} {nL : Nat} {own : String} {Ts : List Cond} {D : va_G} {ad bd : Nat → Nat → Nat} {cs : Nat → ClassId} {A B : Nat → Prop} {z : Nat → Nat} {pc : Nat} {lv : List (Nat × Value)} {st : List Value} {μ : CS × CS} (X : PX p s m args c cc nL own Ts R ce sl D ad bd cs A B z) {b L : Nat} {xs : Nat → Int32} (hX0 : va_X b L xs s s.heap) (hbl : b < s.heap.size) (hbA : ¬ U2 A B b) (hL : L < 2 ^ 31) (k : Nat) (hk : k < 2 ^ 31) {index maxL : Nat} {bytes : ByteArray} {ret : Option FieldType} (cw : CallB R s args own index yL_cell bytes maxL ret wsL_cell (rm 0 0) 0 0 2 ∧ (Cond.static yL_cell).before args s = true) (hw : (st.map fun v => v.category).sum ≤ 8) (d : decode cc pc = .ok (.invokestatic index, 3)) (kk : ∀ r : Int32, P2 p l e R s m args below meth c ce sl Q nL D ad bd cs A B (pc + 3) lv (.int r :: st) μ) : P2 p l e R s m args below meth c ce sl Q nL D ad bd cs A B pc lv (.int (nI k) :: .ref b :: st) μ := fun H locs ls hP hT hS hl => by
  exact va_calli (va_runS (As := [.ref b, .int (nI k)]) (rest := st) X.1 (kL_cell l b L xs hL k hk) cw ⟨cell_blind, fun U hU hW => ⟨rfl, by rw [hU]; exact va_X.moved hW.alike (hX0.kept (hS.2.1 b hbl hbA)), by rw [hU]; exact Nat.lt_of_lt_of_le hbl hS.1⟩⟩ rfl rfl hl.1 rfl (by show 2 * 0 + _ ≤ 8; omega) d ⟨X.2.1.1, X.2.1.2⟩) hS (fun q _ h => h.elim) (fun q h => h.elim) (fun r u t H1 locs1 ht hvm hw hB hz1 hk1 hS1 => kk r H1 locs1 ls (hP.kept X.2.2.2.1.1 (B := fun _ => False) (fun _ _ h => h) hk1) (hT.kept X.2.2.2.1.2.1 (B := fun _ => False) (fun _ _ h => h) hk1) hS1 hl)
