/-! THE CLAIM OUT OF ONE WALK OF THE LAW'S BODY. Your part is whole_start (and what it stands on); all else here is the same for every law, but numbers. -/
def R_law : String := "PunCourtsLaw"
def lw_P (b : Addr) (xs : List Int32) (args : Array Value) (s : State) : Prop := args = #[.ref b] ∧ s.IntsAt b xs ∧ xs.length ≤ 2048 ∧ (Jvm.Cond.and given_1 narrow_1).before args s = true
def lw_Q (_ : Array Value) (s : State) (o : Outcome) (t : State) : Prop := o = .returned (some (.int 1)) ∧ Framed s o t [] 600000 7302250
def lw_Z (below : List Frame) (a : Array Value) (s : State) : State → Prop := fun t => ∃ o, t.status = .running ∧ Ended t below o ∧ lw_Q a s o t
/-- the law's own end, with 1 on the stack, nothing written that was there before, its room as the claim has it -/
theorem lw_ret {p : Program} {l : Launch} {e : Env} {s : State} {m : MethodId} {below : List Frame} {meth : Method} {c : Code} {b : Nat} (hx : p.tables.exec = Jvm.exec) (hb : c.code = code) (hr : meth.sig.returnType = ret) (hlocks : meth.locks = false) {pc : Nat} {H : Heap} {ls : Array Slot} (hdg : decode code pc = .ok (.ireturn, 1)) : W p l e room_1 s m #[Value.ref b] below meth c H [] 600000 7302250 (lw_Z below #[Value.ref b] s) (F0 m pc ls [.int 1]) := by
  intro T hT X
  obtain ⟨fs, hret, hrun, hended, hW, hframe⟩ := X.leave (v := some (.int 1)) (hlocks := hlocks) (fun h => by rw [hr] at h; cases h)
  have hmeth' : T.vm.method? m = some meth := X.method'
  refine ⟨T.setFrames fs, ?_, .returned (some (.int 1)), hrun, hended, rfl, ⟨_, rfl⟩, hW, hframe⟩
  jvm_step X.here [X.here.top, hx, hb, hdg, hmeth', hr, ret, narrow_b1]
  (try refine ⟨rfl, ?_⟩); (try refine ⟨rfl, ?_⟩)
  first | (intro acts; rw [hret _ acts rfl rfl rfl]) | rw [hret _ _ rfl rfl rfl]
  exact Steps.refl _
/-- what holds at the law's entry: the machine, the code, the tables' words (any of lw_tbl by 'hts w (by decide +kernel)'), the script of L ints xs at the cell b, what the Statement gives of the start (any of its parts by flat_of_before) -/
def lw_At (p : Program) (s : State) (m : MethodId) (meth : Method) (c : Code) (b L : Nat) (xs : Nat → Int32) : Prop :=
  p.tables.exec = Jvm.exec ∧ c.code = code ∧ meth.sig.returnType = ret ∧ c.maxLocals = 4 ∧ s.vm.findClass R_law = some m.cls ∧ (∀ w ∈ lw_tbl, w.before #[Value.ref b] s = true) ∧ va_X b L xs s s.heap ∧ b < s.heap.size ∧ meth.locks = false ∧ (Jvm.Cond.and given_1 narrow_1).before #[Value.ref b] s = true
theorem st_of {s : State} {args : Array Value} {A : Nat → Prop} (hts : ∀ w ∈ lw_tbl, w.before args s = true) (hgv : (Jvm.Cond.and given_1 narrow_1).before args s = true) (hA : ∀ a : Nat, a < s.heap.size → ¬ A a) : ∃ z : Nat → Nat, ST z A s s.heap := by
  have hs := flat_of_before _ hgv
  have m0 : ∀ j, j < 26 → Cond.eq (.elem (.static "PunCourts" "SIGNS" "[I") (.int (Int32.ofNat j))) (.int (sg j)) ∈ flatC (Jvm.Cond.and given_1 narrow_1) := by decide +kernel
  obtain ⟨t0, v0, T0⟩ := va_Tof (tm := .static "PunCourts" "SIGNS" "[I") (ty := .int) (N := 26) (f := fun j => .int (sg j)) (by decide) (hs _ (by decide +kernel)) (va_eqt (hs _ (by decide +kernel))) (fun j hj => va_eqt (z := sg j) (hs _ (m0 j hj))) hA
  have m1 : ∀ j, j < 4 → Cond.eq (.elem (.static "PunCourts" "LOWEST" "[I") (.int (Int32.ofNat j))) (.int (lo4 j)) ∈ flatC (Jvm.Cond.and given_1 narrow_1) := by decide +kernel
  obtain ⟨t1, v1, T1⟩ := va_Tof (tm := .static "PunCourts" "LOWEST" "[I") (ty := .int) (N := 4) (f := fun j => .int (lo4 j)) (by decide) (hs _ (by decide +kernel)) (va_eqt (hs _ (by decide +kernel))) (fun j hj => va_eqt (z := lo4 j) (hs _ (m1 j hj))) hA
  have m2 : ∀ j, j < 4 → Cond.eq (.elem (.static "PunCourts" "HIGHEST" "[I") (.int (Int32.ofNat j))) (.int (hi4 j)) ∈ flatC (Jvm.Cond.and given_1 narrow_1) := by decide +kernel
  obtain ⟨t2, v2, T2⟩ := va_Tof (tm := .static "PunCourts" "HIGHEST" "[I") (ty := .int) (N := 4) (f := fun j => .int (hi4 j)) (by decide) (hs _ (by decide +kernel)) (va_eqt (hs _ (by decide +kernel))) (fun j hj => va_eqt (z := hi4 j) (hs _ (m2 j hj))) hA
  have hini := hts (.initialized "PunCourts") (by decide +kernel)
  refine ⟨fun k => if k = 0 then t0 else if k = 1 then t1 else t2, ⟨va_Zof (hts (.laysStatic "PunCourts" "SIGNS" "[I") (by decide +kernel)) hini v0 hA, va_Zof (hts (.laysStatic "PunCourts" "LOWEST" "[I") (by decide +kernel)) hini v1 hA, va_Zof (hts (.laysStatic "PunCourts" "HIGHEST" "[I") (by decide +kernel)) hini v2 hA⟩, T0, T1, T2⟩
theorem nw_of {s : State} {args : Array Value} (hts : ∀ w ∈ lw_tbl, w.before args s = true) : NW s := ⟨va_Nw.of (by decide) (hts (.fieldLinkNest RX0 71 "PunCourts" "SIGNS" "[I" "PunCourts") (by decide +kernel)), va_Nw.of (by decide) (hts (.methodLinkNest RX0 144 yX1_copyRow "PunCourts") (by decide +kernel))⟩
theorem arr_of {s : State} {args : Array Value} {ty : FieldType} (hp : refKind ty = false) (h : (Cond.arrayClass ty).before args s = true) : ∃ c : ClassId, ArrOfT s c ty ∧ va_RA s c ty := by
  obtain ⟨c, k, comp, h1, h2, h3⟩ := Cond.arrayClass_spec h
  refine ⟨c, fun n z => ⟨fun k h => (by cases h), k, h2, comp, h3⟩, ?_⟩
  cases ty with
  | object C => cases hp
  | _ => exact h1
theorem arr_ov {s : State} {args : Array Value} {C : String} (h : (Cond.arrayOver (.object C)).before args s = true) : ∃ c : ClassId, ArrOfT s c (.object C) ∧ va_RA s c (.object C) := by
  obtain ⟨comp, c, k, h1, -, h2, h3, h4⟩ := Cond.arrayOver_spec h
  exact ⟨c, fun n z => ⟨fun k h => (by cases h), k, h2, comp, h3⟩, k, comp, h2, h3, h1, h4⟩
/-- the classes of the worlds -/
theorem k_of {s : State} {args : Array Value} (hts : ∀ w ∈ lw_tbl, w.before args s = true) : ∃ (D : va_G) (cs : Nat → ClassId), va_K D vwCl (tyl cs) s := by
  obtain ⟨c0, iS0, hK0⟩ := u_known (C := RX0) (T := TX0) (N := 16) (n := 16) hts inX0 (hts (.instantiable RX0 16) (by decide +kernel))
  obtain ⟨c1, iS1, hK1⟩ := u_known (C := RX1) (T := TX1) (N := 8) (n := 8) hts inX1 (hts (.instantiable RX1 8) (by decide +kernel))
  obtain ⟨c2, iS2, hK2⟩ := u_known (C := RX2) (T := TX2) (N := 13) (n := 13) hts inX2 (hts (.instantiable RX2 13) (by decide +kernel))
  obtain ⟨a0, h0⟩ := arr_of (ty := .int) rfl (hts (.arrayClass .int) (by decide +kernel))
  obtain ⟨a1, h1⟩ := arr_of (ty := .char) rfl (hts (.arrayClass .char) (by decide +kernel))
  obtain ⟨a2, h2⟩ := arr_of (ty := .boolean) rfl (hts (.arrayClass .boolean) (by decide +kernel))
  obtain ⟨a3, h3⟩ := arr_ov (C := RX0) (hts (.arrayOver (.object RX0)) (by decide +kernel))
  refine ⟨(fun k => if k = 0 then c0 else if k = 1 then c1 else c2, fun k => if k = 0 then iS0 else if k = 1 then iS1 else iS2), fun k => if k = 0 then a0 else if k = 1 then a1 else if k = 2 then a2 else a3, ?_, ?_⟩
  · intro k q hq
    match k, hq with
    | 0, hq => cases hq; exact hK0
    | 1, hq => cases hq; exact hK1
    | 2, hq => cases hq; exact hK2
    | k + 3, hq => simp at hq
  · intro k q hq
    match k, hq with
    | 0, hq => cases hq; exact h0
    | 1, hq => cases hq; exact h1
    | 2, hq => cases hq; exact h2
    | 3, hq => cases hq; exact h3
    | k + 4, hq => simp at hq
/-! the first memory -/
def frM : CV := fun k => match k with
  | 3 => fun j => nI (j + 2)
  | 5 => fun j => nI (8 + j)
  | _ => fun _ => 0
def mu0 : Mm := fun b => if b < 10 then frI 12 else if b = 10 then frM else frR 12
def adF (gs : Nat → Nat → Nat) (h0 qp qs qu qd : Nat) (gr : Nat → Nat) (b k : Nat) : Nat := if b < 10 then gs b k else if b = 10 then (match k with | 0 => h0 | 3 => qp | 5 => qs | 6 => qu | _ => qd) else gr k
theorem eC_ad {ad : Nat → Nat → Nat} {cs : Nat → ClassId} {b k : Nat} {f : Nat → Int32} : eC ad cs b k f = eC (fun _ => ad b) cs 0 k f := by
  unfold eC
  split <;> rfl
theorem eR_ad {ad : Nat → Nat → Nat} {cs : Nat → ClassId} {k : Nat} {f : Nat → Int32} : eR ad cs k f = eR (fun _ => ad 11) cs k f := by
  unfold eR
  split <;> rfl
theorem arrV_cong {c : ClassId} {n : Nat} {f g : Nat → Value} (h : ∀ j, j < n → f j = g j) : arrV c n f = arrV c n g := by
  unfold arrV
  congr 2
  funext j
  exact h j.val j.isLt
theorem nodup_inj {α β : Type} {f : α → β} : ∀ {l : List α}, (l.map f).Nodup → ∀ x ∈ l, ∀ y ∈ l, f x = f y → x = y := by
  intro l h x hx y hy e
  obtain ⟨i, hi⟩ := List.getElem?_of_mem hx
  obtain ⟨j, hj⟩ := List.getElem?_of_mem hy
  have h1 : (l.map f)[i]? = some (f x) := by rw [List.getElem?_map, hi]; rfl
  have h2 : (l.map f)[j]? = some (f y) := by rw [List.getElem?_map, hj]; rfl
  have h3 : i = j := (List.getElem?_inj (List.getElem?_eq_some_iff.mp h1).1 h).mp (h1.trans ((congrArg some e).trans h2.symm))
  subst h3
  exact Option.some.inj (hi.symm.trans hj)
theorem start_ad {A : Nat → Prop} {cs : Nat → ClassId} {gs : Nat → Nat → Nat} {h0 qp qs qu qd : Nat} {gr : Nat → Nat} (hD : va_D A ((w1M h0 qp qs qu qd gs cs ++ RB cs gs 10) ++ wR gr cs (frR 12))) : AD A (adF gs h0 qp qs qu qd gr) := by
  have hd := vD_mem.mp hD
  have e1 : ∀ l : List Nat, (∀ b ∈ l, b < 10) → (l.flatMap (fun b => wC (gs b) cs (frI 12))).map Prod.fst = (l.flatMap (fun b => ixC.map (fun k => (b, k)))).map (fun q => adF gs h0 qp qs qu qd gr q.1 q.2) := by
    intro l
    induction l with
    | nil => intro _; rfl
    | cons a l ih =>
      intro h
      rw [List.flatMap_cons, List.flatMap_cons, List.map_append, List.map_append, ih (fun b hb => h b (List.mem_cons_of_mem _ hb))]
      congr 1
      rw [wC, List.map_map, List.map_map]
      apply List.map_congr_left
      intro k _
      have hm : a < 10 := h a (List.mem_cons_self ..)
      exact (if_pos hm).symm
  have e : ((w1M h0 qp qs qu qd gs cs ++ RB cs gs 10) ++ wR gr cs (frR 12)).map Prod.fst = (ixM.map (fun q => adF gs h0 qp qs qu qd gr q.1 q.2) ++ ((List.range 10).flatMap (fun b => ixC.map (fun k => (b, k)))).map (fun q => adF gs h0 qp qs qu qd gr q.1 q.2)) ++ ixR.map (fun q => adF gs h0 qp qs qu qd gr q.1 q.2) := by
    rw [List.map_append, List.map_append, RB, e1 _ (fun b hb => List.mem_range.mp hb)]
    rfl
  have pm : (((w1M h0 qp qs qu qd gs cs ++ RB cs gs 10) ++ wR gr cs (frR 12)).map Prod.fst).Perm (idx.map (fun q => adF gs h0 qp qs qu qd gr q.1 q.2)) := by
    rw [e, idx, List.map_append, List.map_append, ← List.append_assoc]
    exact List.Perm.append_right _ List.perm_append_comm
  have hn := pm.nodup_iff.mp hd.1
  refine ⟨fun p hp q hq => nodup_inj hn p hp q hq, fun p hp => ?_⟩
  have hm : adF gs h0 qp qs qu qd gr p.1 p.2 ∈ ((w1M h0 qp qs qu qd gs cs ++ RB cs gs 10) ++ wR gr cs (frR 12)).map Prod.fst := pm.mem_iff.mpr (List.mem_map.mpr ⟨p, hp, rfl⟩)
  obtain ⟨x, hx, he⟩ := List.mem_map.mp hm
  rw [← he]
  exact hd.2 x hx
theorem start_wl {D : va_G} {H : Heap} {cs : Nat → ClassId} {gs : Nat → Nat → Nat} {h0 qp qs qu qd : Nat} {gr : Nat → Nat} (hP : va_P D vwCl ((w1M h0 qp qs qu qd gs cs ++ RB cs gs 10) ++ wR gr cs (frR 12)) H) : va_P D vwCl (wl (adF gs h0 qp qs qu qd gr) cs mu0) H := by
  have hp := vP_mem.mp hP
  have hM : ∀ q ∈ w1M h0 qp qs qu qd gs cs, va_at D vwCl q H := fun q hq => hp q (List.mem_append_left _ (List.mem_append_left _ hq))
  have e0 : ∀ b k, b < 10 → adF gs h0 qp qs qu qd gr b k = gs b k := fun b k hb => if_pos hb
  refine vP_mem.mpr (fun q hq => ?_)
  obtain ⟨⟨b, k⟩, hbk, rfl⟩ := List.mem_map.mp hq
  show va_at D vwCl (adF gs h0 qp qs qu qd gr b k, EE (adF gs h0 qp qs qu qd gr) cs b k (mu0 b k)) H
  rcases List.mem_append.mp hbk with h | h
  · obtain ⟨b', h1, h2⟩ := List.mem_flatMap.mp h
    obtain ⟨k', h3, h4⟩ := List.mem_map.mp h2
    cases h4
    have hb := List.mem_range.mp h1
    have hg : (fun k => adF gs h0 qp qs qu qd gr b k) = gs b := by funext k; exact e0 b k hb
    rw [EE, if_pos hb, eC_ad, e0 b k hb, mu0, if_pos hb]
    have hg2 : adF gs h0 qp qs qu qd gr b = gs b := hg
    rw [hg2]
    exact hp _ (List.mem_append_left _ (List.mem_append_right _ (RB_mem hb (List.mem_map.mpr ⟨k, h3, rfl⟩))))
  · rcases List.mem_append.mp h with h | h
    · simp only [ixM, List.mem_cons, List.not_mem_nil, or_false, Prod.mk.injEq] at h
      rcases h with ⟨rfl, rfl⟩ | ⟨rfl, rfl⟩ | ⟨rfl, rfl⟩ | ⟨rfl, rfl⟩ | ⟨rfl, rfl⟩
      · exact hM (h0, _) (List.mem_cons_self ..)
      · have := hM (qp, _) (List.mem_cons_of_mem _ (List.mem_cons_self ..))
        show H[qp]? = some (vp_cell (cs 3) (6, .inr (.inr (.inr (.inr (qC (adF gs h0 qp qs qu qd gr) (frM 3)))))))
        have t : H[qp]? = some (vp_cell (cs 3) (6, _)) := this
        rw [t, vp_cell_q, vp_cell_q]
        refine congrArg some (arrV_cong (fun j hj => ?_))
        rcases (show j = 0 ∨ j = 1 ∨ j = 2 ∨ j = 3 ∨ j = 4 ∨ j = 5 by omega) with rfl | rfl | rfl | rfl | rfl | rfl <;> rfl
      · have := hM (qs, _) (List.mem_cons_of_mem _ (List.mem_cons_of_mem _ (List.mem_cons_self ..)))
        show H[qs]? = some (vp_cell (cs 3) (2, .inr (.inr (.inr (.inr (qC (adF gs h0 qp qs qu qd gr) (frM 5)))))))
        have t : H[qs]? = some (vp_cell (cs 3) (2, _)) := this
        rw [t, vp_cell_q, vp_cell_q]
        refine congrArg some (arrV_cong (fun j hj => ?_))
        rcases (show j = 0 ∨ j = 1 by omega) with rfl | rfl <;> rfl
      · exact hM (qu, _) (List.mem_cons_of_mem _ (List.mem_cons_of_mem _ (List.mem_cons_of_mem _ (List.mem_cons_self ..))))
      · exact hM (qd, _) (List.mem_cons_of_mem _ (List.mem_cons_of_mem _ (List.mem_cons_of_mem _ (List.mem_cons_of_mem _ (List.mem_cons_self ..)))))
    · have hg2 : adF gs h0 qp qs qu qd gr 11 = gr := rfl
      have e11 : ∀ k ∈ ixR2, va_at D vwCl (adF gs h0 qp qs qu qd gr 11 k, EE (adF gs h0 qp qs qu qd gr) cs 11 k (mu0 11 k)) H := by
        intro k hk
        rw [EE, if_neg (by decide), if_neg (by decide), eR_ad, hg2]
        exact hp _ (List.mem_append_right _ (List.mem_map.mpr ⟨k, hk, rfl⟩))
      have hh : ∀ q ∈ ixR, q.1 = 11 ∧ q.2 ∈ ixR2 := by decide +kernel
      obtain ⟨rfl, h2⟩ := hh _ h
      exact e11 k h2
theorem start_ty : TY mu0 := by
  refine ⟨fun b j hb _ => ?_, fun b j hb _ => ?_, fun j _ => ⟨0, by decide, rfl⟩⟩
  · rw [mu0, if_pos hb]; exact ⟨0, by decide, rfl⟩
  · rw [mu0, if_pos hb]; exact Or.inl rfl
/-! what holds between the calls -/
def LI (μ : Mm) (V : CV) (N h : Nat) (hc : Nat → CV) (nh : Nat → Nat) (s0 s1 : CV) (n0 n1 : Nat) (u : Nat → Int32) (pl : Nat) (pd : Nat → Int32) : Prop :=
  GS μ V h hc s0 s1 u pl pd ∧ RM (μ 11) V N h hc nh s0 s1 n0 n1 u pl pd ∧ CI V N ∧ (∀ j, j < h → CI (hc j) (nh j)) ∧ ((u 0 ≠ 0 → CI s0 n0) ∧ (u 1 ≠ 0 → CI s1 n1)) ∧ isBo (s0 0 14) ∧ isBo (s1 0 14)
def LX (μ : Mm) : Prop := ∃ (V : CV) (N h : Nat) (hc : Nat → CV) (nh : Nat → Nat) (s0 s1 : CV) (n0 n1 : Nat) (u : Nat → Int32) (pl : Nat) (pd : Nat → Int32), LI μ V N h hc nh s0 s1 n0 n1 u pl pd
theorem sm_0 : ∀ n, sm (fun _ => 0) n = 0
  | 0 => rfl
  | n + 1 => by rw [sm, sm_0 n]; rfl
theorem start_lx : LX mu0 := by
  have n6 : ∀ c, c < 12 → neg6 12 c = -6 := fun c hc => if_pos hc
  refine ⟨frI 12, 0, 0, fun _ => frI 12, fun _ => 0, frI 12, frI 12, 0, 0, fun _ => 0, 0, fun _ => 0, ⟨rfl, ⟨fun j => j + 2, ⟨fun j hj => ⟨Nat.le_add_left 2 j, show j + 2 < 8 by omega, rfl⟩, fun i j _ _ h => by have h : i + 2 = j + 2 := h; omega, by omega, rfl⟩, fun j hj => absurd hj (Nat.not_lt_zero _)⟩, rfl, rfl, rfl, rfl, rfl, rfl, rfl⟩, ⟨⟨⟨⟨fun j hj => ?_, ?_, ?_, ?_, ?_, ?_⟩, fun n hn => absurd hn (Nat.not_lt_zero _), fun c hc => ?_⟩, by omega⟩, ⟨rfl, by omega, fun j hj => absurd hj (Nat.not_lt_zero _)⟩, ⟨⟨rfl, rfl, by omega, by omega⟩, fun z => absurd rfl z, fun z => absurd rfl z⟩, rfl, by omega, rfl⟩, ⟨⟨rfl, by omega, Or.inl rfl⟩, ⟨⟨3, by omega, rfl⟩, 2, by omega, rfl⟩, ⟨fun c hc => Or.inl (n6 c hc), fun n hn => absurd hn (Nat.not_lt_zero _)⟩, ⟨fun n hn => absurd hn (Nat.not_lt_zero _), fun n hn => absurd hn (Nat.not_lt_zero _), fun _ _ _ => rfl, fun _ c hc => n6 c hc⟩, fun n hn => absurd hn (Nat.not_lt_zero _)⟩, fun j hj => absurd hj (Nat.not_lt_zero _), ⟨fun z => absurd rfl z, fun z => absurd rfl z⟩, Or.inl rfl, Or.inl rfl⟩
  · show mr0 12 j = st4 j
    rw [mr0, if_neg (by omega)]
  · show mr0 12 4 = 0
    rw [mr0, if_neg (by omega)]; rfl
  · show mr0 12 5 = 0
    rw [mr0, if_neg (by omega)]; rfl
  · show mr0 12 6 = 0
    rw [mr0, if_neg (by omega)]; rfl
  · show mr0 12 7 = sm (fun _ => 0) 12
    rw [mr0, if_neg (by omega), sm_0]; rfl
  · show mr0 12 8 = sm (fun _ => 0) 20
    rw [mr0, if_neg (by omega), sm_0]; rfl
  · have z : ∀ j, 4 ≤ j → st4 j = 0 := fun j hj => by
      show (if j = 3 then _ else if j = 2 then _ else if j = 1 then _ else if j = 0 then _ else _) = _
      rw [if_neg (by omega), if_neg (by omega), if_neg (by omega), if_neg (by omega)]
    refine ⟨?_, ?_, ?_, ?_, ?_, ?_⟩
    · show mr0 12 (249 + c) = neg6 12 c
      rw [mr0, if_pos (by omega), n6 c hc]
    · show mr0 12 (261 + c) = 0
      rw [mr0, if_neg (by omega), z _ (by omega)]
    · show mr0 12 (273 + c) = 0
      rw [mr0, if_neg (by omega), z _ (by omega)]
    · show mr0 12 (285 + c) = if neg6 12 c = -6 then -6 else 0
      rw [mr0, if_pos (by omega), if_pos (n6 c hc)]
    · show mr0 12 (297 + c) = 0
      rw [mr0, if_neg (by omega), z _ (by omega)]
    · show mr0 12 (309 + c) = if (0 : Int32) = 0 then -6 else neg6 12 c
      rw [mr0, if_pos (by omega), if_pos rfl]
