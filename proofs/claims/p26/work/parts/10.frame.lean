/-! THE MEMORY: block, offset, place. Blocks 0..9: courts (0 now, 1 trial, 2..7 made for the past, 8, 9 slots); 10: the PunCourts object; 11: the model. Offset 0: the object's own int fields (place = slot of the field); offset f + 1: the array in field f. -/
abbrev Mm : Type := Nat → Nat → Nat → Int32
def us (V : Nat → Nat → Int32) (k j : Nat) (v : Int32) : Nat → Nat → Int32 := fun k' j' => if k' = k ∧ j' = j then v else V k' j'
def uc (V : Nat → Nat → Int32) (k : Nat) (f : Nat → Int32) : Nat → Nat → Int32 := fun k' => if k' = k then f else V k'
def mb (μ : Mm) (b : Nat) (V : Nat → Nat → Int32) : Mm := fun b' => if b' = b then V else μ b'
def mc (μ : Mm) (b k : Nat) (f : Nat → Int32) : Mm := mb μ b (uc (μ b) k f)
def ms (μ : Mm) (b k j : Nat) (v : Int32) : Mm := mc μ b k (upd (μ b k) j v)
theorem mb_s {μ : Mm} {b : Nat} {V : Nat → Nat → Int32} : mb μ b V b = V := if_pos rfl
theorem mb_n {μ : Mm} {b b' : Nat} {V : Nat → Nat → Int32} (h : b' ≠ b) : mb μ b V b' = μ b' := if_neg h
theorem mb_self {μ : Mm} {b : Nat} : mb μ b (μ b) = μ := by
  funext b'
  by_cases h : b' = b
  · subst h; exact mb_s
  · exact mb_n h
theorem mb_mb {μ : Mm} {b : Nat} {V V1 : Nat → Nat → Int32} : mb (mb μ b V) b V1 = mb μ b V1 := by
  funext b'
  by_cases h : b' = b
  · subst h; rw [mb_s, mb_s]
  · rw [mb_n h, mb_n h, mb_n h]
theorem mb_comm {μ : Mm} {b b1 : Nat} {V V1 : Nat → Nat → Int32} (h : b ≠ b1) : mb (mb μ b V) b1 V1 = mb (mb μ b1 V1) b V := by
  funext b'
  by_cases h1 : b' = b
  · subst h1; rw [mb_n h, mb_s, mb_s]
  · by_cases h2 : b' = b1
    · subst h2; rw [mb_s, mb_n h1, mb_s]
    · rw [mb_n h1, mb_n h2, mb_n h2, mb_n h1]
theorem uc_s {V : Nat → Nat → Int32} {k : Nat} {f : Nat → Int32} : uc V k f k = f := if_pos rfl
theorem uc_n {V : Nat → Nat → Int32} {k k' : Nat} {f : Nat → Int32} (h : k' ≠ k) : uc V k f k' = V k' := if_neg h
theorem us_e {V : Nat → Nat → Int32} {k j : Nat} {v : Int32} (k' j' : Nat) : us V k j v k' j' = if k' = k ∧ j' = j then v else V k' j' := rfl
theorem us_s {V : Nat → Nat → Int32} {k j : Nat} {v : Int32} : us V k j v k j = v := if_pos ⟨rfl, rfl⟩
theorem us_i {V : Nat → Nat → Int32} {k j j' : Nat} {v : Int32} : us V k j v k j' = if j' = j then v else V k j' := by
  rw [us_e]; by_cases h : j' = j <;> simp [h]
theorem us_n {V : Nat → Nat → Int32} {k j k' : Nat} {v : Int32} (h : k' ≠ k) : us V k j v k' = V k' := by
  funext j'; rw [us_e, if_neg (fun q => h q.1)]
theorem uc_upd {V : Nat → Nat → Int32} {k j : Nat} {v : Int32} : uc V k (upd (V k) j v) = us V k j v := by
  funext k' j'
  by_cases h : k' = k
  · subst h
    rw [uc_s, us_i]; rfl
  · rw [uc_n h, us_n h]
theorem ms_mb {μ : Mm} {b k j : Nat} {v : Int32} : ms μ b k j v = mb μ b (us (μ b) k j v) := by rw [ms, mc, uc_upd]
theorem ms_b {μ : Mm} {b k j : Nat} {V : Nat → Nat → Int32} {v : Int32} : ms (mb μ b V) b k j v = mb μ b (us V k j v) := by rw [ms_mb, mb_s, mb_mb]
theorem mc_b {μ : Mm} {b k : Nat} {V : Nat → Nat → Int32} {f : Nat → Int32} : mc (mb μ b V) b k f = mb μ b (uc V k f) := by rw [mc, mb_s, mb_mb]
theorem mc_s {μ : Mm} {b k : Nat} {f : Nat → Int32} : mc μ b k f b k = f := by rw [mc, mb_s, uc_s]
theorem mc_n {μ : Mm} {b k b' k' : Nat} {f : Nat → Int32} (h : b' ≠ b ∨ k' ≠ k) : mc μ b k f b' k' = μ b' k' := by
  by_cases hb : b' = b
  · subst hb
    rw [mc, mb_s, uc_n (h.elim (fun z => absurd rfl z) id)]
  · rw [mc, mb_n hb]
theorem ms_s {μ : Mm} {b k j : Nat} {v : Int32} : ms μ b k j v b k j = v := by rw [ms_mb, mb_s, us_s]
theorem ms_i {μ : Mm} {b k j j' : Nat} {v : Int32} : ms μ b k j v b k j' = if j' = j then v else μ b k j' := by rw [ms_mb, mb_s, us_i]
theorem ms_n {μ : Mm} {b k j b' k' : Nat} {v : Int32} (h : b' ≠ b ∨ k' ≠ k) : ms μ b k j v b' k' = μ b' k' := mc_n h
theorem mc_out {μ : Mm} {b k b' k' : Nat} {f : Nat → Int32} (h : ¬ (b' = b ∧ k' = k)) : mc μ b k f b' k' = μ b' k' := mc_n (by
  rcases Nat.decEq b' b with q | q
  · exact Or.inl q
  · exact Or.inr (fun z => h ⟨q, z⟩))
def cC (ad : Nat → Nat → Nat) (b : Nat) (f : Nat → Int32) : List Value := [.ref (ad b 1), .int (f 1), .int (f 2), .ref (ad b 4), .ref (ad b 5), .ref (ad b 6), .ref (ad b 7), .ref (ad b 8), .ref (ad b 9), .ref (ad b 10), .ref (ad b 11), .ref (ad b 12), .ref (ad b 13), .ref (ad b 14), .int (f 14), .ref (ad b 16)]
def cM (ad : Nat → Nat → Nat) (f : Nat → Int32) : List Value := [.ref (ad 0 0), .ref (ad 1 0), .ref (ad 10 3), .int (f 3), .ref (ad 10 5), .ref (ad 10 6), .ref (ad 10 7), .int (f 7)]
def cR (ad : Nat → Nat → Nat) (f : Nat → Int32) : List Value := [.ref (ad 11 1), .ref (ad 11 2), .ref (ad 11 3), .int (f 3), .ref (ad 11 5), .ref (ad 11 6), .ref (ad 11 7), .int (f 7), .int (f 8), .ref (ad 11 10), .ref (ad 11 11), .ref (ad 11 12), .int (f 12)]
/-- an array of courts holds the number of a block at each place -/
def qC (ad : Nat → Nat → Nat) (f : Nat → Int32) : Nat → Option Nat := fun j => some (ad (f j).toNatClampNeg 0)
def eC (ad : Nat → Nat → Nat) (cs : Nat → ClassId) (b k : Nat) (f : Nat → Int32) : va_E := match k with
  | 0 => .inr (0, cC ad b f)
  | 1 => .inl (cs 0, 4, .inl f)
  | 4 => .inl (cs 1, 180, .inl f)
  | 5 => .inl (cs 0, 20, .inl f)
  | 6 => .inl (cs 0, 20, .inl f)
  | 7 => .inl (cs 0, 20, .inl f)
  | 8 => .inl (cs 2, 20, .inl f)
  | 9 => .inl (cs 0, 20, .inl f)
  | _ => .inl (cs 0, 12, .inl f)
def eM (ad : Nat → Nat → Nat) (cs : Nat → ClassId) (k : Nat) (f : Nat → Int32) : va_E := match k with
  | 0 => .inr (1, cM ad f)
  | 3 => .inl (cs 3, 6, .inr (.inr (.inr (.inr (qC ad f)))))
  | 5 => .inl (cs 3, 2, .inr (.inr (.inr (.inr (qC ad f)))))
  | 6 => .inl (cs 2, 2, .inl f)
  | _ => .inl (cs 1, 60, .inl f)
def eR (ad : Nat → Nat → Nat) (cs : Nat → ClassId) (k : Nat) (f : Nat → Int32) : va_E := match k with
  | 0 => .inr (2, cR ad f)
  | 1 => .inl (cs 0, 322, .inl f)
  | 2 => .inl (cs 0, 322, .inl f)
  | 3 => .inl (cs 0, 1932, .inl f)
  | 5 => .inl (cs 0, 644, .inl f)
  | 6 => .inl (cs 0, 2, .inl f)
  | 7 => .inl (cs 0, 60, .inl f)
  | _ => .inl (cs 0, 30, .inl f)
def EE (ad : Nat → Nat → Nat) (cs : Nat → ClassId) (b k : Nat) (f : Nat → Int32) : va_E := if b < 10 then eC ad cs b k f else if b = 10 then eM ad cs k f else eR ad cs k f
def ixC : List Nat := [0, 1, 4, 5, 6, 7, 8, 9, 10, 11, 12, 13, 14, 16]
def ixM : List (Nat × Nat) := [(10, 0), (10, 3), (10, 5), (10, 6), (10, 7)]
def ixR : List (Nat × Nat) := []
def idx : List (Nat × Nat) := (List.range 10).flatMap (fun b => ixC.map (fun k => (b, k))) ++ (ixM ++ ixR)
theorem idx_nd : idx.Nodup := by decide +kernel
theorem idx_C {b k : Nat} (hb : b < 10) (hk : k ∈ ixC) : (b, k) ∈ idx := List.mem_append_left _ (List.mem_flatMap.mpr ⟨b, List.mem_range.mpr hb, List.mem_map.mpr ⟨k, hk, rfl⟩⟩)
theorem idx_lt {b k : Nat} (h : (b, k) ∈ idx) : b < 12 := by
  have h1 : ∀ q ∈ idx, q.1 < 12 := by decide +kernel
  exact h1 _ h
def wl (ad : Nat → Nat → Nat) (cs : Nat → ClassId) (μ : Mm) : va_W := idx.map (fun q => (ad q.1 q.2, EE ad cs q.1 q.2 (μ q.1 q.2)))
theorem wl_get {ad : Nat → Nat → Nat} {cs : Nat → ClassId} (μ : Mm) {b k : Nat} (h : (b, k) ∈ idx) : ∃ q0 : Nat, idx[q0]? = some (b, k) ∧ (wl ad cs μ)[q0]? = some (ad b k, EE ad cs b k (μ b k)) := by
  obtain ⟨q0, h0⟩ := List.getElem?_of_mem h
  exact ⟨q0, h0, by rw [wl, List.getElem?_map, h0]; rfl⟩
theorem wl_set {ad : Nat → Nat → Nat} {cs : Nat → ClassId} (μ : Mm) {b k q0 : Nat} (f : Nat → Int32) (h : idx[q0]? = some (b, k)) : (wl ad cs μ).set q0 (ad b k, EE ad cs b k f) = wl ad cs (mc μ b k f) := by
  apply List.ext_getElem?
  intro i
  have hq : q0 < idx.length := (List.getElem?_eq_some_iff.mp h).1
  by_cases hi : i = q0
  · subst hi
    rw [List.getElem?_set_self (by rw [wl, List.length_map]; exact hq), wl, List.getElem?_map, h]
    show _ = some (ad b k, EE ad cs b k (mc μ b k f b k))
    rw [mc_s]
  · rw [List.getElem?_set_ne (Ne.symm hi), wl, wl, List.getElem?_map, List.getElem?_map]
    cases hx : idx[i]? with
    | none => rfl
    | some x =>
      have hne : x ≠ (b, k) := by
        intro e
        subst e
        have hl := (List.getElem?_eq_some_iff.mp hx).1
        exact hi ((List.getElem?_inj hl idx_nd).mp (hx.trans h.symm))
      have h2 : x.1 ≠ b ∨ x.2 ≠ k := by
        rcases Nat.decEq x.1 b with q | q
        · exact Or.inl q
        · exact Or.inr (fun z => hne (by rw [← q, ← z]))
      show some _ = some (ad x.1 x.2, EE ad cs x.1 x.2 (mc μ b k f x.1 x.2))
      rw [mc_n h2]
def AD (A : Nat → Prop) (ad : Nat → Nat → Nat) : Prop := (∀ p ∈ idx, ∀ q ∈ idx, ad p.1 p.2 = ad q.1 q.2 → p = q) ∧ ∀ p ∈ idx, A (ad p.1 p.2)
theorem AD.D {A : Nat → Prop} {ad : Nat → Nat → Nat} {cs : Nat → ClassId} {μ : Mm} (h : AD A ad) : va_D A (wl ad cs μ) := by
  have key : ∀ (k : Nat) (q : Nat × va_E), (wl ad cs μ)[k]? = some q → ∃ x, idx[k]? = some x ∧ q.1 = ad x.1 x.2 := by
    intro k q hk
    rw [wl, List.getElem?_map] at hk
    cases hx : idx[k]? with
    | none => rw [hx] at hk; cases hk
    | some x => rw [hx] at hk; cases hk; exact ⟨x, rfl, rfl⟩
  refine ⟨fun i j p q hi hj hpq => ?_, fun k q hk => ?_⟩
  · obtain ⟨x, h1, h2⟩ := key i p hi
    obtain ⟨y, h3, h4⟩ := key j q hj
    have e := h.1 x (List.mem_of_getElem? h1) y (List.mem_of_getElem? h3) (by rw [← h2, ← h4]; exact hpq)
    subst e
    exact (List.getElem?_inj (List.getElem?_eq_some_iff.mp h1).1 idx_nd).mp (h1.trans h3.symm)
  · obtain ⟨x, h1, h2⟩ := key k q hk
    rw [h2]
    exact h.2 x (List.mem_of_getElem? h1)
/-- what the small arrays hold fits them -/
def isCh (x : Int32) : Prop := ∃ q : Nat, q < 65536 ∧ x = nI q
def isBo (x : Int32) : Prop := x = 0 ∨ x = 1
def TY (μ : Mm) : Prop := (∀ b j, b < 10 → j < 180 → isCh (μ b 4 j)) ∧ (∀ b j, b < 10 → j < 20 → isBo (μ b 8 j)) ∧ ∀ j, j < 60 → isCh (μ 10 7 j)
theorem TY.keep {μ : Mm} {b k : Nat} {f : Nat → Int32} (h : TY μ) (h1 : b < 10 → k = 4 → ∀ j, j < 180 → isCh (f j)) (h2 : b < 10 → k = 8 → ∀ j, j < 20 → isBo (f j)) (h3 : b = 10 → k = 7 → ∀ j, j < 60 → isCh (f j)) : TY (mc μ b k f) := by
  refine ⟨fun b' j hb hj => ?_, fun b' j hb hj => ?_, fun j hj => ?_⟩
  · by_cases e : b' = b ∧ 4 = k
    · obtain ⟨rfl, rfl⟩ := e
      rw [mc_s]; exact h1 hb rfl j hj
    · rw [mc_out e]; exact h.1 b' j hb hj
  · by_cases e : b' = b ∧ 8 = k
    · obtain ⟨rfl, rfl⟩ := e
      rw [mc_s]; exact h2 hb rfl j hj
    · rw [mc_out e]; exact h.2.1 b' j hb hj
  · by_cases e : 10 = b ∧ 7 = k
    · obtain ⟨rfl, rfl⟩ := e
      rw [mc_s]; exact h3 rfl rfl j hj
    · rw [mc_out e]; exact h.2.2 j hj
def sg (j : Nat) : Int32 := ([7, 1, 2, 3, 7, 4, 2, 0, 7, 2, 2, 5, 6, 6, 7, 1, 2, 5, 2, 3, 7, 4, 4, 2, 0, 2] : List Int32).getD j 0
def lo4 (j : Nat) : Int32 := ([0, 1, 0, 0] : List Int32).getD j 0
def hi4 (j : Nat) : Int32 := ([11, 6, 9, 60] : List Int32).getD j 0
def ST (z : Nat → Nat) (A : Nat → Prop) (U : State) (H : Heap) : Prop := (va_Z RX1 "SIGNS" "[I" (.ref (z 0)) A U H ∧ va_Z RX1 "LOWEST" "[I" (.ref (z 1)) A U H ∧ va_Z RX1 "HIGHEST" "[I" (.ref (z 2)) A U H) ∧ va_T .int (z 0) 26 (fun j => .int (sg j)) A U H ∧ va_T .int (z 1) 4 (fun j => .int (lo4 j)) A U H ∧ va_T .int (z 2) 4 (fun j => .int (hi4 j)) A U H
theorem ST.moved {z : Nat → Nat} {A : Nat → Prop} {u U : State} {H : Heap} (hvm : u.vm.Alike U.vm) (h : ST z A u H) : ST z A U H := ⟨⟨h.1.1.moved hvm, h.1.2.1.moved hvm, h.1.2.2.moved hvm⟩, h.2.1.moved hvm, h.2.2.1.moved hvm, h.2.2.2.moved hvm⟩
theorem ST.kept {z : Nat → Nat} {A : Nat → Prop} {U : State} {H H1 : Heap} (h : ST z A U H) (hq : ∀ a : Nat, a < H.size → ¬ A a → H1[a]? = H[a]?) : ST z A U H1 := ⟨⟨h.1.1.kept hq, h.1.2.1.kept hq, h.1.2.2.kept hq⟩, h.2.1.kept hq, h.2.2.1.kept hq, h.2.2.2.kept hq⟩
def NW (U : State) : Prop := va_Nw (.fieldLinkNest RX0 71 "PunCourts" "SIGNS" "[I" "PunCourts") U ∧ va_Nw (.methodLinkNest RX0 144 yX1_copyRow "PunCourts") U
theorem NW.warm {s U : State} (hW : s.WarmedH U.vm) (h : NW s) : NW U := ⟨va_Nw.warmF hW h.1, va_Nw.warmM hW h.2⟩
abbrev tyl (cs : Nat → ClassId) : List (ClassId × FieldType) := [(cs 0, .int), (cs 1, .char), (cs 2, .boolean), (cs 3, .object RX0)]
def WS (D : va_G) (ad : Nat → Nat → Nat) (cs : Nat → ClassId) (A : Nat → Prop) (z : Nat → Nat) (μ : Mm) (U : State) : Prop := va_P D vwCl (wl ad cs μ) U.heap ∧ TY μ ∧ va_K D vwCl (tyl cs) U ∧ AD A ad ∧ ST z A U U.heap ∧ NW U
def QS (D : va_G) (ad : Nat → Nat → Nat) (cs : Nat → ClassId) (μ : Mm) (t : State) : Prop := va_P D vwCl (wl ad cs μ) t.heap ∧ TY μ
theorem WS.blind {D : va_G} {ad : Nat → Nat → Nat} {cs : Nat → ClassId} {A : Nat → Prop} {z : Nat → Nat} {as : List Value} {μ : Mm} : FrameBlind (va_Pc as (WS D ad cs A z μ)) := fun a U g mk q => ⟨q.1, q.2.1, q.2.2.1, va_K.moved (u := U) (U := U.calling g mk a) (Vm.Alike.refl U.vm) q.2.2.2.1, q.2.2.2.2.1, ST.moved (u := U) (U := U.calling g mk a) (Vm.Alike.refl U.vm) q.2.2.2.2.2.1, va_Nw.same rfl rfl q.2.2.2.2.2.2.1, va_Nw.same rfl rfl q.2.2.2.2.2.2.2⟩
/-- contracts: int answer, no answer -/
def KI (l : Launch) (D : va_G) (ad : Nat → Nat → Nat) (cs : Nat → ClassId) (A : Nat → Prop) (z : Nat → Nat) (y : MethodName) (ws : List Cond) (rm : Room) (as : List Value) (μ : Mm) (post : Int32 → Mm → Prop) : Prop := Met l y ws rm (va_Pc as (WS D ad cs A z μ)) (va_Qi post (QS D ad cs) A) 0 0 A
def KV (l : Launch) (D : va_G) (ad : Nat → Nat → Nat) (cs : Nat → ClassId) (A : Nat → Prop) (z : Nat → Nat) (y : MethodName) (ws : List Cond) (rm : Room) (as : List Value) (μ : Mm) (post : Mm → Prop) : Prop := Met l y ws rm (va_Pc as (WS D ad cs A z μ)) (va_Qv post (QS D ad cs) A) 0 0 A
def JX (p : Program) (s : State) (m : MethodId) (args : Array Value) (c : Code) (cc : ByteArray) (nL : Nat) (own : String) (Ts : List Cond) (R : Room) (ce sl : Nat) (D : va_G) (ad : Nat → Nat → Nat) (cs : Nat → ClassId) (A : Nat → Prop) (z : Nat → Nat) : Prop := CallFix p m c cc nL s args Ts own ∧ (ce ≤ R.cells ∧ sl ≤ R.slots) ∧ va_K D vwCl (tyl cs) s ∧ AD A ad ∧ ST z A s s.heap ∧ NW s
def J (p : Program) (l : Launch) (e : Env) (R : Room) (s : State) (m : MethodId) (args : Array Value) (below : List Frame) (meth : Method) (c : Code) (ce sl : Nat) (Q : State → Prop) (nL : Nat) (D : va_G) (ad : Nat → Nat → Nat) (cs : Nat → ClassId) (A : Nat → Prop) (pc : Nat) (lv : List (Nat × Value)) (st : List Value) (μ : Mm) : Prop :=
  ∀ (H : Heap) (locs : List Loc) (ls : Array Slot), va_P D vwCl (wl ad cs μ) H → TY μ → va_S A s.heap H locs → lv_has ls nL lv → W p l e R s m args below meth c H locs ce sl Q (F0 m pc ls st)

section JROWS
variable {p : Program} {l : Launch} {e : Env} {R : Room} {s : State} {m : MethodId} {args : Array Value} {below : List Frame} {meth : Method} {c : Code} {ce sl : Nat} {Q : State → Prop} {cc : ByteArray} {nL : Nat} {own : String} {Ts : List Cond} {D : va_G} {ad : Nat → Nat → Nat} {cs : Nat → ClassId} {A : Nat → Prop} {z : Nat → Nat} {pc : Nat} {lv lv' : List (Nat × Value)} {st : List Value} {μ : Mm}

theorem j_iconst (X : JX p s m args c cc nL own Ts R ce sl D ad cs A z) {n : Int} {v : Int32} (d : decode cc pc = .ok (.iconst n, 1)) (hv : Int32.ofInt n = v) (kk : J p l e R s m args below meth c ce sl Q nL D ad cs A (pc + 1) lv (.int v :: st) μ) : J p l e R s m args below meth c ce sl Q nL D ad cs A pc lv st μ := fun H locs ls hP hT hS hl => lv_iconst X.1.1 X.1.2.1 d hv (kk H locs ls hP hT hS hl)
theorem j_bipush (X : JX p s m args c cc nL own Ts R ce sl D ad cs A z) {n : Int} {v : Int32} (d : decode cc pc = .ok (.bipush n, 2)) (hv : (Int8.ofInt n).toInt32 = v) (kk : J p l e R s m args below meth c ce sl Q nL D ad cs A (pc + 2) lv (.int v :: st) μ) : J p l e R s m args below meth c ce sl Q nL D ad cs A pc lv st μ := fun H locs ls hP hT hS hl => lv_bipush X.1.1 X.1.2.1 d hv (kk H locs ls hP hT hS hl)
theorem j_sipush (X : JX p s m args c cc nL own Ts R ce sl D ad cs A z) {n : Int} {v : Int32} (d : decode cc pc = .ok (.sipush n, 3)) (hv : (Int16.ofInt n).toInt32 = v) (kk : J p l e R s m args below meth c ce sl Q nL D ad cs A (pc + 3) lv (.int v :: st) μ) : J p l e R s m args below meth c ce sl Q nL D ad cs A pc lv st μ := fun H locs ls hP hT hS hl => lv_sipush X.1.1 X.1.2.1 d hv (kk H locs ls hP hT hS hl)
theorem j_lconst (X : JX p s m args c cc nL own Ts R ce sl D ad cs A z) {n : Fin 2} {v : Int64} (d : decode cc pc = .ok (.lconst n, 1)) (hv : Int64.ofNat (n : Nat) = v) (kk : J p l e R s m args below meth c ce sl Q nL D ad cs A (pc + 1) lv (.long v :: st) μ) : J p l e R s m args below meth c ce sl Q nL D ad cs A pc lv st μ := fun H locs ls hP hT hS hl => lv_lconst X.1.1 X.1.2.1 d hv (kk H locs ls hP hT hS hl)
theorem j_ldc2 (X : JX p s m args c cc nL own Ts R ce sl D ad cs A z) {index : Nat} {v : Int64} (hc : (Jvm.Cond.constantLong own index v).before args s = true) (d : decode cc pc = .ok (.ldc2_w index, 3)) (kk : J p l e R s m args below meth c ce sl Q nL D ad cs A (pc + 3) lv (.long v :: st) μ) : J p l e R s m args below meth c ce sl Q nL D ad cs A pc lv st μ := fun H locs ls hP hT hS hl => lv_ldc2 X.1.1 X.1.2.1 X.1.2.2.2.1 hc d (kk H locs ls hP hT hS hl)
theorem j_iload_n (X : JX p s m args c cc nL own Ts R ce sl D ad cs A z) {k : Fin 4} {i q : Nat} {x : Int32} (d : decode cc pc = .ok (.iload_n k, 1)) (hi : (k : Nat) = i) (hq : lv[q]? = some (i, .int x)) (kk : J p l e R s m args below meth c ce sl Q nL D ad cs A (pc + 1) lv (.int x :: st) μ) : J p l e R s m args below meth c ce sl Q nL D ad cs A pc lv st μ := fun H locs ls hP hT hS hl => lv_iload_n X.1.1 X.1.2.1 d hi (lv_at hl q hq) (kk H locs ls hP hT hS hl)
theorem j_iload (X : JX p s m args c cc nL own Ts R ce sl D ad cs A z) {i q : Nat} {x : Int32} (d : decode cc pc = .ok (.iload i, 2)) (hq : lv[q]? = some (i, .int x)) (kk : J p l e R s m args below meth c ce sl Q nL D ad cs A (pc + 2) lv (.int x :: st) μ) : J p l e R s m args below meth c ce sl Q nL D ad cs A pc lv st μ := fun H locs ls hP hT hS hl => lv_iload X.1.1 X.1.2.1 d (lv_at hl q hq) (kk H locs ls hP hT hS hl)
theorem j_lload_n (X : JX p s m args c cc nL own Ts R ce sl D ad cs A z) {k : Fin 4} {i q : Nat} {x : Int64} (d : decode cc pc = .ok (.lload_n k, 1)) (hi : (k : Nat) = i) (hq : lv[q]? = some (i, .long x)) (kk : J p l e R s m args below meth c ce sl Q nL D ad cs A (pc + 1) lv (.long x :: st) μ) : J p l e R s m args below meth c ce sl Q nL D ad cs A pc lv st μ := fun H locs ls hP hT hS hl => lv_lload_n X.1.1 X.1.2.1 d hi (lv_at hl q hq) (kk H locs ls hP hT hS hl)
theorem j_lload (X : JX p s m args c cc nL own Ts R ce sl D ad cs A z) {i q : Nat} {x : Int64} (d : decode cc pc = .ok (.lload i, 2)) (hq : lv[q]? = some (i, .long x)) (kk : J p l e R s m args below meth c ce sl Q nL D ad cs A (pc + 2) lv (.long x :: st) μ) : J p l e R s m args below meth c ce sl Q nL D ad cs A pc lv st μ := fun H locs ls hP hT hS hl => lv_lload X.1.1 X.1.2.1 d (lv_at hl q hq) (kk H locs ls hP hT hS hl)
theorem j_aload_n (X : JX p s m args c cc nL own Ts R ce sl D ad cs A z) {k : Fin 4} {i q : Nat} {x : Nat} (d : decode cc pc = .ok (.aload_n k, 1)) (hi : (k : Nat) = i) (hq : lv[q]? = some (i, .ref x)) (kk : J p l e R s m args below meth c ce sl Q nL D ad cs A (pc + 1) lv (.ref x :: st) μ) : J p l e R s m args below meth c ce sl Q nL D ad cs A pc lv st μ := fun H locs ls hP hT hS hl => lv_aload_n X.1.1 X.1.2.1 d hi (lv_at hl q hq) (kk H locs ls hP hT hS hl)
theorem j_aload (X : JX p s m args c cc nL own Ts R ce sl D ad cs A z) {i q : Nat} {x : Nat} (d : decode cc pc = .ok (.aload i, 2)) (hq : lv[q]? = some (i, .ref x)) (kk : J p l e R s m args below meth c ce sl Q nL D ad cs A (pc + 2) lv (.ref x :: st) μ) : J p l e R s m args below meth c ce sl Q nL D ad cs A pc lv st μ := fun H locs ls hP hT hS hl => lv_aload X.1.1 X.1.2.1 d (lv_at hl q hq) (kk H locs ls hP hT hS hl)
theorem j_istore_n (X : JX p s m args c cc nL own Ts R ce sl D ad cs A z) {k : Fin 4} {i : Nat} {x : Int32} (d : decode cc pc = .ok (.istore_n k, 1)) (hi : (k : Nat) = i) (hn : i < nL) (hlv : (i, Value.int x) :: lv.filter (fun q => !(q.1 == i) && !(q.1 + 1 == i && q.2.category == 2)) = lv') (kk : J p l e R s m args below meth c ce sl Q nL D ad cs A (pc + 1) lv' st μ) : J p l e R s m args below meth c ce sl Q nL D ad cs A pc lv (.int x :: st) μ := fun H locs ls hP hT hS hl => lv_istore_n X.1.1 X.1.2.1 d hi hl hn hlv (fun ls1 hl1 => kk H locs ls1 hP hT hS hl1)
theorem j_istore (X : JX p s m args c cc nL own Ts R ce sl D ad cs A z) {i : Nat} {x : Int32} (d : decode cc pc = .ok (.istore i, 2)) (hn : i < nL) (hlv : (i, Value.int x) :: lv.filter (fun q => !(q.1 == i) && !(q.1 + 1 == i && q.2.category == 2)) = lv') (kk : J p l e R s m args below meth c ce sl Q nL D ad cs A (pc + 2) lv' st μ) : J p l e R s m args below meth c ce sl Q nL D ad cs A pc lv (.int x :: st) μ := fun H locs ls hP hT hS hl => lv_istore X.1.1 X.1.2.1 d hl hn hlv (fun ls1 hl1 => kk H locs ls1 hP hT hS hl1)
theorem j_astore_n (X : JX p s m args c cc nL own Ts R ce sl D ad cs A z) {k : Fin 4} {i : Nat} {x : Nat} (d : decode cc pc = .ok (.astore_n k, 1)) (hi : (k : Nat) = i) (hn : i < nL) (hlv : (i, Value.ref x) :: lv.filter (fun q => !(q.1 == i) && !(q.1 + 1 == i && q.2.category == 2)) = lv') (kk : J p l e R s m args below meth c ce sl Q nL D ad cs A (pc + 1) lv' st μ) : J p l e R s m args below meth c ce sl Q nL D ad cs A pc lv (.ref x :: st) μ := fun H locs ls hP hT hS hl => lv_astore_n X.1.1 X.1.2.1 d hi hl hn hlv (fun ls1 hl1 => kk H locs ls1 hP hT hS hl1)
theorem j_astore (X : JX p s m args c cc nL own Ts R ce sl D ad cs A z) {i : Nat} {x : Nat} (d : decode cc pc = .ok (.astore i, 2)) (hn : i < nL) (hlv : (i, Value.ref x) :: lv.filter (fun q => !(q.1 == i) && !(q.1 + 1 == i && q.2.category == 2)) = lv') (kk : J p l e R s m args below meth c ce sl Q nL D ad cs A (pc + 2) lv' st μ) : J p l e R s m args below meth c ce sl Q nL D ad cs A pc lv (.ref x :: st) μ := fun H locs ls hP hT hS hl => lv_astore X.1.1 X.1.2.1 d hl hn hlv (fun ls1 hl1 => kk H locs ls1 hP hT hS hl1)
theorem j_lstore_n (X : JX p s m args c cc nL own Ts R ce sl D ad cs A z) {k : Fin 4} {i : Nat} {x : Int64} (d : decode cc pc = .ok (.lstore_n k, 1)) (hi : (k : Nat) = i) (hn : i + 1 < nL) (hlv : (i, Value.long x) :: lv.filter (fun q => !(q.1 == i) && (!(q.1 == i + 1) && !(q.1 + 1 == i && q.2.category == 2))) = lv') (kk : J p l e R s m args below meth c ce sl Q nL D ad cs A (pc + 1) lv' st μ) : J p l e R s m args below meth c ce sl Q nL D ad cs A pc lv (.long x :: st) μ := fun H locs ls hP hT hS hl => lv_lstore_n X.1.1 X.1.2.1 d hi hl hn hlv (fun ls1 hl1 => kk H locs ls1 hP hT hS hl1)
theorem j_iinc (X : JX p s m args c cc nL own Ts R ce sl D ad cs A z) {i q : Nat} {n : Int} {x v : Int32} (d : decode cc pc = .ok (.iinc i n, 3)) (hq : lv[q]? = some (i, .int x)) (hv : x + Int32.ofInt n = v) (hn : i < nL) (hlv : (i, Value.int v) :: lv.filter (fun q => !(q.1 == i) && !(q.1 + 1 == i && q.2.category == 2)) = lv') (kk : J p l e R s m args below meth c ce sl Q nL D ad cs A (pc + 3) lv' st μ) : J p l e R s m args below meth c ce sl Q nL D ad cs A pc lv st μ := fun H locs ls hP hT hS hl => lv_iinc X.1.1 X.1.2.1 d hl hq hv hn hlv (fun ls1 hl1 => kk H locs ls1 hP hT hS hl1)
theorem j_iadd (X : JX p s m args c cc nL own Ts R ce sl D ad cs A z) {x y v : Int32} (d : decode cc pc = .ok (.iadd, 1)) (hv : x + y = v) (kk : J p l e R s m args below meth c ce sl Q nL D ad cs A (pc + 1) lv (.int v :: st) μ) : J p l e R s m args below meth c ce sl Q nL D ad cs A pc lv (.int y :: .int x :: st) μ := fun H locs ls hP hT hS hl => by subst hv; exact lv_iadd X.1.1 X.1.2.1 d (kk H locs ls hP hT hS hl)
theorem j_isub (X : JX p s m args c cc nL own Ts R ce sl D ad cs A z) {x y v : Int32} (d : decode cc pc = .ok (.isub, 1)) (hv : x - y = v) (kk : J p l e R s m args below meth c ce sl Q nL D ad cs A (pc + 1) lv (.int v :: st) μ) : J p l e R s m args below meth c ce sl Q nL D ad cs A pc lv (.int y :: .int x :: st) μ := fun H locs ls hP hT hS hl => by subst hv; exact lv_isub X.1.1 X.1.2.1 d (kk H locs ls hP hT hS hl)
theorem j_imul (X : JX p s m args c cc nL own Ts R ce sl D ad cs A z) {x y v : Int32} (d : decode cc pc = .ok (.imul, 1)) (hv : x * y = v) (kk : J p l e R s m args below meth c ce sl Q nL D ad cs A (pc + 1) lv (.int v :: st) μ) : J p l e R s m args below meth c ce sl Q nL D ad cs A pc lv (.int y :: .int x :: st) μ := fun H locs ls hP hT hS hl => by subst hv; exact lv_imul X.1.1 X.1.2.1 d (kk H locs ls hP hT hS hl)
theorem j_iand (X : JX p s m args c cc nL own Ts R ce sl D ad cs A z) {x y v : Int32} (d : decode cc pc = .ok (.iand, 1)) (hv : x &&& y = v) (kk : J p l e R s m args below meth c ce sl Q nL D ad cs A (pc + 1) lv (.int v :: st) μ) : J p l e R s m args below meth c ce sl Q nL D ad cs A pc lv (.int y :: .int x :: st) μ := fun H locs ls hP hT hS hl => by subst hv; exact lv_iand X.1.1 X.1.2.1 d (kk H locs ls hP hT hS hl)
theorem j_ior (X : JX p s m args c cc nL own Ts R ce sl D ad cs A z) {x y v : Int32} (d : decode cc pc = .ok (.ior, 1)) (hv : x ||| y = v) (kk : J p l e R s m args below meth c ce sl Q nL D ad cs A (pc + 1) lv (.int v :: st) μ) : J p l e R s m args below meth c ce sl Q nL D ad cs A pc lv (.int y :: .int x :: st) μ := fun H locs ls hP hT hS hl => by subst hv; exact lv_ior X.1.1 X.1.2.1 d (kk H locs ls hP hT hS hl)
theorem j_ishl (X : JX p s m args c cc nL own Ts R ce sl D ad cs A z) {x y v : Int32} (d : decode cc pc = .ok (.ishl, 1)) (hv : x <<< (y &&& 31) = v) (kk : J p l e R s m args below meth c ce sl Q nL D ad cs A (pc + 1) lv (.int v :: st) μ) : J p l e R s m args below meth c ce sl Q nL D ad cs A pc lv (.int y :: .int x :: st) μ := fun H locs ls hP hT hS hl => by subst hv; exact lv_ishl X.1.1 X.1.2.1 d (kk H locs ls hP hT hS hl)
theorem j_ishr (X : JX p s m args c cc nL own Ts R ce sl D ad cs A z) {x y v : Int32} (d : decode cc pc = .ok (.ishr, 1)) (hv : x >>> (y &&& 31) = v) (kk : J p l e R s m args below meth c ce sl Q nL D ad cs A (pc + 1) lv (.int v :: st) μ) : J p l e R s m args below meth c ce sl Q nL D ad cs A pc lv (.int y :: .int x :: st) μ := fun H locs ls hP hT hS hl => by subst hv; exact lv_ishr X.1.1 X.1.2.1 d (kk H locs ls hP hT hS hl)
theorem j_lsub (X : JX p s m args c cc nL own Ts R ce sl D ad cs A z) {x y v : Int64} (d : decode cc pc = .ok (.lsub, 1)) (hv : x - y = v) (kk : J p l e R s m args below meth c ce sl Q nL D ad cs A (pc + 1) lv (.long v :: st) μ) : J p l e R s m args below meth c ce sl Q nL D ad cs A pc lv (.long y :: .long x :: st) μ := fun H locs ls hP hT hS hl => by subst hv; exact lv_lsub X.1.1 X.1.2.1 d (kk H locs ls hP hT hS hl)
theorem j_land (X : JX p s m args c cc nL own Ts R ce sl D ad cs A z) {x y v : Int64} (d : decode cc pc = .ok (.land, 1)) (hv : x &&& y = v) (kk : J p l e R s m args below meth c ce sl Q nL D ad cs A (pc + 1) lv (.long v :: st) μ) : J p l e R s m args below meth c ce sl Q nL D ad cs A pc lv (.long y :: .long x :: st) μ := fun H locs ls hP hT hS hl => by subst hv; exact lv_land X.1.1 X.1.2.1 d (kk H locs ls hP hT hS hl)
theorem j_lor (X : JX p s m args c cc nL own Ts R ce sl D ad cs A z) {x y v : Int64} (d : decode cc pc = .ok (.lor, 1)) (hv : x ||| y = v) (kk : J p l e R s m args below meth c ce sl Q nL D ad cs A (pc + 1) lv (.long v :: st) μ) : J p l e R s m args below meth c ce sl Q nL D ad cs A pc lv (.long y :: .long x :: st) μ := fun H locs ls hP hT hS hl => by subst hv; exact lv_lor X.1.1 X.1.2.1 d (kk H locs ls hP hT hS hl)
theorem j_i2l (X : JX p s m args c cc nL own Ts R ce sl D ad cs A z) {x : Int32} {v : Int64} (d : decode cc pc = .ok (.i2l, 1)) (hv : x.toInt64 = v) (kk : J p l e R s m args below meth c ce sl Q nL D ad cs A (pc + 1) lv (.long v :: st) μ) : J p l e R s m args below meth c ce sl Q nL D ad cs A pc lv (.int x :: st) μ := fun H locs ls hP hT hS hl => lv_i2l X.1.1 X.1.2.1 d hv (kk H locs ls hP hT hS hl)
theorem j_l2i (X : JX p s m args c cc nL own Ts R ce sl D ad cs A z) {x : Int64} {v : Int32} (d : decode cc pc = .ok (.l2i, 1)) (hv : x.toInt32 = v) (kk : J p l e R s m args below meth c ce sl Q nL D ad cs A (pc + 1) lv (.int v :: st) μ) : J p l e R s m args below meth c ce sl Q nL D ad cs A pc lv (.long x :: st) μ := fun H locs ls hP hT hS hl => lv_l2i X.1.1 X.1.2.1 d hv (kk H locs ls hP hT hS hl)
theorem j_i2c (X : JX p s m args c cc nL own Ts R ce sl D ad cs A z) {x v : Int32} (d : decode cc pc = .ok (.i2c, 1)) (hv : (x.toUInt32 % 65536).toInt32 = v) (kk : J p l e R s m args below meth c ce sl Q nL D ad cs A (pc + 1) lv (.int v :: st) μ) : J p l e R s m args below meth c ce sl Q nL D ad cs A pc lv (.int x :: st) μ := fun H locs ls hP hT hS hl => lv_i2c X.1.1 X.1.2.1 d hv (kk H locs ls hP hT hS hl)
theorem j_lushr (X : JX p s m args c cc nL own Ts R ce sl D ad cs A z) {x v : Int64} {y : Int32} (d : decode cc pc = .ok (.lushr, 1)) (hv : (x.toUInt64 >>> (y.toInt64.toUInt64 &&& Int64.toUInt64 63)).toInt64 = v) (kk : J p l e R s m args below meth c ce sl Q nL D ad cs A (pc + 1) lv (.long v :: st) μ) : J p l e R s m args below meth c ce sl Q nL D ad cs A pc lv (.int y :: .long x :: st) μ := fun H locs ls hP hT hS hl => lv_lushr X.1.1 X.1.2.1 d hv (kk H locs ls hP hT hS hl)
theorem j_lshl (X : JX p s m args c cc nL own Ts R ce sl D ad cs A z) {x v : Int64} {y : Int32} (d : decode cc pc = .ok (.lshl, 1)) (hv : x <<< (y.toInt64 &&& 63) = v) (kk : J p l e R s m args below meth c ce sl Q nL D ad cs A (pc + 1) lv (.long v :: st) μ) : J p l e R s m args below meth c ce sl Q nL D ad cs A pc lv (.int y :: .long x :: st) μ := fun H locs ls hP hT hS hl => lv_lshl X.1.1 X.1.2.1 d hv (kk H locs ls hP hT hS hl)
theorem j_lcmp (X : JX p s m args c cc nL own Ts R ce sl D ad cs A z) {x y : Int64} (d : decode cc pc = .ok (.lcmp, 1)) (kk : J p l e R s m args below meth c ce sl Q nL D ad cs A (pc + 1) lv (.int (lg_cmp x y) :: st) μ) : J p l e R s m args below meth c ce sl Q nL D ad cs A pc lv (.long y :: .long x :: st) μ := fun H locs ls hP hT hS hl => W.lcmp X.1.1 X.1.2.1 d (kk H locs ls hP hT hS hl)
theorem j_dup (X : JX p s m args c cc nL own Ts R ce sl D ad cs A z) {v : Value} (d : decode cc pc = .ok (.dup, 1)) (hc : v.category = 1) (kk : J p l e R s m args below meth c ce sl Q nL D ad cs A (pc + 1) lv (v :: v :: st) μ) : J p l e R s m args below meth c ce sl Q nL D ad cs A pc lv (v :: st) μ := fun H locs ls hP hT hS hl => lv_dup X.1.1 X.1.2.1 d hc (kk H locs ls hP hT hS hl)
theorem j_dup2 (X : JX p s m args c cc nL own Ts R ce sl D ad cs A z) {v1 v2 : Value} (d : decode cc pc = .ok (.dup2, 1)) (h1 : v1.category = 1) (h2 : v2.category = 1) (kk : J p l e R s m args below meth c ce sl Q nL D ad cs A (pc + 1) lv (v1 :: v2 :: v1 :: v2 :: st) μ) : J p l e R s m args below meth c ce sl Q nL D ad cs A pc lv (v1 :: v2 :: st) μ := fun H locs ls hP hT hS hl => lv_dup2_11 X.1.1 X.1.2.1 d h1 h2 (kk H locs ls hP hT hS hl)
theorem j_pop (X : JX p s m args c cc nL own Ts R ce sl D ad cs A z) {v : Value} (d : decode cc pc = .ok (.pop, 1)) (hc : v.category = 1) (kk : J p l e R s m args below meth c ce sl Q nL D ad cs A (pc + 1) lv st μ) : J p l e R s m args below meth c ce sl Q nL D ad cs A pc lv (v :: st) μ := fun H locs ls hP hT hS hl => lv_pop X.1.1 X.1.2.1 d hc (kk H locs ls hP hT hS hl)
theorem j_goto (X : JX p s m args c cc nL own Ts R ce sl D ad cs A z) {off : Int} {tgt : Nat} (d : decode cc pc = .ok (.goto off, 3)) (ht : (pc : Int) + off = (tgt : Int)) (kk : J p l e R s m args below meth c ce sl Q nL D ad cs A tgt lv st μ) : J p l e R s m args below meth c ce sl Q nL D ad cs A pc lv st μ := fun H locs ls hP hT hS hl => lv_goto X.1.1 X.1.2.1 d ht (kk H locs ls hP hT hS hl)
theorem j_if_eq (X : JX p s m args c cc nL own Ts R ce sl D ad cs A z) {x : Int32} {off : Int} {tgt : Nat} (d : decode cc pc = .ok (.ifCond .eq off, 3)) (ht : (pc : Int) + off = (tgt : Int)) (kt : x = 0 → J p l e R s m args below meth c ce sl Q nL D ad cs A tgt lv st μ) (kf : ¬ (x = 0) → J p l e R s m args below meth c ce sl Q nL D ad cs A (pc + 3) lv st μ) : J p l e R s m args below meth c ce sl Q nL D ad cs A pc lv (.int x :: st) μ := fun H locs ls hP hT hS hl => lv_if_eq X.1.1 X.1.2.1 d ht (fun q => kt q H locs ls hP hT hS hl) (fun q => kf q H locs ls hP hT hS hl)
theorem j_if_ne (X : JX p s m args c cc nL own Ts R ce sl D ad cs A z) {x : Int32} {off : Int} {tgt : Nat} (d : decode cc pc = .ok (.ifCond .ne off, 3)) (ht : (pc : Int) + off = (tgt : Int)) (kt : x ≠ 0 → J p l e R s m args below meth c ce sl Q nL D ad cs A tgt lv st μ) (kf : ¬ (x ≠ 0) → J p l e R s m args below meth c ce sl Q nL D ad cs A (pc + 3) lv st μ) : J p l e R s m args below meth c ce sl Q nL D ad cs A pc lv (.int x :: st) μ := fun H locs ls hP hT hS hl => lv_if_ne X.1.1 X.1.2.1 d ht (fun q => kt q H locs ls hP hT hS hl) (fun q => kf (fun w => w q) H locs ls hP hT hS hl)
theorem j_if_lt (X : JX p s m args c cc nL own Ts R ce sl D ad cs A z) {x : Int32} {off : Int} {tgt : Nat} (d : decode cc pc = .ok (.ifCond .lt off, 3)) (ht : (pc : Int) + off = (tgt : Int)) (kt : x < 0 → J p l e R s m args below meth c ce sl Q nL D ad cs A tgt lv st μ) (kf : ¬ (x < 0) → J p l e R s m args below meth c ce sl Q nL D ad cs A (pc + 3) lv st μ) : J p l e R s m args below meth c ce sl Q nL D ad cs A pc lv (.int x :: st) μ := fun H locs ls hP hT hS hl => lv_if_lt X.1.1 X.1.2.1 d ht (fun q => kt q H locs ls hP hT hS hl) (fun q => kf q H locs ls hP hT hS hl)
theorem j_if_ge (X : JX p s m args c cc nL own Ts R ce sl D ad cs A z) {x : Int32} {off : Int} {tgt : Nat} (d : decode cc pc = .ok (.ifCond .ge off, 3)) (ht : (pc : Int) + off = (tgt : Int)) (kt : 0 ≤ x → J p l e R s m args below meth c ce sl Q nL D ad cs A tgt lv st μ) (kf : ¬ (0 ≤ x) → J p l e R s m args below meth c ce sl Q nL D ad cs A (pc + 3) lv st μ) : J p l e R s m args below meth c ce sl Q nL D ad cs A pc lv (.int x :: st) μ := fun H locs ls hP hT hS hl => lv_if_ge X.1.1 X.1.2.1 d ht (fun q => kt q H locs ls hP hT hS hl) (fun q => kf q H locs ls hP hT hS hl)
theorem j_if_gt (X : JX p s m args c cc nL own Ts R ce sl D ad cs A z) {x : Int32} {off : Int} {tgt : Nat} (d : decode cc pc = .ok (.ifCond .gt off, 3)) (ht : (pc : Int) + off = (tgt : Int)) (kt : 0 < x → J p l e R s m args below meth c ce sl Q nL D ad cs A tgt lv st μ) (kf : ¬ (0 < x) → J p l e R s m args below meth c ce sl Q nL D ad cs A (pc + 3) lv st μ) : J p l e R s m args below meth c ce sl Q nL D ad cs A pc lv (.int x :: st) μ := fun H locs ls hP hT hS hl => lv_if_gt X.1.1 X.1.2.1 d ht (fun q => kt q H locs ls hP hT hS hl) (fun q => kf q H locs ls hP hT hS hl)
theorem j_if_le (X : JX p s m args c cc nL own Ts R ce sl D ad cs A z) {x : Int32} {off : Int} {tgt : Nat} (d : decode cc pc = .ok (.ifCond .le off, 3)) (ht : (pc : Int) + off = (tgt : Int)) (kt : x ≤ 0 → J p l e R s m args below meth c ce sl Q nL D ad cs A tgt lv st μ) (kf : ¬ (x ≤ 0) → J p l e R s m args below meth c ce sl Q nL D ad cs A (pc + 3) lv st μ) : J p l e R s m args below meth c ce sl Q nL D ad cs A pc lv (.int x :: st) μ := fun H locs ls hP hT hS hl => lv_if_le X.1.1 X.1.2.1 d ht (fun q => kt q H locs ls hP hT hS hl) (fun q => kf q H locs ls hP hT hS hl)
theorem j_icmp_eq (X : JX p s m args c cc nL own Ts R ce sl D ad cs A z) {x y : Int32} {off : Int} {tgt : Nat} (d : decode cc pc = .ok (.if_icmp .eq off, 3)) (ht : (pc : Int) + off = (tgt : Int)) (kt : x = y → J p l e R s m args below meth c ce sl Q nL D ad cs A tgt lv st μ) (kf : ¬ (x = y) → J p l e R s m args below meth c ce sl Q nL D ad cs A (pc + 3) lv st μ) : J p l e R s m args below meth c ce sl Q nL D ad cs A pc lv (.int y :: .int x :: st) μ := fun H locs ls hP hT hS hl => lv_icmp_eq X.1.1 X.1.2.1 d ht (fun q => kt q H locs ls hP hT hS hl) (fun q => kf q H locs ls hP hT hS hl)
theorem j_icmp_ne (X : JX p s m args c cc nL own Ts R ce sl D ad cs A z) {x y : Int32} {off : Int} {tgt : Nat} (d : decode cc pc = .ok (.if_icmp .ne off, 3)) (ht : (pc : Int) + off = (tgt : Int)) (kt : x ≠ y → J p l e R s m args below meth c ce sl Q nL D ad cs A tgt lv st μ) (kf : ¬ (x ≠ y) → J p l e R s m args below meth c ce sl Q nL D ad cs A (pc + 3) lv st μ) : J p l e R s m args below meth c ce sl Q nL D ad cs A pc lv (.int y :: .int x :: st) μ := fun H locs ls hP hT hS hl => lv_icmp_ne X.1.1 X.1.2.1 d ht (fun q => kt q H locs ls hP hT hS hl) (fun q => kf (fun w => w q) H locs ls hP hT hS hl)
theorem j_icmp_lt (X : JX p s m args c cc nL own Ts R ce sl D ad cs A z) {x y : Int32} {off : Int} {tgt : Nat} (d : decode cc pc = .ok (.if_icmp .lt off, 3)) (ht : (pc : Int) + off = (tgt : Int)) (kt : x < y → J p l e R s m args below meth c ce sl Q nL D ad cs A tgt lv st μ) (kf : ¬ (x < y) → J p l e R s m args below meth c ce sl Q nL D ad cs A (pc + 3) lv st μ) : J p l e R s m args below meth c ce sl Q nL D ad cs A pc lv (.int y :: .int x :: st) μ := fun H locs ls hP hT hS hl => lv_icmp_lt X.1.1 X.1.2.1 d ht (fun q => kt q H locs ls hP hT hS hl) (fun q => kf q H locs ls hP hT hS hl)
theorem j_icmp_ge (X : JX p s m args c cc nL own Ts R ce sl D ad cs A z) {x y : Int32} {off : Int} {tgt : Nat} (d : decode cc pc = .ok (.if_icmp .ge off, 3)) (ht : (pc : Int) + off = (tgt : Int)) (kt : y ≤ x → J p l e R s m args below meth c ce sl Q nL D ad cs A tgt lv st μ) (kf : ¬ (y ≤ x) → J p l e R s m args below meth c ce sl Q nL D ad cs A (pc + 3) lv st μ) : J p l e R s m args below meth c ce sl Q nL D ad cs A pc lv (.int y :: .int x :: st) μ := fun H locs ls hP hT hS hl => lv_icmp_ge X.1.1 X.1.2.1 d ht (fun q => kt q H locs ls hP hT hS hl) (fun q => kf q H locs ls hP hT hS hl)
theorem j_icmp_gt (X : JX p s m args c cc nL own Ts R ce sl D ad cs A z) {x y : Int32} {off : Int} {tgt : Nat} (d : decode cc pc = .ok (.if_icmp .gt off, 3)) (ht : (pc : Int) + off = (tgt : Int)) (kt : y < x → J p l e R s m args below meth c ce sl Q nL D ad cs A tgt lv st μ) (kf : ¬ (y < x) → J p l e R s m args below meth c ce sl Q nL D ad cs A (pc + 3) lv st μ) : J p l e R s m args below meth c ce sl Q nL D ad cs A pc lv (.int y :: .int x :: st) μ := fun H locs ls hP hT hS hl => lv_icmp_gt X.1.1 X.1.2.1 d ht (fun q => kt q H locs ls hP hT hS hl) (fun q => kf q H locs ls hP hT hS hl)
theorem j_icmp_le (X : JX p s m args c cc nL own Ts R ce sl D ad cs A z) {x y : Int32} {off : Int} {tgt : Nat} (d : decode cc pc = .ok (.if_icmp .le off, 3)) (ht : (pc : Int) + off = (tgt : Int)) (kt : x ≤ y → J p l e R s m args below meth c ce sl Q nL D ad cs A tgt lv st μ) (kf : ¬ (x ≤ y) → J p l e R s m args below meth c ce sl Q nL D ad cs A (pc + 3) lv st μ) : J p l e R s m args below meth c ce sl Q nL D ad cs A pc lv (.int y :: .int x :: st) μ := fun H locs ls hP hT hS hl => lv_icmp_le X.1.1 X.1.2.1 d ht (fun q => kt q H locs ls hP hT hS hl) (fun q => kf q H locs ls hP hT hS hl)
theorem j_ncmp_eq (X : JX p s m args c cc nL own Ts R ce sl D ad cs A z) {x y : Int32} {off : Int} {tgt : Nat} (a b : Nat) (d : decode cc pc = .ok (.if_icmp .eq off, 3)) (ht : (pc : Int) + off = (tgt : Int)) (hx : x = nI a) (hy : y = nI b) (ha : a < 2 ^ 31) (hb : b < 2 ^ 31) (kt : a = b → J p l e R s m args below meth c ce sl Q nL D ad cs A tgt lv st μ) (kf : ¬ (a = b) → J p l e R s m args below meth c ce sl Q nL D ad cs A (pc + 3) lv st μ) : J p l e R s m args below meth c ce sl Q nL D ad cs A pc lv (.int y :: .int x :: st) μ := by
  subst hx; subst hy
  exact j_icmp_eq X d ht (fun q => kt ((nI_eq ha hb).mp q)) (fun q => kf (fun r => q ((nI_eq ha hb).mpr r)))
theorem j_ncmp_lt (X : JX p s m args c cc nL own Ts R ce sl D ad cs A z) {x y : Int32} {off : Int} {tgt : Nat} (a b : Nat) (d : decode cc pc = .ok (.if_icmp .lt off, 3)) (ht : (pc : Int) + off = (tgt : Int)) (hx : x = nI a) (hy : y = nI b) (ha : a < 2 ^ 31) (hb : b < 2 ^ 31) (kt : a < b → J p l e R s m args below meth c ce sl Q nL D ad cs A tgt lv st μ) (kf : ¬ (a < b) → J p l e R s m args below meth c ce sl Q nL D ad cs A (pc + 3) lv st μ) : J p l e R s m args below meth c ce sl Q nL D ad cs A pc lv (.int y :: .int x :: st) μ := by
  subst hx; subst hy
  exact j_icmp_lt X d ht (fun q => kt ((nI_ltI ha hb).mp q)) (fun q => kf (fun r => q ((nI_ltI ha hb).mpr r)))
theorem j_ncmp_ge (X : JX p s m args c cc nL own Ts R ce sl D ad cs A z) {x y : Int32} {off : Int} {tgt : Nat} (a b : Nat) (d : decode cc pc = .ok (.if_icmp .ge off, 3)) (ht : (pc : Int) + off = (tgt : Int)) (hx : x = nI a) (hy : y = nI b) (ha : a < 2 ^ 31) (hb : b < 2 ^ 31) (kt : b ≤ a → J p l e R s m args below meth c ce sl Q nL D ad cs A tgt lv st μ) (kf : ¬ (b ≤ a) → J p l e R s m args below meth c ce sl Q nL D ad cs A (pc + 3) lv st μ) : J p l e R s m args below meth c ce sl Q nL D ad cs A pc lv (.int y :: .int x :: st) μ := by
  subst hx; subst hy
  exact j_icmp_ge X d ht (fun q => kt ((nI_leI hb ha).mp q)) (fun q => kf (fun r => q ((nI_leI hb ha).mpr r)))
theorem j_ncmp_gt (X : JX p s m args c cc nL own Ts R ce sl D ad cs A z) {x y : Int32} {off : Int} {tgt : Nat} (a b : Nat) (d : decode cc pc = .ok (.if_icmp .gt off, 3)) (ht : (pc : Int) + off = (tgt : Int)) (hx : x = nI a) (hy : y = nI b) (ha : a < 2 ^ 31) (hb : b < 2 ^ 31) (kt : b < a → J p l e R s m args below meth c ce sl Q nL D ad cs A tgt lv st μ) (kf : ¬ (b < a) → J p l e R s m args below meth c ce sl Q nL D ad cs A (pc + 3) lv st μ) : J p l e R s m args below meth c ce sl Q nL D ad cs A pc lv (.int y :: .int x :: st) μ := by
  subst hx; subst hy
  exact j_icmp_gt X d ht (fun q => kt ((nI_ltI hb ha).mp q)) (fun q => kf (fun r => q ((nI_ltI hb ha).mpr r)))
theorem j_ncmp_le (X : JX p s m args c cc nL own Ts R ce sl D ad cs A z) {x y : Int32} {off : Int} {tgt : Nat} (a b : Nat) (d : decode cc pc = .ok (.if_icmp .le off, 3)) (ht : (pc : Int) + off = (tgt : Int)) (hx : x = nI a) (hy : y = nI b) (ha : a < 2 ^ 31) (hb : b < 2 ^ 31) (kt : a ≤ b → J p l e R s m args below meth c ce sl Q nL D ad cs A tgt lv st μ) (kf : ¬ (a ≤ b) → J p l e R s m args below meth c ce sl Q nL D ad cs A (pc + 3) lv st μ) : J p l e R s m args below meth c ce sl Q nL D ad cs A pc lv (.int y :: .int x :: st) μ := by
  subst hx; subst hy
  exact j_icmp_le X d ht (fun q => kt ((nI_leI ha hb).mp q)) (fun q => kf (fun r => q ((nI_leI ha hb).mpr r)))
theorem j_ncmp_ne (X : JX p s m args c cc nL own Ts R ce sl D ad cs A z) {x y : Int32} {off : Int} {tgt : Nat} (a b : Nat) (d : decode cc pc = .ok (.if_icmp .ne off, 3)) (ht : (pc : Int) + off = (tgt : Int)) (hx : x = nI a) (hy : y = nI b) (ha : a < 2 ^ 31) (hb : b < 2 ^ 31) (kt : a ≠ b → J p l e R s m args below meth c ce sl Q nL D ad cs A tgt lv st μ) (kf : ¬ (a ≠ b) → J p l e R s m args below meth c ce sl Q nL D ad cs A (pc + 3) lv st μ) : J p l e R s m args below meth c ce sl Q nL D ad cs A pc lv (.int y :: .int x :: st) μ := by
  subst hx; subst hy
  exact j_icmp_ne X d ht (fun q => kt (fun r => q (by rw [r]))) (fun q => kf (fun r => q (fun z => r ((nI_eq ha hb).mp z))))
theorem j_ifnull (X : JX p s m args c cc nL own Ts R ce sl D ad cs A z) {x : Nat} {off : Int} (d : decode cc pc = .ok (.ifnull off, 3)) (kk : J p l e R s m args below meth c ce sl Q nL D ad cs A (pc + 3) lv st μ) : J p l e R s m args below meth c ce sl Q nL D ad cs A pc lv (.ref x :: st) μ := fun H locs ls hP hT hS hl => lv_ifnull X.1.1 X.1.2.1 d (kk H locs ls hP hT hS hl)
theorem j_ifnonnull (X : JX p s m args c cc nL own Ts R ce sl D ad cs A z) {x : Nat} {off : Int} {tgt : Nat} (d : decode cc pc = .ok (.ifnonnull off, 3)) (ht : (pc : Int) + off = (tgt : Int)) (kk : J p l e R s m args below meth c ce sl Q nL D ad cs A tgt lv st μ) : J p l e R s m args below meth c ce sl Q nL D ad cs A pc lv (.ref x :: st) μ := fun H locs ls hP hT hS hl => lv_ifnonnull X.1.1 X.1.2.1 d ht (kk H locs ls hP hT hS hl)
theorem j_tabIn (X : JX p s m args c cc nL own Ts R ce sl D ad cs A z) {dflt lo hi : Int} {offs : Array Int} {len : Nat} {x : Int32} {off : Int} {tgt : Nat} (d : decode cc pc = .ok (.tableswitch dflt lo hi offs, len)) (h1 : ¬ x.toInt < lo) (h2 : ¬ hi < x.toInt) (ho : offs[(x.toInt - lo).toNat]? = some off) (ht : (pc : Int) + off = (tgt : Int)) (kk : J p l e R s m args below meth c ce sl Q nL D ad cs A tgt lv st μ) : J p l e R s m args below meth c ce sl Q nL D ad cs A pc lv (.int x :: st) μ := fun H locs ls hP hT hS hl => lv_tableIn X.1.1 X.1.2.1 d h1 h2 ho ht (kk H locs ls hP hT hS hl)
theorem j_tabOut (X : JX p s m args c cc nL own Ts R ce sl D ad cs A z) {dflt lo hi : Int} {offs : Array Int} {len : Nat} {x : Int32} {tgt : Nat} (d : decode cc pc = .ok (.tableswitch dflt lo hi offs, len)) (h : x.toInt < lo ∨ hi < x.toInt) (ht : (pc : Int) + dflt = (tgt : Int)) (kk : J p l e R s m args below meth c ce sl Q nL D ad cs A tgt lv st μ) : J p l e R s m args below meth c ce sl Q nL D ad cs A pc lv (.int x :: st) μ := fun H locs ls hP hT hS hl => lv_tableOut X.1.1 X.1.2.1 d h ht (kk H locs ls hP hT hS hl)
theorem j_lookup (X : JX p s m args c cc nL own Ts R ce sl D ad cs A z) {dflt : Int} {ps : Array (Int × Int)} {len : Nat} {x : Int32} {off : Int} {tgt : Nat} (d : decode cc pc = .ok (.lookupswitch dflt ps, len)) (hp : (ps.toList.zip (ps.toList.drop 1)).all (fun (a, next) => a.1 < next.1) = true) (ho : Op.lookupswitch.offset ps.toList dflt x.toInt = off) (ht : (pc : Int) + off = (tgt : Int)) (kk : J p l e R s m args below meth c ce sl Q nL D ad cs A tgt lv st μ) : J p l e R s m args below meth c ce sl Q nL D ad cs A pc lv (.int x :: st) μ := fun H locs ls hP hT hS hl => lv_lookup X.1.1 X.1.2.1 d hp ho ht (kk H locs ls hP hT hS hl)
def Arr (ad : Nat → Nat → Nat) (cs : Nat → ClassId) (b k t n : Nat) : Prop := (b, k) ∈ idx ∧ ∀ f, EE ad cs b k f = .inl (cs t, n, .inl f)
def Obj (ad : Nat → Nat → Nat) (cs : Nat → ClassId) (b ci : Nat) (fs : (Nat → Int32) → List Value) : Prop := (b, 0) ∈ idx ∧ ∀ f, EE ad cs b 0 f = .inr (ci, fs f)
def Rfs (ad : Nat → Nat → Nat) (cs : Nat → ClassId) (b k n : Nat) : Prop := (b, k) ∈ idx ∧ ∀ f, EE ad cs b k f = .inl (cs 3, n, .inr (.inr (.inr (.inr (qC ad f)))))
theorem aC_1 {b : Nat} (hb : b < 10) : Arr ad cs b 1 0 4 := ⟨idx_C hb (by decide), fun f => by rw [EE, if_pos hb]; rfl⟩
theorem aC_4 {b : Nat} (hb : b < 10) : Arr ad cs b 4 1 180 := ⟨idx_C hb (by decide), fun f => by rw [EE, if_pos hb]; rfl⟩
theorem aC_5 {b : Nat} (hb : b < 10) : Arr ad cs b 5 0 20 := ⟨idx_C hb (by decide), fun f => by rw [EE, if_pos hb]; rfl⟩
theorem aC_6 {b : Nat} (hb : b < 10) : Arr ad cs b 6 0 20 := ⟨idx_C hb (by decide), fun f => by rw [EE, if_pos hb]; rfl⟩
theorem aC_7 {b : Nat} (hb : b < 10) : Arr ad cs b 7 0 20 := ⟨idx_C hb (by decide), fun f => by rw [EE, if_pos hb]; rfl⟩
theorem aC_8 {b : Nat} (hb : b < 10) : Arr ad cs b 8 2 20 := ⟨idx_C hb (by decide), fun f => by rw [EE, if_pos hb]; rfl⟩
theorem aC_9 {b : Nat} (hb : b < 10) : Arr ad cs b 9 0 20 := ⟨idx_C hb (by decide), fun f => by rw [EE, if_pos hb]; rfl⟩
theorem aC_10 {b : Nat} (hb : b < 10) : Arr ad cs b 10 0 12 := ⟨idx_C hb (by decide), fun f => by rw [EE, if_pos hb]; rfl⟩
theorem aC_11 {b : Nat} (hb : b < 10) : Arr ad cs b 11 0 12 := ⟨idx_C hb (by decide), fun f => by rw [EE, if_pos hb]; rfl⟩
theorem aC_12 {b : Nat} (hb : b < 10) : Arr ad cs b 12 0 12 := ⟨idx_C hb (by decide), fun f => by rw [EE, if_pos hb]; rfl⟩
theorem aC_13 {b : Nat} (hb : b < 10) : Arr ad cs b 13 0 12 := ⟨idx_C hb (by decide), fun f => by rw [EE, if_pos hb]; rfl⟩
theorem aC_14 {b : Nat} (hb : b < 10) : Arr ad cs b 14 0 12 := ⟨idx_C hb (by decide), fun f => by rw [EE, if_pos hb]; rfl⟩
theorem aC_16 {b : Nat} (hb : b < 10) : Arr ad cs b 16 0 12 := ⟨idx_C hb (by decide), fun f => by rw [EE, if_pos hb]; rfl⟩
theorem aM_6 : Arr ad cs 10 6 2 2 := ⟨by decide +kernel, fun f => rfl⟩
theorem aM_7 : Arr ad cs 10 7 1 60 := ⟨by decide +kernel, fun f => rfl⟩
theorem qM_3 : Rfs ad cs 10 3 6 := ⟨by decide +kernel, fun f => rfl⟩
theorem qM_5 : Rfs ad cs 10 5 2 := ⟨by decide +kernel, fun f => rfl⟩
theorem oC {b : Nat} (hb : b < 10) : Obj ad cs b 0 (cC ad b) := ⟨idx_C hb (by decide), fun f => by rw [EE, if_pos hb]; rfl⟩
theorem oM : Obj ad cs 10 1 (cM ad) := ⟨by decide +kernel, fun f => rfl⟩
theorem j_getC (X : JX p s m args c cc nL own Ts R ce sl D ad cs A z) {b index : Nat} {fs : (Nat → Int32) → List Value} (ho : Obj ad cs b 0 fs) (hin : ∀ w ∈ u_ws RX0 TX0 16, w ∈ Ts) (k : Nat) (hk : k < 16) {v : Value} (hv : (fs (μ b 0))[k]? = some v) (hlink : (Cond.fieldLink own index (TX0 k).1 (TX0 k).2.1 (TX0 k).2.2.1).before args s = true) (d : decode cc pc = .ok (.getfield index, 3)) (kk : J p l e R s m args below meth c ce sl Q nL D ad cs A (pc + 3) lv (v :: st) μ) : J p l e R s m args below meth c ce sl Q nL D ad cs A pc lv (.ref (ad b 0) :: st) μ := fun H locs ls hP hT hS hl => by
  obtain ⟨q0, h0, h1⟩ := wl_get (ad := ad) (cs := cs) μ ho.1
  rw [ho.2] at h1
  exact va_get X.1.1 X.1.2.1 X.1.2.2.2.2 hin X.1.2.2.2.1 X.2.2.1 hP q0 h1 (C := RX0) (T := TX0) (N := 16) rfl k hk hlink (fun _ h => h) hv d (kk H locs ls hP hT hS hl)
theorem j_putC (X : JX p s m args c cc nL own Ts R ce sl D ad cs A z) {b index : Nat} {fs : (Nat → Int32) → List Value} (ho : Obj ad cs b 0 fs) (hin : ∀ w ∈ u_ws RX0 TX0 16, w ∈ Ts) (k : Nat) (hk : k < 16) {ty : FieldType} {x : Int32} (hset : ∀ f, fs (upd f k x) = (fs f).set k (.int x)) (hfin : (TX0 k).2.2.2 = false) (hd : parseFieldDescriptor (TX0 k).2.2.1 = some ty) (hn : narrow ty (.int x) = .int x) (hfit : fits ty (.int x) = true) (hlk : k < (fs (μ b 0)).length) (hlink : (Cond.fieldLink own index (TX0 k).1 (TX0 k).2.1 (TX0 k).2.2.1).before args s = true) (d : decode cc pc = .ok (.putfield index, 3)) (kk : J p l e R s m args below meth c ce sl Q nL D ad cs A (pc + 3) lv st (ms μ b 0 k x)) : J p l e R s m args below meth c ce sl Q nL D ad cs A pc lv (.int x :: .ref (ad b 0) :: st) μ := fun H locs ls hP hT hS hl => by
  obtain ⟨q0, h0, h1⟩ := wl_get (ad := ad) (cs := cs) μ ho.1
  rw [ho.2] at h1
  refine va_put X.1.1 X.1.2.1 X.1.2.2.2.2 hin tyX0 tyX0_ok nmX0 X.1.2.2.2.1 X.2.2.1 hP X.2.2.2.1.D hS q0 h1 (C := RX0) (T := TX0) (N := 16) rfl k hk hlink (fun _ h => h) hfin hd hn hfit hlk d (fun H1 locs1 hP1 _ hS1 => ?_)
  rw [← hset, ← ho.2, wl_set μ (upd (μ b 0) k x) h0] at hP1
  exact kk H1 locs1 ls hP1 (hT.keep (fun _ q => absurd q (by decide)) (fun _ q => absurd q (by decide)) (fun _ q => absurd q (by decide))) hS1 hl
theorem j_getM (X : JX p s m args c cc nL own Ts R ce sl D ad cs A z) {b index : Nat} {fs : (Nat → Int32) → List Value} (ho : Obj ad cs b 1 fs) (hin : ∀ w ∈ u_ws RX1 TX1 8, w ∈ Ts) (k : Nat) (hk : k < 8) {v : Value} (hv : (fs (μ b 0))[k]? = some v) (hlink : (Cond.fieldLink own index (TX1 k).1 (TX1 k).2.1 (TX1 k).2.2.1).before args s = true) (d : decode cc pc = .ok (.getfield index, 3)) (kk : J p l e R s m args below meth c ce sl Q nL D ad cs A (pc + 3) lv (v :: st) μ) : J p l e R s m args below meth c ce sl Q nL D ad cs A pc lv (.ref (ad b 0) :: st) μ := fun H locs ls hP hT hS hl => by
  obtain ⟨q0, h0, h1⟩ := wl_get (ad := ad) (cs := cs) μ ho.1
  rw [ho.2] at h1
  exact va_get X.1.1 X.1.2.1 X.1.2.2.2.2 hin X.1.2.2.2.1 X.2.2.1 hP q0 h1 (C := RX1) (T := TX1) (N := 8) rfl k hk hlink (fun _ h => h) hv d (kk H locs ls hP hT hS hl)
theorem j_putM (X : JX p s m args c cc nL own Ts R ce sl D ad cs A z) {b index : Nat} {fs : (Nat → Int32) → List Value} (ho : Obj ad cs b 1 fs) (hin : ∀ w ∈ u_ws RX1 TX1 8, w ∈ Ts) (k : Nat) (hk : k < 8) {ty : FieldType} {x : Int32} (hset : ∀ f, fs (upd f k x) = (fs f).set k (.int x)) (hfin : (TX1 k).2.2.2 = false) (hd : parseFieldDescriptor (TX1 k).2.2.1 = some ty) (hn : narrow ty (.int x) = .int x) (hfit : fits ty (.int x) = true) (hlk : k < (fs (μ b 0)).length) (hlink : (Cond.fieldLink own index (TX1 k).1 (TX1 k).2.1 (TX1 k).2.2.1).before args s = true) (d : decode cc pc = .ok (.putfield index, 3)) (kk : J p l e R s m args below meth c ce sl Q nL D ad cs A (pc + 3) lv st (ms μ b 0 k x)) : J p l e R s m args below meth c ce sl Q nL D ad cs A pc lv (.int x :: .ref (ad b 0) :: st) μ := fun H locs ls hP hT hS hl => by
  obtain ⟨q0, h0, h1⟩ := wl_get (ad := ad) (cs := cs) μ ho.1
  rw [ho.2] at h1
  refine va_put X.1.1 X.1.2.1 X.1.2.2.2.2 hin tyX1 tyX1_ok nmX1 X.1.2.2.2.1 X.2.2.1 hP X.2.2.2.1.D hS q0 h1 (C := RX1) (T := TX1) (N := 8) rfl k hk hlink (fun _ h => h) hfin hd hn hfit hlk d (fun H1 locs1 hP1 _ hS1 => ?_)
  rw [← hset, ← ho.2, wl_set μ (upd (μ b 0) k x) h0] at hP1
  exact kk H1 locs1 ls hP1 (hT.keep (fun _ q => absurd q (by decide)) (fun _ q => absurd q (by decide)) (fun _ q => absurd q (by decide))) hS1 hl
theorem j_iald (X : JX p s m args c cc nL own Ts R ce sl D ad cs A z) {b k n : Nat} (ha : Arr ad cs b k 0 n) {x : Int32} (i : Nat) (hx : x = nI i) (hi : i < n) (hn : n < 2 ^ 31) {v : Int32} (hv : μ b k i = v) (d : decode cc pc = .ok (.iaload, 1)) (kk : J p l e R s m args below meth c ce sl Q nL D ad cs A (pc + 1) lv (.int v :: st) μ) : J p l e R s m args below meth c ce sl Q nL D ad cs A pc lv (.int x :: .ref (ad b k) :: st) μ := fun H locs ls hP hT hS hl => by
  subst hx
  obtain ⟨q0, h0, h1⟩ := wl_get (ad := ad) (cs := cs) μ ha.1
  rw [ha.2] at h1
  refine va_iald X.1.1 X.1.2.1 X.2.2.1 hP q0 0 h1 rfl (vp_in_nI hi hn) d ?_
  rw [nI_clamp (Nat.lt_trans hi hn), hv]
  exact kk H locs ls hP hT hS hl
theorem j_cald (X : JX p s m args c cc nL own Ts R ce sl D ad cs A z) {b k n : Nat} (ha : Arr ad cs b k 1 n) {x : Int32} (i : Nat) (hx : x = nI i) (hi : i < n) (hn : n < 2 ^ 31) {v : Int32} (hv : μ b k i = v) (d : decode cc pc = .ok (.caload, 1)) (kk : J p l e R s m args below meth c ce sl Q nL D ad cs A (pc + 1) lv (.int v :: st) μ) : J p l e R s m args below meth c ce sl Q nL D ad cs A pc lv (.int x :: .ref (ad b k) :: st) μ := fun H locs ls hP hT hS hl => by
  subst hx
  obtain ⟨q0, h0, h1⟩ := wl_get (ad := ad) (cs := cs) μ ha.1
  rw [ha.2] at h1
  refine va_cald X.1.1 X.1.2.1 X.2.2.1 hP q0 1 h1 rfl (vp_in_nI hi hn) d ?_
  rw [nI_clamp (Nat.lt_trans hi hn), hv]
  exact kk H locs ls hP hT hS hl
theorem j_zald (X : JX p s m args c cc nL own Ts R ce sl D ad cs A z) {b k n : Nat} (ha : Arr ad cs b k 2 n) {x : Int32} (i : Nat) (hx : x = nI i) (hi : i < n) (hn : n < 2 ^ 31) {v : Int32} (hv : μ b k i = v) (d : decode cc pc = .ok (.baload, 1)) (kk : J p l e R s m args below meth c ce sl Q nL D ad cs A (pc + 1) lv (.int v :: st) μ) : J p l e R s m args below meth c ce sl Q nL D ad cs A pc lv (.int x :: .ref (ad b k) :: st) μ := fun H locs ls hP hT hS hl => by
  subst hx
  obtain ⟨q0, h0, h1⟩ := wl_get (ad := ad) (cs := cs) μ ha.1
  rw [ha.2] at h1
  refine va_zald X.1.1 X.1.2.1 X.2.2.1 hP q0 2 h1 rfl (vp_in_nI hi hn) d ?_
  rw [nI_clamp (Nat.lt_trans hi hn), hv]
  exact kk H locs ls hP hT hS hl
theorem j_iast (X : JX p s m args c cc nL own Ts R ce sl D ad cs A z) {b k n : Nat} (ha : Arr ad cs b k 0 n) {x v : Int32} (i : Nat) (hx : x = nI i) (hi : i < n) (hn : n < 2 ^ 31) (hne : ¬ (b < 10 ∧ (k = 4 ∨ k = 8)) ∧ ¬ (b = 10 ∧ k = 7)) (d : decode cc pc = .ok (.iastore, 1)) (kk : J p l e R s m args below meth c ce sl Q nL D ad cs A (pc + 1) lv st (ms μ b k i v)) : J p l e R s m args below meth c ce sl Q nL D ad cs A pc lv (.int v :: .int x :: .ref (ad b k) :: st) μ := fun H locs ls hP hT hS hl => by
  subst hx
  obtain ⟨q0, h0, h1⟩ := wl_get (ad := ad) (cs := cs) μ ha.1
  rw [ha.2] at h1
  refine va_iast X.1.1 X.1.2.1 X.2.2.1 hP X.2.2.2.1.D hS q0 0 h1 rfl (vp_in_nI hi hn) d (fun H1 locs1 hP1 _ hS1 => ?_)
  rw [nI_clamp (Nat.lt_trans hi hn), ← ha.2, wl_set μ _ h0] at hP1
  exact kk H1 locs1 ls hP1 (hT.keep (fun q r => absurd ⟨q, Or.inl r⟩ hne.1) (fun q r => absurd ⟨q, Or.inr r⟩ hne.1) (fun q r => absurd ⟨q, r⟩ hne.2)) hS1 hl
theorem j_zast (X : JX p s m args c cc nL own Ts R ce sl D ad cs A z) {b k n : Nat} (ha : Arr ad cs b k 2 n) {x v : Int32} (i : Nat) (hx : x = nI i) (hi : i < n) (hn : n < 2 ^ 31) (hv : isBo v) (hne : k ≠ 4 ∧ ¬ (b = 10 ∧ k = 7)) (d : decode cc pc = .ok (.bastore, 1)) (kk : J p l e R s m args below meth c ce sl Q nL D ad cs A (pc + 1) lv st (ms μ b k i v)) : J p l e R s m args below meth c ce sl Q nL D ad cs A pc lv (.int v :: .int x :: .ref (ad b k) :: st) μ := fun H locs ls hP hT hS hl => by
  subst hx
  obtain ⟨q0, h0, h1⟩ := wl_get (ad := ad) (cs := cs) μ ha.1
  rw [ha.2] at h1
  refine va_zast X.1.1 X.1.2.1 X.2.2.1 hP X.2.2.2.1.D hS q0 2 h1 rfl (vp_in_nI hi hn) d (fun H1 locs1 hP1 _ hS1 => ?_)
  have e : vp_nar .boolean v = v := by rcases hv with rfl | rfl <;> rfl
  rw [nI_clamp (Nat.lt_trans hi hn), e, ← ha.2, wl_set μ _ h0] at hP1
  refine kk H1 locs1 ls hP1 (hT.keep (fun _ r => absurd r hne.1) (fun q r j hj => ?_) (fun q r => absurd ⟨q, r⟩ hne.2)) hS1 hl
  subst r
  show isBo (if j = i then v else μ b 8 j)
  by_cases hji : j = i
  · rw [if_pos hji]; exact hv
  · rw [if_neg hji]; exact hT.2.1 b j q hj
theorem j_cast (X : JX p s m args c cc nL own Ts R ce sl D ad cs A z) {x v : Int32} (i : Nat) (hx : x = nI i) (hi : i < 60) (hv : isCh v) (d : decode cc pc = .ok (.castore, 1)) (kk : J p l e R s m args below meth c ce sl Q nL D ad cs A (pc + 1) lv st (ms μ 10 7 i v)) : J p l e R s m args below meth c ce sl Q nL D ad cs A pc lv (.int v :: .int x :: .ref (ad 10 7) :: st) μ := fun H locs ls hP hT hS hl => by
  subst hx
  have ha : Arr ad cs 10 7 1 60 := aM_7
  obtain ⟨q0, h0, h1⟩ := wl_get (ad := ad) (cs := cs) μ ha.1
  rw [ha.2] at h1
  refine va_cast X.1.1 X.1.2.1 X.2.2.1 hP X.2.2.2.1.D hS q0 1 h1 rfl (vp_in_nI hi (by decide)) d (fun H1 locs1 hP1 _ hS1 => ?_)
  have e : vp_nar .char v = v := by
    obtain ⟨q, hq, rfl⟩ := hv
    have h := (pk_charN hq).1
    show (match narrow .char (.int (nI q)) with | .int y => y | _ => 0) = nI q
    rw [h]
  rw [nI_clamp (Nat.lt_trans hi (by decide)), e, ← ha.2, wl_set μ _ h0] at hP1
  refine kk H1 locs1 ls hP1 (hT.keep (fun q _ => absurd q (by decide)) (fun q _ => absurd q (by decide)) (fun q r j hj => ?_)) hS1 hl
  show isCh (if j = i then v else μ 10 7 j)
  by_cases hji : j = i
  · rw [if_pos hji]; exact hv
  · rw [if_neg hji]; exact hT.2.2 j hj
theorem j_aald (X : JX p s m args c cc nL own Ts R ce sl D ad cs A z) {b k n : Nat} (ha : Rfs ad cs b k n) {x : Int32} (i : Nat) (hx : x = nI i) (hi : i < n) (hn : n < 2 ^ 31) (y : Nat) (hy : μ b k i = nI y) (hyl : y < 2 ^ 31) (d : decode cc pc = .ok (.aaload, 1)) (kk : J p l e R s m args below meth c ce sl Q nL D ad cs A (pc + 1) lv (.ref (ad y 0) :: st) μ) : J p l e R s m args below meth c ce sl Q nL D ad cs A pc lv (.int x :: .ref (ad b k) :: st) μ := fun H locs ls hP hT hS hl => by
  subst hx
  obtain ⟨q0, h0, h1⟩ := wl_get (ad := ad) (cs := cs) μ ha.1
  rw [ha.2] at h1
  refine va_aldq X.1.1 X.1.2.1 X.2.2.1 hP q0 3 h1 rfl (vp_in_nI hi hn) d ?_
  have e : qC ad (μ b k) (nI i).toNatClampNeg = some (ad y 0) := by
    rw [nI_clamp (Nat.lt_trans hi hn)]
    show some (ad (μ b k i).toNatClampNeg 0) = _
    rw [hy, nI_clamp hyl]
  rw [e]
  exact kk H locs ls hP hT hS hl
theorem j_aast (X : JX p s m args c cc nL own Ts R ce sl D ad cs A z) {b k n : Nat} (ha : Rfs ad cs b k n) (hb : 10 ≤ b) (hk : k ≠ 7) {x : Int32} (i : Nat) (hx : x = nI i) (hi : i < n) (hn : n < 2 ^ 31) (y : Nat) (hy : y < 10) (d : decode cc pc = .ok (.aastore, 1)) (kk : J p l e R s m args below meth c ce sl Q nL D ad cs A (pc + 1) lv st (ms μ b k i (nI y))) : J p l e R s m args below meth c ce sl Q nL D ad cs A pc lv (.ref (ad y 0) :: .int x :: .ref (ad b k) :: st) μ := fun H locs ls hP hT hS hl => by
  subst hx
  obtain ⟨q0, h0, h1⟩ := wl_get (ad := ad) (cs := cs) μ ha.1
  obtain ⟨qk, h2, h3⟩ := wl_get (ad := ad) (cs := cs) μ (oC (ad := ad) (cs := cs) hy).1
  rw [ha.2] at h1
  rw [(oC hy).2] at h3
  refine va_astq X.1.1 X.1.2.1 X.2.2.1 hP X.2.2.2.1.D hS q0 3 qk 0 h1 rfl h3 (r := (RX0, TX0, 16)) rfl (vp_in_nI hi hn) d (fun H1 locs1 hP1 _ hS1 => ?_)
  have e : va_up (qC ad (μ b k)) (nI i).toNatClampNeg (some (ad y 0)) = qC ad (upd (μ b k) i (nI y)) := by
    funext j
    rw [nI_clamp (Nat.lt_trans hi hn)]
    show (if j = i then some (ad y 0) else qC ad (μ b k) j) = some (ad (if j = i then nI y else μ b k j).toNatClampNeg 0)
    by_cases hji : j = i
    · rw [if_pos hji, if_pos hji, nI_clamp (Nat.lt_trans hy (by decide))]
    · rw [if_neg hji, if_neg hji]; rfl
  rw [e, ← ha.2, wl_set μ _ h0] at hP1
  exact kk H1 locs1 ls hP1 (hT.keep (fun q _ => absurd q (by omega)) (fun q _ => absurd q (by omega)) (fun _ r => absurd r hk)) hS1 hl
theorem j_alen (X : JX p s m args c cc nL own Ts R ce sl D ad cs A z) {b k t n : Nat} {ty : FieldType} (ha : Arr ad cs b k t n) (ht : (tyl cs)[t]? = some (cs t, ty)) {v : Int32} (hv : Int32.ofNat n = v) (d : decode cc pc = .ok (.arraylength, 1)) (kk : J p l e R s m args below meth c ce sl Q nL D ad cs A (pc + 1) lv (.int v :: st) μ) : J p l e R s m args below meth c ce sl Q nL D ad cs A pc lv (.ref (ad b k) :: st) μ := fun H locs ls hP hT hS hl => by
  obtain ⟨q0, h0, h1⟩ := wl_get (ad := ad) (cs := cs) μ ha.1
  rw [ha.2] at h1
  exact va_alen X.1.1 X.1.2.1 X.2.2.1 hP q0 t h1 ht hv d (kk H locs ls hP hT hS hl)
theorem j_sgs (X : JX p s m args c cc nL own Ts R ce sl D ad cs A z) (ho : own = RX0) (d : decode cc pc = .ok (.getstatic 71, 3)) (kk : J p l e R s m args below meth c ce sl Q nL D ad cs A (pc + 3) lv (.ref (z 0) :: st) μ) : J p l e R s m args below meth c ce sl Q nL D ad cs A pc lv st μ := fun H locs ls hP hT hS hl => va_getsN X.1.1 X.1.2.1 X.2.2.2.2.1.1.1 hS X.1.2.2.2.1 (ref := "PunCourts") (by rw [ho]; exact va_Nw.use rfl X.2.2.2.2.2.1) (fun _ h => h) d (kk H locs ls hP hT hS hl)
theorem j_sgl (X : JX p s m args c cc nL own Ts R ce sl D ad cs A z) (d : decode cc pc = .ok (.arraylength, 1)) (kk : J p l e R s m args below meth c ce sl Q nL D ad cs A (pc + 1) lv (.int (nI 26) :: st) μ) : J p l e R s m args below meth c ce sl Q nL D ad cs A pc lv (.ref (z 0) :: st) μ := fun H locs ls hP hT hS hl => va_tlen X.1.1 X.1.2.1 X.2.2.2.2.1.2.1 hS rfl d (kk H locs ls hP hT hS hl)
theorem j_sga (X : JX p s m args c cc nL own Ts R ce sl D ad cs A z) {x : Int32} (i : Nat) (hx : x = nI i) (hi : i < 26) (d : decode cc pc = .ok (.iaload, 1)) (kk : J p l e R s m args below meth c ce sl Q nL D ad cs A (pc + 1) lv (.int (sg i) :: st) μ) : J p l e R s m args below meth c ce sl Q nL D ad cs A pc lv (.int x :: .ref (z 0) :: st) μ := fun H locs ls hP hT hS hl => by
  subst hx
  exact va_ti X.1.1 X.1.2.1 X.2.2.2.2.1.2.1 hS (vp_in_nI hi (by decide)) (by rw [nI_clamp (Nat.lt_trans hi (by decide))]) d (kk H locs ls hP hT hS hl)
theorem j_los (X : JX p s m args c cc nL own Ts R ce sl D ad cs A z) {index : Nat} (hlink : (Cond.fieldLink own index RX1 "LOWEST" "[I").before args s = true) (d : decode cc pc = .ok (.getstatic index, 3)) (kk : J p l e R s m args below meth c ce sl Q nL D ad cs A (pc + 3) lv (.ref (z 1) :: st) μ) : J p l e R s m args below meth c ce sl Q nL D ad cs A pc lv st μ := fun H locs ls hP hT hS hl => va_gets X.1.1 X.1.2.1 X.2.2.2.2.1.1.2.1 hS X.1.2.2.2.1 hlink (fun _ h => h) d (kk H locs ls hP hT hS hl)
theorem j_loa (X : JX p s m args c cc nL own Ts R ce sl D ad cs A z) {x : Int32} (i : Nat) (hx : x = nI i) (hi : i < 4) (d : decode cc pc = .ok (.iaload, 1)) (kk : J p l e R s m args below meth c ce sl Q nL D ad cs A (pc + 1) lv (.int (lo4 i) :: st) μ) : J p l e R s m args below meth c ce sl Q nL D ad cs A pc lv (.int x :: .ref (z 1) :: st) μ := fun H locs ls hP hT hS hl => by
  subst hx
  exact va_ti X.1.1 X.1.2.1 X.2.2.2.2.1.2.2.1 hS (vp_in_nI hi (by decide)) (by rw [nI_clamp (Nat.lt_trans hi (by decide))]) d (kk H locs ls hP hT hS hl)
theorem j_his (X : JX p s m args c cc nL own Ts R ce sl D ad cs A z) {index : Nat} (hlink : (Cond.fieldLink own index RX1 "HIGHEST" "[I").before args s = true) (d : decode cc pc = .ok (.getstatic index, 3)) (kk : J p l e R s m args below meth c ce sl Q nL D ad cs A (pc + 3) lv (.ref (z 2) :: st) μ) : J p l e R s m args below meth c ce sl Q nL D ad cs A pc lv st μ := fun H locs ls hP hT hS hl => va_gets X.1.1 X.1.2.1 X.2.2.2.2.1.1.2.2 hS X.1.2.2.2.1 hlink (fun _ h => h) d (kk H locs ls hP hT hS hl)
theorem j_hia (X : JX p s m args c cc nL own Ts R ce sl D ad cs A z) {x : Int32} (i : Nat) (hx : x = nI i) (hi : i < 4) (d : decode cc pc = .ok (.iaload, 1)) (kk : J p l e R s m args below meth c ce sl Q nL D ad cs A (pc + 1) lv (.int (hi4 i) :: st) μ) : J p l e R s m args below meth c ce sl Q nL D ad cs A pc lv (.int x :: .ref (z 2) :: st) μ := fun H locs ls hP hT hS hl => by
  subst hx
  exact va_ti X.1.1 X.1.2.1 X.2.2.2.2.1.2.2.2 hS (vp_in_nI hi (by decide)) (by rw [nI_clamp (Nat.lt_trans hi (by decide))]) d (kk H locs ls hP hT hS hl)
theorem j_mmax (X : JX p s m args c cc nL own Ts R ce sl D ad cs A z) {index : Nat} {x y v : Int32} (hlink : (Cond.methodLink own index Lib.Math.max.name).before args s = true) (hstat : (Cond.static Lib.Math.max.name).before args s = true) (hini : (Cond.initialized "java/lang/Math").before args s = true) (hcode : (Cond.code Lib.Math.max.name Lib.Math.max.code 2 (some .int)).before args s = true) (hfr : 1 ≤ R.frames) (hlo : (st.map fun v => v.category).sum + 13 ≤ R.locals) (hv : (if x < y then y else x) = v) (d : decode cc pc = .ok (.invokestatic index, 3)) (kk : J p l e R s m args below meth c ce sl Q nL D ad cs A (pc + 3) lv (.int v :: st) μ) : J p l e R s m args below meth c ce sl Q nL D ad cs A pc lv (.int y :: .int x :: st) μ := fun H locs ls hP hT hS hl => by
  subst hv
  exact va_mmax X.1.1 X.1.2.1 (X.1.2.2.1.trans hl.1.symm) X.1.2.2.2.1 hlink hstat hini hcode hfr hlo X.2.1.1 X.2.1.2 d (kk H locs ls hP hT hS hl)
theorem j_mmin (X : JX p s m args c cc nL own Ts R ce sl D ad cs A z) {index : Nat} {x y v : Int32} (hlink : (Cond.methodLink own index Lib.Math.min.name).before args s = true) (hstat : (Cond.static Lib.Math.min.name).before args s = true) (hini : (Cond.initialized "java/lang/Math").before args s = true) (hcode : (Cond.code Lib.Math.min.name Lib.Math.min.code 2 (some .int)).before args s = true) (hfr : 1 ≤ R.frames) (hlo : (st.map fun v => v.category).sum + 13 ≤ R.locals) (hv : (if y < x then y else x) = v) (d : decode cc pc = .ok (.invokestatic index, 3)) (kk : J p l e R s m args below meth c ce sl Q nL D ad cs A (pc + 3) lv (.int v :: st) μ) : J p l e R s m args below meth c ce sl Q nL D ad cs A pc lv (.int y :: .int x :: st) μ := fun H locs ls hP hT hS hl => by
  subst hv
  exact va_mmin X.1.1 X.1.2.1 (X.1.2.2.1.trans hl.1.symm) X.1.2.2.2.1 hlink hstat hini hcode hfr hlo X.2.1.1 X.2.1.2 d (kk H locs ls hP hT hS hl)
/-- arraycopy from the start of one array, or from a place, into another array of its kind -/
theorem j_copy (X : JX p s m args c cc nL own Ts R ce sl D ad cs A z) {b k b1 k1 t n0 n1 index : Nat} {ty : FieldType} (ha : Arr ad cs b k t n0) (ha1 : Arr ad cs b1 k1 t n1) (ht : (tyl cs)[t]? = some (cs t, ty)) (hprim : refKind ty = false) {xs xd xn : Int32} (sp dp n : Nat) (hxs : xs = nI sp) (hxd : xd = nI dp) (hxn : xn = nI n) (h4 : sp + n ≤ n0) (h5 : dp + n ≤ n1) (hn0 : n0 < 2 ^ 31) (hn1 : n1 < 2 ^ 31) (hfit : TY μ → ∀ i, i < n → fits ty (.int (μ b k (sp + i))) = true) (hty : TY μ → TY (mc μ b1 k1 (va_cpy (μ b k) (μ b1 k1) sp dp n))) (hlink : (Cond.methodLink own index arraycopyName).before args s = true) (hnat : (Cond.native arraycopyName).before args s = true) (hstat : (Cond.static arraycopyName).before args s = true) (hini : (Cond.initialized "java/lang/System").before args s = true) (hfr : 1 ≤ R.frames) (hlo : (st.map fun v => v.category).sum + (nativeFrameWords "java/lang/System" "arraycopy" 5 + 11) ≤ R.locals) (d : decode cc pc = .ok (.invokestatic index, 3)) (kk : J p l e R s m args below meth c ce sl Q nL D ad cs A (pc + 3) lv st (mc μ b1 k1 (va_cpy (μ b k) (μ b1 k1) sp dp n))) : J p l e R s m args below meth c ce sl Q nL D ad cs A pc lv (.int xn :: .int xd :: .ref (ad b1 k1) :: .int xs :: .ref (ad b k) :: st) μ := fun H locs ls hP hT hS hl => by
  subst hxs; subst hxd; subst hxn
  obtain ⟨q0, h0, h1⟩ := wl_get (ad := ad) (cs := cs) μ ha.1
  obtain ⟨q1, h2, h3⟩ := wl_get (ad := ad) (cs := cs) μ ha1.1
  rw [ha.2] at h1
  rw [ha1.2] at h3
  have e1 : (nI sp).toNatClampNeg = sp := nI_clamp (by omega)
  have e2 : (nI dp).toNatClampNeg = dp := nI_clamp (by omega)
  have e3 : (nI n).toNatClampNeg = n := nI_clamp (by omega)
  refine va_copyi X.1.1 X.1.2.1 (X.1.2.2.1.trans hl.1.symm) X.1.2.2.2.1 hlink hnat hstat hini X.2.2.1 hP X.2.2.2.1.D hS q0 q1 t t h1 h3 ht ht hprim (nI_pos (by omega)) (nI_pos (by omega)) (nI_pos (by omega)) (by rw [e1, e3]; exact h4) (by rw [e2, e3]; exact h5) (by rw [e1, e3]; exact hfit hT) hfr hlo d (fun H1 locs1 hP1 _ hS1 => ?_)
  rw [e1, e2, e3, ← ha1.2, wl_set μ _ h2] at hP1
  exact kk H1 locs1 ls hP1 (hty hT) hS1 hl

theorem j_ialdB (X : JX p s m args c cc nL own Ts R ce sl D ad cs A z) {b k n : Nat} {V : Nat → Nat → Int32} (ha : Arr ad cs b k 0 n) {x : Int32} (i : Nat) (hx : x = nI i) (hi : i < n) (hn : n < 2 ^ 31) (d : decode cc pc = .ok (.iaload, 1)) (kk : J p l e R s m args below meth c ce sl Q nL D ad cs A (pc + 1) lv (.int (V k i) :: st) (mb μ b V)) : J p l e R s m args below meth c ce sl Q nL D ad cs A pc lv (.int x :: .ref (ad b k) :: st) (mb μ b V) := j_iald X ha i hx hi hn (by rw [mb_s]) d kk
theorem j_caldB (X : JX p s m args c cc nL own Ts R ce sl D ad cs A z) {b k n : Nat} {V : Nat → Nat → Int32} (ha : Arr ad cs b k 1 n) {x : Int32} (i : Nat) (hx : x = nI i) (hi : i < n) (hn : n < 2 ^ 31) (d : decode cc pc = .ok (.caload, 1)) (kk : J p l e R s m args below meth c ce sl Q nL D ad cs A (pc + 1) lv (.int (V k i) :: st) (mb μ b V)) : J p l e R s m args below meth c ce sl Q nL D ad cs A pc lv (.int x :: .ref (ad b k) :: st) (mb μ b V) := j_cald X ha i hx hi hn (by rw [mb_s]) d kk
theorem j_zaldB (X : JX p s m args c cc nL own Ts R ce sl D ad cs A z) {b k n : Nat} {V : Nat → Nat → Int32} (ha : Arr ad cs b k 2 n) {x : Int32} (i : Nat) (hx : x = nI i) (hi : i < n) (hn : n < 2 ^ 31) (d : decode cc pc = .ok (.baload, 1)) (kk : J p l e R s m args below meth c ce sl Q nL D ad cs A (pc + 1) lv (.int (V k i) :: st) (mb μ b V)) : J p l e R s m args below meth c ce sl Q nL D ad cs A pc lv (.int x :: .ref (ad b k) :: st) (mb μ b V) := j_zald X ha i hx hi hn (by rw [mb_s]) d kk
theorem j_iastB (X : JX p s m args c cc nL own Ts R ce sl D ad cs A z) {b k n : Nat} {V : Nat → Nat → Int32} (ha : Arr ad cs b k 0 n) {x v : Int32} (i : Nat) (hx : x = nI i) (hi : i < n) (hn : n < 2 ^ 31) (hne : ¬ (b < 10 ∧ (k = 4 ∨ k = 8)) ∧ ¬ (b = 10 ∧ k = 7)) (d : decode cc pc = .ok (.iastore, 1)) (kk : J p l e R s m args below meth c ce sl Q nL D ad cs A (pc + 1) lv st (mb μ b (us V k i v))) : J p l e R s m args below meth c ce sl Q nL D ad cs A pc lv (.int v :: .int x :: .ref (ad b k) :: st) (mb μ b V) := j_iast X ha i hx hi hn hne d (ms_b ▸ kk)
theorem j_zastB (X : JX p s m args c cc nL own Ts R ce sl D ad cs A z) {b k n : Nat} {V : Nat → Nat → Int32} (ha : Arr ad cs b k 2 n) {x v : Int32} (i : Nat) (hx : x = nI i) (hi : i < n) (hn : n < 2 ^ 31) (hv : isBo v) (hne : k ≠ 4 ∧ ¬ (b = 10 ∧ k = 7)) (d : decode cc pc = .ok (.bastore, 1)) (kk : J p l e R s m args below meth c ce sl Q nL D ad cs A (pc + 1) lv st (mb μ b (us V k i v))) : J p l e R s m args below meth c ce sl Q nL D ad cs A pc lv (.int v :: .int x :: .ref (ad b k) :: st) (mb μ b V) := j_zast X ha i hx hi hn hv hne d (ms_b ▸ kk)
theorem j_castB (X : JX p s m args c cc nL own Ts R ce sl D ad cs A z) {V : Nat → Nat → Int32} {x v : Int32} (i : Nat) (hx : x = nI i) (hi : i < 60) (hv : isCh v) (d : decode cc pc = .ok (.castore, 1)) (kk : J p l e R s m args below meth c ce sl Q nL D ad cs A (pc + 1) lv st (mb μ 10 (us V 7 i v))) : J p l e R s m args below meth c ce sl Q nL D ad cs A pc lv (.int v :: .int x :: .ref (ad 10 7) :: st) (mb μ 10 V) := j_cast X i hx hi hv d (ms_b ▸ kk)
theorem j_getCB (X : JX p s m args c cc nL own Ts R ce sl D ad cs A z) {b index : Nat} {V : Nat → Nat → Int32} {fs : (Nat → Int32) → List Value} (ho : Obj ad cs b 0 fs) (hin : ∀ w ∈ u_ws RX0 TX0 16, w ∈ Ts) (k : Nat) (hk : k < 16) {v : Value} (hv : (fs (V 0))[k]? = some v) (hlink : (Cond.fieldLink own index (TX0 k).1 (TX0 k).2.1 (TX0 k).2.2.1).before args s = true) (d : decode cc pc = .ok (.getfield index, 3)) (kk : J p l e R s m args below meth c ce sl Q nL D ad cs A (pc + 3) lv (v :: st) (mb μ b V)) : J p l e R s m args below meth c ce sl Q nL D ad cs A pc lv (.ref (ad b 0) :: st) (mb μ b V) := j_getC X ho hin k hk (by rw [mb_s]; exact hv) hlink d kk
theorem j_putCB (X : JX p s m args c cc nL own Ts R ce sl D ad cs A z) {b index : Nat} {V : Nat → Nat → Int32} {fs : (Nat → Int32) → List Value} (ho : Obj ad cs b 0 fs) (hin : ∀ w ∈ u_ws RX0 TX0 16, w ∈ Ts) (k : Nat) (hk : k < 16) {ty : FieldType} {x : Int32} (hset : ∀ f, fs (upd f k x) = (fs f).set k (.int x)) (hfin : (TX0 k).2.2.2 = false) (hd : parseFieldDescriptor (TX0 k).2.2.1 = some ty) (hn : narrow ty (.int x) = .int x) (hfit : fits ty (.int x) = true) (hlk : k < (fs (V 0)).length) (hlink : (Cond.fieldLink own index (TX0 k).1 (TX0 k).2.1 (TX0 k).2.2.1).before args s = true) (d : decode cc pc = .ok (.putfield index, 3)) (kk : J p l e R s m args below meth c ce sl Q nL D ad cs A (pc + 3) lv st (mb μ b (us V 0 k x))) : J p l e R s m args below meth c ce sl Q nL D ad cs A pc lv (.int x :: .ref (ad b 0) :: st) (mb μ b V) := j_putC X ho hin k hk hset hfin hd hn hfit (by rw [mb_s]; exact hlk) hlink d (ms_b ▸ kk)
theorem j_getMB (X : JX p s m args c cc nL own Ts R ce sl D ad cs A z) {b index : Nat} {V : Nat → Nat → Int32} {fs : (Nat → Int32) → List Value} (ho : Obj ad cs b 1 fs) (hin : ∀ w ∈ u_ws RX1 TX1 8, w ∈ Ts) (k : Nat) (hk : k < 8) {v : Value} (hv : (fs (V 0))[k]? = some v) (hlink : (Cond.fieldLink own index (TX1 k).1 (TX1 k).2.1 (TX1 k).2.2.1).before args s = true) (d : decode cc pc = .ok (.getfield index, 3)) (kk : J p l e R s m args below meth c ce sl Q nL D ad cs A (pc + 3) lv (v :: st) (mb μ b V)) : J p l e R s m args below meth c ce sl Q nL D ad cs A pc lv (.ref (ad b 0) :: st) (mb μ b V) := j_getM X ho hin k hk (by rw [mb_s]; exact hv) hlink d kk
theorem j_putMB (X : JX p s m args c cc nL own Ts R ce sl D ad cs A z) {b index : Nat} {V : Nat → Nat → Int32} {fs : (Nat → Int32) → List Value} (ho : Obj ad cs b 1 fs) (hin : ∀ w ∈ u_ws RX1 TX1 8, w ∈ Ts) (k : Nat) (hk : k < 8) {ty : FieldType} {x : Int32} (hset : ∀ f, fs (upd f k x) = (fs f).set k (.int x)) (hfin : (TX1 k).2.2.2 = false) (hd : parseFieldDescriptor (TX1 k).2.2.1 = some ty) (hn : narrow ty (.int x) = .int x) (hfit : fits ty (.int x) = true) (hlk : k < (fs (V 0)).length) (hlink : (Cond.fieldLink own index (TX1 k).1 (TX1 k).2.1 (TX1 k).2.2.1).before args s = true) (d : decode cc pc = .ok (.putfield index, 3)) (kk : J p l e R s m args below meth c ce sl Q nL D ad cs A (pc + 3) lv st (mb μ b (us V 0 k x))) : J p l e R s m args below meth c ce sl Q nL D ad cs A pc lv (.int x :: .ref (ad b 0) :: st) (mb μ b V) := j_putM X ho hin k hk hset hfin hd hn hfit (by rw [mb_s]; exact hlk) hlink d (ms_b ▸ kk)
theorem j_callVi (X : JX p s m args c cc nL own Ts R ce sl D ad cs A z) {y : MethodName} {ws : List Cond} {rm : Room} {b ci index maxL n : Nat} {q : vw_C} {fs : (Nat → Int32) → List Value} {bytes : ByteArray} {ret : Option FieldType} {As st0 : List Value} {post : Int32 → Mm → Prop} (hM : KI l D ad cs A z y ws rm (.ref (ad b 0) :: As) μ post) (ho : Obj ad cs b ci fs) (hq : vwCl[ci]? = some q) (cw : CallW R s args own q.1 index y bytes maxL ret ws rm 0 0 n) (hst : As.reverse ++ .ref (ad b 0) :: st = st0) (hn : As.length = n) (hw : (st.map fun v => v.category).sum ≤ 8) (d : decode cc pc = .ok (.invokevirtual index, 3)) (kk : ∀ (r : Int32) (μ1 : Mm), post r μ1 → J p l e R s m args below meth c ce sl Q nL D ad cs A (pc + 3) lv (.int r :: st) μ1) : J p l e R s m args below meth c ce sl Q nL D ad cs A pc lv st0 μ := fun H locs ls hP hT hS hl => by
  subst hst
  obtain ⟨q0, h0, h1⟩ := wl_get (ad := ad) (cs := cs) μ ho.1
  rw [ho.2] at h1
  exact va_calli (va_runV (As := As) (rest := st) X.1 hM cw ⟨WS.blind, va_recv X.2.2.1 hP hq h1, fun U hU hW => ⟨rfl, by rw [hU]; exact hP, hT, va_K.moved hW.alike X.2.2.1, X.2.2.2.1, by rw [hU]; exact ST.moved hW.alike (X.2.2.2.2.1.kept hS.2.1), X.2.2.2.2.2.warm hW⟩⟩ rfl hn hl.1 rfl (by show 2 * 0 + _ ≤ 8; omega) d ⟨X.2.1.1, X.2.1.2⟩) hS (fun q _ h => h) (fun q h => h) (fun r u t H1 locs1 ht hvm hw hB hz1 hk1 hS1 => kk r u hw H1 locs1 ls (by rw [← ht]; exact hB.1) hB.2 hS1 hl)
theorem j_callSi (X : JX p s m args c cc nL own Ts R ce sl D ad cs A z) {y : MethodName} {ws : List Cond} {rm : Room} {index maxL n : Nat} {bytes : ByteArray} {ret : Option FieldType} {As st0 : List Value} {post : Int32 → Mm → Prop} (hM : KI l D ad cs A z y ws rm As μ post) (cw : CallB R s args own index y bytes maxL ret ws rm 0 0 n ∧ (Cond.static y).before args s = true) (hst : As.reverse ++ st = st0) (hn : As.length = n) (hw : (st.map fun v => v.category).sum ≤ 8) (d : decode cc pc = .ok (.invokestatic index, 3)) (kk : ∀ (r : Int32) (μ1 : Mm), post r μ1 → J p l e R s m args below meth c ce sl Q nL D ad cs A (pc + 3) lv (.int r :: st) μ1) : J p l e R s m args below meth c ce sl Q nL D ad cs A pc lv st0 μ := fun H locs ls hP hT hS hl => by
  subst hst
  exact va_calli (va_runS (As := As) (rest := st) X.1 hM cw ⟨WS.blind, fun U hU hW => ⟨rfl, by rw [hU]; exact hP, hT, va_K.moved hW.alike X.2.2.1, X.2.2.2.1, by rw [hU]; exact ST.moved hW.alike (X.2.2.2.2.1.kept hS.2.1), X.2.2.2.2.2.warm hW⟩⟩ rfl hn hl.1 rfl (by show 2 * 0 + _ ≤ 8; omega) d ⟨X.2.1.1, X.2.1.2⟩) hS (fun q _ h => h) (fun q h => h) (fun r u t H1 locs1 ht hvm hw hB hz1 hk1 hS1 => kk r u hw H1 locs1 ls (by rw [← ht]; exact hB.1) hB.2 hS1 hl)
theorem j_callSNi (X : JX p s m args c cc nL own Ts R ce sl D ad cs A z) {y : MethodName} {ws : List Cond} {rm : Room} {index maxL n : Nat} {host : String} {bytes : ByteArray} {ret : Option FieldType} {As st0 : List Value} {post : Int32 → Mm → Prop} (hM : KI l D ad cs A z y ws rm As μ post) (cw : va_CN R s args own index y host bytes maxL ret ws rm 0 0 n ∧ (Cond.static y).before args s = true ∧ True) (hst : As.reverse ++ st = st0) (hn : As.length = n) (hw : (st.map fun v => v.category).sum ≤ 8) (d : decode cc pc = .ok (.invokestatic index, 3)) (kk : ∀ (r : Int32) (μ1 : Mm), post r μ1 → J p l e R s m args below meth c ce sl Q nL D ad cs A (pc + 3) lv (.int r :: st) μ1) : J p l e R s m args below meth c ce sl Q nL D ad cs A pc lv st0 μ := fun H locs ls hP hT hS hl => by
  subst hst
  exact va_calli (va_runSN (As := As) (rest := st) X.1 hM cw ⟨WS.blind, fun U hU hW => ⟨rfl, by rw [hU]; exact hP, hT, va_K.moved hW.alike X.2.2.1, X.2.2.2.1, by rw [hU]; exact ST.moved hW.alike (X.2.2.2.2.1.kept hS.2.1), X.2.2.2.2.2.warm hW⟩⟩ rfl hn hl.1 rfl (by show 2 * 0 + _ ≤ 8; omega) d ⟨X.2.1.1, X.2.1.2⟩) hS (fun q _ h => h) (fun q h => h) (fun r u t H1 locs1 ht hvm hw hB hz1 hk1 hS1 => kk r u hw H1 locs1 ls (by rw [← ht]; exact hB.1) hB.2 hS1 hl)
theorem j_callVv (X : JX p s m args c cc nL own Ts R ce sl D ad cs A z) {y : MethodName} {ws : List Cond} {rm : Room} {b ci index maxL n : Nat} {q : vw_C} {fs : (Nat → Int32) → List Value} {bytes : ByteArray} {ret : Option FieldType} {As st0 : List Value} {post : Mm → Prop} (hM : KV l D ad cs A z y ws rm (.ref (ad b 0) :: As) μ post) (ho : Obj ad cs b ci fs) (hq : vwCl[ci]? = some q) (cw : CallW R s args own q.1 index y bytes maxL ret ws rm 0 0 n) (hst : As.reverse ++ .ref (ad b 0) :: st = st0) (hn : As.length = n) (hw : (st.map fun v => v.category).sum ≤ 8) (d : decode cc pc = .ok (.invokevirtual index, 3)) (kk : ∀ (μ1 : Mm), post μ1 → J p l e R s m args below meth c ce sl Q nL D ad cs A (pc + 3) lv st μ1) : J p l e R s m args below meth c ce sl Q nL D ad cs A pc lv st0 μ := fun H locs ls hP hT hS hl => by
  subst hst
  obtain ⟨q0, h0, h1⟩ := wl_get (ad := ad) (cs := cs) μ ho.1
  rw [ho.2] at h1
  exact va_callv (va_runV (As := As) (rest := st) X.1 hM cw ⟨WS.blind, va_recv X.2.2.1 hP hq h1, fun U hU hW => ⟨rfl, by rw [hU]; exact hP, hT, va_K.moved hW.alike X.2.2.1, X.2.2.2.1, by rw [hU]; exact ST.moved hW.alike (X.2.2.2.2.1.kept hS.2.1), X.2.2.2.2.2.warm hW⟩⟩ rfl hn hl.1 rfl (by show 2 * 0 + _ ≤ 8; omega) d ⟨X.2.1.1, X.2.1.2⟩) hS (fun q _ h => h) (fun q h => h) (fun u t H1 locs1 ht hvm hw hB hz1 hk1 hS1 => kk u hw H1 locs1 ls (by rw [← ht]; exact hB.1) hB.2 hS1 hl)
theorem j_callSv (X : JX p s m args c cc nL own Ts R ce sl D ad cs A z) {y : MethodName} {ws : List Cond} {rm : Room} {index maxL n : Nat} {bytes : ByteArray} {ret : Option FieldType} {As st0 : List Value} {post : Mm → Prop} (hM : KV l D ad cs A z y ws rm As μ post) (cw : CallB R s args own index y bytes maxL ret ws rm 0 0 n ∧ (Cond.static y).before args s = true) (hst : As.reverse ++ st = st0) (hn : As.length = n) (hw : (st.map fun v => v.category).sum ≤ 8) (d : decode cc pc = .ok (.invokestatic index, 3)) (kk : ∀ (μ1 : Mm), post μ1 → J p l e R s m args below meth c ce sl Q nL D ad cs A (pc + 3) lv st μ1) : J p l e R s m args below meth c ce sl Q nL D ad cs A pc lv st0 μ := fun H locs ls hP hT hS hl => by
  subst hst
  exact va_callv (va_runS (As := As) (rest := st) X.1 hM cw ⟨WS.blind, fun U hU hW => ⟨rfl, by rw [hU]; exact hP, hT, va_K.moved hW.alike X.2.2.1, X.2.2.2.1, by rw [hU]; exact ST.moved hW.alike (X.2.2.2.2.1.kept hS.2.1), X.2.2.2.2.2.warm hW⟩⟩ rfl hn hl.1 rfl (by show 2 * 0 + _ ≤ 8; omega) d ⟨X.2.1.1, X.2.1.2⟩) hS (fun q _ h => h) (fun q h => h) (fun u t H1 locs1 ht hvm hw hB hz1 hk1 hS1 => kk u hw H1 locs1 ls (by rw [← ht]; exact hB.1) hB.2 hS1 hl)
theorem j_callSNv (X : JX p s m args c cc nL own Ts R ce sl D ad cs A z) {y : MethodName} {ws : List Cond} {rm : Room} {index maxL n : Nat} {host : String} {bytes : ByteArray} {ret : Option FieldType} {As st0 : List Value} {post : Mm → Prop} (hM : KV l D ad cs A z y ws rm As μ post) (cw : va_CN R s args own index y host bytes maxL ret ws rm 0 0 n ∧ (Cond.static y).before args s = true ∧ True) (hst : As.reverse ++ st = st0) (hn : As.length = n) (hw : (st.map fun v => v.category).sum ≤ 8) (d : decode cc pc = .ok (.invokestatic index, 3)) (kk : ∀ (μ1 : Mm), post μ1 → J p l e R s m args below meth c ce sl Q nL D ad cs A (pc + 3) lv st μ1) : J p l e R s m args below meth c ce sl Q nL D ad cs A pc lv st0 μ := fun H locs ls hP hT hS hl => by
  subst hst
  exact va_callv (va_runSN (As := As) (rest := st) X.1 hM cw ⟨WS.blind, fun U hU hW => ⟨rfl, by rw [hU]; exact hP, hT, va_K.moved hW.alike X.2.2.1, X.2.2.2.1, by rw [hU]; exact ST.moved hW.alike (X.2.2.2.2.1.kept hS.2.1), X.2.2.2.2.2.warm hW⟩⟩ rfl hn hl.1 rfl (by show 2 * 0 + _ ≤ 8; omega) d ⟨X.2.1.1, X.2.1.2⟩) hS (fun q _ h => h) (fun q h => h) (fun u t H1 locs1 ht hvm hw hB hz1 hk1 hS1 => kk u hw H1 locs1 ls (by rw [← ht]; exact hB.1) hB.2 hS1 hl)
theorem j_iret {post : Int32 → Mm → Prop} (X : JX p s m args c cc nL own Ts R ce sl D ad cs A z) (hr : meth.sig.returnType = some .int) (hlocks : meth.locks = false) {v : Int32} (hp : post v μ) (d : decode cc pc = .ok (.ireturn, 1)) : J p l e R s m args below meth c ce sl (MQ below (va_Qi post (QS D ad cs) A) args s ce sl A) nL D ad cs A pc lv [.int v] μ := fun H locs ls hP hT hS hl => W.iret X.1.1 X.1.2.1 hr (fun t ht hW => ⟨⟨v, μ, rfl, hp, by rw [ht]; exact hP, hT⟩, hS.F ht⟩) hS.2.2 d
theorem j_zret {post : Int32 → Mm → Prop} (X : JX p s m args c cc nL own Ts R ce sl D ad cs A z) (hr : meth.sig.returnType = some .boolean) (hlocks : meth.locks = false) {v : Int32} (hv : isBo v) (hp : post v μ) (d : decode cc pc = .ok (.ireturn, 1)) : J p l e R s m args below meth c ce sl (MQ below (va_Qi post (QS D ad cs) A) args s ce sl A) nL D ad cs A pc lv [.int v] μ := fun H locs ls hP hT hS hl => W.zret X.1.1 X.1.2.1 hr (by rcases hv with rfl | rfl <;> rfl) (fun t ht hW => ⟨⟨v, μ, rfl, hp, by rw [ht]; exact hP, hT⟩, hS.F ht⟩) hS.2.2 d
theorem j_vret {post : Mm → Prop} (X : JX p s m args c cc nL own Ts R ce sl D ad cs A z) (hr : meth.sig.returnType = none) (hlocks : meth.locks = false) (hp : post μ) (d : decode cc pc = .ok (.return_, 1)) : J p l e R s m args below meth c ce sl (MQ below (va_Qv post (QS D ad cs) A) args s ce sl A) nL D ad cs A pc lv [] μ := fun H locs ls hP hT hS hl => W.vret X.1.1 X.1.2.1 hr (fun t ht hW => ⟨⟨μ, rfl, hp, by rw [ht]; exact hP, hT⟩, hS.F ht⟩) hS.2.2 d
theorem j_eq {μ1 : Mm} (h : μ = μ1) (kk : J p l e R s m args below meth c ce sl Q nL D ad cs A pc lv st μ1) : J p l e R s m args below meth c ce sl Q nL D ad cs A pc lv st μ := h ▸ kk
theorem j_nm {b : Nat} {V : Nat → Nat → Int32} (kk : ∀ W : Nat → Nat → Int32, W = V → J p l e R s m args below meth c ce sl Q nL D ad cs A pc lv st (mb μ b W)) : J p l e R s m args below meth c ce sl Q nL D ad cs A pc lv st (mb μ b V) := kk V rfl
theorem j_ng (kk : ∀ W : Mm, W = μ → J p l e R s m args below meth c ce sl Q nL D ad cs A pc lv st W) : J p l e R s m args below meth c ce sl Q nL D ad cs A pc lv st μ := kk μ rfl
theorem j_lvq {lv1 : List (Nat × Value)} (h : lv = lv1) (kk : J p l e R s m args below meth c ce sl Q nL D ad cs A pc lv1 st μ) : J p l e R s m args below meth c ce sl Q nL D ad cs A pc lv st μ := h ▸ kk
theorem j_lv {lv1 : List (Nat × Value)} (ks : List Nat) (h : lv_pick lv ks = lv1) (kk : J p l e R s m args below meth c ce sl Q nL D ad cs A pc lv1 st μ) : J p l e R s m args below meth c ce sl Q nL D ad cs A pc lv st μ := fun H locs ls hP hT hS hl => kk H locs ls hP hT hS (lv_sub hl ks h)
end JROWS

theorem KI_of {l : Launch} {D : va_G} {ad : Nat → Nat → Nat} {cs : Nat → ClassId} {A : Nat → Prop} {z : Nat → Nat} {y : MethodName} {ws ws' : List Cond} {rm : Room} {as : List Value} {μ : Mm} {post : Int32 → Mm → Prop} {cc : ByteArray} {maxL : Nat} {ret : Option FieldType} (hy : plainName y.cls = true) (hw : ws = Cond.code y cc maxL ret :: ws') (hn : (lg_sl as).length ≤ maxL)
  (body : ∀ (p : Program) (e : Env) (s : State) (m : MethodId) (args : Array Value) (below : List Frame) (meth : Method) (c : Code), meth.sig.returnType = ret → meth.locks = false → JX p s m args c cc maxL y.cls ws rm 0 0 D ad cs A z → J p l e rm s m args below meth c 0 0 (MQ below (va_Qi post (QS D ad cs) A) args s 0 0 A) maxL D ad cs A 0 (lv_args 0 as) [] μ) : KI l D ad cs A z y ws rm as μ post := by
  refine Met.ofW (cc := cc) (maxL := maxL) (ret := ret) hy hw ?_
  intro p e s m args below meth c s₁ B hml hv
  obtain ⟨rfl, hP, hT, hK, hAD, hST, hNW⟩ := hv
  have hl := lv_entry as (n := maxL) hn
  rw [lg_entry_eq]
  exact body p e s m as.toArray below meth c B.returns B.notSynchronized ⟨⟨B.exec, B.bytes, hml, findClass_of_methodNamed B.named, atoms_spec (ws := ws) B.pre⟩, ⟨Nat.zero_le _, Nat.zero_le _⟩, hK, hAD, hST, hNW⟩ s.heap [] _ hP hT va_S.rf hl
theorem KV_of {l : Launch} {D : va_G} {ad : Nat → Nat → Nat} {cs : Nat → ClassId} {A : Nat → Prop} {z : Nat → Nat} {y : MethodName} {ws ws' : List Cond} {rm : Room} {as : List Value} {μ : Mm} {post : Mm → Prop} {cc : ByteArray} {maxL : Nat} {ret : Option FieldType} (hy : plainName y.cls = true) (hw : ws = Cond.code y cc maxL ret :: ws') (hn : (lg_sl as).length ≤ maxL)
  (body : ∀ (p : Program) (e : Env) (s : State) (m : MethodId) (args : Array Value) (below : List Frame) (meth : Method) (c : Code), meth.sig.returnType = ret → meth.locks = false → JX p s m args c cc maxL y.cls ws rm 0 0 D ad cs A z → J p l e rm s m args below meth c 0 0 (MQ below (va_Qv post (QS D ad cs) A) args s 0 0 A) maxL D ad cs A 0 (lv_args 0 as) [] μ) : KV l D ad cs A z y ws rm as μ post := by
  refine Met.ofW (cc := cc) (maxL := maxL) (ret := ret) hy hw ?_
  intro p e s m args below meth c s₁ B hml hv
  obtain ⟨rfl, hP, hT, hK, hAD, hST, hNW⟩ := hv
  have hl := lv_entry as (n := maxL) hn
  rw [lg_entry_eq]
  exact body p e s m as.toArray below meth c B.returns B.notSynchronized ⟨⟨B.exec, B.bytes, hml, findClass_of_methodNamed B.named, atoms_spec (ws := ws) B.pre⟩, ⟨Nat.zero_le _, Nat.zero_le _⟩, hK, hAD, hST, hNW⟩ s.heap [] _ hP hT va_S.rf hl
/-! only what lies in the arrays counts -/
def rgC (k : Nat) : Nat := match k with
  | 0 => 15
  | 1 => 4
  | 4 => 180
  | 5 => 20
  | 6 => 20
  | 7 => 20
  | 8 => 20
  | 9 => 20
  | _ => 12
theorem arrV_cg {c : ClassId} {n : Nat} {f g : Nat → Value} (h : ∀ j, j < n → f j = g j) : arrV c n f = arrV c n g := by
  have e : (fun j : Fin n => f j.val) = (fun j : Fin n => g j.val) := funext (fun j => h j.val j.isLt)
  unfold arrV
  rw [e]
theorem eC_cg {ad : Nat → Nat → Nat} {cs : Nat → ClassId} {D : va_G} {b k a : Nat} {f g : Nat → Int32} {H : Heap} (hk : k ∈ ixC) (h : ∀ j, j < rgC k → (k = 0 → j = 1 ∨ j = 2 ∨ j = 14) → f j = g j) (q : va_at D vwCl (a, eC ad cs b k f) H) : va_at D vwCl (a, eC ad cs b k g) H := by
  have key : ∀ (t n : Nat), k ≠ 0 → rgC k = n → eC ad cs b k f = .inl (cs t, n, .inl f) → eC ad cs b k g = .inl (cs t, n, .inl g) → va_at D vwCl (a, eC ad cs b k g) H := by
    intro t n hk0 hn e1 e2
    rw [e1] at q
    rw [e2]
    have q1 : H[a]? = some (vp_cell (cs t) (n, .inl f)) := q
    show H[a]? = some (vp_cell (cs t) (n, .inl g))
    rw [q1, vp_cell_i, vp_cell_i, arrV_cg (fun j hj => by rw [h j (by rw [hn]; exact hj) (fun z => absurd z hk0)])]
  simp only [ixC, List.mem_cons, List.not_mem_nil, or_false] at hk
  rcases hk with rfl | rfl | rfl | rfl | rfl | rfl | rfl | rfl | rfl | rfl | rfl | rfl | rfl | rfl
  · have e : cC ad b g = cC ad b f := by
      unfold cC
      rw [h 1 (by decide) (fun _ => Or.inl rfl), h 2 (by decide) (fun _ => Or.inr (Or.inl rfl)), h 14 (by decide) (fun _ => Or.inr (Or.inr rfl))]
    show va_at D vwCl (a, .inr (0, cC ad b g)) H
    rw [e]
    exact q
  · exact key 0 4 (by decide) rfl rfl rfl
  · exact key 1 180 (by decide) rfl rfl rfl
  · exact key 0 20 (by decide) rfl rfl rfl
  · exact key 0 20 (by decide) rfl rfl rfl
  · exact key 0 20 (by decide) rfl rfl rfl
  · exact key 2 20 (by decide) rfl rfl rfl
  · exact key 0 20 (by decide) rfl rfl rfl
  · exact key 0 12 (by decide) rfl rfl rfl
  · exact key 0 12 (by decide) rfl rfl rfl
  · exact key 0 12 (by decide) rfl rfl rfl
  · exact key 0 12 (by decide) rfl rfl rfl
  · exact key 0 12 (by decide) rfl rfl rfl
  · exact key 0 12 (by decide) rfl rfl rfl
theorem idx_ixC {b k : Nat} (hb : b < 10) (h : (b, k) ∈ idx) : k ∈ ixC := by
  have h1 : ∀ q ∈ idx, q.1 < 10 → q.2 ∈ ixC := by decide +kernel
  exact h1 _ h hb
theorem P_cg {ad : Nat → Nat → Nat} {cs : Nat → ClassId} {D : va_G} {μ : Mm} {b : Nat} {V V1 : Nat → Nat → Int32} {H : Heap} (hb : b < 10) (h : ∀ k, k ∈ ixC → ∀ j, j < rgC k → (k = 0 → j = 1 ∨ j = 2 ∨ j = 14) → V k j = V1 k j) (hP : va_P D vwCl (wl ad cs (mb μ b V)) H) : va_P D vwCl (wl ad cs (mb μ b V1)) H := by
  intro q0 q hq
  rw [wl, List.getElem?_map] at hq
  cases hx : idx[q0]? with
  | none => rw [hx] at hq; cases hq
  | some x =>
    rw [hx] at hq
    cases hq
    have h0 := hP q0 (ad x.1 x.2, EE ad cs x.1 x.2 (mb μ b V x.1 x.2)) (by rw [wl, List.getElem?_map, hx]; rfl)
    show va_at D vwCl (ad x.1 x.2, EE ad cs x.1 x.2 (mb μ b V1 x.1 x.2)) H
    by_cases e : x.1 = b
    · have hxb : x.1 < 10 := by rw [e]; exact hb
      rw [EE, if_pos hxb] at h0 ⊢
      rw [e] at h0 ⊢
      rw [mb_s] at h0 ⊢
      have hk := idx_ixC (b := x.1) (k := x.2) hxb (List.mem_of_getElem? hx)
      exact eC_cg hk (fun j hj hz => h x.2 hk j hj hz) h0
    · rw [mb_n e] at h0 ⊢
      exact h0
theorem TY_cg {μ : Mm} {b : Nat} {V V1 : Nat → Nat → Int32} (hb : b < 10) (h : ∀ k, k ∈ ixC → ∀ j, j < rgC k → (k = 0 → j = 1 ∨ j = 2 ∨ j = 14) → V k j = V1 k j) (hT : TY (mb μ b V)) : TY (mb μ b V1) := by
  refine ⟨fun b1 j h1 h2 => ?_, fun b1 j h1 h2 => ?_, fun j h1 => ?_⟩
  · have q := hT.1 b1 j h1 h2
    by_cases e : b1 = b
    · subst e
      rw [mb_s] at q ⊢
      rw [← h 4 (by decide) j h2 (fun z => absurd z (by decide))]; exact q
    · rw [mb_n e] at q ⊢; exact q
  · have q := hT.2.1 b1 j h1 h2
    by_cases e : b1 = b
    · subst e
      rw [mb_s] at q ⊢
      rw [← h 8 (by decide) j h2 (fun z => absurd z (by decide))]; exact q
    · rw [mb_n e] at q ⊢; exact q
  · have q := hT.2.2 j h1
    rw [mb_n (show 10 ≠ b by omega)] at q ⊢
    exact q
section JCG
variable {p : Program} {l : Launch} {e : Env} {R : Room} {s : State} {m : MethodId} {args : Array Value} {below : List Frame} {meth : Method} {c : Code} {ce sl : Nat} {Q : State → Prop} {nL : Nat} {D : va_G} {ad : Nat → Nat → Nat} {cs : Nat → ClassId} {A : Nat → Prop} {pc : Nat} {lv : List (Nat × Value)} {st : List Value} {μ : Mm}
theorem j_cg {b : Nat} {V V1 : Nat → Nat → Int32} (hb : b < 10) (h : ∀ k, k ∈ ixC → ∀ j, j < rgC k → (k = 0 → j = 1 ∨ j = 2 ∨ j = 14) → V k j = V1 k j) (kk : J p l e R s m args below meth c ce sl Q nL D ad cs A pc lv st (mb μ b V1)) : J p l e R s m args below meth c ce sl Q nL D ad cs A pc lv st (mb μ b V) := fun H locs ls hP hT hS hl => kk H locs ls (P_cg hb h hP) (TY_cg hb h hT) hS hl
end JCG
abbrev rm (f n : Nat) : Room := { frames := f, cells := 0, slots := 0, locals := n }
theorem jl1 {A1 : Type} {G : Nat → List (Nat × Value) → List Value → Mm → Prop} {pc : Nat} {st : List Value} (lvf : A1 → List (Nat × Value)) (μf : A1 → Mm) (I : A1 → Prop) (ms : A1 → Nat) (hs : ∀ (a1 : A1), I a1 → (∀ (b1 : A1), I b1 → ms b1 < ms a1 → G pc (lvf b1) st (μf b1)) → G pc (lvf a1) st (μf a1)) (a1 : A1) (h : I a1) : G pc (lvf a1) st (μf a1) := by
  generalize hn : ms a1 = n
  induction n using Nat.strongRecOn generalizing a1 with
  | ind n ih => exact hs a1 h (fun b1 hb hm => ih (ms b1) (by omega) b1 hb rfl)
theorem jl2 {A1 A2 : Type} {G : Nat → List (Nat × Value) → List Value → Mm → Prop} {pc : Nat} {st : List Value} (lvf : A1 → A2 → List (Nat × Value)) (μf : A1 → A2 → Mm) (I : A1 → A2 → Prop) (ms : A1 → A2 → Nat) (hs : ∀ (a1 : A1) (a2 : A2), I a1 a2 → (∀ (b1 : A1) (b2 : A2), I b1 b2 → ms b1 b2 < ms a1 a2 → G pc (lvf b1 b2) st (μf b1 b2)) → G pc (lvf a1 a2) st (μf a1 a2)) (a1 : A1) (a2 : A2) (h : I a1 a2) : G pc (lvf a1 a2) st (μf a1 a2) := by
  generalize hn : ms a1 a2 = n
  induction n using Nat.strongRecOn generalizing a1 a2 with
  | ind n ih => exact hs a1 a2 h (fun b1 b2 hb hm => ih (ms b1 b2) (by omega) b1 b2 hb rfl)
theorem jl3 {A1 A2 A3 : Type} {G : Nat → List (Nat × Value) → List Value → Mm → Prop} {pc : Nat} {st : List Value} (lvf : A1 → A2 → A3 → List (Nat × Value)) (μf : A1 → A2 → A3 → Mm) (I : A1 → A2 → A3 → Prop) (ms : A1 → A2 → A3 → Nat) (hs : ∀ (a1 : A1) (a2 : A2) (a3 : A3), I a1 a2 a3 → (∀ (b1 : A1) (b2 : A2) (b3 : A3), I b1 b2 b3 → ms b1 b2 b3 < ms a1 a2 a3 → G pc (lvf b1 b2 b3) st (μf b1 b2 b3)) → G pc (lvf a1 a2 a3) st (μf a1 a2 a3)) (a1 : A1) (a2 : A2) (a3 : A3) (h : I a1 a2 a3) : G pc (lvf a1 a2 a3) st (μf a1 a2 a3) := by
  generalize hn : ms a1 a2 a3 = n
  induction n using Nat.strongRecOn generalizing a1 a2 a3 with
  | ind n ih => exact hs a1 a2 a3 h (fun b1 b2 b3 hb hm => ih (ms b1 b2 b3) (by omega) b1 b2 b3 hb rfl)
theorem jl4 {A1 A2 A3 A4 : Type} {G : Nat → List (Nat × Value) → List Value → Mm → Prop} {pc : Nat} {st : List Value} (lvf : A1 → A2 → A3 → A4 → List (Nat × Value)) (μf : A1 → A2 → A3 → A4 → Mm) (I : A1 → A2 → A3 → A4 → Prop) (ms : A1 → A2 → A3 → A4 → Nat) (hs : ∀ (a1 : A1) (a2 : A2) (a3 : A3) (a4 : A4), I a1 a2 a3 a4 → (∀ (b1 : A1) (b2 : A2) (b3 : A3) (b4 : A4), I b1 b2 b3 b4 → ms b1 b2 b3 b4 < ms a1 a2 a3 a4 → G pc (lvf b1 b2 b3 b4) st (μf b1 b2 b3 b4)) → G pc (lvf a1 a2 a3 a4) st (μf a1 a2 a3 a4)) (a1 : A1) (a2 : A2) (a3 : A3) (a4 : A4) (h : I a1 a2 a3 a4) : G pc (lvf a1 a2 a3 a4) st (μf a1 a2 a3 a4) := by
  generalize hn : ms a1 a2 a3 a4 = n
  induction n using Nat.strongRecOn generalizing a1 a2 a3 a4 with
  | ind n ih => exact hs a1 a2 a3 a4 h (fun b1 b2 b3 b4 hb hm => ih (ms b1 b2 b3 b4) (by omega) b1 b2 b3 b4 hb rfl)
theorem jl5 {A1 A2 A3 A4 A5 : Type} {G : Nat → List (Nat × Value) → List Value → Mm → Prop} {pc : Nat} {st : List Value} (lvf : A1 → A2 → A3 → A4 → A5 → List (Nat × Value)) (μf : A1 → A2 → A3 → A4 → A5 → Mm) (I : A1 → A2 → A3 → A4 → A5 → Prop) (ms : A1 → A2 → A3 → A4 → A5 → Nat) (hs : ∀ (a1 : A1) (a2 : A2) (a3 : A3) (a4 : A4) (a5 : A5), I a1 a2 a3 a4 a5 → (∀ (b1 : A1) (b2 : A2) (b3 : A3) (b4 : A4) (b5 : A5), I b1 b2 b3 b4 b5 → ms b1 b2 b3 b4 b5 < ms a1 a2 a3 a4 a5 → G pc (lvf b1 b2 b3 b4 b5) st (μf b1 b2 b3 b4 b5)) → G pc (lvf a1 a2 a3 a4 a5) st (μf a1 a2 a3 a4 a5)) (a1 : A1) (a2 : A2) (a3 : A3) (a4 : A4) (a5 : A5) (h : I a1 a2 a3 a4 a5) : G pc (lvf a1 a2 a3 a4 a5) st (μf a1 a2 a3 a4 a5) := by
  generalize hn : ms a1 a2 a3 a4 a5 = n
  induction n using Nat.strongRecOn generalizing a1 a2 a3 a4 a5 with
  | ind n ih => exact hs a1 a2 a3 a4 a5 h (fun b1 b2 b3 b4 b5 hb hm => ih (ms b1 b2 b3 b4 b5) (by omega) b1 b2 b3 b4 b5 hb rfl)
theorem jl6 {A1 A2 A3 A4 A5 A6 : Type} {G : Nat → List (Nat × Value) → List Value → Mm → Prop} {pc : Nat} {st : List Value} (lvf : A1 → A2 → A3 → A4 → A5 → A6 → List (Nat × Value)) (μf : A1 → A2 → A3 → A4 → A5 → A6 → Mm) (I : A1 → A2 → A3 → A4 → A5 → A6 → Prop) (ms : A1 → A2 → A3 → A4 → A5 → A6 → Nat) (hs : ∀ (a1 : A1) (a2 : A2) (a3 : A3) (a4 : A4) (a5 : A5) (a6 : A6), I a1 a2 a3 a4 a5 a6 → (∀ (b1 : A1) (b2 : A2) (b3 : A3) (b4 : A4) (b5 : A5) (b6 : A6), I b1 b2 b3 b4 b5 b6 → ms b1 b2 b3 b4 b5 b6 < ms a1 a2 a3 a4 a5 a6 → G pc (lvf b1 b2 b3 b4 b5 b6) st (μf b1 b2 b3 b4 b5 b6)) → G pc (lvf a1 a2 a3 a4 a5 a6) st (μf a1 a2 a3 a4 a5 a6)) (a1 : A1) (a2 : A2) (a3 : A3) (a4 : A4) (a5 : A5) (a6 : A6) (h : I a1 a2 a3 a4 a5 a6) : G pc (lvf a1 a2 a3 a4 a5 a6) st (μf a1 a2 a3 a4 a5 a6) := by
  generalize hn : ms a1 a2 a3 a4 a5 a6 = n
  induction n using Nat.strongRecOn generalizing a1 a2 a3 a4 a5 a6 with
  | ind n ih => exact hs a1 a2 a3 a4 a5 a6 h (fun b1 b2 b3 b4 b5 b6 hb hm => ih (ms b1 b2 b3 b4 b5 b6) (by omega) b1 b2 b3 b4 b5 b6 hb rfl)

