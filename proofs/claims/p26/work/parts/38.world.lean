/-! worlds as heaps of cells in any order -/
theorem vP_mem {D : va_G} {cl : List vw_C} {ws : va_W} {H : Heap} : va_P D cl ws H ↔ ∀ q ∈ ws, va_at D cl q H := by
  constructor
  · intro h q hq
    obtain ⟨k, hk⟩ := List.getElem?_of_mem hq
    exact h k q hk
  · intro h k q hk
    exact h q (List.mem_of_getElem? hk)
theorem vD_mem {A : Nat → Prop} {ws : va_W} : va_D A ws ↔ (ws.map Prod.fst).Nodup ∧ ∀ q ∈ ws, A q.1 := by
  constructor
  · intro h
    refine ⟨?_, fun q hq => ?_⟩
    · rw [List.Nodup, List.pairwise_iff_getElem]
      intro i j hi hj hij e
      rw [List.length_map] at hi hj
      rw [List.getElem_map, List.getElem_map] at e
      have := h.1 i j _ _ (List.getElem?_eq_getElem hi) (List.getElem?_eq_getElem hj) e
      omega
    · obtain ⟨k, hk⟩ := List.getElem?_of_mem hq
      exact h.2 k q hk
  · intro h
    refine ⟨fun i j p q hi hj hpq => ?_, fun k q hk => h.2 q (List.mem_of_getElem? hk)⟩
    have h1 : (ws.map Prod.fst)[i]? = some p.1 := by rw [List.getElem?_map, hi]; rfl
    have h2 : (ws.map Prod.fst)[j]? = some q.1 := by rw [List.getElem?_map, hj]; rfl
    exact (List.getElem?_inj (List.getElem?_eq_some_iff.mp h1).1 h.1).mp (by rw [h1, h2, hpq])
theorem vP_sub {D : va_G} {cl : List vw_C} {ws ws' : va_W} {H : Heap} (hs : ∀ q ∈ ws', q ∈ ws) (h : va_P D cl ws H) : va_P D cl ws' H := vP_mem.mpr (fun q hq => vP_mem.mp h q (hs q hq))
theorem vD_perm {A : Nat → Prop} {ws ws' : va_W} (p : ws.Perm ws') (h : va_D A ws) : va_D A ws' := by
  have h := vD_mem.mp h
  exact vD_mem.mpr ⟨(p.map Prod.fst).nodup_iff.mp h.1, fun q hq => h.2 q (p.mem_iff.mpr hq)⟩
theorem vnd_of : ∀ l : List Nat, l.Nodup → va_nd l = true
  | [], _ => rfl
  | a :: l, h => by
    have := List.nodup_cons.mp h
    rw [va_nd, vnd_of l this.2, Bool.and_true]
    exact decide_eq_true this.1
/-- behind a call whose world is the last cell -/
theorem vjoin_last {A0 : Nat → Prop} {D : va_G} {cl : List vw_C} {ws w1 : va_W} {x : Nat × va_E} {H H1 : Heap} (hP : va_P D cl (ws ++ [x]) H) (hD : va_D A0 (ws ++ [x])) (hk : ∀ q : Nat, q < H.size → ¬ va_A [x] H.size q → H1[q]? = H[q]?) (hF : ∀ q, va_A [x] H.size q → A0 q) (hP1 : va_P D cl w1 H1) (hD1 : va_D (va_A [x] H.size) w1) : va_P D cl (ws ++ w1) H1 ∧ va_D A0 (ws ++ w1) := by
  refine va_join (wc := [x]) (wr := ws) hP hD [ws.length] (List.range ws.length) ?_ ?_ (vnd_of _ List.nodup_range) ?_ hk hF hP1 hD1
  · simp
  · apply List.ext_getElem
    · simp
    · intro i h1 h2
      simp at h1
      simp [List.getElem?_append_left h1]
  · intro i hi
    rw [List.mem_range] at hi
    simp
    omega
theorem RA_find {U : State} {cA : ClassId} {ty : FieldType} (h : va_RA U cA ty) : U.vm.findClass ("[" ++ ty.toString) = some cA := by
  cases ty with
  | object C => obtain ⟨_, _, _, _, _, h⟩ := h; exact h
  | _ => exact h
theorem cls_eq {D : va_G} {cl : List vw_C} {cs : Nat → ClassId} {cA : ClassId} {ty : FieldType} {s : State} (hK : va_K D cl (tyl cs ++ [(cA, ty)]) s) {t : Nat} (ht : (tyl cs)[t]? = some (cs t, ty)) : cA = cs t := by
  have h1 := RA_find (hK.2 4 (cA, ty) rfl).2
  have h2 := RA_find (hK.2 t (cs t, ty) (by rw [List.getElem?_append_left (List.getElem?_eq_some_iff.mp ht).1]; exact ht)).2
  exact Option.some.inj (h1.symm.trans h2)
/-- a court by the addresses of its cells -/
def wC (g : Nat → Nat) (cs : Nat → ClassId) (V : CV) : va_W := ixC.map (fun k => (g k, eC (fun _ => g) cs 0 k (V k)))
def ixR2 : List Nat := [0, 1, 2, 3, 5, 6, 7, 10, 11, 12]
def wR (g : Nat → Nat) (cs : Nat → ClassId) (V : CV) : va_W := ixR2.map (fun k => (g k, eR (fun _ => g) cs k (V k)))
/-- -6 at the first i places -/
def neg6 (i : Nat) : Nat → Int32 := fun j => if j < i then -6 else 0
theorem neg6_s {i : Nat} : upd (neg6 i) i (-6) = neg6 (i + 1) := by
  funext j
  show (if j = i then -6 else neg6 i j) = neg6 (i + 1) j
  rw [neg6, neg6]
  by_cases q : j = i
  · rw [if_pos q, if_pos (by omega)]
  · rw [if_neg q]
    by_cases q2 : j < i
    · rw [if_pos q2, if_pos (by omega)]
    · rw [if_neg q2, if_neg (by omega)]
def st4 : Nat → Int32 := upd (upd (upd (upd (fun _ => 0) 0 (nI 3)) 1 (nI 2)) 2 (nI 2)) 3 (nI 10)
/-- a fresh court, the first i corners so far -/
def frI (i : Nat) : CV := fun k => match k with
  | 1 => st4
  | 10 => neg6 i
  | 16 => neg6 i
  | _ => fun _ => 0
/-- a fresh model -/
def mr0 (i : Nat) : Nat → Int32 := fun j => if (249 ≤ j ∧ j < 249 + i) ∨ (285 ≤ j ∧ j < 285 + i) ∨ (309 ≤ j ∧ j < 309 + i) then -6 else st4 j
theorem mr0_s {i : Nat} (hi : i < 12) : upd (upd (upd (mr0 i) (249 + i) (-6)) (285 + i) (-6)) (309 + i) (-6) = mr0 (i + 1) := by
  funext j
  show (if j = 309 + i then -6 else if j = 285 + i then -6 else if j = 249 + i then -6 else mr0 i j) = mr0 (i + 1) j
  rw [mr0, mr0]
  by_cases q : j = 309 + i
  · rw [if_pos q, if_pos (by omega)]
  · rw [if_neg q]
    by_cases q2 : j = 285 + i
    · rw [if_pos q2, if_pos (by omega)]
    · rw [if_neg q2]
      by_cases q3 : j = 249 + i
      · rw [if_pos q3, if_pos (by omega)]
      · rw [if_neg q3]
        by_cases q4 : (249 ≤ j ∧ j < 249 + i) ∨ (285 ≤ j ∧ j < 285 + i) ∨ (309 ≤ j ∧ j < 309 + i)
        · rw [if_pos q4, if_pos (by omega)]
        · rw [if_neg q4, if_neg (by omega)]
def frR (i : Nat) : CV := fun k => match k with
  | 1 => mr0 i
  | _ => fun _ => 0
def fr0 : List Value := [.null, .int 0, .int 0, .null, .null, .null, .null, .null, .null, .null, .null, .null, .null, .null, .int 0, .null]
def fr1 : List Value := [.null, .null, .null, .int 0, .null, .null, .null, .int 0]
def fr2 : List Value := [.null, .null, .null, .int 0, .null, .null, .null, .int 0, .int 0, .null, .null, .null, .int 0]
/-- a loop of a method: the way to its end from each state of it -/
theorem loopW {I : Nat → Array Slot → Heap → List Loc → Prop} {P : Array Slot → Heap → List Loc → Prop} (h0 : ∀ ls H locs, I 0 ls H locs → P ls H locs) (hs : ∀ n, (∀ ls H locs, I n ls H locs → P ls H locs) → ∀ ls H locs, I (n + 1) ls H locs → P ls H locs) : ∀ n ls H locs, I n ls H locs → P ls H locs
  | 0 => h0
  | n + 1 => hs n (loopW h0 hs n)
/-- the first n fresh courts, by their addresses -/
def RB (cs : Nat → ClassId) (gs : Nat → Nat → Nat) (n : Nat) : va_W := (List.range n).flatMap (fun b => wC (gs b) cs (frI 12))
theorem RB_s {cs : Nat → ClassId} {gs : Nat → Nat → Nat} {n : Nat} {g : Nat → Nat} : RB cs gs n ++ wC g cs (frI 12) = RB cs (fun b => if b = n then g else gs b) (n + 1) := by
  have e : ∀ l : List Nat, (∀ b ∈ l, b < n) → l.flatMap (fun b => wC (gs b) cs (frI 12)) = l.flatMap (fun b => wC (if b = n then g else gs b) cs (frI 12)) := by
    intro l
    induction l with
    | nil => intro _; rfl
    | cons a l ih =>
      intro h
      rw [List.flatMap_cons, List.flatMap_cons, ih (fun b hb => h b (List.mem_cons_of_mem _ hb)), if_neg (show ¬ a = n from fun q => by have := h a (List.mem_cons_self ..); omega)]
  rw [RB, RB, List.range_succ, List.flatMap_append, e _ (fun b hb => List.mem_range.mp hb)]
  congr 1
  rw [List.flatMap_cons, List.flatMap_nil, List.append_nil, if_pos rfl]
theorem RB_mem {cs : Nat → ClassId} {gs : Nat → Nat → Nat} {n b : Nat} {q : Nat × va_E} (hb : b < n) (h : q ∈ wC (gs b) cs (frI 12)) : q ∈ RB cs gs n := List.mem_flatMap.mpr ⟨b, List.mem_range.mpr hb, h⟩
theorem RB_of {cs : Nat → ClassId} {gs : Nat → Nat → Nat} {n : Nat} {q : Nat × va_E} (h : q ∈ RB cs gs n) : ∃ b, b < n ∧ q ∈ wC (gs b) cs (frI 12) := by
  obtain ⟨b, h1, h2⟩ := List.mem_flatMap.mp h
  exact ⟨b, List.mem_range.mp h1, h2⟩
theorem vfree_last {A0 : Nat → Prop} {ws : va_W} {x : Nat × va_E} {H0 H : Heap} {locs : List Loc} (hD : va_D A0 (ws ++ [x])) (hS : va_S A0 H0 H locs) (hA : ∀ q, H0.size ≤ q → A0 q) : ∀ q, va_A [x] H.size q → A0 q := by
  intro q h
  rcases h with ⟨k, e, h⟩ | h
  · have h1 := List.mem_of_getElem? h
    rw [List.mem_singleton] at h1
    exact (vD_mem.mp hD).2 (q, e) (List.mem_append_right _ (by rw [h1]; exact List.mem_singleton_self _))
  · exact hA q (Nat.le_trans hS.1 h)
theorem vP_last {D : va_G} {cl : List vw_C} {ws : va_W} {x : Nat × va_E} {H : Heap} (h : va_P D cl (ws ++ [x]) H) : va_P D cl [x] H := vP_sub (fun q hq => List.mem_append_right _ hq) h
theorem vD_last {A : Nat → Prop} {ws : va_W} {x : Nat × va_E} (h : va_D A (ws ++ [x])) : va_D (fun _ => True) [x] := vD_mem.mpr ⟨by simp, fun _ _ => trivial⟩
theorem rot_perm {M R : va_W} {x : Nat × va_E} : ((M ++ R) ++ [x]).Perm ((M ++ [x]) ++ R) := by
  rw [List.append_assoc, List.append_assoc]
  exact List.Perm.append_left M List.perm_append_comm
theorem vP_rot {D : va_G} {cl : List vw_C} {M R : va_W} {x : Nat × va_E} {H : Heap} (h : va_P D cl ((M ++ R) ++ [x]) H) : va_P D cl ((M ++ [x]) ++ R) H := vP_sub (fun _ hq => rot_perm.mem_iff.mpr hq) h
theorem vD_rot {A : Nat → Prop} {M R : va_W} {x : Nat × va_E} (h : va_D A ((M ++ R) ++ [x])) : va_D A ((M ++ [x]) ++ R) := vD_perm rot_perm h
/-- a world of kept cells before courts: one of the first is changed -/
theorem set_front {M R : va_W} {k : Nat} {x : Nat × va_E} (h : k < M.length) : (M ++ R).set k x = M.set k x ++ R := by
  rw [List.set_append, if_pos h]
/-- the one made last is a court of its own -/
theorem wC_head {g : Nat → Nat} {cs : Nat → ClassId} {V : CV} : (g 0, (Sum.inr (0, cC (fun _ => g) 0 (V 0)) : va_E)) ∈ wC g cs V := List.mem_cons_self ..
