/-! places of a court behind a gift -/
theorem pl_10 {V : CV} {n c d : Nat} : placeS V n c 10 d = if d = c then nI n else V 10 d := by
  rw [placeS, upR_row (by decide), upL_row (by decide), pl5, pa5, us_n (by decide), pa4, us_n (by decide), pa3, us_n (by decide), pa2, us_n (by decide), pa1, us_i]
theorem pl_9 {V : CV} {n c d : Nat} : placeS V n c 9 d = if d = n then V 9 n + nI 1 else V 9 d := by
  rw [placeS, upR_row (by decide), upL_row (by decide), pl5, pa5, us_n (by decide), pa4, us_i, pa3, us_n (by decide), pa2, us_n (by decide), pa1, us_n (by decide)]
theorem n6 {n : Nat} (h : n < 2 ^ 31) : ¬ nI n = -6 := fun q => by
  have h1 : (nI n).toInt = n := nI_toInt h
  rw [q] at h1
  have h2 : (-6 : Int32).toInt = -6 := by decide
  omega
/-- what holds of a court goes on -/
theorem CI.go {V W : CV} {N : Nat} (h : CI V N) (e0 : W 0 2 = V 0 2) (em : isBo (W 0 14)) (e1 : W 1 = V 1) (e4 : W 4 = V 4) (e5 : W 5 = V 5) (e6 : W 6 = V 6) (e7 : ∀ n, n < N → ∃ k, k ≤ 9 ∧ W 7 n = nI k) (e8 : W 8 = V 8) (e9 : ∀ n, n < 20 → N ≤ n → W 9 n = V 9 n) (e10 : ∀ c, c < 12 → W 10 c = V 10 c ∨ W 10 c = -6 ∨ ∃ n, n < N ∧ V 8 n = 0 ∧ W 10 c = nI n) (e16 : W 0 14 = 0 → V 0 14 = 0 ∧ W 16 = V 16) : CI W N := by
  obtain ⟨⟨a1, a2, a3⟩, ⟨⟨a, ha, hb⟩, P, hP, hQ⟩, ⟨b1, b2⟩, ⟨d1, d2, d3, d4⟩, f⟩ := h
  refine ⟨⟨by rw [e0]; exact a1, a2, em⟩, ⟨⟨a, ha, by rw [e1]; exact hb⟩, P, hP, by rw [e1]; exact hQ⟩, ⟨fun c hc => ?_, fun n hn h8 c hc => ?_⟩, ⟨e7, fun n hn => by rw [e8]; exact d2 n hn, fun n h1 h2 => by rw [e9 n h1 h2]; exact d3 n h1 h2, fun q c hc => by rw [(e16 q).2]; exact d4 (e16 q).1 c hc⟩, fun n hn => ?_⟩
  · rcases e10 c hc with q | q | ⟨n, q1, q2, q3⟩
    · rw [q]; exact b1 c hc
    · exact Or.inl q
    · exact Or.inr ⟨n, q1, q3⟩
  · rw [e8] at h8
    rcases e10 c hc with q | q | ⟨m, q1, q2, q3⟩
    · rw [q]; exact b2 n hn h8 c hc
    · rw [q]; exact fun z => n6 (by omega) z.symm
    · rw [q3]
      intro z
      have := (nI_eq (by omega) (by omega)).mp z
      subst this
      exact h8 q2
  · obtain ⟨L, l1, l2, l3, l4, l5⟩ := f n hn
    have hs : sga W n = sga V n := by
      funext i
      rw [sga, sga, e4]
    exact ⟨L, l1, l2, by rw [e5]; exact l3, fun i hi => by rw [e4]; exact l4 i hi, by rw [e6, hs]; exact l5⟩
theorem CI.place {V : CV} {N n c : Nat} (h : CI V N) (hn : n < N) (h8 : V 8 n = 0) : CI (placeS V n c) N := by
  have p0 : ∀ r, r ≠ 10 → r ≠ 13 → r ≠ 14 → r ≠ 9 → r ≠ 11 → placeS V n c r = V r := fun r h1 h2 h3 h4 h5 => place_row h1 h2 h3 h4 h5
  refine h.go (by rw [p0 0 (by decide) (by decide) (by decide) (by decide) (by decide)]) (by rw [p0 0 (by decide) (by decide) (by decide) (by decide) (by decide)]; exact h.1.2.2) (p0 1 (by decide) (by decide) (by decide) (by decide) (by decide)) (p0 4 (by decide) (by decide) (by decide) (by decide) (by decide)) (p0 5 (by decide) (by decide) (by decide) (by decide) (by decide)) (p0 6 (by decide) (by decide) (by decide) (by decide) (by decide)) (fun m hm => by rw [p0 7 (by decide) (by decide) (by decide) (by decide) (by decide)]; exact h.2.2.2.1.1 m hm) (p0 8 (by decide) (by decide) (by decide) (by decide) (by decide)) (fun m h1 h2 => by rw [pl_9, if_neg (by omega)]) (fun d hd => ?_) (fun q => ⟨by rw [p0 0 (by decide) (by decide) (by decide) (by decide) (by decide)] at q; exact q, p0 16 (by decide) (by decide) (by decide) (by decide) (by decide)⟩)
  rw [pl_10]
  by_cases q : d = c
  · rw [if_pos q]; exact Or.inr (Or.inr ⟨n, hn, h8, rfl⟩)
  · rw [if_neg q]; exact Or.inl rfl
theorem CI.row {V W : CV} {N : Nat} (h : CI V N) (e0 : W 0 2 = V 0 2) (em : W 0 14 = V 0 14) (er : ∀ r, r ≠ 0 → r ≠ 11 → r ≠ 12 → r ≠ 13 → r ≠ 14 → W r = V r) : CI W N :=
  h.go e0 (by rw [em]; exact h.1.2.2) (er 1 (by decide) (by decide) (by decide) (by decide) (by decide)) (er 4 (by decide) (by decide) (by decide) (by decide) (by decide)) (er 5 (by decide) (by decide) (by decide) (by decide) (by decide)) (er 6 (by decide) (by decide) (by decide) (by decide) (by decide)) (fun m hm => by rw [er 7 (by decide) (by decide) (by decide) (by decide) (by decide)]; exact h.2.2.2.1.1 m hm) (er 8 (by decide) (by decide) (by decide) (by decide) (by decide)) (fun m h1 h2 => by rw [er 9 (by decide) (by decide) (by decide) (by decide) (by decide)]) (fun d hd => Or.inl (by rw [er 10 (by decide) (by decide) (by decide) (by decide) (by decide)])) (fun q => ⟨em ▸ q, er 16 (by decide) (by decide) (by decide) (by decide) (by decide)⟩)
theorem CI.suk {V : CV} {N : Nat} (h : CI V N) (k : Nat) : CI (su V k) N :=
  h.row (by rw [su_row (by decide) (by decide)]) (by rw [su_row (by decide) (by decide)]) (fun r h0 h1 h2 h3 h4 => su_row h1 h2 k)
theorem wh_0 {V : CV} {n : Nat} (h : wh V n = 0) : V 8 n = 0 := by
  by_cases q : V 8 n = 0
  · exact q
  · rw [wh, if_neg q] at h
    exact absurd h (by decide)
theorem CI.gqk {V : CV} {a N : Nat} (h : CI V N) : CI (gq V a N) N := by
  rw [gq]
  split
  · exact h
  · rename_i q
    rcases pkN_is V a N h.1.2.1 with ⟨e, -⟩ | ⟨hc, -⟩
    · exact absurd e q
    · exact h.place hc.1 (wh_0 hc.2.1)
theorem CI.dayk {V : CV} {a N P : Nat} (h : CI V N) : CI (day V a N P) N := by
  have h1 := (h.gqk (a := a)).suk P
  rw [day]
  exact h1.row (by rw [us_i, if_neg (by decide)]) (by rw [us_i, if_neg (by decide)]) (fun r h0 _ _ _ _ => us_n h0)
theorem CI.daysk {V : CV} {a N P : Nat} (h : CI V N) : ∀ k, CI (days V a N P k) N
  | 0 => h
  | k + 1 => (CI.daysk h k).dayk
theorem dr_row {V : CV} {n r : Nat} (h : r ≠ 10) : ∀ k, dr V n k r = V r
  | 0 => rfl
  | k + 1 => by
    rw [dr]; split
    · rw [us_n h, dr_row h k]
    · exact dr_row h k
theorem us_us {V : CV} {k k1 j j1 : Nat} {v v1 : Int32} (h : k ≠ k1) : us (us V k j v) k1 j1 v1 = us (us V k1 j1 v1) k j v := by
  funext r s
  by_cases q : r = k
  · subst q
    rw [us_n h, us_i, us_i, us_n h]
  · rw [us_n q]
    by_cases q2 : r = k1
    · subst q2
      rw [us_i, us_i, us_n q]
    · rw [us_n q2, us_n q2, us_n q]
theorem dr_us {V : CV} {n m : Nat} {v : Int32} : ∀ k, dr (us V 8 m v) n k = us (dr V n k) 8 m v
  | 0 => rfl
  | k + 1 => by
    rw [dr, dr, dr_us k, us_n (show 10 ≠ 8 by decide)]
    split
    · exact us_us (by decide)
    · rfl
theorem okS_n {k : Nat} {v : Int32} (hk : k < 4) : (lo4 k ≤ v ∧ v ≤ hi4 k) ↔ okS (nI k) v := by
  have e : (nI k).toNatClampNeg = k := ix_n (by omega)
  constructor
  · intro q
    exact ⟨nI_pos' (by omega), nI_lt hk (by decide), by rw [e]; exact q.1, by rw [e]; exact q.2⟩
  · intro q
    have q1 := q.2.2.1
    have q2 := q.2.2.2
    rw [e] at q1 q2
    exact ⟨q1, q2⟩
/-! a text -/
def sgF (f : Nat → Int32) (st i : Nat) : Int32 := sgn (f (st + i))
theorem sdS_cong {g g' : Nat → Int32} : ∀ n, (∀ i, i < n → g i = g' i) → sdP g n = sdP g' n ∧ sdS g n = sdS g' n
  | 0, _ => ⟨rfl, rfl⟩
  | n + 1, h => by
    have ih := sdS_cong n (fun i hi => h i (by omega))
    have hn := h n (by omega)
    refine ⟨by rw [sdP, sdP, hn, ih.1], ?_⟩
    rw [sdS, sdS]
    by_cases q : hrd g n
    · rw [if_pos q, if_pos (by have q1 := q; unfold hrd at q1; rw [hn, ih.1] at q1; exact q1), ih.2, hn]
    · rw [if_neg q, if_neg (by intro q1; apply q; unfold hrd; rw [hn, ih.1]; exact q1), ih.2]
theorem apS_row {V : CV} {f : Nat → Int32} {n s L r : Nat} {h : Int32} (h0 : r ≠ 0) (h4 : r ≠ 4) (h5 : r ≠ 5) (h6 : r ≠ 6) (h7 : r ≠ 7) (h8 : r ≠ 8) (h9 : r ≠ 9) : apS V f n s L h r = V r := by
  rw [apS, us_n h0, us_n h6, us_n h9, us_n h8, us_n h7, us_n h5, uc_n h4]
theorem apS_0 {V : CV} {f : Nat → Int32} {n s L j : Nat} {h : Int32} (hj : j ≠ 2) : apS V f n s L h 0 j = V 0 j := by
  rw [apS, us_i, if_neg hj, us_n (by decide), us_n (by decide), us_n (by decide), us_n (by decide), us_n (by decide), uc_n (by decide)]
theorem apS_9 {V : CV} {f : Nat → Int32} {n s L m : Nat} {h : Int32} : apS V f n s L h 9 m = if m = n then nI 0 else V 9 m := by
  rw [apS, us_n (by decide), us_n (by decide), us_i, us_n (by decide), us_n (by decide), us_n (by decide), uc_n (by decide)]
theorem apS_8 {V : CV} {f : Nat → Int32} {n s L m : Nat} {h : Int32} : apS V f n s L h 8 m = if m = n then nI 0 else V 8 m := by
  rw [apS, us_n (by decide), us_n (by decide), us_n (by decide), us_i, us_n (by decide), us_n (by decide), uc_n (by decide)]
theorem apS_7 {V : CV} {f : Nat → Int32} {n s L m : Nat} {h : Int32} : apS V f n s L h 7 m = if m = n then h else V 7 m := by
  rw [apS, us_n (by decide), us_n (by decide), us_n (by decide), us_n (by decide), us_i, us_n (by decide), uc_n (by decide)]
theorem apS_5 {V : CV} {f : Nat → Int32} {n s L m : Nat} {h : Int32} : apS V f n s L h 5 m = if m = n then nI L else V 5 m := by
  rw [apS, us_n (by decide), us_n (by decide), us_n (by decide), us_n (by decide), us_n (by decide), us_i, uc_n (by decide)]
theorem apS_4 {V : CV} {f : Nat → Int32} {n s L : Nat} {h : Int32} : apS V f n s L h 4 = va_cpy f (V 4) s (n * 9) L := by
  rw [apS, us_n (by decide), us_n (by decide), us_n (by decide), us_n (by decide), us_n (by decide), us_n (by decide), uc_s]
theorem apS_6 {V : CV} {f : Nat → Int32} {n s L m : Nat} {h : Int32} : apS V f n s L h 6 m = if m = n then sdS (sgF f s) L else V 6 m := by
  rw [apS, us_n (by decide), us_i, us_n (by decide), us_n (by decide), us_n (by decide), us_n (by decide), uc_n (by decide)]
  by_cases q : m = n
  · rw [if_pos q, if_pos q]
    refine (sdS_cong L (fun i hi => ?_)).2
    rw [sga, us_n (by decide), us_n (by decide), us_n (by decide), us_n (by decide), uc_s, pk_cpy_in (by omega) (by omega), sgF]
    congr 2
    omega
  · rw [if_neg q, if_neg q]
/-! two sounds: letter by letter, and by their numbers -/
def dv : List Nat → Nat
  | [] => 0
  | d :: t => dv t * 10 + d
theorem dv_lt : ∀ r : List Nat, (∀ d, d ∈ r → 1 ≤ d ∧ d ≤ 9) → dv r < 10 ^ r.length
  | [], _ => by decide
  | d :: t, h => by
    have ih := dv_lt t (fun x hx => h x (List.mem_cons_of_mem _ hx))
    have hd := h d (List.mem_cons_self ..)
    rw [dv, List.length_cons, Nat.pow_succ]
    omega
theorem dv_inj : ∀ r q : List Nat, (∀ d, d ∈ r → 1 ≤ d ∧ d ≤ 9) → (∀ d, d ∈ q → 1 ≤ d ∧ d ≤ 9) → dv r = dv q → r = q
  | [], [], _, _, _ => rfl
  | [], d :: t, _, h, e => by
    have := h d (List.mem_cons_self ..)
    rw [dv, dv] at e
    omega
  | d :: t, [], h, _, e => by
    have := h d (List.mem_cons_self ..)
    rw [dv, dv] at e
    omega
  | d :: t, d2 :: t2, h, h2, e => by
    have a := h d (List.mem_cons_self ..)
    have b := h2 d2 (List.mem_cons_self ..)
    rw [dv, dv] at e
    have e1 : d = d2 := by omega
    have e2 : dv t = dv t2 := by omega
    rw [e1, dv_inj t t2 (fun x hx => h x (List.mem_cons_of_mem _ hx)) (fun x hx => h2 x (List.mem_cons_of_mem _ hx)) e2]
theorem sdS_hls (g : Nat → Int32) : ∀ k, sdS g k = (hls g k).foldl (fun a x => a * nI 10 + x) 0
  | 0 => rfl
  | k + 1 => by
    rw [sdS, hls]
    by_cases q : hrd g k
    · rw [if_pos q, if_pos q, List.foldl_append, ← sdS_hls g k]
      rfl
    · rw [if_neg q, if_neg q, sdS_hls g k]
theorem hls_dv {g : Nat → Int32} : ∀ k, (∀ i, i < k → ∃ d, d ≤ 9 ∧ g i = nI d) → ∃ r : List Nat, hls g k = (r.map nI).reverse ∧ (∀ d, d ∈ r → 1 ≤ d ∧ d ≤ 9) ∧ r.length ≤ k ∧ sdS g k = nI (dv r)
  | 0, _ => ⟨[], rfl, (fun d h => by cases h), Nat.le_refl _, rfl⟩
  | k + 1, h => by
    obtain ⟨r, h1, h2, h3, h4⟩ := hls_dv k (fun i hi => h i (by omega))
    rw [hls, sdS]
    by_cases q : hrd g k
    · obtain ⟨d, hd, e⟩ := h k (by omega)
      have hd1 : 1 ≤ d := by
        rcases Nat.eq_zero_or_pos d with z | z
        · rw [z] at e
          exact absurd e q.1
        · exact z
      refine ⟨d :: r, ?_, ?_, ?_, ?_⟩
      · rw [if_pos q, h1, e, List.map_cons, List.reverse_cons]
      · intro x hx
        rcases List.mem_cons.mp hx with z | z
        · rw [z]; exact ⟨hd1, hd⟩
        · exact h2 x z
      · rw [List.length_cons]; omega
      · rw [if_pos q, h4, e, dv, pk_mul, nI_add]
    · exact ⟨r, by rw [if_neg q]; exact h1, h2, by omega, by rw [if_neg q]; exact h4⟩
theorem sgn_r {x : Int32} (hx : isL x) : ∃ d, d ≤ 9 ∧ sgn x = nI d := by
  obtain ⟨q, q1, q2, rfl⟩ := rng_n hx.1 hx.2 (by decide) (by decide)
  have h : ∀ q, q < 123 → 97 ≤ q → (sgn (nI q)).toNatClampNeg ≤ 9 ∧ sgn (nI q) = nI (sgn (nI q)).toNatClampNeg := by decide +kernel
  have := h q (by omega) q1
  exact ⟨_, this.1, this.2⟩
theorem hal_of {V : CV} {N : Nat} (hci : CI V N) : ∀ n1 n2 L1 L2, n1 < N → n2 < N → L1 ≤ 9 → L2 ≤ 9 → V 5 n1 = nI L1 → V 5 n2 = nI L2 → V 6 n1 = sdS (sga V n1) L1 → V 6 n2 = sdS (sga V n2) L2 → (hls (sga V n1) L1 = hls (sga V n2) L2 ↔ V 6 n1 = V 6 n2) := by
  intro n1 n2 L1 L2 h1 h2 hL1 hL2 e1 e2 s1 s2
  have rg : ∀ n L, n < N → L ≤ 9 → V 5 n = nI L → ∀ i, i < L → ∃ d, d ≤ 9 ∧ sga V n i = nI d := by
    intro n L hn hL e i hi
    obtain ⟨L', l1, l2, l3, l4, -⟩ := hci.2.2.2.2 n hn
    have : L = L' := (nI_eq (by omega) (by omega)).mp (e.symm.trans l3)
    exact sgn_r (l4 i (by omega))
  obtain ⟨r1, a1, a2, a3, a4⟩ := hls_dv L1 (rg n1 L1 h1 hL1 e1)
  obtain ⟨r2, b1, b2, b3, b4⟩ := hls_dv L2 (rg n2 L2 h2 hL2 e2)
  constructor
  · intro h
    rw [s1, s2, sdS_hls, sdS_hls, h]
  · intro h
    rw [s1, s2, a4, b4] at h
    have q1 := dv_lt r1 a2
    have q2 := dv_lt r2 b2
    have p1 : 10 ^ r1.length ≤ 10 ^ 9 := Nat.pow_le_pow_right (by decide) (by omega)
    have p2 : 10 ^ r2.length ≤ 10 ^ 9 := Nat.pow_le_pow_right (by decide) (by omega)
    have := (nI_eq (by omega) (by omega)).mp h
    rw [a1, b1, dv_inj r1 r2 a2 b2 this]
/-! what always holds of a court, after each change -/
theorem CI.set {V : CV} {N : Nat} {s v : Int32} (h : CI V N) (ho : okS s v) : CI (Nset V s v) N := by
  obtain ⟨⟨a1, a2, a3⟩, ⟨⟨a, ha, hb⟩, P, hP, hQ⟩, b, d, f⟩ := h
  obtain ⟨k, hk, rfl⟩ := in_n ho.1 ho.2.1 (by decide)
  have hv := (okS_n hk).mpr ho
  have e : (nI k).toNatClampNeg = k := ix_n (by omega)
  have er : ∀ r, r ≠ 1 → Nset V (nI k) v r = V r := fun r hr => us_n hr
  have e1 : ∀ j, Nset V (nI k) v 1 j = if j = k then v else V 1 j := fun j => by rw [Nset, us_i, e]
  refine ⟨by rw [er 0 (by decide)]; exact ⟨a1, a2, a3⟩, ⟨?_, ?_⟩, by rw [er 10 (by decide), er 8 (by decide)]; exact b, by rw [er 7 (by decide), er 8 (by decide), er 9 (by decide), er 0 (by decide), er 16 (by decide)]; exact d, fun n hn => ?_⟩
  · rw [e1]
    by_cases q : 0 = k
    · rw [if_pos q]
      subst q
      obtain ⟨j, _, j2, rfl⟩ := rng_n (a := 0) (b := 11) hv.1 hv.2 (by decide) (by decide)
      exact ⟨j, j2, rfl⟩
    · rw [if_neg q]; exact ⟨a, ha, hb⟩
  · rw [e1]
    by_cases q : 2 = k
    · rw [if_pos q]
      subst q
      obtain ⟨j, _, j2, rfl⟩ := rng_n (a := 0) (b := 9) hv.1 hv.2 (by decide) (by decide)
      exact ⟨j, j2, rfl⟩
    · rw [if_neg q]; exact ⟨P, hP, hQ⟩
  · have := f n hn
    unfold sga at this ⊢
    rw [er 4 (by decide), er 5 (by decide), er 6 (by decide)]
    exact this
theorem CI.hon {V : CV} {N : Nat} {x v : Int32} (h : CI V N) (ho : Ehon V x v) : CI (Nhon V x v) N := by
  obtain ⟨n, hn, rfl⟩ := hasN_n h.1.1 h.1.2.1 ho.1
  have e : (nI n).toNatClampNeg = n := ix_n (by have := h.1.2.1; omega)
  have er : ∀ r, r ≠ 7 → Nhon V (nI n) v r = V r := fun r hr => us_n hr
  obtain ⟨j, _, j2, rfl⟩ := rng_n (a := 0) (b := 9) ho.2.1 ho.2.2 (by decide) (by decide)
  refine h.go (by rw [er 0 (by decide)]) (by rw [er 0 (by decide)]; exact h.1.2.2) (er 1 (by decide)) (er 4 (by decide)) (er 5 (by decide)) (er 6 (by decide)) (fun m hm => ?_) (er 8 (by decide)) (fun m _ _ => by rw [er 9 (by decide)]) (fun c _ => Or.inl (by rw [er 10 (by decide)])) (fun q => ⟨by rw [er 0 (by decide)] at q; exact q, er 16 (by decide)⟩)
  rw [Nhon, us_i, e]
  by_cases q : m = n
  · rw [if_pos q]; exact ⟨j, j2, rfl⟩
  · rw [if_neg q]; exact h.2.2.2.1.1 m hm
theorem dr_10 {V : CV} {n : Nat} : ∀ k c, (dr V n k 10 c = V 10 c ∨ dr V n k 10 c = -6) ∧ (c < k → n < 100 → dr V n k 10 c ≠ nI n)
  | 0, c => ⟨Or.inl rfl, fun h _ => absurd h (Nat.not_lt_zero _)⟩
  | k + 1, c => by
    have ih := dr_10 (V := V) (n := n) k c
    rw [dr]
    split
    · rename_i hb
      rw [us_i]
      by_cases q : c = k
      · rw [if_pos q]; exact ⟨Or.inr rfl, fun _ hn z => n6 (by omega) z.symm⟩
      · rw [if_neg q]; exact ⟨ih.1, fun hc hn => ih.2 (by omega) hn⟩
    · rename_i hb
      refine ⟨ih.1, fun hc hn => ?_⟩
      rcases Nat.lt_or_ge c k with q | q
      · exact ih.2 q hn
      · rw [show c = k by omega]; exact hb
theorem CI.wit {V : CV} {N : Nat} {x : Int32} (h : CI V N) (ho : Ewit V x) : CI (Nwit V x) N := by
  obtain ⟨n, hn, rfl⟩ := hasN_n h.1.1 h.1.2.1 ho.1
  have h20 := h.1.2.1
  have e : (nI n).toNatClampNeg = n := ix_n (by omega)
  have er : ∀ r, r ≠ 10 → dr V n 12 r = V r := fun r hr => dr_row hr 12
  have h1 : CI (dr V n 12) N := h.go (by rw [er 0 (by decide)]) (by rw [er 0 (by decide)]; exact h.1.2.2) (er 1 (by decide)) (er 4 (by decide)) (er 5 (by decide)) (er 6 (by decide)) (fun m hm => by rw [er 7 (by decide)]; exact h.2.2.2.1.1 m hm) (er 8 (by decide)) (fun m _ _ => by rw [er 9 (by decide)]) (fun c _ => (dr_10 12 c).1.elim Or.inl (fun q => Or.inr (Or.inl q))) (fun q => ⟨by rw [er 0 (by decide)] at q; exact q, er 16 (by decide)⟩)
  obtain ⟨a, b, ⟨c1, c2⟩, ⟨d1, d2, d3, d4⟩, f⟩ := h1
  rw [Nwit, e, dr_us]
  have es : ∀ r, r ≠ 8 → us (dr V n 12) 8 n (nI 1) r = dr V n 12 r := fun r hr => us_n hr
  refine ⟨by rw [es 0 (by decide)]; exact a, by rw [es 1 (by decide)]; exact b, ⟨by rw [es 10 (by decide)]; exact c1, fun m hm h8 c hc => ?_⟩, ⟨by rw [es 7 (by decide)]; exact d1, fun m hm => ?_, by rw [es 9 (by decide)]; exact d3, by rw [es 0 (by decide), es 16 (by decide)]; exact d4⟩, fun m hm => ?_⟩
  · rw [es 10 (by decide)]
    by_cases q : m = n
    · rw [q]; exact (dr_10 12 c).2 hc (by omega)
    · rw [us_i, if_neg q] at h8
      exact c2 m hm h8 c hc
  · rw [us_i]
    by_cases q : m = n
    · rw [if_pos q]; exact Or.inr rfl
    · rw [if_neg q]; exact d2 m hm
  · have := f m hm
    unfold sga at this ⊢
    rw [es 4 (by decide), es 5 (by decide), es 6 (by decide)]
    exact this
theorem CI.giv {V : CV} {N a : Nat} {x c : Int32} (h : CI V N) (ho : Egiv V a x c) : CI (Ngiv V x c) N := by
  obtain ⟨n, hn, rfl⟩ := hasN_n h.1.1 h.1.2.1 ho.1.1
  have e : (nI n).toNatClampNeg = n := ix_n (by have := h.1.2.1; omega)
  have h2 := ho.2
  rw [e] at h2
  rw [Ngiv, e]
  refine h.place hn ?_
  by_cases q : V 8 n = 0
  · exact q
  · rw [rsn, rsnq, if_pos q] at h2
    exact absurd h2 (by decide)
theorem CI.str {V : CV} {N : Nat} {c : Int32} (h : CI V N) : CI (Nstr V c) N := by
  have er : ∀ r, r ≠ 10 → r ≠ 11 → Nstr V c r = V r := fun r h0 h1 => by rw [Nstr, us_n h1, us_n h0]
  refine h.go (by rw [er 0 (by decide) (by decide)]) (by rw [er 0 (by decide) (by decide)]; exact h.1.2.2) (er 1 (by decide) (by decide)) (er 4 (by decide) (by decide)) (er 5 (by decide) (by decide)) (er 6 (by decide) (by decide)) (fun m hm => by rw [er 7 (by decide) (by decide)]; exact h.2.2.2.1.1 m hm) (er 8 (by decide) (by decide)) (fun m _ _ => by rw [er 9 (by decide) (by decide)]) (fun d _ => ?_) (fun q => ⟨by rw [er 0 (by decide) (by decide)] at q; exact q, er 16 (by decide) (by decide)⟩)
  rw [Nstr, us_n (by decide), us_i]
  by_cases q : d = c.toNatClampNeg
  · rw [if_pos q]; exact Or.inr (Or.inl rfl)
  · rw [if_neg q]; exact Or.inl rfl
theorem CI.iss {V : CV} {N : Nat} (h : CI V N) : CI (dm V) N := by
  have er : ∀ r, r ≠ 0 → r ≠ 16 → dm V r = V r := fun r h0 h1 => by rw [dm, uc_n h1, us_n h0]
  have e0 : ∀ j, dm V 0 j = if j = 14 then nI 1 else V 0 j := fun j => by rw [dm, uc_n (by decide), us_i]
  exact h.go (by rw [e0, if_neg (by decide)]) (by rw [e0, if_pos rfl]; exact Or.inr rfl) (er 1 (by decide) (by decide)) (er 4 (by decide) (by decide)) (er 5 (by decide) (by decide)) (er 6 (by decide) (by decide)) (fun m hm => by rw [er 7 (by decide) (by decide)]; exact h.2.2.2.1.1 m hm) (er 8 (by decide) (by decide)) (fun m _ _ => by rw [er 9 (by decide) (by decide)]) (fun d _ => Or.inl (by rw [er 10 (by decide) (by decide)])) (fun q => by rw [e0, if_pos rfl] at q; exact absurd q (by decide))
theorem rst_let {f : Nat → Int32} : ∀ k, (∀ t, t < k → acc f t) → ∀ t, rst f k ≤ t → t < k → isL (f t)
  | 0, _, t, _, h => absurd h (Nat.not_lt_zero _)
  | k + 1, ha, t, h1, h2 => by
    rw [rst] at h1
    by_cases hD : isD (f k)
    · rw [if_pos hD] at h1; omega
    · rw [if_neg hD] at h1
      rcases Nat.lt_or_ge t k with q | q
      · exact rst_let k (fun t ht => ha t (by omega)) t h1 q
      · rw [show t = k by omega]
        rcases ha k (by omega) with z | z
        · exact z.1
        · exact absurd z.1 hD
theorem CI.ap {V : CV} {f : Nat → Int32} {n s L : Nat} {h : Int32} (hc : CI V n) (hn : n < 20) (hL2 : 2 ≤ L) (hL9 : L ≤ 9) (hl : ∀ i, i < L → isL (f (s + i))) (hh : ∃ d, d ≤ 9 ∧ h = nI d) : CI (apS V f n s L h) (n + 1) := by
  obtain ⟨⟨a1, a2, a3⟩, b, ⟨c1, c2⟩, ⟨d1, d2, d3, d4⟩, g⟩ := hc
  have po : ∀ r, r ≠ 0 → r ≠ 4 → r ≠ 5 → r ≠ 6 → r ≠ 7 → r ≠ 8 → r ≠ 9 → apS V f n s L h r = V r := fun r h0 h4 h5 h6 h7 h8 h9 => apS_row h0 h4 h5 h6 h7 h8 h9
  have p10 := po 10 (by decide) (by decide) (by decide) (by decide) (by decide) (by decide) (by decide)
  refine ⟨⟨by rw [apS, us_s], by omega, by rw [apS_0 (by decide)]; exact a3⟩, by rw [po 1 (by decide) (by decide) (by decide) (by decide) (by decide) (by decide) (by decide)]; exact b, ⟨fun c hc => ?_, fun m hm h8 c hc => ?_⟩, ⟨fun m hm => ?_, fun m hm => ?_, fun m h1 h2 => ?_, by rw [apS_0 (by decide), po 16 (by decide) (by decide) (by decide) (by decide) (by decide) (by decide) (by decide)]; exact d4⟩, fun m hm => ?_⟩
  · rw [p10]
    rcases c1 c hc with q | ⟨m, q1, q2⟩
    · exact Or.inl q
    · exact Or.inr ⟨m, by omega, q2⟩
  · rw [p10]
    rw [apS_8] at h8
    by_cases q : m = n
    · rw [if_pos q] at h8; exact absurd rfl h8
    · rw [if_neg q] at h8
      exact c2 m (by omega) h8 c hc
  · rw [apS_7]
    by_cases q : m = n
    · rw [if_pos q]; exact hh
    · rw [if_neg q]; exact d1 m (by omega)
  · rw [apS_8]
    by_cases q : m = n
    · rw [if_pos q]; exact Or.inl rfl
    · rw [if_neg q]; exact d2 m (by omega)
  · rw [apS_9, if_neg (by omega)]; exact d3 m h1 (by omega)
  · by_cases q : m = n
    · subst q
      have e4 : ∀ i, i < L → apS V f m s L h 4 (m * 9 + i) = f (s + i) := fun i hi => by
        rw [apS_4, pk_cpy_in (by omega) (by omega)]
        congr 1
        omega
      refine ⟨L, hL2, hL9, by rw [apS_5, if_pos rfl], fun i hi => by rw [e4 i hi]; exact hl i hi, ?_⟩
      rw [apS_6, if_pos rfl]
      refine (sdS_cong L (fun i hi => ?_)).2
      rw [sga, e4 i hi, sgF]
    · obtain ⟨L', l1, l2, l3, l4, l5⟩ := g m (by omega)
      have e4 : ∀ i, i < L' → apS V f n s L h 4 (m * 9 + i) = V 4 (m * 9 + i) := fun i hi => by
        rw [apS_4, va_cpy, if_neg (by omega)]
      refine ⟨L', l1, l2, by rw [apS_5, if_neg q]; exact l3, fun i hi => by rw [e4 i hi]; exact l4 i hi, ?_⟩
      rw [apS_6, if_neg q, l5]
      refine (sdS_cong L' (fun i hi => ?_)).2
      rw [sga, sga, e4 i hi]
theorem CI.rd {V : CV} {f : Nat → Int32} {N n : Nat} (h : CI V N) (ht : ∀ k, k < n → acc f k) (h20 : N + dgn f n ≤ 20) : ∀ k, k ≤ n → CI (rdW V f N k) (N + dgn f k)
  | 0, _ => h
  | k + 1, hk => by
    have ih := CI.rd h ht h20 k (by omega)
    have hm := dgn_mono f (i := k + 1) n hk
    rw [rdW]
    rw [dgn] at hm ⊢
    by_cases hD : isD (f k)
    · rw [if_pos hD] at hm
      rw [if_pos hD, if_pos hD]
      have hrl := rst_ltn (f := f) k (fun t ht2 => ht t (by omega))
      have h2 : 2 ≤ ltn f k := by
        rcases ht k (by omega) with z | z
        · exact absurd hD (isLD z.1)
        · exact z.2
      refine ih.ap (by omega) (by omega) (by omega) (fun i hi => rst_let k (fun t ht2 => ht t (by omega)) _ (by omega) (by omega)) ?_
      obtain ⟨q, q1, q2, e⟩ := rng_n hD.1 hD.2 (by decide) (by decide)
      exact ⟨q - 48, by omega, by rw [e, pk_sub q1]⟩
    · rw [if_neg hD, if_neg hD]; exact ih
