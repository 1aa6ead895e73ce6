/-! changes of the model's row beside changes of the court -/
/-- a map is issued, the first i corners so far -/
def issM (M : CV) (i : Nat) : CV := uc M 1 (fun k => if k = 6 then nI 1 else if 309 ≤ k ∧ k < 309 + i then M 1 (k - 60) else M 1 k)
theorem Rw_set {V : CV} {N : Nat} {a : Nat → Int32} (hw : Rw V N a) {i : Nat} {v : Int32} (hi : i < 4) (hN : N ≤ 20) : Rw (us V 1 i v) N (upd a i v) := by
  have eo : ∀ j, j ≠ i → upd a (i) v j = a j := fun j hj => if_neg hj
  have po : ∀ r, r ≠ 1 → us V 1 i v r = V r := fun r hr => us_n hr
  refine ⟨⟨fun j hj => ?_, ?_, ?_, ?_, ?_, ?_⟩, fun m hm => ⟨?_, ?_, ?_, ?_, ?_⟩, fun d hd => ⟨?_, ?_, ?_, ?_, ?_, ?_⟩⟩
  · rw [us_i]
    by_cases q : j = i
    · rw [if_pos q, q]; exact if_pos rfl
    · rw [if_neg q, eo j q]; exact hw.st j hj
  · rw [eo _ (by omega), po 0 (by decide)]; exact hw.dy
  · rw [eo _ (by omega), po 0 (by decide)]; exact hw.nm
  · rw [eo _ (by omega), po 0 (by decide)]; exact hw.mp
  · rw [eo _ (by omega), po 12 (by decide)]; exact hw.su
  · rw [eo _ (by omega), po 9 (by decide)]; exact hw.gi
  · rw [eo _ (by omega), po 7 (by decide)]; exact hw.ho hm
  · rw [eo _ (by omega), po 8 (by decide)]; exact hw.wd hm
  · rw [eo _ (by omega), po 9 (by decide)]; exact hw.ti hm
  · rw [eo _ (by omega), po 5 (by decide)]; exact hw.le hm
  · rw [eo _ (by omega), po 6 (by decide)]; exact hw.sn hm
  · rw [eo _ (by omega), po 10 (by decide)]; exact hw.bo hd
  · rw [eo _ (by omega), po 11 (by decide)]; exact hw.ow hd
  · rw [eo _ (by omega), po 12 (by decide)]; exact hw.po hd
  · rw [eo _ (by omega), po 10 (by decide), po 13 (by decide)]; exact hw.da hd
  · rw [eo _ (by omega), po 14 (by decide)]; exact hw.go hd
  · rw [eo _ (by omega), po 0 (by decide), po 16 (by decide)]; exact hw.sh hd
theorem Rw_hon {V : CV} {N : Nat} {a : Nat → Int32} (hw : Rw V N a) {i : Nat} {v : Int32} (hi : i < N) (hN : N ≤ 20) : Rw (us V 7 i v) N (upd a (9 + 12 * i + 0) v) := by
  have eo : ∀ j, j ≠ 9 + 12 * i + 0 → upd a (9 + 12 * i + 0) v j = a j := fun j hj => if_neg hj
  have po : ∀ r, r ≠ 7 → us V 7 i v r = V r := fun r hr => us_n hr
  refine ⟨⟨fun j hj => ?_, ?_, ?_, ?_, ?_, ?_⟩, fun m hm => ⟨?_, ?_, ?_, ?_, ?_⟩, fun d hd => ⟨?_, ?_, ?_, ?_, ?_, ?_⟩⟩
  · rw [eo _ (by omega), po 1 (by decide)]; exact hw.st j hj
  · rw [eo _ (by omega), po 0 (by decide)]; exact hw.dy
  · rw [eo _ (by omega), po 0 (by decide)]; exact hw.nm
  · rw [eo _ (by omega), po 0 (by decide)]; exact hw.mp
  · rw [eo _ (by omega), po 12 (by decide)]; exact hw.su
  · rw [eo _ (by omega), po 9 (by decide)]; exact hw.gi
  · rw [us_i]
    by_cases q : m = i
    · rw [if_pos q, q]; exact if_pos rfl
    · rw [if_neg q, eo _ (by omega)]; exact hw.ho hm
  · rw [eo _ (by omega), po 8 (by decide)]; exact hw.wd hm
  · rw [eo _ (by omega), po 9 (by decide)]; exact hw.ti hm
  · rw [eo _ (by omega), po 5 (by decide)]; exact hw.le hm
  · rw [eo _ (by omega), po 6 (by decide)]; exact hw.sn hm
  · rw [eo _ (by omega), po 10 (by decide)]; exact hw.bo hd
  · rw [eo _ (by omega), po 11 (by decide)]; exact hw.ow hd
  · rw [eo _ (by omega), po 12 (by decide)]; exact hw.po hd
  · rw [eo _ (by omega), po 10 (by decide), po 13 (by decide)]; exact hw.da hd
  · rw [eo _ (by omega), po 14 (by decide)]; exact hw.go hd
  · rw [eo _ (by omega), po 0 (by decide), po 16 (by decide)]; exact hw.sh hd
theorem Rw_wd {V : CV} {N : Nat} {a : Nat → Int32} (hw : Rw V N a) {i : Nat} {v : Int32} (hi : i < N) (hN : N ≤ 20) : Rw (us V 8 i v) N (upd a (9 + 12 * i + 1) v) := by
  have eo : ∀ j, j ≠ 9 + 12 * i + 1 → upd a (9 + 12 * i + 1) v j = a j := fun j hj => if_neg hj
  have po : ∀ r, r ≠ 8 → us V 8 i v r = V r := fun r hr => us_n hr
  refine ⟨⟨fun j hj => ?_, ?_, ?_, ?_, ?_, ?_⟩, fun m hm => ⟨?_, ?_, ?_, ?_, ?_⟩, fun d hd => ⟨?_, ?_, ?_, ?_, ?_, ?_⟩⟩
  · rw [eo _ (by omega), po 1 (by decide)]; exact hw.st j hj
  · rw [eo _ (by omega), po 0 (by decide)]; exact hw.dy
  · rw [eo _ (by omega), po 0 (by decide)]; exact hw.nm
  · rw [eo _ (by omega), po 0 (by decide)]; exact hw.mp
  · rw [eo _ (by omega), po 12 (by decide)]; exact hw.su
  · rw [eo _ (by omega), po 9 (by decide)]; exact hw.gi
  · rw [eo _ (by omega), po 7 (by decide)]; exact hw.ho hm
  · rw [us_i]
    by_cases q : m = i
    · rw [if_pos q, q]; exact if_pos rfl
    · rw [if_neg q, eo _ (by omega)]; exact hw.wd hm
  · rw [eo _ (by omega), po 9 (by decide)]; exact hw.ti hm
  · rw [eo _ (by omega), po 5 (by decide)]; exact hw.le hm
  · rw [eo _ (by omega), po 6 (by decide)]; exact hw.sn hm
  · rw [eo _ (by omega), po 10 (by decide)]; exact hw.bo hd
  · rw [eo _ (by omega), po 11 (by decide)]; exact hw.ow hd
  · rw [eo _ (by omega), po 12 (by decide)]; exact hw.po hd
  · rw [eo _ (by omega), po 10 (by decide), po 13 (by decide)]; exact hw.da hd
  · rw [eo _ (by omega), po 14 (by decide)]; exact hw.go hd
  · rw [eo _ (by omega), po 0 (by decide), po 16 (by decide)]; exact hw.sh hd
theorem Rw_own {V : CV} {N : Nat} {a : Nat → Int32} (hw : Rw V N a) {i : Nat} {v : Int32} (hi : i < 12) (hN : N ≤ 20) : Rw (us V 11 i v) N (upd a (261 + i) v) := by
  have eo : ∀ j, j ≠ 261 + i → upd a (261 + i) v j = a j := fun j hj => if_neg hj
  have po : ∀ r, r ≠ 11 → us V 11 i v r = V r := fun r hr => us_n hr
  refine ⟨⟨fun j hj => ?_, ?_, ?_, ?_, ?_, ?_⟩, fun m hm => ⟨?_, ?_, ?_, ?_, ?_⟩, fun d hd => ⟨?_, ?_, ?_, ?_, ?_, ?_⟩⟩
  · rw [eo _ (by omega), po 1 (by decide)]; exact hw.st j hj
  · rw [eo _ (by omega), po 0 (by decide)]; exact hw.dy
  · rw [eo _ (by omega), po 0 (by decide)]; exact hw.nm
  · rw [eo _ (by omega), po 0 (by decide)]; exact hw.mp
  · rw [eo _ (by omega), po 12 (by decide)]; exact hw.su
  · rw [eo _ (by omega), po 9 (by decide)]; exact hw.gi
  · rw [eo _ (by omega), po 7 (by decide)]; exact hw.ho hm
  · rw [eo _ (by omega), po 8 (by decide)]; exact hw.wd hm
  · rw [eo _ (by omega), po 9 (by decide)]; exact hw.ti hm
  · rw [eo _ (by omega), po 5 (by decide)]; exact hw.le hm
  · rw [eo _ (by omega), po 6 (by decide)]; exact hw.sn hm
  · rw [eo _ (by omega), po 10 (by decide)]; exact hw.bo hd
  · rw [us_i]
    by_cases q : d = i
    · rw [if_pos q, q]; exact if_pos rfl
    · rw [if_neg q, eo _ (by omega)]; exact hw.ow hd
  · rw [eo _ (by omega), po 12 (by decide)]; exact hw.po hd
  · rw [eo _ (by omega), po 10 (by decide), po 13 (by decide)]; exact hw.da hd
  · rw [eo _ (by omega), po 14 (by decide)]; exact hw.go hd
  · rw [eo _ (by omega), po 0 (by decide), po 16 (by decide)]; exact hw.sh hd
theorem Rw_bare {V : CV} {N : Nat} {a : Nat → Int32} (hw : Rw V N a) {i : Nat} (hi : i < 12) (hN : N ≤ 20) : Rw (us V 10 i (-6)) N (upd (upd a (249 + i) (-6)) (285 + i) (-6)) := by
  have eo : ∀ j, (j ≠ 249 + i ∧ j ≠ 285 + i) → upd (upd a (249 + i) (-6)) (285 + i) (-6) j = a j := fun j hj => (if_neg hj.2).trans (if_neg hj.1)
  have po : ∀ r, r ≠ 10 → us V 10 i (-6) r = V r := fun r hr => us_n hr
  have e1 : upd (upd a (249 + i) (-6)) (285 + i) (-6) (249 + i) = -6 := (if_neg (by omega)).trans (if_pos rfl)
  have e2 : upd (upd a (249 + i) (-6)) (285 + i) (-6) (285 + i) = -6 := if_pos rfl
  refine ⟨⟨fun j hj => ?_, ?_, ?_, ?_, ?_, ?_⟩, fun m hm => ⟨?_, ?_, ?_, ?_, ?_⟩, fun d hd => ⟨?_, ?_, ?_, ?_, ?_, ?_⟩⟩
  · rw [eo _ (by omega), po 1 (by decide)]; exact hw.st j hj
  · rw [eo _ (by omega), po 0 (by decide)]; exact hw.dy
  · rw [eo _ (by omega), po 0 (by decide)]; exact hw.nm
  · rw [eo _ (by omega), po 0 (by decide)]; exact hw.mp
  · rw [eo _ (by omega), po 12 (by decide)]; exact hw.su
  · rw [eo _ (by omega), po 9 (by decide)]; exact hw.gi
  · rw [eo _ (by omega), po 7 (by decide)]; exact hw.ho hm
  · rw [eo _ (by omega), po 8 (by decide)]; exact hw.wd hm
  · rw [eo _ (by omega), po 9 (by decide)]; exact hw.ti hm
  · rw [eo _ (by omega), po 5 (by decide)]; exact hw.le hm
  · rw [eo _ (by omega), po 6 (by decide)]; exact hw.sn hm
  · rw [us_i]
    by_cases q : d = i
    · rw [if_pos q, q]; exact e1
    · rw [if_neg q, eo _ (by omega)]; exact hw.bo hd
  · rw [eo _ (by omega), po 11 (by decide)]; exact hw.ow hd
  · rw [eo _ (by omega), po 12 (by decide)]; exact hw.po hd
  · rw [us_i, po 13 (by decide)]
    by_cases q : d = i
    · rw [if_pos q, if_pos rfl, q]; exact e2
    · rw [if_neg q, eo _ (by omega)]; exact hw.da hd
  · rw [eo _ (by omega), po 14 (by decide)]; exact hw.go hd
  · rw [eo _ (by omega), po 0 (by decide), po 16 (by decide)]; exact hw.sh hd
theorem Rw_iss {V M : CV} {N : Nat} (hw : Rw V N (M 1)) (hN : N ≤ 20) : Rw (dm V) N (issM M 12 1) := by
  have eo : ∀ j, (j ≠ 6 ∧ ¬ (309 ≤ j ∧ j < 321)) → issM M 12 1 j = M 1 j := fun j hj => by rw [issM, uc_s, if_neg hj.1, if_neg hj.2]
  have po : ∀ r, (r ≠ 0 ∧ r ≠ 16) → dm V r = V r := fun r hr => by rw [dm, uc_n hr.2, us_n hr.1]
  have p0 : ∀ j, j ≠ 14 → dm V 0 j = V 0 j := fun j hj => by rw [dm, uc_n (by decide), us_i, if_neg hj]
  refine ⟨⟨fun j hj => ?_, ?_, ?_, ?_, ?_, ?_⟩, fun m hm => ⟨?_, ?_, ?_, ?_, ?_⟩, fun d hd => ⟨?_, ?_, ?_, ?_, ?_, ?_⟩⟩
  · rw [eo _ (by omega), po 1 (by decide)]; exact hw.st j hj
  · rw [eo _ (by omega), p0 1 (by decide)]; exact hw.dy
  · rw [eo _ (by omega), p0 2 (by decide)]; exact hw.nm
  · rw [issM, uc_s, if_pos rfl, dm, uc_n (by decide), us_s]
  · rw [eo _ (by omega), po 12 (by decide)]; exact hw.su
  · rw [eo _ (by omega), po 9 (by decide)]; exact hw.gi
  · rw [eo _ (by omega), po 7 (by decide)]; exact hw.ho hm
  · rw [eo _ (by omega), po 8 (by decide)]; exact hw.wd hm
  · rw [eo _ (by omega), po 9 (by decide)]; exact hw.ti hm
  · rw [eo _ (by omega), po 5 (by decide)]; exact hw.le hm
  · rw [eo _ (by omega), po 6 (by decide)]; exact hw.sn hm
  · rw [eo _ (by omega), po 10 (by decide)]; exact hw.bo hd
  · rw [eo _ (by omega), po 11 (by decide)]; exact hw.ow hd
  · rw [eo _ (by omega), po 12 (by decide)]; exact hw.po hd
  · rw [eo _ (by omega), po 10 (by decide), po 13 (by decide)]; exact hw.da hd
  · rw [eo _ (by omega), po 14 (by decide)]; exact hw.go hd
  · rw [issM, uc_s, if_neg (by omega), if_pos (by omega), show 309 + d - 60 = 249 + d by omega, hw.bo hd, dm, uc_n (by decide), us_s, if_neg (by decide), uc_s, pk_cpy_in (Nat.zero_le _) (by omega), us_n (by decide), Nat.zero_add, Nat.sub_zero]
/-! the model's whole state -/
def recN (nh : Nat → Nat) (h N : Nat) (j : Nat) : Nat := if h < 6 then (if j = h then N else nh j) else (if j = 5 then N else nh (j + 1))
/-- the model holds the class's state -/
def RM (M V : CV) (N h : Nat) (hc : Nat → CV) (nh : Nat → Nat) (s0 s1 : CV) (n0 n1 : Nat) (u : Nat → Int32) (pl : Nat) (pd : Nat → Int32) : Prop :=
  (Rw V N (M 1) ∧ N ≤ 20) ∧ (M 0 3 = nI h ∧ h ≤ 6 ∧ ∀ j, j < h → nh j ≤ 20 ∧ Rw (hc j) (nh j) (fun k => M 3 (322 * j + k))) ∧
  ((M 6 0 = u 0 ∧ M 6 1 = u 1 ∧ n0 ≤ 20 ∧ n1 ≤ 20) ∧ (u 0 ≠ 0 → Rw s0 n0 (fun k => M 5 (322 * 0 + k))) ∧ (u 1 ≠ 0 → Rw s1 n1 (fun k => M 5 (322 * 1 + k)))) ∧
  (M 0 7 = nI pl ∧ pl ≤ 60 ∧ M 7 = pd)
/-- the state came into the history -/
def CH (M M1 : CV) (h : Nat) : Prop := M1 1 = M 1 ∧ (∀ k, k ≠ 0 → k ≠ 3 → M1 k = M k) ∧ (∀ j, j ≠ 3 → M1 0 j = M 0 j) ∧ M1 0 3 = nI (rech h) ∧ ∀ j, j < rech h → ∀ k, k < 322 → M1 3 (322 * j + k) = if h < 6 then (if j = h then M 1 k else M 3 (322 * j + k)) else (if j = 5 then M 1 k else M 3 (322 * (j + 1) + k))
theorem RM.now {M M1 V V1 : CV} {N N1 h : Nat} {hc : Nat → CV} {nh : Nat → Nat} {s0 s1 : CV} {n0 n1 : Nat} {u : Nat → Int32} {pl : Nat} {pd : Nat → Int32} (q : RM M V N h hc nh s0 s1 n0 n1 u pl pd) (hw : Rw V1 N1 (M1 1)) (hN : N1 ≤ 20) (hk : ∀ k, k ≠ 1 → M1 k = M k) : RM M1 V1 N1 h hc nh s0 s1 n0 n1 u pl pd := by
  unfold RM
  rw [hk 0 (by decide), hk 3 (by decide), hk 6 (by decide), hk 5 (by decide), hk 7 (by decide)]
  exact ⟨⟨hw, hN⟩, q.2⟩
/-- the row of what was kept, and the reader's own rows, don't count -/
theorem RM.oth {M M1 V : CV} {N h : Nat} {hc : Nat → CV} {nh : Nat → Nat} {s0 s1 : CV} {n0 n1 : Nat} {u : Nat → Int32} {pl : Nat} {pd : Nat → Int32} (q : RM M V N h hc nh s0 s1 n0 n1 u pl pd) (h1 : ∀ k, k < 322 → M1 1 k = M 1 k) (h0 : ∀ j, j ≠ 8 → j ≠ 12 → M1 0 j = M 0 j) (hk : ∀ k, k = 3 ∨ k = 5 ∨ k = 6 ∨ k = 7 → M1 k = M k) : RM M1 V N h hc nh s0 s1 n0 n1 u pl pd := by
  obtain ⟨⟨a1, a2⟩, a3⟩ := q
  unfold RM
  rw [h0 3 (by decide) (by decide), h0 7 (by decide) (by decide), hk 3 (by decide), hk 5 (by decide), hk 6 (by decide), hk 7 (by decide)]
  exact ⟨⟨a1.cong a2 h1, a2⟩, a3⟩
theorem RM.chg {M M1 V : CV} {N h : Nat} {hc : Nat → CV} {nh : Nat → Nat} {s0 s1 : CV} {n0 n1 : Nat} {u : Nat → Int32} {pl : Nat} {pd : Nat → Int32} (q : RM M V N h hc nh s0 s1 n0 n1 u pl pd) (c : CH M M1 h) : RM M1 V N (rech h) (recH hc h V) (recN nh h N) s0 s1 n0 n1 u pl pd := by
  obtain ⟨⟨a1, a2⟩, ⟨b1, b2, b3⟩, d, e⟩ := q
  obtain ⟨c1, c2, c3, c4, c5⟩ := c
  have hr6 : rech h ≤ 6 := by rw [rech]; split <;> omega
  refine ⟨⟨by rw [c1]; exact a1, a2⟩, ⟨c4, hr6, fun j hj => ?_⟩, ?_, ?_⟩
  · by_cases h6 : h < 6
    · have hr : rech h = h + 1 := by rw [rech, if_pos h6]
      rw [recH, recN, if_pos h6, if_pos h6]
      by_cases jh : j = h
      · rw [if_pos jh, if_pos jh]
        exact ⟨a2, a1.cong a2 (fun k hk => by rw [c5 j hj k hk, if_pos h6, if_pos jh])⟩
      · rw [if_neg jh, if_neg jh]
        have := b3 j (by omega)
        exact ⟨this.1, this.2.cong this.1 (fun k hk => by rw [c5 j hj k hk, if_pos h6, if_neg jh])⟩
    · have hr : rech h = 6 := by rw [rech, if_neg h6]
      rw [recH, recN, if_neg h6, if_neg h6]
      by_cases jh : j = 5
      · rw [if_pos jh, if_pos jh]
        exact ⟨a2, a1.cong a2 (fun k hk => by rw [c5 j hj k hk, if_neg h6, if_pos jh])⟩
      · rw [if_neg jh, if_neg jh]
        have := b3 (j + 1) (by omega)
        exact ⟨this.1, this.2.cong this.1 (fun k hk => by rw [c5 j hj k hk, if_neg h6, if_neg jh])⟩
  · rw [c2 6 (by decide) (by decide), c2 5 (by decide) (by decide)]; exact d
  · rw [c2 7 (by decide) (by decide), c3 7 (by decide)]; exact e
/-- the history moved down, the first i places so far -/
def hsh (M : CV) (i : Nat) : CV := uc M 3 (fun k => if k < i then M 3 (k + 322) else M 3 k)
theorem uc_eta {M : CV} {k : Nat} {f : Nat → Int32} (h : ∀ j, f j = M k j) : uc M k f = M := by
  funext r j
  by_cases q : r = k
  · subst q; rw [uc_s]; exact h j
  · rw [uc_n q]
theorem uc_us {M : CV} {k i : Nat} {f g : Nat → Int32} {v : Int32} (h : ∀ j, g j = if j = i then v else f j) : us (uc M k f) k i v = uc M k g := by
  funext r j
  by_cases q : r = k
  · subst q; rw [us_i, uc_s, uc_s, h]
  · rw [us_n q, uc_n q, uc_n q]
theorem hsh_0 {M : CV} : hsh M 0 = M := uc_eta (fun j => if_neg (Nat.not_lt_zero _))
theorem hsh_s {M : CV} {i : Nat} : us (hsh M i) 3 i (hsh M i 3 (i + 322)) = hsh M (i + 1) := by
  have e : hsh M i 3 (i + 322) = M 3 (i + 322) := by rw [hsh, uc_s, if_neg (by omega)]
  rw [e]
  exact uc_us (fun j => by
    by_cases q : j = i
    · rw [if_pos q, if_pos (by omega), q]
    · rw [if_neg q]
      by_cases q2 : j < i
      · rw [if_pos q2, if_pos (by omega)]
      · rw [if_neg q2, if_neg (by omega)])
/-- the state copied into the history's place h, the first i numbers so far -/
def hcp (M : CV) (h i : Nat) : CV := uc M 3 (fun k => if 322 * h ≤ k ∧ k < 322 * h + i then M 1 (k - 322 * h) else M 3 k)
theorem hcp_0 {M : CV} {h : Nat} : hcp M h 0 = M := uc_eta (fun j => if_neg (by omega))
theorem hcp_s {M : CV} {h i : Nat} : us (hcp M h i) 3 (322 * h + i) (hcp M h i 1 i) = hcp M h (i + 1) := by
  have e : hcp M h i 1 i = M 1 i := by rw [hcp, uc_n (by decide)]
  rw [e]
  exact uc_us (fun j => by
    by_cases q : j = 322 * h + i
    · rw [if_pos q, if_pos (by omega), q, show 322 * h + i - 322 * h = i by omega]
    · rw [if_neg q]
      by_cases q2 : 322 * h ≤ j ∧ j < 322 * h + i
      · rw [if_pos q2, if_pos (by omega)]
      · rw [if_neg q2, if_neg (by omega)])
theorem ch_lt {M : CV} {h : Nat} (h6 : h < 6) : CH M (us (hcp M h 322) 0 3 (nI (h + 1))) h := by
  have hr : rech h = h + 1 := by rw [rech, if_pos h6]
  refine ⟨by rw [us_n (by decide), hcp, uc_n (by decide)], fun k k0 k3 => by rw [us_n k0, hcp, uc_n k3], fun j hj => by rw [us_i, if_neg hj, hcp, uc_n (by decide)], by rw [us_s, hr], fun j hj k hk => ?_⟩
  rw [us_n (by decide), hcp, uc_s, if_pos h6]
  by_cases jh : j = h
  · rw [if_pos (by subst jh; omega), if_pos jh, jh, show 322 * h + k - 322 * h = k by omega]
  · rw [if_neg (by omega), if_neg jh]
theorem ch_6 {M : CV} : CH M (us (hcp (us (hsh M 1610) 0 3 (nI 5)) 5 322) 0 3 (nI 6)) 6 := by
  have hr : rech 6 = 6 := by rw [rech, if_neg (by decide)]
  refine ⟨by rw [us_n (by decide), hcp, uc_n (by decide), us_n (by decide), hsh, uc_n (by decide)], fun k k0 k3 => by rw [us_n k0, hcp, uc_n k3, us_n k0, hsh, uc_n k3], fun j hj => by rw [us_i, if_neg hj, hcp, uc_n (by decide), us_i, if_neg hj, hsh, uc_n (by decide)], by rw [us_s, hr], fun j hj k hk => ?_⟩
  rw [hr] at hj
  rw [us_n (show 3 ≠ 0 by decide), hcp, uc_s, if_neg (show ¬ (6 : Nat) < 6 by decide)]
  by_cases jh : j = 5
  · rw [if_pos (by subst jh; omega), if_pos jh, jh, show 322 * 5 + k - 322 * 5 = k by omega, us_n (by decide), hsh, uc_n (by decide)]
  · rw [if_neg (by omega), if_neg jh, us_n (by decide), hsh, uc_s, if_pos (by omega), show 322 * j + k + 322 = 322 * (j + 1) + k by omega]
/-- one row copied over another, the first i numbers so far -/
def rcp (M : CV) (t s i : Nat) : CV := uc M t (fun k => if k < i then M s k else M t k)
theorem rcp_0 {M : CV} {t s : Nat} : rcp M t s 0 = M := uc_eta (fun j => if_neg (Nat.not_lt_zero _))
theorem rcp_s {M : CV} {t s i : Nat} (h : s ≠ t) : us (rcp M t s i) t i (rcp M t s i s i) = rcp M t s (i + 1) := by
  have e : rcp M t s i s i = M s i := by rw [rcp, uc_n h]
  rw [e]
  exact uc_us (fun j => by
    by_cases q : j = i
    · rw [if_pos q, if_pos (by omega), q]
    · rw [if_neg q]
      by_cases q2 : j < i
      · rw [if_pos q2, if_pos (by omega)]
      · rw [if_neg q2, if_neg (by omega)])
theorem issM_0 {M : CV} : us M 1 6 (nI 1) = issM M 0 := by
  have e : uc M 1 (M 1) = M := uc_eta (fun j => rfl)
  rw [← e]
  rw [uc_us (g := fun k => if k = 6 then nI 1 else if 309 ≤ k ∧ k < 309 + 0 then M 1 (k - 60) else M 1 k) (fun j => by
    by_cases q : j = 6
    · rw [if_pos q, if_pos q]
    · rw [if_neg q, if_neg q, if_neg (by omega)]), e, issM]
theorem issM_s {M : CV} {i : Nat} (hi : i < 12) : us (issM M i) 1 (309 + i) (issM M i 1 (249 + i)) = issM M (i + 1) := by
  have e : issM M i 1 (249 + i) = M 1 (249 + i) := by rw [issM, uc_s, if_neg (by omega), if_neg (by omega)]
  rw [e]
  exact uc_us (fun j => by
    by_cases q : j = 309 + i
    · rw [if_pos q, if_neg (by omega), if_pos (by omega), q, show 309 + i - 60 = 249 + i by omega]
    · rw [if_neg q]
      by_cases q1 : j = 6
      · rw [if_pos q1, if_pos q1]
      · rw [if_neg q1, if_neg q1]
        by_cases q2 : 309 ≤ j ∧ j < 309 + i
        · rw [if_pos q2, if_pos (by omega)]
        · rw [if_neg q2, if_neg (by omega)])
theorem us1 {M : CV} {i : Nat} {v : Int32} : us M 1 i v 1 = upd (M 1) i v := by
  funext j
  rw [us_i]
  rfl
theorem dr_row {V : CV} {n r : Nat} (h : r ≠ 10) : ∀ k, dr V n k r = V r
  | 0 => rfl
  | k + 1 => by
    rw [dr]; split
    · rw [us_n h, dr_row h k]
    · exact dr_row h k
theorem dr_at {V : CV} {n d : Nat} : ∀ k, k ≤ d → dr V n k 10 d = V 10 d
  | 0, _ => rfl
  | k + 1, h => by
    rw [dr]; split
    · rw [us_i, if_neg (by omega), dr_at k (by omega)]
    · exact dr_at k (by omega)
theorem us_us {V : CV} {k k1 j j1 : Nat} {v v1 : Int32} (h : k ≠ k1) : us (us V k j v) k1 j1 v1 = us (us V k1 j1 v1) k j v := by
  funext r s
  by_cases q : r = k
  · subst q
    rw [us_n h, us_i, us_i, us_n h]
  · rw [us_n q]
    by_cases q2 : r = k1
    · subst q2
      rw [us_i, us_i, us_n q]
    · rw [us_n q2, us_n q2, us_n q]
theorem dr_us {V : CV} {n m : Nat} {v : Int32} : ∀ k, dr (us V 8 m v) n k = us (dr V n k) 8 m v
  | 0 => rfl
  | k + 1 => by
    rw [dr, dr, dr_us k, us_n (show 10 ≠ 8 by decide)]
    split
    · exact us_us (by decide)
    · rfl
theorem sm_day {V : CV} {a N P : Nat} (hN : N ≤ 20) : sm (day V a N P 9) 20 = sm (V 9) 20 + nI (gqn V a N) := by
  rw [day, us_n (by decide), su_row (by decide) (by decide), gq, gqn]
  by_cases h : pkN V a N = 20
  · rw [if_pos h, if_pos h]
    show _ = sm (V 9) 20 + 0
    rw [Int32.add_zero]
  · rw [if_neg h, if_neg h]
    have := pkN_lt V a N
    exact sm_add1 (i := pkN V a N) (by rw [pl_9, if_pos rfl]) (fun k hk => by rw [pl_9, if_neg hk]) 20 (by omega)
theorem sm_days {V : CV} {a N P : Nat} (hN : N ≤ 20) : ∀ k, sm (days V a N P k 9) 20 = sm (V 9) 20 + nI (dayn V a N P k)
  | 0 => by
    show _ = sm (V 9) 20 + 0
    rw [Int32.add_zero]
    rfl
  | k + 1 => by rw [days, sm_day hN, sm_days hN k, dayn, ← nI_add, Int32.add_assoc]
theorem sub_add {x y : Int32} : x + y - x = y := by
  rw [Int32.sub_eq_add_neg, Int32.add_comm x y, Int32.add_assoc, Int32.add_right_neg, Int32.add_zero]
