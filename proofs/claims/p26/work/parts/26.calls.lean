/-! the court's settings by number, and the next states -/
def aV (V : CV) : Nat := (V 1 0).toNatClampNeg
def pV (V : CV) : Nat := (V 1 2).toNatClampNeg
theorem CI.pv {V : CV} {N : Nat} (h : CI V N) : PD V (aV V) N (pV V) := by
  obtain ⟨a, P, hp⟩ := h.pd
  have ha : aV V = a := by rw [aV, hp.1, ix_n (by have := hp.2.1; omega)]
  have hP : pV V = P := by rw [pV, hp.2.2.2.2.1, ix_n (by have := hp.2.2.2.2.2.1; omega)]
  rw [ha, hP]; exact hp
def gNow (S : CS) (V : CV) : CS := ((V, S.1.2), S.2)
def gSet (S : CS) (s v : Int32) : CS := if okS s v then gNow S (Nset S.1.1 s v) else S
def gHon (S : CS) (x v : Int32) : CS := if Ehon S.1.1 x v then gNow S (Nhon S.1.1 x v) else S
def gWit (S : CS) (x : Int32) : CS := if Ewit S.1.1 x then gNow S (Nwit S.1.1 x) else S
def gGiv (S : CS) (x c : Int32) : CS := if Egiv S.1.1 (aV S.1.1) x c then gNow S (Ngiv S.1.1 x c) else S
def gStr (S : CS) (c : Int32) : CS := if Estr S.1.1 c then gNow S (Nstr S.1.1 c) else S
def gIss (S : CS) : CS := gNow S (dm S.1.1)
def gPas (S : CS) (d : Int32) : CS := if Epas S.1.1 d then gNow S (Npas S.1.1 (aV S.1.1) S.1.2 (pV S.1.1) d) else S
def sl2 (S : CS) (k : Nat) : CN := if k = 0 then S.2.1 else S.2.2.1
def gSav (S : CS) (k : Nat) : CS := (S.1, if k = 0 then S.1 else S.2.1, if k = 1 then S.1 else S.2.2.1, upd S.2.2.2.1 k (nI 1), S.2.2.2.2)
def gRes (S : CS) (k : Nat) : CS := if S.2.2.2.1 k = 0 then S else (sl2 S k, S.2)
def gPad (S : CS) (pl : Nat) (pd : Nat → Int32) : CS := (S.1, S.2.1, S.2.2.1, S.2.2.2.1, pl, pd)
def gPut (S : CS) (q : Nat) : CS := gPad S (S.2.2.2.2.1 + 1) (upd S.2.2.2.2.2 S.2.2.2.2.1 (nI q))
def gWip (S : CS) : CS := gPad S 0 S.2.2.2.2.2
def gRea (S : CS) : CS := if Erea S.1.2 S.2.2.2.2.2 S.2.2.2.2.1 then ((rdW S.1.1 S.2.2.2.2.2 S.1.2 S.2.2.2.2.1, S.1.2 + dgn S.2.2.2.2.2 S.2.2.2.2.1), S.2.1, S.2.2.1, S.2.2.2.1, 0, S.2.2.2.2.2) else S
/-! the calls -/
theorem q_name (l : Launch) (z : Nat → Nat) (S : CS) (x w : Int32) : QC l z yX1_name wsX1_name (rm 4 89) [.int x, .int w] S (Rnam S.1.1 S.1.2 x w) S := by
  intro D ad cs A μ hs
  have ho := hs.1
  obtain ⟨-, h, hc, hG⟩ := hs
  have hG' := hG
  rw [hG.eqb] at hG'
  have k := kX1_name l D ad cs A z μ S.1.1 h hc S.2.1.1 S.2.2.1.1 S.2.2.2.1 S.2.2.2.2.1 S.2.2.2.2.2 hG' S.1.2 ho.1 x w
  rw [← hG.eqb] at k
  exact ⟨_, k, fun r μ1 q => ⟨q.1, by rw [q.2]; exact ⟨ho, h, hc, hG⟩⟩⟩
theorem q_alike (l : Launch) (z : Nat → Nat) (S : CS) (x y w : Int32) : QC l z yX1_alike wsX1_alike (rm 4 96) [.int x, .int y, .int w] S (Rali S.1.1 x y w) S := by
  intro D ad cs A μ hs
  have ho := hs.1
  obtain ⟨-, h, hc, hG⟩ := hs
  have hG' := hG
  rw [hG.eqb] at hG'
  have k := kX1_alike l D ad cs A z μ S.1.1 h hc S.2.1.1 S.2.2.1.1 S.2.2.2.1 S.2.2.2.2.1 S.2.2.2.2.2 hG' S.1.2 ho.1 (hal_of ho.1) x y w
  rw [← hG.eqb] at k
  exact ⟨_, k, fun r μ1 q => ⟨q.1, by rw [q.2]; exact ⟨ho, h, hc, hG⟩⟩⟩
theorem q_corner (l : Launch) (z : Nat → Nat) (S : CS) (c w : Int32) : QC l z yX1_corner wsX1_corner (rm 1 20) [.int c, .int w] S (Rcor S.1.1 c w) S := by
  intro D ad cs A μ hs
  have ho := hs.1
  obtain ⟨-, h, hc, hG⟩ := hs
  have hG' := hG
  rw [hG.eqb] at hG'
  have k := kX1_corner l D ad cs A z μ S.1.1 h hc S.2.1.1 S.2.2.1.1 S.2.2.2.1 S.2.2.2.2.1 S.2.2.2.2.2 hG' S.1.2 ho.1 c w
  rw [← hG.eqb] at k
  exact ⟨_, k, fun r μ1 q => ⟨q.1, by rw [q.2]; exact ⟨ho, h, hc, hG⟩⟩⟩
theorem q_why (l : Launch) (z : Nat → Nat) (S : CS) (x c : Int32) : QC l z yX1_why wsX1_why (rm 4 91) [.int x, .int c] S (Rwhy S.1.1 (aV S.1.1) x c) S := by
  intro D ad cs A μ hs
  have ho := hs.1
  obtain ⟨-, h, hc, hG⟩ := hs
  have hG' := hG
  rw [hG.eqb] at hG'
  have k := kX1_why l D ad cs A z μ S.1.1 h hc S.2.1.1 S.2.2.1.1 S.2.2.2.1 S.2.2.2.2.1 S.2.2.2.2.2 hG' S.1.2 ho.1 (aV S.1.1) (pV S.1.1) ho.1.pv x c
  rw [← hG.eqb] at k
  exact ⟨_, k, fun r μ1 q => ⟨q.1, by rw [q.2]; exact ⟨ho, h, hc, hG⟩⟩⟩
theorem q_bestCorner (l : Launch) (z : Nat → Nat) (S : CS) (x : Int32) : QC l z yX1_bestCorner wsX1_bestCorner (rm 4 93) [.int x] S (Rbes S.1.1 (aV S.1.1) x) S := by
  intro D ad cs A μ hs
  have ho := hs.1
  obtain ⟨-, h, hc, hG⟩ := hs
  have hG' := hG
  rw [hG.eqb] at hG'
  have k := kX1_bestCorner l D ad cs A z μ S.1.1 h hc S.2.1.1 S.2.2.1.1 S.2.2.2.1 S.2.2.2.2.1 S.2.2.2.2.2 hG' S.1.2 ho.1 (aV S.1.1) (pV S.1.1) ho.1.pv x
  rw [← hG.eqb] at k
  exact ⟨_, k, fun r μ1 q => ⟨q.1, by rw [q.2]; exact ⟨ho, h, hc, hG⟩⟩⟩
theorem rcnt_h {V : CV} {N h h1 pl pl1 : Nat} {i : Nat} (hi : i < 13) : Rcnt V N h pl (nI i) = Rcnt V N h1 pl1 (nI i) := by
  rcases (show i = 0 ∨ i = 1 ∨ i = 2 ∨ i = 3 ∨ i = 4 ∨ i = 5 ∨ i = 6 ∨ i = 7 ∨ i = 8 ∨ i = 9 ∨ i = 10 ∨ i = 11 ∨ i = 12 by omega) with rfl | rfl | rfl | rfl | rfl | rfl | rfl | rfl | rfl | rfl | rfl | rfl | rfl <;> rfl
theorem q_count (l : Launch) (z : Nat → Nat) (S : CS) (i : Nat) (hi : i < 13) : QC l z yX1_count wsX1_count (rm 4 87) [.int (nI i)] S (Rcnt S.1.1 S.1.2 0 0 (nI i)) S := by
  intro D ad cs A μ hs
  have ho := hs.1
  obtain ⟨-, h, hc, hG⟩ := hs
  have hG' := hG
  rw [hG.eqb] at hG'
  have k := kX1_count l D ad cs A z μ S.1.1 h hc S.2.1.1 S.2.2.1.1 S.2.2.2.1 S.2.2.2.2.1 S.2.2.2.2.2 hG' S.1.2 ho.1 (nI i)
  rw [← hG.eqb] at k
  exact ⟨_, k, fun r μ1 q => ⟨q.1.trans (rcnt_h hi), by rw [q.2]; exact ⟨ho, h, hc, hG⟩⟩⟩
theorem q_untilBorne (l : Launch) (z : Nat → Nat) (S : CS) (x : Int32) : QC l z yX1_untilBorne wsX1_untilBorne (rm 6 139) [.int x] S (Rubo S.1.1 (aV S.1.1) S.1.2 (pV S.1.1) x) S := by
  intro D ad cs A μ hs
  have ho := hs.1
  obtain ⟨-, h, hc, hG⟩ := hs
  have hG' := hG
  rw [hG.eqb] at hG'
  have k := kX1_untilBorne l D ad cs A z μ S.1.1 h hc S.2.1.1 S.2.2.1.1 S.2.2.2.1 S.2.2.2.2.1 S.2.2.2.2.2 hG' S.1.2 ho.1 (aV S.1.1) (pV S.1.1) ho.1.pv x
  rw [← hG.eqb] at k
  exact ⟨_, k, fun r μ1 q => ⟨q.1, by obtain ⟨V1, e⟩ := q.2; rw [e]; exact ⟨ho, h, hc, hG.oth (Or.inl rfl)⟩⟩⟩
theorem q_untilPosted (l : Launch) (z : Nat → Nat) (S : CS)  : QC l z yX1_untilPosted wsX1_untilPosted (rm 6 139) [] S (utl (pof S.1.1 (aV S.1.1) S.1.2 (pV S.1.1))) S := by
  intro D ad cs A μ hs
  have ho := hs.1
  obtain ⟨-, h, hc, hG⟩ := hs
  have hG' := hG
  rw [hG.eqb] at hG'
  have k := kX1_untilPosted l D ad cs A z μ S.1.1 h hc S.2.1.1 S.2.2.1.1 S.2.2.2.1 S.2.2.2.2.1 S.2.2.2.2.2 hG' S.1.2 ho.1 (aV S.1.1) (pV S.1.1) ho.1.pv
  rw [← hG.eqb] at k
  exact ⟨_, k, fun r μ1 q => ⟨q.1, by obtain ⟨V1, e⟩ := q.2; rw [e]; exact ⟨ho, h, hc, hG.oth (Or.inl rfl)⟩⟩⟩
theorem q_ifPassed (l : Launch) (z : Nat → Nat) (S : CS) (d w : Int32) : QC l z yX1_ifPassed wsX1_ifPassed (rm 6 139) [.int d, .int w] S (Rifp S.1.1 (aV S.1.1) S.1.2 (pV S.1.1) d w) S := by
  intro D ad cs A μ hs
  have ho := hs.1
  obtain ⟨-, h, hc, hG⟩ := hs
  have hG' := hG
  rw [hG.eqb] at hG'
  have k := kX1_ifPassed l D ad cs A z μ S.1.1 h hc S.2.1.1 S.2.2.1.1 S.2.2.2.1 S.2.2.2.2.1 S.2.2.2.2.2 hG' S.1.2 ho.1 (aV S.1.1) (pV S.1.1) ho.1.pv d w
  rw [← hG.eqb] at k
  exact ⟨_, k, fun r μ1 q => ⟨q.1, by obtain ⟨V1, e⟩ := q.2; rw [e]; exact ⟨ho, h, hc, hG.oth (Or.inl rfl)⟩⟩⟩
theorem q_set (l : Launch) (z : Nat → Nat) (S : CS) (s v : Int32) : QC l z yX1_set wsX1_set (rm 4 103) [.int s, .int v] S (Rset S.1.1 s v) (gSet S s v) := by
  intro D ad cs A μ hs
  have ho := hs.1
  obtain ⟨-, h, hc, hG⟩ := hs
  have hG' := hG
  rw [hG.eqb] at hG'
  have k := kX1_set l D ad cs A z μ S.1.1 h hc S.2.1.1 S.2.2.1.1 S.2.2.2.1 S.2.2.2.2.1 S.2.2.2.2.2 hG' S.1.2 ho.1 s v
  rw [← hG.eqb] at k
  refine ⟨_, k, fun r μ1 q => ⟨q.1, ?_⟩⟩
  by_cases hE : okS s v
  · rw [show (gSet S s v) = gNow S _ from if_pos hE]
    exact ⟨⟨ho.1.set hE, ho.2⟩, _, _, (q.2.1 hE).1⟩
  · rw [show (gSet S s v) = S from if_neg hE, q.2.2 hE]
    exact ⟨ho, h, hc, hG⟩
theorem q_honour (l : Launch) (z : Nat → Nat) (S : CS) (x v : Int32) : QC l z yX1_honour wsX1_honour (rm 4 103) [.int x, .int v] S (Rhon S.1.1 x v) (gHon S x v) := by
  intro D ad cs A μ hs
  have ho := hs.1
  obtain ⟨-, h, hc, hG⟩ := hs
  have hG' := hG
  rw [hG.eqb] at hG'
  have k := kX1_honour l D ad cs A z μ S.1.1 h hc S.2.1.1 S.2.2.1.1 S.2.2.2.1 S.2.2.2.2.1 S.2.2.2.2.2 hG' S.1.2 ho.1 x v
  rw [← hG.eqb] at k
  refine ⟨_, k, fun r μ1 q => ⟨q.1, ?_⟩⟩
  by_cases hE : Ehon S.1.1 x v
  · rw [show (gHon S x v) = gNow S _ from if_pos hE]
    exact ⟨⟨ho.1.hon hE, ho.2⟩, _, _, (q.2.1 hE).1⟩
  · rw [show (gHon S x v) = S from if_neg hE, q.2.2 hE]
    exact ⟨ho, h, hc, hG⟩
theorem q_withdraw (l : Launch) (z : Nat → Nat) (S : CS) (x : Int32) : QC l z yX1_withdraw wsX1_withdraw (rm 4 103) [.int x] S (Rwit S.1.1 x) (gWit S x) := by
  intro D ad cs A μ hs
  have ho := hs.1
  obtain ⟨-, h, hc, hG⟩ := hs
  have hG' := hG
  rw [hG.eqb] at hG'
  have k := kX1_withdraw l D ad cs A z μ S.1.1 h hc S.2.1.1 S.2.2.1.1 S.2.2.2.1 S.2.2.2.2.1 S.2.2.2.2.2 hG' S.1.2 ho.1 x
  rw [← hG.eqb] at k
  refine ⟨_, k, fun r μ1 q => ⟨q.1, ?_⟩⟩
  by_cases hE : Ewit S.1.1 x
  · rw [show (gWit S x) = gNow S _ from if_pos hE]
    exact ⟨⟨ho.1.wit hE, ho.2⟩, _, _, (q.2.1 hE).1⟩
  · rw [show (gWit S x) = S from if_neg hE, q.2.2 hE]
    exact ⟨ho, h, hc, hG⟩
theorem q_give (l : Launch) (z : Nat → Nat) (S : CS) (x c : Int32) : QC l z yX1_give wsX1_give (rm 4 103) [.int x, .int c] S (Rgiv S.1.1 (aV S.1.1) x c) (gGiv S x c) := by
  intro D ad cs A μ hs
  have ho := hs.1
  obtain ⟨-, h, hc, hG⟩ := hs
  have hG' := hG
  rw [hG.eqb] at hG'
  have k := kX1_give l D ad cs A z μ S.1.1 h hc S.2.1.1 S.2.2.1.1 S.2.2.2.1 S.2.2.2.2.1 S.2.2.2.2.2 hG' S.1.2 ho.1 (aV S.1.1) (pV S.1.1) ho.1.pv x c
  rw [← hG.eqb] at k
  refine ⟨_, k, fun r μ1 q => ⟨q.1, ?_⟩⟩
  by_cases hE : Egiv S.1.1 (aV S.1.1) x c
  · rw [show (gGiv S x c) = gNow S _ from if_pos hE]
    exact ⟨⟨ho.1.giv hE, ho.2⟩, _, _, (q.2.1 hE).1⟩
  · rw [show (gGiv S x c) = S from if_neg hE, q.2.2 hE]
    exact ⟨ho, h, hc, hG⟩
theorem q_strip (l : Launch) (z : Nat → Nat) (S : CS) (c : Int32) : QC l z yX1_strip wsX1_strip (rm 4 103) [.int c] S (Rstr S.1.1 c) (gStr S c) := by
  intro D ad cs A μ hs
  have ho := hs.1
  obtain ⟨-, h, hc, hG⟩ := hs
  have hG' := hG
  rw [hG.eqb] at hG'
  have k := kX1_strip l D ad cs A z μ S.1.1 h hc S.2.1.1 S.2.2.1.1 S.2.2.2.1 S.2.2.2.2.1 S.2.2.2.2.2 hG' S.1.2 ho.1 c
  rw [← hG.eqb] at k
  refine ⟨_, k, fun r μ1 q => ⟨q.1, ?_⟩⟩
  by_cases hE : Estr S.1.1 c
  · rw [show (gStr S c) = gNow S _ from if_pos hE]
    exact ⟨⟨ho.1.str, ho.2⟩, _, _, (q.2.1 hE).1⟩
  · rw [show (gStr S c) = S from if_neg hE, q.2.2 hE]
    exact ⟨ho, h, hc, hG⟩
theorem q_pass (l : Launch) (z : Nat → Nat) (S : CS) (d : Int32) : QC l z yX1_pass wsX1_pass (rm 6 139) [.int d] S (Rpas S.1.1 (aV S.1.1) S.1.2 (pV S.1.1) d) (gPas S d) := by
  intro D ad cs A μ hs
  have ho := hs.1
  obtain ⟨-, h, hc, hG⟩ := hs
  have hG' := hG
  rw [hG.eqb] at hG'
  have k := kX1_pass l D ad cs A z μ S.1.1 h hc S.2.1.1 S.2.2.1.1 S.2.2.2.1 S.2.2.2.2.1 S.2.2.2.2.2 hG' S.1.2 ho.1 (aV S.1.1) (pV S.1.1) ho.1.pv d
  rw [← hG.eqb] at k
  refine ⟨_, k, fun r μ1 q => ⟨q.1, ?_⟩⟩
  by_cases hE : Epas S.1.1 d
  · rw [show (gPas S d) = gNow S _ from if_pos hE]
    exact ⟨⟨(by rw [Npas]; exact ho.1.daysk _), ho.2⟩, _, _, (q.2.1 hE).1⟩
  · rw [show (gPas S d) = S from if_neg hE, q.2.2 hE]
    exact ⟨ho, h, hc, hG⟩
theorem q_issue (l : Launch) (z : Nat → Nat) (S : CS)  : QC l z yX1_issue wsX1_issue (rm 4 103) [] S (wmS S.1.1) (gIss S) := by
  intro D ad cs A μ hs
  have ho := hs.1
  obtain ⟨-, h, hc, hG⟩ := hs
  have hG' := hG
  rw [hG.eqb] at hG'
  have k := kX1_issue l D ad cs A z μ S.1.1 h hc S.2.1.1 S.2.2.1.1 S.2.2.2.1 S.2.2.2.2.1 S.2.2.2.2.2 hG' S.1.2 ho.1
  rw [← hG.eqb] at k
  exact ⟨_, k, fun r μ1 q => ⟨q.1, ⟨⟨ho.1.iss, ho.2⟩, _, _, q.2.1⟩⟩⟩
theorem q_save (l : Launch) (z : Nat → Nat) (S : CS) (i : Nat) (hi : i < 2) : QC l z yX1_save wsX1_save (rm 3 81) [.int (nI i)] S (S.1.1 0 1) (gSav S i) := by
  intro D ad cs A μ hs
  have ho := hs.1
  obtain ⟨-, h, hc, hG⟩ := hs
  refine ⟨_, kX1_save l D ad cs A z μ S.1.1 h hc S.2.1.1 S.2.2.1.1 S.2.2.2.1 S.2.2.2.2.1 S.2.2.2.2.2 hG ho.1.1.2.2 (nI i), fun r μ1 q => ?_⟩
  rcases q with ⟨q, -, -⟩ | ⟨j, hj, ej, er, gg, -⟩
  · exact absurd ⟨nI_pos' (by omega), nI_lt hi (by decide)⟩ q
  · have e : i = j := (nI_eq (by omega) (by omega)).mp ej
    subst e
    rcases (show i = 0 ∨ i = 1 by omega) with rfl | rfl
    · exact ⟨er, ⟨ho.1, fun _ => ho.1, fun q => ho.2.2.1 q, ho.1.1.2.2, ho.2.2.2.2.1, ho.2.2.2.2.2⟩, h, hc, gg⟩
    · exact ⟨er, ⟨ho.1, fun q => ho.2.1 q, fun _ => ho.1, ho.2.2.2.1, ho.1.1.2.2, ho.2.2.2.2.2⟩, h, hc, gg⟩
theorem q_restore (l : Launch) (z : Nat → Nat) (S : CS) (i : Nat) (hi : i < 2) : QC l z yX1_restore wsX1_restore (rm 4 103) [.int (nI i)] S (if S.2.2.2.1 i = 0 then -5 else (sl2 S i).1 0 1) (gRes S i) := by
  intro D ad cs A μ hs
  have ho := hs.1
  obtain ⟨-, h, hc, hG⟩ := hs
  refine ⟨_, kX1_restore l D ad cs A z μ S.1.1 h hc S.2.1.1 S.2.2.1.1 S.2.2.2.1 S.2.2.2.2.1 S.2.2.2.2.2 hG ho.1.1.2.2 ho.2.2.2.1 ho.2.2.2.2.1 (nI i), fun r μ1 q => ?_⟩
  rcases q with ⟨q, -, -⟩ | ⟨j, hj, ej, q⟩
  · exact absurd ⟨nI_pos' (by omega), nI_lt hi (by decide)⟩ q
  · have e : i = j := (nI_eq (by omega) (by omega)).mp ej
    subst e
    rcases q with ⟨q1, q2, q3⟩ | ⟨q1, q2, gg, -⟩
    · rw [if_pos q1, gRes, if_pos q1, q3]
      exact ⟨q2, ho, h, hc, hG⟩
    · rw [if_neg q1, gRes, if_neg q1]
      rcases (show i = 0 ∨ i = 1 by omega) with rfl | rfl
      · exact ⟨q2, ⟨ho.2.1 q1, ho.2⟩, _, _, gg⟩
      · exact ⟨q2, ⟨ho.2.2.1 q1, ho.2⟩, _, _, gg⟩
theorem cd_ch : ∀ q, q < 127 → ∀ i, i < 8 → cdA (nI q).toInt64 i = if i = 0 then nI q else 0 := by decide +kernel
theorem cd_one {q : Nat} (h1 : 33 ≤ q) (h2 : q ≤ 126) : cdN (nI q).toInt64 1 := by
  refine ⟨by decide, fun i hi => ?_, fun i h hi => ?_⟩
  · unfold cdG
    rw [cd_ch q (by omega) i (by omega), if_pos (by omega)]
    exact ⟨(nI_leI (by omega) (by omega)).mpr h1, (nI_leI (by omega) (by omega)).mpr h2⟩
  · rw [cd_ch q (by omega) i hi, if_neg (by omega)]
theorem q_put (l : Launch) (z : Nat → Nat) (S : CS) (q : Nat) (h1 : 33 ≤ q) (h2 : q ≤ 126) (hp : S.2.2.2.2.1 + 1 ≤ 60) : QC l z yX1_put wsX1_put (rm 2 45) [.long (nI q).toInt64] S (nI (S.2.2.2.2.1 + 1)) (gPut S q) := by
  intro D ad cs A μ hs
  have ho := hs.1
  obtain ⟨-, h, hc, hG⟩ := hs
  have k := kX1_put l D ad cs A z μ (μ 10) S.2.2.2.2.1 hG.2.2.2.2.2.1 ho.2.2.2.2.2 (nI q).toInt64
  rw [mb_self] at k
  refine ⟨_, k, fun r μ1 e => ?_⟩
  obtain ⟨n, hn, e⟩ := e
  have e1 : n = 1 := by
    rcases Nat.eq_zero_or_pos n with y | y
    · exact absurd (cd_one h1 h2) (hn.2.2 y 1 (by decide))
    · exact cdN_inj (hn.2.1 y) (cd_one h1 h2)
  subst e1
  rcases e with ⟨y, -, -⟩ | ⟨-, y, -, -⟩ | ⟨-, -, er, em⟩
  · omega
  · omega
  · refine ⟨er, ⟨ho.1, ho.2.1, ho.2.2.1, ho.2.2.2.1, ho.2.2.2.2.1, hp⟩, h, hc, ?_⟩
    rw [em]
    have gg := hG.put (nI q).toInt64 1 1
    have e0 : ptx S.2.2.2.2.2 (nI q).toInt64 1 S.2.2.2.2.1 1 = upd S.2.2.2.2.2 S.2.2.2.2.1 (nI q) := by
      rw [ptx, ptx, Nat.add_zero, cd_ch q (by omega) _ (by decide), if_pos rfl]
    rw [e0] at gg
    exact gg
theorem q_wipe (l : Launch) (z : Nat → Nat) (S : CS)  : QC l z yX1_wipe wsX1_wipe (rm 0 0) [] S (nI S.2.2.2.2.1) (gWip S) := by
  intro D ad cs A μ hs
  have ho := hs.1
  obtain ⟨-, h, hc, hG⟩ := hs
  have k := kX1_wipe l D ad cs A z μ (μ 10) S.2.2.2.2.1 hG.2.2.2.2.2.1 ho.2.2.2.2.2
  rw [mb_self] at k
  refine ⟨_, k, fun r μ1 e => ⟨e.1, ⟨ho.1, ho.2.1, ho.2.2.1, ho.2.2.2.1, ho.2.2.2.2.1, Nat.zero_le _⟩, h, hc, ?_⟩⟩
  rw [e.2, ← ms_mb]
  exact hG.pad0
theorem q_read (l : Launch) (z : Nat → Nat) (S : CS)  : QC l z yX1_read wsX1_read (rm 4 103) [] S (Rrea S.1.2 S.2.2.2.2.2 S.2.2.2.2.1) (gRea S) := by
  intro D ad cs A μ hs
  have ho := hs.1
  obtain ⟨-, h, hc, hG⟩ := hs
  have hG' := hG
  rw [hG.eqb] at hG'
  have k := kX1_read l D ad cs A z μ S.1.1 h hc S.2.1.1 S.2.2.1.1 S.2.2.2.1 S.2.2.2.2.1 S.2.2.2.2.2 hG' S.1.2 ho.1 ho.2.2.2.2.2
  rw [← hG.eqb] at k
  refine ⟨_, k, fun r μ1 q => ⟨q.1, ?_⟩⟩
  by_cases hE : Erea S.1.2 S.2.2.2.2.2 S.2.2.2.2.1
  · rw [gRea, if_pos hE]
    exact ⟨⟨ho.1.rd (ft_ok ho.2.2.2.2.2 hE.1).1 hE.2 _ (Nat.le_refl _), ho.2.1, ho.2.2.1, ho.2.2.2.1, ho.2.2.2.2.1, Nat.zero_le _⟩, _, _, (q.2.1 hE).1⟩
  · rw [gRea, if_neg hE, q.2.2 hE]
    exact ⟨ho, h, hc, hG⟩
