/-! the next states, of courts without letters -/
def gNow (K : KS) (V : CV) : KS := ((V, K.1.2), K.2)
def gSet (K : KS) (s v : Int32) : KS := if okS s v then gNow K (Nset K.1.1 s v) else K
def gHon (K : KS) (x v : Int32) : KS := if Ehon K.1.1 x v then gNow K (Nhon K.1.1 x v) else K
def gWit (K : KS) (x : Int32) : KS := if Ewit K.1.1 x then gNow K (Nwit K.1.1 x) else K
def gGiv (K : KS) (x c : Int32) : KS := if Egiv K.1.1 (aV K.1.1) x c then gNow K (Ngiv K.1.1 x c) else K
def gStr (K : KS) (c : Int32) : KS := if Estr K.1.1 c then gNow K (Nstr K.1.1 c) else K
def gIss (K : KS) : KS := gNow K (dm K.1.1)
def gPas (K : KS) (d : Int32) : KS := if Epas K.1.1 d then gNow K (Npas K.1.1 (aV K.1.1) K.1.2 (pV K.1.1) d) else K
def sl2 (K : KS) (k : Nat) : CN := if k = 0 then K.2.1 else K.2.2.1
def gSav (K : KS) (k : Nat) : KS := (K.1, if k = 0 then K.1 else K.2.1, if k = 1 then K.1 else K.2.2.1, upd K.2.2.2 k (nI 1))
def gRes (K : KS) (k : Nat) : KS := if K.2.2.2 k = 0 then K else (sl2 K k, K.2)
def gPut (P : PS) (q : Nat) : PS := (P.1 + 1, upd P.2 P.1 (nI q))
def gRdK (K : KS) (P : PS) : KS := ((rz K.1.1 P.2 K.1.2 P.1, K.1.2 + dgn P.2 P.1), K.2)
theorem hasN_z {V : CV} {x : Int32} : hasN (zl V) x ↔ hasN V x := by rw [t_has]
theorem Ewit_z {V : CV} {x : Int32} : Ewit (zl V) x ↔ Ewit V x := by simp only [Ewit, t_has, z8]
theorem Ehon_z {V : CV} {x v : Int32} : Ehon (zl V) x v ↔ Ehon V x v := by simp only [Ehon, t_has]
theorem Egiv_z {V : CV} {x c : Int32} : Egiv (zl V) (aV (zl V)) x c ↔ Egiv V (aV V) x c := by simp only [Egiv, t_has, t_rsn, t_aV]
theorem Estr_z {V : CV} {c : Int32} : Estr (zl V) c ↔ Estr V c := by simp only [Estr, z10]
theorem Epas_z {V : CV} {d : Int32} : Epas (zl V) d ↔ Epas V d := by simp only [Epas, z0]
theorem okS_z {V : CV} {s v : Int32} : okS s v ↔ okS s v := Iff.rfl
/-! the calls -/
theorem q_name (l : Launch) (z : Nat → Nat) (K : KS) (P : PS) (x w : Int32) : QC l z yX1_name wsX1_name (rm 4 89) [.int x, .int w] (K, P) (Rnam K.1.1 K.1.2 x w) (K, P) := by
  intro D ad cs A μ hs
  have hs0 := hs
  obtain ⟨V, s0, s1, ⟨e1, e2, e3⟩, ho, h, hc, hG⟩ := hs0
  have e1 : K.1.1 = zl V := e1
  have e2 : K.2.1.1 = zl s0 := e2
  have e3 : K.2.2.1.1 = zl s1 := e3
  have ho : OKV V s0 s1 K P := ho
  have hG : GS μ V h hc s0 s1 K.2.2.2 P.1 P.2 := hG
  have hG' := hG
  rw [hG.eqb] at hG'
  have k := kX1_name l D ad cs A z μ V h hc s0 s1 K.2.2.2 P.1 P.2 hG' K.1.2 ho.1 x w
  rw [← hG.eqb] at k
  exact ⟨_, k, fun r μ1 q => ⟨q.1.trans (by rw [e1, t_Rnam]), by rw [q.2]; exact hs⟩⟩
theorem q_alike (l : Launch) (z : Nat → Nat) (K : KS) (P : PS) (x y w : Int32) : QC l z yX1_alike wsX1_alike (rm 4 96) [.int x, .int y, .int w] (K, P) (Rali K.1.1 x y w) (K, P) := by
  intro D ad cs A μ hs
  have hs0 := hs
  obtain ⟨V, s0, s1, ⟨e1, e2, e3⟩, ho, h, hc, hG⟩ := hs0
  have e1 : K.1.1 = zl V := e1
  have e2 : K.2.1.1 = zl s0 := e2
  have e3 : K.2.2.1.1 = zl s1 := e3
  have ho : OKV V s0 s1 K P := ho
  have hG : GS μ V h hc s0 s1 K.2.2.2 P.1 P.2 := hG
  have hG' := hG
  rw [hG.eqb] at hG'
  have k := kX1_alike l D ad cs A z μ V h hc s0 s1 K.2.2.2 P.1 P.2 hG' K.1.2 ho.1 (hal_of ho.1) x y w
  rw [← hG.eqb] at k
  exact ⟨_, k, fun r μ1 q => ⟨q.1.trans (by rw [e1, t_Rali]), by rw [q.2]; exact hs⟩⟩
theorem q_corner (l : Launch) (z : Nat → Nat) (K : KS) (P : PS) (c w : Int32) : QC l z yX1_corner wsX1_corner (rm 1 20) [.int c, .int w] (K, P) (Rcor K.1.1 c w) (K, P) := by
  intro D ad cs A μ hs
  have hs0 := hs
  obtain ⟨V, s0, s1, ⟨e1, e2, e3⟩, ho, h, hc, hG⟩ := hs0
  have e1 : K.1.1 = zl V := e1
  have e2 : K.2.1.1 = zl s0 := e2
  have e3 : K.2.2.1.1 = zl s1 := e3
  have ho : OKV V s0 s1 K P := ho
  have hG : GS μ V h hc s0 s1 K.2.2.2 P.1 P.2 := hG
  have hG' := hG
  rw [hG.eqb] at hG'
  have k := kX1_corner l D ad cs A z μ V h hc s0 s1 K.2.2.2 P.1 P.2 hG' K.1.2 ho.1 c w
  rw [← hG.eqb] at k
  exact ⟨_, k, fun r μ1 q => ⟨q.1.trans (by rw [e1, t_Rcor]), by rw [q.2]; exact hs⟩⟩
theorem q_why (l : Launch) (z : Nat → Nat) (K : KS) (P : PS) (x c : Int32) : QC l z yX1_why wsX1_why (rm 4 91) [.int x, .int c] (K, P) (Rwhy K.1.1 (aV K.1.1) x c) (K, P) := by
  intro D ad cs A μ hs
  have hs0 := hs
  obtain ⟨V, s0, s1, ⟨e1, e2, e3⟩, ho, h, hc, hG⟩ := hs0
  have e1 : K.1.1 = zl V := e1
  have e2 : K.2.1.1 = zl s0 := e2
  have e3 : K.2.2.1.1 = zl s1 := e3
  have ho : OKV V s0 s1 K P := ho
  have hG : GS μ V h hc s0 s1 K.2.2.2 P.1 P.2 := hG
  have hG' := hG
  rw [hG.eqb] at hG'
  have k := kX1_why l D ad cs A z μ V h hc s0 s1 K.2.2.2 P.1 P.2 hG' K.1.2 ho.1 (aV V) (pV V) ho.1.pv x c
  rw [← hG.eqb] at k
  exact ⟨_, k, fun r μ1 q => ⟨q.1.trans (by rw [e1, t_aV, t_Rwhy]), by rw [q.2]; exact hs⟩⟩
theorem q_bestCorner (l : Launch) (z : Nat → Nat) (K : KS) (P : PS) (x : Int32) : QC l z yX1_bestCorner wsX1_bestCorner (rm 4 93) [.int x] (K, P) (Rbes K.1.1 (aV K.1.1) x) (K, P) := by
  intro D ad cs A μ hs
  have hs0 := hs
  obtain ⟨V, s0, s1, ⟨e1, e2, e3⟩, ho, h, hc, hG⟩ := hs0
  have e1 : K.1.1 = zl V := e1
  have e2 : K.2.1.1 = zl s0 := e2
  have e3 : K.2.2.1.1 = zl s1 := e3
  have ho : OKV V s0 s1 K P := ho
  have hG : GS μ V h hc s0 s1 K.2.2.2 P.1 P.2 := hG
  have hG' := hG
  rw [hG.eqb] at hG'
  have k := kX1_bestCorner l D ad cs A z μ V h hc s0 s1 K.2.2.2 P.1 P.2 hG' K.1.2 ho.1 (aV V) (pV V) ho.1.pv x
  rw [← hG.eqb] at k
  exact ⟨_, k, fun r μ1 q => ⟨q.1.trans (by rw [e1, t_aV, t_Rbes]), by rw [q.2]; exact hs⟩⟩
theorem rcnt_h {V : CV} {N h h1 pl pl1 : Nat} {i : Nat} (hi : i < 13) : Rcnt V N h pl (nI i) = Rcnt V N h1 pl1 (nI i) := by
  rcases (show i = 0 ∨ i = 1 ∨ i = 2 ∨ i = 3 ∨ i = 4 ∨ i = 5 ∨ i = 6 ∨ i = 7 ∨ i = 8 ∨ i = 9 ∨ i = 10 ∨ i = 11 ∨ i = 12 by omega) with rfl | rfl | rfl | rfl | rfl | rfl | rfl | rfl | rfl | rfl | rfl | rfl | rfl <;> rfl
theorem q_count (l : Launch) (z : Nat → Nat) (K : KS) (P : PS) (i : Nat) (hi : i < 13) : QC l z yX1_count wsX1_count (rm 4 87) [.int (nI i)] (K, P) (Rcnt K.1.1 K.1.2 0 0 (nI i)) (K, P) := by
  intro D ad cs A μ hs
  have hs0 := hs
  obtain ⟨V, s0, s1, ⟨e1, e2, e3⟩, ho, h, hc, hG⟩ := hs0
  have e1 : K.1.1 = zl V := e1
  have e2 : K.2.1.1 = zl s0 := e2
  have e3 : K.2.2.1.1 = zl s1 := e3
  have ho : OKV V s0 s1 K P := ho
  have hG : GS μ V h hc s0 s1 K.2.2.2 P.1 P.2 := hG
  have hG' := hG
  rw [hG.eqb] at hG'
  have k := kX1_count l D ad cs A z μ V h hc s0 s1 K.2.2.2 P.1 P.2 hG' K.1.2 ho.1 (nI i)
  rw [← hG.eqb] at k
  exact ⟨_, k, fun r μ1 q => ⟨q.1.trans ((rcnt_h hi).trans (by rw [e1, t_Rcnt])), by rw [q.2]; exact hs⟩⟩
theorem q_untilBorne (l : Launch) (z : Nat → Nat) (K : KS) (P : PS) (x : Int32) : QC l z yX1_untilBorne wsX1_untilBorne (rm 6 139) [.int x] (K, P) (Rubo K.1.1 (aV K.1.1) K.1.2 (pV K.1.1) x) (K, P) := by
  intro D ad cs A μ hs
  have hs0 := hs
  obtain ⟨V, s0, s1, ⟨e1, e2, e3⟩, ho, h, hc, hG⟩ := hs0
  have e1 : K.1.1 = zl V := e1
  have e2 : K.2.1.1 = zl s0 := e2
  have e3 : K.2.2.1.1 = zl s1 := e3
  have ho : OKV V s0 s1 K P := ho
  have hG : GS μ V h hc s0 s1 K.2.2.2 P.1 P.2 := hG
  have hG' := hG
  rw [hG.eqb] at hG'
  have k := kX1_untilBorne l D ad cs A z μ V h hc s0 s1 K.2.2.2 P.1 P.2 hG' K.1.2 ho.1 (aV V) (pV V) ho.1.pv x
  rw [← hG.eqb] at k
  exact ⟨_, k, fun r μ1 q => ⟨q.1.trans (by rw [e1, t_aV, t_pV, t_Rubo]), by obtain ⟨V1, e⟩ := q.2; rw [e]; exact ⟨V, s0, s1, ⟨e1, e2, e3⟩, ho, h, hc, hG.oth (Or.inl rfl)⟩⟩⟩
theorem q_untilPosted (l : Launch) (z : Nat → Nat) (K : KS) (P : PS)  : QC l z yX1_untilPosted wsX1_untilPosted (rm 6 139) [] (K, P) (utl (pof K.1.1 (aV K.1.1) K.1.2 (pV K.1.1))) (K, P) := by
  intro D ad cs A μ hs
  have hs0 := hs
  obtain ⟨V, s0, s1, ⟨e1, e2, e3⟩, ho, h, hc, hG⟩ := hs0
  have e1 : K.1.1 = zl V := e1
  have e2 : K.2.1.1 = zl s0 := e2
  have e3 : K.2.2.1.1 = zl s1 := e3
  have ho : OKV V s0 s1 K P := ho
  have hG : GS μ V h hc s0 s1 K.2.2.2 P.1 P.2 := hG
  have hG' := hG
  rw [hG.eqb] at hG'
  have k := kX1_untilPosted l D ad cs A z μ V h hc s0 s1 K.2.2.2 P.1 P.2 hG' K.1.2 ho.1 (aV V) (pV V) ho.1.pv
  rw [← hG.eqb] at k
  exact ⟨_, k, fun r μ1 q => ⟨q.1.trans (by rw [e1, t_aV, t_pV, t_pof]), by obtain ⟨V1, e⟩ := q.2; rw [e]; exact ⟨V, s0, s1, ⟨e1, e2, e3⟩, ho, h, hc, hG.oth (Or.inl rfl)⟩⟩⟩
theorem q_ifPassed (l : Launch) (z : Nat → Nat) (K : KS) (P : PS) (d w : Int32) : QC l z yX1_ifPassed wsX1_ifPassed (rm 6 139) [.int d, .int w] (K, P) (Rifp K.1.1 (aV K.1.1) K.1.2 (pV K.1.1) d w) (K, P) := by
  intro D ad cs A μ hs
  have hs0 := hs
  obtain ⟨V, s0, s1, ⟨e1, e2, e3⟩, ho, h, hc, hG⟩ := hs0
  have e1 : K.1.1 = zl V := e1
  have e2 : K.2.1.1 = zl s0 := e2
  have e3 : K.2.2.1.1 = zl s1 := e3
  have ho : OKV V s0 s1 K P := ho
  have hG : GS μ V h hc s0 s1 K.2.2.2 P.1 P.2 := hG
  have hG' := hG
  rw [hG.eqb] at hG'
  have k := kX1_ifPassed l D ad cs A z μ V h hc s0 s1 K.2.2.2 P.1 P.2 hG' K.1.2 ho.1 (aV V) (pV V) ho.1.pv d w
  rw [← hG.eqb] at k
  exact ⟨_, k, fun r μ1 q => ⟨q.1.trans (by rw [e1, t_aV, t_pV, t_Rifp]), by obtain ⟨V1, e⟩ := q.2; rw [e]; exact ⟨V, s0, s1, ⟨e1, e2, e3⟩, ho, h, hc, hG.oth (Or.inl rfl)⟩⟩⟩
theorem q_set (l : Launch) (z : Nat → Nat) (K : KS) (P : PS) (s v : Int32) : QC l z yX1_set wsX1_set (rm 4 104) [.int s, .int v] (K, P) (Rset K.1.1 s v) (gSet K s v, P) := by
  intro D ad cs A μ hs
  have hs0 := hs
  obtain ⟨V, s0, s1, ⟨e1, e2, e3⟩, ho, h, hc, hG⟩ := hs0
  have e1 : K.1.1 = zl V := e1
  have e2 : K.2.1.1 = zl s0 := e2
  have e3 : K.2.2.1.1 = zl s1 := e3
  have ho : OKV V s0 s1 K P := ho
  have hG : GS μ V h hc s0 s1 K.2.2.2 P.1 P.2 := hG
  have hG' := hG
  rw [hG.eqb] at hG'
  have k := kX1_set l D ad cs A z μ V h hc s0 s1 K.2.2.2 P.1 P.2 hG' K.1.2 ho.1 s v
  rw [← hG.eqb] at k
  refine ⟨_, k, fun r μ1 q => ⟨q.1.trans (by rw [e1, t_Rset]), ?_⟩⟩
  by_cases hE : okS s v
  · have eN : Nset K.1.1 s v = zl _ := (by rw [e1]; exact t_Nset)
    rw [show gSet K s v = ((Nset K.1.1 s v, K.1.2), K.2) from if_pos (by (try rw [e1]); exact (okS_z (V := V)).mpr hE)]
    generalize Nset K.1.1 s v = W1 at eN ⊢
    exact ⟨_, s0, s1, ⟨eN, e2, e3⟩, ⟨ho.1.set hE, ho.2⟩, _, _, (q.2.1 hE).1⟩
  · rw [show gSet K s v = K from if_neg (by (try rw [e1]); exact fun y => hE ((okS_z (V := V)).mp y)), q.2.2 hE]
    exact hs
theorem q_honour (l : Launch) (z : Nat → Nat) (K : KS) (P : PS) (x v : Int32) : QC l z yX1_honour wsX1_honour (rm 4 104) [.int x, .int v] (K, P) (Rhon K.1.1 x v) (gHon K x v, P) := by
  intro D ad cs A μ hs
  have hs0 := hs
  obtain ⟨V, s0, s1, ⟨e1, e2, e3⟩, ho, h, hc, hG⟩ := hs0
  have e1 : K.1.1 = zl V := e1
  have e2 : K.2.1.1 = zl s0 := e2
  have e3 : K.2.2.1.1 = zl s1 := e3
  have ho : OKV V s0 s1 K P := ho
  have hG : GS μ V h hc s0 s1 K.2.2.2 P.1 P.2 := hG
  have hG' := hG
  rw [hG.eqb] at hG'
  have k := kX1_honour l D ad cs A z μ V h hc s0 s1 K.2.2.2 P.1 P.2 hG' K.1.2 ho.1 x v
  rw [← hG.eqb] at k
  refine ⟨_, k, fun r μ1 q => ⟨q.1.trans (by rw [e1, t_Rhon]), ?_⟩⟩
  by_cases hE : Ehon V x v
  · have eN : Nhon K.1.1 x v = zl _ := (by rw [e1]; exact t_Nhon)
    rw [show gHon K x v = ((Nhon K.1.1 x v, K.1.2), K.2) from if_pos (by (try rw [e1]); exact Ehon_z.mpr hE)]
    generalize Nhon K.1.1 x v = W1 at eN ⊢
    exact ⟨_, s0, s1, ⟨eN, e2, e3⟩, ⟨ho.1.hon hE, ho.2⟩, _, _, (q.2.1 hE).1⟩
  · rw [show gHon K x v = K from if_neg (by (try rw [e1]); exact fun y => hE (Ehon_z.mp y)), q.2.2 hE]
    exact hs
theorem q_withdraw (l : Launch) (z : Nat → Nat) (K : KS) (P : PS) (x : Int32) : QC l z yX1_withdraw wsX1_withdraw (rm 4 104) [.int x] (K, P) (Rwit K.1.1 x) (gWit K x, P) := by
  intro D ad cs A μ hs
  have hs0 := hs
  obtain ⟨V, s0, s1, ⟨e1, e2, e3⟩, ho, h, hc, hG⟩ := hs0
  have e1 : K.1.1 = zl V := e1
  have e2 : K.2.1.1 = zl s0 := e2
  have e3 : K.2.2.1.1 = zl s1 := e3
  have ho : OKV V s0 s1 K P := ho
  have hG : GS μ V h hc s0 s1 K.2.2.2 P.1 P.2 := hG
  have hG' := hG
  rw [hG.eqb] at hG'
  have k := kX1_withdraw l D ad cs A z μ V h hc s0 s1 K.2.2.2 P.1 P.2 hG' K.1.2 ho.1 x
  rw [← hG.eqb] at k
  refine ⟨_, k, fun r μ1 q => ⟨q.1.trans (by rw [e1, t_Rwit]), ?_⟩⟩
  by_cases hE : Ewit V x
  · have eN : Nwit K.1.1 x = zl _ := (by rw [e1]; exact t_Nwit)
    rw [show gWit K x = ((Nwit K.1.1 x, K.1.2), K.2) from if_pos (by (try rw [e1]); exact Ewit_z.mpr hE)]
    generalize Nwit K.1.1 x = W1 at eN ⊢
    exact ⟨_, s0, s1, ⟨eN, e2, e3⟩, ⟨ho.1.wit hE, ho.2⟩, _, _, (q.2.1 hE).1⟩
  · rw [show gWit K x = K from if_neg (by (try rw [e1]); exact fun y => hE (Ewit_z.mp y)), q.2.2 hE]
    exact hs
theorem q_give (l : Launch) (z : Nat → Nat) (K : KS) (P : PS) (x c : Int32) : QC l z yX1_give wsX1_give (rm 4 104) [.int x, .int c] (K, P) (Rgiv K.1.1 (aV K.1.1) x c) (gGiv K x c, P) := by
  intro D ad cs A μ hs
  have hs0 := hs
  obtain ⟨V, s0, s1, ⟨e1, e2, e3⟩, ho, h, hc, hG⟩ := hs0
  have e1 : K.1.1 = zl V := e1
  have e2 : K.2.1.1 = zl s0 := e2
  have e3 : K.2.2.1.1 = zl s1 := e3
  have ho : OKV V s0 s1 K P := ho
  have hG : GS μ V h hc s0 s1 K.2.2.2 P.1 P.2 := hG
  have hG' := hG
  rw [hG.eqb] at hG'
  have k := kX1_give l D ad cs A z μ V h hc s0 s1 K.2.2.2 P.1 P.2 hG' K.1.2 ho.1 (aV V) (pV V) ho.1.pv x c
  rw [← hG.eqb] at k
  refine ⟨_, k, fun r μ1 q => ⟨q.1.trans (by rw [e1, t_aV, t_Rgiv]), ?_⟩⟩
  by_cases hE : Egiv V (aV V) x c
  · have eN : Ngiv K.1.1 x c = zl _ := (by rw [e1]; exact t_Ngiv)
    rw [show gGiv K x c = ((Ngiv K.1.1 x c, K.1.2), K.2) from if_pos (by (try rw [e1]); exact Egiv_z.mpr hE)]
    generalize Ngiv K.1.1 x c = W1 at eN ⊢
    exact ⟨_, s0, s1, ⟨eN, e2, e3⟩, ⟨ho.1.giv hE, ho.2⟩, _, _, (q.2.1 hE).1⟩
  · rw [show gGiv K x c = K from if_neg (by (try rw [e1]); exact fun y => hE (Egiv_z.mp y)), q.2.2 hE]
    exact hs
theorem q_strip (l : Launch) (z : Nat → Nat) (K : KS) (P : PS) (c : Int32) : QC l z yX1_strip wsX1_strip (rm 4 104) [.int c] (K, P) (Rstr K.1.1 c) (gStr K c, P) := by
  intro D ad cs A μ hs
  have hs0 := hs
  obtain ⟨V, s0, s1, ⟨e1, e2, e3⟩, ho, h, hc, hG⟩ := hs0
  have e1 : K.1.1 = zl V := e1
  have e2 : K.2.1.1 = zl s0 := e2
  have e3 : K.2.2.1.1 = zl s1 := e3
  have ho : OKV V s0 s1 K P := ho
  have hG : GS μ V h hc s0 s1 K.2.2.2 P.1 P.2 := hG
  have hG' := hG
  rw [hG.eqb] at hG'
  have k := kX1_strip l D ad cs A z μ V h hc s0 s1 K.2.2.2 P.1 P.2 hG' K.1.2 ho.1 c
  rw [← hG.eqb] at k
  refine ⟨_, k, fun r μ1 q => ⟨q.1.trans (by rw [e1, t_Rstr]), ?_⟩⟩
  by_cases hE : Estr V c
  · have eN : Nstr K.1.1 c = zl _ := (by rw [e1]; exact t_Nstr)
    rw [show gStr K c = ((Nstr K.1.1 c, K.1.2), K.2) from if_pos (by (try rw [e1]); exact Estr_z.mpr hE)]
    generalize Nstr K.1.1 c = W1 at eN ⊢
    exact ⟨_, s0, s1, ⟨eN, e2, e3⟩, ⟨ho.1.str, ho.2⟩, _, _, (q.2.1 hE).1⟩
  · rw [show gStr K c = K from if_neg (by (try rw [e1]); exact fun y => hE (Estr_z.mp y)), q.2.2 hE]
    exact hs
theorem q_pass (l : Launch) (z : Nat → Nat) (K : KS) (P : PS) (d : Int32) : QC l z yX1_pass wsX1_pass (rm 6 139) [.int d] (K, P) (Rpas K.1.1 (aV K.1.1) K.1.2 (pV K.1.1) d) (gPas K d, P) := by
  intro D ad cs A μ hs
  have hs0 := hs
  obtain ⟨V, s0, s1, ⟨e1, e2, e3⟩, ho, h, hc, hG⟩ := hs0
  have e1 : K.1.1 = zl V := e1
  have e2 : K.2.1.1 = zl s0 := e2
  have e3 : K.2.2.1.1 = zl s1 := e3
  have ho : OKV V s0 s1 K P := ho
  have hG : GS μ V h hc s0 s1 K.2.2.2 P.1 P.2 := hG
  have hG' := hG
  rw [hG.eqb] at hG'
  have k := kX1_pass l D ad cs A z μ V h hc s0 s1 K.2.2.2 P.1 P.2 hG' K.1.2 ho.1 (aV V) (pV V) ho.1.pv d
  rw [← hG.eqb] at k
  refine ⟨_, k, fun r μ1 q => ⟨q.1.trans (by rw [e1, t_aV, t_pV, t_Rpas]), ?_⟩⟩
  by_cases hE : Epas V d
  · have eN : Npas K.1.1 (aV K.1.1) K.1.2 (pV K.1.1) d = zl _ := (by rw [e1]; exact (by rw [t_aV, t_pV]; exact t_Npas))
    rw [show gPas K d = ((Npas K.1.1 (aV K.1.1) K.1.2 (pV K.1.1) d, K.1.2), K.2) from if_pos (by (try rw [e1]); exact Epas_z.mpr hE)]
    generalize Npas K.1.1 (aV K.1.1) K.1.2 (pV K.1.1) d = W1 at eN ⊢
    exact ⟨_, s0, s1, ⟨eN, e2, e3⟩, ⟨(by rw [Npas]; exact ho.1.daysk _), ho.2⟩, _, _, (q.2.1 hE).1⟩
  · rw [show gPas K d = K from if_neg (by (try rw [e1]); exact fun y => hE (Epas_z.mp y)), q.2.2 hE]
    exact hs
theorem q_issue (l : Launch) (z : Nat → Nat) (K : KS) (P : PS)  : QC l z yX1_issue wsX1_issue (rm 4 104) [] (K, P) (wmS K.1.1) (gIss K, P) := by
  intro D ad cs A μ hs
  have hs0 := hs
  obtain ⟨V, s0, s1, ⟨e1, e2, e3⟩, ho, h, hc, hG⟩ := hs0
  have e1 : K.1.1 = zl V := e1
  have e2 : K.2.1.1 = zl s0 := e2
  have e3 : K.2.2.1.1 = zl s1 := e3
  have ho : OKV V s0 s1 K P := ho
  have hG : GS μ V h hc s0 s1 K.2.2.2 P.1 P.2 := hG
  have hG' := hG
  rw [hG.eqb] at hG'
  have k := kX1_issue l D ad cs A z μ V h hc s0 s1 K.2.2.2 P.1 P.2 hG' K.1.2 ho.1
  rw [← hG.eqb] at k
  have eN : dm K.1.1 = zl _ := (by rw [e1]; exact t_dm)
  exact ⟨_, k, fun r μ1 q => ⟨q.1.trans (by rw [e1, t_wmS]), ⟨_, s0, s1, ⟨eN, e2, e3⟩, ⟨ho.1.iss, ho.2⟩, _, _, q.2.1⟩⟩⟩
theorem q_save (l : Launch) (z : Nat → Nat) (K : KS) (P : PS) (i : Nat) (hi : i < 2) : QC l z yX1_save wsX1_save (rm 3 82) [.int (nI i)] (K, P) (K.1.1 0 1) (gSav K i, P) := by
  intro D ad cs A μ hs
  have hs0 := hs
  obtain ⟨V, s0, s1, ⟨e1, e2, e3⟩, ho, h, hc, hG⟩ := hs0
  have e1 : K.1.1 = zl V := e1
  have e2 : K.2.1.1 = zl s0 := e2
  have e3 : K.2.2.1.1 = zl s1 := e3
  have ho : OKV V s0 s1 K P := ho
  have hG : GS μ V h hc s0 s1 K.2.2.2 P.1 P.2 := hG
  refine ⟨_, kX1_save l D ad cs A z μ V h hc s0 s1 K.2.2.2 P.1 P.2 hG ho.1.1.2.2 (nI i), fun r μ1 q => ?_⟩
  have hr : V 0 1 = K.1.1 0 1 := by rw [e1, z0]
  rcases q with ⟨q, -, -⟩ | ⟨j, hj, ej, er, gg, -⟩
  · exact absurd ⟨nI_pos' (by omega), nI_lt hi (by decide)⟩ q
  · have e : i = j := (nI_eq (by omega) (by omega)).mp ej
    subst e
    rcases (show i = 0 ∨ i = 1 by omega) with rfl | rfl
    · exact ⟨er.trans hr, V, V, s1, ⟨e1, e1, e3⟩, ⟨ho.1, fun _ => ho.1, fun q => ho.2.2.1 q, ho.1.1.2.2, ho.2.2.2.2.1, ho.2.2.2.2.2⟩, h, hc, gg⟩
    · exact ⟨er.trans hr, V, s0, V, ⟨e1, e2, e1⟩, ⟨ho.1, fun q => ho.2.1 q, fun _ => ho.1, ho.2.2.2.1, ho.1.1.2.2, ho.2.2.2.2.2⟩, h, hc, gg⟩
theorem q_restore (l : Launch) (z : Nat → Nat) (K : KS) (P : PS) (i : Nat) (hi : i < 2) : QC l z yX1_restore wsX1_restore (rm 4 104) [.int (nI i)] (K, P) (if K.2.2.2 i = 0 then -5 else (sl2 K i).1 0 1) (gRes K i, P) := by
  intro D ad cs A μ hs
  have hs0 := hs
  obtain ⟨V, s0, s1, ⟨e1, e2, e3⟩, ho, h, hc, hG⟩ := hs0
  have e1 : K.1.1 = zl V := e1
  have e2 : K.2.1.1 = zl s0 := e2
  have e3 : K.2.2.1.1 = zl s1 := e3
  have ho : OKV V s0 s1 K P := ho
  have hG : GS μ V h hc s0 s1 K.2.2.2 P.1 P.2 := hG
  refine ⟨_, kX1_restore l D ad cs A z μ V h hc s0 s1 K.2.2.2 P.1 P.2 hG ho.1.1.2.2 ho.2.2.2.1 ho.2.2.2.2.1 (nI i), fun r μ1 q => ?_⟩
  rcases q with ⟨q, -, -⟩ | ⟨j, hj, ej, q⟩
  · exact absurd ⟨nI_pos' (by omega), nI_lt hi (by decide)⟩ q
  · have e : i = j := (nI_eq (by omega) (by omega)).mp ej
    subst e
    rcases q with ⟨q1, q2, q3⟩ | ⟨q1, q2, gg, -⟩
    · rw [if_pos q1, gRes, if_pos q1, q3]
      exact ⟨q2, hs⟩
    · rw [if_neg q1, gRes, if_neg q1]
      rcases (show i = 0 ∨ i = 1 by omega) with rfl | rfl
      · exact ⟨q2.trans (by show s0 0 1 = K.2.1.1 0 1; rw [e2, z0]), s0, s0, s1, ⟨e2, e2, e3⟩, ⟨ho.2.1 q1, ho.2⟩, _, _, gg⟩
      · exact ⟨q2.trans (by show s1 0 1 = K.2.2.1.1 0 1; rw [e3, z0]), s1, s0, s1, ⟨e3, e2, e3⟩, ⟨ho.2.2.1 q1, ho.2⟩, _, _, gg⟩
theorem cd_ch : ∀ q, q < 127 → ∀ i, i < 8 → cdA (nI q).toInt64 i = if i = 0 then nI q else 0 := by decide +kernel
theorem cd_one {q : Nat} (h1 : 33 ≤ q) (h2 : q ≤ 126) : cdN (nI q).toInt64 1 := by
  refine ⟨by decide, fun i hi => ?_, fun i h hi => ?_⟩
  · unfold cdG
    rw [cd_ch q (by omega) i (by omega), if_pos (by omega)]
    exact ⟨(nI_leI (by omega) (by omega)).mpr h1, (nI_leI (by omega) (by omega)).mpr h2⟩
  · rw [cd_ch q (by omega) i hi, if_neg (by omega)]
theorem q_put (l : Launch) (z : Nat → Nat) (K : KS) (P : PS) (q : Nat) (h1 : 33 ≤ q) (h2 : q ≤ 126) (hp : P.1 + 1 ≤ 60) : QC l z yX1_put wsX1_put (rm 2 45) [.long (nI q).toInt64] (K, P) (nI (P.1 + 1)) (K, gPut P q) := by
  intro D ad cs A μ hs
  have hs0 := hs
  obtain ⟨V, s0, s1, ⟨e1, e2, e3⟩, ho, h, hc, hG⟩ := hs0
  have e1 : K.1.1 = zl V := e1
  have e2 : K.2.1.1 = zl s0 := e2
  have e3 : K.2.2.1.1 = zl s1 := e3
  have ho : OKV V s0 s1 K P := ho
  have hG : GS μ V h hc s0 s1 K.2.2.2 P.1 P.2 := hG
  have k := kX1_put l D ad cs A z μ (μ 10) P.1 hG.2.2.2.2.2.1 ho.2.2.2.2.2 (nI q).toInt64
  rw [mb_self] at k
  refine ⟨_, k, fun r μ1 e => ?_⟩
  obtain ⟨n, hn, e⟩ := e
  have e0 : n = 1 := by
    rcases Nat.eq_zero_or_pos n with y | y
    · exact absurd (cd_one h1 h2) (hn.2.2 y 1 (by decide))
    · exact cdN_inj (hn.2.1 y) (cd_one h1 h2)
  subst e0
  rcases e with ⟨y, -, -⟩ | ⟨-, y, -, -⟩ | ⟨-, -, er, em⟩
  · omega
  · omega
  · refine ⟨er, V, s0, s1, ⟨e1, e2, e3⟩, ⟨ho.1, ho.2.1, ho.2.2.1, ho.2.2.2.1, ho.2.2.2.2.1, hp⟩, h, hc, ?_⟩
    rw [em]
    have gg := hG.put (nI q).toInt64 1 1
    have e0 : ptx P.2 (nI q).toInt64 1 P.1 1 = upd P.2 P.1 (nI q) := by
      rw [ptx, ptx, Nat.add_zero, cd_ch q (by omega) _ (by decide), if_pos rfl]
    rw [e0] at gg
    exact gg
theorem q_wipe (l : Launch) (z : Nat → Nat) (K : KS) (P : PS)  : QC l z yX1_wipe wsX1_wipe (rm 0 0) [] (K, P) (nI P.1) (K, ((0, P.2) : PS)) := by
  intro D ad cs A μ hs
  have hs0 := hs
  obtain ⟨V, s0, s1, ⟨e1, e2, e3⟩, ho, h, hc, hG⟩ := hs0
  have e1 : K.1.1 = zl V := e1
  have e2 : K.2.1.1 = zl s0 := e2
  have e3 : K.2.2.1.1 = zl s1 := e3
  have ho : OKV V s0 s1 K P := ho
  have hG : GS μ V h hc s0 s1 K.2.2.2 P.1 P.2 := hG
  have k := kX1_wipe l D ad cs A z μ (μ 10) P.1 hG.2.2.2.2.2.1 ho.2.2.2.2.2
  rw [mb_self] at k
  refine ⟨_, k, fun r μ1 e => ⟨e.1, V, s0, s1, ⟨e1, e2, e3⟩, ⟨ho.1, ho.2.1, ho.2.2.1, ho.2.2.2.1, ho.2.2.2.2.1, Nat.zero_le _⟩, h, hc, ?_⟩⟩
  rw [e.2, ← ms_mb]
  exact hG.pad0
theorem q_read (l : Launch) (z : Nat → Nat) (K : KS) (P : PS)  (hf : ftS P.2 P.1 = -6) (h20 : K.1.2 + dgn P.2 P.1 ≤ 20) : QC l z yX1_read wsX1_read (rm 4 104) [] (K, P) (nI (K.1.2 + dgn P.2 P.1)) (gRdK K P, ((0, P.2) : PS)) := by
  intro D ad cs A μ hs
  have hs0 := hs
  obtain ⟨V, s0, s1, ⟨e1, e2, e3⟩, ho, h, hc, hG⟩ := hs0
  have e1 : K.1.1 = zl V := e1
  have e2 : K.2.1.1 = zl s0 := e2
  have e3 : K.2.2.1.1 = zl s1 := e3
  have ho : OKV V s0 s1 K P := ho
  have hG : GS μ V h hc s0 s1 K.2.2.2 P.1 P.2 := hG
  have hG' := hG
  rw [hG.eqb] at hG'
  have k := kX1_read l D ad cs A z μ V h hc s0 s1 K.2.2.2 P.1 P.2 hG' K.1.2 ho.1 ho.2.2.2.2.2
  rw [← hG.eqb] at k
  have hE : Erea K.1.2 P.2 P.1 := ⟨hf, h20⟩
  refine ⟨_, k, fun r μ1 q => ⟨q.1.trans (by rw [Rrea, if_neg (Classical.not_not.mpr hf), if_neg (by omega)]), ?_⟩⟩
  exact ⟨_, s0, s1, ⟨by show rz K.1.1 P.2 K.1.2 P.1 = _; rw [e1, tz_rd], e2, e3⟩, ⟨ho.1.rd (ft_ok ho.2.2.2.2.2 hE.1).1 hE.2 _ (Nat.le_refl _), ho.2.1, ho.2.2.1, ho.2.2.2.1, ho.2.2.2.2.1, Nat.zero_le _⟩, _, _, (q.2.1 hE).1⟩
