/-! a court without its letters: two courts that differ in letters alone answer alike -/
def zl (V : CV) : CV := uc V 4 (fun _ => 0)
theorem z_n {V : CV} {k : Nat} (h : k ≠ 4) : zl V k = V k := uc_n h
theorem z0 {V : CV} : zl V 0 = V 0 := uc_n (by decide)
theorem z1 {V : CV} : zl V 1 = V 1 := uc_n (by decide)
theorem z5 {V : CV} : zl V 5 = V 5 := uc_n (by decide)
theorem z6 {V : CV} : zl V 6 = V 6 := uc_n (by decide)
theorem z7 {V : CV} : zl V 7 = V 7 := uc_n (by decide)
theorem z8 {V : CV} : zl V 8 = V 8 := uc_n (by decide)
theorem z9 {V : CV} : zl V 9 = V 9 := uc_n (by decide)
theorem z10 {V : CV} : zl V 10 = V 10 := uc_n (by decide)
theorem z11 {V : CV} : zl V 11 = V 11 := uc_n (by decide)
theorem z12 {V : CV} : zl V 12 = V 12 := uc_n (by decide)
theorem z13 {V : CV} : zl V 13 = V 13 := uc_n (by decide)
theorem z14 {V : CV} : zl V 14 = V 14 := uc_n (by decide)
theorem z16 {V : CV} : zl V 16 = V 16 := uc_n (by decide)
theorem z_us {V : CV} {k j : Nat} {v : Int32} (h : k ≠ 4) : us (zl V) k j v = zl (us V k j v) := by
  funext k' j'
  show us (uc V 4 (fun _ => 0)) k j v k' j' = uc (us V k j v) 4 (fun _ => 0) k' j'
  by_cases q : k' = 4
  · subst q; rw [us_n (Ne.symm h), uc_s, uc_s]
  · rw [us_e, uc_n q, uc_n q, us_e]
theorem z_uc {V : CV} {k : Nat} {f : Nat → Int32} (h : k ≠ 4) : uc (zl V) k f = zl (uc V k f) := by
  funext k'
  show uc (uc V 4 (fun _ => 0)) k f k' = uc (uc V k f) 4 (fun _ => 0) k'
  by_cases q : k' = 4
  · subst q; rw [uc_n (Ne.symm h), uc_s, uc_s]
  · by_cases w : k' = k
    · subst w; rw [uc_s, uc_n q, uc_s]
    · rw [uc_n w, uc_n q, uc_n q, uc_n w]
theorem z_4 {V : CV} {f : Nat → Int32} : zl (uc V 4 f) = zl V := by
  funext k'
  show uc (uc V 4 f) 4 (fun _ => 0) k' = uc V 4 (fun _ => 0) k'
  by_cases q : k' = 4
  · subst q; rw [uc_s, uc_s]
  · rw [uc_n q, uc_n q, uc_n q]
theorem t_has {V : CV} {x : Int32} : hasN (zl V) x = hasN V x := by simp only [hasN, z0]
theorem t_nb {V : CV} {x : Int32} : ∀ k, nb (zl V) x k = nb V x k
  | 0 => rfl
  | k + 1 => by simp only [nb, z10, t_nb k]
theorem t_bm {V : CV} {x : Int32} : ∀ k, bm (zl V) x k = bm V x k
  | 0 => rfl
  | k + 1 => by simp only [bm, z10, t_bm k]
theorem t_wh {V : CV} {n : Nat} : wh (zl V) n = wh V n := by simp only [wh, z8, t_nb]
theorem t_bef {V : CV} {i n : Nat} : befS (zl V) i n = befS V i n := by simp only [befS, z7]
theorem t_plc {V : CV} {n : Nat} : ∀ k, plc (zl V) n k = plc V n k
  | 0 => rfl
  | k + 1 => by simp only [plc, t_bef, t_wh, t_plc k]
theorem t_wtn {V : CV} : ∀ k, wtn (zl V) k = wtn V k
  | 0 => rfl
  | k + 1 => by simp only [wtn, t_wh, t_wtn k]
theorem t_pun {V : CV} {x y : Int32} : punS (zl V) x y = punS V x y := by simp only [punS, hasN, z0, z6]
theorem t_pq {V : CV} {i : Nat} : ∀ k, pq (zl V) i k = pq V i k
  | 0 => rfl
  | k + 1 => by simp only [pq, t_pun, z10, t_pq k]
theorem t_pp {V : CV} : ∀ k, pp (zl V) k = pp V k
  | 0 => rfl
  | k + 1 => by simp only [pp, t_pq, t_pp k]
theorem t_near {V : CV} {a n c : Nat} : ∀ k, nearB (zl V) a n c k = nearB V a n c k
  | 0 => rfl
  | k + 1 => by simp only [nearB, t_pun, z10, t_near k]
theorem t_rsnq {V : CV} {n c k : Nat} {q : Bool} : rsnq (zl V) n c k q = rsnq V n c k q := by simp only [rsnq, t_has, z0, z1, z7, z8, z10, z13]
theorem t_rsn {V : CV} {a n : Nat} : rsn (zl V) a n = rsn V a n := by
  funext c
  simp only [rsn, t_rsnq, t_nb, t_near]
theorem t_pkN {V : CV} {a : Nat} : ∀ k, pkN (zl V) a k = pkN V a k
  | 0 => rfl
  | k + 1 => by simp only [pkN, t_wh, t_bef, t_rsn, t_pkN k]
theorem t_bump {V : CV} {c : Nat} : bump (zl V) c = zl (bump V c) := by rw [bump, z11, z_us (by decide), bump]
theorem t_upL {V : CV} {c : Nat} : upL (zl V) c = zl (upL V c) := by
  rw [upL, upL]; split
  · exact t_bump
  · rfl
theorem t_upR {V : CV} {c : Nat} : upR (zl V) c = zl (upR V c) := by
  rw [upR, upR]; split
  · exact t_bump
  · rfl
theorem t_pa1 {V : CV} {n c : Nat} : pa1 (zl V) n c = zl (pa1 V n c) := by rw [pa1, z_us (by decide), pa1]
theorem t_pa2 {V : CV} {c : Nat} : pa2 (zl V) c = zl (pa2 V c) := by rw [pa2, z0, z_us (by decide), pa2]
theorem t_pa3 {V : CV} {c : Nat} : pa3 (zl V) c = zl (pa3 V c) := by rw [pa3, z14, z_us (by decide), pa3]
theorem t_pa4 {V : CV} {c : Nat} : pa4 (zl V) c = zl (pa4 V c) := by rw [pa4, z9, z_us (by decide), pa4]
theorem t_pa5 {V : CV} {c : Nat} : pa5 (zl V) c = zl (pa5 V c) := by rw [pa5, z11, z_us (by decide), pa5]
theorem t_place {V : CV} {n c : Nat} : placeS (zl V) n c = zl (placeS V n c) := by
  rw [placeS, pl5, t_pa1, t_pa2, t_pa3, t_pa4, t_pa5, t_upL, t_upR, placeS, pl5]
theorem t_mo {V : CV} : ∀ k, mo (zl V) k = mo V k
  | 0 => rfl
  | k + 1 => by simp only [mo, z11, t_mo k]
theorem t_pst {V : CV} {m : Nat} : pst (zl V) m = zl (pst V m) := by rw [pst, z11, z_us (by decide), z12, z_us (by decide), pst]
theorem t_up1 {V : CV} : up1 (zl V) = zl (up1 V) := by
  rw [up1, up1, t_mo, z11]; split
  · exact t_pst
  · rfl
theorem t_su {V : CV} : ∀ k, su (zl V) k = zl (su V k)
  | 0 => rfl
  | k + 1 => by rw [su, su, t_su k, t_up1]
theorem t_gq {V : CV} {a N : Nat} : gq (zl V) a N = zl (gq V a N) := by
  rw [gq, gq, t_pkN, t_rsn]; split
  · rfl
  · exact t_place
theorem t_gqn {V : CV} {a N : Nat} : gqn (zl V) a N = gqn V a N := by rw [gqn, gqn, t_pkN]
theorem t_day {V : CV} {a N P : Nat} : day (zl V) a N P = zl (day V a N P) := by rw [day, t_gq, t_su, z0, z_us (by decide), day]
theorem t_days {V : CV} {a N P : Nat} : ∀ k, days (zl V) a N P k = zl (days V a N P k)
  | 0 => rfl
  | k + 1 => by rw [days, days, t_days k, t_day]
theorem t_dayn {V : CV} {a N P : Nat} : ∀ k, dayn (zl V) a N P k = dayn V a N P k
  | 0 => rfl
  | k + 1 => by rw [dayn, dayn, t_days, t_gqn, t_dayn k]
theorem t_dr {V : CV} {n : Nat} : ∀ k, dr (zl V) n k = zl (dr V n k)
  | 0 => rfl
  | k + 1 => by
    rw [dr, dr, t_dr k, z10]; split
    · exact z_us (by decide)
    · rfl
theorem t_wm {V : CV} : ∀ k, wm (zl V) k = wm V k
  | 0 => rfl
  | k + 1 => by simp only [wm, z10, z16, t_wm k]
theorem t_wmS {V : CV} : wmS (zl V) = wmS V := by simp only [wmS, z0, t_wm]
theorem t_dm {V : CV} : dm (zl V) = zl (dm V) := by rw [dm, z_us (by decide), z10, z16, z_uc (by decide), dm]
/-- a name is applied for, told by its sound, length, honour -/
def zN (Z : CV) (N : Nat) (snd L h : Int32) : CV := us (us (us (us (us (us Z 5 N L) 7 N h) 8 N (nI 0)) 9 N (nI 0)) 6 N snd) 0 2 (nI (N + 1))
theorem t_ap {V : CV} {f : Nat → Int32} {N s n : Nat} {h : Int32} : zl (apS V f N s n h) = zN (zl V) N (sdS (sgF f s) n) (nI n) h := by
  have e := apS_6 (V := V) (f := f) (n := N) (s := s) (L := n) (m := N) (h := h)
  rw [if_pos rfl, apS, us_n (by decide), us_s] at e
  rw [apS, e, zN, ← z_us (by decide), ← z_us (by decide), ← z_us (by decide), ← z_us (by decide), ← z_us (by decide), ← z_us (by decide), z_4]
def rz (Z : CV) (f : Nat → Int32) (N : Nat) : Nat → CV
  | 0 => Z
  | k + 1 => if isD (f k) then zN (rz Z f N k) (N + dgn f k) (sdS (sgF f (rst f k)) (k - rst f k)) (nI (k - rst f k)) (f k - nI 48) else rz Z f N k
theorem tz_rd {V : CV} {f : Nat → Int32} {N : Nat} : ∀ k, zl (rdW V f N k) = rz (zl V) f N k
  | 0 => rfl
  | k + 1 => by
    rw [rdW, rz]; split
    · rw [t_ap, tz_rd k]
    · exact tz_rd k
/-! the settings by number -/
def aV (V : CV) : Nat := (V 1 0).toNatClampNeg
def pV (V : CV) : Nat := (V 1 2).toNatClampNeg
theorem t_aV {V : CV} : aV (zl V) = aV V := by rw [aV, aV, z1]
theorem t_pV {V : CV} : pV (zl V) = pV V := by rw [pV, pV, z1]
theorem CI.pv {V : CV} {N : Nat} (h : CI V N) : PD V (aV V) N (pV V) := by
  obtain ⟨a, P, hp⟩ := h.pd
  have ha : aV V = a := by rw [aV, hp.1, ix_n (by have := hp.2.1; omega)]
  have hP : pV V = P := by rw [pV, hp.2.2.2.2.1, ix_n (by have := hp.2.2.2.2.2.1; omega)]
  rw [ha, hP]; exact hp
/-! answers -/
theorem t_Rset {V : CV} {s v : Int32} : Rset (zl V) s v = Rset V s v := by simp only [Rset, z1]
theorem t_Rhon {V : CV} {x v : Int32} : Rhon (zl V) x v = Rhon V x v := by simp only [Rhon, t_has, z7]
theorem t_Rwit {V : CV} {x : Int32} : Rwit (zl V) x = Rwit V x := by simp only [Rwit, t_has, z8, t_nb]
theorem t_Rgiv {V : CV} {a : Nat} {x c : Int32} : Rgiv (zl V) a x c = Rgiv V a x c := by simp only [Rgiv, t_has, t_rsn, t_place, z11]
theorem t_Rstr {V : CV} {c : Int32} : Rstr (zl V) c = Rstr V c := by simp only [Rstr, z10]
theorem t_Rpas {V : CV} {a N P : Nat} {d : Int32} : Rpas (zl V) a N P d = Rpas V a N P d := by simp only [Rpas, z0, t_dayn]
theorem t_Rnam {V : CV} {N : Nat} {x w : Int32} : Rnam (zl V) N x w = Rnam V N x w := by simp only [Rnam, t_has, z7, t_wh, t_bm, t_plc, z6, z5, z9]
theorem t_Rali {V : CV} {x y w : Int32} : Rali (zl V) x y w = Rali V x y w := by simp only [Rali, t_has, z6]
theorem t_Rcor {V : CV} {c w : Int32} : Rcor (zl V) c w = Rcor V c w := by simp only [Rcor, z10, z11, z12, z13, z14, z16, z0]
theorem t_Rwhy {V : CV} {a : Nat} {x c : Int32} : Rwhy (zl V) a x c = Rwhy V a x c := by simp only [Rwhy, t_has, t_rsn]
theorem t_Rcnt {V : CV} {N h pl : Nat} {w : Int32} : Rcnt (zl V) N h pl w = Rcnt V N h pl w := by simp only [Rcnt, z0, z1, z9, z11, z12, t_wtn, t_nb, t_wmS, t_pp]
theorem t_Rbes {V : CV} {a : Nat} {x : Int32} : Rbes (zl V) a x = Rbes V a x := by simp only [Rbes, t_has, t_rsn]
theorem t_bof {V : CV} {a N P : Nat} {x : Int32} : bof (zl V) a N P x = bof V a N P x := by
  funext k
  simp only [bof, t_days, t_nb]
theorem t_pof {V : CV} {a N P : Nat} : pof (zl V) a N P = pof V a N P := by
  funext k
  simp only [pof, t_days, z11]
theorem t_Rubo {V : CV} {a N P : Nat} {x : Int32} : Rubo (zl V) a N P x = Rubo V a N P x := by simp only [Rubo, t_has, t_bof]
theorem t_Rifp {V : CV} {a N P : Nat} {d w : Int32} : Rifp (zl V) a N P d w = Rifp V a N P d w := by simp only [Rifp, t_dayn, t_days, z11, z12]
/-! next courts -/
theorem t_Nset {V : CV} {s v : Int32} : Nset (zl V) s v = zl (Nset V s v) := by rw [Nset, z_us (by decide), Nset]
theorem t_Nhon {V : CV} {x v : Int32} : Nhon (zl V) x v = zl (Nhon V x v) := by rw [Nhon, z_us (by decide), Nhon]
theorem t_Nwit {V : CV} {x : Int32} : Nwit (zl V) x = zl (Nwit V x) := by rw [Nwit, z_us (by decide), t_dr, Nwit]
theorem t_Ngiv {V : CV} {x c : Int32} : Ngiv (zl V) x c = zl (Ngiv V x c) := by rw [Ngiv, t_place, Ngiv]
theorem t_Nstr {V : CV} {c : Int32} : Nstr (zl V) c = zl (Nstr V c) := by rw [Nstr, z_us (by decide), z11, z_us (by decide), Nstr]
theorem t_Npas {V : CV} {a N P : Nat} {d : Int32} : Npas (zl V) a N P d = zl (Npas V a N P d) := by rw [Npas, t_days, Npas]
