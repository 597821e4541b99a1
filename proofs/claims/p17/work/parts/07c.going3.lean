/-! a ship's going, as class and reference do it: pure -/
/-- the way that the orders tell in an hour -/
def akF (R : Nat → Nat → Int) (nO : Nat) (Ct : Nat → Int32) (WN : Nat → Nat → Int32) (h c w : Int) : Int := askF R nO c (windH Ct WN c h % 10) w
/-- the speed in an hour -/
def spF (ki fo : Int) (Ct : Nat → Int32) (WN : Nat → Nat → Int32) (h c w : Int) : Int := spd ki fo w (windH Ct WN c h / 10) (windH Ct WN c h % 10)
theorem akF_idem {R : Nat → Nat → Int} {nO : Nat} {Ct : Nat → Int32} {WN : Nat → Nat → Int32} {h c w : Int} : akF R nO Ct WN h c (akF R nO Ct WN h c w) = akF R nO Ct WN h c w := askF_idem _ _ _ _ _
theorem akF_rng {R : Nat → Nat → Int} {nO : Nat} {Ct : Nat → Int32} {WN : Nat → Nat → Int32} {h c w : Int} (hw : 0 ≤ w ∧ w ≤ 7) (hR : ∀ k : Nat, k < nO → 0 ≤ R k 5 ∧ R k 5 ≤ 7) : 0 ≤ akF R nO Ct WN h c w ∧ akF R nO Ct WN h c w ≤ 7 := askF_rng hw hR
theorem akF_month {R : Nat → Nat → Int} {nO : Nat} {Ct : Nat → Int32} {WN : Nat → Nat → Int32} {h h' c w : Int} (e : h / 720 = h' / 720) : akF R nO Ct WN h c w = akF R nO Ct WN h' c w := by
  unfold akF
  rw [windH_month e]
theorem spF_month {ki fo : Int} {Ct : Nat → Int32} {WN : Nat → Nat → Int32} {h h' c w : Int} (e : h / 720 = h' / 720) : spF ki fo Ct WN h c w = spF ki fo Ct WN h' c w := by
  unfold spF
  rw [windH_month e]
theorem eig_rng9 {a b : Int} (ha : 0 ≤ a ∧ a ≤ 7) (hb : 0 ≤ b ∧ b ≤ 7) : 0 ≤ eig a b ∧ eig a b ≤ 4 := by
  unfold eig
  (repeat' split) <;> omega
theorem spF_rng {ki fo : Int} {Ct : Nat → Int32} {WN : Nat → Nat → Int32} {h c w : Int} (hf : 0 ≤ fo) : 0 ≤ spF ki fo Ct WN h c w ∧ spF ki fo Ct WN h c w ≤ 45 := by
  have hr := windH_rng Ct WN c h
  unfold spF spd sailSp
  (repeat' split) <;> omega
/-- the first hour from one on in which the dock is open -/
def entryH (ga h : Int) : Int := if (h - ga) % 24 < 6 then h else h + 24 - (h - ga) % 24
theorem entryH_rng {ga h : Int} : h ≤ entryH ga h ∧ entryH ga h ≤ h + 18 := by
  unfold entryH
  split <;> omega
theorem entryH_next {ga h : Int} (e : 5 < (h - ga) % 24) : entryH ga (h + 1) = entryH ga h := by
  unfold entryH
  (repeat' split) <;> omega
theorem entryH_open {ga h : Int} (e : (h - ga) % 24 ≤ 5) : entryH ga h = h := by
  unfold entryH
  rw [if_pos (by omega)]
def gs (v : Nat → Int32) : GS := ((v 3).toInt, (v 4).toInt, (v 5).toInt, v 7, (v 8).toInt)
/-- the same but for the WAY of one that is HOME -/
def EqS (s t : GS) : Prop := s.1 = t.1 ∧ s.2.1 = t.2.1 ∧ s.2.2.2.1 = t.2.2.2.1 ∧ s.2.2.2.2 = t.2.2.2.2 ∧ (s.2.2.2.2 = -9 → s.2.2.1 = t.2.2.1)
theorem EqS.rf (s : GS) : EqS s s := ⟨rfl, rfl, rfl, rfl, fun _ => rfl⟩
theorem EqS.tr {s t r : GS} (a : EqS s t) (b : EqS t r) : EqS s r := ⟨a.1.trans b.1, a.2.1.trans b.2.1, a.2.2.1.trans b.2.2.1, a.2.2.2.1.trans b.2.2.2.1, fun z => (a.2.2.2.2 z).trans (b.2.2.2.2 (a.2.2.2.1.symm.trans z))⟩
theorem EqS.eq {s t : GS} (a : EqS s t) (h : s.2.2.2.2 = -9) : s = t := by
  obtain ⟨c, g, w, k, m⟩ := s
  obtain ⟨c', g', w', k', m'⟩ := t
  obtain ⟨a1, a2, a3, a4, a5⟩ := a
  have a6 := a5 h
  simp only at a1 a2 a3 a4 a6
  rw [a1, a2, a3, a4, a6]
theorem hourF_home {nx ak sp : Int → Int → Int} {ho h : Int} {s : GS} (e : s.2.2.2.2 ≠ -9) : hourF nx ak sp ho h s = s := by
  obtain ⟨c, g, w, a, m⟩ := s
  show (if m = -9 then _ else _) = _
  exact if_neg e
theorem EqS.hour {nx ak sp : Int → Int → Int} {ho h : Int} {s t : GS} (a : EqS s t) : EqS (hourF nx ak sp ho h s) (hourF nx ak sp ho h t) := by
  by_cases z : s.2.2.2.2 = -9
  · rw [a.eq z]
    exact EqS.rf _
  · rw [hourF_home z, hourF_home (fun y => z (a.2.2.2.1.trans y))]
    exact a
theorem EqS.run {nx : Int → Int → Int} {ak sp : Int → Int → Int → Int} {ho h : Int} {s t : GS} (a : EqS s t) (n : Nat) : EqS (runF nx ak sp ho h n s) (runF nx ak sp ho h n t) := by
  induction n with
  | zero => exact a
  | succ n ih => exact EqS.hour ih
theorem runF_home {nx : Int → Int → Int} {ak sp : Int → Int → Int → Int} {ho h : Int} {s : GS} {n m : Nat} (e : (runF nx ak sp ho h n s).2.2.2.2 ≠ -9) (hm : n ≤ m) : runF nx ak sp ho h m s = runF nx ak sp ho h n s := by
  induction m with
  | zero => rw [show n = 0 by omega]
  | succ m ih =>
    by_cases z : n = m + 1
    · rw [z]
    · have h1 := ih (by omega)
      show hourF nx _ _ ho _ (runF nx ak sp ho h m s) = _
      rw [h1, hourF_home e]
theorem moveF_stop {nx ak : Int → Int → Int} {ho h : Int} {n : Nat} {c g w : Int} {a : Int32} {m : Int} (e : ¬ (m = -9 ∧ needF w ≤ g)) : moveF nx ak ho h n (c, g, w, a, m) = (c, g, w, a, m) := by
  cases n with
  | zero => rfl
  | succ n =>
    show (if m = -9 ∧ needF w ≤ g then _ else (c, g, w, a, m)) = _
    exact if_neg e
theorem moveF_none {nx ak : Int → Int → Int} {ho h : Int} {c g w : Int} {a : Int32} (e : needF w ≤ g) (hn : nx c w = -9) : moveF nx ak ho h 3 (c, g, w, a, -9) = (c, 0, w, a, -9) := by
  show (if (-9 : Int) = -9 ∧ needF w ≤ g then (if nx c w = -9 then (c, 0, w, a, -9) else _) else _) = _
  rw [if_pos ⟨rfl, e⟩, if_pos hn]
theorem moveF_home {nx ak : Int → Int → Int} {ho h : Int} {c g w : Int} {a : Int32} (e : needF w ≤ g) (hn : nx c w ≠ -9) (hh : nx c w = ho) : moveF nx ak ho h 3 (c, g, w, a, -9) = (ho, g - needF w, w, a + 1, h) := by
  show (if (-9 : Int) = -9 ∧ needF w ≤ g then (if nx c w = -9 then (c, 0, w, a, -9) else if nx c w = ho then (ho, g - needF w, w, a + 1, h) else _) else _) = _
  rw [if_pos ⟨rfl, e⟩, if_neg hn, if_pos hh]
theorem moveF_on {nx ak : Int → Int → Int} {ho h : Int} {c g w : Int} {a : Int32} (e : needF w ≤ g) (hn : nx c w ≠ -9) (hh : nx c w ≠ ho) (hg : g < 180) : moveF nx ak ho h 3 (c, g, w, a, -9) = moveF nx ak ho h 3 (nx c w, g - needF w, ak (nx c w) w, a + 1, -9) := by
  have h1 := needF_rng w
  have h2 : moveF nx ak ho h 3 (c, g, w, a, -9) = moveF nx ak ho h 2 (nx c w, g - needF w, ak (nx c w) w, a + 1, -9) := by
    show (if (-9 : Int) = -9 ∧ needF w ≤ g then (if nx c w = -9 then (c, 0, w, a, -9) else if nx c w = ho then (ho, g - needF w, w, a + 1, h) else moveF nx ak ho h 2 (nx c w, g - needF w, ak (nx c w) w, a + 1, -9)) else _) = _
    rw [if_pos ⟨rfl, e⟩, if_neg hn, if_neg hh]
  rw [h2]
  exact moveF_more (by show g - needF w < 60 * ((2 : Nat) : Int); omega) (by show g - needF w < 60 * ((3 : Nat) : Int); omega)
theorem hourF_eq {nx ak sp : Int → Int → Int} {ho h c g w : Int} {a : Int32} : hourF nx ak sp ho h (c, g, w, a, -9) = moveF nx ak ho h 3 (c, g + sp c (ak c w), ak c w, a, -9) := by
  show (if (-9 : Int) = -9 then moveF nx ak ho h 3 (c, g + sp c (ak c w), ak c w, a, -9) else (c, g, w, a, -9)) = _
  exact if_pos rfl
/-! the reference: rows of ships -/
def gsM (ce go wa ca ha : Nat → Int32) (i : Nat) : GS := ((ce i).toInt, (go i).toInt, (wa i).toInt, ca i, (ha i).toInt)
theorem gsM_congr {ce go wa ca ha ce' go' wa' ca' ha' : Nat → Int32} {i : Nat} (h1 : ce' i = ce i) (h2 : go' i = go i) (h3 : wa' i = wa i) (h4 : ca' i = ca i) (h5 : ha' i = ha i) : gsM ce' go' wa' ca' ha' i = gsM ce go wa ca ha i := by
  unfold gsM
  rw [h1, h2, h3, h4, h5]
theorem goM_start {nx ak sp : Int → Int → Int} {ho h : Int} {ce go wa ca ha wb : Nat → Int32} {i : Nat} {g : Int32} (hm : (ha i).toInt = -9) (hw : (wb i).toInt = ak (ce i).toInt (wa i).toInt) (hg : g.toInt = (go i).toInt + sp (ce i).toInt (wb i).toInt) : moveF nx ak ho h 3 (gsM ce (upd go i g) wb ca ha i) = hourF nx ak sp ho h (gsM ce go wa ca ha i) := by
  unfold gsM
  rw [upd_at, hm, hourF_eq, hg, hw]
theorem goM_stop {nx ak : Int → Int → Int} {ho h : Int} {ce go wa ca ha : Nat → Int32} {i : Nat} {T : GS} (hI : moveF nx ak ho h 3 (gsM ce go wa ca ha i) = T) (e : ¬ ((ha i).toInt = -9 ∧ needF (wa i).toInt ≤ (go i).toInt)) : gsM ce go wa ca ha i = T := by
  rw [← hI]
  unfold gsM
  exact (moveF_stop e).symm
theorem goM_none {nx ak : Int → Int → Int} {ho h : Int} {ce go wa ca ha : Nat → Int32} {i : Nat} {T : GS} (hI : moveF nx ak ho h 3 (gsM ce go wa ca ha i) = T) (hm : (ha i).toInt = -9) (hg : needF (wa i).toInt ≤ (go i).toInt) (hn : nx (ce i).toInt (wa i).toInt = -9) : gsM ce (upd go i 0) wa ca ha i = T := by
  rw [← hI]
  unfold gsM
  rw [upd_at, hm]
  exact (moveF_none hg hn).symm
theorem goM_home {nx ak : Int → Int → Int} {ho h : Int} {ce go wa ca ha : Nat → Int32} {i : Nat} {T : GS} {n g a hr : Int32} (hI : moveF nx ak ho h 3 (gsM ce go wa ca ha i) = T) (hm : (ha i).toInt = -9) (hg : needF (wa i).toInt ≤ (go i).toInt) (hn : n.toInt = nx (ce i).toInt (wa i).toInt) (h9 : n.toInt ≠ -9) (hh : n.toInt = ho) (eg : g.toInt = (go i).toInt - needF (wa i).toInt) (ea : a = ca i + 1) (eh : hr.toInt = h) (hne : h ≠ -9) : moveF nx ak ho h 3 (gsM (upd ce i n) (upd go i g) wa (upd ca i a) (upd ha i hr) i) = T := by
  rw [← hI]
  unfold gsM
  rw [upd_at, upd_at, upd_at, upd_at, hm, moveF_home hg (by rw [← hn]; exact h9) (by rw [← hn]; exact hh), moveF_stop (by rw [eh]; exact fun z => hne z.1), eg, ea, eh, hh]
theorem goM_on {nx ak : Int → Int → Int} {ho h : Int} {ce go wa ca ha wb : Nat → Int32} {i : Nat} {T : GS} {n g a : Int32} (hI : moveF nx ak ho h 3 (gsM ce go wa ca ha i) = T) (hm : (ha i).toInt = -9) (hg : needF (wa i).toInt ≤ (go i).toInt) (hn : n.toInt = nx (ce i).toInt (wa i).toInt) (h9 : n.toInt ≠ -9) (hh : n.toInt ≠ ho) (eg : g.toInt = (go i).toInt - needF (wa i).toInt) (ea : a = ca i + 1) (h180 : (go i).toInt < 180) (ew : (wb i).toInt = ak n.toInt (wa i).toInt) : moveF nx ak ho h 3 (gsM (upd ce i n) (upd go i g) wb (upd ca i a) ha i) = T := by
  rw [← hI]
  unfold gsM
  rw [upd_at, upd_at, upd_at, hm, moveF_on hg (by rw [← hn]; exact h9) (by rw [← hn]; exact hh) h180, eg, ea, ew, hn]
/-! the class: a ship's fields -/
def Rgs (u : Nat → Int32) (g : Int) : Prop := (0 ≤ (u 3).toInt ∧ (u 3).toInt ≤ 159) ∧ (0 ≤ (u 4).toInt ∧ (u 4).toInt ≤ g) ∧ (0 ≤ (u 5).toInt ∧ (u 5).toInt ≤ 7)
def EntOK (ga : Int) (u : Nat → Int32) : Prop := (u 8).toInt ≠ -9 → (u 9).toInt = entryH ga (u 8).toInt
def Settl (ak : Int → Int → Int) (u : Nat → Int32) : Prop := (u 8).toInt = -9 → ak (u 3).toInt (u 5).toInt = (u 5).toInt
/-- come to a cell -/
def CameTo (ak : Int → Int → Int) (ho ga : Int) (a0 a1 : Int32) (v u : Nat → Int32) : Prop := u 3 = a0 ∧ u 4 = v 4 ∧ (u 5).toInt = ak a0.toInt (v 5).toInt ∧ u 7 = v 7 + 1 ∧ (a0.toInt = ho → (u 8).toInt = a1.toInt ∧ (u 9).toInt = entryH ga a1.toInt) ∧ (a0.toInt ≠ ho → u 8 = v 8 ∧ u 9 = v 9)
theorem CameTo.away {ak : Int → Int → Int} {ho ga : Int} {a0 a1 x : Int32} {v w : Nat → Int32} (h1 : ∀ j : Nat, j ≠ 5 → w j = upd (upd v 3 a0) 7 x j) (h5 : (w 5).toInt = ak a0.toInt (v 5).toInt) (hx : x = v 7 + 1) (hh : a0.toInt ≠ ho) : CameTo ak ho ga a0 a1 v w :=
  ⟨(h1 3 (by decide)).trans ((upd_off _ _ (by decide)).trans (upd_at _ _ _)), (h1 4 (by decide)).trans ((upd_off _ _ (by decide)).trans (upd_off _ _ (by decide))), h5, (h1 7 (by decide)).trans ((upd_at _ _ _).trans hx), fun z => absurd z hh, fun _ => ⟨(h1 8 (by decide)).trans ((upd_off _ _ (by decide)).trans (upd_off _ _ (by decide))), (h1 9 (by decide)).trans ((upd_off _ _ (by decide)).trans (upd_off _ _ (by decide)))⟩⟩
theorem CameTo.home {ak : Int → Int → Int} {ho ga : Int} {a0 a1 x e : Int32} {v w : Nat → Int32} (h1 : ∀ j : Nat, j ≠ 5 → w j = upd (upd v 3 a0) 7 x j) (h5 : (w 5).toInt = ak a0.toInt (v 5).toInt) (hx : x = v 7 + 1) (hh : a0.toInt = ho) (he : e.toInt = entryH ga a1.toInt) : CameTo ak ho ga a0 a1 v (upd (upd w 8 a1) 9 e) := by
  have f : ∀ j : Nat, j ≠ 8 → j ≠ 9 → upd (upd w 8 a1) 9 e j = w j := fun j a b => (upd_off _ _ b).trans (upd_off _ _ a)
  refine ⟨(f 3 (by decide) (by decide)).trans ((h1 3 (by decide)).trans ((upd_off _ _ (by decide)).trans (upd_at _ _ _))), (f 4 (by decide) (by decide)).trans ((h1 4 (by decide)).trans ((upd_off _ _ (by decide)).trans (upd_off _ _ (by decide)))), ?_, (f 7 (by decide) (by decide)).trans ((h1 7 (by decide)).trans ((upd_at _ _ _).trans hx)), fun _ => ⟨?_, ?_⟩, fun z => absurd hh z⟩
  · rw [f 5 (by decide) (by decide)]
    exact h5
  · rw [upd_off _ _ (by decide), upd_at]
  · rw [upd_at]
    exact he
/-- between two moves of one hour: u is where the ship v has come to -/
def MInv (nx ak : Int → Int → Int) (ho h ga : Int) (v u : Nat → Int32) (i : Int) : Prop :=
  ((0 ≤ (u 3).toInt ∧ (u 3).toInt ≤ 159) ∧ 0 ≤ (u 4).toInt ∧ (u 4).toInt + 60 * i ≤ 189 ∧ (0 ≤ (u 5).toInt ∧ (u 5).toInt ≤ 7)) ∧ ((u 8).toInt = -9 → (u 4).toInt ≤ 129 ∧ moveF nx ak ho h 3 (gs u) = moveF nx ak ho h 3 (gs v) ∧ ak (u 3).toInt (u 5).toInt = (u 5).toInt) ∧ ((u 8).toInt ≠ -9 → EqS (gs u) (moveF nx ak ho h 3 (gs v)) ∧ (u 4).toInt ≤ 84 ∧ (u 9).toInt = entryH ga (u 8).toInt)
theorem MInv.start {nx ak : Int → Int → Int} {ho h ga : Int} {v : Nat → Int32} (hr : Rgs v 129) (h8 : (v 8).toInt = -9) (hs : Settl ak v) : MInv nx ak ho h ga v v 0 :=
  ⟨⟨hr.1, hr.2.1.1, by have := hr.2.1.2; omega, hr.2.2⟩, fun _ => ⟨hr.2.1.2, rfl, hs h8⟩, fun z => absurd h8 z⟩
theorem MInv.none {nx ak : Int → Int → Int} {ho h ga : Int} {v u : Nat → Int32} {i : Int} (m : MInv nx ak ho h ga v u i) (hi : 0 ≤ i ∧ i ≤ 2) (h8 : (u 8).toInt = -9) (hg : needF (u 5).toInt ≤ (u 4).toInt) (hn : nx (u 3).toInt (u 5).toInt = -9) : MInv nx ak ho h ga v (upd u 4 0) (i + 1) := by
  obtain ⟨⟨m1, m2, m3, m4⟩, m5, -⟩ := m
  obtain ⟨m6, m7, m8⟩ := m5 h8
  have e3 : upd u 4 0 3 = u 3 := upd_off _ _ (by decide)
  have e4 : upd u 4 0 4 = 0 := upd_at _ _ _
  have e5 : upd u 4 0 5 = u 5 := upd_off _ _ (by decide)
  have e7 : upd u 4 0 7 = u 7 := upd_off _ _ (by decide)
  have e8 : upd u 4 0 8 = u 8 := upd_off _ _ (by decide)
  have z4 : (0 : Int32).toInt = 0 := by decide
  unfold MInv
  rw [e3, e4, e5, e8, z4]
  refine ⟨⟨m1, by omega, by omega, m4⟩, fun _ => ⟨by omega, ?_, m8⟩, fun z => absurd h8 z⟩
  rw [← m7]
  unfold gs
  rw [e3, e4, e5, e7, e8, z4, h8, moveF_none hg hn]
  exact moveF_stop (fun z => by have := needF_rng (u 5).toInt; omega)
theorem MInv.come {nx ak : Int → Int → Int} {ho ga : Int} {v u u1 u' : Nat → Int32} {i : Int} {a0 a1 : Int32} (m : MInv nx ak ho a1.toInt ga v u i) (hI : ∀ c w, ak c (ak c w) = ak c w) (hK : ∀ c w, 0 ≤ w ∧ w ≤ 7 → 0 ≤ ak c w ∧ ak c w ≤ 7) (h8 : (u 8).toInt = -9) (hh : 0 ≤ a1.toInt) (hg : needF (u 5).toInt ≤ (u 4).toInt) (hn : a0.toInt = nx (u 3).toInt (u 5).toInt) (h9 : 0 ≤ a0.toInt ∧ a0.toInt ≤ 159)
    {g : Int32} (e1 : u1 = upd u 4 g) (c4 : g.toInt = (u 4).toInt - needF (u 5).toInt) (ct : CameTo ak ho ga a0 a1 u1 u') : MInv nx ak ho a1.toInt ga v u' (i + 1) := by
  obtain ⟨⟨m1, m2, m3, m4⟩, m5, -⟩ := m
  obtain ⟨m6, m7, m8⟩ := m5 h8
  obtain ⟨c3, d4, c5, c7, c8, c9⟩ := ct
  subst e1
  rw [upd_at] at d4
  rw [upd_off _ _ (by decide)] at c5 c7
  have d8 : upd u 4 g 8 = u 8 := upd_off _ _ (by decide)
  rw [d8] at c9
  have hr := needF_rng (u 5).toInt
  have hk := hK a0.toInt (u 5).toInt m4
  have hu : gs u = ((u 3).toInt, (u 4).toInt, (u 5).toInt, u 7, -9) := by unfold gs; rw [h8]
  have c4' : (u' 4).toInt = (u 4).toInt - needF (u 5).toInt := by rw [d4]; exact c4
  unfold MInv
  refine ⟨⟨by rw [c3]; exact h9, by omega, by omega, by rw [c5]; exact hk⟩, fun z => ?_, fun z => ?_⟩
  · have hho : a0.toInt ≠ ho := fun y => by have := (c8 y).1; omega
    refine ⟨by omega, ?_, by rw [c5, c3]; exact hI _ _⟩
    rw [← m7, hu, moveF_on hg (by rw [← hn]; omega) (by rw [← hn]; exact hho) (by omega)]
    unfold gs
    rw [z, c4', c5, c7, c3, hn]
  · have hho : a0.toInt = ho := Decidable.byContradiction fun y => by rewrite [(c9 y).1] at z; exact z h8
    refine ⟨?_, by omega, by rw [(c8 hho).1]; exact (c8 hho).2⟩
    rw [← m7, hu, moveF_home hg (by rw [← hn]; omega) (by rw [← hn]; exact hho)]
    refine ⟨?_, c4', c7, (c8 hho).1, fun y => absurd y z⟩
    show (u' 3).toInt = ho
    rw [c3]
    exact hho
/-- what a ship's moves within an hour come to -/
def MFin (nx ak : Int → Int → Int) (ho h ga : Int) (v u : Nat → Int32) : Prop := EqS (gs u) (moveF nx ak ho h 3 (gs v)) ∧ Rgs u 84 ∧ EntOK ga u ∧ Settl ak u
theorem MInv.fin {nx ak : Int → Int → Int} {ho h ga : Int} {v u : Nat → Int32} {i : Int} (m : MInv nx ak ho h ga v u i) (hi : i < 1000) (hx : (u 8).toInt = -9 → ¬ needF (u 5).toInt ≤ (u 4).toInt) : MFin nx ak ho h ga v u := by
  obtain ⟨⟨m1, m2, m3, m4⟩, m5, m6⟩ := m
  by_cases h8 : (u 8).toInt = -9
  · obtain ⟨g1, g2, g3⟩ := m5 h8
    have h9 := hx h8
    have hr := needF_rng (u 5).toInt
    refine ⟨?_, ⟨m1, ⟨m2, by omega⟩, m4⟩, fun z => absurd h8 z, fun _ => g3⟩
    rw [← g2]
    have hu : gs u = ((u 3).toInt, (u 4).toInt, (u 5).toInt, u 7, (u 8).toInt) := rfl
    rw [hu, moveF_stop (fun z => h9 z.2)]
    exact EqS.rf _
  · obtain ⟨g1, g2, g3⟩ := m6 h8
    exact ⟨g1, ⟨m1, ⟨m2, g2⟩, m4⟩, fun _ => g3, fun z => absurd z h8⟩
theorem MInv.small {nx ak : Int → Int → Int} {ho h ga : Int} {v u : Nat → Int32} {i : Int} (m : MInv nx ak ho h ga v u i) : 0 ≤ (u 4).toInt ∧ (u 4).toInt + 60 * i ≤ 189 := ⟨m.1.2.1, m.1.2.2.1⟩
/-- a ship's hours: u is where v has come to from the hour h0 to at; its speed, once it was asked -/
def SInv (nx : Int → Int → Int) (ak sp : Int → Int → Int → Int) (ho h0 ga : Int) (v u : Nat → Int32) (at_ s : Int) : Prop := EqS (gs u) (runF nx ak sp ho h0 (at_ - h0).toNat (gs v)) ∧ Rgs u 84 ∧ EntOK ga u ∧ (h0 < at_ → (u 8).toInt = -9 → ak (at_ - 1) (u 3).toInt (u 5).toInt = (u 5).toInt ∧ s = sp (at_ - 1) (u 3).toInt (u 5).toInt)
theorem SInv.start {nx : Int → Int → Int} {ak sp : Int → Int → Int → Int} {ho h0 ga : Int} {v : Nat → Int32} {s : Int} (hr : Rgs v 84) (he : EntOK ga v) : SInv nx ak sp ho h0 ga v v h0 s := by
  refine ⟨?_, hr, he, fun z => absurd z (by omega)⟩
  rw [show (h0 - h0).toNat = 0 by omega]
  exact EqS.rf _
/-- asked, or not: the way and the speed of the hour -/
def Askd (ak sp : Int → Int → Int) (u u1 : Nat → Int32) (s1 : Int) : Prop := (∀ j : Nat, j ≠ 5 → u1 j = u j) ∧ (u1 5).toInt = ak (u 3).toInt (u 5).toInt ∧ s1 = sp (u 3).toInt (u1 5).toInt
theorem SInv.keep {nx : Int → Int → Int} {R : Nat → Nat → Int} {nO : Nat} {Ct : Nat → Int32} {WN : Nat → Nat → Int32} {ki fo ho h0 ga : Int} {v u : Nat → Int32} {at_ s : Int} (I : SInv nx (akF R nO Ct WN) (spF ki fo Ct WN) ho h0 ga v u at_ s) (h0a : h0 ≤ at_) (h00 : 0 ≤ h0) (hn : at_ ≠ h0) (hm : at_ % 720 ≠ 0) (h8 : (u 8).toInt = -9) : Askd (akF R nO Ct WN at_) (spF ki fo Ct WN at_) u u s := by
  obtain ⟨i1, i2, i3, i4⟩ := I
  obtain ⟨j1, j2⟩ := i4 (by omega) h8
  have em : at_ / 720 = (at_ - 1) / 720 := by omega
  refine ⟨fun _ _ => rfl, ?_, ?_⟩
  · rw [akF_month em]
    exact j1.symm
  · rw [spF_month em]
    exact j2
/-- one hour more -/
theorem SInv.next {nx : Int → Int → Int} {ak sp : Int → Int → Int → Int} {ho h0 ga : Int} {v u u1 u2 u3 : Nat → Int32} {at_ s s1 s3 : Int} {g : Int32} (I : SInv nx ak sp ho h0 ga v u at_ s) (h0a : h0 ≤ at_) (h8 : (u 8).toInt = -9) (A : Askd (ak at_) (sp at_) u u1 s1) (e2 : u2 = upd u1 4 g) (eg : g.toInt = (u 4).toInt + s1) (M : MFin nx (ak at_) ho at_ ga u2 u3) (hs : (u3 8).toInt = -9 → s3 = sp at_ (u3 3).toInt (u3 5).toInt) {b : Int} (eb : b = at_ + 1) : SInv nx ak sp ho h0 ga v u3 b s3 := by
  obtain ⟨i1, i2, i3, i4⟩ := I
  obtain ⟨a1, a2, a3⟩ := A
  obtain ⟨m1, m2, m3, m4⟩ := M
  subst eb
  refine ⟨?_, m2, m3, fun _ z => ⟨?_, ?_⟩⟩
  · have e3 : (at_ + 1 - h0).toNat = (at_ - h0).toNat + 1 := by omega
    have e4 : h0 + ((at_ - h0).toNat : Int) = at_ := by omega
    rw [e3]
    show EqS (gs u3) (hourF nx (ak (h0 + ((at_ - h0).toNat : Int))) (sp (h0 + ((at_ - h0).toNat : Int))) ho (h0 + ((at_ - h0).toNat : Int)) (runF nx ak sp ho h0 (at_ - h0).toNat (gs v)))
    rw [e4, ← i1.eq h8]
    have e5 : hourF nx (ak at_) (sp at_) ho at_ (gs u) = moveF nx (ak at_) ho at_ 3 (gs u2) := by
      have hu : gs u = ((u 3).toInt, (u 4).toInt, (u 5).toInt, u 7, -9) := by unfold gs; rw [h8]
      rw [hu, hourF_eq, ← a2, ← a3, e2]
      unfold gs
      rw [upd_at, upd_off _ _ (by decide : (3 : Nat) ≠ 4), upd_off _ _ (by decide : (5 : Nat) ≠ 4), upd_off _ _ (by decide : (7 : Nat) ≠ 4), upd_off _ _ (by decide : (8 : Nat) ≠ 4), a1 3 (by decide), a1 7 (by decide), a1 8 (by decide), h8, eg]
    rw [e5]
    exact m1
  · rw [show at_ + 1 - 1 = at_ by omega]
    exact m4 z
  · rw [show at_ + 1 - 1 = at_ by omega]
    exact hs z
theorem Askd.rgs {ak sp : Int → Int → Int} {u u1 u2 : Nat → Int32} {s1 : Int} {g : Int32} (A : Askd ak sp u u1 s1) (hK : ∀ c w, 0 ≤ w ∧ w ≤ 7 → 0 ≤ ak c w ∧ ak c w ≤ 7) (hr : Rgs u 84) (hs : 0 ≤ s1 ∧ s1 ≤ 45) (e2 : u2 = upd u1 4 g) (eg : g.toInt = (u 4).toInt + s1) : Rgs u2 129 := by
  obtain ⟨a1, a2, a3⟩ := A
  obtain ⟨r3, r4, r5⟩ := hr
  subst e2
  unfold Rgs
  rw [upd_at, upd_off _ _ (by decide : (3 : Nat) ≠ 4), upd_off _ _ (by decide : (5 : Nat) ≠ 4), a1 3 (by decide)]
  exact ⟨r3, by omega, by rw [a2]; exact hK _ _ r5⟩
theorem Askd.settl {ak sp : Int → Int → Int} {u u1 u2 : Nat → Int32} {s1 : Int} {g : Int32} (A : Askd ak sp u u1 s1) (hI : ∀ c w, ak c (ak c w) = ak c w) (e2 : u2 = upd u1 4 g) : Settl ak u2 := by
  obtain ⟨a1, a2, a3⟩ := A
  intro _
  subst e2
  rw [upd_off _ _ (by decide : (3 : Nat) ≠ 4), upd_off _ _ (by decide : (5 : Nat) ≠ 4), a1 3 (by decide), a2]
  exact hI _ _
/-- not enough gone for a move -/
theorem MFin.stay {nx ak : Int → Int → Int} {ho h ga : Int} {u : Nat → Int32} (h8 : (u 8).toInt = -9) (hg : ¬ needF (u 5).toInt ≤ (u 4).toInt) (hr : Rgs u 129) (hs : Settl ak u) : MFin nx ak ho h ga u u := by
  have hn := needF_rng (u 5).toInt
  refine ⟨?_, ⟨hr.1, ⟨hr.2.1.1, by omega⟩, hr.2.2⟩, fun z => absurd h8 z, hs⟩
  have hu : gs u = ((u 3).toInt, (u 4).toInt, (u 5).toInt, u 7, (u 8).toInt) := rfl
  rw [hu, moveF_stop (fun z => hg z.2)]
  exact EqS.rf _
/-- what a run does of a ship -/
def SFin (nx : Int → Int → Int) (ak sp : Int → Int → Int → Int) (ho h0 ga : Int) (n : Nat) (v u : Nat → Int32) : Prop := EqS (gs u) (runF nx ak sp ho h0 n (gs v)) ∧ Rgs u 84 ∧ EntOK ga u
theorem SInv.fin {nx : Int → Int → Int} {ak sp : Int → Int → Int → Int} {ho h0 ga : Int} {v u : Nat → Int32} {at_ s e : Int} {n : Nat} (I : SInv nx ak sp ho h0 ga v u at_ s) (h0a : h0 ≤ at_) (hn : n = (e - h0).toNat) (hx : at_ < e → (u 8).toInt ≠ -9) (hle : at_ ≤ e ∨ at_ = h0) : SFin nx ak sp ho h0 ga n v u := by
  obtain ⟨i1, i2, i3, i4⟩ := I
  refine ⟨?_, i2, i3⟩
  subst hn
  by_cases z : at_ < e
  · rw [runF_home (n := (at_ - h0).toNat) (m := (e - h0).toNat) (fun y => hx z (i1.2.2.2.1.trans y)) (by omega)]
    exact i1
  · rw [show (e - h0).toNat = (at_ - h0).toNat by omega]
    exact i1
theorem mNeed_F {w : Int32} (h : 0 ≤ w.toInt) : (mNeed w).toInt = needF w.toInt := by
  have h1 : (w - w / 2 * 2).toInt = w.toInt % 2 := rm_k rfl rfl (by decide) (by omega) h
  unfold mNeed needF
  by_cases z : w - w / 2 * 2 = 0
  · rw [if_pos z, if_pos (by rw [← h1, z]; rfl)]
    rfl
  · rw [if_neg z, if_neg (fun y => z (Int32.toInt_inj.mp (by rw [h1, y]; rfl)))]
    rfl
/-- how many of the first n are HOME -/
def homesM (ha : Nat → Int32) : Nat → Int
  | 0 => 0
  | n + 1 => homesM ha n + (if (ha n).toInt = -9 then 0 else 1)
theorem homesM_rng (ha : Nat → Int32) (n : Nat) : 0 ≤ homesM ha n ∧ homesM ha n ≤ n := by
  induction n with
  | zero => exact ⟨Int.le_refl 0, Int.le_refl 0⟩
  | succ n ih =>
    show 0 ≤ homesM ha n + _ ∧ homesM ha n + _ ≤ ((n + 1 : Nat) : Int)
    split <;> omega
theorem homesM_congr {ha hb : Nat → Int32} {n : Nat} (h : ∀ i : Nat, i < n → (ha i).toInt = (hb i).toInt) : homesM ha n = homesM hb n := by
  induction n with
  | zero => rfl
  | succ n ih =>
    show homesM ha n + _ = homesM hb n + _
    rw [ih (fun i hi => h i (by omega)), h n (by omega)]
