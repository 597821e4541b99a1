theorem CameTo.way {R : Nat → Nat → Int} {nO : Nat} {Ct : Nat → Int32} {WN : Nat → Nat → Int32} {a0 a1 x r : Int32} {v w : Nat → Int32} (k : 0 ≤ (upd (upd v 3 a0) 7 x 3).toInt → 0 ≤ r.toInt → (w 5).toInt = askF R nO (upd (upd v 3 a0) 7 x 3).toInt (r.toInt % 10) (upd (upd v 3 a0) 7 x 5).toInt) (h0 : 0 ≤ a0.toInt) (hr : r.toInt = windH Ct WN a0.toInt a1.toInt) : (w 5).toInt = akF R nO Ct WN a1.toInt a0.toInt (v 5).toInt := by
  have h3 : upd (upd v 3 a0) 7 x 3 = a0 := (upd_off _ _ (by decide)).trans (upd_at _ _ _)
  have h5 : upd (upd v 3 a0) 7 x 5 = v 5 := (upd_off _ _ (by decide)).trans (upd_off _ _ (by decide))
  rw [h3, h5] at k
  have hw := windH_rng Ct WN a0.toInt a1.toInt
  rw [k h0 (by omega), hr]
  rfl
/-- what a ship's moves within an hour ask for -/
def MPre (ak : Int → Int → Int) (R : Nat → Nat → Int) (nO : Nat) (ga a0 : Int) (v : Nat → Int32) : Prop := Rgs v 129 ∧ (v 8).toInt = -9 ∧ Settl ak v ∧ (∀ k : Nat, k < nO → 0 ≤ R k 5 ∧ R k 5 ≤ 7) ∧ (0 ≤ a0 ∧ a0 ≤ 100000) ∧ (0 ≤ ga ∧ ga ≤ 23)
theorem MInv.way {nx ak : Int → Int → Int} {ho h ga : Int} {v u : Nat → Int32} {i : Int} (m : MInv nx ak ho h ga v u i) : (0 ≤ (u 3).toInt ∧ (u 3).toInt ≤ 159) ∧ (0 ≤ (u 5).toInt ∧ (u 5).toInt ≤ 7) := ⟨m.1.1, m.1.2.2.2⟩
/-- what a run asks for of a ship -/
def SPre (R : Nat → Nat → Int) (nO : Nat) (ga : Int) (v : Nat → Int32) : Prop := Rgs v 84 ∧ EntOK ga v ∧ (∀ k : Nat, k < nO → 0 ≤ R k 5 ∧ R k 5 ≤ 7) ∧ (0 ≤ (v 6).toInt ∧ (v 6).toInt ≤ 9) ∧ (0 ≤ ga ∧ ga ≤ 23)
theorem spd_at {ki fo : Int} {Ct : Nat → Int32} {WN : Nat → Nat → Int32} {w : Nat → Int32} {r2 s : Int32} {h : Int} (ks : (0 ≤ (w 5).toInt ∧ (w 5).toInt ≤ 7) ∧ (0 ≤ r2.toInt ∧ r2.toInt ≤ 79) ∧ (0 ≤ (w 6).toInt ∧ (w 6).toInt ≤ 9) → s.toInt = spd (w 1).toInt (w 6).toInt (w 5).toInt (r2.toInt / 10) (r2.toInt % 10)) (h5 : 0 ≤ (w 5).toInt ∧ (w 5).toInt ≤ 7) (hr2 : r2.toInt = windH Ct WN (w 3).toInt h) (h1 : (w 1).toInt = ki) (h6 : (w 6).toInt = fo) (hf : 0 ≤ fo ∧ fo ≤ 9) : s.toInt = spF ki fo Ct WN h (w 3).toInt (w 5).toInt := by
  have hw := windH_rng Ct WN (w 3).toInt h
  have g := ks ⟨h5, by omega, by omega⟩
  rw [g, h1, h6, hr2]
  rfl
theorem Askd.mk9 {R : Nat → Nat → Int} {nO : Nat} {ki fo : Int} {Ct : Nat → Int32} {WN : Nat → Nat → Int32} {u u1 : Nat → Int32} {r r2 s : Int32} {h : Int} (k3 : ∀ j : Nat, j ≠ 5 → u1 j = u j) (k4 : 0 ≤ (u 3).toInt → 0 ≤ r.toInt → (u1 5).toInt = askF R nO (u 3).toInt (r.toInt % 10) (u 5).toInt) (hg : Rgs u 84) (hR : ∀ k : Nat, k < nO → 0 ≤ R k 5 ∧ R k 5 ≤ 7) (hr : r.toInt = windH Ct WN (u 3).toInt h) (hr2 : r2.toInt = windH Ct WN (u1 3).toInt h)
    (ks : (0 ≤ (u1 5).toInt ∧ (u1 5).toInt ≤ 7) ∧ (0 ≤ r2.toInt ∧ r2.toInt ≤ 79) ∧ (0 ≤ (u1 6).toInt ∧ (u1 6).toInt ≤ 9) → s.toInt = spd (u1 1).toInt (u1 6).toInt (u1 5).toInt (r2.toInt / 10) (r2.toInt % 10)) (h1 : (u1 1).toInt = ki) (h6 : (u1 6).toInt = fo) (hf : 0 ≤ fo ∧ fo ≤ 9) : Askd (akF R nO Ct WN h) (spF ki fo Ct WN h) u u1 s.toInt := by
  have hw := windH_rng Ct WN (u 3).toInt h
  have g : (u1 5).toInt = akF R nO Ct WN h (u 3).toInt (u 5).toInt := by
    rw [k4 hg.1.1 (by omega), hr]
    rfl
  have h5 : 0 ≤ (u1 5).toInt ∧ (u1 5).toInt ≤ 7 := by
    rw [g]
    exact akF_rng hg.2.2 hR
  refine ⟨k3, g, ?_⟩
  have e3 := k3 3 (by decide)
  rw [spd_at ks h5 hr2 h1 h6 hf, e3]
theorem Askd.gone {R : Nat → Nat → Int} {nO : Nat} {ki fo : Int} {Ct : Nat → Int32} {WN : Nat → Nat → Int32} {u u1 : Nat → Int32} {s x : Int32} {h : Int} (A : Askd (akF R nO Ct WN h) (spF ki fo Ct WN h) u u1 s.toInt) (hf : 0 ≤ fo) (hg : Rgs u 84) (ex : x = u1 4 + s) : x.toInt = (u 4).toInt + s.toInt ∧ 0 ≤ s.toInt ∧ s.toInt ≤ 45 := by
  obtain ⟨a1, a2, a3⟩ := A
  have h1 := spF_rng (ki := ki) (fo := fo) (Ct := Ct) (WN := WN) (h := h) (c := (u 3).toInt) (w := (u1 5).toInt) hf
  have h2 := hg.2.1
  have h4 := a1 4 (by decide)
  rw [h4] at ex
  exact ⟨ad_k ex rfl rfl (by omega) (by omega), by omega, by omega⟩
theorem SInv.stay9 {nx : Int → Int → Int} {R : Nat → Nat → Int} {nO : Nat} {Ct : Nat → Int32} {WN : Nat → Nat → Int32} {ki fo ho h0 ga : Int} {v u u1 : Nat → Int32} {at_ s0 b : Int} {s x r : Int32} (I : SInv nx (akF R nO Ct WN) (spF ki fo Ct WN) ho h0 ga v u at_ s0) (h0a : h0 ≤ at_) (h8 : (u 8).toInt = -9) (A : Askd (akF R nO Ct WN at_) (spF ki fo Ct WN at_) u u1 s.toInt) (hR : ∀ k : Nat, k < nO → 0 ≤ R k 5 ∧ R k 5 ≤ 7) (hf : 0 ≤ fo ∧ fo ≤ 9) (ex : x = u1 4 + s) (hn : r.toInt = (mNeed (u1 5)).toInt) (hg : x.toInt < r.toInt) (eb : b = at_ + 1) : SInv nx (akF R nO Ct WN) (spF ki fo Ct WN) ho h0 ga v (upd u1 4 x) b s.toInt := by
  have hr := I.2.1
  obtain ⟨g1, g2, g3⟩ := A.gone hf.1 hr ex
  have r9 := A.rgs (fun c w hw => akF_rng hw hR) hr ⟨g2, g3⟩ rfl g1
  have s9 := A.settl (fun c w => akF_idem) (u2 := upd u1 4 x) rfl
  have e8 : (upd u1 4 x 8).toInt = -9 := by rw [upd_off _ _ (by decide), A.1 8 (by decide)]; exact h8
  have e5 : upd u1 4 x 5 = u1 5 := upd_off _ _ (by decide)
  have e3 : upd u1 4 x 3 = u 3 := (upd_off _ _ (by decide)).trans (A.1 3 (by decide))
  have h5 := r9.2.2
  rw [e5] at h5
  rw [mNeed_F h5.1] at hn
  refine SInv.next I h0a h8 A rfl g1 (MFin.stay e8 ?_ r9 s9) (fun _ => ?_) eb
  · rw [e5, upd_at]
    omega
  · rw [e5, e3]
    exact A.2.2
theorem SInv.move9 {nx : Int → Int → Int} {R : Nat → Nat → Int} {nO : Nat} {Ct : Nat → Int32} {WN : Nat → Nat → Int32} {ki fo ho h0 ga : Int} {v u u1 u3 : Nat → Int32} {at_ s0 b : Int} {s s3 x : Int32} (I : SInv nx (akF R nO Ct WN) (spF ki fo Ct WN) ho h0 ga v u at_ s0) (h0a : h0 ≤ at_) (h8 : (u 8).toInt = -9) (A : Askd (akF R nO Ct WN at_) (spF ki fo Ct WN at_) u u1 s.toInt) (hR : ∀ k : Nat, k < nO → 0 ≤ R k 5 ∧ R k 5 ≤ 7) (hf : 0 ≤ fo ∧ fo ≤ 9) (ex : x = u1 4 + s) (M : MPre (akF R nO Ct WN at_) R nO ga at_ (upd u1 4 x) → MFin nx (akF R nO Ct WN at_) ho at_ ga (upd u1 4 x) u3) (ha : 0 ≤ at_ ∧ at_ ≤ 100000) (hga : 0 ≤ ga ∧ ga ≤ 23) (hs : 0 ≤ (u3 5).toInt ∧ (u3 5).toInt ≤ 7 → s3.toInt = spF ki fo Ct WN at_ (u3 3).toInt (u3 5).toInt) (eb : b = at_ + 1) : SInv nx (akF R nO Ct WN) (spF ki fo Ct WN) ho h0 ga v u3 b s3.toInt := by
  have hr := I.2.1
  obtain ⟨g1, g2, g3⟩ := A.gone hf.1 hr ex
  have r9 := A.rgs (fun c w hw => akF_rng hw hR) hr ⟨g2, g3⟩ rfl g1
  have s9 := A.settl (fun c w => akF_idem) (u2 := upd u1 4 x) rfl
  have e8 : (upd u1 4 x 8).toInt = -9 := by rw [upd_off _ _ (by decide), A.1 8 (by decide)]; exact h8
  have m9 := M ⟨r9, e8, s9, hR, ha, hga⟩
  exact SInv.next I h0a h8 A rfl g1 m9 (fun _ => hs m9.2.1.2.2) eb
theorem SInv.mpre9 {nx : Int → Int → Int} {R : Nat → Nat → Int} {nO : Nat} {Ct : Nat → Int32} {WN : Nat → Nat → Int32} {ki fo ho h0 ga : Int} {v u u1 : Nat → Int32} {at_ s0 : Int} {s x : Int32} (I : SInv nx (akF R nO Ct WN) (spF ki fo Ct WN) ho h0 ga v u at_ s0) (h0a : h0 ≤ at_) (h8 : (u 8).toInt = -9) (A : Askd (akF R nO Ct WN at_) (spF ki fo Ct WN at_) u u1 s.toInt) (hR : ∀ k : Nat, k < nO → 0 ≤ R k 5 ∧ R k 5 ≤ 7) (hf : 0 ≤ fo ∧ fo ≤ 9) (ex : x = u1 4 + s) (ha : 0 ≤ at_ ∧ at_ ≤ 100000) (hga : 0 ≤ ga ∧ ga ≤ 23) : MPre (akF R nO Ct WN at_) R nO ga at_ (upd u1 4 x) := by
  have hr := I.2.1
  obtain ⟨g1, g2, g3⟩ := A.gone hf.1 hr ex
  have r9 := A.rgs (fun c w hw => akF_rng hw hR) hr ⟨g2, g3⟩ rfl g1
  have s9 := A.settl (fun c w => akF_idem) (u2 := upd u1 4 x) rfl
  have e8 : (upd u1 4 x 8).toInt = -9 := by rw [upd_off _ _ (by decide), A.1 8 (by decide)]; exact h8
  exact ⟨r9, e8, s9, hR, ha, hga⟩
theorem SFin.zero {nx : Int → Int → Int} {ak sp : Int → Int → Int → Int} {ho h0 ga : Int} {v : Nat → Int32} (hr : Rgs v 84) (he : EntOK ga v) : SFin nx ak sp ho h0 ga 0 v v := ⟨EqS.rf _, hr, he⟩
/-- what a run does of the ship i -/
def RunsTo (nx : Int → Int → Int) (R : Nat → Nat → Nat → Int) (nO : Nat → Nat) (Ct : Nat → Int32) (WN : Nat → Nat → Int32) (ho h0 ga : Int) (n i : Nat) (v u : Nat → Int32) : Prop := SPre (R i) (nO i) ga v → SFin nx (akF (R i) (nO i) Ct WN) (spF (v 1).toInt (v 6).toInt Ct WN) ho h0 ga n v u
theorem RunsTo.zero {nx : Int → Int → Int} {R : Nat → Nat → Nat → Int} {nO : Nat → Nat} {Ct : Nat → Int32} {WN : Nat → Nat → Int32} {ho h0 ga : Int} {n i : Nat} {v : Nat → Int32} (e : n = 0) : RunsTo nx R nO Ct WN ho h0 ga n i v v := by
  subst e
  exact fun h => SFin.zero h.1 h.2.1
theorem run_step {n k : Nat} {P : Nat → (Nat → Int32) → (Nat → Int32) → Prop} {V W : Nat → Nat → Int32} {u : Nat → Int32} (h : ∀ i : Nat, i < n → (i < k → P i (V i) (W i)) ∧ (k ≤ i → W i = V i)) (hu : P k (W k) u) : ∀ i : Nat, i < n → (i < k + 1 → P i (V i) (va_up W k u i)) ∧ (k + 1 ≤ i → va_up W k u i = V i) := by
  intro i hi
  obtain ⟨h1, h2⟩ := h i hi
  by_cases e : i = k
  · subst e
    rw [va_up_self, ← h2 (Nat.le_refl _)]
    exact ⟨fun _ => hu, fun z => absurd z (by omega)⟩
  · rw [va_up_ne _ _ e]
    exact ⟨fun z => h1 (by omega), fun z => h2 (by omega)⟩
theorem nextF_rng {Lc : Nat → Int32} {c w : Int} : nextF Lc c w = -9 ∨ (0 ≤ nextF Lc c w ∧ nextF Lc c w ≤ 159) := by
  unfold nextF
  split
  · exact Or.inr (by omega)
  · exact Or.inl rfl
theorem moveF_congr {nx ak ak' : Int → Int → Int} {ho h : Int} (hn : ∀ c w, nx c w = -9 ∨ (0 ≤ nx c w ∧ nx c w ≤ 159)) (ha : ∀ c w, 0 ≤ c ∧ c ≤ 159 → ak c w = ak' c w) (n : Nat) (s : GS) (hs : 0 ≤ s.1 ∧ s.1 ≤ 159) : moveF nx ak ho h n s = moveF nx ak' ho h n s ∧ 0 ≤ (moveF nx ak ho h n s).1 ∧ (moveF nx ak ho h n s).1 ≤ 159 := by
  induction n generalizing s with
  | zero => exact ⟨rfl, hs⟩
  | succ n ih =>
    obtain ⟨c, g, w, a, m⟩ := s
    show (if m = -9 ∧ needF w ≤ g then (if nx c w = -9 then (c, 0, w, a, m) else if nx c w = ho then (ho, g - needF w, w, a + 1, h) else moveF nx ak ho h n (nx c w, g - needF w, ak (nx c w) w, a + 1, m)) else (c, g, w, a, m)) = (if m = -9 ∧ needF w ≤ g then (if nx c w = -9 then (c, 0, w, a, m) else if nx c w = ho then (ho, g - needF w, w, a + 1, h) else moveF nx ak' ho h n (nx c w, g - needF w, ak' (nx c w) w, a + 1, m)) else (c, g, w, a, m)) ∧ 0 ≤ (if m = -9 ∧ needF w ≤ g then (if nx c w = -9 then (c, 0, w, a, m) else if nx c w = ho then (ho, g - needF w, w, a + 1, h) else moveF nx ak ho h n (nx c w, g - needF w, ak (nx c w) w, a + 1, m)) else (c, g, w, a, m) : GS).1 ∧ (if m = -9 ∧ needF w ≤ g then (if nx c w = -9 then (c, 0, w, a, m) else if nx c w = ho then (ho, g - needF w, w, a + 1, h) else moveF nx ak ho h n (nx c w, g - needF w, ak (nx c w) w, a + 1, m)) else (c, g, w, a, m) : GS).1 ≤ 159
    by_cases c1 : m = -9 ∧ needF w ≤ g
    · rw [if_pos c1, if_pos c1]
      by_cases c2 : nx c w = -9
      · rw [if_pos c2, if_pos c2]
        exact ⟨rfl, hs⟩
      · rw [if_neg c2, if_neg c2]
        have hr := hn c w
        by_cases c3 : nx c w = ho
        · rw [if_pos c3, if_pos c3]
          exact ⟨rfl, by show 0 ≤ ho; omega, by show ho ≤ 159; omega⟩
        · rw [if_neg c3, if_neg c3, ← ha (nx c w) w (by omega)]
          exact ih _ (by show 0 ≤ nx c w ∧ nx c w ≤ 159; omega)
    · rw [if_neg c1, if_neg c1]
      exact ⟨rfl, hs⟩
theorem hourF_congr {nx ak ak' sp sp' : Int → Int → Int} {ho h : Int} (hn : ∀ c w, nx c w = -9 ∨ (0 ≤ nx c w ∧ nx c w ≤ 159)) (ha : ∀ c w, 0 ≤ c ∧ c ≤ 159 → ak c w = ak' c w) (hp : ∀ c w, 0 ≤ c ∧ c ≤ 159 → sp c w = sp' c w) (s : GS) (hs : 0 ≤ s.1 ∧ s.1 ≤ 159) : hourF nx ak sp ho h s = hourF nx ak' sp' ho h s ∧ 0 ≤ (hourF nx ak sp ho h s).1 ∧ (hourF nx ak sp ho h s).1 ≤ 159 := by
  by_cases z : s.2.2.2.2 = -9
  · obtain ⟨c, g, w, a, m⟩ := s
    have z : m = -9 := z
    subst z
    rw [hourF_eq, hourF_eq, ← ha c w hs, ← hp c (ak c w) hs]
    exact moveF_congr hn ha 3 _ hs
  · rw [hourF_home z, hourF_home z]
    exact ⟨rfl, hs⟩
theorem runF_congr {nx : Int → Int → Int} {ak ak' sp sp' : Int → Int → Int → Int} {ho h0 : Int} (hn : ∀ c w, nx c w = -9 ∨ (0 ≤ nx c w ∧ nx c w ≤ 159)) (n : Nat) (ha : ∀ h c w, 0 ≤ c ∧ c ≤ 159 → ak h c w = ak' h c w) (hp : ∀ h c w, 0 ≤ c ∧ c ≤ 159 → sp h c w = sp' h c w) (s : GS) (hs : 0 ≤ s.1 ∧ s.1 ≤ 159) : runF nx ak sp ho h0 n s = runF nx ak' sp' ho h0 n s ∧ 0 ≤ (runF nx ak sp ho h0 n s).1 ∧ (runF nx ak sp ho h0 n s).1 ≤ 159 := by
  induction n with
  | zero => exact ⟨rfl, hs⟩
  | succ n ih =>
    show hourF nx (ak (h0 + n)) (sp (h0 + n)) ho (h0 + n) (runF nx ak sp ho h0 n s) = hourF nx (ak' (h0 + n)) (sp' (h0 + n)) ho (h0 + n) (runF nx ak' sp' ho h0 n s) ∧ 0 ≤ (hourF nx (ak (h0 + n)) (sp (h0 + n)) ho (h0 + n) (runF nx ak sp ho h0 n s)).1 ∧ (hourF nx (ak (h0 + n)) (sp (h0 + n)) ho (h0 + n) (runF nx ak sp ho h0 n s)).1 ≤ 159
    rw [← ih.1]
    exact hourF_congr hn (ha _) (hp _) _ ih.2
