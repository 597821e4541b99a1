/-! the going of a ship, hour by hour: what both sides do -/
/-- the wind of a cell in an hour: Ct tells which charts are there, WN a month's byte of a cell -/
def windH (Ct : Nat → Int32) (WN : Nat → Nat → Int32) (c h : Int) : Int := if (Ct (h / 720 % 12).toNat).toInt ≠ 0 then windB (WN (h / 720 % 12).toNat c.toNat) else 0
theorem windH_congr {Ct : Nat → Int32} {WN WM : Nat → Nat → Int32} {c h : Int} (hc : 0 ≤ c ∧ c ≤ 159) (hw : ∀ m j : Nat, m < 12 → j < 160 → WN m j = WM m j) : windH Ct WN c h = windH Ct WM c h := by
  unfold windH
  rw [hw _ _ (by omega) (by omega)]
theorem windH_rng (Ct : Nat → Int32) (WN : Nat → Nat → Int32) (c h : Int) : 0 ≤ windH Ct WN c h ∧ windH Ct WN c h ≤ 79 := by
  unfold windH windB
  (repeat' split) <;> omega
/-- within one month the wind stays -/
theorem windH_month {Ct : Nat → Int32} {WN : Nat → Nat → Int32} {c h h' : Int} (e : h / 720 = h' / 720) : windH Ct WN c h = windH Ct WN c h' := by
  unfold windH
  rw [e]
/-- orders: row k: west, east, north, south, strength, way -/
abbrev fitsO (R : Nat → Nat → Int) (k : Nat) (c st : Int) : Prop := R k 0 ≤ c % 16 ∧ c % 16 ≤ R k 1 ∧ R k 2 ≤ c / 16 ∧ c / 16 ≤ R k 3 ∧ R k 4 ≤ st
/-- the way told by the first that fits of the first n -/
def askTo (R : Nat → Nat → Int) (c st : Int) : Nat → Option Int
  | 0 => none
  | n + 1 => match askTo R c st n with
    | some w => some w
    | none => if fitsO R n c st then some (R n 5) else none
theorem askTo_none {R : Nat → Nat → Int} {c st : Int} {n : Nat} (h : askTo R c st n = none) (hf : ¬ fitsO R n c st) : askTo R c st (n + 1) = none := by
  show (match askTo R c st n with | some w => some w | none => if fitsO R n c st then some (R n 5) else none) = none
  rw [h]
  exact if_neg hf
theorem askTo_some {R : Nat → Nat → Int} {c st : Int} {k n : Nat} (h : askTo R c st k = none) (hf : fitsO R k c st) (hk : k < n) : askTo R c st n = some (R k 5) := by
  induction n with
  | zero => omega
  | succ n ih =>
    show (match askTo R c st n with | some w => some w | none => if fitsO R n c st then some (R n 5) else none) = _
    by_cases e : k = n
    · subst e
      rw [h]
      exact if_pos hf
    · rw [ih (by omega)]
def askF (R : Nat → Nat → Int) (n : Nat) (c st w : Int) : Int := (askTo R c st n).getD w
/-- asked again it tells the same -/
theorem askF_idem (R : Nat → Nat → Int) (n : Nat) (c st w : Int) : askF R n c st (askF R n c st w) = askF R n c st w := by
  unfold askF
  cases askTo R c st n <;> rfl
theorem askTo_congr {R S : Nat → Nat → Int} {c st : Int} {n : Nat} (h : ∀ k j : Nat, k < n → j < 6 → R k j = S k j) : askTo R c st n = askTo S c st n := by
  induction n with
  | zero => rfl
  | succ n ih =>
    show (match askTo R c st n with | some w => some w | none => if fitsO R n c st then some (R n 5) else none) = (match askTo S c st n with | some w => some w | none => if fitsO S n c st then some (S n 5) else none)
    rw [ih (fun k j hk hj => h k j (by omega) hj)]
    have e : ∀ j, j < 6 → R n j = S n j := fun j hj => h n j (by omega) hj
    rw [e 5 (by omega)]
    unfold fitsO
    rw [e 0 (by omega), e 1 (by omega), e 2 (by omega), e 3 (by omega), e 4 (by omega)]
theorem askF_congr {R S : Nat → Nat → Int} {n : Nat} {c st w : Int} (h : ∀ k j : Nat, k < n → j < 6 → R k j = S k j) : askF R n c st w = askF S n c st w := by
  unfold askF
  rw [askTo_congr h]
theorem askF_rng {R : Nat → Nat → Int} {n : Nat} {c st w : Int} (hw : 0 ≤ w ∧ w ≤ 7) (h : ∀ k : Nat, k < n → 0 ≤ R k 5 ∧ R k 5 ≤ 7) : 0 ≤ askF R n c st w ∧ askF R n c st w ≤ 7 := by
  unfold askF
  have key : ∀ m, m ≤ n → ∀ x, askTo R c st m = some x → 0 ≤ x ∧ x ≤ 7 := by
    intro m
    induction m with
    | zero => intro _ x hx; cases hx
    | succ m ih =>
      intro hm x hx
      have hx : (match askTo R c st m with | some w => some w | none => if fitsO R m c st then some (R m 5) else none) = some x := hx
      cases hq : askTo R c st m with
      | some y => rewrite [hq] at hx; cases hx; exact ih (by omega) _ hq
      | none =>
        rw [hq] at hx
        by_cases hf : fitsO R m c st
        · rewrite [if_pos hf] at hx; cases hx; exact h m (by omega)
        · rewrite [if_neg hf] at hx; cases hx
  cases hq : askTo R c st n with
  | none => exact hw
  | some x => exact key n (Nat.le_refl _) x hq
def needF (w : Int) : Int := if w % 2 = 0 then 60 else 85
/-- a ship under way: cell, gone, way, how many cells it came to, the hour at which it was HOME -/
abbrev GS := Int × Int × Int × Int32 × Int
/-- on, as long as enough is gone -/
def moveF (nx ak : Int → Int → Int) (ho h : Int) : Nat → GS → GS
  | 0, s => s
  | n + 1, (c, g, w, a, m) => if m = -9 ∧ needF w ≤ g then (if nx c w = -9 then (c, 0, w, a, m) else if nx c w = ho then (ho, g - needF w, w, a + 1, h) else moveF nx ak ho h n (nx c w, g - needF w, ak (nx c w) w, a + 1, m)) else (c, g, w, a, m)
/-- one hour -/
def hourF (nx ak sp : Int → Int → Int) (ho h : Int) : GS → GS
  | (c, g, w, a, m) => if m = -9 then moveF nx ak ho h 3 (c, g + sp c (ak c w), ak c w, a, m) else (c, g, w, a, m)
/-- n hours from the hour h on -/
def runF (nx : Int → Int → Int) (ak sp : Int → Int → Int → Int) (ho h : Int) : Nat → GS → GS
  | 0, s => s
  | n + 1, s => hourF nx (ak (h + n)) (sp (h + n)) ho (h + n) (runF nx ak sp ho h n s)
theorem needF_rng (w : Int) : 60 ≤ needF w ∧ needF w ≤ 85 := by
  unfold needF
  split <;> omega
/-- three are enough: nobody has more than 129 gone -/
theorem moveF_more {nx ak : Int → Int → Int} {ho h : Int} {n m : Nat} {s : GS} (hn : s.2.1 < 60 * (n : Int)) (hm : s.2.1 < 60 * (m : Int)) : moveF nx ak ho h n s = moveF nx ak ho h m s := by
  induction n generalizing m s with
  | zero =>
    obtain ⟨c, g, w, a, q⟩ := s
    have hg : g < 0 := by simpa using hn
    cases m with
    | zero => rfl
    | succ m =>
      have := needF_rng w
      show _ = (if q = -9 ∧ needF w ≤ g then _ else (c, g, w, a, q))
      rw [if_neg (by omega)]
      rfl
  | succ n ih =>
    obtain ⟨c, g, w, a, q⟩ := s
    have hg : g < 60 * ((n + 1 : Nat) : Int) := hn
    cases m with
    | zero =>
      have hg0 : g < 0 := by simpa using hm
      have := needF_rng w
      show (if q = -9 ∧ needF w ≤ g then _ else (c, g, w, a, q)) = _
      rw [if_neg (by omega)]
      rfl
    | succ m =>
      have hg2 : g < 60 * ((m + 1 : Nat) : Int) := hm
      have := needF_rng w
      show (if q = -9 ∧ needF w ≤ g then (if nx c w = -9 then (c, 0, w, a, q) else if nx c w = ho then (ho, g - needF w, w, a + 1, h) else moveF nx ak ho h n (nx c w, g - needF w, ak (nx c w) w, a + 1, q)) else (c, g, w, a, q)) = (if q = -9 ∧ needF w ≤ g then (if nx c w = -9 then (c, 0, w, a, q) else if nx c w = ho then (ho, g - needF w, w, a + 1, h) else moveF nx ak ho h m (nx c w, g - needF w, ak (nx c w) w, a + 1, q)) else (c, g, w, a, q))
      by_cases c1 : q = -9 ∧ needF w ≤ g
      · rw [if_pos c1, if_pos c1]
        by_cases c2 : nx c w = -9
        · rw [if_pos c2, if_pos c2]
        · rw [if_neg c2, if_neg c2]
          by_cases c3 : nx c w = ho
          · rw [if_pos c3, if_pos c3]
          · rw [if_neg c3, if_neg c3]
            exact ih (by show g - needF w < _; omega) (by show g - needF w < _; omega)
      · rw [if_neg c1, if_neg c1]
/-- the class's orders, the reference's rows of a ship -/
def ordC (OW : Nat → Nat → Int32) (k j : Nat) : Int := (OW k (if j = 5 then 0 else j + 1)).toInt
def ordM (Kro : Nat → Int32) (s k j : Nat) : Int := (Kro (120 * s + 6 * k + j)).toInt
theorem windH_M {Kic Kwi : Nat → Int32} {c h : Int} {m : Int32} (hm : m.toInt = h / 720 % 12) : windH Kic (fun m9 j9 => Kwi (160 * m9 + j9)) c h = if (Kic m.toNatClampNeg).toInt ≠ 0 then windB (Kwi (160 * m.toNatClampNeg + c.toNat)) else 0 := by
  have e : (h / 720 % 12).toNat = m.toNatClampNeg := by
    show _ = m.toInt.toNat
    rw [hm]
  unfold windH
  rw [e]
theorem windIn_H {Ct : Nat → Int32} {cw : Nat → Nat → Int32} {m c : Int32} {h : Int} (hh : 0 ≤ h) (hm : m.toInt = h / 720 % 12) (hc : 0 ≤ c.toInt ∧ c.toInt ≤ 159) : (if ((0 ≤ m.toInt ∧ m.toInt ≤ 11) ∧ (0 ≤ c.toInt ∧ c.toInt ≤ 159) ∧ (Ct m.toNatClampNeg).toInt ≠ 0) then windB (cw m.toNatClampNeg c.toNatClampNeg) else 0) = windH Ct cw c.toInt h := by
  have e : m.toNatClampNeg = (h / 720 % 12).toNat := by
    show m.toInt.toNat = _
    rw [hm]
  unfold windH
  rw [← e]
  show _ = if (Ct m.toNatClampNeg).toInt ≠ 0 then windB (cw m.toNatClampNeg c.toNatClampNeg) else 0
  by_cases q : (Ct m.toNatClampNeg).toInt ≠ 0
  · rw [if_pos ⟨by omega, hc, q⟩, if_pos q]
  · rw [if_neg (fun z => q z.2.2), if_neg q]
