/-! what the pool holds: ships, lists, orders, sights -/
abbrev shipE (v : Nat → Int32) (oa ia : Nat) : va_E := .inr (4, [.int (v 0), .int (v 1), .int (v 2), .ref oa, .ref ia, .int (v 3), .int (v 4), .int (v 5), .int (v 6), .int (v 7), .int (v 8), .int (v 9), .int (v 10), .int (v 11)])
abbrev ordE (w : Nat → Int32) : va_E := .inr (1, [.int (w 0), .int (w 1), .int (w 2), .int (w 3), .int (w 4), .int (w 5)])
abbrev sigE (w : Nat → Int32) : va_E := .inr (5, [.int (w 0), .int (w 1)])
abbrev lstE (mc : Int32) (ar : Nat) (n : Int32) : va_E := .inr (0, [.int mc, .ref ar, .int n])
abbrev rowE (cO : ClassId) (N : Nat) (h : Nat → Option Nat) : va_E := .inl (cO, N, .inr (.inr (.inr (.inr h))))
theorem va_self {f : Nat → va_E} {a : Nat} {e : va_E} (h : f a = e) : va_up f a e = f := by
  funext j
  by_cases hj : j = a
  · subst hj; rw [va_up_self, h]
  · rw [va_up_ne _ _ hj]
/-- a list of the n objects g 0 .. at o: its row stands once it has had one -/
def LstAt (L : List Nat) (f : Nat → va_E) (te : Nat) (cO : ClassId) (o n : Nat) (g : Nat → Nat) : Prop :=
  o ∈ L ∧ n ≤ 100 ∧ ∃ (mc : Int32) (ar : Nat), f o = lstE mc ar (nI n) ∧ ((n = 0 ∧ ar = te) ∨ ∃ (N : Nat) (h : Nat → Option Nat), ar ∈ L ∧ f ar = rowE cO N h ∧ n ≤ N ∧ N ≤ 200 ∧ (∀ k, k < n → h k = some (g k)) ∧ 0 < n)
theorem LstAt.obj {L : List Nat} {f : Nat → va_E} {te : Nat} {cO : ClassId} {o n : Nat} {g : Nat → Nat} (h : LstAt L f te cO o n g) : ∃ (mc : Int32) (ar : Nat), o ∈ L ∧ f o = lstE mc ar (nI n) ∧ (nI n).toInt = (n : Int) ∧ n ≤ 100 := by
  obtain ⟨h1, h2, mc, ar, h3, -⟩ := h
  exact ⟨mc, ar, h1, h3, nI_toInt (by omega), h2⟩
theorem LstAt.full {L : List Nat} {f : Nat → va_E} {te : Nat} {cO : ClassId} {o n : Nat} {g : Nat → Nat} (h : LstAt L f te cO o n g) (hn : 0 < n) : ∃ (mc : Int32) (ar N : Nat) (r : Nat → Option Nat), (o ∈ L ∧ f o = lstE mc ar (nI n)) ∧ (ar ∈ L ∧ f ar = rowE cO N r) ∧ n ≤ N ∧ N ≤ 200 ∧ (∀ k, k < n → r k = some (g k)) ∧ (nI n).toInt = (n : Int) ∧ n ≤ 100 := by
  obtain ⟨h1, h2, mc, ar, h3, h4⟩ := h
  rcases h4 with ⟨h5, -⟩ | ⟨N, r, h5, h6, h7, h8, h9⟩
  · omega
  · exact ⟨mc, ar, N, r, ⟨h1, h3⟩, ⟨h5, h6⟩, h7, h8, h9.1, nI_toInt (by omega), h2⟩
theorem LstAt.ship {L : List Nat} {f f2 : Nat → va_E} {te : Nat} {cO : ClassId} {o n : Nat} {g : Nat → Nat} {a : Nat} {e : va_E} {l : List Value} (h : LstAt L f te cO o n g) (e2 : f2 = va_up f a e) (hv : f a = .inr (4, l)) : LstAt L f2 te cO o n g := by
  obtain ⟨h1, h2, mc, ar, h3, h4⟩ := h
  refine ⟨h1, h2, mc, ar, ?_, ?_⟩
  · rw [e2, va_up_ne _ _ (pl_ne h3 hv (fun z => by cases z))]; exact h3
  · rcases h4 with h5 | ⟨N, r, h5, h6, h7⟩
    · exact Or.inl h5
    · exact Or.inr ⟨N, r, h5, by rw [e2, va_up_ne _ _ (pl_ne h6 hv (fun z => by cases z))]; exact h6, h7⟩
/-- a ship's orders, a ship's sights -/
def Ords (L : List Nat) (f : Nat → va_E) (te : Nat) (cO : ClassId) (o n : Nat) (w : Nat → Nat → Int32) : Prop := ∃ g : Nat → Nat, LstAt L f te cO o n g ∧ ∀ k, k < n → g k ∈ L ∧ f (g k) = ordE (w k)
def Sigs (L : List Nat) (f : Nat → va_E) (te : Nat) (cO : ClassId) (o n : Nat) (w : Nat → Nat → Int32) : Prop := ∃ g : Nat → Nat, LstAt L f te cO o n g ∧ ∀ k, k < n → g k ∈ L ∧ f (g k) = sigE (w k)
theorem Ords.ship {L : List Nat} {f f2 : Nat → va_E} {te : Nat} {cO : ClassId} {o n : Nat} {w : Nat → Nat → Int32} {a : Nat} {e : va_E} {l : List Value} (h : Ords L f te cO o n w) (e2 : f2 = va_up f a e) (hv : f a = .inr (4, l)) : Ords L f2 te cO o n w := by
  obtain ⟨g, h1, h2⟩ := h
  refine ⟨g, h1.ship e2 hv, fun k hk => ⟨(h2 k hk).1, ?_⟩⟩
  rw [e2, va_up_ne _ _ (pl_ne (h2 k hk).2 hv (fun z => by cases z))]; exact (h2 k hk).2
theorem Sigs.ship {L : List Nat} {f f2 : Nat → va_E} {te : Nat} {cO : ClassId} {o n : Nat} {w : Nat → Nat → Int32} {a : Nat} {e : va_E} {l : List Value} (h : Sigs L f te cO o n w) (e2 : f2 = va_up f a e) (hv : f a = .inr (4, l)) : Sigs L f2 te cO o n w := by
  obtain ⟨g, h1, h2⟩ := h
  refine ⟨g, h1.ship e2 hv, fun k hk => ⟨(h2 k hk).1, ?_⟩⟩
  rw [e2, va_up_ne _ _ (pl_ne (h2 k hk).2 hv (fun z => by cases z))]; exact (h2 k hk).2
theorem tn_lt {i : Int32} {n : Nat} (l : 0 ≤ i.toInt) (u : i.toInt < (n : Int)) : i.toNatClampNeg < n := by
  show i.toInt.toNat < n
  omega
/-- what no going of a ship changes: its number, kind, chests, foulness -/
def KeptV (w u : Nat → Int32) : Prop := u 0 = w 0 ∧ u 1 = w 1 ∧ u 2 = w 2 ∧ u 6 = w 6 ∧ u 10 = w 10 ∧ u 11 = w 11
theorem KeptV.rf {w : Nat → Int32} : KeptV w w := ⟨rfl, rfl, rfl, rfl, rfl, rfl⟩
theorem KeptV.tr {w u z : Nat → Int32} (h : KeptV w u) (g : KeptV u z) : KeptV w z := ⟨g.1.trans h.1, g.2.1.trans h.2.1, g.2.2.1.trans h.2.2.1, g.2.2.2.1.trans h.2.2.2.1, g.2.2.2.2.1.trans h.2.2.2.2.1, g.2.2.2.2.2.trans h.2.2.2.2.2⟩
theorem KeptV.up {w u : Nat → Int32} {j : Nat} {x : Int32} (h : KeptV w u) (hj : 0 ≠ j ∧ 1 ≠ j ∧ 2 ≠ j ∧ 6 ≠ j ∧ 10 ≠ j ∧ 11 ≠ j) : KeptV w (upd u j x) := ⟨(upd_off u x hj.1).trans h.1, (upd_off u x hj.2.1).trans h.2.1, (upd_off u x hj.2.2.1).trans h.2.2.1, (upd_off u x hj.2.2.2.1).trans h.2.2.2.1, (upd_off u x hj.2.2.2.2.1).trans h.2.2.2.2.1, (upd_off u x hj.2.2.2.2.2).trans h.2.2.2.2.2⟩
def Kept (V U : Nat → Nat → Int32) : Prop := ∀ i, KeptV (V i) (U i)
theorem Kept.rf {V : Nat → Nat → Int32} : Kept V V := fun _ => KeptV.rf
theorem Kept.up {V U : Nat → Nat → Int32} {i : Nat} {v : Nat → Int32} (h : Kept V U) (g : KeptV (U i) v) : Kept V (va_up U i v) := fun j => by
  by_cases e : j = i
  · subst e; rw [va_up_self]; exact (h j).tr g
  · rw [va_up_ne _ _ e]; exact h j
/-! speeds -/
def eig (a b : Int) : Int := if b < a then (if 4 < a - b then 8 - (a - b) else a - b) else (if 4 < b - a then 8 - (b - a) else b - a)
def sailSp (k n w : Int) : Int := if n = 1 then w else if n = 2 then (if k = 3 then 4 * w else if k = 1 then 3 * w else 2 * w) else if n = 3 then (if k = 3 then 5 * w else if k = 1 then 4 * w else 3 * w) else if n = 4 then 2 * w else 0
def spd (k fo way fr w : Int) : Int := if k = 2 then (if fo < 8 then 8 - fo else 0) else (if fo < sailSp k (eig way fr) w then sailSp k (eig way fr) w - fo else 0)
theorem eig_rng {a b : Int} (ha : 0 ≤ a ∧ a ≤ 7) (hb : 0 ≤ b ∧ b ≤ 7) : 0 ≤ eig a b ∧ eig a b ≤ 4 := by
  unfold eig
  (repeat' split) <;> omega
theorem ab_k {x z : Int32} (h : z = if 0 ≤ x then x else 0 - x) (hx : -1000 ≤ x.toInt ∧ x.toInt ≤ 1000) : z.toInt = if x.toInt < 0 then -x.toInt else x.toInt := by
  by_cases c : 0 ≤ x
  · rw [if_pos c] at h
    rw [Int32.le_iff_toInt_le] at c
    simp only [Int32.reduceToInt] at c
    rw [h, if_neg (by omega)]
  · rw [if_neg c] at h
    rw [Int32.le_iff_toInt_le] at c
    simp only [Int32.reduceToInt] at c
    have h2 : z.toInt = 0 - x.toInt := su_k h (by decide) rfl (by omega) (by omega)
    rw [if_pos (by omega)]
    omega
theorem mi_k {x y z : Int32} (h : z = if y < x then y else x) : z.toInt = if y.toInt < x.toInt then y.toInt else x.toInt := by
  by_cases c : y < x
  · rw [if_pos c] at h
    rw [Int32.lt_iff_toInt_lt] at c
    rw [h, if_pos c]
  · rw [if_neg c] at h
    rw [Int32.lt_iff_toInt_lt] at c
    rw [h, if_neg c]
theorem ma_k {x y z : Int32} (h : z = if x < y then y else x) : z.toInt = if x.toInt < y.toInt then y.toInt else x.toInt := by
  by_cases c : x < y
  · rw [if_pos c] at h
    rw [Int32.lt_iff_toInt_lt] at c
    rw [h, if_pos c]
  · rw [if_neg c] at h
    rw [Int32.lt_iff_toInt_lt] at c
    rw [h, if_neg c]
theorem mul5 {x y z : Int32} (e : z = x * y) (hx : 0 ≤ x.toInt ∧ x.toInt ≤ 5) (hy : 0 ≤ y.toInt ∧ y.toInt ≤ 9) : z.toInt = if x.toInt = 5 then 5 * y.toInt else if x.toInt = 4 then 4 * y.toInt else if x.toInt = 3 then 3 * y.toInt else if x.toInt = 2 then 2 * y.toInt else if x.toInt = 1 then y.toInt else 0 := by
  have hp : -2147483648 ≤ x.toInt * y.toInt ∧ x.toInt * y.toInt < 2147483648 := by
    rcases (show x.toInt = 0 ∨ x.toInt = 1 ∨ x.toInt = 2 ∨ x.toInt = 3 ∨ x.toInt = 4 ∨ x.toInt = 5 by omega) with h | h | h | h | h | h <;> rw [h] <;> omega
  have h2 : z.toInt = x.toInt * y.toInt := mu_k e rfl rfl hp.1 hp.2
  rw [h2]
  rcases (show x.toInt = 0 ∨ x.toInt = 1 ∨ x.toInt = 2 ∨ x.toInt = 3 ∨ x.toInt = 4 ∨ x.toInt = 5 by omega) with h | h | h | h | h | h <;> rw [h] <;> (repeat' split) <;> omega
theorem spd_of {k fo n w b mo m2 b2 r way fr : Int} (hn : n = eig way fr) (h4 : 0 ≤ n ∧ n ≤ 4) (hb : b = if n = 4 then 2 * w else if n = 3 then 3 * w else if n = 2 then 2 * w else if n = 1 then w else 0) (hmo : mo = if (n = 2 ∨ n = 3) then w else 0) (hm2 : m2 = if k = 1 then mo else if k = 3 then 2 * mo else 0) (hb2 : b2 = if k = 2 then 8 else b + m2) (hr : r = if fo < b2 then b2 - fo else 0) : r = spd k fo way fr w := by
  have key : (if k = 2 then 8 else sailSp k n w) = b2 := by
    rw [hb2, hm2, hmo, hb]
    unfold sailSp
    rcases (show n = 0 ∨ n = 1 ∨ n = 2 ∨ n = 3 ∨ n = 4 by omega) with h | h | h | h | h <;> subst h <;> (repeat' split) <;> omega
  unfold spd
  rw [← hn, hr, ← key]
  by_cases k2 : k = 2
  · rw [if_pos k2, if_pos k2]
  · rw [if_neg k2, if_neg k2]
/-! winds -/
theorem byte_rng {x : Int32} (h : fits .byte (.int x) = true) : -128 ≤ x.toInt ∧ x.toInt ≤ 127 := by
  have h1 : (-128 : Int32).toInt = -128 := by decide
  have h2 : (127 : Int32).toInt = 127 := by decide
  simp only [fits, Bool.and_eq_true, decide_eq_true_eq, Int32.le_iff_toInt_le, h1, h2] at h
  exact h
theorem nar_b (z : Int32) : vp_nar .byte z.toInt8.toInt32 = z.toInt8.toInt32 := by
  unfold vp_nar
  rw [pk_nb]
def wsum (f : Nat → Int) : Nat → Int
  | 0 => 0
  | n + 1 => wsum f n + f n
theorem wsum_eq {f g : Nat → Int} {n : Nat} (h : ∀ k, k < n → f k = g k) : wsum f n = wsum g n := by
  induction n with
  | zero => rfl
  | succ n ih =>
    show wsum f n + f n = wsum g n + g n
    rw [ih (fun k hk => h k (by omega)), h n (by omega)]
theorem upto_eq {f g : Nat → Int32} {i v : Int32} (h : ∀ j : Nat, (j : Int) < i.toInt → f j = g j) (hi0 : 0 ≤ i.toInt) (hv : v = g i.toNatClampNeg) : ∀ j : Nat, (j : Int) < i.toInt + 1 → upd f i.toNatClampNeg v j = g j := fun j hj => by
  have hk : (i.toNatClampNeg : Int) = i.toInt := Int.toNat_of_nonneg hi0
  by_cases e : j = i.toNatClampNeg
  · rw [e, upd_at, hv]
  · rw [upd_off f v e]; exact h j (by omega)
theorem put_eq {w K g : Nat → Int32} {B : Nat} {i x v : Int32} (h : ∀ t : Nat, w t = if (B ≤ t ∧ (t : Int) < (B : Int) + i.toInt) then g (t - B) else K t) (hi0 : 0 ≤ i.toInt) (hx : x.toInt = (B : Int) + i.toInt) (hv : v = g i.toNatClampNeg) : ∀ t : Nat, upd w x.toNatClampNeg v t = if (B ≤ t ∧ (t : Int) < (B : Int) + (i.toInt + 1)) then g (t - B) else K t := fun t => by
  have hk : (i.toNatClampNeg : Int) = i.toInt := Int.toNat_of_nonneg hi0
  have hxk : (x.toNatClampNeg : Int) = x.toInt := Int.toNat_of_nonneg (by omega)
  by_cases e : t = x.toNatClampNeg
  · rw [e, upd_at, if_pos ⟨by omega, by omega⟩, hv, show x.toNatClampNeg - B = i.toNatClampNeg by omega]
  · rw [upd_off w v e, h t]
    by_cases c : B ≤ t ∧ (t : Int) < (B : Int) + i.toInt
    · rw [if_pos c, if_pos ⟨c.1, by omega⟩]
    · rw [if_neg c, if_neg (fun z => c ⟨z.1, by omega⟩)]
/-! sights of one ship, each later than the one before -/
abbrev BefK (SW : Nat → Nat → Int32) (n : Nat) (h : Int) (k : Nat) : Prop := k < n ∧ (SW k 1).toInt ≤ h ∧ ∀ j : Nat, k < j → j < n → h < (SW j 1).toInt
abbrev BehK (SW : Nat → Nat → Int32) (n : Nat) (h : Int) (k : Nat) : Prop := k < n ∧ h ≤ (SW k 1).toInt ∧ ∀ j : Nat, j < k → (SW j 1).toInt < h
abbrev NoBef (SW : Nat → Nat → Int32) (n : Nat) (h : Int) : Prop := ∀ j : Nat, j < n → h < (SW j 1).toInt
abbrev NoBeh (SW : Nat → Nat → Int32) (n : Nat) (h : Int) : Prop := ∀ j : Nat, j < n → (SW j 1).toInt < h
theorem BefK.uniq {SW : Nat → Nat → Int32} {n : Nat} {h : Int} {k k' : Nat} (a : BefK SW n h k) (b : BefK SW n h k') : k = k' := by
  rcases Nat.lt_trichotomy k k' with c | c | c
  · have := a.2.2 k' c b.1; have := b.2.1; omega
  · exact c
  · have := b.2.2 k c a.1; have := a.2.1; omega
theorem BehK.uniq {SW : Nat → Nat → Int32} {n : Nat} {h : Int} {k k' : Nat} (a : BehK SW n h k) (b : BehK SW n h k') : k = k' := by
  rcases Nat.lt_trichotomy k k' with c | c | c
  · have := b.2.2 k c; have := a.2.1; omega
  · exact c
  · have := a.2.2 k' c; have := b.2.1; omega
theorem bef_or (SW : Nat → Nat → Int32) (n : Nat) (h : Int) : NoBef SW n h ∨ ∃ k, BefK SW n h k := by
  induction n with
  | zero => exact Or.inl (fun j hj => absurd hj (Nat.not_lt_zero j))
  | succ n ih =>
    by_cases c : (SW n 1).toInt ≤ h
    · exact Or.inr ⟨n, by omega, c, fun j h1 h2 => by omega⟩
    · rcases ih with ih | ⟨k, h1, h2, h3⟩
      · refine Or.inl (fun j hj => ?_)
        by_cases e : j = n
        · rw [e]; omega
        · exact ih j (by omega)
      · refine Or.inr ⟨k, by omega, h2, fun j h4 h5 => ?_⟩
        by_cases e : j = n
        · rw [e]; omega
        · exact h3 j h4 (by omega)
theorem beh_or (SW : Nat → Nat → Int32) (n : Nat) (h : Int) : NoBeh SW n h ∨ ∃ k, BehK SW n h k := by
  induction n with
  | zero => exact Or.inl (fun j hj => absurd hj (Nat.not_lt_zero j))
  | succ n ih =>
    rcases ih with ih | ⟨k, h1, h2, h3⟩
    · by_cases c : h ≤ (SW n 1).toInt
      · exact Or.inr ⟨n, by omega, c, fun j hj => ih j hj⟩
      · refine Or.inl (fun j hj => ?_)
        by_cases e : j = n
        · rw [e]; omega
        · exact ih j (by omega)
    · exact Or.inr ⟨k, by omega, h2, h3⟩
/-! distances -/
def farI (c ho : Int) : Int := if absI (c % 16 - ho % 16) < absI (c / 16 - ho / 16) then absI (c / 16 - ho / 16) else absI (c % 16 - ho % 16)
theorem farI_rng {c ho : Int} (hc : 0 ≤ c ∧ c ≤ 159) (hh : 0 ≤ ho ∧ ho ≤ 159) : 0 ≤ farI c ho ∧ farI c ho ≤ 15 := by
  unfold farI absI
  (repeat' split) <;> omega
def leastV (fb fa tb ta h : Int) : Int := max 0 (max (fb - (h - tb)) (fa - (ta - h)))
def mostV (fb fa tb ta h : Int) : Int := min (fb + (h - tb)) (fa + (ta - h))
/-- the numbers of a ship's sights are what they should be -/
def SWR (SW : Nat → Nat → Int32) (n : Nat) : Prop := ∀ k, k < n → (0 ≤ (SW k 0).toInt ∧ (SW k 0).toInt ≤ 159) ∧ (0 ≤ (SW k 1).toInt ∧ (SW k 1).toInt ≤ 100000)
theorem least_of {fb fa tb ta h x1 x2 x3 x4 m r : Int} (h1 : x1 = h - tb) (h2 : x2 = fb - x1) (h3 : x3 = ta - h) (h4 : x4 = fa - x3) (hm : m = if x2 < x4 then x4 else x2) (hr : r = if 0 < m then m else 0) : r = leastV fb fa tb ta h := by
  unfold leastV
  subst h1 h2 h3 h4
  split at hm <;> split at hr <;> omega
theorem most_of {fb fa tb ta h x1 x2 x3 x4 r : Int} (h1 : x1 = h - tb) (h2 : x2 = fb + x1) (h3 : x3 = ta - h) (h4 : x4 = fa + x3) (hr : r = if x4 < x2 then x4 else x2) : r = mostV fb fa tb ta h := by
  unfold mostV
  subst h1 h2 h3 h4
  split at hr <;> omega
def aheadV (m1 l2 m2 l1 : Int) : Int := if m1 < l2 then 0 else if m2 < l1 then 1 else 2
/-! the same among the rows of all -/
abbrev BefM (Kss Ksh : Nat → Int32) (sg : Int32) (sp h : Int) (b : Nat) : Prop := (b : Int) < sg.toInt ∧ (Kss b).toInt = sp ∧ (Ksh b).toInt ≤ h ∧ ∀ j : Nat, b < j → (j : Int) < sg.toInt → (Kss j).toInt = sp → h < (Ksh j).toInt
abbrev BehM (Kss Ksh : Nat → Int32) (sg : Int32) (sp h : Int) (b : Nat) : Prop := (b : Int) < sg.toInt ∧ (Kss b).toInt = sp ∧ h ≤ (Ksh b).toInt ∧ ∀ j : Nat, j < b → (Kss j).toInt = sp → (Ksh j).toInt < h
abbrev NoBefM (Kss Ksh : Nat → Int32) (sg : Int32) (sp h : Int) : Prop := ∀ j : Nat, (j : Int) < sg.toInt → (Kss j).toInt = sp → h < (Ksh j).toInt
abbrev NoBehM (Kss Ksh : Nat → Int32) (sg : Int32) (sp h : Int) : Prop := ∀ j : Nat, (j : Int) < sg.toInt → (Kss j).toInt = sp → (Ksh j).toInt < h
theorem BefM.uniq {Kss Ksh : Nat → Int32} {sg : Int32} {sp h : Int} {k k' : Nat} (a : BefM Kss Ksh sg sp h k) (b : BefM Kss Ksh sg sp h k') : k = k' := by
  rcases Nat.lt_trichotomy k k' with c | c | c
  · have := a.2.2.2 k' c b.1 b.2.1; have := b.2.2.1; omega
  · exact c
  · have := b.2.2.2 k c a.1 a.2.1; have := a.2.2.1; omega
theorem BehM.uniq {Kss Ksh : Nat → Int32} {sg : Int32} {sp h : Int} {k k' : Nat} (a : BehM Kss Ksh sg sp h k) (b : BehM Kss Ksh sg sp h k') : k = k' := by
  rcases Nat.lt_trichotomy k k' with c | c | c
  · have := b.2.2.2 k c a.2.1; have := a.2.2.1; omega
  · exact c
  · have := a.2.2.2 k' c b.2.1; have := b.2.2.1; omega
/-- how the reference weighs the two -/
theorem dist_of {m fb fa tb ta h p q pp qq a b ab fr r : Int} (hm : m = 0 ∨ m = 1) (f1 : 0 ≤ fb) (f2 : 0 ≤ fa) (t1 : tb ≤ h) (t2 : h ≤ ta) (hp : p = h - tb) (hq : q = ta - h) (hpp : pp = if m = 0 then -p else p) (hqq : qq = if m = 0 then -q else q) (ha : a = fb + pp) (hb : b = fa + qq) (hab : ab = if a < b then 1 else 0) (hfr : fr = if m = ab then a else b) (hr : r = if fr < 0 then 0 else fr) : r = if m = 0 then leastV fb fa tb ta h else mostV fb fa tb ta h := by
  unfold leastV mostV
  rcases hm with rfl | rfl
  · rw [if_pos rfl] at hpp hqq ⊢
    subst hp hq hpp hqq ha hb
    split at hab <;> subst hab <;> split at hfr <;> split at hr <;> omega
  · rw [if_neg (by decide)] at hpp hqq ⊢
    subst hp hq hpp hqq ha hb
    split at hab <;> subst hab <;> split at hfr <;> split at hr <;> omega
