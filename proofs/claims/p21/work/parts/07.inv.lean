/-! what the pool holds: ships, lists, orders, sights -/
abbrev shipE (v : Nat → Int32) (oa ia : Nat) : va_E := .inr (4, [.int (v 0), .int (v 1), .int (v 2), .ref oa, .ref ia, .int (v 3), .int (v 4), .int (v 5), .int (v 6), .int (v 7), .int (v 8), .int (v 9), .int (v 10), .int (v 11)])
abbrev ordE (w : Nat → Int32) : va_E := .inr (1, [.int (w 0), .int (w 1), .int (w 2), .int (w 3), .int (w 4), .int (w 5)])
abbrev sigE (w : Nat → Int32) : va_E := .inr (5, [.int (w 0), .int (w 1)])
abbrev lstE (mc : Int32) (ar : Nat) (n : Int32) : va_E := .inr (0, [.int mc, .ref ar, .int n])
abbrev rowE (cO : ClassId) (N : Nat) (h : Nat → Option Nat) : va_E := .inl (cO, N, .inr (.inr (.inr (.inr h))))
theorem va_self {f : Nat → va_E} {a : Nat} {e : va_E} (h : f a = e) : va_up f a e = f := by
  funext j
  by_cases hj : j = a
  · subst hj; rw [va_up_self, h]
  · rw [va_up_ne _ _ hj]
/-- a list of the n objects g 0 .. at o: its row stands once it has had one -/
def LstAt (L : List Nat) (f : Nat → va_E) (te : Nat) (cO : ClassId) (o n : Nat) (g : Nat → Nat) : Prop :=
  o ∈ L ∧ n ≤ 100 ∧ ∃ (mc : Int32) (ar : Nat), f o = lstE mc ar (nI n) ∧ ((n = 0 ∧ ar = te) ∨ ∃ (N : Nat) (h : Nat → Option Nat), ar ∈ L ∧ f ar = rowE cO N h ∧ n ≤ N ∧ N ≤ 200 ∧ (∀ k, k < n → h k = some (g k)) ∧ 0 < n)
theorem LstAt.obj {L : List Nat} {f : Nat → va_E} {te : Nat} {cO : ClassId} {o n : Nat} {g : Nat → Nat} (h : LstAt L f te cO o n g) : ∃ (mc : Int32) (ar : Nat), o ∈ L ∧ f o = lstE mc ar (nI n) ∧ (nI n).toInt = (n : Int) ∧ n ≤ 100 := by
  obtain ⟨h1, h2, mc, ar, h3, -⟩ := h
  exact ⟨mc, ar, h1, h3, nI_toInt (by omega), h2⟩
theorem LstAt.full {L : List Nat} {f : Nat → va_E} {te : Nat} {cO : ClassId} {o n : Nat} {g : Nat → Nat} (h : LstAt L f te cO o n g) (hn : 0 < n) : ∃ (mc : Int32) (ar N : Nat) (r : Nat → Option Nat), (o ∈ L ∧ f o = lstE mc ar (nI n)) ∧ (ar ∈ L ∧ f ar = rowE cO N r) ∧ n ≤ N ∧ N ≤ 200 ∧ (∀ k, k < n → r k = some (g k)) ∧ (nI n).toInt = (n : Int) ∧ n ≤ 100 := by
  obtain ⟨h1, h2, mc, ar, h3, h4⟩ := h
  rcases h4 with ⟨h5, -⟩ | ⟨N, r, h5, h6, h7, h8, h9⟩
  · omega
  · exact ⟨mc, ar, N, r, ⟨h1, h3⟩, ⟨h5, h6⟩, h7, h8, h9.1, nI_toInt (by omega), h2⟩
theorem LstAt.ship {L : List Nat} {f f2 : Nat → va_E} {te : Nat} {cO : ClassId} {o n : Nat} {g : Nat → Nat} {a : Nat} {e : va_E} {l : List Value} (h : LstAt L f te cO o n g) (e2 : f2 = va_up f a e) (hv : f a = .inr (4, l)) : LstAt L f2 te cO o n g := by
  obtain ⟨h1, h2, mc, ar, h3, h4⟩ := h
  refine ⟨h1, h2, mc, ar, ?_, ?_⟩
  · rw [e2, va_up_ne _ _ (pl_ne h3 hv (fun z => by cases z))]; exact h3
  · rcases h4 with h5 | ⟨N, r, h5, h6, h7⟩
    · exact Or.inl h5
    · exact Or.inr ⟨N, r, h5, by rw [e2, va_up_ne _ _ (pl_ne h6 hv (fun z => by cases z))]; exact h6, h7⟩
/-- a ship's orders, a ship's sights -/
def Ords (L : List Nat) (f : Nat → va_E) (te : Nat) (cO : ClassId) (o n : Nat) (w : Nat → Nat → Int32) : Prop := ∃ g : Nat → Nat, LstAt L f te cO o n g ∧ ∀ k, k < n → g k ∈ L ∧ f (g k) = ordE (w k)
def Sigs (L : List Nat) (f : Nat → va_E) (te : Nat) (cO : ClassId) (o n : Nat) (w : Nat → Nat → Int32) : Prop := ∃ g : Nat → Nat, LstAt L f te cO o n g ∧ ∀ k, k < n → g k ∈ L ∧ f (g k) = sigE (w k)
theorem Ords.ship {L : List Nat} {f f2 : Nat → va_E} {te : Nat} {cO : ClassId} {o n : Nat} {w : Nat → Nat → Int32} {a : Nat} {e : va_E} {l : List Value} (h : Ords L f te cO o n w) (e2 : f2 = va_up f a e) (hv : f a = .inr (4, l)) : Ords L f2 te cO o n w := by
  obtain ⟨g, h1, h2⟩ := h
  refine ⟨g, h1.ship e2 hv, fun k hk => ⟨(h2 k hk).1, ?_⟩⟩
  rw [e2, va_up_ne _ _ (pl_ne (h2 k hk).2 hv (fun z => by cases z))]; exact (h2 k hk).2
theorem Sigs.ship {L : List Nat} {f f2 : Nat → va_E} {te : Nat} {cO : ClassId} {o n : Nat} {w : Nat → Nat → Int32} {a : Nat} {e : va_E} {l : List Value} (h : Sigs L f te cO o n w) (e2 : f2 = va_up f a e) (hv : f a = .inr (4, l)) : Sigs L f2 te cO o n w := by
  obtain ⟨g, h1, h2⟩ := h
  refine ⟨g, h1.ship e2 hv, fun k hk => ⟨(h2 k hk).1, ?_⟩⟩
  rw [e2, va_up_ne _ _ (pl_ne (h2 k hk).2 hv (fun z => by cases z))]; exact (h2 k hk).2
theorem tn_lt {i : Int32} {n : Nat} (l : 0 ≤ i.toInt) (u : i.toInt < (n : Int)) : i.toNatClampNeg < n := by
  show i.toInt.toNat < n
  omega
/-- what no going of a ship changes: its number, kind, chests, foulness -/
def KeptV (w u : Nat → Int32) : Prop := u 0 = w 0 ∧ u 1 = w 1 ∧ u 2 = w 2 ∧ u 6 = w 6
theorem KeptV.rf {w : Nat → Int32} : KeptV w w := ⟨rfl, rfl, rfl, rfl⟩
theorem KeptV.tr {w u z : Nat → Int32} (h : KeptV w u) (g : KeptV u z) : KeptV w z := ⟨g.1.trans h.1, g.2.1.trans h.2.1, g.2.2.1.trans h.2.2.1, g.2.2.2.trans h.2.2.2⟩
theorem KeptV.up {w u : Nat → Int32} {j : Nat} {x : Int32} (h : KeptV w u) (hj : 0 ≠ j ∧ 1 ≠ j ∧ 2 ≠ j ∧ 6 ≠ j) : KeptV w (upd u j x) := ⟨(upd_off u x hj.1).trans h.1, (upd_off u x hj.2.1).trans h.2.1, (upd_off u x hj.2.2.1).trans h.2.2.1, (upd_off u x hj.2.2.2).trans h.2.2.2⟩
def Kept (V U : Nat → Nat → Int32) : Prop := ∀ i, KeptV (V i) (U i)
theorem Kept.rf {V : Nat → Nat → Int32} : Kept V V := fun _ => KeptV.rf
theorem Kept.up {V U : Nat → Nat → Int32} {i : Nat} {v : Nat → Int32} (h : Kept V U) (g : KeptV (U i) v) : Kept V (va_up U i v) := fun j => by
  by_cases e : j = i
  · subst e; rw [va_up_self]; exact (h j).tr g
  · rw [va_up_ne _ _ e]; exact h j
/-! speeds -/
def eig (a b : Int) : Int := if b < a then (if 4 < a - b then 8 - (a - b) else a - b) else (if 4 < b - a then 8 - (b - a) else b - a)
def sailSp (k n w : Int) : Int := if n = 1 then w else if n = 2 then (if k = 3 then 4 * w else if k = 1 then 3 * w else 2 * w) else if n = 3 then (if k = 3 then 5 * w else if k = 1 then 4 * w else 3 * w) else if n = 4 then 2 * w else 0
def spd (k fo way fr w : Int) : Int := if k = 2 then (if fo < 8 then 8 - fo else 0) else (if fo < sailSp k (eig way fr) w then sailSp k (eig way fr) w - fo else 0)
theorem eig_rng {a b : Int} (ha : 0 ≤ a ∧ a ≤ 7) (hb : 0 ≤ b ∧ b ≤ 7) : 0 ≤ eig a b ∧ eig a b ≤ 4 := by
  unfold eig
  (repeat' split) <;> omega
theorem ab_k {x z : Int32} (h : z = if 0 ≤ x then x else 0 - x) (hx : -1000 ≤ x.toInt ∧ x.toInt ≤ 1000) : z.toInt = if x.toInt < 0 then -x.toInt else x.toInt := by
  by_cases c : 0 ≤ x
  · rw [if_pos c] at h
    rw [Int32.le_iff_toInt_le] at c
    simp only [Int32.reduceToInt] at c
    rw [h, if_neg (by omega)]
  · rw [if_neg c] at h
    rw [Int32.le_iff_toInt_le] at c
    simp only [Int32.reduceToInt] at c
    have h2 : z.toInt = 0 - x.toInt := su_k h (by decide) rfl (by omega) (by omega)
    rw [if_pos (by omega)]
    omega
theorem mi_k {x y z : Int32} (h : z = if y < x then y else x) : z.toInt = if y.toInt < x.toInt then y.toInt else x.toInt := by
  by_cases c : y < x
  · rw [if_pos c] at h
    rw [Int32.lt_iff_toInt_lt] at c
    rw [h, if_pos c]
  · rw [if_neg c] at h
    rw [Int32.lt_iff_toInt_lt] at c
    rw [h, if_neg c]
theorem ma_k {x y z : Int32} (h : z = if x < y then y else x) : z.toInt = if x.toInt < y.toInt then y.toInt else x.toInt := by
  by_cases c : x < y
  · rw [if_pos c] at h
    rw [Int32.lt_iff_toInt_lt] at c
    rw [h, if_pos c]
  · rw [if_neg c] at h
    rw [Int32.lt_iff_toInt_lt] at c
    rw [h, if_neg c]
theorem mul5 {x y z : Int32} (e : z = x * y) (hx : 0 ≤ x.toInt ∧ x.toInt ≤ 5) (hy : 0 ≤ y.toInt ∧ y.toInt ≤ 9) : z.toInt = if x.toInt = 5 then 5 * y.toInt else if x.toInt = 4 then 4 * y.toInt else if x.toInt = 3 then 3 * y.toInt else if x.toInt = 2 then 2 * y.toInt else if x.toInt = 1 then y.toInt else 0 := by
  have hp : -2147483648 ≤ x.toInt * y.toInt ∧ x.toInt * y.toInt < 2147483648 := by
    rcases (show x.toInt = 0 ∨ x.toInt = 1 ∨ x.toInt = 2 ∨ x.toInt = 3 ∨ x.toInt = 4 ∨ x.toInt = 5 by omega) with h | h | h | h | h | h <;> rw [h] <;> omega
  have h2 : z.toInt = x.toInt * y.toInt := mu_k e rfl rfl hp.1 hp.2
  rw [h2]
  rcases (show x.toInt = 0 ∨ x.toInt = 1 ∨ x.toInt = 2 ∨ x.toInt = 3 ∨ x.toInt = 4 ∨ x.toInt = 5 by omega) with h | h | h | h | h | h <;> rw [h] <;> (repeat' split) <;> omega
theorem spd_of {k fo n w b mo m2 b2 r way fr : Int} (hn : n = eig way fr) (h4 : 0 ≤ n ∧ n ≤ 4) (hb : b = if n = 4 then 2 * w else if n = 3 then 3 * w else if n = 2 then 2 * w else if n = 1 then w else 0) (hmo : mo = if (n = 2 ∨ n = 3) then w else 0) (hm2 : m2 = if k = 1 then mo else if k = 3 then 2 * mo else 0) (hb2 : b2 = if k = 2 then 8 else b + m2) (hr : r = if fo < b2 then b2 - fo else 0) : r = spd k fo way fr w := by
  have key : (if k = 2 then 8 else sailSp k n w) = b2 := by
    rw [hb2, hm2, hmo, hb]
    unfold sailSp
    rcases (show n = 0 ∨ n = 1 ∨ n = 2 ∨ n = 3 ∨ n = 4 by omega) with h | h | h | h | h <;> subst h <;> (repeat' split) <;> omega
  unfold spd
  rw [← hn, hr, ← key]
  by_cases k2 : k = 2
  · rw [if_pos k2, if_pos k2]
  · rw [if_neg k2, if_neg k2]
