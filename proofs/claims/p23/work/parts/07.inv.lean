/-! what the pool holds: ships, lists, orders, sights -/
abbrev shipE (v : Nat → Int32) (oa ia : Nat) : va_E := .inr (4, [.int (v 0), .int (v 1), .int (v 2), .ref oa, .ref ia, .int (v 3), .int (v 4), .int (v 5), .int (v 6), .int (v 7), .int (v 8), .int (v 9), .int (v 10), .int (v 11)])
abbrev ordE (w : Nat → Int32) : va_E := .inr (1, [.int (w 0), .int (w 1), .int (w 2), .int (w 3), .int (w 4), .int (w 5)])
abbrev sigE (w : Nat → Int32) : va_E := .inr (5, [.int (w 0), .int (w 1)])
abbrev lstE (mc : Int32) (ar : Nat) (n : Int32) : va_E := .inr (0, [.int mc, .ref ar, .int n])
abbrev rowE (cO : ClassId) (N : Nat) (h : Nat → Option Nat) : va_E := .inl (cO, N, .inr (.inr (.inr (.inr h))))
theorem va_self {f : Nat → va_E} {a : Nat} {e : va_E} (h : f a = e) : va_up f a e = f := by
  funext j
  by_cases hj : j = a
  · subst hj; rw [va_up_self, h]
  · rw [va_up_ne _ _ hj]
/-- a list of the n objects g 0 .. at o: its row stands once it has had one -/
def LstAt (L : List Nat) (f : Nat → va_E) (te : Nat) (cO : ClassId) (o n : Nat) (g : Nat → Nat) : Prop :=
  o ∈ L ∧ n ≤ 100 ∧ ∃ (mc : Int32) (ar : Nat), f o = lstE mc ar (nI n) ∧ ((n = 0 ∧ ar = te) ∨ ∃ (N : Nat) (h : Nat → Option Nat), ar ∈ L ∧ f ar = rowE cO N h ∧ n ≤ N ∧ N ≤ 200 ∧ (∀ k, k < n → h k = some (g k)) ∧ 0 < n)
theorem LstAt.obj {L : List Nat} {f : Nat → va_E} {te : Nat} {cO : ClassId} {o n : Nat} {g : Nat → Nat} (h : LstAt L f te cO o n g) : ∃ (mc : Int32) (ar : Nat), o ∈ L ∧ f o = lstE mc ar (nI n) ∧ (nI n).toInt = (n : Int) ∧ n ≤ 100 := by
  obtain ⟨h1, h2, mc, ar, h3, -⟩ := h
  exact ⟨mc, ar, h1, h3, nI_toInt (by omega), h2⟩
theorem LstAt.full {L : List Nat} {f : Nat → va_E} {te : Nat} {cO : ClassId} {o n : Nat} {g : Nat → Nat} (h : LstAt L f te cO o n g) (hn : 0 < n) : ∃ (mc : Int32) (ar N : Nat) (r : Nat → Option Nat), (o ∈ L ∧ f o = lstE mc ar (nI n)) ∧ (ar ∈ L ∧ f ar = rowE cO N r) ∧ n ≤ N ∧ N ≤ 200 ∧ (∀ k, k < n → r k = some (g k)) ∧ (nI n).toInt = (n : Int) ∧ n ≤ 100 := by
  obtain ⟨h1, h2, mc, ar, h3, h4⟩ := h
  rcases h4 with ⟨h5, -⟩ | ⟨N, r, h5, h6, h7, h8, h9⟩
  · omega
  · exact ⟨mc, ar, N, r, ⟨h1, h3⟩, ⟨h5, h6⟩, h7, h8, h9.1, nI_toInt (by omega), h2⟩
theorem LstAt.ship {L : List Nat} {f f2 : Nat → va_E} {te : Nat} {cO : ClassId} {o n : Nat} {g : Nat → Nat} {a : Nat} {e : va_E} {l : List Value} (h : LstAt L f te cO o n g) (e2 : f2 = va_up f a e) (hv : f a = .inr (4, l)) : LstAt L f2 te cO o n g := by
  obtain ⟨h1, h2, mc, ar, h3, h4⟩ := h
  refine ⟨h1, h2, mc, ar, ?_, ?_⟩
  · rw [e2, va_up_ne _ _ (pl_ne h3 hv (fun z => by cases z))]; exact h3
  · rcases h4 with h5 | ⟨N, r, h5, h6, h7⟩
    · exact Or.inl h5
    · exact Or.inr ⟨N, r, h5, by rw [e2, va_up_ne _ _ (pl_ne h6 hv (fun z => by cases z))]; exact h6, h7⟩
/-- a ship's orders, a ship's sights -/
def Ords (L : List Nat) (f : Nat → va_E) (te : Nat) (cO : ClassId) (o n : Nat) (w : Nat → Nat → Int32) : Prop := ∃ g : Nat → Nat, LstAt L f te cO o n g ∧ ∀ k, k < n → g k ∈ L ∧ f (g k) = ordE (w k)
def Sigs (L : List Nat) (f : Nat → va_E) (te : Nat) (cO : ClassId) (o n : Nat) (w : Nat → Nat → Int32) : Prop := ∃ g : Nat → Nat, LstAt L f te cO o n g ∧ ∀ k, k < n → g k ∈ L ∧ f (g k) = sigE (w k)
theorem Ords.ship {L : List Nat} {f f2 : Nat → va_E} {te : Nat} {cO : ClassId} {o n : Nat} {w : Nat → Nat → Int32} {a : Nat} {e : va_E} {l : List Value} (h : Ords L f te cO o n w) (e2 : f2 = va_up f a e) (hv : f a = .inr (4, l)) : Ords L f2 te cO o n w := by
  obtain ⟨g, h1, h2⟩ := h
  refine ⟨g, h1.ship e2 hv, fun k hk => ⟨(h2 k hk).1, ?_⟩⟩
  rw [e2, va_up_ne _ _ (pl_ne (h2 k hk).2 hv (fun z => by cases z))]; exact (h2 k hk).2
theorem Sigs.ship {L : List Nat} {f f2 : Nat → va_E} {te : Nat} {cO : ClassId} {o n : Nat} {w : Nat → Nat → Int32} {a : Nat} {e : va_E} {l : List Value} (h : Sigs L f te cO o n w) (e2 : f2 = va_up f a e) (hv : f a = .inr (4, l)) : Sigs L f2 te cO o n w := by
  obtain ⟨g, h1, h2⟩ := h
  refine ⟨g, h1.ship e2 hv, fun k hk => ⟨(h2 k hk).1, ?_⟩⟩
  rw [e2, va_up_ne _ _ (pl_ne (h2 k hk).2 hv (fun z => by cases z))]; exact (h2 k hk).2
theorem tn_lt {i : Int32} {n : Nat} (l : 0 ≤ i.toInt) (u : i.toInt < (n : Int)) : i.toNatClampNeg < n := by
  show i.toInt.toNat < n
  omega
