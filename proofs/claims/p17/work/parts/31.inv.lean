/-! the class's world, whole: the rows of winds, the fleet, each ship with its two lists; 'own' tells lists and ships apart -/
def OwnL (f : Nat → va_E) (own : Nat → Nat) (te o : Nat) : Prop := ∀ (mc : Int32) (ar : Nat) (k : Int32), f o = lstE mc ar k → ar = te ∨ own ar = o
def Ship1 (L : List Nat) (f : Nat → va_E) (own : Nat → Nat) (te : Nat) (cO : ClassId) (a : Nat) (v : Nat → Int32) (oa ia nO : Nat) (OW : Nat → Nat → Int32) (nS : Nat) (SW : Nat → Nat → Int32) (i : Nat) : Prop :=
  a ∈ L ∧ f a = shipE v oa ia ∧ own a = i ∧ Ords L f te cO oa nO OW ∧ OwnL f own te oa ∧ own oa = 2 * i ∧ Sigs L f te cO ia nS SW ∧ OwnL f own te ia ∧ own ia = 2 * i + 1 ∧ nO ≤ 20 ∧ nS ≤ 60
def Inv (L : List Nat) (f : Nat → va_E) (own : Nat → Nat) (te : Nat) (cO cB : ClassId) (rr : Nat → Nat) (cw : Nat → Nat → Int32) (fl n : Nat) (sa : Nat → Nat) (V : Nat → Nat → Int32) (oa ia nO : Nat → Nat) (OW : Nat → Nat → Nat → Int32) (nS : Nat → Nat) (SW : Nat → Nat → Nat → Int32) : Prop :=
  Rows L f rr cB cw ∧ LstAt L f te cO fl n sa ∧ OwnL f own te fl ∧ own fl = 1000 ∧ n ≤ 8 ∧ ∀ i, i < n → Ship1 L f own te cO (sa i) (V i) (oa i) (ia i) (nO i) (OW i) (nS i) (SW i) i
theorem OwnL.ship {f f2 : Nat → va_E} {own : Nat → Nat} {te o a : Nat} {l : List Value} (h : OwnL f own te o) (e2 : f2 = va_up f a (.inr (4, l))) : OwnL f2 own te o := fun mc ar k hk => by
  rw [e2] at hk
  by_cases e : o = a
  · subst e; rewrite [va_up_self] at hk; cases hk
  · rewrite [va_up_ne _ _ e] at hk; exact h mc ar k hk
theorem Inv.ship {L : List Nat} {f f2 : Nat → va_E} {own : Nat → Nat} {te : Nat} {cO cB : ClassId} {rr : Nat → Nat} {cw : Nat → Nat → Int32} {fl n : Nat} {sa : Nat → Nat} {V : Nat → Nat → Int32} {oa ia nO : Nat → Nat} {OW : Nat → Nat → Nat → Int32} {nS : Nat → Nat} {SW : Nat → Nat → Nat → Int32} (h : Inv L f own te cO cB rr cw fl n sa V oa ia nO OW nS SW) {i : Nat} (hi : i < n) {v : Nat → Int32} (e2 : f2 = va_up f (sa i) (shipE v (oa i) (ia i))) : Inv L f2 own te cO cB rr cw fl n sa (va_up V i v) oa ia nO OW nS SW := by
  obtain ⟨h1, h2, h3, h4, h5, h6⟩ := h
  have hv := (h6 i hi).2.1
  refine ⟨h1.ship e2 hv, h2.ship e2 hv, h3.ship e2, h4, h5, fun j hj => ?_⟩
  obtain ⟨g1, g2, g3, g4, g5, g6, g7, g8, g9⟩ := h6 j hj
  refine ⟨g1, ?_, g3, g4.ship e2 hv, g5.ship e2, g6, g7.ship e2 hv, g8.ship e2, g9⟩
  by_cases e : j = i
  · subst e; rw [e2, va_up_self, va_up_self]
  · rw [e2, va_up_ne _ _ (fun z => e (by rw [← g3, z, (h6 i hi).2.2.1])), va_up_ne _ _ e]; exact g2
theorem row_ne {f : Nat → va_E} {a b : Nat} {cB : ClassId} {w : Nat → Int32} {e : va_E} (ha : f a = .inl (cB, 160, .inl w)) (hb : f b = e) (h : e = .inl (cB, 160, .inl w) → False) : b ≠ a := pl_ne hb ha h
theorem LstAt.row {L : List Nat} {f f2 : Nat → va_E} {te : Nat} {cO cB : ClassId} {o n : Nat} {g : Nat → Nat} {a : Nat} {e : va_E} {w : Nat → Int32} (h : LstAt L f te cO o n g) (e2 : f2 = va_up f a e) (hv : f a = .inl (cB, 160, .inl w)) : LstAt L f2 te cO o n g := by
  obtain ⟨h1, h2, mc, ar, h3, h4⟩ := h
  refine ⟨h1, h2, mc, ar, ?_, ?_⟩
  · rw [e2, va_up_ne _ _ (row_ne hv h3 (fun z => by cases z))]; exact h3
  · rcases h4 with h5 | ⟨N, r, h5, h6, h7⟩
    · exact Or.inl h5
    · exact Or.inr ⟨N, r, h5, by rw [e2, va_up_ne _ _ (row_ne hv h6 (fun z => by cases z))]; exact h6, h7⟩
theorem Ords.row {L : List Nat} {f f2 : Nat → va_E} {te : Nat} {cO cB : ClassId} {o n : Nat} {w : Nat → Nat → Int32} {a : Nat} {e : va_E} {u : Nat → Int32} (h : Ords L f te cO o n w) (e2 : f2 = va_up f a e) (hv : f a = .inl (cB, 160, .inl u)) : Ords L f2 te cO o n w := by
  obtain ⟨g, h1, h2⟩ := h
  exact ⟨g, h1.row e2 hv, fun k hk => ⟨(h2 k hk).1, by rw [e2, va_up_ne _ _ (row_ne hv (h2 k hk).2 (fun z => by cases z))]; exact (h2 k hk).2⟩⟩
theorem Sigs.row {L : List Nat} {f f2 : Nat → va_E} {te : Nat} {cO cB : ClassId} {o n : Nat} {w : Nat → Nat → Int32} {a : Nat} {e : va_E} {u : Nat → Int32} (h : Sigs L f te cO o n w) (e2 : f2 = va_up f a e) (hv : f a = .inl (cB, 160, .inl u)) : Sigs L f2 te cO o n w := by
  obtain ⟨g, h1, h2⟩ := h
  exact ⟨g, h1.row e2 hv, fun k hk => ⟨(h2 k hk).1, by rw [e2, va_up_ne _ _ (row_ne hv (h2 k hk).2 (fun z => by cases z))]; exact (h2 k hk).2⟩⟩
theorem OwnL.row {f f2 : Nat → va_E} {own : Nat → Nat} {te o a : Nat} {x : ClassId × vp_A} (h : OwnL f own te o) (e2 : f2 = va_up f a (.inl x)) : OwnL f2 own te o := fun mc ar k hk => by
  rw [e2] at hk
  by_cases e : o = a
  · subst e; rewrite [va_up_self] at hk; cases hk
  · rewrite [va_up_ne _ _ e] at hk; exact h mc ar k hk
theorem Inv.row {L : List Nat} {f f2 : Nat → va_E} {own : Nat → Nat} {te : Nat} {cO cB : ClassId} {rr : Nat → Nat} {cw : Nat → Nat → Int32} {fl n : Nat} {sa : Nat → Nat} {V : Nat → Nat → Int32} {oa ia nO : Nat → Nat} {OW : Nat → Nat → Nat → Int32} {nS : Nat → Nat} {SW : Nat → Nat → Nat → Int32} (h : Inv L f own te cO cB rr cw fl n sa V oa ia nO OW nS SW) {m : Nat} (hm : m < 12) {w : Nat → Int32} (e2 : f2 = va_up f (rr m) (.inl (cB, 160, .inl w))) (hw : ByteRow w) : Inv L f2 own te cO cB rr (va_up cw m w) fl n sa V oa ia nO OW nS SW := by
  obtain ⟨h1, h2, h3, h4, h5, h6⟩ := h
  have hv := (h1 m hm).2.1
  refine ⟨h1.row hm e2 hw, h2.row e2 hv, h3.row e2, h4, h5, fun j hj => ?_⟩
  obtain ⟨g1, g2, g3, g4, g5, g6, g7, g8, g9⟩ := h6 j hj
  refine ⟨g1, ?_, g3, g4.row e2 hv, g5.row e2, g6, g7.row e2 hv, g8.row e2, g9⟩
  rw [e2, va_up_ne _ _ (row_ne hv g2 (fun z => by cases z))]; exact g2
