/-! the class's world when a list has taken one more -/
theorem te_out {te ea so mi : Nat} {A : Nat → Prop} {s : State} {H : Heap} {X : va_W} {L : List Nat} {f : Nat → va_E} (hZ : Zs te ea so mi A s H) (hD : va_D A (X ++ va_pl L f)) : te ∉ L := fun h => by
  obtain ⟨k, hk⟩ := va_pl_get (X := X) (f := f) h
  exact hZ.zd.2.out (hD.2 k _ hk)
/-- what add says of the pool before and behind -/
def Took (L : List Nat) (f : Nat → va_E) (te : Nat) (cO : ClassId) (o n x : Nat) (g : Nat → Nat) (uL : List Nat) (uf : Nat → va_E) (uar uao : Nat) : Prop :=
  LstAt uL uf te cO o (n + 1) (fun k => if k = n then x else g k) ∧ (∀ b, b ∈ L → b ∈ uL) ∧ (∀ b, b ∈ L → b ≠ o → b ≠ uao → uf b = f b) ∧ (∃ (mc k : Int32), f o = lstE mc uao k) ∧ (∃ (mc k : Int32), uf o = lstE mc uar k) ∧ (uar = uao ∨ uar ∉ L)
theorem lst_old {L : List Nat} {f : Nat → va_E} {te : Nat} {cO : ClassId} {o n uao : Nat} {g : Nat → Nat} (h : LstAt L f te cO o n g) (hu : ∃ (mc k : Int32), f o = lstE mc uao k) : uao = te ∨ (uao ∈ L ∧ ∃ (N : Nat) (r : Nat → Option Nat), f uao = rowE cO N r) := by
  obtain ⟨h1, h2, mc, ar, h3, h4⟩ := h
  obtain ⟨mc', k', h5⟩ := hu
  have e : ar = uao := by
    rw [h3] at h5
    simp only [lstE, Sum.inr.injEq, Prod.mk.injEq, List.cons.injEq, Value.ref.injEq] at h5
    exact h5.2.2.1
  subst e
  rcases h4 with ⟨-, h6⟩ | ⟨N, r, h6, h7, -⟩
  · exact Or.inl h6
  · exact Or.inr ⟨h6, N, r, h7⟩
section TK
variable {L uL : List Nat} {f uf : Nat → va_E} {own : Nat → Nat} {te : Nat} {cO : ClassId} {o n x uar uao : Nat} {g : Nat → Nat}
theorem Took.obj (t : Took L f te cO o n x g uL uf uar uao) (hl : LstAt L f te cO o n g) (hte : te ∉ L) {b ci : Nat} {l : List Value} (hm : b ∈ L) (hv : f b = .inr (ci, l)) (hc : ci ≠ 0) : b ∈ uL ∧ uf b = .inr (ci, l) := by
  refine ⟨t.2.1 b hm, ?_⟩
  rw [t.2.2.1 b hm ?_ ?_]
  · exact hv
  · intro z
    obtain ⟨mc, k, h⟩ := t.2.2.2.1
    rw [z, h] at hv
    simp only [lstE, Sum.inr.injEq, Prod.mk.injEq] at hv
    exact hc hv.1.symm
  · intro z
    rcases lst_old hl t.2.2.2.1 with h | ⟨-, N, r, h⟩
    · exact hte (h ▸ z ▸ hm)
    · rewrite [z, h] at hv; cases hv
theorem Took.row (t : Took L f te cO o n x g uL uf uar uao) (hl : LstAt L f te cO o n g) (hte : te ∉ L) {b : Nat} {cB : ClassId} {w : Nat → Int32} (hm : b ∈ L) (hv : f b = .inl (cB, 160, .inl w)) : b ∈ uL ∧ uf b = .inl (cB, 160, .inl w) := by
  refine ⟨t.2.1 b hm, ?_⟩
  rw [t.2.2.1 b hm ?_ ?_]
  · exact hv
  · intro z
    obtain ⟨mc, k, h⟩ := t.2.2.2.1
    rewrite [z, h] at hv; cases hv
  · intro z
    rcases lst_old hl t.2.2.2.1 with h | ⟨-, N, r, h⟩
    · exact hte (h ▸ z ▸ hm)
    · rewrite [z, h] at hv; cases hv
theorem Took.lst (t : Took L f te cO o n x g uL uf uar uao) (hl : LstAt L f te cO o n g) (hte : te ∉ L) (hw : OwnL f own te o) {o' n' : Nat} {g' : Nat → Nat} (h : LstAt L f te cO o' n' g') (hw' : OwnL f own te o') (ho : o' ≠ o) : LstAt uL uf te cO o' n' g' := by
  obtain ⟨h1, h2, mc, ar, h3, h4⟩ := h
  have hold := lst_old hl t.2.2.2.1
  refine ⟨t.2.1 _ h1, h2, mc, ar, ?_, ?_⟩
  · rw [t.2.2.1 _ h1 ho ?_]
    · exact h3
    · intro z
      rcases hold with h | ⟨-, N, r, h⟩
      · exact hte (h ▸ z ▸ h1)
      · rewrite [z, h] at h3; cases h3
  · rcases h4 with h5 | ⟨N, r, h5, h6, h7⟩
    · exact Or.inl h5
    · refine Or.inr ⟨N, r, t.2.1 _ h5, ?_, h7⟩
      rw [t.2.2.1 _ h5 ?_ ?_]
      · exact h6
      · intro z
        obtain ⟨mc2, k2, h8⟩ := t.2.2.2.1
        rewrite [z, h8] at h6; cases h6
      · intro z
        rcases hold with h | ⟨-, -⟩
        · exact hte (h ▸ z ▸ h5)
        · obtain ⟨mc2, k2, h8⟩ := t.2.2.2.1
          rcases hw _ _ _ h8 with e | e
          · exact hte (e ▸ z ▸ h5)
          · rcases hw' _ _ _ h3 with e2 | e2
            · exact hte (e2 ▸ h5)
            · rewrite [z, e] at e2; exact ho e2.symm
theorem Took.rows {cB : ClassId} {rr : Nat → Nat} {cw : Nat → Nat → Int32} (t : Took L f te cO o n x g uL uf uar uao) (hl : LstAt L f te cO o n g) (hte : te ∉ L) (h : Rows L f rr cB cw) : Rows uL uf rr cB cw := fun m hm => by
  obtain ⟨h1, h2, h3⟩ := h m hm
  have := t.row hl hte h1 h2
  exact ⟨this.1, this.2, h3⟩
theorem Took.ords (t : Took L f te cO o n x g uL uf uar uao) (hl : LstAt L f te cO o n g) (hte : te ∉ L) (hw : OwnL f own te o) {o' n' : Nat} {w : Nat → Nat → Int32} (h : Ords L f te cO o' n' w) (hw' : OwnL f own te o') (ho : o' ≠ o) : Ords uL uf te cO o' n' w := by
  obtain ⟨g2, h1, h2⟩ := h
  exact ⟨g2, t.lst hl hte hw h1 hw' ho, fun k hk => t.obj hl hte (h2 k hk).1 (h2 k hk).2 (by decide)⟩
theorem Took.sigs (t : Took L f te cO o n x g uL uf uar uao) (hl : LstAt L f te cO o n g) (hte : te ∉ L) (hw : OwnL f own te o) {o' n' : Nat} {w : Nat → Nat → Int32} (h : Sigs L f te cO o' n' w) (hw' : OwnL f own te o') (ho : o' ≠ o) : Sigs uL uf te cO o' n' w := by
  obtain ⟨g2, h1, h2⟩ := h
  exact ⟨g2, t.lst hl hte hw h1 hw' ho, fun k hk => t.obj hl hte (h2 k hk).1 (h2 k hk).2 (by decide)⟩
end TK
/-! whose row it is, when a list has a new one -/
def own2 (own : Nat → Nat) (L : List Nat) (uar o : Nat) : Nat → Nat := fun a => if a = uar ∧ uar ∉ L then o else own a
theorem own2_in {own : Nat → Nat} {L : List Nat} {uar o a : Nat} (h : a ∈ L) : own2 own L uar o a = own a := if_neg (fun z => z.2 (z.1 ▸ h))
theorem lst_ar {mc mc' : Int32} {ar ar' : Nat} {k k' : Int32} (h : (lstE mc ar k : va_E) = lstE mc' ar' k') : ar = ar' := by
  simp only [lstE, Sum.inr.injEq, Prod.mk.injEq, List.cons.injEq, Value.ref.injEq] at h
  exact h.2.2.1
section TK2
variable {L uL : List Nat} {f uf : Nat → va_E} {own : Nat → Nat} {te : Nat} {cO : ClassId} {o n x uar uao : Nat} {g : Nat → Nat}
theorem Took.ownO (t : Took L f te cO o n x g uL uf uar uao) (hl : LstAt L f te cO o n g) (hte : te ∉ L) {o' n' : Nat} {g' : Nat → Nat} (h : LstAt L f te cO o' n' g') (hw' : OwnL f own te o') (ho : o' ≠ o) : OwnL uf (own2 own L uar o) te o' := fun mc ar k hk => by
  obtain ⟨h1, -, mc2, ar2, h6, h7⟩ := h
  have e0 : uf o' = f o' := t.2.2.1 _ h1 ho (by
    intro z
    rcases lst_old hl t.2.2.2.1 with h5 | ⟨-, N, r, h5⟩
    · exact hte (h5 ▸ z ▸ h1)
    · rewrite [z, h5] at h6; cases h6)
  rw [e0] at hk
  have e2 : ar = ar2 := lst_ar (hk.symm.trans h6)
  rcases hw' _ _ _ hk with e | e
  · exact Or.inl e
  · rcases h7 with ⟨-, h8⟩ | ⟨N, r, h8, -⟩
    · exact Or.inl (e2.trans h8)
    · exact Or.inr ((own2_in (by rw [e2]; exact h8)).trans e)
theorem Took.own0 (t : Took L f te cO o n x g uL uf uar uao) (hw : OwnL f own te o) : OwnL uf (own2 own L uar o) te o := fun mc ar k hk => by
  obtain ⟨mc2, k2, h5⟩ := t.2.2.2.2.1
  have e2 : ar = uar := lst_ar (hk.symm.trans h5)
  by_cases hu : uar ∈ L
  · obtain ⟨mc3, k3, h6⟩ := t.2.2.2.1
    rcases t.2.2.2.2.2 with h7 | h7
    · rcases hw _ _ _ h6 with h8 | h8
      · exact Or.inl (e2.trans (h7.trans h8))
      · exact Or.inr (by rw [e2, own2_in hu, h7]; exact h8)
    · exact absurd hu h7
  · exact Or.inr (by rw [e2]; exact if_pos ⟨rfl, hu⟩)
end TK2
section ADD
variable {L uL : List Nat} {f uf : Nat → va_E} {own : Nat → Nat} {te : Nat} {cO cB : ClassId} {rr : Nat → Nat} {cw : Nat → Nat → Int32} {fl n : Nat} {sa : Nat → Nat} {V : Nat → Nat → Int32} {oa ia nO : Nat → Nat} {OW : Nat → Nat → Nat → Int32} {nS : Nat → Nat} {SW : Nat → Nat → Nat → Int32} {x uar uao : Nat} {g : Nat → Nat}
theorem Inv.addOrd (h : Inv L f own te cO cB rr cw fl n sa V oa ia nO OW nS SW) (hte : te ∉ L) {i : Nat} (hi : i < n) (hl : LstAt L f te cO (oa i) (nO i) g) (hels : ∀ k, k < nO i → g k ∈ L ∧ f (g k) = ordE (OW i k)) (t : Took L f te cO (oa i) (nO i) x g uL uf uar uao) (hx : x ∈ L) {w : Nat → Int32} (hxe : f x = ordE w) (h19 : nO i ≤ 19) : Inv uL uf (own2 own L uar (oa i)) te cO cB rr cw fl n sa V oa ia (va_up nO i (nO i + 1)) (va_up OW i (va_up (OW i) (nO i) w)) nS SW := by
  obtain ⟨h1, h2, h3, h4, h5, h6⟩ := h
  obtain ⟨a1, a2, a3, a4, a5, a6, a7, a8, a9, a10, a11⟩ := h6 i hi
  have hfl : fl ≠ oa i := fun z => by rewrite [z] at h4; omega
  refine ⟨t.rows hl hte h1, t.lst hl hte a5 h2 h3 hfl, t.ownO hl hte h2 h3 hfl, (own2_in h2.1).trans h4, h5, fun j hj => ?_⟩
  obtain ⟨b1, b2, b3, b4, b5, b6, b7, b8, b9, b10, b11⟩ := h6 j hj
  obtain ⟨go, lo1, lo2⟩ := id b4
  obtain ⟨gs, ls1, ls2⟩ := id b7
  have ne2 : ia j ≠ oa i := fun z => by rewrite [z] at b9; omega
  have so := t.obj hl hte b1 b2 (by decide)
  have sig := t.sigs hl hte a5 b7 b8 ne2
  have ow2 := t.ownO hl hte ls1 b8 ne2
  by_cases e : j = i
  · subst e
    refine ⟨so.1, so.2, (own2_in b1).trans b3, ?_, t.own0 a5, (own2_in lo1.1).trans b6, sig, ow2, (own2_in ls1.1).trans b9, by rw [va_up_self]; omega, b11⟩
    rw [va_up_self, va_up_self]
    refine ⟨_, t.1, fun k hk => ?_⟩
    by_cases e : k = nO j
    · have e3 : va_up (OW j) (nO j) w k = w := by rw [e, va_up_self]
      simp only [if_pos e]; rw [e3]
      exact t.obj hl hte hx hxe (by decide)
    · simp only [if_neg e]; rw [va_up_ne _ _ e]
      exact t.obj hl hte (hels k (by omega)).1 (hels k (by omega)).2 (by decide)
  · have ne1 : oa j ≠ oa i := fun z => by rewrite [z] at b6; omega
    refine ⟨so.1, so.2, (own2_in b1).trans b3, ?_, t.ownO hl hte lo1 b5 ne1, (own2_in lo1.1).trans b6, sig, ow2, (own2_in ls1.1).trans b9, by rw [va_up_ne _ _ e]; exact b10, b11⟩
    rw [va_up_ne _ _ e, va_up_ne _ _ e]; exact t.ords hl hte a5 b4 b5 ne1
theorem Inv.addSig (h : Inv L f own te cO cB rr cw fl n sa V oa ia nO OW nS SW) (hte : te ∉ L) {i : Nat} (hi : i < n) (hl : LstAt L f te cO (ia i) (nS i) g) (hels : ∀ k, k < nS i → g k ∈ L ∧ f (g k) = sigE (SW i k)) (t : Took L f te cO (ia i) (nS i) x g uL uf uar uao) (hx : x ∈ L) {w : Nat → Int32} (hxe : f x = sigE w) (h59 : nS i ≤ 59) : Inv uL uf (own2 own L uar (ia i)) te cO cB rr cw fl n sa V oa ia nO OW (va_up nS i (nS i + 1)) (va_up SW i (va_up (SW i) (nS i) w)) := by
  obtain ⟨h1, h2, h3, h4, h5, h6⟩ := h
  obtain ⟨a1, a2, a3, a4, a5, a6, a7, a8, a9, a10, a11⟩ := h6 i hi
  have hfl : fl ≠ ia i := fun z => by rewrite [z] at h4; omega
  refine ⟨t.rows hl hte h1, t.lst hl hte a8 h2 h3 hfl, t.ownO hl hte h2 h3 hfl, (own2_in h2.1).trans h4, h5, fun j hj => ?_⟩
  obtain ⟨b1, b2, b3, b4, b5, b6, b7, b8, b9, b10, b11⟩ := h6 j hj
  obtain ⟨go, lo1, lo2⟩ := id b4
  obtain ⟨gs, ls1, ls2⟩ := id b7
  have ne1 : oa j ≠ ia i := fun z => by rewrite [z] at b6; omega
  have so := t.obj hl hte b1 b2 (by decide)
  have ord := t.ords hl hte a8 b4 b5 ne1
  have ow1 := t.ownO hl hte lo1 b5 ne1
  by_cases e : j = i
  · subst e
    refine ⟨so.1, so.2, (own2_in b1).trans b3, ord, ow1, (own2_in lo1.1).trans b6, ?_, t.own0 a8, (own2_in ls1.1).trans b9, b10, by rw [va_up_self]; omega⟩
    rw [va_up_self, va_up_self]
    refine ⟨_, t.1, fun k hk => ?_⟩
    by_cases e : k = nS j
    · have e3 : va_up (SW j) (nS j) w k = w := by rw [e, va_up_self]
      simp only [if_pos e]; rw [e3]
      exact t.obj hl hte hx hxe (by decide)
    · simp only [if_neg e]; rw [va_up_ne _ _ e]
      exact t.obj hl hte (hels k (by omega)).1 (hels k (by omega)).2 (by decide)
  · have ne2 : ia j ≠ ia i := fun z => by rewrite [z] at b9; omega
    refine ⟨so.1, so.2, (own2_in b1).trans b3, ord, ow1, (own2_in lo1.1).trans b6, ?_, t.ownO hl hte ls1 b8 ne2, (own2_in ls1.1).trans b9, b10, by rw [va_up_ne _ _ e]; exact b11⟩
    rw [va_up_ne _ _ e, va_up_ne _ _ e]; exact t.sigs hl hte a8 b7 b8 ne2
theorem OwnL.push {o : Nat} {e : va_E} {q : Nat} (h : OwnL f own te o) (ho : o ∈ L) (hq : q ∉ L) : OwnL (va_up f q e) own te o := fun mc ar k hk => h mc ar k ((va_up_ne _ _ (ne_of_in ho hq)).symm.trans hk)
theorem Inv.push {e : va_E} {q : Nat} (h : Inv L f own te cO cB rr cw fl n sa V oa ia nO OW nS SW) (hq : q ∉ L) : Inv (L ++ [q]) (va_up f q e) own te cO cB rr cw fl n sa V oa ia nO OW nS SW := by
  obtain ⟨h1, h2, h3, h4, h5, h6⟩ := h
  refine ⟨fun m hm => ⟨mem_l (h1 m hm).1, (va_up_ne _ _ (ne_of_in (h1 m hm).1 hq)).trans (h1 m hm).2.1, (h1 m hm).2.2⟩, h2.push hq, h3.push h2.1 hq, h4, h5, fun j hj => ?_⟩
  obtain ⟨b1, b2, b3, b4, b5, b6, b7, b8, b9, b10, b11⟩ := h6 j hj
  obtain ⟨go, lo1, lo2⟩ := id b4
  obtain ⟨gs, ls1, ls2⟩ := id b7
  exact ⟨mem_l b1, (va_up_ne _ _ (ne_of_in b1 hq)).trans b2, b3, b4.push hq, b5.push lo1.1 hq, b6, b7.push hq, b8.push ls1.1 hq, b9, b10, b11⟩
theorem OwnL.reown {o : Nat} {own' : Nat → Nat} (h : OwnL f own te o) (hl : LstAt L f te cO o n g) (he : ∀ a, a ∈ L → own' a = own a) : OwnL f own' te o := fun mc ar k hk => by
  obtain ⟨h1, -, mc2, ar2, h6, h7⟩ := hl
  have e2 : ar = ar2 := lst_ar (hk.symm.trans h6)
  rcases h7 with ⟨-, h8⟩ | ⟨N, r, h8, -⟩
  · exact Or.inl (e2.trans h8)
  · rcases h _ _ _ hk with e | e
    · exact Or.inl e
    · exact Or.inr ((he ar (by rw [e2]; exact h8)).trans e)
theorem Inv.reown {own' : Nat → Nat} (h : Inv L f own te cO cB rr cw fl n sa V oa ia nO OW nS SW) (he : ∀ a, a ∈ L → own' a = own a) : Inv L f own' te cO cB rr cw fl n sa V oa ia nO OW nS SW := by
  obtain ⟨h1, h2, h3, h4, h5, h6⟩ := h
  refine ⟨h1, h2, h3.reown h2 he, (he _ h2.1).trans h4, h5, fun j hj => ?_⟩
  obtain ⟨b1, b2, b3, b4, b5, b6, b7, b8, b9, b10, b11⟩ := h6 j hj
  obtain ⟨go, lo1, lo2⟩ := id b4
  obtain ⟨gs, ls1, ls2⟩ := id b7
  exact ⟨b1, b2, (he _ b1).trans b3, b4, b5.reown lo1 he, (he _ lo1.1).trans b6, b7, b8.reown ls1 he, (he _ ls1.1).trans b9, b10, b11⟩
/-- the fleet takes one more ship, whose two lists stand already -/
theorem Inv.addShip {o1 o2 nA nB : Nat} {WA WB : Nat → Nat → Int32} (h : Inv L f own te cO cB rr cw fl n sa V oa ia nO OW nS SW) (hte : te ∉ L) (t : Took L f te cO fl n x sa uL uf uar uao) (h7 : n ≤ 7) {v : Nat → Int32} (hs : Ship1 L f own te cO x v o1 o2 nA WA nB WB n) : Inv uL uf (own2 own L uar fl) te cO cB rr cw fl (n + 1) (fun k => if k = n then x else sa k) (va_up V n v) (va_up oa n o1) (va_up ia n o2) (va_up nO n nA) (va_up OW n WA) (va_up nS n nB) (va_up SW n WB) := by
  obtain ⟨h1, h2, h3, h4, h5, h6⟩ := h
  refine ⟨t.rows h2 hte h1, t.1, t.own0 h3, (own2_in h2.1).trans h4, by omega, fun j hj => ?_⟩
  have key : ∀ {a : Nat} {v : Nat → Int32} {o1 o2 nA nB : Nat} {WA WB : Nat → Nat → Int32} {i : Nat}, i ≤ n → Ship1 L f own te cO a v o1 o2 nA WA nB WB i → Ship1 uL uf (own2 own L uar fl) te cO a v o1 o2 nA WA nB WB i := by
    intro a v o1 o2 nA nB WA WB i hi hb
    obtain ⟨b1, b2, b3, b4, b5, b6, b7, b8, b9, b10, b11⟩ := hb
    obtain ⟨go, lo1, lo2⟩ := id b4
    obtain ⟨gs, ls1, ls2⟩ := id b7
    have ne1 : o1 ≠ fl := fun z => by rewrite [z] at b6; omega
    have ne2 : o2 ≠ fl := fun z => by rewrite [z] at b9; omega
    have so := t.obj h2 hte b1 b2 (by decide)
    exact ⟨so.1, so.2, (own2_in b1).trans b3, t.ords h2 hte h3 b4 b5 ne1, t.ownO h2 hte lo1 b5 ne1, (own2_in lo1.1).trans b6, t.sigs h2 hte h3 b7 b8 ne2, t.ownO h2 hte ls1 b8 ne2, (own2_in ls1.1).trans b9, b10, b11⟩
  by_cases e : j = n
  · subst e
    simp only [va_up_self, if_true]
    exact key (by omega) hs
  · simp only [va_up_ne _ _ e, if_neg e]
    exact key (by omega) (h6 j (by omega))
end ADD
