/-! an object of ours in the pool; a list that took one more -/
def Ob (L : List Nat) (f : Nat → va_E) (x ci : Nat) (l : List Value) : Prop := x ∈ L ∧ f x = .inr (ci, l) ∧ (ci = 1 ∨ ci = 4 ∨ ci = 5)
theorem Ob.push {L : List Nat} {f : Nat → va_E} {x ci : Nat} {l : List Value} {q : Nat} {e : va_E} (h : Ob L f x ci l) (hq : q ∉ L) : Ob (L ++ [q]) (va_up f q e) x ci l := ⟨mem_l h.1, by rw [va_up_ne _ _ (ne_of_in h.1 hq)]; exact h.2.1, h.2.2⟩
theorem Ob.lst {L : List Nat} {f f2 : Nat → va_E} {x ci o : Nat} {l l0 : List Value} {e : va_E} (h : Ob L f x ci l) (e2 : f2 = va_up f o e) (hv : f o = .inr (0, l0)) : Ob L f2 x ci l := by
  refine ⟨h.1, ?_, h.2.2⟩
  rw [e2, va_up_ne _ _ (fun z => ?_)]
  · exact h.2.1
  · have h1 := h.2.1
    rw [z, hv] at h1
    have h2 : (0, l0) = (ci, l) := Sum.inr.inj h1
    have h3 : 0 = ci := congrArg Prod.fst h2
    rcases h.2.2 with c | c | c <;> omega
theorem Ob.arr {L : List Nat} {f f2 : Nat → va_E} {x ci o : Nat} {l : List Value} {a0 : ClassId × vp_A} {e : va_E} (h : Ob L f x ci l) (e2 : f2 = va_up f o e) (hv : f o = .inl a0) : Ob L f2 x ci l := by
  refine ⟨h.1, ?_, h.2.2⟩
  rw [e2, va_up_ne _ _ (pl_ne h.2.1 hv (fun z => by cases z))]
  exact h.2.1
theorem Els.lst {L : List Nat} {f f2 : Nat → va_E} {n o : Nat} {r : Nat → Option Nat} {l0 : List Value} {e : va_E} (h : Els L f n r) (e2 : f2 = va_up f o e) (hv : f o = .inr (0, l0)) : Els L f2 n r := fun k hk y hy => by
  obtain ⟨h1, ci, l, h2, h3⟩ := h k hk y hy
  have := Ob.lst (⟨h1, h2, h3⟩ : Ob L f y ci l) e2 hv
  exact ⟨this.1, ci, l, this.2.1, h3⟩
/-- the elements of a list are objects of ours -/
def Elg (L : List Nat) (f : Nat → va_E) (n : Nat) (g : Nat → Nat) : Prop := ∀ k, k < n → g k ∈ L ∧ ∃ (ci : Nat) (l : List Value), f (g k) = .inr (ci, l) ∧ (ci = 1 ∨ ci = 4 ∨ ci = 5)
theorem Elg.els {L : List Nat} {f : Nat → va_E} {n : Nat} {g : Nat → Nat} {r : Nat → Option Nat} (h : Elg L f n g) (hr : ∀ k, k < n → r k = some (g k)) : Els L f n r := fun k hk y hy => by
  rw [hr k hk] at hy
  cases hy
  exact h k hk
theorem put_lst {L : List Nat} {f : Nat → va_E} {te : Nat} {cO : ClassId} {o n x ar N : Nat} {g : Nat → Nat} {mc : Int32} {r : Nat → Option Nat} {v : Int32} (ho : o ∈ L) (hn : n ≤ 99) (h1 : f o = lstE mc ar v) (hv : v.toInt = (n : Int) + 1) (ha : ar ∈ L) (h2 : f ar = rowE cO N r) (hN : n + 1 ≤ N) (hN2 : N ≤ 200) (hold : ∀ k, k < n → r k = some (g k)) (hnew : r n = some x) : LstAt L f te cO o (n + 1) (fun k => if k = n then x else g k) := by
  have e : v = nI (n + 1) := Int32.toInt_inj.mp (by rw [nI_toInt (by omega), hv]; omega)
  subst e
  refine ⟨ho, by omega, mc, ar, h1, Or.inr ⟨N, r, ha, h2, hN, hN2, fun k hk => ?_, by omega⟩⟩
  dsimp only
  by_cases hk2 : k = n
  · rw [if_pos hk2, hk2]; exact hnew
  · rw [if_neg hk2]; exact hold k (by omega)
