/-- the pool at the start: the fleet's empty list, the twelve rows of winds -/
def startF (fl te : Nat) (rr : Nat → Nat) (cB : ClassId) : Nat → va_E := fun a => if a = fl then .inr (0, [.int 0, .ref te, .int 0]) else .inl (cB, 160, .inl (fun _ => 0))
theorem start_apart {X : va_W} {A : Nat → Prop} {fl : Nat} {rr : Nat → Nat} {e row : va_E} (hD : va_D A (X ++ [(fl, e), ((rr 0), row), ((rr 1), row), ((rr 2), row), ((rr 3), row), ((rr 4), row), ((rr 5), row), ((rr 6), row), ((rr 7), row), ((rr 8), row), ((rr 9), row), ((rr 10), row), ((rr 11), row)])) : (∀ i, i < 12 → rr i ≠ fl) ∧ ∀ i j, i < 12 → j < 12 → rr j = rr i → j = i := by
  have key : ∀ i, i < 12 → (X ++ [(fl, e), ((rr 0), row), ((rr 1), row), ((rr 2), row), ((rr 3), row), ((rr 4), row), ((rr 5), row), ((rr 6), row), ((rr 7), row), ((rr 8), row), ((rr 9), row), ((rr 10), row), ((rr 11), row)])[X.length + (i + 1)]? = some (rr i, row) := by
    intro i hi
    rw [List.getElem?_append_right (by omega), show X.length + (i + 1) - X.length = i + 1 by omega]
    rcases (show i = 0 ∨ i = 1 ∨ i = 2 ∨ i = 3 ∨ i = 4 ∨ i = 5 ∨ i = 6 ∨ i = 7 ∨ i = 8 ∨ i = 9 ∨ i = 10 ∨ i = 11 by omega) with rfl | rfl | rfl | rfl | rfl | rfl | rfl | rfl | rfl | rfl | rfl | rfl <;> rfl
  have k0 : (X ++ [(fl, e), ((rr 0), row), ((rr 1), row), ((rr 2), row), ((rr 3), row), ((rr 4), row), ((rr 5), row), ((rr 6), row), ((rr 7), row), ((rr 8), row), ((rr 9), row), ((rr 10), row), ((rr 11), row)])[X.length]? = some (fl, e) := by
    rw [List.getElem?_append_right (Nat.le_refl _), Nat.sub_self]
    rfl
  refine ⟨fun i hi h => ?_, fun i j hi hj h => ?_⟩
  · have := hD.1 _ _ _ _ (key i hi) k0 h
    omega
  · have := hD.1 _ _ _ _ (key j hj) (key i hi) h
    omega
theorem start_pool {X : va_W} {fl te : Nat} {rr : Nat → Nat} {cB : ClassId} (h : ∀ i, i < 12 → rr i ≠ fl) : X ++ [(fl, .inr (0, [.int 0, .ref te, .int 0])), ((rr 0), .inl (cB, 160, .inl (fun _ => 0))), ((rr 1), .inl (cB, 160, .inl (fun _ => 0))), ((rr 2), .inl (cB, 160, .inl (fun _ => 0))), ((rr 3), .inl (cB, 160, .inl (fun _ => 0))), ((rr 4), .inl (cB, 160, .inl (fun _ => 0))), ((rr 5), .inl (cB, 160, .inl (fun _ => 0))), ((rr 6), .inl (cB, 160, .inl (fun _ => 0))), ((rr 7), .inl (cB, 160, .inl (fun _ => 0))), ((rr 8), .inl (cB, 160, .inl (fun _ => 0))), ((rr 9), .inl (cB, 160, .inl (fun _ => 0))), ((rr 10), .inl (cB, 160, .inl (fun _ => 0))), ((rr 11), .inl (cB, 160, .inl (fun _ => 0)))] = X ++ va_pl (fl :: (List.range 12).map rr) (startF fl te rr cB) := by
  congr 1
  unfold va_pl
  have h1 : ((List.range 12).map rr).map (fun a => (a, startF fl te rr cB a)) = ((List.range 12).map rr).map (fun a => (a, (.inl (cB, 160, .inl (fun _ => 0)) : va_E))) := List.map_congr_left (fun a ha => by
    obtain ⟨i, hi, rfl⟩ := List.mem_map.mp ha
    unfold startF
    rw [if_neg (h i (List.mem_range.mp hi))])
  rw [List.map_cons, h1]
  have h2 : startF fl te rr cB fl = .inr (0, [.int 0, .ref te, .int 0]) := if_pos rfl
  rw [h2]
  rfl
theorem start_inv {fl te : Nat} {rr : Nat → Nat} {cO cB : ClassId} (h : ∀ i, i < 12 → rr i ≠ fl) (hd : ∀ i j, i < 12 → j < 12 → rr j = rr i → j = i) : Inv (fl :: (List.range 12).map rr) (startF fl te rr cB) (fun a => if a = fl then 1000 else 0) te cO cB rr (fun _ _ => 0) fl 0 (fun _ => 0) (fun _ _ => 0) (fun _ => 0) (fun _ => 0) (fun _ => 0) (fun _ _ _ => 0) (fun _ => 0) (fun _ _ _ => 0) := by
  have h2 : startF fl te rr cB fl = .inr (0, [.int 0, .ref te, .int 0]) := if_pos rfl
  refine ⟨fun m hm => ⟨List.mem_cons_of_mem _ (List.mem_map.mpr ⟨m, List.mem_range.mpr hm, rfl⟩), if_neg (h m hm), fun k hk e => hd m k hm hk e, fun j => rfl⟩, ⟨List.mem_cons_self, by omega, 0, te, h2.trans rfl, Or.inl ⟨rfl, rfl⟩⟩, fun mc ar k hk => Or.inl ?_, if_pos rfl, by omega, fun i hi => absurd hi (Nat.not_lt_zero i)⟩
  rw [h2] at hk
  exact (lst_ar (mc := 0) (k := 0) hk).symm
