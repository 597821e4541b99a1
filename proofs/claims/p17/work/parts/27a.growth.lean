/-! a new cell put behind the pool; what lists hold; numbers of growth -/
theorem pl_push {A : Nat → Prop} {D : va_G} {cl : List vw_C} {X : va_W} {L : List Nat} {f : Nat → va_E} {q : Nat} {e : va_E} {H : Heap} (hP : va_P D cl ((X ++ va_pl L f) ++ [(q, e)]) H) (hD : va_D A ((X ++ va_pl L f) ++ [(q, e)])) : q ∉ L ∧ va_P D cl (X ++ va_pl (L ++ [q]) (va_up f q e)) H ∧ va_D A (X ++ va_pl (L ++ [q]) (va_up f q e)) := by
  have h := va_pl_fresh2 hD
  have e1 : (X ++ va_pl L f) ++ [(q, e)] = X ++ va_pl (L ++ [q]) (va_up f q e) := by rw [List.append_assoc, va_pl_push h]
  rw [← e1]
  exact ⟨h, hP, hD⟩
theorem pl_fresh {A : Nat → Prop} {X : va_W} {L : List Nat} {f : Nat → va_E} {q : Nat} (hD : va_D A (X ++ va_pl (L ++ [q]) f)) : q ∉ L := by
  intro h
  have e1 : X ++ va_pl (L ++ [q]) f = (X ++ va_pl L f) ++ [(q, f q)] := by simp [va_pl, List.append_assoc]
  rw [e1] at hD
  exact va_pl_fresh2 hD h
theorem mem_l {L : List Nat} {a q : Nat} (h : a ∈ L) : a ∈ L ++ [q] := List.mem_append_left _ h
theorem mem_r {L : List Nat} {q : Nat} : q ∈ L ++ [q] := List.mem_append_right _ List.mem_cons_self
theorem ne_of_in {L : List Nat} {a q : Nat} (h : a ∈ L) (hq : q ∉ L) : a ≠ q := fun z => hq (z ▸ h)
theorem NW.nc {U : State} (h : NW U) {ci : Nat} (hc : ci = 1 ∨ ci = 4 ∨ ci = 5) : ∃ r : vw_C, vwCl[ci]? = some r ∧ va_Nw (.castable r.1 "java/lang/Object") U := by
  rcases hc with rfl | rfl | rfl
  · exact ⟨_, rfl, h.ncOrder⟩
  · exact ⟨_, rfl, h.ncShip⟩
  · exact ⟨_, rfl, h.ncSight⟩
theorem any_pool {dC : Nat → ClassId} {dI : Nat → Nat → Nat} {tys : List (ClassId × FieldType)} {s : State} {X : va_W} {L : List Nat} {f : Nat → va_E} {H : Heap} {y ci : Nat} {l : List Value} (hK : va_K (dC, dI) vwCl tys s) (hP : va_P (dC, dI) vwCl (X ++ va_pl L f) H) (hN : NW s) (hy : y ∈ L) (hv : f y = .inr (ci, l)) (hc : ci = 1 ∨ ci = 4 ∨ ci = 5) : va_Any "java/lang/Object" s H y := by
  obtain ⟨k, hk⟩ := pl_at (X := X) hy hv
  obtain ⟨r, hr, hn⟩ := hN.nc hc
  refine va_rAny hK hP hk hr ?_
  intro comp c0 h1 h2
  obtain ⟨c1, t1, f1, f2, f3⟩ := Cond.castable_spec (va_Nw.use (A := #[]) rfl hn)
  cases h2.symm.trans f1
  cases h1.symm.trans f2
  exact f3
/-- what stands in a list's row below its length: objects of the pool, of our classes -/
def Els (L : List Nat) (f : Nat → va_E) (n : Nat) (r : Nat → Option Nat) : Prop := ∀ k, k < n → ∀ y, r k = some y → y ∈ L ∧ ∃ (ci : Nat) (l : List Value), f y = .inr (ci, l) ∧ (ci = 1 ∨ ci = 4 ∨ ci = 5)
theorem shr1_all : ∀ k : Fin 201, ((Int32.ofNat k.val) >>> ((1 : Int32) &&& 31)).toInt = (k.val : Int) / 2 := by decide +kernel
theorem shr1_k {x a : Int32} (h : x = a >>> ((1 : Int32) &&& 31)) (l : 0 ≤ a.toInt) (u : a.toInt ≤ 200) : x.toInt = a.toInt / 2 := by
  have ha : a = Int32.ofNat a.toInt.toNat := Int32.toInt_inj.mp (by rw [show (Int32.ofNat a.toInt.toNat).toInt = (a.toInt.toNat : Int) from nI_toInt (by omega)]; omega)
  have := shr1_all ⟨a.toInt.toNat, by omega⟩
  rw [h]
  rw [ha]
  rw [this]
  have e : (Int32.ofNat a.toInt.toNat).toInt = a.toInt := congrArg Int32.toInt ha.symm
  rw [e]
  show ((a.toInt.toNat : Nat) : Int) / 2 = a.toInt / 2
  omega
theorem arr_cell {dC : Nat → ClassId} {dI : Nat → Nat → Nat} {tys : List (ClassId × FieldType)} {s : State} {ws : va_W} {H : Heap} {a k t N : Nat} {cO : ClassId} {r : Nat → Option Nat} (hK : va_K (dC, dI) vwCl tys s) (hP : va_P (dC, dI) vwCl ws H) (hk : ws[k]? = some (a, rowE cO N r)) (ht : tys[t]? = some (cO, .object "java/lang/Object")) : ∃ cell : Cell, H[a]? = some cell ∧ cell.vm.isStatics = false ∧ s.vm.findClass "[Ljava/lang/Object;" = some cell.cls := by
  obtain ⟨kA, comp, k1, k2, k3, k4⟩ := (hK.2 t _ ht).2
  have h := hP k _ hk
  exact ⟨_, h, rfl, k4⟩
theorem Els.push {L : List Nat} {f : Nat → va_E} {n : Nat} {r : Nat → Option Nat} {q : Nat} {e : va_E} (h : Els L f n r) (hq : q ∉ L) : Els (L ++ [q]) (va_up f q e) n r := fun k hk y hy => by
  obtain ⟨h1, ci, l, h2, h3⟩ := h k hk y hy
  exact ⟨mem_l h1, ci, l, by rw [va_up_ne _ _ (ne_of_in h1 hq)]; exact h2, h3⟩
theorem LstAt.push {L : List Nat} {f : Nat → va_E} {te : Nat} {cO : ClassId} {o n : Nat} {g : Nat → Nat} {q : Nat} {e : va_E} (h : LstAt L f te cO o n g) (hq : q ∉ L) : LstAt (L ++ [q]) (va_up f q e) te cO o n g := by
  obtain ⟨h1, h2, mc, ar, h3, h4⟩ := h
  refine ⟨mem_l h1, h2, mc, ar, by rw [va_up_ne _ _ (ne_of_in h1 hq)]; exact h3, ?_⟩
  rcases h4 with h5 | ⟨N, r, h5, h6, h7⟩
  · exact Or.inl h5
  · exact Or.inr ⟨N, r, mem_l h5, by rw [va_up_ne _ _ (ne_of_in h5 hq)]; exact h6, h7⟩
theorem Ords.push {L : List Nat} {f : Nat → va_E} {te : Nat} {cO : ClassId} {o n : Nat} {w : Nat → Nat → Int32} {q : Nat} {e : va_E} (h : Ords L f te cO o n w) (hq : q ∉ L) : Ords (L ++ [q]) (va_up f q e) te cO o n w := by
  obtain ⟨g, h1, h2⟩ := h
  exact ⟨g, h1.push hq, fun k hk => ⟨mem_l (h2 k hk).1, by rw [va_up_ne _ _ (ne_of_in (h2 k hk).1 hq)]; exact (h2 k hk).2⟩⟩
theorem Sigs.push {L : List Nat} {f : Nat → va_E} {te : Nat} {cO : ClassId} {o n : Nat} {w : Nat → Nat → Int32} {q : Nat} {e : va_E} (h : Sigs L f te cO o n w) (hq : q ∉ L) : Sigs (L ++ [q]) (va_up f q e) te cO o n w := by
  obtain ⟨g, h1, h2⟩ := h
  exact ⟨g, h1.push hq, fun k hk => ⟨mem_l (h2 k hk).1, by rw [va_up_ne _ _ (ne_of_in (h2 k hk).1 hq)]; exact (h2 k hk).2⟩⟩
theorem Rows.push {L : List Nat} {f : Nat → va_E} {rr : Nat → Nat} {cB : ClassId} {cw : Nat → Nat → Int32} {q : Nat} {e : va_E} (h : Rows L f rr cB cw) (hq : q ∉ L) : Rows (L ++ [q]) (va_up f q e) rr cB cw := fun m hm => by
  obtain ⟨h1, h2, h3⟩ := h m hm
  exact ⟨mem_l h1, by rw [va_up_ne _ _ (ne_of_in h1 hq)]; exact h2, h3⟩
