/-! What every contract carries besides its cells: the tables' words of nest mates, of the list's face, of arrays of references. -/
theorem ao_warm {ty : FieldType} {s U : State} (hW : s.vm.Alike U.vm) (h : (Cond.arrayOver ty).before #[] s = true) : (Cond.arrayOver ty).before #[] U = true := by
  have h2 : (Cond.arrayOver ty).before #[] (s.setVm U.vm) = true := by rw [Cond.arrayOver_setVmC hW]; exact h
  exact h2
def NW (U : State) : Prop := (va_Nw (.methodLinkNest RX5 9 yX2_init RX5) U) ∧ (va_Nw (.methodLinkNest RX5 18 yX1_init RX5) U) ∧ (va_Nw (.methodLinkNest RX2 23 yX5_outside RX5) U) ∧ (va_Nw (.methodLinkNest RX3 58 yX5_eighthsBetween RX5) U) ∧ (va_Nw (.methodLinkNest RX3 62 yX5_strengthOf RX5) U) ∧ (va_Nw (.methodLinkNest RX1 19 yX5_outside RX5) U) ∧ (va_Nw (.methodLinkNest RX1 45 yX5_needOf RX5) U) ∧ (va_Nw (.methodLinkNest RX1 54 yX5_monthOf RX5) U) ∧ (va_Nw (.fieldLinkNest RX2 43 "TeaRace" "EAST_BY_WAY" "[I" RX5) U) ∧ (va_Nw (.fieldLinkNest RX2 47 "TeaRace" "SOUTH_BY_WAY" "[I" RX5) U) ∧ (va_Nw (.castable RX3 "java/lang/Object") U) ∧ (va_Nw (.castable RX0 "java/lang/Object") U) ∧ (va_Nw (.castable RX4 "java/lang/Object") U) ∧ (va_Fw RJx4a65c ⟨"java/util/List", "size", "()I"⟩ yJx4a65c_size_8abf5 U) ∧ (va_Fw RJx4a65c ⟨"java/util/List", "add", "(Ljava/lang/Object;)Z"⟩ yJx4a65c_add_9ea2d U) ∧ (va_Fw RJx4a65c ⟨"java/util/List", "get", "(I)Ljava/lang/Object;"⟩ yJx4a65c_get_915e3 U) ∧ (va_AO "java/lang/Object" U) ∧ (va_AOA .byte U)
theorem NW.nX5_9 {U : State} (h : NW U) : va_Nw (.methodLinkNest RX5 9 yX2_init RX5) U := h.1
theorem NW.nX5_18 {U : State} (h : NW U) : va_Nw (.methodLinkNest RX5 18 yX1_init RX5) U := h.2.1
theorem NW.nX2_23 {U : State} (h : NW U) : va_Nw (.methodLinkNest RX2 23 yX5_outside RX5) U := h.2.2.1
theorem NW.nX3_58 {U : State} (h : NW U) : va_Nw (.methodLinkNest RX3 58 yX5_eighthsBetween RX5) U := h.2.2.2.1
theorem NW.nX3_62 {U : State} (h : NW U) : va_Nw (.methodLinkNest RX3 62 yX5_strengthOf RX5) U := h.2.2.2.2.1
theorem NW.nX1_19 {U : State} (h : NW U) : va_Nw (.methodLinkNest RX1 19 yX5_outside RX5) U := h.2.2.2.2.2.1
theorem NW.nX1_45 {U : State} (h : NW U) : va_Nw (.methodLinkNest RX1 45 yX5_needOf RX5) U := h.2.2.2.2.2.2.1
theorem NW.nX1_54 {U : State} (h : NW U) : va_Nw (.methodLinkNest RX1 54 yX5_monthOf RX5) U := h.2.2.2.2.2.2.2.1
theorem NW.nfE {U : State} (h : NW U) : va_Nw (.fieldLinkNest RX2 43 "TeaRace" "EAST_BY_WAY" "[I" RX5) U := h.2.2.2.2.2.2.2.2.1
theorem NW.nfS {U : State} (h : NW U) : va_Nw (.fieldLinkNest RX2 47 "TeaRace" "SOUTH_BY_WAY" "[I" RX5) U := h.2.2.2.2.2.2.2.2.2.1
theorem NW.ncShip {U : State} (h : NW U) : va_Nw (.castable RX3 "java/lang/Object") U := h.2.2.2.2.2.2.2.2.2.2.1
theorem NW.ncOrder {U : State} (h : NW U) : va_Nw (.castable RX0 "java/lang/Object") U := h.2.2.2.2.2.2.2.2.2.2.2.1
theorem NW.ncSight {U : State} (h : NW U) : va_Nw (.castable RX4 "java/lang/Object") U := h.2.2.2.2.2.2.2.2.2.2.2.2.1
theorem NW.fSize {U : State} (h : NW U) : va_Fw RJx4a65c ⟨"java/util/List", "size", "()I"⟩ yJx4a65c_size_8abf5 U := h.2.2.2.2.2.2.2.2.2.2.2.2.2.1
theorem NW.fAdd {U : State} (h : NW U) : va_Fw RJx4a65c ⟨"java/util/List", "add", "(Ljava/lang/Object;)Z"⟩ yJx4a65c_add_9ea2d U := h.2.2.2.2.2.2.2.2.2.2.2.2.2.2.1
theorem NW.fGet {U : State} (h : NW U) : va_Fw RJx4a65c ⟨"java/util/List", "get", "(I)Ljava/lang/Object;"⟩ yJx4a65c_get_915e3 U := h.2.2.2.2.2.2.2.2.2.2.2.2.2.2.2.1
theorem NW.aO {U : State} (h : NW U) : va_AO "java/lang/Object" U := h.2.2.2.2.2.2.2.2.2.2.2.2.2.2.2.2.1
theorem NW.aB {U : State} (h : NW U) : va_AOA .byte U := h.2.2.2.2.2.2.2.2.2.2.2.2.2.2.2.2.2
theorem NW.warm {s U : State} (hW : s.WarmedH U.vm) (h : NW s) : NW U := ⟨va_Nw.warmM hW h.nX5_9, va_Nw.warmM hW h.nX5_18, va_Nw.warmM hW h.nX2_23, va_Nw.warmM hW h.nX3_58, va_Nw.warmM hW h.nX3_62, va_Nw.warmM hW h.nX1_19, va_Nw.warmM hW h.nX1_45, va_Nw.warmM hW h.nX1_54, va_Nw.warmF hW h.nfE, va_Nw.warmF hW h.nfS, va_Nw.warmC hW h.ncShip, va_Nw.warmC hW h.ncOrder, va_Nw.warmC hW h.ncSight, va_Fw.moved (by decide +kernel) hW.alike h.fSize, va_Fw.moved (by decide +kernel) hW.alike h.fAdd, va_Fw.moved (by decide +kernel) hW.alike h.fGet, ao_warm hW.alike h.aO, ao_warm hW.alike h.aB⟩
theorem NW.same {u U : State} (hv : u.vm = U.vm) (h : NW u) : NW U := ⟨va_Nw.same rfl hv h.nX5_9, va_Nw.same rfl hv h.nX5_18, va_Nw.same rfl hv h.nX2_23, va_Nw.same rfl hv h.nX3_58, va_Nw.same rfl hv h.nX3_62, va_Nw.same rfl hv h.nX1_19, va_Nw.same rfl hv h.nX1_45, va_Nw.same rfl hv h.nX1_54, va_Nw.same rfl hv h.nfE, va_Nw.same rfl hv h.nfS, va_Nw.same rfl hv h.ncShip, va_Nw.same rfl hv h.ncOrder, va_Nw.same rfl hv h.ncSight, va_Fw.moved (by decide +kernel) (by rw [hv]; exact Vm.Alike.refl U.vm) h.fSize, va_Fw.moved (by decide +kernel) (by rw [hv]; exact Vm.Alike.refl U.vm) h.fAdd, va_Fw.moved (by decide +kernel) (by rw [hv]; exact Vm.Alike.refl U.vm) h.fGet, ao_warm (by rw [hv]; exact Vm.Alike.refl U.vm) h.aO, ao_warm (by rw [hv]; exact Vm.Alike.refl U.vm) h.aB⟩
/-- a callee that writes nothing old: the caller's cells stand -/
theorem ro_A {A0 : Nat → Prop} {H0 H : Heap} {locs : List Loc} (hS : va_S A0 H0 H locs) (hA : ∀ q, H0.size ≤ q → A0 q) : ∀ q, va_A [] H.size q → A0 q := fun q h => by
  rcases h with ⟨k, e, h⟩ | h
  · simp at h
  · exact hA q (Nat.le_trans hS.1 h)
theorem ro_P {D : va_G} {cl : List vw_C} {ws : va_W} {H H1 : Heap} (hk : ∀ q : Nat, q < H.size → ¬ va_A [] H.size q → H1[q]? = H[q]?) (hP : va_P D cl ws H) : va_P D cl ws H1 := hP.kept (fun k x hx => hk x.1 ((hP k x hx).lt) (by
  rintro (⟨j, e, h⟩ | h)
  · simp at h
  · exact absurd ((hP k x hx).lt) (Nat.not_lt.mpr h)))
/-- a callee of which nothing is said but what it may write: the caller's other cells stand -/
theorem va_apartR {A : Nat → Prop} {ws wc wr : va_W} (hD : va_D A ws) (isC isR : List Nat) (hC : isC.map (fun i => ws[i]?) = wc.map some) (hR : isR.map (fun i => ws[i]?) = wr.map some) (hdis : ∀ i ∈ isR, i ∉ isC) : ∀ (k : Nat) (q : Nat × va_E), wr[k]? = some q → ∀ (j : Nat) (x : Nat × va_E), wc[j]? = some x → x.1 ≠ q.1 := by
  have at' : ∀ {is : List Nat} {w : va_W}, is.map (fun i => ws[i]?) = w.map some → ∀ (k : Nat) (q : Nat × va_E), w[k]? = some q → ∃ i, i ∈ is ∧ ws[i]? = some q := by
    intro is w hs k q hq
    have h1 : (is.map (fun i => ws[i]?))[k]? = some (some q) := by rw [hs, List.getElem?_map, hq]; rfl
    rw [List.getElem?_map] at h1
    obtain ⟨i, hi, e⟩ := Option.map_eq_some_iff.mp h1
    exact ⟨i, List.mem_of_getElem? hi, e⟩
  intro k q hq j x hx hxq
  obtain ⟨i, hi, e1⟩ := at' hR k q hq
  obtain ⟨i2, hi2, e2⟩ := at' hC j x hx
  have := hD.1 i2 i x q e2 e1 hxq
  subst this
  exact hdis i2 hi hi2
theorem wr_P {D : va_G} {cl : List vw_C} {wr wc : va_W} {H H1 : Heap} (hk : ∀ q : Nat, q < H.size → ¬ va_A wc H.size q → H1[q]? = H[q]?) (hP : va_P D cl wr H) (hap : ∀ (k : Nat) (q : Nat × va_E), wr[k]? = some q → ∀ (j : Nat) (x : Nat × va_E), wc[j]? = some x → x.1 ≠ q.1) : va_P D cl wr H1 := hP.kept (fun k x hx => hk x.1 ((hP k x hx).lt) (by
  rintro (⟨j, e, h⟩ | h)
  · exact hap k x hx j _ h rfl
  · exact absurd ((hP k x hx).lt) (Nat.not_lt.mpr h)))
theorem va_atK {D : va_G} {cl : List vw_C} {tys : List (ClassId × FieldType)} {U : State} (hK : va_K D cl tys U) {ci : Nat} {q : vw_C} (hc : cl[ci]? = some q) : ClassAt U q.1 (D.1 ci) := (hK.1 ci q hc).2
/-- boolean answers -/
theorem b01z {c : Prop} [Decidable c] {r : Int32} (h : r = if c then 1 else 0) (h0 : r = 0) : ¬ c := by
  intro hc
  rw [if_pos hc] at h
  rw [h] at h0
  exact absurd h0 (by decide)
theorem b01n {c : Prop} [Decidable c] {r : Int32} (h : r = if c then 1 else 0) (h0 : ¬ r = 0) : c := by
  by_cases hc : c
  · exact hc
  · rw [if_neg hc] at h
    exact absurd h h0
theorem b01nar {c : Prop} [Decidable c] {r : Int32} (h : r = if c then 1 else 0) : narrow .boolean (.int r) = .int r := by
  by_cases hc : c
  · rw [if_pos hc] at h
    subst h
    rfl
  · rw [if_neg hc] at h
    subst h
    rfl
