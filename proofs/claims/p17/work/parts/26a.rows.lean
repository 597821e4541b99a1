/-! one cell of the pool handed to a callee as its whole world -/
theorem pl_one {D : va_G} {cl : List vw_C} {X : va_W} {L : List Nat} {f : Nat → va_E} {H : Heap} {a : Nat} {e : va_E} (hP : va_P D cl (X ++ va_pl L f) H) (hm : a ∈ L) (hv : f a = e) : va_P D cl [(a, e)] H := by
  obtain ⟨k, hk⟩ := pl_at (X := X) hm hv
  intro j q hq
  match j, hq with
  | 0, hq => cases hq; exact hP k _ hk
  | j + 1, hq => simp at hq
theorem pl_oneD {A : Nat → Prop} {X : va_W} {L : List Nat} {f : Nat → va_E} {a : Nat} {e : va_E} (hD : va_D A (X ++ va_pl L f)) (hm : a ∈ L) (hv : f a = e) : va_D A [(a, e)] := by
  obtain ⟨k, hk⟩ := pl_at (X := X) hm hv
  refine ⟨fun i j p q hp hq _ => ?_, fun i q hq => ?_⟩
  · have h1 : i < 1 := (List.getElem?_eq_some_iff.mp hp).1
    have h2 : j < 1 := (List.getElem?_eq_some_iff.mp hq).1
    omega
  · match i, hq with
    | 0, hq => cases hq; exact hD.2 k _ hk
    | i + 1, hq => simp at hq
theorem pl_oneF {A : Nat → Prop} {X : va_W} {L : List Nat} {f : Nat → va_E} {H0 H : Heap} {locs : List Loc} {a : Nat} {e : va_E} (hD : va_D A (X ++ va_pl L f)) (hS : va_S A H0 H locs) (hA : ∀ q, H0.size ≤ q → A q) (hm : a ∈ L) (hv : f a = e) : ∀ q, va_A [(a, e)] H.size q → A q := by
  obtain ⟨k, hk⟩ := pl_at (X := X) hm hv
  intro q h
  rcases h with ⟨j, e2, h⟩ | h
  · match j, h with
    | 0, h => cases h; exact hD.2 k _ hk
    | j + 1, h => simp at h
  · exact hA q (Nat.le_trans hS.1 h)
theorem pl_join1 {A : Nat → Prop} {D : va_G} {cl : List vw_C} {X : va_W} {L : List Nat} {f : Nat → va_E} {H H1 : Heap} {a : Nat} {e e' : va_E} (hP : va_P D cl (X ++ va_pl L f) H) (hD : va_D A (X ++ va_pl L f)) (hm : a ∈ L) (hv : f a = e) (hk1 : ∀ q : Nat, q < H.size → ¬ va_A [(a, e)] H.size q → H1[q]? = H[q]?) (hP1 : va_P D cl [(a, e')] H1) : va_P D cl (X ++ va_pl L (va_up f a e')) H1 ∧ va_D A (X ++ va_pl L (va_up f a e')) := by
  obtain ⟨k, hk⟩ := pl_at (X := X) hm hv
  rw [← pl_set hD hm hv hk (e' := e')]
  refine ⟨fun j q hq => ?_, hD.set hk⟩
  rw [List.getElem?_set] at hq
  by_cases hj : k = j
  · rw [if_pos hj] at hq
    split at hq
    · cases hq; exact hP1 0 _ rfl
    · cases hq
  · rw [if_neg hj] at hq
    have hl := (hP j q hq).lt
    refine (hP j q hq).kept (hk1 q.1 hl ?_)
    rintro (⟨i, e2, h⟩ | h)
    · match i, h with
      | 0, h => cases h; exact hj (hD.1 k j _ _ hk hq rfl)
      | i + 1, h => simp at h
    · omega
theorem const_step {w : Nat → Int32} {k k' : Int} {x v c : Int32} (h : ∀ j : Nat, (j : Int) < k → w j = c) (hx : x.toInt = k) (hv : v = c) (hk : k' = k + 1) : ∀ j : Nat, (j : Int) < k' → upd w x.toNatClampNeg v j = c := by
  intro j hj
  by_cases e : j = x.toNatClampNeg
  · rw [e, upd_at, hv]
  · rw [upd_off _ _ e]
    have hn : ((x.toNatClampNeg : Nat) : Int) = max x.toInt 0 := by
      show ((x.toInt.toNat : Nat) : Int) = _
      omega
    exact h j (by omega)
theorem ByteRow.up {w : Nat → Int32} (h : ByteRow w) (k : Nat) (x : Int32) : ByteRow (upd w k (vp_nar .byte x)) := fun j => by
  unfold upd
  split
  · exact fits_narrow_byte x
  · exact h j
theorem ByteRow.cpy {w u : Nat → Int32} (h : ByteRow w) (h2 : ByteRow u) (a b n : Nat) : ByteRow (va_cpy w u a b n) := fun j => by
  unfold va_cpy
  split
  · exact h _
  · exact h2 j
theorem Rows.row {L : List Nat} {f f2 : Nat → va_E} {rr : Nat → Nat} {cB : ClassId} {cw : Nat → Nat → Int32} {m : Nat} {w : Nat → Int32} (h : Rows L f rr cB cw) (hm : m < 12) (e2 : f2 = va_up f (rr m) (.inl (cB, 160, .inl w))) (hw : ByteRow w) : Rows L f2 rr cB (va_up cw m w) := fun k hk => by
  obtain ⟨h1, h2, h3, h4⟩ := h k hk
  by_cases e : k = m
  · subst e
    refine ⟨h1, ?_, h3, ?_⟩
    · rw [e2, va_up_self, va_up_self]
    · rw [va_up_self]; exact hw
  · refine ⟨h1, ?_, h3, ?_⟩
    · rw [e2, va_up_ne _ _ (fun z => e ((h m hm).2.2.1 k hk z)), va_up_ne _ _ e]; exact h2
    · rw [va_up_ne _ _ e]; exact h4
