/-! cells in another order; a ship with two new lists -/
theorem va_P.pm {D : va_G} {cl : List vw_C} {ws ws' : va_W} {H : Heap} (h : va_P D cl ws H) (p : ws.Perm ws') : va_P D cl ws' H := fun k q hk => by
  obtain ⟨j, hj⟩ := List.getElem?_of_mem (p.mem_iff.mpr (List.mem_of_getElem? hk))
  exact h j q hj
theorem va_D.pm {A : Nat → Prop} {ws ws' : va_W} (h : va_D A ws) (p : ws.Perm ws') : va_D A ws' := by
  have h1 : ws.Pairwise (fun a b => a.1 ≠ b.1) := List.pairwise_iff_getElem.mpr (fun i j hi hj hij e => by
    have := h.1 i j _ _ (List.getElem?_eq_getElem hi) (List.getElem?_eq_getElem hj) e; omega)
  have h2 : ws'.Pairwise (fun a b => a.1 ≠ b.1) := (p.pairwise_iff (fun {a b} (z : a.1 ≠ b.1) => z.symm)).mp h1
  rw [List.pairwise_iff_getElem] at h2
  refine ⟨fun i j a b hi hj e => ?_, fun k q hk => ?_⟩
  · obtain ⟨li, ei⟩ := List.getElem?_eq_some_iff.mp hi
    obtain ⟨lj, ej⟩ := List.getElem?_eq_some_iff.mp hj
    rcases Nat.lt_trichotomy i j with z | z | z
    · exact absurd (by rw [ei, ej]; exact e) (h2 i j li lj z)
    · exact z
    · exact absurd (by rw [ei, ej]; exact e.symm) (h2 j i lj li z)
  · obtain ⟨j, hj⟩ := List.getElem?_of_mem (p.mem_iff.mpr (List.mem_of_getElem? hk))
    exact h.2 j q hj
theorem pl_out {X P : va_W} {c : Nat × va_E} : ((X ++ P) ++ [c]).Perm ((X ++ [c]) ++ P) := by
  rw [List.append_assoc, List.append_assoc]
  exact List.Perm.append_left X List.perm_append_comm
/-- the ship q, numbered n, with the new lists o1 and o2 -/
def own3 (own : Nat → Nat) (n q o1 o2 : Nat) : Nat → Nat := fun a => if a = q then n else if a = o1 then 2 * n else if a = o2 then 2 * n + 1 else own a
theorem own3_in {own : Nat → Nat} {n q o1 o2 : Nat} {L : List Nat} (hq : q ∉ L) (h1 : o1 ∉ L) (h2 : o2 ∉ L) : ∀ a, a ∈ L → own3 own n q o1 o2 a = own a := fun a ha => by
  unfold own3
  rw [if_neg (ne_of_in ha hq), if_neg (ne_of_in ha h1), if_neg (ne_of_in ha h2)]
theorem ship_new {L : List Nat} {f : Nat → va_E} {own : Nat → Nat} {te n q o1 o2 : Nat} {cO : ClassId} {v : Nat → Int32} {WA WB : Nat → Nat → Int32} (hq : q ∈ L) (h1 : o1 ∈ L) (h2 : o2 ∈ L) (eq : f q = shipE v o1 o2) (e1 : f o1 = lstE 0 te 0) (e2 : f o2 = lstE 0 te 0) (n1 : o1 ≠ q) (n2 : o2 ≠ q) (n3 : o2 ≠ o1) : Ship1 L f (own3 own n q o1 o2) te cO q v o1 o2 0 WA 0 WB n := by
  refine ⟨hq, eq, if_pos rfl, ⟨fun _ => 0, ⟨h1, by omega, 0, te, e1, Or.inl ⟨rfl, rfl⟩⟩, fun k hk => absurd hk (Nat.not_lt_zero k)⟩, fun mc ar k hk => Or.inl (lst_ar (hk.symm.trans e1)), ?_, ⟨fun _ => 0, ⟨h2, by omega, 0, te, e2, Or.inl ⟨rfl, rfl⟩⟩, fun k hk => absurd hk (Nat.not_lt_zero k)⟩, fun mc ar k hk => Or.inl (lst_ar (hk.symm.trans e2)), ?_, by omega, by omega⟩
  · unfold own3; rw [if_neg n1, if_pos rfl]
  · unfold own3; rw [if_neg n2, if_neg n3, if_pos rfl]
