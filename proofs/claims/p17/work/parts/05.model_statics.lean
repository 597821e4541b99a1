set_option maxHeartbeats 4000000 in
set_option maxRecDepth 100000 in
/-- in(a, b, c) -/
theorem c_X6_in (l : Launch) (sz : Nat) (a0 : Int32) (b0 : Int32) (c0 : Int32)  : Met l yX6_in wsX6_in ({ frames := 0, cells := 0, slots := 0, locals := 0 }) (va_Pc [.int a0, .int b0, .int c0] (fun U => U.heap.size = sz)) (va_Qi (fun (r : Int32) (_ : Unit) => (r = if (b0 ≤ a0 ∧ a0 ≤ c0) then 1 else 0) ∧ (0 ≤ r.toInt ∧ r.toInt ≤ 1)) (fun _ _ => True) (va_A [] sz)) 0 0 (va_A [] sz) := by
  refine Met.ofW (cc := cX6_in) (maxL := 3) (ret := (some .boolean)) (by decide) rfl ?_
  intro p e s m args below meth c s₁ B hml hv
  obtain ⟨rfl, hsz⟩ := hv
  have hx := B.exec
  have hb := B.bytes
  have hr := B.returns
  have hts := atoms_spec (ws := wsX6_in) B.pre
  have hown : s.vm.findClass RX6 = some m.cls := findClass_of_methodNamed B.named
  have hlocks := B.notSynchronized
  subst hsz
  generalize hAe : va_A [] s.heap.size = A at ⊢
  have hA : ∀ q : Nat, s.heap.size ≤ q → A q := fun q h => by rw [← hAe]; exact Or.inr h
  have hS : va_S A s.heap s.heap [] := va_S.rf
  have hl := lv_entry ([.int a0, .int b0, .int c0]) (n := 3) (Nat.le_of_ble_eq_true rfl)
  rw [lg_entry_eq]
  generalize (lg_sl ([.int a0, .int b0, .int c0]) ++ List.replicate (3 - (lg_sl ([.int a0, .int b0, .int c0])).length) Slot.unset).toArray = ls at hl ⊢
  have hl : lv_has ls 3 [(0, .int a0), (1, .int b0), (2, .int c0)] := hl
  refine lv_iload_n hx hb dX6_in_0 rfl (lv_at hl 0 rfl) ?_
  refine lv_iload_n hx hb dX6_in_1 rfl (lv_at hl 1 rfl) ?_
  refine lv_icmp_lt (tgt := 14) hx hb dX6_in_2 (by decide) (fun c_1 => ?_) (fun c_1 => ?_)
  · skip
    have qc_1 : a0.toInt < b0.toInt := lt_k rfl rfl c_1
    refine lv_iconst (v := 0) hx hb dX6_in_14 (by decide) ?_
    have hv9 : (0 : Int32).toInt = 0 := by decide
    exact W.zret (v := 0) hx hb hr rfl (fun t ht hW => ⟨⟨0, (), rfl, ⟨(by (try dsimp only) <;> (first | (rw [if_neg (by (first | ((try simp only [Int32.lt_iff_toInt_lt, Int32.le_iff_toInt_le, ← Int32.toInt_inj, Int32.reduceToInt, zl1, zl2, zl3, zl4, zl9]); (try simp only [Int32.reduceToInt]); omega) | assumption | (first | omega | ((try simp only [Int32.lt_iff_toInt_lt, Int32.le_iff_toInt_le, ← Int32.toInt_inj, Int32.reduceToInt, zl1, zl2, zl3, zl4, zl9]); (try simp only [Int32.reduceToInt]); omega) | (subst_vars; assumption) | (refine ⟨?_, ?_⟩ <;> first | omega | (simp only [Int32.lt_iff_toInt_lt, Int32.le_iff_toInt_le, ← Int32.toInt_inj, Int32.reduceToInt, zl1, zl2, zl3, zl4, zl9]; omega) | (subst_vars; assumption)))))]) | (first | (first | rfl | assumption | omega | exact Int32.toInt_inj.mp (by omega) | (simp only [Int32.reduceToInt, zl1, zl2, zl3, zl4, zl9]; omega) | ((rw [if_pos (by (first | omega | ((try simp only [Int32.lt_iff_toInt_lt, Int32.le_iff_toInt_le, ← Int32.toInt_inj, Int32.reduceToInt, zl1, zl2, zl3, zl4, zl9]); (try simp only [Int32.reduceToInt]); omega) | (subst_vars; assumption) | (refine ⟨?_, ?_⟩ <;> first | omega | (simp only [Int32.lt_iff_toInt_lt, Int32.le_iff_toInt_le, ← Int32.toInt_inj, Int32.reduceToInt, zl1, zl2, zl3, zl4, zl9]; omega) | (subst_vars; assumption))))]) <;> (first | rfl | assumption | omega | exact Int32.toInt_inj.mp (by omega) | (simp only [Int32.reduceToInt, zl1, zl2, zl3, zl4, zl9]; omega) | ((rw [if_pos (by (first | omega | ((try simp only [Int32.lt_iff_toInt_lt, Int32.le_iff_toInt_le, ← Int32.toInt_inj, Int32.reduceToInt, zl1, zl2, zl3, zl4, zl9]); (try simp only [Int32.reduceToInt]); omega) | (subst_vars; assumption) | (refine ⟨?_, ?_⟩ <;> first | omega | (simp only [Int32.lt_iff_toInt_lt, Int32.le_iff_toInt_le, ← Int32.toInt_inj, Int32.reduceToInt, zl1, zl2, zl3, zl4, zl9]; omega) | (subst_vars; assumption))))]) <;> (first | rfl | assumption | omega | exact Int32.toInt_inj.mp (by omega) | (simp only [Int32.reduceToInt, zl1, zl2, zl3, zl4, zl9]; omega))) | ((rw [if_neg (by (first | omega | ((try simp only [Int32.lt_iff_toInt_lt, Int32.le_iff_toInt_le, ← Int32.toInt_inj, Int32.reduceToInt, zl1, zl2, zl3, zl4, zl9]); (try simp only [Int32.reduceToInt]); omega) | (subst_vars; assumption) | (refine ⟨?_, ?_⟩ <;> first | omega | (simp only [Int32.lt_iff_toInt_lt, Int32.le_iff_toInt_le, ← Int32.toInt_inj, Int32.reduceToInt, zl1, zl2, zl3, zl4, zl9]; omega) | (subst_vars; assumption))))]) <;> (first | rfl | assumption | omega | exact Int32.toInt_inj.mp (by omega) | (simp only [Int32.reduceToInt, zl1, zl2, zl3, zl4, zl9]; omega))))) | ((rw [if_neg (by (first | omega | ((try simp only [Int32.lt_iff_toInt_lt, Int32.le_iff_toInt_le, ← Int32.toInt_inj, Int32.reduceToInt, zl1, zl2, zl3, zl4, zl9]); (try simp only [Int32.reduceToInt]); omega) | (subst_vars; assumption) | (refine ⟨?_, ?_⟩ <;> first | omega | (simp only [Int32.lt_iff_toInt_lt, Int32.le_iff_toInt_le, ← Int32.toInt_inj, Int32.reduceToInt, zl1, zl2, zl3, zl4, zl9]; omega) | (subst_vars; assumption))))]) <;> (first | rfl | assumption | omega | exact Int32.toInt_inj.mp (by omega) | (simp only [Int32.reduceToInt, zl1, zl2, zl3, zl4, zl9]; omega) | ((rw [if_pos (by (first | omega | ((try simp only [Int32.lt_iff_toInt_lt, Int32.le_iff_toInt_le, ← Int32.toInt_inj, Int32.reduceToInt, zl1, zl2, zl3, zl4, zl9]); (try simp only [Int32.reduceToInt]); omega) | (subst_vars; assumption) | (refine ⟨?_, ?_⟩ <;> first | omega | (simp only [Int32.lt_iff_toInt_lt, Int32.le_iff_toInt_le, ← Int32.toInt_inj, Int32.reduceToInt, zl1, zl2, zl3, zl4, zl9]; omega) | (subst_vars; assumption))))]) <;> (first | rfl | assumption | omega | exact Int32.toInt_inj.mp (by omega) | (simp only [Int32.reduceToInt, zl1, zl2, zl3, zl4, zl9]; omega))) | ((rw [if_neg (by (first | omega | ((try simp only [Int32.lt_iff_toInt_lt, Int32.le_iff_toInt_le, ← Int32.toInt_inj, Int32.reduceToInt, zl1, zl2, zl3, zl4, zl9]); (try simp only [Int32.reduceToInt]); omega) | (subst_vars; assumption) | (refine ⟨?_, ?_⟩ <;> first | omega | (simp only [Int32.lt_iff_toInt_lt, Int32.le_iff_toInt_le, ← Int32.toInt_inj, Int32.reduceToInt, zl1, zl2, zl3, zl4, zl9]; omega) | (subst_vars; assumption))))]) <;> (first | rfl | assumption | omega | exact Int32.toInt_inj.mp (by omega) | (simp only [Int32.reduceToInt, zl1, zl2, zl3, zl4, zl9]; omega)))))) | ((try simp only [Int32.lt_iff_toInt_lt, Int32.le_iff_toInt_le, ← Int32.toInt_inj, Int32.reduceToInt, zl1, zl2, zl3, zl4, zl9]); (repeat' split) <;> first | rfl | omega | (simp only [Int32.lt_iff_toInt_lt, Int32.le_iff_toInt_le, ← Int32.toInt_inj, Int32.reduceToInt, zl1, zl2, zl3, zl4, zl9]; omega))))), (by decide)⟩, trivial⟩, hS.F ht⟩) hS.2.2 dX6_in_15
  · skip
    have qc_1 : b0.toInt ≤ a0.toInt := nlt_k rfl rfl c_1
    refine lv_iload_n hx hb dX6_in_5 rfl (lv_at hl 0 rfl) ?_
    refine lv_iload_n hx hb dX6_in_6 rfl (lv_at hl 2 rfl) ?_
    refine lv_icmp_gt (tgt := 14) hx hb dX6_in_7 (by decide) (fun c_2 => ?_) (fun c_2 => ?_)
    · skip
      have qc_2 : c0.toInt < a0.toInt := lt_k rfl rfl c_2
      refine lv_iconst (v := 0) hx hb dX6_in_14 (by decide) ?_
      have hv9 : (0 : Int32).toInt = 0 := by decide
      exact W.zret (v := 0) hx hb hr rfl (fun t ht hW => ⟨⟨0, (), rfl, ⟨(by (try dsimp only) <;> (first | (rw [if_neg (by (first | ((try simp only [Int32.lt_iff_toInt_lt, Int32.le_iff_toInt_le, ← Int32.toInt_inj, Int32.reduceToInt, zl1, zl2, zl3, zl4, zl9]); (try simp only [Int32.reduceToInt]); omega) | assumption | (first | omega | ((try simp only [Int32.lt_iff_toInt_lt, Int32.le_iff_toInt_le, ← Int32.toInt_inj, Int32.reduceToInt, zl1, zl2, zl3, zl4, zl9]); (try simp only [Int32.reduceToInt]); omega) | (subst_vars; assumption) | (refine ⟨?_, ?_⟩ <;> first | omega | (simp only [Int32.lt_iff_toInt_lt, Int32.le_iff_toInt_le, ← Int32.toInt_inj, Int32.reduceToInt, zl1, zl2, zl3, zl4, zl9]; omega) | (subst_vars; assumption)))))]) | (first | (first | rfl | assumption | omega | exact Int32.toInt_inj.mp (by omega) | (simp only [Int32.reduceToInt, zl1, zl2, zl3, zl4, zl9]; omega) | ((rw [if_pos (by (first | omega | ((try simp only [Int32.lt_iff_toInt_lt, Int32.le_iff_toInt_le, ← Int32.toInt_inj, Int32.reduceToInt, zl1, zl2, zl3, zl4, zl9]); (try simp only [Int32.reduceToInt]); omega) | (subst_vars; assumption) | (refine ⟨?_, ?_⟩ <;> first | omega | (simp only [Int32.lt_iff_toInt_lt, Int32.le_iff_toInt_le, ← Int32.toInt_inj, Int32.reduceToInt, zl1, zl2, zl3, zl4, zl9]; omega) | (subst_vars; assumption))))]) <;> (first | rfl | assumption | omega | exact Int32.toInt_inj.mp (by omega) | (simp only [Int32.reduceToInt, zl1, zl2, zl3, zl4, zl9]; omega) | ((rw [if_pos (by (first | omega | ((try simp only [Int32.lt_iff_toInt_lt, Int32.le_iff_toInt_le, ← Int32.toInt_inj, Int32.reduceToInt, zl1, zl2, zl3, zl4, zl9]); (try simp only [Int32.reduceToInt]); omega) | (subst_vars; assumption) | (refine ⟨?_, ?_⟩ <;> first | omega | (simp only [Int32.lt_iff_toInt_lt, Int32.le_iff_toInt_le, ← Int32.toInt_inj, Int32.reduceToInt, zl1, zl2, zl3, zl4, zl9]; omega) | (subst_vars; assumption))))]) <;> (first | rfl | assumption | omega | exact Int32.toInt_inj.mp (by omega) | (simp only [Int32.reduceToInt, zl1, zl2, zl3, zl4, zl9]; omega))) | ((rw [if_neg (by (first | omega | ((try simp only [Int32.lt_iff_toInt_lt, Int32.le_iff_toInt_le, ← Int32.toInt_inj, Int32.reduceToInt, zl1, zl2, zl3, zl4, zl9]); (try simp only [Int32.reduceToInt]); omega) | (subst_vars; assumption) | (refine ⟨?_, ?_⟩ <;> first | omega | (simp only [Int32.lt_iff_toInt_lt, Int32.le_iff_toInt_le, ← Int32.toInt_inj, Int32.reduceToInt, zl1, zl2, zl3, zl4, zl9]; omega) | (subst_vars; assumption))))]) <;> (first | rfl | assumption | omega | exact Int32.toInt_inj.mp (by omega) | (simp only [Int32.reduceToInt, zl1, zl2, zl3, zl4, zl9]; omega))))) | ((rw [if_neg (by (first | omega | ((try simp only [Int32.lt_iff_toInt_lt, Int32.le_iff_toInt_le, ← Int32.toInt_inj, Int32.reduceToInt, zl1, zl2, zl3, zl4, zl9]); (try simp only [Int32.reduceToInt]); omega) | (subst_vars; assumption) | (refine ⟨?_, ?_⟩ <;> first | omega | (simp only [Int32.lt_iff_toInt_lt, Int32.le_iff_toInt_le, ← Int32.toInt_inj, Int32.reduceToInt, zl1, zl2, zl3, zl4, zl9]; omega) | (subst_vars; assumption))))]) <;> (first | rfl | assumption | omega | exact Int32.toInt_inj.mp (by omega) | (simp only [Int32.reduceToInt, zl1, zl2, zl3, zl4, zl9]; omega) | ((rw [if_pos (by (first | omega | ((try simp only [Int32.lt_iff_toInt_lt, Int32.le_iff_toInt_le, ← Int32.toInt_inj, Int32.reduceToInt, zl1, zl2, zl3, zl4, zl9]); (try simp only [Int32.reduceToInt]); omega) | (subst_vars; assumption) | (refine ⟨?_, ?_⟩ <;> first | omega | (simp only [Int32.lt_iff_toInt_lt, Int32.le_iff_toInt_le, ← Int32.toInt_inj, Int32.reduceToInt, zl1, zl2, zl3, zl4, zl9]; omega) | (subst_vars; assumption))))]) <;> (first | rfl | assumption | omega | exact Int32.toInt_inj.mp (by omega) | (simp only [Int32.reduceToInt, zl1, zl2, zl3, zl4, zl9]; omega))) | ((rw [if_neg (by (first | omega | ((try simp only [Int32.lt_iff_toInt_lt, Int32.le_iff_toInt_le, ← Int32.toInt_inj, Int32.reduceToInt, zl1, zl2, zl3, zl4, zl9]); (try simp only [Int32.reduceToInt]); omega) | (subst_vars; assumption) | (refine ⟨?_, ?_⟩ <;> first | omega | (simp only [Int32.lt_iff_toInt_lt, Int32.le_iff_toInt_le, ← Int32.toInt_inj, Int32.reduceToInt, zl1, zl2, zl3, zl4, zl9]; omega) | (subst_vars; assumption))))]) <;> (first | rfl | assumption | omega | exact Int32.toInt_inj.mp (by omega) | (simp only [Int32.reduceToInt, zl1, zl2, zl3, zl4, zl9]; omega)))))) | ((try simp only [Int32.lt_iff_toInt_lt, Int32.le_iff_toInt_le, ← Int32.toInt_inj, Int32.reduceToInt, zl1, zl2, zl3, zl4, zl9]); (repeat' split) <;> first | rfl | omega | (simp only [Int32.lt_iff_toInt_lt, Int32.le_iff_toInt_le, ← Int32.toInt_inj, Int32.reduceToInt, zl1, zl2, zl3, zl4, zl9]; omega))))), (by decide)⟩, trivial⟩, hS.F ht⟩) hS.2.2 dX6_in_15
    · skip
      have qc_2 : a0.toInt ≤ c0.toInt := nlt_k rfl rfl c_2
      refine lv_iconst (v := 1) hx hb dX6_in_10 (by decide) ?_
      refine lv_goto (tgt := 15) hx hb dX6_in_11 (by decide) ?_
      have hv9 : (1 : Int32).toInt = 1 := by decide
      exact W.zret (v := 1) hx hb hr rfl (fun t ht hW => ⟨⟨1, (), rfl, ⟨(by (try dsimp only) <;> (first | (rw [if_pos (by (first | ((try simp only [Int32.lt_iff_toInt_lt, Int32.le_iff_toInt_le, ← Int32.toInt_inj, Int32.reduceToInt, zl1, zl2, zl3, zl4, zl9]); (try simp only [Int32.reduceToInt]); omega) | assumption | (first | omega | ((try simp only [Int32.lt_iff_toInt_lt, Int32.le_iff_toInt_le, ← Int32.toInt_inj, Int32.reduceToInt, zl1, zl2, zl3, zl4, zl9]); (try simp only [Int32.reduceToInt]); omega) | (subst_vars; assumption) | (refine ⟨?_, ?_⟩ <;> first | omega | (simp only [Int32.lt_iff_toInt_lt, Int32.le_iff_toInt_le, ← Int32.toInt_inj, Int32.reduceToInt, zl1, zl2, zl3, zl4, zl9]; omega) | (subst_vars; assumption)))))]) | (first | (first | rfl | assumption | omega | exact Int32.toInt_inj.mp (by omega) | (simp only [Int32.reduceToInt, zl1, zl2, zl3, zl4, zl9]; omega) | ((rw [if_pos (by (first | omega | ((try simp only [Int32.lt_iff_toInt_lt, Int32.le_iff_toInt_le, ← Int32.toInt_inj, Int32.reduceToInt, zl1, zl2, zl3, zl4, zl9]); (try simp only [Int32.reduceToInt]); omega) | (subst_vars; assumption) | (refine ⟨?_, ?_⟩ <;> first | omega | (simp only [Int32.lt_iff_toInt_lt, Int32.le_iff_toInt_le, ← Int32.toInt_inj, Int32.reduceToInt, zl1, zl2, zl3, zl4, zl9]; omega) | (subst_vars; assumption))))]) <;> (first | rfl | assumption | omega | exact Int32.toInt_inj.mp (by omega) | (simp only [Int32.reduceToInt, zl1, zl2, zl3, zl4, zl9]; omega) | ((rw [if_pos (by (first | omega | ((try simp only [Int32.lt_iff_toInt_lt, Int32.le_iff_toInt_le, ← Int32.toInt_inj, Int32.reduceToInt, zl1, zl2, zl3, zl4, zl9]); (try simp only [Int32.reduceToInt]); omega) | (subst_vars; assumption) | (refine ⟨?_, ?_⟩ <;> first | omega | (simp only [Int32.lt_iff_toInt_lt, Int32.le_iff_toInt_le, ← Int32.toInt_inj, Int32.reduceToInt, zl1, zl2, zl3, zl4, zl9]; omega) | (subst_vars; assumption))))]) <;> (first | rfl | assumption | omega | exact Int32.toInt_inj.mp (by omega) | (simp only [Int32.reduceToInt, zl1, zl2, zl3, zl4, zl9]; omega))) | ((rw [if_neg (by (first | omega | ((try simp only [Int32.lt_iff_toInt_lt, Int32.le_iff_toInt_le, ← Int32.toInt_inj, Int32.reduceToInt, zl1, zl2, zl3, zl4, zl9]); (try simp only [Int32.reduceToInt]); omega) | (subst_vars; assumption) | (refine ⟨?_, ?_⟩ <;> first | omega | (simp only [Int32.lt_iff_toInt_lt, Int32.le_iff_toInt_le, ← Int32.toInt_inj, Int32.reduceToInt, zl1, zl2, zl3, zl4, zl9]; omega) | (subst_vars; assumption))))]) <;> (first | rfl | assumption | omega | exact Int32.toInt_inj.mp (by omega) | (simp only [Int32.reduceToInt, zl1, zl2, zl3, zl4, zl9]; omega))))) | ((rw [if_neg (by (first | omega | ((try simp only [Int32.lt_iff_toInt_lt, Int32.le_iff_toInt_le, ← Int32.toInt_inj, Int32.reduceToInt, zl1, zl2, zl3, zl4, zl9]); (try simp only [Int32.reduceToInt]); omega) | (subst_vars; assumption) | (refine ⟨?_, ?_⟩ <;> first | omega | (simp only [Int32.lt_iff_toInt_lt, Int32.le_iff_toInt_le, ← Int32.toInt_inj, Int32.reduceToInt, zl1, zl2, zl3, zl4, zl9]; omega) | (subst_vars; assumption))))]) <;> (first | rfl | assumption | omega | exact Int32.toInt_inj.mp (by omega) | (simp only [Int32.reduceToInt, zl1, zl2, zl3, zl4, zl9]; omega) | ((rw [if_pos (by (first | omega | ((try simp only [Int32.lt_iff_toInt_lt, Int32.le_iff_toInt_le, ← Int32.toInt_inj, Int32.reduceToInt, zl1, zl2, zl3, zl4, zl9]); (try simp only [Int32.reduceToInt]); omega) | (subst_vars; assumption) | (refine ⟨?_, ?_⟩ <;> first | omega | (simp only [Int32.lt_iff_toInt_lt, Int32.le_iff_toInt_le, ← Int32.toInt_inj, Int32.reduceToInt, zl1, zl2, zl3, zl4, zl9]; omega) | (subst_vars; assumption))))]) <;> (first | rfl | assumption | omega | exact Int32.toInt_inj.mp (by omega) | (simp only [Int32.reduceToInt, zl1, zl2, zl3, zl4, zl9]; omega))) | ((rw [if_neg (by (first | omega | ((try simp only [Int32.lt_iff_toInt_lt, Int32.le_iff_toInt_le, ← Int32.toInt_inj, Int32.reduceToInt, zl1, zl2, zl3, zl4, zl9]); (try simp only [Int32.reduceToInt]); omega) | (subst_vars; assumption) | (refine ⟨?_, ?_⟩ <;> first | omega | (simp only [Int32.lt_iff_toInt_lt, Int32.le_iff_toInt_le, ← Int32.toInt_inj, Int32.reduceToInt, zl1, zl2, zl3, zl4, zl9]; omega) | (subst_vars; assumption))))]) <;> (first | rfl | assumption | omega | exact Int32.toInt_inj.mp (by omega) | (simp only [Int32.reduceToInt, zl1, zl2, zl3, zl4, zl9]; omega)))))) | ((try simp only [Int32.lt_iff_toInt_lt, Int32.le_iff_toInt_le, ← Int32.toInt_inj, Int32.reduceToInt, zl1, zl2, zl3, zl4, zl9]); (repeat' split) <;> first | rfl | omega | (simp only [Int32.lt_iff_toInt_lt, Int32.le_iff_toInt_le, ← Int32.toInt_inj, Int32.reduceToInt, zl1, zl2, zl3, zl4, zl9]; omega))))), (by decide)⟩, trivial⟩, hS.F ht⟩) hS.2.2 dX6_in_15
set_option maxHeartbeats 4000000 in
set_option maxRecDepth 100000 in
/-- isCell -/
theorem c_X6_isCell (l : Launch) (sz : Nat) (a0 : Int32)  : Met l yX6_isCell wsX6_isCell ({ frames := 1, cells := 0, slots := 0, locals := 22 }) (va_Pc [.int a0] (fun U => U.heap.size = sz)) (va_Qi (fun (r : Int32) (_ : Unit) => (r = if (0 ≤ a0 ∧ a0 ≤ 159) then 1 else 0) ∧ (0 ≤ r.toInt ∧ r.toInt ≤ 1)) (fun _ _ => True) (va_A [] sz)) 0 0 (va_A [] sz) := by
  refine Met.ofW (cc := cX6_isCell) (maxL := 1) (ret := (some .boolean)) (by decide) rfl ?_
  intro p e s m args below meth c s₁ B hml hv
  obtain ⟨rfl, hsz⟩ := hv
  have hx := B.exec
  have hb := B.bytes
  have hr := B.returns
  have hts := atoms_spec (ws := wsX6_isCell) B.pre
  have hown : s.vm.findClass RX6 = some m.cls := findClass_of_methodNamed B.named
  have hlocks := B.notSynchronized
  subst hsz
  generalize hAe : va_A [] s.heap.size = A at ⊢
  have hA : ∀ q : Nat, s.heap.size ≤ q → A q := fun q h => by rw [← hAe]; exact Or.inr h
  have hS : va_S A s.heap s.heap [] := va_S.rf
  have hl := lv_entry ([.int a0]) (n := 1) (Nat.le_of_ble_eq_true rfl)
  rw [lg_entry_eq]
  generalize (lg_sl ([.int a0]) ++ List.replicate (1 - (lg_sl ([.int a0])).length) Slot.unset).toArray = ls at hl ⊢
  have hl : lv_has ls 1 [(0, .int a0)] := hl
  refine lv_iload_n hx hb dX6_isCell_0 rfl (lv_at hl 0 rfl) ?_
  refine lv_iconst (v := 0) hx hb dX6_isCell_1 (by decide) ?_
  refine lv_sipush (v := 159) hx hb dX6_isCell_2 (by decide) ?_
  refine va_calli (va_runS (As := [.int a0, .int 0, .int 159]) (rest := []) ⟨hx, hb, hml, hown, hts⟩ (c_X6_in l s.heap.size a0 0 159 ) (va_cwS 3 hts gX6_isCell_X6_in rfl rfl rfl (by decide +kernel) ⟨Nat.le_of_ble_eq_true rfl, Nat.le_of_ble_eq_true rfl⟩) ⟨fun a U g mk q => by obtain ⟨q0, q1⟩ := q; exact ⟨q0, q1⟩, fun U hU hW => ⟨rfl, congrArg Array.size hU⟩⟩ rfl rfl hl.1 rfl (lv_room (Nat.le_of_ble_eq_true rfl)) dX6_isCell_5 ⟨(Nat.zero_le _), (Nat.zero_le _)⟩) hS (fun q _ h => ro_A hS hA q h) (ro_A hS hA) (fun r_1 u t H1 locs ht hvm k_2 hB hz1 hk1 hS => ?_)
  generalize H1 = H at hS ⊢
  try dsimp only at k_2
  obtain ⟨k_2, k_3⟩ := k_2
  exact W.zret (v := r_1) hx hb hr (b01nar k_2) (fun t ht hW => ⟨⟨r_1, (), rfl, ⟨(by first | exact k_2 | (rw [k_2]; (try simp only [Int32.lt_iff_toInt_lt, Int32.le_iff_toInt_le, ← Int32.toInt_inj, Int32.reduceToInt, zl1, zl2, zl3, zl4, zl9]); (repeat' split) <;> first | rfl | omega | (simp only [Int32.lt_iff_toInt_lt, Int32.le_iff_toInt_le, ← Int32.toInt_inj, Int32.reduceToInt, zl1, zl2, zl3, zl4, zl9]; omega))), ⟨by omega, by omega⟩⟩, trivial⟩, hS.F ht⟩) hS.2.2 dX6_isCell_8
set_option maxHeartbeats 4000000 in
set_option maxRecDepth 100000 in
/-- isMonth -/
theorem c_X6_isMonth (l : Launch) (sz : Nat) (a0 : Int32)  : Met l yX6_isMonth wsX6_isMonth ({ frames := 1, cells := 0, slots := 0, locals := 22 }) (va_Pc [.int a0] (fun U => U.heap.size = sz)) (va_Qi (fun (r : Int32) (_ : Unit) => (r = if (0 ≤ a0 ∧ a0 ≤ 11) then 1 else 0) ∧ (0 ≤ r.toInt ∧ r.toInt ≤ 1)) (fun _ _ => True) (va_A [] sz)) 0 0 (va_A [] sz) := by
  refine Met.ofW (cc := cX6_isMonth) (maxL := 1) (ret := (some .boolean)) (by decide) rfl ?_
  intro p e s m args below meth c s₁ B hml hv
  obtain ⟨rfl, hsz⟩ := hv
  have hx := B.exec
  have hb := B.bytes
  have hr := B.returns
  have hts := atoms_spec (ws := wsX6_isMonth) B.pre
  have hown : s.vm.findClass RX6 = some m.cls := findClass_of_methodNamed B.named
  have hlocks := B.notSynchronized
  subst hsz
  generalize hAe : va_A [] s.heap.size = A at ⊢
  have hA : ∀ q : Nat, s.heap.size ≤ q → A q := fun q h => by rw [← hAe]; exact Or.inr h
  have hS : va_S A s.heap s.heap [] := va_S.rf
  have hl := lv_entry ([.int a0]) (n := 1) (Nat.le_of_ble_eq_true rfl)
  rw [lg_entry_eq]
  generalize (lg_sl ([.int a0]) ++ List.replicate (1 - (lg_sl ([.int a0])).length) Slot.unset).toArray = ls at hl ⊢
  have hl : lv_has ls 1 [(0, .int a0)] := hl
  refine lv_iload_n hx hb dX6_isMonth_0 rfl (lv_at hl 0 rfl) ?_
  refine lv_iconst (v := 0) hx hb dX6_isMonth_1 (by decide) ?_
  refine lv_bipush (v := 11) hx hb dX6_isMonth_2 (by decide) ?_
  refine va_calli (va_runS (As := [.int a0, .int 0, .int 11]) (rest := []) ⟨hx, hb, hml, hown, hts⟩ (c_X6_in l s.heap.size a0 0 11 ) (va_cwS 3 hts gX6_isMonth_X6_in rfl rfl rfl (by decide +kernel) ⟨Nat.le_of_ble_eq_true rfl, Nat.le_of_ble_eq_true rfl⟩) ⟨fun a U g mk q => by obtain ⟨q0, q1⟩ := q; exact ⟨q0, q1⟩, fun U hU hW => ⟨rfl, congrArg Array.size hU⟩⟩ rfl rfl hl.1 rfl (lv_room (Nat.le_of_ble_eq_true rfl)) dX6_isMonth_4 ⟨(Nat.zero_le _), (Nat.zero_le _)⟩) hS (fun q _ h => ro_A hS hA q h) (ro_A hS hA) (fun r_1 u t H1 locs ht hvm k_2 hB hz1 hk1 hS => ?_)
  generalize H1 = H at hS ⊢
  try dsimp only at k_2
  obtain ⟨k_2, k_3⟩ := k_2
  exact W.zret (v := r_1) hx hb hr (b01nar k_2) (fun t ht hW => ⟨⟨r_1, (), rfl, ⟨(by first | exact k_2 | (rw [k_2]; (try simp only [Int32.lt_iff_toInt_lt, Int32.le_iff_toInt_le, ← Int32.toInt_inj, Int32.reduceToInt, zl1, zl2, zl3, zl4, zl9]); (repeat' split) <;> first | rfl | omega | (simp only [Int32.lt_iff_toInt_lt, Int32.le_iff_toInt_le, ← Int32.toInt_inj, Int32.reduceToInt, zl1, zl2, zl3, zl4, zl9]; omega))), ⟨by omega, by omega⟩⟩, trivial⟩, hS.F ht⟩) hS.2.2 dX6_isMonth_7
set_option maxHeartbeats 4000000 in
set_option maxRecDepth 100000 in
/-- isWay -/
theorem c_X6_isWay (l : Launch) (sz : Nat) (a0 : Int32)  : Met l yX6_isWay wsX6_isWay ({ frames := 1, cells := 0, slots := 0, locals := 22 }) (va_Pc [.int a0] (fun U => U.heap.size = sz)) (va_Qi (fun (r : Int32) (_ : Unit) => (r = if (0 ≤ a0 ∧ a0 ≤ 7) then 1 else 0) ∧ (0 ≤ r.toInt ∧ r.toInt ≤ 1)) (fun _ _ => True) (va_A [] sz)) 0 0 (va_A [] sz) := by
  refine Met.ofW (cc := cX6_isWay) (maxL := 1) (ret := (some .boolean)) (by decide) rfl ?_
  intro p e s m args below meth c s₁ B hml hv
  obtain ⟨rfl, hsz⟩ := hv
  have hx := B.exec
  have hb := B.bytes
  have hr := B.returns
  have hts := atoms_spec (ws := wsX6_isWay) B.pre
  have hown : s.vm.findClass RX6 = some m.cls := findClass_of_methodNamed B.named
  have hlocks := B.notSynchronized
  subst hsz
  generalize hAe : va_A [] s.heap.size = A at ⊢
  have hA : ∀ q : Nat, s.heap.size ≤ q → A q := fun q h => by rw [← hAe]; exact Or.inr h
  have hS : va_S A s.heap s.heap [] := va_S.rf
  have hl := lv_entry ([.int a0]) (n := 1) (Nat.le_of_ble_eq_true rfl)
  rw [lg_entry_eq]
  generalize (lg_sl ([.int a0]) ++ List.replicate (1 - (lg_sl ([.int a0])).length) Slot.unset).toArray = ls at hl ⊢
  have hl : lv_has ls 1 [(0, .int a0)] := hl
  refine lv_iload_n hx hb dX6_isWay_0 rfl (lv_at hl 0 rfl) ?_
  refine lv_iconst (v := 0) hx hb dX6_isWay_1 (by decide) ?_
  refine lv_bipush (v := 7) hx hb dX6_isWay_2 (by decide) ?_
  refine va_calli (va_runS (As := [.int a0, .int 0, .int 7]) (rest := []) ⟨hx, hb, hml, hown, hts⟩ (c_X6_in l s.heap.size a0 0 7 ) (va_cwS 3 hts gX6_isWay_X6_in rfl rfl rfl (by decide +kernel) ⟨Nat.le_of_ble_eq_true rfl, Nat.le_of_ble_eq_true rfl⟩) ⟨fun a U g mk q => by obtain ⟨q0, q1⟩ := q; exact ⟨q0, q1⟩, fun U hU hW => ⟨rfl, congrArg Array.size hU⟩⟩ rfl rfl hl.1 rfl (lv_room (Nat.le_of_ble_eq_true rfl)) dX6_isWay_4 ⟨(Nat.zero_le _), (Nat.zero_le _)⟩) hS (fun q _ h => ro_A hS hA q h) (ro_A hS hA) (fun r_1 u t H1 locs ht hvm k_2 hB hz1 hk1 hS => ?_)
  generalize H1 = H at hS ⊢
  try dsimp only at k_2
  obtain ⟨k_2, k_3⟩ := k_2
  exact W.zret (v := r_1) hx hb hr (b01nar k_2) (fun t ht hW => ⟨⟨r_1, (), rfl, ⟨(by first | exact k_2 | (rw [k_2]; (try simp only [Int32.lt_iff_toInt_lt, Int32.le_iff_toInt_le, ← Int32.toInt_inj, Int32.reduceToInt, zl1, zl2, zl3, zl4, zl9]); (repeat' split) <;> first | rfl | omega | (simp only [Int32.lt_iff_toInt_lt, Int32.le_iff_toInt_le, ← Int32.toInt_inj, Int32.reduceToInt, zl1, zl2, zl3, zl4, zl9]; omega))), ⟨by omega, by omega⟩⟩, trivial⟩, hS.F ht⟩) hS.2.2 dX6_isWay_7
set_option maxHeartbeats 4000000 in
set_option maxRecDepth 100000 in
/-- need -/
theorem c_X6_need (l : Launch) (sz : Nat) (a0 : Int32) (i_a0 : 0 ≤ a0.toInt ∧ a0.toInt ≤ 7) : Met l yX6_need wsX6_need ({ frames := 0, cells := 0, slots := 0, locals := 0 }) (va_Pc [.int a0] (fun U => U.heap.size = sz)) (va_Qi (fun (r : Int32) (_ : Unit) => (r.toInt = (mNeed a0).toInt) ∧ (60 ≤ r.toInt ∧ r.toInt ≤ 85)) (fun _ _ => True) (va_A [] sz)) 0 0 (va_A [] sz) := by
  refine Met.ofW (cc := cX6_need) (maxL := 1) (ret := (some .int)) (by decide) rfl ?_
  intro p e s m args below meth c s₁ B hml hv
  obtain ⟨rfl, hsz⟩ := hv
  have hx := B.exec
  have hb := B.bytes
  have hr := B.returns
  have hts := atoms_spec (ws := wsX6_need) B.pre
  have hown : s.vm.findClass RX6 = some m.cls := findClass_of_methodNamed B.named
  have hlocks := B.notSynchronized
  subst hsz
  generalize hAe : va_A [] s.heap.size = A at ⊢
  have hA : ∀ q : Nat, s.heap.size ≤ q → A q := fun q h => by rw [← hAe]; exact Or.inr h
  have hS : va_S A s.heap s.heap [] := va_S.rf
  have hl := lv_entry ([.int a0]) (n := 1) (Nat.le_of_ble_eq_true rfl)
  rw [lg_entry_eq]
  generalize (lg_sl ([.int a0]) ++ List.replicate (1 - (lg_sl ([.int a0])).length) Slot.unset).toArray = ls at hl ⊢
  have hl : lv_has ls 1 [(0, .int a0)] := hl
  refine lv_iload_n hx hb dX6_need_0 rfl (lv_at hl 0 rfl) ?_
  refine lv_iconst (v := 2) hx hb dX6_need_1 (by decide) ?_
  refine lv_irem hx hb dX6_need_2 (by decide) ?_
  refine lv_topi (fun x_1 ex_1 => ?_)
  have tx_1 : x_1.toInt = a0.toInt % 2 := rm_k ex_1 rfl (by decide) (by omega) (by omega)
  refine lv_if_ne (tgt := 11) hx hb dX6_need_3 (by decide) (fun c_2 => ?_) (fun c_2 => ?_)
  · skip
    have qc_2 : x_1.toInt ≠ 0 := ne_k rfl (by decide) c_2
    refine lv_bipush (v := 85) hx hb dX6_need_11 (by decide) ?_
    have hv9 : (85 : Int32).toInt = 85 := by decide
    exact W.iret (v := 85) hx hb hr (fun t ht hW => ⟨⟨85, (), rfl, ⟨(by unfold mNeed; subst_vars; first | rw [if_pos (by assumption)] | rw [if_neg (by assumption)]), (by decide)⟩, trivial⟩, hS.F ht⟩) hS.2.2 dX6_need_13
  · skip
    have qc_2 : x_1.toInt = 0 := eq_k rfl (by decide) c_2
    refine lv_bipush (v := 60) hx hb dX6_need_6 (by decide) ?_
    refine lv_goto (tgt := 13) hx hb dX6_need_8 (by decide) ?_
    have hv9 : (60 : Int32).toInt = 60 := by decide
    exact W.iret (v := 60) hx hb hr (fun t ht hW => ⟨⟨60, (), rfl, ⟨(by unfold mNeed; subst_vars; first | rw [if_pos (by assumption)] | rw [if_neg (by assumption)]), (by decide)⟩, trivial⟩, hS.F ht⟩) hS.2.2 dX6_need_13
set_option maxHeartbeats 4000000 in
set_option maxRecDepth 100000 in
/-- strength -/
theorem c_X6_strength (l : Launch) (sz : Nat) (a0 : Int32)  : Met l yX6_strength wsX6_strength ({ frames := 1, cells := 0, slots := 0, locals := 22 }) (va_Pc [.int a0] (fun U => U.heap.size = sz)) (va_Qi (fun (r : Int32) (_ : Unit) => (r.toInt = windB a0 % 10) ∧ (0 ≤ r.toInt ∧ r.toInt ≤ 9)) (fun _ _ => True) (va_A [] sz)) 0 0 (va_A [] sz) := by
  refine Met.ofW (cc := cX6_strength) (maxL := 1) (ret := (some .int)) (by decide) rfl ?_
  intro p e s m args below meth c s₁ B hml hv
  obtain ⟨rfl, hsz⟩ := hv
  have hx := B.exec
  have hb := B.bytes
  have hr := B.returns
  have hts := atoms_spec (ws := wsX6_strength) B.pre
  have hown : s.vm.findClass RX6 = some m.cls := findClass_of_methodNamed B.named
  have hlocks := B.notSynchronized
  subst hsz
  generalize hAe : va_A [] s.heap.size = A at ⊢
  have hA : ∀ q : Nat, s.heap.size ≤ q → A q := fun q h => by rw [← hAe]; exact Or.inr h
  have hS : va_S A s.heap s.heap [] := va_S.rf
  have hl := lv_entry ([.int a0]) (n := 1) (Nat.le_of_ble_eq_true rfl)
  rw [lg_entry_eq]
  generalize (lg_sl ([.int a0]) ++ List.replicate (1 - (lg_sl ([.int a0])).length) Slot.unset).toArray = ls at hl ⊢
  have hl : lv_has ls 1 [(0, .int a0)] := hl
  refine lv_iload_n hx hb dX6_strength_0 rfl (lv_at hl 0 rfl) ?_
  refine lv_iconst (v := 0) hx hb dX6_strength_1 (by decide) ?_
  refine lv_bipush (v := 79) hx hb dX6_strength_2 (by decide) ?_
  refine va_calli (va_runS (As := [.int a0, .int 0, .int 79]) (rest := []) ⟨hx, hb, hml, hown, hts⟩ (c_X6_in l s.heap.size a0 0 79 ) (va_cwS 3 hts gX6_strength_X6_in rfl rfl rfl (by decide +kernel) ⟨Nat.le_of_ble_eq_true rfl, Nat.le_of_ble_eq_true rfl⟩) ⟨fun a U g mk q => by obtain ⟨q0, q1⟩ := q; exact ⟨q0, q1⟩, fun U hU hW => ⟨rfl, congrArg Array.size hU⟩⟩ rfl rfl hl.1 rfl (lv_room (Nat.le_of_ble_eq_true rfl)) dX6_strength_4 ⟨(Nat.zero_le _), (Nat.zero_le _)⟩) hS (fun q _ h => ro_A hS hA q h) (ro_A hS hA) (fun r_1 u t H1 locs ht hvm k_2 hB hz1 hk1 hS => ?_)
  generalize H1 = H at hS ⊢
  try dsimp only at k_2
  obtain ⟨k_2, k_3⟩ := k_2
  refine lv_if_eq (tgt := 17) hx hb dX6_strength_7 (by decide) (fun c_4 => ?_) (fun c_4 => ?_)
  · skip
    have b_5 := b01z k_2 c_4
    (try simp only [Int32.lt_iff_toInt_lt, Int32.le_iff_toInt_le, ← Int32.toInt_inj, Int32.reduceToInt, zl1, zl2, zl3, zl4, zl9] at b_5)
    (try simp only [Int32.reduceToInt] at b_5)
    refine lv_iconst (v := 0) hx hb dX6_strength_17 (by decide) ?_
    have hv9 : (0 : Int32).toInt = 0 := by decide
    exact W.iret (v := 0) hx hb hr (fun t ht hW => ⟨⟨0, (), rfl, ⟨(by unfold windB; (try simp only [Int32.reduceToInt]); (repeat' split) <;> omega), (by decide)⟩, trivial⟩, hS.F ht⟩) hS.2.2 dX6_strength_18
  · skip
    have b_6 := b01n k_2 c_4
    (try simp only [Int32.lt_iff_toInt_lt, Int32.le_iff_toInt_le, ← Int32.toInt_inj, Int32.reduceToInt, zl1, zl2, zl3, zl4, zl9] at b_6)
    (try simp only [Int32.reduceToInt] at b_6)
    refine lv_iload_n hx hb dX6_strength_10 rfl (lv_at hl 0 rfl) ?_
    refine lv_bipush (v := 10) hx hb dX6_strength_11 (by decide) ?_
    refine lv_irem hx hb dX6_strength_13 (by decide) ?_
    refine lv_topi (fun x_7 ex_7 => ?_)
    have tx_7 : x_7.toInt = a0.toInt % 10 := rm_k ex_7 rfl (by decide) (by omega) (by omega)
    refine lv_goto (tgt := 18) hx hb dX6_strength_14 (by decide) ?_
    exact W.iret (v := x_7) hx hb hr (fun t ht hW => ⟨⟨x_7, (), rfl, ⟨(by unfold windB; (try simp only [Int32.reduceToInt]); (repeat' split) <;> omega), ⟨by omega, by omega⟩⟩, trivial⟩, hS.F ht⟩) hS.2.2 dX6_strength_18
set_option maxHeartbeats 4000000 in
set_option maxRecDepth 100000 in
/-- apart -/
theorem c_X6_apart (l : Launch) (sz : Nat) (a0 : Int32) (b0 : Int32) (i_a0 : 0 ≤ a0.toInt ∧ a0.toInt ≤ 159) (i_b0 : 0 ≤ b0.toInt ∧ b0.toInt ≤ 159) : Met l yX6_apart wsX6_apart ({ frames := 0, cells := 0, slots := 0, locals := 0 }) (va_Pc [.int a0, .int b0] (fun U => U.heap.size = sz)) (va_Qi (fun (r : Int32) (_ : Unit) => (r.toInt = absI (a0.toInt - b0.toInt)) ∧ (0 ≤ r.toInt ∧ r.toInt ≤ 159)) (fun _ _ => True) (va_A [] sz)) 0 0 (va_A [] sz) := by
  refine Met.ofW (cc := cX6_apart) (maxL := 2) (ret := (some .int)) (by decide) rfl ?_
  intro p e s m args below meth c s₁ B hml hv
  obtain ⟨rfl, hsz⟩ := hv
  have hx := B.exec
  have hb := B.bytes
  have hr := B.returns
  have hts := atoms_spec (ws := wsX6_apart) B.pre
  have hown : s.vm.findClass RX6 = some m.cls := findClass_of_methodNamed B.named
  have hlocks := B.notSynchronized
  subst hsz
  generalize hAe : va_A [] s.heap.size = A at ⊢
  have hA : ∀ q : Nat, s.heap.size ≤ q → A q := fun q h => by rw [← hAe]; exact Or.inr h
  have hS : va_S A s.heap s.heap [] := va_S.rf
  have hl := lv_entry ([.int a0, .int b0]) (n := 2) (Nat.le_of_ble_eq_true rfl)
  rw [lg_entry_eq]
  generalize (lg_sl ([.int a0, .int b0]) ++ List.replicate (2 - (lg_sl ([.int a0, .int b0])).length) Slot.unset).toArray = ls at hl ⊢
  have hl : lv_has ls 2 [(0, .int a0), (1, .int b0)] := hl
  refine lv_iload_n hx hb dX6_apart_0 rfl (lv_at hl 0 rfl) ?_
  refine lv_iload_n hx hb dX6_apart_1 rfl (lv_at hl 1 rfl) ?_
  refine lv_icmp_le (tgt := 11) hx hb dX6_apart_2 (by decide) (fun c_1 => ?_) (fun c_1 => ?_)
  · skip
    have qc_1 : a0.toInt ≤ b0.toInt := le_k rfl rfl c_1
    refine lv_iload_n hx hb dX6_apart_11 rfl (lv_at hl 1 rfl) ?_
    refine lv_iload_n hx hb dX6_apart_12 rfl (lv_at hl 0 rfl) ?_
    refine lv_isub hx hb dX6_apart_13 ?_
    refine lv_topi (fun x_2 ex_2 => ?_)
    have tx_2 : x_2.toInt = b0.toInt - a0.toInt := su_k ex_2 rfl rfl (by omega) (by omega)
    exact W.iret (v := x_2) hx hb hr (fun t ht hW => ⟨⟨x_2, (), rfl, ⟨(by unfold absI; (repeat' split) <;> omega), ⟨by omega, by omega⟩⟩, trivial⟩, hS.F ht⟩) hS.2.2 dX6_apart_14
  · skip
    have qc_1 : b0.toInt < a0.toInt := nle_k rfl rfl c_1
    refine lv_iload_n hx hb dX6_apart_5 rfl (lv_at hl 0 rfl) ?_
    refine lv_iload_n hx hb dX6_apart_6 rfl (lv_at hl 1 rfl) ?_
    refine lv_isub hx hb dX6_apart_7 ?_
    refine lv_topi (fun x_3 ex_3 => ?_)
    have tx_3 : x_3.toInt = a0.toInt - b0.toInt := su_k ex_3 rfl rfl (by omega) (by omega)
    refine lv_goto (tgt := 14) hx hb dX6_apart_8 (by decide) ?_
    exact W.iret (v := x_3) hx hb hr (fun t ht hW => ⟨⟨x_3, (), rfl, ⟨(by unfold absI; (repeat' split) <;> omega), ⟨by omega, by omega⟩⟩, trivial⟩, hS.F ht⟩) hS.2.2 dX6_apart_14
set_option maxRecDepth 20000 in
theorem iw_X6_isShip_X6 : ∀ w ∈ wsX60, w ∈ wsX6_isShip := fun w h => (List.mem_cons_of_mem _ (List.mem_append_right _ h))
set_option maxHeartbeats 4000000 in
set_option maxRecDepth 100000 in
/-- reference: isShip -/
theorem c_X6_isShip (l : Launch) (dC : Nat → ClassId) (dI : Nat → Nat → Nat) (sz : Nat) (m0 : Nat) (mfi : Nat) (mil : Nat) (mic : Nat) (mwi : Nat) (mmo : Nat) (mki : Nat) (mce : Nat) (mgo : Nat) (mwa : Nat) (mha : Nat) (mch : Nat) (mfo : Nat) (mca : Nat) (mor : Nat) (mro : Nat) (mra : Nat) (mpr : Nat) (mho : Nat) (mis : Nat) (mss : Nat) (msc : Nat) (msh : Nat) (vfi : Int32) (vhr : Int32) (vho : Int32) (vga : Int32) (vns : Int32) (vsg : Int32) (vpr : Int32) (vfa : Int32) (vak : Int64) (a0 : Int32) (i_vns : 0 ≤ vns.toInt ∧ vns.toInt ≤ 8) : Met l yX6_isShip wsX6_isShip ({ frames := 1, cells := 0, slots := 0, locals := 22 }) (va_Pc [.ref m0, .int a0] (fun U => U.heap.size = sz ∧ va_P (dC, dI) vwCl [(m0, .inr (7, [.int vfi, .ref mfi, .long vak, .int vhr, .ref mil, .ref mic, .ref mwi, .int vho, .int vga, .ref mmo, .int vns, .ref mki, .ref mce, .ref mgo, .ref mwa, .ref mha, .ref mch, .ref mfo, .ref mca, .ref mor, .ref mro, .ref mra, .ref mpr, .ref mho, .ref mis, .int vsg, .ref mss, .ref msc, .ref msh, .int vpr, .int vfa]))] U.heap ∧ va_K (dC, dI) vwCl [] U ∧ NW U)) (va_Qi (fun (r : Int32) (_ : Unit) => (r = if (0 ≤ a0 ∧ a0 < vns) then 1 else 0) ∧ (0 ≤ r.toInt ∧ r.toInt ≤ 1)) (fun _ _ => True) (va_A [] sz)) 0 0 (va_A [] sz) := by
  refine Met.ofW (cc := cX6_isShip) (maxL := 2) (ret := (some .boolean)) (by decide) rfl ?_
  intro p e s m args below meth c s₁ B hml hv
  obtain ⟨rfl, hsz, hP, hK, hN⟩ := hv
  have hx := B.exec
  have hb := B.bytes
  have hr := B.returns
  have hts := atoms_spec (ws := wsX6_isShip) B.pre
  have hown : s.vm.findClass RX6 = some m.cls := findClass_of_methodNamed B.named
  have hlocks := B.notSynchronized
  subst hsz
  generalize hAe : va_A [] s.heap.size = A at ⊢
  have hA : ∀ q : Nat, s.heap.size ≤ q → A q := fun q h => by rw [← hAe]; exact Or.inr h
  have hS : va_S A s.heap s.heap [] := va_S.rf
  have hP : va_P (dC, dI) vwCl [(m0, .inr (7, [.int vfi, .ref mfi, .long vak, .int vhr, .ref mil, .ref mic, .ref mwi, .int vho, .int vga, .ref mmo, .int vns, .ref mki, .ref mce, .ref mgo, .ref mwa, .ref mha, .ref mch, .ref mfo, .ref mca, .ref mor, .ref mro, .ref mra, .ref mpr, .ref mho, .ref mis, .int vsg, .ref mss, .ref msc, .ref msh, .int vpr, .int vfa]))] s.heap := hP
  have hl := lv_entry ([.ref m0, .int a0]) (n := 2) (Nat.le_of_ble_eq_true rfl)
  rw [lg_entry_eq]
  generalize (lg_sl ([.ref m0, .int a0]) ++ List.replicate (2 - (lg_sl ([.ref m0, .int a0])).length) Slot.unset).toArray = ls at hl ⊢
  have hl : lv_has ls 2 [(0, .ref m0), (1, .int a0)] := hl
  refine lv_iload_n hx hb dX6_isShip_0 rfl (lv_at hl 1 rfl) ?_
  refine lv_iconst (v := 0) hx hb dX6_isShip_1 (by decide) ?_
  refine lv_aload_n hx hb dX6_isShip_2 rfl (lv_at hl 0 rfl) ?_
  refine va_get (D := (dC, dI)) (ci := 7) (v := .int vns) (C := RX6) (T := TX6) (N := 31) hx hb hts iw_X6_isShip_X6 hown hK hP 0 rfl rfl 10 (by decide) (hts (.fieldLink RX6 110 "TeaRaceModel" "ships" "I") (by decide +kernel)) (fun _ h9 => h9) rfl dX6_isShip_3 ?_
  refine lv_iconst (v := 1) hx hb dX6_isShip_6 (by decide) ?_
  refine lv_isub hx hb dX6_isShip_7 ?_
  refine lv_topi (fun x_1 ex_1 => ?_)
  have tx_1 : x_1.toInt = vns.toInt - 1 := su_k ex_1 rfl (by decide) (by omega) (by omega)
  refine va_calli (va_runS (As := [.int a0, .int 0, .int x_1]) (rest := []) ⟨hx, hb, hml, hown, hts⟩ (c_X6_in l s.heap.size a0 0 x_1 ) (va_cwS 3 hts gX6_isShip_X6_in rfl rfl rfl (by decide +kernel) ⟨Nat.le_of_ble_eq_true rfl, Nat.le_of_ble_eq_true rfl⟩) ⟨fun a U g mk q => by obtain ⟨q0, q1⟩ := q; exact ⟨q0, q1⟩, fun U hU hW => ⟨rfl, congrArg Array.size hU⟩⟩ rfl rfl hl.1 rfl (lv_room (Nat.le_of_ble_eq_true rfl)) dX6_isShip_8 ⟨(Nat.zero_le _), (Nat.zero_le _)⟩) hS (fun q _ h => ro_A hS hA q h) (ro_A hS hA) (fun r_2 u t H1 locs ht hvm k_3 hB hz1 hk1 hS => ?_)
  have hP := ro_P hk1 hP
  generalize H1 = H at hP hS ⊢
  try dsimp only at k_3
  obtain ⟨k_3, k_4⟩ := k_3
  exact W.zret (v := r_2) hx hb hr (b01nar k_3) (fun t ht hW => ⟨⟨r_2, (), rfl, ⟨(by first | exact k_3 | (rw [k_3]; (try simp only [Int32.lt_iff_toInt_lt, Int32.le_iff_toInt_le, ← Int32.toInt_inj, Int32.reduceToInt, zl1, zl2, zl3, zl4, zl9]); (repeat' split) <;> first | rfl | omega | (simp only [Int32.lt_iff_toInt_lt, Int32.le_iff_toInt_le, ← Int32.toInt_inj, Int32.reduceToInt, zl1, zl2, zl3, zl4, zl9]; omega))), ⟨by omega, by omega⟩⟩, trivial⟩, hS.F ht⟩) hS.2.2 dX6_isShip_11
