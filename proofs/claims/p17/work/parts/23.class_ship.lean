set_option maxRecDepth 20000 in
theorem iw_X0_fits_X0 : ∀ w ∈ wsX00, w ∈ wsX0_fits := fun w h => (List.mem_cons_of_mem _ (List.mem_append_right _ h))
set_option maxHeartbeats 4000000 in
set_option maxRecDepth 100000 in
/-- Order.fits -/
theorem c_X0_fits (l : Launch) (dC : Nat → ClassId) (dI : Nat → Nat → Nat) (sz : Nat) (L : List Nat) (f : Nat → va_E) (o : Nat) (w : Nat → Int32) (a0 : Int32) (a1 : Int32) (hord : o ∈ L ∧ f o = .inr (1, [.int (w 0), .int (w 1), .int (w 2), .int (w 3), .int (w 4), .int (w 5)])) : Met l yX0_fits wsX0_fits ({ frames := 0, cells := 0, slots := 0, locals := 0 }) (va_Pc [.ref o, .int a0, .int a1] (fun U => U.heap.size = sz ∧ va_P (dC, dI) vwCl (([] : va_W) ++ va_pl L f) U.heap ∧ va_K (dC, dI) vwCl [] U ∧ NW U)) (va_Qi (fun (r : Int32) (_ : Unit) => (0 ≤ a0.toInt → r.toInt = if ((w 1).toInt ≤ a0.toInt % 16 ∧ a0.toInt % 16 ≤ (w 2).toInt ∧ (w 3).toInt ≤ a0.toInt / 16 ∧ a0.toInt / 16 ≤ (w 4).toInt ∧ (w 5).toInt ≤ a1.toInt) then 1 else 0) ∧ (0 ≤ r.toInt ∧ r.toInt ≤ 1)) (fun _ _ => True) (va_A [] sz)) 0 0 (va_A [] sz) := by
  refine Met.ofW (cc := cX0_fits) (maxL := 5) (ret := (some .boolean)) (by decide) rfl ?_
  intro p e s m args below meth c s₁ B hml hv
  obtain ⟨rfl, hsz, hP, hK, hN⟩ := hv
  have hx := B.exec
  have hb := B.bytes
  have hr := B.returns
  have hts := atoms_spec (ws := wsX0_fits) B.pre
  have hown : s.vm.findClass RX0 = some m.cls := findClass_of_methodNamed B.named
  have hlocks := B.notSynchronized
  subst hsz
  generalize hAe : va_A [] s.heap.size = A at ⊢
  have hA : ∀ q : Nat, s.heap.size ≤ q → A q := fun q h => by rw [← hAe]; exact Or.inr h
  have hS : va_S A s.heap s.heap [] := va_S.rf
  have hP : va_P (dC, dI) vwCl (([] : va_W) ++ va_pl L f) s.heap := hP
  have hl := lv_entry ([.ref o, .int a0, .int a1]) (n := 5) (Nat.le_of_ble_eq_true rfl)
  rw [lg_entry_eq]
  generalize (lg_sl ([.ref o, .int a0, .int a1]) ++ List.replicate (5 - (lg_sl ([.ref o, .int a0, .int a1])).length) Slot.unset).toArray = ls at hl ⊢
  have hl : lv_has ls 5 [(0, .ref o), (1, .int a0), (2, .int a1)] := hl
  refine lv_iload_n hx hb dX0_fits_0 rfl (lv_at hl 1 rfl) ?_
  refine lv_bipush (v := 16) hx hb dX0_fits_1 (by decide) ?_
  refine lv_irem hx hb dX0_fits_3 (by decide) ?_
  refine lv_topi (fun x_1 ex_1 => ?_)
  have tx_1 := fb_rng x_1
  refine lv_istore_n (lv' := [(3, .int x_1), (0, .ref o), (1, .int a0), (2, .int a1)]) hx hb dX0_fits_4 rfl hl (by decide) rfl (fun ls hl => ?_)
  refine lv_iload_n hx hb dX0_fits_5 rfl (lv_at hl 2 rfl) ?_
  refine lv_bipush (v := 16) hx hb dX0_fits_6 (by decide) ?_
  refine lv_idiv hx hb dX0_fits_8 (by decide) ?_
  refine lv_topi (fun x_2 ex_2 => ?_)
  have tx_2 := fb_rng x_2
  refine lv_istore (lv' := [(4, .int x_2), (3, .int x_1), (0, .ref o), (1, .int a0), (2, .int a1)]) hx hb dX0_fits_9 hl (by decide) rfl (fun ls hl => ?_)
  refine lv_iload_n hx hb dX0_fits_11 rfl (lv_at hl 1 rfl) ?_
  refine lv_aload_n hx hb dX0_fits_12 rfl (lv_at hl 2 rfl) ?_
  obtain ⟨k9_3, hk9_3⟩ : ∃ k : Nat, (([] : va_W) ++ va_pl L f)[k]? = some (o, .inr (1, [.int (w 0), .int (w 1), .int (w 2), .int (w 3), .int (w 4), .int (w 5)])) := pl_at hord.1 hord.2
  refine va_get (D := (dC, dI)) (ci := 1) (v := .int (w 1)) (C := RX0) (T := TX0) (N := 6) hx hb hts iw_X0_fits_X0 hown hK hP k9_3 hk9_3 rfl 1 (by decide) (hts (.fieldLink RX0 9 "TeaRace$Order" "west" "I") (by decide +kernel)) (fun _ h9 => h9) rfl dX0_fits_13 ?_
  refine lv_icmp_lt (tgt := 57) hx hb dX0_fits_16 (by decide) (fun c_4 => ?_) (fun c_4 => ?_)
  · skip
    have qc_4 : x_1.toInt < (w 1).toInt := lt_k rfl rfl c_4
    refine lv_iconst (v := 0) hx hb dX0_fits_57 (by decide) ?_
    have hv9 : (0 : Int32).toInt = 0 := by decide
    exact W.zret (v := 0) hx hb hr rfl (fun t ht hW => ⟨⟨0, (), rfl, ⟨(fun h => by have h1 : x_1.toInt = a0.toInt % 16 := rm_k ex_1 rfl (by decide) (by omega) h; have h2 : x_2.toInt = a0.toInt / 16 := dv_k ex_2 rfl (by decide) (by omega) h; (try simp only [Int32.reduceToInt]); (repeat' split) <;> omega), (by decide)⟩, trivial⟩, hS.F ht⟩) hS.2.2 dX0_fits_58
  · skip
    have qc_4 : (w 1).toInt ≤ x_1.toInt := nlt_k rfl rfl c_4
    refine lv_iload_n hx hb dX0_fits_19 rfl (lv_at hl 1 rfl) ?_
    refine lv_aload_n hx hb dX0_fits_20 rfl (lv_at hl 2 rfl) ?_
    obtain ⟨k9_5, hk9_5⟩ : ∃ k : Nat, (([] : va_W) ++ va_pl L f)[k]? = some (o, .inr (1, [.int (w 0), .int (w 1), .int (w 2), .int (w 3), .int (w 4), .int (w 5)])) := pl_at hord.1 hord.2
    refine va_get (D := (dC, dI)) (ci := 1) (v := .int (w 2)) (C := RX0) (T := TX0) (N := 6) hx hb hts iw_X0_fits_X0 hown hK hP k9_5 hk9_5 rfl 2 (by decide) (hts (.fieldLink RX0 15 "TeaRace$Order" "east" "I") (by decide +kernel)) (fun _ h9 => h9) rfl dX0_fits_21 ?_
    refine lv_icmp_gt (tgt := 57) hx hb dX0_fits_24 (by decide) (fun c_6 => ?_) (fun c_6 => ?_)
    · skip
      have qc_6 : (w 2).toInt < x_1.toInt := lt_k rfl rfl c_6
      refine lv_iconst (v := 0) hx hb dX0_fits_57 (by decide) ?_
      have hv9 : (0 : Int32).toInt = 0 := by decide
      exact W.zret (v := 0) hx hb hr rfl (fun t ht hW => ⟨⟨0, (), rfl, ⟨(fun h => by have h1 : x_1.toInt = a0.toInt % 16 := rm_k ex_1 rfl (by decide) (by omega) h; have h2 : x_2.toInt = a0.toInt / 16 := dv_k ex_2 rfl (by decide) (by omega) h; (try simp only [Int32.reduceToInt]); (repeat' split) <;> omega), (by decide)⟩, trivial⟩, hS.F ht⟩) hS.2.2 dX0_fits_58
    · skip
      have qc_6 : x_1.toInt ≤ (w 2).toInt := nlt_k rfl rfl c_6
      refine lv_iload hx hb dX0_fits_27 (lv_at hl 0 rfl) ?_
      refine lv_aload_n hx hb dX0_fits_29 rfl (lv_at hl 2 rfl) ?_
      obtain ⟨k9_7, hk9_7⟩ : ∃ k : Nat, (([] : va_W) ++ va_pl L f)[k]? = some (o, .inr (1, [.int (w 0), .int (w 1), .int (w 2), .int (w 3), .int (w 4), .int (w 5)])) := pl_at hord.1 hord.2
      refine va_get (D := (dC, dI)) (ci := 1) (v := .int (w 3)) (C := RX0) (T := TX0) (N := 6) hx hb hts iw_X0_fits_X0 hown hK hP k9_7 hk9_7 rfl 3 (by decide) (hts (.fieldLink RX0 18 "TeaRace$Order" "north" "I") (by decide +kernel)) (fun _ h9 => h9) rfl dX0_fits_30 ?_
      refine lv_icmp_lt (tgt := 57) hx hb dX0_fits_33 (by decide) (fun c_8 => ?_) (fun c_8 => ?_)
      · skip
        have qc_8 : x_2.toInt < (w 3).toInt := lt_k rfl rfl c_8
        refine lv_iconst (v := 0) hx hb dX0_fits_57 (by decide) ?_
        have hv9 : (0 : Int32).toInt = 0 := by decide
        exact W.zret (v := 0) hx hb hr rfl (fun t ht hW => ⟨⟨0, (), rfl, ⟨(fun h => by have h1 : x_1.toInt = a0.toInt % 16 := rm_k ex_1 rfl (by decide) (by omega) h; have h2 : x_2.toInt = a0.toInt / 16 := dv_k ex_2 rfl (by decide) (by omega) h; (try simp only [Int32.reduceToInt]); (repeat' split) <;> omega), (by decide)⟩, trivial⟩, hS.F ht⟩) hS.2.2 dX0_fits_58
      · skip
        have qc_8 : (w 3).toInt ≤ x_2.toInt := nlt_k rfl rfl c_8
        refine lv_iload hx hb dX0_fits_36 (lv_at hl 0 rfl) ?_
        refine lv_aload_n hx hb dX0_fits_38 rfl (lv_at hl 2 rfl) ?_
        obtain ⟨k9_9, hk9_9⟩ : ∃ k : Nat, (([] : va_W) ++ va_pl L f)[k]? = some (o, .inr (1, [.int (w 0), .int (w 1), .int (w 2), .int (w 3), .int (w 4), .int (w 5)])) := pl_at hord.1 hord.2
        refine va_get (D := (dC, dI)) (ci := 1) (v := .int (w 4)) (C := RX0) (T := TX0) (N := 6) hx hb hts iw_X0_fits_X0 hown hK hP k9_9 hk9_9 rfl 4 (by decide) (hts (.fieldLink RX0 21 "TeaRace$Order" "south" "I") (by decide +kernel)) (fun _ h9 => h9) rfl dX0_fits_39 ?_
        refine lv_icmp_gt (tgt := 57) hx hb dX0_fits_42 (by decide) (fun c_10 => ?_) (fun c_10 => ?_)
        · skip
          have qc_10 : (w 4).toInt < x_2.toInt := lt_k rfl rfl c_10
          refine lv_iconst (v := 0) hx hb dX0_fits_57 (by decide) ?_
          have hv9 : (0 : Int32).toInt = 0 := by decide
          exact W.zret (v := 0) hx hb hr rfl (fun t ht hW => ⟨⟨0, (), rfl, ⟨(fun h => by have h1 : x_1.toInt = a0.toInt % 16 := rm_k ex_1 rfl (by decide) (by omega) h; have h2 : x_2.toInt = a0.toInt / 16 := dv_k ex_2 rfl (by decide) (by omega) h; (try simp only [Int32.reduceToInt]); (repeat' split) <;> omega), (by decide)⟩, trivial⟩, hS.F ht⟩) hS.2.2 dX0_fits_58
        · skip
          have qc_10 : x_2.toInt ≤ (w 4).toInt := nlt_k rfl rfl c_10
          refine lv_iload_n hx hb dX0_fits_45 rfl (lv_at hl 4 rfl) ?_
          refine lv_aload_n hx hb dX0_fits_46 rfl (lv_at hl 2 rfl) ?_
          obtain ⟨k9_11, hk9_11⟩ : ∃ k : Nat, (([] : va_W) ++ va_pl L f)[k]? = some (o, .inr (1, [.int (w 0), .int (w 1), .int (w 2), .int (w 3), .int (w 4), .int (w 5)])) := pl_at hord.1 hord.2
          refine va_get (D := (dC, dI)) (ci := 1) (v := .int (w 5)) (C := RX0) (T := TX0) (N := 6) hx hb hts iw_X0_fits_X0 hown hK hP k9_11 hk9_11 rfl 5 (by decide) (hts (.fieldLink RX0 24 "TeaRace$Order" "strength" "I") (by decide +kernel)) (fun _ h9 => h9) rfl dX0_fits_47 ?_
          refine lv_icmp_lt (tgt := 57) hx hb dX0_fits_50 (by decide) (fun c_12 => ?_) (fun c_12 => ?_)
          · skip
            have qc_12 : a1.toInt < (w 5).toInt := lt_k rfl rfl c_12
            refine lv_iconst (v := 0) hx hb dX0_fits_57 (by decide) ?_
            have hv9 : (0 : Int32).toInt = 0 := by decide
            exact W.zret (v := 0) hx hb hr rfl (fun t ht hW => ⟨⟨0, (), rfl, ⟨(fun h => by have h1 : x_1.toInt = a0.toInt % 16 := rm_k ex_1 rfl (by decide) (by omega) h; have h2 : x_2.toInt = a0.toInt / 16 := dv_k ex_2 rfl (by decide) (by omega) h; (try simp only [Int32.reduceToInt]); (repeat' split) <;> omega), (by decide)⟩, trivial⟩, hS.F ht⟩) hS.2.2 dX0_fits_58
          · skip
            have qc_12 : (w 5).toInt ≤ a1.toInt := nlt_k rfl rfl c_12
            refine lv_iconst (v := 1) hx hb dX0_fits_53 (by decide) ?_
            refine lv_goto (tgt := 58) hx hb dX0_fits_54 (by decide) ?_
            have hv9 : (1 : Int32).toInt = 1 := by decide
            exact W.zret (v := 1) hx hb hr rfl (fun t ht hW => ⟨⟨1, (), rfl, ⟨(fun h => by have h1 : x_1.toInt = a0.toInt % 16 := rm_k ex_1 rfl (by decide) (by omega) h; have h2 : x_2.toInt = a0.toInt / 16 := dv_k ex_2 rfl (by decide) (by omega) h; (try simp only [Int32.reduceToInt]); (repeat' split) <;> omega), (by decide)⟩, trivial⟩, hS.F ht⟩) hS.2.2 dX0_fits_58
set_option maxRecDepth 20000 in
theorem iw_X3_isHome_X3 : ∀ w ∈ wsX30, w ∈ wsX3_isHome := fun w h => (List.mem_cons_of_mem _ (List.mem_append_right _ h))
set_option maxHeartbeats 4000000 in
set_option maxRecDepth 100000 in
/-- Ship.isHome -/
theorem c_X3_isHome (l : Launch) (dC : Nat → ClassId) (dI : Nat → Nat → Nat) (sz : Nat) (L : List Nat) (f : Nat → va_E) (a : Nat) (oa : Nat) (ia : Nat) (v : Nat → Int32) (hsh : a ∈ L ∧ f a = .inr (4, [.int (v 0), .int (v 1), .int (v 2), .ref oa, .ref ia, .int (v 3), .int (v 4), .int (v 5), .int (v 6), .int (v 7), .int (v 8), .int (v 9), .int (v 10), .int (v 11)])) : Met l yX3_isHome wsX3_isHome ({ frames := 0, cells := 0, slots := 0, locals := 0 }) (va_Pc [.ref a] (fun U => U.heap.size = sz ∧ va_P (dC, dI) vwCl (([] : va_W) ++ va_pl L f) U.heap ∧ va_K (dC, dI) vwCl [] U ∧ NW U)) (va_Qi (fun (r : Int32) (_ : Unit) => (r = if ¬ v 8 = (-9) then 1 else 0) ∧ (0 ≤ r.toInt ∧ r.toInt ≤ 1)) (fun _ _ => True) (va_A [] sz)) 0 0 (va_A [] sz) := by
  refine Met.ofW (cc := cX3_isHome) (maxL := 1) (ret := (some .boolean)) (by decide) rfl ?_
  intro p e s m args below meth c s₁ B hml hv
  obtain ⟨rfl, hsz, hP, hK, hN⟩ := hv
  have hx := B.exec
  have hb := B.bytes
  have hr := B.returns
  have hts := atoms_spec (ws := wsX3_isHome) B.pre
  have hown : s.vm.findClass RX3 = some m.cls := findClass_of_methodNamed B.named
  have hlocks := B.notSynchronized
  subst hsz
  generalize hAe : va_A [] s.heap.size = A at ⊢
  have hA : ∀ q : Nat, s.heap.size ≤ q → A q := fun q h => by rw [← hAe]; exact Or.inr h
  have hS : va_S A s.heap s.heap [] := va_S.rf
  have hP : va_P (dC, dI) vwCl (([] : va_W) ++ va_pl L f) s.heap := hP
  have hl := lv_entry ([.ref a]) (n := 1) (Nat.le_of_ble_eq_true rfl)
  rw [lg_entry_eq]
  generalize (lg_sl ([.ref a]) ++ List.replicate (1 - (lg_sl ([.ref a])).length) Slot.unset).toArray = ls at hl ⊢
  have hl : lv_has ls 1 [(0, .ref a)] := hl
  refine lv_aload_n hx hb dX3_isHome_0 rfl (lv_at hl 0 rfl) ?_
  obtain ⟨k9_1, hk9_1⟩ : ∃ k : Nat, (([] : va_W) ++ va_pl L f)[k]? = some (a, .inr (4, [.int (v 0), .int (v 1), .int (v 2), .ref oa, .ref ia, .int (v 3), .int (v 4), .int (v 5), .int (v 6), .int (v 7), .int (v 8), .int (v 9), .int (v 10), .int (v 11)])) := pl_at hsh.1 hsh.2
  refine va_get (D := (dC, dI)) (ci := 4) (v := .int (v 8)) (C := RX3) (T := TX3) (N := 14) hx hb hts iw_X3_isHome_X3 hown hK hP k9_1 hk9_1 rfl 10 (by decide) (hts (.fieldLink RX3 34 "TeaRace$Ship" "homeHour" "I") (by decide +kernel)) (fun _ h9 => h9) rfl dX3_isHome_1 ?_
  refine lv_bipush (v := (-9)) hx hb dX3_isHome_4 (by decide) ?_
  refine lv_icmp_eq (tgt := 13) hx hb dX3_isHome_6 (by decide) (fun c_2 => ?_) (fun c_2 => ?_)
  · skip
    have qc_2 : (v 8).toInt = (-9) := eq_k rfl (by decide) c_2
    refine lv_iconst (v := 0) hx hb dX3_isHome_13 (by decide) ?_
    have hv9 : (0 : Int32).toInt = 0 := by decide
    exact W.zret (v := 0) hx hb hr rfl (fun t ht hW => ⟨⟨0, (), rfl, ⟨(by (try dsimp only) <;> (first | (rw [if_neg (by (first | ((try simp only [Int32.lt_iff_toInt_lt, Int32.le_iff_toInt_le, ← Int32.toInt_inj, Int32.reduceToInt, zl1, zl2, zl3, zl4, zl9]); (try simp only [Int32.reduceToInt]); omega) | assumption | (first | omega | ((try simp only [Int32.lt_iff_toInt_lt, Int32.le_iff_toInt_le, ← Int32.toInt_inj, Int32.reduceToInt, zl1, zl2, zl3, zl4, zl9]); (try simp only [Int32.reduceToInt]); omega) | (subst_vars; assumption) | (refine ⟨?_, ?_⟩ <;> first | omega | (simp only [Int32.lt_iff_toInt_lt, Int32.le_iff_toInt_le, ← Int32.toInt_inj, Int32.reduceToInt, zl1, zl2, zl3, zl4, zl9]; omega) | (subst_vars; assumption)))))]) | (first | (first | rfl | assumption | omega | exact Int32.toInt_inj.mp (by omega) | (simp only [Int32.reduceToInt, zl1, zl2, zl3, zl4, zl9]; omega) | ((rw [if_pos (by (first | omega | ((try simp only [Int32.lt_iff_toInt_lt, Int32.le_iff_toInt_le, ← Int32.toInt_inj, Int32.reduceToInt, zl1, zl2, zl3, zl4, zl9]); (try simp only [Int32.reduceToInt]); omega) | (subst_vars; assumption) | (refine ⟨?_, ?_⟩ <;> first | omega | (simp only [Int32.lt_iff_toInt_lt, Int32.le_iff_toInt_le, ← Int32.toInt_inj, Int32.reduceToInt, zl1, zl2, zl3, zl4, zl9]; omega) | (subst_vars; assumption))))]) <;> (first | rfl | assumption | omega | exact Int32.toInt_inj.mp (by omega) | (simp only [Int32.reduceToInt, zl1, zl2, zl3, zl4, zl9]; omega) | ((rw [if_pos (by (first | omega | ((try simp only [Int32.lt_iff_toInt_lt, Int32.le_iff_toInt_le, ← Int32.toInt_inj, Int32.reduceToInt, zl1, zl2, zl3, zl4, zl9]); (try simp only [Int32.reduceToInt]); omega) | (subst_vars; assumption) | (refine ⟨?_, ?_⟩ <;> first | omega | (simp only [Int32.lt_iff_toInt_lt, Int32.le_iff_toInt_le, ← Int32.toInt_inj, Int32.reduceToInt, zl1, zl2, zl3, zl4, zl9]; omega) | (subst_vars; assumption))))]) <;> (first | rfl | assumption | omega | exact Int32.toInt_inj.mp (by omega) | (simp only [Int32.reduceToInt, zl1, zl2, zl3, zl4, zl9]; omega))) | ((rw [if_neg (by (first | omega | ((try simp only [Int32.lt_iff_toInt_lt, Int32.le_iff_toInt_le, ← Int32.toInt_inj, Int32.reduceToInt, zl1, zl2, zl3, zl4, zl9]); (try simp only [Int32.reduceToInt]); omega) | (subst_vars; assumption) | (refine ⟨?_, ?_⟩ <;> first | omega | (simp only [Int32.lt_iff_toInt_lt, Int32.le_iff_toInt_le, ← Int32.toInt_inj, Int32.reduceToInt, zl1, zl2, zl3, zl4, zl9]; omega) | (subst_vars; assumption))))]) <;> (first | rfl | assumption | omega | exact Int32.toInt_inj.mp (by omega) | (simp only [Int32.reduceToInt, zl1, zl2, zl3, zl4, zl9]; omega))))) | ((rw [if_neg (by (first | omega | ((try simp only [Int32.lt_iff_toInt_lt, Int32.le_iff_toInt_le, ← Int32.toInt_inj, Int32.reduceToInt, zl1, zl2, zl3, zl4, zl9]); (try simp only [Int32.reduceToInt]); omega) | (subst_vars; assumption) | (refine ⟨?_, ?_⟩ <;> first | omega | (simp only [Int32.lt_iff_toInt_lt, Int32.le_iff_toInt_le, ← Int32.toInt_inj, Int32.reduceToInt, zl1, zl2, zl3, zl4, zl9]; omega) | (subst_vars; assumption))))]) <;> (first | rfl | assumption | omega | exact Int32.toInt_inj.mp (by omega) | (simp only [Int32.reduceToInt, zl1, zl2, zl3, zl4, zl9]; omega) | ((rw [if_pos (by (first | omega | ((try simp only [Int32.lt_iff_toInt_lt, Int32.le_iff_toInt_le, ← Int32.toInt_inj, Int32.reduceToInt, zl1, zl2, zl3, zl4, zl9]); (try simp only [Int32.reduceToInt]); omega) | (subst_vars; assumption) | (refine ⟨?_, ?_⟩ <;> first | omega | (simp only [Int32.lt_iff_toInt_lt, Int32.le_iff_toInt_le, ← Int32.toInt_inj, Int32.reduceToInt, zl1, zl2, zl3, zl4, zl9]; omega) | (subst_vars; assumption))))]) <;> (first | rfl | assumption | omega | exact Int32.toInt_inj.mp (by omega) | (simp only [Int32.reduceToInt, zl1, zl2, zl3, zl4, zl9]; omega))) | ((rw [if_neg (by (first | omega | ((try simp only [Int32.lt_iff_toInt_lt, Int32.le_iff_toInt_le, ← Int32.toInt_inj, Int32.reduceToInt, zl1, zl2, zl3, zl4, zl9]); (try simp only [Int32.reduceToInt]); omega) | (subst_vars; assumption) | (refine ⟨?_, ?_⟩ <;> first | omega | (simp only [Int32.lt_iff_toInt_lt, Int32.le_iff_toInt_le, ← Int32.toInt_inj, Int32.reduceToInt, zl1, zl2, zl3, zl4, zl9]; omega) | (subst_vars; assumption))))]) <;> (first | rfl | assumption | omega | exact Int32.toInt_inj.mp (by omega) | (simp only [Int32.reduceToInt, zl1, zl2, zl3, zl4, zl9]; omega)))))) | ((try simp only [Int32.lt_iff_toInt_lt, Int32.le_iff_toInt_le, ← Int32.toInt_inj, Int32.reduceToInt, zl1, zl2, zl3, zl4, zl9]); (repeat' split) <;> first | rfl | omega | (simp only [Int32.lt_iff_toInt_lt, Int32.le_iff_toInt_le, ← Int32.toInt_inj, Int32.reduceToInt, zl1, zl2, zl3, zl4, zl9]; omega))))), (by decide)⟩, trivial⟩, hS.F ht⟩) hS.2.2 dX3_isHome_14
  · skip
    have qc_2 : (v 8).toInt ≠ (-9) := ne_k rfl (by decide) c_2
    refine lv_iconst (v := 1) hx hb dX3_isHome_9 (by decide) ?_
    refine lv_goto (tgt := 14) hx hb dX3_isHome_10 (by decide) ?_
    have hv9 : (1 : Int32).toInt = 1 := by decide
    exact W.zret (v := 1) hx hb hr rfl (fun t ht hW => ⟨⟨1, (), rfl, ⟨(by (try dsimp only) <;> (first | (rw [if_pos (by (first | ((try simp only [Int32.lt_iff_toInt_lt, Int32.le_iff_toInt_le, ← Int32.toInt_inj, Int32.reduceToInt, zl1, zl2, zl3, zl4, zl9]); (try simp only [Int32.reduceToInt]); omega) | assumption | (first | omega | ((try simp only [Int32.lt_iff_toInt_lt, Int32.le_iff_toInt_le, ← Int32.toInt_inj, Int32.reduceToInt, zl1, zl2, zl3, zl4, zl9]); (try simp only [Int32.reduceToInt]); omega) | (subst_vars; assumption) | (refine ⟨?_, ?_⟩ <;> first | omega | (simp only [Int32.lt_iff_toInt_lt, Int32.le_iff_toInt_le, ← Int32.toInt_inj, Int32.reduceToInt, zl1, zl2, zl3, zl4, zl9]; omega) | (subst_vars; assumption)))))]) | (first | (first | rfl | assumption | omega | exact Int32.toInt_inj.mp (by omega) | (simp only [Int32.reduceToInt, zl1, zl2, zl3, zl4, zl9]; omega) | ((rw [if_pos (by (first | omega | ((try simp only [Int32.lt_iff_toInt_lt, Int32.le_iff_toInt_le, ← Int32.toInt_inj, Int32.reduceToInt, zl1, zl2, zl3, zl4, zl9]); (try simp only [Int32.reduceToInt]); omega) | (subst_vars; assumption) | (refine ⟨?_, ?_⟩ <;> first | omega | (simp only [Int32.lt_iff_toInt_lt, Int32.le_iff_toInt_le, ← Int32.toInt_inj, Int32.reduceToInt, zl1, zl2, zl3, zl4, zl9]; omega) | (subst_vars; assumption))))]) <;> (first | rfl | assumption | omega | exact Int32.toInt_inj.mp (by omega) | (simp only [Int32.reduceToInt, zl1, zl2, zl3, zl4, zl9]; omega) | ((rw [if_pos (by (first | omega | ((try simp only [Int32.lt_iff_toInt_lt, Int32.le_iff_toInt_le, ← Int32.toInt_inj, Int32.reduceToInt, zl1, zl2, zl3, zl4, zl9]); (try simp only [Int32.reduceToInt]); omega) | (subst_vars; assumption) | (refine ⟨?_, ?_⟩ <;> first | omega | (simp only [Int32.lt_iff_toInt_lt, Int32.le_iff_toInt_le, ← Int32.toInt_inj, Int32.reduceToInt, zl1, zl2, zl3, zl4, zl9]; omega) | (subst_vars; assumption))))]) <;> (first | rfl | assumption | omega | exact Int32.toInt_inj.mp (by omega) | (simp only [Int32.reduceToInt, zl1, zl2, zl3, zl4, zl9]; omega))) | ((rw [if_neg (by (first | omega | ((try simp only [Int32.lt_iff_toInt_lt, Int32.le_iff_toInt_le, ← Int32.toInt_inj, Int32.reduceToInt, zl1, zl2, zl3, zl4, zl9]); (try simp only [Int32.reduceToInt]); omega) | (subst_vars; assumption) | (refine ⟨?_, ?_⟩ <;> first | omega | (simp only [Int32.lt_iff_toInt_lt, Int32.le_iff_toInt_le, ← Int32.toInt_inj, Int32.reduceToInt, zl1, zl2, zl3, zl4, zl9]; omega) | (subst_vars; assumption))))]) <;> (first | rfl | assumption | omega | exact Int32.toInt_inj.mp (by omega) | (simp only [Int32.reduceToInt, zl1, zl2, zl3, zl4, zl9]; omega))))) | ((rw [if_neg (by (first | omega | ((try simp only [Int32.lt_iff_toInt_lt, Int32.le_iff_toInt_le, ← Int32.toInt_inj, Int32.reduceToInt, zl1, zl2, zl3, zl4, zl9]); (try simp only [Int32.reduceToInt]); omega) | (subst_vars; assumption) | (refine ⟨?_, ?_⟩ <;> first | omega | (simp only [Int32.lt_iff_toInt_lt, Int32.le_iff_toInt_le, ← Int32.toInt_inj, Int32.reduceToInt, zl1, zl2, zl3, zl4, zl9]; omega) | (subst_vars; assumption))))]) <;> (first | rfl | assumption | omega | exact Int32.toInt_inj.mp (by omega) | (simp only [Int32.reduceToInt, zl1, zl2, zl3, zl4, zl9]; omega) | ((rw [if_pos (by (first | omega | ((try simp only [Int32.lt_iff_toInt_lt, Int32.le_iff_toInt_le, ← Int32.toInt_inj, Int32.reduceToInt, zl1, zl2, zl3, zl4, zl9]); (try simp only [Int32.reduceToInt]); omega) | (subst_vars; assumption) | (refine ⟨?_, ?_⟩ <;> first | omega | (simp only [Int32.lt_iff_toInt_lt, Int32.le_iff_toInt_le, ← Int32.toInt_inj, Int32.reduceToInt, zl1, zl2, zl3, zl4, zl9]; omega) | (subst_vars; assumption))))]) <;> (first | rfl | assumption | omega | exact Int32.toInt_inj.mp (by omega) | (simp only [Int32.reduceToInt, zl1, zl2, zl3, zl4, zl9]; omega))) | ((rw [if_neg (by (first | omega | ((try simp only [Int32.lt_iff_toInt_lt, Int32.le_iff_toInt_le, ← Int32.toInt_inj, Int32.reduceToInt, zl1, zl2, zl3, zl4, zl9]); (try simp only [Int32.reduceToInt]); omega) | (subst_vars; assumption) | (refine ⟨?_, ?_⟩ <;> first | omega | (simp only [Int32.lt_iff_toInt_lt, Int32.le_iff_toInt_le, ← Int32.toInt_inj, Int32.reduceToInt, zl1, zl2, zl3, zl4, zl9]; omega) | (subst_vars; assumption))))]) <;> (first | rfl | assumption | omega | exact Int32.toInt_inj.mp (by omega) | (simp only [Int32.reduceToInt, zl1, zl2, zl3, zl4, zl9]; omega)))))) | ((try simp only [Int32.lt_iff_toInt_lt, Int32.le_iff_toInt_le, ← Int32.toInt_inj, Int32.reduceToInt, zl1, zl2, zl3, zl4, zl9]); (repeat' split) <;> first | rfl | omega | (simp only [Int32.lt_iff_toInt_lt, Int32.le_iff_toInt_le, ← Int32.toInt_inj, Int32.reduceToInt, zl1, zl2, zl3, zl4, zl9]; omega))))), (by decide)⟩, trivial⟩, hS.F ht⟩) hS.2.2 dX3_isHome_14
set_option maxRecDepth 20000 in
theorem iw_X3_isOf_X3 : ∀ w ∈ wsX30, w ∈ wsX3_isOf := fun w h => (List.mem_cons_of_mem _ (List.mem_append_right _ h))
set_option maxHeartbeats 4000000 in
set_option maxRecDepth 100000 in
/-- Ship.isOf -/
theorem c_X3_isOf (l : Launch) (dC : Nat → ClassId) (dI : Nat → Nat → Nat) (sz : Nat) (L : List Nat) (f : Nat → va_E) (a : Nat) (oa : Nat) (ia : Nat) (v : Nat → Int32) (a0 : Int32) (hsh : a ∈ L ∧ f a = .inr (4, [.int (v 0), .int (v 1), .int (v 2), .ref oa, .ref ia, .int (v 3), .int (v 4), .int (v 5), .int (v 6), .int (v 7), .int (v 8), .int (v 9), .int (v 10), .int (v 11)])) : Met l yX3_isOf wsX3_isOf ({ frames := 0, cells := 0, slots := 0, locals := 0 }) (va_Pc [.ref a, .int a0] (fun U => U.heap.size = sz ∧ va_P (dC, dI) vwCl (([] : va_W) ++ va_pl L f) U.heap ∧ va_K (dC, dI) vwCl [] U ∧ NW U)) (va_Qi (fun (r : Int32) (_ : Unit) => (r.toInt = 1 → ((v 1).toInt = a0.toInt ∨ ((v 1).toInt = 3 ∧ a0.toInt = 1))) ∧ (r.toInt = 0 → ¬ ((v 1).toInt = a0.toInt ∨ ((v 1).toInt = 3 ∧ a0.toInt = 1))) ∧ (0 ≤ r.toInt ∧ r.toInt ≤ 1)) (fun _ _ => True) (va_A [] sz)) 0 0 (va_A [] sz) := by
  refine Met.ofW (cc := cX3_isOf) (maxL := 2) (ret := (some .boolean)) (by decide) rfl ?_
  intro p e s m args below meth c s₁ B hml hv
  obtain ⟨rfl, hsz, hP, hK, hN⟩ := hv
  have hx := B.exec
  have hb := B.bytes
  have hr := B.returns
  have hts := atoms_spec (ws := wsX3_isOf) B.pre
  have hown : s.vm.findClass RX3 = some m.cls := findClass_of_methodNamed B.named
  have hlocks := B.notSynchronized
  subst hsz
  generalize hAe : va_A [] s.heap.size = A at ⊢
  have hA : ∀ q : Nat, s.heap.size ≤ q → A q := fun q h => by rw [← hAe]; exact Or.inr h
  have hS : va_S A s.heap s.heap [] := va_S.rf
  have hP : va_P (dC, dI) vwCl (([] : va_W) ++ va_pl L f) s.heap := hP
  have hl := lv_entry ([.ref a, .int a0]) (n := 2) (Nat.le_of_ble_eq_true rfl)
  rw [lg_entry_eq]
  generalize (lg_sl ([.ref a, .int a0]) ++ List.replicate (2 - (lg_sl ([.ref a, .int a0])).length) Slot.unset).toArray = ls at hl ⊢
  have hl : lv_has ls 2 [(0, .ref a), (1, .int a0)] := hl
  refine lv_aload_n hx hb dX3_isOf_0 rfl (lv_at hl 0 rfl) ?_
  obtain ⟨k9_1, hk9_1⟩ : ∃ k : Nat, (([] : va_W) ++ va_pl L f)[k]? = some (a, .inr (4, [.int (v 0), .int (v 1), .int (v 2), .ref oa, .ref ia, .int (v 3), .int (v 4), .int (v 5), .int (v 6), .int (v 7), .int (v 8), .int (v 9), .int (v 10), .int (v 11)])) := pl_at hsh.1 hsh.2
  refine va_get (D := (dC, dI)) (ci := 4) (v := .int (v 1)) (C := RX3) (T := TX3) (N := 14) hx hb hts iw_X3_isOf_X3 hown hK hP k9_1 hk9_1 rfl 1 (by decide) (hts (.fieldLink RX3 49 "TeaRace$Ship" "kind" "I") (by decide +kernel)) (fun _ h9 => h9) rfl dX3_isOf_1 ?_
  refine lv_iload_n hx hb dX3_isOf_4 rfl (lv_at hl 1 rfl) ?_
  refine lv_icmp_eq (tgt := 21) hx hb dX3_isOf_5 (by decide) (fun c_2 => ?_) (fun c_2 => ?_)
  · skip
    have qc_2 : (v 1).toInt = a0.toInt := eq_k rfl rfl c_2
    refine lv_iconst (v := 1) hx hb dX3_isOf_21 (by decide) ?_
    refine lv_goto (tgt := 26) hx hb dX3_isOf_22 (by decide) ?_
    have hv9 : (1 : Int32).toInt = 1 := by decide
    exact W.zret (v := 1) hx hb hr rfl (fun t ht hW => ⟨⟨1, (), rfl, ⟨(fun h => by (try simp only [Int32.reduceToInt] at h); omega), (fun h => by (try simp only [Int32.reduceToInt] at h); omega), (by decide)⟩, trivial⟩, hS.F ht⟩) hS.2.2 dX3_isOf_26
  · skip
    have qc_2 : (v 1).toInt ≠ a0.toInt := ne_k rfl rfl c_2
    refine lv_aload_n hx hb dX3_isOf_8 rfl (lv_at hl 0 rfl) ?_
    obtain ⟨k9_3, hk9_3⟩ : ∃ k : Nat, (([] : va_W) ++ va_pl L f)[k]? = some (a, .inr (4, [.int (v 0), .int (v 1), .int (v 2), .ref oa, .ref ia, .int (v 3), .int (v 4), .int (v 5), .int (v 6), .int (v 7), .int (v 8), .int (v 9), .int (v 10), .int (v 11)])) := pl_at hsh.1 hsh.2
    refine va_get (D := (dC, dI)) (ci := 4) (v := .int (v 1)) (C := RX3) (T := TX3) (N := 14) hx hb hts iw_X3_isOf_X3 hown hK hP k9_3 hk9_3 rfl 1 (by decide) (hts (.fieldLink RX3 49 "TeaRace$Ship" "kind" "I") (by decide +kernel)) (fun _ h9 => h9) rfl dX3_isOf_9 ?_
    refine lv_iconst (v := 3) hx hb dX3_isOf_12 (by decide) ?_
    refine lv_icmp_ne (tgt := 25) hx hb dX3_isOf_13 (by decide) (fun c_4 => ?_) (fun c_4 => ?_)
    · skip
      have qc_4 : (v 1).toInt ≠ 3 := ne_k rfl (by decide) c_4
      refine lv_iconst (v := 0) hx hb dX3_isOf_25 (by decide) ?_
      have hv9 : (0 : Int32).toInt = 0 := by decide
      exact W.zret (v := 0) hx hb hr rfl (fun t ht hW => ⟨⟨0, (), rfl, ⟨(fun h => by (try simp only [Int32.reduceToInt] at h); omega), (fun h => by (try simp only [Int32.reduceToInt] at h); omega), (by decide)⟩, trivial⟩, hS.F ht⟩) hS.2.2 dX3_isOf_26
    · skip
      have qc_4 : (v 1).toInt = 3 := eq_k rfl (by decide) c_4
      refine lv_iload_n hx hb dX3_isOf_16 rfl (lv_at hl 1 rfl) ?_
      refine lv_iconst (v := 1) hx hb dX3_isOf_17 (by decide) ?_
      refine lv_icmp_ne (tgt := 25) hx hb dX3_isOf_18 (by decide) (fun c_5 => ?_) (fun c_5 => ?_)
      · skip
        have qc_5 : a0.toInt ≠ 1 := ne_k rfl (by decide) c_5
        refine lv_iconst (v := 0) hx hb dX3_isOf_25 (by decide) ?_
        have hv9 : (0 : Int32).toInt = 0 := by decide
        exact W.zret (v := 0) hx hb hr rfl (fun t ht hW => ⟨⟨0, (), rfl, ⟨(fun h => by (try simp only [Int32.reduceToInt] at h); omega), (fun h => by (try simp only [Int32.reduceToInt] at h); omega), (by decide)⟩, trivial⟩, hS.F ht⟩) hS.2.2 dX3_isOf_26
      · skip
        have qc_5 : a0.toInt = 1 := eq_k rfl (by decide) c_5
        refine lv_iconst (v := 1) hx hb dX3_isOf_21 (by decide) ?_
        refine lv_goto (tgt := 26) hx hb dX3_isOf_22 (by decide) ?_
        have hv9 : (1 : Int32).toInt = 1 := by decide
        exact W.zret (v := 1) hx hb hr rfl (fun t ht hW => ⟨⟨1, (), rfl, ⟨(fun h => by (try simp only [Int32.reduceToInt] at h); omega), (fun h => by (try simp only [Int32.reduceToInt] at h); omega), (by decide)⟩, trivial⟩, hS.F ht⟩) hS.2.2 dX3_isOf_26
set_option maxRecDepth 20000 in
theorem iw_X3_moreAcrossTheWind_X3 : ∀ w ∈ wsX30, w ∈ wsX3_moreAcrossTheWind := fun w h => (List.mem_cons_of_mem _ (List.mem_append_right _ h))
set_option maxHeartbeats 4000000 in
set_option maxRecDepth 100000 in
/-- Ship.moreAcrossTheWind -/
theorem c_X3_moreAcrossTheWind (l : Launch) (dC : Nat → ClassId) (dI : Nat → Nat → Nat) (sz : Nat) (L : List Nat) (f : Nat → va_E) (a : Nat) (oa : Nat) (ia : Nat) (v : Nat → Int32) (hsh : a ∈ L ∧ f a = .inr (4, [.int (v 0), .int (v 1), .int (v 2), .ref oa, .ref ia, .int (v 3), .int (v 4), .int (v 5), .int (v 6), .int (v 7), .int (v 8), .int (v 9), .int (v 10), .int (v 11)])) : Met l yX3_moreAcrossTheWind wsX3_moreAcrossTheWind ({ frames := 0, cells := 0, slots := 0, locals := 0 }) (va_Pc [.ref a] (fun U => U.heap.size = sz ∧ va_P (dC, dI) vwCl (([] : va_W) ++ va_pl L f) U.heap ∧ va_K (dC, dI) vwCl [] U ∧ NW U)) (va_Qi (fun (r : Int32) (_ : Unit) => (r.toInt = if (v 1).toInt = 3 then 2 else if (v 1).toInt = 1 then 1 else 0) ∧ (0 ≤ r.toInt ∧ r.toInt ≤ 2)) (fun _ _ => True) (va_A [] sz)) 0 0 (va_A [] sz) := by
  refine Met.ofW (cc := cX3_moreAcrossTheWind) (maxL := 1) (ret := (some .int)) (by decide) rfl ?_
  intro p e s m args below meth c s₁ B hml hv
  obtain ⟨rfl, hsz, hP, hK, hN⟩ := hv
  have hx := B.exec
  have hb := B.bytes
  have hr := B.returns
  have hts := atoms_spec (ws := wsX3_moreAcrossTheWind) B.pre
  have hown : s.vm.findClass RX3 = some m.cls := findClass_of_methodNamed B.named
  have hlocks := B.notSynchronized
  subst hsz
  generalize hAe : va_A [] s.heap.size = A at ⊢
  have hA : ∀ q : Nat, s.heap.size ≤ q → A q := fun q h => by rw [← hAe]; exact Or.inr h
  have hS : va_S A s.heap s.heap [] := va_S.rf
  have hP : va_P (dC, dI) vwCl (([] : va_W) ++ va_pl L f) s.heap := hP
  have hl := lv_entry ([.ref a]) (n := 1) (Nat.le_of_ble_eq_true rfl)
  rw [lg_entry_eq]
  generalize (lg_sl ([.ref a]) ++ List.replicate (1 - (lg_sl ([.ref a])).length) Slot.unset).toArray = ls at hl ⊢
  have hl : lv_has ls 1 [(0, .ref a)] := hl
  refine lv_aload_n hx hb dX3_moreAcrossTheWind_0 rfl (lv_at hl 0 rfl) ?_
  obtain ⟨k9_1, hk9_1⟩ : ∃ k : Nat, (([] : va_W) ++ va_pl L f)[k]? = some (a, .inr (4, [.int (v 0), .int (v 1), .int (v 2), .ref oa, .ref ia, .int (v 3), .int (v 4), .int (v 5), .int (v 6), .int (v 7), .int (v 8), .int (v 9), .int (v 10), .int (v 11)])) := pl_at hsh.1 hsh.2
  refine va_get (D := (dC, dI)) (ci := 4) (v := .int (v 1)) (C := RX3) (T := TX3) (N := 14) hx hb hts iw_X3_moreAcrossTheWind_X3 hown hK hP k9_1 hk9_1 rfl 1 (by decide) (hts (.fieldLink RX3 49 "TeaRace$Ship" "kind" "I") (by decide +kernel)) (fun _ h9 => h9) rfl dX3_moreAcrossTheWind_1 ?_
  refine lv_iconst (v := 3) hx hb dX3_moreAcrossTheWind_4 (by decide) ?_
  refine lv_icmp_ne (tgt := 10) hx hb dX3_moreAcrossTheWind_5 (by decide) (fun c_2 => ?_) (fun c_2 => ?_)
  · skip
    have qc_2 : (v 1).toInt ≠ 3 := ne_k rfl (by decide) c_2
    refine lv_aload_n hx hb dX3_moreAcrossTheWind_10 rfl (lv_at hl 0 rfl) ?_
    obtain ⟨k9_3, hk9_3⟩ : ∃ k : Nat, (([] : va_W) ++ va_pl L f)[k]? = some (a, .inr (4, [.int (v 0), .int (v 1), .int (v 2), .ref oa, .ref ia, .int (v 3), .int (v 4), .int (v 5), .int (v 6), .int (v 7), .int (v 8), .int (v 9), .int (v 10), .int (v 11)])) := pl_at hsh.1 hsh.2
    refine va_get (D := (dC, dI)) (ci := 4) (v := .int (v 1)) (C := RX3) (T := TX3) (N := 14) hx hb hts iw_X3_moreAcrossTheWind_X3 hown hK hP k9_3 hk9_3 rfl 1 (by decide) (hts (.fieldLink RX3 49 "TeaRace$Ship" "kind" "I") (by decide +kernel)) (fun _ h9 => h9) rfl dX3_moreAcrossTheWind_11 ?_
    refine lv_iconst (v := 1) hx hb dX3_moreAcrossTheWind_14 (by decide) ?_
    refine lv_icmp_ne (tgt := 22) hx hb dX3_moreAcrossTheWind_15 (by decide) (fun c_4 => ?_) (fun c_4 => ?_)
    · skip
      have qc_4 : (v 1).toInt ≠ 1 := ne_k rfl (by decide) c_4
      refine lv_iconst (v := 0) hx hb dX3_moreAcrossTheWind_22 (by decide) ?_
      have hv9 : (0 : Int32).toInt = 0 := by decide
      exact W.iret (v := 0) hx hb hr (fun t ht hW => ⟨⟨0, (), rfl, ⟨(by (try dsimp only) <;> (first | (first | rfl | assumption | omega | exact Int32.toInt_inj.mp (by omega) | (simp only [Int32.reduceToInt, zl1, zl2, zl3, zl4, zl9]; omega) | ((rw [if_pos (by (first | omega | ((try simp only [Int32.lt_iff_toInt_lt, Int32.le_iff_toInt_le, ← Int32.toInt_inj, Int32.reduceToInt, zl1, zl2, zl3, zl4, zl9]); (try simp only [Int32.reduceToInt]); omega) | (subst_vars; assumption) | (refine ⟨?_, ?_⟩ <;> first | omega | (simp only [Int32.lt_iff_toInt_lt, Int32.le_iff_toInt_le, ← Int32.toInt_inj, Int32.reduceToInt, zl1, zl2, zl3, zl4, zl9]; omega) | (subst_vars; assumption))))]) <;> (first | rfl | assumption | omega | exact Int32.toInt_inj.mp (by omega) | (simp only [Int32.reduceToInt, zl1, zl2, zl3, zl4, zl9]; omega) | ((rw [if_pos (by (first | omega | ((try simp only [Int32.lt_iff_toInt_lt, Int32.le_iff_toInt_le, ← Int32.toInt_inj, Int32.reduceToInt, zl1, zl2, zl3, zl4, zl9]); (try simp only [Int32.reduceToInt]); omega) | (subst_vars; assumption) | (refine ⟨?_, ?_⟩ <;> first | omega | (simp only [Int32.lt_iff_toInt_lt, Int32.le_iff_toInt_le, ← Int32.toInt_inj, Int32.reduceToInt, zl1, zl2, zl3, zl4, zl9]; omega) | (subst_vars; assumption))))]) <;> (first | rfl | assumption | omega | exact Int32.toInt_inj.mp (by omega) | (simp only [Int32.reduceToInt, zl1, zl2, zl3, zl4, zl9]; omega))) | ((rw [if_neg (by (first | omega | ((try simp only [Int32.lt_iff_toInt_lt, Int32.le_iff_toInt_le, ← Int32.toInt_inj, Int32.reduceToInt, zl1, zl2, zl3, zl4, zl9]); (try simp only [Int32.reduceToInt]); omega) | (subst_vars; assumption) | (refine ⟨?_, ?_⟩ <;> first | omega | (simp only [Int32.lt_iff_toInt_lt, Int32.le_iff_toInt_le, ← Int32.toInt_inj, Int32.reduceToInt, zl1, zl2, zl3, zl4, zl9]; omega) | (subst_vars; assumption))))]) <;> (first | rfl | assumption | omega | exact Int32.toInt_inj.mp (by omega) | (simp only [Int32.reduceToInt, zl1, zl2, zl3, zl4, zl9]; omega))))) | ((rw [if_neg (by (first | omega | ((try simp only [Int32.lt_iff_toInt_lt, Int32.le_iff_toInt_le, ← Int32.toInt_inj, Int32.reduceToInt, zl1, zl2, zl3, zl4, zl9]); (try simp only [Int32.reduceToInt]); omega) | (subst_vars; assumption) | (refine ⟨?_, ?_⟩ <;> first | omega | (simp only [Int32.lt_iff_toInt_lt, Int32.le_iff_toInt_le, ← Int32.toInt_inj, Int32.reduceToInt, zl1, zl2, zl3, zl4, zl9]; omega) | (subst_vars; assumption))))]) <;> (first | rfl | assumption | omega | exact Int32.toInt_inj.mp (by omega) | (simp only [Int32.reduceToInt, zl1, zl2, zl3, zl4, zl9]; omega) | ((rw [if_pos (by (first | omega | ((try simp only [Int32.lt_iff_toInt_lt, Int32.le_iff_toInt_le, ← Int32.toInt_inj, Int32.reduceToInt, zl1, zl2, zl3, zl4, zl9]); (try simp only [Int32.reduceToInt]); omega) | (subst_vars; assumption) | (refine ⟨?_, ?_⟩ <;> first | omega | (simp only [Int32.lt_iff_toInt_lt, Int32.le_iff_toInt_le, ← Int32.toInt_inj, Int32.reduceToInt, zl1, zl2, zl3, zl4, zl9]; omega) | (subst_vars; assumption))))]) <;> (first | rfl | assumption | omega | exact Int32.toInt_inj.mp (by omega) | (simp only [Int32.reduceToInt, zl1, zl2, zl3, zl4, zl9]; omega))) | ((rw [if_neg (by (first | omega | ((try simp only [Int32.lt_iff_toInt_lt, Int32.le_iff_toInt_le, ← Int32.toInt_inj, Int32.reduceToInt, zl1, zl2, zl3, zl4, zl9]); (try simp only [Int32.reduceToInt]); omega) | (subst_vars; assumption) | (refine ⟨?_, ?_⟩ <;> first | omega | (simp only [Int32.lt_iff_toInt_lt, Int32.le_iff_toInt_le, ← Int32.toInt_inj, Int32.reduceToInt, zl1, zl2, zl3, zl4, zl9]; omega) | (subst_vars; assumption))))]) <;> (first | rfl | assumption | omega | exact Int32.toInt_inj.mp (by omega) | (simp only [Int32.reduceToInt, zl1, zl2, zl3, zl4, zl9]; omega)))))) | ((try simp only [Int32.lt_iff_toInt_lt, Int32.le_iff_toInt_le, ← Int32.toInt_inj, Int32.reduceToInt, zl1, zl2, zl3, zl4, zl9]); (repeat' split) <;> first | rfl | omega | (simp only [Int32.lt_iff_toInt_lt, Int32.le_iff_toInt_le, ← Int32.toInt_inj, Int32.reduceToInt, zl1, zl2, zl3, zl4, zl9]; omega)))), (by decide)⟩, trivial⟩, hS.F ht⟩) hS.2.2 dX3_moreAcrossTheWind_23
    · skip
      have qc_4 : (v 1).toInt = 1 := eq_k rfl (by decide) c_4
      refine lv_iconst (v := 1) hx hb dX3_moreAcrossTheWind_18 (by decide) ?_
      refine lv_goto (tgt := 23) hx hb dX3_moreAcrossTheWind_19 (by decide) ?_
      have hv9 : (1 : Int32).toInt = 1 := by decide
      exact W.iret (v := 1) hx hb hr (fun t ht hW => ⟨⟨1, (), rfl, ⟨(by (try dsimp only) <;> (first | (first | rfl | assumption | omega | exact Int32.toInt_inj.mp (by omega) | (simp only [Int32.reduceToInt, zl1, zl2, zl3, zl4, zl9]; omega) | ((rw [if_pos (by (first | omega | ((try simp only [Int32.lt_iff_toInt_lt, Int32.le_iff_toInt_le, ← Int32.toInt_inj, Int32.reduceToInt, zl1, zl2, zl3, zl4, zl9]); (try simp only [Int32.reduceToInt]); omega) | (subst_vars; assumption) | (refine ⟨?_, ?_⟩ <;> first | omega | (simp only [Int32.lt_iff_toInt_lt, Int32.le_iff_toInt_le, ← Int32.toInt_inj, Int32.reduceToInt, zl1, zl2, zl3, zl4, zl9]; omega) | (subst_vars; assumption))))]) <;> (first | rfl | assumption | omega | exact Int32.toInt_inj.mp (by omega) | (simp only [Int32.reduceToInt, zl1, zl2, zl3, zl4, zl9]; omega) | ((rw [if_pos (by (first | omega | ((try simp only [Int32.lt_iff_toInt_lt, Int32.le_iff_toInt_le, ← Int32.toInt_inj, Int32.reduceToInt, zl1, zl2, zl3, zl4, zl9]); (try simp only [Int32.reduceToInt]); omega) | (subst_vars; assumption) | (refine ⟨?_, ?_⟩ <;> first | omega | (simp only [Int32.lt_iff_toInt_lt, Int32.le_iff_toInt_le, ← Int32.toInt_inj, Int32.reduceToInt, zl1, zl2, zl3, zl4, zl9]; omega) | (subst_vars; assumption))))]) <;> (first | rfl | assumption | omega | exact Int32.toInt_inj.mp (by omega) | (simp only [Int32.reduceToInt, zl1, zl2, zl3, zl4, zl9]; omega))) | ((rw [if_neg (by (first | omega | ((try simp only [Int32.lt_iff_toInt_lt, Int32.le_iff_toInt_le, ← Int32.toInt_inj, Int32.reduceToInt, zl1, zl2, zl3, zl4, zl9]); (try simp only [Int32.reduceToInt]); omega) | (subst_vars; assumption) | (refine ⟨?_, ?_⟩ <;> first | omega | (simp only [Int32.lt_iff_toInt_lt, Int32.le_iff_toInt_le, ← Int32.toInt_inj, Int32.reduceToInt, zl1, zl2, zl3, zl4, zl9]; omega) | (subst_vars; assumption))))]) <;> (first | rfl | assumption | omega | exact Int32.toInt_inj.mp (by omega) | (simp only [Int32.reduceToInt, zl1, zl2, zl3, zl4, zl9]; omega))))) | ((rw [if_neg (by (first | omega | ((try simp only [Int32.lt_iff_toInt_lt, Int32.le_iff_toInt_le, ← Int32.toInt_inj, Int32.reduceToInt, zl1, zl2, zl3, zl4, zl9]); (try simp only [Int32.reduceToInt]); omega) | (subst_vars; assumption) | (refine ⟨?_, ?_⟩ <;> first | omega | (simp only [Int32.lt_iff_toInt_lt, Int32.le_iff_toInt_le, ← Int32.toInt_inj, Int32.reduceToInt, zl1, zl2, zl3, zl4, zl9]; omega) | (subst_vars; assumption))))]) <;> (first | rfl | assumption | omega | exact Int32.toInt_inj.mp (by omega) | (simp only [Int32.reduceToInt, zl1, zl2, zl3, zl4, zl9]; omega) | ((rw [if_pos (by (first | omega | ((try simp only [Int32.lt_iff_toInt_lt, Int32.le_iff_toInt_le, ← Int32.toInt_inj, Int32.reduceToInt, zl1, zl2, zl3, zl4, zl9]); (try simp only [Int32.reduceToInt]); omega) | (subst_vars; assumption) | (refine ⟨?_, ?_⟩ <;> first | omega | (simp only [Int32.lt_iff_toInt_lt, Int32.le_iff_toInt_le, ← Int32.toInt_inj, Int32.reduceToInt, zl1, zl2, zl3, zl4, zl9]; omega) | (subst_vars; assumption))))]) <;> (first | rfl | assumption | omega | exact Int32.toInt_inj.mp (by omega) | (simp only [Int32.reduceToInt, zl1, zl2, zl3, zl4, zl9]; omega))) | ((rw [if_neg (by (first | omega | ((try simp only [Int32.lt_iff_toInt_lt, Int32.le_iff_toInt_le, ← Int32.toInt_inj, Int32.reduceToInt, zl1, zl2, zl3, zl4, zl9]); (try simp only [Int32.reduceToInt]); omega) | (subst_vars; assumption) | (refine ⟨?_, ?_⟩ <;> first | omega | (simp only [Int32.lt_iff_toInt_lt, Int32.le_iff_toInt_le, ← Int32.toInt_inj, Int32.reduceToInt, zl1, zl2, zl3, zl4, zl9]; omega) | (subst_vars; assumption))))]) <;> (first | rfl | assumption | omega | exact Int32.toInt_inj.mp (by omega) | (simp only [Int32.reduceToInt, zl1, zl2, zl3, zl4, zl9]; omega)))))) | ((try simp only [Int32.lt_iff_toInt_lt, Int32.le_iff_toInt_le, ← Int32.toInt_inj, Int32.reduceToInt, zl1, zl2, zl3, zl4, zl9]); (repeat' split) <;> first | rfl | omega | (simp only [Int32.lt_iff_toInt_lt, Int32.le_iff_toInt_le, ← Int32.toInt_inj, Int32.reduceToInt, zl1, zl2, zl3, zl4, zl9]; omega)))), (by decide)⟩, trivial⟩, hS.F ht⟩) hS.2.2 dX3_moreAcrossTheWind_23
  · skip
    have qc_2 : (v 1).toInt = 3 := eq_k rfl (by decide) c_2
    refine lv_iconst (v := 2) hx hb dX3_moreAcrossTheWind_8 (by decide) ?_
    have hv9 : (2 : Int32).toInt = 2 := by decide
    exact W.iret (v := 2) hx hb hr (fun t ht hW => ⟨⟨2, (), rfl, ⟨(by (try dsimp only) <;> (first | (first | rfl | assumption | omega | exact Int32.toInt_inj.mp (by omega) | (simp only [Int32.reduceToInt, zl1, zl2, zl3, zl4, zl9]; omega) | ((rw [if_pos (by (first | omega | ((try simp only [Int32.lt_iff_toInt_lt, Int32.le_iff_toInt_le, ← Int32.toInt_inj, Int32.reduceToInt, zl1, zl2, zl3, zl4, zl9]); (try simp only [Int32.reduceToInt]); omega) | (subst_vars; assumption) | (refine ⟨?_, ?_⟩ <;> first | omega | (simp only [Int32.lt_iff_toInt_lt, Int32.le_iff_toInt_le, ← Int32.toInt_inj, Int32.reduceToInt, zl1, zl2, zl3, zl4, zl9]; omega) | (subst_vars; assumption))))]) <;> (first | rfl | assumption | omega | exact Int32.toInt_inj.mp (by omega) | (simp only [Int32.reduceToInt, zl1, zl2, zl3, zl4, zl9]; omega) | ((rw [if_pos (by (first | omega | ((try simp only [Int32.lt_iff_toInt_lt, Int32.le_iff_toInt_le, ← Int32.toInt_inj, Int32.reduceToInt, zl1, zl2, zl3, zl4, zl9]); (try simp only [Int32.reduceToInt]); omega) | (subst_vars; assumption) | (refine ⟨?_, ?_⟩ <;> first | omega | (simp only [Int32.lt_iff_toInt_lt, Int32.le_iff_toInt_le, ← Int32.toInt_inj, Int32.reduceToInt, zl1, zl2, zl3, zl4, zl9]; omega) | (subst_vars; assumption))))]) <;> (first | rfl | assumption | omega | exact Int32.toInt_inj.mp (by omega) | (simp only [Int32.reduceToInt, zl1, zl2, zl3, zl4, zl9]; omega))) | ((rw [if_neg (by (first | omega | ((try simp only [Int32.lt_iff_toInt_lt, Int32.le_iff_toInt_le, ← Int32.toInt_inj, Int32.reduceToInt, zl1, zl2, zl3, zl4, zl9]); (try simp only [Int32.reduceToInt]); omega) | (subst_vars; assumption) | (refine ⟨?_, ?_⟩ <;> first | omega | (simp only [Int32.lt_iff_toInt_lt, Int32.le_iff_toInt_le, ← Int32.toInt_inj, Int32.reduceToInt, zl1, zl2, zl3, zl4, zl9]; omega) | (subst_vars; assumption))))]) <;> (first | rfl | assumption | omega | exact Int32.toInt_inj.mp (by omega) | (simp only [Int32.reduceToInt, zl1, zl2, zl3, zl4, zl9]; omega))))) | ((rw [if_neg (by (first | omega | ((try simp only [Int32.lt_iff_toInt_lt, Int32.le_iff_toInt_le, ← Int32.toInt_inj, Int32.reduceToInt, zl1, zl2, zl3, zl4, zl9]); (try simp only [Int32.reduceToInt]); omega) | (subst_vars; assumption) | (refine ⟨?_, ?_⟩ <;> first | omega | (simp only [Int32.lt_iff_toInt_lt, Int32.le_iff_toInt_le, ← Int32.toInt_inj, Int32.reduceToInt, zl1, zl2, zl3, zl4, zl9]; omega) | (subst_vars; assumption))))]) <;> (first | rfl | assumption | omega | exact Int32.toInt_inj.mp (by omega) | (simp only [Int32.reduceToInt, zl1, zl2, zl3, zl4, zl9]; omega) | ((rw [if_pos (by (first | omega | ((try simp only [Int32.lt_iff_toInt_lt, Int32.le_iff_toInt_le, ← Int32.toInt_inj, Int32.reduceToInt, zl1, zl2, zl3, zl4, zl9]); (try simp only [Int32.reduceToInt]); omega) | (subst_vars; assumption) | (refine ⟨?_, ?_⟩ <;> first | omega | (simp only [Int32.lt_iff_toInt_lt, Int32.le_iff_toInt_le, ← Int32.toInt_inj, Int32.reduceToInt, zl1, zl2, zl3, zl4, zl9]; omega) | (subst_vars; assumption))))]) <;> (first | rfl | assumption | omega | exact Int32.toInt_inj.mp (by omega) | (simp only [Int32.reduceToInt, zl1, zl2, zl3, zl4, zl9]; omega))) | ((rw [if_neg (by (first | omega | ((try simp only [Int32.lt_iff_toInt_lt, Int32.le_iff_toInt_le, ← Int32.toInt_inj, Int32.reduceToInt, zl1, zl2, zl3, zl4, zl9]); (try simp only [Int32.reduceToInt]); omega) | (subst_vars; assumption) | (refine ⟨?_, ?_⟩ <;> first | omega | (simp only [Int32.lt_iff_toInt_lt, Int32.le_iff_toInt_le, ← Int32.toInt_inj, Int32.reduceToInt, zl1, zl2, zl3, zl4, zl9]; omega) | (subst_vars; assumption))))]) <;> (first | rfl | assumption | omega | exact Int32.toInt_inj.mp (by omega) | (simp only [Int32.reduceToInt, zl1, zl2, zl3, zl4, zl9]; omega)))))) | ((try simp only [Int32.lt_iff_toInt_lt, Int32.le_iff_toInt_le, ← Int32.toInt_inj, Int32.reduceToInt, zl1, zl2, zl3, zl4, zl9]); (repeat' split) <;> first | rfl | omega | (simp only [Int32.lt_iff_toInt_lt, Int32.le_iff_toInt_le, ← Int32.toInt_inj, Int32.reduceToInt, zl1, zl2, zl3, zl4, zl9]; omega)))), (by decide)⟩, trivial⟩, hS.F ht⟩) hS.2.2 dX3_moreAcrossTheWind_9
set_option maxHeartbeats 4000000 in
set_option maxRecDepth 100000 in
/-- Ship.sailSpeed -/
theorem c_X3_sailSpeed (l : Launch) (dC : Nat → ClassId) (dI : Nat → Nat → Nat) (sz : Nat) (L : List Nat) (f : Nat → va_E) (a : Nat) (oa : Nat) (ia : Nat) (v : Nat → Int32) (a0 : Int32) (a1 : Int32) (hsh : a ∈ L ∧ f a = .inr (4, [.int (v 0), .int (v 1), .int (v 2), .ref oa, .ref ia, .int (v 3), .int (v 4), .int (v 5), .int (v 6), .int (v 7), .int (v 8), .int (v 9), .int (v 10), .int (v 11)])) : Met l yX3_sailSpeed wsX3_sailSpeed ({ frames := 1, cells := 0, slots := 0, locals := 20 }) (va_Pc [.ref a, .int a0, .int a1] (fun U => U.heap.size = sz ∧ va_P (dC, dI) vwCl (([] : va_W) ++ va_pl L f) U.heap ∧ va_K (dC, dI) vwCl [] U ∧ NW U)) (va_Qi (fun (r : Int32) (_ : Unit) => (0 ≤ a1.toInt ∧ a1.toInt ≤ 9 → r.toInt = sailSp (v 1).toInt a0.toInt a1.toInt)) (fun _ _ => True) (va_A [] sz)) 0 0 (va_A [] sz) := by
  refine Met.ofW (cc := cX3_sailSpeed) (maxL := 3) (ret := (some .int)) (by decide) rfl ?_
  intro p e s m args below meth c s₁ B hml hv
  obtain ⟨rfl, hsz, hP, hK, hN⟩ := hv
  have hx := B.exec
  have hb := B.bytes
  have hr := B.returns
  have hts := atoms_spec (ws := wsX3_sailSpeed) B.pre
  have hown : s.vm.findClass RX3 = some m.cls := findClass_of_methodNamed B.named
  have hlocks := B.notSynchronized
  subst hsz
  generalize hAe : va_A [] s.heap.size = A at ⊢
  have hA : ∀ q : Nat, s.heap.size ≤ q → A q := fun q h => by rw [← hAe]; exact Or.inr h
  have hS : va_S A s.heap s.heap [] := va_S.rf
  have hP : va_P (dC, dI) vwCl (([] : va_W) ++ va_pl L f) s.heap := hP
  have hl := lv_entry ([.ref a, .int a0, .int a1]) (n := 3) (Nat.le_of_ble_eq_true rfl)
  rw [lg_entry_eq]
  generalize (lg_sl ([.ref a, .int a0, .int a1]) ++ List.replicate (3 - (lg_sl ([.ref a, .int a0, .int a1])).length) Slot.unset).toArray = ls at hl ⊢
  have hl : lv_has ls 3 [(0, .ref a), (1, .int a0), (2, .int a1)] := hl
  refine lv_iload_n hx hb dX3_sailSpeed_0 rfl (lv_at hl 1 rfl) ?_
  by_cases t_1 : a0.toInt < 1 ∨ 4 < a0.toInt
  · skip
    refine lv_tableOut (tgt := 56) hx hb dX3_sailSpeed_1 t_1 (by decide) ?_
    refine lv_iconst (v := 0) hx hb dX3_sailSpeed_56 (by decide) ?_
    have hv9 : (0 : Int32).toInt = 0 := by decide
    exact W.iret (v := 0) hx hb hr (fun t ht hW => ⟨⟨0, (), rfl, (fun h => by have h9 : ((0 : Int32)).toInt = 0 := (by decide); unfold sailSp; (repeat' split) <;> omega), trivial⟩, hS.F ht⟩) hS.2.2 dX3_sailSpeed_57
  · skip
    have v_2 : a0 = 1 ∨ a0 = 2 ∨ a0 = 3 ∨ a0 = 4 := by
      simp only [← Int32.toInt_inj, Int32.reduceToInt]
      omega
    clear t_1
    rcases v_2 with h_v_2 | h_v_2 | h_v_2 | h_v_2
    · skip
      have qv_2 : a0.toInt = 1 := by rw [h_v_2]; decide
      refine lv_tableIn (off := 31) (tgt := 32) hx hb dX3_sailSpeed_1 (by omega) (by omega) (by rw [qv_2]; decide) (by decide) ?_
      refine lv_iload_n hx hb dX3_sailSpeed_32 rfl (lv_at hl 2 rfl) ?_
      exact W.iret (v := a1) hx hb hr (fun t ht hW => ⟨⟨a1, (), rfl, (fun h => by unfold sailSp; (repeat' split) <;> omega), trivial⟩, hS.F ht⟩) hS.2.2 dX3_sailSpeed_33
    · skip
      have qv_2 : a0.toInt = 2 := by rw [h_v_2]; decide
      refine lv_tableIn (off := 33) (tgt := 34) hx hb dX3_sailSpeed_1 (by omega) (by omega) (by rw [qv_2]; decide) (by decide) ?_
      refine lv_iconst (v := 2) hx hb dX3_sailSpeed_34 (by decide) ?_
      refine lv_aload_n hx hb dX3_sailSpeed_35 rfl (lv_at hl 0 rfl) ?_
      have hPc : va_P (dC, dI) vwCl (([] : va_W) ++ va_pl L f) s.heap := va_P.part (X := []) hP [] rfl
      have hKc := hK.sub (tys' := []) [] rfl
      obtain ⟨k8_3, hk8_3⟩ : ∃ k : Nat, (([] : va_W) ++ va_pl L f)[k]? = some (a, .inr (4, [.int (v 0), .int (v 1), .int (v 2), .ref oa, .ref ia, .int (v 3), .int (v 4), .int (v 5), .int (v 6), .int (v 7), .int (v 8), .int (v 9), .int (v 10), .int (v 11)])) := pl_at hsh.1 hsh.2
      refine va_calli (va_runV (As := []) (rest := [.int 2]) ⟨hx, hb, hml, hown, hts⟩ (c_X3_moreAcrossTheWind l dC dI s.heap.size L f a oa ia v ⟨hsh.1, hsh.2⟩) (cwV 0 hts gX3_sailSpeed_X3_moreAcrossTheWind rfl rfl rfl (by decide +kernel) ⟨Nat.le_of_ble_eq_true rfl, Nat.le_of_ble_eq_true rfl⟩) ⟨fun a U g mk q => by obtain ⟨q0, q1, qP, qK, qN⟩ := q; exact ⟨q0, q1, qP, va_K.moved (u := U) (U := U.calling g mk a) (Vm.Alike.refl U.vm) qK, NW.same (u := U) (U := U.calling g mk a) rfl qN⟩, va_recv hKc hPc (ci := 4) (q0 := k8_3) rfl hk8_3, fun U hU hW => ⟨rfl, by rw [hU], by rw [hU]; exact hPc, va_K.moved hW.alike hKc, NW.warm hW hN⟩⟩ rfl rfl hl.1 rfl (lv_room (Nat.le_of_ble_eq_true rfl)) dX3_sailSpeed_36 ⟨(Nat.zero_le _), (Nat.zero_le _)⟩) hS (fun q _ h => ro_A hS hA q h) (ro_A hS hA) (fun r_4 u t H1 locs ht hvm k_5 hB hz1 hk1 hS => ?_)
      have hP := ro_P hk1 hP
      generalize H1 = H at hP hS ⊢
      try dsimp only at k_5
      obtain ⟨k_5, k_6⟩ := k_5
      refine lv_iadd hx hb dX3_sailSpeed_39 ?_
      refine lv_topi (fun x_7 ex_7 => ?_)
      have tx_7 : x_7.toInt = 2 + r_4.toInt := ad_k ex_7 (by decide) rfl (by omega) (by omega)
      refine lv_iload_n hx hb dX3_sailSpeed_40 rfl (lv_at hl 2 rfl) ?_
      refine lv_imul hx hb dX3_sailSpeed_41 ?_
      refine lv_topi (fun x_8 ex_8 => ?_)
      exact W.iret (v := x_8) hx hb hr (fun t ht hW => ⟨⟨x_8, (), rfl, (fun h => by have h1 := mul5 ex_8 (by omega) h; have h2 := k_5; unfold sailSp; (repeat' split at h2) <;> (repeat' split at h1) <;> (repeat' split) <;> omega), trivial⟩, hS.F ht⟩) hS.2.2 dX3_sailSpeed_42
    · skip
      have qv_2 : a0.toInt = 3 := by rw [h_v_2]; decide
      refine lv_tableIn (off := 42) (tgt := 43) hx hb dX3_sailSpeed_1 (by omega) (by omega) (by rw [qv_2]; decide) (by decide) ?_
      refine lv_iconst (v := 3) hx hb dX3_sailSpeed_43 (by decide) ?_
      refine lv_aload_n hx hb dX3_sailSpeed_44 rfl (lv_at hl 0 rfl) ?_
      have hPc : va_P (dC, dI) vwCl (([] : va_W) ++ va_pl L f) s.heap := va_P.part (X := []) hP [] rfl
      have hKc := hK.sub (tys' := []) [] rfl
      obtain ⟨k8_9, hk8_9⟩ : ∃ k : Nat, (([] : va_W) ++ va_pl L f)[k]? = some (a, .inr (4, [.int (v 0), .int (v 1), .int (v 2), .ref oa, .ref ia, .int (v 3), .int (v 4), .int (v 5), .int (v 6), .int (v 7), .int (v 8), .int (v 9), .int (v 10), .int (v 11)])) := pl_at hsh.1 hsh.2
      refine va_calli (va_runV (As := []) (rest := [.int 3]) ⟨hx, hb, hml, hown, hts⟩ (c_X3_moreAcrossTheWind l dC dI s.heap.size L f a oa ia v ⟨hsh.1, hsh.2⟩) (cwV 0 hts gX3_sailSpeed_X3_moreAcrossTheWind rfl rfl rfl (by decide +kernel) ⟨Nat.le_of_ble_eq_true rfl, Nat.le_of_ble_eq_true rfl⟩) ⟨fun a U g mk q => by obtain ⟨q0, q1, qP, qK, qN⟩ := q; exact ⟨q0, q1, qP, va_K.moved (u := U) (U := U.calling g mk a) (Vm.Alike.refl U.vm) qK, NW.same (u := U) (U := U.calling g mk a) rfl qN⟩, va_recv hKc hPc (ci := 4) (q0 := k8_9) rfl hk8_9, fun U hU hW => ⟨rfl, by rw [hU], by rw [hU]; exact hPc, va_K.moved hW.alike hKc, NW.warm hW hN⟩⟩ rfl rfl hl.1 rfl (lv_room (Nat.le_of_ble_eq_true rfl)) dX3_sailSpeed_45 ⟨(Nat.zero_le _), (Nat.zero_le _)⟩) hS (fun q _ h => ro_A hS hA q h) (ro_A hS hA) (fun r_10 u t H1 locs ht hvm k_11 hB hz1 hk1 hS => ?_)
      have hP := ro_P hk1 hP
      generalize H1 = H at hP hS ⊢
      try dsimp only at k_11
      obtain ⟨k_11, k_12⟩ := k_11
      refine lv_iadd hx hb dX3_sailSpeed_48 ?_
      refine lv_topi (fun x_13 ex_13 => ?_)
      have tx_13 : x_13.toInt = 3 + r_10.toInt := ad_k ex_13 (by decide) rfl (by omega) (by omega)
      refine lv_iload_n hx hb dX3_sailSpeed_49 rfl (lv_at hl 2 rfl) ?_
      refine lv_imul hx hb dX3_sailSpeed_50 ?_
      refine lv_topi (fun x_14 ex_14 => ?_)
      exact W.iret (v := x_14) hx hb hr (fun t ht hW => ⟨⟨x_14, (), rfl, (fun h => by have h1 := mul5 ex_14 (by omega) h; have h2 := k_11; unfold sailSp; (repeat' split at h2) <;> (repeat' split at h1) <;> (repeat' split) <;> omega), trivial⟩, hS.F ht⟩) hS.2.2 dX3_sailSpeed_51
    · skip
      have qv_2 : a0.toInt = 4 := by rw [h_v_2]; decide
      refine lv_tableIn (off := 51) (tgt := 52) hx hb dX3_sailSpeed_1 (by omega) (by omega) (by rw [qv_2]; decide) (by decide) ?_
      refine lv_iconst (v := 2) hx hb dX3_sailSpeed_52 (by decide) ?_
      refine lv_iload_n hx hb dX3_sailSpeed_53 rfl (lv_at hl 2 rfl) ?_
      refine lv_imul hx hb dX3_sailSpeed_54 ?_
      refine lv_topi (fun x_15 ex_15 => ?_)
      exact W.iret (v := x_15) hx hb hr (fun t ht hW => ⟨⟨x_15, (), rfl, (fun h => by have h1 : x_15.toInt = 2 * a1.toInt := mu_k ex_15 (by decide) rfl (by omega) (by omega); unfold sailSp; (repeat' split) <;> omega), trivial⟩, hS.F ht⟩) hS.2.2 dX3_sailSpeed_55
set_option maxRecDepth 20000 in
theorem iw_X3_speedIn_X3 : ∀ w ∈ wsX30, w ∈ wsX3_speedIn := fun w h => (List.mem_cons_of_mem _ (List.mem_append_right _ h))
set_option maxHeartbeats 4000000 in
set_option maxRecDepth 100000 in
/-- Ship.speedIn -/
theorem c_X3_speedIn (l : Launch) (dC : Nat → ClassId) (dI : Nat → Nat → Nat) (sz : Nat) (L : List Nat) (f : Nat → va_E) (a : Nat) (oa : Nat) (ia : Nat) (v : Nat → Int32) (a0 : Int32) (a1 : Int32) (hsh : a ∈ L ∧ f a = .inr (4, [.int (v 0), .int (v 1), .int (v 2), .ref oa, .ref ia, .int (v 3), .int (v 4), .int (v 5), .int (v 6), .int (v 7), .int (v 8), .int (v 9), .int (v 10), .int (v 11)])) : Met l yX3_speedIn wsX3_speedIn ({ frames := 2, cells := 0, slots := 0, locals := 43 }) (va_Pc [.ref a, .int a0, .int a1] (fun U => U.heap.size = sz ∧ va_P (dC, dI) vwCl (([] : va_W) ++ va_pl L f) U.heap ∧ va_K (dC, dI) vwCl [] U ∧ NW U)) (va_Qi (fun (r : Int32) (_ : Unit) => ((0 ≤ a0.toInt ∧ a0.toInt ≤ 7) ∧ (0 ≤ a1.toInt ∧ a1.toInt ≤ 79) ∧ (0 ≤ (v 6).toInt ∧ (v 6).toInt ≤ 9) → r.toInt = spd (v 1).toInt (v 6).toInt a0.toInt (a1.toInt / 10) (a1.toInt % 10))) (fun _ _ => True) (va_A [] sz)) 0 0 (va_A [] sz) := by
  refine Met.ofW (cc := cX3_speedIn) (maxL := 4) (ret := (some .int)) (by decide) rfl ?_
  intro p e s m args below meth c s₁ B hml hv
  obtain ⟨rfl, hsz, hP, hK, hN⟩ := hv
  have hx := B.exec
  have hb := B.bytes
  have hr := B.returns
  have hts := atoms_spec (ws := wsX3_speedIn) B.pre
  have hown : s.vm.findClass RX3 = some m.cls := findClass_of_methodNamed B.named
  have hlocks := B.notSynchronized
  subst hsz
  generalize hAe : va_A [] s.heap.size = A at ⊢
  have hA : ∀ q : Nat, s.heap.size ≤ q → A q := fun q h => by rw [← hAe]; exact Or.inr h
  have hS : va_S A s.heap s.heap [] := va_S.rf
  have hP : va_P (dC, dI) vwCl (([] : va_W) ++ va_pl L f) s.heap := hP
  have hl := lv_entry ([.ref a, .int a0, .int a1]) (n := 4) (Nat.le_of_ble_eq_true rfl)
  rw [lg_entry_eq]
  generalize (lg_sl ([.ref a, .int a0, .int a1]) ++ List.replicate (4 - (lg_sl ([.ref a, .int a0, .int a1])).length) Slot.unset).toArray = ls at hl ⊢
  have hl : lv_has ls 4 [(0, .ref a), (1, .int a0), (2, .int a1)] := hl
  refine lv_aload_n hx hb dX3_speedIn_0 rfl (lv_at hl 0 rfl) ?_
  obtain ⟨k9_1, hk9_1⟩ : ∃ k : Nat, (([] : va_W) ++ va_pl L f)[k]? = some (a, .inr (4, [.int (v 0), .int (v 1), .int (v 2), .ref oa, .ref ia, .int (v 3), .int (v 4), .int (v 5), .int (v 6), .int (v 7), .int (v 8), .int (v 9), .int (v 10), .int (v 11)])) := pl_at hsh.1 hsh.2
  refine va_get (D := (dC, dI)) (ci := 4) (v := .int (v 1)) (C := RX3) (T := TX3) (N := 14) hx hb hts iw_X3_speedIn_X3 hown hK hP k9_1 hk9_1 rfl 1 (by decide) (hts (.fieldLink RX3 49 "TeaRace$Ship" "kind" "I") (by decide +kernel)) (fun _ h9 => h9) rfl dX3_speedIn_1 ?_
  refine lv_iconst (v := 2) hx hb dX3_speedIn_4 (by decide) ?_
  refine lv_icmp_ne (tgt := 13) hx hb dX3_speedIn_5 (by decide) (fun c_2 => ?_) (fun c_2 => ?_)
  · skip
    have qc_2 : (v 1).toInt ≠ 2 := ne_k rfl (by decide) c_2
    refine lv_aload_n hx hb dX3_speedIn_13 rfl (lv_at hl 0 rfl) ?_
    refine lv_iload_n hx hb dX3_speedIn_14 rfl (lv_at hl 1 rfl) ?_
    refine lv_iload_n hx hb dX3_speedIn_15 rfl (lv_at hl 2 rfl) ?_
    refine lv_bipush (v := 10) hx hb dX3_speedIn_16 (by decide) ?_
    refine lv_idiv hx hb dX3_speedIn_18 (by decide) ?_
    refine lv_topi (fun x_3 ex_3 => ?_)
    have tx_3 := fb_rng x_3
    refine va_calli (va_runSN (As := [.int a0, .int x_3]) (rest := [.ref a]) ⟨hx, hb, hml, hown, hts⟩ (c_X5_eighthsBetween l s.heap.size a0 x_3 ) ⟨va_cnB 2 hts gX3_speedIn_X5_eighthsBetween_n58 rfl rfl rfl hN.nX3_58 (hts (.initialized RX5) (by decide +kernel)) (by decide +kernel) ⟨Nat.le_of_ble_eq_true rfl, Nat.le_of_ble_eq_true rfl⟩, hts (.static yX5_eighthsBetween) (by decide +kernel), trivial⟩ ⟨fun a U g mk q => by obtain ⟨q0, q1⟩ := q; exact ⟨q0, q1⟩, fun U hU hW => ⟨rfl, congrArg Array.size hU⟩⟩ rfl rfl hl.1 rfl (lv_room (Nat.le_of_ble_eq_true rfl)) dX3_speedIn_19 ⟨(Nat.zero_le _), (Nat.zero_le _)⟩) hS (fun q _ h => ro_A hS hA q h) (ro_A hS hA) (fun r_4 u t H1 locs ht hvm k_5 hB hz1 hk1 hS => ?_)
    have hP := ro_P hk1 hP
    generalize H1 = H at hP hS ⊢
    try dsimp only at k_5
    refine lv_iload_n hx hb dX3_speedIn_22 rfl (lv_at hl 2 rfl) ?_
    refine va_calli (va_runSN (As := [.int a1]) (rest := [.int r_4, .ref a]) ⟨hx, hb, hml, hown, hts⟩ (c_X5_strengthOf l H.size a1 ) ⟨va_cnB 1 hts gX3_speedIn_X5_strengthOf_n62 rfl rfl rfl hN.nX3_62 (hts (.initialized RX5) (by decide +kernel)) (by decide +kernel) ⟨Nat.le_of_ble_eq_true rfl, Nat.le_of_ble_eq_true rfl⟩, hts (.static yX5_strengthOf) (by decide +kernel), trivial⟩ ⟨fun a U g mk q => by obtain ⟨q0, q1⟩ := q; exact ⟨q0, q1⟩, fun U hU hW => ⟨rfl, congrArg Array.size hU⟩⟩ rfl rfl hl.1 rfl (lv_room (Nat.le_of_ble_eq_true rfl)) dX3_speedIn_23 ⟨(Nat.zero_le _), (Nat.zero_le _)⟩) hS (fun q _ h => ro_A hS hA q h) (ro_A hS hA) (fun r_6 u t H1 locs ht hvm k_7 hB hz1 hk1 hS => ?_)
    have hP := ro_P hk1 hP
    generalize H1 = H at hP hS ⊢
    try dsimp only at k_7
    obtain ⟨k_7, k_8⟩ := k_7
    have hPc : va_P (dC, dI) vwCl (([] : va_W) ++ va_pl L f) H := va_P.part (X := []) hP [] rfl
    have hKc := hK.sub (tys' := []) [] rfl
    obtain ⟨k8_9, hk8_9⟩ : ∃ k : Nat, (([] : va_W) ++ va_pl L f)[k]? = some (a, .inr (4, [.int (v 0), .int (v 1), .int (v 2), .ref oa, .ref ia, .int (v 3), .int (v 4), .int (v 5), .int (v 6), .int (v 7), .int (v 8), .int (v 9), .int (v 10), .int (v 11)])) := pl_at hsh.1 hsh.2
    refine va_calli (va_runV (As := [.int r_4, .int r_6]) (rest := []) ⟨hx, hb, hml, hown, hts⟩ (c_X3_sailSpeed l dC dI H.size L f a oa ia v r_4 r_6 ⟨hsh.1, hsh.2⟩) (cwV 2 hts gX3_speedIn_X3_sailSpeed rfl rfl rfl (by decide +kernel) ⟨Nat.le_of_ble_eq_true rfl, Nat.le_of_ble_eq_true rfl⟩) ⟨fun a U g mk q => by obtain ⟨q0, q1, qP, qK, qN⟩ := q; exact ⟨q0, q1, qP, va_K.moved (u := U) (U := U.calling g mk a) (Vm.Alike.refl U.vm) qK, NW.same (u := U) (U := U.calling g mk a) rfl qN⟩, va_recv hKc hPc (ci := 4) (q0 := k8_9) rfl hk8_9, fun U hU hW => ⟨rfl, by rw [hU], by rw [hU]; exact hPc, va_K.moved hW.alike hKc, NW.warm hW hN⟩⟩ rfl rfl hl.1 rfl (lv_room (Nat.le_of_ble_eq_true rfl)) dX3_speedIn_26 ⟨(Nat.zero_le _), (Nat.zero_le _)⟩) hS (fun q _ h => ro_A hS hA q h) (ro_A hS hA) (fun r_10 u t H1 locs ht hvm k_11 hB hz1 hk1 hS => ?_)
    have hP := ro_P hk1 hP
    generalize H1 = H at hP hS ⊢
    try dsimp only at k_11
    refine lv_istore_n (lv' := [(3, .int r_10), (0, .ref a), (1, .int a0), (2, .int a1)]) hx hb dX3_speedIn_29 rfl hl (by decide) rfl (fun ls hl => ?_)
    refine lv_iconst (v := 0) hx hb dX3_speedIn_30 (by decide) ?_
    refine lv_iload_n hx hb dX3_speedIn_31 rfl (lv_at hl 0 rfl) ?_
    refine lv_aload_n hx hb dX3_speedIn_32 rfl (lv_at hl 1 rfl) ?_
    obtain ⟨k9_12, hk9_12⟩ : ∃ k : Nat, (([] : va_W) ++ va_pl L f)[k]? = some (a, .inr (4, [.int (v 0), .int (v 1), .int (v 2), .ref oa, .ref ia, .int (v 3), .int (v 4), .int (v 5), .int (v 6), .int (v 7), .int (v 8), .int (v 9), .int (v 10), .int (v 11)])) := pl_at hsh.1 hsh.2
    refine va_get (D := (dC, dI)) (ci := 4) (v := .int (v 6)) (C := RX3) (T := TX3) (N := 14) hx hb hts iw_X3_speedIn_X3 hown hK hP k9_12 hk9_12 rfl 8 (by decide) (hts (.fieldLink RX3 28 "TeaRace$Ship" "foulness" "I") (by decide +kernel)) (fun _ h9 => h9) rfl dX3_speedIn_33 ?_
    refine lv_isub hx hb dX3_speedIn_36 ?_
    refine lv_topi (fun x_13 ex_13 => ?_)
    refine va_mmax hx hb (hml.trans hl.1.symm) hown (hts (.methodLink RX3 69 Lib.Math.max.name) (by decide +kernel)) (hts (.static Lib.Math.max.name) (by decide +kernel)) (hts (.initialized "java/lang/Math") (by decide +kernel)) (hts (.code Lib.Math.max.name Lib.Math.max.code 2 (some .int)) (by decide +kernel)) (Nat.le_of_ble_eq_true rfl) (Nat.le_of_ble_eq_true rfl) (Nat.le_of_ble_eq_true rfl) (Nat.le_of_ble_eq_true rfl) dX3_speedIn_37 ?_
    refine lv_topi (fun x_14 ex_14 => ?_)
    exact W.iret (v := x_14) hx hb hr (fun t ht hW => ⟨⟨x_14, (), rfl, (fun h => by have g1 : x_3.toInt = a1.toInt / 10 := dv_k ex_3 rfl (by decide) (by omega) (by omega); have g2 := k_5 ⟨h.1, by omega⟩; have g3 : r_6.toInt = a1.toInt % 10 := rm_k k_7 rfl (by decide) (by omega) (by omega); have g4 := k_11 (by omega); have g5 := eig_rng (a := a0.toInt) (b := x_3.toInt) h.1 (by omega); have h3 : x_13.toInt = r_10.toInt - (v 6).toInt := su_k ex_13 rfl rfl (by rw [g4]; unfold sailSp; (repeat' split) <;> omega) (by rw [g4]; unfold sailSp; (repeat' split) <;> omega); have h4 := ma_k ex_14; rewrite [g2, g3, g1] at g4; rewrite [g4] at h3; unfold spd; (try simp only [Int32.reduceToInt] at h4); (repeat' split at h4) <;> (repeat' split) <;> omega), trivial⟩, hS.F ht⟩) hS.2.2 dX3_speedIn_40
  · skip
    have qc_2 : (v 1).toInt = 2 := eq_k rfl (by decide) c_2
    refine lv_bipush (v := 8) hx hb dX3_speedIn_8 (by decide) ?_
    refine lv_goto (tgt := 29) hx hb dX3_speedIn_10 (by decide) ?_
    refine lv_istore_n (lv' := [(3, .int 8), (0, .ref a), (1, .int a0), (2, .int a1)]) hx hb dX3_speedIn_29 rfl hl (by decide) rfl (fun ls hl => ?_)
    refine lv_iconst (v := 0) hx hb dX3_speedIn_30 (by decide) ?_
    refine lv_iload_n hx hb dX3_speedIn_31 rfl (lv_at hl 0 rfl) ?_
    refine lv_aload_n hx hb dX3_speedIn_32 rfl (lv_at hl 1 rfl) ?_
    obtain ⟨k9_15, hk9_15⟩ : ∃ k : Nat, (([] : va_W) ++ va_pl L f)[k]? = some (a, .inr (4, [.int (v 0), .int (v 1), .int (v 2), .ref oa, .ref ia, .int (v 3), .int (v 4), .int (v 5), .int (v 6), .int (v 7), .int (v 8), .int (v 9), .int (v 10), .int (v 11)])) := pl_at hsh.1 hsh.2
    refine va_get (D := (dC, dI)) (ci := 4) (v := .int (v 6)) (C := RX3) (T := TX3) (N := 14) hx hb hts iw_X3_speedIn_X3 hown hK hP k9_15 hk9_15 rfl 8 (by decide) (hts (.fieldLink RX3 28 "TeaRace$Ship" "foulness" "I") (by decide +kernel)) (fun _ h9 => h9) rfl dX3_speedIn_33 ?_
    refine lv_isub hx hb dX3_speedIn_36 ?_
    refine lv_topi (fun x_16 ex_16 => ?_)
    refine va_mmax hx hb (hml.trans hl.1.symm) hown (hts (.methodLink RX3 69 Lib.Math.max.name) (by decide +kernel)) (hts (.static Lib.Math.max.name) (by decide +kernel)) (hts (.initialized "java/lang/Math") (by decide +kernel)) (hts (.code Lib.Math.max.name Lib.Math.max.code 2 (some .int)) (by decide +kernel)) (Nat.le_of_ble_eq_true rfl) (Nat.le_of_ble_eq_true rfl) (Nat.le_of_ble_eq_true rfl) (Nat.le_of_ble_eq_true rfl) dX3_speedIn_37 ?_
    refine lv_topi (fun x_17 ex_17 => ?_)
    exact W.iret (v := x_17) hx hb hr (fun t ht hW => ⟨⟨x_17, (), rfl, (fun h => by have h3 : x_16.toInt = 8 - (v 6).toInt := su_k ex_16 (by decide) rfl (by omega) (by omega); have h4 := ma_k ex_17; unfold spd; (try simp only [Int32.reduceToInt] at h4); (repeat' split at h4) <;> (repeat' split) <;> omega), trivial⟩, hS.F ht⟩) hS.2.2 dX3_speedIn_40
set_option maxRecDepth 20000 in
theorem iw_X3_beats_X3 : ∀ w ∈ wsX30, w ∈ wsX3_beats := fun w h => (List.mem_cons_of_mem _ (List.mem_append_right _ h))
set_option maxHeartbeats 4000000 in
set_option maxRecDepth 100000 in
/-- Ship.beats -/
theorem c_X3_beats (l : Launch) (dC : Nat → ClassId) (dI : Nat → Nat → Nat) (sz : Nat) (L : List Nat) (f : Nat → va_E) (a : Nat) (oa : Nat) (ia : Nat) (v : Nat → Int32) (b : Nat) (oa2 : Nat) (ia2 : Nat) (v2 : Nat → Int32) (hsh : a ∈ L ∧ f a = .inr (4, [.int (v 0), .int (v 1), .int (v 2), .ref oa, .ref ia, .int (v 3), .int (v 4), .int (v 5), .int (v 6), .int (v 7), .int (v 8), .int (v 9), .int (v 10), .int (v 11)])) (hsh2 : b ∈ L ∧ f b = .inr (4, [.int (v2 0), .int (v2 1), .int (v2 2), .ref oa2, .ref ia2, .int (v2 3), .int (v2 4), .int (v2 5), .int (v2 6), .int (v2 7), .int (v2 8), .int (v2 9), .int (v2 10), .int (v2 11)])) : Met l yX3_beats wsX3_beats ({ frames := 0, cells := 0, slots := 0, locals := 0 }) (va_Pc [.ref a, .ref b] (fun U => U.heap.size = sz ∧ va_P (dC, dI) vwCl (([] : va_W) ++ va_pl L f) U.heap ∧ va_K (dC, dI) vwCl [] U ∧ NW U)) (va_Qi (fun (r : Int32) (_ : Unit) => (r.toInt = 1 → ((v 9).toInt < (v2 9).toInt ∨ ((v 9).toInt = (v2 9).toInt ∧ ((v 8).toInt < (v2 8).toInt ∨ ((v 8).toInt = (v2 8).toInt ∧ (v 0).toInt < (v2 0).toInt))))) ∧ (r.toInt = 0 → ¬ ((v 9).toInt < (v2 9).toInt ∨ ((v 9).toInt = (v2 9).toInt ∧ ((v 8).toInt < (v2 8).toInt ∨ ((v 8).toInt = (v2 8).toInt ∧ (v 0).toInt < (v2 0).toInt))))) ∧ (0 ≤ r.toInt ∧ r.toInt ≤ 1)) (fun _ _ => True) (va_A [] sz)) 0 0 (va_A [] sz) := by
  refine Met.ofW (cc := cX3_beats) (maxL := 2) (ret := (some .boolean)) (by decide) rfl ?_
  intro p e s m args below meth c s₁ B hml hv
  obtain ⟨rfl, hsz, hP, hK, hN⟩ := hv
  have hx := B.exec
  have hb := B.bytes
  have hr := B.returns
  have hts := atoms_spec (ws := wsX3_beats) B.pre
  have hown : s.vm.findClass RX3 = some m.cls := findClass_of_methodNamed B.named
  have hlocks := B.notSynchronized
  subst hsz
  generalize hAe : va_A [] s.heap.size = A at ⊢
  have hA : ∀ q : Nat, s.heap.size ≤ q → A q := fun q h => by rw [← hAe]; exact Or.inr h
  have hS : va_S A s.heap s.heap [] := va_S.rf
  have hP : va_P (dC, dI) vwCl (([] : va_W) ++ va_pl L f) s.heap := hP
  have hl := lv_entry ([.ref a, .ref b]) (n := 2) (Nat.le_of_ble_eq_true rfl)
  rw [lg_entry_eq]
  generalize (lg_sl ([.ref a, .ref b]) ++ List.replicate (2 - (lg_sl ([.ref a, .ref b])).length) Slot.unset).toArray = ls at hl ⊢
  have hl : lv_has ls 2 [(0, .ref a), (1, .ref b)] := hl
  refine lv_aload_n hx hb dX3_beats_0 rfl (lv_at hl 0 rfl) ?_
  obtain ⟨k9_1, hk9_1⟩ : ∃ k : Nat, (([] : va_W) ++ va_pl L f)[k]? = some (a, .inr (4, [.int (v 0), .int (v 1), .int (v 2), .ref oa, .ref ia, .int (v 3), .int (v 4), .int (v 5), .int (v 6), .int (v 7), .int (v 8), .int (v 9), .int (v 10), .int (v 11)])) := pl_at hsh.1 hsh.2
  refine va_get (D := (dC, dI)) (ci := 4) (v := .int (v 9)) (C := RX3) (T := TX3) (N := 14) hx hb hts iw_X3_beats_X3 hown hK hP k9_1 hk9_1 rfl 11 (by decide) (hts (.fieldLink RX3 37 "TeaRace$Ship" "entry" "I") (by decide +kernel)) (fun _ h9 => h9) rfl dX3_beats_1 ?_
  refine lv_aload_n hx hb dX3_beats_4 rfl (lv_at hl 1 rfl) ?_
  obtain ⟨k9_2, hk9_2⟩ : ∃ k : Nat, (([] : va_W) ++ va_pl L f)[k]? = some (b, .inr (4, [.int (v2 0), .int (v2 1), .int (v2 2), .ref oa2, .ref ia2, .int (v2 3), .int (v2 4), .int (v2 5), .int (v2 6), .int (v2 7), .int (v2 8), .int (v2 9), .int (v2 10), .int (v2 11)])) := pl_at hsh2.1 hsh2.2
  refine va_get (D := (dC, dI)) (ci := 4) (v := .int (v2 9)) (C := RX3) (T := TX3) (N := 14) hx hb hts iw_X3_beats_X3 hown hK hP k9_2 hk9_2 rfl 11 (by decide) (hts (.fieldLink RX3 37 "TeaRace$Ship" "entry" "I") (by decide +kernel)) (fun _ h9 => h9) rfl dX3_beats_5 ?_
  refine lv_icmp_eq (tgt := 28) hx hb dX3_beats_8 (by decide) (fun c_3 => ?_) (fun c_3 => ?_)
  · skip
    have qc_3 : (v 9).toInt = (v2 9).toInt := eq_k rfl rfl c_3
    refine lv_aload_n hx hb dX3_beats_28 rfl (lv_at hl 0 rfl) ?_
    obtain ⟨k9_4, hk9_4⟩ : ∃ k : Nat, (([] : va_W) ++ va_pl L f)[k]? = some (a, .inr (4, [.int (v 0), .int (v 1), .int (v 2), .ref oa, .ref ia, .int (v 3), .int (v 4), .int (v 5), .int (v 6), .int (v 7), .int (v 8), .int (v 9), .int (v 10), .int (v 11)])) := pl_at hsh.1 hsh.2
    refine va_get (D := (dC, dI)) (ci := 4) (v := .int (v 8)) (C := RX3) (T := TX3) (N := 14) hx hb hts iw_X3_beats_X3 hown hK hP k9_4 hk9_4 rfl 10 (by decide) (hts (.fieldLink RX3 34 "TeaRace$Ship" "homeHour" "I") (by decide +kernel)) (fun _ h9 => h9) rfl dX3_beats_29 ?_
    refine lv_aload_n hx hb dX3_beats_32 rfl (lv_at hl 1 rfl) ?_
    obtain ⟨k9_5, hk9_5⟩ : ∃ k : Nat, (([] : va_W) ++ va_pl L f)[k]? = some (b, .inr (4, [.int (v2 0), .int (v2 1), .int (v2 2), .ref oa2, .ref ia2, .int (v2 3), .int (v2 4), .int (v2 5), .int (v2 6), .int (v2 7), .int (v2 8), .int (v2 9), .int (v2 10), .int (v2 11)])) := pl_at hsh2.1 hsh2.2
    refine va_get (D := (dC, dI)) (ci := 4) (v := .int (v2 8)) (C := RX3) (T := TX3) (N := 14) hx hb hts iw_X3_beats_X3 hown hK hP k9_5 hk9_5 rfl 10 (by decide) (hts (.fieldLink RX3 34 "TeaRace$Ship" "homeHour" "I") (by decide +kernel)) (fun _ h9 => h9) rfl dX3_beats_33 ?_
    refine lv_icmp_eq (tgt := 56) hx hb dX3_beats_36 (by decide) (fun c_6 => ?_) (fun c_6 => ?_)
    · skip
      have qc_6 : (v 8).toInt = (v2 8).toInt := eq_k rfl rfl c_6
      refine lv_aload_n hx hb dX3_beats_56 rfl (lv_at hl 0 rfl) ?_
      obtain ⟨k9_7, hk9_7⟩ : ∃ k : Nat, (([] : va_W) ++ va_pl L f)[k]? = some (a, .inr (4, [.int (v 0), .int (v 1), .int (v 2), .ref oa, .ref ia, .int (v 3), .int (v 4), .int (v 5), .int (v 6), .int (v 7), .int (v 8), .int (v 9), .int (v 10), .int (v 11)])) := pl_at hsh.1 hsh.2
      refine va_get (D := (dC, dI)) (ci := 4) (v := .int (v 0)) (C := RX3) (T := TX3) (N := 14) hx hb hts iw_X3_beats_X3 hown hK hP k9_7 hk9_7 rfl 0 (by decide) (hts (.fieldLink RX3 46 "TeaRace$Ship" "number" "I") (by decide +kernel)) (fun _ h9 => h9) rfl dX3_beats_57 ?_
      refine lv_aload_n hx hb dX3_beats_60 rfl (lv_at hl 1 rfl) ?_
      obtain ⟨k9_8, hk9_8⟩ : ∃ k : Nat, (([] : va_W) ++ va_pl L f)[k]? = some (b, .inr (4, [.int (v2 0), .int (v2 1), .int (v2 2), .ref oa2, .ref ia2, .int (v2 3), .int (v2 4), .int (v2 5), .int (v2 6), .int (v2 7), .int (v2 8), .int (v2 9), .int (v2 10), .int (v2 11)])) := pl_at hsh2.1 hsh2.2
      refine va_get (D := (dC, dI)) (ci := 4) (v := .int (v2 0)) (C := RX3) (T := TX3) (N := 14) hx hb hts iw_X3_beats_X3 hown hK hP k9_8 hk9_8 rfl 0 (by decide) (hts (.fieldLink RX3 46 "TeaRace$Ship" "number" "I") (by decide +kernel)) (fun _ h9 => h9) rfl dX3_beats_61 ?_
      refine lv_icmp_ge (tgt := 71) hx hb dX3_beats_64 (by decide) (fun c_9 => ?_) (fun c_9 => ?_)
      · skip
        have qc_9 : (v2 0).toInt ≤ (v 0).toInt := le_k rfl rfl c_9
        refine lv_iconst (v := 0) hx hb dX3_beats_71 (by decide) ?_
        have hv9 : (0 : Int32).toInt = 0 := by decide
        exact W.zret (v := 0) hx hb hr rfl (fun t ht hW => ⟨⟨0, (), rfl, ⟨(fun h => by (try simp only [Int32.reduceToInt] at h); omega), (fun h => by (try simp only [Int32.reduceToInt] at h); omega), (by decide)⟩, trivial⟩, hS.F ht⟩) hS.2.2 dX3_beats_72
      · skip
        have qc_9 : (v 0).toInt < (v2 0).toInt := nle_k rfl rfl c_9
        refine lv_iconst (v := 1) hx hb dX3_beats_67 (by decide) ?_
        refine lv_goto (tgt := 72) hx hb dX3_beats_68 (by decide) ?_
        have hv9 : (1 : Int32).toInt = 1 := by decide
        exact W.zret (v := 1) hx hb hr rfl (fun t ht hW => ⟨⟨1, (), rfl, ⟨(fun h => by (try simp only [Int32.reduceToInt] at h); omega), (fun h => by (try simp only [Int32.reduceToInt] at h); omega), (by decide)⟩, trivial⟩, hS.F ht⟩) hS.2.2 dX3_beats_72
    · skip
      have qc_6 : (v 8).toInt ≠ (v2 8).toInt := ne_k rfl rfl c_6
      refine lv_aload_n hx hb dX3_beats_39 rfl (lv_at hl 0 rfl) ?_
      obtain ⟨k9_10, hk9_10⟩ : ∃ k : Nat, (([] : va_W) ++ va_pl L f)[k]? = some (a, .inr (4, [.int (v 0), .int (v 1), .int (v 2), .ref oa, .ref ia, .int (v 3), .int (v 4), .int (v 5), .int (v 6), .int (v 7), .int (v 8), .int (v 9), .int (v 10), .int (v 11)])) := pl_at hsh.1 hsh.2
      refine va_get (D := (dC, dI)) (ci := 4) (v := .int (v 8)) (C := RX3) (T := TX3) (N := 14) hx hb hts iw_X3_beats_X3 hown hK hP k9_10 hk9_10 rfl 10 (by decide) (hts (.fieldLink RX3 34 "TeaRace$Ship" "homeHour" "I") (by decide +kernel)) (fun _ h9 => h9) rfl dX3_beats_40 ?_
      refine lv_aload_n hx hb dX3_beats_43 rfl (lv_at hl 1 rfl) ?_
      obtain ⟨k9_11, hk9_11⟩ : ∃ k : Nat, (([] : va_W) ++ va_pl L f)[k]? = some (b, .inr (4, [.int (v2 0), .int (v2 1), .int (v2 2), .ref oa2, .ref ia2, .int (v2 3), .int (v2 4), .int (v2 5), .int (v2 6), .int (v2 7), .int (v2 8), .int (v2 9), .int (v2 10), .int (v2 11)])) := pl_at hsh2.1 hsh2.2
      refine va_get (D := (dC, dI)) (ci := 4) (v := .int (v2 8)) (C := RX3) (T := TX3) (N := 14) hx hb hts iw_X3_beats_X3 hown hK hP k9_11 hk9_11 rfl 10 (by decide) (hts (.fieldLink RX3 34 "TeaRace$Ship" "homeHour" "I") (by decide +kernel)) (fun _ h9 => h9) rfl dX3_beats_44 ?_
      refine lv_icmp_ge (tgt := 54) hx hb dX3_beats_47 (by decide) (fun c_12 => ?_) (fun c_12 => ?_)
      · skip
        have qc_12 : (v2 8).toInt ≤ (v 8).toInt := le_k rfl rfl c_12
        refine lv_iconst (v := 0) hx hb dX3_beats_54 (by decide) ?_
        have hv9 : (0 : Int32).toInt = 0 := by decide
        exact W.zret (v := 0) hx hb hr rfl (fun t ht hW => ⟨⟨0, (), rfl, ⟨(fun h => by (try simp only [Int32.reduceToInt] at h); omega), (fun h => by (try simp only [Int32.reduceToInt] at h); omega), (by decide)⟩, trivial⟩, hS.F ht⟩) hS.2.2 dX3_beats_55
      · skip
        have qc_12 : (v 8).toInt < (v2 8).toInt := nle_k rfl rfl c_12
        refine lv_iconst (v := 1) hx hb dX3_beats_50 (by decide) ?_
        refine lv_goto (tgt := 55) hx hb dX3_beats_51 (by decide) ?_
        have hv9 : (1 : Int32).toInt = 1 := by decide
        exact W.zret (v := 1) hx hb hr rfl (fun t ht hW => ⟨⟨1, (), rfl, ⟨(fun h => by (try simp only [Int32.reduceToInt] at h); omega), (fun h => by (try simp only [Int32.reduceToInt] at h); omega), (by decide)⟩, trivial⟩, hS.F ht⟩) hS.2.2 dX3_beats_55
  · skip
    have qc_3 : (v 9).toInt ≠ (v2 9).toInt := ne_k rfl rfl c_3
    refine lv_aload_n hx hb dX3_beats_11 rfl (lv_at hl 0 rfl) ?_
    obtain ⟨k9_13, hk9_13⟩ : ∃ k : Nat, (([] : va_W) ++ va_pl L f)[k]? = some (a, .inr (4, [.int (v 0), .int (v 1), .int (v 2), .ref oa, .ref ia, .int (v 3), .int (v 4), .int (v 5), .int (v 6), .int (v 7), .int (v 8), .int (v 9), .int (v 10), .int (v 11)])) := pl_at hsh.1 hsh.2
    refine va_get (D := (dC, dI)) (ci := 4) (v := .int (v 9)) (C := RX3) (T := TX3) (N := 14) hx hb hts iw_X3_beats_X3 hown hK hP k9_13 hk9_13 rfl 11 (by decide) (hts (.fieldLink RX3 37 "TeaRace$Ship" "entry" "I") (by decide +kernel)) (fun _ h9 => h9) rfl dX3_beats_12 ?_
    refine lv_aload_n hx hb dX3_beats_15 rfl (lv_at hl 1 rfl) ?_
    obtain ⟨k9_14, hk9_14⟩ : ∃ k : Nat, (([] : va_W) ++ va_pl L f)[k]? = some (b, .inr (4, [.int (v2 0), .int (v2 1), .int (v2 2), .ref oa2, .ref ia2, .int (v2 3), .int (v2 4), .int (v2 5), .int (v2 6), .int (v2 7), .int (v2 8), .int (v2 9), .int (v2 10), .int (v2 11)])) := pl_at hsh2.1 hsh2.2
    refine va_get (D := (dC, dI)) (ci := 4) (v := .int (v2 9)) (C := RX3) (T := TX3) (N := 14) hx hb hts iw_X3_beats_X3 hown hK hP k9_14 hk9_14 rfl 11 (by decide) (hts (.fieldLink RX3 37 "TeaRace$Ship" "entry" "I") (by decide +kernel)) (fun _ h9 => h9) rfl dX3_beats_16 ?_
    refine lv_icmp_ge (tgt := 26) hx hb dX3_beats_19 (by decide) (fun c_15 => ?_) (fun c_15 => ?_)
    · skip
      have qc_15 : (v2 9).toInt ≤ (v 9).toInt := le_k rfl rfl c_15
      refine lv_iconst (v := 0) hx hb dX3_beats_26 (by decide) ?_
      have hv9 : (0 : Int32).toInt = 0 := by decide
      exact W.zret (v := 0) hx hb hr rfl (fun t ht hW => ⟨⟨0, (), rfl, ⟨(fun h => by (try simp only [Int32.reduceToInt] at h); omega), (fun h => by (try simp only [Int32.reduceToInt] at h); omega), (by decide)⟩, trivial⟩, hS.F ht⟩) hS.2.2 dX3_beats_27
    · skip
      have qc_15 : (v 9).toInt < (v2 9).toInt := nle_k rfl rfl c_15
      refine lv_iconst (v := 1) hx hb dX3_beats_22 (by decide) ?_
      refine lv_goto (tgt := 27) hx hb dX3_beats_23 (by decide) ?_
      have hv9 : (1 : Int32).toInt = 1 := by decide
      exact W.zret (v := 1) hx hb hr rfl (fun t ht hW => ⟨⟨1, (), rfl, ⟨(fun h => by (try simp only [Int32.reduceToInt] at h); omega), (fun h => by (try simp only [Int32.reduceToInt] at h); omega), (by decide)⟩, trivial⟩, hS.F ht⟩) hS.2.2 dX3_beats_27
set_option maxRecDepth 20000 in
theorem iw_X3_entersBefore_X3 : ∀ w ∈ wsX30, w ∈ wsX3_entersBefore := fun w h => (List.mem_cons_of_mem _ (List.mem_append_right _ h))
set_option maxHeartbeats 4000000 in
set_option maxRecDepth 100000 in
/-- Ship.entersBefore -/
theorem c_X3_entersBefore (l : Launch) (dC : Nat → ClassId) (dI : Nat → Nat → Nat) (sz : Nat) (L : List Nat) (f : Nat → va_E) (a : Nat) (oa : Nat) (ia : Nat) (v : Nat → Int32) (b : Nat) (oa2 : Nat) (ia2 : Nat) (v2 : Nat → Int32) (hsh : a ∈ L ∧ f a = .inr (4, [.int (v 0), .int (v 1), .int (v 2), .ref oa, .ref ia, .int (v 3), .int (v 4), .int (v 5), .int (v 6), .int (v 7), .int (v 8), .int (v 9), .int (v 10), .int (v 11)])) (hsh2 : b ∈ L ∧ f b = .inr (4, [.int (v2 0), .int (v2 1), .int (v2 2), .ref oa2, .ref ia2, .int (v2 3), .int (v2 4), .int (v2 5), .int (v2 6), .int (v2 7), .int (v2 8), .int (v2 9), .int (v2 10), .int (v2 11)])) : Met l yX3_entersBefore wsX3_entersBefore ({ frames := 0, cells := 0, slots := 0, locals := 0 }) (va_Pc [.ref a, .ref b] (fun U => U.heap.size = sz ∧ va_P (dC, dI) vwCl (([] : va_W) ++ va_pl L f) U.heap ∧ va_K (dC, dI) vwCl [] U ∧ NW U)) (va_Qi (fun (r : Int32) (_ : Unit) => (r.toInt = 1 → ((v 9).toInt < (v2 9).toInt ∨ ((v 9).toInt = (v2 9).toInt ∧ (v 0).toInt < (v2 0).toInt))) ∧ (r.toInt = 0 → ¬ ((v 9).toInt < (v2 9).toInt ∨ ((v 9).toInt = (v2 9).toInt ∧ (v 0).toInt < (v2 0).toInt))) ∧ (0 ≤ r.toInt ∧ r.toInt ≤ 1)) (fun _ _ => True) (va_A [] sz)) 0 0 (va_A [] sz) := by
  refine Met.ofW (cc := cX3_entersBefore) (maxL := 2) (ret := (some .boolean)) (by decide) rfl ?_
  intro p e s m args below meth c s₁ B hml hv
  obtain ⟨rfl, hsz, hP, hK, hN⟩ := hv
  have hx := B.exec
  have hb := B.bytes
  have hr := B.returns
  have hts := atoms_spec (ws := wsX3_entersBefore) B.pre
  have hown : s.vm.findClass RX3 = some m.cls := findClass_of_methodNamed B.named
  have hlocks := B.notSynchronized
  subst hsz
  generalize hAe : va_A [] s.heap.size = A at ⊢
  have hA : ∀ q : Nat, s.heap.size ≤ q → A q := fun q h => by rw [← hAe]; exact Or.inr h
  have hS : va_S A s.heap s.heap [] := va_S.rf
  have hP : va_P (dC, dI) vwCl (([] : va_W) ++ va_pl L f) s.heap := hP
  have hl := lv_entry ([.ref a, .ref b]) (n := 2) (Nat.le_of_ble_eq_true rfl)
  rw [lg_entry_eq]
  generalize (lg_sl ([.ref a, .ref b]) ++ List.replicate (2 - (lg_sl ([.ref a, .ref b])).length) Slot.unset).toArray = ls at hl ⊢
  have hl : lv_has ls 2 [(0, .ref a), (1, .ref b)] := hl
  refine lv_aload_n hx hb dX3_entersBefore_0 rfl (lv_at hl 0 rfl) ?_
  obtain ⟨k9_1, hk9_1⟩ : ∃ k : Nat, (([] : va_W) ++ va_pl L f)[k]? = some (a, .inr (4, [.int (v 0), .int (v 1), .int (v 2), .ref oa, .ref ia, .int (v 3), .int (v 4), .int (v 5), .int (v 6), .int (v 7), .int (v 8), .int (v 9), .int (v 10), .int (v 11)])) := pl_at hsh.1 hsh.2
  refine va_get (D := (dC, dI)) (ci := 4) (v := .int (v 9)) (C := RX3) (T := TX3) (N := 14) hx hb hts iw_X3_entersBefore_X3 hown hK hP k9_1 hk9_1 rfl 11 (by decide) (hts (.fieldLink RX3 37 "TeaRace$Ship" "entry" "I") (by decide +kernel)) (fun _ h9 => h9) rfl dX3_entersBefore_1 ?_
  refine lv_aload_n hx hb dX3_entersBefore_4 rfl (lv_at hl 1 rfl) ?_
  obtain ⟨k9_2, hk9_2⟩ : ∃ k : Nat, (([] : va_W) ++ va_pl L f)[k]? = some (b, .inr (4, [.int (v2 0), .int (v2 1), .int (v2 2), .ref oa2, .ref ia2, .int (v2 3), .int (v2 4), .int (v2 5), .int (v2 6), .int (v2 7), .int (v2 8), .int (v2 9), .int (v2 10), .int (v2 11)])) := pl_at hsh2.1 hsh2.2
  refine va_get (D := (dC, dI)) (ci := 4) (v := .int (v2 9)) (C := RX3) (T := TX3) (N := 14) hx hb hts iw_X3_entersBefore_X3 hown hK hP k9_2 hk9_2 rfl 11 (by decide) (hts (.fieldLink RX3 37 "TeaRace$Ship" "entry" "I") (by decide +kernel)) (fun _ h9 => h9) rfl dX3_entersBefore_5 ?_
  refine lv_icmp_lt (tgt := 33) hx hb dX3_entersBefore_8 (by decide) (fun c_3 => ?_) (fun c_3 => ?_)
  · skip
    have qc_3 : (v 9).toInt < (v2 9).toInt := lt_k rfl rfl c_3
    refine lv_iconst (v := 1) hx hb dX3_entersBefore_33 (by decide) ?_
    refine lv_goto (tgt := 38) hx hb dX3_entersBefore_34 (by decide) ?_
    have hv9 : (1 : Int32).toInt = 1 := by decide
    exact W.zret (v := 1) hx hb hr rfl (fun t ht hW => ⟨⟨1, (), rfl, ⟨(fun h => by (try simp only [Int32.reduceToInt] at h); omega), (fun h => by (try simp only [Int32.reduceToInt] at h); omega), (by decide)⟩, trivial⟩, hS.F ht⟩) hS.2.2 dX3_entersBefore_38
  · skip
    have qc_3 : (v2 9).toInt ≤ (v 9).toInt := nlt_k rfl rfl c_3
    refine lv_aload_n hx hb dX3_entersBefore_11 rfl (lv_at hl 0 rfl) ?_
    obtain ⟨k9_4, hk9_4⟩ : ∃ k : Nat, (([] : va_W) ++ va_pl L f)[k]? = some (a, .inr (4, [.int (v 0), .int (v 1), .int (v 2), .ref oa, .ref ia, .int (v 3), .int (v 4), .int (v 5), .int (v 6), .int (v 7), .int (v 8), .int (v 9), .int (v 10), .int (v 11)])) := pl_at hsh.1 hsh.2
    refine va_get (D := (dC, dI)) (ci := 4) (v := .int (v 9)) (C := RX3) (T := TX3) (N := 14) hx hb hts iw_X3_entersBefore_X3 hown hK hP k9_4 hk9_4 rfl 11 (by decide) (hts (.fieldLink RX3 37 "TeaRace$Ship" "entry" "I") (by decide +kernel)) (fun _ h9 => h9) rfl dX3_entersBefore_12 ?_
    refine lv_aload_n hx hb dX3_entersBefore_15 rfl (lv_at hl 1 rfl) ?_
    obtain ⟨k9_5, hk9_5⟩ : ∃ k : Nat, (([] : va_W) ++ va_pl L f)[k]? = some (b, .inr (4, [.int (v2 0), .int (v2 1), .int (v2 2), .ref oa2, .ref ia2, .int (v2 3), .int (v2 4), .int (v2 5), .int (v2 6), .int (v2 7), .int (v2 8), .int (v2 9), .int (v2 10), .int (v2 11)])) := pl_at hsh2.1 hsh2.2
    refine va_get (D := (dC, dI)) (ci := 4) (v := .int (v2 9)) (C := RX3) (T := TX3) (N := 14) hx hb hts iw_X3_entersBefore_X3 hown hK hP k9_5 hk9_5 rfl 11 (by decide) (hts (.fieldLink RX3 37 "TeaRace$Ship" "entry" "I") (by decide +kernel)) (fun _ h9 => h9) rfl dX3_entersBefore_16 ?_
    refine lv_icmp_ne (tgt := 37) hx hb dX3_entersBefore_19 (by decide) (fun c_6 => ?_) (fun c_6 => ?_)
    · skip
      have qc_6 : (v 9).toInt ≠ (v2 9).toInt := ne_k rfl rfl c_6
      refine lv_iconst (v := 0) hx hb dX3_entersBefore_37 (by decide) ?_
      have hv9 : (0 : Int32).toInt = 0 := by decide
      exact W.zret (v := 0) hx hb hr rfl (fun t ht hW => ⟨⟨0, (), rfl, ⟨(fun h => by (try simp only [Int32.reduceToInt] at h); omega), (fun h => by (try simp only [Int32.reduceToInt] at h); omega), (by decide)⟩, trivial⟩, hS.F ht⟩) hS.2.2 dX3_entersBefore_38
    · skip
      have qc_6 : (v 9).toInt = (v2 9).toInt := eq_k rfl rfl c_6
      refine lv_aload_n hx hb dX3_entersBefore_22 rfl (lv_at hl 0 rfl) ?_
      obtain ⟨k9_7, hk9_7⟩ : ∃ k : Nat, (([] : va_W) ++ va_pl L f)[k]? = some (a, .inr (4, [.int (v 0), .int (v 1), .int (v 2), .ref oa, .ref ia, .int (v 3), .int (v 4), .int (v 5), .int (v 6), .int (v 7), .int (v 8), .int (v 9), .int (v 10), .int (v 11)])) := pl_at hsh.1 hsh.2
      refine va_get (D := (dC, dI)) (ci := 4) (v := .int (v 0)) (C := RX3) (T := TX3) (N := 14) hx hb hts iw_X3_entersBefore_X3 hown hK hP k9_7 hk9_7 rfl 0 (by decide) (hts (.fieldLink RX3 46 "TeaRace$Ship" "number" "I") (by decide +kernel)) (fun _ h9 => h9) rfl dX3_entersBefore_23 ?_
      refine lv_aload_n hx hb dX3_entersBefore_26 rfl (lv_at hl 1 rfl) ?_
      obtain ⟨k9_8, hk9_8⟩ : ∃ k : Nat, (([] : va_W) ++ va_pl L f)[k]? = some (b, .inr (4, [.int (v2 0), .int (v2 1), .int (v2 2), .ref oa2, .ref ia2, .int (v2 3), .int (v2 4), .int (v2 5), .int (v2 6), .int (v2 7), .int (v2 8), .int (v2 9), .int (v2 10), .int (v2 11)])) := pl_at hsh2.1 hsh2.2
      refine va_get (D := (dC, dI)) (ci := 4) (v := .int (v2 0)) (C := RX3) (T := TX3) (N := 14) hx hb hts iw_X3_entersBefore_X3 hown hK hP k9_8 hk9_8 rfl 0 (by decide) (hts (.fieldLink RX3 46 "TeaRace$Ship" "number" "I") (by decide +kernel)) (fun _ h9 => h9) rfl dX3_entersBefore_27 ?_
      refine lv_icmp_ge (tgt := 37) hx hb dX3_entersBefore_30 (by decide) (fun c_9 => ?_) (fun c_9 => ?_)
      · skip
        have qc_9 : (v2 0).toInt ≤ (v 0).toInt := le_k rfl rfl c_9
        refine lv_iconst (v := 0) hx hb dX3_entersBefore_37 (by decide) ?_
        have hv9 : (0 : Int32).toInt = 0 := by decide
        exact W.zret (v := 0) hx hb hr rfl (fun t ht hW => ⟨⟨0, (), rfl, ⟨(fun h => by (try simp only [Int32.reduceToInt] at h); omega), (fun h => by (try simp only [Int32.reduceToInt] at h); omega), (by decide)⟩, trivial⟩, hS.F ht⟩) hS.2.2 dX3_entersBefore_38
      · skip
        have qc_9 : (v 0).toInt < (v2 0).toInt := nle_k rfl rfl c_9
        refine lv_iconst (v := 1) hx hb dX3_entersBefore_33 (by decide) ?_
        refine lv_goto (tgt := 38) hx hb dX3_entersBefore_34 (by decide) ?_
        have hv9 : (1 : Int32).toInt = 1 := by decide
        exact W.zret (v := 1) hx hb hr rfl (fun t ht hW => ⟨⟨1, (), rfl, ⟨(fun h => by (try simp only [Int32.reduceToInt] at h); omega), (fun h => by (try simp only [Int32.reduceToInt] at h); omega), (by decide)⟩, trivial⟩, hS.F ht⟩) hS.2.2 dX3_entersBefore_38
set_option maxRecDepth 20000 in
theorem iw_X3_firstSightFrom_X3 : ∀ w ∈ wsX30, w ∈ wsX3_firstSightFrom := fun w h => (List.mem_cons_of_mem _ (List.mem_append_left _ (List.mem_append_left _ (List.mem_append_right _ h))))
set_option maxRecDepth 20000 in
theorem iw_X3_firstSightFrom_X4 : ∀ w ∈ wsX40, w ∈ wsX3_firstSightFrom := fun w h => (List.mem_cons_of_mem _ (List.mem_append_left _ (List.mem_append_right _ h)))
set_option maxHeartbeats 4000000 in
set_option maxRecDepth 100000 in
/-- Ship.firstSightFrom -/
theorem c_X3_firstSightFrom (l : Launch) (dC : Nat → ClassId) (dI : Nat → Nat → Nat) (sz : Nat) (L : List Nat) (f : Nat → va_E) (a : Nat) (oa : Nat) (ia : Nat) (v : Nat → Int32) (te : Nat) (cO : ClassId) (nS : Nat) (SW : Nat → Nat → Int32) (a0 : Int32) (hsh : a ∈ L ∧ f a = .inr (4, [.int (v 0), .int (v 1), .int (v 2), .ref oa, .ref ia, .int (v 3), .int (v 4), .int (v 5), .int (v 6), .int (v 7), .int (v 8), .int (v 9), .int (v 10), .int (v 11)])) (hsig : Sigs L f te cO ia nS SW) : Met l yX3_firstSightFrom wsX3_firstSightFrom ({ frames := 3, cells := 0, slots := 0, locals := 64 }) (va_Pc [.ref a, .int a0] (fun U => U.heap.size = sz ∧ va_P (dC, dI) vwCl (([] : va_W) ++ va_pl L f) U.heap ∧ va_K (dC, dI) vwCl [(cO, .object "java/lang/Object")] U ∧ NW U)) (va_Qq (fun (r : Option Nat) (_ : Unit) => (∀ x, r = some x → x ∈ L ∧ ∃ k, f x = sigE (SW k) ∧ BehK SW nS a0.toInt k) ∧ (r = none → NoBeh SW nS a0.toInt)) (fun _ _ => True) (va_A [] sz)) 0 0 (va_A [] sz) := by
  refine Met.ofW (cc := cX3_firstSightFrom) (maxL := 4) (ret := (some (.object "TeaRace$Sight"))) (by decide) rfl ?_
  intro p e s m args below meth c s₁ B hml hv
  obtain ⟨rfl, hsz, hP, hK, hN⟩ := hv
  have hx := B.exec
  have hb := B.bytes
  have hr := B.returns
  have hts := atoms_spec (ws := wsX3_firstSightFrom) B.pre
  have hown : s.vm.findClass RX3 = some m.cls := findClass_of_methodNamed B.named
  have hlocks := B.notSynchronized
  subst hsz
  generalize hAe : va_A [] s.heap.size = A at ⊢
  have hA : ∀ q : Nat, s.heap.size ≤ q → A q := fun q h => by rw [← hAe]; exact Or.inr h
  have hS : va_S A s.heap s.heap [] := va_S.rf
  have hP : va_P (dC, dI) vwCl (([] : va_W) ++ va_pl L f) s.heap := hP
  have hl := lv_entry ([.ref a, .int a0]) (n := 4) (Nat.le_of_ble_eq_true rfl)
  rw [lg_entry_eq]
  generalize (lg_sl ([.ref a, .int a0]) ++ List.replicate (4 - (lg_sl ([.ref a, .int a0])).length) Slot.unset).toArray = ls at hl ⊢
  have hl : lv_has ls 4 [(0, .ref a), (1, .int a0)] := hl
  obtain ⟨g_1, hlst_2, hels_3⟩ := id hsig
  refine lv_iconst (v := 0) hx hb dX3_firstSightFrom_0 (by decide) ?_
  refine lv_istore_n (lv' := [(2, .int 0), (0, .ref a), (1, .int a0)]) hx hb dX3_firstSightFrom_1 rfl hl (by decide) rfl (fun ls hl => ?_)
  have key2 : ∀ (n2 : Nat) (ik : Int32) (H : Heap) (locs : List Loc) (ls : Array Slot), (0 ≤ ik.toInt ∧ ik.toInt ≤ 100) → (∀ j : Nat, (j : Int) < ik.toInt → (SW j 1).toInt < a0.toInt) → 100 - ik.toInt < (n2 : Int) → va_P (dC, dI) vwCl (([] : va_W) ++ va_pl L f) H → va_S A s.heap H locs → lv_has ls 4 [(2, .int ik), (0, .ref a), (1, .int a0)] → W p l e ({ frames := 3, cells := 0, slots := 0, locals := 64 } : Room) s m ([.ref a, .int a0] : List Value).toArray below meth c H locs 0 0 (MQ below (va_Qq (fun (r : Option Nat) (_ : Unit) => (∀ x, r = some x → x ∈ L ∧ ∃ k, f x = sigE (SW k) ∧ BehK SW nS a0.toInt k) ∧ (r = none → NoBeh SW nS a0.toInt)) (fun _ _ => True) A) ([.ref a, .int a0] : List Value).toArray s 0 0 A) (F0 m 2 ls []) := by
    intro n2
    induction n2 with
    | zero =>
      intro ik H locs ls i_ik hfs hm2
      exact absurd hm2 (by omega)
    | succ n2 ih2 =>
      intro ik H locs ls i_ik hfs hm2 hP hS hl
      refine lv_iload_n hx hb dX3_firstSightFrom_2 rfl (lv_at hl 0 rfl) ?_
      refine lv_aload_n hx hb dX3_firstSightFrom_3 rfl (lv_at hl 1 rfl) ?_
      obtain ⟨k9_4, hk9_4⟩ : ∃ k : Nat, (([] : va_W) ++ va_pl L f)[k]? = some (a, .inr (4, [.int (v 0), .int (v 1), .int (v 2), .ref oa, .ref ia, .int (v 3), .int (v 4), .int (v 5), .int (v 6), .int (v 7), .int (v 8), .int (v 9), .int (v 10), .int (v 11)])) := pl_at hsh.1 hsh.2
      refine va_get (D := (dC, dI)) (ci := 4) (v := .ref ia) (C := RX3) (T := TX3) (N := 14) hx hb hts iw_X3_firstSightFrom_X3 hown hK hP k9_4 hk9_4 rfl 4 (by decide) (hts (.fieldLink RX3 18 "TeaRace$Ship" "sights" "Ljava/util/List;") (by decide +kernel)) (fun _ h9 => h9) rfl dX3_firstSightFrom_4 ?_
      have hPc : va_P (dC, dI) vwCl (([] : va_W) ++ va_pl L f) H := va_P.part (X := []) hP [] rfl
      have hKc := hK.sub (tys' := []) [] rfl
      obtain ⟨mc_5, ar_6, hm_7, hv_8, hn_9, hb_10⟩ := LstAt.obj hlst_2
      obtain ⟨k8_11, hk8_11⟩ : ∃ k : Nat, (([] : va_W) ++ va_pl L f)[k]? = some (ia, .inr (0, [.int mc_5, .ref ar_6, .int (nI nS)])) := pl_at hm_7 hv_8
      refine va_callFi (va_runF (va_atK hKc (ci := 0) rfl) (As := []) (rest := [.int ik]) ⟨hx, hb, hml, hown, hts⟩ (c_Jx4a65c_size_8abf5 l dC dI H.size L f te ia nS g_1 cO hlst_2) (va_cwF 0 hts gX3_firstSightFrom_Jx4a65c_size_8abf5_f78Jx4a65c rfl rfl rfl hN.fSize (by decide +kernel) ⟨Nat.le_of_ble_eq_true rfl, Nat.le_of_ble_eq_true rfl⟩) ⟨fun a U g mk q => by obtain ⟨q0, q1, qP, qK, qN⟩ := q; exact ⟨q0, q1, qP, va_K.moved (u := U) (U := U.calling g mk a) (Vm.Alike.refl U.vm) qK, NW.same (u := U) (U := U.calling g mk a) rfl qN⟩, va_recv hKc hPc (ci := 0) (q0 := k8_11) rfl hk8_11, fun U hU hW => ⟨rfl, by rw [hU], by rw [hU]; exact hPc, va_K.moved hW.alike hKc, NW.warm hW hN⟩⟩ rfl rfl hl.1 rfl (lv_room (Nat.le_of_ble_eq_true rfl)) dX3_firstSightFrom_7 ⟨(Nat.zero_le _), (Nat.zero_le _)⟩) hS (fun q _ h => ro_A hS hA q h) (ro_A hS hA) (fun r_12 u t H1 locs ht hvm k_13 hB hz1 hk1 hS => ?_)
      have hP := ro_P hk1 hP
      generalize H1 = H at hP hS ⊢
      try dsimp only at k_13
      obtain ⟨k_13, k_14, k_15⟩ := k_13
      refine lv_icmp_ge (tgt := 45) hx hb dX3_firstSightFrom_12 (by decide) (fun c_16 => ?_) (fun c_16 => ?_)
      · skip
        have qc_16 : r_12.toInt ≤ ik.toInt := le_k rfl rfl c_16
        refine lv_null hx hb dX3_firstSightFrom_45 ?_
        exact W.aret (v := .null) hx hb hr (Or.inl ⟨_, rfl⟩) (Or.inl rfl) (fun t ht hW => ⟨⟨none, (), rfl, ⟨(fun x hx => by cases hx), (fun _ j hj => hfs j (by omega))⟩, trivial⟩, hS.F ht⟩) hS.2.2 dX3_firstSightFrom_46
      · skip
        have qc_16 : ik.toInt < r_12.toInt := nle_k rfl rfl c_16
        refine lv_aload_n hx hb dX3_firstSightFrom_15 rfl (lv_at hl 1 rfl) ?_
        obtain ⟨k9_17, hk9_17⟩ : ∃ k : Nat, (([] : va_W) ++ va_pl L f)[k]? = some (a, .inr (4, [.int (v 0), .int (v 1), .int (v 2), .ref oa, .ref ia, .int (v 3), .int (v 4), .int (v 5), .int (v 6), .int (v 7), .int (v 8), .int (v 9), .int (v 10), .int (v 11)])) := pl_at hsh.1 hsh.2
        refine va_get (D := (dC, dI)) (ci := 4) (v := .ref ia) (C := RX3) (T := TX3) (N := 14) hx hb hts iw_X3_firstSightFrom_X3 hown hK hP k9_17 hk9_17 rfl 4 (by decide) (hts (.fieldLink RX3 18 "TeaRace$Ship" "sights" "Ljava/util/List;") (by decide +kernel)) (fun _ h9 => h9) rfl dX3_firstSightFrom_16 ?_
        refine lv_iload_n hx hb dX3_firstSightFrom_19 rfl (lv_at hl 0 rfl) ?_
        have hPc : va_P (dC, dI) vwCl (([] : va_W) ++ va_pl L f) H := va_P.part (X := []) hP [] rfl
        have hKc := hK.sub (tys' := [(cO, .object "java/lang/Object")]) [0] rfl
        obtain ⟨k8_18, hk8_18⟩ : ∃ k : Nat, (([] : va_W) ++ va_pl L f)[k]? = some (ia, .inr (0, [.int mc_5, .ref ar_6, .int (nI nS)])) := pl_at hm_7 hv_8
        refine va_callFq (va_runF (va_atK hKc (ci := 0) rfl) (As := [.int ik]) (rest := []) ⟨hx, hb, hml, hown, hts⟩ (c_Jx4a65c_get_915e3 l dC dI H.size L f te ia nS g_1 cO ik (by omega) (by omega) hlst_2) (va_cwF 1 hts gX3_firstSightFrom_Jx4a65c_get_915e3_f83Jx4a65c rfl rfl rfl hN.fGet (by decide +kernel) ⟨Nat.le_of_ble_eq_true rfl, Nat.le_of_ble_eq_true rfl⟩) ⟨fun a U g mk q => by obtain ⟨q0, q1, qP, qK, qN⟩ := q; exact ⟨q0, q1, qP, va_K.moved (u := U) (U := U.calling g mk a) (Vm.Alike.refl U.vm) qK, NW.same (u := U) (U := U.calling g mk a) rfl qN⟩, va_recv hKc hPc (ci := 0) (q0 := k8_18) rfl hk8_18, fun U hU hW => ⟨rfl, by rw [hU], by rw [hU]; exact hPc, va_K.moved hW.alike hKc, NW.warm hW hN⟩⟩ rfl rfl hl.1 rfl (lv_room (Nat.le_of_ble_eq_true rfl)) dX3_firstSightFrom_20 ⟨(Nat.zero_le _), (Nat.zero_le _)⟩) hS (fun q _ h => ro_A hS hA q h) (ro_A hS hA) (fun r_19 u t H1 locs ht hvm k_20 hB hz1 hk1 hS => ?_)
        have hP := ro_P hk1 hP
        generalize H1 = H at hP hS ⊢
        try dsimp only at k_20
        obtain rfl : r_19 = some (g_1 ik.toNatClampNeg) := k_20
        refine W.eq (g2 := F0 m 25 ls [.ref (g_1 ik.toNatClampNeg)]) rfl ?_
        have hel_21 := hels_3 ik.toNatClampNeg (tn_lt (by omega) (by omega))
        obtain ⟨k9_22, hk9_22⟩ : ∃ k : Nat, (([] : va_W) ++ va_pl L f)[k]? = some ((g_1 ik.toNatClampNeg), .inr (5, [.int (SW ik.toNatClampNeg 0), .int (SW ik.toNatClampNeg 1)])) := pl_at hel_21.1 hel_21.2
        refine va_castS hx hb hown (hts (.classLink RX3 101 "TeaRace$Sight") (by decide +kernel)) (va_atK hK (ci := 5) rfl) (va_recv hK hP (ci := 5) (q0 := k9_22) rfl hk9_22) dX3_firstSightFrom_25 ?_
        refine lv_astore_n (lv' := [(3, .ref (g_1 ik.toNatClampNeg)), (2, .int ik), (0, .ref a), (1, .int a0)]) hx hb dX3_firstSightFrom_28 rfl hl (by decide) rfl (fun ls hl => ?_)
        refine lv_aload_n hx hb dX3_firstSightFrom_29 rfl (lv_at hl 0 rfl) ?_
        obtain ⟨k9_23, hk9_23⟩ : ∃ k : Nat, (([] : va_W) ++ va_pl L f)[k]? = some ((g_1 ik.toNatClampNeg), .inr (5, [.int (SW ik.toNatClampNeg 0), .int (SW ik.toNatClampNeg 1)])) := pl_at hel_21.1 hel_21.2
        refine va_get (D := (dC, dI)) (ci := 5) (v := .int (SW ik.toNatClampNeg 1)) (C := RX4) (T := TX4) (N := 2) hx hb hts iw_X3_firstSightFrom_X4 hown hK hP k9_23 hk9_23 rfl 1 (by decide) (hts (.fieldLink RX3 103 "TeaRace$Sight" "hour" "I") (by decide +kernel)) (fun _ h9 => h9) rfl dX3_firstSightFrom_30 ?_
        refine lv_iload_n hx hb dX3_firstSightFrom_33 rfl (lv_at hl 3 rfl) ?_
        refine lv_icmp_lt (tgt := 39) hx hb dX3_firstSightFrom_34 (by decide) (fun c_24 => ?_) (fun c_24 => ?_)
        · skip
          have qc_24 : (SW ik.toNatClampNeg 1).toInt < a0.toInt := lt_k rfl rfl c_24
          obtain ⟨x_25, ex_25⟩ : ∃ y : Int32, y = ik + 1 := ⟨_, rfl⟩
          have tx_25 : x_25.toInt = ik.toInt + 1 := ad_k ex_25 rfl (by decide) (by omega) (by omega)
          refine lv_iinc (v := x_25) (lv' := [(2, .int x_25), (3, .ref (g_1 ik.toNatClampNeg)), (0, .ref a), (1, .int a0)]) hx hb dX3_firstSightFrom_39 hl (k := 1) rfl (by rw [ex_25]; rfl) (by decide) rfl (fun ls hl => ?_)
          refine lv_goto (tgt := 2) hx hb dX3_firstSightFrom_42 (by decide) ?_
          exact ih2 x_25  H locs ls ⟨(by first | omega | (simp only [Int32.reduceToInt]; omega)), (by first | omega | (simp only [Int32.reduceToInt]; omega))⟩ (fun j hj => by by_cases e9 : j = ik.toNatClampNeg; (rw [e9]; omega); exact hfs j (by have := tn_k (i := ik) rfl (by omega); omega)) (by first | omega | (simp only [Int32.reduceToInt]; omega)) hP hS (lv_sub hl [0, 2, 3] rfl)
        · skip
          have qc_24 : a0.toInt ≤ (SW ik.toNatClampNeg 1).toInt := nlt_k rfl rfl c_24
          refine lv_aload_n hx hb dX3_firstSightFrom_37 rfl (lv_at hl 0 rfl) ?_
          exact W.aret (v := .ref (g_1 ik.toNatClampNeg)) hx hb hr (Or.inl ⟨_, rfl⟩) (Or.inr ⟨_, rfl⟩) (fun t ht hW => ⟨⟨(some (g_1 ik.toNatClampNeg)), (), rfl, ⟨(fun x hx => by cases hx; exact ⟨hel_21.1, ik.toNatClampNeg, hel_21.2, tn_lt (by omega) (by omega), by omega, fun j hj => hfs j (by have := tn_k (i := ik) rfl (by omega); omega)⟩), (fun hx => by cases hx)⟩, trivial⟩, hS.F ht⟩) hS.2.2 dX3_firstSightFrom_38
  exact key2 101 0  _ _ ls (by decide) (fun j h => absurd h (by simp only [Int32.reduceToInt]; omega)) (by (try simp only [Int32.reduceToInt]); omega) hP hS hl
set_option maxRecDepth 20000 in
theorem iw_X3_lastSightBy_X3 : ∀ w ∈ wsX30, w ∈ wsX3_lastSightBy := fun w h => (List.mem_cons_of_mem _ (List.mem_append_left _ (List.mem_append_left _ (List.mem_append_right _ h))))
set_option maxRecDepth 20000 in
theorem iw_X3_lastSightBy_X4 : ∀ w ∈ wsX40, w ∈ wsX3_lastSightBy := fun w h => (List.mem_cons_of_mem _ (List.mem_append_left _ (List.mem_append_right _ h)))
set_option maxHeartbeats 4000000 in
set_option maxRecDepth 100000 in
/-- Ship.lastSightBy -/
theorem c_X3_lastSightBy (l : Launch) (dC : Nat → ClassId) (dI : Nat → Nat → Nat) (sz : Nat) (L : List Nat) (f : Nat → va_E) (a : Nat) (oa : Nat) (ia : Nat) (v : Nat → Int32) (te : Nat) (cO : ClassId) (nS : Nat) (SW : Nat → Nat → Int32) (a0 : Int32) (hsh : a ∈ L ∧ f a = .inr (4, [.int (v 0), .int (v 1), .int (v 2), .ref oa, .ref ia, .int (v 3), .int (v 4), .int (v 5), .int (v 6), .int (v 7), .int (v 8), .int (v 9), .int (v 10), .int (v 11)])) (hsig : Sigs L f te cO ia nS SW) : Met l yX3_lastSightBy wsX3_lastSightBy ({ frames := 3, cells := 0, slots := 0, locals := 64 }) (va_Pc [.ref a, .int a0] (fun U => U.heap.size = sz ∧ va_P (dC, dI) vwCl (([] : va_W) ++ va_pl L f) U.heap ∧ va_K (dC, dI) vwCl [(cO, .object "java/lang/Object")] U ∧ NW U)) (va_Qq (fun (r : Option Nat) (_ : Unit) => (∀ x, r = some x → x ∈ L ∧ ∃ k, f x = sigE (SW k) ∧ BefK SW nS a0.toInt k) ∧ (r = none → NoBef SW nS a0.toInt)) (fun _ _ => True) (va_A [] sz)) 0 0 (va_A [] sz) := by
  refine Met.ofW (cc := cX3_lastSightBy) (maxL := 5) (ret := (some (.object "TeaRace$Sight"))) (by decide) rfl ?_
  intro p e s m args below meth c s₁ B hml hv
  obtain ⟨rfl, hsz, hP, hK, hN⟩ := hv
  have hx := B.exec
  have hb := B.bytes
  have hr := B.returns
  have hts := atoms_spec (ws := wsX3_lastSightBy) B.pre
  have hown : s.vm.findClass RX3 = some m.cls := findClass_of_methodNamed B.named
  have hlocks := B.notSynchronized
  subst hsz
  generalize hAe : va_A [] s.heap.size = A at ⊢
  have hA : ∀ q : Nat, s.heap.size ≤ q → A q := fun q h => by rw [← hAe]; exact Or.inr h
  have hS : va_S A s.heap s.heap [] := va_S.rf
  have hP : va_P (dC, dI) vwCl (([] : va_W) ++ va_pl L f) s.heap := hP
  have hl := lv_entry ([.ref a, .int a0]) (n := 5) (Nat.le_of_ble_eq_true rfl)
  rw [lg_entry_eq]
  generalize (lg_sl ([.ref a, .int a0]) ++ List.replicate (5 - (lg_sl ([.ref a, .int a0])).length) Slot.unset).toArray = ls at hl ⊢
  have hl : lv_has ls 5 [(0, .ref a), (1, .int a0)] := hl
  obtain ⟨g_1, hlst_2, hels_3⟩ := id hsig
  refine lv_null hx hb dX3_lastSightBy_0 ?_
  refine lv_astore_nN (lv' := [(2, .null), (0, .ref a), (1, .int a0)]) hx hb dX3_lastSightBy_1 rfl hl (by decide) rfl (fun ls hl => ?_)
  refine lv_iconst (v := 0) hx hb dX3_lastSightBy_2 (by decide) ?_
  refine lv_istore_n (lv' := [(3, .int 0), (2, .null), (0, .ref a), (1, .int a0)]) hx hb dX3_lastSightBy_3 rfl hl (by decide) rfl (fun ls hl => ?_)
  have key4 : ∀ (n4 : Nat) (ik : Int32) (lo : Option Nat) (H : Heap) (locs : List Loc) (ls : Array Slot), (0 ≤ ik.toInt ∧ ik.toInt ≤ 100) → (∀ x, lo = some x → x ∈ L ∧ ∃ k, f x = sigE (SW k) ∧ (k : Int) < ik.toInt ∧ k < nS ∧ (SW k 1).toInt ≤ a0.toInt ∧ ∀ j : Nat, k < j → (j : Int) < ik.toInt → a0.toInt < (SW j 1).toInt) → (lo = none → ∀ j : Nat, (j : Int) < ik.toInt → a0.toInt < (SW j 1).toInt) → 100 - ik.toInt < (n4 : Int) → va_P (dC, dI) vwCl (([] : va_W) ++ va_pl L f) H → va_S A s.heap H locs → lv_has ls 5 [(3, .int ik), (2, va_rf lo), (0, .ref a), (1, .int a0)] → W p l e ({ frames := 3, cells := 0, slots := 0, locals := 64 } : Room) s m ([.ref a, .int a0] : List Value).toArray below meth c H locs 0 0 (MQ below (va_Qq (fun (r : Option Nat) (_ : Unit) => (∀ x, r = some x → x ∈ L ∧ ∃ k, f x = sigE (SW k) ∧ BefK SW nS a0.toInt k) ∧ (r = none → NoBef SW nS a0.toInt)) (fun _ _ => True) A) ([.ref a, .int a0] : List Value).toArray s 0 0 A) (F0 m 4 ls []) := by
    intro n4
    induction n4 with
    | zero =>
      intro ik lo H locs ls i_ik hlo hl0 hm4
      exact absurd hm4 (by omega)
    | succ n4 ih4 =>
      intro ik lo H locs ls i_ik hlo hl0 hm4 hP hS hl
      refine lv_iload_n hx hb dX3_lastSightBy_4 rfl (lv_at hl 0 rfl) ?_
      refine lv_aload_n hx hb dX3_lastSightBy_5 rfl (lv_at hl 2 rfl) ?_
      obtain ⟨k9_4, hk9_4⟩ : ∃ k : Nat, (([] : va_W) ++ va_pl L f)[k]? = some (a, .inr (4, [.int (v 0), .int (v 1), .int (v 2), .ref oa, .ref ia, .int (v 3), .int (v 4), .int (v 5), .int (v 6), .int (v 7), .int (v 8), .int (v 9), .int (v 10), .int (v 11)])) := pl_at hsh.1 hsh.2
      refine va_get (D := (dC, dI)) (ci := 4) (v := .ref ia) (C := RX3) (T := TX3) (N := 14) hx hb hts iw_X3_lastSightBy_X3 hown hK hP k9_4 hk9_4 rfl 4 (by decide) (hts (.fieldLink RX3 18 "TeaRace$Ship" "sights" "Ljava/util/List;") (by decide +kernel)) (fun _ h9 => h9) rfl dX3_lastSightBy_6 ?_
      have hPc : va_P (dC, dI) vwCl (([] : va_W) ++ va_pl L f) H := va_P.part (X := []) hP [] rfl
      have hKc := hK.sub (tys' := []) [] rfl
      obtain ⟨mc_5, ar_6, hm_7, hv_8, hn_9, hb_10⟩ := LstAt.obj hlst_2
      obtain ⟨k8_11, hk8_11⟩ : ∃ k : Nat, (([] : va_W) ++ va_pl L f)[k]? = some (ia, .inr (0, [.int mc_5, .ref ar_6, .int (nI nS)])) := pl_at hm_7 hv_8
      refine va_callFi (va_runF (va_atK hKc (ci := 0) rfl) (As := []) (rest := [.int ik]) ⟨hx, hb, hml, hown, hts⟩ (c_Jx4a65c_size_8abf5 l dC dI H.size L f te ia nS g_1 cO hlst_2) (va_cwF 0 hts gX3_lastSightBy_Jx4a65c_size_8abf5_f78Jx4a65c rfl rfl rfl hN.fSize (by decide +kernel) ⟨Nat.le_of_ble_eq_true rfl, Nat.le_of_ble_eq_true rfl⟩) ⟨fun a U g mk q => by obtain ⟨q0, q1, qP, qK, qN⟩ := q; exact ⟨q0, q1, qP, va_K.moved (u := U) (U := U.calling g mk a) (Vm.Alike.refl U.vm) qK, NW.same (u := U) (U := U.calling g mk a) rfl qN⟩, va_recv hKc hPc (ci := 0) (q0 := k8_11) rfl hk8_11, fun U hU hW => ⟨rfl, by rw [hU], by rw [hU]; exact hPc, va_K.moved hW.alike hKc, NW.warm hW hN⟩⟩ rfl rfl hl.1 rfl (lv_room (Nat.le_of_ble_eq_true rfl)) dX3_lastSightBy_9 ⟨(Nat.zero_le _), (Nat.zero_le _)⟩) hS (fun q _ h => ro_A hS hA q h) (ro_A hS hA) (fun r_12 u t H1 locs ht hvm k_13 hB hz1 hk1 hS => ?_)
      have hP := ro_P hk1 hP
      generalize H1 = H at hP hS ⊢
      try dsimp only at k_13
      obtain ⟨k_13, k_14, k_15⟩ := k_13
      refine lv_icmp_ge (tgt := 50) hx hb dX3_lastSightBy_14 (by decide) (fun c_16 => ?_) (fun c_16 => ?_)
      · skip
        have qc_16 : r_12.toInt ≤ ik.toInt := le_k rfl rfl c_16
        rcases lo with _ | q_17
        · skip
          have hl : lv_has ls 5 [(3, .int ik), (2, .null), (0, .ref a), (1, .int a0)] := hl
          have hl09 := hl0 rfl
          refine lv_aload_nN hx hb dX3_lastSightBy_50 rfl (lv_at hl 1 rfl) ?_
          exact W.aret (v := .null) hx hb hr (Or.inl ⟨_, rfl⟩) (Or.inl rfl) (fun t ht hW => ⟨⟨none, (), rfl, ⟨(fun x hx => by cases hx), (fun _ j hj => hl09 j (by omega))⟩, trivial⟩, hS.F ht⟩) hS.2.2 dX3_lastSightBy_51
        · skip
          have hl : lv_has ls 5 [(3, .int ik), (2, .ref q_17), (0, .ref a), (1, .int a0)] := hl
          obtain ⟨hm_20, k9_18, hz_19, g_21, g_22, g_23, g_24⟩ := hlo q_17 rfl
          refine lv_aload_n hx hb dX3_lastSightBy_50 rfl (lv_at hl 1 rfl) ?_
          exact W.aret (v := .ref q_17) hx hb hr (Or.inl ⟨_, rfl⟩) (Or.inr ⟨_, rfl⟩) (fun t ht hW => ⟨⟨(some q_17), (), rfl, ⟨(fun x hx => by cases hx; exact ⟨hm_20, k9_18, hz_19, g_22, g_23, fun j h6 h7 => g_24 j h6 (by omega)⟩), (fun hx => by cases hx)⟩, trivial⟩, hS.F ht⟩) hS.2.2 dX3_lastSightBy_51
      · skip
        have qc_16 : ik.toInt < r_12.toInt := nle_k rfl rfl c_16
        rcases lo with _ | q_25
        · skip
          have hl : lv_has ls 5 [(3, .int ik), (2, .null), (0, .ref a), (1, .int a0)] := hl
          have hl09 := hl0 rfl
          refine lv_aload_n hx hb dX3_lastSightBy_17 rfl (lv_at hl 2 rfl) ?_
          obtain ⟨k9_26, hk9_26⟩ : ∃ k : Nat, (([] : va_W) ++ va_pl L f)[k]? = some (a, .inr (4, [.int (v 0), .int (v 1), .int (v 2), .ref oa, .ref ia, .int (v 3), .int (v 4), .int (v 5), .int (v 6), .int (v 7), .int (v 8), .int (v 9), .int (v 10), .int (v 11)])) := pl_at hsh.1 hsh.2
          refine va_get (D := (dC, dI)) (ci := 4) (v := .ref ia) (C := RX3) (T := TX3) (N := 14) hx hb hts iw_X3_lastSightBy_X3 hown hK hP k9_26 hk9_26 rfl 4 (by decide) (hts (.fieldLink RX3 18 "TeaRace$Ship" "sights" "Ljava/util/List;") (by decide +kernel)) (fun _ h9 => h9) rfl dX3_lastSightBy_18 ?_
          refine lv_iload_n hx hb dX3_lastSightBy_21 rfl (lv_at hl 0 rfl) ?_
          have hPc : va_P (dC, dI) vwCl (([] : va_W) ++ va_pl L f) H := va_P.part (X := []) hP [] rfl
          have hKc := hK.sub (tys' := [(cO, .object "java/lang/Object")]) [0] rfl
          obtain ⟨k8_27, hk8_27⟩ : ∃ k : Nat, (([] : va_W) ++ va_pl L f)[k]? = some (ia, .inr (0, [.int mc_5, .ref ar_6, .int (nI nS)])) := pl_at hm_7 hv_8
          refine va_callFq (va_runF (va_atK hKc (ci := 0) rfl) (As := [.int ik]) (rest := []) ⟨hx, hb, hml, hown, hts⟩ (c_Jx4a65c_get_915e3 l dC dI H.size L f te ia nS g_1 cO ik (by omega) (by omega) hlst_2) (va_cwF 1 hts gX3_lastSightBy_Jx4a65c_get_915e3_f83Jx4a65c rfl rfl rfl hN.fGet (by decide +kernel) ⟨Nat.le_of_ble_eq_true rfl, Nat.le_of_ble_eq_true rfl⟩) ⟨fun a U g mk q => by obtain ⟨q0, q1, qP, qK, qN⟩ := q; exact ⟨q0, q1, qP, va_K.moved (u := U) (U := U.calling g mk a) (Vm.Alike.refl U.vm) qK, NW.same (u := U) (U := U.calling g mk a) rfl qN⟩, va_recv hKc hPc (ci := 0) (q0 := k8_27) rfl hk8_27, fun U hU hW => ⟨rfl, by rw [hU], by rw [hU]; exact hPc, va_K.moved hW.alike hKc, NW.warm hW hN⟩⟩ rfl rfl hl.1 rfl (lv_room (Nat.le_of_ble_eq_true rfl)) dX3_lastSightBy_22 ⟨(Nat.zero_le _), (Nat.zero_le _)⟩) hS (fun q _ h => ro_A hS hA q h) (ro_A hS hA) (fun r_28 u t H1 locs ht hvm k_29 hB hz1 hk1 hS => ?_)
          have hP := ro_P hk1 hP
          generalize H1 = H at hP hS ⊢
          try dsimp only at k_29
          obtain rfl : r_28 = some (g_1 ik.toNatClampNeg) := k_29
          refine W.eq (g2 := F0 m 27 ls [.ref (g_1 ik.toNatClampNeg)]) rfl ?_
          have hel_30 := hels_3 ik.toNatClampNeg (tn_lt (by omega) (by omega))
          obtain ⟨k9_31, hk9_31⟩ : ∃ k : Nat, (([] : va_W) ++ va_pl L f)[k]? = some ((g_1 ik.toNatClampNeg), .inr (5, [.int (SW ik.toNatClampNeg 0), .int (SW ik.toNatClampNeg 1)])) := pl_at hel_30.1 hel_30.2
          refine va_castS hx hb hown (hts (.classLink RX3 101 "TeaRace$Sight") (by decide +kernel)) (va_atK hK (ci := 5) rfl) (va_recv hK hP (ci := 5) (q0 := k9_31) rfl hk9_31) dX3_lastSightBy_27 ?_
          refine lv_astore (lv' := [(4, .ref (g_1 ik.toNatClampNeg)), (3, .int ik), (2, .null), (0, .ref a), (1, .int a0)]) hx hb dX3_lastSightBy_30 hl (by decide) rfl (fun ls hl => ?_)
          refine lv_aload hx hb dX3_lastSightBy_32 (lv_at hl 0 rfl) ?_
          obtain ⟨k9_32, hk9_32⟩ : ∃ k : Nat, (([] : va_W) ++ va_pl L f)[k]? = some ((g_1 ik.toNatClampNeg), .inr (5, [.int (SW ik.toNatClampNeg 0), .int (SW ik.toNatClampNeg 1)])) := pl_at hel_30.1 hel_30.2
          refine va_get (D := (dC, dI)) (ci := 5) (v := .int (SW ik.toNatClampNeg 1)) (C := RX4) (T := TX4) (N := 2) hx hb hts iw_X3_lastSightBy_X4 hown hK hP k9_32 hk9_32 rfl 1 (by decide) (hts (.fieldLink RX3 103 "TeaRace$Sight" "hour" "I") (by decide +kernel)) (fun _ h9 => h9) rfl dX3_lastSightBy_34 ?_
          refine lv_iload_n hx hb dX3_lastSightBy_37 rfl (lv_at hl 4 rfl) ?_
          refine lv_icmp_gt (tgt := 44) hx hb dX3_lastSightBy_38 (by decide) (fun c_33 => ?_) (fun c_33 => ?_)
          · skip
            have qc_33 : a0.toInt < (SW ik.toNatClampNeg 1).toInt := lt_k rfl rfl c_33
            obtain ⟨x_34, ex_34⟩ : ∃ y : Int32, y = ik + 1 := ⟨_, rfl⟩
            have tx_34 : x_34.toInt = ik.toInt + 1 := ad_k ex_34 rfl (by decide) (by omega) (by omega)
            refine lv_iinc (v := x_34) (lv' := [(3, .int x_34), (4, .ref (g_1 ik.toNatClampNeg)), (2, .null), (0, .ref a), (1, .int a0)]) hx hb dX3_lastSightBy_44 hl (k := 1) rfl (by rw [ex_34]; rfl) (by decide) rfl (fun ls hl => ?_)
            refine lv_goto (tgt := 4) hx hb dX3_lastSightBy_47 (by decide) ?_
            exact ih4 x_34 none H locs ls ⟨(by first | omega | (simp only [Int32.reduceToInt]; omega)), (by first | omega | (simp only [Int32.reduceToInt]; omega))⟩ (fun x hx => by cases hx) (fun _ j hj => by by_cases e9 : j = ik.toNatClampNeg; (rw [e9]; omega); exact hl09 j (by have := tn_k (i := ik) rfl (by omega); omega)) (by first | omega | (simp only [Int32.reduceToInt]; omega)) hP hS (lv_sub hl [0, 2, 3, 4] rfl)
          · skip
            have qc_33 : (SW ik.toNatClampNeg 1).toInt ≤ a0.toInt := nlt_k rfl rfl c_33
            refine lv_aload hx hb dX3_lastSightBy_41 (lv_at hl 0 rfl) ?_
            refine lv_astore_n (lv' := [(2, .ref (g_1 ik.toNatClampNeg)), (4, .ref (g_1 ik.toNatClampNeg)), (3, .int ik), (0, .ref a), (1, .int a0)]) hx hb dX3_lastSightBy_43 rfl hl (by decide) rfl (fun ls hl => ?_)
            obtain ⟨x_35, ex_35⟩ : ∃ y : Int32, y = ik + 1 := ⟨_, rfl⟩
            have tx_35 : x_35.toInt = ik.toInt + 1 := ad_k ex_35 rfl (by decide) (by omega) (by omega)
            refine lv_iinc (v := x_35) (lv' := [(3, .int x_35), (2, .ref (g_1 ik.toNatClampNeg)), (4, .ref (g_1 ik.toNatClampNeg)), (0, .ref a), (1, .int a0)]) hx hb dX3_lastSightBy_44 hl (k := 2) rfl (by rw [ex_35]; rfl) (by decide) rfl (fun ls hl => ?_)
            refine lv_goto (tgt := 4) hx hb dX3_lastSightBy_47 (by decide) ?_
            exact ih4 x_35 (some (g_1 ik.toNatClampNeg)) H locs ls ⟨(by first | omega | (simp only [Int32.reduceToInt]; omega)), (by first | omega | (simp only [Int32.reduceToInt]; omega))⟩ (fun x hx => by cases hx; exact ⟨hel_30.1, ik.toNatClampNeg, hel_30.2, (by have := tn_k (i := ik) rfl (by omega); omega), tn_lt (by omega) (by omega), by omega, fun j h6 h7 => absurd h6 (by have := tn_k (i := ik) rfl (by omega); omega)⟩) (fun hx => by cases hx) (by first | omega | (simp only [Int32.reduceToInt]; omega)) hP hS (lv_sub hl [0, 1, 3, 4] rfl)
        · skip
          have hl : lv_has ls 5 [(3, .int ik), (2, .ref q_25), (0, .ref a), (1, .int a0)] := hl
          obtain ⟨hm_38, k9_36, hz_37, g_39, g_40, g_41, g_42⟩ := hlo q_25 rfl
          refine lv_aload_n hx hb dX3_lastSightBy_17 rfl (lv_at hl 2 rfl) ?_
          obtain ⟨k9_43, hk9_43⟩ : ∃ k : Nat, (([] : va_W) ++ va_pl L f)[k]? = some (a, .inr (4, [.int (v 0), .int (v 1), .int (v 2), .ref oa, .ref ia, .int (v 3), .int (v 4), .int (v 5), .int (v 6), .int (v 7), .int (v 8), .int (v 9), .int (v 10), .int (v 11)])) := pl_at hsh.1 hsh.2
          refine va_get (D := (dC, dI)) (ci := 4) (v := .ref ia) (C := RX3) (T := TX3) (N := 14) hx hb hts iw_X3_lastSightBy_X3 hown hK hP k9_43 hk9_43 rfl 4 (by decide) (hts (.fieldLink RX3 18 "TeaRace$Ship" "sights" "Ljava/util/List;") (by decide +kernel)) (fun _ h9 => h9) rfl dX3_lastSightBy_18 ?_
          refine lv_iload_n hx hb dX3_lastSightBy_21 rfl (lv_at hl 0 rfl) ?_
          have hPc : va_P (dC, dI) vwCl (([] : va_W) ++ va_pl L f) H := va_P.part (X := []) hP [] rfl
          have hKc := hK.sub (tys' := [(cO, .object "java/lang/Object")]) [0] rfl
          obtain ⟨k8_44, hk8_44⟩ : ∃ k : Nat, (([] : va_W) ++ va_pl L f)[k]? = some (ia, .inr (0, [.int mc_5, .ref ar_6, .int (nI nS)])) := pl_at hm_7 hv_8
          refine va_callFq (va_runF (va_atK hKc (ci := 0) rfl) (As := [.int ik]) (rest := []) ⟨hx, hb, hml, hown, hts⟩ (c_Jx4a65c_get_915e3 l dC dI H.size L f te ia nS g_1 cO ik (by omega) (by omega) hlst_2) (va_cwF 1 hts gX3_lastSightBy_Jx4a65c_get_915e3_f83Jx4a65c rfl rfl rfl hN.fGet (by decide +kernel) ⟨Nat.le_of_ble_eq_true rfl, Nat.le_of_ble_eq_true rfl⟩) ⟨fun a U g mk q => by obtain ⟨q0, q1, qP, qK, qN⟩ := q; exact ⟨q0, q1, qP, va_K.moved (u := U) (U := U.calling g mk a) (Vm.Alike.refl U.vm) qK, NW.same (u := U) (U := U.calling g mk a) rfl qN⟩, va_recv hKc hPc (ci := 0) (q0 := k8_44) rfl hk8_44, fun U hU hW => ⟨rfl, by rw [hU], by rw [hU]; exact hPc, va_K.moved hW.alike hKc, NW.warm hW hN⟩⟩ rfl rfl hl.1 rfl (lv_room (Nat.le_of_ble_eq_true rfl)) dX3_lastSightBy_22 ⟨(Nat.zero_le _), (Nat.zero_le _)⟩) hS (fun q _ h => ro_A hS hA q h) (ro_A hS hA) (fun r_45 u t H1 locs ht hvm k_46 hB hz1 hk1 hS => ?_)
          have hP := ro_P hk1 hP
          generalize H1 = H at hP hS ⊢
          try dsimp only at k_46
          obtain rfl : r_45 = some (g_1 ik.toNatClampNeg) := k_46
          refine W.eq (g2 := F0 m 27 ls [.ref (g_1 ik.toNatClampNeg)]) rfl ?_
          have hel_47 := hels_3 ik.toNatClampNeg (tn_lt (by omega) (by omega))
          obtain ⟨k9_48, hk9_48⟩ : ∃ k : Nat, (([] : va_W) ++ va_pl L f)[k]? = some ((g_1 ik.toNatClampNeg), .inr (5, [.int (SW ik.toNatClampNeg 0), .int (SW ik.toNatClampNeg 1)])) := pl_at hel_47.1 hel_47.2
          refine va_castS hx hb hown (hts (.classLink RX3 101 "TeaRace$Sight") (by decide +kernel)) (va_atK hK (ci := 5) rfl) (va_recv hK hP (ci := 5) (q0 := k9_48) rfl hk9_48) dX3_lastSightBy_27 ?_
          refine lv_astore (lv' := [(4, .ref (g_1 ik.toNatClampNeg)), (3, .int ik), (2, .ref q_25), (0, .ref a), (1, .int a0)]) hx hb dX3_lastSightBy_30 hl (by decide) rfl (fun ls hl => ?_)
          refine lv_aload hx hb dX3_lastSightBy_32 (lv_at hl 0 rfl) ?_
          obtain ⟨k9_49, hk9_49⟩ : ∃ k : Nat, (([] : va_W) ++ va_pl L f)[k]? = some ((g_1 ik.toNatClampNeg), .inr (5, [.int (SW ik.toNatClampNeg 0), .int (SW ik.toNatClampNeg 1)])) := pl_at hel_47.1 hel_47.2
          refine va_get (D := (dC, dI)) (ci := 5) (v := .int (SW ik.toNatClampNeg 1)) (C := RX4) (T := TX4) (N := 2) hx hb hts iw_X3_lastSightBy_X4 hown hK hP k9_49 hk9_49 rfl 1 (by decide) (hts (.fieldLink RX3 103 "TeaRace$Sight" "hour" "I") (by decide +kernel)) (fun _ h9 => h9) rfl dX3_lastSightBy_34 ?_
          refine lv_iload_n hx hb dX3_lastSightBy_37 rfl (lv_at hl 4 rfl) ?_
          refine lv_icmp_gt (tgt := 44) hx hb dX3_lastSightBy_38 (by decide) (fun c_50 => ?_) (fun c_50 => ?_)
          · skip
            have qc_50 : a0.toInt < (SW ik.toNatClampNeg 1).toInt := lt_k rfl rfl c_50
            obtain ⟨x_51, ex_51⟩ : ∃ y : Int32, y = ik + 1 := ⟨_, rfl⟩
            have tx_51 : x_51.toInt = ik.toInt + 1 := ad_k ex_51 rfl (by decide) (by omega) (by omega)
            refine lv_iinc (v := x_51) (lv' := [(3, .int x_51), (4, .ref (g_1 ik.toNatClampNeg)), (2, .ref q_25), (0, .ref a), (1, .int a0)]) hx hb dX3_lastSightBy_44 hl (k := 1) rfl (by rw [ex_51]; rfl) (by decide) rfl (fun ls hl => ?_)
            refine lv_goto (tgt := 4) hx hb dX3_lastSightBy_47 (by decide) ?_
            exact ih4 x_51 (some q_25) H locs ls ⟨(by first | omega | (simp only [Int32.reduceToInt]; omega)), (by first | omega | (simp only [Int32.reduceToInt]; omega))⟩ (fun x hx => by cases hx; exact ⟨hm_38, k9_36, hz_37, by omega, g_40, g_41, fun j h6 h7 => by by_cases e9 : j = ik.toNatClampNeg; (rw [e9]; omega); exact g_42 j h6 (by have := tn_k (i := ik) rfl (by omega); omega)⟩) (fun hx => by cases hx) (by first | omega | (simp only [Int32.reduceToInt]; omega)) hP hS (lv_sub hl [0, 2, 3, 4] rfl)
          · skip
            have qc_50 : (SW ik.toNatClampNeg 1).toInt ≤ a0.toInt := nlt_k rfl rfl c_50
            refine lv_aload hx hb dX3_lastSightBy_41 (lv_at hl 0 rfl) ?_
            refine lv_astore_n (lv' := [(2, .ref (g_1 ik.toNatClampNeg)), (4, .ref (g_1 ik.toNatClampNeg)), (3, .int ik), (0, .ref a), (1, .int a0)]) hx hb dX3_lastSightBy_43 rfl hl (by decide) rfl (fun ls hl => ?_)
            obtain ⟨x_52, ex_52⟩ : ∃ y : Int32, y = ik + 1 := ⟨_, rfl⟩
            have tx_52 : x_52.toInt = ik.toInt + 1 := ad_k ex_52 rfl (by decide) (by omega) (by omega)
            refine lv_iinc (v := x_52) (lv' := [(3, .int x_52), (2, .ref (g_1 ik.toNatClampNeg)), (4, .ref (g_1 ik.toNatClampNeg)), (0, .ref a), (1, .int a0)]) hx hb dX3_lastSightBy_44 hl (k := 2) rfl (by rw [ex_52]; rfl) (by decide) rfl (fun ls hl => ?_)
            refine lv_goto (tgt := 4) hx hb dX3_lastSightBy_47 (by decide) ?_
            exact ih4 x_52 (some (g_1 ik.toNatClampNeg)) H locs ls ⟨(by first | omega | (simp only [Int32.reduceToInt]; omega)), (by first | omega | (simp only [Int32.reduceToInt]; omega))⟩ (fun x hx => by cases hx; exact ⟨hel_47.1, ik.toNatClampNeg, hel_47.2, (by have := tn_k (i := ik) rfl (by omega); omega), tn_lt (by omega) (by omega), by omega, fun j h6 h7 => absurd h6 (by have := tn_k (i := ik) rfl (by omega); omega)⟩) (fun hx => by cases hx) (by first | omega | (simp only [Int32.reduceToInt]; omega)) hP hS (lv_sub hl [0, 1, 3, 4] rfl)
  exact key4 101 0 none _ _ ls (by decide) (fun x hx => by cases hx) (fun _ j h => absurd h (by simp only [Int32.reduceToInt]; omega)) (by (try simp only [Int32.reduceToInt]); omega) hP hS (lv_sub hl [0, 1, 2, 3] rfl)
set_option maxHeartbeats 4000000 in
set_option maxRecDepth 100000 in
/-- Ship.isUnseenFrom -/
theorem c_X3_isUnseenFrom (l : Launch) (dC : Nat → ClassId) (dI : Nat → Nat → Nat) (sz : Nat) (L : List Nat) (f : Nat → va_E) (a : Nat) (oa : Nat) (ia : Nat) (v : Nat → Int32) (te : Nat) (cO : ClassId) (nS : Nat) (SW : Nat → Nat → Int32) (a0 : Int32) (hsh : a ∈ L ∧ f a = .inr (4, [.int (v 0), .int (v 1), .int (v 2), .ref oa, .ref ia, .int (v 3), .int (v 4), .int (v 5), .int (v 6), .int (v 7), .int (v 8), .int (v 9), .int (v 10), .int (v 11)])) (hsig : Sigs L f te cO ia nS SW) : Met l yX3_isUnseenFrom wsX3_isUnseenFrom ({ frames := 4, cells := 0, slots := 0, locals := 87 }) (va_Pc [.ref a, .int a0] (fun U => U.heap.size = sz ∧ va_P (dC, dI) vwCl (([] : va_W) ++ va_pl L f) U.heap ∧ va_K (dC, dI) vwCl [(cO, .object "java/lang/Object")] U ∧ NW U)) (va_Qi (fun (r : Int32) (_ : Unit) => (r.toInt = 1 → NoBeh SW nS a0.toInt) ∧ (r.toInt = 0 → ∃ k, BehK SW nS a0.toInt k) ∧ (0 ≤ r.toInt ∧ r.toInt ≤ 1)) (fun _ _ => True) (va_A [] sz)) 0 0 (va_A [] sz) := by
  refine Met.ofW (cc := cX3_isUnseenFrom) (maxL := 2) (ret := (some .boolean)) (by decide) rfl ?_
  intro p e s m args below meth c s₁ B hml hv
  obtain ⟨rfl, hsz, hP, hK, hN⟩ := hv
  have hx := B.exec
  have hb := B.bytes
  have hr := B.returns
  have hts := atoms_spec (ws := wsX3_isUnseenFrom) B.pre
  have hown : s.vm.findClass RX3 = some m.cls := findClass_of_methodNamed B.named
  have hlocks := B.notSynchronized
  subst hsz
  generalize hAe : va_A [] s.heap.size = A at ⊢
  have hA : ∀ q : Nat, s.heap.size ≤ q → A q := fun q h => by rw [← hAe]; exact Or.inr h
  have hS : va_S A s.heap s.heap [] := va_S.rf
  have hP : va_P (dC, dI) vwCl (([] : va_W) ++ va_pl L f) s.heap := hP
  have hl := lv_entry ([.ref a, .int a0]) (n := 2) (Nat.le_of_ble_eq_true rfl)
  rw [lg_entry_eq]
  generalize (lg_sl ([.ref a, .int a0]) ++ List.replicate (2 - (lg_sl ([.ref a, .int a0])).length) Slot.unset).toArray = ls at hl ⊢
  have hl : lv_has ls 2 [(0, .ref a), (1, .int a0)] := hl
  refine lv_aload_n hx hb dX3_isUnseenFrom_0 rfl (lv_at hl 0 rfl) ?_
  refine lv_iload_n hx hb dX3_isUnseenFrom_1 rfl (lv_at hl 1 rfl) ?_
  have hPc : va_P (dC, dI) vwCl (([] : va_W) ++ va_pl L f) s.heap := va_P.part (X := []) hP [] rfl
  have hKc := hK.sub (tys' := [(cO, .object "java/lang/Object")]) [0] rfl
  obtain ⟨k8_1, hk8_1⟩ : ∃ k : Nat, (([] : va_W) ++ va_pl L f)[k]? = some (a, .inr (4, [.int (v 0), .int (v 1), .int (v 2), .ref oa, .ref ia, .int (v 3), .int (v 4), .int (v 5), .int (v 6), .int (v 7), .int (v 8), .int (v 9), .int (v 10), .int (v 11)])) := pl_at hsh.1 hsh.2
  refine va_callq (va_runV (As := [.int a0]) (rest := []) ⟨hx, hb, hml, hown, hts⟩ (c_X3_firstSightFrom l dC dI s.heap.size L f a oa ia v te cO nS SW a0 ⟨hsh.1, hsh.2⟩ hsig) (cwV 1 hts gX3_isUnseenFrom_X3_firstSightFrom rfl rfl rfl (by decide +kernel) ⟨Nat.le_of_ble_eq_true rfl, Nat.le_of_ble_eq_true rfl⟩) ⟨fun a U g mk q => by obtain ⟨q0, q1, qP, qK, qN⟩ := q; exact ⟨q0, q1, qP, va_K.moved (u := U) (U := U.calling g mk a) (Vm.Alike.refl U.vm) qK, NW.same (u := U) (U := U.calling g mk a) rfl qN⟩, va_recv hKc hPc (ci := 4) (q0 := k8_1) rfl hk8_1, fun U hU hW => ⟨rfl, by rw [hU], by rw [hU]; exact hPc, va_K.moved hW.alike hKc, NW.warm hW hN⟩⟩ rfl rfl hl.1 rfl (lv_room (Nat.le_of_ble_eq_true rfl)) dX3_isUnseenFrom_2 ⟨(Nat.zero_le _), (Nat.zero_le _)⟩) hS (fun q _ h => ro_A hS hA q h) (ro_A hS hA) (fun r_2 u t H1 locs ht hvm k_3 hB hz1 hk1 hS => ?_)
  have hP := ro_P hk1 hP
  generalize H1 = H at hP hS ⊢
  try dsimp only at k_3
  obtain ⟨k_3, k_4⟩ := k_3
  rcases r_2 with _ | q_5
  · skip
    refine W.eq (g2 := F0 m 5 ls [.null]) rfl ?_
    have hno_6 := k_4 rfl
    refine lv_ifnonnullN hx hb dX3_isUnseenFrom_5 ?_
    refine lv_iconst (v := 1) hx hb dX3_isUnseenFrom_8 (by decide) ?_
    refine lv_goto (tgt := 13) hx hb dX3_isUnseenFrom_9 (by decide) ?_
    have hv9 : (1 : Int32).toInt = 1 := by decide
    exact W.zret (v := 1) hx hb hr rfl (fun t ht hW => ⟨⟨1, (), rfl, ⟨(fun _ => hno_6), (fun h => absurd h (by decide)), (by decide)⟩, trivial⟩, hS.F ht⟩) hS.2.2 dX3_isUnseenFrom_13
  · skip
    refine W.eq (g2 := F0 m 5 ls [.ref q_5]) rfl ?_
    obtain ⟨hm_9, k9_7, hz_8, hb_10⟩ := k_3 q_5 rfl
    refine lv_ifnonnull (tgt := 12) hx hb dX3_isUnseenFrom_5 (by decide) ?_
    refine lv_iconst (v := 0) hx hb dX3_isUnseenFrom_12 (by decide) ?_
    have hv9 : (0 : Int32).toInt = 0 := by decide
    exact W.zret (v := 0) hx hb hr rfl (fun t ht hW => ⟨⟨0, (), rfl, ⟨(fun h => absurd h (by decide)), (fun _ => ⟨k9_7, hb_10⟩), (by decide)⟩, trivial⟩, hS.F ht⟩) hS.2.2 dX3_isUnseenFrom_13
set_option maxHeartbeats 4000000 in
set_option maxRecDepth 100000 in
/-- Ship.isSeenAround -/
theorem c_X3_isSeenAround (l : Launch) (dC : Nat → ClassId) (dI : Nat → Nat → Nat) (sz : Nat) (L : List Nat) (f : Nat → va_E) (a : Nat) (oa : Nat) (ia : Nat) (v : Nat → Int32) (te : Nat) (cO : ClassId) (nS : Nat) (SW : Nat → Nat → Int32) (a0 : Int32) (hsh : a ∈ L ∧ f a = .inr (4, [.int (v 0), .int (v 1), .int (v 2), .ref oa, .ref ia, .int (v 3), .int (v 4), .int (v 5), .int (v 6), .int (v 7), .int (v 8), .int (v 9), .int (v 10), .int (v 11)])) (hsig : Sigs L f te cO ia nS SW) : Met l yX3_isSeenAround wsX3_isSeenAround ({ frames := 4, cells := 0, slots := 0, locals := 88 }) (va_Pc [.ref a, .int a0] (fun U => U.heap.size = sz ∧ va_P (dC, dI) vwCl (([] : va_W) ++ va_pl L f) U.heap ∧ va_K (dC, dI) vwCl [(cO, .object "java/lang/Object")] U ∧ NW U)) (va_Qi (fun (r : Int32) (_ : Unit) => (r.toInt = 1 → (∃ k, BefK SW nS a0.toInt k) ∧ ∃ k, BehK SW nS a0.toInt k) ∧ (r.toInt = 0 → NoBef SW nS a0.toInt ∨ NoBeh SW nS a0.toInt) ∧ (0 ≤ r.toInt ∧ r.toInt ≤ 1)) (fun _ _ => True) (va_A [] sz)) 0 0 (va_A [] sz) := by
  refine Met.ofW (cc := cX3_isSeenAround) (maxL := 2) (ret := (some .boolean)) (by decide) rfl ?_
  intro p e s m args below meth c s₁ B hml hv
  obtain ⟨rfl, hsz, hP, hK, hN⟩ := hv
  have hx := B.exec
  have hb := B.bytes
  have hr := B.returns
  have hts := atoms_spec (ws := wsX3_isSeenAround) B.pre
  have hown : s.vm.findClass RX3 = some m.cls := findClass_of_methodNamed B.named
  have hlocks := B.notSynchronized
  subst hsz
  generalize hAe : va_A [] s.heap.size = A at ⊢
  have hA : ∀ q : Nat, s.heap.size ≤ q → A q := fun q h => by rw [← hAe]; exact Or.inr h
  have hS : va_S A s.heap s.heap [] := va_S.rf
  have hP : va_P (dC, dI) vwCl (([] : va_W) ++ va_pl L f) s.heap := hP
  have hl := lv_entry ([.ref a, .int a0]) (n := 2) (Nat.le_of_ble_eq_true rfl)
  rw [lg_entry_eq]
  generalize (lg_sl ([.ref a, .int a0]) ++ List.replicate (2 - (lg_sl ([.ref a, .int a0])).length) Slot.unset).toArray = ls at hl ⊢
  have hl : lv_has ls 2 [(0, .ref a), (1, .int a0)] := hl
  refine lv_aload_n hx hb dX3_isSeenAround_0 rfl (lv_at hl 0 rfl) ?_
  refine lv_iload_n hx hb dX3_isSeenAround_1 rfl (lv_at hl 1 rfl) ?_
  have hPc : va_P (dC, dI) vwCl (([] : va_W) ++ va_pl L f) s.heap := va_P.part (X := []) hP [] rfl
  have hKc := hK.sub (tys' := [(cO, .object "java/lang/Object")]) [0] rfl
  obtain ⟨k8_1, hk8_1⟩ : ∃ k : Nat, (([] : va_W) ++ va_pl L f)[k]? = some (a, .inr (4, [.int (v 0), .int (v 1), .int (v 2), .ref oa, .ref ia, .int (v 3), .int (v 4), .int (v 5), .int (v 6), .int (v 7), .int (v 8), .int (v 9), .int (v 10), .int (v 11)])) := pl_at hsh.1 hsh.2
  refine va_callq (va_runV (As := [.int a0]) (rest := []) ⟨hx, hb, hml, hown, hts⟩ (c_X3_lastSightBy l dC dI s.heap.size L f a oa ia v te cO nS SW a0 ⟨hsh.1, hsh.2⟩ hsig) (cwV 1 hts gX3_isSeenAround_X3_lastSightBy rfl rfl rfl (by decide +kernel) ⟨Nat.le_of_ble_eq_true rfl, Nat.le_of_ble_eq_true rfl⟩) ⟨fun a U g mk q => by obtain ⟨q0, q1, qP, qK, qN⟩ := q; exact ⟨q0, q1, qP, va_K.moved (u := U) (U := U.calling g mk a) (Vm.Alike.refl U.vm) qK, NW.same (u := U) (U := U.calling g mk a) rfl qN⟩, va_recv hKc hPc (ci := 4) (q0 := k8_1) rfl hk8_1, fun U hU hW => ⟨rfl, by rw [hU], by rw [hU]; exact hPc, va_K.moved hW.alike hKc, NW.warm hW hN⟩⟩ rfl rfl hl.1 rfl (lv_room (Nat.le_of_ble_eq_true rfl)) dX3_isSeenAround_2 ⟨(Nat.zero_le _), (Nat.zero_le _)⟩) hS (fun q _ h => ro_A hS hA q h) (ro_A hS hA) (fun r_2 u t H1 locs ht hvm k_3 hB hz1 hk1 hS => ?_)
  have hP := ro_P hk1 hP
  generalize H1 = H at hP hS ⊢
  try dsimp only at k_3
  obtain ⟨k_3, k_4⟩ := k_3
  rcases r_2 with _ | q_5
  · skip
    refine W.eq (g2 := F0 m 5 ls [.null]) rfl ?_
    have hno_6 := k_4 rfl
    refine lv_ifnullN (tgt := 20) hx hb dX3_isSeenAround_5 (by decide) ?_
    refine lv_iconst (v := 0) hx hb dX3_isSeenAround_20 (by decide) ?_
    have hv9 : (0 : Int32).toInt = 0 := by decide
    exact W.zret (v := 0) hx hb hr rfl (fun t ht hW => ⟨⟨0, (), rfl, ⟨(fun h => absurd h (by decide)), (fun _ => Or.inl hno_6), (by decide)⟩, trivial⟩, hS.F ht⟩) hS.2.2 dX3_isSeenAround_21
  · skip
    refine W.eq (g2 := F0 m 5 ls [.ref q_5]) rfl ?_
    obtain ⟨hm_9, k9_7, hz_8, hb_10⟩ := k_3 q_5 rfl
    refine lv_ifnull hx hb dX3_isSeenAround_5 ?_
    refine lv_aload_n hx hb dX3_isSeenAround_8 rfl (lv_at hl 0 rfl) ?_
    refine lv_iload_n hx hb dX3_isSeenAround_9 rfl (lv_at hl 1 rfl) ?_
    have hPc : va_P (dC, dI) vwCl (([] : va_W) ++ va_pl L f) H := va_P.part (X := []) hP [] rfl
    have hKc := hK.sub (tys' := [(cO, .object "java/lang/Object")]) [0] rfl
    obtain ⟨k8_11, hk8_11⟩ : ∃ k : Nat, (([] : va_W) ++ va_pl L f)[k]? = some (a, .inr (4, [.int (v 0), .int (v 1), .int (v 2), .ref oa, .ref ia, .int (v 3), .int (v 4), .int (v 5), .int (v 6), .int (v 7), .int (v 8), .int (v 9), .int (v 10), .int (v 11)])) := pl_at hsh.1 hsh.2
    refine va_callq (va_runV (As := [.int a0]) (rest := []) ⟨hx, hb, hml, hown, hts⟩ (c_X3_firstSightFrom l dC dI H.size L f a oa ia v te cO nS SW a0 ⟨hsh.1, hsh.2⟩ hsig) (cwV 1 hts gX3_isSeenAround_X3_firstSightFrom rfl rfl rfl (by decide +kernel) ⟨Nat.le_of_ble_eq_true rfl, Nat.le_of_ble_eq_true rfl⟩) ⟨fun a U g mk q => by obtain ⟨q0, q1, qP, qK, qN⟩ := q; exact ⟨q0, q1, qP, va_K.moved (u := U) (U := U.calling g mk a) (Vm.Alike.refl U.vm) qK, NW.same (u := U) (U := U.calling g mk a) rfl qN⟩, va_recv hKc hPc (ci := 4) (q0 := k8_11) rfl hk8_11, fun U hU hW => ⟨rfl, by rw [hU], by rw [hU]; exact hPc, va_K.moved hW.alike hKc, NW.warm hW hN⟩⟩ rfl rfl hl.1 rfl (lv_room (Nat.le_of_ble_eq_true rfl)) dX3_isSeenAround_10 ⟨(Nat.zero_le _), (Nat.zero_le _)⟩) hS (fun q _ h => ro_A hS hA q h) (ro_A hS hA) (fun r_12 u t H1 locs ht hvm k_13 hB hz1 hk1 hS => ?_)
    have hP := ro_P hk1 hP
    generalize H1 = H at hP hS ⊢
    try dsimp only at k_13
    obtain ⟨k_13, k_14⟩ := k_13
    rcases r_12 with _ | q_15
    · skip
      refine W.eq (g2 := F0 m 13 ls [.null]) rfl ?_
      have hno_16 := k_14 rfl
      refine lv_ifnullN (tgt := 20) hx hb dX3_isSeenAround_13 (by decide) ?_
      refine lv_iconst (v := 0) hx hb dX3_isSeenAround_20 (by decide) ?_
      have hv9 : (0 : Int32).toInt = 0 := by decide
      exact W.zret (v := 0) hx hb hr rfl (fun t ht hW => ⟨⟨0, (), rfl, ⟨(fun h => absurd h (by decide)), (fun _ => Or.inr hno_16), (by decide)⟩, trivial⟩, hS.F ht⟩) hS.2.2 dX3_isSeenAround_21
    · skip
      refine W.eq (g2 := F0 m 13 ls [.ref q_15]) rfl ?_
      obtain ⟨hm_19, k9_17, hz_18, hb_20⟩ := k_13 q_15 rfl
      refine lv_ifnull hx hb dX3_isSeenAround_13 ?_
      refine lv_iconst (v := 1) hx hb dX3_isSeenAround_16 (by decide) ?_
      refine lv_goto (tgt := 21) hx hb dX3_isSeenAround_17 (by decide) ?_
      have hv9 : (1 : Int32).toInt = 1 := by decide
      exact W.zret (v := 1) hx hb hr rfl (fun t ht hW => ⟨⟨1, (), rfl, ⟨(fun _ => ⟨⟨k9_7, hb_10⟩, ⟨k9_17, hb_20⟩⟩), (fun h => absurd h (by decide)), (by decide)⟩, trivial⟩, hS.F ht⟩) hS.2.2 dX3_isSeenAround_21
