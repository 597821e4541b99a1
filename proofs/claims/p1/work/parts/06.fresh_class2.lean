set_option maxRecDepth 20000 in
theorem iw_X2_hasChart_X2 : ∀ w ∈ wsX20, w ∈ wsX2_hasChart := by decide +kernel
set_option maxHeartbeats 4000000 in
set_option maxRecDepth 100000 in
/-- hasChart: no charts -/
theorem c_X2_hasChart (l : Launch) (dC : Nat → ClassId) (dI : Nat → Nat → Nat) (sz : Nat) (sea : Nat) (lc : Nat) (ct : Nat) (ch : Nat) (cZ : ClassId) (a0 : Int32)  : Met l yX2_hasChart wsX2_hasChart ({ frames := 1, cells := 0, slots := 0, locals := 21 }) (va_Pc [.ref sea, .int a0] (fun U => U.heap.size = sz ∧ va_P (dC, dI) vwCl [(sea, .inr (3, [.ref lc, .ref ct, .ref ch])), (ct, .inl (cZ, 12, .inl (fun _ => 0)))] U.heap ∧ va_K (dC, dI) vwCl [(cZ, .boolean)] U ∧ NW U)) (va_Qi (fun (r : Int32) (_ : Unit) => r = 0) (fun _ _ => True) (va_A [] sz)) 0 0 (va_A [] sz) := by
  refine Met.ofW (cc := cX2_hasChart) (maxL := 2) (ret := (some .boolean)) (by decide) rfl ?_
  intro p e s m args below meth c s₁ B hml hv
  obtain ⟨rfl, hsz, hP, hK, hN⟩ := hv
  have hx := B.exec
  have hb := B.bytes
  have hr := B.returns
  have hts := atoms_spec (ws := wsX2_hasChart) B.pre
  have hown : s.vm.findClass RX2 = some m.cls := findClass_of_methodNamed B.named
  have hlocks := B.notSynchronized
  subst hsz
  generalize hAe : va_A [] s.heap.size = A at ⊢
  have hA : ∀ q : Nat, s.heap.size ≤ q → A q := fun q h => by rw [← hAe]; exact Or.inr h
  have hS : va_S A s.heap s.heap [] := va_S.rf
  have hP : va_P (dC, dI) vwCl [(sea, .inr (3, [.ref lc, .ref ct, .ref ch])), (ct, .inl (cZ, 12, .inl (fun _ => 0)))] s.heap := hP
  have hl := lv_entry ([.ref sea, .int a0]) (n := 2) (Nat.le_of_ble_eq_true rfl)
  rw [lg_entry_eq]
  generalize (lg_sl ([.ref sea, .int a0]) ++ List.replicate (2 - (lg_sl ([.ref sea, .int a0])).length) Slot.unset).toArray = ls at hl ⊢
  have hl : lv_has ls 2 [(0, .ref sea), (1, .int a0)] := hl
  refine lv_iload_n hx hb dX2_hasChart_0 rfl (lv_at hl 1 rfl) ?_
  refine lv_bipush (v := 11) hx hb dX2_hasChart_1 (by decide) ?_
  refine va_calli (va_runSN (As := [.int a0, .int 11]) (rest := []) ⟨hx, hb, hml, hown, hts⟩ (c_X5_outside l s.heap.size a0 11 ) ⟨va_cnB 2 hts gX2_hasChart_X5_outside_n23 rfl rfl rfl hN.nX2_23 (hts (.initialized RX5) (by decide +kernel)) (by decide +kernel) ⟨Nat.le_of_ble_eq_true rfl, Nat.le_of_ble_eq_true rfl⟩, hts (.static yX5_outside) (by decide +kernel), trivial⟩ ⟨fun a U g mk q => by obtain ⟨q0, q1⟩ := q; exact ⟨q0, q1⟩, fun U hU hW => ⟨rfl, congrArg Array.size hU⟩⟩ rfl rfl hl.1 rfl (lv_room (Nat.le_of_ble_eq_true rfl)) dX2_hasChart_3 ⟨(Nat.zero_le _), (Nat.zero_le _)⟩) hS (fun q _ h => ro_A hS hA q h) (ro_A hS hA) (fun r_1 u t H1 locs ht hvm k_2 hB hz1 hk1 hS => ?_)
  have hP := ro_P hk1 hP
  generalize H1 = H at hP hS ⊢
  try dsimp only at k_2
  refine lv_if_ne (tgt := 22) hx hb dX2_hasChart_6 (by decide) (fun c_3 => ?_) (fun c_3 => ?_)
  · skip
    have b_4 := b01n k_2 c_3
    refine lv_iconst (v := 0) hx hb dX2_hasChart_22 (by decide) ?_
    exact W.zret (v := 0) hx hb hr rfl (fun t ht hW => ⟨⟨0, (), rfl, (by first | rfl | trivial | (simp only [Int32.lt_iff_toInt_lt, Int32.le_iff_toInt_le, ← Int32.toInt_inj, Int32.reduceToInt] at b_4 ⊢; (repeat' split) <;> first | rfl | omega) | (simp only [Int32.lt_iff_toInt_lt, Int32.le_iff_toInt_le, ← Int32.toInt_inj, Int32.reduceToInt] at *; omega) | grind), trivial⟩, hS.F ht⟩) hS.2.2 dX2_hasChart_23
  · skip
    have b_5 := b01z k_2 c_3
    refine lv_aload_n hx hb dX2_hasChart_9 rfl (lv_at hl 0 rfl) ?_
    refine va_get (D := (dC, dI)) (ci := 3) (v := .ref ct) (C := RX2) (T := TX2) (N := 3) hx hb hts iw_X2_hasChart_X2 hown hK hP 0 rfl rfl 1 (by decide) (hts (.fieldLink RX2 15 "TeaRace$Sea" "chartThere" "[Z") (by decide +kernel)) (fun _ h9 => h9) rfl dX2_hasChart_10 ?_
    refine lv_iload_n hx hb dX2_hasChart_13 rfl (lv_at hl 1 rfl) ?_
    refine va_zald hx hb hK hP 1 0 rfl rfl (vp_in_iff.mpr (by (try simp only [Int32.lt_iff_toInt_lt, Int32.le_iff_toInt_le, ← Int32.toInt_inj, Int32.reduceToInt] at b_5 ⊢); omega)) dX2_hasChart_14 ?_
    refine lv_topi (fun x_6 ex_6 => ?_)
    obtain rfl : x_6 = 0 := ex_6
    refine lv_if_eq (tgt := 22) hx hb dX2_hasChart_15 (by decide) (fun c_7 => ?_) (fun c_7 => ?_)
    · skip
      refine lv_iconst (v := 0) hx hb dX2_hasChart_22 (by decide) ?_
      exact W.zret (v := 0) hx hb hr rfl (fun t ht hW => ⟨⟨0, (), rfl, (by first | rfl | trivial | (simp only [Int32.lt_iff_toInt_lt, Int32.le_iff_toInt_le, ← Int32.toInt_inj, Int32.reduceToInt] at b_5 ⊢; (repeat' split) <;> first | rfl | omega) | (simp only [Int32.lt_iff_toInt_lt, Int32.le_iff_toInt_le, ← Int32.toInt_inj, Int32.reduceToInt] at *; omega) | grind), trivial⟩, hS.F ht⟩) hS.2.2 dX2_hasChart_23
    · skip
      exact absurd (by decide) c_7
set_option maxRecDepth 20000 in
theorem iw_X2_chartsThere_X2 : ∀ w ∈ wsX20, w ∈ wsX2_chartsThere := by decide +kernel
set_option maxHeartbeats 4000000 in
set_option maxRecDepth 100000 in
/-- chartsThere: no charts -/
theorem c_X2_chartsThere (l : Launch) (dC : Nat → ClassId) (dI : Nat → Nat → Nat) (sz : Nat) (sea : Nat) (lc : Nat) (ct : Nat) (ch : Nat) (cZ : ClassId)  : Met l yX2_chartsThere wsX2_chartsThere ({ frames := 0, cells := 0, slots := 0, locals := 0 }) (va_Pc [.ref sea] (fun U => U.heap.size = sz ∧ va_P (dC, dI) vwCl [(sea, .inr (3, [.ref lc, .ref ct, .ref ch])), (ct, .inl (cZ, 12, .inl (fun _ => 0)))] U.heap ∧ va_K (dC, dI) vwCl [(cZ, .boolean)] U ∧ NW U)) (va_Qi (fun (r : Int32) (_ : Unit) => r = 0) (fun _ _ => True) (va_A [] sz)) 0 0 (va_A [] sz) := by
  refine Met.ofW (cc := cX2_chartsThere) (maxL := 3) (ret := (some .int)) (by decide) rfl ?_
  intro p e s m args below meth c s₁ B hml hv
  obtain ⟨rfl, hsz, hP, hK, hN⟩ := hv
  have hx := B.exec
  have hb := B.bytes
  have hr := B.returns
  have hts := atoms_spec (ws := wsX2_chartsThere) B.pre
  have hown : s.vm.findClass RX2 = some m.cls := findClass_of_methodNamed B.named
  have hlocks := B.notSynchronized
  subst hsz
  generalize hAe : va_A [] s.heap.size = A at ⊢
  have hA : ∀ q : Nat, s.heap.size ≤ q → A q := fun q h => by rw [← hAe]; exact Or.inr h
  have hS : va_S A s.heap s.heap [] := va_S.rf
  have hP : va_P (dC, dI) vwCl [(sea, .inr (3, [.ref lc, .ref ct, .ref ch])), (ct, .inl (cZ, 12, .inl (fun _ => 0)))] s.heap := hP
  have hl := lv_entry ([.ref sea]) (n := 3) (Nat.le_of_ble_eq_true rfl)
  rw [lg_entry_eq]
  generalize (lg_sl ([.ref sea]) ++ List.replicate (3 - (lg_sl ([.ref sea])).length) Slot.unset).toArray = ls at hl ⊢
  have hl : lv_has ls 3 [(0, .ref sea)] := hl
  refine lv_iconst (v := 0) hx hb dX2_chartsThere_0 (by decide) ?_
  refine lv_istore_n (lv' := [(1, .int 0), (0, .ref sea)]) hx hb dX2_chartsThere_1 rfl hl (by decide) rfl (fun ls hl => ?_)
  refine lv_iconst (v := 0) hx hb dX2_chartsThere_2 (by decide) ?_
  refine lv_istore_n (lv' := [(2, .int 0), (1, .int 0), (0, .ref sea)]) hx hb dX2_chartsThere_3 rfl hl (by decide) rfl (fun ls hl => ?_)
  refine lv_iload_n hx hb dX2_chartsThere_4 rfl (lv_at hl 0 rfl) ?_
  refine lv_bipush (v := 12) hx hb dX2_chartsThere_5 (by decide) ?_
  refine lv_icmp_ge (tgt := 28) hx hb dX2_chartsThere_7 (by decide) (fun c_1 => ?_) (fun c_1 => ?_)
  · skip
    exact absurd c_1 (by decide)
  · skip
    refine lv_aload_n hx hb dX2_chartsThere_10 rfl (lv_at hl 2 rfl) ?_
    refine va_get (D := (dC, dI)) (ci := 3) (v := .ref ct) (C := RX2) (T := TX2) (N := 3) hx hb hts iw_X2_chartsThere_X2 hown hK hP 0 rfl rfl 1 (by decide) (hts (.fieldLink RX2 15 "TeaRace$Sea" "chartThere" "[Z") (by decide +kernel)) (fun _ h9 => h9) rfl dX2_chartsThere_11 ?_
    refine lv_iload_n hx hb dX2_chartsThere_14 rfl (lv_at hl 0 rfl) ?_
    refine va_zald hx hb hK hP 1 0 rfl rfl (vp_in_iff.mpr (by decide +kernel)) dX2_chartsThere_15 ?_
    refine lv_topi (fun x_2 ex_2 => ?_)
    obtain rfl : x_2 = 0 := ex_2
    refine lv_if_eq (tgt := 22) hx hb dX2_chartsThere_16 (by decide) (fun c_3 => ?_) (fun c_3 => ?_)
    · skip
      refine lv_iinc (v := 1) (lv' := [(2, .int 1), (1, .int 0), (0, .ref sea)]) hx hb dX2_chartsThere_22 hl (k := 0) rfl (by decide +kernel) (by decide) rfl (fun ls hl => ?_)
      refine lv_goto (tgt := 4) hx hb dX2_chartsThere_25 (by decide) ?_
      refine lv_iload_n hx hb dX2_chartsThere_4 rfl (lv_at hl 0 rfl) ?_
      refine lv_bipush (v := 12) hx hb dX2_chartsThere_5 (by decide) ?_
      refine lv_icmp_ge (tgt := 28) hx hb dX2_chartsThere_7 (by decide) (fun c_5 => ?_) (fun c_5 => ?_)
      · skip
        exact absurd c_5 (by decide)
      · skip
        refine lv_aload_n hx hb dX2_chartsThere_10 rfl (lv_at hl 2 rfl) ?_
        refine va_get (D := (dC, dI)) (ci := 3) (v := .ref ct) (C := RX2) (T := TX2) (N := 3) hx hb hts iw_X2_chartsThere_X2 hown hK hP 0 rfl rfl 1 (by decide) (hts (.fieldLink RX2 15 "TeaRace$Sea" "chartThere" "[Z") (by decide +kernel)) (fun _ h9 => h9) rfl dX2_chartsThere_11 ?_
        refine lv_iload_n hx hb dX2_chartsThere_14 rfl (lv_at hl 0 rfl) ?_
        refine va_zald hx hb hK hP 1 0 rfl rfl (vp_in_iff.mpr (by decide +kernel)) dX2_chartsThere_15 ?_
        refine lv_topi (fun x_6 ex_6 => ?_)
        obtain rfl : x_6 = 0 := ex_6
        refine lv_if_eq (tgt := 22) hx hb dX2_chartsThere_16 (by decide) (fun c_7 => ?_) (fun c_7 => ?_)
        · skip
          refine lv_iinc (v := 2) (lv' := [(2, .int 2), (1, .int 0), (0, .ref sea)]) hx hb dX2_chartsThere_22 hl (k := 0) rfl (by decide +kernel) (by decide) rfl (fun ls hl => ?_)
          refine lv_goto (tgt := 4) hx hb dX2_chartsThere_25 (by decide) ?_
          refine lv_iload_n hx hb dX2_chartsThere_4 rfl (lv_at hl 0 rfl) ?_
          refine lv_bipush (v := 12) hx hb dX2_chartsThere_5 (by decide) ?_
          refine lv_icmp_ge (tgt := 28) hx hb dX2_chartsThere_7 (by decide) (fun c_9 => ?_) (fun c_9 => ?_)
          · skip
            exact absurd c_9 (by decide)
          · skip
            refine lv_aload_n hx hb dX2_chartsThere_10 rfl (lv_at hl 2 rfl) ?_
            refine va_get (D := (dC, dI)) (ci := 3) (v := .ref ct) (C := RX2) (T := TX2) (N := 3) hx hb hts iw_X2_chartsThere_X2 hown hK hP 0 rfl rfl 1 (by decide) (hts (.fieldLink RX2 15 "TeaRace$Sea" "chartThere" "[Z") (by decide +kernel)) (fun _ h9 => h9) rfl dX2_chartsThere_11 ?_
            refine lv_iload_n hx hb dX2_chartsThere_14 rfl (lv_at hl 0 rfl) ?_
            refine va_zald hx hb hK hP 1 0 rfl rfl (vp_in_iff.mpr (by decide +kernel)) dX2_chartsThere_15 ?_
            refine lv_topi (fun x_10 ex_10 => ?_)
            obtain rfl : x_10 = 0 := ex_10
            refine lv_if_eq (tgt := 22) hx hb dX2_chartsThere_16 (by decide) (fun c_11 => ?_) (fun c_11 => ?_)
            · skip
              refine lv_iinc (v := 3) (lv' := [(2, .int 3), (1, .int 0), (0, .ref sea)]) hx hb dX2_chartsThere_22 hl (k := 0) rfl (by decide +kernel) (by decide) rfl (fun ls hl => ?_)
              refine lv_goto (tgt := 4) hx hb dX2_chartsThere_25 (by decide) ?_
              refine lv_iload_n hx hb dX2_chartsThere_4 rfl (lv_at hl 0 rfl) ?_
              refine lv_bipush (v := 12) hx hb dX2_chartsThere_5 (by decide) ?_
              refine lv_icmp_ge (tgt := 28) hx hb dX2_chartsThere_7 (by decide) (fun c_13 => ?_) (fun c_13 => ?_)
              · skip
                exact absurd c_13 (by decide)
              · skip
                refine lv_aload_n hx hb dX2_chartsThere_10 rfl (lv_at hl 2 rfl) ?_
                refine va_get (D := (dC, dI)) (ci := 3) (v := .ref ct) (C := RX2) (T := TX2) (N := 3) hx hb hts iw_X2_chartsThere_X2 hown hK hP 0 rfl rfl 1 (by decide) (hts (.fieldLink RX2 15 "TeaRace$Sea" "chartThere" "[Z") (by decide +kernel)) (fun _ h9 => h9) rfl dX2_chartsThere_11 ?_
                refine lv_iload_n hx hb dX2_chartsThere_14 rfl (lv_at hl 0 rfl) ?_
                refine va_zald hx hb hK hP 1 0 rfl rfl (vp_in_iff.mpr (by decide +kernel)) dX2_chartsThere_15 ?_
                refine lv_topi (fun x_14 ex_14 => ?_)
                obtain rfl : x_14 = 0 := ex_14
                refine lv_if_eq (tgt := 22) hx hb dX2_chartsThere_16 (by decide) (fun c_15 => ?_) (fun c_15 => ?_)
                · skip
                  refine lv_iinc (v := 4) (lv' := [(2, .int 4), (1, .int 0), (0, .ref sea)]) hx hb dX2_chartsThere_22 hl (k := 0) rfl (by decide +kernel) (by decide) rfl (fun ls hl => ?_)
                  refine lv_goto (tgt := 4) hx hb dX2_chartsThere_25 (by decide) ?_
                  refine lv_iload_n hx hb dX2_chartsThere_4 rfl (lv_at hl 0 rfl) ?_
                  refine lv_bipush (v := 12) hx hb dX2_chartsThere_5 (by decide) ?_
                  refine lv_icmp_ge (tgt := 28) hx hb dX2_chartsThere_7 (by decide) (fun c_17 => ?_) (fun c_17 => ?_)
                  · skip
                    exact absurd c_17 (by decide)
                  · skip
                    refine lv_aload_n hx hb dX2_chartsThere_10 rfl (lv_at hl 2 rfl) ?_
                    refine va_get (D := (dC, dI)) (ci := 3) (v := .ref ct) (C := RX2) (T := TX2) (N := 3) hx hb hts iw_X2_chartsThere_X2 hown hK hP 0 rfl rfl 1 (by decide) (hts (.fieldLink RX2 15 "TeaRace$Sea" "chartThere" "[Z") (by decide +kernel)) (fun _ h9 => h9) rfl dX2_chartsThere_11 ?_
                    refine lv_iload_n hx hb dX2_chartsThere_14 rfl (lv_at hl 0 rfl) ?_
                    refine va_zald hx hb hK hP 1 0 rfl rfl (vp_in_iff.mpr (by decide +kernel)) dX2_chartsThere_15 ?_
                    refine lv_topi (fun x_18 ex_18 => ?_)
                    obtain rfl : x_18 = 0 := ex_18
                    refine lv_if_eq (tgt := 22) hx hb dX2_chartsThere_16 (by decide) (fun c_19 => ?_) (fun c_19 => ?_)
                    · skip
                      refine lv_iinc (v := 5) (lv' := [(2, .int 5), (1, .int 0), (0, .ref sea)]) hx hb dX2_chartsThere_22 hl (k := 0) rfl (by decide +kernel) (by decide) rfl (fun ls hl => ?_)
                      refine lv_goto (tgt := 4) hx hb dX2_chartsThere_25 (by decide) ?_
                      refine lv_iload_n hx hb dX2_chartsThere_4 rfl (lv_at hl 0 rfl) ?_
                      refine lv_bipush (v := 12) hx hb dX2_chartsThere_5 (by decide) ?_
                      refine lv_icmp_ge (tgt := 28) hx hb dX2_chartsThere_7 (by decide) (fun c_21 => ?_) (fun c_21 => ?_)
                      · skip
                        exact absurd c_21 (by decide)
                      · skip
                        refine lv_aload_n hx hb dX2_chartsThere_10 rfl (lv_at hl 2 rfl) ?_
                        refine va_get (D := (dC, dI)) (ci := 3) (v := .ref ct) (C := RX2) (T := TX2) (N := 3) hx hb hts iw_X2_chartsThere_X2 hown hK hP 0 rfl rfl 1 (by decide) (hts (.fieldLink RX2 15 "TeaRace$Sea" "chartThere" "[Z") (by decide +kernel)) (fun _ h9 => h9) rfl dX2_chartsThere_11 ?_
                        refine lv_iload_n hx hb dX2_chartsThere_14 rfl (lv_at hl 0 rfl) ?_
                        refine va_zald hx hb hK hP 1 0 rfl rfl (vp_in_iff.mpr (by decide +kernel)) dX2_chartsThere_15 ?_
                        refine lv_topi (fun x_22 ex_22 => ?_)
                        obtain rfl : x_22 = 0 := ex_22
                        refine lv_if_eq (tgt := 22) hx hb dX2_chartsThere_16 (by decide) (fun c_23 => ?_) (fun c_23 => ?_)
                        · skip
                          refine lv_iinc (v := 6) (lv' := [(2, .int 6), (1, .int 0), (0, .ref sea)]) hx hb dX2_chartsThere_22 hl (k := 0) rfl (by decide +kernel) (by decide) rfl (fun ls hl => ?_)
                          refine lv_goto (tgt := 4) hx hb dX2_chartsThere_25 (by decide) ?_
                          refine lv_iload_n hx hb dX2_chartsThere_4 rfl (lv_at hl 0 rfl) ?_
                          refine lv_bipush (v := 12) hx hb dX2_chartsThere_5 (by decide) ?_
                          refine lv_icmp_ge (tgt := 28) hx hb dX2_chartsThere_7 (by decide) (fun c_25 => ?_) (fun c_25 => ?_)
                          · skip
                            exact absurd c_25 (by decide)
                          · skip
                            refine lv_aload_n hx hb dX2_chartsThere_10 rfl (lv_at hl 2 rfl) ?_
                            refine va_get (D := (dC, dI)) (ci := 3) (v := .ref ct) (C := RX2) (T := TX2) (N := 3) hx hb hts iw_X2_chartsThere_X2 hown hK hP 0 rfl rfl 1 (by decide) (hts (.fieldLink RX2 15 "TeaRace$Sea" "chartThere" "[Z") (by decide +kernel)) (fun _ h9 => h9) rfl dX2_chartsThere_11 ?_
                            refine lv_iload_n hx hb dX2_chartsThere_14 rfl (lv_at hl 0 rfl) ?_
                            refine va_zald hx hb hK hP 1 0 rfl rfl (vp_in_iff.mpr (by decide +kernel)) dX2_chartsThere_15 ?_
                            refine lv_topi (fun x_26 ex_26 => ?_)
                            obtain rfl : x_26 = 0 := ex_26
                            refine lv_if_eq (tgt := 22) hx hb dX2_chartsThere_16 (by decide) (fun c_27 => ?_) (fun c_27 => ?_)
                            · skip
                              refine lv_iinc (v := 7) (lv' := [(2, .int 7), (1, .int 0), (0, .ref sea)]) hx hb dX2_chartsThere_22 hl (k := 0) rfl (by decide +kernel) (by decide) rfl (fun ls hl => ?_)
                              refine lv_goto (tgt := 4) hx hb dX2_chartsThere_25 (by decide) ?_
                              refine lv_iload_n hx hb dX2_chartsThere_4 rfl (lv_at hl 0 rfl) ?_
                              refine lv_bipush (v := 12) hx hb dX2_chartsThere_5 (by decide) ?_
                              refine lv_icmp_ge (tgt := 28) hx hb dX2_chartsThere_7 (by decide) (fun c_29 => ?_) (fun c_29 => ?_)
                              · skip
                                exact absurd c_29 (by decide)
                              · skip
                                refine lv_aload_n hx hb dX2_chartsThere_10 rfl (lv_at hl 2 rfl) ?_
                                refine va_get (D := (dC, dI)) (ci := 3) (v := .ref ct) (C := RX2) (T := TX2) (N := 3) hx hb hts iw_X2_chartsThere_X2 hown hK hP 0 rfl rfl 1 (by decide) (hts (.fieldLink RX2 15 "TeaRace$Sea" "chartThere" "[Z") (by decide +kernel)) (fun _ h9 => h9) rfl dX2_chartsThere_11 ?_
                                refine lv_iload_n hx hb dX2_chartsThere_14 rfl (lv_at hl 0 rfl) ?_
                                refine va_zald hx hb hK hP 1 0 rfl rfl (vp_in_iff.mpr (by decide +kernel)) dX2_chartsThere_15 ?_
                                refine lv_topi (fun x_30 ex_30 => ?_)
                                obtain rfl : x_30 = 0 := ex_30
                                refine lv_if_eq (tgt := 22) hx hb dX2_chartsThere_16 (by decide) (fun c_31 => ?_) (fun c_31 => ?_)
                                · skip
                                  refine lv_iinc (v := 8) (lv' := [(2, .int 8), (1, .int 0), (0, .ref sea)]) hx hb dX2_chartsThere_22 hl (k := 0) rfl (by decide +kernel) (by decide) rfl (fun ls hl => ?_)
                                  refine lv_goto (tgt := 4) hx hb dX2_chartsThere_25 (by decide) ?_
                                  refine lv_iload_n hx hb dX2_chartsThere_4 rfl (lv_at hl 0 rfl) ?_
                                  refine lv_bipush (v := 12) hx hb dX2_chartsThere_5 (by decide) ?_
                                  refine lv_icmp_ge (tgt := 28) hx hb dX2_chartsThere_7 (by decide) (fun c_33 => ?_) (fun c_33 => ?_)
                                  · skip
                                    exact absurd c_33 (by decide)
                                  · skip
                                    refine lv_aload_n hx hb dX2_chartsThere_10 rfl (lv_at hl 2 rfl) ?_
                                    refine va_get (D := (dC, dI)) (ci := 3) (v := .ref ct) (C := RX2) (T := TX2) (N := 3) hx hb hts iw_X2_chartsThere_X2 hown hK hP 0 rfl rfl 1 (by decide) (hts (.fieldLink RX2 15 "TeaRace$Sea" "chartThere" "[Z") (by decide +kernel)) (fun _ h9 => h9) rfl dX2_chartsThere_11 ?_
                                    refine lv_iload_n hx hb dX2_chartsThere_14 rfl (lv_at hl 0 rfl) ?_
                                    refine va_zald hx hb hK hP 1 0 rfl rfl (vp_in_iff.mpr (by decide +kernel)) dX2_chartsThere_15 ?_
                                    refine lv_topi (fun x_34 ex_34 => ?_)
                                    obtain rfl : x_34 = 0 := ex_34
                                    refine lv_if_eq (tgt := 22) hx hb dX2_chartsThere_16 (by decide) (fun c_35 => ?_) (fun c_35 => ?_)
                                    · skip
                                      refine lv_iinc (v := 9) (lv' := [(2, .int 9), (1, .int 0), (0, .ref sea)]) hx hb dX2_chartsThere_22 hl (k := 0) rfl (by decide +kernel) (by decide) rfl (fun ls hl => ?_)
                                      refine lv_goto (tgt := 4) hx hb dX2_chartsThere_25 (by decide) ?_
                                      refine lv_iload_n hx hb dX2_chartsThere_4 rfl (lv_at hl 0 rfl) ?_
                                      refine lv_bipush (v := 12) hx hb dX2_chartsThere_5 (by decide) ?_
                                      refine lv_icmp_ge (tgt := 28) hx hb dX2_chartsThere_7 (by decide) (fun c_37 => ?_) (fun c_37 => ?_)
                                      · skip
                                        exact absurd c_37 (by decide)
                                      · skip
                                        refine lv_aload_n hx hb dX2_chartsThere_10 rfl (lv_at hl 2 rfl) ?_
                                        refine va_get (D := (dC, dI)) (ci := 3) (v := .ref ct) (C := RX2) (T := TX2) (N := 3) hx hb hts iw_X2_chartsThere_X2 hown hK hP 0 rfl rfl 1 (by decide) (hts (.fieldLink RX2 15 "TeaRace$Sea" "chartThere" "[Z") (by decide +kernel)) (fun _ h9 => h9) rfl dX2_chartsThere_11 ?_
                                        refine lv_iload_n hx hb dX2_chartsThere_14 rfl (lv_at hl 0 rfl) ?_
                                        refine va_zald hx hb hK hP 1 0 rfl rfl (vp_in_iff.mpr (by decide +kernel)) dX2_chartsThere_15 ?_
                                        refine lv_topi (fun x_38 ex_38 => ?_)
                                        obtain rfl : x_38 = 0 := ex_38
                                        refine lv_if_eq (tgt := 22) hx hb dX2_chartsThere_16 (by decide) (fun c_39 => ?_) (fun c_39 => ?_)
                                        · skip
                                          refine lv_iinc (v := 10) (lv' := [(2, .int 10), (1, .int 0), (0, .ref sea)]) hx hb dX2_chartsThere_22 hl (k := 0) rfl (by decide +kernel) (by decide) rfl (fun ls hl => ?_)
                                          refine lv_goto (tgt := 4) hx hb dX2_chartsThere_25 (by decide) ?_
                                          refine lv_iload_n hx hb dX2_chartsThere_4 rfl (lv_at hl 0 rfl) ?_
                                          refine lv_bipush (v := 12) hx hb dX2_chartsThere_5 (by decide) ?_
                                          refine lv_icmp_ge (tgt := 28) hx hb dX2_chartsThere_7 (by decide) (fun c_41 => ?_) (fun c_41 => ?_)
                                          · skip
                                            exact absurd c_41 (by decide)
                                          · skip
                                            refine lv_aload_n hx hb dX2_chartsThere_10 rfl (lv_at hl 2 rfl) ?_
                                            refine va_get (D := (dC, dI)) (ci := 3) (v := .ref ct) (C := RX2) (T := TX2) (N := 3) hx hb hts iw_X2_chartsThere_X2 hown hK hP 0 rfl rfl 1 (by decide) (hts (.fieldLink RX2 15 "TeaRace$Sea" "chartThere" "[Z") (by decide +kernel)) (fun _ h9 => h9) rfl dX2_chartsThere_11 ?_
                                            refine lv_iload_n hx hb dX2_chartsThere_14 rfl (lv_at hl 0 rfl) ?_
                                            refine va_zald hx hb hK hP 1 0 rfl rfl (vp_in_iff.mpr (by decide +kernel)) dX2_chartsThere_15 ?_
                                            refine lv_topi (fun x_42 ex_42 => ?_)
                                            obtain rfl : x_42 = 0 := ex_42
                                            refine lv_if_eq (tgt := 22) hx hb dX2_chartsThere_16 (by decide) (fun c_43 => ?_) (fun c_43 => ?_)
                                            · skip
                                              refine lv_iinc (v := 11) (lv' := [(2, .int 11), (1, .int 0), (0, .ref sea)]) hx hb dX2_chartsThere_22 hl (k := 0) rfl (by decide +kernel) (by decide) rfl (fun ls hl => ?_)
                                              refine lv_goto (tgt := 4) hx hb dX2_chartsThere_25 (by decide) ?_
                                              refine lv_iload_n hx hb dX2_chartsThere_4 rfl (lv_at hl 0 rfl) ?_
                                              refine lv_bipush (v := 12) hx hb dX2_chartsThere_5 (by decide) ?_
                                              refine lv_icmp_ge (tgt := 28) hx hb dX2_chartsThere_7 (by decide) (fun c_45 => ?_) (fun c_45 => ?_)
                                              · skip
                                                exact absurd c_45 (by decide)
                                              · skip
                                                refine lv_aload_n hx hb dX2_chartsThere_10 rfl (lv_at hl 2 rfl) ?_
                                                refine va_get (D := (dC, dI)) (ci := 3) (v := .ref ct) (C := RX2) (T := TX2) (N := 3) hx hb hts iw_X2_chartsThere_X2 hown hK hP 0 rfl rfl 1 (by decide) (hts (.fieldLink RX2 15 "TeaRace$Sea" "chartThere" "[Z") (by decide +kernel)) (fun _ h9 => h9) rfl dX2_chartsThere_11 ?_
                                                refine lv_iload_n hx hb dX2_chartsThere_14 rfl (lv_at hl 0 rfl) ?_
                                                refine va_zald hx hb hK hP 1 0 rfl rfl (vp_in_iff.mpr (by decide +kernel)) dX2_chartsThere_15 ?_
                                                refine lv_topi (fun x_46 ex_46 => ?_)
                                                obtain rfl : x_46 = 0 := ex_46
                                                refine lv_if_eq (tgt := 22) hx hb dX2_chartsThere_16 (by decide) (fun c_47 => ?_) (fun c_47 => ?_)
                                                · skip
                                                  refine lv_iinc (v := 12) (lv' := [(2, .int 12), (1, .int 0), (0, .ref sea)]) hx hb dX2_chartsThere_22 hl (k := 0) rfl (by decide +kernel) (by decide) rfl (fun ls hl => ?_)
                                                  refine lv_goto (tgt := 4) hx hb dX2_chartsThere_25 (by decide) ?_
                                                  refine lv_iload_n hx hb dX2_chartsThere_4 rfl (lv_at hl 0 rfl) ?_
                                                  refine lv_bipush (v := 12) hx hb dX2_chartsThere_5 (by decide) ?_
                                                  refine lv_icmp_ge (tgt := 28) hx hb dX2_chartsThere_7 (by decide) (fun c_49 => ?_) (fun c_49 => ?_)
                                                  · skip
                                                    refine lv_iload_n hx hb dX2_chartsThere_28 rfl (lv_at hl 1 rfl) ?_
                                                    exact W.iret (v := 0) hx hb hr (fun t ht hW => ⟨⟨0, (), rfl, (by first | rfl | trivial | (simp; done)), trivial⟩, hS.F ht⟩) hS.2.2 dX2_chartsThere_29
                                                  · skip
                                                    exact absurd (by decide) c_49
                                                · skip
                                                  exact absurd (by decide) c_47
                                            · skip
                                              exact absurd (by decide) c_43
                                        · skip
                                          exact absurd (by decide) c_39
                                    · skip
                                      exact absurd (by decide) c_35
                                · skip
                                  exact absurd (by decide) c_31
                            · skip
                              exact absurd (by decide) c_27
                        · skip
                          exact absurd (by decide) c_23
                    · skip
                      exact absurd (by decide) c_19
                · skip
                  exact absurd (by decide) c_15
            · skip
              exact absurd (by decide) c_11
        · skip
          exact absurd (by decide) c_7
    · skip
      exact absurd (by decide) c_3
set_option maxHeartbeats 4000000 in
set_option maxRecDepth 100000 in
/-- digestChart: no chart -/
theorem c_X2_digestChart (l : Launch) (dC : Nat → ClassId) (dI : Nat → Nat → Nat) (sz : Nat) (sea : Nat) (lc : Nat) (ct : Nat) (ch : Nat) (cZ : ClassId) (a0 : Int32) (b0 : Int64)  : Met l yX2_digestChart wsX2_digestChart ({ frames := 2, cells := 0, slots := 0, locals := 42 }) (va_Pc [.ref sea, .int a0, .long b0] (fun U => U.heap.size = sz ∧ va_P (dC, dI) vwCl [(sea, .inr (3, [.ref lc, .ref ct, .ref ch])), (ct, .inl (cZ, 12, .inl (fun _ => 0)))] U.heap ∧ va_K (dC, dI) vwCl [(cZ, .boolean)] U ∧ NW U)) (va_Ql (fun (r : Int64) (_ : Unit) => r = 31 * b0 - 1) (fun _ _ => True) (va_A [] sz)) 0 0 (va_A [] sz) := by
  refine Met.ofW (cc := cX2_digestChart) (maxL := 7) (ret := (some .long)) (by decide) rfl ?_
  intro p e s m args below meth c s₁ B hml hv
  obtain ⟨rfl, hsz, hP, hK, hN⟩ := hv
  have hx := B.exec
  have hb := B.bytes
  have hr := B.returns
  have hts := atoms_spec (ws := wsX2_digestChart) B.pre
  have hown : s.vm.findClass RX2 = some m.cls := findClass_of_methodNamed B.named
  have hlocks := B.notSynchronized
  subst hsz
  generalize hAe : va_A [] s.heap.size = A at ⊢
  have hA : ∀ q : Nat, s.heap.size ≤ q → A q := fun q h => by rw [← hAe]; exact Or.inr h
  have hS : va_S A s.heap s.heap [] := va_S.rf
  have hP : va_P (dC, dI) vwCl [(sea, .inr (3, [.ref lc, .ref ct, .ref ch])), (ct, .inl (cZ, 12, .inl (fun _ => 0)))] s.heap := hP
  have hl := lv_entry ([.ref sea, .int a0, .long b0]) (n := 7) (Nat.le_of_ble_eq_true rfl)
  rw [lg_entry_eq]
  generalize (lg_sl ([.ref sea, .int a0, .long b0]) ++ List.replicate (7 - (lg_sl ([.ref sea, .int a0, .long b0])).length) Slot.unset).toArray = ls at hl ⊢
  have hl : lv_has ls 7 [(0, .ref sea), (1, .int a0), (2, .long b0)] := hl
  refine lv_aload_n hx hb dX2_digestChart_0 rfl (lv_at hl 0 rfl) ?_
  refine lv_iload_n hx hb dX2_digestChart_1 rfl (lv_at hl 1 rfl) ?_
  have hPc := hP.sub (ws' := [(sea, .inr (3, [.ref lc, .ref ct, .ref ch])), (ct, .inl (cZ, 12, .inl (fun _ => 0)))]) [0, 1] rfl
  have hKc := hK.sub (tys' := [(cZ, .boolean)]) [0] rfl
  refine va_calli (va_runV (As := [.int a0]) (rest := []) ⟨hx, hb, hml, hown, hts⟩ (c_X2_hasChart l dC dI s.heap.size sea lc ct ch cZ a0 ) (cwV 1 hts gX2_digestChart_X2_hasChart rfl rfl rfl (by decide +kernel) ⟨Nat.le_of_ble_eq_true rfl, Nat.le_of_ble_eq_true rfl⟩) ⟨fun a U g mk q => by obtain ⟨q0, q1, qP, qK, qN⟩ := q; exact ⟨q0, q1, qP, va_K.moved (u := U) (U := U.calling g mk a) (Vm.Alike.refl U.vm) qK, NW.same (u := U) (U := U.calling g mk a) rfl qN⟩, va_recv hKc hPc (ci := 3) (q0 := 0) rfl rfl, fun U hU hW => ⟨rfl, by rw [hU], by rw [hU]; exact hPc, va_K.moved hW.alike hKc, NW.warm hW hN⟩⟩ rfl rfl hl.1 rfl (lv_room (Nat.le_of_ble_eq_true rfl)) dX2_digestChart_2 ⟨(Nat.zero_le _), (Nat.zero_le _)⟩) hS (fun q _ h => ro_A hS hA q h) (ro_A hS hA) (fun r_1 u t H1 locs ht hvm k_2 hB hz1 hk1 hS => ?_)
  have hP := ro_P hk1 hP
  generalize H1 = H at hP hS ⊢
  try dsimp only at k_2
  obtain rfl : r_1 = 0 := k_2
  refine lv_if_ne (tgt := 16) hx hb dX2_digestChart_5 (by decide) (fun c_3 => ?_) (fun c_3 => ?_)
  · skip
    exact absurd (by decide) c_3
  · skip
    refine lv_ldc2 (v := (31)) hx hb hown (hts (.constantLong RX2 53 (31)) (by decide +kernel)) dX2_digestChart_8 ?_
    refine lv_lload_n hx hb dX2_digestChart_11 rfl (lv_at hl 2 rfl) ?_
    refine lv_lmul hx hb dX2_digestChart_12 ?_
    refine lv_topl (fun w_4 ew_4 => ?_)
    refine lv_lconst (v := 1) hx hb dX2_digestChart_13 (by decide) ?_
    refine lv_lsub hx hb dX2_digestChart_14 ?_
    refine lv_topl (fun w_5 ew_5 => ?_)
    exact W.lret (v := w_5) hx hb hr (fun t ht hW => ⟨⟨w_5, (), rfl, (by first | rfl | (simp only [ew_5, ew_4]; done) | grind), trivial⟩, hS.F ht⟩) hS.2.2 dX2_digestChart_15
set_option maxRecDepth 20000 in
theorem iw_X2_setLand_X2 : ∀ w ∈ wsX20, w ∈ wsX2_setLand := by decide +kernel
set_option maxHeartbeats 4000000 in
set_option maxRecDepth 100000 in
/-- setLand (nothing is said of the cells) -/
theorem c_X2_setLand (l : Launch) (dC : Nat → ClassId) (dI : Nat → Nat → Nat) (sz : Nat) (sea : Nat) (lc : Nat) (ct : Nat) (ch : Nat) (cZ : ClassId) (a0 : Int32) (b0 : Int32)  : Met l yX2_setLand wsX2_setLand ({ frames := 1, cells := 0, slots := 0, locals := 21 }) (va_Pc [.ref sea, .int a0, .int b0] (fun U => U.heap.size = sz ∧ va_P (dC, dI) vwCl [(sea, .inr (3, [.ref lc, .ref ct, .ref ch])), (lc, .inl (cZ, 160, .inl (fun _ => 0)))] U.heap ∧ va_K (dC, dI) vwCl [(cZ, .boolean)] U ∧ NW U ∧ va_D (fun _ => True) [(sea, .inr (3, [.ref lc, .ref ct, .ref ch])), (lc, .inl (cZ, 160, .inl (fun _ => 0)))])) (va_Qv (fun (_ : Unit) => True) (fun _ _ => True) (va_A [(sea, .inr (3, [.ref lc, .ref ct, .ref ch])), (lc, .inl (cZ, 160, .inl (fun _ => 0)))] sz)) 0 0 (va_A [(sea, .inr (3, [.ref lc, .ref ct, .ref ch])), (lc, .inl (cZ, 160, .inl (fun _ => 0)))] sz) := by
  refine Met.ofW (cc := cX2_setLand) (maxL := 3) (ret := none) (by decide) rfl ?_
  intro p e s m args below meth c s₁ B hml hv
  obtain ⟨rfl, hsz, hP, hK, hN, hD0⟩ := hv
  have hx := B.exec
  have hb := B.bytes
  have hr := B.returns
  have hts := atoms_spec (ws := wsX2_setLand) B.pre
  have hown : s.vm.findClass RX2 = some m.cls := findClass_of_methodNamed B.named
  have hlocks := B.notSynchronized
  subst hsz
  have hD := hD0.self (sz := s.heap.size)
  generalize hAe : va_A [(sea, .inr (3, [.ref lc, .ref ct, .ref ch])), (lc, .inl (cZ, 160, .inl (fun _ => 0)))] s.heap.size = A at hD ⊢
  have hA : ∀ q : Nat, s.heap.size ≤ q → A q := fun q h => by rw [← hAe]; exact Or.inr h
  have hS : va_S A s.heap s.heap [] := va_S.rf
  have hP : va_P (dC, dI) vwCl [(sea, .inr (3, [.ref lc, .ref ct, .ref ch])), (lc, .inl (cZ, 160, .inl (fun _ => 0)))] s.heap := hP
  have hl := lv_entry ([.ref sea, .int a0, .int b0]) (n := 3) (Nat.le_of_ble_eq_true rfl)
  rw [lg_entry_eq]
  generalize (lg_sl ([.ref sea, .int a0, .int b0]) ++ List.replicate (3 - (lg_sl ([.ref sea, .int a0, .int b0])).length) Slot.unset).toArray = ls at hl ⊢
  have hl : lv_has ls 3 [(0, .ref sea), (1, .int a0), (2, .int b0)] := hl
  refine lv_iload_n hx hb dX2_setLand_0 rfl (lv_at hl 1 rfl) ?_
  refine lv_sipush (v := 159) hx hb dX2_setLand_1 (by decide) ?_
  refine va_calli (va_runSN (As := [.int a0, .int 159]) (rest := []) ⟨hx, hb, hml, hown, hts⟩ (c_X5_outside l s.heap.size a0 159 ) ⟨va_cnB 2 hts gX2_setLand_X5_outside_n23 rfl rfl rfl hN.nX2_23 (hts (.initialized RX5) (by decide +kernel)) (by decide +kernel) ⟨Nat.le_of_ble_eq_true rfl, Nat.le_of_ble_eq_true rfl⟩, hts (.static yX5_outside) (by decide +kernel), trivial⟩ ⟨fun a U g mk q => by obtain ⟨q0, q1⟩ := q; exact ⟨q0, q1⟩, fun U hU hW => ⟨rfl, congrArg Array.size hU⟩⟩ rfl rfl hl.1 rfl (lv_room (Nat.le_of_ble_eq_true rfl)) dX2_setLand_4 ⟨(Nat.zero_le _), (Nat.zero_le _)⟩) hS (fun q _ h => ro_A hS hA q h) (ro_A hS hA) (fun r_1 u t H1 locs ht hvm k_2 hB hz1 hk1 hS => ?_)
  have hP := ro_P hk1 hP
  generalize H1 = H at hP hS ⊢
  try dsimp only at k_2
  refine lv_if_ne (tgt := 17) hx hb dX2_setLand_7 (by decide) (fun c_3 => ?_) (fun c_3 => ?_)
  · skip
    have b_4 := b01n k_2 c_3
    exact W.vret hx hb hr (fun t ht hW => ⟨⟨(), rfl, (by first | rfl | trivial | (simp only [Int32.lt_iff_toInt_lt, Int32.le_iff_toInt_le, ← Int32.toInt_inj, Int32.reduceToInt] at b_4 ⊢; (repeat' split) <;> first | rfl | omega) | (simp only [Int32.lt_iff_toInt_lt, Int32.le_iff_toInt_le, ← Int32.toInt_inj, Int32.reduceToInt] at *; omega) | grind), trivial⟩, hS.F ht⟩) hS.2.2 dX2_setLand_17
  · skip
    have b_5 := b01z k_2 c_3
    refine lv_aload_n hx hb dX2_setLand_10 rfl (lv_at hl 0 rfl) ?_
    refine va_get (D := (dC, dI)) (ci := 3) (v := .ref lc) (C := RX2) (T := TX2) (N := 3) hx hb hts iw_X2_setLand_X2 hown hK hP 0 rfl rfl 0 (by decide) (hts (.fieldLink RX2 9 "TeaRace$Sea" "landCells" "[Z") (by decide +kernel)) (fun _ h9 => h9) rfl dX2_setLand_11 ?_
    refine lv_iload_n hx hb dX2_setLand_14 rfl (lv_at hl 1 rfl) ?_
    refine lv_iload_n hx hb dX2_setLand_15 rfl (lv_at hl 2 rfl) ?_
    refine va_zast hx hb hK hP hD hS 1 0 rfl rfl (vp_in_iff.mpr (by (try simp only [Int32.lt_iff_toInt_lt, Int32.le_iff_toInt_le, ← Int32.toInt_inj, Int32.reduceToInt] at b_5 ⊢); omega)) dX2_setLand_16 (fun H locs hP hD hS => ?_)
    have hP : va_P (dC, dI) vwCl [(sea, .inr (3, [.ref lc, .ref ct, .ref ch])), (lc, .inl (cZ, 160, .inl (upd (fun _ => 0) a0.toNatClampNeg (vp_nar .boolean b0))))] H := hP
    have hD : va_D A [(sea, .inr (3, [.ref lc, .ref ct, .ref ch])), (lc, .inl (cZ, 160, .inl (upd (fun _ => 0) a0.toNatClampNeg (vp_nar .boolean b0))))] := hD
    exact W.vret hx hb hr (fun t ht hW => ⟨⟨(), rfl, (by first | rfl | trivial | (simp only [Int32.lt_iff_toInt_lt, Int32.le_iff_toInt_le, ← Int32.toInt_inj, Int32.reduceToInt] at b_5 ⊢; (repeat' split) <;> first | rfl | omega) | (simp only [Int32.lt_iff_toInt_lt, Int32.le_iff_toInt_le, ← Int32.toInt_inj, Int32.reduceToInt] at *; omega) | grind), trivial⟩, hS.F ht⟩) hS.2.2 dX2_setLand_17
set_option maxRecDepth 20000 in
theorem iw_X5_found_X5 : ∀ w ∈ wsX50, w ∈ wsX5_found := by decide +kernel
set_option maxHeartbeats 4000000 in
set_option maxRecDepth 100000 in
/-- found (nothing is said of the cells) -/
theorem c_X5_found (l : Launch) (dC : Nat → ClassId) (dI : Nat → Nat → Nat) (sz : Nat) (h0 : Nat) (sea : Nat) (pas : Nat) (fl : Nat) (fc : Nat) (cI : ClassId) (a0 : Int32)  : Met l yX5_found wsX5_found ({ frames := 0, cells := 0, slots := 0, locals := 0 }) (va_Pc [.ref h0, .int a0] (fun U => U.heap.size = sz ∧ va_P (dC, dI) vwCl [(h0, .inr (6, [.ref sea, .ref pas, .ref fl, .ref fc, .int 0, .int 0, .int 0, .int 0, .int 0, .int 100, .int 1, .long 0])), (fc, .inl (cI, 6, .inl (fun _ => 0)))] U.heap ∧ va_K (dC, dI) vwCl [(cI, .int)] U ∧ NW U ∧ va_D (fun _ => True) [(h0, .inr (6, [.ref sea, .ref pas, .ref fl, .ref fc, .int 0, .int 0, .int 0, .int 0, .int 0, .int 100, .int 1, .long 0])), (fc, .inl (cI, 6, .inl (fun _ => 0)))])) (va_Qi (fun (r : Int32) (_ : Unit) => r = (-3)) (fun _ _ => True) (va_A [(h0, .inr (6, [.ref sea, .ref pas, .ref fl, .ref fc, .int 0, .int 0, .int 0, .int 0, .int 0, .int 100, .int 1, .long 0])), (fc, .inl (cI, 6, .inl (fun _ => 0)))] sz)) 0 0 (va_A [(h0, .inr (6, [.ref sea, .ref pas, .ref fl, .ref fc, .int 0, .int 0, .int 0, .int 0, .int 0, .int 100, .int 1, .long 0])), (fc, .inl (cI, 6, .inl (fun _ => 0)))] sz) := by
  refine Met.ofW (cc := cX5_found) (maxL := 2) (ret := (some .int)) (by decide) rfl ?_
  intro p e s m args below meth c s₁ B hml hv
  obtain ⟨rfl, hsz, hP, hK, hN, hD0⟩ := hv
  have hx := B.exec
  have hb := B.bytes
  have hr := B.returns
  have hts := atoms_spec (ws := wsX5_found) B.pre
  have hown : s.vm.findClass RX5 = some m.cls := findClass_of_methodNamed B.named
  have hlocks := B.notSynchronized
  subst hsz
  have hD := hD0.self (sz := s.heap.size)
  generalize hAe : va_A [(h0, .inr (6, [.ref sea, .ref pas, .ref fl, .ref fc, .int 0, .int 0, .int 0, .int 0, .int 0, .int 100, .int 1, .long 0])), (fc, .inl (cI, 6, .inl (fun _ => 0)))] s.heap.size = A at hD ⊢
  have hA : ∀ q : Nat, s.heap.size ≤ q → A q := fun q h => by rw [← hAe]; exact Or.inr h
  have hS : va_S A s.heap s.heap [] := va_S.rf
  have hP : va_P (dC, dI) vwCl [(h0, .inr (6, [.ref sea, .ref pas, .ref fl, .ref fc, .int 0, .int 0, .int 0, .int 0, .int 0, .int 100, .int 1, .long 0])), (fc, .inl (cI, 6, .inl (fun _ => 0)))] s.heap := hP
  have hl := lv_entry ([.ref h0, .int a0]) (n := 2) (Nat.le_of_ble_eq_true rfl)
  rw [lg_entry_eq]
  generalize (lg_sl ([.ref h0, .int a0]) ++ List.replicate (2 - (lg_sl ([.ref h0, .int a0])).length) Slot.unset).toArray = ls at hl ⊢
  have hl : lv_has ls 2 [(0, .ref h0), (1, .int a0)] := hl
  refine lv_iload_n hx hb dX5_found_0 rfl (lv_at hl 1 rfl) ?_
  refine lv_iconst (v := 1) hx hb dX5_found_1 (by decide) ?_
  refine lv_icmp_lt (tgt := 25) hx hb dX5_found_2 (by decide) (fun c_1 => ?_) (fun c_1 => ?_)
  · skip
    refine lv_bipush (v := (-3)) hx hb dX5_found_25 (by decide) ?_
    exact W.iret (v := (-3)) hx hb hr (fun t ht hW => ⟨⟨(-3), (), rfl, (by first | rfl | trivial | (simp only [Int32.lt_iff_toInt_lt, Int32.le_iff_toInt_le, ← Int32.toInt_inj, Int32.reduceToInt] at c_1 ⊢; (repeat' split) <;> first | rfl | omega) | (simp only [Int32.lt_iff_toInt_lt, Int32.le_iff_toInt_le, ← Int32.toInt_inj, Int32.reduceToInt] at *; omega) | grind), trivial⟩, hS.F ht⟩) hS.2.2 dX5_found_27
  · skip
    refine lv_iload_n hx hb dX5_found_5 rfl (lv_at hl 1 rfl) ?_
    refine lv_iconst (v := 5) hx hb dX5_found_6 (by decide) ?_
    refine lv_icmp_gt (tgt := 25) hx hb dX5_found_7 (by decide) (fun c_2 => ?_) (fun c_2 => ?_)
    · skip
      refine lv_bipush (v := (-3)) hx hb dX5_found_25 (by decide) ?_
      exact W.iret (v := (-3)) hx hb hr (fun t ht hW => ⟨⟨(-3), (), rfl, (by first | rfl | trivial | (simp only [Int32.lt_iff_toInt_lt, Int32.le_iff_toInt_le, ← Int32.toInt_inj, Int32.reduceToInt] at c_1 c_2 ⊢; (repeat' split) <;> first | rfl | omega) | (simp only [Int32.lt_iff_toInt_lt, Int32.le_iff_toInt_le, ← Int32.toInt_inj, Int32.reduceToInt] at *; omega) | grind), trivial⟩, hS.F ht⟩) hS.2.2 dX5_found_27
    · skip
      refine lv_aload_n hx hb dX5_found_10 rfl (lv_at hl 0 rfl) ?_
      refine lv_iload_n hx hb dX5_found_11 rfl (lv_at hl 1 rfl) ?_
      refine va_put (D := (dC, dI)) (ci := 6) (v := .int a0) (ty := .int) (C := RX5) (T := TX5) (N := 12) hx hb hts iw_X5_found_X5 tyX5 tyX5_ok nmX5 hown hK hP hD hS 0 rfl rfl 4 (by decide) (hts (.fieldLink RX5 34 "TeaRace" "latestFinding" "I") (by decide +kernel)) (fun _ h9 => h9) rfl (by decide +kernel) rfl rfl (Nat.le_of_ble_eq_true rfl) dX5_found_12 (fun H locs hP hD hS => ?_)
      have hP : va_P (dC, dI) vwCl [(h0, .inr (6, [.ref sea, .ref pas, .ref fl, .ref fc, .int a0, .int 0, .int 0, .int 0, .int 0, .int 100, .int 1, .long 0])), (fc, .inl (cI, 6, .inl (fun _ => 0)))] H := hP
      have hD : va_D A [(h0, .inr (6, [.ref sea, .ref pas, .ref fl, .ref fc, .int a0, .int 0, .int 0, .int 0, .int 0, .int 100, .int 1, .long 0])), (fc, .inl (cI, 6, .inl (fun _ => 0)))] := hD
      refine lv_aload_n hx hb dX5_found_15 rfl (lv_at hl 0 rfl) ?_
      refine va_get (D := (dC, dI)) (ci := 6) (v := .ref fc) (C := RX5) (T := TX5) (N := 12) hx hb hts iw_X5_found_X5 hown hK hP 0 rfl rfl 3 (by decide) (hts (.fieldLink RX5 30 "TeaRace" "findingCounts" "[I") (by decide +kernel)) (fun _ h9 => h9) rfl dX5_found_16 ?_
      refine lv_iload_n hx hb dX5_found_19 rfl (lv_at hl 1 rfl) ?_
      refine lv_dup2_11 hx hb dX5_found_20 rfl rfl ?_
      refine va_iald hx hb hK hP 1 0 rfl rfl (vp_in_iff.mpr (by (try simp only [Int32.lt_iff_toInt_lt, Int32.le_iff_toInt_le, ← Int32.toInt_inj, Int32.reduceToInt] at c_1 c_2 ⊢); omega)) dX5_found_21 ?_
      refine lv_topi (fun x_3 ex_3 => ?_)
      obtain rfl : x_3 = 0 := ex_3
      refine lv_iconst (v := 1) hx hb dX5_found_22 (by decide) ?_
      refine lv_iadd hx hb dX5_found_23 ?_
      refine lv_topi (fun x_4 ex_4 => ?_)
      obtain rfl : x_4 = 1 := ex_4.trans (by decide +kernel)
      refine va_iast hx hb hK hP hD hS 1 0 rfl rfl (vp_in_iff.mpr (by (try simp only [Int32.lt_iff_toInt_lt, Int32.le_iff_toInt_le, ← Int32.toInt_inj, Int32.reduceToInt] at c_1 c_2 ⊢); omega)) dX5_found_24 (fun H locs hP hD hS => ?_)
      have hP : va_P (dC, dI) vwCl [(h0, .inr (6, [.ref sea, .ref pas, .ref fl, .ref fc, .int a0, .int 0, .int 0, .int 0, .int 0, .int 100, .int 1, .long 0])), (fc, .inl (cI, 6, .inl (upd (fun _ => 0) a0.toNatClampNeg 1)))] H := hP
      have hD : va_D A [(h0, .inr (6, [.ref sea, .ref pas, .ref fl, .ref fc, .int a0, .int 0, .int 0, .int 0, .int 0, .int 100, .int 1, .long 0])), (fc, .inl (cI, 6, .inl (upd (fun _ => 0) a0.toNatClampNeg 1)))] := hD
      refine lv_bipush (v := (-3)) hx hb dX5_found_25 (by decide) ?_
      exact W.iret (v := (-3)) hx hb hr (fun t ht hW => ⟨⟨(-3), (), rfl, (by first | rfl | trivial | (simp only [Int32.lt_iff_toInt_lt, Int32.le_iff_toInt_le, ← Int32.toInt_inj, Int32.reduceToInt] at c_1 c_2 ⊢; (repeat' split) <;> first | rfl | omega) | (simp only [Int32.lt_iff_toInt_lt, Int32.le_iff_toInt_le, ← Int32.toInt_inj, Int32.reduceToInt] at *; omega) | grind), trivial⟩, hS.F ht⟩) hS.2.2 dX5_found_27
set_option maxRecDepth 20000 in
theorem iw_X5_isNoWater_X5 : ∀ w ∈ wsX50, w ∈ wsX5_isNoWater := by decide +kernel
set_option maxHeartbeats 4000000 in
set_option maxRecDepth 100000 in
/-- isNoWater: no land -/
theorem c_X5_isNoWater (l : Launch) (dC : Nat → ClassId) (dI : Nat → Nat → Nat) (sz : Nat) (h0 : Nat) (sea : Nat) (pas : Nat) (fl : Nat) (fc : Nat) (lc : Nat) (ct : Nat) (ch : Nat) (cZ : ClassId) (a0 : Int32)  : Met l yX5_isNoWater wsX5_isNoWater ({ frames := 2, cells := 0, slots := 0, locals := 42 }) (va_Pc [.ref h0, .int a0] (fun U => U.heap.size = sz ∧ va_P (dC, dI) vwCl [(h0, .inr (6, [.ref sea, .ref pas, .ref fl, .ref fc, .int 0, .int 0, .int 0, .int 0, .int 0, .int 100, .int 1, .long 0])), (sea, .inr (3, [.ref lc, .ref ct, .ref ch])), (lc, .inl (cZ, 160, .inl (fun _ => 0)))] U.heap ∧ va_K (dC, dI) vwCl [(cZ, .boolean)] U ∧ NW U)) (va_Qi (fun (r : Int32) (_ : Unit) => r = if (a0 < 0 ∨ 159 < a0) then 1 else 0) (fun _ _ => True) (va_A [] sz)) 0 0 (va_A [] sz) := by
  refine Met.ofW (cc := cX5_isNoWater) (maxL := 2) (ret := (some .boolean)) (by decide) rfl ?_
  intro p e s m args below meth c s₁ B hml hv
  obtain ⟨rfl, hsz, hP, hK, hN⟩ := hv
  have hx := B.exec
  have hb := B.bytes
  have hr := B.returns
  have hts := atoms_spec (ws := wsX5_isNoWater) B.pre
  have hown : s.vm.findClass RX5 = some m.cls := findClass_of_methodNamed B.named
  have hlocks := B.notSynchronized
  subst hsz
  generalize hAe : va_A [] s.heap.size = A at ⊢
  have hA : ∀ q : Nat, s.heap.size ≤ q → A q := fun q h => by rw [← hAe]; exact Or.inr h
  have hS : va_S A s.heap s.heap [] := va_S.rf
  have hP : va_P (dC, dI) vwCl [(h0, .inr (6, [.ref sea, .ref pas, .ref fl, .ref fc, .int 0, .int 0, .int 0, .int 0, .int 0, .int 100, .int 1, .long 0])), (sea, .inr (3, [.ref lc, .ref ct, .ref ch])), (lc, .inl (cZ, 160, .inl (fun _ => 0)))] s.heap := hP
  have hl := lv_entry ([.ref h0, .int a0]) (n := 2) (Nat.le_of_ble_eq_true rfl)
  rw [lg_entry_eq]
  generalize (lg_sl ([.ref h0, .int a0]) ++ List.replicate (2 - (lg_sl ([.ref h0, .int a0])).length) Slot.unset).toArray = ls at hl ⊢
  have hl : lv_has ls 2 [(0, .ref h0), (1, .int a0)] := hl
  refine lv_iload_n hx hb dX5_isNoWater_0 rfl (lv_at hl 1 rfl) ?_
  refine lv_sipush (v := 159) hx hb dX5_isNoWater_1 (by decide) ?_
  refine va_calli (va_runS (As := [.int a0, .int 159]) (rest := []) ⟨hx, hb, hml, hown, hts⟩ (c_X5_outside l s.heap.size a0 159 ) (va_cwS 2 hts gX5_isNoWater_X5_outside rfl rfl rfl (by decide +kernel) ⟨Nat.le_of_ble_eq_true rfl, Nat.le_of_ble_eq_true rfl⟩) ⟨fun a U g mk q => by obtain ⟨q0, q1⟩ := q; exact ⟨q0, q1⟩, fun U hU hW => ⟨rfl, congrArg Array.size hU⟩⟩ rfl rfl hl.1 rfl (lv_room (Nat.le_of_ble_eq_true rfl)) dX5_isNoWater_4 ⟨(Nat.zero_le _), (Nat.zero_le _)⟩) hS (fun q _ h => ro_A hS hA q h) (ro_A hS hA) (fun r_1 u t H1 locs ht hvm k_2 hB hz1 hk1 hS => ?_)
  have hP := ro_P hk1 hP
  generalize H1 = H at hP hS ⊢
  try dsimp only at k_2
  refine lv_if_ne (tgt := 21) hx hb dX5_isNoWater_7 (by decide) (fun c_3 => ?_) (fun c_3 => ?_)
  · skip
    have b_4 := b01n k_2 c_3
    refine lv_iconst (v := 1) hx hb dX5_isNoWater_21 (by decide) ?_
    refine lv_goto (tgt := 26) hx hb dX5_isNoWater_22 (by decide) ?_
    exact W.zret (v := 1) hx hb hr rfl (fun t ht hW => ⟨⟨1, (), rfl, (by first | rfl | trivial | (simp only [Int32.lt_iff_toInt_lt, Int32.le_iff_toInt_le, ← Int32.toInt_inj, Int32.reduceToInt] at b_4 ⊢; (repeat' split) <;> first | rfl | omega) | (simp only [Int32.lt_iff_toInt_lt, Int32.le_iff_toInt_le, ← Int32.toInt_inj, Int32.reduceToInt] at *; omega) | grind), trivial⟩, hS.F ht⟩) hS.2.2 dX5_isNoWater_26
  · skip
    have b_5 := b01z k_2 c_3
    refine lv_aload_n hx hb dX5_isNoWater_10 rfl (lv_at hl 0 rfl) ?_
    refine va_get (D := (dC, dI)) (ci := 6) (v := .ref sea) (C := RX5) (T := TX5) (N := 12) hx hb hts iw_X5_isNoWater_X5 hown hK hP 0 rfl rfl 0 (by decide) (hts (.fieldLink RX5 10 "TeaRace" "sea" "LTeaRace$Sea;") (by decide +kernel)) (fun _ h9 => h9) rfl dX5_isNoWater_11 ?_
    refine lv_iload_n hx hb dX5_isNoWater_14 rfl (lv_at hl 1 rfl) ?_
    have hPc := hP.sub (ws' := [(sea, .inr (3, [.ref lc, .ref ct, .ref ch])), (lc, .inl (cZ, 160, .inl (fun _ => 0)))]) [1, 2] rfl
    have hKc := hK.sub (tys' := [(cZ, .boolean)]) [0] rfl
    refine va_calli (va_runV (As := [.int a0]) (rest := []) ⟨hx, hb, hml, hown, hts⟩ (c_X2_isLand l dC dI H.size sea lc ct ch (fun _ => 0) cZ a0 ) (cwV 1 hts gX5_isNoWater_X2_isLand rfl rfl rfl (by decide +kernel) ⟨Nat.le_of_ble_eq_true rfl, Nat.le_of_ble_eq_true rfl⟩) ⟨fun a U g mk q => by obtain ⟨q0, q1, qP, qK, qN⟩ := q; exact ⟨q0, q1, qP, va_K.moved (u := U) (U := U.calling g mk a) (Vm.Alike.refl U.vm) qK, NW.same (u := U) (U := U.calling g mk a) rfl qN⟩, va_recv hKc hPc (ci := 3) (q0 := 0) rfl rfl, fun U hU hW => ⟨rfl, by rw [hU], by rw [hU]; exact hPc, va_K.moved hW.alike hKc, NW.warm hW hN⟩⟩ rfl rfl hl.1 rfl (lv_room (Nat.le_of_ble_eq_true rfl)) dX5_isNoWater_15 ⟨(Nat.zero_le _), (Nat.zero_le _)⟩) hS (fun q _ h => ro_A hS hA q h) (ro_A hS hA) (fun r_6 u t H1 locs ht hvm k_7 hB hz1 hk1 hS => ?_)
    have hP := ro_P hk1 hP
    generalize H1 = H at hP hS ⊢
    try dsimp only at k_7
    refine lv_if_eq (tgt := 25) hx hb dX5_isNoWater_18 (by decide) (fun c_8 => ?_) (fun c_8 => ?_)
    · skip
      have b_9 := b01z k_7 c_8
      refine lv_iconst (v := 0) hx hb dX5_isNoWater_25 (by decide) ?_
      exact W.zret (v := 0) hx hb hr rfl (fun t ht hW => ⟨⟨0, (), rfl, (by first | rfl | trivial | (simp only [Int32.lt_iff_toInt_lt, Int32.le_iff_toInt_le, ← Int32.toInt_inj, Int32.reduceToInt] at b_5 b_9 ⊢; (repeat' split) <;> first | rfl | omega) | (simp only [Int32.lt_iff_toInt_lt, Int32.le_iff_toInt_le, ← Int32.toInt_inj, Int32.reduceToInt] at *; omega) | grind), trivial⟩, hS.F ht⟩) hS.2.2 dX5_isNoWater_26
    · skip
      have b_10 := b01n k_7 c_8
      refine lv_iconst (v := 1) hx hb dX5_isNoWater_21 (by decide) ?_
      refine lv_goto (tgt := 26) hx hb dX5_isNoWater_22 (by decide) ?_
      exact W.zret (v := 1) hx hb hr rfl (fun t ht hW => ⟨⟨1, (), rfl, (by first | rfl | trivial | (simp only [Int32.lt_iff_toInt_lt, Int32.le_iff_toInt_le, ← Int32.toInt_inj, Int32.reduceToInt] at b_5 b_10 ⊢; (repeat' split) <;> first | rfl | omega) | (simp only [Int32.lt_iff_toInt_lt, Int32.le_iff_toInt_le, ← Int32.toInt_inj, Int32.reduceToInt] at *; omega) | grind), trivial⟩, hS.F ht⟩) hS.2.2 dX5_isNoWater_26
set_option maxRecDepth 20000 in
theorem iw_X5_land_X5 : ∀ w ∈ wsX50, w ∈ wsX5_land := by decide +kernel
set_option maxHeartbeats 4000000 in
set_option maxRecDepth 100000 in
/-- land -/
theorem c_X5_land (l : Launch) (dC : Nat → ClassId) (dI : Nat → Nat → Nat) (sz : Nat) (h0 : Nat) (sea : Nat) (pas : Nat) (fl : Nat) (fc : Nat) (lc : Nat) (ct : Nat) (ch : Nat) (cZ : ClassId) (a0 : Int32) (b0 : Int32)  : Met l yX5_land wsX5_land ({ frames := 2, cells := 0, slots := 0, locals := 43 }) (va_Pc [.ref h0, .int a0, .int b0] (fun U => U.heap.size = sz ∧ va_P (dC, dI) vwCl [(h0, .inr (6, [.ref sea, .ref pas, .ref fl, .ref fc, .int 0, .int 0, .int 0, .int 0, .int 0, .int 100, .int 1, .long 0])), (sea, .inr (3, [.ref lc, .ref ct, .ref ch])), (lc, .inl (cZ, 160, .inl (fun _ => 0)))] U.heap ∧ va_K (dC, dI) vwCl [(cZ, .boolean)] U ∧ NW U ∧ va_D (fun _ => True) [(h0, .inr (6, [.ref sea, .ref pas, .ref fl, .ref fc, .int 0, .int 0, .int 0, .int 0, .int 0, .int 100, .int 1, .long 0])), (sea, .inr (3, [.ref lc, .ref ct, .ref ch])), (lc, .inl (cZ, 160, .inl (fun _ => 0)))])) (va_Qi (fun (r : Int32) (_ : Unit) => r = if (a0 < 0 ∨ 159 < a0) then (-1) else 0) (fun _ _ => True) (va_A [(h0, .inr (6, [.ref sea, .ref pas, .ref fl, .ref fc, .int 0, .int 0, .int 0, .int 0, .int 0, .int 100, .int 1, .long 0])), (sea, .inr (3, [.ref lc, .ref ct, .ref ch])), (lc, .inl (cZ, 160, .inl (fun _ => 0)))] sz)) 0 0 (va_A [(h0, .inr (6, [.ref sea, .ref pas, .ref fl, .ref fc, .int 0, .int 0, .int 0, .int 0, .int 0, .int 100, .int 1, .long 0])), (sea, .inr (3, [.ref lc, .ref ct, .ref ch])), (lc, .inl (cZ, 160, .inl (fun _ => 0)))] sz) := by
  refine Met.ofW (cc := cX5_land) (maxL := 4) (ret := (some .int)) (by decide) rfl ?_
  intro p e s m args below meth c s₁ B hml hv
  obtain ⟨rfl, hsz, hP, hK, hN, hD0⟩ := hv
  have hx := B.exec
  have hb := B.bytes
  have hr := B.returns
  have hts := atoms_spec (ws := wsX5_land) B.pre
  have hown : s.vm.findClass RX5 = some m.cls := findClass_of_methodNamed B.named
  have hlocks := B.notSynchronized
  subst hsz
  have hD := hD0.self (sz := s.heap.size)
  generalize hAe : va_A [(h0, .inr (6, [.ref sea, .ref pas, .ref fl, .ref fc, .int 0, .int 0, .int 0, .int 0, .int 0, .int 100, .int 1, .long 0])), (sea, .inr (3, [.ref lc, .ref ct, .ref ch])), (lc, .inl (cZ, 160, .inl (fun _ => 0)))] s.heap.size = A at hD ⊢
  have hA : ∀ q : Nat, s.heap.size ≤ q → A q := fun q h => by rw [← hAe]; exact Or.inr h
  have hS : va_S A s.heap s.heap [] := va_S.rf
  have hP : va_P (dC, dI) vwCl [(h0, .inr (6, [.ref sea, .ref pas, .ref fl, .ref fc, .int 0, .int 0, .int 0, .int 0, .int 0, .int 100, .int 1, .long 0])), (sea, .inr (3, [.ref lc, .ref ct, .ref ch])), (lc, .inl (cZ, 160, .inl (fun _ => 0)))] s.heap := hP
  have hl := lv_entry ([.ref h0, .int a0, .int b0]) (n := 4) (Nat.le_of_ble_eq_true rfl)
  rw [lg_entry_eq]
  generalize (lg_sl ([.ref h0, .int a0, .int b0]) ++ List.replicate (4 - (lg_sl ([.ref h0, .int a0, .int b0])).length) Slot.unset).toArray = ls at hl ⊢
  have hl : lv_has ls 4 [(0, .ref h0), (1, .int a0), (2, .int b0)] := hl
  refine lv_iload_n hx hb dX5_land_0 rfl (lv_at hl 1 rfl) ?_
  refine lv_sipush (v := 159) hx hb dX5_land_1 (by decide) ?_
  refine va_calli (va_runS (As := [.int a0, .int 159]) (rest := []) ⟨hx, hb, hml, hown, hts⟩ (c_X5_outside l s.heap.size a0 159 ) (va_cwS 2 hts gX5_land_X5_outside rfl rfl rfl (by decide +kernel) ⟨Nat.le_of_ble_eq_true rfl, Nat.le_of_ble_eq_true rfl⟩) ⟨fun a U g mk q => by obtain ⟨q0, q1⟩ := q; exact ⟨q0, q1⟩, fun U hU hW => ⟨rfl, congrArg Array.size hU⟩⟩ rfl rfl hl.1 rfl (lv_room (Nat.le_of_ble_eq_true rfl)) dX5_land_4 ⟨(Nat.zero_le _), (Nat.zero_le _)⟩) hS (fun q _ h => ro_A hS hA q h) (ro_A hS hA) (fun r_1 u t H1 locs ht hvm k_2 hB hz1 hk1 hS => ?_)
  have hP := ro_P hk1 hP
  generalize H1 = H at hP hS ⊢
  try dsimp only at k_2
  refine lv_if_eq (tgt := 12) hx hb dX5_land_7 (by decide) (fun c_3 => ?_) (fun c_3 => ?_)
  · skip
    have b_4 := b01z k_2 c_3
    refine lv_aload_n hx hb dX5_land_12 rfl (lv_at hl 0 rfl) ?_
    refine va_get (D := (dC, dI)) (ci := 6) (v := .ref sea) (C := RX5) (T := TX5) (N := 12) hx hb hts iw_X5_land_X5 hown hK hP 0 rfl rfl 0 (by decide) (hts (.fieldLink RX5 10 "TeaRace" "sea" "LTeaRace$Sea;") (by decide +kernel)) (fun _ h9 => h9) rfl dX5_land_13 ?_
    refine lv_iload_n hx hb dX5_land_16 rfl (lv_at hl 1 rfl) ?_
    have hPc := hP.sub (ws' := [(sea, .inr (3, [.ref lc, .ref ct, .ref ch])), (lc, .inl (cZ, 160, .inl (fun _ => 0)))]) [1, 2] rfl
    have hKc := hK.sub (tys' := [(cZ, .boolean)]) [0] rfl
    refine va_calli (va_runV (As := [.int a0]) (rest := []) ⟨hx, hb, hml, hown, hts⟩ (c_X2_isLand l dC dI H.size sea lc ct ch (fun _ => 0) cZ a0 ) (cwV 1 hts gX5_land_X2_isLand rfl rfl rfl (by decide +kernel) ⟨Nat.le_of_ble_eq_true rfl, Nat.le_of_ble_eq_true rfl⟩) ⟨fun a U g mk q => by obtain ⟨q0, q1, qP, qK, qN⟩ := q; exact ⟨q0, q1, qP, va_K.moved (u := U) (U := U.calling g mk a) (Vm.Alike.refl U.vm) qK, NW.same (u := U) (U := U.calling g mk a) rfl qN⟩, va_recv hKc hPc (ci := 3) (q0 := 0) rfl rfl, fun U hU hW => ⟨rfl, by rw [hU], by rw [hU]; exact hPc, va_K.moved hW.alike hKc, NW.warm hW hN⟩⟩ rfl rfl hl.1 rfl (lv_room (Nat.le_of_ble_eq_true rfl)) dX5_land_17 ⟨(Nat.zero_le _), (Nat.zero_le _)⟩) hS (fun q _ h => ro_A hS hA q h) (ro_A hS hA) (fun r_5 u t H1 locs ht hvm k_6 hB hz1 hk1 hS => ?_)
    have hP := ro_P hk1 hP
    generalize H1 = H at hP hS ⊢
    try dsimp only at k_6
    refine lv_istore_n (lv' := [(3, .int r_5), (0, .ref h0), (1, .int a0), (2, .int b0)]) hx hb dX5_land_20 rfl hl (by decide) rfl (fun ls hl => ?_)
    refine lv_aload_n hx hb dX5_land_21 rfl (lv_at hl 1 rfl) ?_
    refine va_get (D := (dC, dI)) (ci := 6) (v := .ref sea) (C := RX5) (T := TX5) (N := 12) hx hb hts iw_X5_land_X5 hown hK hP 0 rfl rfl 0 (by decide) (hts (.fieldLink RX5 10 "TeaRace" "sea" "LTeaRace$Sea;") (by decide +kernel)) (fun _ h9 => h9) rfl dX5_land_22 ?_
    refine lv_iload_n hx hb dX5_land_25 rfl (lv_at hl 2 rfl) ?_
    refine lv_iload_n hx hb dX5_land_26 rfl (lv_at hl 3 rfl) ?_
    have hPc := hP.sub (ws' := [(sea, .inr (3, [.ref lc, .ref ct, .ref ch])), (lc, .inl (cZ, 160, .inl (fun _ => 0)))]) [1, 2] rfl
    have hDc := hD.sub (ws' := [(sea, .inr (3, [.ref lc, .ref ct, .ref ch])), (lc, .inl (cZ, 160, .inl (fun _ => 0)))]) [1, 2] (by decide) rfl
    have hKc := hK.sub (tys' := [(cZ, .boolean)]) [0] rfl
    have hFc := va_free (wc := [(sea, .inr (3, [.ref lc, .ref ct, .ref ch])), (lc, .inl (cZ, 160, .inl (fun _ => 0)))]) hD hS hA [1, 2] rfl
    refine va_callv (va_runV (As := [.int a0, .int b0]) (rest := []) ⟨hx, hb, hml, hown, hts⟩ (c_X2_setLand l dC dI H.size sea lc ct ch cZ a0 b0 ) (cwV 2 hts gX5_land_X2_setLand rfl rfl rfl (by decide +kernel) ⟨Nat.le_of_ble_eq_true rfl, Nat.le_of_ble_eq_true rfl⟩) ⟨fun a U g mk q => by obtain ⟨q0, q1, qP, qK, qN, qD⟩ := q; exact ⟨q0, q1, qP, va_K.moved (u := U) (U := U.calling g mk a) (Vm.Alike.refl U.vm) qK, NW.same (u := U) (U := U.calling g mk a) rfl qN, qD⟩, va_recv hKc hPc (ci := 3) (q0 := 0) rfl rfl, fun U hU hW => ⟨rfl, by rw [hU], by rw [hU]; exact hPc, va_K.moved hW.alike hKc, NW.warm hW hN, hDc.weaken (fun _ _ _ _ => trivial)⟩⟩ rfl rfl hl.1 rfl (lv_room (Nat.le_of_ble_eq_true rfl)) dX5_land_27 ⟨(Nat.zero_le _), (Nat.zero_le _)⟩) hS (fun q _ h => hFc q h) hFc (fun u t H1 locs ht hvm k_8 hB hz1 hk1 hS => ?_)
    have hPr := hP.sub (ws' := [(h0, .inr (6, [.ref sea, .ref pas, .ref fl, .ref fc, .int 0, .int 0, .int 0, .int 0, .int 0, .int 100, .int 1, .long 0]))]) [0] rfl
    have hDr := hD.sub (ws' := [(h0, .inr (6, [.ref sea, .ref pas, .ref fl, .ref fc, .int 0, .int 0, .int 0, .int 0, .int 0, .int 100, .int 1, .long 0]))]) [0] (by decide) rfl
    have hP := wr_P hk1 hPr (va_apartR hD [1, 2] [0] rfl rfl (by decide))
    have hD := hDr
    generalize H1 = H at hP hS ⊢
    have hP : va_P (dC, dI) vwCl [(h0, .inr (6, [.ref sea, .ref pas, .ref fl, .ref fc, .int 0, .int 0, .int 0, .int 0, .int 0, .int 100, .int 1, .long 0]))] H := hP
    have hD : va_D A [(h0, .inr (6, [.ref sea, .ref pas, .ref fl, .ref fc, .int 0, .int 0, .int 0, .int 0, .int 0, .int 100, .int 1, .long 0]))] := hD
    try dsimp only at k_8
    refine lv_iload_n hx hb dX5_land_30 rfl (lv_at hl 0 rfl) ?_
    refine lv_if_eq (tgt := 38) hx hb dX5_land_31 (by decide) (fun c_9 => ?_) (fun c_9 => ?_)
    · skip
      have b_10 := b01z k_6 c_9
      refine lv_iconst (v := 0) hx hb dX5_land_38 (by decide) ?_
      exact W.iret (v := 0) hx hb hr (fun t ht hW => ⟨⟨0, (), rfl, (by first | rfl | trivial | (simp only [Int32.lt_iff_toInt_lt, Int32.le_iff_toInt_le, ← Int32.toInt_inj, Int32.reduceToInt] at b_4 b_10 ⊢; (repeat' split) <;> first | rfl | omega) | (simp only [Int32.lt_iff_toInt_lt, Int32.le_iff_toInt_le, ← Int32.toInt_inj, Int32.reduceToInt] at *; omega) | grind), trivial⟩, hS.F ht⟩) hS.2.2 dX5_land_39
    · skip
      have b_11 := b01n k_6 c_9
      refine lv_iconst (v := 1) hx hb dX5_land_34 (by decide) ?_
      refine lv_goto (tgt := 39) hx hb dX5_land_35 (by decide) ?_
      exact W.iret (v := 1) hx hb hr (fun t ht hW => ⟨⟨1, (), rfl, (by first | rfl | trivial | (simp only [Int32.lt_iff_toInt_lt, Int32.le_iff_toInt_le, ← Int32.toInt_inj, Int32.reduceToInt] at b_4 b_11 ⊢; (repeat' split) <;> first | rfl | omega) | (simp only [Int32.lt_iff_toInt_lt, Int32.le_iff_toInt_le, ← Int32.toInt_inj, Int32.reduceToInt] at *; omega) | grind), trivial⟩, hS.F ht⟩) hS.2.2 dX5_land_39
  · skip
    have b_12 := b01n k_2 c_3
    refine lv_iconst (v := (-1)) hx hb dX5_land_10 (by decide) ?_
    exact W.iret (v := (-1)) hx hb hr (fun t ht hW => ⟨⟨(-1), (), rfl, (by first | rfl | trivial | (simp only [Int32.lt_iff_toInt_lt, Int32.le_iff_toInt_le, ← Int32.toInt_inj, Int32.reduceToInt] at b_12 ⊢; (repeat' split) <;> first | rfl | omega) | (simp only [Int32.lt_iff_toInt_lt, Int32.le_iff_toInt_le, ← Int32.toInt_inj, Int32.reduceToInt] at *; omega) | grind), trivial⟩, hS.F ht⟩) hS.2.2 dX5_land_11
set_option maxRecDepth 20000 in
theorem iw_X5_wind_X5 : ∀ w ∈ wsX50, w ∈ wsX5_wind := by decide +kernel
set_option maxHeartbeats 4000000 in
set_option maxRecDepth 100000 in
/-- wind -/
theorem c_X5_wind (l : Launch) (dC : Nat → ClassId) (dI : Nat → Nat → Nat) (sz : Nat) (h0 : Nat) (sea : Nat) (pas : Nat) (fl : Nat) (fc : Nat) (lc : Nat) (ct : Nat) (ch : Nat) (cZ : ClassId) (cI : ClassId) (a0 : Int32) (a1 : Int32) (a2 : Int32)  : Met l yX5_wind wsX5_wind ({ frames := 2, cells := 0, slots := 0, locals := 42 }) (va_Pc [.ref h0, .int a0, .int a1, .int a2] (fun U => U.heap.size = sz ∧ va_P (dC, dI) vwCl [(h0, .inr (6, [.ref sea, .ref pas, .ref fl, .ref fc, .int 0, .int 0, .int 0, .int 0, .int 0, .int 100, .int 1, .long 0])), (sea, .inr (3, [.ref lc, .ref ct, .ref ch])), (ct, .inl (cZ, 12, .inl (fun _ => 0))), (fc, .inl (cI, 6, .inl (fun _ => 0)))] U.heap ∧ va_K (dC, dI) vwCl [(cZ, .boolean), (cI, .int)] U ∧ NW U ∧ va_D (fun _ => True) [(h0, .inr (6, [.ref sea, .ref pas, .ref fl, .ref fc, .int 0, .int 0, .int 0, .int 0, .int 0, .int 100, .int 1, .long 0])), (sea, .inr (3, [.ref lc, .ref ct, .ref ch])), (ct, .inl (cZ, 12, .inl (fun _ => 0))), (fc, .inl (cI, 6, .inl (fun _ => 0)))])) (va_Qi (fun (r : Int32) (_ : Unit) => r = if (a0 < 0 ∨ 11 < a0) then (-1) else (-3)) (fun _ _ => True) (va_A [(h0, .inr (6, [.ref sea, .ref pas, .ref fl, .ref fc, .int 0, .int 0, .int 0, .int 0, .int 0, .int 100, .int 1, .long 0])), (sea, .inr (3, [.ref lc, .ref ct, .ref ch])), (ct, .inl (cZ, 12, .inl (fun _ => 0))), (fc, .inl (cI, 6, .inl (fun _ => 0)))] sz)) 0 0 (va_A [(h0, .inr (6, [.ref sea, .ref pas, .ref fl, .ref fc, .int 0, .int 0, .int 0, .int 0, .int 0, .int 100, .int 1, .long 0])), (sea, .inr (3, [.ref lc, .ref ct, .ref ch])), (ct, .inl (cZ, 12, .inl (fun _ => 0))), (fc, .inl (cI, 6, .inl (fun _ => 0)))] sz) := by
  refine Met.ofW (cc := cX5_wind) (maxL := 5) (ret := (some .int)) (by decide) rfl ?_
  intro p e s m args below meth c s₁ B hml hv
  obtain ⟨rfl, hsz, hP, hK, hN, hD0⟩ := hv
  have hx := B.exec
  have hb := B.bytes
  have hr := B.returns
  have hts := atoms_spec (ws := wsX5_wind) B.pre
  have hown : s.vm.findClass RX5 = some m.cls := findClass_of_methodNamed B.named
  have hlocks := B.notSynchronized
  subst hsz
  have hD := hD0.self (sz := s.heap.size)
  generalize hAe : va_A [(h0, .inr (6, [.ref sea, .ref pas, .ref fl, .ref fc, .int 0, .int 0, .int 0, .int 0, .int 0, .int 100, .int 1, .long 0])), (sea, .inr (3, [.ref lc, .ref ct, .ref ch])), (ct, .inl (cZ, 12, .inl (fun _ => 0))), (fc, .inl (cI, 6, .inl (fun _ => 0)))] s.heap.size = A at hD ⊢
  have hA : ∀ q : Nat, s.heap.size ≤ q → A q := fun q h => by rw [← hAe]; exact Or.inr h
  have hS : va_S A s.heap s.heap [] := va_S.rf
  have hP : va_P (dC, dI) vwCl [(h0, .inr (6, [.ref sea, .ref pas, .ref fl, .ref fc, .int 0, .int 0, .int 0, .int 0, .int 0, .int 100, .int 1, .long 0])), (sea, .inr (3, [.ref lc, .ref ct, .ref ch])), (ct, .inl (cZ, 12, .inl (fun _ => 0))), (fc, .inl (cI, 6, .inl (fun _ => 0)))] s.heap := hP
  have hl := lv_entry ([.ref h0, .int a0, .int a1, .int a2]) (n := 5) (Nat.le_of_ble_eq_true rfl)
  rw [lg_entry_eq]
  generalize (lg_sl ([.ref h0, .int a0, .int a1, .int a2]) ++ List.replicate (5 - (lg_sl ([.ref h0, .int a0, .int a1, .int a2])).length) Slot.unset).toArray = ls at hl ⊢
  have hl : lv_has ls 5 [(0, .ref h0), (1, .int a0), (2, .int a1), (3, .int a2)] := hl
  refine lv_iload_n hx hb dX5_wind_0 rfl (lv_at hl 1 rfl) ?_
  refine lv_bipush (v := 11) hx hb dX5_wind_1 (by decide) ?_
  refine va_calli (va_runS (As := [.int a0, .int 11]) (rest := []) ⟨hx, hb, hml, hown, hts⟩ (c_X5_outside l s.heap.size a0 11 ) (va_cwS 2 hts gX5_wind_X5_outside rfl rfl rfl (by decide +kernel) ⟨Nat.le_of_ble_eq_true rfl, Nat.le_of_ble_eq_true rfl⟩) ⟨fun a U g mk q => by obtain ⟨q0, q1⟩ := q; exact ⟨q0, q1⟩, fun U hU hW => ⟨rfl, congrArg Array.size hU⟩⟩ rfl rfl hl.1 rfl (lv_room (Nat.le_of_ble_eq_true rfl)) dX5_wind_3 ⟨(Nat.zero_le _), (Nat.zero_le _)⟩) hS (fun q _ h => ro_A hS hA q h) (ro_A hS hA) (fun r_1 u t H1 locs ht hvm k_2 hB hz1 hk1 hS => ?_)
  have hP := ro_P hk1 hP
  generalize H1 = H at hP hS ⊢
  try dsimp only at k_2
  refine lv_if_eq (tgt := 11) hx hb dX5_wind_6 (by decide) (fun c_3 => ?_) (fun c_3 => ?_)
  · skip
    have b_4 := b01z k_2 c_3
    refine lv_aload_n hx hb dX5_wind_11 rfl (lv_at hl 0 rfl) ?_
    refine va_get (D := (dC, dI)) (ci := 6) (v := .ref sea) (C := RX5) (T := TX5) (N := 12) hx hb hts iw_X5_wind_X5 hown hK hP 0 rfl rfl 0 (by decide) (hts (.fieldLink RX5 10 "TeaRace" "sea" "LTeaRace$Sea;") (by decide +kernel)) (fun _ h9 => h9) rfl dX5_wind_12 ?_
    refine lv_iload_n hx hb dX5_wind_15 rfl (lv_at hl 1 rfl) ?_
    have hPc := hP.sub (ws' := [(sea, .inr (3, [.ref lc, .ref ct, .ref ch])), (ct, .inl (cZ, 12, .inl (fun _ => 0)))]) [1, 2] rfl
    have hKc := hK.sub (tys' := [(cZ, .boolean)]) [0] rfl
    refine va_calli (va_runV (As := [.int a0]) (rest := []) ⟨hx, hb, hml, hown, hts⟩ (c_X2_hasChart l dC dI H.size sea lc ct ch cZ a0 ) (cwV 1 hts gX5_wind_X2_hasChart rfl rfl rfl (by decide +kernel) ⟨Nat.le_of_ble_eq_true rfl, Nat.le_of_ble_eq_true rfl⟩) ⟨fun a U g mk q => by obtain ⟨q0, q1, qP, qK, qN⟩ := q; exact ⟨q0, q1, qP, va_K.moved (u := U) (U := U.calling g mk a) (Vm.Alike.refl U.vm) qK, NW.same (u := U) (U := U.calling g mk a) rfl qN⟩, va_recv hKc hPc (ci := 3) (q0 := 0) rfl rfl, fun U hU hW => ⟨rfl, by rw [hU], by rw [hU]; exact hPc, va_K.moved hW.alike hKc, NW.warm hW hN⟩⟩ rfl rfl hl.1 rfl (lv_room (Nat.le_of_ble_eq_true rfl)) dX5_wind_16 ⟨(Nat.zero_le _), (Nat.zero_le _)⟩) hS (fun q _ h => ro_A hS hA q h) (ro_A hS hA) (fun r_5 u t H1 locs ht hvm k_6 hB hz1 hk1 hS => ?_)
    have hP := ro_P hk1 hP
    generalize H1 = H at hP hS ⊢
    try dsimp only at k_6
    obtain rfl : r_5 = 0 := k_6
    refine lv_if_ne (tgt := 28) hx hb dX5_wind_19 (by decide) (fun c_7 => ?_) (fun c_7 => ?_)
    · skip
      exact absurd (by decide) c_7
    · skip
      refine lv_aload_n hx hb dX5_wind_22 rfl (lv_at hl 0 rfl) ?_
      refine lv_iconst (v := 1) hx hb dX5_wind_23 (by decide) ?_
      have hPc := hP.sub (ws' := [(h0, .inr (6, [.ref sea, .ref pas, .ref fl, .ref fc, .int 0, .int 0, .int 0, .int 0, .int 0, .int 100, .int 1, .long 0])), (fc, .inl (cI, 6, .inl (fun _ => 0)))]) [0, 3] rfl
      have hDc := hD.sub (ws' := [(h0, .inr (6, [.ref sea, .ref pas, .ref fl, .ref fc, .int 0, .int 0, .int 0, .int 0, .int 0, .int 100, .int 1, .long 0])), (fc, .inl (cI, 6, .inl (fun _ => 0)))]) [0, 3] (by decide) rfl
      have hKc := hK.sub (tys' := [(cI, .int)]) [1] rfl
      have hFc := va_free (wc := [(h0, .inr (6, [.ref sea, .ref pas, .ref fl, .ref fc, .int 0, .int 0, .int 0, .int 0, .int 0, .int 100, .int 1, .long 0])), (fc, .inl (cI, 6, .inl (fun _ => 0)))]) hD hS hA [0, 3] rfl
      refine va_calli (va_runV (As := [.int 1]) (rest := []) ⟨hx, hb, hml, hown, hts⟩ (c_X5_found l dC dI H.size h0 sea pas fl fc cI 1 ) (cwV 1 hts gX5_wind_X5_found rfl rfl rfl (by decide +kernel) ⟨Nat.le_of_ble_eq_true rfl, Nat.le_of_ble_eq_true rfl⟩) ⟨fun a U g mk q => by obtain ⟨q0, q1, qP, qK, qN, qD⟩ := q; exact ⟨q0, q1, qP, va_K.moved (u := U) (U := U.calling g mk a) (Vm.Alike.refl U.vm) qK, NW.same (u := U) (U := U.calling g mk a) rfl qN, qD⟩, va_recv hKc hPc (ci := 6) (q0 := 0) rfl rfl, fun U hU hW => ⟨rfl, by rw [hU], by rw [hU]; exact hPc, va_K.moved hW.alike hKc, NW.warm hW hN, hDc.weaken (fun _ _ _ _ => trivial)⟩⟩ rfl rfl hl.1 rfl (lv_room (Nat.le_of_ble_eq_true rfl)) dX5_wind_24 ⟨(Nat.zero_le _), (Nat.zero_le _)⟩) hS (fun q _ h => hFc q h) hFc (fun r_8 u t H1 locs ht hvm k_9 hB hz1 hk1 hS => ?_)
      have hPr := hP.sub (ws' := [(sea, .inr (3, [.ref lc, .ref ct, .ref ch])), (ct, .inl (cZ, 12, .inl (fun _ => 0)))]) [1, 2] rfl
      have hDr := hD.sub (ws' := [(sea, .inr (3, [.ref lc, .ref ct, .ref ch])), (ct, .inl (cZ, 12, .inl (fun _ => 0)))]) [1, 2] (by decide) rfl
      have hP := wr_P hk1 hPr (va_apartR hD [0, 3] [1, 2] rfl rfl (by decide))
      have hD := hDr
      generalize H1 = H at hP hS ⊢
      have hP : va_P (dC, dI) vwCl [(sea, .inr (3, [.ref lc, .ref ct, .ref ch])), (ct, .inl (cZ, 12, .inl (fun _ => 0)))] H := hP
      have hD : va_D A [(sea, .inr (3, [.ref lc, .ref ct, .ref ch])), (ct, .inl (cZ, 12, .inl (fun _ => 0)))] := hD
      try dsimp only at k_9
      obtain rfl : r_8 = (-3) := k_9
      exact W.iret (v := (-3)) hx hb hr (fun t ht hW => ⟨⟨(-3), (), rfl, (by first | rfl | trivial | (simp only [Int32.lt_iff_toInt_lt, Int32.le_iff_toInt_le, ← Int32.toInt_inj, Int32.reduceToInt] at b_4 ⊢; (repeat' split) <;> first | rfl | omega) | (simp only [Int32.lt_iff_toInt_lt, Int32.le_iff_toInt_le, ← Int32.toInt_inj, Int32.reduceToInt] at *; omega) | grind), trivial⟩, hS.F ht⟩) hS.2.2 dX5_wind_27
  · skip
    have b_10 := b01n k_2 c_3
    refine lv_iconst (v := (-1)) hx hb dX5_wind_9 (by decide) ?_
    exact W.iret (v := (-1)) hx hb hr (fun t ht hW => ⟨⟨(-1), (), rfl, (by first | rfl | trivial | (simp only [Int32.lt_iff_toInt_lt, Int32.le_iff_toInt_le, ← Int32.toInt_inj, Int32.reduceToInt] at b_10 ⊢; (repeat' split) <;> first | rfl | omega) | (simp only [Int32.lt_iff_toInt_lt, Int32.le_iff_toInt_le, ← Int32.toInt_inj, Int32.reduceToInt] at *; omega) | grind), trivial⟩, hS.F ht⟩) hS.2.2 dX5_wind_10
set_option maxRecDepth 20000 in
theorem iw_X5_tear_X5 : ∀ w ∈ wsX50, w ∈ wsX5_tear := by decide +kernel
set_option maxHeartbeats 4000000 in
set_option maxRecDepth 100000 in
/-- tear -/
theorem c_X5_tear (l : Launch) (dC : Nat → ClassId) (dI : Nat → Nat → Nat) (sz : Nat) (h0 : Nat) (sea : Nat) (pas : Nat) (fl : Nat) (fc : Nat) (lc : Nat) (ct : Nat) (ch : Nat) (cZ : ClassId) (cI : ClassId) (a0 : Int32)  : Met l yX5_tear wsX5_tear ({ frames := 2, cells := 0, slots := 0, locals := 42 }) (va_Pc [.ref h0, .int a0] (fun U => U.heap.size = sz ∧ va_P (dC, dI) vwCl [(h0, .inr (6, [.ref sea, .ref pas, .ref fl, .ref fc, .int 0, .int 0, .int 0, .int 0, .int 0, .int 100, .int 1, .long 0])), (sea, .inr (3, [.ref lc, .ref ct, .ref ch])), (ct, .inl (cZ, 12, .inl (fun _ => 0))), (fc, .inl (cI, 6, .inl (fun _ => 0)))] U.heap ∧ va_K (dC, dI) vwCl [(cZ, .boolean), (cI, .int)] U ∧ NW U ∧ va_D (fun _ => True) [(h0, .inr (6, [.ref sea, .ref pas, .ref fl, .ref fc, .int 0, .int 0, .int 0, .int 0, .int 0, .int 100, .int 1, .long 0])), (sea, .inr (3, [.ref lc, .ref ct, .ref ch])), (ct, .inl (cZ, 12, .inl (fun _ => 0))), (fc, .inl (cI, 6, .inl (fun _ => 0)))])) (va_Qi (fun (r : Int32) (_ : Unit) => r = if (a0 < 0 ∨ 11 < a0) then (-1) else (-3)) (fun _ _ => True) (va_A [(h0, .inr (6, [.ref sea, .ref pas, .ref fl, .ref fc, .int 0, .int 0, .int 0, .int 0, .int 0, .int 100, .int 1, .long 0])), (sea, .inr (3, [.ref lc, .ref ct, .ref ch])), (ct, .inl (cZ, 12, .inl (fun _ => 0))), (fc, .inl (cI, 6, .inl (fun _ => 0)))] sz)) 0 0 (va_A [(h0, .inr (6, [.ref sea, .ref pas, .ref fl, .ref fc, .int 0, .int 0, .int 0, .int 0, .int 0, .int 100, .int 1, .long 0])), (sea, .inr (3, [.ref lc, .ref ct, .ref ch])), (ct, .inl (cZ, 12, .inl (fun _ => 0))), (fc, .inl (cI, 6, .inl (fun _ => 0)))] sz) := by
  refine Met.ofW (cc := cX5_tear) (maxL := 2) (ret := (some .int)) (by decide) rfl ?_
  intro p e s m args below meth c s₁ B hml hv
  obtain ⟨rfl, hsz, hP, hK, hN, hD0⟩ := hv
  have hx := B.exec
  have hb := B.bytes
  have hr := B.returns
  have hts := atoms_spec (ws := wsX5_tear) B.pre
  have hown : s.vm.findClass RX5 = some m.cls := findClass_of_methodNamed B.named
  have hlocks := B.notSynchronized
  subst hsz
  have hD := hD0.self (sz := s.heap.size)
  generalize hAe : va_A [(h0, .inr (6, [.ref sea, .ref pas, .ref fl, .ref fc, .int 0, .int 0, .int 0, .int 0, .int 0, .int 100, .int 1, .long 0])), (sea, .inr (3, [.ref lc, .ref ct, .ref ch])), (ct, .inl (cZ, 12, .inl (fun _ => 0))), (fc, .inl (cI, 6, .inl (fun _ => 0)))] s.heap.size = A at hD ⊢
  have hA : ∀ q : Nat, s.heap.size ≤ q → A q := fun q h => by rw [← hAe]; exact Or.inr h
  have hS : va_S A s.heap s.heap [] := va_S.rf
  have hP : va_P (dC, dI) vwCl [(h0, .inr (6, [.ref sea, .ref pas, .ref fl, .ref fc, .int 0, .int 0, .int 0, .int 0, .int 0, .int 100, .int 1, .long 0])), (sea, .inr (3, [.ref lc, .ref ct, .ref ch])), (ct, .inl (cZ, 12, .inl (fun _ => 0))), (fc, .inl (cI, 6, .inl (fun _ => 0)))] s.heap := hP
  have hl := lv_entry ([.ref h0, .int a0]) (n := 2) (Nat.le_of_ble_eq_true rfl)
  rw [lg_entry_eq]
  generalize (lg_sl ([.ref h0, .int a0]) ++ List.replicate (2 - (lg_sl ([.ref h0, .int a0])).length) Slot.unset).toArray = ls at hl ⊢
  have hl : lv_has ls 2 [(0, .ref h0), (1, .int a0)] := hl
  refine lv_iload_n hx hb dX5_tear_0 rfl (lv_at hl 1 rfl) ?_
  refine lv_bipush (v := 11) hx hb dX5_tear_1 (by decide) ?_
  refine va_calli (va_runS (As := [.int a0, .int 11]) (rest := []) ⟨hx, hb, hml, hown, hts⟩ (c_X5_outside l s.heap.size a0 11 ) (va_cwS 2 hts gX5_tear_X5_outside rfl rfl rfl (by decide +kernel) ⟨Nat.le_of_ble_eq_true rfl, Nat.le_of_ble_eq_true rfl⟩) ⟨fun a U g mk q => by obtain ⟨q0, q1⟩ := q; exact ⟨q0, q1⟩, fun U hU hW => ⟨rfl, congrArg Array.size hU⟩⟩ rfl rfl hl.1 rfl (lv_room (Nat.le_of_ble_eq_true rfl)) dX5_tear_3 ⟨(Nat.zero_le _), (Nat.zero_le _)⟩) hS (fun q _ h => ro_A hS hA q h) (ro_A hS hA) (fun r_1 u t H1 locs ht hvm k_2 hB hz1 hk1 hS => ?_)
  have hP := ro_P hk1 hP
  generalize H1 = H at hP hS ⊢
  try dsimp only at k_2
  refine lv_if_eq (tgt := 11) hx hb dX5_tear_6 (by decide) (fun c_3 => ?_) (fun c_3 => ?_)
  · skip
    have b_4 := b01z k_2 c_3
    refine lv_aload_n hx hb dX5_tear_11 rfl (lv_at hl 0 rfl) ?_
    refine va_get (D := (dC, dI)) (ci := 6) (v := .ref sea) (C := RX5) (T := TX5) (N := 12) hx hb hts iw_X5_tear_X5 hown hK hP 0 rfl rfl 0 (by decide) (hts (.fieldLink RX5 10 "TeaRace" "sea" "LTeaRace$Sea;") (by decide +kernel)) (fun _ h9 => h9) rfl dX5_tear_12 ?_
    refine lv_iload_n hx hb dX5_tear_15 rfl (lv_at hl 1 rfl) ?_
    have hPc := hP.sub (ws' := [(sea, .inr (3, [.ref lc, .ref ct, .ref ch])), (ct, .inl (cZ, 12, .inl (fun _ => 0)))]) [1, 2] rfl
    have hKc := hK.sub (tys' := [(cZ, .boolean)]) [0] rfl
    refine va_calli (va_runV (As := [.int a0]) (rest := []) ⟨hx, hb, hml, hown, hts⟩ (c_X2_hasChart l dC dI H.size sea lc ct ch cZ a0 ) (cwV 1 hts gX5_tear_X2_hasChart rfl rfl rfl (by decide +kernel) ⟨Nat.le_of_ble_eq_true rfl, Nat.le_of_ble_eq_true rfl⟩) ⟨fun a U g mk q => by obtain ⟨q0, q1, qP, qK, qN⟩ := q; exact ⟨q0, q1, qP, va_K.moved (u := U) (U := U.calling g mk a) (Vm.Alike.refl U.vm) qK, NW.same (u := U) (U := U.calling g mk a) rfl qN⟩, va_recv hKc hPc (ci := 3) (q0 := 0) rfl rfl, fun U hU hW => ⟨rfl, by rw [hU], by rw [hU]; exact hPc, va_K.moved hW.alike hKc, NW.warm hW hN⟩⟩ rfl rfl hl.1 rfl (lv_room (Nat.le_of_ble_eq_true rfl)) dX5_tear_16 ⟨(Nat.zero_le _), (Nat.zero_le _)⟩) hS (fun q _ h => ro_A hS hA q h) (ro_A hS hA) (fun r_5 u t H1 locs ht hvm k_6 hB hz1 hk1 hS => ?_)
    have hP := ro_P hk1 hP
    generalize H1 = H at hP hS ⊢
    try dsimp only at k_6
    obtain rfl : r_5 = 0 := k_6
    refine lv_if_ne (tgt := 28) hx hb dX5_tear_19 (by decide) (fun c_7 => ?_) (fun c_7 => ?_)
    · skip
      exact absurd (by decide) c_7
    · skip
      refine lv_aload_n hx hb dX5_tear_22 rfl (lv_at hl 0 rfl) ?_
      refine lv_iconst (v := 1) hx hb dX5_tear_23 (by decide) ?_
      have hPc := hP.sub (ws' := [(h0, .inr (6, [.ref sea, .ref pas, .ref fl, .ref fc, .int 0, .int 0, .int 0, .int 0, .int 0, .int 100, .int 1, .long 0])), (fc, .inl (cI, 6, .inl (fun _ => 0)))]) [0, 3] rfl
      have hDc := hD.sub (ws' := [(h0, .inr (6, [.ref sea, .ref pas, .ref fl, .ref fc, .int 0, .int 0, .int 0, .int 0, .int 0, .int 100, .int 1, .long 0])), (fc, .inl (cI, 6, .inl (fun _ => 0)))]) [0, 3] (by decide) rfl
      have hKc := hK.sub (tys' := [(cI, .int)]) [1] rfl
      have hFc := va_free (wc := [(h0, .inr (6, [.ref sea, .ref pas, .ref fl, .ref fc, .int 0, .int 0, .int 0, .int 0, .int 0, .int 100, .int 1, .long 0])), (fc, .inl (cI, 6, .inl (fun _ => 0)))]) hD hS hA [0, 3] rfl
      refine va_calli (va_runV (As := [.int 1]) (rest := []) ⟨hx, hb, hml, hown, hts⟩ (c_X5_found l dC dI H.size h0 sea pas fl fc cI 1 ) (cwV 1 hts gX5_tear_X5_found rfl rfl rfl (by decide +kernel) ⟨Nat.le_of_ble_eq_true rfl, Nat.le_of_ble_eq_true rfl⟩) ⟨fun a U g mk q => by obtain ⟨q0, q1, qP, qK, qN, qD⟩ := q; exact ⟨q0, q1, qP, va_K.moved (u := U) (U := U.calling g mk a) (Vm.Alike.refl U.vm) qK, NW.same (u := U) (U := U.calling g mk a) rfl qN, qD⟩, va_recv hKc hPc (ci := 6) (q0 := 0) rfl rfl, fun U hU hW => ⟨rfl, by rw [hU], by rw [hU]; exact hPc, va_K.moved hW.alike hKc, NW.warm hW hN, hDc.weaken (fun _ _ _ _ => trivial)⟩⟩ rfl rfl hl.1 rfl (lv_room (Nat.le_of_ble_eq_true rfl)) dX5_tear_24 ⟨(Nat.zero_le _), (Nat.zero_le _)⟩) hS (fun q _ h => hFc q h) hFc (fun r_8 u t H1 locs ht hvm k_9 hB hz1 hk1 hS => ?_)
      have hPr := hP.sub (ws' := [(sea, .inr (3, [.ref lc, .ref ct, .ref ch])), (ct, .inl (cZ, 12, .inl (fun _ => 0)))]) [1, 2] rfl
      have hDr := hD.sub (ws' := [(sea, .inr (3, [.ref lc, .ref ct, .ref ch])), (ct, .inl (cZ, 12, .inl (fun _ => 0)))]) [1, 2] (by decide) rfl
      have hP := wr_P hk1 hPr (va_apartR hD [0, 3] [1, 2] rfl rfl (by decide))
      have hD := hDr
      generalize H1 = H at hP hS ⊢
      have hP : va_P (dC, dI) vwCl [(sea, .inr (3, [.ref lc, .ref ct, .ref ch])), (ct, .inl (cZ, 12, .inl (fun _ => 0)))] H := hP
      have hD : va_D A [(sea, .inr (3, [.ref lc, .ref ct, .ref ch])), (ct, .inl (cZ, 12, .inl (fun _ => 0)))] := hD
      try dsimp only at k_9
      obtain rfl : r_8 = (-3) := k_9
      exact W.iret (v := (-3)) hx hb hr (fun t ht hW => ⟨⟨(-3), (), rfl, (by first | rfl | trivial | (simp only [Int32.lt_iff_toInt_lt, Int32.le_iff_toInt_le, ← Int32.toInt_inj, Int32.reduceToInt] at b_4 ⊢; (repeat' split) <;> first | rfl | omega) | (simp only [Int32.lt_iff_toInt_lt, Int32.le_iff_toInt_le, ← Int32.toInt_inj, Int32.reduceToInt] at *; omega) | grind), trivial⟩, hS.F ht⟩) hS.2.2 dX5_tear_27
  · skip
    have b_10 := b01n k_2 c_3
    refine lv_iconst (v := (-1)) hx hb dX5_tear_9 (by decide) ?_
    exact W.iret (v := (-1)) hx hb hr (fun t ht hW => ⟨⟨(-1), (), rfl, (by first | rfl | trivial | (simp only [Int32.lt_iff_toInt_lt, Int32.le_iff_toInt_le, ← Int32.toInt_inj, Int32.reduceToInt] at b_10 ⊢; (repeat' split) <;> first | rfl | omega) | (simp only [Int32.lt_iff_toInt_lt, Int32.le_iff_toInt_le, ← Int32.toInt_inj, Int32.reduceToInt] at *; omega) | grind), trivial⟩, hS.F ht⟩) hS.2.2 dX5_tear_10
set_option maxRecDepth 20000 in
theorem iw_X5_mean_X5 : ∀ w ∈ wsX50, w ∈ wsX5_mean := by decide +kernel
set_option maxHeartbeats 4000000 in
set_option maxRecDepth 100000 in
/-- mean -/
theorem c_X5_mean (l : Launch) (dC : Nat → ClassId) (dI : Nat → Nat → Nat) (sz : Nat) (h0 : Nat) (sea : Nat) (pas : Nat) (fl : Nat) (fc : Nat) (lc : Nat) (ct : Nat) (ch : Nat) (cZ : ClassId) (cI : ClassId) (a0 : Int32)  : Met l yX5_mean wsX5_mean ({ frames := 2, cells := 0, slots := 0, locals := 42 }) (va_Pc [.ref h0, .int a0] (fun U => U.heap.size = sz ∧ va_P (dC, dI) vwCl [(h0, .inr (6, [.ref sea, .ref pas, .ref fl, .ref fc, .int 0, .int 0, .int 0, .int 0, .int 0, .int 100, .int 1, .long 0])), (sea, .inr (3, [.ref lc, .ref ct, .ref ch])), (ct, .inl (cZ, 12, .inl (fun _ => 0))), (fc, .inl (cI, 6, .inl (fun _ => 0)))] U.heap ∧ va_K (dC, dI) vwCl [(cZ, .boolean), (cI, .int)] U ∧ NW U ∧ va_D (fun _ => True) [(h0, .inr (6, [.ref sea, .ref pas, .ref fl, .ref fc, .int 0, .int 0, .int 0, .int 0, .int 0, .int 100, .int 1, .long 0])), (sea, .inr (3, [.ref lc, .ref ct, .ref ch])), (ct, .inl (cZ, 12, .inl (fun _ => 0))), (fc, .inl (cI, 6, .inl (fun _ => 0)))])) (va_Qi (fun (r : Int32) (_ : Unit) => r = if (a0 < 0 ∨ 11 < a0) then (-1) else (-3)) (fun _ _ => True) (va_A [(h0, .inr (6, [.ref sea, .ref pas, .ref fl, .ref fc, .int 0, .int 0, .int 0, .int 0, .int 0, .int 100, .int 1, .long 0])), (sea, .inr (3, [.ref lc, .ref ct, .ref ch])), (ct, .inl (cZ, 12, .inl (fun _ => 0))), (fc, .inl (cI, 6, .inl (fun _ => 0)))] sz)) 0 0 (va_A [(h0, .inr (6, [.ref sea, .ref pas, .ref fl, .ref fc, .int 0, .int 0, .int 0, .int 0, .int 0, .int 100, .int 1, .long 0])), (sea, .inr (3, [.ref lc, .ref ct, .ref ch])), (ct, .inl (cZ, 12, .inl (fun _ => 0))), (fc, .inl (cI, 6, .inl (fun _ => 0)))] sz) := by
  refine Met.ofW (cc := cX5_mean) (maxL := 4) (ret := (some .int)) (by decide) rfl ?_
  intro p e s m args below meth c s₁ B hml hv
  obtain ⟨rfl, hsz, hP, hK, hN, hD0⟩ := hv
  have hx := B.exec
  have hb := B.bytes
  have hr := B.returns
  have hts := atoms_spec (ws := wsX5_mean) B.pre
  have hown : s.vm.findClass RX5 = some m.cls := findClass_of_methodNamed B.named
  have hlocks := B.notSynchronized
  subst hsz
  have hD := hD0.self (sz := s.heap.size)
  generalize hAe : va_A [(h0, .inr (6, [.ref sea, .ref pas, .ref fl, .ref fc, .int 0, .int 0, .int 0, .int 0, .int 0, .int 100, .int 1, .long 0])), (sea, .inr (3, [.ref lc, .ref ct, .ref ch])), (ct, .inl (cZ, 12, .inl (fun _ => 0))), (fc, .inl (cI, 6, .inl (fun _ => 0)))] s.heap.size = A at hD ⊢
  have hA : ∀ q : Nat, s.heap.size ≤ q → A q := fun q h => by rw [← hAe]; exact Or.inr h
  have hS : va_S A s.heap s.heap [] := va_S.rf
  have hP : va_P (dC, dI) vwCl [(h0, .inr (6, [.ref sea, .ref pas, .ref fl, .ref fc, .int 0, .int 0, .int 0, .int 0, .int 0, .int 100, .int 1, .long 0])), (sea, .inr (3, [.ref lc, .ref ct, .ref ch])), (ct, .inl (cZ, 12, .inl (fun _ => 0))), (fc, .inl (cI, 6, .inl (fun _ => 0)))] s.heap := hP
  have hl := lv_entry ([.ref h0, .int a0]) (n := 4) (Nat.le_of_ble_eq_true rfl)
  rw [lg_entry_eq]
  generalize (lg_sl ([.ref h0, .int a0]) ++ List.replicate (4 - (lg_sl ([.ref h0, .int a0])).length) Slot.unset).toArray = ls at hl ⊢
  have hl : lv_has ls 4 [(0, .ref h0), (1, .int a0)] := hl
  refine lv_iload_n hx hb dX5_mean_0 rfl (lv_at hl 1 rfl) ?_
  refine lv_bipush (v := 11) hx hb dX5_mean_1 (by decide) ?_
  refine va_calli (va_runS (As := [.int a0, .int 11]) (rest := []) ⟨hx, hb, hml, hown, hts⟩ (c_X5_outside l s.heap.size a0 11 ) (va_cwS 2 hts gX5_mean_X5_outside rfl rfl rfl (by decide +kernel) ⟨Nat.le_of_ble_eq_true rfl, Nat.le_of_ble_eq_true rfl⟩) ⟨fun a U g mk q => by obtain ⟨q0, q1⟩ := q; exact ⟨q0, q1⟩, fun U hU hW => ⟨rfl, congrArg Array.size hU⟩⟩ rfl rfl hl.1 rfl (lv_room (Nat.le_of_ble_eq_true rfl)) dX5_mean_3 ⟨(Nat.zero_le _), (Nat.zero_le _)⟩) hS (fun q _ h => ro_A hS hA q h) (ro_A hS hA) (fun r_1 u t H1 locs ht hvm k_2 hB hz1 hk1 hS => ?_)
  have hP := ro_P hk1 hP
  generalize H1 = H at hP hS ⊢
  try dsimp only at k_2
  refine lv_if_eq (tgt := 11) hx hb dX5_mean_6 (by decide) (fun c_3 => ?_) (fun c_3 => ?_)
  · skip
    have b_4 := b01z k_2 c_3
    refine lv_aload_n hx hb dX5_mean_11 rfl (lv_at hl 0 rfl) ?_
    refine va_get (D := (dC, dI)) (ci := 6) (v := .ref sea) (C := RX5) (T := TX5) (N := 12) hx hb hts iw_X5_mean_X5 hown hK hP 0 rfl rfl 0 (by decide) (hts (.fieldLink RX5 10 "TeaRace" "sea" "LTeaRace$Sea;") (by decide +kernel)) (fun _ h9 => h9) rfl dX5_mean_12 ?_
    refine lv_iload_n hx hb dX5_mean_15 rfl (lv_at hl 1 rfl) ?_
    have hPc := hP.sub (ws' := [(sea, .inr (3, [.ref lc, .ref ct, .ref ch])), (ct, .inl (cZ, 12, .inl (fun _ => 0)))]) [1, 2] rfl
    have hKc := hK.sub (tys' := [(cZ, .boolean)]) [0] rfl
    refine va_calli (va_runV (As := [.int a0]) (rest := []) ⟨hx, hb, hml, hown, hts⟩ (c_X2_hasChart l dC dI H.size sea lc ct ch cZ a0 ) (cwV 1 hts gX5_mean_X2_hasChart rfl rfl rfl (by decide +kernel) ⟨Nat.le_of_ble_eq_true rfl, Nat.le_of_ble_eq_true rfl⟩) ⟨fun a U g mk q => by obtain ⟨q0, q1, qP, qK, qN⟩ := q; exact ⟨q0, q1, qP, va_K.moved (u := U) (U := U.calling g mk a) (Vm.Alike.refl U.vm) qK, NW.same (u := U) (U := U.calling g mk a) rfl qN⟩, va_recv hKc hPc (ci := 3) (q0 := 0) rfl rfl, fun U hU hW => ⟨rfl, by rw [hU], by rw [hU]; exact hPc, va_K.moved hW.alike hKc, NW.warm hW hN⟩⟩ rfl rfl hl.1 rfl (lv_room (Nat.le_of_ble_eq_true rfl)) dX5_mean_16 ⟨(Nat.zero_le _), (Nat.zero_le _)⟩) hS (fun q _ h => ro_A hS hA q h) (ro_A hS hA) (fun r_5 u t H1 locs ht hvm k_6 hB hz1 hk1 hS => ?_)
    have hP := ro_P hk1 hP
    generalize H1 = H at hP hS ⊢
    try dsimp only at k_6
    obtain rfl : r_5 = 0 := k_6
    refine lv_if_ne (tgt := 28) hx hb dX5_mean_19 (by decide) (fun c_7 => ?_) (fun c_7 => ?_)
    · skip
      exact absurd (by decide) c_7
    · skip
      refine lv_aload_n hx hb dX5_mean_22 rfl (lv_at hl 0 rfl) ?_
      refine lv_iconst (v := 1) hx hb dX5_mean_23 (by decide) ?_
      have hPc := hP.sub (ws' := [(h0, .inr (6, [.ref sea, .ref pas, .ref fl, .ref fc, .int 0, .int 0, .int 0, .int 0, .int 0, .int 100, .int 1, .long 0])), (fc, .inl (cI, 6, .inl (fun _ => 0)))]) [0, 3] rfl
      have hDc := hD.sub (ws' := [(h0, .inr (6, [.ref sea, .ref pas, .ref fl, .ref fc, .int 0, .int 0, .int 0, .int 0, .int 0, .int 100, .int 1, .long 0])), (fc, .inl (cI, 6, .inl (fun _ => 0)))]) [0, 3] (by decide) rfl
      have hKc := hK.sub (tys' := [(cI, .int)]) [1] rfl
      have hFc := va_free (wc := [(h0, .inr (6, [.ref sea, .ref pas, .ref fl, .ref fc, .int 0, .int 0, .int 0, .int 0, .int 0, .int 100, .int 1, .long 0])), (fc, .inl (cI, 6, .inl (fun _ => 0)))]) hD hS hA [0, 3] rfl
      refine va_calli (va_runV (As := [.int 1]) (rest := []) ⟨hx, hb, hml, hown, hts⟩ (c_X5_found l dC dI H.size h0 sea pas fl fc cI 1 ) (cwV 1 hts gX5_mean_X5_found rfl rfl rfl (by decide +kernel) ⟨Nat.le_of_ble_eq_true rfl, Nat.le_of_ble_eq_true rfl⟩) ⟨fun a U g mk q => by obtain ⟨q0, q1, qP, qK, qN, qD⟩ := q; exact ⟨q0, q1, qP, va_K.moved (u := U) (U := U.calling g mk a) (Vm.Alike.refl U.vm) qK, NW.same (u := U) (U := U.calling g mk a) rfl qN, qD⟩, va_recv hKc hPc (ci := 6) (q0 := 0) rfl rfl, fun U hU hW => ⟨rfl, by rw [hU], by rw [hU]; exact hPc, va_K.moved hW.alike hKc, NW.warm hW hN, hDc.weaken (fun _ _ _ _ => trivial)⟩⟩ rfl rfl hl.1 rfl (lv_room (Nat.le_of_ble_eq_true rfl)) dX5_mean_24 ⟨(Nat.zero_le _), (Nat.zero_le _)⟩) hS (fun q _ h => hFc q h) hFc (fun r_8 u t H1 locs ht hvm k_9 hB hz1 hk1 hS => ?_)
      have hPr := hP.sub (ws' := [(sea, .inr (3, [.ref lc, .ref ct, .ref ch])), (ct, .inl (cZ, 12, .inl (fun _ => 0)))]) [1, 2] rfl
      have hDr := hD.sub (ws' := [(sea, .inr (3, [.ref lc, .ref ct, .ref ch])), (ct, .inl (cZ, 12, .inl (fun _ => 0)))]) [1, 2] (by decide) rfl
      have hP := wr_P hk1 hPr (va_apartR hD [0, 3] [1, 2] rfl rfl (by decide))
      have hD := hDr
      generalize H1 = H at hP hS ⊢
      have hP : va_P (dC, dI) vwCl [(sea, .inr (3, [.ref lc, .ref ct, .ref ch])), (ct, .inl (cZ, 12, .inl (fun _ => 0)))] H := hP
      have hD : va_D A [(sea, .inr (3, [.ref lc, .ref ct, .ref ch])), (ct, .inl (cZ, 12, .inl (fun _ => 0)))] := hD
      try dsimp only at k_9
      obtain rfl : r_8 = (-3) := k_9
      exact W.iret (v := (-3)) hx hb hr (fun t ht hW => ⟨⟨(-3), (), rfl, (by first | rfl | trivial | (simp only [Int32.lt_iff_toInt_lt, Int32.le_iff_toInt_le, ← Int32.toInt_inj, Int32.reduceToInt] at b_4 ⊢; (repeat' split) <;> first | rfl | omega) | (simp only [Int32.lt_iff_toInt_lt, Int32.le_iff_toInt_le, ← Int32.toInt_inj, Int32.reduceToInt] at *; omega) | grind), trivial⟩, hS.F ht⟩) hS.2.2 dX5_mean_27
  · skip
    have b_10 := b01n k_2 c_3
    refine lv_iconst (v := (-1)) hx hb dX5_mean_9 (by decide) ?_
    exact W.iret (v := (-1)) hx hb hr (fun t ht hW => ⟨⟨(-1), (), rfl, (by first | rfl | trivial | (simp only [Int32.lt_iff_toInt_lt, Int32.le_iff_toInt_le, ← Int32.toInt_inj, Int32.reduceToInt] at b_10 ⊢; (repeat' split) <;> first | rfl | omega) | (simp only [Int32.lt_iff_toInt_lt, Int32.le_iff_toInt_le, ← Int32.toInt_inj, Int32.reduceToInt] at *; omega) | grind), trivial⟩, hS.F ht⟩) hS.2.2 dX5_mean_10
set_option maxRecDepth 20000 in
theorem iw_X5_copy_X5 : ∀ w ∈ wsX50, w ∈ wsX5_copy := by decide +kernel
set_option maxHeartbeats 4000000 in
set_option maxRecDepth 100000 in
/-- copy -/
theorem c_X5_copy (l : Launch) (dC : Nat → ClassId) (dI : Nat → Nat → Nat) (sz : Nat) (h0 : Nat) (sea : Nat) (pas : Nat) (fl : Nat) (fc : Nat) (lc : Nat) (ct : Nat) (ch : Nat) (cZ : ClassId) (cI : ClassId) (a0 : Int32) (a1 : Int32) (a2 : Int32) (a3 : Int32) (a4 : Int32)  : Met l yX5_copy wsX5_copy ({ frames := 2, cells := 0, slots := 0, locals := 42 }) (va_Pc [.ref h0, .int a0, .int a1, .int a2, .int a3, .int a4] (fun U => U.heap.size = sz ∧ va_P (dC, dI) vwCl [(h0, .inr (6, [.ref sea, .ref pas, .ref fl, .ref fc, .int 0, .int 0, .int 0, .int 0, .int 0, .int 100, .int 1, .long 0])), (sea, .inr (3, [.ref lc, .ref ct, .ref ch])), (ct, .inl (cZ, 12, .inl (fun _ => 0))), (fc, .inl (cI, 6, .inl (fun _ => 0)))] U.heap ∧ va_K (dC, dI) vwCl [(cZ, .boolean), (cI, .int)] U ∧ NW U ∧ va_D (fun _ => True) [(h0, .inr (6, [.ref sea, .ref pas, .ref fl, .ref fc, .int 0, .int 0, .int 0, .int 0, .int 0, .int 100, .int 1, .long 0])), (sea, .inr (3, [.ref lc, .ref ct, .ref ch])), (ct, .inl (cZ, 12, .inl (fun _ => 0))), (fc, .inl (cI, 6, .inl (fun _ => 0)))])) (va_Qi (fun (r : Int32) (_ : Unit) => r = if ((a0 < 0 ∨ 11 < a0) ∨ (a2 < 0 ∨ 11 < a2)) then (-1) else (-3)) (fun _ _ => True) (va_A [(h0, .inr (6, [.ref sea, .ref pas, .ref fl, .ref fc, .int 0, .int 0, .int 0, .int 0, .int 0, .int 100, .int 1, .long 0])), (sea, .inr (3, [.ref lc, .ref ct, .ref ch])), (ct, .inl (cZ, 12, .inl (fun _ => 0))), (fc, .inl (cI, 6, .inl (fun _ => 0)))] sz)) 0 0 (va_A [(h0, .inr (6, [.ref sea, .ref pas, .ref fl, .ref fc, .int 0, .int 0, .int 0, .int 0, .int 0, .int 100, .int 1, .long 0])), (sea, .inr (3, [.ref lc, .ref ct, .ref ch])), (ct, .inl (cZ, 12, .inl (fun _ => 0))), (fc, .inl (cI, 6, .inl (fun _ => 0)))] sz) := by
  refine Met.ofW (cc := cX5_copy) (maxL := 6) (ret := (some .int)) (by decide) rfl ?_
  intro p e s m args below meth c s₁ B hml hv
  obtain ⟨rfl, hsz, hP, hK, hN, hD0⟩ := hv
  have hx := B.exec
  have hb := B.bytes
  have hr := B.returns
  have hts := atoms_spec (ws := wsX5_copy) B.pre
  have hown : s.vm.findClass RX5 = some m.cls := findClass_of_methodNamed B.named
  have hlocks := B.notSynchronized
  subst hsz
  have hD := hD0.self (sz := s.heap.size)
  generalize hAe : va_A [(h0, .inr (6, [.ref sea, .ref pas, .ref fl, .ref fc, .int 0, .int 0, .int 0, .int 0, .int 0, .int 100, .int 1, .long 0])), (sea, .inr (3, [.ref lc, .ref ct, .ref ch])), (ct, .inl (cZ, 12, .inl (fun _ => 0))), (fc, .inl (cI, 6, .inl (fun _ => 0)))] s.heap.size = A at hD ⊢
  have hA : ∀ q : Nat, s.heap.size ≤ q → A q := fun q h => by rw [← hAe]; exact Or.inr h
  have hS : va_S A s.heap s.heap [] := va_S.rf
  have hP : va_P (dC, dI) vwCl [(h0, .inr (6, [.ref sea, .ref pas, .ref fl, .ref fc, .int 0, .int 0, .int 0, .int 0, .int 0, .int 100, .int 1, .long 0])), (sea, .inr (3, [.ref lc, .ref ct, .ref ch])), (ct, .inl (cZ, 12, .inl (fun _ => 0))), (fc, .inl (cI, 6, .inl (fun _ => 0)))] s.heap := hP
  have hl := lv_entry ([.ref h0, .int a0, .int a1, .int a2, .int a3, .int a4]) (n := 6) (Nat.le_of_ble_eq_true rfl)
  rw [lg_entry_eq]
  generalize (lg_sl ([.ref h0, .int a0, .int a1, .int a2, .int a3, .int a4]) ++ List.replicate (6 - (lg_sl ([.ref h0, .int a0, .int a1, .int a2, .int a3, .int a4])).length) Slot.unset).toArray = ls at hl ⊢
  have hl : lv_has ls 6 [(0, .ref h0), (1, .int a0), (2, .int a1), (3, .int a2), (4, .int a3), (5, .int a4)] := hl
  refine lv_iload_n hx hb dX5_copy_0 rfl (lv_at hl 1 rfl) ?_
  refine lv_bipush (v := 11) hx hb dX5_copy_1 (by decide) ?_
  refine va_calli (va_runS (As := [.int a0, .int 11]) (rest := []) ⟨hx, hb, hml, hown, hts⟩ (c_X5_outside l s.heap.size a0 11 ) (va_cwS 2 hts gX5_copy_X5_outside rfl rfl rfl (by decide +kernel) ⟨Nat.le_of_ble_eq_true rfl, Nat.le_of_ble_eq_true rfl⟩) ⟨fun a U g mk q => by obtain ⟨q0, q1⟩ := q; exact ⟨q0, q1⟩, fun U hU hW => ⟨rfl, congrArg Array.size hU⟩⟩ rfl rfl hl.1 rfl (lv_room (Nat.le_of_ble_eq_true rfl)) dX5_copy_3 ⟨(Nat.zero_le _), (Nat.zero_le _)⟩) hS (fun q _ h => ro_A hS hA q h) (ro_A hS hA) (fun r_1 u t H1 locs ht hvm k_2 hB hz1 hk1 hS => ?_)
  have hP := ro_P hk1 hP
  generalize H1 = H at hP hS ⊢
  try dsimp only at k_2
  refine lv_if_ne (tgt := 18) hx hb dX5_copy_6 (by decide) (fun c_3 => ?_) (fun c_3 => ?_)
  · skip
    have b_4 := b01n k_2 c_3
    refine lv_iconst (v := (-1)) hx hb dX5_copy_18 (by decide) ?_
    exact W.iret (v := (-1)) hx hb hr (fun t ht hW => ⟨⟨(-1), (), rfl, (by first | rfl | trivial | (simp only [Int32.lt_iff_toInt_lt, Int32.le_iff_toInt_le, ← Int32.toInt_inj, Int32.reduceToInt] at b_4 ⊢; (repeat' split) <;> first | rfl | omega) | (simp only [Int32.lt_iff_toInt_lt, Int32.le_iff_toInt_le, ← Int32.toInt_inj, Int32.reduceToInt] at *; omega) | grind), trivial⟩, hS.F ht⟩) hS.2.2 dX5_copy_19
  · skip
    have b_5 := b01z k_2 c_3
    refine lv_iload_n hx hb dX5_copy_9 rfl (lv_at hl 3 rfl) ?_
    refine lv_bipush (v := 11) hx hb dX5_copy_10 (by decide) ?_
    refine va_calli (va_runS (As := [.int a2, .int 11]) (rest := []) ⟨hx, hb, hml, hown, hts⟩ (c_X5_outside l H.size a2 11 ) (va_cwS 2 hts gX5_copy_X5_outside rfl rfl rfl (by decide +kernel) ⟨Nat.le_of_ble_eq_true rfl, Nat.le_of_ble_eq_true rfl⟩) ⟨fun a U g mk q => by obtain ⟨q0, q1⟩ := q; exact ⟨q0, q1⟩, fun U hU hW => ⟨rfl, congrArg Array.size hU⟩⟩ rfl rfl hl.1 rfl (lv_room (Nat.le_of_ble_eq_true rfl)) dX5_copy_12 ⟨(Nat.zero_le _), (Nat.zero_le _)⟩) hS (fun q _ h => ro_A hS hA q h) (ro_A hS hA) (fun r_6 u t H1 locs ht hvm k_7 hB hz1 hk1 hS => ?_)
    have hP := ro_P hk1 hP
    generalize H1 = H at hP hS ⊢
    try dsimp only at k_7
    refine lv_if_eq (tgt := 20) hx hb dX5_copy_15 (by decide) (fun c_8 => ?_) (fun c_8 => ?_)
    · skip
      have b_9 := b01z k_7 c_8
      refine lv_iload hx hb dX5_copy_20 (lv_at hl 5 rfl) ?_
      refine lv_if_ge (tgt := 31) hx hb dX5_copy_22 (by decide) (fun c_10 => ?_) (fun c_10 => ?_)
      · skip
        refine lv_aload_n hx hb dX5_copy_31 rfl (lv_at hl 0 rfl) ?_
        refine va_get (D := (dC, dI)) (ci := 6) (v := .ref sea) (C := RX5) (T := TX5) (N := 12) hx hb hts iw_X5_copy_X5 hown hK hP 0 rfl rfl 0 (by decide) (hts (.fieldLink RX5 10 "TeaRace" "sea" "LTeaRace$Sea;") (by decide +kernel)) (fun _ h9 => h9) rfl dX5_copy_32 ?_
        refine lv_iload_n hx hb dX5_copy_35 rfl (lv_at hl 1 rfl) ?_
        have hPc := hP.sub (ws' := [(sea, .inr (3, [.ref lc, .ref ct, .ref ch])), (ct, .inl (cZ, 12, .inl (fun _ => 0)))]) [1, 2] rfl
        have hKc := hK.sub (tys' := [(cZ, .boolean)]) [0] rfl
        refine va_calli (va_runV (As := [.int a0]) (rest := []) ⟨hx, hb, hml, hown, hts⟩ (c_X2_hasChart l dC dI H.size sea lc ct ch cZ a0 ) (cwV 1 hts gX5_copy_X2_hasChart rfl rfl rfl (by decide +kernel) ⟨Nat.le_of_ble_eq_true rfl, Nat.le_of_ble_eq_true rfl⟩) ⟨fun a U g mk q => by obtain ⟨q0, q1, qP, qK, qN⟩ := q; exact ⟨q0, q1, qP, va_K.moved (u := U) (U := U.calling g mk a) (Vm.Alike.refl U.vm) qK, NW.same (u := U) (U := U.calling g mk a) rfl qN⟩, va_recv hKc hPc (ci := 3) (q0 := 0) rfl rfl, fun U hU hW => ⟨rfl, by rw [hU], by rw [hU]; exact hPc, va_K.moved hW.alike hKc, NW.warm hW hN⟩⟩ rfl rfl hl.1 rfl (lv_room (Nat.le_of_ble_eq_true rfl)) dX5_copy_36 ⟨(Nat.zero_le _), (Nat.zero_le _)⟩) hS (fun q _ h => ro_A hS hA q h) (ro_A hS hA) (fun r_11 u t H1 locs ht hvm k_12 hB hz1 hk1 hS => ?_)
        have hP := ro_P hk1 hP
        generalize H1 = H at hP hS ⊢
        try dsimp only at k_12
        obtain rfl : r_11 = 0 := k_12
        refine lv_if_eq (tgt := 53) hx hb dX5_copy_39 (by decide) (fun c_13 => ?_) (fun c_13 => ?_)
        · skip
          refine lv_aload_n hx hb dX5_copy_53 rfl (lv_at hl 0 rfl) ?_
          refine lv_iconst (v := 1) hx hb dX5_copy_54 (by decide) ?_
          have hPc := hP.sub (ws' := [(h0, .inr (6, [.ref sea, .ref pas, .ref fl, .ref fc, .int 0, .int 0, .int 0, .int 0, .int 0, .int 100, .int 1, .long 0])), (fc, .inl (cI, 6, .inl (fun _ => 0)))]) [0, 3] rfl
          have hDc := hD.sub (ws' := [(h0, .inr (6, [.ref sea, .ref pas, .ref fl, .ref fc, .int 0, .int 0, .int 0, .int 0, .int 0, .int 100, .int 1, .long 0])), (fc, .inl (cI, 6, .inl (fun _ => 0)))]) [0, 3] (by decide) rfl
          have hKc := hK.sub (tys' := [(cI, .int)]) [1] rfl
          have hFc := va_free (wc := [(h0, .inr (6, [.ref sea, .ref pas, .ref fl, .ref fc, .int 0, .int 0, .int 0, .int 0, .int 0, .int 100, .int 1, .long 0])), (fc, .inl (cI, 6, .inl (fun _ => 0)))]) hD hS hA [0, 3] rfl
          refine va_calli (va_runV (As := [.int 1]) (rest := []) ⟨hx, hb, hml, hown, hts⟩ (c_X5_found l dC dI H.size h0 sea pas fl fc cI 1 ) (cwV 1 hts gX5_copy_X5_found rfl rfl rfl (by decide +kernel) ⟨Nat.le_of_ble_eq_true rfl, Nat.le_of_ble_eq_true rfl⟩) ⟨fun a U g mk q => by obtain ⟨q0, q1, qP, qK, qN, qD⟩ := q; exact ⟨q0, q1, qP, va_K.moved (u := U) (U := U.calling g mk a) (Vm.Alike.refl U.vm) qK, NW.same (u := U) (U := U.calling g mk a) rfl qN, qD⟩, va_recv hKc hPc (ci := 6) (q0 := 0) rfl rfl, fun U hU hW => ⟨rfl, by rw [hU], by rw [hU]; exact hPc, va_K.moved hW.alike hKc, NW.warm hW hN, hDc.weaken (fun _ _ _ _ => trivial)⟩⟩ rfl rfl hl.1 rfl (lv_room (Nat.le_of_ble_eq_true rfl)) dX5_copy_55 ⟨(Nat.zero_le _), (Nat.zero_le _)⟩) hS (fun q _ h => hFc q h) hFc (fun r_14 u t H1 locs ht hvm k_15 hB hz1 hk1 hS => ?_)
          have hPr := hP.sub (ws' := [(sea, .inr (3, [.ref lc, .ref ct, .ref ch])), (ct, .inl (cZ, 12, .inl (fun _ => 0)))]) [1, 2] rfl
          have hDr := hD.sub (ws' := [(sea, .inr (3, [.ref lc, .ref ct, .ref ch])), (ct, .inl (cZ, 12, .inl (fun _ => 0)))]) [1, 2] (by decide) rfl
          have hP := wr_P hk1 hPr (va_apartR hD [0, 3] [1, 2] rfl rfl (by decide))
          have hD := hDr
          generalize H1 = H at hP hS ⊢
          have hP : va_P (dC, dI) vwCl [(sea, .inr (3, [.ref lc, .ref ct, .ref ch])), (ct, .inl (cZ, 12, .inl (fun _ => 0)))] H := hP
          have hD : va_D A [(sea, .inr (3, [.ref lc, .ref ct, .ref ch])), (ct, .inl (cZ, 12, .inl (fun _ => 0)))] := hD
          try dsimp only at k_15
          obtain rfl : r_14 = (-3) := k_15
          exact W.iret (v := (-3)) hx hb hr (fun t ht hW => ⟨⟨(-3), (), rfl, (by first | rfl | trivial | (simp only [Int32.lt_iff_toInt_lt, Int32.le_iff_toInt_le, ← Int32.toInt_inj, Int32.reduceToInt] at b_5 b_9 c_10 ⊢; (repeat' split) <;> first | rfl | omega) | (simp only [Int32.lt_iff_toInt_lt, Int32.le_iff_toInt_le, ← Int32.toInt_inj, Int32.reduceToInt] at *; omega) | grind), trivial⟩, hS.F ht⟩) hS.2.2 dX5_copy_58
        · skip
          exact absurd (by decide) c_13
      · skip
        refine lv_aload_n hx hb dX5_copy_25 rfl (lv_at hl 0 rfl) ?_
        refine lv_iconst (v := 5) hx hb dX5_copy_26 (by decide) ?_
        have hPc := hP.sub (ws' := [(h0, .inr (6, [.ref sea, .ref pas, .ref fl, .ref fc, .int 0, .int 0, .int 0, .int 0, .int 0, .int 100, .int 1, .long 0])), (fc, .inl (cI, 6, .inl (fun _ => 0)))]) [0, 3] rfl
        have hDc := hD.sub (ws' := [(h0, .inr (6, [.ref sea, .ref pas, .ref fl, .ref fc, .int 0, .int 0, .int 0, .int 0, .int 0, .int 100, .int 1, .long 0])), (fc, .inl (cI, 6, .inl (fun _ => 0)))]) [0, 3] (by decide) rfl
        have hKc := hK.sub (tys' := [(cI, .int)]) [1] rfl
        have hFc := va_free (wc := [(h0, .inr (6, [.ref sea, .ref pas, .ref fl, .ref fc, .int 0, .int 0, .int 0, .int 0, .int 0, .int 100, .int 1, .long 0])), (fc, .inl (cI, 6, .inl (fun _ => 0)))]) hD hS hA [0, 3] rfl
        refine va_calli (va_runV (As := [.int 5]) (rest := []) ⟨hx, hb, hml, hown, hts⟩ (c_X5_found l dC dI H.size h0 sea pas fl fc cI 5 ) (cwV 1 hts gX5_copy_X5_found rfl rfl rfl (by decide +kernel) ⟨Nat.le_of_ble_eq_true rfl, Nat.le_of_ble_eq_true rfl⟩) ⟨fun a U g mk q => by obtain ⟨q0, q1, qP, qK, qN, qD⟩ := q; exact ⟨q0, q1, qP, va_K.moved (u := U) (U := U.calling g mk a) (Vm.Alike.refl U.vm) qK, NW.same (u := U) (U := U.calling g mk a) rfl qN, qD⟩, va_recv hKc hPc (ci := 6) (q0 := 0) rfl rfl, fun U hU hW => ⟨rfl, by rw [hU], by rw [hU]; exact hPc, va_K.moved hW.alike hKc, NW.warm hW hN, hDc.weaken (fun _ _ _ _ => trivial)⟩⟩ rfl rfl hl.1 rfl (lv_room (Nat.le_of_ble_eq_true rfl)) dX5_copy_27 ⟨(Nat.zero_le _), (Nat.zero_le _)⟩) hS (fun q _ h => hFc q h) hFc (fun r_16 u t H1 locs ht hvm k_17 hB hz1 hk1 hS => ?_)
        have hPr := hP.sub (ws' := [(sea, .inr (3, [.ref lc, .ref ct, .ref ch])), (ct, .inl (cZ, 12, .inl (fun _ => 0)))]) [1, 2] rfl
        have hDr := hD.sub (ws' := [(sea, .inr (3, [.ref lc, .ref ct, .ref ch])), (ct, .inl (cZ, 12, .inl (fun _ => 0)))]) [1, 2] (by decide) rfl
        have hP := wr_P hk1 hPr (va_apartR hD [0, 3] [1, 2] rfl rfl (by decide))
        have hD := hDr
        generalize H1 = H at hP hS ⊢
        have hP : va_P (dC, dI) vwCl [(sea, .inr (3, [.ref lc, .ref ct, .ref ch])), (ct, .inl (cZ, 12, .inl (fun _ => 0)))] H := hP
        have hD : va_D A [(sea, .inr (3, [.ref lc, .ref ct, .ref ch])), (ct, .inl (cZ, 12, .inl (fun _ => 0)))] := hD
        try dsimp only at k_17
        obtain rfl : r_16 = (-3) := k_17
        exact W.iret (v := (-3)) hx hb hr (fun t ht hW => ⟨⟨(-3), (), rfl, (by first | rfl | trivial | (simp only [Int32.lt_iff_toInt_lt, Int32.le_iff_toInt_le, ← Int32.toInt_inj, Int32.reduceToInt] at b_5 b_9 c_10 ⊢; (repeat' split) <;> first | rfl | omega) | (simp only [Int32.lt_iff_toInt_lt, Int32.le_iff_toInt_le, ← Int32.toInt_inj, Int32.reduceToInt] at *; omega) | grind), trivial⟩, hS.F ht⟩) hS.2.2 dX5_copy_30
    · skip
      have b_18 := b01n k_7 c_8
      refine lv_iconst (v := (-1)) hx hb dX5_copy_18 (by decide) ?_
      exact W.iret (v := (-1)) hx hb hr (fun t ht hW => ⟨⟨(-1), (), rfl, (by first | rfl | trivial | (simp only [Int32.lt_iff_toInt_lt, Int32.le_iff_toInt_le, ← Int32.toInt_inj, Int32.reduceToInt] at b_5 b_18 ⊢; (repeat' split) <;> first | rfl | omega) | (simp only [Int32.lt_iff_toInt_lt, Int32.le_iff_toInt_le, ← Int32.toInt_inj, Int32.reduceToInt] at *; omega) | grind), trivial⟩, hS.F ht⟩) hS.2.2 dX5_copy_19
set_option maxRecDepth 20000 in
theorem iw_X5_home_X5 : ∀ w ∈ wsX50, w ∈ wsX5_home := by decide +kernel
set_option maxHeartbeats 4000000 in
set_option maxRecDepth 100000 in
/-- home -/
theorem c_X5_home (l : Launch) (dC : Nat → ClassId) (dI : Nat → Nat → Nat) (sz : Nat) (h0 : Nat) (sea : Nat) (pas : Nat) (fl : Nat) (fc : Nat) (lc : Nat) (ct : Nat) (ch : Nat) (cZ : ClassId) (a0 : Int32) (a1 : Int32)  : Met l yX5_home wsX5_home ({ frames := 3, cells := 0, slots := 0, locals := 63 }) (va_Pc [.ref h0, .int a0, .int a1] (fun U => U.heap.size = sz ∧ va_P (dC, dI) vwCl [(h0, .inr (6, [.ref sea, .ref pas, .ref fl, .ref fc, .int 0, .int 0, .int 0, .int 0, .int 0, .int 100, .int 1, .long 0])), (sea, .inr (3, [.ref lc, .ref ct, .ref ch])), (lc, .inl (cZ, 160, .inl (fun _ => 0)))] U.heap ∧ va_K (dC, dI) vwCl [(cZ, .boolean)] U ∧ NW U ∧ va_D (fun _ => True) [(h0, .inr (6, [.ref sea, .ref pas, .ref fl, .ref fc, .int 0, .int 0, .int 0, .int 0, .int 0, .int 100, .int 1, .long 0])), (sea, .inr (3, [.ref lc, .ref ct, .ref ch])), (lc, .inl (cZ, 160, .inl (fun _ => 0)))])) (va_Qi (fun (r : Int32) (_ : Unit) => r = if ((a0 < 0 ∨ 159 < a0) ∨ (a1 < 0 ∨ 23 < a1)) then (-1) else 1) (fun _ _ => True) (va_A [(h0, .inr (6, [.ref sea, .ref pas, .ref fl, .ref fc, .int 0, .int 0, .int 0, .int 0, .int 0, .int 100, .int 1, .long 0])), (sea, .inr (3, [.ref lc, .ref ct, .ref ch])), (lc, .inl (cZ, 160, .inl (fun _ => 0)))] sz)) 0 0 (va_A [(h0, .inr (6, [.ref sea, .ref pas, .ref fl, .ref fc, .int 0, .int 0, .int 0, .int 0, .int 0, .int 100, .int 1, .long 0])), (sea, .inr (3, [.ref lc, .ref ct, .ref ch])), (lc, .inl (cZ, 160, .inl (fun _ => 0)))] sz) := by
  refine Met.ofW (cc := cX5_home) (maxL := 3) (ret := (some .int)) (by decide) rfl ?_
  intro p e s m args below meth c s₁ B hml hv
  obtain ⟨rfl, hsz, hP, hK, hN, hD0⟩ := hv
  have hx := B.exec
  have hb := B.bytes
  have hr := B.returns
  have hts := atoms_spec (ws := wsX5_home) B.pre
  have hown : s.vm.findClass RX5 = some m.cls := findClass_of_methodNamed B.named
  have hlocks := B.notSynchronized
  subst hsz
  have hD := hD0.self (sz := s.heap.size)
  generalize hAe : va_A [(h0, .inr (6, [.ref sea, .ref pas, .ref fl, .ref fc, .int 0, .int 0, .int 0, .int 0, .int 0, .int 100, .int 1, .long 0])), (sea, .inr (3, [.ref lc, .ref ct, .ref ch])), (lc, .inl (cZ, 160, .inl (fun _ => 0)))] s.heap.size = A at hD ⊢
  have hA : ∀ q : Nat, s.heap.size ≤ q → A q := fun q h => by rw [← hAe]; exact Or.inr h
  have hS : va_S A s.heap s.heap [] := va_S.rf
  have hP : va_P (dC, dI) vwCl [(h0, .inr (6, [.ref sea, .ref pas, .ref fl, .ref fc, .int 0, .int 0, .int 0, .int 0, .int 0, .int 100, .int 1, .long 0])), (sea, .inr (3, [.ref lc, .ref ct, .ref ch])), (lc, .inl (cZ, 160, .inl (fun _ => 0)))] s.heap := hP
  have hl := lv_entry ([.ref h0, .int a0, .int a1]) (n := 3) (Nat.le_of_ble_eq_true rfl)
  rw [lg_entry_eq]
  generalize (lg_sl ([.ref h0, .int a0, .int a1]) ++ List.replicate (3 - (lg_sl ([.ref h0, .int a0, .int a1])).length) Slot.unset).toArray = ls at hl ⊢
  have hl : lv_has ls 3 [(0, .ref h0), (1, .int a0), (2, .int a1)] := hl
  refine lv_aload_n hx hb dX5_home_0 rfl (lv_at hl 0 rfl) ?_
  refine lv_iload_n hx hb dX5_home_1 rfl (lv_at hl 1 rfl) ?_
  have hPc := hP.sub (ws' := [(h0, .inr (6, [.ref sea, .ref pas, .ref fl, .ref fc, .int 0, .int 0, .int 0, .int 0, .int 0, .int 100, .int 1, .long 0])), (sea, .inr (3, [.ref lc, .ref ct, .ref ch])), (lc, .inl (cZ, 160, .inl (fun _ => 0)))]) [0, 1, 2] rfl
  have hKc := hK.sub (tys' := [(cZ, .boolean)]) [0] rfl
  refine va_calli (va_runV (As := [.int a0]) (rest := []) ⟨hx, hb, hml, hown, hts⟩ (c_X5_isNoWater l dC dI s.heap.size h0 sea pas fl fc lc ct ch cZ a0 ) (cwV 1 hts gX5_home_X5_isNoWater rfl rfl rfl (by decide +kernel) ⟨Nat.le_of_ble_eq_true rfl, Nat.le_of_ble_eq_true rfl⟩) ⟨fun a U g mk q => by obtain ⟨q0, q1, qP, qK, qN⟩ := q; exact ⟨q0, q1, qP, va_K.moved (u := U) (U := U.calling g mk a) (Vm.Alike.refl U.vm) qK, NW.same (u := U) (U := U.calling g mk a) rfl qN⟩, va_recv hKc hPc (ci := 6) (q0 := 0) rfl rfl, fun U hU hW => ⟨rfl, by rw [hU], by rw [hU]; exact hPc, va_K.moved hW.alike hKc, NW.warm hW hN⟩⟩ rfl rfl hl.1 rfl (lv_room (Nat.le_of_ble_eq_true rfl)) dX5_home_2 ⟨(Nat.zero_le _), (Nat.zero_le _)⟩) hS (fun q _ h => ro_A hS hA q h) (ro_A hS hA) (fun r_1 u t H1 locs ht hvm k_2 hB hz1 hk1 hS => ?_)
  have hP := ro_P hk1 hP
  generalize H1 = H at hP hS ⊢
  try dsimp only at k_2
  refine lv_if_ne (tgt := 17) hx hb dX5_home_5 (by decide) (fun c_3 => ?_) (fun c_3 => ?_)
  · skip
    have b_4 := b01n k_2 c_3
    refine lv_iconst (v := (-1)) hx hb dX5_home_17 (by decide) ?_
    exact W.iret (v := (-1)) hx hb hr (fun t ht hW => ⟨⟨(-1), (), rfl, (by first | rfl | trivial | (simp only [Int32.lt_iff_toInt_lt, Int32.le_iff_toInt_le, ← Int32.toInt_inj, Int32.reduceToInt] at b_4 ⊢; (repeat' split) <;> first | rfl | omega) | (simp only [Int32.lt_iff_toInt_lt, Int32.le_iff_toInt_le, ← Int32.toInt_inj, Int32.reduceToInt] at *; omega) | grind), trivial⟩, hS.F ht⟩) hS.2.2 dX5_home_18
  · skip
    have b_5 := b01z k_2 c_3
    refine lv_iload_n hx hb dX5_home_8 rfl (lv_at hl 2 rfl) ?_
    refine lv_bipush (v := 23) hx hb dX5_home_9 (by decide) ?_
    refine va_calli (va_runS (As := [.int a1, .int 23]) (rest := []) ⟨hx, hb, hml, hown, hts⟩ (c_X5_outside l H.size a1 23 ) (va_cwS 2 hts gX5_home_X5_outside rfl rfl rfl (by decide +kernel) ⟨Nat.le_of_ble_eq_true rfl, Nat.le_of_ble_eq_true rfl⟩) ⟨fun a U g mk q => by obtain ⟨q0, q1⟩ := q; exact ⟨q0, q1⟩, fun U hU hW => ⟨rfl, congrArg Array.size hU⟩⟩ rfl rfl hl.1 rfl (lv_room (Nat.le_of_ble_eq_true rfl)) dX5_home_11 ⟨(Nat.zero_le _), (Nat.zero_le _)⟩) hS (fun q _ h => ro_A hS hA q h) (ro_A hS hA) (fun r_6 u t H1 locs ht hvm k_7 hB hz1 hk1 hS => ?_)
    have hP := ro_P hk1 hP
    generalize H1 = H at hP hS ⊢
    try dsimp only at k_7
    refine lv_if_eq (tgt := 19) hx hb dX5_home_14 (by decide) (fun c_8 => ?_) (fun c_8 => ?_)
    · skip
      have b_9 := b01z k_7 c_8
      refine lv_aload_n hx hb dX5_home_19 rfl (lv_at hl 0 rfl) ?_
      refine va_get (D := (dC, dI)) (ci := 6) (v := .int 0) (C := RX5) (T := TX5) (N := 12) hx hb hts iw_X5_home_X5 hown hK hP 0 rfl rfl 5 (by decide) (hts (.fieldLink RX5 38 "TeaRace" "hour" "I") (by decide +kernel)) (fun _ h9 => h9) rfl dX5_home_20 ?_
      refine lv_if_eq (tgt := 29) hx hb dX5_home_23 (by decide) (fun c_10 => ?_) (fun c_10 => ?_)
      · skip
        refine lv_aload_n hx hb dX5_home_29 rfl (lv_at hl 0 rfl) ?_
        refine lv_iload_n hx hb dX5_home_30 rfl (lv_at hl 1 rfl) ?_
        refine va_put (D := (dC, dI)) (ci := 6) (v := .int a0) (ty := .int) (C := RX5) (T := TX5) (N := 12) hx hb hts iw_X5_home_X5 tyX5 tyX5_ok nmX5 hown hK hP hD hS 0 rfl rfl 6 (by decide) (hts (.fieldLink RX5 41 "TeaRace" "homeCell" "I") (by decide +kernel)) (fun _ h9 => h9) rfl (by decide +kernel) rfl rfl (Nat.le_of_ble_eq_true rfl) dX5_home_31 (fun H locs hP hD hS => ?_)
        have hP : va_P (dC, dI) vwCl [(h0, .inr (6, [.ref sea, .ref pas, .ref fl, .ref fc, .int 0, .int 0, .int a0, .int 0, .int 0, .int 100, .int 1, .long 0])), (sea, .inr (3, [.ref lc, .ref ct, .ref ch])), (lc, .inl (cZ, 160, .inl (fun _ => 0)))] H := hP
        have hD : va_D A [(h0, .inr (6, [.ref sea, .ref pas, .ref fl, .ref fc, .int 0, .int 0, .int a0, .int 0, .int 0, .int 100, .int 1, .long 0])), (sea, .inr (3, [.ref lc, .ref ct, .ref ch])), (lc, .inl (cZ, 160, .inl (fun _ => 0)))] := hD
        refine lv_aload_n hx hb dX5_home_34 rfl (lv_at hl 0 rfl) ?_
        refine lv_iload_n hx hb dX5_home_35 rfl (lv_at hl 2 rfl) ?_
        refine va_put (D := (dC, dI)) (ci := 6) (v := .int a1) (ty := .int) (C := RX5) (T := TX5) (N := 12) hx hb hts iw_X5_home_X5 tyX5 tyX5_ok nmX5 hown hK hP hD hS 0 rfl rfl 7 (by decide) (hts (.fieldLink RX5 44 "TeaRace" "gateHour" "I") (by decide +kernel)) (fun _ h9 => h9) rfl (by decide +kernel) rfl rfl (Nat.le_of_ble_eq_true rfl) dX5_home_36 (fun H locs hP hD hS => ?_)
        have hP : va_P (dC, dI) vwCl [(h0, .inr (6, [.ref sea, .ref pas, .ref fl, .ref fc, .int 0, .int 0, .int a0, .int a1, .int 0, .int 100, .int 1, .long 0])), (sea, .inr (3, [.ref lc, .ref ct, .ref ch])), (lc, .inl (cZ, 160, .inl (fun _ => 0)))] H := hP
        have hD : va_D A [(h0, .inr (6, [.ref sea, .ref pas, .ref fl, .ref fc, .int 0, .int 0, .int a0, .int a1, .int 0, .int 100, .int 1, .long 0])), (sea, .inr (3, [.ref lc, .ref ct, .ref ch])), (lc, .inl (cZ, 160, .inl (fun _ => 0)))] := hD
        refine lv_iconst (v := 1) hx hb dX5_home_39 (by decide) ?_
        exact W.iret (v := 1) hx hb hr (fun t ht hW => ⟨⟨1, (), rfl, (by first | rfl | trivial | (simp only [Int32.lt_iff_toInt_lt, Int32.le_iff_toInt_le, ← Int32.toInt_inj, Int32.reduceToInt] at b_5 b_9 ⊢; (repeat' split) <;> first | rfl | omega) | (simp only [Int32.lt_iff_toInt_lt, Int32.le_iff_toInt_le, ← Int32.toInt_inj, Int32.reduceToInt] at *; omega) | grind), trivial⟩, hS.F ht⟩) hS.2.2 dX5_home_40
      · skip
        exact absurd (by decide) c_10
    · skip
      have b_11 := b01n k_7 c_8
      refine lv_iconst (v := (-1)) hx hb dX5_home_17 (by decide) ?_
      exact W.iret (v := (-1)) hx hb hr (fun t ht hW => ⟨⟨(-1), (), rfl, (by first | rfl | trivial | (simp only [Int32.lt_iff_toInt_lt, Int32.le_iff_toInt_le, ← Int32.toInt_inj, Int32.reduceToInt] at b_5 b_11 ⊢; (repeat' split) <;> first | rfl | omega) | (simp only [Int32.lt_iff_toInt_lt, Int32.le_iff_toInt_le, ← Int32.toInt_inj, Int32.reduceToInt] at *; omega) | grind), trivial⟩, hS.F ht⟩) hS.2.2 dX5_home_18
set_option maxRecDepth 20000 in
theorem iw_X5_market_X5 : ∀ w ∈ wsX50, w ∈ wsX5_market := by decide +kernel
set_option maxHeartbeats 4000000 in
set_option maxRecDepth 100000 in
/-- market -/
theorem c_X5_market (l : Launch) (dC : Nat → ClassId) (dI : Nat → Nat → Nat) (sz : Nat) (h0 : Nat) (sea : Nat) (pas : Nat) (fl : Nat) (fc : Nat) (a0 : Int32) (a1 : Int32)  : Met l yX5_market wsX5_market ({ frames := 1, cells := 0, slots := 0, locals := 21 }) (va_Pc [.ref h0, .int a0, .int a1] (fun U => U.heap.size = sz ∧ va_P (dC, dI) vwCl [(h0, .inr (6, [.ref sea, .ref pas, .ref fl, .ref fc, .int 0, .int 0, .int 0, .int 0, .int 0, .int 100, .int 1, .long 0]))] U.heap ∧ va_K (dC, dI) vwCl [] U ∧ NW U ∧ va_D (fun _ => True) [(h0, .inr (6, [.ref sea, .ref pas, .ref fl, .ref fc, .int 0, .int 0, .int 0, .int 0, .int 0, .int 100, .int 1, .long 0]))])) (va_Qi (fun (r : Int32) (_ : Unit) => r = if (a0 < 1 ∨ 10000 < a0 ∨ (a1 < 0 ∨ 1000 < a1)) then (-1) else 1) (fun _ _ => True) (va_A [(h0, .inr (6, [.ref sea, .ref pas, .ref fl, .ref fc, .int 0, .int 0, .int 0, .int 0, .int 0, .int 100, .int 1, .long 0]))] sz)) 0 0 (va_A [(h0, .inr (6, [.ref sea, .ref pas, .ref fl, .ref fc, .int 0, .int 0, .int 0, .int 0, .int 0, .int 100, .int 1, .long 0]))] sz) := by
  refine Met.ofW (cc := cX5_market) (maxL := 3) (ret := (some .int)) (by decide) rfl ?_
  intro p e s m args below meth c s₁ B hml hv
  obtain ⟨rfl, hsz, hP, hK, hN, hD0⟩ := hv
  have hx := B.exec
  have hb := B.bytes
  have hr := B.returns
  have hts := atoms_spec (ws := wsX5_market) B.pre
  have hown : s.vm.findClass RX5 = some m.cls := findClass_of_methodNamed B.named
  have hlocks := B.notSynchronized
  subst hsz
  have hD := hD0.self (sz := s.heap.size)
  generalize hAe : va_A [(h0, .inr (6, [.ref sea, .ref pas, .ref fl, .ref fc, .int 0, .int 0, .int 0, .int 0, .int 0, .int 100, .int 1, .long 0]))] s.heap.size = A at hD ⊢
  have hA : ∀ q : Nat, s.heap.size ≤ q → A q := fun q h => by rw [← hAe]; exact Or.inr h
  have hS : va_S A s.heap s.heap [] := va_S.rf
  have hP : va_P (dC, dI) vwCl [(h0, .inr (6, [.ref sea, .ref pas, .ref fl, .ref fc, .int 0, .int 0, .int 0, .int 0, .int 0, .int 100, .int 1, .long 0]))] s.heap := hP
  have hl := lv_entry ([.ref h0, .int a0, .int a1]) (n := 3) (Nat.le_of_ble_eq_true rfl)
  rw [lg_entry_eq]
  generalize (lg_sl ([.ref h0, .int a0, .int a1]) ++ List.replicate (3 - (lg_sl ([.ref h0, .int a0, .int a1])).length) Slot.unset).toArray = ls at hl ⊢
  have hl : lv_has ls 3 [(0, .ref h0), (1, .int a0), (2, .int a1)] := hl
  refine lv_iload_n hx hb dX5_market_0 rfl (lv_at hl 1 rfl) ?_
  refine lv_iconst (v := 1) hx hb dX5_market_1 (by decide) ?_
  refine lv_icmp_lt (tgt := 22) hx hb dX5_market_2 (by decide) (fun c_1 => ?_) (fun c_1 => ?_)
  · skip
    refine lv_iconst (v := (-1)) hx hb dX5_market_22 (by decide) ?_
    exact W.iret (v := (-1)) hx hb hr (fun t ht hW => ⟨⟨(-1), (), rfl, (by first | rfl | trivial | (simp only [Int32.lt_iff_toInt_lt, Int32.le_iff_toInt_le, ← Int32.toInt_inj, Int32.reduceToInt] at c_1 ⊢; (repeat' split) <;> first | rfl | omega) | (simp only [Int32.lt_iff_toInt_lt, Int32.le_iff_toInt_le, ← Int32.toInt_inj, Int32.reduceToInt] at *; omega) | grind), trivial⟩, hS.F ht⟩) hS.2.2 dX5_market_23
  · skip
    refine lv_iload_n hx hb dX5_market_5 rfl (lv_at hl 1 rfl) ?_
    refine lv_sipush (v := 10000) hx hb dX5_market_6 (by decide) ?_
    refine lv_icmp_gt (tgt := 22) hx hb dX5_market_9 (by decide) (fun c_2 => ?_) (fun c_2 => ?_)
    · skip
      refine lv_iconst (v := (-1)) hx hb dX5_market_22 (by decide) ?_
      exact W.iret (v := (-1)) hx hb hr (fun t ht hW => ⟨⟨(-1), (), rfl, (by first | rfl | trivial | (simp only [Int32.lt_iff_toInt_lt, Int32.le_iff_toInt_le, ← Int32.toInt_inj, Int32.reduceToInt] at c_1 c_2 ⊢; (repeat' split) <;> first | rfl | omega) | (simp only [Int32.lt_iff_toInt_lt, Int32.le_iff_toInt_le, ← Int32.toInt_inj, Int32.reduceToInt] at *; omega) | grind), trivial⟩, hS.F ht⟩) hS.2.2 dX5_market_23
    · skip
      refine lv_iload_n hx hb dX5_market_12 rfl (lv_at hl 2 rfl) ?_
      refine lv_sipush (v := 1000) hx hb dX5_market_13 (by decide) ?_
      refine va_calli (va_runS (As := [.int a1, .int 1000]) (rest := []) ⟨hx, hb, hml, hown, hts⟩ (c_X5_outside l s.heap.size a1 1000 ) (va_cwS 2 hts gX5_market_X5_outside rfl rfl rfl (by decide +kernel) ⟨Nat.le_of_ble_eq_true rfl, Nat.le_of_ble_eq_true rfl⟩) ⟨fun a U g mk q => by obtain ⟨q0, q1⟩ := q; exact ⟨q0, q1⟩, fun U hU hW => ⟨rfl, congrArg Array.size hU⟩⟩ rfl rfl hl.1 rfl (lv_room (Nat.le_of_ble_eq_true rfl)) dX5_market_16 ⟨(Nat.zero_le _), (Nat.zero_le _)⟩) hS (fun q _ h => ro_A hS hA q h) (ro_A hS hA) (fun r_3 u t H1 locs ht hvm k_4 hB hz1 hk1 hS => ?_)
      have hP := ro_P hk1 hP
      generalize H1 = H at hP hS ⊢
      try dsimp only at k_4
      refine lv_if_eq (tgt := 24) hx hb dX5_market_19 (by decide) (fun c_5 => ?_) (fun c_5 => ?_)
      · skip
        have b_6 := b01z k_4 c_5
        refine lv_aload_n hx hb dX5_market_24 rfl (lv_at hl 0 rfl) ?_
        refine lv_iload_n hx hb dX5_market_25 rfl (lv_at hl 1 rfl) ?_
        refine va_put (D := (dC, dI)) (ci := 6) (v := .int a0) (ty := .int) (C := RX5) (T := TX5) (N := 12) hx hb hts iw_X5_market_X5 tyX5 tyX5_ok nmX5 hown hK hP hD hS 0 rfl rfl 9 (by decide) (hts (.fieldLink RX5 50 "TeaRace" "priceAtFirst" "I") (by decide +kernel)) (fun _ h9 => h9) rfl (by decide +kernel) rfl rfl (Nat.le_of_ble_eq_true rfl) dX5_market_26 (fun H locs hP hD hS => ?_)
        have hP : va_P (dC, dI) vwCl [(h0, .inr (6, [.ref sea, .ref pas, .ref fl, .ref fc, .int 0, .int 0, .int 0, .int 0, .int 0, .int a0, .int 1, .long 0]))] H := hP
        have hD : va_D A [(h0, .inr (6, [.ref sea, .ref pas, .ref fl, .ref fc, .int 0, .int 0, .int 0, .int 0, .int 0, .int a0, .int 1, .long 0]))] := hD
        refine lv_aload_n hx hb dX5_market_29 rfl (lv_at hl 0 rfl) ?_
        refine lv_iload_n hx hb dX5_market_30 rfl (lv_at hl 2 rfl) ?_
        refine va_put (D := (dC, dI)) (ci := 6) (v := .int a1) (ty := .int) (C := RX5) (T := TX5) (N := 12) hx hb hts iw_X5_market_X5 tyX5 tyX5_ok nmX5 hown hK hP hD hS 0 rfl rfl 10 (by decide) (hts (.fieldLink RX5 53 "TeaRace" "fallOfPrice" "I") (by decide +kernel)) (fun _ h9 => h9) rfl (by decide +kernel) rfl rfl (Nat.le_of_ble_eq_true rfl) dX5_market_31 (fun H locs hP hD hS => ?_)
        have hP : va_P (dC, dI) vwCl [(h0, .inr (6, [.ref sea, .ref pas, .ref fl, .ref fc, .int 0, .int 0, .int 0, .int 0, .int 0, .int a0, .int a1, .long 0]))] H := hP
        have hD : va_D A [(h0, .inr (6, [.ref sea, .ref pas, .ref fl, .ref fc, .int 0, .int 0, .int 0, .int 0, .int 0, .int a0, .int a1, .long 0]))] := hD
        refine lv_iconst (v := 1) hx hb dX5_market_34 (by decide) ?_
        exact W.iret (v := 1) hx hb hr (fun t ht hW => ⟨⟨1, (), rfl, (by first | rfl | trivial | (simp only [Int32.lt_iff_toInt_lt, Int32.le_iff_toInt_le, ← Int32.toInt_inj, Int32.reduceToInt] at c_1 c_2 b_6 ⊢; (repeat' split) <;> first | rfl | omega) | (simp only [Int32.lt_iff_toInt_lt, Int32.le_iff_toInt_le, ← Int32.toInt_inj, Int32.reduceToInt] at *; omega) | grind), trivial⟩, hS.F ht⟩) hS.2.2 dX5_market_35
      · skip
        have b_7 := b01n k_4 c_5
        refine lv_iconst (v := (-1)) hx hb dX5_market_22 (by decide) ?_
        exact W.iret (v := (-1)) hx hb hr (fun t ht hW => ⟨⟨(-1), (), rfl, (by first | rfl | trivial | (simp only [Int32.lt_iff_toInt_lt, Int32.le_iff_toInt_le, ← Int32.toInt_inj, Int32.reduceToInt] at c_1 c_2 b_7 ⊢; (repeat' split) <;> first | rfl | omega) | (simp only [Int32.lt_iff_toInt_lt, Int32.le_iff_toInt_le, ← Int32.toInt_inj, Int32.reduceToInt] at *; omega) | grind), trivial⟩, hS.F ht⟩) hS.2.2 dX5_market_23
set_option maxRecDepth 20000 in
theorem iw_X5_run_X5 : ∀ w ∈ wsX50, w ∈ wsX5_run := by decide +kernel
set_option maxHeartbeats 4000000 in
set_option maxRecDepth 100000 in
/-- run: no ships -/
theorem c_X5_run (l : Launch) (dC : Nat → ClassId) (dI : Nat → Nat → Nat) (sz : Nat) (h0 : Nat) (sea : Nat) (pas : Nat) (fl : Nat) (fc : Nat) (te : Nat) (a0 : Int32)  : Met l yX5_run wsX5_run ({ frames := 2, cells := 0, slots := 0, locals := 42 }) (va_Pc [.ref h0, .int a0] (fun U => U.heap.size = sz ∧ va_P (dC, dI) vwCl [(h0, .inr (6, [.ref sea, .ref pas, .ref fl, .ref fc, .int 0, .int 0, .int 0, .int 0, .int 0, .int 100, .int 1, .long 0])), (fl, .inr (0, [.int 0, .ref te, .int 0]))] U.heap ∧ va_K (dC, dI) vwCl [] U ∧ NW U ∧ va_D (fun _ => True) [(h0, .inr (6, [.ref sea, .ref pas, .ref fl, .ref fc, .int 0, .int 0, .int 0, .int 0, .int 0, .int 100, .int 1, .long 0])), (fl, .inr (0, [.int 0, .ref te, .int 0]))])) (va_Qi (fun (r : Int32) (_ : Unit) => r = if (a0 < 0 ∨ 2000 < a0) then (-1) else 0) (fun _ _ => True) (va_A [(h0, .inr (6, [.ref sea, .ref pas, .ref fl, .ref fc, .int 0, .int 0, .int 0, .int 0, .int 0, .int 100, .int 1, .long 0])), (fl, .inr (0, [.int 0, .ref te, .int 0]))] sz)) 0 0 (va_A [(h0, .inr (6, [.ref sea, .ref pas, .ref fl, .ref fc, .int 0, .int 0, .int 0, .int 0, .int 0, .int 100, .int 1, .long 0])), (fl, .inr (0, [.int 0, .ref te, .int 0]))] sz) := by
  refine Met.ofW (cc := cX5_run) (maxL := 4) (ret := (some .int)) (by decide) rfl ?_
  intro p e s m args below meth c s₁ B hml hv
  obtain ⟨rfl, hsz, hP, hK, hN, hD0⟩ := hv
  have hx := B.exec
  have hb := B.bytes
  have hr := B.returns
  have hts := atoms_spec (ws := wsX5_run) B.pre
  have hown : s.vm.findClass RX5 = some m.cls := findClass_of_methodNamed B.named
  have hlocks := B.notSynchronized
  subst hsz
  have hD := hD0.self (sz := s.heap.size)
  generalize hAe : va_A [(h0, .inr (6, [.ref sea, .ref pas, .ref fl, .ref fc, .int 0, .int 0, .int 0, .int 0, .int 0, .int 100, .int 1, .long 0])), (fl, .inr (0, [.int 0, .ref te, .int 0]))] s.heap.size = A at hD ⊢
  have hA : ∀ q : Nat, s.heap.size ≤ q → A q := fun q h => by rw [← hAe]; exact Or.inr h
  have hS : va_S A s.heap s.heap [] := va_S.rf
  have hP : va_P (dC, dI) vwCl [(h0, .inr (6, [.ref sea, .ref pas, .ref fl, .ref fc, .int 0, .int 0, .int 0, .int 0, .int 0, .int 100, .int 1, .long 0])), (fl, .inr (0, [.int 0, .ref te, .int 0]))] s.heap := hP
  have hl := lv_entry ([.ref h0, .int a0]) (n := 4) (Nat.le_of_ble_eq_true rfl)
  rw [lg_entry_eq]
  generalize (lg_sl ([.ref h0, .int a0]) ++ List.replicate (4 - (lg_sl ([.ref h0, .int a0])).length) Slot.unset).toArray = ls at hl ⊢
  have hl : lv_has ls 4 [(0, .ref h0), (1, .int a0)] := hl
  refine lv_iload_n hx hb dX5_run_0 rfl (lv_at hl 1 rfl) ?_
  refine lv_sipush (v := 2000) hx hb dX5_run_1 (by decide) ?_
  refine va_calli (va_runS (As := [.int a0, .int 2000]) (rest := []) ⟨hx, hb, hml, hown, hts⟩ (c_X5_outside l s.heap.size a0 2000 ) (va_cwS 2 hts gX5_run_X5_outside rfl rfl rfl (by decide +kernel) ⟨Nat.le_of_ble_eq_true rfl, Nat.le_of_ble_eq_true rfl⟩) ⟨fun a U g mk q => by obtain ⟨q0, q1⟩ := q; exact ⟨q0, q1⟩, fun U hU hW => ⟨rfl, congrArg Array.size hU⟩⟩ rfl rfl hl.1 rfl (lv_room (Nat.le_of_ble_eq_true rfl)) dX5_run_4 ⟨(Nat.zero_le _), (Nat.zero_le _)⟩) hS (fun q _ h => ro_A hS hA q h) (ro_A hS hA) (fun r_1 u t H1 locs ht hvm k_2 hB hz1 hk1 hS => ?_)
  have hP := ro_P hk1 hP
  generalize H1 = H at hP hS ⊢
  try dsimp only at k_2
  refine lv_if_eq (tgt := 12) hx hb dX5_run_7 (by decide) (fun c_3 => ?_) (fun c_3 => ?_)
  · skip
    have b_4 := b01z k_2 c_3
    refine lv_iload_n hx hb dX5_run_12 rfl (lv_at hl 1 rfl) ?_
    refine lv_ldc (v := (100000)) hx hb hown (hts (.constant RX5 171 (100000)) (by decide +kernel)) dX5_run_13 ?_
    refine lv_aload_n hx hb dX5_run_15 rfl (lv_at hl 0 rfl) ?_
    refine va_get (D := (dC, dI)) (ci := 6) (v := .int 0) (C := RX5) (T := TX5) (N := 12) hx hb hts iw_X5_run_X5 hown hK hP 0 rfl rfl 5 (by decide) (hts (.fieldLink RX5 38 "TeaRace" "hour" "I") (by decide +kernel)) (fun _ h9 => h9) rfl dX5_run_16 ?_
    refine lv_isub hx hb dX5_run_19 ?_
    refine lv_topi (fun x_5 ex_5 => ?_)
    obtain rfl : x_5 = 100000 := ex_5.trans (by decide +kernel)
    refine lv_icmp_le (tgt := 26) hx hb dX5_run_20 (by decide) (fun c_6 => ?_) (fun c_6 => ?_)
    · skip
      refine lv_aload_n hx hb dX5_run_26 rfl (lv_at hl 0 rfl) ?_
      have hPc := hP.sub (ws' := [(h0, .inr (6, [.ref sea, .ref pas, .ref fl, .ref fc, .int 0, .int 0, .int 0, .int 0, .int 0, .int 100, .int 1, .long 0])), (fl, .inr (0, [.int 0, .ref te, .int 0]))]) [0, 1] rfl
      have hKc := hK.sub (tys' := []) [] rfl
      refine va_calli (va_runV (As := []) (rest := []) ⟨hx, hb, hml, hown, hts⟩ (c_X5_shipsHome l dC dI H.size h0 sea pas fl fc te 0 ) (cwV 0 hts gX5_run_X5_shipsHome rfl rfl rfl (by decide +kernel) ⟨Nat.le_of_ble_eq_true rfl, Nat.le_of_ble_eq_true rfl⟩) ⟨fun a U g mk q => by obtain ⟨q0, q1, qP, qK, qN⟩ := q; exact ⟨q0, q1, qP, va_K.moved (u := U) (U := U.calling g mk a) (Vm.Alike.refl U.vm) qK, NW.same (u := U) (U := U.calling g mk a) rfl qN⟩, va_recv hKc hPc (ci := 6) (q0 := 0) rfl rfl, fun U hU hW => ⟨rfl, by rw [hU], by rw [hU]; exact hPc, va_K.moved hW.alike hKc, NW.warm hW hN⟩⟩ rfl rfl hl.1 rfl (lv_room (Nat.le_of_ble_eq_true rfl)) dX5_run_27 ⟨(Nat.zero_le _), (Nat.zero_le _)⟩) hS (fun q _ h => ro_A hS hA q h) (ro_A hS hA) (fun r_7 u t H1 locs ht hvm k_8 hB hz1 hk1 hS => ?_)
      have hP := ro_P hk1 hP
      generalize H1 = H at hP hS ⊢
      try dsimp only at k_8
      obtain rfl : r_7 = 0 := k_8
      refine lv_istore_n (lv' := [(2, .int 0), (0, .ref h0), (1, .int a0)]) hx hb dX5_run_30 rfl hl (by decide) rfl (fun ls hl => ?_)
      refine lv_iconst (v := 0) hx hb dX5_run_31 (by decide) ?_
      refine lv_istore_n (lv' := [(3, .int 0), (2, .int 0), (0, .ref h0), (1, .int a0)]) hx hb dX5_run_32 rfl hl (by decide) rfl (fun ls hl => ?_)
      refine lv_iload_n hx hb dX5_run_33 rfl (lv_at hl 0 rfl) ?_
      refine lv_aload_n hx hb dX5_run_34 rfl (lv_at hl 2 rfl) ?_
      refine va_get (D := (dC, dI)) (ci := 6) (v := .ref fl) (C := RX5) (T := TX5) (N := 12) hx hb hts iw_X5_run_X5 hown hK hP 0 rfl rfl 2 (by decide) (hts (.fieldLink RX5 26 "TeaRace" "fleet" "Ljava/util/List;") (by decide +kernel)) (fun _ h9 => h9) rfl dX5_run_35 ?_
      have hPc := hP.sub (ws' := [(fl, .inr (0, [.int 0, .ref te, .int 0]))]) [1] rfl
      have hKc := hK.sub (tys' := []) [] rfl
      refine va_callFi (va_runF (va_atK hKc (ci := 0) rfl) (As := []) (rest := [.int 0]) ⟨hx, hb, hml, hown, hts⟩ (c_Jx4a65c_size_8abf5 l dC dI H.size fl te ) (va_cwF 0 hts gX5_run_Jx4a65c_size_8abf5_f107Jx4a65c rfl rfl rfl hN.fSize (by decide +kernel) ⟨Nat.le_of_ble_eq_true rfl, Nat.le_of_ble_eq_true rfl⟩) ⟨fun a U g mk q => by obtain ⟨q0, q1, qP, qK, qN⟩ := q; exact ⟨q0, q1, qP, va_K.moved (u := U) (U := U.calling g mk a) (Vm.Alike.refl U.vm) qK, NW.same (u := U) (U := U.calling g mk a) rfl qN⟩, va_recv hKc hPc (ci := 0) (q0 := 0) rfl rfl, fun U hU hW => ⟨rfl, by rw [hU], by rw [hU]; exact hPc, va_K.moved hW.alike hKc, NW.warm hW hN⟩⟩ rfl rfl hl.1 rfl (lv_room (Nat.le_of_ble_eq_true rfl)) dX5_run_38 ⟨(Nat.zero_le _), (Nat.zero_le _)⟩) hS (fun q _ h => ro_A hS hA q h) (ro_A hS hA) (fun r_9 u t H1 locs ht hvm k_10 hB hz1 hk1 hS => ?_)
      have hP := ro_P hk1 hP
      generalize H1 = H at hP hS ⊢
      try dsimp only at k_10
      obtain rfl : r_9 = 0 := k_10
      refine lv_icmp_ge (tgt := 75) hx hb dX5_run_43 (by decide) (fun c_11 => ?_) (fun c_11 => ?_)
      · skip
        refine lv_aload_n hx hb dX5_run_75 rfl (lv_at hl 2 rfl) ?_
        refine lv_dup hx hb dX5_run_76 rfl ?_
        refine va_get (D := (dC, dI)) (ci := 6) (v := .int 0) (C := RX5) (T := TX5) (N := 12) hx hb hts iw_X5_run_X5 hown hK hP 0 rfl rfl 5 (by decide) (hts (.fieldLink RX5 38 "TeaRace" "hour" "I") (by decide +kernel)) (fun _ h9 => h9) rfl dX5_run_77 ?_
        refine lv_iload_n hx hb dX5_run_80 rfl (lv_at hl 3 rfl) ?_
        refine lv_iadd hx hb dX5_run_81 ?_
        refine lv_topi (fun x_12 ex_12 => ?_)
        refine va_put (D := (dC, dI)) (ci := 6) (v := .int x_12) (ty := .int) (C := RX5) (T := TX5) (N := 12) hx hb hts iw_X5_run_X5 tyX5 tyX5_ok nmX5 hown hK hP hD hS 0 rfl rfl 5 (by decide) (hts (.fieldLink RX5 38 "TeaRace" "hour" "I") (by decide +kernel)) (fun _ h9 => h9) rfl (by decide +kernel) rfl rfl (Nat.le_of_ble_eq_true rfl) dX5_run_82 (fun H locs hP hD hS => ?_)
        have hP : va_P (dC, dI) vwCl [(h0, .inr (6, [.ref sea, .ref pas, .ref fl, .ref fc, .int 0, .int x_12, .int 0, .int 0, .int 0, .int 100, .int 1, .long 0])), (fl, .inr (0, [.int 0, .ref te, .int 0]))] H := hP
        have hD : va_D A [(h0, .inr (6, [.ref sea, .ref pas, .ref fl, .ref fc, .int 0, .int x_12, .int 0, .int 0, .int 0, .int 100, .int 1, .long 0])), (fl, .inr (0, [.int 0, .ref te, .int 0]))] := hD
        refine lv_aload_n hx hb dX5_run_85 rfl (lv_at hl 2 rfl) ?_
        have hPc := hP.sub (ws' := [(h0, .inr (6, [.ref sea, .ref pas, .ref fl, .ref fc, .int 0, .int x_12, .int 0, .int 0, .int 0, .int 100, .int 1, .long 0])), (fl, .inr (0, [.int 0, .ref te, .int 0]))]) [0, 1] rfl
        have hKc := hK.sub (tys' := []) [] rfl
        refine va_calli (va_runV (As := []) (rest := []) ⟨hx, hb, hml, hown, hts⟩ (c_X5_shipsHome l dC dI H.size h0 sea pas fl fc te x_12 ) (cwV 0 hts gX5_run_X5_shipsHome rfl rfl rfl (by decide +kernel) ⟨Nat.le_of_ble_eq_true rfl, Nat.le_of_ble_eq_true rfl⟩) ⟨fun a U g mk q => by obtain ⟨q0, q1, qP, qK, qN⟩ := q; exact ⟨q0, q1, qP, va_K.moved (u := U) (U := U.calling g mk a) (Vm.Alike.refl U.vm) qK, NW.same (u := U) (U := U.calling g mk a) rfl qN⟩, va_recv hKc hPc (ci := 6) (q0 := 0) rfl rfl, fun U hU hW => ⟨rfl, by rw [hU], by rw [hU]; exact hPc, va_K.moved hW.alike hKc, NW.warm hW hN⟩⟩ rfl rfl hl.1 rfl (lv_room (Nat.le_of_ble_eq_true rfl)) dX5_run_86 ⟨(Nat.zero_le _), (Nat.zero_le _)⟩) hS (fun q _ h => ro_A hS hA q h) (ro_A hS hA) (fun r_13 u t H1 locs ht hvm k_14 hB hz1 hk1 hS => ?_)
        have hP := ro_P hk1 hP
        generalize H1 = H at hP hS ⊢
        try dsimp only at k_14
        obtain rfl : r_13 = 0 := k_14
        refine lv_iload_n hx hb dX5_run_89 rfl (lv_at hl 1 rfl) ?_
        refine lv_isub hx hb dX5_run_90 ?_
        refine lv_topi (fun x_15 ex_15 => ?_)
        obtain rfl : x_15 = 0 := ex_15.trans (by decide +kernel)
        exact W.iret (v := 0) hx hb hr (fun t ht hW => ⟨⟨0, (), rfl, (by first | rfl | trivial | (simp only [Int32.lt_iff_toInt_lt, Int32.le_iff_toInt_le, ← Int32.toInt_inj, Int32.reduceToInt] at b_4 c_6 ex_12 ⊢; (repeat' split) <;> first | rfl | omega) | (simp only [Int32.lt_iff_toInt_lt, Int32.le_iff_toInt_le, ← Int32.toInt_inj, Int32.reduceToInt] at *; omega) | grind), trivial⟩, hS.F ht⟩) hS.2.2 dX5_run_91
      · skip
        exact absurd (by decide) c_11
    · skip
      exfalso
      simp only [Int32.lt_iff_toInt_lt, Int32.le_iff_toInt_le, ← Int32.toInt_inj, Int32.reduceToInt] at b_4 c_6
      omega
  · skip
    have b_16 := b01n k_2 c_3
    refine lv_iconst (v := (-1)) hx hb dX5_run_10 (by decide) ?_
    exact W.iret (v := (-1)) hx hb hr (fun t ht hW => ⟨⟨(-1), (), rfl, (by first | rfl | trivial | (simp only [Int32.lt_iff_toInt_lt, Int32.le_iff_toInt_le, ← Int32.toInt_inj, Int32.reduceToInt] at b_16 ⊢; (repeat' split) <;> first | rfl | omega) | (simp only [Int32.lt_iff_toInt_lt, Int32.le_iff_toInt_le, ← Int32.toInt_inj, Int32.reduceToInt] at *; omega) | grind), trivial⟩, hS.F ht⟩) hS.2.2 dX5_run_11
set_option maxRecDepth 20000 in
theorem iw_X5_meanPrice_X5 : ∀ w ∈ wsX50, w ∈ wsX5_meanPrice := by decide +kernel
set_option maxHeartbeats 4000000 in
set_option maxRecDepth 100000 in
/-- meanPrice: no ships -/
theorem c_X5_meanPrice (l : Launch) (dC : Nat → ClassId) (dI : Nat → Nat → Nat) (sz : Nat) (h0 : Nat) (sea : Nat) (pas : Nat) (fl : Nat) (fc : Nat) (te : Nat) (cI : ClassId)  : Met l yX5_meanPrice wsX5_meanPrice ({ frames := 1, cells := 0, slots := 0, locals := 21 }) (va_Pc [.ref h0] (fun U => U.heap.size = sz ∧ va_P (dC, dI) vwCl [(h0, .inr (6, [.ref sea, .ref pas, .ref fl, .ref fc, .int 0, .int 0, .int 0, .int 0, .int 0, .int 100, .int 1, .long 0])), (fl, .inr (0, [.int 0, .ref te, .int 0])), (fc, .inl (cI, 6, .inl (fun _ => 0)))] U.heap ∧ va_K (dC, dI) vwCl [(cI, .int)] U ∧ NW U ∧ va_D (fun _ => True) [(h0, .inr (6, [.ref sea, .ref pas, .ref fl, .ref fc, .int 0, .int 0, .int 0, .int 0, .int 0, .int 100, .int 1, .long 0])), (fl, .inr (0, [.int 0, .ref te, .int 0])), (fc, .inl (cI, 6, .inl (fun _ => 0)))])) (va_Qi (fun (r : Int32) (_ : Unit) => r = (-3)) (fun _ _ => True) (va_A [(h0, .inr (6, [.ref sea, .ref pas, .ref fl, .ref fc, .int 0, .int 0, .int 0, .int 0, .int 0, .int 100, .int 1, .long 0])), (fl, .inr (0, [.int 0, .ref te, .int 0])), (fc, .inl (cI, 6, .inl (fun _ => 0)))] sz)) 0 0 (va_A [(h0, .inr (6, [.ref sea, .ref pas, .ref fl, .ref fc, .int 0, .int 0, .int 0, .int 0, .int 0, .int 100, .int 1, .long 0])), (fl, .inr (0, [.int 0, .ref te, .int 0])), (fc, .inl (cI, 6, .inl (fun _ => 0)))] sz) := by
  refine Met.ofW (cc := cX5_meanPrice) (maxL := 7) (ret := (some .int)) (by decide) rfl ?_
  intro p e s m args below meth c s₁ B hml hv
  obtain ⟨rfl, hsz, hP, hK, hN, hD0⟩ := hv
  have hx := B.exec
  have hb := B.bytes
  have hr := B.returns
  have hts := atoms_spec (ws := wsX5_meanPrice) B.pre
  have hown : s.vm.findClass RX5 = some m.cls := findClass_of_methodNamed B.named
  have hlocks := B.notSynchronized
  subst hsz
  have hD := hD0.self (sz := s.heap.size)
  generalize hAe : va_A [(h0, .inr (6, [.ref sea, .ref pas, .ref fl, .ref fc, .int 0, .int 0, .int 0, .int 0, .int 0, .int 100, .int 1, .long 0])), (fl, .inr (0, [.int 0, .ref te, .int 0])), (fc, .inl (cI, 6, .inl (fun _ => 0)))] s.heap.size = A at hD ⊢
  have hA : ∀ q : Nat, s.heap.size ≤ q → A q := fun q h => by rw [← hAe]; exact Or.inr h
  have hS : va_S A s.heap s.heap [] := va_S.rf
  have hP : va_P (dC, dI) vwCl [(h0, .inr (6, [.ref sea, .ref pas, .ref fl, .ref fc, .int 0, .int 0, .int 0, .int 0, .int 0, .int 100, .int 1, .long 0])), (fl, .inr (0, [.int 0, .ref te, .int 0])), (fc, .inl (cI, 6, .inl (fun _ => 0)))] s.heap := hP
  have hl := lv_entry ([.ref h0]) (n := 7) (Nat.le_of_ble_eq_true rfl)
  rw [lg_entry_eq]
  generalize (lg_sl ([.ref h0]) ++ List.replicate (7 - (lg_sl ([.ref h0])).length) Slot.unset).toArray = ls at hl ⊢
  have hl : lv_has ls 7 [(0, .ref h0)] := hl
  refine lv_lconst (v := 0) hx hb dX5_meanPrice_0 (by decide) ?_
  refine lv_lstore_n (lv' := [(1, .long 0), (0, .ref h0)]) hx hb dX5_meanPrice_1 rfl hl (by decide) rfl (fun ls hl => ?_)
  refine lv_lconst (v := 0) hx hb dX5_meanPrice_2 (by decide) ?_
  refine lv_lstore_n (lv' := [(3, .long 0), (1, .long 0), (0, .ref h0)]) hx hb dX5_meanPrice_3 rfl hl (by decide) rfl (fun ls hl => ?_)
  refine lv_iconst (v := 0) hx hb dX5_meanPrice_4 (by decide) ?_
  refine lv_istore (lv' := [(5, .int 0), (3, .long 0), (1, .long 0), (0, .ref h0)]) hx hb dX5_meanPrice_5 hl (by decide) rfl (fun ls hl => ?_)
  refine lv_iload hx hb dX5_meanPrice_7 (lv_at hl 0 rfl) ?_
  refine lv_aload_n hx hb dX5_meanPrice_9 rfl (lv_at hl 3 rfl) ?_
  refine va_get (D := (dC, dI)) (ci := 6) (v := .ref fl) (C := RX5) (T := TX5) (N := 12) hx hb hts iw_X5_meanPrice_X5 hown hK hP 0 rfl rfl 2 (by decide) (hts (.fieldLink RX5 26 "TeaRace" "fleet" "Ljava/util/List;") (by decide +kernel)) (fun _ h9 => h9) rfl dX5_meanPrice_10 ?_
  have hPc := hP.sub (ws' := [(fl, .inr (0, [.int 0, .ref te, .int 0]))]) [1] rfl
  have hKc := hK.sub (tys' := []) [] rfl
  refine va_callFi (va_runF (va_atK hKc (ci := 0) rfl) (As := []) (rest := [.int 0]) ⟨hx, hb, hml, hown, hts⟩ (c_Jx4a65c_size_8abf5 l dC dI s.heap.size fl te ) (va_cwF 0 hts gX5_meanPrice_Jx4a65c_size_8abf5_f107Jx4a65c rfl rfl rfl hN.fSize (by decide +kernel) ⟨Nat.le_of_ble_eq_true rfl, Nat.le_of_ble_eq_true rfl⟩) ⟨fun a U g mk q => by obtain ⟨q0, q1, qP, qK, qN⟩ := q; exact ⟨q0, q1, qP, va_K.moved (u := U) (U := U.calling g mk a) (Vm.Alike.refl U.vm) qK, NW.same (u := U) (U := U.calling g mk a) rfl qN⟩, va_recv hKc hPc (ci := 0) (q0 := 0) rfl rfl, fun U hU hW => ⟨rfl, by rw [hU], by rw [hU]; exact hPc, va_K.moved hW.alike hKc, NW.warm hW hN⟩⟩ rfl rfl hl.1 rfl (lv_room (Nat.le_of_ble_eq_true rfl)) dX5_meanPrice_13 ⟨(Nat.zero_le _), (Nat.zero_le _)⟩) hS (fun q _ h => ro_A hS hA q h) (ro_A hS hA) (fun r_1 u t H1 locs ht hvm k_2 hB hz1 hk1 hS => ?_)
  have hP := ro_P hk1 hP
  generalize H1 = H at hP hS ⊢
  try dsimp only at k_2
  obtain rfl : r_1 = 0 := k_2
  refine lv_icmp_ge (tgt := 69) hx hb dX5_meanPrice_18 (by decide) (fun c_3 => ?_) (fun c_3 => ?_)
  · skip
    refine lv_lload_n hx hb dX5_meanPrice_69 rfl (lv_at hl 1 rfl) ?_
    refine lv_lconst (v := 0) hx hb dX5_meanPrice_70 (by decide) ?_
    refine W.lcmp hx hb dX5_meanPrice_71 ?_
    refine lv_topi (fun x_4 ex_4 => ?_)
    obtain rfl : x_4 = 0 := ex_4.trans (by decide +kernel)
    refine lv_if_ne (tgt := 81) hx hb dX5_meanPrice_72 (by decide) (fun c_5 => ?_) (fun c_5 => ?_)
    · skip
      exact absurd (by decide) c_5
    · skip
      refine lv_aload_n hx hb dX5_meanPrice_75 rfl (lv_at hl 3 rfl) ?_
      refine lv_iconst (v := 4) hx hb dX5_meanPrice_76 (by decide) ?_
      have hPc := hP.sub (ws' := [(h0, .inr (6, [.ref sea, .ref pas, .ref fl, .ref fc, .int 0, .int 0, .int 0, .int 0, .int 0, .int 100, .int 1, .long 0])), (fc, .inl (cI, 6, .inl (fun _ => 0)))]) [0, 2] rfl
      have hDc := hD.sub (ws' := [(h0, .inr (6, [.ref sea, .ref pas, .ref fl, .ref fc, .int 0, .int 0, .int 0, .int 0, .int 0, .int 100, .int 1, .long 0])), (fc, .inl (cI, 6, .inl (fun _ => 0)))]) [0, 2] (by decide) rfl
      have hKc := hK.sub (tys' := [(cI, .int)]) [0] rfl
      have hFc := va_free (wc := [(h0, .inr (6, [.ref sea, .ref pas, .ref fl, .ref fc, .int 0, .int 0, .int 0, .int 0, .int 0, .int 100, .int 1, .long 0])), (fc, .inl (cI, 6, .inl (fun _ => 0)))]) hD hS hA [0, 2] rfl
      refine va_calli (va_runV (As := [.int 4]) (rest := []) ⟨hx, hb, hml, hown, hts⟩ (c_X5_found l dC dI H.size h0 sea pas fl fc cI 4 ) (cwV 1 hts gX5_meanPrice_X5_found rfl rfl rfl (by decide +kernel) ⟨Nat.le_of_ble_eq_true rfl, Nat.le_of_ble_eq_true rfl⟩) ⟨fun a U g mk q => by obtain ⟨q0, q1, qP, qK, qN, qD⟩ := q; exact ⟨q0, q1, qP, va_K.moved (u := U) (U := U.calling g mk a) (Vm.Alike.refl U.vm) qK, NW.same (u := U) (U := U.calling g mk a) rfl qN, qD⟩, va_recv hKc hPc (ci := 6) (q0 := 0) rfl rfl, fun U hU hW => ⟨rfl, by rw [hU], by rw [hU]; exact hPc, va_K.moved hW.alike hKc, NW.warm hW hN, hDc.weaken (fun _ _ _ _ => trivial)⟩⟩ rfl rfl hl.1 rfl (lv_room (Nat.le_of_ble_eq_true rfl)) dX5_meanPrice_77 ⟨(Nat.zero_le _), (Nat.zero_le _)⟩) hS (fun q _ h => hFc q h) hFc (fun r_6 u t H1 locs ht hvm k_7 hB hz1 hk1 hS => ?_)
      have hPr := hP.sub (ws' := [(fl, .inr (0, [.int 0, .ref te, .int 0]))]) [1] rfl
      have hDr := hD.sub (ws' := [(fl, .inr (0, [.int 0, .ref te, .int 0]))]) [1] (by decide) rfl
      have hP := wr_P hk1 hPr (va_apartR hD [0, 2] [1] rfl rfl (by decide))
      have hD := hDr
      generalize H1 = H at hP hS ⊢
      have hP : va_P (dC, dI) vwCl [(fl, .inr (0, [.int 0, .ref te, .int 0]))] H := hP
      have hD : va_D A [(fl, .inr (0, [.int 0, .ref te, .int 0]))] := hD
      try dsimp only at k_7
      obtain rfl : r_6 = (-3) := k_7
      exact W.iret (v := (-3)) hx hb hr (fun t ht hW => ⟨⟨(-3), (), rfl, (by first | rfl | trivial | (simp; done)), trivial⟩, hS.F ht⟩) hS.2.2 dX5_meanPrice_80
  · skip
    exact absurd (by decide) c_3
set_option maxRecDepth 20000 in
theorem iw_X5_count_X5 : ∀ w ∈ wsX50, w ∈ wsX5_count := by decide +kernel
set_option maxHeartbeats 4000000 in
set_option maxRecDepth 100000 in
/-- count -/
theorem c_X5_count (l : Launch) (dC : Nat → ClassId) (dI : Nat → Nat → Nat) (sz : Nat) (h0 : Nat) (sea : Nat) (pas : Nat) (fl : Nat) (fc : Nat) (lc : Nat) (ct : Nat) (ch : Nat) (te : Nat) (cZ : ClassId) (a0 : Int32)  : Met l yX5_count wsX5_count ({ frames := 2, cells := 0, slots := 0, locals := 42 }) (va_Pc [.ref h0, .int a0] (fun U => U.heap.size = sz ∧ va_P (dC, dI) vwCl [(h0, .inr (6, [.ref sea, .ref pas, .ref fl, .ref fc, .int 0, .int 0, .int 0, .int 0, .int 0, .int 100, .int 1, .long 0])), (sea, .inr (3, [.ref lc, .ref ct, .ref ch])), (fl, .inr (0, [.int 0, .ref te, .int 0])), (ct, .inl (cZ, 12, .inl (fun _ => 0)))] U.heap ∧ va_K (dC, dI) vwCl [(cZ, .boolean)] U ∧ NW U)) (va_Qi (fun (r : Int32) (_ : Unit) => r = if (a0 < 0 ∨ 4 < a0) then (-1) else 0) (fun _ _ => True) (va_A [] sz)) 0 0 (va_A [] sz) := by
  refine Met.ofW (cc := cX5_count) (maxL := 2) (ret := (some .int)) (by decide) rfl ?_
  intro p e s m args below meth c s₁ B hml hv
  obtain ⟨rfl, hsz, hP, hK, hN⟩ := hv
  have hx := B.exec
  have hb := B.bytes
  have hr := B.returns
  have hts := atoms_spec (ws := wsX5_count) B.pre
  have hown : s.vm.findClass RX5 = some m.cls := findClass_of_methodNamed B.named
  have hlocks := B.notSynchronized
  subst hsz
  generalize hAe : va_A [] s.heap.size = A at ⊢
  have hA : ∀ q : Nat, s.heap.size ≤ q → A q := fun q h => by rw [← hAe]; exact Or.inr h
  have hS : va_S A s.heap s.heap [] := va_S.rf
  have hP : va_P (dC, dI) vwCl [(h0, .inr (6, [.ref sea, .ref pas, .ref fl, .ref fc, .int 0, .int 0, .int 0, .int 0, .int 0, .int 100, .int 1, .long 0])), (sea, .inr (3, [.ref lc, .ref ct, .ref ch])), (fl, .inr (0, [.int 0, .ref te, .int 0])), (ct, .inl (cZ, 12, .inl (fun _ => 0)))] s.heap := hP
  have hl := lv_entry ([.ref h0, .int a0]) (n := 2) (Nat.le_of_ble_eq_true rfl)
  rw [lg_entry_eq]
  generalize (lg_sl ([.ref h0, .int a0]) ++ List.replicate (2 - (lg_sl ([.ref h0, .int a0])).length) Slot.unset).toArray = ls at hl ⊢
  have hl : lv_has ls 2 [(0, .ref h0), (1, .int a0)] := hl
  refine lv_iload_n hx hb dX5_count_0 rfl (lv_at hl 1 rfl) ?_
  by_cases t_1 : a0.toInt < 0 ∨ 4 < a0.toInt
  · skip
    refine lv_tableOut (tgt := 69) hx hb dX5_count_1 t_1 (by decide) ?_
    refine lv_iconst (v := (-1)) hx hb dX5_count_69 (by decide) ?_
    exact W.iret (v := (-1)) hx hb hr (fun t ht hW => ⟨⟨(-1), (), rfl, (by first | rfl | trivial | (simp only [Int32.lt_iff_toInt_lt, Int32.le_iff_toInt_le, ← Int32.toInt_inj, Int32.reduceToInt] at t_1 ⊢; (repeat' split) <;> first | rfl | omega) | (simp only [Int32.lt_iff_toInt_lt, Int32.le_iff_toInt_le, ← Int32.toInt_inj, Int32.reduceToInt] at *; omega) | grind), trivial⟩, hS.F ht⟩) hS.2.2 dX5_count_70
  · skip
    have v_2 : a0 = 0 ∨ a0 = 1 ∨ a0 = 2 ∨ a0 = 3 ∨ a0 = 4 := by
      simp only [← Int32.toInt_inj, Int32.reduceToInt] at t_1 ⊢
      omega
    clear t_1
    rcases v_2 with rfl | rfl | rfl | rfl | rfl
    · skip
      refine lv_tableIn (off := 35) (tgt := 36) hx hb dX5_count_1 (by decide) (by decide) (by decide) (by decide) ?_
      refine lv_aload_n hx hb dX5_count_36 rfl (lv_at hl 0 rfl) ?_
      refine va_get (D := (dC, dI)) (ci := 6) (v := .ref fl) (C := RX5) (T := TX5) (N := 12) hx hb hts iw_X5_count_X5 hown hK hP 0 rfl rfl 2 (by decide) (hts (.fieldLink RX5 26 "TeaRace" "fleet" "Ljava/util/List;") (by decide +kernel)) (fun _ h9 => h9) rfl dX5_count_37 ?_
      have hPc := hP.sub (ws' := [(fl, .inr (0, [.int 0, .ref te, .int 0]))]) [2] rfl
      have hKc := hK.sub (tys' := []) [] rfl
      refine va_callFi (va_runF (va_atK hKc (ci := 0) rfl) (As := []) (rest := []) ⟨hx, hb, hml, hown, hts⟩ (c_Jx4a65c_size_8abf5 l dC dI s.heap.size fl te ) (va_cwF 0 hts gX5_count_Jx4a65c_size_8abf5_f107Jx4a65c rfl rfl rfl hN.fSize (by decide +kernel) ⟨Nat.le_of_ble_eq_true rfl, Nat.le_of_ble_eq_true rfl⟩) ⟨fun a U g mk q => by obtain ⟨q0, q1, qP, qK, qN⟩ := q; exact ⟨q0, q1, qP, va_K.moved (u := U) (U := U.calling g mk a) (Vm.Alike.refl U.vm) qK, NW.same (u := U) (U := U.calling g mk a) rfl qN⟩, va_recv hKc hPc (ci := 0) (q0 := 0) rfl rfl, fun U hU hW => ⟨rfl, by rw [hU], by rw [hU]; exact hPc, va_K.moved hW.alike hKc, NW.warm hW hN⟩⟩ rfl rfl hl.1 rfl (lv_room (Nat.le_of_ble_eq_true rfl)) dX5_count_40 ⟨(Nat.zero_le _), (Nat.zero_le _)⟩) hS (fun q _ h => ro_A hS hA q h) (ro_A hS hA) (fun r_3 u t H1 locs ht hvm k_4 hB hz1 hk1 hS => ?_)
      have hP := ro_P hk1 hP
      generalize H1 = H at hP hS ⊢
      try dsimp only at k_4
      obtain rfl : r_3 = 0 := k_4
      exact W.iret (v := 0) hx hb hr (fun t ht hW => ⟨⟨0, (), rfl, (by first | rfl | trivial | (simp; done)), trivial⟩, hS.F ht⟩) hS.2.2 dX5_count_45
    · skip
      refine lv_tableIn (off := 45) (tgt := 46) hx hb dX5_count_1 (by decide) (by decide) (by decide) (by decide) ?_
      refine lv_aload_n hx hb dX5_count_46 rfl (lv_at hl 0 rfl) ?_
      refine va_get (D := (dC, dI)) (ci := 6) (v := .int 0) (C := RX5) (T := TX5) (N := 12) hx hb hts iw_X5_count_X5 hown hK hP 0 rfl rfl 5 (by decide) (hts (.fieldLink RX5 38 "TeaRace" "hour" "I") (by decide +kernel)) (fun _ h9 => h9) rfl dX5_count_47 ?_
      exact W.iret (v := 0) hx hb hr (fun t ht hW => ⟨⟨0, (), rfl, (by first | rfl | trivial | (simp; done)), trivial⟩, hS.F ht⟩) hS.2.2 dX5_count_50
    · skip
      refine lv_tableIn (off := 50) (tgt := 51) hx hb dX5_count_1 (by decide) (by decide) (by decide) (by decide) ?_
      refine lv_aload_n hx hb dX5_count_51 rfl (lv_at hl 0 rfl) ?_
      refine va_get (D := (dC, dI)) (ci := 6) (v := .ref sea) (C := RX5) (T := TX5) (N := 12) hx hb hts iw_X5_count_X5 hown hK hP 0 rfl rfl 0 (by decide) (hts (.fieldLink RX5 10 "TeaRace" "sea" "LTeaRace$Sea;") (by decide +kernel)) (fun _ h9 => h9) rfl dX5_count_52 ?_
      have hPc := hP.sub (ws' := [(sea, .inr (3, [.ref lc, .ref ct, .ref ch])), (ct, .inl (cZ, 12, .inl (fun _ => 0)))]) [1, 3] rfl
      have hKc := hK.sub (tys' := [(cZ, .boolean)]) [0] rfl
      refine va_calli (va_runV (As := []) (rest := []) ⟨hx, hb, hml, hown, hts⟩ (c_X2_chartsThere l dC dI s.heap.size sea lc ct ch cZ ) (cwV 0 hts gX5_count_X2_chartsThere rfl rfl rfl (by decide +kernel) ⟨Nat.le_of_ble_eq_true rfl, Nat.le_of_ble_eq_true rfl⟩) ⟨fun a U g mk q => by obtain ⟨q0, q1, qP, qK, qN⟩ := q; exact ⟨q0, q1, qP, va_K.moved (u := U) (U := U.calling g mk a) (Vm.Alike.refl U.vm) qK, NW.same (u := U) (U := U.calling g mk a) rfl qN⟩, va_recv hKc hPc (ci := 3) (q0 := 0) rfl rfl, fun U hU hW => ⟨rfl, by rw [hU], by rw [hU]; exact hPc, va_K.moved hW.alike hKc, NW.warm hW hN⟩⟩ rfl rfl hl.1 rfl (lv_room (Nat.le_of_ble_eq_true rfl)) dX5_count_55 ⟨(Nat.zero_le _), (Nat.zero_le _)⟩) hS (fun q _ h => ro_A hS hA q h) (ro_A hS hA) (fun r_5 u t H1 locs ht hvm k_6 hB hz1 hk1 hS => ?_)
      have hP := ro_P hk1 hP
      generalize H1 = H at hP hS ⊢
      try dsimp only at k_6
      obtain rfl : r_5 = 0 := k_6
      exact W.iret (v := 0) hx hb hr (fun t ht hW => ⟨⟨0, (), rfl, (by first | rfl | trivial | (simp; done)), trivial⟩, hS.F ht⟩) hS.2.2 dX5_count_58
    · skip
      refine lv_tableIn (off := 58) (tgt := 59) hx hb dX5_count_1 (by decide) (by decide) (by decide) (by decide) ?_
      refine lv_aload_n hx hb dX5_count_59 rfl (lv_at hl 0 rfl) ?_
      refine va_get (D := (dC, dI)) (ci := 6) (v := .int 0) (C := RX5) (T := TX5) (N := 12) hx hb hts iw_X5_count_X5 hown hK hP 0 rfl rfl 8 (by decide) (hts (.fieldLink RX5 47 "TeaRace" "sightCount" "I") (by decide +kernel)) (fun _ h9 => h9) rfl dX5_count_60 ?_
      exact W.iret (v := 0) hx hb hr (fun t ht hW => ⟨⟨0, (), rfl, (by first | rfl | trivial | (simp; done)), trivial⟩, hS.F ht⟩) hS.2.2 dX5_count_63
    · skip
      refine lv_tableIn (off := 63) (tgt := 64) hx hb dX5_count_1 (by decide) (by decide) (by decide) (by decide) ?_
      refine lv_aload_n hx hb dX5_count_64 rfl (lv_at hl 0 rfl) ?_
      have hPc := hP.sub (ws' := [(h0, .inr (6, [.ref sea, .ref pas, .ref fl, .ref fc, .int 0, .int 0, .int 0, .int 0, .int 0, .int 100, .int 1, .long 0])), (fl, .inr (0, [.int 0, .ref te, .int 0]))]) [0, 2] rfl
      have hKc := hK.sub (tys' := []) [] rfl
      refine va_calli (va_runV (As := []) (rest := []) ⟨hx, hb, hml, hown, hts⟩ (c_X5_shipsHome l dC dI s.heap.size h0 sea pas fl fc te 0 ) (cwV 0 hts gX5_count_X5_shipsHome rfl rfl rfl (by decide +kernel) ⟨Nat.le_of_ble_eq_true rfl, Nat.le_of_ble_eq_true rfl⟩) ⟨fun a U g mk q => by obtain ⟨q0, q1, qP, qK, qN⟩ := q; exact ⟨q0, q1, qP, va_K.moved (u := U) (U := U.calling g mk a) (Vm.Alike.refl U.vm) qK, NW.same (u := U) (U := U.calling g mk a) rfl qN⟩, va_recv hKc hPc (ci := 6) (q0 := 0) rfl rfl, fun U hU hW => ⟨rfl, by rw [hU], by rw [hU]; exact hPc, va_K.moved hW.alike hKc, NW.warm hW hN⟩⟩ rfl rfl hl.1 rfl (lv_room (Nat.le_of_ble_eq_true rfl)) dX5_count_65 ⟨(Nat.zero_le _), (Nat.zero_le _)⟩) hS (fun q _ h => ro_A hS hA q h) (ro_A hS hA) (fun r_7 u t H1 locs ht hvm k_8 hB hz1 hk1 hS => ?_)
      have hP := ro_P hk1 hP
      generalize H1 = H at hP hS ⊢
      try dsimp only at k_8
      obtain rfl : r_7 = 0 := k_8
      exact W.iret (v := 0) hx hb hr (fun t ht hW => ⟨⟨0, (), rfl, (by first | rfl | trivial | (simp; done)), trivial⟩, hS.F ht⟩) hS.2.2 dX5_count_68
set_option maxRecDepth 20000 in
theorem iw_X5_digest_X5 : ∀ w ∈ wsX50, w ∈ wsX5_digest := by decide +kernel
set_option maxHeartbeats 4000000 in
set_option maxRecDepth 100000 in
/-- digest -/
theorem c_X5_digest (l : Launch) (dC : Nat → ClassId) (dI : Nat → Nat → Nat) (sz : Nat) (h0 : Nat) (sea : Nat) (pas : Nat) (fl : Nat) (fc : Nat) (lc : Nat) (ct : Nat) (ch : Nat) (te : Nat) (cZ : ClassId)  : Met l yX5_digest wsX5_digest ({ frames := 3, cells := 0, slots := 0, locals := 68 }) (va_Pc [.ref h0] (fun U => U.heap.size = sz ∧ va_P (dC, dI) vwCl [(h0, .inr (6, [.ref sea, .ref pas, .ref fl, .ref fc, .int 0, .int 0, .int 0, .int 0, .int 0, .int 100, .int 1, .long 0])), (sea, .inr (3, [.ref lc, .ref ct, .ref ch])), (fl, .inr (0, [.int 0, .ref te, .int 0])), (ct, .inl (cZ, 12, .inl (fun _ => 0)))] U.heap ∧ va_K (dC, dI) vwCl [(cZ, .boolean)] U ∧ NW U)) (va_Ql (fun (r : Int64) (_ : Unit) => r = (-4510719745602815153)) (fun _ _ => True) (va_A [] sz)) 0 0 (va_A [] sz) := by
  refine Met.ofW (cc := cX5_digest) (maxL := 5) (ret := (some .long)) (by decide) rfl ?_
  intro p e s m args below meth c s₁ B hml hv
  obtain ⟨rfl, hsz, hP, hK, hN⟩ := hv
  have hx := B.exec
  have hb := B.bytes
  have hr := B.returns
  have hts := atoms_spec (ws := wsX5_digest) B.pre
  have hown : s.vm.findClass RX5 = some m.cls := findClass_of_methodNamed B.named
  have hlocks := B.notSynchronized
  subst hsz
  generalize hAe : va_A [] s.heap.size = A at ⊢
  have hA : ∀ q : Nat, s.heap.size ≤ q → A q := fun q h => by rw [← hAe]; exact Or.inr h
  have hS : va_S A s.heap s.heap [] := va_S.rf
  have hP : va_P (dC, dI) vwCl [(h0, .inr (6, [.ref sea, .ref pas, .ref fl, .ref fc, .int 0, .int 0, .int 0, .int 0, .int 0, .int 100, .int 1, .long 0])), (sea, .inr (3, [.ref lc, .ref ct, .ref ch])), (fl, .inr (0, [.int 0, .ref te, .int 0])), (ct, .inl (cZ, 12, .inl (fun _ => 0)))] s.heap := hP
  have hl := lv_entry ([.ref h0]) (n := 5) (Nat.le_of_ble_eq_true rfl)
  rw [lg_entry_eq]
  generalize (lg_sl ([.ref h0]) ++ List.replicate (5 - (lg_sl ([.ref h0])).length) Slot.unset).toArray = ls at hl ⊢
  have hl : lv_has ls 5 [(0, .ref h0)] := hl
  refine lv_ldc2 (v := (17)) hx hb hown (hts (.constantLong RX5 237 (17)) (by decide +kernel)) dX5_digest_0 ?_
  refine lv_lstore_n (lv' := [(1, .long (17)), (0, .ref h0)]) hx hb dX5_digest_3 rfl hl (by decide) rfl (fun ls hl => ?_)
  refine lv_iconst (v := 0) hx hb dX5_digest_4 (by decide) ?_
  refine lv_istore_n (lv' := [(3, .int 0), (1, .long (17)), (0, .ref h0)]) hx hb dX5_digest_5 rfl hl (by decide) rfl (fun ls hl => ?_)
  refine lv_iload_n hx hb dX5_digest_6 rfl (lv_at hl 0 rfl) ?_
  refine lv_iconst (v := 4) hx hb dX5_digest_7 (by decide) ?_
  refine lv_icmp_gt (tgt := 30) hx hb dX5_digest_8 (by decide) (fun c_1 => ?_) (fun c_1 => ?_)
  · skip
    exact absurd c_1 (by decide)
  · skip
    refine lv_ldc2 (v := (31)) hx hb hown (hts (.constantLong RX5 239 (31)) (by decide +kernel)) dX5_digest_11 ?_
    refine lv_lload_n hx hb dX5_digest_14 rfl (lv_at hl 1 rfl) ?_
    refine lv_lmul hx hb dX5_digest_15 ?_
    refine lv_topl (fun w_2 ew_2 => ?_)
    obtain rfl : w_2 = 527 := ew_2.trans (by decide +kernel)
    refine lv_aload_n hx hb dX5_digest_16 rfl (lv_at hl 2 rfl) ?_
    refine lv_iload_n hx hb dX5_digest_17 rfl (lv_at hl 0 rfl) ?_
    have hPc := hP.sub (ws' := [(h0, .inr (6, [.ref sea, .ref pas, .ref fl, .ref fc, .int 0, .int 0, .int 0, .int 0, .int 0, .int 100, .int 1, .long 0])), (sea, .inr (3, [.ref lc, .ref ct, .ref ch])), (fl, .inr (0, [.int 0, .ref te, .int 0])), (ct, .inl (cZ, 12, .inl (fun _ => 0)))]) [0, 1, 2, 3] rfl
    have hKc := hK.sub (tys' := [(cZ, .boolean)]) [0] rfl
    refine va_calli (va_runV (As := [.int 0]) (rest := [.long 527]) ⟨hx, hb, hml, hown, hts⟩ (c_X5_count l dC dI s.heap.size h0 sea pas fl fc lc ct ch te cZ 0 ) (cwV 1 hts gX5_digest_X5_count rfl rfl rfl (by decide +kernel) ⟨Nat.le_of_ble_eq_true rfl, Nat.le_of_ble_eq_true rfl⟩) ⟨fun a U g mk q => by obtain ⟨q0, q1, qP, qK, qN⟩ := q; exact ⟨q0, q1, qP, va_K.moved (u := U) (U := U.calling g mk a) (Vm.Alike.refl U.vm) qK, NW.same (u := U) (U := U.calling g mk a) rfl qN⟩, va_recv hKc hPc (ci := 6) (q0 := 0) rfl rfl, fun U hU hW => ⟨rfl, by rw [hU], by rw [hU]; exact hPc, va_K.moved hW.alike hKc, NW.warm hW hN⟩⟩ rfl rfl hl.1 rfl (lv_room (Nat.le_of_ble_eq_true rfl)) dX5_digest_18 ⟨(Nat.zero_le _), (Nat.zero_le _)⟩) hS (fun q _ h => ro_A hS hA q h) (ro_A hS hA) (fun r_3 u t H1 locs ht hvm k_4 hB hz1 hk1 hS => ?_)
    have hP := ro_P hk1 hP
    generalize H1 = H at hP hS ⊢
    try dsimp only at k_4
    obtain rfl : r_3 = 0 := k_4.trans (by decide +kernel)
    refine lv_i2l (v := 0) hx hb dX5_digest_21 (by decide +kernel) ?_
    refine lv_ladd hx hb dX5_digest_22 ?_
    refine lv_topl (fun w_5 ew_5 => ?_)
    obtain rfl : w_5 = 527 := ew_5.trans (by decide +kernel)
    refine lv_lstore_n (lv' := [(1, .long 527), (3, .int 0), (0, .ref h0)]) hx hb dX5_digest_23 rfl hl (by decide) rfl (fun ls hl => ?_)
    refine lv_iinc (v := 1) (lv' := [(3, .int 1), (1, .long 527), (0, .ref h0)]) hx hb dX5_digest_24 hl (k := 1) rfl (by decide +kernel) (by decide) rfl (fun ls hl => ?_)
    refine lv_goto (tgt := 6) hx hb dX5_digest_27 (by decide) ?_
    refine lv_iload_n hx hb dX5_digest_6 rfl (lv_at hl 0 rfl) ?_
    refine lv_iconst (v := 4) hx hb dX5_digest_7 (by decide) ?_
    refine lv_icmp_gt (tgt := 30) hx hb dX5_digest_8 (by decide) (fun c_7 => ?_) (fun c_7 => ?_)
    · skip
      exact absurd c_7 (by decide)
    · skip
      refine lv_ldc2 (v := (31)) hx hb hown (hts (.constantLong RX5 239 (31)) (by decide +kernel)) dX5_digest_11 ?_
      refine lv_lload_n hx hb dX5_digest_14 rfl (lv_at hl 1 rfl) ?_
      refine lv_lmul hx hb dX5_digest_15 ?_
      refine lv_topl (fun w_8 ew_8 => ?_)
      obtain rfl : w_8 = 16337 := ew_8.trans (by decide +kernel)
      refine lv_aload_n hx hb dX5_digest_16 rfl (lv_at hl 2 rfl) ?_
      refine lv_iload_n hx hb dX5_digest_17 rfl (lv_at hl 0 rfl) ?_
      have hPc := hP.sub (ws' := [(h0, .inr (6, [.ref sea, .ref pas, .ref fl, .ref fc, .int 0, .int 0, .int 0, .int 0, .int 0, .int 100, .int 1, .long 0])), (sea, .inr (3, [.ref lc, .ref ct, .ref ch])), (fl, .inr (0, [.int 0, .ref te, .int 0])), (ct, .inl (cZ, 12, .inl (fun _ => 0)))]) [0, 1, 2, 3] rfl
      have hKc := hK.sub (tys' := [(cZ, .boolean)]) [0] rfl
      refine va_calli (va_runV (As := [.int 1]) (rest := [.long 16337]) ⟨hx, hb, hml, hown, hts⟩ (c_X5_count l dC dI H.size h0 sea pas fl fc lc ct ch te cZ 1 ) (cwV 1 hts gX5_digest_X5_count rfl rfl rfl (by decide +kernel) ⟨Nat.le_of_ble_eq_true rfl, Nat.le_of_ble_eq_true rfl⟩) ⟨fun a U g mk q => by obtain ⟨q0, q1, qP, qK, qN⟩ := q; exact ⟨q0, q1, qP, va_K.moved (u := U) (U := U.calling g mk a) (Vm.Alike.refl U.vm) qK, NW.same (u := U) (U := U.calling g mk a) rfl qN⟩, va_recv hKc hPc (ci := 6) (q0 := 0) rfl rfl, fun U hU hW => ⟨rfl, by rw [hU], by rw [hU]; exact hPc, va_K.moved hW.alike hKc, NW.warm hW hN⟩⟩ rfl rfl hl.1 rfl (lv_room (Nat.le_of_ble_eq_true rfl)) dX5_digest_18 ⟨(Nat.zero_le _), (Nat.zero_le _)⟩) hS (fun q _ h => ro_A hS hA q h) (ro_A hS hA) (fun r_9 u t H1 locs ht hvm k_10 hB hz1 hk1 hS => ?_)
      have hP := ro_P hk1 hP
      generalize H1 = H at hP hS ⊢
      try dsimp only at k_10
      obtain rfl : r_9 = 0 := k_10.trans (by decide +kernel)
      refine lv_i2l (v := 0) hx hb dX5_digest_21 (by decide +kernel) ?_
      refine lv_ladd hx hb dX5_digest_22 ?_
      refine lv_topl (fun w_11 ew_11 => ?_)
      obtain rfl : w_11 = 16337 := ew_11.trans (by decide +kernel)
      refine lv_lstore_n (lv' := [(1, .long 16337), (3, .int 1), (0, .ref h0)]) hx hb dX5_digest_23 rfl hl (by decide) rfl (fun ls hl => ?_)
      refine lv_iinc (v := 2) (lv' := [(3, .int 2), (1, .long 16337), (0, .ref h0)]) hx hb dX5_digest_24 hl (k := 1) rfl (by decide +kernel) (by decide) rfl (fun ls hl => ?_)
      refine lv_goto (tgt := 6) hx hb dX5_digest_27 (by decide) ?_
      refine lv_iload_n hx hb dX5_digest_6 rfl (lv_at hl 0 rfl) ?_
      refine lv_iconst (v := 4) hx hb dX5_digest_7 (by decide) ?_
      refine lv_icmp_gt (tgt := 30) hx hb dX5_digest_8 (by decide) (fun c_13 => ?_) (fun c_13 => ?_)
      · skip
        exact absurd c_13 (by decide)
      · skip
        refine lv_ldc2 (v := (31)) hx hb hown (hts (.constantLong RX5 239 (31)) (by decide +kernel)) dX5_digest_11 ?_
        refine lv_lload_n hx hb dX5_digest_14 rfl (lv_at hl 1 rfl) ?_
        refine lv_lmul hx hb dX5_digest_15 ?_
        refine lv_topl (fun w_14 ew_14 => ?_)
        obtain rfl : w_14 = 506447 := ew_14.trans (by decide +kernel)
        refine lv_aload_n hx hb dX5_digest_16 rfl (lv_at hl 2 rfl) ?_
        refine lv_iload_n hx hb dX5_digest_17 rfl (lv_at hl 0 rfl) ?_
        have hPc := hP.sub (ws' := [(h0, .inr (6, [.ref sea, .ref pas, .ref fl, .ref fc, .int 0, .int 0, .int 0, .int 0, .int 0, .int 100, .int 1, .long 0])), (sea, .inr (3, [.ref lc, .ref ct, .ref ch])), (fl, .inr (0, [.int 0, .ref te, .int 0])), (ct, .inl (cZ, 12, .inl (fun _ => 0)))]) [0, 1, 2, 3] rfl
        have hKc := hK.sub (tys' := [(cZ, .boolean)]) [0] rfl
        refine va_calli (va_runV (As := [.int 2]) (rest := [.long 506447]) ⟨hx, hb, hml, hown, hts⟩ (c_X5_count l dC dI H.size h0 sea pas fl fc lc ct ch te cZ 2 ) (cwV 1 hts gX5_digest_X5_count rfl rfl rfl (by decide +kernel) ⟨Nat.le_of_ble_eq_true rfl, Nat.le_of_ble_eq_true rfl⟩) ⟨fun a U g mk q => by obtain ⟨q0, q1, qP, qK, qN⟩ := q; exact ⟨q0, q1, qP, va_K.moved (u := U) (U := U.calling g mk a) (Vm.Alike.refl U.vm) qK, NW.same (u := U) (U := U.calling g mk a) rfl qN⟩, va_recv hKc hPc (ci := 6) (q0 := 0) rfl rfl, fun U hU hW => ⟨rfl, by rw [hU], by rw [hU]; exact hPc, va_K.moved hW.alike hKc, NW.warm hW hN⟩⟩ rfl rfl hl.1 rfl (lv_room (Nat.le_of_ble_eq_true rfl)) dX5_digest_18 ⟨(Nat.zero_le _), (Nat.zero_le _)⟩) hS (fun q _ h => ro_A hS hA q h) (ro_A hS hA) (fun r_15 u t H1 locs ht hvm k_16 hB hz1 hk1 hS => ?_)
        have hP := ro_P hk1 hP
        generalize H1 = H at hP hS ⊢
        try dsimp only at k_16
        obtain rfl : r_15 = 0 := k_16.trans (by decide +kernel)
        refine lv_i2l (v := 0) hx hb dX5_digest_21 (by decide +kernel) ?_
        refine lv_ladd hx hb dX5_digest_22 ?_
        refine lv_topl (fun w_17 ew_17 => ?_)
        obtain rfl : w_17 = 506447 := ew_17.trans (by decide +kernel)
        refine lv_lstore_n (lv' := [(1, .long 506447), (3, .int 2), (0, .ref h0)]) hx hb dX5_digest_23 rfl hl (by decide) rfl (fun ls hl => ?_)
        refine lv_iinc (v := 3) (lv' := [(3, .int 3), (1, .long 506447), (0, .ref h0)]) hx hb dX5_digest_24 hl (k := 1) rfl (by decide +kernel) (by decide) rfl (fun ls hl => ?_)
        refine lv_goto (tgt := 6) hx hb dX5_digest_27 (by decide) ?_
        refine lv_iload_n hx hb dX5_digest_6 rfl (lv_at hl 0 rfl) ?_
        refine lv_iconst (v := 4) hx hb dX5_digest_7 (by decide) ?_
        refine lv_icmp_gt (tgt := 30) hx hb dX5_digest_8 (by decide) (fun c_19 => ?_) (fun c_19 => ?_)
        · skip
          exact absurd c_19 (by decide)
        · skip
          refine lv_ldc2 (v := (31)) hx hb hown (hts (.constantLong RX5 239 (31)) (by decide +kernel)) dX5_digest_11 ?_
          refine lv_lload_n hx hb dX5_digest_14 rfl (lv_at hl 1 rfl) ?_
          refine lv_lmul hx hb dX5_digest_15 ?_
          refine lv_topl (fun w_20 ew_20 => ?_)
          obtain rfl : w_20 = 15699857 := ew_20.trans (by decide +kernel)
          refine lv_aload_n hx hb dX5_digest_16 rfl (lv_at hl 2 rfl) ?_
          refine lv_iload_n hx hb dX5_digest_17 rfl (lv_at hl 0 rfl) ?_
          have hPc := hP.sub (ws' := [(h0, .inr (6, [.ref sea, .ref pas, .ref fl, .ref fc, .int 0, .int 0, .int 0, .int 0, .int 0, .int 100, .int 1, .long 0])), (sea, .inr (3, [.ref lc, .ref ct, .ref ch])), (fl, .inr (0, [.int 0, .ref te, .int 0])), (ct, .inl (cZ, 12, .inl (fun _ => 0)))]) [0, 1, 2, 3] rfl
          have hKc := hK.sub (tys' := [(cZ, .boolean)]) [0] rfl
          refine va_calli (va_runV (As := [.int 3]) (rest := [.long 15699857]) ⟨hx, hb, hml, hown, hts⟩ (c_X5_count l dC dI H.size h0 sea pas fl fc lc ct ch te cZ 3 ) (cwV 1 hts gX5_digest_X5_count rfl rfl rfl (by decide +kernel) ⟨Nat.le_of_ble_eq_true rfl, Nat.le_of_ble_eq_true rfl⟩) ⟨fun a U g mk q => by obtain ⟨q0, q1, qP, qK, qN⟩ := q; exact ⟨q0, q1, qP, va_K.moved (u := U) (U := U.calling g mk a) (Vm.Alike.refl U.vm) qK, NW.same (u := U) (U := U.calling g mk a) rfl qN⟩, va_recv hKc hPc (ci := 6) (q0 := 0) rfl rfl, fun U hU hW => ⟨rfl, by rw [hU], by rw [hU]; exact hPc, va_K.moved hW.alike hKc, NW.warm hW hN⟩⟩ rfl rfl hl.1 rfl (lv_room (Nat.le_of_ble_eq_true rfl)) dX5_digest_18 ⟨(Nat.zero_le _), (Nat.zero_le _)⟩) hS (fun q _ h => ro_A hS hA q h) (ro_A hS hA) (fun r_21 u t H1 locs ht hvm k_22 hB hz1 hk1 hS => ?_)
          have hP := ro_P hk1 hP
          generalize H1 = H at hP hS ⊢
          try dsimp only at k_22
          obtain rfl : r_21 = 0 := k_22.trans (by decide +kernel)
          refine lv_i2l (v := 0) hx hb dX5_digest_21 (by decide +kernel) ?_
          refine lv_ladd hx hb dX5_digest_22 ?_
          refine lv_topl (fun w_23 ew_23 => ?_)
          obtain rfl : w_23 = 15699857 := ew_23.trans (by decide +kernel)
          refine lv_lstore_n (lv' := [(1, .long 15699857), (3, .int 3), (0, .ref h0)]) hx hb dX5_digest_23 rfl hl (by decide) rfl (fun ls hl => ?_)
          refine lv_iinc (v := 4) (lv' := [(3, .int 4), (1, .long 15699857), (0, .ref h0)]) hx hb dX5_digest_24 hl (k := 1) rfl (by decide +kernel) (by decide) rfl (fun ls hl => ?_)
          refine lv_goto (tgt := 6) hx hb dX5_digest_27 (by decide) ?_
          refine lv_iload_n hx hb dX5_digest_6 rfl (lv_at hl 0 rfl) ?_
          refine lv_iconst (v := 4) hx hb dX5_digest_7 (by decide) ?_
          refine lv_icmp_gt (tgt := 30) hx hb dX5_digest_8 (by decide) (fun c_25 => ?_) (fun c_25 => ?_)
          · skip
            exact absurd c_25 (by decide)
          · skip
            refine lv_ldc2 (v := (31)) hx hb hown (hts (.constantLong RX5 239 (31)) (by decide +kernel)) dX5_digest_11 ?_
            refine lv_lload_n hx hb dX5_digest_14 rfl (lv_at hl 1 rfl) ?_
            refine lv_lmul hx hb dX5_digest_15 ?_
            refine lv_topl (fun w_26 ew_26 => ?_)
            obtain rfl : w_26 = 486695567 := ew_26.trans (by decide +kernel)
            refine lv_aload_n hx hb dX5_digest_16 rfl (lv_at hl 2 rfl) ?_
            refine lv_iload_n hx hb dX5_digest_17 rfl (lv_at hl 0 rfl) ?_
            have hPc := hP.sub (ws' := [(h0, .inr (6, [.ref sea, .ref pas, .ref fl, .ref fc, .int 0, .int 0, .int 0, .int 0, .int 0, .int 100, .int 1, .long 0])), (sea, .inr (3, [.ref lc, .ref ct, .ref ch])), (fl, .inr (0, [.int 0, .ref te, .int 0])), (ct, .inl (cZ, 12, .inl (fun _ => 0)))]) [0, 1, 2, 3] rfl
            have hKc := hK.sub (tys' := [(cZ, .boolean)]) [0] rfl
            refine va_calli (va_runV (As := [.int 4]) (rest := [.long 486695567]) ⟨hx, hb, hml, hown, hts⟩ (c_X5_count l dC dI H.size h0 sea pas fl fc lc ct ch te cZ 4 ) (cwV 1 hts gX5_digest_X5_count rfl rfl rfl (by decide +kernel) ⟨Nat.le_of_ble_eq_true rfl, Nat.le_of_ble_eq_true rfl⟩) ⟨fun a U g mk q => by obtain ⟨q0, q1, qP, qK, qN⟩ := q; exact ⟨q0, q1, qP, va_K.moved (u := U) (U := U.calling g mk a) (Vm.Alike.refl U.vm) qK, NW.same (u := U) (U := U.calling g mk a) rfl qN⟩, va_recv hKc hPc (ci := 6) (q0 := 0) rfl rfl, fun U hU hW => ⟨rfl, by rw [hU], by rw [hU]; exact hPc, va_K.moved hW.alike hKc, NW.warm hW hN⟩⟩ rfl rfl hl.1 rfl (lv_room (Nat.le_of_ble_eq_true rfl)) dX5_digest_18 ⟨(Nat.zero_le _), (Nat.zero_le _)⟩) hS (fun q _ h => ro_A hS hA q h) (ro_A hS hA) (fun r_27 u t H1 locs ht hvm k_28 hB hz1 hk1 hS => ?_)
            have hP := ro_P hk1 hP
            generalize H1 = H at hP hS ⊢
            try dsimp only at k_28
            obtain rfl : r_27 = 0 := k_28.trans (by decide +kernel)
            refine lv_i2l (v := 0) hx hb dX5_digest_21 (by decide +kernel) ?_
            refine lv_ladd hx hb dX5_digest_22 ?_
            refine lv_topl (fun w_29 ew_29 => ?_)
            obtain rfl : w_29 = 486695567 := ew_29.trans (by decide +kernel)
            refine lv_lstore_n (lv' := [(1, .long 486695567), (3, .int 4), (0, .ref h0)]) hx hb dX5_digest_23 rfl hl (by decide) rfl (fun ls hl => ?_)
            refine lv_iinc (v := 5) (lv' := [(3, .int 5), (1, .long 486695567), (0, .ref h0)]) hx hb dX5_digest_24 hl (k := 1) rfl (by decide +kernel) (by decide) rfl (fun ls hl => ?_)
            refine lv_goto (tgt := 6) hx hb dX5_digest_27 (by decide) ?_
            refine lv_iload_n hx hb dX5_digest_6 rfl (lv_at hl 0 rfl) ?_
            refine lv_iconst (v := 4) hx hb dX5_digest_7 (by decide) ?_
            refine lv_icmp_gt (tgt := 30) hx hb dX5_digest_8 (by decide) (fun c_31 => ?_) (fun c_31 => ?_)
            · skip
              refine lv_iconst (v := 0) hx hb dX5_digest_30 (by decide) ?_
              refine lv_istore_n (lv' := [(3, .int 0), (1, .long 486695567), (0, .ref h0)]) hx hb dX5_digest_31 rfl hl (by decide) rfl (fun ls hl => ?_)
              refine lv_iload_n hx hb dX5_digest_32 rfl (lv_at hl 0 rfl) ?_
              refine lv_aload_n hx hb dX5_digest_33 rfl (lv_at hl 2 rfl) ?_
              refine va_get (D := (dC, dI)) (ci := 6) (v := .ref fl) (C := RX5) (T := TX5) (N := 12) hx hb hts iw_X5_digest_X5 hown hK hP 0 rfl rfl 2 (by decide) (hts (.fieldLink RX5 26 "TeaRace" "fleet" "Ljava/util/List;") (by decide +kernel)) (fun _ h9 => h9) rfl dX5_digest_34 ?_
              have hPc := hP.sub (ws' := [(fl, .inr (0, [.int 0, .ref te, .int 0]))]) [2] rfl
              have hKc := hK.sub (tys' := []) [] rfl
              refine va_callFi (va_runF (va_atK hKc (ci := 0) rfl) (As := []) (rest := [.int 0]) ⟨hx, hb, hml, hown, hts⟩ (c_Jx4a65c_size_8abf5 l dC dI H.size fl te ) (va_cwF 0 hts gX5_digest_Jx4a65c_size_8abf5_f107Jx4a65c rfl rfl rfl hN.fSize (by decide +kernel) ⟨Nat.le_of_ble_eq_true rfl, Nat.le_of_ble_eq_true rfl⟩) ⟨fun a U g mk q => by obtain ⟨q0, q1, qP, qK, qN⟩ := q; exact ⟨q0, q1, qP, va_K.moved (u := U) (U := U.calling g mk a) (Vm.Alike.refl U.vm) qK, NW.same (u := U) (U := U.calling g mk a) rfl qN⟩, va_recv hKc hPc (ci := 0) (q0 := 0) rfl rfl, fun U hU hW => ⟨rfl, by rw [hU], by rw [hU]; exact hPc, va_K.moved hW.alike hKc, NW.warm hW hN⟩⟩ rfl rfl hl.1 rfl (lv_room (Nat.le_of_ble_eq_true rfl)) dX5_digest_37 ⟨(Nat.zero_le _), (Nat.zero_le _)⟩) hS (fun q _ h => ro_A hS hA q h) (ro_A hS hA) (fun r_32 u t H1 locs ht hvm k_33 hB hz1 hk1 hS => ?_)
              have hP := ro_P hk1 hP
              generalize H1 = H at hP hS ⊢
              try dsimp only at k_33
              obtain rfl : r_32 = 0 := k_33
              refine lv_icmp_ge (tgt := 82) hx hb dX5_digest_42 (by decide) (fun c_34 => ?_) (fun c_34 => ?_)
              · skip
                refine lv_iconst (v := 0) hx hb dX5_digest_82 (by decide) ?_
                refine lv_istore_n (lv' := [(3, .int 0), (1, .long 486695567), (0, .ref h0)]) hx hb dX5_digest_83 rfl hl (by decide) rfl (fun ls hl => ?_)
                refine lv_iload_n hx hb dX5_digest_84 rfl (lv_at hl 0 rfl) ?_
                refine lv_bipush (v := 12) hx hb dX5_digest_85 (by decide) ?_
                refine lv_icmp_ge (tgt := 106) hx hb dX5_digest_87 (by decide) (fun c_35 => ?_) (fun c_35 => ?_)
                · skip
                  exact absurd c_35 (by decide)
                · skip
                  refine lv_aload_n hx hb dX5_digest_90 rfl (lv_at hl 2 rfl) ?_
                  refine va_get (D := (dC, dI)) (ci := 6) (v := .ref sea) (C := RX5) (T := TX5) (N := 12) hx hb hts iw_X5_digest_X5 hown hK hP 0 rfl rfl 0 (by decide) (hts (.fieldLink RX5 10 "TeaRace" "sea" "LTeaRace$Sea;") (by decide +kernel)) (fun _ h9 => h9) rfl dX5_digest_91 ?_
                  refine lv_iload_n hx hb dX5_digest_94 rfl (lv_at hl 0 rfl) ?_
                  refine lv_lload_n hx hb dX5_digest_95 rfl (lv_at hl 1 rfl) ?_
                  have hPc := hP.sub (ws' := [(sea, .inr (3, [.ref lc, .ref ct, .ref ch])), (ct, .inl (cZ, 12, .inl (fun _ => 0)))]) [1, 3] rfl
                  have hKc := hK.sub (tys' := [(cZ, .boolean)]) [0] rfl
                  refine va_calll (va_runV (As := [.int 0, .long 486695567]) (rest := []) ⟨hx, hb, hml, hown, hts⟩ (c_X2_digestChart l dC dI H.size sea lc ct ch cZ 0 486695567 ) (cwV 2 hts gX5_digest_X2_digestChart rfl rfl rfl (by decide +kernel) ⟨Nat.le_of_ble_eq_true rfl, Nat.le_of_ble_eq_true rfl⟩) ⟨fun a U g mk q => by obtain ⟨q0, q1, qP, qK, qN⟩ := q; exact ⟨q0, q1, qP, va_K.moved (u := U) (U := U.calling g mk a) (Vm.Alike.refl U.vm) qK, NW.same (u := U) (U := U.calling g mk a) rfl qN⟩, va_recv hKc hPc (ci := 3) (q0 := 0) rfl rfl, fun U hU hW => ⟨rfl, by rw [hU], by rw [hU]; exact hPc, va_K.moved hW.alike hKc, NW.warm hW hN⟩⟩ rfl rfl hl.1 rfl (lv_room (Nat.le_of_ble_eq_true rfl)) dX5_digest_96 ⟨(Nat.zero_le _), (Nat.zero_le _)⟩) hS (fun q _ h => ro_A hS hA q h) (ro_A hS hA) (fun r_36 u t H1 locs ht hvm k_37 hB hz1 hk1 hS => ?_)
                  have hP := ro_P hk1 hP
                  generalize H1 = H at hP hS ⊢
                  try dsimp only at k_37
                  obtain rfl : r_36 = 15087562576 := k_37.trans (by decide +kernel)
                  refine lv_lstore_n (lv' := [(1, .long 15087562576), (3, .int 0), (0, .ref h0)]) hx hb dX5_digest_99 rfl hl (by decide) rfl (fun ls hl => ?_)
                  refine lv_iinc (v := 1) (lv' := [(3, .int 1), (1, .long 15087562576), (0, .ref h0)]) hx hb dX5_digest_100 hl (k := 1) rfl (by decide +kernel) (by decide) rfl (fun ls hl => ?_)
                  refine lv_goto (tgt := 84) hx hb dX5_digest_103 (by decide) ?_
                  refine lv_iload_n hx hb dX5_digest_84 rfl (lv_at hl 0 rfl) ?_
                  refine lv_bipush (v := 12) hx hb dX5_digest_85 (by decide) ?_
                  refine lv_icmp_ge (tgt := 106) hx hb dX5_digest_87 (by decide) (fun c_39 => ?_) (fun c_39 => ?_)
                  · skip
                    exact absurd c_39 (by decide)
                  · skip
                    refine lv_aload_n hx hb dX5_digest_90 rfl (lv_at hl 2 rfl) ?_
                    refine va_get (D := (dC, dI)) (ci := 6) (v := .ref sea) (C := RX5) (T := TX5) (N := 12) hx hb hts iw_X5_digest_X5 hown hK hP 0 rfl rfl 0 (by decide) (hts (.fieldLink RX5 10 "TeaRace" "sea" "LTeaRace$Sea;") (by decide +kernel)) (fun _ h9 => h9) rfl dX5_digest_91 ?_
                    refine lv_iload_n hx hb dX5_digest_94 rfl (lv_at hl 0 rfl) ?_
                    refine lv_lload_n hx hb dX5_digest_95 rfl (lv_at hl 1 rfl) ?_
                    have hPc := hP.sub (ws' := [(sea, .inr (3, [.ref lc, .ref ct, .ref ch])), (ct, .inl (cZ, 12, .inl (fun _ => 0)))]) [1, 3] rfl
                    have hKc := hK.sub (tys' := [(cZ, .boolean)]) [0] rfl
                    refine va_calll (va_runV (As := [.int 1, .long 15087562576]) (rest := []) ⟨hx, hb, hml, hown, hts⟩ (c_X2_digestChart l dC dI H.size sea lc ct ch cZ 1 15087562576 ) (cwV 2 hts gX5_digest_X2_digestChart rfl rfl rfl (by decide +kernel) ⟨Nat.le_of_ble_eq_true rfl, Nat.le_of_ble_eq_true rfl⟩) ⟨fun a U g mk q => by obtain ⟨q0, q1, qP, qK, qN⟩ := q; exact ⟨q0, q1, qP, va_K.moved (u := U) (U := U.calling g mk a) (Vm.Alike.refl U.vm) qK, NW.same (u := U) (U := U.calling g mk a) rfl qN⟩, va_recv hKc hPc (ci := 3) (q0 := 0) rfl rfl, fun U hU hW => ⟨rfl, by rw [hU], by rw [hU]; exact hPc, va_K.moved hW.alike hKc, NW.warm hW hN⟩⟩ rfl rfl hl.1 rfl (lv_room (Nat.le_of_ble_eq_true rfl)) dX5_digest_96 ⟨(Nat.zero_le _), (Nat.zero_le _)⟩) hS (fun q _ h => ro_A hS hA q h) (ro_A hS hA) (fun r_40 u t H1 locs ht hvm k_41 hB hz1 hk1 hS => ?_)
                    have hP := ro_P hk1 hP
                    generalize H1 = H at hP hS ⊢
                    try dsimp only at k_41
                    obtain rfl : r_40 = 467714439855 := k_41.trans (by decide +kernel)
                    refine lv_lstore_n (lv' := [(1, .long 467714439855), (3, .int 1), (0, .ref h0)]) hx hb dX5_digest_99 rfl hl (by decide) rfl (fun ls hl => ?_)
                    refine lv_iinc (v := 2) (lv' := [(3, .int 2), (1, .long 467714439855), (0, .ref h0)]) hx hb dX5_digest_100 hl (k := 1) rfl (by decide +kernel) (by decide) rfl (fun ls hl => ?_)
                    refine lv_goto (tgt := 84) hx hb dX5_digest_103 (by decide) ?_
                    refine lv_iload_n hx hb dX5_digest_84 rfl (lv_at hl 0 rfl) ?_
                    refine lv_bipush (v := 12) hx hb dX5_digest_85 (by decide) ?_
                    refine lv_icmp_ge (tgt := 106) hx hb dX5_digest_87 (by decide) (fun c_43 => ?_) (fun c_43 => ?_)
                    · skip
                      exact absurd c_43 (by decide)
                    · skip
                      refine lv_aload_n hx hb dX5_digest_90 rfl (lv_at hl 2 rfl) ?_
                      refine va_get (D := (dC, dI)) (ci := 6) (v := .ref sea) (C := RX5) (T := TX5) (N := 12) hx hb hts iw_X5_digest_X5 hown hK hP 0 rfl rfl 0 (by decide) (hts (.fieldLink RX5 10 "TeaRace" "sea" "LTeaRace$Sea;") (by decide +kernel)) (fun _ h9 => h9) rfl dX5_digest_91 ?_
                      refine lv_iload_n hx hb dX5_digest_94 rfl (lv_at hl 0 rfl) ?_
                      refine lv_lload_n hx hb dX5_digest_95 rfl (lv_at hl 1 rfl) ?_
                      have hPc := hP.sub (ws' := [(sea, .inr (3, [.ref lc, .ref ct, .ref ch])), (ct, .inl (cZ, 12, .inl (fun _ => 0)))]) [1, 3] rfl
                      have hKc := hK.sub (tys' := [(cZ, .boolean)]) [0] rfl
                      refine va_calll (va_runV (As := [.int 2, .long 467714439855]) (rest := []) ⟨hx, hb, hml, hown, hts⟩ (c_X2_digestChart l dC dI H.size sea lc ct ch cZ 2 467714439855 ) (cwV 2 hts gX5_digest_X2_digestChart rfl rfl rfl (by decide +kernel) ⟨Nat.le_of_ble_eq_true rfl, Nat.le_of_ble_eq_true rfl⟩) ⟨fun a U g mk q => by obtain ⟨q0, q1, qP, qK, qN⟩ := q; exact ⟨q0, q1, qP, va_K.moved (u := U) (U := U.calling g mk a) (Vm.Alike.refl U.vm) qK, NW.same (u := U) (U := U.calling g mk a) rfl qN⟩, va_recv hKc hPc (ci := 3) (q0 := 0) rfl rfl, fun U hU hW => ⟨rfl, by rw [hU], by rw [hU]; exact hPc, va_K.moved hW.alike hKc, NW.warm hW hN⟩⟩ rfl rfl hl.1 rfl (lv_room (Nat.le_of_ble_eq_true rfl)) dX5_digest_96 ⟨(Nat.zero_le _), (Nat.zero_le _)⟩) hS (fun q _ h => ro_A hS hA q h) (ro_A hS hA) (fun r_44 u t H1 locs ht hvm k_45 hB hz1 hk1 hS => ?_)
                      have hP := ro_P hk1 hP
                      generalize H1 = H at hP hS ⊢
                      try dsimp only at k_45
                      obtain rfl : r_44 = 14499147635504 := k_45.trans (by decide +kernel)
                      refine lv_lstore_n (lv' := [(1, .long 14499147635504), (3, .int 2), (0, .ref h0)]) hx hb dX5_digest_99 rfl hl (by decide) rfl (fun ls hl => ?_)
                      refine lv_iinc (v := 3) (lv' := [(3, .int 3), (1, .long 14499147635504), (0, .ref h0)]) hx hb dX5_digest_100 hl (k := 1) rfl (by decide +kernel) (by decide) rfl (fun ls hl => ?_)
                      refine lv_goto (tgt := 84) hx hb dX5_digest_103 (by decide) ?_
                      refine lv_iload_n hx hb dX5_digest_84 rfl (lv_at hl 0 rfl) ?_
                      refine lv_bipush (v := 12) hx hb dX5_digest_85 (by decide) ?_
                      refine lv_icmp_ge (tgt := 106) hx hb dX5_digest_87 (by decide) (fun c_47 => ?_) (fun c_47 => ?_)
                      · skip
                        exact absurd c_47 (by decide)
                      · skip
                        refine lv_aload_n hx hb dX5_digest_90 rfl (lv_at hl 2 rfl) ?_
                        refine va_get (D := (dC, dI)) (ci := 6) (v := .ref sea) (C := RX5) (T := TX5) (N := 12) hx hb hts iw_X5_digest_X5 hown hK hP 0 rfl rfl 0 (by decide) (hts (.fieldLink RX5 10 "TeaRace" "sea" "LTeaRace$Sea;") (by decide +kernel)) (fun _ h9 => h9) rfl dX5_digest_91 ?_
                        refine lv_iload_n hx hb dX5_digest_94 rfl (lv_at hl 0 rfl) ?_
                        refine lv_lload_n hx hb dX5_digest_95 rfl (lv_at hl 1 rfl) ?_
                        have hPc := hP.sub (ws' := [(sea, .inr (3, [.ref lc, .ref ct, .ref ch])), (ct, .inl (cZ, 12, .inl (fun _ => 0)))]) [1, 3] rfl
                        have hKc := hK.sub (tys' := [(cZ, .boolean)]) [0] rfl
                        refine va_calll (va_runV (As := [.int 3, .long 14499147635504]) (rest := []) ⟨hx, hb, hml, hown, hts⟩ (c_X2_digestChart l dC dI H.size sea lc ct ch cZ 3 14499147635504 ) (cwV 2 hts gX5_digest_X2_digestChart rfl rfl rfl (by decide +kernel) ⟨Nat.le_of_ble_eq_true rfl, Nat.le_of_ble_eq_true rfl⟩) ⟨fun a U g mk q => by obtain ⟨q0, q1, qP, qK, qN⟩ := q; exact ⟨q0, q1, qP, va_K.moved (u := U) (U := U.calling g mk a) (Vm.Alike.refl U.vm) qK, NW.same (u := U) (U := U.calling g mk a) rfl qN⟩, va_recv hKc hPc (ci := 3) (q0 := 0) rfl rfl, fun U hU hW => ⟨rfl, by rw [hU], by rw [hU]; exact hPc, va_K.moved hW.alike hKc, NW.warm hW hN⟩⟩ rfl rfl hl.1 rfl (lv_room (Nat.le_of_ble_eq_true rfl)) dX5_digest_96 ⟨(Nat.zero_le _), (Nat.zero_le _)⟩) hS (fun q _ h => ro_A hS hA q h) (ro_A hS hA) (fun r_48 u t H1 locs ht hvm k_49 hB hz1 hk1 hS => ?_)
                        have hP := ro_P hk1 hP
                        generalize H1 = H at hP hS ⊢
                        try dsimp only at k_49
                        obtain rfl : r_48 = 449473576700623 := k_49.trans (by decide +kernel)
                        refine lv_lstore_n (lv' := [(1, .long 449473576700623), (3, .int 3), (0, .ref h0)]) hx hb dX5_digest_99 rfl hl (by decide) rfl (fun ls hl => ?_)
                        refine lv_iinc (v := 4) (lv' := [(3, .int 4), (1, .long 449473576700623), (0, .ref h0)]) hx hb dX5_digest_100 hl (k := 1) rfl (by decide +kernel) (by decide) rfl (fun ls hl => ?_)
                        refine lv_goto (tgt := 84) hx hb dX5_digest_103 (by decide) ?_
                        refine lv_iload_n hx hb dX5_digest_84 rfl (lv_at hl 0 rfl) ?_
                        refine lv_bipush (v := 12) hx hb dX5_digest_85 (by decide) ?_
                        refine lv_icmp_ge (tgt := 106) hx hb dX5_digest_87 (by decide) (fun c_51 => ?_) (fun c_51 => ?_)
                        · skip
                          exact absurd c_51 (by decide)
                        · skip
                          refine lv_aload_n hx hb dX5_digest_90 rfl (lv_at hl 2 rfl) ?_
                          refine va_get (D := (dC, dI)) (ci := 6) (v := .ref sea) (C := RX5) (T := TX5) (N := 12) hx hb hts iw_X5_digest_X5 hown hK hP 0 rfl rfl 0 (by decide) (hts (.fieldLink RX5 10 "TeaRace" "sea" "LTeaRace$Sea;") (by decide +kernel)) (fun _ h9 => h9) rfl dX5_digest_91 ?_
                          refine lv_iload_n hx hb dX5_digest_94 rfl (lv_at hl 0 rfl) ?_
                          refine lv_lload_n hx hb dX5_digest_95 rfl (lv_at hl 1 rfl) ?_
                          have hPc := hP.sub (ws' := [(sea, .inr (3, [.ref lc, .ref ct, .ref ch])), (ct, .inl (cZ, 12, .inl (fun _ => 0)))]) [1, 3] rfl
                          have hKc := hK.sub (tys' := [(cZ, .boolean)]) [0] rfl
                          refine va_calll (va_runV (As := [.int 4, .long 449473576700623]) (rest := []) ⟨hx, hb, hml, hown, hts⟩ (c_X2_digestChart l dC dI H.size sea lc ct ch cZ 4 449473576700623 ) (cwV 2 hts gX5_digest_X2_digestChart rfl rfl rfl (by decide +kernel) ⟨Nat.le_of_ble_eq_true rfl, Nat.le_of_ble_eq_true rfl⟩) ⟨fun a U g mk q => by obtain ⟨q0, q1, qP, qK, qN⟩ := q; exact ⟨q0, q1, qP, va_K.moved (u := U) (U := U.calling g mk a) (Vm.Alike.refl U.vm) qK, NW.same (u := U) (U := U.calling g mk a) rfl qN⟩, va_recv hKc hPc (ci := 3) (q0 := 0) rfl rfl, fun U hU hW => ⟨rfl, by rw [hU], by rw [hU]; exact hPc, va_K.moved hW.alike hKc, NW.warm hW hN⟩⟩ rfl rfl hl.1 rfl (lv_room (Nat.le_of_ble_eq_true rfl)) dX5_digest_96 ⟨(Nat.zero_le _), (Nat.zero_le _)⟩) hS (fun q _ h => ro_A hS hA q h) (ro_A hS hA) (fun r_52 u t H1 locs ht hvm k_53 hB hz1 hk1 hS => ?_)
                          have hP := ro_P hk1 hP
                          generalize H1 = H at hP hS ⊢
                          try dsimp only at k_53
                          obtain rfl : r_52 = 13933680877719312 := k_53.trans (by decide +kernel)
                          refine lv_lstore_n (lv' := [(1, .long 13933680877719312), (3, .int 4), (0, .ref h0)]) hx hb dX5_digest_99 rfl hl (by decide) rfl (fun ls hl => ?_)
                          refine lv_iinc (v := 5) (lv' := [(3, .int 5), (1, .long 13933680877719312), (0, .ref h0)]) hx hb dX5_digest_100 hl (k := 1) rfl (by decide +kernel) (by decide) rfl (fun ls hl => ?_)
                          refine lv_goto (tgt := 84) hx hb dX5_digest_103 (by decide) ?_
                          refine lv_iload_n hx hb dX5_digest_84 rfl (lv_at hl 0 rfl) ?_
                          refine lv_bipush (v := 12) hx hb dX5_digest_85 (by decide) ?_
                          refine lv_icmp_ge (tgt := 106) hx hb dX5_digest_87 (by decide) (fun c_55 => ?_) (fun c_55 => ?_)
                          · skip
                            exact absurd c_55 (by decide)
                          · skip
                            refine lv_aload_n hx hb dX5_digest_90 rfl (lv_at hl 2 rfl) ?_
                            refine va_get (D := (dC, dI)) (ci := 6) (v := .ref sea) (C := RX5) (T := TX5) (N := 12) hx hb hts iw_X5_digest_X5 hown hK hP 0 rfl rfl 0 (by decide) (hts (.fieldLink RX5 10 "TeaRace" "sea" "LTeaRace$Sea;") (by decide +kernel)) (fun _ h9 => h9) rfl dX5_digest_91 ?_
                            refine lv_iload_n hx hb dX5_digest_94 rfl (lv_at hl 0 rfl) ?_
                            refine lv_lload_n hx hb dX5_digest_95 rfl (lv_at hl 1 rfl) ?_
                            have hPc := hP.sub (ws' := [(sea, .inr (3, [.ref lc, .ref ct, .ref ch])), (ct, .inl (cZ, 12, .inl (fun _ => 0)))]) [1, 3] rfl
                            have hKc := hK.sub (tys' := [(cZ, .boolean)]) [0] rfl
                            refine va_calll (va_runV (As := [.int 5, .long 13933680877719312]) (rest := []) ⟨hx, hb, hml, hown, hts⟩ (c_X2_digestChart l dC dI H.size sea lc ct ch cZ 5 13933680877719312 ) (cwV 2 hts gX5_digest_X2_digestChart rfl rfl rfl (by decide +kernel) ⟨Nat.le_of_ble_eq_true rfl, Nat.le_of_ble_eq_true rfl⟩) ⟨fun a U g mk q => by obtain ⟨q0, q1, qP, qK, qN⟩ := q; exact ⟨q0, q1, qP, va_K.moved (u := U) (U := U.calling g mk a) (Vm.Alike.refl U.vm) qK, NW.same (u := U) (U := U.calling g mk a) rfl qN⟩, va_recv hKc hPc (ci := 3) (q0 := 0) rfl rfl, fun U hU hW => ⟨rfl, by rw [hU], by rw [hU]; exact hPc, va_K.moved hW.alike hKc, NW.warm hW hN⟩⟩ rfl rfl hl.1 rfl (lv_room (Nat.le_of_ble_eq_true rfl)) dX5_digest_96 ⟨(Nat.zero_le _), (Nat.zero_le _)⟩) hS (fun q _ h => ro_A hS hA q h) (ro_A hS hA) (fun r_56 u t H1 locs ht hvm k_57 hB hz1 hk1 hS => ?_)
                            have hP := ro_P hk1 hP
                            generalize H1 = H at hP hS ⊢
                            try dsimp only at k_57
                            obtain rfl : r_56 = 431944107209298671 := k_57.trans (by decide +kernel)
                            refine lv_lstore_n (lv' := [(1, .long 431944107209298671), (3, .int 5), (0, .ref h0)]) hx hb dX5_digest_99 rfl hl (by decide) rfl (fun ls hl => ?_)
                            refine lv_iinc (v := 6) (lv' := [(3, .int 6), (1, .long 431944107209298671), (0, .ref h0)]) hx hb dX5_digest_100 hl (k := 1) rfl (by decide +kernel) (by decide) rfl (fun ls hl => ?_)
                            refine lv_goto (tgt := 84) hx hb dX5_digest_103 (by decide) ?_
                            refine lv_iload_n hx hb dX5_digest_84 rfl (lv_at hl 0 rfl) ?_
                            refine lv_bipush (v := 12) hx hb dX5_digest_85 (by decide) ?_
                            refine lv_icmp_ge (tgt := 106) hx hb dX5_digest_87 (by decide) (fun c_59 => ?_) (fun c_59 => ?_)
                            · skip
                              exact absurd c_59 (by decide)
                            · skip
                              refine lv_aload_n hx hb dX5_digest_90 rfl (lv_at hl 2 rfl) ?_
                              refine va_get (D := (dC, dI)) (ci := 6) (v := .ref sea) (C := RX5) (T := TX5) (N := 12) hx hb hts iw_X5_digest_X5 hown hK hP 0 rfl rfl 0 (by decide) (hts (.fieldLink RX5 10 "TeaRace" "sea" "LTeaRace$Sea;") (by decide +kernel)) (fun _ h9 => h9) rfl dX5_digest_91 ?_
                              refine lv_iload_n hx hb dX5_digest_94 rfl (lv_at hl 0 rfl) ?_
                              refine lv_lload_n hx hb dX5_digest_95 rfl (lv_at hl 1 rfl) ?_
                              have hPc := hP.sub (ws' := [(sea, .inr (3, [.ref lc, .ref ct, .ref ch])), (ct, .inl (cZ, 12, .inl (fun _ => 0)))]) [1, 3] rfl
                              have hKc := hK.sub (tys' := [(cZ, .boolean)]) [0] rfl
                              refine va_calll (va_runV (As := [.int 6, .long 431944107209298671]) (rest := []) ⟨hx, hb, hml, hown, hts⟩ (c_X2_digestChart l dC dI H.size sea lc ct ch cZ 6 431944107209298671 ) (cwV 2 hts gX5_digest_X2_digestChart rfl rfl rfl (by decide +kernel) ⟨Nat.le_of_ble_eq_true rfl, Nat.le_of_ble_eq_true rfl⟩) ⟨fun a U g mk q => by obtain ⟨q0, q1, qP, qK, qN⟩ := q; exact ⟨q0, q1, qP, va_K.moved (u := U) (U := U.calling g mk a) (Vm.Alike.refl U.vm) qK, NW.same (u := U) (U := U.calling g mk a) rfl qN⟩, va_recv hKc hPc (ci := 3) (q0 := 0) rfl rfl, fun U hU hW => ⟨rfl, by rw [hU], by rw [hU]; exact hPc, va_K.moved hW.alike hKc, NW.warm hW hN⟩⟩ rfl rfl hl.1 rfl (lv_room (Nat.le_of_ble_eq_true rfl)) dX5_digest_96 ⟨(Nat.zero_le _), (Nat.zero_le _)⟩) hS (fun q _ h => ro_A hS hA q h) (ro_A hS hA) (fun r_60 u t H1 locs ht hvm k_61 hB hz1 hk1 hS => ?_)
                              have hP := ro_P hk1 hP
                              generalize H1 = H at hP hS ⊢
                              try dsimp only at k_61
                              obtain rfl : r_60 = (-5056476750221292816) := k_61.trans (by decide +kernel)
                              refine lv_lstore_n (lv' := [(1, .long (-5056476750221292816)), (3, .int 6), (0, .ref h0)]) hx hb dX5_digest_99 rfl hl (by decide) rfl (fun ls hl => ?_)
                              refine lv_iinc (v := 7) (lv' := [(3, .int 7), (1, .long (-5056476750221292816)), (0, .ref h0)]) hx hb dX5_digest_100 hl (k := 1) rfl (by decide +kernel) (by decide) rfl (fun ls hl => ?_)
                              refine lv_goto (tgt := 84) hx hb dX5_digest_103 (by decide) ?_
                              refine lv_iload_n hx hb dX5_digest_84 rfl (lv_at hl 0 rfl) ?_
                              refine lv_bipush (v := 12) hx hb dX5_digest_85 (by decide) ?_
                              refine lv_icmp_ge (tgt := 106) hx hb dX5_digest_87 (by decide) (fun c_63 => ?_) (fun c_63 => ?_)
                              · skip
                                exact absurd c_63 (by decide)
                              · skip
                                refine lv_aload_n hx hb dX5_digest_90 rfl (lv_at hl 2 rfl) ?_
                                refine va_get (D := (dC, dI)) (ci := 6) (v := .ref sea) (C := RX5) (T := TX5) (N := 12) hx hb hts iw_X5_digest_X5 hown hK hP 0 rfl rfl 0 (by decide) (hts (.fieldLink RX5 10 "TeaRace" "sea" "LTeaRace$Sea;") (by decide +kernel)) (fun _ h9 => h9) rfl dX5_digest_91 ?_
                                refine lv_iload_n hx hb dX5_digest_94 rfl (lv_at hl 0 rfl) ?_
                                refine lv_lload_n hx hb dX5_digest_95 rfl (lv_at hl 1 rfl) ?_
                                have hPc := hP.sub (ws' := [(sea, .inr (3, [.ref lc, .ref ct, .ref ch])), (ct, .inl (cZ, 12, .inl (fun _ => 0)))]) [1, 3] rfl
                                have hKc := hK.sub (tys' := [(cZ, .boolean)]) [0] rfl
                                refine va_calll (va_runV (As := [.int 7, .long (-5056476750221292816)]) (rest := []) ⟨hx, hb, hml, hown, hts⟩ (c_X2_digestChart l dC dI H.size sea lc ct ch cZ 7 (-5056476750221292816) ) (cwV 2 hts gX5_digest_X2_digestChart rfl rfl rfl (by decide +kernel) ⟨Nat.le_of_ble_eq_true rfl, Nat.le_of_ble_eq_true rfl⟩) ⟨fun a U g mk q => by obtain ⟨q0, q1, qP, qK, qN⟩ := q; exact ⟨q0, q1, qP, va_K.moved (u := U) (U := U.calling g mk a) (Vm.Alike.refl U.vm) qK, NW.same (u := U) (U := U.calling g mk a) rfl qN⟩, va_recv hKc hPc (ci := 3) (q0 := 0) rfl rfl, fun U hU hW => ⟨rfl, by rw [hU], by rw [hU]; exact hPc, va_K.moved hW.alike hKc, NW.warm hW hN⟩⟩ rfl rfl hl.1 rfl (lv_room (Nat.le_of_ble_eq_true rfl)) dX5_digest_96 ⟨(Nat.zero_le _), (Nat.zero_le _)⟩) hS (fun q _ h => ro_A hS hA q h) (ro_A hS hA) (fun r_64 u t H1 locs ht hvm k_65 hB hz1 hk1 hS => ?_)
                                have hP := ro_P hk1 hP
                                generalize H1 = H at hP hS ⊢
                                try dsimp only at k_65
                                obtain rfl : r_64 = (-9176826667183664369) := k_65.trans (by decide +kernel)
                                refine lv_lstore_n (lv' := [(1, .long (-9176826667183664369)), (3, .int 7), (0, .ref h0)]) hx hb dX5_digest_99 rfl hl (by decide) rfl (fun ls hl => ?_)
                                refine lv_iinc (v := 8) (lv' := [(3, .int 8), (1, .long (-9176826667183664369)), (0, .ref h0)]) hx hb dX5_digest_100 hl (k := 1) rfl (by decide +kernel) (by decide) rfl (fun ls hl => ?_)
                                refine lv_goto (tgt := 84) hx hb dX5_digest_103 (by decide) ?_
                                refine lv_iload_n hx hb dX5_digest_84 rfl (lv_at hl 0 rfl) ?_
                                refine lv_bipush (v := 12) hx hb dX5_digest_85 (by decide) ?_
                                refine lv_icmp_ge (tgt := 106) hx hb dX5_digest_87 (by decide) (fun c_67 => ?_) (fun c_67 => ?_)
                                · skip
                                  exact absurd c_67 (by decide)
                                · skip
                                  refine lv_aload_n hx hb dX5_digest_90 rfl (lv_at hl 2 rfl) ?_
                                  refine va_get (D := (dC, dI)) (ci := 6) (v := .ref sea) (C := RX5) (T := TX5) (N := 12) hx hb hts iw_X5_digest_X5 hown hK hP 0 rfl rfl 0 (by decide) (hts (.fieldLink RX5 10 "TeaRace" "sea" "LTeaRace$Sea;") (by decide +kernel)) (fun _ h9 => h9) rfl dX5_digest_91 ?_
                                  refine lv_iload_n hx hb dX5_digest_94 rfl (lv_at hl 0 rfl) ?_
                                  refine lv_lload_n hx hb dX5_digest_95 rfl (lv_at hl 1 rfl) ?_
                                  have hPc := hP.sub (ws' := [(sea, .inr (3, [.ref lc, .ref ct, .ref ch])), (ct, .inl (cZ, 12, .inl (fun _ => 0)))]) [1, 3] rfl
                                  have hKc := hK.sub (tys' := [(cZ, .boolean)]) [0] rfl
                                  refine va_calll (va_runV (As := [.int 8, .long (-9176826667183664369)]) (rest := []) ⟨hx, hb, hml, hown, hts⟩ (c_X2_digestChart l dC dI H.size sea lc ct ch cZ 8 (-9176826667183664369) ) (cwV 2 hts gX5_digest_X2_digestChart rfl rfl rfl (by decide +kernel) ⟨Nat.le_of_ble_eq_true rfl, Nat.le_of_ble_eq_true rfl⟩) ⟨fun a U g mk q => by obtain ⟨q0, q1, qP, qK, qN⟩ := q; exact ⟨q0, q1, qP, va_K.moved (u := U) (U := U.calling g mk a) (Vm.Alike.refl U.vm) qK, NW.same (u := U) (U := U.calling g mk a) rfl qN⟩, va_recv hKc hPc (ci := 3) (q0 := 0) rfl rfl, fun U hU hW => ⟨rfl, by rw [hU], by rw [hU]; exact hPc, va_K.moved hW.alike hKc, NW.warm hW hN⟩⟩ rfl rfl hl.1 rfl (lv_room (Nat.le_of_ble_eq_true rfl)) dX5_digest_96 ⟨(Nat.zero_le _), (Nat.zero_le _)⟩) hS (fun q _ h => ro_A hS hA q h) (ro_A hS hA) (fun r_68 u t H1 locs ht hvm k_69 hB hz1 hk1 hS => ?_)
                                  have hP := ro_P hk1 hP
                                  generalize H1 = H at hP hS ⊢
                                  try dsimp only at k_69
                                  obtain rfl : r_68 = (-7780465577050321200) := k_69.trans (by decide +kernel)
                                  refine lv_lstore_n (lv' := [(1, .long (-7780465577050321200)), (3, .int 8), (0, .ref h0)]) hx hb dX5_digest_99 rfl hl (by decide) rfl (fun ls hl => ?_)
                                  refine lv_iinc (v := 9) (lv' := [(3, .int 9), (1, .long (-7780465577050321200)), (0, .ref h0)]) hx hb dX5_digest_100 hl (k := 1) rfl (by decide +kernel) (by decide) rfl (fun ls hl => ?_)
                                  refine lv_goto (tgt := 84) hx hb dX5_digest_103 (by decide) ?_
                                  refine lv_iload_n hx hb dX5_digest_84 rfl (lv_at hl 0 rfl) ?_
                                  refine lv_bipush (v := 12) hx hb dX5_digest_85 (by decide) ?_
                                  refine lv_icmp_ge (tgt := 106) hx hb dX5_digest_87 (by decide) (fun c_71 => ?_) (fun c_71 => ?_)
                                  · skip
                                    exact absurd c_71 (by decide)
                                  · skip
                                    refine lv_aload_n hx hb dX5_digest_90 rfl (lv_at hl 2 rfl) ?_
                                    refine va_get (D := (dC, dI)) (ci := 6) (v := .ref sea) (C := RX5) (T := TX5) (N := 12) hx hb hts iw_X5_digest_X5 hown hK hP 0 rfl rfl 0 (by decide) (hts (.fieldLink RX5 10 "TeaRace" "sea" "LTeaRace$Sea;") (by decide +kernel)) (fun _ h9 => h9) rfl dX5_digest_91 ?_
                                    refine lv_iload_n hx hb dX5_digest_94 rfl (lv_at hl 0 rfl) ?_
                                    refine lv_lload_n hx hb dX5_digest_95 rfl (lv_at hl 1 rfl) ?_
                                    have hPc := hP.sub (ws' := [(sea, .inr (3, [.ref lc, .ref ct, .ref ch])), (ct, .inl (cZ, 12, .inl (fun _ => 0)))]) [1, 3] rfl
                                    have hKc := hK.sub (tys' := [(cZ, .boolean)]) [0] rfl
                                    refine va_calll (va_runV (As := [.int 9, .long (-7780465577050321200)]) (rest := []) ⟨hx, hb, hml, hown, hts⟩ (c_X2_digestChart l dC dI H.size sea lc ct ch cZ 9 (-7780465577050321200) ) (cwV 2 hts gX5_digest_X2_digestChart rfl rfl rfl (by decide +kernel) ⟨Nat.le_of_ble_eq_true rfl, Nat.le_of_ble_eq_true rfl⟩) ⟨fun a U g mk q => by obtain ⟨q0, q1, qP, qK, qN⟩ := q; exact ⟨q0, q1, qP, va_K.moved (u := U) (U := U.calling g mk a) (Vm.Alike.refl U.vm) qK, NW.same (u := U) (U := U.calling g mk a) rfl qN⟩, va_recv hKc hPc (ci := 3) (q0 := 0) rfl rfl, fun U hU hW => ⟨rfl, by rw [hU], by rw [hU]; exact hPc, va_K.moved hW.alike hKc, NW.warm hW hN⟩⟩ rfl rfl hl.1 rfl (lv_room (Nat.le_of_ble_eq_true rfl)) dX5_digest_96 ⟨(Nat.zero_le _), (Nat.zero_le _)⟩) hS (fun q _ h => ro_A hS hA q h) (ro_A hS hA) (fun r_72 u t H1 locs ht hvm k_73 hB hz1 hk1 hS => ?_)
                                    have hP := ro_P hk1 hP
                                    generalize H1 = H at hP hS ⊢
                                    try dsimp only at k_73
                                    obtain rfl : r_72 = (-1386759930335786193) := k_73.trans (by decide +kernel)
                                    refine lv_lstore_n (lv' := [(1, .long (-1386759930335786193)), (3, .int 9), (0, .ref h0)]) hx hb dX5_digest_99 rfl hl (by decide) rfl (fun ls hl => ?_)
                                    refine lv_iinc (v := 10) (lv' := [(3, .int 10), (1, .long (-1386759930335786193)), (0, .ref h0)]) hx hb dX5_digest_100 hl (k := 1) rfl (by decide +kernel) (by decide) rfl (fun ls hl => ?_)
                                    refine lv_goto (tgt := 84) hx hb dX5_digest_103 (by decide) ?_
                                    refine lv_iload_n hx hb dX5_digest_84 rfl (lv_at hl 0 rfl) ?_
                                    refine lv_bipush (v := 12) hx hb dX5_digest_85 (by decide) ?_
                                    refine lv_icmp_ge (tgt := 106) hx hb dX5_digest_87 (by decide) (fun c_75 => ?_) (fun c_75 => ?_)
                                    · skip
                                      exact absurd c_75 (by decide)
                                    · skip
                                      refine lv_aload_n hx hb dX5_digest_90 rfl (lv_at hl 2 rfl) ?_
                                      refine va_get (D := (dC, dI)) (ci := 6) (v := .ref sea) (C := RX5) (T := TX5) (N := 12) hx hb hts iw_X5_digest_X5 hown hK hP 0 rfl rfl 0 (by decide) (hts (.fieldLink RX5 10 "TeaRace" "sea" "LTeaRace$Sea;") (by decide +kernel)) (fun _ h9 => h9) rfl dX5_digest_91 ?_
                                      refine lv_iload_n hx hb dX5_digest_94 rfl (lv_at hl 0 rfl) ?_
                                      refine lv_lload_n hx hb dX5_digest_95 rfl (lv_at hl 1 rfl) ?_
                                      have hPc := hP.sub (ws' := [(sea, .inr (3, [.ref lc, .ref ct, .ref ch])), (ct, .inl (cZ, 12, .inl (fun _ => 0)))]) [1, 3] rfl
                                      have hKc := hK.sub (tys' := [(cZ, .boolean)]) [0] rfl
                                      refine va_calll (va_runV (As := [.int 10, .long (-1386759930335786193)]) (rest := []) ⟨hx, hb, hml, hown, hts⟩ (c_X2_digestChart l dC dI H.size sea lc ct ch cZ 10 (-1386759930335786193) ) (cwV 2 hts gX5_digest_X2_digestChart rfl rfl rfl (by decide +kernel) ⟨Nat.le_of_ble_eq_true rfl, Nat.le_of_ble_eq_true rfl⟩) ⟨fun a U g mk q => by obtain ⟨q0, q1, qP, qK, qN⟩ := q; exact ⟨q0, q1, qP, va_K.moved (u := U) (U := U.calling g mk a) (Vm.Alike.refl U.vm) qK, NW.same (u := U) (U := U.calling g mk a) rfl qN⟩, va_recv hKc hPc (ci := 3) (q0 := 0) rfl rfl, fun U hU hW => ⟨rfl, by rw [hU], by rw [hU]; exact hPc, va_K.moved hW.alike hKc, NW.warm hW hN⟩⟩ rfl rfl hl.1 rfl (lv_room (Nat.le_of_ble_eq_true rfl)) dX5_digest_96 ⟨(Nat.zero_le _), (Nat.zero_le _)⟩) hS (fun q _ h => ro_A hS hA q h) (ro_A hS hA) (fun r_76 u t H1 locs ht hvm k_77 hB hz1 hk1 hS => ?_)
                                      have hP := ro_P hk1 hP
                                      generalize H1 = H at hP hS ⊢
                                      try dsimp only at k_77
                                      obtain rfl : r_76 = (-6096069692990268752) := k_77.trans (by decide +kernel)
                                      refine lv_lstore_n (lv' := [(1, .long (-6096069692990268752)), (3, .int 10), (0, .ref h0)]) hx hb dX5_digest_99 rfl hl (by decide) rfl (fun ls hl => ?_)
                                      refine lv_iinc (v := 11) (lv' := [(3, .int 11), (1, .long (-6096069692990268752)), (0, .ref h0)]) hx hb dX5_digest_100 hl (k := 1) rfl (by decide +kernel) (by decide) rfl (fun ls hl => ?_)
                                      refine lv_goto (tgt := 84) hx hb dX5_digest_103 (by decide) ?_
                                      refine lv_iload_n hx hb dX5_digest_84 rfl (lv_at hl 0 rfl) ?_
                                      refine lv_bipush (v := 12) hx hb dX5_digest_85 (by decide) ?_
                                      refine lv_icmp_ge (tgt := 106) hx hb dX5_digest_87 (by decide) (fun c_79 => ?_) (fun c_79 => ?_)
                                      · skip
                                        exact absurd c_79 (by decide)
                                      · skip
                                        refine lv_aload_n hx hb dX5_digest_90 rfl (lv_at hl 2 rfl) ?_
                                        refine va_get (D := (dC, dI)) (ci := 6) (v := .ref sea) (C := RX5) (T := TX5) (N := 12) hx hb hts iw_X5_digest_X5 hown hK hP 0 rfl rfl 0 (by decide) (hts (.fieldLink RX5 10 "TeaRace" "sea" "LTeaRace$Sea;") (by decide +kernel)) (fun _ h9 => h9) rfl dX5_digest_91 ?_
                                        refine lv_iload_n hx hb dX5_digest_94 rfl (lv_at hl 0 rfl) ?_
                                        refine lv_lload_n hx hb dX5_digest_95 rfl (lv_at hl 1 rfl) ?_
                                        have hPc := hP.sub (ws' := [(sea, .inr (3, [.ref lc, .ref ct, .ref ch])), (ct, .inl (cZ, 12, .inl (fun _ => 0)))]) [1, 3] rfl
                                        have hKc := hK.sub (tys' := [(cZ, .boolean)]) [0] rfl
                                        refine va_calll (va_runV (As := [.int 11, .long (-6096069692990268752)]) (rest := []) ⟨hx, hb, hml, hown, hts⟩ (c_X2_digestChart l dC dI H.size sea lc ct ch cZ 11 (-6096069692990268752) ) (cwV 2 hts gX5_digest_X2_digestChart rfl rfl rfl (by decide +kernel) ⟨Nat.le_of_ble_eq_true rfl, Nat.le_of_ble_eq_true rfl⟩) ⟨fun a U g mk q => by obtain ⟨q0, q1, qP, qK, qN⟩ := q; exact ⟨q0, q1, qP, va_K.moved (u := U) (U := U.calling g mk a) (Vm.Alike.refl U.vm) qK, NW.same (u := U) (U := U.calling g mk a) rfl qN⟩, va_recv hKc hPc (ci := 3) (q0 := 0) rfl rfl, fun U hU hW => ⟨rfl, by rw [hU], by rw [hU]; exact hPc, va_K.moved hW.alike hKc, NW.warm hW hN⟩⟩ rfl rfl hl.1 rfl (lv_room (Nat.le_of_ble_eq_true rfl)) dX5_digest_96 ⟨(Nat.zero_le _), (Nat.zero_le _)⟩) hS (fun q _ h => ro_A hS hA q h) (ro_A hS hA) (fun r_80 u t H1 locs ht hvm k_81 hB hz1 hk1 hS => ?_)
                                        have hP := ro_P hk1 hP
                                        generalize H1 = H at hP hS ⊢
                                        try dsimp only at k_81
                                        obtain rfl : r_80 = (-4510719745602815153) := k_81.trans (by decide +kernel)
                                        refine lv_lstore_n (lv' := [(1, .long (-4510719745602815153)), (3, .int 11), (0, .ref h0)]) hx hb dX5_digest_99 rfl hl (by decide) rfl (fun ls hl => ?_)
                                        refine lv_iinc (v := 12) (lv' := [(3, .int 12), (1, .long (-4510719745602815153)), (0, .ref h0)]) hx hb dX5_digest_100 hl (k := 1) rfl (by decide +kernel) (by decide) rfl (fun ls hl => ?_)
                                        refine lv_goto (tgt := 84) hx hb dX5_digest_103 (by decide) ?_
                                        refine lv_iload_n hx hb dX5_digest_84 rfl (lv_at hl 0 rfl) ?_
                                        refine lv_bipush (v := 12) hx hb dX5_digest_85 (by decide) ?_
                                        refine lv_icmp_ge (tgt := 106) hx hb dX5_digest_87 (by decide) (fun c_83 => ?_) (fun c_83 => ?_)
                                        · skip
                                          refine lv_lload_n hx hb dX5_digest_106 rfl (lv_at hl 1 rfl) ?_
                                          exact W.lret (v := (-4510719745602815153)) hx hb hr (fun t ht hW => ⟨⟨(-4510719745602815153), (), rfl, (by first | rfl | trivial | (simp; done)), trivial⟩, hS.F ht⟩) hS.2.2 dX5_digest_107
                                        · skip
                                          exact absurd (by decide) c_83
              · skip
                exact absurd (by decide) c_34
            · skip
              exact absurd (by decide) c_31
