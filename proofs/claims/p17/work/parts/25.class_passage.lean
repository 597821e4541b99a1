set_option maxHeartbeats 4000000 in
set_option maxRecDepth 100000 in
/-- hoursFor -/
theorem c_X1_hoursFor (l : Launch) (sz : Nat) (a0 : Int32) (b0 : Int32) (i_a0 : 1 ≤ a0.toInt ∧ a0.toInt ≤ 85) (i_b0 : 0 ≤ b0.toInt ∧ b0.toInt ≤ 45) : Met l yX1_hoursFor wsX1_hoursFor ({ frames := 0, cells := 0, slots := 0, locals := 0 }) (va_Pc [.int a0, .int b0] (fun U => U.heap.size = sz)) (va_Qi (fun (r : Int32) (_ : Unit) => (0 < b0.toInt → r.toInt = (a0.toInt + b0.toInt - 1) / b0.toInt)) (fun _ _ => True) (va_A [] sz)) 0 0 (va_A [] sz) := by
  refine Met.ofW (cc := cX1_hoursFor) (maxL := 2) (ret := (some .int)) (by decide) rfl ?_
  intro p e s m args below meth c s₁ B hml hv
  obtain ⟨rfl, hsz⟩ := hv
  have hx := B.exec
  have hb := B.bytes
  have hr := B.returns
  have hts := atoms_spec (ws := wsX1_hoursFor) B.pre
  have hown : s.vm.findClass RX1 = some m.cls := findClass_of_methodNamed B.named
  have hlocks := B.notSynchronized
  subst hsz
  generalize hAe : va_A [] s.heap.size = A at ⊢
  have hA : ∀ q : Nat, s.heap.size ≤ q → A q := fun q h => by rw [← hAe]; exact Or.inr h
  have hS : va_S A s.heap s.heap [] := va_S.rf
  have hl := lv_entry ([.int a0, .int b0]) (n := 2) (Nat.le_of_ble_eq_true rfl)
  rw [lg_entry_eq]
  generalize (lg_sl ([.int a0, .int b0]) ++ List.replicate (2 - (lg_sl ([.int a0, .int b0])).length) Slot.unset).toArray = ls at hl ⊢
  have hl : lv_has ls 2 [(0, .int a0), (1, .int b0)] := hl
  refine lv_iload_n hx hb dX1_hoursFor_0 rfl (lv_at hl 1 rfl) ?_
  refine lv_if_gt (tgt := 10) hx hb dX1_hoursFor_1 (by decide) (fun c_1 => ?_) (fun c_1 => ?_)
  · skip
    have qc_1 : 0 < b0.toInt := lt_k (by decide) rfl c_1
    refine lv_iload_n hx hb dX1_hoursFor_10 rfl (lv_at hl 0 rfl) ?_
    refine lv_iload_n hx hb dX1_hoursFor_11 rfl (lv_at hl 1 rfl) ?_
    refine lv_iadd hx hb dX1_hoursFor_12 ?_
    refine lv_topi (fun x_2 ex_2 => ?_)
    have tx_2 : x_2.toInt = a0.toInt + b0.toInt := ad_k ex_2 rfl rfl (by omega) (by omega)
    refine lv_iconst (v := 1) hx hb dX1_hoursFor_13 (by decide) ?_
    refine lv_isub hx hb dX1_hoursFor_14 ?_
    refine lv_topi (fun x_3 ex_3 => ?_)
    have tx_3 : x_3.toInt = x_2.toInt - 1 := su_k ex_3 rfl (by decide) (by omega) (by omega)
    refine lv_iload_n hx hb dX1_hoursFor_15 rfl (lv_at hl 1 rfl) ?_
    refine lv_idiv hx hb dX1_hoursFor_16 (fun z => by have := congrArg Int32.toInt z; simp only [Int32.reduceToInt] at this; omega) ?_
    refine lv_topi (fun x_4 ex_4 => ?_)
    have tx_4 := fb_rng x_4
    exact W.iret (v := x_4) hx hb hr (fun t ht hW => ⟨⟨x_4, (), rfl, (fun h => dv_k ex_4 (show x_3.toInt = a0.toInt + b0.toInt - 1 from by omega) rfl h (by omega)), trivial⟩, hS.F ht⟩) hS.2.2 dX1_hoursFor_17
  · skip
    have qc_1 : b0.toInt ≤ 0 := nlt_k (by decide) rfl c_1
    refine lv_sipush (v := 2001) hx hb dX1_hoursFor_4 (by decide) ?_
    refine lv_goto (tgt := 17) hx hb dX1_hoursFor_7 (by decide) ?_
    have hv9 : (2001 : Int32).toInt = 2001 := by decide
    exact W.iret (v := 2001) hx hb hr (fun t ht hW => ⟨⟨2001, (), rfl, (fun h => absurd h (by omega)), trivial⟩, hS.F ht⟩) hS.2.2 dX1_hoursFor_17
set_option maxRecDepth 20000 in
theorem iw_X1_reach_X1 : ∀ w ∈ wsX10, w ∈ wsX1_reach := fun w h => (List.mem_cons_of_mem _ (List.mem_append_right _ h))
set_option maxHeartbeats 4000000 in
set_option maxRecDepth 100000 in
/-- Passage.reach -/
theorem c_X1_reach (l : Launch) (dC : Nat → ClassId) (dI : Nat → Nat → Nat) (sz : Nat) (pas : Nat) (hot : Nat) (dp : Nat) (Kh : Nat → Int32) (cI : ClassId) (a0 : Int32) (a1 : Int32) (i_a0 : 0 ≤ a0.toInt ∧ a0.toInt ≤ 159) (R_Kh : Rg 160 0 2001 Kh) (hp1 : 0 ≤ a1.toInt) : Met l yX1_reach wsX1_reach ({ frames := 1, cells := 0, slots := 0, locals := 21 }) (va_Pc [.ref pas, .int a0, .int a1] (fun U => U.heap.size = sz ∧ va_P (dC, dI) vwCl [(pas, .inr (2, [.ref hot, .ref dp])), (hot, .inl (cI, 160, .inl Kh))] U.heap ∧ va_K (dC, dI) vwCl [(cI, .int)] U ∧ NW U ∧ va_D (fun _ => True) [(pas, .inr (2, [.ref hot, .ref dp])), (hot, .inl (cI, 160, .inl Kh))])) (va_Qv (fun (u : (Nat → Int32)) => (u = if a1.toInt < (Kh a0.toNatClampNeg).toInt then upd Kh a0.toNatClampNeg a1 else Kh) ∧ (Rg 160 0 2001 u)) (fun u t => va_P (dC, dI) vwCl [(pas, .inr (2, [.ref hot, .ref dp])), (hot, .inl (cI, 160, .inl u))] t.heap ∧ va_K (dC, dI) vwCl [(cI, .int)] t ∧ va_D (va_A [(pas, .inr (2, [.ref hot, .ref dp])), (hot, .inl (cI, 160, .inl Kh))] sz) [(pas, .inr (2, [.ref hot, .ref dp])), (hot, .inl (cI, 160, .inl u))]) (va_A [(pas, .inr (2, [.ref hot, .ref dp])), (hot, .inl (cI, 160, .inl Kh))] sz)) 0 0 (va_A [(pas, .inr (2, [.ref hot, .ref dp])), (hot, .inl (cI, 160, .inl Kh))] sz) := by
  refine Met.ofW (cc := cX1_reach) (maxL := 3) (ret := none) (by decide) rfl ?_
  intro p e s m args below meth c s₁ B hml hv
  obtain ⟨rfl, hsz, hP, hK, hN, hD0⟩ := hv
  have hx := B.exec
  have hb := B.bytes
  have hr := B.returns
  have hts := atoms_spec (ws := wsX1_reach) B.pre
  have hown : s.vm.findClass RX1 = some m.cls := findClass_of_methodNamed B.named
  have hlocks := B.notSynchronized
  subst hsz
  have hD := hD0.self (sz := s.heap.size)
  generalize hAe : va_A [(pas, .inr (2, [.ref hot, .ref dp])), (hot, .inl (cI, 160, .inl Kh))] s.heap.size = A at hD ⊢
  have hA : ∀ q : Nat, s.heap.size ≤ q → A q := fun q h => by rw [← hAe]; exact Or.inr h
  have hS : va_S A s.heap s.heap [] := va_S.rf
  have hP : va_P (dC, dI) vwCl [(pas, .inr (2, [.ref hot, .ref dp])), (hot, .inl (cI, 160, .inl Kh))] s.heap := hP
  have hl := lv_entry ([.ref pas, .int a0, .int a1]) (n := 3) (Nat.le_of_ble_eq_true rfl)
  rw [lg_entry_eq]
  generalize (lg_sl ([.ref pas, .int a0, .int a1]) ++ List.replicate (3 - (lg_sl ([.ref pas, .int a0, .int a1])).length) Slot.unset).toArray = ls at hl ⊢
  have hl : lv_has ls 3 [(0, .ref pas), (1, .int a0), (2, .int a1)] := hl
  refine lv_iload_n hx hb dX1_reach_0 rfl (lv_at hl 1 rfl) ?_
  refine lv_sipush (v := 159) hx hb dX1_reach_1 (by decide) ?_
  refine va_calli (va_runSN (As := [.int a0, .int 159]) (rest := []) ⟨hx, hb, hml, hown, hts⟩ (c_X5_outside l s.heap.size a0 159 ) ⟨va_cnB 2 hts gX1_reach_X5_outside_n19 rfl rfl rfl hN.nX1_19 (hts (.initialized RX5) (by decide +kernel)) (by decide +kernel) ⟨Nat.le_of_ble_eq_true rfl, Nat.le_of_ble_eq_true rfl⟩, hts (.static yX5_outside) (by decide +kernel), trivial⟩ ⟨fun a U g mk q => by obtain ⟨q0, q1⟩ := q; exact ⟨q0, q1⟩, fun U hU hW => ⟨rfl, congrArg Array.size hU⟩⟩ rfl rfl hl.1 rfl (lv_room (Nat.le_of_ble_eq_true rfl)) dX1_reach_4 ⟨(Nat.zero_le _), (Nat.zero_le _)⟩) hS (fun q _ h => ro_A hS hA q h) (ro_A hS hA) (fun r_1 u t H1 locs ht hvm k_2 hB hz1 hk1 hS => ?_)
  have hP := ro_P hk1 hP
  generalize H1 = H at hP hS ⊢
  try dsimp only at k_2
  obtain ⟨k_2, k_3⟩ := k_2
  refine lv_if_ne (tgt := 27) hx hb dX1_reach_7 (by decide) (fun c_4 => ?_) (fun c_4 => ?_)
  · skip
    have b_5 := b01n k_2 c_4
    (try simp only [Int32.lt_iff_toInt_lt, Int32.le_iff_toInt_le, ← Int32.toInt_inj, Int32.reduceToInt, zl1, zl2, zl3, zl4, zl9] at b_5)
    (try simp only [Int32.reduceToInt] at b_5)
    have hP9 := hP.sub (ws' := [(pas, .inr (2, [.ref hot, .ref dp])), (hot, .inl (cI, 160, .inl Kh))]) [0, 1] rfl
    have hD9 := hD.sub (ws' := [(pas, .inr (2, [.ref hot, .ref dp])), (hot, .inl (cI, 160, .inl Kh))]) [0, 1] (by decide) rfl
    have hK9 := hK.sub (tys' := [(cI, .int)]) [0] rfl
    exact W.vret hx hb hr (fun t ht hW => ⟨⟨Kh, rfl, ⟨(by exfalso; omega), (show Rg 160 0 2001 Kh from R_Kh)⟩, ⟨by rw [ht]; exact hP9, va_K.moved hW.alike hK9, hD9⟩⟩, hS.F ht⟩) hS.2.2 dX1_reach_27
  · skip
    have b_6 := b01z k_2 c_4
    (try simp only [Int32.lt_iff_toInt_lt, Int32.le_iff_toInt_le, ← Int32.toInt_inj, Int32.reduceToInt, zl1, zl2, zl3, zl4, zl9] at b_6)
    (try simp only [Int32.reduceToInt] at b_6)
    refine lv_iload_n hx hb dX1_reach_10 rfl (lv_at hl 2 rfl) ?_
    refine lv_aload_n hx hb dX1_reach_11 rfl (lv_at hl 0 rfl) ?_
    refine va_get (D := (dC, dI)) (ci := 2) (v := .ref hot) (C := RX1) (T := TX1) (N := 2) hx hb hts iw_X1_reach_X1 hown hK hP 0 rfl rfl 0 (by decide) (hts (.fieldLink RX1 9 "TeaRace$Passage" "hoursTo" "[I") (by decide +kernel)) (fun _ h9 => h9) rfl dX1_reach_12 ?_
    refine lv_iload_n hx hb dX1_reach_15 rfl (lv_at hl 1 rfl) ?_
    refine va_iald hx hb hK hP 1 0 rfl rfl (in_k rfl (by omega) (by omega)) dX1_reach_16 ?_
    refine lv_topi (fun x_7 ex_7 => ?_)
    have rx_7 := congrArg Int32.toInt ex_7
    have gx_7 : 0 ≤ x_7.toInt ∧ x_7.toInt ≤ 2001 := Rg.at R_Kh rfl (by omega) (by omega) ex_7
    refine lv_icmp_ge (tgt := 27) hx hb dX1_reach_17 (by decide) (fun c_8 => ?_) (fun c_8 => ?_)
    · skip
      have qc_8 : x_7.toInt ≤ a1.toInt := le_k rfl rfl c_8
      have hP9 := hP.sub (ws' := [(pas, .inr (2, [.ref hot, .ref dp])), (hot, .inl (cI, 160, .inl Kh))]) [0, 1] rfl
      have hD9 := hD.sub (ws' := [(pas, .inr (2, [.ref hot, .ref dp])), (hot, .inl (cI, 160, .inl Kh))]) [0, 1] (by decide) rfl
      have hK9 := hK.sub (tys' := [(cI, .int)]) [0] rfl
      exact W.vret hx hb hr (fun t ht hW => ⟨⟨Kh, rfl, ⟨(by (try dsimp only); rw [if_neg (by omega)]), (show Rg 160 0 2001 Kh from R_Kh)⟩, ⟨by rw [ht]; exact hP9, va_K.moved hW.alike hK9, hD9⟩⟩, hS.F ht⟩) hS.2.2 dX1_reach_27
    · skip
      have qc_8 : a1.toInt < x_7.toInt := nle_k rfl rfl c_8
      refine lv_aload_n hx hb dX1_reach_20 rfl (lv_at hl 0 rfl) ?_
      refine va_get (D := (dC, dI)) (ci := 2) (v := .ref hot) (C := RX1) (T := TX1) (N := 2) hx hb hts iw_X1_reach_X1 hown hK hP 0 rfl rfl 0 (by decide) (hts (.fieldLink RX1 9 "TeaRace$Passage" "hoursTo" "[I") (by decide +kernel)) (fun _ h9 => h9) rfl dX1_reach_21 ?_
      refine lv_iload_n hx hb dX1_reach_24 rfl (lv_at hl 1 rfl) ?_
      refine lv_iload_n hx hb dX1_reach_25 rfl (lv_at hl 2 rfl) ?_
      refine va_iast hx hb hK hP hD hS 1 0 rfl rfl (in_k rfl (by omega) (by omega)) dX1_reach_26 (fun H locs hP hD hS => ?_)
      have hP : va_P (dC, dI) vwCl [(pas, .inr (2, [.ref hot, .ref dp])), (hot, .inl (cI, 160, .inl (upd Kh a0.toNatClampNeg a1)))] H := hP
      have hD : va_D A [(pas, .inr (2, [.ref hot, .ref dp])), (hot, .inl (cI, 160, .inl (upd Kh a0.toNatClampNeg a1)))] := hD
      have zs_9 : (upd Kh a0.toNatClampNeg a1 a0.toNatClampNeg).toInt = a1.toInt := congrArg Int32.toInt (upd_at (Kh) a0.toNatClampNeg a1)
      have R_10 : Rg 160 0 2001 (upd Kh a0.toNatClampNeg a1) := Rg.st R_Kh rfl (by omega) (by omega)
      have hP9 := hP.sub (ws' := [(pas, .inr (2, [.ref hot, .ref dp])), (hot, .inl (cI, 160, .inl (upd Kh a0.toNatClampNeg a1)))]) [0, 1] rfl
      have hD9 := hD.sub (ws' := [(pas, .inr (2, [.ref hot, .ref dp])), (hot, .inl (cI, 160, .inl (upd Kh a0.toNatClampNeg a1)))]) [0, 1] (by decide) rfl
      have hK9 := hK.sub (tys' := [(cI, .int)]) [0] rfl
      exact W.vret hx hb hr (fun t ht hW => ⟨⟨(upd Kh a0.toNatClampNeg a1), rfl, ⟨(by (try dsimp only); rw [if_pos (by omega)]), (show Rg 160 0 2001 (upd Kh a0.toNatClampNeg a1) from R_10)⟩, ⟨by rw [ht]; exact hP9, va_K.moved hW.alike hK9, hD9⟩⟩, hS.F ht⟩) hS.2.2 dX1_reach_27
set_option maxRecDepth 20000 in
theorem iw_X1_earliestCell_X1 : ∀ w ∈ wsX10, w ∈ wsX1_earliestCell := fun w h => (List.mem_cons_of_mem _ (List.mem_append_right _ h))
set_option maxHeartbeats 4000000 in
set_option maxRecDepth 100000 in
/-- Passage.earliestCell -/
theorem c_X1_earliestCell (l : Launch) (dC : Nat → ClassId) (dI : Nat → Nat → Nat) (sz : Nat) (pas : Nat) (hot : Nat) (dp : Nat) (Kh : Nat → Int32) (Kd : Nat → Int32) (cI : ClassId) (cZ : ClassId) (R_Kh : Rg 160 0 2001 Kh) : Met l yX1_earliestCell wsX1_earliestCell ({ frames := 0, cells := 0, slots := 0, locals := 0 }) (va_Pc [.ref pas] (fun U => U.heap.size = sz ∧ va_P (dC, dI) vwCl [(pas, .inr (2, [.ref hot, .ref dp])), (hot, .inl (cI, 160, .inl Kh)), (dp, .inl (cZ, 160, .inl Kd))] U.heap ∧ va_K (dC, dI) vwCl [(cI, .int), (cZ, .boolean)] U ∧ NW U)) (va_Qi (fun (r : Int32) (_ : Unit) => (r.toInt = pickF (hI Kh) (sI Kd) 160) ∧ (r.toInt = -9 ∨ 0 ≤ r.toInt) ∧ ((-9) ≤ r.toInt ∧ r.toInt ≤ 159)) (fun _ _ => True) (va_A [] sz)) 0 0 (va_A [] sz) := by
  refine Met.ofW (cc := cX1_earliestCell) (maxL := 4) (ret := (some .int)) (by decide) rfl ?_
  intro p e s m args below meth c s₁ B hml hv
  obtain ⟨rfl, hsz, hP, hK, hN⟩ := hv
  have hx := B.exec
  have hb := B.bytes
  have hr := B.returns
  have hts := atoms_spec (ws := wsX1_earliestCell) B.pre
  have hown : s.vm.findClass RX1 = some m.cls := findClass_of_methodNamed B.named
  have hlocks := B.notSynchronized
  subst hsz
  generalize hAe : va_A [] s.heap.size = A at ⊢
  have hA : ∀ q : Nat, s.heap.size ≤ q → A q := fun q h => by rw [← hAe]; exact Or.inr h
  have hS : va_S A s.heap s.heap [] := va_S.rf
  have hP : va_P (dC, dI) vwCl [(pas, .inr (2, [.ref hot, .ref dp])), (hot, .inl (cI, 160, .inl Kh)), (dp, .inl (cZ, 160, .inl Kd))] s.heap := hP
  have hl := lv_entry ([.ref pas]) (n := 4) (Nat.le_of_ble_eq_true rfl)
  rw [lg_entry_eq]
  generalize (lg_sl ([.ref pas]) ++ List.replicate (4 - (lg_sl ([.ref pas])).length) Slot.unset).toArray = ls at hl ⊢
  have hl : lv_has ls 4 [(0, .ref pas)] := hl
  refine lv_bipush (v := (-9)) hx hb dX1_earliestCell_0 (by decide) ?_
  refine lv_istore_n (lv' := [(1, .int (-9)), (0, .ref pas)]) hx hb dX1_earliestCell_2 rfl hl (by decide) rfl (fun ls hl => ?_)
  refine lv_sipush (v := 2001) hx hb dX1_earliestCell_3 (by decide) ?_
  refine lv_istore_n (lv' := [(2, .int 2001), (1, .int (-9)), (0, .ref pas)]) hx hb dX1_earliestCell_6 rfl hl (by decide) rfl (fun ls hl => ?_)
  refine lv_iconst (v := 0) hx hb dX1_earliestCell_7 (by decide) ?_
  refine lv_istore_n (lv' := [(3, .int 0), (2, .int 2001), (1, .int (-9)), (0, .ref pas)]) hx hb dX1_earliestCell_8 rfl hl (by decide) rfl (fun ls hl => ?_)
  have key9 : ∀ (n9 : Nat) (be : Int32) (fe : Int32) (ic : Int32) (H : Heap) (locs : List Loc) (ls : Array Slot), ((-9) ≤ be.toInt ∧ be.toInt ≤ 159) → (0 ≤ fe.toInt ∧ fe.toInt ≤ 2001) → (0 ≤ ic.toInt ∧ ic.toInt ≤ 160) → (be.toInt = -9 ∨ 0 ≤ be.toInt) → (fe.toInt = if be.toInt < 0 then 2001 else (Kh be.toNatClampNeg).toInt) → (be.toInt = pickF (hI Kh) (sI Kd) ic.toNatClampNeg) → 160 - ic.toInt < (n9 : Int) → va_P (dC, dI) vwCl [(pas, .inr (2, [.ref hot, .ref dp])), (hot, .inl (cI, 160, .inl Kh)), (dp, .inl (cZ, 160, .inl Kd))] H → va_S A s.heap H locs → lv_has ls 4 [(3, .int ic), (2, .int fe), (1, .int be), (0, .ref pas)] → W p l e ({ frames := 0, cells := 0, slots := 0, locals := 0 } : Room) s m ([.ref pas] : List Value).toArray below meth c H locs 0 0 (MQ below (va_Qi (fun (r : Int32) (_ : Unit) => (r.toInt = pickF (hI Kh) (sI Kd) 160) ∧ (r.toInt = -9 ∨ 0 ≤ r.toInt) ∧ ((-9) ≤ r.toInt ∧ r.toInt ≤ 159)) (fun _ _ => True) A) ([.ref pas] : List Value).toArray s 0 0 A) (F0 m 9 ls []) := by
    intro n9
    induction n9 with
    | zero =>
      intro be fe ic H locs ls i_be i_fe i_ic hb9 hfe hbe hm9
      exact absurd hm9 (by omega)
    | succ n9 ih9 =>
      intro be fe ic H locs ls i_be i_fe i_ic hb9 hfe hbe hm9 hP hS hl
      refine lv_iload_n hx hb dX1_earliestCell_9 rfl (lv_at hl 0 rfl) ?_
      refine lv_sipush (v := 160) hx hb dX1_earliestCell_10 (by decide) ?_
      refine lv_icmp_ge (tgt := 50) hx hb dX1_earliestCell_13 (by decide) (fun c_1 => ?_) (fun c_1 => ?_)
      · skip
        have qc_1 : 160 ≤ ic.toInt := le_k (by decide) rfl c_1
        refine lv_iload_n hx hb dX1_earliestCell_50 rfl (lv_at hl 2 rfl) ?_
        exact W.iret (v := be) hx hb hr (fun t ht hW => ⟨⟨be, (), rfl, ⟨(by have e9 : ic.toNatClampNeg = 160 := (by have := tn_k (i := ic) rfl (by omega); omega); rewrite [e9] at hbe; exact hbe), (by (try dsimp only) <;> (first | (first | rfl | assumption | omega | exact Int32.toInt_inj.mp (by omega) | (simp only [Int32.reduceToInt, zl1, zl2, zl3, zl4, zl9]; omega) | ((rw [if_pos (by (first | omega | ((try simp only [Int32.lt_iff_toInt_lt, Int32.le_iff_toInt_le, ← Int32.toInt_inj, Int32.reduceToInt, zl1, zl2, zl3, zl4, zl9]); (try simp only [Int32.reduceToInt]); omega) | (subst_vars; assumption) | (refine ⟨?_, ?_⟩ <;> first | omega | (simp only [Int32.lt_iff_toInt_lt, Int32.le_iff_toInt_le, ← Int32.toInt_inj, Int32.reduceToInt, zl1, zl2, zl3, zl4, zl9]; omega) | (subst_vars; assumption))))]) <;> (first | rfl | assumption | omega | exact Int32.toInt_inj.mp (by omega) | (simp only [Int32.reduceToInt, zl1, zl2, zl3, zl4, zl9]; omega) | ((rw [if_pos (by (first | omega | ((try simp only [Int32.lt_iff_toInt_lt, Int32.le_iff_toInt_le, ← Int32.toInt_inj, Int32.reduceToInt, zl1, zl2, zl3, zl4, zl9]); (try simp only [Int32.reduceToInt]); omega) | (subst_vars; assumption) | (refine ⟨?_, ?_⟩ <;> first | omega | (simp only [Int32.lt_iff_toInt_lt, Int32.le_iff_toInt_le, ← Int32.toInt_inj, Int32.reduceToInt, zl1, zl2, zl3, zl4, zl9]; omega) | (subst_vars; assumption))))]) <;> (first | rfl | assumption | omega | exact Int32.toInt_inj.mp (by omega) | (simp only [Int32.reduceToInt, zl1, zl2, zl3, zl4, zl9]; omega))) | ((rw [if_neg (by (first | omega | ((try simp only [Int32.lt_iff_toInt_lt, Int32.le_iff_toInt_le, ← Int32.toInt_inj, Int32.reduceToInt, zl1, zl2, zl3, zl4, zl9]); (try simp only [Int32.reduceToInt]); omega) | (subst_vars; assumption) | (refine ⟨?_, ?_⟩ <;> first | omega | (simp only [Int32.lt_iff_toInt_lt, Int32.le_iff_toInt_le, ← Int32.toInt_inj, Int32.reduceToInt, zl1, zl2, zl3, zl4, zl9]; omega) | (subst_vars; assumption))))]) <;> (first | rfl | assumption | omega | exact Int32.toInt_inj.mp (by omega) | (simp only [Int32.reduceToInt, zl1, zl2, zl3, zl4, zl9]; omega))))) | ((rw [if_neg (by (first | omega | ((try simp only [Int32.lt_iff_toInt_lt, Int32.le_iff_toInt_le, ← Int32.toInt_inj, Int32.reduceToInt, zl1, zl2, zl3, zl4, zl9]); (try simp only [Int32.reduceToInt]); omega) | (subst_vars; assumption) | (refine ⟨?_, ?_⟩ <;> first | omega | (simp only [Int32.lt_iff_toInt_lt, Int32.le_iff_toInt_le, ← Int32.toInt_inj, Int32.reduceToInt, zl1, zl2, zl3, zl4, zl9]; omega) | (subst_vars; assumption))))]) <;> (first | rfl | assumption | omega | exact Int32.toInt_inj.mp (by omega) | (simp only [Int32.reduceToInt, zl1, zl2, zl3, zl4, zl9]; omega) | ((rw [if_pos (by (first | omega | ((try simp only [Int32.lt_iff_toInt_lt, Int32.le_iff_toInt_le, ← Int32.toInt_inj, Int32.reduceToInt, zl1, zl2, zl3, zl4, zl9]); (try simp only [Int32.reduceToInt]); omega) | (subst_vars; assumption) | (refine ⟨?_, ?_⟩ <;> first | omega | (simp only [Int32.lt_iff_toInt_lt, Int32.le_iff_toInt_le, ← Int32.toInt_inj, Int32.reduceToInt, zl1, zl2, zl3, zl4, zl9]; omega) | (subst_vars; assumption))))]) <;> (first | rfl | assumption | omega | exact Int32.toInt_inj.mp (by omega) | (simp only [Int32.reduceToInt, zl1, zl2, zl3, zl4, zl9]; omega))) | ((rw [if_neg (by (first | omega | ((try simp only [Int32.lt_iff_toInt_lt, Int32.le_iff_toInt_le, ← Int32.toInt_inj, Int32.reduceToInt, zl1, zl2, zl3, zl4, zl9]); (try simp only [Int32.reduceToInt]); omega) | (subst_vars; assumption) | (refine ⟨?_, ?_⟩ <;> first | omega | (simp only [Int32.lt_iff_toInt_lt, Int32.le_iff_toInt_le, ← Int32.toInt_inj, Int32.reduceToInt, zl1, zl2, zl3, zl4, zl9]; omega) | (subst_vars; assumption))))]) <;> (first | rfl | assumption | omega | exact Int32.toInt_inj.mp (by omega) | (simp only [Int32.reduceToInt, zl1, zl2, zl3, zl4, zl9]; omega)))))) | ((try simp only [Int32.lt_iff_toInt_lt, Int32.le_iff_toInt_le, ← Int32.toInt_inj, Int32.reduceToInt, zl1, zl2, zl3, zl4, zl9]); (repeat' split) <;> first | rfl | omega | (simp only [Int32.lt_iff_toInt_lt, Int32.le_iff_toInt_le, ← Int32.toInt_inj, Int32.reduceToInt, zl1, zl2, zl3, zl4, zl9]; omega)))), ⟨by omega, by omega⟩⟩, trivial⟩, hS.F ht⟩) hS.2.2 dX1_earliestCell_51
      · skip
        have qc_1 : ic.toInt < 160 := nle_k (by decide) rfl c_1
        refine lv_aload_n hx hb dX1_earliestCell_16 rfl (lv_at hl 3 rfl) ?_
        refine va_get (D := (dC, dI)) (ci := 2) (v := .ref dp) (C := RX1) (T := TX1) (N := 2) hx hb hts iw_X1_earliestCell_X1 hown hK hP 0 rfl rfl 1 (by decide) (hts (.fieldLink RX1 15 "TeaRace$Passage" "departed" "[Z") (by decide +kernel)) (fun _ h9 => h9) rfl dX1_earliestCell_17 ?_
        refine lv_iload_n hx hb dX1_earliestCell_20 rfl (lv_at hl 0 rfl) ?_
        refine va_zald hx hb hK hP 2 1 rfl rfl (in_k rfl (by omega) (by omega)) dX1_earliestCell_21 ?_
        refine lv_topi (fun x_2 ex_2 => ?_)
        have rx_2 := congrArg Int32.toInt ex_2
        refine lv_if_ne (tgt := 44) hx hb dX1_earliestCell_22 (by decide) (fun c_3 => ?_) (fun c_3 => ?_)
        · skip
          have qc_3 : x_2.toInt ≠ 0 := ne_k rfl (by decide) c_3
          obtain ⟨x_4, ex_4⟩ : ∃ y : Int32, y = ic + 1 := ⟨_, rfl⟩
          have tx_4 : x_4.toInt = ic.toInt + 1 := ad_k ex_4 rfl (by decide) (by omega) (by omega)
          refine lv_iinc (v := x_4) (lv' := [(3, .int x_4), (2, .int fe), (1, .int be), (0, .ref pas)]) hx hb dX1_earliestCell_44 hl (k := 0) rfl (by rw [ex_4]; rfl) (by decide) rfl (fun ls hl => ?_)
          refine lv_goto (tgt := 9) hx hb dX1_earliestCell_47 (by decide) ?_
          exact ih9 be fe x_4  H locs ls ⟨(by first | omega | (simp only [Int32.reduceToInt]; omega)), (by first | omega | (simp only [Int32.reduceToInt]; omega))⟩ ⟨(by first | omega | (simp only [Int32.reduceToInt]; omega)), (by first | omega | (simp only [Int32.reduceToInt]; omega))⟩ ⟨(by first | omega | (simp only [Int32.reduceToInt]; omega)), (by first | omega | (simp only [Int32.reduceToInt]; omega))⟩ (by first | omega | (simp only [Int32.reduceToInt]; omega)) (by (repeat' split at hfe) <;> (repeat' split) <;> omega) (pick_step hbe ⟨by omega, by omega⟩ (by omega) tx_4 (by (repeat' split at hfe) <;> (repeat' split) <;> omega)) (by first | omega | (simp only [Int32.reduceToInt]; omega)) hP hS (lv_sub hl [0, 1, 2, 3] rfl)
        · skip
          have qc_3 : x_2.toInt = 0 := eq_k rfl (by decide) c_3
          refine lv_aload_n hx hb dX1_earliestCell_25 rfl (lv_at hl 3 rfl) ?_
          refine va_get (D := (dC, dI)) (ci := 2) (v := .ref hot) (C := RX1) (T := TX1) (N := 2) hx hb hts iw_X1_earliestCell_X1 hown hK hP 0 rfl rfl 0 (by decide) (hts (.fieldLink RX1 9 "TeaRace$Passage" "hoursTo" "[I") (by decide +kernel)) (fun _ h9 => h9) rfl dX1_earliestCell_26 ?_
          refine lv_iload_n hx hb dX1_earliestCell_29 rfl (lv_at hl 0 rfl) ?_
          refine va_iald hx hb hK hP 1 0 rfl rfl (in_k rfl (by omega) (by omega)) dX1_earliestCell_30 ?_
          refine lv_topi (fun x_5 ex_5 => ?_)
          have rx_5 := congrArg Int32.toInt ex_5
          have gx_5 : 0 ≤ x_5.toInt ∧ x_5.toInt ≤ 2001 := Rg.at R_Kh rfl (by omega) (by omega) ex_5
          refine lv_iload_n hx hb dX1_earliestCell_31 rfl (lv_at hl 1 rfl) ?_
          refine lv_icmp_ge (tgt := 44) hx hb dX1_earliestCell_32 (by decide) (fun c_6 => ?_) (fun c_6 => ?_)
          · skip
            have qc_6 : fe.toInt ≤ x_5.toInt := le_k rfl rfl c_6
            obtain ⟨x_7, ex_7⟩ : ∃ y : Int32, y = ic + 1 := ⟨_, rfl⟩
            have tx_7 : x_7.toInt = ic.toInt + 1 := ad_k ex_7 rfl (by decide) (by omega) (by omega)
            refine lv_iinc (v := x_7) (lv' := [(3, .int x_7), (2, .int fe), (1, .int be), (0, .ref pas)]) hx hb dX1_earliestCell_44 hl (k := 0) rfl (by rw [ex_7]; rfl) (by decide) rfl (fun ls hl => ?_)
            refine lv_goto (tgt := 9) hx hb dX1_earliestCell_47 (by decide) ?_
            exact ih9 be fe x_7  H locs ls ⟨(by first | omega | (simp only [Int32.reduceToInt]; omega)), (by first | omega | (simp only [Int32.reduceToInt]; omega))⟩ ⟨(by first | omega | (simp only [Int32.reduceToInt]; omega)), (by first | omega | (simp only [Int32.reduceToInt]; omega))⟩ ⟨(by first | omega | (simp only [Int32.reduceToInt]; omega)), (by first | omega | (simp only [Int32.reduceToInt]; omega))⟩ (by first | omega | (simp only [Int32.reduceToInt]; omega)) (by (repeat' split at hfe) <;> (repeat' split) <;> omega) (pick_step hbe ⟨by omega, by omega⟩ (by omega) tx_7 (by (repeat' split at hfe) <;> (repeat' split) <;> omega)) (by first | omega | (simp only [Int32.reduceToInt]; omega)) hP hS (lv_sub hl [0, 1, 2, 3] rfl)
          · skip
            have qc_6 : x_5.toInt < fe.toInt := nle_k rfl rfl c_6
            refine lv_iload_n hx hb dX1_earliestCell_35 rfl (lv_at hl 0 rfl) ?_
            refine lv_istore_n (lv' := [(1, .int ic), (3, .int ic), (2, .int fe), (0, .ref pas)]) hx hb dX1_earliestCell_36 rfl hl (by decide) rfl (fun ls hl => ?_)
            refine lv_aload_n hx hb dX1_earliestCell_37 rfl (lv_at hl 3 rfl) ?_
            refine va_get (D := (dC, dI)) (ci := 2) (v := .ref hot) (C := RX1) (T := TX1) (N := 2) hx hb hts iw_X1_earliestCell_X1 hown hK hP 0 rfl rfl 0 (by decide) (hts (.fieldLink RX1 9 "TeaRace$Passage" "hoursTo" "[I") (by decide +kernel)) (fun _ h9 => h9) rfl dX1_earliestCell_38 ?_
            refine lv_iload_n hx hb dX1_earliestCell_41 rfl (lv_at hl 1 rfl) ?_
            refine va_iald hx hb hK hP 1 0 rfl rfl (in_k rfl (by omega) (by omega)) dX1_earliestCell_42 ?_
            refine lv_topi (fun x_8 ex_8 => ?_)
            have rx_8 := congrArg Int32.toInt ex_8
            obtain rfl : x_5 = x_8 := ex_5.trans ex_8.symm
            refine lv_istore_n (lv' := [(2, .int x_5), (1, .int ic), (3, .int ic), (0, .ref pas)]) hx hb dX1_earliestCell_43 rfl hl (by decide) rfl (fun ls hl => ?_)
            obtain ⟨x_9, ex_9⟩ : ∃ y : Int32, y = ic + 1 := ⟨_, rfl⟩
            have tx_9 : x_9.toInt = ic.toInt + 1 := ad_k ex_9 rfl (by decide) (by omega) (by omega)
            refine lv_iinc (v := x_9) (lv' := [(3, .int x_9), (2, .int x_5), (1, .int ic), (0, .ref pas)]) hx hb dX1_earliestCell_44 hl (k := 2) rfl (by rw [ex_9]; rfl) (by decide) rfl (fun ls hl => ?_)
            refine lv_goto (tgt := 9) hx hb dX1_earliestCell_47 (by decide) ?_
            exact ih9 ic x_5 x_9  H locs ls ⟨(by first | omega | (simp only [Int32.reduceToInt]; omega)), (by first | omega | (simp only [Int32.reduceToInt]; omega))⟩ ⟨(by first | omega | (simp only [Int32.reduceToInt]; omega)), (by first | omega | (simp only [Int32.reduceToInt]; omega))⟩ ⟨(by first | omega | (simp only [Int32.reduceToInt]; omega)), (by first | omega | (simp only [Int32.reduceToInt]; omega))⟩ (by first | omega | (simp only [Int32.reduceToInt]; omega)) (by (repeat' split at hfe) <;> (repeat' split) <;> omega) (pick_step hbe ⟨by omega, by omega⟩ (by omega) tx_9 (by (repeat' split at hfe) <;> (repeat' split) <;> omega)) (by first | omega | (simp only [Int32.reduceToInt]; omega)) hP hS (lv_sub hl [0, 1, 2, 3] rfl)
  exact key9 161 (-9) 2001 0  _ _ ls (by decide) (by decide) (by decide) (Or.inl (by decide)) (by rw [if_pos (by decide)]; rfl) rfl (by (try simp only [Int32.reduceToInt]); omega) hP hS hl
set_option maxHeartbeats 4000000 in
set_option maxRecDepth 100000 in
/-- Passage.comingHour -/
theorem c_X1_comingHour (l : Launch) (dC : Nat → ClassId) (dI : Nat → Nat → Nat) (sz : Nat) (L : List Nat) (f : Nat → va_E) (sea : Nat) (lc : Nat) (ct : Nat) (ch : Nat) (rr : Nat → Nat) (cw : Nat → Nat → Int32) (Ct : Nat → Int32) (cZ : ClassId) (cB : ClassId) (cV : ClassId) (a : Nat) (oa : Nat) (ia : Nat) (v : Nat → Int32) (a0 : Int32) (a1 : Int32) (a2 : Int32) (a3 : Int32) (i_a0 : 0 ≤ a0.toInt ∧ a0.toInt ≤ 159) (i_a1 : 0 ≤ a1.toInt ∧ a1.toInt ≤ 7) (i_a2 : 0 ≤ a2.toInt ∧ a2.toInt ≤ 100000) (i_a3 : 0 ≤ a3.toInt ∧ a3.toInt ≤ 100000) (hfo : 0 ≤ (v 6).toInt ∧ (v 6).toInt ≤ 9) (hle3 : a2.toInt ≤ a3.toInt) (hsh : a ∈ L ∧ f a = .inr (4, [.int (v 0), .int (v 1), .int (v 2), .ref oa, .ref ia, .int (v 3), .int (v 4), .int (v 5), .int (v 6), .int (v 7), .int (v 8), .int (v 9), .int (v 10), .int (v 11)])) (hrows : Rows L f rr cB cw) : Met l yX1_comingHour wsX1_comingHour ({ frames := 3, cells := 0, slots := 0, locals := 66 }) (va_Pc [.ref sea, .ref a, .int a0, .int a1, .int a2, .int a3] (fun U => U.heap.size = sz ∧ va_P (dC, dI) vwCl (([(sea, .inr (3, [.ref lc, .ref ct, .ref ch])), (ct, .inl (cZ, 12, .inl Ct)), (ch, .inl (cV, 12, .inr (.inr (.inr (.inr (fun i => if i < 12 then some (rr i) else none))))))] : va_W) ++ va_pl L f) U.heap ∧ va_K (dC, dI) vwCl [(cZ, .boolean), (cB, .byte), (cV, .array .byte)] U ∧ NW U)) (va_Qi (fun (r : Int32) (_ : Unit) => (ComeP (fun h9 => spF (v 1).toInt (v 6).toInt Ct cw h9 a0.toInt a1.toInt) (needF a1.toInt) a2.toInt a3.toInt r.toInt) ∧ (0 ≤ r.toInt ∧ r.toInt ≤ 101000)) (fun _ _ => True) (va_A [] sz)) 0 0 (va_A [] sz) := by
  refine Met.ofW (cc := cX1_comingHour) (maxL := 11) (ret := (some .int)) (by decide) rfl ?_
  intro p e s m args below meth c s₁ B hml hv
  obtain ⟨rfl, hsz, hP, hK, hN⟩ := hv
  have hx := B.exec
  have hb := B.bytes
  have hr := B.returns
  have hts := atoms_spec (ws := wsX1_comingHour) B.pre
  have hown : s.vm.findClass RX1 = some m.cls := findClass_of_methodNamed B.named
  have hlocks := B.notSynchronized
  subst hsz
  generalize hAe : va_A [] s.heap.size = A at ⊢
  have hA : ∀ q : Nat, s.heap.size ≤ q → A q := fun q h => by rw [← hAe]; exact Or.inr h
  have hS : va_S A s.heap s.heap [] := va_S.rf
  have hP : va_P (dC, dI) vwCl (([(sea, .inr (3, [.ref lc, .ref ct, .ref ch])), (ct, .inl (cZ, 12, .inl Ct)), (ch, .inl (cV, 12, .inr (.inr (.inr (.inr (fun i => if i < 12 then some (rr i) else none))))))] : va_W) ++ va_pl L f) s.heap := hP
  have hl := lv_entry ([.ref sea, .ref a, .int a0, .int a1, .int a2, .int a3]) (n := 11) (Nat.le_of_ble_eq_true rfl)
  rw [lg_entry_eq]
  generalize (lg_sl ([.ref sea, .ref a, .int a0, .int a1, .int a2, .int a3]) ++ List.replicate (11 - (lg_sl ([.ref sea, .ref a, .int a0, .int a1, .int a2, .int a3])).length) Slot.unset).toArray = ls at hl ⊢
  have hl : lv_has ls 11 [(0, .ref sea), (1, .ref a), (2, .int a0), (3, .int a1), (4, .int a2), (5, .int a3)] := hl
  refine lv_iload_n hx hb dX1_comingHour_0 rfl (lv_at hl 3 rfl) ?_
  refine va_calli (va_runSN (As := [.int a1]) (rest := []) ⟨hx, hb, hml, hown, hts⟩ (c_X5_needOf l s.heap.size a1 ) ⟨va_cnB 1 hts gX1_comingHour_X5_needOf_n45 rfl rfl rfl hN.nX1_45 (hts (.initialized RX5) (by decide +kernel)) (by decide +kernel) ⟨Nat.le_of_ble_eq_true rfl, Nat.le_of_ble_eq_true rfl⟩, hts (.static yX5_needOf) (by decide +kernel), trivial⟩ ⟨fun a U g mk q => by obtain ⟨q0, q1⟩ := q; exact ⟨q0, q1⟩, fun U hU hW => ⟨rfl, congrArg Array.size hU⟩⟩ rfl rfl hl.1 rfl (lv_room (Nat.le_of_ble_eq_true rfl)) dX1_comingHour_1 ⟨(Nat.zero_le _), (Nat.zero_le _)⟩) hS (fun q _ h => ro_A hS hA q h) (ro_A hS hA) (fun r_1 u t H1 locs ht hvm k_2 hB hz1 hk1 hS => ?_)
  have hP := ro_P hk1 hP
  generalize H1 = H at hP hS ⊢
  try dsimp only at k_2
  obtain ⟨k_2, k_3⟩ := k_2
  refine lv_istore (lv' := [(6, .int r_1), (0, .ref sea), (1, .ref a), (2, .int a0), (3, .int a1), (4, .int a2), (5, .int a3)]) hx hb dX1_comingHour_4 hl (by decide) rfl (fun ls hl => ?_)
  refine lv_iload hx hb dX1_comingHour_6 (lv_at hl 5 rfl) ?_
  refine lv_sipush (v := 720) hx hb dX1_comingHour_8 (by decide) ?_
  refine lv_idiv hx hb dX1_comingHour_11 (by decide) ?_
  refine lv_topi (fun x_4 ex_4 => ?_)
  have tx_4 : x_4.toInt = a2.toInt / 720 := dv_k ex_4 rfl (by decide) (by omega) (by omega)
  refine lv_istore (lv' := [(7, .int x_4), (6, .int r_1), (0, .ref sea), (1, .ref a), (2, .int a0), (3, .int a1), (4, .int a2), (5, .int a3)]) hx hb dX1_comingHour_12 hl (by decide) rfl (fun ls hl => ?_)
  have key14 : ∀ (n14 : Nat) (lf : Int32) (mo : Int32) (H : Heap) (locs : List Loc) (ls : Array Slot), (1 ≤ lf.toInt ∧ lf.toInt ≤ 85) → (0 ≤ mo.toInt ∧ mo.toInt ≤ 139) → (CmI (fun h9 => spF (v 1).toInt (v 6).toInt Ct cw h9 a0.toInt a1.toInt) (needF a1.toInt) a2.toInt mo.toInt lf.toInt) → 140 - mo.toInt < (n14 : Int) → va_P (dC, dI) vwCl (([(sea, .inr (3, [.ref lc, .ref ct, .ref ch])), (ct, .inl (cZ, 12, .inl Ct)), (ch, .inl (cV, 12, .inr (.inr (.inr (.inr (fun i => if i < 12 then some (rr i) else none))))))] : va_W) ++ va_pl L f) H → va_S A s.heap H locs → lv_has ls 11 [(7, .int mo), (6, .int lf), (0, .ref sea), (1, .ref a), (2, .int a0), (3, .int a1), (4, .int a2), (5, .int a3)] → W p l e ({ frames := 3, cells := 0, slots := 0, locals := 66 } : Room) s m ([.ref sea, .ref a, .int a0, .int a1, .int a2, .int a3] : List Value).toArray below meth c H locs 0 0 (MQ below (va_Qi (fun (r : Int32) (_ : Unit) => (ComeP (fun h9 => spF (v 1).toInt (v 6).toInt Ct cw h9 a0.toInt a1.toInt) (needF a1.toInt) a2.toInt a3.toInt r.toInt) ∧ (0 ≤ r.toInt ∧ r.toInt ≤ 101000)) (fun _ _ => True) A) ([.ref sea, .ref a, .int a0, .int a1, .int a2, .int a3] : List Value).toArray s 0 0 A) (F0 m 14 ls []) := by
    intro n14
    induction n14 with
    | zero =>
      intro lf mo H locs ls i_lf i_mo hcm hm14
      exact absurd hm14 (by omega)
    | succ n14 ih14 =>
      intro lf mo H locs ls i_lf i_mo hcm hm14 hP hS hl
      refine lv_iload hx hb dX1_comingHour_14 (lv_at hl 0 rfl) ?_
      refine lv_iload hx hb dX1_comingHour_16 (lv_at hl 7 rfl) ?_
      refine lv_sipush (v := 720) hx hb dX1_comingHour_18 (by decide) ?_
      refine lv_idiv hx hb dX1_comingHour_21 (by decide) ?_
      refine lv_topi (fun x_5 ex_5 => ?_)
      have tx_5 : x_5.toInt = a3.toInt / 720 := dv_k ex_5 rfl (by decide) (by omega) (by omega)
      refine lv_icmp_gt (tgt := 105) hx hb dX1_comingHour_22 (by decide) (fun c_6 => ?_) (fun c_6 => ?_)
      · skip
        have qc_6 : x_5.toInt < mo.toInt := lt_k rfl rfl c_6
        refine lv_iload hx hb dX1_comingHour_105 (lv_at hl 7 rfl) ?_
        refine lv_iconst (v := 1) hx hb dX1_comingHour_107 (by decide) ?_
        refine lv_iadd hx hb dX1_comingHour_108 ?_
        refine lv_topi (fun x_7 ex_7 => ?_)
        have tx_7 : x_7.toInt = a3.toInt + 1 := ad_k ex_7 rfl (by decide) (by omega) (by omega)
        exact W.iret (v := x_7) hx hb hr (fun t ht hW => ⟨⟨x_7, (), rfl, ⟨(CmI.fin hcm (fun x9 => (spF_rng hfo.1).1) (by omega) (by omega) (by omega)), ⟨by omega, by omega⟩⟩, trivial⟩, hS.F ht⟩) hS.2.2 dX1_comingHour_109
      · skip
        have qc_6 : mo.toInt ≤ x_5.toInt := nlt_k rfl rfl c_6
        refine lv_iload hx hb dX1_comingHour_25 (lv_at hl 6 rfl) ?_
        refine lv_iload hx hb dX1_comingHour_27 (lv_at hl 0 rfl) ?_
        refine lv_sipush (v := 720) hx hb dX1_comingHour_29 (by decide) ?_
        refine lv_imul hx hb dX1_comingHour_32 ?_
        refine lv_topi (fun x_8 ex_8 => ?_)
        have tx_8 : x_8.toInt = mo.toInt * 720 := mu_k ex_8 rfl (by decide) (by omega) (by omega)
        refine va_mmax hx hb (hml.trans hl.1.symm) hown (hts (.methodLink RX1 49 Lib.Math.max.name) (by decide +kernel)) (hts (.static Lib.Math.max.name) (by decide +kernel)) (hts (.initialized "java/lang/Math") (by decide +kernel)) (hts (.code Lib.Math.max.name Lib.Math.max.code 2 (some .int)) (by decide +kernel)) (Nat.le_of_ble_eq_true rfl) (Nat.le_of_ble_eq_true rfl) (Nat.le_of_ble_eq_true rfl) (Nat.le_of_ble_eq_true rfl) dX1_comingHour_33 ?_
        refine lv_topi (fun x_9 ex_9 => ?_)
        have tx_9 : x_9.toInt = max a2.toInt x_8.toInt := mx_k ex_9 rfl rfl
        refine lv_istore (lv' := [(8, .int x_9), (7, .int mo), (6, .int lf), (0, .ref sea), (1, .ref a), (2, .int a0), (3, .int a1), (4, .int a2), (5, .int a3)]) hx hb dX1_comingHour_36 hl (by decide) rfl (fun ls hl => ?_)
        refine lv_iload hx hb dX1_comingHour_38 (lv_at hl 1 rfl) ?_
        refine lv_iconst (v := 1) hx hb dX1_comingHour_40 (by decide) ?_
        refine lv_iadd hx hb dX1_comingHour_41 ?_
        refine lv_topi (fun x_10 ex_10 => ?_)
        have tx_10 : x_10.toInt = mo.toInt + 1 := ad_k ex_10 rfl (by decide) (by omega) (by omega)
        refine lv_sipush (v := 720) hx hb dX1_comingHour_42 (by decide) ?_
        refine lv_imul hx hb dX1_comingHour_45 ?_
        refine lv_topi (fun x_11 ex_11 => ?_)
        have tx_11 : x_11.toInt = x_10.toInt * 720 := mu_k ex_11 rfl (by decide) (by omega) (by omega)
        refine lv_iload hx hb dX1_comingHour_46 (lv_at hl 0 rfl) ?_
        refine lv_isub hx hb dX1_comingHour_48 ?_
        refine lv_topi (fun x_12 ex_12 => ?_)
        have tx_12 : x_12.toInt = x_11.toInt - x_9.toInt := su_k ex_12 rfl rfl (by omega) (by omega)
        refine lv_istore (lv' := [(9, .int x_12), (8, .int x_9), (7, .int mo), (6, .int lf), (0, .ref sea), (1, .ref a), (2, .int a0), (3, .int a1), (4, .int a2), (5, .int a3)]) hx hb dX1_comingHour_49 hl (by decide) rfl (fun ls hl => ?_)
        refine lv_aload_n hx hb dX1_comingHour_51 rfl (lv_at hl 5 rfl) ?_
        refine lv_iload_n hx hb dX1_comingHour_52 rfl (lv_at hl 7 rfl) ?_
        refine lv_aload_n hx hb dX1_comingHour_53 rfl (lv_at hl 4 rfl) ?_
        refine lv_iload hx hb dX1_comingHour_54 (lv_at hl 1 rfl) ?_
        refine va_calli (va_runSN (As := [.int x_9]) (rest := [.ref sea, .int a1, .ref a]) ⟨hx, hb, hml, hown, hts⟩ (c_X5_monthOf l H.size x_9 ) ⟨va_cnB 1 hts gX1_comingHour_X5_monthOf_n54 rfl rfl rfl hN.nX1_54 (hts (.initialized RX5) (by decide +kernel)) (by decide +kernel) ⟨Nat.le_of_ble_eq_true rfl, Nat.le_of_ble_eq_true rfl⟩, hts (.static yX5_monthOf) (by decide +kernel), trivial⟩ ⟨fun a U g mk q => by obtain ⟨q0, q1⟩ := q; exact ⟨q0, q1⟩, fun U hU hW => ⟨rfl, congrArg Array.size hU⟩⟩ rfl rfl hl.1 rfl (lv_room (Nat.le_of_ble_eq_true rfl)) dX1_comingHour_56 ⟨(Nat.zero_le _), (Nat.zero_le _)⟩) hS (fun q _ h => ro_A hS hA q h) (ro_A hS hA) (fun r_13 u t H1 locs ht hvm k_14 hB hz1 hk1 hS => ?_)
        have hP := ro_P hk1 hP
        generalize H1 = H at hP hS ⊢
        try dsimp only at k_14
        refine lv_iload_n hx hb dX1_comingHour_59 rfl (lv_at hl 6 rfl) ?_
        have hPc : va_P (dC, dI) vwCl (([(sea, .inr (3, [.ref lc, .ref ct, .ref ch])), (ct, .inl (cZ, 12, .inl Ct)), (ch, .inl (cV, 12, .inr (.inr (.inr (.inr (fun i => if i < 12 then some (rr i) else none))))))] : va_W) ++ va_pl L f) H := va_P.part (X := [(sea, .inr (3, [.ref lc, .ref ct, .ref ch])), (ct, .inl (cZ, 12, .inl Ct)), (ch, .inl (cV, 12, .inr (.inr (.inr (.inr (fun i => if i < 12 then some (rr i) else none))))))]) hP [0, 1, 2] rfl
        have hKc := hK.sub (tys' := [(cZ, .boolean), (cB, .byte), (cV, .array .byte)]) [0, 1, 2] rfl
        refine va_calli (va_runV (As := [.int r_13, .int a0]) (rest := [.int a1, .ref a]) ⟨hx, hb, hml, hown, hts⟩ (c_X2_windIn l dC dI H.size L f sea lc ct ch rr cw Ct cZ cB cV r_13 a0 hrows) (cwV 2 hts gX1_comingHour_X2_windIn rfl rfl rfl (by decide +kernel) ⟨Nat.le_of_ble_eq_true rfl, Nat.le_of_ble_eq_true rfl⟩) ⟨fun a U g mk q => by obtain ⟨q0, q1, qP, qK, qN⟩ := q; exact ⟨q0, q1, qP, va_K.moved (u := U) (U := U.calling g mk a) (Vm.Alike.refl U.vm) qK, NW.same (u := U) (U := U.calling g mk a) rfl qN⟩, va_recv hKc hPc (ci := 3) (q0 := 0) rfl rfl, fun U hU hW => ⟨rfl, by rw [hU], by rw [hU]; exact hPc, va_K.moved hW.alike hKc, NW.warm hW hN⟩⟩ rfl rfl hl.1 rfl (lv_room (Nat.le_of_ble_eq_true rfl)) dX1_comingHour_60 ⟨(Nat.zero_le _), (Nat.zero_le _)⟩) hS (fun q _ h => ro_A hS hA q h) (ro_A hS hA) (fun r_15 u t H1 locs ht hvm k_16 hB hz1 hk1 hS => ?_)
        have hP := ro_P hk1 hP
        generalize H1 = H at hP hS ⊢
        try dsimp only at k_16
        obtain ⟨k_16, k_17⟩ := k_16
        have hPc : va_P (dC, dI) vwCl (([] : va_W) ++ va_pl L f) H := va_P.part (X := [(sea, .inr (3, [.ref lc, .ref ct, .ref ch])), (ct, .inl (cZ, 12, .inl Ct)), (ch, .inl (cV, 12, .inr (.inr (.inr (.inr (fun i => if i < 12 then some (rr i) else none))))))]) hP [] rfl
        have hKc := hK.sub (tys' := []) [] rfl
        obtain ⟨k8_18, hk8_18⟩ : ∃ k : Nat, (([] : va_W) ++ va_pl L f)[k]? = some (a, .inr (4, [.int (v 0), .int (v 1), .int (v 2), .ref oa, .ref ia, .int (v 3), .int (v 4), .int (v 5), .int (v 6), .int (v 7), .int (v 8), .int (v 9), .int (v 10), .int (v 11)])) := pl_at hsh.1 hsh.2
        refine va_calli (va_runV (As := [.int a1, .int r_15]) (rest := []) ⟨hx, hb, hml, hown, hts⟩ (c_X3_speedIn l dC dI H.size L f a oa ia v a1 r_15 ⟨hsh.1, hsh.2⟩) (cwV 2 hts gX1_comingHour_X3_speedIn rfl rfl rfl (by decide +kernel) ⟨Nat.le_of_ble_eq_true rfl, Nat.le_of_ble_eq_true rfl⟩) ⟨fun a U g mk q => by obtain ⟨q0, q1, qP, qK, qN⟩ := q; exact ⟨q0, q1, qP, va_K.moved (u := U) (U := U.calling g mk a) (Vm.Alike.refl U.vm) qK, NW.same (u := U) (U := U.calling g mk a) rfl qN⟩, va_recv hKc hPc (ci := 4) (q0 := k8_18) rfl hk8_18, fun U hU hW => ⟨rfl, by rw [hU], by rw [hU]; exact hPc, va_K.moved hW.alike hKc, NW.warm hW hN⟩⟩ rfl rfl hl.1 rfl (lv_room (Nat.le_of_ble_eq_true rfl)) dX1_comingHour_63 ⟨(Nat.zero_le _), (Nat.zero_le _)⟩) hS (fun q _ h => ro_A hS hA q h) (ro_A hS hA) (fun r_19 u t H1 locs ht hvm k_20 hB hz1 hk1 hS => ?_)
        have hP := ro_P hk1 hP
        generalize H1 = H at hP hS ⊢
        try dsimp only at k_20
        refine lv_istore (lv' := [(10, .int r_19), (9, .int x_12), (8, .int x_9), (7, .int mo), (6, .int lf), (0, .ref sea), (1, .ref a), (2, .int a0), (3, .int a1), (4, .int a2), (5, .int a3)]) hx hb dX1_comingHour_66 hl (by decide) rfl (fun ls hl => ?_)
        have hsp : r_19.toInt = spF (v 1).toInt (v 6).toInt Ct cw x_9.toInt a0.toInt a1.toInt := (by have g1 := k_20 ⟨⟨by omega, by omega⟩, ⟨by omega, by omega⟩, hfo⟩; rewrite [((k_16).trans (windIn_H (by omega) (k_14 (by omega)) (by omega)))] at g1; exact g1)
        have b68 : 0 ≤ r_19.toInt ∧ r_19.toInt ≤ 45 := (by rw [hsp]; exact spF_rng hfo.1)
        have hcm1 := hcm.1
        have h68 : 1 ≤ x_12.toInt ∧ x_12.toInt ≤ 720 := (by omega)
        have p68 := mul_rng9 (x := r_19.toInt) (y := x_12.toInt) (A := 45) (B := 720) b68 (by omega)
        refine lv_iload hx hb dX1_comingHour_68 (lv_at hl 0 rfl) ?_
        refine lv_iload hx hb dX1_comingHour_70 (lv_at hl 1 rfl) ?_
        refine lv_imul hx hb dX1_comingHour_72 ?_
        refine lv_topi (fun x_21 ex_21 => ?_)
        have tx_21 : 0 ≤ x_21.toInt ∧ x_21.toInt ≤ 32400 := mu_b ex_21 (by omega) (p := 45) (by omega) (by omega) (q := 720) (by omega) (by decide)
        have mx_21 : x_21.toInt = r_19.toInt * x_12.toInt := mu_k ex_21 rfl rfl (by omega) (by omega)
        refine lv_iload hx hb dX1_comingHour_73 (lv_at hl 4 rfl) ?_
        refine lv_icmp_lt (tgt := 89) hx hb dX1_comingHour_75 (by decide) (fun c_22 => ?_) (fun c_22 => ?_)
        · skip
          have qc_22 : x_21.toInt < lf.toInt := lt_k rfl rfl c_22
          refine lv_iload hx hb dX1_comingHour_89 (lv_at hl 4 rfl) ?_
          refine lv_iload hx hb dX1_comingHour_91 (lv_at hl 0 rfl) ?_
          refine lv_iload hx hb dX1_comingHour_93 (lv_at hl 1 rfl) ?_
          refine lv_imul hx hb dX1_comingHour_95 ?_
          refine lv_topi (fun x_23 ex_23 => ?_)
          have tx_23 : 0 ≤ x_23.toInt ∧ x_23.toInt ≤ 32400 := mu_b ex_23 (by omega) (p := 45) (by omega) (by omega) (q := 720) (by omega) (by decide)
          have mx_23 : x_23.toInt = r_19.toInt * x_12.toInt := mu_k ex_23 rfl rfl (by omega) (by omega)
          refine lv_isub hx hb dX1_comingHour_96 ?_
          refine lv_topi (fun x_24 ex_24 => ?_)
          have tx_24 : x_24.toInt = lf.toInt - x_23.toInt := su_k ex_24 rfl rfl (by omega) (by omega)
          refine lv_istore (lv' := [(6, .int x_24), (10, .int r_19), (9, .int x_12), (8, .int x_9), (7, .int mo), (0, .ref sea), (1, .ref a), (2, .int a0), (3, .int a1), (4, .int a2), (5, .int a3)]) hx hb dX1_comingHour_97 hl (by decide) rfl (fun ls hl => ?_)
          obtain ⟨x_25, ex_25⟩ : ∃ y : Int32, y = mo + 1 := ⟨_, rfl⟩
          have tx_25 : x_25.toInt = mo.toInt + 1 := ad_k ex_25 rfl (by decide) (by omega) (by omega)
          refine lv_iinc (v := x_25) (lv' := [(7, .int x_25), (6, .int x_24), (10, .int r_19), (9, .int x_12), (8, .int x_9), (0, .ref sea), (1, .ref a), (2, .int a0), (3, .int a1), (4, .int a2), (5, .int a3)]) hx hb dX1_comingHour_99 hl (k := 4) rfl (by rw [ex_25]; rfl) (by decide) rfl (fun ls hl => ?_)
          refine lv_goto (tgt := 14) hx hb dX1_comingHour_102 (by decide) ?_
          exact ih14 x_24 x_25  H locs ls ⟨(by first | omega | (simp only [Int32.reduceToInt]; omega)), (by first | omega | (simp only [Int32.reduceToInt]; omega))⟩ ⟨(by first | omega | (simp only [Int32.reduceToInt]; omega)), (by first | omega | (simp only [Int32.reduceToInt]; omega))⟩ (CmI.step (at_ := x_9.toInt) (H := x_12.toInt) (s := r_19.toInt) hcm (by omega) (by omega) hsp (fun x9 y9 e9 => spF_month e9) (by omega) (by omega) (by omega)) (by first | omega | (simp only [Int32.reduceToInt]; omega)) hP hS (lv_sub hl [0, 1, 5, 6, 7, 8, 9, 10] rfl)
        · skip
          have qc_22 : lf.toInt ≤ x_21.toInt := nlt_k rfl rfl c_22
          refine lv_iload hx hb dX1_comingHour_78 (lv_at hl 2 rfl) ?_
          refine lv_iload hx hb dX1_comingHour_80 (lv_at hl 4 rfl) ?_
          refine lv_iload hx hb dX1_comingHour_82 (lv_at hl 0 rfl) ?_
          refine va_calli (va_runS (As := [.int lf, .int r_19]) (rest := [.int x_9]) ⟨hx, hb, hml, hown, hts⟩ (c_X1_hoursFor l H.size lf r_19 ⟨(by omega), (by omega)⟩ ⟨(by omega), (by omega)⟩) (va_cwS 2 hts gX1_comingHour_X1_hoursFor rfl rfl rfl (by decide +kernel) ⟨Nat.le_of_ble_eq_true rfl, Nat.le_of_ble_eq_true rfl⟩) ⟨fun a U g mk q => by obtain ⟨q0, q1⟩ := q; exact ⟨q0, q1⟩, fun U hU hW => ⟨rfl, congrArg Array.size hU⟩⟩ rfl rfl hl.1 rfl (lv_room (Nat.le_of_ble_eq_true rfl)) dX1_comingHour_84 ⟨(Nat.zero_le _), (Nat.zero_le _)⟩) hS (fun q _ h => ro_A hS hA q h) (ro_A hS hA) (fun r_26 u t H1 locs ht hvm k_27 hB hz1 hk1 hS => ?_)
          have hP := ro_P hk1 hP
          generalize H1 = H at hP hS ⊢
          try dsimp only at k_27
          have s87 : 0 < r_19.toInt := pos_of (lf := lf.toInt) (s := r_19.toInt) (H := x_12.toInt) (by omega) b68.1 (by omega)
          have q87 := k_27 s87
          obtain ⟨c87, d87, -, -⟩ := ceil_of (lf := lf.toInt) (s := r_19.toInt) (H := x_12.toInt) (by omega) s87 (by omega) q87
          refine lv_iadd hx hb dX1_comingHour_87 ?_
          refine lv_topi (fun x_28 ex_28 => ?_)
          have tx_28 : x_28.toInt = x_9.toInt + r_26.toInt := ad_k ex_28 rfl rfl (by omega) (by omega)
          exact W.iret (v := x_28) hx hb hr (fun t ht hW => ⟨⟨x_28, (), rfl, ⟨(CmI.hit (at_ := x_9.toInt) (H := x_12.toInt) (s := r_19.toInt) (q := r_26.toInt) hcm (by omega) (by omega) hsp (fun x9 y9 e9 => spF_month e9) (fun x9 => (spF_rng hfo.1).1) (by omega) (by omega) q87 (by omega)), ⟨by omega, by omega⟩⟩, trivial⟩, hS.F ht⟩) hS.2.2 dX1_comingHour_88
  exact key14 141 r_1 x_4  _ _ ls ⟨(by first | omega | (simp only [Int32.reduceToInt]; omega)), (by first | omega | (simp only [Int32.reduceToInt]; omega))⟩ ⟨(by first | omega | (simp only [Int32.reduceToInt]; omega)), (by first | omega | (simp only [Int32.reduceToInt]; omega))⟩ (by rw [k_2, mNeed_F (by omega), tx_4]; exact CmI.start (by have := needF_rng a1.toInt; omega)) (by (try simp only [Int32.reduceToInt]); omega) hP hS hl
set_option maxRecDepth 20000 in
theorem iw_X1_leave_X1 : ∀ w ∈ wsX10, w ∈ wsX1_leave := fun w h => (List.mem_cons_of_mem _ (List.mem_append_left _ (List.mem_append_left _ (List.mem_append_right _ h))))
set_option maxHeartbeats 4000000 in
set_option maxRecDepth 100000 in
/-- Passage.leave -/
theorem c_X1_leave (l : Launch) (dC : Nat → ClassId) (dI : Nat → Nat → Nat) (sz : Nat) (te : Nat) (ea : Nat) (so : Nat) (mi : Nat) (L : List Nat) (f : Nat → va_E) (pas : Nat) (hot : Nat) (dp : Nat) (Kh : Nat → Int32) (Kd : Nat → Int32) (Lc : Nat → Int32) (cI : ClassId) (sea : Nat) (lc : Nat) (ct : Nat) (ch : Nat) (rr : Nat → Nat) (cw : Nat → Nat → Int32) (Ct : Nat → Int32) (cZ : ClassId) (cB : ClassId) (cV : ClassId) (a : Nat) (oa : Nat) (ia : Nat) (v : Nat → Int32) (a0 : Int32) (a1 : Int32) (i_a0 : 0 ≤ a0.toInt ∧ a0.toInt ≤ 159) (i_a1 : 0 ≤ a1.toInt ∧ a1.toInt ≤ 98000) (R_Kh : Rg 160 0 2001 Kh) (hfo : 0 ≤ (v 6).toInt ∧ (v 6).toInt ≤ 9) (hc20 : (Kh a0.toNatClampNeg).toInt ≤ 2000) (hsh : a ∈ L ∧ f a = .inr (4, [.int (v 0), .int (v 1), .int (v 2), .ref oa, .ref ia, .int (v 3), .int (v 4), .int (v 5), .int (v 6), .int (v 7), .int (v 8), .int (v 9), .int (v 10), .int (v 11)])) (hrows : Rows L f rr cB cw) : Met l yX1_leave wsX1_leave ({ frames := 4, cells := 0, slots := 0, locals := 96 }) (va_Pc [.ref pas, .ref sea, .ref a, .int a0, .int a1] (fun U => U.heap.size = sz ∧ va_P (dC, dI) vwCl (([(pas, .inr (2, [.ref hot, .ref dp])), (hot, .inl (cI, 160, .inl Kh)), (dp, .inl (cZ, 160, .inl Kd)), (sea, .inr (3, [.ref lc, .ref ct, .ref ch])), (ct, .inl (cZ, 12, .inl Ct)), (ch, .inl (cV, 12, .inr (.inr (.inr (.inr (fun i => if i < 12 then some (rr i) else none)))))), (lc, .inl (cZ, 160, .inl Lc))] : va_W) ++ va_pl L f) U.heap ∧ va_K (dC, dI) vwCl [(cI, .int), (cZ, .boolean), (cB, .byte), (cV, .array .byte)] U ∧ NW U ∧ va_D (fun _ => True) (([(pas, .inr (2, [.ref hot, .ref dp])), (hot, .inl (cI, 160, .inl Kh)), (dp, .inl (cZ, 160, .inl Kd)), (sea, .inr (3, [.ref lc, .ref ct, .ref ch])), (ct, .inl (cZ, 12, .inl Ct)), (ch, .inl (cV, 12, .inr (.inr (.inr (.inr (fun i => if i < 12 then some (rr i) else none)))))), (lc, .inl (cZ, 160, .inl Lc))] : va_W) ++ va_pl L f) ∧ Zs te ea so mi (va_A (([(pas, .inr (2, [.ref hot, .ref dp])), (hot, .inl (cI, 160, .inl Kh)), (dp, .inl (cZ, 160, .inl Kd)), (sea, .inr (3, [.ref lc, .ref ct, .ref ch])), (ct, .inl (cZ, 12, .inl Ct)), (ch, .inl (cV, 12, .inr (.inr (.inr (.inr (fun i => if i < 12 then some (rr i) else none)))))), (lc, .inl (cZ, 160, .inl Lc))] : va_W) ++ va_pl L f) sz) U U.heap)) (va_Qv (fun (u : (Nat → Int32) × (Nat → Int32)) => (hI u.1 = rlxC (nextF Lc a0.toInt) (FFo (spF (v 1).toInt (v 6).toInt Ct cw) a1.toInt a0.toInt) a0.toNatClampNeg (hI Kh) 8) ∧ (u.2 = upd Kd a0.toNatClampNeg (vp_nar .boolean (1 : Int32))) ∧ (Rg 160 0 2001 u.1)) (fun u t => va_P (dC, dI) vwCl (([(pas, .inr (2, [.ref hot, .ref dp])), (hot, .inl (cI, 160, .inl u.1)), (dp, .inl (cZ, 160, .inl u.2)), (sea, .inr (3, [.ref lc, .ref ct, .ref ch])), (ct, .inl (cZ, 12, .inl Ct)), (ch, .inl (cV, 12, .inr (.inr (.inr (.inr (fun i => if i < 12 then some (rr i) else none)))))), (lc, .inl (cZ, 160, .inl Lc))] : va_W) ++ va_pl L f) t.heap ∧ va_K (dC, dI) vwCl [(cI, .int), (cZ, .boolean), (cB, .byte), (cV, .array .byte)] t ∧ va_D (va_A (([(pas, .inr (2, [.ref hot, .ref dp])), (hot, .inl (cI, 160, .inl Kh)), (dp, .inl (cZ, 160, .inl Kd)), (sea, .inr (3, [.ref lc, .ref ct, .ref ch])), (ct, .inl (cZ, 12, .inl Ct)), (ch, .inl (cV, 12, .inr (.inr (.inr (.inr (fun i => if i < 12 then some (rr i) else none)))))), (lc, .inl (cZ, 160, .inl Lc))] : va_W) ++ va_pl L f) sz) (([(pas, .inr (2, [.ref hot, .ref dp])), (hot, .inl (cI, 160, .inl u.1)), (dp, .inl (cZ, 160, .inl u.2)), (sea, .inr (3, [.ref lc, .ref ct, .ref ch])), (ct, .inl (cZ, 12, .inl Ct)), (ch, .inl (cV, 12, .inr (.inr (.inr (.inr (fun i => if i < 12 then some (rr i) else none)))))), (lc, .inl (cZ, 160, .inl Lc))] : va_W) ++ va_pl L f)) (va_A (([(pas, .inr (2, [.ref hot, .ref dp])), (hot, .inl (cI, 160, .inl Kh)), (dp, .inl (cZ, 160, .inl Kd)), (sea, .inr (3, [.ref lc, .ref ct, .ref ch])), (ct, .inl (cZ, 12, .inl Ct)), (ch, .inl (cV, 12, .inr (.inr (.inr (.inr (fun i => if i < 12 then some (rr i) else none)))))), (lc, .inl (cZ, 160, .inl Lc))] : va_W) ++ va_pl L f) sz)) 0 0 (va_A (([(pas, .inr (2, [.ref hot, .ref dp])), (hot, .inl (cI, 160, .inl Kh)), (dp, .inl (cZ, 160, .inl Kd)), (sea, .inr (3, [.ref lc, .ref ct, .ref ch])), (ct, .inl (cZ, 12, .inl Ct)), (ch, .inl (cV, 12, .inr (.inr (.inr (.inr (fun i => if i < 12 then some (rr i) else none)))))), (lc, .inl (cZ, 160, .inl Lc))] : va_W) ++ va_pl L f) sz) := by
  refine Met.ofW (cc := cX1_leave) (maxL := 8) (ret := none) (by decide) rfl ?_
  intro p e s m args below meth c s₁ B hml hv
  obtain ⟨rfl, hsz, hP, hK, hN, hD0, hZ⟩ := hv
  have hx := B.exec
  have hb := B.bytes
  have hr := B.returns
  have hts := atoms_spec (ws := wsX1_leave) B.pre
  have hown : s.vm.findClass RX1 = some m.cls := findClass_of_methodNamed B.named
  have hlocks := B.notSynchronized
  subst hsz
  have hD := hD0.self (sz := s.heap.size)
  generalize hAe : va_A (([(pas, .inr (2, [.ref hot, .ref dp])), (hot, .inl (cI, 160, .inl Kh)), (dp, .inl (cZ, 160, .inl Kd)), (sea, .inr (3, [.ref lc, .ref ct, .ref ch])), (ct, .inl (cZ, 12, .inl Ct)), (ch, .inl (cV, 12, .inr (.inr (.inr (.inr (fun i => if i < 12 then some (rr i) else none)))))), (lc, .inl (cZ, 160, .inl Lc))] : va_W) ++ va_pl L f) s.heap.size = A at hD hZ ⊢
  have hA : ∀ q : Nat, s.heap.size ≤ q → A q := fun q h => by rw [← hAe]; exact Or.inr h
  have hS : va_S A s.heap s.heap [] := va_S.rf
  have hP : va_P (dC, dI) vwCl (([(pas, .inr (2, [.ref hot, .ref dp])), (hot, .inl (cI, 160, .inl Kh)), (dp, .inl (cZ, 160, .inl Kd)), (sea, .inr (3, [.ref lc, .ref ct, .ref ch])), (ct, .inl (cZ, 12, .inl Ct)), (ch, .inl (cV, 12, .inr (.inr (.inr (.inr (fun i => if i < 12 then some (rr i) else none)))))), (lc, .inl (cZ, 160, .inl Lc))] : va_W) ++ va_pl L f) s.heap := hP
  have hl := lv_entry ([.ref pas, .ref sea, .ref a, .int a0, .int a1]) (n := 8) (Nat.le_of_ble_eq_true rfl)
  rw [lg_entry_eq]
  generalize (lg_sl ([.ref pas, .ref sea, .ref a, .int a0, .int a1]) ++ List.replicate (8 - (lg_sl ([.ref pas, .ref sea, .ref a, .int a0, .int a1])).length) Slot.unset).toArray = ls at hl ⊢
  have hl : lv_has ls 8 [(0, .ref pas), (1, .ref sea), (2, .ref a), (3, .int a0), (4, .int a1)] := hl
  refine lv_iload_n hx hb dX1_leave_0 rfl (lv_at hl 3 rfl) ?_
  refine lv_sipush (v := 159) hx hb dX1_leave_1 (by decide) ?_
  refine va_calli (va_runSN (As := [.int a0, .int 159]) (rest := []) ⟨hx, hb, hml, hown, hts⟩ (c_X5_outside l s.heap.size a0 159 ) ⟨va_cnB 2 hts gX1_leave_X5_outside_n19 rfl rfl rfl hN.nX1_19 (hts (.initialized RX5) (by decide +kernel)) (by decide +kernel) ⟨Nat.le_of_ble_eq_true rfl, Nat.le_of_ble_eq_true rfl⟩, hts (.static yX5_outside) (by decide +kernel), trivial⟩ ⟨fun a U g mk q => by obtain ⟨q0, q1⟩ := q; exact ⟨q0, q1⟩, fun U hU hW => ⟨rfl, congrArg Array.size hU⟩⟩ rfl rfl hl.1 rfl (lv_room (Nat.le_of_ble_eq_true rfl)) dX1_leave_4 ⟨(Nat.zero_le _), (Nat.zero_le _)⟩) hS (fun q _ h => ro_A hS hA q h) (ro_A hS hA) (fun r_1 u t H1 locs ht hvm k_2 hB hz1 hk1 hS => ?_)
  have hP := ro_P hk1 hP
  generalize H1 = H at hP hS ⊢
  try dsimp only at k_2
  obtain ⟨k_2, k_3⟩ := k_2
  refine lv_if_eq (tgt := 11) hx hb dX1_leave_7 (by decide) (fun c_4 => ?_) (fun c_4 => ?_)
  · skip
    have b_5 := b01z k_2 c_4
    (try simp only [Int32.lt_iff_toInt_lt, Int32.le_iff_toInt_le, ← Int32.toInt_inj, Int32.reduceToInt, zl1, zl2, zl3, zl4, zl9] at b_5)
    (try simp only [Int32.reduceToInt] at b_5)
    refine lv_aload_n hx hb dX1_leave_11 rfl (lv_at hl 0 rfl) ?_
    refine va_get (D := (dC, dI)) (ci := 2) (v := .ref dp) (C := RX1) (T := TX1) (N := 2) hx hb hts iw_X1_leave_X1 hown hK hP 0 rfl rfl 1 (by decide) (hts (.fieldLink RX1 15 "TeaRace$Passage" "departed" "[Z") (by decide +kernel)) (fun _ h9 => h9) rfl dX1_leave_12 ?_
    refine lv_iload_n hx hb dX1_leave_15 rfl (lv_at hl 3 rfl) ?_
    refine lv_iconst (v := 1) hx hb dX1_leave_16 (by decide) ?_
    refine va_zast hx hb hK hP hD hS 2 1 rfl rfl (in_k rfl (by omega) (by omega)) dX1_leave_17 (fun H locs hP hD hS => ?_)
    have hP : va_P (dC, dI) vwCl (([(pas, .inr (2, [.ref hot, .ref dp])), (hot, .inl (cI, 160, .inl Kh)), (dp, .inl (cZ, 160, .inl (upd Kd a0.toNatClampNeg (vp_nar .boolean (1 : Int32))))), (sea, .inr (3, [.ref lc, .ref ct, .ref ch])), (ct, .inl (cZ, 12, .inl Ct)), (ch, .inl (cV, 12, .inr (.inr (.inr (.inr (fun i => if i < 12 then some (rr i) else none)))))), (lc, .inl (cZ, 160, .inl Lc))] : va_W) ++ va_pl L f) H := hP
    have hD : va_D A (([(pas, .inr (2, [.ref hot, .ref dp])), (hot, .inl (cI, 160, .inl Kh)), (dp, .inl (cZ, 160, .inl (upd Kd a0.toNatClampNeg (vp_nar .boolean (1 : Int32))))), (sea, .inr (3, [.ref lc, .ref ct, .ref ch])), (ct, .inl (cZ, 12, .inl Ct)), (ch, .inl (cV, 12, .inr (.inr (.inr (.inr (fun i => if i < 12 then some (rr i) else none)))))), (lc, .inl (cZ, 160, .inl Lc))] : va_W) ++ va_pl L f) := hD
    have zs_6 : (upd Kd a0.toNatClampNeg (vp_nar .boolean (1 : Int32)) a0.toNatClampNeg).toInt = (vp_nar .boolean (1 : Int32)).toInt := congrArg Int32.toInt (upd_at (Kd) a0.toNatClampNeg (vp_nar .boolean (1 : Int32)))
    refine lv_iconst (v := 0) hx hb dX1_leave_18 (by decide) ?_
    refine lv_istore (lv' := [(5, .int 0), (0, .ref pas), (1, .ref sea), (2, .ref a), (3, .int a0), (4, .int a1)]) hx hb dX1_leave_19 hl (by decide) rfl (fun ls hl => ?_)
    have key21 : ∀ (n21 : Nat) (iw : Int32) (wh : Nat → Int32) (H : Heap) (locs : List Loc) (ls : Array Slot), (0 ≤ iw.toInt ∧ iw.toInt ≤ 8) → Rg 160 0 2001 wh → (hI wh = rlxC (nextF Lc a0.toInt) (FFo (spF (v 1).toInt (v 6).toInt Ct cw) a1.toInt a0.toInt) a0.toNatClampNeg (hI Kh) iw.toNatClampNeg) → 8 - iw.toInt < (n21 : Int) → va_P (dC, dI) vwCl (([(pas, .inr (2, [.ref hot, .ref dp])), (hot, .inl (cI, 160, .inl wh)), (dp, .inl (cZ, 160, .inl (upd Kd a0.toNatClampNeg (vp_nar .boolean (1 : Int32))))), (sea, .inr (3, [.ref lc, .ref ct, .ref ch])), (ct, .inl (cZ, 12, .inl Ct)), (ch, .inl (cV, 12, .inr (.inr (.inr (.inr (fun i => if i < 12 then some (rr i) else none)))))), (lc, .inl (cZ, 160, .inl Lc))] : va_W) ++ va_pl L f) H → va_D A (([(pas, .inr (2, [.ref hot, .ref dp])), (hot, .inl (cI, 160, .inl wh)), (dp, .inl (cZ, 160, .inl (upd Kd a0.toNatClampNeg (vp_nar .boolean (1 : Int32))))), (sea, .inr (3, [.ref lc, .ref ct, .ref ch])), (ct, .inl (cZ, 12, .inl Ct)), (ch, .inl (cV, 12, .inr (.inr (.inr (.inr (fun i => if i < 12 then some (rr i) else none)))))), (lc, .inl (cZ, 160, .inl Lc))] : va_W) ++ va_pl L f) → va_S A s.heap H locs → lv_has ls 8 [(5, .int iw), (0, .ref pas), (1, .ref sea), (2, .ref a), (3, .int a0), (4, .int a1)] → W p l e ({ frames := 4, cells := 0, slots := 0, locals := 96 } : Room) s m ([.ref pas, .ref sea, .ref a, .int a0, .int a1] : List Value).toArray below meth c H locs 0 0 (MQ below (va_Qv (fun (u : (Nat → Int32) × (Nat → Int32)) => (hI u.1 = rlxC (nextF Lc a0.toInt) (FFo (spF (v 1).toInt (v 6).toInt Ct cw) a1.toInt a0.toInt) a0.toNatClampNeg (hI Kh) 8) ∧ (u.2 = upd Kd a0.toNatClampNeg (vp_nar .boolean (1 : Int32))) ∧ (Rg 160 0 2001 u.1)) (fun u t => va_P (dC, dI) vwCl (([(pas, .inr (2, [.ref hot, .ref dp])), (hot, .inl (cI, 160, .inl u.1)), (dp, .inl (cZ, 160, .inl u.2)), (sea, .inr (3, [.ref lc, .ref ct, .ref ch])), (ct, .inl (cZ, 12, .inl Ct)), (ch, .inl (cV, 12, .inr (.inr (.inr (.inr (fun i => if i < 12 then some (rr i) else none)))))), (lc, .inl (cZ, 160, .inl Lc))] : va_W) ++ va_pl L f) t.heap ∧ va_K (dC, dI) vwCl [(cI, .int), (cZ, .boolean), (cB, .byte), (cV, .array .byte)] t ∧ va_D A (([(pas, .inr (2, [.ref hot, .ref dp])), (hot, .inl (cI, 160, .inl u.1)), (dp, .inl (cZ, 160, .inl u.2)), (sea, .inr (3, [.ref lc, .ref ct, .ref ch])), (ct, .inl (cZ, 12, .inl Ct)), (ch, .inl (cV, 12, .inr (.inr (.inr (.inr (fun i => if i < 12 then some (rr i) else none)))))), (lc, .inl (cZ, 160, .inl Lc))] : va_W) ++ va_pl L f)) A) ([.ref pas, .ref sea, .ref a, .int a0, .int a1] : List Value).toArray s 0 0 A) (F0 m 21 ls []) := by
      intro n21
      induction n21 with
      | zero =>
        intro iw wh H locs ls i_iw R_wh hrx hm21
        exact absurd hm21 (by omega)
      | succ n21 ih21 =>
        intro iw wh H locs ls i_iw R_wh hrx hm21 hP hD hS hl
        refine lv_iload hx hb dX1_leave_21 (lv_at hl 0 rfl) ?_
        refine lv_bipush (v := 8) hx hb dX1_leave_23 (by decide) ?_
        refine lv_icmp_ge (tgt := 86) hx hb dX1_leave_25 (by decide) (fun c_7 => ?_) (fun c_7 => ?_)
        · skip
          have qc_7 : 8 ≤ iw.toInt := le_k (by decide) rfl c_7
          have hP9 : va_P (dC, dI) vwCl (([(pas, .inr (2, [.ref hot, .ref dp])), (hot, .inl (cI, 160, .inl wh)), (dp, .inl (cZ, 160, .inl (upd Kd a0.toNatClampNeg (vp_nar .boolean (1 : Int32))))), (sea, .inr (3, [.ref lc, .ref ct, .ref ch])), (ct, .inl (cZ, 12, .inl Ct)), (ch, .inl (cV, 12, .inr (.inr (.inr (.inr (fun i => if i < 12 then some (rr i) else none)))))), (lc, .inl (cZ, 160, .inl Lc))] : va_W) ++ va_pl L f) H := va_P.part (X := [(pas, .inr (2, [.ref hot, .ref dp])), (hot, .inl (cI, 160, .inl wh)), (dp, .inl (cZ, 160, .inl (upd Kd a0.toNatClampNeg (vp_nar .boolean (1 : Int32))))), (sea, .inr (3, [.ref lc, .ref ct, .ref ch])), (ct, .inl (cZ, 12, .inl Ct)), (ch, .inl (cV, 12, .inr (.inr (.inr (.inr (fun i => if i < 12 then some (rr i) else none)))))), (lc, .inl (cZ, 160, .inl Lc))]) hP [0, 1, 2, 3, 4, 5, 6] rfl
          have hD9 : va_D A (([(pas, .inr (2, [.ref hot, .ref dp])), (hot, .inl (cI, 160, .inl wh)), (dp, .inl (cZ, 160, .inl (upd Kd a0.toNatClampNeg (vp_nar .boolean (1 : Int32))))), (sea, .inr (3, [.ref lc, .ref ct, .ref ch])), (ct, .inl (cZ, 12, .inl Ct)), (ch, .inl (cV, 12, .inr (.inr (.inr (.inr (fun i => if i < 12 then some (rr i) else none)))))), (lc, .inl (cZ, 160, .inl Lc))] : va_W) ++ va_pl L f) := va_D.part (X := [(pas, .inr (2, [.ref hot, .ref dp])), (hot, .inl (cI, 160, .inl wh)), (dp, .inl (cZ, 160, .inl (upd Kd a0.toNatClampNeg (vp_nar .boolean (1 : Int32))))), (sea, .inr (3, [.ref lc, .ref ct, .ref ch])), (ct, .inl (cZ, 12, .inl Ct)), (ch, .inl (cV, 12, .inr (.inr (.inr (.inr (fun i => if i < 12 then some (rr i) else none)))))), (lc, .inl (cZ, 160, .inl Lc))]) hD [0, 1, 2, 3, 4, 5, 6] (by decide) rfl
          have hK9 := hK.sub (tys' := [(cI, .int), (cZ, .boolean), (cB, .byte), (cV, .array .byte)]) [0, 1, 2, 3] rfl
          exact W.vret hx hb hr (fun t ht hW => ⟨⟨(wh, upd Kd a0.toNatClampNeg (vp_nar .boolean (1 : Int32))), rfl, ⟨(by have e9 : iw.toNatClampNeg = 8 := (by have := tn_k (i := iw) rfl (by omega); omega); rewrite [e9] at hrx; exact hrx), rfl, (show Rg 160 0 2001 wh from R_wh)⟩, ⟨by rw [ht]; exact hP9, va_K.moved hW.alike hK9, hD9⟩⟩, hS.F ht⟩) hS.2.2 dX1_leave_86
        · skip
          have qc_7 : iw.toInt < 8 := nle_k (by decide) rfl c_7
          have hcc : (wh a0.toNatClampNeg).toInt ≤ 2000 := (by have h1 := rlxC_le (nx := nextF Lc a0.toInt) (F := FFo (spF (v 1).toInt (v 6).toInt Ct cw) a1.toInt a0.toInt) (c := a0.toNatClampNeg) (h := hI Kh) iw.toNatClampNeg a0.toNatClampNeg; rewrite [← hrx, hI_at (by have := tn_k (i := a0) rfl (by omega); omega), hI_at (by have := tn_k (i := a0) rfl (by omega); omega)] at h1; omega)
          refine lv_aload_n hx hb dX1_leave_28 rfl (lv_at hl 2 rfl) ?_
          refine lv_iload_n hx hb dX1_leave_29 rfl (lv_at hl 4 rfl) ?_
          refine lv_iload hx hb dX1_leave_30 (lv_at hl 0 rfl) ?_
          have hPc := hP.sub (ws' := [(sea, .inr (3, [.ref lc, .ref ct, .ref ch])), (lc, .inl (cZ, 160, .inl Lc))]) [3, 6] rfl
          have hKc := hK.sub (tys' := [(cZ, .boolean)]) [1] rfl
          refine va_calli (va_runV (As := [.int a0, .int iw]) (rest := []) ⟨hx, hb, hml, hown, hts⟩ (c_X2_nextCell l dC dI H.size te ea so mi sea lc ct ch Lc cZ a0 iw ) (cwV 2 hts gX1_leave_X2_nextCell rfl rfl rfl (by decide +kernel) ⟨Nat.le_of_ble_eq_true rfl, Nat.le_of_ble_eq_true rfl⟩) ⟨fun a U g mk q => by obtain ⟨q0, q1, qP, qK, qN, qZ⟩ := q; exact ⟨q0, q1, qP, va_K.moved (u := U) (U := U.calling g mk a) (Vm.Alike.refl U.vm) qK, NW.same (u := U) (U := U.calling g mk a) rfl qN, Zs.moved (u := U) (U := U.calling g mk a) (Vm.Alike.refl U.vm) qZ⟩, va_recv hKc hPc (ci := 3) (q0 := 0) rfl rfl, fun U hU hW => ⟨rfl, by rw [hU], by rw [hU]; exact hPc, va_K.moved hW.alike hKc, NW.warm hW hN, by rw [hU]; exact Zs.pass hZ hS.2.1 (fun q h => ro_A hS hA q h) hW.alike⟩⟩ rfl rfl hl.1 rfl (lv_room (Nat.le_of_ble_eq_true rfl)) dX1_leave_32 ⟨(Nat.zero_le _), (Nat.zero_le _)⟩) hS (fun q _ h => ro_A hS hA q h) (ro_A hS hA) (fun r_8 u t H1 locs ht hvm k_9 hB hz1 hk1 hS => ?_)
          have hP := ro_P hk1 hP
          generalize H1 = H at hP hS ⊢
          try dsimp only at k_9
          obtain ⟨k_9, k_10, k_11⟩ := k_9
          refine lv_istore (lv' := [(6, .int r_8), (5, .int iw), (0, .ref pas), (1, .ref sea), (2, .ref a), (3, .int a0), (4, .int a1)]) hx hb dX1_leave_35 hl (by decide) rfl (fun ls hl => ?_)
          refine lv_iload hx hb dX1_leave_37 (lv_at hl 0 rfl) ?_
          refine lv_bipush (v := (-9)) hx hb dX1_leave_39 (by decide) ?_
          refine lv_icmp_eq (tgt := 80) hx hb dX1_leave_41 (by decide) (fun c_12 => ?_) (fun c_12 => ?_)
          · skip
            have qc_12 : r_8.toInt = (-9) := eq_k rfl (by decide) c_12
            obtain ⟨x_13, ex_13⟩ : ∃ y : Int32, y = iw + 1 := ⟨_, rfl⟩
            have tx_13 : x_13.toInt = iw.toInt + 1 := ad_k ex_13 rfl (by decide) (by omega) (by omega)
            refine lv_iinc (v := x_13) (lv' := [(5, .int x_13), (6, .int r_8), (0, .ref pas), (1, .ref sea), (2, .ref a), (3, .int a0), (4, .int a1)]) hx hb dX1_leave_80 hl (k := 1) rfl (by rw [ex_13]; rfl) (by decide) rfl (fun ls hl => ?_)
            refine lv_goto (tgt := 21) hx hb dX1_leave_83 (by decide) ?_
            exact ih21 x_13 wh H locs ls ⟨(by first | omega | (simp only [Int32.reduceToInt]; omega)), (by first | omega | (simp only [Int32.reduceToInt]; omega))⟩ R_wh (rlxC_skip (nr := r_8) hrx (by omega) tx_13 (k_10 ⟨⟨by omega, by omega⟩, by omega, by omega⟩) (by omega)) (by first | omega | (simp only [Int32.reduceToInt]; omega)) hP hD hS (lv_sub hl [0, 2, 3, 4, 5, 6] rfl)
          · skip
            have qc_12 : r_8.toInt ≠ (-9) := ne_k rfl (by decide) c_12
            refine lv_aload_n hx hb dX1_leave_44 rfl (lv_at hl 3 rfl) ?_
            refine lv_aload_n hx hb dX1_leave_45 rfl (lv_at hl 4 rfl) ?_
            refine lv_iload_n hx hb dX1_leave_46 rfl (lv_at hl 5 rfl) ?_
            refine lv_iload hx hb dX1_leave_47 (lv_at hl 1 rfl) ?_
            refine lv_iload hx hb dX1_leave_49 (lv_at hl 6 rfl) ?_
            refine lv_aload_n hx hb dX1_leave_51 rfl (lv_at hl 2 rfl) ?_
            refine va_get (D := (dC, dI)) (ci := 2) (v := .ref hot) (C := RX1) (T := TX1) (N := 2) hx hb hts iw_X1_leave_X1 hown hK hP 0 rfl rfl 0 (by decide) (hts (.fieldLink RX1 9 "TeaRace$Passage" "hoursTo" "[I") (by decide +kernel)) (fun _ h9 => h9) rfl dX1_leave_52 ?_
            refine lv_iload_n hx hb dX1_leave_55 rfl (lv_at hl 5 rfl) ?_
            refine va_iald hx hb hK hP 1 0 rfl rfl (in_k rfl (by omega) (by omega)) dX1_leave_56 ?_
            refine lv_topi (fun x_14 ex_14 => ?_)
            have rx_14 := congrArg Int32.toInt ex_14
            have gx_14 : 0 ≤ x_14.toInt ∧ x_14.toInt ≤ 2001 := Rg.at R_wh rfl (by omega) (by omega) ex_14
            refine lv_iadd hx hb dX1_leave_57 ?_
            refine lv_topi (fun x_15 ex_15 => ?_)
            have tx_15 : x_15.toInt = a1.toInt + x_14.toInt := ad_k ex_15 rfl rfl (by omega) (by omega)
            refine lv_iload hx hb dX1_leave_58 (lv_at hl 6 rfl) ?_
            refine lv_sipush (v := 2000) hx hb dX1_leave_60 (by decide) ?_
            refine lv_iadd hx hb dX1_leave_63 ?_
            refine lv_topi (fun x_16 ex_16 => ?_)
            have tx_16 : x_16.toInt = a1.toInt + 2000 := ad_k ex_16 rfl (by decide) (by omega) (by omega)
            have hPc : va_P (dC, dI) vwCl (([(sea, .inr (3, [.ref lc, .ref ct, .ref ch])), (ct, .inl (cZ, 12, .inl Ct)), (ch, .inl (cV, 12, .inr (.inr (.inr (.inr (fun i => if i < 12 then some (rr i) else none))))))] : va_W) ++ va_pl L f) H := va_P.part (X := [(pas, .inr (2, [.ref hot, .ref dp])), (hot, .inl (cI, 160, .inl wh)), (dp, .inl (cZ, 160, .inl (upd Kd a0.toNatClampNeg (vp_nar .boolean (1 : Int32))))), (sea, .inr (3, [.ref lc, .ref ct, .ref ch])), (ct, .inl (cZ, 12, .inl Ct)), (ch, .inl (cV, 12, .inr (.inr (.inr (.inr (fun i => if i < 12 then some (rr i) else none)))))), (lc, .inl (cZ, 160, .inl Lc))]) hP [3, 4, 5] rfl
            have hKc := hK.sub (tys' := [(cZ, .boolean), (cB, .byte), (cV, .array .byte)]) [1, 2, 3] rfl
            refine va_calli (va_runS (As := [.ref sea, .ref a, .int a0, .int iw, .int x_15, .int x_16]) (rest := []) ⟨hx, hb, hml, hown, hts⟩ (c_X1_comingHour l dC dI H.size L f sea lc ct ch rr cw Ct cZ cB cV a oa ia v a0 iw x_15 x_16 ⟨(by omega), (by omega)⟩ ⟨(by omega), (by omega)⟩ ⟨(by omega), (by omega)⟩ ⟨(by omega), (by omega)⟩ (by omega) (by omega) ⟨hsh.1, hsh.2⟩ hrows) (va_cwS 6 hts gX1_leave_X1_comingHour rfl rfl rfl (by decide +kernel) ⟨Nat.le_of_ble_eq_true rfl, Nat.le_of_ble_eq_true rfl⟩) ⟨fun a U g mk q => by obtain ⟨q0, q1, qP, qK, qN⟩ := q; exact ⟨q0, q1, qP, va_K.moved (u := U) (U := U.calling g mk a) (Vm.Alike.refl U.vm) qK, NW.same (u := U) (U := U.calling g mk a) rfl qN⟩, fun U hU hW => ⟨rfl, by rw [hU], by rw [hU]; exact hPc, va_K.moved hW.alike hKc, NW.warm hW hN⟩⟩ rfl rfl hl.1 rfl (lv_room (Nat.le_of_ble_eq_true rfl)) dX1_leave_64 ⟨(Nat.zero_le _), (Nat.zero_le _)⟩) hS (fun q _ h => ro_A hS hA q h) (ro_A hS hA) (fun r_17 u t H1 locs ht hvm k_18 hB hz1 hk1 hS => ?_)
            have hP := ro_P hk1 hP
            generalize H1 = H at hP hS ⊢
            try dsimp only at k_18
            obtain ⟨k_18, k_19⟩ := k_18
            have hcp := k_18
            rw [tx_15, tx_16] at hcp
            have hcl := hcp.1
            refine lv_istore (lv' := [(7, .int r_17), (6, .int r_8), (5, .int iw), (0, .ref pas), (1, .ref sea), (2, .ref a), (3, .int a0), (4, .int a1)]) hx hb dX1_leave_67 hl (by decide) rfl (fun ls hl => ?_)
            refine lv_aload_n hx hb dX1_leave_69 rfl (lv_at hl 3 rfl) ?_
            refine lv_iload hx hb dX1_leave_70 (lv_at hl 1 rfl) ?_
            refine lv_iload hx hb dX1_leave_72 (lv_at hl 0 rfl) ?_
            refine lv_iload hx hb dX1_leave_74 (lv_at hl 7 rfl) ?_
            refine lv_isub hx hb dX1_leave_76 ?_
            refine lv_topi (fun x_20 ex_20 => ?_)
            have tx_20 : x_20.toInt = r_17.toInt - a1.toInt := su_k ex_20 rfl rfl (by omega) (by omega)
            have hPc := hP.sub (ws' := [(pas, .inr (2, [.ref hot, .ref dp])), (hot, .inl (cI, 160, .inl wh))]) [0, 1] rfl
            have hDc := hD.sub (ws' := [(pas, .inr (2, [.ref hot, .ref dp])), (hot, .inl (cI, 160, .inl wh))]) [0, 1] (by decide) rfl
            have hKc := hK.sub (tys' := [(cI, .int)]) [0] rfl
            have hFc := va_free (wc := [(pas, .inr (2, [.ref hot, .ref dp])), (hot, .inl (cI, 160, .inl wh))]) hD hS hA [0, 1] rfl
            refine va_callv (va_runV (As := [.int r_8, .int x_20]) (rest := []) ⟨hx, hb, hml, hown, hts⟩ (c_X1_reach l dC dI H.size pas hot dp wh cI r_8 x_20 ⟨(by omega), (by omega)⟩ R_wh (by omega)) (cwV 2 hts gX1_leave_X1_reach rfl rfl rfl (by decide +kernel) ⟨Nat.le_of_ble_eq_true rfl, Nat.le_of_ble_eq_true rfl⟩) ⟨fun a U g mk q => by obtain ⟨q0, q1, qP, qK, qN, qD⟩ := q; exact ⟨q0, q1, qP, va_K.moved (u := U) (U := U.calling g mk a) (Vm.Alike.refl U.vm) qK, NW.same (u := U) (U := U.calling g mk a) rfl qN, qD⟩, va_recv hKc hPc (ci := 2) (q0 := 0) rfl rfl, fun U hU hW => ⟨rfl, by rw [hU], by rw [hU]; exact hPc, va_K.moved hW.alike hKc, NW.warm hW hN, hDc.weaken (fun _ _ _ _ => trivial)⟩⟩ rfl rfl hl.1 rfl (lv_room (Nat.le_of_ble_eq_true rfl)) dX1_leave_77 ⟨(Nat.zero_le _), (Nat.zero_le _)⟩) hS (fun q _ h => hFc q h) hFc (fun u t H1 locs ht hvm k_22 hB hz1 hk1 hS => ?_)
            obtain ⟨u_23, eu_23⟩ : ∃ z, z = u := ⟨_, rfl⟩
            subst eu_23
            obtain ⟨hP1, hK1, hD1⟩ := hB
            rw [ht] at hP1
            have hK1 := va_K.moved hvm.symm hK1
            obtain ⟨hP, hD⟩ := va_joinQ (X := [(pas, .inr (2, [.ref hot, .ref dp])), (hot, .inl (cI, 160, .inl wh)), (dp, .inl (cZ, 160, .inl (upd Kd a0.toNatClampNeg (vp_nar .boolean (1 : Int32))))), (sea, .inr (3, [.ref lc, .ref ct, .ref ch])), (ct, .inl (cZ, 12, .inl Ct)), (ch, .inl (cV, 12, .inr (.inr (.inr (.inr (fun i => if i < 12 then some (rr i) else none)))))), (lc, .inl (cZ, 160, .inl Lc))]) (cx := [(pas, .inr (2, [.ref hot, .ref dp])), (hot, .inl (cI, 160, .inl wh))]) (wr := [(dp, .inl (cZ, 160, .inl (upd Kd a0.toNatClampNeg (vp_nar .boolean (1 : Int32))))), (sea, .inr (3, [.ref lc, .ref ct, .ref ch])), (ct, .inl (cZ, 12, .inl Ct)), (ch, .inl (cV, 12, .inr (.inr (.inr (.inr (fun i => if i < 12 then some (rr i) else none)))))), (lc, .inl (cZ, 160, .inl Lc))]) (w1 := [(pas, .inr (2, [.ref hot, .ref dp])), (hot, .inl (cI, 160, .inl u_23))]) hP hD [0, 1] [2, 3, 4, 5, 6] rfl rfl (by decide) (by decide) hk1 hFc hP1 hD1
            generalize H1 = H at hP hS ⊢
            have hP : va_P (dC, dI) vwCl (([(dp, .inl (cZ, 160, .inl (upd Kd a0.toNatClampNeg (vp_nar .boolean (1 : Int32))))), (sea, .inr (3, [.ref lc, .ref ct, .ref ch])), (ct, .inl (cZ, 12, .inl Ct)), (ch, .inl (cV, 12, .inr (.inr (.inr (.inr (fun i => if i < 12 then some (rr i) else none)))))), (lc, .inl (cZ, 160, .inl Lc)), (pas, .inr (2, [.ref hot, .ref dp])), (hot, .inl (cI, 160, .inl u_23))] : va_W) ++ va_pl L f) H := hP
            have hD : va_D A (([(dp, .inl (cZ, 160, .inl (upd Kd a0.toNatClampNeg (vp_nar .boolean (1 : Int32))))), (sea, .inr (3, [.ref lc, .ref ct, .ref ch])), (ct, .inl (cZ, 12, .inl Ct)), (ch, .inl (cV, 12, .inr (.inr (.inr (.inr (fun i => if i < 12 then some (rr i) else none)))))), (lc, .inl (cZ, 160, .inl Lc)), (pas, .inr (2, [.ref hot, .ref dp])), (hot, .inl (cI, 160, .inl u_23))] : va_W) ++ va_pl L f) := hD
            try dsimp only at k_22
            obtain ⟨k_22, R_24⟩ := k_22
            obtain ⟨x_25, ex_25⟩ : ∃ y : Int32, y = iw + 1 := ⟨_, rfl⟩
            have tx_25 : x_25.toInt = iw.toInt + 1 := ad_k ex_25 rfl (by decide) (by omega) (by omega)
            refine lv_iinc (v := x_25) (lv' := [(5, .int x_25), (7, .int r_17), (6, .int r_8), (0, .ref pas), (1, .ref sea), (2, .ref a), (3, .int a0), (4, .int a1)]) hx hb dX1_leave_80 hl (k := 2) rfl (by rw [ex_25]; rfl) (by decide) rfl (fun ls hl => ?_)
            refine lv_goto (tgt := 21) hx hb dX1_leave_83 (by decide) ?_
            have hP : va_P (dC, dI) vwCl (([(pas, .inr (2, [.ref hot, .ref dp])), (hot, .inl (cI, 160, .inl u_23)), (dp, .inl (cZ, 160, .inl (upd Kd a0.toNatClampNeg (vp_nar .boolean (1 : Int32))))), (sea, .inr (3, [.ref lc, .ref ct, .ref ch])), (ct, .inl (cZ, 12, .inl Ct)), (ch, .inl (cV, 12, .inr (.inr (.inr (.inr (fun i => if i < 12 then some (rr i) else none)))))), (lc, .inl (cZ, 160, .inl Lc))] : va_W) ++ va_pl L f) H := va_P.part (X := [(dp, .inl (cZ, 160, .inl (upd Kd a0.toNatClampNeg (vp_nar .boolean (1 : Int32))))), (sea, .inr (3, [.ref lc, .ref ct, .ref ch])), (ct, .inl (cZ, 12, .inl Ct)), (ch, .inl (cV, 12, .inr (.inr (.inr (.inr (fun i => if i < 12 then some (rr i) else none)))))), (lc, .inl (cZ, 160, .inl Lc)), (pas, .inr (2, [.ref hot, .ref dp])), (hot, .inl (cI, 160, .inl u_23))]) hP [5, 6, 0, 1, 2, 3, 4] rfl
            have hD : va_D A (([(pas, .inr (2, [.ref hot, .ref dp])), (hot, .inl (cI, 160, .inl u_23)), (dp, .inl (cZ, 160, .inl (upd Kd a0.toNatClampNeg (vp_nar .boolean (1 : Int32))))), (sea, .inr (3, [.ref lc, .ref ct, .ref ch])), (ct, .inl (cZ, 12, .inl Ct)), (ch, .inl (cV, 12, .inr (.inr (.inr (.inr (fun i => if i < 12 then some (rr i) else none)))))), (lc, .inl (cZ, 160, .inl Lc))] : va_W) ++ va_pl L f) := va_D.part (X := [(dp, .inl (cZ, 160, .inl (upd Kd a0.toNatClampNeg (vp_nar .boolean (1 : Int32))))), (sea, .inr (3, [.ref lc, .ref ct, .ref ch])), (ct, .inl (cZ, 12, .inl Ct)), (ch, .inl (cV, 12, .inr (.inr (.inr (.inr (fun i => if i < 12 then some (rr i) else none)))))), (lc, .inl (cZ, 160, .inl Lc)), (pas, .inr (2, [.ref hot, .ref dp])), (hot, .inl (cI, 160, .inl u_23))]) hD [5, 6, 0, 1, 2, 3, 4] (by decide) rfl
            exact ih21 x_25 u_23 H locs ls ⟨(by first | omega | (simp only [Int32.reduceToInt]; omega)), (by first | omega | (simp only [Int32.reduceToInt]; omega))⟩ R_24 (rlxC_step (nr := r_8) (x := x_20) hrx (by omega) tx_25 (k_10 ⟨⟨by omega, by omega⟩, by omega, by omega⟩) ⟨by omega, by omega⟩ (by have := tn_k (i := a0) rfl (by omega); omega) k_22 (R_wh _ (by have := tn_k (i := r_8) rfl (by omega); omega)).2 (by rw [← rx_14]; exact come_FF hcp (by omega) (by omega) (by omega))) (by first | omega | (simp only [Int32.reduceToInt]; omega)) hP hD hS (lv_sub hl [0, 3, 4, 5, 6, 7] rfl)
    exact key21 9 0 Kh _ _ ls (by decide) R_Kh rfl (by (try simp only [Int32.reduceToInt]); omega) hP hD hS hl
  · skip
    have b_26 := b01n k_2 c_4
    (try simp only [Int32.lt_iff_toInt_lt, Int32.le_iff_toInt_le, ← Int32.toInt_inj, Int32.reduceToInt, zl1, zl2, zl3, zl4, zl9] at b_26)
    (try simp only [Int32.reduceToInt] at b_26)
    exfalso
    omega
set_option maxRecDepth 20000 in
theorem iw_X1_leastHours_X1 : ∀ w ∈ wsX10, w ∈ wsX1_leastHours := fun w h => (List.mem_cons_of_mem _ (List.mem_append_left _ (List.mem_append_left _ (List.mem_append_right _ h))))
set_option maxHeartbeats 4000000 in
set_option maxRecDepth 100000 in
/-- Passage.leastHours -/
theorem c_X1_leastHours (l : Launch) (dC : Nat → ClassId) (dI : Nat → Nat → Nat) (sz : Nat) (te : Nat) (ea : Nat) (so : Nat) (mi : Nat) (L : List Nat) (f : Nat → va_E) (pas : Nat) (hot : Nat) (dp : Nat) (Kh : Nat → Int32) (Kd : Nat → Int32) (Lc : Nat → Int32) (cI : ClassId) (sea : Nat) (lc : Nat) (ct : Nat) (ch : Nat) (rr : Nat → Nat) (cw : Nat → Nat → Int32) (Ct : Nat → Int32) (cZ : ClassId) (cB : ClassId) (cV : ClassId) (a : Nat) (oa : Nat) (ia : Nat) (v : Nat → Int32) (a0 : Int32) (a1 : Int32) (a2 : Int32) (i_a0 : 0 ≤ a0.toInt ∧ a0.toInt ≤ 159) (i_a1 : 0 ≤ a1.toInt ∧ a1.toInt ≤ 159) (i_a2 : 0 ≤ a2.toInt ∧ a2.toInt ≤ 98000) (hfo : 0 ≤ (v 6).toInt ∧ (v 6).toInt ≤ 9) (hsh : a ∈ L ∧ f a = .inr (4, [.int (v 0), .int (v 1), .int (v 2), .ref oa, .ref ia, .int (v 3), .int (v 4), .int (v 5), .int (v 6), .int (v 7), .int (v 8), .int (v 9), .int (v 10), .int (v 11)])) (hrows : Rows L f rr cB cw) : Met l yX1_leastHours wsX1_leastHours ({ frames := 5, cells := 0, slots := 0, locals := 123 }) (va_Pc [.ref pas, .ref sea, .ref a, .int a0, .int a1, .int a2] (fun U => U.heap.size = sz ∧ va_P (dC, dI) vwCl (([(pas, .inr (2, [.ref hot, .ref dp])), (hot, .inl (cI, 160, .inl Kh)), (dp, .inl (cZ, 160, .inl Kd)), (sea, .inr (3, [.ref lc, .ref ct, .ref ch])), (ct, .inl (cZ, 12, .inl Ct)), (ch, .inl (cV, 12, .inr (.inr (.inr (.inr (fun i => if i < 12 then some (rr i) else none)))))), (lc, .inl (cZ, 160, .inl Lc))] : va_W) ++ va_pl L f) U.heap ∧ va_K (dC, dI) vwCl [(cI, .int), (cZ, .boolean), (cB, .byte), (cV, .array .byte)] U ∧ NW U ∧ va_D (fun _ => True) (([(pas, .inr (2, [.ref hot, .ref dp])), (hot, .inl (cI, 160, .inl Kh)), (dp, .inl (cZ, 160, .inl Kd)), (sea, .inr (3, [.ref lc, .ref ct, .ref ch])), (ct, .inl (cZ, 12, .inl Ct)), (ch, .inl (cV, 12, .inr (.inr (.inr (.inr (fun i => if i < 12 then some (rr i) else none)))))), (lc, .inl (cZ, 160, .inl Lc))] : va_W) ++ va_pl L f) ∧ Zs te ea so mi (va_A (([(pas, .inr (2, [.ref hot, .ref dp])), (hot, .inl (cI, 160, .inl Kh)), (dp, .inl (cZ, 160, .inl Kd)), (sea, .inr (3, [.ref lc, .ref ct, .ref ch])), (ct, .inl (cZ, 12, .inl Ct)), (ch, .inl (cV, 12, .inr (.inr (.inr (.inr (fun i => if i < 12 then some (rr i) else none)))))), (lc, .inl (cZ, 160, .inl Lc))] : va_W) ++ va_pl L f) sz) U U.heap)) (va_Qi (fun (r : Int32) (u : (Nat → Int32) × (Nat → Int32)) => (r.toInt = lstF (runC (nextF Lc) (FFo (spF (v 1).toInt (v 6).toInt Ct cw) a2.toInt) a1.toInt 160 (h00 a0.toInt) (fun _ => 0)) a1.toInt)) (fun u t => va_P (dC, dI) vwCl (([(pas, .inr (2, [.ref hot, .ref dp])), (hot, .inl (cI, 160, .inl u.1)), (dp, .inl (cZ, 160, .inl u.2)), (sea, .inr (3, [.ref lc, .ref ct, .ref ch])), (ct, .inl (cZ, 12, .inl Ct)), (ch, .inl (cV, 12, .inr (.inr (.inr (.inr (fun i => if i < 12 then some (rr i) else none)))))), (lc, .inl (cZ, 160, .inl Lc))] : va_W) ++ va_pl L f) t.heap ∧ va_K (dC, dI) vwCl [(cI, .int), (cZ, .boolean), (cB, .byte), (cV, .array .byte)] t ∧ va_D (va_A (([(pas, .inr (2, [.ref hot, .ref dp])), (hot, .inl (cI, 160, .inl Kh)), (dp, .inl (cZ, 160, .inl Kd)), (sea, .inr (3, [.ref lc, .ref ct, .ref ch])), (ct, .inl (cZ, 12, .inl Ct)), (ch, .inl (cV, 12, .inr (.inr (.inr (.inr (fun i => if i < 12 then some (rr i) else none)))))), (lc, .inl (cZ, 160, .inl Lc))] : va_W) ++ va_pl L f) sz) (([(pas, .inr (2, [.ref hot, .ref dp])), (hot, .inl (cI, 160, .inl u.1)), (dp, .inl (cZ, 160, .inl u.2)), (sea, .inr (3, [.ref lc, .ref ct, .ref ch])), (ct, .inl (cZ, 12, .inl Ct)), (ch, .inl (cV, 12, .inr (.inr (.inr (.inr (fun i => if i < 12 then some (rr i) else none)))))), (lc, .inl (cZ, 160, .inl Lc))] : va_W) ++ va_pl L f)) (va_A (([(pas, .inr (2, [.ref hot, .ref dp])), (hot, .inl (cI, 160, .inl Kh)), (dp, .inl (cZ, 160, .inl Kd)), (sea, .inr (3, [.ref lc, .ref ct, .ref ch])), (ct, .inl (cZ, 12, .inl Ct)), (ch, .inl (cV, 12, .inr (.inr (.inr (.inr (fun i => if i < 12 then some (rr i) else none)))))), (lc, .inl (cZ, 160, .inl Lc))] : va_W) ++ va_pl L f) sz)) 0 0 (va_A (([(pas, .inr (2, [.ref hot, .ref dp])), (hot, .inl (cI, 160, .inl Kh)), (dp, .inl (cZ, 160, .inl Kd)), (sea, .inr (3, [.ref lc, .ref ct, .ref ch])), (ct, .inl (cZ, 12, .inl Ct)), (ch, .inl (cV, 12, .inr (.inr (.inr (.inr (fun i => if i < 12 then some (rr i) else none)))))), (lc, .inl (cZ, 160, .inl Lc))] : va_W) ++ va_pl L f) sz) := by
  refine Met.ofW (cc := cX1_leastHours) (maxL := 8) (ret := (some .int)) (by decide) rfl ?_
  intro p e s m args below meth c s₁ B hml hv
  obtain ⟨rfl, hsz, hP, hK, hN, hD0, hZ⟩ := hv
  have hx := B.exec
  have hb := B.bytes
  have hr := B.returns
  have hts := atoms_spec (ws := wsX1_leastHours) B.pre
  have hown : s.vm.findClass RX1 = some m.cls := findClass_of_methodNamed B.named
  have hlocks := B.notSynchronized
  subst hsz
  have hD := hD0.self (sz := s.heap.size)
  generalize hAe : va_A (([(pas, .inr (2, [.ref hot, .ref dp])), (hot, .inl (cI, 160, .inl Kh)), (dp, .inl (cZ, 160, .inl Kd)), (sea, .inr (3, [.ref lc, .ref ct, .ref ch])), (ct, .inl (cZ, 12, .inl Ct)), (ch, .inl (cV, 12, .inr (.inr (.inr (.inr (fun i => if i < 12 then some (rr i) else none)))))), (lc, .inl (cZ, 160, .inl Lc))] : va_W) ++ va_pl L f) s.heap.size = A at hD hZ ⊢
  have hA : ∀ q : Nat, s.heap.size ≤ q → A q := fun q h => by rw [← hAe]; exact Or.inr h
  have hS : va_S A s.heap s.heap [] := va_S.rf
  have hP : va_P (dC, dI) vwCl (([(pas, .inr (2, [.ref hot, .ref dp])), (hot, .inl (cI, 160, .inl Kh)), (dp, .inl (cZ, 160, .inl Kd)), (sea, .inr (3, [.ref lc, .ref ct, .ref ch])), (ct, .inl (cZ, 12, .inl Ct)), (ch, .inl (cV, 12, .inr (.inr (.inr (.inr (fun i => if i < 12 then some (rr i) else none)))))), (lc, .inl (cZ, 160, .inl Lc))] : va_W) ++ va_pl L f) s.heap := hP
  have hl := lv_entry ([.ref pas, .ref sea, .ref a, .int a0, .int a1, .int a2]) (n := 8) (Nat.le_of_ble_eq_true rfl)
  rw [lg_entry_eq]
  generalize (lg_sl ([.ref pas, .ref sea, .ref a, .int a0, .int a1, .int a2]) ++ List.replicate (8 - (lg_sl ([.ref pas, .ref sea, .ref a, .int a0, .int a1, .int a2])).length) Slot.unset).toArray = ls at hl ⊢
  have hl : lv_has ls 8 [(0, .ref pas), (1, .ref sea), (2, .ref a), (3, .int a0), (4, .int a1), (5, .int a2)] := hl
  refine lv_iload_n hx hb dX1_leastHours_0 rfl (lv_at hl 3 rfl) ?_
  refine lv_sipush (v := 159) hx hb dX1_leastHours_1 (by decide) ?_
  refine va_calli (va_runSN (As := [.int a0, .int 159]) (rest := []) ⟨hx, hb, hml, hown, hts⟩ (c_X5_outside l s.heap.size a0 159 ) ⟨va_cnB 2 hts gX1_leastHours_X5_outside_n19 rfl rfl rfl hN.nX1_19 (hts (.initialized RX5) (by decide +kernel)) (by decide +kernel) ⟨Nat.le_of_ble_eq_true rfl, Nat.le_of_ble_eq_true rfl⟩, hts (.static yX5_outside) (by decide +kernel), trivial⟩ ⟨fun a U g mk q => by obtain ⟨q0, q1⟩ := q; exact ⟨q0, q1⟩, fun U hU hW => ⟨rfl, congrArg Array.size hU⟩⟩ rfl rfl hl.1 rfl (lv_room (Nat.le_of_ble_eq_true rfl)) dX1_leastHours_4 ⟨(Nat.zero_le _), (Nat.zero_le _)⟩) hS (fun q _ h => ro_A hS hA q h) (ro_A hS hA) (fun r_1 u t H1 locs ht hvm k_2 hB hz1 hk1 hS => ?_)
  have hP := ro_P hk1 hP
  generalize H1 = H at hP hS ⊢
  try dsimp only at k_2
  obtain ⟨k_2, k_3⟩ := k_2
  refine lv_if_ne (tgt := 21) hx hb dX1_leastHours_7 (by decide) (fun c_4 => ?_) (fun c_4 => ?_)
  · skip
    have b_5 := b01n k_2 c_4
    (try simp only [Int32.lt_iff_toInt_lt, Int32.le_iff_toInt_le, ← Int32.toInt_inj, Int32.reduceToInt, zl1, zl2, zl3, zl4, zl9] at b_5)
    (try simp only [Int32.reduceToInt] at b_5)
    exfalso
    omega
  · skip
    have b_6 := b01z k_2 c_4
    (try simp only [Int32.lt_iff_toInt_lt, Int32.le_iff_toInt_le, ← Int32.toInt_inj, Int32.reduceToInt, zl1, zl2, zl3, zl4, zl9] at b_6)
    (try simp only [Int32.reduceToInt] at b_6)
    refine lv_iload hx hb dX1_leastHours_10 (lv_at hl 4 rfl) ?_
    refine lv_sipush (v := 159) hx hb dX1_leastHours_12 (by decide) ?_
    refine va_calli (va_runSN (As := [.int a1, .int 159]) (rest := []) ⟨hx, hb, hml, hown, hts⟩ (c_X5_outside l H.size a1 159 ) ⟨va_cnB 2 hts gX1_leastHours_X5_outside_n19 rfl rfl rfl hN.nX1_19 (hts (.initialized RX5) (by decide +kernel)) (by decide +kernel) ⟨Nat.le_of_ble_eq_true rfl, Nat.le_of_ble_eq_true rfl⟩, hts (.static yX5_outside) (by decide +kernel), trivial⟩ ⟨fun a U g mk q => by obtain ⟨q0, q1⟩ := q; exact ⟨q0, q1⟩, fun U hU hW => ⟨rfl, congrArg Array.size hU⟩⟩ rfl rfl hl.1 rfl (lv_room (Nat.le_of_ble_eq_true rfl)) dX1_leastHours_15 ⟨(Nat.zero_le _), (Nat.zero_le _)⟩) hS (fun q _ h => ro_A hS hA q h) (ro_A hS hA) (fun r_7 u t H1 locs ht hvm k_8 hB hz1 hk1 hS => ?_)
    have hP := ro_P hk1 hP
    generalize H1 = H at hP hS ⊢
    try dsimp only at k_8
    obtain ⟨k_8, k_9⟩ := k_8
    refine lv_if_eq (tgt := 24) hx hb dX1_leastHours_18 (by decide) (fun c_10 => ?_) (fun c_10 => ?_)
    · skip
      have b_11 := b01z k_8 c_10
      (try simp only [Int32.lt_iff_toInt_lt, Int32.le_iff_toInt_le, ← Int32.toInt_inj, Int32.reduceToInt, zl1, zl2, zl3, zl4, zl9] at b_11)
      (try simp only [Int32.reduceToInt] at b_11)
      refine lv_iconst (v := 0) hx hb dX1_leastHours_24 (by decide) ?_
      refine lv_istore (lv' := [(6, .int 0), (0, .ref pas), (1, .ref sea), (2, .ref a), (3, .int a0), (4, .int a1), (5, .int a2)]) hx hb dX1_leastHours_25 hl (by decide) rfl (fun ls hl => ?_)
      have key27 : ∀ (n27 : Nat) (ic : Int32) (wh wd : Nat → Int32) (H : Heap) (locs : List Loc) (ls : Array Slot), (0 ≤ ic.toInt ∧ ic.toInt ≤ 160) → (∀ j : Nat, (j : Int) < ic.toInt → (wh j).toInt = if (j : Int) = a0.toInt then 0 else 2001) → (∀ j : Nat, (j : Int) < ic.toInt → wd j = 0) → 160 - ic.toInt < (n27 : Int) → va_P (dC, dI) vwCl (([(pas, .inr (2, [.ref hot, .ref dp])), (hot, .inl (cI, 160, .inl wh)), (dp, .inl (cZ, 160, .inl wd)), (sea, .inr (3, [.ref lc, .ref ct, .ref ch])), (ct, .inl (cZ, 12, .inl Ct)), (ch, .inl (cV, 12, .inr (.inr (.inr (.inr (fun i => if i < 12 then some (rr i) else none)))))), (lc, .inl (cZ, 160, .inl Lc))] : va_W) ++ va_pl L f) H → va_D A (([(pas, .inr (2, [.ref hot, .ref dp])), (hot, .inl (cI, 160, .inl wh)), (dp, .inl (cZ, 160, .inl wd)), (sea, .inr (3, [.ref lc, .ref ct, .ref ch])), (ct, .inl (cZ, 12, .inl Ct)), (ch, .inl (cV, 12, .inr (.inr (.inr (.inr (fun i => if i < 12 then some (rr i) else none)))))), (lc, .inl (cZ, 160, .inl Lc))] : va_W) ++ va_pl L f) → va_S A s.heap H locs → lv_has ls 8 [(6, .int ic), (0, .ref pas), (1, .ref sea), (2, .ref a), (3, .int a0), (4, .int a1), (5, .int a2)] → W p l e ({ frames := 5, cells := 0, slots := 0, locals := 123 } : Room) s m ([.ref pas, .ref sea, .ref a, .int a0, .int a1, .int a2] : List Value).toArray below meth c H locs 0 0 (MQ below (va_Qi (fun (r : Int32) (u : (Nat → Int32) × (Nat → Int32)) => (r.toInt = lstF (runC (nextF Lc) (FFo (spF (v 1).toInt (v 6).toInt Ct cw) a2.toInt) a1.toInt 160 (h00 a0.toInt) (fun _ => 0)) a1.toInt)) (fun u t => va_P (dC, dI) vwCl (([(pas, .inr (2, [.ref hot, .ref dp])), (hot, .inl (cI, 160, .inl u.1)), (dp, .inl (cZ, 160, .inl u.2)), (sea, .inr (3, [.ref lc, .ref ct, .ref ch])), (ct, .inl (cZ, 12, .inl Ct)), (ch, .inl (cV, 12, .inr (.inr (.inr (.inr (fun i => if i < 12 then some (rr i) else none)))))), (lc, .inl (cZ, 160, .inl Lc))] : va_W) ++ va_pl L f) t.heap ∧ va_K (dC, dI) vwCl [(cI, .int), (cZ, .boolean), (cB, .byte), (cV, .array .byte)] t ∧ va_D A (([(pas, .inr (2, [.ref hot, .ref dp])), (hot, .inl (cI, 160, .inl u.1)), (dp, .inl (cZ, 160, .inl u.2)), (sea, .inr (3, [.ref lc, .ref ct, .ref ch])), (ct, .inl (cZ, 12, .inl Ct)), (ch, .inl (cV, 12, .inr (.inr (.inr (.inr (fun i => if i < 12 then some (rr i) else none)))))), (lc, .inl (cZ, 160, .inl Lc))] : va_W) ++ va_pl L f)) A) ([.ref pas, .ref sea, .ref a, .int a0, .int a1, .int a2] : List Value).toArray s 0 0 A) (F0 m 27 ls []) := by
        intro n27
        induction n27 with
        | zero =>
          intro ic wh wd H locs ls i_ic hz1 hz2 hm27
          exact absurd hm27 (by omega)
        | succ n27 ih27 =>
          intro ic wh wd H locs ls i_ic hz1 hz2 hm27 hP hD hS hl
          refine lv_iload hx hb dX1_leastHours_27 (lv_at hl 0 rfl) ?_
          refine lv_sipush (v := 160) hx hb dX1_leastHours_29 (by decide) ?_
          refine lv_icmp_ge (tgt := 69) hx hb dX1_leastHours_32 (by decide) (fun c_12 => ?_) (fun c_12 => ?_)
          · skip
            have qc_12 : 160 ≤ ic.toInt := le_k (by decide) rfl c_12
            refine lv_iconst (v := 0) hx hb dX1_leastHours_69 (by decide) ?_
            refine lv_istore (lv' := [(6, .int 0), (0, .ref pas), (1, .ref sea), (2, .ref a), (3, .int a0), (4, .int a1), (5, .int a2)]) hx hb dX1_leastHours_70 hl (by decide) rfl (fun ls hl => ?_)
            have key72 : ∀ (n72 : Nat) (tk : Int32) (wh2 wd2 : Nat → Int32) (H : Heap) (locs : List Loc) (ls : Array Slot), (0 ≤ tk.toInt ∧ tk.toInt ≤ 160) → Rg 160 0 2001 wh2 → (runC (nextF Lc) (FFo (spF (v 1).toInt (v 6).toInt Ct cw) a2.toInt) a1.toInt (160 - tk.toInt.toNat) (hI wh2) (sI wd2) = (runC (nextF Lc) (FFo (spF (v 1).toInt (v 6).toInt Ct cw) a2.toInt) a1.toInt 160 (h00 a0.toInt) (fun _ => 0))) → 160 - tk.toInt < (n72 : Int) → va_P (dC, dI) vwCl (([(pas, .inr (2, [.ref hot, .ref dp])), (hot, .inl (cI, 160, .inl wh2)), (dp, .inl (cZ, 160, .inl wd2)), (sea, .inr (3, [.ref lc, .ref ct, .ref ch])), (ct, .inl (cZ, 12, .inl Ct)), (ch, .inl (cV, 12, .inr (.inr (.inr (.inr (fun i => if i < 12 then some (rr i) else none)))))), (lc, .inl (cZ, 160, .inl Lc))] : va_W) ++ va_pl L f) H → va_D A (([(pas, .inr (2, [.ref hot, .ref dp])), (hot, .inl (cI, 160, .inl wh2)), (dp, .inl (cZ, 160, .inl wd2)), (sea, .inr (3, [.ref lc, .ref ct, .ref ch])), (ct, .inl (cZ, 12, .inl Ct)), (ch, .inl (cV, 12, .inr (.inr (.inr (.inr (fun i => if i < 12 then some (rr i) else none)))))), (lc, .inl (cZ, 160, .inl Lc))] : va_W) ++ va_pl L f) → va_S A s.heap H locs → lv_has ls 8 [(6, .int tk), (0, .ref pas), (1, .ref sea), (2, .ref a), (3, .int a0), (4, .int a1), (5, .int a2)] → W p l e ({ frames := 5, cells := 0, slots := 0, locals := 123 } : Room) s m ([.ref pas, .ref sea, .ref a, .int a0, .int a1, .int a2] : List Value).toArray below meth c H locs 0 0 (MQ below (va_Qi (fun (r : Int32) (u : (Nat → Int32) × (Nat → Int32)) => (r.toInt = lstF (runC (nextF Lc) (FFo (spF (v 1).toInt (v 6).toInt Ct cw) a2.toInt) a1.toInt 160 (h00 a0.toInt) (fun _ => 0)) a1.toInt)) (fun u t => va_P (dC, dI) vwCl (([(pas, .inr (2, [.ref hot, .ref dp])), (hot, .inl (cI, 160, .inl u.1)), (dp, .inl (cZ, 160, .inl u.2)), (sea, .inr (3, [.ref lc, .ref ct, .ref ch])), (ct, .inl (cZ, 12, .inl Ct)), (ch, .inl (cV, 12, .inr (.inr (.inr (.inr (fun i => if i < 12 then some (rr i) else none)))))), (lc, .inl (cZ, 160, .inl Lc))] : va_W) ++ va_pl L f) t.heap ∧ va_K (dC, dI) vwCl [(cI, .int), (cZ, .boolean), (cB, .byte), (cV, .array .byte)] t ∧ va_D A (([(pas, .inr (2, [.ref hot, .ref dp])), (hot, .inl (cI, 160, .inl u.1)), (dp, .inl (cZ, 160, .inl u.2)), (sea, .inr (3, [.ref lc, .ref ct, .ref ch])), (ct, .inl (cZ, 12, .inl Ct)), (ch, .inl (cV, 12, .inr (.inr (.inr (.inr (fun i => if i < 12 then some (rr i) else none)))))), (lc, .inl (cZ, 160, .inl Lc))] : va_W) ++ va_pl L f)) A) ([.ref pas, .ref sea, .ref a, .int a0, .int a1, .int a2] : List Value).toArray s 0 0 A) (F0 m 72 ls []) := by
              intro n72
              induction n72 with
              | zero =>
                intro tk wh2 wd2 H locs ls i_tk R_wh2 hrn hm72
                exact absurd hm72 (by omega)
              | succ n72 ih72 =>
                intro tk wh2 wd2 H locs ls i_tk R_wh2 hrn hm72 hP hD hS hl
                refine lv_iload hx hb dX1_leastHours_72 (lv_at hl 0 rfl) ?_
                refine lv_sipush (v := 160) hx hb dX1_leastHours_74 (by decide) ?_
                refine lv_icmp_ge (tgt := 119) hx hb dX1_leastHours_77 (by decide) (fun c_13 => ?_) (fun c_13 => ?_)
                · skip
                  have qc_13 : 160 ≤ tk.toInt := le_k (by decide) rfl c_13
                  refine lv_aload_n hx hb dX1_leastHours_119 rfl (lv_at hl 1 rfl) ?_
                  refine va_get (D := (dC, dI)) (ci := 2) (v := .ref hot) (C := RX1) (T := TX1) (N := 2) hx hb hts iw_X1_leastHours_X1 hown hK hP 0 rfl rfl 0 (by decide) (hts (.fieldLink RX1 9 "TeaRace$Passage" "hoursTo" "[I") (by decide +kernel)) (fun _ h9 => h9) rfl dX1_leastHours_120 ?_
                  refine lv_iload hx hb dX1_leastHours_123 (lv_at hl 5 rfl) ?_
                  refine va_iald hx hb hK hP 1 0 rfl rfl (in_k rfl (by omega) (by omega)) dX1_leastHours_125 ?_
                  refine lv_topi (fun x_14 ex_14 => ?_)
                  have rx_14 := congrArg Int32.toInt ex_14
                  have gx_14 : 0 ≤ x_14.toInt ∧ x_14.toInt ≤ 2001 := Rg.at R_wh2 rfl (by omega) (by omega) ex_14
                  refine lv_sipush (v := 2001) hx hb dX1_leastHours_126 (by decide) ?_
                  refine lv_icmp_ne (tgt := 137) hx hb dX1_leastHours_129 (by decide) (fun c_15 => ?_) (fun c_15 => ?_)
                  · skip
                    have qc_15 : x_14.toInt ≠ 2001 := ne_k rfl (by decide) c_15
                    refine lv_aload_n hx hb dX1_leastHours_137 rfl (lv_at hl 1 rfl) ?_
                    refine va_get (D := (dC, dI)) (ci := 2) (v := .ref hot) (C := RX1) (T := TX1) (N := 2) hx hb hts iw_X1_leastHours_X1 hown hK hP 0 rfl rfl 0 (by decide) (hts (.fieldLink RX1 9 "TeaRace$Passage" "hoursTo" "[I") (by decide +kernel)) (fun _ h9 => h9) rfl dX1_leastHours_138 ?_
                    refine lv_iload hx hb dX1_leastHours_141 (lv_at hl 5 rfl) ?_
                    refine va_iald hx hb hK hP 1 0 rfl rfl (in_k rfl (by omega) (by omega)) dX1_leastHours_143 ?_
                    refine lv_topi (fun x_16 ex_16 => ?_)
                    have rx_16 := congrArg Int32.toInt ex_16
                    obtain rfl : x_14 = x_16 := ex_14.trans ex_16.symm
                    have hP9 : va_P (dC, dI) vwCl (([(pas, .inr (2, [.ref hot, .ref dp])), (hot, .inl (cI, 160, .inl wh2)), (dp, .inl (cZ, 160, .inl wd2)), (sea, .inr (3, [.ref lc, .ref ct, .ref ch])), (ct, .inl (cZ, 12, .inl Ct)), (ch, .inl (cV, 12, .inr (.inr (.inr (.inr (fun i => if i < 12 then some (rr i) else none)))))), (lc, .inl (cZ, 160, .inl Lc))] : va_W) ++ va_pl L f) H := va_P.part (X := [(pas, .inr (2, [.ref hot, .ref dp])), (hot, .inl (cI, 160, .inl wh2)), (dp, .inl (cZ, 160, .inl wd2)), (sea, .inr (3, [.ref lc, .ref ct, .ref ch])), (ct, .inl (cZ, 12, .inl Ct)), (ch, .inl (cV, 12, .inr (.inr (.inr (.inr (fun i => if i < 12 then some (rr i) else none)))))), (lc, .inl (cZ, 160, .inl Lc))]) hP [0, 1, 2, 3, 4, 5, 6] rfl
                    have hD9 : va_D A (([(pas, .inr (2, [.ref hot, .ref dp])), (hot, .inl (cI, 160, .inl wh2)), (dp, .inl (cZ, 160, .inl wd2)), (sea, .inr (3, [.ref lc, .ref ct, .ref ch])), (ct, .inl (cZ, 12, .inl Ct)), (ch, .inl (cV, 12, .inr (.inr (.inr (.inr (fun i => if i < 12 then some (rr i) else none)))))), (lc, .inl (cZ, 160, .inl Lc))] : va_W) ++ va_pl L f) := va_D.part (X := [(pas, .inr (2, [.ref hot, .ref dp])), (hot, .inl (cI, 160, .inl wh2)), (dp, .inl (cZ, 160, .inl wd2)), (sea, .inr (3, [.ref lc, .ref ct, .ref ch])), (ct, .inl (cZ, 12, .inl Ct)), (ch, .inl (cV, 12, .inr (.inr (.inr (.inr (fun i => if i < 12 then some (rr i) else none)))))), (lc, .inl (cZ, 160, .inl Lc))]) hD [0, 1, 2, 3, 4, 5, 6] (by decide) rfl
                    have hK9 := hK.sub (tys' := [(cI, .int), (cZ, .boolean), (cB, .byte), (cV, .array .byte)]) [0, 1, 2, 3] rfl
                    exact W.iret (v := x_14) hx hb hr (fun t ht hW => ⟨⟨x_14, (wh2, wd2), rfl, (least_end (x := x_14) (by have h9 := hrn; rewrite [show 160 - tk.toInt.toNat = 0 by omega] at h9; exact h9) ⟨by omega, by omega⟩ rx_14 (by (try simp only [Int32.reduceToInt]); (repeat' split) <;> omega)), ⟨by rw [ht]; exact hP9, va_K.moved hW.alike hK9, hD9⟩⟩, hS.F ht⟩) hS.2.2 dX1_leastHours_144
                  · skip
                    have qc_15 : x_14.toInt = 2001 := eq_k rfl (by decide) c_15
                    refine lv_bipush (v := (-9)) hx hb dX1_leastHours_132 (by decide) ?_
                    refine lv_goto (tgt := 144) hx hb dX1_leastHours_134 (by decide) ?_
                    have hP9 : va_P (dC, dI) vwCl (([(pas, .inr (2, [.ref hot, .ref dp])), (hot, .inl (cI, 160, .inl wh2)), (dp, .inl (cZ, 160, .inl wd2)), (sea, .inr (3, [.ref lc, .ref ct, .ref ch])), (ct, .inl (cZ, 12, .inl Ct)), (ch, .inl (cV, 12, .inr (.inr (.inr (.inr (fun i => if i < 12 then some (rr i) else none)))))), (lc, .inl (cZ, 160, .inl Lc))] : va_W) ++ va_pl L f) H := va_P.part (X := [(pas, .inr (2, [.ref hot, .ref dp])), (hot, .inl (cI, 160, .inl wh2)), (dp, .inl (cZ, 160, .inl wd2)), (sea, .inr (3, [.ref lc, .ref ct, .ref ch])), (ct, .inl (cZ, 12, .inl Ct)), (ch, .inl (cV, 12, .inr (.inr (.inr (.inr (fun i => if i < 12 then some (rr i) else none)))))), (lc, .inl (cZ, 160, .inl Lc))]) hP [0, 1, 2, 3, 4, 5, 6] rfl
                    have hD9 : va_D A (([(pas, .inr (2, [.ref hot, .ref dp])), (hot, .inl (cI, 160, .inl wh2)), (dp, .inl (cZ, 160, .inl wd2)), (sea, .inr (3, [.ref lc, .ref ct, .ref ch])), (ct, .inl (cZ, 12, .inl Ct)), (ch, .inl (cV, 12, .inr (.inr (.inr (.inr (fun i => if i < 12 then some (rr i) else none)))))), (lc, .inl (cZ, 160, .inl Lc))] : va_W) ++ va_pl L f) := va_D.part (X := [(pas, .inr (2, [.ref hot, .ref dp])), (hot, .inl (cI, 160, .inl wh2)), (dp, .inl (cZ, 160, .inl wd2)), (sea, .inr (3, [.ref lc, .ref ct, .ref ch])), (ct, .inl (cZ, 12, .inl Ct)), (ch, .inl (cV, 12, .inr (.inr (.inr (.inr (fun i => if i < 12 then some (rr i) else none)))))), (lc, .inl (cZ, 160, .inl Lc))]) hD [0, 1, 2, 3, 4, 5, 6] (by decide) rfl
                    have hK9 := hK.sub (tys' := [(cI, .int), (cZ, .boolean), (cB, .byte), (cV, .array .byte)]) [0, 1, 2, 3] rfl
                    have hv9 : (-9 : Int32).toInt = (-9) := by decide
                    exact W.iret (v := (-9)) hx hb hr (fun t ht hW => ⟨⟨(-9), (wh2, wd2), rfl, (least_end (x := x_14) (by have h9 := hrn; rewrite [show 160 - tk.toInt.toNat = 0 by omega] at h9; exact h9) ⟨by omega, by omega⟩ rx_14 (by (try simp only [Int32.reduceToInt]); (repeat' split) <;> omega)), ⟨by rw [ht]; exact hP9, va_K.moved hW.alike hK9, hD9⟩⟩, hS.F ht⟩) hS.2.2 dX1_leastHours_144
                · skip
                  have qc_13 : tk.toInt < 160 := nle_k (by decide) rfl c_13
                  refine lv_aload_n hx hb dX1_leastHours_80 rfl (lv_at hl 1 rfl) ?_
                  have hPc := hP.sub (ws' := [(pas, .inr (2, [.ref hot, .ref dp])), (hot, .inl (cI, 160, .inl wh2)), (dp, .inl (cZ, 160, .inl wd2))]) [0, 1, 2] rfl
                  have hKc := hK.sub (tys' := [(cI, .int), (cZ, .boolean)]) [0, 1] rfl
                  refine va_calli (va_runV (As := []) (rest := []) ⟨hx, hb, hml, hown, hts⟩ (c_X1_earliestCell l dC dI H.size pas hot dp wh2 wd2 cI cZ R_wh2) (cwV 0 hts gX1_leastHours_X1_earliestCell rfl rfl rfl (by decide +kernel) ⟨Nat.le_of_ble_eq_true rfl, Nat.le_of_ble_eq_true rfl⟩) ⟨fun a U g mk q => by obtain ⟨q0, q1, qP, qK, qN⟩ := q; exact ⟨q0, q1, qP, va_K.moved (u := U) (U := U.calling g mk a) (Vm.Alike.refl U.vm) qK, NW.same (u := U) (U := U.calling g mk a) rfl qN⟩, va_recv hKc hPc (ci := 2) (q0 := 0) rfl rfl, fun U hU hW => ⟨rfl, by rw [hU], by rw [hU]; exact hPc, va_K.moved hW.alike hKc, NW.warm hW hN⟩⟩ rfl rfl hl.1 rfl (lv_room (Nat.le_of_ble_eq_true rfl)) dX1_leastHours_81 ⟨(Nat.zero_le _), (Nat.zero_le _)⟩) hS (fun q _ h => ro_A hS hA q h) (ro_A hS hA) (fun r_17 u t H1 locs ht hvm k_18 hB hz1 hk1 hS => ?_)
                  have hP := ro_P hk1 hP
                  generalize H1 = H at hP hS ⊢
                  try dsimp only at k_18
                  obtain ⟨k_18, k_19, k_20⟩ := k_18
                  refine lv_istore (lv' := [(7, .int r_17), (6, .int tk), (0, .ref pas), (1, .ref sea), (2, .ref a), (3, .int a0), (4, .int a1), (5, .int a2)]) hx hb dX1_leastHours_84 hl (by decide) rfl (fun ls hl => ?_)
                  refine lv_iload hx hb dX1_leastHours_86 (lv_at hl 0 rfl) ?_
                  refine lv_bipush (v := (-9)) hx hb dX1_leastHours_88 (by decide) ?_
                  refine lv_icmp_eq (tgt := 119) hx hb dX1_leastHours_90 (by decide) (fun c_21 => ?_) (fun c_21 => ?_)
                  · skip
                    have qc_21 : r_17.toInt = (-9) := eq_k rfl (by decide) c_21
                    refine lv_aload_n hx hb dX1_leastHours_119 rfl (lv_at hl 2 rfl) ?_
                    refine va_get (D := (dC, dI)) (ci := 2) (v := .ref hot) (C := RX1) (T := TX1) (N := 2) hx hb hts iw_X1_leastHours_X1 hown hK hP 0 rfl rfl 0 (by decide) (hts (.fieldLink RX1 9 "TeaRace$Passage" "hoursTo" "[I") (by decide +kernel)) (fun _ h9 => h9) rfl dX1_leastHours_120 ?_
                    refine lv_iload hx hb dX1_leastHours_123 (lv_at hl 6 rfl) ?_
                    refine va_iald hx hb hK hP 1 0 rfl rfl (in_k rfl (by omega) (by omega)) dX1_leastHours_125 ?_
                    refine lv_topi (fun x_22 ex_22 => ?_)
                    have rx_22 := congrArg Int32.toInt ex_22
                    have gx_22 : 0 ≤ x_22.toInt ∧ x_22.toInt ≤ 2001 := Rg.at R_wh2 rfl (by omega) (by omega) ex_22
                    refine lv_sipush (v := 2001) hx hb dX1_leastHours_126 (by decide) ?_
                    refine lv_icmp_ne (tgt := 137) hx hb dX1_leastHours_129 (by decide) (fun c_23 => ?_) (fun c_23 => ?_)
                    · skip
                      have qc_23 : x_22.toInt ≠ 2001 := ne_k rfl (by decide) c_23
                      refine lv_aload_n hx hb dX1_leastHours_137 rfl (lv_at hl 2 rfl) ?_
                      refine va_get (D := (dC, dI)) (ci := 2) (v := .ref hot) (C := RX1) (T := TX1) (N := 2) hx hb hts iw_X1_leastHours_X1 hown hK hP 0 rfl rfl 0 (by decide) (hts (.fieldLink RX1 9 "TeaRace$Passage" "hoursTo" "[I") (by decide +kernel)) (fun _ h9 => h9) rfl dX1_leastHours_138 ?_
                      refine lv_iload hx hb dX1_leastHours_141 (lv_at hl 6 rfl) ?_
                      refine va_iald hx hb hK hP 1 0 rfl rfl (in_k rfl (by omega) (by omega)) dX1_leastHours_143 ?_
                      refine lv_topi (fun x_24 ex_24 => ?_)
                      have rx_24 := congrArg Int32.toInt ex_24
                      obtain rfl : x_22 = x_24 := ex_22.trans ex_24.symm
                      have hP9 : va_P (dC, dI) vwCl (([(pas, .inr (2, [.ref hot, .ref dp])), (hot, .inl (cI, 160, .inl wh2)), (dp, .inl (cZ, 160, .inl wd2)), (sea, .inr (3, [.ref lc, .ref ct, .ref ch])), (ct, .inl (cZ, 12, .inl Ct)), (ch, .inl (cV, 12, .inr (.inr (.inr (.inr (fun i => if i < 12 then some (rr i) else none)))))), (lc, .inl (cZ, 160, .inl Lc))] : va_W) ++ va_pl L f) H := va_P.part (X := [(pas, .inr (2, [.ref hot, .ref dp])), (hot, .inl (cI, 160, .inl wh2)), (dp, .inl (cZ, 160, .inl wd2)), (sea, .inr (3, [.ref lc, .ref ct, .ref ch])), (ct, .inl (cZ, 12, .inl Ct)), (ch, .inl (cV, 12, .inr (.inr (.inr (.inr (fun i => if i < 12 then some (rr i) else none)))))), (lc, .inl (cZ, 160, .inl Lc))]) hP [0, 1, 2, 3, 4, 5, 6] rfl
                      have hD9 : va_D A (([(pas, .inr (2, [.ref hot, .ref dp])), (hot, .inl (cI, 160, .inl wh2)), (dp, .inl (cZ, 160, .inl wd2)), (sea, .inr (3, [.ref lc, .ref ct, .ref ch])), (ct, .inl (cZ, 12, .inl Ct)), (ch, .inl (cV, 12, .inr (.inr (.inr (.inr (fun i => if i < 12 then some (rr i) else none)))))), (lc, .inl (cZ, 160, .inl Lc))] : va_W) ++ va_pl L f) := va_D.part (X := [(pas, .inr (2, [.ref hot, .ref dp])), (hot, .inl (cI, 160, .inl wh2)), (dp, .inl (cZ, 160, .inl wd2)), (sea, .inr (3, [.ref lc, .ref ct, .ref ch])), (ct, .inl (cZ, 12, .inl Ct)), (ch, .inl (cV, 12, .inr (.inr (.inr (.inr (fun i => if i < 12 then some (rr i) else none)))))), (lc, .inl (cZ, 160, .inl Lc))]) hD [0, 1, 2, 3, 4, 5, 6] (by decide) rfl
                      have hK9 := hK.sub (tys' := [(cI, .int), (cZ, .boolean), (cB, .byte), (cV, .array .byte)]) [0, 1, 2, 3] rfl
                      exact W.iret (v := x_22) hx hb hr (fun t ht hW => ⟨⟨x_22, (wh2, wd2), rfl, (least_end (x := x_22) ((runC_stop (by rw [← k_18]; omega)).symm.trans hrn) ⟨by omega, by omega⟩ rx_22 (by (try simp only [Int32.reduceToInt]); (repeat' split) <;> omega)), ⟨by rw [ht]; exact hP9, va_K.moved hW.alike hK9, hD9⟩⟩, hS.F ht⟩) hS.2.2 dX1_leastHours_144
                    · skip
                      have qc_23 : x_22.toInt = 2001 := eq_k rfl (by decide) c_23
                      refine lv_bipush (v := (-9)) hx hb dX1_leastHours_132 (by decide) ?_
                      refine lv_goto (tgt := 144) hx hb dX1_leastHours_134 (by decide) ?_
                      have hP9 : va_P (dC, dI) vwCl (([(pas, .inr (2, [.ref hot, .ref dp])), (hot, .inl (cI, 160, .inl wh2)), (dp, .inl (cZ, 160, .inl wd2)), (sea, .inr (3, [.ref lc, .ref ct, .ref ch])), (ct, .inl (cZ, 12, .inl Ct)), (ch, .inl (cV, 12, .inr (.inr (.inr (.inr (fun i => if i < 12 then some (rr i) else none)))))), (lc, .inl (cZ, 160, .inl Lc))] : va_W) ++ va_pl L f) H := va_P.part (X := [(pas, .inr (2, [.ref hot, .ref dp])), (hot, .inl (cI, 160, .inl wh2)), (dp, .inl (cZ, 160, .inl wd2)), (sea, .inr (3, [.ref lc, .ref ct, .ref ch])), (ct, .inl (cZ, 12, .inl Ct)), (ch, .inl (cV, 12, .inr (.inr (.inr (.inr (fun i => if i < 12 then some (rr i) else none)))))), (lc, .inl (cZ, 160, .inl Lc))]) hP [0, 1, 2, 3, 4, 5, 6] rfl
                      have hD9 : va_D A (([(pas, .inr (2, [.ref hot, .ref dp])), (hot, .inl (cI, 160, .inl wh2)), (dp, .inl (cZ, 160, .inl wd2)), (sea, .inr (3, [.ref lc, .ref ct, .ref ch])), (ct, .inl (cZ, 12, .inl Ct)), (ch, .inl (cV, 12, .inr (.inr (.inr (.inr (fun i => if i < 12 then some (rr i) else none)))))), (lc, .inl (cZ, 160, .inl Lc))] : va_W) ++ va_pl L f) := va_D.part (X := [(pas, .inr (2, [.ref hot, .ref dp])), (hot, .inl (cI, 160, .inl wh2)), (dp, .inl (cZ, 160, .inl wd2)), (sea, .inr (3, [.ref lc, .ref ct, .ref ch])), (ct, .inl (cZ, 12, .inl Ct)), (ch, .inl (cV, 12, .inr (.inr (.inr (.inr (fun i => if i < 12 then some (rr i) else none)))))), (lc, .inl (cZ, 160, .inl Lc))]) hD [0, 1, 2, 3, 4, 5, 6] (by decide) rfl
                      have hK9 := hK.sub (tys' := [(cI, .int), (cZ, .boolean), (cB, .byte), (cV, .array .byte)]) [0, 1, 2, 3] rfl
                      have hv9 : (-9 : Int32).toInt = (-9) := by decide
                      exact W.iret (v := (-9)) hx hb hr (fun t ht hW => ⟨⟨(-9), (wh2, wd2), rfl, (least_end (x := x_22) ((runC_stop (by rw [← k_18]; omega)).symm.trans hrn) ⟨by omega, by omega⟩ rx_22 (by (try simp only [Int32.reduceToInt]); (repeat' split) <;> omega)), ⟨by rw [ht]; exact hP9, va_K.moved hW.alike hK9, hD9⟩⟩, hS.F ht⟩) hS.2.2 dX1_leastHours_144
                  · skip
                    have qc_21 : r_17.toInt ≠ (-9) := ne_k rfl (by decide) c_21
                    refine lv_iload hx hb dX1_leastHours_93 (lv_at hl 0 rfl) ?_
                    refine lv_iload hx hb dX1_leastHours_95 (lv_at hl 6 rfl) ?_
                    refine lv_icmp_ne (tgt := 103) hx hb dX1_leastHours_97 (by decide) (fun c_25 => ?_) (fun c_25 => ?_)
                    · skip
                      have qc_25 : r_17.toInt ≠ a1.toInt := ne_k rfl rfl c_25
                      have h103 := pick_spec (h := hI wh2) (s := sI wd2) (n := 160) (by rw [← k_18]; omega)
                      have hc20 : (wh2 r_17.toNatClampNeg).toInt ≤ 2000 := (by have h2 := h103.2.1; rewrite [← k_18, hI_at (by show r_17.toInt.toNat < 160; omega)] at h2; exact h2)
                      refine lv_aload_n hx hb dX1_leastHours_103 rfl (lv_at hl 2 rfl) ?_
                      refine lv_aload_n hx hb dX1_leastHours_104 rfl (lv_at hl 3 rfl) ?_
                      refine lv_aload_n hx hb dX1_leastHours_105 rfl (lv_at hl 4 rfl) ?_
                      refine lv_iload hx hb dX1_leastHours_106 (lv_at hl 0 rfl) ?_
                      refine lv_iload hx hb dX1_leastHours_108 (lv_at hl 7 rfl) ?_
                      have hPc : va_P (dC, dI) vwCl (([(pas, .inr (2, [.ref hot, .ref dp])), (hot, .inl (cI, 160, .inl wh2)), (dp, .inl (cZ, 160, .inl wd2)), (sea, .inr (3, [.ref lc, .ref ct, .ref ch])), (ct, .inl (cZ, 12, .inl Ct)), (ch, .inl (cV, 12, .inr (.inr (.inr (.inr (fun i => if i < 12 then some (rr i) else none)))))), (lc, .inl (cZ, 160, .inl Lc))] : va_W) ++ va_pl L f) H := va_P.part (X := [(pas, .inr (2, [.ref hot, .ref dp])), (hot, .inl (cI, 160, .inl wh2)), (dp, .inl (cZ, 160, .inl wd2)), (sea, .inr (3, [.ref lc, .ref ct, .ref ch])), (ct, .inl (cZ, 12, .inl Ct)), (ch, .inl (cV, 12, .inr (.inr (.inr (.inr (fun i => if i < 12 then some (rr i) else none)))))), (lc, .inl (cZ, 160, .inl Lc))]) hP [0, 1, 2, 3, 4, 5, 6] rfl
                      have hDc : va_D A (([(pas, .inr (2, [.ref hot, .ref dp])), (hot, .inl (cI, 160, .inl wh2)), (dp, .inl (cZ, 160, .inl wd2)), (sea, .inr (3, [.ref lc, .ref ct, .ref ch])), (ct, .inl (cZ, 12, .inl Ct)), (ch, .inl (cV, 12, .inr (.inr (.inr (.inr (fun i => if i < 12 then some (rr i) else none)))))), (lc, .inl (cZ, 160, .inl Lc))] : va_W) ++ va_pl L f) := va_D.part (X := [(pas, .inr (2, [.ref hot, .ref dp])), (hot, .inl (cI, 160, .inl wh2)), (dp, .inl (cZ, 160, .inl wd2)), (sea, .inr (3, [.ref lc, .ref ct, .ref ch])), (ct, .inl (cZ, 12, .inl Ct)), (ch, .inl (cV, 12, .inr (.inr (.inr (.inr (fun i => if i < 12 then some (rr i) else none)))))), (lc, .inl (cZ, 160, .inl Lc))]) hD [0, 1, 2, 3, 4, 5, 6] (by decide) rfl
                      have hKc := hK.sub (tys' := [(cI, .int), (cZ, .boolean), (cB, .byte), (cV, .array .byte)]) [0, 1, 2, 3] rfl
                      have hFc := va_freeP (X := [(pas, .inr (2, [.ref hot, .ref dp])), (hot, .inl (cI, 160, .inl wh2)), (dp, .inl (cZ, 160, .inl wd2)), (sea, .inr (3, [.ref lc, .ref ct, .ref ch])), (ct, .inl (cZ, 12, .inl Ct)), (ch, .inl (cV, 12, .inr (.inr (.inr (.inr (fun i => if i < 12 then some (rr i) else none)))))), (lc, .inl (cZ, 160, .inl Lc))]) (cx := [(pas, .inr (2, [.ref hot, .ref dp])), (hot, .inl (cI, 160, .inl wh2)), (dp, .inl (cZ, 160, .inl wd2)), (sea, .inr (3, [.ref lc, .ref ct, .ref ch])), (ct, .inl (cZ, 12, .inl Ct)), (ch, .inl (cV, 12, .inr (.inr (.inr (.inr (fun i => if i < 12 then some (rr i) else none)))))), (lc, .inl (cZ, 160, .inl Lc))]) hD hS hA [0, 1, 2, 3, 4, 5, 6] rfl
                      refine va_callv (va_runV (As := [.ref sea, .ref a, .int r_17, .int a2]) (rest := []) ⟨hx, hb, hml, hown, hts⟩ (c_X1_leave l dC dI H.size te ea so mi L f pas hot dp wh2 wd2 Lc cI sea lc ct ch rr cw Ct cZ cB cV a oa ia v r_17 a2 ⟨(by omega), (by omega)⟩ ⟨(by omega), (by omega)⟩ R_wh2 (by omega) (by omega) ⟨hsh.1, hsh.2⟩ hrows) (cwV 4 hts gX1_leastHours_X1_leave rfl rfl rfl (by decide +kernel) ⟨Nat.le_of_ble_eq_true rfl, Nat.le_of_ble_eq_true rfl⟩) ⟨fun a U g mk q => by obtain ⟨q0, q1, qP, qK, qN, qD, qZ⟩ := q; exact ⟨q0, q1, qP, va_K.moved (u := U) (U := U.calling g mk a) (Vm.Alike.refl U.vm) qK, NW.same (u := U) (U := U.calling g mk a) rfl qN, qD, Zs.moved (u := U) (U := U.calling g mk a) (Vm.Alike.refl U.vm) qZ⟩, va_recv hKc hPc (ci := 2) (q0 := 0) rfl rfl, fun U hU hW => ⟨rfl, by rw [hU], by rw [hU]; exact hPc, va_K.moved hW.alike hKc, NW.warm hW hN, hDc.weaken (fun _ _ _ _ => trivial), by rw [hU]; exact Zs.pass hZ hS.2.1 hFc hW.alike⟩⟩ rfl rfl hl.1 rfl (lv_room (Nat.le_of_ble_eq_true rfl)) dX1_leastHours_110 ⟨(Nat.zero_le _), (Nat.zero_le _)⟩) hS (fun q _ h => hFc q h) hFc (fun u t H1 locs ht hvm k_27 hB hz1 hk1 hS => ?_)
                      obtain ⟨u_28, u_29⟩ := u
                      obtain ⟨hP1, hK1, hD1⟩ := hB
                      rw [ht] at hP1
                      have hK1 := va_K.moved hvm.symm hK1
                      obtain ⟨hP, hD⟩ := va_joinP (X := [(pas, .inr (2, [.ref hot, .ref dp])), (hot, .inl (cI, 160, .inl wh2)), (dp, .inl (cZ, 160, .inl wd2)), (sea, .inr (3, [.ref lc, .ref ct, .ref ch])), (ct, .inl (cZ, 12, .inl Ct)), (ch, .inl (cV, 12, .inr (.inr (.inr (.inr (fun i => if i < 12 then some (rr i) else none)))))), (lc, .inl (cZ, 160, .inl Lc))]) (cx := [(pas, .inr (2, [.ref hot, .ref dp])), (hot, .inl (cI, 160, .inl wh2)), (dp, .inl (cZ, 160, .inl wd2)), (sea, .inr (3, [.ref lc, .ref ct, .ref ch])), (ct, .inl (cZ, 12, .inl Ct)), (ch, .inl (cV, 12, .inr (.inr (.inr (.inr (fun i => if i < 12 then some (rr i) else none)))))), (lc, .inl (cZ, 160, .inl Lc))]) (wr := []) (rx := [(pas, .inr (2, [.ref hot, .ref dp])), (hot, .inl (cI, 160, .inl u_28)), (dp, .inl (cZ, 160, .inl u_29)), (sea, .inr (3, [.ref lc, .ref ct, .ref ch])), (ct, .inl (cZ, 12, .inl Ct)), (ch, .inl (cV, 12, .inr (.inr (.inr (.inr (fun i => if i < 12 then some (rr i) else none)))))), (lc, .inl (cZ, 160, .inl Lc))]) hP hD [0, 1, 2, 3, 4, 5, 6] [] rfl rfl (by decide) (by decide) hk1 hFc hP1 hD1
                      generalize H1 = H at hP hS ⊢
                      have hP : va_P (dC, dI) vwCl (([(pas, .inr (2, [.ref hot, .ref dp])), (hot, .inl (cI, 160, .inl u_28)), (dp, .inl (cZ, 160, .inl u_29)), (sea, .inr (3, [.ref lc, .ref ct, .ref ch])), (ct, .inl (cZ, 12, .inl Ct)), (ch, .inl (cV, 12, .inr (.inr (.inr (.inr (fun i => if i < 12 then some (rr i) else none)))))), (lc, .inl (cZ, 160, .inl Lc))] : va_W) ++ va_pl L f) H := hP
                      have hD : va_D A (([(pas, .inr (2, [.ref hot, .ref dp])), (hot, .inl (cI, 160, .inl u_28)), (dp, .inl (cZ, 160, .inl u_29)), (sea, .inr (3, [.ref lc, .ref ct, .ref ch])), (ct, .inl (cZ, 12, .inl Ct)), (ch, .inl (cV, 12, .inr (.inr (.inr (.inr (fun i => if i < 12 then some (rr i) else none)))))), (lc, .inl (cZ, 160, .inl Lc))] : va_W) ++ va_pl L f) := hD
                      try dsimp only at k_27
                      obtain ⟨k_27, k_30, R_31⟩ := k_27
                      obtain ⟨x_32, ex_32⟩ : ∃ y : Int32, y = tk + 1 := ⟨_, rfl⟩
                      have tx_32 : x_32.toInt = tk.toInt + 1 := ad_k ex_32 rfl (by decide) (by omega) (by omega)
                      refine lv_iinc (v := x_32) (lv' := [(6, .int x_32), (7, .int r_17), (0, .ref pas), (1, .ref sea), (2, .ref a), (3, .int a0), (4, .int a1), (5, .int a2)]) hx hb dX1_leastHours_113 hl (k := 1) rfl (by rw [ex_32]; rfl) (by decide) rfl (fun ls hl => ?_)
                      refine lv_goto (tgt := 72) hx hb dX1_leastHours_116 (by decide) ?_
                      exact ih72 x_32 u_28 u_29 H locs ls ⟨(by first | omega | (simp only [Int32.reduceToInt]; omega)), (by first | omega | (simp only [Int32.reduceToInt]; omega))⟩ R_31 (by rw [k_30]; exact runC_next (p := r_17) hrn ⟨by omega, by omega⟩ tx_32 k_18 (by omega) (by omega) (by decide) k_27) (by first | omega | (simp only [Int32.reduceToInt]; omega)) hP hD hS (lv_sub hl [0, 2, 3, 4, 5, 6, 7] rfl)
                    · skip
                      have qc_25 : r_17.toInt = a1.toInt := eq_k rfl rfl c_25
                      refine lv_goto (tgt := 119) hx hb dX1_leastHours_100 (by decide) ?_
                      refine lv_aload_n hx hb dX1_leastHours_119 rfl (lv_at hl 2 rfl) ?_
                      refine va_get (D := (dC, dI)) (ci := 2) (v := .ref hot) (C := RX1) (T := TX1) (N := 2) hx hb hts iw_X1_leastHours_X1 hown hK hP 0 rfl rfl 0 (by decide) (hts (.fieldLink RX1 9 "TeaRace$Passage" "hoursTo" "[I") (by decide +kernel)) (fun _ h9 => h9) rfl dX1_leastHours_120 ?_
                      refine lv_iload hx hb dX1_leastHours_123 (lv_at hl 6 rfl) ?_
                      refine va_iald hx hb hK hP 1 0 rfl rfl (in_k rfl (by omega) (by omega)) dX1_leastHours_125 ?_
                      refine lv_topi (fun x_33 ex_33 => ?_)
                      have rx_33 := congrArg Int32.toInt ex_33
                      have gx_33 : 0 ≤ x_33.toInt ∧ x_33.toInt ≤ 2001 := Rg.at R_wh2 rfl (by omega) (by omega) ex_33
                      refine lv_sipush (v := 2001) hx hb dX1_leastHours_126 (by decide) ?_
                      refine lv_icmp_ne (tgt := 137) hx hb dX1_leastHours_129 (by decide) (fun c_34 => ?_) (fun c_34 => ?_)
                      · skip
                        have qc_34 : x_33.toInt ≠ 2001 := ne_k rfl (by decide) c_34
                        refine lv_aload_n hx hb dX1_leastHours_137 rfl (lv_at hl 2 rfl) ?_
                        refine va_get (D := (dC, dI)) (ci := 2) (v := .ref hot) (C := RX1) (T := TX1) (N := 2) hx hb hts iw_X1_leastHours_X1 hown hK hP 0 rfl rfl 0 (by decide) (hts (.fieldLink RX1 9 "TeaRace$Passage" "hoursTo" "[I") (by decide +kernel)) (fun _ h9 => h9) rfl dX1_leastHours_138 ?_
                        refine lv_iload hx hb dX1_leastHours_141 (lv_at hl 6 rfl) ?_
                        refine va_iald hx hb hK hP 1 0 rfl rfl (in_k rfl (by omega) (by omega)) dX1_leastHours_143 ?_
                        refine lv_topi (fun x_35 ex_35 => ?_)
                        have rx_35 := congrArg Int32.toInt ex_35
                        obtain rfl : x_33 = x_35 := ex_33.trans ex_35.symm
                        have hP9 : va_P (dC, dI) vwCl (([(pas, .inr (2, [.ref hot, .ref dp])), (hot, .inl (cI, 160, .inl wh2)), (dp, .inl (cZ, 160, .inl wd2)), (sea, .inr (3, [.ref lc, .ref ct, .ref ch])), (ct, .inl (cZ, 12, .inl Ct)), (ch, .inl (cV, 12, .inr (.inr (.inr (.inr (fun i => if i < 12 then some (rr i) else none)))))), (lc, .inl (cZ, 160, .inl Lc))] : va_W) ++ va_pl L f) H := va_P.part (X := [(pas, .inr (2, [.ref hot, .ref dp])), (hot, .inl (cI, 160, .inl wh2)), (dp, .inl (cZ, 160, .inl wd2)), (sea, .inr (3, [.ref lc, .ref ct, .ref ch])), (ct, .inl (cZ, 12, .inl Ct)), (ch, .inl (cV, 12, .inr (.inr (.inr (.inr (fun i => if i < 12 then some (rr i) else none)))))), (lc, .inl (cZ, 160, .inl Lc))]) hP [0, 1, 2, 3, 4, 5, 6] rfl
                        have hD9 : va_D A (([(pas, .inr (2, [.ref hot, .ref dp])), (hot, .inl (cI, 160, .inl wh2)), (dp, .inl (cZ, 160, .inl wd2)), (sea, .inr (3, [.ref lc, .ref ct, .ref ch])), (ct, .inl (cZ, 12, .inl Ct)), (ch, .inl (cV, 12, .inr (.inr (.inr (.inr (fun i => if i < 12 then some (rr i) else none)))))), (lc, .inl (cZ, 160, .inl Lc))] : va_W) ++ va_pl L f) := va_D.part (X := [(pas, .inr (2, [.ref hot, .ref dp])), (hot, .inl (cI, 160, .inl wh2)), (dp, .inl (cZ, 160, .inl wd2)), (sea, .inr (3, [.ref lc, .ref ct, .ref ch])), (ct, .inl (cZ, 12, .inl Ct)), (ch, .inl (cV, 12, .inr (.inr (.inr (.inr (fun i => if i < 12 then some (rr i) else none)))))), (lc, .inl (cZ, 160, .inl Lc))]) hD [0, 1, 2, 3, 4, 5, 6] (by decide) rfl
                        have hK9 := hK.sub (tys' := [(cI, .int), (cZ, .boolean), (cB, .byte), (cV, .array .byte)]) [0, 1, 2, 3] rfl
                        exact W.iret (v := x_33) hx hb hr (fun t ht hW => ⟨⟨x_33, (wh2, wd2), rfl, (least_end (x := x_33) ((runC_stop (by rw [← k_18]; omega)).symm.trans hrn) ⟨by omega, by omega⟩ rx_33 (by (try simp only [Int32.reduceToInt]); (repeat' split) <;> omega)), ⟨by rw [ht]; exact hP9, va_K.moved hW.alike hK9, hD9⟩⟩, hS.F ht⟩) hS.2.2 dX1_leastHours_144
                      · skip
                        have qc_34 : x_33.toInt = 2001 := eq_k rfl (by decide) c_34
                        refine lv_bipush (v := (-9)) hx hb dX1_leastHours_132 (by decide) ?_
                        refine lv_goto (tgt := 144) hx hb dX1_leastHours_134 (by decide) ?_
                        have hP9 : va_P (dC, dI) vwCl (([(pas, .inr (2, [.ref hot, .ref dp])), (hot, .inl (cI, 160, .inl wh2)), (dp, .inl (cZ, 160, .inl wd2)), (sea, .inr (3, [.ref lc, .ref ct, .ref ch])), (ct, .inl (cZ, 12, .inl Ct)), (ch, .inl (cV, 12, .inr (.inr (.inr (.inr (fun i => if i < 12 then some (rr i) else none)))))), (lc, .inl (cZ, 160, .inl Lc))] : va_W) ++ va_pl L f) H := va_P.part (X := [(pas, .inr (2, [.ref hot, .ref dp])), (hot, .inl (cI, 160, .inl wh2)), (dp, .inl (cZ, 160, .inl wd2)), (sea, .inr (3, [.ref lc, .ref ct, .ref ch])), (ct, .inl (cZ, 12, .inl Ct)), (ch, .inl (cV, 12, .inr (.inr (.inr (.inr (fun i => if i < 12 then some (rr i) else none)))))), (lc, .inl (cZ, 160, .inl Lc))]) hP [0, 1, 2, 3, 4, 5, 6] rfl
                        have hD9 : va_D A (([(pas, .inr (2, [.ref hot, .ref dp])), (hot, .inl (cI, 160, .inl wh2)), (dp, .inl (cZ, 160, .inl wd2)), (sea, .inr (3, [.ref lc, .ref ct, .ref ch])), (ct, .inl (cZ, 12, .inl Ct)), (ch, .inl (cV, 12, .inr (.inr (.inr (.inr (fun i => if i < 12 then some (rr i) else none)))))), (lc, .inl (cZ, 160, .inl Lc))] : va_W) ++ va_pl L f) := va_D.part (X := [(pas, .inr (2, [.ref hot, .ref dp])), (hot, .inl (cI, 160, .inl wh2)), (dp, .inl (cZ, 160, .inl wd2)), (sea, .inr (3, [.ref lc, .ref ct, .ref ch])), (ct, .inl (cZ, 12, .inl Ct)), (ch, .inl (cV, 12, .inr (.inr (.inr (.inr (fun i => if i < 12 then some (rr i) else none)))))), (lc, .inl (cZ, 160, .inl Lc))]) hD [0, 1, 2, 3, 4, 5, 6] (by decide) rfl
                        have hK9 := hK.sub (tys' := [(cI, .int), (cZ, .boolean), (cB, .byte), (cV, .array .byte)]) [0, 1, 2, 3] rfl
                        have hv9 : (-9 : Int32).toInt = (-9) := by decide
                        exact W.iret (v := (-9)) hx hb hr (fun t ht hW => ⟨⟨(-9), (wh2, wd2), rfl, (least_end (x := x_33) ((runC_stop (by rw [← k_18]; omega)).symm.trans hrn) ⟨by omega, by omega⟩ rx_33 (by (try simp only [Int32.reduceToInt]); (repeat' split) <;> omega)), ⟨by rw [ht]; exact hP9, va_K.moved hW.alike hK9, hD9⟩⟩, hS.F ht⟩) hS.2.2 dX1_leastHours_144
            exact key72 161 0 wh wd _ _ ls (by decide) (fun j hj => by have h9 := hz1 j (by omega); split at h9 <;> omega) (by rw [h00_of (w := wh) (fr := a0.toInt) ⟨by omega, by omega⟩ (fun j hj => hz1 j (by omega)), s00_of (w := wd) (fun j hj => hz2 j (by omega))]; rfl) (by (try simp only [Int32.reduceToInt]); omega) hP hD hS hl
          · skip
            have qc_12 : ic.toInt < 160 := nle_k (by decide) rfl c_12
            refine lv_aload_n hx hb dX1_leastHours_35 rfl (lv_at hl 1 rfl) ?_
            refine va_get (D := (dC, dI)) (ci := 2) (v := .ref hot) (C := RX1) (T := TX1) (N := 2) hx hb hts iw_X1_leastHours_X1 hown hK hP 0 rfl rfl 0 (by decide) (hts (.fieldLink RX1 9 "TeaRace$Passage" "hoursTo" "[I") (by decide +kernel)) (fun _ h9 => h9) rfl dX1_leastHours_36 ?_
            refine lv_iload hx hb dX1_leastHours_39 (lv_at hl 0 rfl) ?_
            refine lv_iload hx hb dX1_leastHours_41 (lv_at hl 0 rfl) ?_
            refine lv_iload_n hx hb dX1_leastHours_43 rfl (lv_at hl 4 rfl) ?_
            refine lv_icmp_ne (tgt := 51) hx hb dX1_leastHours_44 (by decide) (fun c_36 => ?_) (fun c_36 => ?_)
            · skip
              have qc_36 : ic.toInt ≠ a0.toInt := ne_k rfl rfl c_36
              refine lv_sipush (v := 2001) hx hb dX1_leastHours_51 (by decide) ?_
              refine va_iast hx hb hK hP hD hS 1 0 rfl rfl (in_k rfl (by omega) (by omega)) dX1_leastHours_54 (fun H locs hP hD hS => ?_)
              have hP : va_P (dC, dI) vwCl (([(pas, .inr (2, [.ref hot, .ref dp])), (hot, .inl (cI, 160, .inl (upd wh ic.toNatClampNeg (2001 : Int32)))), (dp, .inl (cZ, 160, .inl wd)), (sea, .inr (3, [.ref lc, .ref ct, .ref ch])), (ct, .inl (cZ, 12, .inl Ct)), (ch, .inl (cV, 12, .inr (.inr (.inr (.inr (fun i => if i < 12 then some (rr i) else none)))))), (lc, .inl (cZ, 160, .inl Lc))] : va_W) ++ va_pl L f) H := hP
              have hD : va_D A (([(pas, .inr (2, [.ref hot, .ref dp])), (hot, .inl (cI, 160, .inl (upd wh ic.toNatClampNeg (2001 : Int32)))), (dp, .inl (cZ, 160, .inl wd)), (sea, .inr (3, [.ref lc, .ref ct, .ref ch])), (ct, .inl (cZ, 12, .inl Ct)), (ch, .inl (cV, 12, .inr (.inr (.inr (.inr (fun i => if i < 12 then some (rr i) else none)))))), (lc, .inl (cZ, 160, .inl Lc))] : va_W) ++ va_pl L f) := hD
              have zs_37 : (upd wh ic.toNatClampNeg (2001 : Int32) ic.toNatClampNeg).toInt = 2001 := (congrArg Int32.toInt (upd_at (wh) ic.toNatClampNeg (2001 : Int32))).trans (by decide)
              refine lv_aload_n hx hb dX1_leastHours_55 rfl (lv_at hl 1 rfl) ?_
              refine va_get (D := (dC, dI)) (ci := 2) (v := .ref dp) (C := RX1) (T := TX1) (N := 2) hx hb hts iw_X1_leastHours_X1 hown hK hP 0 rfl rfl 1 (by decide) (hts (.fieldLink RX1 15 "TeaRace$Passage" "departed" "[Z") (by decide +kernel)) (fun _ h9 => h9) rfl dX1_leastHours_56 ?_
              refine lv_iload hx hb dX1_leastHours_59 (lv_at hl 0 rfl) ?_
              refine lv_iconst (v := 0) hx hb dX1_leastHours_61 (by decide) ?_
              refine va_zast hx hb hK hP hD hS 2 1 rfl rfl (in_k rfl (by omega) (by omega)) dX1_leastHours_62 (fun H locs hP hD hS => ?_)
              have hP : va_P (dC, dI) vwCl (([(pas, .inr (2, [.ref hot, .ref dp])), (hot, .inl (cI, 160, .inl (upd wh ic.toNatClampNeg (2001 : Int32)))), (dp, .inl (cZ, 160, .inl (upd wd ic.toNatClampNeg (vp_nar .boolean (0 : Int32))))), (sea, .inr (3, [.ref lc, .ref ct, .ref ch])), (ct, .inl (cZ, 12, .inl Ct)), (ch, .inl (cV, 12, .inr (.inr (.inr (.inr (fun i => if i < 12 then some (rr i) else none)))))), (lc, .inl (cZ, 160, .inl Lc))] : va_W) ++ va_pl L f) H := hP
              have hD : va_D A (([(pas, .inr (2, [.ref hot, .ref dp])), (hot, .inl (cI, 160, .inl (upd wh ic.toNatClampNeg (2001 : Int32)))), (dp, .inl (cZ, 160, .inl (upd wd ic.toNatClampNeg (vp_nar .boolean (0 : Int32))))), (sea, .inr (3, [.ref lc, .ref ct, .ref ch])), (ct, .inl (cZ, 12, .inl Ct)), (ch, .inl (cV, 12, .inr (.inr (.inr (.inr (fun i => if i < 12 then some (rr i) else none)))))), (lc, .inl (cZ, 160, .inl Lc))] : va_W) ++ va_pl L f) := hD
              have zs_38 : (upd wd ic.toNatClampNeg (vp_nar .boolean (0 : Int32)) ic.toNatClampNeg).toInt = (vp_nar .boolean (0 : Int32)).toInt := congrArg Int32.toInt (upd_at (wd) ic.toNatClampNeg (vp_nar .boolean (0 : Int32)))
              obtain ⟨x_39, ex_39⟩ : ∃ y : Int32, y = ic + 1 := ⟨_, rfl⟩
              have tx_39 : x_39.toInt = ic.toInt + 1 := ad_k ex_39 rfl (by decide) (by omega) (by omega)
              refine lv_iinc (v := x_39) (lv' := [(6, .int x_39), (0, .ref pas), (1, .ref sea), (2, .ref a), (3, .int a0), (4, .int a1), (5, .int a2)]) hx hb dX1_leastHours_63 hl (k := 0) rfl (by rw [ex_39]; rfl) (by decide) rfl (fun ls hl => ?_)
              refine lv_goto (tgt := 27) hx hb dX1_leastHours_66 (by decide) ?_
              exact ih27 x_39 (upd wh ic.toNatClampNeg (2001 : Int32)) (upd wd ic.toNatClampNeg (vp_nar .boolean (0 : Int32))) H locs ls ⟨(by first | omega | (simp only [Int32.reduceToInt]; omega)), (by first | omega | (simp only [Int32.reduceToInt]; omega))⟩ (fun j hj => by by_cases e9 : j = ic.toNatClampNeg; (rw [e9, upd_at, if_neg (by have := tn_k (i := ic) rfl (by omega); omega)]; decide); (rw [upd_off _ _ e9]; exact hz1 j (by have := tn_k (i := ic) rfl (by omega); omega))) (zero_step hz2 (by omega) rfl (by omega)) (by first | omega | (simp only [Int32.reduceToInt]; omega)) hP hD hS (lv_sub hl [0, 1, 2, 3, 4, 5, 6] rfl)
            · skip
              have qc_36 : ic.toInt = a0.toInt := eq_k rfl rfl c_36
              refine lv_iconst (v := 0) hx hb dX1_leastHours_47 (by decide) ?_
              refine lv_goto (tgt := 54) hx hb dX1_leastHours_48 (by decide) ?_
              refine va_iast hx hb hK hP hD hS 1 0 rfl rfl (in_k rfl (by omega) (by omega)) dX1_leastHours_54 (fun H locs hP hD hS => ?_)
              have hP : va_P (dC, dI) vwCl (([(pas, .inr (2, [.ref hot, .ref dp])), (hot, .inl (cI, 160, .inl (upd wh ic.toNatClampNeg (0 : Int32)))), (dp, .inl (cZ, 160, .inl wd)), (sea, .inr (3, [.ref lc, .ref ct, .ref ch])), (ct, .inl (cZ, 12, .inl Ct)), (ch, .inl (cV, 12, .inr (.inr (.inr (.inr (fun i => if i < 12 then some (rr i) else none)))))), (lc, .inl (cZ, 160, .inl Lc))] : va_W) ++ va_pl L f) H := hP
              have hD : va_D A (([(pas, .inr (2, [.ref hot, .ref dp])), (hot, .inl (cI, 160, .inl (upd wh ic.toNatClampNeg (0 : Int32)))), (dp, .inl (cZ, 160, .inl wd)), (sea, .inr (3, [.ref lc, .ref ct, .ref ch])), (ct, .inl (cZ, 12, .inl Ct)), (ch, .inl (cV, 12, .inr (.inr (.inr (.inr (fun i => if i < 12 then some (rr i) else none)))))), (lc, .inl (cZ, 160, .inl Lc))] : va_W) ++ va_pl L f) := hD
              have zs_40 : (upd wh ic.toNatClampNeg (0 : Int32) ic.toNatClampNeg).toInt = 0 := (congrArg Int32.toInt (upd_at (wh) ic.toNatClampNeg (0 : Int32))).trans (by decide)
              refine lv_aload_n hx hb dX1_leastHours_55 rfl (lv_at hl 1 rfl) ?_
              refine va_get (D := (dC, dI)) (ci := 2) (v := .ref dp) (C := RX1) (T := TX1) (N := 2) hx hb hts iw_X1_leastHours_X1 hown hK hP 0 rfl rfl 1 (by decide) (hts (.fieldLink RX1 15 "TeaRace$Passage" "departed" "[Z") (by decide +kernel)) (fun _ h9 => h9) rfl dX1_leastHours_56 ?_
              refine lv_iload hx hb dX1_leastHours_59 (lv_at hl 0 rfl) ?_
              refine lv_iconst (v := 0) hx hb dX1_leastHours_61 (by decide) ?_
              refine va_zast hx hb hK hP hD hS 2 1 rfl rfl (in_k rfl (by omega) (by omega)) dX1_leastHours_62 (fun H locs hP hD hS => ?_)
              have hP : va_P (dC, dI) vwCl (([(pas, .inr (2, [.ref hot, .ref dp])), (hot, .inl (cI, 160, .inl (upd wh ic.toNatClampNeg (0 : Int32)))), (dp, .inl (cZ, 160, .inl (upd wd ic.toNatClampNeg (vp_nar .boolean (0 : Int32))))), (sea, .inr (3, [.ref lc, .ref ct, .ref ch])), (ct, .inl (cZ, 12, .inl Ct)), (ch, .inl (cV, 12, .inr (.inr (.inr (.inr (fun i => if i < 12 then some (rr i) else none)))))), (lc, .inl (cZ, 160, .inl Lc))] : va_W) ++ va_pl L f) H := hP
              have hD : va_D A (([(pas, .inr (2, [.ref hot, .ref dp])), (hot, .inl (cI, 160, .inl (upd wh ic.toNatClampNeg (0 : Int32)))), (dp, .inl (cZ, 160, .inl (upd wd ic.toNatClampNeg (vp_nar .boolean (0 : Int32))))), (sea, .inr (3, [.ref lc, .ref ct, .ref ch])), (ct, .inl (cZ, 12, .inl Ct)), (ch, .inl (cV, 12, .inr (.inr (.inr (.inr (fun i => if i < 12 then some (rr i) else none)))))), (lc, .inl (cZ, 160, .inl Lc))] : va_W) ++ va_pl L f) := hD
              have zs_41 : (upd wd ic.toNatClampNeg (vp_nar .boolean (0 : Int32)) ic.toNatClampNeg).toInt = (vp_nar .boolean (0 : Int32)).toInt := congrArg Int32.toInt (upd_at (wd) ic.toNatClampNeg (vp_nar .boolean (0 : Int32)))
              obtain ⟨x_42, ex_42⟩ : ∃ y : Int32, y = ic + 1 := ⟨_, rfl⟩
              have tx_42 : x_42.toInt = ic.toInt + 1 := ad_k ex_42 rfl (by decide) (by omega) (by omega)
              refine lv_iinc (v := x_42) (lv' := [(6, .int x_42), (0, .ref pas), (1, .ref sea), (2, .ref a), (3, .int a0), (4, .int a1), (5, .int a2)]) hx hb dX1_leastHours_63 hl (k := 0) rfl (by rw [ex_42]; rfl) (by decide) rfl (fun ls hl => ?_)
              refine lv_goto (tgt := 27) hx hb dX1_leastHours_66 (by decide) ?_
              exact ih27 x_42 (upd wh ic.toNatClampNeg (0 : Int32)) (upd wd ic.toNatClampNeg (vp_nar .boolean (0 : Int32))) H locs ls ⟨(by first | omega | (simp only [Int32.reduceToInt]; omega)), (by first | omega | (simp only [Int32.reduceToInt]; omega))⟩ (fun j hj => by by_cases e9 : j = ic.toNatClampNeg; (rw [e9, upd_at, if_pos (by have := tn_k (i := ic) rfl (by omega); omega)]; decide); (rw [upd_off _ _ e9]; exact hz1 j (by have := tn_k (i := ic) rfl (by omega); omega))) (zero_step hz2 (by omega) rfl (by omega)) (by first | omega | (simp only [Int32.reduceToInt]; omega)) hP hD hS (lv_sub hl [0, 1, 2, 3, 4, 5, 6] rfl)
      exact key27 161 0 Kh Kd _ _ ls (by decide) (fun j h => absurd h (by simp only [Int32.reduceToInt]; omega)) (fun j h => absurd h (by simp only [Int32.reduceToInt]; omega)) (by (try simp only [Int32.reduceToInt]); omega) hP hD hS hl
    · skip
      have b_43 := b01n k_8 c_10
      (try simp only [Int32.lt_iff_toInt_lt, Int32.le_iff_toInt_le, ← Int32.toInt_inj, Int32.reduceToInt, zl1, zl2, zl3, zl4, zl9] at b_43)
      (try simp only [Int32.reduceToInt] at b_43)
      exfalso
      omega
