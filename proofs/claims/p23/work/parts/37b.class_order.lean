set_option maxRecDepth 20000 in
theorem iw_X5_order_X3 : ∀ w ∈ wsX30, w ∈ wsX5_order := by decide +kernel
set_option maxRecDepth 20000 in
theorem iw_X5_order_X0 : ∀ w ∈ wsX00, w ∈ wsX5_order := by decide +kernel
set_option maxHeartbeats 4000000 in
set_option maxRecDepth 100000 in
/-- order -/
theorem c_X5_order (l : Launch) (dC : Nat → ClassId) (dI : Nat → Nat → Nat) (sz : Nat) (te : Nat) (ea : Nat) (so : Nat) (mi : Nat) (L : List Nat) (f : Nat → va_E) (h0 : Nat) (sea : Nat) (pas : Nat) (fl : Nat) (fc : Nat) (xlf : Int32) (xhr : Int32) (xho : Int32) (xga : Int32) (xsg : Int32) (xpr : Int32) (xfa : Int32) (xls : Int64) (cB : ClassId) (own : Nat → Nat) (cO : ClassId) (rr : Nat → Nat) (cw : Nat → Nat → Int32) (n : Nat) (sa : Nat → Nat) (V : Nat → Nat → Int32) (oa : Nat → Nat) (ia : Nat → Nat) (nO : Nat → Nat) (OW : Nat → Nat → Nat → Int32) (nS : Nat → Nat) (SW : Nat → Nat → Nat → Int32) (a0 : Int32) (a1 : Int32) (a2 : Int32) (a3 : Int32) (a4 : Int32) (a5 : Int32) (a6 : Int32) (inv : Inv L f own te cO cB rr cw fl n sa V oa ia nO OW nS SW) : Met l yX5_order wsX5_order ({ frames := 7, cells := 2, slots := 206, locals := 191 }) (va_Pc [.ref h0, .int a0, .int a1, .int a2, .int a3, .int a4, .int a5, .int a6] (fun U => U.heap.size = sz ∧ va_P (dC, dI) vwCl ([(h0, .inr (6, [.ref sea, .ref pas, .ref fl, .ref fc, .int xlf, .int xhr, .int xho, .int xga, .int xsg, .int xpr, .int xfa, .long xls]))] ++ va_pl L f) U.heap ∧ va_K (dC, dI) vwCl [(cO, .object "java/lang/Object")] U ∧ NW U ∧ va_D (fun _ => True) ([(h0, .inr (6, [.ref sea, .ref pas, .ref fl, .ref fc, .int xlf, .int xhr, .int xho, .int xga, .int xsg, .int xpr, .int xfa, .long xls]))] ++ va_pl L f) ∧ Zs te ea so mi (va_A ([(h0, .inr (6, [.ref sea, .ref pas, .ref fl, .ref fc, .int xlf, .int xhr, .int xho, .int xga, .int xsg, .int xpr, .int xfa, .long xls]))] ++ va_pl L f) sz) U U.heap)) (va_Qi (fun (r : Int32) (u : List Nat × (Nat → va_E) × (Nat → Nat) × (Nat → Nat) × (Nat → Nat → Nat → Int32)) => (Inv u.1 u.2.1 u.2.2.1 te cO cB rr cw fl n sa V oa ia u.2.2.2.1 u.2.2.2.2 nS SW)) (fun u t => va_P (dC, dI) vwCl ([(h0, .inr (6, [.ref sea, .ref pas, .ref fl, .ref fc, .int xlf, .int xhr, .int xho, .int xga, .int xsg, .int xpr, .int xfa, .long xls]))] ++ va_pl u.1 u.2.1) t.heap ∧ va_K (dC, dI) vwCl [(cO, .object "java/lang/Object")] t ∧ va_D (va_A ([(h0, .inr (6, [.ref sea, .ref pas, .ref fl, .ref fc, .int xlf, .int xhr, .int xho, .int xga, .int xsg, .int xpr, .int xfa, .long xls]))] ++ va_pl L f) sz) ([(h0, .inr (6, [.ref sea, .ref pas, .ref fl, .ref fc, .int xlf, .int xhr, .int xho, .int xga, .int xsg, .int xpr, .int xfa, .long xls]))] ++ va_pl u.1 u.2.1)) (va_A ([(h0, .inr (6, [.ref sea, .ref pas, .ref fl, .ref fc, .int xlf, .int xhr, .int xho, .int xga, .int xsg, .int xpr, .int xfa, .long xls]))] ++ va_pl L f) sz)) 2 206 (va_A ([(h0, .inr (6, [.ref sea, .ref pas, .ref fl, .ref fc, .int xlf, .int xhr, .int xho, .int xga, .int xsg, .int xpr, .int xfa, .long xls]))] ++ va_pl L f) sz) := by
  refine Met.ofW (cc := cX5_order) (maxL := 9) (ret := (some .int)) (by decide) rfl ?_
  intro p e s m args below meth c s₁ B hml hv
  obtain ⟨rfl, hsz, hP, hK, hN, hD0, hZ⟩ := hv
  have hx := B.exec
  have hb := B.bytes
  have hr := B.returns
  have hts := atoms_spec (ws := wsX5_order) B.pre
  have hown : s.vm.findClass RX5 = some m.cls := findClass_of_methodNamed B.named
  have hlocks := B.notSynchronized
  subst hsz
  have hD := hD0.self (sz := s.heap.size)
  generalize hAe : va_A ([(h0, .inr (6, [.ref sea, .ref pas, .ref fl, .ref fc, .int xlf, .int xhr, .int xho, .int xga, .int xsg, .int xpr, .int xfa, .long xls]))] ++ va_pl L f) s.heap.size = A at hD hZ ⊢
  have hA : ∀ q : Nat, s.heap.size ≤ q → A q := fun q h => by rw [← hAe]; exact Or.inr h
  have hS : va_S A s.heap s.heap [] := va_S.rf
  have hP : va_P (dC, dI) vwCl ([(h0, .inr (6, [.ref sea, .ref pas, .ref fl, .ref fc, .int xlf, .int xhr, .int xho, .int xga, .int xsg, .int xpr, .int xfa, .long xls]))] ++ va_pl L f) s.heap := hP
  have hl := lv_entry ([.ref h0, .int a0, .int a1, .int a2, .int a3, .int a4, .int a5, .int a6]) (n := 9) (Nat.le_of_ble_eq_true rfl)
  rw [lg_entry_eq]
  generalize (lg_sl ([.ref h0, .int a0, .int a1, .int a2, .int a3, .int a4, .int a5, .int a6]) ++ List.replicate (9 - (lg_sl ([.ref h0, .int a0, .int a1, .int a2, .int a3, .int a4, .int a5, .int a6])).length) Slot.unset).toArray = ls at hl ⊢
  have hl : lv_has ls 9 [(0, .ref h0), (1, .int a0), (2, .int a1), (3, .int a2), (4, .int a3), (5, .int a4), (6, .int a5), (7, .int a6)] := hl
  refine lv_aload_n hx hb dX5_order_0 rfl (lv_at hl 0 rfl) ?_
  refine lv_iload_n hx hb dX5_order_1 rfl (lv_at hl 1 rfl) ?_
  have hPc : va_P (dC, dI) vwCl ([(h0, .inr (6, [.ref sea, .ref pas, .ref fl, .ref fc, .int xlf, .int xhr, .int xho, .int xga, .int xsg, .int xpr, .int xfa, .long xls]))] ++ va_pl L f) s.heap := va_P.part (X := [(h0, .inr (6, [.ref sea, .ref pas, .ref fl, .ref fc, .int xlf, .int xhr, .int xho, .int xga, .int xsg, .int xpr, .int xfa, .long xls]))]) hP [0] rfl
  have hKc := hK.sub (tys' := [(cO, .object "java/lang/Object")]) [0] rfl
  refine va_callq (va_runV (As := [.int a0]) (rest := []) ⟨hx, hb, hml, hown, hts⟩ (c_X5_shipOf l dC dI s.heap.size L f h0 sea pas fl fc xlf xhr xho xga xsg xpr xfa xls cB own te cO rr cw n sa V oa ia nO OW nS SW a0 inv) (cwV 1 hts gX5_order_X5_shipOf rfl rfl rfl (by decide +kernel) ⟨Nat.le_of_ble_eq_true rfl, Nat.le_of_ble_eq_true rfl⟩) ⟨fun a U g mk q => by obtain ⟨q0, q1, qP, qK, qN⟩ := q; exact ⟨q0, q1, qP, va_K.moved (u := U) (U := U.calling g mk a) (Vm.Alike.refl U.vm) qK, NW.same (u := U) (U := U.calling g mk a) rfl qN⟩, va_recv hKc hPc (ci := 6) (q0 := 0) rfl rfl, fun U hU hW => ⟨rfl, by rw [hU], by rw [hU]; exact hPc, va_K.moved hW.alike hKc, NW.warm hW hN⟩⟩ rfl rfl hl.1 rfl (lv_room (Nat.le_of_ble_eq_true rfl)) dX5_order_2 ⟨(Nat.zero_le _), (Nat.zero_le _)⟩) hS (fun q _ h => ro_A hS hA q h) (ro_A hS hA) (fun r_1 u t H1 locs ht hvm k_2 hB hz1 hk1 hS => ?_)
  have hP := ro_P hk1 hP
  generalize H1 = H at hP hS ⊢
  try dsimp only at k_2
  obtain ⟨k_2, k_3⟩ := k_2
  rcases r_1 with _ | q_4
  · skip
    have hno := k_3 rfl
    refine W.eq (g2 := F0 m 5 ls [.null]) rfl ?_
    refine lv_astoreN (lv' := [(8, .null), (0, .ref h0), (1, .int a0), (2, .int a1), (3, .int a2), (4, .int a3), (5, .int a4), (6, .int a5), (7, .int a6)]) hx hb dX5_order_5 hl (by decide) rfl (fun ls hl => ?_)
    refine lv_aloadN hx hb dX5_order_7 (lv_at hl 0 rfl) ?_
    refine lv_ifnullN (tgt := 34) hx hb dX5_order_9 (by decide) ?_
    refine lv_iconst (v := (-1)) hx hb dX5_order_34 (by decide) ?_
    have hP9 : va_P (dC, dI) vwCl ([(h0, .inr (6, [.ref sea, .ref pas, .ref fl, .ref fc, .int xlf, .int xhr, .int xho, .int xga, .int xsg, .int xpr, .int xfa, .long xls]))] ++ va_pl L f) H := va_P.part (X := [(h0, .inr (6, [.ref sea, .ref pas, .ref fl, .ref fc, .int xlf, .int xhr, .int xho, .int xga, .int xsg, .int xpr, .int xfa, .long xls]))]) hP [0] rfl
    have hD9 : va_D A ([(h0, .inr (6, [.ref sea, .ref pas, .ref fl, .ref fc, .int xlf, .int xhr, .int xho, .int xga, .int xsg, .int xpr, .int xfa, .long xls]))] ++ va_pl L f) := va_D.part (X := [(h0, .inr (6, [.ref sea, .ref pas, .ref fl, .ref fc, .int xlf, .int xhr, .int xho, .int xga, .int xsg, .int xpr, .int xfa, .long xls]))]) hD [0] (by decide) rfl
    have hK9 := hK.sub (tys' := [(cO, .object "java/lang/Object")]) [0] rfl
    refine W.widen (k := 2) (n := 206) (Nat.le_of_ble_eq_true rfl) (Nat.le_of_ble_eq_true rfl) ?_
    have hv9 : (-1 : Int32).toInt = (-1) := by decide
    exact W.iret (v := (-1)) hx hb hr (fun t ht hW => ⟨⟨(-1), (L, f, own, nO, OW), rfl, inv, ⟨by rw [ht]; exact hP9, va_K.moved hW.alike hK9, hD9⟩⟩, hS.F ht⟩) hS.2.2 dX5_order_35
  · skip
    obtain ⟨hi_5, hi_6, rfl⟩ := k_2 q_4 rfl
    refine W.eq (g2 := F0 m 5 ls [.ref (sa a0.toNatClampNeg)]) rfl ?_
    have hn8 := inv.2.2.2.2.1
    have hsp_7 := inv.2.2.2.2.2 a0.toNatClampNeg (tn_lt (by omega) (by omega))
    refine lv_astore (lv' := [(8, .ref (sa a0.toNatClampNeg)), (0, .ref h0), (1, .int a0), (2, .int a1), (3, .int a2), (4, .int a3), (5, .int a4), (6, .int a5), (7, .int a6)]) hx hb dX5_order_5 hl (by decide) rfl (fun ls hl => ?_)
    refine lv_aload hx hb dX5_order_7 (lv_at hl 0 rfl) ?_
    refine lv_ifnull hx hb dX5_order_9 ?_
    refine lv_iload_n hx hb dX5_order_12 rfl (lv_at hl 3 rfl) ?_
    refine lv_iload_n hx hb dX5_order_13 rfl (lv_at hl 4 rfl) ?_
    refine lv_bipush (v := 15) hx hb dX5_order_14 (by decide) ?_
    refine va_calli (va_runS (As := [.int a1, .int a2, .int 15]) (rest := []) ⟨hx, hb, hml, hown, hts⟩ (c_X5_isNoSpan l H.size a1 a2 15 ) (va_cwS 3 hts gX5_order_X5_isNoSpan rfl rfl rfl (by decide +kernel) ⟨Nat.le_of_ble_eq_true rfl, Nat.le_of_ble_eq_true rfl⟩) ⟨fun a U g mk q => by obtain ⟨q0, q1⟩ := q; exact ⟨q0, q1⟩, fun U hU hW => ⟨rfl, congrArg Array.size hU⟩⟩ rfl rfl hl.1 rfl (lv_room (Nat.le_of_ble_eq_true rfl)) dX5_order_16 ⟨(Nat.zero_le _), (Nat.zero_le _)⟩) hS (fun q _ h => ro_A hS hA q h) (ro_A hS hA) (fun r_8 u t H1 locs ht hvm k_9 hB hz1 hk1 hS => ?_)
    have hP := ro_P hk1 hP
    generalize H1 = H at hP hS ⊢
    try dsimp only at k_9
    refine lv_if_ne (tgt := 34) hx hb dX5_order_19 (by decide) (fun c_10 => ?_) (fun c_10 => ?_)
    · skip
      have b_11 := b01n k_9 c_10
      (try simp only [Int32.lt_iff_toInt_lt, Int32.le_iff_toInt_le, ← Int32.toInt_inj, Int32.reduceToInt, zl1, zl2, zl3, zl4, zl9] at b_11)
      (try simp only [Int32.reduceToInt] at b_11)
      refine lv_iconst (v := (-1)) hx hb dX5_order_34 (by decide) ?_
      have hP9 : va_P (dC, dI) vwCl ([(h0, .inr (6, [.ref sea, .ref pas, .ref fl, .ref fc, .int xlf, .int xhr, .int xho, .int xga, .int xsg, .int xpr, .int xfa, .long xls]))] ++ va_pl L f) H := va_P.part (X := [(h0, .inr (6, [.ref sea, .ref pas, .ref fl, .ref fc, .int xlf, .int xhr, .int xho, .int xga, .int xsg, .int xpr, .int xfa, .long xls]))]) hP [0] rfl
      have hD9 : va_D A ([(h0, .inr (6, [.ref sea, .ref pas, .ref fl, .ref fc, .int xlf, .int xhr, .int xho, .int xga, .int xsg, .int xpr, .int xfa, .long xls]))] ++ va_pl L f) := va_D.part (X := [(h0, .inr (6, [.ref sea, .ref pas, .ref fl, .ref fc, .int xlf, .int xhr, .int xho, .int xga, .int xsg, .int xpr, .int xfa, .long xls]))]) hD [0] (by decide) rfl
      have hK9 := hK.sub (tys' := [(cO, .object "java/lang/Object")]) [0] rfl
      refine W.widen (k := 2) (n := 206) (Nat.le_of_ble_eq_true rfl) (Nat.le_of_ble_eq_true rfl) ?_
      have hv9 : (-1 : Int32).toInt = (-1) := by decide
      exact W.iret (v := (-1)) hx hb hr (fun t ht hW => ⟨⟨(-1), (L, f, own, nO, OW), rfl, inv, ⟨by rw [ht]; exact hP9, va_K.moved hW.alike hK9, hD9⟩⟩, hS.F ht⟩) hS.2.2 dX5_order_35
    · skip
      have b_12 := b01z k_9 c_10
      (try simp only [Int32.lt_iff_toInt_lt, Int32.le_iff_toInt_le, ← Int32.toInt_inj, Int32.reduceToInt, zl1, zl2, zl3, zl4, zl9] at b_12)
      (try simp only [Int32.reduceToInt] at b_12)
      refine lv_iload hx hb dX5_order_22 (lv_at hl 5 rfl) ?_
      refine lv_iload hx hb dX5_order_24 (lv_at hl 6 rfl) ?_
      refine lv_bipush (v := 9) hx hb dX5_order_26 (by decide) ?_
      refine va_calli (va_runS (As := [.int a3, .int a4, .int 9]) (rest := []) ⟨hx, hb, hml, hown, hts⟩ (c_X5_isNoSpan l H.size a3 a4 9 ) (va_cwS 3 hts gX5_order_X5_isNoSpan rfl rfl rfl (by decide +kernel) ⟨Nat.le_of_ble_eq_true rfl, Nat.le_of_ble_eq_true rfl⟩) ⟨fun a U g mk q => by obtain ⟨q0, q1⟩ := q; exact ⟨q0, q1⟩, fun U hU hW => ⟨rfl, congrArg Array.size hU⟩⟩ rfl rfl hl.1 rfl (lv_room (Nat.le_of_ble_eq_true rfl)) dX5_order_28 ⟨(Nat.zero_le _), (Nat.zero_le _)⟩) hS (fun q _ h => ro_A hS hA q h) (ro_A hS hA) (fun r_13 u t H1 locs ht hvm k_14 hB hz1 hk1 hS => ?_)
      have hP := ro_P hk1 hP
      generalize H1 = H at hP hS ⊢
      try dsimp only at k_14
      refine lv_if_eq (tgt := 36) hx hb dX5_order_31 (by decide) (fun c_15 => ?_) (fun c_15 => ?_)
      · skip
        have b_16 := b01z k_14 c_15
        (try simp only [Int32.lt_iff_toInt_lt, Int32.le_iff_toInt_le, ← Int32.toInt_inj, Int32.reduceToInt, zl1, zl2, zl3, zl4, zl9] at b_16)
        (try simp only [Int32.reduceToInt] at b_16)
        refine lv_iload hx hb dX5_order_36 (lv_at hl 7 rfl) ?_
        refine lv_bipush (v := 9) hx hb dX5_order_38 (by decide) ?_
        refine va_calli (va_runS (As := [.int a5, .int 9]) (rest := []) ⟨hx, hb, hml, hown, hts⟩ (c_X5_outside l H.size a5 9 ) (va_cwS 2 hts gX5_order_X5_outside rfl rfl rfl (by decide +kernel) ⟨Nat.le_of_ble_eq_true rfl, Nat.le_of_ble_eq_true rfl⟩) ⟨fun a U g mk q => by obtain ⟨q0, q1⟩ := q; exact ⟨q0, q1⟩, fun U hU hW => ⟨rfl, congrArg Array.size hU⟩⟩ rfl rfl hl.1 rfl (lv_room (Nat.le_of_ble_eq_true rfl)) dX5_order_40 ⟨(Nat.zero_le _), (Nat.zero_le _)⟩) hS (fun q _ h => ro_A hS hA q h) (ro_A hS hA) (fun r_17 u t H1 locs ht hvm k_18 hB hz1 hk1 hS => ?_)
        have hP := ro_P hk1 hP
        generalize H1 = H at hP hS ⊢
        try dsimp only at k_18
        obtain ⟨k_18, k_19⟩ := k_18
        refine lv_if_ne (tgt := 56) hx hb dX5_order_43 (by decide) (fun c_20 => ?_) (fun c_20 => ?_)
        · skip
          have b_21 := b01n k_18 c_20
          (try simp only [Int32.lt_iff_toInt_lt, Int32.le_iff_toInt_le, ← Int32.toInt_inj, Int32.reduceToInt, zl1, zl2, zl3, zl4, zl9] at b_21)
          (try simp only [Int32.reduceToInt] at b_21)
          refine lv_iconst (v := (-1)) hx hb dX5_order_56 (by decide) ?_
          have hP9 : va_P (dC, dI) vwCl ([(h0, .inr (6, [.ref sea, .ref pas, .ref fl, .ref fc, .int xlf, .int xhr, .int xho, .int xga, .int xsg, .int xpr, .int xfa, .long xls]))] ++ va_pl L f) H := va_P.part (X := [(h0, .inr (6, [.ref sea, .ref pas, .ref fl, .ref fc, .int xlf, .int xhr, .int xho, .int xga, .int xsg, .int xpr, .int xfa, .long xls]))]) hP [0] rfl
          have hD9 : va_D A ([(h0, .inr (6, [.ref sea, .ref pas, .ref fl, .ref fc, .int xlf, .int xhr, .int xho, .int xga, .int xsg, .int xpr, .int xfa, .long xls]))] ++ va_pl L f) := va_D.part (X := [(h0, .inr (6, [.ref sea, .ref pas, .ref fl, .ref fc, .int xlf, .int xhr, .int xho, .int xga, .int xsg, .int xpr, .int xfa, .long xls]))]) hD [0] (by decide) rfl
          have hK9 := hK.sub (tys' := [(cO, .object "java/lang/Object")]) [0] rfl
          refine W.widen (k := 2) (n := 206) (Nat.le_of_ble_eq_true rfl) (Nat.le_of_ble_eq_true rfl) ?_
          have hv9 : (-1 : Int32).toInt = (-1) := by decide
          exact W.iret (v := (-1)) hx hb hr (fun t ht hW => ⟨⟨(-1), (L, f, own, nO, OW), rfl, inv, ⟨by rw [ht]; exact hP9, va_K.moved hW.alike hK9, hD9⟩⟩, hS.F ht⟩) hS.2.2 dX5_order_57
        · skip
          have b_22 := b01z k_18 c_20
          (try simp only [Int32.lt_iff_toInt_lt, Int32.le_iff_toInt_le, ← Int32.toInt_inj, Int32.reduceToInt, zl1, zl2, zl3, zl4, zl9] at b_22)
          (try simp only [Int32.reduceToInt] at b_22)
          refine lv_iload hx hb dX5_order_46 (lv_at hl 8 rfl) ?_
          refine lv_bipush (v := 7) hx hb dX5_order_48 (by decide) ?_
          refine va_calli (va_runS (As := [.int a6, .int 7]) (rest := []) ⟨hx, hb, hml, hown, hts⟩ (c_X5_outside l H.size a6 7 ) (va_cwS 2 hts gX5_order_X5_outside rfl rfl rfl (by decide +kernel) ⟨Nat.le_of_ble_eq_true rfl, Nat.le_of_ble_eq_true rfl⟩) ⟨fun a U g mk q => by obtain ⟨q0, q1⟩ := q; exact ⟨q0, q1⟩, fun U hU hW => ⟨rfl, congrArg Array.size hU⟩⟩ rfl rfl hl.1 rfl (lv_room (Nat.le_of_ble_eq_true rfl)) dX5_order_50 ⟨(Nat.zero_le _), (Nat.zero_le _)⟩) hS (fun q _ h => ro_A hS hA q h) (ro_A hS hA) (fun r_23 u t H1 locs ht hvm k_24 hB hz1 hk1 hS => ?_)
          have hP := ro_P hk1 hP
          generalize H1 = H at hP hS ⊢
          try dsimp only at k_24
          obtain ⟨k_24, k_25⟩ := k_24
          refine lv_if_eq (tgt := 58) hx hb dX5_order_53 (by decide) (fun c_26 => ?_) (fun c_26 => ?_)
          · skip
            have b_27 := b01z k_24 c_26
            (try simp only [Int32.lt_iff_toInt_lt, Int32.le_iff_toInt_le, ← Int32.toInt_inj, Int32.reduceToInt, zl1, zl2, zl3, zl4, zl9] at b_27)
            (try simp only [Int32.reduceToInt] at b_27)
            refine lv_aload hx hb dX5_order_58 (lv_at hl 0 rfl) ?_
            obtain ⟨k9_28, hk9_28⟩ : ∃ k : Nat, ([(h0, .inr (6, [.ref sea, .ref pas, .ref fl, .ref fc, .int xlf, .int xhr, .int xho, .int xga, .int xsg, .int xpr, .int xfa, .long xls]))] ++ va_pl L f)[k]? = some ((sa a0.toNatClampNeg), .inr (4, [.int (V a0.toNatClampNeg 0), .int (V a0.toNatClampNeg 1), .int (V a0.toNatClampNeg 2), .ref (oa a0.toNatClampNeg), .ref (ia a0.toNatClampNeg), .int (V a0.toNatClampNeg 3), .int (V a0.toNatClampNeg 4), .int (V a0.toNatClampNeg 5), .int (V a0.toNatClampNeg 6), .int (V a0.toNatClampNeg 7), .int (V a0.toNatClampNeg 8), .int (V a0.toNatClampNeg 9), .int (V a0.toNatClampNeg 10), .int (V a0.toNatClampNeg 11)])) := pl_at hsp_7.1 hsp_7.2.1
            refine va_get (D := (dC, dI)) (ci := 4) (v := .ref (oa a0.toNatClampNeg)) (C := RX3) (T := TX3) (N := 14) hx hb hts iw_X5_order_X3 hown hK hP k9_28 hk9_28 rfl 3 (by decide) (hts (.fieldLink RX5 153 "TeaRace$Ship" "orders" "Ljava/util/List;") (by decide +kernel)) (fun _ h9 => h9) rfl dX5_order_60 ?_
            obtain ⟨g_29, hlst_30, hels_31⟩ := id hsp_7.2.2.2.1
            have hPc : va_P (dC, dI) vwCl (([] : va_W) ++ va_pl L f) H := va_P.part (X := [(h0, .inr (6, [.ref sea, .ref pas, .ref fl, .ref fc, .int xlf, .int xhr, .int xho, .int xga, .int xsg, .int xpr, .int xfa, .long xls]))]) hP [] rfl
            have hKc := hK.sub (tys' := []) [] rfl
            obtain ⟨mc_32, ar_33, hm_34, hv_35, hn_36, hb_37⟩ := LstAt.obj hlst_30
            obtain ⟨k8_38, hk8_38⟩ : ∃ k : Nat, (([] : va_W) ++ va_pl L f)[k]? = some ((oa a0.toNatClampNeg), .inr (0, [.int mc_32, .ref ar_33, .int (nI (nO a0.toNatClampNeg))])) := pl_at hm_34 hv_35
            refine va_callFi (va_runF (va_atK hKc (ci := 0) rfl) (As := []) (rest := []) ⟨hx, hb, hml, hown, hts⟩ (c_Jx4a65c_size_8abf5 l dC dI H.size L f te (oa a0.toNatClampNeg) (nO a0.toNatClampNeg) g_29 cO hlst_30) (va_cwF 0 hts gX5_order_Jx4a65c_size_8abf5_f107Jx4a65c rfl rfl rfl hN.fSize (by decide +kernel) ⟨Nat.le_of_ble_eq_true rfl, Nat.le_of_ble_eq_true rfl⟩) ⟨fun a U g mk q => by obtain ⟨q0, q1, qP, qK, qN⟩ := q; exact ⟨q0, q1, qP, va_K.moved (u := U) (U := U.calling g mk a) (Vm.Alike.refl U.vm) qK, NW.same (u := U) (U := U.calling g mk a) rfl qN⟩, va_recv hKc hPc (ci := 0) (q0 := k8_38) rfl hk8_38, fun U hU hW => ⟨rfl, by rw [hU], by rw [hU]; exact hPc, va_K.moved hW.alike hKc, NW.warm hW hN⟩⟩ rfl rfl hl.1 rfl (lv_room (Nat.le_of_ble_eq_true rfl)) dX5_order_63 ⟨(Nat.zero_le _), (Nat.zero_le _)⟩) hS (fun q _ h => ro_A hS hA q h) (ro_A hS hA) (fun r_39 u t H1 locs ht hvm k_40 hB hz1 hk1 hS => ?_)
            have hP := ro_P hk1 hP
            generalize H1 = H at hP hS ⊢
            try dsimp only at k_40
            obtain ⟨k_40, k_41, k_42⟩ := k_40
            refine lv_bipush (v := 20) hx hb dX5_order_68 (by decide) ?_
            refine lv_icmp_lt (tgt := 76) hx hb dX5_order_70 (by decide) (fun c_43 => ?_) (fun c_43 => ?_)
            · skip
              have qc_43 : r_39.toInt < 20 := lt_k rfl (by decide) c_43
              refine lv_aload hx hb dX5_order_76 (lv_at hl 0 rfl) ?_
              obtain ⟨k9_44, hk9_44⟩ : ∃ k : Nat, ([(h0, .inr (6, [.ref sea, .ref pas, .ref fl, .ref fc, .int xlf, .int xhr, .int xho, .int xga, .int xsg, .int xpr, .int xfa, .long xls]))] ++ va_pl L f)[k]? = some ((sa a0.toNatClampNeg), .inr (4, [.int (V a0.toNatClampNeg 0), .int (V a0.toNatClampNeg 1), .int (V a0.toNatClampNeg 2), .ref (oa a0.toNatClampNeg), .ref (ia a0.toNatClampNeg), .int (V a0.toNatClampNeg 3), .int (V a0.toNatClampNeg 4), .int (V a0.toNatClampNeg 5), .int (V a0.toNatClampNeg 6), .int (V a0.toNatClampNeg 7), .int (V a0.toNatClampNeg 8), .int (V a0.toNatClampNeg 9), .int (V a0.toNatClampNeg 10), .int (V a0.toNatClampNeg 11)])) := pl_at hsp_7.1 hsp_7.2.1
              refine va_get (D := (dC, dI)) (ci := 4) (v := .ref (oa a0.toNatClampNeg)) (C := RX3) (T := TX3) (N := 14) hx hb hts iw_X5_order_X3 hown hK hP k9_44 hk9_44 rfl 3 (by decide) (hts (.fieldLink RX5 153 "TeaRace$Ship" "orders" "Ljava/util/List;") (by decide +kernel)) (fun _ h9 => h9) rfl dX5_order_78 ?_
              refine va_new (ci := 1) (fs := [.int 0, .int 0, .int 0, .int 0, .int 0, .int 0]) (C := RX0) (T := TX0) (N := 6) hx hb hts iw_X5_order_X0 tyX0 tyX0_ok hown (hts (.classLink RX5 166 RX0) (by decide +kernel)) (hts (.instantiable RX0 6) (by decide +kernel)) (hts (.initialized RX0) (by decide +kernel)) hK hP hD hS hA rfl (fun j hj => by rcases (show j = 0 ∨ j = 1 ∨ j = 2 ∨ j = 3 ∨ j = 4 ∨ j = 5 by omega) with rfl | rfl | rfl | rfl | rfl | rfl <;> rfl) (Nat.le_of_ble_eq_true rfl) (Nat.le_of_ble_eq_true rfl) dX5_order_81 (fun q_45 H hP hD hS => ?_)
              obtain ⟨hnew_46, hP, hD⟩ := pl_push (X := [(h0, .inr (6, [.ref sea, .ref pas, .ref fl, .ref fc, .int xlf, .int xhr, .int xho, .int xga, .int xsg, .int xpr, .int xfa, .long xls]))]) hP hD
              obtain ⟨f_48, ef_48⟩ : ∃ z : Nat → va_E, z = va_up f q_45 (.inr (1, [.int 0, .int 0, .int 0, .int 0, .int 0, .int 0])) := ⟨_, rfl⟩
              obtain ⟨L_47, eL_47⟩ : ∃ z : List Nat, z = L ++ [q_45] := ⟨_, rfl⟩
              have hP : va_P (dC, dI) vwCl ([(h0, .inr (6, [.ref sea, .ref pas, .ref fl, .ref fc, .int xlf, .int xhr, .int xho, .int xga, .int xsg, .int xpr, .int xfa, .long xls]))] ++ va_pl (L ++ [q_45]) (va_up f q_45 (.inr (1, [.int 0, .int 0, .int 0, .int 0, .int 0, .int 0])))) H := hP
              have hD : va_D A ([(h0, .inr (6, [.ref sea, .ref pas, .ref fl, .ref fc, .int xlf, .int xhr, .int xho, .int xga, .int xsg, .int xpr, .int xfa, .long xls]))] ++ va_pl (L ++ [q_45]) (va_up f q_45 (.inr (1, [.int 0, .int 0, .int 0, .int 0, .int 0, .int 0])))) := hD
              rw [← ef_48, ← eL_47] at hP hD
              have hm_49 : (sa a0.toNatClampNeg) ∈ L_47 := by rw [eL_47]; exact mem_l hsp_7.1
              have ho_50 : f_48 (sa a0.toNatClampNeg) = .inr (4, [.int (V a0.toNatClampNeg 0), .int (V a0.toNatClampNeg 1), .int (V a0.toNatClampNeg 2), .ref (oa a0.toNatClampNeg), .ref (ia a0.toNatClampNeg), .int (V a0.toNatClampNeg 3), .int (V a0.toNatClampNeg 4), .int (V a0.toNatClampNeg 5), .int (V a0.toNatClampNeg 6), .int (V a0.toNatClampNeg 7), .int (V a0.toNatClampNeg 8), .int (V a0.toNatClampNeg 9), .int (V a0.toNatClampNeg 10), .int (V a0.toNatClampNeg 11)]) := by rw [ef_48, va_up_ne _ _ (ne_of_in hsp_7.1 hnew_46)]; exact hsp_7.2.1
              have hm_51 : (oa a0.toNatClampNeg) ∈ L_47 := by rw [eL_47]; exact mem_l hm_34
              have ho_52 : f_48 (oa a0.toNatClampNeg) = .inr (0, [.int mc_32, .ref ar_33, .int (nI (nO a0.toNatClampNeg))]) := by rw [ef_48, va_up_ne _ _ (ne_of_in hm_34 hnew_46)]; exact hv_35
              have hm_53 : q_45 ∈ L_47 := by rw [eL_47]; exact mem_r
              have ho_54 : f_48 q_45 = .inr (1, [.int 0, .int 0, .int 0, .int 0, .int 0, .int 0]) := by rw [ef_48, va_up_self]
              have hq_55 : Inv L_47 f_48 own te cO cB rr cw fl n sa V oa ia nO OW nS SW := by rw [eL_47, ef_48]; exact Inv.push inv hnew_46
              have hq_56 : Ords L_47 f_48 te cO (oa a0.toNatClampNeg) (nO a0.toNatClampNeg) (OW a0.toNatClampNeg) := by rw [eL_47, ef_48]; exact Ords.push hsp_7.2.2.2.1 hnew_46
              have hq_57 : Sigs L_47 f_48 te cO (ia a0.toNatClampNeg) (nS a0.toNatClampNeg) (SW a0.toNatClampNeg) := by rw [eL_47, ef_48]; exact Sigs.push hsp_7.2.2.2.2.2.2.1 hnew_46
              have hq_58 : LstAt L_47 f_48 te cO (oa a0.toNatClampNeg) (nO a0.toNatClampNeg) g_29 := by rw [eL_47, ef_48]; exact LstAt.push hlst_30 hnew_46
              have hP : va_P (dC, dI) vwCl ([(h0, .inr (6, [.ref sea, .ref pas, .ref fl, .ref fc, .int xlf, .int xhr, .int xho, .int xga, .int xsg, .int xpr, .int xfa, .long xls]))] ++ va_pl L_47 f_48) H := hP
              have hD : va_D A ([(h0, .inr (6, [.ref sea, .ref pas, .ref fl, .ref fc, .int xlf, .int xhr, .int xho, .int xga, .int xsg, .int xpr, .int xfa, .long xls]))] ++ va_pl L_47 f_48) := hD
              refine W.widen (k := 1) (n := 6) (Nat.le_of_ble_eq_true rfl) (Nat.le_of_ble_eq_true rfl) ?_
              refine lv_dup hx hb dX5_order_84 rfl ?_
              refine lv_iload_n hx hb dX5_order_85 rfl (lv_at hl 3 rfl) ?_
              refine lv_iload_n hx hb dX5_order_86 rfl (lv_at hl 4 rfl) ?_
              refine lv_iload hx hb dX5_order_87 (lv_at hl 5 rfl) ?_
              refine lv_iload hx hb dX5_order_89 (lv_at hl 6 rfl) ?_
              refine lv_iload hx hb dX5_order_91 (lv_at hl 7 rfl) ?_
              refine lv_iload hx hb dX5_order_93 (lv_at hl 8 rfl) ?_
              have hPc := pl_one hP hm_53 ho_54
              have hDc := pl_oneD hD hm_53 ho_54
              have hFc := pl_oneF hD hS hA hm_53 ho_54
              have hKc := hK.sub (tys' := []) [] rfl
              refine va_callv (va_runI (As := [.int a1, .int a2, .int a3, .int a4, .int a5, .int a6]) (rest := [.ref q_45, .ref (oa a0.toNatClampNeg)]) ⟨hx, hb, hml, hown, hts⟩ (c_X0_init l dC dI H.size q_45 a1 a2 a3 a4 a5 a6 ) (cwI 6 hts gX5_order_X0_init rfl rfl rfl (hts (.initialized RX0) (by decide +kernel)) (hts (.methodLink RX5 168 yX0_init) (by decide +kernel)) (hts (.instanceMethod yX0_init) (by decide +kernel)) rfl (by decide +kernel) ⟨Nat.le_of_ble_eq_true rfl, Nat.le_of_ble_eq_true rfl⟩) ⟨fun a U g mk q => by obtain ⟨q0, q1, qP, qK, qN, qD⟩ := q; exact ⟨q0, q1, qP, va_K.moved (u := U) (U := U.calling g mk a) (Vm.Alike.refl U.vm) qK, NW.same (u := U) (U := U.calling g mk a) rfl qN, qD⟩, fun U hU hW => ⟨rfl, by rw [hU], by rw [hU]; exact hPc, va_K.moved hW.alike hKc, NW.warm hW hN, hDc.weaken (fun _ _ _ _ => trivial)⟩⟩ rfl rfl hl.1 rfl (lv_room (Nat.le_of_ble_eq_true rfl)) dX5_order_95 ⟨Nat.le_of_ble_eq_true rfl, Nat.le_of_ble_eq_true rfl⟩) hS (fun q _ h => hFc q h) hFc (fun u t H1 locs ht hvm k_60 hB hz1 hk1 hS => ?_)
              obtain ⟨hP1, hK1, hD1⟩ := hB
              rw [ht] at hP1
              obtain ⟨hP, hD⟩ := pl_join1 (e' := .inr (1, [.int a6, .int a1, .int a2, .int a3, .int a4, .int a5])) hP hD hm_53 ho_54 hk1 hP1
              obtain ⟨f_61, ef_61⟩ : ∃ z : Nat → va_E, z = va_up f_48 q_45 (.inr (1, [.int a6, .int a1, .int a2, .int a3, .int a4, .int a5])) := ⟨_, rfl⟩
              rw [← ef_61] at hP hD
              have ho_62 : f_61 q_45 = .inr (1, [.int a6, .int a1, .int a2, .int a3, .int a4, .int a5]) := by rw [ef_61, va_up_self]
              generalize H1 = H at hP hS ⊢
              have hP : va_P (dC, dI) vwCl ([(h0, .inr (6, [.ref sea, .ref pas, .ref fl, .ref fc, .int xlf, .int xhr, .int xho, .int xga, .int xsg, .int xpr, .int xfa, .long xls]))] ++ va_pl L_47 f_61) H := hP
              have hD : va_D A ([(h0, .inr (6, [.ref sea, .ref pas, .ref fl, .ref fc, .int xlf, .int xhr, .int xho, .int xga, .int xsg, .int xpr, .int xfa, .long xls]))] ++ va_pl L_47 f_61) := hD
              have inv_63 : Inv L_47 f_61 own te cO cB rr cw fl n sa V oa ia nO OW nS SW := by rw [ef_61, eL_47, ef_48, va_up_up]; exact Inv.push inv hnew_46
              have hsp_64 := inv_63.2.2.2.2.2 a0.toNatClampNeg (tn_lt (by omega) (by omega))
              try dsimp only at k_60
              obtain ⟨g_65, hlst_66, hels_67⟩ := id hsp_64.2.2.2.1
              have hg_68 : Elg L_47 f_61 (nO a0.toNatClampNeg) g_65 := fun k hk => ⟨(hels_67 k hk).1, 1, _, (hels_67 k hk).2, by decide⟩
              have hob_69 : Ob L_47 f_61 q_45 1 [.int a6, .int a1, .int a2, .int a3, .int a4, .int a5] := ⟨hm_53, ho_62, by decide⟩
              have hte : te ∉ L_47 := te_out (X := [(h0, .inr (6, [.ref sea, .ref pas, .ref fl, .ref fc, .int xlf, .int xhr, .int xho, .int xga, .int xsg, .int xpr, .int xfa, .long xls]))]) hZ hD
              have hPc : va_P (dC, dI) vwCl (([] : va_W) ++ va_pl L_47 f_61) H := va_P.part (X := [(h0, .inr (6, [.ref sea, .ref pas, .ref fl, .ref fc, .int xlf, .int xhr, .int xho, .int xga, .int xsg, .int xpr, .int xfa, .long xls]))]) hP [] rfl
              have hDc : va_D A (([] : va_W) ++ va_pl L_47 f_61) := va_D.part (X := [(h0, .inr (6, [.ref sea, .ref pas, .ref fl, .ref fc, .int xlf, .int xhr, .int xho, .int xga, .int xsg, .int xpr, .int xfa, .long xls]))]) hD [] (by decide) rfl
              have hKc := hK.sub (tys' := [(cO, .object "java/lang/Object")]) [0] rfl
              have hFc := va_freeP (X := [(h0, .inr (6, [.ref sea, .ref pas, .ref fl, .ref fc, .int xlf, .int xhr, .int xho, .int xga, .int xsg, .int xpr, .int xfa, .long xls]))]) (cx := []) hD hS hA [] rfl
              obtain ⟨mc_70, ar_71, hm_72, hv_73, hn_74, hb_75⟩ := LstAt.obj hlst_66
              obtain ⟨k8_76, hk8_76⟩ : ∃ k : Nat, (([] : va_W) ++ va_pl L_47 f_61)[k]? = some ((oa a0.toNatClampNeg), .inr (0, [.int mc_70, .ref ar_71, .int (nI (nO a0.toNatClampNeg))])) := pl_at hm_72 hv_73
              refine va_callFi (va_runF (va_atK hKc (ci := 0) rfl) (As := [.ref q_45]) (rest := []) ⟨hx, hb, hml, hown, hts⟩ (c_Jx4a65c_add_9ea2d l dC dI H.size te ea so mi L_47 f_61 (oa a0.toNatClampNeg) (nO a0.toNatClampNeg) g_65 q_45 1 ([.int a6, .int a1, .int a2, .int a3, .int a4, .int a5]) cO (by omega) hlst_66 hg_68 hob_69) (va_cwF 1 hts gX5_order_Jx4a65c_add_9ea2d_f118Jx4a65c rfl rfl rfl hN.fAdd (by decide +kernel) ⟨Nat.le_of_ble_eq_true rfl, Nat.le_of_ble_eq_true rfl⟩) ⟨fun a U g mk q => by obtain ⟨q0, q1, qP, qK, qN, qD, qZ⟩ := q; exact ⟨q0, q1, qP, va_K.moved (u := U) (U := U.calling g mk a) (Vm.Alike.refl U.vm) qK, NW.same (u := U) (U := U.calling g mk a) rfl qN, qD, Zs.moved (u := U) (U := U.calling g mk a) (Vm.Alike.refl U.vm) qZ⟩, va_recv hKc hPc (ci := 0) (q0 := k8_76) rfl hk8_76, fun U hU hW => ⟨rfl, by rw [hU], by rw [hU]; exact hPc, va_K.moved hW.alike hKc, NW.warm hW hN, hDc.weaken (fun _ _ _ _ => trivial), by rw [hU]; exact Zs.pass hZ hS.2.1 hFc hW.alike⟩⟩ rfl rfl hl.1 rfl (lv_room (Nat.le_of_ble_eq_true rfl)) dX5_order_98 ⟨Nat.le_of_ble_eq_true rfl, Nat.le_of_ble_eq_true rfl⟩) hS (fun q _ h => hFc q h) hFc (fun r_77 u t H1 locs ht hvm k_78 hB hz1 hk1 hS => ?_)
              obtain ⟨u_79, u_80, u_81, u_82⟩ := u
              obtain ⟨hP1, hK1, hD1⟩ := hB
              rw [ht] at hP1
              have hK1 := va_K.moved hvm.symm hK1
              obtain ⟨hP, hD⟩ := va_joinP (X := [(h0, .inr (6, [.ref sea, .ref pas, .ref fl, .ref fc, .int xlf, .int xhr, .int xho, .int xga, .int xsg, .int xpr, .int xfa, .long xls]))]) (cx := []) (wr := [(h0, .inr (6, [.ref sea, .ref pas, .ref fl, .ref fc, .int xlf, .int xhr, .int xho, .int xga, .int xsg, .int xpr, .int xfa, .long xls]))]) (rx := []) hP hD [] [0] rfl rfl (by decide) (by decide) hk1 hFc hP1 hD1
              generalize H1 = H at hP hS ⊢
              have hP : va_P (dC, dI) vwCl ([(h0, .inr (6, [.ref sea, .ref pas, .ref fl, .ref fc, .int xlf, .int xhr, .int xho, .int xga, .int xsg, .int xpr, .int xfa, .long xls]))] ++ va_pl u_79 u_80) H := hP
              have hD : va_D A ([(h0, .inr (6, [.ref sea, .ref pas, .ref fl, .ref fc, .int xlf, .int xhr, .int xho, .int xga, .int xsg, .int xpr, .int xfa, .long xls]))] ++ va_pl u_79 u_80) := hD
              obtain ⟨p_83, p_84, p_85, p_86, p_87, p_88, p_89⟩ := id k_78
              have tk_90 : Took L_47 f_61 te cO (oa a0.toNatClampNeg) (nO a0.toNatClampNeg) q_45 g_65 u_79 u_80 u_81 u_82 := ⟨p_83, p_84, p_85, p_86, p_87, p_88⟩
              have hw_91 : f_61 q_45 = ordE (fun j => ([a6, a1, a2, a3, a4, a5] : List Int32).getD j 0) := ho_62.trans rfl
              have inv_92 : Inv u_79 u_80 (own2 own L_47 u_81 (oa a0.toNatClampNeg)) te cO cB rr cw fl n sa V oa ia (va_up nO a0.toNatClampNeg (nO a0.toNatClampNeg + 1)) (va_up OW a0.toNatClampNeg (va_up (OW a0.toNatClampNeg) (nO a0.toNatClampNeg) (fun j => ([a6, a1, a2, a3, a4, a5] : List Int32).getD j 0))) nS SW := Inv.addOrd inv_63 hte (tn_lt (by omega) (by omega)) hlst_66 hels_67 tk_90 hm_53 hw_91 (by omega)
              have hsp_93 := inv_92.2.2.2.2.2 a0.toNatClampNeg (tn_lt (by omega) (by omega))
              try dsimp only at k_78
              obtain ⟨k_78, k_94, k_95, k_96, k_97, k_98, k_99⟩ := k_78
              refine W.widen (k := 2) (n := 206) (Nat.le_of_ble_eq_true rfl) (Nat.le_of_ble_eq_true rfl) ?_
              refine lv_pop hx hb dX5_order_103 rfl ?_
              refine lv_aload hx hb dX5_order_104 (lv_at hl 0 rfl) ?_
              obtain ⟨k9_100, hk9_100⟩ : ∃ k : Nat, ([(h0, .inr (6, [.ref sea, .ref pas, .ref fl, .ref fc, .int xlf, .int xhr, .int xho, .int xga, .int xsg, .int xpr, .int xfa, .long xls]))] ++ va_pl u_79 u_80)[k]? = some ((sa a0.toNatClampNeg), .inr (4, [.int (V a0.toNatClampNeg 0), .int (V a0.toNatClampNeg 1), .int (V a0.toNatClampNeg 2), .ref (oa a0.toNatClampNeg), .ref (ia a0.toNatClampNeg), .int (V a0.toNatClampNeg 3), .int (V a0.toNatClampNeg 4), .int (V a0.toNatClampNeg 5), .int (V a0.toNatClampNeg 6), .int (V a0.toNatClampNeg 7), .int (V a0.toNatClampNeg 8), .int (V a0.toNatClampNeg 9), .int (V a0.toNatClampNeg 10), .int (V a0.toNatClampNeg 11)])) := pl_at hsp_93.1 hsp_93.2.1
              refine va_get (D := (dC, dI)) (ci := 4) (v := .ref (oa a0.toNatClampNeg)) (C := RX3) (T := TX3) (N := 14) hx hb hts iw_X5_order_X3 hown hK hP k9_100 hk9_100 rfl 3 (by decide) (hts (.fieldLink RX5 153 "TeaRace$Ship" "orders" "Ljava/util/List;") (by decide +kernel)) (fun _ h9 => h9) rfl dX5_order_106 ?_
              obtain ⟨g_101, hlst_102, hels_103⟩ := id hsp_93.2.2.2.1
              have hPc : va_P (dC, dI) vwCl (([] : va_W) ++ va_pl u_79 u_80) H := va_P.part (X := [(h0, .inr (6, [.ref sea, .ref pas, .ref fl, .ref fc, .int xlf, .int xhr, .int xho, .int xga, .int xsg, .int xpr, .int xfa, .long xls]))]) hP [] rfl
              have hKc := hK.sub (tys' := []) [] rfl
              obtain ⟨mc_104, ar_105, hm_106, hv_107, hn_108, hb_109⟩ := LstAt.obj hlst_102
              obtain ⟨k8_110, hk8_110⟩ : ∃ k : Nat, (([] : va_W) ++ va_pl u_79 u_80)[k]? = some ((oa a0.toNatClampNeg), .inr (0, [.int mc_104, .ref ar_105, .int (nI ((va_up nO a0.toNatClampNeg (nO a0.toNatClampNeg + 1)) a0.toNatClampNeg))])) := pl_at hm_106 hv_107
              refine va_callFi (va_runF (va_atK hKc (ci := 0) rfl) (As := []) (rest := []) ⟨hx, hb, hml, hown, hts⟩ (c_Jx4a65c_size_8abf5 l dC dI H.size u_79 u_80 te (oa a0.toNatClampNeg) ((va_up nO a0.toNatClampNeg (nO a0.toNatClampNeg + 1)) a0.toNatClampNeg) g_101 cO hlst_102) (va_cwF 0 hts gX5_order_Jx4a65c_size_8abf5_f107Jx4a65c rfl rfl rfl hN.fSize (by decide +kernel) ⟨Nat.le_of_ble_eq_true rfl, Nat.le_of_ble_eq_true rfl⟩) ⟨fun a U g mk q => by obtain ⟨q0, q1, qP, qK, qN⟩ := q; exact ⟨q0, q1, qP, va_K.moved (u := U) (U := U.calling g mk a) (Vm.Alike.refl U.vm) qK, NW.same (u := U) (U := U.calling g mk a) rfl qN⟩, va_recv hKc hPc (ci := 0) (q0 := k8_110) rfl hk8_110, fun U hU hW => ⟨rfl, by rw [hU], by rw [hU]; exact hPc, va_K.moved hW.alike hKc, NW.warm hW hN⟩⟩ rfl rfl hl.1 rfl (lv_room (Nat.le_of_ble_eq_true rfl)) dX5_order_109 ⟨Nat.le_of_ble_eq_true rfl, Nat.le_of_ble_eq_true rfl⟩) hS (fun q _ h => ro_A hS hA q h) (ro_A hS hA) (fun r_111 u t H1 locs ht hvm k_112 hB hz1 hk1 hS => ?_)
              have hP := ro_P hk1 hP
              generalize H1 = H at hP hS ⊢
              try dsimp only at k_112
              obtain ⟨k_112, k_113, k_114⟩ := k_112
              have hP9 : va_P (dC, dI) vwCl ([(h0, .inr (6, [.ref sea, .ref pas, .ref fl, .ref fc, .int xlf, .int xhr, .int xho, .int xga, .int xsg, .int xpr, .int xfa, .long xls]))] ++ va_pl u_79 u_80) H := va_P.part (X := [(h0, .inr (6, [.ref sea, .ref pas, .ref fl, .ref fc, .int xlf, .int xhr, .int xho, .int xga, .int xsg, .int xpr, .int xfa, .long xls]))]) hP [0] rfl
              have hD9 : va_D A ([(h0, .inr (6, [.ref sea, .ref pas, .ref fl, .ref fc, .int xlf, .int xhr, .int xho, .int xga, .int xsg, .int xpr, .int xfa, .long xls]))] ++ va_pl u_79 u_80) := va_D.part (X := [(h0, .inr (6, [.ref sea, .ref pas, .ref fl, .ref fc, .int xlf, .int xhr, .int xho, .int xga, .int xsg, .int xpr, .int xfa, .long xls]))]) hD [0] (by decide) rfl
              have hK9 := hK.sub (tys' := [(cO, .object "java/lang/Object")]) [0] rfl
              refine W.widen (k := 2) (n := 206) (Nat.le_of_ble_eq_true rfl) (Nat.le_of_ble_eq_true rfl) ?_
              exact W.iret (v := r_111) hx hb hr (fun t ht hW => ⟨⟨r_111, (u_79, u_80, (own2 own L_47 u_81 (oa a0.toNatClampNeg)), (va_up nO a0.toNatClampNeg (nO a0.toNatClampNeg + 1)), (va_up OW a0.toNatClampNeg (va_up (OW a0.toNatClampNeg) (nO a0.toNatClampNeg) (fun j => ([a6, a1, a2, a3, a4, a5] : List Int32).getD j 0)))), rfl, inv_92, ⟨by rw [ht]; exact hP9, va_K.moved hW.alike hK9, hD9⟩⟩, hS.F ht⟩) hS.2.2 dX5_order_114
            · skip
              have qc_43 : 20 ≤ r_39.toInt := nlt_k rfl (by decide) c_43
              refine lv_bipush (v := (-2)) hx hb dX5_order_73 (by decide) ?_
              have hP9 : va_P (dC, dI) vwCl ([(h0, .inr (6, [.ref sea, .ref pas, .ref fl, .ref fc, .int xlf, .int xhr, .int xho, .int xga, .int xsg, .int xpr, .int xfa, .long xls]))] ++ va_pl L f) H := va_P.part (X := [(h0, .inr (6, [.ref sea, .ref pas, .ref fl, .ref fc, .int xlf, .int xhr, .int xho, .int xga, .int xsg, .int xpr, .int xfa, .long xls]))]) hP [0] rfl
              have hD9 : va_D A ([(h0, .inr (6, [.ref sea, .ref pas, .ref fl, .ref fc, .int xlf, .int xhr, .int xho, .int xga, .int xsg, .int xpr, .int xfa, .long xls]))] ++ va_pl L f) := va_D.part (X := [(h0, .inr (6, [.ref sea, .ref pas, .ref fl, .ref fc, .int xlf, .int xhr, .int xho, .int xga, .int xsg, .int xpr, .int xfa, .long xls]))]) hD [0] (by decide) rfl
              have hK9 := hK.sub (tys' := [(cO, .object "java/lang/Object")]) [0] rfl
              refine W.widen (k := 2) (n := 206) (Nat.le_of_ble_eq_true rfl) (Nat.le_of_ble_eq_true rfl) ?_
              have hv9 : (-2 : Int32).toInt = (-2) := by decide
              exact W.iret (v := (-2)) hx hb hr (fun t ht hW => ⟨⟨(-2), (L, f, own, nO, OW), rfl, inv, ⟨by rw [ht]; exact hP9, va_K.moved hW.alike hK9, hD9⟩⟩, hS.F ht⟩) hS.2.2 dX5_order_75
          · skip
            have b_115 := b01n k_24 c_26
            (try simp only [Int32.lt_iff_toInt_lt, Int32.le_iff_toInt_le, ← Int32.toInt_inj, Int32.reduceToInt, zl1, zl2, zl3, zl4, zl9] at b_115)
            (try simp only [Int32.reduceToInt] at b_115)
            refine lv_iconst (v := (-1)) hx hb dX5_order_56 (by decide) ?_
            have hP9 : va_P (dC, dI) vwCl ([(h0, .inr (6, [.ref sea, .ref pas, .ref fl, .ref fc, .int xlf, .int xhr, .int xho, .int xga, .int xsg, .int xpr, .int xfa, .long xls]))] ++ va_pl L f) H := va_P.part (X := [(h0, .inr (6, [.ref sea, .ref pas, .ref fl, .ref fc, .int xlf, .int xhr, .int xho, .int xga, .int xsg, .int xpr, .int xfa, .long xls]))]) hP [0] rfl
            have hD9 : va_D A ([(h0, .inr (6, [.ref sea, .ref pas, .ref fl, .ref fc, .int xlf, .int xhr, .int xho, .int xga, .int xsg, .int xpr, .int xfa, .long xls]))] ++ va_pl L f) := va_D.part (X := [(h0, .inr (6, [.ref sea, .ref pas, .ref fl, .ref fc, .int xlf, .int xhr, .int xho, .int xga, .int xsg, .int xpr, .int xfa, .long xls]))]) hD [0] (by decide) rfl
            have hK9 := hK.sub (tys' := [(cO, .object "java/lang/Object")]) [0] rfl
            refine W.widen (k := 2) (n := 206) (Nat.le_of_ble_eq_true rfl) (Nat.le_of_ble_eq_true rfl) ?_
            have hv9 : (-1 : Int32).toInt = (-1) := by decide
            exact W.iret (v := (-1)) hx hb hr (fun t ht hW => ⟨⟨(-1), (L, f, own, nO, OW), rfl, inv, ⟨by rw [ht]; exact hP9, va_K.moved hW.alike hK9, hD9⟩⟩, hS.F ht⟩) hS.2.2 dX5_order_57
      · skip
        have b_116 := b01n k_14 c_15
        (try simp only [Int32.lt_iff_toInt_lt, Int32.le_iff_toInt_le, ← Int32.toInt_inj, Int32.reduceToInt, zl1, zl2, zl3, zl4, zl9] at b_116)
        (try simp only [Int32.reduceToInt] at b_116)
        refine lv_iconst (v := (-1)) hx hb dX5_order_34 (by decide) ?_
        have hP9 : va_P (dC, dI) vwCl ([(h0, .inr (6, [.ref sea, .ref pas, .ref fl, .ref fc, .int xlf, .int xhr, .int xho, .int xga, .int xsg, .int xpr, .int xfa, .long xls]))] ++ va_pl L f) H := va_P.part (X := [(h0, .inr (6, [.ref sea, .ref pas, .ref fl, .ref fc, .int xlf, .int xhr, .int xho, .int xga, .int xsg, .int xpr, .int xfa, .long xls]))]) hP [0] rfl
        have hD9 : va_D A ([(h0, .inr (6, [.ref sea, .ref pas, .ref fl, .ref fc, .int xlf, .int xhr, .int xho, .int xga, .int xsg, .int xpr, .int xfa, .long xls]))] ++ va_pl L f) := va_D.part (X := [(h0, .inr (6, [.ref sea, .ref pas, .ref fl, .ref fc, .int xlf, .int xhr, .int xho, .int xga, .int xsg, .int xpr, .int xfa, .long xls]))]) hD [0] (by decide) rfl
        have hK9 := hK.sub (tys' := [(cO, .object "java/lang/Object")]) [0] rfl
        refine W.widen (k := 2) (n := 206) (Nat.le_of_ble_eq_true rfl) (Nat.le_of_ble_eq_true rfl) ?_
        have hv9 : (-1 : Int32).toInt = (-1) := by decide
        exact W.iret (v := (-1)) hx hb hr (fun t ht hW => ⟨⟨(-1), (L, f, own, nO, OW), rfl, inv, ⟨by rw [ht]; exact hP9, va_K.moved hW.alike hK9, hD9⟩⟩, hS.F ht⟩) hS.2.2 dX5_order_35
