set_option maxRecDepth 20000 in
theorem iw_X5_ship_X5 : ∀ w ∈ wsX50, w ∈ wsX5_ship := by decide +kernel
set_option maxRecDepth 20000 in
theorem iw_X5_ship_X3 : ∀ w ∈ wsX30, w ∈ wsX5_ship := by decide +kernel
set_option maxHeartbeats 4000000 in
set_option maxRecDepth 100000 in
/-- ship -/
theorem c_X5_ship (l : Launch) (dC : Nat → ClassId) (dI : Nat → Nat → Nat) (sz : Nat) (te : Nat) (ea : Nat) (so : Nat) (mi : Nat) (L : List Nat) (f : Nat → va_E) (h0 : Nat) (sea : Nat) (pas : Nat) (fl : Nat) (fc : Nat) (xlf : Int32) (xhr : Int32) (xho : Int32) (xga : Int32) (xsg : Int32) (xpr : Int32) (xfa : Int32) (xls : Int64) (lc : Nat) (ct : Nat) (ch : Nat) (Lc : Nat → Int32) (cZ : ClassId) (cB : ClassId) (own : Nat → Nat) (cO : ClassId) (rr : Nat → Nat) (cw : Nat → Nat → Int32) (n : Nat) (sa : Nat → Nat) (V : Nat → Nat → Int32) (oa : Nat → Nat) (ia : Nat → Nat) (nO : Nat → Nat) (OW : Nat → Nat → Nat → Int32) (nS : Nat → Nat) (SW : Nat → Nat → Nat → Int32) (a0 : Int32) (a1 : Int32) (a2 : Int32) (inv : Inv L f own te cO cB rr cw fl n sa V oa ia nO OW nS SW) : Met l yX5_ship wsX5_ship ({ frames := 7, cells := 4, slots := 220, locals := 191 }) (va_Pc [.ref h0, .int a0, .int a1, .int a2] (fun U => U.heap.size = sz ∧ va_P (dC, dI) vwCl ([(h0, .inr (6, [.ref sea, .ref pas, .ref fl, .ref fc, .int xlf, .int xhr, .int xho, .int xga, .int xsg, .int xpr, .int xfa, .long xls])), (sea, .inr (3, [.ref lc, .ref ct, .ref ch])), (lc, .inl (cZ, 160, .inl Lc))] ++ va_pl L f) U.heap ∧ va_K (dC, dI) vwCl [(cZ, .boolean), (cO, .object "java/lang/Object")] U ∧ NW U ∧ va_D (fun _ => True) ([(h0, .inr (6, [.ref sea, .ref pas, .ref fl, .ref fc, .int xlf, .int xhr, .int xho, .int xga, .int xsg, .int xpr, .int xfa, .long xls])), (sea, .inr (3, [.ref lc, .ref ct, .ref ch])), (lc, .inl (cZ, 160, .inl Lc))] ++ va_pl L f) ∧ Zs te ea so mi (va_A ([(h0, .inr (6, [.ref sea, .ref pas, .ref fl, .ref fc, .int xlf, .int xhr, .int xho, .int xga, .int xsg, .int xpr, .int xfa, .long xls])), (sea, .inr (3, [.ref lc, .ref ct, .ref ch])), (lc, .inl (cZ, 160, .inl Lc))] ++ va_pl L f) sz) U U.heap)) (va_Qi (fun (r : Int32) (u : List Nat × (Nat → va_E) × (Nat → Nat) × Nat × (Nat → Nat) × (Nat → Nat → Int32) × (Nat → Nat) × (Nat → Nat) × (Nat → Nat) × (Nat → Nat → Nat → Int32) × (Nat → Nat) × (Nat → Nat → Nat → Int32)) => (Inv u.1 u.2.1 u.2.2.1 te cO cB rr cw fl u.2.2.2.1 u.2.2.2.2.1 u.2.2.2.2.2.1 u.2.2.2.2.2.2.1 u.2.2.2.2.2.2.2.1 u.2.2.2.2.2.2.2.2.1 u.2.2.2.2.2.2.2.2.2.1 u.2.2.2.2.2.2.2.2.2.2.1 u.2.2.2.2.2.2.2.2.2.2.2) ∧ (∀ B : Int, 0 ≤ B → (∀ i, i < n → (nS i : Int) ≤ B) → ∀ i, i < u.2.2.2.1 → (u.2.2.2.2.2.2.2.2.2.2.1 i : Int) ≤ B)) (fun u t => va_P (dC, dI) vwCl ([(h0, .inr (6, [.ref sea, .ref pas, .ref fl, .ref fc, .int xlf, .int xhr, .int xho, .int xga, .int xsg, .int xpr, .int xfa, .long xls])), (sea, .inr (3, [.ref lc, .ref ct, .ref ch])), (lc, .inl (cZ, 160, .inl Lc))] ++ va_pl u.1 u.2.1) t.heap ∧ va_K (dC, dI) vwCl [(cZ, .boolean), (cO, .object "java/lang/Object")] t ∧ va_D (va_A ([(h0, .inr (6, [.ref sea, .ref pas, .ref fl, .ref fc, .int xlf, .int xhr, .int xho, .int xga, .int xsg, .int xpr, .int xfa, .long xls])), (sea, .inr (3, [.ref lc, .ref ct, .ref ch])), (lc, .inl (cZ, 160, .inl Lc))] ++ va_pl L f) sz) ([(h0, .inr (6, [.ref sea, .ref pas, .ref fl, .ref fc, .int xlf, .int xhr, .int xho, .int xga, .int xsg, .int xpr, .int xfa, .long xls])), (sea, .inr (3, [.ref lc, .ref ct, .ref ch])), (lc, .inl (cZ, 160, .inl Lc))] ++ va_pl u.1 u.2.1)) (va_A ([(h0, .inr (6, [.ref sea, .ref pas, .ref fl, .ref fc, .int xlf, .int xhr, .int xho, .int xga, .int xsg, .int xpr, .int xfa, .long xls])), (sea, .inr (3, [.ref lc, .ref ct, .ref ch])), (lc, .inl (cZ, 160, .inl Lc))] ++ va_pl L f) sz)) 4 220 (va_A ([(h0, .inr (6, [.ref sea, .ref pas, .ref fl, .ref fc, .int xlf, .int xhr, .int xho, .int xga, .int xsg, .int xpr, .int xfa, .long xls])), (sea, .inr (3, [.ref lc, .ref ct, .ref ch])), (lc, .inl (cZ, 160, .inl Lc))] ++ va_pl L f) sz) := by
  refine Met.ofW (cc := cX5_ship) (maxL := 5) (ret := (some .int)) (by decide) rfl ?_
  intro p e s m args below meth c s₁ B hml hv
  obtain ⟨rfl, hsz, hP, hK, hN, hD0, hZ⟩ := hv
  have hx := B.exec
  have hb := B.bytes
  have hr := B.returns
  have hts := atoms_spec (ws := wsX5_ship) B.pre
  have hown : s.vm.findClass RX5 = some m.cls := findClass_of_methodNamed B.named
  have hlocks := B.notSynchronized
  subst hsz
  have hD := hD0.self (sz := s.heap.size)
  generalize hAe : va_A ([(h0, .inr (6, [.ref sea, .ref pas, .ref fl, .ref fc, .int xlf, .int xhr, .int xho, .int xga, .int xsg, .int xpr, .int xfa, .long xls])), (sea, .inr (3, [.ref lc, .ref ct, .ref ch])), (lc, .inl (cZ, 160, .inl Lc))] ++ va_pl L f) s.heap.size = A at hD hZ ⊢
  have hA : ∀ q : Nat, s.heap.size ≤ q → A q := fun q h => by rw [← hAe]; exact Or.inr h
  have hS : va_S A s.heap s.heap [] := va_S.rf
  have hP : va_P (dC, dI) vwCl ([(h0, .inr (6, [.ref sea, .ref pas, .ref fl, .ref fc, .int xlf, .int xhr, .int xho, .int xga, .int xsg, .int xpr, .int xfa, .long xls])), (sea, .inr (3, [.ref lc, .ref ct, .ref ch])), (lc, .inl (cZ, 160, .inl Lc))] ++ va_pl L f) s.heap := hP
  have hl := lv_entry ([.ref h0, .int a0, .int a1, .int a2]) (n := 5) (Nat.le_of_ble_eq_true rfl)
  rw [lg_entry_eq]
  generalize (lg_sl ([.ref h0, .int a0, .int a1, .int a2]) ++ List.replicate (5 - (lg_sl ([.ref h0, .int a0, .int a1, .int a2])).length) Slot.unset).toArray = ls at hl ⊢
  have hl : lv_has ls 5 [(0, .ref h0), (1, .int a0), (2, .int a1), (3, .int a2)] := hl
  refine lv_iload_n hx hb dX5_ship_0 rfl (lv_at hl 1 rfl) ?_
  refine lv_iconst (v := 3) hx hb dX5_ship_1 (by decide) ?_
  refine va_calli (va_runS (As := [.int a0, .int 3]) (rest := []) ⟨hx, hb, hml, hown, hts⟩ (c_X5_outside l s.heap.size a0 3 ) (va_cwS 2 hts gX5_ship_X5_outside rfl rfl rfl (by decide +kernel) ⟨Nat.le_of_ble_eq_true rfl, Nat.le_of_ble_eq_true rfl⟩) ⟨fun a U g mk q => by obtain ⟨q0, q1⟩ := q; exact ⟨q0, q1⟩, fun U hU hW => ⟨rfl, congrArg Array.size hU⟩⟩ rfl rfl hl.1 rfl (lv_room (Nat.le_of_ble_eq_true rfl)) dX5_ship_2 ⟨(Nat.zero_le _), (Nat.zero_le _)⟩) hS (fun q _ h => ro_A hS hA q h) (ro_A hS hA) (fun r_1 u t H1 locs ht hvm k_2 hB hz1 hk1 hS => ?_)
  have hP := ro_P hk1 hP
  generalize H1 = H at hP hS ⊢
  try dsimp only at k_2
  obtain ⟨k_2, k_3⟩ := k_2
  refine lv_if_ne (tgt := 26) hx hb dX5_ship_5 (by decide) (fun c_4 => ?_) (fun c_4 => ?_)
  · skip
    have b_5 := b01n k_2 c_4
    (try simp only [Int32.lt_iff_toInt_lt, Int32.le_iff_toInt_le, ← Int32.toInt_inj, Int32.reduceToInt, zl1, zl2, zl3, zl4, zl9] at b_5)
    (try simp only [Int32.reduceToInt] at b_5)
    refine lv_iconst (v := (-1)) hx hb dX5_ship_26 (by decide) ?_
    have hP9 : va_P (dC, dI) vwCl ([(h0, .inr (6, [.ref sea, .ref pas, .ref fl, .ref fc, .int xlf, .int xhr, .int xho, .int xga, .int xsg, .int xpr, .int xfa, .long xls])), (sea, .inr (3, [.ref lc, .ref ct, .ref ch])), (lc, .inl (cZ, 160, .inl Lc))] ++ va_pl L f) H := va_P.part (X := [(h0, .inr (6, [.ref sea, .ref pas, .ref fl, .ref fc, .int xlf, .int xhr, .int xho, .int xga, .int xsg, .int xpr, .int xfa, .long xls])), (sea, .inr (3, [.ref lc, .ref ct, .ref ch])), (lc, .inl (cZ, 160, .inl Lc))]) hP [0, 1, 2] rfl
    have hD9 : va_D A ([(h0, .inr (6, [.ref sea, .ref pas, .ref fl, .ref fc, .int xlf, .int xhr, .int xho, .int xga, .int xsg, .int xpr, .int xfa, .long xls])), (sea, .inr (3, [.ref lc, .ref ct, .ref ch])), (lc, .inl (cZ, 160, .inl Lc))] ++ va_pl L f) := va_D.part (X := [(h0, .inr (6, [.ref sea, .ref pas, .ref fl, .ref fc, .int xlf, .int xhr, .int xho, .int xga, .int xsg, .int xpr, .int xfa, .long xls])), (sea, .inr (3, [.ref lc, .ref ct, .ref ch])), (lc, .inl (cZ, 160, .inl Lc))]) hD [0, 1, 2] (by decide) rfl
    have hK9 := hK.sub (tys' := [(cZ, .boolean), (cO, .object "java/lang/Object")]) [0, 1] rfl
    refine W.widen (k := 4) (n := 220) (Nat.le_of_ble_eq_true rfl) (Nat.le_of_ble_eq_true rfl) ?_
    have hv9 : (-1 : Int32).toInt = (-1) := by decide
    exact W.iret (v := (-1)) hx hb hr (fun t ht hW => ⟨⟨(-1), (L, f, own, n, sa, V, oa, ia, nO, OW, nS, SW), rfl, ⟨inv, (fun B hB h => h)⟩, ⟨by rw [ht]; exact hP9, va_K.moved hW.alike hK9, hD9⟩⟩, hS.F ht⟩) hS.2.2 dX5_ship_27
  · skip
    have b_6 := b01z k_2 c_4
    (try simp only [Int32.lt_iff_toInt_lt, Int32.le_iff_toInt_le, ← Int32.toInt_inj, Int32.reduceToInt, zl1, zl2, zl3, zl4, zl9] at b_6)
    (try simp only [Int32.reduceToInt] at b_6)
    refine lv_aload_n hx hb dX5_ship_8 rfl (lv_at hl 0 rfl) ?_
    refine lv_iload_n hx hb dX5_ship_9 rfl (lv_at hl 2 rfl) ?_
    have hPc := hP.sub (ws' := [(h0, .inr (6, [.ref sea, .ref pas, .ref fl, .ref fc, .int xlf, .int xhr, .int xho, .int xga, .int xsg, .int xpr, .int xfa, .long xls])), (sea, .inr (3, [.ref lc, .ref ct, .ref ch])), (lc, .inl (cZ, 160, .inl Lc))]) [0, 1, 2] rfl
    have hKc := hK.sub (tys' := [(cZ, .boolean)]) [0] rfl
    refine va_calli (va_runV (As := [.int a1]) (rest := []) ⟨hx, hb, hml, hown, hts⟩ (c_X5_isNoWater l dC dI H.size h0 sea pas fl fc xlf xhr xho xga xsg xpr xfa xls lc ct ch Lc cZ a1 ) (cwV 1 hts gX5_ship_X5_isNoWater rfl rfl rfl (by decide +kernel) ⟨Nat.le_of_ble_eq_true rfl, Nat.le_of_ble_eq_true rfl⟩) ⟨fun a U g mk q => by obtain ⟨q0, q1, qP, qK, qN⟩ := q; exact ⟨q0, q1, qP, va_K.moved (u := U) (U := U.calling g mk a) (Vm.Alike.refl U.vm) qK, NW.same (u := U) (U := U.calling g mk a) rfl qN⟩, va_recv hKc hPc (ci := 6) (q0 := 0) rfl rfl, fun U hU hW => ⟨rfl, by rw [hU], by rw [hU]; exact hPc, va_K.moved hW.alike hKc, NW.warm hW hN⟩⟩ rfl rfl hl.1 rfl (lv_room (Nat.le_of_ble_eq_true rfl)) dX5_ship_10 ⟨(Nat.zero_le _), (Nat.zero_le _)⟩) hS (fun q _ h => ro_A hS hA q h) (ro_A hS hA) (fun r_7 u t H1 locs ht hvm k_8 hB hz1 hk1 hS => ?_)
    have hP := ro_P hk1 hP
    generalize H1 = H at hP hS ⊢
    try dsimp only at k_8
    obtain ⟨k_8, k_9⟩ := k_8
    refine lv_if_ne (tgt := 26) hx hb dX5_ship_13 (by decide) (fun c_10 => ?_) (fun c_10 => ?_)
    · skip
      have b_11 := b01n k_8 c_10
      (try simp only [Int32.lt_iff_toInt_lt, Int32.le_iff_toInt_le, ← Int32.toInt_inj, Int32.reduceToInt, zl1, zl2, zl3, zl4, zl9] at b_11)
      (try simp only [Int32.reduceToInt] at b_11)
      refine lv_iconst (v := (-1)) hx hb dX5_ship_26 (by decide) ?_
      have hP9 : va_P (dC, dI) vwCl ([(h0, .inr (6, [.ref sea, .ref pas, .ref fl, .ref fc, .int xlf, .int xhr, .int xho, .int xga, .int xsg, .int xpr, .int xfa, .long xls])), (sea, .inr (3, [.ref lc, .ref ct, .ref ch])), (lc, .inl (cZ, 160, .inl Lc))] ++ va_pl L f) H := va_P.part (X := [(h0, .inr (6, [.ref sea, .ref pas, .ref fl, .ref fc, .int xlf, .int xhr, .int xho, .int xga, .int xsg, .int xpr, .int xfa, .long xls])), (sea, .inr (3, [.ref lc, .ref ct, .ref ch])), (lc, .inl (cZ, 160, .inl Lc))]) hP [0, 1, 2] rfl
      have hD9 : va_D A ([(h0, .inr (6, [.ref sea, .ref pas, .ref fl, .ref fc, .int xlf, .int xhr, .int xho, .int xga, .int xsg, .int xpr, .int xfa, .long xls])), (sea, .inr (3, [.ref lc, .ref ct, .ref ch])), (lc, .inl (cZ, 160, .inl Lc))] ++ va_pl L f) := va_D.part (X := [(h0, .inr (6, [.ref sea, .ref pas, .ref fl, .ref fc, .int xlf, .int xhr, .int xho, .int xga, .int xsg, .int xpr, .int xfa, .long xls])), (sea, .inr (3, [.ref lc, .ref ct, .ref ch])), (lc, .inl (cZ, 160, .inl Lc))]) hD [0, 1, 2] (by decide) rfl
      have hK9 := hK.sub (tys' := [(cZ, .boolean), (cO, .object "java/lang/Object")]) [0, 1] rfl
      refine W.widen (k := 4) (n := 220) (Nat.le_of_ble_eq_true rfl) (Nat.le_of_ble_eq_true rfl) ?_
      have hv9 : (-1 : Int32).toInt = (-1) := by decide
      exact W.iret (v := (-1)) hx hb hr (fun t ht hW => ⟨⟨(-1), (L, f, own, n, sa, V, oa, ia, nO, OW, nS, SW), rfl, ⟨inv, (fun B hB h => h)⟩, ⟨by rw [ht]; exact hP9, va_K.moved hW.alike hK9, hD9⟩⟩, hS.F ht⟩) hS.2.2 dX5_ship_27
    · skip
      have b_12 := b01z k_8 c_10
      (try simp only [Int32.lt_iff_toInt_lt, Int32.le_iff_toInt_le, ← Int32.toInt_inj, Int32.reduceToInt, zl1, zl2, zl3, zl4, zl9] at b_12)
      (try simp only [Int32.reduceToInt] at b_12)
      refine lv_iload_n hx hb dX5_ship_16 rfl (lv_at hl 3 rfl) ?_
      refine lv_sipush (v := 20000) hx hb dX5_ship_17 (by decide) ?_
      refine va_calli (va_runS (As := [.int a2, .int 20000]) (rest := []) ⟨hx, hb, hml, hown, hts⟩ (c_X5_outside l H.size a2 20000 ) (va_cwS 2 hts gX5_ship_X5_outside rfl rfl rfl (by decide +kernel) ⟨Nat.le_of_ble_eq_true rfl, Nat.le_of_ble_eq_true rfl⟩) ⟨fun a U g mk q => by obtain ⟨q0, q1⟩ := q; exact ⟨q0, q1⟩, fun U hU hW => ⟨rfl, congrArg Array.size hU⟩⟩ rfl rfl hl.1 rfl (lv_room (Nat.le_of_ble_eq_true rfl)) dX5_ship_20 ⟨(Nat.zero_le _), (Nat.zero_le _)⟩) hS (fun q _ h => ro_A hS hA q h) (ro_A hS hA) (fun r_13 u t H1 locs ht hvm k_14 hB hz1 hk1 hS => ?_)
      have hP := ro_P hk1 hP
      generalize H1 = H at hP hS ⊢
      try dsimp only at k_14
      obtain ⟨k_14, k_15⟩ := k_14
      refine lv_if_eq (tgt := 28) hx hb dX5_ship_23 (by decide) (fun c_16 => ?_) (fun c_16 => ?_)
      · skip
        have b_17 := b01z k_14 c_16
        (try simp only [Int32.lt_iff_toInt_lt, Int32.le_iff_toInt_le, ← Int32.toInt_inj, Int32.reduceToInt, zl1, zl2, zl3, zl4, zl9] at b_17)
        (try simp only [Int32.reduceToInt] at b_17)
        refine lv_aload_n hx hb dX5_ship_28 rfl (lv_at hl 0 rfl) ?_
        refine va_get (D := (dC, dI)) (ci := 6) (v := .ref fl) (C := RX5) (T := TX5) (N := 12) hx hb hts iw_X5_ship_X5 hown hK hP 0 rfl rfl 2 (by decide) (hts (.fieldLink RX5 26 "TeaRace" "fleet" "Ljava/util/List;") (by decide +kernel)) (fun _ h9 => h9) rfl dX5_ship_29 ?_
        have hlf_18 := inv.2.1
        have hPc : va_P (dC, dI) vwCl (([] : va_W) ++ va_pl L f) H := va_P.part (X := [(h0, .inr (6, [.ref sea, .ref pas, .ref fl, .ref fc, .int xlf, .int xhr, .int xho, .int xga, .int xsg, .int xpr, .int xfa, .long xls])), (sea, .inr (3, [.ref lc, .ref ct, .ref ch])), (lc, .inl (cZ, 160, .inl Lc))]) hP [] rfl
        have hKc := hK.sub (tys' := []) [] rfl
        obtain ⟨mc_19, ar_20, hm_21, hv_22, hn_23, hb_24⟩ := LstAt.obj hlf_18
        obtain ⟨k8_25, hk8_25⟩ : ∃ k : Nat, (([] : va_W) ++ va_pl L f)[k]? = some (fl, .inr (0, [.int mc_19, .ref ar_20, .int (nI n)])) := pl_at hm_21 hv_22
        refine va_callFi (va_runF (va_atK hKc (ci := 0) rfl) (As := []) (rest := []) ⟨hx, hb, hml, hown, hts⟩ (c_Jx4a65c_size_8abf5 l dC dI H.size L f te fl n sa cO hlf_18) (va_cwF 0 hts gX5_ship_Jx4a65c_size_8abf5_f107Jx4a65c rfl rfl rfl hN.fSize (by decide +kernel) ⟨Nat.le_of_ble_eq_true rfl, Nat.le_of_ble_eq_true rfl⟩) ⟨fun a U g mk q => by obtain ⟨q0, q1, qP, qK, qN⟩ := q; exact ⟨q0, q1, qP, va_K.moved (u := U) (U := U.calling g mk a) (Vm.Alike.refl U.vm) qK, NW.same (u := U) (U := U.calling g mk a) rfl qN⟩, va_recv hKc hPc (ci := 0) (q0 := k8_25) rfl hk8_25, fun U hU hW => ⟨rfl, by rw [hU], by rw [hU]; exact hPc, va_K.moved hW.alike hKc, NW.warm hW hN⟩⟩ rfl rfl hl.1 rfl (lv_room (Nat.le_of_ble_eq_true rfl)) dX5_ship_32 ⟨(Nat.zero_le _), (Nat.zero_le _)⟩) hS (fun q _ h => ro_A hS hA q h) (ro_A hS hA) (fun r_26 u t H1 locs ht hvm k_27 hB hz1 hk1 hS => ?_)
        have hP := ro_P hk1 hP
        generalize H1 = H at hP hS ⊢
        try dsimp only at k_27
        obtain ⟨k_27, k_28, k_29⟩ := k_27
        refine lv_bipush (v := 8) hx hb dX5_ship_37 (by decide) ?_
        refine lv_icmp_lt (tgt := 45) hx hb dX5_ship_39 (by decide) (fun c_30 => ?_) (fun c_30 => ?_)
        · skip
          have qc_30 : r_26.toInt < 8 := lt_k rfl (by decide) c_30
          refine lv_aload_n hx hb dX5_ship_45 rfl (lv_at hl 0 rfl) ?_
          refine va_get (D := (dC, dI)) (ci := 6) (v := .int xhr) (C := RX5) (T := TX5) (N := 12) hx hb hts iw_X5_ship_X5 hown hK hP 0 rfl rfl 5 (by decide) (hts (.fieldLink RX5 38 "TeaRace" "hour" "I") (by decide +kernel)) (fun _ h9 => h9) rfl dX5_ship_46 ?_
          refine lv_if_eq (tgt := 55) hx hb dX5_ship_49 (by decide) (fun c_31 => ?_) (fun c_31 => ?_)
          · skip
            have qc_31 : xhr.toInt = 0 := eq_k rfl (by decide) c_31
            refine lv_aload_n hx hb dX5_ship_55 rfl (lv_at hl 0 rfl) ?_
            refine va_get (D := (dC, dI)) (ci := 6) (v := .ref fl) (C := RX5) (T := TX5) (N := 12) hx hb hts iw_X5_ship_X5 hown hK hP 0 rfl rfl 2 (by decide) (hts (.fieldLink RX5 26 "TeaRace" "fleet" "Ljava/util/List;") (by decide +kernel)) (fun _ h9 => h9) rfl dX5_ship_56 ?_
            have hPc : va_P (dC, dI) vwCl (([] : va_W) ++ va_pl L f) H := va_P.part (X := [(h0, .inr (6, [.ref sea, .ref pas, .ref fl, .ref fc, .int xlf, .int xhr, .int xho, .int xga, .int xsg, .int xpr, .int xfa, .long xls])), (sea, .inr (3, [.ref lc, .ref ct, .ref ch])), (lc, .inl (cZ, 160, .inl Lc))]) hP [] rfl
            have hKc := hK.sub (tys' := []) [] rfl
            obtain ⟨k8_32, hk8_32⟩ : ∃ k : Nat, (([] : va_W) ++ va_pl L f)[k]? = some (fl, .inr (0, [.int mc_19, .ref ar_20, .int (nI n)])) := pl_at hm_21 hv_22
            refine va_callFi (va_runF (va_atK hKc (ci := 0) rfl) (As := []) (rest := []) ⟨hx, hb, hml, hown, hts⟩ (c_Jx4a65c_size_8abf5 l dC dI H.size L f te fl n sa cO hlf_18) (va_cwF 0 hts gX5_ship_Jx4a65c_size_8abf5_f107Jx4a65c rfl rfl rfl hN.fSize (by decide +kernel) ⟨Nat.le_of_ble_eq_true rfl, Nat.le_of_ble_eq_true rfl⟩) ⟨fun a U g mk q => by obtain ⟨q0, q1, qP, qK, qN⟩ := q; exact ⟨q0, q1, qP, va_K.moved (u := U) (U := U.calling g mk a) (Vm.Alike.refl U.vm) qK, NW.same (u := U) (U := U.calling g mk a) rfl qN⟩, va_recv hKc hPc (ci := 0) (q0 := k8_32) rfl hk8_32, fun U hU hW => ⟨rfl, by rw [hU], by rw [hU]; exact hPc, va_K.moved hW.alike hKc, NW.warm hW hN⟩⟩ rfl rfl hl.1 rfl (lv_room (Nat.le_of_ble_eq_true rfl)) dX5_ship_59 ⟨(Nat.zero_le _), (Nat.zero_le _)⟩) hS (fun q _ h => ro_A hS hA q h) (ro_A hS hA) (fun r_33 u t H1 locs ht hvm k_34 hB hz1 hk1 hS => ?_)
            have hP := ro_P hk1 hP
            generalize H1 = H at hP hS ⊢
            try dsimp only at k_34
            obtain ⟨k_34, k_35, k_36⟩ := k_34
            refine lv_istore (lv' := [(4, .int r_33), (0, .ref h0), (1, .int a0), (2, .int a1), (3, .int a2)]) hx hb dX5_ship_64 hl (by decide) rfl (fun ls hl => ?_)
            refine lv_aload_n hx hb dX5_ship_66 rfl (lv_at hl 1 rfl) ?_
            refine va_get (D := (dC, dI)) (ci := 6) (v := .ref fl) (C := RX5) (T := TX5) (N := 12) hx hb hts iw_X5_ship_X5 hown hK hP 0 rfl rfl 2 (by decide) (hts (.fieldLink RX5 26 "TeaRace" "fleet" "Ljava/util/List;") (by decide +kernel)) (fun _ h9 => h9) rfl dX5_ship_67 ?_
            refine va_new (ci := 4) (fs := [.int 0, .int 0, .int 0, .null, .null, .int 0, .int 0, .int 0, .int 0, .int 0, .int 0, .int 0, .int 0, .int 0]) (C := RX3) (T := TX3) (N := 14) hx hb hts iw_X5_ship_X3 tyX3 tyX3_ok hown (hts (.classLink RX5 113 "TeaRace$Ship") (by decide +kernel)) (hts (.instantiable RX3 14) (by decide +kernel)) (hts (.initialized RX3) (by decide +kernel)) hK hP hD hS hA rfl (fun j hj => by rcases (show j = 0 ∨ j = 1 ∨ j = 2 ∨ j = 3 ∨ j = 4 ∨ j = 5 ∨ j = 6 ∨ j = 7 ∨ j = 8 ∨ j = 9 ∨ j = 10 ∨ j = 11 ∨ j = 12 ∨ j = 13 by omega) with rfl | rfl | rfl | rfl | rfl | rfl | rfl | rfl | rfl | rfl | rfl | rfl | rfl | rfl <;> rfl) (Nat.le_of_ble_eq_true rfl) (Nat.le_of_ble_eq_true rfl) dX5_ship_70 (fun q_37 H hP hD hS => ?_)
            have hP := (show va_P (dC, dI) vwCl (([(h0, .inr (6, [.ref sea, .ref pas, .ref fl, .ref fc, .int xlf, .int xhr, .int xho, .int xga, .int xsg, .int xpr, .int xfa, .long xls])), (sea, .inr (3, [.ref lc, .ref ct, .ref ch])), (lc, .inl (cZ, 160, .inl Lc))] ++ va_pl L f) ++ [(q_37, .inr (4, [.int 0, .int 0, .int 0, .null, .null, .int 0, .int 0, .int 0, .int 0, .int 0, .int 0, .int 0, .int 0, .int 0]))]) H from hP).pm pl_out
            have hD := (show va_D A (([(h0, .inr (6, [.ref sea, .ref pas, .ref fl, .ref fc, .int xlf, .int xhr, .int xho, .int xga, .int xsg, .int xpr, .int xfa, .long xls])), (sea, .inr (3, [.ref lc, .ref ct, .ref ch])), (lc, .inl (cZ, 160, .inl Lc))] ++ va_pl L f) ++ [(q_37, .inr (4, [.int 0, .int 0, .int 0, .null, .null, .int 0, .int 0, .int 0, .int 0, .int 0, .int 0, .int 0, .int 0, .int 0]))]) from hD).pm pl_out
            have hP : va_P (dC, dI) vwCl ([(h0, .inr (6, [.ref sea, .ref pas, .ref fl, .ref fc, .int xlf, .int xhr, .int xho, .int xga, .int xsg, .int xpr, .int xfa, .long xls])), (sea, .inr (3, [.ref lc, .ref ct, .ref ch])), (lc, .inl (cZ, 160, .inl Lc)), (q_37, .inr (4, [.int 0, .int 0, .int 0, .null, .null, .int 0, .int 0, .int 0, .int 0, .int 0, .int 0, .int 0, .int 0, .int 0]))] ++ va_pl L f) H := hP
            have hD : va_D A ([(h0, .inr (6, [.ref sea, .ref pas, .ref fl, .ref fc, .int xlf, .int xhr, .int xho, .int xga, .int xsg, .int xpr, .int xfa, .long xls])), (sea, .inr (3, [.ref lc, .ref ct, .ref ch])), (lc, .inl (cZ, 160, .inl Lc)), (q_37, .inr (4, [.int 0, .int 0, .int 0, .null, .null, .int 0, .int 0, .int 0, .int 0, .int 0, .int 0, .int 0, .int 0, .int 0]))] ++ va_pl L f) := hD
            refine W.widen (k := 1) (n := 14) (Nat.le_of_ble_eq_true rfl) (Nat.le_of_ble_eq_true rfl) ?_
            refine lv_dup hx hb dX5_ship_73 rfl ?_
            refine lv_iload hx hb dX5_ship_74 (lv_at hl 0 rfl) ?_
            refine lv_iload_n hx hb dX5_ship_76 rfl (lv_at hl 2 rfl) ?_
            refine lv_iload_n hx hb dX5_ship_77 rfl (lv_at hl 3 rfl) ?_
            refine lv_iload_n hx hb dX5_ship_78 rfl (lv_at hl 4 rfl) ?_
            have hPc := hP.sub (ws' := [(q_37, .inr (4, [.int 0, .int 0, .int 0, .null, .null, .int 0, .int 0, .int 0, .int 0, .int 0, .int 0, .int 0, .int 0, .int 0]))]) [3] rfl
            have hDc := hD.sub (ws' := [(q_37, .inr (4, [.int 0, .int 0, .int 0, .null, .null, .int 0, .int 0, .int 0, .int 0, .int 0, .int 0, .int 0, .int 0, .int 0]))]) [3] (by decide) rfl
            have hKc := hK.sub (tys' := []) [] rfl
            have hFc := va_free (wc := [(q_37, .inr (4, [.int 0, .int 0, .int 0, .null, .null, .int 0, .int 0, .int 0, .int 0, .int 0, .int 0, .int 0, .int 0, .int 0]))]) hD hS hA [3] rfl
            refine va_callv (va_runI (As := [.int r_33, .int a0, .int a1, .int a2]) (rest := [.ref q_37, .ref fl]) ⟨hx, hb, hml, hown, hts⟩ (c_X3_init l dC dI H.size q_37 te r_33 a0 a1 a2 ) (cwI 4 hts gX5_ship_X3_init rfl rfl rfl (hts (.initialized RX3) (by decide +kernel)) (hts (.methodLink RX5 115 yX3_init) (by decide +kernel)) (hts (.instanceMethod yX3_init) (by decide +kernel)) rfl (by decide +kernel) ⟨Nat.le_of_ble_eq_true rfl, Nat.le_of_ble_eq_true rfl⟩) ⟨fun a U g mk q => by obtain ⟨q0, q1, qP, qK, qN, qD, qZ⟩ := q; exact ⟨q0, q1, qP, va_K.moved (u := U) (U := U.calling g mk a) (Vm.Alike.refl U.vm) qK, NW.same (u := U) (U := U.calling g mk a) rfl qN, qD, Zd.moved (u := U) (U := U.calling g mk a) (Vm.Alike.refl U.vm) qZ⟩, fun U hU hW => ⟨rfl, by rw [hU], by rw [hU]; exact hPc, va_K.moved hW.alike hKc, NW.warm hW hN, hDc.weaken (fun _ _ _ _ => trivial), by rw [hU]; exact Zd.pass hZ.zd hS.2.1 hFc hW.alike⟩⟩ rfl rfl hl.1 rfl (lv_room (Nat.le_of_ble_eq_true rfl)) dX5_ship_79 ⟨Nat.le_of_ble_eq_true rfl, Nat.le_of_ble_eq_true rfl⟩) hS (fun q _ h => hFc q h) hFc (fun u t H1 locs ht hvm k_39 hB hz1 hk1 hS => ?_)
            obtain ⟨u_40, u_41⟩ := u
            obtain ⟨hP1, hK1, hD1⟩ := hB
            rw [ht] at hP1
            have hK1 := va_K.moved hvm.symm hK1
            obtain ⟨hP, hD⟩ := va_joinQ (X := [(h0, .inr (6, [.ref sea, .ref pas, .ref fl, .ref fc, .int xlf, .int xhr, .int xho, .int xga, .int xsg, .int xpr, .int xfa, .long xls])), (sea, .inr (3, [.ref lc, .ref ct, .ref ch])), (lc, .inl (cZ, 160, .inl Lc)), (q_37, .inr (4, [.int 0, .int 0, .int 0, .null, .null, .int 0, .int 0, .int 0, .int 0, .int 0, .int 0, .int 0, .int 0, .int 0]))]) (cx := [(q_37, .inr (4, [.int 0, .int 0, .int 0, .null, .null, .int 0, .int 0, .int 0, .int 0, .int 0, .int 0, .int 0, .int 0, .int 0]))]) (wr := [(h0, .inr (6, [.ref sea, .ref pas, .ref fl, .ref fc, .int xlf, .int xhr, .int xho, .int xga, .int xsg, .int xpr, .int xfa, .long xls])), (sea, .inr (3, [.ref lc, .ref ct, .ref ch])), (lc, .inl (cZ, 160, .inl Lc))]) (w1 := [(q_37, .inr (4, [.int r_33, .int a0, .int a2, .ref u_40, .ref u_41, .int a1, .int 0, .int 0, .int 0, .int 0, .int (-9), .int (-9), .int 0, .int 0])), (u_40, .inr (0, [.int 0, .ref te, .int 0])), (u_41, .inr (0, [.int 0, .ref te, .int 0]))]) hP hD [3] [0, 1, 2] rfl rfl (by decide) (by decide) hk1 hFc hP1 hD1
            generalize H1 = H at hP hS ⊢
            have hP : va_P (dC, dI) vwCl ([(h0, .inr (6, [.ref sea, .ref pas, .ref fl, .ref fc, .int xlf, .int xhr, .int xho, .int xga, .int xsg, .int xpr, .int xfa, .long xls])), (sea, .inr (3, [.ref lc, .ref ct, .ref ch])), (lc, .inl (cZ, 160, .inl Lc)), (q_37, .inr (4, [.int r_33, .int a0, .int a2, .ref u_40, .ref u_41, .int a1, .int 0, .int 0, .int 0, .int 0, .int (-9), .int (-9), .int 0, .int 0])), (u_40, .inr (0, [.int 0, .ref te, .int 0])), (u_41, .inr (0, [.int 0, .ref te, .int 0]))] ++ va_pl L f) H := hP
            have hD : va_D A ([(h0, .inr (6, [.ref sea, .ref pas, .ref fl, .ref fc, .int xlf, .int xhr, .int xho, .int xga, .int xsg, .int xpr, .int xfa, .long xls])), (sea, .inr (3, [.ref lc, .ref ct, .ref ch])), (lc, .inl (cZ, 160, .inl Lc)), (q_37, .inr (4, [.int r_33, .int a0, .int a2, .ref u_40, .ref u_41, .int a1, .int 0, .int 0, .int 0, .int 0, .int (-9), .int (-9), .int 0, .int 0])), (u_40, .inr (0, [.int 0, .ref te, .int 0])), (u_41, .inr (0, [.int 0, .ref te, .int 0]))] ++ va_pl L f) := hD
            have hP := (show va_P (dC, dI) vwCl (([(h0, .inr (6, [.ref sea, .ref pas, .ref fl, .ref fc, .int xlf, .int xhr, .int xho, .int xga, .int xsg, .int xpr, .int xfa, .long xls])), (sea, .inr (3, [.ref lc, .ref ct, .ref ch])), (lc, .inl (cZ, 160, .inl Lc)), (q_37, .inr (4, [.int r_33, .int a0, .int a2, .ref u_40, .ref u_41, .int a1, .int 0, .int 0, .int 0, .int 0, .int (-9), .int (-9), .int 0, .int 0])), (u_40, .inr (0, [.int 0, .ref te, .int 0]))] ++ [(u_41, .inr (0, [.int 0, .ref te, .int 0]))]) ++ va_pl L f) H from hP).pm pl_out.symm
            have hD := (show va_D A (([(h0, .inr (6, [.ref sea, .ref pas, .ref fl, .ref fc, .int xlf, .int xhr, .int xho, .int xga, .int xsg, .int xpr, .int xfa, .long xls])), (sea, .inr (3, [.ref lc, .ref ct, .ref ch])), (lc, .inl (cZ, 160, .inl Lc)), (q_37, .inr (4, [.int r_33, .int a0, .int a2, .ref u_40, .ref u_41, .int a1, .int 0, .int 0, .int 0, .int 0, .int (-9), .int (-9), .int 0, .int 0])), (u_40, .inr (0, [.int 0, .ref te, .int 0]))] ++ [(u_41, .inr (0, [.int 0, .ref te, .int 0]))]) ++ va_pl L f) from hD).pm pl_out.symm
            obtain ⟨hnew_42, hP, hD⟩ := pl_push (X := [(h0, .inr (6, [.ref sea, .ref pas, .ref fl, .ref fc, .int xlf, .int xhr, .int xho, .int xga, .int xsg, .int xpr, .int xfa, .long xls])), (sea, .inr (3, [.ref lc, .ref ct, .ref ch])), (lc, .inl (cZ, 160, .inl Lc)), (q_37, .inr (4, [.int r_33, .int a0, .int a2, .ref u_40, .ref u_41, .int a1, .int 0, .int 0, .int 0, .int 0, .int (-9), .int (-9), .int 0, .int 0])), (u_40, .inr (0, [.int 0, .ref te, .int 0]))]) hP hD
            obtain ⟨f_44, ef_44⟩ : ∃ z : Nat → va_E, z = va_up f u_41 (.inr (0, [.int 0, .ref te, .int 0])) := ⟨_, rfl⟩
            obtain ⟨L_43, eL_43⟩ : ∃ z : List Nat, z = L ++ [u_41] := ⟨_, rfl⟩
            have hP : va_P (dC, dI) vwCl ([(h0, .inr (6, [.ref sea, .ref pas, .ref fl, .ref fc, .int xlf, .int xhr, .int xho, .int xga, .int xsg, .int xpr, .int xfa, .long xls])), (sea, .inr (3, [.ref lc, .ref ct, .ref ch])), (lc, .inl (cZ, 160, .inl Lc)), (q_37, .inr (4, [.int r_33, .int a0, .int a2, .ref u_40, .ref u_41, .int a1, .int 0, .int 0, .int 0, .int 0, .int (-9), .int (-9), .int 0, .int 0])), (u_40, .inr (0, [.int 0, .ref te, .int 0]))] ++ va_pl (L ++ [u_41]) (va_up f u_41 (.inr (0, [.int 0, .ref te, .int 0])))) H := hP
            have hD : va_D A ([(h0, .inr (6, [.ref sea, .ref pas, .ref fl, .ref fc, .int xlf, .int xhr, .int xho, .int xga, .int xsg, .int xpr, .int xfa, .long xls])), (sea, .inr (3, [.ref lc, .ref ct, .ref ch])), (lc, .inl (cZ, 160, .inl Lc)), (q_37, .inr (4, [.int r_33, .int a0, .int a2, .ref u_40, .ref u_41, .int a1, .int 0, .int 0, .int 0, .int 0, .int (-9), .int (-9), .int 0, .int 0])), (u_40, .inr (0, [.int 0, .ref te, .int 0]))] ++ va_pl (L ++ [u_41]) (va_up f u_41 (.inr (0, [.int 0, .ref te, .int 0])))) := hD
            rw [← ef_44, ← eL_43] at hP hD
            have hm_45 : fl ∈ L_43 := by rw [eL_43]; exact mem_l hm_21
            have ho_46 : f_44 fl = .inr (0, [.int mc_19, .ref ar_20, .int (nI n)]) := by rw [ef_44, va_up_ne _ _ (ne_of_in hm_21 hnew_42)]; exact hv_22
            have hm_47 : u_41 ∈ L_43 := by rw [eL_43]; exact mem_r
            have ho_48 : f_44 u_41 = .inr (0, [.int 0, .ref te, .int 0]) := by rw [ef_44, va_up_self]
            have hq_49 : Inv L_43 f_44 own te cO cB rr cw fl n sa V oa ia nO OW nS SW := by rw [eL_43, ef_44]; exact Inv.push inv hnew_42
            have hq_50 : LstAt L_43 f_44 te cO fl n sa := by rw [eL_43, ef_44]; exact LstAt.push hlf_18 hnew_42
            have hP : va_P (dC, dI) vwCl ([(h0, .inr (6, [.ref sea, .ref pas, .ref fl, .ref fc, .int xlf, .int xhr, .int xho, .int xga, .int xsg, .int xpr, .int xfa, .long xls])), (sea, .inr (3, [.ref lc, .ref ct, .ref ch])), (lc, .inl (cZ, 160, .inl Lc)), (q_37, .inr (4, [.int r_33, .int a0, .int a2, .ref u_40, .ref u_41, .int a1, .int 0, .int 0, .int 0, .int 0, .int (-9), .int (-9), .int 0, .int 0])), (u_40, .inr (0, [.int 0, .ref te, .int 0]))] ++ va_pl L_43 f_44) H := hP
            have hD : va_D A ([(h0, .inr (6, [.ref sea, .ref pas, .ref fl, .ref fc, .int xlf, .int xhr, .int xho, .int xga, .int xsg, .int xpr, .int xfa, .long xls])), (sea, .inr (3, [.ref lc, .ref ct, .ref ch])), (lc, .inl (cZ, 160, .inl Lc)), (q_37, .inr (4, [.int r_33, .int a0, .int a2, .ref u_40, .ref u_41, .int a1, .int 0, .int 0, .int 0, .int 0, .int (-9), .int (-9), .int 0, .int 0])), (u_40, .inr (0, [.int 0, .ref te, .int 0]))] ++ va_pl L_43 f_44) := hD
            have hP := (show va_P (dC, dI) vwCl (([(h0, .inr (6, [.ref sea, .ref pas, .ref fl, .ref fc, .int xlf, .int xhr, .int xho, .int xga, .int xsg, .int xpr, .int xfa, .long xls])), (sea, .inr (3, [.ref lc, .ref ct, .ref ch])), (lc, .inl (cZ, 160, .inl Lc)), (q_37, .inr (4, [.int r_33, .int a0, .int a2, .ref u_40, .ref u_41, .int a1, .int 0, .int 0, .int 0, .int 0, .int (-9), .int (-9), .int 0, .int 0]))] ++ [(u_40, .inr (0, [.int 0, .ref te, .int 0]))]) ++ va_pl L_43 f_44) H from hP).pm pl_out.symm
            have hD := (show va_D A (([(h0, .inr (6, [.ref sea, .ref pas, .ref fl, .ref fc, .int xlf, .int xhr, .int xho, .int xga, .int xsg, .int xpr, .int xfa, .long xls])), (sea, .inr (3, [.ref lc, .ref ct, .ref ch])), (lc, .inl (cZ, 160, .inl Lc)), (q_37, .inr (4, [.int r_33, .int a0, .int a2, .ref u_40, .ref u_41, .int a1, .int 0, .int 0, .int 0, .int 0, .int (-9), .int (-9), .int 0, .int 0]))] ++ [(u_40, .inr (0, [.int 0, .ref te, .int 0]))]) ++ va_pl L_43 f_44) from hD).pm pl_out.symm
            obtain ⟨hnew_51, hP, hD⟩ := pl_push (X := [(h0, .inr (6, [.ref sea, .ref pas, .ref fl, .ref fc, .int xlf, .int xhr, .int xho, .int xga, .int xsg, .int xpr, .int xfa, .long xls])), (sea, .inr (3, [.ref lc, .ref ct, .ref ch])), (lc, .inl (cZ, 160, .inl Lc)), (q_37, .inr (4, [.int r_33, .int a0, .int a2, .ref u_40, .ref u_41, .int a1, .int 0, .int 0, .int 0, .int 0, .int (-9), .int (-9), .int 0, .int 0]))]) hP hD
            obtain ⟨f_53, ef_53⟩ : ∃ z : Nat → va_E, z = va_up f_44 u_40 (.inr (0, [.int 0, .ref te, .int 0])) := ⟨_, rfl⟩
            obtain ⟨L_52, eL_52⟩ : ∃ z : List Nat, z = L_43 ++ [u_40] := ⟨_, rfl⟩
            have hP : va_P (dC, dI) vwCl ([(h0, .inr (6, [.ref sea, .ref pas, .ref fl, .ref fc, .int xlf, .int xhr, .int xho, .int xga, .int xsg, .int xpr, .int xfa, .long xls])), (sea, .inr (3, [.ref lc, .ref ct, .ref ch])), (lc, .inl (cZ, 160, .inl Lc)), (q_37, .inr (4, [.int r_33, .int a0, .int a2, .ref u_40, .ref u_41, .int a1, .int 0, .int 0, .int 0, .int 0, .int (-9), .int (-9), .int 0, .int 0]))] ++ va_pl (L_43 ++ [u_40]) (va_up f_44 u_40 (.inr (0, [.int 0, .ref te, .int 0])))) H := hP
            have hD : va_D A ([(h0, .inr (6, [.ref sea, .ref pas, .ref fl, .ref fc, .int xlf, .int xhr, .int xho, .int xga, .int xsg, .int xpr, .int xfa, .long xls])), (sea, .inr (3, [.ref lc, .ref ct, .ref ch])), (lc, .inl (cZ, 160, .inl Lc)), (q_37, .inr (4, [.int r_33, .int a0, .int a2, .ref u_40, .ref u_41, .int a1, .int 0, .int 0, .int 0, .int 0, .int (-9), .int (-9), .int 0, .int 0]))] ++ va_pl (L_43 ++ [u_40]) (va_up f_44 u_40 (.inr (0, [.int 0, .ref te, .int 0])))) := hD
            rw [← ef_53, ← eL_52] at hP hD
            have hm_54 : fl ∈ L_52 := by rw [eL_52]; exact mem_l hm_45
            have ho_55 : f_53 fl = .inr (0, [.int mc_19, .ref ar_20, .int (nI n)]) := by rw [ef_53, va_up_ne _ _ (ne_of_in hm_45 hnew_51)]; exact ho_46
            have hm_56 : u_41 ∈ L_52 := by rw [eL_52]; exact mem_l hm_47
            have ho_57 : f_53 u_41 = .inr (0, [.int 0, .ref te, .int 0]) := by rw [ef_53, va_up_ne _ _ (ne_of_in hm_47 hnew_51)]; exact ho_48
            have hm_58 : u_40 ∈ L_52 := by rw [eL_52]; exact mem_r
            have ho_59 : f_53 u_40 = .inr (0, [.int 0, .ref te, .int 0]) := by rw [ef_53, va_up_self]
            have hq_60 : Inv L_52 f_53 own te cO cB rr cw fl n sa V oa ia nO OW nS SW := by rw [eL_52, ef_53]; exact Inv.push hq_49 hnew_51
            have hq_61 : LstAt L_52 f_53 te cO fl n sa := by rw [eL_52, ef_53]; exact LstAt.push hq_50 hnew_51
            have hP : va_P (dC, dI) vwCl ([(h0, .inr (6, [.ref sea, .ref pas, .ref fl, .ref fc, .int xlf, .int xhr, .int xho, .int xga, .int xsg, .int xpr, .int xfa, .long xls])), (sea, .inr (3, [.ref lc, .ref ct, .ref ch])), (lc, .inl (cZ, 160, .inl Lc)), (q_37, .inr (4, [.int r_33, .int a0, .int a2, .ref u_40, .ref u_41, .int a1, .int 0, .int 0, .int 0, .int 0, .int (-9), .int (-9), .int 0, .int 0]))] ++ va_pl L_52 f_53) H := hP
            have hD : va_D A ([(h0, .inr (6, [.ref sea, .ref pas, .ref fl, .ref fc, .int xlf, .int xhr, .int xho, .int xga, .int xsg, .int xpr, .int xfa, .long xls])), (sea, .inr (3, [.ref lc, .ref ct, .ref ch])), (lc, .inl (cZ, 160, .inl Lc)), (q_37, .inr (4, [.int r_33, .int a0, .int a2, .ref u_40, .ref u_41, .int a1, .int 0, .int 0, .int 0, .int 0, .int (-9), .int (-9), .int 0, .int 0]))] ++ va_pl L_52 f_53) := hD
            have hP := (show va_P (dC, dI) vwCl (([(h0, .inr (6, [.ref sea, .ref pas, .ref fl, .ref fc, .int xlf, .int xhr, .int xho, .int xga, .int xsg, .int xpr, .int xfa, .long xls])), (sea, .inr (3, [.ref lc, .ref ct, .ref ch])), (lc, .inl (cZ, 160, .inl Lc))] ++ [(q_37, .inr (4, [.int r_33, .int a0, .int a2, .ref u_40, .ref u_41, .int a1, .int 0, .int 0, .int 0, .int 0, .int (-9), .int (-9), .int 0, .int 0]))]) ++ va_pl L_52 f_53) H from hP).pm pl_out.symm
            have hD := (show va_D A (([(h0, .inr (6, [.ref sea, .ref pas, .ref fl, .ref fc, .int xlf, .int xhr, .int xho, .int xga, .int xsg, .int xpr, .int xfa, .long xls])), (sea, .inr (3, [.ref lc, .ref ct, .ref ch])), (lc, .inl (cZ, 160, .inl Lc))] ++ [(q_37, .inr (4, [.int r_33, .int a0, .int a2, .ref u_40, .ref u_41, .int a1, .int 0, .int 0, .int 0, .int 0, .int (-9), .int (-9), .int 0, .int 0]))]) ++ va_pl L_52 f_53) from hD).pm pl_out.symm
            obtain ⟨hnew_62, hP, hD⟩ := pl_push (X := [(h0, .inr (6, [.ref sea, .ref pas, .ref fl, .ref fc, .int xlf, .int xhr, .int xho, .int xga, .int xsg, .int xpr, .int xfa, .long xls])), (sea, .inr (3, [.ref lc, .ref ct, .ref ch])), (lc, .inl (cZ, 160, .inl Lc))]) hP hD
            obtain ⟨f_64, ef_64⟩ : ∃ z : Nat → va_E, z = va_up f_53 q_37 (.inr (4, [.int r_33, .int a0, .int a2, .ref u_40, .ref u_41, .int a1, .int 0, .int 0, .int 0, .int 0, .int (-9), .int (-9), .int 0, .int 0])) := ⟨_, rfl⟩
            obtain ⟨L_63, eL_63⟩ : ∃ z : List Nat, z = L_52 ++ [q_37] := ⟨_, rfl⟩
            have hP : va_P (dC, dI) vwCl ([(h0, .inr (6, [.ref sea, .ref pas, .ref fl, .ref fc, .int xlf, .int xhr, .int xho, .int xga, .int xsg, .int xpr, .int xfa, .long xls])), (sea, .inr (3, [.ref lc, .ref ct, .ref ch])), (lc, .inl (cZ, 160, .inl Lc))] ++ va_pl (L_52 ++ [q_37]) (va_up f_53 q_37 (.inr (4, [.int r_33, .int a0, .int a2, .ref u_40, .ref u_41, .int a1, .int 0, .int 0, .int 0, .int 0, .int (-9), .int (-9), .int 0, .int 0])))) H := hP
            have hD : va_D A ([(h0, .inr (6, [.ref sea, .ref pas, .ref fl, .ref fc, .int xlf, .int xhr, .int xho, .int xga, .int xsg, .int xpr, .int xfa, .long xls])), (sea, .inr (3, [.ref lc, .ref ct, .ref ch])), (lc, .inl (cZ, 160, .inl Lc))] ++ va_pl (L_52 ++ [q_37]) (va_up f_53 q_37 (.inr (4, [.int r_33, .int a0, .int a2, .ref u_40, .ref u_41, .int a1, .int 0, .int 0, .int 0, .int 0, .int (-9), .int (-9), .int 0, .int 0])))) := hD
            rw [← ef_64, ← eL_63] at hP hD
            have hm_65 : fl ∈ L_63 := by rw [eL_63]; exact mem_l hm_54
            have ho_66 : f_64 fl = .inr (0, [.int mc_19, .ref ar_20, .int (nI n)]) := by rw [ef_64, va_up_ne _ _ (ne_of_in hm_54 hnew_62)]; exact ho_55
            have hm_67 : u_41 ∈ L_63 := by rw [eL_63]; exact mem_l hm_56
            have ho_68 : f_64 u_41 = .inr (0, [.int 0, .ref te, .int 0]) := by rw [ef_64, va_up_ne _ _ (ne_of_in hm_56 hnew_62)]; exact ho_57
            have hm_69 : u_40 ∈ L_63 := by rw [eL_63]; exact mem_l hm_58
            have ho_70 : f_64 u_40 = .inr (0, [.int 0, .ref te, .int 0]) := by rw [ef_64, va_up_ne _ _ (ne_of_in hm_58 hnew_62)]; exact ho_59
            have hm_71 : q_37 ∈ L_63 := by rw [eL_63]; exact mem_r
            have ho_72 : f_64 q_37 = .inr (4, [.int r_33, .int a0, .int a2, .ref u_40, .ref u_41, .int a1, .int 0, .int 0, .int 0, .int 0, .int (-9), .int (-9), .int 0, .int 0]) := by rw [ef_64, va_up_self]
            have hq_73 : Inv L_63 f_64 own te cO cB rr cw fl n sa V oa ia nO OW nS SW := by rw [eL_63, ef_64]; exact Inv.push hq_60 hnew_62
            have hq_74 : LstAt L_63 f_64 te cO fl n sa := by rw [eL_63, ef_64]; exact LstAt.push hq_61 hnew_62
            have hP : va_P (dC, dI) vwCl ([(h0, .inr (6, [.ref sea, .ref pas, .ref fl, .ref fc, .int xlf, .int xhr, .int xho, .int xga, .int xsg, .int xpr, .int xfa, .long xls])), (sea, .inr (3, [.ref lc, .ref ct, .ref ch])), (lc, .inl (cZ, 160, .inl Lc))] ++ va_pl L_63 f_64) H := hP
            have hD : va_D A ([(h0, .inr (6, [.ref sea, .ref pas, .ref fl, .ref fc, .int xlf, .int xhr, .int xho, .int xga, .int xsg, .int xpr, .int xfa, .long xls])), (sea, .inr (3, [.ref lc, .ref ct, .ref ch])), (lc, .inl (cZ, 160, .inl Lc))] ++ va_pl L_63 f_64) := hD
            have invR := Inv.reown inv (own3_in (n := n) (fun z => hnew_62 (by rw [eL_52, eL_43]; exact mem_l (mem_l z))) (fun z => hnew_51 (by rw [eL_43]; exact mem_l z)) hnew_42)
            have inv1 : Inv L_43 f_44 (own3 own n q_37 u_40 u_41) te cO cB rr cw fl n sa V oa ia nO OW nS SW := by rw [eL_43, ef_44]; exact Inv.push invR hnew_42
            have inv2 : Inv L_52 f_53 (own3 own n q_37 u_40 u_41) te cO cB rr cw fl n sa V oa ia nO OW nS SW := by rw [eL_52, ef_53]; exact Inv.push inv1 hnew_51
            have inv3 : Inv L_63 f_64 (own3 own n q_37 u_40 u_41) te cO cB rr cw fl n sa V oa ia nO OW nS SW := by rw [eL_63, ef_64]; exact Inv.push inv2 hnew_62
            have hs9 : Ship1 L_63 f_64 (own3 own n q_37 u_40 u_41) te cO q_37 (fun j => ([r_33, a0, a2, a1, (0 : Int32), (0 : Int32), (0 : Int32), (0 : Int32), ((-9) : Int32), ((-9) : Int32), (0 : Int32), (0 : Int32)] : List Int32).getD j 0) u_40 u_41 0 (OW n) 0 (SW n) n := ship_new hm_71 hm_69 hm_67 (ho_72.trans rfl) ho_70 ho_68 (ne_of_in (by rw [eL_52]; exact mem_r) hnew_62) (ne_of_in (by rw [eL_52, eL_43]; exact mem_l mem_r) hnew_62) (ne_of_in (by rw [eL_43]; exact mem_r) hnew_51)
            try dsimp only at k_39
            refine W.widen (k := 3) (n := 20) (Nat.le_of_ble_eq_true rfl) (Nat.le_of_ble_eq_true rfl) ?_
            have hl9 := inv3.2.1
            have hg9 : Elg L_63 f_64 n sa := fun k hk => ⟨(inv3.2.2.2.2.2 k hk).1, 4, _, (inv3.2.2.2.2.2 k hk).2.1, by decide⟩
            have ho9 : Ob L_63 f_64 q_37 4 [.int r_33, .int a0, .int a2, .ref u_40, .ref u_41, .int a1, .int 0, .int 0, .int 0, .int 0, .int (-9), .int (-9), .int 0, .int 0] := ⟨hm_71, ho_72, by decide⟩
            have hte : te ∉ L_63 := te_out (X := [(h0, .inr (6, [.ref sea, .ref pas, .ref fl, .ref fc, .int xlf, .int xhr, .int xho, .int xga, .int xsg, .int xpr, .int xfa, .long xls])), (sea, .inr (3, [.ref lc, .ref ct, .ref ch])), (lc, .inl (cZ, 160, .inl Lc))]) hZ hD
            have hPc : va_P (dC, dI) vwCl (([] : va_W) ++ va_pl L_63 f_64) H := va_P.part (X := [(h0, .inr (6, [.ref sea, .ref pas, .ref fl, .ref fc, .int xlf, .int xhr, .int xho, .int xga, .int xsg, .int xpr, .int xfa, .long xls])), (sea, .inr (3, [.ref lc, .ref ct, .ref ch])), (lc, .inl (cZ, 160, .inl Lc))]) hP [] rfl
            have hDc : va_D A (([] : va_W) ++ va_pl L_63 f_64) := va_D.part (X := [(h0, .inr (6, [.ref sea, .ref pas, .ref fl, .ref fc, .int xlf, .int xhr, .int xho, .int xga, .int xsg, .int xpr, .int xfa, .long xls])), (sea, .inr (3, [.ref lc, .ref ct, .ref ch])), (lc, .inl (cZ, 160, .inl Lc))]) hD [] (by decide) rfl
            have hKc := hK.sub (tys' := [(cO, .object "java/lang/Object")]) [1] rfl
            have hFc := va_freeP (X := [(h0, .inr (6, [.ref sea, .ref pas, .ref fl, .ref fc, .int xlf, .int xhr, .int xho, .int xga, .int xsg, .int xpr, .int xfa, .long xls])), (sea, .inr (3, [.ref lc, .ref ct, .ref ch])), (lc, .inl (cZ, 160, .inl Lc))]) (cx := []) hD hS hA [] rfl
            obtain ⟨k8_75, hk8_75⟩ : ∃ k : Nat, (([] : va_W) ++ va_pl L_63 f_64)[k]? = some (fl, .inr (0, [.int mc_19, .ref ar_20, .int (nI n)])) := pl_at hm_65 ho_66
            refine va_callFi (va_runF (va_atK hKc (ci := 0) rfl) (As := [.ref q_37]) (rest := []) ⟨hx, hb, hml, hown, hts⟩ (c_Jx4a65c_add_9ea2d l dC dI H.size te ea so mi L_63 f_64 fl n sa q_37 4 ([.int r_33, .int a0, .int a2, .ref u_40, .ref u_41, .int a1, .int 0, .int 0, .int 0, .int 0, .int (-9), .int (-9), .int 0, .int 0]) cO (by omega) hl9 hg9 ho9) (va_cwF 1 hts gX5_ship_Jx4a65c_add_9ea2d_f118Jx4a65c rfl rfl rfl hN.fAdd (by decide +kernel) ⟨Nat.le_of_ble_eq_true rfl, Nat.le_of_ble_eq_true rfl⟩) ⟨fun a U g mk q => by obtain ⟨q0, q1, qP, qK, qN, qD, qZ⟩ := q; exact ⟨q0, q1, qP, va_K.moved (u := U) (U := U.calling g mk a) (Vm.Alike.refl U.vm) qK, NW.same (u := U) (U := U.calling g mk a) rfl qN, qD, Zs.moved (u := U) (U := U.calling g mk a) (Vm.Alike.refl U.vm) qZ⟩, va_recv hKc hPc (ci := 0) (q0 := k8_75) rfl hk8_75, fun U hU hW => ⟨rfl, by rw [hU], by rw [hU]; exact hPc, va_K.moved hW.alike hKc, NW.warm hW hN, hDc.weaken (fun _ _ _ _ => trivial), by rw [hU]; exact Zs.pass hZ hS.2.1 hFc hW.alike⟩⟩ rfl rfl hl.1 rfl (lv_room (Nat.le_of_ble_eq_true rfl)) dX5_ship_82 ⟨Nat.le_of_ble_eq_true rfl, Nat.le_of_ble_eq_true rfl⟩) hS (fun q _ h => hFc q h) hFc (fun r_76 u t H1 locs ht hvm k_77 hB hz1 hk1 hS => ?_)
            obtain ⟨u_78, u_79, u_80, u_81⟩ := u
            obtain ⟨hP1, hK1, hD1⟩ := hB
            rw [ht] at hP1
            have hK1 := va_K.moved hvm.symm hK1
            obtain ⟨hP, hD⟩ := va_joinP (X := [(h0, .inr (6, [.ref sea, .ref pas, .ref fl, .ref fc, .int xlf, .int xhr, .int xho, .int xga, .int xsg, .int xpr, .int xfa, .long xls])), (sea, .inr (3, [.ref lc, .ref ct, .ref ch])), (lc, .inl (cZ, 160, .inl Lc))]) (cx := []) (wr := [(h0, .inr (6, [.ref sea, .ref pas, .ref fl, .ref fc, .int xlf, .int xhr, .int xho, .int xga, .int xsg, .int xpr, .int xfa, .long xls])), (sea, .inr (3, [.ref lc, .ref ct, .ref ch])), (lc, .inl (cZ, 160, .inl Lc))]) (rx := []) hP hD [] [0, 1, 2] rfl rfl (by decide) (by decide) hk1 hFc hP1 hD1
            generalize H1 = H at hP hS ⊢
            have hP : va_P (dC, dI) vwCl ([(h0, .inr (6, [.ref sea, .ref pas, .ref fl, .ref fc, .int xlf, .int xhr, .int xho, .int xga, .int xsg, .int xpr, .int xfa, .long xls])), (sea, .inr (3, [.ref lc, .ref ct, .ref ch])), (lc, .inl (cZ, 160, .inl Lc))] ++ va_pl u_78 u_79) H := hP
            have hD : va_D A ([(h0, .inr (6, [.ref sea, .ref pas, .ref fl, .ref fc, .int xlf, .int xhr, .int xho, .int xga, .int xsg, .int xpr, .int xfa, .long xls])), (sea, .inr (3, [.ref lc, .ref ct, .ref ch])), (lc, .inl (cZ, 160, .inl Lc))] ++ va_pl u_78 u_79) := hD
            obtain ⟨p_82, p_83, p_84, p_85, p_86, p_87, p_88⟩ := id k_77
            have tk : Took L_63 f_64 te cO fl n q_37 sa u_78 u_79 u_80 u_81 := ⟨p_82, p_83, p_84, p_85, p_86, p_87⟩
            have inv4 : Inv u_78 u_79 (own2 (own3 own n q_37 u_40 u_41) L_63 u_80 fl) te cO cB rr cw fl (n + 1) (fun k => if k = n then q_37 else sa k) (va_up V n (fun j => ([r_33, a0, a2, a1, (0 : Int32), (0 : Int32), (0 : Int32), (0 : Int32), ((-9) : Int32), ((-9) : Int32), (0 : Int32), (0 : Int32)] : List Int32).getD j 0)) (va_up oa n u_40) (va_up ia n u_41) (va_up nO n 0) (va_up OW n (OW n)) (va_up nS n 0) (va_up SW n (SW n)) := Inv.addShip inv3 hte tk (by omega) hs9
            try dsimp only at k_77
            obtain ⟨k_77, k_89, k_90, k_91, k_92, k_93, k_94⟩ := k_77
            refine W.widen (k := 4) (n := 220) (Nat.le_of_ble_eq_true rfl) (Nat.le_of_ble_eq_true rfl) ?_
            refine lv_pop hx hb dX5_ship_87 rfl ?_
            refine lv_iload hx hb dX5_ship_88 (lv_at hl 0 rfl) ?_
            have hP9 : va_P (dC, dI) vwCl ([(h0, .inr (6, [.ref sea, .ref pas, .ref fl, .ref fc, .int xlf, .int xhr, .int xho, .int xga, .int xsg, .int xpr, .int xfa, .long xls])), (sea, .inr (3, [.ref lc, .ref ct, .ref ch])), (lc, .inl (cZ, 160, .inl Lc))] ++ va_pl u_78 u_79) H := va_P.part (X := [(h0, .inr (6, [.ref sea, .ref pas, .ref fl, .ref fc, .int xlf, .int xhr, .int xho, .int xga, .int xsg, .int xpr, .int xfa, .long xls])), (sea, .inr (3, [.ref lc, .ref ct, .ref ch])), (lc, .inl (cZ, 160, .inl Lc))]) hP [0, 1, 2] rfl
            have hD9 : va_D A ([(h0, .inr (6, [.ref sea, .ref pas, .ref fl, .ref fc, .int xlf, .int xhr, .int xho, .int xga, .int xsg, .int xpr, .int xfa, .long xls])), (sea, .inr (3, [.ref lc, .ref ct, .ref ch])), (lc, .inl (cZ, 160, .inl Lc))] ++ va_pl u_78 u_79) := va_D.part (X := [(h0, .inr (6, [.ref sea, .ref pas, .ref fl, .ref fc, .int xlf, .int xhr, .int xho, .int xga, .int xsg, .int xpr, .int xfa, .long xls])), (sea, .inr (3, [.ref lc, .ref ct, .ref ch])), (lc, .inl (cZ, 160, .inl Lc))]) hD [0, 1, 2] (by decide) rfl
            have hK9 := hK.sub (tys' := [(cZ, .boolean), (cO, .object "java/lang/Object")]) [0, 1] rfl
            refine W.widen (k := 4) (n := 220) (Nat.le_of_ble_eq_true rfl) (Nat.le_of_ble_eq_true rfl) ?_
            exact W.iret (v := r_33) hx hb hr (fun t ht hW => ⟨⟨r_33, (u_78, u_79, (own2 (own3 own n q_37 u_40 u_41) L_63 u_80 fl), (n + 1), (fun k => if k = n then q_37 else sa k), (va_up V n (fun j => ([r_33, a0, a2, a1, (0 : Int32), (0 : Int32), (0 : Int32), (0 : Int32), ((-9) : Int32), ((-9) : Int32), (0 : Int32), (0 : Int32)] : List Int32).getD j 0)), (va_up oa n u_40), (va_up ia n u_41), (va_up nO n 0), (va_up OW n (OW n)), (va_up nS n 0), (va_up SW n (SW n))), rfl, ⟨inv4, (fun B hB h i hi => by have hi : i < n + 1 := hi; dsimp only; by_cases e : i = n; (rw [e, va_up_self]; omega); (rw [va_up_ne _ _ e]; exact h i (by omega)))⟩, ⟨by rw [ht]; exact hP9, va_K.moved hW.alike hK9, hD9⟩⟩, hS.F ht⟩) hS.2.2 dX5_ship_90
          · skip
            have qc_31 : xhr.toInt ≠ 0 := ne_k rfl (by decide) c_31
            refine lv_bipush (v := (-4)) hx hb dX5_ship_52 (by decide) ?_
            have hP9 : va_P (dC, dI) vwCl ([(h0, .inr (6, [.ref sea, .ref pas, .ref fl, .ref fc, .int xlf, .int xhr, .int xho, .int xga, .int xsg, .int xpr, .int xfa, .long xls])), (sea, .inr (3, [.ref lc, .ref ct, .ref ch])), (lc, .inl (cZ, 160, .inl Lc))] ++ va_pl L f) H := va_P.part (X := [(h0, .inr (6, [.ref sea, .ref pas, .ref fl, .ref fc, .int xlf, .int xhr, .int xho, .int xga, .int xsg, .int xpr, .int xfa, .long xls])), (sea, .inr (3, [.ref lc, .ref ct, .ref ch])), (lc, .inl (cZ, 160, .inl Lc))]) hP [0, 1, 2] rfl
            have hD9 : va_D A ([(h0, .inr (6, [.ref sea, .ref pas, .ref fl, .ref fc, .int xlf, .int xhr, .int xho, .int xga, .int xsg, .int xpr, .int xfa, .long xls])), (sea, .inr (3, [.ref lc, .ref ct, .ref ch])), (lc, .inl (cZ, 160, .inl Lc))] ++ va_pl L f) := va_D.part (X := [(h0, .inr (6, [.ref sea, .ref pas, .ref fl, .ref fc, .int xlf, .int xhr, .int xho, .int xga, .int xsg, .int xpr, .int xfa, .long xls])), (sea, .inr (3, [.ref lc, .ref ct, .ref ch])), (lc, .inl (cZ, 160, .inl Lc))]) hD [0, 1, 2] (by decide) rfl
            have hK9 := hK.sub (tys' := [(cZ, .boolean), (cO, .object "java/lang/Object")]) [0, 1] rfl
            refine W.widen (k := 4) (n := 220) (Nat.le_of_ble_eq_true rfl) (Nat.le_of_ble_eq_true rfl) ?_
            have hv9 : (-4 : Int32).toInt = (-4) := by decide
            exact W.iret (v := (-4)) hx hb hr (fun t ht hW => ⟨⟨(-4), (L, f, own, n, sa, V, oa, ia, nO, OW, nS, SW), rfl, ⟨inv, (fun B hB h => h)⟩, ⟨by rw [ht]; exact hP9, va_K.moved hW.alike hK9, hD9⟩⟩, hS.F ht⟩) hS.2.2 dX5_ship_54
        · skip
          have qc_30 : 8 ≤ r_26.toInt := nlt_k rfl (by decide) c_30
          refine lv_bipush (v := (-2)) hx hb dX5_ship_42 (by decide) ?_
          have hP9 : va_P (dC, dI) vwCl ([(h0, .inr (6, [.ref sea, .ref pas, .ref fl, .ref fc, .int xlf, .int xhr, .int xho, .int xga, .int xsg, .int xpr, .int xfa, .long xls])), (sea, .inr (3, [.ref lc, .ref ct, .ref ch])), (lc, .inl (cZ, 160, .inl Lc))] ++ va_pl L f) H := va_P.part (X := [(h0, .inr (6, [.ref sea, .ref pas, .ref fl, .ref fc, .int xlf, .int xhr, .int xho, .int xga, .int xsg, .int xpr, .int xfa, .long xls])), (sea, .inr (3, [.ref lc, .ref ct, .ref ch])), (lc, .inl (cZ, 160, .inl Lc))]) hP [0, 1, 2] rfl
          have hD9 : va_D A ([(h0, .inr (6, [.ref sea, .ref pas, .ref fl, .ref fc, .int xlf, .int xhr, .int xho, .int xga, .int xsg, .int xpr, .int xfa, .long xls])), (sea, .inr (3, [.ref lc, .ref ct, .ref ch])), (lc, .inl (cZ, 160, .inl Lc))] ++ va_pl L f) := va_D.part (X := [(h0, .inr (6, [.ref sea, .ref pas, .ref fl, .ref fc, .int xlf, .int xhr, .int xho, .int xga, .int xsg, .int xpr, .int xfa, .long xls])), (sea, .inr (3, [.ref lc, .ref ct, .ref ch])), (lc, .inl (cZ, 160, .inl Lc))]) hD [0, 1, 2] (by decide) rfl
          have hK9 := hK.sub (tys' := [(cZ, .boolean), (cO, .object "java/lang/Object")]) [0, 1] rfl
          refine W.widen (k := 4) (n := 220) (Nat.le_of_ble_eq_true rfl) (Nat.le_of_ble_eq_true rfl) ?_
          have hv9 : (-2 : Int32).toInt = (-2) := by decide
          exact W.iret (v := (-2)) hx hb hr (fun t ht hW => ⟨⟨(-2), (L, f, own, n, sa, V, oa, ia, nO, OW, nS, SW), rfl, ⟨inv, (fun B hB h => h)⟩, ⟨by rw [ht]; exact hP9, va_K.moved hW.alike hK9, hD9⟩⟩, hS.F ht⟩) hS.2.2 dX5_ship_44
      · skip
        have b_95 := b01n k_14 c_16
        (try simp only [Int32.lt_iff_toInt_lt, Int32.le_iff_toInt_le, ← Int32.toInt_inj, Int32.reduceToInt, zl1, zl2, zl3, zl4, zl9] at b_95)
        (try simp only [Int32.reduceToInt] at b_95)
        refine lv_iconst (v := (-1)) hx hb dX5_ship_26 (by decide) ?_
        have hP9 : va_P (dC, dI) vwCl ([(h0, .inr (6, [.ref sea, .ref pas, .ref fl, .ref fc, .int xlf, .int xhr, .int xho, .int xga, .int xsg, .int xpr, .int xfa, .long xls])), (sea, .inr (3, [.ref lc, .ref ct, .ref ch])), (lc, .inl (cZ, 160, .inl Lc))] ++ va_pl L f) H := va_P.part (X := [(h0, .inr (6, [.ref sea, .ref pas, .ref fl, .ref fc, .int xlf, .int xhr, .int xho, .int xga, .int xsg, .int xpr, .int xfa, .long xls])), (sea, .inr (3, [.ref lc, .ref ct, .ref ch])), (lc, .inl (cZ, 160, .inl Lc))]) hP [0, 1, 2] rfl
        have hD9 : va_D A ([(h0, .inr (6, [.ref sea, .ref pas, .ref fl, .ref fc, .int xlf, .int xhr, .int xho, .int xga, .int xsg, .int xpr, .int xfa, .long xls])), (sea, .inr (3, [.ref lc, .ref ct, .ref ch])), (lc, .inl (cZ, 160, .inl Lc))] ++ va_pl L f) := va_D.part (X := [(h0, .inr (6, [.ref sea, .ref pas, .ref fl, .ref fc, .int xlf, .int xhr, .int xho, .int xga, .int xsg, .int xpr, .int xfa, .long xls])), (sea, .inr (3, [.ref lc, .ref ct, .ref ch])), (lc, .inl (cZ, 160, .inl Lc))]) hD [0, 1, 2] (by decide) rfl
        have hK9 := hK.sub (tys' := [(cZ, .boolean), (cO, .object "java/lang/Object")]) [0, 1] rfl
        refine W.widen (k := 4) (n := 220) (Nat.le_of_ble_eq_true rfl) (Nat.le_of_ble_eq_true rfl) ?_
        have hv9 : (-1 : Int32).toInt = (-1) := by decide
        exact W.iret (v := (-1)) hx hb hr (fun t ht hW => ⟨⟨(-1), (L, f, own, n, sa, V, oa, ia, nO, OW, nS, SW), rfl, ⟨inv, (fun B hB h => h)⟩, ⟨by rw [ht]; exact hP9, va_K.moved hW.alike hK9, hD9⟩⟩, hS.F ht⟩) hS.2.2 dX5_ship_27
