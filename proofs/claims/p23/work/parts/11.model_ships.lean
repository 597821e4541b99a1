set_option maxRecDepth 20000 in
theorem iw_X6_ship_X6 : ∀ w ∈ wsX60, w ∈ wsX6_ship := by decide +kernel
set_option maxHeartbeats 4000000 in
set_option maxRecDepth 100000 in
/-- reference: ship -/
theorem c_X6_ship (l : Launch) (dC : Nat → ClassId) (dI : Nat → Nat → Nat) (sz : Nat) (m0 : Nat) (mfi : Nat) (mil : Nat) (mic : Nat) (mwi : Nat) (mmo : Nat) (mki : Nat) (mce : Nat) (mgo : Nat) (mwa : Nat) (mha : Nat) (mch : Nat) (mfo : Nat) (mca : Nat) (mor : Nat) (mro : Nat) (mra : Nat) (mpr : Nat) (mho : Nat) (mis : Nat) (mss : Nat) (msc : Nat) (msh : Nat) (vfi : Int32) (vhr : Int32) (vho : Int32) (vga : Int32) (vns : Int32) (vsg : Int32) (vpr : Int32) (vfa : Int32) (vak : Int64) (Kil : Nat → Int32) (Kki : Nat → Int32) (Kce : Nat → Int32) (Kch : Nat → Int32) (Kha : Nat → Int32) (cI : ClassId) (cZ : ClassId) (a0 : Int32) (a1 : Int32) (a2 : Int32) (i_vns : 0 ≤ vns.toInt ∧ vns.toInt ≤ 8) (R_Kki : Rg 8 0 3 Kki) (R_Kce : Rg 8 0 159 Kce) (R_Kch : Rg 8 0 20000 Kch) (R_Kha : Rn 8 0 100000 Kha) : Met l yX6_ship wsX6_ship ({ frames := 2, cells := 0, slots := 0, locals := 42 }) (va_Pc [.ref m0, .int a0, .int a1, .int a2] (fun U => U.heap.size = sz ∧ va_P (dC, dI) vwCl [(m0, .inr (7, [.int vfi, .ref mfi, .long vak, .int vhr, .ref mil, .ref mic, .ref mwi, .int vho, .int vga, .ref mmo, .int vns, .ref mki, .ref mce, .ref mgo, .ref mwa, .ref mha, .ref mch, .ref mfo, .ref mca, .ref mor, .ref mro, .ref mra, .ref mpr, .ref mho, .ref mis, .int vsg, .ref mss, .ref msc, .ref msh, .int vpr, .int vfa])), (mil, .inl (cZ, 160, .inl Kil)), (mki, .inl (cI, 8, .inl Kki)), (mce, .inl (cI, 8, .inl Kce)), (mch, .inl (cI, 8, .inl Kch)), (mha, .inl (cI, 8, .inl Kha))] U.heap ∧ va_K (dC, dI) vwCl [(cI, .int), (cZ, .boolean)] U ∧ NW U ∧ va_D (fun _ => True) [(m0, .inr (7, [.int vfi, .ref mfi, .long vak, .int vhr, .ref mil, .ref mic, .ref mwi, .int vho, .int vga, .ref mmo, .int vns, .ref mki, .ref mce, .ref mgo, .ref mwa, .ref mha, .ref mch, .ref mfo, .ref mca, .ref mor, .ref mro, .ref mra, .ref mpr, .ref mho, .ref mis, .int vsg, .ref mss, .ref msc, .ref msh, .int vpr, .int vfa])), (mil, .inl (cZ, 160, .inl Kil)), (mki, .inl (cI, 8, .inl Kki)), (mce, .inl (cI, 8, .inl Kce)), (mch, .inl (cI, 8, .inl Kch)), (mha, .inl (cI, 8, .inl Kha))])) (va_Qi (fun (r : Int32) (u : Int32 × (Nat → Int32) × (Nat → Int32) × (Nat → Int32) × (Nat → Int32)) => (0 ≤ u.1.toInt ∧ u.1.toInt ≤ 8) ∧ (Rg 8 0 3 u.2.1) ∧ (Rg 8 0 159 u.2.2.1) ∧ (Rg 8 0 20000 u.2.2.2.1) ∧ (Rn 8 0 100000 u.2.2.2.2)) (fun u t => va_P (dC, dI) vwCl [(m0, .inr (7, [.int vfi, .ref mfi, .long vak, .int vhr, .ref mil, .ref mic, .ref mwi, .int vho, .int vga, .ref mmo, .int u.1, .ref mki, .ref mce, .ref mgo, .ref mwa, .ref mha, .ref mch, .ref mfo, .ref mca, .ref mor, .ref mro, .ref mra, .ref mpr, .ref mho, .ref mis, .int vsg, .ref mss, .ref msc, .ref msh, .int vpr, .int vfa])), (mil, .inl (cZ, 160, .inl Kil)), (mki, .inl (cI, 8, .inl u.2.1)), (mce, .inl (cI, 8, .inl u.2.2.1)), (mch, .inl (cI, 8, .inl u.2.2.2.1)), (mha, .inl (cI, 8, .inl u.2.2.2.2))] t.heap ∧ va_K (dC, dI) vwCl [(cI, .int), (cZ, .boolean)] t ∧ va_D (va_A [(m0, .inr (7, [.int vfi, .ref mfi, .long vak, .int vhr, .ref mil, .ref mic, .ref mwi, .int vho, .int vga, .ref mmo, .int vns, .ref mki, .ref mce, .ref mgo, .ref mwa, .ref mha, .ref mch, .ref mfo, .ref mca, .ref mor, .ref mro, .ref mra, .ref mpr, .ref mho, .ref mis, .int vsg, .ref mss, .ref msc, .ref msh, .int vpr, .int vfa])), (mil, .inl (cZ, 160, .inl Kil)), (mki, .inl (cI, 8, .inl Kki)), (mce, .inl (cI, 8, .inl Kce)), (mch, .inl (cI, 8, .inl Kch)), (mha, .inl (cI, 8, .inl Kha))] sz) [(m0, .inr (7, [.int vfi, .ref mfi, .long vak, .int vhr, .ref mil, .ref mic, .ref mwi, .int vho, .int vga, .ref mmo, .int u.1, .ref mki, .ref mce, .ref mgo, .ref mwa, .ref mha, .ref mch, .ref mfo, .ref mca, .ref mor, .ref mro, .ref mra, .ref mpr, .ref mho, .ref mis, .int vsg, .ref mss, .ref msc, .ref msh, .int vpr, .int vfa])), (mil, .inl (cZ, 160, .inl Kil)), (mki, .inl (cI, 8, .inl u.2.1)), (mce, .inl (cI, 8, .inl u.2.2.1)), (mch, .inl (cI, 8, .inl u.2.2.2.1)), (mha, .inl (cI, 8, .inl u.2.2.2.2))]) (va_A [(m0, .inr (7, [.int vfi, .ref mfi, .long vak, .int vhr, .ref mil, .ref mic, .ref mwi, .int vho, .int vga, .ref mmo, .int vns, .ref mki, .ref mce, .ref mgo, .ref mwa, .ref mha, .ref mch, .ref mfo, .ref mca, .ref mor, .ref mro, .ref mra, .ref mpr, .ref mho, .ref mis, .int vsg, .ref mss, .ref msc, .ref msh, .int vpr, .int vfa])), (mil, .inl (cZ, 160, .inl Kil)), (mki, .inl (cI, 8, .inl Kki)), (mce, .inl (cI, 8, .inl Kce)), (mch, .inl (cI, 8, .inl Kch)), (mha, .inl (cI, 8, .inl Kha))] sz)) 0 0 (va_A [(m0, .inr (7, [.int vfi, .ref mfi, .long vak, .int vhr, .ref mil, .ref mic, .ref mwi, .int vho, .int vga, .ref mmo, .int vns, .ref mki, .ref mce, .ref mgo, .ref mwa, .ref mha, .ref mch, .ref mfo, .ref mca, .ref mor, .ref mro, .ref mra, .ref mpr, .ref mho, .ref mis, .int vsg, .ref mss, .ref msc, .ref msh, .int vpr, .int vfa])), (mil, .inl (cZ, 160, .inl Kil)), (mki, .inl (cI, 8, .inl Kki)), (mce, .inl (cI, 8, .inl Kce)), (mch, .inl (cI, 8, .inl Kch)), (mha, .inl (cI, 8, .inl Kha))] sz) := by
  refine Met.ofW (cc := cX6_ship) (maxL := 4) (ret := (some .int)) (by decide) rfl ?_
  intro p e s m args below meth c s₁ B hml hv
  obtain ⟨rfl, hsz, hP, hK, hN, hD0⟩ := hv
  have hx := B.exec
  have hb := B.bytes
  have hr := B.returns
  have hts := atoms_spec (ws := wsX6_ship) B.pre
  have hown : s.vm.findClass RX6 = some m.cls := findClass_of_methodNamed B.named
  have hlocks := B.notSynchronized
  subst hsz
  have hD := hD0.self (sz := s.heap.size)
  generalize hAe : va_A [(m0, .inr (7, [.int vfi, .ref mfi, .long vak, .int vhr, .ref mil, .ref mic, .ref mwi, .int vho, .int vga, .ref mmo, .int vns, .ref mki, .ref mce, .ref mgo, .ref mwa, .ref mha, .ref mch, .ref mfo, .ref mca, .ref mor, .ref mro, .ref mra, .ref mpr, .ref mho, .ref mis, .int vsg, .ref mss, .ref msc, .ref msh, .int vpr, .int vfa])), (mil, .inl (cZ, 160, .inl Kil)), (mki, .inl (cI, 8, .inl Kki)), (mce, .inl (cI, 8, .inl Kce)), (mch, .inl (cI, 8, .inl Kch)), (mha, .inl (cI, 8, .inl Kha))] s.heap.size = A at hD ⊢
  have hA : ∀ q : Nat, s.heap.size ≤ q → A q := fun q h => by rw [← hAe]; exact Or.inr h
  have hS : va_S A s.heap s.heap [] := va_S.rf
  have hP : va_P (dC, dI) vwCl [(m0, .inr (7, [.int vfi, .ref mfi, .long vak, .int vhr, .ref mil, .ref mic, .ref mwi, .int vho, .int vga, .ref mmo, .int vns, .ref mki, .ref mce, .ref mgo, .ref mwa, .ref mha, .ref mch, .ref mfo, .ref mca, .ref mor, .ref mro, .ref mra, .ref mpr, .ref mho, .ref mis, .int vsg, .ref mss, .ref msc, .ref msh, .int vpr, .int vfa])), (mil, .inl (cZ, 160, .inl Kil)), (mki, .inl (cI, 8, .inl Kki)), (mce, .inl (cI, 8, .inl Kce)), (mch, .inl (cI, 8, .inl Kch)), (mha, .inl (cI, 8, .inl Kha))] s.heap := hP
  have hl := lv_entry ([.ref m0, .int a0, .int a1, .int a2]) (n := 4) (Nat.le_of_ble_eq_true rfl)
  rw [lg_entry_eq]
  generalize (lg_sl ([.ref m0, .int a0, .int a1, .int a2]) ++ List.replicate (4 - (lg_sl ([.ref m0, .int a0, .int a1, .int a2])).length) Slot.unset).toArray = ls at hl ⊢
  have hl : lv_has ls 4 [(0, .ref m0), (1, .int a0), (2, .int a1), (3, .int a2)] := hl
  refine lv_iload_n hx hb dX6_ship_0 rfl (lv_at hl 1 rfl) ?_
  refine lv_iconst (v := 0) hx hb dX6_ship_1 (by decide) ?_
  refine lv_iconst (v := 3) hx hb dX6_ship_2 (by decide) ?_
  refine va_calli (va_runS (As := [.int a0, .int 0, .int 3]) (rest := []) ⟨hx, hb, hml, hown, hts⟩ (c_X6_in l s.heap.size a0 0 3 ) (va_cwS 3 hts gX6_ship_X6_in rfl rfl rfl (by decide +kernel) ⟨Nat.le_of_ble_eq_true rfl, Nat.le_of_ble_eq_true rfl⟩) ⟨fun a U g mk q => by obtain ⟨q0, q1⟩ := q; exact ⟨q0, q1⟩, fun U hU hW => ⟨rfl, congrArg Array.size hU⟩⟩ rfl rfl hl.1 rfl (lv_room (Nat.le_of_ble_eq_true rfl)) dX6_ship_3 ⟨(Nat.zero_le _), (Nat.zero_le _)⟩) hS (fun q _ h => ro_A hS hA q h) (ro_A hS hA) (fun r_1 u t H1 locs ht hvm k_2 hB hz1 hk1 hS => ?_)
  have hP := ro_P hk1 hP
  generalize H1 = H at hP hS ⊢
  try dsimp only at k_2
  obtain ⟨k_2, k_3⟩ := k_2
  refine lv_if_eq (tgt := 36) hx hb dX6_ship_6 (by decide) (fun c_4 => ?_) (fun c_4 => ?_)
  · skip
    have b_5 := b01z k_2 c_4
    (try simp only [Int32.lt_iff_toInt_lt, Int32.le_iff_toInt_le, ← Int32.toInt_inj, Int32.reduceToInt, zl1, zl2, zl3, zl4, zl9] at b_5)
    (try simp only [Int32.reduceToInt] at b_5)
    refine lv_iconst (v := (-1)) hx hb dX6_ship_36 (by decide) ?_
    have hP9 := hP.sub (ws' := [(m0, .inr (7, [.int vfi, .ref mfi, .long vak, .int vhr, .ref mil, .ref mic, .ref mwi, .int vho, .int vga, .ref mmo, .int vns, .ref mki, .ref mce, .ref mgo, .ref mwa, .ref mha, .ref mch, .ref mfo, .ref mca, .ref mor, .ref mro, .ref mra, .ref mpr, .ref mho, .ref mis, .int vsg, .ref mss, .ref msc, .ref msh, .int vpr, .int vfa])), (mil, .inl (cZ, 160, .inl Kil)), (mki, .inl (cI, 8, .inl Kki)), (mce, .inl (cI, 8, .inl Kce)), (mch, .inl (cI, 8, .inl Kch)), (mha, .inl (cI, 8, .inl Kha))]) [0, 1, 2, 3, 4, 5] rfl
    have hD9 := hD.sub (ws' := [(m0, .inr (7, [.int vfi, .ref mfi, .long vak, .int vhr, .ref mil, .ref mic, .ref mwi, .int vho, .int vga, .ref mmo, .int vns, .ref mki, .ref mce, .ref mgo, .ref mwa, .ref mha, .ref mch, .ref mfo, .ref mca, .ref mor, .ref mro, .ref mra, .ref mpr, .ref mho, .ref mis, .int vsg, .ref mss, .ref msc, .ref msh, .int vpr, .int vfa])), (mil, .inl (cZ, 160, .inl Kil)), (mki, .inl (cI, 8, .inl Kki)), (mce, .inl (cI, 8, .inl Kce)), (mch, .inl (cI, 8, .inl Kch)), (mha, .inl (cI, 8, .inl Kha))]) [0, 1, 2, 3, 4, 5] (by decide) rfl
    have hK9 := hK.sub (tys' := [(cI, .int), (cZ, .boolean)]) [0, 1] rfl
    have hv9 : (-1 : Int32).toInt = (-1) := by decide
    exact W.iret (v := (-1)) hx hb hr (fun t ht hW => ⟨⟨(-1), (vns, Kki, Kce, Kch, Kha), rfl, ⟨(show 0 ≤ (vns).toInt ∧ (vns).toInt ≤ 8 from ⟨by omega, by omega⟩), (show Rg 8 0 3 Kki from R_Kki), (show Rg 8 0 159 Kce from R_Kce), (show Rg 8 0 20000 Kch from R_Kch), (show Rn 8 0 100000 Kha from R_Kha)⟩, ⟨by rw [ht]; exact hP9, va_K.moved hW.alike hK9, hD9⟩⟩, hS.F ht⟩) hS.2.2 dX6_ship_37
  · skip
    have b_6 := b01n k_2 c_4
    (try simp only [Int32.lt_iff_toInt_lt, Int32.le_iff_toInt_le, ← Int32.toInt_inj, Int32.reduceToInt, zl1, zl2, zl3, zl4, zl9] at b_6)
    (try simp only [Int32.reduceToInt] at b_6)
    refine lv_iload_n hx hb dX6_ship_9 rfl (lv_at hl 2 rfl) ?_
    refine va_calli (va_runS (As := [.int a1]) (rest := []) ⟨hx, hb, hml, hown, hts⟩ (c_X6_isCell l H.size a1 ) (va_cwS 1 hts gX6_ship_X6_isCell rfl rfl rfl (by decide +kernel) ⟨Nat.le_of_ble_eq_true rfl, Nat.le_of_ble_eq_true rfl⟩) ⟨fun a U g mk q => by obtain ⟨q0, q1⟩ := q; exact ⟨q0, q1⟩, fun U hU hW => ⟨rfl, congrArg Array.size hU⟩⟩ rfl rfl hl.1 rfl (lv_room (Nat.le_of_ble_eq_true rfl)) dX6_ship_10 ⟨(Nat.zero_le _), (Nat.zero_le _)⟩) hS (fun q _ h => ro_A hS hA q h) (ro_A hS hA) (fun r_7 u t H1 locs ht hvm k_8 hB hz1 hk1 hS => ?_)
    have hP := ro_P hk1 hP
    generalize H1 = H at hP hS ⊢
    try dsimp only at k_8
    obtain ⟨k_8, k_9⟩ := k_8
    refine lv_if_eq (tgt := 36) hx hb dX6_ship_13 (by decide) (fun c_10 => ?_) (fun c_10 => ?_)
    · skip
      have b_11 := b01z k_8 c_10
      (try simp only [Int32.lt_iff_toInt_lt, Int32.le_iff_toInt_le, ← Int32.toInt_inj, Int32.reduceToInt, zl1, zl2, zl3, zl4, zl9] at b_11)
      (try simp only [Int32.reduceToInt] at b_11)
      refine lv_iconst (v := (-1)) hx hb dX6_ship_36 (by decide) ?_
      have hP9 := hP.sub (ws' := [(m0, .inr (7, [.int vfi, .ref mfi, .long vak, .int vhr, .ref mil, .ref mic, .ref mwi, .int vho, .int vga, .ref mmo, .int vns, .ref mki, .ref mce, .ref mgo, .ref mwa, .ref mha, .ref mch, .ref mfo, .ref mca, .ref mor, .ref mro, .ref mra, .ref mpr, .ref mho, .ref mis, .int vsg, .ref mss, .ref msc, .ref msh, .int vpr, .int vfa])), (mil, .inl (cZ, 160, .inl Kil)), (mki, .inl (cI, 8, .inl Kki)), (mce, .inl (cI, 8, .inl Kce)), (mch, .inl (cI, 8, .inl Kch)), (mha, .inl (cI, 8, .inl Kha))]) [0, 1, 2, 3, 4, 5] rfl
      have hD9 := hD.sub (ws' := [(m0, .inr (7, [.int vfi, .ref mfi, .long vak, .int vhr, .ref mil, .ref mic, .ref mwi, .int vho, .int vga, .ref mmo, .int vns, .ref mki, .ref mce, .ref mgo, .ref mwa, .ref mha, .ref mch, .ref mfo, .ref mca, .ref mor, .ref mro, .ref mra, .ref mpr, .ref mho, .ref mis, .int vsg, .ref mss, .ref msc, .ref msh, .int vpr, .int vfa])), (mil, .inl (cZ, 160, .inl Kil)), (mki, .inl (cI, 8, .inl Kki)), (mce, .inl (cI, 8, .inl Kce)), (mch, .inl (cI, 8, .inl Kch)), (mha, .inl (cI, 8, .inl Kha))]) [0, 1, 2, 3, 4, 5] (by decide) rfl
      have hK9 := hK.sub (tys' := [(cI, .int), (cZ, .boolean)]) [0, 1] rfl
      have hv9 : (-1 : Int32).toInt = (-1) := by decide
      exact W.iret (v := (-1)) hx hb hr (fun t ht hW => ⟨⟨(-1), (vns, Kki, Kce, Kch, Kha), rfl, ⟨(show 0 ≤ (vns).toInt ∧ (vns).toInt ≤ 8 from ⟨by omega, by omega⟩), (show Rg 8 0 3 Kki from R_Kki), (show Rg 8 0 159 Kce from R_Kce), (show Rg 8 0 20000 Kch from R_Kch), (show Rn 8 0 100000 Kha from R_Kha)⟩, ⟨by rw [ht]; exact hP9, va_K.moved hW.alike hK9, hD9⟩⟩, hS.F ht⟩) hS.2.2 dX6_ship_37
    · skip
      have b_12 := b01n k_8 c_10
      (try simp only [Int32.lt_iff_toInt_lt, Int32.le_iff_toInt_le, ← Int32.toInt_inj, Int32.reduceToInt, zl1, zl2, zl3, zl4, zl9] at b_12)
      (try simp only [Int32.reduceToInt] at b_12)
      refine lv_aload_n hx hb dX6_ship_16 rfl (lv_at hl 0 rfl) ?_
      refine va_get (D := (dC, dI)) (ci := 7) (v := .ref mil) (C := RX6) (T := TX6) (N := 31) hx hb hts iw_X6_ship_X6 hown hK hP 0 rfl rfl 4 (by decide) (hts (.fieldLink RX6 13 "TeaRaceModel" "isLand" "[Z") (by decide +kernel)) (fun _ h9 => h9) rfl dX6_ship_17 ?_
      refine lv_iload_n hx hb dX6_ship_20 rfl (lv_at hl 2 rfl) ?_
      refine va_zald hx hb hK hP 1 1 rfl rfl (in_k rfl (by omega) (by omega)) dX6_ship_21 ?_
      refine lv_topi (fun x_13 ex_13 => ?_)
      have rx_13 := congrArg Int32.toInt ex_13
      refine lv_if_ne (tgt := 36) hx hb dX6_ship_22 (by decide) (fun c_14 => ?_) (fun c_14 => ?_)
      · skip
        have qc_14 : x_13.toInt ≠ 0 := ne_k rfl (by decide) c_14
        refine lv_iconst (v := (-1)) hx hb dX6_ship_36 (by decide) ?_
        have hP9 := hP.sub (ws' := [(m0, .inr (7, [.int vfi, .ref mfi, .long vak, .int vhr, .ref mil, .ref mic, .ref mwi, .int vho, .int vga, .ref mmo, .int vns, .ref mki, .ref mce, .ref mgo, .ref mwa, .ref mha, .ref mch, .ref mfo, .ref mca, .ref mor, .ref mro, .ref mra, .ref mpr, .ref mho, .ref mis, .int vsg, .ref mss, .ref msc, .ref msh, .int vpr, .int vfa])), (mil, .inl (cZ, 160, .inl Kil)), (mki, .inl (cI, 8, .inl Kki)), (mce, .inl (cI, 8, .inl Kce)), (mch, .inl (cI, 8, .inl Kch)), (mha, .inl (cI, 8, .inl Kha))]) [0, 1, 2, 3, 4, 5] rfl
        have hD9 := hD.sub (ws' := [(m0, .inr (7, [.int vfi, .ref mfi, .long vak, .int vhr, .ref mil, .ref mic, .ref mwi, .int vho, .int vga, .ref mmo, .int vns, .ref mki, .ref mce, .ref mgo, .ref mwa, .ref mha, .ref mch, .ref mfo, .ref mca, .ref mor, .ref mro, .ref mra, .ref mpr, .ref mho, .ref mis, .int vsg, .ref mss, .ref msc, .ref msh, .int vpr, .int vfa])), (mil, .inl (cZ, 160, .inl Kil)), (mki, .inl (cI, 8, .inl Kki)), (mce, .inl (cI, 8, .inl Kce)), (mch, .inl (cI, 8, .inl Kch)), (mha, .inl (cI, 8, .inl Kha))]) [0, 1, 2, 3, 4, 5] (by decide) rfl
        have hK9 := hK.sub (tys' := [(cI, .int), (cZ, .boolean)]) [0, 1] rfl
        have hv9 : (-1 : Int32).toInt = (-1) := by decide
        exact W.iret (v := (-1)) hx hb hr (fun t ht hW => ⟨⟨(-1), (vns, Kki, Kce, Kch, Kha), rfl, ⟨(show 0 ≤ (vns).toInt ∧ (vns).toInt ≤ 8 from ⟨by omega, by omega⟩), (show Rg 8 0 3 Kki from R_Kki), (show Rg 8 0 159 Kce from R_Kce), (show Rg 8 0 20000 Kch from R_Kch), (show Rn 8 0 100000 Kha from R_Kha)⟩, ⟨by rw [ht]; exact hP9, va_K.moved hW.alike hK9, hD9⟩⟩, hS.F ht⟩) hS.2.2 dX6_ship_37
      · skip
        have qc_14 : x_13.toInt = 0 := eq_k rfl (by decide) c_14
        refine lv_iload_n hx hb dX6_ship_25 rfl (lv_at hl 3 rfl) ?_
        refine lv_iconst (v := 0) hx hb dX6_ship_26 (by decide) ?_
        refine lv_sipush (v := 20000) hx hb dX6_ship_27 (by decide) ?_
        refine va_calli (va_runS (As := [.int a2, .int 0, .int 20000]) (rest := []) ⟨hx, hb, hml, hown, hts⟩ (c_X6_in l H.size a2 0 20000 ) (va_cwS 3 hts gX6_ship_X6_in rfl rfl rfl (by decide +kernel) ⟨Nat.le_of_ble_eq_true rfl, Nat.le_of_ble_eq_true rfl⟩) ⟨fun a U g mk q => by obtain ⟨q0, q1⟩ := q; exact ⟨q0, q1⟩, fun U hU hW => ⟨rfl, congrArg Array.size hU⟩⟩ rfl rfl hl.1 rfl (lv_room (Nat.le_of_ble_eq_true rfl)) dX6_ship_30 ⟨(Nat.zero_le _), (Nat.zero_le _)⟩) hS (fun q _ h => ro_A hS hA q h) (ro_A hS hA) (fun r_15 u t H1 locs ht hvm k_16 hB hz1 hk1 hS => ?_)
        have hP := ro_P hk1 hP
        generalize H1 = H at hP hS ⊢
        try dsimp only at k_16
        obtain ⟨k_16, k_17⟩ := k_16
        refine lv_if_ne (tgt := 38) hx hb dX6_ship_33 (by decide) (fun c_18 => ?_) (fun c_18 => ?_)
        · skip
          have b_19 := b01n k_16 c_18
          (try simp only [Int32.lt_iff_toInt_lt, Int32.le_iff_toInt_le, ← Int32.toInt_inj, Int32.reduceToInt, zl1, zl2, zl3, zl4, zl9] at b_19)
          (try simp only [Int32.reduceToInt] at b_19)
          refine lv_aload_n hx hb dX6_ship_38 rfl (lv_at hl 0 rfl) ?_
          refine va_get (D := (dC, dI)) (ci := 7) (v := .int vns) (C := RX6) (T := TX6) (N := 31) hx hb hts iw_X6_ship_X6 hown hK hP 0 rfl rfl 10 (by decide) (hts (.fieldLink RX6 110 "TeaRaceModel" "ships" "I") (by decide +kernel)) (fun _ h9 => h9) rfl dX6_ship_39 ?_
          refine lv_bipush (v := 8) hx hb dX6_ship_42 (by decide) ?_
          refine lv_icmp_ne (tgt := 50) hx hb dX6_ship_44 (by decide) (fun c_20 => ?_) (fun c_20 => ?_)
          · skip
            have qc_20 : vns.toInt ≠ 8 := ne_k rfl (by decide) c_20
            refine lv_aload_n hx hb dX6_ship_50 rfl (lv_at hl 0 rfl) ?_
            refine va_get (D := (dC, dI)) (ci := 7) (v := .int vhr) (C := RX6) (T := TX6) (N := 31) hx hb hts iw_X6_ship_X6 hown hK hP 0 rfl rfl 3 (by decide) (hts (.fieldLink RX6 113 "TeaRaceModel" "hour" "I") (by decide +kernel)) (fun _ h9 => h9) rfl dX6_ship_51 ?_
            refine lv_if_eq (tgt := 60) hx hb dX6_ship_54 (by decide) (fun c_21 => ?_) (fun c_21 => ?_)
            · skip
              have qc_21 : vhr.toInt = 0 := eq_k rfl (by decide) c_21
              refine lv_aload_n hx hb dX6_ship_60 rfl (lv_at hl 0 rfl) ?_
              refine va_get (D := (dC, dI)) (ci := 7) (v := .ref mki) (C := RX6) (T := TX6) (N := 31) hx hb hts iw_X6_ship_X6 hown hK hP 0 rfl rfl 11 (by decide) (hts (.fieldLink RX6 26 "TeaRaceModel" "kinds" "[I") (by decide +kernel)) (fun _ h9 => h9) rfl dX6_ship_61 ?_
              refine lv_aload_n hx hb dX6_ship_64 rfl (lv_at hl 0 rfl) ?_
              refine va_get (D := (dC, dI)) (ci := 7) (v := .int vns) (C := RX6) (T := TX6) (N := 31) hx hb hts iw_X6_ship_X6 hown hK hP 0 rfl rfl 10 (by decide) (hts (.fieldLink RX6 110 "TeaRaceModel" "ships" "I") (by decide +kernel)) (fun _ h9 => h9) rfl dX6_ship_65 ?_
              refine lv_iload_n hx hb dX6_ship_68 rfl (lv_at hl 1 rfl) ?_
              refine va_iast hx hb hK hP hD hS 2 0 rfl rfl (in_k rfl (by omega) (by omega)) dX6_ship_69 (fun H locs hP hD hS => ?_)
              have hP : va_P (dC, dI) vwCl [(m0, .inr (7, [.int vfi, .ref mfi, .long vak, .int vhr, .ref mil, .ref mic, .ref mwi, .int vho, .int vga, .ref mmo, .int vns, .ref mki, .ref mce, .ref mgo, .ref mwa, .ref mha, .ref mch, .ref mfo, .ref mca, .ref mor, .ref mro, .ref mra, .ref mpr, .ref mho, .ref mis, .int vsg, .ref mss, .ref msc, .ref msh, .int vpr, .int vfa])), (mil, .inl (cZ, 160, .inl Kil)), (mki, .inl (cI, 8, .inl (upd Kki vns.toNatClampNeg a0))), (mce, .inl (cI, 8, .inl Kce)), (mch, .inl (cI, 8, .inl Kch)), (mha, .inl (cI, 8, .inl Kha))] H := hP
              have hD : va_D A [(m0, .inr (7, [.int vfi, .ref mfi, .long vak, .int vhr, .ref mil, .ref mic, .ref mwi, .int vho, .int vga, .ref mmo, .int vns, .ref mki, .ref mce, .ref mgo, .ref mwa, .ref mha, .ref mch, .ref mfo, .ref mca, .ref mor, .ref mro, .ref mra, .ref mpr, .ref mho, .ref mis, .int vsg, .ref mss, .ref msc, .ref msh, .int vpr, .int vfa])), (mil, .inl (cZ, 160, .inl Kil)), (mki, .inl (cI, 8, .inl (upd Kki vns.toNatClampNeg a0))), (mce, .inl (cI, 8, .inl Kce)), (mch, .inl (cI, 8, .inl Kch)), (mha, .inl (cI, 8, .inl Kha))] := hD
              have zs_22 : (upd Kki vns.toNatClampNeg a0 vns.toNatClampNeg).toInt = a0.toInt := congrArg Int32.toInt (upd_at (Kki) vns.toNatClampNeg a0)
              have R_23 : Rg 8 0 3 (upd Kki vns.toNatClampNeg a0) := Rg.st R_Kki rfl (by omega) (by omega)
              refine lv_aload_n hx hb dX6_ship_70 rfl (lv_at hl 0 rfl) ?_
              refine va_get (D := (dC, dI)) (ci := 7) (v := .ref mce) (C := RX6) (T := TX6) (N := 31) hx hb hts iw_X6_ship_X6 hown hK hP 0 rfl rfl 12 (by decide) (hts (.fieldLink RX6 29 "TeaRaceModel" "cells" "[I") (by decide +kernel)) (fun _ h9 => h9) rfl dX6_ship_71 ?_
              refine lv_aload_n hx hb dX6_ship_74 rfl (lv_at hl 0 rfl) ?_
              refine va_get (D := (dC, dI)) (ci := 7) (v := .int vns) (C := RX6) (T := TX6) (N := 31) hx hb hts iw_X6_ship_X6 hown hK hP 0 rfl rfl 10 (by decide) (hts (.fieldLink RX6 110 "TeaRaceModel" "ships" "I") (by decide +kernel)) (fun _ h9 => h9) rfl dX6_ship_75 ?_
              refine lv_iload_n hx hb dX6_ship_78 rfl (lv_at hl 2 rfl) ?_
              refine va_iast hx hb hK hP hD hS 3 0 rfl rfl (in_k rfl (by omega) (by omega)) dX6_ship_79 (fun H locs hP hD hS => ?_)
              have hP : va_P (dC, dI) vwCl [(m0, .inr (7, [.int vfi, .ref mfi, .long vak, .int vhr, .ref mil, .ref mic, .ref mwi, .int vho, .int vga, .ref mmo, .int vns, .ref mki, .ref mce, .ref mgo, .ref mwa, .ref mha, .ref mch, .ref mfo, .ref mca, .ref mor, .ref mro, .ref mra, .ref mpr, .ref mho, .ref mis, .int vsg, .ref mss, .ref msc, .ref msh, .int vpr, .int vfa])), (mil, .inl (cZ, 160, .inl Kil)), (mki, .inl (cI, 8, .inl (upd Kki vns.toNatClampNeg a0))), (mce, .inl (cI, 8, .inl (upd Kce vns.toNatClampNeg a1))), (mch, .inl (cI, 8, .inl Kch)), (mha, .inl (cI, 8, .inl Kha))] H := hP
              have hD : va_D A [(m0, .inr (7, [.int vfi, .ref mfi, .long vak, .int vhr, .ref mil, .ref mic, .ref mwi, .int vho, .int vga, .ref mmo, .int vns, .ref mki, .ref mce, .ref mgo, .ref mwa, .ref mha, .ref mch, .ref mfo, .ref mca, .ref mor, .ref mro, .ref mra, .ref mpr, .ref mho, .ref mis, .int vsg, .ref mss, .ref msc, .ref msh, .int vpr, .int vfa])), (mil, .inl (cZ, 160, .inl Kil)), (mki, .inl (cI, 8, .inl (upd Kki vns.toNatClampNeg a0))), (mce, .inl (cI, 8, .inl (upd Kce vns.toNatClampNeg a1))), (mch, .inl (cI, 8, .inl Kch)), (mha, .inl (cI, 8, .inl Kha))] := hD
              have zs_24 : (upd Kce vns.toNatClampNeg a1 vns.toNatClampNeg).toInt = a1.toInt := congrArg Int32.toInt (upd_at (Kce) vns.toNatClampNeg a1)
              have R_25 : Rg 8 0 159 (upd Kce vns.toNatClampNeg a1) := Rg.st R_Kce rfl (by omega) (by omega)
              refine lv_aload_n hx hb dX6_ship_80 rfl (lv_at hl 0 rfl) ?_
              refine va_get (D := (dC, dI)) (ci := 7) (v := .ref mch) (C := RX6) (T := TX6) (N := 31) hx hb hts iw_X6_ship_X6 hown hK hP 0 rfl rfl 16 (by decide) (hts (.fieldLink RX6 41 "TeaRaceModel" "chests" "[I") (by decide +kernel)) (fun _ h9 => h9) rfl dX6_ship_81 ?_
              refine lv_aload_n hx hb dX6_ship_84 rfl (lv_at hl 0 rfl) ?_
              refine va_get (D := (dC, dI)) (ci := 7) (v := .int vns) (C := RX6) (T := TX6) (N := 31) hx hb hts iw_X6_ship_X6 hown hK hP 0 rfl rfl 10 (by decide) (hts (.fieldLink RX6 110 "TeaRaceModel" "ships" "I") (by decide +kernel)) (fun _ h9 => h9) rfl dX6_ship_85 ?_
              refine lv_iload_n hx hb dX6_ship_88 rfl (lv_at hl 3 rfl) ?_
              refine va_iast hx hb hK hP hD hS 4 0 rfl rfl (in_k rfl (by omega) (by omega)) dX6_ship_89 (fun H locs hP hD hS => ?_)
              have hP : va_P (dC, dI) vwCl [(m0, .inr (7, [.int vfi, .ref mfi, .long vak, .int vhr, .ref mil, .ref mic, .ref mwi, .int vho, .int vga, .ref mmo, .int vns, .ref mki, .ref mce, .ref mgo, .ref mwa, .ref mha, .ref mch, .ref mfo, .ref mca, .ref mor, .ref mro, .ref mra, .ref mpr, .ref mho, .ref mis, .int vsg, .ref mss, .ref msc, .ref msh, .int vpr, .int vfa])), (mil, .inl (cZ, 160, .inl Kil)), (mki, .inl (cI, 8, .inl (upd Kki vns.toNatClampNeg a0))), (mce, .inl (cI, 8, .inl (upd Kce vns.toNatClampNeg a1))), (mch, .inl (cI, 8, .inl (upd Kch vns.toNatClampNeg a2))), (mha, .inl (cI, 8, .inl Kha))] H := hP
              have hD : va_D A [(m0, .inr (7, [.int vfi, .ref mfi, .long vak, .int vhr, .ref mil, .ref mic, .ref mwi, .int vho, .int vga, .ref mmo, .int vns, .ref mki, .ref mce, .ref mgo, .ref mwa, .ref mha, .ref mch, .ref mfo, .ref mca, .ref mor, .ref mro, .ref mra, .ref mpr, .ref mho, .ref mis, .int vsg, .ref mss, .ref msc, .ref msh, .int vpr, .int vfa])), (mil, .inl (cZ, 160, .inl Kil)), (mki, .inl (cI, 8, .inl (upd Kki vns.toNatClampNeg a0))), (mce, .inl (cI, 8, .inl (upd Kce vns.toNatClampNeg a1))), (mch, .inl (cI, 8, .inl (upd Kch vns.toNatClampNeg a2))), (mha, .inl (cI, 8, .inl Kha))] := hD
              have zs_26 : (upd Kch vns.toNatClampNeg a2 vns.toNatClampNeg).toInt = a2.toInt := congrArg Int32.toInt (upd_at (Kch) vns.toNatClampNeg a2)
              have R_27 : Rg 8 0 20000 (upd Kch vns.toNatClampNeg a2) := Rg.st R_Kch rfl (by omega) (by omega)
              refine lv_aload_n hx hb dX6_ship_90 rfl (lv_at hl 0 rfl) ?_
              refine va_get (D := (dC, dI)) (ci := 7) (v := .ref mha) (C := RX6) (T := TX6) (N := 31) hx hb hts iw_X6_ship_X6 hown hK hP 0 rfl rfl 15 (by decide) (hts (.fieldLink RX6 38 "TeaRaceModel" "homeAt" "[I") (by decide +kernel)) (fun _ h9 => h9) rfl dX6_ship_91 ?_
              refine lv_aload_n hx hb dX6_ship_94 rfl (lv_at hl 0 rfl) ?_
              refine va_get (D := (dC, dI)) (ci := 7) (v := .int vns) (C := RX6) (T := TX6) (N := 31) hx hb hts iw_X6_ship_X6 hown hK hP 0 rfl rfl 10 (by decide) (hts (.fieldLink RX6 110 "TeaRaceModel" "ships" "I") (by decide +kernel)) (fun _ h9 => h9) rfl dX6_ship_95 ?_
              refine lv_bipush (v := (-9)) hx hb dX6_ship_98 (by decide) ?_
              refine va_iast hx hb hK hP hD hS 5 0 rfl rfl (in_k rfl (by omega) (by omega)) dX6_ship_100 (fun H locs hP hD hS => ?_)
              have hP : va_P (dC, dI) vwCl [(m0, .inr (7, [.int vfi, .ref mfi, .long vak, .int vhr, .ref mil, .ref mic, .ref mwi, .int vho, .int vga, .ref mmo, .int vns, .ref mki, .ref mce, .ref mgo, .ref mwa, .ref mha, .ref mch, .ref mfo, .ref mca, .ref mor, .ref mro, .ref mra, .ref mpr, .ref mho, .ref mis, .int vsg, .ref mss, .ref msc, .ref msh, .int vpr, .int vfa])), (mil, .inl (cZ, 160, .inl Kil)), (mki, .inl (cI, 8, .inl (upd Kki vns.toNatClampNeg a0))), (mce, .inl (cI, 8, .inl (upd Kce vns.toNatClampNeg a1))), (mch, .inl (cI, 8, .inl (upd Kch vns.toNatClampNeg a2))), (mha, .inl (cI, 8, .inl (upd Kha vns.toNatClampNeg ((-9) : Int32))))] H := hP
              have hD : va_D A [(m0, .inr (7, [.int vfi, .ref mfi, .long vak, .int vhr, .ref mil, .ref mic, .ref mwi, .int vho, .int vga, .ref mmo, .int vns, .ref mki, .ref mce, .ref mgo, .ref mwa, .ref mha, .ref mch, .ref mfo, .ref mca, .ref mor, .ref mro, .ref mra, .ref mpr, .ref mho, .ref mis, .int vsg, .ref mss, .ref msc, .ref msh, .int vpr, .int vfa])), (mil, .inl (cZ, 160, .inl Kil)), (mki, .inl (cI, 8, .inl (upd Kki vns.toNatClampNeg a0))), (mce, .inl (cI, 8, .inl (upd Kce vns.toNatClampNeg a1))), (mch, .inl (cI, 8, .inl (upd Kch vns.toNatClampNeg a2))), (mha, .inl (cI, 8, .inl (upd Kha vns.toNatClampNeg ((-9) : Int32))))] := hD
              have zs_28 : (upd Kha vns.toNatClampNeg ((-9) : Int32) vns.toNatClampNeg).toInt = (-9) := (congrArg Int32.toInt (upd_at (Kha) vns.toNatClampNeg ((-9) : Int32))).trans (by decide)
              have R_29 : Rn 8 0 100000 (upd Kha vns.toNatClampNeg ((-9) : Int32)) := Rn.st R_Kha (p := (-9)) (by decide) (by omega)
              refine lv_aload_n hx hb dX6_ship_101 rfl (lv_at hl 0 rfl) ?_
              refine lv_dup hx hb dX6_ship_102 rfl ?_
              refine va_get (D := (dC, dI)) (ci := 7) (v := .int vns) (C := RX6) (T := TX6) (N := 31) hx hb hts iw_X6_ship_X6 hown hK hP 0 rfl rfl 10 (by decide) (hts (.fieldLink RX6 110 "TeaRaceModel" "ships" "I") (by decide +kernel)) (fun _ h9 => h9) rfl dX6_ship_103 ?_
              refine lv_iconst (v := 1) hx hb dX6_ship_106 (by decide) ?_
              refine lv_iadd hx hb dX6_ship_107 ?_
              refine lv_topi (fun x_30 ex_30 => ?_)
              have tx_30 : x_30.toInt = vns.toInt + 1 := ad_k ex_30 rfl (by decide) (by omega) (by omega)
              refine va_put (D := (dC, dI)) (ci := 7) (v := .int x_30) (ty := .int) (C := RX6) (T := TX6) (N := 31) hx hb hts iw_X6_ship_X6 tyX6 tyX6_ok nmX6 hown hK hP hD hS 0 rfl rfl 10 (by decide) (hts (.fieldLink RX6 110 "TeaRaceModel" "ships" "I") (by decide +kernel)) (fun _ h9 => h9) rfl (by decide +kernel) rfl rfl (Nat.le_of_ble_eq_true rfl) dX6_ship_108 (fun H locs hP hD hS => ?_)
              have hP : va_P (dC, dI) vwCl [(m0, .inr (7, [.int vfi, .ref mfi, .long vak, .int vhr, .ref mil, .ref mic, .ref mwi, .int vho, .int vga, .ref mmo, .int x_30, .ref mki, .ref mce, .ref mgo, .ref mwa, .ref mha, .ref mch, .ref mfo, .ref mca, .ref mor, .ref mro, .ref mra, .ref mpr, .ref mho, .ref mis, .int vsg, .ref mss, .ref msc, .ref msh, .int vpr, .int vfa])), (mil, .inl (cZ, 160, .inl Kil)), (mki, .inl (cI, 8, .inl (upd Kki vns.toNatClampNeg a0))), (mce, .inl (cI, 8, .inl (upd Kce vns.toNatClampNeg a1))), (mch, .inl (cI, 8, .inl (upd Kch vns.toNatClampNeg a2))), (mha, .inl (cI, 8, .inl (upd Kha vns.toNatClampNeg ((-9) : Int32))))] H := hP
              have hD : va_D A [(m0, .inr (7, [.int vfi, .ref mfi, .long vak, .int vhr, .ref mil, .ref mic, .ref mwi, .int vho, .int vga, .ref mmo, .int x_30, .ref mki, .ref mce, .ref mgo, .ref mwa, .ref mha, .ref mch, .ref mfo, .ref mca, .ref mor, .ref mro, .ref mra, .ref mpr, .ref mho, .ref mis, .int vsg, .ref mss, .ref msc, .ref msh, .int vpr, .int vfa])), (mil, .inl (cZ, 160, .inl Kil)), (mki, .inl (cI, 8, .inl (upd Kki vns.toNatClampNeg a0))), (mce, .inl (cI, 8, .inl (upd Kce vns.toNatClampNeg a1))), (mch, .inl (cI, 8, .inl (upd Kch vns.toNatClampNeg a2))), (mha, .inl (cI, 8, .inl (upd Kha vns.toNatClampNeg ((-9) : Int32))))] := hD
              refine lv_aload_n hx hb dX6_ship_111 rfl (lv_at hl 0 rfl) ?_
              refine va_get (D := (dC, dI)) (ci := 7) (v := .int x_30) (C := RX6) (T := TX6) (N := 31) hx hb hts iw_X6_ship_X6 hown hK hP 0 rfl rfl 10 (by decide) (hts (.fieldLink RX6 110 "TeaRaceModel" "ships" "I") (by decide +kernel)) (fun _ h9 => h9) rfl dX6_ship_112 ?_
              refine lv_iconst (v := 1) hx hb dX6_ship_115 (by decide) ?_
              refine lv_isub hx hb dX6_ship_116 ?_
              refine lv_topi (fun x_31 ex_31 => ?_)
              have tx_31 : x_31.toInt = x_30.toInt - 1 := su_k ex_31 rfl (by decide) (by omega) (by omega)
              have hP9 := hP.sub (ws' := [(m0, .inr (7, [.int vfi, .ref mfi, .long vak, .int vhr, .ref mil, .ref mic, .ref mwi, .int vho, .int vga, .ref mmo, .int x_30, .ref mki, .ref mce, .ref mgo, .ref mwa, .ref mha, .ref mch, .ref mfo, .ref mca, .ref mor, .ref mro, .ref mra, .ref mpr, .ref mho, .ref mis, .int vsg, .ref mss, .ref msc, .ref msh, .int vpr, .int vfa])), (mil, .inl (cZ, 160, .inl Kil)), (mki, .inl (cI, 8, .inl (upd Kki vns.toNatClampNeg a0))), (mce, .inl (cI, 8, .inl (upd Kce vns.toNatClampNeg a1))), (mch, .inl (cI, 8, .inl (upd Kch vns.toNatClampNeg a2))), (mha, .inl (cI, 8, .inl (upd Kha vns.toNatClampNeg ((-9) : Int32))))]) [0, 1, 2, 3, 4, 5] rfl
              have hD9 := hD.sub (ws' := [(m0, .inr (7, [.int vfi, .ref mfi, .long vak, .int vhr, .ref mil, .ref mic, .ref mwi, .int vho, .int vga, .ref mmo, .int x_30, .ref mki, .ref mce, .ref mgo, .ref mwa, .ref mha, .ref mch, .ref mfo, .ref mca, .ref mor, .ref mro, .ref mra, .ref mpr, .ref mho, .ref mis, .int vsg, .ref mss, .ref msc, .ref msh, .int vpr, .int vfa])), (mil, .inl (cZ, 160, .inl Kil)), (mki, .inl (cI, 8, .inl (upd Kki vns.toNatClampNeg a0))), (mce, .inl (cI, 8, .inl (upd Kce vns.toNatClampNeg a1))), (mch, .inl (cI, 8, .inl (upd Kch vns.toNatClampNeg a2))), (mha, .inl (cI, 8, .inl (upd Kha vns.toNatClampNeg ((-9) : Int32))))]) [0, 1, 2, 3, 4, 5] (by decide) rfl
              have hK9 := hK.sub (tys' := [(cI, .int), (cZ, .boolean)]) [0, 1] rfl
              exact W.iret (v := x_31) hx hb hr (fun t ht hW => ⟨⟨x_31, (x_30, upd Kki vns.toNatClampNeg a0, upd Kce vns.toNatClampNeg a1, upd Kch vns.toNatClampNeg a2, upd Kha vns.toNatClampNeg ((-9) : Int32)), rfl, ⟨(show 0 ≤ (x_30).toInt ∧ (x_30).toInt ≤ 8 from ⟨by omega, by omega⟩), (show Rg 8 0 3 (upd Kki vns.toNatClampNeg a0) from R_23), (show Rg 8 0 159 (upd Kce vns.toNatClampNeg a1) from R_25), (show Rg 8 0 20000 (upd Kch vns.toNatClampNeg a2) from R_27), (show Rn 8 0 100000 (upd Kha vns.toNatClampNeg ((-9) : Int32)) from R_29)⟩, ⟨by rw [ht]; exact hP9, va_K.moved hW.alike hK9, hD9⟩⟩, hS.F ht⟩) hS.2.2 dX6_ship_117
            · skip
              have qc_21 : vhr.toInt ≠ 0 := ne_k rfl (by decide) c_21
              refine lv_bipush (v := (-4)) hx hb dX6_ship_57 (by decide) ?_
              have hP9 := hP.sub (ws' := [(m0, .inr (7, [.int vfi, .ref mfi, .long vak, .int vhr, .ref mil, .ref mic, .ref mwi, .int vho, .int vga, .ref mmo, .int vns, .ref mki, .ref mce, .ref mgo, .ref mwa, .ref mha, .ref mch, .ref mfo, .ref mca, .ref mor, .ref mro, .ref mra, .ref mpr, .ref mho, .ref mis, .int vsg, .ref mss, .ref msc, .ref msh, .int vpr, .int vfa])), (mil, .inl (cZ, 160, .inl Kil)), (mki, .inl (cI, 8, .inl Kki)), (mce, .inl (cI, 8, .inl Kce)), (mch, .inl (cI, 8, .inl Kch)), (mha, .inl (cI, 8, .inl Kha))]) [0, 1, 2, 3, 4, 5] rfl
              have hD9 := hD.sub (ws' := [(m0, .inr (7, [.int vfi, .ref mfi, .long vak, .int vhr, .ref mil, .ref mic, .ref mwi, .int vho, .int vga, .ref mmo, .int vns, .ref mki, .ref mce, .ref mgo, .ref mwa, .ref mha, .ref mch, .ref mfo, .ref mca, .ref mor, .ref mro, .ref mra, .ref mpr, .ref mho, .ref mis, .int vsg, .ref mss, .ref msc, .ref msh, .int vpr, .int vfa])), (mil, .inl (cZ, 160, .inl Kil)), (mki, .inl (cI, 8, .inl Kki)), (mce, .inl (cI, 8, .inl Kce)), (mch, .inl (cI, 8, .inl Kch)), (mha, .inl (cI, 8, .inl Kha))]) [0, 1, 2, 3, 4, 5] (by decide) rfl
              have hK9 := hK.sub (tys' := [(cI, .int), (cZ, .boolean)]) [0, 1] rfl
              have hv9 : (-4 : Int32).toInt = (-4) := by decide
              exact W.iret (v := (-4)) hx hb hr (fun t ht hW => ⟨⟨(-4), (vns, Kki, Kce, Kch, Kha), rfl, ⟨(show 0 ≤ (vns).toInt ∧ (vns).toInt ≤ 8 from ⟨by omega, by omega⟩), (show Rg 8 0 3 Kki from R_Kki), (show Rg 8 0 159 Kce from R_Kce), (show Rg 8 0 20000 Kch from R_Kch), (show Rn 8 0 100000 Kha from R_Kha)⟩, ⟨by rw [ht]; exact hP9, va_K.moved hW.alike hK9, hD9⟩⟩, hS.F ht⟩) hS.2.2 dX6_ship_59
          · skip
            have qc_20 : vns.toInt = 8 := eq_k rfl (by decide) c_20
            refine lv_bipush (v := (-2)) hx hb dX6_ship_47 (by decide) ?_
            have hP9 := hP.sub (ws' := [(m0, .inr (7, [.int vfi, .ref mfi, .long vak, .int vhr, .ref mil, .ref mic, .ref mwi, .int vho, .int vga, .ref mmo, .int vns, .ref mki, .ref mce, .ref mgo, .ref mwa, .ref mha, .ref mch, .ref mfo, .ref mca, .ref mor, .ref mro, .ref mra, .ref mpr, .ref mho, .ref mis, .int vsg, .ref mss, .ref msc, .ref msh, .int vpr, .int vfa])), (mil, .inl (cZ, 160, .inl Kil)), (mki, .inl (cI, 8, .inl Kki)), (mce, .inl (cI, 8, .inl Kce)), (mch, .inl (cI, 8, .inl Kch)), (mha, .inl (cI, 8, .inl Kha))]) [0, 1, 2, 3, 4, 5] rfl
            have hD9 := hD.sub (ws' := [(m0, .inr (7, [.int vfi, .ref mfi, .long vak, .int vhr, .ref mil, .ref mic, .ref mwi, .int vho, .int vga, .ref mmo, .int vns, .ref mki, .ref mce, .ref mgo, .ref mwa, .ref mha, .ref mch, .ref mfo, .ref mca, .ref mor, .ref mro, .ref mra, .ref mpr, .ref mho, .ref mis, .int vsg, .ref mss, .ref msc, .ref msh, .int vpr, .int vfa])), (mil, .inl (cZ, 160, .inl Kil)), (mki, .inl (cI, 8, .inl Kki)), (mce, .inl (cI, 8, .inl Kce)), (mch, .inl (cI, 8, .inl Kch)), (mha, .inl (cI, 8, .inl Kha))]) [0, 1, 2, 3, 4, 5] (by decide) rfl
            have hK9 := hK.sub (tys' := [(cI, .int), (cZ, .boolean)]) [0, 1] rfl
            have hv9 : (-2 : Int32).toInt = (-2) := by decide
            exact W.iret (v := (-2)) hx hb hr (fun t ht hW => ⟨⟨(-2), (vns, Kki, Kce, Kch, Kha), rfl, ⟨(show 0 ≤ (vns).toInt ∧ (vns).toInt ≤ 8 from ⟨by omega, by omega⟩), (show Rg 8 0 3 Kki from R_Kki), (show Rg 8 0 159 Kce from R_Kce), (show Rg 8 0 20000 Kch from R_Kch), (show Rn 8 0 100000 Kha from R_Kha)⟩, ⟨by rw [ht]; exact hP9, va_K.moved hW.alike hK9, hD9⟩⟩, hS.F ht⟩) hS.2.2 dX6_ship_49
        · skip
          have b_32 := b01z k_16 c_18
          (try simp only [Int32.lt_iff_toInt_lt, Int32.le_iff_toInt_le, ← Int32.toInt_inj, Int32.reduceToInt, zl1, zl2, zl3, zl4, zl9] at b_32)
          (try simp only [Int32.reduceToInt] at b_32)
          refine lv_iconst (v := (-1)) hx hb dX6_ship_36 (by decide) ?_
          have hP9 := hP.sub (ws' := [(m0, .inr (7, [.int vfi, .ref mfi, .long vak, .int vhr, .ref mil, .ref mic, .ref mwi, .int vho, .int vga, .ref mmo, .int vns, .ref mki, .ref mce, .ref mgo, .ref mwa, .ref mha, .ref mch, .ref mfo, .ref mca, .ref mor, .ref mro, .ref mra, .ref mpr, .ref mho, .ref mis, .int vsg, .ref mss, .ref msc, .ref msh, .int vpr, .int vfa])), (mil, .inl (cZ, 160, .inl Kil)), (mki, .inl (cI, 8, .inl Kki)), (mce, .inl (cI, 8, .inl Kce)), (mch, .inl (cI, 8, .inl Kch)), (mha, .inl (cI, 8, .inl Kha))]) [0, 1, 2, 3, 4, 5] rfl
          have hD9 := hD.sub (ws' := [(m0, .inr (7, [.int vfi, .ref mfi, .long vak, .int vhr, .ref mil, .ref mic, .ref mwi, .int vho, .int vga, .ref mmo, .int vns, .ref mki, .ref mce, .ref mgo, .ref mwa, .ref mha, .ref mch, .ref mfo, .ref mca, .ref mor, .ref mro, .ref mra, .ref mpr, .ref mho, .ref mis, .int vsg, .ref mss, .ref msc, .ref msh, .int vpr, .int vfa])), (mil, .inl (cZ, 160, .inl Kil)), (mki, .inl (cI, 8, .inl Kki)), (mce, .inl (cI, 8, .inl Kce)), (mch, .inl (cI, 8, .inl Kch)), (mha, .inl (cI, 8, .inl Kha))]) [0, 1, 2, 3, 4, 5] (by decide) rfl
          have hK9 := hK.sub (tys' := [(cI, .int), (cZ, .boolean)]) [0, 1] rfl
          have hv9 : (-1 : Int32).toInt = (-1) := by decide
          exact W.iret (v := (-1)) hx hb hr (fun t ht hW => ⟨⟨(-1), (vns, Kki, Kce, Kch, Kha), rfl, ⟨(show 0 ≤ (vns).toInt ∧ (vns).toInt ≤ 8 from ⟨by omega, by omega⟩), (show Rg 8 0 3 Kki from R_Kki), (show Rg 8 0 159 Kce from R_Kce), (show Rg 8 0 20000 Kch from R_Kch), (show Rn 8 0 100000 Kha from R_Kha)⟩, ⟨by rw [ht]; exact hP9, va_K.moved hW.alike hK9, hD9⟩⟩, hS.F ht⟩) hS.2.2 dX6_ship_37
set_option maxRecDepth 20000 in
theorem iw_X6_foul_X6 : ∀ w ∈ wsX60, w ∈ wsX6_foul := by decide +kernel
set_option maxHeartbeats 4000000 in
set_option maxRecDepth 100000 in
/-- reference: foul -/
theorem c_X6_foul (l : Launch) (dC : Nat → ClassId) (dI : Nat → Nat → Nat) (sz : Nat) (m0 : Nat) (mfi : Nat) (mil : Nat) (mic : Nat) (mwi : Nat) (mmo : Nat) (mki : Nat) (mce : Nat) (mgo : Nat) (mwa : Nat) (mha : Nat) (mch : Nat) (mfo : Nat) (mca : Nat) (mor : Nat) (mro : Nat) (mra : Nat) (mpr : Nat) (mho : Nat) (mis : Nat) (mss : Nat) (msc : Nat) (msh : Nat) (vfi : Int32) (vhr : Int32) (vho : Int32) (vga : Int32) (vns : Int32) (vsg : Int32) (vpr : Int32) (vfa : Int32) (vak : Int64) (Kfo : Nat → Int32) (cI : ClassId) (a0 : Int32) (a1 : Int32) (i_vns : 0 ≤ vns.toInt ∧ vns.toInt ≤ 8) (R_Kfo : Rg 8 0 9 Kfo) : Met l yX6_foul wsX6_foul ({ frames := 2, cells := 0, slots := 0, locals := 43 }) (va_Pc [.ref m0, .int a0, .int a1] (fun U => U.heap.size = sz ∧ va_P (dC, dI) vwCl [(m0, .inr (7, [.int vfi, .ref mfi, .long vak, .int vhr, .ref mil, .ref mic, .ref mwi, .int vho, .int vga, .ref mmo, .int vns, .ref mki, .ref mce, .ref mgo, .ref mwa, .ref mha, .ref mch, .ref mfo, .ref mca, .ref mor, .ref mro, .ref mra, .ref mpr, .ref mho, .ref mis, .int vsg, .ref mss, .ref msc, .ref msh, .int vpr, .int vfa])), (mfo, .inl (cI, 8, .inl Kfo))] U.heap ∧ va_K (dC, dI) vwCl [(cI, .int)] U ∧ NW U ∧ va_D (fun _ => True) [(m0, .inr (7, [.int vfi, .ref mfi, .long vak, .int vhr, .ref mil, .ref mic, .ref mwi, .int vho, .int vga, .ref mmo, .int vns, .ref mki, .ref mce, .ref mgo, .ref mwa, .ref mha, .ref mch, .ref mfo, .ref mca, .ref mor, .ref mro, .ref mra, .ref mpr, .ref mho, .ref mis, .int vsg, .ref mss, .ref msc, .ref msh, .int vpr, .int vfa])), (mfo, .inl (cI, 8, .inl Kfo))])) (va_Qi (fun (r : Int32) (u : (Nat → Int32)) => (Rg 8 0 9 u)) (fun u t => va_P (dC, dI) vwCl [(m0, .inr (7, [.int vfi, .ref mfi, .long vak, .int vhr, .ref mil, .ref mic, .ref mwi, .int vho, .int vga, .ref mmo, .int vns, .ref mki, .ref mce, .ref mgo, .ref mwa, .ref mha, .ref mch, .ref mfo, .ref mca, .ref mor, .ref mro, .ref mra, .ref mpr, .ref mho, .ref mis, .int vsg, .ref mss, .ref msc, .ref msh, .int vpr, .int vfa])), (mfo, .inl (cI, 8, .inl u))] t.heap ∧ va_K (dC, dI) vwCl [(cI, .int)] t ∧ va_D (va_A [(m0, .inr (7, [.int vfi, .ref mfi, .long vak, .int vhr, .ref mil, .ref mic, .ref mwi, .int vho, .int vga, .ref mmo, .int vns, .ref mki, .ref mce, .ref mgo, .ref mwa, .ref mha, .ref mch, .ref mfo, .ref mca, .ref mor, .ref mro, .ref mra, .ref mpr, .ref mho, .ref mis, .int vsg, .ref mss, .ref msc, .ref msh, .int vpr, .int vfa])), (mfo, .inl (cI, 8, .inl Kfo))] sz) [(m0, .inr (7, [.int vfi, .ref mfi, .long vak, .int vhr, .ref mil, .ref mic, .ref mwi, .int vho, .int vga, .ref mmo, .int vns, .ref mki, .ref mce, .ref mgo, .ref mwa, .ref mha, .ref mch, .ref mfo, .ref mca, .ref mor, .ref mro, .ref mra, .ref mpr, .ref mho, .ref mis, .int vsg, .ref mss, .ref msc, .ref msh, .int vpr, .int vfa])), (mfo, .inl (cI, 8, .inl u))]) (va_A [(m0, .inr (7, [.int vfi, .ref mfi, .long vak, .int vhr, .ref mil, .ref mic, .ref mwi, .int vho, .int vga, .ref mmo, .int vns, .ref mki, .ref mce, .ref mgo, .ref mwa, .ref mha, .ref mch, .ref mfo, .ref mca, .ref mor, .ref mro, .ref mra, .ref mpr, .ref mho, .ref mis, .int vsg, .ref mss, .ref msc, .ref msh, .int vpr, .int vfa])), (mfo, .inl (cI, 8, .inl Kfo))] sz)) 0 0 (va_A [(m0, .inr (7, [.int vfi, .ref mfi, .long vak, .int vhr, .ref mil, .ref mic, .ref mwi, .int vho, .int vga, .ref mmo, .int vns, .ref mki, .ref mce, .ref mgo, .ref mwa, .ref mha, .ref mch, .ref mfo, .ref mca, .ref mor, .ref mro, .ref mra, .ref mpr, .ref mho, .ref mis, .int vsg, .ref mss, .ref msc, .ref msh, .int vpr, .int vfa])), (mfo, .inl (cI, 8, .inl Kfo))] sz) := by
  refine Met.ofW (cc := cX6_foul) (maxL := 4) (ret := (some .int)) (by decide) rfl ?_
  intro p e s m args below meth c s₁ B hml hv
  obtain ⟨rfl, hsz, hP, hK, hN, hD0⟩ := hv
  have hx := B.exec
  have hb := B.bytes
  have hr := B.returns
  have hts := atoms_spec (ws := wsX6_foul) B.pre
  have hown : s.vm.findClass RX6 = some m.cls := findClass_of_methodNamed B.named
  have hlocks := B.notSynchronized
  subst hsz
  have hD := hD0.self (sz := s.heap.size)
  generalize hAe : va_A [(m0, .inr (7, [.int vfi, .ref mfi, .long vak, .int vhr, .ref mil, .ref mic, .ref mwi, .int vho, .int vga, .ref mmo, .int vns, .ref mki, .ref mce, .ref mgo, .ref mwa, .ref mha, .ref mch, .ref mfo, .ref mca, .ref mor, .ref mro, .ref mra, .ref mpr, .ref mho, .ref mis, .int vsg, .ref mss, .ref msc, .ref msh, .int vpr, .int vfa])), (mfo, .inl (cI, 8, .inl Kfo))] s.heap.size = A at hD ⊢
  have hA : ∀ q : Nat, s.heap.size ≤ q → A q := fun q h => by rw [← hAe]; exact Or.inr h
  have hS : va_S A s.heap s.heap [] := va_S.rf
  have hP : va_P (dC, dI) vwCl [(m0, .inr (7, [.int vfi, .ref mfi, .long vak, .int vhr, .ref mil, .ref mic, .ref mwi, .int vho, .int vga, .ref mmo, .int vns, .ref mki, .ref mce, .ref mgo, .ref mwa, .ref mha, .ref mch, .ref mfo, .ref mca, .ref mor, .ref mro, .ref mra, .ref mpr, .ref mho, .ref mis, .int vsg, .ref mss, .ref msc, .ref msh, .int vpr, .int vfa])), (mfo, .inl (cI, 8, .inl Kfo))] s.heap := hP
  have hl := lv_entry ([.ref m0, .int a0, .int a1]) (n := 4) (Nat.le_of_ble_eq_true rfl)
  rw [lg_entry_eq]
  generalize (lg_sl ([.ref m0, .int a0, .int a1]) ++ List.replicate (4 - (lg_sl ([.ref m0, .int a0, .int a1])).length) Slot.unset).toArray = ls at hl ⊢
  have hl : lv_has ls 4 [(0, .ref m0), (1, .int a0), (2, .int a1)] := hl
  refine lv_aload_n hx hb dX6_foul_0 rfl (lv_at hl 0 rfl) ?_
  refine lv_iload_n hx hb dX6_foul_1 rfl (lv_at hl 1 rfl) ?_
  have hPc := hP.sub (ws' := [(m0, .inr (7, [.int vfi, .ref mfi, .long vak, .int vhr, .ref mil, .ref mic, .ref mwi, .int vho, .int vga, .ref mmo, .int vns, .ref mki, .ref mce, .ref mgo, .ref mwa, .ref mha, .ref mch, .ref mfo, .ref mca, .ref mor, .ref mro, .ref mra, .ref mpr, .ref mho, .ref mis, .int vsg, .ref mss, .ref msc, .ref msh, .int vpr, .int vfa]))]) [0] rfl
  have hKc := hK.sub (tys' := []) [] rfl
  refine va_calli (va_runV (As := [.int a0]) (rest := []) ⟨hx, hb, hml, hown, hts⟩ (c_X6_isShip l dC dI s.heap.size m0 mfi mil mic mwi mmo mki mce mgo mwa mha mch mfo mca mor mro mra mpr mho mis mss msc msh vfi vhr vho vga vns vsg vpr vfa vak a0 ⟨(by omega), (by omega)⟩) (cwV 1 hts gX6_foul_X6_isShip rfl rfl rfl (by decide +kernel) ⟨Nat.le_of_ble_eq_true rfl, Nat.le_of_ble_eq_true rfl⟩) ⟨fun a U g mk q => by obtain ⟨q0, q1, qP, qK, qN⟩ := q; exact ⟨q0, q1, qP, va_K.moved (u := U) (U := U.calling g mk a) (Vm.Alike.refl U.vm) qK, NW.same (u := U) (U := U.calling g mk a) rfl qN⟩, va_recv hKc hPc (ci := 7) (q0 := 0) rfl rfl, fun U hU hW => ⟨rfl, by rw [hU], by rw [hU]; exact hPc, va_K.moved hW.alike hKc, NW.warm hW hN⟩⟩ rfl rfl hl.1 rfl (lv_room (Nat.le_of_ble_eq_true rfl)) dX6_foul_2 ⟨(Nat.zero_le _), (Nat.zero_le _)⟩) hS (fun q _ h => ro_A hS hA q h) (ro_A hS hA) (fun r_1 u t H1 locs ht hvm k_2 hB hz1 hk1 hS => ?_)
  have hP := ro_P hk1 hP
  generalize H1 = H at hP hS ⊢
  try dsimp only at k_2
  obtain ⟨k_2, k_3⟩ := k_2
  refine lv_if_eq (tgt := 18) hx hb dX6_foul_5 (by decide) (fun c_4 => ?_) (fun c_4 => ?_)
  · skip
    have b_5 := b01z k_2 c_4
    (try simp only [Int32.lt_iff_toInt_lt, Int32.le_iff_toInt_le, ← Int32.toInt_inj, Int32.reduceToInt, zl1, zl2, zl3, zl4, zl9] at b_5)
    (try simp only [Int32.reduceToInt] at b_5)
    refine lv_iconst (v := (-1)) hx hb dX6_foul_18 (by decide) ?_
    have hP9 := hP.sub (ws' := [(m0, .inr (7, [.int vfi, .ref mfi, .long vak, .int vhr, .ref mil, .ref mic, .ref mwi, .int vho, .int vga, .ref mmo, .int vns, .ref mki, .ref mce, .ref mgo, .ref mwa, .ref mha, .ref mch, .ref mfo, .ref mca, .ref mor, .ref mro, .ref mra, .ref mpr, .ref mho, .ref mis, .int vsg, .ref mss, .ref msc, .ref msh, .int vpr, .int vfa])), (mfo, .inl (cI, 8, .inl Kfo))]) [0, 1] rfl
    have hD9 := hD.sub (ws' := [(m0, .inr (7, [.int vfi, .ref mfi, .long vak, .int vhr, .ref mil, .ref mic, .ref mwi, .int vho, .int vga, .ref mmo, .int vns, .ref mki, .ref mce, .ref mgo, .ref mwa, .ref mha, .ref mch, .ref mfo, .ref mca, .ref mor, .ref mro, .ref mra, .ref mpr, .ref mho, .ref mis, .int vsg, .ref mss, .ref msc, .ref msh, .int vpr, .int vfa])), (mfo, .inl (cI, 8, .inl Kfo))]) [0, 1] (by decide) rfl
    have hK9 := hK.sub (tys' := [(cI, .int)]) [0] rfl
    have hv9 : (-1 : Int32).toInt = (-1) := by decide
    exact W.iret (v := (-1)) hx hb hr (fun t ht hW => ⟨⟨(-1), Kfo, rfl, (show Rg 8 0 9 Kfo from R_Kfo), ⟨by rw [ht]; exact hP9, va_K.moved hW.alike hK9, hD9⟩⟩, hS.F ht⟩) hS.2.2 dX6_foul_19
  · skip
    have b_6 := b01n k_2 c_4
    (try simp only [Int32.lt_iff_toInt_lt, Int32.le_iff_toInt_le, ← Int32.toInt_inj, Int32.reduceToInt, zl1, zl2, zl3, zl4, zl9] at b_6)
    (try simp only [Int32.reduceToInt] at b_6)
    refine lv_iload_n hx hb dX6_foul_8 rfl (lv_at hl 2 rfl) ?_
    refine lv_iconst (v := 0) hx hb dX6_foul_9 (by decide) ?_
    refine lv_bipush (v := 9) hx hb dX6_foul_10 (by decide) ?_
    refine va_calli (va_runS (As := [.int a1, .int 0, .int 9]) (rest := []) ⟨hx, hb, hml, hown, hts⟩ (c_X6_in l H.size a1 0 9 ) (va_cwS 3 hts gX6_foul_X6_in rfl rfl rfl (by decide +kernel) ⟨Nat.le_of_ble_eq_true rfl, Nat.le_of_ble_eq_true rfl⟩) ⟨fun a U g mk q => by obtain ⟨q0, q1⟩ := q; exact ⟨q0, q1⟩, fun U hU hW => ⟨rfl, congrArg Array.size hU⟩⟩ rfl rfl hl.1 rfl (lv_room (Nat.le_of_ble_eq_true rfl)) dX6_foul_12 ⟨(Nat.zero_le _), (Nat.zero_le _)⟩) hS (fun q _ h => ro_A hS hA q h) (ro_A hS hA) (fun r_7 u t H1 locs ht hvm k_8 hB hz1 hk1 hS => ?_)
    have hP := ro_P hk1 hP
    generalize H1 = H at hP hS ⊢
    try dsimp only at k_8
    obtain ⟨k_8, k_9⟩ := k_8
    refine lv_if_ne (tgt := 20) hx hb dX6_foul_15 (by decide) (fun c_10 => ?_) (fun c_10 => ?_)
    · skip
      have b_11 := b01n k_8 c_10
      (try simp only [Int32.lt_iff_toInt_lt, Int32.le_iff_toInt_le, ← Int32.toInt_inj, Int32.reduceToInt, zl1, zl2, zl3, zl4, zl9] at b_11)
      (try simp only [Int32.reduceToInt] at b_11)
      refine lv_aload_n hx hb dX6_foul_20 rfl (lv_at hl 0 rfl) ?_
      refine va_get (D := (dC, dI)) (ci := 7) (v := .ref mfo) (C := RX6) (T := TX6) (N := 31) hx hb hts iw_X6_foul_X6 hown hK hP 0 rfl rfl 17 (by decide) (hts (.fieldLink RX6 44 "TeaRaceModel" "foulness" "[I") (by decide +kernel)) (fun _ h9 => h9) rfl dX6_foul_21 ?_
      refine lv_iload_n hx hb dX6_foul_24 rfl (lv_at hl 1 rfl) ?_
      refine va_iald hx hb hK hP 1 0 rfl rfl (in_k rfl (by omega) (by omega)) dX6_foul_25 ?_
      refine lv_topi (fun x_12 ex_12 => ?_)
      have rx_12 := congrArg Int32.toInt ex_12
      have gx_12 : 0 ≤ x_12.toInt ∧ x_12.toInt ≤ 9 := Rg.at R_Kfo rfl (by omega) (by omega) ex_12
      refine lv_istore_n (lv' := [(3, .int x_12), (0, .ref m0), (1, .int a0), (2, .int a1)]) hx hb dX6_foul_26 rfl hl (by decide) rfl (fun ls hl => ?_)
      refine lv_aload_n hx hb dX6_foul_27 rfl (lv_at hl 1 rfl) ?_
      refine va_get (D := (dC, dI)) (ci := 7) (v := .ref mfo) (C := RX6) (T := TX6) (N := 31) hx hb hts iw_X6_foul_X6 hown hK hP 0 rfl rfl 17 (by decide) (hts (.fieldLink RX6 44 "TeaRaceModel" "foulness" "[I") (by decide +kernel)) (fun _ h9 => h9) rfl dX6_foul_28 ?_
      refine lv_iload_n hx hb dX6_foul_31 rfl (lv_at hl 2 rfl) ?_
      refine lv_iload_n hx hb dX6_foul_32 rfl (lv_at hl 3 rfl) ?_
      refine va_iast hx hb hK hP hD hS 1 0 rfl rfl (in_k rfl (by omega) (by omega)) dX6_foul_33 (fun H locs hP hD hS => ?_)
      have hP : va_P (dC, dI) vwCl [(m0, .inr (7, [.int vfi, .ref mfi, .long vak, .int vhr, .ref mil, .ref mic, .ref mwi, .int vho, .int vga, .ref mmo, .int vns, .ref mki, .ref mce, .ref mgo, .ref mwa, .ref mha, .ref mch, .ref mfo, .ref mca, .ref mor, .ref mro, .ref mra, .ref mpr, .ref mho, .ref mis, .int vsg, .ref mss, .ref msc, .ref msh, .int vpr, .int vfa])), (mfo, .inl (cI, 8, .inl (upd Kfo a0.toNatClampNeg a1)))] H := hP
      have hD : va_D A [(m0, .inr (7, [.int vfi, .ref mfi, .long vak, .int vhr, .ref mil, .ref mic, .ref mwi, .int vho, .int vga, .ref mmo, .int vns, .ref mki, .ref mce, .ref mgo, .ref mwa, .ref mha, .ref mch, .ref mfo, .ref mca, .ref mor, .ref mro, .ref mra, .ref mpr, .ref mho, .ref mis, .int vsg, .ref mss, .ref msc, .ref msh, .int vpr, .int vfa])), (mfo, .inl (cI, 8, .inl (upd Kfo a0.toNatClampNeg a1)))] := hD
      have zs_13 : (upd Kfo a0.toNatClampNeg a1 a0.toNatClampNeg).toInt = a1.toInt := congrArg Int32.toInt (upd_at (Kfo) a0.toNatClampNeg a1)
      have R_14 : Rg 8 0 9 (upd Kfo a0.toNatClampNeg a1) := Rg.st R_Kfo rfl (by omega) (by omega)
      refine lv_iload_n hx hb dX6_foul_34 rfl (lv_at hl 0 rfl) ?_
      have hP9 := hP.sub (ws' := [(m0, .inr (7, [.int vfi, .ref mfi, .long vak, .int vhr, .ref mil, .ref mic, .ref mwi, .int vho, .int vga, .ref mmo, .int vns, .ref mki, .ref mce, .ref mgo, .ref mwa, .ref mha, .ref mch, .ref mfo, .ref mca, .ref mor, .ref mro, .ref mra, .ref mpr, .ref mho, .ref mis, .int vsg, .ref mss, .ref msc, .ref msh, .int vpr, .int vfa])), (mfo, .inl (cI, 8, .inl (upd Kfo a0.toNatClampNeg a1)))]) [0, 1] rfl
      have hD9 := hD.sub (ws' := [(m0, .inr (7, [.int vfi, .ref mfi, .long vak, .int vhr, .ref mil, .ref mic, .ref mwi, .int vho, .int vga, .ref mmo, .int vns, .ref mki, .ref mce, .ref mgo, .ref mwa, .ref mha, .ref mch, .ref mfo, .ref mca, .ref mor, .ref mro, .ref mra, .ref mpr, .ref mho, .ref mis, .int vsg, .ref mss, .ref msc, .ref msh, .int vpr, .int vfa])), (mfo, .inl (cI, 8, .inl (upd Kfo a0.toNatClampNeg a1)))]) [0, 1] (by decide) rfl
      have hK9 := hK.sub (tys' := [(cI, .int)]) [0] rfl
      exact W.iret (v := x_12) hx hb hr (fun t ht hW => ⟨⟨x_12, (upd Kfo a0.toNatClampNeg a1), rfl, (show Rg 8 0 9 (upd Kfo a0.toNatClampNeg a1) from R_14), ⟨by rw [ht]; exact hP9, va_K.moved hW.alike hK9, hD9⟩⟩, hS.F ht⟩) hS.2.2 dX6_foul_35
    · skip
      have b_15 := b01z k_8 c_10
      (try simp only [Int32.lt_iff_toInt_lt, Int32.le_iff_toInt_le, ← Int32.toInt_inj, Int32.reduceToInt, zl1, zl2, zl3, zl4, zl9] at b_15)
      (try simp only [Int32.reduceToInt] at b_15)
      refine lv_iconst (v := (-1)) hx hb dX6_foul_18 (by decide) ?_
      have hP9 := hP.sub (ws' := [(m0, .inr (7, [.int vfi, .ref mfi, .long vak, .int vhr, .ref mil, .ref mic, .ref mwi, .int vho, .int vga, .ref mmo, .int vns, .ref mki, .ref mce, .ref mgo, .ref mwa, .ref mha, .ref mch, .ref mfo, .ref mca, .ref mor, .ref mro, .ref mra, .ref mpr, .ref mho, .ref mis, .int vsg, .ref mss, .ref msc, .ref msh, .int vpr, .int vfa])), (mfo, .inl (cI, 8, .inl Kfo))]) [0, 1] rfl
      have hD9 := hD.sub (ws' := [(m0, .inr (7, [.int vfi, .ref mfi, .long vak, .int vhr, .ref mil, .ref mic, .ref mwi, .int vho, .int vga, .ref mmo, .int vns, .ref mki, .ref mce, .ref mgo, .ref mwa, .ref mha, .ref mch, .ref mfo, .ref mca, .ref mor, .ref mro, .ref mra, .ref mpr, .ref mho, .ref mis, .int vsg, .ref mss, .ref msc, .ref msh, .int vpr, .int vfa])), (mfo, .inl (cI, 8, .inl Kfo))]) [0, 1] (by decide) rfl
      have hK9 := hK.sub (tys' := [(cI, .int)]) [0] rfl
      have hv9 : (-1 : Int32).toInt = (-1) := by decide
      exact W.iret (v := (-1)) hx hb hr (fun t ht hW => ⟨⟨(-1), Kfo, rfl, (show Rg 8 0 9 Kfo from R_Kfo), ⟨by rw [ht]; exact hP9, va_K.moved hW.alike hK9, hD9⟩⟩, hS.F ht⟩) hS.2.2 dX6_foul_19
