set_option maxRecDepth 20000 in
theorem iw_X6_order_X6 : ∀ w ∈ wsX60, w ∈ wsX6_order := by decide +kernel
set_option maxHeartbeats 4000000 in
set_option maxRecDepth 100000 in
/-- reference: order -/
theorem c_X6_order (l : Launch) (dC : Nat → ClassId) (dI : Nat → Nat → Nat) (sz : Nat) (m0 : Nat) (mfi : Nat) (mil : Nat) (mic : Nat) (mwi : Nat) (mmo : Nat) (mki : Nat) (mce : Nat) (mgo : Nat) (mwa : Nat) (mha : Nat) (mch : Nat) (mfo : Nat) (mca : Nat) (mor : Nat) (mro : Nat) (mra : Nat) (mpr : Nat) (mho : Nat) (mis : Nat) (mss : Nat) (msc : Nat) (msh : Nat) (vfi : Int32) (vhr : Int32) (vho : Int32) (vga : Int32) (vns : Int32) (vsg : Int32) (vpr : Int32) (vfa : Int32) (vak : Int64) (Kor : Nat → Int32) (Kro : Nat → Int32) (cI : ClassId) (a0 : Int32) (a1 : Int32) (a2 : Int32) (a3 : Int32) (a4 : Int32) (a5 : Int32) (a6 : Int32) (i_vns : 0 ≤ vns.toInt ∧ vns.toInt ≤ 8) (R_Kor : Rg 8 0 20 Kor) (R_Kro : Rg 960 0 15 Kro) (Wro : ∀ j : Nat, j < 960 → j % 6 = 5 → 0 ≤ (Kro j).toInt ∧ (Kro j).toInt ≤ 7) : Met l yX6_order wsX6_order ({ frames := 2, cells := 0, slots := 0, locals := 43 }) (va_Pc [.ref m0, .int a0, .int a1, .int a2, .int a3, .int a4, .int a5, .int a6] (fun U => U.heap.size = sz ∧ va_P (dC, dI) vwCl [(m0, .inr (7, [.int vfi, .ref mfi, .long vak, .int vhr, .ref mil, .ref mic, .ref mwi, .int vho, .int vga, .ref mmo, .int vns, .ref mki, .ref mce, .ref mgo, .ref mwa, .ref mha, .ref mch, .ref mfo, .ref mca, .ref mor, .ref mro, .ref mra, .ref mpr, .ref mho, .ref mis, .int vsg, .ref mss, .ref msc, .ref msh, .int vpr, .int vfa])), (mor, .inl (cI, 8, .inl Kor)), (mro, .inl (cI, 960, .inl Kro))] U.heap ∧ va_K (dC, dI) vwCl [(cI, .int)] U ∧ NW U ∧ va_D (fun _ => True) [(m0, .inr (7, [.int vfi, .ref mfi, .long vak, .int vhr, .ref mil, .ref mic, .ref mwi, .int vho, .int vga, .ref mmo, .int vns, .ref mki, .ref mce, .ref mgo, .ref mwa, .ref mha, .ref mch, .ref mfo, .ref mca, .ref mor, .ref mro, .ref mra, .ref mpr, .ref mho, .ref mis, .int vsg, .ref mss, .ref msc, .ref msh, .int vpr, .int vfa])), (mor, .inl (cI, 8, .inl Kor)), (mro, .inl (cI, 960, .inl Kro))])) (va_Qi (fun (r : Int32) (u : (Nat → Int32) × (Nat → Int32)) => (∀ j : Nat, j < 960 → j % 6 = 5 → 0 ≤ (u.2 j).toInt ∧ (u.2 j).toInt ≤ 7) ∧ (Rg 8 0 20 u.1) ∧ (Rg 960 0 15 u.2)) (fun u t => va_P (dC, dI) vwCl [(m0, .inr (7, [.int vfi, .ref mfi, .long vak, .int vhr, .ref mil, .ref mic, .ref mwi, .int vho, .int vga, .ref mmo, .int vns, .ref mki, .ref mce, .ref mgo, .ref mwa, .ref mha, .ref mch, .ref mfo, .ref mca, .ref mor, .ref mro, .ref mra, .ref mpr, .ref mho, .ref mis, .int vsg, .ref mss, .ref msc, .ref msh, .int vpr, .int vfa])), (mor, .inl (cI, 8, .inl u.1)), (mro, .inl (cI, 960, .inl u.2))] t.heap ∧ va_K (dC, dI) vwCl [(cI, .int)] t ∧ va_D (va_A [(m0, .inr (7, [.int vfi, .ref mfi, .long vak, .int vhr, .ref mil, .ref mic, .ref mwi, .int vho, .int vga, .ref mmo, .int vns, .ref mki, .ref mce, .ref mgo, .ref mwa, .ref mha, .ref mch, .ref mfo, .ref mca, .ref mor, .ref mro, .ref mra, .ref mpr, .ref mho, .ref mis, .int vsg, .ref mss, .ref msc, .ref msh, .int vpr, .int vfa])), (mor, .inl (cI, 8, .inl Kor)), (mro, .inl (cI, 960, .inl Kro))] sz) [(m0, .inr (7, [.int vfi, .ref mfi, .long vak, .int vhr, .ref mil, .ref mic, .ref mwi, .int vho, .int vga, .ref mmo, .int vns, .ref mki, .ref mce, .ref mgo, .ref mwa, .ref mha, .ref mch, .ref mfo, .ref mca, .ref mor, .ref mro, .ref mra, .ref mpr, .ref mho, .ref mis, .int vsg, .ref mss, .ref msc, .ref msh, .int vpr, .int vfa])), (mor, .inl (cI, 8, .inl u.1)), (mro, .inl (cI, 960, .inl u.2))]) (va_A [(m0, .inr (7, [.int vfi, .ref mfi, .long vak, .int vhr, .ref mil, .ref mic, .ref mwi, .int vho, .int vga, .ref mmo, .int vns, .ref mki, .ref mce, .ref mgo, .ref mwa, .ref mha, .ref mch, .ref mfo, .ref mca, .ref mor, .ref mro, .ref mra, .ref mpr, .ref mho, .ref mis, .int vsg, .ref mss, .ref msc, .ref msh, .int vpr, .int vfa])), (mor, .inl (cI, 8, .inl Kor)), (mro, .inl (cI, 960, .inl Kro))] sz)) 0 0 (va_A [(m0, .inr (7, [.int vfi, .ref mfi, .long vak, .int vhr, .ref mil, .ref mic, .ref mwi, .int vho, .int vga, .ref mmo, .int vns, .ref mki, .ref mce, .ref mgo, .ref mwa, .ref mha, .ref mch, .ref mfo, .ref mca, .ref mor, .ref mro, .ref mra, .ref mpr, .ref mho, .ref mis, .int vsg, .ref mss, .ref msc, .ref msh, .int vpr, .int vfa])), (mor, .inl (cI, 8, .inl Kor)), (mro, .inl (cI, 960, .inl Kro))] sz) := by
  refine Met.ofW (cc := cX6_order) (maxL := 9) (ret := (some .int)) (by decide) rfl ?_
  intro p e s m args below meth c s₁ B hml hv
  obtain ⟨rfl, hsz, hP, hK, hN, hD0⟩ := hv
  have hx := B.exec
  have hb := B.bytes
  have hr := B.returns
  have hts := atoms_spec (ws := wsX6_order) B.pre
  have hown : s.vm.findClass RX6 = some m.cls := findClass_of_methodNamed B.named
  have hlocks := B.notSynchronized
  subst hsz
  have hD := hD0.self (sz := s.heap.size)
  generalize hAe : va_A [(m0, .inr (7, [.int vfi, .ref mfi, .long vak, .int vhr, .ref mil, .ref mic, .ref mwi, .int vho, .int vga, .ref mmo, .int vns, .ref mki, .ref mce, .ref mgo, .ref mwa, .ref mha, .ref mch, .ref mfo, .ref mca, .ref mor, .ref mro, .ref mra, .ref mpr, .ref mho, .ref mis, .int vsg, .ref mss, .ref msc, .ref msh, .int vpr, .int vfa])), (mor, .inl (cI, 8, .inl Kor)), (mro, .inl (cI, 960, .inl Kro))] s.heap.size = A at hD ⊢
  have hA : ∀ q : Nat, s.heap.size ≤ q → A q := fun q h => by rw [← hAe]; exact Or.inr h
  have hS : va_S A s.heap s.heap [] := va_S.rf
  have hP : va_P (dC, dI) vwCl [(m0, .inr (7, [.int vfi, .ref mfi, .long vak, .int vhr, .ref mil, .ref mic, .ref mwi, .int vho, .int vga, .ref mmo, .int vns, .ref mki, .ref mce, .ref mgo, .ref mwa, .ref mha, .ref mch, .ref mfo, .ref mca, .ref mor, .ref mro, .ref mra, .ref mpr, .ref mho, .ref mis, .int vsg, .ref mss, .ref msc, .ref msh, .int vpr, .int vfa])), (mor, .inl (cI, 8, .inl Kor)), (mro, .inl (cI, 960, .inl Kro))] s.heap := hP
  have hl := lv_entry ([.ref m0, .int a0, .int a1, .int a2, .int a3, .int a4, .int a5, .int a6]) (n := 9) (Nat.le_of_ble_eq_true rfl)
  rw [lg_entry_eq]
  generalize (lg_sl ([.ref m0, .int a0, .int a1, .int a2, .int a3, .int a4, .int a5, .int a6]) ++ List.replicate (9 - (lg_sl ([.ref m0, .int a0, .int a1, .int a2, .int a3, .int a4, .int a5, .int a6])).length) Slot.unset).toArray = ls at hl ⊢
  have hl : lv_has ls 9 [(0, .ref m0), (1, .int a0), (2, .int a1), (3, .int a2), (4, .int a3), (5, .int a4), (6, .int a5), (7, .int a6)] := hl
  refine lv_aload_n hx hb dX6_order_0 rfl (lv_at hl 0 rfl) ?_
  refine lv_iload_n hx hb dX6_order_1 rfl (lv_at hl 1 rfl) ?_
  have hPc := hP.sub (ws' := [(m0, .inr (7, [.int vfi, .ref mfi, .long vak, .int vhr, .ref mil, .ref mic, .ref mwi, .int vho, .int vga, .ref mmo, .int vns, .ref mki, .ref mce, .ref mgo, .ref mwa, .ref mha, .ref mch, .ref mfo, .ref mca, .ref mor, .ref mro, .ref mra, .ref mpr, .ref mho, .ref mis, .int vsg, .ref mss, .ref msc, .ref msh, .int vpr, .int vfa]))]) [0] rfl
  have hKc := hK.sub (tys' := []) [] rfl
  refine va_calli (va_runV (As := [.int a0]) (rest := []) ⟨hx, hb, hml, hown, hts⟩ (c_X6_isShip l dC dI s.heap.size m0 mfi mil mic mwi mmo mki mce mgo mwa mha mch mfo mca mor mro mra mpr mho mis mss msc msh vfi vhr vho vga vns vsg vpr vfa vak a0 ⟨(by omega), (by omega)⟩) (cwV 1 hts gX6_order_X6_isShip rfl rfl rfl (by decide +kernel) ⟨Nat.le_of_ble_eq_true rfl, Nat.le_of_ble_eq_true rfl⟩) ⟨fun a U g mk q => by obtain ⟨q0, q1, qP, qK, qN⟩ := q; exact ⟨q0, q1, qP, va_K.moved (u := U) (U := U.calling g mk a) (Vm.Alike.refl U.vm) qK, NW.same (u := U) (U := U.calling g mk a) rfl qN⟩, va_recv hKc hPc (ci := 7) (q0 := 0) rfl rfl, fun U hU hW => ⟨rfl, by rw [hU], by rw [hU]; exact hPc, va_K.moved hW.alike hKc, NW.warm hW hN⟩⟩ rfl rfl hl.1 rfl (lv_room (Nat.le_of_ble_eq_true rfl)) dX6_order_2 ⟨(Nat.zero_le _), (Nat.zero_le _)⟩) hS (fun q _ h => ro_A hS hA q h) (ro_A hS hA) (fun r_1 u t H1 locs ht hvm k_2 hB hz1 hk1 hS => ?_)
  have hP := ro_P hk1 hP
  generalize H1 = H at hP hS ⊢
  try dsimp only at k_2
  obtain ⟨k_2, k_3⟩ := k_2
  refine lv_if_eq (tgt := 70) hx hb dX6_order_5 (by decide) (fun c_4 => ?_) (fun c_4 => ?_)
  · skip
    have b_5 := b01z k_2 c_4
    (try simp only [Int32.lt_iff_toInt_lt, Int32.le_iff_toInt_le, ← Int32.toInt_inj, Int32.reduceToInt, zl1, zl2, zl3, zl4, zl9] at b_5)
    (try simp only [Int32.reduceToInt] at b_5)
    refine lv_iconst (v := (-1)) hx hb dX6_order_70 (by decide) ?_
    have hP9 := hP.sub (ws' := [(m0, .inr (7, [.int vfi, .ref mfi, .long vak, .int vhr, .ref mil, .ref mic, .ref mwi, .int vho, .int vga, .ref mmo, .int vns, .ref mki, .ref mce, .ref mgo, .ref mwa, .ref mha, .ref mch, .ref mfo, .ref mca, .ref mor, .ref mro, .ref mra, .ref mpr, .ref mho, .ref mis, .int vsg, .ref mss, .ref msc, .ref msh, .int vpr, .int vfa])), (mor, .inl (cI, 8, .inl Kor)), (mro, .inl (cI, 960, .inl Kro))]) [0, 1, 2] rfl
    have hD9 := hD.sub (ws' := [(m0, .inr (7, [.int vfi, .ref mfi, .long vak, .int vhr, .ref mil, .ref mic, .ref mwi, .int vho, .int vga, .ref mmo, .int vns, .ref mki, .ref mce, .ref mgo, .ref mwa, .ref mha, .ref mch, .ref mfo, .ref mca, .ref mor, .ref mro, .ref mra, .ref mpr, .ref mho, .ref mis, .int vsg, .ref mss, .ref msc, .ref msh, .int vpr, .int vfa])), (mor, .inl (cI, 8, .inl Kor)), (mro, .inl (cI, 960, .inl Kro))]) [0, 1, 2] (by decide) rfl
    have hK9 := hK.sub (tys' := [(cI, .int)]) [0] rfl
    have hv9 : (-1 : Int32).toInt = (-1) := by decide
    exact W.iret (v := (-1)) hx hb hr (fun t ht hW => ⟨⟨(-1), (Kor, Kro), rfl, ⟨Wro, (show Rg 8 0 20 Kor from R_Kor), (show Rg 960 0 15 Kro from R_Kro)⟩, ⟨by rw [ht]; exact hP9, va_K.moved hW.alike hK9, hD9⟩⟩, hS.F ht⟩) hS.2.2 dX6_order_71
  · skip
    have b_6 := b01n k_2 c_4
    (try simp only [Int32.lt_iff_toInt_lt, Int32.le_iff_toInt_le, ← Int32.toInt_inj, Int32.reduceToInt, zl1, zl2, zl3, zl4, zl9] at b_6)
    (try simp only [Int32.reduceToInt] at b_6)
    refine lv_iload_n hx hb dX6_order_8 rfl (lv_at hl 2 rfl) ?_
    refine lv_iconst (v := 0) hx hb dX6_order_9 (by decide) ?_
    refine lv_bipush (v := 15) hx hb dX6_order_10 (by decide) ?_
    refine va_calli (va_runS (As := [.int a1, .int 0, .int 15]) (rest := []) ⟨hx, hb, hml, hown, hts⟩ (c_X6_in l H.size a1 0 15 ) (va_cwS 3 hts gX6_order_X6_in rfl rfl rfl (by decide +kernel) ⟨Nat.le_of_ble_eq_true rfl, Nat.le_of_ble_eq_true rfl⟩) ⟨fun a U g mk q => by obtain ⟨q0, q1⟩ := q; exact ⟨q0, q1⟩, fun U hU hW => ⟨rfl, congrArg Array.size hU⟩⟩ rfl rfl hl.1 rfl (lv_room (Nat.le_of_ble_eq_true rfl)) dX6_order_12 ⟨(Nat.zero_le _), (Nat.zero_le _)⟩) hS (fun q _ h => ro_A hS hA q h) (ro_A hS hA) (fun r_7 u t H1 locs ht hvm k_8 hB hz1 hk1 hS => ?_)
    have hP := ro_P hk1 hP
    generalize H1 = H at hP hS ⊢
    try dsimp only at k_8
    obtain ⟨k_8, k_9⟩ := k_8
    refine lv_if_eq (tgt := 70) hx hb dX6_order_15 (by decide) (fun c_10 => ?_) (fun c_10 => ?_)
    · skip
      have b_11 := b01z k_8 c_10
      (try simp only [Int32.lt_iff_toInt_lt, Int32.le_iff_toInt_le, ← Int32.toInt_inj, Int32.reduceToInt, zl1, zl2, zl3, zl4, zl9] at b_11)
      (try simp only [Int32.reduceToInt] at b_11)
      refine lv_iconst (v := (-1)) hx hb dX6_order_70 (by decide) ?_
      have hP9 := hP.sub (ws' := [(m0, .inr (7, [.int vfi, .ref mfi, .long vak, .int vhr, .ref mil, .ref mic, .ref mwi, .int vho, .int vga, .ref mmo, .int vns, .ref mki, .ref mce, .ref mgo, .ref mwa, .ref mha, .ref mch, .ref mfo, .ref mca, .ref mor, .ref mro, .ref mra, .ref mpr, .ref mho, .ref mis, .int vsg, .ref mss, .ref msc, .ref msh, .int vpr, .int vfa])), (mor, .inl (cI, 8, .inl Kor)), (mro, .inl (cI, 960, .inl Kro))]) [0, 1, 2] rfl
      have hD9 := hD.sub (ws' := [(m0, .inr (7, [.int vfi, .ref mfi, .long vak, .int vhr, .ref mil, .ref mic, .ref mwi, .int vho, .int vga, .ref mmo, .int vns, .ref mki, .ref mce, .ref mgo, .ref mwa, .ref mha, .ref mch, .ref mfo, .ref mca, .ref mor, .ref mro, .ref mra, .ref mpr, .ref mho, .ref mis, .int vsg, .ref mss, .ref msc, .ref msh, .int vpr, .int vfa])), (mor, .inl (cI, 8, .inl Kor)), (mro, .inl (cI, 960, .inl Kro))]) [0, 1, 2] (by decide) rfl
      have hK9 := hK.sub (tys' := [(cI, .int)]) [0] rfl
      have hv9 : (-1 : Int32).toInt = (-1) := by decide
      exact W.iret (v := (-1)) hx hb hr (fun t ht hW => ⟨⟨(-1), (Kor, Kro), rfl, ⟨Wro, (show Rg 8 0 20 Kor from R_Kor), (show Rg 960 0 15 Kro from R_Kro)⟩, ⟨by rw [ht]; exact hP9, va_K.moved hW.alike hK9, hD9⟩⟩, hS.F ht⟩) hS.2.2 dX6_order_71
    · skip
      have b_12 := b01n k_8 c_10
      (try simp only [Int32.lt_iff_toInt_lt, Int32.le_iff_toInt_le, ← Int32.toInt_inj, Int32.reduceToInt, zl1, zl2, zl3, zl4, zl9] at b_12)
      (try simp only [Int32.reduceToInt] at b_12)
      refine lv_iload_n hx hb dX6_order_18 rfl (lv_at hl 3 rfl) ?_
      refine lv_iload_n hx hb dX6_order_19 rfl (lv_at hl 2 rfl) ?_
      refine lv_bipush (v := 15) hx hb dX6_order_20 (by decide) ?_
      refine va_calli (va_runS (As := [.int a2, .int a1, .int 15]) (rest := []) ⟨hx, hb, hml, hown, hts⟩ (c_X6_in l H.size a2 a1 15 ) (va_cwS 3 hts gX6_order_X6_in rfl rfl rfl (by decide +kernel) ⟨Nat.le_of_ble_eq_true rfl, Nat.le_of_ble_eq_true rfl⟩) ⟨fun a U g mk q => by obtain ⟨q0, q1⟩ := q; exact ⟨q0, q1⟩, fun U hU hW => ⟨rfl, congrArg Array.size hU⟩⟩ rfl rfl hl.1 rfl (lv_room (Nat.le_of_ble_eq_true rfl)) dX6_order_22 ⟨(Nat.zero_le _), (Nat.zero_le _)⟩) hS (fun q _ h => ro_A hS hA q h) (ro_A hS hA) (fun r_13 u t H1 locs ht hvm k_14 hB hz1 hk1 hS => ?_)
      have hP := ro_P hk1 hP
      generalize H1 = H at hP hS ⊢
      try dsimp only at k_14
      obtain ⟨k_14, k_15⟩ := k_14
      refine lv_if_eq (tgt := 70) hx hb dX6_order_25 (by decide) (fun c_16 => ?_) (fun c_16 => ?_)
      · skip
        have b_17 := b01z k_14 c_16
        (try simp only [Int32.lt_iff_toInt_lt, Int32.le_iff_toInt_le, ← Int32.toInt_inj, Int32.reduceToInt, zl1, zl2, zl3, zl4, zl9] at b_17)
        (try simp only [Int32.reduceToInt] at b_17)
        refine lv_iconst (v := (-1)) hx hb dX6_order_70 (by decide) ?_
        have hP9 := hP.sub (ws' := [(m0, .inr (7, [.int vfi, .ref mfi, .long vak, .int vhr, .ref mil, .ref mic, .ref mwi, .int vho, .int vga, .ref mmo, .int vns, .ref mki, .ref mce, .ref mgo, .ref mwa, .ref mha, .ref mch, .ref mfo, .ref mca, .ref mor, .ref mro, .ref mra, .ref mpr, .ref mho, .ref mis, .int vsg, .ref mss, .ref msc, .ref msh, .int vpr, .int vfa])), (mor, .inl (cI, 8, .inl Kor)), (mro, .inl (cI, 960, .inl Kro))]) [0, 1, 2] rfl
        have hD9 := hD.sub (ws' := [(m0, .inr (7, [.int vfi, .ref mfi, .long vak, .int vhr, .ref mil, .ref mic, .ref mwi, .int vho, .int vga, .ref mmo, .int vns, .ref mki, .ref mce, .ref mgo, .ref mwa, .ref mha, .ref mch, .ref mfo, .ref mca, .ref mor, .ref mro, .ref mra, .ref mpr, .ref mho, .ref mis, .int vsg, .ref mss, .ref msc, .ref msh, .int vpr, .int vfa])), (mor, .inl (cI, 8, .inl Kor)), (mro, .inl (cI, 960, .inl Kro))]) [0, 1, 2] (by decide) rfl
        have hK9 := hK.sub (tys' := [(cI, .int)]) [0] rfl
        have hv9 : (-1 : Int32).toInt = (-1) := by decide
        exact W.iret (v := (-1)) hx hb hr (fun t ht hW => ⟨⟨(-1), (Kor, Kro), rfl, ⟨Wro, (show Rg 8 0 20 Kor from R_Kor), (show Rg 960 0 15 Kro from R_Kro)⟩, ⟨by rw [ht]; exact hP9, va_K.moved hW.alike hK9, hD9⟩⟩, hS.F ht⟩) hS.2.2 dX6_order_71
      · skip
        have b_18 := b01n k_14 c_16
        (try simp only [Int32.lt_iff_toInt_lt, Int32.le_iff_toInt_le, ← Int32.toInt_inj, Int32.reduceToInt, zl1, zl2, zl3, zl4, zl9] at b_18)
        (try simp only [Int32.reduceToInt] at b_18)
        refine lv_iload hx hb dX6_order_28 (lv_at hl 4 rfl) ?_
        refine lv_iconst (v := 0) hx hb dX6_order_30 (by decide) ?_
        refine lv_bipush (v := 9) hx hb dX6_order_31 (by decide) ?_
        refine va_calli (va_runS (As := [.int a3, .int 0, .int 9]) (rest := []) ⟨hx, hb, hml, hown, hts⟩ (c_X6_in l H.size a3 0 9 ) (va_cwS 3 hts gX6_order_X6_in rfl rfl rfl (by decide +kernel) ⟨Nat.le_of_ble_eq_true rfl, Nat.le_of_ble_eq_true rfl⟩) ⟨fun a U g mk q => by obtain ⟨q0, q1⟩ := q; exact ⟨q0, q1⟩, fun U hU hW => ⟨rfl, congrArg Array.size hU⟩⟩ rfl rfl hl.1 rfl (lv_room (Nat.le_of_ble_eq_true rfl)) dX6_order_33 ⟨(Nat.zero_le _), (Nat.zero_le _)⟩) hS (fun q _ h => ro_A hS hA q h) (ro_A hS hA) (fun r_19 u t H1 locs ht hvm k_20 hB hz1 hk1 hS => ?_)
        have hP := ro_P hk1 hP
        generalize H1 = H at hP hS ⊢
        try dsimp only at k_20
        obtain ⟨k_20, k_21⟩ := k_20
        refine lv_if_eq (tgt := 70) hx hb dX6_order_36 (by decide) (fun c_22 => ?_) (fun c_22 => ?_)
        · skip
          have b_23 := b01z k_20 c_22
          (try simp only [Int32.lt_iff_toInt_lt, Int32.le_iff_toInt_le, ← Int32.toInt_inj, Int32.reduceToInt, zl1, zl2, zl3, zl4, zl9] at b_23)
          (try simp only [Int32.reduceToInt] at b_23)
          refine lv_iconst (v := (-1)) hx hb dX6_order_70 (by decide) ?_
          have hP9 := hP.sub (ws' := [(m0, .inr (7, [.int vfi, .ref mfi, .long vak, .int vhr, .ref mil, .ref mic, .ref mwi, .int vho, .int vga, .ref mmo, .int vns, .ref mki, .ref mce, .ref mgo, .ref mwa, .ref mha, .ref mch, .ref mfo, .ref mca, .ref mor, .ref mro, .ref mra, .ref mpr, .ref mho, .ref mis, .int vsg, .ref mss, .ref msc, .ref msh, .int vpr, .int vfa])), (mor, .inl (cI, 8, .inl Kor)), (mro, .inl (cI, 960, .inl Kro))]) [0, 1, 2] rfl
          have hD9 := hD.sub (ws' := [(m0, .inr (7, [.int vfi, .ref mfi, .long vak, .int vhr, .ref mil, .ref mic, .ref mwi, .int vho, .int vga, .ref mmo, .int vns, .ref mki, .ref mce, .ref mgo, .ref mwa, .ref mha, .ref mch, .ref mfo, .ref mca, .ref mor, .ref mro, .ref mra, .ref mpr, .ref mho, .ref mis, .int vsg, .ref mss, .ref msc, .ref msh, .int vpr, .int vfa])), (mor, .inl (cI, 8, .inl Kor)), (mro, .inl (cI, 960, .inl Kro))]) [0, 1, 2] (by decide) rfl
          have hK9 := hK.sub (tys' := [(cI, .int)]) [0] rfl
          have hv9 : (-1 : Int32).toInt = (-1) := by decide
          exact W.iret (v := (-1)) hx hb hr (fun t ht hW => ⟨⟨(-1), (Kor, Kro), rfl, ⟨Wro, (show Rg 8 0 20 Kor from R_Kor), (show Rg 960 0 15 Kro from R_Kro)⟩, ⟨by rw [ht]; exact hP9, va_K.moved hW.alike hK9, hD9⟩⟩, hS.F ht⟩) hS.2.2 dX6_order_71
        · skip
          have b_24 := b01n k_20 c_22
          (try simp only [Int32.lt_iff_toInt_lt, Int32.le_iff_toInt_le, ← Int32.toInt_inj, Int32.reduceToInt, zl1, zl2, zl3, zl4, zl9] at b_24)
          (try simp only [Int32.reduceToInt] at b_24)
          refine lv_iload hx hb dX6_order_39 (lv_at hl 5 rfl) ?_
          refine lv_iload hx hb dX6_order_41 (lv_at hl 4 rfl) ?_
          refine lv_bipush (v := 9) hx hb dX6_order_43 (by decide) ?_
          refine va_calli (va_runS (As := [.int a4, .int a3, .int 9]) (rest := []) ⟨hx, hb, hml, hown, hts⟩ (c_X6_in l H.size a4 a3 9 ) (va_cwS 3 hts gX6_order_X6_in rfl rfl rfl (by decide +kernel) ⟨Nat.le_of_ble_eq_true rfl, Nat.le_of_ble_eq_true rfl⟩) ⟨fun a U g mk q => by obtain ⟨q0, q1⟩ := q; exact ⟨q0, q1⟩, fun U hU hW => ⟨rfl, congrArg Array.size hU⟩⟩ rfl rfl hl.1 rfl (lv_room (Nat.le_of_ble_eq_true rfl)) dX6_order_45 ⟨(Nat.zero_le _), (Nat.zero_le _)⟩) hS (fun q _ h => ro_A hS hA q h) (ro_A hS hA) (fun r_25 u t H1 locs ht hvm k_26 hB hz1 hk1 hS => ?_)
          have hP := ro_P hk1 hP
          generalize H1 = H at hP hS ⊢
          try dsimp only at k_26
          obtain ⟨k_26, k_27⟩ := k_26
          refine lv_if_eq (tgt := 70) hx hb dX6_order_48 (by decide) (fun c_28 => ?_) (fun c_28 => ?_)
          · skip
            have b_29 := b01z k_26 c_28
            (try simp only [Int32.lt_iff_toInt_lt, Int32.le_iff_toInt_le, ← Int32.toInt_inj, Int32.reduceToInt, zl1, zl2, zl3, zl4, zl9] at b_29)
            (try simp only [Int32.reduceToInt] at b_29)
            refine lv_iconst (v := (-1)) hx hb dX6_order_70 (by decide) ?_
            have hP9 := hP.sub (ws' := [(m0, .inr (7, [.int vfi, .ref mfi, .long vak, .int vhr, .ref mil, .ref mic, .ref mwi, .int vho, .int vga, .ref mmo, .int vns, .ref mki, .ref mce, .ref mgo, .ref mwa, .ref mha, .ref mch, .ref mfo, .ref mca, .ref mor, .ref mro, .ref mra, .ref mpr, .ref mho, .ref mis, .int vsg, .ref mss, .ref msc, .ref msh, .int vpr, .int vfa])), (mor, .inl (cI, 8, .inl Kor)), (mro, .inl (cI, 960, .inl Kro))]) [0, 1, 2] rfl
            have hD9 := hD.sub (ws' := [(m0, .inr (7, [.int vfi, .ref mfi, .long vak, .int vhr, .ref mil, .ref mic, .ref mwi, .int vho, .int vga, .ref mmo, .int vns, .ref mki, .ref mce, .ref mgo, .ref mwa, .ref mha, .ref mch, .ref mfo, .ref mca, .ref mor, .ref mro, .ref mra, .ref mpr, .ref mho, .ref mis, .int vsg, .ref mss, .ref msc, .ref msh, .int vpr, .int vfa])), (mor, .inl (cI, 8, .inl Kor)), (mro, .inl (cI, 960, .inl Kro))]) [0, 1, 2] (by decide) rfl
            have hK9 := hK.sub (tys' := [(cI, .int)]) [0] rfl
            have hv9 : (-1 : Int32).toInt = (-1) := by decide
            exact W.iret (v := (-1)) hx hb hr (fun t ht hW => ⟨⟨(-1), (Kor, Kro), rfl, ⟨Wro, (show Rg 8 0 20 Kor from R_Kor), (show Rg 960 0 15 Kro from R_Kro)⟩, ⟨by rw [ht]; exact hP9, va_K.moved hW.alike hK9, hD9⟩⟩, hS.F ht⟩) hS.2.2 dX6_order_71
          · skip
            have b_30 := b01n k_26 c_28
            (try simp only [Int32.lt_iff_toInt_lt, Int32.le_iff_toInt_le, ← Int32.toInt_inj, Int32.reduceToInt, zl1, zl2, zl3, zl4, zl9] at b_30)
            (try simp only [Int32.reduceToInt] at b_30)
            refine lv_iload hx hb dX6_order_51 (lv_at hl 6 rfl) ?_
            refine lv_iconst (v := 0) hx hb dX6_order_53 (by decide) ?_
            refine lv_bipush (v := 9) hx hb dX6_order_54 (by decide) ?_
            refine va_calli (va_runS (As := [.int a5, .int 0, .int 9]) (rest := []) ⟨hx, hb, hml, hown, hts⟩ (c_X6_in l H.size a5 0 9 ) (va_cwS 3 hts gX6_order_X6_in rfl rfl rfl (by decide +kernel) ⟨Nat.le_of_ble_eq_true rfl, Nat.le_of_ble_eq_true rfl⟩) ⟨fun a U g mk q => by obtain ⟨q0, q1⟩ := q; exact ⟨q0, q1⟩, fun U hU hW => ⟨rfl, congrArg Array.size hU⟩⟩ rfl rfl hl.1 rfl (lv_room (Nat.le_of_ble_eq_true rfl)) dX6_order_56 ⟨(Nat.zero_le _), (Nat.zero_le _)⟩) hS (fun q _ h => ro_A hS hA q h) (ro_A hS hA) (fun r_31 u t H1 locs ht hvm k_32 hB hz1 hk1 hS => ?_)
            have hP := ro_P hk1 hP
            generalize H1 = H at hP hS ⊢
            try dsimp only at k_32
            obtain ⟨k_32, k_33⟩ := k_32
            refine lv_if_eq (tgt := 70) hx hb dX6_order_59 (by decide) (fun c_34 => ?_) (fun c_34 => ?_)
            · skip
              have b_35 := b01z k_32 c_34
              (try simp only [Int32.lt_iff_toInt_lt, Int32.le_iff_toInt_le, ← Int32.toInt_inj, Int32.reduceToInt, zl1, zl2, zl3, zl4, zl9] at b_35)
              (try simp only [Int32.reduceToInt] at b_35)
              refine lv_iconst (v := (-1)) hx hb dX6_order_70 (by decide) ?_
              have hP9 := hP.sub (ws' := [(m0, .inr (7, [.int vfi, .ref mfi, .long vak, .int vhr, .ref mil, .ref mic, .ref mwi, .int vho, .int vga, .ref mmo, .int vns, .ref mki, .ref mce, .ref mgo, .ref mwa, .ref mha, .ref mch, .ref mfo, .ref mca, .ref mor, .ref mro, .ref mra, .ref mpr, .ref mho, .ref mis, .int vsg, .ref mss, .ref msc, .ref msh, .int vpr, .int vfa])), (mor, .inl (cI, 8, .inl Kor)), (mro, .inl (cI, 960, .inl Kro))]) [0, 1, 2] rfl
              have hD9 := hD.sub (ws' := [(m0, .inr (7, [.int vfi, .ref mfi, .long vak, .int vhr, .ref mil, .ref mic, .ref mwi, .int vho, .int vga, .ref mmo, .int vns, .ref mki, .ref mce, .ref mgo, .ref mwa, .ref mha, .ref mch, .ref mfo, .ref mca, .ref mor, .ref mro, .ref mra, .ref mpr, .ref mho, .ref mis, .int vsg, .ref mss, .ref msc, .ref msh, .int vpr, .int vfa])), (mor, .inl (cI, 8, .inl Kor)), (mro, .inl (cI, 960, .inl Kro))]) [0, 1, 2] (by decide) rfl
              have hK9 := hK.sub (tys' := [(cI, .int)]) [0] rfl
              have hv9 : (-1 : Int32).toInt = (-1) := by decide
              exact W.iret (v := (-1)) hx hb hr (fun t ht hW => ⟨⟨(-1), (Kor, Kro), rfl, ⟨Wro, (show Rg 8 0 20 Kor from R_Kor), (show Rg 960 0 15 Kro from R_Kro)⟩, ⟨by rw [ht]; exact hP9, va_K.moved hW.alike hK9, hD9⟩⟩, hS.F ht⟩) hS.2.2 dX6_order_71
            · skip
              have b_36 := b01n k_32 c_34
              (try simp only [Int32.lt_iff_toInt_lt, Int32.le_iff_toInt_le, ← Int32.toInt_inj, Int32.reduceToInt, zl1, zl2, zl3, zl4, zl9] at b_36)
              (try simp only [Int32.reduceToInt] at b_36)
              refine lv_iload hx hb dX6_order_62 (lv_at hl 7 rfl) ?_
              refine va_calli (va_runS (As := [.int a6]) (rest := []) ⟨hx, hb, hml, hown, hts⟩ (c_X6_isWay l H.size a6 ) (va_cwS 1 hts gX6_order_X6_isWay rfl rfl rfl (by decide +kernel) ⟨Nat.le_of_ble_eq_true rfl, Nat.le_of_ble_eq_true rfl⟩) ⟨fun a U g mk q => by obtain ⟨q0, q1⟩ := q; exact ⟨q0, q1⟩, fun U hU hW => ⟨rfl, congrArg Array.size hU⟩⟩ rfl rfl hl.1 rfl (lv_room (Nat.le_of_ble_eq_true rfl)) dX6_order_64 ⟨(Nat.zero_le _), (Nat.zero_le _)⟩) hS (fun q _ h => ro_A hS hA q h) (ro_A hS hA) (fun r_37 u t H1 locs ht hvm k_38 hB hz1 hk1 hS => ?_)
              have hP := ro_P hk1 hP
              generalize H1 = H at hP hS ⊢
              try dsimp only at k_38
              obtain ⟨k_38, k_39⟩ := k_38
              refine lv_if_ne (tgt := 72) hx hb dX6_order_67 (by decide) (fun c_40 => ?_) (fun c_40 => ?_)
              · skip
                have b_41 := b01n k_38 c_40
                (try simp only [Int32.lt_iff_toInt_lt, Int32.le_iff_toInt_le, ← Int32.toInt_inj, Int32.reduceToInt, zl1, zl2, zl3, zl4, zl9] at b_41)
                (try simp only [Int32.reduceToInt] at b_41)
                refine lv_aload_n hx hb dX6_order_72 rfl (lv_at hl 0 rfl) ?_
                refine va_get (D := (dC, dI)) (ci := 7) (v := .ref mor) (C := RX6) (T := TX6) (N := 31) hx hb hts iw_X6_order_X6 hown hK hP 0 rfl rfl 19 (by decide) (hts (.fieldLink RX6 50 "TeaRaceModel" "orders" "[I") (by decide +kernel)) (fun _ h9 => h9) rfl dX6_order_73 ?_
                refine lv_iload_n hx hb dX6_order_76 rfl (lv_at hl 1 rfl) ?_
                refine va_iald hx hb hK hP 1 0 rfl rfl (in_k rfl (by omega) (by omega)) dX6_order_77 ?_
                refine lv_topi (fun x_42 ex_42 => ?_)
                have rx_42 := congrArg Int32.toInt ex_42
                have gx_42 : 0 ≤ x_42.toInt ∧ x_42.toInt ≤ 20 := Rg.at R_Kor rfl (by omega) (by omega) ex_42
                refine lv_bipush (v := 20) hx hb dX6_order_78 (by decide) ?_
                refine lv_icmp_ne (tgt := 86) hx hb dX6_order_80 (by decide) (fun c_43 => ?_) (fun c_43 => ?_)
                · skip
                  have qc_43 : x_42.toInt ≠ 20 := ne_k rfl (by decide) c_43
                  refine lv_bipush (v := 120) hx hb dX6_order_86 (by decide) ?_
                  refine lv_iload_n hx hb dX6_order_88 rfl (lv_at hl 1 rfl) ?_
                  refine lv_imul hx hb dX6_order_89 ?_
                  refine lv_topi (fun x_44 ex_44 => ?_)
                  have tx_44 : x_44.toInt = 120 * a0.toInt := mu_k ex_44 (by decide) rfl (by omega) (by omega)
                  refine lv_bipush (v := 6) hx hb dX6_order_90 (by decide) ?_
                  refine lv_aload_n hx hb dX6_order_92 rfl (lv_at hl 0 rfl) ?_
                  refine va_get (D := (dC, dI)) (ci := 7) (v := .ref mor) (C := RX6) (T := TX6) (N := 31) hx hb hts iw_X6_order_X6 hown hK hP 0 rfl rfl 19 (by decide) (hts (.fieldLink RX6 50 "TeaRaceModel" "orders" "[I") (by decide +kernel)) (fun _ h9 => h9) rfl dX6_order_93 ?_
                  refine lv_iload_n hx hb dX6_order_96 rfl (lv_at hl 1 rfl) ?_
                  refine va_iald hx hb hK hP 1 0 rfl rfl (in_k rfl (by omega) (by omega)) dX6_order_97 ?_
                  refine lv_topi (fun x_45 ex_45 => ?_)
                  have rx_45 := congrArg Int32.toInt ex_45
                  obtain rfl : x_42 = x_45 := ex_42.trans ex_45.symm
                  refine lv_imul hx hb dX6_order_98 ?_
                  refine lv_topi (fun x_46 ex_46 => ?_)
                  have tx_46 : x_46.toInt = 6 * x_42.toInt := mu_k ex_46 (by decide) rfl (by omega) (by omega)
                  refine lv_iadd hx hb dX6_order_99 ?_
                  refine lv_topi (fun x_47 ex_47 => ?_)
                  have tx_47 : x_47.toInt = x_44.toInt + x_46.toInt := ad_k ex_47 rfl rfl (by omega) (by omega)
                  refine lv_istore (lv' := [(8, .int x_47), (0, .ref m0), (1, .int a0), (2, .int a1), (3, .int a2), (4, .int a3), (5, .int a4), (6, .int a5), (7, .int a6)]) hx hb dX6_order_100 hl (by decide) rfl (fun ls hl => ?_)
                  refine lv_aload_n hx hb dX6_order_102 rfl (lv_at hl 1 rfl) ?_
                  refine va_get (D := (dC, dI)) (ci := 7) (v := .ref mro) (C := RX6) (T := TX6) (N := 31) hx hb hts iw_X6_order_X6 hown hK hP 0 rfl rfl 20 (by decide) (hts (.fieldLink RX6 53 "TeaRaceModel" "orderRows" "[I") (by decide +kernel)) (fun _ h9 => h9) rfl dX6_order_103 ?_
                  refine lv_iload hx hb dX6_order_106 (lv_at hl 0 rfl) ?_
                  refine lv_iload_n hx hb dX6_order_108 rfl (lv_at hl 3 rfl) ?_
                  refine va_iast hx hb hK hP hD hS 2 0 rfl rfl (in_k rfl (by omega) (by omega)) dX6_order_109 (fun H locs hP hD hS => ?_)
                  have hP : va_P (dC, dI) vwCl [(m0, .inr (7, [.int vfi, .ref mfi, .long vak, .int vhr, .ref mil, .ref mic, .ref mwi, .int vho, .int vga, .ref mmo, .int vns, .ref mki, .ref mce, .ref mgo, .ref mwa, .ref mha, .ref mch, .ref mfo, .ref mca, .ref mor, .ref mro, .ref mra, .ref mpr, .ref mho, .ref mis, .int vsg, .ref mss, .ref msc, .ref msh, .int vpr, .int vfa])), (mor, .inl (cI, 8, .inl Kor)), (mro, .inl (cI, 960, .inl (upd Kro x_47.toNatClampNeg a1)))] H := hP
                  have hD : va_D A [(m0, .inr (7, [.int vfi, .ref mfi, .long vak, .int vhr, .ref mil, .ref mic, .ref mwi, .int vho, .int vga, .ref mmo, .int vns, .ref mki, .ref mce, .ref mgo, .ref mwa, .ref mha, .ref mch, .ref mfo, .ref mca, .ref mor, .ref mro, .ref mra, .ref mpr, .ref mho, .ref mis, .int vsg, .ref mss, .ref msc, .ref msh, .int vpr, .int vfa])), (mor, .inl (cI, 8, .inl Kor)), (mro, .inl (cI, 960, .inl (upd Kro x_47.toNatClampNeg a1)))] := hD
                  have zs_48 : (upd Kro x_47.toNatClampNeg a1 x_47.toNatClampNeg).toInt = a1.toInt := congrArg Int32.toInt (upd_at (Kro) x_47.toNatClampNeg a1)
                  have R_49 : Rg 960 0 15 (upd Kro x_47.toNatClampNeg a1) := Rg.st R_Kro rfl (by omega) (by omega)
                  refine lv_aload_n hx hb dX6_order_110 rfl (lv_at hl 1 rfl) ?_
                  refine va_get (D := (dC, dI)) (ci := 7) (v := .ref mro) (C := RX6) (T := TX6) (N := 31) hx hb hts iw_X6_order_X6 hown hK hP 0 rfl rfl 20 (by decide) (hts (.fieldLink RX6 53 "TeaRaceModel" "orderRows" "[I") (by decide +kernel)) (fun _ h9 => h9) rfl dX6_order_111 ?_
                  refine lv_iload hx hb dX6_order_114 (lv_at hl 0 rfl) ?_
                  refine lv_iconst (v := 1) hx hb dX6_order_116 (by decide) ?_
                  refine lv_iadd hx hb dX6_order_117 ?_
                  refine lv_topi (fun x_50 ex_50 => ?_)
                  have tx_50 : x_50.toInt = x_47.toInt + 1 := ad_k ex_50 rfl (by decide) (by omega) (by omega)
                  refine lv_iload_n hx hb dX6_order_118 rfl (lv_at hl 4 rfl) ?_
                  refine va_iast hx hb hK hP hD hS 2 0 rfl rfl (in_k rfl (by omega) (by omega)) dX6_order_119 (fun H locs hP hD hS => ?_)
                  have hP : va_P (dC, dI) vwCl [(m0, .inr (7, [.int vfi, .ref mfi, .long vak, .int vhr, .ref mil, .ref mic, .ref mwi, .int vho, .int vga, .ref mmo, .int vns, .ref mki, .ref mce, .ref mgo, .ref mwa, .ref mha, .ref mch, .ref mfo, .ref mca, .ref mor, .ref mro, .ref mra, .ref mpr, .ref mho, .ref mis, .int vsg, .ref mss, .ref msc, .ref msh, .int vpr, .int vfa])), (mor, .inl (cI, 8, .inl Kor)), (mro, .inl (cI, 960, .inl (upd (upd Kro x_47.toNatClampNeg a1) x_50.toNatClampNeg a2)))] H := hP
                  have hD : va_D A [(m0, .inr (7, [.int vfi, .ref mfi, .long vak, .int vhr, .ref mil, .ref mic, .ref mwi, .int vho, .int vga, .ref mmo, .int vns, .ref mki, .ref mce, .ref mgo, .ref mwa, .ref mha, .ref mch, .ref mfo, .ref mca, .ref mor, .ref mro, .ref mra, .ref mpr, .ref mho, .ref mis, .int vsg, .ref mss, .ref msc, .ref msh, .int vpr, .int vfa])), (mor, .inl (cI, 8, .inl Kor)), (mro, .inl (cI, 960, .inl (upd (upd Kro x_47.toNatClampNeg a1) x_50.toNatClampNeg a2)))] := hD
                  have zs_51 : (upd (upd Kro x_47.toNatClampNeg a1) x_50.toNatClampNeg a2 x_50.toNatClampNeg).toInt = a2.toInt := congrArg Int32.toInt (upd_at (upd Kro x_47.toNatClampNeg a1) x_50.toNatClampNeg a2)
                  have R_52 : Rg 960 0 15 (upd (upd Kro x_47.toNatClampNeg a1) x_50.toNatClampNeg a2) := Rg.st R_49 rfl (by omega) (by omega)
                  refine lv_aload_n hx hb dX6_order_120 rfl (lv_at hl 1 rfl) ?_
                  refine va_get (D := (dC, dI)) (ci := 7) (v := .ref mro) (C := RX6) (T := TX6) (N := 31) hx hb hts iw_X6_order_X6 hown hK hP 0 rfl rfl 20 (by decide) (hts (.fieldLink RX6 53 "TeaRaceModel" "orderRows" "[I") (by decide +kernel)) (fun _ h9 => h9) rfl dX6_order_121 ?_
                  refine lv_iload hx hb dX6_order_124 (lv_at hl 0 rfl) ?_
                  refine lv_iconst (v := 2) hx hb dX6_order_126 (by decide) ?_
                  refine lv_iadd hx hb dX6_order_127 ?_
                  refine lv_topi (fun x_53 ex_53 => ?_)
                  have tx_53 : x_53.toInt = x_47.toInt + 2 := ad_k ex_53 rfl (by decide) (by omega) (by omega)
                  refine lv_iload hx hb dX6_order_128 (lv_at hl 5 rfl) ?_
                  refine va_iast hx hb hK hP hD hS 2 0 rfl rfl (in_k rfl (by omega) (by omega)) dX6_order_130 (fun H locs hP hD hS => ?_)
                  have hP : va_P (dC, dI) vwCl [(m0, .inr (7, [.int vfi, .ref mfi, .long vak, .int vhr, .ref mil, .ref mic, .ref mwi, .int vho, .int vga, .ref mmo, .int vns, .ref mki, .ref mce, .ref mgo, .ref mwa, .ref mha, .ref mch, .ref mfo, .ref mca, .ref mor, .ref mro, .ref mra, .ref mpr, .ref mho, .ref mis, .int vsg, .ref mss, .ref msc, .ref msh, .int vpr, .int vfa])), (mor, .inl (cI, 8, .inl Kor)), (mro, .inl (cI, 960, .inl (upd (upd (upd Kro x_47.toNatClampNeg a1) x_50.toNatClampNeg a2) x_53.toNatClampNeg a3)))] H := hP
                  have hD : va_D A [(m0, .inr (7, [.int vfi, .ref mfi, .long vak, .int vhr, .ref mil, .ref mic, .ref mwi, .int vho, .int vga, .ref mmo, .int vns, .ref mki, .ref mce, .ref mgo, .ref mwa, .ref mha, .ref mch, .ref mfo, .ref mca, .ref mor, .ref mro, .ref mra, .ref mpr, .ref mho, .ref mis, .int vsg, .ref mss, .ref msc, .ref msh, .int vpr, .int vfa])), (mor, .inl (cI, 8, .inl Kor)), (mro, .inl (cI, 960, .inl (upd (upd (upd Kro x_47.toNatClampNeg a1) x_50.toNatClampNeg a2) x_53.toNatClampNeg a3)))] := hD
                  have zs_54 : (upd (upd (upd Kro x_47.toNatClampNeg a1) x_50.toNatClampNeg a2) x_53.toNatClampNeg a3 x_53.toNatClampNeg).toInt = a3.toInt := congrArg Int32.toInt (upd_at (upd (upd Kro x_47.toNatClampNeg a1) x_50.toNatClampNeg a2) x_53.toNatClampNeg a3)
                  have R_55 : Rg 960 0 15 (upd (upd (upd Kro x_47.toNatClampNeg a1) x_50.toNatClampNeg a2) x_53.toNatClampNeg a3) := Rg.st R_52 rfl (by omega) (by omega)
                  refine lv_aload_n hx hb dX6_order_131 rfl (lv_at hl 1 rfl) ?_
                  refine va_get (D := (dC, dI)) (ci := 7) (v := .ref mro) (C := RX6) (T := TX6) (N := 31) hx hb hts iw_X6_order_X6 hown hK hP 0 rfl rfl 20 (by decide) (hts (.fieldLink RX6 53 "TeaRaceModel" "orderRows" "[I") (by decide +kernel)) (fun _ h9 => h9) rfl dX6_order_132 ?_
                  refine lv_iload hx hb dX6_order_135 (lv_at hl 0 rfl) ?_
                  refine lv_iconst (v := 3) hx hb dX6_order_137 (by decide) ?_
                  refine lv_iadd hx hb dX6_order_138 ?_
                  refine lv_topi (fun x_56 ex_56 => ?_)
                  have tx_56 : x_56.toInt = x_47.toInt + 3 := ad_k ex_56 rfl (by decide) (by omega) (by omega)
                  refine lv_iload hx hb dX6_order_139 (lv_at hl 6 rfl) ?_
                  refine va_iast hx hb hK hP hD hS 2 0 rfl rfl (in_k rfl (by omega) (by omega)) dX6_order_141 (fun H locs hP hD hS => ?_)
                  have hP : va_P (dC, dI) vwCl [(m0, .inr (7, [.int vfi, .ref mfi, .long vak, .int vhr, .ref mil, .ref mic, .ref mwi, .int vho, .int vga, .ref mmo, .int vns, .ref mki, .ref mce, .ref mgo, .ref mwa, .ref mha, .ref mch, .ref mfo, .ref mca, .ref mor, .ref mro, .ref mra, .ref mpr, .ref mho, .ref mis, .int vsg, .ref mss, .ref msc, .ref msh, .int vpr, .int vfa])), (mor, .inl (cI, 8, .inl Kor)), (mro, .inl (cI, 960, .inl (upd (upd (upd (upd Kro x_47.toNatClampNeg a1) x_50.toNatClampNeg a2) x_53.toNatClampNeg a3) x_56.toNatClampNeg a4)))] H := hP
                  have hD : va_D A [(m0, .inr (7, [.int vfi, .ref mfi, .long vak, .int vhr, .ref mil, .ref mic, .ref mwi, .int vho, .int vga, .ref mmo, .int vns, .ref mki, .ref mce, .ref mgo, .ref mwa, .ref mha, .ref mch, .ref mfo, .ref mca, .ref mor, .ref mro, .ref mra, .ref mpr, .ref mho, .ref mis, .int vsg, .ref mss, .ref msc, .ref msh, .int vpr, .int vfa])), (mor, .inl (cI, 8, .inl Kor)), (mro, .inl (cI, 960, .inl (upd (upd (upd (upd Kro x_47.toNatClampNeg a1) x_50.toNatClampNeg a2) x_53.toNatClampNeg a3) x_56.toNatClampNeg a4)))] := hD
                  have zs_57 : (upd (upd (upd (upd Kro x_47.toNatClampNeg a1) x_50.toNatClampNeg a2) x_53.toNatClampNeg a3) x_56.toNatClampNeg a4 x_56.toNatClampNeg).toInt = a4.toInt := congrArg Int32.toInt (upd_at (upd (upd (upd Kro x_47.toNatClampNeg a1) x_50.toNatClampNeg a2) x_53.toNatClampNeg a3) x_56.toNatClampNeg a4)
                  have R_58 : Rg 960 0 15 (upd (upd (upd (upd Kro x_47.toNatClampNeg a1) x_50.toNatClampNeg a2) x_53.toNatClampNeg a3) x_56.toNatClampNeg a4) := Rg.st R_55 rfl (by omega) (by omega)
                  refine lv_aload_n hx hb dX6_order_142 rfl (lv_at hl 1 rfl) ?_
                  refine va_get (D := (dC, dI)) (ci := 7) (v := .ref mro) (C := RX6) (T := TX6) (N := 31) hx hb hts iw_X6_order_X6 hown hK hP 0 rfl rfl 20 (by decide) (hts (.fieldLink RX6 53 "TeaRaceModel" "orderRows" "[I") (by decide +kernel)) (fun _ h9 => h9) rfl dX6_order_143 ?_
                  refine lv_iload hx hb dX6_order_146 (lv_at hl 0 rfl) ?_
                  refine lv_iconst (v := 4) hx hb dX6_order_148 (by decide) ?_
                  refine lv_iadd hx hb dX6_order_149 ?_
                  refine lv_topi (fun x_59 ex_59 => ?_)
                  have tx_59 : x_59.toInt = x_47.toInt + 4 := ad_k ex_59 rfl (by decide) (by omega) (by omega)
                  refine lv_iload hx hb dX6_order_150 (lv_at hl 7 rfl) ?_
                  refine va_iast hx hb hK hP hD hS 2 0 rfl rfl (in_k rfl (by omega) (by omega)) dX6_order_152 (fun H locs hP hD hS => ?_)
                  have hP : va_P (dC, dI) vwCl [(m0, .inr (7, [.int vfi, .ref mfi, .long vak, .int vhr, .ref mil, .ref mic, .ref mwi, .int vho, .int vga, .ref mmo, .int vns, .ref mki, .ref mce, .ref mgo, .ref mwa, .ref mha, .ref mch, .ref mfo, .ref mca, .ref mor, .ref mro, .ref mra, .ref mpr, .ref mho, .ref mis, .int vsg, .ref mss, .ref msc, .ref msh, .int vpr, .int vfa])), (mor, .inl (cI, 8, .inl Kor)), (mro, .inl (cI, 960, .inl (upd (upd (upd (upd (upd Kro x_47.toNatClampNeg a1) x_50.toNatClampNeg a2) x_53.toNatClampNeg a3) x_56.toNatClampNeg a4) x_59.toNatClampNeg a5)))] H := hP
                  have hD : va_D A [(m0, .inr (7, [.int vfi, .ref mfi, .long vak, .int vhr, .ref mil, .ref mic, .ref mwi, .int vho, .int vga, .ref mmo, .int vns, .ref mki, .ref mce, .ref mgo, .ref mwa, .ref mha, .ref mch, .ref mfo, .ref mca, .ref mor, .ref mro, .ref mra, .ref mpr, .ref mho, .ref mis, .int vsg, .ref mss, .ref msc, .ref msh, .int vpr, .int vfa])), (mor, .inl (cI, 8, .inl Kor)), (mro, .inl (cI, 960, .inl (upd (upd (upd (upd (upd Kro x_47.toNatClampNeg a1) x_50.toNatClampNeg a2) x_53.toNatClampNeg a3) x_56.toNatClampNeg a4) x_59.toNatClampNeg a5)))] := hD
                  have zs_60 : (upd (upd (upd (upd (upd Kro x_47.toNatClampNeg a1) x_50.toNatClampNeg a2) x_53.toNatClampNeg a3) x_56.toNatClampNeg a4) x_59.toNatClampNeg a5 x_59.toNatClampNeg).toInt = a5.toInt := congrArg Int32.toInt (upd_at (upd (upd (upd (upd Kro x_47.toNatClampNeg a1) x_50.toNatClampNeg a2) x_53.toNatClampNeg a3) x_56.toNatClampNeg a4) x_59.toNatClampNeg a5)
                  have R_61 : Rg 960 0 15 (upd (upd (upd (upd (upd Kro x_47.toNatClampNeg a1) x_50.toNatClampNeg a2) x_53.toNatClampNeg a3) x_56.toNatClampNeg a4) x_59.toNatClampNeg a5) := Rg.st R_58 rfl (by omega) (by omega)
                  refine lv_aload_n hx hb dX6_order_153 rfl (lv_at hl 1 rfl) ?_
                  refine va_get (D := (dC, dI)) (ci := 7) (v := .ref mro) (C := RX6) (T := TX6) (N := 31) hx hb hts iw_X6_order_X6 hown hK hP 0 rfl rfl 20 (by decide) (hts (.fieldLink RX6 53 "TeaRaceModel" "orderRows" "[I") (by decide +kernel)) (fun _ h9 => h9) rfl dX6_order_154 ?_
                  refine lv_iload hx hb dX6_order_157 (lv_at hl 0 rfl) ?_
                  refine lv_iconst (v := 5) hx hb dX6_order_159 (by decide) ?_
                  refine lv_iadd hx hb dX6_order_160 ?_
                  refine lv_topi (fun x_62 ex_62 => ?_)
                  have tx_62 : x_62.toInt = x_47.toInt + 5 := ad_k ex_62 rfl (by decide) (by omega) (by omega)
                  refine lv_iload hx hb dX6_order_161 (lv_at hl 8 rfl) ?_
                  refine va_iast hx hb hK hP hD hS 2 0 rfl rfl (in_k rfl (by omega) (by omega)) dX6_order_163 (fun H locs hP hD hS => ?_)
                  have hP : va_P (dC, dI) vwCl [(m0, .inr (7, [.int vfi, .ref mfi, .long vak, .int vhr, .ref mil, .ref mic, .ref mwi, .int vho, .int vga, .ref mmo, .int vns, .ref mki, .ref mce, .ref mgo, .ref mwa, .ref mha, .ref mch, .ref mfo, .ref mca, .ref mor, .ref mro, .ref mra, .ref mpr, .ref mho, .ref mis, .int vsg, .ref mss, .ref msc, .ref msh, .int vpr, .int vfa])), (mor, .inl (cI, 8, .inl Kor)), (mro, .inl (cI, 960, .inl (upd (upd (upd (upd (upd (upd Kro x_47.toNatClampNeg a1) x_50.toNatClampNeg a2) x_53.toNatClampNeg a3) x_56.toNatClampNeg a4) x_59.toNatClampNeg a5) x_62.toNatClampNeg a6)))] H := hP
                  have hD : va_D A [(m0, .inr (7, [.int vfi, .ref mfi, .long vak, .int vhr, .ref mil, .ref mic, .ref mwi, .int vho, .int vga, .ref mmo, .int vns, .ref mki, .ref mce, .ref mgo, .ref mwa, .ref mha, .ref mch, .ref mfo, .ref mca, .ref mor, .ref mro, .ref mra, .ref mpr, .ref mho, .ref mis, .int vsg, .ref mss, .ref msc, .ref msh, .int vpr, .int vfa])), (mor, .inl (cI, 8, .inl Kor)), (mro, .inl (cI, 960, .inl (upd (upd (upd (upd (upd (upd Kro x_47.toNatClampNeg a1) x_50.toNatClampNeg a2) x_53.toNatClampNeg a3) x_56.toNatClampNeg a4) x_59.toNatClampNeg a5) x_62.toNatClampNeg a6)))] := hD
                  have zs_63 : (upd (upd (upd (upd (upd (upd Kro x_47.toNatClampNeg a1) x_50.toNatClampNeg a2) x_53.toNatClampNeg a3) x_56.toNatClampNeg a4) x_59.toNatClampNeg a5) x_62.toNatClampNeg a6 x_62.toNatClampNeg).toInt = a6.toInt := congrArg Int32.toInt (upd_at (upd (upd (upd (upd (upd Kro x_47.toNatClampNeg a1) x_50.toNatClampNeg a2) x_53.toNatClampNeg a3) x_56.toNatClampNeg a4) x_59.toNatClampNeg a5) x_62.toNatClampNeg a6)
                  have R_64 : Rg 960 0 15 (upd (upd (upd (upd (upd (upd Kro x_47.toNatClampNeg a1) x_50.toNatClampNeg a2) x_53.toNatClampNeg a3) x_56.toNatClampNeg a4) x_59.toNatClampNeg a5) x_62.toNatClampNeg a6) := Rg.st R_61 rfl (by omega) (by omega)
                  refine lv_aload_n hx hb dX6_order_164 rfl (lv_at hl 1 rfl) ?_
                  refine va_get (D := (dC, dI)) (ci := 7) (v := .ref mor) (C := RX6) (T := TX6) (N := 31) hx hb hts iw_X6_order_X6 hown hK hP 0 rfl rfl 19 (by decide) (hts (.fieldLink RX6 50 "TeaRaceModel" "orders" "[I") (by decide +kernel)) (fun _ h9 => h9) rfl dX6_order_165 ?_
                  refine lv_iload_n hx hb dX6_order_168 rfl (lv_at hl 2 rfl) ?_
                  refine lv_dup2_11 hx hb dX6_order_169 rfl rfl ?_
                  refine va_iald hx hb hK hP 1 0 rfl rfl (in_k rfl (by omega) (by omega)) dX6_order_170 ?_
                  refine lv_topi (fun x_65 ex_65 => ?_)
                  have rx_65 := congrArg Int32.toInt ex_65
                  obtain rfl : x_42 = x_65 := ex_42.trans ex_65.symm
                  refine lv_iconst (v := 1) hx hb dX6_order_171 (by decide) ?_
                  refine lv_iadd hx hb dX6_order_172 ?_
                  refine lv_topi (fun x_66 ex_66 => ?_)
                  have tx_66 : x_66.toInt = x_42.toInt + 1 := ad_k ex_66 rfl (by decide) (by omega) (by omega)
                  refine va_iast hx hb hK hP hD hS 1 0 rfl rfl (in_k rfl (by omega) (by omega)) dX6_order_173 (fun H locs hP hD hS => ?_)
                  have hP : va_P (dC, dI) vwCl [(m0, .inr (7, [.int vfi, .ref mfi, .long vak, .int vhr, .ref mil, .ref mic, .ref mwi, .int vho, .int vga, .ref mmo, .int vns, .ref mki, .ref mce, .ref mgo, .ref mwa, .ref mha, .ref mch, .ref mfo, .ref mca, .ref mor, .ref mro, .ref mra, .ref mpr, .ref mho, .ref mis, .int vsg, .ref mss, .ref msc, .ref msh, .int vpr, .int vfa])), (mor, .inl (cI, 8, .inl (upd Kor a0.toNatClampNeg x_66))), (mro, .inl (cI, 960, .inl (upd (upd (upd (upd (upd (upd Kro x_47.toNatClampNeg a1) x_50.toNatClampNeg a2) x_53.toNatClampNeg a3) x_56.toNatClampNeg a4) x_59.toNatClampNeg a5) x_62.toNatClampNeg a6)))] H := hP
                  have hD : va_D A [(m0, .inr (7, [.int vfi, .ref mfi, .long vak, .int vhr, .ref mil, .ref mic, .ref mwi, .int vho, .int vga, .ref mmo, .int vns, .ref mki, .ref mce, .ref mgo, .ref mwa, .ref mha, .ref mch, .ref mfo, .ref mca, .ref mor, .ref mro, .ref mra, .ref mpr, .ref mho, .ref mis, .int vsg, .ref mss, .ref msc, .ref msh, .int vpr, .int vfa])), (mor, .inl (cI, 8, .inl (upd Kor a0.toNatClampNeg x_66))), (mro, .inl (cI, 960, .inl (upd (upd (upd (upd (upd (upd Kro x_47.toNatClampNeg a1) x_50.toNatClampNeg a2) x_53.toNatClampNeg a3) x_56.toNatClampNeg a4) x_59.toNatClampNeg a5) x_62.toNatClampNeg a6)))] := hD
                  have zs_67 : (upd Kor a0.toNatClampNeg x_66 a0.toNatClampNeg).toInt = x_66.toInt := congrArg Int32.toInt (upd_at (Kor) a0.toNatClampNeg x_66)
                  have R_68 : Rg 8 0 20 (upd Kor a0.toNatClampNeg x_66) := Rg.st R_Kor rfl (by omega) (by omega)
                  refine lv_aload_n hx hb dX6_order_174 rfl (lv_at hl 1 rfl) ?_
                  refine va_get (D := (dC, dI)) (ci := 7) (v := .ref mor) (C := RX6) (T := TX6) (N := 31) hx hb hts iw_X6_order_X6 hown hK hP 0 rfl rfl 19 (by decide) (hts (.fieldLink RX6 50 "TeaRaceModel" "orders" "[I") (by decide +kernel)) (fun _ h9 => h9) rfl dX6_order_175 ?_
                  refine lv_iload_n hx hb dX6_order_178 rfl (lv_at hl 2 rfl) ?_
                  refine va_iald hx hb hK hP 1 0 rfl rfl (in_k rfl (by omega) (by omega)) dX6_order_179 ?_
                  refine lv_topi (fun x_69 ex_69 => ?_)
                  have rx_69 := congrArg Int32.toInt ex_69
                  have gx_69 : 0 ≤ x_69.toInt ∧ x_69.toInt ≤ 20 := Rg.at R_68 rfl (by omega) (by omega) ex_69
                  have hP9 := hP.sub (ws' := [(m0, .inr (7, [.int vfi, .ref mfi, .long vak, .int vhr, .ref mil, .ref mic, .ref mwi, .int vho, .int vga, .ref mmo, .int vns, .ref mki, .ref mce, .ref mgo, .ref mwa, .ref mha, .ref mch, .ref mfo, .ref mca, .ref mor, .ref mro, .ref mra, .ref mpr, .ref mho, .ref mis, .int vsg, .ref mss, .ref msc, .ref msh, .int vpr, .int vfa])), (mor, .inl (cI, 8, .inl (upd Kor a0.toNatClampNeg x_66))), (mro, .inl (cI, 960, .inl (upd (upd (upd (upd (upd (upd Kro x_47.toNatClampNeg a1) x_50.toNatClampNeg a2) x_53.toNatClampNeg a3) x_56.toNatClampNeg a4) x_59.toNatClampNeg a5) x_62.toNatClampNeg a6)))]) [0, 1, 2] rfl
                  have hD9 := hD.sub (ws' := [(m0, .inr (7, [.int vfi, .ref mfi, .long vak, .int vhr, .ref mil, .ref mic, .ref mwi, .int vho, .int vga, .ref mmo, .int vns, .ref mki, .ref mce, .ref mgo, .ref mwa, .ref mha, .ref mch, .ref mfo, .ref mca, .ref mor, .ref mro, .ref mra, .ref mpr, .ref mho, .ref mis, .int vsg, .ref mss, .ref msc, .ref msh, .int vpr, .int vfa])), (mor, .inl (cI, 8, .inl (upd Kor a0.toNatClampNeg x_66))), (mro, .inl (cI, 960, .inl (upd (upd (upd (upd (upd (upd Kro x_47.toNatClampNeg a1) x_50.toNatClampNeg a2) x_53.toNatClampNeg a3) x_56.toNatClampNeg a4) x_59.toNatClampNeg a5) x_62.toNatClampNeg a6)))]) [0, 1, 2] (by decide) rfl
                  have hK9 := hK.sub (tys' := [(cI, .int)]) [0] rfl
                  exact W.iret (v := x_69) hx hb hr (fun t ht hW => ⟨⟨x_69, (upd Kor a0.toNatClampNeg x_66, upd (upd (upd (upd (upd (upd Kro x_47.toNatClampNeg a1) x_50.toNatClampNeg a2) x_53.toNatClampNeg a3) x_56.toNatClampNeg a4) x_59.toNatClampNeg a5) x_62.toNatClampNeg a6), rfl, ⟨(wro6 Wro (tn_k (p := x_47.toInt + 0) (by omega) (by omega)) (tn_k (p := x_47.toInt + 1) (by omega) (by omega)) (tn_k (p := x_47.toInt + 2) (by omega) (by omega)) (tn_k (p := x_47.toInt + 3) (by omega) (by omega)) (tn_k (p := x_47.toInt + 4) (by omega) (by omega)) (tn_k (p := x_47.toInt + 5) (by omega) (by omega)) (by omega) (by omega) (by omega)), (show Rg 8 0 20 (upd Kor a0.toNatClampNeg x_66) from R_68), (show Rg 960 0 15 (upd (upd (upd (upd (upd (upd Kro x_47.toNatClampNeg a1) x_50.toNatClampNeg a2) x_53.toNatClampNeg a3) x_56.toNatClampNeg a4) x_59.toNatClampNeg a5) x_62.toNatClampNeg a6) from R_64)⟩, ⟨by rw [ht]; exact hP9, va_K.moved hW.alike hK9, hD9⟩⟩, hS.F ht⟩) hS.2.2 dX6_order_180
                · skip
                  have qc_43 : x_42.toInt = 20 := eq_k rfl (by decide) c_43
                  refine lv_bipush (v := (-2)) hx hb dX6_order_83 (by decide) ?_
                  have hP9 := hP.sub (ws' := [(m0, .inr (7, [.int vfi, .ref mfi, .long vak, .int vhr, .ref mil, .ref mic, .ref mwi, .int vho, .int vga, .ref mmo, .int vns, .ref mki, .ref mce, .ref mgo, .ref mwa, .ref mha, .ref mch, .ref mfo, .ref mca, .ref mor, .ref mro, .ref mra, .ref mpr, .ref mho, .ref mis, .int vsg, .ref mss, .ref msc, .ref msh, .int vpr, .int vfa])), (mor, .inl (cI, 8, .inl Kor)), (mro, .inl (cI, 960, .inl Kro))]) [0, 1, 2] rfl
                  have hD9 := hD.sub (ws' := [(m0, .inr (7, [.int vfi, .ref mfi, .long vak, .int vhr, .ref mil, .ref mic, .ref mwi, .int vho, .int vga, .ref mmo, .int vns, .ref mki, .ref mce, .ref mgo, .ref mwa, .ref mha, .ref mch, .ref mfo, .ref mca, .ref mor, .ref mro, .ref mra, .ref mpr, .ref mho, .ref mis, .int vsg, .ref mss, .ref msc, .ref msh, .int vpr, .int vfa])), (mor, .inl (cI, 8, .inl Kor)), (mro, .inl (cI, 960, .inl Kro))]) [0, 1, 2] (by decide) rfl
                  have hK9 := hK.sub (tys' := [(cI, .int)]) [0] rfl
                  have hv9 : (-2 : Int32).toInt = (-2) := by decide
                  exact W.iret (v := (-2)) hx hb hr (fun t ht hW => ⟨⟨(-2), (Kor, Kro), rfl, ⟨Wro, (show Rg 8 0 20 Kor from R_Kor), (show Rg 960 0 15 Kro from R_Kro)⟩, ⟨by rw [ht]; exact hP9, va_K.moved hW.alike hK9, hD9⟩⟩, hS.F ht⟩) hS.2.2 dX6_order_85
              · skip
                have b_70 := b01z k_38 c_40
                (try simp only [Int32.lt_iff_toInt_lt, Int32.le_iff_toInt_le, ← Int32.toInt_inj, Int32.reduceToInt, zl1, zl2, zl3, zl4, zl9] at b_70)
                (try simp only [Int32.reduceToInt] at b_70)
                refine lv_iconst (v := (-1)) hx hb dX6_order_70 (by decide) ?_
                have hP9 := hP.sub (ws' := [(m0, .inr (7, [.int vfi, .ref mfi, .long vak, .int vhr, .ref mil, .ref mic, .ref mwi, .int vho, .int vga, .ref mmo, .int vns, .ref mki, .ref mce, .ref mgo, .ref mwa, .ref mha, .ref mch, .ref mfo, .ref mca, .ref mor, .ref mro, .ref mra, .ref mpr, .ref mho, .ref mis, .int vsg, .ref mss, .ref msc, .ref msh, .int vpr, .int vfa])), (mor, .inl (cI, 8, .inl Kor)), (mro, .inl (cI, 960, .inl Kro))]) [0, 1, 2] rfl
                have hD9 := hD.sub (ws' := [(m0, .inr (7, [.int vfi, .ref mfi, .long vak, .int vhr, .ref mil, .ref mic, .ref mwi, .int vho, .int vga, .ref mmo, .int vns, .ref mki, .ref mce, .ref mgo, .ref mwa, .ref mha, .ref mch, .ref mfo, .ref mca, .ref mor, .ref mro, .ref mra, .ref mpr, .ref mho, .ref mis, .int vsg, .ref mss, .ref msc, .ref msh, .int vpr, .int vfa])), (mor, .inl (cI, 8, .inl Kor)), (mro, .inl (cI, 960, .inl Kro))]) [0, 1, 2] (by decide) rfl
                have hK9 := hK.sub (tys' := [(cI, .int)]) [0] rfl
                have hv9 : (-1 : Int32).toInt = (-1) := by decide
                exact W.iret (v := (-1)) hx hb hr (fun t ht hW => ⟨⟨(-1), (Kor, Kro), rfl, ⟨Wro, (show Rg 8 0 20 Kor from R_Kor), (show Rg 960 0 15 Kro from R_Kro)⟩, ⟨by rw [ht]; exact hP9, va_K.moved hW.alike hK9, hD9⟩⟩, hS.F ht⟩) hS.2.2 dX6_order_71
set_option maxRecDepth 20000 in
theorem iw_X6_home_X6 : ∀ w ∈ wsX60, w ∈ wsX6_home := by decide +kernel
set_option maxHeartbeats 4000000 in
set_option maxRecDepth 100000 in
/-- reference: home -/
theorem c_X6_home (l : Launch) (dC : Nat → ClassId) (dI : Nat → Nat → Nat) (sz : Nat) (m0 : Nat) (mfi : Nat) (mil : Nat) (mic : Nat) (mwi : Nat) (mmo : Nat) (mki : Nat) (mce : Nat) (mgo : Nat) (mwa : Nat) (mha : Nat) (mch : Nat) (mfo : Nat) (mca : Nat) (mor : Nat) (mro : Nat) (mra : Nat) (mpr : Nat) (mho : Nat) (mis : Nat) (mss : Nat) (msc : Nat) (msh : Nat) (vfi : Int32) (vhr : Int32) (vho : Int32) (vga : Int32) (vns : Int32) (vsg : Int32) (vpr : Int32) (vfa : Int32) (vak : Int64) (Kil : Nat → Int32) (cZ : ClassId) (a0 : Int32) (a1 : Int32) (i_vho : 0 ≤ vho.toInt ∧ vho.toInt ≤ 159) (i_vga : 0 ≤ vga.toInt ∧ vga.toInt ≤ 23) : Met l yX6_home wsX6_home ({ frames := 2, cells := 0, slots := 0, locals := 42 }) (va_Pc [.ref m0, .int a0, .int a1] (fun U => U.heap.size = sz ∧ va_P (dC, dI) vwCl [(m0, .inr (7, [.int vfi, .ref mfi, .long vak, .int vhr, .ref mil, .ref mic, .ref mwi, .int vho, .int vga, .ref mmo, .int vns, .ref mki, .ref mce, .ref mgo, .ref mwa, .ref mha, .ref mch, .ref mfo, .ref mca, .ref mor, .ref mro, .ref mra, .ref mpr, .ref mho, .ref mis, .int vsg, .ref mss, .ref msc, .ref msh, .int vpr, .int vfa])), (mil, .inl (cZ, 160, .inl Kil))] U.heap ∧ va_K (dC, dI) vwCl [(cZ, .boolean)] U ∧ NW U ∧ va_D (fun _ => True) [(m0, .inr (7, [.int vfi, .ref mfi, .long vak, .int vhr, .ref mil, .ref mic, .ref mwi, .int vho, .int vga, .ref mmo, .int vns, .ref mki, .ref mce, .ref mgo, .ref mwa, .ref mha, .ref mch, .ref mfo, .ref mca, .ref mor, .ref mro, .ref mra, .ref mpr, .ref mho, .ref mis, .int vsg, .ref mss, .ref msc, .ref msh, .int vpr, .int vfa])), (mil, .inl (cZ, 160, .inl Kil))])) (va_Qi (fun (r : Int32) (u : Int32 × Int32) => (0 ≤ u.1.toInt ∧ u.1.toInt ≤ 159) ∧ (0 ≤ u.2.toInt ∧ u.2.toInt ≤ 23)) (fun u t => va_P (dC, dI) vwCl [(m0, .inr (7, [.int vfi, .ref mfi, .long vak, .int vhr, .ref mil, .ref mic, .ref mwi, .int u.1, .int u.2, .ref mmo, .int vns, .ref mki, .ref mce, .ref mgo, .ref mwa, .ref mha, .ref mch, .ref mfo, .ref mca, .ref mor, .ref mro, .ref mra, .ref mpr, .ref mho, .ref mis, .int vsg, .ref mss, .ref msc, .ref msh, .int vpr, .int vfa])), (mil, .inl (cZ, 160, .inl Kil))] t.heap ∧ va_K (dC, dI) vwCl [(cZ, .boolean)] t ∧ va_D (va_A [(m0, .inr (7, [.int vfi, .ref mfi, .long vak, .int vhr, .ref mil, .ref mic, .ref mwi, .int vho, .int vga, .ref mmo, .int vns, .ref mki, .ref mce, .ref mgo, .ref mwa, .ref mha, .ref mch, .ref mfo, .ref mca, .ref mor, .ref mro, .ref mra, .ref mpr, .ref mho, .ref mis, .int vsg, .ref mss, .ref msc, .ref msh, .int vpr, .int vfa])), (mil, .inl (cZ, 160, .inl Kil))] sz) [(m0, .inr (7, [.int vfi, .ref mfi, .long vak, .int vhr, .ref mil, .ref mic, .ref mwi, .int u.1, .int u.2, .ref mmo, .int vns, .ref mki, .ref mce, .ref mgo, .ref mwa, .ref mha, .ref mch, .ref mfo, .ref mca, .ref mor, .ref mro, .ref mra, .ref mpr, .ref mho, .ref mis, .int vsg, .ref mss, .ref msc, .ref msh, .int vpr, .int vfa])), (mil, .inl (cZ, 160, .inl Kil))]) (va_A [(m0, .inr (7, [.int vfi, .ref mfi, .long vak, .int vhr, .ref mil, .ref mic, .ref mwi, .int vho, .int vga, .ref mmo, .int vns, .ref mki, .ref mce, .ref mgo, .ref mwa, .ref mha, .ref mch, .ref mfo, .ref mca, .ref mor, .ref mro, .ref mra, .ref mpr, .ref mho, .ref mis, .int vsg, .ref mss, .ref msc, .ref msh, .int vpr, .int vfa])), (mil, .inl (cZ, 160, .inl Kil))] sz)) 0 0 (va_A [(m0, .inr (7, [.int vfi, .ref mfi, .long vak, .int vhr, .ref mil, .ref mic, .ref mwi, .int vho, .int vga, .ref mmo, .int vns, .ref mki, .ref mce, .ref mgo, .ref mwa, .ref mha, .ref mch, .ref mfo, .ref mca, .ref mor, .ref mro, .ref mra, .ref mpr, .ref mho, .ref mis, .int vsg, .ref mss, .ref msc, .ref msh, .int vpr, .int vfa])), (mil, .inl (cZ, 160, .inl Kil))] sz) := by
  refine Met.ofW (cc := cX6_home) (maxL := 3) (ret := (some .int)) (by decide) rfl ?_
  intro p e s m args below meth c s₁ B hml hv
  obtain ⟨rfl, hsz, hP, hK, hN, hD0⟩ := hv
  have hx := B.exec
  have hb := B.bytes
  have hr := B.returns
  have hts := atoms_spec (ws := wsX6_home) B.pre
  have hown : s.vm.findClass RX6 = some m.cls := findClass_of_methodNamed B.named
  have hlocks := B.notSynchronized
  subst hsz
  have hD := hD0.self (sz := s.heap.size)
  generalize hAe : va_A [(m0, .inr (7, [.int vfi, .ref mfi, .long vak, .int vhr, .ref mil, .ref mic, .ref mwi, .int vho, .int vga, .ref mmo, .int vns, .ref mki, .ref mce, .ref mgo, .ref mwa, .ref mha, .ref mch, .ref mfo, .ref mca, .ref mor, .ref mro, .ref mra, .ref mpr, .ref mho, .ref mis, .int vsg, .ref mss, .ref msc, .ref msh, .int vpr, .int vfa])), (mil, .inl (cZ, 160, .inl Kil))] s.heap.size = A at hD ⊢
  have hA : ∀ q : Nat, s.heap.size ≤ q → A q := fun q h => by rw [← hAe]; exact Or.inr h
  have hS : va_S A s.heap s.heap [] := va_S.rf
  have hP : va_P (dC, dI) vwCl [(m0, .inr (7, [.int vfi, .ref mfi, .long vak, .int vhr, .ref mil, .ref mic, .ref mwi, .int vho, .int vga, .ref mmo, .int vns, .ref mki, .ref mce, .ref mgo, .ref mwa, .ref mha, .ref mch, .ref mfo, .ref mca, .ref mor, .ref mro, .ref mra, .ref mpr, .ref mho, .ref mis, .int vsg, .ref mss, .ref msc, .ref msh, .int vpr, .int vfa])), (mil, .inl (cZ, 160, .inl Kil))] s.heap := hP
  have hl := lv_entry ([.ref m0, .int a0, .int a1]) (n := 3) (Nat.le_of_ble_eq_true rfl)
  rw [lg_entry_eq]
  generalize (lg_sl ([.ref m0, .int a0, .int a1]) ++ List.replicate (3 - (lg_sl ([.ref m0, .int a0, .int a1])).length) Slot.unset).toArray = ls at hl ⊢
  have hl : lv_has ls 3 [(0, .ref m0), (1, .int a0), (2, .int a1)] := hl
  refine lv_iload_n hx hb dX6_home_0 rfl (lv_at hl 1 rfl) ?_
  refine va_calli (va_runS (As := [.int a0]) (rest := []) ⟨hx, hb, hml, hown, hts⟩ (c_X6_isCell l s.heap.size a0 ) (va_cwS 1 hts gX6_home_X6_isCell rfl rfl rfl (by decide +kernel) ⟨Nat.le_of_ble_eq_true rfl, Nat.le_of_ble_eq_true rfl⟩) ⟨fun a U g mk q => by obtain ⟨q0, q1⟩ := q; exact ⟨q0, q1⟩, fun U hU hW => ⟨rfl, congrArg Array.size hU⟩⟩ rfl rfl hl.1 rfl (lv_room (Nat.le_of_ble_eq_true rfl)) dX6_home_1 ⟨(Nat.zero_le _), (Nat.zero_le _)⟩) hS (fun q _ h => ro_A hS hA q h) (ro_A hS hA) (fun r_1 u t H1 locs ht hvm k_2 hB hz1 hk1 hS => ?_)
  have hP := ro_P hk1 hP
  generalize H1 = H at hP hS ⊢
  try dsimp only at k_2
  obtain ⟨k_2, k_3⟩ := k_2
  refine lv_if_eq (tgt := 26) hx hb dX6_home_4 (by decide) (fun c_4 => ?_) (fun c_4 => ?_)
  · skip
    have b_5 := b01z k_2 c_4
    (try simp only [Int32.lt_iff_toInt_lt, Int32.le_iff_toInt_le, ← Int32.toInt_inj, Int32.reduceToInt, zl1, zl2, zl3, zl4, zl9] at b_5)
    (try simp only [Int32.reduceToInt] at b_5)
    refine lv_iconst (v := (-1)) hx hb dX6_home_26 (by decide) ?_
    have hP9 := hP.sub (ws' := [(m0, .inr (7, [.int vfi, .ref mfi, .long vak, .int vhr, .ref mil, .ref mic, .ref mwi, .int vho, .int vga, .ref mmo, .int vns, .ref mki, .ref mce, .ref mgo, .ref mwa, .ref mha, .ref mch, .ref mfo, .ref mca, .ref mor, .ref mro, .ref mra, .ref mpr, .ref mho, .ref mis, .int vsg, .ref mss, .ref msc, .ref msh, .int vpr, .int vfa])), (mil, .inl (cZ, 160, .inl Kil))]) [0, 1] rfl
    have hD9 := hD.sub (ws' := [(m0, .inr (7, [.int vfi, .ref mfi, .long vak, .int vhr, .ref mil, .ref mic, .ref mwi, .int vho, .int vga, .ref mmo, .int vns, .ref mki, .ref mce, .ref mgo, .ref mwa, .ref mha, .ref mch, .ref mfo, .ref mca, .ref mor, .ref mro, .ref mra, .ref mpr, .ref mho, .ref mis, .int vsg, .ref mss, .ref msc, .ref msh, .int vpr, .int vfa])), (mil, .inl (cZ, 160, .inl Kil))]) [0, 1] (by decide) rfl
    have hK9 := hK.sub (tys' := [(cZ, .boolean)]) [0] rfl
    have hv9 : (-1 : Int32).toInt = (-1) := by decide
    exact W.iret (v := (-1)) hx hb hr (fun t ht hW => ⟨⟨(-1), (vho, vga), rfl, ⟨(show 0 ≤ (vho).toInt ∧ (vho).toInt ≤ 159 from ⟨by omega, by omega⟩), (show 0 ≤ (vga).toInt ∧ (vga).toInt ≤ 23 from ⟨by omega, by omega⟩)⟩, ⟨by rw [ht]; exact hP9, va_K.moved hW.alike hK9, hD9⟩⟩, hS.F ht⟩) hS.2.2 dX6_home_27
  · skip
    have b_6 := b01n k_2 c_4
    (try simp only [Int32.lt_iff_toInt_lt, Int32.le_iff_toInt_le, ← Int32.toInt_inj, Int32.reduceToInt, zl1, zl2, zl3, zl4, zl9] at b_6)
    (try simp only [Int32.reduceToInt] at b_6)
    refine lv_aload_n hx hb dX6_home_7 rfl (lv_at hl 0 rfl) ?_
    refine va_get (D := (dC, dI)) (ci := 7) (v := .ref mil) (C := RX6) (T := TX6) (N := 31) hx hb hts iw_X6_home_X6 hown hK hP 0 rfl rfl 4 (by decide) (hts (.fieldLink RX6 13 "TeaRaceModel" "isLand" "[Z") (by decide +kernel)) (fun _ h9 => h9) rfl dX6_home_8 ?_
    refine lv_iload_n hx hb dX6_home_11 rfl (lv_at hl 1 rfl) ?_
    refine va_zald hx hb hK hP 1 0 rfl rfl (in_k rfl (by omega) (by omega)) dX6_home_12 ?_
    refine lv_topi (fun x_7 ex_7 => ?_)
    have rx_7 := congrArg Int32.toInt ex_7
    refine lv_if_ne (tgt := 26) hx hb dX6_home_13 (by decide) (fun c_8 => ?_) (fun c_8 => ?_)
    · skip
      have qc_8 : x_7.toInt ≠ 0 := ne_k rfl (by decide) c_8
      refine lv_iconst (v := (-1)) hx hb dX6_home_26 (by decide) ?_
      have hP9 := hP.sub (ws' := [(m0, .inr (7, [.int vfi, .ref mfi, .long vak, .int vhr, .ref mil, .ref mic, .ref mwi, .int vho, .int vga, .ref mmo, .int vns, .ref mki, .ref mce, .ref mgo, .ref mwa, .ref mha, .ref mch, .ref mfo, .ref mca, .ref mor, .ref mro, .ref mra, .ref mpr, .ref mho, .ref mis, .int vsg, .ref mss, .ref msc, .ref msh, .int vpr, .int vfa])), (mil, .inl (cZ, 160, .inl Kil))]) [0, 1] rfl
      have hD9 := hD.sub (ws' := [(m0, .inr (7, [.int vfi, .ref mfi, .long vak, .int vhr, .ref mil, .ref mic, .ref mwi, .int vho, .int vga, .ref mmo, .int vns, .ref mki, .ref mce, .ref mgo, .ref mwa, .ref mha, .ref mch, .ref mfo, .ref mca, .ref mor, .ref mro, .ref mra, .ref mpr, .ref mho, .ref mis, .int vsg, .ref mss, .ref msc, .ref msh, .int vpr, .int vfa])), (mil, .inl (cZ, 160, .inl Kil))]) [0, 1] (by decide) rfl
      have hK9 := hK.sub (tys' := [(cZ, .boolean)]) [0] rfl
      have hv9 : (-1 : Int32).toInt = (-1) := by decide
      exact W.iret (v := (-1)) hx hb hr (fun t ht hW => ⟨⟨(-1), (vho, vga), rfl, ⟨(show 0 ≤ (vho).toInt ∧ (vho).toInt ≤ 159 from ⟨by omega, by omega⟩), (show 0 ≤ (vga).toInt ∧ (vga).toInt ≤ 23 from ⟨by omega, by omega⟩)⟩, ⟨by rw [ht]; exact hP9, va_K.moved hW.alike hK9, hD9⟩⟩, hS.F ht⟩) hS.2.2 dX6_home_27
    · skip
      have qc_8 : x_7.toInt = 0 := eq_k rfl (by decide) c_8
      refine lv_iload_n hx hb dX6_home_16 rfl (lv_at hl 2 rfl) ?_
      refine lv_iconst (v := 0) hx hb dX6_home_17 (by decide) ?_
      refine lv_bipush (v := 23) hx hb dX6_home_18 (by decide) ?_
      refine va_calli (va_runS (As := [.int a1, .int 0, .int 23]) (rest := []) ⟨hx, hb, hml, hown, hts⟩ (c_X6_in l H.size a1 0 23 ) (va_cwS 3 hts gX6_home_X6_in rfl rfl rfl (by decide +kernel) ⟨Nat.le_of_ble_eq_true rfl, Nat.le_of_ble_eq_true rfl⟩) ⟨fun a U g mk q => by obtain ⟨q0, q1⟩ := q; exact ⟨q0, q1⟩, fun U hU hW => ⟨rfl, congrArg Array.size hU⟩⟩ rfl rfl hl.1 rfl (lv_room (Nat.le_of_ble_eq_true rfl)) dX6_home_20 ⟨(Nat.zero_le _), (Nat.zero_le _)⟩) hS (fun q _ h => ro_A hS hA q h) (ro_A hS hA) (fun r_9 u t H1 locs ht hvm k_10 hB hz1 hk1 hS => ?_)
      have hP := ro_P hk1 hP
      generalize H1 = H at hP hS ⊢
      try dsimp only at k_10
      obtain ⟨k_10, k_11⟩ := k_10
      refine lv_if_ne (tgt := 28) hx hb dX6_home_23 (by decide) (fun c_12 => ?_) (fun c_12 => ?_)
      · skip
        have b_13 := b01n k_10 c_12
        (try simp only [Int32.lt_iff_toInt_lt, Int32.le_iff_toInt_le, ← Int32.toInt_inj, Int32.reduceToInt, zl1, zl2, zl3, zl4, zl9] at b_13)
        (try simp only [Int32.reduceToInt] at b_13)
        refine lv_aload_n hx hb dX6_home_28 rfl (lv_at hl 0 rfl) ?_
        refine va_get (D := (dC, dI)) (ci := 7) (v := .int vhr) (C := RX6) (T := TX6) (N := 31) hx hb hts iw_X6_home_X6 hown hK hP 0 rfl rfl 3 (by decide) (hts (.fieldLink RX6 113 "TeaRaceModel" "hour" "I") (by decide +kernel)) (fun _ h9 => h9) rfl dX6_home_29 ?_
        refine lv_if_eq (tgt := 38) hx hb dX6_home_32 (by decide) (fun c_14 => ?_) (fun c_14 => ?_)
        · skip
          have qc_14 : vhr.toInt = 0 := eq_k rfl (by decide) c_14
          refine lv_aload_n hx hb dX6_home_38 rfl (lv_at hl 0 rfl) ?_
          refine lv_iload_n hx hb dX6_home_39 rfl (lv_at hl 1 rfl) ?_
          refine va_put (D := (dC, dI)) (ci := 7) (v := .int a0) (ty := .int) (C := RX6) (T := TX6) (N := 31) hx hb hts iw_X6_home_X6 tyX6 tyX6_ok nmX6 hown hK hP hD hS 0 rfl rfl 7 (by decide) (hts (.fieldLink RX6 136 "TeaRaceModel" "home" "I") (by decide +kernel)) (fun _ h9 => h9) rfl (by decide +kernel) rfl rfl (Nat.le_of_ble_eq_true rfl) dX6_home_40 (fun H locs hP hD hS => ?_)
          have hP : va_P (dC, dI) vwCl [(m0, .inr (7, [.int vfi, .ref mfi, .long vak, .int vhr, .ref mil, .ref mic, .ref mwi, .int a0, .int vga, .ref mmo, .int vns, .ref mki, .ref mce, .ref mgo, .ref mwa, .ref mha, .ref mch, .ref mfo, .ref mca, .ref mor, .ref mro, .ref mra, .ref mpr, .ref mho, .ref mis, .int vsg, .ref mss, .ref msc, .ref msh, .int vpr, .int vfa])), (mil, .inl (cZ, 160, .inl Kil))] H := hP
          have hD : va_D A [(m0, .inr (7, [.int vfi, .ref mfi, .long vak, .int vhr, .ref mil, .ref mic, .ref mwi, .int a0, .int vga, .ref mmo, .int vns, .ref mki, .ref mce, .ref mgo, .ref mwa, .ref mha, .ref mch, .ref mfo, .ref mca, .ref mor, .ref mro, .ref mra, .ref mpr, .ref mho, .ref mis, .int vsg, .ref mss, .ref msc, .ref msh, .int vpr, .int vfa])), (mil, .inl (cZ, 160, .inl Kil))] := hD
          refine lv_aload_n hx hb dX6_home_43 rfl (lv_at hl 0 rfl) ?_
          refine lv_iload_n hx hb dX6_home_44 rfl (lv_at hl 2 rfl) ?_
          refine va_put (D := (dC, dI)) (ci := 7) (v := .int a1) (ty := .int) (C := RX6) (T := TX6) (N := 31) hx hb hts iw_X6_home_X6 tyX6 tyX6_ok nmX6 hown hK hP hD hS 0 rfl rfl 8 (by decide) (hts (.fieldLink RX6 119 "TeaRaceModel" "gate" "I") (by decide +kernel)) (fun _ h9 => h9) rfl (by decide +kernel) rfl rfl (Nat.le_of_ble_eq_true rfl) dX6_home_45 (fun H locs hP hD hS => ?_)
          have hP : va_P (dC, dI) vwCl [(m0, .inr (7, [.int vfi, .ref mfi, .long vak, .int vhr, .ref mil, .ref mic, .ref mwi, .int a0, .int a1, .ref mmo, .int vns, .ref mki, .ref mce, .ref mgo, .ref mwa, .ref mha, .ref mch, .ref mfo, .ref mca, .ref mor, .ref mro, .ref mra, .ref mpr, .ref mho, .ref mis, .int vsg, .ref mss, .ref msc, .ref msh, .int vpr, .int vfa])), (mil, .inl (cZ, 160, .inl Kil))] H := hP
          have hD : va_D A [(m0, .inr (7, [.int vfi, .ref mfi, .long vak, .int vhr, .ref mil, .ref mic, .ref mwi, .int a0, .int a1, .ref mmo, .int vns, .ref mki, .ref mce, .ref mgo, .ref mwa, .ref mha, .ref mch, .ref mfo, .ref mca, .ref mor, .ref mro, .ref mra, .ref mpr, .ref mho, .ref mis, .int vsg, .ref mss, .ref msc, .ref msh, .int vpr, .int vfa])), (mil, .inl (cZ, 160, .inl Kil))] := hD
          refine lv_iconst (v := 1) hx hb dX6_home_48 (by decide) ?_
          have hP9 := hP.sub (ws' := [(m0, .inr (7, [.int vfi, .ref mfi, .long vak, .int vhr, .ref mil, .ref mic, .ref mwi, .int a0, .int a1, .ref mmo, .int vns, .ref mki, .ref mce, .ref mgo, .ref mwa, .ref mha, .ref mch, .ref mfo, .ref mca, .ref mor, .ref mro, .ref mra, .ref mpr, .ref mho, .ref mis, .int vsg, .ref mss, .ref msc, .ref msh, .int vpr, .int vfa])), (mil, .inl (cZ, 160, .inl Kil))]) [0, 1] rfl
          have hD9 := hD.sub (ws' := [(m0, .inr (7, [.int vfi, .ref mfi, .long vak, .int vhr, .ref mil, .ref mic, .ref mwi, .int a0, .int a1, .ref mmo, .int vns, .ref mki, .ref mce, .ref mgo, .ref mwa, .ref mha, .ref mch, .ref mfo, .ref mca, .ref mor, .ref mro, .ref mra, .ref mpr, .ref mho, .ref mis, .int vsg, .ref mss, .ref msc, .ref msh, .int vpr, .int vfa])), (mil, .inl (cZ, 160, .inl Kil))]) [0, 1] (by decide) rfl
          have hK9 := hK.sub (tys' := [(cZ, .boolean)]) [0] rfl
          have hv9 : (1 : Int32).toInt = 1 := by decide
          exact W.iret (v := 1) hx hb hr (fun t ht hW => ⟨⟨1, (a0, a1), rfl, ⟨(show 0 ≤ (a0).toInt ∧ (a0).toInt ≤ 159 from ⟨by omega, by omega⟩), (show 0 ≤ (a1).toInt ∧ (a1).toInt ≤ 23 from ⟨by omega, by omega⟩)⟩, ⟨by rw [ht]; exact hP9, va_K.moved hW.alike hK9, hD9⟩⟩, hS.F ht⟩) hS.2.2 dX6_home_49
        · skip
          have qc_14 : vhr.toInt ≠ 0 := ne_k rfl (by decide) c_14
          refine lv_bipush (v := (-4)) hx hb dX6_home_35 (by decide) ?_
          have hP9 := hP.sub (ws' := [(m0, .inr (7, [.int vfi, .ref mfi, .long vak, .int vhr, .ref mil, .ref mic, .ref mwi, .int vho, .int vga, .ref mmo, .int vns, .ref mki, .ref mce, .ref mgo, .ref mwa, .ref mha, .ref mch, .ref mfo, .ref mca, .ref mor, .ref mro, .ref mra, .ref mpr, .ref mho, .ref mis, .int vsg, .ref mss, .ref msc, .ref msh, .int vpr, .int vfa])), (mil, .inl (cZ, 160, .inl Kil))]) [0, 1] rfl
          have hD9 := hD.sub (ws' := [(m0, .inr (7, [.int vfi, .ref mfi, .long vak, .int vhr, .ref mil, .ref mic, .ref mwi, .int vho, .int vga, .ref mmo, .int vns, .ref mki, .ref mce, .ref mgo, .ref mwa, .ref mha, .ref mch, .ref mfo, .ref mca, .ref mor, .ref mro, .ref mra, .ref mpr, .ref mho, .ref mis, .int vsg, .ref mss, .ref msc, .ref msh, .int vpr, .int vfa])), (mil, .inl (cZ, 160, .inl Kil))]) [0, 1] (by decide) rfl
          have hK9 := hK.sub (tys' := [(cZ, .boolean)]) [0] rfl
          have hv9 : (-4 : Int32).toInt = (-4) := by decide
          exact W.iret (v := (-4)) hx hb hr (fun t ht hW => ⟨⟨(-4), (vho, vga), rfl, ⟨(show 0 ≤ (vho).toInt ∧ (vho).toInt ≤ 159 from ⟨by omega, by omega⟩), (show 0 ≤ (vga).toInt ∧ (vga).toInt ≤ 23 from ⟨by omega, by omega⟩)⟩, ⟨by rw [ht]; exact hP9, va_K.moved hW.alike hK9, hD9⟩⟩, hS.F ht⟩) hS.2.2 dX6_home_37
      · skip
        have b_15 := b01z k_10 c_12
        (try simp only [Int32.lt_iff_toInt_lt, Int32.le_iff_toInt_le, ← Int32.toInt_inj, Int32.reduceToInt, zl1, zl2, zl3, zl4, zl9] at b_15)
        (try simp only [Int32.reduceToInt] at b_15)
        refine lv_iconst (v := (-1)) hx hb dX6_home_26 (by decide) ?_
        have hP9 := hP.sub (ws' := [(m0, .inr (7, [.int vfi, .ref mfi, .long vak, .int vhr, .ref mil, .ref mic, .ref mwi, .int vho, .int vga, .ref mmo, .int vns, .ref mki, .ref mce, .ref mgo, .ref mwa, .ref mha, .ref mch, .ref mfo, .ref mca, .ref mor, .ref mro, .ref mra, .ref mpr, .ref mho, .ref mis, .int vsg, .ref mss, .ref msc, .ref msh, .int vpr, .int vfa])), (mil, .inl (cZ, 160, .inl Kil))]) [0, 1] rfl
        have hD9 := hD.sub (ws' := [(m0, .inr (7, [.int vfi, .ref mfi, .long vak, .int vhr, .ref mil, .ref mic, .ref mwi, .int vho, .int vga, .ref mmo, .int vns, .ref mki, .ref mce, .ref mgo, .ref mwa, .ref mha, .ref mch, .ref mfo, .ref mca, .ref mor, .ref mro, .ref mra, .ref mpr, .ref mho, .ref mis, .int vsg, .ref mss, .ref msc, .ref msh, .int vpr, .int vfa])), (mil, .inl (cZ, 160, .inl Kil))]) [0, 1] (by decide) rfl
        have hK9 := hK.sub (tys' := [(cZ, .boolean)]) [0] rfl
        have hv9 : (-1 : Int32).toInt = (-1) := by decide
        exact W.iret (v := (-1)) hx hb hr (fun t ht hW => ⟨⟨(-1), (vho, vga), rfl, ⟨(show 0 ≤ (vho).toInt ∧ (vho).toInt ≤ 159 from ⟨by omega, by omega⟩), (show 0 ≤ (vga).toInt ∧ (vga).toInt ≤ 23 from ⟨by omega, by omega⟩)⟩, ⟨by rw [ht]; exact hP9, va_K.moved hW.alike hK9, hD9⟩⟩, hS.F ht⟩) hS.2.2 dX6_home_27
set_option maxRecDepth 20000 in
theorem iw_X6_ask_X6 : ∀ w ∈ wsX60, w ∈ wsX6_ask := by decide +kernel
set_option maxHeartbeats 4000000 in
set_option maxRecDepth 100000 in
/-- reference: ask -/
theorem c_X6_ask (l : Launch) (dC : Nat → ClassId) (dI : Nat → Nat → Nat) (sz : Nat) (m0 : Nat) (mfi : Nat) (mil : Nat) (mic : Nat) (mwi : Nat) (mmo : Nat) (mki : Nat) (mce : Nat) (mgo : Nat) (mwa : Nat) (mha : Nat) (mch : Nat) (mfo : Nat) (mca : Nat) (mor : Nat) (mro : Nat) (mra : Nat) (mpr : Nat) (mho : Nat) (mis : Nat) (mss : Nat) (msc : Nat) (msh : Nat) (vfi : Int32) (vhr : Int32) (vho : Int32) (vga : Int32) (vns : Int32) (vsg : Int32) (vpr : Int32) (vfa : Int32) (vak : Int64) (Kic : Nat → Int32) (Kwi : Nat → Int32) (Kce : Nat → Int32) (Kor : Nat → Int32) (Kro : Nat → Int32) (Kwa : Nat → Int32) (cI : ClassId) (cZ : ClassId) (a0 : Int32) (i_a0 : 0 ≤ a0.toInt ∧ a0.toInt ≤ 7) (i_vhr : 0 ≤ vhr.toInt ∧ vhr.toInt ≤ 100000) (R_Kwi : Rg 1920 (-128) 127 Kwi) (R_Kce : Rg 8 0 159 Kce) (R_Kor : Rg 8 0 20 Kor) (R_Kro : Rg 960 0 15 Kro) (R_Kwa : Rg 8 0 7 Kwa) (Wro : ∀ j : Nat, j < 960 → j % 6 = 5 → 0 ≤ (Kro j).toInt ∧ (Kro j).toInt ≤ 7) : Met l yX6_ask wsX6_ask ({ frames := 2, cells := 0, slots := 0, locals := 46 }) (va_Pc [.ref m0, .int a0] (fun U => U.heap.size = sz ∧ va_P (dC, dI) vwCl [(m0, .inr (7, [.int vfi, .ref mfi, .long vak, .int vhr, .ref mil, .ref mic, .ref mwi, .int vho, .int vga, .ref mmo, .int vns, .ref mki, .ref mce, .ref mgo, .ref mwa, .ref mha, .ref mch, .ref mfo, .ref mca, .ref mor, .ref mro, .ref mra, .ref mpr, .ref mho, .ref mis, .int vsg, .ref mss, .ref msc, .ref msh, .int vpr, .int vfa])), (mic, .inl (cZ, 12, .inl Kic)), (mwi, .inl (cI, 1920, .inl Kwi)), (mce, .inl (cI, 8, .inl Kce)), (mor, .inl (cI, 8, .inl Kor)), (mro, .inl (cI, 960, .inl Kro)), (mwa, .inl (cI, 8, .inl Kwa))] U.heap ∧ va_K (dC, dI) vwCl [(cI, .int), (cZ, .boolean)] U ∧ NW U ∧ va_D (fun _ => True) [(m0, .inr (7, [.int vfi, .ref mfi, .long vak, .int vhr, .ref mil, .ref mic, .ref mwi, .int vho, .int vga, .ref mmo, .int vns, .ref mki, .ref mce, .ref mgo, .ref mwa, .ref mha, .ref mch, .ref mfo, .ref mca, .ref mor, .ref mro, .ref mra, .ref mpr, .ref mho, .ref mis, .int vsg, .ref mss, .ref msc, .ref msh, .int vpr, .int vfa])), (mic, .inl (cZ, 12, .inl Kic)), (mwi, .inl (cI, 1920, .inl Kwi)), (mce, .inl (cI, 8, .inl Kce)), (mor, .inl (cI, 8, .inl Kor)), (mro, .inl (cI, 960, .inl Kro)), (mwa, .inl (cI, 8, .inl Kwa))])) (va_Qv (fun (u : (Nat → Int32)) => (∀ j : Nat, j ≠ a0.toNatClampNeg → u j = Kwa j) ∧ (Rg 8 0 7 u)) (fun u t => va_P (dC, dI) vwCl [(m0, .inr (7, [.int vfi, .ref mfi, .long vak, .int vhr, .ref mil, .ref mic, .ref mwi, .int vho, .int vga, .ref mmo, .int vns, .ref mki, .ref mce, .ref mgo, .ref mwa, .ref mha, .ref mch, .ref mfo, .ref mca, .ref mor, .ref mro, .ref mra, .ref mpr, .ref mho, .ref mis, .int vsg, .ref mss, .ref msc, .ref msh, .int vpr, .int vfa])), (mic, .inl (cZ, 12, .inl Kic)), (mwi, .inl (cI, 1920, .inl Kwi)), (mce, .inl (cI, 8, .inl Kce)), (mor, .inl (cI, 8, .inl Kor)), (mro, .inl (cI, 960, .inl Kro)), (mwa, .inl (cI, 8, .inl u))] t.heap ∧ va_K (dC, dI) vwCl [(cI, .int), (cZ, .boolean)] t ∧ va_D (va_A [(m0, .inr (7, [.int vfi, .ref mfi, .long vak, .int vhr, .ref mil, .ref mic, .ref mwi, .int vho, .int vga, .ref mmo, .int vns, .ref mki, .ref mce, .ref mgo, .ref mwa, .ref mha, .ref mch, .ref mfo, .ref mca, .ref mor, .ref mro, .ref mra, .ref mpr, .ref mho, .ref mis, .int vsg, .ref mss, .ref msc, .ref msh, .int vpr, .int vfa])), (mic, .inl (cZ, 12, .inl Kic)), (mwi, .inl (cI, 1920, .inl Kwi)), (mce, .inl (cI, 8, .inl Kce)), (mor, .inl (cI, 8, .inl Kor)), (mro, .inl (cI, 960, .inl Kro)), (mwa, .inl (cI, 8, .inl Kwa))] sz) [(m0, .inr (7, [.int vfi, .ref mfi, .long vak, .int vhr, .ref mil, .ref mic, .ref mwi, .int vho, .int vga, .ref mmo, .int vns, .ref mki, .ref mce, .ref mgo, .ref mwa, .ref mha, .ref mch, .ref mfo, .ref mca, .ref mor, .ref mro, .ref mra, .ref mpr, .ref mho, .ref mis, .int vsg, .ref mss, .ref msc, .ref msh, .int vpr, .int vfa])), (mic, .inl (cZ, 12, .inl Kic)), (mwi, .inl (cI, 1920, .inl Kwi)), (mce, .inl (cI, 8, .inl Kce)), (mor, .inl (cI, 8, .inl Kor)), (mro, .inl (cI, 960, .inl Kro)), (mwa, .inl (cI, 8, .inl u))]) (va_A [(m0, .inr (7, [.int vfi, .ref mfi, .long vak, .int vhr, .ref mil, .ref mic, .ref mwi, .int vho, .int vga, .ref mmo, .int vns, .ref mki, .ref mce, .ref mgo, .ref mwa, .ref mha, .ref mch, .ref mfo, .ref mca, .ref mor, .ref mro, .ref mra, .ref mpr, .ref mho, .ref mis, .int vsg, .ref mss, .ref msc, .ref msh, .int vpr, .int vfa])), (mic, .inl (cZ, 12, .inl Kic)), (mwi, .inl (cI, 1920, .inl Kwi)), (mce, .inl (cI, 8, .inl Kce)), (mor, .inl (cI, 8, .inl Kor)), (mro, .inl (cI, 960, .inl Kro)), (mwa, .inl (cI, 8, .inl Kwa))] sz)) 0 0 (va_A [(m0, .inr (7, [.int vfi, .ref mfi, .long vak, .int vhr, .ref mil, .ref mic, .ref mwi, .int vho, .int vga, .ref mmo, .int vns, .ref mki, .ref mce, .ref mgo, .ref mwa, .ref mha, .ref mch, .ref mfo, .ref mca, .ref mor, .ref mro, .ref mra, .ref mpr, .ref mho, .ref mis, .int vsg, .ref mss, .ref msc, .ref msh, .int vpr, .int vfa])), (mic, .inl (cZ, 12, .inl Kic)), (mwi, .inl (cI, 1920, .inl Kwi)), (mce, .inl (cI, 8, .inl Kce)), (mor, .inl (cI, 8, .inl Kor)), (mro, .inl (cI, 960, .inl Kro)), (mwa, .inl (cI, 8, .inl Kwa))] sz) := by
  refine Met.ofW (cc := cX6_ask) (maxL := 5) (ret := none) (by decide) rfl ?_
  intro p e s m args below meth c s₁ B hml hv
  obtain ⟨rfl, hsz, hP, hK, hN, hD0⟩ := hv
  have hx := B.exec
  have hb := B.bytes
  have hr := B.returns
  have hts := atoms_spec (ws := wsX6_ask) B.pre
  have hown : s.vm.findClass RX6 = some m.cls := findClass_of_methodNamed B.named
  have hlocks := B.notSynchronized
  subst hsz
  have hD := hD0.self (sz := s.heap.size)
  generalize hAe : va_A [(m0, .inr (7, [.int vfi, .ref mfi, .long vak, .int vhr, .ref mil, .ref mic, .ref mwi, .int vho, .int vga, .ref mmo, .int vns, .ref mki, .ref mce, .ref mgo, .ref mwa, .ref mha, .ref mch, .ref mfo, .ref mca, .ref mor, .ref mro, .ref mra, .ref mpr, .ref mho, .ref mis, .int vsg, .ref mss, .ref msc, .ref msh, .int vpr, .int vfa])), (mic, .inl (cZ, 12, .inl Kic)), (mwi, .inl (cI, 1920, .inl Kwi)), (mce, .inl (cI, 8, .inl Kce)), (mor, .inl (cI, 8, .inl Kor)), (mro, .inl (cI, 960, .inl Kro)), (mwa, .inl (cI, 8, .inl Kwa))] s.heap.size = A at hD ⊢
  have hA : ∀ q : Nat, s.heap.size ≤ q → A q := fun q h => by rw [← hAe]; exact Or.inr h
  have hS : va_S A s.heap s.heap [] := va_S.rf
  have hP : va_P (dC, dI) vwCl [(m0, .inr (7, [.int vfi, .ref mfi, .long vak, .int vhr, .ref mil, .ref mic, .ref mwi, .int vho, .int vga, .ref mmo, .int vns, .ref mki, .ref mce, .ref mgo, .ref mwa, .ref mha, .ref mch, .ref mfo, .ref mca, .ref mor, .ref mro, .ref mra, .ref mpr, .ref mho, .ref mis, .int vsg, .ref mss, .ref msc, .ref msh, .int vpr, .int vfa])), (mic, .inl (cZ, 12, .inl Kic)), (mwi, .inl (cI, 1920, .inl Kwi)), (mce, .inl (cI, 8, .inl Kce)), (mor, .inl (cI, 8, .inl Kor)), (mro, .inl (cI, 960, .inl Kro)), (mwa, .inl (cI, 8, .inl Kwa))] s.heap := hP
  have hl := lv_entry ([.ref m0, .int a0]) (n := 5) (Nat.le_of_ble_eq_true rfl)
  rw [lg_entry_eq]
  generalize (lg_sl ([.ref m0, .int a0]) ++ List.replicate (5 - (lg_sl ([.ref m0, .int a0])).length) Slot.unset).toArray = ls at hl ⊢
  have hl : lv_has ls 5 [(0, .ref m0), (1, .int a0)] := hl
  refine lv_aload_n hx hb dX6_ask_0 rfl (lv_at hl 0 rfl) ?_
  refine lv_aload_n hx hb dX6_ask_1 rfl (lv_at hl 0 rfl) ?_
  refine va_get (D := (dC, dI)) (ci := 7) (v := .ref mce) (C := RX6) (T := TX6) (N := 31) hx hb hts iw_X6_ask_X6 hown hK hP 0 rfl rfl 12 (by decide) (hts (.fieldLink RX6 29 "TeaRaceModel" "cells" "[I") (by decide +kernel)) (fun _ h9 => h9) rfl dX6_ask_2 ?_
  refine lv_iload_n hx hb dX6_ask_5 rfl (lv_at hl 1 rfl) ?_
  refine va_iald hx hb hK hP 3 0 rfl rfl (in_k rfl (by omega) (by omega)) dX6_ask_6 ?_
  refine lv_topi (fun x_1 ex_1 => ?_)
  have rx_1 := congrArg Int32.toInt ex_1
  have gx_1 : 0 ≤ x_1.toInt ∧ x_1.toInt ≤ 159 := Rg.at R_Kce rfl (by omega) (by omega) ex_1
  refine lv_aload_n hx hb dX6_ask_7 rfl (lv_at hl 0 rfl) ?_
  refine va_get (D := (dC, dI)) (ci := 7) (v := .int vhr) (C := RX6) (T := TX6) (N := 31) hx hb hts iw_X6_ask_X6 hown hK hP 0 rfl rfl 3 (by decide) (hts (.fieldLink RX6 113 "TeaRaceModel" "hour" "I") (by decide +kernel)) (fun _ h9 => h9) rfl dX6_ask_8 ?_
  have hPc := hP.sub (ws' := [(m0, .inr (7, [.int vfi, .ref mfi, .long vak, .int vhr, .ref mil, .ref mic, .ref mwi, .int vho, .int vga, .ref mmo, .int vns, .ref mki, .ref mce, .ref mgo, .ref mwa, .ref mha, .ref mch, .ref mfo, .ref mca, .ref mor, .ref mro, .ref mra, .ref mpr, .ref mho, .ref mis, .int vsg, .ref mss, .ref msc, .ref msh, .int vpr, .int vfa])), (mic, .inl (cZ, 12, .inl Kic)), (mwi, .inl (cI, 1920, .inl Kwi))]) [0, 1, 2] rfl
  have hKc := hK.sub (tys' := [(cI, .int), (cZ, .boolean)]) [0, 1] rfl
  refine va_calli (va_runV (As := [.int x_1, .int vhr]) (rest := []) ⟨hx, hb, hml, hown, hts⟩ (c_X6_windAt l dC dI s.heap.size m0 mfi mil mic mwi mmo mki mce mgo mwa mha mch mfo mca mor mro mra mpr mho mis mss msc msh vfi vhr vho vga vns vsg vpr vfa vak Kic Kwi cI cZ x_1 vhr ⟨(by omega), (by omega)⟩ ⟨(by omega), (by omega)⟩ R_Kwi) (cwV 2 hts gX6_ask_X6_windAt rfl rfl rfl (by decide +kernel) ⟨Nat.le_of_ble_eq_true rfl, Nat.le_of_ble_eq_true rfl⟩) ⟨fun a U g mk q => by obtain ⟨q0, q1, qP, qK, qN⟩ := q; exact ⟨q0, q1, qP, va_K.moved (u := U) (U := U.calling g mk a) (Vm.Alike.refl U.vm) qK, NW.same (u := U) (U := U.calling g mk a) rfl qN⟩, va_recv hKc hPc (ci := 7) (q0 := 0) rfl rfl, fun U hU hW => ⟨rfl, by rw [hU], by rw [hU]; exact hPc, va_K.moved hW.alike hKc, NW.warm hW hN⟩⟩ rfl rfl hl.1 rfl (lv_room (Nat.le_of_ble_eq_true rfl)) dX6_ask_11 ⟨(Nat.zero_le _), (Nat.zero_le _)⟩) hS (fun q _ h => ro_A hS hA q h) (ro_A hS hA) (fun r_2 u t H1 locs ht hvm k_3 hB hz1 hk1 hS => ?_)
  have hP := ro_P hk1 hP
  generalize H1 = H at hP hS ⊢
  try dsimp only at k_3
  have k_4 := k_3
  refine lv_bipush (v := 10) hx hb dX6_ask_14 (by decide) ?_
  refine lv_irem hx hb dX6_ask_16 (by decide) ?_
  refine lv_topi (fun x_5 ex_5 => ?_)
  have tx_5 : x_5.toInt = r_2.toInt % 10 := rm_k ex_5 rfl (by decide) (by omega) (by omega)
  refine lv_istore_n (lv' := [(2, .int x_5), (0, .ref m0), (1, .int a0)]) hx hb dX6_ask_17 rfl hl (by decide) rfl (fun ls hl => ?_)
  refine lv_iconst (v := 0) hx hb dX6_ask_18 (by decide) ?_
  refine lv_istore_n (lv' := [(3, .int 0), (2, .int x_5), (0, .ref m0), (1, .int a0)]) hx hb dX6_ask_19 rfl hl (by decide) rfl (fun ls hl => ?_)
  have key20 : ∀ (n20 : Nat) (ik : Int32) (H : Heap) (locs : List Loc) (ls : Array Slot), (0 ≤ ik.toInt ∧ ik.toInt ≤ 20) → 20 - ik.toInt < (n20 : Int) → va_P (dC, dI) vwCl [(m0, .inr (7, [.int vfi, .ref mfi, .long vak, .int vhr, .ref mil, .ref mic, .ref mwi, .int vho, .int vga, .ref mmo, .int vns, .ref mki, .ref mce, .ref mgo, .ref mwa, .ref mha, .ref mch, .ref mfo, .ref mca, .ref mor, .ref mro, .ref mra, .ref mpr, .ref mho, .ref mis, .int vsg, .ref mss, .ref msc, .ref msh, .int vpr, .int vfa])), (mic, .inl (cZ, 12, .inl Kic)), (mwi, .inl (cI, 1920, .inl Kwi)), (mce, .inl (cI, 8, .inl Kce)), (mor, .inl (cI, 8, .inl Kor)), (mro, .inl (cI, 960, .inl Kro)), (mwa, .inl (cI, 8, .inl Kwa))] H → va_D A [(m0, .inr (7, [.int vfi, .ref mfi, .long vak, .int vhr, .ref mil, .ref mic, .ref mwi, .int vho, .int vga, .ref mmo, .int vns, .ref mki, .ref mce, .ref mgo, .ref mwa, .ref mha, .ref mch, .ref mfo, .ref mca, .ref mor, .ref mro, .ref mra, .ref mpr, .ref mho, .ref mis, .int vsg, .ref mss, .ref msc, .ref msh, .int vpr, .int vfa])), (mic, .inl (cZ, 12, .inl Kic)), (mwi, .inl (cI, 1920, .inl Kwi)), (mce, .inl (cI, 8, .inl Kce)), (mor, .inl (cI, 8, .inl Kor)), (mro, .inl (cI, 960, .inl Kro)), (mwa, .inl (cI, 8, .inl Kwa))] → va_S A s.heap H locs → lv_has ls 5 [(3, .int ik), (2, .int x_5), (0, .ref m0), (1, .int a0)] → W p l e ({ frames := 2, cells := 0, slots := 0, locals := 46 } : Room) s m ([.ref m0, .int a0] : List Value).toArray below meth c H locs 0 0 (MQ below (va_Qv (fun (u : (Nat → Int32)) => (∀ j : Nat, j ≠ a0.toNatClampNeg → u j = Kwa j) ∧ (Rg 8 0 7 u)) (fun u t => va_P (dC, dI) vwCl [(m0, .inr (7, [.int vfi, .ref mfi, .long vak, .int vhr, .ref mil, .ref mic, .ref mwi, .int vho, .int vga, .ref mmo, .int vns, .ref mki, .ref mce, .ref mgo, .ref mwa, .ref mha, .ref mch, .ref mfo, .ref mca, .ref mor, .ref mro, .ref mra, .ref mpr, .ref mho, .ref mis, .int vsg, .ref mss, .ref msc, .ref msh, .int vpr, .int vfa])), (mic, .inl (cZ, 12, .inl Kic)), (mwi, .inl (cI, 1920, .inl Kwi)), (mce, .inl (cI, 8, .inl Kce)), (mor, .inl (cI, 8, .inl Kor)), (mro, .inl (cI, 960, .inl Kro)), (mwa, .inl (cI, 8, .inl u))] t.heap ∧ va_K (dC, dI) vwCl [(cI, .int), (cZ, .boolean)] t ∧ va_D A [(m0, .inr (7, [.int vfi, .ref mfi, .long vak, .int vhr, .ref mil, .ref mic, .ref mwi, .int vho, .int vga, .ref mmo, .int vns, .ref mki, .ref mce, .ref mgo, .ref mwa, .ref mha, .ref mch, .ref mfo, .ref mca, .ref mor, .ref mro, .ref mra, .ref mpr, .ref mho, .ref mis, .int vsg, .ref mss, .ref msc, .ref msh, .int vpr, .int vfa])), (mic, .inl (cZ, 12, .inl Kic)), (mwi, .inl (cI, 1920, .inl Kwi)), (mce, .inl (cI, 8, .inl Kce)), (mor, .inl (cI, 8, .inl Kor)), (mro, .inl (cI, 960, .inl Kro)), (mwa, .inl (cI, 8, .inl u))]) A) ([.ref m0, .int a0] : List Value).toArray s 0 0 A) (F0 m 20 ls []) := by
    intro n20
    induction n20 with
    | zero =>
      intro ik H locs ls i_ik hm20
      exact absurd hm20 (by omega)
    | succ n20 ih20 =>
      intro ik H locs ls i_ik hm20 hP hD hS hl
      refine lv_iload_n hx hb dX6_ask_20 rfl (lv_at hl 0 rfl) ?_
      refine lv_aload_n hx hb dX6_ask_21 rfl (lv_at hl 2 rfl) ?_
      refine va_get (D := (dC, dI)) (ci := 7) (v := .ref mor) (C := RX6) (T := TX6) (N := 31) hx hb hts iw_X6_ask_X6 hown hK hP 0 rfl rfl 19 (by decide) (hts (.fieldLink RX6 50 "TeaRaceModel" "orders" "[I") (by decide +kernel)) (fun _ h9 => h9) rfl dX6_ask_22 ?_
      refine lv_iload_n hx hb dX6_ask_25 rfl (lv_at hl 3 rfl) ?_
      refine va_iald hx hb hK hP 4 0 rfl rfl (in_k rfl (by omega) (by omega)) dX6_ask_26 ?_
      refine lv_topi (fun x_6 ex_6 => ?_)
      have rx_6 := congrArg Int32.toInt ex_6
      have gx_6 : 0 ≤ x_6.toInt ∧ x_6.toInt ≤ 20 := Rg.at R_Kor rfl (by omega) (by omega) ex_6
      refine lv_icmp_ge (tgt := 140) hx hb dX6_ask_27 (by decide) (fun c_7 => ?_) (fun c_7 => ?_)
      · skip
        have qc_7 : x_6.toInt ≤ ik.toInt := le_k rfl rfl c_7
        have hP9 := hP.sub (ws' := [(m0, .inr (7, [.int vfi, .ref mfi, .long vak, .int vhr, .ref mil, .ref mic, .ref mwi, .int vho, .int vga, .ref mmo, .int vns, .ref mki, .ref mce, .ref mgo, .ref mwa, .ref mha, .ref mch, .ref mfo, .ref mca, .ref mor, .ref mro, .ref mra, .ref mpr, .ref mho, .ref mis, .int vsg, .ref mss, .ref msc, .ref msh, .int vpr, .int vfa])), (mic, .inl (cZ, 12, .inl Kic)), (mwi, .inl (cI, 1920, .inl Kwi)), (mce, .inl (cI, 8, .inl Kce)), (mor, .inl (cI, 8, .inl Kor)), (mro, .inl (cI, 960, .inl Kro)), (mwa, .inl (cI, 8, .inl Kwa))]) [0, 1, 2, 3, 4, 5, 6] rfl
        have hD9 := hD.sub (ws' := [(m0, .inr (7, [.int vfi, .ref mfi, .long vak, .int vhr, .ref mil, .ref mic, .ref mwi, .int vho, .int vga, .ref mmo, .int vns, .ref mki, .ref mce, .ref mgo, .ref mwa, .ref mha, .ref mch, .ref mfo, .ref mca, .ref mor, .ref mro, .ref mra, .ref mpr, .ref mho, .ref mis, .int vsg, .ref mss, .ref msc, .ref msh, .int vpr, .int vfa])), (mic, .inl (cZ, 12, .inl Kic)), (mwi, .inl (cI, 1920, .inl Kwi)), (mce, .inl (cI, 8, .inl Kce)), (mor, .inl (cI, 8, .inl Kor)), (mro, .inl (cI, 960, .inl Kro)), (mwa, .inl (cI, 8, .inl Kwa))]) [0, 1, 2, 3, 4, 5, 6] (by decide) rfl
        have hK9 := hK.sub (tys' := [(cI, .int), (cZ, .boolean)]) [0, 1] rfl
        exact W.vret hx hb hr (fun t ht hW => ⟨⟨Kwa, rfl, ⟨(fun j _ => rfl), (show Rg 8 0 7 Kwa from R_Kwa)⟩, ⟨by rw [ht]; exact hP9, va_K.moved hW.alike hK9, hD9⟩⟩, hS.F ht⟩) hS.2.2 dX6_ask_140
      · skip
        have qc_7 : ik.toInt < x_6.toInt := nle_k rfl rfl c_7
        refine lv_bipush (v := 120) hx hb dX6_ask_30 (by decide) ?_
        refine lv_iload_n hx hb dX6_ask_32 rfl (lv_at hl 3 rfl) ?_
        refine lv_imul hx hb dX6_ask_33 ?_
        refine lv_topi (fun x_8 ex_8 => ?_)
        have tx_8 : x_8.toInt = 120 * a0.toInt := mu_k ex_8 (by decide) rfl (by omega) (by omega)
        refine lv_bipush (v := 6) hx hb dX6_ask_34 (by decide) ?_
        refine lv_iload_n hx hb dX6_ask_36 rfl (lv_at hl 0 rfl) ?_
        refine lv_imul hx hb dX6_ask_37 ?_
        refine lv_topi (fun x_9 ex_9 => ?_)
        have tx_9 : x_9.toInt = 6 * ik.toInt := mu_k ex_9 (by decide) rfl (by omega) (by omega)
        refine lv_iadd hx hb dX6_ask_38 ?_
        refine lv_topi (fun x_10 ex_10 => ?_)
        have tx_10 : x_10.toInt = x_8.toInt + x_9.toInt := ad_k ex_10 rfl rfl (by omega) (by omega)
        refine lv_istore (lv' := [(4, .int x_10), (3, .int ik), (2, .int x_5), (0, .ref m0), (1, .int a0)]) hx hb dX6_ask_39 hl (by decide) rfl (fun ls hl => ?_)
        refine lv_aload_n hx hb dX6_ask_41 rfl (lv_at hl 3 rfl) ?_
        refine va_get (D := (dC, dI)) (ci := 7) (v := .ref mce) (C := RX6) (T := TX6) (N := 31) hx hb hts iw_X6_ask_X6 hown hK hP 0 rfl rfl 12 (by decide) (hts (.fieldLink RX6 29 "TeaRaceModel" "cells" "[I") (by decide +kernel)) (fun _ h9 => h9) rfl dX6_ask_42 ?_
        refine lv_iload_n hx hb dX6_ask_45 rfl (lv_at hl 4 rfl) ?_
        refine va_iald hx hb hK hP 3 0 rfl rfl (in_k rfl (by omega) (by omega)) dX6_ask_46 ?_
        refine lv_topi (fun x_11 ex_11 => ?_)
        have rx_11 := congrArg Int32.toInt ex_11
        obtain rfl : x_1 = x_11 := ex_1.trans ex_11.symm
        refine lv_bipush (v := 16) hx hb dX6_ask_47 (by decide) ?_
        refine lv_irem hx hb dX6_ask_49 (by decide) ?_
        refine lv_topi (fun x_12 ex_12 => ?_)
        have tx_12 : x_12.toInt = x_1.toInt % 16 := rm_k ex_12 rfl (by decide) (by omega) (by omega)
        refine lv_aload_n hx hb dX6_ask_50 rfl (lv_at hl 3 rfl) ?_
        refine va_get (D := (dC, dI)) (ci := 7) (v := .ref mro) (C := RX6) (T := TX6) (N := 31) hx hb hts iw_X6_ask_X6 hown hK hP 0 rfl rfl 20 (by decide) (hts (.fieldLink RX6 53 "TeaRaceModel" "orderRows" "[I") (by decide +kernel)) (fun _ h9 => h9) rfl dX6_ask_51 ?_
        refine lv_iload hx hb dX6_ask_54 (lv_at hl 0 rfl) ?_
        refine va_iald hx hb hK hP 5 0 rfl rfl (in_k rfl (by omega) (by omega)) dX6_ask_56 ?_
        refine lv_topi (fun x_13 ex_13 => ?_)
        have rx_13 := congrArg Int32.toInt ex_13
        have gx_13 : 0 ≤ x_13.toInt ∧ x_13.toInt ≤ 15 := Rg.at R_Kro rfl (by omega) (by omega) ex_13
        refine lv_aload_n hx hb dX6_ask_57 rfl (lv_at hl 3 rfl) ?_
        refine va_get (D := (dC, dI)) (ci := 7) (v := .ref mro) (C := RX6) (T := TX6) (N := 31) hx hb hts iw_X6_ask_X6 hown hK hP 0 rfl rfl 20 (by decide) (hts (.fieldLink RX6 53 "TeaRaceModel" "orderRows" "[I") (by decide +kernel)) (fun _ h9 => h9) rfl dX6_ask_58 ?_
        refine lv_iload hx hb dX6_ask_61 (lv_at hl 0 rfl) ?_
        refine lv_iconst (v := 1) hx hb dX6_ask_63 (by decide) ?_
        refine lv_iadd hx hb dX6_ask_64 ?_
        refine lv_topi (fun x_14 ex_14 => ?_)
        have tx_14 : x_14.toInt = x_10.toInt + 1 := ad_k ex_14 rfl (by decide) (by omega) (by omega)
        refine va_iald hx hb hK hP 5 0 rfl rfl (in_k rfl (by omega) (by omega)) dX6_ask_65 ?_
        refine lv_topi (fun x_15 ex_15 => ?_)
        have rx_15 := congrArg Int32.toInt ex_15
        have gx_15 : 0 ≤ x_15.toInt ∧ x_15.toInt ≤ 15 := Rg.at R_Kro rfl (by omega) (by omega) ex_15
        refine va_calli (va_runS (As := [.int x_12, .int x_13, .int x_15]) (rest := []) ⟨hx, hb, hml, hown, hts⟩ (c_X6_in l H.size x_12 x_13 x_15 ) (va_cwS 3 hts gX6_ask_X6_in rfl rfl rfl (by decide +kernel) ⟨Nat.le_of_ble_eq_true rfl, Nat.le_of_ble_eq_true rfl⟩) ⟨fun a U g mk q => by obtain ⟨q0, q1⟩ := q; exact ⟨q0, q1⟩, fun U hU hW => ⟨rfl, congrArg Array.size hU⟩⟩ rfl rfl hl.1 rfl (lv_room (Nat.le_of_ble_eq_true rfl)) dX6_ask_66 ⟨(Nat.zero_le _), (Nat.zero_le _)⟩) hS (fun q _ h => ro_A hS hA q h) (ro_A hS hA) (fun r_16 u t H1 locs ht hvm k_17 hB hz1 hk1 hS => ?_)
        have hP := ro_P hk1 hP
        generalize H1 = H at hP hS ⊢
        try dsimp only at k_17
        obtain ⟨k_17, k_18⟩ := k_17
        refine lv_if_eq (tgt := 134) hx hb dX6_ask_69 (by decide) (fun c_19 => ?_) (fun c_19 => ?_)
        · skip
          have b_20 := b01z k_17 c_19
          (try simp only [Int32.lt_iff_toInt_lt, Int32.le_iff_toInt_le, ← Int32.toInt_inj, Int32.reduceToInt, zl1, zl2, zl3, zl4, zl9] at b_20)
          (try simp only [Int32.reduceToInt] at b_20)
          obtain ⟨x_21, ex_21⟩ : ∃ y : Int32, y = ik + 1 := ⟨_, rfl⟩
          have tx_21 : x_21.toInt = ik.toInt + 1 := ad_k ex_21 rfl (by decide) (by omega) (by omega)
          refine lv_iinc (v := x_21) (lv' := [(3, .int x_21), (4, .int x_10), (2, .int x_5), (0, .ref m0), (1, .int a0)]) hx hb dX6_ask_134 hl (k := 1) rfl (by rw [ex_21]; rfl) (by decide) rfl (fun ls hl => ?_)
          refine lv_goto (tgt := 20) hx hb dX6_ask_137 (by decide) ?_
          exact ih20 x_21  H locs ls ⟨(by first | omega | (simp only [Int32.reduceToInt]; omega)), (by first | omega | (simp only [Int32.reduceToInt]; omega))⟩ (by first | omega | (simp only [Int32.reduceToInt]; omega)) hP hD hS (lv_sub hl [0, 2, 3, 4] rfl)
        · skip
          have b_22 := b01n k_17 c_19
          (try simp only [Int32.lt_iff_toInt_lt, Int32.le_iff_toInt_le, ← Int32.toInt_inj, Int32.reduceToInt, zl1, zl2, zl3, zl4, zl9] at b_22)
          (try simp only [Int32.reduceToInt] at b_22)
          refine lv_aload_n hx hb dX6_ask_72 rfl (lv_at hl 3 rfl) ?_
          refine va_get (D := (dC, dI)) (ci := 7) (v := .ref mce) (C := RX6) (T := TX6) (N := 31) hx hb hts iw_X6_ask_X6 hown hK hP 0 rfl rfl 12 (by decide) (hts (.fieldLink RX6 29 "TeaRaceModel" "cells" "[I") (by decide +kernel)) (fun _ h9 => h9) rfl dX6_ask_73 ?_
          refine lv_iload_n hx hb dX6_ask_76 rfl (lv_at hl 4 rfl) ?_
          refine va_iald hx hb hK hP 3 0 rfl rfl (in_k rfl (by omega) (by omega)) dX6_ask_77 ?_
          refine lv_topi (fun x_23 ex_23 => ?_)
          have rx_23 := congrArg Int32.toInt ex_23
          obtain rfl : x_1 = x_23 := ex_1.trans ex_23.symm
          refine lv_bipush (v := 16) hx hb dX6_ask_78 (by decide) ?_
          refine lv_idiv hx hb dX6_ask_80 (by decide) ?_
          refine lv_topi (fun x_24 ex_24 => ?_)
          have tx_24 : x_24.toInt = x_1.toInt / 16 := dv_k ex_24 rfl (by decide) (by omega) (by omega)
          refine lv_aload_n hx hb dX6_ask_81 rfl (lv_at hl 3 rfl) ?_
          refine va_get (D := (dC, dI)) (ci := 7) (v := .ref mro) (C := RX6) (T := TX6) (N := 31) hx hb hts iw_X6_ask_X6 hown hK hP 0 rfl rfl 20 (by decide) (hts (.fieldLink RX6 53 "TeaRaceModel" "orderRows" "[I") (by decide +kernel)) (fun _ h9 => h9) rfl dX6_ask_82 ?_
          refine lv_iload hx hb dX6_ask_85 (lv_at hl 0 rfl) ?_
          refine lv_iconst (v := 2) hx hb dX6_ask_87 (by decide) ?_
          refine lv_iadd hx hb dX6_ask_88 ?_
          refine lv_topi (fun x_25 ex_25 => ?_)
          have tx_25 : x_25.toInt = x_10.toInt + 2 := ad_k ex_25 rfl (by decide) (by omega) (by omega)
          refine va_iald hx hb hK hP 5 0 rfl rfl (in_k rfl (by omega) (by omega)) dX6_ask_89 ?_
          refine lv_topi (fun x_26 ex_26 => ?_)
          have rx_26 := congrArg Int32.toInt ex_26
          have gx_26 : 0 ≤ x_26.toInt ∧ x_26.toInt ≤ 15 := Rg.at R_Kro rfl (by omega) (by omega) ex_26
          refine lv_aload_n hx hb dX6_ask_90 rfl (lv_at hl 3 rfl) ?_
          refine va_get (D := (dC, dI)) (ci := 7) (v := .ref mro) (C := RX6) (T := TX6) (N := 31) hx hb hts iw_X6_ask_X6 hown hK hP 0 rfl rfl 20 (by decide) (hts (.fieldLink RX6 53 "TeaRaceModel" "orderRows" "[I") (by decide +kernel)) (fun _ h9 => h9) rfl dX6_ask_91 ?_
          refine lv_iload hx hb dX6_ask_94 (lv_at hl 0 rfl) ?_
          refine lv_iconst (v := 3) hx hb dX6_ask_96 (by decide) ?_
          refine lv_iadd hx hb dX6_ask_97 ?_
          refine lv_topi (fun x_27 ex_27 => ?_)
          have tx_27 : x_27.toInt = x_10.toInt + 3 := ad_k ex_27 rfl (by decide) (by omega) (by omega)
          refine va_iald hx hb hK hP 5 0 rfl rfl (in_k rfl (by omega) (by omega)) dX6_ask_98 ?_
          refine lv_topi (fun x_28 ex_28 => ?_)
          have rx_28 := congrArg Int32.toInt ex_28
          have gx_28 : 0 ≤ x_28.toInt ∧ x_28.toInt ≤ 15 := Rg.at R_Kro rfl (by omega) (by omega) ex_28
          refine va_calli (va_runS (As := [.int x_24, .int x_26, .int x_28]) (rest := []) ⟨hx, hb, hml, hown, hts⟩ (c_X6_in l H.size x_24 x_26 x_28 ) (va_cwS 3 hts gX6_ask_X6_in rfl rfl rfl (by decide +kernel) ⟨Nat.le_of_ble_eq_true rfl, Nat.le_of_ble_eq_true rfl⟩) ⟨fun a U g mk q => by obtain ⟨q0, q1⟩ := q; exact ⟨q0, q1⟩, fun U hU hW => ⟨rfl, congrArg Array.size hU⟩⟩ rfl rfl hl.1 rfl (lv_room (Nat.le_of_ble_eq_true rfl)) dX6_ask_99 ⟨(Nat.zero_le _), (Nat.zero_le _)⟩) hS (fun q _ h => ro_A hS hA q h) (ro_A hS hA) (fun r_29 u t H1 locs ht hvm k_30 hB hz1 hk1 hS => ?_)
          have hP := ro_P hk1 hP
          generalize H1 = H at hP hS ⊢
          try dsimp only at k_30
          obtain ⟨k_30, k_31⟩ := k_30
          refine lv_if_eq (tgt := 134) hx hb dX6_ask_102 (by decide) (fun c_32 => ?_) (fun c_32 => ?_)
          · skip
            have b_33 := b01z k_30 c_32
            (try simp only [Int32.lt_iff_toInt_lt, Int32.le_iff_toInt_le, ← Int32.toInt_inj, Int32.reduceToInt, zl1, zl2, zl3, zl4, zl9] at b_33)
            (try simp only [Int32.reduceToInt] at b_33)
            obtain ⟨x_34, ex_34⟩ : ∃ y : Int32, y = ik + 1 := ⟨_, rfl⟩
            have tx_34 : x_34.toInt = ik.toInt + 1 := ad_k ex_34 rfl (by decide) (by omega) (by omega)
            refine lv_iinc (v := x_34) (lv' := [(3, .int x_34), (4, .int x_10), (2, .int x_5), (0, .ref m0), (1, .int a0)]) hx hb dX6_ask_134 hl (k := 1) rfl (by rw [ex_34]; rfl) (by decide) rfl (fun ls hl => ?_)
            refine lv_goto (tgt := 20) hx hb dX6_ask_137 (by decide) ?_
            exact ih20 x_34  H locs ls ⟨(by first | omega | (simp only [Int32.reduceToInt]; omega)), (by first | omega | (simp only [Int32.reduceToInt]; omega))⟩ (by first | omega | (simp only [Int32.reduceToInt]; omega)) hP hD hS (lv_sub hl [0, 2, 3, 4] rfl)
          · skip
            have b_35 := b01n k_30 c_32
            (try simp only [Int32.lt_iff_toInt_lt, Int32.le_iff_toInt_le, ← Int32.toInt_inj, Int32.reduceToInt, zl1, zl2, zl3, zl4, zl9] at b_35)
            (try simp only [Int32.reduceToInt] at b_35)
            refine lv_iload_n hx hb dX6_ask_105 rfl (lv_at hl 2 rfl) ?_
            refine lv_aload_n hx hb dX6_ask_106 rfl (lv_at hl 3 rfl) ?_
            refine va_get (D := (dC, dI)) (ci := 7) (v := .ref mro) (C := RX6) (T := TX6) (N := 31) hx hb hts iw_X6_ask_X6 hown hK hP 0 rfl rfl 20 (by decide) (hts (.fieldLink RX6 53 "TeaRaceModel" "orderRows" "[I") (by decide +kernel)) (fun _ h9 => h9) rfl dX6_ask_107 ?_
            refine lv_iload hx hb dX6_ask_110 (lv_at hl 0 rfl) ?_
            refine lv_iconst (v := 4) hx hb dX6_ask_112 (by decide) ?_
            refine lv_iadd hx hb dX6_ask_113 ?_
            refine lv_topi (fun x_36 ex_36 => ?_)
            have tx_36 : x_36.toInt = x_10.toInt + 4 := ad_k ex_36 rfl (by decide) (by omega) (by omega)
            refine va_iald hx hb hK hP 5 0 rfl rfl (in_k rfl (by omega) (by omega)) dX6_ask_114 ?_
            refine lv_topi (fun x_37 ex_37 => ?_)
            have rx_37 := congrArg Int32.toInt ex_37
            have gx_37 : 0 ≤ x_37.toInt ∧ x_37.toInt ≤ 15 := Rg.at R_Kro rfl (by omega) (by omega) ex_37
            refine lv_icmp_lt (tgt := 134) hx hb dX6_ask_115 (by decide) (fun c_38 => ?_) (fun c_38 => ?_)
            · skip
              have qc_38 : x_5.toInt < x_37.toInt := lt_k rfl rfl c_38
              obtain ⟨x_39, ex_39⟩ : ∃ y : Int32, y = ik + 1 := ⟨_, rfl⟩
              have tx_39 : x_39.toInt = ik.toInt + 1 := ad_k ex_39 rfl (by decide) (by omega) (by omega)
              refine lv_iinc (v := x_39) (lv' := [(3, .int x_39), (4, .int x_10), (2, .int x_5), (0, .ref m0), (1, .int a0)]) hx hb dX6_ask_134 hl (k := 1) rfl (by rw [ex_39]; rfl) (by decide) rfl (fun ls hl => ?_)
              refine lv_goto (tgt := 20) hx hb dX6_ask_137 (by decide) ?_
              exact ih20 x_39  H locs ls ⟨(by first | omega | (simp only [Int32.reduceToInt]; omega)), (by first | omega | (simp only [Int32.reduceToInt]; omega))⟩ (by first | omega | (simp only [Int32.reduceToInt]; omega)) hP hD hS (lv_sub hl [0, 2, 3, 4] rfl)
            · skip
              have qc_38 : x_37.toInt ≤ x_5.toInt := nlt_k rfl rfl c_38
              refine lv_aload_n hx hb dX6_ask_118 rfl (lv_at hl 3 rfl) ?_
              refine va_get (D := (dC, dI)) (ci := 7) (v := .ref mwa) (C := RX6) (T := TX6) (N := 31) hx hb hts iw_X6_ask_X6 hown hK hP 0 rfl rfl 14 (by decide) (hts (.fieldLink RX6 35 "TeaRaceModel" "ways" "[I") (by decide +kernel)) (fun _ h9 => h9) rfl dX6_ask_119 ?_
              refine lv_iload_n hx hb dX6_ask_122 rfl (lv_at hl 4 rfl) ?_
              refine lv_aload_n hx hb dX6_ask_123 rfl (lv_at hl 3 rfl) ?_
              refine va_get (D := (dC, dI)) (ci := 7) (v := .ref mro) (C := RX6) (T := TX6) (N := 31) hx hb hts iw_X6_ask_X6 hown hK hP 0 rfl rfl 20 (by decide) (hts (.fieldLink RX6 53 "TeaRaceModel" "orderRows" "[I") (by decide +kernel)) (fun _ h9 => h9) rfl dX6_ask_124 ?_
              refine lv_iload hx hb dX6_ask_127 (lv_at hl 0 rfl) ?_
              refine lv_iconst (v := 5) hx hb dX6_ask_129 (by decide) ?_
              refine lv_iadd hx hb dX6_ask_130 ?_
              refine lv_topi (fun x_40 ex_40 => ?_)
              have tx_40 : x_40.toInt = x_10.toInt + 5 := ad_k ex_40 rfl (by decide) (by omega) (by omega)
              refine va_iald hx hb hK hP 5 0 rfl rfl (in_k rfl (by omega) (by omega)) dX6_ask_131 ?_
              refine lv_topi (fun x_41 ex_41 => ?_)
              have rx_41 := congrArg Int32.toInt ex_41
              have gx_41 : 0 ≤ x_41.toInt ∧ x_41.toInt ≤ 15 := Rg.at R_Kro rfl (by omega) (by omega) ex_41
              have wx_41 : 0 ≤ x_41.toInt ∧ x_41.toInt ≤ 7 := by rw [ex_41]; exact Wro _ (by have := tn_k (i := x_40) rfl (by omega); omega) (by have := tn_k (i := x_40) rfl (by omega); omega)
              refine va_iast hx hb hK hP hD hS 6 0 rfl rfl (in_k rfl (by omega) (by omega)) dX6_ask_132 (fun H locs hP hD hS => ?_)
              have hP : va_P (dC, dI) vwCl [(m0, .inr (7, [.int vfi, .ref mfi, .long vak, .int vhr, .ref mil, .ref mic, .ref mwi, .int vho, .int vga, .ref mmo, .int vns, .ref mki, .ref mce, .ref mgo, .ref mwa, .ref mha, .ref mch, .ref mfo, .ref mca, .ref mor, .ref mro, .ref mra, .ref mpr, .ref mho, .ref mis, .int vsg, .ref mss, .ref msc, .ref msh, .int vpr, .int vfa])), (mic, .inl (cZ, 12, .inl Kic)), (mwi, .inl (cI, 1920, .inl Kwi)), (mce, .inl (cI, 8, .inl Kce)), (mor, .inl (cI, 8, .inl Kor)), (mro, .inl (cI, 960, .inl Kro)), (mwa, .inl (cI, 8, .inl (upd Kwa a0.toNatClampNeg x_41)))] H := hP
              have hD : va_D A [(m0, .inr (7, [.int vfi, .ref mfi, .long vak, .int vhr, .ref mil, .ref mic, .ref mwi, .int vho, .int vga, .ref mmo, .int vns, .ref mki, .ref mce, .ref mgo, .ref mwa, .ref mha, .ref mch, .ref mfo, .ref mca, .ref mor, .ref mro, .ref mra, .ref mpr, .ref mho, .ref mis, .int vsg, .ref mss, .ref msc, .ref msh, .int vpr, .int vfa])), (mic, .inl (cZ, 12, .inl Kic)), (mwi, .inl (cI, 1920, .inl Kwi)), (mce, .inl (cI, 8, .inl Kce)), (mor, .inl (cI, 8, .inl Kor)), (mro, .inl (cI, 960, .inl Kro)), (mwa, .inl (cI, 8, .inl (upd Kwa a0.toNatClampNeg x_41)))] := hD
              have zs_42 : (upd Kwa a0.toNatClampNeg x_41 a0.toNatClampNeg).toInt = x_41.toInt := congrArg Int32.toInt (upd_at (Kwa) a0.toNatClampNeg x_41)
              have R_43 : Rg 8 0 7 (upd Kwa a0.toNatClampNeg x_41) := Rg.st R_Kwa rfl (by omega) (by omega)
              have hP9 := hP.sub (ws' := [(m0, .inr (7, [.int vfi, .ref mfi, .long vak, .int vhr, .ref mil, .ref mic, .ref mwi, .int vho, .int vga, .ref mmo, .int vns, .ref mki, .ref mce, .ref mgo, .ref mwa, .ref mha, .ref mch, .ref mfo, .ref mca, .ref mor, .ref mro, .ref mra, .ref mpr, .ref mho, .ref mis, .int vsg, .ref mss, .ref msc, .ref msh, .int vpr, .int vfa])), (mic, .inl (cZ, 12, .inl Kic)), (mwi, .inl (cI, 1920, .inl Kwi)), (mce, .inl (cI, 8, .inl Kce)), (mor, .inl (cI, 8, .inl Kor)), (mro, .inl (cI, 960, .inl Kro)), (mwa, .inl (cI, 8, .inl (upd Kwa a0.toNatClampNeg x_41)))]) [0, 1, 2, 3, 4, 5, 6] rfl
              have hD9 := hD.sub (ws' := [(m0, .inr (7, [.int vfi, .ref mfi, .long vak, .int vhr, .ref mil, .ref mic, .ref mwi, .int vho, .int vga, .ref mmo, .int vns, .ref mki, .ref mce, .ref mgo, .ref mwa, .ref mha, .ref mch, .ref mfo, .ref mca, .ref mor, .ref mro, .ref mra, .ref mpr, .ref mho, .ref mis, .int vsg, .ref mss, .ref msc, .ref msh, .int vpr, .int vfa])), (mic, .inl (cZ, 12, .inl Kic)), (mwi, .inl (cI, 1920, .inl Kwi)), (mce, .inl (cI, 8, .inl Kce)), (mor, .inl (cI, 8, .inl Kor)), (mro, .inl (cI, 960, .inl Kro)), (mwa, .inl (cI, 8, .inl (upd Kwa a0.toNatClampNeg x_41)))]) [0, 1, 2, 3, 4, 5, 6] (by decide) rfl
              have hK9 := hK.sub (tys' := [(cI, .int), (cZ, .boolean)]) [0, 1] rfl
              exact W.vret hx hb hr (fun t ht hW => ⟨⟨(upd Kwa a0.toNatClampNeg x_41), rfl, ⟨(fun j hj => upd_off _ _ hj), (show Rg 8 0 7 (upd Kwa a0.toNatClampNeg x_41) from R_43)⟩, ⟨by rw [ht]; exact hP9, va_K.moved hW.alike hK9, hD9⟩⟩, hS.F ht⟩) hS.2.2 dX6_ask_133
  exact key20 21 0  _ _ ls (by decide) (by (try simp only [Int32.reduceToInt]); omega) hP hD hS hl
