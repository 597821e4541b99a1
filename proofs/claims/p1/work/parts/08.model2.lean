set_option maxRecDepth 20000 in
theorem iw_X6_land_X6 : ∀ w ∈ wsX60, w ∈ wsX6_land := by decide +kernel
set_option maxHeartbeats 4000000 in
set_option maxRecDepth 100000 in
/-- the reference's land, fresh -/
theorem c_X6_land (l : Launch) (dC : Nat → ClassId) (dI : Nat → Nat → Nat) (sz : Nat) (m0 : Nat) (mfi : Nat) (mil : Nat) (mic : Nat) (mwi : Nat) (mmo : Nat) (mki : Nat) (mce : Nat) (mgo : Nat) (mwa : Nat) (mha : Nat) (mch : Nat) (mfo : Nat) (mca : Nat) (mor : Nat) (mro : Nat) (mra : Nat) (mpr : Nat) (mho : Nat) (mis : Nat) (mss : Nat) (msc : Nat) (msh : Nat) (cZ : ClassId) (a0 : Int32) (a1 : Int32)  : Met l yX6_land wsX6_land ({ frames := 2, cells := 0, slots := 0, locals := 42 }) (va_Pc [.ref m0, .int a0, .int a1] (fun U => U.heap.size = sz ∧ va_P (dC, dI) vwCl [(m0, .inr (7, [.int 0, .ref mfi, .long 0, .int 0, .ref mil, .ref mic, .ref mwi, .int 0, .int 0, .ref mmo, .int 0, .ref mki, .ref mce, .ref mgo, .ref mwa, .ref mha, .ref mch, .ref mfo, .ref mca, .ref mor, .ref mro, .ref mra, .ref mpr, .ref mho, .ref mis, .int 0, .ref mss, .ref msc, .ref msh, .int 100, .int 1])), (mil, .inl (cZ, 160, .inl (fun _ => 0)))] U.heap ∧ va_K (dC, dI) vwCl [(cZ, .boolean)] U ∧ NW U ∧ va_D (fun _ => True) [(m0, .inr (7, [.int 0, .ref mfi, .long 0, .int 0, .ref mil, .ref mic, .ref mwi, .int 0, .int 0, .ref mmo, .int 0, .ref mki, .ref mce, .ref mgo, .ref mwa, .ref mha, .ref mch, .ref mfo, .ref mca, .ref mor, .ref mro, .ref mra, .ref mpr, .ref mho, .ref mis, .int 0, .ref mss, .ref msc, .ref msh, .int 100, .int 1])), (mil, .inl (cZ, 160, .inl (fun _ => 0)))])) (va_Qi (fun (r : Int32) (_ : Unit) => r = if (a0 < 0 ∨ 159 < a0) then (-1) else 0) (fun _ _ => True) (va_A [(m0, .inr (7, [.int 0, .ref mfi, .long 0, .int 0, .ref mil, .ref mic, .ref mwi, .int 0, .int 0, .ref mmo, .int 0, .ref mki, .ref mce, .ref mgo, .ref mwa, .ref mha, .ref mch, .ref mfo, .ref mca, .ref mor, .ref mro, .ref mra, .ref mpr, .ref mho, .ref mis, .int 0, .ref mss, .ref msc, .ref msh, .int 100, .int 1])), (mil, .inl (cZ, 160, .inl (fun _ => 0)))] sz)) 0 0 (va_A [(m0, .inr (7, [.int 0, .ref mfi, .long 0, .int 0, .ref mil, .ref mic, .ref mwi, .int 0, .int 0, .ref mmo, .int 0, .ref mki, .ref mce, .ref mgo, .ref mwa, .ref mha, .ref mch, .ref mfo, .ref mca, .ref mor, .ref mro, .ref mra, .ref mpr, .ref mho, .ref mis, .int 0, .ref mss, .ref msc, .ref msh, .int 100, .int 1])), (mil, .inl (cZ, 160, .inl (fun _ => 0)))] sz) := by
  refine Met.ofW (cc := cX6_land) (maxL := 4) (ret := (some .int)) (by decide) rfl ?_
  intro p e s m args below meth c s₁ B hml hv
  obtain ⟨rfl, hsz, hP, hK, hN, hD0⟩ := hv
  have hx := B.exec
  have hb := B.bytes
  have hr := B.returns
  have hts := atoms_spec (ws := wsX6_land) B.pre
  have hown : s.vm.findClass RX6 = some m.cls := findClass_of_methodNamed B.named
  have hlocks := B.notSynchronized
  subst hsz
  have hD := hD0.self (sz := s.heap.size)
  generalize hAe : va_A [(m0, .inr (7, [.int 0, .ref mfi, .long 0, .int 0, .ref mil, .ref mic, .ref mwi, .int 0, .int 0, .ref mmo, .int 0, .ref mki, .ref mce, .ref mgo, .ref mwa, .ref mha, .ref mch, .ref mfo, .ref mca, .ref mor, .ref mro, .ref mra, .ref mpr, .ref mho, .ref mis, .int 0, .ref mss, .ref msc, .ref msh, .int 100, .int 1])), (mil, .inl (cZ, 160, .inl (fun _ => 0)))] s.heap.size = A at hD ⊢
  have hA : ∀ q : Nat, s.heap.size ≤ q → A q := fun q h => by rw [← hAe]; exact Or.inr h
  have hS : va_S A s.heap s.heap [] := va_S.rf
  have hP : va_P (dC, dI) vwCl [(m0, .inr (7, [.int 0, .ref mfi, .long 0, .int 0, .ref mil, .ref mic, .ref mwi, .int 0, .int 0, .ref mmo, .int 0, .ref mki, .ref mce, .ref mgo, .ref mwa, .ref mha, .ref mch, .ref mfo, .ref mca, .ref mor, .ref mro, .ref mra, .ref mpr, .ref mho, .ref mis, .int 0, .ref mss, .ref msc, .ref msh, .int 100, .int 1])), (mil, .inl (cZ, 160, .inl (fun _ => 0)))] s.heap := hP
  have hl := lv_entry ([.ref m0, .int a0, .int a1]) (n := 4) (Nat.le_of_ble_eq_true rfl)
  rw [lg_entry_eq]
  generalize (lg_sl ([.ref m0, .int a0, .int a1]) ++ List.replicate (4 - (lg_sl ([.ref m0, .int a0, .int a1])).length) Slot.unset).toArray = ls at hl ⊢
  have hl : lv_has ls 4 [(0, .ref m0), (1, .int a0), (2, .int a1)] := hl
  refine lv_iload_n hx hb dX6_land_0 rfl (lv_at hl 1 rfl) ?_
  refine va_calli (va_runS (As := [.int a0]) (rest := []) ⟨hx, hb, hml, hown, hts⟩ (c_X6_isCell l s.heap.size a0 ) (va_cwS 1 hts gX6_land_X6_isCell rfl rfl rfl (by decide +kernel) ⟨Nat.le_of_ble_eq_true rfl, Nat.le_of_ble_eq_true rfl⟩) ⟨fun a U g mk q => by obtain ⟨q0, q1⟩ := q; exact ⟨q0, q1⟩, fun U hU hW => ⟨rfl, congrArg Array.size hU⟩⟩ rfl rfl hl.1 rfl (lv_room (Nat.le_of_ble_eq_true rfl)) dX6_land_1 ⟨(Nat.zero_le _), (Nat.zero_le _)⟩) hS (fun q _ h => ro_A hS hA q h) (ro_A hS hA) (fun r_1 u t H1 locs ht hvm k_2 hB hz1 hk1 hS => ?_)
  have hP := ro_P hk1 hP
  generalize H1 = H at hP hS ⊢
  try dsimp only at k_2
  refine lv_if_ne (tgt := 9) hx hb dX6_land_4 (by decide) (fun c_3 => ?_) (fun c_3 => ?_)
  · skip
    have b_4 := b01n k_2 c_3
    refine lv_aload_n hx hb dX6_land_9 rfl (lv_at hl 0 rfl) ?_
    refine va_get (D := (dC, dI)) (ci := 7) (v := .ref mil) (C := RX6) (T := TX6) (N := 31) hx hb hts iw_X6_land_X6 hown hK hP 0 rfl rfl 4 (by decide) (hts (.fieldLink RX6 13 "TeaRaceModel" "isLand" "[Z") (by decide +kernel)) (fun _ h9 => h9) rfl dX6_land_10 ?_
    refine lv_iload_n hx hb dX6_land_13 rfl (lv_at hl 1 rfl) ?_
    refine va_zald hx hb hK hP 1 0 rfl rfl (vp_in_iff.mpr (by (try simp only [Int32.lt_iff_toInt_lt, Int32.le_iff_toInt_le, ← Int32.toInt_inj, Int32.reduceToInt] at b_4 ⊢); omega)) dX6_land_14 ?_
    refine lv_topi (fun x_5 ex_5 => ?_)
    obtain rfl : x_5 = 0 := ex_5
    refine lv_if_eq (tgt := 22) hx hb dX6_land_15 (by decide) (fun c_6 => ?_) (fun c_6 => ?_)
    · skip
      refine lv_iconst (v := 0) hx hb dX6_land_22 (by decide) ?_
      refine lv_istore_n (lv' := [(3, .int 0), (0, .ref m0), (1, .int a0), (2, .int a1)]) hx hb dX6_land_23 rfl hl (by decide) rfl (fun ls hl => ?_)
      refine lv_aload_n hx hb dX6_land_24 rfl (lv_at hl 1 rfl) ?_
      refine va_get (D := (dC, dI)) (ci := 7) (v := .ref mil) (C := RX6) (T := TX6) (N := 31) hx hb hts iw_X6_land_X6 hown hK hP 0 rfl rfl 4 (by decide) (hts (.fieldLink RX6 13 "TeaRaceModel" "isLand" "[Z") (by decide +kernel)) (fun _ h9 => h9) rfl dX6_land_25 ?_
      refine lv_iload_n hx hb dX6_land_28 rfl (lv_at hl 2 rfl) ?_
      refine lv_iload_n hx hb dX6_land_29 rfl (lv_at hl 3 rfl) ?_
      refine va_zast hx hb hK hP hD hS 1 0 rfl rfl (vp_in_iff.mpr (by (try simp only [Int32.lt_iff_toInt_lt, Int32.le_iff_toInt_le, ← Int32.toInt_inj, Int32.reduceToInt] at b_4 ⊢); omega)) dX6_land_30 (fun H locs hP hD hS => ?_)
      have hP : va_P (dC, dI) vwCl [(m0, .inr (7, [.int 0, .ref mfi, .long 0, .int 0, .ref mil, .ref mic, .ref mwi, .int 0, .int 0, .ref mmo, .int 0, .ref mki, .ref mce, .ref mgo, .ref mwa, .ref mha, .ref mch, .ref mfo, .ref mca, .ref mor, .ref mro, .ref mra, .ref mpr, .ref mho, .ref mis, .int 0, .ref mss, .ref msc, .ref msh, .int 100, .int 1])), (mil, .inl (cZ, 160, .inl (upd (fun _ => 0) a0.toNatClampNeg (vp_nar .boolean a1))))] H := hP
      have hD : va_D A [(m0, .inr (7, [.int 0, .ref mfi, .long 0, .int 0, .ref mil, .ref mic, .ref mwi, .int 0, .int 0, .ref mmo, .int 0, .ref mki, .ref mce, .ref mgo, .ref mwa, .ref mha, .ref mch, .ref mfo, .ref mca, .ref mor, .ref mro, .ref mra, .ref mpr, .ref mho, .ref mis, .int 0, .ref mss, .ref msc, .ref msh, .int 100, .int 1])), (mil, .inl (cZ, 160, .inl (upd (fun _ => 0) a0.toNatClampNeg (vp_nar .boolean a1))))] := hD
      refine lv_iload_n hx hb dX6_land_31 rfl (lv_at hl 0 rfl) ?_
      exact W.iret (v := 0) hx hb hr (fun t ht hW => ⟨⟨0, (), rfl, (by first | rfl | trivial | (simp only [Int32.lt_iff_toInt_lt, Int32.le_iff_toInt_le, ← Int32.toInt_inj, Int32.reduceToInt] at b_4 ⊢; (repeat' split) <;> first | rfl | omega) | (simp only [Int32.lt_iff_toInt_lt, Int32.le_iff_toInt_le, ← Int32.toInt_inj, Int32.reduceToInt] at *; omega) | grind), trivial⟩, hS.F ht⟩) hS.2.2 dX6_land_32
    · skip
      exact absurd (by decide) c_6
  · skip
    have b_7 := b01z k_2 c_3
    refine lv_iconst (v := (-1)) hx hb dX6_land_7 (by decide) ?_
    exact W.iret (v := (-1)) hx hb hr (fun t ht hW => ⟨⟨(-1), (), rfl, (by first | rfl | trivial | (simp only [Int32.lt_iff_toInt_lt, Int32.le_iff_toInt_le, ← Int32.toInt_inj, Int32.reduceToInt] at b_7 ⊢; (repeat' split) <;> first | rfl | omega) | (simp only [Int32.lt_iff_toInt_lt, Int32.le_iff_toInt_le, ← Int32.toInt_inj, Int32.reduceToInt] at *; omega) | grind), trivial⟩, hS.F ht⟩) hS.2.2 dX6_land_8
set_option maxHeartbeats 4000000 in
set_option maxRecDepth 100000 in
/-- the reference's wind, fresh -/
theorem c_X6_wind (l : Launch) (dC : Nat → ClassId) (dI : Nat → Nat → Nat) (sz : Nat) (m0 : Nat) (mfi : Nat) (mil : Nat) (mic : Nat) (mwi : Nat) (mmo : Nat) (mki : Nat) (mce : Nat) (mgo : Nat) (mwa : Nat) (mha : Nat) (mch : Nat) (mfo : Nat) (mca : Nat) (mor : Nat) (mro : Nat) (mra : Nat) (mpr : Nat) (mho : Nat) (mis : Nat) (mss : Nat) (msc : Nat) (msh : Nat) (cI : ClassId) (cZ : ClassId) (a0 : Int32) (a1 : Int32) (a2 : Int32)  : Met l yX6_wind wsX6_wind ({ frames := 3, cells := 0, slots := 0, locals := 63 }) (va_Pc [.ref m0, .int a0, .int a1, .int a2] (fun U => U.heap.size = sz ∧ va_P (dC, dI) vwCl [(m0, .inr (7, [.int 0, .ref mfi, .long 0, .int 0, .ref mil, .ref mic, .ref mwi, .int 0, .int 0, .ref mmo, .int 0, .ref mki, .ref mce, .ref mgo, .ref mwa, .ref mha, .ref mch, .ref mfo, .ref mca, .ref mor, .ref mro, .ref mra, .ref mpr, .ref mho, .ref mis, .int 0, .ref mss, .ref msc, .ref msh, .int 100, .int 1])), (mic, .inl (cZ, 12, .inl (fun _ => 0))), (mfi, .inl (cI, 6, .inl (fun _ => 0)))] U.heap ∧ va_K (dC, dI) vwCl [(cI, .int), (cZ, .boolean)] U ∧ NW U ∧ va_D (fun _ => True) [(m0, .inr (7, [.int 0, .ref mfi, .long 0, .int 0, .ref mil, .ref mic, .ref mwi, .int 0, .int 0, .ref mmo, .int 0, .ref mki, .ref mce, .ref mgo, .ref mwa, .ref mha, .ref mch, .ref mfo, .ref mca, .ref mor, .ref mro, .ref mra, .ref mpr, .ref mho, .ref mis, .int 0, .ref mss, .ref msc, .ref msh, .int 100, .int 1])), (mic, .inl (cZ, 12, .inl (fun _ => 0))), (mfi, .inl (cI, 6, .inl (fun _ => 0)))])) (va_Qi (fun (r : Int32) (_ : Unit) => r = if (a0 < 0 ∨ 11 < a0) then (-1) else (-3)) (fun _ _ => True) (va_A [(m0, .inr (7, [.int 0, .ref mfi, .long 0, .int 0, .ref mil, .ref mic, .ref mwi, .int 0, .int 0, .ref mmo, .int 0, .ref mki, .ref mce, .ref mgo, .ref mwa, .ref mha, .ref mch, .ref mfo, .ref mca, .ref mor, .ref mro, .ref mra, .ref mpr, .ref mho, .ref mis, .int 0, .ref mss, .ref msc, .ref msh, .int 100, .int 1])), (mic, .inl (cZ, 12, .inl (fun _ => 0))), (mfi, .inl (cI, 6, .inl (fun _ => 0)))] sz)) 0 0 (va_A [(m0, .inr (7, [.int 0, .ref mfi, .long 0, .int 0, .ref mil, .ref mic, .ref mwi, .int 0, .int 0, .ref mmo, .int 0, .ref mki, .ref mce, .ref mgo, .ref mwa, .ref mha, .ref mch, .ref mfo, .ref mca, .ref mor, .ref mro, .ref mra, .ref mpr, .ref mho, .ref mis, .int 0, .ref mss, .ref msc, .ref msh, .int 100, .int 1])), (mic, .inl (cZ, 12, .inl (fun _ => 0))), (mfi, .inl (cI, 6, .inl (fun _ => 0)))] sz) := by
  refine Met.ofW (cc := cX6_wind) (maxL := 6) (ret := (some .int)) (by decide) rfl ?_
  intro p e s m args below meth c s₁ B hml hv
  obtain ⟨rfl, hsz, hP, hK, hN, hD0⟩ := hv
  have hx := B.exec
  have hb := B.bytes
  have hr := B.returns
  have hts := atoms_spec (ws := wsX6_wind) B.pre
  have hown : s.vm.findClass RX6 = some m.cls := findClass_of_methodNamed B.named
  have hlocks := B.notSynchronized
  subst hsz
  have hD := hD0.self (sz := s.heap.size)
  generalize hAe : va_A [(m0, .inr (7, [.int 0, .ref mfi, .long 0, .int 0, .ref mil, .ref mic, .ref mwi, .int 0, .int 0, .ref mmo, .int 0, .ref mki, .ref mce, .ref mgo, .ref mwa, .ref mha, .ref mch, .ref mfo, .ref mca, .ref mor, .ref mro, .ref mra, .ref mpr, .ref mho, .ref mis, .int 0, .ref mss, .ref msc, .ref msh, .int 100, .int 1])), (mic, .inl (cZ, 12, .inl (fun _ => 0))), (mfi, .inl (cI, 6, .inl (fun _ => 0)))] s.heap.size = A at hD ⊢
  have hA : ∀ q : Nat, s.heap.size ≤ q → A q := fun q h => by rw [← hAe]; exact Or.inr h
  have hS : va_S A s.heap s.heap [] := va_S.rf
  have hP : va_P (dC, dI) vwCl [(m0, .inr (7, [.int 0, .ref mfi, .long 0, .int 0, .ref mil, .ref mic, .ref mwi, .int 0, .int 0, .ref mmo, .int 0, .ref mki, .ref mce, .ref mgo, .ref mwa, .ref mha, .ref mch, .ref mfo, .ref mca, .ref mor, .ref mro, .ref mra, .ref mpr, .ref mho, .ref mis, .int 0, .ref mss, .ref msc, .ref msh, .int 100, .int 1])), (mic, .inl (cZ, 12, .inl (fun _ => 0))), (mfi, .inl (cI, 6, .inl (fun _ => 0)))] s.heap := hP
  have hl := lv_entry ([.ref m0, .int a0, .int a1, .int a2]) (n := 6) (Nat.le_of_ble_eq_true rfl)
  rw [lg_entry_eq]
  generalize (lg_sl ([.ref m0, .int a0, .int a1, .int a2]) ++ List.replicate (6 - (lg_sl ([.ref m0, .int a0, .int a1, .int a2])).length) Slot.unset).toArray = ls at hl ⊢
  have hl : lv_has ls 6 [(0, .ref m0), (1, .int a0), (2, .int a1), (3, .int a2)] := hl
  refine lv_aload_n hx hb dX6_wind_0 rfl (lv_at hl 0 rfl) ?_
  refine lv_iload_n hx hb dX6_wind_1 rfl (lv_at hl 1 rfl) ?_
  have hPc := hP.sub (ws' := [(m0, .inr (7, [.int 0, .ref mfi, .long 0, .int 0, .ref mil, .ref mic, .ref mwi, .int 0, .int 0, .ref mmo, .int 0, .ref mki, .ref mce, .ref mgo, .ref mwa, .ref mha, .ref mch, .ref mfo, .ref mca, .ref mor, .ref mro, .ref mra, .ref mpr, .ref mho, .ref mis, .int 0, .ref mss, .ref msc, .ref msh, .int 100, .int 1])), (mic, .inl (cZ, 12, .inl (fun _ => 0))), (mfi, .inl (cI, 6, .inl (fun _ => 0)))]) [0, 1, 2] rfl
  have hDc := hD.sub (ws' := [(m0, .inr (7, [.int 0, .ref mfi, .long 0, .int 0, .ref mil, .ref mic, .ref mwi, .int 0, .int 0, .ref mmo, .int 0, .ref mki, .ref mce, .ref mgo, .ref mwa, .ref mha, .ref mch, .ref mfo, .ref mca, .ref mor, .ref mro, .ref mra, .ref mpr, .ref mho, .ref mis, .int 0, .ref mss, .ref msc, .ref msh, .int 100, .int 1])), (mic, .inl (cZ, 12, .inl (fun _ => 0))), (mfi, .inl (cI, 6, .inl (fun _ => 0)))]) [0, 1, 2] (by decide) rfl
  have hKc := hK.sub (tys' := [(cI, .int), (cZ, .boolean)]) [0, 1] rfl
  have hFc := va_free (wc := [(m0, .inr (7, [.int 0, .ref mfi, .long 0, .int 0, .ref mil, .ref mic, .ref mwi, .int 0, .int 0, .ref mmo, .int 0, .ref mki, .ref mce, .ref mgo, .ref mwa, .ref mha, .ref mch, .ref mfo, .ref mca, .ref mor, .ref mro, .ref mra, .ref mpr, .ref mho, .ref mis, .int 0, .ref mss, .ref msc, .ref msh, .int 100, .int 1])), (mic, .inl (cZ, 12, .inl (fun _ => 0))), (mfi, .inl (cI, 6, .inl (fun _ => 0)))]) hD hS hA [0, 1, 2] rfl
  refine va_calli (va_runV (As := [.int a0]) (rest := []) ⟨hx, hb, hml, hown, hts⟩ (c_X6_looked l dC dI s.heap.size m0 mfi mil mic mwi mmo mki mce mgo mwa mha mch mfo mca mor mro mra mpr mho mis mss msc msh cI cZ a0 ) (cwV 1 hts gX6_wind_X6_looked rfl rfl rfl (by decide +kernel) ⟨Nat.le_of_ble_eq_true rfl, Nat.le_of_ble_eq_true rfl⟩) ⟨fun a U g mk q => by obtain ⟨q0, q1, qP, qK, qN, qD⟩ := q; exact ⟨q0, q1, qP, va_K.moved (u := U) (U := U.calling g mk a) (Vm.Alike.refl U.vm) qK, NW.same (u := U) (U := U.calling g mk a) rfl qN, qD⟩, va_recv hKc hPc (ci := 7) (q0 := 0) rfl rfl, fun U hU hW => ⟨rfl, by rw [hU], by rw [hU]; exact hPc, va_K.moved hW.alike hKc, NW.warm hW hN, hDc.weaken (fun _ _ _ _ => trivial)⟩⟩ rfl rfl hl.1 rfl (lv_room (Nat.le_of_ble_eq_true rfl)) dX6_wind_2 ⟨(Nat.zero_le _), (Nat.zero_le _)⟩) hS (fun q _ h => hFc q h) hFc (fun r_1 u t H1 locs ht hvm k_2 hB hz1 hk1 hS => ?_)
  have hPr := hP.sub (ws' := []) [] rfl
  have hDr := hD.sub (ws' := []) [] (by decide) rfl
  have hP := wr_P hk1 hPr (va_apartR hD [0, 1, 2] [] rfl rfl (by decide))
  have hD := hDr
  generalize H1 = H at hP hS ⊢
  have hP : va_P (dC, dI) vwCl [] H := hP
  have hD : va_D A [] := hD
  try dsimp only at k_2
  refine lv_istore (lv' := [(4, .int r_1), (0, .ref m0), (1, .int a0), (2, .int a1), (3, .int a2)]) hx hb dX6_wind_5 hl (by decide) rfl (fun ls hl => ?_)
  refine lv_iload hx hb dX6_wind_7 (lv_at hl 0 rfl) ?_
  refine lv_if_ge (tgt := 15) hx hb dX6_wind_9 (by decide) (fun c_3 => ?_) (fun c_3 => ?_)
  · skip
    exfalso
    split at k_2
    all_goals (simp only [Int32.lt_iff_toInt_lt, Int32.le_iff_toInt_le, ← Int32.toInt_inj, Int32.reduceToInt] at k_2 c_3; omega)
  · skip
    refine lv_iload hx hb dX6_wind_12 (lv_at hl 0 rfl) ?_
    exact W.iret (v := r_1) hx hb hr (fun t ht hW => ⟨⟨r_1, (), rfl, (by first | rfl | trivial | (simp only [Int32.lt_iff_toInt_lt, Int32.le_iff_toInt_le, ← Int32.toInt_inj, Int32.reduceToInt] at k_2 c_3 ⊢; (repeat' split) <;> first | rfl | omega) | (simp only [Int32.lt_iff_toInt_lt, Int32.le_iff_toInt_le, ← Int32.toInt_inj, Int32.reduceToInt] at *; omega) | grind), trivial⟩, hS.F ht⟩) hS.2.2 dX6_wind_14
set_option maxHeartbeats 4000000 in
set_option maxRecDepth 100000 in
/-- the reference's tear, fresh -/
theorem c_X6_tear (l : Launch) (dC : Nat → ClassId) (dI : Nat → Nat → Nat) (sz : Nat) (m0 : Nat) (mfi : Nat) (mil : Nat) (mic : Nat) (mwi : Nat) (mmo : Nat) (mki : Nat) (mce : Nat) (mgo : Nat) (mwa : Nat) (mha : Nat) (mch : Nat) (mfo : Nat) (mca : Nat) (mor : Nat) (mro : Nat) (mra : Nat) (mpr : Nat) (mho : Nat) (mis : Nat) (mss : Nat) (msc : Nat) (msh : Nat) (cI : ClassId) (cZ : ClassId) (a0 : Int32)  : Met l yX6_tear wsX6_tear ({ frames := 3, cells := 0, slots := 0, locals := 63 }) (va_Pc [.ref m0, .int a0] (fun U => U.heap.size = sz ∧ va_P (dC, dI) vwCl [(m0, .inr (7, [.int 0, .ref mfi, .long 0, .int 0, .ref mil, .ref mic, .ref mwi, .int 0, .int 0, .ref mmo, .int 0, .ref mki, .ref mce, .ref mgo, .ref mwa, .ref mha, .ref mch, .ref mfo, .ref mca, .ref mor, .ref mro, .ref mra, .ref mpr, .ref mho, .ref mis, .int 0, .ref mss, .ref msc, .ref msh, .int 100, .int 1])), (mic, .inl (cZ, 12, .inl (fun _ => 0))), (mfi, .inl (cI, 6, .inl (fun _ => 0)))] U.heap ∧ va_K (dC, dI) vwCl [(cI, .int), (cZ, .boolean)] U ∧ NW U ∧ va_D (fun _ => True) [(m0, .inr (7, [.int 0, .ref mfi, .long 0, .int 0, .ref mil, .ref mic, .ref mwi, .int 0, .int 0, .ref mmo, .int 0, .ref mki, .ref mce, .ref mgo, .ref mwa, .ref mha, .ref mch, .ref mfo, .ref mca, .ref mor, .ref mro, .ref mra, .ref mpr, .ref mho, .ref mis, .int 0, .ref mss, .ref msc, .ref msh, .int 100, .int 1])), (mic, .inl (cZ, 12, .inl (fun _ => 0))), (mfi, .inl (cI, 6, .inl (fun _ => 0)))])) (va_Qi (fun (r : Int32) (_ : Unit) => r = if (a0 < 0 ∨ 11 < a0) then (-1) else (-3)) (fun _ _ => True) (va_A [(m0, .inr (7, [.int 0, .ref mfi, .long 0, .int 0, .ref mil, .ref mic, .ref mwi, .int 0, .int 0, .ref mmo, .int 0, .ref mki, .ref mce, .ref mgo, .ref mwa, .ref mha, .ref mch, .ref mfo, .ref mca, .ref mor, .ref mro, .ref mra, .ref mpr, .ref mho, .ref mis, .int 0, .ref mss, .ref msc, .ref msh, .int 100, .int 1])), (mic, .inl (cZ, 12, .inl (fun _ => 0))), (mfi, .inl (cI, 6, .inl (fun _ => 0)))] sz)) 0 0 (va_A [(m0, .inr (7, [.int 0, .ref mfi, .long 0, .int 0, .ref mil, .ref mic, .ref mwi, .int 0, .int 0, .ref mmo, .int 0, .ref mki, .ref mce, .ref mgo, .ref mwa, .ref mha, .ref mch, .ref mfo, .ref mca, .ref mor, .ref mro, .ref mra, .ref mpr, .ref mho, .ref mis, .int 0, .ref mss, .ref msc, .ref msh, .int 100, .int 1])), (mic, .inl (cZ, 12, .inl (fun _ => 0))), (mfi, .inl (cI, 6, .inl (fun _ => 0)))] sz) := by
  refine Met.ofW (cc := cX6_tear) (maxL := 3) (ret := (some .int)) (by decide) rfl ?_
  intro p e s m args below meth c s₁ B hml hv
  obtain ⟨rfl, hsz, hP, hK, hN, hD0⟩ := hv
  have hx := B.exec
  have hb := B.bytes
  have hr := B.returns
  have hts := atoms_spec (ws := wsX6_tear) B.pre
  have hown : s.vm.findClass RX6 = some m.cls := findClass_of_methodNamed B.named
  have hlocks := B.notSynchronized
  subst hsz
  have hD := hD0.self (sz := s.heap.size)
  generalize hAe : va_A [(m0, .inr (7, [.int 0, .ref mfi, .long 0, .int 0, .ref mil, .ref mic, .ref mwi, .int 0, .int 0, .ref mmo, .int 0, .ref mki, .ref mce, .ref mgo, .ref mwa, .ref mha, .ref mch, .ref mfo, .ref mca, .ref mor, .ref mro, .ref mra, .ref mpr, .ref mho, .ref mis, .int 0, .ref mss, .ref msc, .ref msh, .int 100, .int 1])), (mic, .inl (cZ, 12, .inl (fun _ => 0))), (mfi, .inl (cI, 6, .inl (fun _ => 0)))] s.heap.size = A at hD ⊢
  have hA : ∀ q : Nat, s.heap.size ≤ q → A q := fun q h => by rw [← hAe]; exact Or.inr h
  have hS : va_S A s.heap s.heap [] := va_S.rf
  have hP : va_P (dC, dI) vwCl [(m0, .inr (7, [.int 0, .ref mfi, .long 0, .int 0, .ref mil, .ref mic, .ref mwi, .int 0, .int 0, .ref mmo, .int 0, .ref mki, .ref mce, .ref mgo, .ref mwa, .ref mha, .ref mch, .ref mfo, .ref mca, .ref mor, .ref mro, .ref mra, .ref mpr, .ref mho, .ref mis, .int 0, .ref mss, .ref msc, .ref msh, .int 100, .int 1])), (mic, .inl (cZ, 12, .inl (fun _ => 0))), (mfi, .inl (cI, 6, .inl (fun _ => 0)))] s.heap := hP
  have hl := lv_entry ([.ref m0, .int a0]) (n := 3) (Nat.le_of_ble_eq_true rfl)
  rw [lg_entry_eq]
  generalize (lg_sl ([.ref m0, .int a0]) ++ List.replicate (3 - (lg_sl ([.ref m0, .int a0])).length) Slot.unset).toArray = ls at hl ⊢
  have hl : lv_has ls 3 [(0, .ref m0), (1, .int a0)] := hl
  refine lv_aload_n hx hb dX6_tear_0 rfl (lv_at hl 0 rfl) ?_
  refine lv_iload_n hx hb dX6_tear_1 rfl (lv_at hl 1 rfl) ?_
  have hPc := hP.sub (ws' := [(m0, .inr (7, [.int 0, .ref mfi, .long 0, .int 0, .ref mil, .ref mic, .ref mwi, .int 0, .int 0, .ref mmo, .int 0, .ref mki, .ref mce, .ref mgo, .ref mwa, .ref mha, .ref mch, .ref mfo, .ref mca, .ref mor, .ref mro, .ref mra, .ref mpr, .ref mho, .ref mis, .int 0, .ref mss, .ref msc, .ref msh, .int 100, .int 1])), (mic, .inl (cZ, 12, .inl (fun _ => 0))), (mfi, .inl (cI, 6, .inl (fun _ => 0)))]) [0, 1, 2] rfl
  have hDc := hD.sub (ws' := [(m0, .inr (7, [.int 0, .ref mfi, .long 0, .int 0, .ref mil, .ref mic, .ref mwi, .int 0, .int 0, .ref mmo, .int 0, .ref mki, .ref mce, .ref mgo, .ref mwa, .ref mha, .ref mch, .ref mfo, .ref mca, .ref mor, .ref mro, .ref mra, .ref mpr, .ref mho, .ref mis, .int 0, .ref mss, .ref msc, .ref msh, .int 100, .int 1])), (mic, .inl (cZ, 12, .inl (fun _ => 0))), (mfi, .inl (cI, 6, .inl (fun _ => 0)))]) [0, 1, 2] (by decide) rfl
  have hKc := hK.sub (tys' := [(cI, .int), (cZ, .boolean)]) [0, 1] rfl
  have hFc := va_free (wc := [(m0, .inr (7, [.int 0, .ref mfi, .long 0, .int 0, .ref mil, .ref mic, .ref mwi, .int 0, .int 0, .ref mmo, .int 0, .ref mki, .ref mce, .ref mgo, .ref mwa, .ref mha, .ref mch, .ref mfo, .ref mca, .ref mor, .ref mro, .ref mra, .ref mpr, .ref mho, .ref mis, .int 0, .ref mss, .ref msc, .ref msh, .int 100, .int 1])), (mic, .inl (cZ, 12, .inl (fun _ => 0))), (mfi, .inl (cI, 6, .inl (fun _ => 0)))]) hD hS hA [0, 1, 2] rfl
  refine va_calli (va_runV (As := [.int a0]) (rest := []) ⟨hx, hb, hml, hown, hts⟩ (c_X6_looked l dC dI s.heap.size m0 mfi mil mic mwi mmo mki mce mgo mwa mha mch mfo mca mor mro mra mpr mho mis mss msc msh cI cZ a0 ) (cwV 1 hts gX6_tear_X6_looked rfl rfl rfl (by decide +kernel) ⟨Nat.le_of_ble_eq_true rfl, Nat.le_of_ble_eq_true rfl⟩) ⟨fun a U g mk q => by obtain ⟨q0, q1, qP, qK, qN, qD⟩ := q; exact ⟨q0, q1, qP, va_K.moved (u := U) (U := U.calling g mk a) (Vm.Alike.refl U.vm) qK, NW.same (u := U) (U := U.calling g mk a) rfl qN, qD⟩, va_recv hKc hPc (ci := 7) (q0 := 0) rfl rfl, fun U hU hW => ⟨rfl, by rw [hU], by rw [hU]; exact hPc, va_K.moved hW.alike hKc, NW.warm hW hN, hDc.weaken (fun _ _ _ _ => trivial)⟩⟩ rfl rfl hl.1 rfl (lv_room (Nat.le_of_ble_eq_true rfl)) dX6_tear_2 ⟨(Nat.zero_le _), (Nat.zero_le _)⟩) hS (fun q _ h => hFc q h) hFc (fun r_1 u t H1 locs ht hvm k_2 hB hz1 hk1 hS => ?_)
  have hPr := hP.sub (ws' := []) [] rfl
  have hDr := hD.sub (ws' := []) [] (by decide) rfl
  have hP := wr_P hk1 hPr (va_apartR hD [0, 1, 2] [] rfl rfl (by decide))
  have hD := hDr
  generalize H1 = H at hP hS ⊢
  have hP : va_P (dC, dI) vwCl [] H := hP
  have hD : va_D A [] := hD
  try dsimp only at k_2
  refine lv_istore_n (lv' := [(2, .int r_1), (0, .ref m0), (1, .int a0)]) hx hb dX6_tear_5 rfl hl (by decide) rfl (fun ls hl => ?_)
  refine lv_iload_n hx hb dX6_tear_6 rfl (lv_at hl 0 rfl) ?_
  refine lv_if_ge (tgt := 12) hx hb dX6_tear_7 (by decide) (fun c_3 => ?_) (fun c_3 => ?_)
  · skip
    exfalso
    split at k_2
    all_goals (simp only [Int32.lt_iff_toInt_lt, Int32.le_iff_toInt_le, ← Int32.toInt_inj, Int32.reduceToInt] at k_2 c_3; omega)
  · skip
    refine lv_iload_n hx hb dX6_tear_10 rfl (lv_at hl 0 rfl) ?_
    exact W.iret (v := r_1) hx hb hr (fun t ht hW => ⟨⟨r_1, (), rfl, (by first | rfl | trivial | (simp only [Int32.lt_iff_toInt_lt, Int32.le_iff_toInt_le, ← Int32.toInt_inj, Int32.reduceToInt] at k_2 c_3 ⊢; (repeat' split) <;> first | rfl | omega) | (simp only [Int32.lt_iff_toInt_lt, Int32.le_iff_toInt_le, ← Int32.toInt_inj, Int32.reduceToInt] at *; omega) | grind), trivial⟩, hS.F ht⟩) hS.2.2 dX6_tear_11
set_option maxHeartbeats 4000000 in
set_option maxRecDepth 100000 in
/-- the reference's mean, fresh -/
theorem c_X6_mean (l : Launch) (dC : Nat → ClassId) (dI : Nat → Nat → Nat) (sz : Nat) (m0 : Nat) (mfi : Nat) (mil : Nat) (mic : Nat) (mwi : Nat) (mmo : Nat) (mki : Nat) (mce : Nat) (mgo : Nat) (mwa : Nat) (mha : Nat) (mch : Nat) (mfo : Nat) (mca : Nat) (mor : Nat) (mro : Nat) (mra : Nat) (mpr : Nat) (mho : Nat) (mis : Nat) (mss : Nat) (msc : Nat) (msh : Nat) (cI : ClassId) (cZ : ClassId) (a0 : Int32)  : Met l yX6_mean wsX6_mean ({ frames := 3, cells := 0, slots := 0, locals := 63 }) (va_Pc [.ref m0, .int a0] (fun U => U.heap.size = sz ∧ va_P (dC, dI) vwCl [(m0, .inr (7, [.int 0, .ref mfi, .long 0, .int 0, .ref mil, .ref mic, .ref mwi, .int 0, .int 0, .ref mmo, .int 0, .ref mki, .ref mce, .ref mgo, .ref mwa, .ref mha, .ref mch, .ref mfo, .ref mca, .ref mor, .ref mro, .ref mra, .ref mpr, .ref mho, .ref mis, .int 0, .ref mss, .ref msc, .ref msh, .int 100, .int 1])), (mic, .inl (cZ, 12, .inl (fun _ => 0))), (mfi, .inl (cI, 6, .inl (fun _ => 0)))] U.heap ∧ va_K (dC, dI) vwCl [(cI, .int), (cZ, .boolean)] U ∧ NW U ∧ va_D (fun _ => True) [(m0, .inr (7, [.int 0, .ref mfi, .long 0, .int 0, .ref mil, .ref mic, .ref mwi, .int 0, .int 0, .ref mmo, .int 0, .ref mki, .ref mce, .ref mgo, .ref mwa, .ref mha, .ref mch, .ref mfo, .ref mca, .ref mor, .ref mro, .ref mra, .ref mpr, .ref mho, .ref mis, .int 0, .ref mss, .ref msc, .ref msh, .int 100, .int 1])), (mic, .inl (cZ, 12, .inl (fun _ => 0))), (mfi, .inl (cI, 6, .inl (fun _ => 0)))])) (va_Qi (fun (r : Int32) (_ : Unit) => r = if (a0 < 0 ∨ 11 < a0) then (-1) else (-3)) (fun _ _ => True) (va_A [(m0, .inr (7, [.int 0, .ref mfi, .long 0, .int 0, .ref mil, .ref mic, .ref mwi, .int 0, .int 0, .ref mmo, .int 0, .ref mki, .ref mce, .ref mgo, .ref mwa, .ref mha, .ref mch, .ref mfo, .ref mca, .ref mor, .ref mro, .ref mra, .ref mpr, .ref mho, .ref mis, .int 0, .ref mss, .ref msc, .ref msh, .int 100, .int 1])), (mic, .inl (cZ, 12, .inl (fun _ => 0))), (mfi, .inl (cI, 6, .inl (fun _ => 0)))] sz)) 0 0 (va_A [(m0, .inr (7, [.int 0, .ref mfi, .long 0, .int 0, .ref mil, .ref mic, .ref mwi, .int 0, .int 0, .ref mmo, .int 0, .ref mki, .ref mce, .ref mgo, .ref mwa, .ref mha, .ref mch, .ref mfo, .ref mca, .ref mor, .ref mro, .ref mra, .ref mpr, .ref mho, .ref mis, .int 0, .ref mss, .ref msc, .ref msh, .int 100, .int 1])), (mic, .inl (cZ, 12, .inl (fun _ => 0))), (mfi, .inl (cI, 6, .inl (fun _ => 0)))] sz) := by
  refine Met.ofW (cc := cX6_mean) (maxL := 5) (ret := (some .int)) (by decide) rfl ?_
  intro p e s m args below meth c s₁ B hml hv
  obtain ⟨rfl, hsz, hP, hK, hN, hD0⟩ := hv
  have hx := B.exec
  have hb := B.bytes
  have hr := B.returns
  have hts := atoms_spec (ws := wsX6_mean) B.pre
  have hown : s.vm.findClass RX6 = some m.cls := findClass_of_methodNamed B.named
  have hlocks := B.notSynchronized
  subst hsz
  have hD := hD0.self (sz := s.heap.size)
  generalize hAe : va_A [(m0, .inr (7, [.int 0, .ref mfi, .long 0, .int 0, .ref mil, .ref mic, .ref mwi, .int 0, .int 0, .ref mmo, .int 0, .ref mki, .ref mce, .ref mgo, .ref mwa, .ref mha, .ref mch, .ref mfo, .ref mca, .ref mor, .ref mro, .ref mra, .ref mpr, .ref mho, .ref mis, .int 0, .ref mss, .ref msc, .ref msh, .int 100, .int 1])), (mic, .inl (cZ, 12, .inl (fun _ => 0))), (mfi, .inl (cI, 6, .inl (fun _ => 0)))] s.heap.size = A at hD ⊢
  have hA : ∀ q : Nat, s.heap.size ≤ q → A q := fun q h => by rw [← hAe]; exact Or.inr h
  have hS : va_S A s.heap s.heap [] := va_S.rf
  have hP : va_P (dC, dI) vwCl [(m0, .inr (7, [.int 0, .ref mfi, .long 0, .int 0, .ref mil, .ref mic, .ref mwi, .int 0, .int 0, .ref mmo, .int 0, .ref mki, .ref mce, .ref mgo, .ref mwa, .ref mha, .ref mch, .ref mfo, .ref mca, .ref mor, .ref mro, .ref mra, .ref mpr, .ref mho, .ref mis, .int 0, .ref mss, .ref msc, .ref msh, .int 100, .int 1])), (mic, .inl (cZ, 12, .inl (fun _ => 0))), (mfi, .inl (cI, 6, .inl (fun _ => 0)))] s.heap := hP
  have hl := lv_entry ([.ref m0, .int a0]) (n := 5) (Nat.le_of_ble_eq_true rfl)
  rw [lg_entry_eq]
  generalize (lg_sl ([.ref m0, .int a0]) ++ List.replicate (5 - (lg_sl ([.ref m0, .int a0])).length) Slot.unset).toArray = ls at hl ⊢
  have hl : lv_has ls 5 [(0, .ref m0), (1, .int a0)] := hl
  refine lv_aload_n hx hb dX6_mean_0 rfl (lv_at hl 0 rfl) ?_
  refine lv_iload_n hx hb dX6_mean_1 rfl (lv_at hl 1 rfl) ?_
  have hPc := hP.sub (ws' := [(m0, .inr (7, [.int 0, .ref mfi, .long 0, .int 0, .ref mil, .ref mic, .ref mwi, .int 0, .int 0, .ref mmo, .int 0, .ref mki, .ref mce, .ref mgo, .ref mwa, .ref mha, .ref mch, .ref mfo, .ref mca, .ref mor, .ref mro, .ref mra, .ref mpr, .ref mho, .ref mis, .int 0, .ref mss, .ref msc, .ref msh, .int 100, .int 1])), (mic, .inl (cZ, 12, .inl (fun _ => 0))), (mfi, .inl (cI, 6, .inl (fun _ => 0)))]) [0, 1, 2] rfl
  have hDc := hD.sub (ws' := [(m0, .inr (7, [.int 0, .ref mfi, .long 0, .int 0, .ref mil, .ref mic, .ref mwi, .int 0, .int 0, .ref mmo, .int 0, .ref mki, .ref mce, .ref mgo, .ref mwa, .ref mha, .ref mch, .ref mfo, .ref mca, .ref mor, .ref mro, .ref mra, .ref mpr, .ref mho, .ref mis, .int 0, .ref mss, .ref msc, .ref msh, .int 100, .int 1])), (mic, .inl (cZ, 12, .inl (fun _ => 0))), (mfi, .inl (cI, 6, .inl (fun _ => 0)))]) [0, 1, 2] (by decide) rfl
  have hKc := hK.sub (tys' := [(cI, .int), (cZ, .boolean)]) [0, 1] rfl
  have hFc := va_free (wc := [(m0, .inr (7, [.int 0, .ref mfi, .long 0, .int 0, .ref mil, .ref mic, .ref mwi, .int 0, .int 0, .ref mmo, .int 0, .ref mki, .ref mce, .ref mgo, .ref mwa, .ref mha, .ref mch, .ref mfo, .ref mca, .ref mor, .ref mro, .ref mra, .ref mpr, .ref mho, .ref mis, .int 0, .ref mss, .ref msc, .ref msh, .int 100, .int 1])), (mic, .inl (cZ, 12, .inl (fun _ => 0))), (mfi, .inl (cI, 6, .inl (fun _ => 0)))]) hD hS hA [0, 1, 2] rfl
  refine va_calli (va_runV (As := [.int a0]) (rest := []) ⟨hx, hb, hml, hown, hts⟩ (c_X6_looked l dC dI s.heap.size m0 mfi mil mic mwi mmo mki mce mgo mwa mha mch mfo mca mor mro mra mpr mho mis mss msc msh cI cZ a0 ) (cwV 1 hts gX6_mean_X6_looked rfl rfl rfl (by decide +kernel) ⟨Nat.le_of_ble_eq_true rfl, Nat.le_of_ble_eq_true rfl⟩) ⟨fun a U g mk q => by obtain ⟨q0, q1, qP, qK, qN, qD⟩ := q; exact ⟨q0, q1, qP, va_K.moved (u := U) (U := U.calling g mk a) (Vm.Alike.refl U.vm) qK, NW.same (u := U) (U := U.calling g mk a) rfl qN, qD⟩, va_recv hKc hPc (ci := 7) (q0 := 0) rfl rfl, fun U hU hW => ⟨rfl, by rw [hU], by rw [hU]; exact hPc, va_K.moved hW.alike hKc, NW.warm hW hN, hDc.weaken (fun _ _ _ _ => trivial)⟩⟩ rfl rfl hl.1 rfl (lv_room (Nat.le_of_ble_eq_true rfl)) dX6_mean_2 ⟨(Nat.zero_le _), (Nat.zero_le _)⟩) hS (fun q _ h => hFc q h) hFc (fun r_1 u t H1 locs ht hvm k_2 hB hz1 hk1 hS => ?_)
  have hPr := hP.sub (ws' := []) [] rfl
  have hDr := hD.sub (ws' := []) [] (by decide) rfl
  have hP := wr_P hk1 hPr (va_apartR hD [0, 1, 2] [] rfl rfl (by decide))
  have hD := hDr
  generalize H1 = H at hP hS ⊢
  have hP : va_P (dC, dI) vwCl [] H := hP
  have hD : va_D A [] := hD
  try dsimp only at k_2
  refine lv_istore_n (lv' := [(2, .int r_1), (0, .ref m0), (1, .int a0)]) hx hb dX6_mean_5 rfl hl (by decide) rfl (fun ls hl => ?_)
  refine lv_iload_n hx hb dX6_mean_6 rfl (lv_at hl 0 rfl) ?_
  refine lv_if_ge (tgt := 12) hx hb dX6_mean_7 (by decide) (fun c_3 => ?_) (fun c_3 => ?_)
  · skip
    exfalso
    split at k_2
    all_goals (simp only [Int32.lt_iff_toInt_lt, Int32.le_iff_toInt_le, ← Int32.toInt_inj, Int32.reduceToInt] at k_2 c_3; omega)
  · skip
    refine lv_iload_n hx hb dX6_mean_10 rfl (lv_at hl 0 rfl) ?_
    exact W.iret (v := r_1) hx hb hr (fun t ht hW => ⟨⟨r_1, (), rfl, (by first | rfl | trivial | (simp only [Int32.lt_iff_toInt_lt, Int32.le_iff_toInt_le, ← Int32.toInt_inj, Int32.reduceToInt] at k_2 c_3 ⊢; (repeat' split) <;> first | rfl | omega) | (simp only [Int32.lt_iff_toInt_lt, Int32.le_iff_toInt_le, ← Int32.toInt_inj, Int32.reduceToInt] at *; omega) | grind), trivial⟩, hS.F ht⟩) hS.2.2 dX6_mean_11
set_option maxRecDepth 20000 in
theorem iw_X6_copy_X6 : ∀ w ∈ wsX60, w ∈ wsX6_copy := by decide +kernel
set_option maxHeartbeats 4000000 in
set_option maxRecDepth 100000 in
/-- the reference's copy, fresh -/
theorem c_X6_copy (l : Launch) (dC : Nat → ClassId) (dI : Nat → Nat → Nat) (sz : Nat) (m0 : Nat) (mfi : Nat) (mil : Nat) (mic : Nat) (mwi : Nat) (mmo : Nat) (mki : Nat) (mce : Nat) (mgo : Nat) (mwa : Nat) (mha : Nat) (mch : Nat) (mfo : Nat) (mca : Nat) (mor : Nat) (mro : Nat) (mra : Nat) (mpr : Nat) (mho : Nat) (mis : Nat) (mss : Nat) (msc : Nat) (msh : Nat) (cI : ClassId) (cZ : ClassId) (a0 : Int32) (a1 : Int32) (a2 : Int32) (a3 : Int32) (a4 : Int32)  : Met l yX6_copy wsX6_copy ({ frames := 2, cells := 0, slots := 0, locals := 42 }) (va_Pc [.ref m0, .int a0, .int a1, .int a2, .int a3, .int a4] (fun U => U.heap.size = sz ∧ va_P (dC, dI) vwCl [(m0, .inr (7, [.int 0, .ref mfi, .long 0, .int 0, .ref mil, .ref mic, .ref mwi, .int 0, .int 0, .ref mmo, .int 0, .ref mki, .ref mce, .ref mgo, .ref mwa, .ref mha, .ref mch, .ref mfo, .ref mca, .ref mor, .ref mro, .ref mra, .ref mpr, .ref mho, .ref mis, .int 0, .ref mss, .ref msc, .ref msh, .int 100, .int 1])), (mic, .inl (cZ, 12, .inl (fun _ => 0))), (mfi, .inl (cI, 6, .inl (fun _ => 0)))] U.heap ∧ va_K (dC, dI) vwCl [(cI, .int), (cZ, .boolean)] U ∧ NW U ∧ va_D (fun _ => True) [(m0, .inr (7, [.int 0, .ref mfi, .long 0, .int 0, .ref mil, .ref mic, .ref mwi, .int 0, .int 0, .ref mmo, .int 0, .ref mki, .ref mce, .ref mgo, .ref mwa, .ref mha, .ref mch, .ref mfo, .ref mca, .ref mor, .ref mro, .ref mra, .ref mpr, .ref mho, .ref mis, .int 0, .ref mss, .ref msc, .ref msh, .int 100, .int 1])), (mic, .inl (cZ, 12, .inl (fun _ => 0))), (mfi, .inl (cI, 6, .inl (fun _ => 0)))])) (va_Qi (fun (r : Int32) (_ : Unit) => r = if ((a0 < 0 ∨ 11 < a0) ∨ (a2 < 0 ∨ 11 < a2)) then (-1) else (-3)) (fun _ _ => True) (va_A [(m0, .inr (7, [.int 0, .ref mfi, .long 0, .int 0, .ref mil, .ref mic, .ref mwi, .int 0, .int 0, .ref mmo, .int 0, .ref mki, .ref mce, .ref mgo, .ref mwa, .ref mha, .ref mch, .ref mfo, .ref mca, .ref mor, .ref mro, .ref mra, .ref mpr, .ref mho, .ref mis, .int 0, .ref mss, .ref msc, .ref msh, .int 100, .int 1])), (mic, .inl (cZ, 12, .inl (fun _ => 0))), (mfi, .inl (cI, 6, .inl (fun _ => 0)))] sz)) 0 0 (va_A [(m0, .inr (7, [.int 0, .ref mfi, .long 0, .int 0, .ref mil, .ref mic, .ref mwi, .int 0, .int 0, .ref mmo, .int 0, .ref mki, .ref mce, .ref mgo, .ref mwa, .ref mha, .ref mch, .ref mfo, .ref mca, .ref mor, .ref mro, .ref mra, .ref mpr, .ref mho, .ref mis, .int 0, .ref mss, .ref msc, .ref msh, .int 100, .int 1])), (mic, .inl (cZ, 12, .inl (fun _ => 0))), (mfi, .inl (cI, 6, .inl (fun _ => 0)))] sz) := by
  refine Met.ofW (cc := cX6_copy) (maxL := 7) (ret := (some .int)) (by decide) rfl ?_
  intro p e s m args below meth c s₁ B hml hv
  obtain ⟨rfl, hsz, hP, hK, hN, hD0⟩ := hv
  have hx := B.exec
  have hb := B.bytes
  have hr := B.returns
  have hts := atoms_spec (ws := wsX6_copy) B.pre
  have hown : s.vm.findClass RX6 = some m.cls := findClass_of_methodNamed B.named
  have hlocks := B.notSynchronized
  subst hsz
  have hD := hD0.self (sz := s.heap.size)
  generalize hAe : va_A [(m0, .inr (7, [.int 0, .ref mfi, .long 0, .int 0, .ref mil, .ref mic, .ref mwi, .int 0, .int 0, .ref mmo, .int 0, .ref mki, .ref mce, .ref mgo, .ref mwa, .ref mha, .ref mch, .ref mfo, .ref mca, .ref mor, .ref mro, .ref mra, .ref mpr, .ref mho, .ref mis, .int 0, .ref mss, .ref msc, .ref msh, .int 100, .int 1])), (mic, .inl (cZ, 12, .inl (fun _ => 0))), (mfi, .inl (cI, 6, .inl (fun _ => 0)))] s.heap.size = A at hD ⊢
  have hA : ∀ q : Nat, s.heap.size ≤ q → A q := fun q h => by rw [← hAe]; exact Or.inr h
  have hS : va_S A s.heap s.heap [] := va_S.rf
  have hP : va_P (dC, dI) vwCl [(m0, .inr (7, [.int 0, .ref mfi, .long 0, .int 0, .ref mil, .ref mic, .ref mwi, .int 0, .int 0, .ref mmo, .int 0, .ref mki, .ref mce, .ref mgo, .ref mwa, .ref mha, .ref mch, .ref mfo, .ref mca, .ref mor, .ref mro, .ref mra, .ref mpr, .ref mho, .ref mis, .int 0, .ref mss, .ref msc, .ref msh, .int 100, .int 1])), (mic, .inl (cZ, 12, .inl (fun _ => 0))), (mfi, .inl (cI, 6, .inl (fun _ => 0)))] s.heap := hP
  have hl := lv_entry ([.ref m0, .int a0, .int a1, .int a2, .int a3, .int a4]) (n := 7) (Nat.le_of_ble_eq_true rfl)
  rw [lg_entry_eq]
  generalize (lg_sl ([.ref m0, .int a0, .int a1, .int a2, .int a3, .int a4]) ++ List.replicate (7 - (lg_sl ([.ref m0, .int a0, .int a1, .int a2, .int a3, .int a4])).length) Slot.unset).toArray = ls at hl ⊢
  have hl : lv_has ls 7 [(0, .ref m0), (1, .int a0), (2, .int a1), (3, .int a2), (4, .int a3), (5, .int a4)] := hl
  refine lv_iload_n hx hb dX6_copy_0 rfl (lv_at hl 1 rfl) ?_
  refine va_calli (va_runS (As := [.int a0]) (rest := []) ⟨hx, hb, hml, hown, hts⟩ (c_X6_isMonth l s.heap.size a0 ) (va_cwS 1 hts gX6_copy_X6_isMonth rfl rfl rfl (by decide +kernel) ⟨Nat.le_of_ble_eq_true rfl, Nat.le_of_ble_eq_true rfl⟩) ⟨fun a U g mk q => by obtain ⟨q0, q1⟩ := q; exact ⟨q0, q1⟩, fun U hU hW => ⟨rfl, congrArg Array.size hU⟩⟩ rfl rfl hl.1 rfl (lv_room (Nat.le_of_ble_eq_true rfl)) dX6_copy_1 ⟨(Nat.zero_le _), (Nat.zero_le _)⟩) hS (fun q _ h => ro_A hS hA q h) (ro_A hS hA) (fun r_1 u t H1 locs ht hvm k_2 hB hz1 hk1 hS => ?_)
  have hP := ro_P hk1 hP
  generalize H1 = H at hP hS ⊢
  try dsimp only at k_2
  refine lv_if_eq (tgt := 14) hx hb dX6_copy_4 (by decide) (fun c_3 => ?_) (fun c_3 => ?_)
  · skip
    have b_4 := b01z k_2 c_3
    refine lv_iconst (v := (-1)) hx hb dX6_copy_14 (by decide) ?_
    exact W.iret (v := (-1)) hx hb hr (fun t ht hW => ⟨⟨(-1), (), rfl, (by first | rfl | trivial | (simp only [Int32.lt_iff_toInt_lt, Int32.le_iff_toInt_le, ← Int32.toInt_inj, Int32.reduceToInt] at b_4 ⊢; (repeat' split) <;> first | rfl | omega) | (simp only [Int32.lt_iff_toInt_lt, Int32.le_iff_toInt_le, ← Int32.toInt_inj, Int32.reduceToInt] at *; omega) | grind), trivial⟩, hS.F ht⟩) hS.2.2 dX6_copy_15
  · skip
    have b_5 := b01n k_2 c_3
    refine lv_iload_n hx hb dX6_copy_7 rfl (lv_at hl 3 rfl) ?_
    refine va_calli (va_runS (As := [.int a2]) (rest := []) ⟨hx, hb, hml, hown, hts⟩ (c_X6_isMonth l H.size a2 ) (va_cwS 1 hts gX6_copy_X6_isMonth rfl rfl rfl (by decide +kernel) ⟨Nat.le_of_ble_eq_true rfl, Nat.le_of_ble_eq_true rfl⟩) ⟨fun a U g mk q => by obtain ⟨q0, q1⟩ := q; exact ⟨q0, q1⟩, fun U hU hW => ⟨rfl, congrArg Array.size hU⟩⟩ rfl rfl hl.1 rfl (lv_room (Nat.le_of_ble_eq_true rfl)) dX6_copy_8 ⟨(Nat.zero_le _), (Nat.zero_le _)⟩) hS (fun q _ h => ro_A hS hA q h) (ro_A hS hA) (fun r_6 u t H1 locs ht hvm k_7 hB hz1 hk1 hS => ?_)
    have hP := ro_P hk1 hP
    generalize H1 = H at hP hS ⊢
    try dsimp only at k_7
    refine lv_if_ne (tgt := 16) hx hb dX6_copy_11 (by decide) (fun c_8 => ?_) (fun c_8 => ?_)
    · skip
      have b_9 := b01n k_7 c_8
      refine lv_iload hx hb dX6_copy_16 (lv_at hl 5 rfl) ?_
      refine lv_if_ge (tgt := 27) hx hb dX6_copy_18 (by decide) (fun c_10 => ?_) (fun c_10 => ?_)
      · skip
        refine lv_aload_n hx hb dX6_copy_27 rfl (lv_at hl 0 rfl) ?_
        refine va_get (D := (dC, dI)) (ci := 7) (v := .ref mic) (C := RX6) (T := TX6) (N := 31) hx hb hts iw_X6_copy_X6 hown hK hP 0 rfl rfl 5 (by decide) (hts (.fieldLink RX6 17 "TeaRaceModel" "isChart" "[Z") (by decide +kernel)) (fun _ h9 => h9) rfl dX6_copy_28 ?_
        refine lv_iload_n hx hb dX6_copy_31 rfl (lv_at hl 1 rfl) ?_
        refine va_zald hx hb hK hP 1 1 rfl rfl (vp_in_iff.mpr (by (try simp only [Int32.lt_iff_toInt_lt, Int32.le_iff_toInt_le, ← Int32.toInt_inj, Int32.reduceToInt] at b_5 b_9 c_10 ⊢); omega)) dX6_copy_32 ?_
        refine lv_topi (fun x_11 ex_11 => ?_)
        obtain rfl : x_11 = 0 := ex_11
        refine lv_if_eq (tgt := 45) hx hb dX6_copy_33 (by decide) (fun c_12 => ?_) (fun c_12 => ?_)
        · skip
          refine lv_aload_n hx hb dX6_copy_45 rfl (lv_at hl 0 rfl) ?_
          refine lv_iconst (v := 1) hx hb dX6_copy_46 (by decide) ?_
          have hPc := hP.sub (ws' := [(m0, .inr (7, [.int 0, .ref mfi, .long 0, .int 0, .ref mil, .ref mic, .ref mwi, .int 0, .int 0, .ref mmo, .int 0, .ref mki, .ref mce, .ref mgo, .ref mwa, .ref mha, .ref mch, .ref mfo, .ref mca, .ref mor, .ref mro, .ref mra, .ref mpr, .ref mho, .ref mis, .int 0, .ref mss, .ref msc, .ref msh, .int 100, .int 1])), (mfi, .inl (cI, 6, .inl (fun _ => 0)))]) [0, 2] rfl
          have hDc := hD.sub (ws' := [(m0, .inr (7, [.int 0, .ref mfi, .long 0, .int 0, .ref mil, .ref mic, .ref mwi, .int 0, .int 0, .ref mmo, .int 0, .ref mki, .ref mce, .ref mgo, .ref mwa, .ref mha, .ref mch, .ref mfo, .ref mca, .ref mor, .ref mro, .ref mra, .ref mpr, .ref mho, .ref mis, .int 0, .ref mss, .ref msc, .ref msh, .int 100, .int 1])), (mfi, .inl (cI, 6, .inl (fun _ => 0)))]) [0, 2] (by decide) rfl
          have hKc := hK.sub (tys' := [(cI, .int)]) [0] rfl
          have hFc := va_free (wc := [(m0, .inr (7, [.int 0, .ref mfi, .long 0, .int 0, .ref mil, .ref mic, .ref mwi, .int 0, .int 0, .ref mmo, .int 0, .ref mki, .ref mce, .ref mgo, .ref mwa, .ref mha, .ref mch, .ref mfo, .ref mca, .ref mor, .ref mro, .ref mra, .ref mpr, .ref mho, .ref mis, .int 0, .ref mss, .ref msc, .ref msh, .int 100, .int 1])), (mfi, .inl (cI, 6, .inl (fun _ => 0)))]) hD hS hA [0, 2] rfl
          refine va_calli (va_runV (As := [.int 1]) (rest := []) ⟨hx, hb, hml, hown, hts⟩ (c_X6_meets l dC dI H.size m0 mfi mil mic mwi mmo mki mce mgo mwa mha mch mfo mca mor mro mra mpr mho mis mss msc msh cI 1 (by (try simp only [Int32.lt_iff_toInt_lt, Int32.le_iff_toInt_le, ← Int32.toInt_inj, Int32.reduceToInt] at b_5 b_9 c_10 ⊢); omega)) (cwV 1 hts gX6_copy_X6_meets rfl rfl rfl (by decide +kernel) ⟨Nat.le_of_ble_eq_true rfl, Nat.le_of_ble_eq_true rfl⟩) ⟨fun a U g mk q => by obtain ⟨q0, q1, qP, qK, qN, qD⟩ := q; exact ⟨q0, q1, qP, va_K.moved (u := U) (U := U.calling g mk a) (Vm.Alike.refl U.vm) qK, NW.same (u := U) (U := U.calling g mk a) rfl qN, qD⟩, va_recv hKc hPc (ci := 7) (q0 := 0) rfl rfl, fun U hU hW => ⟨rfl, by rw [hU], by rw [hU]; exact hPc, va_K.moved hW.alike hKc, NW.warm hW hN, hDc.weaken (fun _ _ _ _ => trivial)⟩⟩ rfl rfl hl.1 rfl (lv_room (Nat.le_of_ble_eq_true rfl)) dX6_copy_47 ⟨(Nat.zero_le _), (Nat.zero_le _)⟩) hS (fun q _ h => hFc q h) hFc (fun r_13 u t H1 locs ht hvm k_14 hB hz1 hk1 hS => ?_)
          have hPr := hP.sub (ws' := [(mic, .inl (cZ, 12, .inl (fun _ => 0)))]) [1] rfl
          have hDr := hD.sub (ws' := [(mic, .inl (cZ, 12, .inl (fun _ => 0)))]) [1] (by decide) rfl
          have hP := wr_P hk1 hPr (va_apartR hD [0, 2] [1] rfl rfl (by decide))
          have hD := hDr
          generalize H1 = H at hP hS ⊢
          have hP : va_P (dC, dI) vwCl [(mic, .inl (cZ, 12, .inl (fun _ => 0)))] H := hP
          have hD : va_D A [(mic, .inl (cZ, 12, .inl (fun _ => 0)))] := hD
          try dsimp only at k_14
          obtain rfl : r_13 = (-3) := k_14
          exact W.iret (v := (-3)) hx hb hr (fun t ht hW => ⟨⟨(-3), (), rfl, (by first | rfl | trivial | (simp only [Int32.lt_iff_toInt_lt, Int32.le_iff_toInt_le, ← Int32.toInt_inj, Int32.reduceToInt] at b_5 b_9 c_10 ⊢; (repeat' split) <;> first | rfl | omega) | (simp only [Int32.lt_iff_toInt_lt, Int32.le_iff_toInt_le, ← Int32.toInt_inj, Int32.reduceToInt] at *; omega) | grind), trivial⟩, hS.F ht⟩) hS.2.2 dX6_copy_50
        · skip
          exact absurd (by decide) c_12
      · skip
        refine lv_aload_n hx hb dX6_copy_21 rfl (lv_at hl 0 rfl) ?_
        refine lv_iconst (v := 5) hx hb dX6_copy_22 (by decide) ?_
        have hPc := hP.sub (ws' := [(m0, .inr (7, [.int 0, .ref mfi, .long 0, .int 0, .ref mil, .ref mic, .ref mwi, .int 0, .int 0, .ref mmo, .int 0, .ref mki, .ref mce, .ref mgo, .ref mwa, .ref mha, .ref mch, .ref mfo, .ref mca, .ref mor, .ref mro, .ref mra, .ref mpr, .ref mho, .ref mis, .int 0, .ref mss, .ref msc, .ref msh, .int 100, .int 1])), (mfi, .inl (cI, 6, .inl (fun _ => 0)))]) [0, 2] rfl
        have hDc := hD.sub (ws' := [(m0, .inr (7, [.int 0, .ref mfi, .long 0, .int 0, .ref mil, .ref mic, .ref mwi, .int 0, .int 0, .ref mmo, .int 0, .ref mki, .ref mce, .ref mgo, .ref mwa, .ref mha, .ref mch, .ref mfo, .ref mca, .ref mor, .ref mro, .ref mra, .ref mpr, .ref mho, .ref mis, .int 0, .ref mss, .ref msc, .ref msh, .int 100, .int 1])), (mfi, .inl (cI, 6, .inl (fun _ => 0)))]) [0, 2] (by decide) rfl
        have hKc := hK.sub (tys' := [(cI, .int)]) [0] rfl
        have hFc := va_free (wc := [(m0, .inr (7, [.int 0, .ref mfi, .long 0, .int 0, .ref mil, .ref mic, .ref mwi, .int 0, .int 0, .ref mmo, .int 0, .ref mki, .ref mce, .ref mgo, .ref mwa, .ref mha, .ref mch, .ref mfo, .ref mca, .ref mor, .ref mro, .ref mra, .ref mpr, .ref mho, .ref mis, .int 0, .ref mss, .ref msc, .ref msh, .int 100, .int 1])), (mfi, .inl (cI, 6, .inl (fun _ => 0)))]) hD hS hA [0, 2] rfl
        refine va_calli (va_runV (As := [.int 5]) (rest := []) ⟨hx, hb, hml, hown, hts⟩ (c_X6_meets l dC dI H.size m0 mfi mil mic mwi mmo mki mce mgo mwa mha mch mfo mca mor mro mra mpr mho mis mss msc msh cI 5 (by (try simp only [Int32.lt_iff_toInt_lt, Int32.le_iff_toInt_le, ← Int32.toInt_inj, Int32.reduceToInt] at b_5 b_9 c_10 ⊢); omega)) (cwV 1 hts gX6_copy_X6_meets rfl rfl rfl (by decide +kernel) ⟨Nat.le_of_ble_eq_true rfl, Nat.le_of_ble_eq_true rfl⟩) ⟨fun a U g mk q => by obtain ⟨q0, q1, qP, qK, qN, qD⟩ := q; exact ⟨q0, q1, qP, va_K.moved (u := U) (U := U.calling g mk a) (Vm.Alike.refl U.vm) qK, NW.same (u := U) (U := U.calling g mk a) rfl qN, qD⟩, va_recv hKc hPc (ci := 7) (q0 := 0) rfl rfl, fun U hU hW => ⟨rfl, by rw [hU], by rw [hU]; exact hPc, va_K.moved hW.alike hKc, NW.warm hW hN, hDc.weaken (fun _ _ _ _ => trivial)⟩⟩ rfl rfl hl.1 rfl (lv_room (Nat.le_of_ble_eq_true rfl)) dX6_copy_23 ⟨(Nat.zero_le _), (Nat.zero_le _)⟩) hS (fun q _ h => hFc q h) hFc (fun r_15 u t H1 locs ht hvm k_16 hB hz1 hk1 hS => ?_)
        have hPr := hP.sub (ws' := [(mic, .inl (cZ, 12, .inl (fun _ => 0)))]) [1] rfl
        have hDr := hD.sub (ws' := [(mic, .inl (cZ, 12, .inl (fun _ => 0)))]) [1] (by decide) rfl
        have hP := wr_P hk1 hPr (va_apartR hD [0, 2] [1] rfl rfl (by decide))
        have hD := hDr
        generalize H1 = H at hP hS ⊢
        have hP : va_P (dC, dI) vwCl [(mic, .inl (cZ, 12, .inl (fun _ => 0)))] H := hP
        have hD : va_D A [(mic, .inl (cZ, 12, .inl (fun _ => 0)))] := hD
        try dsimp only at k_16
        obtain rfl : r_15 = (-3) := k_16
        exact W.iret (v := (-3)) hx hb hr (fun t ht hW => ⟨⟨(-3), (), rfl, (by first | rfl | trivial | (simp only [Int32.lt_iff_toInt_lt, Int32.le_iff_toInt_le, ← Int32.toInt_inj, Int32.reduceToInt] at b_5 b_9 c_10 ⊢; (repeat' split) <;> first | rfl | omega) | (simp only [Int32.lt_iff_toInt_lt, Int32.le_iff_toInt_le, ← Int32.toInt_inj, Int32.reduceToInt] at *; omega) | grind), trivial⟩, hS.F ht⟩) hS.2.2 dX6_copy_26
    · skip
      have b_17 := b01z k_7 c_8
      refine lv_iconst (v := (-1)) hx hb dX6_copy_14 (by decide) ?_
      exact W.iret (v := (-1)) hx hb hr (fun t ht hW => ⟨⟨(-1), (), rfl, (by first | rfl | trivial | (simp only [Int32.lt_iff_toInt_lt, Int32.le_iff_toInt_le, ← Int32.toInt_inj, Int32.reduceToInt] at b_5 b_17 ⊢; (repeat' split) <;> first | rfl | omega) | (simp only [Int32.lt_iff_toInt_lt, Int32.le_iff_toInt_le, ← Int32.toInt_inj, Int32.reduceToInt] at *; omega) | grind), trivial⟩, hS.F ht⟩) hS.2.2 dX6_copy_15
set_option maxRecDepth 20000 in
theorem iw_X6_ship_X6 : ∀ w ∈ wsX60, w ∈ wsX6_ship := by decide +kernel
set_option maxHeartbeats 4000000 in
set_option maxRecDepth 100000 in
/-- the reference's ship, fresh -/
theorem c_X6_ship (l : Launch) (dC : Nat → ClassId) (dI : Nat → Nat → Nat) (sz : Nat) (m0 : Nat) (mfi : Nat) (mil : Nat) (mic : Nat) (mwi : Nat) (mmo : Nat) (mki : Nat) (mce : Nat) (mgo : Nat) (mwa : Nat) (mha : Nat) (mch : Nat) (mfo : Nat) (mca : Nat) (mor : Nat) (mro : Nat) (mra : Nat) (mpr : Nat) (mho : Nat) (mis : Nat) (mss : Nat) (msc : Nat) (msh : Nat) (cI : ClassId) (cZ : ClassId) (a0 : Int32) (a1 : Int32) (a2 : Int32)  : Met l yX6_ship wsX6_ship ({ frames := 2, cells := 0, slots := 0, locals := 42 }) (va_Pc [.ref m0, .int a0, .int a1, .int a2] (fun U => U.heap.size = sz ∧ va_P (dC, dI) vwCl [(m0, .inr (7, [.int 0, .ref mfi, .long 0, .int 0, .ref mil, .ref mic, .ref mwi, .int 0, .int 0, .ref mmo, .int 0, .ref mki, .ref mce, .ref mgo, .ref mwa, .ref mha, .ref mch, .ref mfo, .ref mca, .ref mor, .ref mro, .ref mra, .ref mpr, .ref mho, .ref mis, .int 0, .ref mss, .ref msc, .ref msh, .int 100, .int 1])), (mil, .inl (cZ, 160, .inl (fun _ => 0))), (mki, .inl (cI, 8, .inl (fun _ => 0))), (mce, .inl (cI, 8, .inl (fun _ => 0))), (mch, .inl (cI, 8, .inl (fun _ => 0))), (mha, .inl (cI, 8, .inl (fun _ => 0)))] U.heap ∧ va_K (dC, dI) vwCl [(cI, .int), (cZ, .boolean)] U ∧ NW U ∧ va_D (fun _ => True) [(m0, .inr (7, [.int 0, .ref mfi, .long 0, .int 0, .ref mil, .ref mic, .ref mwi, .int 0, .int 0, .ref mmo, .int 0, .ref mki, .ref mce, .ref mgo, .ref mwa, .ref mha, .ref mch, .ref mfo, .ref mca, .ref mor, .ref mro, .ref mra, .ref mpr, .ref mho, .ref mis, .int 0, .ref mss, .ref msc, .ref msh, .int 100, .int 1])), (mil, .inl (cZ, 160, .inl (fun _ => 0))), (mki, .inl (cI, 8, .inl (fun _ => 0))), (mce, .inl (cI, 8, .inl (fun _ => 0))), (mch, .inl (cI, 8, .inl (fun _ => 0))), (mha, .inl (cI, 8, .inl (fun _ => 0)))])) (va_Qi (fun (r : Int32) (_ : Unit) => r = if ((a0 < 0 ∨ 3 < a0) ∨ (a1 < 0 ∨ 159 < a1) ∨ (a2 < 0 ∨ 20000 < a2)) then (-1) else 0) (fun _ _ => True) (va_A [(m0, .inr (7, [.int 0, .ref mfi, .long 0, .int 0, .ref mil, .ref mic, .ref mwi, .int 0, .int 0, .ref mmo, .int 0, .ref mki, .ref mce, .ref mgo, .ref mwa, .ref mha, .ref mch, .ref mfo, .ref mca, .ref mor, .ref mro, .ref mra, .ref mpr, .ref mho, .ref mis, .int 0, .ref mss, .ref msc, .ref msh, .int 100, .int 1])), (mil, .inl (cZ, 160, .inl (fun _ => 0))), (mki, .inl (cI, 8, .inl (fun _ => 0))), (mce, .inl (cI, 8, .inl (fun _ => 0))), (mch, .inl (cI, 8, .inl (fun _ => 0))), (mha, .inl (cI, 8, .inl (fun _ => 0)))] sz)) 0 0 (va_A [(m0, .inr (7, [.int 0, .ref mfi, .long 0, .int 0, .ref mil, .ref mic, .ref mwi, .int 0, .int 0, .ref mmo, .int 0, .ref mki, .ref mce, .ref mgo, .ref mwa, .ref mha, .ref mch, .ref mfo, .ref mca, .ref mor, .ref mro, .ref mra, .ref mpr, .ref mho, .ref mis, .int 0, .ref mss, .ref msc, .ref msh, .int 100, .int 1])), (mil, .inl (cZ, 160, .inl (fun _ => 0))), (mki, .inl (cI, 8, .inl (fun _ => 0))), (mce, .inl (cI, 8, .inl (fun _ => 0))), (mch, .inl (cI, 8, .inl (fun _ => 0))), (mha, .inl (cI, 8, .inl (fun _ => 0)))] sz) := by
  refine Met.ofW (cc := cX6_ship) (maxL := 4) (ret := (some .int)) (by decide) rfl ?_
  intro p e s m args below meth c s₁ B hml hv
  obtain ⟨rfl, hsz, hP, hK, hN, hD0⟩ := hv
  have hx := B.exec
  have hb := B.bytes
  have hr := B.returns
  have hts := atoms_spec (ws := wsX6_ship) B.pre
  have hown : s.vm.findClass RX6 = some m.cls := findClass_of_methodNamed B.named
  have hlocks := B.notSynchronized
  subst hsz
  have hD := hD0.self (sz := s.heap.size)
  generalize hAe : va_A [(m0, .inr (7, [.int 0, .ref mfi, .long 0, .int 0, .ref mil, .ref mic, .ref mwi, .int 0, .int 0, .ref mmo, .int 0, .ref mki, .ref mce, .ref mgo, .ref mwa, .ref mha, .ref mch, .ref mfo, .ref mca, .ref mor, .ref mro, .ref mra, .ref mpr, .ref mho, .ref mis, .int 0, .ref mss, .ref msc, .ref msh, .int 100, .int 1])), (mil, .inl (cZ, 160, .inl (fun _ => 0))), (mki, .inl (cI, 8, .inl (fun _ => 0))), (mce, .inl (cI, 8, .inl (fun _ => 0))), (mch, .inl (cI, 8, .inl (fun _ => 0))), (mha, .inl (cI, 8, .inl (fun _ => 0)))] s.heap.size = A at hD ⊢
  have hA : ∀ q : Nat, s.heap.size ≤ q → A q := fun q h => by rw [← hAe]; exact Or.inr h
  have hS : va_S A s.heap s.heap [] := va_S.rf
  have hP : va_P (dC, dI) vwCl [(m0, .inr (7, [.int 0, .ref mfi, .long 0, .int 0, .ref mil, .ref mic, .ref mwi, .int 0, .int 0, .ref mmo, .int 0, .ref mki, .ref mce, .ref mgo, .ref mwa, .ref mha, .ref mch, .ref mfo, .ref mca, .ref mor, .ref mro, .ref mra, .ref mpr, .ref mho, .ref mis, .int 0, .ref mss, .ref msc, .ref msh, .int 100, .int 1])), (mil, .inl (cZ, 160, .inl (fun _ => 0))), (mki, .inl (cI, 8, .inl (fun _ => 0))), (mce, .inl (cI, 8, .inl (fun _ => 0))), (mch, .inl (cI, 8, .inl (fun _ => 0))), (mha, .inl (cI, 8, .inl (fun _ => 0)))] s.heap := hP
  have hl := lv_entry ([.ref m0, .int a0, .int a1, .int a2]) (n := 4) (Nat.le_of_ble_eq_true rfl)
  rw [lg_entry_eq]
  generalize (lg_sl ([.ref m0, .int a0, .int a1, .int a2]) ++ List.replicate (4 - (lg_sl ([.ref m0, .int a0, .int a1, .int a2])).length) Slot.unset).toArray = ls at hl ⊢
  have hl : lv_has ls 4 [(0, .ref m0), (1, .int a0), (2, .int a1), (3, .int a2)] := hl
  refine lv_iload_n hx hb dX6_ship_0 rfl (lv_at hl 1 rfl) ?_
  refine lv_iconst (v := 0) hx hb dX6_ship_1 (by decide) ?_
  refine lv_iconst (v := 3) hx hb dX6_ship_2 (by decide) ?_
  refine va_calli (va_runS (As := [.int a0, .int 0, .int 3]) (rest := []) ⟨hx, hb, hml, hown, hts⟩ (c_X6_in l s.heap.size a0 0 3 ) (va_cwS 3 hts gX6_ship_X6_in rfl rfl rfl (by decide +kernel) ⟨Nat.le_of_ble_eq_true rfl, Nat.le_of_ble_eq_true rfl⟩) ⟨fun a U g mk q => by obtain ⟨q0, q1⟩ := q; exact ⟨q0, q1⟩, fun U hU hW => ⟨rfl, congrArg Array.size hU⟩⟩ rfl rfl hl.1 rfl (lv_room (Nat.le_of_ble_eq_true rfl)) dX6_ship_3 ⟨(Nat.zero_le _), (Nat.zero_le _)⟩) hS (fun q _ h => ro_A hS hA q h) (ro_A hS hA) (fun r_1 u t H1 locs ht hvm k_2 hB hz1 hk1 hS => ?_)
  have hP := ro_P hk1 hP
  generalize H1 = H at hP hS ⊢
  try dsimp only at k_2
  refine lv_if_eq (tgt := 36) hx hb dX6_ship_6 (by decide) (fun c_3 => ?_) (fun c_3 => ?_)
  · skip
    have b_4 := b01z k_2 c_3
    refine lv_iconst (v := (-1)) hx hb dX6_ship_36 (by decide) ?_
    exact W.iret (v := (-1)) hx hb hr (fun t ht hW => ⟨⟨(-1), (), rfl, (by first | rfl | trivial | (simp only [Int32.lt_iff_toInt_lt, Int32.le_iff_toInt_le, ← Int32.toInt_inj, Int32.reduceToInt] at b_4 ⊢; (repeat' split) <;> first | rfl | omega) | (simp only [Int32.lt_iff_toInt_lt, Int32.le_iff_toInt_le, ← Int32.toInt_inj, Int32.reduceToInt] at *; omega) | grind), trivial⟩, hS.F ht⟩) hS.2.2 dX6_ship_37
  · skip
    have b_5 := b01n k_2 c_3
    refine lv_iload_n hx hb dX6_ship_9 rfl (lv_at hl 2 rfl) ?_
    refine va_calli (va_runS (As := [.int a1]) (rest := []) ⟨hx, hb, hml, hown, hts⟩ (c_X6_isCell l H.size a1 ) (va_cwS 1 hts gX6_ship_X6_isCell rfl rfl rfl (by decide +kernel) ⟨Nat.le_of_ble_eq_true rfl, Nat.le_of_ble_eq_true rfl⟩) ⟨fun a U g mk q => by obtain ⟨q0, q1⟩ := q; exact ⟨q0, q1⟩, fun U hU hW => ⟨rfl, congrArg Array.size hU⟩⟩ rfl rfl hl.1 rfl (lv_room (Nat.le_of_ble_eq_true rfl)) dX6_ship_10 ⟨(Nat.zero_le _), (Nat.zero_le _)⟩) hS (fun q _ h => ro_A hS hA q h) (ro_A hS hA) (fun r_6 u t H1 locs ht hvm k_7 hB hz1 hk1 hS => ?_)
    have hP := ro_P hk1 hP
    generalize H1 = H at hP hS ⊢
    try dsimp only at k_7
    refine lv_if_eq (tgt := 36) hx hb dX6_ship_13 (by decide) (fun c_8 => ?_) (fun c_8 => ?_)
    · skip
      have b_9 := b01z k_7 c_8
      refine lv_iconst (v := (-1)) hx hb dX6_ship_36 (by decide) ?_
      exact W.iret (v := (-1)) hx hb hr (fun t ht hW => ⟨⟨(-1), (), rfl, (by first | rfl | trivial | (simp only [Int32.lt_iff_toInt_lt, Int32.le_iff_toInt_le, ← Int32.toInt_inj, Int32.reduceToInt] at b_5 b_9 ⊢; (repeat' split) <;> first | rfl | omega) | (simp only [Int32.lt_iff_toInt_lt, Int32.le_iff_toInt_le, ← Int32.toInt_inj, Int32.reduceToInt] at *; omega) | grind), trivial⟩, hS.F ht⟩) hS.2.2 dX6_ship_37
    · skip
      have b_10 := b01n k_7 c_8
      refine lv_aload_n hx hb dX6_ship_16 rfl (lv_at hl 0 rfl) ?_
      refine va_get (D := (dC, dI)) (ci := 7) (v := .ref mil) (C := RX6) (T := TX6) (N := 31) hx hb hts iw_X6_ship_X6 hown hK hP 0 rfl rfl 4 (by decide) (hts (.fieldLink RX6 13 "TeaRaceModel" "isLand" "[Z") (by decide +kernel)) (fun _ h9 => h9) rfl dX6_ship_17 ?_
      refine lv_iload_n hx hb dX6_ship_20 rfl (lv_at hl 2 rfl) ?_
      refine va_zald hx hb hK hP 1 1 rfl rfl (vp_in_iff.mpr (by (try simp only [Int32.lt_iff_toInt_lt, Int32.le_iff_toInt_le, ← Int32.toInt_inj, Int32.reduceToInt] at b_5 b_10 ⊢); omega)) dX6_ship_21 ?_
      refine lv_topi (fun x_11 ex_11 => ?_)
      obtain rfl : x_11 = 0 := ex_11
      refine lv_if_ne (tgt := 36) hx hb dX6_ship_22 (by decide) (fun c_12 => ?_) (fun c_12 => ?_)
      · skip
        exact absurd (by decide) c_12
      · skip
        refine lv_iload_n hx hb dX6_ship_25 rfl (lv_at hl 3 rfl) ?_
        refine lv_iconst (v := 0) hx hb dX6_ship_26 (by decide) ?_
        refine lv_sipush (v := 20000) hx hb dX6_ship_27 (by decide) ?_
        refine va_calli (va_runS (As := [.int a2, .int 0, .int 20000]) (rest := []) ⟨hx, hb, hml, hown, hts⟩ (c_X6_in l H.size a2 0 20000 ) (va_cwS 3 hts gX6_ship_X6_in rfl rfl rfl (by decide +kernel) ⟨Nat.le_of_ble_eq_true rfl, Nat.le_of_ble_eq_true rfl⟩) ⟨fun a U g mk q => by obtain ⟨q0, q1⟩ := q; exact ⟨q0, q1⟩, fun U hU hW => ⟨rfl, congrArg Array.size hU⟩⟩ rfl rfl hl.1 rfl (lv_room (Nat.le_of_ble_eq_true rfl)) dX6_ship_30 ⟨(Nat.zero_le _), (Nat.zero_le _)⟩) hS (fun q _ h => ro_A hS hA q h) (ro_A hS hA) (fun r_13 u t H1 locs ht hvm k_14 hB hz1 hk1 hS => ?_)
        have hP := ro_P hk1 hP
        generalize H1 = H at hP hS ⊢
        try dsimp only at k_14
        refine lv_if_ne (tgt := 38) hx hb dX6_ship_33 (by decide) (fun c_15 => ?_) (fun c_15 => ?_)
        · skip
          have b_16 := b01n k_14 c_15
          refine lv_aload_n hx hb dX6_ship_38 rfl (lv_at hl 0 rfl) ?_
          refine va_get (D := (dC, dI)) (ci := 7) (v := .int 0) (C := RX6) (T := TX6) (N := 31) hx hb hts iw_X6_ship_X6 hown hK hP 0 rfl rfl 10 (by decide) (hts (.fieldLink RX6 110 "TeaRaceModel" "ships" "I") (by decide +kernel)) (fun _ h9 => h9) rfl dX6_ship_39 ?_
          refine lv_bipush (v := 8) hx hb dX6_ship_42 (by decide) ?_
          refine lv_icmp_ne (tgt := 50) hx hb dX6_ship_44 (by decide) (fun c_17 => ?_) (fun c_17 => ?_)
          · skip
            refine lv_aload_n hx hb dX6_ship_50 rfl (lv_at hl 0 rfl) ?_
            refine va_get (D := (dC, dI)) (ci := 7) (v := .int 0) (C := RX6) (T := TX6) (N := 31) hx hb hts iw_X6_ship_X6 hown hK hP 0 rfl rfl 3 (by decide) (hts (.fieldLink RX6 113 "TeaRaceModel" "hour" "I") (by decide +kernel)) (fun _ h9 => h9) rfl dX6_ship_51 ?_
            refine lv_if_eq (tgt := 60) hx hb dX6_ship_54 (by decide) (fun c_18 => ?_) (fun c_18 => ?_)
            · skip
              refine lv_aload_n hx hb dX6_ship_60 rfl (lv_at hl 0 rfl) ?_
              refine va_get (D := (dC, dI)) (ci := 7) (v := .ref mki) (C := RX6) (T := TX6) (N := 31) hx hb hts iw_X6_ship_X6 hown hK hP 0 rfl rfl 11 (by decide) (hts (.fieldLink RX6 26 "TeaRaceModel" "kinds" "[I") (by decide +kernel)) (fun _ h9 => h9) rfl dX6_ship_61 ?_
              refine lv_aload_n hx hb dX6_ship_64 rfl (lv_at hl 0 rfl) ?_
              refine va_get (D := (dC, dI)) (ci := 7) (v := .int 0) (C := RX6) (T := TX6) (N := 31) hx hb hts iw_X6_ship_X6 hown hK hP 0 rfl rfl 10 (by decide) (hts (.fieldLink RX6 110 "TeaRaceModel" "ships" "I") (by decide +kernel)) (fun _ h9 => h9) rfl dX6_ship_65 ?_
              refine lv_iload_n hx hb dX6_ship_68 rfl (lv_at hl 1 rfl) ?_
              refine va_iast hx hb hK hP hD hS 2 0 rfl rfl (vp_in_iff.mpr (by decide +kernel)) dX6_ship_69 (fun H locs hP hD hS => ?_)
              have hP : va_P (dC, dI) vwCl [(m0, .inr (7, [.int 0, .ref mfi, .long 0, .int 0, .ref mil, .ref mic, .ref mwi, .int 0, .int 0, .ref mmo, .int 0, .ref mki, .ref mce, .ref mgo, .ref mwa, .ref mha, .ref mch, .ref mfo, .ref mca, .ref mor, .ref mro, .ref mra, .ref mpr, .ref mho, .ref mis, .int 0, .ref mss, .ref msc, .ref msh, .int 100, .int 1])), (mil, .inl (cZ, 160, .inl (fun _ => 0))), (mki, .inl (cI, 8, .inl (upd (fun _ => 0) (0 : Int32).toNatClampNeg a0))), (mce, .inl (cI, 8, .inl (fun _ => 0))), (mch, .inl (cI, 8, .inl (fun _ => 0))), (mha, .inl (cI, 8, .inl (fun _ => 0)))] H := hP
              have hD : va_D A [(m0, .inr (7, [.int 0, .ref mfi, .long 0, .int 0, .ref mil, .ref mic, .ref mwi, .int 0, .int 0, .ref mmo, .int 0, .ref mki, .ref mce, .ref mgo, .ref mwa, .ref mha, .ref mch, .ref mfo, .ref mca, .ref mor, .ref mro, .ref mra, .ref mpr, .ref mho, .ref mis, .int 0, .ref mss, .ref msc, .ref msh, .int 100, .int 1])), (mil, .inl (cZ, 160, .inl (fun _ => 0))), (mki, .inl (cI, 8, .inl (upd (fun _ => 0) (0 : Int32).toNatClampNeg a0))), (mce, .inl (cI, 8, .inl (fun _ => 0))), (mch, .inl (cI, 8, .inl (fun _ => 0))), (mha, .inl (cI, 8, .inl (fun _ => 0)))] := hD
              refine lv_aload_n hx hb dX6_ship_70 rfl (lv_at hl 0 rfl) ?_
              refine va_get (D := (dC, dI)) (ci := 7) (v := .ref mce) (C := RX6) (T := TX6) (N := 31) hx hb hts iw_X6_ship_X6 hown hK hP 0 rfl rfl 12 (by decide) (hts (.fieldLink RX6 29 "TeaRaceModel" "cells" "[I") (by decide +kernel)) (fun _ h9 => h9) rfl dX6_ship_71 ?_
              refine lv_aload_n hx hb dX6_ship_74 rfl (lv_at hl 0 rfl) ?_
              refine va_get (D := (dC, dI)) (ci := 7) (v := .int 0) (C := RX6) (T := TX6) (N := 31) hx hb hts iw_X6_ship_X6 hown hK hP 0 rfl rfl 10 (by decide) (hts (.fieldLink RX6 110 "TeaRaceModel" "ships" "I") (by decide +kernel)) (fun _ h9 => h9) rfl dX6_ship_75 ?_
              refine lv_iload_n hx hb dX6_ship_78 rfl (lv_at hl 2 rfl) ?_
              refine va_iast hx hb hK hP hD hS 3 0 rfl rfl (vp_in_iff.mpr (by decide +kernel)) dX6_ship_79 (fun H locs hP hD hS => ?_)
              have hP : va_P (dC, dI) vwCl [(m0, .inr (7, [.int 0, .ref mfi, .long 0, .int 0, .ref mil, .ref mic, .ref mwi, .int 0, .int 0, .ref mmo, .int 0, .ref mki, .ref mce, .ref mgo, .ref mwa, .ref mha, .ref mch, .ref mfo, .ref mca, .ref mor, .ref mro, .ref mra, .ref mpr, .ref mho, .ref mis, .int 0, .ref mss, .ref msc, .ref msh, .int 100, .int 1])), (mil, .inl (cZ, 160, .inl (fun _ => 0))), (mki, .inl (cI, 8, .inl (upd (fun _ => 0) (0 : Int32).toNatClampNeg a0))), (mce, .inl (cI, 8, .inl (upd (fun _ => 0) (0 : Int32).toNatClampNeg a1))), (mch, .inl (cI, 8, .inl (fun _ => 0))), (mha, .inl (cI, 8, .inl (fun _ => 0)))] H := hP
              have hD : va_D A [(m0, .inr (7, [.int 0, .ref mfi, .long 0, .int 0, .ref mil, .ref mic, .ref mwi, .int 0, .int 0, .ref mmo, .int 0, .ref mki, .ref mce, .ref mgo, .ref mwa, .ref mha, .ref mch, .ref mfo, .ref mca, .ref mor, .ref mro, .ref mra, .ref mpr, .ref mho, .ref mis, .int 0, .ref mss, .ref msc, .ref msh, .int 100, .int 1])), (mil, .inl (cZ, 160, .inl (fun _ => 0))), (mki, .inl (cI, 8, .inl (upd (fun _ => 0) (0 : Int32).toNatClampNeg a0))), (mce, .inl (cI, 8, .inl (upd (fun _ => 0) (0 : Int32).toNatClampNeg a1))), (mch, .inl (cI, 8, .inl (fun _ => 0))), (mha, .inl (cI, 8, .inl (fun _ => 0)))] := hD
              refine lv_aload_n hx hb dX6_ship_80 rfl (lv_at hl 0 rfl) ?_
              refine va_get (D := (dC, dI)) (ci := 7) (v := .ref mch) (C := RX6) (T := TX6) (N := 31) hx hb hts iw_X6_ship_X6 hown hK hP 0 rfl rfl 16 (by decide) (hts (.fieldLink RX6 41 "TeaRaceModel" "chests" "[I") (by decide +kernel)) (fun _ h9 => h9) rfl dX6_ship_81 ?_
              refine lv_aload_n hx hb dX6_ship_84 rfl (lv_at hl 0 rfl) ?_
              refine va_get (D := (dC, dI)) (ci := 7) (v := .int 0) (C := RX6) (T := TX6) (N := 31) hx hb hts iw_X6_ship_X6 hown hK hP 0 rfl rfl 10 (by decide) (hts (.fieldLink RX6 110 "TeaRaceModel" "ships" "I") (by decide +kernel)) (fun _ h9 => h9) rfl dX6_ship_85 ?_
              refine lv_iload_n hx hb dX6_ship_88 rfl (lv_at hl 3 rfl) ?_
              refine va_iast hx hb hK hP hD hS 4 0 rfl rfl (vp_in_iff.mpr (by decide +kernel)) dX6_ship_89 (fun H locs hP hD hS => ?_)
              have hP : va_P (dC, dI) vwCl [(m0, .inr (7, [.int 0, .ref mfi, .long 0, .int 0, .ref mil, .ref mic, .ref mwi, .int 0, .int 0, .ref mmo, .int 0, .ref mki, .ref mce, .ref mgo, .ref mwa, .ref mha, .ref mch, .ref mfo, .ref mca, .ref mor, .ref mro, .ref mra, .ref mpr, .ref mho, .ref mis, .int 0, .ref mss, .ref msc, .ref msh, .int 100, .int 1])), (mil, .inl (cZ, 160, .inl (fun _ => 0))), (mki, .inl (cI, 8, .inl (upd (fun _ => 0) (0 : Int32).toNatClampNeg a0))), (mce, .inl (cI, 8, .inl (upd (fun _ => 0) (0 : Int32).toNatClampNeg a1))), (mch, .inl (cI, 8, .inl (upd (fun _ => 0) (0 : Int32).toNatClampNeg a2))), (mha, .inl (cI, 8, .inl (fun _ => 0)))] H := hP
              have hD : va_D A [(m0, .inr (7, [.int 0, .ref mfi, .long 0, .int 0, .ref mil, .ref mic, .ref mwi, .int 0, .int 0, .ref mmo, .int 0, .ref mki, .ref mce, .ref mgo, .ref mwa, .ref mha, .ref mch, .ref mfo, .ref mca, .ref mor, .ref mro, .ref mra, .ref mpr, .ref mho, .ref mis, .int 0, .ref mss, .ref msc, .ref msh, .int 100, .int 1])), (mil, .inl (cZ, 160, .inl (fun _ => 0))), (mki, .inl (cI, 8, .inl (upd (fun _ => 0) (0 : Int32).toNatClampNeg a0))), (mce, .inl (cI, 8, .inl (upd (fun _ => 0) (0 : Int32).toNatClampNeg a1))), (mch, .inl (cI, 8, .inl (upd (fun _ => 0) (0 : Int32).toNatClampNeg a2))), (mha, .inl (cI, 8, .inl (fun _ => 0)))] := hD
              refine lv_aload_n hx hb dX6_ship_90 rfl (lv_at hl 0 rfl) ?_
              refine va_get (D := (dC, dI)) (ci := 7) (v := .ref mha) (C := RX6) (T := TX6) (N := 31) hx hb hts iw_X6_ship_X6 hown hK hP 0 rfl rfl 15 (by decide) (hts (.fieldLink RX6 38 "TeaRaceModel" "homeAt" "[I") (by decide +kernel)) (fun _ h9 => h9) rfl dX6_ship_91 ?_
              refine lv_aload_n hx hb dX6_ship_94 rfl (lv_at hl 0 rfl) ?_
              refine va_get (D := (dC, dI)) (ci := 7) (v := .int 0) (C := RX6) (T := TX6) (N := 31) hx hb hts iw_X6_ship_X6 hown hK hP 0 rfl rfl 10 (by decide) (hts (.fieldLink RX6 110 "TeaRaceModel" "ships" "I") (by decide +kernel)) (fun _ h9 => h9) rfl dX6_ship_95 ?_
              refine lv_bipush (v := (-9)) hx hb dX6_ship_98 (by decide) ?_
              refine va_iast hx hb hK hP hD hS 5 0 rfl rfl (vp_in_iff.mpr (by decide +kernel)) dX6_ship_100 (fun H locs hP hD hS => ?_)
              have hP : va_P (dC, dI) vwCl [(m0, .inr (7, [.int 0, .ref mfi, .long 0, .int 0, .ref mil, .ref mic, .ref mwi, .int 0, .int 0, .ref mmo, .int 0, .ref mki, .ref mce, .ref mgo, .ref mwa, .ref mha, .ref mch, .ref mfo, .ref mca, .ref mor, .ref mro, .ref mra, .ref mpr, .ref mho, .ref mis, .int 0, .ref mss, .ref msc, .ref msh, .int 100, .int 1])), (mil, .inl (cZ, 160, .inl (fun _ => 0))), (mki, .inl (cI, 8, .inl (upd (fun _ => 0) (0 : Int32).toNatClampNeg a0))), (mce, .inl (cI, 8, .inl (upd (fun _ => 0) (0 : Int32).toNatClampNeg a1))), (mch, .inl (cI, 8, .inl (upd (fun _ => 0) (0 : Int32).toNatClampNeg a2))), (mha, .inl (cI, 8, .inl (upd (fun _ => 0) (0 : Int32).toNatClampNeg (-9))))] H := hP
              have hD : va_D A [(m0, .inr (7, [.int 0, .ref mfi, .long 0, .int 0, .ref mil, .ref mic, .ref mwi, .int 0, .int 0, .ref mmo, .int 0, .ref mki, .ref mce, .ref mgo, .ref mwa, .ref mha, .ref mch, .ref mfo, .ref mca, .ref mor, .ref mro, .ref mra, .ref mpr, .ref mho, .ref mis, .int 0, .ref mss, .ref msc, .ref msh, .int 100, .int 1])), (mil, .inl (cZ, 160, .inl (fun _ => 0))), (mki, .inl (cI, 8, .inl (upd (fun _ => 0) (0 : Int32).toNatClampNeg a0))), (mce, .inl (cI, 8, .inl (upd (fun _ => 0) (0 : Int32).toNatClampNeg a1))), (mch, .inl (cI, 8, .inl (upd (fun _ => 0) (0 : Int32).toNatClampNeg a2))), (mha, .inl (cI, 8, .inl (upd (fun _ => 0) (0 : Int32).toNatClampNeg (-9))))] := hD
              refine lv_aload_n hx hb dX6_ship_101 rfl (lv_at hl 0 rfl) ?_
              refine lv_dup hx hb dX6_ship_102 rfl ?_
              refine va_get (D := (dC, dI)) (ci := 7) (v := .int 0) (C := RX6) (T := TX6) (N := 31) hx hb hts iw_X6_ship_X6 hown hK hP 0 rfl rfl 10 (by decide) (hts (.fieldLink RX6 110 "TeaRaceModel" "ships" "I") (by decide +kernel)) (fun _ h9 => h9) rfl dX6_ship_103 ?_
              refine lv_iconst (v := 1) hx hb dX6_ship_106 (by decide) ?_
              refine lv_iadd hx hb dX6_ship_107 ?_
              refine lv_topi (fun x_19 ex_19 => ?_)
              obtain rfl : x_19 = 1 := ex_19.trans (by decide +kernel)
              refine va_put (D := (dC, dI)) (ci := 7) (v := .int 1) (ty := .int) (C := RX6) (T := TX6) (N := 31) hx hb hts iw_X6_ship_X6 tyX6 tyX6_ok nmX6 hown hK hP hD hS 0 rfl rfl 10 (by decide) (hts (.fieldLink RX6 110 "TeaRaceModel" "ships" "I") (by decide +kernel)) (fun _ h9 => h9) rfl (by decide +kernel) rfl rfl (Nat.le_of_ble_eq_true rfl) dX6_ship_108 (fun H locs hP hD hS => ?_)
              have hP : va_P (dC, dI) vwCl [(m0, .inr (7, [.int 0, .ref mfi, .long 0, .int 0, .ref mil, .ref mic, .ref mwi, .int 0, .int 0, .ref mmo, .int 1, .ref mki, .ref mce, .ref mgo, .ref mwa, .ref mha, .ref mch, .ref mfo, .ref mca, .ref mor, .ref mro, .ref mra, .ref mpr, .ref mho, .ref mis, .int 0, .ref mss, .ref msc, .ref msh, .int 100, .int 1])), (mil, .inl (cZ, 160, .inl (fun _ => 0))), (mki, .inl (cI, 8, .inl (upd (fun _ => 0) (0 : Int32).toNatClampNeg a0))), (mce, .inl (cI, 8, .inl (upd (fun _ => 0) (0 : Int32).toNatClampNeg a1))), (mch, .inl (cI, 8, .inl (upd (fun _ => 0) (0 : Int32).toNatClampNeg a2))), (mha, .inl (cI, 8, .inl (upd (fun _ => 0) (0 : Int32).toNatClampNeg (-9))))] H := hP
              have hD : va_D A [(m0, .inr (7, [.int 0, .ref mfi, .long 0, .int 0, .ref mil, .ref mic, .ref mwi, .int 0, .int 0, .ref mmo, .int 1, .ref mki, .ref mce, .ref mgo, .ref mwa, .ref mha, .ref mch, .ref mfo, .ref mca, .ref mor, .ref mro, .ref mra, .ref mpr, .ref mho, .ref mis, .int 0, .ref mss, .ref msc, .ref msh, .int 100, .int 1])), (mil, .inl (cZ, 160, .inl (fun _ => 0))), (mki, .inl (cI, 8, .inl (upd (fun _ => 0) (0 : Int32).toNatClampNeg a0))), (mce, .inl (cI, 8, .inl (upd (fun _ => 0) (0 : Int32).toNatClampNeg a1))), (mch, .inl (cI, 8, .inl (upd (fun _ => 0) (0 : Int32).toNatClampNeg a2))), (mha, .inl (cI, 8, .inl (upd (fun _ => 0) (0 : Int32).toNatClampNeg (-9))))] := hD
              refine lv_aload_n hx hb dX6_ship_111 rfl (lv_at hl 0 rfl) ?_
              refine va_get (D := (dC, dI)) (ci := 7) (v := .int 1) (C := RX6) (T := TX6) (N := 31) hx hb hts iw_X6_ship_X6 hown hK hP 0 rfl rfl 10 (by decide) (hts (.fieldLink RX6 110 "TeaRaceModel" "ships" "I") (by decide +kernel)) (fun _ h9 => h9) rfl dX6_ship_112 ?_
              refine lv_iconst (v := 1) hx hb dX6_ship_115 (by decide) ?_
              refine lv_isub hx hb dX6_ship_116 ?_
              refine lv_topi (fun x_20 ex_20 => ?_)
              obtain rfl : x_20 = 0 := ex_20.trans (by decide +kernel)
              exact W.iret (v := 0) hx hb hr (fun t ht hW => ⟨⟨0, (), rfl, (by first | rfl | trivial | (simp only [Int32.lt_iff_toInt_lt, Int32.le_iff_toInt_le, ← Int32.toInt_inj, Int32.reduceToInt] at b_5 b_10 b_16 ⊢; (repeat' split) <;> first | rfl | omega) | (simp only [Int32.lt_iff_toInt_lt, Int32.le_iff_toInt_le, ← Int32.toInt_inj, Int32.reduceToInt] at *; omega) | grind), trivial⟩, hS.F ht⟩) hS.2.2 dX6_ship_117
            · skip
              exact absurd (by decide) c_18
          · skip
            exact absurd c_17 (by decide)
        · skip
          have b_21 := b01z k_14 c_15
          refine lv_iconst (v := (-1)) hx hb dX6_ship_36 (by decide) ?_
          exact W.iret (v := (-1)) hx hb hr (fun t ht hW => ⟨⟨(-1), (), rfl, (by first | rfl | trivial | (simp only [Int32.lt_iff_toInt_lt, Int32.le_iff_toInt_le, ← Int32.toInt_inj, Int32.reduceToInt] at b_5 b_10 b_21 ⊢; (repeat' split) <;> first | rfl | omega) | (simp only [Int32.lt_iff_toInt_lt, Int32.le_iff_toInt_le, ← Int32.toInt_inj, Int32.reduceToInt] at *; omega) | grind), trivial⟩, hS.F ht⟩) hS.2.2 dX6_ship_37
set_option maxRecDepth 20000 in
theorem iw_X6_home_X6 : ∀ w ∈ wsX60, w ∈ wsX6_home := by decide +kernel
set_option maxHeartbeats 4000000 in
set_option maxRecDepth 100000 in
/-- the reference's home, fresh -/
theorem c_X6_home (l : Launch) (dC : Nat → ClassId) (dI : Nat → Nat → Nat) (sz : Nat) (m0 : Nat) (mfi : Nat) (mil : Nat) (mic : Nat) (mwi : Nat) (mmo : Nat) (mki : Nat) (mce : Nat) (mgo : Nat) (mwa : Nat) (mha : Nat) (mch : Nat) (mfo : Nat) (mca : Nat) (mor : Nat) (mro : Nat) (mra : Nat) (mpr : Nat) (mho : Nat) (mis : Nat) (mss : Nat) (msc : Nat) (msh : Nat) (cZ : ClassId) (a0 : Int32) (a1 : Int32)  : Met l yX6_home wsX6_home ({ frames := 2, cells := 0, slots := 0, locals := 42 }) (va_Pc [.ref m0, .int a0, .int a1] (fun U => U.heap.size = sz ∧ va_P (dC, dI) vwCl [(m0, .inr (7, [.int 0, .ref mfi, .long 0, .int 0, .ref mil, .ref mic, .ref mwi, .int 0, .int 0, .ref mmo, .int 0, .ref mki, .ref mce, .ref mgo, .ref mwa, .ref mha, .ref mch, .ref mfo, .ref mca, .ref mor, .ref mro, .ref mra, .ref mpr, .ref mho, .ref mis, .int 0, .ref mss, .ref msc, .ref msh, .int 100, .int 1])), (mil, .inl (cZ, 160, .inl (fun _ => 0)))] U.heap ∧ va_K (dC, dI) vwCl [(cZ, .boolean)] U ∧ NW U ∧ va_D (fun _ => True) [(m0, .inr (7, [.int 0, .ref mfi, .long 0, .int 0, .ref mil, .ref mic, .ref mwi, .int 0, .int 0, .ref mmo, .int 0, .ref mki, .ref mce, .ref mgo, .ref mwa, .ref mha, .ref mch, .ref mfo, .ref mca, .ref mor, .ref mro, .ref mra, .ref mpr, .ref mho, .ref mis, .int 0, .ref mss, .ref msc, .ref msh, .int 100, .int 1])), (mil, .inl (cZ, 160, .inl (fun _ => 0)))])) (va_Qi (fun (r : Int32) (_ : Unit) => r = if ((a0 < 0 ∨ 159 < a0) ∨ (a1 < 0 ∨ 23 < a1)) then (-1) else 1) (fun _ _ => True) (va_A [(m0, .inr (7, [.int 0, .ref mfi, .long 0, .int 0, .ref mil, .ref mic, .ref mwi, .int 0, .int 0, .ref mmo, .int 0, .ref mki, .ref mce, .ref mgo, .ref mwa, .ref mha, .ref mch, .ref mfo, .ref mca, .ref mor, .ref mro, .ref mra, .ref mpr, .ref mho, .ref mis, .int 0, .ref mss, .ref msc, .ref msh, .int 100, .int 1])), (mil, .inl (cZ, 160, .inl (fun _ => 0)))] sz)) 0 0 (va_A [(m0, .inr (7, [.int 0, .ref mfi, .long 0, .int 0, .ref mil, .ref mic, .ref mwi, .int 0, .int 0, .ref mmo, .int 0, .ref mki, .ref mce, .ref mgo, .ref mwa, .ref mha, .ref mch, .ref mfo, .ref mca, .ref mor, .ref mro, .ref mra, .ref mpr, .ref mho, .ref mis, .int 0, .ref mss, .ref msc, .ref msh, .int 100, .int 1])), (mil, .inl (cZ, 160, .inl (fun _ => 0)))] sz) := by
  refine Met.ofW (cc := cX6_home) (maxL := 3) (ret := (some .int)) (by decide) rfl ?_
  intro p e s m args below meth c s₁ B hml hv
  obtain ⟨rfl, hsz, hP, hK, hN, hD0⟩ := hv
  have hx := B.exec
  have hb := B.bytes
  have hr := B.returns
  have hts := atoms_spec (ws := wsX6_home) B.pre
  have hown : s.vm.findClass RX6 = some m.cls := findClass_of_methodNamed B.named
  have hlocks := B.notSynchronized
  subst hsz
  have hD := hD0.self (sz := s.heap.size)
  generalize hAe : va_A [(m0, .inr (7, [.int 0, .ref mfi, .long 0, .int 0, .ref mil, .ref mic, .ref mwi, .int 0, .int 0, .ref mmo, .int 0, .ref mki, .ref mce, .ref mgo, .ref mwa, .ref mha, .ref mch, .ref mfo, .ref mca, .ref mor, .ref mro, .ref mra, .ref mpr, .ref mho, .ref mis, .int 0, .ref mss, .ref msc, .ref msh, .int 100, .int 1])), (mil, .inl (cZ, 160, .inl (fun _ => 0)))] s.heap.size = A at hD ⊢
  have hA : ∀ q : Nat, s.heap.size ≤ q → A q := fun q h => by rw [← hAe]; exact Or.inr h
  have hS : va_S A s.heap s.heap [] := va_S.rf
  have hP : va_P (dC, dI) vwCl [(m0, .inr (7, [.int 0, .ref mfi, .long 0, .int 0, .ref mil, .ref mic, .ref mwi, .int 0, .int 0, .ref mmo, .int 0, .ref mki, .ref mce, .ref mgo, .ref mwa, .ref mha, .ref mch, .ref mfo, .ref mca, .ref mor, .ref mro, .ref mra, .ref mpr, .ref mho, .ref mis, .int 0, .ref mss, .ref msc, .ref msh, .int 100, .int 1])), (mil, .inl (cZ, 160, .inl (fun _ => 0)))] s.heap := hP
  have hl := lv_entry ([.ref m0, .int a0, .int a1]) (n := 3) (Nat.le_of_ble_eq_true rfl)
  rw [lg_entry_eq]
  generalize (lg_sl ([.ref m0, .int a0, .int a1]) ++ List.replicate (3 - (lg_sl ([.ref m0, .int a0, .int a1])).length) Slot.unset).toArray = ls at hl ⊢
  have hl : lv_has ls 3 [(0, .ref m0), (1, .int a0), (2, .int a1)] := hl
  refine lv_iload_n hx hb dX6_home_0 rfl (lv_at hl 1 rfl) ?_
  refine va_calli (va_runS (As := [.int a0]) (rest := []) ⟨hx, hb, hml, hown, hts⟩ (c_X6_isCell l s.heap.size a0 ) (va_cwS 1 hts gX6_home_X6_isCell rfl rfl rfl (by decide +kernel) ⟨Nat.le_of_ble_eq_true rfl, Nat.le_of_ble_eq_true rfl⟩) ⟨fun a U g mk q => by obtain ⟨q0, q1⟩ := q; exact ⟨q0, q1⟩, fun U hU hW => ⟨rfl, congrArg Array.size hU⟩⟩ rfl rfl hl.1 rfl (lv_room (Nat.le_of_ble_eq_true rfl)) dX6_home_1 ⟨(Nat.zero_le _), (Nat.zero_le _)⟩) hS (fun q _ h => ro_A hS hA q h) (ro_A hS hA) (fun r_1 u t H1 locs ht hvm k_2 hB hz1 hk1 hS => ?_)
  have hP := ro_P hk1 hP
  generalize H1 = H at hP hS ⊢
  try dsimp only at k_2
  refine lv_if_eq (tgt := 26) hx hb dX6_home_4 (by decide) (fun c_3 => ?_) (fun c_3 => ?_)
  · skip
    have b_4 := b01z k_2 c_3
    refine lv_iconst (v := (-1)) hx hb dX6_home_26 (by decide) ?_
    exact W.iret (v := (-1)) hx hb hr (fun t ht hW => ⟨⟨(-1), (), rfl, (by first | rfl | trivial | (simp only [Int32.lt_iff_toInt_lt, Int32.le_iff_toInt_le, ← Int32.toInt_inj, Int32.reduceToInt] at b_4 ⊢; (repeat' split) <;> first | rfl | omega) | (simp only [Int32.lt_iff_toInt_lt, Int32.le_iff_toInt_le, ← Int32.toInt_inj, Int32.reduceToInt] at *; omega) | grind), trivial⟩, hS.F ht⟩) hS.2.2 dX6_home_27
  · skip
    have b_5 := b01n k_2 c_3
    refine lv_aload_n hx hb dX6_home_7 rfl (lv_at hl 0 rfl) ?_
    refine va_get (D := (dC, dI)) (ci := 7) (v := .ref mil) (C := RX6) (T := TX6) (N := 31) hx hb hts iw_X6_home_X6 hown hK hP 0 rfl rfl 4 (by decide) (hts (.fieldLink RX6 13 "TeaRaceModel" "isLand" "[Z") (by decide +kernel)) (fun _ h9 => h9) rfl dX6_home_8 ?_
    refine lv_iload_n hx hb dX6_home_11 rfl (lv_at hl 1 rfl) ?_
    refine va_zald hx hb hK hP 1 0 rfl rfl (vp_in_iff.mpr (by (try simp only [Int32.lt_iff_toInt_lt, Int32.le_iff_toInt_le, ← Int32.toInt_inj, Int32.reduceToInt] at b_5 ⊢); omega)) dX6_home_12 ?_
    refine lv_topi (fun x_6 ex_6 => ?_)
    obtain rfl : x_6 = 0 := ex_6
    refine lv_if_ne (tgt := 26) hx hb dX6_home_13 (by decide) (fun c_7 => ?_) (fun c_7 => ?_)
    · skip
      exact absurd (by decide) c_7
    · skip
      refine lv_iload_n hx hb dX6_home_16 rfl (lv_at hl 2 rfl) ?_
      refine lv_iconst (v := 0) hx hb dX6_home_17 (by decide) ?_
      refine lv_bipush (v := 23) hx hb dX6_home_18 (by decide) ?_
      refine va_calli (va_runS (As := [.int a1, .int 0, .int 23]) (rest := []) ⟨hx, hb, hml, hown, hts⟩ (c_X6_in l H.size a1 0 23 ) (va_cwS 3 hts gX6_home_X6_in rfl rfl rfl (by decide +kernel) ⟨Nat.le_of_ble_eq_true rfl, Nat.le_of_ble_eq_true rfl⟩) ⟨fun a U g mk q => by obtain ⟨q0, q1⟩ := q; exact ⟨q0, q1⟩, fun U hU hW => ⟨rfl, congrArg Array.size hU⟩⟩ rfl rfl hl.1 rfl (lv_room (Nat.le_of_ble_eq_true rfl)) dX6_home_20 ⟨(Nat.zero_le _), (Nat.zero_le _)⟩) hS (fun q _ h => ro_A hS hA q h) (ro_A hS hA) (fun r_8 u t H1 locs ht hvm k_9 hB hz1 hk1 hS => ?_)
      have hP := ro_P hk1 hP
      generalize H1 = H at hP hS ⊢
      try dsimp only at k_9
      refine lv_if_ne (tgt := 28) hx hb dX6_home_23 (by decide) (fun c_10 => ?_) (fun c_10 => ?_)
      · skip
        have b_11 := b01n k_9 c_10
        refine lv_aload_n hx hb dX6_home_28 rfl (lv_at hl 0 rfl) ?_
        refine va_get (D := (dC, dI)) (ci := 7) (v := .int 0) (C := RX6) (T := TX6) (N := 31) hx hb hts iw_X6_home_X6 hown hK hP 0 rfl rfl 3 (by decide) (hts (.fieldLink RX6 113 "TeaRaceModel" "hour" "I") (by decide +kernel)) (fun _ h9 => h9) rfl dX6_home_29 ?_
        refine lv_if_eq (tgt := 38) hx hb dX6_home_32 (by decide) (fun c_12 => ?_) (fun c_12 => ?_)
        · skip
          refine lv_aload_n hx hb dX6_home_38 rfl (lv_at hl 0 rfl) ?_
          refine lv_iload_n hx hb dX6_home_39 rfl (lv_at hl 1 rfl) ?_
          refine va_put (D := (dC, dI)) (ci := 7) (v := .int a0) (ty := .int) (C := RX6) (T := TX6) (N := 31) hx hb hts iw_X6_home_X6 tyX6 tyX6_ok nmX6 hown hK hP hD hS 0 rfl rfl 7 (by decide) (hts (.fieldLink RX6 136 "TeaRaceModel" "home" "I") (by decide +kernel)) (fun _ h9 => h9) rfl (by decide +kernel) rfl rfl (Nat.le_of_ble_eq_true rfl) dX6_home_40 (fun H locs hP hD hS => ?_)
          have hP : va_P (dC, dI) vwCl [(m0, .inr (7, [.int 0, .ref mfi, .long 0, .int 0, .ref mil, .ref mic, .ref mwi, .int a0, .int 0, .ref mmo, .int 0, .ref mki, .ref mce, .ref mgo, .ref mwa, .ref mha, .ref mch, .ref mfo, .ref mca, .ref mor, .ref mro, .ref mra, .ref mpr, .ref mho, .ref mis, .int 0, .ref mss, .ref msc, .ref msh, .int 100, .int 1])), (mil, .inl (cZ, 160, .inl (fun _ => 0)))] H := hP
          have hD : va_D A [(m0, .inr (7, [.int 0, .ref mfi, .long 0, .int 0, .ref mil, .ref mic, .ref mwi, .int a0, .int 0, .ref mmo, .int 0, .ref mki, .ref mce, .ref mgo, .ref mwa, .ref mha, .ref mch, .ref mfo, .ref mca, .ref mor, .ref mro, .ref mra, .ref mpr, .ref mho, .ref mis, .int 0, .ref mss, .ref msc, .ref msh, .int 100, .int 1])), (mil, .inl (cZ, 160, .inl (fun _ => 0)))] := hD
          refine lv_aload_n hx hb dX6_home_43 rfl (lv_at hl 0 rfl) ?_
          refine lv_iload_n hx hb dX6_home_44 rfl (lv_at hl 2 rfl) ?_
          refine va_put (D := (dC, dI)) (ci := 7) (v := .int a1) (ty := .int) (C := RX6) (T := TX6) (N := 31) hx hb hts iw_X6_home_X6 tyX6 tyX6_ok nmX6 hown hK hP hD hS 0 rfl rfl 8 (by decide) (hts (.fieldLink RX6 119 "TeaRaceModel" "gate" "I") (by decide +kernel)) (fun _ h9 => h9) rfl (by decide +kernel) rfl rfl (Nat.le_of_ble_eq_true rfl) dX6_home_45 (fun H locs hP hD hS => ?_)
          have hP : va_P (dC, dI) vwCl [(m0, .inr (7, [.int 0, .ref mfi, .long 0, .int 0, .ref mil, .ref mic, .ref mwi, .int a0, .int a1, .ref mmo, .int 0, .ref mki, .ref mce, .ref mgo, .ref mwa, .ref mha, .ref mch, .ref mfo, .ref mca, .ref mor, .ref mro, .ref mra, .ref mpr, .ref mho, .ref mis, .int 0, .ref mss, .ref msc, .ref msh, .int 100, .int 1])), (mil, .inl (cZ, 160, .inl (fun _ => 0)))] H := hP
          have hD : va_D A [(m0, .inr (7, [.int 0, .ref mfi, .long 0, .int 0, .ref mil, .ref mic, .ref mwi, .int a0, .int a1, .ref mmo, .int 0, .ref mki, .ref mce, .ref mgo, .ref mwa, .ref mha, .ref mch, .ref mfo, .ref mca, .ref mor, .ref mro, .ref mra, .ref mpr, .ref mho, .ref mis, .int 0, .ref mss, .ref msc, .ref msh, .int 100, .int 1])), (mil, .inl (cZ, 160, .inl (fun _ => 0)))] := hD
          refine lv_iconst (v := 1) hx hb dX6_home_48 (by decide) ?_
          exact W.iret (v := 1) hx hb hr (fun t ht hW => ⟨⟨1, (), rfl, (by first | rfl | trivial | (simp only [Int32.lt_iff_toInt_lt, Int32.le_iff_toInt_le, ← Int32.toInt_inj, Int32.reduceToInt] at b_5 b_11 ⊢; (repeat' split) <;> first | rfl | omega) | (simp only [Int32.lt_iff_toInt_lt, Int32.le_iff_toInt_le, ← Int32.toInt_inj, Int32.reduceToInt] at *; omega) | grind), trivial⟩, hS.F ht⟩) hS.2.2 dX6_home_49
        · skip
          exact absurd (by decide) c_12
      · skip
        have b_13 := b01z k_9 c_10
        refine lv_iconst (v := (-1)) hx hb dX6_home_26 (by decide) ?_
        exact W.iret (v := (-1)) hx hb hr (fun t ht hW => ⟨⟨(-1), (), rfl, (by first | rfl | trivial | (simp only [Int32.lt_iff_toInt_lt, Int32.le_iff_toInt_le, ← Int32.toInt_inj, Int32.reduceToInt] at b_5 b_13 ⊢; (repeat' split) <;> first | rfl | omega) | (simp only [Int32.lt_iff_toInt_lt, Int32.le_iff_toInt_le, ← Int32.toInt_inj, Int32.reduceToInt] at *; omega) | grind), trivial⟩, hS.F ht⟩) hS.2.2 dX6_home_27
set_option maxRecDepth 20000 in
theorem iw_X6_market_X6 : ∀ w ∈ wsX60, w ∈ wsX6_market := by decide +kernel
set_option maxHeartbeats 4000000 in
set_option maxRecDepth 100000 in
/-- the reference's market, fresh -/
theorem c_X6_market (l : Launch) (dC : Nat → ClassId) (dI : Nat → Nat → Nat) (sz : Nat) (m0 : Nat) (mfi : Nat) (mil : Nat) (mic : Nat) (mwi : Nat) (mmo : Nat) (mki : Nat) (mce : Nat) (mgo : Nat) (mwa : Nat) (mha : Nat) (mch : Nat) (mfo : Nat) (mca : Nat) (mor : Nat) (mro : Nat) (mra : Nat) (mpr : Nat) (mho : Nat) (mis : Nat) (mss : Nat) (msc : Nat) (msh : Nat) (a0 : Int32) (a1 : Int32)  : Met l yX6_market wsX6_market ({ frames := 1, cells := 0, slots := 0, locals := 22 }) (va_Pc [.ref m0, .int a0, .int a1] (fun U => U.heap.size = sz ∧ va_P (dC, dI) vwCl [(m0, .inr (7, [.int 0, .ref mfi, .long 0, .int 0, .ref mil, .ref mic, .ref mwi, .int 0, .int 0, .ref mmo, .int 0, .ref mki, .ref mce, .ref mgo, .ref mwa, .ref mha, .ref mch, .ref mfo, .ref mca, .ref mor, .ref mro, .ref mra, .ref mpr, .ref mho, .ref mis, .int 0, .ref mss, .ref msc, .ref msh, .int 100, .int 1]))] U.heap ∧ va_K (dC, dI) vwCl [] U ∧ NW U ∧ va_D (fun _ => True) [(m0, .inr (7, [.int 0, .ref mfi, .long 0, .int 0, .ref mil, .ref mic, .ref mwi, .int 0, .int 0, .ref mmo, .int 0, .ref mki, .ref mce, .ref mgo, .ref mwa, .ref mha, .ref mch, .ref mfo, .ref mca, .ref mor, .ref mro, .ref mra, .ref mpr, .ref mho, .ref mis, .int 0, .ref mss, .ref msc, .ref msh, .int 100, .int 1]))])) (va_Qi (fun (r : Int32) (_ : Unit) => r = if (a0 < 1 ∨ 10000 < a0 ∨ (a1 < 0 ∨ 1000 < a1)) then (-1) else 1) (fun _ _ => True) (va_A [(m0, .inr (7, [.int 0, .ref mfi, .long 0, .int 0, .ref mil, .ref mic, .ref mwi, .int 0, .int 0, .ref mmo, .int 0, .ref mki, .ref mce, .ref mgo, .ref mwa, .ref mha, .ref mch, .ref mfo, .ref mca, .ref mor, .ref mro, .ref mra, .ref mpr, .ref mho, .ref mis, .int 0, .ref mss, .ref msc, .ref msh, .int 100, .int 1]))] sz)) 0 0 (va_A [(m0, .inr (7, [.int 0, .ref mfi, .long 0, .int 0, .ref mil, .ref mic, .ref mwi, .int 0, .int 0, .ref mmo, .int 0, .ref mki, .ref mce, .ref mgo, .ref mwa, .ref mha, .ref mch, .ref mfo, .ref mca, .ref mor, .ref mro, .ref mra, .ref mpr, .ref mho, .ref mis, .int 0, .ref mss, .ref msc, .ref msh, .int 100, .int 1]))] sz) := by
  refine Met.ofW (cc := cX6_market) (maxL := 3) (ret := (some .int)) (by decide) rfl ?_
  intro p e s m args below meth c s₁ B hml hv
  obtain ⟨rfl, hsz, hP, hK, hN, hD0⟩ := hv
  have hx := B.exec
  have hb := B.bytes
  have hr := B.returns
  have hts := atoms_spec (ws := wsX6_market) B.pre
  have hown : s.vm.findClass RX6 = some m.cls := findClass_of_methodNamed B.named
  have hlocks := B.notSynchronized
  subst hsz
  have hD := hD0.self (sz := s.heap.size)
  generalize hAe : va_A [(m0, .inr (7, [.int 0, .ref mfi, .long 0, .int 0, .ref mil, .ref mic, .ref mwi, .int 0, .int 0, .ref mmo, .int 0, .ref mki, .ref mce, .ref mgo, .ref mwa, .ref mha, .ref mch, .ref mfo, .ref mca, .ref mor, .ref mro, .ref mra, .ref mpr, .ref mho, .ref mis, .int 0, .ref mss, .ref msc, .ref msh, .int 100, .int 1]))] s.heap.size = A at hD ⊢
  have hA : ∀ q : Nat, s.heap.size ≤ q → A q := fun q h => by rw [← hAe]; exact Or.inr h
  have hS : va_S A s.heap s.heap [] := va_S.rf
  have hP : va_P (dC, dI) vwCl [(m0, .inr (7, [.int 0, .ref mfi, .long 0, .int 0, .ref mil, .ref mic, .ref mwi, .int 0, .int 0, .ref mmo, .int 0, .ref mki, .ref mce, .ref mgo, .ref mwa, .ref mha, .ref mch, .ref mfo, .ref mca, .ref mor, .ref mro, .ref mra, .ref mpr, .ref mho, .ref mis, .int 0, .ref mss, .ref msc, .ref msh, .int 100, .int 1]))] s.heap := hP
  have hl := lv_entry ([.ref m0, .int a0, .int a1]) (n := 3) (Nat.le_of_ble_eq_true rfl)
  rw [lg_entry_eq]
  generalize (lg_sl ([.ref m0, .int a0, .int a1]) ++ List.replicate (3 - (lg_sl ([.ref m0, .int a0, .int a1])).length) Slot.unset).toArray = ls at hl ⊢
  have hl : lv_has ls 3 [(0, .ref m0), (1, .int a0), (2, .int a1)] := hl
  refine lv_iload_n hx hb dX6_market_0 rfl (lv_at hl 1 rfl) ?_
  refine lv_iconst (v := 1) hx hb dX6_market_1 (by decide) ?_
  refine lv_sipush (v := 10000) hx hb dX6_market_2 (by decide) ?_
  refine va_calli (va_runS (As := [.int a0, .int 1, .int 10000]) (rest := []) ⟨hx, hb, hml, hown, hts⟩ (c_X6_in l s.heap.size a0 1 10000 ) (va_cwS 3 hts gX6_market_X6_in rfl rfl rfl (by decide +kernel) ⟨Nat.le_of_ble_eq_true rfl, Nat.le_of_ble_eq_true rfl⟩) ⟨fun a U g mk q => by obtain ⟨q0, q1⟩ := q; exact ⟨q0, q1⟩, fun U hU hW => ⟨rfl, congrArg Array.size hU⟩⟩ rfl rfl hl.1 rfl (lv_room (Nat.le_of_ble_eq_true rfl)) dX6_market_5 ⟨(Nat.zero_le _), (Nat.zero_le _)⟩) hS (fun q _ h => ro_A hS hA q h) (ro_A hS hA) (fun r_1 u t H1 locs ht hvm k_2 hB hz1 hk1 hS => ?_)
  have hP := ro_P hk1 hP
  generalize H1 = H at hP hS ⊢
  try dsimp only at k_2
  refine lv_if_eq (tgt := 22) hx hb dX6_market_8 (by decide) (fun c_3 => ?_) (fun c_3 => ?_)
  · skip
    have b_4 := b01z k_2 c_3
    refine lv_iconst (v := (-1)) hx hb dX6_market_22 (by decide) ?_
    exact W.iret (v := (-1)) hx hb hr (fun t ht hW => ⟨⟨(-1), (), rfl, (by first | rfl | trivial | (simp only [Int32.lt_iff_toInt_lt, Int32.le_iff_toInt_le, ← Int32.toInt_inj, Int32.reduceToInt] at b_4 ⊢; (repeat' split) <;> first | rfl | omega) | (simp only [Int32.lt_iff_toInt_lt, Int32.le_iff_toInt_le, ← Int32.toInt_inj, Int32.reduceToInt] at *; omega) | grind), trivial⟩, hS.F ht⟩) hS.2.2 dX6_market_23
  · skip
    have b_5 := b01n k_2 c_3
    refine lv_iload_n hx hb dX6_market_11 rfl (lv_at hl 2 rfl) ?_
    refine lv_iconst (v := 0) hx hb dX6_market_12 (by decide) ?_
    refine lv_sipush (v := 1000) hx hb dX6_market_13 (by decide) ?_
    refine va_calli (va_runS (As := [.int a1, .int 0, .int 1000]) (rest := []) ⟨hx, hb, hml, hown, hts⟩ (c_X6_in l H.size a1 0 1000 ) (va_cwS 3 hts gX6_market_X6_in rfl rfl rfl (by decide +kernel) ⟨Nat.le_of_ble_eq_true rfl, Nat.le_of_ble_eq_true rfl⟩) ⟨fun a U g mk q => by obtain ⟨q0, q1⟩ := q; exact ⟨q0, q1⟩, fun U hU hW => ⟨rfl, congrArg Array.size hU⟩⟩ rfl rfl hl.1 rfl (lv_room (Nat.le_of_ble_eq_true rfl)) dX6_market_16 ⟨(Nat.zero_le _), (Nat.zero_le _)⟩) hS (fun q _ h => ro_A hS hA q h) (ro_A hS hA) (fun r_6 u t H1 locs ht hvm k_7 hB hz1 hk1 hS => ?_)
    have hP := ro_P hk1 hP
    generalize H1 = H at hP hS ⊢
    try dsimp only at k_7
    refine lv_if_ne (tgt := 24) hx hb dX6_market_19 (by decide) (fun c_8 => ?_) (fun c_8 => ?_)
    · skip
      have b_9 := b01n k_7 c_8
      refine lv_aload_n hx hb dX6_market_24 rfl (lv_at hl 0 rfl) ?_
      refine lv_iload_n hx hb dX6_market_25 rfl (lv_at hl 1 rfl) ?_
      refine va_put (D := (dC, dI)) (ci := 7) (v := .int a0) (ty := .int) (C := RX6) (T := TX6) (N := 31) hx hb hts iw_X6_market_X6 tyX6 tyX6_ok nmX6 hown hK hP hD hS 0 rfl rfl 29 (by decide) (hts (.fieldLink RX6 77 "TeaRaceModel" "price" "I") (by decide +kernel)) (fun _ h9 => h9) rfl (by decide +kernel) rfl rfl (Nat.le_of_ble_eq_true rfl) dX6_market_26 (fun H locs hP hD hS => ?_)
      have hP : va_P (dC, dI) vwCl [(m0, .inr (7, [.int 0, .ref mfi, .long 0, .int 0, .ref mil, .ref mic, .ref mwi, .int 0, .int 0, .ref mmo, .int 0, .ref mki, .ref mce, .ref mgo, .ref mwa, .ref mha, .ref mch, .ref mfo, .ref mca, .ref mor, .ref mro, .ref mra, .ref mpr, .ref mho, .ref mis, .int 0, .ref mss, .ref msc, .ref msh, .int a0, .int 1]))] H := hP
      have hD : va_D A [(m0, .inr (7, [.int 0, .ref mfi, .long 0, .int 0, .ref mil, .ref mic, .ref mwi, .int 0, .int 0, .ref mmo, .int 0, .ref mki, .ref mce, .ref mgo, .ref mwa, .ref mha, .ref mch, .ref mfo, .ref mca, .ref mor, .ref mro, .ref mra, .ref mpr, .ref mho, .ref mis, .int 0, .ref mss, .ref msc, .ref msh, .int a0, .int 1]))] := hD
      refine lv_aload_n hx hb dX6_market_29 rfl (lv_at hl 0 rfl) ?_
      refine lv_iload_n hx hb dX6_market_30 rfl (lv_at hl 2 rfl) ?_
      refine va_put (D := (dC, dI)) (ci := 7) (v := .int a1) (ty := .int) (C := RX6) (T := TX6) (N := 31) hx hb hts iw_X6_market_X6 tyX6 tyX6_ok nmX6 hown hK hP hD hS 0 rfl rfl 30 (by decide) (hts (.fieldLink RX6 81 "TeaRaceModel" "fall" "I") (by decide +kernel)) (fun _ h9 => h9) rfl (by decide +kernel) rfl rfl (Nat.le_of_ble_eq_true rfl) dX6_market_31 (fun H locs hP hD hS => ?_)
      have hP : va_P (dC, dI) vwCl [(m0, .inr (7, [.int 0, .ref mfi, .long 0, .int 0, .ref mil, .ref mic, .ref mwi, .int 0, .int 0, .ref mmo, .int 0, .ref mki, .ref mce, .ref mgo, .ref mwa, .ref mha, .ref mch, .ref mfo, .ref mca, .ref mor, .ref mro, .ref mra, .ref mpr, .ref mho, .ref mis, .int 0, .ref mss, .ref msc, .ref msh, .int a0, .int a1]))] H := hP
      have hD : va_D A [(m0, .inr (7, [.int 0, .ref mfi, .long 0, .int 0, .ref mil, .ref mic, .ref mwi, .int 0, .int 0, .ref mmo, .int 0, .ref mki, .ref mce, .ref mgo, .ref mwa, .ref mha, .ref mch, .ref mfo, .ref mca, .ref mor, .ref mro, .ref mra, .ref mpr, .ref mho, .ref mis, .int 0, .ref mss, .ref msc, .ref msh, .int a0, .int a1]))] := hD
      refine lv_iconst (v := 1) hx hb dX6_market_34 (by decide) ?_
      exact W.iret (v := 1) hx hb hr (fun t ht hW => ⟨⟨1, (), rfl, (by first | rfl | trivial | (simp only [Int32.lt_iff_toInt_lt, Int32.le_iff_toInt_le, ← Int32.toInt_inj, Int32.reduceToInt] at b_5 b_9 ⊢; (repeat' split) <;> first | rfl | omega) | (simp only [Int32.lt_iff_toInt_lt, Int32.le_iff_toInt_le, ← Int32.toInt_inj, Int32.reduceToInt] at *; omega) | grind), trivial⟩, hS.F ht⟩) hS.2.2 dX6_market_35
    · skip
      have b_10 := b01z k_7 c_8
      refine lv_iconst (v := (-1)) hx hb dX6_market_22 (by decide) ?_
      exact W.iret (v := (-1)) hx hb hr (fun t ht hW => ⟨⟨(-1), (), rfl, (by first | rfl | trivial | (simp only [Int32.lt_iff_toInt_lt, Int32.le_iff_toInt_le, ← Int32.toInt_inj, Int32.reduceToInt] at b_5 b_10 ⊢; (repeat' split) <;> first | rfl | omega) | (simp only [Int32.lt_iff_toInt_lt, Int32.le_iff_toInt_le, ← Int32.toInt_inj, Int32.reduceToInt] at *; omega) | grind), trivial⟩, hS.F ht⟩) hS.2.2 dX6_market_23
set_option maxRecDepth 20000 in
theorem iw_X6_meanPrice_X6 : ∀ w ∈ wsX60, w ∈ wsX6_meanPrice := by decide +kernel
set_option maxHeartbeats 4000000 in
set_option maxRecDepth 100000 in
/-- the reference's meanPrice, fresh -/
theorem c_X6_meanPrice (l : Launch) (dC : Nat → ClassId) (dI : Nat → Nat → Nat) (sz : Nat) (m0 : Nat) (mfi : Nat) (mil : Nat) (mic : Nat) (mwi : Nat) (mmo : Nat) (mki : Nat) (mce : Nat) (mgo : Nat) (mwa : Nat) (mha : Nat) (mch : Nat) (mfo : Nat) (mca : Nat) (mor : Nat) (mro : Nat) (mra : Nat) (mpr : Nat) (mho : Nat) (mis : Nat) (mss : Nat) (msc : Nat) (msh : Nat) (cI : ClassId)  : Met l yX6_meanPrice wsX6_meanPrice ({ frames := 1, cells := 0, slots := 0, locals := 21 }) (va_Pc [.ref m0] (fun U => U.heap.size = sz ∧ va_P (dC, dI) vwCl [(m0, .inr (7, [.int 0, .ref mfi, .long 0, .int 0, .ref mil, .ref mic, .ref mwi, .int 0, .int 0, .ref mmo, .int 0, .ref mki, .ref mce, .ref mgo, .ref mwa, .ref mha, .ref mch, .ref mfo, .ref mca, .ref mor, .ref mro, .ref mra, .ref mpr, .ref mho, .ref mis, .int 0, .ref mss, .ref msc, .ref msh, .int 100, .int 1])), (mfi, .inl (cI, 6, .inl (fun _ => 0)))] U.heap ∧ va_K (dC, dI) vwCl [(cI, .int)] U ∧ NW U ∧ va_D (fun _ => True) [(m0, .inr (7, [.int 0, .ref mfi, .long 0, .int 0, .ref mil, .ref mic, .ref mwi, .int 0, .int 0, .ref mmo, .int 0, .ref mki, .ref mce, .ref mgo, .ref mwa, .ref mha, .ref mch, .ref mfo, .ref mca, .ref mor, .ref mro, .ref mra, .ref mpr, .ref mho, .ref mis, .int 0, .ref mss, .ref msc, .ref msh, .int 100, .int 1])), (mfi, .inl (cI, 6, .inl (fun _ => 0)))])) (va_Qi (fun (r : Int32) (_ : Unit) => r = (-3)) (fun _ _ => True) (va_A [(m0, .inr (7, [.int 0, .ref mfi, .long 0, .int 0, .ref mil, .ref mic, .ref mwi, .int 0, .int 0, .ref mmo, .int 0, .ref mki, .ref mce, .ref mgo, .ref mwa, .ref mha, .ref mch, .ref mfo, .ref mca, .ref mor, .ref mro, .ref mra, .ref mpr, .ref mho, .ref mis, .int 0, .ref mss, .ref msc, .ref msh, .int 100, .int 1])), (mfi, .inl (cI, 6, .inl (fun _ => 0)))] sz)) 0 0 (va_A [(m0, .inr (7, [.int 0, .ref mfi, .long 0, .int 0, .ref mil, .ref mic, .ref mwi, .int 0, .int 0, .ref mmo, .int 0, .ref mki, .ref mce, .ref mgo, .ref mwa, .ref mha, .ref mch, .ref mfo, .ref mca, .ref mor, .ref mro, .ref mra, .ref mpr, .ref mho, .ref mis, .int 0, .ref mss, .ref msc, .ref msh, .int 100, .int 1])), (mfi, .inl (cI, 6, .inl (fun _ => 0)))] sz) := by
  refine Met.ofW (cc := cX6_meanPrice) (maxL := 6) (ret := (some .int)) (by decide) rfl ?_
  intro p e s m args below meth c s₁ B hml hv
  obtain ⟨rfl, hsz, hP, hK, hN, hD0⟩ := hv
  have hx := B.exec
  have hb := B.bytes
  have hr := B.returns
  have hts := atoms_spec (ws := wsX6_meanPrice) B.pre
  have hown : s.vm.findClass RX6 = some m.cls := findClass_of_methodNamed B.named
  have hlocks := B.notSynchronized
  subst hsz
  have hD := hD0.self (sz := s.heap.size)
  generalize hAe : va_A [(m0, .inr (7, [.int 0, .ref mfi, .long 0, .int 0, .ref mil, .ref mic, .ref mwi, .int 0, .int 0, .ref mmo, .int 0, .ref mki, .ref mce, .ref mgo, .ref mwa, .ref mha, .ref mch, .ref mfo, .ref mca, .ref mor, .ref mro, .ref mra, .ref mpr, .ref mho, .ref mis, .int 0, .ref mss, .ref msc, .ref msh, .int 100, .int 1])), (mfi, .inl (cI, 6, .inl (fun _ => 0)))] s.heap.size = A at hD ⊢
  have hA : ∀ q : Nat, s.heap.size ≤ q → A q := fun q h => by rw [← hAe]; exact Or.inr h
  have hS : va_S A s.heap s.heap [] := va_S.rf
  have hP : va_P (dC, dI) vwCl [(m0, .inr (7, [.int 0, .ref mfi, .long 0, .int 0, .ref mil, .ref mic, .ref mwi, .int 0, .int 0, .ref mmo, .int 0, .ref mki, .ref mce, .ref mgo, .ref mwa, .ref mha, .ref mch, .ref mfo, .ref mca, .ref mor, .ref mro, .ref mra, .ref mpr, .ref mho, .ref mis, .int 0, .ref mss, .ref msc, .ref msh, .int 100, .int 1])), (mfi, .inl (cI, 6, .inl (fun _ => 0)))] s.heap := hP
  have hl := lv_entry ([.ref m0]) (n := 6) (Nat.le_of_ble_eq_true rfl)
  rw [lg_entry_eq]
  generalize (lg_sl ([.ref m0]) ++ List.replicate (6 - (lg_sl ([.ref m0])).length) Slot.unset).toArray = ls at hl ⊢
  have hl : lv_has ls 6 [(0, .ref m0)] := hl
  refine lv_lconst (v := 0) hx hb dX6_meanPrice_0 (by decide) ?_
  refine lv_lstore_n (lv' := [(1, .long 0), (0, .ref m0)]) hx hb dX6_meanPrice_1 rfl hl (by decide) rfl (fun ls hl => ?_)
  refine lv_lconst (v := 0) hx hb dX6_meanPrice_2 (by decide) ?_
  refine lv_lstore_n (lv' := [(3, .long 0), (1, .long 0), (0, .ref m0)]) hx hb dX6_meanPrice_3 rfl hl (by decide) rfl (fun ls hl => ?_)
  refine lv_iconst (v := 0) hx hb dX6_meanPrice_4 (by decide) ?_
  refine lv_istore (lv' := [(5, .int 0), (3, .long 0), (1, .long 0), (0, .ref m0)]) hx hb dX6_meanPrice_5 hl (by decide) rfl (fun ls hl => ?_)
  refine lv_iload hx hb dX6_meanPrice_7 (lv_at hl 0 rfl) ?_
  refine lv_aload_n hx hb dX6_meanPrice_9 rfl (lv_at hl 3 rfl) ?_
  refine va_get (D := (dC, dI)) (ci := 7) (v := .int 0) (C := RX6) (T := TX6) (N := 31) hx hb hts iw_X6_meanPrice_X6 hown hK hP 0 rfl rfl 10 (by decide) (hts (.fieldLink RX6 110 "TeaRaceModel" "ships" "I") (by decide +kernel)) (fun _ h9 => h9) rfl dX6_meanPrice_10 ?_
  refine lv_icmp_ge (tgt := 64) hx hb dX6_meanPrice_13 (by decide) (fun c_1 => ?_) (fun c_1 => ?_)
  · skip
    refine lv_lload_n hx hb dX6_meanPrice_64 rfl (lv_at hl 1 rfl) ?_
    refine lv_lconst (v := 0) hx hb dX6_meanPrice_65 (by decide) ?_
    refine W.lcmp hx hb dX6_meanPrice_66 ?_
    refine lv_topi (fun x_2 ex_2 => ?_)
    obtain rfl : x_2 = 0 := ex_2.trans (by decide +kernel)
    refine lv_if_ne (tgt := 78) hx hb dX6_meanPrice_67 (by decide) (fun c_3 => ?_) (fun c_3 => ?_)
    · skip
      exact absurd (by decide) c_3
    · skip
      refine lv_aload_n hx hb dX6_meanPrice_70 rfl (lv_at hl 3 rfl) ?_
      refine lv_iconst (v := 4) hx hb dX6_meanPrice_71 (by decide) ?_
      have hPc := hP.sub (ws' := [(m0, .inr (7, [.int 0, .ref mfi, .long 0, .int 0, .ref mil, .ref mic, .ref mwi, .int 0, .int 0, .ref mmo, .int 0, .ref mki, .ref mce, .ref mgo, .ref mwa, .ref mha, .ref mch, .ref mfo, .ref mca, .ref mor, .ref mro, .ref mra, .ref mpr, .ref mho, .ref mis, .int 0, .ref mss, .ref msc, .ref msh, .int 100, .int 1])), (mfi, .inl (cI, 6, .inl (fun _ => 0)))]) [0, 1] rfl
      have hDc := hD.sub (ws' := [(m0, .inr (7, [.int 0, .ref mfi, .long 0, .int 0, .ref mil, .ref mic, .ref mwi, .int 0, .int 0, .ref mmo, .int 0, .ref mki, .ref mce, .ref mgo, .ref mwa, .ref mha, .ref mch, .ref mfo, .ref mca, .ref mor, .ref mro, .ref mra, .ref mpr, .ref mho, .ref mis, .int 0, .ref mss, .ref msc, .ref msh, .int 100, .int 1])), (mfi, .inl (cI, 6, .inl (fun _ => 0)))]) [0, 1] (by decide) rfl
      have hKc := hK.sub (tys' := [(cI, .int)]) [0] rfl
      have hFc := va_free (wc := [(m0, .inr (7, [.int 0, .ref mfi, .long 0, .int 0, .ref mil, .ref mic, .ref mwi, .int 0, .int 0, .ref mmo, .int 0, .ref mki, .ref mce, .ref mgo, .ref mwa, .ref mha, .ref mch, .ref mfo, .ref mca, .ref mor, .ref mro, .ref mra, .ref mpr, .ref mho, .ref mis, .int 0, .ref mss, .ref msc, .ref msh, .int 100, .int 1])), (mfi, .inl (cI, 6, .inl (fun _ => 0)))]) hD hS hA [0, 1] rfl
      refine va_calli (va_runV (As := [.int 4]) (rest := []) ⟨hx, hb, hml, hown, hts⟩ (c_X6_meets l dC dI s.heap.size m0 mfi mil mic mwi mmo mki mce mgo mwa mha mch mfo mca mor mro mra mpr mho mis mss msc msh cI 4 (by simp only [Int32.lt_iff_toInt_lt, Int32.le_iff_toInt_le, ← Int32.toInt_inj, Int32.reduceToInt]; omega)) (cwV 1 hts gX6_meanPrice_X6_meets rfl rfl rfl (by decide +kernel) ⟨Nat.le_of_ble_eq_true rfl, Nat.le_of_ble_eq_true rfl⟩) ⟨fun a U g mk q => by obtain ⟨q0, q1, qP, qK, qN, qD⟩ := q; exact ⟨q0, q1, qP, va_K.moved (u := U) (U := U.calling g mk a) (Vm.Alike.refl U.vm) qK, NW.same (u := U) (U := U.calling g mk a) rfl qN, qD⟩, va_recv hKc hPc (ci := 7) (q0 := 0) rfl rfl, fun U hU hW => ⟨rfl, by rw [hU], by rw [hU]; exact hPc, va_K.moved hW.alike hKc, NW.warm hW hN, hDc.weaken (fun _ _ _ _ => trivial)⟩⟩ rfl rfl hl.1 rfl (lv_room (Nat.le_of_ble_eq_true rfl)) dX6_meanPrice_72 ⟨(Nat.zero_le _), (Nat.zero_le _)⟩) hS (fun q _ h => hFc q h) hFc (fun r_4 u t H1 locs ht hvm k_5 hB hz1 hk1 hS => ?_)
      have hPr := hP.sub (ws' := []) [] rfl
      have hDr := hD.sub (ws' := []) [] (by decide) rfl
      have hP := wr_P hk1 hPr (va_apartR hD [0, 1] [] rfl rfl (by decide))
      have hD := hDr
      generalize H1 = H at hP hS ⊢
      have hP : va_P (dC, dI) vwCl [] H := hP
      have hD : va_D A [] := hD
      try dsimp only at k_5
      obtain rfl : r_4 = (-3) := k_5
      refine lv_goto (tgt := 82) hx hb dX6_meanPrice_75 (by decide) ?_
      exact W.iret (v := (-3)) hx hb hr (fun t ht hW => ⟨⟨(-3), (), rfl, (by first | rfl | trivial | (simp; done)), trivial⟩, hS.F ht⟩) hS.2.2 dX6_meanPrice_82
  · skip
    exact absurd (by decide) c_1
