set_option maxRecDepth 20000 in
theorem iw_X6_isShip_X6 : ∀ w ∈ wsX60, w ∈ wsX6_isShip := by decide +kernel
set_option maxHeartbeats 4000000 in
set_option maxRecDepth 100000 in
/-- the reference's isShip, fresh -/
theorem c_X6_isShip (l : Launch) (dC : Nat → ClassId) (dI : Nat → Nat → Nat) (sz : Nat) (m0 : Nat) (mfi : Nat) (mil : Nat) (mic : Nat) (mwi : Nat) (mmo : Nat) (mki : Nat) (mce : Nat) (mgo : Nat) (mwa : Nat) (mha : Nat) (mch : Nat) (mfo : Nat) (mca : Nat) (mor : Nat) (mro : Nat) (mra : Nat) (mpr : Nat) (mho : Nat) (mis : Nat) (mss : Nat) (msc : Nat) (msh : Nat) (a0 : Int32)  : Met l yX6_isShip wsX6_isShip ({ frames := 1, cells := 0, slots := 0, locals := 22 }) (va_Pc [.ref m0, .int a0] (fun U => U.heap.size = sz ∧ va_P (dC, dI) vwCl [(m0, .inr (7, [.int 0, .ref mfi, .long 0, .int 0, .ref mil, .ref mic, .ref mwi, .int 0, .int 0, .ref mmo, .int 0, .ref mki, .ref mce, .ref mgo, .ref mwa, .ref mha, .ref mch, .ref mfo, .ref mca, .ref mor, .ref mro, .ref mra, .ref mpr, .ref mho, .ref mis, .int 0, .ref mss, .ref msc, .ref msh, .int 100, .int 1]))] U.heap ∧ va_K (dC, dI) vwCl [] U ∧ NW U)) (va_Qi (fun (r : Int32) (_ : Unit) => r = 0) (fun _ _ => True) (va_A [] sz)) 0 0 (va_A [] sz) := by
  refine Met.ofW (cc := cX6_isShip) (maxL := 2) (ret := (some .boolean)) (by decide) rfl ?_
  intro p e s m args below meth c s₁ B hml hv
  obtain ⟨rfl, hsz, hP, hK, hN⟩ := hv
  have hx := B.exec
  have hb := B.bytes
  have hr := B.returns
  have hts := atoms_spec (ws := wsX6_isShip) B.pre
  have hown : s.vm.findClass RX6 = some m.cls := findClass_of_methodNamed B.named
  have hlocks := B.notSynchronized
  subst hsz
  generalize hAe : va_A [] s.heap.size = A at ⊢
  have hA : ∀ q : Nat, s.heap.size ≤ q → A q := fun q h => by rw [← hAe]; exact Or.inr h
  have hS : va_S A s.heap s.heap [] := va_S.rf
  have hP : va_P (dC, dI) vwCl [(m0, .inr (7, [.int 0, .ref mfi, .long 0, .int 0, .ref mil, .ref mic, .ref mwi, .int 0, .int 0, .ref mmo, .int 0, .ref mki, .ref mce, .ref mgo, .ref mwa, .ref mha, .ref mch, .ref mfo, .ref mca, .ref mor, .ref mro, .ref mra, .ref mpr, .ref mho, .ref mis, .int 0, .ref mss, .ref msc, .ref msh, .int 100, .int 1]))] s.heap := hP
  have hl := lv_entry ([.ref m0, .int a0]) (n := 2) (Nat.le_of_ble_eq_true rfl)
  rw [lg_entry_eq]
  generalize (lg_sl ([.ref m0, .int a0]) ++ List.replicate (2 - (lg_sl ([.ref m0, .int a0])).length) Slot.unset).toArray = ls at hl ⊢
  have hl : lv_has ls 2 [(0, .ref m0), (1, .int a0)] := hl
  refine lv_iload_n hx hb dX6_isShip_0 rfl (lv_at hl 1 rfl) ?_
  refine lv_iconst (v := 0) hx hb dX6_isShip_1 (by decide) ?_
  refine lv_aload_n hx hb dX6_isShip_2 rfl (lv_at hl 0 rfl) ?_
  refine va_get (D := (dC, dI)) (ci := 7) (v := .int 0) (C := RX6) (T := TX6) (N := 31) hx hb hts iw_X6_isShip_X6 hown hK hP 0 rfl rfl 10 (by decide) (hts (.fieldLink RX6 110 "TeaRaceModel" "ships" "I") (by decide +kernel)) (fun _ h9 => h9) rfl dX6_isShip_3 ?_
  refine lv_iconst (v := 1) hx hb dX6_isShip_6 (by decide) ?_
  refine lv_isub hx hb dX6_isShip_7 ?_
  refine lv_topi (fun x_1 ex_1 => ?_)
  obtain rfl : x_1 = (-1) := ex_1.trans (by decide +kernel)
  refine va_calli (va_runS (As := [.int a0, .int 0, .int (-1)]) (rest := []) ⟨hx, hb, hml, hown, hts⟩ (c_X6_in l s.heap.size a0 0 (-1) ) (va_cwS 3 hts gX6_isShip_X6_in rfl rfl rfl (by decide +kernel) ⟨Nat.le_of_ble_eq_true rfl, Nat.le_of_ble_eq_true rfl⟩) ⟨fun a U g mk q => by obtain ⟨q0, q1⟩ := q; exact ⟨q0, q1⟩, fun U hU hW => ⟨rfl, congrArg Array.size hU⟩⟩ rfl rfl hl.1 rfl (lv_room (Nat.le_of_ble_eq_true rfl)) dX6_isShip_8 ⟨(Nat.zero_le _), (Nat.zero_le _)⟩) hS (fun q _ h => ro_A hS hA q h) (ro_A hS hA) (fun r_2 u t H1 locs ht hvm k_3 hB hz1 hk1 hS => ?_)
  have hP := ro_P hk1 hP
  generalize H1 = H at hP hS ⊢
  try dsimp only at k_3
  exact W.zret (v := r_2) hx hb hr (b01nar k_3) (fun t ht hW => ⟨⟨r_2, (), rfl, (by first | exact k_3 | (rw [k_3]; done) | (rw [k_3]; (try simp only [Int32.lt_iff_toInt_lt, Int32.le_iff_toInt_le, ← Int32.toInt_inj, Int32.reduceToInt]); (repeat' split) <;> first | rfl | omega) | (rw [k_3]; first | rfl | trivial | (simp; done))), trivial⟩, hS.F ht⟩) hS.2.2 dX6_isShip_11
set_option maxRecDepth 20000 in
theorem iw_X6_meets_X6 : ∀ w ∈ wsX60, w ∈ wsX6_meets := by decide +kernel
set_option maxHeartbeats 4000000 in
set_option maxRecDepth 100000 in
/-- meets -/
theorem c_X6_meets (l : Launch) (dC : Nat → ClassId) (dI : Nat → Nat → Nat) (sz : Nat) (m0 : Nat) (mfi : Nat) (mil : Nat) (mic : Nat) (mwi : Nat) (mmo : Nat) (mki : Nat) (mce : Nat) (mgo : Nat) (mwa : Nat) (mha : Nat) (mch : Nat) (mfo : Nat) (mca : Nat) (mor : Nat) (mro : Nat) (mra : Nat) (mpr : Nat) (mho : Nat) (mis : Nat) (mss : Nat) (msc : Nat) (msh : Nat) (cI : ClassId) (a0 : Int32) (ha : 0 ≤ a0 ∧ a0 ≤ 5) : Met l yX6_meets wsX6_meets ({ frames := 0, cells := 0, slots := 0, locals := 0 }) (va_Pc [.ref m0, .int a0] (fun U => U.heap.size = sz ∧ va_P (dC, dI) vwCl [(m0, .inr (7, [.int 0, .ref mfi, .long 0, .int 0, .ref mil, .ref mic, .ref mwi, .int 0, .int 0, .ref mmo, .int 0, .ref mki, .ref mce, .ref mgo, .ref mwa, .ref mha, .ref mch, .ref mfo, .ref mca, .ref mor, .ref mro, .ref mra, .ref mpr, .ref mho, .ref mis, .int 0, .ref mss, .ref msc, .ref msh, .int 100, .int 1])), (mfi, .inl (cI, 6, .inl (fun _ => 0)))] U.heap ∧ va_K (dC, dI) vwCl [(cI, .int)] U ∧ NW U ∧ va_D (fun _ => True) [(m0, .inr (7, [.int 0, .ref mfi, .long 0, .int 0, .ref mil, .ref mic, .ref mwi, .int 0, .int 0, .ref mmo, .int 0, .ref mki, .ref mce, .ref mgo, .ref mwa, .ref mha, .ref mch, .ref mfo, .ref mca, .ref mor, .ref mro, .ref mra, .ref mpr, .ref mho, .ref mis, .int 0, .ref mss, .ref msc, .ref msh, .int 100, .int 1])), (mfi, .inl (cI, 6, .inl (fun _ => 0)))])) (va_Qi (fun (r : Int32) (_ : Unit) => r = (-3)) (fun _ _ => True) (va_A [(m0, .inr (7, [.int 0, .ref mfi, .long 0, .int 0, .ref mil, .ref mic, .ref mwi, .int 0, .int 0, .ref mmo, .int 0, .ref mki, .ref mce, .ref mgo, .ref mwa, .ref mha, .ref mch, .ref mfo, .ref mca, .ref mor, .ref mro, .ref mra, .ref mpr, .ref mho, .ref mis, .int 0, .ref mss, .ref msc, .ref msh, .int 100, .int 1])), (mfi, .inl (cI, 6, .inl (fun _ => 0)))] sz)) 0 0 (va_A [(m0, .inr (7, [.int 0, .ref mfi, .long 0, .int 0, .ref mil, .ref mic, .ref mwi, .int 0, .int 0, .ref mmo, .int 0, .ref mki, .ref mce, .ref mgo, .ref mwa, .ref mha, .ref mch, .ref mfo, .ref mca, .ref mor, .ref mro, .ref mra, .ref mpr, .ref mho, .ref mis, .int 0, .ref mss, .ref msc, .ref msh, .int 100, .int 1])), (mfi, .inl (cI, 6, .inl (fun _ => 0)))] sz) := by
  refine Met.ofW (cc := cX6_meets) (maxL := 2) (ret := (some .int)) (by decide) rfl ?_
  intro p e s m args below meth c s₁ B hml hv
  obtain ⟨rfl, hsz, hP, hK, hN, hD0⟩ := hv
  have hx := B.exec
  have hb := B.bytes
  have hr := B.returns
  have hts := atoms_spec (ws := wsX6_meets) B.pre
  have hown : s.vm.findClass RX6 = some m.cls := findClass_of_methodNamed B.named
  have hlocks := B.notSynchronized
  subst hsz
  have hD := hD0.self (sz := s.heap.size)
  generalize hAe : va_A [(m0, .inr (7, [.int 0, .ref mfi, .long 0, .int 0, .ref mil, .ref mic, .ref mwi, .int 0, .int 0, .ref mmo, .int 0, .ref mki, .ref mce, .ref mgo, .ref mwa, .ref mha, .ref mch, .ref mfo, .ref mca, .ref mor, .ref mro, .ref mra, .ref mpr, .ref mho, .ref mis, .int 0, .ref mss, .ref msc, .ref msh, .int 100, .int 1])), (mfi, .inl (cI, 6, .inl (fun _ => 0)))] s.heap.size = A at hD ⊢
  have hA : ∀ q : Nat, s.heap.size ≤ q → A q := fun q h => by rw [← hAe]; exact Or.inr h
  have hS : va_S A s.heap s.heap [] := va_S.rf
  have hP : va_P (dC, dI) vwCl [(m0, .inr (7, [.int 0, .ref mfi, .long 0, .int 0, .ref mil, .ref mic, .ref mwi, .int 0, .int 0, .ref mmo, .int 0, .ref mki, .ref mce, .ref mgo, .ref mwa, .ref mha, .ref mch, .ref mfo, .ref mca, .ref mor, .ref mro, .ref mra, .ref mpr, .ref mho, .ref mis, .int 0, .ref mss, .ref msc, .ref msh, .int 100, .int 1])), (mfi, .inl (cI, 6, .inl (fun _ => 0)))] s.heap := hP
  have hl := lv_entry ([.ref m0, .int a0]) (n := 2) (Nat.le_of_ble_eq_true rfl)
  rw [lg_entry_eq]
  generalize (lg_sl ([.ref m0, .int a0]) ++ List.replicate (2 - (lg_sl ([.ref m0, .int a0])).length) Slot.unset).toArray = ls at hl ⊢
  have hl : lv_has ls 2 [(0, .ref m0), (1, .int a0)] := hl
  refine lv_aload_n hx hb dX6_meets_0 rfl (lv_at hl 0 rfl) ?_
  refine lv_iload_n hx hb dX6_meets_1 rfl (lv_at hl 1 rfl) ?_
  refine va_put (D := (dC, dI)) (ci := 7) (v := .int a0) (ty := .int) (C := RX6) (T := TX6) (N := 31) hx hb hts iw_X6_meets_X6 tyX6 tyX6_ok nmX6 hown hK hP hD hS 0 rfl rfl 0 (by decide) (hts (.fieldLink RX6 84 "TeaRaceModel" "finding" "I") (by decide +kernel)) (fun _ h9 => h9) rfl (by decide +kernel) rfl rfl (Nat.le_of_ble_eq_true rfl) dX6_meets_2 (fun H locs hP hD hS => ?_)
  have hP : va_P (dC, dI) vwCl [(m0, .inr (7, [.int a0, .ref mfi, .long 0, .int 0, .ref mil, .ref mic, .ref mwi, .int 0, .int 0, .ref mmo, .int 0, .ref mki, .ref mce, .ref mgo, .ref mwa, .ref mha, .ref mch, .ref mfo, .ref mca, .ref mor, .ref mro, .ref mra, .ref mpr, .ref mho, .ref mis, .int 0, .ref mss, .ref msc, .ref msh, .int 100, .int 1])), (mfi, .inl (cI, 6, .inl (fun _ => 0)))] H := hP
  have hD : va_D A [(m0, .inr (7, [.int a0, .ref mfi, .long 0, .int 0, .ref mil, .ref mic, .ref mwi, .int 0, .int 0, .ref mmo, .int 0, .ref mki, .ref mce, .ref mgo, .ref mwa, .ref mha, .ref mch, .ref mfo, .ref mca, .ref mor, .ref mro, .ref mra, .ref mpr, .ref mho, .ref mis, .int 0, .ref mss, .ref msc, .ref msh, .int 100, .int 1])), (mfi, .inl (cI, 6, .inl (fun _ => 0)))] := hD
  refine lv_aload_n hx hb dX6_meets_5 rfl (lv_at hl 0 rfl) ?_
  refine va_get (D := (dC, dI)) (ci := 7) (v := .ref mfi) (C := RX6) (T := TX6) (N := 31) hx hb hts iw_X6_meets_X6 hown hK hP 0 rfl rfl 1 (by decide) (hts (.fieldLink RX6 7 "TeaRaceModel" "findings" "[I") (by decide +kernel)) (fun _ h9 => h9) rfl dX6_meets_6 ?_
  refine lv_iload_n hx hb dX6_meets_9 rfl (lv_at hl 1 rfl) ?_
  refine lv_dup2_11 hx hb dX6_meets_10 rfl rfl ?_
  refine va_iald hx hb hK hP 1 0 rfl rfl (vp_in_iff.mpr (by (try simp only [Int32.lt_iff_toInt_lt, Int32.le_iff_toInt_le, ← Int32.toInt_inj, Int32.reduceToInt] at ha ⊢); omega)) dX6_meets_11 ?_
  refine lv_topi (fun x_1 ex_1 => ?_)
  obtain rfl : x_1 = 0 := ex_1
  refine lv_iconst (v := 1) hx hb dX6_meets_12 (by decide) ?_
  refine lv_iadd hx hb dX6_meets_13 ?_
  refine lv_topi (fun x_2 ex_2 => ?_)
  obtain rfl : x_2 = 1 := ex_2.trans (by decide +kernel)
  refine va_iast hx hb hK hP hD hS 1 0 rfl rfl (vp_in_iff.mpr (by (try simp only [Int32.lt_iff_toInt_lt, Int32.le_iff_toInt_le, ← Int32.toInt_inj, Int32.reduceToInt] at ha ⊢); omega)) dX6_meets_14 (fun H locs hP hD hS => ?_)
  have hP : va_P (dC, dI) vwCl [(m0, .inr (7, [.int a0, .ref mfi, .long 0, .int 0, .ref mil, .ref mic, .ref mwi, .int 0, .int 0, .ref mmo, .int 0, .ref mki, .ref mce, .ref mgo, .ref mwa, .ref mha, .ref mch, .ref mfo, .ref mca, .ref mor, .ref mro, .ref mra, .ref mpr, .ref mho, .ref mis, .int 0, .ref mss, .ref msc, .ref msh, .int 100, .int 1])), (mfi, .inl (cI, 6, .inl (upd (fun _ => 0) a0.toNatClampNeg 1)))] H := hP
  have hD : va_D A [(m0, .inr (7, [.int a0, .ref mfi, .long 0, .int 0, .ref mil, .ref mic, .ref mwi, .int 0, .int 0, .ref mmo, .int 0, .ref mki, .ref mce, .ref mgo, .ref mwa, .ref mha, .ref mch, .ref mfo, .ref mca, .ref mor, .ref mro, .ref mra, .ref mpr, .ref mho, .ref mis, .int 0, .ref mss, .ref msc, .ref msh, .int 100, .int 1])), (mfi, .inl (cI, 6, .inl (upd (fun _ => 0) a0.toNatClampNeg 1)))] := hD
  refine lv_bipush (v := (-3)) hx hb dX6_meets_15 (by decide) ?_
  exact W.iret (v := (-3)) hx hb hr (fun t ht hW => ⟨⟨(-3), (), rfl, (by first | rfl | trivial | (simp only [Int32.lt_iff_toInt_lt, Int32.le_iff_toInt_le, ← Int32.toInt_inj, Int32.reduceToInt] at ha ⊢; (repeat' split) <;> first | rfl | omega) | (simp only [Int32.lt_iff_toInt_lt, Int32.le_iff_toInt_le, ← Int32.toInt_inj, Int32.reduceToInt] at *; omega) | grind), trivial⟩, hS.F ht⟩) hS.2.2 dX6_meets_17
set_option maxRecDepth 20000 in
theorem iw_X6_looked_X6 : ∀ w ∈ wsX60, w ∈ wsX6_looked := by decide +kernel
set_option maxHeartbeats 4000000 in
set_option maxRecDepth 100000 in
/-- the reference's looked, fresh -/
theorem c_X6_looked (l : Launch) (dC : Nat → ClassId) (dI : Nat → Nat → Nat) (sz : Nat) (m0 : Nat) (mfi : Nat) (mil : Nat) (mic : Nat) (mwi : Nat) (mmo : Nat) (mki : Nat) (mce : Nat) (mgo : Nat) (mwa : Nat) (mha : Nat) (mch : Nat) (mfo : Nat) (mca : Nat) (mor : Nat) (mro : Nat) (mra : Nat) (mpr : Nat) (mho : Nat) (mis : Nat) (mss : Nat) (msc : Nat) (msh : Nat) (cI : ClassId) (cZ : ClassId) (a0 : Int32)  : Met l yX6_looked wsX6_looked ({ frames := 2, cells := 0, slots := 0, locals := 42 }) (va_Pc [.ref m0, .int a0] (fun U => U.heap.size = sz ∧ va_P (dC, dI) vwCl [(m0, .inr (7, [.int 0, .ref mfi, .long 0, .int 0, .ref mil, .ref mic, .ref mwi, .int 0, .int 0, .ref mmo, .int 0, .ref mki, .ref mce, .ref mgo, .ref mwa, .ref mha, .ref mch, .ref mfo, .ref mca, .ref mor, .ref mro, .ref mra, .ref mpr, .ref mho, .ref mis, .int 0, .ref mss, .ref msc, .ref msh, .int 100, .int 1])), (mic, .inl (cZ, 12, .inl (fun _ => 0))), (mfi, .inl (cI, 6, .inl (fun _ => 0)))] U.heap ∧ va_K (dC, dI) vwCl [(cI, .int), (cZ, .boolean)] U ∧ NW U ∧ va_D (fun _ => True) [(m0, .inr (7, [.int 0, .ref mfi, .long 0, .int 0, .ref mil, .ref mic, .ref mwi, .int 0, .int 0, .ref mmo, .int 0, .ref mki, .ref mce, .ref mgo, .ref mwa, .ref mha, .ref mch, .ref mfo, .ref mca, .ref mor, .ref mro, .ref mra, .ref mpr, .ref mho, .ref mis, .int 0, .ref mss, .ref msc, .ref msh, .int 100, .int 1])), (mic, .inl (cZ, 12, .inl (fun _ => 0))), (mfi, .inl (cI, 6, .inl (fun _ => 0)))])) (va_Qi (fun (r : Int32) (_ : Unit) => r = if (a0 < 0 ∨ 11 < a0) then (-1) else (-3)) (fun _ _ => True) (va_A [(m0, .inr (7, [.int 0, .ref mfi, .long 0, .int 0, .ref mil, .ref mic, .ref mwi, .int 0, .int 0, .ref mmo, .int 0, .ref mki, .ref mce, .ref mgo, .ref mwa, .ref mha, .ref mch, .ref mfo, .ref mca, .ref mor, .ref mro, .ref mra, .ref mpr, .ref mho, .ref mis, .int 0, .ref mss, .ref msc, .ref msh, .int 100, .int 1])), (mic, .inl (cZ, 12, .inl (fun _ => 0))), (mfi, .inl (cI, 6, .inl (fun _ => 0)))] sz)) 0 0 (va_A [(m0, .inr (7, [.int 0, .ref mfi, .long 0, .int 0, .ref mil, .ref mic, .ref mwi, .int 0, .int 0, .ref mmo, .int 0, .ref mki, .ref mce, .ref mgo, .ref mwa, .ref mha, .ref mch, .ref mfo, .ref mca, .ref mor, .ref mro, .ref mra, .ref mpr, .ref mho, .ref mis, .int 0, .ref mss, .ref msc, .ref msh, .int 100, .int 1])), (mic, .inl (cZ, 12, .inl (fun _ => 0))), (mfi, .inl (cI, 6, .inl (fun _ => 0)))] sz) := by
  refine Met.ofW (cc := cX6_looked) (maxL := 2) (ret := (some .int)) (by decide) rfl ?_
  intro p e s m args below meth c s₁ B hml hv
  obtain ⟨rfl, hsz, hP, hK, hN, hD0⟩ := hv
  have hx := B.exec
  have hb := B.bytes
  have hr := B.returns
  have hts := atoms_spec (ws := wsX6_looked) B.pre
  have hown : s.vm.findClass RX6 = some m.cls := findClass_of_methodNamed B.named
  have hlocks := B.notSynchronized
  subst hsz
  have hD := hD0.self (sz := s.heap.size)
  generalize hAe : va_A [(m0, .inr (7, [.int 0, .ref mfi, .long 0, .int 0, .ref mil, .ref mic, .ref mwi, .int 0, .int 0, .ref mmo, .int 0, .ref mki, .ref mce, .ref mgo, .ref mwa, .ref mha, .ref mch, .ref mfo, .ref mca, .ref mor, .ref mro, .ref mra, .ref mpr, .ref mho, .ref mis, .int 0, .ref mss, .ref msc, .ref msh, .int 100, .int 1])), (mic, .inl (cZ, 12, .inl (fun _ => 0))), (mfi, .inl (cI, 6, .inl (fun _ => 0)))] s.heap.size = A at hD ⊢
  have hA : ∀ q : Nat, s.heap.size ≤ q → A q := fun q h => by rw [← hAe]; exact Or.inr h
  have hS : va_S A s.heap s.heap [] := va_S.rf
  have hP : va_P (dC, dI) vwCl [(m0, .inr (7, [.int 0, .ref mfi, .long 0, .int 0, .ref mil, .ref mic, .ref mwi, .int 0, .int 0, .ref mmo, .int 0, .ref mki, .ref mce, .ref mgo, .ref mwa, .ref mha, .ref mch, .ref mfo, .ref mca, .ref mor, .ref mro, .ref mra, .ref mpr, .ref mho, .ref mis, .int 0, .ref mss, .ref msc, .ref msh, .int 100, .int 1])), (mic, .inl (cZ, 12, .inl (fun _ => 0))), (mfi, .inl (cI, 6, .inl (fun _ => 0)))] s.heap := hP
  have hl := lv_entry ([.ref m0, .int a0]) (n := 2) (Nat.le_of_ble_eq_true rfl)
  rw [lg_entry_eq]
  generalize (lg_sl ([.ref m0, .int a0]) ++ List.replicate (2 - (lg_sl ([.ref m0, .int a0])).length) Slot.unset).toArray = ls at hl ⊢
  have hl : lv_has ls 2 [(0, .ref m0), (1, .int a0)] := hl
  refine lv_iload_n hx hb dX6_looked_0 rfl (lv_at hl 1 rfl) ?_
  refine va_calli (va_runS (As := [.int a0]) (rest := []) ⟨hx, hb, hml, hown, hts⟩ (c_X6_isMonth l s.heap.size a0 ) (va_cwS 1 hts gX6_looked_X6_isMonth rfl rfl rfl (by decide +kernel) ⟨Nat.le_of_ble_eq_true rfl, Nat.le_of_ble_eq_true rfl⟩) ⟨fun a U g mk q => by obtain ⟨q0, q1⟩ := q; exact ⟨q0, q1⟩, fun U hU hW => ⟨rfl, congrArg Array.size hU⟩⟩ rfl rfl hl.1 rfl (lv_room (Nat.le_of_ble_eq_true rfl)) dX6_looked_1 ⟨(Nat.zero_le _), (Nat.zero_le _)⟩) hS (fun q _ h => ro_A hS hA q h) (ro_A hS hA) (fun r_1 u t H1 locs ht hvm k_2 hB hz1 hk1 hS => ?_)
  have hP := ro_P hk1 hP
  generalize H1 = H at hP hS ⊢
  try dsimp only at k_2
  refine lv_if_ne (tgt := 11) hx hb dX6_looked_4 (by decide) (fun c_3 => ?_) (fun c_3 => ?_)
  · skip
    have b_4 := b01n k_2 c_3
    refine lv_aload_n hx hb dX6_looked_11 rfl (lv_at hl 0 rfl) ?_
    refine va_get (D := (dC, dI)) (ci := 7) (v := .ref mic) (C := RX6) (T := TX6) (N := 31) hx hb hts iw_X6_looked_X6 hown hK hP 0 rfl rfl 5 (by decide) (hts (.fieldLink RX6 17 "TeaRaceModel" "isChart" "[Z") (by decide +kernel)) (fun _ h9 => h9) rfl dX6_looked_12 ?_
    refine lv_iload_n hx hb dX6_looked_15 rfl (lv_at hl 1 rfl) ?_
    refine va_zald hx hb hK hP 1 1 rfl rfl (vp_in_iff.mpr (by (try simp only [Int32.lt_iff_toInt_lt, Int32.le_iff_toInt_le, ← Int32.toInt_inj, Int32.reduceToInt] at b_4 ⊢); omega)) dX6_looked_16 ?_
    refine lv_topi (fun x_5 ex_5 => ?_)
    obtain rfl : x_5 = 0 := ex_5
    refine lv_if_eq (tgt := 24) hx hb dX6_looked_17 (by decide) (fun c_6 => ?_) (fun c_6 => ?_)
    · skip
      refine lv_aload_n hx hb dX6_looked_24 rfl (lv_at hl 0 rfl) ?_
      refine lv_iconst (v := 1) hx hb dX6_looked_25 (by decide) ?_
      have hPc := hP.sub (ws' := [(m0, .inr (7, [.int 0, .ref mfi, .long 0, .int 0, .ref mil, .ref mic, .ref mwi, .int 0, .int 0, .ref mmo, .int 0, .ref mki, .ref mce, .ref mgo, .ref mwa, .ref mha, .ref mch, .ref mfo, .ref mca, .ref mor, .ref mro, .ref mra, .ref mpr, .ref mho, .ref mis, .int 0, .ref mss, .ref msc, .ref msh, .int 100, .int 1])), (mfi, .inl (cI, 6, .inl (fun _ => 0)))]) [0, 2] rfl
      have hDc := hD.sub (ws' := [(m0, .inr (7, [.int 0, .ref mfi, .long 0, .int 0, .ref mil, .ref mic, .ref mwi, .int 0, .int 0, .ref mmo, .int 0, .ref mki, .ref mce, .ref mgo, .ref mwa, .ref mha, .ref mch, .ref mfo, .ref mca, .ref mor, .ref mro, .ref mra, .ref mpr, .ref mho, .ref mis, .int 0, .ref mss, .ref msc, .ref msh, .int 100, .int 1])), (mfi, .inl (cI, 6, .inl (fun _ => 0)))]) [0, 2] (by decide) rfl
      have hKc := hK.sub (tys' := [(cI, .int)]) [0] rfl
      have hFc := va_free (wc := [(m0, .inr (7, [.int 0, .ref mfi, .long 0, .int 0, .ref mil, .ref mic, .ref mwi, .int 0, .int 0, .ref mmo, .int 0, .ref mki, .ref mce, .ref mgo, .ref mwa, .ref mha, .ref mch, .ref mfo, .ref mca, .ref mor, .ref mro, .ref mra, .ref mpr, .ref mho, .ref mis, .int 0, .ref mss, .ref msc, .ref msh, .int 100, .int 1])), (mfi, .inl (cI, 6, .inl (fun _ => 0)))]) hD hS hA [0, 2] rfl
      refine va_calli (va_runV (As := [.int 1]) (rest := []) ⟨hx, hb, hml, hown, hts⟩ (c_X6_meets l dC dI H.size m0 mfi mil mic mwi mmo mki mce mgo mwa mha mch mfo mca mor mro mra mpr mho mis mss msc msh cI 1 (by (try simp only [Int32.lt_iff_toInt_lt, Int32.le_iff_toInt_le, ← Int32.toInt_inj, Int32.reduceToInt] at b_4 ⊢); omega)) (cwV 1 hts gX6_looked_X6_meets rfl rfl rfl (by decide +kernel) ⟨Nat.le_of_ble_eq_true rfl, Nat.le_of_ble_eq_true rfl⟩) ⟨fun a U g mk q => by obtain ⟨q0, q1, qP, qK, qN, qD⟩ := q; exact ⟨q0, q1, qP, va_K.moved (u := U) (U := U.calling g mk a) (Vm.Alike.refl U.vm) qK, NW.same (u := U) (U := U.calling g mk a) rfl qN, qD⟩, va_recv hKc hPc (ci := 7) (q0 := 0) rfl rfl, fun U hU hW => ⟨rfl, by rw [hU], by rw [hU]; exact hPc, va_K.moved hW.alike hKc, NW.warm hW hN, hDc.weaken (fun _ _ _ _ => trivial)⟩⟩ rfl rfl hl.1 rfl (lv_room (Nat.le_of_ble_eq_true rfl)) dX6_looked_26 ⟨(Nat.zero_le _), (Nat.zero_le _)⟩) hS (fun q _ h => hFc q h) hFc (fun r_7 u t H1 locs ht hvm k_8 hB hz1 hk1 hS => ?_)
      have hPr := hP.sub (ws' := [(mic, .inl (cZ, 12, .inl (fun _ => 0)))]) [1] rfl
      have hDr := hD.sub (ws' := [(mic, .inl (cZ, 12, .inl (fun _ => 0)))]) [1] (by decide) rfl
      have hP := wr_P hk1 hPr (va_apartR hD [0, 2] [1] rfl rfl (by decide))
      have hD := hDr
      generalize H1 = H at hP hS ⊢
      have hP : va_P (dC, dI) vwCl [(mic, .inl (cZ, 12, .inl (fun _ => 0)))] H := hP
      have hD : va_D A [(mic, .inl (cZ, 12, .inl (fun _ => 0)))] := hD
      try dsimp only at k_8
      obtain rfl : r_7 = (-3) := k_8
      exact W.iret (v := (-3)) hx hb hr (fun t ht hW => ⟨⟨(-3), (), rfl, (by first | rfl | trivial | (simp only [Int32.lt_iff_toInt_lt, Int32.le_iff_toInt_le, ← Int32.toInt_inj, Int32.reduceToInt] at b_4 ⊢; (repeat' split) <;> first | rfl | omega) | (simp only [Int32.lt_iff_toInt_lt, Int32.le_iff_toInt_le, ← Int32.toInt_inj, Int32.reduceToInt] at *; omega) | grind), trivial⟩, hS.F ht⟩) hS.2.2 dX6_looked_29
    · skip
      exact absurd (by decide) c_6
  · skip
    have b_9 := b01z k_2 c_3
    refine lv_iconst (v := (-1)) hx hb dX6_looked_7 (by decide) ?_
    refine lv_goto (tgt := 29) hx hb dX6_looked_8 (by decide) ?_
    exact W.iret (v := (-1)) hx hb hr (fun t ht hW => ⟨⟨(-1), (), rfl, (by first | rfl | trivial | (simp only [Int32.lt_iff_toInt_lt, Int32.le_iff_toInt_le, ← Int32.toInt_inj, Int32.reduceToInt] at b_9 ⊢; (repeat' split) <;> first | rfl | omega) | (simp only [Int32.lt_iff_toInt_lt, Int32.le_iff_toInt_le, ← Int32.toInt_inj, Int32.reduceToInt] at *; omega) | grind), trivial⟩, hS.F ht⟩) hS.2.2 dX6_looked_29
set_option maxHeartbeats 4000000 in
set_option maxRecDepth 100000 in
/-- the reference's told, fresh -/
theorem c_X6_told (l : Launch) (dC : Nat → ClassId) (dI : Nat → Nat → Nat) (sz : Nat) (m0 : Nat) (mfi : Nat) (mil : Nat) (mic : Nat) (mwi : Nat) (mmo : Nat) (mki : Nat) (mce : Nat) (mgo : Nat) (mwa : Nat) (mha : Nat) (mch : Nat) (mfo : Nat) (mca : Nat) (mor : Nat) (mro : Nat) (mra : Nat) (mpr : Nat) (mho : Nat) (mis : Nat) (mss : Nat) (msc : Nat) (msh : Nat) (a0 : Int32) (a1 : Int32)  : Met l yX6_told wsX6_told ({ frames := 2, cells := 0, slots := 0, locals := 43 }) (va_Pc [.ref m0, .int a0, .int a1] (fun U => U.heap.size = sz ∧ va_P (dC, dI) vwCl [(m0, .inr (7, [.int 0, .ref mfi, .long 0, .int 0, .ref mil, .ref mic, .ref mwi, .int 0, .int 0, .ref mmo, .int 0, .ref mki, .ref mce, .ref mgo, .ref mwa, .ref mha, .ref mch, .ref mfo, .ref mca, .ref mor, .ref mro, .ref mra, .ref mpr, .ref mho, .ref mis, .int 0, .ref mss, .ref msc, .ref msh, .int 100, .int 1]))] U.heap ∧ va_K (dC, dI) vwCl [] U ∧ NW U)) (va_Qi (fun (r : Int32) (_ : Unit) => r = (-1)) (fun _ _ => True) (va_A [] sz)) 0 0 (va_A [] sz) := by
  refine Met.ofW (cc := cX6_told) (maxL := 3) (ret := (some .int)) (by decide) rfl ?_
  intro p e s m args below meth c s₁ B hml hv
  obtain ⟨rfl, hsz, hP, hK, hN⟩ := hv
  have hx := B.exec
  have hb := B.bytes
  have hr := B.returns
  have hts := atoms_spec (ws := wsX6_told) B.pre
  have hown : s.vm.findClass RX6 = some m.cls := findClass_of_methodNamed B.named
  have hlocks := B.notSynchronized
  subst hsz
  generalize hAe : va_A [] s.heap.size = A at ⊢
  have hA : ∀ q : Nat, s.heap.size ≤ q → A q := fun q h => by rw [← hAe]; exact Or.inr h
  have hS : va_S A s.heap s.heap [] := va_S.rf
  have hP : va_P (dC, dI) vwCl [(m0, .inr (7, [.int 0, .ref mfi, .long 0, .int 0, .ref mil, .ref mic, .ref mwi, .int 0, .int 0, .ref mmo, .int 0, .ref mki, .ref mce, .ref mgo, .ref mwa, .ref mha, .ref mch, .ref mfo, .ref mca, .ref mor, .ref mro, .ref mra, .ref mpr, .ref mho, .ref mis, .int 0, .ref mss, .ref msc, .ref msh, .int 100, .int 1]))] s.heap := hP
  have hl := lv_entry ([.ref m0, .int a0, .int a1]) (n := 3) (Nat.le_of_ble_eq_true rfl)
  rw [lg_entry_eq]
  generalize (lg_sl ([.ref m0, .int a0, .int a1]) ++ List.replicate (3 - (lg_sl ([.ref m0, .int a0, .int a1])).length) Slot.unset).toArray = ls at hl ⊢
  have hl : lv_has ls 3 [(0, .ref m0), (1, .int a0), (2, .int a1)] := hl
  refine lv_aload_n hx hb dX6_told_0 rfl (lv_at hl 0 rfl) ?_
  refine lv_iload_n hx hb dX6_told_1 rfl (lv_at hl 1 rfl) ?_
  have hPc := hP.sub (ws' := [(m0, .inr (7, [.int 0, .ref mfi, .long 0, .int 0, .ref mil, .ref mic, .ref mwi, .int 0, .int 0, .ref mmo, .int 0, .ref mki, .ref mce, .ref mgo, .ref mwa, .ref mha, .ref mch, .ref mfo, .ref mca, .ref mor, .ref mro, .ref mra, .ref mpr, .ref mho, .ref mis, .int 0, .ref mss, .ref msc, .ref msh, .int 100, .int 1]))]) [0] rfl
  have hKc := hK.sub (tys' := []) [] rfl
  refine va_calli (va_runV (As := [.int a0]) (rest := []) ⟨hx, hb, hml, hown, hts⟩ (c_X6_isShip l dC dI s.heap.size m0 mfi mil mic mwi mmo mki mce mgo mwa mha mch mfo mca mor mro mra mpr mho mis mss msc msh a0 ) (cwV 1 hts gX6_told_X6_isShip rfl rfl rfl (by decide +kernel) ⟨Nat.le_of_ble_eq_true rfl, Nat.le_of_ble_eq_true rfl⟩) ⟨fun a U g mk q => by obtain ⟨q0, q1, qP, qK, qN⟩ := q; exact ⟨q0, q1, qP, va_K.moved (u := U) (U := U.calling g mk a) (Vm.Alike.refl U.vm) qK, NW.same (u := U) (U := U.calling g mk a) rfl qN⟩, va_recv hKc hPc (ci := 7) (q0 := 0) rfl rfl, fun U hU hW => ⟨rfl, by rw [hU], by rw [hU]; exact hPc, va_K.moved hW.alike hKc, NW.warm hW hN⟩⟩ rfl rfl hl.1 rfl (lv_room (Nat.le_of_ble_eq_true rfl)) dX6_told_2 ⟨(Nat.zero_le _), (Nat.zero_le _)⟩) hS (fun q _ h => ro_A hS hA q h) (ro_A hS hA) (fun r_1 u t H1 locs ht hvm k_2 hB hz1 hk1 hS => ?_)
  have hP := ro_P hk1 hP
  generalize H1 = H at hP hS ⊢
  try dsimp only at k_2
  obtain rfl : r_1 = 0 := k_2
  refine lv_if_eq (tgt := 27) hx hb dX6_told_5 (by decide) (fun c_3 => ?_) (fun c_3 => ?_)
  · skip
    refine lv_iconst (v := (-1)) hx hb dX6_told_27 (by decide) ?_
    exact W.iret (v := (-1)) hx hb hr (fun t ht hW => ⟨⟨(-1), (), rfl, (by first | rfl | trivial | (simp; done)), trivial⟩, hS.F ht⟩) hS.2.2 dX6_told_28
  · skip
    exact absurd (by decide) c_3
set_option maxHeartbeats 4000000 in
set_option maxRecDepth 100000 in
/-- the reference's foul, fresh -/
theorem c_X6_foul (l : Launch) (dC : Nat → ClassId) (dI : Nat → Nat → Nat) (sz : Nat) (m0 : Nat) (mfi : Nat) (mil : Nat) (mic : Nat) (mwi : Nat) (mmo : Nat) (mki : Nat) (mce : Nat) (mgo : Nat) (mwa : Nat) (mha : Nat) (mch : Nat) (mfo : Nat) (mca : Nat) (mor : Nat) (mro : Nat) (mra : Nat) (mpr : Nat) (mho : Nat) (mis : Nat) (mss : Nat) (msc : Nat) (msh : Nat) (a0 : Int32) (a1 : Int32)  : Met l yX6_foul wsX6_foul ({ frames := 2, cells := 0, slots := 0, locals := 43 }) (va_Pc [.ref m0, .int a0, .int a1] (fun U => U.heap.size = sz ∧ va_P (dC, dI) vwCl [(m0, .inr (7, [.int 0, .ref mfi, .long 0, .int 0, .ref mil, .ref mic, .ref mwi, .int 0, .int 0, .ref mmo, .int 0, .ref mki, .ref mce, .ref mgo, .ref mwa, .ref mha, .ref mch, .ref mfo, .ref mca, .ref mor, .ref mro, .ref mra, .ref mpr, .ref mho, .ref mis, .int 0, .ref mss, .ref msc, .ref msh, .int 100, .int 1]))] U.heap ∧ va_K (dC, dI) vwCl [] U ∧ NW U)) (va_Qi (fun (r : Int32) (_ : Unit) => r = (-1)) (fun _ _ => True) (va_A [] sz)) 0 0 (va_A [] sz) := by
  refine Met.ofW (cc := cX6_foul) (maxL := 4) (ret := (some .int)) (by decide) rfl ?_
  intro p e s m args below meth c s₁ B hml hv
  obtain ⟨rfl, hsz, hP, hK, hN⟩ := hv
  have hx := B.exec
  have hb := B.bytes
  have hr := B.returns
  have hts := atoms_spec (ws := wsX6_foul) B.pre
  have hown : s.vm.findClass RX6 = some m.cls := findClass_of_methodNamed B.named
  have hlocks := B.notSynchronized
  subst hsz
  generalize hAe : va_A [] s.heap.size = A at ⊢
  have hA : ∀ q : Nat, s.heap.size ≤ q → A q := fun q h => by rw [← hAe]; exact Or.inr h
  have hS : va_S A s.heap s.heap [] := va_S.rf
  have hP : va_P (dC, dI) vwCl [(m0, .inr (7, [.int 0, .ref mfi, .long 0, .int 0, .ref mil, .ref mic, .ref mwi, .int 0, .int 0, .ref mmo, .int 0, .ref mki, .ref mce, .ref mgo, .ref mwa, .ref mha, .ref mch, .ref mfo, .ref mca, .ref mor, .ref mro, .ref mra, .ref mpr, .ref mho, .ref mis, .int 0, .ref mss, .ref msc, .ref msh, .int 100, .int 1]))] s.heap := hP
  have hl := lv_entry ([.ref m0, .int a0, .int a1]) (n := 4) (Nat.le_of_ble_eq_true rfl)
  rw [lg_entry_eq]
  generalize (lg_sl ([.ref m0, .int a0, .int a1]) ++ List.replicate (4 - (lg_sl ([.ref m0, .int a0, .int a1])).length) Slot.unset).toArray = ls at hl ⊢
  have hl : lv_has ls 4 [(0, .ref m0), (1, .int a0), (2, .int a1)] := hl
  refine lv_aload_n hx hb dX6_foul_0 rfl (lv_at hl 0 rfl) ?_
  refine lv_iload_n hx hb dX6_foul_1 rfl (lv_at hl 1 rfl) ?_
  have hPc := hP.sub (ws' := [(m0, .inr (7, [.int 0, .ref mfi, .long 0, .int 0, .ref mil, .ref mic, .ref mwi, .int 0, .int 0, .ref mmo, .int 0, .ref mki, .ref mce, .ref mgo, .ref mwa, .ref mha, .ref mch, .ref mfo, .ref mca, .ref mor, .ref mro, .ref mra, .ref mpr, .ref mho, .ref mis, .int 0, .ref mss, .ref msc, .ref msh, .int 100, .int 1]))]) [0] rfl
  have hKc := hK.sub (tys' := []) [] rfl
  refine va_calli (va_runV (As := [.int a0]) (rest := []) ⟨hx, hb, hml, hown, hts⟩ (c_X6_isShip l dC dI s.heap.size m0 mfi mil mic mwi mmo mki mce mgo mwa mha mch mfo mca mor mro mra mpr mho mis mss msc msh a0 ) (cwV 1 hts gX6_foul_X6_isShip rfl rfl rfl (by decide +kernel) ⟨Nat.le_of_ble_eq_true rfl, Nat.le_of_ble_eq_true rfl⟩) ⟨fun a U g mk q => by obtain ⟨q0, q1, qP, qK, qN⟩ := q; exact ⟨q0, q1, qP, va_K.moved (u := U) (U := U.calling g mk a) (Vm.Alike.refl U.vm) qK, NW.same (u := U) (U := U.calling g mk a) rfl qN⟩, va_recv hKc hPc (ci := 7) (q0 := 0) rfl rfl, fun U hU hW => ⟨rfl, by rw [hU], by rw [hU]; exact hPc, va_K.moved hW.alike hKc, NW.warm hW hN⟩⟩ rfl rfl hl.1 rfl (lv_room (Nat.le_of_ble_eq_true rfl)) dX6_foul_2 ⟨(Nat.zero_le _), (Nat.zero_le _)⟩) hS (fun q _ h => ro_A hS hA q h) (ro_A hS hA) (fun r_1 u t H1 locs ht hvm k_2 hB hz1 hk1 hS => ?_)
  have hP := ro_P hk1 hP
  generalize H1 = H at hP hS ⊢
  try dsimp only at k_2
  obtain rfl : r_1 = 0 := k_2
  refine lv_if_eq (tgt := 18) hx hb dX6_foul_5 (by decide) (fun c_3 => ?_) (fun c_3 => ?_)
  · skip
    refine lv_iconst (v := (-1)) hx hb dX6_foul_18 (by decide) ?_
    exact W.iret (v := (-1)) hx hb hr (fun t ht hW => ⟨⟨(-1), (), rfl, (by first | rfl | trivial | (simp; done)), trivial⟩, hS.F ht⟩) hS.2.2 dX6_foul_19
  · skip
    exact absurd (by decide) c_3
set_option maxHeartbeats 4000000 in
set_option maxRecDepth 100000 in
/-- the reference's mark, fresh -/
theorem c_X6_mark (l : Launch) (dC : Nat → ClassId) (dI : Nat → Nat → Nat) (sz : Nat) (m0 : Nat) (mfi : Nat) (mil : Nat) (mic : Nat) (mwi : Nat) (mmo : Nat) (mki : Nat) (mce : Nat) (mgo : Nat) (mwa : Nat) (mha : Nat) (mch : Nat) (mfo : Nat) (mca : Nat) (mor : Nat) (mro : Nat) (mra : Nat) (mpr : Nat) (mho : Nat) (mis : Nat) (mss : Nat) (msc : Nat) (msh : Nat) (a0 : Int32) (a1 : Int32)  : Met l yX6_mark wsX6_mark ({ frames := 2, cells := 0, slots := 0, locals := 43 }) (va_Pc [.ref m0, .int a0, .int a1] (fun U => U.heap.size = sz ∧ va_P (dC, dI) vwCl [(m0, .inr (7, [.int 0, .ref mfi, .long 0, .int 0, .ref mil, .ref mic, .ref mwi, .int 0, .int 0, .ref mmo, .int 0, .ref mki, .ref mce, .ref mgo, .ref mwa, .ref mha, .ref mch, .ref mfo, .ref mca, .ref mor, .ref mro, .ref mra, .ref mpr, .ref mho, .ref mis, .int 0, .ref mss, .ref msc, .ref msh, .int 100, .int 1]))] U.heap ∧ va_K (dC, dI) vwCl [] U ∧ NW U)) (va_Qi (fun (r : Int32) (_ : Unit) => r = (-1)) (fun _ _ => True) (va_A [] sz)) 0 0 (va_A [] sz) := by
  refine Met.ofW (cc := cX6_mark) (maxL := 4) (ret := (some .int)) (by decide) rfl ?_
  intro p e s m args below meth c s₁ B hml hv
  obtain ⟨rfl, hsz, hP, hK, hN⟩ := hv
  have hx := B.exec
  have hb := B.bytes
  have hr := B.returns
  have hts := atoms_spec (ws := wsX6_mark) B.pre
  have hown : s.vm.findClass RX6 = some m.cls := findClass_of_methodNamed B.named
  have hlocks := B.notSynchronized
  subst hsz
  generalize hAe : va_A [] s.heap.size = A at ⊢
  have hA : ∀ q : Nat, s.heap.size ≤ q → A q := fun q h => by rw [← hAe]; exact Or.inr h
  have hS : va_S A s.heap s.heap [] := va_S.rf
  have hP : va_P (dC, dI) vwCl [(m0, .inr (7, [.int 0, .ref mfi, .long 0, .int 0, .ref mil, .ref mic, .ref mwi, .int 0, .int 0, .ref mmo, .int 0, .ref mki, .ref mce, .ref mgo, .ref mwa, .ref mha, .ref mch, .ref mfo, .ref mca, .ref mor, .ref mro, .ref mra, .ref mpr, .ref mho, .ref mis, .int 0, .ref mss, .ref msc, .ref msh, .int 100, .int 1]))] s.heap := hP
  have hl := lv_entry ([.ref m0, .int a0, .int a1]) (n := 4) (Nat.le_of_ble_eq_true rfl)
  rw [lg_entry_eq]
  generalize (lg_sl ([.ref m0, .int a0, .int a1]) ++ List.replicate (4 - (lg_sl ([.ref m0, .int a0, .int a1])).length) Slot.unset).toArray = ls at hl ⊢
  have hl : lv_has ls 4 [(0, .ref m0), (1, .int a0), (2, .int a1)] := hl
  refine lv_aload_n hx hb dX6_mark_0 rfl (lv_at hl 0 rfl) ?_
  refine lv_iload_n hx hb dX6_mark_1 rfl (lv_at hl 1 rfl) ?_
  have hPc := hP.sub (ws' := [(m0, .inr (7, [.int 0, .ref mfi, .long 0, .int 0, .ref mil, .ref mic, .ref mwi, .int 0, .int 0, .ref mmo, .int 0, .ref mki, .ref mce, .ref mgo, .ref mwa, .ref mha, .ref mch, .ref mfo, .ref mca, .ref mor, .ref mro, .ref mra, .ref mpr, .ref mho, .ref mis, .int 0, .ref mss, .ref msc, .ref msh, .int 100, .int 1]))]) [0] rfl
  have hKc := hK.sub (tys' := []) [] rfl
  refine va_calli (va_runV (As := [.int a0]) (rest := []) ⟨hx, hb, hml, hown, hts⟩ (c_X6_isShip l dC dI s.heap.size m0 mfi mil mic mwi mmo mki mce mgo mwa mha mch mfo mca mor mro mra mpr mho mis mss msc msh a0 ) (cwV 1 hts gX6_mark_X6_isShip rfl rfl rfl (by decide +kernel) ⟨Nat.le_of_ble_eq_true rfl, Nat.le_of_ble_eq_true rfl⟩) ⟨fun a U g mk q => by obtain ⟨q0, q1, qP, qK, qN⟩ := q; exact ⟨q0, q1, qP, va_K.moved (u := U) (U := U.calling g mk a) (Vm.Alike.refl U.vm) qK, NW.same (u := U) (U := U.calling g mk a) rfl qN⟩, va_recv hKc hPc (ci := 7) (q0 := 0) rfl rfl, fun U hU hW => ⟨rfl, by rw [hU], by rw [hU]; exact hPc, va_K.moved hW.alike hKc, NW.warm hW hN⟩⟩ rfl rfl hl.1 rfl (lv_room (Nat.le_of_ble_eq_true rfl)) dX6_mark_2 ⟨(Nat.zero_le _), (Nat.zero_le _)⟩) hS (fun q _ h => ro_A hS hA q h) (ro_A hS hA) (fun r_1 u t H1 locs ht hvm k_2 hB hz1 hk1 hS => ?_)
  have hP := ro_P hk1 hP
  generalize H1 = H at hP hS ⊢
  try dsimp only at k_2
  obtain rfl : r_1 = 0 := k_2
  refine lv_if_eq (tgt := 17) hx hb dX6_mark_5 (by decide) (fun c_3 => ?_) (fun c_3 => ?_)
  · skip
    refine lv_iconst (v := (-1)) hx hb dX6_mark_17 (by decide) ?_
    exact W.iret (v := (-1)) hx hb hr (fun t ht hW => ⟨⟨(-1), (), rfl, (by first | rfl | trivial | (simp; done)), trivial⟩, hS.F ht⟩) hS.2.2 dX6_mark_18
  · skip
    exact absurd (by decide) c_3
set_option maxHeartbeats 4000000 in
set_option maxRecDepth 100000 in
/-- the reference's speed, fresh -/
theorem c_X6_speed (l : Launch) (dC : Nat → ClassId) (dI : Nat → Nat → Nat) (sz : Nat) (m0 : Nat) (mfi : Nat) (mil : Nat) (mic : Nat) (mwi : Nat) (mmo : Nat) (mki : Nat) (mce : Nat) (mgo : Nat) (mwa : Nat) (mha : Nat) (mch : Nat) (mfo : Nat) (mca : Nat) (mor : Nat) (mro : Nat) (mra : Nat) (mpr : Nat) (mho : Nat) (mis : Nat) (mss : Nat) (msc : Nat) (msh : Nat) (a0 : Int32) (a1 : Int32) (a2 : Int32) (a3 : Int32)  : Met l yX6_speed wsX6_speed ({ frames := 2, cells := 0, slots := 0, locals := 43 }) (va_Pc [.ref m0, .int a0, .int a1, .int a2, .int a3] (fun U => U.heap.size = sz ∧ va_P (dC, dI) vwCl [(m0, .inr (7, [.int 0, .ref mfi, .long 0, .int 0, .ref mil, .ref mic, .ref mwi, .int 0, .int 0, .ref mmo, .int 0, .ref mki, .ref mce, .ref mgo, .ref mwa, .ref mha, .ref mch, .ref mfo, .ref mca, .ref mor, .ref mro, .ref mra, .ref mpr, .ref mho, .ref mis, .int 0, .ref mss, .ref msc, .ref msh, .int 100, .int 1]))] U.heap ∧ va_K (dC, dI) vwCl [] U ∧ NW U)) (va_Qi (fun (r : Int32) (_ : Unit) => r = (-1)) (fun _ _ => True) (va_A [] sz)) 0 0 (va_A [] sz) := by
  refine Met.ofW (cc := cX6_speed) (maxL := 5) (ret := (some .int)) (by decide) rfl ?_
  intro p e s m args below meth c s₁ B hml hv
  obtain ⟨rfl, hsz, hP, hK, hN⟩ := hv
  have hx := B.exec
  have hb := B.bytes
  have hr := B.returns
  have hts := atoms_spec (ws := wsX6_speed) B.pre
  have hown : s.vm.findClass RX6 = some m.cls := findClass_of_methodNamed B.named
  have hlocks := B.notSynchronized
  subst hsz
  generalize hAe : va_A [] s.heap.size = A at ⊢
  have hA : ∀ q : Nat, s.heap.size ≤ q → A q := fun q h => by rw [← hAe]; exact Or.inr h
  have hS : va_S A s.heap s.heap [] := va_S.rf
  have hP : va_P (dC, dI) vwCl [(m0, .inr (7, [.int 0, .ref mfi, .long 0, .int 0, .ref mil, .ref mic, .ref mwi, .int 0, .int 0, .ref mmo, .int 0, .ref mki, .ref mce, .ref mgo, .ref mwa, .ref mha, .ref mch, .ref mfo, .ref mca, .ref mor, .ref mro, .ref mra, .ref mpr, .ref mho, .ref mis, .int 0, .ref mss, .ref msc, .ref msh, .int 100, .int 1]))] s.heap := hP
  have hl := lv_entry ([.ref m0, .int a0, .int a1, .int a2, .int a3]) (n := 5) (Nat.le_of_ble_eq_true rfl)
  rw [lg_entry_eq]
  generalize (lg_sl ([.ref m0, .int a0, .int a1, .int a2, .int a3]) ++ List.replicate (5 - (lg_sl ([.ref m0, .int a0, .int a1, .int a2, .int a3])).length) Slot.unset).toArray = ls at hl ⊢
  have hl : lv_has ls 5 [(0, .ref m0), (1, .int a0), (2, .int a1), (3, .int a2), (4, .int a3)] := hl
  refine lv_aload_n hx hb dX6_speed_0 rfl (lv_at hl 0 rfl) ?_
  refine lv_iload_n hx hb dX6_speed_1 rfl (lv_at hl 1 rfl) ?_
  have hPc := hP.sub (ws' := [(m0, .inr (7, [.int 0, .ref mfi, .long 0, .int 0, .ref mil, .ref mic, .ref mwi, .int 0, .int 0, .ref mmo, .int 0, .ref mki, .ref mce, .ref mgo, .ref mwa, .ref mha, .ref mch, .ref mfo, .ref mca, .ref mor, .ref mro, .ref mra, .ref mpr, .ref mho, .ref mis, .int 0, .ref mss, .ref msc, .ref msh, .int 100, .int 1]))]) [0] rfl
  have hKc := hK.sub (tys' := []) [] rfl
  refine va_calli (va_runV (As := [.int a0]) (rest := []) ⟨hx, hb, hml, hown, hts⟩ (c_X6_isShip l dC dI s.heap.size m0 mfi mil mic mwi mmo mki mce mgo mwa mha mch mfo mca mor mro mra mpr mho mis mss msc msh a0 ) (cwV 1 hts gX6_speed_X6_isShip rfl rfl rfl (by decide +kernel) ⟨Nat.le_of_ble_eq_true rfl, Nat.le_of_ble_eq_true rfl⟩) ⟨fun a U g mk q => by obtain ⟨q0, q1, qP, qK, qN⟩ := q; exact ⟨q0, q1, qP, va_K.moved (u := U) (U := U.calling g mk a) (Vm.Alike.refl U.vm) qK, NW.same (u := U) (U := U.calling g mk a) rfl qN⟩, va_recv hKc hPc (ci := 7) (q0 := 0) rfl rfl, fun U hU hW => ⟨rfl, by rw [hU], by rw [hU]; exact hPc, va_K.moved hW.alike hKc, NW.warm hW hN⟩⟩ rfl rfl hl.1 rfl (lv_room (Nat.le_of_ble_eq_true rfl)) dX6_speed_2 ⟨(Nat.zero_le _), (Nat.zero_le _)⟩) hS (fun q _ h => ro_A hS hA q h) (ro_A hS hA) (fun r_1 u t H1 locs ht hvm k_2 hB hz1 hk1 hS => ?_)
  have hP := ro_P hk1 hP
  generalize H1 = H at hP hS ⊢
  try dsimp only at k_2
  obtain rfl : r_1 = 0 := k_2
  refine lv_if_eq (tgt := 45) hx hb dX6_speed_5 (by decide) (fun c_3 => ?_) (fun c_3 => ?_)
  · skip
    refine lv_iconst (v := (-1)) hx hb dX6_speed_45 (by decide) ?_
    exact W.iret (v := (-1)) hx hb hr (fun t ht hW => ⟨⟨(-1), (), rfl, (by first | rfl | trivial | (simp; done)), trivial⟩, hS.F ht⟩) hS.2.2 dX6_speed_46
  · skip
    exact absurd (by decide) c_3
set_option maxHeartbeats 4000000 in
set_option maxRecDepth 100000 in
/-- the reference's order, fresh -/
theorem c_X6_order (l : Launch) (dC : Nat → ClassId) (dI : Nat → Nat → Nat) (sz : Nat) (m0 : Nat) (mfi : Nat) (mil : Nat) (mic : Nat) (mwi : Nat) (mmo : Nat) (mki : Nat) (mce : Nat) (mgo : Nat) (mwa : Nat) (mha : Nat) (mch : Nat) (mfo : Nat) (mca : Nat) (mor : Nat) (mro : Nat) (mra : Nat) (mpr : Nat) (mho : Nat) (mis : Nat) (mss : Nat) (msc : Nat) (msh : Nat) (a0 : Int32) (a1 : Int32) (a2 : Int32) (a3 : Int32) (a4 : Int32) (a5 : Int32) (a6 : Int32)  : Met l yX6_order wsX6_order ({ frames := 2, cells := 0, slots := 0, locals := 43 }) (va_Pc [.ref m0, .int a0, .int a1, .int a2, .int a3, .int a4, .int a5, .int a6] (fun U => U.heap.size = sz ∧ va_P (dC, dI) vwCl [(m0, .inr (7, [.int 0, .ref mfi, .long 0, .int 0, .ref mil, .ref mic, .ref mwi, .int 0, .int 0, .ref mmo, .int 0, .ref mki, .ref mce, .ref mgo, .ref mwa, .ref mha, .ref mch, .ref mfo, .ref mca, .ref mor, .ref mro, .ref mra, .ref mpr, .ref mho, .ref mis, .int 0, .ref mss, .ref msc, .ref msh, .int 100, .int 1]))] U.heap ∧ va_K (dC, dI) vwCl [] U ∧ NW U)) (va_Qi (fun (r : Int32) (_ : Unit) => r = (-1)) (fun _ _ => True) (va_A [] sz)) 0 0 (va_A [] sz) := by
  refine Met.ofW (cc := cX6_order) (maxL := 9) (ret := (some .int)) (by decide) rfl ?_
  intro p e s m args below meth c s₁ B hml hv
  obtain ⟨rfl, hsz, hP, hK, hN⟩ := hv
  have hx := B.exec
  have hb := B.bytes
  have hr := B.returns
  have hts := atoms_spec (ws := wsX6_order) B.pre
  have hown : s.vm.findClass RX6 = some m.cls := findClass_of_methodNamed B.named
  have hlocks := B.notSynchronized
  subst hsz
  generalize hAe : va_A [] s.heap.size = A at ⊢
  have hA : ∀ q : Nat, s.heap.size ≤ q → A q := fun q h => by rw [← hAe]; exact Or.inr h
  have hS : va_S A s.heap s.heap [] := va_S.rf
  have hP : va_P (dC, dI) vwCl [(m0, .inr (7, [.int 0, .ref mfi, .long 0, .int 0, .ref mil, .ref mic, .ref mwi, .int 0, .int 0, .ref mmo, .int 0, .ref mki, .ref mce, .ref mgo, .ref mwa, .ref mha, .ref mch, .ref mfo, .ref mca, .ref mor, .ref mro, .ref mra, .ref mpr, .ref mho, .ref mis, .int 0, .ref mss, .ref msc, .ref msh, .int 100, .int 1]))] s.heap := hP
  have hl := lv_entry ([.ref m0, .int a0, .int a1, .int a2, .int a3, .int a4, .int a5, .int a6]) (n := 9) (Nat.le_of_ble_eq_true rfl)
  rw [lg_entry_eq]
  generalize (lg_sl ([.ref m0, .int a0, .int a1, .int a2, .int a3, .int a4, .int a5, .int a6]) ++ List.replicate (9 - (lg_sl ([.ref m0, .int a0, .int a1, .int a2, .int a3, .int a4, .int a5, .int a6])).length) Slot.unset).toArray = ls at hl ⊢
  have hl : lv_has ls 9 [(0, .ref m0), (1, .int a0), (2, .int a1), (3, .int a2), (4, .int a3), (5, .int a4), (6, .int a5), (7, .int a6)] := hl
  refine lv_aload_n hx hb dX6_order_0 rfl (lv_at hl 0 rfl) ?_
  refine lv_iload_n hx hb dX6_order_1 rfl (lv_at hl 1 rfl) ?_
  have hPc := hP.sub (ws' := [(m0, .inr (7, [.int 0, .ref mfi, .long 0, .int 0, .ref mil, .ref mic, .ref mwi, .int 0, .int 0, .ref mmo, .int 0, .ref mki, .ref mce, .ref mgo, .ref mwa, .ref mha, .ref mch, .ref mfo, .ref mca, .ref mor, .ref mro, .ref mra, .ref mpr, .ref mho, .ref mis, .int 0, .ref mss, .ref msc, .ref msh, .int 100, .int 1]))]) [0] rfl
  have hKc := hK.sub (tys' := []) [] rfl
  refine va_calli (va_runV (As := [.int a0]) (rest := []) ⟨hx, hb, hml, hown, hts⟩ (c_X6_isShip l dC dI s.heap.size m0 mfi mil mic mwi mmo mki mce mgo mwa mha mch mfo mca mor mro mra mpr mho mis mss msc msh a0 ) (cwV 1 hts gX6_order_X6_isShip rfl rfl rfl (by decide +kernel) ⟨Nat.le_of_ble_eq_true rfl, Nat.le_of_ble_eq_true rfl⟩) ⟨fun a U g mk q => by obtain ⟨q0, q1, qP, qK, qN⟩ := q; exact ⟨q0, q1, qP, va_K.moved (u := U) (U := U.calling g mk a) (Vm.Alike.refl U.vm) qK, NW.same (u := U) (U := U.calling g mk a) rfl qN⟩, va_recv hKc hPc (ci := 7) (q0 := 0) rfl rfl, fun U hU hW => ⟨rfl, by rw [hU], by rw [hU]; exact hPc, va_K.moved hW.alike hKc, NW.warm hW hN⟩⟩ rfl rfl hl.1 rfl (lv_room (Nat.le_of_ble_eq_true rfl)) dX6_order_2 ⟨(Nat.zero_le _), (Nat.zero_le _)⟩) hS (fun q _ h => ro_A hS hA q h) (ro_A hS hA) (fun r_1 u t H1 locs ht hvm k_2 hB hz1 hk1 hS => ?_)
  have hP := ro_P hk1 hP
  generalize H1 = H at hP hS ⊢
  try dsimp only at k_2
  obtain rfl : r_1 = 0 := k_2
  refine lv_if_eq (tgt := 70) hx hb dX6_order_5 (by decide) (fun c_3 => ?_) (fun c_3 => ?_)
  · skip
    refine lv_iconst (v := (-1)) hx hb dX6_order_70 (by decide) ?_
    exact W.iret (v := (-1)) hx hb hr (fun t ht hW => ⟨⟨(-1), (), rfl, (by first | rfl | trivial | (simp; done)), trivial⟩, hS.F ht⟩) hS.2.2 dX6_order_71
  · skip
    exact absurd (by decide) c_3
set_option maxHeartbeats 4000000 in
set_option maxRecDepth 100000 in
/-- the reference's least, fresh -/
theorem c_X6_least (l : Launch) (dC : Nat → ClassId) (dI : Nat → Nat → Nat) (sz : Nat) (m0 : Nat) (mfi : Nat) (mil : Nat) (mic : Nat) (mwi : Nat) (mmo : Nat) (mki : Nat) (mce : Nat) (mgo : Nat) (mwa : Nat) (mha : Nat) (mch : Nat) (mfo : Nat) (mca : Nat) (mor : Nat) (mro : Nat) (mra : Nat) (mpr : Nat) (mho : Nat) (mis : Nat) (mss : Nat) (msc : Nat) (msh : Nat) (a0 : Int32) (a1 : Int32) (a2 : Int32) (a3 : Int32)  : Met l yX6_least wsX6_least ({ frames := 2, cells := 0, slots := 0, locals := 43 }) (va_Pc [.ref m0, .int a0, .int a1, .int a2, .int a3] (fun U => U.heap.size = sz ∧ va_P (dC, dI) vwCl [(m0, .inr (7, [.int 0, .ref mfi, .long 0, .int 0, .ref mil, .ref mic, .ref mwi, .int 0, .int 0, .ref mmo, .int 0, .ref mki, .ref mce, .ref mgo, .ref mwa, .ref mha, .ref mch, .ref mfo, .ref mca, .ref mor, .ref mro, .ref mra, .ref mpr, .ref mho, .ref mis, .int 0, .ref mss, .ref msc, .ref msh, .int 100, .int 1]))] U.heap ∧ va_K (dC, dI) vwCl [] U ∧ NW U)) (va_Qi (fun (r : Int32) (_ : Unit) => r = (-1)) (fun _ _ => True) (va_A [] sz)) 0 0 (va_A [] sz) := by
  refine Met.ofW (cc := cX6_least) (maxL := 9) (ret := (some .int)) (by decide) rfl ?_
  intro p e s m args below meth c s₁ B hml hv
  obtain ⟨rfl, hsz, hP, hK, hN⟩ := hv
  have hx := B.exec
  have hb := B.bytes
  have hr := B.returns
  have hts := atoms_spec (ws := wsX6_least) B.pre
  have hown : s.vm.findClass RX6 = some m.cls := findClass_of_methodNamed B.named
  have hlocks := B.notSynchronized
  subst hsz
  generalize hAe : va_A [] s.heap.size = A at ⊢
  have hA : ∀ q : Nat, s.heap.size ≤ q → A q := fun q h => by rw [← hAe]; exact Or.inr h
  have hS : va_S A s.heap s.heap [] := va_S.rf
  have hP : va_P (dC, dI) vwCl [(m0, .inr (7, [.int 0, .ref mfi, .long 0, .int 0, .ref mil, .ref mic, .ref mwi, .int 0, .int 0, .ref mmo, .int 0, .ref mki, .ref mce, .ref mgo, .ref mwa, .ref mha, .ref mch, .ref mfo, .ref mca, .ref mor, .ref mro, .ref mra, .ref mpr, .ref mho, .ref mis, .int 0, .ref mss, .ref msc, .ref msh, .int 100, .int 1]))] s.heap := hP
  have hl := lv_entry ([.ref m0, .int a0, .int a1, .int a2, .int a3]) (n := 9) (Nat.le_of_ble_eq_true rfl)
  rw [lg_entry_eq]
  generalize (lg_sl ([.ref m0, .int a0, .int a1, .int a2, .int a3]) ++ List.replicate (9 - (lg_sl ([.ref m0, .int a0, .int a1, .int a2, .int a3])).length) Slot.unset).toArray = ls at hl ⊢
  have hl : lv_has ls 9 [(0, .ref m0), (1, .int a0), (2, .int a1), (3, .int a2), (4, .int a3)] := hl
  refine lv_aload_n hx hb dX6_least_0 rfl (lv_at hl 0 rfl) ?_
  refine lv_iload_n hx hb dX6_least_1 rfl (lv_at hl 1 rfl) ?_
  have hPc := hP.sub (ws' := [(m0, .inr (7, [.int 0, .ref mfi, .long 0, .int 0, .ref mil, .ref mic, .ref mwi, .int 0, .int 0, .ref mmo, .int 0, .ref mki, .ref mce, .ref mgo, .ref mwa, .ref mha, .ref mch, .ref mfo, .ref mca, .ref mor, .ref mro, .ref mra, .ref mpr, .ref mho, .ref mis, .int 0, .ref mss, .ref msc, .ref msh, .int 100, .int 1]))]) [0] rfl
  have hKc := hK.sub (tys' := []) [] rfl
  refine va_calli (va_runV (As := [.int a0]) (rest := []) ⟨hx, hb, hml, hown, hts⟩ (c_X6_isShip l dC dI s.heap.size m0 mfi mil mic mwi mmo mki mce mgo mwa mha mch mfo mca mor mro mra mpr mho mis mss msc msh a0 ) (cwV 1 hts gX6_least_X6_isShip rfl rfl rfl (by decide +kernel) ⟨Nat.le_of_ble_eq_true rfl, Nat.le_of_ble_eq_true rfl⟩) ⟨fun a U g mk q => by obtain ⟨q0, q1, qP, qK, qN⟩ := q; exact ⟨q0, q1, qP, va_K.moved (u := U) (U := U.calling g mk a) (Vm.Alike.refl U.vm) qK, NW.same (u := U) (U := U.calling g mk a) rfl qN⟩, va_recv hKc hPc (ci := 7) (q0 := 0) rfl rfl, fun U hU hW => ⟨rfl, by rw [hU], by rw [hU]; exact hPc, va_K.moved hW.alike hKc, NW.warm hW hN⟩⟩ rfl rfl hl.1 rfl (lv_room (Nat.le_of_ble_eq_true rfl)) dX6_least_2 ⟨(Nat.zero_le _), (Nat.zero_le _)⟩) hS (fun q _ h => ro_A hS hA q h) (ro_A hS hA) (fun r_1 u t H1 locs ht hvm k_2 hB hz1 hk1 hS => ?_)
  have hP := ro_P hk1 hP
  generalize H1 = H at hP hS ⊢
  try dsimp only at k_2
  obtain rfl : r_1 = 0 := k_2
  refine lv_if_eq (tgt := 51) hx hb dX6_least_5 (by decide) (fun c_3 => ?_) (fun c_3 => ?_)
  · skip
    refine lv_iconst (v := (-1)) hx hb dX6_least_51 (by decide) ?_
    exact W.iret (v := (-1)) hx hb hr (fun t ht hW => ⟨⟨(-1), (), rfl, (by first | rfl | trivial | (simp; done)), trivial⟩, hS.F ht⟩) hS.2.2 dX6_least_52
  · skip
    exact absurd (by decide) c_3
set_option maxRecDepth 20000 in
theorem iw_X6_sight_X6 : ∀ w ∈ wsX60, w ∈ wsX6_sight := by decide +kernel
set_option maxHeartbeats 4000000 in
set_option maxRecDepth 100000 in
/-- the reference's sight, fresh -/
theorem c_X6_sight (l : Launch) (dC : Nat → ClassId) (dI : Nat → Nat → Nat) (sz : Nat) (m0 : Nat) (mfi : Nat) (mil : Nat) (mic : Nat) (mwi : Nat) (mmo : Nat) (mki : Nat) (mce : Nat) (mgo : Nat) (mwa : Nat) (mha : Nat) (mch : Nat) (mfo : Nat) (mca : Nat) (mor : Nat) (mro : Nat) (mra : Nat) (mpr : Nat) (mho : Nat) (mis : Nat) (mss : Nat) (msc : Nat) (msh : Nat) (a0 : Int32) (a1 : Int32) (a2 : Int32)  : Met l yX6_sight wsX6_sight ({ frames := 2, cells := 0, slots := 0, locals := 43 }) (va_Pc [.ref m0, .int a0, .int a1, .int a2] (fun U => U.heap.size = sz ∧ va_P (dC, dI) vwCl [(m0, .inr (7, [.int 0, .ref mfi, .long 0, .int 0, .ref mil, .ref mic, .ref mwi, .int 0, .int 0, .ref mmo, .int 0, .ref mki, .ref mce, .ref mgo, .ref mwa, .ref mha, .ref mch, .ref mfo, .ref mca, .ref mor, .ref mro, .ref mra, .ref mpr, .ref mho, .ref mis, .int 0, .ref mss, .ref msc, .ref msh, .int 100, .int 1]))] U.heap ∧ va_K (dC, dI) vwCl [] U ∧ NW U)) (va_Qi (fun (r : Int32) (_ : Unit) => r = (-1)) (fun _ _ => True) (va_A [] sz)) 0 0 (va_A [] sz) := by
  refine Met.ofW (cc := cX6_sight) (maxL := 6) (ret := (some .int)) (by decide) rfl ?_
  intro p e s m args below meth c s₁ B hml hv
  obtain ⟨rfl, hsz, hP, hK, hN⟩ := hv
  have hx := B.exec
  have hb := B.bytes
  have hr := B.returns
  have hts := atoms_spec (ws := wsX6_sight) B.pre
  have hown : s.vm.findClass RX6 = some m.cls := findClass_of_methodNamed B.named
  have hlocks := B.notSynchronized
  subst hsz
  generalize hAe : va_A [] s.heap.size = A at ⊢
  have hA : ∀ q : Nat, s.heap.size ≤ q → A q := fun q h => by rw [← hAe]; exact Or.inr h
  have hS : va_S A s.heap s.heap [] := va_S.rf
  have hP : va_P (dC, dI) vwCl [(m0, .inr (7, [.int 0, .ref mfi, .long 0, .int 0, .ref mil, .ref mic, .ref mwi, .int 0, .int 0, .ref mmo, .int 0, .ref mki, .ref mce, .ref mgo, .ref mwa, .ref mha, .ref mch, .ref mfo, .ref mca, .ref mor, .ref mro, .ref mra, .ref mpr, .ref mho, .ref mis, .int 0, .ref mss, .ref msc, .ref msh, .int 100, .int 1]))] s.heap := hP
  have hl := lv_entry ([.ref m0, .int a0, .int a1, .int a2]) (n := 6) (Nat.le_of_ble_eq_true rfl)
  rw [lg_entry_eq]
  generalize (lg_sl ([.ref m0, .int a0, .int a1, .int a2]) ++ List.replicate (6 - (lg_sl ([.ref m0, .int a0, .int a1, .int a2])).length) Slot.unset).toArray = ls at hl ⊢
  have hl : lv_has ls 6 [(0, .ref m0), (1, .int a0), (2, .int a1), (3, .int a2)] := hl
  refine lv_aload_n hx hb dX6_sight_0 rfl (lv_at hl 0 rfl) ?_
  refine lv_iload_n hx hb dX6_sight_1 rfl (lv_at hl 1 rfl) ?_
  have hPc := hP.sub (ws' := [(m0, .inr (7, [.int 0, .ref mfi, .long 0, .int 0, .ref mil, .ref mic, .ref mwi, .int 0, .int 0, .ref mmo, .int 0, .ref mki, .ref mce, .ref mgo, .ref mwa, .ref mha, .ref mch, .ref mfo, .ref mca, .ref mor, .ref mro, .ref mra, .ref mpr, .ref mho, .ref mis, .int 0, .ref mss, .ref msc, .ref msh, .int 100, .int 1]))]) [0] rfl
  have hKc := hK.sub (tys' := []) [] rfl
  refine va_calli (va_runV (As := [.int a0]) (rest := []) ⟨hx, hb, hml, hown, hts⟩ (c_X6_isShip l dC dI s.heap.size m0 mfi mil mic mwi mmo mki mce mgo mwa mha mch mfo mca mor mro mra mpr mho mis mss msc msh a0 ) (cwV 1 hts gX6_sight_X6_isShip rfl rfl rfl (by decide +kernel) ⟨Nat.le_of_ble_eq_true rfl, Nat.le_of_ble_eq_true rfl⟩) ⟨fun a U g mk q => by obtain ⟨q0, q1, qP, qK, qN⟩ := q; exact ⟨q0, q1, qP, va_K.moved (u := U) (U := U.calling g mk a) (Vm.Alike.refl U.vm) qK, NW.same (u := U) (U := U.calling g mk a) rfl qN⟩, va_recv hKc hPc (ci := 7) (q0 := 0) rfl rfl, fun U hU hW => ⟨rfl, by rw [hU], by rw [hU]; exact hPc, va_K.moved hW.alike hKc, NW.warm hW hN⟩⟩ rfl rfl hl.1 rfl (lv_room (Nat.le_of_ble_eq_true rfl)) dX6_sight_2 ⟨(Nat.zero_le _), (Nat.zero_le _)⟩) hS (fun q _ h => ro_A hS hA q h) (ro_A hS hA) (fun r_1 u t H1 locs ht hvm k_2 hB hz1 hk1 hS => ?_)
  have hP := ro_P hk1 hP
  generalize H1 = H at hP hS ⊢
  try dsimp only at k_2
  obtain rfl : r_1 = 0 := k_2
  refine lv_if_eq (tgt := 29) hx hb dX6_sight_5 (by decide) (fun c_3 => ?_) (fun c_3 => ?_)
  · skip
    refine lv_iconst (v := 0) hx hb dX6_sight_29 (by decide) ?_
    refine lv_istore (lv' := [(4, .int 0), (0, .ref m0), (1, .int a0), (2, .int a1), (3, .int a2)]) hx hb dX6_sight_30 hl (by decide) rfl (fun ls hl => ?_)
    refine lv_iconst (v := 0) hx hb dX6_sight_32 (by decide) ?_
    refine lv_istore (lv' := [(5, .int 0), (4, .int 0), (0, .ref m0), (1, .int a0), (2, .int a1), (3, .int a2)]) hx hb dX6_sight_33 hl (by decide) rfl (fun ls hl => ?_)
    refine lv_iload hx hb dX6_sight_35 (lv_at hl 0 rfl) ?_
    refine lv_aload_n hx hb dX6_sight_37 rfl (lv_at hl 2 rfl) ?_
    refine va_get (D := (dC, dI)) (ci := 7) (v := .int 0) (C := RX6) (T := TX6) (N := 31) hx hb hts iw_X6_sight_X6 hown hK hP 0 rfl rfl 25 (by decide) (hts (.fieldLink RX6 168 "TeaRaceModel" "sights" "I") (by decide +kernel)) (fun _ h9 => h9) rfl dX6_sight_38 ?_
    refine lv_icmp_ge (tgt := 84) hx hb dX6_sight_41 (by decide) (fun c_4 => ?_) (fun c_4 => ?_)
    · skip
      refine lv_iload hx hb dX6_sight_84 (lv_at hl 1 rfl) ?_
      refine lv_if_ne (tgt := 91) hx hb dX6_sight_86 (by decide) (fun c_5 => ?_) (fun c_5 => ?_)
      · skip
        exact absurd (by decide) c_5
      · skip
        refine lv_iconst (v := (-1)) hx hb dX6_sight_89 (by decide) ?_
        exact W.iret (v := (-1)) hx hb hr (fun t ht hW => ⟨⟨(-1), (), rfl, (by first | rfl | trivial | (simp; done)), trivial⟩, hS.F ht⟩) hS.2.2 dX6_sight_90
    · skip
      exact absurd (by decide) c_4
  · skip
    exact absurd (by decide) c_3
set_option maxHeartbeats 4000000 in
set_option maxRecDepth 100000 in
/-- the reference's charter, fresh -/
theorem c_X6_charter (l : Launch) (dC : Nat → ClassId) (dI : Nat → Nat → Nat) (sz : Nat) (m0 : Nat) (mfi : Nat) (mil : Nat) (mic : Nat) (mwi : Nat) (mmo : Nat) (mki : Nat) (mce : Nat) (mgo : Nat) (mwa : Nat) (mha : Nat) (mch : Nat) (mfo : Nat) (mca : Nat) (mor : Nat) (mro : Nat) (mra : Nat) (mpr : Nat) (mho : Nat) (mis : Nat) (mss : Nat) (msc : Nat) (msh : Nat) (a0 : Int32) (a1 : Int32) (a2 : Int32)  : Met l yX6_charter wsX6_charter ({ frames := 2, cells := 0, slots := 0, locals := 43 }) (va_Pc [.ref m0, .int a0, .int a1, .int a2] (fun U => U.heap.size = sz ∧ va_P (dC, dI) vwCl [(m0, .inr (7, [.int 0, .ref mfi, .long 0, .int 0, .ref mil, .ref mic, .ref mwi, .int 0, .int 0, .ref mmo, .int 0, .ref mki, .ref mce, .ref mgo, .ref mwa, .ref mha, .ref mch, .ref mfo, .ref mca, .ref mor, .ref mro, .ref mra, .ref mpr, .ref mho, .ref mis, .int 0, .ref mss, .ref msc, .ref msh, .int 100, .int 1]))] U.heap ∧ va_K (dC, dI) vwCl [] U ∧ NW U)) (va_Qi (fun (r : Int32) (_ : Unit) => r = (-1)) (fun _ _ => True) (va_A [] sz)) 0 0 (va_A [] sz) := by
  refine Met.ofW (cc := cX6_charter) (maxL := 4) (ret := (some .int)) (by decide) rfl ?_
  intro p e s m args below meth c s₁ B hml hv
  obtain ⟨rfl, hsz, hP, hK, hN⟩ := hv
  have hx := B.exec
  have hb := B.bytes
  have hr := B.returns
  have hts := atoms_spec (ws := wsX6_charter) B.pre
  have hown : s.vm.findClass RX6 = some m.cls := findClass_of_methodNamed B.named
  have hlocks := B.notSynchronized
  subst hsz
  generalize hAe : va_A [] s.heap.size = A at ⊢
  have hA : ∀ q : Nat, s.heap.size ≤ q → A q := fun q h => by rw [← hAe]; exact Or.inr h
  have hS : va_S A s.heap s.heap [] := va_S.rf
  have hP : va_P (dC, dI) vwCl [(m0, .inr (7, [.int 0, .ref mfi, .long 0, .int 0, .ref mil, .ref mic, .ref mwi, .int 0, .int 0, .ref mmo, .int 0, .ref mki, .ref mce, .ref mgo, .ref mwa, .ref mha, .ref mch, .ref mfo, .ref mca, .ref mor, .ref mro, .ref mra, .ref mpr, .ref mho, .ref mis, .int 0, .ref mss, .ref msc, .ref msh, .int 100, .int 1]))] s.heap := hP
  have hl := lv_entry ([.ref m0, .int a0, .int a1, .int a2]) (n := 4) (Nat.le_of_ble_eq_true rfl)
  rw [lg_entry_eq]
  generalize (lg_sl ([.ref m0, .int a0, .int a1, .int a2]) ++ List.replicate (4 - (lg_sl ([.ref m0, .int a0, .int a1, .int a2])).length) Slot.unset).toArray = ls at hl ⊢
  have hl : lv_has ls 4 [(0, .ref m0), (1, .int a0), (2, .int a1), (3, .int a2)] := hl
  refine lv_aload_n hx hb dX6_charter_0 rfl (lv_at hl 0 rfl) ?_
  refine lv_iload_n hx hb dX6_charter_1 rfl (lv_at hl 1 rfl) ?_
  have hPc := hP.sub (ws' := [(m0, .inr (7, [.int 0, .ref mfi, .long 0, .int 0, .ref mil, .ref mic, .ref mwi, .int 0, .int 0, .ref mmo, .int 0, .ref mki, .ref mce, .ref mgo, .ref mwa, .ref mha, .ref mch, .ref mfo, .ref mca, .ref mor, .ref mro, .ref mra, .ref mpr, .ref mho, .ref mis, .int 0, .ref mss, .ref msc, .ref msh, .int 100, .int 1]))]) [0] rfl
  have hKc := hK.sub (tys' := []) [] rfl
  refine va_calli (va_runV (As := [.int a0]) (rest := []) ⟨hx, hb, hml, hown, hts⟩ (c_X6_isShip l dC dI s.heap.size m0 mfi mil mic mwi mmo mki mce mgo mwa mha mch mfo mca mor mro mra mpr mho mis mss msc msh a0 ) (cwV 1 hts gX6_charter_X6_isShip rfl rfl rfl (by decide +kernel) ⟨Nat.le_of_ble_eq_true rfl, Nat.le_of_ble_eq_true rfl⟩) ⟨fun a U g mk q => by obtain ⟨q0, q1, qP, qK, qN⟩ := q; exact ⟨q0, q1, qP, va_K.moved (u := U) (U := U.calling g mk a) (Vm.Alike.refl U.vm) qK, NW.same (u := U) (U := U.calling g mk a) rfl qN⟩, va_recv hKc hPc (ci := 7) (q0 := 0) rfl rfl, fun U hU hW => ⟨rfl, by rw [hU], by rw [hU]; exact hPc, va_K.moved hW.alike hKc, NW.warm hW hN⟩⟩ rfl rfl hl.1 rfl (lv_room (Nat.le_of_ble_eq_true rfl)) dX6_charter_2 ⟨(Nat.zero_le _), (Nat.zero_le _)⟩) hS (fun q _ h => ro_A hS hA q h) (ro_A hS hA) (fun r_1 u t H1 locs ht hvm k_2 hB hz1 hk1 hS => ?_)
  have hP := ro_P hk1 hP
  generalize H1 = H at hP hS ⊢
  try dsimp only at k_2
  obtain rfl : r_1 = 0 := k_2
  refine lv_if_eq (tgt := 29) hx hb dX6_charter_5 (by decide) (fun c_3 => ?_) (fun c_3 => ?_)
  · skip
    refine lv_iconst (v := (-1)) hx hb dX6_charter_29 (by decide) ?_
    exact W.iret (v := (-1)) hx hb hr (fun t ht hW => ⟨⟨(-1), (), rfl, (by first | rfl | trivial | (simp; done)), trivial⟩, hS.F ht⟩) hS.2.2 dX6_charter_30
  · skip
    exact absurd (by decide) c_3
set_option maxHeartbeats 4000000 in
set_option maxRecDepth 100000 in
/-- the reference's freight, fresh -/
theorem c_X6_freight (l : Launch) (dC : Nat → ClassId) (dI : Nat → Nat → Nat) (sz : Nat) (m0 : Nat) (mfi : Nat) (mil : Nat) (mic : Nat) (mwi : Nat) (mmo : Nat) (mki : Nat) (mce : Nat) (mgo : Nat) (mwa : Nat) (mha : Nat) (mch : Nat) (mfo : Nat) (mca : Nat) (mor : Nat) (mro : Nat) (mra : Nat) (mpr : Nat) (mho : Nat) (mis : Nat) (mss : Nat) (msc : Nat) (msh : Nat) (a0 : Int32)  : Met l yX6_freight wsX6_freight ({ frames := 2, cells := 0, slots := 0, locals := 43 }) (va_Pc [.ref m0, .int a0] (fun U => U.heap.size = sz ∧ va_P (dC, dI) vwCl [(m0, .inr (7, [.int 0, .ref mfi, .long 0, .int 0, .ref mil, .ref mic, .ref mwi, .int 0, .int 0, .ref mmo, .int 0, .ref mki, .ref mce, .ref mgo, .ref mwa, .ref mha, .ref mch, .ref mfo, .ref mca, .ref mor, .ref mro, .ref mra, .ref mpr, .ref mho, .ref mis, .int 0, .ref mss, .ref msc, .ref msh, .int 100, .int 1]))] U.heap ∧ va_K (dC, dI) vwCl [] U ∧ NW U)) (va_Qi (fun (r : Int32) (_ : Unit) => r = (-1)) (fun _ _ => True) (va_A [] sz)) 0 0 (va_A [] sz) := by
  refine Met.ofW (cc := cX6_freight) (maxL := 2) (ret := (some .int)) (by decide) rfl ?_
  intro p e s m args below meth c s₁ B hml hv
  obtain ⟨rfl, hsz, hP, hK, hN⟩ := hv
  have hx := B.exec
  have hb := B.bytes
  have hr := B.returns
  have hts := atoms_spec (ws := wsX6_freight) B.pre
  have hown : s.vm.findClass RX6 = some m.cls := findClass_of_methodNamed B.named
  have hlocks := B.notSynchronized
  subst hsz
  generalize hAe : va_A [] s.heap.size = A at ⊢
  have hA : ∀ q : Nat, s.heap.size ≤ q → A q := fun q h => by rw [← hAe]; exact Or.inr h
  have hS : va_S A s.heap s.heap [] := va_S.rf
  have hP : va_P (dC, dI) vwCl [(m0, .inr (7, [.int 0, .ref mfi, .long 0, .int 0, .ref mil, .ref mic, .ref mwi, .int 0, .int 0, .ref mmo, .int 0, .ref mki, .ref mce, .ref mgo, .ref mwa, .ref mha, .ref mch, .ref mfo, .ref mca, .ref mor, .ref mro, .ref mra, .ref mpr, .ref mho, .ref mis, .int 0, .ref mss, .ref msc, .ref msh, .int 100, .int 1]))] s.heap := hP
  have hl := lv_entry ([.ref m0, .int a0]) (n := 2) (Nat.le_of_ble_eq_true rfl)
  rw [lg_entry_eq]
  generalize (lg_sl ([.ref m0, .int a0]) ++ List.replicate (2 - (lg_sl ([.ref m0, .int a0])).length) Slot.unset).toArray = ls at hl ⊢
  have hl : lv_has ls 2 [(0, .ref m0), (1, .int a0)] := hl
  refine lv_aload_n hx hb dX6_freight_0 rfl (lv_at hl 0 rfl) ?_
  refine lv_iload_n hx hb dX6_freight_1 rfl (lv_at hl 1 rfl) ?_
  have hPc := hP.sub (ws' := [(m0, .inr (7, [.int 0, .ref mfi, .long 0, .int 0, .ref mil, .ref mic, .ref mwi, .int 0, .int 0, .ref mmo, .int 0, .ref mki, .ref mce, .ref mgo, .ref mwa, .ref mha, .ref mch, .ref mfo, .ref mca, .ref mor, .ref mro, .ref mra, .ref mpr, .ref mho, .ref mis, .int 0, .ref mss, .ref msc, .ref msh, .int 100, .int 1]))]) [0] rfl
  have hKc := hK.sub (tys' := []) [] rfl
  refine va_calli (va_runV (As := [.int a0]) (rest := []) ⟨hx, hb, hml, hown, hts⟩ (c_X6_isShip l dC dI s.heap.size m0 mfi mil mic mwi mmo mki mce mgo mwa mha mch mfo mca mor mro mra mpr mho mis mss msc msh a0 ) (cwV 1 hts gX6_freight_X6_isShip rfl rfl rfl (by decide +kernel) ⟨Nat.le_of_ble_eq_true rfl, Nat.le_of_ble_eq_true rfl⟩) ⟨fun a U g mk q => by obtain ⟨q0, q1, qP, qK, qN⟩ := q; exact ⟨q0, q1, qP, va_K.moved (u := U) (U := U.calling g mk a) (Vm.Alike.refl U.vm) qK, NW.same (u := U) (U := U.calling g mk a) rfl qN⟩, va_recv hKc hPc (ci := 7) (q0 := 0) rfl rfl, fun U hU hW => ⟨rfl, by rw [hU], by rw [hU]; exact hPc, va_K.moved hW.alike hKc, NW.warm hW hN⟩⟩ rfl rfl hl.1 rfl (lv_room (Nat.le_of_ble_eq_true rfl)) dX6_freight_2 ⟨(Nat.zero_le _), (Nat.zero_le _)⟩) hS (fun q _ h => ro_A hS hA q h) (ro_A hS hA) (fun r_1 u t H1 locs ht hvm k_2 hB hz1 hk1 hS => ?_)
  have hP := ro_P hk1 hP
  generalize H1 = H at hP hS ⊢
  try dsimp only at k_2
  obtain rfl : r_1 = 0 := k_2
  refine lv_if_ne (tgt := 10) hx hb dX6_freight_5 (by decide) (fun c_3 => ?_) (fun c_3 => ?_)
  · skip
    exact absurd (by decide) c_3
  · skip
    refine lv_iconst (v := (-1)) hx hb dX6_freight_8 (by decide) ?_
    exact W.iret (v := (-1)) hx hb hr (fun t ht hW => ⟨⟨(-1), (), rfl, (by first | rfl | trivial | (simp; done)), trivial⟩, hS.F ht⟩) hS.2.2 dX6_freight_9
set_option maxHeartbeats 4000000 in
set_option maxRecDepth 100000 in
/-- the reference's sale, fresh -/
theorem c_X6_sale (l : Launch) (dC : Nat → ClassId) (dI : Nat → Nat → Nat) (sz : Nat) (m0 : Nat) (mfi : Nat) (mil : Nat) (mic : Nat) (mwi : Nat) (mmo : Nat) (mki : Nat) (mce : Nat) (mgo : Nat) (mwa : Nat) (mha : Nat) (mch : Nat) (mfo : Nat) (mca : Nat) (mor : Nat) (mro : Nat) (mra : Nat) (mpr : Nat) (mho : Nat) (mis : Nat) (mss : Nat) (msc : Nat) (msh : Nat) (a0 : Int32)  : Met l yX6_sale wsX6_sale ({ frames := 2, cells := 0, slots := 0, locals := 43 }) (va_Pc [.ref m0, .int a0] (fun U => U.heap.size = sz ∧ va_P (dC, dI) vwCl [(m0, .inr (7, [.int 0, .ref mfi, .long 0, .int 0, .ref mil, .ref mic, .ref mwi, .int 0, .int 0, .ref mmo, .int 0, .ref mki, .ref mce, .ref mgo, .ref mwa, .ref mha, .ref mch, .ref mfo, .ref mca, .ref mor, .ref mro, .ref mra, .ref mpr, .ref mho, .ref mis, .int 0, .ref mss, .ref msc, .ref msh, .int 100, .int 1]))] U.heap ∧ va_K (dC, dI) vwCl [] U ∧ NW U)) (va_Qi (fun (r : Int32) (_ : Unit) => r = (-1)) (fun _ _ => True) (va_A [] sz)) 0 0 (va_A [] sz) := by
  refine Met.ofW (cc := cX6_sale) (maxL := 3) (ret := (some .int)) (by decide) rfl ?_
  intro p e s m args below meth c s₁ B hml hv
  obtain ⟨rfl, hsz, hP, hK, hN⟩ := hv
  have hx := B.exec
  have hb := B.bytes
  have hr := B.returns
  have hts := atoms_spec (ws := wsX6_sale) B.pre
  have hown : s.vm.findClass RX6 = some m.cls := findClass_of_methodNamed B.named
  have hlocks := B.notSynchronized
  subst hsz
  generalize hAe : va_A [] s.heap.size = A at ⊢
  have hA : ∀ q : Nat, s.heap.size ≤ q → A q := fun q h => by rw [← hAe]; exact Or.inr h
  have hS : va_S A s.heap s.heap [] := va_S.rf
  have hP : va_P (dC, dI) vwCl [(m0, .inr (7, [.int 0, .ref mfi, .long 0, .int 0, .ref mil, .ref mic, .ref mwi, .int 0, .int 0, .ref mmo, .int 0, .ref mki, .ref mce, .ref mgo, .ref mwa, .ref mha, .ref mch, .ref mfo, .ref mca, .ref mor, .ref mro, .ref mra, .ref mpr, .ref mho, .ref mis, .int 0, .ref mss, .ref msc, .ref msh, .int 100, .int 1]))] s.heap := hP
  have hl := lv_entry ([.ref m0, .int a0]) (n := 3) (Nat.le_of_ble_eq_true rfl)
  rw [lg_entry_eq]
  generalize (lg_sl ([.ref m0, .int a0]) ++ List.replicate (3 - (lg_sl ([.ref m0, .int a0])).length) Slot.unset).toArray = ls at hl ⊢
  have hl : lv_has ls 3 [(0, .ref m0), (1, .int a0)] := hl
  refine lv_aload_n hx hb dX6_sale_0 rfl (lv_at hl 0 rfl) ?_
  refine lv_iload_n hx hb dX6_sale_1 rfl (lv_at hl 1 rfl) ?_
  have hPc := hP.sub (ws' := [(m0, .inr (7, [.int 0, .ref mfi, .long 0, .int 0, .ref mil, .ref mic, .ref mwi, .int 0, .int 0, .ref mmo, .int 0, .ref mki, .ref mce, .ref mgo, .ref mwa, .ref mha, .ref mch, .ref mfo, .ref mca, .ref mor, .ref mro, .ref mra, .ref mpr, .ref mho, .ref mis, .int 0, .ref mss, .ref msc, .ref msh, .int 100, .int 1]))]) [0] rfl
  have hKc := hK.sub (tys' := []) [] rfl
  refine va_calli (va_runV (As := [.int a0]) (rest := []) ⟨hx, hb, hml, hown, hts⟩ (c_X6_isShip l dC dI s.heap.size m0 mfi mil mic mwi mmo mki mce mgo mwa mha mch mfo mca mor mro mra mpr mho mis mss msc msh a0 ) (cwV 1 hts gX6_sale_X6_isShip rfl rfl rfl (by decide +kernel) ⟨Nat.le_of_ble_eq_true rfl, Nat.le_of_ble_eq_true rfl⟩) ⟨fun a U g mk q => by obtain ⟨q0, q1, qP, qK, qN⟩ := q; exact ⟨q0, q1, qP, va_K.moved (u := U) (U := U.calling g mk a) (Vm.Alike.refl U.vm) qK, NW.same (u := U) (U := U.calling g mk a) rfl qN⟩, va_recv hKc hPc (ci := 7) (q0 := 0) rfl rfl, fun U hU hW => ⟨rfl, by rw [hU], by rw [hU]; exact hPc, va_K.moved hW.alike hKc, NW.warm hW hN⟩⟩ rfl rfl hl.1 rfl (lv_room (Nat.le_of_ble_eq_true rfl)) dX6_sale_2 ⟨(Nat.zero_le _), (Nat.zero_le _)⟩) hS (fun q _ h => ro_A hS hA q h) (ro_A hS hA) (fun r_1 u t H1 locs ht hvm k_2 hB hz1 hk1 hS => ?_)
  have hP := ro_P hk1 hP
  generalize H1 = H at hP hS ⊢
  try dsimp only at k_2
  obtain rfl : r_1 = 0 := k_2
  refine lv_if_ne (tgt := 10) hx hb dX6_sale_5 (by decide) (fun c_3 => ?_) (fun c_3 => ?_)
  · skip
    exact absurd (by decide) c_3
  · skip
    refine lv_iconst (v := (-1)) hx hb dX6_sale_8 (by decide) ?_
    exact W.iret (v := (-1)) hx hb hr (fun t ht hW => ⟨⟨(-1), (), rfl, (by first | rfl | trivial | (simp; done)), trivial⟩, hS.F ht⟩) hS.2.2 dX6_sale_9
set_option maxHeartbeats 4000000 in
set_option maxRecDepth 100000 in
/-- the reference's distance, fresh -/
theorem c_X6_distance (l : Launch) (dC : Nat → ClassId) (dI : Nat → Nat → Nat) (sz : Nat) (m0 : Nat) (mfi : Nat) (mil : Nat) (mic : Nat) (mwi : Nat) (mmo : Nat) (mki : Nat) (mce : Nat) (mgo : Nat) (mwa : Nat) (mha : Nat) (mch : Nat) (mfo : Nat) (mca : Nat) (mor : Nat) (mro : Nat) (mra : Nat) (mpr : Nat) (mho : Nat) (mis : Nat) (mss : Nat) (msc : Nat) (msh : Nat) (a0 : Int32) (a1 : Int32) (a2 : Int32)  : Met l yX6_distance wsX6_distance ({ frames := 2, cells := 0, slots := 0, locals := 43 }) (va_Pc [.ref m0, .int a0, .int a1, .int a2] (fun U => U.heap.size = sz ∧ va_P (dC, dI) vwCl [(m0, .inr (7, [.int 0, .ref mfi, .long 0, .int 0, .ref mil, .ref mic, .ref mwi, .int 0, .int 0, .ref mmo, .int 0, .ref mki, .ref mce, .ref mgo, .ref mwa, .ref mha, .ref mch, .ref mfo, .ref mca, .ref mor, .ref mro, .ref mra, .ref mpr, .ref mho, .ref mis, .int 0, .ref mss, .ref msc, .ref msh, .int 100, .int 1]))] U.heap ∧ va_K (dC, dI) vwCl [] U ∧ NW U)) (va_Qi (fun (r : Int32) (_ : Unit) => r = (-1)) (fun _ _ => True) (va_A [] sz)) 0 0 (va_A [] sz) := by
  refine Met.ofW (cc := cX6_distance) (maxL := 4) (ret := (some .int)) (by decide) rfl ?_
  intro p e s m args below meth c s₁ B hml hv
  obtain ⟨rfl, hsz, hP, hK, hN⟩ := hv
  have hx := B.exec
  have hb := B.bytes
  have hr := B.returns
  have hts := atoms_spec (ws := wsX6_distance) B.pre
  have hown : s.vm.findClass RX6 = some m.cls := findClass_of_methodNamed B.named
  have hlocks := B.notSynchronized
  subst hsz
  generalize hAe : va_A [] s.heap.size = A at ⊢
  have hA : ∀ q : Nat, s.heap.size ≤ q → A q := fun q h => by rw [← hAe]; exact Or.inr h
  have hS : va_S A s.heap s.heap [] := va_S.rf
  have hP : va_P (dC, dI) vwCl [(m0, .inr (7, [.int 0, .ref mfi, .long 0, .int 0, .ref mil, .ref mic, .ref mwi, .int 0, .int 0, .ref mmo, .int 0, .ref mki, .ref mce, .ref mgo, .ref mwa, .ref mha, .ref mch, .ref mfo, .ref mca, .ref mor, .ref mro, .ref mra, .ref mpr, .ref mho, .ref mis, .int 0, .ref mss, .ref msc, .ref msh, .int 100, .int 1]))] s.heap := hP
  have hl := lv_entry ([.ref m0, .int a0, .int a1, .int a2]) (n := 4) (Nat.le_of_ble_eq_true rfl)
  rw [lg_entry_eq]
  generalize (lg_sl ([.ref m0, .int a0, .int a1, .int a2]) ++ List.replicate (4 - (lg_sl ([.ref m0, .int a0, .int a1, .int a2])).length) Slot.unset).toArray = ls at hl ⊢
  have hl : lv_has ls 4 [(0, .ref m0), (1, .int a0), (2, .int a1), (3, .int a2)] := hl
  refine lv_aload_n hx hb dX6_distance_0 rfl (lv_at hl 0 rfl) ?_
  refine lv_iload_n hx hb dX6_distance_1 rfl (lv_at hl 1 rfl) ?_
  have hPc := hP.sub (ws' := [(m0, .inr (7, [.int 0, .ref mfi, .long 0, .int 0, .ref mil, .ref mic, .ref mwi, .int 0, .int 0, .ref mmo, .int 0, .ref mki, .ref mce, .ref mgo, .ref mwa, .ref mha, .ref mch, .ref mfo, .ref mca, .ref mor, .ref mro, .ref mra, .ref mpr, .ref mho, .ref mis, .int 0, .ref mss, .ref msc, .ref msh, .int 100, .int 1]))]) [0] rfl
  have hKc := hK.sub (tys' := []) [] rfl
  refine va_calli (va_runV (As := [.int a0]) (rest := []) ⟨hx, hb, hml, hown, hts⟩ (c_X6_isShip l dC dI s.heap.size m0 mfi mil mic mwi mmo mki mce mgo mwa mha mch mfo mca mor mro mra mpr mho mis mss msc msh a0 ) (cwV 1 hts gX6_distance_X6_isShip rfl rfl rfl (by decide +kernel) ⟨Nat.le_of_ble_eq_true rfl, Nat.le_of_ble_eq_true rfl⟩) ⟨fun a U g mk q => by obtain ⟨q0, q1, qP, qK, qN⟩ := q; exact ⟨q0, q1, qP, va_K.moved (u := U) (U := U.calling g mk a) (Vm.Alike.refl U.vm) qK, NW.same (u := U) (U := U.calling g mk a) rfl qN⟩, va_recv hKc hPc (ci := 7) (q0 := 0) rfl rfl, fun U hU hW => ⟨rfl, by rw [hU], by rw [hU]; exact hPc, va_K.moved hW.alike hKc, NW.warm hW hN⟩⟩ rfl rfl hl.1 rfl (lv_room (Nat.le_of_ble_eq_true rfl)) dX6_distance_2 ⟨(Nat.zero_le _), (Nat.zero_le _)⟩) hS (fun q _ h => ro_A hS hA q h) (ro_A hS hA) (fun r_1 u t H1 locs ht hvm k_2 hB hz1 hk1 hS => ?_)
  have hP := ro_P hk1 hP
  generalize H1 = H at hP hS ⊢
  try dsimp only at k_2
  obtain rfl : r_1 = 0 := k_2
  refine lv_if_eq (tgt := 28) hx hb dX6_distance_5 (by decide) (fun c_3 => ?_) (fun c_3 => ?_)
  · skip
    refine lv_iconst (v := (-1)) hx hb dX6_distance_28 (by decide) ?_
    exact W.iret (v := (-1)) hx hb hr (fun t ht hW => ⟨⟨(-1), (), rfl, (by first | rfl | trivial | (simp; done)), trivial⟩, hS.F ht⟩) hS.2.2 dX6_distance_29
  · skip
    exact absurd (by decide) c_3
set_option maxHeartbeats 4000000 in
set_option maxRecDepth 100000 in
/-- the reference's ahead, fresh -/
theorem c_X6_ahead (l : Launch) (dC : Nat → ClassId) (dI : Nat → Nat → Nat) (sz : Nat) (m0 : Nat) (mfi : Nat) (mil : Nat) (mic : Nat) (mwi : Nat) (mmo : Nat) (mki : Nat) (mce : Nat) (mgo : Nat) (mwa : Nat) (mha : Nat) (mch : Nat) (mfo : Nat) (mca : Nat) (mor : Nat) (mro : Nat) (mra : Nat) (mpr : Nat) (mho : Nat) (mis : Nat) (mss : Nat) (msc : Nat) (msh : Nat) (a0 : Int32) (a1 : Int32) (a2 : Int32)  : Met l yX6_ahead wsX6_ahead ({ frames := 2, cells := 0, slots := 0, locals := 43 }) (va_Pc [.ref m0, .int a0, .int a1, .int a2] (fun U => U.heap.size = sz ∧ va_P (dC, dI) vwCl [(m0, .inr (7, [.int 0, .ref mfi, .long 0, .int 0, .ref mil, .ref mic, .ref mwi, .int 0, .int 0, .ref mmo, .int 0, .ref mki, .ref mce, .ref mgo, .ref mwa, .ref mha, .ref mch, .ref mfo, .ref mca, .ref mor, .ref mro, .ref mra, .ref mpr, .ref mho, .ref mis, .int 0, .ref mss, .ref msc, .ref msh, .int 100, .int 1]))] U.heap ∧ va_K (dC, dI) vwCl [] U ∧ NW U)) (va_Qi (fun (r : Int32) (_ : Unit) => r = (-1)) (fun _ _ => True) (va_A [] sz)) 0 0 (va_A [] sz) := by
  refine Met.ofW (cc := cX6_ahead) (maxL := 6) (ret := (some .int)) (by decide) rfl ?_
  intro p e s m args below meth c s₁ B hml hv
  obtain ⟨rfl, hsz, hP, hK, hN⟩ := hv
  have hx := B.exec
  have hb := B.bytes
  have hr := B.returns
  have hts := atoms_spec (ws := wsX6_ahead) B.pre
  have hown : s.vm.findClass RX6 = some m.cls := findClass_of_methodNamed B.named
  have hlocks := B.notSynchronized
  subst hsz
  generalize hAe : va_A [] s.heap.size = A at ⊢
  have hA : ∀ q : Nat, s.heap.size ≤ q → A q := fun q h => by rw [← hAe]; exact Or.inr h
  have hS : va_S A s.heap s.heap [] := va_S.rf
  have hP : va_P (dC, dI) vwCl [(m0, .inr (7, [.int 0, .ref mfi, .long 0, .int 0, .ref mil, .ref mic, .ref mwi, .int 0, .int 0, .ref mmo, .int 0, .ref mki, .ref mce, .ref mgo, .ref mwa, .ref mha, .ref mch, .ref mfo, .ref mca, .ref mor, .ref mro, .ref mra, .ref mpr, .ref mho, .ref mis, .int 0, .ref mss, .ref msc, .ref msh, .int 100, .int 1]))] s.heap := hP
  have hl := lv_entry ([.ref m0, .int a0, .int a1, .int a2]) (n := 6) (Nat.le_of_ble_eq_true rfl)
  rw [lg_entry_eq]
  generalize (lg_sl ([.ref m0, .int a0, .int a1, .int a2]) ++ List.replicate (6 - (lg_sl ([.ref m0, .int a0, .int a1, .int a2])).length) Slot.unset).toArray = ls at hl ⊢
  have hl : lv_has ls 6 [(0, .ref m0), (1, .int a0), (2, .int a1), (3, .int a2)] := hl
  refine lv_aload_n hx hb dX6_ahead_0 rfl (lv_at hl 0 rfl) ?_
  refine lv_iload_n hx hb dX6_ahead_1 rfl (lv_at hl 1 rfl) ?_
  have hPc := hP.sub (ws' := [(m0, .inr (7, [.int 0, .ref mfi, .long 0, .int 0, .ref mil, .ref mic, .ref mwi, .int 0, .int 0, .ref mmo, .int 0, .ref mki, .ref mce, .ref mgo, .ref mwa, .ref mha, .ref mch, .ref mfo, .ref mca, .ref mor, .ref mro, .ref mra, .ref mpr, .ref mho, .ref mis, .int 0, .ref mss, .ref msc, .ref msh, .int 100, .int 1]))]) [0] rfl
  have hKc := hK.sub (tys' := []) [] rfl
  refine va_calli (va_runV (As := [.int a0]) (rest := []) ⟨hx, hb, hml, hown, hts⟩ (c_X6_isShip l dC dI s.heap.size m0 mfi mil mic mwi mmo mki mce mgo mwa mha mch mfo mca mor mro mra mpr mho mis mss msc msh a0 ) (cwV 1 hts gX6_ahead_X6_isShip rfl rfl rfl (by decide +kernel) ⟨Nat.le_of_ble_eq_true rfl, Nat.le_of_ble_eq_true rfl⟩) ⟨fun a U g mk q => by obtain ⟨q0, q1, qP, qK, qN⟩ := q; exact ⟨q0, q1, qP, va_K.moved (u := U) (U := U.calling g mk a) (Vm.Alike.refl U.vm) qK, NW.same (u := U) (U := U.calling g mk a) rfl qN⟩, va_recv hKc hPc (ci := 7) (q0 := 0) rfl rfl, fun U hU hW => ⟨rfl, by rw [hU], by rw [hU]; exact hPc, va_K.moved hW.alike hKc, NW.warm hW hN⟩⟩ rfl rfl hl.1 rfl (lv_room (Nat.le_of_ble_eq_true rfl)) dX6_ahead_2 ⟨(Nat.zero_le _), (Nat.zero_le _)⟩) hS (fun q _ h => ro_A hS hA q h) (ro_A hS hA) (fun r_1 u t H1 locs ht hvm k_2 hB hz1 hk1 hS => ?_)
  have hP := ro_P hk1 hP
  generalize H1 = H at hP hS ⊢
  try dsimp only at k_2
  obtain rfl : r_1 = 0 := k_2
  refine lv_if_eq (tgt := 31) hx hb dX6_ahead_5 (by decide) (fun c_3 => ?_) (fun c_3 => ?_)
  · skip
    refine lv_iconst (v := (-1)) hx hb dX6_ahead_31 (by decide) ?_
    exact W.iret (v := (-1)) hx hb hr (fun t ht hW => ⟨⟨(-1), (), rfl, (by first | rfl | trivial | (simp; done)), trivial⟩, hS.F ht⟩) hS.2.2 dX6_ahead_32
  · skip
    exact absurd (by decide) c_3
set_option maxRecDepth 20000 in
theorem iw_X6_asked_X6 : ∀ w ∈ wsX60, w ∈ wsX6_asked := by decide +kernel
set_option maxHeartbeats 4000000 in
set_option maxRecDepth 100000 in
/-- the reference's asked, fresh -/
theorem c_X6_asked (l : Launch) (dC : Nat → ClassId) (dI : Nat → Nat → Nat) (sz : Nat) (m0 : Nat) (mfi : Nat) (mil : Nat) (mic : Nat) (mwi : Nat) (mmo : Nat) (mki : Nat) (mce : Nat) (mgo : Nat) (mwa : Nat) (mha : Nat) (mch : Nat) (mfo : Nat) (mca : Nat) (mor : Nat) (mro : Nat) (mra : Nat) (mpr : Nat) (mho : Nat) (mis : Nat) (mss : Nat) (msc : Nat) (msh : Nat)  : Met l yX6_asked wsX6_asked ({ frames := 0, cells := 0, slots := 0, locals := 0 }) (va_Pc [.ref m0] (fun U => U.heap.size = sz ∧ va_P (dC, dI) vwCl [(m0, .inr (7, [.int 0, .ref mfi, .long 0, .int 0, .ref mil, .ref mic, .ref mwi, .int 0, .int 0, .ref mmo, .int 0, .ref mki, .ref mce, .ref mgo, .ref mwa, .ref mha, .ref mch, .ref mfo, .ref mca, .ref mor, .ref mro, .ref mra, .ref mpr, .ref mho, .ref mis, .int 0, .ref mss, .ref msc, .ref msh, .int 100, .int 1]))] U.heap ∧ va_K (dC, dI) vwCl [] U ∧ NW U)) (va_Ql (fun (r : Int64) (_ : Unit) => r = 0) (fun _ _ => True) (va_A [] sz)) 0 0 (va_A [] sz) := by
  refine Met.ofW (cc := cX6_asked) (maxL := 1) (ret := (some .long)) (by decide) rfl ?_
  intro p e s m args below meth c s₁ B hml hv
  obtain ⟨rfl, hsz, hP, hK, hN⟩ := hv
  have hx := B.exec
  have hb := B.bytes
  have hr := B.returns
  have hts := atoms_spec (ws := wsX6_asked) B.pre
  have hown : s.vm.findClass RX6 = some m.cls := findClass_of_methodNamed B.named
  have hlocks := B.notSynchronized
  subst hsz
  generalize hAe : va_A [] s.heap.size = A at ⊢
  have hA : ∀ q : Nat, s.heap.size ≤ q → A q := fun q h => by rw [← hAe]; exact Or.inr h
  have hS : va_S A s.heap s.heap [] := va_S.rf
  have hP : va_P (dC, dI) vwCl [(m0, .inr (7, [.int 0, .ref mfi, .long 0, .int 0, .ref mil, .ref mic, .ref mwi, .int 0, .int 0, .ref mmo, .int 0, .ref mki, .ref mce, .ref mgo, .ref mwa, .ref mha, .ref mch, .ref mfo, .ref mca, .ref mor, .ref mro, .ref mra, .ref mpr, .ref mho, .ref mis, .int 0, .ref mss, .ref msc, .ref msh, .int 100, .int 1]))] s.heap := hP
  have hl := lv_entry ([.ref m0]) (n := 1) (Nat.le_of_ble_eq_true rfl)
  rw [lg_entry_eq]
  generalize (lg_sl ([.ref m0]) ++ List.replicate (1 - (lg_sl ([.ref m0])).length) Slot.unset).toArray = ls at hl ⊢
  have hl : lv_has ls 1 [(0, .ref m0)] := hl
  refine lv_aload_n hx hb dX6_asked_0 rfl (lv_at hl 0 rfl) ?_
  refine va_get (D := (dC, dI)) (ci := 7) (v := .long 0) (C := RX6) (T := TX6) (N := 31) hx hb hts iw_X6_asked_X6 hown hK hP 0 rfl rfl 2 (by decide) (hts (.fieldLink RX6 184 "TeaRaceModel" "asked" "J") (by decide +kernel)) (fun _ h9 => h9) rfl dX6_asked_1 ?_
  exact W.lret (v := 0) hx hb hr (fun t ht hW => ⟨⟨0, (), rfl, (by first | rfl | trivial | (simp; done)), trivial⟩, hS.F ht⟩) hS.2.2 dX6_asked_4
set_option maxRecDepth 20000 in
theorem iw_X6_finding_X6 : ∀ w ∈ wsX60, w ∈ wsX6_finding := by decide +kernel
set_option maxHeartbeats 4000000 in
set_option maxRecDepth 100000 in
/-- the reference's finding, fresh -/
theorem c_X6_finding (l : Launch) (dC : Nat → ClassId) (dI : Nat → Nat → Nat) (sz : Nat) (m0 : Nat) (mfi : Nat) (mil : Nat) (mic : Nat) (mwi : Nat) (mmo : Nat) (mki : Nat) (mce : Nat) (mgo : Nat) (mwa : Nat) (mha : Nat) (mch : Nat) (mfo : Nat) (mca : Nat) (mor : Nat) (mro : Nat) (mra : Nat) (mpr : Nat) (mho : Nat) (mis : Nat) (mss : Nat) (msc : Nat) (msh : Nat)  : Met l yX6_finding wsX6_finding ({ frames := 0, cells := 0, slots := 0, locals := 0 }) (va_Pc [.ref m0] (fun U => U.heap.size = sz ∧ va_P (dC, dI) vwCl [(m0, .inr (7, [.int 0, .ref mfi, .long 0, .int 0, .ref mil, .ref mic, .ref mwi, .int 0, .int 0, .ref mmo, .int 0, .ref mki, .ref mce, .ref mgo, .ref mwa, .ref mha, .ref mch, .ref mfo, .ref mca, .ref mor, .ref mro, .ref mra, .ref mpr, .ref mho, .ref mis, .int 0, .ref mss, .ref msc, .ref msh, .int 100, .int 1]))] U.heap ∧ va_K (dC, dI) vwCl [] U ∧ NW U)) (va_Qi (fun (r : Int32) (_ : Unit) => r = 0) (fun _ _ => True) (va_A [] sz)) 0 0 (va_A [] sz) := by
  refine Met.ofW (cc := cX6_finding) (maxL := 1) (ret := (some .int)) (by decide) rfl ?_
  intro p e s m args below meth c s₁ B hml hv
  obtain ⟨rfl, hsz, hP, hK, hN⟩ := hv
  have hx := B.exec
  have hb := B.bytes
  have hr := B.returns
  have hts := atoms_spec (ws := wsX6_finding) B.pre
  have hown : s.vm.findClass RX6 = some m.cls := findClass_of_methodNamed B.named
  have hlocks := B.notSynchronized
  subst hsz
  generalize hAe : va_A [] s.heap.size = A at ⊢
  have hA : ∀ q : Nat, s.heap.size ≤ q → A q := fun q h => by rw [← hAe]; exact Or.inr h
  have hS : va_S A s.heap s.heap [] := va_S.rf
  have hP : va_P (dC, dI) vwCl [(m0, .inr (7, [.int 0, .ref mfi, .long 0, .int 0, .ref mil, .ref mic, .ref mwi, .int 0, .int 0, .ref mmo, .int 0, .ref mki, .ref mce, .ref mgo, .ref mwa, .ref mha, .ref mch, .ref mfo, .ref mca, .ref mor, .ref mro, .ref mra, .ref mpr, .ref mho, .ref mis, .int 0, .ref mss, .ref msc, .ref msh, .int 100, .int 1]))] s.heap := hP
  have hl := lv_entry ([.ref m0]) (n := 1) (Nat.le_of_ble_eq_true rfl)
  rw [lg_entry_eq]
  generalize (lg_sl ([.ref m0]) ++ List.replicate (1 - (lg_sl ([.ref m0])).length) Slot.unset).toArray = ls at hl ⊢
  have hl : lv_has ls 1 [(0, .ref m0)] := hl
  refine lv_aload_n hx hb dX6_finding_0 rfl (lv_at hl 0 rfl) ?_
  refine va_get (D := (dC, dI)) (ci := 7) (v := .int 0) (C := RX6) (T := TX6) (N := 31) hx hb hts iw_X6_finding_X6 hown hK hP 0 rfl rfl 0 (by decide) (hts (.fieldLink RX6 84 "TeaRaceModel" "finding" "I") (by decide +kernel)) (fun _ h9 => h9) rfl dX6_finding_1 ?_
  exact W.iret (v := 0) hx hb hr (fun t ht hW => ⟨⟨0, (), rfl, (by first | rfl | trivial | (simp; done)), trivial⟩, hS.F ht⟩) hS.2.2 dX6_finding_4
set_option maxRecDepth 20000 in
theorem iw_X6_findings_X6 : ∀ w ∈ wsX60, w ∈ wsX6_findings := by decide +kernel
set_option maxHeartbeats 4000000 in
set_option maxRecDepth 100000 in
/-- the reference's findings, fresh -/
theorem c_X6_findings (l : Launch) (dC : Nat → ClassId) (dI : Nat → Nat → Nat) (sz : Nat) (m0 : Nat) (mfi : Nat) (mil : Nat) (mic : Nat) (mwi : Nat) (mmo : Nat) (mki : Nat) (mce : Nat) (mgo : Nat) (mwa : Nat) (mha : Nat) (mch : Nat) (mfo : Nat) (mca : Nat) (mor : Nat) (mro : Nat) (mra : Nat) (mpr : Nat) (mho : Nat) (mis : Nat) (mss : Nat) (msc : Nat) (msh : Nat) (cI : ClassId) (a0 : Int32)  : Met l yX6_findings wsX6_findings ({ frames := 1, cells := 0, slots := 0, locals := 22 }) (va_Pc [.ref m0, .int a0] (fun U => U.heap.size = sz ∧ va_P (dC, dI) vwCl [(m0, .inr (7, [.int 0, .ref mfi, .long 0, .int 0, .ref mil, .ref mic, .ref mwi, .int 0, .int 0, .ref mmo, .int 0, .ref mki, .ref mce, .ref mgo, .ref mwa, .ref mha, .ref mch, .ref mfo, .ref mca, .ref mor, .ref mro, .ref mra, .ref mpr, .ref mho, .ref mis, .int 0, .ref mss, .ref msc, .ref msh, .int 100, .int 1])), (mfi, .inl (cI, 6, .inl (fun _ => 0)))] U.heap ∧ va_K (dC, dI) vwCl [(cI, .int)] U ∧ NW U)) (va_Qi (fun (r : Int32) (_ : Unit) => r = if (a0 < 1 ∨ 5 < a0) then (-1) else 0) (fun _ _ => True) (va_A [] sz)) 0 0 (va_A [] sz) := by
  refine Met.ofW (cc := cX6_findings) (maxL := 2) (ret := (some .int)) (by decide) rfl ?_
  intro p e s m args below meth c s₁ B hml hv
  obtain ⟨rfl, hsz, hP, hK, hN⟩ := hv
  have hx := B.exec
  have hb := B.bytes
  have hr := B.returns
  have hts := atoms_spec (ws := wsX6_findings) B.pre
  have hown : s.vm.findClass RX6 = some m.cls := findClass_of_methodNamed B.named
  have hlocks := B.notSynchronized
  subst hsz
  generalize hAe : va_A [] s.heap.size = A at ⊢
  have hA : ∀ q : Nat, s.heap.size ≤ q → A q := fun q h => by rw [← hAe]; exact Or.inr h
  have hS : va_S A s.heap s.heap [] := va_S.rf
  have hP : va_P (dC, dI) vwCl [(m0, .inr (7, [.int 0, .ref mfi, .long 0, .int 0, .ref mil, .ref mic, .ref mwi, .int 0, .int 0, .ref mmo, .int 0, .ref mki, .ref mce, .ref mgo, .ref mwa, .ref mha, .ref mch, .ref mfo, .ref mca, .ref mor, .ref mro, .ref mra, .ref mpr, .ref mho, .ref mis, .int 0, .ref mss, .ref msc, .ref msh, .int 100, .int 1])), (mfi, .inl (cI, 6, .inl (fun _ => 0)))] s.heap := hP
  have hl := lv_entry ([.ref m0, .int a0]) (n := 2) (Nat.le_of_ble_eq_true rfl)
  rw [lg_entry_eq]
  generalize (lg_sl ([.ref m0, .int a0]) ++ List.replicate (2 - (lg_sl ([.ref m0, .int a0])).length) Slot.unset).toArray = ls at hl ⊢
  have hl : lv_has ls 2 [(0, .ref m0), (1, .int a0)] := hl
  refine lv_iload_n hx hb dX6_findings_0 rfl (lv_at hl 1 rfl) ?_
  refine lv_iconst (v := 1) hx hb dX6_findings_1 (by decide) ?_
  refine lv_iconst (v := 5) hx hb dX6_findings_2 (by decide) ?_
  refine va_calli (va_runS (As := [.int a0, .int 1, .int 5]) (rest := []) ⟨hx, hb, hml, hown, hts⟩ (c_X6_in l s.heap.size a0 1 5 ) (va_cwS 3 hts gX6_findings_X6_in rfl rfl rfl (by decide +kernel) ⟨Nat.le_of_ble_eq_true rfl, Nat.le_of_ble_eq_true rfl⟩) ⟨fun a U g mk q => by obtain ⟨q0, q1⟩ := q; exact ⟨q0, q1⟩, fun U hU hW => ⟨rfl, congrArg Array.size hU⟩⟩ rfl rfl hl.1 rfl (lv_room (Nat.le_of_ble_eq_true rfl)) dX6_findings_3 ⟨(Nat.zero_le _), (Nat.zero_le _)⟩) hS (fun q _ h => ro_A hS hA q h) (ro_A hS hA) (fun r_1 u t H1 locs ht hvm k_2 hB hz1 hk1 hS => ?_)
  have hP := ro_P hk1 hP
  generalize H1 = H at hP hS ⊢
  try dsimp only at k_2
  refine lv_if_eq (tgt := 18) hx hb dX6_findings_6 (by decide) (fun c_3 => ?_) (fun c_3 => ?_)
  · skip
    have b_4 := b01z k_2 c_3
    refine lv_iconst (v := (-1)) hx hb dX6_findings_18 (by decide) ?_
    exact W.iret (v := (-1)) hx hb hr (fun t ht hW => ⟨⟨(-1), (), rfl, (by first | rfl | trivial | (simp only [Int32.lt_iff_toInt_lt, Int32.le_iff_toInt_le, ← Int32.toInt_inj, Int32.reduceToInt] at b_4 ⊢; (repeat' split) <;> first | rfl | omega) | (simp only [Int32.lt_iff_toInt_lt, Int32.le_iff_toInt_le, ← Int32.toInt_inj, Int32.reduceToInt] at *; omega) | grind), trivial⟩, hS.F ht⟩) hS.2.2 dX6_findings_19
  · skip
    have b_5 := b01n k_2 c_3
    refine lv_aload_n hx hb dX6_findings_9 rfl (lv_at hl 0 rfl) ?_
    refine va_get (D := (dC, dI)) (ci := 7) (v := .ref mfi) (C := RX6) (T := TX6) (N := 31) hx hb hts iw_X6_findings_X6 hown hK hP 0 rfl rfl 1 (by decide) (hts (.fieldLink RX6 7 "TeaRaceModel" "findings" "[I") (by decide +kernel)) (fun _ h9 => h9) rfl dX6_findings_10 ?_
    refine lv_iload_n hx hb dX6_findings_13 rfl (lv_at hl 1 rfl) ?_
    refine va_iald hx hb hK hP 1 0 rfl rfl (vp_in_iff.mpr (by (try simp only [Int32.lt_iff_toInt_lt, Int32.le_iff_toInt_le, ← Int32.toInt_inj, Int32.reduceToInt] at b_5 ⊢); omega)) dX6_findings_14 ?_
    refine lv_topi (fun x_6 ex_6 => ?_)
    obtain rfl : x_6 = 0 := ex_6
    refine lv_goto (tgt := 19) hx hb dX6_findings_15 (by decide) ?_
    exact W.iret (v := 0) hx hb hr (fun t ht hW => ⟨⟨0, (), rfl, (by first | rfl | trivial | (simp only [Int32.lt_iff_toInt_lt, Int32.le_iff_toInt_le, ← Int32.toInt_inj, Int32.reduceToInt] at b_5 ⊢; (repeat' split) <;> first | rfl | omega) | (simp only [Int32.lt_iff_toInt_lt, Int32.le_iff_toInt_le, ← Int32.toInt_inj, Int32.reduceToInt] at *; omega) | grind), trivial⟩, hS.F ht⟩) hS.2.2 dX6_findings_19
set_option maxRecDepth 20000 in
theorem iw_X6_firstShip_X6 : ∀ w ∈ wsX60, w ∈ wsX6_firstShip := by decide +kernel
set_option maxHeartbeats 4000000 in
set_option maxRecDepth 100000 in
/-- the reference's firstShip, fresh -/
theorem c_X6_firstShip (l : Launch) (dC : Nat → ClassId) (dI : Nat → Nat → Nat) (sz : Nat) (m0 : Nat) (mfi : Nat) (mil : Nat) (mic : Nat) (mwi : Nat) (mmo : Nat) (mki : Nat) (mce : Nat) (mgo : Nat) (mwa : Nat) (mha : Nat) (mch : Nat) (mfo : Nat) (mca : Nat) (mor : Nat) (mro : Nat) (mra : Nat) (mpr : Nat) (mho : Nat) (mis : Nat) (mss : Nat) (msc : Nat) (msh : Nat)  : Met l yX6_firstShip wsX6_firstShip ({ frames := 0, cells := 0, slots := 0, locals := 0 }) (va_Pc [.ref m0] (fun U => U.heap.size = sz ∧ va_P (dC, dI) vwCl [(m0, .inr (7, [.int 0, .ref mfi, .long 0, .int 0, .ref mil, .ref mic, .ref mwi, .int 0, .int 0, .ref mmo, .int 0, .ref mki, .ref mce, .ref mgo, .ref mwa, .ref mha, .ref mch, .ref mfo, .ref mca, .ref mor, .ref mro, .ref mra, .ref mpr, .ref mho, .ref mis, .int 0, .ref mss, .ref msc, .ref msh, .int 100, .int 1]))] U.heap ∧ va_K (dC, dI) vwCl [] U ∧ NW U)) (va_Qi (fun (r : Int32) (_ : Unit) => r = (-9)) (fun _ _ => True) (va_A [] sz)) 0 0 (va_A [] sz) := by
  refine Met.ofW (cc := cX6_firstShip) (maxL := 4) (ret := (some .int)) (by decide) rfl ?_
  intro p e s m args below meth c s₁ B hml hv
  obtain ⟨rfl, hsz, hP, hK, hN⟩ := hv
  have hx := B.exec
  have hb := B.bytes
  have hr := B.returns
  have hts := atoms_spec (ws := wsX6_firstShip) B.pre
  have hown : s.vm.findClass RX6 = some m.cls := findClass_of_methodNamed B.named
  have hlocks := B.notSynchronized
  subst hsz
  generalize hAe : va_A [] s.heap.size = A at ⊢
  have hA : ∀ q : Nat, s.heap.size ≤ q → A q := fun q h => by rw [← hAe]; exact Or.inr h
  have hS : va_S A s.heap s.heap [] := va_S.rf
  have hP : va_P (dC, dI) vwCl [(m0, .inr (7, [.int 0, .ref mfi, .long 0, .int 0, .ref mil, .ref mic, .ref mwi, .int 0, .int 0, .ref mmo, .int 0, .ref mki, .ref mce, .ref mgo, .ref mwa, .ref mha, .ref mch, .ref mfo, .ref mca, .ref mor, .ref mro, .ref mra, .ref mpr, .ref mho, .ref mis, .int 0, .ref mss, .ref msc, .ref msh, .int 100, .int 1]))] s.heap := hP
  have hl := lv_entry ([.ref m0]) (n := 4) (Nat.le_of_ble_eq_true rfl)
  rw [lg_entry_eq]
  generalize (lg_sl ([.ref m0]) ++ List.replicate (4 - (lg_sl ([.ref m0])).length) Slot.unset).toArray = ls at hl ⊢
  have hl : lv_has ls 4 [(0, .ref m0)] := hl
  refine lv_bipush (v := (-9)) hx hb dX6_firstShip_0 (by decide) ?_
  refine lv_istore_n (lv' := [(1, .int (-9)), (0, .ref m0)]) hx hb dX6_firstShip_2 rfl hl (by decide) rfl (fun ls hl => ?_)
  refine lv_iconst (v := 0) hx hb dX6_firstShip_3 (by decide) ?_
  refine lv_istore_n (lv' := [(2, .int 0), (1, .int (-9)), (0, .ref m0)]) hx hb dX6_firstShip_4 rfl hl (by decide) rfl (fun ls hl => ?_)
  refine lv_iload_n hx hb dX6_firstShip_5 rfl (lv_at hl 0 rfl) ?_
  refine lv_aload_n hx hb dX6_firstShip_6 rfl (lv_at hl 2 rfl) ?_
  refine va_get (D := (dC, dI)) (ci := 7) (v := .int 0) (C := RX6) (T := TX6) (N := 31) hx hb hts iw_X6_firstShip_X6 hown hK hP 0 rfl rfl 10 (by decide) (hts (.fieldLink RX6 110 "TeaRaceModel" "ships" "I") (by decide +kernel)) (fun _ h9 => h9) rfl dX6_firstShip_7 ?_
  refine lv_icmp_ge (tgt := 79) hx hb dX6_firstShip_10 (by decide) (fun c_1 => ?_) (fun c_1 => ?_)
  · skip
    refine lv_iload_n hx hb dX6_firstShip_79 rfl (lv_at hl 1 rfl) ?_
    exact W.iret (v := (-9)) hx hb hr (fun t ht hW => ⟨⟨(-9), (), rfl, (by first | rfl | trivial | (simp; done)), trivial⟩, hS.F ht⟩) hS.2.2 dX6_firstShip_80
  · skip
    exact absurd (by decide) c_1
set_option maxHeartbeats 4000000 in
set_option maxRecDepth 100000 in
/-- the reference's first, fresh -/
theorem c_X6_first (l : Launch) (dC : Nat → ClassId) (dI : Nat → Nat → Nat) (sz : Nat) (m0 : Nat) (mfi : Nat) (mil : Nat) (mic : Nat) (mwi : Nat) (mmo : Nat) (mki : Nat) (mce : Nat) (mgo : Nat) (mwa : Nat) (mha : Nat) (mch : Nat) (mfo : Nat) (mca : Nat) (mor : Nat) (mro : Nat) (mra : Nat) (mpr : Nat) (mho : Nat) (mis : Nat) (mss : Nat) (msc : Nat) (msh : Nat)  : Met l yX6_first wsX6_first ({ frames := 1, cells := 0, slots := 0, locals := 23 }) (va_Pc [.ref m0] (fun U => U.heap.size = sz ∧ va_P (dC, dI) vwCl [(m0, .inr (7, [.int 0, .ref mfi, .long 0, .int 0, .ref mil, .ref mic, .ref mwi, .int 0, .int 0, .ref mmo, .int 0, .ref mki, .ref mce, .ref mgo, .ref mwa, .ref mha, .ref mch, .ref mfo, .ref mca, .ref mor, .ref mro, .ref mra, .ref mpr, .ref mho, .ref mis, .int 0, .ref mss, .ref msc, .ref msh, .int 100, .int 1]))] U.heap ∧ va_K (dC, dI) vwCl [] U ∧ NW U)) (va_Qi (fun (r : Int32) (_ : Unit) => r = (-9)) (fun _ _ => True) (va_A [] sz)) 0 0 (va_A [] sz) := by
  refine Met.ofW (cc := cX6_first) (maxL := 1) (ret := (some .int)) (by decide) rfl ?_
  intro p e s m args below meth c s₁ B hml hv
  obtain ⟨rfl, hsz, hP, hK, hN⟩ := hv
  have hx := B.exec
  have hb := B.bytes
  have hr := B.returns
  have hts := atoms_spec (ws := wsX6_first) B.pre
  have hown : s.vm.findClass RX6 = some m.cls := findClass_of_methodNamed B.named
  have hlocks := B.notSynchronized
  subst hsz
  generalize hAe : va_A [] s.heap.size = A at ⊢
  have hA : ∀ q : Nat, s.heap.size ≤ q → A q := fun q h => by rw [← hAe]; exact Or.inr h
  have hS : va_S A s.heap s.heap [] := va_S.rf
  have hP : va_P (dC, dI) vwCl [(m0, .inr (7, [.int 0, .ref mfi, .long 0, .int 0, .ref mil, .ref mic, .ref mwi, .int 0, .int 0, .ref mmo, .int 0, .ref mki, .ref mce, .ref mgo, .ref mwa, .ref mha, .ref mch, .ref mfo, .ref mca, .ref mor, .ref mro, .ref mra, .ref mpr, .ref mho, .ref mis, .int 0, .ref mss, .ref msc, .ref msh, .int 100, .int 1]))] s.heap := hP
  have hl := lv_entry ([.ref m0]) (n := 1) (Nat.le_of_ble_eq_true rfl)
  rw [lg_entry_eq]
  generalize (lg_sl ([.ref m0]) ++ List.replicate (1 - (lg_sl ([.ref m0])).length) Slot.unset).toArray = ls at hl ⊢
  have hl : lv_has ls 1 [(0, .ref m0)] := hl
  refine lv_aload_n hx hb dX6_first_0 rfl (lv_at hl 0 rfl) ?_
  have hPc := hP.sub (ws' := [(m0, .inr (7, [.int 0, .ref mfi, .long 0, .int 0, .ref mil, .ref mic, .ref mwi, .int 0, .int 0, .ref mmo, .int 0, .ref mki, .ref mce, .ref mgo, .ref mwa, .ref mha, .ref mch, .ref mfo, .ref mca, .ref mor, .ref mro, .ref mra, .ref mpr, .ref mho, .ref mis, .int 0, .ref mss, .ref msc, .ref msh, .int 100, .int 1]))]) [0] rfl
  have hKc := hK.sub (tys' := []) [] rfl
  refine va_calli (va_runV (As := []) (rest := []) ⟨hx, hb, hml, hown, hts⟩ (c_X6_firstShip l dC dI s.heap.size m0 mfi mil mic mwi mmo mki mce mgo mwa mha mch mfo mca mor mro mra mpr mho mis mss msc msh ) (cwV 0 hts gX6_first_X6_firstShip rfl rfl rfl (by decide +kernel) ⟨Nat.le_of_ble_eq_true rfl, Nat.le_of_ble_eq_true rfl⟩) ⟨fun a U g mk q => by obtain ⟨q0, q1, qP, qK, qN⟩ := q; exact ⟨q0, q1, qP, va_K.moved (u := U) (U := U.calling g mk a) (Vm.Alike.refl U.vm) qK, NW.same (u := U) (U := U.calling g mk a) rfl qN⟩, va_recv hKc hPc (ci := 7) (q0 := 0) rfl rfl, fun U hU hW => ⟨rfl, by rw [hU], by rw [hU]; exact hPc, va_K.moved hW.alike hKc, NW.warm hW hN⟩⟩ rfl rfl hl.1 rfl (lv_room (Nat.le_of_ble_eq_true rfl)) dX6_first_1 ⟨(Nat.zero_le _), (Nat.zero_le _)⟩) hS (fun q _ h => ro_A hS hA q h) (ro_A hS hA) (fun r_1 u t H1 locs ht hvm k_2 hB hz1 hk1 hS => ?_)
  have hP := ro_P hk1 hP
  generalize H1 = H at hP hS ⊢
  try dsimp only at k_2
  obtain rfl : r_1 = (-9) := k_2
  exact W.iret (v := (-9)) hx hb hr (fun t ht hW => ⟨⟨(-9), (), rfl, (by first | rfl | trivial | (simp; done)), trivial⟩, hS.F ht⟩) hS.2.2 dX6_first_4
set_option maxRecDepth 20000 in
theorem iw_X6_atHome_X6 : ∀ w ∈ wsX60, w ∈ wsX6_atHome := by decide +kernel
set_option maxHeartbeats 4000000 in
set_option maxRecDepth 100000 in
/-- the reference's atHome, fresh -/
theorem c_X6_atHome (l : Launch) (dC : Nat → ClassId) (dI : Nat → Nat → Nat) (sz : Nat) (m0 : Nat) (mfi : Nat) (mil : Nat) (mic : Nat) (mwi : Nat) (mmo : Nat) (mki : Nat) (mce : Nat) (mgo : Nat) (mwa : Nat) (mha : Nat) (mch : Nat) (mfo : Nat) (mca : Nat) (mor : Nat) (mro : Nat) (mra : Nat) (mpr : Nat) (mho : Nat) (mis : Nat) (mss : Nat) (msc : Nat) (msh : Nat) (hq0 : Int32)  : Met l yX6_atHome wsX6_atHome ({ frames := 0, cells := 0, slots := 0, locals := 0 }) (va_Pc [.ref m0] (fun U => U.heap.size = sz ∧ va_P (dC, dI) vwCl [(m0, .inr (7, [.int 0, .ref mfi, .long 0, .int hq0, .ref mil, .ref mic, .ref mwi, .int 0, .int 0, .ref mmo, .int 0, .ref mki, .ref mce, .ref mgo, .ref mwa, .ref mha, .ref mch, .ref mfo, .ref mca, .ref mor, .ref mro, .ref mra, .ref mpr, .ref mho, .ref mis, .int 0, .ref mss, .ref msc, .ref msh, .int 100, .int 1]))] U.heap ∧ va_K (dC, dI) vwCl [] U ∧ NW U)) (va_Qi (fun (r : Int32) (_ : Unit) => r = 0) (fun _ _ => True) (va_A [] sz)) 0 0 (va_A [] sz) := by
  refine Met.ofW (cc := cX6_atHome) (maxL := 3) (ret := (some .int)) (by decide) rfl ?_
  intro p e s m args below meth c s₁ B hml hv
  obtain ⟨rfl, hsz, hP, hK, hN⟩ := hv
  have hx := B.exec
  have hb := B.bytes
  have hr := B.returns
  have hts := atoms_spec (ws := wsX6_atHome) B.pre
  have hown : s.vm.findClass RX6 = some m.cls := findClass_of_methodNamed B.named
  have hlocks := B.notSynchronized
  subst hsz
  generalize hAe : va_A [] s.heap.size = A at ⊢
  have hA : ∀ q : Nat, s.heap.size ≤ q → A q := fun q h => by rw [← hAe]; exact Or.inr h
  have hS : va_S A s.heap s.heap [] := va_S.rf
  have hP : va_P (dC, dI) vwCl [(m0, .inr (7, [.int 0, .ref mfi, .long 0, .int hq0, .ref mil, .ref mic, .ref mwi, .int 0, .int 0, .ref mmo, .int 0, .ref mki, .ref mce, .ref mgo, .ref mwa, .ref mha, .ref mch, .ref mfo, .ref mca, .ref mor, .ref mro, .ref mra, .ref mpr, .ref mho, .ref mis, .int 0, .ref mss, .ref msc, .ref msh, .int 100, .int 1]))] s.heap := hP
  have hl := lv_entry ([.ref m0]) (n := 3) (Nat.le_of_ble_eq_true rfl)
  rw [lg_entry_eq]
  generalize (lg_sl ([.ref m0]) ++ List.replicate (3 - (lg_sl ([.ref m0])).length) Slot.unset).toArray = ls at hl ⊢
  have hl : lv_has ls 3 [(0, .ref m0)] := hl
  refine lv_iconst (v := 0) hx hb dX6_atHome_0 (by decide) ?_
  refine lv_istore_n (lv' := [(1, .int 0), (0, .ref m0)]) hx hb dX6_atHome_1 rfl hl (by decide) rfl (fun ls hl => ?_)
  refine lv_iconst (v := 0) hx hb dX6_atHome_2 (by decide) ?_
  refine lv_istore_n (lv' := [(2, .int 0), (1, .int 0), (0, .ref m0)]) hx hb dX6_atHome_3 rfl hl (by decide) rfl (fun ls hl => ?_)
  refine lv_iload_n hx hb dX6_atHome_4 rfl (lv_at hl 0 rfl) ?_
  refine lv_aload_n hx hb dX6_atHome_5 rfl (lv_at hl 2 rfl) ?_
  refine va_get (D := (dC, dI)) (ci := 7) (v := .int 0) (C := RX6) (T := TX6) (N := 31) hx hb hts iw_X6_atHome_X6 hown hK hP 0 rfl rfl 10 (by decide) (hts (.fieldLink RX6 110 "TeaRaceModel" "ships" "I") (by decide +kernel)) (fun _ h9 => h9) rfl dX6_atHome_6 ?_
  refine lv_icmp_ge (tgt := 37) hx hb dX6_atHome_9 (by decide) (fun c_1 => ?_) (fun c_1 => ?_)
  · skip
    refine lv_iload_n hx hb dX6_atHome_37 rfl (lv_at hl 1 rfl) ?_
    exact W.iret (v := 0) hx hb hr (fun t ht hW => ⟨⟨0, (), rfl, (by first | rfl | trivial | (simp; done)), trivial⟩, hS.F ht⟩) hS.2.2 dX6_atHome_38
  · skip
    exact absurd (by decide) c_1
set_option maxRecDepth 20000 in
theorem iw_X6_tellsCount_X6 : ∀ w ∈ wsX60, w ∈ wsX6_tellsCount := by decide +kernel
set_option maxHeartbeats 4000000 in
set_option maxRecDepth 100000 in
/-- the reference's tellsCount, fresh -/
theorem c_X6_tellsCount (l : Launch) (dC : Nat → ClassId) (dI : Nat → Nat → Nat) (sz : Nat) (m0 : Nat) (mfi : Nat) (mil : Nat) (mic : Nat) (mwi : Nat) (mmo : Nat) (mki : Nat) (mce : Nat) (mgo : Nat) (mwa : Nat) (mha : Nat) (mch : Nat) (mfo : Nat) (mca : Nat) (mor : Nat) (mro : Nat) (mra : Nat) (mpr : Nat) (mho : Nat) (mis : Nat) (mss : Nat) (msc : Nat) (msh : Nat) (cZ : ClassId) (a0 : Int32)  : Met l yX6_tellsCount wsX6_tellsCount ({ frames := 1, cells := 0, slots := 0, locals := 22 }) (va_Pc [.ref m0, .int a0] (fun U => U.heap.size = sz ∧ va_P (dC, dI) vwCl [(m0, .inr (7, [.int 0, .ref mfi, .long 0, .int 0, .ref mil, .ref mic, .ref mwi, .int 0, .int 0, .ref mmo, .int 0, .ref mki, .ref mce, .ref mgo, .ref mwa, .ref mha, .ref mch, .ref mfo, .ref mca, .ref mor, .ref mro, .ref mra, .ref mpr, .ref mho, .ref mis, .int 0, .ref mss, .ref msc, .ref msh, .int 100, .int 1])), (mic, .inl (cZ, 12, .inl (fun _ => 0)))] U.heap ∧ va_K (dC, dI) vwCl [(cZ, .boolean)] U ∧ NW U)) (va_Qi (fun (r : Int32) (_ : Unit) => r = 0) (fun _ _ => True) (va_A [] sz)) 0 0 (va_A [] sz) := by
  refine Met.ofW (cc := cX6_tellsCount) (maxL := 4) (ret := (some .int)) (by decide) rfl ?_
  intro p e s m args below meth c s₁ B hml hv
  obtain ⟨rfl, hsz, hP, hK, hN⟩ := hv
  have hx := B.exec
  have hb := B.bytes
  have hr := B.returns
  have hts := atoms_spec (ws := wsX6_tellsCount) B.pre
  have hown : s.vm.findClass RX6 = some m.cls := findClass_of_methodNamed B.named
  have hlocks := B.notSynchronized
  subst hsz
  generalize hAe : va_A [] s.heap.size = A at ⊢
  have hA : ∀ q : Nat, s.heap.size ≤ q → A q := fun q h => by rw [← hAe]; exact Or.inr h
  have hS : va_S A s.heap s.heap [] := va_S.rf
  have hP : va_P (dC, dI) vwCl [(m0, .inr (7, [.int 0, .ref mfi, .long 0, .int 0, .ref mil, .ref mic, .ref mwi, .int 0, .int 0, .ref mmo, .int 0, .ref mki, .ref mce, .ref mgo, .ref mwa, .ref mha, .ref mch, .ref mfo, .ref mca, .ref mor, .ref mro, .ref mra, .ref mpr, .ref mho, .ref mis, .int 0, .ref mss, .ref msc, .ref msh, .int 100, .int 1])), (mic, .inl (cZ, 12, .inl (fun _ => 0)))] s.heap := hP
  have hl := lv_entry ([.ref m0, .int a0]) (n := 4) (Nat.le_of_ble_eq_true rfl)
  rw [lg_entry_eq]
  generalize (lg_sl ([.ref m0, .int a0]) ++ List.replicate (4 - (lg_sl ([.ref m0, .int a0])).length) Slot.unset).toArray = ls at hl ⊢
  have hl : lv_has ls 4 [(0, .ref m0), (1, .int a0)] := hl
  refine lv_iconst (v := 0) hx hb dX6_tellsCount_0 (by decide) ?_
  refine lv_istore_n (lv' := [(2, .int 0), (0, .ref m0), (1, .int a0)]) hx hb dX6_tellsCount_1 rfl hl (by decide) rfl (fun ls hl => ?_)
  refine lv_iconst (v := 0) hx hb dX6_tellsCount_2 (by decide) ?_
  refine lv_istore_n (lv' := [(3, .int 0), (2, .int 0), (0, .ref m0), (1, .int a0)]) hx hb dX6_tellsCount_3 rfl hl (by decide) rfl (fun ls hl => ?_)
  refine lv_iload_n hx hb dX6_tellsCount_4 rfl (lv_at hl 0 rfl) ?_
  refine lv_bipush (v := 12) hx hb dX6_tellsCount_5 (by decide) ?_
  refine lv_icmp_ge (tgt := 33) hx hb dX6_tellsCount_7 (by decide) (fun c_1 => ?_) (fun c_1 => ?_)
  · skip
    exact absurd c_1 (by decide)
  · skip
    refine lv_iload_n hx hb dX6_tellsCount_10 rfl (lv_at hl 1 rfl) ?_
    refine lv_aload_n hx hb dX6_tellsCount_11 rfl (lv_at hl 2 rfl) ?_
    refine va_get (D := (dC, dI)) (ci := 7) (v := .ref mic) (C := RX6) (T := TX6) (N := 31) hx hb hts iw_X6_tellsCount_X6 hown hK hP 0 rfl rfl 5 (by decide) (hts (.fieldLink RX6 17 "TeaRaceModel" "isChart" "[Z") (by decide +kernel)) (fun _ h9 => h9) rfl dX6_tellsCount_12 ?_
    refine lv_iload_n hx hb dX6_tellsCount_15 rfl (lv_at hl 0 rfl) ?_
    refine va_zald hx hb hK hP 1 0 rfl rfl (vp_in_iff.mpr (by decide +kernel)) dX6_tellsCount_16 ?_
    refine lv_topi (fun x_2 ex_2 => ?_)
    obtain rfl : x_2 = 0 := ex_2
    refine lv_if_eq (tgt := 24) hx hb dX6_tellsCount_17 (by decide) (fun c_3 => ?_) (fun c_3 => ?_)
    · skip
      refine lv_iconst (v := 0) hx hb dX6_tellsCount_24 (by decide) ?_
      refine lv_iadd hx hb dX6_tellsCount_25 ?_
      refine lv_topi (fun x_4 ex_4 => ?_)
      obtain rfl : x_4 = 0 := ex_4.trans (by decide +kernel)
      refine lv_istore_n (lv' := [(2, .int 0), (3, .int 0), (0, .ref m0), (1, .int a0)]) hx hb dX6_tellsCount_26 rfl hl (by decide) rfl (fun ls hl => ?_)
      refine lv_iinc (v := 1) (lv' := [(3, .int 1), (2, .int 0), (0, .ref m0), (1, .int a0)]) hx hb dX6_tellsCount_27 hl (k := 1) rfl (by decide +kernel) (by decide) rfl (fun ls hl => ?_)
      refine lv_goto (tgt := 4) hx hb dX6_tellsCount_30 (by decide) ?_
      refine lv_iload_n hx hb dX6_tellsCount_4 rfl (lv_at hl 0 rfl) ?_
      refine lv_bipush (v := 12) hx hb dX6_tellsCount_5 (by decide) ?_
      refine lv_icmp_ge (tgt := 33) hx hb dX6_tellsCount_7 (by decide) (fun c_6 => ?_) (fun c_6 => ?_)
      · skip
        exact absurd c_6 (by decide)
      · skip
        refine lv_iload_n hx hb dX6_tellsCount_10 rfl (lv_at hl 1 rfl) ?_
        refine lv_aload_n hx hb dX6_tellsCount_11 rfl (lv_at hl 2 rfl) ?_
        refine va_get (D := (dC, dI)) (ci := 7) (v := .ref mic) (C := RX6) (T := TX6) (N := 31) hx hb hts iw_X6_tellsCount_X6 hown hK hP 0 rfl rfl 5 (by decide) (hts (.fieldLink RX6 17 "TeaRaceModel" "isChart" "[Z") (by decide +kernel)) (fun _ h9 => h9) rfl dX6_tellsCount_12 ?_
        refine lv_iload_n hx hb dX6_tellsCount_15 rfl (lv_at hl 0 rfl) ?_
        refine va_zald hx hb hK hP 1 0 rfl rfl (vp_in_iff.mpr (by decide +kernel)) dX6_tellsCount_16 ?_
        refine lv_topi (fun x_7 ex_7 => ?_)
        obtain rfl : x_7 = 0 := ex_7
        refine lv_if_eq (tgt := 24) hx hb dX6_tellsCount_17 (by decide) (fun c_8 => ?_) (fun c_8 => ?_)
        · skip
          refine lv_iconst (v := 0) hx hb dX6_tellsCount_24 (by decide) ?_
          refine lv_iadd hx hb dX6_tellsCount_25 ?_
          refine lv_topi (fun x_9 ex_9 => ?_)
          obtain rfl : x_9 = 0 := ex_9.trans (by decide +kernel)
          refine lv_istore_n (lv' := [(2, .int 0), (3, .int 1), (0, .ref m0), (1, .int a0)]) hx hb dX6_tellsCount_26 rfl hl (by decide) rfl (fun ls hl => ?_)
          refine lv_iinc (v := 2) (lv' := [(3, .int 2), (2, .int 0), (0, .ref m0), (1, .int a0)]) hx hb dX6_tellsCount_27 hl (k := 1) rfl (by decide +kernel) (by decide) rfl (fun ls hl => ?_)
          refine lv_goto (tgt := 4) hx hb dX6_tellsCount_30 (by decide) ?_
          refine lv_iload_n hx hb dX6_tellsCount_4 rfl (lv_at hl 0 rfl) ?_
          refine lv_bipush (v := 12) hx hb dX6_tellsCount_5 (by decide) ?_
          refine lv_icmp_ge (tgt := 33) hx hb dX6_tellsCount_7 (by decide) (fun c_11 => ?_) (fun c_11 => ?_)
          · skip
            exact absurd c_11 (by decide)
          · skip
            refine lv_iload_n hx hb dX6_tellsCount_10 rfl (lv_at hl 1 rfl) ?_
            refine lv_aload_n hx hb dX6_tellsCount_11 rfl (lv_at hl 2 rfl) ?_
            refine va_get (D := (dC, dI)) (ci := 7) (v := .ref mic) (C := RX6) (T := TX6) (N := 31) hx hb hts iw_X6_tellsCount_X6 hown hK hP 0 rfl rfl 5 (by decide) (hts (.fieldLink RX6 17 "TeaRaceModel" "isChart" "[Z") (by decide +kernel)) (fun _ h9 => h9) rfl dX6_tellsCount_12 ?_
            refine lv_iload_n hx hb dX6_tellsCount_15 rfl (lv_at hl 0 rfl) ?_
            refine va_zald hx hb hK hP 1 0 rfl rfl (vp_in_iff.mpr (by decide +kernel)) dX6_tellsCount_16 ?_
            refine lv_topi (fun x_12 ex_12 => ?_)
            obtain rfl : x_12 = 0 := ex_12
            refine lv_if_eq (tgt := 24) hx hb dX6_tellsCount_17 (by decide) (fun c_13 => ?_) (fun c_13 => ?_)
            · skip
              refine lv_iconst (v := 0) hx hb dX6_tellsCount_24 (by decide) ?_
              refine lv_iadd hx hb dX6_tellsCount_25 ?_
              refine lv_topi (fun x_14 ex_14 => ?_)
              obtain rfl : x_14 = 0 := ex_14.trans (by decide +kernel)
              refine lv_istore_n (lv' := [(2, .int 0), (3, .int 2), (0, .ref m0), (1, .int a0)]) hx hb dX6_tellsCount_26 rfl hl (by decide) rfl (fun ls hl => ?_)
              refine lv_iinc (v := 3) (lv' := [(3, .int 3), (2, .int 0), (0, .ref m0), (1, .int a0)]) hx hb dX6_tellsCount_27 hl (k := 1) rfl (by decide +kernel) (by decide) rfl (fun ls hl => ?_)
              refine lv_goto (tgt := 4) hx hb dX6_tellsCount_30 (by decide) ?_
              refine lv_iload_n hx hb dX6_tellsCount_4 rfl (lv_at hl 0 rfl) ?_
              refine lv_bipush (v := 12) hx hb dX6_tellsCount_5 (by decide) ?_
              refine lv_icmp_ge (tgt := 33) hx hb dX6_tellsCount_7 (by decide) (fun c_16 => ?_) (fun c_16 => ?_)
              · skip
                exact absurd c_16 (by decide)
              · skip
                refine lv_iload_n hx hb dX6_tellsCount_10 rfl (lv_at hl 1 rfl) ?_
                refine lv_aload_n hx hb dX6_tellsCount_11 rfl (lv_at hl 2 rfl) ?_
                refine va_get (D := (dC, dI)) (ci := 7) (v := .ref mic) (C := RX6) (T := TX6) (N := 31) hx hb hts iw_X6_tellsCount_X6 hown hK hP 0 rfl rfl 5 (by decide) (hts (.fieldLink RX6 17 "TeaRaceModel" "isChart" "[Z") (by decide +kernel)) (fun _ h9 => h9) rfl dX6_tellsCount_12 ?_
                refine lv_iload_n hx hb dX6_tellsCount_15 rfl (lv_at hl 0 rfl) ?_
                refine va_zald hx hb hK hP 1 0 rfl rfl (vp_in_iff.mpr (by decide +kernel)) dX6_tellsCount_16 ?_
                refine lv_topi (fun x_17 ex_17 => ?_)
                obtain rfl : x_17 = 0 := ex_17
                refine lv_if_eq (tgt := 24) hx hb dX6_tellsCount_17 (by decide) (fun c_18 => ?_) (fun c_18 => ?_)
                · skip
                  refine lv_iconst (v := 0) hx hb dX6_tellsCount_24 (by decide) ?_
                  refine lv_iadd hx hb dX6_tellsCount_25 ?_
                  refine lv_topi (fun x_19 ex_19 => ?_)
                  obtain rfl : x_19 = 0 := ex_19.trans (by decide +kernel)
                  refine lv_istore_n (lv' := [(2, .int 0), (3, .int 3), (0, .ref m0), (1, .int a0)]) hx hb dX6_tellsCount_26 rfl hl (by decide) rfl (fun ls hl => ?_)
                  refine lv_iinc (v := 4) (lv' := [(3, .int 4), (2, .int 0), (0, .ref m0), (1, .int a0)]) hx hb dX6_tellsCount_27 hl (k := 1) rfl (by decide +kernel) (by decide) rfl (fun ls hl => ?_)
                  refine lv_goto (tgt := 4) hx hb dX6_tellsCount_30 (by decide) ?_
                  refine lv_iload_n hx hb dX6_tellsCount_4 rfl (lv_at hl 0 rfl) ?_
                  refine lv_bipush (v := 12) hx hb dX6_tellsCount_5 (by decide) ?_
                  refine lv_icmp_ge (tgt := 33) hx hb dX6_tellsCount_7 (by decide) (fun c_21 => ?_) (fun c_21 => ?_)
                  · skip
                    exact absurd c_21 (by decide)
                  · skip
                    refine lv_iload_n hx hb dX6_tellsCount_10 rfl (lv_at hl 1 rfl) ?_
                    refine lv_aload_n hx hb dX6_tellsCount_11 rfl (lv_at hl 2 rfl) ?_
                    refine va_get (D := (dC, dI)) (ci := 7) (v := .ref mic) (C := RX6) (T := TX6) (N := 31) hx hb hts iw_X6_tellsCount_X6 hown hK hP 0 rfl rfl 5 (by decide) (hts (.fieldLink RX6 17 "TeaRaceModel" "isChart" "[Z") (by decide +kernel)) (fun _ h9 => h9) rfl dX6_tellsCount_12 ?_
                    refine lv_iload_n hx hb dX6_tellsCount_15 rfl (lv_at hl 0 rfl) ?_
                    refine va_zald hx hb hK hP 1 0 rfl rfl (vp_in_iff.mpr (by decide +kernel)) dX6_tellsCount_16 ?_
                    refine lv_topi (fun x_22 ex_22 => ?_)
                    obtain rfl : x_22 = 0 := ex_22
                    refine lv_if_eq (tgt := 24) hx hb dX6_tellsCount_17 (by decide) (fun c_23 => ?_) (fun c_23 => ?_)
                    · skip
                      refine lv_iconst (v := 0) hx hb dX6_tellsCount_24 (by decide) ?_
                      refine lv_iadd hx hb dX6_tellsCount_25 ?_
                      refine lv_topi (fun x_24 ex_24 => ?_)
                      obtain rfl : x_24 = 0 := ex_24.trans (by decide +kernel)
                      refine lv_istore_n (lv' := [(2, .int 0), (3, .int 4), (0, .ref m0), (1, .int a0)]) hx hb dX6_tellsCount_26 rfl hl (by decide) rfl (fun ls hl => ?_)
                      refine lv_iinc (v := 5) (lv' := [(3, .int 5), (2, .int 0), (0, .ref m0), (1, .int a0)]) hx hb dX6_tellsCount_27 hl (k := 1) rfl (by decide +kernel) (by decide) rfl (fun ls hl => ?_)
                      refine lv_goto (tgt := 4) hx hb dX6_tellsCount_30 (by decide) ?_
                      refine lv_iload_n hx hb dX6_tellsCount_4 rfl (lv_at hl 0 rfl) ?_
                      refine lv_bipush (v := 12) hx hb dX6_tellsCount_5 (by decide) ?_
                      refine lv_icmp_ge (tgt := 33) hx hb dX6_tellsCount_7 (by decide) (fun c_26 => ?_) (fun c_26 => ?_)
                      · skip
                        exact absurd c_26 (by decide)
                      · skip
                        refine lv_iload_n hx hb dX6_tellsCount_10 rfl (lv_at hl 1 rfl) ?_
                        refine lv_aload_n hx hb dX6_tellsCount_11 rfl (lv_at hl 2 rfl) ?_
                        refine va_get (D := (dC, dI)) (ci := 7) (v := .ref mic) (C := RX6) (T := TX6) (N := 31) hx hb hts iw_X6_tellsCount_X6 hown hK hP 0 rfl rfl 5 (by decide) (hts (.fieldLink RX6 17 "TeaRaceModel" "isChart" "[Z") (by decide +kernel)) (fun _ h9 => h9) rfl dX6_tellsCount_12 ?_
                        refine lv_iload_n hx hb dX6_tellsCount_15 rfl (lv_at hl 0 rfl) ?_
                        refine va_zald hx hb hK hP 1 0 rfl rfl (vp_in_iff.mpr (by decide +kernel)) dX6_tellsCount_16 ?_
                        refine lv_topi (fun x_27 ex_27 => ?_)
                        obtain rfl : x_27 = 0 := ex_27
                        refine lv_if_eq (tgt := 24) hx hb dX6_tellsCount_17 (by decide) (fun c_28 => ?_) (fun c_28 => ?_)
                        · skip
                          refine lv_iconst (v := 0) hx hb dX6_tellsCount_24 (by decide) ?_
                          refine lv_iadd hx hb dX6_tellsCount_25 ?_
                          refine lv_topi (fun x_29 ex_29 => ?_)
                          obtain rfl : x_29 = 0 := ex_29.trans (by decide +kernel)
                          refine lv_istore_n (lv' := [(2, .int 0), (3, .int 5), (0, .ref m0), (1, .int a0)]) hx hb dX6_tellsCount_26 rfl hl (by decide) rfl (fun ls hl => ?_)
                          refine lv_iinc (v := 6) (lv' := [(3, .int 6), (2, .int 0), (0, .ref m0), (1, .int a0)]) hx hb dX6_tellsCount_27 hl (k := 1) rfl (by decide +kernel) (by decide) rfl (fun ls hl => ?_)
                          refine lv_goto (tgt := 4) hx hb dX6_tellsCount_30 (by decide) ?_
                          refine lv_iload_n hx hb dX6_tellsCount_4 rfl (lv_at hl 0 rfl) ?_
                          refine lv_bipush (v := 12) hx hb dX6_tellsCount_5 (by decide) ?_
                          refine lv_icmp_ge (tgt := 33) hx hb dX6_tellsCount_7 (by decide) (fun c_31 => ?_) (fun c_31 => ?_)
                          · skip
                            exact absurd c_31 (by decide)
                          · skip
                            refine lv_iload_n hx hb dX6_tellsCount_10 rfl (lv_at hl 1 rfl) ?_
                            refine lv_aload_n hx hb dX6_tellsCount_11 rfl (lv_at hl 2 rfl) ?_
                            refine va_get (D := (dC, dI)) (ci := 7) (v := .ref mic) (C := RX6) (T := TX6) (N := 31) hx hb hts iw_X6_tellsCount_X6 hown hK hP 0 rfl rfl 5 (by decide) (hts (.fieldLink RX6 17 "TeaRaceModel" "isChart" "[Z") (by decide +kernel)) (fun _ h9 => h9) rfl dX6_tellsCount_12 ?_
                            refine lv_iload_n hx hb dX6_tellsCount_15 rfl (lv_at hl 0 rfl) ?_
                            refine va_zald hx hb hK hP 1 0 rfl rfl (vp_in_iff.mpr (by decide +kernel)) dX6_tellsCount_16 ?_
                            refine lv_topi (fun x_32 ex_32 => ?_)
                            obtain rfl : x_32 = 0 := ex_32
                            refine lv_if_eq (tgt := 24) hx hb dX6_tellsCount_17 (by decide) (fun c_33 => ?_) (fun c_33 => ?_)
                            · skip
                              refine lv_iconst (v := 0) hx hb dX6_tellsCount_24 (by decide) ?_
                              refine lv_iadd hx hb dX6_tellsCount_25 ?_
                              refine lv_topi (fun x_34 ex_34 => ?_)
                              obtain rfl : x_34 = 0 := ex_34.trans (by decide +kernel)
                              refine lv_istore_n (lv' := [(2, .int 0), (3, .int 6), (0, .ref m0), (1, .int a0)]) hx hb dX6_tellsCount_26 rfl hl (by decide) rfl (fun ls hl => ?_)
                              refine lv_iinc (v := 7) (lv' := [(3, .int 7), (2, .int 0), (0, .ref m0), (1, .int a0)]) hx hb dX6_tellsCount_27 hl (k := 1) rfl (by decide +kernel) (by decide) rfl (fun ls hl => ?_)
                              refine lv_goto (tgt := 4) hx hb dX6_tellsCount_30 (by decide) ?_
                              refine lv_iload_n hx hb dX6_tellsCount_4 rfl (lv_at hl 0 rfl) ?_
                              refine lv_bipush (v := 12) hx hb dX6_tellsCount_5 (by decide) ?_
                              refine lv_icmp_ge (tgt := 33) hx hb dX6_tellsCount_7 (by decide) (fun c_36 => ?_) (fun c_36 => ?_)
                              · skip
                                exact absurd c_36 (by decide)
                              · skip
                                refine lv_iload_n hx hb dX6_tellsCount_10 rfl (lv_at hl 1 rfl) ?_
                                refine lv_aload_n hx hb dX6_tellsCount_11 rfl (lv_at hl 2 rfl) ?_
                                refine va_get (D := (dC, dI)) (ci := 7) (v := .ref mic) (C := RX6) (T := TX6) (N := 31) hx hb hts iw_X6_tellsCount_X6 hown hK hP 0 rfl rfl 5 (by decide) (hts (.fieldLink RX6 17 "TeaRaceModel" "isChart" "[Z") (by decide +kernel)) (fun _ h9 => h9) rfl dX6_tellsCount_12 ?_
                                refine lv_iload_n hx hb dX6_tellsCount_15 rfl (lv_at hl 0 rfl) ?_
                                refine va_zald hx hb hK hP 1 0 rfl rfl (vp_in_iff.mpr (by decide +kernel)) dX6_tellsCount_16 ?_
                                refine lv_topi (fun x_37 ex_37 => ?_)
                                obtain rfl : x_37 = 0 := ex_37
                                refine lv_if_eq (tgt := 24) hx hb dX6_tellsCount_17 (by decide) (fun c_38 => ?_) (fun c_38 => ?_)
                                · skip
                                  refine lv_iconst (v := 0) hx hb dX6_tellsCount_24 (by decide) ?_
                                  refine lv_iadd hx hb dX6_tellsCount_25 ?_
                                  refine lv_topi (fun x_39 ex_39 => ?_)
                                  obtain rfl : x_39 = 0 := ex_39.trans (by decide +kernel)
                                  refine lv_istore_n (lv' := [(2, .int 0), (3, .int 7), (0, .ref m0), (1, .int a0)]) hx hb dX6_tellsCount_26 rfl hl (by decide) rfl (fun ls hl => ?_)
                                  refine lv_iinc (v := 8) (lv' := [(3, .int 8), (2, .int 0), (0, .ref m0), (1, .int a0)]) hx hb dX6_tellsCount_27 hl (k := 1) rfl (by decide +kernel) (by decide) rfl (fun ls hl => ?_)
                                  refine lv_goto (tgt := 4) hx hb dX6_tellsCount_30 (by decide) ?_
                                  refine lv_iload_n hx hb dX6_tellsCount_4 rfl (lv_at hl 0 rfl) ?_
                                  refine lv_bipush (v := 12) hx hb dX6_tellsCount_5 (by decide) ?_
                                  refine lv_icmp_ge (tgt := 33) hx hb dX6_tellsCount_7 (by decide) (fun c_41 => ?_) (fun c_41 => ?_)
                                  · skip
                                    exact absurd c_41 (by decide)
                                  · skip
                                    refine lv_iload_n hx hb dX6_tellsCount_10 rfl (lv_at hl 1 rfl) ?_
                                    refine lv_aload_n hx hb dX6_tellsCount_11 rfl (lv_at hl 2 rfl) ?_
                                    refine va_get (D := (dC, dI)) (ci := 7) (v := .ref mic) (C := RX6) (T := TX6) (N := 31) hx hb hts iw_X6_tellsCount_X6 hown hK hP 0 rfl rfl 5 (by decide) (hts (.fieldLink RX6 17 "TeaRaceModel" "isChart" "[Z") (by decide +kernel)) (fun _ h9 => h9) rfl dX6_tellsCount_12 ?_
                                    refine lv_iload_n hx hb dX6_tellsCount_15 rfl (lv_at hl 0 rfl) ?_
                                    refine va_zald hx hb hK hP 1 0 rfl rfl (vp_in_iff.mpr (by decide +kernel)) dX6_tellsCount_16 ?_
                                    refine lv_topi (fun x_42 ex_42 => ?_)
                                    obtain rfl : x_42 = 0 := ex_42
                                    refine lv_if_eq (tgt := 24) hx hb dX6_tellsCount_17 (by decide) (fun c_43 => ?_) (fun c_43 => ?_)
                                    · skip
                                      refine lv_iconst (v := 0) hx hb dX6_tellsCount_24 (by decide) ?_
                                      refine lv_iadd hx hb dX6_tellsCount_25 ?_
                                      refine lv_topi (fun x_44 ex_44 => ?_)
                                      obtain rfl : x_44 = 0 := ex_44.trans (by decide +kernel)
                                      refine lv_istore_n (lv' := [(2, .int 0), (3, .int 8), (0, .ref m0), (1, .int a0)]) hx hb dX6_tellsCount_26 rfl hl (by decide) rfl (fun ls hl => ?_)
                                      refine lv_iinc (v := 9) (lv' := [(3, .int 9), (2, .int 0), (0, .ref m0), (1, .int a0)]) hx hb dX6_tellsCount_27 hl (k := 1) rfl (by decide +kernel) (by decide) rfl (fun ls hl => ?_)
                                      refine lv_goto (tgt := 4) hx hb dX6_tellsCount_30 (by decide) ?_
                                      refine lv_iload_n hx hb dX6_tellsCount_4 rfl (lv_at hl 0 rfl) ?_
                                      refine lv_bipush (v := 12) hx hb dX6_tellsCount_5 (by decide) ?_
                                      refine lv_icmp_ge (tgt := 33) hx hb dX6_tellsCount_7 (by decide) (fun c_46 => ?_) (fun c_46 => ?_)
                                      · skip
                                        exact absurd c_46 (by decide)
                                      · skip
                                        refine lv_iload_n hx hb dX6_tellsCount_10 rfl (lv_at hl 1 rfl) ?_
                                        refine lv_aload_n hx hb dX6_tellsCount_11 rfl (lv_at hl 2 rfl) ?_
                                        refine va_get (D := (dC, dI)) (ci := 7) (v := .ref mic) (C := RX6) (T := TX6) (N := 31) hx hb hts iw_X6_tellsCount_X6 hown hK hP 0 rfl rfl 5 (by decide) (hts (.fieldLink RX6 17 "TeaRaceModel" "isChart" "[Z") (by decide +kernel)) (fun _ h9 => h9) rfl dX6_tellsCount_12 ?_
                                        refine lv_iload_n hx hb dX6_tellsCount_15 rfl (lv_at hl 0 rfl) ?_
                                        refine va_zald hx hb hK hP 1 0 rfl rfl (vp_in_iff.mpr (by decide +kernel)) dX6_tellsCount_16 ?_
                                        refine lv_topi (fun x_47 ex_47 => ?_)
                                        obtain rfl : x_47 = 0 := ex_47
                                        refine lv_if_eq (tgt := 24) hx hb dX6_tellsCount_17 (by decide) (fun c_48 => ?_) (fun c_48 => ?_)
                                        · skip
                                          refine lv_iconst (v := 0) hx hb dX6_tellsCount_24 (by decide) ?_
                                          refine lv_iadd hx hb dX6_tellsCount_25 ?_
                                          refine lv_topi (fun x_49 ex_49 => ?_)
                                          obtain rfl : x_49 = 0 := ex_49.trans (by decide +kernel)
                                          refine lv_istore_n (lv' := [(2, .int 0), (3, .int 9), (0, .ref m0), (1, .int a0)]) hx hb dX6_tellsCount_26 rfl hl (by decide) rfl (fun ls hl => ?_)
                                          refine lv_iinc (v := 10) (lv' := [(3, .int 10), (2, .int 0), (0, .ref m0), (1, .int a0)]) hx hb dX6_tellsCount_27 hl (k := 1) rfl (by decide +kernel) (by decide) rfl (fun ls hl => ?_)
                                          refine lv_goto (tgt := 4) hx hb dX6_tellsCount_30 (by decide) ?_
                                          refine lv_iload_n hx hb dX6_tellsCount_4 rfl (lv_at hl 0 rfl) ?_
                                          refine lv_bipush (v := 12) hx hb dX6_tellsCount_5 (by decide) ?_
                                          refine lv_icmp_ge (tgt := 33) hx hb dX6_tellsCount_7 (by decide) (fun c_51 => ?_) (fun c_51 => ?_)
                                          · skip
                                            exact absurd c_51 (by decide)
                                          · skip
                                            refine lv_iload_n hx hb dX6_tellsCount_10 rfl (lv_at hl 1 rfl) ?_
                                            refine lv_aload_n hx hb dX6_tellsCount_11 rfl (lv_at hl 2 rfl) ?_
                                            refine va_get (D := (dC, dI)) (ci := 7) (v := .ref mic) (C := RX6) (T := TX6) (N := 31) hx hb hts iw_X6_tellsCount_X6 hown hK hP 0 rfl rfl 5 (by decide) (hts (.fieldLink RX6 17 "TeaRaceModel" "isChart" "[Z") (by decide +kernel)) (fun _ h9 => h9) rfl dX6_tellsCount_12 ?_
                                            refine lv_iload_n hx hb dX6_tellsCount_15 rfl (lv_at hl 0 rfl) ?_
                                            refine va_zald hx hb hK hP 1 0 rfl rfl (vp_in_iff.mpr (by decide +kernel)) dX6_tellsCount_16 ?_
                                            refine lv_topi (fun x_52 ex_52 => ?_)
                                            obtain rfl : x_52 = 0 := ex_52
                                            refine lv_if_eq (tgt := 24) hx hb dX6_tellsCount_17 (by decide) (fun c_53 => ?_) (fun c_53 => ?_)
                                            · skip
                                              refine lv_iconst (v := 0) hx hb dX6_tellsCount_24 (by decide) ?_
                                              refine lv_iadd hx hb dX6_tellsCount_25 ?_
                                              refine lv_topi (fun x_54 ex_54 => ?_)
                                              obtain rfl : x_54 = 0 := ex_54.trans (by decide +kernel)
                                              refine lv_istore_n (lv' := [(2, .int 0), (3, .int 10), (0, .ref m0), (1, .int a0)]) hx hb dX6_tellsCount_26 rfl hl (by decide) rfl (fun ls hl => ?_)
                                              refine lv_iinc (v := 11) (lv' := [(3, .int 11), (2, .int 0), (0, .ref m0), (1, .int a0)]) hx hb dX6_tellsCount_27 hl (k := 1) rfl (by decide +kernel) (by decide) rfl (fun ls hl => ?_)
                                              refine lv_goto (tgt := 4) hx hb dX6_tellsCount_30 (by decide) ?_
                                              refine lv_iload_n hx hb dX6_tellsCount_4 rfl (lv_at hl 0 rfl) ?_
                                              refine lv_bipush (v := 12) hx hb dX6_tellsCount_5 (by decide) ?_
                                              refine lv_icmp_ge (tgt := 33) hx hb dX6_tellsCount_7 (by decide) (fun c_56 => ?_) (fun c_56 => ?_)
                                              · skip
                                                exact absurd c_56 (by decide)
                                              · skip
                                                refine lv_iload_n hx hb dX6_tellsCount_10 rfl (lv_at hl 1 rfl) ?_
                                                refine lv_aload_n hx hb dX6_tellsCount_11 rfl (lv_at hl 2 rfl) ?_
                                                refine va_get (D := (dC, dI)) (ci := 7) (v := .ref mic) (C := RX6) (T := TX6) (N := 31) hx hb hts iw_X6_tellsCount_X6 hown hK hP 0 rfl rfl 5 (by decide) (hts (.fieldLink RX6 17 "TeaRaceModel" "isChart" "[Z") (by decide +kernel)) (fun _ h9 => h9) rfl dX6_tellsCount_12 ?_
                                                refine lv_iload_n hx hb dX6_tellsCount_15 rfl (lv_at hl 0 rfl) ?_
                                                refine va_zald hx hb hK hP 1 0 rfl rfl (vp_in_iff.mpr (by decide +kernel)) dX6_tellsCount_16 ?_
                                                refine lv_topi (fun x_57 ex_57 => ?_)
                                                obtain rfl : x_57 = 0 := ex_57
                                                refine lv_if_eq (tgt := 24) hx hb dX6_tellsCount_17 (by decide) (fun c_58 => ?_) (fun c_58 => ?_)
                                                · skip
                                                  refine lv_iconst (v := 0) hx hb dX6_tellsCount_24 (by decide) ?_
                                                  refine lv_iadd hx hb dX6_tellsCount_25 ?_
                                                  refine lv_topi (fun x_59 ex_59 => ?_)
                                                  obtain rfl : x_59 = 0 := ex_59.trans (by decide +kernel)
                                                  refine lv_istore_n (lv' := [(2, .int 0), (3, .int 11), (0, .ref m0), (1, .int a0)]) hx hb dX6_tellsCount_26 rfl hl (by decide) rfl (fun ls hl => ?_)
                                                  refine lv_iinc (v := 12) (lv' := [(3, .int 12), (2, .int 0), (0, .ref m0), (1, .int a0)]) hx hb dX6_tellsCount_27 hl (k := 1) rfl (by decide +kernel) (by decide) rfl (fun ls hl => ?_)
                                                  refine lv_goto (tgt := 4) hx hb dX6_tellsCount_30 (by decide) ?_
                                                  refine lv_iload_n hx hb dX6_tellsCount_4 rfl (lv_at hl 0 rfl) ?_
                                                  refine lv_bipush (v := 12) hx hb dX6_tellsCount_5 (by decide) ?_
                                                  refine lv_icmp_ge (tgt := 33) hx hb dX6_tellsCount_7 (by decide) (fun c_61 => ?_) (fun c_61 => ?_)
                                                  · skip
                                                    refine lv_iload_n hx hb dX6_tellsCount_33 rfl (lv_at hl 3 rfl) ?_
                                                    refine lv_if_ne (tgt := 44) hx hb dX6_tellsCount_34 (by decide) (fun c_62 => ?_) (fun c_62 => ?_)
                                                    · skip
                                                      refine lv_iload_n hx hb dX6_tellsCount_44 rfl (lv_at hl 3 rfl) ?_
                                                      refine lv_iconst (v := 1) hx hb dX6_tellsCount_45 (by decide) ?_
                                                      refine lv_icmp_ne (tgt := 56) hx hb dX6_tellsCount_46 (by decide) (fun c_63 => ?_) (fun c_63 => ?_)
                                                      · skip
                                                        refine lv_iload_n hx hb dX6_tellsCount_56 rfl (lv_at hl 3 rfl) ?_
                                                        refine lv_iconst (v := 2) hx hb dX6_tellsCount_57 (by decide) ?_
                                                        refine lv_icmp_ne (tgt := 65) hx hb dX6_tellsCount_58 (by decide) (fun c_64 => ?_) (fun c_64 => ?_)
                                                        · skip
                                                          refine lv_iload_n hx hb dX6_tellsCount_65 rfl (lv_at hl 3 rfl) ?_
                                                          refine lv_iconst (v := 3) hx hb dX6_tellsCount_66 (by decide) ?_
                                                          refine lv_icmp_ne (tgt := 77) hx hb dX6_tellsCount_67 (by decide) (fun c_65 => ?_) (fun c_65 => ?_)
                                                          · skip
                                                            refine lv_aload_n hx hb dX6_tellsCount_77 rfl (lv_at hl 2 rfl) ?_
                                                            have hPc := hP.sub (ws' := [(m0, .inr (7, [.int 0, .ref mfi, .long 0, .int 0, .ref mil, .ref mic, .ref mwi, .int 0, .int 0, .ref mmo, .int 0, .ref mki, .ref mce, .ref mgo, .ref mwa, .ref mha, .ref mch, .ref mfo, .ref mca, .ref mor, .ref mro, .ref mra, .ref mpr, .ref mho, .ref mis, .int 0, .ref mss, .ref msc, .ref msh, .int 100, .int 1]))]) [0] rfl
                                                            have hKc := hK.sub (tys' := []) [] rfl
                                                            refine va_calli (va_runV (As := []) (rest := []) ⟨hx, hb, hml, hown, hts⟩ (c_X6_atHome l dC dI s.heap.size m0 mfi mil mic mwi mmo mki mce mgo mwa mha mch mfo mca mor mro mra mpr mho mis mss msc msh 0 ) (cwV 0 hts gX6_tellsCount_X6_atHome rfl rfl rfl (by decide +kernel) ⟨Nat.le_of_ble_eq_true rfl, Nat.le_of_ble_eq_true rfl⟩) ⟨fun a U g mk q => by obtain ⟨q0, q1, qP, qK, qN⟩ := q; exact ⟨q0, q1, qP, va_K.moved (u := U) (U := U.calling g mk a) (Vm.Alike.refl U.vm) qK, NW.same (u := U) (U := U.calling g mk a) rfl qN⟩, va_recv hKc hPc (ci := 7) (q0 := 0) rfl rfl, fun U hU hW => ⟨rfl, by rw [hU], by rw [hU]; exact hPc, va_K.moved hW.alike hKc, NW.warm hW hN⟩⟩ rfl rfl hl.1 rfl (lv_room (Nat.le_of_ble_eq_true rfl)) dX6_tellsCount_78 ⟨(Nat.zero_le _), (Nat.zero_le _)⟩) hS (fun q _ h => ro_A hS hA q h) (ro_A hS hA) (fun r_66 u t H1 locs ht hvm k_67 hB hz1 hk1 hS => ?_)
                                                            have hP := ro_P hk1 hP
                                                            generalize H1 = H at hP hS ⊢
                                                            try dsimp only at k_67
                                                            obtain rfl : r_66 = 0 := k_67
                                                            exact W.iret (v := 0) hx hb hr (fun t ht hW => ⟨⟨0, (), rfl, (by first | rfl | trivial | (simp only [Int32.lt_iff_toInt_lt, Int32.le_iff_toInt_le, ← Int32.toInt_inj, Int32.reduceToInt] at c_62 c_63 c_64 c_65 ⊢; (repeat' split) <;> first | rfl | omega) | (simp only [Int32.lt_iff_toInt_lt, Int32.le_iff_toInt_le, ← Int32.toInt_inj, Int32.reduceToInt] at *; omega) | grind), trivial⟩, hS.F ht⟩) hS.2.2 dX6_tellsCount_81
                                                          · skip
                                                            refine lv_aload_n hx hb dX6_tellsCount_70 rfl (lv_at hl 2 rfl) ?_
                                                            refine va_get (D := (dC, dI)) (ci := 7) (v := .int 0) (C := RX6) (T := TX6) (N := 31) hx hb hts iw_X6_tellsCount_X6 hown hK hP 0 rfl rfl 25 (by decide) (hts (.fieldLink RX6 168 "TeaRaceModel" "sights" "I") (by decide +kernel)) (fun _ h9 => h9) rfl dX6_tellsCount_71 ?_
                                                            refine lv_goto (tgt := 81) hx hb dX6_tellsCount_74 (by decide) ?_
                                                            exact W.iret (v := 0) hx hb hr (fun t ht hW => ⟨⟨0, (), rfl, (by first | rfl | trivial | (simp only [Int32.lt_iff_toInt_lt, Int32.le_iff_toInt_le, ← Int32.toInt_inj, Int32.reduceToInt] at c_62 c_63 c_64 c_65 ⊢; (repeat' split) <;> first | rfl | omega) | (simp only [Int32.lt_iff_toInt_lt, Int32.le_iff_toInt_le, ← Int32.toInt_inj, Int32.reduceToInt] at *; omega) | grind), trivial⟩, hS.F ht⟩) hS.2.2 dX6_tellsCount_81
                                                        · skip
                                                          refine lv_iload_n hx hb dX6_tellsCount_61 rfl (lv_at hl 1 rfl) ?_
                                                          refine lv_goto (tgt := 81) hx hb dX6_tellsCount_62 (by decide) ?_
                                                          exact W.iret (v := 0) hx hb hr (fun t ht hW => ⟨⟨0, (), rfl, (by first | rfl | trivial | (simp only [Int32.lt_iff_toInt_lt, Int32.le_iff_toInt_le, ← Int32.toInt_inj, Int32.reduceToInt] at c_62 c_63 c_64 ⊢; (repeat' split) <;> first | rfl | omega) | (simp only [Int32.lt_iff_toInt_lt, Int32.le_iff_toInt_le, ← Int32.toInt_inj, Int32.reduceToInt] at *; omega) | grind), trivial⟩, hS.F ht⟩) hS.2.2 dX6_tellsCount_81
                                                      · skip
                                                        refine lv_aload_n hx hb dX6_tellsCount_49 rfl (lv_at hl 2 rfl) ?_
                                                        refine va_get (D := (dC, dI)) (ci := 7) (v := .int 0) (C := RX6) (T := TX6) (N := 31) hx hb hts iw_X6_tellsCount_X6 hown hK hP 0 rfl rfl 3 (by decide) (hts (.fieldLink RX6 113 "TeaRaceModel" "hour" "I") (by decide +kernel)) (fun _ h9 => h9) rfl dX6_tellsCount_50 ?_
                                                        refine lv_goto (tgt := 81) hx hb dX6_tellsCount_53 (by decide) ?_
                                                        exact W.iret (v := 0) hx hb hr (fun t ht hW => ⟨⟨0, (), rfl, (by first | rfl | trivial | (simp only [Int32.lt_iff_toInt_lt, Int32.le_iff_toInt_le, ← Int32.toInt_inj, Int32.reduceToInt] at c_62 c_63 ⊢; (repeat' split) <;> first | rfl | omega) | (simp only [Int32.lt_iff_toInt_lt, Int32.le_iff_toInt_le, ← Int32.toInt_inj, Int32.reduceToInt] at *; omega) | grind), trivial⟩, hS.F ht⟩) hS.2.2 dX6_tellsCount_81
                                                    · skip
                                                      refine lv_aload_n hx hb dX6_tellsCount_37 rfl (lv_at hl 2 rfl) ?_
                                                      refine va_get (D := (dC, dI)) (ci := 7) (v := .int 0) (C := RX6) (T := TX6) (N := 31) hx hb hts iw_X6_tellsCount_X6 hown hK hP 0 rfl rfl 10 (by decide) (hts (.fieldLink RX6 110 "TeaRaceModel" "ships" "I") (by decide +kernel)) (fun _ h9 => h9) rfl dX6_tellsCount_38 ?_
                                                      refine lv_goto (tgt := 81) hx hb dX6_tellsCount_41 (by decide) ?_
                                                      exact W.iret (v := 0) hx hb hr (fun t ht hW => ⟨⟨0, (), rfl, (by first | rfl | trivial | (simp only [Int32.lt_iff_toInt_lt, Int32.le_iff_toInt_le, ← Int32.toInt_inj, Int32.reduceToInt] at c_62 ⊢; (repeat' split) <;> first | rfl | omega) | (simp only [Int32.lt_iff_toInt_lt, Int32.le_iff_toInt_le, ← Int32.toInt_inj, Int32.reduceToInt] at *; omega) | grind), trivial⟩, hS.F ht⟩) hS.2.2 dX6_tellsCount_81
                                                  · skip
                                                    exact absurd (by decide) c_61
                                                · skip
                                                  exact absurd (by decide) c_58
                                            · skip
                                              exact absurd (by decide) c_53
                                        · skip
                                          exact absurd (by decide) c_48
                                    · skip
                                      exact absurd (by decide) c_43
                                · skip
                                  exact absurd (by decide) c_38
                            · skip
                              exact absurd (by decide) c_33
                        · skip
                          exact absurd (by decide) c_28
                    · skip
                      exact absurd (by decide) c_23
                · skip
                  exact absurd (by decide) c_18
            · skip
              exact absurd (by decide) c_13
        · skip
          exact absurd (by decide) c_8
    · skip
      exact absurd (by decide) c_3
set_option maxHeartbeats 4000000 in
set_option maxRecDepth 100000 in
/-- the reference's count, fresh -/
theorem c_X6_count (l : Launch) (dC : Nat → ClassId) (dI : Nat → Nat → Nat) (sz : Nat) (m0 : Nat) (mfi : Nat) (mil : Nat) (mic : Nat) (mwi : Nat) (mmo : Nat) (mki : Nat) (mce : Nat) (mgo : Nat) (mwa : Nat) (mha : Nat) (mch : Nat) (mfo : Nat) (mca : Nat) (mor : Nat) (mro : Nat) (mra : Nat) (mpr : Nat) (mho : Nat) (mis : Nat) (mss : Nat) (msc : Nat) (msh : Nat) (cZ : ClassId) (a0 : Int32)  : Met l yX6_count wsX6_count ({ frames := 2, cells := 0, slots := 0, locals := 45 }) (va_Pc [.ref m0, .int a0] (fun U => U.heap.size = sz ∧ va_P (dC, dI) vwCl [(m0, .inr (7, [.int 0, .ref mfi, .long 0, .int 0, .ref mil, .ref mic, .ref mwi, .int 0, .int 0, .ref mmo, .int 0, .ref mki, .ref mce, .ref mgo, .ref mwa, .ref mha, .ref mch, .ref mfo, .ref mca, .ref mor, .ref mro, .ref mra, .ref mpr, .ref mho, .ref mis, .int 0, .ref mss, .ref msc, .ref msh, .int 100, .int 1])), (mic, .inl (cZ, 12, .inl (fun _ => 0)))] U.heap ∧ va_K (dC, dI) vwCl [(cZ, .boolean)] U ∧ NW U)) (va_Qi (fun (r : Int32) (_ : Unit) => r = if (a0 < 0 ∨ 4 < a0) then (-1) else 0) (fun _ _ => True) (va_A [] sz)) 0 0 (va_A [] sz) := by
  refine Met.ofW (cc := cX6_count) (maxL := 2) (ret := (some .int)) (by decide) rfl ?_
  intro p e s m args below meth c s₁ B hml hv
  obtain ⟨rfl, hsz, hP, hK, hN⟩ := hv
  have hx := B.exec
  have hb := B.bytes
  have hr := B.returns
  have hts := atoms_spec (ws := wsX6_count) B.pre
  have hown : s.vm.findClass RX6 = some m.cls := findClass_of_methodNamed B.named
  have hlocks := B.notSynchronized
  subst hsz
  generalize hAe : va_A [] s.heap.size = A at ⊢
  have hA : ∀ q : Nat, s.heap.size ≤ q → A q := fun q h => by rw [← hAe]; exact Or.inr h
  have hS : va_S A s.heap s.heap [] := va_S.rf
  have hP : va_P (dC, dI) vwCl [(m0, .inr (7, [.int 0, .ref mfi, .long 0, .int 0, .ref mil, .ref mic, .ref mwi, .int 0, .int 0, .ref mmo, .int 0, .ref mki, .ref mce, .ref mgo, .ref mwa, .ref mha, .ref mch, .ref mfo, .ref mca, .ref mor, .ref mro, .ref mra, .ref mpr, .ref mho, .ref mis, .int 0, .ref mss, .ref msc, .ref msh, .int 100, .int 1])), (mic, .inl (cZ, 12, .inl (fun _ => 0)))] s.heap := hP
  have hl := lv_entry ([.ref m0, .int a0]) (n := 2) (Nat.le_of_ble_eq_true rfl)
  rw [lg_entry_eq]
  generalize (lg_sl ([.ref m0, .int a0]) ++ List.replicate (2 - (lg_sl ([.ref m0, .int a0])).length) Slot.unset).toArray = ls at hl ⊢
  have hl : lv_has ls 2 [(0, .ref m0), (1, .int a0)] := hl
  refine lv_iload_n hx hb dX6_count_0 rfl (lv_at hl 1 rfl) ?_
  refine lv_iconst (v := 0) hx hb dX6_count_1 (by decide) ?_
  refine lv_iconst (v := 4) hx hb dX6_count_2 (by decide) ?_
  refine va_calli (va_runS (As := [.int a0, .int 0, .int 4]) (rest := []) ⟨hx, hb, hml, hown, hts⟩ (c_X6_in l s.heap.size a0 0 4 ) (va_cwS 3 hts gX6_count_X6_in rfl rfl rfl (by decide +kernel) ⟨Nat.le_of_ble_eq_true rfl, Nat.le_of_ble_eq_true rfl⟩) ⟨fun a U g mk q => by obtain ⟨q0, q1⟩ := q; exact ⟨q0, q1⟩, fun U hU hW => ⟨rfl, congrArg Array.size hU⟩⟩ rfl rfl hl.1 rfl (lv_room (Nat.le_of_ble_eq_true rfl)) dX6_count_3 ⟨(Nat.zero_le _), (Nat.zero_le _)⟩) hS (fun q _ h => ro_A hS hA q h) (ro_A hS hA) (fun r_1 u t H1 locs ht hvm k_2 hB hz1 hk1 hS => ?_)
  have hP := ro_P hk1 hP
  generalize H1 = H at hP hS ⊢
  try dsimp only at k_2
  refine lv_if_eq (tgt := 17) hx hb dX6_count_6 (by decide) (fun c_3 => ?_) (fun c_3 => ?_)
  · skip
    have b_4 := b01z k_2 c_3
    refine lv_iconst (v := (-1)) hx hb dX6_count_17 (by decide) ?_
    exact W.iret (v := (-1)) hx hb hr (fun t ht hW => ⟨⟨(-1), (), rfl, (by first | rfl | trivial | (simp only [Int32.lt_iff_toInt_lt, Int32.le_iff_toInt_le, ← Int32.toInt_inj, Int32.reduceToInt] at b_4 ⊢; (repeat' split) <;> first | rfl | omega) | (simp only [Int32.lt_iff_toInt_lt, Int32.le_iff_toInt_le, ← Int32.toInt_inj, Int32.reduceToInt] at *; omega) | grind), trivial⟩, hS.F ht⟩) hS.2.2 dX6_count_18
  · skip
    have b_5 := b01n k_2 c_3
    refine lv_aload_n hx hb dX6_count_9 rfl (lv_at hl 0 rfl) ?_
    refine lv_iload_n hx hb dX6_count_10 rfl (lv_at hl 1 rfl) ?_
    have hPc := hP.sub (ws' := [(m0, .inr (7, [.int 0, .ref mfi, .long 0, .int 0, .ref mil, .ref mic, .ref mwi, .int 0, .int 0, .ref mmo, .int 0, .ref mki, .ref mce, .ref mgo, .ref mwa, .ref mha, .ref mch, .ref mfo, .ref mca, .ref mor, .ref mro, .ref mra, .ref mpr, .ref mho, .ref mis, .int 0, .ref mss, .ref msc, .ref msh, .int 100, .int 1])), (mic, .inl (cZ, 12, .inl (fun _ => 0)))]) [0, 1] rfl
    have hKc := hK.sub (tys' := [(cZ, .boolean)]) [0] rfl
    refine va_calli (va_runV (As := [.int a0]) (rest := []) ⟨hx, hb, hml, hown, hts⟩ (c_X6_tellsCount l dC dI H.size m0 mfi mil mic mwi mmo mki mce mgo mwa mha mch mfo mca mor mro mra mpr mho mis mss msc msh cZ a0 ) (cwV 1 hts gX6_count_X6_tellsCount rfl rfl rfl (by decide +kernel) ⟨Nat.le_of_ble_eq_true rfl, Nat.le_of_ble_eq_true rfl⟩) ⟨fun a U g mk q => by obtain ⟨q0, q1, qP, qK, qN⟩ := q; exact ⟨q0, q1, qP, va_K.moved (u := U) (U := U.calling g mk a) (Vm.Alike.refl U.vm) qK, NW.same (u := U) (U := U.calling g mk a) rfl qN⟩, va_recv hKc hPc (ci := 7) (q0 := 0) rfl rfl, fun U hU hW => ⟨rfl, by rw [hU], by rw [hU]; exact hPc, va_K.moved hW.alike hKc, NW.warm hW hN⟩⟩ rfl rfl hl.1 rfl (lv_room (Nat.le_of_ble_eq_true rfl)) dX6_count_11 ⟨(Nat.zero_le _), (Nat.zero_le _)⟩) hS (fun q _ h => ro_A hS hA q h) (ro_A hS hA) (fun r_6 u t H1 locs ht hvm k_7 hB hz1 hk1 hS => ?_)
    have hP := ro_P hk1 hP
    generalize H1 = H at hP hS ⊢
    try dsimp only at k_7
    obtain rfl : r_6 = 0 := k_7
    refine lv_goto (tgt := 18) hx hb dX6_count_14 (by decide) ?_
    exact W.iret (v := 0) hx hb hr (fun t ht hW => ⟨⟨0, (), rfl, (by first | rfl | trivial | (simp only [Int32.lt_iff_toInt_lt, Int32.le_iff_toInt_le, ← Int32.toInt_inj, Int32.reduceToInt] at b_5 ⊢; (repeat' split) <;> first | rfl | omega) | (simp only [Int32.lt_iff_toInt_lt, Int32.le_iff_toInt_le, ← Int32.toInt_inj, Int32.reduceToInt] at *; omega) | grind), trivial⟩, hS.F ht⟩) hS.2.2 dX6_count_18
set_option maxRecDepth 20000 in
theorem iw_X6_digest_X6 : ∀ w ∈ wsX60, w ∈ wsX6_digest := by decide +kernel
set_option maxHeartbeats 4000000 in
set_option maxRecDepth 100000 in
/-- the reference's digest, fresh -/
theorem c_X6_digest (l : Launch) (dC : Nat → ClassId) (dI : Nat → Nat → Nat) (sz : Nat) (m0 : Nat) (mfi : Nat) (mil : Nat) (mic : Nat) (mwi : Nat) (mmo : Nat) (mki : Nat) (mce : Nat) (mgo : Nat) (mwa : Nat) (mha : Nat) (mch : Nat) (mfo : Nat) (mca : Nat) (mor : Nat) (mro : Nat) (mra : Nat) (mpr : Nat) (mho : Nat) (mis : Nat) (mss : Nat) (msc : Nat) (msh : Nat) (cZ : ClassId)  : Met l yX6_digest wsX6_digest ({ frames := 2, cells := 0, slots := 0, locals := 45 }) (va_Pc [.ref m0] (fun U => U.heap.size = sz ∧ va_P (dC, dI) vwCl [(m0, .inr (7, [.int 0, .ref mfi, .long 0, .int 0, .ref mil, .ref mic, .ref mwi, .int 0, .int 0, .ref mmo, .int 0, .ref mki, .ref mce, .ref mgo, .ref mwa, .ref mha, .ref mch, .ref mfo, .ref mca, .ref mor, .ref mro, .ref mra, .ref mpr, .ref mho, .ref mis, .int 0, .ref mss, .ref msc, .ref msh, .int 100, .int 1])), (mic, .inl (cZ, 12, .inl (fun _ => 0)))] U.heap ∧ va_K (dC, dI) vwCl [(cZ, .boolean)] U ∧ NW U)) (va_Ql (fun (r : Int64) (_ : Unit) => r = (-4510719745602815153)) (fun _ _ => True) (va_A [] sz)) 0 0 (va_A [] sz) := by
  refine Met.ofW (cc := cX6_digest) (maxL := 5) (ret := (some .long)) (by decide) rfl ?_
  intro p e s m args below meth c s₁ B hml hv
  obtain ⟨rfl, hsz, hP, hK, hN⟩ := hv
  have hx := B.exec
  have hb := B.bytes
  have hr := B.returns
  have hts := atoms_spec (ws := wsX6_digest) B.pre
  have hown : s.vm.findClass RX6 = some m.cls := findClass_of_methodNamed B.named
  have hlocks := B.notSynchronized
  subst hsz
  generalize hAe : va_A [] s.heap.size = A at ⊢
  have hA : ∀ q : Nat, s.heap.size ≤ q → A q := fun q h => by rw [← hAe]; exact Or.inr h
  have hS : va_S A s.heap s.heap [] := va_S.rf
  have hP : va_P (dC, dI) vwCl [(m0, .inr (7, [.int 0, .ref mfi, .long 0, .int 0, .ref mil, .ref mic, .ref mwi, .int 0, .int 0, .ref mmo, .int 0, .ref mki, .ref mce, .ref mgo, .ref mwa, .ref mha, .ref mch, .ref mfo, .ref mca, .ref mor, .ref mro, .ref mra, .ref mpr, .ref mho, .ref mis, .int 0, .ref mss, .ref msc, .ref msh, .int 100, .int 1])), (mic, .inl (cZ, 12, .inl (fun _ => 0)))] s.heap := hP
  have hl := lv_entry ([.ref m0]) (n := 5) (Nat.le_of_ble_eq_true rfl)
  rw [lg_entry_eq]
  generalize (lg_sl ([.ref m0]) ++ List.replicate (5 - (lg_sl ([.ref m0])).length) Slot.unset).toArray = ls at hl ⊢
  have hl : lv_has ls 5 [(0, .ref m0)] := hl
  refine lv_ldc2 (v := (17)) hx hb hown (hts (.constantLong RX6 191 (17)) (by decide +kernel)) dX6_digest_0 ?_
  refine lv_lstore_n (lv' := [(1, .long (17)), (0, .ref m0)]) hx hb dX6_digest_3 rfl hl (by decide) rfl (fun ls hl => ?_)
  refine lv_iconst (v := 0) hx hb dX6_digest_4 (by decide) ?_
  refine lv_istore_n (lv' := [(3, .int 0), (1, .long (17)), (0, .ref m0)]) hx hb dX6_digest_5 rfl hl (by decide) rfl (fun ls hl => ?_)
  refine lv_iload_n hx hb dX6_digest_6 rfl (lv_at hl 0 rfl) ?_
  refine lv_iconst (v := 4) hx hb dX6_digest_7 (by decide) ?_
  refine lv_icmp_gt (tgt := 30) hx hb dX6_digest_8 (by decide) (fun c_1 => ?_) (fun c_1 => ?_)
  · skip
    exact absurd c_1 (by decide)
  · skip
    refine lv_ldc2 (v := (31)) hx hb hown (hts (.constantLong RX6 193 (31)) (by decide +kernel)) dX6_digest_11 ?_
    refine lv_lload_n hx hb dX6_digest_14 rfl (lv_at hl 1 rfl) ?_
    refine lv_lmul hx hb dX6_digest_15 ?_
    refine lv_topl (fun w_2 ew_2 => ?_)
    obtain rfl : w_2 = 527 := ew_2.trans (by decide +kernel)
    refine lv_aload_n hx hb dX6_digest_16 rfl (lv_at hl 2 rfl) ?_
    refine lv_iload_n hx hb dX6_digest_17 rfl (lv_at hl 0 rfl) ?_
    have hPc := hP.sub (ws' := [(m0, .inr (7, [.int 0, .ref mfi, .long 0, .int 0, .ref mil, .ref mic, .ref mwi, .int 0, .int 0, .ref mmo, .int 0, .ref mki, .ref mce, .ref mgo, .ref mwa, .ref mha, .ref mch, .ref mfo, .ref mca, .ref mor, .ref mro, .ref mra, .ref mpr, .ref mho, .ref mis, .int 0, .ref mss, .ref msc, .ref msh, .int 100, .int 1])), (mic, .inl (cZ, 12, .inl (fun _ => 0)))]) [0, 1] rfl
    have hKc := hK.sub (tys' := [(cZ, .boolean)]) [0] rfl
    refine va_calli (va_runV (As := [.int 0]) (rest := [.long 527]) ⟨hx, hb, hml, hown, hts⟩ (c_X6_tellsCount l dC dI s.heap.size m0 mfi mil mic mwi mmo mki mce mgo mwa mha mch mfo mca mor mro mra mpr mho mis mss msc msh cZ 0 ) (cwV 1 hts gX6_digest_X6_tellsCount rfl rfl rfl (by decide +kernel) ⟨Nat.le_of_ble_eq_true rfl, Nat.le_of_ble_eq_true rfl⟩) ⟨fun a U g mk q => by obtain ⟨q0, q1, qP, qK, qN⟩ := q; exact ⟨q0, q1, qP, va_K.moved (u := U) (U := U.calling g mk a) (Vm.Alike.refl U.vm) qK, NW.same (u := U) (U := U.calling g mk a) rfl qN⟩, va_recv hKc hPc (ci := 7) (q0 := 0) rfl rfl, fun U hU hW => ⟨rfl, by rw [hU], by rw [hU]; exact hPc, va_K.moved hW.alike hKc, NW.warm hW hN⟩⟩ rfl rfl hl.1 rfl (lv_room (Nat.le_of_ble_eq_true rfl)) dX6_digest_18 ⟨(Nat.zero_le _), (Nat.zero_le _)⟩) hS (fun q _ h => ro_A hS hA q h) (ro_A hS hA) (fun r_3 u t H1 locs ht hvm k_4 hB hz1 hk1 hS => ?_)
    have hP := ro_P hk1 hP
    generalize H1 = H at hP hS ⊢
    try dsimp only at k_4
    obtain rfl : r_3 = 0 := k_4
    refine lv_i2l (v := 0) hx hb dX6_digest_21 (by decide +kernel) ?_
    refine lv_ladd hx hb dX6_digest_22 ?_
    refine lv_topl (fun w_5 ew_5 => ?_)
    obtain rfl : w_5 = 527 := ew_5.trans (by decide +kernel)
    refine lv_lstore_n (lv' := [(1, .long 527), (3, .int 0), (0, .ref m0)]) hx hb dX6_digest_23 rfl hl (by decide) rfl (fun ls hl => ?_)
    refine lv_iinc (v := 1) (lv' := [(3, .int 1), (1, .long 527), (0, .ref m0)]) hx hb dX6_digest_24 hl (k := 1) rfl (by decide +kernel) (by decide) rfl (fun ls hl => ?_)
    refine lv_goto (tgt := 6) hx hb dX6_digest_27 (by decide) ?_
    refine lv_iload_n hx hb dX6_digest_6 rfl (lv_at hl 0 rfl) ?_
    refine lv_iconst (v := 4) hx hb dX6_digest_7 (by decide) ?_
    refine lv_icmp_gt (tgt := 30) hx hb dX6_digest_8 (by decide) (fun c_7 => ?_) (fun c_7 => ?_)
    · skip
      exact absurd c_7 (by decide)
    · skip
      refine lv_ldc2 (v := (31)) hx hb hown (hts (.constantLong RX6 193 (31)) (by decide +kernel)) dX6_digest_11 ?_
      refine lv_lload_n hx hb dX6_digest_14 rfl (lv_at hl 1 rfl) ?_
      refine lv_lmul hx hb dX6_digest_15 ?_
      refine lv_topl (fun w_8 ew_8 => ?_)
      obtain rfl : w_8 = 16337 := ew_8.trans (by decide +kernel)
      refine lv_aload_n hx hb dX6_digest_16 rfl (lv_at hl 2 rfl) ?_
      refine lv_iload_n hx hb dX6_digest_17 rfl (lv_at hl 0 rfl) ?_
      have hPc := hP.sub (ws' := [(m0, .inr (7, [.int 0, .ref mfi, .long 0, .int 0, .ref mil, .ref mic, .ref mwi, .int 0, .int 0, .ref mmo, .int 0, .ref mki, .ref mce, .ref mgo, .ref mwa, .ref mha, .ref mch, .ref mfo, .ref mca, .ref mor, .ref mro, .ref mra, .ref mpr, .ref mho, .ref mis, .int 0, .ref mss, .ref msc, .ref msh, .int 100, .int 1])), (mic, .inl (cZ, 12, .inl (fun _ => 0)))]) [0, 1] rfl
      have hKc := hK.sub (tys' := [(cZ, .boolean)]) [0] rfl
      refine va_calli (va_runV (As := [.int 1]) (rest := [.long 16337]) ⟨hx, hb, hml, hown, hts⟩ (c_X6_tellsCount l dC dI H.size m0 mfi mil mic mwi mmo mki mce mgo mwa mha mch mfo mca mor mro mra mpr mho mis mss msc msh cZ 1 ) (cwV 1 hts gX6_digest_X6_tellsCount rfl rfl rfl (by decide +kernel) ⟨Nat.le_of_ble_eq_true rfl, Nat.le_of_ble_eq_true rfl⟩) ⟨fun a U g mk q => by obtain ⟨q0, q1, qP, qK, qN⟩ := q; exact ⟨q0, q1, qP, va_K.moved (u := U) (U := U.calling g mk a) (Vm.Alike.refl U.vm) qK, NW.same (u := U) (U := U.calling g mk a) rfl qN⟩, va_recv hKc hPc (ci := 7) (q0 := 0) rfl rfl, fun U hU hW => ⟨rfl, by rw [hU], by rw [hU]; exact hPc, va_K.moved hW.alike hKc, NW.warm hW hN⟩⟩ rfl rfl hl.1 rfl (lv_room (Nat.le_of_ble_eq_true rfl)) dX6_digest_18 ⟨(Nat.zero_le _), (Nat.zero_le _)⟩) hS (fun q _ h => ro_A hS hA q h) (ro_A hS hA) (fun r_9 u t H1 locs ht hvm k_10 hB hz1 hk1 hS => ?_)
      have hP := ro_P hk1 hP
      generalize H1 = H at hP hS ⊢
      try dsimp only at k_10
      obtain rfl : r_9 = 0 := k_10
      refine lv_i2l (v := 0) hx hb dX6_digest_21 (by decide +kernel) ?_
      refine lv_ladd hx hb dX6_digest_22 ?_
      refine lv_topl (fun w_11 ew_11 => ?_)
      obtain rfl : w_11 = 16337 := ew_11.trans (by decide +kernel)
      refine lv_lstore_n (lv' := [(1, .long 16337), (3, .int 1), (0, .ref m0)]) hx hb dX6_digest_23 rfl hl (by decide) rfl (fun ls hl => ?_)
      refine lv_iinc (v := 2) (lv' := [(3, .int 2), (1, .long 16337), (0, .ref m0)]) hx hb dX6_digest_24 hl (k := 1) rfl (by decide +kernel) (by decide) rfl (fun ls hl => ?_)
      refine lv_goto (tgt := 6) hx hb dX6_digest_27 (by decide) ?_
      refine lv_iload_n hx hb dX6_digest_6 rfl (lv_at hl 0 rfl) ?_
      refine lv_iconst (v := 4) hx hb dX6_digest_7 (by decide) ?_
      refine lv_icmp_gt (tgt := 30) hx hb dX6_digest_8 (by decide) (fun c_13 => ?_) (fun c_13 => ?_)
      · skip
        exact absurd c_13 (by decide)
      · skip
        refine lv_ldc2 (v := (31)) hx hb hown (hts (.constantLong RX6 193 (31)) (by decide +kernel)) dX6_digest_11 ?_
        refine lv_lload_n hx hb dX6_digest_14 rfl (lv_at hl 1 rfl) ?_
        refine lv_lmul hx hb dX6_digest_15 ?_
        refine lv_topl (fun w_14 ew_14 => ?_)
        obtain rfl : w_14 = 506447 := ew_14.trans (by decide +kernel)
        refine lv_aload_n hx hb dX6_digest_16 rfl (lv_at hl 2 rfl) ?_
        refine lv_iload_n hx hb dX6_digest_17 rfl (lv_at hl 0 rfl) ?_
        have hPc := hP.sub (ws' := [(m0, .inr (7, [.int 0, .ref mfi, .long 0, .int 0, .ref mil, .ref mic, .ref mwi, .int 0, .int 0, .ref mmo, .int 0, .ref mki, .ref mce, .ref mgo, .ref mwa, .ref mha, .ref mch, .ref mfo, .ref mca, .ref mor, .ref mro, .ref mra, .ref mpr, .ref mho, .ref mis, .int 0, .ref mss, .ref msc, .ref msh, .int 100, .int 1])), (mic, .inl (cZ, 12, .inl (fun _ => 0)))]) [0, 1] rfl
        have hKc := hK.sub (tys' := [(cZ, .boolean)]) [0] rfl
        refine va_calli (va_runV (As := [.int 2]) (rest := [.long 506447]) ⟨hx, hb, hml, hown, hts⟩ (c_X6_tellsCount l dC dI H.size m0 mfi mil mic mwi mmo mki mce mgo mwa mha mch mfo mca mor mro mra mpr mho mis mss msc msh cZ 2 ) (cwV 1 hts gX6_digest_X6_tellsCount rfl rfl rfl (by decide +kernel) ⟨Nat.le_of_ble_eq_true rfl, Nat.le_of_ble_eq_true rfl⟩) ⟨fun a U g mk q => by obtain ⟨q0, q1, qP, qK, qN⟩ := q; exact ⟨q0, q1, qP, va_K.moved (u := U) (U := U.calling g mk a) (Vm.Alike.refl U.vm) qK, NW.same (u := U) (U := U.calling g mk a) rfl qN⟩, va_recv hKc hPc (ci := 7) (q0 := 0) rfl rfl, fun U hU hW => ⟨rfl, by rw [hU], by rw [hU]; exact hPc, va_K.moved hW.alike hKc, NW.warm hW hN⟩⟩ rfl rfl hl.1 rfl (lv_room (Nat.le_of_ble_eq_true rfl)) dX6_digest_18 ⟨(Nat.zero_le _), (Nat.zero_le _)⟩) hS (fun q _ h => ro_A hS hA q h) (ro_A hS hA) (fun r_15 u t H1 locs ht hvm k_16 hB hz1 hk1 hS => ?_)
        have hP := ro_P hk1 hP
        generalize H1 = H at hP hS ⊢
        try dsimp only at k_16
        obtain rfl : r_15 = 0 := k_16
        refine lv_i2l (v := 0) hx hb dX6_digest_21 (by decide +kernel) ?_
        refine lv_ladd hx hb dX6_digest_22 ?_
        refine lv_topl (fun w_17 ew_17 => ?_)
        obtain rfl : w_17 = 506447 := ew_17.trans (by decide +kernel)
        refine lv_lstore_n (lv' := [(1, .long 506447), (3, .int 2), (0, .ref m0)]) hx hb dX6_digest_23 rfl hl (by decide) rfl (fun ls hl => ?_)
        refine lv_iinc (v := 3) (lv' := [(3, .int 3), (1, .long 506447), (0, .ref m0)]) hx hb dX6_digest_24 hl (k := 1) rfl (by decide +kernel) (by decide) rfl (fun ls hl => ?_)
        refine lv_goto (tgt := 6) hx hb dX6_digest_27 (by decide) ?_
        refine lv_iload_n hx hb dX6_digest_6 rfl (lv_at hl 0 rfl) ?_
        refine lv_iconst (v := 4) hx hb dX6_digest_7 (by decide) ?_
        refine lv_icmp_gt (tgt := 30) hx hb dX6_digest_8 (by decide) (fun c_19 => ?_) (fun c_19 => ?_)
        · skip
          exact absurd c_19 (by decide)
        · skip
          refine lv_ldc2 (v := (31)) hx hb hown (hts (.constantLong RX6 193 (31)) (by decide +kernel)) dX6_digest_11 ?_
          refine lv_lload_n hx hb dX6_digest_14 rfl (lv_at hl 1 rfl) ?_
          refine lv_lmul hx hb dX6_digest_15 ?_
          refine lv_topl (fun w_20 ew_20 => ?_)
          obtain rfl : w_20 = 15699857 := ew_20.trans (by decide +kernel)
          refine lv_aload_n hx hb dX6_digest_16 rfl (lv_at hl 2 rfl) ?_
          refine lv_iload_n hx hb dX6_digest_17 rfl (lv_at hl 0 rfl) ?_
          have hPc := hP.sub (ws' := [(m0, .inr (7, [.int 0, .ref mfi, .long 0, .int 0, .ref mil, .ref mic, .ref mwi, .int 0, .int 0, .ref mmo, .int 0, .ref mki, .ref mce, .ref mgo, .ref mwa, .ref mha, .ref mch, .ref mfo, .ref mca, .ref mor, .ref mro, .ref mra, .ref mpr, .ref mho, .ref mis, .int 0, .ref mss, .ref msc, .ref msh, .int 100, .int 1])), (mic, .inl (cZ, 12, .inl (fun _ => 0)))]) [0, 1] rfl
          have hKc := hK.sub (tys' := [(cZ, .boolean)]) [0] rfl
          refine va_calli (va_runV (As := [.int 3]) (rest := [.long 15699857]) ⟨hx, hb, hml, hown, hts⟩ (c_X6_tellsCount l dC dI H.size m0 mfi mil mic mwi mmo mki mce mgo mwa mha mch mfo mca mor mro mra mpr mho mis mss msc msh cZ 3 ) (cwV 1 hts gX6_digest_X6_tellsCount rfl rfl rfl (by decide +kernel) ⟨Nat.le_of_ble_eq_true rfl, Nat.le_of_ble_eq_true rfl⟩) ⟨fun a U g mk q => by obtain ⟨q0, q1, qP, qK, qN⟩ := q; exact ⟨q0, q1, qP, va_K.moved (u := U) (U := U.calling g mk a) (Vm.Alike.refl U.vm) qK, NW.same (u := U) (U := U.calling g mk a) rfl qN⟩, va_recv hKc hPc (ci := 7) (q0 := 0) rfl rfl, fun U hU hW => ⟨rfl, by rw [hU], by rw [hU]; exact hPc, va_K.moved hW.alike hKc, NW.warm hW hN⟩⟩ rfl rfl hl.1 rfl (lv_room (Nat.le_of_ble_eq_true rfl)) dX6_digest_18 ⟨(Nat.zero_le _), (Nat.zero_le _)⟩) hS (fun q _ h => ro_A hS hA q h) (ro_A hS hA) (fun r_21 u t H1 locs ht hvm k_22 hB hz1 hk1 hS => ?_)
          have hP := ro_P hk1 hP
          generalize H1 = H at hP hS ⊢
          try dsimp only at k_22
          obtain rfl : r_21 = 0 := k_22
          refine lv_i2l (v := 0) hx hb dX6_digest_21 (by decide +kernel) ?_
          refine lv_ladd hx hb dX6_digest_22 ?_
          refine lv_topl (fun w_23 ew_23 => ?_)
          obtain rfl : w_23 = 15699857 := ew_23.trans (by decide +kernel)
          refine lv_lstore_n (lv' := [(1, .long 15699857), (3, .int 3), (0, .ref m0)]) hx hb dX6_digest_23 rfl hl (by decide) rfl (fun ls hl => ?_)
          refine lv_iinc (v := 4) (lv' := [(3, .int 4), (1, .long 15699857), (0, .ref m0)]) hx hb dX6_digest_24 hl (k := 1) rfl (by decide +kernel) (by decide) rfl (fun ls hl => ?_)
          refine lv_goto (tgt := 6) hx hb dX6_digest_27 (by decide) ?_
          refine lv_iload_n hx hb dX6_digest_6 rfl (lv_at hl 0 rfl) ?_
          refine lv_iconst (v := 4) hx hb dX6_digest_7 (by decide) ?_
          refine lv_icmp_gt (tgt := 30) hx hb dX6_digest_8 (by decide) (fun c_25 => ?_) (fun c_25 => ?_)
          · skip
            exact absurd c_25 (by decide)
          · skip
            refine lv_ldc2 (v := (31)) hx hb hown (hts (.constantLong RX6 193 (31)) (by decide +kernel)) dX6_digest_11 ?_
            refine lv_lload_n hx hb dX6_digest_14 rfl (lv_at hl 1 rfl) ?_
            refine lv_lmul hx hb dX6_digest_15 ?_
            refine lv_topl (fun w_26 ew_26 => ?_)
            obtain rfl : w_26 = 486695567 := ew_26.trans (by decide +kernel)
            refine lv_aload_n hx hb dX6_digest_16 rfl (lv_at hl 2 rfl) ?_
            refine lv_iload_n hx hb dX6_digest_17 rfl (lv_at hl 0 rfl) ?_
            have hPc := hP.sub (ws' := [(m0, .inr (7, [.int 0, .ref mfi, .long 0, .int 0, .ref mil, .ref mic, .ref mwi, .int 0, .int 0, .ref mmo, .int 0, .ref mki, .ref mce, .ref mgo, .ref mwa, .ref mha, .ref mch, .ref mfo, .ref mca, .ref mor, .ref mro, .ref mra, .ref mpr, .ref mho, .ref mis, .int 0, .ref mss, .ref msc, .ref msh, .int 100, .int 1])), (mic, .inl (cZ, 12, .inl (fun _ => 0)))]) [0, 1] rfl
            have hKc := hK.sub (tys' := [(cZ, .boolean)]) [0] rfl
            refine va_calli (va_runV (As := [.int 4]) (rest := [.long 486695567]) ⟨hx, hb, hml, hown, hts⟩ (c_X6_tellsCount l dC dI H.size m0 mfi mil mic mwi mmo mki mce mgo mwa mha mch mfo mca mor mro mra mpr mho mis mss msc msh cZ 4 ) (cwV 1 hts gX6_digest_X6_tellsCount rfl rfl rfl (by decide +kernel) ⟨Nat.le_of_ble_eq_true rfl, Nat.le_of_ble_eq_true rfl⟩) ⟨fun a U g mk q => by obtain ⟨q0, q1, qP, qK, qN⟩ := q; exact ⟨q0, q1, qP, va_K.moved (u := U) (U := U.calling g mk a) (Vm.Alike.refl U.vm) qK, NW.same (u := U) (U := U.calling g mk a) rfl qN⟩, va_recv hKc hPc (ci := 7) (q0 := 0) rfl rfl, fun U hU hW => ⟨rfl, by rw [hU], by rw [hU]; exact hPc, va_K.moved hW.alike hKc, NW.warm hW hN⟩⟩ rfl rfl hl.1 rfl (lv_room (Nat.le_of_ble_eq_true rfl)) dX6_digest_18 ⟨(Nat.zero_le _), (Nat.zero_le _)⟩) hS (fun q _ h => ro_A hS hA q h) (ro_A hS hA) (fun r_27 u t H1 locs ht hvm k_28 hB hz1 hk1 hS => ?_)
            have hP := ro_P hk1 hP
            generalize H1 = H at hP hS ⊢
            try dsimp only at k_28
            obtain rfl : r_27 = 0 := k_28
            refine lv_i2l (v := 0) hx hb dX6_digest_21 (by decide +kernel) ?_
            refine lv_ladd hx hb dX6_digest_22 ?_
            refine lv_topl (fun w_29 ew_29 => ?_)
            obtain rfl : w_29 = 486695567 := ew_29.trans (by decide +kernel)
            refine lv_lstore_n (lv' := [(1, .long 486695567), (3, .int 4), (0, .ref m0)]) hx hb dX6_digest_23 rfl hl (by decide) rfl (fun ls hl => ?_)
            refine lv_iinc (v := 5) (lv' := [(3, .int 5), (1, .long 486695567), (0, .ref m0)]) hx hb dX6_digest_24 hl (k := 1) rfl (by decide +kernel) (by decide) rfl (fun ls hl => ?_)
            refine lv_goto (tgt := 6) hx hb dX6_digest_27 (by decide) ?_
            refine lv_iload_n hx hb dX6_digest_6 rfl (lv_at hl 0 rfl) ?_
            refine lv_iconst (v := 4) hx hb dX6_digest_7 (by decide) ?_
            refine lv_icmp_gt (tgt := 30) hx hb dX6_digest_8 (by decide) (fun c_31 => ?_) (fun c_31 => ?_)
            · skip
              refine lv_iconst (v := 0) hx hb dX6_digest_30 (by decide) ?_
              refine lv_istore_n (lv' := [(3, .int 0), (1, .long 486695567), (0, .ref m0)]) hx hb dX6_digest_31 rfl hl (by decide) rfl (fun ls hl => ?_)
              refine lv_iload_n hx hb dX6_digest_32 rfl (lv_at hl 0 rfl) ?_
              refine lv_aload_n hx hb dX6_digest_33 rfl (lv_at hl 2 rfl) ?_
              refine va_get (D := (dC, dI)) (ci := 7) (v := .int 0) (C := RX6) (T := TX6) (N := 31) hx hb hts iw_X6_digest_X6 hown hK hP 0 rfl rfl 10 (by decide) (hts (.fieldLink RX6 110 "TeaRaceModel" "ships" "I") (by decide +kernel)) (fun _ h9 => h9) rfl dX6_digest_34 ?_
              refine lv_icmp_ge (tgt := 77) hx hb dX6_digest_37 (by decide) (fun c_32 => ?_) (fun c_32 => ?_)
              · skip
                refine lv_iconst (v := 0) hx hb dX6_digest_77 (by decide) ?_
                refine lv_istore_n (lv' := [(3, .int 0), (1, .long 486695567), (0, .ref m0)]) hx hb dX6_digest_78 rfl hl (by decide) rfl (fun ls hl => ?_)
                refine lv_iload_n hx hb dX6_digest_79 rfl (lv_at hl 0 rfl) ?_
                refine lv_bipush (v := 12) hx hb dX6_digest_80 (by decide) ?_
                refine lv_icmp_ge (tgt := 155) hx hb dX6_digest_82 (by decide) (fun c_33 => ?_) (fun c_33 => ?_)
                · skip
                  exact absurd c_33 (by decide)
                · skip
                  refine lv_aload_n hx hb dX6_digest_85 rfl (lv_at hl 2 rfl) ?_
                  refine va_get (D := (dC, dI)) (ci := 7) (v := .ref mic) (C := RX6) (T := TX6) (N := 31) hx hb hts iw_X6_digest_X6 hown hK hP 0 rfl rfl 5 (by decide) (hts (.fieldLink RX6 17 "TeaRaceModel" "isChart" "[Z") (by decide +kernel)) (fun _ h9 => h9) rfl dX6_digest_86 ?_
                  refine lv_iload_n hx hb dX6_digest_89 rfl (lv_at hl 0 rfl) ?_
                  refine va_zald hx hb hK hP 1 0 rfl rfl (vp_in_iff.mpr (by decide +kernel)) dX6_digest_90 ?_
                  refine lv_topi (fun x_34 ex_34 => ?_)
                  obtain rfl : x_34 = 0 := ex_34
                  refine lv_if_ne (tgt := 102) hx hb dX6_digest_91 (by decide) (fun c_35 => ?_) (fun c_35 => ?_)
                  · skip
                    exact absurd (by decide) c_35
                  · skip
                    refine lv_ldc2 (v := (31)) hx hb hown (hts (.constantLong RX6 193 (31)) (by decide +kernel)) dX6_digest_94 ?_
                    refine lv_lload_n hx hb dX6_digest_97 rfl (lv_at hl 1 rfl) ?_
                    refine lv_lmul hx hb dX6_digest_98 ?_
                    refine lv_topl (fun w_36 ew_36 => ?_)
                    obtain rfl : w_36 = 15087562577 := ew_36.trans (by decide +kernel)
                    refine lv_lconst (v := 1) hx hb dX6_digest_99 (by decide) ?_
                    refine lv_lsub hx hb dX6_digest_100 ?_
                    refine lv_topl (fun w_37 ew_37 => ?_)
                    obtain rfl : w_37 = 15087562576 := ew_37.trans (by decide +kernel)
                    refine lv_lstore_n (lv' := [(1, .long 15087562576), (3, .int 0), (0, .ref m0)]) hx hb dX6_digest_101 rfl hl (by decide) rfl (fun ls hl => ?_)
                    refine lv_iconst (v := 0) hx hb dX6_digest_102 (by decide) ?_
                    refine lv_istore (lv' := [(4, .int 0), (1, .long 15087562576), (3, .int 0), (0, .ref m0)]) hx hb dX6_digest_103 hl (by decide) rfl (fun ls hl => ?_)
                    refine lv_iload hx hb dX6_digest_105 (lv_at hl 0 rfl) ?_
                    refine lv_sipush (v := 160) hx hb dX6_digest_107 (by decide) ?_
                    refine lv_icmp_ge (tgt := 149) hx hb dX6_digest_110 (by decide) (fun c_38 => ?_) (fun c_38 => ?_)
                    · skip
                      exact absurd c_38 (by decide)
                    · skip
                      refine lv_aload_n hx hb dX6_digest_113 rfl (lv_at hl 3 rfl) ?_
                      refine va_get (D := (dC, dI)) (ci := 7) (v := .ref mic) (C := RX6) (T := TX6) (N := 31) hx hb hts iw_X6_digest_X6 hown hK hP 0 rfl rfl 5 (by decide) (hts (.fieldLink RX6 17 "TeaRaceModel" "isChart" "[Z") (by decide +kernel)) (fun _ h9 => h9) rfl dX6_digest_114 ?_
                      refine lv_iload_n hx hb dX6_digest_117 rfl (lv_at hl 2 rfl) ?_
                      refine va_zald hx hb hK hP 1 0 rfl rfl (vp_in_iff.mpr (by decide +kernel)) dX6_digest_118 ?_
                      refine lv_topi (fun x_39 ex_39 => ?_)
                      obtain rfl : x_39 = 0 := ex_39
                      refine lv_if_eq (tgt := 149) hx hb dX6_digest_119 (by decide) (fun c_40 => ?_) (fun c_40 => ?_)
                      · skip
                        refine lv_iinc (v := 1) (lv' := [(3, .int 1), (4, .int 0), (1, .long 15087562576), (0, .ref m0)]) hx hb dX6_digest_149 hl (k := 2) rfl (by decide +kernel) (by decide) rfl (fun ls hl => ?_)
                        refine lv_goto (tgt := 79) hx hb dX6_digest_152 (by decide) ?_
                        refine lv_iload_n hx hb dX6_digest_79 rfl (lv_at hl 0 rfl) ?_
                        refine lv_bipush (v := 12) hx hb dX6_digest_80 (by decide) ?_
                        refine lv_icmp_ge (tgt := 155) hx hb dX6_digest_82 (by decide) (fun c_42 => ?_) (fun c_42 => ?_)
                        · skip
                          exact absurd c_42 (by decide)
                        · skip
                          refine lv_aload_n hx hb dX6_digest_85 rfl (lv_at hl 3 rfl) ?_
                          refine va_get (D := (dC, dI)) (ci := 7) (v := .ref mic) (C := RX6) (T := TX6) (N := 31) hx hb hts iw_X6_digest_X6 hown hK hP 0 rfl rfl 5 (by decide) (hts (.fieldLink RX6 17 "TeaRaceModel" "isChart" "[Z") (by decide +kernel)) (fun _ h9 => h9) rfl dX6_digest_86 ?_
                          refine lv_iload_n hx hb dX6_digest_89 rfl (lv_at hl 0 rfl) ?_
                          refine va_zald hx hb hK hP 1 0 rfl rfl (vp_in_iff.mpr (by decide +kernel)) dX6_digest_90 ?_
                          refine lv_topi (fun x_43 ex_43 => ?_)
                          obtain rfl : x_43 = 0 := ex_43
                          refine lv_if_ne (tgt := 102) hx hb dX6_digest_91 (by decide) (fun c_44 => ?_) (fun c_44 => ?_)
                          · skip
                            exact absurd (by decide) c_44
                          · skip
                            refine lv_ldc2 (v := (31)) hx hb hown (hts (.constantLong RX6 193 (31)) (by decide +kernel)) dX6_digest_94 ?_
                            refine lv_lload_n hx hb dX6_digest_97 rfl (lv_at hl 2 rfl) ?_
                            refine lv_lmul hx hb dX6_digest_98 ?_
                            refine lv_topl (fun w_45 ew_45 => ?_)
                            obtain rfl : w_45 = 467714439856 := ew_45.trans (by decide +kernel)
                            refine lv_lconst (v := 1) hx hb dX6_digest_99 (by decide) ?_
                            refine lv_lsub hx hb dX6_digest_100 ?_
                            refine lv_topl (fun w_46 ew_46 => ?_)
                            obtain rfl : w_46 = 467714439855 := ew_46.trans (by decide +kernel)
                            refine lv_lstore_n (lv' := [(1, .long 467714439855), (3, .int 1), (4, .int 0), (0, .ref m0)]) hx hb dX6_digest_101 rfl hl (by decide) rfl (fun ls hl => ?_)
                            refine lv_iconst (v := 0) hx hb dX6_digest_102 (by decide) ?_
                            refine lv_istore (lv' := [(4, .int 0), (1, .long 467714439855), (3, .int 1), (0, .ref m0)]) hx hb dX6_digest_103 hl (by decide) rfl (fun ls hl => ?_)
                            refine lv_iload hx hb dX6_digest_105 (lv_at hl 0 rfl) ?_
                            refine lv_sipush (v := 160) hx hb dX6_digest_107 (by decide) ?_
                            refine lv_icmp_ge (tgt := 149) hx hb dX6_digest_110 (by decide) (fun c_47 => ?_) (fun c_47 => ?_)
                            · skip
                              exact absurd c_47 (by decide)
                            · skip
                              refine lv_aload_n hx hb dX6_digest_113 rfl (lv_at hl 3 rfl) ?_
                              refine va_get (D := (dC, dI)) (ci := 7) (v := .ref mic) (C := RX6) (T := TX6) (N := 31) hx hb hts iw_X6_digest_X6 hown hK hP 0 rfl rfl 5 (by decide) (hts (.fieldLink RX6 17 "TeaRaceModel" "isChart" "[Z") (by decide +kernel)) (fun _ h9 => h9) rfl dX6_digest_114 ?_
                              refine lv_iload_n hx hb dX6_digest_117 rfl (lv_at hl 2 rfl) ?_
                              refine va_zald hx hb hK hP 1 0 rfl rfl (vp_in_iff.mpr (by decide +kernel)) dX6_digest_118 ?_
                              refine lv_topi (fun x_48 ex_48 => ?_)
                              obtain rfl : x_48 = 0 := ex_48
                              refine lv_if_eq (tgt := 149) hx hb dX6_digest_119 (by decide) (fun c_49 => ?_) (fun c_49 => ?_)
                              · skip
                                refine lv_iinc (v := 2) (lv' := [(3, .int 2), (4, .int 0), (1, .long 467714439855), (0, .ref m0)]) hx hb dX6_digest_149 hl (k := 2) rfl (by decide +kernel) (by decide) rfl (fun ls hl => ?_)
                                refine lv_goto (tgt := 79) hx hb dX6_digest_152 (by decide) ?_
                                refine lv_iload_n hx hb dX6_digest_79 rfl (lv_at hl 0 rfl) ?_
                                refine lv_bipush (v := 12) hx hb dX6_digest_80 (by decide) ?_
                                refine lv_icmp_ge (tgt := 155) hx hb dX6_digest_82 (by decide) (fun c_51 => ?_) (fun c_51 => ?_)
                                · skip
                                  exact absurd c_51 (by decide)
                                · skip
                                  refine lv_aload_n hx hb dX6_digest_85 rfl (lv_at hl 3 rfl) ?_
                                  refine va_get (D := (dC, dI)) (ci := 7) (v := .ref mic) (C := RX6) (T := TX6) (N := 31) hx hb hts iw_X6_digest_X6 hown hK hP 0 rfl rfl 5 (by decide) (hts (.fieldLink RX6 17 "TeaRaceModel" "isChart" "[Z") (by decide +kernel)) (fun _ h9 => h9) rfl dX6_digest_86 ?_
                                  refine lv_iload_n hx hb dX6_digest_89 rfl (lv_at hl 0 rfl) ?_
                                  refine va_zald hx hb hK hP 1 0 rfl rfl (vp_in_iff.mpr (by decide +kernel)) dX6_digest_90 ?_
                                  refine lv_topi (fun x_52 ex_52 => ?_)
                                  obtain rfl : x_52 = 0 := ex_52
                                  refine lv_if_ne (tgt := 102) hx hb dX6_digest_91 (by decide) (fun c_53 => ?_) (fun c_53 => ?_)
                                  · skip
                                    exact absurd (by decide) c_53
                                  · skip
                                    refine lv_ldc2 (v := (31)) hx hb hown (hts (.constantLong RX6 193 (31)) (by decide +kernel)) dX6_digest_94 ?_
                                    refine lv_lload_n hx hb dX6_digest_97 rfl (lv_at hl 2 rfl) ?_
                                    refine lv_lmul hx hb dX6_digest_98 ?_
                                    refine lv_topl (fun w_54 ew_54 => ?_)
                                    obtain rfl : w_54 = 14499147635505 := ew_54.trans (by decide +kernel)
                                    refine lv_lconst (v := 1) hx hb dX6_digest_99 (by decide) ?_
                                    refine lv_lsub hx hb dX6_digest_100 ?_
                                    refine lv_topl (fun w_55 ew_55 => ?_)
                                    obtain rfl : w_55 = 14499147635504 := ew_55.trans (by decide +kernel)
                                    refine lv_lstore_n (lv' := [(1, .long 14499147635504), (3, .int 2), (4, .int 0), (0, .ref m0)]) hx hb dX6_digest_101 rfl hl (by decide) rfl (fun ls hl => ?_)
                                    refine lv_iconst (v := 0) hx hb dX6_digest_102 (by decide) ?_
                                    refine lv_istore (lv' := [(4, .int 0), (1, .long 14499147635504), (3, .int 2), (0, .ref m0)]) hx hb dX6_digest_103 hl (by decide) rfl (fun ls hl => ?_)
                                    refine lv_iload hx hb dX6_digest_105 (lv_at hl 0 rfl) ?_
                                    refine lv_sipush (v := 160) hx hb dX6_digest_107 (by decide) ?_
                                    refine lv_icmp_ge (tgt := 149) hx hb dX6_digest_110 (by decide) (fun c_56 => ?_) (fun c_56 => ?_)
                                    · skip
                                      exact absurd c_56 (by decide)
                                    · skip
                                      refine lv_aload_n hx hb dX6_digest_113 rfl (lv_at hl 3 rfl) ?_
                                      refine va_get (D := (dC, dI)) (ci := 7) (v := .ref mic) (C := RX6) (T := TX6) (N := 31) hx hb hts iw_X6_digest_X6 hown hK hP 0 rfl rfl 5 (by decide) (hts (.fieldLink RX6 17 "TeaRaceModel" "isChart" "[Z") (by decide +kernel)) (fun _ h9 => h9) rfl dX6_digest_114 ?_
                                      refine lv_iload_n hx hb dX6_digest_117 rfl (lv_at hl 2 rfl) ?_
                                      refine va_zald hx hb hK hP 1 0 rfl rfl (vp_in_iff.mpr (by decide +kernel)) dX6_digest_118 ?_
                                      refine lv_topi (fun x_57 ex_57 => ?_)
                                      obtain rfl : x_57 = 0 := ex_57
                                      refine lv_if_eq (tgt := 149) hx hb dX6_digest_119 (by decide) (fun c_58 => ?_) (fun c_58 => ?_)
                                      · skip
                                        refine lv_iinc (v := 3) (lv' := [(3, .int 3), (4, .int 0), (1, .long 14499147635504), (0, .ref m0)]) hx hb dX6_digest_149 hl (k := 2) rfl (by decide +kernel) (by decide) rfl (fun ls hl => ?_)
                                        refine lv_goto (tgt := 79) hx hb dX6_digest_152 (by decide) ?_
                                        refine lv_iload_n hx hb dX6_digest_79 rfl (lv_at hl 0 rfl) ?_
                                        refine lv_bipush (v := 12) hx hb dX6_digest_80 (by decide) ?_
                                        refine lv_icmp_ge (tgt := 155) hx hb dX6_digest_82 (by decide) (fun c_60 => ?_) (fun c_60 => ?_)
                                        · skip
                                          exact absurd c_60 (by decide)
                                        · skip
                                          refine lv_aload_n hx hb dX6_digest_85 rfl (lv_at hl 3 rfl) ?_
                                          refine va_get (D := (dC, dI)) (ci := 7) (v := .ref mic) (C := RX6) (T := TX6) (N := 31) hx hb hts iw_X6_digest_X6 hown hK hP 0 rfl rfl 5 (by decide) (hts (.fieldLink RX6 17 "TeaRaceModel" "isChart" "[Z") (by decide +kernel)) (fun _ h9 => h9) rfl dX6_digest_86 ?_
                                          refine lv_iload_n hx hb dX6_digest_89 rfl (lv_at hl 0 rfl) ?_
                                          refine va_zald hx hb hK hP 1 0 rfl rfl (vp_in_iff.mpr (by decide +kernel)) dX6_digest_90 ?_
                                          refine lv_topi (fun x_61 ex_61 => ?_)
                                          obtain rfl : x_61 = 0 := ex_61
                                          refine lv_if_ne (tgt := 102) hx hb dX6_digest_91 (by decide) (fun c_62 => ?_) (fun c_62 => ?_)
                                          · skip
                                            exact absurd (by decide) c_62
                                          · skip
                                            refine lv_ldc2 (v := (31)) hx hb hown (hts (.constantLong RX6 193 (31)) (by decide +kernel)) dX6_digest_94 ?_
                                            refine lv_lload_n hx hb dX6_digest_97 rfl (lv_at hl 2 rfl) ?_
                                            refine lv_lmul hx hb dX6_digest_98 ?_
                                            refine lv_topl (fun w_63 ew_63 => ?_)
                                            obtain rfl : w_63 = 449473576700624 := ew_63.trans (by decide +kernel)
                                            refine lv_lconst (v := 1) hx hb dX6_digest_99 (by decide) ?_
                                            refine lv_lsub hx hb dX6_digest_100 ?_
                                            refine lv_topl (fun w_64 ew_64 => ?_)
                                            obtain rfl : w_64 = 449473576700623 := ew_64.trans (by decide +kernel)
                                            refine lv_lstore_n (lv' := [(1, .long 449473576700623), (3, .int 3), (4, .int 0), (0, .ref m0)]) hx hb dX6_digest_101 rfl hl (by decide) rfl (fun ls hl => ?_)
                                            refine lv_iconst (v := 0) hx hb dX6_digest_102 (by decide) ?_
                                            refine lv_istore (lv' := [(4, .int 0), (1, .long 449473576700623), (3, .int 3), (0, .ref m0)]) hx hb dX6_digest_103 hl (by decide) rfl (fun ls hl => ?_)
                                            refine lv_iload hx hb dX6_digest_105 (lv_at hl 0 rfl) ?_
                                            refine lv_sipush (v := 160) hx hb dX6_digest_107 (by decide) ?_
                                            refine lv_icmp_ge (tgt := 149) hx hb dX6_digest_110 (by decide) (fun c_65 => ?_) (fun c_65 => ?_)
                                            · skip
                                              exact absurd c_65 (by decide)
                                            · skip
                                              refine lv_aload_n hx hb dX6_digest_113 rfl (lv_at hl 3 rfl) ?_
                                              refine va_get (D := (dC, dI)) (ci := 7) (v := .ref mic) (C := RX6) (T := TX6) (N := 31) hx hb hts iw_X6_digest_X6 hown hK hP 0 rfl rfl 5 (by decide) (hts (.fieldLink RX6 17 "TeaRaceModel" "isChart" "[Z") (by decide +kernel)) (fun _ h9 => h9) rfl dX6_digest_114 ?_
                                              refine lv_iload_n hx hb dX6_digest_117 rfl (lv_at hl 2 rfl) ?_
                                              refine va_zald hx hb hK hP 1 0 rfl rfl (vp_in_iff.mpr (by decide +kernel)) dX6_digest_118 ?_
                                              refine lv_topi (fun x_66 ex_66 => ?_)
                                              obtain rfl : x_66 = 0 := ex_66
                                              refine lv_if_eq (tgt := 149) hx hb dX6_digest_119 (by decide) (fun c_67 => ?_) (fun c_67 => ?_)
                                              · skip
                                                refine lv_iinc (v := 4) (lv' := [(3, .int 4), (4, .int 0), (1, .long 449473576700623), (0, .ref m0)]) hx hb dX6_digest_149 hl (k := 2) rfl (by decide +kernel) (by decide) rfl (fun ls hl => ?_)
                                                refine lv_goto (tgt := 79) hx hb dX6_digest_152 (by decide) ?_
                                                refine lv_iload_n hx hb dX6_digest_79 rfl (lv_at hl 0 rfl) ?_
                                                refine lv_bipush (v := 12) hx hb dX6_digest_80 (by decide) ?_
                                                refine lv_icmp_ge (tgt := 155) hx hb dX6_digest_82 (by decide) (fun c_69 => ?_) (fun c_69 => ?_)
                                                · skip
                                                  exact absurd c_69 (by decide)
                                                · skip
                                                  refine lv_aload_n hx hb dX6_digest_85 rfl (lv_at hl 3 rfl) ?_
                                                  refine va_get (D := (dC, dI)) (ci := 7) (v := .ref mic) (C := RX6) (T := TX6) (N := 31) hx hb hts iw_X6_digest_X6 hown hK hP 0 rfl rfl 5 (by decide) (hts (.fieldLink RX6 17 "TeaRaceModel" "isChart" "[Z") (by decide +kernel)) (fun _ h9 => h9) rfl dX6_digest_86 ?_
                                                  refine lv_iload_n hx hb dX6_digest_89 rfl (lv_at hl 0 rfl) ?_
                                                  refine va_zald hx hb hK hP 1 0 rfl rfl (vp_in_iff.mpr (by decide +kernel)) dX6_digest_90 ?_
                                                  refine lv_topi (fun x_70 ex_70 => ?_)
                                                  obtain rfl : x_70 = 0 := ex_70
                                                  refine lv_if_ne (tgt := 102) hx hb dX6_digest_91 (by decide) (fun c_71 => ?_) (fun c_71 => ?_)
                                                  · skip
                                                    exact absurd (by decide) c_71
                                                  · skip
                                                    refine lv_ldc2 (v := (31)) hx hb hown (hts (.constantLong RX6 193 (31)) (by decide +kernel)) dX6_digest_94 ?_
                                                    refine lv_lload_n hx hb dX6_digest_97 rfl (lv_at hl 2 rfl) ?_
                                                    refine lv_lmul hx hb dX6_digest_98 ?_
                                                    refine lv_topl (fun w_72 ew_72 => ?_)
                                                    obtain rfl : w_72 = 13933680877719313 := ew_72.trans (by decide +kernel)
                                                    refine lv_lconst (v := 1) hx hb dX6_digest_99 (by decide) ?_
                                                    refine lv_lsub hx hb dX6_digest_100 ?_
                                                    refine lv_topl (fun w_73 ew_73 => ?_)
                                                    obtain rfl : w_73 = 13933680877719312 := ew_73.trans (by decide +kernel)
                                                    refine lv_lstore_n (lv' := [(1, .long 13933680877719312), (3, .int 4), (4, .int 0), (0, .ref m0)]) hx hb dX6_digest_101 rfl hl (by decide) rfl (fun ls hl => ?_)
                                                    refine lv_iconst (v := 0) hx hb dX6_digest_102 (by decide) ?_
                                                    refine lv_istore (lv' := [(4, .int 0), (1, .long 13933680877719312), (3, .int 4), (0, .ref m0)]) hx hb dX6_digest_103 hl (by decide) rfl (fun ls hl => ?_)
                                                    refine lv_iload hx hb dX6_digest_105 (lv_at hl 0 rfl) ?_
                                                    refine lv_sipush (v := 160) hx hb dX6_digest_107 (by decide) ?_
                                                    refine lv_icmp_ge (tgt := 149) hx hb dX6_digest_110 (by decide) (fun c_74 => ?_) (fun c_74 => ?_)
                                                    · skip
                                                      exact absurd c_74 (by decide)
                                                    · skip
                                                      refine lv_aload_n hx hb dX6_digest_113 rfl (lv_at hl 3 rfl) ?_
                                                      refine va_get (D := (dC, dI)) (ci := 7) (v := .ref mic) (C := RX6) (T := TX6) (N := 31) hx hb hts iw_X6_digest_X6 hown hK hP 0 rfl rfl 5 (by decide) (hts (.fieldLink RX6 17 "TeaRaceModel" "isChart" "[Z") (by decide +kernel)) (fun _ h9 => h9) rfl dX6_digest_114 ?_
                                                      refine lv_iload_n hx hb dX6_digest_117 rfl (lv_at hl 2 rfl) ?_
                                                      refine va_zald hx hb hK hP 1 0 rfl rfl (vp_in_iff.mpr (by decide +kernel)) dX6_digest_118 ?_
                                                      refine lv_topi (fun x_75 ex_75 => ?_)
                                                      obtain rfl : x_75 = 0 := ex_75
                                                      refine lv_if_eq (tgt := 149) hx hb dX6_digest_119 (by decide) (fun c_76 => ?_) (fun c_76 => ?_)
                                                      · skip
                                                        refine lv_iinc (v := 5) (lv' := [(3, .int 5), (4, .int 0), (1, .long 13933680877719312), (0, .ref m0)]) hx hb dX6_digest_149 hl (k := 2) rfl (by decide +kernel) (by decide) rfl (fun ls hl => ?_)
                                                        refine lv_goto (tgt := 79) hx hb dX6_digest_152 (by decide) ?_
                                                        refine lv_iload_n hx hb dX6_digest_79 rfl (lv_at hl 0 rfl) ?_
                                                        refine lv_bipush (v := 12) hx hb dX6_digest_80 (by decide) ?_
                                                        refine lv_icmp_ge (tgt := 155) hx hb dX6_digest_82 (by decide) (fun c_78 => ?_) (fun c_78 => ?_)
                                                        · skip
                                                          exact absurd c_78 (by decide)
                                                        · skip
                                                          refine lv_aload_n hx hb dX6_digest_85 rfl (lv_at hl 3 rfl) ?_
                                                          refine va_get (D := (dC, dI)) (ci := 7) (v := .ref mic) (C := RX6) (T := TX6) (N := 31) hx hb hts iw_X6_digest_X6 hown hK hP 0 rfl rfl 5 (by decide) (hts (.fieldLink RX6 17 "TeaRaceModel" "isChart" "[Z") (by decide +kernel)) (fun _ h9 => h9) rfl dX6_digest_86 ?_
                                                          refine lv_iload_n hx hb dX6_digest_89 rfl (lv_at hl 0 rfl) ?_
                                                          refine va_zald hx hb hK hP 1 0 rfl rfl (vp_in_iff.mpr (by decide +kernel)) dX6_digest_90 ?_
                                                          refine lv_topi (fun x_79 ex_79 => ?_)
                                                          obtain rfl : x_79 = 0 := ex_79
                                                          refine lv_if_ne (tgt := 102) hx hb dX6_digest_91 (by decide) (fun c_80 => ?_) (fun c_80 => ?_)
                                                          · skip
                                                            exact absurd (by decide) c_80
                                                          · skip
                                                            refine lv_ldc2 (v := (31)) hx hb hown (hts (.constantLong RX6 193 (31)) (by decide +kernel)) dX6_digest_94 ?_
                                                            refine lv_lload_n hx hb dX6_digest_97 rfl (lv_at hl 2 rfl) ?_
                                                            refine lv_lmul hx hb dX6_digest_98 ?_
                                                            refine lv_topl (fun w_81 ew_81 => ?_)
                                                            obtain rfl : w_81 = 431944107209298672 := ew_81.trans (by decide +kernel)
                                                            refine lv_lconst (v := 1) hx hb dX6_digest_99 (by decide) ?_
                                                            refine lv_lsub hx hb dX6_digest_100 ?_
                                                            refine lv_topl (fun w_82 ew_82 => ?_)
                                                            obtain rfl : w_82 = 431944107209298671 := ew_82.trans (by decide +kernel)
                                                            refine lv_lstore_n (lv' := [(1, .long 431944107209298671), (3, .int 5), (4, .int 0), (0, .ref m0)]) hx hb dX6_digest_101 rfl hl (by decide) rfl (fun ls hl => ?_)
                                                            refine lv_iconst (v := 0) hx hb dX6_digest_102 (by decide) ?_
                                                            refine lv_istore (lv' := [(4, .int 0), (1, .long 431944107209298671), (3, .int 5), (0, .ref m0)]) hx hb dX6_digest_103 hl (by decide) rfl (fun ls hl => ?_)
                                                            refine lv_iload hx hb dX6_digest_105 (lv_at hl 0 rfl) ?_
                                                            refine lv_sipush (v := 160) hx hb dX6_digest_107 (by decide) ?_
                                                            refine lv_icmp_ge (tgt := 149) hx hb dX6_digest_110 (by decide) (fun c_83 => ?_) (fun c_83 => ?_)
                                                            · skip
                                                              exact absurd c_83 (by decide)
                                                            · skip
                                                              refine lv_aload_n hx hb dX6_digest_113 rfl (lv_at hl 3 rfl) ?_
                                                              refine va_get (D := (dC, dI)) (ci := 7) (v := .ref mic) (C := RX6) (T := TX6) (N := 31) hx hb hts iw_X6_digest_X6 hown hK hP 0 rfl rfl 5 (by decide) (hts (.fieldLink RX6 17 "TeaRaceModel" "isChart" "[Z") (by decide +kernel)) (fun _ h9 => h9) rfl dX6_digest_114 ?_
                                                              refine lv_iload_n hx hb dX6_digest_117 rfl (lv_at hl 2 rfl) ?_
                                                              refine va_zald hx hb hK hP 1 0 rfl rfl (vp_in_iff.mpr (by decide +kernel)) dX6_digest_118 ?_
                                                              refine lv_topi (fun x_84 ex_84 => ?_)
                                                              obtain rfl : x_84 = 0 := ex_84
                                                              refine lv_if_eq (tgt := 149) hx hb dX6_digest_119 (by decide) (fun c_85 => ?_) (fun c_85 => ?_)
                                                              · skip
                                                                refine lv_iinc (v := 6) (lv' := [(3, .int 6), (4, .int 0), (1, .long 431944107209298671), (0, .ref m0)]) hx hb dX6_digest_149 hl (k := 2) rfl (by decide +kernel) (by decide) rfl (fun ls hl => ?_)
                                                                refine lv_goto (tgt := 79) hx hb dX6_digest_152 (by decide) ?_
                                                                refine lv_iload_n hx hb dX6_digest_79 rfl (lv_at hl 0 rfl) ?_
                                                                refine lv_bipush (v := 12) hx hb dX6_digest_80 (by decide) ?_
                                                                refine lv_icmp_ge (tgt := 155) hx hb dX6_digest_82 (by decide) (fun c_87 => ?_) (fun c_87 => ?_)
                                                                · skip
                                                                  exact absurd c_87 (by decide)
                                                                · skip
                                                                  refine lv_aload_n hx hb dX6_digest_85 rfl (lv_at hl 3 rfl) ?_
                                                                  refine va_get (D := (dC, dI)) (ci := 7) (v := .ref mic) (C := RX6) (T := TX6) (N := 31) hx hb hts iw_X6_digest_X6 hown hK hP 0 rfl rfl 5 (by decide) (hts (.fieldLink RX6 17 "TeaRaceModel" "isChart" "[Z") (by decide +kernel)) (fun _ h9 => h9) rfl dX6_digest_86 ?_
                                                                  refine lv_iload_n hx hb dX6_digest_89 rfl (lv_at hl 0 rfl) ?_
                                                                  refine va_zald hx hb hK hP 1 0 rfl rfl (vp_in_iff.mpr (by decide +kernel)) dX6_digest_90 ?_
                                                                  refine lv_topi (fun x_88 ex_88 => ?_)
                                                                  obtain rfl : x_88 = 0 := ex_88
                                                                  refine lv_if_ne (tgt := 102) hx hb dX6_digest_91 (by decide) (fun c_89 => ?_) (fun c_89 => ?_)
                                                                  · skip
                                                                    exact absurd (by decide) c_89
                                                                  · skip
                                                                    refine lv_ldc2 (v := (31)) hx hb hown (hts (.constantLong RX6 193 (31)) (by decide +kernel)) dX6_digest_94 ?_
                                                                    refine lv_lload_n hx hb dX6_digest_97 rfl (lv_at hl 2 rfl) ?_
                                                                    refine lv_lmul hx hb dX6_digest_98 ?_
                                                                    refine lv_topl (fun w_90 ew_90 => ?_)
                                                                    obtain rfl : w_90 = (-5056476750221292815) := ew_90.trans (by decide +kernel)
                                                                    refine lv_lconst (v := 1) hx hb dX6_digest_99 (by decide) ?_
                                                                    refine lv_lsub hx hb dX6_digest_100 ?_
                                                                    refine lv_topl (fun w_91 ew_91 => ?_)
                                                                    obtain rfl : w_91 = (-5056476750221292816) := ew_91.trans (by decide +kernel)
                                                                    refine lv_lstore_n (lv' := [(1, .long (-5056476750221292816)), (3, .int 6), (4, .int 0), (0, .ref m0)]) hx hb dX6_digest_101 rfl hl (by decide) rfl (fun ls hl => ?_)
                                                                    refine lv_iconst (v := 0) hx hb dX6_digest_102 (by decide) ?_
                                                                    refine lv_istore (lv' := [(4, .int 0), (1, .long (-5056476750221292816)), (3, .int 6), (0, .ref m0)]) hx hb dX6_digest_103 hl (by decide) rfl (fun ls hl => ?_)
                                                                    refine lv_iload hx hb dX6_digest_105 (lv_at hl 0 rfl) ?_
                                                                    refine lv_sipush (v := 160) hx hb dX6_digest_107 (by decide) ?_
                                                                    refine lv_icmp_ge (tgt := 149) hx hb dX6_digest_110 (by decide) (fun c_92 => ?_) (fun c_92 => ?_)
                                                                    · skip
                                                                      exact absurd c_92 (by decide)
                                                                    · skip
                                                                      refine lv_aload_n hx hb dX6_digest_113 rfl (lv_at hl 3 rfl) ?_
                                                                      refine va_get (D := (dC, dI)) (ci := 7) (v := .ref mic) (C := RX6) (T := TX6) (N := 31) hx hb hts iw_X6_digest_X6 hown hK hP 0 rfl rfl 5 (by decide) (hts (.fieldLink RX6 17 "TeaRaceModel" "isChart" "[Z") (by decide +kernel)) (fun _ h9 => h9) rfl dX6_digest_114 ?_
                                                                      refine lv_iload_n hx hb dX6_digest_117 rfl (lv_at hl 2 rfl) ?_
                                                                      refine va_zald hx hb hK hP 1 0 rfl rfl (vp_in_iff.mpr (by decide +kernel)) dX6_digest_118 ?_
                                                                      refine lv_topi (fun x_93 ex_93 => ?_)
                                                                      obtain rfl : x_93 = 0 := ex_93
                                                                      refine lv_if_eq (tgt := 149) hx hb dX6_digest_119 (by decide) (fun c_94 => ?_) (fun c_94 => ?_)
                                                                      · skip
                                                                        refine lv_iinc (v := 7) (lv' := [(3, .int 7), (4, .int 0), (1, .long (-5056476750221292816)), (0, .ref m0)]) hx hb dX6_digest_149 hl (k := 2) rfl (by decide +kernel) (by decide) rfl (fun ls hl => ?_)
                                                                        refine lv_goto (tgt := 79) hx hb dX6_digest_152 (by decide) ?_
                                                                        refine lv_iload_n hx hb dX6_digest_79 rfl (lv_at hl 0 rfl) ?_
                                                                        refine lv_bipush (v := 12) hx hb dX6_digest_80 (by decide) ?_
                                                                        refine lv_icmp_ge (tgt := 155) hx hb dX6_digest_82 (by decide) (fun c_96 => ?_) (fun c_96 => ?_)
                                                                        · skip
                                                                          exact absurd c_96 (by decide)
                                                                        · skip
                                                                          refine lv_aload_n hx hb dX6_digest_85 rfl (lv_at hl 3 rfl) ?_
                                                                          refine va_get (D := (dC, dI)) (ci := 7) (v := .ref mic) (C := RX6) (T := TX6) (N := 31) hx hb hts iw_X6_digest_X6 hown hK hP 0 rfl rfl 5 (by decide) (hts (.fieldLink RX6 17 "TeaRaceModel" "isChart" "[Z") (by decide +kernel)) (fun _ h9 => h9) rfl dX6_digest_86 ?_
                                                                          refine lv_iload_n hx hb dX6_digest_89 rfl (lv_at hl 0 rfl) ?_
                                                                          refine va_zald hx hb hK hP 1 0 rfl rfl (vp_in_iff.mpr (by decide +kernel)) dX6_digest_90 ?_
                                                                          refine lv_topi (fun x_97 ex_97 => ?_)
                                                                          obtain rfl : x_97 = 0 := ex_97
                                                                          refine lv_if_ne (tgt := 102) hx hb dX6_digest_91 (by decide) (fun c_98 => ?_) (fun c_98 => ?_)
                                                                          · skip
                                                                            exact absurd (by decide) c_98
                                                                          · skip
                                                                            refine lv_ldc2 (v := (31)) hx hb hown (hts (.constantLong RX6 193 (31)) (by decide +kernel)) dX6_digest_94 ?_
                                                                            refine lv_lload_n hx hb dX6_digest_97 rfl (lv_at hl 2 rfl) ?_
                                                                            refine lv_lmul hx hb dX6_digest_98 ?_
                                                                            refine lv_topl (fun w_99 ew_99 => ?_)
                                                                            obtain rfl : w_99 = (-9176826667183664368) := ew_99.trans (by decide +kernel)
                                                                            refine lv_lconst (v := 1) hx hb dX6_digest_99 (by decide) ?_
                                                                            refine lv_lsub hx hb dX6_digest_100 ?_
                                                                            refine lv_topl (fun w_100 ew_100 => ?_)
                                                                            obtain rfl : w_100 = (-9176826667183664369) := ew_100.trans (by decide +kernel)
                                                                            refine lv_lstore_n (lv' := [(1, .long (-9176826667183664369)), (3, .int 7), (4, .int 0), (0, .ref m0)]) hx hb dX6_digest_101 rfl hl (by decide) rfl (fun ls hl => ?_)
                                                                            refine lv_iconst (v := 0) hx hb dX6_digest_102 (by decide) ?_
                                                                            refine lv_istore (lv' := [(4, .int 0), (1, .long (-9176826667183664369)), (3, .int 7), (0, .ref m0)]) hx hb dX6_digest_103 hl (by decide) rfl (fun ls hl => ?_)
                                                                            refine lv_iload hx hb dX6_digest_105 (lv_at hl 0 rfl) ?_
                                                                            refine lv_sipush (v := 160) hx hb dX6_digest_107 (by decide) ?_
                                                                            refine lv_icmp_ge (tgt := 149) hx hb dX6_digest_110 (by decide) (fun c_101 => ?_) (fun c_101 => ?_)
                                                                            · skip
                                                                              exact absurd c_101 (by decide)
                                                                            · skip
                                                                              refine lv_aload_n hx hb dX6_digest_113 rfl (lv_at hl 3 rfl) ?_
                                                                              refine va_get (D := (dC, dI)) (ci := 7) (v := .ref mic) (C := RX6) (T := TX6) (N := 31) hx hb hts iw_X6_digest_X6 hown hK hP 0 rfl rfl 5 (by decide) (hts (.fieldLink RX6 17 "TeaRaceModel" "isChart" "[Z") (by decide +kernel)) (fun _ h9 => h9) rfl dX6_digest_114 ?_
                                                                              refine lv_iload_n hx hb dX6_digest_117 rfl (lv_at hl 2 rfl) ?_
                                                                              refine va_zald hx hb hK hP 1 0 rfl rfl (vp_in_iff.mpr (by decide +kernel)) dX6_digest_118 ?_
                                                                              refine lv_topi (fun x_102 ex_102 => ?_)
                                                                              obtain rfl : x_102 = 0 := ex_102
                                                                              refine lv_if_eq (tgt := 149) hx hb dX6_digest_119 (by decide) (fun c_103 => ?_) (fun c_103 => ?_)
                                                                              · skip
                                                                                refine lv_iinc (v := 8) (lv' := [(3, .int 8), (4, .int 0), (1, .long (-9176826667183664369)), (0, .ref m0)]) hx hb dX6_digest_149 hl (k := 2) rfl (by decide +kernel) (by decide) rfl (fun ls hl => ?_)
                                                                                refine lv_goto (tgt := 79) hx hb dX6_digest_152 (by decide) ?_
                                                                                refine lv_iload_n hx hb dX6_digest_79 rfl (lv_at hl 0 rfl) ?_
                                                                                refine lv_bipush (v := 12) hx hb dX6_digest_80 (by decide) ?_
                                                                                refine lv_icmp_ge (tgt := 155) hx hb dX6_digest_82 (by decide) (fun c_105 => ?_) (fun c_105 => ?_)
                                                                                · skip
                                                                                  exact absurd c_105 (by decide)
                                                                                · skip
                                                                                  refine lv_aload_n hx hb dX6_digest_85 rfl (lv_at hl 3 rfl) ?_
                                                                                  refine va_get (D := (dC, dI)) (ci := 7) (v := .ref mic) (C := RX6) (T := TX6) (N := 31) hx hb hts iw_X6_digest_X6 hown hK hP 0 rfl rfl 5 (by decide) (hts (.fieldLink RX6 17 "TeaRaceModel" "isChart" "[Z") (by decide +kernel)) (fun _ h9 => h9) rfl dX6_digest_86 ?_
                                                                                  refine lv_iload_n hx hb dX6_digest_89 rfl (lv_at hl 0 rfl) ?_
                                                                                  refine va_zald hx hb hK hP 1 0 rfl rfl (vp_in_iff.mpr (by decide +kernel)) dX6_digest_90 ?_
                                                                                  refine lv_topi (fun x_106 ex_106 => ?_)
                                                                                  obtain rfl : x_106 = 0 := ex_106
                                                                                  refine lv_if_ne (tgt := 102) hx hb dX6_digest_91 (by decide) (fun c_107 => ?_) (fun c_107 => ?_)
                                                                                  · skip
                                                                                    exact absurd (by decide) c_107
                                                                                  · skip
                                                                                    refine lv_ldc2 (v := (31)) hx hb hown (hts (.constantLong RX6 193 (31)) (by decide +kernel)) dX6_digest_94 ?_
                                                                                    refine lv_lload_n hx hb dX6_digest_97 rfl (lv_at hl 2 rfl) ?_
                                                                                    refine lv_lmul hx hb dX6_digest_98 ?_
                                                                                    refine lv_topl (fun w_108 ew_108 => ?_)
                                                                                    obtain rfl : w_108 = (-7780465577050321199) := ew_108.trans (by decide +kernel)
                                                                                    refine lv_lconst (v := 1) hx hb dX6_digest_99 (by decide) ?_
                                                                                    refine lv_lsub hx hb dX6_digest_100 ?_
                                                                                    refine lv_topl (fun w_109 ew_109 => ?_)
                                                                                    obtain rfl : w_109 = (-7780465577050321200) := ew_109.trans (by decide +kernel)
                                                                                    refine lv_lstore_n (lv' := [(1, .long (-7780465577050321200)), (3, .int 8), (4, .int 0), (0, .ref m0)]) hx hb dX6_digest_101 rfl hl (by decide) rfl (fun ls hl => ?_)
                                                                                    refine lv_iconst (v := 0) hx hb dX6_digest_102 (by decide) ?_
                                                                                    refine lv_istore (lv' := [(4, .int 0), (1, .long (-7780465577050321200)), (3, .int 8), (0, .ref m0)]) hx hb dX6_digest_103 hl (by decide) rfl (fun ls hl => ?_)
                                                                                    refine lv_iload hx hb dX6_digest_105 (lv_at hl 0 rfl) ?_
                                                                                    refine lv_sipush (v := 160) hx hb dX6_digest_107 (by decide) ?_
                                                                                    refine lv_icmp_ge (tgt := 149) hx hb dX6_digest_110 (by decide) (fun c_110 => ?_) (fun c_110 => ?_)
                                                                                    · skip
                                                                                      exact absurd c_110 (by decide)
                                                                                    · skip
                                                                                      refine lv_aload_n hx hb dX6_digest_113 rfl (lv_at hl 3 rfl) ?_
                                                                                      refine va_get (D := (dC, dI)) (ci := 7) (v := .ref mic) (C := RX6) (T := TX6) (N := 31) hx hb hts iw_X6_digest_X6 hown hK hP 0 rfl rfl 5 (by decide) (hts (.fieldLink RX6 17 "TeaRaceModel" "isChart" "[Z") (by decide +kernel)) (fun _ h9 => h9) rfl dX6_digest_114 ?_
                                                                                      refine lv_iload_n hx hb dX6_digest_117 rfl (lv_at hl 2 rfl) ?_
                                                                                      refine va_zald hx hb hK hP 1 0 rfl rfl (vp_in_iff.mpr (by decide +kernel)) dX6_digest_118 ?_
                                                                                      refine lv_topi (fun x_111 ex_111 => ?_)
                                                                                      obtain rfl : x_111 = 0 := ex_111
                                                                                      refine lv_if_eq (tgt := 149) hx hb dX6_digest_119 (by decide) (fun c_112 => ?_) (fun c_112 => ?_)
                                                                                      · skip
                                                                                        refine lv_iinc (v := 9) (lv' := [(3, .int 9), (4, .int 0), (1, .long (-7780465577050321200)), (0, .ref m0)]) hx hb dX6_digest_149 hl (k := 2) rfl (by decide +kernel) (by decide) rfl (fun ls hl => ?_)
                                                                                        refine lv_goto (tgt := 79) hx hb dX6_digest_152 (by decide) ?_
                                                                                        refine lv_iload_n hx hb dX6_digest_79 rfl (lv_at hl 0 rfl) ?_
                                                                                        refine lv_bipush (v := 12) hx hb dX6_digest_80 (by decide) ?_
                                                                                        refine lv_icmp_ge (tgt := 155) hx hb dX6_digest_82 (by decide) (fun c_114 => ?_) (fun c_114 => ?_)
                                                                                        · skip
                                                                                          exact absurd c_114 (by decide)
                                                                                        · skip
                                                                                          refine lv_aload_n hx hb dX6_digest_85 rfl (lv_at hl 3 rfl) ?_
                                                                                          refine va_get (D := (dC, dI)) (ci := 7) (v := .ref mic) (C := RX6) (T := TX6) (N := 31) hx hb hts iw_X6_digest_X6 hown hK hP 0 rfl rfl 5 (by decide) (hts (.fieldLink RX6 17 "TeaRaceModel" "isChart" "[Z") (by decide +kernel)) (fun _ h9 => h9) rfl dX6_digest_86 ?_
                                                                                          refine lv_iload_n hx hb dX6_digest_89 rfl (lv_at hl 0 rfl) ?_
                                                                                          refine va_zald hx hb hK hP 1 0 rfl rfl (vp_in_iff.mpr (by decide +kernel)) dX6_digest_90 ?_
                                                                                          refine lv_topi (fun x_115 ex_115 => ?_)
                                                                                          obtain rfl : x_115 = 0 := ex_115
                                                                                          refine lv_if_ne (tgt := 102) hx hb dX6_digest_91 (by decide) (fun c_116 => ?_) (fun c_116 => ?_)
                                                                                          · skip
                                                                                            exact absurd (by decide) c_116
                                                                                          · skip
                                                                                            refine lv_ldc2 (v := (31)) hx hb hown (hts (.constantLong RX6 193 (31)) (by decide +kernel)) dX6_digest_94 ?_
                                                                                            refine lv_lload_n hx hb dX6_digest_97 rfl (lv_at hl 2 rfl) ?_
                                                                                            refine lv_lmul hx hb dX6_digest_98 ?_
                                                                                            refine lv_topl (fun w_117 ew_117 => ?_)
                                                                                            obtain rfl : w_117 = (-1386759930335786192) := ew_117.trans (by decide +kernel)
                                                                                            refine lv_lconst (v := 1) hx hb dX6_digest_99 (by decide) ?_
                                                                                            refine lv_lsub hx hb dX6_digest_100 ?_
                                                                                            refine lv_topl (fun w_118 ew_118 => ?_)
                                                                                            obtain rfl : w_118 = (-1386759930335786193) := ew_118.trans (by decide +kernel)
                                                                                            refine lv_lstore_n (lv' := [(1, .long (-1386759930335786193)), (3, .int 9), (4, .int 0), (0, .ref m0)]) hx hb dX6_digest_101 rfl hl (by decide) rfl (fun ls hl => ?_)
                                                                                            refine lv_iconst (v := 0) hx hb dX6_digest_102 (by decide) ?_
                                                                                            refine lv_istore (lv' := [(4, .int 0), (1, .long (-1386759930335786193)), (3, .int 9), (0, .ref m0)]) hx hb dX6_digest_103 hl (by decide) rfl (fun ls hl => ?_)
                                                                                            refine lv_iload hx hb dX6_digest_105 (lv_at hl 0 rfl) ?_
                                                                                            refine lv_sipush (v := 160) hx hb dX6_digest_107 (by decide) ?_
                                                                                            refine lv_icmp_ge (tgt := 149) hx hb dX6_digest_110 (by decide) (fun c_119 => ?_) (fun c_119 => ?_)
                                                                                            · skip
                                                                                              exact absurd c_119 (by decide)
                                                                                            · skip
                                                                                              refine lv_aload_n hx hb dX6_digest_113 rfl (lv_at hl 3 rfl) ?_
                                                                                              refine va_get (D := (dC, dI)) (ci := 7) (v := .ref mic) (C := RX6) (T := TX6) (N := 31) hx hb hts iw_X6_digest_X6 hown hK hP 0 rfl rfl 5 (by decide) (hts (.fieldLink RX6 17 "TeaRaceModel" "isChart" "[Z") (by decide +kernel)) (fun _ h9 => h9) rfl dX6_digest_114 ?_
                                                                                              refine lv_iload_n hx hb dX6_digest_117 rfl (lv_at hl 2 rfl) ?_
                                                                                              refine va_zald hx hb hK hP 1 0 rfl rfl (vp_in_iff.mpr (by decide +kernel)) dX6_digest_118 ?_
                                                                                              refine lv_topi (fun x_120 ex_120 => ?_)
                                                                                              obtain rfl : x_120 = 0 := ex_120
                                                                                              refine lv_if_eq (tgt := 149) hx hb dX6_digest_119 (by decide) (fun c_121 => ?_) (fun c_121 => ?_)
                                                                                              · skip
                                                                                                refine lv_iinc (v := 10) (lv' := [(3, .int 10), (4, .int 0), (1, .long (-1386759930335786193)), (0, .ref m0)]) hx hb dX6_digest_149 hl (k := 2) rfl (by decide +kernel) (by decide) rfl (fun ls hl => ?_)
                                                                                                refine lv_goto (tgt := 79) hx hb dX6_digest_152 (by decide) ?_
                                                                                                refine lv_iload_n hx hb dX6_digest_79 rfl (lv_at hl 0 rfl) ?_
                                                                                                refine lv_bipush (v := 12) hx hb dX6_digest_80 (by decide) ?_
                                                                                                refine lv_icmp_ge (tgt := 155) hx hb dX6_digest_82 (by decide) (fun c_123 => ?_) (fun c_123 => ?_)
                                                                                                · skip
                                                                                                  exact absurd c_123 (by decide)
                                                                                                · skip
                                                                                                  refine lv_aload_n hx hb dX6_digest_85 rfl (lv_at hl 3 rfl) ?_
                                                                                                  refine va_get (D := (dC, dI)) (ci := 7) (v := .ref mic) (C := RX6) (T := TX6) (N := 31) hx hb hts iw_X6_digest_X6 hown hK hP 0 rfl rfl 5 (by decide) (hts (.fieldLink RX6 17 "TeaRaceModel" "isChart" "[Z") (by decide +kernel)) (fun _ h9 => h9) rfl dX6_digest_86 ?_
                                                                                                  refine lv_iload_n hx hb dX6_digest_89 rfl (lv_at hl 0 rfl) ?_
                                                                                                  refine va_zald hx hb hK hP 1 0 rfl rfl (vp_in_iff.mpr (by decide +kernel)) dX6_digest_90 ?_
                                                                                                  refine lv_topi (fun x_124 ex_124 => ?_)
                                                                                                  obtain rfl : x_124 = 0 := ex_124
                                                                                                  refine lv_if_ne (tgt := 102) hx hb dX6_digest_91 (by decide) (fun c_125 => ?_) (fun c_125 => ?_)
                                                                                                  · skip
                                                                                                    exact absurd (by decide) c_125
                                                                                                  · skip
                                                                                                    refine lv_ldc2 (v := (31)) hx hb hown (hts (.constantLong RX6 193 (31)) (by decide +kernel)) dX6_digest_94 ?_
                                                                                                    refine lv_lload_n hx hb dX6_digest_97 rfl (lv_at hl 2 rfl) ?_
                                                                                                    refine lv_lmul hx hb dX6_digest_98 ?_
                                                                                                    refine lv_topl (fun w_126 ew_126 => ?_)
                                                                                                    obtain rfl : w_126 = (-6096069692990268751) := ew_126.trans (by decide +kernel)
                                                                                                    refine lv_lconst (v := 1) hx hb dX6_digest_99 (by decide) ?_
                                                                                                    refine lv_lsub hx hb dX6_digest_100 ?_
                                                                                                    refine lv_topl (fun w_127 ew_127 => ?_)
                                                                                                    obtain rfl : w_127 = (-6096069692990268752) := ew_127.trans (by decide +kernel)
                                                                                                    refine lv_lstore_n (lv' := [(1, .long (-6096069692990268752)), (3, .int 10), (4, .int 0), (0, .ref m0)]) hx hb dX6_digest_101 rfl hl (by decide) rfl (fun ls hl => ?_)
                                                                                                    refine lv_iconst (v := 0) hx hb dX6_digest_102 (by decide) ?_
                                                                                                    refine lv_istore (lv' := [(4, .int 0), (1, .long (-6096069692990268752)), (3, .int 10), (0, .ref m0)]) hx hb dX6_digest_103 hl (by decide) rfl (fun ls hl => ?_)
                                                                                                    refine lv_iload hx hb dX6_digest_105 (lv_at hl 0 rfl) ?_
                                                                                                    refine lv_sipush (v := 160) hx hb dX6_digest_107 (by decide) ?_
                                                                                                    refine lv_icmp_ge (tgt := 149) hx hb dX6_digest_110 (by decide) (fun c_128 => ?_) (fun c_128 => ?_)
                                                                                                    · skip
                                                                                                      exact absurd c_128 (by decide)
                                                                                                    · skip
                                                                                                      refine lv_aload_n hx hb dX6_digest_113 rfl (lv_at hl 3 rfl) ?_
                                                                                                      refine va_get (D := (dC, dI)) (ci := 7) (v := .ref mic) (C := RX6) (T := TX6) (N := 31) hx hb hts iw_X6_digest_X6 hown hK hP 0 rfl rfl 5 (by decide) (hts (.fieldLink RX6 17 "TeaRaceModel" "isChart" "[Z") (by decide +kernel)) (fun _ h9 => h9) rfl dX6_digest_114 ?_
                                                                                                      refine lv_iload_n hx hb dX6_digest_117 rfl (lv_at hl 2 rfl) ?_
                                                                                                      refine va_zald hx hb hK hP 1 0 rfl rfl (vp_in_iff.mpr (by decide +kernel)) dX6_digest_118 ?_
                                                                                                      refine lv_topi (fun x_129 ex_129 => ?_)
                                                                                                      obtain rfl : x_129 = 0 := ex_129
                                                                                                      refine lv_if_eq (tgt := 149) hx hb dX6_digest_119 (by decide) (fun c_130 => ?_) (fun c_130 => ?_)
                                                                                                      · skip
                                                                                                        refine lv_iinc (v := 11) (lv' := [(3, .int 11), (4, .int 0), (1, .long (-6096069692990268752)), (0, .ref m0)]) hx hb dX6_digest_149 hl (k := 2) rfl (by decide +kernel) (by decide) rfl (fun ls hl => ?_)
                                                                                                        refine lv_goto (tgt := 79) hx hb dX6_digest_152 (by decide) ?_
                                                                                                        refine lv_iload_n hx hb dX6_digest_79 rfl (lv_at hl 0 rfl) ?_
                                                                                                        refine lv_bipush (v := 12) hx hb dX6_digest_80 (by decide) ?_
                                                                                                        refine lv_icmp_ge (tgt := 155) hx hb dX6_digest_82 (by decide) (fun c_132 => ?_) (fun c_132 => ?_)
                                                                                                        · skip
                                                                                                          exact absurd c_132 (by decide)
                                                                                                        · skip
                                                                                                          refine lv_aload_n hx hb dX6_digest_85 rfl (lv_at hl 3 rfl) ?_
                                                                                                          refine va_get (D := (dC, dI)) (ci := 7) (v := .ref mic) (C := RX6) (T := TX6) (N := 31) hx hb hts iw_X6_digest_X6 hown hK hP 0 rfl rfl 5 (by decide) (hts (.fieldLink RX6 17 "TeaRaceModel" "isChart" "[Z") (by decide +kernel)) (fun _ h9 => h9) rfl dX6_digest_86 ?_
                                                                                                          refine lv_iload_n hx hb dX6_digest_89 rfl (lv_at hl 0 rfl) ?_
                                                                                                          refine va_zald hx hb hK hP 1 0 rfl rfl (vp_in_iff.mpr (by decide +kernel)) dX6_digest_90 ?_
                                                                                                          refine lv_topi (fun x_133 ex_133 => ?_)
                                                                                                          obtain rfl : x_133 = 0 := ex_133
                                                                                                          refine lv_if_ne (tgt := 102) hx hb dX6_digest_91 (by decide) (fun c_134 => ?_) (fun c_134 => ?_)
                                                                                                          · skip
                                                                                                            exact absurd (by decide) c_134
                                                                                                          · skip
                                                                                                            refine lv_ldc2 (v := (31)) hx hb hown (hts (.constantLong RX6 193 (31)) (by decide +kernel)) dX6_digest_94 ?_
                                                                                                            refine lv_lload_n hx hb dX6_digest_97 rfl (lv_at hl 2 rfl) ?_
                                                                                                            refine lv_lmul hx hb dX6_digest_98 ?_
                                                                                                            refine lv_topl (fun w_135 ew_135 => ?_)
                                                                                                            obtain rfl : w_135 = (-4510719745602815152) := ew_135.trans (by decide +kernel)
                                                                                                            refine lv_lconst (v := 1) hx hb dX6_digest_99 (by decide) ?_
                                                                                                            refine lv_lsub hx hb dX6_digest_100 ?_
                                                                                                            refine lv_topl (fun w_136 ew_136 => ?_)
                                                                                                            obtain rfl : w_136 = (-4510719745602815153) := ew_136.trans (by decide +kernel)
                                                                                                            refine lv_lstore_n (lv' := [(1, .long (-4510719745602815153)), (3, .int 11), (4, .int 0), (0, .ref m0)]) hx hb dX6_digest_101 rfl hl (by decide) rfl (fun ls hl => ?_)
                                                                                                            refine lv_iconst (v := 0) hx hb dX6_digest_102 (by decide) ?_
                                                                                                            refine lv_istore (lv' := [(4, .int 0), (1, .long (-4510719745602815153)), (3, .int 11), (0, .ref m0)]) hx hb dX6_digest_103 hl (by decide) rfl (fun ls hl => ?_)
                                                                                                            refine lv_iload hx hb dX6_digest_105 (lv_at hl 0 rfl) ?_
                                                                                                            refine lv_sipush (v := 160) hx hb dX6_digest_107 (by decide) ?_
                                                                                                            refine lv_icmp_ge (tgt := 149) hx hb dX6_digest_110 (by decide) (fun c_137 => ?_) (fun c_137 => ?_)
                                                                                                            · skip
                                                                                                              exact absurd c_137 (by decide)
                                                                                                            · skip
                                                                                                              refine lv_aload_n hx hb dX6_digest_113 rfl (lv_at hl 3 rfl) ?_
                                                                                                              refine va_get (D := (dC, dI)) (ci := 7) (v := .ref mic) (C := RX6) (T := TX6) (N := 31) hx hb hts iw_X6_digest_X6 hown hK hP 0 rfl rfl 5 (by decide) (hts (.fieldLink RX6 17 "TeaRaceModel" "isChart" "[Z") (by decide +kernel)) (fun _ h9 => h9) rfl dX6_digest_114 ?_
                                                                                                              refine lv_iload_n hx hb dX6_digest_117 rfl (lv_at hl 2 rfl) ?_
                                                                                                              refine va_zald hx hb hK hP 1 0 rfl rfl (vp_in_iff.mpr (by decide +kernel)) dX6_digest_118 ?_
                                                                                                              refine lv_topi (fun x_138 ex_138 => ?_)
                                                                                                              obtain rfl : x_138 = 0 := ex_138
                                                                                                              refine lv_if_eq (tgt := 149) hx hb dX6_digest_119 (by decide) (fun c_139 => ?_) (fun c_139 => ?_)
                                                                                                              · skip
                                                                                                                refine lv_iinc (v := 12) (lv' := [(3, .int 12), (4, .int 0), (1, .long (-4510719745602815153)), (0, .ref m0)]) hx hb dX6_digest_149 hl (k := 2) rfl (by decide +kernel) (by decide) rfl (fun ls hl => ?_)
                                                                                                                refine lv_goto (tgt := 79) hx hb dX6_digest_152 (by decide) ?_
                                                                                                                refine lv_iload_n hx hb dX6_digest_79 rfl (lv_at hl 0 rfl) ?_
                                                                                                                refine lv_bipush (v := 12) hx hb dX6_digest_80 (by decide) ?_
                                                                                                                refine lv_icmp_ge (tgt := 155) hx hb dX6_digest_82 (by decide) (fun c_141 => ?_) (fun c_141 => ?_)
                                                                                                                · skip
                                                                                                                  refine lv_lload_n hx hb dX6_digest_155 rfl (lv_at hl 2 rfl) ?_
                                                                                                                  exact W.lret (v := (-4510719745602815153)) hx hb hr (fun t ht hW => ⟨⟨(-4510719745602815153), (), rfl, (by first | rfl | trivial | (simp; done)), trivial⟩, hS.F ht⟩) hS.2.2 dX6_digest_156
                                                                                                                · skip
                                                                                                                  exact absurd (by decide) c_141
                                                                                                              · skip
                                                                                                                exact absurd (by decide) c_139
                                                                                                      · skip
                                                                                                        exact absurd (by decide) c_130
                                                                                              · skip
                                                                                                exact absurd (by decide) c_121
                                                                                      · skip
                                                                                        exact absurd (by decide) c_112
                                                                              · skip
                                                                                exact absurd (by decide) c_103
                                                                      · skip
                                                                        exact absurd (by decide) c_94
                                                              · skip
                                                                exact absurd (by decide) c_85
                                                      · skip
                                                        exact absurd (by decide) c_76
                                              · skip
                                                exact absurd (by decide) c_67
                                      · skip
                                        exact absurd (by decide) c_58
                              · skip
                                exact absurd (by decide) c_49
                      · skip
                        exact absurd (by decide) c_40
              · skip
                exact absurd (by decide) c_32
            · skip
              exact absurd (by decide) c_31
