set_option maxRecDepth 20000 in
theorem iw_X0_init_X0 : ∀ w ∈ wsX00, w ∈ wsX0_init := fun w h => (List.mem_cons_of_mem _ (List.mem_append_right _ h))
set_option maxHeartbeats 4000000 in
set_option maxRecDepth 100000 in
/-- Order(..) -/
theorem c_X0_init (l : Launch) (dC : Nat → ClassId) (dI : Nat → Nat → Nat) (sz : Nat) (o : Nat) (a0 : Int32) (a1 : Int32) (a2 : Int32) (a3 : Int32) (a4 : Int32) (a5 : Int32)  : Met l yX0_init wsX0_init ({ frames := 1, cells := 0, slots := 0, locals := 12 }) (va_Pc [.ref o, .int a0, .int a1, .int a2, .int a3, .int a4, .int a5] (fun U => U.heap.size = sz ∧ va_P (dC, dI) vwCl [(o, .inr (1, [.int 0, .int 0, .int 0, .int 0, .int 0, .int 0]))] U.heap ∧ va_K (dC, dI) vwCl [] U ∧ NW U ∧ va_D (fun _ => True) [(o, .inr (1, [.int 0, .int 0, .int 0, .int 0, .int 0, .int 0]))])) (va_Qv (fun (_ : Unit) => True) (fun _ t => va_P (dC, dI) vwCl [(o, .inr (1, [.int a5, .int a0, .int a1, .int a2, .int a3, .int a4]))] t.heap ∧ va_K (dC, dI) vwCl [] t ∧ va_D (va_A [(o, .inr (1, [.int 0, .int 0, .int 0, .int 0, .int 0, .int 0]))] sz) [(o, .inr (1, [.int a5, .int a0, .int a1, .int a2, .int a3, .int a4]))]) (va_A [(o, .inr (1, [.int 0, .int 0, .int 0, .int 0, .int 0, .int 0]))] sz)) 0 0 (va_A [(o, .inr (1, [.int 0, .int 0, .int 0, .int 0, .int 0, .int 0]))] sz) := by
  refine Met.ofW (cc := cX0_init) (maxL := 7) (ret := none) (by decide) rfl ?_
  intro p e s m args below meth c s₁ B hml hv
  obtain ⟨rfl, hsz, hP, hK, hN, hD0⟩ := hv
  have hx := B.exec
  have hb := B.bytes
  have hr := B.returns
  have hts := atoms_spec (ws := wsX0_init) B.pre
  have hown : s.vm.findClass RX0 = some m.cls := findClass_of_methodNamed B.named
  have hlocks := B.notSynchronized
  have hin : meth.name = "<init>" := (name_of_methodNamed B.named B.method).1
  subst hsz
  have hD := hD0.self (sz := s.heap.size)
  generalize hAe : va_A [(o, .inr (1, [.int 0, .int 0, .int 0, .int 0, .int 0, .int 0]))] s.heap.size = A at hD ⊢
  have hA : ∀ q : Nat, s.heap.size ≤ q → A q := fun q h => by rw [← hAe]; exact Or.inr h
  have hS : va_S A s.heap s.heap [] := va_S.rf
  have hP : va_P (dC, dI) vwCl [(o, .inr (1, [.int 0, .int 0, .int 0, .int 0, .int 0, .int 0]))] s.heap := hP
  have hl := lv_entry ([.ref o, .int a0, .int a1, .int a2, .int a3, .int a4, .int a5]) (n := 7) (Nat.le_of_ble_eq_true rfl)
  rw [lg_entry_eq]
  generalize (lg_sl ([.ref o, .int a0, .int a1, .int a2, .int a3, .int a4, .int a5]) ++ List.replicate (7 - (lg_sl ([.ref o, .int a0, .int a1, .int a2, .int a3, .int a4, .int a5])).length) Slot.unset).toArray = ls at hl ⊢
  have hl : lv_has ls 7 [(0, .ref o), (1, .int a0), (2, .int a1), (3, .int a2), (4, .int a3), (5, .int a4), (6, .int a5)] := hl
  refine lv_aload_n hx hb dX0_init_0 rfl (lv_at hl 0 rfl) ?_
  refine W.objInit hx hb hown (hts (.methodLink RX0 3 objectInit) (by decide +kernel)) (hts (.instanceMethod objectInit) (by decide +kernel)) (hts (.code objectInit ⟨#[0xb1]⟩ 1 none) (by decide +kernel)) rfl (by rw [hml]; exact hl.1) rfl dX0_init_1 (Nat.le_of_ble_eq_true rfl) (Nat.le_of_ble_eq_true rfl) ?_
  refine W.eq (g2 := F0 m 4 ls []) rfl ?_
  refine lv_aload_n hx hb dX0_init_4 rfl (lv_at hl 0 rfl) ?_
  refine lv_iload_n hx hb dX0_init_5 rfl (lv_at hl 1 rfl) ?_
  refine va_putF (D := (dC, dI)) (ci := 1) (v := .int a0) (ty := .int) (C := RX0) (T := TX0) (N := 6) hx hb hts iw_X0_init_X0 tyX0 tyX0_ok nmX0 hown hK hP hD hS 0 rfl rfl 1 (by decide) (hts (.fieldLink RX0 9 "TeaRace$Order" "west" "I") (by decide +kernel)) (fun _ h9 => h9) rfl hin rfl (by decide +kernel) rfl rfl (Nat.le_of_ble_eq_true rfl) dX0_init_6 (fun H locs hP hD hS => ?_)
  have hP : va_P (dC, dI) vwCl [(o, .inr (1, [.int 0, .int a0, .int 0, .int 0, .int 0, .int 0]))] H := hP
  have hD : va_D A [(o, .inr (1, [.int 0, .int a0, .int 0, .int 0, .int 0, .int 0]))] := hD
  refine lv_aload_n hx hb dX0_init_9 rfl (lv_at hl 0 rfl) ?_
  refine lv_iload_n hx hb dX0_init_10 rfl (lv_at hl 2 rfl) ?_
  refine va_putF (D := (dC, dI)) (ci := 1) (v := .int a1) (ty := .int) (C := RX0) (T := TX0) (N := 6) hx hb hts iw_X0_init_X0 tyX0 tyX0_ok nmX0 hown hK hP hD hS 0 rfl rfl 2 (by decide) (hts (.fieldLink RX0 15 "TeaRace$Order" "east" "I") (by decide +kernel)) (fun _ h9 => h9) rfl hin rfl (by decide +kernel) rfl rfl (Nat.le_of_ble_eq_true rfl) dX0_init_11 (fun H locs hP hD hS => ?_)
  have hP : va_P (dC, dI) vwCl [(o, .inr (1, [.int 0, .int a0, .int a1, .int 0, .int 0, .int 0]))] H := hP
  have hD : va_D A [(o, .inr (1, [.int 0, .int a0, .int a1, .int 0, .int 0, .int 0]))] := hD
  refine lv_aload_n hx hb dX0_init_14 rfl (lv_at hl 0 rfl) ?_
  refine lv_iload_n hx hb dX0_init_15 rfl (lv_at hl 3 rfl) ?_
  refine va_putF (D := (dC, dI)) (ci := 1) (v := .int a2) (ty := .int) (C := RX0) (T := TX0) (N := 6) hx hb hts iw_X0_init_X0 tyX0 tyX0_ok nmX0 hown hK hP hD hS 0 rfl rfl 3 (by decide) (hts (.fieldLink RX0 18 "TeaRace$Order" "north" "I") (by decide +kernel)) (fun _ h9 => h9) rfl hin rfl (by decide +kernel) rfl rfl (Nat.le_of_ble_eq_true rfl) dX0_init_16 (fun H locs hP hD hS => ?_)
  have hP : va_P (dC, dI) vwCl [(o, .inr (1, [.int 0, .int a0, .int a1, .int a2, .int 0, .int 0]))] H := hP
  have hD : va_D A [(o, .inr (1, [.int 0, .int a0, .int a1, .int a2, .int 0, .int 0]))] := hD
  refine lv_aload_n hx hb dX0_init_19 rfl (lv_at hl 0 rfl) ?_
  refine lv_iload hx hb dX0_init_20 (lv_at hl 4 rfl) ?_
  refine va_putF (D := (dC, dI)) (ci := 1) (v := .int a3) (ty := .int) (C := RX0) (T := TX0) (N := 6) hx hb hts iw_X0_init_X0 tyX0 tyX0_ok nmX0 hown hK hP hD hS 0 rfl rfl 4 (by decide) (hts (.fieldLink RX0 21 "TeaRace$Order" "south" "I") (by decide +kernel)) (fun _ h9 => h9) rfl hin rfl (by decide +kernel) rfl rfl (Nat.le_of_ble_eq_true rfl) dX0_init_22 (fun H locs hP hD hS => ?_)
  have hP : va_P (dC, dI) vwCl [(o, .inr (1, [.int 0, .int a0, .int a1, .int a2, .int a3, .int 0]))] H := hP
  have hD : va_D A [(o, .inr (1, [.int 0, .int a0, .int a1, .int a2, .int a3, .int 0]))] := hD
  refine lv_aload_n hx hb dX0_init_25 rfl (lv_at hl 0 rfl) ?_
  refine lv_iload hx hb dX0_init_26 (lv_at hl 5 rfl) ?_
  refine va_putF (D := (dC, dI)) (ci := 1) (v := .int a4) (ty := .int) (C := RX0) (T := TX0) (N := 6) hx hb hts iw_X0_init_X0 tyX0 tyX0_ok nmX0 hown hK hP hD hS 0 rfl rfl 5 (by decide) (hts (.fieldLink RX0 24 "TeaRace$Order" "strength" "I") (by decide +kernel)) (fun _ h9 => h9) rfl hin rfl (by decide +kernel) rfl rfl (Nat.le_of_ble_eq_true rfl) dX0_init_28 (fun H locs hP hD hS => ?_)
  have hP : va_P (dC, dI) vwCl [(o, .inr (1, [.int 0, .int a0, .int a1, .int a2, .int a3, .int a4]))] H := hP
  have hD : va_D A [(o, .inr (1, [.int 0, .int a0, .int a1, .int a2, .int a3, .int a4]))] := hD
  refine lv_aload_n hx hb dX0_init_31 rfl (lv_at hl 0 rfl) ?_
  refine lv_iload hx hb dX0_init_32 (lv_at hl 6 rfl) ?_
  refine va_putF (D := (dC, dI)) (ci := 1) (v := .int a5) (ty := .int) (C := RX0) (T := TX0) (N := 6) hx hb hts iw_X0_init_X0 tyX0 tyX0_ok nmX0 hown hK hP hD hS 0 rfl rfl 0 (by decide) (hts (.fieldLink RX0 27 "TeaRace$Order" "way" "I") (by decide +kernel)) (fun _ h9 => h9) rfl hin rfl (by decide +kernel) rfl rfl (Nat.le_of_ble_eq_true rfl) dX0_init_34 (fun H locs hP hD hS => ?_)
  have hP : va_P (dC, dI) vwCl [(o, .inr (1, [.int a5, .int a0, .int a1, .int a2, .int a3, .int a4]))] H := hP
  have hD : va_D A [(o, .inr (1, [.int a5, .int a0, .int a1, .int a2, .int a3, .int a4]))] := hD
  have hP9 := hP.sub (ws' := [(o, .inr (1, [.int a5, .int a0, .int a1, .int a2, .int a3, .int a4]))]) [0] rfl
  have hD9 := hD.sub (ws' := [(o, .inr (1, [.int a5, .int a0, .int a1, .int a2, .int a3, .int a4]))]) [0] (by decide) rfl
  have hK9 := hK.sub (tys' := []) [] rfl
  exact W.vret hx hb hr (fun t ht hW => ⟨⟨(), rfl, trivial, ⟨by rw [ht]; exact hP9, va_K.moved hW.alike hK9, hD9⟩⟩, hS.F ht⟩) hS.2.2 dX0_init_37
set_option maxRecDepth 20000 in
theorem iw_X4_init_X4 : ∀ w ∈ wsX40, w ∈ wsX4_init := fun w h => (List.mem_cons_of_mem _ (List.mem_append_right _ h))
set_option maxHeartbeats 4000000 in
set_option maxRecDepth 100000 in
/-- Sight(..) -/
theorem c_X4_init (l : Launch) (dC : Nat → ClassId) (dI : Nat → Nat → Nat) (sz : Nat) (o : Nat) (a0 : Int32) (a1 : Int32)  : Met l yX4_init wsX4_init ({ frames := 1, cells := 0, slots := 0, locals := 12 }) (va_Pc [.ref o, .int a0, .int a1] (fun U => U.heap.size = sz ∧ va_P (dC, dI) vwCl [(o, .inr (5, [.int 0, .int 0]))] U.heap ∧ va_K (dC, dI) vwCl [] U ∧ NW U ∧ va_D (fun _ => True) [(o, .inr (5, [.int 0, .int 0]))])) (va_Qv (fun (_ : Unit) => True) (fun _ t => va_P (dC, dI) vwCl [(o, .inr (5, [.int a0, .int a1]))] t.heap ∧ va_K (dC, dI) vwCl [] t ∧ va_D (va_A [(o, .inr (5, [.int 0, .int 0]))] sz) [(o, .inr (5, [.int a0, .int a1]))]) (va_A [(o, .inr (5, [.int 0, .int 0]))] sz)) 0 0 (va_A [(o, .inr (5, [.int 0, .int 0]))] sz) := by
  refine Met.ofW (cc := cX4_init) (maxL := 3) (ret := none) (by decide) rfl ?_
  intro p e s m args below meth c s₁ B hml hv
  obtain ⟨rfl, hsz, hP, hK, hN, hD0⟩ := hv
  have hx := B.exec
  have hb := B.bytes
  have hr := B.returns
  have hts := atoms_spec (ws := wsX4_init) B.pre
  have hown : s.vm.findClass RX4 = some m.cls := findClass_of_methodNamed B.named
  have hlocks := B.notSynchronized
  have hin : meth.name = "<init>" := (name_of_methodNamed B.named B.method).1
  subst hsz
  have hD := hD0.self (sz := s.heap.size)
  generalize hAe : va_A [(o, .inr (5, [.int 0, .int 0]))] s.heap.size = A at hD ⊢
  have hA : ∀ q : Nat, s.heap.size ≤ q → A q := fun q h => by rw [← hAe]; exact Or.inr h
  have hS : va_S A s.heap s.heap [] := va_S.rf
  have hP : va_P (dC, dI) vwCl [(o, .inr (5, [.int 0, .int 0]))] s.heap := hP
  have hl := lv_entry ([.ref o, .int a0, .int a1]) (n := 3) (Nat.le_of_ble_eq_true rfl)
  rw [lg_entry_eq]
  generalize (lg_sl ([.ref o, .int a0, .int a1]) ++ List.replicate (3 - (lg_sl ([.ref o, .int a0, .int a1])).length) Slot.unset).toArray = ls at hl ⊢
  have hl : lv_has ls 3 [(0, .ref o), (1, .int a0), (2, .int a1)] := hl
  refine lv_aload_n hx hb dX4_init_0 rfl (lv_at hl 0 rfl) ?_
  refine W.objInit hx hb hown (hts (.methodLink RX4 1 objectInit) (by decide +kernel)) (hts (.instanceMethod objectInit) (by decide +kernel)) (hts (.code objectInit ⟨#[0xb1]⟩ 1 none) (by decide +kernel)) rfl (by rw [hml]; exact hl.1) rfl dX4_init_1 (Nat.le_of_ble_eq_true rfl) (Nat.le_of_ble_eq_true rfl) ?_
  refine W.eq (g2 := F0 m 4 ls []) rfl ?_
  refine lv_aload_n hx hb dX4_init_4 rfl (lv_at hl 0 rfl) ?_
  refine lv_iload_n hx hb dX4_init_5 rfl (lv_at hl 1 rfl) ?_
  refine va_putF (D := (dC, dI)) (ci := 5) (v := .int a0) (ty := .int) (C := RX4) (T := TX4) (N := 2) hx hb hts iw_X4_init_X4 tyX4 tyX4_ok nmX4 hown hK hP hD hS 0 rfl rfl 0 (by decide) (hts (.fieldLink RX4 7 "TeaRace$Sight" "cell" "I") (by decide +kernel)) (fun _ h9 => h9) rfl hin rfl (by decide +kernel) rfl rfl (Nat.le_of_ble_eq_true rfl) dX4_init_6 (fun H locs hP hD hS => ?_)
  have hP : va_P (dC, dI) vwCl [(o, .inr (5, [.int a0, .int 0]))] H := hP
  have hD : va_D A [(o, .inr (5, [.int a0, .int 0]))] := hD
  refine lv_aload_n hx hb dX4_init_9 rfl (lv_at hl 0 rfl) ?_
  refine lv_iload_n hx hb dX4_init_10 rfl (lv_at hl 2 rfl) ?_
  refine va_putF (D := (dC, dI)) (ci := 5) (v := .int a1) (ty := .int) (C := RX4) (T := TX4) (N := 2) hx hb hts iw_X4_init_X4 tyX4 tyX4_ok nmX4 hown hK hP hD hS 0 rfl rfl 1 (by decide) (hts (.fieldLink RX4 13 "TeaRace$Sight" "hour" "I") (by decide +kernel)) (fun _ h9 => h9) rfl hin rfl (by decide +kernel) rfl rfl (Nat.le_of_ble_eq_true rfl) dX4_init_11 (fun H locs hP hD hS => ?_)
  have hP : va_P (dC, dI) vwCl [(o, .inr (5, [.int a0, .int a1]))] H := hP
  have hD : va_D A [(o, .inr (5, [.int a0, .int a1]))] := hD
  have hP9 := hP.sub (ws' := [(o, .inr (5, [.int a0, .int a1]))]) [0] rfl
  have hD9 := hD.sub (ws' := [(o, .inr (5, [.int a0, .int a1]))]) [0] (by decide) rfl
  have hK9 := hK.sub (tys' := []) [] rfl
  exact W.vret hx hb hr (fun t ht hW => ⟨⟨(), rfl, trivial, ⟨by rw [ht]; exact hP9, va_K.moved hW.alike hK9, hD9⟩⟩, hS.F ht⟩) hS.2.2 dX4_init_14
set_option maxHeartbeats 4000000 in
set_option maxRecDepth 100000 in
/-- ArraysSupport.newLength -/
theorem c_J8_newLength_cabcc (l : Launch) (sz : Nat) (a0 : Int32) (b0 : Int32) (c0 : Int32) (i_a0 : 1 ≤ a0.toInt ∧ a0.toInt ≤ 100) (i_b0 : 1 ≤ b0.toInt ∧ b0.toInt ≤ 1) (i_c0 : 0 ≤ c0.toInt ∧ c0.toInt ≤ 100) : Met l yJ8_newLength_cabcc wsJ8_newLength_cabcc ({ frames := 1, cells := 0, slots := 0, locals := 21 }) (va_Pc [.int a0, .int b0, .int c0] (fun U => U.heap.size = sz)) (va_Qi (fun (r : Int32) (_ : Unit) => (a0.toInt + 1 ≤ r.toInt) ∧ (2 ≤ r.toInt ∧ r.toInt ≤ 200)) (fun _ _ => True) (va_A [] sz)) 0 0 (va_A [] sz) := by
  refine Met.ofW (cc := cJ8_newLength_cabcc) (maxL := 4) (ret := (some .int)) (by decide) rfl ?_
  intro p e s m args below meth c s₁ B hml hv
  obtain ⟨rfl, hsz⟩ := hv
  have hx := B.exec
  have hb := B.bytes
  have hr := B.returns
  have hts := atoms_spec (ws := wsJ8_newLength_cabcc) B.pre
  have hown : s.vm.findClass RJ8 = some m.cls := findClass_of_methodNamed B.named
  have hlocks := B.notSynchronized
  subst hsz
  generalize hAe : va_A [] s.heap.size = A at ⊢
  have hA : ∀ q : Nat, s.heap.size ≤ q → A q := fun q h => by rw [← hAe]; exact Or.inr h
  have hS : va_S A s.heap s.heap [] := va_S.rf
  have hl := lv_entry ([.int a0, .int b0, .int c0]) (n := 4) (Nat.le_of_ble_eq_true rfl)
  rw [lg_entry_eq]
  generalize (lg_sl ([.int a0, .int b0, .int c0]) ++ List.replicate (4 - (lg_sl ([.int a0, .int b0, .int c0])).length) Slot.unset).toArray = ls at hl ⊢
  have hl : lv_has ls 4 [(0, .int a0), (1, .int b0), (2, .int c0)] := hl
  refine lv_iload_n hx hb dJ8_newLength_cabcc_0 rfl (lv_at hl 0 rfl) ?_
  refine lv_iload_n hx hb dJ8_newLength_cabcc_1 rfl (lv_at hl 1 rfl) ?_
  refine lv_iload_n hx hb dJ8_newLength_cabcc_2 rfl (lv_at hl 2 rfl) ?_
  refine va_mmax hx hb (hml.trans hl.1.symm) hown (hts (.methodLink RJ8 194 Lib.Math.max.name) (by decide +kernel)) (hts (.static Lib.Math.max.name) (by decide +kernel)) (hts (.initialized "java/lang/Math") (by decide +kernel)) (hts (.code Lib.Math.max.name Lib.Math.max.code 2 (some .int)) (by decide +kernel)) (Nat.le_of_ble_eq_true rfl) (Nat.le_of_ble_eq_true rfl) (Nat.le_of_ble_eq_true rfl) (Nat.le_of_ble_eq_true rfl) dJ8_newLength_cabcc_3 ?_
  refine lv_topi (fun x_1 ex_1 => ?_)
  have tx_1 : x_1.toInt = max b0.toInt c0.toInt := mx_k ex_1 rfl rfl
  refine lv_iadd hx hb dJ8_newLength_cabcc_6 ?_
  refine lv_topi (fun x_2 ex_2 => ?_)
  have tx_2 : x_2.toInt = a0.toInt + x_1.toInt := ad_k ex_2 rfl rfl (by omega) (by omega)
  refine lv_istore_n (lv' := [(3, .int x_2), (0, .int a0), (1, .int b0), (2, .int c0)]) hx hb dJ8_newLength_cabcc_7 rfl hl (by decide) rfl (fun ls hl => ?_)
  refine lv_iconst (v := 0) hx hb dJ8_newLength_cabcc_8 (by decide) ?_
  refine lv_iload_n hx hb dJ8_newLength_cabcc_9 rfl (lv_at hl 0 rfl) ?_
  refine lv_icmp_ge (tgt := 21) hx hb dJ8_newLength_cabcc_10 (by decide) (fun c_3 => ?_) (fun c_3 => ?_)
  · skip
    have qc_3 : x_2.toInt ≤ 0 := le_k rfl (by decide) c_3
    exfalso
    omega
  · skip
    have qc_3 : 0 < x_2.toInt := nle_k rfl (by decide) c_3
    refine lv_iload_n hx hb dJ8_newLength_cabcc_13 rfl (lv_at hl 0 rfl) ?_
    refine lv_ldc (v := (2147483639)) hx hb hown (hts (.constant RJ8 200 (2147483639)) (by decide +kernel)) dJ8_newLength_cabcc_14 ?_
    refine lv_icmp_gt (tgt := 21) hx hb dJ8_newLength_cabcc_16 (by decide) (fun c_4 => ?_) (fun c_4 => ?_)
    · skip
      have qc_4 : 2147483639 < x_2.toInt := lt_k (by decide) rfl c_4
      exfalso
      omega
    · skip
      have qc_4 : x_2.toInt ≤ 2147483639 := nlt_k (by decide) rfl c_4
      refine lv_iload_n hx hb dJ8_newLength_cabcc_19 rfl (lv_at hl 0 rfl) ?_
      exact W.iret (v := x_2) hx hb hr (fun t ht hW => ⟨⟨x_2, (), rfl, ⟨(by (try dsimp only) <;> (first | (first | rfl | assumption | omega | exact Int32.toInt_inj.mp (by omega) | (simp only [Int32.reduceToInt, zl1, zl2, zl3, zl4, zl9]; omega) | ((rw [if_pos (by (first | omega | ((try simp only [Int32.lt_iff_toInt_lt, Int32.le_iff_toInt_le, ← Int32.toInt_inj, Int32.reduceToInt, zl1, zl2, zl3, zl4, zl9]); (try simp only [Int32.reduceToInt]); omega) | (subst_vars; assumption) | (refine ⟨?_, ?_⟩ <;> first | omega | (simp only [Int32.lt_iff_toInt_lt, Int32.le_iff_toInt_le, ← Int32.toInt_inj, Int32.reduceToInt, zl1, zl2, zl3, zl4, zl9]; omega) | (subst_vars; assumption))))]) <;> (first | rfl | assumption | omega | exact Int32.toInt_inj.mp (by omega) | (simp only [Int32.reduceToInt, zl1, zl2, zl3, zl4, zl9]; omega) | ((rw [if_pos (by (first | omega | ((try simp only [Int32.lt_iff_toInt_lt, Int32.le_iff_toInt_le, ← Int32.toInt_inj, Int32.reduceToInt, zl1, zl2, zl3, zl4, zl9]); (try simp only [Int32.reduceToInt]); omega) | (subst_vars; assumption) | (refine ⟨?_, ?_⟩ <;> first | omega | (simp only [Int32.lt_iff_toInt_lt, Int32.le_iff_toInt_le, ← Int32.toInt_inj, Int32.reduceToInt, zl1, zl2, zl3, zl4, zl9]; omega) | (subst_vars; assumption))))]) <;> (first | rfl | assumption | omega | exact Int32.toInt_inj.mp (by omega) | (simp only [Int32.reduceToInt, zl1, zl2, zl3, zl4, zl9]; omega))) | ((rw [if_neg (by (first | omega | ((try simp only [Int32.lt_iff_toInt_lt, Int32.le_iff_toInt_le, ← Int32.toInt_inj, Int32.reduceToInt, zl1, zl2, zl3, zl4, zl9]); (try simp only [Int32.reduceToInt]); omega) | (subst_vars; assumption) | (refine ⟨?_, ?_⟩ <;> first | omega | (simp only [Int32.lt_iff_toInt_lt, Int32.le_iff_toInt_le, ← Int32.toInt_inj, Int32.reduceToInt, zl1, zl2, zl3, zl4, zl9]; omega) | (subst_vars; assumption))))]) <;> (first | rfl | assumption | omega | exact Int32.toInt_inj.mp (by omega) | (simp only [Int32.reduceToInt, zl1, zl2, zl3, zl4, zl9]; omega))))) | ((rw [if_neg (by (first | omega | ((try simp only [Int32.lt_iff_toInt_lt, Int32.le_iff_toInt_le, ← Int32.toInt_inj, Int32.reduceToInt, zl1, zl2, zl3, zl4, zl9]); (try simp only [Int32.reduceToInt]); omega) | (subst_vars; assumption) | (refine ⟨?_, ?_⟩ <;> first | omega | (simp only [Int32.lt_iff_toInt_lt, Int32.le_iff_toInt_le, ← Int32.toInt_inj, Int32.reduceToInt, zl1, zl2, zl3, zl4, zl9]; omega) | (subst_vars; assumption))))]) <;> (first | rfl | assumption | omega | exact Int32.toInt_inj.mp (by omega) | (simp only [Int32.reduceToInt, zl1, zl2, zl3, zl4, zl9]; omega) | ((rw [if_pos (by (first | omega | ((try simp only [Int32.lt_iff_toInt_lt, Int32.le_iff_toInt_le, ← Int32.toInt_inj, Int32.reduceToInt, zl1, zl2, zl3, zl4, zl9]); (try simp only [Int32.reduceToInt]); omega) | (subst_vars; assumption) | (refine ⟨?_, ?_⟩ <;> first | omega | (simp only [Int32.lt_iff_toInt_lt, Int32.le_iff_toInt_le, ← Int32.toInt_inj, Int32.reduceToInt, zl1, zl2, zl3, zl4, zl9]; omega) | (subst_vars; assumption))))]) <;> (first | rfl | assumption | omega | exact Int32.toInt_inj.mp (by omega) | (simp only [Int32.reduceToInt, zl1, zl2, zl3, zl4, zl9]; omega))) | ((rw [if_neg (by (first | omega | ((try simp only [Int32.lt_iff_toInt_lt, Int32.le_iff_toInt_le, ← Int32.toInt_inj, Int32.reduceToInt, zl1, zl2, zl3, zl4, zl9]); (try simp only [Int32.reduceToInt]); omega) | (subst_vars; assumption) | (refine ⟨?_, ?_⟩ <;> first | omega | (simp only [Int32.lt_iff_toInt_lt, Int32.le_iff_toInt_le, ← Int32.toInt_inj, Int32.reduceToInt, zl1, zl2, zl3, zl4, zl9]; omega) | (subst_vars; assumption))))]) <;> (first | rfl | assumption | omega | exact Int32.toInt_inj.mp (by omega) | (simp only [Int32.reduceToInt, zl1, zl2, zl3, zl4, zl9]; omega)))))) | ((try simp only [Int32.lt_iff_toInt_lt, Int32.le_iff_toInt_le, ← Int32.toInt_inj, Int32.reduceToInt, zl1, zl2, zl3, zl4, zl9]); (repeat' split) <;> first | rfl | omega | (simp only [Int32.lt_iff_toInt_lt, Int32.le_iff_toInt_le, ← Int32.toInt_inj, Int32.reduceToInt, zl1, zl2, zl3, zl4, zl9]; omega)))), ⟨by omega, by omega⟩⟩, trivial⟩, hS.F ht⟩) hS.2.2 dJ8_newLength_cabcc_20
set_option maxHeartbeats 4000000 in
set_option maxRecDepth 100000 in
/-- Arrays.copyOf(.., Class) -/
theorem c_J7_copyOf_6403c (l : Launch) (dC : Nat → ClassId) (dI : Nat → Nat → Nat) (sz : Nat) (te : Nat) (ea : Nat) (so : Nat) (mi : Nat) (L : List Nat) (f : Nat → va_E) (ar : Nat) (N : Nat) (r : Nat → Option Nat) (cO : ClassId) (b0 : Int32) (i_b0 : 0 ≤ b0.toInt ∧ b0.toInt ≤ 200) (hN1 : N ≤ 100) (hN2 : (N : Int) ≤ b0.toInt) (harr : ar ∈ L ∧ f ar = .inl (cO, N, .inr (.inr (.inr (.inr r))))) (hels : Els L f N r) : Met l yJ7_copyOf_6403c wsJ7_copyOf_6403c ({ frames := 1, cells := 1, slots := 200, locals := 60 }) (va_Pc [.ref ar, .int b0, .ref mi] (fun U => U.heap.size = sz ∧ va_P (dC, dI) vwCl (([] : va_W) ++ va_pl L f) U.heap ∧ va_K (dC, dI) vwCl [(cO, .object "java/lang/Object")] U ∧ NW U ∧ va_D (fun _ => True) (([] : va_W) ++ va_pl L f) ∧ Zs te ea so mi (va_A (([] : va_W) ++ va_pl L f) sz) U U.heap)) (va_Qr (fun (u : Nat × (Nat → Option Nat)) => ((u.1 : Int) = b0.toInt) ∧ (∀ k, k < N → u.2 k = r k)) (fun u ra t => va_P (dC, dI) vwCl (([] : va_W) ++ va_pl (L ++ [ra]) (va_up f ra (rowE cO u.1 u.2))) t.heap ∧ va_K (dC, dI) vwCl [(cO, .object "java/lang/Object")] t ∧ va_D (va_A (([] : va_W) ++ va_pl L f) sz) (([] : va_W) ++ va_pl (L ++ [ra]) (va_up f ra (rowE cO u.1 u.2)))) (va_A (([] : va_W) ++ va_pl L f) sz)) 1 200 (va_A (([] : va_W) ++ va_pl L f) sz) := by
  refine Met.ofW (cc := cJ7_copyOf_6403c) (maxL := 4) (ret := (some (.array (.object "java/lang/Object")))) (by decide) rfl ?_
  intro p e s m args below meth c s₁ B hml hv
  obtain ⟨rfl, hsz, hP, hK, hN, hD0, hZ⟩ := hv
  have hx := B.exec
  have hb := B.bytes
  have hr := B.returns
  have hts := atoms_spec (ws := wsJ7_copyOf_6403c) B.pre
  have hown : s.vm.findClass RJ7 = some m.cls := findClass_of_methodNamed B.named
  have hlocks := B.notSynchronized
  subst hsz
  have hD := hD0.self (sz := s.heap.size)
  generalize hAe : va_A (([] : va_W) ++ va_pl L f) s.heap.size = A at hD hZ ⊢
  have hA : ∀ q : Nat, s.heap.size ≤ q → A q := fun q h => by rw [← hAe]; exact Or.inr h
  have hS : va_S A s.heap s.heap [] := va_S.rf
  have hP : va_P (dC, dI) vwCl (([] : va_W) ++ va_pl L f) s.heap := hP
  have hl := lv_entry ([.ref ar, .int b0, .ref mi]) (n := 4) (Nat.le_of_ble_eq_true rfl)
  rw [lg_entry_eq]
  generalize (lg_sl ([.ref ar, .int b0, .ref mi]) ++ List.replicate (4 - (lg_sl ([.ref ar, .int b0, .ref mi])).length) Slot.unset).toArray = ls at hl ⊢
  have hl : lv_has ls 4 [(0, .ref ar), (1, .int b0), (2, .ref mi)] := hl
  refine lv_aload_n hx hb dJ7_copyOf_6403c_0 rfl (lv_at hl 2 rfl) ?_
  refine va_ldcM hx hb hown (hts (.classLink RJ7 110 "[Ljava/lang/Object;") (by decide +kernel)) hZ.mir dJ7_copyOf_6403c_1 ?_
  refine W.eq (g2 := F0 m 3 ls (va_rf (some mi) :: va_rf (some mi) :: [])) rfl ?_
  refine lv_acmp_ne (tgt := 13) hx hb dJ7_copyOf_6403c_3 (by decide) (fun c_1 => absurd rfl c_1) (fun c_1 => ?_)
  refine lv_iload_n hx hb dJ7_copyOf_6403c_6 rfl (lv_at hl 1 rfl) ?_
  obtain ⟨N2_4, eN2_4⟩ : ∃ z : Nat, b0.toNatClampNeg = z := ⟨_, rfl⟩
  have tN2_4 : (N2_4 : Int) = b0.toInt := by rw [← eN2_4]; exact tn_k rfl (by omega)
  refine va_newq (N' := N2_4) hx hb hown (hts (.classLink RJ7 2 "java/lang/Object") (by decide +kernel)) hN.aO hK hP hD hS hA (fun z => by have := lt_k (q := 0) rfl (by decide) z; omega) eN2_4 (by omega) (Nat.le_of_ble_eq_true rfl) (by show _ ≤ 200; omega) dJ7_copyOf_6403c_7 (fun q_2 cA_3 H hK hP hD hS => ?_)
  obtain rfl : cO = cA_3 := va_uniq hK 0 1 rfl rfl
  have hK := hK.sub (tys' := [(cO, .object "java/lang/Object")]) [0] rfl
  obtain ⟨hnew_5, hP, hD⟩ := pl_push (X := ([] : va_W)) hP hD
  obtain ⟨f_7, ef_7⟩ : ∃ z : Nat → va_E, z = va_up f q_2 (.inl (cO, N2_4, .inr (.inr (.inr (.inr (fun _ => none)))))) := ⟨_, rfl⟩
  obtain ⟨L_6, eL_6⟩ : ∃ z : List Nat, z = L ++ [q_2] := ⟨_, rfl⟩
  have hP : va_P (dC, dI) vwCl (([] : va_W) ++ va_pl (L ++ [q_2]) (va_up f q_2 (.inl (cO, N2_4, .inr (.inr (.inr (.inr (fun _ => none)))))))) H := hP
  have hD : va_D A (([] : va_W) ++ va_pl (L ++ [q_2]) (va_up f q_2 (.inl (cO, N2_4, .inr (.inr (.inr (.inr (fun _ => none)))))))) := hD
  rw [← ef_7, ← eL_6] at hP hD
  have hm_8 : ar ∈ L_6 := by rw [eL_6]; exact mem_l harr.1
  have ho_9 : f_7 ar = .inl (cO, N, .inr (.inr (.inr (.inr r)))) := by rw [ef_7, va_up_ne _ _ (ne_of_in harr.1 hnew_5)]; exact harr.2
  have hm_10 : q_2 ∈ L_6 := by rw [eL_6]; exact mem_r
  have ho_11 : f_7 q_2 = .inl (cO, N2_4, .inr (.inr (.inr (.inr (fun _ => none))))) := by rw [ef_7, va_up_self]
  have hq_12 : Els L_6 f_7 N r := by rw [eL_6, ef_7]; exact Els.push hels hnew_5
  have hP : va_P (dC, dI) vwCl (([] : va_W) ++ va_pl L_6 f_7) H := hP
  have hD : va_D A (([] : va_W) ++ va_pl L_6 f_7) := hD
  refine W.widen (k := 1) (n := 200) (Nat.le_of_ble_eq_true rfl) (by omega) ?_
  refine lv_goto (tgt := 24) hx hb dJ7_copyOf_6403c_10 (by decide) ?_
  refine lv_astore_n (lv' := [(3, .ref q_2), (0, .ref ar), (1, .int b0), (2, .ref mi)]) hx hb dJ7_copyOf_6403c_24 rfl hl (by decide) rfl (fun ls hl => ?_)
  refine lv_aload_n hx hb dJ7_copyOf_6403c_25 rfl (lv_at hl 1 rfl) ?_
  refine lv_iconst (v := 0) hx hb dJ7_copyOf_6403c_26 (by decide) ?_
  refine lv_aload_n hx hb dJ7_copyOf_6403c_27 rfl (lv_at hl 0 rfl) ?_
  refine lv_iconst (v := 0) hx hb dJ7_copyOf_6403c_28 (by decide) ?_
  refine lv_aload_n hx hb dJ7_copyOf_6403c_29 rfl (lv_at hl 1 rfl) ?_
  obtain ⟨k9_13, hk9_13⟩ : ∃ k : Nat, (([] : va_W) ++ va_pl L_6 f_7)[k]? = some (ar, .inl (cO, N, .inr (.inr (.inr (.inr r))))) := pl_at hm_8 ho_9
  refine va_alen (v := (nI N)) hx hb hK hP k9_13 0 hk9_13 rfl (by rfl) dJ7_copyOf_6403c_30 ?_
  refine lv_topi (fun x_14 ex_14 => ?_)
  have tx_14 : x_14.toInt = (N : Int) := by rw [ex_14]; exact nI_toInt (by omega)
  refine lv_iload_n hx hb dJ7_copyOf_6403c_31 rfl (lv_at hl 2 rfl) ?_
  refine va_mmin hx hb (hml.trans hl.1.symm) hown (hts (.methodLink RJ7 304 Lib.Math.min.name) (by decide +kernel)) (hts (.static Lib.Math.min.name) (by decide +kernel)) (hts (.initialized "java/lang/Math") (by decide +kernel)) (hts (.code Lib.Math.min.name Lib.Math.min.code 2 (some .int)) (by decide +kernel)) (Nat.le_of_ble_eq_true rfl) (Nat.le_of_ble_eq_true rfl) (Nat.le_of_ble_eq_true rfl) (Nat.le_of_ble_eq_true rfl) dJ7_copyOf_6403c_32 ?_
  refine lv_topi (fun x_15 ex_15 => ?_)
  have tx_15 : x_15.toInt = min x_14.toInt b0.toInt := mn_k ex_15 rfl rfl
  obtain ⟨k9_16, hk9_16⟩ : ∃ k : Nat, (([] : va_W) ++ va_pl L_6 f_7)[k]? = some (ar, .inl (cO, N, .inr (.inr (.inr (.inr r))))) := pl_at hm_8 ho_9
  obtain ⟨k9_17, hk9_17⟩ : ∃ k : Nat, (([] : va_W) ++ va_pl L_6 f_7)[k]? = some (q_2, .inl (cO, N2_4, .inr (.inr (.inr (.inr (fun _ => none)))))) := pl_at hm_10 ho_11
  have hDo_18 := hD
  refine va_copyM hx hb (hml.trans hl.1.symm) hown (hts (.methodLink RJ7 150 arraycopyName) (by decide +kernel)) (hts (.native arraycopyName) (by decide +kernel)) (hts (.static arraycopyName) (by decide +kernel)) (hts (.initialized "java/lang/System") (by decide +kernel)) hK hP hD hS k9_16 k9_17 0 0 hk9_16 hk9_17 rfl rfl (by decide) (by decide) (fun z => by have := lt_k (q := 0) rfl (by decide) z; omega) (by have z0 : (0 : Int32).toNatClampNeg = 0 := rfl; have := tn_k (i := x_15) rfl (by omega); omega) (by have z0 : (0 : Int32).toNatClampNeg = 0 := rfl; have := tn_k (i := x_15) rfl (by omega); omega) (fun i hi y hy => by obtain ⟨m9, ci, l9, v9, c9⟩ := hq_12 _ (by have z0 : (0 : Int32).toNatClampNeg = 0 := rfl; have := tn_k (i := x_15) rfl (by omega); omega) y hy; exact any_pool hK hP hN m9 v9 c9) (Nat.le_of_ble_eq_true rfl) (by decide) dJ7_copyOf_6403c_35 (fun H locs hP hD hS => ?_)
  have hP : va_P (dC, dI) vwCl (List.set (([] : va_W) ++ va_pl L_6 f_7) k9_17 (q_2, .inl (cO, N2_4, .inr (.inr (.inr (.inr (va_cpy r (fun _ => none) (0 : Int32).toNatClampNeg (0 : Int32).toNatClampNeg x_15.toNatClampNeg))))))) H := hP
  have hD : va_D A (List.set (([] : va_W) ++ va_pl L_6 f_7) k9_17 (q_2, .inl (cO, N2_4, .inr (.inr (.inr (.inr (va_cpy r (fun _ => none) (0 : Int32).toNatClampNeg (0 : Int32).toNatClampNeg x_15.toNatClampNeg))))))) := hD
  rw [pl_set hDo_18 hm_10 ho_11 hk9_17] at hP hD
  obtain ⟨f_19, ef_19⟩ : ∃ z : Nat → va_E, z = va_up f_7 q_2 (.inl (cO, N2_4, .inr (.inr (.inr (.inr (va_cpy r (fun _ => none) (0 : Int32).toNatClampNeg (0 : Int32).toNatClampNeg x_15.toNatClampNeg)))))) := ⟨_, rfl⟩
  rw [← ef_19] at hP hD
  have ho_20 : f_19 q_2 = .inl (cO, N2_4, .inr (.inr (.inr (.inr (va_cpy r (fun _ => none) (0 : Int32).toNatClampNeg (0 : Int32).toNatClampNeg x_15.toNatClampNeg))))) := by rw [ef_19, va_up_self]
  have hP : va_P (dC, dI) vwCl (([] : va_W) ++ va_pl L_6 f_19) H := hP
  have hD : va_D A (([] : va_W) ++ va_pl L_6 f_19) := hD
  refine lv_aload_n hx hb dJ7_copyOf_6403c_38 rfl (lv_at hl 0 rfl) ?_
  subst ef_19
  subst eL_6
  subst ef_7
  try simp only [va_up_up] at hP hD
  have hP9 : va_P (dC, dI) vwCl (([] : va_W) ++ va_pl (L ++ [q_2]) (va_up f q_2 (rowE cO N2_4 (va_cpy r (fun _ => none) (0 : Int32).toNatClampNeg (0 : Int32).toNatClampNeg x_15.toNatClampNeg)))) H := va_P.part (X := ([] : va_W)) hP [] rfl
  have hD9 : va_D A (([] : va_W) ++ va_pl (L ++ [q_2]) (va_up f q_2 (rowE cO N2_4 (va_cpy r (fun _ => none) (0 : Int32).toNatClampNeg (0 : Int32).toNatClampNeg x_15.toNatClampNeg)))) := va_D.part (X := ([] : va_W)) hD [] (by decide) rfl
  have hK9 := hK.sub (tys' := [(cO, .object "java/lang/Object")]) [0] rfl
  refine W.widen (k := 1) (n := 200) (Nat.le_of_ble_eq_true rfl) (Nat.le_of_ble_eq_true rfl) ?_
  exact W.aret (v := .ref q_2) hx hb hr (Or.inr ⟨_, rfl⟩) (Or.inr ⟨_, rfl⟩) (fun t ht hW => ⟨⟨(N2_4, (va_cpy r (fun _ => none) (0 : Int32).toNatClampNeg (0 : Int32).toNatClampNeg x_15.toNatClampNeg)), q_2, rfl, ⟨(by (try dsimp only); omega), (fun k hk => by (try dsimp only); unfold va_cpy; rw [if_pos (by have z0 : (0 : Int32).toNatClampNeg = 0 := rfl; have := tn_k (i := x_15) rfl (by omega); omega)]; congr 1; have z0 : (0 : Int32).toNatClampNeg = 0 := rfl; omega)⟩, ⟨by rw [ht]; exact hP9, va_K.moved hW.alike hK9, hD9⟩⟩, hS.F ht⟩) hS.2.2 dJ7_copyOf_6403c_39
set_option maxHeartbeats 4000000 in
set_option maxRecDepth 100000 in
/-- Arrays.copyOf -/
theorem c_J7_copyOf_1904c (l : Launch) (dC : Nat → ClassId) (dI : Nat → Nat → Nat) (sz : Nat) (te : Nat) (ea : Nat) (so : Nat) (mi : Nat) (L : List Nat) (f : Nat → va_E) (ar : Nat) (N : Nat) (r : Nat → Option Nat) (cO : ClassId) (b0 : Int32) (i_b0 : 0 ≤ b0.toInt ∧ b0.toInt ≤ 200) (hN1 : N ≤ 100) (hN2 : (N : Int) ≤ b0.toInt) (harr : ar ∈ L ∧ f ar = .inl (cO, N, .inr (.inr (.inr (.inr r))))) (hels : Els L f N r) : Met l yJ7_copyOf_1904c wsJ7_copyOf_1904c ({ frames := 2, cells := 1, slots := 200, locals := 83 }) (va_Pc [.ref ar, .int b0] (fun U => U.heap.size = sz ∧ va_P (dC, dI) vwCl (([] : va_W) ++ va_pl L f) U.heap ∧ va_K (dC, dI) vwCl [(cO, .object "java/lang/Object")] U ∧ NW U ∧ va_D (fun _ => True) (([] : va_W) ++ va_pl L f) ∧ Zs te ea so mi (va_A (([] : va_W) ++ va_pl L f) sz) U U.heap)) (va_Qr (fun (u : Nat × (Nat → Option Nat)) => ((u.1 : Int) = b0.toInt) ∧ (∀ k, k < N → u.2 k = r k)) (fun u ra t => va_P (dC, dI) vwCl (([] : va_W) ++ va_pl (L ++ [ra]) (va_up f ra (rowE cO u.1 u.2))) t.heap ∧ va_K (dC, dI) vwCl [(cO, .object "java/lang/Object")] t ∧ va_D (va_A (([] : va_W) ++ va_pl L f) sz) (([] : va_W) ++ va_pl (L ++ [ra]) (va_up f ra (rowE cO u.1 u.2)))) (va_A (([] : va_W) ++ va_pl L f) sz)) 1 200 (va_A (([] : va_W) ++ va_pl L f) sz) := by
  refine Met.ofW (cc := cJ7_copyOf_1904c) (maxL := 2) (ret := (some (.array (.object "java/lang/Object")))) (by decide) rfl ?_
  intro p e s m args below meth c s₁ B hml hv
  obtain ⟨rfl, hsz, hP, hK, hN, hD0, hZ⟩ := hv
  have hx := B.exec
  have hb := B.bytes
  have hr := B.returns
  have hts := atoms_spec (ws := wsJ7_copyOf_1904c) B.pre
  have hown : s.vm.findClass RJ7 = some m.cls := findClass_of_methodNamed B.named
  have hlocks := B.notSynchronized
  subst hsz
  have hD := hD0.self (sz := s.heap.size)
  generalize hAe : va_A (([] : va_W) ++ va_pl L f) s.heap.size = A at hD hZ ⊢
  have hA : ∀ q : Nat, s.heap.size ≤ q → A q := fun q h => by rw [← hAe]; exact Or.inr h
  have hS : va_S A s.heap s.heap [] := va_S.rf
  have hP : va_P (dC, dI) vwCl (([] : va_W) ++ va_pl L f) s.heap := hP
  have hl := lv_entry ([.ref ar, .int b0]) (n := 2) (Nat.le_of_ble_eq_true rfl)
  rw [lg_entry_eq]
  generalize (lg_sl ([.ref ar, .int b0]) ++ List.replicate (2 - (lg_sl ([.ref ar, .int b0])).length) Slot.unset).toArray = ls at hl ⊢
  have hl : lv_has ls 2 [(0, .ref ar), (1, .int b0)] := hl
  refine lv_aload_n hx hb dJ7_copyOf_1904c_0 rfl (lv_at hl 0 rfl) ?_
  refine lv_iload_n hx hb dJ7_copyOf_1904c_1 rfl (lv_at hl 1 rfl) ?_
  refine lv_aload_n hx hb dJ7_copyOf_1904c_2 rfl (lv_at hl 0 rfl) ?_
  obtain ⟨k9_1, hk9_1⟩ : ∃ k : Nat, (([] : va_W) ++ va_pl L f)[k]? = some (ar, .inl (cO, N, .inr (.inr (.inr (.inr r))))) := pl_at harr.1 harr.2
  refine va_getC (C := "[Ljava/lang/Object;") hx hb (hml.trans hl.1.symm) hown (hts (.methodLink RJ7 86 ⟨"java/lang/Object", "getClass", "()Ljava/lang/Class;"⟩) (by decide +kernel)) hZ.dcl.use (hts (.selects "[Ljava/lang/Object;" ⟨"java/lang/Object", "getClass", "()Ljava/lang/Class;"⟩ ⟨"java/lang/Object", "getClass", "()Ljava/lang/Class;"⟩) (by decide +kernel)) (hts (.instanceMethod ⟨"java/lang/Object", "getClass", "()Ljava/lang/Class;"⟩) (by decide +kernel)) (hts (.native ⟨"java/lang/Object", "getClass", "()Ljava/lang/Class;"⟩) (by decide +kernel)) hZ.mir (arr_cell hK hP hk9_1 (t := 0) rfl) (Nat.le_of_ble_eq_true rfl) (Nat.le_of_ble_eq_true rfl) dJ7_copyOf_1904c_3 ?_
  have hPc : va_P (dC, dI) vwCl (([] : va_W) ++ va_pl L f) s.heap := va_P.part (X := []) hP [] rfl
  have hDc : va_D A (([] : va_W) ++ va_pl L f) := va_D.part (X := []) hD [] (by decide) rfl
  have hKc := hK.sub (tys' := [(cO, .object "java/lang/Object")]) [0] rfl
  have hFc := va_freeP (X := []) (cx := []) hD hS hA [] rfl
  refine va_callr (va_runS (As := [.ref ar, .int b0, .ref mi]) (rest := []) ⟨hx, hb, hml, hown, hts⟩ (c_J7_copyOf_6403c l dC dI s.heap.size te ea so mi L f ar N r cO b0 ⟨(by omega), (by omega)⟩ (by omega) (by omega) ⟨harr.1, harr.2⟩ hels) (va_cwS 3 hts gJ7_copyOf_1904c_J7_copyOf_6403c rfl rfl rfl (by decide +kernel) ⟨Nat.le_of_ble_eq_true rfl, Nat.le_of_ble_eq_true rfl⟩) ⟨fun a U g mk q => by obtain ⟨q0, q1, qP, qK, qN, qD, qZ⟩ := q; exact ⟨q0, q1, qP, va_K.moved (u := U) (U := U.calling g mk a) (Vm.Alike.refl U.vm) qK, NW.same (u := U) (U := U.calling g mk a) rfl qN, qD, Zs.moved (u := U) (U := U.calling g mk a) (Vm.Alike.refl U.vm) qZ⟩, fun U hU hW => ⟨rfl, by rw [hU], by rw [hU]; exact hPc, va_K.moved hW.alike hKc, NW.warm hW hN, hDc.weaken (fun _ _ _ _ => trivial), by rw [hU]; exact Zs.pass hZ hS.2.1 hFc hW.alike⟩⟩ rfl rfl hl.1 rfl (lv_room (Nat.le_of_ble_eq_true rfl)) dJ7_copyOf_1904c_6 ⟨Nat.le_of_ble_eq_true rfl, Nat.le_of_ble_eq_true rfl⟩) hS (fun q _ h => hFc q h) hFc (fun u r_2 t H1 locs ht hvm k_3 hB hz1 hk1 hS => ?_)
  obtain ⟨u_4, u_5⟩ := u
  obtain ⟨hP1, hK1, hD1⟩ := hB
  rw [ht] at hP1
  have hK1 := va_K.moved hvm.symm hK1
  obtain ⟨hP, hD⟩ := va_joinP (X := []) (cx := []) (wr := []) (rx := []) hP hD [] [] rfl rfl (by decide) (by decide) hk1 hFc hP1 hD1
  generalize H1 = H at hP hS ⊢
  have hP : va_P (dC, dI) vwCl (([] : va_W) ++ va_pl (L ++ [r_2]) (va_up f r_2 (rowE cO u_4 u_5))) H := hP
  have hD : va_D A (([] : va_W) ++ va_pl (L ++ [r_2]) (va_up f r_2 (rowE cO u_4 u_5))) := hD
  have hnew_6 := pl_fresh (X := ([] : va_W)) hD
  obtain ⟨f_8, ef_8⟩ : ∃ z : Nat → va_E, z = va_up f r_2 (.inl (cO, u_4, .inr (.inr (.inr (.inr u_5))))) := ⟨_, rfl⟩
  obtain ⟨L_7, eL_7⟩ : ∃ z : List Nat, z = L ++ [r_2] := ⟨_, rfl⟩
  have hP : va_P (dC, dI) vwCl (([] : va_W) ++ va_pl (L ++ [r_2]) (va_up f r_2 (.inl (cO, u_4, .inr (.inr (.inr (.inr u_5))))))) H := hP
  have hD : va_D A (([] : va_W) ++ va_pl (L ++ [r_2]) (va_up f r_2 (.inl (cO, u_4, .inr (.inr (.inr (.inr u_5))))))) := hD
  rw [← ef_8, ← eL_7] at hP hD
  have hm_9 : ar ∈ L_7 := by rw [eL_7]; exact mem_l harr.1
  have ho_10 : f_8 ar = .inl (cO, N, .inr (.inr (.inr (.inr r)))) := by rw [ef_8, va_up_ne _ _ (ne_of_in harr.1 hnew_6)]; exact harr.2
  have hm_11 : r_2 ∈ L_7 := by rw [eL_7]; exact mem_r
  have ho_12 : f_8 r_2 = .inl (cO, u_4, .inr (.inr (.inr (.inr u_5)))) := by rw [ef_8, va_up_self]
  have hq_13 : Els L_7 f_8 N r := by rw [eL_7, ef_8]; exact Els.push hels hnew_6
  have hP : va_P (dC, dI) vwCl (([] : va_W) ++ va_pl L_7 f_8) H := hP
  have hD : va_D A (([] : va_W) ++ va_pl L_7 f_8) := hD
  try dsimp only at k_3
  obtain ⟨k_3, k_14⟩ := k_3
  refine W.widen (k := 1) (n := 200) (Nat.le_of_ble_eq_true rfl) (Nat.le_of_ble_eq_true rfl) ?_
  subst eL_7
  subst ef_8
  try simp only [va_up_up] at hP hD
  have hP9 : va_P (dC, dI) vwCl (([] : va_W) ++ va_pl (L ++ [r_2]) (va_up f r_2 (rowE cO u_4 u_5))) H := va_P.part (X := ([] : va_W)) hP [] rfl
  have hD9 : va_D A (([] : va_W) ++ va_pl (L ++ [r_2]) (va_up f r_2 (rowE cO u_4 u_5))) := va_D.part (X := ([] : va_W)) hD [] (by decide) rfl
  have hK9 := hK.sub (tys' := [(cO, .object "java/lang/Object")]) [0] rfl
  refine W.widen (k := 1) (n := 200) (Nat.le_of_ble_eq_true rfl) (Nat.le_of_ble_eq_true rfl) ?_
  exact W.aret (v := .ref r_2) hx hb hr (Or.inr ⟨_, rfl⟩) (Or.inr ⟨_, rfl⟩) (fun t ht hW => ⟨⟨(u_4, u_5), r_2, rfl, ⟨(by (try dsimp only); omega), k_14⟩, ⟨by rw [ht]; exact hP9, va_K.moved hW.alike hK9, hD9⟩⟩, hS.F ht⟩) hS.2.2 dJ7_copyOf_1904c_9
