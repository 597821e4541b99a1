set_option maxRecDepth 20000 in
theorem iw_X3_init_Jx4a65c : ∀ w ∈ wsJx4a65c0, w ∈ wsX3_init := fun w h => (List.mem_cons_of_mem _ (List.mem_append_left _ (List.mem_append_right _ h)))
set_option maxRecDepth 20000 in
theorem iw_X3_init_X3 : ∀ w ∈ wsX30, w ∈ wsX3_init := fun w h => (List.mem_cons_of_mem _ (List.mem_append_right _ h))
set_option maxHeartbeats 4000000 in
set_option maxRecDepth 100000 in
/-- Ship(..) -/
theorem c_X3_init (l : Launch) (dC : Nat → ClassId) (dI : Nat → Nat → Nat) (sz : Nat) (o : Nat) (te : Nat) (a0 : Int32) (a1 : Int32) (a2 : Int32) (a3 : Int32)  : Met l yX3_init wsX3_init ({ frames := 4, cells := 2, slots := 6, locals := 72 }) (va_Pc [.ref o, .int a0, .int a1, .int a2, .int a3] (fun U => U.heap.size = sz ∧ va_P (dC, dI) vwCl [(o, .inr (4, [.int 0, .int 0, .int 0, .null, .null, .int 0, .int 0, .int 0, .int 0, .int 0, .int 0, .int 0, .int 0, .int 0]))] U.heap ∧ va_K (dC, dI) vwCl [] U ∧ NW U ∧ va_D (fun _ => True) [(o, .inr (4, [.int 0, .int 0, .int 0, .null, .null, .int 0, .int 0, .int 0, .int 0, .int 0, .int 0, .int 0, .int 0, .int 0]))] ∧ Zd te (va_A [(o, .inr (4, [.int 0, .int 0, .int 0, .null, .null, .int 0, .int 0, .int 0, .int 0, .int 0, .int 0, .int 0, .int 0, .int 0]))] sz) U U.heap)) (va_Qv (fun (u : Nat × Nat) => True) (fun u t => va_P (dC, dI) vwCl [(o, .inr (4, [.int a0, .int a1, .int a3, .ref u.1, .ref u.2, .int a2, .int 0, .int 0, .int 0, .int 0, .int (-9), .int (-9), .int 0, .int 0])), (u.1, .inr (0, [.int 0, .ref te, .int 0])), (u.2, .inr (0, [.int 0, .ref te, .int 0]))] t.heap ∧ va_K (dC, dI) vwCl [] t ∧ va_D (va_A [(o, .inr (4, [.int 0, .int 0, .int 0, .null, .null, .int 0, .int 0, .int 0, .int 0, .int 0, .int 0, .int 0, .int 0, .int 0]))] sz) [(o, .inr (4, [.int a0, .int a1, .int a3, .ref u.1, .ref u.2, .int a2, .int 0, .int 0, .int 0, .int 0, .int (-9), .int (-9), .int 0, .int 0])), (u.1, .inr (0, [.int 0, .ref te, .int 0])), (u.2, .inr (0, [.int 0, .ref te, .int 0]))]) (va_A [(o, .inr (4, [.int 0, .int 0, .int 0, .null, .null, .int 0, .int 0, .int 0, .int 0, .int 0, .int 0, .int 0, .int 0, .int 0]))] sz)) 2 6 (va_A [(o, .inr (4, [.int 0, .int 0, .int 0, .null, .null, .int 0, .int 0, .int 0, .int 0, .int 0, .int 0, .int 0, .int 0, .int 0]))] sz) := by
  refine Met.ofW (cc := cX3_init) (maxL := 5) (ret := none) (by decide) rfl ?_
  intro p e s m args below meth c s₁ B hml hv
  obtain ⟨rfl, hsz, hP, hK, hN, hD0, hZ⟩ := hv
  have hx := B.exec
  have hb := B.bytes
  have hr := B.returns
  have hts := atoms_spec (ws := wsX3_init) B.pre
  have hown : s.vm.findClass RX3 = some m.cls := findClass_of_methodNamed B.named
  have hlocks := B.notSynchronized
  have hin : meth.name = "<init>" := (name_of_methodNamed B.named B.method).1
  subst hsz
  have hD := hD0.self (sz := s.heap.size)
  generalize hAe : va_A [(o, .inr (4, [.int 0, .int 0, .int 0, .null, .null, .int 0, .int 0, .int 0, .int 0, .int 0, .int 0, .int 0, .int 0, .int 0]))] s.heap.size = A at hD hZ ⊢
  have hA : ∀ q : Nat, s.heap.size ≤ q → A q := fun q h => by rw [← hAe]; exact Or.inr h
  have hS : va_S A s.heap s.heap [] := va_S.rf
  have hP : va_P (dC, dI) vwCl [(o, .inr (4, [.int 0, .int 0, .int 0, .null, .null, .int 0, .int 0, .int 0, .int 0, .int 0, .int 0, .int 0, .int 0, .int 0]))] s.heap := hP
  have hl := lv_entry ([.ref o, .int a0, .int a1, .int a2, .int a3]) (n := 5) (Nat.le_of_ble_eq_true rfl)
  rw [lg_entry_eq]
  generalize (lg_sl ([.ref o, .int a0, .int a1, .int a2, .int a3]) ++ List.replicate (5 - (lg_sl ([.ref o, .int a0, .int a1, .int a2, .int a3])).length) Slot.unset).toArray = ls at hl ⊢
  have hl : lv_has ls 5 [(0, .ref o), (1, .int a0), (2, .int a1), (3, .int a2), (4, .int a3)] := hl
  refine lv_aload_n hx hb dX3_init_0 rfl (lv_at hl 0 rfl) ?_
  refine W.objInit hx hb hown (hts (.methodLink RX3 3 objectInit) (by decide +kernel)) (hts (.instanceMethod objectInit) (by decide +kernel)) (hts (.code objectInit ⟨#[0xb1]⟩ 1 none) (by decide +kernel)) rfl (by rw [hml]; exact hl.1) rfl dX3_init_1 (Nat.le_of_ble_eq_true rfl) (Nat.le_of_ble_eq_true rfl) ?_
  refine W.eq (g2 := F0 m 4 ls []) rfl ?_
  refine lv_aload_n hx hb dX3_init_4 rfl (lv_at hl 0 rfl) ?_
  refine va_new (ci := 0) (fs := [.int 0, .null, .int 0]) (C := RJx4a65c) (T := TJx4a65c) (N := 3) hx hb hts iw_X3_init_Jx4a65c tyJx4a65c tyJx4a65c_ok hown (hts (.classLink RX3 9 RJx4a65c) (by decide +kernel)) (hts (.instantiable RJx4a65c 3) (by decide +kernel)) (hts (.initialized RJx4a65c) (by decide +kernel)) hK hP hD hS hA rfl (fun j hj => by rcases (show j = 0 ∨ j = 1 ∨ j = 2 by omega) with rfl | rfl | rfl <;> rfl) (Nat.le_of_ble_eq_true rfl) (Nat.le_of_ble_eq_true rfl) dX3_init_5 (fun q_1 H hP hD hS => ?_)
  have hP : va_P (dC, dI) vwCl [(o, .inr (4, [.int 0, .int 0, .int 0, .null, .null, .int 0, .int 0, .int 0, .int 0, .int 0, .int 0, .int 0, .int 0, .int 0])), (q_1, .inr (0, [.int 0, .null, .int 0]))] H := hP
  have hD : va_D A [(o, .inr (4, [.int 0, .int 0, .int 0, .null, .null, .int 0, .int 0, .int 0, .int 0, .int 0, .int 0, .int 0, .int 0, .int 0])), (q_1, .inr (0, [.int 0, .null, .int 0]))] := hD
  refine W.widen (k := 1) (n := 3) (Nat.le_of_ble_eq_true rfl) (Nat.le_of_ble_eq_true rfl) ?_
  refine lv_dup hx hb dX3_init_8 rfl ?_
  have hPc := hP.sub (ws' := [(q_1, .inr (0, [.int 0, .null, .int 0]))]) [1] rfl
  have hDc := hD.sub (ws' := [(q_1, .inr (0, [.int 0, .null, .int 0]))]) [1] (by decide) rfl
  have hKc := hK.sub (tys' := []) [] rfl
  have hFc := va_free (wc := [(q_1, .inr (0, [.int 0, .null, .int 0]))]) hD hS hA [1] rfl
  refine va_callv (va_runI (As := []) (rest := [.ref q_1, .ref o]) ⟨hx, hb, hml, hown, hts⟩ (c_Jx4a65c_init_da8c8 l dC dI H.size q_1 te ) (cwI 0 hts gX3_init_Jx4a65c_init_da8c8 rfl rfl rfl (hts (.initialized RJx4a65c) (by decide +kernel)) (hts (.methodLink RX3 11 yJx4a65c_init_da8c8) (by decide +kernel)) (hts (.instanceMethod yJx4a65c_init_da8c8) (by decide +kernel)) rfl (by decide +kernel) ⟨Nat.le_of_ble_eq_true rfl, Nat.le_of_ble_eq_true rfl⟩) ⟨fun a U g mk q => by obtain ⟨q0, q1, qP, qK, qN, qD, qZ⟩ := q; exact ⟨q0, q1, qP, va_K.moved (u := U) (U := U.calling g mk a) (Vm.Alike.refl U.vm) qK, NW.same (u := U) (U := U.calling g mk a) rfl qN, qD, Zd.moved (u := U) (U := U.calling g mk a) (Vm.Alike.refl U.vm) qZ⟩, fun U hU hW => ⟨rfl, by rw [hU], by rw [hU]; exact hPc, va_K.moved hW.alike hKc, NW.warm hW hN, hDc.weaken (fun _ _ _ _ => trivial), by rw [hU]; exact Zd.pass hZ hS.2.1 hFc hW.alike⟩⟩ rfl rfl hl.1 rfl (lv_room (Nat.le_of_ble_eq_true rfl)) dX3_init_9 ⟨Nat.le_of_ble_eq_true rfl, Nat.le_of_ble_eq_true rfl⟩) hS (fun q _ h => hFc q h) hFc (fun u t H1 locs ht hvm k_3 hB hz1 hk1 hS => ?_)
  obtain ⟨hP1, hK1, hD1⟩ := hB
  rw [ht] at hP1
  have hK1 := va_K.moved hvm.symm hK1
  obtain ⟨hP, hD⟩ := va_join (wr := [(o, .inr (4, [.int 0, .int 0, .int 0, .null, .null, .int 0, .int 0, .int 0, .int 0, .int 0, .int 0, .int 0, .int 0, .int 0]))]) (w1 := [(q_1, .inr (0, [.int 0, .ref te, .int 0]))]) hP hD [1] [0] rfl rfl (by decide) (by decide) hk1 hFc hP1 hD1
  generalize H1 = H at hP hS ⊢
  have hP : va_P (dC, dI) vwCl [(o, .inr (4, [.int 0, .int 0, .int 0, .null, .null, .int 0, .int 0, .int 0, .int 0, .int 0, .int 0, .int 0, .int 0, .int 0])), (q_1, .inr (0, [.int 0, .ref te, .int 0]))] H := hP
  have hD : va_D A [(o, .inr (4, [.int 0, .int 0, .int 0, .null, .null, .int 0, .int 0, .int 0, .int 0, .int 0, .int 0, .int 0, .int 0, .int 0])), (q_1, .inr (0, [.int 0, .ref te, .int 0]))] := hD
  try dsimp only at k_3
  refine va_putF (D := (dC, dI)) (ci := 4) (v := .ref q_1) (ty := .object "java/util/List") (C := RX3) (T := TX3) (N := 14) hx hb hts iw_X3_init_X3 tyX3 tyX3_ok nmX3 hown hK hP hD hS 0 rfl rfl 3 (by decide) (hts (.fieldLink RX3 12 "TeaRace$Ship" "orders" "Ljava/util/List;") (by decide +kernel)) (fun _ h9 => h9) rfl hin rfl (by decide +kernel) rfl rfl (Nat.le_of_ble_eq_true rfl) dX3_init_12 (fun H locs hP hD hS => ?_)
  have hP : va_P (dC, dI) vwCl [(o, .inr (4, [.int 0, .int 0, .int 0, .ref q_1, .null, .int 0, .int 0, .int 0, .int 0, .int 0, .int 0, .int 0, .int 0, .int 0])), (q_1, .inr (0, [.int 0, .ref te, .int 0]))] H := hP
  have hD : va_D A [(o, .inr (4, [.int 0, .int 0, .int 0, .ref q_1, .null, .int 0, .int 0, .int 0, .int 0, .int 0, .int 0, .int 0, .int 0, .int 0])), (q_1, .inr (0, [.int 0, .ref te, .int 0]))] := hD
  refine lv_aload_n hx hb dX3_init_15 rfl (lv_at hl 0 rfl) ?_
  refine va_new (ci := 0) (fs := [.int 0, .null, .int 0]) (C := RJx4a65c) (T := TJx4a65c) (N := 3) hx hb hts iw_X3_init_Jx4a65c tyJx4a65c tyJx4a65c_ok hown (hts (.classLink RX3 9 RJx4a65c) (by decide +kernel)) (hts (.instantiable RJx4a65c 3) (by decide +kernel)) (hts (.initialized RJx4a65c) (by decide +kernel)) hK hP hD hS hA rfl (fun j hj => by rcases (show j = 0 ∨ j = 1 ∨ j = 2 by omega) with rfl | rfl | rfl <;> rfl) (Nat.le_of_ble_eq_true rfl) (Nat.le_of_ble_eq_true rfl) dX3_init_16 (fun q_4 H hP hD hS => ?_)
  have hP : va_P (dC, dI) vwCl [(o, .inr (4, [.int 0, .int 0, .int 0, .ref q_1, .null, .int 0, .int 0, .int 0, .int 0, .int 0, .int 0, .int 0, .int 0, .int 0])), (q_1, .inr (0, [.int 0, .ref te, .int 0])), (q_4, .inr (0, [.int 0, .null, .int 0]))] H := hP
  have hD : va_D A [(o, .inr (4, [.int 0, .int 0, .int 0, .ref q_1, .null, .int 0, .int 0, .int 0, .int 0, .int 0, .int 0, .int 0, .int 0, .int 0])), (q_1, .inr (0, [.int 0, .ref te, .int 0])), (q_4, .inr (0, [.int 0, .null, .int 0]))] := hD
  refine W.widen (k := 2) (n := 6) (Nat.le_of_ble_eq_true rfl) (Nat.le_of_ble_eq_true rfl) ?_
  refine lv_dup hx hb dX3_init_19 rfl ?_
  have hPc := hP.sub (ws' := [(q_4, .inr (0, [.int 0, .null, .int 0]))]) [2] rfl
  have hDc := hD.sub (ws' := [(q_4, .inr (0, [.int 0, .null, .int 0]))]) [2] (by decide) rfl
  have hKc := hK.sub (tys' := []) [] rfl
  have hFc := va_free (wc := [(q_4, .inr (0, [.int 0, .null, .int 0]))]) hD hS hA [2] rfl
  refine va_callv (va_runI (As := []) (rest := [.ref q_4, .ref o]) ⟨hx, hb, hml, hown, hts⟩ (c_Jx4a65c_init_da8c8 l dC dI H.size q_4 te ) (cwI 0 hts gX3_init_Jx4a65c_init_da8c8 rfl rfl rfl (hts (.initialized RJx4a65c) (by decide +kernel)) (hts (.methodLink RX3 11 yJx4a65c_init_da8c8) (by decide +kernel)) (hts (.instanceMethod yJx4a65c_init_da8c8) (by decide +kernel)) rfl (by decide +kernel) ⟨Nat.le_of_ble_eq_true rfl, Nat.le_of_ble_eq_true rfl⟩) ⟨fun a U g mk q => by obtain ⟨q0, q1, qP, qK, qN, qD, qZ⟩ := q; exact ⟨q0, q1, qP, va_K.moved (u := U) (U := U.calling g mk a) (Vm.Alike.refl U.vm) qK, NW.same (u := U) (U := U.calling g mk a) rfl qN, qD, Zd.moved (u := U) (U := U.calling g mk a) (Vm.Alike.refl U.vm) qZ⟩, fun U hU hW => ⟨rfl, by rw [hU], by rw [hU]; exact hPc, va_K.moved hW.alike hKc, NW.warm hW hN, hDc.weaken (fun _ _ _ _ => trivial), by rw [hU]; exact Zd.pass hZ hS.2.1 hFc hW.alike⟩⟩ rfl rfl hl.1 rfl (lv_room (Nat.le_of_ble_eq_true rfl)) dX3_init_20 ⟨Nat.le_of_ble_eq_true rfl, Nat.le_of_ble_eq_true rfl⟩) hS (fun q _ h => hFc q h) hFc (fun u t H1 locs ht hvm k_6 hB hz1 hk1 hS => ?_)
  obtain ⟨hP1, hK1, hD1⟩ := hB
  rw [ht] at hP1
  have hK1 := va_K.moved hvm.symm hK1
  obtain ⟨hP, hD⟩ := va_join (wr := [(o, .inr (4, [.int 0, .int 0, .int 0, .ref q_1, .null, .int 0, .int 0, .int 0, .int 0, .int 0, .int 0, .int 0, .int 0, .int 0])), (q_1, .inr (0, [.int 0, .ref te, .int 0]))]) (w1 := [(q_4, .inr (0, [.int 0, .ref te, .int 0]))]) hP hD [2] [0, 1] rfl rfl (by decide) (by decide) hk1 hFc hP1 hD1
  generalize H1 = H at hP hS ⊢
  have hP : va_P (dC, dI) vwCl [(o, .inr (4, [.int 0, .int 0, .int 0, .ref q_1, .null, .int 0, .int 0, .int 0, .int 0, .int 0, .int 0, .int 0, .int 0, .int 0])), (q_1, .inr (0, [.int 0, .ref te, .int 0])), (q_4, .inr (0, [.int 0, .ref te, .int 0]))] H := hP
  have hD : va_D A [(o, .inr (4, [.int 0, .int 0, .int 0, .ref q_1, .null, .int 0, .int 0, .int 0, .int 0, .int 0, .int 0, .int 0, .int 0, .int 0])), (q_1, .inr (0, [.int 0, .ref te, .int 0])), (q_4, .inr (0, [.int 0, .ref te, .int 0]))] := hD
  try dsimp only at k_6
  refine va_putF (D := (dC, dI)) (ci := 4) (v := .ref q_4) (ty := .object "java/util/List") (C := RX3) (T := TX3) (N := 14) hx hb hts iw_X3_init_X3 tyX3 tyX3_ok nmX3 hown hK hP hD hS 0 rfl rfl 4 (by decide) (hts (.fieldLink RX3 18 "TeaRace$Ship" "sights" "Ljava/util/List;") (by decide +kernel)) (fun _ h9 => h9) rfl hin rfl (by decide +kernel) rfl rfl (Nat.le_of_ble_eq_true rfl) dX3_init_23 (fun H locs hP hD hS => ?_)
  have hP : va_P (dC, dI) vwCl [(o, .inr (4, [.int 0, .int 0, .int 0, .ref q_1, .ref q_4, .int 0, .int 0, .int 0, .int 0, .int 0, .int 0, .int 0, .int 0, .int 0])), (q_1, .inr (0, [.int 0, .ref te, .int 0])), (q_4, .inr (0, [.int 0, .ref te, .int 0]))] H := hP
  have hD : va_D A [(o, .inr (4, [.int 0, .int 0, .int 0, .ref q_1, .ref q_4, .int 0, .int 0, .int 0, .int 0, .int 0, .int 0, .int 0, .int 0, .int 0])), (q_1, .inr (0, [.int 0, .ref te, .int 0])), (q_4, .inr (0, [.int 0, .ref te, .int 0]))] := hD
  refine lv_aload_n hx hb dX3_init_26 rfl (lv_at hl 0 rfl) ?_
  refine lv_iconst (v := 0) hx hb dX3_init_27 (by decide) ?_
  refine va_put (D := (dC, dI)) (ci := 4) (v := .int 0) (ty := .int) (C := RX3) (T := TX3) (N := 14) hx hb hts iw_X3_init_X3 tyX3 tyX3_ok nmX3 hown hK hP hD hS 0 rfl rfl 6 (by decide) (hts (.fieldLink RX3 21 "TeaRace$Ship" "gone" "I") (by decide +kernel)) (fun _ h9 => h9) rfl (by decide +kernel) rfl rfl (Nat.le_of_ble_eq_true rfl) dX3_init_28 (fun H locs hP hD hS => ?_)
  have hP : va_P (dC, dI) vwCl [(o, .inr (4, [.int 0, .int 0, .int 0, .ref q_1, .ref q_4, .int 0, .int 0, .int 0, .int 0, .int 0, .int 0, .int 0, .int 0, .int 0])), (q_1, .inr (0, [.int 0, .ref te, .int 0])), (q_4, .inr (0, [.int 0, .ref te, .int 0]))] H := hP
  have hD : va_D A [(o, .inr (4, [.int 0, .int 0, .int 0, .ref q_1, .ref q_4, .int 0, .int 0, .int 0, .int 0, .int 0, .int 0, .int 0, .int 0, .int 0])), (q_1, .inr (0, [.int 0, .ref te, .int 0])), (q_4, .inr (0, [.int 0, .ref te, .int 0]))] := hD
  refine lv_aload_n hx hb dX3_init_31 rfl (lv_at hl 0 rfl) ?_
  refine lv_iconst (v := 0) hx hb dX3_init_32 (by decide) ?_
  refine va_put (D := (dC, dI)) (ci := 4) (v := .int 0) (ty := .int) (C := RX3) (T := TX3) (N := 14) hx hb hts iw_X3_init_X3 tyX3 tyX3_ok nmX3 hown hK hP hD hS 0 rfl rfl 7 (by decide) (hts (.fieldLink RX3 25 "TeaRace$Ship" "way" "I") (by decide +kernel)) (fun _ h9 => h9) rfl (by decide +kernel) rfl rfl (Nat.le_of_ble_eq_true rfl) dX3_init_33 (fun H locs hP hD hS => ?_)
  have hP : va_P (dC, dI) vwCl [(o, .inr (4, [.int 0, .int 0, .int 0, .ref q_1, .ref q_4, .int 0, .int 0, .int 0, .int 0, .int 0, .int 0, .int 0, .int 0, .int 0])), (q_1, .inr (0, [.int 0, .ref te, .int 0])), (q_4, .inr (0, [.int 0, .ref te, .int 0]))] H := hP
  have hD : va_D A [(o, .inr (4, [.int 0, .int 0, .int 0, .ref q_1, .ref q_4, .int 0, .int 0, .int 0, .int 0, .int 0, .int 0, .int 0, .int 0, .int 0])), (q_1, .inr (0, [.int 0, .ref te, .int 0])), (q_4, .inr (0, [.int 0, .ref te, .int 0]))] := hD
  refine lv_aload_n hx hb dX3_init_36 rfl (lv_at hl 0 rfl) ?_
  refine lv_iconst (v := 0) hx hb dX3_init_37 (by decide) ?_
  refine va_put (D := (dC, dI)) (ci := 4) (v := .int 0) (ty := .int) (C := RX3) (T := TX3) (N := 14) hx hb hts iw_X3_init_X3 tyX3 tyX3_ok nmX3 hown hK hP hD hS 0 rfl rfl 8 (by decide) (hts (.fieldLink RX3 28 "TeaRace$Ship" "foulness" "I") (by decide +kernel)) (fun _ h9 => h9) rfl (by decide +kernel) rfl rfl (Nat.le_of_ble_eq_true rfl) dX3_init_38 (fun H locs hP hD hS => ?_)
  have hP : va_P (dC, dI) vwCl [(o, .inr (4, [.int 0, .int 0, .int 0, .ref q_1, .ref q_4, .int 0, .int 0, .int 0, .int 0, .int 0, .int 0, .int 0, .int 0, .int 0])), (q_1, .inr (0, [.int 0, .ref te, .int 0])), (q_4, .inr (0, [.int 0, .ref te, .int 0]))] H := hP
  have hD : va_D A [(o, .inr (4, [.int 0, .int 0, .int 0, .ref q_1, .ref q_4, .int 0, .int 0, .int 0, .int 0, .int 0, .int 0, .int 0, .int 0, .int 0])), (q_1, .inr (0, [.int 0, .ref te, .int 0])), (q_4, .inr (0, [.int 0, .ref te, .int 0]))] := hD
  refine lv_aload_n hx hb dX3_init_41 rfl (lv_at hl 0 rfl) ?_
  refine lv_iconst (v := 0) hx hb dX3_init_42 (by decide) ?_
  refine va_put (D := (dC, dI)) (ci := 4) (v := .int 0) (ty := .int) (C := RX3) (T := TX3) (N := 14) hx hb hts iw_X3_init_X3 tyX3 tyX3_ok nmX3 hown hK hP hD hS 0 rfl rfl 9 (by decide) (hts (.fieldLink RX3 31 "TeaRace$Ship" "cellsComeTo" "I") (by decide +kernel)) (fun _ h9 => h9) rfl (by decide +kernel) rfl rfl (Nat.le_of_ble_eq_true rfl) dX3_init_43 (fun H locs hP hD hS => ?_)
  have hP : va_P (dC, dI) vwCl [(o, .inr (4, [.int 0, .int 0, .int 0, .ref q_1, .ref q_4, .int 0, .int 0, .int 0, .int 0, .int 0, .int 0, .int 0, .int 0, .int 0])), (q_1, .inr (0, [.int 0, .ref te, .int 0])), (q_4, .inr (0, [.int 0, .ref te, .int 0]))] H := hP
  have hD : va_D A [(o, .inr (4, [.int 0, .int 0, .int 0, .ref q_1, .ref q_4, .int 0, .int 0, .int 0, .int 0, .int 0, .int 0, .int 0, .int 0, .int 0])), (q_1, .inr (0, [.int 0, .ref te, .int 0])), (q_4, .inr (0, [.int 0, .ref te, .int 0]))] := hD
  refine lv_aload_n hx hb dX3_init_46 rfl (lv_at hl 0 rfl) ?_
  refine lv_bipush (v := (-9)) hx hb dX3_init_47 (by decide) ?_
  refine va_put (D := (dC, dI)) (ci := 4) (v := .int (-9)) (ty := .int) (C := RX3) (T := TX3) (N := 14) hx hb hts iw_X3_init_X3 tyX3 tyX3_ok nmX3 hown hK hP hD hS 0 rfl rfl 10 (by decide) (hts (.fieldLink RX3 34 "TeaRace$Ship" "homeHour" "I") (by decide +kernel)) (fun _ h9 => h9) rfl (by decide +kernel) rfl rfl (Nat.le_of_ble_eq_true rfl) dX3_init_49 (fun H locs hP hD hS => ?_)
  have hP : va_P (dC, dI) vwCl [(o, .inr (4, [.int 0, .int 0, .int 0, .ref q_1, .ref q_4, .int 0, .int 0, .int 0, .int 0, .int 0, .int (-9), .int 0, .int 0, .int 0])), (q_1, .inr (0, [.int 0, .ref te, .int 0])), (q_4, .inr (0, [.int 0, .ref te, .int 0]))] H := hP
  have hD : va_D A [(o, .inr (4, [.int 0, .int 0, .int 0, .ref q_1, .ref q_4, .int 0, .int 0, .int 0, .int 0, .int 0, .int (-9), .int 0, .int 0, .int 0])), (q_1, .inr (0, [.int 0, .ref te, .int 0])), (q_4, .inr (0, [.int 0, .ref te, .int 0]))] := hD
  refine lv_aload_n hx hb dX3_init_52 rfl (lv_at hl 0 rfl) ?_
  refine lv_bipush (v := (-9)) hx hb dX3_init_53 (by decide) ?_
  refine va_put (D := (dC, dI)) (ci := 4) (v := .int (-9)) (ty := .int) (C := RX3) (T := TX3) (N := 14) hx hb hts iw_X3_init_X3 tyX3 tyX3_ok nmX3 hown hK hP hD hS 0 rfl rfl 11 (by decide) (hts (.fieldLink RX3 37 "TeaRace$Ship" "entry" "I") (by decide +kernel)) (fun _ h9 => h9) rfl (by decide +kernel) rfl rfl (Nat.le_of_ble_eq_true rfl) dX3_init_55 (fun H locs hP hD hS => ?_)
  have hP : va_P (dC, dI) vwCl [(o, .inr (4, [.int 0, .int 0, .int 0, .ref q_1, .ref q_4, .int 0, .int 0, .int 0, .int 0, .int 0, .int (-9), .int (-9), .int 0, .int 0])), (q_1, .inr (0, [.int 0, .ref te, .int 0])), (q_4, .inr (0, [.int 0, .ref te, .int 0]))] H := hP
  have hD : va_D A [(o, .inr (4, [.int 0, .int 0, .int 0, .ref q_1, .ref q_4, .int 0, .int 0, .int 0, .int 0, .int 0, .int (-9), .int (-9), .int 0, .int 0])), (q_1, .inr (0, [.int 0, .ref te, .int 0])), (q_4, .inr (0, [.int 0, .ref te, .int 0]))] := hD
  refine lv_aload_n hx hb dX3_init_58 rfl (lv_at hl 0 rfl) ?_
  refine lv_iconst (v := 0) hx hb dX3_init_59 (by decide) ?_
  refine va_put (D := (dC, dI)) (ci := 4) (v := .int 0) (ty := .int) (C := RX3) (T := TX3) (N := 14) hx hb hts iw_X3_init_X3 tyX3 tyX3_ok nmX3 hown hK hP hD hS 0 rfl rfl 12 (by decide) (hts (.fieldLink RX3 40 "TeaRace$Ship" "rate" "I") (by decide +kernel)) (fun _ h9 => h9) rfl (by decide +kernel) rfl rfl (Nat.le_of_ble_eq_true rfl) dX3_init_60 (fun H locs hP hD hS => ?_)
  have hP : va_P (dC, dI) vwCl [(o, .inr (4, [.int 0, .int 0, .int 0, .ref q_1, .ref q_4, .int 0, .int 0, .int 0, .int 0, .int 0, .int (-9), .int (-9), .int 0, .int 0])), (q_1, .inr (0, [.int 0, .ref te, .int 0])), (q_4, .inr (0, [.int 0, .ref te, .int 0]))] H := hP
  have hD : va_D A [(o, .inr (4, [.int 0, .int 0, .int 0, .ref q_1, .ref q_4, .int 0, .int 0, .int 0, .int 0, .int 0, .int (-9), .int (-9), .int 0, .int 0])), (q_1, .inr (0, [.int 0, .ref te, .int 0])), (q_4, .inr (0, [.int 0, .ref te, .int 0]))] := hD
  refine lv_aload_n hx hb dX3_init_63 rfl (lv_at hl 0 rfl) ?_
  refine lv_iconst (v := 0) hx hb dX3_init_64 (by decide) ?_
  refine va_put (D := (dC, dI)) (ci := 4) (v := .int 0) (ty := .int) (C := RX3) (T := TX3) (N := 14) hx hb hts iw_X3_init_X3 tyX3 tyX3_ok nmX3 hown hK hP hD hS 0 rfl rfl 13 (by decide) (hts (.fieldLink RX3 43 "TeaRace$Ship" "premium" "I") (by decide +kernel)) (fun _ h9 => h9) rfl (by decide +kernel) rfl rfl (Nat.le_of_ble_eq_true rfl) dX3_init_65 (fun H locs hP hD hS => ?_)
  have hP : va_P (dC, dI) vwCl [(o, .inr (4, [.int 0, .int 0, .int 0, .ref q_1, .ref q_4, .int 0, .int 0, .int 0, .int 0, .int 0, .int (-9), .int (-9), .int 0, .int 0])), (q_1, .inr (0, [.int 0, .ref te, .int 0])), (q_4, .inr (0, [.int 0, .ref te, .int 0]))] H := hP
  have hD : va_D A [(o, .inr (4, [.int 0, .int 0, .int 0, .ref q_1, .ref q_4, .int 0, .int 0, .int 0, .int 0, .int 0, .int (-9), .int (-9), .int 0, .int 0])), (q_1, .inr (0, [.int 0, .ref te, .int 0])), (q_4, .inr (0, [.int 0, .ref te, .int 0]))] := hD
  refine lv_aload_n hx hb dX3_init_68 rfl (lv_at hl 0 rfl) ?_
  refine lv_iload_n hx hb dX3_init_69 rfl (lv_at hl 1 rfl) ?_
  refine va_putF (D := (dC, dI)) (ci := 4) (v := .int a0) (ty := .int) (C := RX3) (T := TX3) (N := 14) hx hb hts iw_X3_init_X3 tyX3 tyX3_ok nmX3 hown hK hP hD hS 0 rfl rfl 0 (by decide) (hts (.fieldLink RX3 46 "TeaRace$Ship" "number" "I") (by decide +kernel)) (fun _ h9 => h9) rfl hin rfl (by decide +kernel) rfl rfl (Nat.le_of_ble_eq_true rfl) dX3_init_70 (fun H locs hP hD hS => ?_)
  have hP : va_P (dC, dI) vwCl [(o, .inr (4, [.int a0, .int 0, .int 0, .ref q_1, .ref q_4, .int 0, .int 0, .int 0, .int 0, .int 0, .int (-9), .int (-9), .int 0, .int 0])), (q_1, .inr (0, [.int 0, .ref te, .int 0])), (q_4, .inr (0, [.int 0, .ref te, .int 0]))] H := hP
  have hD : va_D A [(o, .inr (4, [.int a0, .int 0, .int 0, .ref q_1, .ref q_4, .int 0, .int 0, .int 0, .int 0, .int 0, .int (-9), .int (-9), .int 0, .int 0])), (q_1, .inr (0, [.int 0, .ref te, .int 0])), (q_4, .inr (0, [.int 0, .ref te, .int 0]))] := hD
  refine lv_aload_n hx hb dX3_init_73 rfl (lv_at hl 0 rfl) ?_
  refine lv_iload_n hx hb dX3_init_74 rfl (lv_at hl 2 rfl) ?_
  refine va_putF (D := (dC, dI)) (ci := 4) (v := .int a1) (ty := .int) (C := RX3) (T := TX3) (N := 14) hx hb hts iw_X3_init_X3 tyX3 tyX3_ok nmX3 hown hK hP hD hS 0 rfl rfl 1 (by decide) (hts (.fieldLink RX3 49 "TeaRace$Ship" "kind" "I") (by decide +kernel)) (fun _ h9 => h9) rfl hin rfl (by decide +kernel) rfl rfl (Nat.le_of_ble_eq_true rfl) dX3_init_75 (fun H locs hP hD hS => ?_)
  have hP : va_P (dC, dI) vwCl [(o, .inr (4, [.int a0, .int a1, .int 0, .ref q_1, .ref q_4, .int 0, .int 0, .int 0, .int 0, .int 0, .int (-9), .int (-9), .int 0, .int 0])), (q_1, .inr (0, [.int 0, .ref te, .int 0])), (q_4, .inr (0, [.int 0, .ref te, .int 0]))] H := hP
  have hD : va_D A [(o, .inr (4, [.int a0, .int a1, .int 0, .ref q_1, .ref q_4, .int 0, .int 0, .int 0, .int 0, .int 0, .int (-9), .int (-9), .int 0, .int 0])), (q_1, .inr (0, [.int 0, .ref te, .int 0])), (q_4, .inr (0, [.int 0, .ref te, .int 0]))] := hD
  refine lv_aload_n hx hb dX3_init_78 rfl (lv_at hl 0 rfl) ?_
  refine lv_iload_n hx hb dX3_init_79 rfl (lv_at hl 3 rfl) ?_
  refine va_put (D := (dC, dI)) (ci := 4) (v := .int a2) (ty := .int) (C := RX3) (T := TX3) (N := 14) hx hb hts iw_X3_init_X3 tyX3 tyX3_ok nmX3 hown hK hP hD hS 0 rfl rfl 5 (by decide) (hts (.fieldLink RX3 52 "TeaRace$Ship" "cell" "I") (by decide +kernel)) (fun _ h9 => h9) rfl (by decide +kernel) rfl rfl (Nat.le_of_ble_eq_true rfl) dX3_init_80 (fun H locs hP hD hS => ?_)
  have hP : va_P (dC, dI) vwCl [(o, .inr (4, [.int a0, .int a1, .int 0, .ref q_1, .ref q_4, .int a2, .int 0, .int 0, .int 0, .int 0, .int (-9), .int (-9), .int 0, .int 0])), (q_1, .inr (0, [.int 0, .ref te, .int 0])), (q_4, .inr (0, [.int 0, .ref te, .int 0]))] H := hP
  have hD : va_D A [(o, .inr (4, [.int a0, .int a1, .int 0, .ref q_1, .ref q_4, .int a2, .int 0, .int 0, .int 0, .int 0, .int (-9), .int (-9), .int 0, .int 0])), (q_1, .inr (0, [.int 0, .ref te, .int 0])), (q_4, .inr (0, [.int 0, .ref te, .int 0]))] := hD
  refine lv_aload_n hx hb dX3_init_83 rfl (lv_at hl 0 rfl) ?_
  refine lv_iload hx hb dX3_init_84 (lv_at hl 4 rfl) ?_
  refine va_putF (D := (dC, dI)) (ci := 4) (v := .int a3) (ty := .int) (C := RX3) (T := TX3) (N := 14) hx hb hts iw_X3_init_X3 tyX3 tyX3_ok nmX3 hown hK hP hD hS 0 rfl rfl 2 (by decide) (hts (.fieldLink RX3 55 "TeaRace$Ship" "chests" "I") (by decide +kernel)) (fun _ h9 => h9) rfl hin rfl (by decide +kernel) rfl rfl (Nat.le_of_ble_eq_true rfl) dX3_init_86 (fun H locs hP hD hS => ?_)
  have hP : va_P (dC, dI) vwCl [(o, .inr (4, [.int a0, .int a1, .int a3, .ref q_1, .ref q_4, .int a2, .int 0, .int 0, .int 0, .int 0, .int (-9), .int (-9), .int 0, .int 0])), (q_1, .inr (0, [.int 0, .ref te, .int 0])), (q_4, .inr (0, [.int 0, .ref te, .int 0]))] H := hP
  have hD : va_D A [(o, .inr (4, [.int a0, .int a1, .int a3, .ref q_1, .ref q_4, .int a2, .int 0, .int 0, .int 0, .int 0, .int (-9), .int (-9), .int 0, .int 0])), (q_1, .inr (0, [.int 0, .ref te, .int 0])), (q_4, .inr (0, [.int 0, .ref te, .int 0]))] := hD
  have hP9 := hP.sub (ws' := [(o, .inr (4, [.int a0, .int a1, .int a3, .ref q_1, .ref q_4, .int a2, .int 0, .int 0, .int 0, .int 0, .int (-9), .int (-9), .int 0, .int 0])), (q_1, .inr (0, [.int 0, .ref te, .int 0])), (q_4, .inr (0, [.int 0, .ref te, .int 0]))]) [0, 1, 2] rfl
  have hD9 := hD.sub (ws' := [(o, .inr (4, [.int a0, .int a1, .int a3, .ref q_1, .ref q_4, .int a2, .int 0, .int 0, .int 0, .int 0, .int (-9), .int (-9), .int 0, .int 0])), (q_1, .inr (0, [.int 0, .ref te, .int 0])), (q_4, .inr (0, [.int 0, .ref te, .int 0]))]) [0, 1, 2] (by decide) rfl
  have hK9 := hK.sub (tys' := []) [] rfl
  refine W.widen (k := 2) (n := 6) (Nat.le_of_ble_eq_true rfl) (Nat.le_of_ble_eq_true rfl) ?_
  exact W.vret hx hb hr (fun t ht hW => ⟨⟨(q_1, q_4), rfl, trivial, ⟨by rw [ht]; exact hP9, va_K.moved hW.alike hK9, hD9⟩⟩, hS.F ht⟩) hS.2.2 dX3_init_89
