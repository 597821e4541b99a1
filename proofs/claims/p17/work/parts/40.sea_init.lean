set_option maxRecDepth 20000 in
theorem iw_X2_init_X2 : ∀ w ∈ wsX20, w ∈ wsX2_init := by decide +kernel
set_option maxHeartbeats 4000000 in
set_option maxRecDepth 100000 in
/-- Sea() -/
theorem c_X2_init (l : Launch) (dC : Nat → ClassId) (dI : Nat → Nat → Nat) (sz : Nat) (h0 : Nat) (cZ : ClassId) (cB : ClassId)  : Met l yX2_init wsX2_init ({ frames := 1, cells := 15, slots := 2104, locals := 12 }) (va_Pc [.ref h0] (fun U => U.heap.size = sz ∧ va_P (dC, dI) vwCl [(h0, .inr (3, [.null, .null, .null]))] U.heap ∧ va_K (dC, dI) vwCl [(cZ, .boolean), (cB, .byte)] U ∧ NW U ∧ va_D (fun _ => True) [(h0, .inr (3, [.null, .null, .null]))])) (va_Qv (fun (_ : Unit) => True) (fun _ t => ∃ (lc : Nat), ∃ (ct : Nat), ∃ (ch : Nat), ∃ (rr : Nat → Nat), ∃ (cV : ClassId), va_P (dC, dI) vwCl [(h0, .inr (3, [.ref lc, .ref ct, .ref ch])), (lc, .inl (cZ, 160, .inl (fun _ => 0))), (ct, .inl (cZ, 12, .inl (fun _ => 0))), (ch, .inl (cV, 12, .inr (.inr (.inr (.inr (fun i => if i < 12 then some (rr i) else none)))))), ((rr 0), .inl (cB, 160, .inl (fun _ => 0))), ((rr 1), .inl (cB, 160, .inl (fun _ => 0))), ((rr 2), .inl (cB, 160, .inl (fun _ => 0))), ((rr 3), .inl (cB, 160, .inl (fun _ => 0))), ((rr 4), .inl (cB, 160, .inl (fun _ => 0))), ((rr 5), .inl (cB, 160, .inl (fun _ => 0))), ((rr 6), .inl (cB, 160, .inl (fun _ => 0))), ((rr 7), .inl (cB, 160, .inl (fun _ => 0))), ((rr 8), .inl (cB, 160, .inl (fun _ => 0))), ((rr 9), .inl (cB, 160, .inl (fun _ => 0))), ((rr 10), .inl (cB, 160, .inl (fun _ => 0))), ((rr 11), .inl (cB, 160, .inl (fun _ => 0)))] t.heap ∧ va_K (dC, dI) vwCl [(cZ, .boolean), (cB, .byte), (cV, .array .byte)] t ∧ va_D (va_A [(h0, .inr (3, [.null, .null, .null]))] sz) [(h0, .inr (3, [.ref lc, .ref ct, .ref ch])), (lc, .inl (cZ, 160, .inl (fun _ => 0))), (ct, .inl (cZ, 12, .inl (fun _ => 0))), (ch, .inl (cV, 12, .inr (.inr (.inr (.inr (fun i => if i < 12 then some (rr i) else none)))))), ((rr 0), .inl (cB, 160, .inl (fun _ => 0))), ((rr 1), .inl (cB, 160, .inl (fun _ => 0))), ((rr 2), .inl (cB, 160, .inl (fun _ => 0))), ((rr 3), .inl (cB, 160, .inl (fun _ => 0))), ((rr 4), .inl (cB, 160, .inl (fun _ => 0))), ((rr 5), .inl (cB, 160, .inl (fun _ => 0))), ((rr 6), .inl (cB, 160, .inl (fun _ => 0))), ((rr 7), .inl (cB, 160, .inl (fun _ => 0))), ((rr 8), .inl (cB, 160, .inl (fun _ => 0))), ((rr 9), .inl (cB, 160, .inl (fun _ => 0))), ((rr 10), .inl (cB, 160, .inl (fun _ => 0))), ((rr 11), .inl (cB, 160, .inl (fun _ => 0)))]) (va_A [(h0, .inr (3, [.null, .null, .null]))] sz)) 15 2104 (va_A [(h0, .inr (3, [.null, .null, .null]))] sz) := by
  refine Met.ofW (cc := cX2_init) (maxL := 1) (ret := none) (by decide) rfl ?_
  intro p e s m args below meth c s₁ B hml hv
  obtain ⟨rfl, hsz, hP, hK, hN, hD0⟩ := hv
  have hx := B.exec
  have hb := B.bytes
  have hr := B.returns
  have hts := atoms_spec (ws := wsX2_init) B.pre
  have hown : s.vm.findClass RX2 = some m.cls := findClass_of_methodNamed B.named
  have hlocks := B.notSynchronized
  have hin : meth.name = "<init>" := (name_of_methodNamed B.named B.method).1
  subst hsz
  have hD := hD0.self (sz := s.heap.size)
  generalize hAe : va_A [(h0, .inr (3, [.null, .null, .null]))] s.heap.size = A at hD ⊢
  have hA : ∀ q : Nat, s.heap.size ≤ q → A q := fun q h => by rw [← hAe]; exact Or.inr h
  have hS : va_S A s.heap s.heap [] := va_S.rf
  have hP : va_P (dC, dI) vwCl [(h0, .inr (3, [.null, .null, .null]))] s.heap := hP
  have hl := lv_entry ([.ref h0]) (n := 1) (Nat.le_of_ble_eq_true rfl)
  rw [lg_entry_eq]
  generalize (lg_sl ([.ref h0]) ++ List.replicate (1 - (lg_sl ([.ref h0])).length) Slot.unset).toArray = ls at hl ⊢
  have hl : lv_has ls 1 [(0, .ref h0)] := hl
  refine lv_aload_n hx hb dX2_init_0 rfl (lv_at hl 0 rfl) ?_
  refine W.objInit hx hb hown (hts (.methodLink RX2 3 objectInit) (by decide +kernel)) (hts (.instanceMethod objectInit) (by decide +kernel)) (hts (.code objectInit ⟨#[0xb1]⟩ 1 none) (by decide +kernel)) rfl (by rw [hml]; exact hl.1) rfl dX2_init_1 (Nat.le_of_ble_eq_true rfl) (Nat.le_of_ble_eq_true rfl) ?_
  refine W.eq (g2 := F0 m 4 ls []) rfl ?_
  refine lv_aload_n hx hb dX2_init_4 rfl (lv_at hl 0 rfl) ?_
  refine lv_sipush (v := 160) hx hb dX2_init_5 (by decide) ?_
  refine va_newa (atype := .boolean) (a0 := (160, .inl (fun _ => 0))) (N' := 160) hx hb (hts (.arrayClass .boolean) (by decide +kernel)) rfl hK hP hD hS hA (fun _ => rfl) (by decide) rfl (Nat.le_of_ble_eq_true rfl) (Nat.le_of_ble_eq_true rfl) (Nat.le_of_ble_eq_true rfl) dX2_init_8 (fun q_1 cA_2 H hK hP hD hS => ?_)
  obtain rfl : cZ = cA_2 := va_uniq hK 0 2 rfl rfl
  have hK := hK.sub (tys' := [(cZ, .boolean), (cB, .byte)]) [0, 1] rfl
  have hP : va_P (dC, dI) vwCl [(h0, .inr (3, [.null, .null, .null])), (q_1, .inl (cZ, 160, .inl (fun _ => 0)))] H := hP
  have hD : va_D A [(h0, .inr (3, [.null, .null, .null])), (q_1, .inl (cZ, 160, .inl (fun _ => 0)))] := hD
  refine W.widen (k := 1) (n := 160) (Nat.le_of_ble_eq_true rfl) (Nat.le_of_ble_eq_true rfl) ?_
  refine va_putF (D := (dC, dI)) (ci := 3) (v := .ref q_1) (ty := .array .boolean) (C := RX2) (T := TX2) (N := 3) hx hb hts iw_X2_init_X2 tyX2 tyX2_ok nmX2 hown hK hP hD hS 0 rfl rfl 0 (by decide) (hts (.fieldLink RX2 9 "TeaRace$Sea" "landCells" "[Z") (by decide +kernel)) (fun _ h9 => h9) rfl hin rfl (by decide +kernel) rfl rfl (Nat.le_of_ble_eq_true rfl) dX2_init_10 (fun H locs hP hD hS => ?_)
  have hP : va_P (dC, dI) vwCl [(h0, .inr (3, [.ref q_1, .null, .null])), (q_1, .inl (cZ, 160, .inl (fun _ => 0)))] H := hP
  have hD : va_D A [(h0, .inr (3, [.ref q_1, .null, .null])), (q_1, .inl (cZ, 160, .inl (fun _ => 0)))] := hD
  refine lv_aload_n hx hb dX2_init_13 rfl (lv_at hl 0 rfl) ?_
  refine lv_bipush (v := 12) hx hb dX2_init_14 (by decide) ?_
  refine va_newa (atype := .boolean) (a0 := (12, .inl (fun _ => 0))) (N' := 12) hx hb (hts (.arrayClass .boolean) (by decide +kernel)) rfl hK hP hD hS hA (fun _ => rfl) (by decide) rfl (Nat.le_of_ble_eq_true rfl) (Nat.le_of_ble_eq_true rfl) (Nat.le_of_ble_eq_true rfl) dX2_init_16 (fun q_3 cA_4 H hK hP hD hS => ?_)
  obtain rfl : cZ = cA_4 := va_uniq hK 0 2 rfl rfl
  have hK := hK.sub (tys' := [(cZ, .boolean), (cB, .byte)]) [0, 1] rfl
  have hP : va_P (dC, dI) vwCl [(h0, .inr (3, [.ref q_1, .null, .null])), (q_1, .inl (cZ, 160, .inl (fun _ => 0))), (q_3, .inl (cZ, 12, .inl (fun _ => 0)))] H := hP
  have hD : va_D A [(h0, .inr (3, [.ref q_1, .null, .null])), (q_1, .inl (cZ, 160, .inl (fun _ => 0))), (q_3, .inl (cZ, 12, .inl (fun _ => 0)))] := hD
  refine W.widen (k := 2) (n := 172) (Nat.le_of_ble_eq_true rfl) (Nat.le_of_ble_eq_true rfl) ?_
  refine va_putF (D := (dC, dI)) (ci := 3) (v := .ref q_3) (ty := .array .boolean) (C := RX2) (T := TX2) (N := 3) hx hb hts iw_X2_init_X2 tyX2 tyX2_ok nmX2 hown hK hP hD hS 0 rfl rfl 1 (by decide) (hts (.fieldLink RX2 15 "TeaRace$Sea" "chartThere" "[Z") (by decide +kernel)) (fun _ h9 => h9) rfl hin rfl (by decide +kernel) rfl rfl (Nat.le_of_ble_eq_true rfl) dX2_init_18 (fun H locs hP hD hS => ?_)
  have hP : va_P (dC, dI) vwCl [(h0, .inr (3, [.ref q_1, .ref q_3, .null])), (q_1, .inl (cZ, 160, .inl (fun _ => 0))), (q_3, .inl (cZ, 12, .inl (fun _ => 0)))] H := hP
  have hD : va_D A [(h0, .inr (3, [.ref q_1, .ref q_3, .null])), (q_1, .inl (cZ, 160, .inl (fun _ => 0))), (q_3, .inl (cZ, 12, .inl (fun _ => 0)))] := hD
  refine lv_aload_n hx hb dX2_init_21 rfl (lv_at hl 0 rfl) ?_
  refine lv_bipush (v := 12) hx hb dX2_init_22 (by decide) ?_
  refine lv_sipush (v := 160) hx hb dX2_init_24 (by decide) ?_
  have hcy : s.vm.findClass (FieldType.array .byte).toString = some cB := (hK.2 1 _ rfl).2
  refine va_mna (X := [(h0, .inr (3, [.ref q_1, .ref q_3, .null])), (q_1, .inl (cZ, 160, .inl (fun _ => 0))), (q_3, .inl (cZ, 12, .inl (fun _ => 0)))]) (L := []) (f := fun _ => .inl (cB, 0, .inl (fun _ => 0))) (ty := .byte) (cy := cB) (N' := 12) (K' := 160) (z := (160, .inl (fun _ => 0))) hx hb hown (hts (.classLink RX2 18 "[[B") (by decide +kernel)) hN.aB (hts (.arrayClass .byte) (by decide +kernel)) hcy hK hP hD hS hA (by decide) (by decide) rfl rfl (Nat.le_of_ble_eq_true rfl) (Nat.le_of_ble_eq_true rfl) (Nat.le_of_ble_eq_true rfl) rfl rfl (Nat.le_of_ble_eq_true rfl) (Nat.le_of_ble_eq_true rfl) (fun c9 => by show ({ cls := c9, slots := Array.replicate 160 (.int 0), vm := .none } : Cell) = _; rw [arrV_new]; rfl) dX2_init_27 (fun q_5 rr cV H hinj hnl hK hP hD hS => ?_)
  rw [rows12] at hP hD
  have hP : va_P (dC, dI) vwCl [(h0, .inr (3, [.ref q_1, .ref q_3, .null])), (q_1, .inl (cZ, 160, .inl (fun _ => 0))), (q_3, .inl (cZ, 12, .inl (fun _ => 0))), (q_5, .inl (cV, 12, .inr (.inr (.inr (.inr (fun i => if i < 12 then some (rr i) else none)))))), ((rr 0), .inl (cB, 160, .inl (fun _ => 0))), ((rr 1), .inl (cB, 160, .inl (fun _ => 0))), ((rr 2), .inl (cB, 160, .inl (fun _ => 0))), ((rr 3), .inl (cB, 160, .inl (fun _ => 0))), ((rr 4), .inl (cB, 160, .inl (fun _ => 0))), ((rr 5), .inl (cB, 160, .inl (fun _ => 0))), ((rr 6), .inl (cB, 160, .inl (fun _ => 0))), ((rr 7), .inl (cB, 160, .inl (fun _ => 0))), ((rr 8), .inl (cB, 160, .inl (fun _ => 0))), ((rr 9), .inl (cB, 160, .inl (fun _ => 0))), ((rr 10), .inl (cB, 160, .inl (fun _ => 0))), ((rr 11), .inl (cB, 160, .inl (fun _ => 0)))] H := hP
  have hD : va_D A [(h0, .inr (3, [.ref q_1, .ref q_3, .null])), (q_1, .inl (cZ, 160, .inl (fun _ => 0))), (q_3, .inl (cZ, 12, .inl (fun _ => 0))), (q_5, .inl (cV, 12, .inr (.inr (.inr (.inr (fun i => if i < 12 then some (rr i) else none)))))), ((rr 0), .inl (cB, 160, .inl (fun _ => 0))), ((rr 1), .inl (cB, 160, .inl (fun _ => 0))), ((rr 2), .inl (cB, 160, .inl (fun _ => 0))), ((rr 3), .inl (cB, 160, .inl (fun _ => 0))), ((rr 4), .inl (cB, 160, .inl (fun _ => 0))), ((rr 5), .inl (cB, 160, .inl (fun _ => 0))), ((rr 6), .inl (cB, 160, .inl (fun _ => 0))), ((rr 7), .inl (cB, 160, .inl (fun _ => 0))), ((rr 8), .inl (cB, 160, .inl (fun _ => 0))), ((rr 9), .inl (cB, 160, .inl (fun _ => 0))), ((rr 10), .inl (cB, 160, .inl (fun _ => 0))), ((rr 11), .inl (cB, 160, .inl (fun _ => 0)))] := hD
  have hK : va_K (dC, dI) vwCl [(cZ, .boolean), (cB, .byte), (cV, .array .byte)] s := hK
  refine W.widen (k := 15) (n := 2104) (Nat.le_of_ble_eq_true rfl) (Nat.le_of_ble_eq_true rfl) ?_
  refine va_putF (D := (dC, dI)) (ci := 3) (v := .ref q_5) (ty := .array (.array .byte)) (C := RX2) (T := TX2) (N := 3) hx hb hts iw_X2_init_X2 tyX2 tyX2_ok nmX2 hown hK hP hD hS 0 rfl rfl 2 (by decide) (hts (.fieldLink RX2 20 "TeaRace$Sea" "charts" "[[B") (by decide +kernel)) (fun _ h9 => h9) rfl hin rfl (by decide +kernel) rfl rfl (Nat.le_of_ble_eq_true rfl) dX2_init_31 (fun H locs hP hD hS => ?_)
  have hP : va_P (dC, dI) vwCl [(h0, .inr (3, [.ref q_1, .ref q_3, .ref q_5])), (q_1, .inl (cZ, 160, .inl (fun _ => 0))), (q_3, .inl (cZ, 12, .inl (fun _ => 0))), (q_5, .inl (cV, 12, .inr (.inr (.inr (.inr (fun i => if i < 12 then some (rr i) else none)))))), ((rr 0), .inl (cB, 160, .inl (fun _ => 0))), ((rr 1), .inl (cB, 160, .inl (fun _ => 0))), ((rr 2), .inl (cB, 160, .inl (fun _ => 0))), ((rr 3), .inl (cB, 160, .inl (fun _ => 0))), ((rr 4), .inl (cB, 160, .inl (fun _ => 0))), ((rr 5), .inl (cB, 160, .inl (fun _ => 0))), ((rr 6), .inl (cB, 160, .inl (fun _ => 0))), ((rr 7), .inl (cB, 160, .inl (fun _ => 0))), ((rr 8), .inl (cB, 160, .inl (fun _ => 0))), ((rr 9), .inl (cB, 160, .inl (fun _ => 0))), ((rr 10), .inl (cB, 160, .inl (fun _ => 0))), ((rr 11), .inl (cB, 160, .inl (fun _ => 0)))] H := hP
  have hD : va_D A [(h0, .inr (3, [.ref q_1, .ref q_3, .ref q_5])), (q_1, .inl (cZ, 160, .inl (fun _ => 0))), (q_3, .inl (cZ, 12, .inl (fun _ => 0))), (q_5, .inl (cV, 12, .inr (.inr (.inr (.inr (fun i => if i < 12 then some (rr i) else none)))))), ((rr 0), .inl (cB, 160, .inl (fun _ => 0))), ((rr 1), .inl (cB, 160, .inl (fun _ => 0))), ((rr 2), .inl (cB, 160, .inl (fun _ => 0))), ((rr 3), .inl (cB, 160, .inl (fun _ => 0))), ((rr 4), .inl (cB, 160, .inl (fun _ => 0))), ((rr 5), .inl (cB, 160, .inl (fun _ => 0))), ((rr 6), .inl (cB, 160, .inl (fun _ => 0))), ((rr 7), .inl (cB, 160, .inl (fun _ => 0))), ((rr 8), .inl (cB, 160, .inl (fun _ => 0))), ((rr 9), .inl (cB, 160, .inl (fun _ => 0))), ((rr 10), .inl (cB, 160, .inl (fun _ => 0))), ((rr 11), .inl (cB, 160, .inl (fun _ => 0)))] := hD
  have hP9 := hP.sub (ws' := [(h0, .inr (3, [.ref q_1, .ref q_3, .ref q_5])), (q_1, .inl (cZ, 160, .inl (fun _ => 0))), (q_3, .inl (cZ, 12, .inl (fun _ => 0))), (q_5, .inl (cV, 12, .inr (.inr (.inr (.inr (fun i => if i < 12 then some (rr i) else none)))))), ((rr 0), .inl (cB, 160, .inl (fun _ => 0))), ((rr 1), .inl (cB, 160, .inl (fun _ => 0))), ((rr 2), .inl (cB, 160, .inl (fun _ => 0))), ((rr 3), .inl (cB, 160, .inl (fun _ => 0))), ((rr 4), .inl (cB, 160, .inl (fun _ => 0))), ((rr 5), .inl (cB, 160, .inl (fun _ => 0))), ((rr 6), .inl (cB, 160, .inl (fun _ => 0))), ((rr 7), .inl (cB, 160, .inl (fun _ => 0))), ((rr 8), .inl (cB, 160, .inl (fun _ => 0))), ((rr 9), .inl (cB, 160, .inl (fun _ => 0))), ((rr 10), .inl (cB, 160, .inl (fun _ => 0))), ((rr 11), .inl (cB, 160, .inl (fun _ => 0)))]) [0, 1, 2, 3, 4, 5, 6, 7, 8, 9, 10, 11, 12, 13, 14, 15] rfl
  have hD9 := hD.sub (ws' := [(h0, .inr (3, [.ref q_1, .ref q_3, .ref q_5])), (q_1, .inl (cZ, 160, .inl (fun _ => 0))), (q_3, .inl (cZ, 12, .inl (fun _ => 0))), (q_5, .inl (cV, 12, .inr (.inr (.inr (.inr (fun i => if i < 12 then some (rr i) else none)))))), ((rr 0), .inl (cB, 160, .inl (fun _ => 0))), ((rr 1), .inl (cB, 160, .inl (fun _ => 0))), ((rr 2), .inl (cB, 160, .inl (fun _ => 0))), ((rr 3), .inl (cB, 160, .inl (fun _ => 0))), ((rr 4), .inl (cB, 160, .inl (fun _ => 0))), ((rr 5), .inl (cB, 160, .inl (fun _ => 0))), ((rr 6), .inl (cB, 160, .inl (fun _ => 0))), ((rr 7), .inl (cB, 160, .inl (fun _ => 0))), ((rr 8), .inl (cB, 160, .inl (fun _ => 0))), ((rr 9), .inl (cB, 160, .inl (fun _ => 0))), ((rr 10), .inl (cB, 160, .inl (fun _ => 0))), ((rr 11), .inl (cB, 160, .inl (fun _ => 0)))]) [0, 1, 2, 3, 4, 5, 6, 7, 8, 9, 10, 11, 12, 13, 14, 15] (by decide) rfl
  have hK9 := hK.sub (tys' := [(cZ, .boolean), (cB, .byte), (cV, .array .byte)]) [0, 1, 2] rfl
  refine W.widen (k := 15) (n := 2104) (Nat.le_of_ble_eq_true rfl) (Nat.le_of_ble_eq_true rfl) ?_
  exact W.vret hx hb hr (fun t ht hW => ⟨⟨(), rfl, (by first | rfl | trivial | (simp; done)), ⟨q_1, q_3, q_5, rr, cV, by rw [ht]; exact hP9, va_K.moved hW.alike hK9, hD9⟩⟩, hS.F ht⟩) hS.2.2 dX2_init_34
set_option maxRecDepth 20000 in
theorem iw_X1_init_X1 : ∀ w ∈ wsX10, w ∈ wsX1_init := by decide +kernel
set_option maxHeartbeats 4000000 in
set_option maxRecDepth 100000 in
/-- Passage() -/
theorem c_X1_init (l : Launch) (dC : Nat → ClassId) (dI : Nat → Nat → Nat) (sz : Nat) (h0 : Nat) (cZ : ClassId) (cI : ClassId)  : Met l yX1_init wsX1_init ({ frames := 1, cells := 2, slots := 320, locals := 12 }) (va_Pc [.ref h0] (fun U => U.heap.size = sz ∧ va_P (dC, dI) vwCl [(h0, .inr (2, [.null, .null]))] U.heap ∧ va_K (dC, dI) vwCl [(cZ, .boolean), (cI, .int)] U ∧ NW U ∧ va_D (fun _ => True) [(h0, .inr (2, [.null, .null]))])) (va_Qv (fun (_ : Unit) => True) (fun _ t => ∃ (hot : Nat), ∃ (dp : Nat), va_P (dC, dI) vwCl [(h0, .inr (2, [.ref hot, .ref dp])), (hot, .inl (cI, 160, .inl (fun _ => 0))), (dp, .inl (cZ, 160, .inl (fun _ => 0)))] t.heap ∧ va_K (dC, dI) vwCl [(cZ, .boolean), (cI, .int)] t ∧ va_D (va_A [(h0, .inr (2, [.null, .null]))] sz) [(h0, .inr (2, [.ref hot, .ref dp])), (hot, .inl (cI, 160, .inl (fun _ => 0))), (dp, .inl (cZ, 160, .inl (fun _ => 0)))]) (va_A [(h0, .inr (2, [.null, .null]))] sz)) 2 320 (va_A [(h0, .inr (2, [.null, .null]))] sz) := by
  refine Met.ofW (cc := cX1_init) (maxL := 1) (ret := none) (by decide) rfl ?_
  intro p e s m args below meth c s₁ B hml hv
  obtain ⟨rfl, hsz, hP, hK, hN, hD0⟩ := hv
  have hx := B.exec
  have hb := B.bytes
  have hr := B.returns
  have hts := atoms_spec (ws := wsX1_init) B.pre
  have hown : s.vm.findClass RX1 = some m.cls := findClass_of_methodNamed B.named
  have hlocks := B.notSynchronized
  have hin : meth.name = "<init>" := (name_of_methodNamed B.named B.method).1
  subst hsz
  have hD := hD0.self (sz := s.heap.size)
  generalize hAe : va_A [(h0, .inr (2, [.null, .null]))] s.heap.size = A at hD ⊢
  have hA : ∀ q : Nat, s.heap.size ≤ q → A q := fun q h => by rw [← hAe]; exact Or.inr h
  have hS : va_S A s.heap s.heap [] := va_S.rf
  have hP : va_P (dC, dI) vwCl [(h0, .inr (2, [.null, .null]))] s.heap := hP
  have hl := lv_entry ([.ref h0]) (n := 1) (Nat.le_of_ble_eq_true rfl)
  rw [lg_entry_eq]
  generalize (lg_sl ([.ref h0]) ++ List.replicate (1 - (lg_sl ([.ref h0])).length) Slot.unset).toArray = ls at hl ⊢
  have hl : lv_has ls 1 [(0, .ref h0)] := hl
  refine lv_aload_n hx hb dX1_init_0 rfl (lv_at hl 0 rfl) ?_
  refine W.objInit hx hb hown (hts (.methodLink RX1 3 objectInit) (by decide +kernel)) (hts (.instanceMethod objectInit) (by decide +kernel)) (hts (.code objectInit ⟨#[0xb1]⟩ 1 none) (by decide +kernel)) rfl (by rw [hml]; exact hl.1) rfl dX1_init_1 (Nat.le_of_ble_eq_true rfl) (Nat.le_of_ble_eq_true rfl) ?_
  refine W.eq (g2 := F0 m 4 ls []) rfl ?_
  refine lv_aload_n hx hb dX1_init_4 rfl (lv_at hl 0 rfl) ?_
  refine lv_sipush (v := 160) hx hb dX1_init_5 (by decide) ?_
  refine va_newa (atype := .int) (a0 := (160, .inl (fun _ => 0))) (N' := 160) hx hb (hts (.arrayClass .int) (by decide +kernel)) rfl hK hP hD hS hA (fun _ => rfl) (by decide) rfl (Nat.le_of_ble_eq_true rfl) (Nat.le_of_ble_eq_true rfl) (Nat.le_of_ble_eq_true rfl) dX1_init_8 (fun q_1 cA_2 H hK hP hD hS => ?_)
  obtain rfl : cI = cA_2 := va_uniq hK 1 2 rfl rfl
  have hK := hK.sub (tys' := [(cZ, .boolean), (cI, .int)]) [0, 1] rfl
  have hP : va_P (dC, dI) vwCl [(h0, .inr (2, [.null, .null])), (q_1, .inl (cI, 160, .inl (fun _ => 0)))] H := hP
  have hD : va_D A [(h0, .inr (2, [.null, .null])), (q_1, .inl (cI, 160, .inl (fun _ => 0)))] := hD
  refine W.widen (k := 1) (n := 160) (Nat.le_of_ble_eq_true rfl) (Nat.le_of_ble_eq_true rfl) ?_
  refine va_putF (D := (dC, dI)) (ci := 2) (v := .ref q_1) (ty := .array .int) (C := RX1) (T := TX1) (N := 2) hx hb hts iw_X1_init_X1 tyX1 tyX1_ok nmX1 hown hK hP hD hS 0 rfl rfl 0 (by decide) (hts (.fieldLink RX1 9 "TeaRace$Passage" "hoursTo" "[I") (by decide +kernel)) (fun _ h9 => h9) rfl hin rfl (by decide +kernel) rfl rfl (Nat.le_of_ble_eq_true rfl) dX1_init_10 (fun H locs hP hD hS => ?_)
  have hP : va_P (dC, dI) vwCl [(h0, .inr (2, [.ref q_1, .null])), (q_1, .inl (cI, 160, .inl (fun _ => 0)))] H := hP
  have hD : va_D A [(h0, .inr (2, [.ref q_1, .null])), (q_1, .inl (cI, 160, .inl (fun _ => 0)))] := hD
  refine lv_aload_n hx hb dX1_init_13 rfl (lv_at hl 0 rfl) ?_
  refine lv_sipush (v := 160) hx hb dX1_init_14 (by decide) ?_
  refine va_newa (atype := .boolean) (a0 := (160, .inl (fun _ => 0))) (N' := 160) hx hb (hts (.arrayClass .boolean) (by decide +kernel)) rfl hK hP hD hS hA (fun _ => rfl) (by decide) rfl (Nat.le_of_ble_eq_true rfl) (Nat.le_of_ble_eq_true rfl) (Nat.le_of_ble_eq_true rfl) dX1_init_17 (fun q_3 cA_4 H hK hP hD hS => ?_)
  obtain rfl : cZ = cA_4 := va_uniq hK 0 2 rfl rfl
  have hK := hK.sub (tys' := [(cZ, .boolean), (cI, .int)]) [0, 1] rfl
  have hP : va_P (dC, dI) vwCl [(h0, .inr (2, [.ref q_1, .null])), (q_1, .inl (cI, 160, .inl (fun _ => 0))), (q_3, .inl (cZ, 160, .inl (fun _ => 0)))] H := hP
  have hD : va_D A [(h0, .inr (2, [.ref q_1, .null])), (q_1, .inl (cI, 160, .inl (fun _ => 0))), (q_3, .inl (cZ, 160, .inl (fun _ => 0)))] := hD
  refine W.widen (k := 2) (n := 320) (Nat.le_of_ble_eq_true rfl) (Nat.le_of_ble_eq_true rfl) ?_
  refine va_putF (D := (dC, dI)) (ci := 2) (v := .ref q_3) (ty := .array .boolean) (C := RX1) (T := TX1) (N := 2) hx hb hts iw_X1_init_X1 tyX1 tyX1_ok nmX1 hown hK hP hD hS 0 rfl rfl 1 (by decide) (hts (.fieldLink RX1 15 "TeaRace$Passage" "departed" "[Z") (by decide +kernel)) (fun _ h9 => h9) rfl hin rfl (by decide +kernel) rfl rfl (Nat.le_of_ble_eq_true rfl) dX1_init_19 (fun H locs hP hD hS => ?_)
  have hP : va_P (dC, dI) vwCl [(h0, .inr (2, [.ref q_1, .ref q_3])), (q_1, .inl (cI, 160, .inl (fun _ => 0))), (q_3, .inl (cZ, 160, .inl (fun _ => 0)))] H := hP
  have hD : va_D A [(h0, .inr (2, [.ref q_1, .ref q_3])), (q_1, .inl (cI, 160, .inl (fun _ => 0))), (q_3, .inl (cZ, 160, .inl (fun _ => 0)))] := hD
  have hP9 := hP.sub (ws' := [(h0, .inr (2, [.ref q_1, .ref q_3])), (q_1, .inl (cI, 160, .inl (fun _ => 0))), (q_3, .inl (cZ, 160, .inl (fun _ => 0)))]) [0, 1, 2] rfl
  have hD9 := hD.sub (ws' := [(h0, .inr (2, [.ref q_1, .ref q_3])), (q_1, .inl (cI, 160, .inl (fun _ => 0))), (q_3, .inl (cZ, 160, .inl (fun _ => 0)))]) [0, 1, 2] (by decide) rfl
  have hK9 := hK.sub (tys' := [(cZ, .boolean), (cI, .int)]) [0, 1] rfl
  refine W.widen (k := 2) (n := 320) (Nat.le_of_ble_eq_true rfl) (Nat.le_of_ble_eq_true rfl) ?_
  exact W.vret hx hb hr (fun t ht hW => ⟨⟨(), rfl, (by first | rfl | trivial | (simp; done)), ⟨q_1, q_3, by rw [ht]; exact hP9, va_K.moved hW.alike hK9, hD9⟩⟩, hS.F ht⟩) hS.2.2 dX1_init_22
