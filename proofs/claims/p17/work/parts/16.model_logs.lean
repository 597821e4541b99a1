set_option maxRecDepth 20000 in
theorem iw_X6_farOf_X6 : ∀ w ∈ wsX60, w ∈ wsX6_farOf := fun w h => (List.mem_cons_of_mem _ (List.mem_append_right _ h))
set_option maxHeartbeats 4000000 in
set_option maxRecDepth 100000 in
/-- reference: farOf -/
theorem c_X6_farOf (l : Launch) (dC : Nat → ClassId) (dI : Nat → Nat → Nat) (sz : Nat) (m0 : Nat) (mfi : Nat) (mil : Nat) (mic : Nat) (mwi : Nat) (mmo : Nat) (mki : Nat) (mce : Nat) (mgo : Nat) (mwa : Nat) (mha : Nat) (mch : Nat) (mfo : Nat) (mca : Nat) (mor : Nat) (mro : Nat) (mra : Nat) (mpr : Nat) (mho : Nat) (mis : Nat) (mss : Nat) (msc : Nat) (msh : Nat) (vfi : Int32) (vhr : Int32) (vho : Int32) (vga : Int32) (vns : Int32) (vsg : Int32) (vpr : Int32) (vfa : Int32) (vak : Int64) (a0 : Int32) (i_a0 : 0 ≤ a0.toInt ∧ a0.toInt ≤ 159) (i_vho : 0 ≤ vho.toInt ∧ vho.toInt ≤ 159) : Met l yX6_farOf wsX6_farOf ({ frames := 1, cells := 0, slots := 0, locals := 21 }) (va_Pc [.ref m0, .int a0] (fun U => U.heap.size = sz ∧ va_P (dC, dI) vwCl [(m0, .inr (7, [.int vfi, .ref mfi, .long vak, .int vhr, .ref mil, .ref mic, .ref mwi, .int vho, .int vga, .ref mmo, .int vns, .ref mki, .ref mce, .ref mgo, .ref mwa, .ref mha, .ref mch, .ref mfo, .ref mca, .ref mor, .ref mro, .ref mra, .ref mpr, .ref mho, .ref mis, .int vsg, .ref mss, .ref msc, .ref msh, .int vpr, .int vfa]))] U.heap ∧ va_K (dC, dI) vwCl [] U ∧ NW U)) (va_Qi (fun (r : Int32) (_ : Unit) => (r.toInt = farI a0.toInt vho.toInt) ∧ (0 ≤ r.toInt ∧ r.toInt ≤ 159)) (fun _ _ => True) (va_A [] sz)) 0 0 (va_A [] sz) := by
  refine Met.ofW (cc := cX6_farOf) (maxL := 4) (ret := (some .int)) (by decide) rfl ?_
  intro p e s m args below meth c s₁ B hml hv
  obtain ⟨rfl, hsz, hP, hK, hN⟩ := hv
  have hx := B.exec
  have hb := B.bytes
  have hr := B.returns
  have hts := atoms_spec (ws := wsX6_farOf) B.pre
  have hown : s.vm.findClass RX6 = some m.cls := findClass_of_methodNamed B.named
  have hlocks := B.notSynchronized
  subst hsz
  generalize hAe : va_A [] s.heap.size = A at ⊢
  have hA : ∀ q : Nat, s.heap.size ≤ q → A q := fun q h => by rw [← hAe]; exact Or.inr h
  have hS : va_S A s.heap s.heap [] := va_S.rf
  have hP : va_P (dC, dI) vwCl [(m0, .inr (7, [.int vfi, .ref mfi, .long vak, .int vhr, .ref mil, .ref mic, .ref mwi, .int vho, .int vga, .ref mmo, .int vns, .ref mki, .ref mce, .ref mgo, .ref mwa, .ref mha, .ref mch, .ref mfo, .ref mca, .ref mor, .ref mro, .ref mra, .ref mpr, .ref mho, .ref mis, .int vsg, .ref mss, .ref msc, .ref msh, .int vpr, .int vfa]))] s.heap := hP
  have hl := lv_entry ([.ref m0, .int a0]) (n := 4) (Nat.le_of_ble_eq_true rfl)
  rw [lg_entry_eq]
  generalize (lg_sl ([.ref m0, .int a0]) ++ List.replicate (4 - (lg_sl ([.ref m0, .int a0])).length) Slot.unset).toArray = ls at hl ⊢
  have hl : lv_has ls 4 [(0, .ref m0), (1, .int a0)] := hl
  refine lv_iload_n hx hb dX6_farOf_0 rfl (lv_at hl 1 rfl) ?_
  refine lv_bipush (v := 16) hx hb dX6_farOf_1 (by decide) ?_
  refine lv_irem hx hb dX6_farOf_3 (by decide) ?_
  refine lv_topi (fun x_1 ex_1 => ?_)
  have tx_1 : x_1.toInt = a0.toInt % 16 := rm_k ex_1 rfl (by decide) (by omega) (by omega)
  refine lv_aload_n hx hb dX6_farOf_4 rfl (lv_at hl 0 rfl) ?_
  refine va_get (D := (dC, dI)) (ci := 7) (v := .int vho) (C := RX6) (T := TX6) (N := 31) hx hb hts iw_X6_farOf_X6 hown hK hP 0 rfl rfl 7 (by decide) (hts (.fieldLink RX6 136 "TeaRaceModel" "home" "I") (by decide +kernel)) (fun _ h9 => h9) rfl dX6_farOf_5 ?_
  refine lv_bipush (v := 16) hx hb dX6_farOf_8 (by decide) ?_
  refine lv_irem hx hb dX6_farOf_10 (by decide) ?_
  refine lv_topi (fun x_2 ex_2 => ?_)
  have tx_2 : x_2.toInt = vho.toInt % 16 := rm_k ex_2 rfl (by decide) (by omega) (by omega)
  refine va_calli (va_runS (As := [.int x_1, .int x_2]) (rest := []) ⟨hx, hb, hml, hown, hts⟩ (c_X6_apart l s.heap.size x_1 x_2 ⟨(by omega), (by omega)⟩ ⟨(by omega), (by omega)⟩) (va_cwS 2 hts gX6_farOf_X6_apart rfl rfl rfl (by decide +kernel) ⟨Nat.le_of_ble_eq_true rfl, Nat.le_of_ble_eq_true rfl⟩) ⟨fun a U g mk q => by obtain ⟨q0, q1⟩ := q; exact ⟨q0, q1⟩, fun U hU hW => ⟨rfl, congrArg Array.size hU⟩⟩ rfl rfl hl.1 rfl (lv_room (Nat.le_of_ble_eq_true rfl)) dX6_farOf_11 ⟨(Nat.zero_le _), (Nat.zero_le _)⟩) hS (fun q _ h => ro_A hS hA q h) (ro_A hS hA) (fun r_3 u t H1 locs ht hvm k_4 hB hz1 hk1 hS => ?_)
  have hP := ro_P hk1 hP
  generalize H1 = H at hP hS ⊢
  try dsimp only at k_4
  obtain ⟨k_4, k_5⟩ := k_4
  refine lv_istore_n (lv' := [(2, .int r_3), (0, .ref m0), (1, .int a0)]) hx hb dX6_farOf_14 rfl hl (by decide) rfl (fun ls hl => ?_)
  refine lv_iload_n hx hb dX6_farOf_15 rfl (lv_at hl 2 rfl) ?_
  refine lv_bipush (v := 16) hx hb dX6_farOf_16 (by decide) ?_
  refine lv_idiv hx hb dX6_farOf_18 (by decide) ?_
  refine lv_topi (fun x_6 ex_6 => ?_)
  have tx_6 : x_6.toInt = a0.toInt / 16 := dv_k ex_6 rfl (by decide) (by omega) (by omega)
  refine lv_aload_n hx hb dX6_farOf_19 rfl (lv_at hl 1 rfl) ?_
  refine va_get (D := (dC, dI)) (ci := 7) (v := .int vho) (C := RX6) (T := TX6) (N := 31) hx hb hts iw_X6_farOf_X6 hown hK hP 0 rfl rfl 7 (by decide) (hts (.fieldLink RX6 136 "TeaRaceModel" "home" "I") (by decide +kernel)) (fun _ h9 => h9) rfl dX6_farOf_20 ?_
  refine lv_bipush (v := 16) hx hb dX6_farOf_23 (by decide) ?_
  refine lv_idiv hx hb dX6_farOf_25 (by decide) ?_
  refine lv_topi (fun x_7 ex_7 => ?_)
  have tx_7 : x_7.toInt = vho.toInt / 16 := dv_k ex_7 rfl (by decide) (by omega) (by omega)
  refine va_calli (va_runS (As := [.int x_6, .int x_7]) (rest := []) ⟨hx, hb, hml, hown, hts⟩ (c_X6_apart l H.size x_6 x_7 ⟨(by omega), (by omega)⟩ ⟨(by omega), (by omega)⟩) (va_cwS 2 hts gX6_farOf_X6_apart rfl rfl rfl (by decide +kernel) ⟨Nat.le_of_ble_eq_true rfl, Nat.le_of_ble_eq_true rfl⟩) ⟨fun a U g mk q => by obtain ⟨q0, q1⟩ := q; exact ⟨q0, q1⟩, fun U hU hW => ⟨rfl, congrArg Array.size hU⟩⟩ rfl rfl hl.1 rfl (lv_room (Nat.le_of_ble_eq_true rfl)) dX6_farOf_26 ⟨(Nat.zero_le _), (Nat.zero_le _)⟩) hS (fun q _ h => ro_A hS hA q h) (ro_A hS hA) (fun r_8 u t H1 locs ht hvm k_9 hB hz1 hk1 hS => ?_)
  have hP := ro_P hk1 hP
  generalize H1 = H at hP hS ⊢
  try dsimp only at k_9
  obtain ⟨k_9, k_10⟩ := k_9
  refine lv_istore_n (lv' := [(3, .int r_8), (2, .int r_3), (0, .ref m0), (1, .int a0)]) hx hb dX6_farOf_29 rfl hl (by decide) rfl (fun ls hl => ?_)
  refine lv_iload_n hx hb dX6_farOf_30 rfl (lv_at hl 1 rfl) ?_
  refine lv_iload_n hx hb dX6_farOf_31 rfl (lv_at hl 0 rfl) ?_
  refine lv_icmp_le (tgt := 39) hx hb dX6_farOf_32 (by decide) (fun c_11 => ?_) (fun c_11 => ?_)
  · skip
    have qc_11 : r_3.toInt ≤ r_8.toInt := le_k rfl rfl c_11
    refine lv_iload_n hx hb dX6_farOf_39 rfl (lv_at hl 0 rfl) ?_
    exact W.iret (v := r_8) hx hb hr (fun t ht hW => ⟨⟨r_8, (), rfl, ⟨(by have e1 := k_4; have e2 := k_9; rewrite [tx_1, tx_2] at e1; rewrite [tx_6, tx_7] at e2; unfold farI; rw [← e1, ← e2]; (repeat' split) <;> omega), ⟨by omega, by omega⟩⟩, trivial⟩, hS.F ht⟩) hS.2.2 dX6_farOf_40
  · skip
    have qc_11 : r_8.toInt < r_3.toInt := nle_k rfl rfl c_11
    refine lv_iload_n hx hb dX6_farOf_35 rfl (lv_at hl 1 rfl) ?_
    refine lv_goto (tgt := 40) hx hb dX6_farOf_36 (by decide) ?_
    exact W.iret (v := r_3) hx hb hr (fun t ht hW => ⟨⟨r_3, (), rfl, ⟨(by have e1 := k_4; have e2 := k_9; rewrite [tx_1, tx_2] at e1; rewrite [tx_6, tx_7] at e2; unfold farI; rw [← e1, ← e2]; (repeat' split) <;> omega), ⟨by omega, by omega⟩⟩, trivial⟩, hS.F ht⟩) hS.2.2 dX6_farOf_40
set_option maxRecDepth 20000 in
theorem iw_X6_sight_X6 : ∀ w ∈ wsX60, w ∈ wsX6_sight := fun w h => (List.mem_cons_of_mem _ (List.mem_append_right _ h))
set_option maxHeartbeats 4000000 in
set_option maxRecDepth 100000 in
/-- reference: sight -/
theorem c_X6_sight (l : Launch) (dC : Nat → ClassId) (dI : Nat → Nat → Nat) (sz : Nat) (m0 : Nat) (mfi : Nat) (mil : Nat) (mic : Nat) (mwi : Nat) (mmo : Nat) (mki : Nat) (mce : Nat) (mgo : Nat) (mwa : Nat) (mha : Nat) (mch : Nat) (mfo : Nat) (mca : Nat) (mor : Nat) (mro : Nat) (mra : Nat) (mpr : Nat) (mho : Nat) (mis : Nat) (mss : Nat) (msc : Nat) (msh : Nat) (vfi : Int32) (vhr : Int32) (vho : Int32) (vga : Int32) (vns : Int32) (vsg : Int32) (vpr : Int32) (vfa : Int32) (vak : Int64) (Kss : Nat → Int32) (Ksc : Nat → Int32) (Ksh : Nat → Int32) (cI : ClassId) (a0 : Int32) (a1 : Int32) (a2 : Int32) (i_vns : 0 ≤ vns.toInt ∧ vns.toInt ≤ 8) (i_vsg : 0 ≤ vsg.toInt ∧ vsg.toInt ≤ 60) (R_Kss : Rg 60 0 7 Kss) (R_Ksc : Rg 60 0 159 Ksc) (R_Ksh : Rg 60 0 100000 Ksh) : Met l yX6_sight wsX6_sight ({ frames := 2, cells := 0, slots := 0, locals := 43 }) (va_Pc [.ref m0, .int a0, .int a1, .int a2] (fun U => U.heap.size = sz ∧ va_P (dC, dI) vwCl [(m0, .inr (7, [.int vfi, .ref mfi, .long vak, .int vhr, .ref mil, .ref mic, .ref mwi, .int vho, .int vga, .ref mmo, .int vns, .ref mki, .ref mce, .ref mgo, .ref mwa, .ref mha, .ref mch, .ref mfo, .ref mca, .ref mor, .ref mro, .ref mra, .ref mpr, .ref mho, .ref mis, .int vsg, .ref mss, .ref msc, .ref msh, .int vpr, .int vfa])), (mss, .inl (cI, 60, .inl Kss)), (msc, .inl (cI, 60, .inl Ksc)), (msh, .inl (cI, 60, .inl Ksh))] U.heap ∧ va_K (dC, dI) vwCl [(cI, .int)] U ∧ NW U ∧ va_D (fun _ => True) [(m0, .inr (7, [.int vfi, .ref mfi, .long vak, .int vhr, .ref mil, .ref mic, .ref mwi, .int vho, .int vga, .ref mmo, .int vns, .ref mki, .ref mce, .ref mgo, .ref mwa, .ref mha, .ref mch, .ref mfo, .ref mca, .ref mor, .ref mro, .ref mra, .ref mpr, .ref mho, .ref mis, .int vsg, .ref mss, .ref msc, .ref msh, .int vpr, .int vfa])), (mss, .inl (cI, 60, .inl Kss)), (msc, .inl (cI, 60, .inl Ksc)), (msh, .inl (cI, 60, .inl Ksh))])) (va_Qi (fun (r : Int32) (u : Int32 × (Nat → Int32) × (Nat → Int32) × (Nat → Int32)) => ((0 ≤ a0.toInt ∧ a0.toInt < vns.toInt ∧ 0 ≤ a1.toInt ∧ a1.toInt ≤ 159 ∧ 0 ≤ a2.toInt ∧ a2.toInt ≤ 100000) → (∀ k : Nat, (k : Int) < vsg.toInt → (Kss k).toInt = a0.toInt → (Ksh k).toInt < a2.toInt) → vsg.toInt < 60 → r.toInt = vsg.toInt + 1 ∧ u.1.toInt = vsg.toInt + 1 ∧ u.2.1 = upd Kss vsg.toNatClampNeg a0 ∧ u.2.2.1 = upd Ksc vsg.toNatClampNeg a1 ∧ u.2.2.2 = upd Ksh vsg.toNatClampNeg a2) ∧ (¬ ((0 ≤ a0.toInt ∧ a0.toInt < vns.toInt ∧ 0 ≤ a1.toInt ∧ a1.toInt ≤ 159 ∧ 0 ≤ a2.toInt ∧ a2.toInt ≤ 100000) ∧ (∀ k : Nat, (k : Int) < vsg.toInt → (Kss k).toInt = a0.toInt → (Ksh k).toInt < a2.toInt) ∧ vsg.toInt < 60) → u.1 = vsg ∧ u.2.1 = Kss ∧ u.2.2.1 = Ksc ∧ u.2.2.2 = Ksh) ∧ ((0 ≤ a0.toInt ∧ a0.toInt < vns.toInt ∧ 0 ≤ a1.toInt ∧ a1.toInt ≤ 159 ∧ 0 ≤ a2.toInt ∧ a2.toInt ≤ 100000) → (∀ k : Nat, (k : Int) < vsg.toInt → (Kss k).toInt = a0.toInt → (Ksh k).toInt < a2.toInt) → ¬ vsg.toInt < 60 → r = (-2)) ∧ (¬ ((0 ≤ a0.toInt ∧ a0.toInt < vns.toInt ∧ 0 ≤ a1.toInt ∧ a1.toInt ≤ 159 ∧ 0 ≤ a2.toInt ∧ a2.toInt ≤ 100000) ∧ (∀ k : Nat, (k : Int) < vsg.toInt → (Kss k).toInt = a0.toInt → (Ksh k).toInt < a2.toInt)) → r = (-1)) ∧ (0 ≤ u.1.toInt ∧ u.1.toInt ≤ 60) ∧ (Rg 60 0 7 u.2.1) ∧ (Rg 60 0 159 u.2.2.1) ∧ (Rg 60 0 100000 u.2.2.2)) (fun u t => va_P (dC, dI) vwCl [(m0, .inr (7, [.int vfi, .ref mfi, .long vak, .int vhr, .ref mil, .ref mic, .ref mwi, .int vho, .int vga, .ref mmo, .int vns, .ref mki, .ref mce, .ref mgo, .ref mwa, .ref mha, .ref mch, .ref mfo, .ref mca, .ref mor, .ref mro, .ref mra, .ref mpr, .ref mho, .ref mis, .int u.1, .ref mss, .ref msc, .ref msh, .int vpr, .int vfa])), (mss, .inl (cI, 60, .inl u.2.1)), (msc, .inl (cI, 60, .inl u.2.2.1)), (msh, .inl (cI, 60, .inl u.2.2.2))] t.heap ∧ va_K (dC, dI) vwCl [(cI, .int)] t ∧ va_D (va_A [(m0, .inr (7, [.int vfi, .ref mfi, .long vak, .int vhr, .ref mil, .ref mic, .ref mwi, .int vho, .int vga, .ref mmo, .int vns, .ref mki, .ref mce, .ref mgo, .ref mwa, .ref mha, .ref mch, .ref mfo, .ref mca, .ref mor, .ref mro, .ref mra, .ref mpr, .ref mho, .ref mis, .int vsg, .ref mss, .ref msc, .ref msh, .int vpr, .int vfa])), (mss, .inl (cI, 60, .inl Kss)), (msc, .inl (cI, 60, .inl Ksc)), (msh, .inl (cI, 60, .inl Ksh))] sz) [(m0, .inr (7, [.int vfi, .ref mfi, .long vak, .int vhr, .ref mil, .ref mic, .ref mwi, .int vho, .int vga, .ref mmo, .int vns, .ref mki, .ref mce, .ref mgo, .ref mwa, .ref mha, .ref mch, .ref mfo, .ref mca, .ref mor, .ref mro, .ref mra, .ref mpr, .ref mho, .ref mis, .int u.1, .ref mss, .ref msc, .ref msh, .int vpr, .int vfa])), (mss, .inl (cI, 60, .inl u.2.1)), (msc, .inl (cI, 60, .inl u.2.2.1)), (msh, .inl (cI, 60, .inl u.2.2.2))]) (va_A [(m0, .inr (7, [.int vfi, .ref mfi, .long vak, .int vhr, .ref mil, .ref mic, .ref mwi, .int vho, .int vga, .ref mmo, .int vns, .ref mki, .ref mce, .ref mgo, .ref mwa, .ref mha, .ref mch, .ref mfo, .ref mca, .ref mor, .ref mro, .ref mra, .ref mpr, .ref mho, .ref mis, .int vsg, .ref mss, .ref msc, .ref msh, .int vpr, .int vfa])), (mss, .inl (cI, 60, .inl Kss)), (msc, .inl (cI, 60, .inl Ksc)), (msh, .inl (cI, 60, .inl Ksh))] sz)) 0 0 (va_A [(m0, .inr (7, [.int vfi, .ref mfi, .long vak, .int vhr, .ref mil, .ref mic, .ref mwi, .int vho, .int vga, .ref mmo, .int vns, .ref mki, .ref mce, .ref mgo, .ref mwa, .ref mha, .ref mch, .ref mfo, .ref mca, .ref mor, .ref mro, .ref mra, .ref mpr, .ref mho, .ref mis, .int vsg, .ref mss, .ref msc, .ref msh, .int vpr, .int vfa])), (mss, .inl (cI, 60, .inl Kss)), (msc, .inl (cI, 60, .inl Ksc)), (msh, .inl (cI, 60, .inl Ksh))] sz) := by
  refine Met.ofW (cc := cX6_sight) (maxL := 6) (ret := (some .int)) (by decide) rfl ?_
  intro p e s m args below meth c s₁ B hml hv
  obtain ⟨rfl, hsz, hP, hK, hN, hD0⟩ := hv
  have hx := B.exec
  have hb := B.bytes
  have hr := B.returns
  have hts := atoms_spec (ws := wsX6_sight) B.pre
  have hown : s.vm.findClass RX6 = some m.cls := findClass_of_methodNamed B.named
  have hlocks := B.notSynchronized
  subst hsz
  have hD := hD0.self (sz := s.heap.size)
  generalize hAe : va_A [(m0, .inr (7, [.int vfi, .ref mfi, .long vak, .int vhr, .ref mil, .ref mic, .ref mwi, .int vho, .int vga, .ref mmo, .int vns, .ref mki, .ref mce, .ref mgo, .ref mwa, .ref mha, .ref mch, .ref mfo, .ref mca, .ref mor, .ref mro, .ref mra, .ref mpr, .ref mho, .ref mis, .int vsg, .ref mss, .ref msc, .ref msh, .int vpr, .int vfa])), (mss, .inl (cI, 60, .inl Kss)), (msc, .inl (cI, 60, .inl Ksc)), (msh, .inl (cI, 60, .inl Ksh))] s.heap.size = A at hD ⊢
  have hA : ∀ q : Nat, s.heap.size ≤ q → A q := fun q h => by rw [← hAe]; exact Or.inr h
  have hS : va_S A s.heap s.heap [] := va_S.rf
  have hP : va_P (dC, dI) vwCl [(m0, .inr (7, [.int vfi, .ref mfi, .long vak, .int vhr, .ref mil, .ref mic, .ref mwi, .int vho, .int vga, .ref mmo, .int vns, .ref mki, .ref mce, .ref mgo, .ref mwa, .ref mha, .ref mch, .ref mfo, .ref mca, .ref mor, .ref mro, .ref mra, .ref mpr, .ref mho, .ref mis, .int vsg, .ref mss, .ref msc, .ref msh, .int vpr, .int vfa])), (mss, .inl (cI, 60, .inl Kss)), (msc, .inl (cI, 60, .inl Ksc)), (msh, .inl (cI, 60, .inl Ksh))] s.heap := hP
  have hl := lv_entry ([.ref m0, .int a0, .int a1, .int a2]) (n := 6) (Nat.le_of_ble_eq_true rfl)
  rw [lg_entry_eq]
  generalize (lg_sl ([.ref m0, .int a0, .int a1, .int a2]) ++ List.replicate (6 - (lg_sl ([.ref m0, .int a0, .int a1, .int a2])).length) Slot.unset).toArray = ls at hl ⊢
  have hl : lv_has ls 6 [(0, .ref m0), (1, .int a0), (2, .int a1), (3, .int a2)] := hl
  have j30_1 : ∀ (mb : Int32) (H : Heap) (locs : List Loc) (ls : Array Slot), (0 ≤ mb.toInt ∧ mb.toInt ≤ 1) → (mb.toInt = 1 → (0 ≤ a0.toInt ∧ a0.toInt < vns.toInt ∧ 0 ≤ a1.toInt ∧ a1.toInt ≤ 159 ∧ 0 ≤ a2.toInt ∧ a2.toInt ≤ 100000)) → (mb.toInt = 0 → ¬ (0 ≤ a0.toInt ∧ a0.toInt < vns.toInt ∧ 0 ≤ a1.toInt ∧ a1.toInt ≤ 159 ∧ 0 ≤ a2.toInt ∧ a2.toInt ≤ 100000)) → va_P (dC, dI) vwCl [(m0, .inr (7, [.int vfi, .ref mfi, .long vak, .int vhr, .ref mil, .ref mic, .ref mwi, .int vho, .int vga, .ref mmo, .int vns, .ref mki, .ref mce, .ref mgo, .ref mwa, .ref mha, .ref mch, .ref mfo, .ref mca, .ref mor, .ref mro, .ref mra, .ref mpr, .ref mho, .ref mis, .int vsg, .ref mss, .ref msc, .ref msh, .int vpr, .int vfa])), (mss, .inl (cI, 60, .inl Kss)), (msc, .inl (cI, 60, .inl Ksc)), (msh, .inl (cI, 60, .inl Ksh))] H → va_D A [(m0, .inr (7, [.int vfi, .ref mfi, .long vak, .int vhr, .ref mil, .ref mic, .ref mwi, .int vho, .int vga, .ref mmo, .int vns, .ref mki, .ref mce, .ref mgo, .ref mwa, .ref mha, .ref mch, .ref mfo, .ref mca, .ref mor, .ref mro, .ref mra, .ref mpr, .ref mho, .ref mis, .int vsg, .ref mss, .ref msc, .ref msh, .int vpr, .int vfa])), (mss, .inl (cI, 60, .inl Kss)), (msc, .inl (cI, 60, .inl Ksc)), (msh, .inl (cI, 60, .inl Ksh))] → va_S A s.heap H locs → lv_has ls 6 [(0, .ref m0), (1, .int a0), (2, .int a1), (3, .int a2)] → W p l e ({ frames := 2, cells := 0, slots := 0, locals := 43 } : Room) s m ([.ref m0, .int a0, .int a1, .int a2] : List Value).toArray below meth c H locs 0 0 (MQ below (va_Qi (fun (r : Int32) (u : Int32 × (Nat → Int32) × (Nat → Int32) × (Nat → Int32)) => ((0 ≤ a0.toInt ∧ a0.toInt < vns.toInt ∧ 0 ≤ a1.toInt ∧ a1.toInt ≤ 159 ∧ 0 ≤ a2.toInt ∧ a2.toInt ≤ 100000) → (∀ k : Nat, (k : Int) < vsg.toInt → (Kss k).toInt = a0.toInt → (Ksh k).toInt < a2.toInt) → vsg.toInt < 60 → r.toInt = vsg.toInt + 1 ∧ u.1.toInt = vsg.toInt + 1 ∧ u.2.1 = upd Kss vsg.toNatClampNeg a0 ∧ u.2.2.1 = upd Ksc vsg.toNatClampNeg a1 ∧ u.2.2.2 = upd Ksh vsg.toNatClampNeg a2) ∧ (¬ ((0 ≤ a0.toInt ∧ a0.toInt < vns.toInt ∧ 0 ≤ a1.toInt ∧ a1.toInt ≤ 159 ∧ 0 ≤ a2.toInt ∧ a2.toInt ≤ 100000) ∧ (∀ k : Nat, (k : Int) < vsg.toInt → (Kss k).toInt = a0.toInt → (Ksh k).toInt < a2.toInt) ∧ vsg.toInt < 60) → u.1 = vsg ∧ u.2.1 = Kss ∧ u.2.2.1 = Ksc ∧ u.2.2.2 = Ksh) ∧ ((0 ≤ a0.toInt ∧ a0.toInt < vns.toInt ∧ 0 ≤ a1.toInt ∧ a1.toInt ≤ 159 ∧ 0 ≤ a2.toInt ∧ a2.toInt ≤ 100000) → (∀ k : Nat, (k : Int) < vsg.toInt → (Kss k).toInt = a0.toInt → (Ksh k).toInt < a2.toInt) → ¬ vsg.toInt < 60 → r = (-2)) ∧ (¬ ((0 ≤ a0.toInt ∧ a0.toInt < vns.toInt ∧ 0 ≤ a1.toInt ∧ a1.toInt ≤ 159 ∧ 0 ≤ a2.toInt ∧ a2.toInt ≤ 100000) ∧ (∀ k : Nat, (k : Int) < vsg.toInt → (Kss k).toInt = a0.toInt → (Ksh k).toInt < a2.toInt)) → r = (-1)) ∧ (0 ≤ u.1.toInt ∧ u.1.toInt ≤ 60) ∧ (Rg 60 0 7 u.2.1) ∧ (Rg 60 0 159 u.2.2.1) ∧ (Rg 60 0 100000 u.2.2.2)) (fun u t => va_P (dC, dI) vwCl [(m0, .inr (7, [.int vfi, .ref mfi, .long vak, .int vhr, .ref mil, .ref mic, .ref mwi, .int vho, .int vga, .ref mmo, .int vns, .ref mki, .ref mce, .ref mgo, .ref mwa, .ref mha, .ref mch, .ref mfo, .ref mca, .ref mor, .ref mro, .ref mra, .ref mpr, .ref mho, .ref mis, .int u.1, .ref mss, .ref msc, .ref msh, .int vpr, .int vfa])), (mss, .inl (cI, 60, .inl u.2.1)), (msc, .inl (cI, 60, .inl u.2.2.1)), (msh, .inl (cI, 60, .inl u.2.2.2))] t.heap ∧ va_K (dC, dI) vwCl [(cI, .int)] t ∧ va_D A [(m0, .inr (7, [.int vfi, .ref mfi, .long vak, .int vhr, .ref mil, .ref mic, .ref mwi, .int vho, .int vga, .ref mmo, .int vns, .ref mki, .ref mce, .ref mgo, .ref mwa, .ref mha, .ref mch, .ref mfo, .ref mca, .ref mor, .ref mro, .ref mra, .ref mpr, .ref mho, .ref mis, .int u.1, .ref mss, .ref msc, .ref msh, .int vpr, .int vfa])), (mss, .inl (cI, 60, .inl u.2.1)), (msc, .inl (cI, 60, .inl u.2.2.1)), (msh, .inl (cI, 60, .inl u.2.2.2))]) A) ([.ref m0, .int a0, .int a1, .int a2] : List Value).toArray s 0 0 A) (F0 m 30 ls [.int mb]) := by
    intro mb H locs ls i_mb hmb hmb0 hP hD hS hl
    refine lv_istore (lv' := [(4, .int mb), (0, .ref m0), (1, .int a0), (2, .int a1), (3, .int a2)]) hx hb dX6_sight_30 hl (by decide) rfl (fun ls hl => ?_)
    refine lv_iconst (v := 0) hx hb dX6_sight_32 (by decide) ?_
    refine lv_istore (lv' := [(5, .int 0), (4, .int mb), (0, .ref m0), (1, .int a0), (2, .int a1), (3, .int a2)]) hx hb dX6_sight_33 hl (by decide) rfl (fun ls hl => ?_)
    have key35 : ∀ (n35 : Nat) (my : Int32) (ik : Int32) (H : Heap) (locs : List Loc) (ls : Array Slot), (0 ≤ my.toInt ∧ my.toInt ≤ 1) → (0 ≤ ik.toInt ∧ ik.toInt ≤ 60) → (my.toInt = 1 → (0 ≤ a0.toInt ∧ a0.toInt < vns.toInt ∧ 0 ≤ a1.toInt ∧ a1.toInt ≤ 159 ∧ 0 ≤ a2.toInt ∧ a2.toInt ≤ 100000)) → (my.toInt = 1 → ∀ k : Nat, (k : Int) < ik.toInt → (Kss k).toInt = a0.toInt → (Ksh k).toInt < a2.toInt) → (my.toInt = 0 → Hid (¬ (0 ≤ a0.toInt ∧ a0.toInt < vns.toInt ∧ 0 ≤ a1.toInt ∧ a1.toInt ≤ 159 ∧ 0 ≤ a2.toInt ∧ a2.toInt ≤ 100000) ∨ ∃ k : Nat, (k : Int) < ik.toInt ∧ (Kss k).toInt = a0.toInt ∧ a2.toInt ≤ (Ksh k).toInt)) → (ik.toInt ≤ vsg.toInt) → 60 - ik.toInt < (n35 : Int) → va_P (dC, dI) vwCl [(m0, .inr (7, [.int vfi, .ref mfi, .long vak, .int vhr, .ref mil, .ref mic, .ref mwi, .int vho, .int vga, .ref mmo, .int vns, .ref mki, .ref mce, .ref mgo, .ref mwa, .ref mha, .ref mch, .ref mfo, .ref mca, .ref mor, .ref mro, .ref mra, .ref mpr, .ref mho, .ref mis, .int vsg, .ref mss, .ref msc, .ref msh, .int vpr, .int vfa])), (mss, .inl (cI, 60, .inl Kss)), (msc, .inl (cI, 60, .inl Ksc)), (msh, .inl (cI, 60, .inl Ksh))] H → va_D A [(m0, .inr (7, [.int vfi, .ref mfi, .long vak, .int vhr, .ref mil, .ref mic, .ref mwi, .int vho, .int vga, .ref mmo, .int vns, .ref mki, .ref mce, .ref mgo, .ref mwa, .ref mha, .ref mch, .ref mfo, .ref mca, .ref mor, .ref mro, .ref mra, .ref mpr, .ref mho, .ref mis, .int vsg, .ref mss, .ref msc, .ref msh, .int vpr, .int vfa])), (mss, .inl (cI, 60, .inl Kss)), (msc, .inl (cI, 60, .inl Ksc)), (msh, .inl (cI, 60, .inl Ksh))] → va_S A s.heap H locs → lv_has ls 6 [(5, .int ik), (4, .int my), (0, .ref m0), (1, .int a0), (2, .int a1), (3, .int a2)] → W p l e ({ frames := 2, cells := 0, slots := 0, locals := 43 } : Room) s m ([.ref m0, .int a0, .int a1, .int a2] : List Value).toArray below meth c H locs 0 0 (MQ below (va_Qi (fun (r : Int32) (u : Int32 × (Nat → Int32) × (Nat → Int32) × (Nat → Int32)) => ((0 ≤ a0.toInt ∧ a0.toInt < vns.toInt ∧ 0 ≤ a1.toInt ∧ a1.toInt ≤ 159 ∧ 0 ≤ a2.toInt ∧ a2.toInt ≤ 100000) → (∀ k : Nat, (k : Int) < vsg.toInt → (Kss k).toInt = a0.toInt → (Ksh k).toInt < a2.toInt) → vsg.toInt < 60 → r.toInt = vsg.toInt + 1 ∧ u.1.toInt = vsg.toInt + 1 ∧ u.2.1 = upd Kss vsg.toNatClampNeg a0 ∧ u.2.2.1 = upd Ksc vsg.toNatClampNeg a1 ∧ u.2.2.2 = upd Ksh vsg.toNatClampNeg a2) ∧ (¬ ((0 ≤ a0.toInt ∧ a0.toInt < vns.toInt ∧ 0 ≤ a1.toInt ∧ a1.toInt ≤ 159 ∧ 0 ≤ a2.toInt ∧ a2.toInt ≤ 100000) ∧ (∀ k : Nat, (k : Int) < vsg.toInt → (Kss k).toInt = a0.toInt → (Ksh k).toInt < a2.toInt) ∧ vsg.toInt < 60) → u.1 = vsg ∧ u.2.1 = Kss ∧ u.2.2.1 = Ksc ∧ u.2.2.2 = Ksh) ∧ ((0 ≤ a0.toInt ∧ a0.toInt < vns.toInt ∧ 0 ≤ a1.toInt ∧ a1.toInt ≤ 159 ∧ 0 ≤ a2.toInt ∧ a2.toInt ≤ 100000) → (∀ k : Nat, (k : Int) < vsg.toInt → (Kss k).toInt = a0.toInt → (Ksh k).toInt < a2.toInt) → ¬ vsg.toInt < 60 → r = (-2)) ∧ (¬ ((0 ≤ a0.toInt ∧ a0.toInt < vns.toInt ∧ 0 ≤ a1.toInt ∧ a1.toInt ≤ 159 ∧ 0 ≤ a2.toInt ∧ a2.toInt ≤ 100000) ∧ (∀ k : Nat, (k : Int) < vsg.toInt → (Kss k).toInt = a0.toInt → (Ksh k).toInt < a2.toInt)) → r = (-1)) ∧ (0 ≤ u.1.toInt ∧ u.1.toInt ≤ 60) ∧ (Rg 60 0 7 u.2.1) ∧ (Rg 60 0 159 u.2.2.1) ∧ (Rg 60 0 100000 u.2.2.2)) (fun u t => va_P (dC, dI) vwCl [(m0, .inr (7, [.int vfi, .ref mfi, .long vak, .int vhr, .ref mil, .ref mic, .ref mwi, .int vho, .int vga, .ref mmo, .int vns, .ref mki, .ref mce, .ref mgo, .ref mwa, .ref mha, .ref mch, .ref mfo, .ref mca, .ref mor, .ref mro, .ref mra, .ref mpr, .ref mho, .ref mis, .int u.1, .ref mss, .ref msc, .ref msh, .int vpr, .int vfa])), (mss, .inl (cI, 60, .inl u.2.1)), (msc, .inl (cI, 60, .inl u.2.2.1)), (msh, .inl (cI, 60, .inl u.2.2.2))] t.heap ∧ va_K (dC, dI) vwCl [(cI, .int)] t ∧ va_D A [(m0, .inr (7, [.int vfi, .ref mfi, .long vak, .int vhr, .ref mil, .ref mic, .ref mwi, .int vho, .int vga, .ref mmo, .int vns, .ref mki, .ref mce, .ref mgo, .ref mwa, .ref mha, .ref mch, .ref mfo, .ref mca, .ref mor, .ref mro, .ref mra, .ref mpr, .ref mho, .ref mis, .int u.1, .ref mss, .ref msc, .ref msh, .int vpr, .int vfa])), (mss, .inl (cI, 60, .inl u.2.1)), (msc, .inl (cI, 60, .inl u.2.2.1)), (msh, .inl (cI, 60, .inl u.2.2.2))]) A) ([.ref m0, .int a0, .int a1, .int a2] : List Value).toArray s 0 0 A) (F0 m 35 ls []) := by
      intro n35
      induction n35 with
      | zero =>
        intro my ik H locs ls i_my i_ik hmay hmu hmu0 hle hm35
        exact absurd hm35 (by omega)
      | succ n35 ih35 =>
        intro my ik H locs ls i_my i_ik hmay hmu hmu0 hle hm35 hP hD hS hl
        refine lv_iload hx hb dX6_sight_35 (lv_at hl 0 rfl) ?_
        refine lv_aload_n hx hb dX6_sight_37 rfl (lv_at hl 2 rfl) ?_
        refine va_get (D := (dC, dI)) (ci := 7) (v := .int vsg) (C := RX6) (T := TX6) (N := 31) hx hb hts iw_X6_sight_X6 hown hK hP 0 rfl rfl 25 (by decide) (hts (.fieldLink RX6 168 "TeaRaceModel" "sights" "I") (by decide +kernel)) (fun _ h9 => h9) rfl dX6_sight_38 ?_
        refine lv_icmp_ge (tgt := 84) hx hb dX6_sight_41 (by decide) (fun c_2 => ?_) (fun c_2 => ?_)
        · skip
          have qc_2 : vsg.toInt ≤ ik.toInt := le_k rfl rfl c_2
          refine lv_iload hx hb dX6_sight_84 (lv_at hl 1 rfl) ?_
          refine lv_if_ne (tgt := 91) hx hb dX6_sight_86 (by decide) (fun c_3 => ?_) (fun c_3 => ?_)
          · skip
            have qc_3 : my.toInt ≠ 0 := ne_k rfl (by decide) c_3
            refine lv_aload_n hx hb dX6_sight_91 rfl (lv_at hl 2 rfl) ?_
            refine va_get (D := (dC, dI)) (ci := 7) (v := .int vsg) (C := RX6) (T := TX6) (N := 31) hx hb hts iw_X6_sight_X6 hown hK hP 0 rfl rfl 25 (by decide) (hts (.fieldLink RX6 168 "TeaRaceModel" "sights" "I") (by decide +kernel)) (fun _ h9 => h9) rfl dX6_sight_92 ?_
            refine lv_bipush (v := 60) hx hb dX6_sight_95 (by decide) ?_
            refine lv_icmp_ne (tgt := 103) hx hb dX6_sight_97 (by decide) (fun c_4 => ?_) (fun c_4 => ?_)
            · skip
              have qc_4 : vsg.toInt ≠ 60 := ne_k rfl (by decide) c_4
              refine lv_aload_n hx hb dX6_sight_103 rfl (lv_at hl 2 rfl) ?_
              refine va_get (D := (dC, dI)) (ci := 7) (v := .ref mss) (C := RX6) (T := TX6) (N := 31) hx hb hts iw_X6_sight_X6 hown hK hP 0 rfl rfl 26 (by decide) (hts (.fieldLink RX6 68 "TeaRaceModel" "sightShip" "[I") (by decide +kernel)) (fun _ h9 => h9) rfl dX6_sight_104 ?_
              refine lv_aload_n hx hb dX6_sight_107 rfl (lv_at hl 2 rfl) ?_
              refine va_get (D := (dC, dI)) (ci := 7) (v := .int vsg) (C := RX6) (T := TX6) (N := 31) hx hb hts iw_X6_sight_X6 hown hK hP 0 rfl rfl 25 (by decide) (hts (.fieldLink RX6 168 "TeaRaceModel" "sights" "I") (by decide +kernel)) (fun _ h9 => h9) rfl dX6_sight_108 ?_
              refine lv_iload_n hx hb dX6_sight_111 rfl (lv_at hl 3 rfl) ?_
              refine va_iast hx hb hK hP hD hS 1 0 rfl rfl (in_k rfl (by omega) (by omega)) dX6_sight_112 (fun H locs hP hD hS => ?_)
              have hP : va_P (dC, dI) vwCl [(m0, .inr (7, [.int vfi, .ref mfi, .long vak, .int vhr, .ref mil, .ref mic, .ref mwi, .int vho, .int vga, .ref mmo, .int vns, .ref mki, .ref mce, .ref mgo, .ref mwa, .ref mha, .ref mch, .ref mfo, .ref mca, .ref mor, .ref mro, .ref mra, .ref mpr, .ref mho, .ref mis, .int vsg, .ref mss, .ref msc, .ref msh, .int vpr, .int vfa])), (mss, .inl (cI, 60, .inl (upd Kss vsg.toNatClampNeg a0))), (msc, .inl (cI, 60, .inl Ksc)), (msh, .inl (cI, 60, .inl Ksh))] H := hP
              have hD : va_D A [(m0, .inr (7, [.int vfi, .ref mfi, .long vak, .int vhr, .ref mil, .ref mic, .ref mwi, .int vho, .int vga, .ref mmo, .int vns, .ref mki, .ref mce, .ref mgo, .ref mwa, .ref mha, .ref mch, .ref mfo, .ref mca, .ref mor, .ref mro, .ref mra, .ref mpr, .ref mho, .ref mis, .int vsg, .ref mss, .ref msc, .ref msh, .int vpr, .int vfa])), (mss, .inl (cI, 60, .inl (upd Kss vsg.toNatClampNeg a0))), (msc, .inl (cI, 60, .inl Ksc)), (msh, .inl (cI, 60, .inl Ksh))] := hD
              have zs_5 : (upd Kss vsg.toNatClampNeg a0 vsg.toNatClampNeg).toInt = a0.toInt := congrArg Int32.toInt (upd_at (Kss) vsg.toNatClampNeg a0)
              have R_6 : Rg 60 0 7 (upd Kss vsg.toNatClampNeg a0) := Rg.st R_Kss rfl (by omega) (by omega)
              refine lv_aload_n hx hb dX6_sight_113 rfl (lv_at hl 2 rfl) ?_
              refine va_get (D := (dC, dI)) (ci := 7) (v := .ref msc) (C := RX6) (T := TX6) (N := 31) hx hb hts iw_X6_sight_X6 hown hK hP 0 rfl rfl 27 (by decide) (hts (.fieldLink RX6 71 "TeaRaceModel" "sightCell" "[I") (by decide +kernel)) (fun _ h9 => h9) rfl dX6_sight_114 ?_
              refine lv_aload_n hx hb dX6_sight_117 rfl (lv_at hl 2 rfl) ?_
              refine va_get (D := (dC, dI)) (ci := 7) (v := .int vsg) (C := RX6) (T := TX6) (N := 31) hx hb hts iw_X6_sight_X6 hown hK hP 0 rfl rfl 25 (by decide) (hts (.fieldLink RX6 168 "TeaRaceModel" "sights" "I") (by decide +kernel)) (fun _ h9 => h9) rfl dX6_sight_118 ?_
              refine lv_iload_n hx hb dX6_sight_121 rfl (lv_at hl 4 rfl) ?_
              refine va_iast hx hb hK hP hD hS 2 0 rfl rfl (in_k rfl (by omega) (by omega)) dX6_sight_122 (fun H locs hP hD hS => ?_)
              have hP : va_P (dC, dI) vwCl [(m0, .inr (7, [.int vfi, .ref mfi, .long vak, .int vhr, .ref mil, .ref mic, .ref mwi, .int vho, .int vga, .ref mmo, .int vns, .ref mki, .ref mce, .ref mgo, .ref mwa, .ref mha, .ref mch, .ref mfo, .ref mca, .ref mor, .ref mro, .ref mra, .ref mpr, .ref mho, .ref mis, .int vsg, .ref mss, .ref msc, .ref msh, .int vpr, .int vfa])), (mss, .inl (cI, 60, .inl (upd Kss vsg.toNatClampNeg a0))), (msc, .inl (cI, 60, .inl (upd Ksc vsg.toNatClampNeg a1))), (msh, .inl (cI, 60, .inl Ksh))] H := hP
              have hD : va_D A [(m0, .inr (7, [.int vfi, .ref mfi, .long vak, .int vhr, .ref mil, .ref mic, .ref mwi, .int vho, .int vga, .ref mmo, .int vns, .ref mki, .ref mce, .ref mgo, .ref mwa, .ref mha, .ref mch, .ref mfo, .ref mca, .ref mor, .ref mro, .ref mra, .ref mpr, .ref mho, .ref mis, .int vsg, .ref mss, .ref msc, .ref msh, .int vpr, .int vfa])), (mss, .inl (cI, 60, .inl (upd Kss vsg.toNatClampNeg a0))), (msc, .inl (cI, 60, .inl (upd Ksc vsg.toNatClampNeg a1))), (msh, .inl (cI, 60, .inl Ksh))] := hD
              have zs_7 : (upd Ksc vsg.toNatClampNeg a1 vsg.toNatClampNeg).toInt = a1.toInt := congrArg Int32.toInt (upd_at (Ksc) vsg.toNatClampNeg a1)
              have R_8 : Rg 60 0 159 (upd Ksc vsg.toNatClampNeg a1) := Rg.st R_Ksc rfl (by omega) (by omega)
              refine lv_aload_n hx hb dX6_sight_123 rfl (lv_at hl 2 rfl) ?_
              refine va_get (D := (dC, dI)) (ci := 7) (v := .ref msh) (C := RX6) (T := TX6) (N := 31) hx hb hts iw_X6_sight_X6 hown hK hP 0 rfl rfl 28 (by decide) (hts (.fieldLink RX6 74 "TeaRaceModel" "sightHour" "[I") (by decide +kernel)) (fun _ h9 => h9) rfl dX6_sight_124 ?_
              refine lv_aload_n hx hb dX6_sight_127 rfl (lv_at hl 2 rfl) ?_
              refine va_get (D := (dC, dI)) (ci := 7) (v := .int vsg) (C := RX6) (T := TX6) (N := 31) hx hb hts iw_X6_sight_X6 hown hK hP 0 rfl rfl 25 (by decide) (hts (.fieldLink RX6 168 "TeaRaceModel" "sights" "I") (by decide +kernel)) (fun _ h9 => h9) rfl dX6_sight_128 ?_
              refine lv_iload_n hx hb dX6_sight_131 rfl (lv_at hl 5 rfl) ?_
              refine va_iast hx hb hK hP hD hS 3 0 rfl rfl (in_k rfl (by omega) (by omega)) dX6_sight_132 (fun H locs hP hD hS => ?_)
              have hP : va_P (dC, dI) vwCl [(m0, .inr (7, [.int vfi, .ref mfi, .long vak, .int vhr, .ref mil, .ref mic, .ref mwi, .int vho, .int vga, .ref mmo, .int vns, .ref mki, .ref mce, .ref mgo, .ref mwa, .ref mha, .ref mch, .ref mfo, .ref mca, .ref mor, .ref mro, .ref mra, .ref mpr, .ref mho, .ref mis, .int vsg, .ref mss, .ref msc, .ref msh, .int vpr, .int vfa])), (mss, .inl (cI, 60, .inl (upd Kss vsg.toNatClampNeg a0))), (msc, .inl (cI, 60, .inl (upd Ksc vsg.toNatClampNeg a1))), (msh, .inl (cI, 60, .inl (upd Ksh vsg.toNatClampNeg a2)))] H := hP
              have hD : va_D A [(m0, .inr (7, [.int vfi, .ref mfi, .long vak, .int vhr, .ref mil, .ref mic, .ref mwi, .int vho, .int vga, .ref mmo, .int vns, .ref mki, .ref mce, .ref mgo, .ref mwa, .ref mha, .ref mch, .ref mfo, .ref mca, .ref mor, .ref mro, .ref mra, .ref mpr, .ref mho, .ref mis, .int vsg, .ref mss, .ref msc, .ref msh, .int vpr, .int vfa])), (mss, .inl (cI, 60, .inl (upd Kss vsg.toNatClampNeg a0))), (msc, .inl (cI, 60, .inl (upd Ksc vsg.toNatClampNeg a1))), (msh, .inl (cI, 60, .inl (upd Ksh vsg.toNatClampNeg a2)))] := hD
              have zs_9 : (upd Ksh vsg.toNatClampNeg a2 vsg.toNatClampNeg).toInt = a2.toInt := congrArg Int32.toInt (upd_at (Ksh) vsg.toNatClampNeg a2)
              have R_10 : Rg 60 0 100000 (upd Ksh vsg.toNatClampNeg a2) := Rg.st R_Ksh rfl (by omega) (by omega)
              refine lv_aload_n hx hb dX6_sight_133 rfl (lv_at hl 2 rfl) ?_
              refine lv_dup hx hb dX6_sight_134 rfl ?_
              refine va_get (D := (dC, dI)) (ci := 7) (v := .int vsg) (C := RX6) (T := TX6) (N := 31) hx hb hts iw_X6_sight_X6 hown hK hP 0 rfl rfl 25 (by decide) (hts (.fieldLink RX6 168 "TeaRaceModel" "sights" "I") (by decide +kernel)) (fun _ h9 => h9) rfl dX6_sight_135 ?_
              refine lv_iconst (v := 1) hx hb dX6_sight_138 (by decide) ?_
              refine lv_iadd hx hb dX6_sight_139 ?_
              refine lv_topi (fun x_11 ex_11 => ?_)
              have tx_11 : x_11.toInt = vsg.toInt + 1 := ad_k ex_11 rfl (by decide) (by omega) (by omega)
              refine va_put (D := (dC, dI)) (ci := 7) (v := .int x_11) (ty := .int) (C := RX6) (T := TX6) (N := 31) hx hb hts iw_X6_sight_X6 tyX6 tyX6_ok nmX6 hown hK hP hD hS 0 rfl rfl 25 (by decide) (hts (.fieldLink RX6 168 "TeaRaceModel" "sights" "I") (by decide +kernel)) (fun _ h9 => h9) rfl (by decide +kernel) rfl rfl (Nat.le_of_ble_eq_true rfl) dX6_sight_140 (fun H locs hP hD hS => ?_)
              have hP : va_P (dC, dI) vwCl [(m0, .inr (7, [.int vfi, .ref mfi, .long vak, .int vhr, .ref mil, .ref mic, .ref mwi, .int vho, .int vga, .ref mmo, .int vns, .ref mki, .ref mce, .ref mgo, .ref mwa, .ref mha, .ref mch, .ref mfo, .ref mca, .ref mor, .ref mro, .ref mra, .ref mpr, .ref mho, .ref mis, .int x_11, .ref mss, .ref msc, .ref msh, .int vpr, .int vfa])), (mss, .inl (cI, 60, .inl (upd Kss vsg.toNatClampNeg a0))), (msc, .inl (cI, 60, .inl (upd Ksc vsg.toNatClampNeg a1))), (msh, .inl (cI, 60, .inl (upd Ksh vsg.toNatClampNeg a2)))] H := hP
              have hD : va_D A [(m0, .inr (7, [.int vfi, .ref mfi, .long vak, .int vhr, .ref mil, .ref mic, .ref mwi, .int vho, .int vga, .ref mmo, .int vns, .ref mki, .ref mce, .ref mgo, .ref mwa, .ref mha, .ref mch, .ref mfo, .ref mca, .ref mor, .ref mro, .ref mra, .ref mpr, .ref mho, .ref mis, .int x_11, .ref mss, .ref msc, .ref msh, .int vpr, .int vfa])), (mss, .inl (cI, 60, .inl (upd Kss vsg.toNatClampNeg a0))), (msc, .inl (cI, 60, .inl (upd Ksc vsg.toNatClampNeg a1))), (msh, .inl (cI, 60, .inl (upd Ksh vsg.toNatClampNeg a2)))] := hD
              refine lv_aload_n hx hb dX6_sight_143 rfl (lv_at hl 2 rfl) ?_
              refine va_get (D := (dC, dI)) (ci := 7) (v := .int x_11) (C := RX6) (T := TX6) (N := 31) hx hb hts iw_X6_sight_X6 hown hK hP 0 rfl rfl 25 (by decide) (hts (.fieldLink RX6 168 "TeaRaceModel" "sights" "I") (by decide +kernel)) (fun _ h9 => h9) rfl dX6_sight_144 ?_
              have hP9 := hP.sub (ws' := [(m0, .inr (7, [.int vfi, .ref mfi, .long vak, .int vhr, .ref mil, .ref mic, .ref mwi, .int vho, .int vga, .ref mmo, .int vns, .ref mki, .ref mce, .ref mgo, .ref mwa, .ref mha, .ref mch, .ref mfo, .ref mca, .ref mor, .ref mro, .ref mra, .ref mpr, .ref mho, .ref mis, .int x_11, .ref mss, .ref msc, .ref msh, .int vpr, .int vfa])), (mss, .inl (cI, 60, .inl (upd Kss vsg.toNatClampNeg a0))), (msc, .inl (cI, 60, .inl (upd Ksc vsg.toNatClampNeg a1))), (msh, .inl (cI, 60, .inl (upd Ksh vsg.toNatClampNeg a2)))]) [0, 1, 2, 3] rfl
              have hD9 := hD.sub (ws' := [(m0, .inr (7, [.int vfi, .ref mfi, .long vak, .int vhr, .ref mil, .ref mic, .ref mwi, .int vho, .int vga, .ref mmo, .int vns, .ref mki, .ref mce, .ref mgo, .ref mwa, .ref mha, .ref mch, .ref mfo, .ref mca, .ref mor, .ref mro, .ref mra, .ref mpr, .ref mho, .ref mis, .int x_11, .ref mss, .ref msc, .ref msh, .int vpr, .int vfa])), (mss, .inl (cI, 60, .inl (upd Kss vsg.toNatClampNeg a0))), (msc, .inl (cI, 60, .inl (upd Ksc vsg.toNatClampNeg a1))), (msh, .inl (cI, 60, .inl (upd Ksh vsg.toNatClampNeg a2)))]) [0, 1, 2, 3] (by decide) rfl
              have hK9 := hK.sub (tys' := [(cI, .int)]) [0] rfl
              exact W.iret (v := x_11) hx hb hr (fun t ht hW => ⟨⟨x_11, (x_11, upd Kss vsg.toNatClampNeg a0, upd Ksc vsg.toNatClampNeg a1, upd Ksh vsg.toNatClampNeg a2), rfl, ⟨(fun _ _ _ => ⟨by omega, by omega, rfl, rfl, rfl⟩), (fun h => absurd ⟨(by omega), (fun k h1 => hmu (by omega) k (by omega)), by omega⟩ h), (fun _ _ h => absurd (by omega) h), (fun h => absurd ⟨(by omega), (fun k h1 => hmu (by omega) k (by omega))⟩ h), (show 0 ≤ (x_11).toInt ∧ (x_11).toInt ≤ 60 from ⟨by omega, by omega⟩), (show Rg 60 0 7 (upd Kss vsg.toNatClampNeg a0) from R_6), (show Rg 60 0 159 (upd Ksc vsg.toNatClampNeg a1) from R_8), (show Rg 60 0 100000 (upd Ksh vsg.toNatClampNeg a2) from R_10)⟩, ⟨by rw [ht]; exact hP9, va_K.moved hW.alike hK9, hD9⟩⟩, hS.F ht⟩) hS.2.2 dX6_sight_147
            · skip
              have qc_4 : vsg.toInt = 60 := eq_k rfl (by decide) c_4
              refine lv_bipush (v := (-2)) hx hb dX6_sight_100 (by decide) ?_
              have hP9 := hP.sub (ws' := [(m0, .inr (7, [.int vfi, .ref mfi, .long vak, .int vhr, .ref mil, .ref mic, .ref mwi, .int vho, .int vga, .ref mmo, .int vns, .ref mki, .ref mce, .ref mgo, .ref mwa, .ref mha, .ref mch, .ref mfo, .ref mca, .ref mor, .ref mro, .ref mra, .ref mpr, .ref mho, .ref mis, .int vsg, .ref mss, .ref msc, .ref msh, .int vpr, .int vfa])), (mss, .inl (cI, 60, .inl Kss)), (msc, .inl (cI, 60, .inl Ksc)), (msh, .inl (cI, 60, .inl Ksh))]) [0, 1, 2, 3] rfl
              have hD9 := hD.sub (ws' := [(m0, .inr (7, [.int vfi, .ref mfi, .long vak, .int vhr, .ref mil, .ref mic, .ref mwi, .int vho, .int vga, .ref mmo, .int vns, .ref mki, .ref mce, .ref mgo, .ref mwa, .ref mha, .ref mch, .ref mfo, .ref mca, .ref mor, .ref mro, .ref mra, .ref mpr, .ref mho, .ref mis, .int vsg, .ref mss, .ref msc, .ref msh, .int vpr, .int vfa])), (mss, .inl (cI, 60, .inl Kss)), (msc, .inl (cI, 60, .inl Ksc)), (msh, .inl (cI, 60, .inl Ksh))]) [0, 1, 2, 3] (by decide) rfl
              have hK9 := hK.sub (tys' := [(cI, .int)]) [0] rfl
              have hv9 : (-2 : Int32).toInt = (-2) := by decide
              exact W.iret (v := (-2)) hx hb hr (fun t ht hW => ⟨⟨(-2), (vsg, Kss, Ksc, Ksh), rfl, ⟨(fun _ _ h => absurd h (by omega)), (fun _ => ⟨rfl, rfl, rfl, rfl⟩), (fun _ _ _ => rfl), (fun h => absurd ⟨(by omega), (fun k h1 => hmu (by omega) k (by omega))⟩ h), (show 0 ≤ (vsg).toInt ∧ (vsg).toInt ≤ 60 from ⟨by omega, by omega⟩), (show Rg 60 0 7 Kss from R_Kss), (show Rg 60 0 159 Ksc from R_Ksc), (show Rg 60 0 100000 Ksh from R_Ksh)⟩, ⟨by rw [ht]; exact hP9, va_K.moved hW.alike hK9, hD9⟩⟩, hS.F ht⟩) hS.2.2 dX6_sight_102
          · skip
            have qc_3 : my.toInt = 0 := eq_k rfl (by decide) c_3
            refine lv_iconst (v := (-1)) hx hb dX6_sight_89 (by decide) ?_
            have hP9 := hP.sub (ws' := [(m0, .inr (7, [.int vfi, .ref mfi, .long vak, .int vhr, .ref mil, .ref mic, .ref mwi, .int vho, .int vga, .ref mmo, .int vns, .ref mki, .ref mce, .ref mgo, .ref mwa, .ref mha, .ref mch, .ref mfo, .ref mca, .ref mor, .ref mro, .ref mra, .ref mpr, .ref mho, .ref mis, .int vsg, .ref mss, .ref msc, .ref msh, .int vpr, .int vfa])), (mss, .inl (cI, 60, .inl Kss)), (msc, .inl (cI, 60, .inl Ksc)), (msh, .inl (cI, 60, .inl Ksh))]) [0, 1, 2, 3] rfl
            have hD9 := hD.sub (ws' := [(m0, .inr (7, [.int vfi, .ref mfi, .long vak, .int vhr, .ref mil, .ref mic, .ref mwi, .int vho, .int vga, .ref mmo, .int vns, .ref mki, .ref mce, .ref mgo, .ref mwa, .ref mha, .ref mch, .ref mfo, .ref mca, .ref mor, .ref mro, .ref mra, .ref mpr, .ref mho, .ref mis, .int vsg, .ref mss, .ref msc, .ref msh, .int vpr, .int vfa])), (mss, .inl (cI, 60, .inl Kss)), (msc, .inl (cI, 60, .inl Ksc)), (msh, .inl (cI, 60, .inl Ksh))]) [0, 1, 2, 3] (by decide) rfl
            have hK9 := hK.sub (tys' := [(cI, .int)]) [0] rfl
            have hv9 : (-1 : Int32).toInt = (-1) := by decide
            exact W.iret (v := (-1)) hx hb hr (fun t ht hW => ⟨⟨(-1), (vsg, Kss, Ksc, Ksh), rfl, ⟨(fun h1 h2 => absurd trivial (fun _ => by rcases (hmu0 (by omega)).out with h | ⟨k, g1, g2, g3⟩; (exact h h1); (have := h2 k (by omega) g2; omega))), (fun _ => ⟨rfl, rfl, rfl, rfl⟩), (fun h1 h2 => absurd trivial (fun _ => by rcases (hmu0 (by omega)).out with h | ⟨k, g1, g2, g3⟩; (exact h h1); (have := h2 k (by omega) g2; omega))), (fun _ => rfl), (show 0 ≤ (vsg).toInt ∧ (vsg).toInt ≤ 60 from ⟨by omega, by omega⟩), (show Rg 60 0 7 Kss from R_Kss), (show Rg 60 0 159 Ksc from R_Ksc), (show Rg 60 0 100000 Ksh from R_Ksh)⟩, ⟨by rw [ht]; exact hP9, va_K.moved hW.alike hK9, hD9⟩⟩, hS.F ht⟩) hS.2.2 dX6_sight_90
        · skip
          have qc_2 : ik.toInt < vsg.toInt := nle_k rfl rfl c_2
          refine lv_iload hx hb dX6_sight_44 (lv_at hl 1 rfl) ?_
          refine lv_if_eq (tgt := 75) hx hb dX6_sight_46 (by decide) (fun c_12 => ?_) (fun c_12 => ?_)
          · skip
            have qc_12 : my.toInt = 0 := eq_k rfl (by decide) c_12
            refine lv_iconst (v := 0) hx hb dX6_sight_75 (by decide) ?_
            refine lv_istore (lv' := [(4, .int 0), (5, .int ik), (0, .ref m0), (1, .int a0), (2, .int a1), (3, .int a2)]) hx hb dX6_sight_76 hl (by decide) rfl (fun ls hl => ?_)
            obtain ⟨x_13, ex_13⟩ : ∃ y : Int32, y = ik + 1 := ⟨_, rfl⟩
            have tx_13 : x_13.toInt = ik.toInt + 1 := ad_k ex_13 rfl (by decide) (by omega) (by omega)
            refine lv_iinc (v := x_13) (lv' := [(5, .int x_13), (4, .int 0), (0, .ref m0), (1, .int a0), (2, .int a1), (3, .int a2)]) hx hb dX6_sight_78 hl (k := 1) rfl (by rw [ex_13]; rfl) (by decide) rfl (fun ls hl => ?_)
            refine lv_goto (tgt := 35) hx hb dX6_sight_81 (by decide) ?_
            exact ih35 0 x_13  H locs ls (by decide) ⟨(by first | omega | (simp only [Int32.reduceToInt]; omega)), (by first | omega | (simp only [Int32.reduceToInt]; omega))⟩ (by first | omega | (simp only [Int32.reduceToInt]; omega)) (fun h => absurd h (by decide)) (fun _ => by first | exact Hid.mk ((hmu0 (by omega)).out.imp id (fun ⟨k, h1, h2⟩ => ⟨k, by omega, h2⟩)) | exact Hid.mk (Or.inr ⟨ik.toNatClampNeg, (by have := tn_k (i := ik) rfl (by omega); omega), by omega, by omega⟩)) (by first | omega | (simp only [Int32.reduceToInt]; omega)) (by first | omega | (simp only [Int32.reduceToInt]; omega)) hP hD hS (lv_sub hl [0, 1, 2, 3, 4, 5] rfl)
          · skip
            have qc_12 : my.toInt ≠ 0 := ne_k rfl (by decide) c_12
            refine lv_aload_n hx hb dX6_sight_49 rfl (lv_at hl 2 rfl) ?_
            refine va_get (D := (dC, dI)) (ci := 7) (v := .ref mss) (C := RX6) (T := TX6) (N := 31) hx hb hts iw_X6_sight_X6 hown hK hP 0 rfl rfl 26 (by decide) (hts (.fieldLink RX6 68 "TeaRaceModel" "sightShip" "[I") (by decide +kernel)) (fun _ h9 => h9) rfl dX6_sight_50 ?_
            refine lv_iload hx hb dX6_sight_53 (lv_at hl 0 rfl) ?_
            refine va_iald hx hb hK hP 1 0 rfl rfl (in_k rfl (by omega) (by omega)) dX6_sight_55 ?_
            refine lv_topi (fun x_14 ex_14 => ?_)
            have rx_14 := congrArg Int32.toInt ex_14
            have gx_14 : 0 ≤ x_14.toInt ∧ x_14.toInt ≤ 7 := Rg.at R_Kss rfl (by omega) (by omega) ex_14
            refine lv_iload_n hx hb dX6_sight_56 rfl (lv_at hl 3 rfl) ?_
            refine lv_icmp_ne (tgt := 71) hx hb dX6_sight_57 (by decide) (fun c_15 => ?_) (fun c_15 => ?_)
            · skip
              have qc_15 : x_14.toInt ≠ a0.toInt := ne_k rfl rfl c_15
              refine lv_iconst (v := 1) hx hb dX6_sight_71 (by decide) ?_
              refine lv_goto (tgt := 76) hx hb dX6_sight_72 (by decide) ?_
              refine lv_istore (lv' := [(4, .int 1), (5, .int ik), (0, .ref m0), (1, .int a0), (2, .int a1), (3, .int a2)]) hx hb dX6_sight_76 hl (by decide) rfl (fun ls hl => ?_)
              obtain ⟨x_16, ex_16⟩ : ∃ y : Int32, y = ik + 1 := ⟨_, rfl⟩
              have tx_16 : x_16.toInt = ik.toInt + 1 := ad_k ex_16 rfl (by decide) (by omega) (by omega)
              refine lv_iinc (v := x_16) (lv' := [(5, .int x_16), (4, .int 1), (0, .ref m0), (1, .int a0), (2, .int a1), (3, .int a2)]) hx hb dX6_sight_78 hl (k := 1) rfl (by rw [ex_16]; rfl) (by decide) rfl (fun ls hl => ?_)
              refine lv_goto (tgt := 35) hx hb dX6_sight_81 (by decide) ?_
              exact ih35 1 x_16  H locs ls (by decide) ⟨(by first | omega | (simp only [Int32.reduceToInt]; omega)), (by first | omega | (simp only [Int32.reduceToInt]; omega))⟩ (by first | omega | (simp only [Int32.reduceToInt]; omega)) (fun _ k h1 h2 => by by_cases e9 : k = ik.toNatClampNeg; (rewrite [e9] at h2 ⊢; omega); exact hmu (by omega) k (by have := tn_k (i := ik) rfl (by omega); omega) h2) (fun h => absurd h (by decide)) (by first | omega | (simp only [Int32.reduceToInt]; omega)) (by first | omega | (simp only [Int32.reduceToInt]; omega)) hP hD hS (lv_sub hl [0, 1, 2, 3, 4, 5] rfl)
            · skip
              have qc_15 : x_14.toInt = a0.toInt := eq_k rfl rfl c_15
              refine lv_aload_n hx hb dX6_sight_60 rfl (lv_at hl 2 rfl) ?_
              refine va_get (D := (dC, dI)) (ci := 7) (v := .ref msh) (C := RX6) (T := TX6) (N := 31) hx hb hts iw_X6_sight_X6 hown hK hP 0 rfl rfl 28 (by decide) (hts (.fieldLink RX6 74 "TeaRaceModel" "sightHour" "[I") (by decide +kernel)) (fun _ h9 => h9) rfl dX6_sight_61 ?_
              refine lv_iload hx hb dX6_sight_64 (lv_at hl 0 rfl) ?_
              refine va_iald hx hb hK hP 3 0 rfl rfl (in_k rfl (by omega) (by omega)) dX6_sight_66 ?_
              refine lv_topi (fun x_17 ex_17 => ?_)
              have rx_17 := congrArg Int32.toInt ex_17
              have gx_17 : 0 ≤ x_17.toInt ∧ x_17.toInt ≤ 100000 := Rg.at R_Ksh rfl (by omega) (by omega) ex_17
              refine lv_iload_n hx hb dX6_sight_67 rfl (lv_at hl 5 rfl) ?_
              refine lv_icmp_ge (tgt := 75) hx hb dX6_sight_68 (by decide) (fun c_18 => ?_) (fun c_18 => ?_)
              · skip
                have qc_18 : a2.toInt ≤ x_17.toInt := le_k rfl rfl c_18
                refine lv_iconst (v := 0) hx hb dX6_sight_75 (by decide) ?_
                refine lv_istore (lv' := [(4, .int 0), (5, .int ik), (0, .ref m0), (1, .int a0), (2, .int a1), (3, .int a2)]) hx hb dX6_sight_76 hl (by decide) rfl (fun ls hl => ?_)
                obtain ⟨x_19, ex_19⟩ : ∃ y : Int32, y = ik + 1 := ⟨_, rfl⟩
                have tx_19 : x_19.toInt = ik.toInt + 1 := ad_k ex_19 rfl (by decide) (by omega) (by omega)
                refine lv_iinc (v := x_19) (lv' := [(5, .int x_19), (4, .int 0), (0, .ref m0), (1, .int a0), (2, .int a1), (3, .int a2)]) hx hb dX6_sight_78 hl (k := 1) rfl (by rw [ex_19]; rfl) (by decide) rfl (fun ls hl => ?_)
                refine lv_goto (tgt := 35) hx hb dX6_sight_81 (by decide) ?_
                exact ih35 0 x_19  H locs ls (by decide) ⟨(by first | omega | (simp only [Int32.reduceToInt]; omega)), (by first | omega | (simp only [Int32.reduceToInt]; omega))⟩ (by first | omega | (simp only [Int32.reduceToInt]; omega)) (fun h => absurd h (by decide)) (fun _ => by first | exact Hid.mk ((hmu0 (by omega)).out.imp id (fun ⟨k, h1, h2⟩ => ⟨k, by omega, h2⟩)) | exact Hid.mk (Or.inr ⟨ik.toNatClampNeg, (by have := tn_k (i := ik) rfl (by omega); omega), by omega, by omega⟩)) (by first | omega | (simp only [Int32.reduceToInt]; omega)) (by first | omega | (simp only [Int32.reduceToInt]; omega)) hP hD hS (lv_sub hl [0, 1, 2, 3, 4, 5] rfl)
              · skip
                have qc_18 : x_17.toInt < a2.toInt := nle_k rfl rfl c_18
                refine lv_iconst (v := 1) hx hb dX6_sight_71 (by decide) ?_
                refine lv_goto (tgt := 76) hx hb dX6_sight_72 (by decide) ?_
                refine lv_istore (lv' := [(4, .int 1), (5, .int ik), (0, .ref m0), (1, .int a0), (2, .int a1), (3, .int a2)]) hx hb dX6_sight_76 hl (by decide) rfl (fun ls hl => ?_)
                obtain ⟨x_20, ex_20⟩ : ∃ y : Int32, y = ik + 1 := ⟨_, rfl⟩
                have tx_20 : x_20.toInt = ik.toInt + 1 := ad_k ex_20 rfl (by decide) (by omega) (by omega)
                refine lv_iinc (v := x_20) (lv' := [(5, .int x_20), (4, .int 1), (0, .ref m0), (1, .int a0), (2, .int a1), (3, .int a2)]) hx hb dX6_sight_78 hl (k := 1) rfl (by rw [ex_20]; rfl) (by decide) rfl (fun ls hl => ?_)
                refine lv_goto (tgt := 35) hx hb dX6_sight_81 (by decide) ?_
                exact ih35 1 x_20  H locs ls (by decide) ⟨(by first | omega | (simp only [Int32.reduceToInt]; omega)), (by first | omega | (simp only [Int32.reduceToInt]; omega))⟩ (by first | omega | (simp only [Int32.reduceToInt]; omega)) (fun _ k h1 h2 => by by_cases e9 : k = ik.toNatClampNeg; (rewrite [e9] at h2 ⊢; omega); exact hmu (by omega) k (by have := tn_k (i := ik) rfl (by omega); omega) h2) (fun h => absurd h (by decide)) (by first | omega | (simp only [Int32.reduceToInt]; omega)) (by first | omega | (simp only [Int32.reduceToInt]; omega)) hP hD hS (lv_sub hl [0, 1, 2, 3, 4, 5] rfl)
    exact key35 61 mb 0  _ _ ls ⟨(by first | omega | (simp only [Int32.reduceToInt]; omega)), (by first | omega | (simp only [Int32.reduceToInt]; omega))⟩ (by decide) (by (try simp only [Int32.reduceToInt]); omega) (fun _ k h1 => absurd h1 (by simp only [Int32.reduceToInt]; omega)) (fun h => Hid.mk (Or.inl (hmb0 h))) (by (try simp only [Int32.reduceToInt]); omega) (by (try simp only [Int32.reduceToInt]); omega) hP hD hS hl
  refine lv_aload_n hx hb dX6_sight_0 rfl (lv_at hl 0 rfl) ?_
  refine lv_iload_n hx hb dX6_sight_1 rfl (lv_at hl 1 rfl) ?_
  have hPc := hP.sub (ws' := [(m0, .inr (7, [.int vfi, .ref mfi, .long vak, .int vhr, .ref mil, .ref mic, .ref mwi, .int vho, .int vga, .ref mmo, .int vns, .ref mki, .ref mce, .ref mgo, .ref mwa, .ref mha, .ref mch, .ref mfo, .ref mca, .ref mor, .ref mro, .ref mra, .ref mpr, .ref mho, .ref mis, .int vsg, .ref mss, .ref msc, .ref msh, .int vpr, .int vfa]))]) [0] rfl
  have hKc := hK.sub (tys' := []) [] rfl
  refine va_calli (va_runV (As := [.int a0]) (rest := []) ⟨hx, hb, hml, hown, hts⟩ (c_X6_isShip l dC dI s.heap.size m0 mfi mil mic mwi mmo mki mce mgo mwa mha mch mfo mca mor mro mra mpr mho mis mss msc msh vfi vhr vho vga vns vsg vpr vfa vak a0 ⟨(by omega), (by omega)⟩) (cwV 1 hts gX6_sight_X6_isShip rfl rfl rfl (by decide +kernel) ⟨Nat.le_of_ble_eq_true rfl, Nat.le_of_ble_eq_true rfl⟩) ⟨fun a U g mk q => by obtain ⟨q0, q1, qP, qK, qN⟩ := q; exact ⟨q0, q1, qP, va_K.moved (u := U) (U := U.calling g mk a) (Vm.Alike.refl U.vm) qK, NW.same (u := U) (U := U.calling g mk a) rfl qN⟩, va_recv hKc hPc (ci := 7) (q0 := 0) rfl rfl, fun U hU hW => ⟨rfl, by rw [hU], by rw [hU]; exact hPc, va_K.moved hW.alike hKc, NW.warm hW hN⟩⟩ rfl rfl hl.1 rfl (lv_room (Nat.le_of_ble_eq_true rfl)) dX6_sight_2 ⟨(Nat.zero_le _), (Nat.zero_le _)⟩) hS (fun q _ h => ro_A hS hA q h) (ro_A hS hA) (fun r_21 u t H1 locs ht hvm k_22 hB hz1 hk1 hS => ?_)
  have hP := ro_P hk1 hP
  generalize H1 = H at hP hS ⊢
  try dsimp only at k_22
  obtain ⟨k_22, k_23⟩ := k_22
  refine lv_if_eq (tgt := 29) hx hb dX6_sight_5 (by decide) (fun c_24 => ?_) (fun c_24 => ?_)
  · skip
    have b_25 := b01z k_22 c_24
    (try simp only [Int32.lt_iff_toInt_lt, Int32.le_iff_toInt_le, ← Int32.toInt_inj, Int32.reduceToInt, zl1, zl2, zl3, zl4, zl9] at b_25)
    (try simp only [Int32.reduceToInt] at b_25)
    refine lv_iconst (v := 0) hx hb dX6_sight_29 (by decide) ?_
    exact j30_1 0 _ _ ls (by decide) (by (first | (first | rfl | assumption | omega | exact Int32.toInt_inj.mp (by omega) | (simp only [Int32.reduceToInt, zl1, zl2, zl3, zl4, zl9]; omega) | ((rw [if_pos (by (first | omega | ((try simp only [Int32.lt_iff_toInt_lt, Int32.le_iff_toInt_le, ← Int32.toInt_inj, Int32.reduceToInt, zl1, zl2, zl3, zl4, zl9]); (try simp only [Int32.reduceToInt]); omega) | (subst_vars; assumption) | (refine ⟨?_, ?_⟩ <;> first | omega | (simp only [Int32.lt_iff_toInt_lt, Int32.le_iff_toInt_le, ← Int32.toInt_inj, Int32.reduceToInt, zl1, zl2, zl3, zl4, zl9]; omega) | (subst_vars; assumption))))]) <;> (first | rfl | assumption | omega | exact Int32.toInt_inj.mp (by omega) | (simp only [Int32.reduceToInt, zl1, zl2, zl3, zl4, zl9]; omega) | ((rw [if_pos (by (first | omega | ((try simp only [Int32.lt_iff_toInt_lt, Int32.le_iff_toInt_le, ← Int32.toInt_inj, Int32.reduceToInt, zl1, zl2, zl3, zl4, zl9]); (try simp only [Int32.reduceToInt]); omega) | (subst_vars; assumption) | (refine ⟨?_, ?_⟩ <;> first | omega | (simp only [Int32.lt_iff_toInt_lt, Int32.le_iff_toInt_le, ← Int32.toInt_inj, Int32.reduceToInt, zl1, zl2, zl3, zl4, zl9]; omega) | (subst_vars; assumption))))]) <;> (first | rfl | assumption | omega | exact Int32.toInt_inj.mp (by omega) | (simp only [Int32.reduceToInt, zl1, zl2, zl3, zl4, zl9]; omega))) | ((rw [if_neg (by (first | omega | ((try simp only [Int32.lt_iff_toInt_lt, Int32.le_iff_toInt_le, ← Int32.toInt_inj, Int32.reduceToInt, zl1, zl2, zl3, zl4, zl9]); (try simp only [Int32.reduceToInt]); omega) | (subst_vars; assumption) | (refine ⟨?_, ?_⟩ <;> first | omega | (simp only [Int32.lt_iff_toInt_lt, Int32.le_iff_toInt_le, ← Int32.toInt_inj, Int32.reduceToInt, zl1, zl2, zl3, zl4, zl9]; omega) | (subst_vars; assumption))))]) <;> (first | rfl | assumption | omega | exact Int32.toInt_inj.mp (by omega) | (simp only [Int32.reduceToInt, zl1, zl2, zl3, zl4, zl9]; omega))))) | ((rw [if_neg (by (first | omega | ((try simp only [Int32.lt_iff_toInt_lt, Int32.le_iff_toInt_le, ← Int32.toInt_inj, Int32.reduceToInt, zl1, zl2, zl3, zl4, zl9]); (try simp only [Int32.reduceToInt]); omega) | (subst_vars; assumption) | (refine ⟨?_, ?_⟩ <;> first | omega | (simp only [Int32.lt_iff_toInt_lt, Int32.le_iff_toInt_le, ← Int32.toInt_inj, Int32.reduceToInt, zl1, zl2, zl3, zl4, zl9]; omega) | (subst_vars; assumption))))]) <;> (first | rfl | assumption | omega | exact Int32.toInt_inj.mp (by omega) | (simp only [Int32.reduceToInt, zl1, zl2, zl3, zl4, zl9]; omega) | ((rw [if_pos (by (first | omega | ((try simp only [Int32.lt_iff_toInt_lt, Int32.le_iff_toInt_le, ← Int32.toInt_inj, Int32.reduceToInt, zl1, zl2, zl3, zl4, zl9]); (try simp only [Int32.reduceToInt]); omega) | (subst_vars; assumption) | (refine ⟨?_, ?_⟩ <;> first | omega | (simp only [Int32.lt_iff_toInt_lt, Int32.le_iff_toInt_le, ← Int32.toInt_inj, Int32.reduceToInt, zl1, zl2, zl3, zl4, zl9]; omega) | (subst_vars; assumption))))]) <;> (first | rfl | assumption | omega | exact Int32.toInt_inj.mp (by omega) | (simp only [Int32.reduceToInt, zl1, zl2, zl3, zl4, zl9]; omega))) | ((rw [if_neg (by (first | omega | ((try simp only [Int32.lt_iff_toInt_lt, Int32.le_iff_toInt_le, ← Int32.toInt_inj, Int32.reduceToInt, zl1, zl2, zl3, zl4, zl9]); (try simp only [Int32.reduceToInt]); omega) | (subst_vars; assumption) | (refine ⟨?_, ?_⟩ <;> first | omega | (simp only [Int32.lt_iff_toInt_lt, Int32.le_iff_toInt_le, ← Int32.toInt_inj, Int32.reduceToInt, zl1, zl2, zl3, zl4, zl9]; omega) | (subst_vars; assumption))))]) <;> (first | rfl | assumption | omega | exact Int32.toInt_inj.mp (by omega) | (simp only [Int32.reduceToInt, zl1, zl2, zl3, zl4, zl9]; omega)))))) | ((try simp only [Int32.lt_iff_toInt_lt, Int32.le_iff_toInt_le, ← Int32.toInt_inj, Int32.reduceToInt, zl1, zl2, zl3, zl4, zl9]); (repeat' split) <;> first | rfl | omega | (simp only [Int32.lt_iff_toInt_lt, Int32.le_iff_toInt_le, ← Int32.toInt_inj, Int32.reduceToInt, zl1, zl2, zl3, zl4, zl9]; omega)))) (by (first | (first | rfl | assumption | omega | exact Int32.toInt_inj.mp (by omega) | (simp only [Int32.reduceToInt, zl1, zl2, zl3, zl4, zl9]; omega) | ((rw [if_pos (by (first | omega | ((try simp only [Int32.lt_iff_toInt_lt, Int32.le_iff_toInt_le, ← Int32.toInt_inj, Int32.reduceToInt, zl1, zl2, zl3, zl4, zl9]); (try simp only [Int32.reduceToInt]); omega) | (subst_vars; assumption) | (refine ⟨?_, ?_⟩ <;> first | omega | (simp only [Int32.lt_iff_toInt_lt, Int32.le_iff_toInt_le, ← Int32.toInt_inj, Int32.reduceToInt, zl1, zl2, zl3, zl4, zl9]; omega) | (subst_vars; assumption))))]) <;> (first | rfl | assumption | omega | exact Int32.toInt_inj.mp (by omega) | (simp only [Int32.reduceToInt, zl1, zl2, zl3, zl4, zl9]; omega) | ((rw [if_pos (by (first | omega | ((try simp only [Int32.lt_iff_toInt_lt, Int32.le_iff_toInt_le, ← Int32.toInt_inj, Int32.reduceToInt, zl1, zl2, zl3, zl4, zl9]); (try simp only [Int32.reduceToInt]); omega) | (subst_vars; assumption) | (refine ⟨?_, ?_⟩ <;> first | omega | (simp only [Int32.lt_iff_toInt_lt, Int32.le_iff_toInt_le, ← Int32.toInt_inj, Int32.reduceToInt, zl1, zl2, zl3, zl4, zl9]; omega) | (subst_vars; assumption))))]) <;> (first | rfl | assumption | omega | exact Int32.toInt_inj.mp (by omega) | (simp only [Int32.reduceToInt, zl1, zl2, zl3, zl4, zl9]; omega))) | ((rw [if_neg (by (first | omega | ((try simp only [Int32.lt_iff_toInt_lt, Int32.le_iff_toInt_le, ← Int32.toInt_inj, Int32.reduceToInt, zl1, zl2, zl3, zl4, zl9]); (try simp only [Int32.reduceToInt]); omega) | (subst_vars; assumption) | (refine ⟨?_, ?_⟩ <;> first | omega | (simp only [Int32.lt_iff_toInt_lt, Int32.le_iff_toInt_le, ← Int32.toInt_inj, Int32.reduceToInt, zl1, zl2, zl3, zl4, zl9]; omega) | (subst_vars; assumption))))]) <;> (first | rfl | assumption | omega | exact Int32.toInt_inj.mp (by omega) | (simp only [Int32.reduceToInt, zl1, zl2, zl3, zl4, zl9]; omega))))) | ((rw [if_neg (by (first | omega | ((try simp only [Int32.lt_iff_toInt_lt, Int32.le_iff_toInt_le, ← Int32.toInt_inj, Int32.reduceToInt, zl1, zl2, zl3, zl4, zl9]); (try simp only [Int32.reduceToInt]); omega) | (subst_vars; assumption) | (refine ⟨?_, ?_⟩ <;> first | omega | (simp only [Int32.lt_iff_toInt_lt, Int32.le_iff_toInt_le, ← Int32.toInt_inj, Int32.reduceToInt, zl1, zl2, zl3, zl4, zl9]; omega) | (subst_vars; assumption))))]) <;> (first | rfl | assumption | omega | exact Int32.toInt_inj.mp (by omega) | (simp only [Int32.reduceToInt, zl1, zl2, zl3, zl4, zl9]; omega) | ((rw [if_pos (by (first | omega | ((try simp only [Int32.lt_iff_toInt_lt, Int32.le_iff_toInt_le, ← Int32.toInt_inj, Int32.reduceToInt, zl1, zl2, zl3, zl4, zl9]); (try simp only [Int32.reduceToInt]); omega) | (subst_vars; assumption) | (refine ⟨?_, ?_⟩ <;> first | omega | (simp only [Int32.lt_iff_toInt_lt, Int32.le_iff_toInt_le, ← Int32.toInt_inj, Int32.reduceToInt, zl1, zl2, zl3, zl4, zl9]; omega) | (subst_vars; assumption))))]) <;> (first | rfl | assumption | omega | exact Int32.toInt_inj.mp (by omega) | (simp only [Int32.reduceToInt, zl1, zl2, zl3, zl4, zl9]; omega))) | ((rw [if_neg (by (first | omega | ((try simp only [Int32.lt_iff_toInt_lt, Int32.le_iff_toInt_le, ← Int32.toInt_inj, Int32.reduceToInt, zl1, zl2, zl3, zl4, zl9]); (try simp only [Int32.reduceToInt]); omega) | (subst_vars; assumption) | (refine ⟨?_, ?_⟩ <;> first | omega | (simp only [Int32.lt_iff_toInt_lt, Int32.le_iff_toInt_le, ← Int32.toInt_inj, Int32.reduceToInt, zl1, zl2, zl3, zl4, zl9]; omega) | (subst_vars; assumption))))]) <;> (first | rfl | assumption | omega | exact Int32.toInt_inj.mp (by omega) | (simp only [Int32.reduceToInt, zl1, zl2, zl3, zl4, zl9]; omega)))))) | ((try simp only [Int32.lt_iff_toInt_lt, Int32.le_iff_toInt_le, ← Int32.toInt_inj, Int32.reduceToInt, zl1, zl2, zl3, zl4, zl9]); (repeat' split) <;> first | rfl | omega | (simp only [Int32.lt_iff_toInt_lt, Int32.le_iff_toInt_le, ← Int32.toInt_inj, Int32.reduceToInt, zl1, zl2, zl3, zl4, zl9]; omega)))) hP hD hS (lv_sub hl [0, 1, 2, 3] rfl)
  · skip
    have b_26 := b01n k_22 c_24
    (try simp only [Int32.lt_iff_toInt_lt, Int32.le_iff_toInt_le, ← Int32.toInt_inj, Int32.reduceToInt, zl1, zl2, zl3, zl4, zl9] at b_26)
    (try simp only [Int32.reduceToInt] at b_26)
    refine lv_iload_n hx hb dX6_sight_8 rfl (lv_at hl 2 rfl) ?_
    refine va_calli (va_runS (As := [.int a1]) (rest := []) ⟨hx, hb, hml, hown, hts⟩ (c_X6_isCell l H.size a1 ) (va_cwS 1 hts gX6_sight_X6_isCell rfl rfl rfl (by decide +kernel) ⟨Nat.le_of_ble_eq_true rfl, Nat.le_of_ble_eq_true rfl⟩) ⟨fun a U g mk q => by obtain ⟨q0, q1⟩ := q; exact ⟨q0, q1⟩, fun U hU hW => ⟨rfl, congrArg Array.size hU⟩⟩ rfl rfl hl.1 rfl (lv_room (Nat.le_of_ble_eq_true rfl)) dX6_sight_9 ⟨(Nat.zero_le _), (Nat.zero_le _)⟩) hS (fun q _ h => ro_A hS hA q h) (ro_A hS hA) (fun r_27 u t H1 locs ht hvm k_28 hB hz1 hk1 hS => ?_)
    have hP := ro_P hk1 hP
    generalize H1 = H at hP hS ⊢
    try dsimp only at k_28
    obtain ⟨k_28, k_29⟩ := k_28
    refine lv_if_eq (tgt := 29) hx hb dX6_sight_12 (by decide) (fun c_30 => ?_) (fun c_30 => ?_)
    · skip
      have b_31 := b01z k_28 c_30
      (try simp only [Int32.lt_iff_toInt_lt, Int32.le_iff_toInt_le, ← Int32.toInt_inj, Int32.reduceToInt, zl1, zl2, zl3, zl4, zl9] at b_31)
      (try simp only [Int32.reduceToInt] at b_31)
      refine lv_iconst (v := 0) hx hb dX6_sight_29 (by decide) ?_
      exact j30_1 0 _ _ ls (by decide) (by (first | (first | rfl | assumption | omega | exact Int32.toInt_inj.mp (by omega) | (simp only [Int32.reduceToInt, zl1, zl2, zl3, zl4, zl9]; omega) | ((rw [if_pos (by (first | omega | ((try simp only [Int32.lt_iff_toInt_lt, Int32.le_iff_toInt_le, ← Int32.toInt_inj, Int32.reduceToInt, zl1, zl2, zl3, zl4, zl9]); (try simp only [Int32.reduceToInt]); omega) | (subst_vars; assumption) | (refine ⟨?_, ?_⟩ <;> first | omega | (simp only [Int32.lt_iff_toInt_lt, Int32.le_iff_toInt_le, ← Int32.toInt_inj, Int32.reduceToInt, zl1, zl2, zl3, zl4, zl9]; omega) | (subst_vars; assumption))))]) <;> (first | rfl | assumption | omega | exact Int32.toInt_inj.mp (by omega) | (simp only [Int32.reduceToInt, zl1, zl2, zl3, zl4, zl9]; omega) | ((rw [if_pos (by (first | omega | ((try simp only [Int32.lt_iff_toInt_lt, Int32.le_iff_toInt_le, ← Int32.toInt_inj, Int32.reduceToInt, zl1, zl2, zl3, zl4, zl9]); (try simp only [Int32.reduceToInt]); omega) | (subst_vars; assumption) | (refine ⟨?_, ?_⟩ <;> first | omega | (simp only [Int32.lt_iff_toInt_lt, Int32.le_iff_toInt_le, ← Int32.toInt_inj, Int32.reduceToInt, zl1, zl2, zl3, zl4, zl9]; omega) | (subst_vars; assumption))))]) <;> (first | rfl | assumption | omega | exact Int32.toInt_inj.mp (by omega) | (simp only [Int32.reduceToInt, zl1, zl2, zl3, zl4, zl9]; omega))) | ((rw [if_neg (by (first | omega | ((try simp only [Int32.lt_iff_toInt_lt, Int32.le_iff_toInt_le, ← Int32.toInt_inj, Int32.reduceToInt, zl1, zl2, zl3, zl4, zl9]); (try simp only [Int32.reduceToInt]); omega) | (subst_vars; assumption) | (refine ⟨?_, ?_⟩ <;> first | omega | (simp only [Int32.lt_iff_toInt_lt, Int32.le_iff_toInt_le, ← Int32.toInt_inj, Int32.reduceToInt, zl1, zl2, zl3, zl4, zl9]; omega) | (subst_vars; assumption))))]) <;> (first | rfl | assumption | omega | exact Int32.toInt_inj.mp (by omega) | (simp only [Int32.reduceToInt, zl1, zl2, zl3, zl4, zl9]; omega))))) | ((rw [if_neg (by (first | omega | ((try simp only [Int32.lt_iff_toInt_lt, Int32.le_iff_toInt_le, ← Int32.toInt_inj, Int32.reduceToInt, zl1, zl2, zl3, zl4, zl9]); (try simp only [Int32.reduceToInt]); omega) | (subst_vars; assumption) | (refine ⟨?_, ?_⟩ <;> first | omega | (simp only [Int32.lt_iff_toInt_lt, Int32.le_iff_toInt_le, ← Int32.toInt_inj, Int32.reduceToInt, zl1, zl2, zl3, zl4, zl9]; omega) | (subst_vars; assumption))))]) <;> (first | rfl | assumption | omega | exact Int32.toInt_inj.mp (by omega) | (simp only [Int32.reduceToInt, zl1, zl2, zl3, zl4, zl9]; omega) | ((rw [if_pos (by (first | omega | ((try simp only [Int32.lt_iff_toInt_lt, Int32.le_iff_toInt_le, ← Int32.toInt_inj, Int32.reduceToInt, zl1, zl2, zl3, zl4, zl9]); (try simp only [Int32.reduceToInt]); omega) | (subst_vars; assumption) | (refine ⟨?_, ?_⟩ <;> first | omega | (simp only [Int32.lt_iff_toInt_lt, Int32.le_iff_toInt_le, ← Int32.toInt_inj, Int32.reduceToInt, zl1, zl2, zl3, zl4, zl9]; omega) | (subst_vars; assumption))))]) <;> (first | rfl | assumption | omega | exact Int32.toInt_inj.mp (by omega) | (simp only [Int32.reduceToInt, zl1, zl2, zl3, zl4, zl9]; omega))) | ((rw [if_neg (by (first | omega | ((try simp only [Int32.lt_iff_toInt_lt, Int32.le_iff_toInt_le, ← Int32.toInt_inj, Int32.reduceToInt, zl1, zl2, zl3, zl4, zl9]); (try simp only [Int32.reduceToInt]); omega) | (subst_vars; assumption) | (refine ⟨?_, ?_⟩ <;> first | omega | (simp only [Int32.lt_iff_toInt_lt, Int32.le_iff_toInt_le, ← Int32.toInt_inj, Int32.reduceToInt, zl1, zl2, zl3, zl4, zl9]; omega) | (subst_vars; assumption))))]) <;> (first | rfl | assumption | omega | exact Int32.toInt_inj.mp (by omega) | (simp only [Int32.reduceToInt, zl1, zl2, zl3, zl4, zl9]; omega)))))) | ((try simp only [Int32.lt_iff_toInt_lt, Int32.le_iff_toInt_le, ← Int32.toInt_inj, Int32.reduceToInt, zl1, zl2, zl3, zl4, zl9]); (repeat' split) <;> first | rfl | omega | (simp only [Int32.lt_iff_toInt_lt, Int32.le_iff_toInt_le, ← Int32.toInt_inj, Int32.reduceToInt, zl1, zl2, zl3, zl4, zl9]; omega)))) (by (first | (first | rfl | assumption | omega | exact Int32.toInt_inj.mp (by omega) | (simp only [Int32.reduceToInt, zl1, zl2, zl3, zl4, zl9]; omega) | ((rw [if_pos (by (first | omega | ((try simp only [Int32.lt_iff_toInt_lt, Int32.le_iff_toInt_le, ← Int32.toInt_inj, Int32.reduceToInt, zl1, zl2, zl3, zl4, zl9]); (try simp only [Int32.reduceToInt]); omega) | (subst_vars; assumption) | (refine ⟨?_, ?_⟩ <;> first | omega | (simp only [Int32.lt_iff_toInt_lt, Int32.le_iff_toInt_le, ← Int32.toInt_inj, Int32.reduceToInt, zl1, zl2, zl3, zl4, zl9]; omega) | (subst_vars; assumption))))]) <;> (first | rfl | assumption | omega | exact Int32.toInt_inj.mp (by omega) | (simp only [Int32.reduceToInt, zl1, zl2, zl3, zl4, zl9]; omega) | ((rw [if_pos (by (first | omega | ((try simp only [Int32.lt_iff_toInt_lt, Int32.le_iff_toInt_le, ← Int32.toInt_inj, Int32.reduceToInt, zl1, zl2, zl3, zl4, zl9]); (try simp only [Int32.reduceToInt]); omega) | (subst_vars; assumption) | (refine ⟨?_, ?_⟩ <;> first | omega | (simp only [Int32.lt_iff_toInt_lt, Int32.le_iff_toInt_le, ← Int32.toInt_inj, Int32.reduceToInt, zl1, zl2, zl3, zl4, zl9]; omega) | (subst_vars; assumption))))]) <;> (first | rfl | assumption | omega | exact Int32.toInt_inj.mp (by omega) | (simp only [Int32.reduceToInt, zl1, zl2, zl3, zl4, zl9]; omega))) | ((rw [if_neg (by (first | omega | ((try simp only [Int32.lt_iff_toInt_lt, Int32.le_iff_toInt_le, ← Int32.toInt_inj, Int32.reduceToInt, zl1, zl2, zl3, zl4, zl9]); (try simp only [Int32.reduceToInt]); omega) | (subst_vars; assumption) | (refine ⟨?_, ?_⟩ <;> first | omega | (simp only [Int32.lt_iff_toInt_lt, Int32.le_iff_toInt_le, ← Int32.toInt_inj, Int32.reduceToInt, zl1, zl2, zl3, zl4, zl9]; omega) | (subst_vars; assumption))))]) <;> (first | rfl | assumption | omega | exact Int32.toInt_inj.mp (by omega) | (simp only [Int32.reduceToInt, zl1, zl2, zl3, zl4, zl9]; omega))))) | ((rw [if_neg (by (first | omega | ((try simp only [Int32.lt_iff_toInt_lt, Int32.le_iff_toInt_le, ← Int32.toInt_inj, Int32.reduceToInt, zl1, zl2, zl3, zl4, zl9]); (try simp only [Int32.reduceToInt]); omega) | (subst_vars; assumption) | (refine ⟨?_, ?_⟩ <;> first | omega | (simp only [Int32.lt_iff_toInt_lt, Int32.le_iff_toInt_le, ← Int32.toInt_inj, Int32.reduceToInt, zl1, zl2, zl3, zl4, zl9]; omega) | (subst_vars; assumption))))]) <;> (first | rfl | assumption | omega | exact Int32.toInt_inj.mp (by omega) | (simp only [Int32.reduceToInt, zl1, zl2, zl3, zl4, zl9]; omega) | ((rw [if_pos (by (first | omega | ((try simp only [Int32.lt_iff_toInt_lt, Int32.le_iff_toInt_le, ← Int32.toInt_inj, Int32.reduceToInt, zl1, zl2, zl3, zl4, zl9]); (try simp only [Int32.reduceToInt]); omega) | (subst_vars; assumption) | (refine ⟨?_, ?_⟩ <;> first | omega | (simp only [Int32.lt_iff_toInt_lt, Int32.le_iff_toInt_le, ← Int32.toInt_inj, Int32.reduceToInt, zl1, zl2, zl3, zl4, zl9]; omega) | (subst_vars; assumption))))]) <;> (first | rfl | assumption | omega | exact Int32.toInt_inj.mp (by omega) | (simp only [Int32.reduceToInt, zl1, zl2, zl3, zl4, zl9]; omega))) | ((rw [if_neg (by (first | omega | ((try simp only [Int32.lt_iff_toInt_lt, Int32.le_iff_toInt_le, ← Int32.toInt_inj, Int32.reduceToInt, zl1, zl2, zl3, zl4, zl9]); (try simp only [Int32.reduceToInt]); omega) | (subst_vars; assumption) | (refine ⟨?_, ?_⟩ <;> first | omega | (simp only [Int32.lt_iff_toInt_lt, Int32.le_iff_toInt_le, ← Int32.toInt_inj, Int32.reduceToInt, zl1, zl2, zl3, zl4, zl9]; omega) | (subst_vars; assumption))))]) <;> (first | rfl | assumption | omega | exact Int32.toInt_inj.mp (by omega) | (simp only [Int32.reduceToInt, zl1, zl2, zl3, zl4, zl9]; omega)))))) | ((try simp only [Int32.lt_iff_toInt_lt, Int32.le_iff_toInt_le, ← Int32.toInt_inj, Int32.reduceToInt, zl1, zl2, zl3, zl4, zl9]); (repeat' split) <;> first | rfl | omega | (simp only [Int32.lt_iff_toInt_lt, Int32.le_iff_toInt_le, ← Int32.toInt_inj, Int32.reduceToInt, zl1, zl2, zl3, zl4, zl9]; omega)))) hP hD hS (lv_sub hl [0, 1, 2, 3] rfl)
    · skip
      have b_32 := b01n k_28 c_30
      (try simp only [Int32.lt_iff_toInt_lt, Int32.le_iff_toInt_le, ← Int32.toInt_inj, Int32.reduceToInt, zl1, zl2, zl3, zl4, zl9] at b_32)
      (try simp only [Int32.reduceToInt] at b_32)
      refine lv_iload_n hx hb dX6_sight_15 rfl (lv_at hl 3 rfl) ?_
      refine lv_iconst (v := 0) hx hb dX6_sight_16 (by decide) ?_
      refine lv_ldc (v := (100000)) hx hb hown (hts (.constant RX6 152 (100000)) (by decide +kernel)) dX6_sight_17 ?_
      refine va_calli (va_runS (As := [.int a2, .int 0, .int (100000)]) (rest := []) ⟨hx, hb, hml, hown, hts⟩ (c_X6_in l H.size a2 0 (100000) ) (va_cwS 3 hts gX6_sight_X6_in rfl rfl rfl (by decide +kernel) ⟨Nat.le_of_ble_eq_true rfl, Nat.le_of_ble_eq_true rfl⟩) ⟨fun a U g mk q => by obtain ⟨q0, q1⟩ := q; exact ⟨q0, q1⟩, fun U hU hW => ⟨rfl, congrArg Array.size hU⟩⟩ rfl rfl hl.1 rfl (lv_room (Nat.le_of_ble_eq_true rfl)) dX6_sight_19 ⟨(Nat.zero_le _), (Nat.zero_le _)⟩) hS (fun q _ h => ro_A hS hA q h) (ro_A hS hA) (fun r_33 u t H1 locs ht hvm k_34 hB hz1 hk1 hS => ?_)
      have hP := ro_P hk1 hP
      generalize H1 = H at hP hS ⊢
      try dsimp only at k_34
      obtain ⟨k_34, k_35⟩ := k_34
      refine lv_if_eq (tgt := 29) hx hb dX6_sight_22 (by decide) (fun c_36 => ?_) (fun c_36 => ?_)
      · skip
        have b_37 := b01z k_34 c_36
        (try simp only [Int32.lt_iff_toInt_lt, Int32.le_iff_toInt_le, ← Int32.toInt_inj, Int32.reduceToInt, zl1, zl2, zl3, zl4, zl9] at b_37)
        (try simp only [Int32.reduceToInt] at b_37)
        refine lv_iconst (v := 0) hx hb dX6_sight_29 (by decide) ?_
        exact j30_1 0 _ _ ls (by decide) (by (first | (first | rfl | assumption | omega | exact Int32.toInt_inj.mp (by omega) | (simp only [Int32.reduceToInt, zl1, zl2, zl3, zl4, zl9]; omega) | ((rw [if_pos (by (first | omega | ((try simp only [Int32.lt_iff_toInt_lt, Int32.le_iff_toInt_le, ← Int32.toInt_inj, Int32.reduceToInt, zl1, zl2, zl3, zl4, zl9]); (try simp only [Int32.reduceToInt]); omega) | (subst_vars; assumption) | (refine ⟨?_, ?_⟩ <;> first | omega | (simp only [Int32.lt_iff_toInt_lt, Int32.le_iff_toInt_le, ← Int32.toInt_inj, Int32.reduceToInt, zl1, zl2, zl3, zl4, zl9]; omega) | (subst_vars; assumption))))]) <;> (first | rfl | assumption | omega | exact Int32.toInt_inj.mp (by omega) | (simp only [Int32.reduceToInt, zl1, zl2, zl3, zl4, zl9]; omega) | ((rw [if_pos (by (first | omega | ((try simp only [Int32.lt_iff_toInt_lt, Int32.le_iff_toInt_le, ← Int32.toInt_inj, Int32.reduceToInt, zl1, zl2, zl3, zl4, zl9]); (try simp only [Int32.reduceToInt]); omega) | (subst_vars; assumption) | (refine ⟨?_, ?_⟩ <;> first | omega | (simp only [Int32.lt_iff_toInt_lt, Int32.le_iff_toInt_le, ← Int32.toInt_inj, Int32.reduceToInt, zl1, zl2, zl3, zl4, zl9]; omega) | (subst_vars; assumption))))]) <;> (first | rfl | assumption | omega | exact Int32.toInt_inj.mp (by omega) | (simp only [Int32.reduceToInt, zl1, zl2, zl3, zl4, zl9]; omega))) | ((rw [if_neg (by (first | omega | ((try simp only [Int32.lt_iff_toInt_lt, Int32.le_iff_toInt_le, ← Int32.toInt_inj, Int32.reduceToInt, zl1, zl2, zl3, zl4, zl9]); (try simp only [Int32.reduceToInt]); omega) | (subst_vars; assumption) | (refine ⟨?_, ?_⟩ <;> first | omega | (simp only [Int32.lt_iff_toInt_lt, Int32.le_iff_toInt_le, ← Int32.toInt_inj, Int32.reduceToInt, zl1, zl2, zl3, zl4, zl9]; omega) | (subst_vars; assumption))))]) <;> (first | rfl | assumption | omega | exact Int32.toInt_inj.mp (by omega) | (simp only [Int32.reduceToInt, zl1, zl2, zl3, zl4, zl9]; omega))))) | ((rw [if_neg (by (first | omega | ((try simp only [Int32.lt_iff_toInt_lt, Int32.le_iff_toInt_le, ← Int32.toInt_inj, Int32.reduceToInt, zl1, zl2, zl3, zl4, zl9]); (try simp only [Int32.reduceToInt]); omega) | (subst_vars; assumption) | (refine ⟨?_, ?_⟩ <;> first | omega | (simp only [Int32.lt_iff_toInt_lt, Int32.le_iff_toInt_le, ← Int32.toInt_inj, Int32.reduceToInt, zl1, zl2, zl3, zl4, zl9]; omega) | (subst_vars; assumption))))]) <;> (first | rfl | assumption | omega | exact Int32.toInt_inj.mp (by omega) | (simp only [Int32.reduceToInt, zl1, zl2, zl3, zl4, zl9]; omega) | ((rw [if_pos (by (first | omega | ((try simp only [Int32.lt_iff_toInt_lt, Int32.le_iff_toInt_le, ← Int32.toInt_inj, Int32.reduceToInt, zl1, zl2, zl3, zl4, zl9]); (try simp only [Int32.reduceToInt]); omega) | (subst_vars; assumption) | (refine ⟨?_, ?_⟩ <;> first | omega | (simp only [Int32.lt_iff_toInt_lt, Int32.le_iff_toInt_le, ← Int32.toInt_inj, Int32.reduceToInt, zl1, zl2, zl3, zl4, zl9]; omega) | (subst_vars; assumption))))]) <;> (first | rfl | assumption | omega | exact Int32.toInt_inj.mp (by omega) | (simp only [Int32.reduceToInt, zl1, zl2, zl3, zl4, zl9]; omega))) | ((rw [if_neg (by (first | omega | ((try simp only [Int32.lt_iff_toInt_lt, Int32.le_iff_toInt_le, ← Int32.toInt_inj, Int32.reduceToInt, zl1, zl2, zl3, zl4, zl9]); (try simp only [Int32.reduceToInt]); omega) | (subst_vars; assumption) | (refine ⟨?_, ?_⟩ <;> first | omega | (simp only [Int32.lt_iff_toInt_lt, Int32.le_iff_toInt_le, ← Int32.toInt_inj, Int32.reduceToInt, zl1, zl2, zl3, zl4, zl9]; omega) | (subst_vars; assumption))))]) <;> (first | rfl | assumption | omega | exact Int32.toInt_inj.mp (by omega) | (simp only [Int32.reduceToInt, zl1, zl2, zl3, zl4, zl9]; omega)))))) | ((try simp only [Int32.lt_iff_toInt_lt, Int32.le_iff_toInt_le, ← Int32.toInt_inj, Int32.reduceToInt, zl1, zl2, zl3, zl4, zl9]); (repeat' split) <;> first | rfl | omega | (simp only [Int32.lt_iff_toInt_lt, Int32.le_iff_toInt_le, ← Int32.toInt_inj, Int32.reduceToInt, zl1, zl2, zl3, zl4, zl9]; omega)))) (by (first | (first | rfl | assumption | omega | exact Int32.toInt_inj.mp (by omega) | (simp only [Int32.reduceToInt, zl1, zl2, zl3, zl4, zl9]; omega) | ((rw [if_pos (by (first | omega | ((try simp only [Int32.lt_iff_toInt_lt, Int32.le_iff_toInt_le, ← Int32.toInt_inj, Int32.reduceToInt, zl1, zl2, zl3, zl4, zl9]); (try simp only [Int32.reduceToInt]); omega) | (subst_vars; assumption) | (refine ⟨?_, ?_⟩ <;> first | omega | (simp only [Int32.lt_iff_toInt_lt, Int32.le_iff_toInt_le, ← Int32.toInt_inj, Int32.reduceToInt, zl1, zl2, zl3, zl4, zl9]; omega) | (subst_vars; assumption))))]) <;> (first | rfl | assumption | omega | exact Int32.toInt_inj.mp (by omega) | (simp only [Int32.reduceToInt, zl1, zl2, zl3, zl4, zl9]; omega) | ((rw [if_pos (by (first | omega | ((try simp only [Int32.lt_iff_toInt_lt, Int32.le_iff_toInt_le, ← Int32.toInt_inj, Int32.reduceToInt, zl1, zl2, zl3, zl4, zl9]); (try simp only [Int32.reduceToInt]); omega) | (subst_vars; assumption) | (refine ⟨?_, ?_⟩ <;> first | omega | (simp only [Int32.lt_iff_toInt_lt, Int32.le_iff_toInt_le, ← Int32.toInt_inj, Int32.reduceToInt, zl1, zl2, zl3, zl4, zl9]; omega) | (subst_vars; assumption))))]) <;> (first | rfl | assumption | omega | exact Int32.toInt_inj.mp (by omega) | (simp only [Int32.reduceToInt, zl1, zl2, zl3, zl4, zl9]; omega))) | ((rw [if_neg (by (first | omega | ((try simp only [Int32.lt_iff_toInt_lt, Int32.le_iff_toInt_le, ← Int32.toInt_inj, Int32.reduceToInt, zl1, zl2, zl3, zl4, zl9]); (try simp only [Int32.reduceToInt]); omega) | (subst_vars; assumption) | (refine ⟨?_, ?_⟩ <;> first | omega | (simp only [Int32.lt_iff_toInt_lt, Int32.le_iff_toInt_le, ← Int32.toInt_inj, Int32.reduceToInt, zl1, zl2, zl3, zl4, zl9]; omega) | (subst_vars; assumption))))]) <;> (first | rfl | assumption | omega | exact Int32.toInt_inj.mp (by omega) | (simp only [Int32.reduceToInt, zl1, zl2, zl3, zl4, zl9]; omega))))) | ((rw [if_neg (by (first | omega | ((try simp only [Int32.lt_iff_toInt_lt, Int32.le_iff_toInt_le, ← Int32.toInt_inj, Int32.reduceToInt, zl1, zl2, zl3, zl4, zl9]); (try simp only [Int32.reduceToInt]); omega) | (subst_vars; assumption) | (refine ⟨?_, ?_⟩ <;> first | omega | (simp only [Int32.lt_iff_toInt_lt, Int32.le_iff_toInt_le, ← Int32.toInt_inj, Int32.reduceToInt, zl1, zl2, zl3, zl4, zl9]; omega) | (subst_vars; assumption))))]) <;> (first | rfl | assumption | omega | exact Int32.toInt_inj.mp (by omega) | (simp only [Int32.reduceToInt, zl1, zl2, zl3, zl4, zl9]; omega) | ((rw [if_pos (by (first | omega | ((try simp only [Int32.lt_iff_toInt_lt, Int32.le_iff_toInt_le, ← Int32.toInt_inj, Int32.reduceToInt, zl1, zl2, zl3, zl4, zl9]); (try simp only [Int32.reduceToInt]); omega) | (subst_vars; assumption) | (refine ⟨?_, ?_⟩ <;> first | omega | (simp only [Int32.lt_iff_toInt_lt, Int32.le_iff_toInt_le, ← Int32.toInt_inj, Int32.reduceToInt, zl1, zl2, zl3, zl4, zl9]; omega) | (subst_vars; assumption))))]) <;> (first | rfl | assumption | omega | exact Int32.toInt_inj.mp (by omega) | (simp only [Int32.reduceToInt, zl1, zl2, zl3, zl4, zl9]; omega))) | ((rw [if_neg (by (first | omega | ((try simp only [Int32.lt_iff_toInt_lt, Int32.le_iff_toInt_le, ← Int32.toInt_inj, Int32.reduceToInt, zl1, zl2, zl3, zl4, zl9]); (try simp only [Int32.reduceToInt]); omega) | (subst_vars; assumption) | (refine ⟨?_, ?_⟩ <;> first | omega | (simp only [Int32.lt_iff_toInt_lt, Int32.le_iff_toInt_le, ← Int32.toInt_inj, Int32.reduceToInt, zl1, zl2, zl3, zl4, zl9]; omega) | (subst_vars; assumption))))]) <;> (first | rfl | assumption | omega | exact Int32.toInt_inj.mp (by omega) | (simp only [Int32.reduceToInt, zl1, zl2, zl3, zl4, zl9]; omega)))))) | ((try simp only [Int32.lt_iff_toInt_lt, Int32.le_iff_toInt_le, ← Int32.toInt_inj, Int32.reduceToInt, zl1, zl2, zl3, zl4, zl9]); (repeat' split) <;> first | rfl | omega | (simp only [Int32.lt_iff_toInt_lt, Int32.le_iff_toInt_le, ← Int32.toInt_inj, Int32.reduceToInt, zl1, zl2, zl3, zl4, zl9]; omega)))) hP hD hS (lv_sub hl [0, 1, 2, 3] rfl)
      · skip
        have b_38 := b01n k_34 c_36
        (try simp only [Int32.lt_iff_toInt_lt, Int32.le_iff_toInt_le, ← Int32.toInt_inj, Int32.reduceToInt, zl1, zl2, zl3, zl4, zl9] at b_38)
        (try simp only [Int32.reduceToInt] at b_38)
        refine lv_iconst (v := 1) hx hb dX6_sight_25 (by decide) ?_
        refine lv_goto (tgt := 30) hx hb dX6_sight_26 (by decide) ?_
        exact j30_1 1 _ _ ls (by decide) (by (first | (first | rfl | assumption | omega | exact Int32.toInt_inj.mp (by omega) | (simp only [Int32.reduceToInt, zl1, zl2, zl3, zl4, zl9]; omega) | ((rw [if_pos (by (first | omega | ((try simp only [Int32.lt_iff_toInt_lt, Int32.le_iff_toInt_le, ← Int32.toInt_inj, Int32.reduceToInt, zl1, zl2, zl3, zl4, zl9]); (try simp only [Int32.reduceToInt]); omega) | (subst_vars; assumption) | (refine ⟨?_, ?_⟩ <;> first | omega | (simp only [Int32.lt_iff_toInt_lt, Int32.le_iff_toInt_le, ← Int32.toInt_inj, Int32.reduceToInt, zl1, zl2, zl3, zl4, zl9]; omega) | (subst_vars; assumption))))]) <;> (first | rfl | assumption | omega | exact Int32.toInt_inj.mp (by omega) | (simp only [Int32.reduceToInt, zl1, zl2, zl3, zl4, zl9]; omega) | ((rw [if_pos (by (first | omega | ((try simp only [Int32.lt_iff_toInt_lt, Int32.le_iff_toInt_le, ← Int32.toInt_inj, Int32.reduceToInt, zl1, zl2, zl3, zl4, zl9]); (try simp only [Int32.reduceToInt]); omega) | (subst_vars; assumption) | (refine ⟨?_, ?_⟩ <;> first | omega | (simp only [Int32.lt_iff_toInt_lt, Int32.le_iff_toInt_le, ← Int32.toInt_inj, Int32.reduceToInt, zl1, zl2, zl3, zl4, zl9]; omega) | (subst_vars; assumption))))]) <;> (first | rfl | assumption | omega | exact Int32.toInt_inj.mp (by omega) | (simp only [Int32.reduceToInt, zl1, zl2, zl3, zl4, zl9]; omega))) | ((rw [if_neg (by (first | omega | ((try simp only [Int32.lt_iff_toInt_lt, Int32.le_iff_toInt_le, ← Int32.toInt_inj, Int32.reduceToInt, zl1, zl2, zl3, zl4, zl9]); (try simp only [Int32.reduceToInt]); omega) | (subst_vars; assumption) | (refine ⟨?_, ?_⟩ <;> first | omega | (simp only [Int32.lt_iff_toInt_lt, Int32.le_iff_toInt_le, ← Int32.toInt_inj, Int32.reduceToInt, zl1, zl2, zl3, zl4, zl9]; omega) | (subst_vars; assumption))))]) <;> (first | rfl | assumption | omega | exact Int32.toInt_inj.mp (by omega) | (simp only [Int32.reduceToInt, zl1, zl2, zl3, zl4, zl9]; omega))))) | ((rw [if_neg (by (first | omega | ((try simp only [Int32.lt_iff_toInt_lt, Int32.le_iff_toInt_le, ← Int32.toInt_inj, Int32.reduceToInt, zl1, zl2, zl3, zl4, zl9]); (try simp only [Int32.reduceToInt]); omega) | (subst_vars; assumption) | (refine ⟨?_, ?_⟩ <;> first | omega | (simp only [Int32.lt_iff_toInt_lt, Int32.le_iff_toInt_le, ← Int32.toInt_inj, Int32.reduceToInt, zl1, zl2, zl3, zl4, zl9]; omega) | (subst_vars; assumption))))]) <;> (first | rfl | assumption | omega | exact Int32.toInt_inj.mp (by omega) | (simp only [Int32.reduceToInt, zl1, zl2, zl3, zl4, zl9]; omega) | ((rw [if_pos (by (first | omega | ((try simp only [Int32.lt_iff_toInt_lt, Int32.le_iff_toInt_le, ← Int32.toInt_inj, Int32.reduceToInt, zl1, zl2, zl3, zl4, zl9]); (try simp only [Int32.reduceToInt]); omega) | (subst_vars; assumption) | (refine ⟨?_, ?_⟩ <;> first | omega | (simp only [Int32.lt_iff_toInt_lt, Int32.le_iff_toInt_le, ← Int32.toInt_inj, Int32.reduceToInt, zl1, zl2, zl3, zl4, zl9]; omega) | (subst_vars; assumption))))]) <;> (first | rfl | assumption | omega | exact Int32.toInt_inj.mp (by omega) | (simp only [Int32.reduceToInt, zl1, zl2, zl3, zl4, zl9]; omega))) | ((rw [if_neg (by (first | omega | ((try simp only [Int32.lt_iff_toInt_lt, Int32.le_iff_toInt_le, ← Int32.toInt_inj, Int32.reduceToInt, zl1, zl2, zl3, zl4, zl9]); (try simp only [Int32.reduceToInt]); omega) | (subst_vars; assumption) | (refine ⟨?_, ?_⟩ <;> first | omega | (simp only [Int32.lt_iff_toInt_lt, Int32.le_iff_toInt_le, ← Int32.toInt_inj, Int32.reduceToInt, zl1, zl2, zl3, zl4, zl9]; omega) | (subst_vars; assumption))))]) <;> (first | rfl | assumption | omega | exact Int32.toInt_inj.mp (by omega) | (simp only [Int32.reduceToInt, zl1, zl2, zl3, zl4, zl9]; omega)))))) | ((try simp only [Int32.lt_iff_toInt_lt, Int32.le_iff_toInt_le, ← Int32.toInt_inj, Int32.reduceToInt, zl1, zl2, zl3, zl4, zl9]); (repeat' split) <;> first | rfl | omega | (simp only [Int32.lt_iff_toInt_lt, Int32.le_iff_toInt_le, ← Int32.toInt_inj, Int32.reduceToInt, zl1, zl2, zl3, zl4, zl9]; omega)))) (by (first | (first | rfl | assumption | omega | exact Int32.toInt_inj.mp (by omega) | (simp only [Int32.reduceToInt, zl1, zl2, zl3, zl4, zl9]; omega) | ((rw [if_pos (by (first | omega | ((try simp only [Int32.lt_iff_toInt_lt, Int32.le_iff_toInt_le, ← Int32.toInt_inj, Int32.reduceToInt, zl1, zl2, zl3, zl4, zl9]); (try simp only [Int32.reduceToInt]); omega) | (subst_vars; assumption) | (refine ⟨?_, ?_⟩ <;> first | omega | (simp only [Int32.lt_iff_toInt_lt, Int32.le_iff_toInt_le, ← Int32.toInt_inj, Int32.reduceToInt, zl1, zl2, zl3, zl4, zl9]; omega) | (subst_vars; assumption))))]) <;> (first | rfl | assumption | omega | exact Int32.toInt_inj.mp (by omega) | (simp only [Int32.reduceToInt, zl1, zl2, zl3, zl4, zl9]; omega) | ((rw [if_pos (by (first | omega | ((try simp only [Int32.lt_iff_toInt_lt, Int32.le_iff_toInt_le, ← Int32.toInt_inj, Int32.reduceToInt, zl1, zl2, zl3, zl4, zl9]); (try simp only [Int32.reduceToInt]); omega) | (subst_vars; assumption) | (refine ⟨?_, ?_⟩ <;> first | omega | (simp only [Int32.lt_iff_toInt_lt, Int32.le_iff_toInt_le, ← Int32.toInt_inj, Int32.reduceToInt, zl1, zl2, zl3, zl4, zl9]; omega) | (subst_vars; assumption))))]) <;> (first | rfl | assumption | omega | exact Int32.toInt_inj.mp (by omega) | (simp only [Int32.reduceToInt, zl1, zl2, zl3, zl4, zl9]; omega))) | ((rw [if_neg (by (first | omega | ((try simp only [Int32.lt_iff_toInt_lt, Int32.le_iff_toInt_le, ← Int32.toInt_inj, Int32.reduceToInt, zl1, zl2, zl3, zl4, zl9]); (try simp only [Int32.reduceToInt]); omega) | (subst_vars; assumption) | (refine ⟨?_, ?_⟩ <;> first | omega | (simp only [Int32.lt_iff_toInt_lt, Int32.le_iff_toInt_le, ← Int32.toInt_inj, Int32.reduceToInt, zl1, zl2, zl3, zl4, zl9]; omega) | (subst_vars; assumption))))]) <;> (first | rfl | assumption | omega | exact Int32.toInt_inj.mp (by omega) | (simp only [Int32.reduceToInt, zl1, zl2, zl3, zl4, zl9]; omega))))) | ((rw [if_neg (by (first | omega | ((try simp only [Int32.lt_iff_toInt_lt, Int32.le_iff_toInt_le, ← Int32.toInt_inj, Int32.reduceToInt, zl1, zl2, zl3, zl4, zl9]); (try simp only [Int32.reduceToInt]); omega) | (subst_vars; assumption) | (refine ⟨?_, ?_⟩ <;> first | omega | (simp only [Int32.lt_iff_toInt_lt, Int32.le_iff_toInt_le, ← Int32.toInt_inj, Int32.reduceToInt, zl1, zl2, zl3, zl4, zl9]; omega) | (subst_vars; assumption))))]) <;> (first | rfl | assumption | omega | exact Int32.toInt_inj.mp (by omega) | (simp only [Int32.reduceToInt, zl1, zl2, zl3, zl4, zl9]; omega) | ((rw [if_pos (by (first | omega | ((try simp only [Int32.lt_iff_toInt_lt, Int32.le_iff_toInt_le, ← Int32.toInt_inj, Int32.reduceToInt, zl1, zl2, zl3, zl4, zl9]); (try simp only [Int32.reduceToInt]); omega) | (subst_vars; assumption) | (refine ⟨?_, ?_⟩ <;> first | omega | (simp only [Int32.lt_iff_toInt_lt, Int32.le_iff_toInt_le, ← Int32.toInt_inj, Int32.reduceToInt, zl1, zl2, zl3, zl4, zl9]; omega) | (subst_vars; assumption))))]) <;> (first | rfl | assumption | omega | exact Int32.toInt_inj.mp (by omega) | (simp only [Int32.reduceToInt, zl1, zl2, zl3, zl4, zl9]; omega))) | ((rw [if_neg (by (first | omega | ((try simp only [Int32.lt_iff_toInt_lt, Int32.le_iff_toInt_le, ← Int32.toInt_inj, Int32.reduceToInt, zl1, zl2, zl3, zl4, zl9]); (try simp only [Int32.reduceToInt]); omega) | (subst_vars; assumption) | (refine ⟨?_, ?_⟩ <;> first | omega | (simp only [Int32.lt_iff_toInt_lt, Int32.le_iff_toInt_le, ← Int32.toInt_inj, Int32.reduceToInt, zl1, zl2, zl3, zl4, zl9]; omega) | (subst_vars; assumption))))]) <;> (first | rfl | assumption | omega | exact Int32.toInt_inj.mp (by omega) | (simp only [Int32.reduceToInt, zl1, zl2, zl3, zl4, zl9]; omega)))))) | ((try simp only [Int32.lt_iff_toInt_lt, Int32.le_iff_toInt_le, ← Int32.toInt_inj, Int32.reduceToInt, zl1, zl2, zl3, zl4, zl9]); (repeat' split) <;> first | rfl | omega | (simp only [Int32.lt_iff_toInt_lt, Int32.le_iff_toInt_le, ← Int32.toInt_inj, Int32.reduceToInt, zl1, zl2, zl3, zl4, zl9]; omega)))) hP hD hS (lv_sub hl [0, 1, 2, 3] rfl)
set_option maxRecDepth 20000 in
theorem iw_X6_distanceOf_X6 : ∀ w ∈ wsX60, w ∈ wsX6_distanceOf := fun w h => (List.mem_cons_of_mem _ (List.mem_append_right _ h))
set_option maxHeartbeats 4000000 in
set_option maxRecDepth 100000 in
/-- reference: distanceOf -/
theorem c_X6_distanceOf (l : Launch) (dC : Nat → ClassId) (dI : Nat → Nat → Nat) (sz : Nat) (m0 : Nat) (mfi : Nat) (mil : Nat) (mic : Nat) (mwi : Nat) (mmo : Nat) (mki : Nat) (mce : Nat) (mgo : Nat) (mwa : Nat) (mha : Nat) (mch : Nat) (mfo : Nat) (mca : Nat) (mor : Nat) (mro : Nat) (mra : Nat) (mpr : Nat) (mho : Nat) (mis : Nat) (mss : Nat) (msc : Nat) (msh : Nat) (vfi : Int32) (vhr : Int32) (vho : Int32) (vga : Int32) (vns : Int32) (vsg : Int32) (vpr : Int32) (vfa : Int32) (vak : Int64) (Kss : Nat → Int32) (Ksc : Nat → Int32) (Ksh : Nat → Int32) (cI : ClassId) (a0 : Int32) (a1 : Int32) (a2 : Int32) (i_a0 : 0 ≤ a0.toInt ∧ a0.toInt ≤ 7) (i_a1 : 0 ≤ a1.toInt ∧ a1.toInt ≤ 100000) (i_a2 : 0 ≤ a2.toInt ∧ a2.toInt ≤ 1) (i_vsg : 0 ≤ vsg.toInt ∧ vsg.toInt ≤ 60) (i_vho : 0 ≤ vho.toInt ∧ vho.toInt ≤ 159) (R_Kss : Rg 60 0 7 Kss) (R_Ksc : Rg 60 0 159 Ksc) (R_Ksh : Rg 60 0 100000 Ksh) : Met l yX6_distanceOf wsX6_distanceOf ({ frames := 2, cells := 0, slots := 0, locals := 44 }) (va_Pc [.ref m0, .int a0, .int a1, .int a2] (fun U => U.heap.size = sz ∧ va_P (dC, dI) vwCl [(m0, .inr (7, [.int vfi, .ref mfi, .long vak, .int vhr, .ref mil, .ref mic, .ref mwi, .int vho, .int vga, .ref mmo, .int vns, .ref mki, .ref mce, .ref mgo, .ref mwa, .ref mha, .ref mch, .ref mfo, .ref mca, .ref mor, .ref mro, .ref mra, .ref mpr, .ref mho, .ref mis, .int vsg, .ref mss, .ref msc, .ref msh, .int vpr, .int vfa])), (mss, .inl (cI, 60, .inl Kss)), (msc, .inl (cI, 60, .inl Ksc)), (msh, .inl (cI, 60, .inl Ksh))] U.heap ∧ va_K (dC, dI) vwCl [(cI, .int)] U ∧ NW U)) (va_Qi (fun (r : Int32) (_ : Unit) => (NoBefM Kss Ksh vsg a0.toInt a1.toInt ∨ NoBehM Kss Ksh vsg a0.toInt a1.toInt → r = (-9)) ∧ (∀ b b' : Nat, BefM Kss Ksh vsg a0.toInt a1.toInt b → BehM Kss Ksh vsg a0.toInt a1.toInt b' → r.toInt = if a2.toInt = 0 then leastV (farI (Ksc b).toInt vho.toInt) (farI (Ksc b').toInt vho.toInt) (Ksh b).toInt (Ksh b').toInt a1.toInt else mostV (farI (Ksc b).toInt vho.toInt) (farI (Ksc b').toInt vho.toInt) (Ksh b).toInt (Ksh b').toInt a1.toInt)) (fun _ _ => True) (va_A [] sz)) 0 0 (va_A [] sz) := by
  refine Met.ofW (cc := cX6_distanceOf) (maxL := 11) (ret := (some .int)) (by decide) rfl ?_
  intro p e s m args below meth c s₁ B hml hv
  obtain ⟨rfl, hsz, hP, hK, hN⟩ := hv
  have hx := B.exec
  have hb := B.bytes
  have hr := B.returns
  have hts := atoms_spec (ws := wsX6_distanceOf) B.pre
  have hown : s.vm.findClass RX6 = some m.cls := findClass_of_methodNamed B.named
  have hlocks := B.notSynchronized
  subst hsz
  generalize hAe : va_A [] s.heap.size = A at ⊢
  have hA : ∀ q : Nat, s.heap.size ≤ q → A q := fun q h => by rw [← hAe]; exact Or.inr h
  have hS : va_S A s.heap s.heap [] := va_S.rf
  have hP : va_P (dC, dI) vwCl [(m0, .inr (7, [.int vfi, .ref mfi, .long vak, .int vhr, .ref mil, .ref mic, .ref mwi, .int vho, .int vga, .ref mmo, .int vns, .ref mki, .ref mce, .ref mgo, .ref mwa, .ref mha, .ref mch, .ref mfo, .ref mca, .ref mor, .ref mro, .ref mra, .ref mpr, .ref mho, .ref mis, .int vsg, .ref mss, .ref msc, .ref msh, .int vpr, .int vfa])), (mss, .inl (cI, 60, .inl Kss)), (msc, .inl (cI, 60, .inl Ksc)), (msh, .inl (cI, 60, .inl Ksh))] s.heap := hP
  have hl := lv_entry ([.ref m0, .int a0, .int a1, .int a2]) (n := 11) (Nat.le_of_ble_eq_true rfl)
  rw [lg_entry_eq]
  generalize (lg_sl ([.ref m0, .int a0, .int a1, .int a2]) ++ List.replicate (11 - (lg_sl ([.ref m0, .int a0, .int a1, .int a2])).length) Slot.unset).toArray = ls at hl ⊢
  have hl : lv_has ls 11 [(0, .ref m0), (1, .int a0), (2, .int a1), (3, .int a2)] := hl
  refine lv_bipush (v := (-9)) hx hb dX6_distanceOf_0 (by decide) ?_
  refine lv_istore (lv' := [(4, .int (-9)), (0, .ref m0), (1, .int a0), (2, .int a1), (3, .int a2)]) hx hb dX6_distanceOf_2 hl (by decide) rfl (fun ls hl => ?_)
  refine lv_bipush (v := (-9)) hx hb dX6_distanceOf_4 (by decide) ?_
  refine lv_istore (lv' := [(5, .int (-9)), (4, .int (-9)), (0, .ref m0), (1, .int a0), (2, .int a1), (3, .int a2)]) hx hb dX6_distanceOf_6 hl (by decide) rfl (fun ls hl => ?_)
  refine lv_iconst (v := 0) hx hb dX6_distanceOf_8 (by decide) ?_
  refine lv_istore (lv' := [(6, .int 0), (5, .int (-9)), (4, .int (-9)), (0, .ref m0), (1, .int a0), (2, .int a1), (3, .int a2)]) hx hb dX6_distanceOf_9 hl (by decide) rfl (fun ls hl => ?_)
  have key11 : ∀ (n11 : Nat) (bf : Int32) (bh : Int32) (ik : Int32) (H : Heap) (locs : List Loc) (ls : Array Slot), ((-9) ≤ bf.toInt ∧ bf.toInt ≤ 59) → ((-9) ≤ bh.toInt ∧ bh.toInt ≤ 59) → (0 ≤ ik.toInt ∧ ik.toInt ≤ 60) → (0 ≤ bf.toInt → bf.toInt < ik.toInt ∧ (Kss bf.toNatClampNeg).toInt = a0.toInt ∧ (Ksh bf.toNatClampNeg).toInt ≤ a1.toInt ∧ ∀ j : Nat, bf.toNatClampNeg < j → (j : Int) < ik.toInt → (Kss j).toInt = a0.toInt → a1.toInt < (Ksh j).toInt) → (bf.toInt < 0 → ∀ j : Nat, (j : Int) < ik.toInt → (Kss j).toInt = a0.toInt → a1.toInt < (Ksh j).toInt) → (0 ≤ bh.toInt → bh.toInt < ik.toInt ∧ (Kss bh.toNatClampNeg).toInt = a0.toInt ∧ a1.toInt ≤ (Ksh bh.toNatClampNeg).toInt ∧ ∀ j : Nat, j < bh.toNatClampNeg → (Kss j).toInt = a0.toInt → (Ksh j).toInt < a1.toInt) → (bh.toInt < 0 → ∀ j : Nat, (j : Int) < ik.toInt → (Kss j).toInt = a0.toInt → (Ksh j).toInt < a1.toInt) → (ik.toInt ≤ vsg.toInt) → 60 - ik.toInt < (n11 : Int) → va_P (dC, dI) vwCl [(m0, .inr (7, [.int vfi, .ref mfi, .long vak, .int vhr, .ref mil, .ref mic, .ref mwi, .int vho, .int vga, .ref mmo, .int vns, .ref mki, .ref mce, .ref mgo, .ref mwa, .ref mha, .ref mch, .ref mfo, .ref mca, .ref mor, .ref mro, .ref mra, .ref mpr, .ref mho, .ref mis, .int vsg, .ref mss, .ref msc, .ref msh, .int vpr, .int vfa])), (mss, .inl (cI, 60, .inl Kss)), (msc, .inl (cI, 60, .inl Ksc)), (msh, .inl (cI, 60, .inl Ksh))] H → va_S A s.heap H locs → lv_has ls 11 [(6, .int ik), (5, .int bh), (4, .int bf), (0, .ref m0), (1, .int a0), (2, .int a1), (3, .int a2)] → W p l e ({ frames := 2, cells := 0, slots := 0, locals := 44 } : Room) s m ([.ref m0, .int a0, .int a1, .int a2] : List Value).toArray below meth c H locs 0 0 (MQ below (va_Qi (fun (r : Int32) (_ : Unit) => (NoBefM Kss Ksh vsg a0.toInt a1.toInt ∨ NoBehM Kss Ksh vsg a0.toInt a1.toInt → r = (-9)) ∧ (∀ b b' : Nat, BefM Kss Ksh vsg a0.toInt a1.toInt b → BehM Kss Ksh vsg a0.toInt a1.toInt b' → r.toInt = if a2.toInt = 0 then leastV (farI (Ksc b).toInt vho.toInt) (farI (Ksc b').toInt vho.toInt) (Ksh b).toInt (Ksh b').toInt a1.toInt else mostV (farI (Ksc b).toInt vho.toInt) (farI (Ksc b').toInt vho.toInt) (Ksh b).toInt (Ksh b').toInt a1.toInt)) (fun _ _ => True) A) ([.ref m0, .int a0, .int a1, .int a2] : List Value).toArray s 0 0 A) (F0 m 11 ls []) := by
    intro n11
    induction n11 with
    | zero =>
      intro bf bh ik H locs ls i_bf i_bh i_ik hbf hbf0 hbh hbh0 hle hm11
      exact absurd hm11 (by omega)
    | succ n11 ih11 =>
      intro bf bh ik H locs ls i_bf i_bh i_ik hbf hbf0 hbh hbh0 hle hm11 hP hS hl
      refine lv_iload hx hb dX6_distanceOf_11 (lv_at hl 0 rfl) ?_
      refine lv_aload_n hx hb dX6_distanceOf_13 rfl (lv_at hl 3 rfl) ?_
      refine va_get (D := (dC, dI)) (ci := 7) (v := .int vsg) (C := RX6) (T := TX6) (N := 31) hx hb hts iw_X6_distanceOf_X6 hown hK hP 0 rfl rfl 25 (by decide) (hts (.fieldLink RX6 168 "TeaRaceModel" "sights" "I") (by decide +kernel)) (fun _ h9 => h9) rfl dX6_distanceOf_14 ?_
      refine lv_icmp_ge (tgt := 82) hx hb dX6_distanceOf_17 (by decide) (fun c_1 => ?_) (fun c_1 => ?_)
      · skip
        have qc_1 : vsg.toInt ≤ ik.toInt := le_k rfl rfl c_1
        refine lv_iload hx hb dX6_distanceOf_82 (lv_at hl 2 rfl) ?_
        refine lv_if_lt (tgt := 92) hx hb dX6_distanceOf_84 (by decide) (fun c_2 => ?_) (fun c_2 => ?_)
        · skip
          have qc_2 : bf.toInt < 0 := lt_k rfl (by decide) c_2
          refine lv_bipush (v := (-9)) hx hb dX6_distanceOf_92 (by decide) ?_
          have hv9 : (-9 : Int32).toInt = (-9) := by decide
          exact W.iret (v := (-9)) hx hb hr (fun t ht hW => ⟨⟨(-9), (), rfl, ⟨(fun _ => rfl), (fun b b' h1 h2 => absurd trivial (fun _ => by by_cases z : bf.toInt < 0; (have := hbf0 z b (by omega) h1.2.1; have := h1.2.2.1; omega); (have := hbh0 (by omega) b' (by omega) h2.2.1; have := h2.2.2.1; omega)))⟩, trivial⟩, hS.F ht⟩) hS.2.2 dX6_distanceOf_94
        · skip
          have qc_2 : 0 ≤ bf.toInt := nlt_k rfl (by decide) c_2
          refine lv_iload hx hb dX6_distanceOf_87 (lv_at hl 1 rfl) ?_
          refine lv_if_ge (tgt := 95) hx hb dX6_distanceOf_89 (by decide) (fun c_3 => ?_) (fun c_3 => ?_)
          · skip
            have qc_3 : 0 ≤ bh.toInt := le_k (by decide) rfl c_3
            refine lv_iload_n hx hb dX6_distanceOf_95 rfl (lv_at hl 5 rfl) ?_
            refine lv_aload_n hx hb dX6_distanceOf_96 rfl (lv_at hl 3 rfl) ?_
            refine va_get (D := (dC, dI)) (ci := 7) (v := .ref msh) (C := RX6) (T := TX6) (N := 31) hx hb hts iw_X6_distanceOf_X6 hown hK hP 0 rfl rfl 28 (by decide) (hts (.fieldLink RX6 74 "TeaRaceModel" "sightHour" "[I") (by decide +kernel)) (fun _ h9 => h9) rfl dX6_distanceOf_97 ?_
            refine lv_iload hx hb dX6_distanceOf_100 (lv_at hl 2 rfl) ?_
            refine va_iald hx hb hK hP 3 0 rfl rfl (in_k rfl (by omega) (by omega)) dX6_distanceOf_102 ?_
            refine lv_topi (fun x_4 ex_4 => ?_)
            have rx_4 := congrArg Int32.toInt ex_4
            have gx_4 : 0 ≤ x_4.toInt ∧ x_4.toInt ≤ 100000 := Rg.at R_Ksh rfl (by omega) (by omega) ex_4
            refine lv_isub hx hb dX6_distanceOf_103 ?_
            refine lv_topi (fun x_5 ex_5 => ?_)
            have tx_5 : x_5.toInt = a1.toInt - x_4.toInt := su_k ex_5 rfl rfl (by omega) (by omega)
            refine lv_istore (lv' := [(6, .int x_5), (5, .int bh), (4, .int bf), (0, .ref m0), (1, .int a0), (2, .int a1), (3, .int a2)]) hx hb dX6_distanceOf_104 hl (by decide) rfl (fun ls hl => ?_)
            refine lv_aload_n hx hb dX6_distanceOf_106 rfl (lv_at hl 3 rfl) ?_
            refine va_get (D := (dC, dI)) (ci := 7) (v := .ref msh) (C := RX6) (T := TX6) (N := 31) hx hb hts iw_X6_distanceOf_X6 hown hK hP 0 rfl rfl 28 (by decide) (hts (.fieldLink RX6 74 "TeaRaceModel" "sightHour" "[I") (by decide +kernel)) (fun _ h9 => h9) rfl dX6_distanceOf_107 ?_
            refine lv_iload hx hb dX6_distanceOf_110 (lv_at hl 1 rfl) ?_
            refine va_iald hx hb hK hP 3 0 rfl rfl (in_k rfl (by omega) (by omega)) dX6_distanceOf_112 ?_
            refine lv_topi (fun x_6 ex_6 => ?_)
            have rx_6 := congrArg Int32.toInt ex_6
            have gx_6 : 0 ≤ x_6.toInt ∧ x_6.toInt ≤ 100000 := Rg.at R_Ksh rfl (by omega) (by omega) ex_6
            refine lv_iload_n hx hb dX6_distanceOf_113 rfl (lv_at hl 5 rfl) ?_
            refine lv_isub hx hb dX6_distanceOf_114 ?_
            refine lv_topi (fun x_7 ex_7 => ?_)
            have tx_7 : x_7.toInt = x_6.toInt - a1.toInt := su_k ex_7 rfl rfl (by omega) (by omega)
            refine lv_istore (lv' := [(7, .int x_7), (6, .int x_5), (5, .int bh), (4, .int bf), (0, .ref m0), (1, .int a0), (2, .int a1), (3, .int a2)]) hx hb dX6_distanceOf_115 hl (by decide) rfl (fun ls hl => ?_)
            refine lv_aload_n hx hb dX6_distanceOf_117 rfl (lv_at hl 4 rfl) ?_
            refine lv_aload_n hx hb dX6_distanceOf_118 rfl (lv_at hl 4 rfl) ?_
            refine va_get (D := (dC, dI)) (ci := 7) (v := .ref msc) (C := RX6) (T := TX6) (N := 31) hx hb hts iw_X6_distanceOf_X6 hown hK hP 0 rfl rfl 27 (by decide) (hts (.fieldLink RX6 71 "TeaRaceModel" "sightCell" "[I") (by decide +kernel)) (fun _ h9 => h9) rfl dX6_distanceOf_119 ?_
            refine lv_iload hx hb dX6_distanceOf_122 (lv_at hl 3 rfl) ?_
            refine va_iald hx hb hK hP 2 0 rfl rfl (in_k rfl (by omega) (by omega)) dX6_distanceOf_124 ?_
            refine lv_topi (fun x_8 ex_8 => ?_)
            have rx_8 := congrArg Int32.toInt ex_8
            have gx_8 : 0 ≤ x_8.toInt ∧ x_8.toInt ≤ 159 := Rg.at R_Ksc rfl (by omega) (by omega) ex_8
            have hPc := hP.sub (ws' := [(m0, .inr (7, [.int vfi, .ref mfi, .long vak, .int vhr, .ref mil, .ref mic, .ref mwi, .int vho, .int vga, .ref mmo, .int vns, .ref mki, .ref mce, .ref mgo, .ref mwa, .ref mha, .ref mch, .ref mfo, .ref mca, .ref mor, .ref mro, .ref mra, .ref mpr, .ref mho, .ref mis, .int vsg, .ref mss, .ref msc, .ref msh, .int vpr, .int vfa]))]) [0] rfl
            have hKc := hK.sub (tys' := []) [] rfl
            refine va_calli (va_runV (As := [.int x_8]) (rest := []) ⟨hx, hb, hml, hown, hts⟩ (c_X6_farOf l dC dI H.size m0 mfi mil mic mwi mmo mki mce mgo mwa mha mch mfo mca mor mro mra mpr mho mis mss msc msh vfi vhr vho vga vns vsg vpr vfa vak x_8 ⟨(by omega), (by omega)⟩ ⟨(by omega), (by omega)⟩) (cwV 1 hts gX6_distanceOf_X6_farOf rfl rfl rfl (by decide +kernel) ⟨Nat.le_of_ble_eq_true rfl, Nat.le_of_ble_eq_true rfl⟩) ⟨fun a U g mk q => by obtain ⟨q0, q1, qP, qK, qN⟩ := q; exact ⟨q0, q1, qP, va_K.moved (u := U) (U := U.calling g mk a) (Vm.Alike.refl U.vm) qK, NW.same (u := U) (U := U.calling g mk a) rfl qN⟩, va_recv hKc hPc (ci := 7) (q0 := 0) rfl rfl, fun U hU hW => ⟨rfl, by rw [hU], by rw [hU]; exact hPc, va_K.moved hW.alike hKc, NW.warm hW hN⟩⟩ rfl rfl hl.1 rfl (lv_room (Nat.le_of_ble_eq_true rfl)) dX6_distanceOf_125 ⟨(Nat.zero_le _), (Nat.zero_le _)⟩) hS (fun q _ h => ro_A hS hA q h) (ro_A hS hA) (fun r_9 u t H1 locs ht hvm k_10 hB hz1 hk1 hS => ?_)
            have hP := ro_P hk1 hP
            generalize H1 = H at hP hS ⊢
            try dsimp only at k_10
            obtain ⟨k_10, k_11⟩ := k_10
            have j140_12 : ∀ (pp : Int32) (H : Heap) (locs : List Loc) (ls : Array Slot), ((-100000) ≤ pp.toInt ∧ pp.toInt ≤ 100000) → (pp.toInt = if a2.toInt = 0 then -x_5.toInt else x_5.toInt) → va_P (dC, dI) vwCl [(m0, .inr (7, [.int vfi, .ref mfi, .long vak, .int vhr, .ref mil, .ref mic, .ref mwi, .int vho, .int vga, .ref mmo, .int vns, .ref mki, .ref mce, .ref mgo, .ref mwa, .ref mha, .ref mch, .ref mfo, .ref mca, .ref mor, .ref mro, .ref mra, .ref mpr, .ref mho, .ref mis, .int vsg, .ref mss, .ref msc, .ref msh, .int vpr, .int vfa])), (mss, .inl (cI, 60, .inl Kss)), (msc, .inl (cI, 60, .inl Ksc)), (msh, .inl (cI, 60, .inl Ksh))] H → va_S A s.heap H locs → lv_has ls 11 [(7, .int x_7), (6, .int x_5), (5, .int bh), (4, .int bf), (0, .ref m0), (1, .int a0), (2, .int a1), (3, .int a2)] → W p l e ({ frames := 2, cells := 0, slots := 0, locals := 44 } : Room) s m ([.ref m0, .int a0, .int a1, .int a2] : List Value).toArray below meth c H locs 0 0 (MQ below (va_Qi (fun (r : Int32) (_ : Unit) => (NoBefM Kss Ksh vsg a0.toInt a1.toInt ∨ NoBehM Kss Ksh vsg a0.toInt a1.toInt → r = (-9)) ∧ (∀ b b' : Nat, BefM Kss Ksh vsg a0.toInt a1.toInt b → BehM Kss Ksh vsg a0.toInt a1.toInt b' → r.toInt = if a2.toInt = 0 then leastV (farI (Ksc b).toInt vho.toInt) (farI (Ksc b').toInt vho.toInt) (Ksh b).toInt (Ksh b').toInt a1.toInt else mostV (farI (Ksc b).toInt vho.toInt) (farI (Ksc b').toInt vho.toInt) (Ksh b).toInt (Ksh b').toInt a1.toInt)) (fun _ _ => True) A) ([.ref m0, .int a0, .int a1, .int a2] : List Value).toArray s 0 0 A) (F0 m 140 ls [.int pp, .int r_9]) := by
              intro pp H locs ls i_pp hpp hP hS hl
              refine lv_iadd hx hb dX6_distanceOf_140 ?_
              refine lv_topi (fun x_13 ex_13 => ?_)
              have tx_13 : x_13.toInt = r_9.toInt + pp.toInt := ad_k ex_13 rfl rfl (by omega) (by omega)
              refine lv_istore (lv' := [(8, .int x_13), (7, .int x_7), (6, .int x_5), (5, .int bh), (4, .int bf), (0, .ref m0), (1, .int a0), (2, .int a1), (3, .int a2)]) hx hb dX6_distanceOf_141 hl (by decide) rfl (fun ls hl => ?_)
              refine lv_aload_n hx hb dX6_distanceOf_143 rfl (lv_at hl 5 rfl) ?_
              refine lv_aload_n hx hb dX6_distanceOf_144 rfl (lv_at hl 5 rfl) ?_
              refine va_get (D := (dC, dI)) (ci := 7) (v := .ref msc) (C := RX6) (T := TX6) (N := 31) hx hb hts iw_X6_distanceOf_X6 hown hK hP 0 rfl rfl 27 (by decide) (hts (.fieldLink RX6 71 "TeaRaceModel" "sightCell" "[I") (by decide +kernel)) (fun _ h9 => h9) rfl dX6_distanceOf_145 ?_
              refine lv_iload hx hb dX6_distanceOf_148 (lv_at hl 3 rfl) ?_
              refine va_iald hx hb hK hP 2 0 rfl rfl (in_k rfl (by omega) (by omega)) dX6_distanceOf_150 ?_
              refine lv_topi (fun x_14 ex_14 => ?_)
              have rx_14 := congrArg Int32.toInt ex_14
              have gx_14 : 0 ≤ x_14.toInt ∧ x_14.toInt ≤ 159 := Rg.at R_Ksc rfl (by omega) (by omega) ex_14
              have hPc := hP.sub (ws' := [(m0, .inr (7, [.int vfi, .ref mfi, .long vak, .int vhr, .ref mil, .ref mic, .ref mwi, .int vho, .int vga, .ref mmo, .int vns, .ref mki, .ref mce, .ref mgo, .ref mwa, .ref mha, .ref mch, .ref mfo, .ref mca, .ref mor, .ref mro, .ref mra, .ref mpr, .ref mho, .ref mis, .int vsg, .ref mss, .ref msc, .ref msh, .int vpr, .int vfa]))]) [0] rfl
              have hKc := hK.sub (tys' := []) [] rfl
              refine va_calli (va_runV (As := [.int x_14]) (rest := []) ⟨hx, hb, hml, hown, hts⟩ (c_X6_farOf l dC dI H.size m0 mfi mil mic mwi mmo mki mce mgo mwa mha mch mfo mca mor mro mra mpr mho mis mss msc msh vfi vhr vho vga vns vsg vpr vfa vak x_14 ⟨(by omega), (by omega)⟩ ⟨(by omega), (by omega)⟩) (cwV 1 hts gX6_distanceOf_X6_farOf rfl rfl rfl (by decide +kernel) ⟨Nat.le_of_ble_eq_true rfl, Nat.le_of_ble_eq_true rfl⟩) ⟨fun a U g mk q => by obtain ⟨q0, q1, qP, qK, qN⟩ := q; exact ⟨q0, q1, qP, va_K.moved (u := U) (U := U.calling g mk a) (Vm.Alike.refl U.vm) qK, NW.same (u := U) (U := U.calling g mk a) rfl qN⟩, va_recv hKc hPc (ci := 7) (q0 := 0) rfl rfl, fun U hU hW => ⟨rfl, by rw [hU], by rw [hU]; exact hPc, va_K.moved hW.alike hKc, NW.warm hW hN⟩⟩ rfl rfl hl.1 rfl (lv_room (Nat.le_of_ble_eq_true rfl)) dX6_distanceOf_151 ⟨(Nat.zero_le _), (Nat.zero_le _)⟩) hS (fun q _ h => ro_A hS hA q h) (ro_A hS hA) (fun r_15 u t H1 locs ht hvm k_16 hB hz1 hk1 hS => ?_)
              have hP := ro_P hk1 hP
              generalize H1 = H at hP hS ⊢
              try dsimp only at k_16
              obtain ⟨k_16, k_17⟩ := k_16
              have j166_18 : ∀ (qq : Int32) (H : Heap) (locs : List Loc) (ls : Array Slot), ((-100000) ≤ qq.toInt ∧ qq.toInt ≤ 100000) → (qq.toInt = if a2.toInt = 0 then -x_7.toInt else x_7.toInt) → va_P (dC, dI) vwCl [(m0, .inr (7, [.int vfi, .ref mfi, .long vak, .int vhr, .ref mil, .ref mic, .ref mwi, .int vho, .int vga, .ref mmo, .int vns, .ref mki, .ref mce, .ref mgo, .ref mwa, .ref mha, .ref mch, .ref mfo, .ref mca, .ref mor, .ref mro, .ref mra, .ref mpr, .ref mho, .ref mis, .int vsg, .ref mss, .ref msc, .ref msh, .int vpr, .int vfa])), (mss, .inl (cI, 60, .inl Kss)), (msc, .inl (cI, 60, .inl Ksc)), (msh, .inl (cI, 60, .inl Ksh))] H → va_S A s.heap H locs → lv_has ls 11 [(8, .int x_13), (7, .int x_7), (6, .int x_5), (5, .int bh), (4, .int bf), (0, .ref m0), (1, .int a0), (2, .int a1), (3, .int a2)] → W p l e ({ frames := 2, cells := 0, slots := 0, locals := 44 } : Room) s m ([.ref m0, .int a0, .int a1, .int a2] : List Value).toArray below meth c H locs 0 0 (MQ below (va_Qi (fun (r : Int32) (_ : Unit) => (NoBefM Kss Ksh vsg a0.toInt a1.toInt ∨ NoBehM Kss Ksh vsg a0.toInt a1.toInt → r = (-9)) ∧ (∀ b b' : Nat, BefM Kss Ksh vsg a0.toInt a1.toInt b → BehM Kss Ksh vsg a0.toInt a1.toInt b' → r.toInt = if a2.toInt = 0 then leastV (farI (Ksc b).toInt vho.toInt) (farI (Ksc b').toInt vho.toInt) (Ksh b).toInt (Ksh b').toInt a1.toInt else mostV (farI (Ksc b).toInt vho.toInt) (farI (Ksc b').toInt vho.toInt) (Ksh b).toInt (Ksh b').toInt a1.toInt)) (fun _ _ => True) A) ([.ref m0, .int a0, .int a1, .int a2] : List Value).toArray s 0 0 A) (F0 m 166 ls [.int qq, .int r_15]) := by
                intro qq H locs ls i_qq hqq hP hS hl
                refine lv_iadd hx hb dX6_distanceOf_166 ?_
                refine lv_topi (fun x_19 ex_19 => ?_)
                have tx_19 : x_19.toInt = r_15.toInt + qq.toInt := ad_k ex_19 rfl rfl (by omega) (by omega)
                refine lv_istore (lv' := [(9, .int x_19), (8, .int x_13), (7, .int x_7), (6, .int x_5), (5, .int bh), (4, .int bf), (0, .ref m0), (1, .int a0), (2, .int a1), (3, .int a2)]) hx hb dX6_distanceOf_167 hl (by decide) rfl (fun ls hl => ?_)
                refine lv_iload_n hx hb dX6_distanceOf_169 rfl (lv_at hl 9 rfl) ?_
                have j182_20 : ∀ (ab : Int32) (H : Heap) (locs : List Loc) (ls : Array Slot), (0 ≤ ab.toInt ∧ ab.toInt ≤ 1) → (ab.toInt = if x_13.toInt < x_19.toInt then 1 else 0) → va_P (dC, dI) vwCl [(m0, .inr (7, [.int vfi, .ref mfi, .long vak, .int vhr, .ref mil, .ref mic, .ref mwi, .int vho, .int vga, .ref mmo, .int vns, .ref mki, .ref mce, .ref mgo, .ref mwa, .ref mha, .ref mch, .ref mfo, .ref mca, .ref mor, .ref mro, .ref mra, .ref mpr, .ref mho, .ref mis, .int vsg, .ref mss, .ref msc, .ref msh, .int vpr, .int vfa])), (mss, .inl (cI, 60, .inl Kss)), (msc, .inl (cI, 60, .inl Ksc)), (msh, .inl (cI, 60, .inl Ksh))] H → va_S A s.heap H locs → lv_has ls 11 [(9, .int x_19), (8, .int x_13), (7, .int x_7), (6, .int x_5), (5, .int bh), (4, .int bf), (0, .ref m0), (1, .int a0), (2, .int a1), (3, .int a2)] → W p l e ({ frames := 2, cells := 0, slots := 0, locals := 44 } : Room) s m ([.ref m0, .int a0, .int a1, .int a2] : List Value).toArray below meth c H locs 0 0 (MQ below (va_Qi (fun (r : Int32) (_ : Unit) => (NoBefM Kss Ksh vsg a0.toInt a1.toInt ∨ NoBehM Kss Ksh vsg a0.toInt a1.toInt → r = (-9)) ∧ (∀ b b' : Nat, BefM Kss Ksh vsg a0.toInt a1.toInt b → BehM Kss Ksh vsg a0.toInt a1.toInt b' → r.toInt = if a2.toInt = 0 then leastV (farI (Ksc b).toInt vho.toInt) (farI (Ksc b').toInt vho.toInt) (Ksh b).toInt (Ksh b').toInt a1.toInt else mostV (farI (Ksc b).toInt vho.toInt) (farI (Ksc b').toInt vho.toInt) (Ksh b).toInt (Ksh b').toInt a1.toInt)) (fun _ _ => True) A) ([.ref m0, .int a0, .int a1, .int a2] : List Value).toArray s 0 0 A) (F0 m 182 ls [.int ab, .int a2]) := by
                  intro ab H locs ls i_ab hab hP hS hl
                  have j192_21 : ∀ (fr : Int32) (H : Heap) (locs : List Loc) (ls : Array Slot), (fr.toInt = if a2.toInt = ab.toInt then x_13.toInt else x_19.toInt) → va_P (dC, dI) vwCl [(m0, .inr (7, [.int vfi, .ref mfi, .long vak, .int vhr, .ref mil, .ref mic, .ref mwi, .int vho, .int vga, .ref mmo, .int vns, .ref mki, .ref mce, .ref mgo, .ref mwa, .ref mha, .ref mch, .ref mfo, .ref mca, .ref mor, .ref mro, .ref mra, .ref mpr, .ref mho, .ref mis, .int vsg, .ref mss, .ref msc, .ref msh, .int vpr, .int vfa])), (mss, .inl (cI, 60, .inl Kss)), (msc, .inl (cI, 60, .inl Ksc)), (msh, .inl (cI, 60, .inl Ksh))] H → va_S A s.heap H locs → lv_has ls 11 [(9, .int x_19), (8, .int x_13), (7, .int x_7), (6, .int x_5), (5, .int bh), (4, .int bf), (0, .ref m0), (1, .int a0), (2, .int a1), (3, .int a2)] → W p l e ({ frames := 2, cells := 0, slots := 0, locals := 44 } : Room) s m ([.ref m0, .int a0, .int a1, .int a2] : List Value).toArray below meth c H locs 0 0 (MQ below (va_Qi (fun (r : Int32) (_ : Unit) => (NoBefM Kss Ksh vsg a0.toInt a1.toInt ∨ NoBehM Kss Ksh vsg a0.toInt a1.toInt → r = (-9)) ∧ (∀ b b' : Nat, BefM Kss Ksh vsg a0.toInt a1.toInt b → BehM Kss Ksh vsg a0.toInt a1.toInt b' → r.toInt = if a2.toInt = 0 then leastV (farI (Ksc b).toInt vho.toInt) (farI (Ksc b').toInt vho.toInt) (Ksh b).toInt (Ksh b').toInt a1.toInt else mostV (farI (Ksc b).toInt vho.toInt) (farI (Ksc b').toInt vho.toInt) (Ksh b).toInt (Ksh b').toInt a1.toInt)) (fun _ _ => True) A) ([.ref m0, .int a0, .int a1, .int a2] : List Value).toArray s 0 0 A) (F0 m 192 ls [.int fr]) := by
                    intro fr H locs ls hfr hP hS hl
                    refine lv_istore (lv' := [(10, .int fr), (9, .int x_19), (8, .int x_13), (7, .int x_7), (6, .int x_5), (5, .int bh), (4, .int bf), (0, .ref m0), (1, .int a0), (2, .int a1), (3, .int a2)]) hx hb dX6_distanceOf_192 hl (by decide) rfl (fun ls hl => ?_)
                    refine lv_iload hx hb dX6_distanceOf_194 (lv_at hl 0 rfl) ?_
                    refine lv_if_ge (tgt := 203) hx hb dX6_distanceOf_196 (by decide) (fun c_22 => ?_) (fun c_22 => ?_)
                    · skip
                      have qc_22 : 0 ≤ fr.toInt := le_k (by decide) rfl c_22
                      refine lv_iload hx hb dX6_distanceOf_203 (lv_at hl 0 rfl) ?_
                      exact W.iret (v := fr) hx hb hr (fun t ht hW => ⟨⟨fr, (), rfl, ⟨(fun h => absurd trivial (fun _ => by obtain ⟨b1, b2, b3, b4⟩ := hbf (by omega); obtain ⟨c1, c2, c3, c4⟩ := hbh (by omega); have z1 := tn_k (i := bf) rfl (by omega); have z2 := tn_k (i := bh) rfl (by omega); rcases h with h | h; (have := h _ (by omega) b2; omega); (have := h _ (by omega) c2; omega))), (fun b b' h1 h2 => by have z1 := tn_k (i := bf) rfl (by omega); have z2 := tn_k (i := bh) rfl (by omega); obtain ⟨b1, b2, b3, b4⟩ := hbf (by omega); obtain ⟨c1, c2, c3, c4⟩ := hbh (by omega); have e1 : b = bf.toNatClampNeg := BefM.uniq h1 ⟨by omega, b2, b3, fun j g1 g2 g3 => b4 j g1 (by omega) g3⟩; have e2 : b' = bh.toNatClampNeg := BehM.uniq h2 ⟨by omega, c2, c3, c4⟩; rw [e1, e2]; have d1 := k_10; have d2 := k_16; rewrite [ex_8] at d1; rewrite [ex_14] at d2; rw [← d1, ← d2]; exact dist_of (by omega) (by omega) (by omega) b3 c3 (by omega) (by omega) hpp hqq (by omega) (by omega) hab hfr (by (try simp only [Int32.reduceToInt]); (repeat' split) <;> omega))⟩, trivial⟩, hS.F ht⟩) hS.2.2 dX6_distanceOf_205
                    · skip
                      have qc_22 : fr.toInt < 0 := nle_k (by decide) rfl c_22
                      refine lv_iconst (v := 0) hx hb dX6_distanceOf_199 (by decide) ?_
                      refine lv_goto (tgt := 205) hx hb dX6_distanceOf_200 (by decide) ?_
                      have hv9 : (0 : Int32).toInt = 0 := by decide
                      exact W.iret (v := 0) hx hb hr (fun t ht hW => ⟨⟨0, (), rfl, ⟨(fun h => absurd trivial (fun _ => by obtain ⟨b1, b2, b3, b4⟩ := hbf (by omega); obtain ⟨c1, c2, c3, c4⟩ := hbh (by omega); have z1 := tn_k (i := bf) rfl (by omega); have z2 := tn_k (i := bh) rfl (by omega); rcases h with h | h; (have := h _ (by omega) b2; omega); (have := h _ (by omega) c2; omega))), (fun b b' h1 h2 => by have z1 := tn_k (i := bf) rfl (by omega); have z2 := tn_k (i := bh) rfl (by omega); obtain ⟨b1, b2, b3, b4⟩ := hbf (by omega); obtain ⟨c1, c2, c3, c4⟩ := hbh (by omega); have e1 : b = bf.toNatClampNeg := BefM.uniq h1 ⟨by omega, b2, b3, fun j g1 g2 g3 => b4 j g1 (by omega) g3⟩; have e2 : b' = bh.toNatClampNeg := BehM.uniq h2 ⟨by omega, c2, c3, c4⟩; rw [e1, e2]; have d1 := k_10; have d2 := k_16; rewrite [ex_8] at d1; rewrite [ex_14] at d2; rw [← d1, ← d2]; exact dist_of (by omega) (by omega) (by omega) b3 c3 (by omega) (by omega) hpp hqq (by omega) (by omega) hab hfr (by (try simp only [Int32.reduceToInt]); (repeat' split) <;> omega))⟩, trivial⟩, hS.F ht⟩) hS.2.2 dX6_distanceOf_205
                  refine lv_icmp_ne (tgt := 190) hx hb dX6_distanceOf_182 (by decide) (fun c_23 => ?_) (fun c_23 => ?_)
                  · skip
                    have qc_23 : a2.toInt ≠ ab.toInt := ne_k rfl rfl c_23
                    refine lv_iload hx hb dX6_distanceOf_190 (lv_at hl 0 rfl) ?_
                    exact j192_21 x_19 _ _ ls (by (repeat' split) <;> omega) hP hS (lv_sub hl [0, 1, 2, 3, 4, 5, 6, 7, 8, 9] rfl)
                  · skip
                    have qc_23 : a2.toInt = ab.toInt := eq_k rfl rfl c_23
                    refine lv_iload hx hb dX6_distanceOf_185 (lv_at hl 1 rfl) ?_
                    refine lv_goto (tgt := 192) hx hb dX6_distanceOf_187 (by decide) ?_
                    exact j192_21 x_13 _ _ ls (by (repeat' split) <;> omega) hP hS (lv_sub hl [0, 1, 2, 3, 4, 5, 6, 7, 8, 9] rfl)
                refine lv_iload hx hb dX6_distanceOf_170 (lv_at hl 1 rfl) ?_
                refine lv_iload hx hb dX6_distanceOf_172 (lv_at hl 0 rfl) ?_
                refine lv_icmp_ge (tgt := 181) hx hb dX6_distanceOf_174 (by decide) (fun c_24 => ?_) (fun c_24 => ?_)
                · skip
                  have qc_24 : x_19.toInt ≤ x_13.toInt := le_k rfl rfl c_24
                  refine lv_iconst (v := 0) hx hb dX6_distanceOf_181 (by decide) ?_
                  exact j182_20 0 _ _ ls (by decide) (by (try simp only [Int32.reduceToInt]); (repeat' split) <;> omega) hP hS (lv_sub hl [0, 1, 2, 3, 4, 5, 6, 7, 8, 9] rfl)
                · skip
                  have qc_24 : x_13.toInt < x_19.toInt := nle_k rfl rfl c_24
                  refine lv_iconst (v := 1) hx hb dX6_distanceOf_177 (by decide) ?_
                  refine lv_goto (tgt := 182) hx hb dX6_distanceOf_178 (by decide) ?_
                  exact j182_20 1 _ _ ls (by decide) (by (try simp only [Int32.reduceToInt]); (repeat' split) <;> omega) hP hS (lv_sub hl [0, 1, 2, 3, 4, 5, 6, 7, 8, 9] rfl)
              refine lv_iload_n hx hb dX6_distanceOf_154 rfl (lv_at hl 8 rfl) ?_
              refine lv_if_eq (tgt := 163) hx hb dX6_distanceOf_155 (by decide) (fun c_25 => ?_) (fun c_25 => ?_)
              · skip
                have qc_25 : a2.toInt = 0 := eq_k rfl (by decide) c_25
                refine lv_iload hx hb dX6_distanceOf_163 (lv_at hl 1 rfl) ?_
                refine lv_ineg hx hb dX6_distanceOf_165 ?_
                refine lv_topi (fun x_26 ex_26 => ?_)
                have tx_26 : x_26.toInt = -x_7.toInt := ng_k ex_26 rfl (by omega)
                exact j166_18 x_26 _ _ ls ⟨by omega, by omega⟩ (by (repeat' split) <;> omega) hP hS (lv_sub hl [0, 1, 2, 3, 4, 5, 6, 7, 8] rfl)
              · skip
                have qc_25 : a2.toInt ≠ 0 := ne_k rfl (by decide) c_25
                refine lv_iload hx hb dX6_distanceOf_158 (lv_at hl 1 rfl) ?_
                refine lv_goto (tgt := 166) hx hb dX6_distanceOf_160 (by decide) ?_
                exact j166_18 x_7 _ _ ls ⟨by omega, by omega⟩ (by (repeat' split) <;> omega) hP hS (lv_sub hl [0, 1, 2, 3, 4, 5, 6, 7, 8] rfl)
            refine lv_iload_n hx hb dX6_distanceOf_128 rfl (lv_at hl 7 rfl) ?_
            refine lv_if_eq (tgt := 137) hx hb dX6_distanceOf_129 (by decide) (fun c_27 => ?_) (fun c_27 => ?_)
            · skip
              have qc_27 : a2.toInt = 0 := eq_k rfl (by decide) c_27
              refine lv_iload hx hb dX6_distanceOf_137 (lv_at hl 1 rfl) ?_
              refine lv_ineg hx hb dX6_distanceOf_139 ?_
              refine lv_topi (fun x_28 ex_28 => ?_)
              have tx_28 : x_28.toInt = -x_5.toInt := ng_k ex_28 rfl (by omega)
              exact j140_12 x_28 _ _ ls ⟨by omega, by omega⟩ (by (repeat' split) <;> omega) hP hS (lv_sub hl [0, 1, 2, 3, 4, 5, 6, 7] rfl)
            · skip
              have qc_27 : a2.toInt ≠ 0 := ne_k rfl (by decide) c_27
              refine lv_iload hx hb dX6_distanceOf_132 (lv_at hl 1 rfl) ?_
              refine lv_goto (tgt := 140) hx hb dX6_distanceOf_134 (by decide) ?_
              exact j140_12 x_5 _ _ ls ⟨by omega, by omega⟩ (by (repeat' split) <;> omega) hP hS (lv_sub hl [0, 1, 2, 3, 4, 5, 6, 7] rfl)
          · skip
            have qc_3 : bh.toInt < 0 := nle_k (by decide) rfl c_3
            refine lv_bipush (v := (-9)) hx hb dX6_distanceOf_92 (by decide) ?_
            have hv9 : (-9 : Int32).toInt = (-9) := by decide
            exact W.iret (v := (-9)) hx hb hr (fun t ht hW => ⟨⟨(-9), (), rfl, ⟨(fun _ => rfl), (fun b b' h1 h2 => absurd trivial (fun _ => by by_cases z : bf.toInt < 0; (have := hbf0 z b (by omega) h1.2.1; have := h1.2.2.1; omega); (have := hbh0 (by omega) b' (by omega) h2.2.1; have := h2.2.2.1; omega)))⟩, trivial⟩, hS.F ht⟩) hS.2.2 dX6_distanceOf_94
      · skip
        have qc_1 : ik.toInt < vsg.toInt := nle_k rfl rfl c_1
        refine lv_aload_n hx hb dX6_distanceOf_20 rfl (lv_at hl 3 rfl) ?_
        refine va_get (D := (dC, dI)) (ci := 7) (v := .ref mss) (C := RX6) (T := TX6) (N := 31) hx hb hts iw_X6_distanceOf_X6 hown hK hP 0 rfl rfl 26 (by decide) (hts (.fieldLink RX6 68 "TeaRaceModel" "sightShip" "[I") (by decide +kernel)) (fun _ h9 => h9) rfl dX6_distanceOf_21 ?_
        refine lv_iload hx hb dX6_distanceOf_24 (lv_at hl 0 rfl) ?_
        refine va_iald hx hb hK hP 1 0 rfl rfl (in_k rfl (by omega) (by omega)) dX6_distanceOf_26 ?_
        refine lv_topi (fun x_29 ex_29 => ?_)
        have rx_29 := congrArg Int32.toInt ex_29
        have gx_29 : 0 ≤ x_29.toInt ∧ x_29.toInt ≤ 7 := Rg.at R_Kss rfl (by omega) (by omega) ex_29
        refine lv_iload_n hx hb dX6_distanceOf_27 rfl (lv_at hl 4 rfl) ?_
        refine lv_icmp_ne (tgt := 76) hx hb dX6_distanceOf_28 (by decide) (fun c_30 => ?_) (fun c_30 => ?_)
        · skip
          have qc_30 : x_29.toInt ≠ a0.toInt := ne_k rfl rfl c_30
          obtain ⟨x_31, ex_31⟩ : ∃ y : Int32, y = ik + 1 := ⟨_, rfl⟩
          have tx_31 : x_31.toInt = ik.toInt + 1 := ad_k ex_31 rfl (by decide) (by omega) (by omega)
          refine lv_iinc (v := x_31) (lv' := [(6, .int x_31), (5, .int bh), (4, .int bf), (0, .ref m0), (1, .int a0), (2, .int a1), (3, .int a2)]) hx hb dX6_distanceOf_76 hl (k := 0) rfl (by rw [ex_31]; rfl) (by decide) rfl (fun ls hl => ?_)
          refine lv_goto (tgt := 11) hx hb dX6_distanceOf_79 (by decide) ?_
          exact ih11 bf bh x_31  H locs ls ⟨(by first | omega | (simp only [Int32.reduceToInt]; omega)), (by first | omega | (simp only [Int32.reduceToInt]; omega))⟩ ⟨(by first | omega | (simp only [Int32.reduceToInt]; omega)), (by first | omega | (simp only [Int32.reduceToInt]; omega))⟩ ⟨(by first | omega | (simp only [Int32.reduceToInt]; omega)), (by first | omega | (simp only [Int32.reduceToInt]; omega))⟩ (fun h => by obtain ⟨g1, g2, g3, g4⟩ := hbf h; exact ⟨by omega, g2, g3, fun j h1 h2 h3 => by by_cases e9 : j = ik.toNatClampNeg; (rewrite [e9] at h3 ⊢; omega); exact g4 j h1 (by have := tn_k (i := ik) rfl (by omega); omega) h3⟩) (fun h j h2 h3 => by by_cases e9 : j = ik.toNatClampNeg; (rewrite [e9] at h3 ⊢; omega); exact hbf0 h j (by have := tn_k (i := ik) rfl (by omega); omega) h3) (fun h => by obtain ⟨g1, g2, g3, g4⟩ := hbh h; exact ⟨by omega, g2, g3, g4⟩) (fun h j h2 h3 => by by_cases e9 : j = ik.toNatClampNeg; (rewrite [e9] at h3 ⊢; omega); exact hbh0 h j (by have := tn_k (i := ik) rfl (by omega); omega) h3) (by first | omega | (simp only [Int32.reduceToInt]; omega)) (by first | omega | (simp only [Int32.reduceToInt]; omega)) hP hS (lv_sub hl [0, 1, 2, 3, 4, 5, 6] rfl)
        · skip
          have qc_30 : x_29.toInt = a0.toInt := eq_k rfl rfl c_30
          refine lv_aload_n hx hb dX6_distanceOf_31 rfl (lv_at hl 3 rfl) ?_
          refine va_get (D := (dC, dI)) (ci := 7) (v := .ref msh) (C := RX6) (T := TX6) (N := 31) hx hb hts iw_X6_distanceOf_X6 hown hK hP 0 rfl rfl 28 (by decide) (hts (.fieldLink RX6 74 "TeaRaceModel" "sightHour" "[I") (by decide +kernel)) (fun _ h9 => h9) rfl dX6_distanceOf_32 ?_
          refine lv_iload hx hb dX6_distanceOf_35 (lv_at hl 0 rfl) ?_
          refine va_iald hx hb hK hP 3 0 rfl rfl (in_k rfl (by omega) (by omega)) dX6_distanceOf_37 ?_
          refine lv_topi (fun x_32 ex_32 => ?_)
          have rx_32 := congrArg Int32.toInt ex_32
          have gx_32 : 0 ≤ x_32.toInt ∧ x_32.toInt ≤ 100000 := Rg.at R_Ksh rfl (by omega) (by omega) ex_32
          refine lv_iload_n hx hb dX6_distanceOf_38 rfl (lv_at hl 5 rfl) ?_
          refine lv_icmp_gt (tgt := 47) hx hb dX6_distanceOf_39 (by decide) (fun c_33 => ?_) (fun c_33 => ?_)
          · skip
            have qc_33 : a1.toInt < x_32.toInt := lt_k rfl rfl c_33
            refine lv_iload hx hb dX6_distanceOf_47 (lv_at hl 2 rfl) ?_
            refine lv_istore (lv' := [(4, .int bf), (6, .int ik), (5, .int bh), (0, .ref m0), (1, .int a0), (2, .int a1), (3, .int a2)]) hx hb dX6_distanceOf_49 hl (by decide) rfl (fun ls hl => ?_)
            refine lv_iload hx hb dX6_distanceOf_51 (lv_at hl 2 rfl) ?_
            refine lv_if_ge (tgt := 72) hx hb dX6_distanceOf_53 (by decide) (fun c_34 => ?_) (fun c_34 => ?_)
            · skip
              have qc_34 : 0 ≤ bh.toInt := le_k (by decide) rfl c_34
              refine lv_iload hx hb dX6_distanceOf_72 (lv_at hl 2 rfl) ?_
              refine lv_istore (lv' := [(5, .int bh), (4, .int bf), (6, .int ik), (0, .ref m0), (1, .int a0), (2, .int a1), (3, .int a2)]) hx hb dX6_distanceOf_74 hl (by decide) rfl (fun ls hl => ?_)
              obtain ⟨x_35, ex_35⟩ : ∃ y : Int32, y = ik + 1 := ⟨_, rfl⟩
              have tx_35 : x_35.toInt = ik.toInt + 1 := ad_k ex_35 rfl (by decide) (by omega) (by omega)
              refine lv_iinc (v := x_35) (lv' := [(6, .int x_35), (5, .int bh), (4, .int bf), (0, .ref m0), (1, .int a0), (2, .int a1), (3, .int a2)]) hx hb dX6_distanceOf_76 hl (k := 2) rfl (by rw [ex_35]; rfl) (by decide) rfl (fun ls hl => ?_)
              refine lv_goto (tgt := 11) hx hb dX6_distanceOf_79 (by decide) ?_
              exact ih11 bf bh x_35  H locs ls ⟨(by first | omega | (simp only [Int32.reduceToInt]; omega)), (by first | omega | (simp only [Int32.reduceToInt]; omega))⟩ ⟨(by first | omega | (simp only [Int32.reduceToInt]; omega)), (by first | omega | (simp only [Int32.reduceToInt]; omega))⟩ ⟨(by first | omega | (simp only [Int32.reduceToInt]; omega)), (by first | omega | (simp only [Int32.reduceToInt]; omega))⟩ (fun h => by obtain ⟨g1, g2, g3, g4⟩ := hbf h; exact ⟨by omega, g2, g3, fun j h1 h2 h3 => by by_cases e9 : j = ik.toNatClampNeg; (rewrite [e9] at h3 ⊢; omega); exact g4 j h1 (by have := tn_k (i := ik) rfl (by omega); omega) h3⟩) (fun h j h2 h3 => by by_cases e9 : j = ik.toNatClampNeg; (rewrite [e9] at h3 ⊢; omega); exact hbf0 h j (by have := tn_k (i := ik) rfl (by omega); omega) h3) (fun h => by obtain ⟨g1, g2, g3, g4⟩ := hbh h; exact ⟨by omega, g2, g3, g4⟩) (fun h j h2 h3 => by by_cases e9 : j = ik.toNatClampNeg; (rewrite [e9] at h3 ⊢; omega); exact hbh0 h j (by have := tn_k (i := ik) rfl (by omega); omega) h3) (by first | omega | (simp only [Int32.reduceToInt]; omega)) (by first | omega | (simp only [Int32.reduceToInt]; omega)) hP hS (lv_sub hl [0, 1, 2, 3, 4, 5, 6] rfl)
            · skip
              have qc_34 : bh.toInt < 0 := nle_k (by decide) rfl c_34
              refine lv_aload_n hx hb dX6_distanceOf_56 rfl (lv_at hl 3 rfl) ?_
              refine va_get (D := (dC, dI)) (ci := 7) (v := .ref msh) (C := RX6) (T := TX6) (N := 31) hx hb hts iw_X6_distanceOf_X6 hown hK hP 0 rfl rfl 28 (by decide) (hts (.fieldLink RX6 74 "TeaRaceModel" "sightHour" "[I") (by decide +kernel)) (fun _ h9 => h9) rfl dX6_distanceOf_57 ?_
              refine lv_iload hx hb dX6_distanceOf_60 (lv_at hl 1 rfl) ?_
              refine va_iald hx hb hK hP 3 0 rfl rfl (in_k rfl (by omega) (by omega)) dX6_distanceOf_62 ?_
              refine lv_topi (fun x_36 ex_36 => ?_)
              have rx_36 := congrArg Int32.toInt ex_36
              obtain rfl : x_32 = x_36 := ex_32.trans ex_36.symm
              refine lv_iload_n hx hb dX6_distanceOf_63 rfl (lv_at hl 5 rfl) ?_
              refine lv_icmp_lt (tgt := 72) hx hb dX6_distanceOf_64 (by decide) (fun c_37 => ?_) (fun c_37 => ?_)
              · skip
                have qc_37 : x_32.toInt < a1.toInt := lt_k rfl rfl c_37
                refine lv_iload hx hb dX6_distanceOf_72 (lv_at hl 2 rfl) ?_
                refine lv_istore (lv' := [(5, .int bh), (4, .int bf), (6, .int ik), (0, .ref m0), (1, .int a0), (2, .int a1), (3, .int a2)]) hx hb dX6_distanceOf_74 hl (by decide) rfl (fun ls hl => ?_)
                obtain ⟨x_38, ex_38⟩ : ∃ y : Int32, y = ik + 1 := ⟨_, rfl⟩
                have tx_38 : x_38.toInt = ik.toInt + 1 := ad_k ex_38 rfl (by decide) (by omega) (by omega)
                refine lv_iinc (v := x_38) (lv' := [(6, .int x_38), (5, .int bh), (4, .int bf), (0, .ref m0), (1, .int a0), (2, .int a1), (3, .int a2)]) hx hb dX6_distanceOf_76 hl (k := 2) rfl (by rw [ex_38]; rfl) (by decide) rfl (fun ls hl => ?_)
                refine lv_goto (tgt := 11) hx hb dX6_distanceOf_79 (by decide) ?_
                exact ih11 bf bh x_38  H locs ls ⟨(by first | omega | (simp only [Int32.reduceToInt]; omega)), (by first | omega | (simp only [Int32.reduceToInt]; omega))⟩ ⟨(by first | omega | (simp only [Int32.reduceToInt]; omega)), (by first | omega | (simp only [Int32.reduceToInt]; omega))⟩ ⟨(by first | omega | (simp only [Int32.reduceToInt]; omega)), (by first | omega | (simp only [Int32.reduceToInt]; omega))⟩ (fun h => by obtain ⟨g1, g2, g3, g4⟩ := hbf h; exact ⟨by omega, g2, g3, fun j h1 h2 h3 => by by_cases e9 : j = ik.toNatClampNeg; (rewrite [e9] at h3 ⊢; omega); exact g4 j h1 (by have := tn_k (i := ik) rfl (by omega); omega) h3⟩) (fun h j h2 h3 => by by_cases e9 : j = ik.toNatClampNeg; (rewrite [e9] at h3 ⊢; omega); exact hbf0 h j (by have := tn_k (i := ik) rfl (by omega); omega) h3) (fun h => by obtain ⟨g1, g2, g3, g4⟩ := hbh h; exact ⟨by omega, g2, g3, g4⟩) (fun h j h2 h3 => by by_cases e9 : j = ik.toNatClampNeg; (rewrite [e9] at h3 ⊢; omega); exact hbh0 h j (by have := tn_k (i := ik) rfl (by omega); omega) h3) (by first | omega | (simp only [Int32.reduceToInt]; omega)) (by first | omega | (simp only [Int32.reduceToInt]; omega)) hP hS (lv_sub hl [0, 1, 2, 3, 4, 5, 6] rfl)
              · skip
                have qc_37 : a1.toInt ≤ x_32.toInt := nlt_k rfl rfl c_37
                refine lv_iload hx hb dX6_distanceOf_67 (lv_at hl 1 rfl) ?_
                refine lv_goto (tgt := 74) hx hb dX6_distanceOf_69 (by decide) ?_
                refine lv_istore (lv' := [(5, .int ik), (4, .int bf), (6, .int ik), (0, .ref m0), (1, .int a0), (2, .int a1), (3, .int a2)]) hx hb dX6_distanceOf_74 hl (by decide) rfl (fun ls hl => ?_)
                obtain ⟨x_39, ex_39⟩ : ∃ y : Int32, y = ik + 1 := ⟨_, rfl⟩
                have tx_39 : x_39.toInt = ik.toInt + 1 := ad_k ex_39 rfl (by decide) (by omega) (by omega)
                refine lv_iinc (v := x_39) (lv' := [(6, .int x_39), (5, .int ik), (4, .int bf), (0, .ref m0), (1, .int a0), (2, .int a1), (3, .int a2)]) hx hb dX6_distanceOf_76 hl (k := 2) rfl (by rw [ex_39]; rfl) (by decide) rfl (fun ls hl => ?_)
                refine lv_goto (tgt := 11) hx hb dX6_distanceOf_79 (by decide) ?_
                exact ih11 bf ik x_39  H locs ls ⟨(by first | omega | (simp only [Int32.reduceToInt]; omega)), (by first | omega | (simp only [Int32.reduceToInt]; omega))⟩ ⟨(by first | omega | (simp only [Int32.reduceToInt]; omega)), (by first | omega | (simp only [Int32.reduceToInt]; omega))⟩ ⟨(by first | omega | (simp only [Int32.reduceToInt]; omega)), (by first | omega | (simp only [Int32.reduceToInt]; omega))⟩ (fun h => by obtain ⟨g1, g2, g3, g4⟩ := hbf h; exact ⟨by omega, g2, g3, fun j h1 h2 h3 => by by_cases e9 : j = ik.toNatClampNeg; (rewrite [e9] at h3 ⊢; omega); exact g4 j h1 (by have := tn_k (i := ik) rfl (by omega); omega) h3⟩) (fun h j h2 h3 => by by_cases e9 : j = ik.toNatClampNeg; (rewrite [e9] at h3 ⊢; omega); exact hbf0 h j (by have := tn_k (i := ik) rfl (by omega); omega) h3) (fun _ => ⟨by omega, by omega, by omega, fun j h1 h3 => hbh0 (by omega) j (by have := tn_k (i := ik) rfl (by omega); omega) h3⟩) (fun h => absurd h (by omega)) (by first | omega | (simp only [Int32.reduceToInt]; omega)) (by first | omega | (simp only [Int32.reduceToInt]; omega)) hP hS (lv_sub hl [0, 1, 2, 3, 4, 5, 6] rfl)
          · skip
            have qc_33 : x_32.toInt ≤ a1.toInt := nlt_k rfl rfl c_33
            refine lv_iload hx hb dX6_distanceOf_42 (lv_at hl 0 rfl) ?_
            refine lv_goto (tgt := 49) hx hb dX6_distanceOf_44 (by decide) ?_
            refine lv_istore (lv' := [(4, .int ik), (6, .int ik), (5, .int bh), (0, .ref m0), (1, .int a0), (2, .int a1), (3, .int a2)]) hx hb dX6_distanceOf_49 hl (by decide) rfl (fun ls hl => ?_)
            refine lv_iload hx hb dX6_distanceOf_51 (lv_at hl 2 rfl) ?_
            refine lv_if_ge (tgt := 72) hx hb dX6_distanceOf_53 (by decide) (fun c_40 => ?_) (fun c_40 => ?_)
            · skip
              have qc_40 : 0 ≤ bh.toInt := le_k (by decide) rfl c_40
              refine lv_iload hx hb dX6_distanceOf_72 (lv_at hl 2 rfl) ?_
              refine lv_istore (lv' := [(5, .int bh), (4, .int ik), (6, .int ik), (0, .ref m0), (1, .int a0), (2, .int a1), (3, .int a2)]) hx hb dX6_distanceOf_74 hl (by decide) rfl (fun ls hl => ?_)
              obtain ⟨x_41, ex_41⟩ : ∃ y : Int32, y = ik + 1 := ⟨_, rfl⟩
              have tx_41 : x_41.toInt = ik.toInt + 1 := ad_k ex_41 rfl (by decide) (by omega) (by omega)
              refine lv_iinc (v := x_41) (lv' := [(6, .int x_41), (5, .int bh), (4, .int ik), (0, .ref m0), (1, .int a0), (2, .int a1), (3, .int a2)]) hx hb dX6_distanceOf_76 hl (k := 2) rfl (by rw [ex_41]; rfl) (by decide) rfl (fun ls hl => ?_)
              refine lv_goto (tgt := 11) hx hb dX6_distanceOf_79 (by decide) ?_
              exact ih11 ik bh x_41  H locs ls ⟨(by first | omega | (simp only [Int32.reduceToInt]; omega)), (by first | omega | (simp only [Int32.reduceToInt]; omega))⟩ ⟨(by first | omega | (simp only [Int32.reduceToInt]; omega)), (by first | omega | (simp only [Int32.reduceToInt]; omega))⟩ ⟨(by first | omega | (simp only [Int32.reduceToInt]; omega)), (by first | omega | (simp only [Int32.reduceToInt]; omega))⟩ (fun _ => ⟨by omega, by omega, by omega, fun j h1 h2 => absurd h1 (by have := tn_k (i := ik) rfl (by omega); omega)⟩) (fun h => absurd h (by omega)) (fun h => by obtain ⟨g1, g2, g3, g4⟩ := hbh h; exact ⟨by omega, g2, g3, g4⟩) (fun h j h2 h3 => by by_cases e9 : j = ik.toNatClampNeg; (rewrite [e9] at h3 ⊢; omega); exact hbh0 h j (by have := tn_k (i := ik) rfl (by omega); omega) h3) (by first | omega | (simp only [Int32.reduceToInt]; omega)) (by first | omega | (simp only [Int32.reduceToInt]; omega)) hP hS (lv_sub hl [0, 1, 2, 3, 4, 5, 6] rfl)
            · skip
              have qc_40 : bh.toInt < 0 := nle_k (by decide) rfl c_40
              refine lv_aload_n hx hb dX6_distanceOf_56 rfl (lv_at hl 3 rfl) ?_
              refine va_get (D := (dC, dI)) (ci := 7) (v := .ref msh) (C := RX6) (T := TX6) (N := 31) hx hb hts iw_X6_distanceOf_X6 hown hK hP 0 rfl rfl 28 (by decide) (hts (.fieldLink RX6 74 "TeaRaceModel" "sightHour" "[I") (by decide +kernel)) (fun _ h9 => h9) rfl dX6_distanceOf_57 ?_
              refine lv_iload hx hb dX6_distanceOf_60 (lv_at hl 1 rfl) ?_
              refine va_iald hx hb hK hP 3 0 rfl rfl (in_k rfl (by omega) (by omega)) dX6_distanceOf_62 ?_
              refine lv_topi (fun x_42 ex_42 => ?_)
              have rx_42 := congrArg Int32.toInt ex_42
              obtain rfl : x_32 = x_42 := ex_32.trans ex_42.symm
              refine lv_iload_n hx hb dX6_distanceOf_63 rfl (lv_at hl 5 rfl) ?_
              refine lv_icmp_lt (tgt := 72) hx hb dX6_distanceOf_64 (by decide) (fun c_43 => ?_) (fun c_43 => ?_)
              · skip
                have qc_43 : x_32.toInt < a1.toInt := lt_k rfl rfl c_43
                refine lv_iload hx hb dX6_distanceOf_72 (lv_at hl 2 rfl) ?_
                refine lv_istore (lv' := [(5, .int bh), (4, .int ik), (6, .int ik), (0, .ref m0), (1, .int a0), (2, .int a1), (3, .int a2)]) hx hb dX6_distanceOf_74 hl (by decide) rfl (fun ls hl => ?_)
                obtain ⟨x_44, ex_44⟩ : ∃ y : Int32, y = ik + 1 := ⟨_, rfl⟩
                have tx_44 : x_44.toInt = ik.toInt + 1 := ad_k ex_44 rfl (by decide) (by omega) (by omega)
                refine lv_iinc (v := x_44) (lv' := [(6, .int x_44), (5, .int bh), (4, .int ik), (0, .ref m0), (1, .int a0), (2, .int a1), (3, .int a2)]) hx hb dX6_distanceOf_76 hl (k := 2) rfl (by rw [ex_44]; rfl) (by decide) rfl (fun ls hl => ?_)
                refine lv_goto (tgt := 11) hx hb dX6_distanceOf_79 (by decide) ?_
                exact ih11 ik bh x_44  H locs ls ⟨(by first | omega | (simp only [Int32.reduceToInt]; omega)), (by first | omega | (simp only [Int32.reduceToInt]; omega))⟩ ⟨(by first | omega | (simp only [Int32.reduceToInt]; omega)), (by first | omega | (simp only [Int32.reduceToInt]; omega))⟩ ⟨(by first | omega | (simp only [Int32.reduceToInt]; omega)), (by first | omega | (simp only [Int32.reduceToInt]; omega))⟩ (fun _ => ⟨by omega, by omega, by omega, fun j h1 h2 => absurd h1 (by have := tn_k (i := ik) rfl (by omega); omega)⟩) (fun h => absurd h (by omega)) (fun h => by obtain ⟨g1, g2, g3, g4⟩ := hbh h; exact ⟨by omega, g2, g3, g4⟩) (fun h j h2 h3 => by by_cases e9 : j = ik.toNatClampNeg; (rewrite [e9] at h3 ⊢; omega); exact hbh0 h j (by have := tn_k (i := ik) rfl (by omega); omega) h3) (by first | omega | (simp only [Int32.reduceToInt]; omega)) (by first | omega | (simp only [Int32.reduceToInt]; omega)) hP hS (lv_sub hl [0, 1, 2, 3, 4, 5, 6] rfl)
              · skip
                have qc_43 : a1.toInt ≤ x_32.toInt := nlt_k rfl rfl c_43
                refine lv_iload hx hb dX6_distanceOf_67 (lv_at hl 1 rfl) ?_
                refine lv_goto (tgt := 74) hx hb dX6_distanceOf_69 (by decide) ?_
                refine lv_istore (lv' := [(5, .int ik), (4, .int ik), (6, .int ik), (0, .ref m0), (1, .int a0), (2, .int a1), (3, .int a2)]) hx hb dX6_distanceOf_74 hl (by decide) rfl (fun ls hl => ?_)
                obtain ⟨x_45, ex_45⟩ : ∃ y : Int32, y = ik + 1 := ⟨_, rfl⟩
                have tx_45 : x_45.toInt = ik.toInt + 1 := ad_k ex_45 rfl (by decide) (by omega) (by omega)
                refine lv_iinc (v := x_45) (lv' := [(6, .int x_45), (5, .int ik), (4, .int ik), (0, .ref m0), (1, .int a0), (2, .int a1), (3, .int a2)]) hx hb dX6_distanceOf_76 hl (k := 2) rfl (by rw [ex_45]; rfl) (by decide) rfl (fun ls hl => ?_)
                refine lv_goto (tgt := 11) hx hb dX6_distanceOf_79 (by decide) ?_
                exact ih11 ik ik x_45  H locs ls ⟨(by first | omega | (simp only [Int32.reduceToInt]; omega)), (by first | omega | (simp only [Int32.reduceToInt]; omega))⟩ ⟨(by first | omega | (simp only [Int32.reduceToInt]; omega)), (by first | omega | (simp only [Int32.reduceToInt]; omega))⟩ ⟨(by first | omega | (simp only [Int32.reduceToInt]; omega)), (by first | omega | (simp only [Int32.reduceToInt]; omega))⟩ (fun _ => ⟨by omega, by omega, by omega, fun j h1 h2 => absurd h1 (by have := tn_k (i := ik) rfl (by omega); omega)⟩) (fun h => absurd h (by omega)) (fun _ => ⟨by omega, by omega, by omega, fun j h1 h3 => hbh0 (by omega) j (by have := tn_k (i := ik) rfl (by omega); omega) h3⟩) (fun h => absurd h (by omega)) (by first | omega | (simp only [Int32.reduceToInt]; omega)) (by first | omega | (simp only [Int32.reduceToInt]; omega)) hP hS (lv_sub hl [0, 1, 2, 3, 4, 5, 6] rfl)
  exact key11 61 (-9) (-9) 0  _ _ ls (by decide) (by decide) (by decide) (fun h => absurd h (by decide)) (fun _ j h => absurd h (by simp only [Int32.reduceToInt]; omega)) (fun h => absurd h (by decide)) (fun _ j h => absurd h (by simp only [Int32.reduceToInt]; omega)) (by (try simp only [Int32.reduceToInt]); omega) (by (try simp only [Int32.reduceToInt]); omega) hP hS hl
set_option maxHeartbeats 4000000 in
set_option maxRecDepth 100000 in
/-- reference: distance -/
theorem c_X6_distance (l : Launch) (dC : Nat → ClassId) (dI : Nat → Nat → Nat) (sz : Nat) (m0 : Nat) (mfi : Nat) (mil : Nat) (mic : Nat) (mwi : Nat) (mmo : Nat) (mki : Nat) (mce : Nat) (mgo : Nat) (mwa : Nat) (mha : Nat) (mch : Nat) (mfo : Nat) (mca : Nat) (mor : Nat) (mro : Nat) (mra : Nat) (mpr : Nat) (mho : Nat) (mis : Nat) (mss : Nat) (msc : Nat) (msh : Nat) (vfi : Int32) (vhr : Int32) (vho : Int32) (vga : Int32) (vns : Int32) (vsg : Int32) (vpr : Int32) (vfa : Int32) (vak : Int64) (Kss : Nat → Int32) (Ksc : Nat → Int32) (Ksh : Nat → Int32) (cI : ClassId) (a0 : Int32) (a1 : Int32) (a2 : Int32) (i_a2 : 0 ≤ a2.toInt ∧ a2.toInt ≤ 1) (i_vsg : 0 ≤ vsg.toInt ∧ vsg.toInt ≤ 60) (i_vho : 0 ≤ vho.toInt ∧ vho.toInt ≤ 159) (i_vns : 0 ≤ vns.toInt ∧ vns.toInt ≤ 8) (R_Kss : Rg 60 0 7 Kss) (R_Ksc : Rg 60 0 159 Ksc) (R_Ksh : Rg 60 0 100000 Ksh) : Met l yX6_distance wsX6_distance ({ frames := 3, cells := 0, slots := 0, locals := 74 }) (va_Pc [.ref m0, .int a0, .int a1, .int a2] (fun U => U.heap.size = sz ∧ va_P (dC, dI) vwCl [(m0, .inr (7, [.int vfi, .ref mfi, .long vak, .int vhr, .ref mil, .ref mic, .ref mwi, .int vho, .int vga, .ref mmo, .int vns, .ref mki, .ref mce, .ref mgo, .ref mwa, .ref mha, .ref mch, .ref mfo, .ref mca, .ref mor, .ref mro, .ref mra, .ref mpr, .ref mho, .ref mis, .int vsg, .ref mss, .ref msc, .ref msh, .int vpr, .int vfa])), (mss, .inl (cI, 60, .inl Kss)), (msc, .inl (cI, 60, .inl Ksc)), (msh, .inl (cI, 60, .inl Ksh))] U.heap ∧ va_K (dC, dI) vwCl [(cI, .int)] U ∧ NW U)) (va_Qi (fun (r : Int32) (_ : Unit) => (¬ ((0 ≤ a0.toInt ∧ a0.toInt < vns.toInt) ∧ (0 ≤ a1.toInt ∧ a1.toInt ≤ 100000)) → r = (-1)) ∧ (((0 ≤ a0.toInt ∧ a0.toInt < vns.toInt) ∧ (0 ≤ a1.toInt ∧ a1.toInt ≤ 100000)) → NoBefM Kss Ksh vsg a0.toInt a1.toInt ∨ NoBehM Kss Ksh vsg a0.toInt a1.toInt → r = (-9)) ∧ (((0 ≤ a0.toInt ∧ a0.toInt < vns.toInt) ∧ (0 ≤ a1.toInt ∧ a1.toInt ≤ 100000)) → ∀ b b' : Nat, BefM Kss Ksh vsg a0.toInt a1.toInt b → BehM Kss Ksh vsg a0.toInt a1.toInt b' → r.toInt = if a2.toInt = 0 then leastV (farI (Ksc b).toInt vho.toInt) (farI (Ksc b').toInt vho.toInt) (Ksh b).toInt (Ksh b').toInt a1.toInt else mostV (farI (Ksc b).toInt vho.toInt) (farI (Ksc b').toInt vho.toInt) (Ksh b).toInt (Ksh b').toInt a1.toInt)) (fun _ _ => True) (va_A [] sz)) 0 0 (va_A [] sz) := by
  refine Met.ofW (cc := cX6_distance) (maxL := 4) (ret := (some .int)) (by decide) rfl ?_
  intro p e s m args below meth c s₁ B hml hv
  obtain ⟨rfl, hsz, hP, hK, hN⟩ := hv
  have hx := B.exec
  have hb := B.bytes
  have hr := B.returns
  have hts := atoms_spec (ws := wsX6_distance) B.pre
  have hown : s.vm.findClass RX6 = some m.cls := findClass_of_methodNamed B.named
  have hlocks := B.notSynchronized
  subst hsz
  generalize hAe : va_A [] s.heap.size = A at ⊢
  have hA : ∀ q : Nat, s.heap.size ≤ q → A q := fun q h => by rw [← hAe]; exact Or.inr h
  have hS : va_S A s.heap s.heap [] := va_S.rf
  have hP : va_P (dC, dI) vwCl [(m0, .inr (7, [.int vfi, .ref mfi, .long vak, .int vhr, .ref mil, .ref mic, .ref mwi, .int vho, .int vga, .ref mmo, .int vns, .ref mki, .ref mce, .ref mgo, .ref mwa, .ref mha, .ref mch, .ref mfo, .ref mca, .ref mor, .ref mro, .ref mra, .ref mpr, .ref mho, .ref mis, .int vsg, .ref mss, .ref msc, .ref msh, .int vpr, .int vfa])), (mss, .inl (cI, 60, .inl Kss)), (msc, .inl (cI, 60, .inl Ksc)), (msh, .inl (cI, 60, .inl Ksh))] s.heap := hP
  have hl := lv_entry ([.ref m0, .int a0, .int a1, .int a2]) (n := 4) (Nat.le_of_ble_eq_true rfl)
  rw [lg_entry_eq]
  generalize (lg_sl ([.ref m0, .int a0, .int a1, .int a2]) ++ List.replicate (4 - (lg_sl ([.ref m0, .int a0, .int a1, .int a2])).length) Slot.unset).toArray = ls at hl ⊢
  have hl : lv_has ls 4 [(0, .ref m0), (1, .int a0), (2, .int a1), (3, .int a2)] := hl
  refine lv_aload_n hx hb dX6_distance_0 rfl (lv_at hl 0 rfl) ?_
  refine lv_iload_n hx hb dX6_distance_1 rfl (lv_at hl 1 rfl) ?_
  have hPc := hP.sub (ws' := [(m0, .inr (7, [.int vfi, .ref mfi, .long vak, .int vhr, .ref mil, .ref mic, .ref mwi, .int vho, .int vga, .ref mmo, .int vns, .ref mki, .ref mce, .ref mgo, .ref mwa, .ref mha, .ref mch, .ref mfo, .ref mca, .ref mor, .ref mro, .ref mra, .ref mpr, .ref mho, .ref mis, .int vsg, .ref mss, .ref msc, .ref msh, .int vpr, .int vfa]))]) [0] rfl
  have hKc := hK.sub (tys' := []) [] rfl
  refine va_calli (va_runV (As := [.int a0]) (rest := []) ⟨hx, hb, hml, hown, hts⟩ (c_X6_isShip l dC dI s.heap.size m0 mfi mil mic mwi mmo mki mce mgo mwa mha mch mfo mca mor mro mra mpr mho mis mss msc msh vfi vhr vho vga vns vsg vpr vfa vak a0 ⟨(by omega), (by omega)⟩) (cwV 1 hts gX6_distance_X6_isShip rfl rfl rfl (by decide +kernel) ⟨Nat.le_of_ble_eq_true rfl, Nat.le_of_ble_eq_true rfl⟩) ⟨fun a U g mk q => by obtain ⟨q0, q1, qP, qK, qN⟩ := q; exact ⟨q0, q1, qP, va_K.moved (u := U) (U := U.calling g mk a) (Vm.Alike.refl U.vm) qK, NW.same (u := U) (U := U.calling g mk a) rfl qN⟩, va_recv hKc hPc (ci := 7) (q0 := 0) rfl rfl, fun U hU hW => ⟨rfl, by rw [hU], by rw [hU]; exact hPc, va_K.moved hW.alike hKc, NW.warm hW hN⟩⟩ rfl rfl hl.1 rfl (lv_room (Nat.le_of_ble_eq_true rfl)) dX6_distance_2 ⟨(Nat.zero_le _), (Nat.zero_le _)⟩) hS (fun q _ h => ro_A hS hA q h) (ro_A hS hA) (fun r_1 u t H1 locs ht hvm k_2 hB hz1 hk1 hS => ?_)
  have hP := ro_P hk1 hP
  generalize H1 = H at hP hS ⊢
  try dsimp only at k_2
  obtain ⟨k_2, k_3⟩ := k_2
  refine lv_if_eq (tgt := 28) hx hb dX6_distance_5 (by decide) (fun c_4 => ?_) (fun c_4 => ?_)
  · skip
    have b_5 := b01z k_2 c_4
    (try simp only [Int32.lt_iff_toInt_lt, Int32.le_iff_toInt_le, ← Int32.toInt_inj, Int32.reduceToInt, zl1, zl2, zl3, zl4, zl9] at b_5)
    (try simp only [Int32.reduceToInt] at b_5)
    refine lv_iconst (v := (-1)) hx hb dX6_distance_28 (by decide) ?_
    have hv9 : (-1 : Int32).toInt = (-1) := by decide
    exact W.iret (v := (-1)) hx hb hr (fun t ht hW => ⟨⟨(-1), (), rfl, ⟨(fun _ => rfl), (fun h => absurd h (by omega)), (fun h => absurd h (by omega))⟩, trivial⟩, hS.F ht⟩) hS.2.2 dX6_distance_29
  · skip
    have b_6 := b01n k_2 c_4
    (try simp only [Int32.lt_iff_toInt_lt, Int32.le_iff_toInt_le, ← Int32.toInt_inj, Int32.reduceToInt, zl1, zl2, zl3, zl4, zl9] at b_6)
    (try simp only [Int32.reduceToInt] at b_6)
    refine lv_iload_n hx hb dX6_distance_8 rfl (lv_at hl 2 rfl) ?_
    refine lv_iconst (v := 0) hx hb dX6_distance_9 (by decide) ?_
    refine lv_ldc (v := (100000)) hx hb hown (hts (.constant RX6 152 (100000)) (by decide +kernel)) dX6_distance_10 ?_
    refine va_calli (va_runS (As := [.int a1, .int 0, .int (100000)]) (rest := []) ⟨hx, hb, hml, hown, hts⟩ (c_X6_in l H.size a1 0 (100000) ) (va_cwS 3 hts gX6_distance_X6_in rfl rfl rfl (by decide +kernel) ⟨Nat.le_of_ble_eq_true rfl, Nat.le_of_ble_eq_true rfl⟩) ⟨fun a U g mk q => by obtain ⟨q0, q1⟩ := q; exact ⟨q0, q1⟩, fun U hU hW => ⟨rfl, congrArg Array.size hU⟩⟩ rfl rfl hl.1 rfl (lv_room (Nat.le_of_ble_eq_true rfl)) dX6_distance_12 ⟨(Nat.zero_le _), (Nat.zero_le _)⟩) hS (fun q _ h => ro_A hS hA q h) (ro_A hS hA) (fun r_7 u t H1 locs ht hvm k_8 hB hz1 hk1 hS => ?_)
    have hP := ro_P hk1 hP
    generalize H1 = H at hP hS ⊢
    try dsimp only at k_8
    obtain ⟨k_8, k_9⟩ := k_8
    refine lv_if_eq (tgt := 28) hx hb dX6_distance_15 (by decide) (fun c_10 => ?_) (fun c_10 => ?_)
    · skip
      have b_11 := b01z k_8 c_10
      (try simp only [Int32.lt_iff_toInt_lt, Int32.le_iff_toInt_le, ← Int32.toInt_inj, Int32.reduceToInt, zl1, zl2, zl3, zl4, zl9] at b_11)
      (try simp only [Int32.reduceToInt] at b_11)
      refine lv_iconst (v := (-1)) hx hb dX6_distance_28 (by decide) ?_
      have hv9 : (-1 : Int32).toInt = (-1) := by decide
      exact W.iret (v := (-1)) hx hb hr (fun t ht hW => ⟨⟨(-1), (), rfl, ⟨(fun _ => rfl), (fun h => absurd h (by omega)), (fun h => absurd h (by omega))⟩, trivial⟩, hS.F ht⟩) hS.2.2 dX6_distance_29
    · skip
      have b_12 := b01n k_8 c_10
      (try simp only [Int32.lt_iff_toInt_lt, Int32.le_iff_toInt_le, ← Int32.toInt_inj, Int32.reduceToInt, zl1, zl2, zl3, zl4, zl9] at b_12)
      (try simp only [Int32.reduceToInt] at b_12)
      refine lv_aload_n hx hb dX6_distance_18 rfl (lv_at hl 0 rfl) ?_
      refine lv_iload_n hx hb dX6_distance_19 rfl (lv_at hl 1 rfl) ?_
      refine lv_iload_n hx hb dX6_distance_20 rfl (lv_at hl 2 rfl) ?_
      refine lv_iload_n hx hb dX6_distance_21 rfl (lv_at hl 3 rfl) ?_
      have hPc := hP.sub (ws' := [(m0, .inr (7, [.int vfi, .ref mfi, .long vak, .int vhr, .ref mil, .ref mic, .ref mwi, .int vho, .int vga, .ref mmo, .int vns, .ref mki, .ref mce, .ref mgo, .ref mwa, .ref mha, .ref mch, .ref mfo, .ref mca, .ref mor, .ref mro, .ref mra, .ref mpr, .ref mho, .ref mis, .int vsg, .ref mss, .ref msc, .ref msh, .int vpr, .int vfa])), (mss, .inl (cI, 60, .inl Kss)), (msc, .inl (cI, 60, .inl Ksc)), (msh, .inl (cI, 60, .inl Ksh))]) [0, 1, 2, 3] rfl
      have hKc := hK.sub (tys' := [(cI, .int)]) [0] rfl
      refine va_calli (va_runV (As := [.int a0, .int a1, .int a2]) (rest := []) ⟨hx, hb, hml, hown, hts⟩ (c_X6_distanceOf l dC dI H.size m0 mfi mil mic mwi mmo mki mce mgo mwa mha mch mfo mca mor mro mra mpr mho mis mss msc msh vfi vhr vho vga vns vsg vpr vfa vak Kss Ksc Ksh cI a0 a1 a2 ⟨(by omega), (by omega)⟩ ⟨(by omega), (by omega)⟩ ⟨(by omega), (by omega)⟩ ⟨(by omega), (by omega)⟩ ⟨(by omega), (by omega)⟩ R_Kss R_Ksc R_Ksh) (cwV 3 hts gX6_distance_X6_distanceOf rfl rfl rfl (by decide +kernel) ⟨Nat.le_of_ble_eq_true rfl, Nat.le_of_ble_eq_true rfl⟩) ⟨fun a U g mk q => by obtain ⟨q0, q1, qP, qK, qN⟩ := q; exact ⟨q0, q1, qP, va_K.moved (u := U) (U := U.calling g mk a) (Vm.Alike.refl U.vm) qK, NW.same (u := U) (U := U.calling g mk a) rfl qN⟩, va_recv hKc hPc (ci := 7) (q0 := 0) rfl rfl, fun U hU hW => ⟨rfl, by rw [hU], by rw [hU]; exact hPc, va_K.moved hW.alike hKc, NW.warm hW hN⟩⟩ rfl rfl hl.1 rfl (lv_room (Nat.le_of_ble_eq_true rfl)) dX6_distance_22 ⟨(Nat.zero_le _), (Nat.zero_le _)⟩) hS (fun q _ h => ro_A hS hA q h) (ro_A hS hA) (fun r_13 u t H1 locs ht hvm k_14 hB hz1 hk1 hS => ?_)
      have hP := ro_P hk1 hP
      generalize H1 = H at hP hS ⊢
      try dsimp only at k_14
      obtain ⟨k_14, k_15⟩ := k_14
      refine lv_goto (tgt := 29) hx hb dX6_distance_25 (by decide) ?_
      exact W.iret (v := r_13) hx hb hr (fun t ht hW => ⟨⟨r_13, (), rfl, ⟨(fun h => absurd ⟨⟨by omega, by omega⟩, by omega, by omega⟩ h), (fun _ h => k_14 h), (fun _ b b' h1 h2 => k_15 b b' h1 h2)⟩, trivial⟩, hS.F ht⟩) hS.2.2 dX6_distance_29
set_option maxHeartbeats 4000000 in
set_option maxRecDepth 100000 in
/-- reference: ahead -/
theorem c_X6_ahead (l : Launch) (dC : Nat → ClassId) (dI : Nat → Nat → Nat) (sz : Nat) (m0 : Nat) (mfi : Nat) (mil : Nat) (mic : Nat) (mwi : Nat) (mmo : Nat) (mki : Nat) (mce : Nat) (mgo : Nat) (mwa : Nat) (mha : Nat) (mch : Nat) (mfo : Nat) (mca : Nat) (mor : Nat) (mro : Nat) (mra : Nat) (mpr : Nat) (mho : Nat) (mis : Nat) (mss : Nat) (msc : Nat) (msh : Nat) (vfi : Int32) (vhr : Int32) (vho : Int32) (vga : Int32) (vns : Int32) (vsg : Int32) (vpr : Int32) (vfa : Int32) (vak : Int64) (Kss : Nat → Int32) (Ksc : Nat → Int32) (Ksh : Nat → Int32) (cI : ClassId) (a0 : Int32) (a1 : Int32) (a2 : Int32) (i_vsg : 0 ≤ vsg.toInt ∧ vsg.toInt ≤ 60) (i_vho : 0 ≤ vho.toInt ∧ vho.toInt ≤ 159) (i_vns : 0 ≤ vns.toInt ∧ vns.toInt ≤ 8) (R_Kss : Rg 60 0 7 Kss) (R_Ksc : Rg 60 0 159 Ksc) (R_Ksh : Rg 60 0 100000 Ksh) : Met l yX6_ahead wsX6_ahead ({ frames := 3, cells := 0, slots := 0, locals := 74 }) (va_Pc [.ref m0, .int a0, .int a1, .int a2] (fun U => U.heap.size = sz ∧ va_P (dC, dI) vwCl [(m0, .inr (7, [.int vfi, .ref mfi, .long vak, .int vhr, .ref mil, .ref mic, .ref mwi, .int vho, .int vga, .ref mmo, .int vns, .ref mki, .ref mce, .ref mgo, .ref mwa, .ref mha, .ref mch, .ref mfo, .ref mca, .ref mor, .ref mro, .ref mra, .ref mpr, .ref mho, .ref mis, .int vsg, .ref mss, .ref msc, .ref msh, .int vpr, .int vfa])), (mss, .inl (cI, 60, .inl Kss)), (msc, .inl (cI, 60, .inl Ksc)), (msh, .inl (cI, 60, .inl Ksh))] U.heap ∧ va_K (dC, dI) vwCl [(cI, .int)] U ∧ NW U)) (va_Qi (fun (r : Int32) (_ : Unit) => (¬ ((0 ≤ a0.toInt ∧ a0.toInt < vns.toInt) ∧ (0 ≤ a1.toInt ∧ a1.toInt < vns.toInt) ∧ a0.toInt ≠ a1.toInt ∧ (0 ≤ a2.toInt ∧ a2.toInt ≤ 100000)) → r = (-1)) ∧ (((0 ≤ a0.toInt ∧ a0.toInt < vns.toInt) ∧ (0 ≤ a1.toInt ∧ a1.toInt < vns.toInt) ∧ a0.toInt ≠ a1.toInt ∧ (0 ≤ a2.toInt ∧ a2.toInt ≤ 100000)) → (NoBefM Kss Ksh vsg a0.toInt a2.toInt ∨ NoBehM Kss Ksh vsg a0.toInt a2.toInt) ∨ (NoBefM Kss Ksh vsg a1.toInt a2.toInt ∨ NoBehM Kss Ksh vsg a1.toInt a2.toInt) → r = (-9)) ∧ (((0 ≤ a0.toInt ∧ a0.toInt < vns.toInt) ∧ (0 ≤ a1.toInt ∧ a1.toInt < vns.toInt) ∧ a0.toInt ≠ a1.toInt ∧ (0 ≤ a2.toInt ∧ a2.toInt ≤ 100000)) → ∀ b b' c c' : Nat, BefM Kss Ksh vsg a0.toInt a2.toInt b → BehM Kss Ksh vsg a0.toInt a2.toInt b' → BefM Kss Ksh vsg a1.toInt a2.toInt c → BehM Kss Ksh vsg a1.toInt a2.toInt c' → r.toInt = aheadV (mostV (farI (Ksc b).toInt vho.toInt) (farI (Ksc b').toInt vho.toInt) (Ksh b).toInt (Ksh b').toInt a2.toInt) (leastV (farI (Ksc c).toInt vho.toInt) (farI (Ksc c').toInt vho.toInt) (Ksh c).toInt (Ksh c').toInt a2.toInt) (mostV (farI (Ksc c).toInt vho.toInt) (farI (Ksc c').toInt vho.toInt) (Ksh c).toInt (Ksh c').toInt a2.toInt) (leastV (farI (Ksc b).toInt vho.toInt) (farI (Ksc b').toInt vho.toInt) (Ksh b).toInt (Ksh b').toInt a2.toInt))) (fun _ _ => True) (va_A [] sz)) 0 0 (va_A [] sz) := by
  refine Met.ofW (cc := cX6_ahead) (maxL := 6) (ret := (some .int)) (by decide) rfl ?_
  intro p e s m args below meth c s₁ B hml hv
  obtain ⟨rfl, hsz, hP, hK, hN⟩ := hv
  have hx := B.exec
  have hb := B.bytes
  have hr := B.returns
  have hts := atoms_spec (ws := wsX6_ahead) B.pre
  have hown : s.vm.findClass RX6 = some m.cls := findClass_of_methodNamed B.named
  have hlocks := B.notSynchronized
  subst hsz
  generalize hAe : va_A [] s.heap.size = A at ⊢
  have hA : ∀ q : Nat, s.heap.size ≤ q → A q := fun q h => by rw [← hAe]; exact Or.inr h
  have hS : va_S A s.heap s.heap [] := va_S.rf
  have hP : va_P (dC, dI) vwCl [(m0, .inr (7, [.int vfi, .ref mfi, .long vak, .int vhr, .ref mil, .ref mic, .ref mwi, .int vho, .int vga, .ref mmo, .int vns, .ref mki, .ref mce, .ref mgo, .ref mwa, .ref mha, .ref mch, .ref mfo, .ref mca, .ref mor, .ref mro, .ref mra, .ref mpr, .ref mho, .ref mis, .int vsg, .ref mss, .ref msc, .ref msh, .int vpr, .int vfa])), (mss, .inl (cI, 60, .inl Kss)), (msc, .inl (cI, 60, .inl Ksc)), (msh, .inl (cI, 60, .inl Ksh))] s.heap := hP
  have hl := lv_entry ([.ref m0, .int a0, .int a1, .int a2]) (n := 6) (Nat.le_of_ble_eq_true rfl)
  rw [lg_entry_eq]
  generalize (lg_sl ([.ref m0, .int a0, .int a1, .int a2]) ++ List.replicate (6 - (lg_sl ([.ref m0, .int a0, .int a1, .int a2])).length) Slot.unset).toArray = ls at hl ⊢
  have hl : lv_has ls 6 [(0, .ref m0), (1, .int a0), (2, .int a1), (3, .int a2)] := hl
  refine lv_aload_n hx hb dX6_ahead_0 rfl (lv_at hl 0 rfl) ?_
  refine lv_iload_n hx hb dX6_ahead_1 rfl (lv_at hl 1 rfl) ?_
  have hPc := hP.sub (ws' := [(m0, .inr (7, [.int vfi, .ref mfi, .long vak, .int vhr, .ref mil, .ref mic, .ref mwi, .int vho, .int vga, .ref mmo, .int vns, .ref mki, .ref mce, .ref mgo, .ref mwa, .ref mha, .ref mch, .ref mfo, .ref mca, .ref mor, .ref mro, .ref mra, .ref mpr, .ref mho, .ref mis, .int vsg, .ref mss, .ref msc, .ref msh, .int vpr, .int vfa]))]) [0] rfl
  have hKc := hK.sub (tys' := []) [] rfl
  refine va_calli (va_runV (As := [.int a0]) (rest := []) ⟨hx, hb, hml, hown, hts⟩ (c_X6_isShip l dC dI s.heap.size m0 mfi mil mic mwi mmo mki mce mgo mwa mha mch mfo mca mor mro mra mpr mho mis mss msc msh vfi vhr vho vga vns vsg vpr vfa vak a0 ⟨(by omega), (by omega)⟩) (cwV 1 hts gX6_ahead_X6_isShip rfl rfl rfl (by decide +kernel) ⟨Nat.le_of_ble_eq_true rfl, Nat.le_of_ble_eq_true rfl⟩) ⟨fun a U g mk q => by obtain ⟨q0, q1, qP, qK, qN⟩ := q; exact ⟨q0, q1, qP, va_K.moved (u := U) (U := U.calling g mk a) (Vm.Alike.refl U.vm) qK, NW.same (u := U) (U := U.calling g mk a) rfl qN⟩, va_recv hKc hPc (ci := 7) (q0 := 0) rfl rfl, fun U hU hW => ⟨rfl, by rw [hU], by rw [hU]; exact hPc, va_K.moved hW.alike hKc, NW.warm hW hN⟩⟩ rfl rfl hl.1 rfl (lv_room (Nat.le_of_ble_eq_true rfl)) dX6_ahead_2 ⟨(Nat.zero_le _), (Nat.zero_le _)⟩) hS (fun q _ h => ro_A hS hA q h) (ro_A hS hA) (fun r_1 u t H1 locs ht hvm k_2 hB hz1 hk1 hS => ?_)
  have hP := ro_P hk1 hP
  generalize H1 = H at hP hS ⊢
  try dsimp only at k_2
  obtain ⟨k_2, k_3⟩ := k_2
  refine lv_if_eq (tgt := 31) hx hb dX6_ahead_5 (by decide) (fun c_4 => ?_) (fun c_4 => ?_)
  · skip
    have b_5 := b01z k_2 c_4
    (try simp only [Int32.lt_iff_toInt_lt, Int32.le_iff_toInt_le, ← Int32.toInt_inj, Int32.reduceToInt, zl1, zl2, zl3, zl4, zl9] at b_5)
    (try simp only [Int32.reduceToInt] at b_5)
    refine lv_iconst (v := (-1)) hx hb dX6_ahead_31 (by decide) ?_
    have hv9 : (-1 : Int32).toInt = (-1) := by decide
    exact W.iret (v := (-1)) hx hb hr (fun t ht hW => ⟨⟨(-1), (), rfl, ⟨(fun _ => rfl), (fun h => absurd h (by omega)), (fun h => absurd h (by omega))⟩, trivial⟩, hS.F ht⟩) hS.2.2 dX6_ahead_32
  · skip
    have b_6 := b01n k_2 c_4
    (try simp only [Int32.lt_iff_toInt_lt, Int32.le_iff_toInt_le, ← Int32.toInt_inj, Int32.reduceToInt, zl1, zl2, zl3, zl4, zl9] at b_6)
    (try simp only [Int32.reduceToInt] at b_6)
    refine lv_aload_n hx hb dX6_ahead_8 rfl (lv_at hl 0 rfl) ?_
    refine lv_iload_n hx hb dX6_ahead_9 rfl (lv_at hl 2 rfl) ?_
    have hPc := hP.sub (ws' := [(m0, .inr (7, [.int vfi, .ref mfi, .long vak, .int vhr, .ref mil, .ref mic, .ref mwi, .int vho, .int vga, .ref mmo, .int vns, .ref mki, .ref mce, .ref mgo, .ref mwa, .ref mha, .ref mch, .ref mfo, .ref mca, .ref mor, .ref mro, .ref mra, .ref mpr, .ref mho, .ref mis, .int vsg, .ref mss, .ref msc, .ref msh, .int vpr, .int vfa]))]) [0] rfl
    have hKc := hK.sub (tys' := []) [] rfl
    refine va_calli (va_runV (As := [.int a1]) (rest := []) ⟨hx, hb, hml, hown, hts⟩ (c_X6_isShip l dC dI H.size m0 mfi mil mic mwi mmo mki mce mgo mwa mha mch mfo mca mor mro mra mpr mho mis mss msc msh vfi vhr vho vga vns vsg vpr vfa vak a1 ⟨(by omega), (by omega)⟩) (cwV 1 hts gX6_ahead_X6_isShip rfl rfl rfl (by decide +kernel) ⟨Nat.le_of_ble_eq_true rfl, Nat.le_of_ble_eq_true rfl⟩) ⟨fun a U g mk q => by obtain ⟨q0, q1, qP, qK, qN⟩ := q; exact ⟨q0, q1, qP, va_K.moved (u := U) (U := U.calling g mk a) (Vm.Alike.refl U.vm) qK, NW.same (u := U) (U := U.calling g mk a) rfl qN⟩, va_recv hKc hPc (ci := 7) (q0 := 0) rfl rfl, fun U hU hW => ⟨rfl, by rw [hU], by rw [hU]; exact hPc, va_K.moved hW.alike hKc, NW.warm hW hN⟩⟩ rfl rfl hl.1 rfl (lv_room (Nat.le_of_ble_eq_true rfl)) dX6_ahead_10 ⟨(Nat.zero_le _), (Nat.zero_le _)⟩) hS (fun q _ h => ro_A hS hA q h) (ro_A hS hA) (fun r_7 u t H1 locs ht hvm k_8 hB hz1 hk1 hS => ?_)
    have hP := ro_P hk1 hP
    generalize H1 = H at hP hS ⊢
    try dsimp only at k_8
    obtain ⟨k_8, k_9⟩ := k_8
    refine lv_if_eq (tgt := 31) hx hb dX6_ahead_13 (by decide) (fun c_10 => ?_) (fun c_10 => ?_)
    · skip
      have b_11 := b01z k_8 c_10
      (try simp only [Int32.lt_iff_toInt_lt, Int32.le_iff_toInt_le, ← Int32.toInt_inj, Int32.reduceToInt, zl1, zl2, zl3, zl4, zl9] at b_11)
      (try simp only [Int32.reduceToInt] at b_11)
      refine lv_iconst (v := (-1)) hx hb dX6_ahead_31 (by decide) ?_
      have hv9 : (-1 : Int32).toInt = (-1) := by decide
      exact W.iret (v := (-1)) hx hb hr (fun t ht hW => ⟨⟨(-1), (), rfl, ⟨(fun _ => rfl), (fun h => absurd h (by omega)), (fun h => absurd h (by omega))⟩, trivial⟩, hS.F ht⟩) hS.2.2 dX6_ahead_32
    · skip
      have b_12 := b01n k_8 c_10
      (try simp only [Int32.lt_iff_toInt_lt, Int32.le_iff_toInt_le, ← Int32.toInt_inj, Int32.reduceToInt, zl1, zl2, zl3, zl4, zl9] at b_12)
      (try simp only [Int32.reduceToInt] at b_12)
      refine lv_iload_n hx hb dX6_ahead_16 rfl (lv_at hl 1 rfl) ?_
      refine lv_iload_n hx hb dX6_ahead_17 rfl (lv_at hl 2 rfl) ?_
      refine lv_icmp_eq (tgt := 31) hx hb dX6_ahead_18 (by decide) (fun c_13 => ?_) (fun c_13 => ?_)
      · skip
        have qc_13 : a0.toInt = a1.toInt := eq_k rfl rfl c_13
        refine lv_iconst (v := (-1)) hx hb dX6_ahead_31 (by decide) ?_
        have hv9 : (-1 : Int32).toInt = (-1) := by decide
        exact W.iret (v := (-1)) hx hb hr (fun t ht hW => ⟨⟨(-1), (), rfl, ⟨(fun _ => rfl), (fun h => absurd h (by omega)), (fun h => absurd h (by omega))⟩, trivial⟩, hS.F ht⟩) hS.2.2 dX6_ahead_32
      · skip
        have qc_13 : a0.toInt ≠ a1.toInt := ne_k rfl rfl c_13
        refine lv_iload_n hx hb dX6_ahead_21 rfl (lv_at hl 3 rfl) ?_
        refine lv_iconst (v := 0) hx hb dX6_ahead_22 (by decide) ?_
        refine lv_ldc (v := (100000)) hx hb hown (hts (.constant RX6 152 (100000)) (by decide +kernel)) dX6_ahead_23 ?_
        refine va_calli (va_runS (As := [.int a2, .int 0, .int (100000)]) (rest := []) ⟨hx, hb, hml, hown, hts⟩ (c_X6_in l H.size a2 0 (100000) ) (va_cwS 3 hts gX6_ahead_X6_in rfl rfl rfl (by decide +kernel) ⟨Nat.le_of_ble_eq_true rfl, Nat.le_of_ble_eq_true rfl⟩) ⟨fun a U g mk q => by obtain ⟨q0, q1⟩ := q; exact ⟨q0, q1⟩, fun U hU hW => ⟨rfl, congrArg Array.size hU⟩⟩ rfl rfl hl.1 rfl (lv_room (Nat.le_of_ble_eq_true rfl)) dX6_ahead_25 ⟨(Nat.zero_le _), (Nat.zero_le _)⟩) hS (fun q _ h => ro_A hS hA q h) (ro_A hS hA) (fun r_14 u t H1 locs ht hvm k_15 hB hz1 hk1 hS => ?_)
        have hP := ro_P hk1 hP
        generalize H1 = H at hP hS ⊢
        try dsimp only at k_15
        obtain ⟨k_15, k_16⟩ := k_15
        refine lv_if_ne (tgt := 33) hx hb dX6_ahead_28 (by decide) (fun c_17 => ?_) (fun c_17 => ?_)
        · skip
          have b_18 := b01n k_15 c_17
          (try simp only [Int32.lt_iff_toInt_lt, Int32.le_iff_toInt_le, ← Int32.toInt_inj, Int32.reduceToInt, zl1, zl2, zl3, zl4, zl9] at b_18)
          (try simp only [Int32.reduceToInt] at b_18)
          refine lv_aload_n hx hb dX6_ahead_33 rfl (lv_at hl 0 rfl) ?_
          refine lv_iload_n hx hb dX6_ahead_34 rfl (lv_at hl 1 rfl) ?_
          refine lv_iload_n hx hb dX6_ahead_35 rfl (lv_at hl 3 rfl) ?_
          refine lv_iconst (v := 0) hx hb dX6_ahead_36 (by decide) ?_
          have hPc := hP.sub (ws' := [(m0, .inr (7, [.int vfi, .ref mfi, .long vak, .int vhr, .ref mil, .ref mic, .ref mwi, .int vho, .int vga, .ref mmo, .int vns, .ref mki, .ref mce, .ref mgo, .ref mwa, .ref mha, .ref mch, .ref mfo, .ref mca, .ref mor, .ref mro, .ref mra, .ref mpr, .ref mho, .ref mis, .int vsg, .ref mss, .ref msc, .ref msh, .int vpr, .int vfa])), (mss, .inl (cI, 60, .inl Kss)), (msc, .inl (cI, 60, .inl Ksc)), (msh, .inl (cI, 60, .inl Ksh))]) [0, 1, 2, 3] rfl
          have hKc := hK.sub (tys' := [(cI, .int)]) [0] rfl
          refine va_calli (va_runV (As := [.int a0, .int a2, .int 0]) (rest := []) ⟨hx, hb, hml, hown, hts⟩ (c_X6_distanceOf l dC dI H.size m0 mfi mil mic mwi mmo mki mce mgo mwa mha mch mfo mca mor mro mra mpr mho mis mss msc msh vfi vhr vho vga vns vsg vpr vfa vak Kss Ksc Ksh cI a0 a2 0 ⟨(by omega), (by omega)⟩ ⟨(by omega), (by omega)⟩ (by decide) ⟨(by omega), (by omega)⟩ ⟨(by omega), (by omega)⟩ R_Kss R_Ksc R_Ksh) (cwV 3 hts gX6_ahead_X6_distanceOf rfl rfl rfl (by decide +kernel) ⟨Nat.le_of_ble_eq_true rfl, Nat.le_of_ble_eq_true rfl⟩) ⟨fun a U g mk q => by obtain ⟨q0, q1, qP, qK, qN⟩ := q; exact ⟨q0, q1, qP, va_K.moved (u := U) (U := U.calling g mk a) (Vm.Alike.refl U.vm) qK, NW.same (u := U) (U := U.calling g mk a) rfl qN⟩, va_recv hKc hPc (ci := 7) (q0 := 0) rfl rfl, fun U hU hW => ⟨rfl, by rw [hU], by rw [hU]; exact hPc, va_K.moved hW.alike hKc, NW.warm hW hN⟩⟩ rfl rfl hl.1 rfl (lv_room (Nat.le_of_ble_eq_true rfl)) dX6_ahead_37 ⟨(Nat.zero_le _), (Nat.zero_le _)⟩) hS (fun q _ h => ro_A hS hA q h) (ro_A hS hA) (fun r_19 u t H1 locs ht hvm k_20 hB hz1 hk1 hS => ?_)
          have hP := ro_P hk1 hP
          generalize H1 = H at hP hS ⊢
          try dsimp only at k_20
          obtain ⟨k_20, k_21⟩ := k_20
          refine lv_istore (lv' := [(4, .int r_19), (0, .ref m0), (1, .int a0), (2, .int a1), (3, .int a2)]) hx hb dX6_ahead_40 hl (by decide) rfl (fun ls hl => ?_)
          refine lv_aload_n hx hb dX6_ahead_42 rfl (lv_at hl 1 rfl) ?_
          refine lv_iload_n hx hb dX6_ahead_43 rfl (lv_at hl 3 rfl) ?_
          refine lv_iload_n hx hb dX6_ahead_44 rfl (lv_at hl 4 rfl) ?_
          refine lv_iconst (v := 0) hx hb dX6_ahead_45 (by decide) ?_
          have hPc := hP.sub (ws' := [(m0, .inr (7, [.int vfi, .ref mfi, .long vak, .int vhr, .ref mil, .ref mic, .ref mwi, .int vho, .int vga, .ref mmo, .int vns, .ref mki, .ref mce, .ref mgo, .ref mwa, .ref mha, .ref mch, .ref mfo, .ref mca, .ref mor, .ref mro, .ref mra, .ref mpr, .ref mho, .ref mis, .int vsg, .ref mss, .ref msc, .ref msh, .int vpr, .int vfa])), (mss, .inl (cI, 60, .inl Kss)), (msc, .inl (cI, 60, .inl Ksc)), (msh, .inl (cI, 60, .inl Ksh))]) [0, 1, 2, 3] rfl
          have hKc := hK.sub (tys' := [(cI, .int)]) [0] rfl
          refine va_calli (va_runV (As := [.int a1, .int a2, .int 0]) (rest := []) ⟨hx, hb, hml, hown, hts⟩ (c_X6_distanceOf l dC dI H.size m0 mfi mil mic mwi mmo mki mce mgo mwa mha mch mfo mca mor mro mra mpr mho mis mss msc msh vfi vhr vho vga vns vsg vpr vfa vak Kss Ksc Ksh cI a1 a2 0 ⟨(by omega), (by omega)⟩ ⟨(by omega), (by omega)⟩ (by decide) ⟨(by omega), (by omega)⟩ ⟨(by omega), (by omega)⟩ R_Kss R_Ksc R_Ksh) (cwV 3 hts gX6_ahead_X6_distanceOf rfl rfl rfl (by decide +kernel) ⟨Nat.le_of_ble_eq_true rfl, Nat.le_of_ble_eq_true rfl⟩) ⟨fun a U g mk q => by obtain ⟨q0, q1, qP, qK, qN⟩ := q; exact ⟨q0, q1, qP, va_K.moved (u := U) (U := U.calling g mk a) (Vm.Alike.refl U.vm) qK, NW.same (u := U) (U := U.calling g mk a) rfl qN⟩, va_recv hKc hPc (ci := 7) (q0 := 0) rfl rfl, fun U hU hW => ⟨rfl, by rw [hU], by rw [hU]; exact hPc, va_K.moved hW.alike hKc, NW.warm hW hN⟩⟩ rfl rfl hl.1 rfl (lv_room (Nat.le_of_ble_eq_true rfl)) dX6_ahead_46 ⟨(Nat.zero_le _), (Nat.zero_le _)⟩) hS (fun q _ h => ro_A hS hA q h) (ro_A hS hA) (fun r_22 u t H1 locs ht hvm k_23 hB hz1 hk1 hS => ?_)
          have hP := ro_P hk1 hP
          generalize H1 = H at hP hS ⊢
          try dsimp only at k_23
          obtain ⟨k_23, k_24⟩ := k_23
          refine lv_istore (lv' := [(5, .int r_22), (4, .int r_19), (0, .ref m0), (1, .int a0), (2, .int a1), (3, .int a2)]) hx hb dX6_ahead_49 hl (by decide) rfl (fun ls hl => ?_)
          refine lv_iload hx hb dX6_ahead_51 (lv_at hl 1 rfl) ?_
          refine lv_bipush (v := (-9)) hx hb dX6_ahead_53 (by decide) ?_
          refine lv_icmp_eq (tgt := 65) hx hb dX6_ahead_55 (by decide) (fun c_25 => ?_) (fun c_25 => ?_)
          · skip
            have qc_25 : r_19.toInt = (-9) := eq_k rfl (by decide) c_25
            refine lv_bipush (v := (-9)) hx hb dX6_ahead_65 (by decide) ?_
            have hv9 : (-9 : Int32).toInt = (-9) := by decide
            exact W.iret (v := (-9)) hx hb hr (fun t ht hW => ⟨⟨(-9), (), rfl, ⟨(fun h => absurd ⟨⟨by omega, by omega⟩, ⟨by omega, by omega⟩, by omega, by omega, by omega⟩ h), (fun _ _ => rfl), (fun _ b b' c c' h1 h2 h3 h4 => by have d0 := k_21 b b' h1 h2; rewrite [if_pos (by decide)] at d0; have d1 := k_24 c c' h3 h4; rewrite [if_pos (by decide)] at d1; have p1 : 0 ≤ leastV (farI (Ksc b).toInt vho.toInt) (farI (Ksc b').toInt vho.toInt) (Ksh b).toInt (Ksh b').toInt a2.toInt := Int.le_max_left _ _; have p2 : 0 ≤ leastV (farI (Ksc c).toInt vho.toInt) (farI (Ksc c').toInt vho.toInt) (Ksh c).toInt (Ksh c').toInt a2.toInt := Int.le_max_left _ _; exfalso; omega)⟩, trivial⟩, hS.F ht⟩) hS.2.2 dX6_ahead_67
          · skip
            have qc_25 : r_19.toInt ≠ (-9) := ne_k rfl (by decide) c_25
            refine lv_iload hx hb dX6_ahead_58 (lv_at hl 0 rfl) ?_
            refine lv_bipush (v := (-9)) hx hb dX6_ahead_60 (by decide) ?_
            refine lv_icmp_ne (tgt := 68) hx hb dX6_ahead_62 (by decide) (fun c_26 => ?_) (fun c_26 => ?_)
            · skip
              have qc_26 : r_22.toInt ≠ (-9) := ne_k rfl (by decide) c_26
              refine lv_aload_n hx hb dX6_ahead_68 rfl (lv_at hl 2 rfl) ?_
              refine lv_iload_n hx hb dX6_ahead_69 rfl (lv_at hl 3 rfl) ?_
              refine lv_iload_n hx hb dX6_ahead_70 rfl (lv_at hl 5 rfl) ?_
              refine lv_iconst (v := 1) hx hb dX6_ahead_71 (by decide) ?_
              have hPc := hP.sub (ws' := [(m0, .inr (7, [.int vfi, .ref mfi, .long vak, .int vhr, .ref mil, .ref mic, .ref mwi, .int vho, .int vga, .ref mmo, .int vns, .ref mki, .ref mce, .ref mgo, .ref mwa, .ref mha, .ref mch, .ref mfo, .ref mca, .ref mor, .ref mro, .ref mra, .ref mpr, .ref mho, .ref mis, .int vsg, .ref mss, .ref msc, .ref msh, .int vpr, .int vfa])), (mss, .inl (cI, 60, .inl Kss)), (msc, .inl (cI, 60, .inl Ksc)), (msh, .inl (cI, 60, .inl Ksh))]) [0, 1, 2, 3] rfl
              have hKc := hK.sub (tys' := [(cI, .int)]) [0] rfl
              refine va_calli (va_runV (As := [.int a0, .int a2, .int 1]) (rest := []) ⟨hx, hb, hml, hown, hts⟩ (c_X6_distanceOf l dC dI H.size m0 mfi mil mic mwi mmo mki mce mgo mwa mha mch mfo mca mor mro mra mpr mho mis mss msc msh vfi vhr vho vga vns vsg vpr vfa vak Kss Ksc Ksh cI a0 a2 1 ⟨(by omega), (by omega)⟩ ⟨(by omega), (by omega)⟩ (by decide) ⟨(by omega), (by omega)⟩ ⟨(by omega), (by omega)⟩ R_Kss R_Ksc R_Ksh) (cwV 3 hts gX6_ahead_X6_distanceOf rfl rfl rfl (by decide +kernel) ⟨Nat.le_of_ble_eq_true rfl, Nat.le_of_ble_eq_true rfl⟩) ⟨fun a U g mk q => by obtain ⟨q0, q1, qP, qK, qN⟩ := q; exact ⟨q0, q1, qP, va_K.moved (u := U) (U := U.calling g mk a) (Vm.Alike.refl U.vm) qK, NW.same (u := U) (U := U.calling g mk a) rfl qN⟩, va_recv hKc hPc (ci := 7) (q0 := 0) rfl rfl, fun U hU hW => ⟨rfl, by rw [hU], by rw [hU]; exact hPc, va_K.moved hW.alike hKc, NW.warm hW hN⟩⟩ rfl rfl hl.1 rfl (lv_room (Nat.le_of_ble_eq_true rfl)) dX6_ahead_72 ⟨(Nat.zero_le _), (Nat.zero_le _)⟩) hS (fun q _ h => ro_A hS hA q h) (ro_A hS hA) (fun r_27 u t H1 locs ht hvm k_28 hB hz1 hk1 hS => ?_)
              have hP := ro_P hk1 hP
              generalize H1 = H at hP hS ⊢
              try dsimp only at k_28
              obtain ⟨k_28, k_29⟩ := k_28
              refine lv_iload hx hb dX6_ahead_75 (lv_at hl 0 rfl) ?_
              refine lv_icmp_ge (tgt := 84) hx hb dX6_ahead_77 (by decide) (fun c_30 => ?_) (fun c_30 => ?_)
              · skip
                have qc_30 : r_22.toInt ≤ r_27.toInt := le_k rfl rfl c_30
                refine lv_aload_n hx hb dX6_ahead_84 rfl (lv_at hl 2 rfl) ?_
                refine lv_iload_n hx hb dX6_ahead_85 rfl (lv_at hl 4 rfl) ?_
                refine lv_iload_n hx hb dX6_ahead_86 rfl (lv_at hl 5 rfl) ?_
                refine lv_iconst (v := 1) hx hb dX6_ahead_87 (by decide) ?_
                have hPc := hP.sub (ws' := [(m0, .inr (7, [.int vfi, .ref mfi, .long vak, .int vhr, .ref mil, .ref mic, .ref mwi, .int vho, .int vga, .ref mmo, .int vns, .ref mki, .ref mce, .ref mgo, .ref mwa, .ref mha, .ref mch, .ref mfo, .ref mca, .ref mor, .ref mro, .ref mra, .ref mpr, .ref mho, .ref mis, .int vsg, .ref mss, .ref msc, .ref msh, .int vpr, .int vfa])), (mss, .inl (cI, 60, .inl Kss)), (msc, .inl (cI, 60, .inl Ksc)), (msh, .inl (cI, 60, .inl Ksh))]) [0, 1, 2, 3] rfl
                have hKc := hK.sub (tys' := [(cI, .int)]) [0] rfl
                refine va_calli (va_runV (As := [.int a1, .int a2, .int 1]) (rest := []) ⟨hx, hb, hml, hown, hts⟩ (c_X6_distanceOf l dC dI H.size m0 mfi mil mic mwi mmo mki mce mgo mwa mha mch mfo mca mor mro mra mpr mho mis mss msc msh vfi vhr vho vga vns vsg vpr vfa vak Kss Ksc Ksh cI a1 a2 1 ⟨(by omega), (by omega)⟩ ⟨(by omega), (by omega)⟩ (by decide) ⟨(by omega), (by omega)⟩ ⟨(by omega), (by omega)⟩ R_Kss R_Ksc R_Ksh) (cwV 3 hts gX6_ahead_X6_distanceOf rfl rfl rfl (by decide +kernel) ⟨Nat.le_of_ble_eq_true rfl, Nat.le_of_ble_eq_true rfl⟩) ⟨fun a U g mk q => by obtain ⟨q0, q1, qP, qK, qN⟩ := q; exact ⟨q0, q1, qP, va_K.moved (u := U) (U := U.calling g mk a) (Vm.Alike.refl U.vm) qK, NW.same (u := U) (U := U.calling g mk a) rfl qN⟩, va_recv hKc hPc (ci := 7) (q0 := 0) rfl rfl, fun U hU hW => ⟨rfl, by rw [hU], by rw [hU]; exact hPc, va_K.moved hW.alike hKc, NW.warm hW hN⟩⟩ rfl rfl hl.1 rfl (lv_room (Nat.le_of_ble_eq_true rfl)) dX6_ahead_88 ⟨(Nat.zero_le _), (Nat.zero_le _)⟩) hS (fun q _ h => ro_A hS hA q h) (ro_A hS hA) (fun r_31 u t H1 locs ht hvm k_32 hB hz1 hk1 hS => ?_)
                have hP := ro_P hk1 hP
                generalize H1 = H at hP hS ⊢
                try dsimp only at k_32
                obtain ⟨k_32, k_33⟩ := k_32
                refine lv_iload hx hb dX6_ahead_91 (lv_at hl 1 rfl) ?_
                refine lv_icmp_ge (tgt := 100) hx hb dX6_ahead_93 (by decide) (fun c_34 => ?_) (fun c_34 => ?_)
                · skip
                  have qc_34 : r_19.toInt ≤ r_31.toInt := le_k rfl rfl c_34
                  refine lv_iconst (v := 2) hx hb dX6_ahead_100 (by decide) ?_
                  have hv9 : (2 : Int32).toInt = 2 := by decide
                  exact W.iret (v := 2) hx hb hr (fun t ht hW => ⟨⟨2, (), rfl, ⟨(fun h => absurd ⟨⟨by omega, by omega⟩, ⟨by omega, by omega⟩, by omega, by omega, by omega⟩ h), (fun _ h => absurd trivial (fun _ => by rcases h with h | h; (have h9 := congrArg Int32.toInt (k_20 h); (try simp only [Int32.reduceToInt] at h9); omega); (have h9 := congrArg Int32.toInt (k_23 h); (try simp only [Int32.reduceToInt] at h9); omega))), (fun _ b b' c c' h1 h2 h3 h4 => by have d0 := k_21 b b' h1 h2; rewrite [if_pos (by decide)] at d0; have d1 := k_24 c c' h3 h4; rewrite [if_pos (by decide)] at d1; have d2 := k_29 b b' h1 h2; rewrite [if_neg (by decide)] at d2; have d3 := k_33 c c' h3 h4; rewrite [if_neg (by decide)] at d3; unfold aheadV; rw [if_neg (by rw [← d2, ← d1]; omega), if_neg (by rw [← d3, ← d0]; omega)]; rfl)⟩, trivial⟩, hS.F ht⟩) hS.2.2 dX6_ahead_101
                · skip
                  have qc_34 : r_31.toInt < r_19.toInt := nle_k rfl rfl c_34
                  refine lv_iconst (v := 1) hx hb dX6_ahead_96 (by decide) ?_
                  refine lv_goto (tgt := 101) hx hb dX6_ahead_97 (by decide) ?_
                  have hv9 : (1 : Int32).toInt = 1 := by decide
                  exact W.iret (v := 1) hx hb hr (fun t ht hW => ⟨⟨1, (), rfl, ⟨(fun h => absurd ⟨⟨by omega, by omega⟩, ⟨by omega, by omega⟩, by omega, by omega, by omega⟩ h), (fun _ h => absurd trivial (fun _ => by rcases h with h | h; (have h9 := congrArg Int32.toInt (k_20 h); (try simp only [Int32.reduceToInt] at h9); omega); (have h9 := congrArg Int32.toInt (k_23 h); (try simp only [Int32.reduceToInt] at h9); omega))), (fun _ b b' c c' h1 h2 h3 h4 => by have d0 := k_21 b b' h1 h2; rewrite [if_pos (by decide)] at d0; have d1 := k_24 c c' h3 h4; rewrite [if_pos (by decide)] at d1; have d2 := k_29 b b' h1 h2; rewrite [if_neg (by decide)] at d2; have d3 := k_33 c c' h3 h4; rewrite [if_neg (by decide)] at d3; unfold aheadV; rw [if_neg (by rw [← d2, ← d1]; omega), if_pos (by rw [← d3, ← d0]; omega)]; rfl)⟩, trivial⟩, hS.F ht⟩) hS.2.2 dX6_ahead_101
              · skip
                have qc_30 : r_27.toInt < r_22.toInt := nle_k rfl rfl c_30
                refine lv_iconst (v := 0) hx hb dX6_ahead_80 (by decide) ?_
                refine lv_goto (tgt := 101) hx hb dX6_ahead_81 (by decide) ?_
                have hv9 : (0 : Int32).toInt = 0 := by decide
                exact W.iret (v := 0) hx hb hr (fun t ht hW => ⟨⟨0, (), rfl, ⟨(fun h => absurd ⟨⟨by omega, by omega⟩, ⟨by omega, by omega⟩, by omega, by omega, by omega⟩ h), (fun _ h => absurd trivial (fun _ => by rcases h with h | h; (have h9 := congrArg Int32.toInt (k_20 h); (try simp only [Int32.reduceToInt] at h9); omega); (have h9 := congrArg Int32.toInt (k_23 h); (try simp only [Int32.reduceToInt] at h9); omega))), (fun _ b b' c c' h1 h2 h3 h4 => by have d0 := k_21 b b' h1 h2; rewrite [if_pos (by decide)] at d0; have d1 := k_24 c c' h3 h4; rewrite [if_pos (by decide)] at d1; have d2 := k_29 b b' h1 h2; rewrite [if_neg (by decide)] at d2; unfold aheadV; rw [if_pos (by rw [← d2, ← d1]; omega)]; rfl)⟩, trivial⟩, hS.F ht⟩) hS.2.2 dX6_ahead_101
            · skip
              have qc_26 : r_22.toInt = (-9) := eq_k rfl (by decide) c_26
              refine lv_bipush (v := (-9)) hx hb dX6_ahead_65 (by decide) ?_
              have hv9 : (-9 : Int32).toInt = (-9) := by decide
              exact W.iret (v := (-9)) hx hb hr (fun t ht hW => ⟨⟨(-9), (), rfl, ⟨(fun h => absurd ⟨⟨by omega, by omega⟩, ⟨by omega, by omega⟩, by omega, by omega, by omega⟩ h), (fun _ _ => rfl), (fun _ b b' c c' h1 h2 h3 h4 => by have d0 := k_21 b b' h1 h2; rewrite [if_pos (by decide)] at d0; have d1 := k_24 c c' h3 h4; rewrite [if_pos (by decide)] at d1; have p1 : 0 ≤ leastV (farI (Ksc b).toInt vho.toInt) (farI (Ksc b').toInt vho.toInt) (Ksh b).toInt (Ksh b').toInt a2.toInt := Int.le_max_left _ _; have p2 : 0 ≤ leastV (farI (Ksc c).toInt vho.toInt) (farI (Ksc c').toInt vho.toInt) (Ksh c).toInt (Ksh c').toInt a2.toInt := Int.le_max_left _ _; exfalso; omega)⟩, trivial⟩, hS.F ht⟩) hS.2.2 dX6_ahead_67
        · skip
          have b_35 := b01z k_15 c_17
          (try simp only [Int32.lt_iff_toInt_lt, Int32.le_iff_toInt_le, ← Int32.toInt_inj, Int32.reduceToInt, zl1, zl2, zl3, zl4, zl9] at b_35)
          (try simp only [Int32.reduceToInt] at b_35)
          refine lv_iconst (v := (-1)) hx hb dX6_ahead_31 (by decide) ?_
          have hv9 : (-1 : Int32).toInt = (-1) := by decide
          exact W.iret (v := (-1)) hx hb hr (fun t ht hW => ⟨⟨(-1), (), rfl, ⟨(fun _ => rfl), (fun h => absurd h (by omega)), (fun h => absurd h (by omega))⟩, trivial⟩, hS.F ht⟩) hS.2.2 dX6_ahead_32
