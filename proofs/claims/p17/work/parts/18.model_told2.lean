set_option maxRecDepth 20000 in
theorem iw_X6_asked_X6 : ∀ w ∈ wsX60, w ∈ wsX6_asked := fun w h => (List.mem_cons_of_mem _ (List.mem_append_right _ h))
set_option maxHeartbeats 4000000 in
set_option maxRecDepth 100000 in
/-- reference: asked -/
theorem c_X6_asked (l : Launch) (dC : Nat → ClassId) (dI : Nat → Nat → Nat) (sz : Nat) (m0 : Nat) (mfi : Nat) (mil : Nat) (mic : Nat) (mwi : Nat) (mmo : Nat) (mki : Nat) (mce : Nat) (mgo : Nat) (mwa : Nat) (mha : Nat) (mch : Nat) (mfo : Nat) (mca : Nat) (mor : Nat) (mro : Nat) (mra : Nat) (mpr : Nat) (mho : Nat) (mis : Nat) (mss : Nat) (msc : Nat) (msh : Nat) (vfi : Int32) (vhr : Int32) (vho : Int32) (vga : Int32) (vns : Int32) (vsg : Int32) (vpr : Int32) (vfa : Int32) (vak : Int64)  : Met l yX6_asked wsX6_asked ({ frames := 0, cells := 0, slots := 0, locals := 0 }) (va_Pc [.ref m0] (fun U => U.heap.size = sz ∧ va_P (dC, dI) vwCl [(m0, .inr (7, [.int vfi, .ref mfi, .long vak, .int vhr, .ref mil, .ref mic, .ref mwi, .int vho, .int vga, .ref mmo, .int vns, .ref mki, .ref mce, .ref mgo, .ref mwa, .ref mha, .ref mch, .ref mfo, .ref mca, .ref mor, .ref mro, .ref mra, .ref mpr, .ref mho, .ref mis, .int vsg, .ref mss, .ref msc, .ref msh, .int vpr, .int vfa]))] U.heap ∧ va_K (dC, dI) vwCl [] U ∧ NW U)) (va_Ql (fun (r : Int64) (_ : Unit) => (r = vak)) (fun _ _ => True) (va_A [] sz)) 0 0 (va_A [] sz) := by
  refine Met.ofW (cc := cX6_asked) (maxL := 1) (ret := (some .long)) (by decide) rfl ?_
  intro p e s m args below meth c s₁ B hml hv
  obtain ⟨rfl, hsz, hP, hK, hN⟩ := hv
  have hx := B.exec
  have hb := B.bytes
  have hr := B.returns
  have hts := atoms_spec (ws := wsX6_asked) B.pre
  have hown : s.vm.findClass RX6 = some m.cls := findClass_of_methodNamed B.named
  have hlocks := B.notSynchronized
  subst hsz
  generalize hAe : va_A [] s.heap.size = A at ⊢
  have hA : ∀ q : Nat, s.heap.size ≤ q → A q := fun q h => by rw [← hAe]; exact Or.inr h
  have hS : va_S A s.heap s.heap [] := va_S.rf
  have hP : va_P (dC, dI) vwCl [(m0, .inr (7, [.int vfi, .ref mfi, .long vak, .int vhr, .ref mil, .ref mic, .ref mwi, .int vho, .int vga, .ref mmo, .int vns, .ref mki, .ref mce, .ref mgo, .ref mwa, .ref mha, .ref mch, .ref mfo, .ref mca, .ref mor, .ref mro, .ref mra, .ref mpr, .ref mho, .ref mis, .int vsg, .ref mss, .ref msc, .ref msh, .int vpr, .int vfa]))] s.heap := hP
  have hl := lv_entry ([.ref m0]) (n := 1) (Nat.le_of_ble_eq_true rfl)
  rw [lg_entry_eq]
  generalize (lg_sl ([.ref m0]) ++ List.replicate (1 - (lg_sl ([.ref m0])).length) Slot.unset).toArray = ls at hl ⊢
  have hl : lv_has ls 1 [(0, .ref m0)] := hl
  refine lv_aload_n hx hb dX6_asked_0 rfl (lv_at hl 0 rfl) ?_
  refine va_get (D := (dC, dI)) (ci := 7) (v := .long vak) (C := RX6) (T := TX6) (N := 31) hx hb hts iw_X6_asked_X6 hown hK hP 0 rfl rfl 2 (by decide) (hts (.fieldLink RX6 184 "TeaRaceModel" "asked" "J") (by decide +kernel)) (fun _ h9 => h9) rfl dX6_asked_1 ?_
  exact W.lret (v := vak) hx hb hr (fun t ht hW => ⟨⟨vak, (), rfl, rfl, trivial⟩, hS.F ht⟩) hS.2.2 dX6_asked_4
set_option maxRecDepth 20000 in
theorem iw_X6_finding_X6 : ∀ w ∈ wsX60, w ∈ wsX6_finding := fun w h => (List.mem_cons_of_mem _ (List.mem_append_right _ h))
set_option maxHeartbeats 4000000 in
set_option maxRecDepth 100000 in
/-- reference: finding -/
theorem c_X6_finding (l : Launch) (dC : Nat → ClassId) (dI : Nat → Nat → Nat) (sz : Nat) (m0 : Nat) (mfi : Nat) (mil : Nat) (mic : Nat) (mwi : Nat) (mmo : Nat) (mki : Nat) (mce : Nat) (mgo : Nat) (mwa : Nat) (mha : Nat) (mch : Nat) (mfo : Nat) (mca : Nat) (mor : Nat) (mro : Nat) (mra : Nat) (mpr : Nat) (mho : Nat) (mis : Nat) (mss : Nat) (msc : Nat) (msh : Nat) (vfi : Int32) (vhr : Int32) (vho : Int32) (vga : Int32) (vns : Int32) (vsg : Int32) (vpr : Int32) (vfa : Int32) (vak : Int64)  : Met l yX6_finding wsX6_finding ({ frames := 0, cells := 0, slots := 0, locals := 0 }) (va_Pc [.ref m0] (fun U => U.heap.size = sz ∧ va_P (dC, dI) vwCl [(m0, .inr (7, [.int vfi, .ref mfi, .long vak, .int vhr, .ref mil, .ref mic, .ref mwi, .int vho, .int vga, .ref mmo, .int vns, .ref mki, .ref mce, .ref mgo, .ref mwa, .ref mha, .ref mch, .ref mfo, .ref mca, .ref mor, .ref mro, .ref mra, .ref mpr, .ref mho, .ref mis, .int vsg, .ref mss, .ref msc, .ref msh, .int vpr, .int vfa]))] U.heap ∧ va_K (dC, dI) vwCl [] U ∧ NW U)) (va_Qi (fun (r : Int32) (_ : Unit) => (r = vfi)) (fun _ _ => True) (va_A [] sz)) 0 0 (va_A [] sz) := by
  refine Met.ofW (cc := cX6_finding) (maxL := 1) (ret := (some .int)) (by decide) rfl ?_
  intro p e s m args below meth c s₁ B hml hv
  obtain ⟨rfl, hsz, hP, hK, hN⟩ := hv
  have hx := B.exec
  have hb := B.bytes
  have hr := B.returns
  have hts := atoms_spec (ws := wsX6_finding) B.pre
  have hown : s.vm.findClass RX6 = some m.cls := findClass_of_methodNamed B.named
  have hlocks := B.notSynchronized
  subst hsz
  generalize hAe : va_A [] s.heap.size = A at ⊢
  have hA : ∀ q : Nat, s.heap.size ≤ q → A q := fun q h => by rw [← hAe]; exact Or.inr h
  have hS : va_S A s.heap s.heap [] := va_S.rf
  have hP : va_P (dC, dI) vwCl [(m0, .inr (7, [.int vfi, .ref mfi, .long vak, .int vhr, .ref mil, .ref mic, .ref mwi, .int vho, .int vga, .ref mmo, .int vns, .ref mki, .ref mce, .ref mgo, .ref mwa, .ref mha, .ref mch, .ref mfo, .ref mca, .ref mor, .ref mro, .ref mra, .ref mpr, .ref mho, .ref mis, .int vsg, .ref mss, .ref msc, .ref msh, .int vpr, .int vfa]))] s.heap := hP
  have hl := lv_entry ([.ref m0]) (n := 1) (Nat.le_of_ble_eq_true rfl)
  rw [lg_entry_eq]
  generalize (lg_sl ([.ref m0]) ++ List.replicate (1 - (lg_sl ([.ref m0])).length) Slot.unset).toArray = ls at hl ⊢
  have hl : lv_has ls 1 [(0, .ref m0)] := hl
  refine lv_aload_n hx hb dX6_finding_0 rfl (lv_at hl 0 rfl) ?_
  refine va_get (D := (dC, dI)) (ci := 7) (v := .int vfi) (C := RX6) (T := TX6) (N := 31) hx hb hts iw_X6_finding_X6 hown hK hP 0 rfl rfl 0 (by decide) (hts (.fieldLink RX6 84 "TeaRaceModel" "finding" "I") (by decide +kernel)) (fun _ h9 => h9) rfl dX6_finding_1 ?_
  exact W.iret (v := vfi) hx hb hr (fun t ht hW => ⟨⟨vfi, (), rfl, rfl, trivial⟩, hS.F ht⟩) hS.2.2 dX6_finding_4
set_option maxRecDepth 20000 in
theorem iw_X6_findings_X6 : ∀ w ∈ wsX60, w ∈ wsX6_findings := fun w h => (List.mem_cons_of_mem _ (List.mem_append_right _ h))
set_option maxHeartbeats 4000000 in
set_option maxRecDepth 100000 in
/-- reference: findings -/
theorem c_X6_findings (l : Launch) (dC : Nat → ClassId) (dI : Nat → Nat → Nat) (sz : Nat) (m0 : Nat) (mfi : Nat) (mil : Nat) (mic : Nat) (mwi : Nat) (mmo : Nat) (mki : Nat) (mce : Nat) (mgo : Nat) (mwa : Nat) (mha : Nat) (mch : Nat) (mfo : Nat) (mca : Nat) (mor : Nat) (mro : Nat) (mra : Nat) (mpr : Nat) (mho : Nat) (mis : Nat) (mss : Nat) (msc : Nat) (msh : Nat) (vfi : Int32) (vhr : Int32) (vho : Int32) (vga : Int32) (vns : Int32) (vsg : Int32) (vpr : Int32) (vfa : Int32) (vak : Int64) (Kfi : Nat → Int32) (cI : ClassId) (a0 : Int32)  : Met l yX6_findings wsX6_findings ({ frames := 1, cells := 0, slots := 0, locals := 22 }) (va_Pc [.ref m0, .int a0] (fun U => U.heap.size = sz ∧ va_P (dC, dI) vwCl [(m0, .inr (7, [.int vfi, .ref mfi, .long vak, .int vhr, .ref mil, .ref mic, .ref mwi, .int vho, .int vga, .ref mmo, .int vns, .ref mki, .ref mce, .ref mgo, .ref mwa, .ref mha, .ref mch, .ref mfo, .ref mca, .ref mor, .ref mro, .ref mra, .ref mpr, .ref mho, .ref mis, .int vsg, .ref mss, .ref msc, .ref msh, .int vpr, .int vfa])), (mfi, .inl (cI, 6, .inl Kfi))] U.heap ∧ va_K (dC, dI) vwCl [(cI, .int)] U ∧ NW U)) (va_Qi (fun (r : Int32) (_ : Unit) => (r = if (1 ≤ a0.toInt ∧ a0.toInt ≤ 5) then Kfi a0.toNatClampNeg else (-1))) (fun _ _ => True) (va_A [] sz)) 0 0 (va_A [] sz) := by
  refine Met.ofW (cc := cX6_findings) (maxL := 2) (ret := (some .int)) (by decide) rfl ?_
  intro p e s m args below meth c s₁ B hml hv
  obtain ⟨rfl, hsz, hP, hK, hN⟩ := hv
  have hx := B.exec
  have hb := B.bytes
  have hr := B.returns
  have hts := atoms_spec (ws := wsX6_findings) B.pre
  have hown : s.vm.findClass RX6 = some m.cls := findClass_of_methodNamed B.named
  have hlocks := B.notSynchronized
  subst hsz
  generalize hAe : va_A [] s.heap.size = A at ⊢
  have hA : ∀ q : Nat, s.heap.size ≤ q → A q := fun q h => by rw [← hAe]; exact Or.inr h
  have hS : va_S A s.heap s.heap [] := va_S.rf
  have hP : va_P (dC, dI) vwCl [(m0, .inr (7, [.int vfi, .ref mfi, .long vak, .int vhr, .ref mil, .ref mic, .ref mwi, .int vho, .int vga, .ref mmo, .int vns, .ref mki, .ref mce, .ref mgo, .ref mwa, .ref mha, .ref mch, .ref mfo, .ref mca, .ref mor, .ref mro, .ref mra, .ref mpr, .ref mho, .ref mis, .int vsg, .ref mss, .ref msc, .ref msh, .int vpr, .int vfa])), (mfi, .inl (cI, 6, .inl Kfi))] s.heap := hP
  have hl := lv_entry ([.ref m0, .int a0]) (n := 2) (Nat.le_of_ble_eq_true rfl)
  rw [lg_entry_eq]
  generalize (lg_sl ([.ref m0, .int a0]) ++ List.replicate (2 - (lg_sl ([.ref m0, .int a0])).length) Slot.unset).toArray = ls at hl ⊢
  have hl : lv_has ls 2 [(0, .ref m0), (1, .int a0)] := hl
  refine lv_iload_n hx hb dX6_findings_0 rfl (lv_at hl 1 rfl) ?_
  refine lv_iconst (v := 1) hx hb dX6_findings_1 (by decide) ?_
  refine lv_iconst (v := 5) hx hb dX6_findings_2 (by decide) ?_
  refine va_calli (va_runS (As := [.int a0, .int 1, .int 5]) (rest := []) ⟨hx, hb, hml, hown, hts⟩ (c_X6_in l s.heap.size a0 1 5 ) (va_cwS 3 hts gX6_findings_X6_in rfl rfl rfl (by decide +kernel) ⟨Nat.le_of_ble_eq_true rfl, Nat.le_of_ble_eq_true rfl⟩) ⟨fun a U g mk q => by obtain ⟨q0, q1⟩ := q; exact ⟨q0, q1⟩, fun U hU hW => ⟨rfl, congrArg Array.size hU⟩⟩ rfl rfl hl.1 rfl (lv_room (Nat.le_of_ble_eq_true rfl)) dX6_findings_3 ⟨(Nat.zero_le _), (Nat.zero_le _)⟩) hS (fun q _ h => ro_A hS hA q h) (ro_A hS hA) (fun r_1 u t H1 locs ht hvm k_2 hB hz1 hk1 hS => ?_)
  have hP := ro_P hk1 hP
  generalize H1 = H at hP hS ⊢
  try dsimp only at k_2
  obtain ⟨k_2, k_3⟩ := k_2
  refine lv_if_eq (tgt := 18) hx hb dX6_findings_6 (by decide) (fun c_4 => ?_) (fun c_4 => ?_)
  · skip
    have b_5 := b01z k_2 c_4
    (try simp only [Int32.lt_iff_toInt_lt, Int32.le_iff_toInt_le, ← Int32.toInt_inj, Int32.reduceToInt, zl1, zl2, zl3, zl4, zl9] at b_5)
    (try simp only [Int32.reduceToInt] at b_5)
    refine lv_iconst (v := (-1)) hx hb dX6_findings_18 (by decide) ?_
    have hv9 : (-1 : Int32).toInt = (-1) := by decide
    exact W.iret (v := (-1)) hx hb hr (fun t ht hW => ⟨⟨(-1), (), rfl, (by (try dsimp only); rw [if_neg (by omega)]), trivial⟩, hS.F ht⟩) hS.2.2 dX6_findings_19
  · skip
    have b_6 := b01n k_2 c_4
    (try simp only [Int32.lt_iff_toInt_lt, Int32.le_iff_toInt_le, ← Int32.toInt_inj, Int32.reduceToInt, zl1, zl2, zl3, zl4, zl9] at b_6)
    (try simp only [Int32.reduceToInt] at b_6)
    refine lv_aload_n hx hb dX6_findings_9 rfl (lv_at hl 0 rfl) ?_
    refine va_get (D := (dC, dI)) (ci := 7) (v := .ref mfi) (C := RX6) (T := TX6) (N := 31) hx hb hts iw_X6_findings_X6 hown hK hP 0 rfl rfl 1 (by decide) (hts (.fieldLink RX6 7 "TeaRaceModel" "findings" "[I") (by decide +kernel)) (fun _ h9 => h9) rfl dX6_findings_10 ?_
    refine lv_iload_n hx hb dX6_findings_13 rfl (lv_at hl 1 rfl) ?_
    refine va_iald hx hb hK hP 1 0 rfl rfl (in_k rfl (by omega) (by omega)) dX6_findings_14 ?_
    refine lv_topi (fun x_7 ex_7 => ?_)
    have rx_7 := congrArg Int32.toInt ex_7
    refine lv_goto (tgt := 19) hx hb dX6_findings_15 (by decide) ?_
    exact W.iret (v := x_7) hx hb hr (fun t ht hW => ⟨⟨x_7, (), rfl, (by rw [if_pos (by omega), ex_7]), trivial⟩, hS.F ht⟩) hS.2.2 dX6_findings_19
set_option maxRecDepth 20000 in
theorem iw_X6_tellsCount_X6 : ∀ w ∈ wsX60, w ∈ wsX6_tellsCount := fun w h => (List.mem_cons_of_mem _ (List.mem_append_right _ h))
set_option maxHeartbeats 4000000 in
set_option maxRecDepth 100000 in
/-- reference: tellsCount -/
theorem c_X6_tellsCount (l : Launch) (dC : Nat → ClassId) (dI : Nat → Nat → Nat) (sz : Nat) (m0 : Nat) (mfi : Nat) (mil : Nat) (mic : Nat) (mwi : Nat) (mmo : Nat) (mki : Nat) (mce : Nat) (mgo : Nat) (mwa : Nat) (mha : Nat) (mch : Nat) (mfo : Nat) (mca : Nat) (mor : Nat) (mro : Nat) (mra : Nat) (mpr : Nat) (mho : Nat) (mis : Nat) (mss : Nat) (msc : Nat) (msh : Nat) (vfi : Int32) (vhr : Int32) (vho : Int32) (vga : Int32) (vns : Int32) (vsg : Int32) (vpr : Int32) (vfa : Int32) (vak : Int64) (Kic : Nat → Int32) (Kha : Nat → Int32) (cI : ClassId) (cZ : ClassId) (a0 : Int32) (i_vns : 0 ≤ vns.toInt ∧ vns.toInt ≤ 8) (i_vhr : 0 ≤ vhr.toInt ∧ vhr.toInt ≤ 100000) (i_vsg : 0 ≤ vsg.toInt ∧ vsg.toInt ≤ 60) (R_Kha : Rn 8 0 100000 Kha) : Met l yX6_tellsCount wsX6_tellsCount ({ frames := 1, cells := 0, slots := 0, locals := 22 }) (va_Pc [.ref m0, .int a0] (fun U => U.heap.size = sz ∧ va_P (dC, dI) vwCl [(m0, .inr (7, [.int vfi, .ref mfi, .long vak, .int vhr, .ref mil, .ref mic, .ref mwi, .int vho, .int vga, .ref mmo, .int vns, .ref mki, .ref mce, .ref mgo, .ref mwa, .ref mha, .ref mch, .ref mfo, .ref mca, .ref mor, .ref mro, .ref mra, .ref mpr, .ref mho, .ref mis, .int vsg, .ref mss, .ref msc, .ref msh, .int vpr, .int vfa])), (mic, .inl (cZ, 12, .inl Kic)), (mha, .inl (cI, 8, .inl Kha))] U.heap ∧ va_K (dC, dI) vwCl [(cI, .int), (cZ, .boolean)] U ∧ NW U)) (va_Qi (fun (r : Int32) (_ : Unit) => (r.toInt = if a0.toInt = 0 then vns.toInt else if a0.toInt = 1 then vhr.toInt else if a0.toInt = 2 then chartsF Kic 12 else if a0.toInt = 3 then vsg.toInt else homesM Kha vns.toInt.toNat)) (fun _ _ => True) (va_A [] sz)) 0 0 (va_A [] sz) := by
  refine Met.ofW (cc := cX6_tellsCount) (maxL := 4) (ret := (some .int)) (by decide) rfl ?_
  intro p e s m args below meth c s₁ B hml hv
  obtain ⟨rfl, hsz, hP, hK, hN⟩ := hv
  have hx := B.exec
  have hb := B.bytes
  have hr := B.returns
  have hts := atoms_spec (ws := wsX6_tellsCount) B.pre
  have hown : s.vm.findClass RX6 = some m.cls := findClass_of_methodNamed B.named
  have hlocks := B.notSynchronized
  subst hsz
  generalize hAe : va_A [] s.heap.size = A at ⊢
  have hA : ∀ q : Nat, s.heap.size ≤ q → A q := fun q h => by rw [← hAe]; exact Or.inr h
  have hS : va_S A s.heap s.heap [] := va_S.rf
  have hP : va_P (dC, dI) vwCl [(m0, .inr (7, [.int vfi, .ref mfi, .long vak, .int vhr, .ref mil, .ref mic, .ref mwi, .int vho, .int vga, .ref mmo, .int vns, .ref mki, .ref mce, .ref mgo, .ref mwa, .ref mha, .ref mch, .ref mfo, .ref mca, .ref mor, .ref mro, .ref mra, .ref mpr, .ref mho, .ref mis, .int vsg, .ref mss, .ref msc, .ref msh, .int vpr, .int vfa])), (mic, .inl (cZ, 12, .inl Kic)), (mha, .inl (cI, 8, .inl Kha))] s.heap := hP
  have hl := lv_entry ([.ref m0, .int a0]) (n := 4) (Nat.le_of_ble_eq_true rfl)
  rw [lg_entry_eq]
  generalize (lg_sl ([.ref m0, .int a0]) ++ List.replicate (4 - (lg_sl ([.ref m0, .int a0])).length) Slot.unset).toArray = ls at hl ⊢
  have hl : lv_has ls 4 [(0, .ref m0), (1, .int a0)] := hl
  refine lv_iconst (v := 0) hx hb dX6_tellsCount_0 (by decide) ?_
  refine lv_istore_n (lv' := [(2, .int 0), (0, .ref m0), (1, .int a0)]) hx hb dX6_tellsCount_1 rfl hl (by decide) rfl (fun ls hl => ?_)
  refine lv_iconst (v := 0) hx hb dX6_tellsCount_2 (by decide) ?_
  refine lv_istore_n (lv' := [(3, .int 0), (2, .int 0), (0, .ref m0), (1, .int a0)]) hx hb dX6_tellsCount_3 rfl hl (by decide) rfl (fun ls hl => ?_)
  have key4 : ∀ (n4 : Nat) (cn : Int32) (ik : Int32) (H : Heap) (locs : List Loc) (ls : Array Slot), (0 ≤ cn.toInt ∧ cn.toInt ≤ 12) → (0 ≤ ik.toInt ∧ ik.toInt ≤ 12) → (cn.toInt ≤ ik.toInt) → (cn.toInt = chartsF Kic ik.toInt.toNat) → 12 - ik.toInt < (n4 : Int) → va_P (dC, dI) vwCl [(m0, .inr (7, [.int vfi, .ref mfi, .long vak, .int vhr, .ref mil, .ref mic, .ref mwi, .int vho, .int vga, .ref mmo, .int vns, .ref mki, .ref mce, .ref mgo, .ref mwa, .ref mha, .ref mch, .ref mfo, .ref mca, .ref mor, .ref mro, .ref mra, .ref mpr, .ref mho, .ref mis, .int vsg, .ref mss, .ref msc, .ref msh, .int vpr, .int vfa])), (mic, .inl (cZ, 12, .inl Kic)), (mha, .inl (cI, 8, .inl Kha))] H → va_S A s.heap H locs → lv_has ls 4 [(3, .int ik), (2, .int cn), (0, .ref m0), (1, .int a0)] → W p l e ({ frames := 1, cells := 0, slots := 0, locals := 22 } : Room) s m ([.ref m0, .int a0] : List Value).toArray below meth c H locs 0 0 (MQ below (va_Qi (fun (r : Int32) (_ : Unit) => (r.toInt = if a0.toInt = 0 then vns.toInt else if a0.toInt = 1 then vhr.toInt else if a0.toInt = 2 then chartsF Kic 12 else if a0.toInt = 3 then vsg.toInt else homesM Kha vns.toInt.toNat)) (fun _ _ => True) A) ([.ref m0, .int a0] : List Value).toArray s 0 0 A) (F0 m 4 ls []) := by
    intro n4
    induction n4 with
    | zero =>
      intro cn ik H locs ls i_cn i_ik hcr hcn hm4
      exact absurd hm4 (by omega)
    | succ n4 ih4 =>
      intro cn ik H locs ls i_cn i_ik hcr hcn hm4 hP hS hl
      refine lv_iload_n hx hb dX6_tellsCount_4 rfl (lv_at hl 0 rfl) ?_
      refine lv_bipush (v := 12) hx hb dX6_tellsCount_5 (by decide) ?_
      refine lv_icmp_ge (tgt := 33) hx hb dX6_tellsCount_7 (by decide) (fun c_1 => ?_) (fun c_1 => ?_)
      · skip
        have qc_1 : 12 ≤ ik.toInt := le_k (by decide) rfl c_1
        refine lv_iload_n hx hb dX6_tellsCount_33 rfl (lv_at hl 3 rfl) ?_
        refine lv_if_ne (tgt := 44) hx hb dX6_tellsCount_34 (by decide) (fun c_2 => ?_) (fun c_2 => ?_)
        · skip
          have qc_2 : a0.toInt ≠ 0 := ne_k rfl (by decide) c_2
          refine lv_iload_n hx hb dX6_tellsCount_44 rfl (lv_at hl 3 rfl) ?_
          refine lv_iconst (v := 1) hx hb dX6_tellsCount_45 (by decide) ?_
          refine lv_icmp_ne (tgt := 56) hx hb dX6_tellsCount_46 (by decide) (fun c_3 => ?_) (fun c_3 => ?_)
          · skip
            have qc_3 : a0.toInt ≠ 1 := ne_k rfl (by decide) c_3
            refine lv_iload_n hx hb dX6_tellsCount_56 rfl (lv_at hl 3 rfl) ?_
            refine lv_iconst (v := 2) hx hb dX6_tellsCount_57 (by decide) ?_
            refine lv_icmp_ne (tgt := 65) hx hb dX6_tellsCount_58 (by decide) (fun c_4 => ?_) (fun c_4 => ?_)
            · skip
              have qc_4 : a0.toInt ≠ 2 := ne_k rfl (by decide) c_4
              refine lv_iload_n hx hb dX6_tellsCount_65 rfl (lv_at hl 3 rfl) ?_
              refine lv_iconst (v := 3) hx hb dX6_tellsCount_66 (by decide) ?_
              refine lv_icmp_ne (tgt := 77) hx hb dX6_tellsCount_67 (by decide) (fun c_5 => ?_) (fun c_5 => ?_)
              · skip
                have qc_5 : a0.toInt ≠ 3 := ne_k rfl (by decide) c_5
                refine lv_aload_n hx hb dX6_tellsCount_77 rfl (lv_at hl 2 rfl) ?_
                have hPc := hP.sub (ws' := [(m0, .inr (7, [.int vfi, .ref mfi, .long vak, .int vhr, .ref mil, .ref mic, .ref mwi, .int vho, .int vga, .ref mmo, .int vns, .ref mki, .ref mce, .ref mgo, .ref mwa, .ref mha, .ref mch, .ref mfo, .ref mca, .ref mor, .ref mro, .ref mra, .ref mpr, .ref mho, .ref mis, .int vsg, .ref mss, .ref msc, .ref msh, .int vpr, .int vfa])), (mha, .inl (cI, 8, .inl Kha))]) [0, 2] rfl
                have hKc := hK.sub (tys' := [(cI, .int)]) [0] rfl
                refine va_calli (va_runV (As := []) (rest := []) ⟨hx, hb, hml, hown, hts⟩ (c_X6_atHome l dC dI H.size m0 mfi mil mic mwi mmo mki mce mgo mwa mha mch mfo mca mor mro mra mpr mho mis mss msc msh vfi vhr vho vga vns vsg vpr vfa vak Kha cI ⟨(by omega), (by omega)⟩ R_Kha) (cwV 0 hts gX6_tellsCount_X6_atHome rfl rfl rfl (by decide +kernel) ⟨Nat.le_of_ble_eq_true rfl, Nat.le_of_ble_eq_true rfl⟩) ⟨fun a U g mk q => by obtain ⟨q0, q1, qP, qK, qN⟩ := q; exact ⟨q0, q1, qP, va_K.moved (u := U) (U := U.calling g mk a) (Vm.Alike.refl U.vm) qK, NW.same (u := U) (U := U.calling g mk a) rfl qN⟩, va_recv hKc hPc (ci := 7) (q0 := 0) rfl rfl, fun U hU hW => ⟨rfl, by rw [hU], by rw [hU]; exact hPc, va_K.moved hW.alike hKc, NW.warm hW hN⟩⟩ rfl rfl hl.1 rfl (lv_room (Nat.le_of_ble_eq_true rfl)) dX6_tellsCount_78 ⟨(Nat.zero_le _), (Nat.zero_le _)⟩) hS (fun q _ h => ro_A hS hA q h) (ro_A hS hA) (fun r_6 u t H1 locs ht hvm k_7 hB hz1 hk1 hS => ?_)
                have hP := ro_P hk1 hP
                generalize H1 = H at hP hS ⊢
                try dsimp only at k_7
                exact W.iret (v := r_6) hx hb hr (fun t ht hW => ⟨⟨r_6, (), rfl, (by have e9 : ik.toInt.toNat = 12 := (by omega); rewrite [e9] at hcn; (try simp only [Int32.reduceToInt]); (repeat' split) <;> omega), trivial⟩, hS.F ht⟩) hS.2.2 dX6_tellsCount_81
              · skip
                have qc_5 : a0.toInt = 3 := eq_k rfl (by decide) c_5
                refine lv_aload_n hx hb dX6_tellsCount_70 rfl (lv_at hl 2 rfl) ?_
                refine va_get (D := (dC, dI)) (ci := 7) (v := .int vsg) (C := RX6) (T := TX6) (N := 31) hx hb hts iw_X6_tellsCount_X6 hown hK hP 0 rfl rfl 25 (by decide) (hts (.fieldLink RX6 168 "TeaRaceModel" "sights" "I") (by decide +kernel)) (fun _ h9 => h9) rfl dX6_tellsCount_71 ?_
                refine lv_goto (tgt := 81) hx hb dX6_tellsCount_74 (by decide) ?_
                exact W.iret (v := vsg) hx hb hr (fun t ht hW => ⟨⟨vsg, (), rfl, (by have e9 : ik.toInt.toNat = 12 := (by omega); rewrite [e9] at hcn; (try simp only [Int32.reduceToInt]); (repeat' split) <;> omega), trivial⟩, hS.F ht⟩) hS.2.2 dX6_tellsCount_81
            · skip
              have qc_4 : a0.toInt = 2 := eq_k rfl (by decide) c_4
              refine lv_iload_n hx hb dX6_tellsCount_61 rfl (lv_at hl 1 rfl) ?_
              refine lv_goto (tgt := 81) hx hb dX6_tellsCount_62 (by decide) ?_
              exact W.iret (v := cn) hx hb hr (fun t ht hW => ⟨⟨cn, (), rfl, (by have e9 : ik.toInt.toNat = 12 := (by omega); rewrite [e9] at hcn; (try simp only [Int32.reduceToInt]); (repeat' split) <;> omega), trivial⟩, hS.F ht⟩) hS.2.2 dX6_tellsCount_81
          · skip
            have qc_3 : a0.toInt = 1 := eq_k rfl (by decide) c_3
            refine lv_aload_n hx hb dX6_tellsCount_49 rfl (lv_at hl 2 rfl) ?_
            refine va_get (D := (dC, dI)) (ci := 7) (v := .int vhr) (C := RX6) (T := TX6) (N := 31) hx hb hts iw_X6_tellsCount_X6 hown hK hP 0 rfl rfl 3 (by decide) (hts (.fieldLink RX6 113 "TeaRaceModel" "hour" "I") (by decide +kernel)) (fun _ h9 => h9) rfl dX6_tellsCount_50 ?_
            refine lv_goto (tgt := 81) hx hb dX6_tellsCount_53 (by decide) ?_
            exact W.iret (v := vhr) hx hb hr (fun t ht hW => ⟨⟨vhr, (), rfl, (by have e9 : ik.toInt.toNat = 12 := (by omega); rewrite [e9] at hcn; (try simp only [Int32.reduceToInt]); (repeat' split) <;> omega), trivial⟩, hS.F ht⟩) hS.2.2 dX6_tellsCount_81
        · skip
          have qc_2 : a0.toInt = 0 := eq_k rfl (by decide) c_2
          refine lv_aload_n hx hb dX6_tellsCount_37 rfl (lv_at hl 2 rfl) ?_
          refine va_get (D := (dC, dI)) (ci := 7) (v := .int vns) (C := RX6) (T := TX6) (N := 31) hx hb hts iw_X6_tellsCount_X6 hown hK hP 0 rfl rfl 10 (by decide) (hts (.fieldLink RX6 110 "TeaRaceModel" "ships" "I") (by decide +kernel)) (fun _ h9 => h9) rfl dX6_tellsCount_38 ?_
          refine lv_goto (tgt := 81) hx hb dX6_tellsCount_41 (by decide) ?_
          exact W.iret (v := vns) hx hb hr (fun t ht hW => ⟨⟨vns, (), rfl, (by have e9 : ik.toInt.toNat = 12 := (by omega); rewrite [e9] at hcn; (try simp only [Int32.reduceToInt]); (repeat' split) <;> omega), trivial⟩, hS.F ht⟩) hS.2.2 dX6_tellsCount_81
      · skip
        have qc_1 : ik.toInt < 12 := nle_k (by decide) rfl c_1
        refine lv_iload_n hx hb dX6_tellsCount_10 rfl (lv_at hl 1 rfl) ?_
        refine lv_aload_n hx hb dX6_tellsCount_11 rfl (lv_at hl 2 rfl) ?_
        refine va_get (D := (dC, dI)) (ci := 7) (v := .ref mic) (C := RX6) (T := TX6) (N := 31) hx hb hts iw_X6_tellsCount_X6 hown hK hP 0 rfl rfl 5 (by decide) (hts (.fieldLink RX6 17 "TeaRaceModel" "isChart" "[Z") (by decide +kernel)) (fun _ h9 => h9) rfl dX6_tellsCount_12 ?_
        refine lv_iload_n hx hb dX6_tellsCount_15 rfl (lv_at hl 0 rfl) ?_
        refine va_zald hx hb hK hP 1 1 rfl rfl (in_k rfl (by omega) (by omega)) dX6_tellsCount_16 ?_
        refine lv_topi (fun x_8 ex_8 => ?_)
        have rx_8 := congrArg Int32.toInt ex_8
        refine lv_if_eq (tgt := 24) hx hb dX6_tellsCount_17 (by decide) (fun c_9 => ?_) (fun c_9 => ?_)
        · skip
          have qc_9 : x_8.toInt = 0 := eq_k rfl (by decide) c_9
          refine lv_iconst (v := 0) hx hb dX6_tellsCount_24 (by decide) ?_
          refine lv_iadd hx hb dX6_tellsCount_25 ?_
          refine lv_topi (fun x_10 ex_10 => ?_)
          have tx_10 : x_10.toInt = cn.toInt + 0 := ad_k ex_10 rfl (by decide) (by omega) (by omega)
          refine lv_istore_n (lv' := [(2, .int x_10), (3, .int ik), (0, .ref m0), (1, .int a0)]) hx hb dX6_tellsCount_26 rfl hl (by decide) rfl (fun ls hl => ?_)
          obtain ⟨x_11, ex_11⟩ : ∃ y : Int32, y = ik + 1 := ⟨_, rfl⟩
          have tx_11 : x_11.toInt = ik.toInt + 1 := ad_k ex_11 rfl (by decide) (by omega) (by omega)
          refine lv_iinc (v := x_11) (lv' := [(3, .int x_11), (2, .int x_10), (0, .ref m0), (1, .int a0)]) hx hb dX6_tellsCount_27 hl (k := 1) rfl (by rw [ex_11]; rfl) (by decide) rfl (fun ls hl => ?_)
          refine lv_goto (tgt := 4) hx hb dX6_tellsCount_30 (by decide) ?_
          exact ih4 x_10 x_11  H locs ls ⟨(by first | omega | (simp only [Int32.reduceToInt]; omega)), (by first | omega | (simp only [Int32.reduceToInt]; omega))⟩ ⟨(by first | omega | (simp only [Int32.reduceToInt]; omega)), (by first | omega | (simp only [Int32.reduceToInt]; omega))⟩ (by first | omega | (simp only [Int32.reduceToInt]; omega)) (by have e9 : x_11.toInt.toNat = ik.toInt.toNat + 1 := (by omega); rw [e9]; show x_10.toInt = chartsF Kic ik.toInt.toNat + (if (Kic ik.toInt.toNat).toInt = 0 then 0 else 1); have z2 : x_8.toInt = (Kic ik.toInt.toNat).toInt := rx_8; rw [← z2]; first | (rw [if_pos (by omega)]; omega) | (rw [if_neg (by omega)]; omega)) (by first | omega | (simp only [Int32.reduceToInt]; omega)) hP hS (lv_sub hl [0, 1, 2, 3] rfl)
        · skip
          have qc_9 : x_8.toInt ≠ 0 := ne_k rfl (by decide) c_9
          refine lv_iconst (v := 1) hx hb dX6_tellsCount_20 (by decide) ?_
          refine lv_goto (tgt := 25) hx hb dX6_tellsCount_21 (by decide) ?_
          refine lv_iadd hx hb dX6_tellsCount_25 ?_
          refine lv_topi (fun x_12 ex_12 => ?_)
          have tx_12 : x_12.toInt = cn.toInt + 1 := ad_k ex_12 rfl (by decide) (by omega) (by omega)
          refine lv_istore_n (lv' := [(2, .int x_12), (3, .int ik), (0, .ref m0), (1, .int a0)]) hx hb dX6_tellsCount_26 rfl hl (by decide) rfl (fun ls hl => ?_)
          obtain ⟨x_13, ex_13⟩ : ∃ y : Int32, y = ik + 1 := ⟨_, rfl⟩
          have tx_13 : x_13.toInt = ik.toInt + 1 := ad_k ex_13 rfl (by decide) (by omega) (by omega)
          refine lv_iinc (v := x_13) (lv' := [(3, .int x_13), (2, .int x_12), (0, .ref m0), (1, .int a0)]) hx hb dX6_tellsCount_27 hl (k := 1) rfl (by rw [ex_13]; rfl) (by decide) rfl (fun ls hl => ?_)
          refine lv_goto (tgt := 4) hx hb dX6_tellsCount_30 (by decide) ?_
          exact ih4 x_12 x_13  H locs ls ⟨(by first | omega | (simp only [Int32.reduceToInt]; omega)), (by first | omega | (simp only [Int32.reduceToInt]; omega))⟩ ⟨(by first | omega | (simp only [Int32.reduceToInt]; omega)), (by first | omega | (simp only [Int32.reduceToInt]; omega))⟩ (by first | omega | (simp only [Int32.reduceToInt]; omega)) (by have e9 : x_13.toInt.toNat = ik.toInt.toNat + 1 := (by omega); rw [e9]; show x_12.toInt = chartsF Kic ik.toInt.toNat + (if (Kic ik.toInt.toNat).toInt = 0 then 0 else 1); have z2 : x_8.toInt = (Kic ik.toInt.toNat).toInt := rx_8; rw [← z2]; first | (rw [if_pos (by omega)]; omega) | (rw [if_neg (by omega)]; omega)) (by first | omega | (simp only [Int32.reduceToInt]; omega)) hP hS (lv_sub hl [0, 1, 2, 3] rfl)
  exact key4 13 0 0  _ _ ls (by decide) (by decide) (by (try simp only [Int32.reduceToInt]); omega) rfl (by (try simp only [Int32.reduceToInt]); omega) hP hS hl
set_option maxHeartbeats 4000000 in
set_option maxRecDepth 100000 in
/-- reference: count -/
theorem c_X6_count (l : Launch) (dC : Nat → ClassId) (dI : Nat → Nat → Nat) (sz : Nat) (m0 : Nat) (mfi : Nat) (mil : Nat) (mic : Nat) (mwi : Nat) (mmo : Nat) (mki : Nat) (mce : Nat) (mgo : Nat) (mwa : Nat) (mha : Nat) (mch : Nat) (mfo : Nat) (mca : Nat) (mor : Nat) (mro : Nat) (mra : Nat) (mpr : Nat) (mho : Nat) (mis : Nat) (mss : Nat) (msc : Nat) (msh : Nat) (vfi : Int32) (vhr : Int32) (vho : Int32) (vga : Int32) (vns : Int32) (vsg : Int32) (vpr : Int32) (vfa : Int32) (vak : Int64) (Kic : Nat → Int32) (Kha : Nat → Int32) (cI : ClassId) (cZ : ClassId) (a0 : Int32) (i_vns : 0 ≤ vns.toInt ∧ vns.toInt ≤ 8) (i_vhr : 0 ≤ vhr.toInt ∧ vhr.toInt ≤ 100000) (i_vsg : 0 ≤ vsg.toInt ∧ vsg.toInt ≤ 60) (R_Kha : Rn 8 0 100000 Kha) : Met l yX6_count wsX6_count ({ frames := 2, cells := 0, slots := 0, locals := 45 }) (va_Pc [.ref m0, .int a0] (fun U => U.heap.size = sz ∧ va_P (dC, dI) vwCl [(m0, .inr (7, [.int vfi, .ref mfi, .long vak, .int vhr, .ref mil, .ref mic, .ref mwi, .int vho, .int vga, .ref mmo, .int vns, .ref mki, .ref mce, .ref mgo, .ref mwa, .ref mha, .ref mch, .ref mfo, .ref mca, .ref mor, .ref mro, .ref mra, .ref mpr, .ref mho, .ref mis, .int vsg, .ref mss, .ref msc, .ref msh, .int vpr, .int vfa])), (mic, .inl (cZ, 12, .inl Kic)), (mha, .inl (cI, 8, .inl Kha))] U.heap ∧ va_K (dC, dI) vwCl [(cI, .int), (cZ, .boolean)] U ∧ NW U)) (va_Qi (fun (r : Int32) (_ : Unit) => (r.toInt = if (0 ≤ a0.toInt ∧ a0.toInt ≤ 4) then (if a0.toInt = 0 then vns.toInt else if a0.toInt = 1 then vhr.toInt else if a0.toInt = 2 then chartsF Kic 12 else if a0.toInt = 3 then vsg.toInt else homesM Kha vns.toInt.toNat) else -1)) (fun _ _ => True) (va_A [] sz)) 0 0 (va_A [] sz) := by
  refine Met.ofW (cc := cX6_count) (maxL := 2) (ret := (some .int)) (by decide) rfl ?_
  intro p e s m args below meth c s₁ B hml hv
  obtain ⟨rfl, hsz, hP, hK, hN⟩ := hv
  have hx := B.exec
  have hb := B.bytes
  have hr := B.returns
  have hts := atoms_spec (ws := wsX6_count) B.pre
  have hown : s.vm.findClass RX6 = some m.cls := findClass_of_methodNamed B.named
  have hlocks := B.notSynchronized
  subst hsz
  generalize hAe : va_A [] s.heap.size = A at ⊢
  have hA : ∀ q : Nat, s.heap.size ≤ q → A q := fun q h => by rw [← hAe]; exact Or.inr h
  have hS : va_S A s.heap s.heap [] := va_S.rf
  have hP : va_P (dC, dI) vwCl [(m0, .inr (7, [.int vfi, .ref mfi, .long vak, .int vhr, .ref mil, .ref mic, .ref mwi, .int vho, .int vga, .ref mmo, .int vns, .ref mki, .ref mce, .ref mgo, .ref mwa, .ref mha, .ref mch, .ref mfo, .ref mca, .ref mor, .ref mro, .ref mra, .ref mpr, .ref mho, .ref mis, .int vsg, .ref mss, .ref msc, .ref msh, .int vpr, .int vfa])), (mic, .inl (cZ, 12, .inl Kic)), (mha, .inl (cI, 8, .inl Kha))] s.heap := hP
  have hl := lv_entry ([.ref m0, .int a0]) (n := 2) (Nat.le_of_ble_eq_true rfl)
  rw [lg_entry_eq]
  generalize (lg_sl ([.ref m0, .int a0]) ++ List.replicate (2 - (lg_sl ([.ref m0, .int a0])).length) Slot.unset).toArray = ls at hl ⊢
  have hl : lv_has ls 2 [(0, .ref m0), (1, .int a0)] := hl
  refine lv_iload_n hx hb dX6_count_0 rfl (lv_at hl 1 rfl) ?_
  refine lv_iconst (v := 0) hx hb dX6_count_1 (by decide) ?_
  refine lv_iconst (v := 4) hx hb dX6_count_2 (by decide) ?_
  refine va_calli (va_runS (As := [.int a0, .int 0, .int 4]) (rest := []) ⟨hx, hb, hml, hown, hts⟩ (c_X6_in l s.heap.size a0 0 4 ) (va_cwS 3 hts gX6_count_X6_in rfl rfl rfl (by decide +kernel) ⟨Nat.le_of_ble_eq_true rfl, Nat.le_of_ble_eq_true rfl⟩) ⟨fun a U g mk q => by obtain ⟨q0, q1⟩ := q; exact ⟨q0, q1⟩, fun U hU hW => ⟨rfl, congrArg Array.size hU⟩⟩ rfl rfl hl.1 rfl (lv_room (Nat.le_of_ble_eq_true rfl)) dX6_count_3 ⟨(Nat.zero_le _), (Nat.zero_le _)⟩) hS (fun q _ h => ro_A hS hA q h) (ro_A hS hA) (fun r_1 u t H1 locs ht hvm k_2 hB hz1 hk1 hS => ?_)
  have hP := ro_P hk1 hP
  generalize H1 = H at hP hS ⊢
  try dsimp only at k_2
  obtain ⟨k_2, k_3⟩ := k_2
  refine lv_if_eq (tgt := 17) hx hb dX6_count_6 (by decide) (fun c_4 => ?_) (fun c_4 => ?_)
  · skip
    have b_5 := b01z k_2 c_4
    (try simp only [Int32.lt_iff_toInt_lt, Int32.le_iff_toInt_le, ← Int32.toInt_inj, Int32.reduceToInt, zl1, zl2, zl3, zl4, zl9] at b_5)
    (try simp only [Int32.reduceToInt] at b_5)
    refine lv_iconst (v := (-1)) hx hb dX6_count_17 (by decide) ?_
    have hv9 : (-1 : Int32).toInt = (-1) := by decide
    exact W.iret (v := (-1)) hx hb hr (fun t ht hW => ⟨⟨(-1), (), rfl, (by rw [if_neg (by (first | omega | ((try simp only [Int32.lt_iff_toInt_lt, Int32.le_iff_toInt_le, ← Int32.toInt_inj, Int32.reduceToInt, zl1, zl2, zl3, zl4, zl9]); (try simp only [Int32.reduceToInt]); omega) | (subst_vars; assumption) | (refine ⟨?_, ?_⟩ <;> first | omega | (simp only [Int32.lt_iff_toInt_lt, Int32.le_iff_toInt_le, ← Int32.toInt_inj, Int32.reduceToInt, zl1, zl2, zl3, zl4, zl9]; omega) | (subst_vars; assumption))))]; decide), trivial⟩, hS.F ht⟩) hS.2.2 dX6_count_18
  · skip
    have b_6 := b01n k_2 c_4
    (try simp only [Int32.lt_iff_toInt_lt, Int32.le_iff_toInt_le, ← Int32.toInt_inj, Int32.reduceToInt, zl1, zl2, zl3, zl4, zl9] at b_6)
    (try simp only [Int32.reduceToInt] at b_6)
    refine lv_aload_n hx hb dX6_count_9 rfl (lv_at hl 0 rfl) ?_
    refine lv_iload_n hx hb dX6_count_10 rfl (lv_at hl 1 rfl) ?_
    have hPc := hP.sub (ws' := [(m0, .inr (7, [.int vfi, .ref mfi, .long vak, .int vhr, .ref mil, .ref mic, .ref mwi, .int vho, .int vga, .ref mmo, .int vns, .ref mki, .ref mce, .ref mgo, .ref mwa, .ref mha, .ref mch, .ref mfo, .ref mca, .ref mor, .ref mro, .ref mra, .ref mpr, .ref mho, .ref mis, .int vsg, .ref mss, .ref msc, .ref msh, .int vpr, .int vfa])), (mic, .inl (cZ, 12, .inl Kic)), (mha, .inl (cI, 8, .inl Kha))]) [0, 1, 2] rfl
    have hKc := hK.sub (tys' := [(cI, .int), (cZ, .boolean)]) [0, 1] rfl
    refine va_calli (va_runV (As := [.int a0]) (rest := []) ⟨hx, hb, hml, hown, hts⟩ (c_X6_tellsCount l dC dI H.size m0 mfi mil mic mwi mmo mki mce mgo mwa mha mch mfo mca mor mro mra mpr mho mis mss msc msh vfi vhr vho vga vns vsg vpr vfa vak Kic Kha cI cZ a0 ⟨(by omega), (by omega)⟩ ⟨(by omega), (by omega)⟩ ⟨(by omega), (by omega)⟩ R_Kha) (cwV 1 hts gX6_count_X6_tellsCount rfl rfl rfl (by decide +kernel) ⟨Nat.le_of_ble_eq_true rfl, Nat.le_of_ble_eq_true rfl⟩) ⟨fun a U g mk q => by obtain ⟨q0, q1, qP, qK, qN⟩ := q; exact ⟨q0, q1, qP, va_K.moved (u := U) (U := U.calling g mk a) (Vm.Alike.refl U.vm) qK, NW.same (u := U) (U := U.calling g mk a) rfl qN⟩, va_recv hKc hPc (ci := 7) (q0 := 0) rfl rfl, fun U hU hW => ⟨rfl, by rw [hU], by rw [hU]; exact hPc, va_K.moved hW.alike hKc, NW.warm hW hN⟩⟩ rfl rfl hl.1 rfl (lv_room (Nat.le_of_ble_eq_true rfl)) dX6_count_11 ⟨(Nat.zero_le _), (Nat.zero_le _)⟩) hS (fun q _ h => ro_A hS hA q h) (ro_A hS hA) (fun r_7 u t H1 locs ht hvm k_8 hB hz1 hk1 hS => ?_)
    have hP := ro_P hk1 hP
    generalize H1 = H at hP hS ⊢
    try dsimp only at k_8
    refine lv_goto (tgt := 18) hx hb dX6_count_14 (by decide) ?_
    exact W.iret (v := r_7) hx hb hr (fun t ht hW => ⟨⟨r_7, (), rfl, (by rw [if_pos (by (first | omega | ((try simp only [Int32.lt_iff_toInt_lt, Int32.le_iff_toInt_le, ← Int32.toInt_inj, Int32.reduceToInt, zl1, zl2, zl3, zl4, zl9]); (try simp only [Int32.reduceToInt]); omega) | (subst_vars; assumption) | (refine ⟨?_, ?_⟩ <;> first | omega | (simp only [Int32.lt_iff_toInt_lt, Int32.le_iff_toInt_le, ← Int32.toInt_inj, Int32.reduceToInt, zl1, zl2, zl3, zl4, zl9]; omega) | (subst_vars; assumption))))]; exact k_8), trivial⟩, hS.F ht⟩) hS.2.2 dX6_count_18
set_option maxRecDepth 20000 in
theorem iw_X6_digest_X6 : ∀ w ∈ wsX60, w ∈ wsX6_digest := fun w h => (List.mem_cons_of_mem _ (List.mem_append_right _ h))
set_option maxHeartbeats 4000000 in
set_option maxRecDepth 100000 in
/-- reference: digest -/
theorem c_X6_digest (l : Launch) (dC : Nat → ClassId) (dI : Nat → Nat → Nat) (sz : Nat) (m0 : Nat) (mfi : Nat) (mil : Nat) (mic : Nat) (mwi : Nat) (mmo : Nat) (mki : Nat) (mce : Nat) (mgo : Nat) (mwa : Nat) (mha : Nat) (mch : Nat) (mfo : Nat) (mca : Nat) (mor : Nat) (mro : Nat) (mra : Nat) (mpr : Nat) (mho : Nat) (mis : Nat) (mss : Nat) (msc : Nat) (msh : Nat) (vfi : Int32) (vhr : Int32) (vho : Int32) (vga : Int32) (vns : Int32) (vsg : Int32) (vpr : Int32) (vfa : Int32) (vak : Int64) (Kic : Nat → Int32) (Kha : Nat → Int32) (Kki : Nat → Int32) (Kce : Nat → Int32) (Kgo : Nat → Int32) (Kwa : Nat → Int32) (Kch : Nat → Int32) (Kwi : Nat → Int32) (cI : ClassId) (cZ : ClassId) (i_vns : 0 ≤ vns.toInt ∧ vns.toInt ≤ 8) (i_vga : 0 ≤ vga.toInt ∧ vga.toInt ≤ 23) (i_vhr : 0 ≤ vhr.toInt ∧ vhr.toInt ≤ 100000) (i_vsg : 0 ≤ vsg.toInt ∧ vsg.toInt ≤ 60) (R_Kha : Rn 8 0 100000 Kha) (R_Kki : Rg 8 0 3 Kki) (R_Kce : Rg 8 0 159 Kce) (R_Kgo : Rg 8 0 84 Kgo) (R_Kwa : Rg 8 0 7 Kwa) (R_Kch : Rg 8 0 20000 Kch) (R_Kwi : Rg 1920 (-128) 127 Kwi) : Met l yX6_digest wsX6_digest ({ frames := 2, cells := 0, slots := 0, locals := 45 }) (va_Pc [.ref m0] (fun U => U.heap.size = sz ∧ va_P (dC, dI) vwCl [(m0, .inr (7, [.int vfi, .ref mfi, .long vak, .int vhr, .ref mil, .ref mic, .ref mwi, .int vho, .int vga, .ref mmo, .int vns, .ref mki, .ref mce, .ref mgo, .ref mwa, .ref mha, .ref mch, .ref mfo, .ref mca, .ref mor, .ref mro, .ref mra, .ref mpr, .ref mho, .ref mis, .int vsg, .ref mss, .ref msc, .ref msh, .int vpr, .int vfa])), (mic, .inl (cZ, 12, .inl Kic)), (mha, .inl (cI, 8, .inl Kha)), (mki, .inl (cI, 8, .inl Kki)), (mce, .inl (cI, 8, .inl Kce)), (mgo, .inl (cI, 8, .inl Kgo)), (mwa, .inl (cI, 8, .inl Kwa)), (mch, .inl (cI, 8, .inl Kch)), (mwi, .inl (cI, 1920, .inl Kwi))] U.heap ∧ va_K (dC, dI) vwCl [(cI, .int), (cZ, .boolean)] U ∧ NW U)) (va_Ql (fun (r : Int64) (_ : Unit) => True) (fun _ _ => True) (va_A [] sz)) 0 0 (va_A [] sz) := by
  refine Met.ofW (cc := cX6_digest) (maxL := 5) (ret := (some .long)) (by decide) rfl ?_
  intro p e s m args below meth c s₁ B hml hv
  obtain ⟨rfl, hsz, hP, hK, hN⟩ := hv
  have hx := B.exec
  have hb := B.bytes
  have hr := B.returns
  have hts := atoms_spec (ws := wsX6_digest) B.pre
  have hown : s.vm.findClass RX6 = some m.cls := findClass_of_methodNamed B.named
  have hlocks := B.notSynchronized
  subst hsz
  generalize hAe : va_A [] s.heap.size = A at ⊢
  have hA : ∀ q : Nat, s.heap.size ≤ q → A q := fun q h => by rw [← hAe]; exact Or.inr h
  have hS : va_S A s.heap s.heap [] := va_S.rf
  have hP : va_P (dC, dI) vwCl [(m0, .inr (7, [.int vfi, .ref mfi, .long vak, .int vhr, .ref mil, .ref mic, .ref mwi, .int vho, .int vga, .ref mmo, .int vns, .ref mki, .ref mce, .ref mgo, .ref mwa, .ref mha, .ref mch, .ref mfo, .ref mca, .ref mor, .ref mro, .ref mra, .ref mpr, .ref mho, .ref mis, .int vsg, .ref mss, .ref msc, .ref msh, .int vpr, .int vfa])), (mic, .inl (cZ, 12, .inl Kic)), (mha, .inl (cI, 8, .inl Kha)), (mki, .inl (cI, 8, .inl Kki)), (mce, .inl (cI, 8, .inl Kce)), (mgo, .inl (cI, 8, .inl Kgo)), (mwa, .inl (cI, 8, .inl Kwa)), (mch, .inl (cI, 8, .inl Kch)), (mwi, .inl (cI, 1920, .inl Kwi))] s.heap := hP
  have hl := lv_entry ([.ref m0]) (n := 5) (Nat.le_of_ble_eq_true rfl)
  rw [lg_entry_eq]
  generalize (lg_sl ([.ref m0]) ++ List.replicate (5 - (lg_sl ([.ref m0])).length) Slot.unset).toArray = ls at hl ⊢
  have hl : lv_has ls 5 [(0, .ref m0)] := hl
  refine lv_ldc2 (v := (17)) hx hb hown (hts (.constantLong RX6 191 (17)) (by decide +kernel)) dX6_digest_0 ?_
  refine lv_lstore_n (lv' := [(1, .long (17)), (0, .ref m0)]) hx hb dX6_digest_3 rfl hl (by decide) rfl (fun ls hl => ?_)
  refine lv_iconst (v := 0) hx hb dX6_digest_4 (by decide) ?_
  refine lv_istore_n (lv' := [(3, .int 0), (1, .long (17)), (0, .ref m0)]) hx hb dX6_digest_5 rfl hl (by decide) rfl (fun ls hl => ?_)
  have key6 : ∀ (n6 : Nat) (ha : Int64) (ik : Int32) (H : Heap) (locs : List Loc) (ls : Array Slot), (0 ≤ ik.toInt ∧ ik.toInt ≤ 5) → 5 - ik.toInt < (n6 : Int) → va_P (dC, dI) vwCl [(m0, .inr (7, [.int vfi, .ref mfi, .long vak, .int vhr, .ref mil, .ref mic, .ref mwi, .int vho, .int vga, .ref mmo, .int vns, .ref mki, .ref mce, .ref mgo, .ref mwa, .ref mha, .ref mch, .ref mfo, .ref mca, .ref mor, .ref mro, .ref mra, .ref mpr, .ref mho, .ref mis, .int vsg, .ref mss, .ref msc, .ref msh, .int vpr, .int vfa])), (mic, .inl (cZ, 12, .inl Kic)), (mha, .inl (cI, 8, .inl Kha)), (mki, .inl (cI, 8, .inl Kki)), (mce, .inl (cI, 8, .inl Kce)), (mgo, .inl (cI, 8, .inl Kgo)), (mwa, .inl (cI, 8, .inl Kwa)), (mch, .inl (cI, 8, .inl Kch)), (mwi, .inl (cI, 1920, .inl Kwi))] H → va_S A s.heap H locs → lv_has ls 5 [(3, .int ik), (1, .long ha), (0, .ref m0)] → W p l e ({ frames := 2, cells := 0, slots := 0, locals := 45 } : Room) s m ([.ref m0] : List Value).toArray below meth c H locs 0 0 (MQ below (va_Ql (fun (r : Int64) (_ : Unit) => True) (fun _ _ => True) A) ([.ref m0] : List Value).toArray s 0 0 A) (F0 m 6 ls []) := by
    intro n6
    induction n6 with
    | zero =>
      intro ha ik H locs ls i_ik hm6
      exact absurd hm6 (by omega)
    | succ n6 ih6 =>
      intro ha ik H locs ls i_ik hm6 hP hS hl
      refine lv_iload_n hx hb dX6_digest_6 rfl (lv_at hl 0 rfl) ?_
      refine lv_iconst (v := 4) hx hb dX6_digest_7 (by decide) ?_
      refine lv_icmp_gt (tgt := 30) hx hb dX6_digest_8 (by decide) (fun c_1 => ?_) (fun c_1 => ?_)
      · skip
        have qc_1 : 4 < ik.toInt := lt_k (by decide) rfl c_1
        refine lv_iconst (v := 0) hx hb dX6_digest_30 (by decide) ?_
        refine lv_istore_n (lv' := [(3, .int 0), (1, .long ha), (0, .ref m0)]) hx hb dX6_digest_31 rfl hl (by decide) rfl (fun ls hl => ?_)
        have key32 : ∀ (n32 : Nat) (hb_ : Int64) (is_ : Int32) (H : Heap) (locs : List Loc) (ls : Array Slot), (0 ≤ is_.toInt ∧ is_.toInt ≤ 8) → 8 - is_.toInt < (n32 : Int) → va_P (dC, dI) vwCl [(m0, .inr (7, [.int vfi, .ref mfi, .long vak, .int vhr, .ref mil, .ref mic, .ref mwi, .int vho, .int vga, .ref mmo, .int vns, .ref mki, .ref mce, .ref mgo, .ref mwa, .ref mha, .ref mch, .ref mfo, .ref mca, .ref mor, .ref mro, .ref mra, .ref mpr, .ref mho, .ref mis, .int vsg, .ref mss, .ref msc, .ref msh, .int vpr, .int vfa])), (mic, .inl (cZ, 12, .inl Kic)), (mha, .inl (cI, 8, .inl Kha)), (mki, .inl (cI, 8, .inl Kki)), (mce, .inl (cI, 8, .inl Kce)), (mgo, .inl (cI, 8, .inl Kgo)), (mwa, .inl (cI, 8, .inl Kwa)), (mch, .inl (cI, 8, .inl Kch)), (mwi, .inl (cI, 1920, .inl Kwi))] H → va_S A s.heap H locs → lv_has ls 5 [(3, .int is_), (1, .long hb_), (0, .ref m0)] → W p l e ({ frames := 2, cells := 0, slots := 0, locals := 45 } : Room) s m ([.ref m0] : List Value).toArray below meth c H locs 0 0 (MQ below (va_Ql (fun (r : Int64) (_ : Unit) => True) (fun _ _ => True) A) ([.ref m0] : List Value).toArray s 0 0 A) (F0 m 32 ls []) := by
          intro n32
          induction n32 with
          | zero =>
            intro hb_ is_ H locs ls i_is_ hm32
            exact absurd hm32 (by omega)
          | succ n32 ih32 =>
            intro hb_ is_ H locs ls i_is_ hm32 hP hS hl
            refine lv_iload_n hx hb dX6_digest_32 rfl (lv_at hl 0 rfl) ?_
            refine lv_aload_n hx hb dX6_digest_33 rfl (lv_at hl 2 rfl) ?_
            refine va_get (D := (dC, dI)) (ci := 7) (v := .int vns) (C := RX6) (T := TX6) (N := 31) hx hb hts iw_X6_digest_X6 hown hK hP 0 rfl rfl 10 (by decide) (hts (.fieldLink RX6 110 "TeaRaceModel" "ships" "I") (by decide +kernel)) (fun _ h9 => h9) rfl dX6_digest_34 ?_
            refine lv_icmp_ge (tgt := 77) hx hb dX6_digest_37 (by decide) (fun c_2 => ?_) (fun c_2 => ?_)
            · skip
              have qc_2 : vns.toInt ≤ is_.toInt := le_k rfl rfl c_2
              refine lv_iconst (v := 0) hx hb dX6_digest_77 (by decide) ?_
              refine lv_istore_n (lv' := [(3, .int 0), (1, .long hb_), (0, .ref m0)]) hx hb dX6_digest_78 rfl hl (by decide) rfl (fun ls hl => ?_)
              have key79 : ∀ (n79 : Nat) (hd : Int64) (im : Int32) (H : Heap) (locs : List Loc) (ls : Array Slot), (0 ≤ im.toInt ∧ im.toInt ≤ 12) → 12 - im.toInt < (n79 : Int) → va_P (dC, dI) vwCl [(m0, .inr (7, [.int vfi, .ref mfi, .long vak, .int vhr, .ref mil, .ref mic, .ref mwi, .int vho, .int vga, .ref mmo, .int vns, .ref mki, .ref mce, .ref mgo, .ref mwa, .ref mha, .ref mch, .ref mfo, .ref mca, .ref mor, .ref mro, .ref mra, .ref mpr, .ref mho, .ref mis, .int vsg, .ref mss, .ref msc, .ref msh, .int vpr, .int vfa])), (mic, .inl (cZ, 12, .inl Kic)), (mha, .inl (cI, 8, .inl Kha)), (mki, .inl (cI, 8, .inl Kki)), (mce, .inl (cI, 8, .inl Kce)), (mgo, .inl (cI, 8, .inl Kgo)), (mwa, .inl (cI, 8, .inl Kwa)), (mch, .inl (cI, 8, .inl Kch)), (mwi, .inl (cI, 1920, .inl Kwi))] H → va_S A s.heap H locs → lv_has ls 5 [(3, .int im), (1, .long hd), (0, .ref m0)] → W p l e ({ frames := 2, cells := 0, slots := 0, locals := 45 } : Room) s m ([.ref m0] : List Value).toArray below meth c H locs 0 0 (MQ below (va_Ql (fun (r : Int64) (_ : Unit) => True) (fun _ _ => True) A) ([.ref m0] : List Value).toArray s 0 0 A) (F0 m 79 ls []) := by
                intro n79
                induction n79 with
                | zero =>
                  intro hd im H locs ls i_im hm79
                  exact absurd hm79 (by omega)
                | succ n79 ih79 =>
                  intro hd im H locs ls i_im hm79 hP hS hl
                  refine lv_iload_n hx hb dX6_digest_79 rfl (lv_at hl 0 rfl) ?_
                  refine lv_bipush (v := 12) hx hb dX6_digest_80 (by decide) ?_
                  refine lv_icmp_ge (tgt := 155) hx hb dX6_digest_82 (by decide) (fun c_3 => ?_) (fun c_3 => ?_)
                  · skip
                    have qc_3 : 12 ≤ im.toInt := le_k (by decide) rfl c_3
                    refine lv_lload_n hx hb dX6_digest_155 rfl (lv_at hl 1 rfl) ?_
                    exact W.lret (v := hd) hx hb hr (fun t ht hW => ⟨⟨hd, (), rfl, trivial, trivial⟩, hS.F ht⟩) hS.2.2 dX6_digest_156
                  · skip
                    have qc_3 : im.toInt < 12 := nle_k (by decide) rfl c_3
                    refine lv_aload_n hx hb dX6_digest_85 rfl (lv_at hl 2 rfl) ?_
                    refine va_get (D := (dC, dI)) (ci := 7) (v := .ref mic) (C := RX6) (T := TX6) (N := 31) hx hb hts iw_X6_digest_X6 hown hK hP 0 rfl rfl 5 (by decide) (hts (.fieldLink RX6 17 "TeaRaceModel" "isChart" "[Z") (by decide +kernel)) (fun _ h9 => h9) rfl dX6_digest_86 ?_
                    refine lv_iload_n hx hb dX6_digest_89 rfl (lv_at hl 0 rfl) ?_
                    refine va_zald hx hb hK hP 1 1 rfl rfl (in_k rfl (by omega) (by omega)) dX6_digest_90 ?_
                    refine lv_topi (fun x_4 ex_4 => ?_)
                    have rx_4 := congrArg Int32.toInt ex_4
                    refine lv_if_ne (tgt := 102) hx hb dX6_digest_91 (by decide) (fun c_5 => ?_) (fun c_5 => ?_)
                    · skip
                      have qc_5 : x_4.toInt ≠ 0 := ne_k rfl (by decide) c_5
                      refine lv_iconst (v := 0) hx hb dX6_digest_102 (by decide) ?_
                      refine lv_istore (lv' := [(4, .int 0), (3, .int im), (1, .long hd), (0, .ref m0)]) hx hb dX6_digest_103 hl (by decide) rfl (fun ls hl => ?_)
                      have key105 : ∀ (n105 : Nat) (he : Int64) (ic : Int32) (H : Heap) (locs : List Loc) (ls : Array Slot), (0 ≤ ic.toInt ∧ ic.toInt ≤ 160) → 160 - ic.toInt < (n105 : Int) → va_P (dC, dI) vwCl [(m0, .inr (7, [.int vfi, .ref mfi, .long vak, .int vhr, .ref mil, .ref mic, .ref mwi, .int vho, .int vga, .ref mmo, .int vns, .ref mki, .ref mce, .ref mgo, .ref mwa, .ref mha, .ref mch, .ref mfo, .ref mca, .ref mor, .ref mro, .ref mra, .ref mpr, .ref mho, .ref mis, .int vsg, .ref mss, .ref msc, .ref msh, .int vpr, .int vfa])), (mic, .inl (cZ, 12, .inl Kic)), (mha, .inl (cI, 8, .inl Kha)), (mki, .inl (cI, 8, .inl Kki)), (mce, .inl (cI, 8, .inl Kce)), (mgo, .inl (cI, 8, .inl Kgo)), (mwa, .inl (cI, 8, .inl Kwa)), (mch, .inl (cI, 8, .inl Kch)), (mwi, .inl (cI, 1920, .inl Kwi))] H → va_S A s.heap H locs → lv_has ls 5 [(4, .int ic), (3, .int im), (1, .long he), (0, .ref m0)] → W p l e ({ frames := 2, cells := 0, slots := 0, locals := 45 } : Room) s m ([.ref m0] : List Value).toArray below meth c H locs 0 0 (MQ below (va_Ql (fun (r : Int64) (_ : Unit) => True) (fun _ _ => True) A) ([.ref m0] : List Value).toArray s 0 0 A) (F0 m 105 ls []) := by
                        intro n105
                        induction n105 with
                        | zero =>
                          intro he ic H locs ls i_ic hm105
                          exact absurd hm105 (by omega)
                        | succ n105 ih105 =>
                          intro he ic H locs ls i_ic hm105 hP hS hl
                          refine lv_iload hx hb dX6_digest_105 (lv_at hl 0 rfl) ?_
                          refine lv_sipush (v := 160) hx hb dX6_digest_107 (by decide) ?_
                          refine lv_icmp_ge (tgt := 149) hx hb dX6_digest_110 (by decide) (fun c_6 => ?_) (fun c_6 => ?_)
                          · skip
                            have qc_6 : 160 ≤ ic.toInt := le_k (by decide) rfl c_6
                            obtain ⟨x_7, ex_7⟩ : ∃ y : Int32, y = im + 1 := ⟨_, rfl⟩
                            have tx_7 : x_7.toInt = im.toInt + 1 := ad_k ex_7 rfl (by decide) (by omega) (by omega)
                            refine lv_iinc (v := x_7) (lv' := [(3, .int x_7), (4, .int ic), (1, .long he), (0, .ref m0)]) hx hb dX6_digest_149 hl (k := 1) rfl (by rw [ex_7]; rfl) (by decide) rfl (fun ls hl => ?_)
                            refine lv_goto (tgt := 79) hx hb dX6_digest_152 (by decide) ?_
                            exact ih79 he x_7  H locs ls ⟨(by first | omega | (simp only [Int32.reduceToInt]; omega)), (by first | omega | (simp only [Int32.reduceToInt]; omega))⟩ (by first | omega | (simp only [Int32.reduceToInt]; omega)) hP hS (lv_sub hl [0, 2, 3] rfl)
                          · skip
                            have qc_6 : ic.toInt < 160 := nle_k (by decide) rfl c_6
                            refine lv_aload_n hx hb dX6_digest_113 rfl (lv_at hl 3 rfl) ?_
                            refine va_get (D := (dC, dI)) (ci := 7) (v := .ref mic) (C := RX6) (T := TX6) (N := 31) hx hb hts iw_X6_digest_X6 hown hK hP 0 rfl rfl 5 (by decide) (hts (.fieldLink RX6 17 "TeaRaceModel" "isChart" "[Z") (by decide +kernel)) (fun _ h9 => h9) rfl dX6_digest_114 ?_
                            refine lv_iload_n hx hb dX6_digest_117 rfl (lv_at hl 1 rfl) ?_
                            refine va_zald hx hb hK hP 1 1 rfl rfl (in_k rfl (by omega) (by omega)) dX6_digest_118 ?_
                            refine lv_topi (fun x_8 ex_8 => ?_)
                            have rx_8 := congrArg Int32.toInt ex_8
                            obtain rfl : x_4 = x_8 := ex_4.trans ex_8.symm
                            refine lv_if_eq (tgt := 149) hx hb dX6_digest_119 (by decide) (fun c_9 => ?_) (fun c_9 => ?_)
                            · skip
                              have qc_9 : x_4.toInt = 0 := eq_k rfl (by decide) c_9
                              obtain ⟨x_10, ex_10⟩ : ∃ y : Int32, y = im + 1 := ⟨_, rfl⟩
                              have tx_10 : x_10.toInt = im.toInt + 1 := ad_k ex_10 rfl (by decide) (by omega) (by omega)
                              refine lv_iinc (v := x_10) (lv' := [(3, .int x_10), (4, .int ic), (1, .long he), (0, .ref m0)]) hx hb dX6_digest_149 hl (k := 1) rfl (by rw [ex_10]; rfl) (by decide) rfl (fun ls hl => ?_)
                              refine lv_goto (tgt := 79) hx hb dX6_digest_152 (by decide) ?_
                              exact ih79 he x_10  H locs ls ⟨(by first | omega | (simp only [Int32.reduceToInt]; omega)), (by first | omega | (simp only [Int32.reduceToInt]; omega))⟩ (by first | omega | (simp only [Int32.reduceToInt]; omega)) hP hS (lv_sub hl [0, 2, 3] rfl)
                            · skip
                              have qc_9 : x_4.toInt ≠ 0 := ne_k rfl (by decide) c_9
                              refine lv_ldc2 (v := (31)) hx hb hown (hts (.constantLong RX6 193 (31)) (by decide +kernel)) dX6_digest_122 ?_
                              refine lv_lload_n hx hb dX6_digest_125 rfl (lv_at hl 2 rfl) ?_
                              refine lv_lmul hx hb dX6_digest_126 ?_
                              refine lv_topl (fun w_11 ew_11 => ?_)
                              refine lv_aload_n hx hb dX6_digest_127 rfl (lv_at hl 3 rfl) ?_
                              refine va_get (D := (dC, dI)) (ci := 7) (v := .ref mwi) (C := RX6) (T := TX6) (N := 31) hx hb hts iw_X6_digest_X6 hown hK hP 0 rfl rfl 6 (by decide) (hts (.fieldLink RX6 20 "TeaRaceModel" "winds" "[I") (by decide +kernel)) (fun _ h9 => h9) rfl dX6_digest_128 ?_
                              refine lv_sipush (v := 160) hx hb dX6_digest_131 (by decide) ?_
                              refine lv_iload_n hx hb dX6_digest_134 rfl (lv_at hl 1 rfl) ?_
                              refine lv_imul hx hb dX6_digest_135 ?_
                              refine lv_topi (fun x_12 ex_12 => ?_)
                              have tx_12 : x_12.toInt = 160 * im.toInt := mu_k ex_12 (by decide) rfl (by omega) (by omega)
                              refine lv_iload hx hb dX6_digest_136 (lv_at hl 0 rfl) ?_
                              refine lv_iadd hx hb dX6_digest_138 ?_
                              refine lv_topi (fun x_13 ex_13 => ?_)
                              have tx_13 : x_13.toInt = x_12.toInt + ic.toInt := ad_k ex_13 rfl rfl (by omega) (by omega)
                              refine va_iald hx hb hK hP 8 0 rfl rfl (in_k rfl (by omega) (by omega)) dX6_digest_139 ?_
                              refine lv_topi (fun x_14 ex_14 => ?_)
                              have rx_14 := congrArg Int32.toInt ex_14
                              have gx_14 : (-128) ≤ x_14.toInt ∧ x_14.toInt ≤ 127 := Rg.at R_Kwi rfl (by omega) (by omega) ex_14
                              refine lv_i2l (v := x_14.toInt64) hx hb dX6_digest_140 rfl ?_
                              refine lv_ladd hx hb dX6_digest_141 ?_
                              refine lv_topl (fun w_15 ew_15 => ?_)
                              refine lv_lstore_n (lv' := [(1, .long w_15), (4, .int ic), (3, .int im), (0, .ref m0)]) hx hb dX6_digest_142 rfl hl (by decide) rfl (fun ls hl => ?_)
                              obtain ⟨x_16, ex_16⟩ : ∃ y : Int32, y = ic + 1 := ⟨_, rfl⟩
                              have tx_16 : x_16.toInt = ic.toInt + 1 := ad_k ex_16 rfl (by decide) (by omega) (by omega)
                              refine lv_iinc (v := x_16) (lv' := [(4, .int x_16), (1, .long w_15), (3, .int im), (0, .ref m0)]) hx hb dX6_digest_143 hl (k := 1) rfl (by rw [ex_16]; rfl) (by decide) rfl (fun ls hl => ?_)
                              refine lv_goto (tgt := 105) hx hb dX6_digest_146 (by decide) ?_
                              exact ih105 w_15 x_16  H locs ls ⟨(by first | omega | (simp only [Int32.reduceToInt]; omega)), (by first | omega | (simp only [Int32.reduceToInt]; omega))⟩ (by first | omega | (simp only [Int32.reduceToInt]; omega)) hP hS (lv_sub hl [0, 2, 1, 3] rfl)
                      exact key105 161 hd 0  _ _ ls (by decide) (by (try simp only [Int32.reduceToInt]); omega) hP hS hl
                    · skip
                      have qc_5 : x_4.toInt = 0 := eq_k rfl (by decide) c_5
                      refine lv_ldc2 (v := (31)) hx hb hown (hts (.constantLong RX6 193 (31)) (by decide +kernel)) dX6_digest_94 ?_
                      refine lv_lload_n hx hb dX6_digest_97 rfl (lv_at hl 1 rfl) ?_
                      refine lv_lmul hx hb dX6_digest_98 ?_
                      refine lv_topl (fun w_17 ew_17 => ?_)
                      refine lv_lconst (v := 1) hx hb dX6_digest_99 (by decide) ?_
                      refine lv_lsub hx hb dX6_digest_100 ?_
                      refine lv_topl (fun w_18 ew_18 => ?_)
                      refine lv_lstore_n (lv' := [(1, .long w_18), (3, .int im), (0, .ref m0)]) hx hb dX6_digest_101 rfl hl (by decide) rfl (fun ls hl => ?_)
                      refine lv_iconst (v := 0) hx hb dX6_digest_102 (by decide) ?_
                      refine lv_istore (lv' := [(4, .int 0), (1, .long w_18), (3, .int im), (0, .ref m0)]) hx hb dX6_digest_103 hl (by decide) rfl (fun ls hl => ?_)
                      have key105 : ∀ (n105 : Nat) (he : Int64) (ic : Int32) (H : Heap) (locs : List Loc) (ls : Array Slot), (0 ≤ ic.toInt ∧ ic.toInt ≤ 160) → 160 - ic.toInt < (n105 : Int) → va_P (dC, dI) vwCl [(m0, .inr (7, [.int vfi, .ref mfi, .long vak, .int vhr, .ref mil, .ref mic, .ref mwi, .int vho, .int vga, .ref mmo, .int vns, .ref mki, .ref mce, .ref mgo, .ref mwa, .ref mha, .ref mch, .ref mfo, .ref mca, .ref mor, .ref mro, .ref mra, .ref mpr, .ref mho, .ref mis, .int vsg, .ref mss, .ref msc, .ref msh, .int vpr, .int vfa])), (mic, .inl (cZ, 12, .inl Kic)), (mha, .inl (cI, 8, .inl Kha)), (mki, .inl (cI, 8, .inl Kki)), (mce, .inl (cI, 8, .inl Kce)), (mgo, .inl (cI, 8, .inl Kgo)), (mwa, .inl (cI, 8, .inl Kwa)), (mch, .inl (cI, 8, .inl Kch)), (mwi, .inl (cI, 1920, .inl Kwi))] H → va_S A s.heap H locs → lv_has ls 5 [(4, .int ic), (1, .long he), (3, .int im), (0, .ref m0)] → W p l e ({ frames := 2, cells := 0, slots := 0, locals := 45 } : Room) s m ([.ref m0] : List Value).toArray below meth c H locs 0 0 (MQ below (va_Ql (fun (r : Int64) (_ : Unit) => True) (fun _ _ => True) A) ([.ref m0] : List Value).toArray s 0 0 A) (F0 m 105 ls []) := by
                        intro n105
                        induction n105 with
                        | zero =>
                          intro he ic H locs ls i_ic hm105
                          exact absurd hm105 (by omega)
                        | succ n105 ih105 =>
                          intro he ic H locs ls i_ic hm105 hP hS hl
                          refine lv_iload hx hb dX6_digest_105 (lv_at hl 0 rfl) ?_
                          refine lv_sipush (v := 160) hx hb dX6_digest_107 (by decide) ?_
                          refine lv_icmp_ge (tgt := 149) hx hb dX6_digest_110 (by decide) (fun c_19 => ?_) (fun c_19 => ?_)
                          · skip
                            have qc_19 : 160 ≤ ic.toInt := le_k (by decide) rfl c_19
                            obtain ⟨x_20, ex_20⟩ : ∃ y : Int32, y = im + 1 := ⟨_, rfl⟩
                            have tx_20 : x_20.toInt = im.toInt + 1 := ad_k ex_20 rfl (by decide) (by omega) (by omega)
                            refine lv_iinc (v := x_20) (lv' := [(3, .int x_20), (4, .int ic), (1, .long he), (0, .ref m0)]) hx hb dX6_digest_149 hl (k := 2) rfl (by rw [ex_20]; rfl) (by decide) rfl (fun ls hl => ?_)
                            refine lv_goto (tgt := 79) hx hb dX6_digest_152 (by decide) ?_
                            exact ih79 he x_20  H locs ls ⟨(by first | omega | (simp only [Int32.reduceToInt]; omega)), (by first | omega | (simp only [Int32.reduceToInt]; omega))⟩ (by first | omega | (simp only [Int32.reduceToInt]; omega)) hP hS (lv_sub hl [0, 2, 3] rfl)
                          · skip
                            have qc_19 : ic.toInt < 160 := nle_k (by decide) rfl c_19
                            refine lv_aload_n hx hb dX6_digest_113 rfl (lv_at hl 3 rfl) ?_
                            refine va_get (D := (dC, dI)) (ci := 7) (v := .ref mic) (C := RX6) (T := TX6) (N := 31) hx hb hts iw_X6_digest_X6 hown hK hP 0 rfl rfl 5 (by decide) (hts (.fieldLink RX6 17 "TeaRaceModel" "isChart" "[Z") (by decide +kernel)) (fun _ h9 => h9) rfl dX6_digest_114 ?_
                            refine lv_iload_n hx hb dX6_digest_117 rfl (lv_at hl 2 rfl) ?_
                            refine va_zald hx hb hK hP 1 1 rfl rfl (in_k rfl (by omega) (by omega)) dX6_digest_118 ?_
                            refine lv_topi (fun x_21 ex_21 => ?_)
                            have rx_21 := congrArg Int32.toInt ex_21
                            obtain rfl : x_4 = x_21 := ex_4.trans ex_21.symm
                            refine lv_if_eq (tgt := 149) hx hb dX6_digest_119 (by decide) (fun c_22 => ?_) (fun c_22 => ?_)
                            · skip
                              have qc_22 : x_4.toInt = 0 := eq_k rfl (by decide) c_22
                              obtain ⟨x_23, ex_23⟩ : ∃ y : Int32, y = im + 1 := ⟨_, rfl⟩
                              have tx_23 : x_23.toInt = im.toInt + 1 := ad_k ex_23 rfl (by decide) (by omega) (by omega)
                              refine lv_iinc (v := x_23) (lv' := [(3, .int x_23), (4, .int ic), (1, .long he), (0, .ref m0)]) hx hb dX6_digest_149 hl (k := 2) rfl (by rw [ex_23]; rfl) (by decide) rfl (fun ls hl => ?_)
                              refine lv_goto (tgt := 79) hx hb dX6_digest_152 (by decide) ?_
                              exact ih79 he x_23  H locs ls ⟨(by first | omega | (simp only [Int32.reduceToInt]; omega)), (by first | omega | (simp only [Int32.reduceToInt]; omega))⟩ (by first | omega | (simp only [Int32.reduceToInt]; omega)) hP hS (lv_sub hl [0, 2, 3] rfl)
                            · skip
                              have qc_22 : x_4.toInt ≠ 0 := ne_k rfl (by decide) c_22
                              exfalso
                              omega
                      exact key105 161 w_18 0  _ _ ls (by decide) (by (try simp only [Int32.reduceToInt]); omega) hP hS hl
              exact key79 13 hb_ 0  _ _ ls (by decide) (by (try simp only [Int32.reduceToInt]); omega) hP hS hl
            · skip
              have qc_2 : is_.toInt < vns.toInt := nle_k rfl rfl c_2
              refine lv_iconst (v := 0) hx hb dX6_digest_40 (by decide) ?_
              refine lv_istore (lv' := [(4, .int 0), (3, .int is_), (1, .long hb_), (0, .ref m0)]) hx hb dX6_digest_41 hl (by decide) rfl (fun ls hl => ?_)
              have key43 : ∀ (n43 : Nat) (hc : Int64) (iw : Int32) (H : Heap) (locs : List Loc) (ls : Array Slot), (0 ≤ iw.toInt ∧ iw.toInt ≤ 7) → 7 - iw.toInt < (n43 : Int) → va_P (dC, dI) vwCl [(m0, .inr (7, [.int vfi, .ref mfi, .long vak, .int vhr, .ref mil, .ref mic, .ref mwi, .int vho, .int vga, .ref mmo, .int vns, .ref mki, .ref mce, .ref mgo, .ref mwa, .ref mha, .ref mch, .ref mfo, .ref mca, .ref mor, .ref mro, .ref mra, .ref mpr, .ref mho, .ref mis, .int vsg, .ref mss, .ref msc, .ref msh, .int vpr, .int vfa])), (mic, .inl (cZ, 12, .inl Kic)), (mha, .inl (cI, 8, .inl Kha)), (mki, .inl (cI, 8, .inl Kki)), (mce, .inl (cI, 8, .inl Kce)), (mgo, .inl (cI, 8, .inl Kgo)), (mwa, .inl (cI, 8, .inl Kwa)), (mch, .inl (cI, 8, .inl Kch)), (mwi, .inl (cI, 1920, .inl Kwi))] H → va_S A s.heap H locs → lv_has ls 5 [(4, .int iw), (3, .int is_), (1, .long hc), (0, .ref m0)] → W p l e ({ frames := 2, cells := 0, slots := 0, locals := 45 } : Room) s m ([.ref m0] : List Value).toArray below meth c H locs 0 0 (MQ below (va_Ql (fun (r : Int64) (_ : Unit) => True) (fun _ _ => True) A) ([.ref m0] : List Value).toArray s 0 0 A) (F0 m 43 ls []) := by
                intro n43
                induction n43 with
                | zero =>
                  intro hc iw H locs ls i_iw hm43
                  exact absurd hm43 (by omega)
                | succ n43 ih43 =>
                  intro hc iw H locs ls i_iw hm43 hP hS hl
                  refine lv_iload hx hb dX6_digest_43 (lv_at hl 0 rfl) ?_
                  refine lv_bipush (v := 6) hx hb dX6_digest_45 (by decide) ?_
                  refine lv_icmp_gt (tgt := 71) hx hb dX6_digest_47 (by decide) (fun c_24 => ?_) (fun c_24 => ?_)
                  · skip
                    have qc_24 : 6 < iw.toInt := lt_k (by decide) rfl c_24
                    obtain ⟨x_25, ex_25⟩ : ∃ y : Int32, y = is_ + 1 := ⟨_, rfl⟩
                    have tx_25 : x_25.toInt = is_.toInt + 1 := ad_k ex_25 rfl (by decide) (by omega) (by omega)
                    refine lv_iinc (v := x_25) (lv' := [(3, .int x_25), (4, .int iw), (1, .long hc), (0, .ref m0)]) hx hb dX6_digest_71 hl (k := 1) rfl (by rw [ex_25]; rfl) (by decide) rfl (fun ls hl => ?_)
                    refine lv_goto (tgt := 32) hx hb dX6_digest_74 (by decide) ?_
                    exact ih32 hc x_25  H locs ls ⟨(by first | omega | (simp only [Int32.reduceToInt]; omega)), (by first | omega | (simp only [Int32.reduceToInt]; omega))⟩ (by first | omega | (simp only [Int32.reduceToInt]; omega)) hP hS (lv_sub hl [0, 2, 3] rfl)
                  · skip
                    have qc_24 : iw.toInt ≤ 6 := nlt_k (by decide) rfl c_24
                    refine lv_ldc2 (v := (31)) hx hb hown (hts (.constantLong RX6 193 (31)) (by decide +kernel)) dX6_digest_50 ?_
                    refine lv_lload_n hx hb dX6_digest_53 rfl (lv_at hl 2 rfl) ?_
                    refine lv_lmul hx hb dX6_digest_54 ?_
                    refine lv_topl (fun w_26 ew_26 => ?_)
                    refine lv_aload_n hx hb dX6_digest_55 rfl (lv_at hl 3 rfl) ?_
                    refine lv_iload_n hx hb dX6_digest_56 rfl (lv_at hl 1 rfl) ?_
                    refine lv_iload hx hb dX6_digest_57 (lv_at hl 0 rfl) ?_
                    have hPc := hP.sub (ws' := [(m0, .inr (7, [.int vfi, .ref mfi, .long vak, .int vhr, .ref mil, .ref mic, .ref mwi, .int vho, .int vga, .ref mmo, .int vns, .ref mki, .ref mce, .ref mgo, .ref mwa, .ref mha, .ref mch, .ref mfo, .ref mca, .ref mor, .ref mro, .ref mra, .ref mpr, .ref mho, .ref mis, .int vsg, .ref mss, .ref msc, .ref msh, .int vpr, .int vfa])), (mha, .inl (cI, 8, .inl Kha)), (mki, .inl (cI, 8, .inl Kki)), (mce, .inl (cI, 8, .inl Kce)), (mgo, .inl (cI, 8, .inl Kgo)), (mwa, .inl (cI, 8, .inl Kwa)), (mch, .inl (cI, 8, .inl Kch))]) [0, 2, 3, 4, 5, 6, 7] rfl
                    have hKc := hK.sub (tys' := [(cI, .int)]) [0] rfl
                    refine va_calli (va_runV (As := [.int is_, .int iw]) (rest := [.long w_26]) ⟨hx, hb, hml, hown, hts⟩ (c_X6_tells l dC dI H.size m0 mfi mil mic mwi mmo mki mce mgo mwa mha mch mfo mca mor mro mra mpr mho mis mss msc msh vfi vhr vho vga vns vsg vpr vfa vak Kha Kki Kce Kgo Kwa Kch cI is_ iw ⟨(by omega), (by omega)⟩ ⟨(by omega), (by omega)⟩ R_Kha R_Kki R_Kce R_Kgo R_Kwa R_Kch) (cwV 2 hts gX6_digest_X6_tells rfl rfl rfl (by decide +kernel) ⟨Nat.le_of_ble_eq_true rfl, Nat.le_of_ble_eq_true rfl⟩) ⟨fun a U g mk q => by obtain ⟨q0, q1, qP, qK, qN⟩ := q; exact ⟨q0, q1, qP, va_K.moved (u := U) (U := U.calling g mk a) (Vm.Alike.refl U.vm) qK, NW.same (u := U) (U := U.calling g mk a) rfl qN⟩, va_recv hKc hPc (ci := 7) (q0 := 0) rfl rfl, fun U hU hW => ⟨rfl, by rw [hU], by rw [hU]; exact hPc, va_K.moved hW.alike hKc, NW.warm hW hN⟩⟩ rfl rfl hl.1 rfl (lv_room (Nat.le_of_ble_eq_true rfl)) dX6_digest_59 ⟨(Nat.zero_le _), (Nat.zero_le _)⟩) hS (fun q _ h => ro_A hS hA q h) (ro_A hS hA) (fun r_27 u t H1 locs ht hvm k_28 hB hz1 hk1 hS => ?_)
                    have hP := ro_P hk1 hP
                    generalize H1 = H at hP hS ⊢
                    try dsimp only at k_28
                    refine lv_i2l (v := r_27.toInt64) hx hb dX6_digest_62 rfl ?_
                    refine lv_ladd hx hb dX6_digest_63 ?_
                    refine lv_topl (fun w_29 ew_29 => ?_)
                    refine lv_lstore_n (lv' := [(1, .long w_29), (4, .int iw), (3, .int is_), (0, .ref m0)]) hx hb dX6_digest_64 rfl hl (by decide) rfl (fun ls hl => ?_)
                    obtain ⟨x_30, ex_30⟩ : ∃ y : Int32, y = iw + 1 := ⟨_, rfl⟩
                    have tx_30 : x_30.toInt = iw.toInt + 1 := ad_k ex_30 rfl (by decide) (by omega) (by omega)
                    refine lv_iinc (v := x_30) (lv' := [(4, .int x_30), (1, .long w_29), (3, .int is_), (0, .ref m0)]) hx hb dX6_digest_65 hl (k := 1) rfl (by rw [ex_30]; rfl) (by decide) rfl (fun ls hl => ?_)
                    refine lv_goto (tgt := 43) hx hb dX6_digest_68 (by decide) ?_
                    exact ih43 w_29 x_30  H locs ls ⟨(by first | omega | (simp only [Int32.reduceToInt]; omega)), (by first | omega | (simp only [Int32.reduceToInt]; omega))⟩ (by first | omega | (simp only [Int32.reduceToInt]; omega)) hP hS (lv_sub hl [0, 2, 1, 3] rfl)
              exact key43 8 hb_ 0  _ _ ls (by decide) (by (try simp only [Int32.reduceToInt]); omega) hP hS hl
        exact key32 9 ha 0  _ _ ls (by decide) (by (try simp only [Int32.reduceToInt]); omega) hP hS hl
      · skip
        have qc_1 : ik.toInt ≤ 4 := nlt_k (by decide) rfl c_1
        refine lv_ldc2 (v := (31)) hx hb hown (hts (.constantLong RX6 193 (31)) (by decide +kernel)) dX6_digest_11 ?_
        refine lv_lload_n hx hb dX6_digest_14 rfl (lv_at hl 1 rfl) ?_
        refine lv_lmul hx hb dX6_digest_15 ?_
        refine lv_topl (fun w_31 ew_31 => ?_)
        refine lv_aload_n hx hb dX6_digest_16 rfl (lv_at hl 2 rfl) ?_
        refine lv_iload_n hx hb dX6_digest_17 rfl (lv_at hl 0 rfl) ?_
        have hPc := hP.sub (ws' := [(m0, .inr (7, [.int vfi, .ref mfi, .long vak, .int vhr, .ref mil, .ref mic, .ref mwi, .int vho, .int vga, .ref mmo, .int vns, .ref mki, .ref mce, .ref mgo, .ref mwa, .ref mha, .ref mch, .ref mfo, .ref mca, .ref mor, .ref mro, .ref mra, .ref mpr, .ref mho, .ref mis, .int vsg, .ref mss, .ref msc, .ref msh, .int vpr, .int vfa])), (mic, .inl (cZ, 12, .inl Kic)), (mha, .inl (cI, 8, .inl Kha))]) [0, 1, 2] rfl
        have hKc := hK.sub (tys' := [(cI, .int), (cZ, .boolean)]) [0, 1] rfl
        refine va_calli (va_runV (As := [.int ik]) (rest := [.long w_31]) ⟨hx, hb, hml, hown, hts⟩ (c_X6_tellsCount l dC dI H.size m0 mfi mil mic mwi mmo mki mce mgo mwa mha mch mfo mca mor mro mra mpr mho mis mss msc msh vfi vhr vho vga vns vsg vpr vfa vak Kic Kha cI cZ ik ⟨(by omega), (by omega)⟩ ⟨(by omega), (by omega)⟩ ⟨(by omega), (by omega)⟩ R_Kha) (cwV 1 hts gX6_digest_X6_tellsCount rfl rfl rfl (by decide +kernel) ⟨Nat.le_of_ble_eq_true rfl, Nat.le_of_ble_eq_true rfl⟩) ⟨fun a U g mk q => by obtain ⟨q0, q1, qP, qK, qN⟩ := q; exact ⟨q0, q1, qP, va_K.moved (u := U) (U := U.calling g mk a) (Vm.Alike.refl U.vm) qK, NW.same (u := U) (U := U.calling g mk a) rfl qN⟩, va_recv hKc hPc (ci := 7) (q0 := 0) rfl rfl, fun U hU hW => ⟨rfl, by rw [hU], by rw [hU]; exact hPc, va_K.moved hW.alike hKc, NW.warm hW hN⟩⟩ rfl rfl hl.1 rfl (lv_room (Nat.le_of_ble_eq_true rfl)) dX6_digest_18 ⟨(Nat.zero_le _), (Nat.zero_le _)⟩) hS (fun q _ h => ro_A hS hA q h) (ro_A hS hA) (fun r_32 u t H1 locs ht hvm k_33 hB hz1 hk1 hS => ?_)
        have hP := ro_P hk1 hP
        generalize H1 = H at hP hS ⊢
        try dsimp only at k_33
        refine lv_i2l (v := r_32.toInt64) hx hb dX6_digest_21 rfl ?_
        refine lv_ladd hx hb dX6_digest_22 ?_
        refine lv_topl (fun w_34 ew_34 => ?_)
        refine lv_lstore_n (lv' := [(1, .long w_34), (3, .int ik), (0, .ref m0)]) hx hb dX6_digest_23 rfl hl (by decide) rfl (fun ls hl => ?_)
        obtain ⟨x_35, ex_35⟩ : ∃ y : Int32, y = ik + 1 := ⟨_, rfl⟩
        have tx_35 : x_35.toInt = ik.toInt + 1 := ad_k ex_35 rfl (by decide) (by omega) (by omega)
        refine lv_iinc (v := x_35) (lv' := [(3, .int x_35), (1, .long w_34), (0, .ref m0)]) hx hb dX6_digest_24 hl (k := 1) rfl (by rw [ex_35]; rfl) (by decide) rfl (fun ls hl => ?_)
        refine lv_goto (tgt := 6) hx hb dX6_digest_27 (by decide) ?_
        exact ih6 w_34 x_35  H locs ls ⟨(by first | omega | (simp only [Int32.reduceToInt]; omega)), (by first | omega | (simp only [Int32.reduceToInt]; omega))⟩ (by first | omega | (simp only [Int32.reduceToInt]; omega)) hP hS (lv_sub hl [0, 1, 2] rfl)
  exact key6 6 (17) 0  _ _ ls (by decide) (by (try simp only [Int32.reduceToInt]); omega) hP hS hl
