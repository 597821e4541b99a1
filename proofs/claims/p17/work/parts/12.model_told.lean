set_option maxRecDepth 20000 in
theorem iw_X6_entryOf_X6 : ∀ w ∈ wsX60, w ∈ wsX6_entryOf := fun w h => (List.mem_cons_of_mem _ (List.mem_append_right _ h))
set_option maxHeartbeats 4000000 in
set_option maxRecDepth 100000 in
/-- reference: entryOf -/
theorem c_X6_entryOf (l : Launch) (dC : Nat → ClassId) (dI : Nat → Nat → Nat) (sz : Nat) (m0 : Nat) (mfi : Nat) (mil : Nat) (mic : Nat) (mwi : Nat) (mmo : Nat) (mki : Nat) (mce : Nat) (mgo : Nat) (mwa : Nat) (mha : Nat) (mch : Nat) (mfo : Nat) (mca : Nat) (mor : Nat) (mro : Nat) (mra : Nat) (mpr : Nat) (mho : Nat) (mis : Nat) (mss : Nat) (msc : Nat) (msh : Nat) (vfi : Int32) (vhr : Int32) (vho : Int32) (vga : Int32) (vns : Int32) (vsg : Int32) (vpr : Int32) (vfa : Int32) (vak : Int64) (Kha : Nat → Int32) (cI : ClassId) (a0 : Int32) (i_a0 : 0 ≤ a0.toInt ∧ a0.toInt ≤ 7) (i_vga : 0 ≤ vga.toInt ∧ vga.toInt ≤ 23) (R_Kha : Rn 8 0 100000 Kha) : Met l yX6_entryOf wsX6_entryOf ({ frames := 0, cells := 0, slots := 0, locals := 0 }) (va_Pc [.ref m0, .int a0] (fun U => U.heap.size = sz ∧ va_P (dC, dI) vwCl [(m0, .inr (7, [.int vfi, .ref mfi, .long vak, .int vhr, .ref mil, .ref mic, .ref mwi, .int vho, .int vga, .ref mmo, .int vns, .ref mki, .ref mce, .ref mgo, .ref mwa, .ref mha, .ref mch, .ref mfo, .ref mca, .ref mor, .ref mro, .ref mra, .ref mpr, .ref mho, .ref mis, .int vsg, .ref mss, .ref msc, .ref msh, .int vpr, .int vfa])), (mha, .inl (cI, 8, .inl Kha))] U.heap ∧ va_K (dC, dI) vwCl [(cI, .int)] U ∧ NW U)) (va_Qi (fun (r : Int32) (_ : Unit) => (r.toInt = entM Kha vga.toInt a0.toNatClampNeg) ∧ ((-9) ≤ r.toInt ∧ r.toInt ≤ 100023)) (fun _ _ => True) (va_A [] sz)) 0 0 (va_A [] sz) := by
  refine Met.ofW (cc := cX6_entryOf) (maxL := 3) (ret := (some .int)) (by decide) rfl ?_
  intro p e s m args below meth c s₁ B hml hv
  obtain ⟨rfl, hsz, hP, hK, hN⟩ := hv
  have hx := B.exec
  have hb := B.bytes
  have hr := B.returns
  have hts := atoms_spec (ws := wsX6_entryOf) B.pre
  have hown : s.vm.findClass RX6 = some m.cls := findClass_of_methodNamed B.named
  have hlocks := B.notSynchronized
  subst hsz
  generalize hAe : va_A [] s.heap.size = A at ⊢
  have hA : ∀ q : Nat, s.heap.size ≤ q → A q := fun q h => by rw [← hAe]; exact Or.inr h
  have hS : va_S A s.heap s.heap [] := va_S.rf
  have hP : va_P (dC, dI) vwCl [(m0, .inr (7, [.int vfi, .ref mfi, .long vak, .int vhr, .ref mil, .ref mic, .ref mwi, .int vho, .int vga, .ref mmo, .int vns, .ref mki, .ref mce, .ref mgo, .ref mwa, .ref mha, .ref mch, .ref mfo, .ref mca, .ref mor, .ref mro, .ref mra, .ref mpr, .ref mho, .ref mis, .int vsg, .ref mss, .ref msc, .ref msh, .int vpr, .int vfa])), (mha, .inl (cI, 8, .inl Kha))] s.heap := hP
  have hl := lv_entry ([.ref m0, .int a0]) (n := 3) (Nat.le_of_ble_eq_true rfl)
  rw [lg_entry_eq]
  generalize (lg_sl ([.ref m0, .int a0]) ++ List.replicate (3 - (lg_sl ([.ref m0, .int a0])).length) Slot.unset).toArray = ls at hl ⊢
  have hl : lv_has ls 3 [(0, .ref m0), (1, .int a0)] := hl
  refine lv_aload_n hx hb dX6_entryOf_0 rfl (lv_at hl 0 rfl) ?_
  refine va_get (D := (dC, dI)) (ci := 7) (v := .ref mha) (C := RX6) (T := TX6) (N := 31) hx hb hts iw_X6_entryOf_X6 hown hK hP 0 rfl rfl 15 (by decide) (hts (.fieldLink RX6 38 "TeaRaceModel" "homeAt" "[I") (by decide +kernel)) (fun _ h9 => h9) rfl dX6_entryOf_1 ?_
  refine lv_iload_n hx hb dX6_entryOf_4 rfl (lv_at hl 1 rfl) ?_
  refine va_iald hx hb hK hP 1 0 rfl rfl (in_k rfl (by omega) (by omega)) dX6_entryOf_5 ?_
  refine lv_topi (fun x_1 ex_1 => ?_)
  have rx_1 := congrArg Int32.toInt ex_1
  have gx_1 : x_1.toInt = -9 ∨ (0 ≤ x_1.toInt ∧ x_1.toInt ≤ 100000) := Rn.at R_Kha rfl (by omega) (by omega) ex_1
  refine lv_bipush (v := (-9)) hx hb dX6_entryOf_6 (by decide) ?_
  refine lv_icmp_ne (tgt := 14) hx hb dX6_entryOf_8 (by decide) (fun c_2 => ?_) (fun c_2 => ?_)
  · skip
    have qc_2 : x_1.toInt ≠ (-9) := ne_k rfl (by decide) c_2
    refine lv_aload_n hx hb dX6_entryOf_14 rfl (lv_at hl 0 rfl) ?_
    refine va_get (D := (dC, dI)) (ci := 7) (v := .ref mha) (C := RX6) (T := TX6) (N := 31) hx hb hts iw_X6_entryOf_X6 hown hK hP 0 rfl rfl 15 (by decide) (hts (.fieldLink RX6 38 "TeaRaceModel" "homeAt" "[I") (by decide +kernel)) (fun _ h9 => h9) rfl dX6_entryOf_15 ?_
    refine lv_iload_n hx hb dX6_entryOf_18 rfl (lv_at hl 1 rfl) ?_
    refine va_iald hx hb hK hP 1 0 rfl rfl (in_k rfl (by omega) (by omega)) dX6_entryOf_19 ?_
    refine lv_topi (fun x_3 ex_3 => ?_)
    have rx_3 := congrArg Int32.toInt ex_3
    obtain rfl : x_1 = x_3 := ex_1.trans ex_3.symm
    refine lv_istore_n (lv' := [(2, .int x_1), (0, .ref m0), (1, .int a0)]) hx hb dX6_entryOf_20 rfl hl (by decide) rfl (fun ls hl => ?_)
    have key21 : ∀ (n21 : Nat) (ih : Int32) (H : Heap) (locs : List Loc) (ls : Array Slot), (0 ≤ ih.toInt ∧ ih.toInt ≤ 100023) → (entryH vga.toInt ih.toInt = entryH vga.toInt (Kha a0.toNatClampNeg).toInt) → (ih.toInt + (5 - (ih.toInt % 24 + 24 - vga.toInt)) % 24 ≤ 100023) → (5 - (ih.toInt % 24 + 24 - vga.toInt)) % 24 < (n21 : Int) → va_P (dC, dI) vwCl [(m0, .inr (7, [.int vfi, .ref mfi, .long vak, .int vhr, .ref mil, .ref mic, .ref mwi, .int vho, .int vga, .ref mmo, .int vns, .ref mki, .ref mce, .ref mgo, .ref mwa, .ref mha, .ref mch, .ref mfo, .ref mca, .ref mor, .ref mro, .ref mra, .ref mpr, .ref mho, .ref mis, .int vsg, .ref mss, .ref msc, .ref msh, .int vpr, .int vfa])), (mha, .inl (cI, 8, .inl Kha))] H → va_S A s.heap H locs → lv_has ls 3 [(2, .int ih), (0, .ref m0), (1, .int a0)] → W p l e ({ frames := 0, cells := 0, slots := 0, locals := 0 } : Room) s m ([.ref m0, .int a0] : List Value).toArray below meth c H locs 0 0 (MQ below (va_Qi (fun (r : Int32) (_ : Unit) => (r.toInt = entM Kha vga.toInt a0.toNatClampNeg) ∧ ((-9) ≤ r.toInt ∧ r.toInt ≤ 100023)) (fun _ _ => True) A) ([.ref m0, .int a0] : List Value).toArray s 0 0 A) (F0 m 21 ls []) := by
      intro n21
      induction n21 with
      | zero =>
        intro ih H locs ls i_ih h_e h_d hm21
        exact absurd hm21 (by omega)
      | succ n21 ih21 =>
        intro ih H locs ls i_ih h_e h_d hm21 hP hS hl
        refine lv_iload_n hx hb dX6_entryOf_21 rfl (lv_at hl 0 rfl) ?_
        refine lv_bipush (v := 24) hx hb dX6_entryOf_22 (by decide) ?_
        refine lv_irem hx hb dX6_entryOf_24 (by decide) ?_
        refine lv_topi (fun x_4 ex_4 => ?_)
        have tx_4 : x_4.toInt = ih.toInt % 24 := rm_k ex_4 rfl (by decide) (by omega) (by omega)
        refine lv_bipush (v := 24) hx hb dX6_entryOf_25 (by decide) ?_
        refine lv_iadd hx hb dX6_entryOf_27 ?_
        refine lv_topi (fun x_5 ex_5 => ?_)
        have tx_5 : x_5.toInt = x_4.toInt + 24 := ad_k ex_5 rfl (by decide) (by omega) (by omega)
        refine lv_aload_n hx hb dX6_entryOf_28 rfl (lv_at hl 1 rfl) ?_
        refine va_get (D := (dC, dI)) (ci := 7) (v := .int vga) (C := RX6) (T := TX6) (N := 31) hx hb hts iw_X6_entryOf_X6 hown hK hP 0 rfl rfl 8 (by decide) (hts (.fieldLink RX6 119 "TeaRaceModel" "gate" "I") (by decide +kernel)) (fun _ h9 => h9) rfl dX6_entryOf_29 ?_
        refine lv_isub hx hb dX6_entryOf_32 ?_
        refine lv_topi (fun x_6 ex_6 => ?_)
        have tx_6 : x_6.toInt = x_5.toInt - vga.toInt := su_k ex_6 rfl rfl (by omega) (by omega)
        refine lv_bipush (v := 24) hx hb dX6_entryOf_33 (by decide) ?_
        refine lv_irem hx hb dX6_entryOf_35 (by decide) ?_
        refine lv_topi (fun x_7 ex_7 => ?_)
        have tx_7 : x_7.toInt = x_6.toInt % 24 := rm_k ex_7 rfl (by decide) (by omega) (by omega)
        refine lv_iconst (v := 5) hx hb dX6_entryOf_36 (by decide) ?_
        refine lv_icmp_le (tgt := 46) hx hb dX6_entryOf_37 (by decide) (fun c_8 => ?_) (fun c_8 => ?_)
        · skip
          have qc_8 : x_7.toInt ≤ 5 := le_k rfl (by decide) c_8
          refine lv_iload_n hx hb dX6_entryOf_46 rfl (lv_at hl 0 rfl) ?_
          exact W.iret (v := ih) hx hb hr (fun t ht hW => ⟨⟨ih, (), rfl, ⟨(by unfold entM; rw [if_neg (by omega), ← h_e, entryH_open (by omega)]), ⟨by omega, by omega⟩⟩, trivial⟩, hS.F ht⟩) hS.2.2 dX6_entryOf_47
        · skip
          have qc_8 : 5 < x_7.toInt := nle_k rfl (by decide) c_8
          obtain ⟨x_9, ex_9⟩ : ∃ y : Int32, y = ih + 1 := ⟨_, rfl⟩
          have tx_9 : x_9.toInt = ih.toInt + 1 := ad_k ex_9 rfl (by decide) (by omega) (by omega)
          refine lv_iinc (v := x_9) (lv' := [(2, .int x_9), (0, .ref m0), (1, .int a0)]) hx hb dX6_entryOf_40 hl (k := 0) rfl (by rw [ex_9]; rfl) (by decide) rfl (fun ls hl => ?_)
          refine lv_goto (tgt := 21) hx hb dX6_entryOf_43 (by decide) ?_
          exact ih21 x_9  H locs ls ⟨(by first | omega | (simp only [Int32.reduceToInt]; omega)), (by first | omega | (simp only [Int32.reduceToInt]; omega))⟩ (by rw [tx_9, entryH_next (by omega)]; exact h_e) (by first | omega | (simp only [Int32.reduceToInt]; omega)) (by first | omega | (simp only [Int32.reduceToInt]; omega)) hP hS (lv_sub hl [0, 1, 2] rfl)
    exact key21 24 x_1  _ _ ls ⟨(by first | omega | (simp only [Int32.reduceToInt]; omega)), (by first | omega | (simp only [Int32.reduceToInt]; omega))⟩ (by rw [rx_1]) (by (try simp only [Int32.reduceToInt]); omega) (by (try simp only [Int32.reduceToInt]); omega) hP hS hl
  · skip
    have qc_2 : x_1.toInt = (-9) := eq_k rfl (by decide) c_2
    refine lv_bipush (v := (-9)) hx hb dX6_entryOf_11 (by decide) ?_
    have hv9 : (-9 : Int32).toInt = (-9) := by decide
    exact W.iret (v := (-9)) hx hb hr (fun t ht hW => ⟨⟨(-9), (), rfl, ⟨(by unfold entM; rw [if_pos (by omega)]; rfl), (by decide)⟩, trivial⟩, hS.F ht⟩) hS.2.2 dX6_entryOf_13
set_option maxRecDepth 20000 in
theorem iw_X6_tells_X6 : ∀ w ∈ wsX60, w ∈ wsX6_tells := fun w h => (List.mem_cons_of_mem _ (List.mem_append_right _ h))
set_option maxHeartbeats 4000000 in
set_option maxRecDepth 100000 in
/-- reference: tells -/
theorem c_X6_tells (l : Launch) (dC : Nat → ClassId) (dI : Nat → Nat → Nat) (sz : Nat) (m0 : Nat) (mfi : Nat) (mil : Nat) (mic : Nat) (mwi : Nat) (mmo : Nat) (mki : Nat) (mce : Nat) (mgo : Nat) (mwa : Nat) (mha : Nat) (mch : Nat) (mfo : Nat) (mca : Nat) (mor : Nat) (mro : Nat) (mra : Nat) (mpr : Nat) (mho : Nat) (mis : Nat) (mss : Nat) (msc : Nat) (msh : Nat) (vfi : Int32) (vhr : Int32) (vho : Int32) (vga : Int32) (vns : Int32) (vsg : Int32) (vpr : Int32) (vfa : Int32) (vak : Int64) (Kha : Nat → Int32) (Kki : Nat → Int32) (Kce : Nat → Int32) (Kgo : Nat → Int32) (Kwa : Nat → Int32) (Kch : Nat → Int32) (cI : ClassId) (a0 : Int32) (a1 : Int32) (i_a0 : 0 ≤ a0.toInt ∧ a0.toInt ≤ 7) (i_vga : 0 ≤ vga.toInt ∧ vga.toInt ≤ 23) (R_Kha : Rn 8 0 100000 Kha) (R_Kki : Rg 8 0 3 Kki) (R_Kce : Rg 8 0 159 Kce) (R_Kgo : Rg 8 0 84 Kgo) (R_Kwa : Rg 8 0 7 Kwa) (R_Kch : Rg 8 0 20000 Kch) : Met l yX6_tells wsX6_tells ({ frames := 1, cells := 0, slots := 0, locals := 22 }) (va_Pc [.ref m0, .int a0, .int a1] (fun U => U.heap.size = sz ∧ va_P (dC, dI) vwCl [(m0, .inr (7, [.int vfi, .ref mfi, .long vak, .int vhr, .ref mil, .ref mic, .ref mwi, .int vho, .int vga, .ref mmo, .int vns, .ref mki, .ref mce, .ref mgo, .ref mwa, .ref mha, .ref mch, .ref mfo, .ref mca, .ref mor, .ref mro, .ref mra, .ref mpr, .ref mho, .ref mis, .int vsg, .ref mss, .ref msc, .ref msh, .int vpr, .int vfa])), (mha, .inl (cI, 8, .inl Kha)), (mki, .inl (cI, 8, .inl Kki)), (mce, .inl (cI, 8, .inl Kce)), (mgo, .inl (cI, 8, .inl Kgo)), (mwa, .inl (cI, 8, .inl Kwa)), (mch, .inl (cI, 8, .inl Kch))] U.heap ∧ va_K (dC, dI) vwCl [(cI, .int)] U ∧ NW U)) (va_Qi (fun (r : Int32) (_ : Unit) => True) (fun _ _ => True) (va_A [] sz)) 0 0 (va_A [] sz) := by
  refine Met.ofW (cc := cX6_tells) (maxL := 3) (ret := (some .int)) (by decide) rfl ?_
  intro p e s m args below meth c s₁ B hml hv
  obtain ⟨rfl, hsz, hP, hK, hN⟩ := hv
  have hx := B.exec
  have hb := B.bytes
  have hr := B.returns
  have hts := atoms_spec (ws := wsX6_tells) B.pre
  have hown : s.vm.findClass RX6 = some m.cls := findClass_of_methodNamed B.named
  have hlocks := B.notSynchronized
  subst hsz
  generalize hAe : va_A [] s.heap.size = A at ⊢
  have hA : ∀ q : Nat, s.heap.size ≤ q → A q := fun q h => by rw [← hAe]; exact Or.inr h
  have hS : va_S A s.heap s.heap [] := va_S.rf
  have hP : va_P (dC, dI) vwCl [(m0, .inr (7, [.int vfi, .ref mfi, .long vak, .int vhr, .ref mil, .ref mic, .ref mwi, .int vho, .int vga, .ref mmo, .int vns, .ref mki, .ref mce, .ref mgo, .ref mwa, .ref mha, .ref mch, .ref mfo, .ref mca, .ref mor, .ref mro, .ref mra, .ref mpr, .ref mho, .ref mis, .int vsg, .ref mss, .ref msc, .ref msh, .int vpr, .int vfa])), (mha, .inl (cI, 8, .inl Kha)), (mki, .inl (cI, 8, .inl Kki)), (mce, .inl (cI, 8, .inl Kce)), (mgo, .inl (cI, 8, .inl Kgo)), (mwa, .inl (cI, 8, .inl Kwa)), (mch, .inl (cI, 8, .inl Kch))] s.heap := hP
  have hl := lv_entry ([.ref m0, .int a0, .int a1]) (n := 3) (Nat.le_of_ble_eq_true rfl)
  rw [lg_entry_eq]
  generalize (lg_sl ([.ref m0, .int a0, .int a1]) ++ List.replicate (3 - (lg_sl ([.ref m0, .int a0, .int a1])).length) Slot.unset).toArray = ls at hl ⊢
  have hl : lv_has ls 3 [(0, .ref m0), (1, .int a0), (2, .int a1)] := hl
  refine lv_iload_n hx hb dX6_tells_0 rfl (lv_at hl 2 rfl) ?_
  by_cases t_1 : a1.toInt < 0 ∨ 5 < a1.toInt
  · skip
    refine lv_tableOut (tgt := 81) hx hb dX6_tells_1 t_1 (by decide) ?_
    refine lv_aload_n hx hb dX6_tells_81 rfl (lv_at hl 0 rfl) ?_
    refine va_get (D := (dC, dI)) (ci := 7) (v := .ref mch) (C := RX6) (T := TX6) (N := 31) hx hb hts iw_X6_tells_X6 hown hK hP 0 rfl rfl 16 (by decide) (hts (.fieldLink RX6 41 "TeaRaceModel" "chests" "[I") (by decide +kernel)) (fun _ h9 => h9) rfl dX6_tells_82 ?_
    refine lv_iload_n hx hb dX6_tells_85 rfl (lv_at hl 1 rfl) ?_
    refine va_iald hx hb hK hP 6 0 rfl rfl (in_k rfl (by omega) (by omega)) dX6_tells_86 ?_
    refine lv_topi (fun x_2 ex_2 => ?_)
    have rx_2 := congrArg Int32.toInt ex_2
    have gx_2 : 0 ≤ x_2.toInt ∧ x_2.toInt ≤ 20000 := Rg.at R_Kch rfl (by omega) (by omega) ex_2
    exact W.iret (v := x_2) hx hb hr (fun t ht hW => ⟨⟨x_2, (), rfl, trivial, trivial⟩, hS.F ht⟩) hS.2.2 dX6_tells_87
  · skip
    have v_3 : a1 = 0 ∨ a1 = 1 ∨ a1 = 2 ∨ a1 = 3 ∨ a1 = 4 ∨ a1 = 5 := by
      simp only [← Int32.toInt_inj, Int32.reduceToInt]
      omega
    clear t_1
    rcases v_3 with h_v_3 | h_v_3 | h_v_3 | h_v_3 | h_v_3 | h_v_3
    · skip
      have qv_3 : a1.toInt = 0 := by rw [h_v_3]; decide
      refine lv_tableIn (off := 39) (tgt := 40) hx hb dX6_tells_1 (by omega) (by omega) (by rw [qv_3]; decide) (by decide) ?_
      refine lv_aload_n hx hb dX6_tells_40 rfl (lv_at hl 0 rfl) ?_
      refine va_get (D := (dC, dI)) (ci := 7) (v := .ref mki) (C := RX6) (T := TX6) (N := 31) hx hb hts iw_X6_tells_X6 hown hK hP 0 rfl rfl 11 (by decide) (hts (.fieldLink RX6 26 "TeaRaceModel" "kinds" "[I") (by decide +kernel)) (fun _ h9 => h9) rfl dX6_tells_41 ?_
      refine lv_iload_n hx hb dX6_tells_44 rfl (lv_at hl 1 rfl) ?_
      refine va_iald hx hb hK hP 2 0 rfl rfl (in_k rfl (by omega) (by omega)) dX6_tells_45 ?_
      refine lv_topi (fun x_4 ex_4 => ?_)
      have rx_4 := congrArg Int32.toInt ex_4
      have gx_4 : 0 ≤ x_4.toInt ∧ x_4.toInt ≤ 3 := Rg.at R_Kki rfl (by omega) (by omega) ex_4
      exact W.iret (v := x_4) hx hb hr (fun t ht hW => ⟨⟨x_4, (), rfl, trivial, trivial⟩, hS.F ht⟩) hS.2.2 dX6_tells_46
    · skip
      have qv_3 : a1.toInt = 1 := by rw [h_v_3]; decide
      refine lv_tableIn (off := 46) (tgt := 47) hx hb dX6_tells_1 (by omega) (by omega) (by rw [qv_3]; decide) (by decide) ?_
      refine lv_aload_n hx hb dX6_tells_47 rfl (lv_at hl 0 rfl) ?_
      refine va_get (D := (dC, dI)) (ci := 7) (v := .ref mce) (C := RX6) (T := TX6) (N := 31) hx hb hts iw_X6_tells_X6 hown hK hP 0 rfl rfl 12 (by decide) (hts (.fieldLink RX6 29 "TeaRaceModel" "cells" "[I") (by decide +kernel)) (fun _ h9 => h9) rfl dX6_tells_48 ?_
      refine lv_iload_n hx hb dX6_tells_51 rfl (lv_at hl 1 rfl) ?_
      refine va_iald hx hb hK hP 3 0 rfl rfl (in_k rfl (by omega) (by omega)) dX6_tells_52 ?_
      refine lv_topi (fun x_5 ex_5 => ?_)
      have rx_5 := congrArg Int32.toInt ex_5
      have gx_5 : 0 ≤ x_5.toInt ∧ x_5.toInt ≤ 159 := Rg.at R_Kce rfl (by omega) (by omega) ex_5
      exact W.iret (v := x_5) hx hb hr (fun t ht hW => ⟨⟨x_5, (), rfl, trivial, trivial⟩, hS.F ht⟩) hS.2.2 dX6_tells_53
    · skip
      have qv_3 : a1.toInt = 2 := by rw [h_v_3]; decide
      refine lv_tableIn (off := 53) (tgt := 54) hx hb dX6_tells_1 (by omega) (by omega) (by rw [qv_3]; decide) (by decide) ?_
      refine lv_aload_n hx hb dX6_tells_54 rfl (lv_at hl 0 rfl) ?_
      refine va_get (D := (dC, dI)) (ci := 7) (v := .ref mgo) (C := RX6) (T := TX6) (N := 31) hx hb hts iw_X6_tells_X6 hown hK hP 0 rfl rfl 13 (by decide) (hts (.fieldLink RX6 32 "TeaRaceModel" "gone" "[I") (by decide +kernel)) (fun _ h9 => h9) rfl dX6_tells_55 ?_
      refine lv_iload_n hx hb dX6_tells_58 rfl (lv_at hl 1 rfl) ?_
      refine va_iald hx hb hK hP 4 0 rfl rfl (in_k rfl (by omega) (by omega)) dX6_tells_59 ?_
      refine lv_topi (fun x_6 ex_6 => ?_)
      have rx_6 := congrArg Int32.toInt ex_6
      have gx_6 : 0 ≤ x_6.toInt ∧ x_6.toInt ≤ 84 := Rg.at R_Kgo rfl (by omega) (by omega) ex_6
      exact W.iret (v := x_6) hx hb hr (fun t ht hW => ⟨⟨x_6, (), rfl, trivial, trivial⟩, hS.F ht⟩) hS.2.2 dX6_tells_60
    · skip
      have qv_3 : a1.toInt = 3 := by rw [h_v_3]; decide
      refine lv_tableIn (off := 60) (tgt := 61) hx hb dX6_tells_1 (by omega) (by omega) (by rw [qv_3]; decide) (by decide) ?_
      refine lv_aload_n hx hb dX6_tells_61 rfl (lv_at hl 0 rfl) ?_
      refine va_get (D := (dC, dI)) (ci := 7) (v := .ref mwa) (C := RX6) (T := TX6) (N := 31) hx hb hts iw_X6_tells_X6 hown hK hP 0 rfl rfl 14 (by decide) (hts (.fieldLink RX6 35 "TeaRaceModel" "ways" "[I") (by decide +kernel)) (fun _ h9 => h9) rfl dX6_tells_62 ?_
      refine lv_iload_n hx hb dX6_tells_65 rfl (lv_at hl 1 rfl) ?_
      refine va_iald hx hb hK hP 5 0 rfl rfl (in_k rfl (by omega) (by omega)) dX6_tells_66 ?_
      refine lv_topi (fun x_7 ex_7 => ?_)
      have rx_7 := congrArg Int32.toInt ex_7
      have gx_7 : 0 ≤ x_7.toInt ∧ x_7.toInt ≤ 7 := Rg.at R_Kwa rfl (by omega) (by omega) ex_7
      exact W.iret (v := x_7) hx hb hr (fun t ht hW => ⟨⟨x_7, (), rfl, trivial, trivial⟩, hS.F ht⟩) hS.2.2 dX6_tells_67
    · skip
      have qv_3 : a1.toInt = 4 := by rw [h_v_3]; decide
      refine lv_tableIn (off := 67) (tgt := 68) hx hb dX6_tells_1 (by omega) (by omega) (by rw [qv_3]; decide) (by decide) ?_
      refine lv_aload_n hx hb dX6_tells_68 rfl (lv_at hl 0 rfl) ?_
      refine va_get (D := (dC, dI)) (ci := 7) (v := .ref mha) (C := RX6) (T := TX6) (N := 31) hx hb hts iw_X6_tells_X6 hown hK hP 0 rfl rfl 15 (by decide) (hts (.fieldLink RX6 38 "TeaRaceModel" "homeAt" "[I") (by decide +kernel)) (fun _ h9 => h9) rfl dX6_tells_69 ?_
      refine lv_iload_n hx hb dX6_tells_72 rfl (lv_at hl 1 rfl) ?_
      refine va_iald hx hb hK hP 1 0 rfl rfl (in_k rfl (by omega) (by omega)) dX6_tells_73 ?_
      refine lv_topi (fun x_8 ex_8 => ?_)
      have rx_8 := congrArg Int32.toInt ex_8
      have gx_8 : x_8.toInt = -9 ∨ (0 ≤ x_8.toInt ∧ x_8.toInt ≤ 100000) := Rn.at R_Kha rfl (by omega) (by omega) ex_8
      exact W.iret (v := x_8) hx hb hr (fun t ht hW => ⟨⟨x_8, (), rfl, trivial, trivial⟩, hS.F ht⟩) hS.2.2 dX6_tells_74
    · skip
      have qv_3 : a1.toInt = 5 := by rw [h_v_3]; decide
      refine lv_tableIn (off := 74) (tgt := 75) hx hb dX6_tells_1 (by omega) (by omega) (by rw [qv_3]; decide) (by decide) ?_
      refine lv_aload_n hx hb dX6_tells_75 rfl (lv_at hl 0 rfl) ?_
      refine lv_iload_n hx hb dX6_tells_76 rfl (lv_at hl 1 rfl) ?_
      have hPc := hP.sub (ws' := [(m0, .inr (7, [.int vfi, .ref mfi, .long vak, .int vhr, .ref mil, .ref mic, .ref mwi, .int vho, .int vga, .ref mmo, .int vns, .ref mki, .ref mce, .ref mgo, .ref mwa, .ref mha, .ref mch, .ref mfo, .ref mca, .ref mor, .ref mro, .ref mra, .ref mpr, .ref mho, .ref mis, .int vsg, .ref mss, .ref msc, .ref msh, .int vpr, .int vfa])), (mha, .inl (cI, 8, .inl Kha))]) [0, 1] rfl
      have hKc := hK.sub (tys' := [(cI, .int)]) [0] rfl
      refine va_calli (va_runV (As := [.int a0]) (rest := []) ⟨hx, hb, hml, hown, hts⟩ (c_X6_entryOf l dC dI s.heap.size m0 mfi mil mic mwi mmo mki mce mgo mwa mha mch mfo mca mor mro mra mpr mho mis mss msc msh vfi vhr vho vga vns vsg vpr vfa vak Kha cI a0 ⟨(by omega), (by omega)⟩ ⟨(by omega), (by omega)⟩ R_Kha) (cwV 1 hts gX6_tells_X6_entryOf rfl rfl rfl (by decide +kernel) ⟨Nat.le_of_ble_eq_true rfl, Nat.le_of_ble_eq_true rfl⟩) ⟨fun a U g mk q => by obtain ⟨q0, q1, qP, qK, qN⟩ := q; exact ⟨q0, q1, qP, va_K.moved (u := U) (U := U.calling g mk a) (Vm.Alike.refl U.vm) qK, NW.same (u := U) (U := U.calling g mk a) rfl qN⟩, va_recv hKc hPc (ci := 7) (q0 := 0) rfl rfl, fun U hU hW => ⟨rfl, by rw [hU], by rw [hU]; exact hPc, va_K.moved hW.alike hKc, NW.warm hW hN⟩⟩ rfl rfl hl.1 rfl (lv_room (Nat.le_of_ble_eq_true rfl)) dX6_tells_77 ⟨(Nat.zero_le _), (Nat.zero_le _)⟩) hS (fun q _ h => ro_A hS hA q h) (ro_A hS hA) (fun r_9 u t H1 locs ht hvm k_10 hB hz1 hk1 hS => ?_)
      have hP := ro_P hk1 hP
      generalize H1 = H at hP hS ⊢
      try dsimp only at k_10
      obtain ⟨k_10, k_11⟩ := k_10
      exact W.iret (v := r_9) hx hb hr (fun t ht hW => ⟨⟨r_9, (), rfl, trivial, trivial⟩, hS.F ht⟩) hS.2.2 dX6_tells_80
set_option maxHeartbeats 4000000 in
set_option maxRecDepth 100000 in
/-- reference: told -/
theorem c_X6_told (l : Launch) (dC : Nat → ClassId) (dI : Nat → Nat → Nat) (sz : Nat) (m0 : Nat) (mfi : Nat) (mil : Nat) (mic : Nat) (mwi : Nat) (mmo : Nat) (mki : Nat) (mce : Nat) (mgo : Nat) (mwa : Nat) (mha : Nat) (mch : Nat) (mfo : Nat) (mca : Nat) (mor : Nat) (mro : Nat) (mra : Nat) (mpr : Nat) (mho : Nat) (mis : Nat) (mss : Nat) (msc : Nat) (msh : Nat) (vfi : Int32) (vhr : Int32) (vho : Int32) (vga : Int32) (vns : Int32) (vsg : Int32) (vpr : Int32) (vfa : Int32) (vak : Int64) (Kha : Nat → Int32) (Kki : Nat → Int32) (Kce : Nat → Int32) (Kgo : Nat → Int32) (Kwa : Nat → Int32) (Kch : Nat → Int32) (cI : ClassId) (a0 : Int32) (a1 : Int32) (i_vga : 0 ≤ vga.toInt ∧ vga.toInt ≤ 23) (i_vns : 0 ≤ vns.toInt ∧ vns.toInt ≤ 8) (R_Kha : Rn 8 0 100000 Kha) (R_Kki : Rg 8 0 3 Kki) (R_Kce : Rg 8 0 159 Kce) (R_Kgo : Rg 8 0 84 Kgo) (R_Kwa : Rg 8 0 7 Kwa) (R_Kch : Rg 8 0 20000 Kch) : Met l yX6_told wsX6_told ({ frames := 2, cells := 0, slots := 0, locals := 44 }) (va_Pc [.ref m0, .int a0, .int a1] (fun U => U.heap.size = sz ∧ va_P (dC, dI) vwCl [(m0, .inr (7, [.int vfi, .ref mfi, .long vak, .int vhr, .ref mil, .ref mic, .ref mwi, .int vho, .int vga, .ref mmo, .int vns, .ref mki, .ref mce, .ref mgo, .ref mwa, .ref mha, .ref mch, .ref mfo, .ref mca, .ref mor, .ref mro, .ref mra, .ref mpr, .ref mho, .ref mis, .int vsg, .ref mss, .ref msc, .ref msh, .int vpr, .int vfa])), (mha, .inl (cI, 8, .inl Kha)), (mki, .inl (cI, 8, .inl Kki)), (mce, .inl (cI, 8, .inl Kce)), (mgo, .inl (cI, 8, .inl Kgo)), (mwa, .inl (cI, 8, .inl Kwa)), (mch, .inl (cI, 8, .inl Kch))] U.heap ∧ va_K (dC, dI) vwCl [(cI, .int)] U ∧ NW U)) (va_Qi (fun (r : Int32) (_ : Unit) => True) (fun _ _ => True) (va_A [] sz)) 0 0 (va_A [] sz) := by
  refine Met.ofW (cc := cX6_told) (maxL := 3) (ret := (some .int)) (by decide) rfl ?_
  intro p e s m args below meth c s₁ B hml hv
  obtain ⟨rfl, hsz, hP, hK, hN⟩ := hv
  have hx := B.exec
  have hb := B.bytes
  have hr := B.returns
  have hts := atoms_spec (ws := wsX6_told) B.pre
  have hown : s.vm.findClass RX6 = some m.cls := findClass_of_methodNamed B.named
  have hlocks := B.notSynchronized
  subst hsz
  generalize hAe : va_A [] s.heap.size = A at ⊢
  have hA : ∀ q : Nat, s.heap.size ≤ q → A q := fun q h => by rw [← hAe]; exact Or.inr h
  have hS : va_S A s.heap s.heap [] := va_S.rf
  have hP : va_P (dC, dI) vwCl [(m0, .inr (7, [.int vfi, .ref mfi, .long vak, .int vhr, .ref mil, .ref mic, .ref mwi, .int vho, .int vga, .ref mmo, .int vns, .ref mki, .ref mce, .ref mgo, .ref mwa, .ref mha, .ref mch, .ref mfo, .ref mca, .ref mor, .ref mro, .ref mra, .ref mpr, .ref mho, .ref mis, .int vsg, .ref mss, .ref msc, .ref msh, .int vpr, .int vfa])), (mha, .inl (cI, 8, .inl Kha)), (mki, .inl (cI, 8, .inl Kki)), (mce, .inl (cI, 8, .inl Kce)), (mgo, .inl (cI, 8, .inl Kgo)), (mwa, .inl (cI, 8, .inl Kwa)), (mch, .inl (cI, 8, .inl Kch))] s.heap := hP
  have hl := lv_entry ([.ref m0, .int a0, .int a1]) (n := 3) (Nat.le_of_ble_eq_true rfl)
  rw [lg_entry_eq]
  generalize (lg_sl ([.ref m0, .int a0, .int a1]) ++ List.replicate (3 - (lg_sl ([.ref m0, .int a0, .int a1])).length) Slot.unset).toArray = ls at hl ⊢
  have hl : lv_has ls 3 [(0, .ref m0), (1, .int a0), (2, .int a1)] := hl
  refine lv_aload_n hx hb dX6_told_0 rfl (lv_at hl 0 rfl) ?_
  refine lv_iload_n hx hb dX6_told_1 rfl (lv_at hl 1 rfl) ?_
  have hPc := hP.sub (ws' := [(m0, .inr (7, [.int vfi, .ref mfi, .long vak, .int vhr, .ref mil, .ref mic, .ref mwi, .int vho, .int vga, .ref mmo, .int vns, .ref mki, .ref mce, .ref mgo, .ref mwa, .ref mha, .ref mch, .ref mfo, .ref mca, .ref mor, .ref mro, .ref mra, .ref mpr, .ref mho, .ref mis, .int vsg, .ref mss, .ref msc, .ref msh, .int vpr, .int vfa]))]) [0] rfl
  have hKc := hK.sub (tys' := []) [] rfl
  refine va_calli (va_runV (As := [.int a0]) (rest := []) ⟨hx, hb, hml, hown, hts⟩ (c_X6_isShip l dC dI s.heap.size m0 mfi mil mic mwi mmo mki mce mgo mwa mha mch mfo mca mor mro mra mpr mho mis mss msc msh vfi vhr vho vga vns vsg vpr vfa vak a0 ⟨(by omega), (by omega)⟩) (cwV 1 hts gX6_told_X6_isShip rfl rfl rfl (by decide +kernel) ⟨Nat.le_of_ble_eq_true rfl, Nat.le_of_ble_eq_true rfl⟩) ⟨fun a U g mk q => by obtain ⟨q0, q1, qP, qK, qN⟩ := q; exact ⟨q0, q1, qP, va_K.moved (u := U) (U := U.calling g mk a) (Vm.Alike.refl U.vm) qK, NW.same (u := U) (U := U.calling g mk a) rfl qN⟩, va_recv hKc hPc (ci := 7) (q0 := 0) rfl rfl, fun U hU hW => ⟨rfl, by rw [hU], by rw [hU]; exact hPc, va_K.moved hW.alike hKc, NW.warm hW hN⟩⟩ rfl rfl hl.1 rfl (lv_room (Nat.le_of_ble_eq_true rfl)) dX6_told_2 ⟨(Nat.zero_le _), (Nat.zero_le _)⟩) hS (fun q _ h => ro_A hS hA q h) (ro_A hS hA) (fun r_1 u t H1 locs ht hvm k_2 hB hz1 hk1 hS => ?_)
  have hP := ro_P hk1 hP
  generalize H1 = H at hP hS ⊢
  try dsimp only at k_2
  obtain ⟨k_2, k_3⟩ := k_2
  refine lv_if_eq (tgt := 27) hx hb dX6_told_5 (by decide) (fun c_4 => ?_) (fun c_4 => ?_)
  · skip
    have b_5 := b01z k_2 c_4
    (try simp only [Int32.lt_iff_toInt_lt, Int32.le_iff_toInt_le, ← Int32.toInt_inj, Int32.reduceToInt, zl1, zl2, zl3, zl4, zl9] at b_5)
    (try simp only [Int32.reduceToInt] at b_5)
    refine lv_iconst (v := (-1)) hx hb dX6_told_27 (by decide) ?_
    have hv9 : (-1 : Int32).toInt = (-1) := by decide
    exact W.iret (v := (-1)) hx hb hr (fun t ht hW => ⟨⟨(-1), (), rfl, trivial, trivial⟩, hS.F ht⟩) hS.2.2 dX6_told_28
  · skip
    have b_6 := b01n k_2 c_4
    (try simp only [Int32.lt_iff_toInt_lt, Int32.le_iff_toInt_le, ← Int32.toInt_inj, Int32.reduceToInt, zl1, zl2, zl3, zl4, zl9] at b_6)
    (try simp only [Int32.reduceToInt] at b_6)
    refine lv_iload_n hx hb dX6_told_8 rfl (lv_at hl 2 rfl) ?_
    refine lv_iconst (v := 0) hx hb dX6_told_9 (by decide) ?_
    refine lv_bipush (v := 6) hx hb dX6_told_10 (by decide) ?_
    refine va_calli (va_runS (As := [.int a1, .int 0, .int 6]) (rest := []) ⟨hx, hb, hml, hown, hts⟩ (c_X6_in l H.size a1 0 6 ) (va_cwS 3 hts gX6_told_X6_in rfl rfl rfl (by decide +kernel) ⟨Nat.le_of_ble_eq_true rfl, Nat.le_of_ble_eq_true rfl⟩) ⟨fun a U g mk q => by obtain ⟨q0, q1⟩ := q; exact ⟨q0, q1⟩, fun U hU hW => ⟨rfl, congrArg Array.size hU⟩⟩ rfl rfl hl.1 rfl (lv_room (Nat.le_of_ble_eq_true rfl)) dX6_told_12 ⟨(Nat.zero_le _), (Nat.zero_le _)⟩) hS (fun q _ h => ro_A hS hA q h) (ro_A hS hA) (fun r_7 u t H1 locs ht hvm k_8 hB hz1 hk1 hS => ?_)
    have hP := ro_P hk1 hP
    generalize H1 = H at hP hS ⊢
    try dsimp only at k_8
    obtain ⟨k_8, k_9⟩ := k_8
    refine lv_if_eq (tgt := 27) hx hb dX6_told_15 (by decide) (fun c_10 => ?_) (fun c_10 => ?_)
    · skip
      have b_11 := b01z k_8 c_10
      (try simp only [Int32.lt_iff_toInt_lt, Int32.le_iff_toInt_le, ← Int32.toInt_inj, Int32.reduceToInt, zl1, zl2, zl3, zl4, zl9] at b_11)
      (try simp only [Int32.reduceToInt] at b_11)
      refine lv_iconst (v := (-1)) hx hb dX6_told_27 (by decide) ?_
      have hv9 : (-1 : Int32).toInt = (-1) := by decide
      exact W.iret (v := (-1)) hx hb hr (fun t ht hW => ⟨⟨(-1), (), rfl, trivial, trivial⟩, hS.F ht⟩) hS.2.2 dX6_told_28
    · skip
      have b_12 := b01n k_8 c_10
      (try simp only [Int32.lt_iff_toInt_lt, Int32.le_iff_toInt_le, ← Int32.toInt_inj, Int32.reduceToInt, zl1, zl2, zl3, zl4, zl9] at b_12)
      (try simp only [Int32.reduceToInt] at b_12)
      refine lv_aload_n hx hb dX6_told_18 rfl (lv_at hl 0 rfl) ?_
      refine lv_iload_n hx hb dX6_told_19 rfl (lv_at hl 1 rfl) ?_
      refine lv_iload_n hx hb dX6_told_20 rfl (lv_at hl 2 rfl) ?_
      have hPc := hP.sub (ws' := [(m0, .inr (7, [.int vfi, .ref mfi, .long vak, .int vhr, .ref mil, .ref mic, .ref mwi, .int vho, .int vga, .ref mmo, .int vns, .ref mki, .ref mce, .ref mgo, .ref mwa, .ref mha, .ref mch, .ref mfo, .ref mca, .ref mor, .ref mro, .ref mra, .ref mpr, .ref mho, .ref mis, .int vsg, .ref mss, .ref msc, .ref msh, .int vpr, .int vfa])), (mha, .inl (cI, 8, .inl Kha)), (mki, .inl (cI, 8, .inl Kki)), (mce, .inl (cI, 8, .inl Kce)), (mgo, .inl (cI, 8, .inl Kgo)), (mwa, .inl (cI, 8, .inl Kwa)), (mch, .inl (cI, 8, .inl Kch))]) [0, 1, 2, 3, 4, 5, 6] rfl
      have hKc := hK.sub (tys' := [(cI, .int)]) [0] rfl
      refine va_calli (va_runV (As := [.int a0, .int a1]) (rest := []) ⟨hx, hb, hml, hown, hts⟩ (c_X6_tells l dC dI H.size m0 mfi mil mic mwi mmo mki mce mgo mwa mha mch mfo mca mor mro mra mpr mho mis mss msc msh vfi vhr vho vga vns vsg vpr vfa vak Kha Kki Kce Kgo Kwa Kch cI a0 a1 ⟨(by omega), (by omega)⟩ ⟨(by omega), (by omega)⟩ R_Kha R_Kki R_Kce R_Kgo R_Kwa R_Kch) (cwV 2 hts gX6_told_X6_tells rfl rfl rfl (by decide +kernel) ⟨Nat.le_of_ble_eq_true rfl, Nat.le_of_ble_eq_true rfl⟩) ⟨fun a U g mk q => by obtain ⟨q0, q1, qP, qK, qN⟩ := q; exact ⟨q0, q1, qP, va_K.moved (u := U) (U := U.calling g mk a) (Vm.Alike.refl U.vm) qK, NW.same (u := U) (U := U.calling g mk a) rfl qN⟩, va_recv hKc hPc (ci := 7) (q0 := 0) rfl rfl, fun U hU hW => ⟨rfl, by rw [hU], by rw [hU]; exact hPc, va_K.moved hW.alike hKc, NW.warm hW hN⟩⟩ rfl rfl hl.1 rfl (lv_room (Nat.le_of_ble_eq_true rfl)) dX6_told_21 ⟨(Nat.zero_le _), (Nat.zero_le _)⟩) hS (fun q _ h => ro_A hS hA q h) (ro_A hS hA) (fun r_13 u t H1 locs ht hvm k_14 hB hz1 hk1 hS => ?_)
      have hP := ro_P hk1 hP
      generalize H1 = H at hP hS ⊢
      try dsimp only at k_14
      refine lv_goto (tgt := 28) hx hb dX6_told_24 (by decide) ?_
      exact W.iret (v := r_13) hx hb hr (fun t ht hW => ⟨⟨r_13, (), rfl, trivial, trivial⟩, hS.F ht⟩) hS.2.2 dX6_told_28
set_option maxRecDepth 20000 in
theorem iw_X6_speedOf_X6 : ∀ w ∈ wsX60, w ∈ wsX6_speedOf := fun w h => (List.mem_cons_of_mem _ (List.mem_append_right _ h))
set_option maxHeartbeats 4000000 in
set_option maxRecDepth 100000 in
/-- reference: speedOf -/
theorem c_X6_speedOf (l : Launch) (dC : Nat → ClassId) (dI : Nat → Nat → Nat) (sz : Nat) (m0 : Nat) (mfi : Nat) (mil : Nat) (mic : Nat) (mwi : Nat) (mmo : Nat) (mki : Nat) (mce : Nat) (mgo : Nat) (mwa : Nat) (mha : Nat) (mch : Nat) (mfo : Nat) (mca : Nat) (mor : Nat) (mro : Nat) (mra : Nat) (mpr : Nat) (mho : Nat) (mis : Nat) (mss : Nat) (msc : Nat) (msh : Nat) (vfi : Int32) (vhr : Int32) (vho : Int32) (vga : Int32) (vns : Int32) (vsg : Int32) (vpr : Int32) (vfa : Int32) (vak : Int64) (Kki : Nat → Int32) (Kfo : Nat → Int32) (cI : ClassId) (a0 : Int32) (a1 : Int32) (a2 : Int32) (a3 : Int32) (i_a0 : 0 ≤ a0.toInt ∧ a0.toInt ≤ 7) (i_a1 : 0 ≤ a1.toInt ∧ a1.toInt ≤ 7) (i_a2 : 0 ≤ a2.toInt ∧ a2.toInt ≤ 7) (i_a3 : 0 ≤ a3.toInt ∧ a3.toInt ≤ 9) (R_Kki : Rg 8 0 3 Kki) (R_Kfo : Rg 8 0 9 Kfo) : Met l yX6_speedOf wsX6_speedOf ({ frames := 0, cells := 0, slots := 0, locals := 0 }) (va_Pc [.ref m0, .int a0, .int a1, .int a2, .int a3] (fun U => U.heap.size = sz ∧ va_P (dC, dI) vwCl [(m0, .inr (7, [.int vfi, .ref mfi, .long vak, .int vhr, .ref mil, .ref mic, .ref mwi, .int vho, .int vga, .ref mmo, .int vns, .ref mki, .ref mce, .ref mgo, .ref mwa, .ref mha, .ref mch, .ref mfo, .ref mca, .ref mor, .ref mro, .ref mra, .ref mpr, .ref mho, .ref mis, .int vsg, .ref mss, .ref msc, .ref msh, .int vpr, .int vfa])), (mki, .inl (cI, 8, .inl Kki)), (mfo, .inl (cI, 8, .inl Kfo))] U.heap ∧ va_K (dC, dI) vwCl [(cI, .int)] U ∧ NW U)) (va_Qi (fun (r : Int32) (_ : Unit) => (r.toInt = spd (Kki a0.toNatClampNeg).toInt (Kfo a0.toNatClampNeg).toInt a1.toInt a2.toInt a3.toInt) ∧ (0 ≤ r.toInt ∧ r.toInt ≤ 45)) (fun _ _ => True) (va_A [] sz)) 0 0 (va_A [] sz) := by
  refine Met.ofW (cc := cX6_speedOf) (maxL := 8) (ret := (some .int)) (by decide) rfl ?_
  intro p e s m args below meth c s₁ B hml hv
  obtain ⟨rfl, hsz, hP, hK, hN⟩ := hv
  have hx := B.exec
  have hb := B.bytes
  have hr := B.returns
  have hts := atoms_spec (ws := wsX6_speedOf) B.pre
  have hown : s.vm.findClass RX6 = some m.cls := findClass_of_methodNamed B.named
  have hlocks := B.notSynchronized
  subst hsz
  generalize hAe : va_A [] s.heap.size = A at ⊢
  have hA : ∀ q : Nat, s.heap.size ≤ q → A q := fun q h => by rw [← hAe]; exact Or.inr h
  have hS : va_S A s.heap s.heap [] := va_S.rf
  have hP : va_P (dC, dI) vwCl [(m0, .inr (7, [.int vfi, .ref mfi, .long vak, .int vhr, .ref mil, .ref mic, .ref mwi, .int vho, .int vga, .ref mmo, .int vns, .ref mki, .ref mce, .ref mgo, .ref mwa, .ref mha, .ref mch, .ref mfo, .ref mca, .ref mor, .ref mro, .ref mra, .ref mpr, .ref mho, .ref mis, .int vsg, .ref mss, .ref msc, .ref msh, .int vpr, .int vfa])), (mki, .inl (cI, 8, .inl Kki)), (mfo, .inl (cI, 8, .inl Kfo))] s.heap := hP
  have hl := lv_entry ([.ref m0, .int a0, .int a1, .int a2, .int a3]) (n := 8) (Nat.le_of_ble_eq_true rfl)
  rw [lg_entry_eq]
  generalize (lg_sl ([.ref m0, .int a0, .int a1, .int a2, .int a3]) ++ List.replicate (8 - (lg_sl ([.ref m0, .int a0, .int a1, .int a2, .int a3])).length) Slot.unset).toArray = ls at hl ⊢
  have hl : lv_has ls 8 [(0, .ref m0), (1, .int a0), (2, .int a1), (3, .int a2), (4, .int a3)] := hl
  have j14_1 : ∀ (n1 : Int32) (H : Heap) (locs : List Loc) (ls : Array Slot), (0 ≤ n1.toInt ∧ n1.toInt ≤ 7) → (n1.toInt = if a2.toInt < a1.toInt then a1.toInt - a2.toInt else a2.toInt - a1.toInt) → va_P (dC, dI) vwCl [(m0, .inr (7, [.int vfi, .ref mfi, .long vak, .int vhr, .ref mil, .ref mic, .ref mwi, .int vho, .int vga, .ref mmo, .int vns, .ref mki, .ref mce, .ref mgo, .ref mwa, .ref mha, .ref mch, .ref mfo, .ref mca, .ref mor, .ref mro, .ref mra, .ref mpr, .ref mho, .ref mis, .int vsg, .ref mss, .ref msc, .ref msh, .int vpr, .int vfa])), (mki, .inl (cI, 8, .inl Kki)), (mfo, .inl (cI, 8, .inl Kfo))] H → va_S A s.heap H locs → lv_has ls 8 [(0, .ref m0), (1, .int a0), (2, .int a1), (3, .int a2), (4, .int a3)] → W p l e ({ frames := 0, cells := 0, slots := 0, locals := 0 } : Room) s m ([.ref m0, .int a0, .int a1, .int a2, .int a3] : List Value).toArray below meth c H locs 0 0 (MQ below (va_Qi (fun (r : Int32) (_ : Unit) => (r.toInt = spd (Kki a0.toNatClampNeg).toInt (Kfo a0.toNatClampNeg).toInt a1.toInt a2.toInt a3.toInt) ∧ (0 ≤ r.toInt ∧ r.toInt ≤ 45)) (fun _ _ => True) A) ([.ref m0, .int a0, .int a1, .int a2, .int a3] : List Value).toArray s 0 0 A) (F0 m 14 ls [.int n1]) := by
    intro n1 H locs ls i_n1 hn1 hP hS hl
    refine lv_istore (lv' := [(5, .int n1), (0, .ref m0), (1, .int a0), (2, .int a1), (3, .int a2), (4, .int a3)]) hx hb dX6_speedOf_14 hl (by decide) rfl (fun ls hl => ?_)
    have j32_2 : ∀ (n2 : Int32) (H : Heap) (locs : List Loc) (ls : Array Slot), (0 ≤ n2.toInt ∧ n2.toInt ≤ 4) → (n2.toInt = eig a1.toInt a2.toInt) → va_P (dC, dI) vwCl [(m0, .inr (7, [.int vfi, .ref mfi, .long vak, .int vhr, .ref mil, .ref mic, .ref mwi, .int vho, .int vga, .ref mmo, .int vns, .ref mki, .ref mce, .ref mgo, .ref mwa, .ref mha, .ref mch, .ref mfo, .ref mca, .ref mor, .ref mro, .ref mra, .ref mpr, .ref mho, .ref mis, .int vsg, .ref mss, .ref msc, .ref msh, .int vpr, .int vfa])), (mki, .inl (cI, 8, .inl Kki)), (mfo, .inl (cI, 8, .inl Kfo))] H → va_S A s.heap H locs → lv_has ls 8 [(5, .int n1), (0, .ref m0), (1, .int a0), (2, .int a1), (3, .int a2), (4, .int a3)] → W p l e ({ frames := 0, cells := 0, slots := 0, locals := 0 } : Room) s m ([.ref m0, .int a0, .int a1, .int a2, .int a3] : List Value).toArray below meth c H locs 0 0 (MQ below (va_Qi (fun (r : Int32) (_ : Unit) => (r.toInt = spd (Kki a0.toNatClampNeg).toInt (Kfo a0.toNatClampNeg).toInt a1.toInt a2.toInt a3.toInt) ∧ (0 ≤ r.toInt ∧ r.toInt ≤ 45)) (fun _ _ => True) A) ([.ref m0, .int a0, .int a1, .int a2, .int a3] : List Value).toArray s 0 0 A) (F0 m 32 ls [.int n2]) := by
      intro n2 H locs ls i_n2 hn2 hP hS hl
      refine lv_istore (lv' := [(5, .int n2), (0, .ref m0), (1, .int a0), (2, .int a1), (3, .int a2), (4, .int a3)]) hx hb dX6_speedOf_32 hl (by decide) rfl (fun ls hl => ?_)
      have j52_3 : ∀ (by1 : Int32) (H : Heap) (locs : List Loc) (ls : Array Slot), (0 ≤ by1.toInt ∧ by1.toInt ≤ 27) → (by1.toInt = if n2.toInt = 4 then 2 * a3.toInt else if n2.toInt = 3 then 3 * a3.toInt else if n2.toInt = 2 then 2 * a3.toInt else if n2.toInt = 1 then a3.toInt else 0) → va_P (dC, dI) vwCl [(m0, .inr (7, [.int vfi, .ref mfi, .long vak, .int vhr, .ref mil, .ref mic, .ref mwi, .int vho, .int vga, .ref mmo, .int vns, .ref mki, .ref mce, .ref mgo, .ref mwa, .ref mha, .ref mch, .ref mfo, .ref mca, .ref mor, .ref mro, .ref mra, .ref mpr, .ref mho, .ref mis, .int vsg, .ref mss, .ref msc, .ref msh, .int vpr, .int vfa])), (mki, .inl (cI, 8, .inl Kki)), (mfo, .inl (cI, 8, .inl Kfo))] H → va_S A s.heap H locs → lv_has ls 8 [(5, .int n2), (0, .ref m0), (1, .int a0), (2, .int a1), (3, .int a2), (4, .int a3)] → W p l e ({ frames := 0, cells := 0, slots := 0, locals := 0 } : Room) s m ([.ref m0, .int a0, .int a1, .int a2, .int a3] : List Value).toArray below meth c H locs 0 0 (MQ below (va_Qi (fun (r : Int32) (_ : Unit) => (r.toInt = spd (Kki a0.toNatClampNeg).toInt (Kfo a0.toNatClampNeg).toInt a1.toInt a2.toInt a3.toInt) ∧ (0 ≤ r.toInt ∧ r.toInt ≤ 45)) (fun _ _ => True) A) ([.ref m0, .int a0, .int a1, .int a2, .int a3] : List Value).toArray s 0 0 A) (F0 m 52 ls [.int by1]) := by
        intro by1 H locs ls i_by1 hby1 hP hS hl
        refine lv_istore (lv' := [(6, .int by1), (5, .int n2), (0, .ref m0), (1, .int a0), (2, .int a1), (3, .int a2), (4, .int a3)]) hx hb dX6_speedOf_52 hl (by decide) rfl (fun ls hl => ?_)
        have j72_4 : ∀ (mo : Int32) (H : Heap) (locs : List Loc) (ls : Array Slot), (0 ≤ mo.toInt ∧ mo.toInt ≤ 9) → (mo.toInt = if (n2.toInt = 2 ∨ n2.toInt = 3) then a3.toInt else 0) → va_P (dC, dI) vwCl [(m0, .inr (7, [.int vfi, .ref mfi, .long vak, .int vhr, .ref mil, .ref mic, .ref mwi, .int vho, .int vga, .ref mmo, .int vns, .ref mki, .ref mce, .ref mgo, .ref mwa, .ref mha, .ref mch, .ref mfo, .ref mca, .ref mor, .ref mro, .ref mra, .ref mpr, .ref mho, .ref mis, .int vsg, .ref mss, .ref msc, .ref msh, .int vpr, .int vfa])), (mki, .inl (cI, 8, .inl Kki)), (mfo, .inl (cI, 8, .inl Kfo))] H → va_S A s.heap H locs → lv_has ls 8 [(6, .int by1), (5, .int n2), (0, .ref m0), (1, .int a0), (2, .int a1), (3, .int a2), (4, .int a3)] → W p l e ({ frames := 0, cells := 0, slots := 0, locals := 0 } : Room) s m ([.ref m0, .int a0, .int a1, .int a2, .int a3] : List Value).toArray below meth c H locs 0 0 (MQ below (va_Qi (fun (r : Int32) (_ : Unit) => (r.toInt = spd (Kki a0.toNatClampNeg).toInt (Kfo a0.toNatClampNeg).toInt a1.toInt a2.toInt a3.toInt) ∧ (0 ≤ r.toInt ∧ r.toInt ≤ 45)) (fun _ _ => True) A) ([.ref m0, .int a0, .int a1, .int a2, .int a3] : List Value).toArray s 0 0 A) (F0 m 72 ls [.int mo]) := by
          intro mo H locs ls i_mo hmo hP hS hl
          refine lv_istore (lv' := [(7, .int mo), (6, .int by1), (5, .int n2), (0, .ref m0), (1, .int a0), (2, .int a1), (3, .int a2), (4, .int a3)]) hx hb dX6_speedOf_72 hl (by decide) rfl (fun ls hl => ?_)
          refine lv_iload hx hb dX6_speedOf_74 (lv_at hl 1 rfl) ?_
          have j109_5 : ∀ (m2 : Int32) (H : Heap) (locs : List Loc) (ls : Array Slot), (0 ≤ m2.toInt ∧ m2.toInt ≤ 18) → (m2.toInt = if (Kki a0.toNatClampNeg).toInt = 1 then mo.toInt else if (Kki a0.toNatClampNeg).toInt = 3 then 2 * mo.toInt else 0) → va_P (dC, dI) vwCl [(m0, .inr (7, [.int vfi, .ref mfi, .long vak, .int vhr, .ref mil, .ref mic, .ref mwi, .int vho, .int vga, .ref mmo, .int vns, .ref mki, .ref mce, .ref mgo, .ref mwa, .ref mha, .ref mch, .ref mfo, .ref mca, .ref mor, .ref mro, .ref mra, .ref mpr, .ref mho, .ref mis, .int vsg, .ref mss, .ref msc, .ref msh, .int vpr, .int vfa])), (mki, .inl (cI, 8, .inl Kki)), (mfo, .inl (cI, 8, .inl Kfo))] H → va_S A s.heap H locs → lv_has ls 8 [(7, .int mo), (6, .int by1), (5, .int n2), (0, .ref m0), (1, .int a0), (2, .int a1), (3, .int a2), (4, .int a3)] → W p l e ({ frames := 0, cells := 0, slots := 0, locals := 0 } : Room) s m ([.ref m0, .int a0, .int a1, .int a2, .int a3] : List Value).toArray below meth c H locs 0 0 (MQ below (va_Qi (fun (r : Int32) (_ : Unit) => (r.toInt = spd (Kki a0.toNatClampNeg).toInt (Kfo a0.toNatClampNeg).toInt a1.toInt a2.toInt a3.toInt) ∧ (0 ≤ r.toInt ∧ r.toInt ≤ 45)) (fun _ _ => True) A) ([.ref m0, .int a0, .int a1, .int a2, .int a3] : List Value).toArray s 0 0 A) (F0 m 109 ls [.int m2, .int by1]) := by
            intro m2 H locs ls i_m2 hm2 hP hS hl
            refine lv_iadd hx hb dX6_speedOf_109 ?_
            refine lv_topi (fun x_6 ex_6 => ?_)
            have tx_6 : x_6.toInt = by1.toInt + m2.toInt := ad_k ex_6 rfl rfl (by omega) (by omega)
            refine lv_istore (lv' := [(6, .int x_6), (7, .int mo), (5, .int n2), (0, .ref m0), (1, .int a0), (2, .int a1), (3, .int a2), (4, .int a3)]) hx hb dX6_speedOf_110 hl (by decide) rfl (fun ls hl => ?_)
            have j129_7 : ∀ (by2 : Int32) (H : Heap) (locs : List Loc) (ls : Array Slot), (0 ≤ by2.toInt ∧ by2.toInt ≤ 45) → (by2.toInt = if (Kki a0.toNatClampNeg).toInt = 2 then 8 else by1.toInt + m2.toInt) → va_P (dC, dI) vwCl [(m0, .inr (7, [.int vfi, .ref mfi, .long vak, .int vhr, .ref mil, .ref mic, .ref mwi, .int vho, .int vga, .ref mmo, .int vns, .ref mki, .ref mce, .ref mgo, .ref mwa, .ref mha, .ref mch, .ref mfo, .ref mca, .ref mor, .ref mro, .ref mra, .ref mpr, .ref mho, .ref mis, .int vsg, .ref mss, .ref msc, .ref msh, .int vpr, .int vfa])), (mki, .inl (cI, 8, .inl Kki)), (mfo, .inl (cI, 8, .inl Kfo))] H → va_S A s.heap H locs → lv_has ls 8 [(6, .int x_6), (7, .int mo), (5, .int n2), (0, .ref m0), (1, .int a0), (2, .int a1), (3, .int a2), (4, .int a3)] → W p l e ({ frames := 0, cells := 0, slots := 0, locals := 0 } : Room) s m ([.ref m0, .int a0, .int a1, .int a2, .int a3] : List Value).toArray below meth c H locs 0 0 (MQ below (va_Qi (fun (r : Int32) (_ : Unit) => (r.toInt = spd (Kki a0.toNatClampNeg).toInt (Kfo a0.toNatClampNeg).toInt a1.toInt a2.toInt a3.toInt) ∧ (0 ≤ r.toInt ∧ r.toInt ≤ 45)) (fun _ _ => True) A) ([.ref m0, .int a0, .int a1, .int a2, .int a3] : List Value).toArray s 0 0 A) (F0 m 129 ls [.int by2]) := by
              intro by2 H locs ls i_by2 hby2 hP hS hl
              refine lv_istore (lv' := [(6, .int by2), (7, .int mo), (5, .int n2), (0, .ref m0), (1, .int a0), (2, .int a1), (3, .int a2), (4, .int a3)]) hx hb dX6_speedOf_129 hl (by decide) rfl (fun ls hl => ?_)
              refine lv_iload hx hb dX6_speedOf_131 (lv_at hl 0 rfl) ?_
              refine lv_aload_n hx hb dX6_speedOf_133 rfl (lv_at hl 3 rfl) ?_
              refine va_get (D := (dC, dI)) (ci := 7) (v := .ref mfo) (C := RX6) (T := TX6) (N := 31) hx hb hts iw_X6_speedOf_X6 hown hK hP 0 rfl rfl 17 (by decide) (hts (.fieldLink RX6 44 "TeaRaceModel" "foulness" "[I") (by decide +kernel)) (fun _ h9 => h9) rfl dX6_speedOf_134 ?_
              refine lv_iload_n hx hb dX6_speedOf_137 rfl (lv_at hl 4 rfl) ?_
              refine va_iald hx hb hK hP 2 0 rfl rfl (in_k rfl (by omega) (by omega)) dX6_speedOf_138 ?_
              refine lv_topi (fun x_8 ex_8 => ?_)
              have rx_8 := congrArg Int32.toInt ex_8
              have gx_8 : 0 ≤ x_8.toInt ∧ x_8.toInt ≤ 9 := Rg.at R_Kfo rfl (by omega) (by omega) ex_8
              refine lv_icmp_le (tgt := 154) hx hb dX6_speedOf_139 (by decide) (fun c_9 => ?_) (fun c_9 => ?_)
              · skip
                have qc_9 : by2.toInt ≤ x_8.toInt := le_k rfl rfl c_9
                refine lv_iconst (v := 0) hx hb dX6_speedOf_154 (by decide) ?_
                have hv9 : (0 : Int32).toInt = 0 := by decide
                exact W.iret (v := 0) hx hb hr (fun t ht hW => ⟨⟨0, (), rfl, ⟨(spd_of hn2 (by omega) hby1 hmo hm2 hby2 (by (try simp only [Int32.reduceToInt]); (repeat' split) <;> omega)), (by decide)⟩, trivial⟩, hS.F ht⟩) hS.2.2 dX6_speedOf_155
              · skip
                have qc_9 : x_8.toInt < by2.toInt := nle_k rfl rfl c_9
                refine lv_iload hx hb dX6_speedOf_142 (lv_at hl 0 rfl) ?_
                refine lv_aload_n hx hb dX6_speedOf_144 rfl (lv_at hl 3 rfl) ?_
                refine va_get (D := (dC, dI)) (ci := 7) (v := .ref mfo) (C := RX6) (T := TX6) (N := 31) hx hb hts iw_X6_speedOf_X6 hown hK hP 0 rfl rfl 17 (by decide) (hts (.fieldLink RX6 44 "TeaRaceModel" "foulness" "[I") (by decide +kernel)) (fun _ h9 => h9) rfl dX6_speedOf_145 ?_
                refine lv_iload_n hx hb dX6_speedOf_148 rfl (lv_at hl 4 rfl) ?_
                refine va_iald hx hb hK hP 2 0 rfl rfl (in_k rfl (by omega) (by omega)) dX6_speedOf_149 ?_
                refine lv_topi (fun x_10 ex_10 => ?_)
                have rx_10 := congrArg Int32.toInt ex_10
                obtain rfl : x_8 = x_10 := ex_8.trans ex_10.symm
                refine lv_isub hx hb dX6_speedOf_150 ?_
                refine lv_topi (fun x_11 ex_11 => ?_)
                have tx_11 : x_11.toInt = by2.toInt - x_8.toInt := su_k ex_11 rfl rfl (by omega) (by omega)
                refine lv_goto (tgt := 155) hx hb dX6_speedOf_151 (by decide) ?_
                exact W.iret (v := x_11) hx hb hr (fun t ht hW => ⟨⟨x_11, (), rfl, ⟨(spd_of hn2 (by omega) hby1 hmo hm2 hby2 (by (try simp only [Int32.reduceToInt]); (repeat' split) <;> omega)), ⟨by omega, by omega⟩⟩, trivial⟩, hS.F ht⟩) hS.2.2 dX6_speedOf_155
            refine lv_aload_n hx hb dX6_speedOf_112 rfl (lv_at hl 3 rfl) ?_
            refine va_get (D := (dC, dI)) (ci := 7) (v := .ref mki) (C := RX6) (T := TX6) (N := 31) hx hb hts iw_X6_speedOf_X6 hown hK hP 0 rfl rfl 11 (by decide) (hts (.fieldLink RX6 26 "TeaRaceModel" "kinds" "[I") (by decide +kernel)) (fun _ h9 => h9) rfl dX6_speedOf_113 ?_
            refine lv_iload_n hx hb dX6_speedOf_116 rfl (lv_at hl 4 rfl) ?_
            refine va_iald hx hb hK hP 1 0 rfl rfl (in_k rfl (by omega) (by omega)) dX6_speedOf_117 ?_
            refine lv_topi (fun x_12 ex_12 => ?_)
            have rx_12 := congrArg Int32.toInt ex_12
            have gx_12 : 0 ≤ x_12.toInt ∧ x_12.toInt ≤ 3 := Rg.at R_Kki rfl (by omega) (by omega) ex_12
            refine lv_iconst (v := 2) hx hb dX6_speedOf_118 (by decide) ?_
            refine lv_icmp_ne (tgt := 127) hx hb dX6_speedOf_119 (by decide) (fun c_13 => ?_) (fun c_13 => ?_)
            · skip
              have qc_13 : x_12.toInt ≠ 2 := ne_k rfl (by decide) c_13
              refine lv_iload hx hb dX6_speedOf_127 (lv_at hl 0 rfl) ?_
              exact j129_7 x_6 _ _ ls ⟨by omega, by omega⟩ (by (try simp only [Int32.reduceToInt]); (repeat' split) <;> omega) hP hS (lv_sub hl [0, 1, 2, 3, 4, 5, 6, 7] rfl)
            · skip
              have qc_13 : x_12.toInt = 2 := eq_k rfl (by decide) c_13
              refine lv_bipush (v := 8) hx hb dX6_speedOf_122 (by decide) ?_
              refine lv_goto (tgt := 129) hx hb dX6_speedOf_124 (by decide) ?_
              exact j129_7 8 _ _ ls (by decide) (by (try simp only [Int32.reduceToInt]); (repeat' split) <;> omega) hP hS (lv_sub hl [0, 1, 2, 3, 4, 5, 6, 7] rfl)
          refine lv_aload_n hx hb dX6_speedOf_76 rfl (lv_at hl 3 rfl) ?_
          refine va_get (D := (dC, dI)) (ci := 7) (v := .ref mki) (C := RX6) (T := TX6) (N := 31) hx hb hts iw_X6_speedOf_X6 hown hK hP 0 rfl rfl 11 (by decide) (hts (.fieldLink RX6 26 "TeaRaceModel" "kinds" "[I") (by decide +kernel)) (fun _ h9 => h9) rfl dX6_speedOf_77 ?_
          refine lv_iload_n hx hb dX6_speedOf_80 rfl (lv_at hl 4 rfl) ?_
          refine va_iald hx hb hK hP 1 0 rfl rfl (in_k rfl (by omega) (by omega)) dX6_speedOf_81 ?_
          refine lv_topi (fun x_14 ex_14 => ?_)
          have rx_14 := congrArg Int32.toInt ex_14
          have gx_14 : 0 ≤ x_14.toInt ∧ x_14.toInt ≤ 3 := Rg.at R_Kki rfl (by omega) (by omega) ex_14
          refine lv_iconst (v := 1) hx hb dX6_speedOf_82 (by decide) ?_
          refine lv_icmp_ne (tgt := 91) hx hb dX6_speedOf_83 (by decide) (fun c_15 => ?_) (fun c_15 => ?_)
          · skip
            have qc_15 : x_14.toInt ≠ 1 := ne_k rfl (by decide) c_15
            refine lv_aload_n hx hb dX6_speedOf_91 rfl (lv_at hl 3 rfl) ?_
            refine va_get (D := (dC, dI)) (ci := 7) (v := .ref mki) (C := RX6) (T := TX6) (N := 31) hx hb hts iw_X6_speedOf_X6 hown hK hP 0 rfl rfl 11 (by decide) (hts (.fieldLink RX6 26 "TeaRaceModel" "kinds" "[I") (by decide +kernel)) (fun _ h9 => h9) rfl dX6_speedOf_92 ?_
            refine lv_iload_n hx hb dX6_speedOf_95 rfl (lv_at hl 4 rfl) ?_
            refine va_iald hx hb hK hP 1 0 rfl rfl (in_k rfl (by omega) (by omega)) dX6_speedOf_96 ?_
            refine lv_topi (fun x_16 ex_16 => ?_)
            have rx_16 := congrArg Int32.toInt ex_16
            obtain rfl : x_14 = x_16 := ex_14.trans ex_16.symm
            refine lv_iconst (v := 3) hx hb dX6_speedOf_97 (by decide) ?_
            refine lv_icmp_ne (tgt := 108) hx hb dX6_speedOf_98 (by decide) (fun c_17 => ?_) (fun c_17 => ?_)
            · skip
              have qc_17 : x_14.toInt ≠ 3 := ne_k rfl (by decide) c_17
              refine lv_iconst (v := 0) hx hb dX6_speedOf_108 (by decide) ?_
              exact j109_5 0 _ _ ls (by decide) (by (try simp only [Int32.reduceToInt]); (repeat' split) <;> omega) hP hS (lv_sub hl [0, 1, 2, 3, 4, 5, 6, 7] rfl)
            · skip
              have qc_17 : x_14.toInt = 3 := eq_k rfl (by decide) c_17
              refine lv_iconst (v := 2) hx hb dX6_speedOf_101 (by decide) ?_
              refine lv_iload hx hb dX6_speedOf_102 (lv_at hl 0 rfl) ?_
              refine lv_imul hx hb dX6_speedOf_104 ?_
              refine lv_topi (fun x_18 ex_18 => ?_)
              have tx_18 : x_18.toInt = 2 * mo.toInt := mu_k ex_18 (by decide) rfl (by omega) (by omega)
              refine lv_goto (tgt := 109) hx hb dX6_speedOf_105 (by decide) ?_
              exact j109_5 x_18 _ _ ls ⟨by omega, by omega⟩ (by (try simp only [Int32.reduceToInt]); (repeat' split) <;> omega) hP hS (lv_sub hl [0, 1, 2, 3, 4, 5, 6, 7] rfl)
          · skip
            have qc_15 : x_14.toInt = 1 := eq_k rfl (by decide) c_15
            refine lv_iload hx hb dX6_speedOf_86 (lv_at hl 0 rfl) ?_
            refine lv_goto (tgt := 109) hx hb dX6_speedOf_88 (by decide) ?_
            exact j109_5 mo _ _ ls ⟨by omega, by omega⟩ (by (try simp only [Int32.reduceToInt]); (repeat' split) <;> omega) hP hS (lv_sub hl [0, 1, 2, 3, 4, 5, 6, 7] rfl)
        refine lv_iload hx hb dX6_speedOf_54 (lv_at hl 1 rfl) ?_
        refine lv_iconst (v := 2) hx hb dX6_speedOf_56 (by decide) ?_
        refine lv_icmp_eq (tgt := 66) hx hb dX6_speedOf_57 (by decide) (fun c_19 => ?_) (fun c_19 => ?_)
        · skip
          have qc_19 : n2.toInt = 2 := eq_k rfl (by decide) c_19
          refine lv_iload hx hb dX6_speedOf_66 (lv_at hl 6 rfl) ?_
          refine lv_goto (tgt := 72) hx hb dX6_speedOf_68 (by decide) ?_
          exact j72_4 a3 _ _ ls ⟨by omega, by omega⟩ (by (try simp only [Int32.reduceToInt]); (repeat' split) <;> omega) hP hS (lv_sub hl [0, 1, 2, 3, 4, 5, 6] rfl)
        · skip
          have qc_19 : n2.toInt ≠ 2 := ne_k rfl (by decide) c_19
          refine lv_iload hx hb dX6_speedOf_60 (lv_at hl 1 rfl) ?_
          refine lv_iconst (v := 3) hx hb dX6_speedOf_62 (by decide) ?_
          refine lv_icmp_ne (tgt := 71) hx hb dX6_speedOf_63 (by decide) (fun c_20 => ?_) (fun c_20 => ?_)
          · skip
            have qc_20 : n2.toInt ≠ 3 := ne_k rfl (by decide) c_20
            refine lv_iconst (v := 0) hx hb dX6_speedOf_71 (by decide) ?_
            exact j72_4 0 _ _ ls (by decide) (by (try simp only [Int32.reduceToInt]); (repeat' split) <;> omega) hP hS (lv_sub hl [0, 1, 2, 3, 4, 5, 6] rfl)
          · skip
            have qc_20 : n2.toInt = 3 := eq_k rfl (by decide) c_20
            refine lv_iload hx hb dX6_speedOf_66 (lv_at hl 6 rfl) ?_
            refine lv_goto (tgt := 72) hx hb dX6_speedOf_68 (by decide) ?_
            exact j72_4 a3 _ _ ls ⟨by omega, by omega⟩ (by (try simp only [Int32.reduceToInt]); (repeat' split) <;> omega) hP hS (lv_sub hl [0, 1, 2, 3, 4, 5, 6] rfl)
      refine lv_iload hx hb dX6_speedOf_34 (lv_at hl 0 rfl) ?_
      refine lv_iconst (v := 4) hx hb dX6_speedOf_36 (by decide) ?_
      refine lv_icmp_ne (tgt := 47) hx hb dX6_speedOf_37 (by decide) (fun c_21 => ?_) (fun c_21 => ?_)
      · skip
        have qc_21 : n2.toInt ≠ 4 := ne_k rfl (by decide) c_21
        refine lv_iload hx hb dX6_speedOf_47 (lv_at hl 0 rfl) ?_
        refine lv_iload hx hb dX6_speedOf_49 (lv_at hl 5 rfl) ?_
        refine lv_imul hx hb dX6_speedOf_51 ?_
        refine lv_topi (fun x_22 ex_22 => ?_)
        have tx_22 : 0 ≤ x_22.toInt ∧ x_22.toInt ≤ 27 := mu_b ex_22 (by omega) (p := 3) (by omega) (by omega) (q := 9) (by omega) (by decide)
        exact j52_3 x_22 _ _ ls ⟨by omega, by omega⟩ (by first | (have h9 := mul5 ex_22 (by omega) (by omega); (repeat' split at h9) <;> (repeat' split) <;> omega) | ((repeat' split) <;> omega)) hP hS (lv_sub hl [0, 1, 2, 3, 4, 5] rfl)
      · skip
        have qc_21 : n2.toInt = 4 := eq_k rfl (by decide) c_21
        refine lv_iconst (v := 2) hx hb dX6_speedOf_40 (by decide) ?_
        refine lv_iload hx hb dX6_speedOf_41 (lv_at hl 5 rfl) ?_
        refine lv_imul hx hb dX6_speedOf_43 ?_
        refine lv_topi (fun x_23 ex_23 => ?_)
        have tx_23 : x_23.toInt = 2 * a3.toInt := mu_k ex_23 (by decide) rfl (by omega) (by omega)
        refine lv_goto (tgt := 52) hx hb dX6_speedOf_44 (by decide) ?_
        exact j52_3 x_23 _ _ ls ⟨by omega, by omega⟩ (by (repeat' split) <;> omega) hP hS (lv_sub hl [0, 1, 2, 3, 4, 5] rfl)
    refine lv_iload hx hb dX6_speedOf_16 (lv_at hl 0 rfl) ?_
    refine lv_iconst (v := 4) hx hb dX6_speedOf_18 (by decide) ?_
    refine lv_icmp_le (tgt := 30) hx hb dX6_speedOf_19 (by decide) (fun c_24 => ?_) (fun c_24 => ?_)
    · skip
      have qc_24 : n1.toInt ≤ 4 := le_k rfl (by decide) c_24
      refine lv_iload hx hb dX6_speedOf_30 (lv_at hl 0 rfl) ?_
      exact j32_2 n1 _ _ ls ⟨by omega, by omega⟩ (by unfold eig; (repeat' split at hn1) <;> (repeat' split) <;> omega) hP hS (lv_sub hl [0, 1, 2, 3, 4, 5] rfl)
    · skip
      have qc_24 : 4 < n1.toInt := nle_k rfl (by decide) c_24
      refine lv_bipush (v := 8) hx hb dX6_speedOf_22 (by decide) ?_
      refine lv_iload hx hb dX6_speedOf_24 (lv_at hl 0 rfl) ?_
      refine lv_isub hx hb dX6_speedOf_26 ?_
      refine lv_topi (fun x_25 ex_25 => ?_)
      have tx_25 : x_25.toInt = 8 - n1.toInt := su_k ex_25 (by decide) rfl (by omega) (by omega)
      refine lv_goto (tgt := 32) hx hb dX6_speedOf_27 (by decide) ?_
      exact j32_2 x_25 _ _ ls ⟨by omega, by omega⟩ (by unfold eig; (repeat' split at hn1) <;> (repeat' split) <;> omega) hP hS (lv_sub hl [0, 1, 2, 3, 4, 5] rfl)
  refine lv_iload_n hx hb dX6_speedOf_0 rfl (lv_at hl 2 rfl) ?_
  refine lv_iload_n hx hb dX6_speedOf_1 rfl (lv_at hl 3 rfl) ?_
  refine lv_icmp_le (tgt := 11) hx hb dX6_speedOf_2 (by decide) (fun c_26 => ?_) (fun c_26 => ?_)
  · skip
    have qc_26 : a1.toInt ≤ a2.toInt := le_k rfl rfl c_26
    refine lv_iload_n hx hb dX6_speedOf_11 rfl (lv_at hl 3 rfl) ?_
    refine lv_iload_n hx hb dX6_speedOf_12 rfl (lv_at hl 2 rfl) ?_
    refine lv_isub hx hb dX6_speedOf_13 ?_
    refine lv_topi (fun x_27 ex_27 => ?_)
    have tx_27 : x_27.toInt = a2.toInt - a1.toInt := su_k ex_27 rfl rfl (by omega) (by omega)
    exact j14_1 x_27 _ _ ls ⟨by omega, by omega⟩ (by (try simp only [Int32.reduceToInt]); (repeat' split) <;> omega) hP hS (lv_sub hl [0, 1, 2, 3, 4] rfl)
  · skip
    have qc_26 : a2.toInt < a1.toInt := nle_k rfl rfl c_26
    refine lv_iload_n hx hb dX6_speedOf_5 rfl (lv_at hl 2 rfl) ?_
    refine lv_iload_n hx hb dX6_speedOf_6 rfl (lv_at hl 3 rfl) ?_
    refine lv_isub hx hb dX6_speedOf_7 ?_
    refine lv_topi (fun x_28 ex_28 => ?_)
    have tx_28 : x_28.toInt = a1.toInt - a2.toInt := su_k ex_28 rfl rfl (by omega) (by omega)
    refine lv_goto (tgt := 14) hx hb dX6_speedOf_8 (by decide) ?_
    exact j14_1 x_28 _ _ ls ⟨by omega, by omega⟩ (by (try simp only [Int32.reduceToInt]); (repeat' split) <;> omega) hP hS (lv_sub hl [0, 1, 2, 3, 4] rfl)
set_option maxRecDepth 20000 in
theorem iw_X6_mark_X6 : ∀ w ∈ wsX60, w ∈ wsX6_mark := fun w h => (List.mem_cons_of_mem _ (List.mem_append_right _ h))
set_option maxHeartbeats 4000000 in
set_option maxRecDepth 100000 in
/-- reference: mark -/
theorem c_X6_mark (l : Launch) (dC : Nat → ClassId) (dI : Nat → Nat → Nat) (sz : Nat) (m0 : Nat) (mfi : Nat) (mil : Nat) (mic : Nat) (mwi : Nat) (mmo : Nat) (mki : Nat) (mce : Nat) (mgo : Nat) (mwa : Nat) (mha : Nat) (mch : Nat) (mfo : Nat) (mca : Nat) (mor : Nat) (mro : Nat) (mra : Nat) (mpr : Nat) (mho : Nat) (mis : Nat) (mss : Nat) (msc : Nat) (msh : Nat) (vfi : Int32) (vhr : Int32) (vho : Int32) (vga : Int32) (vns : Int32) (vsg : Int32) (vpr : Int32) (vfa : Int32) (vak : Int64) (Kki : Nat → Int32) (Kor : Nat → Int32) (Kca : Nat → Int32) (Kfo : Nat → Int32) (Kfi : Nat → Int32) (cI : ClassId) (a0 : Int32) (a1 : Int32) (i_vns : 0 ≤ vns.toInt ∧ vns.toInt ≤ 8) (R_Kki : Rg 8 0 3 Kki) (R_Kor : Rg 8 0 20 Kor) (R_Kfo : Rg 8 0 9 Kfo) : Met l yX6_mark wsX6_mark ({ frames := 2, cells := 0, slots := 0, locals := 43 }) (va_Pc [.ref m0, .int a0, .int a1] (fun U => U.heap.size = sz ∧ va_P (dC, dI) vwCl [(m0, .inr (7, [.int vfi, .ref mfi, .long vak, .int vhr, .ref mil, .ref mic, .ref mwi, .int vho, .int vga, .ref mmo, .int vns, .ref mki, .ref mce, .ref mgo, .ref mwa, .ref mha, .ref mch, .ref mfo, .ref mca, .ref mor, .ref mro, .ref mra, .ref mpr, .ref mho, .ref mis, .int vsg, .ref mss, .ref msc, .ref msh, .int vpr, .int vfa])), (mki, .inl (cI, 8, .inl Kki)), (mor, .inl (cI, 8, .inl Kor)), (mca, .inl (cI, 8, .inl Kca)), (mfo, .inl (cI, 8, .inl Kfo)), (mfi, .inl (cI, 6, .inl Kfi))] U.heap ∧ va_K (dC, dI) vwCl [(cI, .int)] U ∧ NW U ∧ va_D (fun _ => True) [(m0, .inr (7, [.int vfi, .ref mfi, .long vak, .int vhr, .ref mil, .ref mic, .ref mwi, .int vho, .int vga, .ref mmo, .int vns, .ref mki, .ref mce, .ref mgo, .ref mwa, .ref mha, .ref mch, .ref mfo, .ref mca, .ref mor, .ref mro, .ref mra, .ref mpr, .ref mho, .ref mis, .int vsg, .ref mss, .ref msc, .ref msh, .int vpr, .int vfa])), (mki, .inl (cI, 8, .inl Kki)), (mor, .inl (cI, 8, .inl Kor)), (mca, .inl (cI, 8, .inl Kca)), (mfo, .inl (cI, 8, .inl Kfo)), (mfi, .inl (cI, 6, .inl Kfi))])) (va_Qi (fun (r : Int32) (u : Int32 × (Nat → Int32)) => (r.toInt = if ((0 ≤ a0.toInt ∧ a0.toInt < vns.toInt) ∧ (1 ≤ a1.toInt ∧ a1.toInt ≤ 3)) then (if ((Kki a0.toNatClampNeg).toInt = a1.toInt ∨ ((Kki a0.toNatClampNeg).toInt = 3 ∧ a1.toInt = 1)) then (if a1.toInt = 1 then (Kor a0.toNatClampNeg).toInt else if a1.toInt = 2 then spd 2 (Kfo a0.toNatClampNeg).toInt 0 0 0 else (Kca a0.toNatClampNeg).toInt) else -3) else -1) ∧ (u.1 = fndL (if (((0 ≤ a0.toInt ∧ a0.toInt < vns.toInt) ∧ (1 ≤ a1.toInt ∧ a1.toInt ≤ 3)) ∧ ¬ ((Kki a0.toNatClampNeg).toInt = a1.toInt ∨ ((Kki a0.toNatClampNeg).toInt = 3 ∧ a1.toInt = 1))) then (3 : Int32) else 0) vfi) ∧ (u.2 = fndK (if (((0 ≤ a0.toInt ∧ a0.toInt < vns.toInt) ∧ (1 ≤ a1.toInt ∧ a1.toInt ≤ 3)) ∧ ¬ ((Kki a0.toNatClampNeg).toInt = a1.toInt ∨ ((Kki a0.toNatClampNeg).toInt = 3 ∧ a1.toInt = 1))) then (3 : Int32) else 0) Kfi)) (fun u t => va_P (dC, dI) vwCl [(m0, .inr (7, [.int u.1, .ref mfi, .long vak, .int vhr, .ref mil, .ref mic, .ref mwi, .int vho, .int vga, .ref mmo, .int vns, .ref mki, .ref mce, .ref mgo, .ref mwa, .ref mha, .ref mch, .ref mfo, .ref mca, .ref mor, .ref mro, .ref mra, .ref mpr, .ref mho, .ref mis, .int vsg, .ref mss, .ref msc, .ref msh, .int vpr, .int vfa])), (mki, .inl (cI, 8, .inl Kki)), (mor, .inl (cI, 8, .inl Kor)), (mca, .inl (cI, 8, .inl Kca)), (mfo, .inl (cI, 8, .inl Kfo)), (mfi, .inl (cI, 6, .inl u.2))] t.heap ∧ va_K (dC, dI) vwCl [(cI, .int)] t ∧ va_D (va_A [(m0, .inr (7, [.int vfi, .ref mfi, .long vak, .int vhr, .ref mil, .ref mic, .ref mwi, .int vho, .int vga, .ref mmo, .int vns, .ref mki, .ref mce, .ref mgo, .ref mwa, .ref mha, .ref mch, .ref mfo, .ref mca, .ref mor, .ref mro, .ref mra, .ref mpr, .ref mho, .ref mis, .int vsg, .ref mss, .ref msc, .ref msh, .int vpr, .int vfa])), (mki, .inl (cI, 8, .inl Kki)), (mor, .inl (cI, 8, .inl Kor)), (mca, .inl (cI, 8, .inl Kca)), (mfo, .inl (cI, 8, .inl Kfo)), (mfi, .inl (cI, 6, .inl Kfi))] sz) [(m0, .inr (7, [.int u.1, .ref mfi, .long vak, .int vhr, .ref mil, .ref mic, .ref mwi, .int vho, .int vga, .ref mmo, .int vns, .ref mki, .ref mce, .ref mgo, .ref mwa, .ref mha, .ref mch, .ref mfo, .ref mca, .ref mor, .ref mro, .ref mra, .ref mpr, .ref mho, .ref mis, .int vsg, .ref mss, .ref msc, .ref msh, .int vpr, .int vfa])), (mki, .inl (cI, 8, .inl Kki)), (mor, .inl (cI, 8, .inl Kor)), (mca, .inl (cI, 8, .inl Kca)), (mfo, .inl (cI, 8, .inl Kfo)), (mfi, .inl (cI, 6, .inl u.2))]) (va_A [(m0, .inr (7, [.int vfi, .ref mfi, .long vak, .int vhr, .ref mil, .ref mic, .ref mwi, .int vho, .int vga, .ref mmo, .int vns, .ref mki, .ref mce, .ref mgo, .ref mwa, .ref mha, .ref mch, .ref mfo, .ref mca, .ref mor, .ref mro, .ref mra, .ref mpr, .ref mho, .ref mis, .int vsg, .ref mss, .ref msc, .ref msh, .int vpr, .int vfa])), (mki, .inl (cI, 8, .inl Kki)), (mor, .inl (cI, 8, .inl Kor)), (mca, .inl (cI, 8, .inl Kca)), (mfo, .inl (cI, 8, .inl Kfo)), (mfi, .inl (cI, 6, .inl Kfi))] sz)) 0 0 (va_A [(m0, .inr (7, [.int vfi, .ref mfi, .long vak, .int vhr, .ref mil, .ref mic, .ref mwi, .int vho, .int vga, .ref mmo, .int vns, .ref mki, .ref mce, .ref mgo, .ref mwa, .ref mha, .ref mch, .ref mfo, .ref mca, .ref mor, .ref mro, .ref mra, .ref mpr, .ref mho, .ref mis, .int vsg, .ref mss, .ref msc, .ref msh, .int vpr, .int vfa])), (mki, .inl (cI, 8, .inl Kki)), (mor, .inl (cI, 8, .inl Kor)), (mca, .inl (cI, 8, .inl Kca)), (mfo, .inl (cI, 8, .inl Kfo)), (mfi, .inl (cI, 6, .inl Kfi))] sz) := by
  refine Met.ofW (cc := cX6_mark) (maxL := 4) (ret := (some .int)) (by decide) rfl ?_
  intro p e s m args below meth c s₁ B hml hv
  obtain ⟨rfl, hsz, hP, hK, hN, hD0⟩ := hv
  have hx := B.exec
  have hb := B.bytes
  have hr := B.returns
  have hts := atoms_spec (ws := wsX6_mark) B.pre
  have hown : s.vm.findClass RX6 = some m.cls := findClass_of_methodNamed B.named
  have hlocks := B.notSynchronized
  subst hsz
  have hD := hD0.self (sz := s.heap.size)
  generalize hAe : va_A [(m0, .inr (7, [.int vfi, .ref mfi, .long vak, .int vhr, .ref mil, .ref mic, .ref mwi, .int vho, .int vga, .ref mmo, .int vns, .ref mki, .ref mce, .ref mgo, .ref mwa, .ref mha, .ref mch, .ref mfo, .ref mca, .ref mor, .ref mro, .ref mra, .ref mpr, .ref mho, .ref mis, .int vsg, .ref mss, .ref msc, .ref msh, .int vpr, .int vfa])), (mki, .inl (cI, 8, .inl Kki)), (mor, .inl (cI, 8, .inl Kor)), (mca, .inl (cI, 8, .inl Kca)), (mfo, .inl (cI, 8, .inl Kfo)), (mfi, .inl (cI, 6, .inl Kfi))] s.heap.size = A at hD ⊢
  have hA : ∀ q : Nat, s.heap.size ≤ q → A q := fun q h => by rw [← hAe]; exact Or.inr h
  have hS : va_S A s.heap s.heap [] := va_S.rf
  have hP : va_P (dC, dI) vwCl [(m0, .inr (7, [.int vfi, .ref mfi, .long vak, .int vhr, .ref mil, .ref mic, .ref mwi, .int vho, .int vga, .ref mmo, .int vns, .ref mki, .ref mce, .ref mgo, .ref mwa, .ref mha, .ref mch, .ref mfo, .ref mca, .ref mor, .ref mro, .ref mra, .ref mpr, .ref mho, .ref mis, .int vsg, .ref mss, .ref msc, .ref msh, .int vpr, .int vfa])), (mki, .inl (cI, 8, .inl Kki)), (mor, .inl (cI, 8, .inl Kor)), (mca, .inl (cI, 8, .inl Kca)), (mfo, .inl (cI, 8, .inl Kfo)), (mfi, .inl (cI, 6, .inl Kfi))] s.heap := hP
  have hl := lv_entry ([.ref m0, .int a0, .int a1]) (n := 4) (Nat.le_of_ble_eq_true rfl)
  rw [lg_entry_eq]
  generalize (lg_sl ([.ref m0, .int a0, .int a1]) ++ List.replicate (4 - (lg_sl ([.ref m0, .int a0, .int a1])).length) Slot.unset).toArray = ls at hl ⊢
  have hl : lv_has ls 4 [(0, .ref m0), (1, .int a0), (2, .int a1)] := hl
  refine lv_aload_n hx hb dX6_mark_0 rfl (lv_at hl 0 rfl) ?_
  refine lv_iload_n hx hb dX6_mark_1 rfl (lv_at hl 1 rfl) ?_
  have hPc := hP.sub (ws' := [(m0, .inr (7, [.int vfi, .ref mfi, .long vak, .int vhr, .ref mil, .ref mic, .ref mwi, .int vho, .int vga, .ref mmo, .int vns, .ref mki, .ref mce, .ref mgo, .ref mwa, .ref mha, .ref mch, .ref mfo, .ref mca, .ref mor, .ref mro, .ref mra, .ref mpr, .ref mho, .ref mis, .int vsg, .ref mss, .ref msc, .ref msh, .int vpr, .int vfa]))]) [0] rfl
  have hKc := hK.sub (tys' := []) [] rfl
  refine va_calli (va_runV (As := [.int a0]) (rest := []) ⟨hx, hb, hml, hown, hts⟩ (c_X6_isShip l dC dI s.heap.size m0 mfi mil mic mwi mmo mki mce mgo mwa mha mch mfo mca mor mro mra mpr mho mis mss msc msh vfi vhr vho vga vns vsg vpr vfa vak a0 ⟨(by omega), (by omega)⟩) (cwV 1 hts gX6_mark_X6_isShip rfl rfl rfl (by decide +kernel) ⟨Nat.le_of_ble_eq_true rfl, Nat.le_of_ble_eq_true rfl⟩) ⟨fun a U g mk q => by obtain ⟨q0, q1, qP, qK, qN⟩ := q; exact ⟨q0, q1, qP, va_K.moved (u := U) (U := U.calling g mk a) (Vm.Alike.refl U.vm) qK, NW.same (u := U) (U := U.calling g mk a) rfl qN⟩, va_recv hKc hPc (ci := 7) (q0 := 0) rfl rfl, fun U hU hW => ⟨rfl, by rw [hU], by rw [hU]; exact hPc, va_K.moved hW.alike hKc, NW.warm hW hN⟩⟩ rfl rfl hl.1 rfl (lv_room (Nat.le_of_ble_eq_true rfl)) dX6_mark_2 ⟨(Nat.zero_le _), (Nat.zero_le _)⟩) hS (fun q _ h => ro_A hS hA q h) (ro_A hS hA) (fun r_1 u t H1 locs ht hvm k_2 hB hz1 hk1 hS => ?_)
  have hP := ro_P hk1 hP
  generalize H1 = H at hP hS ⊢
  try dsimp only at k_2
  obtain ⟨k_2, k_3⟩ := k_2
  refine lv_if_eq (tgt := 17) hx hb dX6_mark_5 (by decide) (fun c_4 => ?_) (fun c_4 => ?_)
  · skip
    have b_5 := b01z k_2 c_4
    (try simp only [Int32.lt_iff_toInt_lt, Int32.le_iff_toInt_le, ← Int32.toInt_inj, Int32.reduceToInt, zl1, zl2, zl3, zl4, zl9] at b_5)
    (try simp only [Int32.reduceToInt] at b_5)
    refine lv_iconst (v := (-1)) hx hb dX6_mark_17 (by decide) ?_
    have hP9 := hP.sub (ws' := [(m0, .inr (7, [.int vfi, .ref mfi, .long vak, .int vhr, .ref mil, .ref mic, .ref mwi, .int vho, .int vga, .ref mmo, .int vns, .ref mki, .ref mce, .ref mgo, .ref mwa, .ref mha, .ref mch, .ref mfo, .ref mca, .ref mor, .ref mro, .ref mra, .ref mpr, .ref mho, .ref mis, .int vsg, .ref mss, .ref msc, .ref msh, .int vpr, .int vfa])), (mki, .inl (cI, 8, .inl Kki)), (mor, .inl (cI, 8, .inl Kor)), (mca, .inl (cI, 8, .inl Kca)), (mfo, .inl (cI, 8, .inl Kfo)), (mfi, .inl (cI, 6, .inl Kfi))]) [0, 1, 2, 3, 4, 5] rfl
    have hD9 := hD.sub (ws' := [(m0, .inr (7, [.int vfi, .ref mfi, .long vak, .int vhr, .ref mil, .ref mic, .ref mwi, .int vho, .int vga, .ref mmo, .int vns, .ref mki, .ref mce, .ref mgo, .ref mwa, .ref mha, .ref mch, .ref mfo, .ref mca, .ref mor, .ref mro, .ref mra, .ref mpr, .ref mho, .ref mis, .int vsg, .ref mss, .ref msc, .ref msh, .int vpr, .int vfa])), (mki, .inl (cI, 8, .inl Kki)), (mor, .inl (cI, 8, .inl Kor)), (mca, .inl (cI, 8, .inl Kca)), (mfo, .inl (cI, 8, .inl Kfo)), (mfi, .inl (cI, 6, .inl Kfi))]) [0, 1, 2, 3, 4, 5] (by decide) rfl
    have hK9 := hK.sub (tys' := [(cI, .int)]) [0] rfl
    have hv9 : (-1 : Int32).toInt = (-1) := by decide
    exact W.iret (v := (-1)) hx hb hr (fun t ht hW => ⟨⟨(-1), (vfi, Kfi), rfl, ⟨(by (try simp only [Int32.reduceToInt]); (repeat' split) <;> omega), (by (try dsimp only); (all_goals ((repeat' split) <;> first | rfl | exact (fndL_0 _).symm | exact (fndL_c (by decide)).symm | exact (fndK_0 _).symm | exact (fndK_c (by decide)).symm | (rw [fndK_0]; exact (fndK_c (by decide)).symm) | (exfalso; omega)))), (by (try dsimp only); (all_goals ((repeat' split) <;> first | rfl | exact (fndL_0 _).symm | exact (fndL_c (by decide)).symm | exact (fndK_0 _).symm | exact (fndK_c (by decide)).symm | (rw [fndK_0]; exact (fndK_c (by decide)).symm) | (exfalso; omega))))⟩, ⟨by rw [ht]; exact hP9, va_K.moved hW.alike hK9, hD9⟩⟩, hS.F ht⟩) hS.2.2 dX6_mark_18
  · skip
    have b_6 := b01n k_2 c_4
    (try simp only [Int32.lt_iff_toInt_lt, Int32.le_iff_toInt_le, ← Int32.toInt_inj, Int32.reduceToInt, zl1, zl2, zl3, zl4, zl9] at b_6)
    (try simp only [Int32.reduceToInt] at b_6)
    refine lv_iload_n hx hb dX6_mark_8 rfl (lv_at hl 2 rfl) ?_
    refine lv_iconst (v := 1) hx hb dX6_mark_9 (by decide) ?_
    refine lv_iconst (v := 3) hx hb dX6_mark_10 (by decide) ?_
    refine va_calli (va_runS (As := [.int a1, .int 1, .int 3]) (rest := []) ⟨hx, hb, hml, hown, hts⟩ (c_X6_in l H.size a1 1 3 ) (va_cwS 3 hts gX6_mark_X6_in rfl rfl rfl (by decide +kernel) ⟨Nat.le_of_ble_eq_true rfl, Nat.le_of_ble_eq_true rfl⟩) ⟨fun a U g mk q => by obtain ⟨q0, q1⟩ := q; exact ⟨q0, q1⟩, fun U hU hW => ⟨rfl, congrArg Array.size hU⟩⟩ rfl rfl hl.1 rfl (lv_room (Nat.le_of_ble_eq_true rfl)) dX6_mark_11 ⟨(Nat.zero_le _), (Nat.zero_le _)⟩) hS (fun q _ h => ro_A hS hA q h) (ro_A hS hA) (fun r_7 u t H1 locs ht hvm k_8 hB hz1 hk1 hS => ?_)
    have hP := ro_P hk1 hP
    generalize H1 = H at hP hS ⊢
    try dsimp only at k_8
    obtain ⟨k_8, k_9⟩ := k_8
    refine lv_if_ne (tgt := 19) hx hb dX6_mark_14 (by decide) (fun c_10 => ?_) (fun c_10 => ?_)
    · skip
      have b_11 := b01n k_8 c_10
      (try simp only [Int32.lt_iff_toInt_lt, Int32.le_iff_toInt_le, ← Int32.toInt_inj, Int32.reduceToInt, zl1, zl2, zl3, zl4, zl9] at b_11)
      (try simp only [Int32.reduceToInt] at b_11)
      refine lv_aload_n hx hb dX6_mark_19 rfl (lv_at hl 0 rfl) ?_
      refine va_get (D := (dC, dI)) (ci := 7) (v := .ref mki) (C := RX6) (T := TX6) (N := 31) hx hb hts iw_X6_mark_X6 hown hK hP 0 rfl rfl 11 (by decide) (hts (.fieldLink RX6 26 "TeaRaceModel" "kinds" "[I") (by decide +kernel)) (fun _ h9 => h9) rfl dX6_mark_20 ?_
      refine lv_iload_n hx hb dX6_mark_23 rfl (lv_at hl 1 rfl) ?_
      refine va_iald hx hb hK hP 1 0 rfl rfl (in_k rfl (by omega) (by omega)) dX6_mark_24 ?_
      refine lv_topi (fun x_12 ex_12 => ?_)
      have rx_12 := congrArg Int32.toInt ex_12
      have gx_12 : 0 ≤ x_12.toInt ∧ x_12.toInt ≤ 3 := Rg.at R_Kki rfl (by omega) (by omega) ex_12
      refine lv_istore_n (lv' := [(3, .int x_12), (0, .ref m0), (1, .int a0), (2, .int a1)]) hx hb dX6_mark_25 rfl hl (by decide) rfl (fun ls hl => ?_)
      refine lv_iload_n hx hb dX6_mark_26 rfl (lv_at hl 3 rfl) ?_
      refine lv_iload_n hx hb dX6_mark_27 rfl (lv_at hl 0 rfl) ?_
      refine lv_icmp_eq (tgt := 47) hx hb dX6_mark_28 (by decide) (fun c_13 => ?_) (fun c_13 => ?_)
      · skip
        have qc_13 : a1.toInt = x_12.toInt := eq_k rfl rfl c_13
        refine lv_iload_n hx hb dX6_mark_47 rfl (lv_at hl 3 rfl) ?_
        refine lv_iconst (v := 1) hx hb dX6_mark_48 (by decide) ?_
        refine lv_icmp_ne (tgt := 61) hx hb dX6_mark_49 (by decide) (fun c_14 => ?_) (fun c_14 => ?_)
        · skip
          have qc_14 : a1.toInt ≠ 1 := ne_k rfl (by decide) c_14
          refine lv_iload_n hx hb dX6_mark_61 rfl (lv_at hl 3 rfl) ?_
          refine lv_iconst (v := 2) hx hb dX6_mark_62 (by decide) ?_
          refine lv_icmp_ne (tgt := 77) hx hb dX6_mark_63 (by decide) (fun c_15 => ?_) (fun c_15 => ?_)
          · skip
            have qc_15 : a1.toInt ≠ 2 := ne_k rfl (by decide) c_15
            refine lv_aload_n hx hb dX6_mark_77 rfl (lv_at hl 1 rfl) ?_
            refine va_get (D := (dC, dI)) (ci := 7) (v := .ref mca) (C := RX6) (T := TX6) (N := 31) hx hb hts iw_X6_mark_X6 hown hK hP 0 rfl rfl 18 (by decide) (hts (.fieldLink RX6 47 "TeaRaceModel" "came" "[I") (by decide +kernel)) (fun _ h9 => h9) rfl dX6_mark_78 ?_
            refine lv_iload_n hx hb dX6_mark_81 rfl (lv_at hl 2 rfl) ?_
            refine va_iald hx hb hK hP 3 0 rfl rfl (in_k rfl (by omega) (by omega)) dX6_mark_82 ?_
            refine lv_topi (fun x_16 ex_16 => ?_)
            have rx_16 := congrArg Int32.toInt ex_16
            have hP9 := hP.sub (ws' := [(m0, .inr (7, [.int vfi, .ref mfi, .long vak, .int vhr, .ref mil, .ref mic, .ref mwi, .int vho, .int vga, .ref mmo, .int vns, .ref mki, .ref mce, .ref mgo, .ref mwa, .ref mha, .ref mch, .ref mfo, .ref mca, .ref mor, .ref mro, .ref mra, .ref mpr, .ref mho, .ref mis, .int vsg, .ref mss, .ref msc, .ref msh, .int vpr, .int vfa])), (mki, .inl (cI, 8, .inl Kki)), (mor, .inl (cI, 8, .inl Kor)), (mca, .inl (cI, 8, .inl Kca)), (mfo, .inl (cI, 8, .inl Kfo)), (mfi, .inl (cI, 6, .inl Kfi))]) [0, 1, 2, 3, 4, 5] rfl
            have hD9 := hD.sub (ws' := [(m0, .inr (7, [.int vfi, .ref mfi, .long vak, .int vhr, .ref mil, .ref mic, .ref mwi, .int vho, .int vga, .ref mmo, .int vns, .ref mki, .ref mce, .ref mgo, .ref mwa, .ref mha, .ref mch, .ref mfo, .ref mca, .ref mor, .ref mro, .ref mra, .ref mpr, .ref mho, .ref mis, .int vsg, .ref mss, .ref msc, .ref msh, .int vpr, .int vfa])), (mki, .inl (cI, 8, .inl Kki)), (mor, .inl (cI, 8, .inl Kor)), (mca, .inl (cI, 8, .inl Kca)), (mfo, .inl (cI, 8, .inl Kfo)), (mfi, .inl (cI, 6, .inl Kfi))]) [0, 1, 2, 3, 4, 5] (by decide) rfl
            have hK9 := hK.sub (tys' := [(cI, .int)]) [0] rfl
            exact W.iret (v := x_16) hx hb hr (fun t ht hW => ⟨⟨x_16, (vfi, Kfi), rfl, ⟨(by (try simp only [Int32.reduceToInt]); (repeat' split) <;> omega), (by (try dsimp only); (all_goals ((repeat' split) <;> first | rfl | exact (fndL_0 _).symm | exact (fndL_c (by decide)).symm | exact (fndK_0 _).symm | exact (fndK_c (by decide)).symm | (rw [fndK_0]; exact (fndK_c (by decide)).symm) | (exfalso; omega)))), (by (try dsimp only); (all_goals ((repeat' split) <;> first | rfl | exact (fndL_0 _).symm | exact (fndL_c (by decide)).symm | exact (fndK_0 _).symm | exact (fndK_c (by decide)).symm | (rw [fndK_0]; exact (fndK_c (by decide)).symm) | (exfalso; omega))))⟩, ⟨by rw [ht]; exact hP9, va_K.moved hW.alike hK9, hD9⟩⟩, hS.F ht⟩) hS.2.2 dX6_mark_83
          · skip
            have qc_15 : a1.toInt = 2 := eq_k rfl (by decide) c_15
            refine lv_aload_n hx hb dX6_mark_66 rfl (lv_at hl 1 rfl) ?_
            refine lv_iload_n hx hb dX6_mark_67 rfl (lv_at hl 2 rfl) ?_
            refine lv_iconst (v := 0) hx hb dX6_mark_68 (by decide) ?_
            refine lv_iconst (v := 0) hx hb dX6_mark_69 (by decide) ?_
            refine lv_iconst (v := 0) hx hb dX6_mark_70 (by decide) ?_
            have hPc := hP.sub (ws' := [(m0, .inr (7, [.int vfi, .ref mfi, .long vak, .int vhr, .ref mil, .ref mic, .ref mwi, .int vho, .int vga, .ref mmo, .int vns, .ref mki, .ref mce, .ref mgo, .ref mwa, .ref mha, .ref mch, .ref mfo, .ref mca, .ref mor, .ref mro, .ref mra, .ref mpr, .ref mho, .ref mis, .int vsg, .ref mss, .ref msc, .ref msh, .int vpr, .int vfa])), (mki, .inl (cI, 8, .inl Kki)), (mfo, .inl (cI, 8, .inl Kfo))]) [0, 1, 4] rfl
            have hKc := hK.sub (tys' := [(cI, .int)]) [0] rfl
            refine va_calli (va_runV (As := [.int a0, .int 0, .int 0, .int 0]) (rest := []) ⟨hx, hb, hml, hown, hts⟩ (c_X6_speedOf l dC dI H.size m0 mfi mil mic mwi mmo mki mce mgo mwa mha mch mfo mca mor mro mra mpr mho mis mss msc msh vfi vhr vho vga vns vsg vpr vfa vak Kki Kfo cI a0 0 0 0 ⟨(by omega), (by omega)⟩ (by decide) (by decide) (by decide) R_Kki R_Kfo) (cwV 4 hts gX6_mark_X6_speedOf rfl rfl rfl (by decide +kernel) ⟨Nat.le_of_ble_eq_true rfl, Nat.le_of_ble_eq_true rfl⟩) ⟨fun a U g mk q => by obtain ⟨q0, q1, qP, qK, qN⟩ := q; exact ⟨q0, q1, qP, va_K.moved (u := U) (U := U.calling g mk a) (Vm.Alike.refl U.vm) qK, NW.same (u := U) (U := U.calling g mk a) rfl qN⟩, va_recv hKc hPc (ci := 7) (q0 := 0) rfl rfl, fun U hU hW => ⟨rfl, by rw [hU], by rw [hU]; exact hPc, va_K.moved hW.alike hKc, NW.warm hW hN⟩⟩ rfl rfl hl.1 rfl (lv_room (Nat.le_of_ble_eq_true rfl)) dX6_mark_71 ⟨(Nat.zero_le _), (Nat.zero_le _)⟩) hS (fun q _ h => ro_A hS hA q h) (ro_A hS hA) (fun r_17 u t H1 locs ht hvm k_18 hB hz1 hk1 hS => ?_)
            have hP := ro_P hk1 hP
            generalize H1 = H at hP hS ⊢
            try dsimp only at k_18
            obtain ⟨k_18, k_19⟩ := k_18
            refine lv_goto (tgt := 83) hx hb dX6_mark_74 (by decide) ?_
            have hP9 := hP.sub (ws' := [(m0, .inr (7, [.int vfi, .ref mfi, .long vak, .int vhr, .ref mil, .ref mic, .ref mwi, .int vho, .int vga, .ref mmo, .int vns, .ref mki, .ref mce, .ref mgo, .ref mwa, .ref mha, .ref mch, .ref mfo, .ref mca, .ref mor, .ref mro, .ref mra, .ref mpr, .ref mho, .ref mis, .int vsg, .ref mss, .ref msc, .ref msh, .int vpr, .int vfa])), (mki, .inl (cI, 8, .inl Kki)), (mor, .inl (cI, 8, .inl Kor)), (mca, .inl (cI, 8, .inl Kca)), (mfo, .inl (cI, 8, .inl Kfo)), (mfi, .inl (cI, 6, .inl Kfi))]) [0, 1, 2, 3, 4, 5] rfl
            have hD9 := hD.sub (ws' := [(m0, .inr (7, [.int vfi, .ref mfi, .long vak, .int vhr, .ref mil, .ref mic, .ref mwi, .int vho, .int vga, .ref mmo, .int vns, .ref mki, .ref mce, .ref mgo, .ref mwa, .ref mha, .ref mch, .ref mfo, .ref mca, .ref mor, .ref mro, .ref mra, .ref mpr, .ref mho, .ref mis, .int vsg, .ref mss, .ref msc, .ref msh, .int vpr, .int vfa])), (mki, .inl (cI, 8, .inl Kki)), (mor, .inl (cI, 8, .inl Kor)), (mca, .inl (cI, 8, .inl Kca)), (mfo, .inl (cI, 8, .inl Kfo)), (mfi, .inl (cI, 6, .inl Kfi))]) [0, 1, 2, 3, 4, 5] (by decide) rfl
            have hK9 := hK.sub (tys' := [(cI, .int)]) [0] rfl
            exact W.iret (v := r_17) hx hb hr (fun t ht hW => ⟨⟨r_17, (vfi, Kfi), rfl, ⟨(by have z2 : (Kki a0.toNatClampNeg).toInt = 2 := (by omega); have z1 := k_18; rewrite [z2] at z1; (try simp only [Int32.reduceToInt] at z1); (try simp only [Int32.reduceToInt]); (repeat' split) <;> omega), (by (try dsimp only); (all_goals ((repeat' split) <;> first | rfl | exact (fndL_0 _).symm | exact (fndL_c (by decide)).symm | exact (fndK_0 _).symm | exact (fndK_c (by decide)).symm | (rw [fndK_0]; exact (fndK_c (by decide)).symm) | (exfalso; omega)))), (by (try dsimp only); (all_goals ((repeat' split) <;> first | rfl | exact (fndL_0 _).symm | exact (fndL_c (by decide)).symm | exact (fndK_0 _).symm | exact (fndK_c (by decide)).symm | (rw [fndK_0]; exact (fndK_c (by decide)).symm) | (exfalso; omega))))⟩, ⟨by rw [ht]; exact hP9, va_K.moved hW.alike hK9, hD9⟩⟩, hS.F ht⟩) hS.2.2 dX6_mark_83
        · skip
          have qc_14 : a1.toInt = 1 := eq_k rfl (by decide) c_14
          refine lv_aload_n hx hb dX6_mark_52 rfl (lv_at hl 1 rfl) ?_
          refine va_get (D := (dC, dI)) (ci := 7) (v := .ref mor) (C := RX6) (T := TX6) (N := 31) hx hb hts iw_X6_mark_X6 hown hK hP 0 rfl rfl 19 (by decide) (hts (.fieldLink RX6 50 "TeaRaceModel" "orders" "[I") (by decide +kernel)) (fun _ h9 => h9) rfl dX6_mark_53 ?_
          refine lv_iload_n hx hb dX6_mark_56 rfl (lv_at hl 2 rfl) ?_
          refine va_iald hx hb hK hP 2 0 rfl rfl (in_k rfl (by omega) (by omega)) dX6_mark_57 ?_
          refine lv_topi (fun x_20 ex_20 => ?_)
          have rx_20 := congrArg Int32.toInt ex_20
          have gx_20 : 0 ≤ x_20.toInt ∧ x_20.toInt ≤ 20 := Rg.at R_Kor rfl (by omega) (by omega) ex_20
          refine lv_goto (tgt := 83) hx hb dX6_mark_58 (by decide) ?_
          have hP9 := hP.sub (ws' := [(m0, .inr (7, [.int vfi, .ref mfi, .long vak, .int vhr, .ref mil, .ref mic, .ref mwi, .int vho, .int vga, .ref mmo, .int vns, .ref mki, .ref mce, .ref mgo, .ref mwa, .ref mha, .ref mch, .ref mfo, .ref mca, .ref mor, .ref mro, .ref mra, .ref mpr, .ref mho, .ref mis, .int vsg, .ref mss, .ref msc, .ref msh, .int vpr, .int vfa])), (mki, .inl (cI, 8, .inl Kki)), (mor, .inl (cI, 8, .inl Kor)), (mca, .inl (cI, 8, .inl Kca)), (mfo, .inl (cI, 8, .inl Kfo)), (mfi, .inl (cI, 6, .inl Kfi))]) [0, 1, 2, 3, 4, 5] rfl
          have hD9 := hD.sub (ws' := [(m0, .inr (7, [.int vfi, .ref mfi, .long vak, .int vhr, .ref mil, .ref mic, .ref mwi, .int vho, .int vga, .ref mmo, .int vns, .ref mki, .ref mce, .ref mgo, .ref mwa, .ref mha, .ref mch, .ref mfo, .ref mca, .ref mor, .ref mro, .ref mra, .ref mpr, .ref mho, .ref mis, .int vsg, .ref mss, .ref msc, .ref msh, .int vpr, .int vfa])), (mki, .inl (cI, 8, .inl Kki)), (mor, .inl (cI, 8, .inl Kor)), (mca, .inl (cI, 8, .inl Kca)), (mfo, .inl (cI, 8, .inl Kfo)), (mfi, .inl (cI, 6, .inl Kfi))]) [0, 1, 2, 3, 4, 5] (by decide) rfl
          have hK9 := hK.sub (tys' := [(cI, .int)]) [0] rfl
          exact W.iret (v := x_20) hx hb hr (fun t ht hW => ⟨⟨x_20, (vfi, Kfi), rfl, ⟨(by (try simp only [Int32.reduceToInt]); (repeat' split) <;> omega), (by (try dsimp only); (all_goals ((repeat' split) <;> first | rfl | exact (fndL_0 _).symm | exact (fndL_c (by decide)).symm | exact (fndK_0 _).symm | exact (fndK_c (by decide)).symm | (rw [fndK_0]; exact (fndK_c (by decide)).symm) | (exfalso; omega)))), (by (try dsimp only); (all_goals ((repeat' split) <;> first | rfl | exact (fndL_0 _).symm | exact (fndL_c (by decide)).symm | exact (fndK_0 _).symm | exact (fndK_c (by decide)).symm | (rw [fndK_0]; exact (fndK_c (by decide)).symm) | (exfalso; omega))))⟩, ⟨by rw [ht]; exact hP9, va_K.moved hW.alike hK9, hD9⟩⟩, hS.F ht⟩) hS.2.2 dX6_mark_83
      · skip
        have qc_13 : a1.toInt ≠ x_12.toInt := ne_k rfl rfl c_13
        refine lv_iload_n hx hb dX6_mark_31 rfl (lv_at hl 3 rfl) ?_
        refine lv_iconst (v := 1) hx hb dX6_mark_32 (by decide) ?_
        refine lv_icmp_ne (tgt := 41) hx hb dX6_mark_33 (by decide) (fun c_21 => ?_) (fun c_21 => ?_)
        · skip
          have qc_21 : a1.toInt ≠ 1 := ne_k rfl (by decide) c_21
          refine lv_aload_n hx hb dX6_mark_41 rfl (lv_at hl 1 rfl) ?_
          refine lv_iconst (v := 3) hx hb dX6_mark_42 (by decide) ?_
          have hPc := hP.sub (ws' := [(m0, .inr (7, [.int vfi, .ref mfi, .long vak, .int vhr, .ref mil, .ref mic, .ref mwi, .int vho, .int vga, .ref mmo, .int vns, .ref mki, .ref mce, .ref mgo, .ref mwa, .ref mha, .ref mch, .ref mfo, .ref mca, .ref mor, .ref mro, .ref mra, .ref mpr, .ref mho, .ref mis, .int vsg, .ref mss, .ref msc, .ref msh, .int vpr, .int vfa])), (mfi, .inl (cI, 6, .inl Kfi))]) [0, 5] rfl
          have hDc := hD.sub (ws' := [(m0, .inr (7, [.int vfi, .ref mfi, .long vak, .int vhr, .ref mil, .ref mic, .ref mwi, .int vho, .int vga, .ref mmo, .int vns, .ref mki, .ref mce, .ref mgo, .ref mwa, .ref mha, .ref mch, .ref mfo, .ref mca, .ref mor, .ref mro, .ref mra, .ref mpr, .ref mho, .ref mis, .int vsg, .ref mss, .ref msc, .ref msh, .int vpr, .int vfa])), (mfi, .inl (cI, 6, .inl Kfi))]) [0, 5] (by decide) rfl
          have hKc := hK.sub (tys' := [(cI, .int)]) [0] rfl
          have hFc := va_free (wc := [(m0, .inr (7, [.int vfi, .ref mfi, .long vak, .int vhr, .ref mil, .ref mic, .ref mwi, .int vho, .int vga, .ref mmo, .int vns, .ref mki, .ref mce, .ref mgo, .ref mwa, .ref mha, .ref mch, .ref mfo, .ref mca, .ref mor, .ref mro, .ref mra, .ref mpr, .ref mho, .ref mis, .int vsg, .ref mss, .ref msc, .ref msh, .int vpr, .int vfa])), (mfi, .inl (cI, 6, .inl Kfi))]) hD hS hA [0, 5] rfl
          refine va_calli (va_runV (As := [.int 3]) (rest := []) ⟨hx, hb, hml, hown, hts⟩ (c_X6_meets l dC dI H.size m0 mfi mil mic mwi mmo mki mce mgo mwa mha mch mfo mca mor mro mra mpr mho mis mss msc msh vfi vhr vho vga vns vsg vpr vfa vak Kfi cI 3 (by decide)) (cwV 1 hts gX6_mark_X6_meets rfl rfl rfl (by decide +kernel) ⟨Nat.le_of_ble_eq_true rfl, Nat.le_of_ble_eq_true rfl⟩) ⟨fun a U g mk q => by obtain ⟨q0, q1, qP, qK, qN, qD⟩ := q; exact ⟨q0, q1, qP, va_K.moved (u := U) (U := U.calling g mk a) (Vm.Alike.refl U.vm) qK, NW.same (u := U) (U := U.calling g mk a) rfl qN, qD⟩, va_recv hKc hPc (ci := 7) (q0 := 0) rfl rfl, fun U hU hW => ⟨rfl, by rw [hU], by rw [hU]; exact hPc, va_K.moved hW.alike hKc, NW.warm hW hN, hDc.weaken (fun _ _ _ _ => trivial)⟩⟩ rfl rfl hl.1 rfl (lv_room (Nat.le_of_ble_eq_true rfl)) dX6_mark_43 ⟨(Nat.zero_le _), (Nat.zero_le _)⟩) hS (fun q _ h => hFc q h) hFc (fun r_22 u t H1 locs ht hvm k_23 hB hz1 hk1 hS => ?_)
          obtain ⟨u_24, eu_24⟩ : ∃ z, z = u := ⟨_, rfl⟩
          subst eu_24
          obtain ⟨hP1, hK1, hD1⟩ := hB
          rw [ht] at hP1
          have hK1 := va_K.moved hvm.symm hK1
          obtain ⟨hP, hD⟩ := va_join (wr := [(mki, .inl (cI, 8, .inl Kki)), (mor, .inl (cI, 8, .inl Kor)), (mca, .inl (cI, 8, .inl Kca)), (mfo, .inl (cI, 8, .inl Kfo))]) (w1 := [(m0, .inr (7, [.int 3, .ref mfi, .long vak, .int vhr, .ref mil, .ref mic, .ref mwi, .int vho, .int vga, .ref mmo, .int vns, .ref mki, .ref mce, .ref mgo, .ref mwa, .ref mha, .ref mch, .ref mfo, .ref mca, .ref mor, .ref mro, .ref mra, .ref mpr, .ref mho, .ref mis, .int vsg, .ref mss, .ref msc, .ref msh, .int vpr, .int vfa])), (mfi, .inl (cI, 6, .inl u_24))]) hP hD [0, 5] [1, 2, 3, 4] rfl rfl (by decide) (by decide) hk1 hFc hP1 hD1
          generalize H1 = H at hP hS ⊢
          have hP : va_P (dC, dI) vwCl [(mki, .inl (cI, 8, .inl Kki)), (mor, .inl (cI, 8, .inl Kor)), (mca, .inl (cI, 8, .inl Kca)), (mfo, .inl (cI, 8, .inl Kfo)), (m0, .inr (7, [.int 3, .ref mfi, .long vak, .int vhr, .ref mil, .ref mic, .ref mwi, .int vho, .int vga, .ref mmo, .int vns, .ref mki, .ref mce, .ref mgo, .ref mwa, .ref mha, .ref mch, .ref mfo, .ref mca, .ref mor, .ref mro, .ref mra, .ref mpr, .ref mho, .ref mis, .int vsg, .ref mss, .ref msc, .ref msh, .int vpr, .int vfa])), (mfi, .inl (cI, 6, .inl u_24))] H := hP
          have hD : va_D A [(mki, .inl (cI, 8, .inl Kki)), (mor, .inl (cI, 8, .inl Kor)), (mca, .inl (cI, 8, .inl Kca)), (mfo, .inl (cI, 8, .inl Kfo)), (m0, .inr (7, [.int 3, .ref mfi, .long vak, .int vhr, .ref mil, .ref mic, .ref mwi, .int vho, .int vga, .ref mmo, .int vns, .ref mki, .ref mce, .ref mgo, .ref mwa, .ref mha, .ref mch, .ref mfo, .ref mca, .ref mor, .ref mro, .ref mra, .ref mpr, .ref mho, .ref mis, .int vsg, .ref mss, .ref msc, .ref msh, .int vpr, .int vfa])), (mfi, .inl (cI, 6, .inl u_24))] := hD
          try dsimp only at k_23
          obtain ⟨k_23, k_25, k_26⟩ := k_23
          obtain rfl : r_22 = (-3) := k_23
          have hP9 := hP.sub (ws' := [(m0, .inr (7, [.int 3, .ref mfi, .long vak, .int vhr, .ref mil, .ref mic, .ref mwi, .int vho, .int vga, .ref mmo, .int vns, .ref mki, .ref mce, .ref mgo, .ref mwa, .ref mha, .ref mch, .ref mfo, .ref mca, .ref mor, .ref mro, .ref mra, .ref mpr, .ref mho, .ref mis, .int vsg, .ref mss, .ref msc, .ref msh, .int vpr, .int vfa])), (mki, .inl (cI, 8, .inl Kki)), (mor, .inl (cI, 8, .inl Kor)), (mca, .inl (cI, 8, .inl Kca)), (mfo, .inl (cI, 8, .inl Kfo)), (mfi, .inl (cI, 6, .inl u_24))]) [4, 0, 1, 2, 3, 5] rfl
          have hD9 := hD.sub (ws' := [(m0, .inr (7, [.int 3, .ref mfi, .long vak, .int vhr, .ref mil, .ref mic, .ref mwi, .int vho, .int vga, .ref mmo, .int vns, .ref mki, .ref mce, .ref mgo, .ref mwa, .ref mha, .ref mch, .ref mfo, .ref mca, .ref mor, .ref mro, .ref mra, .ref mpr, .ref mho, .ref mis, .int vsg, .ref mss, .ref msc, .ref msh, .int vpr, .int vfa])), (mki, .inl (cI, 8, .inl Kki)), (mor, .inl (cI, 8, .inl Kor)), (mca, .inl (cI, 8, .inl Kca)), (mfo, .inl (cI, 8, .inl Kfo)), (mfi, .inl (cI, 6, .inl u_24))]) [4, 0, 1, 2, 3, 5] (by decide) rfl
          have hK9 := hK.sub (tys' := [(cI, .int)]) [0] rfl
          have hv9 : (-3 : Int32).toInt = (-3) := by decide
          exact W.iret (v := (-3)) hx hb hr (fun t ht hW => ⟨⟨(-3), (3, u_24), rfl, ⟨(by (try simp only [Int32.reduceToInt]); (repeat' split) <;> omega), (by (try dsimp only); (all_goals ((repeat' split) <;> first | rfl | exact (fndL_0 _).symm | exact (fndL_c (by decide)).symm | exact (fndK_0 _).symm | exact (fndK_c (by decide)).symm | (rw [fndK_0]; exact (fndK_c (by decide)).symm) | (exfalso; omega)))), (by (try dsimp only); have y2 := k_25; (try rw [y2]); (all_goals ((repeat' split) <;> first | rfl | exact (fndL_0 _).symm | exact (fndL_c (by decide)).symm | exact (fndK_0 _).symm | exact (fndK_c (by decide)).symm | (rw [fndK_0]; exact (fndK_c (by decide)).symm) | (exfalso; omega))))⟩, ⟨by rw [ht]; exact hP9, va_K.moved hW.alike hK9, hD9⟩⟩, hS.F ht⟩) hS.2.2 dX6_mark_46
        · skip
          have qc_21 : a1.toInt = 1 := eq_k rfl (by decide) c_21
          refine lv_iload_n hx hb dX6_mark_36 rfl (lv_at hl 0 rfl) ?_
          refine lv_iconst (v := 3) hx hb dX6_mark_37 (by decide) ?_
          refine lv_icmp_eq (tgt := 47) hx hb dX6_mark_38 (by decide) (fun c_27 => ?_) (fun c_27 => ?_)
          · skip
            have qc_27 : x_12.toInt = 3 := eq_k rfl (by decide) c_27
            refine lv_iload_n hx hb dX6_mark_47 rfl (lv_at hl 3 rfl) ?_
            refine lv_iconst (v := 1) hx hb dX6_mark_48 (by decide) ?_
            refine lv_icmp_ne (tgt := 61) hx hb dX6_mark_49 (by decide) (fun c_28 => ?_) (fun c_28 => ?_)
            · skip
              have qc_28 : a1.toInt ≠ 1 := ne_k rfl (by decide) c_28
              exfalso
              omega
            · skip
              have qc_28 : a1.toInt = 1 := eq_k rfl (by decide) c_28
              refine lv_aload_n hx hb dX6_mark_52 rfl (lv_at hl 1 rfl) ?_
              refine va_get (D := (dC, dI)) (ci := 7) (v := .ref mor) (C := RX6) (T := TX6) (N := 31) hx hb hts iw_X6_mark_X6 hown hK hP 0 rfl rfl 19 (by decide) (hts (.fieldLink RX6 50 "TeaRaceModel" "orders" "[I") (by decide +kernel)) (fun _ h9 => h9) rfl dX6_mark_53 ?_
              refine lv_iload_n hx hb dX6_mark_56 rfl (lv_at hl 2 rfl) ?_
              refine va_iald hx hb hK hP 2 0 rfl rfl (in_k rfl (by omega) (by omega)) dX6_mark_57 ?_
              refine lv_topi (fun x_29 ex_29 => ?_)
              have rx_29 := congrArg Int32.toInt ex_29
              have gx_29 : 0 ≤ x_29.toInt ∧ x_29.toInt ≤ 20 := Rg.at R_Kor rfl (by omega) (by omega) ex_29
              refine lv_goto (tgt := 83) hx hb dX6_mark_58 (by decide) ?_
              have hP9 := hP.sub (ws' := [(m0, .inr (7, [.int vfi, .ref mfi, .long vak, .int vhr, .ref mil, .ref mic, .ref mwi, .int vho, .int vga, .ref mmo, .int vns, .ref mki, .ref mce, .ref mgo, .ref mwa, .ref mha, .ref mch, .ref mfo, .ref mca, .ref mor, .ref mro, .ref mra, .ref mpr, .ref mho, .ref mis, .int vsg, .ref mss, .ref msc, .ref msh, .int vpr, .int vfa])), (mki, .inl (cI, 8, .inl Kki)), (mor, .inl (cI, 8, .inl Kor)), (mca, .inl (cI, 8, .inl Kca)), (mfo, .inl (cI, 8, .inl Kfo)), (mfi, .inl (cI, 6, .inl Kfi))]) [0, 1, 2, 3, 4, 5] rfl
              have hD9 := hD.sub (ws' := [(m0, .inr (7, [.int vfi, .ref mfi, .long vak, .int vhr, .ref mil, .ref mic, .ref mwi, .int vho, .int vga, .ref mmo, .int vns, .ref mki, .ref mce, .ref mgo, .ref mwa, .ref mha, .ref mch, .ref mfo, .ref mca, .ref mor, .ref mro, .ref mra, .ref mpr, .ref mho, .ref mis, .int vsg, .ref mss, .ref msc, .ref msh, .int vpr, .int vfa])), (mki, .inl (cI, 8, .inl Kki)), (mor, .inl (cI, 8, .inl Kor)), (mca, .inl (cI, 8, .inl Kca)), (mfo, .inl (cI, 8, .inl Kfo)), (mfi, .inl (cI, 6, .inl Kfi))]) [0, 1, 2, 3, 4, 5] (by decide) rfl
              have hK9 := hK.sub (tys' := [(cI, .int)]) [0] rfl
              exact W.iret (v := x_29) hx hb hr (fun t ht hW => ⟨⟨x_29, (vfi, Kfi), rfl, ⟨(by (try simp only [Int32.reduceToInt]); (repeat' split) <;> omega), (by (try dsimp only); (all_goals ((repeat' split) <;> first | rfl | exact (fndL_0 _).symm | exact (fndL_c (by decide)).symm | exact (fndK_0 _).symm | exact (fndK_c (by decide)).symm | (rw [fndK_0]; exact (fndK_c (by decide)).symm) | (exfalso; omega)))), (by (try dsimp only); (all_goals ((repeat' split) <;> first | rfl | exact (fndL_0 _).symm | exact (fndL_c (by decide)).symm | exact (fndK_0 _).symm | exact (fndK_c (by decide)).symm | (rw [fndK_0]; exact (fndK_c (by decide)).symm) | (exfalso; omega))))⟩, ⟨by rw [ht]; exact hP9, va_K.moved hW.alike hK9, hD9⟩⟩, hS.F ht⟩) hS.2.2 dX6_mark_83
          · skip
            have qc_27 : x_12.toInt ≠ 3 := ne_k rfl (by decide) c_27
            refine lv_aload_n hx hb dX6_mark_41 rfl (lv_at hl 1 rfl) ?_
            refine lv_iconst (v := 3) hx hb dX6_mark_42 (by decide) ?_
            have hPc := hP.sub (ws' := [(m0, .inr (7, [.int vfi, .ref mfi, .long vak, .int vhr, .ref mil, .ref mic, .ref mwi, .int vho, .int vga, .ref mmo, .int vns, .ref mki, .ref mce, .ref mgo, .ref mwa, .ref mha, .ref mch, .ref mfo, .ref mca, .ref mor, .ref mro, .ref mra, .ref mpr, .ref mho, .ref mis, .int vsg, .ref mss, .ref msc, .ref msh, .int vpr, .int vfa])), (mfi, .inl (cI, 6, .inl Kfi))]) [0, 5] rfl
            have hDc := hD.sub (ws' := [(m0, .inr (7, [.int vfi, .ref mfi, .long vak, .int vhr, .ref mil, .ref mic, .ref mwi, .int vho, .int vga, .ref mmo, .int vns, .ref mki, .ref mce, .ref mgo, .ref mwa, .ref mha, .ref mch, .ref mfo, .ref mca, .ref mor, .ref mro, .ref mra, .ref mpr, .ref mho, .ref mis, .int vsg, .ref mss, .ref msc, .ref msh, .int vpr, .int vfa])), (mfi, .inl (cI, 6, .inl Kfi))]) [0, 5] (by decide) rfl
            have hKc := hK.sub (tys' := [(cI, .int)]) [0] rfl
            have hFc := va_free (wc := [(m0, .inr (7, [.int vfi, .ref mfi, .long vak, .int vhr, .ref mil, .ref mic, .ref mwi, .int vho, .int vga, .ref mmo, .int vns, .ref mki, .ref mce, .ref mgo, .ref mwa, .ref mha, .ref mch, .ref mfo, .ref mca, .ref mor, .ref mro, .ref mra, .ref mpr, .ref mho, .ref mis, .int vsg, .ref mss, .ref msc, .ref msh, .int vpr, .int vfa])), (mfi, .inl (cI, 6, .inl Kfi))]) hD hS hA [0, 5] rfl
            refine va_calli (va_runV (As := [.int 3]) (rest := []) ⟨hx, hb, hml, hown, hts⟩ (c_X6_meets l dC dI H.size m0 mfi mil mic mwi mmo mki mce mgo mwa mha mch mfo mca mor mro mra mpr mho mis mss msc msh vfi vhr vho vga vns vsg vpr vfa vak Kfi cI 3 (by decide)) (cwV 1 hts gX6_mark_X6_meets rfl rfl rfl (by decide +kernel) ⟨Nat.le_of_ble_eq_true rfl, Nat.le_of_ble_eq_true rfl⟩) ⟨fun a U g mk q => by obtain ⟨q0, q1, qP, qK, qN, qD⟩ := q; exact ⟨q0, q1, qP, va_K.moved (u := U) (U := U.calling g mk a) (Vm.Alike.refl U.vm) qK, NW.same (u := U) (U := U.calling g mk a) rfl qN, qD⟩, va_recv hKc hPc (ci := 7) (q0 := 0) rfl rfl, fun U hU hW => ⟨rfl, by rw [hU], by rw [hU]; exact hPc, va_K.moved hW.alike hKc, NW.warm hW hN, hDc.weaken (fun _ _ _ _ => trivial)⟩⟩ rfl rfl hl.1 rfl (lv_room (Nat.le_of_ble_eq_true rfl)) dX6_mark_43 ⟨(Nat.zero_le _), (Nat.zero_le _)⟩) hS (fun q _ h => hFc q h) hFc (fun r_30 u t H1 locs ht hvm k_31 hB hz1 hk1 hS => ?_)
            obtain ⟨u_32, eu_32⟩ : ∃ z, z = u := ⟨_, rfl⟩
            subst eu_32
            obtain ⟨hP1, hK1, hD1⟩ := hB
            rw [ht] at hP1
            have hK1 := va_K.moved hvm.symm hK1
            obtain ⟨hP, hD⟩ := va_join (wr := [(mki, .inl (cI, 8, .inl Kki)), (mor, .inl (cI, 8, .inl Kor)), (mca, .inl (cI, 8, .inl Kca)), (mfo, .inl (cI, 8, .inl Kfo))]) (w1 := [(m0, .inr (7, [.int 3, .ref mfi, .long vak, .int vhr, .ref mil, .ref mic, .ref mwi, .int vho, .int vga, .ref mmo, .int vns, .ref mki, .ref mce, .ref mgo, .ref mwa, .ref mha, .ref mch, .ref mfo, .ref mca, .ref mor, .ref mro, .ref mra, .ref mpr, .ref mho, .ref mis, .int vsg, .ref mss, .ref msc, .ref msh, .int vpr, .int vfa])), (mfi, .inl (cI, 6, .inl u_32))]) hP hD [0, 5] [1, 2, 3, 4] rfl rfl (by decide) (by decide) hk1 hFc hP1 hD1
            generalize H1 = H at hP hS ⊢
            have hP : va_P (dC, dI) vwCl [(mki, .inl (cI, 8, .inl Kki)), (mor, .inl (cI, 8, .inl Kor)), (mca, .inl (cI, 8, .inl Kca)), (mfo, .inl (cI, 8, .inl Kfo)), (m0, .inr (7, [.int 3, .ref mfi, .long vak, .int vhr, .ref mil, .ref mic, .ref mwi, .int vho, .int vga, .ref mmo, .int vns, .ref mki, .ref mce, .ref mgo, .ref mwa, .ref mha, .ref mch, .ref mfo, .ref mca, .ref mor, .ref mro, .ref mra, .ref mpr, .ref mho, .ref mis, .int vsg, .ref mss, .ref msc, .ref msh, .int vpr, .int vfa])), (mfi, .inl (cI, 6, .inl u_32))] H := hP
            have hD : va_D A [(mki, .inl (cI, 8, .inl Kki)), (mor, .inl (cI, 8, .inl Kor)), (mca, .inl (cI, 8, .inl Kca)), (mfo, .inl (cI, 8, .inl Kfo)), (m0, .inr (7, [.int 3, .ref mfi, .long vak, .int vhr, .ref mil, .ref mic, .ref mwi, .int vho, .int vga, .ref mmo, .int vns, .ref mki, .ref mce, .ref mgo, .ref mwa, .ref mha, .ref mch, .ref mfo, .ref mca, .ref mor, .ref mro, .ref mra, .ref mpr, .ref mho, .ref mis, .int vsg, .ref mss, .ref msc, .ref msh, .int vpr, .int vfa])), (mfi, .inl (cI, 6, .inl u_32))] := hD
            try dsimp only at k_31
            obtain ⟨k_31, k_33, k_34⟩ := k_31
            obtain rfl : r_30 = (-3) := k_31
            have hP9 := hP.sub (ws' := [(m0, .inr (7, [.int 3, .ref mfi, .long vak, .int vhr, .ref mil, .ref mic, .ref mwi, .int vho, .int vga, .ref mmo, .int vns, .ref mki, .ref mce, .ref mgo, .ref mwa, .ref mha, .ref mch, .ref mfo, .ref mca, .ref mor, .ref mro, .ref mra, .ref mpr, .ref mho, .ref mis, .int vsg, .ref mss, .ref msc, .ref msh, .int vpr, .int vfa])), (mki, .inl (cI, 8, .inl Kki)), (mor, .inl (cI, 8, .inl Kor)), (mca, .inl (cI, 8, .inl Kca)), (mfo, .inl (cI, 8, .inl Kfo)), (mfi, .inl (cI, 6, .inl u_32))]) [4, 0, 1, 2, 3, 5] rfl
            have hD9 := hD.sub (ws' := [(m0, .inr (7, [.int 3, .ref mfi, .long vak, .int vhr, .ref mil, .ref mic, .ref mwi, .int vho, .int vga, .ref mmo, .int vns, .ref mki, .ref mce, .ref mgo, .ref mwa, .ref mha, .ref mch, .ref mfo, .ref mca, .ref mor, .ref mro, .ref mra, .ref mpr, .ref mho, .ref mis, .int vsg, .ref mss, .ref msc, .ref msh, .int vpr, .int vfa])), (mki, .inl (cI, 8, .inl Kki)), (mor, .inl (cI, 8, .inl Kor)), (mca, .inl (cI, 8, .inl Kca)), (mfo, .inl (cI, 8, .inl Kfo)), (mfi, .inl (cI, 6, .inl u_32))]) [4, 0, 1, 2, 3, 5] (by decide) rfl
            have hK9 := hK.sub (tys' := [(cI, .int)]) [0] rfl
            have hv9 : (-3 : Int32).toInt = (-3) := by decide
            exact W.iret (v := (-3)) hx hb hr (fun t ht hW => ⟨⟨(-3), (3, u_32), rfl, ⟨(by (try simp only [Int32.reduceToInt]); (repeat' split) <;> omega), (by (try dsimp only); (all_goals ((repeat' split) <;> first | rfl | exact (fndL_0 _).symm | exact (fndL_c (by decide)).symm | exact (fndK_0 _).symm | exact (fndK_c (by decide)).symm | (rw [fndK_0]; exact (fndK_c (by decide)).symm) | (exfalso; omega)))), (by (try dsimp only); have y2 := k_33; (try rw [y2]); (all_goals ((repeat' split) <;> first | rfl | exact (fndL_0 _).symm | exact (fndL_c (by decide)).symm | exact (fndK_0 _).symm | exact (fndK_c (by decide)).symm | (rw [fndK_0]; exact (fndK_c (by decide)).symm) | (exfalso; omega))))⟩, ⟨by rw [ht]; exact hP9, va_K.moved hW.alike hK9, hD9⟩⟩, hS.F ht⟩) hS.2.2 dX6_mark_46
    · skip
      have b_35 := b01z k_8 c_10
      (try simp only [Int32.lt_iff_toInt_lt, Int32.le_iff_toInt_le, ← Int32.toInt_inj, Int32.reduceToInt, zl1, zl2, zl3, zl4, zl9] at b_35)
      (try simp only [Int32.reduceToInt] at b_35)
      refine lv_iconst (v := (-1)) hx hb dX6_mark_17 (by decide) ?_
      have hP9 := hP.sub (ws' := [(m0, .inr (7, [.int vfi, .ref mfi, .long vak, .int vhr, .ref mil, .ref mic, .ref mwi, .int vho, .int vga, .ref mmo, .int vns, .ref mki, .ref mce, .ref mgo, .ref mwa, .ref mha, .ref mch, .ref mfo, .ref mca, .ref mor, .ref mro, .ref mra, .ref mpr, .ref mho, .ref mis, .int vsg, .ref mss, .ref msc, .ref msh, .int vpr, .int vfa])), (mki, .inl (cI, 8, .inl Kki)), (mor, .inl (cI, 8, .inl Kor)), (mca, .inl (cI, 8, .inl Kca)), (mfo, .inl (cI, 8, .inl Kfo)), (mfi, .inl (cI, 6, .inl Kfi))]) [0, 1, 2, 3, 4, 5] rfl
      have hD9 := hD.sub (ws' := [(m0, .inr (7, [.int vfi, .ref mfi, .long vak, .int vhr, .ref mil, .ref mic, .ref mwi, .int vho, .int vga, .ref mmo, .int vns, .ref mki, .ref mce, .ref mgo, .ref mwa, .ref mha, .ref mch, .ref mfo, .ref mca, .ref mor, .ref mro, .ref mra, .ref mpr, .ref mho, .ref mis, .int vsg, .ref mss, .ref msc, .ref msh, .int vpr, .int vfa])), (mki, .inl (cI, 8, .inl Kki)), (mor, .inl (cI, 8, .inl Kor)), (mca, .inl (cI, 8, .inl Kca)), (mfo, .inl (cI, 8, .inl Kfo)), (mfi, .inl (cI, 6, .inl Kfi))]) [0, 1, 2, 3, 4, 5] (by decide) rfl
      have hK9 := hK.sub (tys' := [(cI, .int)]) [0] rfl
      have hv9 : (-1 : Int32).toInt = (-1) := by decide
      exact W.iret (v := (-1)) hx hb hr (fun t ht hW => ⟨⟨(-1), (vfi, Kfi), rfl, ⟨(by (try simp only [Int32.reduceToInt]); (repeat' split) <;> omega), (by (try dsimp only); (all_goals ((repeat' split) <;> first | rfl | exact (fndL_0 _).symm | exact (fndL_c (by decide)).symm | exact (fndK_0 _).symm | exact (fndK_c (by decide)).symm | (rw [fndK_0]; exact (fndK_c (by decide)).symm) | (exfalso; omega)))), (by (try dsimp only); (all_goals ((repeat' split) <;> first | rfl | exact (fndL_0 _).symm | exact (fndL_c (by decide)).symm | exact (fndK_0 _).symm | exact (fndK_c (by decide)).symm | (rw [fndK_0]; exact (fndK_c (by decide)).symm) | (exfalso; omega))))⟩, ⟨by rw [ht]; exact hP9, va_K.moved hW.alike hK9, hD9⟩⟩, hS.F ht⟩) hS.2.2 dX6_mark_18
set_option maxHeartbeats 4000000 in
set_option maxRecDepth 100000 in
/-- reference: speed -/
theorem c_X6_speed (l : Launch) (dC : Nat → ClassId) (dI : Nat → Nat → Nat) (sz : Nat) (m0 : Nat) (mfi : Nat) (mil : Nat) (mic : Nat) (mwi : Nat) (mmo : Nat) (mki : Nat) (mce : Nat) (mgo : Nat) (mwa : Nat) (mha : Nat) (mch : Nat) (mfo : Nat) (mca : Nat) (mor : Nat) (mro : Nat) (mra : Nat) (mpr : Nat) (mho : Nat) (mis : Nat) (mss : Nat) (msc : Nat) (msh : Nat) (vfi : Int32) (vhr : Int32) (vho : Int32) (vga : Int32) (vns : Int32) (vsg : Int32) (vpr : Int32) (vfa : Int32) (vak : Int64) (Kki : Nat → Int32) (Kfo : Nat → Int32) (cI : ClassId) (a0 : Int32) (a1 : Int32) (a2 : Int32) (a3 : Int32) (i_vns : 0 ≤ vns.toInt ∧ vns.toInt ≤ 8) (R_Kki : Rg 8 0 3 Kki) (R_Kfo : Rg 8 0 9 Kfo) : Met l yX6_speed wsX6_speed ({ frames := 2, cells := 0, slots := 0, locals := 43 }) (va_Pc [.ref m0, .int a0, .int a1, .int a2, .int a3] (fun U => U.heap.size = sz ∧ va_P (dC, dI) vwCl [(m0, .inr (7, [.int vfi, .ref mfi, .long vak, .int vhr, .ref mil, .ref mic, .ref mwi, .int vho, .int vga, .ref mmo, .int vns, .ref mki, .ref mce, .ref mgo, .ref mwa, .ref mha, .ref mch, .ref mfo, .ref mca, .ref mor, .ref mro, .ref mra, .ref mpr, .ref mho, .ref mis, .int vsg, .ref mss, .ref msc, .ref msh, .int vpr, .int vfa])), (mki, .inl (cI, 8, .inl Kki)), (mfo, .inl (cI, 8, .inl Kfo))] U.heap ∧ va_K (dC, dI) vwCl [(cI, .int)] U ∧ NW U)) (va_Qi (fun (r : Int32) (_ : Unit) => (r.toInt = if ((0 ≤ a0.toInt ∧ a0.toInt < vns.toInt) ∧ (0 ≤ a1.toInt ∧ a1.toInt ≤ 7) ∧ (0 ≤ a2.toInt ∧ a2.toInt ≤ 7) ∧ (0 ≤ a3.toInt ∧ a3.toInt ≤ 9)) then spd (Kki a0.toNatClampNeg).toInt (Kfo a0.toNatClampNeg).toInt a1.toInt a2.toInt a3.toInt else -1)) (fun _ _ => True) (va_A [] sz)) 0 0 (va_A [] sz) := by
  refine Met.ofW (cc := cX6_speed) (maxL := 5) (ret := (some .int)) (by decide) rfl ?_
  intro p e s m args below meth c s₁ B hml hv
  obtain ⟨rfl, hsz, hP, hK, hN⟩ := hv
  have hx := B.exec
  have hb := B.bytes
  have hr := B.returns
  have hts := atoms_spec (ws := wsX6_speed) B.pre
  have hown : s.vm.findClass RX6 = some m.cls := findClass_of_methodNamed B.named
  have hlocks := B.notSynchronized
  subst hsz
  generalize hAe : va_A [] s.heap.size = A at ⊢
  have hA : ∀ q : Nat, s.heap.size ≤ q → A q := fun q h => by rw [← hAe]; exact Or.inr h
  have hS : va_S A s.heap s.heap [] := va_S.rf
  have hP : va_P (dC, dI) vwCl [(m0, .inr (7, [.int vfi, .ref mfi, .long vak, .int vhr, .ref mil, .ref mic, .ref mwi, .int vho, .int vga, .ref mmo, .int vns, .ref mki, .ref mce, .ref mgo, .ref mwa, .ref mha, .ref mch, .ref mfo, .ref mca, .ref mor, .ref mro, .ref mra, .ref mpr, .ref mho, .ref mis, .int vsg, .ref mss, .ref msc, .ref msh, .int vpr, .int vfa])), (mki, .inl (cI, 8, .inl Kki)), (mfo, .inl (cI, 8, .inl Kfo))] s.heap := hP
  have hl := lv_entry ([.ref m0, .int a0, .int a1, .int a2, .int a3]) (n := 5) (Nat.le_of_ble_eq_true rfl)
  rw [lg_entry_eq]
  generalize (lg_sl ([.ref m0, .int a0, .int a1, .int a2, .int a3]) ++ List.replicate (5 - (lg_sl ([.ref m0, .int a0, .int a1, .int a2, .int a3])).length) Slot.unset).toArray = ls at hl ⊢
  have hl : lv_has ls 5 [(0, .ref m0), (1, .int a0), (2, .int a1), (3, .int a2), (4, .int a3)] := hl
  refine lv_aload_n hx hb dX6_speed_0 rfl (lv_at hl 0 rfl) ?_
  refine lv_iload_n hx hb dX6_speed_1 rfl (lv_at hl 1 rfl) ?_
  have hPc := hP.sub (ws' := [(m0, .inr (7, [.int vfi, .ref mfi, .long vak, .int vhr, .ref mil, .ref mic, .ref mwi, .int vho, .int vga, .ref mmo, .int vns, .ref mki, .ref mce, .ref mgo, .ref mwa, .ref mha, .ref mch, .ref mfo, .ref mca, .ref mor, .ref mro, .ref mra, .ref mpr, .ref mho, .ref mis, .int vsg, .ref mss, .ref msc, .ref msh, .int vpr, .int vfa]))]) [0] rfl
  have hKc := hK.sub (tys' := []) [] rfl
  refine va_calli (va_runV (As := [.int a0]) (rest := []) ⟨hx, hb, hml, hown, hts⟩ (c_X6_isShip l dC dI s.heap.size m0 mfi mil mic mwi mmo mki mce mgo mwa mha mch mfo mca mor mro mra mpr mho mis mss msc msh vfi vhr vho vga vns vsg vpr vfa vak a0 ⟨(by omega), (by omega)⟩) (cwV 1 hts gX6_speed_X6_isShip rfl rfl rfl (by decide +kernel) ⟨Nat.le_of_ble_eq_true rfl, Nat.le_of_ble_eq_true rfl⟩) ⟨fun a U g mk q => by obtain ⟨q0, q1, qP, qK, qN⟩ := q; exact ⟨q0, q1, qP, va_K.moved (u := U) (U := U.calling g mk a) (Vm.Alike.refl U.vm) qK, NW.same (u := U) (U := U.calling g mk a) rfl qN⟩, va_recv hKc hPc (ci := 7) (q0 := 0) rfl rfl, fun U hU hW => ⟨rfl, by rw [hU], by rw [hU]; exact hPc, va_K.moved hW.alike hKc, NW.warm hW hN⟩⟩ rfl rfl hl.1 rfl (lv_room (Nat.le_of_ble_eq_true rfl)) dX6_speed_2 ⟨(Nat.zero_le _), (Nat.zero_le _)⟩) hS (fun q _ h => ro_A hS hA q h) (ro_A hS hA) (fun r_1 u t H1 locs ht hvm k_2 hB hz1 hk1 hS => ?_)
  have hP := ro_P hk1 hP
  generalize H1 = H at hP hS ⊢
  try dsimp only at k_2
  obtain ⟨k_2, k_3⟩ := k_2
  refine lv_if_eq (tgt := 45) hx hb dX6_speed_5 (by decide) (fun c_4 => ?_) (fun c_4 => ?_)
  · skip
    have b_5 := b01z k_2 c_4
    (try simp only [Int32.lt_iff_toInt_lt, Int32.le_iff_toInt_le, ← Int32.toInt_inj, Int32.reduceToInt, zl1, zl2, zl3, zl4, zl9] at b_5)
    (try simp only [Int32.reduceToInt] at b_5)
    refine lv_iconst (v := (-1)) hx hb dX6_speed_45 (by decide) ?_
    have hv9 : (-1 : Int32).toInt = (-1) := by decide
    exact W.iret (v := (-1)) hx hb hr (fun t ht hW => ⟨⟨(-1), (), rfl, (by rw [if_neg (by (first | omega | ((try simp only [Int32.lt_iff_toInt_lt, Int32.le_iff_toInt_le, ← Int32.toInt_inj, Int32.reduceToInt, zl1, zl2, zl3, zl4, zl9]); (try simp only [Int32.reduceToInt]); omega) | (subst_vars; assumption) | (refine ⟨?_, ?_⟩ <;> first | omega | (simp only [Int32.lt_iff_toInt_lt, Int32.le_iff_toInt_le, ← Int32.toInt_inj, Int32.reduceToInt, zl1, zl2, zl3, zl4, zl9]; omega) | (subst_vars; assumption))))]; decide), trivial⟩, hS.F ht⟩) hS.2.2 dX6_speed_46
  · skip
    have b_6 := b01n k_2 c_4
    (try simp only [Int32.lt_iff_toInt_lt, Int32.le_iff_toInt_le, ← Int32.toInt_inj, Int32.reduceToInt, zl1, zl2, zl3, zl4, zl9] at b_6)
    (try simp only [Int32.reduceToInt] at b_6)
    refine lv_iload_n hx hb dX6_speed_8 rfl (lv_at hl 2 rfl) ?_
    refine va_calli (va_runS (As := [.int a1]) (rest := []) ⟨hx, hb, hml, hown, hts⟩ (c_X6_isWay l H.size a1 ) (va_cwS 1 hts gX6_speed_X6_isWay rfl rfl rfl (by decide +kernel) ⟨Nat.le_of_ble_eq_true rfl, Nat.le_of_ble_eq_true rfl⟩) ⟨fun a U g mk q => by obtain ⟨q0, q1⟩ := q; exact ⟨q0, q1⟩, fun U hU hW => ⟨rfl, congrArg Array.size hU⟩⟩ rfl rfl hl.1 rfl (lv_room (Nat.le_of_ble_eq_true rfl)) dX6_speed_9 ⟨(Nat.zero_le _), (Nat.zero_le _)⟩) hS (fun q _ h => ro_A hS hA q h) (ro_A hS hA) (fun r_7 u t H1 locs ht hvm k_8 hB hz1 hk1 hS => ?_)
    have hP := ro_P hk1 hP
    generalize H1 = H at hP hS ⊢
    try dsimp only at k_8
    obtain ⟨k_8, k_9⟩ := k_8
    refine lv_if_eq (tgt := 45) hx hb dX6_speed_12 (by decide) (fun c_10 => ?_) (fun c_10 => ?_)
    · skip
      have b_11 := b01z k_8 c_10
      (try simp only [Int32.lt_iff_toInt_lt, Int32.le_iff_toInt_le, ← Int32.toInt_inj, Int32.reduceToInt, zl1, zl2, zl3, zl4, zl9] at b_11)
      (try simp only [Int32.reduceToInt] at b_11)
      refine lv_iconst (v := (-1)) hx hb dX6_speed_45 (by decide) ?_
      have hv9 : (-1 : Int32).toInt = (-1) := by decide
      exact W.iret (v := (-1)) hx hb hr (fun t ht hW => ⟨⟨(-1), (), rfl, (by rw [if_neg (by (first | omega | ((try simp only [Int32.lt_iff_toInt_lt, Int32.le_iff_toInt_le, ← Int32.toInt_inj, Int32.reduceToInt, zl1, zl2, zl3, zl4, zl9]); (try simp only [Int32.reduceToInt]); omega) | (subst_vars; assumption) | (refine ⟨?_, ?_⟩ <;> first | omega | (simp only [Int32.lt_iff_toInt_lt, Int32.le_iff_toInt_le, ← Int32.toInt_inj, Int32.reduceToInt, zl1, zl2, zl3, zl4, zl9]; omega) | (subst_vars; assumption))))]; decide), trivial⟩, hS.F ht⟩) hS.2.2 dX6_speed_46
    · skip
      have b_12 := b01n k_8 c_10
      (try simp only [Int32.lt_iff_toInt_lt, Int32.le_iff_toInt_le, ← Int32.toInt_inj, Int32.reduceToInt, zl1, zl2, zl3, zl4, zl9] at b_12)
      (try simp only [Int32.reduceToInt] at b_12)
      refine lv_iload_n hx hb dX6_speed_15 rfl (lv_at hl 3 rfl) ?_
      refine va_calli (va_runS (As := [.int a2]) (rest := []) ⟨hx, hb, hml, hown, hts⟩ (c_X6_isWay l H.size a2 ) (va_cwS 1 hts gX6_speed_X6_isWay rfl rfl rfl (by decide +kernel) ⟨Nat.le_of_ble_eq_true rfl, Nat.le_of_ble_eq_true rfl⟩) ⟨fun a U g mk q => by obtain ⟨q0, q1⟩ := q; exact ⟨q0, q1⟩, fun U hU hW => ⟨rfl, congrArg Array.size hU⟩⟩ rfl rfl hl.1 rfl (lv_room (Nat.le_of_ble_eq_true rfl)) dX6_speed_16 ⟨(Nat.zero_le _), (Nat.zero_le _)⟩) hS (fun q _ h => ro_A hS hA q h) (ro_A hS hA) (fun r_13 u t H1 locs ht hvm k_14 hB hz1 hk1 hS => ?_)
      have hP := ro_P hk1 hP
      generalize H1 = H at hP hS ⊢
      try dsimp only at k_14
      obtain ⟨k_14, k_15⟩ := k_14
      refine lv_if_eq (tgt := 45) hx hb dX6_speed_19 (by decide) (fun c_16 => ?_) (fun c_16 => ?_)
      · skip
        have b_17 := b01z k_14 c_16
        (try simp only [Int32.lt_iff_toInt_lt, Int32.le_iff_toInt_le, ← Int32.toInt_inj, Int32.reduceToInt, zl1, zl2, zl3, zl4, zl9] at b_17)
        (try simp only [Int32.reduceToInt] at b_17)
        refine lv_iconst (v := (-1)) hx hb dX6_speed_45 (by decide) ?_
        have hv9 : (-1 : Int32).toInt = (-1) := by decide
        exact W.iret (v := (-1)) hx hb hr (fun t ht hW => ⟨⟨(-1), (), rfl, (by rw [if_neg (by (first | omega | ((try simp only [Int32.lt_iff_toInt_lt, Int32.le_iff_toInt_le, ← Int32.toInt_inj, Int32.reduceToInt, zl1, zl2, zl3, zl4, zl9]); (try simp only [Int32.reduceToInt]); omega) | (subst_vars; assumption) | (refine ⟨?_, ?_⟩ <;> first | omega | (simp only [Int32.lt_iff_toInt_lt, Int32.le_iff_toInt_le, ← Int32.toInt_inj, Int32.reduceToInt, zl1, zl2, zl3, zl4, zl9]; omega) | (subst_vars; assumption))))]; decide), trivial⟩, hS.F ht⟩) hS.2.2 dX6_speed_46
      · skip
        have b_18 := b01n k_14 c_16
        (try simp only [Int32.lt_iff_toInt_lt, Int32.le_iff_toInt_le, ← Int32.toInt_inj, Int32.reduceToInt, zl1, zl2, zl3, zl4, zl9] at b_18)
        (try simp only [Int32.reduceToInt] at b_18)
        refine lv_iload hx hb dX6_speed_22 (lv_at hl 4 rfl) ?_
        refine lv_iconst (v := 0) hx hb dX6_speed_24 (by decide) ?_
        refine lv_bipush (v := 9) hx hb dX6_speed_25 (by decide) ?_
        refine va_calli (va_runS (As := [.int a3, .int 0, .int 9]) (rest := []) ⟨hx, hb, hml, hown, hts⟩ (c_X6_in l H.size a3 0 9 ) (va_cwS 3 hts gX6_speed_X6_in rfl rfl rfl (by decide +kernel) ⟨Nat.le_of_ble_eq_true rfl, Nat.le_of_ble_eq_true rfl⟩) ⟨fun a U g mk q => by obtain ⟨q0, q1⟩ := q; exact ⟨q0, q1⟩, fun U hU hW => ⟨rfl, congrArg Array.size hU⟩⟩ rfl rfl hl.1 rfl (lv_room (Nat.le_of_ble_eq_true rfl)) dX6_speed_27 ⟨(Nat.zero_le _), (Nat.zero_le _)⟩) hS (fun q _ h => ro_A hS hA q h) (ro_A hS hA) (fun r_19 u t H1 locs ht hvm k_20 hB hz1 hk1 hS => ?_)
        have hP := ro_P hk1 hP
        generalize H1 = H at hP hS ⊢
        try dsimp only at k_20
        obtain ⟨k_20, k_21⟩ := k_20
        refine lv_if_eq (tgt := 45) hx hb dX6_speed_30 (by decide) (fun c_22 => ?_) (fun c_22 => ?_)
        · skip
          have b_23 := b01z k_20 c_22
          (try simp only [Int32.lt_iff_toInt_lt, Int32.le_iff_toInt_le, ← Int32.toInt_inj, Int32.reduceToInt, zl1, zl2, zl3, zl4, zl9] at b_23)
          (try simp only [Int32.reduceToInt] at b_23)
          refine lv_iconst (v := (-1)) hx hb dX6_speed_45 (by decide) ?_
          have hv9 : (-1 : Int32).toInt = (-1) := by decide
          exact W.iret (v := (-1)) hx hb hr (fun t ht hW => ⟨⟨(-1), (), rfl, (by rw [if_neg (by (first | omega | ((try simp only [Int32.lt_iff_toInt_lt, Int32.le_iff_toInt_le, ← Int32.toInt_inj, Int32.reduceToInt, zl1, zl2, zl3, zl4, zl9]); (try simp only [Int32.reduceToInt]); omega) | (subst_vars; assumption) | (refine ⟨?_, ?_⟩ <;> first | omega | (simp only [Int32.lt_iff_toInt_lt, Int32.le_iff_toInt_le, ← Int32.toInt_inj, Int32.reduceToInt, zl1, zl2, zl3, zl4, zl9]; omega) | (subst_vars; assumption))))]; decide), trivial⟩, hS.F ht⟩) hS.2.2 dX6_speed_46
        · skip
          have b_24 := b01n k_20 c_22
          (try simp only [Int32.lt_iff_toInt_lt, Int32.le_iff_toInt_le, ← Int32.toInt_inj, Int32.reduceToInt, zl1, zl2, zl3, zl4, zl9] at b_24)
          (try simp only [Int32.reduceToInt] at b_24)
          refine lv_aload_n hx hb dX6_speed_33 rfl (lv_at hl 0 rfl) ?_
          refine lv_iload_n hx hb dX6_speed_34 rfl (lv_at hl 1 rfl) ?_
          refine lv_iload_n hx hb dX6_speed_35 rfl (lv_at hl 2 rfl) ?_
          refine lv_iload_n hx hb dX6_speed_36 rfl (lv_at hl 3 rfl) ?_
          refine lv_iload hx hb dX6_speed_37 (lv_at hl 4 rfl) ?_
          have hPc := hP.sub (ws' := [(m0, .inr (7, [.int vfi, .ref mfi, .long vak, .int vhr, .ref mil, .ref mic, .ref mwi, .int vho, .int vga, .ref mmo, .int vns, .ref mki, .ref mce, .ref mgo, .ref mwa, .ref mha, .ref mch, .ref mfo, .ref mca, .ref mor, .ref mro, .ref mra, .ref mpr, .ref mho, .ref mis, .int vsg, .ref mss, .ref msc, .ref msh, .int vpr, .int vfa])), (mki, .inl (cI, 8, .inl Kki)), (mfo, .inl (cI, 8, .inl Kfo))]) [0, 1, 2] rfl
          have hKc := hK.sub (tys' := [(cI, .int)]) [0] rfl
          refine va_calli (va_runV (As := [.int a0, .int a1, .int a2, .int a3]) (rest := []) ⟨hx, hb, hml, hown, hts⟩ (c_X6_speedOf l dC dI H.size m0 mfi mil mic mwi mmo mki mce mgo mwa mha mch mfo mca mor mro mra mpr mho mis mss msc msh vfi vhr vho vga vns vsg vpr vfa vak Kki Kfo cI a0 a1 a2 a3 ⟨(by omega), (by omega)⟩ ⟨(by omega), (by omega)⟩ ⟨(by omega), (by omega)⟩ ⟨(by omega), (by omega)⟩ R_Kki R_Kfo) (cwV 4 hts gX6_speed_X6_speedOf rfl rfl rfl (by decide +kernel) ⟨Nat.le_of_ble_eq_true rfl, Nat.le_of_ble_eq_true rfl⟩) ⟨fun a U g mk q => by obtain ⟨q0, q1, qP, qK, qN⟩ := q; exact ⟨q0, q1, qP, va_K.moved (u := U) (U := U.calling g mk a) (Vm.Alike.refl U.vm) qK, NW.same (u := U) (U := U.calling g mk a) rfl qN⟩, va_recv hKc hPc (ci := 7) (q0 := 0) rfl rfl, fun U hU hW => ⟨rfl, by rw [hU], by rw [hU]; exact hPc, va_K.moved hW.alike hKc, NW.warm hW hN⟩⟩ rfl rfl hl.1 rfl (lv_room (Nat.le_of_ble_eq_true rfl)) dX6_speed_39 ⟨(Nat.zero_le _), (Nat.zero_le _)⟩) hS (fun q _ h => ro_A hS hA q h) (ro_A hS hA) (fun r_25 u t H1 locs ht hvm k_26 hB hz1 hk1 hS => ?_)
          have hP := ro_P hk1 hP
          generalize H1 = H at hP hS ⊢
          try dsimp only at k_26
          obtain ⟨k_26, k_27⟩ := k_26
          refine lv_goto (tgt := 46) hx hb dX6_speed_42 (by decide) ?_
          exact W.iret (v := r_25) hx hb hr (fun t ht hW => ⟨⟨r_25, (), rfl, (by rw [if_pos (by (first | omega | ((try simp only [Int32.lt_iff_toInt_lt, Int32.le_iff_toInt_le, ← Int32.toInt_inj, Int32.reduceToInt, zl1, zl2, zl3, zl4, zl9]); (try simp only [Int32.reduceToInt]); omega) | (subst_vars; assumption) | (refine ⟨?_, ?_⟩ <;> first | omega | (simp only [Int32.lt_iff_toInt_lt, Int32.le_iff_toInt_le, ← Int32.toInt_inj, Int32.reduceToInt, zl1, zl2, zl3, zl4, zl9]; omega) | (subst_vars; assumption))))]; exact k_26), trivial⟩, hS.F ht⟩) hS.2.2 dX6_speed_46
