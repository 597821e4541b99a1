set_option maxRecDepth 20000 in
theorem iw_X6_firstShip_X6 : ∀ w ∈ wsX60, w ∈ wsX6_firstShip := fun w h => (List.mem_cons_of_mem _ (List.mem_append_right _ h))
set_option maxHeartbeats 4000000 in
set_option maxRecDepth 100000 in
/-- reference: firstShip -/
theorem c_X6_firstShip (l : Launch) (dC : Nat → ClassId) (dI : Nat → Nat → Nat) (sz : Nat) (m0 : Nat) (mfi : Nat) (mil : Nat) (mic : Nat) (mwi : Nat) (mmo : Nat) (mki : Nat) (mce : Nat) (mgo : Nat) (mwa : Nat) (mha : Nat) (mch : Nat) (mfo : Nat) (mca : Nat) (mor : Nat) (mro : Nat) (mra : Nat) (mpr : Nat) (mho : Nat) (mis : Nat) (mss : Nat) (msc : Nat) (msh : Nat) (vfi : Int32) (vhr : Int32) (vho : Int32) (vga : Int32) (vns : Int32) (vsg : Int32) (vpr : Int32) (vfa : Int32) (vak : Int64) (Kha : Nat → Int32) (cI : ClassId) (i_vns : 0 ≤ vns.toInt ∧ vns.toInt ≤ 8) (i_vga : 0 ≤ vga.toInt ∧ vga.toInt ≤ 23) (R_Kha : Rn 8 0 100000 Kha) : Met l yX6_firstShip wsX6_firstShip ({ frames := 1, cells := 0, slots := 0, locals := 22 }) (va_Pc [.ref m0] (fun U => U.heap.size = sz ∧ va_P (dC, dI) vwCl [(m0, .inr (7, [.int vfi, .ref mfi, .long vak, .int vhr, .ref mil, .ref mic, .ref mwi, .int vho, .int vga, .ref mmo, .int vns, .ref mki, .ref mce, .ref mgo, .ref mwa, .ref mha, .ref mch, .ref mfo, .ref mca, .ref mor, .ref mro, .ref mra, .ref mpr, .ref mho, .ref mis, .int vsg, .ref mss, .ref msc, .ref msh, .int vpr, .int vfa])), (mha, .inl (cI, 8, .inl Kha))] U.heap ∧ va_K (dC, dI) vwCl [(cI, .int)] U ∧ NW U)) (va_Qi (fun (r : Int32) (_ : Unit) => (r.toInt = optI (firstF (entM Kha vga.toInt) (fun i => (Kha i).toInt) vns.toNatClampNeg)) ∧ ((-9) ≤ r.toInt ∧ r.toInt ≤ 7)) (fun _ _ => True) (va_A [] sz)) 0 0 (va_A [] sz) := by
  refine Met.ofW (cc := cX6_firstShip) (maxL := 4) (ret := (some .int)) (by decide) rfl ?_
  intro p e s m args below meth c s₁ B hml hv
  obtain ⟨rfl, hsz, hP, hK, hN⟩ := hv
  have hx := B.exec
  have hb := B.bytes
  have hr := B.returns
  have hts := atoms_spec (ws := wsX6_firstShip) B.pre
  have hown : s.vm.findClass RX6 = some m.cls := findClass_of_methodNamed B.named
  have hlocks := B.notSynchronized
  subst hsz
  generalize hAe : va_A [] s.heap.size = A at ⊢
  have hA : ∀ q : Nat, s.heap.size ≤ q → A q := fun q h => by rw [← hAe]; exact Or.inr h
  have hS : va_S A s.heap s.heap [] := va_S.rf
  have hP : va_P (dC, dI) vwCl [(m0, .inr (7, [.int vfi, .ref mfi, .long vak, .int vhr, .ref mil, .ref mic, .ref mwi, .int vho, .int vga, .ref mmo, .int vns, .ref mki, .ref mce, .ref mgo, .ref mwa, .ref mha, .ref mch, .ref mfo, .ref mca, .ref mor, .ref mro, .ref mra, .ref mpr, .ref mho, .ref mis, .int vsg, .ref mss, .ref msc, .ref msh, .int vpr, .int vfa])), (mha, .inl (cI, 8, .inl Kha))] s.heap := hP
  have hl := lv_entry ([.ref m0]) (n := 4) (Nat.le_of_ble_eq_true rfl)
  rw [lg_entry_eq]
  generalize (lg_sl ([.ref m0]) ++ List.replicate (4 - (lg_sl ([.ref m0])).length) Slot.unset).toArray = ls at hl ⊢
  have hl : lv_has ls 4 [(0, .ref m0)] := hl
  refine lv_bipush (v := (-9)) hx hb dX6_firstShip_0 (by decide) ?_
  refine lv_istore_n (lv' := [(1, .int (-9)), (0, .ref m0)]) hx hb dX6_firstShip_2 rfl hl (by decide) rfl (fun ls hl => ?_)
  refine lv_iconst (v := 0) hx hb dX6_firstShip_3 (by decide) ?_
  refine lv_istore_n (lv' := [(2, .int 0), (1, .int (-9)), (0, .ref m0)]) hx hb dX6_firstShip_4 rfl hl (by decide) rfl (fun ls hl => ?_)
  have key5 : ∀ (n5 : Nat) (be : Int32) (is_ : Int32) (H : Heap) (locs : List Loc) (ls : Array Slot), ((-9) ≤ be.toInt ∧ be.toInt ≤ 7) → (0 ≤ is_.toInt ∧ is_.toInt ≤ 8) → (is_.toInt ≤ vns.toInt) → (be.toInt = optI (firstF (entM Kha vga.toInt) (fun i => (Kha i).toInt) is_.toNatClampNeg)) → 8 - is_.toInt < (n5 : Int) → va_P (dC, dI) vwCl [(m0, .inr (7, [.int vfi, .ref mfi, .long vak, .int vhr, .ref mil, .ref mic, .ref mwi, .int vho, .int vga, .ref mmo, .int vns, .ref mki, .ref mce, .ref mgo, .ref mwa, .ref mha, .ref mch, .ref mfo, .ref mca, .ref mor, .ref mro, .ref mra, .ref mpr, .ref mho, .ref mis, .int vsg, .ref mss, .ref msc, .ref msh, .int vpr, .int vfa])), (mha, .inl (cI, 8, .inl Kha))] H → va_S A s.heap H locs → lv_has ls 4 [(2, .int is_), (1, .int be), (0, .ref m0)] → W p l e ({ frames := 1, cells := 0, slots := 0, locals := 22 } : Room) s m ([.ref m0] : List Value).toArray below meth c H locs 0 0 (MQ below (va_Qi (fun (r : Int32) (_ : Unit) => (r.toInt = optI (firstF (entM Kha vga.toInt) (fun i => (Kha i).toInt) vns.toNatClampNeg)) ∧ ((-9) ≤ r.toInt ∧ r.toInt ≤ 7)) (fun _ _ => True) A) ([.ref m0] : List Value).toArray s 0 0 A) (F0 m 5 ls []) := by
    intro n5
    induction n5 with
    | zero =>
      intro be is_ H locs ls i_be i_is_ hle hbe hm5
      exact absurd hm5 (by omega)
    | succ n5 ih5 =>
      intro be is_ H locs ls i_be i_is_ hle hbe hm5 hP hS hl
      refine lv_iload_n hx hb dX6_firstShip_5 rfl (lv_at hl 0 rfl) ?_
      refine lv_aload_n hx hb dX6_firstShip_6 rfl (lv_at hl 2 rfl) ?_
      refine va_get (D := (dC, dI)) (ci := 7) (v := .int vns) (C := RX6) (T := TX6) (N := 31) hx hb hts iw_X6_firstShip_X6 hown hK hP 0 rfl rfl 10 (by decide) (hts (.fieldLink RX6 110 "TeaRaceModel" "ships" "I") (by decide +kernel)) (fun _ h9 => h9) rfl dX6_firstShip_7 ?_
      refine lv_icmp_ge (tgt := 79) hx hb dX6_firstShip_10 (by decide) (fun c_1 => ?_) (fun c_1 => ?_)
      · skip
        have qc_1 : vns.toInt ≤ is_.toInt := le_k rfl rfl c_1
        refine lv_iload_n hx hb dX6_firstShip_79 rfl (lv_at hl 1 rfl) ?_
        exact W.iret (v := be) hx hb hr (fun t ht hW => ⟨⟨be, (), rfl, ⟨(by rw [(show vns.toNatClampNeg = is_.toNatClampNeg from by have := tn_k (i := vns) rfl (by omega); have := tn_k (i := is_) rfl (by omega); omega)]; exact hbe), ⟨by omega, by omega⟩⟩, trivial⟩, hS.F ht⟩) hS.2.2 dX6_firstShip_80
      · skip
        have qc_1 : is_.toInt < vns.toInt := nle_k rfl rfl c_1
        refine lv_aload_n hx hb dX6_firstShip_13 rfl (lv_at hl 2 rfl) ?_
        refine va_get (D := (dC, dI)) (ci := 7) (v := .ref mha) (C := RX6) (T := TX6) (N := 31) hx hb hts iw_X6_firstShip_X6 hown hK hP 0 rfl rfl 15 (by decide) (hts (.fieldLink RX6 38 "TeaRaceModel" "homeAt" "[I") (by decide +kernel)) (fun _ h9 => h9) rfl dX6_firstShip_14 ?_
        refine lv_iload_n hx hb dX6_firstShip_17 rfl (lv_at hl 0 rfl) ?_
        refine va_iald hx hb hK hP 1 0 rfl rfl (in_k rfl (by omega) (by omega)) dX6_firstShip_18 ?_
        refine lv_topi (fun x_2 ex_2 => ?_)
        have rx_2 := congrArg Int32.toInt ex_2
        have gx_2 : x_2.toInt = -9 ∨ (0 ≤ x_2.toInt ∧ x_2.toInt ≤ 100000) := Rn.at R_Kha rfl (by omega) (by omega) ex_2
        refine lv_bipush (v := (-9)) hx hb dX6_firstShip_19 (by decide) ?_
        refine lv_icmp_eq (tgt := 73) hx hb dX6_firstShip_21 (by decide) (fun c_3 => ?_) (fun c_3 => ?_)
        · skip
          have qc_3 : x_2.toInt = (-9) := eq_k rfl (by decide) c_3
          obtain ⟨x_4, ex_4⟩ : ∃ y : Int32, y = is_ + 1 := ⟨_, rfl⟩
          have tx_4 : x_4.toInt = is_.toInt + 1 := ad_k ex_4 rfl (by decide) (by omega) (by omega)
          refine lv_iinc (v := x_4) (lv' := [(2, .int x_4), (1, .int be), (0, .ref m0)]) hx hb dX6_firstShip_73 hl (k := 0) rfl (by rw [ex_4]; rfl) (by decide) rfl (fun ls hl => ?_)
          refine lv_goto (tgt := 5) hx hb dX6_firstShip_76 (by decide) ?_
          exact ih5 be x_4  H locs ls ⟨(by first | omega | (simp only [Int32.reduceToInt]; omega)), (by first | omega | (simp only [Int32.reduceToInt]; omega))⟩ ⟨(by first | omega | (simp only [Int32.reduceToInt]; omega)), (by first | omega | (simp only [Int32.reduceToInt]; omega))⟩ (by first | omega | (simp only [Int32.reduceToInt]; omega)) (first_step (be := be) (bn := be) hbe (by omega) tx_4 (by (try dsimp only); (repeat' split) <;> omega)) (by first | omega | (simp only [Int32.reduceToInt]; omega)) hP hS (lv_sub hl [0, 1, 2] rfl)
        · skip
          have qc_3 : x_2.toInt ≠ (-9) := ne_k rfl (by decide) c_3
          refine lv_iload_n hx hb dX6_firstShip_24 rfl (lv_at hl 1 rfl) ?_
          refine lv_if_ge (tgt := 32) hx hb dX6_firstShip_25 (by decide) (fun c_5 => ?_) (fun c_5 => ?_)
          · skip
            have qc_5 : 0 ≤ be.toInt := le_k (by decide) rfl c_5
            refine lv_aload_n hx hb dX6_firstShip_32 rfl (lv_at hl 2 rfl) ?_
            refine lv_iload_n hx hb dX6_firstShip_33 rfl (lv_at hl 0 rfl) ?_
            have hPc := hP.sub (ws' := [(m0, .inr (7, [.int vfi, .ref mfi, .long vak, .int vhr, .ref mil, .ref mic, .ref mwi, .int vho, .int vga, .ref mmo, .int vns, .ref mki, .ref mce, .ref mgo, .ref mwa, .ref mha, .ref mch, .ref mfo, .ref mca, .ref mor, .ref mro, .ref mra, .ref mpr, .ref mho, .ref mis, .int vsg, .ref mss, .ref msc, .ref msh, .int vpr, .int vfa])), (mha, .inl (cI, 8, .inl Kha))]) [0, 1] rfl
            have hKc := hK.sub (tys' := [(cI, .int)]) [0] rfl
            refine va_calli (va_runV (As := [.int is_]) (rest := []) ⟨hx, hb, hml, hown, hts⟩ (c_X6_entryOf l dC dI H.size m0 mfi mil mic mwi mmo mki mce mgo mwa mha mch mfo mca mor mro mra mpr mho mis mss msc msh vfi vhr vho vga vns vsg vpr vfa vak Kha cI is_ ⟨(by omega), (by omega)⟩ ⟨(by omega), (by omega)⟩ R_Kha) (cwV 1 hts gX6_firstShip_X6_entryOf rfl rfl rfl (by decide +kernel) ⟨Nat.le_of_ble_eq_true rfl, Nat.le_of_ble_eq_true rfl⟩) ⟨fun a U g mk q => by obtain ⟨q0, q1, qP, qK, qN⟩ := q; exact ⟨q0, q1, qP, va_K.moved (u := U) (U := U.calling g mk a) (Vm.Alike.refl U.vm) qK, NW.same (u := U) (U := U.calling g mk a) rfl qN⟩, va_recv hKc hPc (ci := 7) (q0 := 0) rfl rfl, fun U hU hW => ⟨rfl, by rw [hU], by rw [hU]; exact hPc, va_K.moved hW.alike hKc, NW.warm hW hN⟩⟩ rfl rfl hl.1 rfl (lv_room (Nat.le_of_ble_eq_true rfl)) dX6_firstShip_34 ⟨(Nat.zero_le _), (Nat.zero_le _)⟩) hS (fun q _ h => ro_A hS hA q h) (ro_A hS hA) (fun r_6 u t H1 locs ht hvm k_7 hB hz1 hk1 hS => ?_)
            have hP := ro_P hk1 hP
            generalize H1 = H at hP hS ⊢
            try dsimp only at k_7
            obtain ⟨k_7, k_8⟩ := k_7
            refine lv_aload_n hx hb dX6_firstShip_37 rfl (lv_at hl 2 rfl) ?_
            refine lv_iload_n hx hb dX6_firstShip_38 rfl (lv_at hl 1 rfl) ?_
            have hPc := hP.sub (ws' := [(m0, .inr (7, [.int vfi, .ref mfi, .long vak, .int vhr, .ref mil, .ref mic, .ref mwi, .int vho, .int vga, .ref mmo, .int vns, .ref mki, .ref mce, .ref mgo, .ref mwa, .ref mha, .ref mch, .ref mfo, .ref mca, .ref mor, .ref mro, .ref mra, .ref mpr, .ref mho, .ref mis, .int vsg, .ref mss, .ref msc, .ref msh, .int vpr, .int vfa])), (mha, .inl (cI, 8, .inl Kha))]) [0, 1] rfl
            have hKc := hK.sub (tys' := [(cI, .int)]) [0] rfl
            refine va_calli (va_runV (As := [.int be]) (rest := [.int r_6]) ⟨hx, hb, hml, hown, hts⟩ (c_X6_entryOf l dC dI H.size m0 mfi mil mic mwi mmo mki mce mgo mwa mha mch mfo mca mor mro mra mpr mho mis mss msc msh vfi vhr vho vga vns vsg vpr vfa vak Kha cI be ⟨(by omega), (by omega)⟩ ⟨(by omega), (by omega)⟩ R_Kha) (cwV 1 hts gX6_firstShip_X6_entryOf rfl rfl rfl (by decide +kernel) ⟨Nat.le_of_ble_eq_true rfl, Nat.le_of_ble_eq_true rfl⟩) ⟨fun a U g mk q => by obtain ⟨q0, q1, qP, qK, qN⟩ := q; exact ⟨q0, q1, qP, va_K.moved (u := U) (U := U.calling g mk a) (Vm.Alike.refl U.vm) qK, NW.same (u := U) (U := U.calling g mk a) rfl qN⟩, va_recv hKc hPc (ci := 7) (q0 := 0) rfl rfl, fun U hU hW => ⟨rfl, by rw [hU], by rw [hU]; exact hPc, va_K.moved hW.alike hKc, NW.warm hW hN⟩⟩ rfl rfl hl.1 rfl (lv_room (Nat.le_of_ble_eq_true rfl)) dX6_firstShip_39 ⟨(Nat.zero_le _), (Nat.zero_le _)⟩) hS (fun q _ h => ro_A hS hA q h) (ro_A hS hA) (fun r_9 u t H1 locs ht hvm k_10 hB hz1 hk1 hS => ?_)
            have hP := ro_P hk1 hP
            generalize H1 = H at hP hS ⊢
            try dsimp only at k_10
            obtain ⟨k_10, k_11⟩ := k_10
            refine lv_isub hx hb dX6_firstShip_42 ?_
            refine lv_topi (fun x_12 ex_12 => ?_)
            have tx_12 : x_12.toInt = r_6.toInt - r_9.toInt := su_k ex_12 rfl rfl (by omega) (by omega)
            refine lv_istore_n (lv' := [(3, .int x_12), (2, .int is_), (1, .int be), (0, .ref m0)]) hx hb dX6_firstShip_43 rfl hl (by decide) rfl (fun ls hl => ?_)
            refine lv_iload_n hx hb dX6_firstShip_44 rfl (lv_at hl 0 rfl) ?_
            refine lv_if_lt (tgt := 67) hx hb dX6_firstShip_45 (by decide) (fun c_13 => ?_) (fun c_13 => ?_)
            · skip
              have qc_13 : x_12.toInt < 0 := lt_k rfl (by decide) c_13
              refine lv_iload_n hx hb dX6_firstShip_67 rfl (lv_at hl 1 rfl) ?_
              refine lv_goto (tgt := 72) hx hb dX6_firstShip_68 (by decide) ?_
              refine lv_istore_n (lv' := [(1, .int is_), (3, .int x_12), (2, .int is_), (0, .ref m0)]) hx hb dX6_firstShip_72 rfl hl (by decide) rfl (fun ls hl => ?_)
              obtain ⟨x_14, ex_14⟩ : ∃ y : Int32, y = is_ + 1 := ⟨_, rfl⟩
              have tx_14 : x_14.toInt = is_.toInt + 1 := ad_k ex_14 rfl (by decide) (by omega) (by omega)
              refine lv_iinc (v := x_14) (lv' := [(2, .int x_14), (1, .int is_), (3, .int x_12), (0, .ref m0)]) hx hb dX6_firstShip_73 hl (k := 2) rfl (by rw [ex_14]; rfl) (by decide) rfl (fun ls hl => ?_)
              refine lv_goto (tgt := 5) hx hb dX6_firstShip_76 (by decide) ?_
              exact ih5 is_ x_14  H locs ls ⟨(by first | omega | (simp only [Int32.reduceToInt]; omega)), (by first | omega | (simp only [Int32.reduceToInt]; omega))⟩ ⟨(by first | omega | (simp only [Int32.reduceToInt]; omega)), (by first | omega | (simp only [Int32.reduceToInt]; omega))⟩ (by first | omega | (simp only [Int32.reduceToInt]; omega)) (first_step (be := be) (bn := is_) hbe (by omega) tx_14 (by (try dsimp only); (repeat' split) <;> omega)) (by first | omega | (simp only [Int32.reduceToInt]; omega)) hP hS (lv_sub hl [0, 1, 3] rfl)
            · skip
              have qc_13 : 0 ≤ x_12.toInt := nlt_k rfl (by decide) c_13
              refine lv_iload_n hx hb dX6_firstShip_48 rfl (lv_at hl 0 rfl) ?_
              refine lv_if_ne (tgt := 71) hx hb dX6_firstShip_49 (by decide) (fun c_15 => ?_) (fun c_15 => ?_)
              · skip
                have qc_15 : x_12.toInt ≠ 0 := ne_k rfl (by decide) c_15
                refine lv_iload_n hx hb dX6_firstShip_71 rfl (lv_at hl 2 rfl) ?_
                refine lv_istore_n (lv' := [(1, .int be), (3, .int x_12), (2, .int is_), (0, .ref m0)]) hx hb dX6_firstShip_72 rfl hl (by decide) rfl (fun ls hl => ?_)
                obtain ⟨x_16, ex_16⟩ : ∃ y : Int32, y = is_ + 1 := ⟨_, rfl⟩
                have tx_16 : x_16.toInt = is_.toInt + 1 := ad_k ex_16 rfl (by decide) (by omega) (by omega)
                refine lv_iinc (v := x_16) (lv' := [(2, .int x_16), (1, .int be), (3, .int x_12), (0, .ref m0)]) hx hb dX6_firstShip_73 hl (k := 2) rfl (by rw [ex_16]; rfl) (by decide) rfl (fun ls hl => ?_)
                refine lv_goto (tgt := 5) hx hb dX6_firstShip_76 (by decide) ?_
                exact ih5 be x_16  H locs ls ⟨(by first | omega | (simp only [Int32.reduceToInt]; omega)), (by first | omega | (simp only [Int32.reduceToInt]; omega))⟩ ⟨(by first | omega | (simp only [Int32.reduceToInt]; omega)), (by first | omega | (simp only [Int32.reduceToInt]; omega))⟩ (by first | omega | (simp only [Int32.reduceToInt]; omega)) (first_step (be := be) (bn := be) hbe (by omega) tx_16 (by (try dsimp only); (repeat' split) <;> omega)) (by first | omega | (simp only [Int32.reduceToInt]; omega)) hP hS (lv_sub hl [0, 1, 3] rfl)
              · skip
                have qc_15 : x_12.toInt = 0 := eq_k rfl (by decide) c_15
                refine lv_aload_n hx hb dX6_firstShip_52 rfl (lv_at hl 3 rfl) ?_
                refine va_get (D := (dC, dI)) (ci := 7) (v := .ref mha) (C := RX6) (T := TX6) (N := 31) hx hb hts iw_X6_firstShip_X6 hown hK hP 0 rfl rfl 15 (by decide) (hts (.fieldLink RX6 38 "TeaRaceModel" "homeAt" "[I") (by decide +kernel)) (fun _ h9 => h9) rfl dX6_firstShip_53 ?_
                refine lv_iload_n hx hb dX6_firstShip_56 rfl (lv_at hl 1 rfl) ?_
                refine va_iald hx hb hK hP 1 0 rfl rfl (in_k rfl (by omega) (by omega)) dX6_firstShip_57 ?_
                refine lv_topi (fun x_17 ex_17 => ?_)
                have rx_17 := congrArg Int32.toInt ex_17
                obtain rfl : x_2 = x_17 := ex_2.trans ex_17.symm
                refine lv_aload_n hx hb dX6_firstShip_58 rfl (lv_at hl 3 rfl) ?_
                refine va_get (D := (dC, dI)) (ci := 7) (v := .ref mha) (C := RX6) (T := TX6) (N := 31) hx hb hts iw_X6_firstShip_X6 hown hK hP 0 rfl rfl 15 (by decide) (hts (.fieldLink RX6 38 "TeaRaceModel" "homeAt" "[I") (by decide +kernel)) (fun _ h9 => h9) rfl dX6_firstShip_59 ?_
                refine lv_iload_n hx hb dX6_firstShip_62 rfl (lv_at hl 2 rfl) ?_
                refine va_iald hx hb hK hP 1 0 rfl rfl (in_k rfl (by omega) (by omega)) dX6_firstShip_63 ?_
                refine lv_topi (fun x_18 ex_18 => ?_)
                have rx_18 := congrArg Int32.toInt ex_18
                have gx_18 : x_18.toInt = -9 ∨ (0 ≤ x_18.toInt ∧ x_18.toInt ≤ 100000) := Rn.at R_Kha rfl (by omega) (by omega) ex_18
                refine lv_icmp_ge (tgt := 71) hx hb dX6_firstShip_64 (by decide) (fun c_19 => ?_) (fun c_19 => ?_)
                · skip
                  have qc_19 : x_18.toInt ≤ x_2.toInt := le_k rfl rfl c_19
                  refine lv_iload_n hx hb dX6_firstShip_71 rfl (lv_at hl 2 rfl) ?_
                  refine lv_istore_n (lv' := [(1, .int be), (3, .int x_12), (2, .int is_), (0, .ref m0)]) hx hb dX6_firstShip_72 rfl hl (by decide) rfl (fun ls hl => ?_)
                  obtain ⟨x_20, ex_20⟩ : ∃ y : Int32, y = is_ + 1 := ⟨_, rfl⟩
                  have tx_20 : x_20.toInt = is_.toInt + 1 := ad_k ex_20 rfl (by decide) (by omega) (by omega)
                  refine lv_iinc (v := x_20) (lv' := [(2, .int x_20), (1, .int be), (3, .int x_12), (0, .ref m0)]) hx hb dX6_firstShip_73 hl (k := 2) rfl (by rw [ex_20]; rfl) (by decide) rfl (fun ls hl => ?_)
                  refine lv_goto (tgt := 5) hx hb dX6_firstShip_76 (by decide) ?_
                  exact ih5 be x_20  H locs ls ⟨(by first | omega | (simp only [Int32.reduceToInt]; omega)), (by first | omega | (simp only [Int32.reduceToInt]; omega))⟩ ⟨(by first | omega | (simp only [Int32.reduceToInt]; omega)), (by first | omega | (simp only [Int32.reduceToInt]; omega))⟩ (by first | omega | (simp only [Int32.reduceToInt]; omega)) (first_step (be := be) (bn := be) hbe (by omega) tx_20 (by (try dsimp only); (repeat' split) <;> omega)) (by first | omega | (simp only [Int32.reduceToInt]; omega)) hP hS (lv_sub hl [0, 1, 3] rfl)
                · skip
                  have qc_19 : x_2.toInt < x_18.toInt := nle_k rfl rfl c_19
                  refine lv_iload_n hx hb dX6_firstShip_67 rfl (lv_at hl 1 rfl) ?_
                  refine lv_goto (tgt := 72) hx hb dX6_firstShip_68 (by decide) ?_
                  refine lv_istore_n (lv' := [(1, .int is_), (3, .int x_12), (2, .int is_), (0, .ref m0)]) hx hb dX6_firstShip_72 rfl hl (by decide) rfl (fun ls hl => ?_)
                  obtain ⟨x_21, ex_21⟩ : ∃ y : Int32, y = is_ + 1 := ⟨_, rfl⟩
                  have tx_21 : x_21.toInt = is_.toInt + 1 := ad_k ex_21 rfl (by decide) (by omega) (by omega)
                  refine lv_iinc (v := x_21) (lv' := [(2, .int x_21), (1, .int is_), (3, .int x_12), (0, .ref m0)]) hx hb dX6_firstShip_73 hl (k := 2) rfl (by rw [ex_21]; rfl) (by decide) rfl (fun ls hl => ?_)
                  refine lv_goto (tgt := 5) hx hb dX6_firstShip_76 (by decide) ?_
                  exact ih5 is_ x_21  H locs ls ⟨(by first | omega | (simp only [Int32.reduceToInt]; omega)), (by first | omega | (simp only [Int32.reduceToInt]; omega))⟩ ⟨(by first | omega | (simp only [Int32.reduceToInt]; omega)), (by first | omega | (simp only [Int32.reduceToInt]; omega))⟩ (by first | omega | (simp only [Int32.reduceToInt]; omega)) (first_step (be := be) (bn := is_) hbe (by omega) tx_21 (by (try dsimp only); (repeat' split) <;> omega)) (by first | omega | (simp only [Int32.reduceToInt]; omega)) hP hS (lv_sub hl [0, 1, 3] rfl)
          · skip
            have qc_5 : be.toInt < 0 := nle_k (by decide) rfl c_5
            refine lv_iconst (v := (-1)) hx hb dX6_firstShip_28 (by decide) ?_
            refine lv_goto (tgt := 43) hx hb dX6_firstShip_29 (by decide) ?_
            refine lv_istore_n (lv' := [(3, .int (-1)), (2, .int is_), (1, .int be), (0, .ref m0)]) hx hb dX6_firstShip_43 rfl hl (by decide) rfl (fun ls hl => ?_)
            refine lv_iload_n hx hb dX6_firstShip_44 rfl (lv_at hl 0 rfl) ?_
            refine lv_if_lt (tgt := 67) hx hb dX6_firstShip_45 (by decide) (fun c_22 => ?_) (fun c_22 => ?_)
            · skip
              refine lv_iload_n hx hb dX6_firstShip_67 rfl (lv_at hl 1 rfl) ?_
              refine lv_goto (tgt := 72) hx hb dX6_firstShip_68 (by decide) ?_
              refine lv_istore_n (lv' := [(1, .int is_), (3, .int (-1)), (2, .int is_), (0, .ref m0)]) hx hb dX6_firstShip_72 rfl hl (by decide) rfl (fun ls hl => ?_)
              obtain ⟨x_23, ex_23⟩ : ∃ y : Int32, y = is_ + 1 := ⟨_, rfl⟩
              have tx_23 : x_23.toInt = is_.toInt + 1 := ad_k ex_23 rfl (by decide) (by omega) (by omega)
              refine lv_iinc (v := x_23) (lv' := [(2, .int x_23), (1, .int is_), (3, .int (-1)), (0, .ref m0)]) hx hb dX6_firstShip_73 hl (k := 2) rfl (by rw [ex_23]; rfl) (by decide) rfl (fun ls hl => ?_)
              refine lv_goto (tgt := 5) hx hb dX6_firstShip_76 (by decide) ?_
              exact ih5 is_ x_23  H locs ls ⟨(by first | omega | (simp only [Int32.reduceToInt]; omega)), (by first | omega | (simp only [Int32.reduceToInt]; omega))⟩ ⟨(by first | omega | (simp only [Int32.reduceToInt]; omega)), (by first | omega | (simp only [Int32.reduceToInt]; omega))⟩ (by first | omega | (simp only [Int32.reduceToInt]; omega)) (first_step (be := be) (bn := is_) hbe (by omega) tx_23 (by (try dsimp only); (repeat' split) <;> omega)) (by first | omega | (simp only [Int32.reduceToInt]; omega)) hP hS (lv_sub hl [0, 1, 3] rfl)
            · skip
              exact absurd (by decide) c_22
  exact key5 9 (-9) 0  _ _ ls (by decide) (by decide) (by (try simp only [Int32.reduceToInt]); omega) rfl (by (try simp only [Int32.reduceToInt]); omega) hP hS hl
set_option maxHeartbeats 4000000 in
set_option maxRecDepth 100000 in
/-- reference: first -/
theorem c_X6_first (l : Launch) (dC : Nat → ClassId) (dI : Nat → Nat → Nat) (sz : Nat) (m0 : Nat) (mfi : Nat) (mil : Nat) (mic : Nat) (mwi : Nat) (mmo : Nat) (mki : Nat) (mce : Nat) (mgo : Nat) (mwa : Nat) (mha : Nat) (mch : Nat) (mfo : Nat) (mca : Nat) (mor : Nat) (mro : Nat) (mra : Nat) (mpr : Nat) (mho : Nat) (mis : Nat) (mss : Nat) (msc : Nat) (msh : Nat) (vfi : Int32) (vhr : Int32) (vho : Int32) (vga : Int32) (vns : Int32) (vsg : Int32) (vpr : Int32) (vfa : Int32) (vak : Int64) (Kha : Nat → Int32) (cI : ClassId) (i_vns : 0 ≤ vns.toInt ∧ vns.toInt ≤ 8) (i_vga : 0 ≤ vga.toInt ∧ vga.toInt ≤ 23) (R_Kha : Rn 8 0 100000 Kha) : Met l yX6_first wsX6_first ({ frames := 2, cells := 0, slots := 0, locals := 45 }) (va_Pc [.ref m0] (fun U => U.heap.size = sz ∧ va_P (dC, dI) vwCl [(m0, .inr (7, [.int vfi, .ref mfi, .long vak, .int vhr, .ref mil, .ref mic, .ref mwi, .int vho, .int vga, .ref mmo, .int vns, .ref mki, .ref mce, .ref mgo, .ref mwa, .ref mha, .ref mch, .ref mfo, .ref mca, .ref mor, .ref mro, .ref mra, .ref mpr, .ref mho, .ref mis, .int vsg, .ref mss, .ref msc, .ref msh, .int vpr, .int vfa])), (mha, .inl (cI, 8, .inl Kha))] U.heap ∧ va_K (dC, dI) vwCl [(cI, .int)] U ∧ NW U)) (va_Qi (fun (r : Int32) (_ : Unit) => (r.toInt = optI (firstF (entM Kha vga.toInt) (fun i => (Kha i).toInt) vns.toNatClampNeg))) (fun _ _ => True) (va_A [] sz)) 0 0 (va_A [] sz) := by
  refine Met.ofW (cc := cX6_first) (maxL := 1) (ret := (some .int)) (by decide) rfl ?_
  intro p e s m args below meth c s₁ B hml hv
  obtain ⟨rfl, hsz, hP, hK, hN⟩ := hv
  have hx := B.exec
  have hb := B.bytes
  have hr := B.returns
  have hts := atoms_spec (ws := wsX6_first) B.pre
  have hown : s.vm.findClass RX6 = some m.cls := findClass_of_methodNamed B.named
  have hlocks := B.notSynchronized
  subst hsz
  generalize hAe : va_A [] s.heap.size = A at ⊢
  have hA : ∀ q : Nat, s.heap.size ≤ q → A q := fun q h => by rw [← hAe]; exact Or.inr h
  have hS : va_S A s.heap s.heap [] := va_S.rf
  have hP : va_P (dC, dI) vwCl [(m0, .inr (7, [.int vfi, .ref mfi, .long vak, .int vhr, .ref mil, .ref mic, .ref mwi, .int vho, .int vga, .ref mmo, .int vns, .ref mki, .ref mce, .ref mgo, .ref mwa, .ref mha, .ref mch, .ref mfo, .ref mca, .ref mor, .ref mro, .ref mra, .ref mpr, .ref mho, .ref mis, .int vsg, .ref mss, .ref msc, .ref msh, .int vpr, .int vfa])), (mha, .inl (cI, 8, .inl Kha))] s.heap := hP
  have hl := lv_entry ([.ref m0]) (n := 1) (Nat.le_of_ble_eq_true rfl)
  rw [lg_entry_eq]
  generalize (lg_sl ([.ref m0]) ++ List.replicate (1 - (lg_sl ([.ref m0])).length) Slot.unset).toArray = ls at hl ⊢
  have hl : lv_has ls 1 [(0, .ref m0)] := hl
  refine lv_aload_n hx hb dX6_first_0 rfl (lv_at hl 0 rfl) ?_
  have hPc := hP.sub (ws' := [(m0, .inr (7, [.int vfi, .ref mfi, .long vak, .int vhr, .ref mil, .ref mic, .ref mwi, .int vho, .int vga, .ref mmo, .int vns, .ref mki, .ref mce, .ref mgo, .ref mwa, .ref mha, .ref mch, .ref mfo, .ref mca, .ref mor, .ref mro, .ref mra, .ref mpr, .ref mho, .ref mis, .int vsg, .ref mss, .ref msc, .ref msh, .int vpr, .int vfa])), (mha, .inl (cI, 8, .inl Kha))]) [0, 1] rfl
  have hKc := hK.sub (tys' := [(cI, .int)]) [0] rfl
  refine va_calli (va_runV (As := []) (rest := []) ⟨hx, hb, hml, hown, hts⟩ (c_X6_firstShip l dC dI s.heap.size m0 mfi mil mic mwi mmo mki mce mgo mwa mha mch mfo mca mor mro mra mpr mho mis mss msc msh vfi vhr vho vga vns vsg vpr vfa vak Kha cI ⟨(by omega), (by omega)⟩ ⟨(by omega), (by omega)⟩ R_Kha) (cwV 0 hts gX6_first_X6_firstShip rfl rfl rfl (by decide +kernel) ⟨Nat.le_of_ble_eq_true rfl, Nat.le_of_ble_eq_true rfl⟩) ⟨fun a U g mk q => by obtain ⟨q0, q1, qP, qK, qN⟩ := q; exact ⟨q0, q1, qP, va_K.moved (u := U) (U := U.calling g mk a) (Vm.Alike.refl U.vm) qK, NW.same (u := U) (U := U.calling g mk a) rfl qN⟩, va_recv hKc hPc (ci := 7) (q0 := 0) rfl rfl, fun U hU hW => ⟨rfl, by rw [hU], by rw [hU]; exact hPc, va_K.moved hW.alike hKc, NW.warm hW hN⟩⟩ rfl rfl hl.1 rfl (lv_room (Nat.le_of_ble_eq_true rfl)) dX6_first_1 ⟨(Nat.zero_le _), (Nat.zero_le _)⟩) hS (fun q _ h => ro_A hS hA q h) (ro_A hS hA) (fun r_1 u t H1 locs ht hvm k_2 hB hz1 hk1 hS => ?_)
  have hP := ro_P hk1 hP
  generalize H1 = H at hP hS ⊢
  try dsimp only at k_2
  obtain ⟨k_2, k_3⟩ := k_2
  exact W.iret (v := r_1) hx hb hr (fun t ht hW => ⟨⟨r_1, (), rfl, k_2, trivial⟩, hS.F ht⟩) hS.2.2 dX6_first_4
set_option maxHeartbeats 4000000 in
set_option maxRecDepth 100000 in
/-- reference: crossing -/
theorem c_X6_crossing (l : Launch) (dC : Nat → ClassId) (dI : Nat → Nat → Nat) (sz : Nat) (m0 : Nat) (mfi : Nat) (mil : Nat) (mic : Nat) (mwi : Nat) (mmo : Nat) (mki : Nat) (mce : Nat) (mgo : Nat) (mwa : Nat) (mha : Nat) (mch : Nat) (mfo : Nat) (mca : Nat) (mor : Nat) (mro : Nat) (mra : Nat) (mpr : Nat) (mho : Nat) (mis : Nat) (mss : Nat) (msc : Nat) (msh : Nat) (vfi : Int32) (vhr : Int32) (vho : Int32) (vga : Int32) (vns : Int32) (vsg : Int32) (vpr : Int32) (vfa : Int32) (vak : Int64) (Kic : Nat → Int32) (Kwi : Nat → Int32) (Kki : Nat → Int32) (Kfo : Nat → Int32) (cI : ClassId) (cZ : ClassId) (a0 : Int32) (a1 : Int32) (a2 : Int32) (a3 : Int32) (a4 : Int32) (i_a0 : 0 ≤ a0.toInt ∧ a0.toInt ≤ 7) (i_a1 : 0 ≤ a1.toInt ∧ a1.toInt ≤ 159) (i_a2 : 0 ≤ a2.toInt ∧ a2.toInt ≤ 7) (i_a3 : 0 ≤ a3.toInt ∧ a3.toInt ≤ 100000) (i_a4 : 0 ≤ a4.toInt ∧ a4.toInt ≤ 2000) (R_Kwi : Rg 1920 (-128) 127 Kwi) (R_Kki : Rg 8 0 3 Kki) (R_Kfo : Rg 8 0 9 Kfo) : Met l yX6_crossing wsX6_crossing ({ frames := 2, cells := 0, slots := 0, locals := 46 }) (va_Pc [.ref m0, .int a0, .int a1, .int a2, .int a3, .int a4] (fun U => U.heap.size = sz ∧ va_P (dC, dI) vwCl [(m0, .inr (7, [.int vfi, .ref mfi, .long vak, .int vhr, .ref mil, .ref mic, .ref mwi, .int vho, .int vga, .ref mmo, .int vns, .ref mki, .ref mce, .ref mgo, .ref mwa, .ref mha, .ref mch, .ref mfo, .ref mca, .ref mor, .ref mro, .ref mra, .ref mpr, .ref mho, .ref mis, .int vsg, .ref mss, .ref msc, .ref msh, .int vpr, .int vfa])), (mic, .inl (cZ, 12, .inl Kic)), (mwi, .inl (cI, 1920, .inl Kwi)), (mki, .inl (cI, 8, .inl Kki)), (mfo, .inl (cI, 8, .inl Kfo))] U.heap ∧ va_K (dC, dI) vwCl [(cI, .int), (cZ, .boolean)] U ∧ NW U)) (va_Qi (fun (r : Int32) (_ : Unit) => (r.toInt ≤ a4.toInt + 1) ∧ (r.toInt = (crossF (csumF (fun h9 => spF (Kki a0.toNatClampNeg).toInt (Kfo a0.toNatClampNeg).toInt Kic (fun m9 j9 => Kwi (160 * m9 + j9)) h9 a1.toInt a2.toInt) a3.toInt) (needF a2.toInt) a4.toInt.toNat : Int)) ∧ (0 ≤ r.toInt ∧ r.toInt ≤ 2001)) (fun _ _ => True) (va_A [] sz)) 0 0 (va_A [] sz) := by
  refine Met.ofW (cc := cX6_crossing) (maxL := 9) (ret := (some .int)) (by decide) rfl ?_
  intro p e s m args below meth c s₁ B hml hv
  obtain ⟨rfl, hsz, hP, hK, hN⟩ := hv
  have hx := B.exec
  have hb := B.bytes
  have hr := B.returns
  have hts := atoms_spec (ws := wsX6_crossing) B.pre
  have hown : s.vm.findClass RX6 = some m.cls := findClass_of_methodNamed B.named
  have hlocks := B.notSynchronized
  subst hsz
  generalize hAe : va_A [] s.heap.size = A at ⊢
  have hA : ∀ q : Nat, s.heap.size ≤ q → A q := fun q h => by rw [← hAe]; exact Or.inr h
  have hS : va_S A s.heap s.heap [] := va_S.rf
  have hP : va_P (dC, dI) vwCl [(m0, .inr (7, [.int vfi, .ref mfi, .long vak, .int vhr, .ref mil, .ref mic, .ref mwi, .int vho, .int vga, .ref mmo, .int vns, .ref mki, .ref mce, .ref mgo, .ref mwa, .ref mha, .ref mch, .ref mfo, .ref mca, .ref mor, .ref mro, .ref mra, .ref mpr, .ref mho, .ref mis, .int vsg, .ref mss, .ref msc, .ref msh, .int vpr, .int vfa])), (mic, .inl (cZ, 12, .inl Kic)), (mwi, .inl (cI, 1920, .inl Kwi)), (mki, .inl (cI, 8, .inl Kki)), (mfo, .inl (cI, 8, .inl Kfo))] s.heap := hP
  have hl := lv_entry ([.ref m0, .int a0, .int a1, .int a2, .int a3, .int a4]) (n := 9) (Nat.le_of_ble_eq_true rfl)
  rw [lg_entry_eq]
  generalize (lg_sl ([.ref m0, .int a0, .int a1, .int a2, .int a3, .int a4]) ++ List.replicate (9 - (lg_sl ([.ref m0, .int a0, .int a1, .int a2, .int a3, .int a4])).length) Slot.unset).toArray = ls at hl ⊢
  have hl : lv_has ls 9 [(0, .ref m0), (1, .int a0), (2, .int a1), (3, .int a2), (4, .int a3), (5, .int a4)] := hl
  refine lv_iconst (v := 0) hx hb dX6_crossing_0 (by decide) ?_
  refine lv_istore (lv' := [(6, .int 0), (0, .ref m0), (1, .int a0), (2, .int a1), (3, .int a2), (4, .int a3), (5, .int a4)]) hx hb dX6_crossing_1 hl (by decide) rfl (fun ls hl => ?_)
  refine lv_iconst (v := 0) hx hb dX6_crossing_3 (by decide) ?_
  refine lv_istore (lv' := [(7, .int 0), (6, .int 0), (0, .ref m0), (1, .int a0), (2, .int a1), (3, .int a2), (4, .int a3), (5, .int a4)]) hx hb dX6_crossing_4 hl (by decide) rfl (fun ls hl => ?_)
  have key6 : ∀ (n6 : Nat) (sm : Int32) (nn : Int32) (H : Heap) (locs : List Loc) (ls : Array Slot), (0 ≤ sm.toInt ∧ sm.toInt ≤ 129) → (0 ≤ nn.toInt ∧ nn.toInt ≤ 2001) → (nn.toInt ≤ a4.toInt + 1) → (sm.toInt = csumF (fun h9 => spF (Kki a0.toNatClampNeg).toInt (Kfo a0.toNatClampNeg).toInt Kic (fun m9 j9 => Kwi (160 * m9 + j9)) h9 a1.toInt a2.toInt) a3.toInt nn.toInt.toNat) → (∀ i : Nat, (i : Int) < nn.toInt → csumF (fun h9 => spF (Kki a0.toNatClampNeg).toInt (Kfo a0.toNatClampNeg).toInt Kic (fun m9 j9 => Kwi (160 * m9 + j9)) h9 a1.toInt a2.toInt) a3.toInt i < needF a2.toInt) → 2001 - nn.toInt < (n6 : Int) → va_P (dC, dI) vwCl [(m0, .inr (7, [.int vfi, .ref mfi, .long vak, .int vhr, .ref mil, .ref mic, .ref mwi, .int vho, .int vga, .ref mmo, .int vns, .ref mki, .ref mce, .ref mgo, .ref mwa, .ref mha, .ref mch, .ref mfo, .ref mca, .ref mor, .ref mro, .ref mra, .ref mpr, .ref mho, .ref mis, .int vsg, .ref mss, .ref msc, .ref msh, .int vpr, .int vfa])), (mic, .inl (cZ, 12, .inl Kic)), (mwi, .inl (cI, 1920, .inl Kwi)), (mki, .inl (cI, 8, .inl Kki)), (mfo, .inl (cI, 8, .inl Kfo))] H → va_S A s.heap H locs → lv_has ls 9 [(7, .int nn), (6, .int sm), (0, .ref m0), (1, .int a0), (2, .int a1), (3, .int a2), (4, .int a3), (5, .int a4)] → W p l e ({ frames := 2, cells := 0, slots := 0, locals := 46 } : Room) s m ([.ref m0, .int a0, .int a1, .int a2, .int a3, .int a4] : List Value).toArray below meth c H locs 0 0 (MQ below (va_Qi (fun (r : Int32) (_ : Unit) => (r.toInt ≤ a4.toInt + 1) ∧ (r.toInt = (crossF (csumF (fun h9 => spF (Kki a0.toNatClampNeg).toInt (Kfo a0.toNatClampNeg).toInt Kic (fun m9 j9 => Kwi (160 * m9 + j9)) h9 a1.toInt a2.toInt) a3.toInt) (needF a2.toInt) a4.toInt.toNat : Int)) ∧ (0 ≤ r.toInt ∧ r.toInt ≤ 2001)) (fun _ _ => True) A) ([.ref m0, .int a0, .int a1, .int a2, .int a3, .int a4] : List Value).toArray s 0 0 A) (F0 m 6 ls []) := by
    intro n6
    induction n6 with
    | zero =>
      intro sm nn H locs ls i_sm i_nn hn hsm hlt9 hm6
      exact absurd hm6 (by omega)
    | succ n6 ih6 =>
      intro sm nn H locs ls i_sm i_nn hn hsm hlt9 hm6 hP hS hl
      refine lv_iload hx hb dX6_crossing_6 (lv_at hl 1 rfl) ?_
      refine lv_iload_n hx hb dX6_crossing_8 rfl (lv_at hl 5 rfl) ?_
      refine va_calli (va_runS (As := [.int a2]) (rest := [.int sm]) ⟨hx, hb, hml, hown, hts⟩ (c_X6_need l H.size a2 ⟨(by omega), (by omega)⟩) (va_cwS 1 hts gX6_crossing_X6_need rfl rfl rfl (by decide +kernel) ⟨Nat.le_of_ble_eq_true rfl, Nat.le_of_ble_eq_true rfl⟩) ⟨fun a U g mk q => by obtain ⟨q0, q1⟩ := q; exact ⟨q0, q1⟩, fun U hU hW => ⟨rfl, congrArg Array.size hU⟩⟩ rfl rfl hl.1 rfl (lv_room (Nat.le_of_ble_eq_true rfl)) dX6_crossing_9 ⟨(Nat.zero_le _), (Nat.zero_le _)⟩) hS (fun q _ h => ro_A hS hA q h) (ro_A hS hA) (fun r_1 u t H1 locs ht hvm k_2 hB hz1 hk1 hS => ?_)
      have hP := ro_P hk1 hP
      generalize H1 = H at hP hS ⊢
      try dsimp only at k_2
      obtain ⟨k_2, k_3⟩ := k_2
      refine lv_icmp_ge (tgt := 61) hx hb dX6_crossing_12 (by decide) (fun c_4 => ?_) (fun c_4 => ?_)
      · skip
        have qc_4 : r_1.toInt ≤ sm.toInt := le_k rfl rfl c_4
        refine lv_iload hx hb dX6_crossing_61 (lv_at hl 0 rfl) ?_
        exact W.iret (v := nn) hx hb hr (fun t ht hW => ⟨⟨nn, (), rfl, ⟨(by (try dsimp only) <;> (first | (first | rfl | assumption | omega | exact Int32.toInt_inj.mp (by omega) | (simp only [Int32.reduceToInt, zl1, zl2, zl3, zl4, zl9]; omega) | ((rw [if_pos (by (first | omega | ((try simp only [Int32.lt_iff_toInt_lt, Int32.le_iff_toInt_le, ← Int32.toInt_inj, Int32.reduceToInt, zl1, zl2, zl3, zl4, zl9]); (try simp only [Int32.reduceToInt]); omega) | (subst_vars; assumption) | (refine ⟨?_, ?_⟩ <;> first | omega | (simp only [Int32.lt_iff_toInt_lt, Int32.le_iff_toInt_le, ← Int32.toInt_inj, Int32.reduceToInt, zl1, zl2, zl3, zl4, zl9]; omega) | (subst_vars; assumption))))]) <;> (first | rfl | assumption | omega | exact Int32.toInt_inj.mp (by omega) | (simp only [Int32.reduceToInt, zl1, zl2, zl3, zl4, zl9]; omega) | ((rw [if_pos (by (first | omega | ((try simp only [Int32.lt_iff_toInt_lt, Int32.le_iff_toInt_le, ← Int32.toInt_inj, Int32.reduceToInt, zl1, zl2, zl3, zl4, zl9]); (try simp only [Int32.reduceToInt]); omega) | (subst_vars; assumption) | (refine ⟨?_, ?_⟩ <;> first | omega | (simp only [Int32.lt_iff_toInt_lt, Int32.le_iff_toInt_le, ← Int32.toInt_inj, Int32.reduceToInt, zl1, zl2, zl3, zl4, zl9]; omega) | (subst_vars; assumption))))]) <;> (first | rfl | assumption | omega | exact Int32.toInt_inj.mp (by omega) | (simp only [Int32.reduceToInt, zl1, zl2, zl3, zl4, zl9]; omega))) | ((rw [if_neg (by (first | omega | ((try simp only [Int32.lt_iff_toInt_lt, Int32.le_iff_toInt_le, ← Int32.toInt_inj, Int32.reduceToInt, zl1, zl2, zl3, zl4, zl9]); (try simp only [Int32.reduceToInt]); omega) | (subst_vars; assumption) | (refine ⟨?_, ?_⟩ <;> first | omega | (simp only [Int32.lt_iff_toInt_lt, Int32.le_iff_toInt_le, ← Int32.toInt_inj, Int32.reduceToInt, zl1, zl2, zl3, zl4, zl9]; omega) | (subst_vars; assumption))))]) <;> (first | rfl | assumption | omega | exact Int32.toInt_inj.mp (by omega) | (simp only [Int32.reduceToInt, zl1, zl2, zl3, zl4, zl9]; omega))))) | ((rw [if_neg (by (first | omega | ((try simp only [Int32.lt_iff_toInt_lt, Int32.le_iff_toInt_le, ← Int32.toInt_inj, Int32.reduceToInt, zl1, zl2, zl3, zl4, zl9]); (try simp only [Int32.reduceToInt]); omega) | (subst_vars; assumption) | (refine ⟨?_, ?_⟩ <;> first | omega | (simp only [Int32.lt_iff_toInt_lt, Int32.le_iff_toInt_le, ← Int32.toInt_inj, Int32.reduceToInt, zl1, zl2, zl3, zl4, zl9]; omega) | (subst_vars; assumption))))]) <;> (first | rfl | assumption | omega | exact Int32.toInt_inj.mp (by omega) | (simp only [Int32.reduceToInt, zl1, zl2, zl3, zl4, zl9]; omega) | ((rw [if_pos (by (first | omega | ((try simp only [Int32.lt_iff_toInt_lt, Int32.le_iff_toInt_le, ← Int32.toInt_inj, Int32.reduceToInt, zl1, zl2, zl3, zl4, zl9]); (try simp only [Int32.reduceToInt]); omega) | (subst_vars; assumption) | (refine ⟨?_, ?_⟩ <;> first | omega | (simp only [Int32.lt_iff_toInt_lt, Int32.le_iff_toInt_le, ← Int32.toInt_inj, Int32.reduceToInt, zl1, zl2, zl3, zl4, zl9]; omega) | (subst_vars; assumption))))]) <;> (first | rfl | assumption | omega | exact Int32.toInt_inj.mp (by omega) | (simp only [Int32.reduceToInt, zl1, zl2, zl3, zl4, zl9]; omega))) | ((rw [if_neg (by (first | omega | ((try simp only [Int32.lt_iff_toInt_lt, Int32.le_iff_toInt_le, ← Int32.toInt_inj, Int32.reduceToInt, zl1, zl2, zl3, zl4, zl9]); (try simp only [Int32.reduceToInt]); omega) | (subst_vars; assumption) | (refine ⟨?_, ?_⟩ <;> first | omega | (simp only [Int32.lt_iff_toInt_lt, Int32.le_iff_toInt_le, ← Int32.toInt_inj, Int32.reduceToInt, zl1, zl2, zl3, zl4, zl9]; omega) | (subst_vars; assumption))))]) <;> (first | rfl | assumption | omega | exact Int32.toInt_inj.mp (by omega) | (simp only [Int32.reduceToInt, zl1, zl2, zl3, zl4, zl9]; omega)))))) | ((try simp only [Int32.lt_iff_toInt_lt, Int32.le_iff_toInt_le, ← Int32.toInt_inj, Int32.reduceToInt, zl1, zl2, zl3, zl4, zl9]); (repeat' split) <;> first | rfl | omega | (simp only [Int32.lt_iff_toInt_lt, Int32.le_iff_toInt_le, ← Int32.toInt_inj, Int32.reduceToInt, zl1, zl2, zl3, zl4, zl9]; omega)))), (by have z9 := k_2; rewrite [mNeed_F (by omega)] at z9; rw [crossF_eq (k := nn.toInt.toNat) (by omega) (fun i hi => hlt9 i (by omega)) (by first | exact Or.inl (by rw [← hsm]; omega) | exact Or.inr (by omega))]; omega), ⟨by omega, by omega⟩⟩, trivial⟩, hS.F ht⟩) hS.2.2 dX6_crossing_63
      · skip
        have qc_4 : sm.toInt < r_1.toInt := nle_k rfl rfl c_4
        refine lv_iload hx hb dX6_crossing_15 (lv_at hl 0 rfl) ?_
        refine lv_iload hx hb dX6_crossing_17 (lv_at hl 7 rfl) ?_
        refine lv_icmp_gt (tgt := 61) hx hb dX6_crossing_19 (by decide) (fun c_5 => ?_) (fun c_5 => ?_)
        · skip
          have qc_5 : a4.toInt < nn.toInt := lt_k rfl rfl c_5
          refine lv_iload hx hb dX6_crossing_61 (lv_at hl 0 rfl) ?_
          exact W.iret (v := nn) hx hb hr (fun t ht hW => ⟨⟨nn, (), rfl, ⟨(by (try dsimp only) <;> (first | (first | rfl | assumption | omega | exact Int32.toInt_inj.mp (by omega) | (simp only [Int32.reduceToInt, zl1, zl2, zl3, zl4, zl9]; omega) | ((rw [if_pos (by (first | omega | ((try simp only [Int32.lt_iff_toInt_lt, Int32.le_iff_toInt_le, ← Int32.toInt_inj, Int32.reduceToInt, zl1, zl2, zl3, zl4, zl9]); (try simp only [Int32.reduceToInt]); omega) | (subst_vars; assumption) | (refine ⟨?_, ?_⟩ <;> first | omega | (simp only [Int32.lt_iff_toInt_lt, Int32.le_iff_toInt_le, ← Int32.toInt_inj, Int32.reduceToInt, zl1, zl2, zl3, zl4, zl9]; omega) | (subst_vars; assumption))))]) <;> (first | rfl | assumption | omega | exact Int32.toInt_inj.mp (by omega) | (simp only [Int32.reduceToInt, zl1, zl2, zl3, zl4, zl9]; omega) | ((rw [if_pos (by (first | omega | ((try simp only [Int32.lt_iff_toInt_lt, Int32.le_iff_toInt_le, ← Int32.toInt_inj, Int32.reduceToInt, zl1, zl2, zl3, zl4, zl9]); (try simp only [Int32.reduceToInt]); omega) | (subst_vars; assumption) | (refine ⟨?_, ?_⟩ <;> first | omega | (simp only [Int32.lt_iff_toInt_lt, Int32.le_iff_toInt_le, ← Int32.toInt_inj, Int32.reduceToInt, zl1, zl2, zl3, zl4, zl9]; omega) | (subst_vars; assumption))))]) <;> (first | rfl | assumption | omega | exact Int32.toInt_inj.mp (by omega) | (simp only [Int32.reduceToInt, zl1, zl2, zl3, zl4, zl9]; omega))) | ((rw [if_neg (by (first | omega | ((try simp only [Int32.lt_iff_toInt_lt, Int32.le_iff_toInt_le, ← Int32.toInt_inj, Int32.reduceToInt, zl1, zl2, zl3, zl4, zl9]); (try simp only [Int32.reduceToInt]); omega) | (subst_vars; assumption) | (refine ⟨?_, ?_⟩ <;> first | omega | (simp only [Int32.lt_iff_toInt_lt, Int32.le_iff_toInt_le, ← Int32.toInt_inj, Int32.reduceToInt, zl1, zl2, zl3, zl4, zl9]; omega) | (subst_vars; assumption))))]) <;> (first | rfl | assumption | omega | exact Int32.toInt_inj.mp (by omega) | (simp only [Int32.reduceToInt, zl1, zl2, zl3, zl4, zl9]; omega))))) | ((rw [if_neg (by (first | omega | ((try simp only [Int32.lt_iff_toInt_lt, Int32.le_iff_toInt_le, ← Int32.toInt_inj, Int32.reduceToInt, zl1, zl2, zl3, zl4, zl9]); (try simp only [Int32.reduceToInt]); omega) | (subst_vars; assumption) | (refine ⟨?_, ?_⟩ <;> first | omega | (simp only [Int32.lt_iff_toInt_lt, Int32.le_iff_toInt_le, ← Int32.toInt_inj, Int32.reduceToInt, zl1, zl2, zl3, zl4, zl9]; omega) | (subst_vars; assumption))))]) <;> (first | rfl | assumption | omega | exact Int32.toInt_inj.mp (by omega) | (simp only [Int32.reduceToInt, zl1, zl2, zl3, zl4, zl9]; omega) | ((rw [if_pos (by (first | omega | ((try simp only [Int32.lt_iff_toInt_lt, Int32.le_iff_toInt_le, ← Int32.toInt_inj, Int32.reduceToInt, zl1, zl2, zl3, zl4, zl9]); (try simp only [Int32.reduceToInt]); omega) | (subst_vars; assumption) | (refine ⟨?_, ?_⟩ <;> first | omega | (simp only [Int32.lt_iff_toInt_lt, Int32.le_iff_toInt_le, ← Int32.toInt_inj, Int32.reduceToInt, zl1, zl2, zl3, zl4, zl9]; omega) | (subst_vars; assumption))))]) <;> (first | rfl | assumption | omega | exact Int32.toInt_inj.mp (by omega) | (simp only [Int32.reduceToInt, zl1, zl2, zl3, zl4, zl9]; omega))) | ((rw [if_neg (by (first | omega | ((try simp only [Int32.lt_iff_toInt_lt, Int32.le_iff_toInt_le, ← Int32.toInt_inj, Int32.reduceToInt, zl1, zl2, zl3, zl4, zl9]); (try simp only [Int32.reduceToInt]); omega) | (subst_vars; assumption) | (refine ⟨?_, ?_⟩ <;> first | omega | (simp only [Int32.lt_iff_toInt_lt, Int32.le_iff_toInt_le, ← Int32.toInt_inj, Int32.reduceToInt, zl1, zl2, zl3, zl4, zl9]; omega) | (subst_vars; assumption))))]) <;> (first | rfl | assumption | omega | exact Int32.toInt_inj.mp (by omega) | (simp only [Int32.reduceToInt, zl1, zl2, zl3, zl4, zl9]; omega)))))) | ((try simp only [Int32.lt_iff_toInt_lt, Int32.le_iff_toInt_le, ← Int32.toInt_inj, Int32.reduceToInt, zl1, zl2, zl3, zl4, zl9]); (repeat' split) <;> first | rfl | omega | (simp only [Int32.lt_iff_toInt_lt, Int32.le_iff_toInt_le, ← Int32.toInt_inj, Int32.reduceToInt, zl1, zl2, zl3, zl4, zl9]; omega)))), (by have z9 := k_2; rewrite [mNeed_F (by omega)] at z9; rw [crossF_eq (k := nn.toInt.toNat) (by omega) (fun i hi => hlt9 i (by omega)) (by first | exact Or.inl (by rw [← hsm]; omega) | exact Or.inr (by omega))]; omega), ⟨by omega, by omega⟩⟩, trivial⟩, hS.F ht⟩) hS.2.2 dX6_crossing_63
        · skip
          have qc_5 : nn.toInt ≤ a4.toInt := nlt_k rfl rfl c_5
          refine lv_aload_n hx hb dX6_crossing_22 rfl (lv_at hl 2 rfl) ?_
          refine lv_iload_n hx hb dX6_crossing_23 rfl (lv_at hl 4 rfl) ?_
          refine lv_iload hx hb dX6_crossing_24 (lv_at hl 6 rfl) ?_
          refine lv_iload hx hb dX6_crossing_26 (lv_at hl 0 rfl) ?_
          refine lv_iadd hx hb dX6_crossing_28 ?_
          refine lv_topi (fun x_6 ex_6 => ?_)
          have tx_6 : x_6.toInt = a3.toInt + nn.toInt := ad_k ex_6 rfl rfl (by omega) (by omega)
          have hPc := hP.sub (ws' := [(m0, .inr (7, [.int vfi, .ref mfi, .long vak, .int vhr, .ref mil, .ref mic, .ref mwi, .int vho, .int vga, .ref mmo, .int vns, .ref mki, .ref mce, .ref mgo, .ref mwa, .ref mha, .ref mch, .ref mfo, .ref mca, .ref mor, .ref mro, .ref mra, .ref mpr, .ref mho, .ref mis, .int vsg, .ref mss, .ref msc, .ref msh, .int vpr, .int vfa])), (mic, .inl (cZ, 12, .inl Kic)), (mwi, .inl (cI, 1920, .inl Kwi))]) [0, 1, 2] rfl
          have hKc := hK.sub (tys' := [(cI, .int), (cZ, .boolean)]) [0, 1] rfl
          refine va_calli (va_runV (As := [.int a1, .int x_6]) (rest := []) ⟨hx, hb, hml, hown, hts⟩ (c_X6_windAt l dC dI H.size m0 mfi mil mic mwi mmo mki mce mgo mwa mha mch mfo mca mor mro mra mpr mho mis mss msc msh vfi vhr vho vga vns vsg vpr vfa vak Kic Kwi cI cZ a1 x_6 ⟨(by omega), (by omega)⟩ ⟨(by omega), (by omega)⟩ R_Kwi) (cwV 2 hts gX6_crossing_X6_windAt rfl rfl rfl (by decide +kernel) ⟨Nat.le_of_ble_eq_true rfl, Nat.le_of_ble_eq_true rfl⟩) ⟨fun a U g mk q => by obtain ⟨q0, q1, qP, qK, qN⟩ := q; exact ⟨q0, q1, qP, va_K.moved (u := U) (U := U.calling g mk a) (Vm.Alike.refl U.vm) qK, NW.same (u := U) (U := U.calling g mk a) rfl qN⟩, va_recv hKc hPc (ci := 7) (q0 := 0) rfl rfl, fun U hU hW => ⟨rfl, by rw [hU], by rw [hU]; exact hPc, va_K.moved hW.alike hKc, NW.warm hW hN⟩⟩ rfl rfl hl.1 rfl (lv_room (Nat.le_of_ble_eq_true rfl)) dX6_crossing_29 ⟨(Nat.zero_le _), (Nat.zero_le _)⟩) hS (fun q _ h => ro_A hS hA q h) (ro_A hS hA) (fun r_7 u t H1 locs ht hvm k_8 hB hz1 hk1 hS => ?_)
          have hP := ro_P hk1 hP
          generalize H1 = H at hP hS ⊢
          try dsimp only at k_8
          obtain ⟨k_8, k_9⟩ := k_8
          refine lv_istore (lv' := [(8, .int r_7), (7, .int nn), (6, .int sm), (0, .ref m0), (1, .int a0), (2, .int a1), (3, .int a2), (4, .int a3), (5, .int a4)]) hx hb dX6_crossing_32 hl (by decide) rfl (fun ls hl => ?_)
          refine lv_iload hx hb dX6_crossing_34 (lv_at hl 2 rfl) ?_
          refine lv_aload_n hx hb dX6_crossing_36 rfl (lv_at hl 3 rfl) ?_
          refine lv_iload_n hx hb dX6_crossing_37 rfl (lv_at hl 4 rfl) ?_
          refine lv_iload_n hx hb dX6_crossing_38 rfl (lv_at hl 6 rfl) ?_
          refine lv_iload hx hb dX6_crossing_39 (lv_at hl 0 rfl) ?_
          refine lv_bipush (v := 10) hx hb dX6_crossing_41 (by decide) ?_
          refine lv_idiv hx hb dX6_crossing_43 (by decide) ?_
          refine lv_topi (fun x_10 ex_10 => ?_)
          have tx_10 : x_10.toInt = r_7.toInt / 10 := dv_k ex_10 rfl (by decide) (by omega) (by omega)
          refine lv_iload hx hb dX6_crossing_44 (lv_at hl 0 rfl) ?_
          refine lv_bipush (v := 10) hx hb dX6_crossing_46 (by decide) ?_
          refine lv_irem hx hb dX6_crossing_48 (by decide) ?_
          refine lv_topi (fun x_11 ex_11 => ?_)
          have tx_11 : x_11.toInt = r_7.toInt % 10 := rm_k ex_11 rfl (by decide) (by omega) (by omega)
          have hPc := hP.sub (ws' := [(m0, .inr (7, [.int vfi, .ref mfi, .long vak, .int vhr, .ref mil, .ref mic, .ref mwi, .int vho, .int vga, .ref mmo, .int vns, .ref mki, .ref mce, .ref mgo, .ref mwa, .ref mha, .ref mch, .ref mfo, .ref mca, .ref mor, .ref mro, .ref mra, .ref mpr, .ref mho, .ref mis, .int vsg, .ref mss, .ref msc, .ref msh, .int vpr, .int vfa])), (mki, .inl (cI, 8, .inl Kki)), (mfo, .inl (cI, 8, .inl Kfo))]) [0, 3, 4] rfl
          have hKc := hK.sub (tys' := [(cI, .int)]) [0] rfl
          refine va_calli (va_runV (As := [.int a0, .int a2, .int x_10, .int x_11]) (rest := [.int sm]) ⟨hx, hb, hml, hown, hts⟩ (c_X6_speedOf l dC dI H.size m0 mfi mil mic mwi mmo mki mce mgo mwa mha mch mfo mca mor mro mra mpr mho mis mss msc msh vfi vhr vho vga vns vsg vpr vfa vak Kki Kfo cI a0 a2 x_10 x_11 ⟨(by omega), (by omega)⟩ ⟨(by omega), (by omega)⟩ ⟨(by omega), (by omega)⟩ ⟨(by omega), (by omega)⟩ R_Kki R_Kfo) (cwV 4 hts gX6_crossing_X6_speedOf rfl rfl rfl (by decide +kernel) ⟨Nat.le_of_ble_eq_true rfl, Nat.le_of_ble_eq_true rfl⟩) ⟨fun a U g mk q => by obtain ⟨q0, q1, qP, qK, qN⟩ := q; exact ⟨q0, q1, qP, va_K.moved (u := U) (U := U.calling g mk a) (Vm.Alike.refl U.vm) qK, NW.same (u := U) (U := U.calling g mk a) rfl qN⟩, va_recv hKc hPc (ci := 7) (q0 := 0) rfl rfl, fun U hU hW => ⟨rfl, by rw [hU], by rw [hU]; exact hPc, va_K.moved hW.alike hKc, NW.warm hW hN⟩⟩ rfl rfl hl.1 rfl (lv_room (Nat.le_of_ble_eq_true rfl)) dX6_crossing_49 ⟨(Nat.zero_le _), (Nat.zero_le _)⟩) hS (fun q _ h => ro_A hS hA q h) (ro_A hS hA) (fun r_12 u t H1 locs ht hvm k_13 hB hz1 hk1 hS => ?_)
          have hP := ro_P hk1 hP
          generalize H1 = H at hP hS ⊢
          try dsimp only at k_13
          obtain ⟨k_13, k_14⟩ := k_13
          refine lv_iadd hx hb dX6_crossing_52 ?_
          refine lv_topi (fun x_15 ex_15 => ?_)
          have tx_15 : x_15.toInt = sm.toInt + r_12.toInt := ad_k ex_15 rfl rfl (by omega) (by omega)
          refine lv_istore (lv' := [(6, .int x_15), (8, .int r_7), (7, .int nn), (0, .ref m0), (1, .int a0), (2, .int a1), (3, .int a2), (4, .int a3), (5, .int a4)]) hx hb dX6_crossing_53 hl (by decide) rfl (fun ls hl => ?_)
          obtain ⟨x_16, ex_16⟩ : ∃ y : Int32, y = nn + 1 := ⟨_, rfl⟩
          have tx_16 : x_16.toInt = nn.toInt + 1 := ad_k ex_16 rfl (by decide) (by omega) (by omega)
          refine lv_iinc (v := x_16) (lv' := [(7, .int x_16), (6, .int x_15), (8, .int r_7), (0, .ref m0), (1, .int a0), (2, .int a1), (3, .int a2), (4, .int a3), (5, .int a4)]) hx hb dX6_crossing_55 hl (k := 2) rfl (by rw [ex_16]; rfl) (by decide) rfl (fun ls hl => ?_)
          refine lv_goto (tgt := 6) hx hb dX6_crossing_58 (by decide) ?_
          exact ih6 x_15 x_16  H locs ls ⟨(by first | omega | (simp only [Int32.reduceToInt]; omega)), (by first | omega | (simp only [Int32.reduceToInt]; omega))⟩ ⟨(by first | omega | (simp only [Int32.reduceToInt]; omega)), (by first | omega | (simp only [Int32.reduceToInt]; omega))⟩ (by first | omega | (simp only [Int32.reduceToInt]; omega)) (by have g9 : r_12.toInt = spF (Kki a0.toNatClampNeg).toInt (Kfo a0.toNatClampNeg).toInt Kic (fun m9 j9 => Kwi (160 * m9 + j9)) (a3.toInt + ((nn.toInt.toNat : Nat) : Int)) a1.toInt a2.toInt := (by have g1 := k_13; rewrite [tx_10, tx_11, k_8, tx_6, show nn.toInt = ((nn.toInt.toNat : Nat) : Int) by omega] at g1; exact g1); rw [show x_16.toInt.toNat = nn.toInt.toNat + 1 by omega]; show x_15.toInt = csumF (fun h9 => spF (Kki a0.toNatClampNeg).toInt (Kfo a0.toNatClampNeg).toInt Kic (fun m9 j9 => Kwi (160 * m9 + j9)) h9 a1.toInt a2.toInt) a3.toInt nn.toInt.toNat + spF (Kki a0.toNatClampNeg).toInt (Kfo a0.toNatClampNeg).toInt Kic (fun m9 j9 => Kwi (160 * m9 + j9)) (a3.toInt + ((nn.toInt.toNat : Nat) : Int)) a1.toInt a2.toInt; rw [← hsm, ← g9]; omega) (fun i hi => by have z9 := k_2; rewrite [mNeed_F (by omega)] at z9; by_cases e9 : (i : Int) < nn.toInt; (exact hlt9 i e9); (rw [show i = nn.toInt.toNat by omega, ← hsm]; omega)) (by first | omega | (simp only [Int32.reduceToInt]; omega)) hP hS (lv_sub hl [0, 1, 3, 4, 5, 6, 7, 8] rfl)
  exact key6 2002 0 0  _ _ ls (by decide) (by decide) (by (try simp only [Int32.reduceToInt]); omega) rfl (fun i h => absurd h (by simp only [Int32.reduceToInt]; omega)) (by (try simp only [Int32.reduceToInt]); omega) hP hS hl
set_option maxRecDepth 20000 in
theorem iw_X6_least_X6 : ∀ w ∈ wsX60, w ∈ wsX6_least := fun w h => (List.mem_cons_of_mem _ (List.mem_append_right _ h))
set_option maxHeartbeats 4000000 in
set_option maxRecDepth 100000 in
/-- reference: least -/
theorem c_X6_least (l : Launch) (dC : Nat → ClassId) (dI : Nat → Nat → Nat) (sz : Nat) (m0 : Nat) (mfi : Nat) (mil : Nat) (mic : Nat) (mwi : Nat) (mmo : Nat) (mki : Nat) (mce : Nat) (mgo : Nat) (mwa : Nat) (mha : Nat) (mch : Nat) (mfo : Nat) (mca : Nat) (mor : Nat) (mro : Nat) (mra : Nat) (mpr : Nat) (mho : Nat) (mis : Nat) (mss : Nat) (msc : Nat) (msh : Nat) (vfi : Int32) (vhr : Int32) (vho : Int32) (vga : Int32) (vns : Int32) (vsg : Int32) (vpr : Int32) (vfa : Int32) (vak : Int64) (Kil : Nat → Int32) (Kic : Nat → Int32) (Kwi : Nat → Int32) (Kki : Nat → Int32) (Kfo : Nat → Int32) (Kho : Nat → Int32) (Kis : Nat → Int32) (cI : ClassId) (cZ : ClassId) (a0 : Int32) (a1 : Int32) (a2 : Int32) (a3 : Int32) (i_vns : 0 ≤ vns.toInt ∧ vns.toInt ≤ 8) (R_Kwi : Rg 1920 (-128) 127 Kwi) (R_Kki : Rg 8 0 3 Kki) (R_Kfo : Rg 8 0 9 Kfo) : Met l yX6_least wsX6_least ({ frames := 3, cells := 0, slots := 0, locals := 74 }) (va_Pc [.ref m0, .int a0, .int a1, .int a2, .int a3] (fun U => U.heap.size = sz ∧ va_P (dC, dI) vwCl [(m0, .inr (7, [.int vfi, .ref mfi, .long vak, .int vhr, .ref mil, .ref mic, .ref mwi, .int vho, .int vga, .ref mmo, .int vns, .ref mki, .ref mce, .ref mgo, .ref mwa, .ref mha, .ref mch, .ref mfo, .ref mca, .ref mor, .ref mro, .ref mra, .ref mpr, .ref mho, .ref mis, .int vsg, .ref mss, .ref msc, .ref msh, .int vpr, .int vfa])), (mil, .inl (cZ, 160, .inl Kil)), (mic, .inl (cZ, 12, .inl Kic)), (mwi, .inl (cI, 1920, .inl Kwi)), (mki, .inl (cI, 8, .inl Kki)), (mfo, .inl (cI, 8, .inl Kfo)), (mho, .inl (cI, 160, .inl Kho)), (mis, .inl (cZ, 160, .inl Kis))] U.heap ∧ va_K (dC, dI) vwCl [(cI, .int), (cZ, .boolean)] U ∧ NW U ∧ va_D (fun _ => True) [(m0, .inr (7, [.int vfi, .ref mfi, .long vak, .int vhr, .ref mil, .ref mic, .ref mwi, .int vho, .int vga, .ref mmo, .int vns, .ref mki, .ref mce, .ref mgo, .ref mwa, .ref mha, .ref mch, .ref mfo, .ref mca, .ref mor, .ref mro, .ref mra, .ref mpr, .ref mho, .ref mis, .int vsg, .ref mss, .ref msc, .ref msh, .int vpr, .int vfa])), (mil, .inl (cZ, 160, .inl Kil)), (mic, .inl (cZ, 12, .inl Kic)), (mwi, .inl (cI, 1920, .inl Kwi)), (mki, .inl (cI, 8, .inl Kki)), (mfo, .inl (cI, 8, .inl Kfo)), (mho, .inl (cI, 160, .inl Kho)), (mis, .inl (cZ, 160, .inl Kis))])) (va_Qi (fun (r : Int32) (u : (Nat → Int32) × (Nat → Int32)) => (r.toInt = if ((0 ≤ a0.toInt ∧ a0.toInt < vns.toInt) ∧ ((0 ≤ a1.toInt ∧ a1.toInt ≤ 159) ∧ (Kil a1.toNatClampNeg).toInt = 0) ∧ ((0 ≤ a2.toInt ∧ a2.toInt ≤ 159) ∧ (Kil a2.toNatClampNeg).toInt = 0) ∧ (0 ≤ a3.toInt ∧ a3.toInt ≤ 98000)) then lstF (runR (nextF Kil) (FFo (spF (Kki a0.toNatClampNeg).toInt (Kfo a0.toNatClampNeg).toInt Kic (fun m9 j9 => Kwi (160 * m9 + j9))) a3.toInt) a2.toInt 160 (h00 a1.toInt) (fun _ => 0)) a2.toInt else -1)) (fun u t => va_P (dC, dI) vwCl [(m0, .inr (7, [.int vfi, .ref mfi, .long vak, .int vhr, .ref mil, .ref mic, .ref mwi, .int vho, .int vga, .ref mmo, .int vns, .ref mki, .ref mce, .ref mgo, .ref mwa, .ref mha, .ref mch, .ref mfo, .ref mca, .ref mor, .ref mro, .ref mra, .ref mpr, .ref mho, .ref mis, .int vsg, .ref mss, .ref msc, .ref msh, .int vpr, .int vfa])), (mil, .inl (cZ, 160, .inl Kil)), (mic, .inl (cZ, 12, .inl Kic)), (mwi, .inl (cI, 1920, .inl Kwi)), (mki, .inl (cI, 8, .inl Kki)), (mfo, .inl (cI, 8, .inl Kfo)), (mho, .inl (cI, 160, .inl u.1)), (mis, .inl (cZ, 160, .inl u.2))] t.heap ∧ va_K (dC, dI) vwCl [(cI, .int), (cZ, .boolean)] t ∧ va_D (va_A [(m0, .inr (7, [.int vfi, .ref mfi, .long vak, .int vhr, .ref mil, .ref mic, .ref mwi, .int vho, .int vga, .ref mmo, .int vns, .ref mki, .ref mce, .ref mgo, .ref mwa, .ref mha, .ref mch, .ref mfo, .ref mca, .ref mor, .ref mro, .ref mra, .ref mpr, .ref mho, .ref mis, .int vsg, .ref mss, .ref msc, .ref msh, .int vpr, .int vfa])), (mil, .inl (cZ, 160, .inl Kil)), (mic, .inl (cZ, 12, .inl Kic)), (mwi, .inl (cI, 1920, .inl Kwi)), (mki, .inl (cI, 8, .inl Kki)), (mfo, .inl (cI, 8, .inl Kfo)), (mho, .inl (cI, 160, .inl Kho)), (mis, .inl (cZ, 160, .inl Kis))] sz) [(m0, .inr (7, [.int vfi, .ref mfi, .long vak, .int vhr, .ref mil, .ref mic, .ref mwi, .int vho, .int vga, .ref mmo, .int vns, .ref mki, .ref mce, .ref mgo, .ref mwa, .ref mha, .ref mch, .ref mfo, .ref mca, .ref mor, .ref mro, .ref mra, .ref mpr, .ref mho, .ref mis, .int vsg, .ref mss, .ref msc, .ref msh, .int vpr, .int vfa])), (mil, .inl (cZ, 160, .inl Kil)), (mic, .inl (cZ, 12, .inl Kic)), (mwi, .inl (cI, 1920, .inl Kwi)), (mki, .inl (cI, 8, .inl Kki)), (mfo, .inl (cI, 8, .inl Kfo)), (mho, .inl (cI, 160, .inl u.1)), (mis, .inl (cZ, 160, .inl u.2))]) (va_A [(m0, .inr (7, [.int vfi, .ref mfi, .long vak, .int vhr, .ref mil, .ref mic, .ref mwi, .int vho, .int vga, .ref mmo, .int vns, .ref mki, .ref mce, .ref mgo, .ref mwa, .ref mha, .ref mch, .ref mfo, .ref mca, .ref mor, .ref mro, .ref mra, .ref mpr, .ref mho, .ref mis, .int vsg, .ref mss, .ref msc, .ref msh, .int vpr, .int vfa])), (mil, .inl (cZ, 160, .inl Kil)), (mic, .inl (cZ, 12, .inl Kic)), (mwi, .inl (cI, 1920, .inl Kwi)), (mki, .inl (cI, 8, .inl Kki)), (mfo, .inl (cI, 8, .inl Kfo)), (mho, .inl (cI, 160, .inl Kho)), (mis, .inl (cZ, 160, .inl Kis))] sz)) 0 0 (va_A [(m0, .inr (7, [.int vfi, .ref mfi, .long vak, .int vhr, .ref mil, .ref mic, .ref mwi, .int vho, .int vga, .ref mmo, .int vns, .ref mki, .ref mce, .ref mgo, .ref mwa, .ref mha, .ref mch, .ref mfo, .ref mca, .ref mor, .ref mro, .ref mra, .ref mpr, .ref mho, .ref mis, .int vsg, .ref mss, .ref msc, .ref msh, .int vpr, .int vfa])), (mil, .inl (cZ, 160, .inl Kil)), (mic, .inl (cZ, 12, .inl Kic)), (mwi, .inl (cI, 1920, .inl Kwi)), (mki, .inl (cI, 8, .inl Kki)), (mfo, .inl (cI, 8, .inl Kfo)), (mho, .inl (cI, 160, .inl Kho)), (mis, .inl (cZ, 160, .inl Kis))] sz) := by
  refine Met.ofW (cc := cX6_least) (maxL := 9) (ret := (some .int)) (by decide) rfl ?_
  intro p e s m args below meth c s₁ B hml hv
  obtain ⟨rfl, hsz, hP, hK, hN, hD0⟩ := hv
  have hx := B.exec
  have hb := B.bytes
  have hr := B.returns
  have hts := atoms_spec (ws := wsX6_least) B.pre
  have hown : s.vm.findClass RX6 = some m.cls := findClass_of_methodNamed B.named
  have hlocks := B.notSynchronized
  subst hsz
  have hD := hD0.self (sz := s.heap.size)
  generalize hAe : va_A [(m0, .inr (7, [.int vfi, .ref mfi, .long vak, .int vhr, .ref mil, .ref mic, .ref mwi, .int vho, .int vga, .ref mmo, .int vns, .ref mki, .ref mce, .ref mgo, .ref mwa, .ref mha, .ref mch, .ref mfo, .ref mca, .ref mor, .ref mro, .ref mra, .ref mpr, .ref mho, .ref mis, .int vsg, .ref mss, .ref msc, .ref msh, .int vpr, .int vfa])), (mil, .inl (cZ, 160, .inl Kil)), (mic, .inl (cZ, 12, .inl Kic)), (mwi, .inl (cI, 1920, .inl Kwi)), (mki, .inl (cI, 8, .inl Kki)), (mfo, .inl (cI, 8, .inl Kfo)), (mho, .inl (cI, 160, .inl Kho)), (mis, .inl (cZ, 160, .inl Kis))] s.heap.size = A at hD ⊢
  have hA : ∀ q : Nat, s.heap.size ≤ q → A q := fun q h => by rw [← hAe]; exact Or.inr h
  have hS : va_S A s.heap s.heap [] := va_S.rf
  have hP : va_P (dC, dI) vwCl [(m0, .inr (7, [.int vfi, .ref mfi, .long vak, .int vhr, .ref mil, .ref mic, .ref mwi, .int vho, .int vga, .ref mmo, .int vns, .ref mki, .ref mce, .ref mgo, .ref mwa, .ref mha, .ref mch, .ref mfo, .ref mca, .ref mor, .ref mro, .ref mra, .ref mpr, .ref mho, .ref mis, .int vsg, .ref mss, .ref msc, .ref msh, .int vpr, .int vfa])), (mil, .inl (cZ, 160, .inl Kil)), (mic, .inl (cZ, 12, .inl Kic)), (mwi, .inl (cI, 1920, .inl Kwi)), (mki, .inl (cI, 8, .inl Kki)), (mfo, .inl (cI, 8, .inl Kfo)), (mho, .inl (cI, 160, .inl Kho)), (mis, .inl (cZ, 160, .inl Kis))] s.heap := hP
  have hl := lv_entry ([.ref m0, .int a0, .int a1, .int a2, .int a3]) (n := 9) (Nat.le_of_ble_eq_true rfl)
  rw [lg_entry_eq]
  generalize (lg_sl ([.ref m0, .int a0, .int a1, .int a2, .int a3]) ++ List.replicate (9 - (lg_sl ([.ref m0, .int a0, .int a1, .int a2, .int a3])).length) Slot.unset).toArray = ls at hl ⊢
  have hl : lv_has ls 9 [(0, .ref m0), (1, .int a0), (2, .int a1), (3, .int a2), (4, .int a3)] := hl
  refine lv_aload_n hx hb dX6_least_0 rfl (lv_at hl 0 rfl) ?_
  refine lv_iload_n hx hb dX6_least_1 rfl (lv_at hl 1 rfl) ?_
  have hPc := hP.sub (ws' := [(m0, .inr (7, [.int vfi, .ref mfi, .long vak, .int vhr, .ref mil, .ref mic, .ref mwi, .int vho, .int vga, .ref mmo, .int vns, .ref mki, .ref mce, .ref mgo, .ref mwa, .ref mha, .ref mch, .ref mfo, .ref mca, .ref mor, .ref mro, .ref mra, .ref mpr, .ref mho, .ref mis, .int vsg, .ref mss, .ref msc, .ref msh, .int vpr, .int vfa]))]) [0] rfl
  have hKc := hK.sub (tys' := []) [] rfl
  refine va_calli (va_runV (As := [.int a0]) (rest := []) ⟨hx, hb, hml, hown, hts⟩ (c_X6_isShip l dC dI s.heap.size m0 mfi mil mic mwi mmo mki mce mgo mwa mha mch mfo mca mor mro mra mpr mho mis mss msc msh vfi vhr vho vga vns vsg vpr vfa vak a0 ⟨(by omega), (by omega)⟩) (cwV 1 hts gX6_least_X6_isShip rfl rfl rfl (by decide +kernel) ⟨Nat.le_of_ble_eq_true rfl, Nat.le_of_ble_eq_true rfl⟩) ⟨fun a U g mk q => by obtain ⟨q0, q1, qP, qK, qN⟩ := q; exact ⟨q0, q1, qP, va_K.moved (u := U) (U := U.calling g mk a) (Vm.Alike.refl U.vm) qK, NW.same (u := U) (U := U.calling g mk a) rfl qN⟩, va_recv hKc hPc (ci := 7) (q0 := 0) rfl rfl, fun U hU hW => ⟨rfl, by rw [hU], by rw [hU]; exact hPc, va_K.moved hW.alike hKc, NW.warm hW hN⟩⟩ rfl rfl hl.1 rfl (lv_room (Nat.le_of_ble_eq_true rfl)) dX6_least_2 ⟨(Nat.zero_le _), (Nat.zero_le _)⟩) hS (fun q _ h => ro_A hS hA q h) (ro_A hS hA) (fun r_1 u t H1 locs ht hvm k_2 hB hz1 hk1 hS => ?_)
  have hP := ro_P hk1 hP
  generalize H1 = H at hP hS ⊢
  try dsimp only at k_2
  obtain ⟨k_2, k_3⟩ := k_2
  refine lv_if_eq (tgt := 51) hx hb dX6_least_5 (by decide) (fun c_4 => ?_) (fun c_4 => ?_)
  · skip
    have b_5 := b01z k_2 c_4
    (try simp only [Int32.lt_iff_toInt_lt, Int32.le_iff_toInt_le, ← Int32.toInt_inj, Int32.reduceToInt, zl1, zl2, zl3, zl4, zl9] at b_5)
    (try simp only [Int32.reduceToInt] at b_5)
    refine lv_iconst (v := (-1)) hx hb dX6_least_51 (by decide) ?_
    have hP9 := hP.sub (ws' := [(m0, .inr (7, [.int vfi, .ref mfi, .long vak, .int vhr, .ref mil, .ref mic, .ref mwi, .int vho, .int vga, .ref mmo, .int vns, .ref mki, .ref mce, .ref mgo, .ref mwa, .ref mha, .ref mch, .ref mfo, .ref mca, .ref mor, .ref mro, .ref mra, .ref mpr, .ref mho, .ref mis, .int vsg, .ref mss, .ref msc, .ref msh, .int vpr, .int vfa])), (mil, .inl (cZ, 160, .inl Kil)), (mic, .inl (cZ, 12, .inl Kic)), (mwi, .inl (cI, 1920, .inl Kwi)), (mki, .inl (cI, 8, .inl Kki)), (mfo, .inl (cI, 8, .inl Kfo)), (mho, .inl (cI, 160, .inl Kho)), (mis, .inl (cZ, 160, .inl Kis))]) [0, 1, 2, 3, 4, 5, 6, 7] rfl
    have hD9 := hD.sub (ws' := [(m0, .inr (7, [.int vfi, .ref mfi, .long vak, .int vhr, .ref mil, .ref mic, .ref mwi, .int vho, .int vga, .ref mmo, .int vns, .ref mki, .ref mce, .ref mgo, .ref mwa, .ref mha, .ref mch, .ref mfo, .ref mca, .ref mor, .ref mro, .ref mra, .ref mpr, .ref mho, .ref mis, .int vsg, .ref mss, .ref msc, .ref msh, .int vpr, .int vfa])), (mil, .inl (cZ, 160, .inl Kil)), (mic, .inl (cZ, 12, .inl Kic)), (mwi, .inl (cI, 1920, .inl Kwi)), (mki, .inl (cI, 8, .inl Kki)), (mfo, .inl (cI, 8, .inl Kfo)), (mho, .inl (cI, 160, .inl Kho)), (mis, .inl (cZ, 160, .inl Kis))]) [0, 1, 2, 3, 4, 5, 6, 7] (by decide) rfl
    have hK9 := hK.sub (tys' := [(cI, .int), (cZ, .boolean)]) [0, 1] rfl
    have hv9 : (-1 : Int32).toInt = (-1) := by decide
    exact W.iret (v := (-1)) hx hb hr (fun t ht hW => ⟨⟨(-1), (Kho, Kis), rfl, (by (try dsimp only); rw [if_neg (by omega)]; decide), ⟨by rw [ht]; exact hP9, va_K.moved hW.alike hK9, hD9⟩⟩, hS.F ht⟩) hS.2.2 dX6_least_52
  · skip
    have b_6 := b01n k_2 c_4
    (try simp only [Int32.lt_iff_toInt_lt, Int32.le_iff_toInt_le, ← Int32.toInt_inj, Int32.reduceToInt, zl1, zl2, zl3, zl4, zl9] at b_6)
    (try simp only [Int32.reduceToInt] at b_6)
    refine lv_iload_n hx hb dX6_least_8 rfl (lv_at hl 2 rfl) ?_
    refine va_calli (va_runS (As := [.int a1]) (rest := []) ⟨hx, hb, hml, hown, hts⟩ (c_X6_isCell l H.size a1 ) (va_cwS 1 hts gX6_least_X6_isCell rfl rfl rfl (by decide +kernel) ⟨Nat.le_of_ble_eq_true rfl, Nat.le_of_ble_eq_true rfl⟩) ⟨fun a U g mk q => by obtain ⟨q0, q1⟩ := q; exact ⟨q0, q1⟩, fun U hU hW => ⟨rfl, congrArg Array.size hU⟩⟩ rfl rfl hl.1 rfl (lv_room (Nat.le_of_ble_eq_true rfl)) dX6_least_9 ⟨(Nat.zero_le _), (Nat.zero_le _)⟩) hS (fun q _ h => ro_A hS hA q h) (ro_A hS hA) (fun r_7 u t H1 locs ht hvm k_8 hB hz1 hk1 hS => ?_)
    have hP := ro_P hk1 hP
    generalize H1 = H at hP hS ⊢
    try dsimp only at k_8
    obtain ⟨k_8, k_9⟩ := k_8
    refine lv_if_eq (tgt := 51) hx hb dX6_least_12 (by decide) (fun c_10 => ?_) (fun c_10 => ?_)
    · skip
      have b_11 := b01z k_8 c_10
      (try simp only [Int32.lt_iff_toInt_lt, Int32.le_iff_toInt_le, ← Int32.toInt_inj, Int32.reduceToInt, zl1, zl2, zl3, zl4, zl9] at b_11)
      (try simp only [Int32.reduceToInt] at b_11)
      refine lv_iconst (v := (-1)) hx hb dX6_least_51 (by decide) ?_
      have hP9 := hP.sub (ws' := [(m0, .inr (7, [.int vfi, .ref mfi, .long vak, .int vhr, .ref mil, .ref mic, .ref mwi, .int vho, .int vga, .ref mmo, .int vns, .ref mki, .ref mce, .ref mgo, .ref mwa, .ref mha, .ref mch, .ref mfo, .ref mca, .ref mor, .ref mro, .ref mra, .ref mpr, .ref mho, .ref mis, .int vsg, .ref mss, .ref msc, .ref msh, .int vpr, .int vfa])), (mil, .inl (cZ, 160, .inl Kil)), (mic, .inl (cZ, 12, .inl Kic)), (mwi, .inl (cI, 1920, .inl Kwi)), (mki, .inl (cI, 8, .inl Kki)), (mfo, .inl (cI, 8, .inl Kfo)), (mho, .inl (cI, 160, .inl Kho)), (mis, .inl (cZ, 160, .inl Kis))]) [0, 1, 2, 3, 4, 5, 6, 7] rfl
      have hD9 := hD.sub (ws' := [(m0, .inr (7, [.int vfi, .ref mfi, .long vak, .int vhr, .ref mil, .ref mic, .ref mwi, .int vho, .int vga, .ref mmo, .int vns, .ref mki, .ref mce, .ref mgo, .ref mwa, .ref mha, .ref mch, .ref mfo, .ref mca, .ref mor, .ref mro, .ref mra, .ref mpr, .ref mho, .ref mis, .int vsg, .ref mss, .ref msc, .ref msh, .int vpr, .int vfa])), (mil, .inl (cZ, 160, .inl Kil)), (mic, .inl (cZ, 12, .inl Kic)), (mwi, .inl (cI, 1920, .inl Kwi)), (mki, .inl (cI, 8, .inl Kki)), (mfo, .inl (cI, 8, .inl Kfo)), (mho, .inl (cI, 160, .inl Kho)), (mis, .inl (cZ, 160, .inl Kis))]) [0, 1, 2, 3, 4, 5, 6, 7] (by decide) rfl
      have hK9 := hK.sub (tys' := [(cI, .int), (cZ, .boolean)]) [0, 1] rfl
      have hv9 : (-1 : Int32).toInt = (-1) := by decide
      exact W.iret (v := (-1)) hx hb hr (fun t ht hW => ⟨⟨(-1), (Kho, Kis), rfl, (by (try dsimp only); rw [if_neg (by omega)]; decide), ⟨by rw [ht]; exact hP9, va_K.moved hW.alike hK9, hD9⟩⟩, hS.F ht⟩) hS.2.2 dX6_least_52
    · skip
      have b_12 := b01n k_8 c_10
      (try simp only [Int32.lt_iff_toInt_lt, Int32.le_iff_toInt_le, ← Int32.toInt_inj, Int32.reduceToInt, zl1, zl2, zl3, zl4, zl9] at b_12)
      (try simp only [Int32.reduceToInt] at b_12)
      refine lv_iload_n hx hb dX6_least_15 rfl (lv_at hl 3 rfl) ?_
      refine va_calli (va_runS (As := [.int a2]) (rest := []) ⟨hx, hb, hml, hown, hts⟩ (c_X6_isCell l H.size a2 ) (va_cwS 1 hts gX6_least_X6_isCell rfl rfl rfl (by decide +kernel) ⟨Nat.le_of_ble_eq_true rfl, Nat.le_of_ble_eq_true rfl⟩) ⟨fun a U g mk q => by obtain ⟨q0, q1⟩ := q; exact ⟨q0, q1⟩, fun U hU hW => ⟨rfl, congrArg Array.size hU⟩⟩ rfl rfl hl.1 rfl (lv_room (Nat.le_of_ble_eq_true rfl)) dX6_least_16 ⟨(Nat.zero_le _), (Nat.zero_le _)⟩) hS (fun q _ h => ro_A hS hA q h) (ro_A hS hA) (fun r_13 u t H1 locs ht hvm k_14 hB hz1 hk1 hS => ?_)
      have hP := ro_P hk1 hP
      generalize H1 = H at hP hS ⊢
      try dsimp only at k_14
      obtain ⟨k_14, k_15⟩ := k_14
      refine lv_if_eq (tgt := 51) hx hb dX6_least_19 (by decide) (fun c_16 => ?_) (fun c_16 => ?_)
      · skip
        have b_17 := b01z k_14 c_16
        (try simp only [Int32.lt_iff_toInt_lt, Int32.le_iff_toInt_le, ← Int32.toInt_inj, Int32.reduceToInt, zl1, zl2, zl3, zl4, zl9] at b_17)
        (try simp only [Int32.reduceToInt] at b_17)
        refine lv_iconst (v := (-1)) hx hb dX6_least_51 (by decide) ?_
        have hP9 := hP.sub (ws' := [(m0, .inr (7, [.int vfi, .ref mfi, .long vak, .int vhr, .ref mil, .ref mic, .ref mwi, .int vho, .int vga, .ref mmo, .int vns, .ref mki, .ref mce, .ref mgo, .ref mwa, .ref mha, .ref mch, .ref mfo, .ref mca, .ref mor, .ref mro, .ref mra, .ref mpr, .ref mho, .ref mis, .int vsg, .ref mss, .ref msc, .ref msh, .int vpr, .int vfa])), (mil, .inl (cZ, 160, .inl Kil)), (mic, .inl (cZ, 12, .inl Kic)), (mwi, .inl (cI, 1920, .inl Kwi)), (mki, .inl (cI, 8, .inl Kki)), (mfo, .inl (cI, 8, .inl Kfo)), (mho, .inl (cI, 160, .inl Kho)), (mis, .inl (cZ, 160, .inl Kis))]) [0, 1, 2, 3, 4, 5, 6, 7] rfl
        have hD9 := hD.sub (ws' := [(m0, .inr (7, [.int vfi, .ref mfi, .long vak, .int vhr, .ref mil, .ref mic, .ref mwi, .int vho, .int vga, .ref mmo, .int vns, .ref mki, .ref mce, .ref mgo, .ref mwa, .ref mha, .ref mch, .ref mfo, .ref mca, .ref mor, .ref mro, .ref mra, .ref mpr, .ref mho, .ref mis, .int vsg, .ref mss, .ref msc, .ref msh, .int vpr, .int vfa])), (mil, .inl (cZ, 160, .inl Kil)), (mic, .inl (cZ, 12, .inl Kic)), (mwi, .inl (cI, 1920, .inl Kwi)), (mki, .inl (cI, 8, .inl Kki)), (mfo, .inl (cI, 8, .inl Kfo)), (mho, .inl (cI, 160, .inl Kho)), (mis, .inl (cZ, 160, .inl Kis))]) [0, 1, 2, 3, 4, 5, 6, 7] (by decide) rfl
        have hK9 := hK.sub (tys' := [(cI, .int), (cZ, .boolean)]) [0, 1] rfl
        have hv9 : (-1 : Int32).toInt = (-1) := by decide
        exact W.iret (v := (-1)) hx hb hr (fun t ht hW => ⟨⟨(-1), (Kho, Kis), rfl, (by (try dsimp only); rw [if_neg (by omega)]; decide), ⟨by rw [ht]; exact hP9, va_K.moved hW.alike hK9, hD9⟩⟩, hS.F ht⟩) hS.2.2 dX6_least_52
      · skip
        have b_18 := b01n k_14 c_16
        (try simp only [Int32.lt_iff_toInt_lt, Int32.le_iff_toInt_le, ← Int32.toInt_inj, Int32.reduceToInt, zl1, zl2, zl3, zl4, zl9] at b_18)
        (try simp only [Int32.reduceToInt] at b_18)
        refine lv_aload_n hx hb dX6_least_22 rfl (lv_at hl 0 rfl) ?_
        refine va_get (D := (dC, dI)) (ci := 7) (v := .ref mil) (C := RX6) (T := TX6) (N := 31) hx hb hts iw_X6_least_X6 hown hK hP 0 rfl rfl 4 (by decide) (hts (.fieldLink RX6 13 "TeaRaceModel" "isLand" "[Z") (by decide +kernel)) (fun _ h9 => h9) rfl dX6_least_23 ?_
        refine lv_iload_n hx hb dX6_least_26 rfl (lv_at hl 2 rfl) ?_
        refine va_zald hx hb hK hP 1 1 rfl rfl (in_k rfl (by omega) (by omega)) dX6_least_27 ?_
        refine lv_topi (fun x_19 ex_19 => ?_)
        have rx_19 := congrArg Int32.toInt ex_19
        refine lv_if_ne (tgt := 51) hx hb dX6_least_28 (by decide) (fun c_20 => ?_) (fun c_20 => ?_)
        · skip
          have qc_20 : x_19.toInt ≠ 0 := ne_k rfl (by decide) c_20
          refine lv_iconst (v := (-1)) hx hb dX6_least_51 (by decide) ?_
          have hP9 := hP.sub (ws' := [(m0, .inr (7, [.int vfi, .ref mfi, .long vak, .int vhr, .ref mil, .ref mic, .ref mwi, .int vho, .int vga, .ref mmo, .int vns, .ref mki, .ref mce, .ref mgo, .ref mwa, .ref mha, .ref mch, .ref mfo, .ref mca, .ref mor, .ref mro, .ref mra, .ref mpr, .ref mho, .ref mis, .int vsg, .ref mss, .ref msc, .ref msh, .int vpr, .int vfa])), (mil, .inl (cZ, 160, .inl Kil)), (mic, .inl (cZ, 12, .inl Kic)), (mwi, .inl (cI, 1920, .inl Kwi)), (mki, .inl (cI, 8, .inl Kki)), (mfo, .inl (cI, 8, .inl Kfo)), (mho, .inl (cI, 160, .inl Kho)), (mis, .inl (cZ, 160, .inl Kis))]) [0, 1, 2, 3, 4, 5, 6, 7] rfl
          have hD9 := hD.sub (ws' := [(m0, .inr (7, [.int vfi, .ref mfi, .long vak, .int vhr, .ref mil, .ref mic, .ref mwi, .int vho, .int vga, .ref mmo, .int vns, .ref mki, .ref mce, .ref mgo, .ref mwa, .ref mha, .ref mch, .ref mfo, .ref mca, .ref mor, .ref mro, .ref mra, .ref mpr, .ref mho, .ref mis, .int vsg, .ref mss, .ref msc, .ref msh, .int vpr, .int vfa])), (mil, .inl (cZ, 160, .inl Kil)), (mic, .inl (cZ, 12, .inl Kic)), (mwi, .inl (cI, 1920, .inl Kwi)), (mki, .inl (cI, 8, .inl Kki)), (mfo, .inl (cI, 8, .inl Kfo)), (mho, .inl (cI, 160, .inl Kho)), (mis, .inl (cZ, 160, .inl Kis))]) [0, 1, 2, 3, 4, 5, 6, 7] (by decide) rfl
          have hK9 := hK.sub (tys' := [(cI, .int), (cZ, .boolean)]) [0, 1] rfl
          have hv9 : (-1 : Int32).toInt = (-1) := by decide
          exact W.iret (v := (-1)) hx hb hr (fun t ht hW => ⟨⟨(-1), (Kho, Kis), rfl, (by (try dsimp only); rw [if_neg (by omega)]; decide), ⟨by rw [ht]; exact hP9, va_K.moved hW.alike hK9, hD9⟩⟩, hS.F ht⟩) hS.2.2 dX6_least_52
        · skip
          have qc_20 : x_19.toInt = 0 := eq_k rfl (by decide) c_20
          refine lv_aload_n hx hb dX6_least_31 rfl (lv_at hl 0 rfl) ?_
          refine va_get (D := (dC, dI)) (ci := 7) (v := .ref mil) (C := RX6) (T := TX6) (N := 31) hx hb hts iw_X6_least_X6 hown hK hP 0 rfl rfl 4 (by decide) (hts (.fieldLink RX6 13 "TeaRaceModel" "isLand" "[Z") (by decide +kernel)) (fun _ h9 => h9) rfl dX6_least_32 ?_
          refine lv_iload_n hx hb dX6_least_35 rfl (lv_at hl 3 rfl) ?_
          refine va_zald hx hb hK hP 1 1 rfl rfl (in_k rfl (by omega) (by omega)) dX6_least_36 ?_
          refine lv_topi (fun x_21 ex_21 => ?_)
          have rx_21 := congrArg Int32.toInt ex_21
          refine lv_if_ne (tgt := 51) hx hb dX6_least_37 (by decide) (fun c_22 => ?_) (fun c_22 => ?_)
          · skip
            have qc_22 : x_21.toInt ≠ 0 := ne_k rfl (by decide) c_22
            refine lv_iconst (v := (-1)) hx hb dX6_least_51 (by decide) ?_
            have hP9 := hP.sub (ws' := [(m0, .inr (7, [.int vfi, .ref mfi, .long vak, .int vhr, .ref mil, .ref mic, .ref mwi, .int vho, .int vga, .ref mmo, .int vns, .ref mki, .ref mce, .ref mgo, .ref mwa, .ref mha, .ref mch, .ref mfo, .ref mca, .ref mor, .ref mro, .ref mra, .ref mpr, .ref mho, .ref mis, .int vsg, .ref mss, .ref msc, .ref msh, .int vpr, .int vfa])), (mil, .inl (cZ, 160, .inl Kil)), (mic, .inl (cZ, 12, .inl Kic)), (mwi, .inl (cI, 1920, .inl Kwi)), (mki, .inl (cI, 8, .inl Kki)), (mfo, .inl (cI, 8, .inl Kfo)), (mho, .inl (cI, 160, .inl Kho)), (mis, .inl (cZ, 160, .inl Kis))]) [0, 1, 2, 3, 4, 5, 6, 7] rfl
            have hD9 := hD.sub (ws' := [(m0, .inr (7, [.int vfi, .ref mfi, .long vak, .int vhr, .ref mil, .ref mic, .ref mwi, .int vho, .int vga, .ref mmo, .int vns, .ref mki, .ref mce, .ref mgo, .ref mwa, .ref mha, .ref mch, .ref mfo, .ref mca, .ref mor, .ref mro, .ref mra, .ref mpr, .ref mho, .ref mis, .int vsg, .ref mss, .ref msc, .ref msh, .int vpr, .int vfa])), (mil, .inl (cZ, 160, .inl Kil)), (mic, .inl (cZ, 12, .inl Kic)), (mwi, .inl (cI, 1920, .inl Kwi)), (mki, .inl (cI, 8, .inl Kki)), (mfo, .inl (cI, 8, .inl Kfo)), (mho, .inl (cI, 160, .inl Kho)), (mis, .inl (cZ, 160, .inl Kis))]) [0, 1, 2, 3, 4, 5, 6, 7] (by decide) rfl
            have hK9 := hK.sub (tys' := [(cI, .int), (cZ, .boolean)]) [0, 1] rfl
            have hv9 : (-1 : Int32).toInt = (-1) := by decide
            exact W.iret (v := (-1)) hx hb hr (fun t ht hW => ⟨⟨(-1), (Kho, Kis), rfl, (by (try dsimp only); rw [if_neg (by omega)]; decide), ⟨by rw [ht]; exact hP9, va_K.moved hW.alike hK9, hD9⟩⟩, hS.F ht⟩) hS.2.2 dX6_least_52
          · skip
            have qc_22 : x_21.toInt = 0 := eq_k rfl (by decide) c_22
            refine lv_iload hx hb dX6_least_40 (lv_at hl 4 rfl) ?_
            refine lv_iconst (v := 0) hx hb dX6_least_42 (by decide) ?_
            refine lv_ldc (v := (98000)) hx hb hown (hts (.constant RX6 163 (98000)) (by decide +kernel)) dX6_least_43 ?_
            refine va_calli (va_runS (As := [.int a3, .int 0, .int (98000)]) (rest := []) ⟨hx, hb, hml, hown, hts⟩ (c_X6_in l H.size a3 0 (98000) ) (va_cwS 3 hts gX6_least_X6_in rfl rfl rfl (by decide +kernel) ⟨Nat.le_of_ble_eq_true rfl, Nat.le_of_ble_eq_true rfl⟩) ⟨fun a U g mk q => by obtain ⟨q0, q1⟩ := q; exact ⟨q0, q1⟩, fun U hU hW => ⟨rfl, congrArg Array.size hU⟩⟩ rfl rfl hl.1 rfl (lv_room (Nat.le_of_ble_eq_true rfl)) dX6_least_45 ⟨(Nat.zero_le _), (Nat.zero_le _)⟩) hS (fun q _ h => ro_A hS hA q h) (ro_A hS hA) (fun r_23 u t H1 locs ht hvm k_24 hB hz1 hk1 hS => ?_)
            have hP := ro_P hk1 hP
            generalize H1 = H at hP hS ⊢
            try dsimp only at k_24
            obtain ⟨k_24, k_25⟩ := k_24
            refine lv_if_ne (tgt := 53) hx hb dX6_least_48 (by decide) (fun c_26 => ?_) (fun c_26 => ?_)
            · skip
              have b_27 := b01n k_24 c_26
              (try simp only [Int32.lt_iff_toInt_lt, Int32.le_iff_toInt_le, ← Int32.toInt_inj, Int32.reduceToInt, zl1, zl2, zl3, zl4, zl9] at b_27)
              (try simp only [Int32.reduceToInt] at b_27)
              refine lv_iconst (v := 0) hx hb dX6_least_53 (by decide) ?_
              refine lv_istore (lv' := [(5, .int 0), (0, .ref m0), (1, .int a0), (2, .int a1), (3, .int a2), (4, .int a3)]) hx hb dX6_least_54 hl (by decide) rfl (fun ls hl => ?_)
              have key56 : ∀ (n56 : Nat) (ic : Int32) (wh wz : Nat → Int32) (H : Heap) (locs : List Loc) (ls : Array Slot), (0 ≤ ic.toInt ∧ ic.toInt ≤ 160) → (∀ j : Nat, (j : Int) < ic.toInt → wz j = 0) → (∀ j : Nat, (j : Int) < ic.toInt → (wh j).toInt = 2001) → (∀ j : Nat, (j : Int) < ic.toInt → 0 ≤ (wh j).toInt ∧ (wh j).toInt ≤ 2001) → 160 - ic.toInt < (n56 : Int) → va_P (dC, dI) vwCl [(m0, .inr (7, [.int vfi, .ref mfi, .long vak, .int vhr, .ref mil, .ref mic, .ref mwi, .int vho, .int vga, .ref mmo, .int vns, .ref mki, .ref mce, .ref mgo, .ref mwa, .ref mha, .ref mch, .ref mfo, .ref mca, .ref mor, .ref mro, .ref mra, .ref mpr, .ref mho, .ref mis, .int vsg, .ref mss, .ref msc, .ref msh, .int vpr, .int vfa])), (mil, .inl (cZ, 160, .inl Kil)), (mic, .inl (cZ, 12, .inl Kic)), (mwi, .inl (cI, 1920, .inl Kwi)), (mki, .inl (cI, 8, .inl Kki)), (mfo, .inl (cI, 8, .inl Kfo)), (mho, .inl (cI, 160, .inl wh)), (mis, .inl (cZ, 160, .inl wz))] H → va_D A [(m0, .inr (7, [.int vfi, .ref mfi, .long vak, .int vhr, .ref mil, .ref mic, .ref mwi, .int vho, .int vga, .ref mmo, .int vns, .ref mki, .ref mce, .ref mgo, .ref mwa, .ref mha, .ref mch, .ref mfo, .ref mca, .ref mor, .ref mro, .ref mra, .ref mpr, .ref mho, .ref mis, .int vsg, .ref mss, .ref msc, .ref msh, .int vpr, .int vfa])), (mil, .inl (cZ, 160, .inl Kil)), (mic, .inl (cZ, 12, .inl Kic)), (mwi, .inl (cI, 1920, .inl Kwi)), (mki, .inl (cI, 8, .inl Kki)), (mfo, .inl (cI, 8, .inl Kfo)), (mho, .inl (cI, 160, .inl wh)), (mis, .inl (cZ, 160, .inl wz))] → va_S A s.heap H locs → lv_has ls 9 [(5, .int ic), (0, .ref m0), (1, .int a0), (2, .int a1), (3, .int a2), (4, .int a3)] → W p l e ({ frames := 3, cells := 0, slots := 0, locals := 74 } : Room) s m ([.ref m0, .int a0, .int a1, .int a2, .int a3] : List Value).toArray below meth c H locs 0 0 (MQ below (va_Qi (fun (r : Int32) (u : (Nat → Int32) × (Nat → Int32)) => (r.toInt = if ((0 ≤ a0.toInt ∧ a0.toInt < vns.toInt) ∧ ((0 ≤ a1.toInt ∧ a1.toInt ≤ 159) ∧ (Kil a1.toNatClampNeg).toInt = 0) ∧ ((0 ≤ a2.toInt ∧ a2.toInt ≤ 159) ∧ (Kil a2.toNatClampNeg).toInt = 0) ∧ (0 ≤ a3.toInt ∧ a3.toInt ≤ 98000)) then lstF (runR (nextF Kil) (FFo (spF (Kki a0.toNatClampNeg).toInt (Kfo a0.toNatClampNeg).toInt Kic (fun m9 j9 => Kwi (160 * m9 + j9))) a3.toInt) a2.toInt 160 (h00 a1.toInt) (fun _ => 0)) a2.toInt else -1)) (fun u t => va_P (dC, dI) vwCl [(m0, .inr (7, [.int vfi, .ref mfi, .long vak, .int vhr, .ref mil, .ref mic, .ref mwi, .int vho, .int vga, .ref mmo, .int vns, .ref mki, .ref mce, .ref mgo, .ref mwa, .ref mha, .ref mch, .ref mfo, .ref mca, .ref mor, .ref mro, .ref mra, .ref mpr, .ref mho, .ref mis, .int vsg, .ref mss, .ref msc, .ref msh, .int vpr, .int vfa])), (mil, .inl (cZ, 160, .inl Kil)), (mic, .inl (cZ, 12, .inl Kic)), (mwi, .inl (cI, 1920, .inl Kwi)), (mki, .inl (cI, 8, .inl Kki)), (mfo, .inl (cI, 8, .inl Kfo)), (mho, .inl (cI, 160, .inl u.1)), (mis, .inl (cZ, 160, .inl u.2))] t.heap ∧ va_K (dC, dI) vwCl [(cI, .int), (cZ, .boolean)] t ∧ va_D A [(m0, .inr (7, [.int vfi, .ref mfi, .long vak, .int vhr, .ref mil, .ref mic, .ref mwi, .int vho, .int vga, .ref mmo, .int vns, .ref mki, .ref mce, .ref mgo, .ref mwa, .ref mha, .ref mch, .ref mfo, .ref mca, .ref mor, .ref mro, .ref mra, .ref mpr, .ref mho, .ref mis, .int vsg, .ref mss, .ref msc, .ref msh, .int vpr, .int vfa])), (mil, .inl (cZ, 160, .inl Kil)), (mic, .inl (cZ, 12, .inl Kic)), (mwi, .inl (cI, 1920, .inl Kwi)), (mki, .inl (cI, 8, .inl Kki)), (mfo, .inl (cI, 8, .inl Kfo)), (mho, .inl (cI, 160, .inl u.1)), (mis, .inl (cZ, 160, .inl u.2))]) A) ([.ref m0, .int a0, .int a1, .int a2, .int a3] : List Value).toArray s 0 0 A) (F0 m 56 ls []) := by
                intro n56
                induction n56 with
                | zero =>
                  intro ic wh wz H locs ls i_ic hz hz1 hrh hm56
                  exact absurd hm56 (by omega)
                | succ n56 ih56 =>
                  intro ic wh wz H locs ls i_ic hz hz1 hrh hm56 hP hD hS hl
                  refine lv_iload hx hb dX6_least_56 (lv_at hl 0 rfl) ?_
                  refine lv_sipush (v := 160) hx hb dX6_least_58 (by decide) ?_
                  refine lv_icmp_ge (tgt := 88) hx hb dX6_least_61 (by decide) (fun c_28 => ?_) (fun c_28 => ?_)
                  · skip
                    have qc_28 : 160 ≤ ic.toInt := le_k (by decide) rfl c_28
                    refine lv_aload_n hx hb dX6_least_88 rfl (lv_at hl 1 rfl) ?_
                    refine va_get (D := (dC, dI)) (ci := 7) (v := .ref mho) (C := RX6) (T := TX6) (N := 31) hx hb hts iw_X6_least_X6 hown hK hP 0 rfl rfl 23 (by decide) (hts (.fieldLink RX6 62 "TeaRaceModel" "hours" "[I") (by decide +kernel)) (fun _ h9 => h9) rfl dX6_least_89 ?_
                    refine lv_iload_n hx hb dX6_least_92 rfl (lv_at hl 3 rfl) ?_
                    refine lv_iconst (v := 0) hx hb dX6_least_93 (by decide) ?_
                    refine va_iast hx hb hK hP hD hS 6 0 rfl rfl (in_k rfl (by omega) (by omega)) dX6_least_94 (fun H locs hP hD hS => ?_)
                    have hP : va_P (dC, dI) vwCl [(m0, .inr (7, [.int vfi, .ref mfi, .long vak, .int vhr, .ref mil, .ref mic, .ref mwi, .int vho, .int vga, .ref mmo, .int vns, .ref mki, .ref mce, .ref mgo, .ref mwa, .ref mha, .ref mch, .ref mfo, .ref mca, .ref mor, .ref mro, .ref mra, .ref mpr, .ref mho, .ref mis, .int vsg, .ref mss, .ref msc, .ref msh, .int vpr, .int vfa])), (mil, .inl (cZ, 160, .inl Kil)), (mic, .inl (cZ, 12, .inl Kic)), (mwi, .inl (cI, 1920, .inl Kwi)), (mki, .inl (cI, 8, .inl Kki)), (mfo, .inl (cI, 8, .inl Kfo)), (mho, .inl (cI, 160, .inl (upd wh a1.toNatClampNeg (0 : Int32)))), (mis, .inl (cZ, 160, .inl wz))] H := hP
                    have hD : va_D A [(m0, .inr (7, [.int vfi, .ref mfi, .long vak, .int vhr, .ref mil, .ref mic, .ref mwi, .int vho, .int vga, .ref mmo, .int vns, .ref mki, .ref mce, .ref mgo, .ref mwa, .ref mha, .ref mch, .ref mfo, .ref mca, .ref mor, .ref mro, .ref mra, .ref mpr, .ref mho, .ref mis, .int vsg, .ref mss, .ref msc, .ref msh, .int vpr, .int vfa])), (mil, .inl (cZ, 160, .inl Kil)), (mic, .inl (cZ, 12, .inl Kic)), (mwi, .inl (cI, 1920, .inl Kwi)), (mki, .inl (cI, 8, .inl Kki)), (mfo, .inl (cI, 8, .inl Kfo)), (mho, .inl (cI, 160, .inl (upd wh a1.toNatClampNeg (0 : Int32)))), (mis, .inl (cZ, 160, .inl wz))] := hD
                    have zs_29 : (upd wh a1.toNatClampNeg (0 : Int32) a1.toNatClampNeg).toInt = 0 := (congrArg Int32.toInt (upd_at (wh) a1.toNatClampNeg (0 : Int32))).trans (by decide)
                    refine lv_iload_n hx hb dX6_least_95 rfl (lv_at hl 3 rfl) ?_
                    refine lv_istore (lv' := [(5, .int a1), (0, .ref m0), (1, .int a0), (2, .int a1), (3, .int a2), (4, .int a3)]) hx hb dX6_least_96 hl (by decide) rfl (fun ls hl => ?_)
                    have key98 : ∀ (n98 : Nat) (at_ : Int32) (wh2 wz2 : Nat → Int32) (H : Heap) (locs : List Loc) (ls : Array Slot), ((-9) ≤ at_.toInt ∧ at_.toInt ≤ 159) → Rg 160 0 2001 wh2 → (0 ≤ at_.toInt → wz2 at_.toNatClampNeg = 0) → (0 ≤ at_.toInt → (wh2 at_.toNatClampNeg).toInt ≤ 2000) → (wz2 a2.toNatClampNeg = 0) → (at_.toInt = pickF (hI wh2) (sI wz2) 160) → (runR (nextF Kil) (FFo (spF (Kki a0.toNatClampNeg).toInt (Kfo a0.toNatClampNeg).toInt Kic (fun m9 j9 => Kwi (160 * m9 + j9))) a3.toInt) a2.toInt (unset wz2 160) (hI wh2) (sI wz2) = (runR (nextF Kil) (FFo (spF (Kki a0.toNatClampNeg).toInt (Kfo a0.toNatClampNeg).toInt Kic (fun m9 j9 => Kwi (160 * m9 + j9))) a3.toInt) a2.toInt 160 (h00 a1.toInt) (fun _ => 0))) → (unset wz2 160 : Int) < (n98 : Int) → va_P (dC, dI) vwCl [(m0, .inr (7, [.int vfi, .ref mfi, .long vak, .int vhr, .ref mil, .ref mic, .ref mwi, .int vho, .int vga, .ref mmo, .int vns, .ref mki, .ref mce, .ref mgo, .ref mwa, .ref mha, .ref mch, .ref mfo, .ref mca, .ref mor, .ref mro, .ref mra, .ref mpr, .ref mho, .ref mis, .int vsg, .ref mss, .ref msc, .ref msh, .int vpr, .int vfa])), (mil, .inl (cZ, 160, .inl Kil)), (mic, .inl (cZ, 12, .inl Kic)), (mwi, .inl (cI, 1920, .inl Kwi)), (mki, .inl (cI, 8, .inl Kki)), (mfo, .inl (cI, 8, .inl Kfo)), (mho, .inl (cI, 160, .inl wh2)), (mis, .inl (cZ, 160, .inl wz2))] H → va_D A [(m0, .inr (7, [.int vfi, .ref mfi, .long vak, .int vhr, .ref mil, .ref mic, .ref mwi, .int vho, .int vga, .ref mmo, .int vns, .ref mki, .ref mce, .ref mgo, .ref mwa, .ref mha, .ref mch, .ref mfo, .ref mca, .ref mor, .ref mro, .ref mra, .ref mpr, .ref mho, .ref mis, .int vsg, .ref mss, .ref msc, .ref msh, .int vpr, .int vfa])), (mil, .inl (cZ, 160, .inl Kil)), (mic, .inl (cZ, 12, .inl Kic)), (mwi, .inl (cI, 1920, .inl Kwi)), (mki, .inl (cI, 8, .inl Kki)), (mfo, .inl (cI, 8, .inl Kfo)), (mho, .inl (cI, 160, .inl wh2)), (mis, .inl (cZ, 160, .inl wz2))] → va_S A s.heap H locs → lv_has ls 9 [(5, .int at_), (0, .ref m0), (1, .int a0), (2, .int a1), (3, .int a2), (4, .int a3)] → W p l e ({ frames := 3, cells := 0, slots := 0, locals := 74 } : Room) s m ([.ref m0, .int a0, .int a1, .int a2, .int a3] : List Value).toArray below meth c H locs 0 0 (MQ below (va_Qi (fun (r : Int32) (u : (Nat → Int32) × (Nat → Int32)) => (r.toInt = if ((0 ≤ a0.toInt ∧ a0.toInt < vns.toInt) ∧ ((0 ≤ a1.toInt ∧ a1.toInt ≤ 159) ∧ (Kil a1.toNatClampNeg).toInt = 0) ∧ ((0 ≤ a2.toInt ∧ a2.toInt ≤ 159) ∧ (Kil a2.toNatClampNeg).toInt = 0) ∧ (0 ≤ a3.toInt ∧ a3.toInt ≤ 98000)) then lstF (runR (nextF Kil) (FFo (spF (Kki a0.toNatClampNeg).toInt (Kfo a0.toNatClampNeg).toInt Kic (fun m9 j9 => Kwi (160 * m9 + j9))) a3.toInt) a2.toInt 160 (h00 a1.toInt) (fun _ => 0)) a2.toInt else -1)) (fun u t => va_P (dC, dI) vwCl [(m0, .inr (7, [.int vfi, .ref mfi, .long vak, .int vhr, .ref mil, .ref mic, .ref mwi, .int vho, .int vga, .ref mmo, .int vns, .ref mki, .ref mce, .ref mgo, .ref mwa, .ref mha, .ref mch, .ref mfo, .ref mca, .ref mor, .ref mro, .ref mra, .ref mpr, .ref mho, .ref mis, .int vsg, .ref mss, .ref msc, .ref msh, .int vpr, .int vfa])), (mil, .inl (cZ, 160, .inl Kil)), (mic, .inl (cZ, 12, .inl Kic)), (mwi, .inl (cI, 1920, .inl Kwi)), (mki, .inl (cI, 8, .inl Kki)), (mfo, .inl (cI, 8, .inl Kfo)), (mho, .inl (cI, 160, .inl u.1)), (mis, .inl (cZ, 160, .inl u.2))] t.heap ∧ va_K (dC, dI) vwCl [(cI, .int), (cZ, .boolean)] t ∧ va_D A [(m0, .inr (7, [.int vfi, .ref mfi, .long vak, .int vhr, .ref mil, .ref mic, .ref mwi, .int vho, .int vga, .ref mmo, .int vns, .ref mki, .ref mce, .ref mgo, .ref mwa, .ref mha, .ref mch, .ref mfo, .ref mca, .ref mor, .ref mro, .ref mra, .ref mpr, .ref mho, .ref mis, .int vsg, .ref mss, .ref msc, .ref msh, .int vpr, .int vfa])), (mil, .inl (cZ, 160, .inl Kil)), (mic, .inl (cZ, 12, .inl Kic)), (mwi, .inl (cI, 1920, .inl Kwi)), (mki, .inl (cI, 8, .inl Kki)), (mfo, .inl (cI, 8, .inl Kfo)), (mho, .inl (cI, 160, .inl u.1)), (mis, .inl (cZ, 160, .inl u.2))]) A) ([.ref m0, .int a0, .int a1, .int a2, .int a3] : List Value).toArray s 0 0 A) (F0 m 98 ls []) := by
                      intro n98
                      induction n98 with
                      | zero =>
                        intro at_ wh2 wz2 H locs ls i_at_ R_wh2 hu hh2 hto hpk hrn hm98
                        exact absurd hm98 (by omega)
                      | succ n98 ih98 =>
                        intro at_ wh2 wz2 H locs ls i_at_ R_wh2 hu hh2 hto hpk hrn hm98 hP hD hS hl
                        refine lv_iload hx hb dX6_least_98 (lv_at hl 0 rfl) ?_
                        refine lv_iload_n hx hb dX6_least_100 rfl (lv_at hl 4 rfl) ?_
                        refine lv_icmp_eq (tgt := 309) hx hb dX6_least_101 (by decide) (fun c_30 => ?_) (fun c_30 => ?_)
                        · skip
                          have qc_30 : at_.toInt = a2.toInt := eq_k rfl rfl c_30
                          refine lv_iload hx hb dX6_least_309 (lv_at hl 0 rfl) ?_
                          refine lv_if_ge (tgt := 319) hx hb dX6_least_311 (by decide) (fun c_31 => ?_) (fun c_31 => ?_)
                          · skip
                            have qc_31 : 0 ≤ at_.toInt := le_k (by decide) rfl c_31
                            refine lv_aload_n hx hb dX6_least_319 rfl (lv_at hl 1 rfl) ?_
                            refine va_get (D := (dC, dI)) (ci := 7) (v := .ref mho) (C := RX6) (T := TX6) (N := 31) hx hb hts iw_X6_least_X6 hown hK hP 0 rfl rfl 23 (by decide) (hts (.fieldLink RX6 62 "TeaRaceModel" "hours" "[I") (by decide +kernel)) (fun _ h9 => h9) rfl dX6_least_320 ?_
                            refine lv_iload_n hx hb dX6_least_323 rfl (lv_at hl 4 rfl) ?_
                            refine va_iald hx hb hK hP 6 0 rfl rfl (in_k rfl (by omega) (by omega)) dX6_least_324 ?_
                            refine lv_topi (fun x_32 ex_32 => ?_)
                            have rx_32 := congrArg Int32.toInt ex_32
                            have gx_32 : 0 ≤ x_32.toInt ∧ x_32.toInt ≤ 2001 := Rg.at R_wh2 rfl (by omega) (by omega) ex_32
                            have hP9 := hP.sub (ws' := [(m0, .inr (7, [.int vfi, .ref mfi, .long vak, .int vhr, .ref mil, .ref mic, .ref mwi, .int vho, .int vga, .ref mmo, .int vns, .ref mki, .ref mce, .ref mgo, .ref mwa, .ref mha, .ref mch, .ref mfo, .ref mca, .ref mor, .ref mro, .ref mra, .ref mpr, .ref mho, .ref mis, .int vsg, .ref mss, .ref msc, .ref msh, .int vpr, .int vfa])), (mil, .inl (cZ, 160, .inl Kil)), (mic, .inl (cZ, 12, .inl Kic)), (mwi, .inl (cI, 1920, .inl Kwi)), (mki, .inl (cI, 8, .inl Kki)), (mfo, .inl (cI, 8, .inl Kfo)), (mho, .inl (cI, 160, .inl wh2)), (mis, .inl (cZ, 160, .inl wz2))]) [0, 1, 2, 3, 4, 5, 6, 7] rfl
                            have hD9 := hD.sub (ws' := [(m0, .inr (7, [.int vfi, .ref mfi, .long vak, .int vhr, .ref mil, .ref mic, .ref mwi, .int vho, .int vga, .ref mmo, .int vns, .ref mki, .ref mce, .ref mgo, .ref mwa, .ref mha, .ref mch, .ref mfo, .ref mca, .ref mor, .ref mro, .ref mra, .ref mpr, .ref mho, .ref mis, .int vsg, .ref mss, .ref msc, .ref msh, .int vpr, .int vfa])), (mil, .inl (cZ, 160, .inl Kil)), (mic, .inl (cZ, 12, .inl Kic)), (mwi, .inl (cI, 1920, .inl Kwi)), (mki, .inl (cI, 8, .inl Kki)), (mfo, .inl (cI, 8, .inl Kfo)), (mho, .inl (cI, 160, .inl wh2)), (mis, .inl (cZ, 160, .inl wz2))]) [0, 1, 2, 3, 4, 5, 6, 7] (by decide) rfl
                            have hK9 := hK.sub (tys' := [(cI, .int), (cZ, .boolean)]) [0, 1] rfl
                            exact W.iret (v := x_32) hx hb hr (fun t ht hW => ⟨⟨x_32, (wh2, wz2), rfl, (by (try dsimp only); rw [if_pos (by omega)]; have p7 := (pick_spec (h := hI wh2) (s := sI wz2) (n := 160) (by rw [← hpk]; omega)).2.1; rewrite [← hpk, hI_at (by show at_.toInt.toNat < 160; omega)] at p7; have p7 : (wh2 at_.toNatClampNeg).toInt ≤ 2000 := p7; have p6 : at_.toNatClampNeg = a2.toNatClampNeg := (by have := tn_k (i := a2) rfl (by omega); have := tn_k (i := at_) rfl (by omega); omega); rewrite [p6] at p7; exact least_end (x := x_32) ((runR_stop (by rw [← hpk]; omega)).symm.trans hrn) ⟨by omega, by omega⟩ rx_32 (by rw [if_neg (by omega)])), ⟨by rw [ht]; exact hP9, va_K.moved hW.alike hK9, hD9⟩⟩, hS.F ht⟩) hS.2.2 dX6_least_325
                          · skip
                            have qc_31 : at_.toInt < 0 := nle_k (by decide) rfl c_31
                            exfalso
                            omega
                        · skip
                          have qc_30 : at_.toInt ≠ a2.toInt := ne_k rfl rfl c_30
                          refine lv_iload hx hb dX6_least_104 (lv_at hl 0 rfl) ?_
                          refine lv_if_lt (tgt := 309) hx hb dX6_least_106 (by decide) (fun c_33 => ?_) (fun c_33 => ?_)
                          · skip
                            have qc_33 : at_.toInt < 0 := lt_k rfl (by decide) c_33
                            refine lv_iload hx hb dX6_least_309 (lv_at hl 0 rfl) ?_
                            refine lv_if_ge (tgt := 319) hx hb dX6_least_311 (by decide) (fun c_34 => ?_) (fun c_34 => ?_)
                            · skip
                              have qc_34 : 0 ≤ at_.toInt := le_k (by decide) rfl c_34
                              exfalso
                              omega
                            · skip
                              have qc_34 : at_.toInt < 0 := nle_k (by decide) rfl c_34
                              refine lv_bipush (v := (-9)) hx hb dX6_least_314 (by decide) ?_
                              refine lv_goto (tgt := 325) hx hb dX6_least_316 (by decide) ?_
                              have hP9 := hP.sub (ws' := [(m0, .inr (7, [.int vfi, .ref mfi, .long vak, .int vhr, .ref mil, .ref mic, .ref mwi, .int vho, .int vga, .ref mmo, .int vns, .ref mki, .ref mce, .ref mgo, .ref mwa, .ref mha, .ref mch, .ref mfo, .ref mca, .ref mor, .ref mro, .ref mra, .ref mpr, .ref mho, .ref mis, .int vsg, .ref mss, .ref msc, .ref msh, .int vpr, .int vfa])), (mil, .inl (cZ, 160, .inl Kil)), (mic, .inl (cZ, 12, .inl Kic)), (mwi, .inl (cI, 1920, .inl Kwi)), (mki, .inl (cI, 8, .inl Kki)), (mfo, .inl (cI, 8, .inl Kfo)), (mho, .inl (cI, 160, .inl wh2)), (mis, .inl (cZ, 160, .inl wz2))]) [0, 1, 2, 3, 4, 5, 6, 7] rfl
                              have hD9 := hD.sub (ws' := [(m0, .inr (7, [.int vfi, .ref mfi, .long vak, .int vhr, .ref mil, .ref mic, .ref mwi, .int vho, .int vga, .ref mmo, .int vns, .ref mki, .ref mce, .ref mgo, .ref mwa, .ref mha, .ref mch, .ref mfo, .ref mca, .ref mor, .ref mro, .ref mra, .ref mpr, .ref mho, .ref mis, .int vsg, .ref mss, .ref msc, .ref msh, .int vpr, .int vfa])), (mil, .inl (cZ, 160, .inl Kil)), (mic, .inl (cZ, 12, .inl Kic)), (mwi, .inl (cI, 1920, .inl Kwi)), (mki, .inl (cI, 8, .inl Kki)), (mfo, .inl (cI, 8, .inl Kfo)), (mho, .inl (cI, 160, .inl wh2)), (mis, .inl (cZ, 160, .inl wz2))]) [0, 1, 2, 3, 4, 5, 6, 7] (by decide) rfl
                              have hK9 := hK.sub (tys' := [(cI, .int), (cZ, .boolean)]) [0, 1] rfl
                              have hv9 : (-9 : Int32).toInt = (-9) := by decide
                              exact W.iret (v := (-9)) hx hb hr (fun t ht hW => ⟨⟨(-9), (wh2, wz2), rfl, (by (try dsimp only); rw [if_pos (by omega)]; have p9 := pick_none (h := hI wh2) (s := sI wz2) (n := 160) (by rw [← hpk]; omega) a2.toNatClampNeg (by have := tn_k (i := a2) rfl (by omega); omega) ((sI_at (by have := tn_k (i := a2) rfl (by omega); omega)).trans hto); rewrite [hI_at (by have := tn_k (i := a2) rfl (by omega); omega)] at p9; have p8 := R_wh2 a2.toNatClampNeg (by have := tn_k (i := a2) rfl (by omega); omega); exact least_end (x := wh2 a2.toNatClampNeg) ((runR_stop (by rw [← hpk]; omega)).symm.trans hrn) ⟨by omega, by omega⟩ rfl (by (try simp only [Int32.reduceToInt]); rw [if_pos (by omega)])), ⟨by rw [ht]; exact hP9, va_K.moved hW.alike hK9, hD9⟩⟩, hS.F ht⟩) hS.2.2 dX6_least_325
                          · skip
                            have qc_33 : 0 ≤ at_.toInt := nlt_k rfl (by decide) c_33
                            refine lv_aload_n hx hb dX6_least_109 rfl (lv_at hl 1 rfl) ?_
                            refine va_get (D := (dC, dI)) (ci := 7) (v := .ref mis) (C := RX6) (T := TX6) (N := 31) hx hb hts iw_X6_least_X6 hown hK hP 0 rfl rfl 24 (by decide) (hts (.fieldLink RX6 65 "TeaRaceModel" "isSettled" "[Z") (by decide +kernel)) (fun _ h9 => h9) rfl dX6_least_110 ?_
                            refine lv_iload hx hb dX6_least_113 (lv_at hl 0 rfl) ?_
                            refine lv_iconst (v := 1) hx hb dX6_least_115 (by decide) ?_
                            refine va_zast hx hb hK hP hD hS 7 1 rfl rfl (in_k rfl (by omega) (by omega)) dX6_least_116 (fun H locs hP hD hS => ?_)
                            have hP : va_P (dC, dI) vwCl [(m0, .inr (7, [.int vfi, .ref mfi, .long vak, .int vhr, .ref mil, .ref mic, .ref mwi, .int vho, .int vga, .ref mmo, .int vns, .ref mki, .ref mce, .ref mgo, .ref mwa, .ref mha, .ref mch, .ref mfo, .ref mca, .ref mor, .ref mro, .ref mra, .ref mpr, .ref mho, .ref mis, .int vsg, .ref mss, .ref msc, .ref msh, .int vpr, .int vfa])), (mil, .inl (cZ, 160, .inl Kil)), (mic, .inl (cZ, 12, .inl Kic)), (mwi, .inl (cI, 1920, .inl Kwi)), (mki, .inl (cI, 8, .inl Kki)), (mfo, .inl (cI, 8, .inl Kfo)), (mho, .inl (cI, 160, .inl wh2)), (mis, .inl (cZ, 160, .inl (upd wz2 at_.toNatClampNeg (vp_nar .boolean (1 : Int32)))))] H := hP
                            have hD : va_D A [(m0, .inr (7, [.int vfi, .ref mfi, .long vak, .int vhr, .ref mil, .ref mic, .ref mwi, .int vho, .int vga, .ref mmo, .int vns, .ref mki, .ref mce, .ref mgo, .ref mwa, .ref mha, .ref mch, .ref mfo, .ref mca, .ref mor, .ref mro, .ref mra, .ref mpr, .ref mho, .ref mis, .int vsg, .ref mss, .ref msc, .ref msh, .int vpr, .int vfa])), (mil, .inl (cZ, 160, .inl Kil)), (mic, .inl (cZ, 12, .inl Kic)), (mwi, .inl (cI, 1920, .inl Kwi)), (mki, .inl (cI, 8, .inl Kki)), (mfo, .inl (cI, 8, .inl Kfo)), (mho, .inl (cI, 160, .inl wh2)), (mis, .inl (cZ, 160, .inl (upd wz2 at_.toNatClampNeg (vp_nar .boolean (1 : Int32)))))] := hD
                            have zs_35 : (upd wz2 at_.toNatClampNeg (vp_nar .boolean (1 : Int32)) at_.toNatClampNeg).toInt = (vp_nar .boolean (1 : Int32)).toInt := congrArg Int32.toInt (upd_at (wz2) at_.toNatClampNeg (vp_nar .boolean (1 : Int32)))
                            refine lv_iconst (v := 0) hx hb dX6_least_117 (by decide) ?_
                            refine lv_istore (lv' := [(6, .int 0), (5, .int at_), (0, .ref m0), (1, .int a0), (2, .int a1), (3, .int a2), (4, .int a3)]) hx hb dX6_least_118 hl (by decide) rfl (fun ls hl => ?_)
                            have key120 : ∀ (n120 : Nat) (iw : Int32) (wh3 : Nat → Int32) (H : Heap) (locs : List Loc) (ls : Array Slot), (0 ≤ iw.toInt ∧ iw.toInt ≤ 8) → Rg 160 0 2001 wh3 → ((wh3 at_.toNatClampNeg).toInt ≤ 2000) → (hI wh3 = rlxR (nextF Kil at_.toInt) (FFo (spF (Kki a0.toNatClampNeg).toInt (Kfo a0.toNatClampNeg).toInt Kic (fun m9 j9 => Kwi (160 * m9 + j9))) a3.toInt at_.toInt) (sI (upd wz2 at_.toNatClampNeg (vp_nar .boolean (1 : Int32)))) at_.toNatClampNeg (hI wh2) iw.toNatClampNeg) → 8 - iw.toInt < (n120 : Int) → va_P (dC, dI) vwCl [(m0, .inr (7, [.int vfi, .ref mfi, .long vak, .int vhr, .ref mil, .ref mic, .ref mwi, .int vho, .int vga, .ref mmo, .int vns, .ref mki, .ref mce, .ref mgo, .ref mwa, .ref mha, .ref mch, .ref mfo, .ref mca, .ref mor, .ref mro, .ref mra, .ref mpr, .ref mho, .ref mis, .int vsg, .ref mss, .ref msc, .ref msh, .int vpr, .int vfa])), (mil, .inl (cZ, 160, .inl Kil)), (mic, .inl (cZ, 12, .inl Kic)), (mwi, .inl (cI, 1920, .inl Kwi)), (mki, .inl (cI, 8, .inl Kki)), (mfo, .inl (cI, 8, .inl Kfo)), (mho, .inl (cI, 160, .inl wh3)), (mis, .inl (cZ, 160, .inl (upd wz2 at_.toNatClampNeg (vp_nar .boolean (1 : Int32)))))] H → va_D A [(m0, .inr (7, [.int vfi, .ref mfi, .long vak, .int vhr, .ref mil, .ref mic, .ref mwi, .int vho, .int vga, .ref mmo, .int vns, .ref mki, .ref mce, .ref mgo, .ref mwa, .ref mha, .ref mch, .ref mfo, .ref mca, .ref mor, .ref mro, .ref mra, .ref mpr, .ref mho, .ref mis, .int vsg, .ref mss, .ref msc, .ref msh, .int vpr, .int vfa])), (mil, .inl (cZ, 160, .inl Kil)), (mic, .inl (cZ, 12, .inl Kic)), (mwi, .inl (cI, 1920, .inl Kwi)), (mki, .inl (cI, 8, .inl Kki)), (mfo, .inl (cI, 8, .inl Kfo)), (mho, .inl (cI, 160, .inl wh3)), (mis, .inl (cZ, 160, .inl (upd wz2 at_.toNatClampNeg (vp_nar .boolean (1 : Int32)))))] → va_S A s.heap H locs → lv_has ls 9 [(6, .int iw), (5, .int at_), (0, .ref m0), (1, .int a0), (2, .int a1), (3, .int a2), (4, .int a3)] → W p l e ({ frames := 3, cells := 0, slots := 0, locals := 74 } : Room) s m ([.ref m0, .int a0, .int a1, .int a2, .int a3] : List Value).toArray below meth c H locs 0 0 (MQ below (va_Qi (fun (r : Int32) (u : (Nat → Int32) × (Nat → Int32)) => (r.toInt = if ((0 ≤ a0.toInt ∧ a0.toInt < vns.toInt) ∧ ((0 ≤ a1.toInt ∧ a1.toInt ≤ 159) ∧ (Kil a1.toNatClampNeg).toInt = 0) ∧ ((0 ≤ a2.toInt ∧ a2.toInt ≤ 159) ∧ (Kil a2.toNatClampNeg).toInt = 0) ∧ (0 ≤ a3.toInt ∧ a3.toInt ≤ 98000)) then lstF (runR (nextF Kil) (FFo (spF (Kki a0.toNatClampNeg).toInt (Kfo a0.toNatClampNeg).toInt Kic (fun m9 j9 => Kwi (160 * m9 + j9))) a3.toInt) a2.toInt 160 (h00 a1.toInt) (fun _ => 0)) a2.toInt else -1)) (fun u t => va_P (dC, dI) vwCl [(m0, .inr (7, [.int vfi, .ref mfi, .long vak, .int vhr, .ref mil, .ref mic, .ref mwi, .int vho, .int vga, .ref mmo, .int vns, .ref mki, .ref mce, .ref mgo, .ref mwa, .ref mha, .ref mch, .ref mfo, .ref mca, .ref mor, .ref mro, .ref mra, .ref mpr, .ref mho, .ref mis, .int vsg, .ref mss, .ref msc, .ref msh, .int vpr, .int vfa])), (mil, .inl (cZ, 160, .inl Kil)), (mic, .inl (cZ, 12, .inl Kic)), (mwi, .inl (cI, 1920, .inl Kwi)), (mki, .inl (cI, 8, .inl Kki)), (mfo, .inl (cI, 8, .inl Kfo)), (mho, .inl (cI, 160, .inl u.1)), (mis, .inl (cZ, 160, .inl u.2))] t.heap ∧ va_K (dC, dI) vwCl [(cI, .int), (cZ, .boolean)] t ∧ va_D A [(m0, .inr (7, [.int vfi, .ref mfi, .long vak, .int vhr, .ref mil, .ref mic, .ref mwi, .int vho, .int vga, .ref mmo, .int vns, .ref mki, .ref mce, .ref mgo, .ref mwa, .ref mha, .ref mch, .ref mfo, .ref mca, .ref mor, .ref mro, .ref mra, .ref mpr, .ref mho, .ref mis, .int vsg, .ref mss, .ref msc, .ref msh, .int vpr, .int vfa])), (mil, .inl (cZ, 160, .inl Kil)), (mic, .inl (cZ, 12, .inl Kic)), (mwi, .inl (cI, 1920, .inl Kwi)), (mki, .inl (cI, 8, .inl Kki)), (mfo, .inl (cI, 8, .inl Kfo)), (mho, .inl (cI, 160, .inl u.1)), (mis, .inl (cZ, 160, .inl u.2))]) A) ([.ref m0, .int a0, .int a1, .int a2, .int a3] : List Value).toArray s 0 0 A) (F0 m 120 ls []) := by
                              intro n120
                              induction n120 with
                              | zero =>
                                intro iw wh3 H locs ls i_iw R_wh3 h3 hrx hm120
                                exact absurd hm120 (by omega)
                              | succ n120 ih120 =>
                                intro iw wh3 H locs ls i_iw R_wh3 h3 hrx hm120 hP hD hS hl
                                refine lv_iload hx hb dX6_least_120 (lv_at hl 0 rfl) ?_
                                refine lv_bipush (v := 8) hx hb dX6_least_122 (by decide) ?_
                                refine lv_icmp_ge (tgt := 231) hx hb dX6_least_124 (by decide) (fun c_36 => ?_) (fun c_36 => ?_)
                                · skip
                                  have qc_36 : 8 ≤ iw.toInt := le_k (by decide) rfl c_36
                                  refine lv_bipush (v := (-9)) hx hb dX6_least_231 (by decide) ?_
                                  refine lv_istore (lv' := [(5, .int (-9)), (6, .int iw), (0, .ref m0), (1, .int a0), (2, .int a1), (3, .int a2), (4, .int a3)]) hx hb dX6_least_233 hl (by decide) rfl (fun ls hl => ?_)
                                  refine lv_iconst (v := 0) hx hb dX6_least_235 (by decide) ?_
                                  refine lv_istore (lv' := [(6, .int 0), (5, .int (-9)), (0, .ref m0), (1, .int a0), (2, .int a1), (3, .int a2), (4, .int a3)]) hx hb dX6_least_236 hl (by decide) rfl (fun ls hl => ?_)
                                  have key238 : ∀ (n238 : Nat) (at2 : Int32) (ic2 : Int32) (H : Heap) (locs : List Loc) (ls : Array Slot), ((-9) ≤ at2.toInt ∧ at2.toInt ≤ 159) → (0 ≤ ic2.toInt ∧ ic2.toInt ≤ 160) → (0 ≤ at2.toInt → (upd wz2 at_.toNatClampNeg (vp_nar .boolean (1 : Int32))) at2.toNatClampNeg = 0 ∧ (wh3 at2.toNatClampNeg).toInt ≤ 2000) → (at2.toInt = pickF (hI wh3) (sI (upd wz2 at_.toNatClampNeg (vp_nar .boolean (1 : Int32)))) ic2.toNatClampNeg) → 160 - ic2.toInt < (n238 : Int) → va_P (dC, dI) vwCl [(m0, .inr (7, [.int vfi, .ref mfi, .long vak, .int vhr, .ref mil, .ref mic, .ref mwi, .int vho, .int vga, .ref mmo, .int vns, .ref mki, .ref mce, .ref mgo, .ref mwa, .ref mha, .ref mch, .ref mfo, .ref mca, .ref mor, .ref mro, .ref mra, .ref mpr, .ref mho, .ref mis, .int vsg, .ref mss, .ref msc, .ref msh, .int vpr, .int vfa])), (mil, .inl (cZ, 160, .inl Kil)), (mic, .inl (cZ, 12, .inl Kic)), (mwi, .inl (cI, 1920, .inl Kwi)), (mki, .inl (cI, 8, .inl Kki)), (mfo, .inl (cI, 8, .inl Kfo)), (mho, .inl (cI, 160, .inl wh3)), (mis, .inl (cZ, 160, .inl (upd wz2 at_.toNatClampNeg (vp_nar .boolean (1 : Int32)))))] H → va_D A [(m0, .inr (7, [.int vfi, .ref mfi, .long vak, .int vhr, .ref mil, .ref mic, .ref mwi, .int vho, .int vga, .ref mmo, .int vns, .ref mki, .ref mce, .ref mgo, .ref mwa, .ref mha, .ref mch, .ref mfo, .ref mca, .ref mor, .ref mro, .ref mra, .ref mpr, .ref mho, .ref mis, .int vsg, .ref mss, .ref msc, .ref msh, .int vpr, .int vfa])), (mil, .inl (cZ, 160, .inl Kil)), (mic, .inl (cZ, 12, .inl Kic)), (mwi, .inl (cI, 1920, .inl Kwi)), (mki, .inl (cI, 8, .inl Kki)), (mfo, .inl (cI, 8, .inl Kfo)), (mho, .inl (cI, 160, .inl wh3)), (mis, .inl (cZ, 160, .inl (upd wz2 at_.toNatClampNeg (vp_nar .boolean (1 : Int32)))))] → va_S A s.heap H locs → lv_has ls 9 [(6, .int ic2), (5, .int at2), (0, .ref m0), (1, .int a0), (2, .int a1), (3, .int a2), (4, .int a3)] → W p l e ({ frames := 3, cells := 0, slots := 0, locals := 74 } : Room) s m ([.ref m0, .int a0, .int a1, .int a2, .int a3] : List Value).toArray below meth c H locs 0 0 (MQ below (va_Qi (fun (r : Int32) (u : (Nat → Int32) × (Nat → Int32)) => (r.toInt = if ((0 ≤ a0.toInt ∧ a0.toInt < vns.toInt) ∧ ((0 ≤ a1.toInt ∧ a1.toInt ≤ 159) ∧ (Kil a1.toNatClampNeg).toInt = 0) ∧ ((0 ≤ a2.toInt ∧ a2.toInt ≤ 159) ∧ (Kil a2.toNatClampNeg).toInt = 0) ∧ (0 ≤ a3.toInt ∧ a3.toInt ≤ 98000)) then lstF (runR (nextF Kil) (FFo (spF (Kki a0.toNatClampNeg).toInt (Kfo a0.toNatClampNeg).toInt Kic (fun m9 j9 => Kwi (160 * m9 + j9))) a3.toInt) a2.toInt 160 (h00 a1.toInt) (fun _ => 0)) a2.toInt else -1)) (fun u t => va_P (dC, dI) vwCl [(m0, .inr (7, [.int vfi, .ref mfi, .long vak, .int vhr, .ref mil, .ref mic, .ref mwi, .int vho, .int vga, .ref mmo, .int vns, .ref mki, .ref mce, .ref mgo, .ref mwa, .ref mha, .ref mch, .ref mfo, .ref mca, .ref mor, .ref mro, .ref mra, .ref mpr, .ref mho, .ref mis, .int vsg, .ref mss, .ref msc, .ref msh, .int vpr, .int vfa])), (mil, .inl (cZ, 160, .inl Kil)), (mic, .inl (cZ, 12, .inl Kic)), (mwi, .inl (cI, 1920, .inl Kwi)), (mki, .inl (cI, 8, .inl Kki)), (mfo, .inl (cI, 8, .inl Kfo)), (mho, .inl (cI, 160, .inl u.1)), (mis, .inl (cZ, 160, .inl u.2))] t.heap ∧ va_K (dC, dI) vwCl [(cI, .int), (cZ, .boolean)] t ∧ va_D A [(m0, .inr (7, [.int vfi, .ref mfi, .long vak, .int vhr, .ref mil, .ref mic, .ref mwi, .int vho, .int vga, .ref mmo, .int vns, .ref mki, .ref mce, .ref mgo, .ref mwa, .ref mha, .ref mch, .ref mfo, .ref mca, .ref mor, .ref mro, .ref mra, .ref mpr, .ref mho, .ref mis, .int vsg, .ref mss, .ref msc, .ref msh, .int vpr, .int vfa])), (mil, .inl (cZ, 160, .inl Kil)), (mic, .inl (cZ, 12, .inl Kic)), (mwi, .inl (cI, 1920, .inl Kwi)), (mki, .inl (cI, 8, .inl Kki)), (mfo, .inl (cI, 8, .inl Kfo)), (mho, .inl (cI, 160, .inl u.1)), (mis, .inl (cZ, 160, .inl u.2))]) A) ([.ref m0, .int a0, .int a1, .int a2, .int a3] : List Value).toArray s 0 0 A) (F0 m 238 ls []) := by
                                    intro n238
                                    induction n238 with
                                    | zero =>
                                      intro at2 ic2 H locs ls i_at2 i_ic2 hm2 hp2 hm238
                                      exact absurd hm238 (by omega)
                                    | succ n238 ih238 =>
                                      intro at2 ic2 H locs ls i_at2 i_ic2 hm2 hp2 hm238 hP hD hS hl
                                      refine lv_iload hx hb dX6_least_238 (lv_at hl 0 rfl) ?_
                                      refine lv_sipush (v := 160) hx hb dX6_least_240 (by decide) ?_
                                      refine lv_icmp_ge (tgt := 306) hx hb dX6_least_243 (by decide) (fun c_37 => ?_) (fun c_37 => ?_)
                                      · skip
                                        have qc_37 : 160 ≤ ic2.toInt := le_k (by decide) rfl c_37
                                        refine lv_goto (tgt := 98) hx hb dX6_least_306 (by decide) ?_
                                        exact ih98 at2 wh3 (upd wz2 at_.toNatClampNeg (vp_nar .boolean (1 : Int32))) H locs ls ⟨(by first | omega | (simp only [Int32.reduceToInt]; omega)), (by first | omega | (simp only [Int32.reduceToInt]; omega))⟩ R_wh3 (fun h9 => (hm2 h9).1) (fun h9 => (hm2 h9).2) (by rw [upd_off _ _ (fun z => by have h1 := tn_k (i := a2) rfl (by omega); have h2 := tn_k (i := at_) rfl (by omega); omega)]; exact hto) (by have e9 : ic2.toNatClampNeg = 160 := (by have := tn_k (i := ic2) rfl (by omega); omega); rewrite [e9] at hp2; exact hp2) (runR_next (p := at_) hrn hpk (by omega) (by omega) (by decide) (by have e9 : iw.toNatClampNeg = 8 := (by have := tn_k (i := iw) rfl (by omega); omega); rewrite [e9] at hrx; exact hrx)) (by have := unset_upd (f := wz2) (k := at_.toNatClampNeg) (n := 160) (v := vp_nar .boolean (1 : Int32)) (by have := tn_k (i := at_) rfl (by omega); omega) (hu (by omega)) (by decide); omega) hP hD hS (lv_sub hl [1, 2, 3, 4, 5, 6] rfl)
                                      · skip
                                        have qc_37 : ic2.toInt < 160 := nle_k (by decide) rfl c_37
                                        refine lv_aload_n hx hb dX6_least_246 rfl (lv_at hl 2 rfl) ?_
                                        refine va_get (D := (dC, dI)) (ci := 7) (v := .ref mis) (C := RX6) (T := TX6) (N := 31) hx hb hts iw_X6_least_X6 hown hK hP 0 rfl rfl 24 (by decide) (hts (.fieldLink RX6 65 "TeaRaceModel" "isSettled" "[Z") (by decide +kernel)) (fun _ h9 => h9) rfl dX6_least_247 ?_
                                        refine lv_iload hx hb dX6_least_250 (lv_at hl 0 rfl) ?_
                                        refine va_zald hx hb hK hP 7 1 rfl rfl (in_k rfl (by omega) (by omega)) dX6_least_252 ?_
                                        refine lv_topi (fun x_38 ex_38 => ?_)
                                        have rx_38 := congrArg Int32.toInt ex_38
                                        refine lv_if_ne (tgt := 296) hx hb dX6_least_253 (by decide) (fun c_39 => ?_) (fun c_39 => ?_)
                                        · skip
                                          have qc_39 : x_38.toInt ≠ 0 := ne_k rfl (by decide) c_39
                                          refine lv_iload hx hb dX6_least_296 (lv_at hl 1 rfl) ?_
                                          refine lv_istore (lv' := [(5, .int at2), (6, .int ic2), (0, .ref m0), (1, .int a0), (2, .int a1), (3, .int a2), (4, .int a3)]) hx hb dX6_least_298 hl (by decide) rfl (fun ls hl => ?_)
                                          obtain ⟨x_40, ex_40⟩ : ∃ y : Int32, y = ic2 + 1 := ⟨_, rfl⟩
                                          have tx_40 : x_40.toInt = ic2.toInt + 1 := ad_k ex_40 rfl (by decide) (by omega) (by omega)
                                          refine lv_iinc (v := x_40) (lv' := [(6, .int x_40), (5, .int at2), (0, .ref m0), (1, .int a0), (2, .int a1), (3, .int a2), (4, .int a3)]) hx hb dX6_least_300 hl (k := 1) rfl (by rw [ex_40]; rfl) (by decide) rfl (fun ls hl => ?_)
                                          refine lv_goto (tgt := 238) hx hb dX6_least_303 (by decide) ?_
                                          exact ih238 at2 x_40  H locs ls ⟨(by first | omega | (simp only [Int32.reduceToInt]; omega)), (by first | omega | (simp only [Int32.reduceToInt]; omega))⟩ ⟨(by first | omega | (simp only [Int32.reduceToInt]; omega)), (by first | omega | (simp only [Int32.reduceToInt]; omega))⟩ hm2 (pick_step hp2 ⟨by omega, by omega⟩ (by omega) tx_40 (by (repeat' split) <;> omega)) (by first | omega | (simp only [Int32.reduceToInt]; omega)) hP hD hS (lv_sub hl [0, 1, 2, 3, 4, 5, 6] rfl)
                                        · skip
                                          have qc_39 : x_38.toInt = 0 := eq_k rfl (by decide) c_39
                                          refine lv_aload_n hx hb dX6_least_256 rfl (lv_at hl 2 rfl) ?_
                                          refine va_get (D := (dC, dI)) (ci := 7) (v := .ref mho) (C := RX6) (T := TX6) (N := 31) hx hb hts iw_X6_least_X6 hown hK hP 0 rfl rfl 23 (by decide) (hts (.fieldLink RX6 62 "TeaRaceModel" "hours" "[I") (by decide +kernel)) (fun _ h9 => h9) rfl dX6_least_257 ?_
                                          refine lv_iload hx hb dX6_least_260 (lv_at hl 0 rfl) ?_
                                          refine va_iald hx hb hK hP 6 0 rfl rfl (in_k rfl (by omega) (by omega)) dX6_least_262 ?_
                                          refine lv_topi (fun x_41 ex_41 => ?_)
                                          have rx_41 := congrArg Int32.toInt ex_41
                                          have gx_41 : 0 ≤ x_41.toInt ∧ x_41.toInt ≤ 2001 := Rg.at R_wh3 rfl (by omega) (by omega) ex_41
                                          refine lv_sipush (v := 2000) hx hb dX6_least_263 (by decide) ?_
                                          refine lv_icmp_gt (tgt := 296) hx hb dX6_least_266 (by decide) (fun c_42 => ?_) (fun c_42 => ?_)
                                          · skip
                                            have qc_42 : 2000 < x_41.toInt := lt_k (by decide) rfl c_42
                                            refine lv_iload hx hb dX6_least_296 (lv_at hl 1 rfl) ?_
                                            refine lv_istore (lv' := [(5, .int at2), (6, .int ic2), (0, .ref m0), (1, .int a0), (2, .int a1), (3, .int a2), (4, .int a3)]) hx hb dX6_least_298 hl (by decide) rfl (fun ls hl => ?_)
                                            obtain ⟨x_43, ex_43⟩ : ∃ y : Int32, y = ic2 + 1 := ⟨_, rfl⟩
                                            have tx_43 : x_43.toInt = ic2.toInt + 1 := ad_k ex_43 rfl (by decide) (by omega) (by omega)
                                            refine lv_iinc (v := x_43) (lv' := [(6, .int x_43), (5, .int at2), (0, .ref m0), (1, .int a0), (2, .int a1), (3, .int a2), (4, .int a3)]) hx hb dX6_least_300 hl (k := 1) rfl (by rw [ex_43]; rfl) (by decide) rfl (fun ls hl => ?_)
                                            refine lv_goto (tgt := 238) hx hb dX6_least_303 (by decide) ?_
                                            exact ih238 at2 x_43  H locs ls ⟨(by first | omega | (simp only [Int32.reduceToInt]; omega)), (by first | omega | (simp only [Int32.reduceToInt]; omega))⟩ ⟨(by first | omega | (simp only [Int32.reduceToInt]; omega)), (by first | omega | (simp only [Int32.reduceToInt]; omega))⟩ hm2 (pick_step hp2 ⟨by omega, by omega⟩ (by omega) tx_43 (by (repeat' split) <;> omega)) (by first | omega | (simp only [Int32.reduceToInt]; omega)) hP hD hS (lv_sub hl [0, 1, 2, 3, 4, 5, 6] rfl)
                                          · skip
                                            have qc_42 : x_41.toInt ≤ 2000 := nlt_k (by decide) rfl c_42
                                            refine lv_iload hx hb dX6_least_269 (lv_at hl 1 rfl) ?_
                                            refine lv_if_lt (tgt := 291) hx hb dX6_least_271 (by decide) (fun c_44 => ?_) (fun c_44 => ?_)
                                            · skip
                                              have qc_44 : at2.toInt < 0 := lt_k rfl (by decide) c_44
                                              refine lv_iload hx hb dX6_least_291 (lv_at hl 0 rfl) ?_
                                              refine lv_goto (tgt := 298) hx hb dX6_least_293 (by decide) ?_
                                              refine lv_istore (lv' := [(5, .int ic2), (6, .int ic2), (0, .ref m0), (1, .int a0), (2, .int a1), (3, .int a2), (4, .int a3)]) hx hb dX6_least_298 hl (by decide) rfl (fun ls hl => ?_)
                                              obtain ⟨x_45, ex_45⟩ : ∃ y : Int32, y = ic2 + 1 := ⟨_, rfl⟩
                                              have tx_45 : x_45.toInt = ic2.toInt + 1 := ad_k ex_45 rfl (by decide) (by omega) (by omega)
                                              refine lv_iinc (v := x_45) (lv' := [(6, .int x_45), (5, .int ic2), (0, .ref m0), (1, .int a0), (2, .int a1), (3, .int a2), (4, .int a3)]) hx hb dX6_least_300 hl (k := 1) rfl (by rw [ex_45]; rfl) (by decide) rfl (fun ls hl => ?_)
                                              refine lv_goto (tgt := 238) hx hb dX6_least_303 (by decide) ?_
                                              exact ih238 ic2 x_45  H locs ls ⟨(by first | omega | (simp only [Int32.reduceToInt]; omega)), (by first | omega | (simp only [Int32.reduceToInt]; omega))⟩ ⟨(by first | omega | (simp only [Int32.reduceToInt]; omega)), (by first | omega | (simp only [Int32.reduceToInt]; omega))⟩ (fun _ => ⟨ex_38.symm.trans (Int32.toInt_inj.mp (by simp only [Int32.reduceToInt]; omega)), by omega⟩) (pick_step hp2 ⟨by omega, by omega⟩ (by omega) tx_45 (by (repeat' split) <;> omega)) (by first | omega | (simp only [Int32.reduceToInt]; omega)) hP hD hS (lv_sub hl [0, 1, 2, 3, 4, 5, 6] rfl)
                                            · skip
                                              have qc_44 : 0 ≤ at2.toInt := nlt_k rfl (by decide) c_44
                                              refine lv_aload_n hx hb dX6_least_274 rfl (lv_at hl 2 rfl) ?_
                                              refine va_get (D := (dC, dI)) (ci := 7) (v := .ref mho) (C := RX6) (T := TX6) (N := 31) hx hb hts iw_X6_least_X6 hown hK hP 0 rfl rfl 23 (by decide) (hts (.fieldLink RX6 62 "TeaRaceModel" "hours" "[I") (by decide +kernel)) (fun _ h9 => h9) rfl dX6_least_275 ?_
                                              refine lv_iload hx hb dX6_least_278 (lv_at hl 0 rfl) ?_
                                              refine va_iald hx hb hK hP 6 0 rfl rfl (in_k rfl (by omega) (by omega)) dX6_least_280 ?_
                                              refine lv_topi (fun x_46 ex_46 => ?_)
                                              have rx_46 := congrArg Int32.toInt ex_46
                                              obtain rfl : x_41 = x_46 := ex_41.trans ex_46.symm
                                              refine lv_aload_n hx hb dX6_least_281 rfl (lv_at hl 2 rfl) ?_
                                              refine va_get (D := (dC, dI)) (ci := 7) (v := .ref mho) (C := RX6) (T := TX6) (N := 31) hx hb hts iw_X6_least_X6 hown hK hP 0 rfl rfl 23 (by decide) (hts (.fieldLink RX6 62 "TeaRaceModel" "hours" "[I") (by decide +kernel)) (fun _ h9 => h9) rfl dX6_least_282 ?_
                                              refine lv_iload hx hb dX6_least_285 (lv_at hl 1 rfl) ?_
                                              refine va_iald hx hb hK hP 6 0 rfl rfl (in_k rfl (by omega) (by omega)) dX6_least_287 ?_
                                              refine lv_topi (fun x_47 ex_47 => ?_)
                                              have rx_47 := congrArg Int32.toInt ex_47
                                              have gx_47 : 0 ≤ x_47.toInt ∧ x_47.toInt ≤ 2001 := Rg.at R_wh3 rfl (by omega) (by omega) ex_47
                                              refine lv_icmp_ge (tgt := 296) hx hb dX6_least_288 (by decide) (fun c_48 => ?_) (fun c_48 => ?_)
                                              · skip
                                                have qc_48 : x_47.toInt ≤ x_41.toInt := le_k rfl rfl c_48
                                                refine lv_iload hx hb dX6_least_296 (lv_at hl 1 rfl) ?_
                                                refine lv_istore (lv' := [(5, .int at2), (6, .int ic2), (0, .ref m0), (1, .int a0), (2, .int a1), (3, .int a2), (4, .int a3)]) hx hb dX6_least_298 hl (by decide) rfl (fun ls hl => ?_)
                                                obtain ⟨x_49, ex_49⟩ : ∃ y : Int32, y = ic2 + 1 := ⟨_, rfl⟩
                                                have tx_49 : x_49.toInt = ic2.toInt + 1 := ad_k ex_49 rfl (by decide) (by omega) (by omega)
                                                refine lv_iinc (v := x_49) (lv' := [(6, .int x_49), (5, .int at2), (0, .ref m0), (1, .int a0), (2, .int a1), (3, .int a2), (4, .int a3)]) hx hb dX6_least_300 hl (k := 1) rfl (by rw [ex_49]; rfl) (by decide) rfl (fun ls hl => ?_)
                                                refine lv_goto (tgt := 238) hx hb dX6_least_303 (by decide) ?_
                                                exact ih238 at2 x_49  H locs ls ⟨(by first | omega | (simp only [Int32.reduceToInt]; omega)), (by first | omega | (simp only [Int32.reduceToInt]; omega))⟩ ⟨(by first | omega | (simp only [Int32.reduceToInt]; omega)), (by first | omega | (simp only [Int32.reduceToInt]; omega))⟩ hm2 (pick_step hp2 ⟨by omega, by omega⟩ (by omega) tx_49 (by (repeat' split) <;> omega)) (by first | omega | (simp only [Int32.reduceToInt]; omega)) hP hD hS (lv_sub hl [0, 1, 2, 3, 4, 5, 6] rfl)
                                              · skip
                                                have qc_48 : x_41.toInt < x_47.toInt := nle_k rfl rfl c_48
                                                refine lv_iload hx hb dX6_least_291 (lv_at hl 0 rfl) ?_
                                                refine lv_goto (tgt := 298) hx hb dX6_least_293 (by decide) ?_
                                                refine lv_istore (lv' := [(5, .int ic2), (6, .int ic2), (0, .ref m0), (1, .int a0), (2, .int a1), (3, .int a2), (4, .int a3)]) hx hb dX6_least_298 hl (by decide) rfl (fun ls hl => ?_)
                                                obtain ⟨x_50, ex_50⟩ : ∃ y : Int32, y = ic2 + 1 := ⟨_, rfl⟩
                                                have tx_50 : x_50.toInt = ic2.toInt + 1 := ad_k ex_50 rfl (by decide) (by omega) (by omega)
                                                refine lv_iinc (v := x_50) (lv' := [(6, .int x_50), (5, .int ic2), (0, .ref m0), (1, .int a0), (2, .int a1), (3, .int a2), (4, .int a3)]) hx hb dX6_least_300 hl (k := 1) rfl (by rw [ex_50]; rfl) (by decide) rfl (fun ls hl => ?_)
                                                refine lv_goto (tgt := 238) hx hb dX6_least_303 (by decide) ?_
                                                exact ih238 ic2 x_50  H locs ls ⟨(by first | omega | (simp only [Int32.reduceToInt]; omega)), (by first | omega | (simp only [Int32.reduceToInt]; omega))⟩ ⟨(by first | omega | (simp only [Int32.reduceToInt]; omega)), (by first | omega | (simp only [Int32.reduceToInt]; omega))⟩ (fun _ => ⟨ex_38.symm.trans (Int32.toInt_inj.mp (by simp only [Int32.reduceToInt]; omega)), by omega⟩) (pick_step hp2 ⟨by omega, by omega⟩ (by omega) tx_50 (by (repeat' split) <;> omega)) (by first | omega | (simp only [Int32.reduceToInt]; omega)) hP hD hS (lv_sub hl [0, 1, 2, 3, 4, 5, 6] rfl)
                                  exact key238 161 (-9) 0  _ _ ls (by decide) (by decide) (fun h9 => absurd h9 (by decide)) rfl (by (try simp only [Int32.reduceToInt]); omega) hP hD hS hl
                                · skip
                                  have qc_36 : iw.toInt < 8 := nle_k (by decide) rfl c_36
                                  refine lv_aload_n hx hb dX6_least_127 rfl (lv_at hl 2 rfl) ?_
                                  refine lv_iload hx hb dX6_least_128 (lv_at hl 1 rfl) ?_
                                  refine lv_iload hx hb dX6_least_130 (lv_at hl 0 rfl) ?_
                                  have hPc := hP.sub (ws' := [(m0, .inr (7, [.int vfi, .ref mfi, .long vak, .int vhr, .ref mil, .ref mic, .ref mwi, .int vho, .int vga, .ref mmo, .int vns, .ref mki, .ref mce, .ref mgo, .ref mwa, .ref mha, .ref mch, .ref mfo, .ref mca, .ref mor, .ref mro, .ref mra, .ref mpr, .ref mho, .ref mis, .int vsg, .ref mss, .ref msc, .ref msh, .int vpr, .int vfa])), (mil, .inl (cZ, 160, .inl Kil))]) [0, 1] rfl
                                  have hKc := hK.sub (tys' := [(cZ, .boolean)]) [1] rfl
                                  refine va_calli (va_runV (As := [.int at_, .int iw]) (rest := []) ⟨hx, hb, hml, hown, hts⟩ (c_X6_nextCell l dC dI H.size m0 mfi mil mic mwi mmo mki mce mgo mwa mha mch mfo mca mor mro mra mpr mho mis mss msc msh vfi vhr vho vga vns vsg vpr vfa vak Kil cZ at_ iw ⟨(by omega), (by omega)⟩ ⟨(by omega), (by omega)⟩) (cwV 2 hts gX6_least_X6_nextCell rfl rfl rfl (by decide +kernel) ⟨Nat.le_of_ble_eq_true rfl, Nat.le_of_ble_eq_true rfl⟩) ⟨fun a U g mk q => by obtain ⟨q0, q1, qP, qK, qN⟩ := q; exact ⟨q0, q1, qP, va_K.moved (u := U) (U := U.calling g mk a) (Vm.Alike.refl U.vm) qK, NW.same (u := U) (U := U.calling g mk a) rfl qN⟩, va_recv hKc hPc (ci := 7) (q0 := 0) rfl rfl, fun U hU hW => ⟨rfl, by rw [hU], by rw [hU]; exact hPc, va_K.moved hW.alike hKc, NW.warm hW hN⟩⟩ rfl rfl hl.1 rfl (lv_room (Nat.le_of_ble_eq_true rfl)) dX6_least_132 ⟨(Nat.zero_le _), (Nat.zero_le _)⟩) hS (fun q _ h => ro_A hS hA q h) (ro_A hS hA) (fun r_51 u t H1 locs ht hvm k_52 hB hz1 hk1 hS => ?_)
                                  have hP := ro_P hk1 hP
                                  generalize H1 = H at hP hS ⊢
                                  try dsimp only at k_52
                                  obtain ⟨k_52, k_53, k_54⟩ := k_52
                                  refine lv_istore (lv' := [(7, .int r_51), (6, .int iw), (5, .int at_), (0, .ref m0), (1, .int a0), (2, .int a1), (3, .int a2), (4, .int a3)]) hx hb dX6_least_135 hl (by decide) rfl (fun ls hl => ?_)
                                  refine lv_iload hx hb dX6_least_137 (lv_at hl 0 rfl) ?_
                                  refine lv_bipush (v := (-9)) hx hb dX6_least_139 (by decide) ?_
                                  refine lv_icmp_eq (tgt := 225) hx hb dX6_least_141 (by decide) (fun c_55 => ?_) (fun c_55 => ?_)
                                  · skip
                                    have qc_55 : r_51.toInt = (-9) := eq_k rfl (by decide) c_55
                                    obtain ⟨x_56, ex_56⟩ : ∃ y : Int32, y = iw + 1 := ⟨_, rfl⟩
                                    have tx_56 : x_56.toInt = iw.toInt + 1 := ad_k ex_56 rfl (by decide) (by omega) (by omega)
                                    refine lv_iinc (v := x_56) (lv' := [(6, .int x_56), (7, .int r_51), (5, .int at_), (0, .ref m0), (1, .int a0), (2, .int a1), (3, .int a2), (4, .int a3)]) hx hb dX6_least_225 hl (k := 1) rfl (by rw [ex_56]; rfl) (by decide) rfl (fun ls hl => ?_)
                                    refine lv_goto (tgt := 120) hx hb dX6_least_228 (by decide) ?_
                                    exact ih120 x_56 wh3 H locs ls ⟨(by first | omega | (simp only [Int32.reduceToInt]; omega)), (by first | omega | (simp only [Int32.reduceToInt]; omega))⟩ R_wh3 h3 (rlxR_skip (nr := r_51) hrx (by omega) tx_56 k_53 (Or.inl (by omega))) (by first | omega | (simp only [Int32.reduceToInt]; omega)) hP hD hS (lv_sub hl [0, 2, 3, 4, 5, 6, 7] rfl)
                                  · skip
                                    have qc_55 : r_51.toInt ≠ (-9) := ne_k rfl (by decide) c_55
                                    refine lv_aload_n hx hb dX6_least_144 rfl (lv_at hl 3 rfl) ?_
                                    refine va_get (D := (dC, dI)) (ci := 7) (v := .ref mis) (C := RX6) (T := TX6) (N := 31) hx hb hts iw_X6_least_X6 hown hK hP 0 rfl rfl 24 (by decide) (hts (.fieldLink RX6 65 "TeaRaceModel" "isSettled" "[Z") (by decide +kernel)) (fun _ h9 => h9) rfl dX6_least_145 ?_
                                    refine lv_iload hx hb dX6_least_148 (lv_at hl 0 rfl) ?_
                                    refine va_zald hx hb hK hP 7 1 rfl rfl (in_k rfl (by omega) (by omega)) dX6_least_150 ?_
                                    refine lv_topi (fun x_57 ex_57 => ?_)
                                    have rx_57 := congrArg Int32.toInt ex_57
                                    refine lv_if_ne (tgt := 225) hx hb dX6_least_151 (by decide) (fun c_58 => ?_) (fun c_58 => ?_)
                                    · skip
                                      have qc_58 : x_57.toInt ≠ 0 := ne_k rfl (by decide) c_58
                                      obtain ⟨x_59, ex_59⟩ : ∃ y : Int32, y = iw + 1 := ⟨_, rfl⟩
                                      have tx_59 : x_59.toInt = iw.toInt + 1 := ad_k ex_59 rfl (by decide) (by omega) (by omega)
                                      refine lv_iinc (v := x_59) (lv' := [(6, .int x_59), (7, .int r_51), (5, .int at_), (0, .ref m0), (1, .int a0), (2, .int a1), (3, .int a2), (4, .int a3)]) hx hb dX6_least_225 hl (k := 1) rfl (by rw [ex_59]; rfl) (by decide) rfl (fun ls hl => ?_)
                                      refine lv_goto (tgt := 120) hx hb dX6_least_228 (by decide) ?_
                                      exact ih120 x_59 wh3 H locs ls ⟨(by first | omega | (simp only [Int32.reduceToInt]; omega)), (by first | omega | (simp only [Int32.reduceToInt]; omega))⟩ R_wh3 h3 (rlxR_skip (nr := r_51) hrx (by omega) tx_59 k_53 (Or.inr ⟨by omega, by omega, by rw [← rx_57]; omega⟩)) (by first | omega | (simp only [Int32.reduceToInt]; omega)) hP hD hS (lv_sub hl [0, 2, 3, 4, 5, 6, 7] rfl)
                                    · skip
                                      have qc_58 : x_57.toInt = 0 := eq_k rfl (by decide) c_58
                                      refine lv_aload_n hx hb dX6_least_154 rfl (lv_at hl 3 rfl) ?_
                                      refine va_get (D := (dC, dI)) (ci := 7) (v := .ref mho) (C := RX6) (T := TX6) (N := 31) hx hb hts iw_X6_least_X6 hown hK hP 0 rfl rfl 23 (by decide) (hts (.fieldLink RX6 62 "TeaRaceModel" "hours" "[I") (by decide +kernel)) (fun _ h9 => h9) rfl dX6_least_155 ?_
                                      refine lv_iload hx hb dX6_least_158 (lv_at hl 2 rfl) ?_
                                      refine va_iald hx hb hK hP 6 0 rfl rfl (in_k rfl (by omega) (by omega)) dX6_least_160 ?_
                                      refine lv_topi (fun x_60 ex_60 => ?_)
                                      have rx_60 := congrArg Int32.toInt ex_60
                                      have gx_60 : 0 ≤ x_60.toInt ∧ x_60.toInt ≤ 2001 := Rg.at R_wh3 rfl (by omega) (by omega) ex_60
                                      refine lv_aload_n hx hb dX6_least_161 rfl (lv_at hl 3 rfl) ?_
                                      refine lv_iload_n hx hb dX6_least_162 rfl (lv_at hl 4 rfl) ?_
                                      refine lv_iload hx hb dX6_least_163 (lv_at hl 2 rfl) ?_
                                      refine lv_iload hx hb dX6_least_165 (lv_at hl 1 rfl) ?_
                                      refine lv_iload hx hb dX6_least_167 (lv_at hl 7 rfl) ?_
                                      refine lv_aload_n hx hb dX6_least_169 rfl (lv_at hl 3 rfl) ?_
                                      refine va_get (D := (dC, dI)) (ci := 7) (v := .ref mho) (C := RX6) (T := TX6) (N := 31) hx hb hts iw_X6_least_X6 hown hK hP 0 rfl rfl 23 (by decide) (hts (.fieldLink RX6 62 "TeaRaceModel" "hours" "[I") (by decide +kernel)) (fun _ h9 => h9) rfl dX6_least_170 ?_
                                      refine lv_iload hx hb dX6_least_173 (lv_at hl 2 rfl) ?_
                                      refine va_iald hx hb hK hP 6 0 rfl rfl (in_k rfl (by omega) (by omega)) dX6_least_175 ?_
                                      refine lv_topi (fun x_61 ex_61 => ?_)
                                      have rx_61 := congrArg Int32.toInt ex_61
                                      obtain rfl : x_60 = x_61 := ex_60.trans ex_61.symm
                                      refine lv_iadd hx hb dX6_least_176 ?_
                                      refine lv_topi (fun x_62 ex_62 => ?_)
                                      have tx_62 : x_62.toInt = a3.toInt + x_60.toInt := ad_k ex_62 rfl rfl (by omega) (by omega)
                                      refine lv_sipush (v := 2000) hx hb dX6_least_177 (by decide) ?_
                                      refine lv_aload_n hx hb dX6_least_180 rfl (lv_at hl 3 rfl) ?_
                                      refine va_get (D := (dC, dI)) (ci := 7) (v := .ref mho) (C := RX6) (T := TX6) (N := 31) hx hb hts iw_X6_least_X6 hown hK hP 0 rfl rfl 23 (by decide) (hts (.fieldLink RX6 62 "TeaRaceModel" "hours" "[I") (by decide +kernel)) (fun _ h9 => h9) rfl dX6_least_181 ?_
                                      refine lv_iload hx hb dX6_least_184 (lv_at hl 2 rfl) ?_
                                      refine va_iald hx hb hK hP 6 0 rfl rfl (in_k rfl (by omega) (by omega)) dX6_least_186 ?_
                                      refine lv_topi (fun x_63 ex_63 => ?_)
                                      have rx_63 := congrArg Int32.toInt ex_63
                                      obtain rfl : x_60 = x_63 := ex_60.trans ex_63.symm
                                      refine lv_isub hx hb dX6_least_187 ?_
                                      refine lv_topi (fun x_64 ex_64 => ?_)
                                      have tx_64 : x_64.toInt = 2000 - x_60.toInt := su_k ex_64 (by decide) rfl (by omega) (by omega)
                                      have hPc := hP.sub (ws' := [(m0, .inr (7, [.int vfi, .ref mfi, .long vak, .int vhr, .ref mil, .ref mic, .ref mwi, .int vho, .int vga, .ref mmo, .int vns, .ref mki, .ref mce, .ref mgo, .ref mwa, .ref mha, .ref mch, .ref mfo, .ref mca, .ref mor, .ref mro, .ref mra, .ref mpr, .ref mho, .ref mis, .int vsg, .ref mss, .ref msc, .ref msh, .int vpr, .int vfa])), (mic, .inl (cZ, 12, .inl Kic)), (mwi, .inl (cI, 1920, .inl Kwi)), (mki, .inl (cI, 8, .inl Kki)), (mfo, .inl (cI, 8, .inl Kfo))]) [0, 2, 3, 4, 5] rfl
                                      have hKc := hK.sub (tys' := [(cI, .int), (cZ, .boolean)]) [0, 1] rfl
                                      refine va_calli (va_runV (As := [.int a0, .int at_, .int iw, .int x_62, .int x_64]) (rest := [.int x_60]) ⟨hx, hb, hml, hown, hts⟩ (c_X6_crossing l dC dI H.size m0 mfi mil mic mwi mmo mki mce mgo mwa mha mch mfo mca mor mro mra mpr mho mis mss msc msh vfi vhr vho vga vns vsg vpr vfa vak Kic Kwi Kki Kfo cI cZ a0 at_ iw x_62 x_64 ⟨(by omega), (by omega)⟩ ⟨(by omega), (by omega)⟩ ⟨(by omega), (by omega)⟩ ⟨(by omega), (by omega)⟩ ⟨(by omega), (by omega)⟩ R_Kwi R_Kki R_Kfo) (cwV 5 hts gX6_least_X6_crossing rfl rfl rfl (by decide +kernel) ⟨Nat.le_of_ble_eq_true rfl, Nat.le_of_ble_eq_true rfl⟩) ⟨fun a U g mk q => by obtain ⟨q0, q1, qP, qK, qN⟩ := q; exact ⟨q0, q1, qP, va_K.moved (u := U) (U := U.calling g mk a) (Vm.Alike.refl U.vm) qK, NW.same (u := U) (U := U.calling g mk a) rfl qN⟩, va_recv hKc hPc (ci := 7) (q0 := 0) rfl rfl, fun U hU hW => ⟨rfl, by rw [hU], by rw [hU]; exact hPc, va_K.moved hW.alike hKc, NW.warm hW hN⟩⟩ rfl rfl hl.1 rfl (lv_room (Nat.le_of_ble_eq_true rfl)) dX6_least_188 ⟨(Nat.zero_le _), (Nat.zero_le _)⟩) hS (fun q _ h => ro_A hS hA q h) (ro_A hS hA) (fun r_65 u t H1 locs ht hvm k_66 hB hz1 hk1 hS => ?_)
                                      have hP := ro_P hk1 hP
                                      generalize H1 = H at hP hS ⊢
                                      try dsimp only at k_66
                                      obtain ⟨k_66, k_67, k_68⟩ := k_66
                                      refine lv_iadd hx hb dX6_least_191 ?_
                                      refine lv_topi (fun x_69 ex_69 => ?_)
                                      have tx_69 : x_69.toInt = x_60.toInt + r_65.toInt := ad_k ex_69 rfl rfl (by omega) (by omega)
                                      refine lv_istore (lv' := [(8, .int x_69), (7, .int r_51), (6, .int iw), (5, .int at_), (0, .ref m0), (1, .int a0), (2, .int a1), (3, .int a2), (4, .int a3)]) hx hb dX6_least_192 hl (by decide) rfl (fun ls hl => ?_)
                                      refine lv_aload_n hx hb dX6_least_194 rfl (lv_at hl 4 rfl) ?_
                                      refine va_get (D := (dC, dI)) (ci := 7) (v := .ref mho) (C := RX6) (T := TX6) (N := 31) hx hb hts iw_X6_least_X6 hown hK hP 0 rfl rfl 23 (by decide) (hts (.fieldLink RX6 62 "TeaRaceModel" "hours" "[I") (by decide +kernel)) (fun _ h9 => h9) rfl dX6_least_195 ?_
                                      refine lv_iload hx hb dX6_least_198 (lv_at hl 1 rfl) ?_
                                      refine lv_iload hx hb dX6_least_200 (lv_at hl 0 rfl) ?_
                                      refine lv_aload_n hx hb dX6_least_202 rfl (lv_at hl 4 rfl) ?_
                                      refine va_get (D := (dC, dI)) (ci := 7) (v := .ref mho) (C := RX6) (T := TX6) (N := 31) hx hb hts iw_X6_least_X6 hown hK hP 0 rfl rfl 23 (by decide) (hts (.fieldLink RX6 62 "TeaRaceModel" "hours" "[I") (by decide +kernel)) (fun _ h9 => h9) rfl dX6_least_203 ?_
                                      refine lv_iload hx hb dX6_least_206 (lv_at hl 1 rfl) ?_
                                      refine va_iald hx hb hK hP 6 0 rfl rfl (in_k rfl (by omega) (by omega)) dX6_least_208 ?_
                                      refine lv_topi (fun x_70 ex_70 => ?_)
                                      have rx_70 := congrArg Int32.toInt ex_70
                                      have gx_70 : 0 ≤ x_70.toInt ∧ x_70.toInt ≤ 2001 := Rg.at R_wh3 rfl (by omega) (by omega) ex_70
                                      refine lv_icmp_ge (tgt := 217) hx hb dX6_least_209 (by decide) (fun c_71 => ?_) (fun c_71 => ?_)
                                      · skip
                                        have qc_71 : x_70.toInt ≤ x_69.toInt := le_k rfl rfl c_71
                                        refine lv_aload_n hx hb dX6_least_217 rfl (lv_at hl 4 rfl) ?_
                                        refine va_get (D := (dC, dI)) (ci := 7) (v := .ref mho) (C := RX6) (T := TX6) (N := 31) hx hb hts iw_X6_least_X6 hown hK hP 0 rfl rfl 23 (by decide) (hts (.fieldLink RX6 62 "TeaRaceModel" "hours" "[I") (by decide +kernel)) (fun _ h9 => h9) rfl dX6_least_218 ?_
                                        refine lv_iload hx hb dX6_least_221 (lv_at hl 1 rfl) ?_
                                        refine va_iald hx hb hK hP 6 0 rfl rfl (in_k rfl (by omega) (by omega)) dX6_least_223 ?_
                                        refine lv_topi (fun x_72 ex_72 => ?_)
                                        have rx_72 := congrArg Int32.toInt ex_72
                                        obtain rfl : x_70 = x_72 := ex_70.trans ex_72.symm
                                        refine va_iast hx hb hK hP hD hS 6 0 rfl rfl (in_k rfl (by omega) (by omega)) dX6_least_224 (fun H locs hP hD hS => ?_)
                                        have hP : va_P (dC, dI) vwCl [(m0, .inr (7, [.int vfi, .ref mfi, .long vak, .int vhr, .ref mil, .ref mic, .ref mwi, .int vho, .int vga, .ref mmo, .int vns, .ref mki, .ref mce, .ref mgo, .ref mwa, .ref mha, .ref mch, .ref mfo, .ref mca, .ref mor, .ref mro, .ref mra, .ref mpr, .ref mho, .ref mis, .int vsg, .ref mss, .ref msc, .ref msh, .int vpr, .int vfa])), (mil, .inl (cZ, 160, .inl Kil)), (mic, .inl (cZ, 12, .inl Kic)), (mwi, .inl (cI, 1920, .inl Kwi)), (mki, .inl (cI, 8, .inl Kki)), (mfo, .inl (cI, 8, .inl Kfo)), (mho, .inl (cI, 160, .inl (upd wh3 r_51.toNatClampNeg x_70))), (mis, .inl (cZ, 160, .inl (upd wz2 at_.toNatClampNeg (vp_nar .boolean (1 : Int32)))))] H := hP
                                        have hD : va_D A [(m0, .inr (7, [.int vfi, .ref mfi, .long vak, .int vhr, .ref mil, .ref mic, .ref mwi, .int vho, .int vga, .ref mmo, .int vns, .ref mki, .ref mce, .ref mgo, .ref mwa, .ref mha, .ref mch, .ref mfo, .ref mca, .ref mor, .ref mro, .ref mra, .ref mpr, .ref mho, .ref mis, .int vsg, .ref mss, .ref msc, .ref msh, .int vpr, .int vfa])), (mil, .inl (cZ, 160, .inl Kil)), (mic, .inl (cZ, 12, .inl Kic)), (mwi, .inl (cI, 1920, .inl Kwi)), (mki, .inl (cI, 8, .inl Kki)), (mfo, .inl (cI, 8, .inl Kfo)), (mho, .inl (cI, 160, .inl (upd wh3 r_51.toNatClampNeg x_70))), (mis, .inl (cZ, 160, .inl (upd wz2 at_.toNatClampNeg (vp_nar .boolean (1 : Int32)))))] := hD
                                        have zs_73 : (upd wh3 r_51.toNatClampNeg x_70 r_51.toNatClampNeg).toInt = x_70.toInt := congrArg Int32.toInt (upd_at (wh3) r_51.toNatClampNeg x_70)
                                        have R_74 : Rg 160 0 2001 (upd wh3 r_51.toNatClampNeg x_70) := Rg.st R_wh3 rfl (by omega) (by omega)
                                        obtain ⟨x_75, ex_75⟩ : ∃ y : Int32, y = iw + 1 := ⟨_, rfl⟩
                                        have tx_75 : x_75.toInt = iw.toInt + 1 := ad_k ex_75 rfl (by decide) (by omega) (by omega)
                                        refine lv_iinc (v := x_75) (lv' := [(6, .int x_75), (8, .int x_69), (7, .int r_51), (5, .int at_), (0, .ref m0), (1, .int a0), (2, .int a1), (3, .int a2), (4, .int a3)]) hx hb dX6_least_225 hl (k := 2) rfl (by rw [ex_75]; rfl) (by decide) rfl (fun ls hl => ?_)
                                        refine lv_goto (tgt := 120) hx hb dX6_least_228 (by decide) ?_
                                        exact ih120 x_75 (upd wh3 r_51.toNatClampNeg x_70) H locs ls ⟨(by first | omega | (simp only [Int32.reduceToInt]; omega)), (by first | omega | (simp only [Int32.reduceToInt]; omega))⟩ R_74 (upd_le h3 (by omega)) (rlxR_step (nr := r_51) (y := x_70) hrx (by omega) tx_75 k_53 ⟨by omega, by omega⟩ (by rw [← rx_57]; omega) (by have := tn_k (i := at_) rfl (by omega); omega) (by have g1 := k_67; rewrite [tx_62, tx_64] at g1; have g2 : FFo (spF (Kki a0.toNatClampNeg).toInt (Kfo a0.toNatClampNeg).toInt Kic (fun m9 j9 => Kwi (160 * m9 + j9))) a3.toInt at_.toInt iw.toInt (wh3 at_.toNatClampNeg).toInt = x_60.toInt + r_65.toInt := (by unfold FFo; rw [← rx_60, ← g1]); rw [g2, ← rx_70]; (repeat' split) <;> omega)) (by first | omega | (simp only [Int32.reduceToInt]; omega)) hP hD hS (lv_sub hl [0, 3, 4, 5, 6, 7, 8] rfl)
                                      · skip
                                        have qc_71 : x_69.toInt < x_70.toInt := nle_k rfl rfl c_71
                                        refine lv_iload hx hb dX6_least_212 (lv_at hl 0 rfl) ?_
                                        refine lv_goto (tgt := 224) hx hb dX6_least_214 (by decide) ?_
                                        refine va_iast hx hb hK hP hD hS 6 0 rfl rfl (in_k rfl (by omega) (by omega)) dX6_least_224 (fun H locs hP hD hS => ?_)
                                        have hP : va_P (dC, dI) vwCl [(m0, .inr (7, [.int vfi, .ref mfi, .long vak, .int vhr, .ref mil, .ref mic, .ref mwi, .int vho, .int vga, .ref mmo, .int vns, .ref mki, .ref mce, .ref mgo, .ref mwa, .ref mha, .ref mch, .ref mfo, .ref mca, .ref mor, .ref mro, .ref mra, .ref mpr, .ref mho, .ref mis, .int vsg, .ref mss, .ref msc, .ref msh, .int vpr, .int vfa])), (mil, .inl (cZ, 160, .inl Kil)), (mic, .inl (cZ, 12, .inl Kic)), (mwi, .inl (cI, 1920, .inl Kwi)), (mki, .inl (cI, 8, .inl Kki)), (mfo, .inl (cI, 8, .inl Kfo)), (mho, .inl (cI, 160, .inl (upd wh3 r_51.toNatClampNeg x_69))), (mis, .inl (cZ, 160, .inl (upd wz2 at_.toNatClampNeg (vp_nar .boolean (1 : Int32)))))] H := hP
                                        have hD : va_D A [(m0, .inr (7, [.int vfi, .ref mfi, .long vak, .int vhr, .ref mil, .ref mic, .ref mwi, .int vho, .int vga, .ref mmo, .int vns, .ref mki, .ref mce, .ref mgo, .ref mwa, .ref mha, .ref mch, .ref mfo, .ref mca, .ref mor, .ref mro, .ref mra, .ref mpr, .ref mho, .ref mis, .int vsg, .ref mss, .ref msc, .ref msh, .int vpr, .int vfa])), (mil, .inl (cZ, 160, .inl Kil)), (mic, .inl (cZ, 12, .inl Kic)), (mwi, .inl (cI, 1920, .inl Kwi)), (mki, .inl (cI, 8, .inl Kki)), (mfo, .inl (cI, 8, .inl Kfo)), (mho, .inl (cI, 160, .inl (upd wh3 r_51.toNatClampNeg x_69))), (mis, .inl (cZ, 160, .inl (upd wz2 at_.toNatClampNeg (vp_nar .boolean (1 : Int32)))))] := hD
                                        have zs_76 : (upd wh3 r_51.toNatClampNeg x_69 r_51.toNatClampNeg).toInt = x_69.toInt := congrArg Int32.toInt (upd_at (wh3) r_51.toNatClampNeg x_69)
                                        have R_77 : Rg 160 0 2001 (upd wh3 r_51.toNatClampNeg x_69) := Rg.st R_wh3 rfl (by omega) (by omega)
                                        obtain ⟨x_78, ex_78⟩ : ∃ y : Int32, y = iw + 1 := ⟨_, rfl⟩
                                        have tx_78 : x_78.toInt = iw.toInt + 1 := ad_k ex_78 rfl (by decide) (by omega) (by omega)
                                        refine lv_iinc (v := x_78) (lv' := [(6, .int x_78), (8, .int x_69), (7, .int r_51), (5, .int at_), (0, .ref m0), (1, .int a0), (2, .int a1), (3, .int a2), (4, .int a3)]) hx hb dX6_least_225 hl (k := 2) rfl (by rw [ex_78]; rfl) (by decide) rfl (fun ls hl => ?_)
                                        refine lv_goto (tgt := 120) hx hb dX6_least_228 (by decide) ?_
                                        exact ih120 x_78 (upd wh3 r_51.toNatClampNeg x_69) H locs ls ⟨(by first | omega | (simp only [Int32.reduceToInt]; omega)), (by first | omega | (simp only [Int32.reduceToInt]; omega))⟩ R_77 (upd_le h3 (by omega)) (rlxR_step (nr := r_51) (y := x_69) hrx (by omega) tx_78 k_53 ⟨by omega, by omega⟩ (by rw [← rx_57]; omega) (by have := tn_k (i := at_) rfl (by omega); omega) (by have g1 := k_67; rewrite [tx_62, tx_64] at g1; have g2 : FFo (spF (Kki a0.toNatClampNeg).toInt (Kfo a0.toNatClampNeg).toInt Kic (fun m9 j9 => Kwi (160 * m9 + j9))) a3.toInt at_.toInt iw.toInt (wh3 at_.toNatClampNeg).toInt = x_60.toInt + r_65.toInt := (by unfold FFo; rw [← rx_60, ← g1]); rw [g2, ← rx_70]; (repeat' split) <;> omega)) (by first | omega | (simp only [Int32.reduceToInt]; omega)) hP hD hS (lv_sub hl [0, 3, 4, 5, 6, 7, 8] rfl)
                            exact key120 9 0 wh2 _ _ ls (by decide) R_wh2 (hh2 (by omega)) rfl (by (try simp only [Int32.reduceToInt]); omega) hP hD hS hl
                    exact key98 161 a1 (upd wh a1.toNatClampNeg (0 : Int32)) wz _ _ ls ⟨(by first | omega | (simp only [Int32.reduceToInt]; omega)), (by first | omega | (simp only [Int32.reduceToInt]; omega))⟩ (Rg.of1 (i := a1.toNatClampNeg) (K := wh) (fun j hj => hrh j (by omega)) (fun j hj => upd_off _ _ hj) (by omega) (by omega)) (fun _ => hz _ (by have := tn_k (i := a1) rfl (by omega); omega)) (fun _ => by omega) (hz _ (by have := tn_k (i := a2) rfl (by omega); omega)) (by rw [(h00_of (w := upd wh a1.toNatClampNeg (0 : Int32)) (fr := a1.toInt) ⟨by omega, by omega⟩ (fun j hj => by by_cases e9 : j = a1.toNatClampNeg; (rw [e9, upd_at, if_pos (by have := tn_k (i := a1) rfl (by omega); omega)]; decide); (rw [upd_off _ _ e9, if_neg (by have := tn_k (i := a1) rfl (by omega); omega)]; exact hz1 j (by omega)))), (s00_of (w := wz) (fun j hj => hz j (by omega)))]; exact (pick_start ⟨by omega, by omega⟩).symm) (by rw [(h00_of (w := upd wh a1.toNatClampNeg (0 : Int32)) (fr := a1.toInt) ⟨by omega, by omega⟩ (fun j hj => by by_cases e9 : j = a1.toNatClampNeg; (rw [e9, upd_at, if_pos (by have := tn_k (i := a1) rfl (by omega); omega)]; decide); (rw [upd_off _ _ e9, if_neg (by have := tn_k (i := a1) rfl (by omega); omega)]; exact hz1 j (by omega)))), (s00_of (w := wz) (fun j hj => hz j (by omega))), unset_all (fun j hj => hz j (by omega))]) (by have := unset_le wz 160; omega) hP hD hS hl
                  · skip
                    have qc_28 : ic.toInt < 160 := nle_k (by decide) rfl c_28
                    refine lv_aload_n hx hb dX6_least_64 rfl (lv_at hl 1 rfl) ?_
                    refine va_get (D := (dC, dI)) (ci := 7) (v := .ref mho) (C := RX6) (T := TX6) (N := 31) hx hb hts iw_X6_least_X6 hown hK hP 0 rfl rfl 23 (by decide) (hts (.fieldLink RX6 62 "TeaRaceModel" "hours" "[I") (by decide +kernel)) (fun _ h9 => h9) rfl dX6_least_65 ?_
                    refine lv_iload hx hb dX6_least_68 (lv_at hl 0 rfl) ?_
                    refine lv_sipush (v := 2001) hx hb dX6_least_70 (by decide) ?_
                    refine va_iast hx hb hK hP hD hS 6 0 rfl rfl (in_k rfl (by omega) (by omega)) dX6_least_73 (fun H locs hP hD hS => ?_)
                    have hP : va_P (dC, dI) vwCl [(m0, .inr (7, [.int vfi, .ref mfi, .long vak, .int vhr, .ref mil, .ref mic, .ref mwi, .int vho, .int vga, .ref mmo, .int vns, .ref mki, .ref mce, .ref mgo, .ref mwa, .ref mha, .ref mch, .ref mfo, .ref mca, .ref mor, .ref mro, .ref mra, .ref mpr, .ref mho, .ref mis, .int vsg, .ref mss, .ref msc, .ref msh, .int vpr, .int vfa])), (mil, .inl (cZ, 160, .inl Kil)), (mic, .inl (cZ, 12, .inl Kic)), (mwi, .inl (cI, 1920, .inl Kwi)), (mki, .inl (cI, 8, .inl Kki)), (mfo, .inl (cI, 8, .inl Kfo)), (mho, .inl (cI, 160, .inl (upd wh ic.toNatClampNeg (2001 : Int32)))), (mis, .inl (cZ, 160, .inl wz))] H := hP
                    have hD : va_D A [(m0, .inr (7, [.int vfi, .ref mfi, .long vak, .int vhr, .ref mil, .ref mic, .ref mwi, .int vho, .int vga, .ref mmo, .int vns, .ref mki, .ref mce, .ref mgo, .ref mwa, .ref mha, .ref mch, .ref mfo, .ref mca, .ref mor, .ref mro, .ref mra, .ref mpr, .ref mho, .ref mis, .int vsg, .ref mss, .ref msc, .ref msh, .int vpr, .int vfa])), (mil, .inl (cZ, 160, .inl Kil)), (mic, .inl (cZ, 12, .inl Kic)), (mwi, .inl (cI, 1920, .inl Kwi)), (mki, .inl (cI, 8, .inl Kki)), (mfo, .inl (cI, 8, .inl Kfo)), (mho, .inl (cI, 160, .inl (upd wh ic.toNatClampNeg (2001 : Int32)))), (mis, .inl (cZ, 160, .inl wz))] := hD
                    have zs_79 : (upd wh ic.toNatClampNeg (2001 : Int32) ic.toNatClampNeg).toInt = 2001 := (congrArg Int32.toInt (upd_at (wh) ic.toNatClampNeg (2001 : Int32))).trans (by decide)
                    refine lv_aload_n hx hb dX6_least_74 rfl (lv_at hl 1 rfl) ?_
                    refine va_get (D := (dC, dI)) (ci := 7) (v := .ref mis) (C := RX6) (T := TX6) (N := 31) hx hb hts iw_X6_least_X6 hown hK hP 0 rfl rfl 24 (by decide) (hts (.fieldLink RX6 65 "TeaRaceModel" "isSettled" "[Z") (by decide +kernel)) (fun _ h9 => h9) rfl dX6_least_75 ?_
                    refine lv_iload hx hb dX6_least_78 (lv_at hl 0 rfl) ?_
                    refine lv_iconst (v := 0) hx hb dX6_least_80 (by decide) ?_
                    refine va_zast hx hb hK hP hD hS 7 1 rfl rfl (in_k rfl (by omega) (by omega)) dX6_least_81 (fun H locs hP hD hS => ?_)
                    have hP : va_P (dC, dI) vwCl [(m0, .inr (7, [.int vfi, .ref mfi, .long vak, .int vhr, .ref mil, .ref mic, .ref mwi, .int vho, .int vga, .ref mmo, .int vns, .ref mki, .ref mce, .ref mgo, .ref mwa, .ref mha, .ref mch, .ref mfo, .ref mca, .ref mor, .ref mro, .ref mra, .ref mpr, .ref mho, .ref mis, .int vsg, .ref mss, .ref msc, .ref msh, .int vpr, .int vfa])), (mil, .inl (cZ, 160, .inl Kil)), (mic, .inl (cZ, 12, .inl Kic)), (mwi, .inl (cI, 1920, .inl Kwi)), (mki, .inl (cI, 8, .inl Kki)), (mfo, .inl (cI, 8, .inl Kfo)), (mho, .inl (cI, 160, .inl (upd wh ic.toNatClampNeg (2001 : Int32)))), (mis, .inl (cZ, 160, .inl (upd wz ic.toNatClampNeg (vp_nar .boolean (0 : Int32)))))] H := hP
                    have hD : va_D A [(m0, .inr (7, [.int vfi, .ref mfi, .long vak, .int vhr, .ref mil, .ref mic, .ref mwi, .int vho, .int vga, .ref mmo, .int vns, .ref mki, .ref mce, .ref mgo, .ref mwa, .ref mha, .ref mch, .ref mfo, .ref mca, .ref mor, .ref mro, .ref mra, .ref mpr, .ref mho, .ref mis, .int vsg, .ref mss, .ref msc, .ref msh, .int vpr, .int vfa])), (mil, .inl (cZ, 160, .inl Kil)), (mic, .inl (cZ, 12, .inl Kic)), (mwi, .inl (cI, 1920, .inl Kwi)), (mki, .inl (cI, 8, .inl Kki)), (mfo, .inl (cI, 8, .inl Kfo)), (mho, .inl (cI, 160, .inl (upd wh ic.toNatClampNeg (2001 : Int32)))), (mis, .inl (cZ, 160, .inl (upd wz ic.toNatClampNeg (vp_nar .boolean (0 : Int32)))))] := hD
                    have zs_80 : (upd wz ic.toNatClampNeg (vp_nar .boolean (0 : Int32)) ic.toNatClampNeg).toInt = (vp_nar .boolean (0 : Int32)).toInt := congrArg Int32.toInt (upd_at (wz) ic.toNatClampNeg (vp_nar .boolean (0 : Int32)))
                    obtain ⟨x_81, ex_81⟩ : ∃ y : Int32, y = ic + 1 := ⟨_, rfl⟩
                    have tx_81 : x_81.toInt = ic.toInt + 1 := ad_k ex_81 rfl (by decide) (by omega) (by omega)
                    refine lv_iinc (v := x_81) (lv' := [(5, .int x_81), (0, .ref m0), (1, .int a0), (2, .int a1), (3, .int a2), (4, .int a3)]) hx hb dX6_least_82 hl (k := 0) rfl (by rw [ex_81]; rfl) (by decide) rfl (fun ls hl => ?_)
                    refine lv_goto (tgt := 56) hx hb dX6_least_85 (by decide) ?_
                    exact ih56 x_81 (upd wh ic.toNatClampNeg (2001 : Int32)) (upd wz ic.toNatClampNeg (vp_nar .boolean (0 : Int32))) H locs ls ⟨(by first | omega | (simp only [Int32.reduceToInt]; omega)), (by first | omega | (simp only [Int32.reduceToInt]; omega))⟩ (zero_step hz (by omega) rfl (by omega)) (fun j hj => by by_cases e9 : j = ic.toNatClampNeg; (rw [e9, upd_at]; decide); (rw [upd_off _ _ e9]; exact hz1 j (by have := tn_k (i := ic) rfl (by omega); omega))) (rng_step hrh (by omega) (by omega) (by decide) (by decide)) (by first | omega | (simp only [Int32.reduceToInt]; omega)) hP hD hS (lv_sub hl [0, 1, 2, 3, 4, 5] rfl)
              exact key56 161 0 Kho Kis _ _ ls (by decide) (fun j h => absurd h (by simp only [Int32.reduceToInt]; omega)) (fun j h => absurd h (by simp only [Int32.reduceToInt]; omega)) (fun j h => absurd h (by simp only [Int32.reduceToInt]; omega)) (by (try simp only [Int32.reduceToInt]); omega) hP hD hS hl
            · skip
              have b_82 := b01z k_24 c_26
              (try simp only [Int32.lt_iff_toInt_lt, Int32.le_iff_toInt_le, ← Int32.toInt_inj, Int32.reduceToInt, zl1, zl2, zl3, zl4, zl9] at b_82)
              (try simp only [Int32.reduceToInt] at b_82)
              refine lv_iconst (v := (-1)) hx hb dX6_least_51 (by decide) ?_
              have hP9 := hP.sub (ws' := [(m0, .inr (7, [.int vfi, .ref mfi, .long vak, .int vhr, .ref mil, .ref mic, .ref mwi, .int vho, .int vga, .ref mmo, .int vns, .ref mki, .ref mce, .ref mgo, .ref mwa, .ref mha, .ref mch, .ref mfo, .ref mca, .ref mor, .ref mro, .ref mra, .ref mpr, .ref mho, .ref mis, .int vsg, .ref mss, .ref msc, .ref msh, .int vpr, .int vfa])), (mil, .inl (cZ, 160, .inl Kil)), (mic, .inl (cZ, 12, .inl Kic)), (mwi, .inl (cI, 1920, .inl Kwi)), (mki, .inl (cI, 8, .inl Kki)), (mfo, .inl (cI, 8, .inl Kfo)), (mho, .inl (cI, 160, .inl Kho)), (mis, .inl (cZ, 160, .inl Kis))]) [0, 1, 2, 3, 4, 5, 6, 7] rfl
              have hD9 := hD.sub (ws' := [(m0, .inr (7, [.int vfi, .ref mfi, .long vak, .int vhr, .ref mil, .ref mic, .ref mwi, .int vho, .int vga, .ref mmo, .int vns, .ref mki, .ref mce, .ref mgo, .ref mwa, .ref mha, .ref mch, .ref mfo, .ref mca, .ref mor, .ref mro, .ref mra, .ref mpr, .ref mho, .ref mis, .int vsg, .ref mss, .ref msc, .ref msh, .int vpr, .int vfa])), (mil, .inl (cZ, 160, .inl Kil)), (mic, .inl (cZ, 12, .inl Kic)), (mwi, .inl (cI, 1920, .inl Kwi)), (mki, .inl (cI, 8, .inl Kki)), (mfo, .inl (cI, 8, .inl Kfo)), (mho, .inl (cI, 160, .inl Kho)), (mis, .inl (cZ, 160, .inl Kis))]) [0, 1, 2, 3, 4, 5, 6, 7] (by decide) rfl
              have hK9 := hK.sub (tys' := [(cI, .int), (cZ, .boolean)]) [0, 1] rfl
              have hv9 : (-1 : Int32).toInt = (-1) := by decide
              exact W.iret (v := (-1)) hx hb hr (fun t ht hW => ⟨⟨(-1), (Kho, Kis), rfl, (by (try dsimp only); rw [if_neg (by omega)]; decide), ⟨by rw [ht]; exact hP9, va_K.moved hW.alike hK9, hD9⟩⟩, hS.F ht⟩) hS.2.2 dX6_least_52
