set_option maxRecDepth 20000 in
theorem iw_X6_run_X6 : ∀ w ∈ wsX60, w ∈ wsX6_run := by decide +kernel
set_option maxHeartbeats 4000000 in
set_option maxRecDepth 100000 in
/-- the reference's run, fresh -/
theorem c_X6_run (l : Launch) (dC : Nat → ClassId) (dI : Nat → Nat → Nat) (sz : Nat) (m0 : Nat) (mfi : Nat) (mil : Nat) (mic : Nat) (mwi : Nat) (mmo : Nat) (mki : Nat) (mce : Nat) (mgo : Nat) (mwa : Nat) (mha : Nat) (mch : Nat) (mfo : Nat) (mca : Nat) (mor : Nat) (mro : Nat) (mra : Nat) (mpr : Nat) (mho : Nat) (mis : Nat) (mss : Nat) (msc : Nat) (msh : Nat) (a0 : Int32)  : Met l yX6_run wsX6_run ({ frames := 1, cells := 0, slots := 0, locals := 22 }) (va_Pc [.ref m0, .int a0] (fun U => U.heap.size = sz ∧ va_P (dC, dI) vwCl [(m0, .inr (7, [.int 0, .ref mfi, .long 0, .int 0, .ref mil, .ref mic, .ref mwi, .int 0, .int 0, .ref mmo, .int 0, .ref mki, .ref mce, .ref mgo, .ref mwa, .ref mha, .ref mch, .ref mfo, .ref mca, .ref mor, .ref mro, .ref mra, .ref mpr, .ref mho, .ref mis, .int 0, .ref mss, .ref msc, .ref msh, .int 100, .int 1]))] U.heap ∧ va_K (dC, dI) vwCl [] U ∧ NW U ∧ va_D (fun _ => True) [(m0, .inr (7, [.int 0, .ref mfi, .long 0, .int 0, .ref mil, .ref mic, .ref mwi, .int 0, .int 0, .ref mmo, .int 0, .ref mki, .ref mce, .ref mgo, .ref mwa, .ref mha, .ref mch, .ref mfo, .ref mca, .ref mor, .ref mro, .ref mra, .ref mpr, .ref mho, .ref mis, .int 0, .ref mss, .ref msc, .ref msh, .int 100, .int 1]))])) (va_Qi (fun (r : Int32) (_ : Unit) => r = if (a0 < 0 ∨ 2000 < a0) then (-1) else 0) (fun _ _ => True) (va_A [(m0, .inr (7, [.int 0, .ref mfi, .long 0, .int 0, .ref mil, .ref mic, .ref mwi, .int 0, .int 0, .ref mmo, .int 0, .ref mki, .ref mce, .ref mgo, .ref mwa, .ref mha, .ref mch, .ref mfo, .ref mca, .ref mor, .ref mro, .ref mra, .ref mpr, .ref mho, .ref mis, .int 0, .ref mss, .ref msc, .ref msh, .int 100, .int 1]))] sz)) 0 0 (va_A [(m0, .inr (7, [.int 0, .ref mfi, .long 0, .int 0, .ref mil, .ref mic, .ref mwi, .int 0, .int 0, .ref mmo, .int 0, .ref mki, .ref mce, .ref mgo, .ref mwa, .ref mha, .ref mch, .ref mfo, .ref mca, .ref mor, .ref mro, .ref mra, .ref mpr, .ref mho, .ref mis, .int 0, .ref mss, .ref msc, .ref msh, .int 100, .int 1]))] sz) := by
  refine Met.ofW (cc := cX6_run) (maxL := 5) (ret := (some .int)) (by decide) rfl ?_
  intro p e s m args below meth c s₁ B hml hv
  obtain ⟨rfl, hsz, hP, hK, hN, hD0⟩ := hv
  have hx := B.exec
  have hb := B.bytes
  have hr := B.returns
  have hts := atoms_spec (ws := wsX6_run) B.pre
  have hown : s.vm.findClass RX6 = some m.cls := findClass_of_methodNamed B.named
  have hlocks := B.notSynchronized
  subst hsz
  have hD := hD0.self (sz := s.heap.size)
  generalize hAe : va_A [(m0, .inr (7, [.int 0, .ref mfi, .long 0, .int 0, .ref mil, .ref mic, .ref mwi, .int 0, .int 0, .ref mmo, .int 0, .ref mki, .ref mce, .ref mgo, .ref mwa, .ref mha, .ref mch, .ref mfo, .ref mca, .ref mor, .ref mro, .ref mra, .ref mpr, .ref mho, .ref mis, .int 0, .ref mss, .ref msc, .ref msh, .int 100, .int 1]))] s.heap.size = A at hD ⊢
  have hA : ∀ q : Nat, s.heap.size ≤ q → A q := fun q h => by rw [← hAe]; exact Or.inr h
  have hS : va_S A s.heap s.heap [] := va_S.rf
  have hP : va_P (dC, dI) vwCl [(m0, .inr (7, [.int 0, .ref mfi, .long 0, .int 0, .ref mil, .ref mic, .ref mwi, .int 0, .int 0, .ref mmo, .int 0, .ref mki, .ref mce, .ref mgo, .ref mwa, .ref mha, .ref mch, .ref mfo, .ref mca, .ref mor, .ref mro, .ref mra, .ref mpr, .ref mho, .ref mis, .int 0, .ref mss, .ref msc, .ref msh, .int 100, .int 1]))] s.heap := hP
  have hl := lv_entry ([.ref m0, .int a0]) (n := 5) (Nat.le_of_ble_eq_true rfl)
  rw [lg_entry_eq]
  generalize (lg_sl ([.ref m0, .int a0]) ++ List.replicate (5 - (lg_sl ([.ref m0, .int a0])).length) Slot.unset).toArray = ls at hl ⊢
  have hl : lv_has ls 5 [(0, .ref m0), (1, .int a0)] := hl
  refine lv_iload_n hx hb dX6_run_0 rfl (lv_at hl 1 rfl) ?_
  refine lv_iconst (v := 0) hx hb dX6_run_1 (by decide) ?_
  refine lv_sipush (v := 2000) hx hb dX6_run_2 (by decide) ?_
  refine va_calli (va_runS (As := [.int a0, .int 0, .int 2000]) (rest := []) ⟨hx, hb, hml, hown, hts⟩ (c_X6_in l s.heap.size a0 0 2000 ) (va_cwS 3 hts gX6_run_X6_in rfl rfl rfl (by decide +kernel) ⟨Nat.le_of_ble_eq_true rfl, Nat.le_of_ble_eq_true rfl⟩) ⟨fun a U g mk q => by obtain ⟨q0, q1⟩ := q; exact ⟨q0, q1⟩, fun U hU hW => ⟨rfl, congrArg Array.size hU⟩⟩ rfl rfl hl.1 rfl (lv_room (Nat.le_of_ble_eq_true rfl)) dX6_run_5 ⟨(Nat.zero_le _), (Nat.zero_le _)⟩) hS (fun q _ h => ro_A hS hA q h) (ro_A hS hA) (fun r_1 u t H1 locs ht hvm k_2 hB hz1 hk1 hS => ?_)
  have hP := ro_P hk1 hP
  generalize H1 = H at hP hS ⊢
  try dsimp only at k_2
  refine lv_if_ne (tgt := 13) hx hb dX6_run_8 (by decide) (fun c_3 => ?_) (fun c_3 => ?_)
  · skip
    have b_4 := b01n k_2 c_3
    refine lv_aload_n hx hb dX6_run_13 rfl (lv_at hl 0 rfl) ?_
    refine va_get (D := (dC, dI)) (ci := 7) (v := .int 0) (C := RX6) (T := TX6) (N := 31) hx hb hts iw_X6_run_X6 hown hK hP 0 rfl rfl 3 (by decide) (hts (.fieldLink RX6 113 "TeaRaceModel" "hour" "I") (by decide +kernel)) (fun _ h9 => h9) rfl dX6_run_14 ?_
    refine lv_iload_n hx hb dX6_run_17 rfl (lv_at hl 1 rfl) ?_
    refine lv_iadd hx hb dX6_run_18 ?_
    refine lv_topi (fun x_5 ex_5 => ?_)
    refine lv_ldc (v := (100000)) hx hb hown (hts (.constant RX6 152 (100000)) (by decide +kernel)) dX6_run_19 ?_
    refine lv_icmp_le (tgt := 27) hx hb dX6_run_21 (by decide) (fun c_6 => ?_) (fun c_6 => ?_)
    · skip
      refine lv_aload_n hx hb dX6_run_27 rfl (lv_at hl 0 rfl) ?_
      have hPc := hP.sub (ws' := [(m0, .inr (7, [.int 0, .ref mfi, .long 0, .int 0, .ref mil, .ref mic, .ref mwi, .int 0, .int 0, .ref mmo, .int 0, .ref mki, .ref mce, .ref mgo, .ref mwa, .ref mha, .ref mch, .ref mfo, .ref mca, .ref mor, .ref mro, .ref mra, .ref mpr, .ref mho, .ref mis, .int 0, .ref mss, .ref msc, .ref msh, .int 100, .int 1]))]) [0] rfl
      have hKc := hK.sub (tys' := []) [] rfl
      refine va_calli (va_runV (As := []) (rest := []) ⟨hx, hb, hml, hown, hts⟩ (c_X6_atHome l dC dI H.size m0 mfi mil mic mwi mmo mki mce mgo mwa mha mch mfo mca mor mro mra mpr mho mis mss msc msh 0 ) (cwV 0 hts gX6_run_X6_atHome rfl rfl rfl (by decide +kernel) ⟨Nat.le_of_ble_eq_true rfl, Nat.le_of_ble_eq_true rfl⟩) ⟨fun a U g mk q => by obtain ⟨q0, q1, qP, qK, qN⟩ := q; exact ⟨q0, q1, qP, va_K.moved (u := U) (U := U.calling g mk a) (Vm.Alike.refl U.vm) qK, NW.same (u := U) (U := U.calling g mk a) rfl qN⟩, va_recv hKc hPc (ci := 7) (q0 := 0) rfl rfl, fun U hU hW => ⟨rfl, by rw [hU], by rw [hU]; exact hPc, va_K.moved hW.alike hKc, NW.warm hW hN⟩⟩ rfl rfl hl.1 rfl (lv_room (Nat.le_of_ble_eq_true rfl)) dX6_run_28 ⟨(Nat.zero_le _), (Nat.zero_le _)⟩) hS (fun q _ h => ro_A hS hA q h) (ro_A hS hA) (fun r_7 u t H1 locs ht hvm k_8 hB hz1 hk1 hS => ?_)
      have hP := ro_P hk1 hP
      generalize H1 = H at hP hS ⊢
      try dsimp only at k_8
      obtain rfl : r_7 = 0 := k_8
      refine lv_istore_n (lv' := [(2, .int 0), (0, .ref m0), (1, .int a0)]) hx hb dX6_run_31 rfl hl (by decide) rfl (fun ls hl => ?_)
      refine lv_iconst (v := 0) hx hb dX6_run_32 (by decide) ?_
      refine lv_istore_n (lv' := [(3, .int 0), (2, .int 0), (0, .ref m0), (1, .int a0)]) hx hb dX6_run_33 rfl hl (by decide) rfl (fun ls hl => ?_)
      have qb_4 := b_4
      (try simp only [Int32.lt_iff_toInt_lt, Int32.le_iff_toInt_le, ← Int32.toInt_inj, Int32.reduceToInt] at qb_4)
      have qex_5 := ex_5
      (try simp only [Int32.lt_iff_toInt_lt, Int32.le_iff_toInt_le, ← Int32.toInt_inj, Int32.reduceToInt] at qex_5)
      have qc_6 := c_6
      (try simp only [Int32.lt_iff_toInt_lt, Int32.le_iff_toInt_le, ← Int32.toInt_inj, Int32.reduceToInt] at qc_6)
      have key : ∀ (n i : Nat) (ik ih_ : Int32) (H : Heap) (locs : List Loc) (ls : Array Slot), ik = nI i → ih_ = nI i → i ≤ a0.toInt.toNat → a0.toInt.toNat + 1 ≤ i + n → va_P (dC, dI) vwCl [(m0, .inr (7, [.int 0, .ref mfi, .long 0, .int ih_, .ref mil, .ref mic, .ref mwi, .int 0, .int 0, .ref mmo, .int 0, .ref mki, .ref mce, .ref mgo, .ref mwa, .ref mha, .ref mch, .ref mfo, .ref mca, .ref mor, .ref mro, .ref mra, .ref mpr, .ref mho, .ref mis, .int 0, .ref mss, .ref msc, .ref msh, .int 100, .int 1]))] H → va_D A [(m0, .inr (7, [.int 0, .ref mfi, .long 0, .int ih_, .ref mil, .ref mic, .ref mwi, .int 0, .int 0, .ref mmo, .int 0, .ref mki, .ref mce, .ref mgo, .ref mwa, .ref mha, .ref mch, .ref mfo, .ref mca, .ref mor, .ref mro, .ref mra, .ref mpr, .ref mho, .ref mis, .int 0, .ref mss, .ref msc, .ref msh, .int 100, .int 1]))] → va_S A s.heap H locs → lv_has ls 5 [(3, .int ik), (2, .int 0), (0, .ref m0), (1, .int a0)] → W p l e ({ frames := 1, cells := 0, slots := 0, locals := 22 } : Room) s m ([.ref m0, .int a0] : List Value).toArray below meth c H locs 0 0 (MQ below (va_Qi (fun (r : Int32) (_ : Unit) => r = if (a0 < 0 ∨ 2000 < a0) then (-1) else 0) (fun _ _ => True) A) ([.ref m0, .int a0] : List Value).toArray s 0 0 A) (F0 m 34 ls []) := by
        intro n
        induction n with
        | zero =>
          intro i ik ih_  H locs ls eik eih_ hi hn
          exact absurd hn (by omega)
        | succ n ih =>
          intro i ik ih_  H locs ls eik eih_ hi hn hP hD hS hl
          have tik : ik.toInt = (i : Int) := by rw [eik]; exact nI_toInt (by omega)
          have tih_ : ih_.toInt = (i : Int) := by rw [eih_]; exact nI_toInt (by omega)
          refine lv_iload_n hx hb dX6_run_34 rfl (lv_at hl 0 rfl) ?_
          refine lv_iload_n hx hb dX6_run_35 rfl (lv_at hl 3 rfl) ?_
          refine lv_icmp_ge (tgt := 91) hx hb dX6_run_36 (by decide) (fun c_9 => ?_) (fun c_9 => ?_)
          · skip
            refine lv_aload_n hx hb dX6_run_91 rfl (lv_at hl 2 rfl) ?_
            have hPc := hP.sub (ws' := [(m0, .inr (7, [.int 0, .ref mfi, .long 0, .int ih_, .ref mil, .ref mic, .ref mwi, .int 0, .int 0, .ref mmo, .int 0, .ref mki, .ref mce, .ref mgo, .ref mwa, .ref mha, .ref mch, .ref mfo, .ref mca, .ref mor, .ref mro, .ref mra, .ref mpr, .ref mho, .ref mis, .int 0, .ref mss, .ref msc, .ref msh, .int 100, .int 1]))]) [0] rfl
            have hKc := hK.sub (tys' := []) [] rfl
            refine va_calli (va_runV (As := []) (rest := []) ⟨hx, hb, hml, hown, hts⟩ (c_X6_atHome l dC dI H.size m0 mfi mil mic mwi mmo mki mce mgo mwa mha mch mfo mca mor mro mra mpr mho mis mss msc msh ih_ ) (cwV 0 hts gX6_run_X6_atHome rfl rfl rfl (by decide +kernel) ⟨Nat.le_of_ble_eq_true rfl, Nat.le_of_ble_eq_true rfl⟩) ⟨fun a U g mk q => by obtain ⟨q0, q1, qP, qK, qN⟩ := q; exact ⟨q0, q1, qP, va_K.moved (u := U) (U := U.calling g mk a) (Vm.Alike.refl U.vm) qK, NW.same (u := U) (U := U.calling g mk a) rfl qN⟩, va_recv hKc hPc (ci := 7) (q0 := 0) rfl rfl, fun U hU hW => ⟨rfl, by rw [hU], by rw [hU]; exact hPc, va_K.moved hW.alike hKc, NW.warm hW hN⟩⟩ rfl rfl hl.1 rfl (lv_room (Nat.le_of_ble_eq_true rfl)) dX6_run_92 ⟨(Nat.zero_le _), (Nat.zero_le _)⟩) hS (fun q _ h => ro_A hS hA q h) (ro_A hS hA) (fun r_10 u t H1 locs ht hvm k_11 hB hz1 hk1 hS => ?_)
            have hP := ro_P hk1 hP
            generalize H1 = H at hP hS ⊢
            try dsimp only at k_11
            obtain rfl : r_10 = 0 := k_11
            refine lv_iload_n hx hb dX6_run_95 rfl (lv_at hl 1 rfl) ?_
            refine lv_isub hx hb dX6_run_96 ?_
            refine lv_topi (fun x_12 ex_12 => ?_)
            obtain rfl : x_12 = 0 := ex_12.trans (by decide +kernel)
            exact W.iret (v := 0) hx hb hr (fun t ht hW => ⟨⟨0, (), rfl, (by first | rfl | trivial | (simp only [Int32.lt_iff_toInt_lt, Int32.le_iff_toInt_le, ← Int32.toInt_inj, Int32.reduceToInt] at b_4 ex_5 c_6 tik tih_ c_9 ⊢; (repeat' split) <;> first | rfl | omega) | (simp only [Int32.lt_iff_toInt_lt, Int32.le_iff_toInt_le, ← Int32.toInt_inj, Int32.reduceToInt] at *; omega) | grind), trivial⟩, hS.F ht⟩) hS.2.2 dX6_run_97
          · skip
            refine lv_iconst (v := 0) hx hb dX6_run_39 (by decide) ?_
            refine lv_istore (lv' := [(4, .int 0), (3, .int ik), (2, .int 0), (0, .ref m0), (1, .int a0)]) hx hb dX6_run_40 hl (by decide) rfl (fun ls hl => ?_)
            refine lv_iload hx hb dX6_run_42 (lv_at hl 0 rfl) ?_
            refine lv_aload_n hx hb dX6_run_44 rfl (lv_at hl 3 rfl) ?_
            refine va_get (D := (dC, dI)) (ci := 7) (v := .int 0) (C := RX6) (T := TX6) (N := 31) hx hb hts iw_X6_run_X6 hown hK hP 0 rfl rfl 10 (by decide) (hts (.fieldLink RX6 110 "TeaRaceModel" "ships" "I") (by decide +kernel)) (fun _ h9 => h9) rfl dX6_run_45 ?_
            refine lv_icmp_ge (tgt := 75) hx hb dX6_run_48 (by decide) (fun c_13 => ?_) (fun c_13 => ?_)
            · skip
              refine lv_aload_n hx hb dX6_run_75 rfl (lv_at hl 3 rfl) ?_
              refine lv_dup hx hb dX6_run_76 rfl ?_
              refine va_get (D := (dC, dI)) (ci := 7) (v := .int ih_) (C := RX6) (T := TX6) (N := 31) hx hb hts iw_X6_run_X6 hown hK hP 0 rfl rfl 3 (by decide) (hts (.fieldLink RX6 113 "TeaRaceModel" "hour" "I") (by decide +kernel)) (fun _ h9 => h9) rfl dX6_run_77 ?_
              refine lv_iconst (v := 1) hx hb dX6_run_80 (by decide) ?_
              refine lv_iadd hx hb dX6_run_81 ?_
              refine lv_topi (fun x_14 ex_14 => ?_)
              refine va_put (D := (dC, dI)) (ci := 7) (v := .int x_14) (ty := .int) (C := RX6) (T := TX6) (N := 31) hx hb hts iw_X6_run_X6 tyX6 tyX6_ok nmX6 hown hK hP hD hS 0 rfl rfl 3 (by decide) (hts (.fieldLink RX6 113 "TeaRaceModel" "hour" "I") (by decide +kernel)) (fun _ h9 => h9) rfl (by decide +kernel) rfl rfl (Nat.le_of_ble_eq_true rfl) dX6_run_82 (fun H locs hP hD hS => ?_)
              have hP : va_P (dC, dI) vwCl [(m0, .inr (7, [.int 0, .ref mfi, .long 0, .int x_14, .ref mil, .ref mic, .ref mwi, .int 0, .int 0, .ref mmo, .int 0, .ref mki, .ref mce, .ref mgo, .ref mwa, .ref mha, .ref mch, .ref mfo, .ref mca, .ref mor, .ref mro, .ref mra, .ref mpr, .ref mho, .ref mis, .int 0, .ref mss, .ref msc, .ref msh, .int 100, .int 1]))] H := hP
              have hD : va_D A [(m0, .inr (7, [.int 0, .ref mfi, .long 0, .int x_14, .ref mil, .ref mic, .ref mwi, .int 0, .int 0, .ref mmo, .int 0, .ref mki, .ref mce, .ref mgo, .ref mwa, .ref mha, .ref mch, .ref mfo, .ref mca, .ref mor, .ref mro, .ref mra, .ref mpr, .ref mho, .ref mis, .int 0, .ref mss, .ref msc, .ref msh, .int 100, .int 1]))] := hD
              obtain ⟨x_15, ex_15⟩ : ∃ y : Int32, y = ik + 1 := ⟨_, rfl⟩
              refine lv_iinc (v := x_15) (lv' := [(3, .int x_15), (4, .int 0), (2, .int 0), (0, .ref m0), (1, .int a0)]) hx hb dX6_run_85 hl (k := 1) rfl (by rw [ex_15]; rfl) (by decide) rfl (fun ls hl => ?_)
              refine lv_goto (tgt := 34) hx hb dX6_run_88 (by decide) ?_
              have qb_4 := b_4
              (try simp only [Int32.lt_iff_toInt_lt, Int32.le_iff_toInt_le, ← Int32.toInt_inj, Int32.reduceToInt] at qb_4)
              have qex_5 := ex_5
              (try simp only [Int32.lt_iff_toInt_lt, Int32.le_iff_toInt_le, ← Int32.toInt_inj, Int32.reduceToInt] at qex_5)
              have qc_6 := c_6
              (try simp only [Int32.lt_iff_toInt_lt, Int32.le_iff_toInt_le, ← Int32.toInt_inj, Int32.reduceToInt] at qc_6)
              have qtik := tik
              (try simp only [Int32.lt_iff_toInt_lt, Int32.le_iff_toInt_le, ← Int32.toInt_inj, Int32.reduceToInt] at qtik)
              have qtih_ := tih_
              (try simp only [Int32.lt_iff_toInt_lt, Int32.le_iff_toInt_le, ← Int32.toInt_inj, Int32.reduceToInt] at qtih_)
              have qc_9 := c_9
              (try simp only [Int32.lt_iff_toInt_lt, Int32.le_iff_toInt_le, ← Int32.toInt_inj, Int32.reduceToInt] at qc_9)
              have qex_14 := ex_14
              (try simp only [Int32.lt_iff_toInt_lt, Int32.le_iff_toInt_le, ← Int32.toInt_inj, Int32.reduceToInt] at qex_14)
              have qex_15 := ex_15
              (try simp only [Int32.lt_iff_toInt_lt, Int32.le_iff_toInt_le, ← Int32.toInt_inj, Int32.reduceToInt] at qex_15)
              exact ih (i + 1) x_15 x_14  H locs ls (by rw [ex_15, eik]; exact nI_1 i) (by rw [ex_14, eih_]; exact nI_1 i) (by omega) (by omega) hP hD hS (lv_sub hl [0, 2, 3, 4] rfl)
            · skip
              exact absurd (by decide) c_13
      exact key (a0.toInt.toNat + 1) 0 0 0  _ _ ls nI_0.symm nI_0.symm (by omega) (by omega) hP hD hS hl
    · skip
      refine lv_bipush (v := (-2)) hx hb dX6_run_24 (by decide) ?_
      exact W.iret (v := (-2)) hx hb hr (fun t ht hW => ⟨⟨(-2), (), rfl, (by first | rfl | trivial | (simp only [Int32.lt_iff_toInt_lt, Int32.le_iff_toInt_le, ← Int32.toInt_inj, Int32.reduceToInt] at b_4 ex_5 c_6 ⊢; (repeat' split) <;> first | rfl | omega) | (simp only [Int32.lt_iff_toInt_lt, Int32.le_iff_toInt_le, ← Int32.toInt_inj, Int32.reduceToInt] at *; omega) | grind), trivial⟩, hS.F ht⟩) hS.2.2 dX6_run_26
  · skip
    have b_16 := b01z k_2 c_3
    refine lv_iconst (v := (-1)) hx hb dX6_run_11 (by decide) ?_
    exact W.iret (v := (-1)) hx hb hr (fun t ht hW => ⟨⟨(-1), (), rfl, (by first | rfl | trivial | (simp only [Int32.lt_iff_toInt_lt, Int32.le_iff_toInt_le, ← Int32.toInt_inj, Int32.reduceToInt] at b_16 ⊢; (repeat' split) <;> first | rfl | omega) | (simp only [Int32.lt_iff_toInt_lt, Int32.le_iff_toInt_le, ← Int32.toInt_inj, Int32.reduceToInt] at *; omega) | grind), trivial⟩, hS.F ht⟩) hS.2.2 dX6_run_12
set_option maxRecDepth 20000 in
theorem iw_X6_chart_X6 : ∀ w ∈ wsX60, w ∈ wsX6_chart := by decide +kernel
set_option maxHeartbeats 4000000 in
set_option maxRecDepth 100000 in
/-- the reference's chart, fresh -/
theorem c_X6_chart (l : Launch) (dC : Nat → ClassId) (dI : Nat → Nat → Nat) (sz : Nat) (m0 : Nat) (mfi : Nat) (mil : Nat) (mic : Nat) (mwi : Nat) (mmo : Nat) (mki : Nat) (mce : Nat) (mgo : Nat) (mwa : Nat) (mha : Nat) (mch : Nat) (mfo : Nat) (mca : Nat) (mor : Nat) (mro : Nat) (mra : Nat) (mpr : Nat) (mho : Nat) (mis : Nat) (mss : Nat) (msc : Nat) (msh : Nat) (cI : ClassId) (cZ : ClassId) (a0 : Int32)  : Met l yX6_chart wsX6_chart ({ frames := 2, cells := 0, slots := 0, locals := 42 }) (va_Pc [.ref m0, .int a0] (fun U => U.heap.size = sz ∧ va_P (dC, dI) vwCl [(m0, .inr (7, [.int 0, .ref mfi, .long 0, .int 0, .ref mil, .ref mic, .ref mwi, .int 0, .int 0, .ref mmo, .int 0, .ref mki, .ref mce, .ref mgo, .ref mwa, .ref mha, .ref mch, .ref mfo, .ref mca, .ref mor, .ref mro, .ref mra, .ref mpr, .ref mho, .ref mis, .int 0, .ref mss, .ref msc, .ref msh, .int 100, .int 1])), (mic, .inl (cZ, 12, .inl (fun _ => 0))), (mwi, .inl (cI, 1920, .inl (fun _ => 0)))] U.heap ∧ va_K (dC, dI) vwCl [(cI, .int), (cZ, .boolean)] U ∧ NW U ∧ va_D (fun _ => True) [(m0, .inr (7, [.int 0, .ref mfi, .long 0, .int 0, .ref mil, .ref mic, .ref mwi, .int 0, .int 0, .ref mmo, .int 0, .ref mki, .ref mce, .ref mgo, .ref mwa, .ref mha, .ref mch, .ref mfo, .ref mca, .ref mor, .ref mro, .ref mra, .ref mpr, .ref mho, .ref mis, .int 0, .ref mss, .ref msc, .ref msh, .int 100, .int 1])), (mic, .inl (cZ, 12, .inl (fun _ => 0))), (mwi, .inl (cI, 1920, .inl (fun _ => 0)))])) (va_Qi (fun (r : Int32) (_ : Unit) => r = if (a0 < 0 ∨ 11 < a0) then (-1) else 0) (fun _ _ => True) (va_A [(m0, .inr (7, [.int 0, .ref mfi, .long 0, .int 0, .ref mil, .ref mic, .ref mwi, .int 0, .int 0, .ref mmo, .int 0, .ref mki, .ref mce, .ref mgo, .ref mwa, .ref mha, .ref mch, .ref mfo, .ref mca, .ref mor, .ref mro, .ref mra, .ref mpr, .ref mho, .ref mis, .int 0, .ref mss, .ref msc, .ref msh, .int 100, .int 1])), (mic, .inl (cZ, 12, .inl (fun _ => 0))), (mwi, .inl (cI, 1920, .inl (fun _ => 0)))] sz)) 0 0 (va_A [(m0, .inr (7, [.int 0, .ref mfi, .long 0, .int 0, .ref mil, .ref mic, .ref mwi, .int 0, .int 0, .ref mmo, .int 0, .ref mki, .ref mce, .ref mgo, .ref mwa, .ref mha, .ref mch, .ref mfo, .ref mca, .ref mor, .ref mro, .ref mra, .ref mpr, .ref mho, .ref mis, .int 0, .ref mss, .ref msc, .ref msh, .int 100, .int 1])), (mic, .inl (cZ, 12, .inl (fun _ => 0))), (mwi, .inl (cI, 1920, .inl (fun _ => 0)))] sz) := by
  refine Met.ofW (cc := cX6_chart) (maxL := 4) (ret := (some .int)) (by decide) rfl ?_
  intro p e s m args below meth c s₁ B hml hv
  obtain ⟨rfl, hsz, hP, hK, hN, hD0⟩ := hv
  have hx := B.exec
  have hb := B.bytes
  have hr := B.returns
  have hts := atoms_spec (ws := wsX6_chart) B.pre
  have hown : s.vm.findClass RX6 = some m.cls := findClass_of_methodNamed B.named
  have hlocks := B.notSynchronized
  subst hsz
  have hD := hD0.self (sz := s.heap.size)
  generalize hAe : va_A [(m0, .inr (7, [.int 0, .ref mfi, .long 0, .int 0, .ref mil, .ref mic, .ref mwi, .int 0, .int 0, .ref mmo, .int 0, .ref mki, .ref mce, .ref mgo, .ref mwa, .ref mha, .ref mch, .ref mfo, .ref mca, .ref mor, .ref mro, .ref mra, .ref mpr, .ref mho, .ref mis, .int 0, .ref mss, .ref msc, .ref msh, .int 100, .int 1])), (mic, .inl (cZ, 12, .inl (fun _ => 0))), (mwi, .inl (cI, 1920, .inl (fun _ => 0)))] s.heap.size = A at hD ⊢
  have hA : ∀ q : Nat, s.heap.size ≤ q → A q := fun q h => by rw [← hAe]; exact Or.inr h
  have hS : va_S A s.heap s.heap [] := va_S.rf
  have hP : va_P (dC, dI) vwCl [(m0, .inr (7, [.int 0, .ref mfi, .long 0, .int 0, .ref mil, .ref mic, .ref mwi, .int 0, .int 0, .ref mmo, .int 0, .ref mki, .ref mce, .ref mgo, .ref mwa, .ref mha, .ref mch, .ref mfo, .ref mca, .ref mor, .ref mro, .ref mra, .ref mpr, .ref mho, .ref mis, .int 0, .ref mss, .ref msc, .ref msh, .int 100, .int 1])), (mic, .inl (cZ, 12, .inl (fun _ => 0))), (mwi, .inl (cI, 1920, .inl (fun _ => 0)))] s.heap := hP
  have hl := lv_entry ([.ref m0, .int a0]) (n := 4) (Nat.le_of_ble_eq_true rfl)
  rw [lg_entry_eq]
  generalize (lg_sl ([.ref m0, .int a0]) ++ List.replicate (4 - (lg_sl ([.ref m0, .int a0])).length) Slot.unset).toArray = ls at hl ⊢
  have hl : lv_has ls 4 [(0, .ref m0), (1, .int a0)] := hl
  refine lv_iload_n hx hb dX6_chart_0 rfl (lv_at hl 1 rfl) ?_
  refine va_calli (va_runS (As := [.int a0]) (rest := []) ⟨hx, hb, hml, hown, hts⟩ (c_X6_isMonth l s.heap.size a0 ) (va_cwS 1 hts gX6_chart_X6_isMonth rfl rfl rfl (by decide +kernel) ⟨Nat.le_of_ble_eq_true rfl, Nat.le_of_ble_eq_true rfl⟩) ⟨fun a U g mk q => by obtain ⟨q0, q1⟩ := q; exact ⟨q0, q1⟩, fun U hU hW => ⟨rfl, congrArg Array.size hU⟩⟩ rfl rfl hl.1 rfl (lv_room (Nat.le_of_ble_eq_true rfl)) dX6_chart_1 ⟨(Nat.zero_le _), (Nat.zero_le _)⟩) hS (fun q _ h => ro_A hS hA q h) (ro_A hS hA) (fun r_1 u t H1 locs ht hvm k_2 hB hz1 hk1 hS => ?_)
  have hP := ro_P hk1 hP
  generalize H1 = H at hP hS ⊢
  try dsimp only at k_2
  refine lv_if_ne (tgt := 9) hx hb dX6_chart_4 (by decide) (fun c_3 => ?_) (fun c_3 => ?_)
  · skip
    have b_4 := b01n k_2 c_3
    refine lv_aload_n hx hb dX6_chart_9 rfl (lv_at hl 0 rfl) ?_
    refine va_get (D := (dC, dI)) (ci := 7) (v := .ref mic) (C := RX6) (T := TX6) (N := 31) hx hb hts iw_X6_chart_X6 hown hK hP 0 rfl rfl 5 (by decide) (hts (.fieldLink RX6 17 "TeaRaceModel" "isChart" "[Z") (by decide +kernel)) (fun _ h9 => h9) rfl dX6_chart_10 ?_
    refine lv_iload_n hx hb dX6_chart_13 rfl (lv_at hl 1 rfl) ?_
    refine va_zald hx hb hK hP 1 1 rfl rfl (vp_in_iff.mpr (by (try simp only [Int32.lt_iff_toInt_lt, Int32.le_iff_toInt_le, ← Int32.toInt_inj, Int32.reduceToInt] at b_4 ⊢); omega)) dX6_chart_14 ?_
    refine lv_topi (fun x_5 ex_5 => ?_)
    obtain rfl : x_5 = 0 := ex_5
    refine lv_if_eq (tgt := 22) hx hb dX6_chart_15 (by decide) (fun c_6 => ?_) (fun c_6 => ?_)
    · skip
      refine lv_iconst (v := 0) hx hb dX6_chart_22 (by decide) ?_
      refine lv_istore_n (lv' := [(2, .int 0), (0, .ref m0), (1, .int a0)]) hx hb dX6_chart_23 rfl hl (by decide) rfl (fun ls hl => ?_)
      refine lv_aload_n hx hb dX6_chart_24 rfl (lv_at hl 1 rfl) ?_
      refine va_get (D := (dC, dI)) (ci := 7) (v := .ref mic) (C := RX6) (T := TX6) (N := 31) hx hb hts iw_X6_chart_X6 hown hK hP 0 rfl rfl 5 (by decide) (hts (.fieldLink RX6 17 "TeaRaceModel" "isChart" "[Z") (by decide +kernel)) (fun _ h9 => h9) rfl dX6_chart_25 ?_
      refine lv_iload_n hx hb dX6_chart_28 rfl (lv_at hl 2 rfl) ?_
      refine lv_iconst (v := 1) hx hb dX6_chart_29 (by decide) ?_
      refine va_zast hx hb hK hP hD hS 1 1 rfl rfl (vp_in_iff.mpr (by (try simp only [Int32.lt_iff_toInt_lt, Int32.le_iff_toInt_le, ← Int32.toInt_inj, Int32.reduceToInt] at b_4 ⊢); omega)) dX6_chart_30 (fun H locs hP hD hS => ?_)
      have hP : va_P (dC, dI) vwCl [(m0, .inr (7, [.int 0, .ref mfi, .long 0, .int 0, .ref mil, .ref mic, .ref mwi, .int 0, .int 0, .ref mmo, .int 0, .ref mki, .ref mce, .ref mgo, .ref mwa, .ref mha, .ref mch, .ref mfo, .ref mca, .ref mor, .ref mro, .ref mra, .ref mpr, .ref mho, .ref mis, .int 0, .ref mss, .ref msc, .ref msh, .int 100, .int 1])), (mic, .inl (cZ, 12, .inl (upd (fun _ => 0) a0.toNatClampNeg (vp_nar .boolean 1)))), (mwi, .inl (cI, 1920, .inl (fun _ => 0)))] H := hP
      have hD : va_D A [(m0, .inr (7, [.int 0, .ref mfi, .long 0, .int 0, .ref mil, .ref mic, .ref mwi, .int 0, .int 0, .ref mmo, .int 0, .ref mki, .ref mce, .ref mgo, .ref mwa, .ref mha, .ref mch, .ref mfo, .ref mca, .ref mor, .ref mro, .ref mra, .ref mpr, .ref mho, .ref mis, .int 0, .ref mss, .ref msc, .ref msh, .int 100, .int 1])), (mic, .inl (cZ, 12, .inl (upd (fun _ => 0) a0.toNatClampNeg (vp_nar .boolean 1)))), (mwi, .inl (cI, 1920, .inl (fun _ => 0)))] := hD
      refine lv_iconst (v := 0) hx hb dX6_chart_31 (by decide) ?_
      refine lv_istore_n (lv' := [(3, .int 0), (2, .int 0), (0, .ref m0), (1, .int a0)]) hx hb dX6_chart_32 rfl hl (by decide) rfl (fun ls hl => ?_)
      have qb_4 := b_4
      (try simp only [Int32.lt_iff_toInt_lt, Int32.le_iff_toInt_le, ← Int32.toInt_inj, Int32.reduceToInt] at qb_4)
      have key : ∀ (n i : Nat) (ik : Int32) (wf : Nat → Int32) (H : Heap) (locs : List Loc) (ls : Array Slot), ik = nI i → i ≤ 160 → 160 + 1 ≤ i + n → va_P (dC, dI) vwCl [(m0, .inr (7, [.int 0, .ref mfi, .long 0, .int 0, .ref mil, .ref mic, .ref mwi, .int 0, .int 0, .ref mmo, .int 0, .ref mki, .ref mce, .ref mgo, .ref mwa, .ref mha, .ref mch, .ref mfo, .ref mca, .ref mor, .ref mro, .ref mra, .ref mpr, .ref mho, .ref mis, .int 0, .ref mss, .ref msc, .ref msh, .int 100, .int 1])), (mic, .inl (cZ, 12, .inl (upd (fun _ => 0) a0.toNatClampNeg (vp_nar .boolean 1)))), (mwi, .inl (cI, 1920, .inl wf))] H → va_D A [(m0, .inr (7, [.int 0, .ref mfi, .long 0, .int 0, .ref mil, .ref mic, .ref mwi, .int 0, .int 0, .ref mmo, .int 0, .ref mki, .ref mce, .ref mgo, .ref mwa, .ref mha, .ref mch, .ref mfo, .ref mca, .ref mor, .ref mro, .ref mra, .ref mpr, .ref mho, .ref mis, .int 0, .ref mss, .ref msc, .ref msh, .int 100, .int 1])), (mic, .inl (cZ, 12, .inl (upd (fun _ => 0) a0.toNatClampNeg (vp_nar .boolean 1)))), (mwi, .inl (cI, 1920, .inl wf))] → va_S A s.heap H locs → lv_has ls 4 [(3, .int ik), (2, .int 0), (0, .ref m0), (1, .int a0)] → W p l e ({ frames := 2, cells := 0, slots := 0, locals := 42 } : Room) s m ([.ref m0, .int a0] : List Value).toArray below meth c H locs 0 0 (MQ below (va_Qi (fun (r : Int32) (_ : Unit) => r = if (a0 < 0 ∨ 11 < a0) then (-1) else 0) (fun _ _ => True) A) ([.ref m0, .int a0] : List Value).toArray s 0 0 A) (F0 m 33 ls []) := by
        intro n
        induction n with
        | zero =>
          intro i ik wf H locs ls eik hi hn
          exact absurd hn (by omega)
        | succ n ih =>
          intro i ik wf H locs ls eik hi hn hP hD hS hl
          have tik : ik.toInt = (i : Int) := by rw [eik]; exact nI_toInt (by omega)
          refine lv_iload_n hx hb dX6_chart_33 rfl (lv_at hl 0 rfl) ?_
          refine lv_sipush (v := 160) hx hb dX6_chart_34 (by decide) ?_
          refine lv_icmp_ge (tgt := 59) hx hb dX6_chart_37 (by decide) (fun c_7 => ?_) (fun c_7 => ?_)
          · skip
            refine lv_iload_n hx hb dX6_chart_59 rfl (lv_at hl 1 rfl) ?_
            exact W.iret (v := 0) hx hb hr (fun t ht hW => ⟨⟨0, (), rfl, (by first | rfl | trivial | (simp only [Int32.lt_iff_toInt_lt, Int32.le_iff_toInt_le, ← Int32.toInt_inj, Int32.reduceToInt] at b_4 tik c_7 ⊢; (repeat' split) <;> first | rfl | omega) | (simp only [Int32.lt_iff_toInt_lt, Int32.le_iff_toInt_le, ← Int32.toInt_inj, Int32.reduceToInt] at *; omega) | grind), trivial⟩, hS.F ht⟩) hS.2.2 dX6_chart_60
          · skip
            refine lv_aload_n hx hb dX6_chart_40 rfl (lv_at hl 2 rfl) ?_
            refine va_get (D := (dC, dI)) (ci := 7) (v := .ref mwi) (C := RX6) (T := TX6) (N := 31) hx hb hts iw_X6_chart_X6 hown hK hP 0 rfl rfl 6 (by decide) (hts (.fieldLink RX6 20 "TeaRaceModel" "winds" "[I") (by decide +kernel)) (fun _ h9 => h9) rfl dX6_chart_41 ?_
            refine lv_sipush (v := 160) hx hb dX6_chart_44 (by decide) ?_
            refine lv_iload_n hx hb dX6_chart_47 rfl (lv_at hl 3 rfl) ?_
            refine lv_imul hx hb dX6_chart_48 ?_
            refine lv_topi (fun x_8 ex_8 => ?_)
            have qb_4 := b_4
            (try simp only [Int32.lt_iff_toInt_lt, Int32.le_iff_toInt_le, ← Int32.toInt_inj, Int32.reduceToInt] at qb_4)
            have qtik := tik
            (try simp only [Int32.lt_iff_toInt_lt, Int32.le_iff_toInt_le, ← Int32.toInt_inj, Int32.reduceToInt] at qtik)
            have qc_7 := c_7
            (try simp only [Int32.lt_iff_toInt_lt, Int32.le_iff_toInt_le, ← Int32.toInt_inj, Int32.reduceToInt] at qc_7)
            have qex_8 := ex_8
            (try simp only [Int32.lt_iff_toInt_lt, Int32.le_iff_toInt_le, ← Int32.toInt_inj, Int32.reduceToInt] at qex_8)
            have tx_8 := mu_i ex_8 (by (try simp only [Int32.reduceToInt]); omega) (by (try simp only [Int32.reduceToInt]); omega)
            (try simp only [Int32.reduceToInt] at tx_8)
            refine lv_iload_n hx hb dX6_chart_49 rfl (lv_at hl 0 rfl) ?_
            refine lv_iadd hx hb dX6_chart_50 ?_
            refine lv_topi (fun x_9 ex_9 => ?_)
            have qtx_8 := tx_8
            (try simp only [Int32.lt_iff_toInt_lt, Int32.le_iff_toInt_le, ← Int32.toInt_inj, Int32.reduceToInt] at qtx_8)
            have qex_9 := ex_9
            (try simp only [Int32.lt_iff_toInt_lt, Int32.le_iff_toInt_le, ← Int32.toInt_inj, Int32.reduceToInt] at qex_9)
            have tx_9 := ad_i ex_9 (by (try simp only [Int32.reduceToInt]); omega) (by (try simp only [Int32.reduceToInt]); omega)
            (try simp only [Int32.reduceToInt] at tx_9)
            refine lv_iconst (v := 0) hx hb dX6_chart_51 (by decide) ?_
            refine va_iast hx hb hK hP hD hS 2 0 rfl rfl (vp_in_iff.mpr (by (try simp only [Int32.lt_iff_toInt_lt, Int32.le_iff_toInt_le, ← Int32.toInt_inj, Int32.reduceToInt] at b_4 tik c_7 tx_8 tx_9 ⊢); omega)) dX6_chart_52 (fun H locs hP hD hS => ?_)
            have hP : va_P (dC, dI) vwCl [(m0, .inr (7, [.int 0, .ref mfi, .long 0, .int 0, .ref mil, .ref mic, .ref mwi, .int 0, .int 0, .ref mmo, .int 0, .ref mki, .ref mce, .ref mgo, .ref mwa, .ref mha, .ref mch, .ref mfo, .ref mca, .ref mor, .ref mro, .ref mra, .ref mpr, .ref mho, .ref mis, .int 0, .ref mss, .ref msc, .ref msh, .int 100, .int 1])), (mic, .inl (cZ, 12, .inl (upd (fun _ => 0) a0.toNatClampNeg (vp_nar .boolean 1)))), (mwi, .inl (cI, 1920, .inl (upd wf x_9.toNatClampNeg 0)))] H := hP
            have hD : va_D A [(m0, .inr (7, [.int 0, .ref mfi, .long 0, .int 0, .ref mil, .ref mic, .ref mwi, .int 0, .int 0, .ref mmo, .int 0, .ref mki, .ref mce, .ref mgo, .ref mwa, .ref mha, .ref mch, .ref mfo, .ref mca, .ref mor, .ref mro, .ref mra, .ref mpr, .ref mho, .ref mis, .int 0, .ref mss, .ref msc, .ref msh, .int 100, .int 1])), (mic, .inl (cZ, 12, .inl (upd (fun _ => 0) a0.toNatClampNeg (vp_nar .boolean 1)))), (mwi, .inl (cI, 1920, .inl (upd wf x_9.toNatClampNeg 0)))] := hD
            obtain ⟨x_10, ex_10⟩ : ∃ y : Int32, y = ik + 1 := ⟨_, rfl⟩
            refine lv_iinc (v := x_10) (lv' := [(3, .int x_10), (2, .int 0), (0, .ref m0), (1, .int a0)]) hx hb dX6_chart_53 hl (k := 0) rfl (by rw [ex_10]; rfl) (by decide) rfl (fun ls hl => ?_)
            refine lv_goto (tgt := 33) hx hb dX6_chart_56 (by decide) ?_
            have qtx_9 := tx_9
            (try simp only [Int32.lt_iff_toInt_lt, Int32.le_iff_toInt_le, ← Int32.toInt_inj, Int32.reduceToInt] at qtx_9)
            have qex_10 := ex_10
            (try simp only [Int32.lt_iff_toInt_lt, Int32.le_iff_toInt_le, ← Int32.toInt_inj, Int32.reduceToInt] at qex_10)
            exact ih (i + 1) x_10 (upd wf x_9.toNatClampNeg 0) H locs ls (by rw [ex_10, eik]; exact nI_1 i) (by omega) (by omega) hP hD hS (lv_sub hl [0, 1, 2, 3] rfl)
      exact key (160 + 1) 0 0 (fun _ => 0) _ _ ls nI_0.symm (by omega) (by omega) hP hD hS hl
    · skip
      exact absurd (by decide) c_6
  · skip
    have b_11 := b01z k_2 c_3
    refine lv_iconst (v := (-1)) hx hb dX6_chart_7 (by decide) ?_
    exact W.iret (v := (-1)) hx hb hr (fun t ht hW => ⟨⟨(-1), (), rfl, (by first | rfl | trivial | (simp only [Int32.lt_iff_toInt_lt, Int32.le_iff_toInt_le, ← Int32.toInt_inj, Int32.reduceToInt] at b_11 ⊢; (repeat' split) <;> first | rfl | omega) | (simp only [Int32.lt_iff_toInt_lt, Int32.le_iff_toInt_le, ← Int32.toInt_inj, Int32.reduceToInt] at *; omega) | grind), trivial⟩, hS.F ht⟩) hS.2.2 dX6_chart_8
