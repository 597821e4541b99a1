/-- a sum of two ints, as longs, that isn't above 160 -/
theorem lcmp_add {a b : Int32} {u v w : Int64} {x : Int32} (hx : x = lg_cmp w 160) (hn : ¬ 0 < x) (hu : u = a.toInt64) (hv : v = b.toInt64) (hw : w = u + v) : a.toInt + b.toInt ≤ 160 := by
  subst hu hv hw
  have hle : ¬ (a.toInt64 + b.toInt64 > 160) := by
    intro h
    apply hn
    rw [hx]
    unfold lg_cmp
    rw [if_pos h]
    decide
  have h2 : (a.toInt64 + b.toInt64).toInt ≤ (160 : Int64).toInt := Int64.le_iff_toInt_le.mp (Int64.not_lt.mp hle)
  have ha := Int32.toInt_lt a
  have ha2 := Int32.le_toInt a
  have hb := Int32.toInt_lt b
  have hb2 := Int32.le_toInt b
  rw [Int64.toInt_add, Int32.toInt_toInt64, Int32.toInt_toInt64] at h2
  have h3 : (a.toInt + b.toInt).bmod (2 ^ 64) = a.toInt + b.toInt := Int.bmod_eq_of_le (by omega) (by omega)
  rw [h3] at h2
  exact h2
theorem upto_step {f : Nat → Int32} {i : Int32} {v : Int32} {lo hi : Int} (h : ∀ j : Nat, (j : Int) < i.toInt → lo ≤ (f j).toInt ∧ (f j).toInt ≤ hi) (hi0 : 0 ≤ i.toInt) (l : lo ≤ v.toInt) (u : v.toInt ≤ hi) : ∀ j : Nat, (j : Int) < i.toInt + 1 → lo ≤ (upd f i.toNatClampNeg v j).toInt ∧ (upd f i.toNatClampNeg v j).toInt ≤ hi := fun j hj => by
  have hk : (i.toNatClampNeg : Int) = i.toInt := Int.toNat_of_nonneg hi0
  by_cases e : j = i.toNatClampNeg
  · subst e; simp only [upd, if_pos]; exact ⟨l, u⟩
  · rw [upd_off f v e]; exact h j (by omega)
set_option maxRecDepth 20000 in
theorem iw_X6_copy_X6 : ∀ w ∈ wsX60, w ∈ wsX6_copy := by decide +kernel
set_option maxHeartbeats 4000000 in
set_option maxRecDepth 100000 in
/-- reference: copy -/
theorem c_X6_copy (l : Launch) (dC : Nat → ClassId) (dI : Nat → Nat → Nat) (sz : Nat) (m0 : Nat) (mfi : Nat) (mil : Nat) (mic : Nat) (mwi : Nat) (mmo : Nat) (mki : Nat) (mce : Nat) (mgo : Nat) (mwa : Nat) (mha : Nat) (mch : Nat) (mfo : Nat) (mca : Nat) (mor : Nat) (mro : Nat) (mra : Nat) (mpr : Nat) (mho : Nat) (mis : Nat) (mss : Nat) (msc : Nat) (msh : Nat) (vfi : Int32) (vhr : Int32) (vho : Int32) (vga : Int32) (vns : Int32) (vsg : Int32) (vpr : Int32) (vfa : Int32) (vak : Int64) (Kic : Nat → Int32) (Kwi : Nat → Int32) (Kmo : Nat → Int32) (Kfi : Nat → Int32) (cI : ClassId) (cZ : ClassId) (a0 : Int32) (a1 : Int32) (a2 : Int32) (a3 : Int32) (a4 : Int32) (R_Kwi : Rg 1920 (-128) 127 Kwi) : Met l yX6_copy wsX6_copy ({ frames := 2, cells := 0, slots := 0, locals := 42 }) (va_Pc [.ref m0, .int a0, .int a1, .int a2, .int a3, .int a4] (fun U => U.heap.size = sz ∧ va_P (dC, dI) vwCl [(m0, .inr (7, [.int vfi, .ref mfi, .long vak, .int vhr, .ref mil, .ref mic, .ref mwi, .int vho, .int vga, .ref mmo, .int vns, .ref mki, .ref mce, .ref mgo, .ref mwa, .ref mha, .ref mch, .ref mfo, .ref mca, .ref mor, .ref mro, .ref mra, .ref mpr, .ref mho, .ref mis, .int vsg, .ref mss, .ref msc, .ref msh, .int vpr, .int vfa])), (mic, .inl (cZ, 12, .inl Kic)), (mwi, .inl (cI, 1920, .inl Kwi)), (mmo, .inl (cI, 160, .inl Kmo)), (mfi, .inl (cI, 6, .inl Kfi))] U.heap ∧ va_K (dC, dI) vwCl [(cI, .int), (cZ, .boolean)] U ∧ NW U ∧ va_D (fun _ => True) [(m0, .inr (7, [.int vfi, .ref mfi, .long vak, .int vhr, .ref mil, .ref mic, .ref mwi, .int vho, .int vga, .ref mmo, .int vns, .ref mki, .ref mce, .ref mgo, .ref mwa, .ref mha, .ref mch, .ref mfo, .ref mca, .ref mor, .ref mro, .ref mra, .ref mpr, .ref mho, .ref mis, .int vsg, .ref mss, .ref msc, .ref msh, .int vpr, .int vfa])), (mic, .inl (cZ, 12, .inl Kic)), (mwi, .inl (cI, 1920, .inl Kwi)), (mmo, .inl (cI, 160, .inl Kmo)), (mfi, .inl (cI, 6, .inl Kfi))])) (va_Qi (fun (r : Int32) (u : Int32 × (Nat → Int32) × (Nat → Int32) × (Nat → Int32)) => (Rg 1920 (-128) 127 u.2.2.1)) (fun u t => va_P (dC, dI) vwCl [(m0, .inr (7, [.int u.1, .ref mfi, .long vak, .int vhr, .ref mil, .ref mic, .ref mwi, .int vho, .int vga, .ref mmo, .int vns, .ref mki, .ref mce, .ref mgo, .ref mwa, .ref mha, .ref mch, .ref mfo, .ref mca, .ref mor, .ref mro, .ref mra, .ref mpr, .ref mho, .ref mis, .int vsg, .ref mss, .ref msc, .ref msh, .int vpr, .int vfa])), (mic, .inl (cZ, 12, .inl Kic)), (mwi, .inl (cI, 1920, .inl u.2.2.1)), (mmo, .inl (cI, 160, .inl u.2.2.2)), (mfi, .inl (cI, 6, .inl u.2.1))] t.heap ∧ va_K (dC, dI) vwCl [(cI, .int), (cZ, .boolean)] t ∧ va_D (va_A [(m0, .inr (7, [.int vfi, .ref mfi, .long vak, .int vhr, .ref mil, .ref mic, .ref mwi, .int vho, .int vga, .ref mmo, .int vns, .ref mki, .ref mce, .ref mgo, .ref mwa, .ref mha, .ref mch, .ref mfo, .ref mca, .ref mor, .ref mro, .ref mra, .ref mpr, .ref mho, .ref mis, .int vsg, .ref mss, .ref msc, .ref msh, .int vpr, .int vfa])), (mic, .inl (cZ, 12, .inl Kic)), (mwi, .inl (cI, 1920, .inl Kwi)), (mmo, .inl (cI, 160, .inl Kmo)), (mfi, .inl (cI, 6, .inl Kfi))] sz) [(m0, .inr (7, [.int u.1, .ref mfi, .long vak, .int vhr, .ref mil, .ref mic, .ref mwi, .int vho, .int vga, .ref mmo, .int vns, .ref mki, .ref mce, .ref mgo, .ref mwa, .ref mha, .ref mch, .ref mfo, .ref mca, .ref mor, .ref mro, .ref mra, .ref mpr, .ref mho, .ref mis, .int vsg, .ref mss, .ref msc, .ref msh, .int vpr, .int vfa])), (mic, .inl (cZ, 12, .inl Kic)), (mwi, .inl (cI, 1920, .inl u.2.2.1)), (mmo, .inl (cI, 160, .inl u.2.2.2)), (mfi, .inl (cI, 6, .inl u.2.1))]) (va_A [(m0, .inr (7, [.int vfi, .ref mfi, .long vak, .int vhr, .ref mil, .ref mic, .ref mwi, .int vho, .int vga, .ref mmo, .int vns, .ref mki, .ref mce, .ref mgo, .ref mwa, .ref mha, .ref mch, .ref mfo, .ref mca, .ref mor, .ref mro, .ref mra, .ref mpr, .ref mho, .ref mis, .int vsg, .ref mss, .ref msc, .ref msh, .int vpr, .int vfa])), (mic, .inl (cZ, 12, .inl Kic)), (mwi, .inl (cI, 1920, .inl Kwi)), (mmo, .inl (cI, 160, .inl Kmo)), (mfi, .inl (cI, 6, .inl Kfi))] sz)) 0 0 (va_A [(m0, .inr (7, [.int vfi, .ref mfi, .long vak, .int vhr, .ref mil, .ref mic, .ref mwi, .int vho, .int vga, .ref mmo, .int vns, .ref mki, .ref mce, .ref mgo, .ref mwa, .ref mha, .ref mch, .ref mfo, .ref mca, .ref mor, .ref mro, .ref mra, .ref mpr, .ref mho, .ref mis, .int vsg, .ref mss, .ref msc, .ref msh, .int vpr, .int vfa])), (mic, .inl (cZ, 12, .inl Kic)), (mwi, .inl (cI, 1920, .inl Kwi)), (mmo, .inl (cI, 160, .inl Kmo)), (mfi, .inl (cI, 6, .inl Kfi))] sz) := by
  refine Met.ofW (cc := cX6_copy) (maxL := 7) (ret := (some .int)) (by decide) rfl ?_
  intro p e s m args below meth c s₁ B hml hv
  obtain ⟨rfl, hsz, hP, hK, hN, hD0⟩ := hv
  have hx := B.exec
  have hb := B.bytes
  have hr := B.returns
  have hts := atoms_spec (ws := wsX6_copy) B.pre
  have hown : s.vm.findClass RX6 = some m.cls := findClass_of_methodNamed B.named
  have hlocks := B.notSynchronized
  subst hsz
  have hD := hD0.self (sz := s.heap.size)
  generalize hAe : va_A [(m0, .inr (7, [.int vfi, .ref mfi, .long vak, .int vhr, .ref mil, .ref mic, .ref mwi, .int vho, .int vga, .ref mmo, .int vns, .ref mki, .ref mce, .ref mgo, .ref mwa, .ref mha, .ref mch, .ref mfo, .ref mca, .ref mor, .ref mro, .ref mra, .ref mpr, .ref mho, .ref mis, .int vsg, .ref mss, .ref msc, .ref msh, .int vpr, .int vfa])), (mic, .inl (cZ, 12, .inl Kic)), (mwi, .inl (cI, 1920, .inl Kwi)), (mmo, .inl (cI, 160, .inl Kmo)), (mfi, .inl (cI, 6, .inl Kfi))] s.heap.size = A at hD ⊢
  have hA : ∀ q : Nat, s.heap.size ≤ q → A q := fun q h => by rw [← hAe]; exact Or.inr h
  have hS : va_S A s.heap s.heap [] := va_S.rf
  have hP : va_P (dC, dI) vwCl [(m0, .inr (7, [.int vfi, .ref mfi, .long vak, .int vhr, .ref mil, .ref mic, .ref mwi, .int vho, .int vga, .ref mmo, .int vns, .ref mki, .ref mce, .ref mgo, .ref mwa, .ref mha, .ref mch, .ref mfo, .ref mca, .ref mor, .ref mro, .ref mra, .ref mpr, .ref mho, .ref mis, .int vsg, .ref mss, .ref msc, .ref msh, .int vpr, .int vfa])), (mic, .inl (cZ, 12, .inl Kic)), (mwi, .inl (cI, 1920, .inl Kwi)), (mmo, .inl (cI, 160, .inl Kmo)), (mfi, .inl (cI, 6, .inl Kfi))] s.heap := hP
  have hl := lv_entry ([.ref m0, .int a0, .int a1, .int a2, .int a3, .int a4]) (n := 7) (Nat.le_of_ble_eq_true rfl)
  rw [lg_entry_eq]
  generalize (lg_sl ([.ref m0, .int a0, .int a1, .int a2, .int a3, .int a4]) ++ List.replicate (7 - (lg_sl ([.ref m0, .int a0, .int a1, .int a2, .int a3, .int a4])).length) Slot.unset).toArray = ls at hl ⊢
  have hl : lv_has ls 7 [(0, .ref m0), (1, .int a0), (2, .int a1), (3, .int a2), (4, .int a3), (5, .int a4)] := hl
  refine lv_iload_n hx hb dX6_copy_0 rfl (lv_at hl 1 rfl) ?_
  refine va_calli (va_runS (As := [.int a0]) (rest := []) ⟨hx, hb, hml, hown, hts⟩ (c_X6_isMonth l s.heap.size a0 ) (va_cwS 1 hts gX6_copy_X6_isMonth rfl rfl rfl (by decide +kernel) ⟨Nat.le_of_ble_eq_true rfl, Nat.le_of_ble_eq_true rfl⟩) ⟨fun a U g mk q => by obtain ⟨q0, q1⟩ := q; exact ⟨q0, q1⟩, fun U hU hW => ⟨rfl, congrArg Array.size hU⟩⟩ rfl rfl hl.1 rfl (lv_room (Nat.le_of_ble_eq_true rfl)) dX6_copy_1 ⟨(Nat.zero_le _), (Nat.zero_le _)⟩) hS (fun q _ h => ro_A hS hA q h) (ro_A hS hA) (fun r_1 u t H1 locs ht hvm k_2 hB hz1 hk1 hS => ?_)
  have hP := ro_P hk1 hP
  generalize H1 = H at hP hS ⊢
  try dsimp only at k_2
  obtain ⟨k_2, k_3⟩ := k_2
  refine lv_if_eq (tgt := 14) hx hb dX6_copy_4 (by decide) (fun c_4 => ?_) (fun c_4 => ?_)
  · skip
    have b_5 := b01z k_2 c_4
    (try simp only [Int32.lt_iff_toInt_lt, Int32.le_iff_toInt_le, ← Int32.toInt_inj, Int32.reduceToInt, zl1, zl2, zl3, zl4, zl9] at b_5)
    (try simp only [Int32.reduceToInt] at b_5)
    refine lv_iconst (v := (-1)) hx hb dX6_copy_14 (by decide) ?_
    have hP9 := hP.sub (ws' := [(m0, .inr (7, [.int vfi, .ref mfi, .long vak, .int vhr, .ref mil, .ref mic, .ref mwi, .int vho, .int vga, .ref mmo, .int vns, .ref mki, .ref mce, .ref mgo, .ref mwa, .ref mha, .ref mch, .ref mfo, .ref mca, .ref mor, .ref mro, .ref mra, .ref mpr, .ref mho, .ref mis, .int vsg, .ref mss, .ref msc, .ref msh, .int vpr, .int vfa])), (mic, .inl (cZ, 12, .inl Kic)), (mwi, .inl (cI, 1920, .inl Kwi)), (mmo, .inl (cI, 160, .inl Kmo)), (mfi, .inl (cI, 6, .inl Kfi))]) [0, 1, 2, 3, 4] rfl
    have hD9 := hD.sub (ws' := [(m0, .inr (7, [.int vfi, .ref mfi, .long vak, .int vhr, .ref mil, .ref mic, .ref mwi, .int vho, .int vga, .ref mmo, .int vns, .ref mki, .ref mce, .ref mgo, .ref mwa, .ref mha, .ref mch, .ref mfo, .ref mca, .ref mor, .ref mro, .ref mra, .ref mpr, .ref mho, .ref mis, .int vsg, .ref mss, .ref msc, .ref msh, .int vpr, .int vfa])), (mic, .inl (cZ, 12, .inl Kic)), (mwi, .inl (cI, 1920, .inl Kwi)), (mmo, .inl (cI, 160, .inl Kmo)), (mfi, .inl (cI, 6, .inl Kfi))]) [0, 1, 2, 3, 4] (by decide) rfl
    have hK9 := hK.sub (tys' := [(cI, .int), (cZ, .boolean)]) [0, 1] rfl
    have hv9 : (-1 : Int32).toInt = (-1) := by decide
    exact W.iret (v := (-1)) hx hb hr (fun t ht hW => ⟨⟨(-1), (vfi, Kfi, Kwi, Kmo), rfl, (show Rg 1920 (-128) 127 Kwi from R_Kwi), ⟨by rw [ht]; exact hP9, va_K.moved hW.alike hK9, hD9⟩⟩, hS.F ht⟩) hS.2.2 dX6_copy_15
  · skip
    have b_6 := b01n k_2 c_4
    (try simp only [Int32.lt_iff_toInt_lt, Int32.le_iff_toInt_le, ← Int32.toInt_inj, Int32.reduceToInt, zl1, zl2, zl3, zl4, zl9] at b_6)
    (try simp only [Int32.reduceToInt] at b_6)
    refine lv_iload_n hx hb dX6_copy_7 rfl (lv_at hl 3 rfl) ?_
    refine va_calli (va_runS (As := [.int a2]) (rest := []) ⟨hx, hb, hml, hown, hts⟩ (c_X6_isMonth l H.size a2 ) (va_cwS 1 hts gX6_copy_X6_isMonth rfl rfl rfl (by decide +kernel) ⟨Nat.le_of_ble_eq_true rfl, Nat.le_of_ble_eq_true rfl⟩) ⟨fun a U g mk q => by obtain ⟨q0, q1⟩ := q; exact ⟨q0, q1⟩, fun U hU hW => ⟨rfl, congrArg Array.size hU⟩⟩ rfl rfl hl.1 rfl (lv_room (Nat.le_of_ble_eq_true rfl)) dX6_copy_8 ⟨(Nat.zero_le _), (Nat.zero_le _)⟩) hS (fun q _ h => ro_A hS hA q h) (ro_A hS hA) (fun r_7 u t H1 locs ht hvm k_8 hB hz1 hk1 hS => ?_)
    have hP := ro_P hk1 hP
    generalize H1 = H at hP hS ⊢
    try dsimp only at k_8
    obtain ⟨k_8, k_9⟩ := k_8
    refine lv_if_ne (tgt := 16) hx hb dX6_copy_11 (by decide) (fun c_10 => ?_) (fun c_10 => ?_)
    · skip
      have b_11 := b01n k_8 c_10
      (try simp only [Int32.lt_iff_toInt_lt, Int32.le_iff_toInt_le, ← Int32.toInt_inj, Int32.reduceToInt, zl1, zl2, zl3, zl4, zl9] at b_11)
      (try simp only [Int32.reduceToInt] at b_11)
      refine lv_iload hx hb dX6_copy_16 (lv_at hl 5 rfl) ?_
      refine lv_if_ge (tgt := 27) hx hb dX6_copy_18 (by decide) (fun c_12 => ?_) (fun c_12 => ?_)
      · skip
        have qc_12 : 0 ≤ a4.toInt := le_k (by decide) rfl c_12
        refine lv_aload_n hx hb dX6_copy_27 rfl (lv_at hl 0 rfl) ?_
        refine va_get (D := (dC, dI)) (ci := 7) (v := .ref mic) (C := RX6) (T := TX6) (N := 31) hx hb hts iw_X6_copy_X6 hown hK hP 0 rfl rfl 5 (by decide) (hts (.fieldLink RX6 17 "TeaRaceModel" "isChart" "[Z") (by decide +kernel)) (fun _ h9 => h9) rfl dX6_copy_28 ?_
        refine lv_iload_n hx hb dX6_copy_31 rfl (lv_at hl 1 rfl) ?_
        refine va_zald hx hb hK hP 1 1 rfl rfl (in_k rfl (by omega) (by omega)) dX6_copy_32 ?_
        refine lv_topi (fun x_13 ex_13 => ?_)
        have rx_13 := congrArg Int32.toInt ex_13
        refine lv_if_eq (tgt := 45) hx hb dX6_copy_33 (by decide) (fun c_14 => ?_) (fun c_14 => ?_)
        · skip
          have qc_14 : x_13.toInt = 0 := eq_k rfl (by decide) c_14
          refine lv_aload_n hx hb dX6_copy_45 rfl (lv_at hl 0 rfl) ?_
          refine lv_iconst (v := 1) hx hb dX6_copy_46 (by decide) ?_
          have hPc := hP.sub (ws' := [(m0, .inr (7, [.int vfi, .ref mfi, .long vak, .int vhr, .ref mil, .ref mic, .ref mwi, .int vho, .int vga, .ref mmo, .int vns, .ref mki, .ref mce, .ref mgo, .ref mwa, .ref mha, .ref mch, .ref mfo, .ref mca, .ref mor, .ref mro, .ref mra, .ref mpr, .ref mho, .ref mis, .int vsg, .ref mss, .ref msc, .ref msh, .int vpr, .int vfa])), (mfi, .inl (cI, 6, .inl Kfi))]) [0, 4] rfl
          have hDc := hD.sub (ws' := [(m0, .inr (7, [.int vfi, .ref mfi, .long vak, .int vhr, .ref mil, .ref mic, .ref mwi, .int vho, .int vga, .ref mmo, .int vns, .ref mki, .ref mce, .ref mgo, .ref mwa, .ref mha, .ref mch, .ref mfo, .ref mca, .ref mor, .ref mro, .ref mra, .ref mpr, .ref mho, .ref mis, .int vsg, .ref mss, .ref msc, .ref msh, .int vpr, .int vfa])), (mfi, .inl (cI, 6, .inl Kfi))]) [0, 4] (by decide) rfl
          have hKc := hK.sub (tys' := [(cI, .int)]) [0] rfl
          have hFc := va_free (wc := [(m0, .inr (7, [.int vfi, .ref mfi, .long vak, .int vhr, .ref mil, .ref mic, .ref mwi, .int vho, .int vga, .ref mmo, .int vns, .ref mki, .ref mce, .ref mgo, .ref mwa, .ref mha, .ref mch, .ref mfo, .ref mca, .ref mor, .ref mro, .ref mra, .ref mpr, .ref mho, .ref mis, .int vsg, .ref mss, .ref msc, .ref msh, .int vpr, .int vfa])), (mfi, .inl (cI, 6, .inl Kfi))]) hD hS hA [0, 4] rfl
          refine va_calli (va_runV (As := [.int 1]) (rest := []) ⟨hx, hb, hml, hown, hts⟩ (c_X6_meets l dC dI H.size m0 mfi mil mic mwi mmo mki mce mgo mwa mha mch mfo mca mor mro mra mpr mho mis mss msc msh vfi vhr vho vga vns vsg vpr vfa vak Kfi cI 1 (by decide)) (cwV 1 hts gX6_copy_X6_meets rfl rfl rfl (by decide +kernel) ⟨Nat.le_of_ble_eq_true rfl, Nat.le_of_ble_eq_true rfl⟩) ⟨fun a U g mk q => by obtain ⟨q0, q1, qP, qK, qN, qD⟩ := q; exact ⟨q0, q1, qP, va_K.moved (u := U) (U := U.calling g mk a) (Vm.Alike.refl U.vm) qK, NW.same (u := U) (U := U.calling g mk a) rfl qN, qD⟩, va_recv hKc hPc (ci := 7) (q0 := 0) rfl rfl, fun U hU hW => ⟨rfl, by rw [hU], by rw [hU]; exact hPc, va_K.moved hW.alike hKc, NW.warm hW hN, hDc.weaken (fun _ _ _ _ => trivial)⟩⟩ rfl rfl hl.1 rfl (lv_room (Nat.le_of_ble_eq_true rfl)) dX6_copy_47 ⟨(Nat.zero_le _), (Nat.zero_le _)⟩) hS (fun q _ h => hFc q h) hFc (fun r_15 u t H1 locs ht hvm k_16 hB hz1 hk1 hS => ?_)
          obtain ⟨u_17, eu_17⟩ : ∃ z, z = u := ⟨_, rfl⟩
          subst eu_17
          obtain ⟨hP1, hK1, hD1⟩ := hB
          rw [ht] at hP1
          have hK1 := va_K.moved hvm.symm hK1
          obtain ⟨hP, hD⟩ := va_join (wr := [(mic, .inl (cZ, 12, .inl Kic)), (mwi, .inl (cI, 1920, .inl Kwi)), (mmo, .inl (cI, 160, .inl Kmo))]) (w1 := [(m0, .inr (7, [.int 1, .ref mfi, .long vak, .int vhr, .ref mil, .ref mic, .ref mwi, .int vho, .int vga, .ref mmo, .int vns, .ref mki, .ref mce, .ref mgo, .ref mwa, .ref mha, .ref mch, .ref mfo, .ref mca, .ref mor, .ref mro, .ref mra, .ref mpr, .ref mho, .ref mis, .int vsg, .ref mss, .ref msc, .ref msh, .int vpr, .int vfa])), (mfi, .inl (cI, 6, .inl u_17))]) hP hD [0, 4] [1, 2, 3] rfl rfl (by decide) (by decide) hk1 hFc hP1 hD1
          generalize H1 = H at hP hS ⊢
          have hP : va_P (dC, dI) vwCl [(mic, .inl (cZ, 12, .inl Kic)), (mwi, .inl (cI, 1920, .inl Kwi)), (mmo, .inl (cI, 160, .inl Kmo)), (m0, .inr (7, [.int 1, .ref mfi, .long vak, .int vhr, .ref mil, .ref mic, .ref mwi, .int vho, .int vga, .ref mmo, .int vns, .ref mki, .ref mce, .ref mgo, .ref mwa, .ref mha, .ref mch, .ref mfo, .ref mca, .ref mor, .ref mro, .ref mra, .ref mpr, .ref mho, .ref mis, .int vsg, .ref mss, .ref msc, .ref msh, .int vpr, .int vfa])), (mfi, .inl (cI, 6, .inl u_17))] H := hP
          have hD : va_D A [(mic, .inl (cZ, 12, .inl Kic)), (mwi, .inl (cI, 1920, .inl Kwi)), (mmo, .inl (cI, 160, .inl Kmo)), (m0, .inr (7, [.int 1, .ref mfi, .long vak, .int vhr, .ref mil, .ref mic, .ref mwi, .int vho, .int vga, .ref mmo, .int vns, .ref mki, .ref mce, .ref mgo, .ref mwa, .ref mha, .ref mch, .ref mfo, .ref mca, .ref mor, .ref mro, .ref mra, .ref mpr, .ref mho, .ref mis, .int vsg, .ref mss, .ref msc, .ref msh, .int vpr, .int vfa])), (mfi, .inl (cI, 6, .inl u_17))] := hD
          try dsimp only at k_16
          obtain ⟨k_16, k_18⟩ := k_16
          obtain rfl : r_15 = (-3) := k_16
          have hP9 := hP.sub (ws' := [(m0, .inr (7, [.int 1, .ref mfi, .long vak, .int vhr, .ref mil, .ref mic, .ref mwi, .int vho, .int vga, .ref mmo, .int vns, .ref mki, .ref mce, .ref mgo, .ref mwa, .ref mha, .ref mch, .ref mfo, .ref mca, .ref mor, .ref mro, .ref mra, .ref mpr, .ref mho, .ref mis, .int vsg, .ref mss, .ref msc, .ref msh, .int vpr, .int vfa])), (mic, .inl (cZ, 12, .inl Kic)), (mwi, .inl (cI, 1920, .inl Kwi)), (mmo, .inl (cI, 160, .inl Kmo)), (mfi, .inl (cI, 6, .inl u_17))]) [3, 0, 1, 2, 4] rfl
          have hD9 := hD.sub (ws' := [(m0, .inr (7, [.int 1, .ref mfi, .long vak, .int vhr, .ref mil, .ref mic, .ref mwi, .int vho, .int vga, .ref mmo, .int vns, .ref mki, .ref mce, .ref mgo, .ref mwa, .ref mha, .ref mch, .ref mfo, .ref mca, .ref mor, .ref mro, .ref mra, .ref mpr, .ref mho, .ref mis, .int vsg, .ref mss, .ref msc, .ref msh, .int vpr, .int vfa])), (mic, .inl (cZ, 12, .inl Kic)), (mwi, .inl (cI, 1920, .inl Kwi)), (mmo, .inl (cI, 160, .inl Kmo)), (mfi, .inl (cI, 6, .inl u_17))]) [3, 0, 1, 2, 4] (by decide) rfl
          have hK9 := hK.sub (tys' := [(cI, .int), (cZ, .boolean)]) [0, 1] rfl
          have hv9 : (-3 : Int32).toInt = (-3) := by decide
          exact W.iret (v := (-3)) hx hb hr (fun t ht hW => ⟨⟨(-3), (1, u_17, Kwi, Kmo), rfl, (show Rg 1920 (-128) 127 Kwi from R_Kwi), ⟨by rw [ht]; exact hP9, va_K.moved hW.alike hK9, hD9⟩⟩, hS.F ht⟩) hS.2.2 dX6_copy_50
        · skip
          have qc_14 : x_13.toInt ≠ 0 := ne_k rfl (by decide) c_14
          refine lv_aload_n hx hb dX6_copy_36 rfl (lv_at hl 0 rfl) ?_
          refine va_get (D := (dC, dI)) (ci := 7) (v := .ref mic) (C := RX6) (T := TX6) (N := 31) hx hb hts iw_X6_copy_X6 hown hK hP 0 rfl rfl 5 (by decide) (hts (.fieldLink RX6 17 "TeaRaceModel" "isChart" "[Z") (by decide +kernel)) (fun _ h9 => h9) rfl dX6_copy_37 ?_
          refine lv_iload_n hx hb dX6_copy_40 rfl (lv_at hl 3 rfl) ?_
          refine va_zald hx hb hK hP 1 1 rfl rfl (in_k rfl (by omega) (by omega)) dX6_copy_41 ?_
          refine lv_topi (fun x_19 ex_19 => ?_)
          have rx_19 := congrArg Int32.toInt ex_19
          refine lv_if_ne (tgt := 51) hx hb dX6_copy_42 (by decide) (fun c_20 => ?_) (fun c_20 => ?_)
          · skip
            have qc_20 : x_19.toInt ≠ 0 := ne_k rfl (by decide) c_20
            refine lv_iload_n hx hb dX6_copy_51 rfl (lv_at hl 2 rfl) ?_
            refine lv_if_lt (tgt := 87) hx hb dX6_copy_52 (by decide) (fun c_21 => ?_) (fun c_21 => ?_)
            · skip
              have qc_21 : a1.toInt < 0 := lt_k rfl (by decide) c_21
              refine lv_aload_n hx hb dX6_copy_87 rfl (lv_at hl 0 rfl) ?_
              refine lv_iconst (v := 2) hx hb dX6_copy_88 (by decide) ?_
              have hPc := hP.sub (ws' := [(m0, .inr (7, [.int vfi, .ref mfi, .long vak, .int vhr, .ref mil, .ref mic, .ref mwi, .int vho, .int vga, .ref mmo, .int vns, .ref mki, .ref mce, .ref mgo, .ref mwa, .ref mha, .ref mch, .ref mfo, .ref mca, .ref mor, .ref mro, .ref mra, .ref mpr, .ref mho, .ref mis, .int vsg, .ref mss, .ref msc, .ref msh, .int vpr, .int vfa])), (mfi, .inl (cI, 6, .inl Kfi))]) [0, 4] rfl
              have hDc := hD.sub (ws' := [(m0, .inr (7, [.int vfi, .ref mfi, .long vak, .int vhr, .ref mil, .ref mic, .ref mwi, .int vho, .int vga, .ref mmo, .int vns, .ref mki, .ref mce, .ref mgo, .ref mwa, .ref mha, .ref mch, .ref mfo, .ref mca, .ref mor, .ref mro, .ref mra, .ref mpr, .ref mho, .ref mis, .int vsg, .ref mss, .ref msc, .ref msh, .int vpr, .int vfa])), (mfi, .inl (cI, 6, .inl Kfi))]) [0, 4] (by decide) rfl
              have hKc := hK.sub (tys' := [(cI, .int)]) [0] rfl
              have hFc := va_free (wc := [(m0, .inr (7, [.int vfi, .ref mfi, .long vak, .int vhr, .ref mil, .ref mic, .ref mwi, .int vho, .int vga, .ref mmo, .int vns, .ref mki, .ref mce, .ref mgo, .ref mwa, .ref mha, .ref mch, .ref mfo, .ref mca, .ref mor, .ref mro, .ref mra, .ref mpr, .ref mho, .ref mis, .int vsg, .ref mss, .ref msc, .ref msh, .int vpr, .int vfa])), (mfi, .inl (cI, 6, .inl Kfi))]) hD hS hA [0, 4] rfl
              refine va_calli (va_runV (As := [.int 2]) (rest := []) ⟨hx, hb, hml, hown, hts⟩ (c_X6_meets l dC dI H.size m0 mfi mil mic mwi mmo mki mce mgo mwa mha mch mfo mca mor mro mra mpr mho mis mss msc msh vfi vhr vho vga vns vsg vpr vfa vak Kfi cI 2 (by decide)) (cwV 1 hts gX6_copy_X6_meets rfl rfl rfl (by decide +kernel) ⟨Nat.le_of_ble_eq_true rfl, Nat.le_of_ble_eq_true rfl⟩) ⟨fun a U g mk q => by obtain ⟨q0, q1, qP, qK, qN, qD⟩ := q; exact ⟨q0, q1, qP, va_K.moved (u := U) (U := U.calling g mk a) (Vm.Alike.refl U.vm) qK, NW.same (u := U) (U := U.calling g mk a) rfl qN, qD⟩, va_recv hKc hPc (ci := 7) (q0 := 0) rfl rfl, fun U hU hW => ⟨rfl, by rw [hU], by rw [hU]; exact hPc, va_K.moved hW.alike hKc, NW.warm hW hN, hDc.weaken (fun _ _ _ _ => trivial)⟩⟩ rfl rfl hl.1 rfl (lv_room (Nat.le_of_ble_eq_true rfl)) dX6_copy_89 ⟨(Nat.zero_le _), (Nat.zero_le _)⟩) hS (fun q _ h => hFc q h) hFc (fun r_22 u t H1 locs ht hvm k_23 hB hz1 hk1 hS => ?_)
              obtain ⟨u_24, eu_24⟩ : ∃ z, z = u := ⟨_, rfl⟩
              subst eu_24
              obtain ⟨hP1, hK1, hD1⟩ := hB
              rw [ht] at hP1
              have hK1 := va_K.moved hvm.symm hK1
              obtain ⟨hP, hD⟩ := va_join (wr := [(mic, .inl (cZ, 12, .inl Kic)), (mwi, .inl (cI, 1920, .inl Kwi)), (mmo, .inl (cI, 160, .inl Kmo))]) (w1 := [(m0, .inr (7, [.int 2, .ref mfi, .long vak, .int vhr, .ref mil, .ref mic, .ref mwi, .int vho, .int vga, .ref mmo, .int vns, .ref mki, .ref mce, .ref mgo, .ref mwa, .ref mha, .ref mch, .ref mfo, .ref mca, .ref mor, .ref mro, .ref mra, .ref mpr, .ref mho, .ref mis, .int vsg, .ref mss, .ref msc, .ref msh, .int vpr, .int vfa])), (mfi, .inl (cI, 6, .inl u_24))]) hP hD [0, 4] [1, 2, 3] rfl rfl (by decide) (by decide) hk1 hFc hP1 hD1
              generalize H1 = H at hP hS ⊢
              have hP : va_P (dC, dI) vwCl [(mic, .inl (cZ, 12, .inl Kic)), (mwi, .inl (cI, 1920, .inl Kwi)), (mmo, .inl (cI, 160, .inl Kmo)), (m0, .inr (7, [.int 2, .ref mfi, .long vak, .int vhr, .ref mil, .ref mic, .ref mwi, .int vho, .int vga, .ref mmo, .int vns, .ref mki, .ref mce, .ref mgo, .ref mwa, .ref mha, .ref mch, .ref mfo, .ref mca, .ref mor, .ref mro, .ref mra, .ref mpr, .ref mho, .ref mis, .int vsg, .ref mss, .ref msc, .ref msh, .int vpr, .int vfa])), (mfi, .inl (cI, 6, .inl u_24))] H := hP
              have hD : va_D A [(mic, .inl (cZ, 12, .inl Kic)), (mwi, .inl (cI, 1920, .inl Kwi)), (mmo, .inl (cI, 160, .inl Kmo)), (m0, .inr (7, [.int 2, .ref mfi, .long vak, .int vhr, .ref mil, .ref mic, .ref mwi, .int vho, .int vga, .ref mmo, .int vns, .ref mki, .ref mce, .ref mgo, .ref mwa, .ref mha, .ref mch, .ref mfo, .ref mca, .ref mor, .ref mro, .ref mra, .ref mpr, .ref mho, .ref mis, .int vsg, .ref mss, .ref msc, .ref msh, .int vpr, .int vfa])), (mfi, .inl (cI, 6, .inl u_24))] := hD
              try dsimp only at k_23
              obtain ⟨k_23, k_25⟩ := k_23
              obtain rfl : r_22 = (-3) := k_23
              have hP9 := hP.sub (ws' := [(m0, .inr (7, [.int 2, .ref mfi, .long vak, .int vhr, .ref mil, .ref mic, .ref mwi, .int vho, .int vga, .ref mmo, .int vns, .ref mki, .ref mce, .ref mgo, .ref mwa, .ref mha, .ref mch, .ref mfo, .ref mca, .ref mor, .ref mro, .ref mra, .ref mpr, .ref mho, .ref mis, .int vsg, .ref mss, .ref msc, .ref msh, .int vpr, .int vfa])), (mic, .inl (cZ, 12, .inl Kic)), (mwi, .inl (cI, 1920, .inl Kwi)), (mmo, .inl (cI, 160, .inl Kmo)), (mfi, .inl (cI, 6, .inl u_24))]) [3, 0, 1, 2, 4] rfl
              have hD9 := hD.sub (ws' := [(m0, .inr (7, [.int 2, .ref mfi, .long vak, .int vhr, .ref mil, .ref mic, .ref mwi, .int vho, .int vga, .ref mmo, .int vns, .ref mki, .ref mce, .ref mgo, .ref mwa, .ref mha, .ref mch, .ref mfo, .ref mca, .ref mor, .ref mro, .ref mra, .ref mpr, .ref mho, .ref mis, .int vsg, .ref mss, .ref msc, .ref msh, .int vpr, .int vfa])), (mic, .inl (cZ, 12, .inl Kic)), (mwi, .inl (cI, 1920, .inl Kwi)), (mmo, .inl (cI, 160, .inl Kmo)), (mfi, .inl (cI, 6, .inl u_24))]) [3, 0, 1, 2, 4] (by decide) rfl
              have hK9 := hK.sub (tys' := [(cI, .int), (cZ, .boolean)]) [0, 1] rfl
              have hv9 : (-3 : Int32).toInt = (-3) := by decide
              exact W.iret (v := (-3)) hx hb hr (fun t ht hW => ⟨⟨(-3), (2, u_24, Kwi, Kmo), rfl, (show Rg 1920 (-128) 127 Kwi from R_Kwi), ⟨by rw [ht]; exact hP9, va_K.moved hW.alike hK9, hD9⟩⟩, hS.F ht⟩) hS.2.2 dX6_copy_92
            · skip
              have qc_21 : 0 ≤ a1.toInt := nlt_k rfl (by decide) c_21
              refine lv_iload hx hb dX6_copy_55 (lv_at hl 4 rfl) ?_
              refine lv_if_lt (tgt := 87) hx hb dX6_copy_57 (by decide) (fun c_26 => ?_) (fun c_26 => ?_)
              · skip
                have qc_26 : a3.toInt < 0 := lt_k rfl (by decide) c_26
                refine lv_aload_n hx hb dX6_copy_87 rfl (lv_at hl 0 rfl) ?_
                refine lv_iconst (v := 2) hx hb dX6_copy_88 (by decide) ?_
                have hPc := hP.sub (ws' := [(m0, .inr (7, [.int vfi, .ref mfi, .long vak, .int vhr, .ref mil, .ref mic, .ref mwi, .int vho, .int vga, .ref mmo, .int vns, .ref mki, .ref mce, .ref mgo, .ref mwa, .ref mha, .ref mch, .ref mfo, .ref mca, .ref mor, .ref mro, .ref mra, .ref mpr, .ref mho, .ref mis, .int vsg, .ref mss, .ref msc, .ref msh, .int vpr, .int vfa])), (mfi, .inl (cI, 6, .inl Kfi))]) [0, 4] rfl
                have hDc := hD.sub (ws' := [(m0, .inr (7, [.int vfi, .ref mfi, .long vak, .int vhr, .ref mil, .ref mic, .ref mwi, .int vho, .int vga, .ref mmo, .int vns, .ref mki, .ref mce, .ref mgo, .ref mwa, .ref mha, .ref mch, .ref mfo, .ref mca, .ref mor, .ref mro, .ref mra, .ref mpr, .ref mho, .ref mis, .int vsg, .ref mss, .ref msc, .ref msh, .int vpr, .int vfa])), (mfi, .inl (cI, 6, .inl Kfi))]) [0, 4] (by decide) rfl
                have hKc := hK.sub (tys' := [(cI, .int)]) [0] rfl
                have hFc := va_free (wc := [(m0, .inr (7, [.int vfi, .ref mfi, .long vak, .int vhr, .ref mil, .ref mic, .ref mwi, .int vho, .int vga, .ref mmo, .int vns, .ref mki, .ref mce, .ref mgo, .ref mwa, .ref mha, .ref mch, .ref mfo, .ref mca, .ref mor, .ref mro, .ref mra, .ref mpr, .ref mho, .ref mis, .int vsg, .ref mss, .ref msc, .ref msh, .int vpr, .int vfa])), (mfi, .inl (cI, 6, .inl Kfi))]) hD hS hA [0, 4] rfl
                refine va_calli (va_runV (As := [.int 2]) (rest := []) ⟨hx, hb, hml, hown, hts⟩ (c_X6_meets l dC dI H.size m0 mfi mil mic mwi mmo mki mce mgo mwa mha mch mfo mca mor mro mra mpr mho mis mss msc msh vfi vhr vho vga vns vsg vpr vfa vak Kfi cI 2 (by decide)) (cwV 1 hts gX6_copy_X6_meets rfl rfl rfl (by decide +kernel) ⟨Nat.le_of_ble_eq_true rfl, Nat.le_of_ble_eq_true rfl⟩) ⟨fun a U g mk q => by obtain ⟨q0, q1, qP, qK, qN, qD⟩ := q; exact ⟨q0, q1, qP, va_K.moved (u := U) (U := U.calling g mk a) (Vm.Alike.refl U.vm) qK, NW.same (u := U) (U := U.calling g mk a) rfl qN, qD⟩, va_recv hKc hPc (ci := 7) (q0 := 0) rfl rfl, fun U hU hW => ⟨rfl, by rw [hU], by rw [hU]; exact hPc, va_K.moved hW.alike hKc, NW.warm hW hN, hDc.weaken (fun _ _ _ _ => trivial)⟩⟩ rfl rfl hl.1 rfl (lv_room (Nat.le_of_ble_eq_true rfl)) dX6_copy_89 ⟨(Nat.zero_le _), (Nat.zero_le _)⟩) hS (fun q _ h => hFc q h) hFc (fun r_27 u t H1 locs ht hvm k_28 hB hz1 hk1 hS => ?_)
                obtain ⟨u_29, eu_29⟩ : ∃ z, z = u := ⟨_, rfl⟩
                subst eu_29
                obtain ⟨hP1, hK1, hD1⟩ := hB
                rw [ht] at hP1
                have hK1 := va_K.moved hvm.symm hK1
                obtain ⟨hP, hD⟩ := va_join (wr := [(mic, .inl (cZ, 12, .inl Kic)), (mwi, .inl (cI, 1920, .inl Kwi)), (mmo, .inl (cI, 160, .inl Kmo))]) (w1 := [(m0, .inr (7, [.int 2, .ref mfi, .long vak, .int vhr, .ref mil, .ref mic, .ref mwi, .int vho, .int vga, .ref mmo, .int vns, .ref mki, .ref mce, .ref mgo, .ref mwa, .ref mha, .ref mch, .ref mfo, .ref mca, .ref mor, .ref mro, .ref mra, .ref mpr, .ref mho, .ref mis, .int vsg, .ref mss, .ref msc, .ref msh, .int vpr, .int vfa])), (mfi, .inl (cI, 6, .inl u_29))]) hP hD [0, 4] [1, 2, 3] rfl rfl (by decide) (by decide) hk1 hFc hP1 hD1
                generalize H1 = H at hP hS ⊢
                have hP : va_P (dC, dI) vwCl [(mic, .inl (cZ, 12, .inl Kic)), (mwi, .inl (cI, 1920, .inl Kwi)), (mmo, .inl (cI, 160, .inl Kmo)), (m0, .inr (7, [.int 2, .ref mfi, .long vak, .int vhr, .ref mil, .ref mic, .ref mwi, .int vho, .int vga, .ref mmo, .int vns, .ref mki, .ref mce, .ref mgo, .ref mwa, .ref mha, .ref mch, .ref mfo, .ref mca, .ref mor, .ref mro, .ref mra, .ref mpr, .ref mho, .ref mis, .int vsg, .ref mss, .ref msc, .ref msh, .int vpr, .int vfa])), (mfi, .inl (cI, 6, .inl u_29))] H := hP
                have hD : va_D A [(mic, .inl (cZ, 12, .inl Kic)), (mwi, .inl (cI, 1920, .inl Kwi)), (mmo, .inl (cI, 160, .inl Kmo)), (m0, .inr (7, [.int 2, .ref mfi, .long vak, .int vhr, .ref mil, .ref mic, .ref mwi, .int vho, .int vga, .ref mmo, .int vns, .ref mki, .ref mce, .ref mgo, .ref mwa, .ref mha, .ref mch, .ref mfo, .ref mca, .ref mor, .ref mro, .ref mra, .ref mpr, .ref mho, .ref mis, .int vsg, .ref mss, .ref msc, .ref msh, .int vpr, .int vfa])), (mfi, .inl (cI, 6, .inl u_29))] := hD
                try dsimp only at k_28
                obtain ⟨k_28, k_30⟩ := k_28
                obtain rfl : r_27 = (-3) := k_28
                have hP9 := hP.sub (ws' := [(m0, .inr (7, [.int 2, .ref mfi, .long vak, .int vhr, .ref mil, .ref mic, .ref mwi, .int vho, .int vga, .ref mmo, .int vns, .ref mki, .ref mce, .ref mgo, .ref mwa, .ref mha, .ref mch, .ref mfo, .ref mca, .ref mor, .ref mro, .ref mra, .ref mpr, .ref mho, .ref mis, .int vsg, .ref mss, .ref msc, .ref msh, .int vpr, .int vfa])), (mic, .inl (cZ, 12, .inl Kic)), (mwi, .inl (cI, 1920, .inl Kwi)), (mmo, .inl (cI, 160, .inl Kmo)), (mfi, .inl (cI, 6, .inl u_29))]) [3, 0, 1, 2, 4] rfl
                have hD9 := hD.sub (ws' := [(m0, .inr (7, [.int 2, .ref mfi, .long vak, .int vhr, .ref mil, .ref mic, .ref mwi, .int vho, .int vga, .ref mmo, .int vns, .ref mki, .ref mce, .ref mgo, .ref mwa, .ref mha, .ref mch, .ref mfo, .ref mca, .ref mor, .ref mro, .ref mra, .ref mpr, .ref mho, .ref mis, .int vsg, .ref mss, .ref msc, .ref msh, .int vpr, .int vfa])), (mic, .inl (cZ, 12, .inl Kic)), (mwi, .inl (cI, 1920, .inl Kwi)), (mmo, .inl (cI, 160, .inl Kmo)), (mfi, .inl (cI, 6, .inl u_29))]) [3, 0, 1, 2, 4] (by decide) rfl
                have hK9 := hK.sub (tys' := [(cI, .int), (cZ, .boolean)]) [0, 1] rfl
                have hv9 : (-3 : Int32).toInt = (-3) := by decide
                exact W.iret (v := (-3)) hx hb hr (fun t ht hW => ⟨⟨(-3), (2, u_29, Kwi, Kmo), rfl, (show Rg 1920 (-128) 127 Kwi from R_Kwi), ⟨by rw [ht]; exact hP9, va_K.moved hW.alike hK9, hD9⟩⟩, hS.F ht⟩) hS.2.2 dX6_copy_92
              · skip
                have qc_26 : 0 ≤ a3.toInt := nlt_k rfl (by decide) c_26
                refine lv_iload_n hx hb dX6_copy_60 rfl (lv_at hl 2 rfl) ?_
                refine lv_i2l (v := a1.toInt64) hx hb dX6_copy_61 rfl ?_
                refine lv_topl (fun w_31 ew_31 => ?_)
                refine lv_iload hx hb dX6_copy_62 (lv_at hl 5 rfl) ?_
                refine lv_i2l (v := a4.toInt64) hx hb dX6_copy_64 rfl ?_
                refine lv_topl (fun w_32 ew_32 => ?_)
                refine lv_ladd hx hb dX6_copy_65 ?_
                refine lv_topl (fun w_33 ew_33 => ?_)
                refine lv_ldc2 (v := (160)) hx hb hown (hts (.constantLong RX6 105 (160)) (by decide +kernel)) dX6_copy_66 ?_
                refine W.lcmp hx hb dX6_copy_69 ?_
                refine lv_topi (fun x_34 ex_34 => ?_)
                refine lv_if_gt (tgt := 87) hx hb dX6_copy_70 (by decide) (fun c_35 => ?_) (fun c_35 => ?_)
                · skip
                  refine lv_aload_n hx hb dX6_copy_87 rfl (lv_at hl 0 rfl) ?_
                  refine lv_iconst (v := 2) hx hb dX6_copy_88 (by decide) ?_
                  have hPc := hP.sub (ws' := [(m0, .inr (7, [.int vfi, .ref mfi, .long vak, .int vhr, .ref mil, .ref mic, .ref mwi, .int vho, .int vga, .ref mmo, .int vns, .ref mki, .ref mce, .ref mgo, .ref mwa, .ref mha, .ref mch, .ref mfo, .ref mca, .ref mor, .ref mro, .ref mra, .ref mpr, .ref mho, .ref mis, .int vsg, .ref mss, .ref msc, .ref msh, .int vpr, .int vfa])), (mfi, .inl (cI, 6, .inl Kfi))]) [0, 4] rfl
                  have hDc := hD.sub (ws' := [(m0, .inr (7, [.int vfi, .ref mfi, .long vak, .int vhr, .ref mil, .ref mic, .ref mwi, .int vho, .int vga, .ref mmo, .int vns, .ref mki, .ref mce, .ref mgo, .ref mwa, .ref mha, .ref mch, .ref mfo, .ref mca, .ref mor, .ref mro, .ref mra, .ref mpr, .ref mho, .ref mis, .int vsg, .ref mss, .ref msc, .ref msh, .int vpr, .int vfa])), (mfi, .inl (cI, 6, .inl Kfi))]) [0, 4] (by decide) rfl
                  have hKc := hK.sub (tys' := [(cI, .int)]) [0] rfl
                  have hFc := va_free (wc := [(m0, .inr (7, [.int vfi, .ref mfi, .long vak, .int vhr, .ref mil, .ref mic, .ref mwi, .int vho, .int vga, .ref mmo, .int vns, .ref mki, .ref mce, .ref mgo, .ref mwa, .ref mha, .ref mch, .ref mfo, .ref mca, .ref mor, .ref mro, .ref mra, .ref mpr, .ref mho, .ref mis, .int vsg, .ref mss, .ref msc, .ref msh, .int vpr, .int vfa])), (mfi, .inl (cI, 6, .inl Kfi))]) hD hS hA [0, 4] rfl
                  refine va_calli (va_runV (As := [.int 2]) (rest := []) ⟨hx, hb, hml, hown, hts⟩ (c_X6_meets l dC dI H.size m0 mfi mil mic mwi mmo mki mce mgo mwa mha mch mfo mca mor mro mra mpr mho mis mss msc msh vfi vhr vho vga vns vsg vpr vfa vak Kfi cI 2 (by decide)) (cwV 1 hts gX6_copy_X6_meets rfl rfl rfl (by decide +kernel) ⟨Nat.le_of_ble_eq_true rfl, Nat.le_of_ble_eq_true rfl⟩) ⟨fun a U g mk q => by obtain ⟨q0, q1, qP, qK, qN, qD⟩ := q; exact ⟨q0, q1, qP, va_K.moved (u := U) (U := U.calling g mk a) (Vm.Alike.refl U.vm) qK, NW.same (u := U) (U := U.calling g mk a) rfl qN, qD⟩, va_recv hKc hPc (ci := 7) (q0 := 0) rfl rfl, fun U hU hW => ⟨rfl, by rw [hU], by rw [hU]; exact hPc, va_K.moved hW.alike hKc, NW.warm hW hN, hDc.weaken (fun _ _ _ _ => trivial)⟩⟩ rfl rfl hl.1 rfl (lv_room (Nat.le_of_ble_eq_true rfl)) dX6_copy_89 ⟨(Nat.zero_le _), (Nat.zero_le _)⟩) hS (fun q _ h => hFc q h) hFc (fun r_36 u t H1 locs ht hvm k_37 hB hz1 hk1 hS => ?_)
                  obtain ⟨u_38, eu_38⟩ : ∃ z, z = u := ⟨_, rfl⟩
                  subst eu_38
                  obtain ⟨hP1, hK1, hD1⟩ := hB
                  rw [ht] at hP1
                  have hK1 := va_K.moved hvm.symm hK1
                  obtain ⟨hP, hD⟩ := va_join (wr := [(mic, .inl (cZ, 12, .inl Kic)), (mwi, .inl (cI, 1920, .inl Kwi)), (mmo, .inl (cI, 160, .inl Kmo))]) (w1 := [(m0, .inr (7, [.int 2, .ref mfi, .long vak, .int vhr, .ref mil, .ref mic, .ref mwi, .int vho, .int vga, .ref mmo, .int vns, .ref mki, .ref mce, .ref mgo, .ref mwa, .ref mha, .ref mch, .ref mfo, .ref mca, .ref mor, .ref mro, .ref mra, .ref mpr, .ref mho, .ref mis, .int vsg, .ref mss, .ref msc, .ref msh, .int vpr, .int vfa])), (mfi, .inl (cI, 6, .inl u_38))]) hP hD [0, 4] [1, 2, 3] rfl rfl (by decide) (by decide) hk1 hFc hP1 hD1
                  generalize H1 = H at hP hS ⊢
                  have hP : va_P (dC, dI) vwCl [(mic, .inl (cZ, 12, .inl Kic)), (mwi, .inl (cI, 1920, .inl Kwi)), (mmo, .inl (cI, 160, .inl Kmo)), (m0, .inr (7, [.int 2, .ref mfi, .long vak, .int vhr, .ref mil, .ref mic, .ref mwi, .int vho, .int vga, .ref mmo, .int vns, .ref mki, .ref mce, .ref mgo, .ref mwa, .ref mha, .ref mch, .ref mfo, .ref mca, .ref mor, .ref mro, .ref mra, .ref mpr, .ref mho, .ref mis, .int vsg, .ref mss, .ref msc, .ref msh, .int vpr, .int vfa])), (mfi, .inl (cI, 6, .inl u_38))] H := hP
                  have hD : va_D A [(mic, .inl (cZ, 12, .inl Kic)), (mwi, .inl (cI, 1920, .inl Kwi)), (mmo, .inl (cI, 160, .inl Kmo)), (m0, .inr (7, [.int 2, .ref mfi, .long vak, .int vhr, .ref mil, .ref mic, .ref mwi, .int vho, .int vga, .ref mmo, .int vns, .ref mki, .ref mce, .ref mgo, .ref mwa, .ref mha, .ref mch, .ref mfo, .ref mca, .ref mor, .ref mro, .ref mra, .ref mpr, .ref mho, .ref mis, .int vsg, .ref mss, .ref msc, .ref msh, .int vpr, .int vfa])), (mfi, .inl (cI, 6, .inl u_38))] := hD
                  try dsimp only at k_37
                  obtain ⟨k_37, k_39⟩ := k_37
                  obtain rfl : r_36 = (-3) := k_37
                  have hP9 := hP.sub (ws' := [(m0, .inr (7, [.int 2, .ref mfi, .long vak, .int vhr, .ref mil, .ref mic, .ref mwi, .int vho, .int vga, .ref mmo, .int vns, .ref mki, .ref mce, .ref mgo, .ref mwa, .ref mha, .ref mch, .ref mfo, .ref mca, .ref mor, .ref mro, .ref mra, .ref mpr, .ref mho, .ref mis, .int vsg, .ref mss, .ref msc, .ref msh, .int vpr, .int vfa])), (mic, .inl (cZ, 12, .inl Kic)), (mwi, .inl (cI, 1920, .inl Kwi)), (mmo, .inl (cI, 160, .inl Kmo)), (mfi, .inl (cI, 6, .inl u_38))]) [3, 0, 1, 2, 4] rfl
                  have hD9 := hD.sub (ws' := [(m0, .inr (7, [.int 2, .ref mfi, .long vak, .int vhr, .ref mil, .ref mic, .ref mwi, .int vho, .int vga, .ref mmo, .int vns, .ref mki, .ref mce, .ref mgo, .ref mwa, .ref mha, .ref mch, .ref mfo, .ref mca, .ref mor, .ref mro, .ref mra, .ref mpr, .ref mho, .ref mis, .int vsg, .ref mss, .ref msc, .ref msh, .int vpr, .int vfa])), (mic, .inl (cZ, 12, .inl Kic)), (mwi, .inl (cI, 1920, .inl Kwi)), (mmo, .inl (cI, 160, .inl Kmo)), (mfi, .inl (cI, 6, .inl u_38))]) [3, 0, 1, 2, 4] (by decide) rfl
                  have hK9 := hK.sub (tys' := [(cI, .int), (cZ, .boolean)]) [0, 1] rfl
                  have hv9 : (-3 : Int32).toInt = (-3) := by decide
                  exact W.iret (v := (-3)) hx hb hr (fun t ht hW => ⟨⟨(-3), (2, u_38, Kwi, Kmo), rfl, (show Rg 1920 (-128) 127 Kwi from R_Kwi), ⟨by rw [ht]; exact hP9, va_K.moved hW.alike hK9, hD9⟩⟩, hS.F ht⟩) hS.2.2 dX6_copy_92
                · skip
                  have qc_35 : a1.toInt + a4.toInt ≤ 160 := lcmp_add ex_34 c_35 ew_31 ew_32 ew_33
                  refine lv_iload hx hb dX6_copy_73 (lv_at hl 4 rfl) ?_
                  refine lv_i2l (v := a3.toInt64) hx hb dX6_copy_75 rfl ?_
                  refine lv_topl (fun w_40 ew_40 => ?_)
                  refine lv_iload hx hb dX6_copy_76 (lv_at hl 5 rfl) ?_
                  refine lv_i2l (v := a4.toInt64) hx hb dX6_copy_78 rfl ?_
                  refine lv_topl (fun w_41 ew_41 => ?_)
                  refine lv_ladd hx hb dX6_copy_79 ?_
                  refine lv_topl (fun w_42 ew_42 => ?_)
                  refine lv_ldc2 (v := (160)) hx hb hown (hts (.constantLong RX6 105 (160)) (by decide +kernel)) dX6_copy_80 ?_
                  refine W.lcmp hx hb dX6_copy_83 ?_
                  refine lv_topi (fun x_43 ex_43 => ?_)
                  refine lv_if_le (tgt := 93) hx hb dX6_copy_84 (by decide) (fun c_44 => ?_) (fun c_44 => ?_)
                  · skip
                    have qc_44 : a3.toInt + a4.toInt ≤ 160 := lcmp_add ex_43 (Int32.not_lt.mpr c_44) ew_40 ew_41 ew_42
                    refine lv_iconst (v := 0) hx hb dX6_copy_93 (by decide) ?_
                    refine lv_istore (lv' := [(6, .int 0), (0, .ref m0), (1, .int a0), (2, .int a1), (3, .int a2), (4, .int a3), (5, .int a4)]) hx hb dX6_copy_94 hl (by decide) rfl (fun ls hl => ?_)
                    have key96 : ∀ (n96 : Nat) (ik : Int32) (wm : Nat → Int32) (H : Heap) (locs : List Loc) (ls : Array Slot), (0 ≤ ik.toInt ∧ ik.toInt ≤ 160) → (ik.toInt ≤ a4.toInt) → (∀ j : Nat, (j : Int) < ik.toInt → -128 ≤ (wm j).toInt ∧ (wm j).toInt ≤ 127) → 160 - ik.toInt < (n96 : Int) → va_P (dC, dI) vwCl [(m0, .inr (7, [.int vfi, .ref mfi, .long vak, .int vhr, .ref mil, .ref mic, .ref mwi, .int vho, .int vga, .ref mmo, .int vns, .ref mki, .ref mce, .ref mgo, .ref mwa, .ref mha, .ref mch, .ref mfo, .ref mca, .ref mor, .ref mro, .ref mra, .ref mpr, .ref mho, .ref mis, .int vsg, .ref mss, .ref msc, .ref msh, .int vpr, .int vfa])), (mic, .inl (cZ, 12, .inl Kic)), (mwi, .inl (cI, 1920, .inl Kwi)), (mmo, .inl (cI, 160, .inl wm)), (mfi, .inl (cI, 6, .inl Kfi))] H → va_D A [(m0, .inr (7, [.int vfi, .ref mfi, .long vak, .int vhr, .ref mil, .ref mic, .ref mwi, .int vho, .int vga, .ref mmo, .int vns, .ref mki, .ref mce, .ref mgo, .ref mwa, .ref mha, .ref mch, .ref mfo, .ref mca, .ref mor, .ref mro, .ref mra, .ref mpr, .ref mho, .ref mis, .int vsg, .ref mss, .ref msc, .ref msh, .int vpr, .int vfa])), (mic, .inl (cZ, 12, .inl Kic)), (mwi, .inl (cI, 1920, .inl Kwi)), (mmo, .inl (cI, 160, .inl wm)), (mfi, .inl (cI, 6, .inl Kfi))] → va_S A s.heap H locs → lv_has ls 7 [(6, .int ik), (0, .ref m0), (1, .int a0), (2, .int a1), (3, .int a2), (4, .int a3), (5, .int a4)] → W p l e ({ frames := 2, cells := 0, slots := 0, locals := 42 } : Room) s m ([.ref m0, .int a0, .int a1, .int a2, .int a3, .int a4] : List Value).toArray below meth c H locs 0 0 (MQ below (va_Qi (fun (r : Int32) (u : Int32 × (Nat → Int32) × (Nat → Int32) × (Nat → Int32)) => (Rg 1920 (-128) 127 u.2.2.1)) (fun u t => va_P (dC, dI) vwCl [(m0, .inr (7, [.int u.1, .ref mfi, .long vak, .int vhr, .ref mil, .ref mic, .ref mwi, .int vho, .int vga, .ref mmo, .int vns, .ref mki, .ref mce, .ref mgo, .ref mwa, .ref mha, .ref mch, .ref mfo, .ref mca, .ref mor, .ref mro, .ref mra, .ref mpr, .ref mho, .ref mis, .int vsg, .ref mss, .ref msc, .ref msh, .int vpr, .int vfa])), (mic, .inl (cZ, 12, .inl Kic)), (mwi, .inl (cI, 1920, .inl u.2.2.1)), (mmo, .inl (cI, 160, .inl u.2.2.2)), (mfi, .inl (cI, 6, .inl u.2.1))] t.heap ∧ va_K (dC, dI) vwCl [(cI, .int), (cZ, .boolean)] t ∧ va_D A [(m0, .inr (7, [.int u.1, .ref mfi, .long vak, .int vhr, .ref mil, .ref mic, .ref mwi, .int vho, .int vga, .ref mmo, .int vns, .ref mki, .ref mce, .ref mgo, .ref mwa, .ref mha, .ref mch, .ref mfo, .ref mca, .ref mor, .ref mro, .ref mra, .ref mpr, .ref mho, .ref mis, .int vsg, .ref mss, .ref msc, .ref msh, .int vpr, .int vfa])), (mic, .inl (cZ, 12, .inl Kic)), (mwi, .inl (cI, 1920, .inl u.2.2.1)), (mmo, .inl (cI, 160, .inl u.2.2.2)), (mfi, .inl (cI, 6, .inl u.2.1))]) A) ([.ref m0, .int a0, .int a1, .int a2, .int a3, .int a4] : List Value).toArray s 0 0 A) (F0 m 96 ls []) := by
                      intro n96
                      induction n96 with
                      | zero =>
                        intro ik wm H locs ls i_ik hik hmo hm96
                        exact absurd hm96 (by omega)
                      | succ n96 ih96 =>
                        intro ik wm H locs ls i_ik hik hmo hm96 hP hD hS hl
                        refine lv_iload hx hb dX6_copy_96 (lv_at hl 0 rfl) ?_
                        refine lv_iload hx hb dX6_copy_98 (lv_at hl 6 rfl) ?_
                        refine lv_icmp_ge (tgt := 131) hx hb dX6_copy_100 (by decide) (fun c_45 => ?_) (fun c_45 => ?_)
                        · skip
                          have qc_45 : a4.toInt ≤ ik.toInt := le_k rfl rfl c_45
                          refine lv_iconst (v := 0) hx hb dX6_copy_131 (by decide) ?_
                          refine lv_istore (lv' := [(6, .int 0), (0, .ref m0), (1, .int a0), (2, .int a1), (3, .int a2), (4, .int a3), (5, .int a4)]) hx hb dX6_copy_132 hl (by decide) rfl (fun ls hl => ?_)
                          have key134 : ∀ (n134 : Nat) (il : Int32) (wn wz : Nat → Int32) (H : Heap) (locs : List Loc) (ls : Array Slot), (0 ≤ il.toInt ∧ il.toInt ≤ 160) → Rg 1920 (-128) 127 wn → (il.toInt ≤ a4.toInt) → (∀ j : Nat, (j : Int) < a4.toInt → -128 ≤ (wz j).toInt ∧ (wz j).toInt ≤ 127) → 160 - il.toInt < (n134 : Int) → va_P (dC, dI) vwCl [(m0, .inr (7, [.int vfi, .ref mfi, .long vak, .int vhr, .ref mil, .ref mic, .ref mwi, .int vho, .int vga, .ref mmo, .int vns, .ref mki, .ref mce, .ref mgo, .ref mwa, .ref mha, .ref mch, .ref mfo, .ref mca, .ref mor, .ref mro, .ref mra, .ref mpr, .ref mho, .ref mis, .int vsg, .ref mss, .ref msc, .ref msh, .int vpr, .int vfa])), (mic, .inl (cZ, 12, .inl Kic)), (mwi, .inl (cI, 1920, .inl wn)), (mmo, .inl (cI, 160, .inl wz)), (mfi, .inl (cI, 6, .inl Kfi))] H → va_D A [(m0, .inr (7, [.int vfi, .ref mfi, .long vak, .int vhr, .ref mil, .ref mic, .ref mwi, .int vho, .int vga, .ref mmo, .int vns, .ref mki, .ref mce, .ref mgo, .ref mwa, .ref mha, .ref mch, .ref mfo, .ref mca, .ref mor, .ref mro, .ref mra, .ref mpr, .ref mho, .ref mis, .int vsg, .ref mss, .ref msc, .ref msh, .int vpr, .int vfa])), (mic, .inl (cZ, 12, .inl Kic)), (mwi, .inl (cI, 1920, .inl wn)), (mmo, .inl (cI, 160, .inl wz)), (mfi, .inl (cI, 6, .inl Kfi))] → va_S A s.heap H locs → lv_has ls 7 [(6, .int il), (0, .ref m0), (1, .int a0), (2, .int a1), (3, .int a2), (4, .int a3), (5, .int a4)] → W p l e ({ frames := 2, cells := 0, slots := 0, locals := 42 } : Room) s m ([.ref m0, .int a0, .int a1, .int a2, .int a3, .int a4] : List Value).toArray below meth c H locs 0 0 (MQ below (va_Qi (fun (r : Int32) (u : Int32 × (Nat → Int32) × (Nat → Int32) × (Nat → Int32)) => (Rg 1920 (-128) 127 u.2.2.1)) (fun u t => va_P (dC, dI) vwCl [(m0, .inr (7, [.int u.1, .ref mfi, .long vak, .int vhr, .ref mil, .ref mic, .ref mwi, .int vho, .int vga, .ref mmo, .int vns, .ref mki, .ref mce, .ref mgo, .ref mwa, .ref mha, .ref mch, .ref mfo, .ref mca, .ref mor, .ref mro, .ref mra, .ref mpr, .ref mho, .ref mis, .int vsg, .ref mss, .ref msc, .ref msh, .int vpr, .int vfa])), (mic, .inl (cZ, 12, .inl Kic)), (mwi, .inl (cI, 1920, .inl u.2.2.1)), (mmo, .inl (cI, 160, .inl u.2.2.2)), (mfi, .inl (cI, 6, .inl u.2.1))] t.heap ∧ va_K (dC, dI) vwCl [(cI, .int), (cZ, .boolean)] t ∧ va_D A [(m0, .inr (7, [.int u.1, .ref mfi, .long vak, .int vhr, .ref mil, .ref mic, .ref mwi, .int vho, .int vga, .ref mmo, .int vns, .ref mki, .ref mce, .ref mgo, .ref mwa, .ref mha, .ref mch, .ref mfo, .ref mca, .ref mor, .ref mro, .ref mra, .ref mpr, .ref mho, .ref mis, .int vsg, .ref mss, .ref msc, .ref msh, .int vpr, .int vfa])), (mic, .inl (cZ, 12, .inl Kic)), (mwi, .inl (cI, 1920, .inl u.2.2.1)), (mmo, .inl (cI, 160, .inl u.2.2.2)), (mfi, .inl (cI, 6, .inl u.2.1))]) A) ([.ref m0, .int a0, .int a1, .int a2, .int a3, .int a4] : List Value).toArray s 0 0 A) (F0 m 134 ls []) := by
                            intro n134
                            induction n134 with
                            | zero =>
                              intro il wn wz H locs ls i_il R_wn hil hmz hm134
                              exact absurd hm134 (by omega)
                            | succ n134 ih134 =>
                              intro il wn wz H locs ls i_il R_wn hil hmz hm134 hP hD hS hl
                              refine lv_iload hx hb dX6_copy_134 (lv_at hl 0 rfl) ?_
                              refine lv_iload hx hb dX6_copy_136 (lv_at hl 6 rfl) ?_
                              refine lv_icmp_ge (tgt := 170) hx hb dX6_copy_138 (by decide) (fun c_46 => ?_) (fun c_46 => ?_)
                              · skip
                                have qc_46 : a4.toInt ≤ il.toInt := le_k rfl rfl c_46
                                refine lv_iconst (v := 1) hx hb dX6_copy_170 (by decide) ?_
                                have hP9 := hP.sub (ws' := [(m0, .inr (7, [.int vfi, .ref mfi, .long vak, .int vhr, .ref mil, .ref mic, .ref mwi, .int vho, .int vga, .ref mmo, .int vns, .ref mki, .ref mce, .ref mgo, .ref mwa, .ref mha, .ref mch, .ref mfo, .ref mca, .ref mor, .ref mro, .ref mra, .ref mpr, .ref mho, .ref mis, .int vsg, .ref mss, .ref msc, .ref msh, .int vpr, .int vfa])), (mic, .inl (cZ, 12, .inl Kic)), (mwi, .inl (cI, 1920, .inl wn)), (mmo, .inl (cI, 160, .inl wz)), (mfi, .inl (cI, 6, .inl Kfi))]) [0, 1, 2, 3, 4] rfl
                                have hD9 := hD.sub (ws' := [(m0, .inr (7, [.int vfi, .ref mfi, .long vak, .int vhr, .ref mil, .ref mic, .ref mwi, .int vho, .int vga, .ref mmo, .int vns, .ref mki, .ref mce, .ref mgo, .ref mwa, .ref mha, .ref mch, .ref mfo, .ref mca, .ref mor, .ref mro, .ref mra, .ref mpr, .ref mho, .ref mis, .int vsg, .ref mss, .ref msc, .ref msh, .int vpr, .int vfa])), (mic, .inl (cZ, 12, .inl Kic)), (mwi, .inl (cI, 1920, .inl wn)), (mmo, .inl (cI, 160, .inl wz)), (mfi, .inl (cI, 6, .inl Kfi))]) [0, 1, 2, 3, 4] (by decide) rfl
                                have hK9 := hK.sub (tys' := [(cI, .int), (cZ, .boolean)]) [0, 1] rfl
                                have hv9 : (1 : Int32).toInt = 1 := by decide
                                exact W.iret (v := 1) hx hb hr (fun t ht hW => ⟨⟨1, (vfi, Kfi, wn, wz), rfl, (show Rg 1920 (-128) 127 wn from R_wn), ⟨by rw [ht]; exact hP9, va_K.moved hW.alike hK9, hD9⟩⟩, hS.F ht⟩) hS.2.2 dX6_copy_171
                              · skip
                                have qc_46 : il.toInt < a4.toInt := nle_k rfl rfl c_46
                                refine lv_aload_n hx hb dX6_copy_141 rfl (lv_at hl 1 rfl) ?_
                                refine va_get (D := (dC, dI)) (ci := 7) (v := .ref mwi) (C := RX6) (T := TX6) (N := 31) hx hb hts iw_X6_copy_X6 hown hK hP 0 rfl rfl 6 (by decide) (hts (.fieldLink RX6 20 "TeaRaceModel" "winds" "[I") (by decide +kernel)) (fun _ h9 => h9) rfl dX6_copy_142 ?_
                                refine lv_sipush (v := 160) hx hb dX6_copy_145 (by decide) ?_
                                refine lv_iload_n hx hb dX6_copy_148 rfl (lv_at hl 4 rfl) ?_
                                refine lv_imul hx hb dX6_copy_149 ?_
                                refine lv_topi (fun x_47 ex_47 => ?_)
                                have tx_47 : x_47.toInt = 160 * a2.toInt := mu_k ex_47 (by decide) rfl (by omega) (by omega)
                                refine lv_iload hx hb dX6_copy_150 (lv_at hl 5 rfl) ?_
                                refine lv_iadd hx hb dX6_copy_152 ?_
                                refine lv_topi (fun x_48 ex_48 => ?_)
                                have tx_48 : x_48.toInt = x_47.toInt + a3.toInt := ad_k ex_48 rfl rfl (by omega) (by omega)
                                refine lv_iload hx hb dX6_copy_153 (lv_at hl 0 rfl) ?_
                                refine lv_iadd hx hb dX6_copy_155 ?_
                                refine lv_topi (fun x_49 ex_49 => ?_)
                                have tx_49 : x_49.toInt = x_48.toInt + il.toInt := ad_k ex_49 rfl rfl (by omega) (by omega)
                                refine lv_aload_n hx hb dX6_copy_156 rfl (lv_at hl 1 rfl) ?_
                                refine va_get (D := (dC, dI)) (ci := 7) (v := .ref mmo) (C := RX6) (T := TX6) (N := 31) hx hb hts iw_X6_copy_X6 hown hK hP 0 rfl rfl 9 (by decide) (hts (.fieldLink RX6 23 "TeaRaceModel" "moving" "[I") (by decide +kernel)) (fun _ h9 => h9) rfl dX6_copy_157 ?_
                                refine lv_iload hx hb dX6_copy_160 (lv_at hl 0 rfl) ?_
                                refine va_iald hx hb hK hP 3 0 rfl rfl (in_k rfl (by omega) (by omega)) dX6_copy_162 ?_
                                refine lv_topi (fun x_50 ex_50 => ?_)
                                have rx_50 := congrArg Int32.toInt ex_50
                                have gx_50 : -128 ≤ x_50.toInt ∧ x_50.toInt ≤ 127 := by rw [ex_50]; exact hmz _ (by have := tn_k (i := il) rfl (by omega); omega)
                                refine va_iast hx hb hK hP hD hS 2 0 rfl rfl (in_k rfl (by omega) (by omega)) dX6_copy_163 (fun H locs hP hD hS => ?_)
                                have hP : va_P (dC, dI) vwCl [(m0, .inr (7, [.int vfi, .ref mfi, .long vak, .int vhr, .ref mil, .ref mic, .ref mwi, .int vho, .int vga, .ref mmo, .int vns, .ref mki, .ref mce, .ref mgo, .ref mwa, .ref mha, .ref mch, .ref mfo, .ref mca, .ref mor, .ref mro, .ref mra, .ref mpr, .ref mho, .ref mis, .int vsg, .ref mss, .ref msc, .ref msh, .int vpr, .int vfa])), (mic, .inl (cZ, 12, .inl Kic)), (mwi, .inl (cI, 1920, .inl (upd wn x_49.toNatClampNeg x_50))), (mmo, .inl (cI, 160, .inl wz)), (mfi, .inl (cI, 6, .inl Kfi))] H := hP
                                have hD : va_D A [(m0, .inr (7, [.int vfi, .ref mfi, .long vak, .int vhr, .ref mil, .ref mic, .ref mwi, .int vho, .int vga, .ref mmo, .int vns, .ref mki, .ref mce, .ref mgo, .ref mwa, .ref mha, .ref mch, .ref mfo, .ref mca, .ref mor, .ref mro, .ref mra, .ref mpr, .ref mho, .ref mis, .int vsg, .ref mss, .ref msc, .ref msh, .int vpr, .int vfa])), (mic, .inl (cZ, 12, .inl Kic)), (mwi, .inl (cI, 1920, .inl (upd wn x_49.toNatClampNeg x_50))), (mmo, .inl (cI, 160, .inl wz)), (mfi, .inl (cI, 6, .inl Kfi))] := hD
                                have zs_51 : (upd wn x_49.toNatClampNeg x_50 x_49.toNatClampNeg).toInt = x_50.toInt := congrArg Int32.toInt (upd_at (wn) x_49.toNatClampNeg x_50)
                                have R_52 : Rg 1920 (-128) 127 (upd wn x_49.toNatClampNeg x_50) := Rg.st R_wn rfl (by omega) (by omega)
                                obtain ⟨x_53, ex_53⟩ : ∃ y : Int32, y = il + 1 := ⟨_, rfl⟩
                                have tx_53 : x_53.toInt = il.toInt + 1 := ad_k ex_53 rfl (by decide) (by omega) (by omega)
                                refine lv_iinc (v := x_53) (lv' := [(6, .int x_53), (0, .ref m0), (1, .int a0), (2, .int a1), (3, .int a2), (4, .int a3), (5, .int a4)]) hx hb dX6_copy_164 hl (k := 0) rfl (by rw [ex_53]; rfl) (by decide) rfl (fun ls hl => ?_)
                                refine lv_goto (tgt := 134) hx hb dX6_copy_167 (by decide) ?_
                                exact ih134 x_53 (upd wn x_49.toNatClampNeg x_50) wz H locs ls ⟨(by first | omega | (simp only [Int32.reduceToInt]; omega)), (by first | omega | (simp only [Int32.reduceToInt]; omega))⟩ R_52 (by first | omega | (simp only [Int32.reduceToInt]; omega)) hmz (by first | omega | (simp only [Int32.reduceToInt]; omega)) hP hD hS (lv_sub hl [0, 1, 2, 3, 4, 5, 6] rfl)
                          exact key134 161 0 Kwi wm _ _ ls (by decide) R_Kwi (by (try simp only [Int32.reduceToInt]); omega) (fun j h => hmo j (by omega)) (by (try simp only [Int32.reduceToInt]); omega) hP hD hS hl
                        · skip
                          have qc_45 : ik.toInt < a4.toInt := nle_k rfl rfl c_45
                          refine lv_aload_n hx hb dX6_copy_103 rfl (lv_at hl 1 rfl) ?_
                          refine va_get (D := (dC, dI)) (ci := 7) (v := .ref mmo) (C := RX6) (T := TX6) (N := 31) hx hb hts iw_X6_copy_X6 hown hK hP 0 rfl rfl 9 (by decide) (hts (.fieldLink RX6 23 "TeaRaceModel" "moving" "[I") (by decide +kernel)) (fun _ h9 => h9) rfl dX6_copy_104 ?_
                          refine lv_iload hx hb dX6_copy_107 (lv_at hl 0 rfl) ?_
                          refine lv_aload_n hx hb dX6_copy_109 rfl (lv_at hl 1 rfl) ?_
                          refine va_get (D := (dC, dI)) (ci := 7) (v := .ref mwi) (C := RX6) (T := TX6) (N := 31) hx hb hts iw_X6_copy_X6 hown hK hP 0 rfl rfl 6 (by decide) (hts (.fieldLink RX6 20 "TeaRaceModel" "winds" "[I") (by decide +kernel)) (fun _ h9 => h9) rfl dX6_copy_110 ?_
                          refine lv_sipush (v := 160) hx hb dX6_copy_113 (by decide) ?_
                          refine lv_iload_n hx hb dX6_copy_116 rfl (lv_at hl 2 rfl) ?_
                          refine lv_imul hx hb dX6_copy_117 ?_
                          refine lv_topi (fun x_54 ex_54 => ?_)
                          have tx_54 : x_54.toInt = 160 * a0.toInt := mu_k ex_54 (by decide) rfl (by omega) (by omega)
                          refine lv_iload_n hx hb dX6_copy_118 rfl (lv_at hl 3 rfl) ?_
                          refine lv_iadd hx hb dX6_copy_119 ?_
                          refine lv_topi (fun x_55 ex_55 => ?_)
                          have tx_55 : x_55.toInt = x_54.toInt + a1.toInt := ad_k ex_55 rfl rfl (by omega) (by omega)
                          refine lv_iload hx hb dX6_copy_120 (lv_at hl 0 rfl) ?_
                          refine lv_iadd hx hb dX6_copy_122 ?_
                          refine lv_topi (fun x_56 ex_56 => ?_)
                          have tx_56 : x_56.toInt = x_55.toInt + ik.toInt := ad_k ex_56 rfl rfl (by omega) (by omega)
                          refine va_iald hx hb hK hP 2 0 rfl rfl (in_k rfl (by omega) (by omega)) dX6_copy_123 ?_
                          refine lv_topi (fun x_57 ex_57 => ?_)
                          have rx_57 := congrArg Int32.toInt ex_57
                          have gx_57 : (-128) ≤ x_57.toInt ∧ x_57.toInt ≤ 127 := Rg.at R_Kwi rfl (by omega) (by omega) ex_57
                          refine va_iast hx hb hK hP hD hS 3 0 rfl rfl (in_k rfl (by omega) (by omega)) dX6_copy_124 (fun H locs hP hD hS => ?_)
                          have hP : va_P (dC, dI) vwCl [(m0, .inr (7, [.int vfi, .ref mfi, .long vak, .int vhr, .ref mil, .ref mic, .ref mwi, .int vho, .int vga, .ref mmo, .int vns, .ref mki, .ref mce, .ref mgo, .ref mwa, .ref mha, .ref mch, .ref mfo, .ref mca, .ref mor, .ref mro, .ref mra, .ref mpr, .ref mho, .ref mis, .int vsg, .ref mss, .ref msc, .ref msh, .int vpr, .int vfa])), (mic, .inl (cZ, 12, .inl Kic)), (mwi, .inl (cI, 1920, .inl Kwi)), (mmo, .inl (cI, 160, .inl (upd wm ik.toNatClampNeg x_57))), (mfi, .inl (cI, 6, .inl Kfi))] H := hP
                          have hD : va_D A [(m0, .inr (7, [.int vfi, .ref mfi, .long vak, .int vhr, .ref mil, .ref mic, .ref mwi, .int vho, .int vga, .ref mmo, .int vns, .ref mki, .ref mce, .ref mgo, .ref mwa, .ref mha, .ref mch, .ref mfo, .ref mca, .ref mor, .ref mro, .ref mra, .ref mpr, .ref mho, .ref mis, .int vsg, .ref mss, .ref msc, .ref msh, .int vpr, .int vfa])), (mic, .inl (cZ, 12, .inl Kic)), (mwi, .inl (cI, 1920, .inl Kwi)), (mmo, .inl (cI, 160, .inl (upd wm ik.toNatClampNeg x_57))), (mfi, .inl (cI, 6, .inl Kfi))] := hD
                          have zs_58 : (upd wm ik.toNatClampNeg x_57 ik.toNatClampNeg).toInt = x_57.toInt := congrArg Int32.toInt (upd_at (wm) ik.toNatClampNeg x_57)
                          obtain ⟨x_59, ex_59⟩ : ∃ y : Int32, y = ik + 1 := ⟨_, rfl⟩
                          have tx_59 : x_59.toInt = ik.toInt + 1 := ad_k ex_59 rfl (by decide) (by omega) (by omega)
                          refine lv_iinc (v := x_59) (lv' := [(6, .int x_59), (0, .ref m0), (1, .int a0), (2, .int a1), (3, .int a2), (4, .int a3), (5, .int a4)]) hx hb dX6_copy_125 hl (k := 0) rfl (by rw [ex_59]; rfl) (by decide) rfl (fun ls hl => ?_)
                          refine lv_goto (tgt := 96) hx hb dX6_copy_128 (by decide) ?_
                          exact ih96 x_59 (upd wm ik.toNatClampNeg x_57) H locs ls ⟨(by first | omega | (simp only [Int32.reduceToInt]; omega)), (by first | omega | (simp only [Int32.reduceToInt]; omega))⟩ (by first | omega | (simp only [Int32.reduceToInt]; omega)) (by rw [tx_59]; exact upto_step hmo (by omega) (by omega) (by omega)) (by first | omega | (simp only [Int32.reduceToInt]; omega)) hP hD hS (lv_sub hl [0, 1, 2, 3, 4, 5, 6] rfl)
                    exact key96 161 0 Kmo _ _ ls (by decide) (by (try simp only [Int32.reduceToInt]); omega) (fun j h => absurd h (by simp only [Int32.reduceToInt]; omega)) (by (try simp only [Int32.reduceToInt]); omega) hP hD hS hl
                  · skip
                    refine lv_aload_n hx hb dX6_copy_87 rfl (lv_at hl 0 rfl) ?_
                    refine lv_iconst (v := 2) hx hb dX6_copy_88 (by decide) ?_
                    have hPc := hP.sub (ws' := [(m0, .inr (7, [.int vfi, .ref mfi, .long vak, .int vhr, .ref mil, .ref mic, .ref mwi, .int vho, .int vga, .ref mmo, .int vns, .ref mki, .ref mce, .ref mgo, .ref mwa, .ref mha, .ref mch, .ref mfo, .ref mca, .ref mor, .ref mro, .ref mra, .ref mpr, .ref mho, .ref mis, .int vsg, .ref mss, .ref msc, .ref msh, .int vpr, .int vfa])), (mfi, .inl (cI, 6, .inl Kfi))]) [0, 4] rfl
                    have hDc := hD.sub (ws' := [(m0, .inr (7, [.int vfi, .ref mfi, .long vak, .int vhr, .ref mil, .ref mic, .ref mwi, .int vho, .int vga, .ref mmo, .int vns, .ref mki, .ref mce, .ref mgo, .ref mwa, .ref mha, .ref mch, .ref mfo, .ref mca, .ref mor, .ref mro, .ref mra, .ref mpr, .ref mho, .ref mis, .int vsg, .ref mss, .ref msc, .ref msh, .int vpr, .int vfa])), (mfi, .inl (cI, 6, .inl Kfi))]) [0, 4] (by decide) rfl
                    have hKc := hK.sub (tys' := [(cI, .int)]) [0] rfl
                    have hFc := va_free (wc := [(m0, .inr (7, [.int vfi, .ref mfi, .long vak, .int vhr, .ref mil, .ref mic, .ref mwi, .int vho, .int vga, .ref mmo, .int vns, .ref mki, .ref mce, .ref mgo, .ref mwa, .ref mha, .ref mch, .ref mfo, .ref mca, .ref mor, .ref mro, .ref mra, .ref mpr, .ref mho, .ref mis, .int vsg, .ref mss, .ref msc, .ref msh, .int vpr, .int vfa])), (mfi, .inl (cI, 6, .inl Kfi))]) hD hS hA [0, 4] rfl
                    refine va_calli (va_runV (As := [.int 2]) (rest := []) ⟨hx, hb, hml, hown, hts⟩ (c_X6_meets l dC dI H.size m0 mfi mil mic mwi mmo mki mce mgo mwa mha mch mfo mca mor mro mra mpr mho mis mss msc msh vfi vhr vho vga vns vsg vpr vfa vak Kfi cI 2 (by decide)) (cwV 1 hts gX6_copy_X6_meets rfl rfl rfl (by decide +kernel) ⟨Nat.le_of_ble_eq_true rfl, Nat.le_of_ble_eq_true rfl⟩) ⟨fun a U g mk q => by obtain ⟨q0, q1, qP, qK, qN, qD⟩ := q; exact ⟨q0, q1, qP, va_K.moved (u := U) (U := U.calling g mk a) (Vm.Alike.refl U.vm) qK, NW.same (u := U) (U := U.calling g mk a) rfl qN, qD⟩, va_recv hKc hPc (ci := 7) (q0 := 0) rfl rfl, fun U hU hW => ⟨rfl, by rw [hU], by rw [hU]; exact hPc, va_K.moved hW.alike hKc, NW.warm hW hN, hDc.weaken (fun _ _ _ _ => trivial)⟩⟩ rfl rfl hl.1 rfl (lv_room (Nat.le_of_ble_eq_true rfl)) dX6_copy_89 ⟨(Nat.zero_le _), (Nat.zero_le _)⟩) hS (fun q _ h => hFc q h) hFc (fun r_60 u t H1 locs ht hvm k_61 hB hz1 hk1 hS => ?_)
                    obtain ⟨u_62, eu_62⟩ : ∃ z, z = u := ⟨_, rfl⟩
                    subst eu_62
                    obtain ⟨hP1, hK1, hD1⟩ := hB
                    rw [ht] at hP1
                    have hK1 := va_K.moved hvm.symm hK1
                    obtain ⟨hP, hD⟩ := va_join (wr := [(mic, .inl (cZ, 12, .inl Kic)), (mwi, .inl (cI, 1920, .inl Kwi)), (mmo, .inl (cI, 160, .inl Kmo))]) (w1 := [(m0, .inr (7, [.int 2, .ref mfi, .long vak, .int vhr, .ref mil, .ref mic, .ref mwi, .int vho, .int vga, .ref mmo, .int vns, .ref mki, .ref mce, .ref mgo, .ref mwa, .ref mha, .ref mch, .ref mfo, .ref mca, .ref mor, .ref mro, .ref mra, .ref mpr, .ref mho, .ref mis, .int vsg, .ref mss, .ref msc, .ref msh, .int vpr, .int vfa])), (mfi, .inl (cI, 6, .inl u_62))]) hP hD [0, 4] [1, 2, 3] rfl rfl (by decide) (by decide) hk1 hFc hP1 hD1
                    generalize H1 = H at hP hS ⊢
                    have hP : va_P (dC, dI) vwCl [(mic, .inl (cZ, 12, .inl Kic)), (mwi, .inl (cI, 1920, .inl Kwi)), (mmo, .inl (cI, 160, .inl Kmo)), (m0, .inr (7, [.int 2, .ref mfi, .long vak, .int vhr, .ref mil, .ref mic, .ref mwi, .int vho, .int vga, .ref mmo, .int vns, .ref mki, .ref mce, .ref mgo, .ref mwa, .ref mha, .ref mch, .ref mfo, .ref mca, .ref mor, .ref mro, .ref mra, .ref mpr, .ref mho, .ref mis, .int vsg, .ref mss, .ref msc, .ref msh, .int vpr, .int vfa])), (mfi, .inl (cI, 6, .inl u_62))] H := hP
                    have hD : va_D A [(mic, .inl (cZ, 12, .inl Kic)), (mwi, .inl (cI, 1920, .inl Kwi)), (mmo, .inl (cI, 160, .inl Kmo)), (m0, .inr (7, [.int 2, .ref mfi, .long vak, .int vhr, .ref mil, .ref mic, .ref mwi, .int vho, .int vga, .ref mmo, .int vns, .ref mki, .ref mce, .ref mgo, .ref mwa, .ref mha, .ref mch, .ref mfo, .ref mca, .ref mor, .ref mro, .ref mra, .ref mpr, .ref mho, .ref mis, .int vsg, .ref mss, .ref msc, .ref msh, .int vpr, .int vfa])), (mfi, .inl (cI, 6, .inl u_62))] := hD
                    try dsimp only at k_61
                    obtain ⟨k_61, k_63⟩ := k_61
                    obtain rfl : r_60 = (-3) := k_61
                    have hP9 := hP.sub (ws' := [(m0, .inr (7, [.int 2, .ref mfi, .long vak, .int vhr, .ref mil, .ref mic, .ref mwi, .int vho, .int vga, .ref mmo, .int vns, .ref mki, .ref mce, .ref mgo, .ref mwa, .ref mha, .ref mch, .ref mfo, .ref mca, .ref mor, .ref mro, .ref mra, .ref mpr, .ref mho, .ref mis, .int vsg, .ref mss, .ref msc, .ref msh, .int vpr, .int vfa])), (mic, .inl (cZ, 12, .inl Kic)), (mwi, .inl (cI, 1920, .inl Kwi)), (mmo, .inl (cI, 160, .inl Kmo)), (mfi, .inl (cI, 6, .inl u_62))]) [3, 0, 1, 2, 4] rfl
                    have hD9 := hD.sub (ws' := [(m0, .inr (7, [.int 2, .ref mfi, .long vak, .int vhr, .ref mil, .ref mic, .ref mwi, .int vho, .int vga, .ref mmo, .int vns, .ref mki, .ref mce, .ref mgo, .ref mwa, .ref mha, .ref mch, .ref mfo, .ref mca, .ref mor, .ref mro, .ref mra, .ref mpr, .ref mho, .ref mis, .int vsg, .ref mss, .ref msc, .ref msh, .int vpr, .int vfa])), (mic, .inl (cZ, 12, .inl Kic)), (mwi, .inl (cI, 1920, .inl Kwi)), (mmo, .inl (cI, 160, .inl Kmo)), (mfi, .inl (cI, 6, .inl u_62))]) [3, 0, 1, 2, 4] (by decide) rfl
                    have hK9 := hK.sub (tys' := [(cI, .int), (cZ, .boolean)]) [0, 1] rfl
                    have hv9 : (-3 : Int32).toInt = (-3) := by decide
                    exact W.iret (v := (-3)) hx hb hr (fun t ht hW => ⟨⟨(-3), (2, u_62, Kwi, Kmo), rfl, (show Rg 1920 (-128) 127 Kwi from R_Kwi), ⟨by rw [ht]; exact hP9, va_K.moved hW.alike hK9, hD9⟩⟩, hS.F ht⟩) hS.2.2 dX6_copy_92
          · skip
            have qc_20 : x_19.toInt = 0 := eq_k rfl (by decide) c_20
            refine lv_aload_n hx hb dX6_copy_45 rfl (lv_at hl 0 rfl) ?_
            refine lv_iconst (v := 1) hx hb dX6_copy_46 (by decide) ?_
            have hPc := hP.sub (ws' := [(m0, .inr (7, [.int vfi, .ref mfi, .long vak, .int vhr, .ref mil, .ref mic, .ref mwi, .int vho, .int vga, .ref mmo, .int vns, .ref mki, .ref mce, .ref mgo, .ref mwa, .ref mha, .ref mch, .ref mfo, .ref mca, .ref mor, .ref mro, .ref mra, .ref mpr, .ref mho, .ref mis, .int vsg, .ref mss, .ref msc, .ref msh, .int vpr, .int vfa])), (mfi, .inl (cI, 6, .inl Kfi))]) [0, 4] rfl
            have hDc := hD.sub (ws' := [(m0, .inr (7, [.int vfi, .ref mfi, .long vak, .int vhr, .ref mil, .ref mic, .ref mwi, .int vho, .int vga, .ref mmo, .int vns, .ref mki, .ref mce, .ref mgo, .ref mwa, .ref mha, .ref mch, .ref mfo, .ref mca, .ref mor, .ref mro, .ref mra, .ref mpr, .ref mho, .ref mis, .int vsg, .ref mss, .ref msc, .ref msh, .int vpr, .int vfa])), (mfi, .inl (cI, 6, .inl Kfi))]) [0, 4] (by decide) rfl
            have hKc := hK.sub (tys' := [(cI, .int)]) [0] rfl
            have hFc := va_free (wc := [(m0, .inr (7, [.int vfi, .ref mfi, .long vak, .int vhr, .ref mil, .ref mic, .ref mwi, .int vho, .int vga, .ref mmo, .int vns, .ref mki, .ref mce, .ref mgo, .ref mwa, .ref mha, .ref mch, .ref mfo, .ref mca, .ref mor, .ref mro, .ref mra, .ref mpr, .ref mho, .ref mis, .int vsg, .ref mss, .ref msc, .ref msh, .int vpr, .int vfa])), (mfi, .inl (cI, 6, .inl Kfi))]) hD hS hA [0, 4] rfl
            refine va_calli (va_runV (As := [.int 1]) (rest := []) ⟨hx, hb, hml, hown, hts⟩ (c_X6_meets l dC dI H.size m0 mfi mil mic mwi mmo mki mce mgo mwa mha mch mfo mca mor mro mra mpr mho mis mss msc msh vfi vhr vho vga vns vsg vpr vfa vak Kfi cI 1 (by decide)) (cwV 1 hts gX6_copy_X6_meets rfl rfl rfl (by decide +kernel) ⟨Nat.le_of_ble_eq_true rfl, Nat.le_of_ble_eq_true rfl⟩) ⟨fun a U g mk q => by obtain ⟨q0, q1, qP, qK, qN, qD⟩ := q; exact ⟨q0, q1, qP, va_K.moved (u := U) (U := U.calling g mk a) (Vm.Alike.refl U.vm) qK, NW.same (u := U) (U := U.calling g mk a) rfl qN, qD⟩, va_recv hKc hPc (ci := 7) (q0 := 0) rfl rfl, fun U hU hW => ⟨rfl, by rw [hU], by rw [hU]; exact hPc, va_K.moved hW.alike hKc, NW.warm hW hN, hDc.weaken (fun _ _ _ _ => trivial)⟩⟩ rfl rfl hl.1 rfl (lv_room (Nat.le_of_ble_eq_true rfl)) dX6_copy_47 ⟨(Nat.zero_le _), (Nat.zero_le _)⟩) hS (fun q _ h => hFc q h) hFc (fun r_64 u t H1 locs ht hvm k_65 hB hz1 hk1 hS => ?_)
            obtain ⟨u_66, eu_66⟩ : ∃ z, z = u := ⟨_, rfl⟩
            subst eu_66
            obtain ⟨hP1, hK1, hD1⟩ := hB
            rw [ht] at hP1
            have hK1 := va_K.moved hvm.symm hK1
            obtain ⟨hP, hD⟩ := va_join (wr := [(mic, .inl (cZ, 12, .inl Kic)), (mwi, .inl (cI, 1920, .inl Kwi)), (mmo, .inl (cI, 160, .inl Kmo))]) (w1 := [(m0, .inr (7, [.int 1, .ref mfi, .long vak, .int vhr, .ref mil, .ref mic, .ref mwi, .int vho, .int vga, .ref mmo, .int vns, .ref mki, .ref mce, .ref mgo, .ref mwa, .ref mha, .ref mch, .ref mfo, .ref mca, .ref mor, .ref mro, .ref mra, .ref mpr, .ref mho, .ref mis, .int vsg, .ref mss, .ref msc, .ref msh, .int vpr, .int vfa])), (mfi, .inl (cI, 6, .inl u_66))]) hP hD [0, 4] [1, 2, 3] rfl rfl (by decide) (by decide) hk1 hFc hP1 hD1
            generalize H1 = H at hP hS ⊢
            have hP : va_P (dC, dI) vwCl [(mic, .inl (cZ, 12, .inl Kic)), (mwi, .inl (cI, 1920, .inl Kwi)), (mmo, .inl (cI, 160, .inl Kmo)), (m0, .inr (7, [.int 1, .ref mfi, .long vak, .int vhr, .ref mil, .ref mic, .ref mwi, .int vho, .int vga, .ref mmo, .int vns, .ref mki, .ref mce, .ref mgo, .ref mwa, .ref mha, .ref mch, .ref mfo, .ref mca, .ref mor, .ref mro, .ref mra, .ref mpr, .ref mho, .ref mis, .int vsg, .ref mss, .ref msc, .ref msh, .int vpr, .int vfa])), (mfi, .inl (cI, 6, .inl u_66))] H := hP
            have hD : va_D A [(mic, .inl (cZ, 12, .inl Kic)), (mwi, .inl (cI, 1920, .inl Kwi)), (mmo, .inl (cI, 160, .inl Kmo)), (m0, .inr (7, [.int 1, .ref mfi, .long vak, .int vhr, .ref mil, .ref mic, .ref mwi, .int vho, .int vga, .ref mmo, .int vns, .ref mki, .ref mce, .ref mgo, .ref mwa, .ref mha, .ref mch, .ref mfo, .ref mca, .ref mor, .ref mro, .ref mra, .ref mpr, .ref mho, .ref mis, .int vsg, .ref mss, .ref msc, .ref msh, .int vpr, .int vfa])), (mfi, .inl (cI, 6, .inl u_66))] := hD
            try dsimp only at k_65
            obtain ⟨k_65, k_67⟩ := k_65
            obtain rfl : r_64 = (-3) := k_65
            have hP9 := hP.sub (ws' := [(m0, .inr (7, [.int 1, .ref mfi, .long vak, .int vhr, .ref mil, .ref mic, .ref mwi, .int vho, .int vga, .ref mmo, .int vns, .ref mki, .ref mce, .ref mgo, .ref mwa, .ref mha, .ref mch, .ref mfo, .ref mca, .ref mor, .ref mro, .ref mra, .ref mpr, .ref mho, .ref mis, .int vsg, .ref mss, .ref msc, .ref msh, .int vpr, .int vfa])), (mic, .inl (cZ, 12, .inl Kic)), (mwi, .inl (cI, 1920, .inl Kwi)), (mmo, .inl (cI, 160, .inl Kmo)), (mfi, .inl (cI, 6, .inl u_66))]) [3, 0, 1, 2, 4] rfl
            have hD9 := hD.sub (ws' := [(m0, .inr (7, [.int 1, .ref mfi, .long vak, .int vhr, .ref mil, .ref mic, .ref mwi, .int vho, .int vga, .ref mmo, .int vns, .ref mki, .ref mce, .ref mgo, .ref mwa, .ref mha, .ref mch, .ref mfo, .ref mca, .ref mor, .ref mro, .ref mra, .ref mpr, .ref mho, .ref mis, .int vsg, .ref mss, .ref msc, .ref msh, .int vpr, .int vfa])), (mic, .inl (cZ, 12, .inl Kic)), (mwi, .inl (cI, 1920, .inl Kwi)), (mmo, .inl (cI, 160, .inl Kmo)), (mfi, .inl (cI, 6, .inl u_66))]) [3, 0, 1, 2, 4] (by decide) rfl
            have hK9 := hK.sub (tys' := [(cI, .int), (cZ, .boolean)]) [0, 1] rfl
            have hv9 : (-3 : Int32).toInt = (-3) := by decide
            exact W.iret (v := (-3)) hx hb hr (fun t ht hW => ⟨⟨(-3), (1, u_66, Kwi, Kmo), rfl, (show Rg 1920 (-128) 127 Kwi from R_Kwi), ⟨by rw [ht]; exact hP9, va_K.moved hW.alike hK9, hD9⟩⟩, hS.F ht⟩) hS.2.2 dX6_copy_50
      · skip
        have qc_12 : a4.toInt < 0 := nle_k (by decide) rfl c_12
        refine lv_aload_n hx hb dX6_copy_21 rfl (lv_at hl 0 rfl) ?_
        refine lv_iconst (v := 5) hx hb dX6_copy_22 (by decide) ?_
        have hPc := hP.sub (ws' := [(m0, .inr (7, [.int vfi, .ref mfi, .long vak, .int vhr, .ref mil, .ref mic, .ref mwi, .int vho, .int vga, .ref mmo, .int vns, .ref mki, .ref mce, .ref mgo, .ref mwa, .ref mha, .ref mch, .ref mfo, .ref mca, .ref mor, .ref mro, .ref mra, .ref mpr, .ref mho, .ref mis, .int vsg, .ref mss, .ref msc, .ref msh, .int vpr, .int vfa])), (mfi, .inl (cI, 6, .inl Kfi))]) [0, 4] rfl
        have hDc := hD.sub (ws' := [(m0, .inr (7, [.int vfi, .ref mfi, .long vak, .int vhr, .ref mil, .ref mic, .ref mwi, .int vho, .int vga, .ref mmo, .int vns, .ref mki, .ref mce, .ref mgo, .ref mwa, .ref mha, .ref mch, .ref mfo, .ref mca, .ref mor, .ref mro, .ref mra, .ref mpr, .ref mho, .ref mis, .int vsg, .ref mss, .ref msc, .ref msh, .int vpr, .int vfa])), (mfi, .inl (cI, 6, .inl Kfi))]) [0, 4] (by decide) rfl
        have hKc := hK.sub (tys' := [(cI, .int)]) [0] rfl
        have hFc := va_free (wc := [(m0, .inr (7, [.int vfi, .ref mfi, .long vak, .int vhr, .ref mil, .ref mic, .ref mwi, .int vho, .int vga, .ref mmo, .int vns, .ref mki, .ref mce, .ref mgo, .ref mwa, .ref mha, .ref mch, .ref mfo, .ref mca, .ref mor, .ref mro, .ref mra, .ref mpr, .ref mho, .ref mis, .int vsg, .ref mss, .ref msc, .ref msh, .int vpr, .int vfa])), (mfi, .inl (cI, 6, .inl Kfi))]) hD hS hA [0, 4] rfl
        refine va_calli (va_runV (As := [.int 5]) (rest := []) ⟨hx, hb, hml, hown, hts⟩ (c_X6_meets l dC dI H.size m0 mfi mil mic mwi mmo mki mce mgo mwa mha mch mfo mca mor mro mra mpr mho mis mss msc msh vfi vhr vho vga vns vsg vpr vfa vak Kfi cI 5 (by decide)) (cwV 1 hts gX6_copy_X6_meets rfl rfl rfl (by decide +kernel) ⟨Nat.le_of_ble_eq_true rfl, Nat.le_of_ble_eq_true rfl⟩) ⟨fun a U g mk q => by obtain ⟨q0, q1, qP, qK, qN, qD⟩ := q; exact ⟨q0, q1, qP, va_K.moved (u := U) (U := U.calling g mk a) (Vm.Alike.refl U.vm) qK, NW.same (u := U) (U := U.calling g mk a) rfl qN, qD⟩, va_recv hKc hPc (ci := 7) (q0 := 0) rfl rfl, fun U hU hW => ⟨rfl, by rw [hU], by rw [hU]; exact hPc, va_K.moved hW.alike hKc, NW.warm hW hN, hDc.weaken (fun _ _ _ _ => trivial)⟩⟩ rfl rfl hl.1 rfl (lv_room (Nat.le_of_ble_eq_true rfl)) dX6_copy_23 ⟨(Nat.zero_le _), (Nat.zero_le _)⟩) hS (fun q _ h => hFc q h) hFc (fun r_68 u t H1 locs ht hvm k_69 hB hz1 hk1 hS => ?_)
        obtain ⟨u_70, eu_70⟩ : ∃ z, z = u := ⟨_, rfl⟩
        subst eu_70
        obtain ⟨hP1, hK1, hD1⟩ := hB
        rw [ht] at hP1
        have hK1 := va_K.moved hvm.symm hK1
        obtain ⟨hP, hD⟩ := va_join (wr := [(mic, .inl (cZ, 12, .inl Kic)), (mwi, .inl (cI, 1920, .inl Kwi)), (mmo, .inl (cI, 160, .inl Kmo))]) (w1 := [(m0, .inr (7, [.int 5, .ref mfi, .long vak, .int vhr, .ref mil, .ref mic, .ref mwi, .int vho, .int vga, .ref mmo, .int vns, .ref mki, .ref mce, .ref mgo, .ref mwa, .ref mha, .ref mch, .ref mfo, .ref mca, .ref mor, .ref mro, .ref mra, .ref mpr, .ref mho, .ref mis, .int vsg, .ref mss, .ref msc, .ref msh, .int vpr, .int vfa])), (mfi, .inl (cI, 6, .inl u_70))]) hP hD [0, 4] [1, 2, 3] rfl rfl (by decide) (by decide) hk1 hFc hP1 hD1
        generalize H1 = H at hP hS ⊢
        have hP : va_P (dC, dI) vwCl [(mic, .inl (cZ, 12, .inl Kic)), (mwi, .inl (cI, 1920, .inl Kwi)), (mmo, .inl (cI, 160, .inl Kmo)), (m0, .inr (7, [.int 5, .ref mfi, .long vak, .int vhr, .ref mil, .ref mic, .ref mwi, .int vho, .int vga, .ref mmo, .int vns, .ref mki, .ref mce, .ref mgo, .ref mwa, .ref mha, .ref mch, .ref mfo, .ref mca, .ref mor, .ref mro, .ref mra, .ref mpr, .ref mho, .ref mis, .int vsg, .ref mss, .ref msc, .ref msh, .int vpr, .int vfa])), (mfi, .inl (cI, 6, .inl u_70))] H := hP
        have hD : va_D A [(mic, .inl (cZ, 12, .inl Kic)), (mwi, .inl (cI, 1920, .inl Kwi)), (mmo, .inl (cI, 160, .inl Kmo)), (m0, .inr (7, [.int 5, .ref mfi, .long vak, .int vhr, .ref mil, .ref mic, .ref mwi, .int vho, .int vga, .ref mmo, .int vns, .ref mki, .ref mce, .ref mgo, .ref mwa, .ref mha, .ref mch, .ref mfo, .ref mca, .ref mor, .ref mro, .ref mra, .ref mpr, .ref mho, .ref mis, .int vsg, .ref mss, .ref msc, .ref msh, .int vpr, .int vfa])), (mfi, .inl (cI, 6, .inl u_70))] := hD
        try dsimp only at k_69
        obtain ⟨k_69, k_71⟩ := k_69
        obtain rfl : r_68 = (-3) := k_69
        have hP9 := hP.sub (ws' := [(m0, .inr (7, [.int 5, .ref mfi, .long vak, .int vhr, .ref mil, .ref mic, .ref mwi, .int vho, .int vga, .ref mmo, .int vns, .ref mki, .ref mce, .ref mgo, .ref mwa, .ref mha, .ref mch, .ref mfo, .ref mca, .ref mor, .ref mro, .ref mra, .ref mpr, .ref mho, .ref mis, .int vsg, .ref mss, .ref msc, .ref msh, .int vpr, .int vfa])), (mic, .inl (cZ, 12, .inl Kic)), (mwi, .inl (cI, 1920, .inl Kwi)), (mmo, .inl (cI, 160, .inl Kmo)), (mfi, .inl (cI, 6, .inl u_70))]) [3, 0, 1, 2, 4] rfl
        have hD9 := hD.sub (ws' := [(m0, .inr (7, [.int 5, .ref mfi, .long vak, .int vhr, .ref mil, .ref mic, .ref mwi, .int vho, .int vga, .ref mmo, .int vns, .ref mki, .ref mce, .ref mgo, .ref mwa, .ref mha, .ref mch, .ref mfo, .ref mca, .ref mor, .ref mro, .ref mra, .ref mpr, .ref mho, .ref mis, .int vsg, .ref mss, .ref msc, .ref msh, .int vpr, .int vfa])), (mic, .inl (cZ, 12, .inl Kic)), (mwi, .inl (cI, 1920, .inl Kwi)), (mmo, .inl (cI, 160, .inl Kmo)), (mfi, .inl (cI, 6, .inl u_70))]) [3, 0, 1, 2, 4] (by decide) rfl
        have hK9 := hK.sub (tys' := [(cI, .int), (cZ, .boolean)]) [0, 1] rfl
        have hv9 : (-3 : Int32).toInt = (-3) := by decide
        exact W.iret (v := (-3)) hx hb hr (fun t ht hW => ⟨⟨(-3), (5, u_70, Kwi, Kmo), rfl, (show Rg 1920 (-128) 127 Kwi from R_Kwi), ⟨by rw [ht]; exact hP9, va_K.moved hW.alike hK9, hD9⟩⟩, hS.F ht⟩) hS.2.2 dX6_copy_26
    · skip
      have b_72 := b01z k_8 c_10
      (try simp only [Int32.lt_iff_toInt_lt, Int32.le_iff_toInt_le, ← Int32.toInt_inj, Int32.reduceToInt, zl1, zl2, zl3, zl4, zl9] at b_72)
      (try simp only [Int32.reduceToInt] at b_72)
      refine lv_iconst (v := (-1)) hx hb dX6_copy_14 (by decide) ?_
      have hP9 := hP.sub (ws' := [(m0, .inr (7, [.int vfi, .ref mfi, .long vak, .int vhr, .ref mil, .ref mic, .ref mwi, .int vho, .int vga, .ref mmo, .int vns, .ref mki, .ref mce, .ref mgo, .ref mwa, .ref mha, .ref mch, .ref mfo, .ref mca, .ref mor, .ref mro, .ref mra, .ref mpr, .ref mho, .ref mis, .int vsg, .ref mss, .ref msc, .ref msh, .int vpr, .int vfa])), (mic, .inl (cZ, 12, .inl Kic)), (mwi, .inl (cI, 1920, .inl Kwi)), (mmo, .inl (cI, 160, .inl Kmo)), (mfi, .inl (cI, 6, .inl Kfi))]) [0, 1, 2, 3, 4] rfl
      have hD9 := hD.sub (ws' := [(m0, .inr (7, [.int vfi, .ref mfi, .long vak, .int vhr, .ref mil, .ref mic, .ref mwi, .int vho, .int vga, .ref mmo, .int vns, .ref mki, .ref mce, .ref mgo, .ref mwa, .ref mha, .ref mch, .ref mfo, .ref mca, .ref mor, .ref mro, .ref mra, .ref mpr, .ref mho, .ref mis, .int vsg, .ref mss, .ref msc, .ref msh, .int vpr, .int vfa])), (mic, .inl (cZ, 12, .inl Kic)), (mwi, .inl (cI, 1920, .inl Kwi)), (mmo, .inl (cI, 160, .inl Kmo)), (mfi, .inl (cI, 6, .inl Kfi))]) [0, 1, 2, 3, 4] (by decide) rfl
      have hK9 := hK.sub (tys' := [(cI, .int), (cZ, .boolean)]) [0, 1] rfl
      have hv9 : (-1 : Int32).toInt = (-1) := by decide
      exact W.iret (v := (-1)) hx hb hr (fun t ht hW => ⟨⟨(-1), (vfi, Kfi, Kwi, Kmo), rfl, (show Rg 1920 (-128) 127 Kwi from R_Kwi), ⟨by rw [ht]; exact hP9, va_K.moved hW.alike hK9, hD9⟩⟩, hS.F ht⟩) hS.2.2 dX6_copy_15
