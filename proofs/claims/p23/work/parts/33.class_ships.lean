set_option maxRecDepth 20000 in
theorem iw_X5_shipOf_X5 : ∀ w ∈ wsX50, w ∈ wsX5_shipOf := by decide +kernel
set_option maxHeartbeats 4000000 in
set_option maxRecDepth 100000 in
/-- shipOf -/
theorem c_X5_shipOf (l : Launch) (dC : Nat → ClassId) (dI : Nat → Nat → Nat) (sz : Nat) (L : List Nat) (f : Nat → va_E) (h0 : Nat) (sea : Nat) (pas : Nat) (fl : Nat) (fc : Nat) (xlf : Int32) (xhr : Int32) (xho : Int32) (xga : Int32) (xsg : Int32) (xpr : Int32) (xfa : Int32) (xls : Int64) (cB : ClassId) (own : Nat → Nat) (te : Nat) (cO : ClassId) (rr : Nat → Nat) (cw : Nat → Nat → Int32) (n : Nat) (sa : Nat → Nat) (V : Nat → Nat → Int32) (oa : Nat → Nat) (ia : Nat → Nat) (nO : Nat → Nat) (OW : Nat → Nat → Nat → Int32) (nS : Nat → Nat) (SW : Nat → Nat → Nat → Int32) (a0 : Int32) (inv : Inv L f own te cO cB rr cw fl n sa V oa ia nO OW nS SW) : Met l yX5_shipOf wsX5_shipOf ({ frames := 3, cells := 0, slots := 0, locals := 64 }) (va_Pc [.ref h0, .int a0] (fun U => U.heap.size = sz ∧ va_P (dC, dI) vwCl ([(h0, .inr (6, [.ref sea, .ref pas, .ref fl, .ref fc, .int xlf, .int xhr, .int xho, .int xga, .int xsg, .int xpr, .int xfa, .long xls]))] ++ va_pl L f) U.heap ∧ va_K (dC, dI) vwCl [(cO, .object "java/lang/Object")] U ∧ NW U)) (va_Qq (fun (r : Option Nat) (_ : Unit) => (∀ x, r = some x → 0 ≤ a0.toInt ∧ a0.toInt < (n : Int) ∧ x = sa a0.toNatClampNeg) ∧ (r = none → ¬ (0 ≤ a0.toInt ∧ a0.toInt < (n : Int)))) (fun _ _ => True) (va_A [] sz)) 0 0 (va_A [] sz) := by
  refine Met.ofW (cc := cX5_shipOf) (maxL := 2) (ret := (some (.object "TeaRace$Ship"))) (by decide) rfl ?_
  intro p e s m args below meth c s₁ B hml hv
  obtain ⟨rfl, hsz, hP, hK, hN⟩ := hv
  have hx := B.exec
  have hb := B.bytes
  have hr := B.returns
  have hts := atoms_spec (ws := wsX5_shipOf) B.pre
  have hown : s.vm.findClass RX5 = some m.cls := findClass_of_methodNamed B.named
  have hlocks := B.notSynchronized
  subst hsz
  generalize hAe : va_A [] s.heap.size = A at ⊢
  have hA : ∀ q : Nat, s.heap.size ≤ q → A q := fun q h => by rw [← hAe]; exact Or.inr h
  have hS : va_S A s.heap s.heap [] := va_S.rf
  have hP : va_P (dC, dI) vwCl ([(h0, .inr (6, [.ref sea, .ref pas, .ref fl, .ref fc, .int xlf, .int xhr, .int xho, .int xga, .int xsg, .int xpr, .int xfa, .long xls]))] ++ va_pl L f) s.heap := hP
  have hl := lv_entry ([.ref h0, .int a0]) (n := 2) (Nat.le_of_ble_eq_true rfl)
  rw [lg_entry_eq]
  generalize (lg_sl ([.ref h0, .int a0]) ++ List.replicate (2 - (lg_sl ([.ref h0, .int a0])).length) Slot.unset).toArray = ls at hl ⊢
  have hl : lv_has ls 2 [(0, .ref h0), (1, .int a0)] := hl
  refine lv_iload_n hx hb dX5_shipOf_0 rfl (lv_at hl 1 rfl) ?_
  refine lv_if_lt (tgt := 17) hx hb dX5_shipOf_1 (by decide) (fun c_1 => ?_) (fun c_1 => ?_)
  · skip
    have qc_1 : a0.toInt < 0 := lt_k rfl (by decide) c_1
    refine lv_null hx hb dX5_shipOf_17 ?_
    refine lv_goto (tgt := 34) hx hb dX5_shipOf_18 (by decide) ?_
    exact W.aret (v := .null) hx hb hr (Or.inl ⟨_, rfl⟩) (Or.inl rfl) (fun t ht hW => ⟨⟨none, (), rfl, ⟨(fun x hx => by cases hx), (fun _ => by omega)⟩, trivial⟩, hS.F ht⟩) hS.2.2 dX5_shipOf_34
  · skip
    have qc_1 : 0 ≤ a0.toInt := nlt_k rfl (by decide) c_1
    refine lv_iload_n hx hb dX5_shipOf_4 rfl (lv_at hl 1 rfl) ?_
    refine lv_aload_n hx hb dX5_shipOf_5 rfl (lv_at hl 0 rfl) ?_
    refine va_get (D := (dC, dI)) (ci := 6) (v := .ref fl) (C := RX5) (T := TX5) (N := 12) hx hb hts iw_X5_shipOf_X5 hown hK hP 0 rfl rfl 2 (by decide) (hts (.fieldLink RX5 26 "TeaRace" "fleet" "Ljava/util/List;") (by decide +kernel)) (fun _ h9 => h9) rfl dX5_shipOf_6 ?_
    have hlf_2 := inv.2.1
    have hPc : va_P (dC, dI) vwCl (([] : va_W) ++ va_pl L f) s.heap := va_P.part (X := [(h0, .inr (6, [.ref sea, .ref pas, .ref fl, .ref fc, .int xlf, .int xhr, .int xho, .int xga, .int xsg, .int xpr, .int xfa, .long xls]))]) hP [] rfl
    have hKc := hK.sub (tys' := []) [] rfl
    obtain ⟨mc_3, ar_4, hm_5, hv_6, hn_7, hb_8⟩ := LstAt.obj hlf_2
    obtain ⟨k8_9, hk8_9⟩ : ∃ k : Nat, (([] : va_W) ++ va_pl L f)[k]? = some (fl, .inr (0, [.int mc_3, .ref ar_4, .int (nI n)])) := pl_at hm_5 hv_6
    refine va_callFi (va_runF (va_atK hKc (ci := 0) rfl) (As := []) (rest := [.int a0]) ⟨hx, hb, hml, hown, hts⟩ (c_Jx4a65c_size_8abf5 l dC dI s.heap.size L f te fl n sa cO hlf_2) (va_cwF 0 hts gX5_shipOf_Jx4a65c_size_8abf5_f107Jx4a65c rfl rfl rfl hN.fSize (by decide +kernel) ⟨Nat.le_of_ble_eq_true rfl, Nat.le_of_ble_eq_true rfl⟩) ⟨fun a U g mk q => by obtain ⟨q0, q1, qP, qK, qN⟩ := q; exact ⟨q0, q1, qP, va_K.moved (u := U) (U := U.calling g mk a) (Vm.Alike.refl U.vm) qK, NW.same (u := U) (U := U.calling g mk a) rfl qN⟩, va_recv hKc hPc (ci := 0) (q0 := k8_9) rfl hk8_9, fun U hU hW => ⟨rfl, by rw [hU], by rw [hU]; exact hPc, va_K.moved hW.alike hKc, NW.warm hW hN⟩⟩ rfl rfl hl.1 rfl (lv_room (Nat.le_of_ble_eq_true rfl)) dX5_shipOf_9 ⟨(Nat.zero_le _), (Nat.zero_le _)⟩) hS (fun q _ h => ro_A hS hA q h) (ro_A hS hA) (fun r_10 u t H1 locs ht hvm k_11 hB hz1 hk1 hS => ?_)
    have hP := ro_P hk1 hP
    generalize H1 = H at hP hS ⊢
    try dsimp only at k_11
    obtain ⟨k_11, k_12, k_13⟩ := k_11
    refine lv_icmp_lt (tgt := 21) hx hb dX5_shipOf_14 (by decide) (fun c_14 => ?_) (fun c_14 => ?_)
    · skip
      have qc_14 : a0.toInt < r_10.toInt := lt_k rfl rfl c_14
      refine lv_aload_n hx hb dX5_shipOf_21 rfl (lv_at hl 0 rfl) ?_
      refine va_get (D := (dC, dI)) (ci := 6) (v := .ref fl) (C := RX5) (T := TX5) (N := 12) hx hb hts iw_X5_shipOf_X5 hown hK hP 0 rfl rfl 2 (by decide) (hts (.fieldLink RX5 26 "TeaRace" "fleet" "Ljava/util/List;") (by decide +kernel)) (fun _ h9 => h9) rfl dX5_shipOf_22 ?_
      refine lv_iload_n hx hb dX5_shipOf_25 rfl (lv_at hl 1 rfl) ?_
      have hPc : va_P (dC, dI) vwCl (([] : va_W) ++ va_pl L f) H := va_P.part (X := [(h0, .inr (6, [.ref sea, .ref pas, .ref fl, .ref fc, .int xlf, .int xhr, .int xho, .int xga, .int xsg, .int xpr, .int xfa, .long xls]))]) hP [] rfl
      have hKc := hK.sub (tys' := [(cO, .object "java/lang/Object")]) [0] rfl
      obtain ⟨k8_15, hk8_15⟩ : ∃ k : Nat, (([] : va_W) ++ va_pl L f)[k]? = some (fl, .inr (0, [.int mc_3, .ref ar_4, .int (nI n)])) := pl_at hm_5 hv_6
      refine va_callFq (va_runF (va_atK hKc (ci := 0) rfl) (As := [.int a0]) (rest := []) ⟨hx, hb, hml, hown, hts⟩ (c_Jx4a65c_get_915e3 l dC dI H.size L f te fl n sa cO a0 (by omega) (by omega) hlf_2) (va_cwF 1 hts gX5_shipOf_Jx4a65c_get_915e3_f175Jx4a65c rfl rfl rfl hN.fGet (by decide +kernel) ⟨Nat.le_of_ble_eq_true rfl, Nat.le_of_ble_eq_true rfl⟩) ⟨fun a U g mk q => by obtain ⟨q0, q1, qP, qK, qN⟩ := q; exact ⟨q0, q1, qP, va_K.moved (u := U) (U := U.calling g mk a) (Vm.Alike.refl U.vm) qK, NW.same (u := U) (U := U.calling g mk a) rfl qN⟩, va_recv hKc hPc (ci := 0) (q0 := k8_15) rfl hk8_15, fun U hU hW => ⟨rfl, by rw [hU], by rw [hU]; exact hPc, va_K.moved hW.alike hKc, NW.warm hW hN⟩⟩ rfl rfl hl.1 rfl (lv_room (Nat.le_of_ble_eq_true rfl)) dX5_shipOf_26 ⟨(Nat.zero_le _), (Nat.zero_le _)⟩) hS (fun q _ h => ro_A hS hA q h) (ro_A hS hA) (fun r_16 u t H1 locs ht hvm k_17 hB hz1 hk1 hS => ?_)
      have hP := ro_P hk1 hP
      generalize H1 = H at hP hS ⊢
      try dsimp only at k_17
      obtain rfl : r_16 = some (sa a0.toNatClampNeg) := k_17
      refine W.eq (g2 := F0 m 31 ls [.ref (sa a0.toNatClampNeg)]) rfl ?_
      have hsp_18 := inv.2.2.2.2.2 a0.toNatClampNeg (tn_lt (by omega) (by omega))
      obtain ⟨k9_19, hk9_19⟩ : ∃ k : Nat, ([(h0, .inr (6, [.ref sea, .ref pas, .ref fl, .ref fc, .int xlf, .int xhr, .int xho, .int xga, .int xsg, .int xpr, .int xfa, .long xls]))] ++ va_pl L f)[k]? = some ((sa a0.toNatClampNeg), .inr (4, [.int (V a0.toNatClampNeg 0), .int (V a0.toNatClampNeg 1), .int (V a0.toNatClampNeg 2), .ref (oa a0.toNatClampNeg), .ref (ia a0.toNatClampNeg), .int (V a0.toNatClampNeg 3), .int (V a0.toNatClampNeg 4), .int (V a0.toNatClampNeg 5), .int (V a0.toNatClampNeg 6), .int (V a0.toNatClampNeg 7), .int (V a0.toNatClampNeg 8), .int (V a0.toNatClampNeg 9), .int (V a0.toNatClampNeg 10), .int (V a0.toNatClampNeg 11)])) := pl_at hsp_18.1 hsp_18.2.1
      refine va_castS hx hb hown (hts (.classLink RX5 113 "TeaRace$Ship") (by decide +kernel)) (va_atK hK (ci := 4) rfl) (va_recv hK hP (ci := 4) (q0 := k9_19) rfl hk9_19) dX5_shipOf_31 ?_
      exact W.aret (v := .ref (sa a0.toNatClampNeg)) hx hb hr (Or.inl ⟨_, rfl⟩) (Or.inr ⟨_, rfl⟩) (fun t ht hW => ⟨⟨(some (sa a0.toNatClampNeg)), (), rfl, ⟨(fun x hx => by cases hx; exact ⟨by omega, by omega, rfl⟩), (fun hx => by cases hx)⟩, trivial⟩, hS.F ht⟩) hS.2.2 dX5_shipOf_34
    · skip
      have qc_14 : r_10.toInt ≤ a0.toInt := nlt_k rfl rfl c_14
      refine lv_null hx hb dX5_shipOf_17 ?_
      refine lv_goto (tgt := 34) hx hb dX5_shipOf_18 (by decide) ?_
      exact W.aret (v := .null) hx hb hr (Or.inl ⟨_, rfl⟩) (Or.inl rfl) (fun t ht hW => ⟨⟨none, (), rfl, ⟨(fun x hx => by cases hx), (fun _ => by omega)⟩, trivial⟩, hS.F ht⟩) hS.2.2 dX5_shipOf_34
set_option maxRecDepth 20000 in
theorem iw_X5_shipsHome_X5 : ∀ w ∈ wsX50, w ∈ wsX5_shipsHome := by decide +kernel
set_option maxHeartbeats 4000000 in
set_option maxRecDepth 100000 in
/-- shipsHome -/
theorem c_X5_shipsHome (l : Launch) (dC : Nat → ClassId) (dI : Nat → Nat → Nat) (sz : Nat) (L : List Nat) (f : Nat → va_E) (h0 : Nat) (sea : Nat) (pas : Nat) (fl : Nat) (fc : Nat) (xlf : Int32) (xhr : Int32) (xho : Int32) (xga : Int32) (xsg : Int32) (xpr : Int32) (xfa : Int32) (xls : Int64) (cB : ClassId) (own : Nat → Nat) (te : Nat) (cO : ClassId) (rr : Nat → Nat) (cw : Nat → Nat → Int32) (n : Nat) (sa : Nat → Nat) (V : Nat → Nat → Int32) (oa : Nat → Nat) (ia : Nat → Nat) (nO : Nat → Nat) (OW : Nat → Nat → Nat → Int32) (nS : Nat → Nat) (SW : Nat → Nat → Nat → Int32) (inv : Inv L f own te cO cB rr cw fl n sa V oa ia nO OW nS SW) : Met l yX5_shipsHome wsX5_shipsHome ({ frames := 3, cells := 0, slots := 0, locals := 64 }) (va_Pc [.ref h0] (fun U => U.heap.size = sz ∧ va_P (dC, dI) vwCl ([(h0, .inr (6, [.ref sea, .ref pas, .ref fl, .ref fc, .int xlf, .int xhr, .int xho, .int xga, .int xsg, .int xpr, .int xfa, .long xls]))] ++ va_pl L f) U.heap ∧ va_K (dC, dI) vwCl [(cO, .object "java/lang/Object")] U ∧ NW U)) (va_Qi (fun (r : Int32) (_ : Unit) => True) (fun _ _ => True) (va_A [] sz)) 0 0 (va_A [] sz) := by
  refine Met.ofW (cc := cX5_shipsHome) (maxL := 3) (ret := (some .int)) (by decide) rfl ?_
  intro p e s m args below meth c s₁ B hml hv
  obtain ⟨rfl, hsz, hP, hK, hN⟩ := hv
  have hx := B.exec
  have hb := B.bytes
  have hr := B.returns
  have hts := atoms_spec (ws := wsX5_shipsHome) B.pre
  have hown : s.vm.findClass RX5 = some m.cls := findClass_of_methodNamed B.named
  have hlocks := B.notSynchronized
  subst hsz
  generalize hAe : va_A [] s.heap.size = A at ⊢
  have hA : ∀ q : Nat, s.heap.size ≤ q → A q := fun q h => by rw [← hAe]; exact Or.inr h
  have hS : va_S A s.heap s.heap [] := va_S.rf
  have hP : va_P (dC, dI) vwCl ([(h0, .inr (6, [.ref sea, .ref pas, .ref fl, .ref fc, .int xlf, .int xhr, .int xho, .int xga, .int xsg, .int xpr, .int xfa, .long xls]))] ++ va_pl L f) s.heap := hP
  have hl := lv_entry ([.ref h0]) (n := 3) (Nat.le_of_ble_eq_true rfl)
  rw [lg_entry_eq]
  generalize (lg_sl ([.ref h0]) ++ List.replicate (3 - (lg_sl ([.ref h0])).length) Slot.unset).toArray = ls at hl ⊢
  have hl : lv_has ls 3 [(0, .ref h0)] := hl
  refine lv_iconst (v := 0) hx hb dX5_shipsHome_0 (by decide) ?_
  refine lv_istore_n (lv' := [(1, .int 0), (0, .ref h0)]) hx hb dX5_shipsHome_1 rfl hl (by decide) rfl (fun ls hl => ?_)
  refine lv_iconst (v := 0) hx hb dX5_shipsHome_2 (by decide) ?_
  refine lv_istore_n (lv' := [(2, .int 0), (1, .int 0), (0, .ref h0)]) hx hb dX5_shipsHome_3 rfl hl (by decide) rfl (fun ls hl => ?_)
  have key4 : ∀ (n4 : Nat) (cn : Int32) (ik : Int32) (H : Heap) (locs : List Loc) (ls : Array Slot), (0 ≤ ik.toInt ∧ ik.toInt ≤ 100) → 100 - ik.toInt < (n4 : Int) → va_P (dC, dI) vwCl ([(h0, .inr (6, [.ref sea, .ref pas, .ref fl, .ref fc, .int xlf, .int xhr, .int xho, .int xga, .int xsg, .int xpr, .int xfa, .long xls]))] ++ va_pl L f) H → va_S A s.heap H locs → lv_has ls 3 [(2, .int ik), (1, .int cn), (0, .ref h0)] → W p l e ({ frames := 3, cells := 0, slots := 0, locals := 64 } : Room) s m ([.ref h0] : List Value).toArray below meth c H locs 0 0 (MQ below (va_Qi (fun (r : Int32) (_ : Unit) => True) (fun _ _ => True) A) ([.ref h0] : List Value).toArray s 0 0 A) (F0 m 4 ls []) := by
    intro n4
    induction n4 with
    | zero =>
      intro cn ik H locs ls i_ik hm4
      exact absurd hm4 (by omega)
    | succ n4 ih4 =>
      intro cn ik H locs ls i_ik hm4 hP hS hl
      refine lv_iload_n hx hb dX5_shipsHome_4 rfl (lv_at hl 0 rfl) ?_
      refine lv_aload_n hx hb dX5_shipsHome_5 rfl (lv_at hl 2 rfl) ?_
      refine va_get (D := (dC, dI)) (ci := 6) (v := .ref fl) (C := RX5) (T := TX5) (N := 12) hx hb hts iw_X5_shipsHome_X5 hown hK hP 0 rfl rfl 2 (by decide) (hts (.fieldLink RX5 26 "TeaRace" "fleet" "Ljava/util/List;") (by decide +kernel)) (fun _ h9 => h9) rfl dX5_shipsHome_6 ?_
      have hlf_1 := inv.2.1
      have hPc : va_P (dC, dI) vwCl (([] : va_W) ++ va_pl L f) H := va_P.part (X := [(h0, .inr (6, [.ref sea, .ref pas, .ref fl, .ref fc, .int xlf, .int xhr, .int xho, .int xga, .int xsg, .int xpr, .int xfa, .long xls]))]) hP [] rfl
      have hKc := hK.sub (tys' := []) [] rfl
      obtain ⟨mc_2, ar_3, hm_4, hv_5, hn_6, hb_7⟩ := LstAt.obj hlf_1
      obtain ⟨k8_8, hk8_8⟩ : ∃ k : Nat, (([] : va_W) ++ va_pl L f)[k]? = some (fl, .inr (0, [.int mc_2, .ref ar_3, .int (nI n)])) := pl_at hm_4 hv_5
      refine va_callFi (va_runF (va_atK hKc (ci := 0) rfl) (As := []) (rest := [.int ik]) ⟨hx, hb, hml, hown, hts⟩ (c_Jx4a65c_size_8abf5 l dC dI H.size L f te fl n sa cO hlf_1) (va_cwF 0 hts gX5_shipsHome_Jx4a65c_size_8abf5_f107Jx4a65c rfl rfl rfl hN.fSize (by decide +kernel) ⟨Nat.le_of_ble_eq_true rfl, Nat.le_of_ble_eq_true rfl⟩) ⟨fun a U g mk q => by obtain ⟨q0, q1, qP, qK, qN⟩ := q; exact ⟨q0, q1, qP, va_K.moved (u := U) (U := U.calling g mk a) (Vm.Alike.refl U.vm) qK, NW.same (u := U) (U := U.calling g mk a) rfl qN⟩, va_recv hKc hPc (ci := 0) (q0 := k8_8) rfl hk8_8, fun U hU hW => ⟨rfl, by rw [hU], by rw [hU]; exact hPc, va_K.moved hW.alike hKc, NW.warm hW hN⟩⟩ rfl rfl hl.1 rfl (lv_room (Nat.le_of_ble_eq_true rfl)) dX5_shipsHome_9 ⟨(Nat.zero_le _), (Nat.zero_le _)⟩) hS (fun q _ h => ro_A hS hA q h) (ro_A hS hA) (fun r_9 u t H1 locs ht hvm k_10 hB hz1 hk1 hS => ?_)
      have hP := ro_P hk1 hP
      generalize H1 = H at hP hS ⊢
      try dsimp only at k_10
      obtain ⟨k_10, k_11, k_12⟩ := k_10
      refine lv_icmp_ge (tgt := 45) hx hb dX5_shipsHome_14 (by decide) (fun c_13 => ?_) (fun c_13 => ?_)
      · skip
        have qc_13 : r_9.toInt ≤ ik.toInt := le_k rfl rfl c_13
        refine lv_iload_n hx hb dX5_shipsHome_45 rfl (lv_at hl 1 rfl) ?_
        exact W.iret (v := cn) hx hb hr (fun t ht hW => ⟨⟨cn, (), rfl, trivial, trivial⟩, hS.F ht⟩) hS.2.2 dX5_shipsHome_46
      · skip
        have qc_13 : ik.toInt < r_9.toInt := nle_k rfl rfl c_13
        refine lv_aload_n hx hb dX5_shipsHome_17 rfl (lv_at hl 2 rfl) ?_
        refine va_get (D := (dC, dI)) (ci := 6) (v := .ref fl) (C := RX5) (T := TX5) (N := 12) hx hb hts iw_X5_shipsHome_X5 hown hK hP 0 rfl rfl 2 (by decide) (hts (.fieldLink RX5 26 "TeaRace" "fleet" "Ljava/util/List;") (by decide +kernel)) (fun _ h9 => h9) rfl dX5_shipsHome_18 ?_
        refine lv_iload_n hx hb dX5_shipsHome_21 rfl (lv_at hl 0 rfl) ?_
        have hPc : va_P (dC, dI) vwCl (([] : va_W) ++ va_pl L f) H := va_P.part (X := [(h0, .inr (6, [.ref sea, .ref pas, .ref fl, .ref fc, .int xlf, .int xhr, .int xho, .int xga, .int xsg, .int xpr, .int xfa, .long xls]))]) hP [] rfl
        have hKc := hK.sub (tys' := [(cO, .object "java/lang/Object")]) [0] rfl
        obtain ⟨k8_14, hk8_14⟩ : ∃ k : Nat, (([] : va_W) ++ va_pl L f)[k]? = some (fl, .inr (0, [.int mc_2, .ref ar_3, .int (nI n)])) := pl_at hm_4 hv_5
        refine va_callFq (va_runF (va_atK hKc (ci := 0) rfl) (As := [.int ik]) (rest := []) ⟨hx, hb, hml, hown, hts⟩ (c_Jx4a65c_get_915e3 l dC dI H.size L f te fl n sa cO ik (by omega) (by omega) hlf_1) (va_cwF 1 hts gX5_shipsHome_Jx4a65c_get_915e3_f175Jx4a65c rfl rfl rfl hN.fGet (by decide +kernel) ⟨Nat.le_of_ble_eq_true rfl, Nat.le_of_ble_eq_true rfl⟩) ⟨fun a U g mk q => by obtain ⟨q0, q1, qP, qK, qN⟩ := q; exact ⟨q0, q1, qP, va_K.moved (u := U) (U := U.calling g mk a) (Vm.Alike.refl U.vm) qK, NW.same (u := U) (U := U.calling g mk a) rfl qN⟩, va_recv hKc hPc (ci := 0) (q0 := k8_14) rfl hk8_14, fun U hU hW => ⟨rfl, by rw [hU], by rw [hU]; exact hPc, va_K.moved hW.alike hKc, NW.warm hW hN⟩⟩ rfl rfl hl.1 rfl (lv_room (Nat.le_of_ble_eq_true rfl)) dX5_shipsHome_22 ⟨(Nat.zero_le _), (Nat.zero_le _)⟩) hS (fun q _ h => ro_A hS hA q h) (ro_A hS hA) (fun r_15 u t H1 locs ht hvm k_16 hB hz1 hk1 hS => ?_)
        have hP := ro_P hk1 hP
        generalize H1 = H at hP hS ⊢
        try dsimp only at k_16
        obtain rfl : r_15 = some (sa ik.toNatClampNeg) := k_16
        refine W.eq (g2 := F0 m 27 ls [.ref (sa ik.toNatClampNeg)]) rfl ?_
        have hsp_17 := inv.2.2.2.2.2 ik.toNatClampNeg (tn_lt (by omega) (by omega))
        obtain ⟨k9_18, hk9_18⟩ : ∃ k : Nat, ([(h0, .inr (6, [.ref sea, .ref pas, .ref fl, .ref fc, .int xlf, .int xhr, .int xho, .int xga, .int xsg, .int xpr, .int xfa, .long xls]))] ++ va_pl L f)[k]? = some ((sa ik.toNatClampNeg), .inr (4, [.int (V ik.toNatClampNeg 0), .int (V ik.toNatClampNeg 1), .int (V ik.toNatClampNeg 2), .ref (oa ik.toNatClampNeg), .ref (ia ik.toNatClampNeg), .int (V ik.toNatClampNeg 3), .int (V ik.toNatClampNeg 4), .int (V ik.toNatClampNeg 5), .int (V ik.toNatClampNeg 6), .int (V ik.toNatClampNeg 7), .int (V ik.toNatClampNeg 8), .int (V ik.toNatClampNeg 9), .int (V ik.toNatClampNeg 10), .int (V ik.toNatClampNeg 11)])) := pl_at hsp_17.1 hsp_17.2.1
        refine va_castS hx hb hown (hts (.classLink RX5 113 "TeaRace$Ship") (by decide +kernel)) (va_atK hK (ci := 4) rfl) (va_recv hK hP (ci := 4) (q0 := k9_18) rfl hk9_18) dX5_shipsHome_27 ?_
        have hPc : va_P (dC, dI) vwCl (([] : va_W) ++ va_pl L f) H := va_P.part (X := [(h0, .inr (6, [.ref sea, .ref pas, .ref fl, .ref fc, .int xlf, .int xhr, .int xho, .int xga, .int xsg, .int xpr, .int xfa, .long xls]))]) hP [] rfl
        have hKc := hK.sub (tys' := []) [] rfl
        obtain ⟨k8_19, hk8_19⟩ : ∃ k : Nat, (([] : va_W) ++ va_pl L f)[k]? = some ((sa ik.toNatClampNeg), .inr (4, [.int (V ik.toNatClampNeg 0), .int (V ik.toNatClampNeg 1), .int (V ik.toNatClampNeg 2), .ref (oa ik.toNatClampNeg), .ref (ia ik.toNatClampNeg), .int (V ik.toNatClampNeg 3), .int (V ik.toNatClampNeg 4), .int (V ik.toNatClampNeg 5), .int (V ik.toNatClampNeg 6), .int (V ik.toNatClampNeg 7), .int (V ik.toNatClampNeg 8), .int (V ik.toNatClampNeg 9), .int (V ik.toNatClampNeg 10), .int (V ik.toNatClampNeg 11)])) := pl_at hsp_17.1 hsp_17.2.1
        refine va_calli (va_runV (As := []) (rest := []) ⟨hx, hb, hml, hown, hts⟩ (c_X3_isHome l dC dI H.size L f (sa ik.toNatClampNeg) (oa ik.toNatClampNeg) (ia ik.toNatClampNeg) (V ik.toNatClampNeg) ⟨hsp_17.1, hsp_17.2.1⟩) (cwV 0 hts gX5_shipsHome_X3_isHome rfl rfl rfl (by decide +kernel) ⟨Nat.le_of_ble_eq_true rfl, Nat.le_of_ble_eq_true rfl⟩) ⟨fun a U g mk q => by obtain ⟨q0, q1, qP, qK, qN⟩ := q; exact ⟨q0, q1, qP, va_K.moved (u := U) (U := U.calling g mk a) (Vm.Alike.refl U.vm) qK, NW.same (u := U) (U := U.calling g mk a) rfl qN⟩, va_recv hKc hPc (ci := 4) (q0 := k8_19) rfl hk8_19, fun U hU hW => ⟨rfl, by rw [hU], by rw [hU]; exact hPc, va_K.moved hW.alike hKc, NW.warm hW hN⟩⟩ rfl rfl hl.1 rfl (lv_room (Nat.le_of_ble_eq_true rfl)) dX5_shipsHome_30 ⟨(Nat.zero_le _), (Nat.zero_le _)⟩) hS (fun q _ h => ro_A hS hA q h) (ro_A hS hA) (fun r_20 u t H1 locs ht hvm k_21 hB hz1 hk1 hS => ?_)
        have hP := ro_P hk1 hP
        generalize H1 = H at hP hS ⊢
        try dsimp only at k_21
        obtain ⟨k_21, k_22⟩ := k_21
        refine lv_if_eq (tgt := 39) hx hb dX5_shipsHome_33 (by decide) (fun c_23 => ?_) (fun c_23 => ?_)
        · skip
          have b_24 := b01z k_21 c_23
          (try simp only [Int32.lt_iff_toInt_lt, Int32.le_iff_toInt_le, ← Int32.toInt_inj, Int32.reduceToInt, zl1, zl2, zl3, zl4, zl9] at b_24)
          (try simp only [Int32.reduceToInt] at b_24)
          obtain ⟨x_25, ex_25⟩ : ∃ y : Int32, y = ik + 1 := ⟨_, rfl⟩
          have tx_25 : x_25.toInt = ik.toInt + 1 := ad_k ex_25 rfl (by decide) (by omega) (by omega)
          refine lv_iinc (v := x_25) (lv' := [(2, .int x_25), (1, .int cn), (0, .ref h0)]) hx hb dX5_shipsHome_39 hl (k := 0) rfl (by rw [ex_25]; rfl) (by decide) rfl (fun ls hl => ?_)
          refine lv_goto (tgt := 4) hx hb dX5_shipsHome_42 (by decide) ?_
          exact ih4 cn x_25  H locs ls ⟨(by first | omega | (simp only [Int32.reduceToInt]; omega)), (by first | omega | (simp only [Int32.reduceToInt]; omega))⟩ (by first | omega | (simp only [Int32.reduceToInt]; omega)) hP hS (lv_sub hl [0, 1, 2] rfl)
        · skip
          have b_26 := b01n k_21 c_23
          (try simp only [Int32.lt_iff_toInt_lt, Int32.le_iff_toInt_le, ← Int32.toInt_inj, Int32.reduceToInt, zl1, zl2, zl3, zl4, zl9] at b_26)
          (try simp only [Int32.reduceToInt] at b_26)
          obtain ⟨x_27, ex_27⟩ : ∃ y : Int32, y = cn + 1 := ⟨_, rfl⟩
          refine lv_iinc (v := x_27) (lv' := [(1, .int x_27), (2, .int ik), (0, .ref h0)]) hx hb dX5_shipsHome_36 hl (k := 1) rfl (by rw [ex_27]; rfl) (by decide) rfl (fun ls hl => ?_)
          obtain ⟨x_28, ex_28⟩ : ∃ y : Int32, y = ik + 1 := ⟨_, rfl⟩
          have tx_28 : x_28.toInt = ik.toInt + 1 := ad_k ex_28 rfl (by decide) (by omega) (by omega)
          refine lv_iinc (v := x_28) (lv' := [(2, .int x_28), (1, .int x_27), (0, .ref h0)]) hx hb dX5_shipsHome_39 hl (k := 1) rfl (by rw [ex_28]; rfl) (by decide) rfl (fun ls hl => ?_)
          refine lv_goto (tgt := 4) hx hb dX5_shipsHome_42 (by decide) ?_
          exact ih4 x_27 x_28  H locs ls ⟨(by first | omega | (simp only [Int32.reduceToInt]; omega)), (by first | omega | (simp only [Int32.reduceToInt]; omega))⟩ (by first | omega | (simp only [Int32.reduceToInt]; omega)) hP hS (lv_sub hl [0, 1, 2] rfl)
  exact key4 101 0 0  _ _ ls (by decide) (by (try simp only [Int32.reduceToInt]); omega) hP hS hl
set_option maxRecDepth 20000 in
theorem iw_X5_told_X3 : ∀ w ∈ wsX30, w ∈ wsX5_told := by decide +kernel
set_option maxHeartbeats 4000000 in
set_option maxRecDepth 100000 in
/-- told -/
theorem c_X5_told (l : Launch) (dC : Nat → ClassId) (dI : Nat → Nat → Nat) (sz : Nat) (L : List Nat) (f : Nat → va_E) (h0 : Nat) (sea : Nat) (pas : Nat) (fl : Nat) (fc : Nat) (xlf : Int32) (xhr : Int32) (xho : Int32) (xga : Int32) (xsg : Int32) (xpr : Int32) (xfa : Int32) (xls : Int64) (cB : ClassId) (own : Nat → Nat) (te : Nat) (cO : ClassId) (rr : Nat → Nat) (cw : Nat → Nat → Int32) (n : Nat) (sa : Nat → Nat) (V : Nat → Nat → Int32) (oa : Nat → Nat) (ia : Nat → Nat) (nO : Nat → Nat) (OW : Nat → Nat → Nat → Int32) (nS : Nat → Nat) (SW : Nat → Nat → Nat → Int32) (a0 : Int32) (a1 : Int32) (inv : Inv L f own te cO cB rr cw fl n sa V oa ia nO OW nS SW) : Met l yX5_told wsX5_told ({ frames := 4, cells := 0, slots := 0, locals := 85 }) (va_Pc [.ref h0, .int a0, .int a1] (fun U => U.heap.size = sz ∧ va_P (dC, dI) vwCl ([(h0, .inr (6, [.ref sea, .ref pas, .ref fl, .ref fc, .int xlf, .int xhr, .int xho, .int xga, .int xsg, .int xpr, .int xfa, .long xls]))] ++ va_pl L f) U.heap ∧ va_K (dC, dI) vwCl [(cO, .object "java/lang/Object")] U ∧ NW U)) (va_Qi (fun (r : Int32) (_ : Unit) => True) (fun _ _ => True) (va_A [] sz)) 0 0 (va_A [] sz) := by
  refine Met.ofW (cc := cX5_told) (maxL := 4) (ret := (some .int)) (by decide) rfl ?_
  intro p e s m args below meth c s₁ B hml hv
  obtain ⟨rfl, hsz, hP, hK, hN⟩ := hv
  have hx := B.exec
  have hb := B.bytes
  have hr := B.returns
  have hts := atoms_spec (ws := wsX5_told) B.pre
  have hown : s.vm.findClass RX5 = some m.cls := findClass_of_methodNamed B.named
  have hlocks := B.notSynchronized
  subst hsz
  generalize hAe : va_A [] s.heap.size = A at ⊢
  have hA : ∀ q : Nat, s.heap.size ≤ q → A q := fun q h => by rw [← hAe]; exact Or.inr h
  have hS : va_S A s.heap s.heap [] := va_S.rf
  have hP : va_P (dC, dI) vwCl ([(h0, .inr (6, [.ref sea, .ref pas, .ref fl, .ref fc, .int xlf, .int xhr, .int xho, .int xga, .int xsg, .int xpr, .int xfa, .long xls]))] ++ va_pl L f) s.heap := hP
  have hl := lv_entry ([.ref h0, .int a0, .int a1]) (n := 4) (Nat.le_of_ble_eq_true rfl)
  rw [lg_entry_eq]
  generalize (lg_sl ([.ref h0, .int a0, .int a1]) ++ List.replicate (4 - (lg_sl ([.ref h0, .int a0, .int a1])).length) Slot.unset).toArray = ls at hl ⊢
  have hl : lv_has ls 4 [(0, .ref h0), (1, .int a0), (2, .int a1)] := hl
  refine lv_aload_n hx hb dX5_told_0 rfl (lv_at hl 0 rfl) ?_
  refine lv_iload_n hx hb dX5_told_1 rfl (lv_at hl 1 rfl) ?_
  have hPc : va_P (dC, dI) vwCl ([(h0, .inr (6, [.ref sea, .ref pas, .ref fl, .ref fc, .int xlf, .int xhr, .int xho, .int xga, .int xsg, .int xpr, .int xfa, .long xls]))] ++ va_pl L f) s.heap := va_P.part (X := [(h0, .inr (6, [.ref sea, .ref pas, .ref fl, .ref fc, .int xlf, .int xhr, .int xho, .int xga, .int xsg, .int xpr, .int xfa, .long xls]))]) hP [0] rfl
  have hKc := hK.sub (tys' := [(cO, .object "java/lang/Object")]) [0] rfl
  refine va_callq (va_runV (As := [.int a0]) (rest := []) ⟨hx, hb, hml, hown, hts⟩ (c_X5_shipOf l dC dI s.heap.size L f h0 sea pas fl fc xlf xhr xho xga xsg xpr xfa xls cB own te cO rr cw n sa V oa ia nO OW nS SW a0 inv) (cwV 1 hts gX5_told_X5_shipOf rfl rfl rfl (by decide +kernel) ⟨Nat.le_of_ble_eq_true rfl, Nat.le_of_ble_eq_true rfl⟩) ⟨fun a U g mk q => by obtain ⟨q0, q1, qP, qK, qN⟩ := q; exact ⟨q0, q1, qP, va_K.moved (u := U) (U := U.calling g mk a) (Vm.Alike.refl U.vm) qK, NW.same (u := U) (U := U.calling g mk a) rfl qN⟩, va_recv hKc hPc (ci := 6) (q0 := 0) rfl rfl, fun U hU hW => ⟨rfl, by rw [hU], by rw [hU]; exact hPc, va_K.moved hW.alike hKc, NW.warm hW hN⟩⟩ rfl rfl hl.1 rfl (lv_room (Nat.le_of_ble_eq_true rfl)) dX5_told_2 ⟨(Nat.zero_le _), (Nat.zero_le _)⟩) hS (fun q _ h => ro_A hS hA q h) (ro_A hS hA) (fun r_1 u t H1 locs ht hvm k_2 hB hz1 hk1 hS => ?_)
  have hP := ro_P hk1 hP
  generalize H1 = H at hP hS ⊢
  try dsimp only at k_2
  obtain ⟨k_2, k_3⟩ := k_2
  rcases r_1 with _ | q_4
  · skip
    have hno := k_3 rfl
    refine W.eq (g2 := F0 m 5 ls [.null]) rfl ?_
    refine lv_astore_nN (lv' := [(3, .null), (0, .ref h0), (1, .int a0), (2, .int a1)]) hx hb dX5_told_5 rfl hl (by decide) rfl (fun ls hl => ?_)
    refine lv_aload_nN hx hb dX5_told_6 rfl (lv_at hl 0 rfl) ?_
    refine lv_ifnonnullN hx hb dX5_told_7 ?_
    refine lv_iconst (v := (-1)) hx hb dX5_told_10 (by decide) ?_
    have hv9 : (-1 : Int32).toInt = (-1) := by decide
    exact W.iret (v := (-1)) hx hb hr (fun t ht hW => ⟨⟨(-1), (), rfl, trivial, trivial⟩, hS.F ht⟩) hS.2.2 dX5_told_11
  · skip
    obtain ⟨hi_5, hi_6, rfl⟩ := k_2 q_4 rfl
    refine W.eq (g2 := F0 m 5 ls [.ref (sa a0.toNatClampNeg)]) rfl ?_
    have hn8 := inv.2.2.2.2.1
    have hsp_7 := inv.2.2.2.2.2 a0.toNatClampNeg (tn_lt (by omega) (by omega))
    refine lv_astore_n (lv' := [(3, .ref (sa a0.toNatClampNeg)), (0, .ref h0), (1, .int a0), (2, .int a1)]) hx hb dX5_told_5 rfl hl (by decide) rfl (fun ls hl => ?_)
    refine lv_aload_n hx hb dX5_told_6 rfl (lv_at hl 0 rfl) ?_
    refine lv_ifnonnull (tgt := 12) hx hb dX5_told_7 (by decide) ?_
    refine lv_iload_n hx hb dX5_told_12 rfl (lv_at hl 3 rfl) ?_
    by_cases t_8 : a1.toInt < 0 ∨ 6 < a1.toInt
    · skip
      refine lv_tableOut (tgt := 91) hx hb dX5_told_13 t_8 (by decide) ?_
      refine lv_iconst (v := (-1)) hx hb dX5_told_91 (by decide) ?_
      have hv9 : (-1 : Int32).toInt = (-1) := by decide
      exact W.iret (v := (-1)) hx hb hr (fun t ht hW => ⟨⟨(-1), (), rfl, trivial, trivial⟩, hS.F ht⟩) hS.2.2 dX5_told_92
    · skip
      have v_9 : a1 = 0 ∨ a1 = 1 ∨ a1 = 2 ∨ a1 = 3 ∨ a1 = 4 ∨ a1 = 5 ∨ a1 = 6 := by
        simp only [← Int32.toInt_inj, Int32.reduceToInt]
        omega
      clear t_8
      rcases v_9 with h_v_9 | h_v_9 | h_v_9 | h_v_9 | h_v_9 | h_v_9 | h_v_9
      · skip
        have qv_9 : a1.toInt = 0 := by rw [h_v_9]; decide
        refine lv_tableIn (off := 43) (tgt := 56) hx hb dX5_told_13 (by omega) (by omega) (by rw [qv_9]; decide) (by decide) ?_
        refine lv_aload_n hx hb dX5_told_56 rfl (lv_at hl 0 rfl) ?_
        obtain ⟨k9_10, hk9_10⟩ : ∃ k : Nat, ([(h0, .inr (6, [.ref sea, .ref pas, .ref fl, .ref fc, .int xlf, .int xhr, .int xho, .int xga, .int xsg, .int xpr, .int xfa, .long xls]))] ++ va_pl L f)[k]? = some ((sa a0.toNatClampNeg), .inr (4, [.int (V a0.toNatClampNeg 0), .int (V a0.toNatClampNeg 1), .int (V a0.toNatClampNeg 2), .ref (oa a0.toNatClampNeg), .ref (ia a0.toNatClampNeg), .int (V a0.toNatClampNeg 3), .int (V a0.toNatClampNeg 4), .int (V a0.toNatClampNeg 5), .int (V a0.toNatClampNeg 6), .int (V a0.toNatClampNeg 7), .int (V a0.toNatClampNeg 8), .int (V a0.toNatClampNeg 9), .int (V a0.toNatClampNeg 10), .int (V a0.toNatClampNeg 11)])) := pl_at hsp_7.1 hsp_7.2.1
        refine va_get (D := (dC, dI)) (ci := 4) (v := .int (V a0.toNatClampNeg 1)) (C := RX3) (T := TX3) (N := 14) hx hb hts iw_X5_told_X3 hown hK hP k9_10 hk9_10 rfl 1 (by decide) (hts (.fieldLink RX5 129 "TeaRace$Ship" "kind" "I") (by decide +kernel)) (fun _ h9 => h9) rfl dX5_told_57 ?_
        exact W.iret (v := (V a0.toNatClampNeg 1)) hx hb hr (fun t ht hW => ⟨⟨(V a0.toNatClampNeg 1), (), rfl, trivial, trivial⟩, hS.F ht⟩) hS.2.2 dX5_told_60
      · skip
        have qv_9 : a1.toInt = 1 := by rw [h_v_9]; decide
        refine lv_tableIn (off := 48) (tgt := 61) hx hb dX5_told_13 (by omega) (by omega) (by rw [qv_9]; decide) (by decide) ?_
        refine lv_aload_n hx hb dX5_told_61 rfl (lv_at hl 0 rfl) ?_
        obtain ⟨k9_11, hk9_11⟩ : ∃ k : Nat, ([(h0, .inr (6, [.ref sea, .ref pas, .ref fl, .ref fc, .int xlf, .int xhr, .int xho, .int xga, .int xsg, .int xpr, .int xfa, .long xls]))] ++ va_pl L f)[k]? = some ((sa a0.toNatClampNeg), .inr (4, [.int (V a0.toNatClampNeg 0), .int (V a0.toNatClampNeg 1), .int (V a0.toNatClampNeg 2), .ref (oa a0.toNatClampNeg), .ref (ia a0.toNatClampNeg), .int (V a0.toNatClampNeg 3), .int (V a0.toNatClampNeg 4), .int (V a0.toNatClampNeg 5), .int (V a0.toNatClampNeg 6), .int (V a0.toNatClampNeg 7), .int (V a0.toNatClampNeg 8), .int (V a0.toNatClampNeg 9), .int (V a0.toNatClampNeg 10), .int (V a0.toNatClampNeg 11)])) := pl_at hsp_7.1 hsp_7.2.1
        refine va_get (D := (dC, dI)) (ci := 4) (v := .int (V a0.toNatClampNeg 3)) (C := RX3) (T := TX3) (N := 14) hx hb hts iw_X5_told_X3 hown hK hP k9_11 hk9_11 rfl 5 (by decide) (hts (.fieldLink RX5 132 "TeaRace$Ship" "cell" "I") (by decide +kernel)) (fun _ h9 => h9) rfl dX5_told_62 ?_
        exact W.iret (v := (V a0.toNatClampNeg 3)) hx hb hr (fun t ht hW => ⟨⟨(V a0.toNatClampNeg 3), (), rfl, trivial, trivial⟩, hS.F ht⟩) hS.2.2 dX5_told_65
      · skip
        have qv_9 : a1.toInt = 2 := by rw [h_v_9]; decide
        refine lv_tableIn (off := 53) (tgt := 66) hx hb dX5_told_13 (by omega) (by omega) (by rw [qv_9]; decide) (by decide) ?_
        refine lv_aload_n hx hb dX5_told_66 rfl (lv_at hl 0 rfl) ?_
        obtain ⟨k9_12, hk9_12⟩ : ∃ k : Nat, ([(h0, .inr (6, [.ref sea, .ref pas, .ref fl, .ref fc, .int xlf, .int xhr, .int xho, .int xga, .int xsg, .int xpr, .int xfa, .long xls]))] ++ va_pl L f)[k]? = some ((sa a0.toNatClampNeg), .inr (4, [.int (V a0.toNatClampNeg 0), .int (V a0.toNatClampNeg 1), .int (V a0.toNatClampNeg 2), .ref (oa a0.toNatClampNeg), .ref (ia a0.toNatClampNeg), .int (V a0.toNatClampNeg 3), .int (V a0.toNatClampNeg 4), .int (V a0.toNatClampNeg 5), .int (V a0.toNatClampNeg 6), .int (V a0.toNatClampNeg 7), .int (V a0.toNatClampNeg 8), .int (V a0.toNatClampNeg 9), .int (V a0.toNatClampNeg 10), .int (V a0.toNatClampNeg 11)])) := pl_at hsp_7.1 hsp_7.2.1
        refine va_get (D := (dC, dI)) (ci := 4) (v := .int (V a0.toNatClampNeg 4)) (C := RX3) (T := TX3) (N := 14) hx hb hts iw_X5_told_X3 hown hK hP k9_12 hk9_12 rfl 6 (by decide) (hts (.fieldLink RX5 135 "TeaRace$Ship" "gone" "I") (by decide +kernel)) (fun _ h9 => h9) rfl dX5_told_67 ?_
        exact W.iret (v := (V a0.toNatClampNeg 4)) hx hb hr (fun t ht hW => ⟨⟨(V a0.toNatClampNeg 4), (), rfl, trivial, trivial⟩, hS.F ht⟩) hS.2.2 dX5_told_70
      · skip
        have qv_9 : a1.toInt = 3 := by rw [h_v_9]; decide
        refine lv_tableIn (off := 58) (tgt := 71) hx hb dX5_told_13 (by omega) (by omega) (by rw [qv_9]; decide) (by decide) ?_
        refine lv_aload_n hx hb dX5_told_71 rfl (lv_at hl 0 rfl) ?_
        obtain ⟨k9_13, hk9_13⟩ : ∃ k : Nat, ([(h0, .inr (6, [.ref sea, .ref pas, .ref fl, .ref fc, .int xlf, .int xhr, .int xho, .int xga, .int xsg, .int xpr, .int xfa, .long xls]))] ++ va_pl L f)[k]? = some ((sa a0.toNatClampNeg), .inr (4, [.int (V a0.toNatClampNeg 0), .int (V a0.toNatClampNeg 1), .int (V a0.toNatClampNeg 2), .ref (oa a0.toNatClampNeg), .ref (ia a0.toNatClampNeg), .int (V a0.toNatClampNeg 3), .int (V a0.toNatClampNeg 4), .int (V a0.toNatClampNeg 5), .int (V a0.toNatClampNeg 6), .int (V a0.toNatClampNeg 7), .int (V a0.toNatClampNeg 8), .int (V a0.toNatClampNeg 9), .int (V a0.toNatClampNeg 10), .int (V a0.toNatClampNeg 11)])) := pl_at hsp_7.1 hsp_7.2.1
        refine va_get (D := (dC, dI)) (ci := 4) (v := .int (V a0.toNatClampNeg 5)) (C := RX3) (T := TX3) (N := 14) hx hb hts iw_X5_told_X3 hown hK hP k9_13 hk9_13 rfl 7 (by decide) (hts (.fieldLink RX5 138 "TeaRace$Ship" "way" "I") (by decide +kernel)) (fun _ h9 => h9) rfl dX5_told_72 ?_
        exact W.iret (v := (V a0.toNatClampNeg 5)) hx hb hr (fun t ht hW => ⟨⟨(V a0.toNatClampNeg 5), (), rfl, trivial, trivial⟩, hS.F ht⟩) hS.2.2 dX5_told_75
      · skip
        have qv_9 : a1.toInt = 4 := by rw [h_v_9]; decide
        refine lv_tableIn (off := 63) (tgt := 76) hx hb dX5_told_13 (by omega) (by omega) (by rw [qv_9]; decide) (by decide) ?_
        refine lv_aload_n hx hb dX5_told_76 rfl (lv_at hl 0 rfl) ?_
        obtain ⟨k9_14, hk9_14⟩ : ∃ k : Nat, ([(h0, .inr (6, [.ref sea, .ref pas, .ref fl, .ref fc, .int xlf, .int xhr, .int xho, .int xga, .int xsg, .int xpr, .int xfa, .long xls]))] ++ va_pl L f)[k]? = some ((sa a0.toNatClampNeg), .inr (4, [.int (V a0.toNatClampNeg 0), .int (V a0.toNatClampNeg 1), .int (V a0.toNatClampNeg 2), .ref (oa a0.toNatClampNeg), .ref (ia a0.toNatClampNeg), .int (V a0.toNatClampNeg 3), .int (V a0.toNatClampNeg 4), .int (V a0.toNatClampNeg 5), .int (V a0.toNatClampNeg 6), .int (V a0.toNatClampNeg 7), .int (V a0.toNatClampNeg 8), .int (V a0.toNatClampNeg 9), .int (V a0.toNatClampNeg 10), .int (V a0.toNatClampNeg 11)])) := pl_at hsp_7.1 hsp_7.2.1
        refine va_get (D := (dC, dI)) (ci := 4) (v := .int (V a0.toNatClampNeg 8)) (C := RX3) (T := TX3) (N := 14) hx hb hts iw_X5_told_X3 hown hK hP k9_14 hk9_14 rfl 10 (by decide) (hts (.fieldLink RX5 141 "TeaRace$Ship" "homeHour" "I") (by decide +kernel)) (fun _ h9 => h9) rfl dX5_told_77 ?_
        exact W.iret (v := (V a0.toNatClampNeg 8)) hx hb hr (fun t ht hW => ⟨⟨(V a0.toNatClampNeg 8), (), rfl, trivial, trivial⟩, hS.F ht⟩) hS.2.2 dX5_told_80
      · skip
        have qv_9 : a1.toInt = 5 := by rw [h_v_9]; decide
        refine lv_tableIn (off := 68) (tgt := 81) hx hb dX5_told_13 (by omega) (by omega) (by rw [qv_9]; decide) (by decide) ?_
        refine lv_aload_n hx hb dX5_told_81 rfl (lv_at hl 0 rfl) ?_
        obtain ⟨k9_15, hk9_15⟩ : ∃ k : Nat, ([(h0, .inr (6, [.ref sea, .ref pas, .ref fl, .ref fc, .int xlf, .int xhr, .int xho, .int xga, .int xsg, .int xpr, .int xfa, .long xls]))] ++ va_pl L f)[k]? = some ((sa a0.toNatClampNeg), .inr (4, [.int (V a0.toNatClampNeg 0), .int (V a0.toNatClampNeg 1), .int (V a0.toNatClampNeg 2), .ref (oa a0.toNatClampNeg), .ref (ia a0.toNatClampNeg), .int (V a0.toNatClampNeg 3), .int (V a0.toNatClampNeg 4), .int (V a0.toNatClampNeg 5), .int (V a0.toNatClampNeg 6), .int (V a0.toNatClampNeg 7), .int (V a0.toNatClampNeg 8), .int (V a0.toNatClampNeg 9), .int (V a0.toNatClampNeg 10), .int (V a0.toNatClampNeg 11)])) := pl_at hsp_7.1 hsp_7.2.1
        refine va_get (D := (dC, dI)) (ci := 4) (v := .int (V a0.toNatClampNeg 9)) (C := RX3) (T := TX3) (N := 14) hx hb hts iw_X5_told_X3 hown hK hP k9_15 hk9_15 rfl 11 (by decide) (hts (.fieldLink RX5 144 "TeaRace$Ship" "entry" "I") (by decide +kernel)) (fun _ h9 => h9) rfl dX5_told_82 ?_
        exact W.iret (v := (V a0.toNatClampNeg 9)) hx hb hr (fun t ht hW => ⟨⟨(V a0.toNatClampNeg 9), (), rfl, trivial, trivial⟩, hS.F ht⟩) hS.2.2 dX5_told_85
      · skip
        have qv_9 : a1.toInt = 6 := by rw [h_v_9]; decide
        refine lv_tableIn (off := 73) (tgt := 86) hx hb dX5_told_13 (by omega) (by omega) (by rw [qv_9]; decide) (by decide) ?_
        refine lv_aload_n hx hb dX5_told_86 rfl (lv_at hl 0 rfl) ?_
        obtain ⟨k9_16, hk9_16⟩ : ∃ k : Nat, ([(h0, .inr (6, [.ref sea, .ref pas, .ref fl, .ref fc, .int xlf, .int xhr, .int xho, .int xga, .int xsg, .int xpr, .int xfa, .long xls]))] ++ va_pl L f)[k]? = some ((sa a0.toNatClampNeg), .inr (4, [.int (V a0.toNatClampNeg 0), .int (V a0.toNatClampNeg 1), .int (V a0.toNatClampNeg 2), .ref (oa a0.toNatClampNeg), .ref (ia a0.toNatClampNeg), .int (V a0.toNatClampNeg 3), .int (V a0.toNatClampNeg 4), .int (V a0.toNatClampNeg 5), .int (V a0.toNatClampNeg 6), .int (V a0.toNatClampNeg 7), .int (V a0.toNatClampNeg 8), .int (V a0.toNatClampNeg 9), .int (V a0.toNatClampNeg 10), .int (V a0.toNatClampNeg 11)])) := pl_at hsp_7.1 hsp_7.2.1
        refine va_get (D := (dC, dI)) (ci := 4) (v := .int (V a0.toNatClampNeg 2)) (C := RX3) (T := TX3) (N := 14) hx hb hts iw_X5_told_X3 hown hK hP k9_16 hk9_16 rfl 2 (by decide) (hts (.fieldLink RX5 147 "TeaRace$Ship" "chests" "I") (by decide +kernel)) (fun _ h9 => h9) rfl dX5_told_87 ?_
        exact W.iret (v := (V a0.toNatClampNeg 2)) hx hb hr (fun t ht hW => ⟨⟨(V a0.toNatClampNeg 2), (), rfl, trivial, trivial⟩, hS.F ht⟩) hS.2.2 dX5_told_90
set_option maxHeartbeats 4000000 in
set_option maxRecDepth 100000 in
/-- speed -/
theorem c_X5_speed (l : Launch) (dC : Nat → ClassId) (dI : Nat → Nat → Nat) (sz : Nat) (L : List Nat) (f : Nat → va_E) (h0 : Nat) (sea : Nat) (pas : Nat) (fl : Nat) (fc : Nat) (xlf : Int32) (xhr : Int32) (xho : Int32) (xga : Int32) (xsg : Int32) (xpr : Int32) (xfa : Int32) (xls : Int64) (cB : ClassId) (own : Nat → Nat) (te : Nat) (cO : ClassId) (rr : Nat → Nat) (cw : Nat → Nat → Int32) (n : Nat) (sa : Nat → Nat) (V : Nat → Nat → Int32) (oa : Nat → Nat) (ia : Nat → Nat) (nO : Nat → Nat) (OW : Nat → Nat → Nat → Int32) (nS : Nat → Nat) (SW : Nat → Nat → Nat → Int32) (a0 : Int32) (a1 : Int32) (a2 : Int32) (a3 : Int32) (inv : Inv L f own te cO cB rr cw fl n sa V oa ia nO OW nS SW) : Met l yX5_speed wsX5_speed ({ frames := 4, cells := 0, slots := 0, locals := 85 }) (va_Pc [.ref h0, .int a0, .int a1, .int a2, .int a3] (fun U => U.heap.size = sz ∧ va_P (dC, dI) vwCl ([(h0, .inr (6, [.ref sea, .ref pas, .ref fl, .ref fc, .int xlf, .int xhr, .int xho, .int xga, .int xsg, .int xpr, .int xfa, .long xls]))] ++ va_pl L f) U.heap ∧ va_K (dC, dI) vwCl [(cO, .object "java/lang/Object")] U ∧ NW U)) (va_Qi (fun (r : Int32) (_ : Unit) => True) (fun _ _ => True) (va_A [] sz)) 0 0 (va_A [] sz) := by
  refine Met.ofW (cc := cX5_speed) (maxL := 6) (ret := (some .int)) (by decide) rfl ?_
  intro p e s m args below meth c s₁ B hml hv
  obtain ⟨rfl, hsz, hP, hK, hN⟩ := hv
  have hx := B.exec
  have hb := B.bytes
  have hr := B.returns
  have hts := atoms_spec (ws := wsX5_speed) B.pre
  have hown : s.vm.findClass RX5 = some m.cls := findClass_of_methodNamed B.named
  have hlocks := B.notSynchronized
  subst hsz
  generalize hAe : va_A [] s.heap.size = A at ⊢
  have hA : ∀ q : Nat, s.heap.size ≤ q → A q := fun q h => by rw [← hAe]; exact Or.inr h
  have hS : va_S A s.heap s.heap [] := va_S.rf
  have hP : va_P (dC, dI) vwCl ([(h0, .inr (6, [.ref sea, .ref pas, .ref fl, .ref fc, .int xlf, .int xhr, .int xho, .int xga, .int xsg, .int xpr, .int xfa, .long xls]))] ++ va_pl L f) s.heap := hP
  have hl := lv_entry ([.ref h0, .int a0, .int a1, .int a2, .int a3]) (n := 6) (Nat.le_of_ble_eq_true rfl)
  rw [lg_entry_eq]
  generalize (lg_sl ([.ref h0, .int a0, .int a1, .int a2, .int a3]) ++ List.replicate (6 - (lg_sl ([.ref h0, .int a0, .int a1, .int a2, .int a3])).length) Slot.unset).toArray = ls at hl ⊢
  have hl : lv_has ls 6 [(0, .ref h0), (1, .int a0), (2, .int a1), (3, .int a2), (4, .int a3)] := hl
  refine lv_aload_n hx hb dX5_speed_0 rfl (lv_at hl 0 rfl) ?_
  refine lv_iload_n hx hb dX5_speed_1 rfl (lv_at hl 1 rfl) ?_
  have hPc : va_P (dC, dI) vwCl ([(h0, .inr (6, [.ref sea, .ref pas, .ref fl, .ref fc, .int xlf, .int xhr, .int xho, .int xga, .int xsg, .int xpr, .int xfa, .long xls]))] ++ va_pl L f) s.heap := va_P.part (X := [(h0, .inr (6, [.ref sea, .ref pas, .ref fl, .ref fc, .int xlf, .int xhr, .int xho, .int xga, .int xsg, .int xpr, .int xfa, .long xls]))]) hP [0] rfl
  have hKc := hK.sub (tys' := [(cO, .object "java/lang/Object")]) [0] rfl
  refine va_callq (va_runV (As := [.int a0]) (rest := []) ⟨hx, hb, hml, hown, hts⟩ (c_X5_shipOf l dC dI s.heap.size L f h0 sea pas fl fc xlf xhr xho xga xsg xpr xfa xls cB own te cO rr cw n sa V oa ia nO OW nS SW a0 inv) (cwV 1 hts gX5_speed_X5_shipOf rfl rfl rfl (by decide +kernel) ⟨Nat.le_of_ble_eq_true rfl, Nat.le_of_ble_eq_true rfl⟩) ⟨fun a U g mk q => by obtain ⟨q0, q1, qP, qK, qN⟩ := q; exact ⟨q0, q1, qP, va_K.moved (u := U) (U := U.calling g mk a) (Vm.Alike.refl U.vm) qK, NW.same (u := U) (U := U.calling g mk a) rfl qN⟩, va_recv hKc hPc (ci := 6) (q0 := 0) rfl rfl, fun U hU hW => ⟨rfl, by rw [hU], by rw [hU]; exact hPc, va_K.moved hW.alike hKc, NW.warm hW hN⟩⟩ rfl rfl hl.1 rfl (lv_room (Nat.le_of_ble_eq_true rfl)) dX5_speed_2 ⟨(Nat.zero_le _), (Nat.zero_le _)⟩) hS (fun q _ h => ro_A hS hA q h) (ro_A hS hA) (fun r_1 u t H1 locs ht hvm k_2 hB hz1 hk1 hS => ?_)
  have hP := ro_P hk1 hP
  generalize H1 = H at hP hS ⊢
  try dsimp only at k_2
  obtain ⟨k_2, k_3⟩ := k_2
  rcases r_1 with _ | q_4
  · skip
    have hno := k_3 rfl
    refine W.eq (g2 := F0 m 5 ls [.null]) rfl ?_
    refine lv_astoreN (lv' := [(5, .null), (0, .ref h0), (1, .int a0), (2, .int a1), (3, .int a2), (4, .int a3)]) hx hb dX5_speed_5 hl (by decide) rfl (fun ls hl => ?_)
    refine lv_aloadN hx hb dX5_speed_7 (lv_at hl 0 rfl) ?_
    refine lv_ifnullN (tgt := 40) hx hb dX5_speed_9 (by decide) ?_
    refine lv_iconst (v := (-1)) hx hb dX5_speed_40 (by decide) ?_
    have hv9 : (-1 : Int32).toInt = (-1) := by decide
    exact W.iret (v := (-1)) hx hb hr (fun t ht hW => ⟨⟨(-1), (), rfl, trivial, trivial⟩, hS.F ht⟩) hS.2.2 dX5_speed_41
  · skip
    obtain ⟨hi_5, hi_6, rfl⟩ := k_2 q_4 rfl
    refine W.eq (g2 := F0 m 5 ls [.ref (sa a0.toNatClampNeg)]) rfl ?_
    have hn8 := inv.2.2.2.2.1
    have hsp_7 := inv.2.2.2.2.2 a0.toNatClampNeg (tn_lt (by omega) (by omega))
    refine lv_astore (lv' := [(5, .ref (sa a0.toNatClampNeg)), (0, .ref h0), (1, .int a0), (2, .int a1), (3, .int a2), (4, .int a3)]) hx hb dX5_speed_5 hl (by decide) rfl (fun ls hl => ?_)
    refine lv_aload hx hb dX5_speed_7 (lv_at hl 0 rfl) ?_
    refine lv_ifnull hx hb dX5_speed_9 ?_
    refine lv_iload_n hx hb dX5_speed_12 rfl (lv_at hl 3 rfl) ?_
    refine lv_bipush (v := 7) hx hb dX5_speed_13 (by decide) ?_
    refine va_calli (va_runS (As := [.int a1, .int 7]) (rest := []) ⟨hx, hb, hml, hown, hts⟩ (c_X5_outside l H.size a1 7 ) (va_cwS 2 hts gX5_speed_X5_outside rfl rfl rfl (by decide +kernel) ⟨Nat.le_of_ble_eq_true rfl, Nat.le_of_ble_eq_true rfl⟩) ⟨fun a U g mk q => by obtain ⟨q0, q1⟩ := q; exact ⟨q0, q1⟩, fun U hU hW => ⟨rfl, congrArg Array.size hU⟩⟩ rfl rfl hl.1 rfl (lv_room (Nat.le_of_ble_eq_true rfl)) dX5_speed_15 ⟨(Nat.zero_le _), (Nat.zero_le _)⟩) hS (fun q _ h => ro_A hS hA q h) (ro_A hS hA) (fun r_8 u t H1 locs ht hvm k_9 hB hz1 hk1 hS => ?_)
    have hP := ro_P hk1 hP
    generalize H1 = H at hP hS ⊢
    try dsimp only at k_9
    obtain ⟨k_9, k_10⟩ := k_9
    refine lv_if_ne (tgt := 40) hx hb dX5_speed_18 (by decide) (fun c_11 => ?_) (fun c_11 => ?_)
    · skip
      have b_12 := b01n k_9 c_11
      (try simp only [Int32.lt_iff_toInt_lt, Int32.le_iff_toInt_le, ← Int32.toInt_inj, Int32.reduceToInt, zl1, zl2, zl3, zl4, zl9] at b_12)
      (try simp only [Int32.reduceToInt] at b_12)
      refine lv_iconst (v := (-1)) hx hb dX5_speed_40 (by decide) ?_
      have hv9 : (-1 : Int32).toInt = (-1) := by decide
      exact W.iret (v := (-1)) hx hb hr (fun t ht hW => ⟨⟨(-1), (), rfl, trivial, trivial⟩, hS.F ht⟩) hS.2.2 dX5_speed_41
    · skip
      have b_13 := b01z k_9 c_11
      (try simp only [Int32.lt_iff_toInt_lt, Int32.le_iff_toInt_le, ← Int32.toInt_inj, Int32.reduceToInt, zl1, zl2, zl3, zl4, zl9] at b_13)
      (try simp only [Int32.reduceToInt] at b_13)
      refine lv_iload_n hx hb dX5_speed_21 rfl (lv_at hl 4 rfl) ?_
      refine lv_bipush (v := 7) hx hb dX5_speed_22 (by decide) ?_
      refine va_calli (va_runS (As := [.int a2, .int 7]) (rest := []) ⟨hx, hb, hml, hown, hts⟩ (c_X5_outside l H.size a2 7 ) (va_cwS 2 hts gX5_speed_X5_outside rfl rfl rfl (by decide +kernel) ⟨Nat.le_of_ble_eq_true rfl, Nat.le_of_ble_eq_true rfl⟩) ⟨fun a U g mk q => by obtain ⟨q0, q1⟩ := q; exact ⟨q0, q1⟩, fun U hU hW => ⟨rfl, congrArg Array.size hU⟩⟩ rfl rfl hl.1 rfl (lv_room (Nat.le_of_ble_eq_true rfl)) dX5_speed_24 ⟨(Nat.zero_le _), (Nat.zero_le _)⟩) hS (fun q _ h => ro_A hS hA q h) (ro_A hS hA) (fun r_14 u t H1 locs ht hvm k_15 hB hz1 hk1 hS => ?_)
      have hP := ro_P hk1 hP
      generalize H1 = H at hP hS ⊢
      try dsimp only at k_15
      obtain ⟨k_15, k_16⟩ := k_15
      refine lv_if_ne (tgt := 40) hx hb dX5_speed_27 (by decide) (fun c_17 => ?_) (fun c_17 => ?_)
      · skip
        have b_18 := b01n k_15 c_17
        (try simp only [Int32.lt_iff_toInt_lt, Int32.le_iff_toInt_le, ← Int32.toInt_inj, Int32.reduceToInt, zl1, zl2, zl3, zl4, zl9] at b_18)
        (try simp only [Int32.reduceToInt] at b_18)
        refine lv_iconst (v := (-1)) hx hb dX5_speed_40 (by decide) ?_
        have hv9 : (-1 : Int32).toInt = (-1) := by decide
        exact W.iret (v := (-1)) hx hb hr (fun t ht hW => ⟨⟨(-1), (), rfl, trivial, trivial⟩, hS.F ht⟩) hS.2.2 dX5_speed_41
      · skip
        have b_19 := b01z k_15 c_17
        (try simp only [Int32.lt_iff_toInt_lt, Int32.le_iff_toInt_le, ← Int32.toInt_inj, Int32.reduceToInt, zl1, zl2, zl3, zl4, zl9] at b_19)
        (try simp only [Int32.reduceToInt] at b_19)
        refine lv_iload hx hb dX5_speed_30 (lv_at hl 5 rfl) ?_
        refine lv_bipush (v := 9) hx hb dX5_speed_32 (by decide) ?_
        refine va_calli (va_runS (As := [.int a3, .int 9]) (rest := []) ⟨hx, hb, hml, hown, hts⟩ (c_X5_outside l H.size a3 9 ) (va_cwS 2 hts gX5_speed_X5_outside rfl rfl rfl (by decide +kernel) ⟨Nat.le_of_ble_eq_true rfl, Nat.le_of_ble_eq_true rfl⟩) ⟨fun a U g mk q => by obtain ⟨q0, q1⟩ := q; exact ⟨q0, q1⟩, fun U hU hW => ⟨rfl, congrArg Array.size hU⟩⟩ rfl rfl hl.1 rfl (lv_room (Nat.le_of_ble_eq_true rfl)) dX5_speed_34 ⟨(Nat.zero_le _), (Nat.zero_le _)⟩) hS (fun q _ h => ro_A hS hA q h) (ro_A hS hA) (fun r_20 u t H1 locs ht hvm k_21 hB hz1 hk1 hS => ?_)
        have hP := ro_P hk1 hP
        generalize H1 = H at hP hS ⊢
        try dsimp only at k_21
        obtain ⟨k_21, k_22⟩ := k_21
        refine lv_if_eq (tgt := 42) hx hb dX5_speed_37 (by decide) (fun c_23 => ?_) (fun c_23 => ?_)
        · skip
          have b_24 := b01z k_21 c_23
          (try simp only [Int32.lt_iff_toInt_lt, Int32.le_iff_toInt_le, ← Int32.toInt_inj, Int32.reduceToInt, zl1, zl2, zl3, zl4, zl9] at b_24)
          (try simp only [Int32.reduceToInt] at b_24)
          refine lv_aload hx hb dX5_speed_42 (lv_at hl 0 rfl) ?_
          refine lv_iload_n hx hb dX5_speed_44 rfl (lv_at hl 3 rfl) ?_
          refine lv_bipush (v := 10) hx hb dX5_speed_45 (by decide) ?_
          refine lv_iload_n hx hb dX5_speed_47 rfl (lv_at hl 4 rfl) ?_
          refine lv_imul hx hb dX5_speed_48 ?_
          refine lv_topi (fun x_25 ex_25 => ?_)
          have tx_25 : x_25.toInt = 10 * a2.toInt := mu_k ex_25 (by decide) rfl (by omega) (by omega)
          refine lv_iload hx hb dX5_speed_49 (lv_at hl 5 rfl) ?_
          refine lv_iadd hx hb dX5_speed_51 ?_
          refine lv_topi (fun x_26 ex_26 => ?_)
          have tx_26 : x_26.toInt = x_25.toInt + a3.toInt := ad_k ex_26 rfl rfl (by omega) (by omega)
          have hPc : va_P (dC, dI) vwCl (([] : va_W) ++ va_pl L f) H := va_P.part (X := [(h0, .inr (6, [.ref sea, .ref pas, .ref fl, .ref fc, .int xlf, .int xhr, .int xho, .int xga, .int xsg, .int xpr, .int xfa, .long xls]))]) hP [] rfl
          have hKc := hK.sub (tys' := []) [] rfl
          obtain ⟨k8_27, hk8_27⟩ : ∃ k : Nat, (([] : va_W) ++ va_pl L f)[k]? = some ((sa a0.toNatClampNeg), .inr (4, [.int (V a0.toNatClampNeg 0), .int (V a0.toNatClampNeg 1), .int (V a0.toNatClampNeg 2), .ref (oa a0.toNatClampNeg), .ref (ia a0.toNatClampNeg), .int (V a0.toNatClampNeg 3), .int (V a0.toNatClampNeg 4), .int (V a0.toNatClampNeg 5), .int (V a0.toNatClampNeg 6), .int (V a0.toNatClampNeg 7), .int (V a0.toNatClampNeg 8), .int (V a0.toNatClampNeg 9), .int (V a0.toNatClampNeg 10), .int (V a0.toNatClampNeg 11)])) := pl_at hsp_7.1 hsp_7.2.1
          refine va_calli (va_runV (As := [.int a1, .int x_26]) (rest := []) ⟨hx, hb, hml, hown, hts⟩ (c_X3_speedIn l dC dI H.size L f (sa a0.toNatClampNeg) (oa a0.toNatClampNeg) (ia a0.toNatClampNeg) (V a0.toNatClampNeg) a1 x_26 ⟨hsp_7.1, hsp_7.2.1⟩) (cwV 2 hts gX5_speed_X3_speedIn rfl rfl rfl (by decide +kernel) ⟨Nat.le_of_ble_eq_true rfl, Nat.le_of_ble_eq_true rfl⟩) ⟨fun a U g mk q => by obtain ⟨q0, q1, qP, qK, qN⟩ := q; exact ⟨q0, q1, qP, va_K.moved (u := U) (U := U.calling g mk a) (Vm.Alike.refl U.vm) qK, NW.same (u := U) (U := U.calling g mk a) rfl qN⟩, va_recv hKc hPc (ci := 4) (q0 := k8_27) rfl hk8_27, fun U hU hW => ⟨rfl, by rw [hU], by rw [hU]; exact hPc, va_K.moved hW.alike hKc, NW.warm hW hN⟩⟩ rfl rfl hl.1 rfl (lv_room (Nat.le_of_ble_eq_true rfl)) dX5_speed_52 ⟨(Nat.zero_le _), (Nat.zero_le _)⟩) hS (fun q _ h => ro_A hS hA q h) (ro_A hS hA) (fun r_28 u t H1 locs ht hvm k_29 hB hz1 hk1 hS => ?_)
          have hP := ro_P hk1 hP
          generalize H1 = H at hP hS ⊢
          try dsimp only at k_29
          exact W.iret (v := r_28) hx hb hr (fun t ht hW => ⟨⟨r_28, (), rfl, trivial, trivial⟩, hS.F ht⟩) hS.2.2 dX5_speed_55
        · skip
          have b_30 := b01n k_21 c_23
          (try simp only [Int32.lt_iff_toInt_lt, Int32.le_iff_toInt_le, ← Int32.toInt_inj, Int32.reduceToInt, zl1, zl2, zl3, zl4, zl9] at b_30)
          (try simp only [Int32.reduceToInt] at b_30)
          refine lv_iconst (v := (-1)) hx hb dX5_speed_40 (by decide) ?_
          have hv9 : (-1 : Int32).toInt = (-1) := by decide
          exact W.iret (v := (-1)) hx hb hr (fun t ht hW => ⟨⟨(-1), (), rfl, trivial, trivial⟩, hS.F ht⟩) hS.2.2 dX5_speed_41
set_option maxRecDepth 20000 in
theorem iw_X5_foul_X3 : ∀ w ∈ wsX30, w ∈ wsX5_foul := by decide +kernel
set_option maxHeartbeats 4000000 in
set_option maxRecDepth 100000 in
/-- foul -/
theorem c_X5_foul (l : Launch) (dC : Nat → ClassId) (dI : Nat → Nat → Nat) (sz : Nat) (L : List Nat) (f : Nat → va_E) (h0 : Nat) (sea : Nat) (pas : Nat) (fl : Nat) (fc : Nat) (xlf : Int32) (xhr : Int32) (xho : Int32) (xga : Int32) (xsg : Int32) (xpr : Int32) (xfa : Int32) (xls : Int64) (cB : ClassId) (own : Nat → Nat) (te : Nat) (cO : ClassId) (rr : Nat → Nat) (cw : Nat → Nat → Int32) (n : Nat) (sa : Nat → Nat) (V : Nat → Nat → Int32) (oa : Nat → Nat) (ia : Nat → Nat) (nO : Nat → Nat) (OW : Nat → Nat → Nat → Int32) (nS : Nat → Nat) (SW : Nat → Nat → Nat → Int32) (a0 : Int32) (a1 : Int32) (inv : Inv L f own te cO cB rr cw fl n sa V oa ia nO OW nS SW) : Met l yX5_foul wsX5_foul ({ frames := 4, cells := 0, slots := 0, locals := 85 }) (va_Pc [.ref h0, .int a0, .int a1] (fun U => U.heap.size = sz ∧ va_P (dC, dI) vwCl ([(h0, .inr (6, [.ref sea, .ref pas, .ref fl, .ref fc, .int xlf, .int xhr, .int xho, .int xga, .int xsg, .int xpr, .int xfa, .long xls]))] ++ va_pl L f) U.heap ∧ va_K (dC, dI) vwCl [(cO, .object "java/lang/Object")] U ∧ NW U ∧ va_D (fun _ => True) ([(h0, .inr (6, [.ref sea, .ref pas, .ref fl, .ref fc, .int xlf, .int xhr, .int xho, .int xga, .int xsg, .int xpr, .int xfa, .long xls]))] ++ va_pl L f))) (va_Qi (fun (r : Int32) (u : (Nat → va_E) × (Nat → Nat → Int32)) => (Inv L u.1 own te cO cB rr cw fl n sa u.2 oa ia nO OW nS SW)) (fun u t => va_P (dC, dI) vwCl ([(h0, .inr (6, [.ref sea, .ref pas, .ref fl, .ref fc, .int xlf, .int xhr, .int xho, .int xga, .int xsg, .int xpr, .int xfa, .long xls]))] ++ va_pl L u.1) t.heap ∧ va_K (dC, dI) vwCl [(cO, .object "java/lang/Object")] t ∧ va_D (va_A ([(h0, .inr (6, [.ref sea, .ref pas, .ref fl, .ref fc, .int xlf, .int xhr, .int xho, .int xga, .int xsg, .int xpr, .int xfa, .long xls]))] ++ va_pl L f) sz) ([(h0, .inr (6, [.ref sea, .ref pas, .ref fl, .ref fc, .int xlf, .int xhr, .int xho, .int xga, .int xsg, .int xpr, .int xfa, .long xls]))] ++ va_pl L u.1)) (va_A ([(h0, .inr (6, [.ref sea, .ref pas, .ref fl, .ref fc, .int xlf, .int xhr, .int xho, .int xga, .int xsg, .int xpr, .int xfa, .long xls]))] ++ va_pl L f) sz)) 0 0 (va_A ([(h0, .inr (6, [.ref sea, .ref pas, .ref fl, .ref fc, .int xlf, .int xhr, .int xho, .int xga, .int xsg, .int xpr, .int xfa, .long xls]))] ++ va_pl L f) sz) := by
  refine Met.ofW (cc := cX5_foul) (maxL := 5) (ret := (some .int)) (by decide) rfl ?_
  intro p e s m args below meth c s₁ B hml hv
  obtain ⟨rfl, hsz, hP, hK, hN, hD0⟩ := hv
  have hx := B.exec
  have hb := B.bytes
  have hr := B.returns
  have hts := atoms_spec (ws := wsX5_foul) B.pre
  have hown : s.vm.findClass RX5 = some m.cls := findClass_of_methodNamed B.named
  have hlocks := B.notSynchronized
  subst hsz
  have hD := hD0.self (sz := s.heap.size)
  generalize hAe : va_A ([(h0, .inr (6, [.ref sea, .ref pas, .ref fl, .ref fc, .int xlf, .int xhr, .int xho, .int xga, .int xsg, .int xpr, .int xfa, .long xls]))] ++ va_pl L f) s.heap.size = A at hD ⊢
  have hA : ∀ q : Nat, s.heap.size ≤ q → A q := fun q h => by rw [← hAe]; exact Or.inr h
  have hS : va_S A s.heap s.heap [] := va_S.rf
  have hP : va_P (dC, dI) vwCl ([(h0, .inr (6, [.ref sea, .ref pas, .ref fl, .ref fc, .int xlf, .int xhr, .int xho, .int xga, .int xsg, .int xpr, .int xfa, .long xls]))] ++ va_pl L f) s.heap := hP
  have hl := lv_entry ([.ref h0, .int a0, .int a1]) (n := 5) (Nat.le_of_ble_eq_true rfl)
  rw [lg_entry_eq]
  generalize (lg_sl ([.ref h0, .int a0, .int a1]) ++ List.replicate (5 - (lg_sl ([.ref h0, .int a0, .int a1])).length) Slot.unset).toArray = ls at hl ⊢
  have hl : lv_has ls 5 [(0, .ref h0), (1, .int a0), (2, .int a1)] := hl
  refine lv_aload_n hx hb dX5_foul_0 rfl (lv_at hl 0 rfl) ?_
  refine lv_iload_n hx hb dX5_foul_1 rfl (lv_at hl 1 rfl) ?_
  have hPc : va_P (dC, dI) vwCl ([(h0, .inr (6, [.ref sea, .ref pas, .ref fl, .ref fc, .int xlf, .int xhr, .int xho, .int xga, .int xsg, .int xpr, .int xfa, .long xls]))] ++ va_pl L f) s.heap := va_P.part (X := [(h0, .inr (6, [.ref sea, .ref pas, .ref fl, .ref fc, .int xlf, .int xhr, .int xho, .int xga, .int xsg, .int xpr, .int xfa, .long xls]))]) hP [0] rfl
  have hKc := hK.sub (tys' := [(cO, .object "java/lang/Object")]) [0] rfl
  refine va_callq (va_runV (As := [.int a0]) (rest := []) ⟨hx, hb, hml, hown, hts⟩ (c_X5_shipOf l dC dI s.heap.size L f h0 sea pas fl fc xlf xhr xho xga xsg xpr xfa xls cB own te cO rr cw n sa V oa ia nO OW nS SW a0 inv) (cwV 1 hts gX5_foul_X5_shipOf rfl rfl rfl (by decide +kernel) ⟨Nat.le_of_ble_eq_true rfl, Nat.le_of_ble_eq_true rfl⟩) ⟨fun a U g mk q => by obtain ⟨q0, q1, qP, qK, qN⟩ := q; exact ⟨q0, q1, qP, va_K.moved (u := U) (U := U.calling g mk a) (Vm.Alike.refl U.vm) qK, NW.same (u := U) (U := U.calling g mk a) rfl qN⟩, va_recv hKc hPc (ci := 6) (q0 := 0) rfl rfl, fun U hU hW => ⟨rfl, by rw [hU], by rw [hU]; exact hPc, va_K.moved hW.alike hKc, NW.warm hW hN⟩⟩ rfl rfl hl.1 rfl (lv_room (Nat.le_of_ble_eq_true rfl)) dX5_foul_2 ⟨(Nat.zero_le _), (Nat.zero_le _)⟩) hS (fun q _ h => ro_A hS hA q h) (ro_A hS hA) (fun r_1 u t H1 locs ht hvm k_2 hB hz1 hk1 hS => ?_)
  have hP := ro_P hk1 hP
  generalize H1 = H at hP hS ⊢
  try dsimp only at k_2
  obtain ⟨k_2, k_3⟩ := k_2
  rcases r_1 with _ | q_4
  · skip
    have hno := k_3 rfl
    refine W.eq (g2 := F0 m 5 ls [.null]) rfl ?_
    refine lv_astore_nN (lv' := [(3, .null), (0, .ref h0), (1, .int a0), (2, .int a1)]) hx hb dX5_foul_5 rfl hl (by decide) rfl (fun ls hl => ?_)
    refine lv_aload_nN hx hb dX5_foul_6 rfl (lv_at hl 0 rfl) ?_
    refine lv_ifnullN (tgt := 19) hx hb dX5_foul_7 (by decide) ?_
    refine lv_iconst (v := (-1)) hx hb dX5_foul_19 (by decide) ?_
    have hP9 : va_P (dC, dI) vwCl ([(h0, .inr (6, [.ref sea, .ref pas, .ref fl, .ref fc, .int xlf, .int xhr, .int xho, .int xga, .int xsg, .int xpr, .int xfa, .long xls]))] ++ va_pl L f) H := va_P.part (X := [(h0, .inr (6, [.ref sea, .ref pas, .ref fl, .ref fc, .int xlf, .int xhr, .int xho, .int xga, .int xsg, .int xpr, .int xfa, .long xls]))]) hP [0] rfl
    have hD9 : va_D A ([(h0, .inr (6, [.ref sea, .ref pas, .ref fl, .ref fc, .int xlf, .int xhr, .int xho, .int xga, .int xsg, .int xpr, .int xfa, .long xls]))] ++ va_pl L f) := va_D.part (X := [(h0, .inr (6, [.ref sea, .ref pas, .ref fl, .ref fc, .int xlf, .int xhr, .int xho, .int xga, .int xsg, .int xpr, .int xfa, .long xls]))]) hD [0] (by decide) rfl
    have hK9 := hK.sub (tys' := [(cO, .object "java/lang/Object")]) [0] rfl
    have hv9 : (-1 : Int32).toInt = (-1) := by decide
    exact W.iret (v := (-1)) hx hb hr (fun t ht hW => ⟨⟨(-1), (f, V), rfl, inv, ⟨by rw [ht]; exact hP9, va_K.moved hW.alike hK9, hD9⟩⟩, hS.F ht⟩) hS.2.2 dX5_foul_20
  · skip
    obtain ⟨hi_5, hi_6, rfl⟩ := k_2 q_4 rfl
    refine W.eq (g2 := F0 m 5 ls [.ref (sa a0.toNatClampNeg)]) rfl ?_
    have hn8 := inv.2.2.2.2.1
    have hsp_7 := inv.2.2.2.2.2 a0.toNatClampNeg (tn_lt (by omega) (by omega))
    refine lv_astore_n (lv' := [(3, .ref (sa a0.toNatClampNeg)), (0, .ref h0), (1, .int a0), (2, .int a1)]) hx hb dX5_foul_5 rfl hl (by decide) rfl (fun ls hl => ?_)
    refine lv_aload_n hx hb dX5_foul_6 rfl (lv_at hl 0 rfl) ?_
    refine lv_ifnull hx hb dX5_foul_7 ?_
    refine lv_iload_n hx hb dX5_foul_10 rfl (lv_at hl 3 rfl) ?_
    refine lv_bipush (v := 9) hx hb dX5_foul_11 (by decide) ?_
    refine va_calli (va_runS (As := [.int a1, .int 9]) (rest := []) ⟨hx, hb, hml, hown, hts⟩ (c_X5_outside l H.size a1 9 ) (va_cwS 2 hts gX5_foul_X5_outside rfl rfl rfl (by decide +kernel) ⟨Nat.le_of_ble_eq_true rfl, Nat.le_of_ble_eq_true rfl⟩) ⟨fun a U g mk q => by obtain ⟨q0, q1⟩ := q; exact ⟨q0, q1⟩, fun U hU hW => ⟨rfl, congrArg Array.size hU⟩⟩ rfl rfl hl.1 rfl (lv_room (Nat.le_of_ble_eq_true rfl)) dX5_foul_13 ⟨(Nat.zero_le _), (Nat.zero_le _)⟩) hS (fun q _ h => ro_A hS hA q h) (ro_A hS hA) (fun r_8 u t H1 locs ht hvm k_9 hB hz1 hk1 hS => ?_)
    have hP := ro_P hk1 hP
    generalize H1 = H at hP hS ⊢
    try dsimp only at k_9
    obtain ⟨k_9, k_10⟩ := k_9
    refine lv_if_eq (tgt := 21) hx hb dX5_foul_16 (by decide) (fun c_11 => ?_) (fun c_11 => ?_)
    · skip
      have b_12 := b01z k_9 c_11
      (try simp only [Int32.lt_iff_toInt_lt, Int32.le_iff_toInt_le, ← Int32.toInt_inj, Int32.reduceToInt, zl1, zl2, zl3, zl4, zl9] at b_12)
      (try simp only [Int32.reduceToInt] at b_12)
      refine lv_aload_n hx hb dX5_foul_21 rfl (lv_at hl 0 rfl) ?_
      obtain ⟨k9_13, hk9_13⟩ : ∃ k : Nat, ([(h0, .inr (6, [.ref sea, .ref pas, .ref fl, .ref fc, .int xlf, .int xhr, .int xho, .int xga, .int xsg, .int xpr, .int xfa, .long xls]))] ++ va_pl L f)[k]? = some ((sa a0.toNatClampNeg), .inr (4, [.int (V a0.toNatClampNeg 0), .int (V a0.toNatClampNeg 1), .int (V a0.toNatClampNeg 2), .ref (oa a0.toNatClampNeg), .ref (ia a0.toNatClampNeg), .int (V a0.toNatClampNeg 3), .int (V a0.toNatClampNeg 4), .int (V a0.toNatClampNeg 5), .int (V a0.toNatClampNeg 6), .int (V a0.toNatClampNeg 7), .int (V a0.toNatClampNeg 8), .int (V a0.toNatClampNeg 9), .int (V a0.toNatClampNeg 10), .int (V a0.toNatClampNeg 11)])) := pl_at hsp_7.1 hsp_7.2.1
      refine va_get (D := (dC, dI)) (ci := 4) (v := .int (V a0.toNatClampNeg 6)) (C := RX3) (T := TX3) (N := 14) hx hb hts iw_X5_foul_X3 hown hK hP k9_13 hk9_13 rfl 8 (by decide) (hts (.fieldLink RX5 126 "TeaRace$Ship" "foulness" "I") (by decide +kernel)) (fun _ h9 => h9) rfl dX5_foul_22 ?_
      refine lv_istore (lv' := [(4, .int (V a0.toNatClampNeg 6)), (3, .ref (sa a0.toNatClampNeg)), (0, .ref h0), (1, .int a0), (2, .int a1)]) hx hb dX5_foul_25 hl (by decide) rfl (fun ls hl => ?_)
      refine lv_aload_n hx hb dX5_foul_27 rfl (lv_at hl 1 rfl) ?_
      refine lv_iload_n hx hb dX5_foul_28 rfl (lv_at hl 4 rfl) ?_
      obtain ⟨k9_14, hk9_14⟩ : ∃ k : Nat, ([(h0, .inr (6, [.ref sea, .ref pas, .ref fl, .ref fc, .int xlf, .int xhr, .int xho, .int xga, .int xsg, .int xpr, .int xfa, .long xls]))] ++ va_pl L f)[k]? = some ((sa a0.toNatClampNeg), .inr (4, [.int (V a0.toNatClampNeg 0), .int (V a0.toNatClampNeg 1), .int (V a0.toNatClampNeg 2), .ref (oa a0.toNatClampNeg), .ref (ia a0.toNatClampNeg), .int (V a0.toNatClampNeg 3), .int (V a0.toNatClampNeg 4), .int (V a0.toNatClampNeg 5), .int (V a0.toNatClampNeg 6), .int (V a0.toNatClampNeg 7), .int (V a0.toNatClampNeg 8), .int (V a0.toNatClampNeg 9), .int (V a0.toNatClampNeg 10), .int (V a0.toNatClampNeg 11)])) := pl_at hsp_7.1 hsp_7.2.1
      have hDo_15 := hD
      refine va_put (D := (dC, dI)) (ci := 4) (v := .int a1) (ty := .int) (C := RX3) (T := TX3) (N := 14) hx hb hts iw_X5_foul_X3 tyX3 tyX3_ok nmX3 hown hK hP hD hS k9_14 hk9_14 rfl 8 (by decide) (hts (.fieldLink RX5 126 "TeaRace$Ship" "foulness" "I") (by decide +kernel)) (fun _ h9 => h9) rfl (by decide +kernel) rfl rfl (Nat.le_of_ble_eq_true rfl) dX5_foul_29 (fun H locs hP hD hS => ?_)
      have hP : va_P (dC, dI) vwCl (List.set ([(h0, .inr (6, [.ref sea, .ref pas, .ref fl, .ref fc, .int xlf, .int xhr, .int xho, .int xga, .int xsg, .int xpr, .int xfa, .long xls]))] ++ va_pl L f) k9_14 ((sa a0.toNatClampNeg), .inr (4, [.int (V a0.toNatClampNeg 0), .int (V a0.toNatClampNeg 1), .int (V a0.toNatClampNeg 2), .ref (oa a0.toNatClampNeg), .ref (ia a0.toNatClampNeg), .int (V a0.toNatClampNeg 3), .int (V a0.toNatClampNeg 4), .int (V a0.toNatClampNeg 5), .int a1, .int (V a0.toNatClampNeg 7), .int (V a0.toNatClampNeg 8), .int (V a0.toNatClampNeg 9), .int (V a0.toNatClampNeg 10), .int (V a0.toNatClampNeg 11)]))) H := hP
      have hD : va_D A (List.set ([(h0, .inr (6, [.ref sea, .ref pas, .ref fl, .ref fc, .int xlf, .int xhr, .int xho, .int xga, .int xsg, .int xpr, .int xfa, .long xls]))] ++ va_pl L f) k9_14 ((sa a0.toNatClampNeg), .inr (4, [.int (V a0.toNatClampNeg 0), .int (V a0.toNatClampNeg 1), .int (V a0.toNatClampNeg 2), .ref (oa a0.toNatClampNeg), .ref (ia a0.toNatClampNeg), .int (V a0.toNatClampNeg 3), .int (V a0.toNatClampNeg 4), .int (V a0.toNatClampNeg 5), .int a1, .int (V a0.toNatClampNeg 7), .int (V a0.toNatClampNeg 8), .int (V a0.toNatClampNeg 9), .int (V a0.toNatClampNeg 10), .int (V a0.toNatClampNeg 11)]))) := hD
      rw [pl_set hDo_15 hsp_7.1 hsp_7.2.1 hk9_14] at hP hD
      obtain ⟨f_16, ef_16⟩ : ∃ z : Nat → va_E, z = va_up f (sa a0.toNatClampNeg) (.inr (4, [.int (V a0.toNatClampNeg 0), .int (V a0.toNatClampNeg 1), .int (V a0.toNatClampNeg 2), .ref (oa a0.toNatClampNeg), .ref (ia a0.toNatClampNeg), .int (V a0.toNatClampNeg 3), .int (V a0.toNatClampNeg 4), .int (V a0.toNatClampNeg 5), .int a1, .int (V a0.toNatClampNeg 7), .int (V a0.toNatClampNeg 8), .int (V a0.toNatClampNeg 9), .int (V a0.toNatClampNeg 10), .int (V a0.toNatClampNeg 11)])) := ⟨_, rfl⟩
      rw [← ef_16] at hP hD
      have ho_17 : f_16 (sa a0.toNatClampNeg) = .inr (4, [.int (V a0.toNatClampNeg 0), .int (V a0.toNatClampNeg 1), .int (V a0.toNatClampNeg 2), .ref (oa a0.toNatClampNeg), .ref (ia a0.toNatClampNeg), .int (V a0.toNatClampNeg 3), .int (V a0.toNatClampNeg 4), .int (V a0.toNatClampNeg 5), .int a1, .int (V a0.toNatClampNeg 7), .int (V a0.toNatClampNeg 8), .int (V a0.toNatClampNeg 9), .int (V a0.toNatClampNeg 10), .int (V a0.toNatClampNeg 11)]) := by rw [ef_16, va_up_self]
      have hq_18 : Ords L f_16 te cO (oa a0.toNatClampNeg) (nO a0.toNatClampNeg) (OW a0.toNatClampNeg) := Ords.ship hsp_7.2.2.2.1 ef_16 (hsp_7.2.1)
      have hq_19 : Sigs L f_16 te cO (ia a0.toNatClampNeg) (nS a0.toNatClampNeg) (SW a0.toNatClampNeg) := Sigs.ship hsp_7.2.2.2.2.2.2.1 ef_16 (hsp_7.2.1)
      have hP : va_P (dC, dI) vwCl ([(h0, .inr (6, [.ref sea, .ref pas, .ref fl, .ref fc, .int xlf, .int xhr, .int xho, .int xga, .int xsg, .int xpr, .int xfa, .long xls]))] ++ va_pl L f_16) H := hP
      have hD : va_D A ([(h0, .inr (6, [.ref sea, .ref pas, .ref fl, .ref fc, .int xlf, .int xhr, .int xho, .int xga, .int xsg, .int xpr, .int xfa, .long xls]))] ++ va_pl L f_16) := hD
      have inv_20 : Inv L f_16 own te cO cB rr cw fl n sa (va_up V a0.toNatClampNeg (upd (V a0.toNatClampNeg) 6 a1)) oa ia nO OW nS SW := Inv.ship (v := (upd (V a0.toNatClampNeg) 6 a1)) inv (tn_lt (by omega) (by omega)) ef_16
      refine lv_iload hx hb dX5_foul_32 (lv_at hl 0 rfl) ?_
      have hP9 : va_P (dC, dI) vwCl ([(h0, .inr (6, [.ref sea, .ref pas, .ref fl, .ref fc, .int xlf, .int xhr, .int xho, .int xga, .int xsg, .int xpr, .int xfa, .long xls]))] ++ va_pl L f_16) H := va_P.part (X := [(h0, .inr (6, [.ref sea, .ref pas, .ref fl, .ref fc, .int xlf, .int xhr, .int xho, .int xga, .int xsg, .int xpr, .int xfa, .long xls]))]) hP [0] rfl
      have hD9 : va_D A ([(h0, .inr (6, [.ref sea, .ref pas, .ref fl, .ref fc, .int xlf, .int xhr, .int xho, .int xga, .int xsg, .int xpr, .int xfa, .long xls]))] ++ va_pl L f_16) := va_D.part (X := [(h0, .inr (6, [.ref sea, .ref pas, .ref fl, .ref fc, .int xlf, .int xhr, .int xho, .int xga, .int xsg, .int xpr, .int xfa, .long xls]))]) hD [0] (by decide) rfl
      have hK9 := hK.sub (tys' := [(cO, .object "java/lang/Object")]) [0] rfl
      exact W.iret (v := (V a0.toNatClampNeg 6)) hx hb hr (fun t ht hW => ⟨⟨(V a0.toNatClampNeg 6), (f_16, (va_up V a0.toNatClampNeg (upd (V a0.toNatClampNeg) 6 a1))), rfl, inv_20, ⟨by rw [ht]; exact hP9, va_K.moved hW.alike hK9, hD9⟩⟩, hS.F ht⟩) hS.2.2 dX5_foul_34
    · skip
      have b_21 := b01n k_9 c_11
      (try simp only [Int32.lt_iff_toInt_lt, Int32.le_iff_toInt_le, ← Int32.toInt_inj, Int32.reduceToInt, zl1, zl2, zl3, zl4, zl9] at b_21)
      (try simp only [Int32.reduceToInt] at b_21)
      refine lv_iconst (v := (-1)) hx hb dX5_foul_19 (by decide) ?_
      have hP9 : va_P (dC, dI) vwCl ([(h0, .inr (6, [.ref sea, .ref pas, .ref fl, .ref fc, .int xlf, .int xhr, .int xho, .int xga, .int xsg, .int xpr, .int xfa, .long xls]))] ++ va_pl L f) H := va_P.part (X := [(h0, .inr (6, [.ref sea, .ref pas, .ref fl, .ref fc, .int xlf, .int xhr, .int xho, .int xga, .int xsg, .int xpr, .int xfa, .long xls]))]) hP [0] rfl
      have hD9 : va_D A ([(h0, .inr (6, [.ref sea, .ref pas, .ref fl, .ref fc, .int xlf, .int xhr, .int xho, .int xga, .int xsg, .int xpr, .int xfa, .long xls]))] ++ va_pl L f) := va_D.part (X := [(h0, .inr (6, [.ref sea, .ref pas, .ref fl, .ref fc, .int xlf, .int xhr, .int xho, .int xga, .int xsg, .int xpr, .int xfa, .long xls]))]) hD [0] (by decide) rfl
      have hK9 := hK.sub (tys' := [(cO, .object "java/lang/Object")]) [0] rfl
      have hv9 : (-1 : Int32).toInt = (-1) := by decide
      exact W.iret (v := (-1)) hx hb hr (fun t ht hW => ⟨⟨(-1), (f, V), rfl, inv, ⟨by rw [ht]; exact hP9, va_K.moved hW.alike hK9, hD9⟩⟩, hS.F ht⟩) hS.2.2 dX5_foul_20
set_option maxRecDepth 20000 in
theorem iw_X5_charter_X3 : ∀ w ∈ wsX30, w ∈ wsX5_charter := by decide +kernel
set_option maxHeartbeats 4000000 in
set_option maxRecDepth 100000 in
/-- charter -/
theorem c_X5_charter (l : Launch) (dC : Nat → ClassId) (dI : Nat → Nat → Nat) (sz : Nat) (L : List Nat) (f : Nat → va_E) (h0 : Nat) (sea : Nat) (pas : Nat) (fl : Nat) (fc : Nat) (xlf : Int32) (xhr : Int32) (xho : Int32) (xga : Int32) (xsg : Int32) (xpr : Int32) (xfa : Int32) (xls : Int64) (cB : ClassId) (own : Nat → Nat) (te : Nat) (cO : ClassId) (rr : Nat → Nat) (cw : Nat → Nat → Int32) (n : Nat) (sa : Nat → Nat) (V : Nat → Nat → Int32) (oa : Nat → Nat) (ia : Nat → Nat) (nO : Nat → Nat) (OW : Nat → Nat → Nat → Int32) (nS : Nat → Nat) (SW : Nat → Nat → Nat → Int32) (a0 : Int32) (a1 : Int32) (a2 : Int32) (inv : Inv L f own te cO cB rr cw fl n sa V oa ia nO OW nS SW) : Met l yX5_charter wsX5_charter ({ frames := 4, cells := 0, slots := 0, locals := 85 }) (va_Pc [.ref h0, .int a0, .int a1, .int a2] (fun U => U.heap.size = sz ∧ va_P (dC, dI) vwCl ([(h0, .inr (6, [.ref sea, .ref pas, .ref fl, .ref fc, .int xlf, .int xhr, .int xho, .int xga, .int xsg, .int xpr, .int xfa, .long xls]))] ++ va_pl L f) U.heap ∧ va_K (dC, dI) vwCl [(cO, .object "java/lang/Object")] U ∧ NW U ∧ va_D (fun _ => True) ([(h0, .inr (6, [.ref sea, .ref pas, .ref fl, .ref fc, .int xlf, .int xhr, .int xho, .int xga, .int xsg, .int xpr, .int xfa, .long xls]))] ++ va_pl L f))) (va_Qi (fun (r : Int32) (u : (Nat → va_E) × (Nat → Nat → Int32)) => (Inv L u.1 own te cO cB rr cw fl n sa u.2 oa ia nO OW nS SW)) (fun u t => va_P (dC, dI) vwCl ([(h0, .inr (6, [.ref sea, .ref pas, .ref fl, .ref fc, .int xlf, .int xhr, .int xho, .int xga, .int xsg, .int xpr, .int xfa, .long xls]))] ++ va_pl L u.1) t.heap ∧ va_K (dC, dI) vwCl [(cO, .object "java/lang/Object")] t ∧ va_D (va_A ([(h0, .inr (6, [.ref sea, .ref pas, .ref fl, .ref fc, .int xlf, .int xhr, .int xho, .int xga, .int xsg, .int xpr, .int xfa, .long xls]))] ++ va_pl L f) sz) ([(h0, .inr (6, [.ref sea, .ref pas, .ref fl, .ref fc, .int xlf, .int xhr, .int xho, .int xga, .int xsg, .int xpr, .int xfa, .long xls]))] ++ va_pl L u.1)) (va_A ([(h0, .inr (6, [.ref sea, .ref pas, .ref fl, .ref fc, .int xlf, .int xhr, .int xho, .int xga, .int xsg, .int xpr, .int xfa, .long xls]))] ++ va_pl L f) sz)) 0 0 (va_A ([(h0, .inr (6, [.ref sea, .ref pas, .ref fl, .ref fc, .int xlf, .int xhr, .int xho, .int xga, .int xsg, .int xpr, .int xfa, .long xls]))] ++ va_pl L f) sz) := by
  refine Met.ofW (cc := cX5_charter) (maxL := 5) (ret := (some .int)) (by decide) rfl ?_
  intro p e s m args below meth c s₁ B hml hv
  obtain ⟨rfl, hsz, hP, hK, hN, hD0⟩ := hv
  have hx := B.exec
  have hb := B.bytes
  have hr := B.returns
  have hts := atoms_spec (ws := wsX5_charter) B.pre
  have hown : s.vm.findClass RX5 = some m.cls := findClass_of_methodNamed B.named
  have hlocks := B.notSynchronized
  subst hsz
  have hD := hD0.self (sz := s.heap.size)
  generalize hAe : va_A ([(h0, .inr (6, [.ref sea, .ref pas, .ref fl, .ref fc, .int xlf, .int xhr, .int xho, .int xga, .int xsg, .int xpr, .int xfa, .long xls]))] ++ va_pl L f) s.heap.size = A at hD ⊢
  have hA : ∀ q : Nat, s.heap.size ≤ q → A q := fun q h => by rw [← hAe]; exact Or.inr h
  have hS : va_S A s.heap s.heap [] := va_S.rf
  have hP : va_P (dC, dI) vwCl ([(h0, .inr (6, [.ref sea, .ref pas, .ref fl, .ref fc, .int xlf, .int xhr, .int xho, .int xga, .int xsg, .int xpr, .int xfa, .long xls]))] ++ va_pl L f) s.heap := hP
  have hl := lv_entry ([.ref h0, .int a0, .int a1, .int a2]) (n := 5) (Nat.le_of_ble_eq_true rfl)
  rw [lg_entry_eq]
  generalize (lg_sl ([.ref h0, .int a0, .int a1, .int a2]) ++ List.replicate (5 - (lg_sl ([.ref h0, .int a0, .int a1, .int a2])).length) Slot.unset).toArray = ls at hl ⊢
  have hl : lv_has ls 5 [(0, .ref h0), (1, .int a0), (2, .int a1), (3, .int a2)] := hl
  refine lv_aload_n hx hb dX5_charter_0 rfl (lv_at hl 0 rfl) ?_
  refine lv_iload_n hx hb dX5_charter_1 rfl (lv_at hl 1 rfl) ?_
  have hPc : va_P (dC, dI) vwCl ([(h0, .inr (6, [.ref sea, .ref pas, .ref fl, .ref fc, .int xlf, .int xhr, .int xho, .int xga, .int xsg, .int xpr, .int xfa, .long xls]))] ++ va_pl L f) s.heap := va_P.part (X := [(h0, .inr (6, [.ref sea, .ref pas, .ref fl, .ref fc, .int xlf, .int xhr, .int xho, .int xga, .int xsg, .int xpr, .int xfa, .long xls]))]) hP [0] rfl
  have hKc := hK.sub (tys' := [(cO, .object "java/lang/Object")]) [0] rfl
  refine va_callq (va_runV (As := [.int a0]) (rest := []) ⟨hx, hb, hml, hown, hts⟩ (c_X5_shipOf l dC dI s.heap.size L f h0 sea pas fl fc xlf xhr xho xga xsg xpr xfa xls cB own te cO rr cw n sa V oa ia nO OW nS SW a0 inv) (cwV 1 hts gX5_charter_X5_shipOf rfl rfl rfl (by decide +kernel) ⟨Nat.le_of_ble_eq_true rfl, Nat.le_of_ble_eq_true rfl⟩) ⟨fun a U g mk q => by obtain ⟨q0, q1, qP, qK, qN⟩ := q; exact ⟨q0, q1, qP, va_K.moved (u := U) (U := U.calling g mk a) (Vm.Alike.refl U.vm) qK, NW.same (u := U) (U := U.calling g mk a) rfl qN⟩, va_recv hKc hPc (ci := 6) (q0 := 0) rfl rfl, fun U hU hW => ⟨rfl, by rw [hU], by rw [hU]; exact hPc, va_K.moved hW.alike hKc, NW.warm hW hN⟩⟩ rfl rfl hl.1 rfl (lv_room (Nat.le_of_ble_eq_true rfl)) dX5_charter_2 ⟨(Nat.zero_le _), (Nat.zero_le _)⟩) hS (fun q _ h => ro_A hS hA q h) (ro_A hS hA) (fun r_1 u t H1 locs ht hvm k_2 hB hz1 hk1 hS => ?_)
  have hP := ro_P hk1 hP
  generalize H1 = H at hP hS ⊢
  try dsimp only at k_2
  obtain ⟨k_2, k_3⟩ := k_2
  rcases r_1 with _ | q_4
  · skip
    have hno := k_3 rfl
    refine W.eq (g2 := F0 m 5 ls [.null]) rfl ?_
    refine lv_astoreN (lv' := [(4, .null), (0, .ref h0), (1, .int a0), (2, .int a1), (3, .int a2)]) hx hb dX5_charter_5 hl (by decide) rfl (fun ls hl => ?_)
    refine lv_aloadN hx hb dX5_charter_7 (lv_at hl 0 rfl) ?_
    refine lv_ifnullN (tgt := 31) hx hb dX5_charter_9 (by decide) ?_
    refine lv_iconst (v := (-1)) hx hb dX5_charter_31 (by decide) ?_
    have hP9 : va_P (dC, dI) vwCl ([(h0, .inr (6, [.ref sea, .ref pas, .ref fl, .ref fc, .int xlf, .int xhr, .int xho, .int xga, .int xsg, .int xpr, .int xfa, .long xls]))] ++ va_pl L f) H := va_P.part (X := [(h0, .inr (6, [.ref sea, .ref pas, .ref fl, .ref fc, .int xlf, .int xhr, .int xho, .int xga, .int xsg, .int xpr, .int xfa, .long xls]))]) hP [0] rfl
    have hD9 : va_D A ([(h0, .inr (6, [.ref sea, .ref pas, .ref fl, .ref fc, .int xlf, .int xhr, .int xho, .int xga, .int xsg, .int xpr, .int xfa, .long xls]))] ++ va_pl L f) := va_D.part (X := [(h0, .inr (6, [.ref sea, .ref pas, .ref fl, .ref fc, .int xlf, .int xhr, .int xho, .int xga, .int xsg, .int xpr, .int xfa, .long xls]))]) hD [0] (by decide) rfl
    have hK9 := hK.sub (tys' := [(cO, .object "java/lang/Object")]) [0] rfl
    have hv9 : (-1 : Int32).toInt = (-1) := by decide
    exact W.iret (v := (-1)) hx hb hr (fun t ht hW => ⟨⟨(-1), (f, V), rfl, inv, ⟨by rw [ht]; exact hP9, va_K.moved hW.alike hK9, hD9⟩⟩, hS.F ht⟩) hS.2.2 dX5_charter_32
  · skip
    obtain ⟨hi_5, hi_6, rfl⟩ := k_2 q_4 rfl
    refine W.eq (g2 := F0 m 5 ls [.ref (sa a0.toNatClampNeg)]) rfl ?_
    have hn8 := inv.2.2.2.2.1
    have hsp_7 := inv.2.2.2.2.2 a0.toNatClampNeg (tn_lt (by omega) (by omega))
    refine lv_astore (lv' := [(4, .ref (sa a0.toNatClampNeg)), (0, .ref h0), (1, .int a0), (2, .int a1), (3, .int a2)]) hx hb dX5_charter_5 hl (by decide) rfl (fun ls hl => ?_)
    refine lv_aload hx hb dX5_charter_7 (lv_at hl 0 rfl) ?_
    refine lv_ifnull hx hb dX5_charter_9 ?_
    refine lv_iload_n hx hb dX5_charter_12 rfl (lv_at hl 3 rfl) ?_
    refine lv_sipush (v := 1000) hx hb dX5_charter_13 (by decide) ?_
    refine va_calli (va_runS (As := [.int a1, .int 1000]) (rest := []) ⟨hx, hb, hml, hown, hts⟩ (c_X5_outside l H.size a1 1000 ) (va_cwS 2 hts gX5_charter_X5_outside rfl rfl rfl (by decide +kernel) ⟨Nat.le_of_ble_eq_true rfl, Nat.le_of_ble_eq_true rfl⟩) ⟨fun a U g mk q => by obtain ⟨q0, q1⟩ := q; exact ⟨q0, q1⟩, fun U hU hW => ⟨rfl, congrArg Array.size hU⟩⟩ rfl rfl hl.1 rfl (lv_room (Nat.le_of_ble_eq_true rfl)) dX5_charter_16 ⟨(Nat.zero_le _), (Nat.zero_le _)⟩) hS (fun q _ h => ro_A hS hA q h) (ro_A hS hA) (fun r_8 u t H1 locs ht hvm k_9 hB hz1 hk1 hS => ?_)
    have hP := ro_P hk1 hP
    generalize H1 = H at hP hS ⊢
    try dsimp only at k_9
    obtain ⟨k_9, k_10⟩ := k_9
    refine lv_if_ne (tgt := 31) hx hb dX5_charter_19 (by decide) (fun c_11 => ?_) (fun c_11 => ?_)
    · skip
      have b_12 := b01n k_9 c_11
      (try simp only [Int32.lt_iff_toInt_lt, Int32.le_iff_toInt_le, ← Int32.toInt_inj, Int32.reduceToInt, zl1, zl2, zl3, zl4, zl9] at b_12)
      (try simp only [Int32.reduceToInt] at b_12)
      refine lv_iconst (v := (-1)) hx hb dX5_charter_31 (by decide) ?_
      have hP9 : va_P (dC, dI) vwCl ([(h0, .inr (6, [.ref sea, .ref pas, .ref fl, .ref fc, .int xlf, .int xhr, .int xho, .int xga, .int xsg, .int xpr, .int xfa, .long xls]))] ++ va_pl L f) H := va_P.part (X := [(h0, .inr (6, [.ref sea, .ref pas, .ref fl, .ref fc, .int xlf, .int xhr, .int xho, .int xga, .int xsg, .int xpr, .int xfa, .long xls]))]) hP [0] rfl
      have hD9 : va_D A ([(h0, .inr (6, [.ref sea, .ref pas, .ref fl, .ref fc, .int xlf, .int xhr, .int xho, .int xga, .int xsg, .int xpr, .int xfa, .long xls]))] ++ va_pl L f) := va_D.part (X := [(h0, .inr (6, [.ref sea, .ref pas, .ref fl, .ref fc, .int xlf, .int xhr, .int xho, .int xga, .int xsg, .int xpr, .int xfa, .long xls]))]) hD [0] (by decide) rfl
      have hK9 := hK.sub (tys' := [(cO, .object "java/lang/Object")]) [0] rfl
      have hv9 : (-1 : Int32).toInt = (-1) := by decide
      exact W.iret (v := (-1)) hx hb hr (fun t ht hW => ⟨⟨(-1), (f, V), rfl, inv, ⟨by rw [ht]; exact hP9, va_K.moved hW.alike hK9, hD9⟩⟩, hS.F ht⟩) hS.2.2 dX5_charter_32
    · skip
      have b_13 := b01z k_9 c_11
      (try simp only [Int32.lt_iff_toInt_lt, Int32.le_iff_toInt_le, ← Int32.toInt_inj, Int32.reduceToInt, zl1, zl2, zl3, zl4, zl9] at b_13)
      (try simp only [Int32.reduceToInt] at b_13)
      refine lv_iload_n hx hb dX5_charter_22 rfl (lv_at hl 4 rfl) ?_
      refine lv_ldc (v := (100000)) hx hb hown (hts (.constant RX5 171 (100000)) (by decide +kernel)) dX5_charter_23 ?_
      refine va_calli (va_runS (As := [.int a2, .int (100000)]) (rest := []) ⟨hx, hb, hml, hown, hts⟩ (c_X5_outside l H.size a2 (100000) ) (va_cwS 2 hts gX5_charter_X5_outside rfl rfl rfl (by decide +kernel) ⟨Nat.le_of_ble_eq_true rfl, Nat.le_of_ble_eq_true rfl⟩) ⟨fun a U g mk q => by obtain ⟨q0, q1⟩ := q; exact ⟨q0, q1⟩, fun U hU hW => ⟨rfl, congrArg Array.size hU⟩⟩ rfl rfl hl.1 rfl (lv_room (Nat.le_of_ble_eq_true rfl)) dX5_charter_25 ⟨(Nat.zero_le _), (Nat.zero_le _)⟩) hS (fun q _ h => ro_A hS hA q h) (ro_A hS hA) (fun r_14 u t H1 locs ht hvm k_15 hB hz1 hk1 hS => ?_)
      have hP := ro_P hk1 hP
      generalize H1 = H at hP hS ⊢
      try dsimp only at k_15
      obtain ⟨k_15, k_16⟩ := k_15
      refine lv_if_eq (tgt := 33) hx hb dX5_charter_28 (by decide) (fun c_17 => ?_) (fun c_17 => ?_)
      · skip
        have b_18 := b01z k_15 c_17
        (try simp only [Int32.lt_iff_toInt_lt, Int32.le_iff_toInt_le, ← Int32.toInt_inj, Int32.reduceToInt, zl1, zl2, zl3, zl4, zl9] at b_18)
        (try simp only [Int32.reduceToInt] at b_18)
        refine lv_aload hx hb dX5_charter_33 (lv_at hl 0 rfl) ?_
        refine lv_iload_n hx hb dX5_charter_35 rfl (lv_at hl 3 rfl) ?_
        obtain ⟨k9_19, hk9_19⟩ : ∃ k : Nat, ([(h0, .inr (6, [.ref sea, .ref pas, .ref fl, .ref fc, .int xlf, .int xhr, .int xho, .int xga, .int xsg, .int xpr, .int xfa, .long xls]))] ++ va_pl L f)[k]? = some ((sa a0.toNatClampNeg), .inr (4, [.int (V a0.toNatClampNeg 0), .int (V a0.toNatClampNeg 1), .int (V a0.toNatClampNeg 2), .ref (oa a0.toNatClampNeg), .ref (ia a0.toNatClampNeg), .int (V a0.toNatClampNeg 3), .int (V a0.toNatClampNeg 4), .int (V a0.toNatClampNeg 5), .int (V a0.toNatClampNeg 6), .int (V a0.toNatClampNeg 7), .int (V a0.toNatClampNeg 8), .int (V a0.toNatClampNeg 9), .int (V a0.toNatClampNeg 10), .int (V a0.toNatClampNeg 11)])) := pl_at hsp_7.1 hsp_7.2.1
        have hDo_20 := hD
        refine va_put (D := (dC, dI)) (ci := 4) (v := .int a1) (ty := .int) (C := RX3) (T := TX3) (N := 14) hx hb hts iw_X5_charter_X3 tyX3 tyX3_ok nmX3 hown hK hP hD hS k9_19 hk9_19 rfl 12 (by decide) (hts (.fieldLink RX5 216 "TeaRace$Ship" "rate" "I") (by decide +kernel)) (fun _ h9 => h9) rfl (by decide +kernel) rfl rfl (Nat.le_of_ble_eq_true rfl) dX5_charter_36 (fun H locs hP hD hS => ?_)
        have hP : va_P (dC, dI) vwCl (List.set ([(h0, .inr (6, [.ref sea, .ref pas, .ref fl, .ref fc, .int xlf, .int xhr, .int xho, .int xga, .int xsg, .int xpr, .int xfa, .long xls]))] ++ va_pl L f) k9_19 ((sa a0.toNatClampNeg), .inr (4, [.int (V a0.toNatClampNeg 0), .int (V a0.toNatClampNeg 1), .int (V a0.toNatClampNeg 2), .ref (oa a0.toNatClampNeg), .ref (ia a0.toNatClampNeg), .int (V a0.toNatClampNeg 3), .int (V a0.toNatClampNeg 4), .int (V a0.toNatClampNeg 5), .int (V a0.toNatClampNeg 6), .int (V a0.toNatClampNeg 7), .int (V a0.toNatClampNeg 8), .int (V a0.toNatClampNeg 9), .int a1, .int (V a0.toNatClampNeg 11)]))) H := hP
        have hD : va_D A (List.set ([(h0, .inr (6, [.ref sea, .ref pas, .ref fl, .ref fc, .int xlf, .int xhr, .int xho, .int xga, .int xsg, .int xpr, .int xfa, .long xls]))] ++ va_pl L f) k9_19 ((sa a0.toNatClampNeg), .inr (4, [.int (V a0.toNatClampNeg 0), .int (V a0.toNatClampNeg 1), .int (V a0.toNatClampNeg 2), .ref (oa a0.toNatClampNeg), .ref (ia a0.toNatClampNeg), .int (V a0.toNatClampNeg 3), .int (V a0.toNatClampNeg 4), .int (V a0.toNatClampNeg 5), .int (V a0.toNatClampNeg 6), .int (V a0.toNatClampNeg 7), .int (V a0.toNatClampNeg 8), .int (V a0.toNatClampNeg 9), .int a1, .int (V a0.toNatClampNeg 11)]))) := hD
        rw [pl_set hDo_20 hsp_7.1 hsp_7.2.1 hk9_19] at hP hD
        obtain ⟨f_21, ef_21⟩ : ∃ z : Nat → va_E, z = va_up f (sa a0.toNatClampNeg) (.inr (4, [.int (V a0.toNatClampNeg 0), .int (V a0.toNatClampNeg 1), .int (V a0.toNatClampNeg 2), .ref (oa a0.toNatClampNeg), .ref (ia a0.toNatClampNeg), .int (V a0.toNatClampNeg 3), .int (V a0.toNatClampNeg 4), .int (V a0.toNatClampNeg 5), .int (V a0.toNatClampNeg 6), .int (V a0.toNatClampNeg 7), .int (V a0.toNatClampNeg 8), .int (V a0.toNatClampNeg 9), .int a1, .int (V a0.toNatClampNeg 11)])) := ⟨_, rfl⟩
        rw [← ef_21] at hP hD
        have ho_22 : f_21 (sa a0.toNatClampNeg) = .inr (4, [.int (V a0.toNatClampNeg 0), .int (V a0.toNatClampNeg 1), .int (V a0.toNatClampNeg 2), .ref (oa a0.toNatClampNeg), .ref (ia a0.toNatClampNeg), .int (V a0.toNatClampNeg 3), .int (V a0.toNatClampNeg 4), .int (V a0.toNatClampNeg 5), .int (V a0.toNatClampNeg 6), .int (V a0.toNatClampNeg 7), .int (V a0.toNatClampNeg 8), .int (V a0.toNatClampNeg 9), .int a1, .int (V a0.toNatClampNeg 11)]) := by rw [ef_21, va_up_self]
        have hq_23 : Ords L f_21 te cO (oa a0.toNatClampNeg) (nO a0.toNatClampNeg) (OW a0.toNatClampNeg) := Ords.ship hsp_7.2.2.2.1 ef_21 (hsp_7.2.1)
        have hq_24 : Sigs L f_21 te cO (ia a0.toNatClampNeg) (nS a0.toNatClampNeg) (SW a0.toNatClampNeg) := Sigs.ship hsp_7.2.2.2.2.2.2.1 ef_21 (hsp_7.2.1)
        have hP : va_P (dC, dI) vwCl ([(h0, .inr (6, [.ref sea, .ref pas, .ref fl, .ref fc, .int xlf, .int xhr, .int xho, .int xga, .int xsg, .int xpr, .int xfa, .long xls]))] ++ va_pl L f_21) H := hP
        have hD : va_D A ([(h0, .inr (6, [.ref sea, .ref pas, .ref fl, .ref fc, .int xlf, .int xhr, .int xho, .int xga, .int xsg, .int xpr, .int xfa, .long xls]))] ++ va_pl L f_21) := hD
        have inv_25 : Inv L f_21 own te cO cB rr cw fl n sa (va_up V a0.toNatClampNeg (upd (V a0.toNatClampNeg) 10 a1)) oa ia nO OW nS SW := Inv.ship (v := (upd (V a0.toNatClampNeg) 10 a1)) inv (tn_lt (by omega) (by omega)) ef_21
        refine lv_aload hx hb dX5_charter_39 (lv_at hl 0 rfl) ?_
        refine lv_iload_n hx hb dX5_charter_41 rfl (lv_at hl 4 rfl) ?_
        obtain ⟨k9_26, hk9_26⟩ : ∃ k : Nat, ([(h0, .inr (6, [.ref sea, .ref pas, .ref fl, .ref fc, .int xlf, .int xhr, .int xho, .int xga, .int xsg, .int xpr, .int xfa, .long xls]))] ++ va_pl L f_21)[k]? = some ((sa a0.toNatClampNeg), .inr (4, [.int (V a0.toNatClampNeg 0), .int (V a0.toNatClampNeg 1), .int (V a0.toNatClampNeg 2), .ref (oa a0.toNatClampNeg), .ref (ia a0.toNatClampNeg), .int (V a0.toNatClampNeg 3), .int (V a0.toNatClampNeg 4), .int (V a0.toNatClampNeg 5), .int (V a0.toNatClampNeg 6), .int (V a0.toNatClampNeg 7), .int (V a0.toNatClampNeg 8), .int (V a0.toNatClampNeg 9), .int a1, .int (V a0.toNatClampNeg 11)])) := pl_at hsp_7.1 ho_22
        have hDo_27 := hD
        refine va_put (D := (dC, dI)) (ci := 4) (v := .int a2) (ty := .int) (C := RX3) (T := TX3) (N := 14) hx hb hts iw_X5_charter_X3 tyX3 tyX3_ok nmX3 hown hK hP hD hS k9_26 hk9_26 rfl 13 (by decide) (hts (.fieldLink RX5 219 "TeaRace$Ship" "premium" "I") (by decide +kernel)) (fun _ h9 => h9) rfl (by decide +kernel) rfl rfl (Nat.le_of_ble_eq_true rfl) dX5_charter_42 (fun H locs hP hD hS => ?_)
        have hP : va_P (dC, dI) vwCl (List.set ([(h0, .inr (6, [.ref sea, .ref pas, .ref fl, .ref fc, .int xlf, .int xhr, .int xho, .int xga, .int xsg, .int xpr, .int xfa, .long xls]))] ++ va_pl L f_21) k9_26 ((sa a0.toNatClampNeg), .inr (4, [.int (V a0.toNatClampNeg 0), .int (V a0.toNatClampNeg 1), .int (V a0.toNatClampNeg 2), .ref (oa a0.toNatClampNeg), .ref (ia a0.toNatClampNeg), .int (V a0.toNatClampNeg 3), .int (V a0.toNatClampNeg 4), .int (V a0.toNatClampNeg 5), .int (V a0.toNatClampNeg 6), .int (V a0.toNatClampNeg 7), .int (V a0.toNatClampNeg 8), .int (V a0.toNatClampNeg 9), .int a1, .int a2]))) H := hP
        have hD : va_D A (List.set ([(h0, .inr (6, [.ref sea, .ref pas, .ref fl, .ref fc, .int xlf, .int xhr, .int xho, .int xga, .int xsg, .int xpr, .int xfa, .long xls]))] ++ va_pl L f_21) k9_26 ((sa a0.toNatClampNeg), .inr (4, [.int (V a0.toNatClampNeg 0), .int (V a0.toNatClampNeg 1), .int (V a0.toNatClampNeg 2), .ref (oa a0.toNatClampNeg), .ref (ia a0.toNatClampNeg), .int (V a0.toNatClampNeg 3), .int (V a0.toNatClampNeg 4), .int (V a0.toNatClampNeg 5), .int (V a0.toNatClampNeg 6), .int (V a0.toNatClampNeg 7), .int (V a0.toNatClampNeg 8), .int (V a0.toNatClampNeg 9), .int a1, .int a2]))) := hD
        rw [pl_set hDo_27 hsp_7.1 ho_22 hk9_26] at hP hD
        obtain ⟨f_28, ef_28⟩ : ∃ z : Nat → va_E, z = va_up f_21 (sa a0.toNatClampNeg) (.inr (4, [.int (V a0.toNatClampNeg 0), .int (V a0.toNatClampNeg 1), .int (V a0.toNatClampNeg 2), .ref (oa a0.toNatClampNeg), .ref (ia a0.toNatClampNeg), .int (V a0.toNatClampNeg 3), .int (V a0.toNatClampNeg 4), .int (V a0.toNatClampNeg 5), .int (V a0.toNatClampNeg 6), .int (V a0.toNatClampNeg 7), .int (V a0.toNatClampNeg 8), .int (V a0.toNatClampNeg 9), .int a1, .int a2])) := ⟨_, rfl⟩
        rw [← ef_28] at hP hD
        have ho_29 : f_28 (sa a0.toNatClampNeg) = .inr (4, [.int (V a0.toNatClampNeg 0), .int (V a0.toNatClampNeg 1), .int (V a0.toNatClampNeg 2), .ref (oa a0.toNatClampNeg), .ref (ia a0.toNatClampNeg), .int (V a0.toNatClampNeg 3), .int (V a0.toNatClampNeg 4), .int (V a0.toNatClampNeg 5), .int (V a0.toNatClampNeg 6), .int (V a0.toNatClampNeg 7), .int (V a0.toNatClampNeg 8), .int (V a0.toNatClampNeg 9), .int a1, .int a2]) := by rw [ef_28, va_up_self]
        have hq_30 : Ords L f_28 te cO (oa a0.toNatClampNeg) (nO a0.toNatClampNeg) (OW a0.toNatClampNeg) := Ords.ship hq_23 ef_28 (ho_22)
        have hq_31 : Sigs L f_28 te cO (ia a0.toNatClampNeg) (nS a0.toNatClampNeg) (SW a0.toNatClampNeg) := Sigs.ship hq_24 ef_28 (ho_22)
        have hP : va_P (dC, dI) vwCl ([(h0, .inr (6, [.ref sea, .ref pas, .ref fl, .ref fc, .int xlf, .int xhr, .int xho, .int xga, .int xsg, .int xpr, .int xfa, .long xls]))] ++ va_pl L f_28) H := hP
        have hD : va_D A ([(h0, .inr (6, [.ref sea, .ref pas, .ref fl, .ref fc, .int xlf, .int xhr, .int xho, .int xga, .int xsg, .int xpr, .int xfa, .long xls]))] ++ va_pl L f_28) := hD
        have inv_32 : Inv L f_28 own te cO cB rr cw fl n sa (va_up (va_up V a0.toNatClampNeg (upd (V a0.toNatClampNeg) 10 a1)) a0.toNatClampNeg (upd (upd (V a0.toNatClampNeg) 10 a1) 11 a2)) oa ia nO OW nS SW := Inv.ship (v := (upd (upd (V a0.toNatClampNeg) 10 a1) 11 a2)) inv_25 (tn_lt (by omega) (by omega)) ef_28
        refine lv_iconst (v := 1) hx hb dX5_charter_45 (by decide) ?_
        have hP9 : va_P (dC, dI) vwCl ([(h0, .inr (6, [.ref sea, .ref pas, .ref fl, .ref fc, .int xlf, .int xhr, .int xho, .int xga, .int xsg, .int xpr, .int xfa, .long xls]))] ++ va_pl L f_28) H := va_P.part (X := [(h0, .inr (6, [.ref sea, .ref pas, .ref fl, .ref fc, .int xlf, .int xhr, .int xho, .int xga, .int xsg, .int xpr, .int xfa, .long xls]))]) hP [0] rfl
        have hD9 : va_D A ([(h0, .inr (6, [.ref sea, .ref pas, .ref fl, .ref fc, .int xlf, .int xhr, .int xho, .int xga, .int xsg, .int xpr, .int xfa, .long xls]))] ++ va_pl L f_28) := va_D.part (X := [(h0, .inr (6, [.ref sea, .ref pas, .ref fl, .ref fc, .int xlf, .int xhr, .int xho, .int xga, .int xsg, .int xpr, .int xfa, .long xls]))]) hD [0] (by decide) rfl
        have hK9 := hK.sub (tys' := [(cO, .object "java/lang/Object")]) [0] rfl
        have hv9 : (1 : Int32).toInt = 1 := by decide
        exact W.iret (v := 1) hx hb hr (fun t ht hW => ⟨⟨1, (f_28, (va_up (va_up V a0.toNatClampNeg (upd (V a0.toNatClampNeg) 10 a1)) a0.toNatClampNeg (upd (upd (V a0.toNatClampNeg) 10 a1) 11 a2))), rfl, inv_32, ⟨by rw [ht]; exact hP9, va_K.moved hW.alike hK9, hD9⟩⟩, hS.F ht⟩) hS.2.2 dX5_charter_46
      · skip
        have b_33 := b01n k_15 c_17
        (try simp only [Int32.lt_iff_toInt_lt, Int32.le_iff_toInt_le, ← Int32.toInt_inj, Int32.reduceToInt, zl1, zl2, zl3, zl4, zl9] at b_33)
        (try simp only [Int32.reduceToInt] at b_33)
        refine lv_iconst (v := (-1)) hx hb dX5_charter_31 (by decide) ?_
        have hP9 : va_P (dC, dI) vwCl ([(h0, .inr (6, [.ref sea, .ref pas, .ref fl, .ref fc, .int xlf, .int xhr, .int xho, .int xga, .int xsg, .int xpr, .int xfa, .long xls]))] ++ va_pl L f) H := va_P.part (X := [(h0, .inr (6, [.ref sea, .ref pas, .ref fl, .ref fc, .int xlf, .int xhr, .int xho, .int xga, .int xsg, .int xpr, .int xfa, .long xls]))]) hP [0] rfl
        have hD9 : va_D A ([(h0, .inr (6, [.ref sea, .ref pas, .ref fl, .ref fc, .int xlf, .int xhr, .int xho, .int xga, .int xsg, .int xpr, .int xfa, .long xls]))] ++ va_pl L f) := va_D.part (X := [(h0, .inr (6, [.ref sea, .ref pas, .ref fl, .ref fc, .int xlf, .int xhr, .int xho, .int xga, .int xsg, .int xpr, .int xfa, .long xls]))]) hD [0] (by decide) rfl
        have hK9 := hK.sub (tys' := [(cO, .object "java/lang/Object")]) [0] rfl
        have hv9 : (-1 : Int32).toInt = (-1) := by decide
        exact W.iret (v := (-1)) hx hb hr (fun t ht hW => ⟨⟨(-1), (f, V), rfl, inv, ⟨by rw [ht]; exact hP9, va_K.moved hW.alike hK9, hD9⟩⟩, hS.F ht⟩) hS.2.2 dX5_charter_32
