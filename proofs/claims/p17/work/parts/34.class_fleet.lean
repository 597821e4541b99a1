set_option maxRecDepth 20000 in
theorem iw_X5_theFirst_X5 : ∀ w ∈ wsX50, w ∈ wsX5_theFirst := fun w h => (List.mem_cons_of_mem _ (List.mem_append_left _ (List.mem_append_left _ (List.mem_append_right _ h))))
set_option maxHeartbeats 4000000 in
set_option maxRecDepth 100000 in
/-- theFirst -/
theorem c_X5_theFirst (l : Launch) (dC : Nat → ClassId) (dI : Nat → Nat → Nat) (sz : Nat) (L : List Nat) (f : Nat → va_E) (h0 : Nat) (sea : Nat) (pas : Nat) (fl : Nat) (fc : Nat) (xlf : Int32) (xhr : Int32) (xho : Int32) (xga : Int32) (xsg : Int32) (xpr : Int32) (xfa : Int32) (xls : Int64) (cB : ClassId) (own : Nat → Nat) (te : Nat) (cO : ClassId) (rr : Nat → Nat) (cw : Nat → Nat → Int32) (n : Nat) (sa : Nat → Nat) (V : Nat → Nat → Int32) (oa : Nat → Nat) (ia : Nat → Nat) (nO : Nat → Nat) (OW : Nat → Nat → Nat → Int32) (nS : Nat → Nat) (SW : Nat → Nat → Nat → Int32) (hnm : ∀ i : Nat, i < n → (V i 0).toInt = (i : Int)) (inv : Inv L f own te cO cB rr cw fl n sa V oa ia nO OW nS SW) : Met l yX5_theFirst wsX5_theFirst ({ frames := 3, cells := 0, slots := 0, locals := 64 }) (va_Pc [.ref h0] (fun U => U.heap.size = sz ∧ va_P (dC, dI) vwCl (([(h0, .inr (6, [.ref sea, .ref pas, .ref fl, .ref fc, .int xlf, .int xhr, .int xho, .int xga, .int xsg, .int xpr, .int xfa, .long xls]))] : va_W) ++ va_pl L f) U.heap ∧ va_K (dC, dI) vwCl [(cO, .object "java/lang/Object")] U ∧ NW U)) (va_Qq (fun (r : Option Nat) (_ : Unit) => (∀ x, r = some x → ∃ j, j < n ∧ x = sa j ∧ firstF (fun i => (V i 9).toInt) (fun i => (V i 8).toInt) n = some j) ∧ (r = none → firstF (fun i => (V i 9).toInt) (fun i => (V i 8).toInt) n = none)) (fun _ _ => True) (va_A [] sz)) 0 0 (va_A [] sz) := by
  refine Met.ofW (cc := cX5_theFirst) (maxL := 4) (ret := (some (.object "TeaRace$Ship"))) (by decide) rfl ?_
  intro p e s m args below meth c s₁ B hml hv
  obtain ⟨rfl, hsz, hP, hK, hN⟩ := hv
  have hx := B.exec
  have hb := B.bytes
  have hr := B.returns
  have hts := atoms_spec (ws := wsX5_theFirst) B.pre
  have hown : s.vm.findClass RX5 = some m.cls := findClass_of_methodNamed B.named
  have hlocks := B.notSynchronized
  subst hsz
  generalize hAe : va_A [] s.heap.size = A at ⊢
  have hA : ∀ q : Nat, s.heap.size ≤ q → A q := fun q h => by rw [← hAe]; exact Or.inr h
  have hS : va_S A s.heap s.heap [] := va_S.rf
  have hP : va_P (dC, dI) vwCl (([(h0, .inr (6, [.ref sea, .ref pas, .ref fl, .ref fc, .int xlf, .int xhr, .int xho, .int xga, .int xsg, .int xpr, .int xfa, .long xls]))] : va_W) ++ va_pl L f) s.heap := hP
  have hl := lv_entry ([.ref h0]) (n := 4) (Nat.le_of_ble_eq_true rfl)
  rw [lg_entry_eq]
  generalize (lg_sl ([.ref h0]) ++ List.replicate (4 - (lg_sl ([.ref h0])).length) Slot.unset).toArray = ls at hl ⊢
  have hl : lv_has ls 4 [(0, .ref h0)] := hl
  refine lv_null hx hb dX5_theFirst_0 ?_
  refine lv_astore_nN (lv' := [(1, .null), (0, .ref h0)]) hx hb dX5_theFirst_1 rfl hl (by decide) rfl (fun ls hl => ?_)
  refine lv_iconst (v := 0) hx hb dX5_theFirst_2 (by decide) ?_
  refine lv_istore_n (lv' := [(2, .int 0), (1, .null), (0, .ref h0)]) hx hb dX5_theFirst_3 rfl hl (by decide) rfl (fun ls hl => ?_)
  have key4 : ∀ (n4 : Nat) (ik : Int32) (lo : Option Nat) (H : Heap) (locs : List Loc) (ls : Array Slot), (0 ≤ ik.toInt ∧ ik.toInt ≤ 100) → (∀ x, lo = some x → ∃ j, j < n ∧ x = sa j ∧ firstF (fun i => (V i 9).toInt) (fun i => (V i 8).toInt) ik.toNatClampNeg = some j) → (lo = none → firstF (fun i => (V i 9).toInt) (fun i => (V i 8).toInt) ik.toNatClampNeg = none) → (ik.toInt ≤ (n : Int)) → 100 - ik.toInt < (n4 : Int) → va_P (dC, dI) vwCl (([(h0, .inr (6, [.ref sea, .ref pas, .ref fl, .ref fc, .int xlf, .int xhr, .int xho, .int xga, .int xsg, .int xpr, .int xfa, .long xls]))] : va_W) ++ va_pl L f) H → va_S A s.heap H locs → lv_has ls 4 [(2, .int ik), (1, va_rf lo), (0, .ref h0)] → W p l e ({ frames := 3, cells := 0, slots := 0, locals := 64 } : Room) s m ([.ref h0] : List Value).toArray below meth c H locs 0 0 (MQ below (va_Qq (fun (r : Option Nat) (_ : Unit) => (∀ x, r = some x → ∃ j, j < n ∧ x = sa j ∧ firstF (fun i => (V i 9).toInt) (fun i => (V i 8).toInt) n = some j) ∧ (r = none → firstF (fun i => (V i 9).toInt) (fun i => (V i 8).toInt) n = none)) (fun _ _ => True) A) ([.ref h0] : List Value).toArray s 0 0 A) (F0 m 4 ls []) := by
    intro n4
    induction n4 with
    | zero =>
      intro ik lo H locs ls i_ik hlo hl0 hle hm4
      exact absurd hm4 (by omega)
    | succ n4 ih4 =>
      intro ik lo H locs ls i_ik hlo hl0 hle hm4 hP hS hl
      refine lv_iload_n hx hb dX5_theFirst_4 rfl (lv_at hl 0 rfl) ?_
      refine lv_aload_n hx hb dX5_theFirst_5 rfl (lv_at hl 2 rfl) ?_
      refine va_get (D := (dC, dI)) (ci := 6) (v := .ref fl) (C := RX5) (T := TX5) (N := 12) hx hb hts iw_X5_theFirst_X5 hown hK hP 0 rfl rfl 2 (by decide) (hts (.fieldLink RX5 26 "TeaRace" "fleet" "Ljava/util/List;") (by decide +kernel)) (fun _ h9 => h9) rfl dX5_theFirst_6 ?_
      have hlf_1 := inv.2.1
      have hPc : va_P (dC, dI) vwCl (([] : va_W) ++ va_pl L f) H := va_P.part (X := [(h0, .inr (6, [.ref sea, .ref pas, .ref fl, .ref fc, .int xlf, .int xhr, .int xho, .int xga, .int xsg, .int xpr, .int xfa, .long xls]))]) hP [] rfl
      have hKc := hK.sub (tys' := []) [] rfl
      obtain ⟨mc_2, ar_3, hm_4, hv_5, hn_6, hb_7⟩ := LstAt.obj hlf_1
      obtain ⟨k8_8, hk8_8⟩ : ∃ k : Nat, (([] : va_W) ++ va_pl L f)[k]? = some (fl, .inr (0, [.int mc_2, .ref ar_3, .int (nI n)])) := pl_at hm_4 hv_5
      refine va_callFi (va_runF (va_atK hKc (ci := 0) rfl) (As := []) (rest := [.int ik]) ⟨hx, hb, hml, hown, hts⟩ (c_Jx4a65c_size_8abf5 l dC dI H.size L f te fl n sa cO hlf_1) (va_cwF 0 hts gX5_theFirst_Jx4a65c_size_8abf5_f107Jx4a65c rfl rfl rfl hN.fSize (by decide +kernel) ⟨Nat.le_of_ble_eq_true rfl, Nat.le_of_ble_eq_true rfl⟩) ⟨fun a U g mk q => by obtain ⟨q0, q1, qP, qK, qN⟩ := q; exact ⟨q0, q1, qP, va_K.moved (u := U) (U := U.calling g mk a) (Vm.Alike.refl U.vm) qK, NW.same (u := U) (U := U.calling g mk a) rfl qN⟩, va_recv hKc hPc (ci := 0) (q0 := k8_8) rfl hk8_8, fun U hU hW => ⟨rfl, by rw [hU], by rw [hU]; exact hPc, va_K.moved hW.alike hKc, NW.warm hW hN⟩⟩ rfl rfl hl.1 rfl (lv_room (Nat.le_of_ble_eq_true rfl)) dX5_theFirst_9 ⟨(Nat.zero_le _), (Nat.zero_le _)⟩) hS (fun q _ h => ro_A hS hA q h) (ro_A hS hA) (fun r_9 u t H1 locs ht hvm k_10 hB hz1 hk1 hS => ?_)
      have hP := ro_P hk1 hP
      generalize H1 = H at hP hS ⊢
      try dsimp only at k_10
      obtain ⟨k_10, k_11, k_12⟩ := k_10
      refine lv_icmp_ge (tgt := 58) hx hb dX5_theFirst_14 (by decide) (fun c_13 => ?_) (fun c_13 => ?_)
      · skip
        have qc_13 : r_9.toInt ≤ ik.toInt := le_k rfl rfl c_13
        rcases lo with _ | q_14
        · skip
          have hl09 := hl0 rfl
          have hl : lv_has ls 4 [(2, .int ik), (1, .null), (0, .ref h0)] := hl
          refine lv_aload_nN hx hb dX5_theFirst_58 rfl (lv_at hl 1 rfl) ?_
          exact W.aret (v := .null) hx hb hr (Or.inl ⟨_, rfl⟩) (Or.inl rfl) (fun t ht hW => ⟨⟨none, (), rfl, ⟨(fun x hx => by cases hx), (fun _ => by rw [(show n = ik.toNatClampNeg from by have := tn_k (i := ik) rfl (by omega); omega)]; exact hl09)⟩, trivial⟩, hS.F ht⟩) hS.2.2 dX5_theFirst_59
        · skip
          obtain ⟨j_15, hj_16, rfl, hf_17⟩ := hlo q_14 rfl
          have hsp_18 := inv.2.2.2.2.2 j_15 hj_16
          have njj_15 := hnm j_15 hj_16
          have ljj_15 := (firstF_lt hf_17).1
          have hl : lv_has ls 4 [(2, .int ik), (1, .ref (sa j_15)), (0, .ref h0)] := hl
          refine lv_aload_n hx hb dX5_theFirst_58 rfl (lv_at hl 1 rfl) ?_
          exact W.aret (v := .ref (sa j_15)) hx hb hr (Or.inl ⟨_, rfl⟩) (Or.inr ⟨_, rfl⟩) (fun t ht hW => ⟨⟨(some (sa j_15)), (), rfl, ⟨(fun x hx => by cases hx; exact ⟨j_15, hj_16, rfl, by rw [(show n = ik.toNatClampNeg from by have := tn_k (i := ik) rfl (by omega); omega)]; exact hf_17⟩), (fun hx => by cases hx)⟩, trivial⟩, hS.F ht⟩) hS.2.2 dX5_theFirst_59
      · skip
        have qc_13 : ik.toInt < r_9.toInt := nle_k rfl rfl c_13
        rcases lo with _ | q_19
        · skip
          have hl09 := hl0 rfl
          have hl : lv_has ls 4 [(2, .int ik), (1, .null), (0, .ref h0)] := hl
          refine lv_aload_n hx hb dX5_theFirst_17 rfl (lv_at hl 2 rfl) ?_
          refine va_get (D := (dC, dI)) (ci := 6) (v := .ref fl) (C := RX5) (T := TX5) (N := 12) hx hb hts iw_X5_theFirst_X5 hown hK hP 0 rfl rfl 2 (by decide) (hts (.fieldLink RX5 26 "TeaRace" "fleet" "Ljava/util/List;") (by decide +kernel)) (fun _ h9 => h9) rfl dX5_theFirst_18 ?_
          refine lv_iload_n hx hb dX5_theFirst_21 rfl (lv_at hl 0 rfl) ?_
          have hPc : va_P (dC, dI) vwCl (([] : va_W) ++ va_pl L f) H := va_P.part (X := [(h0, .inr (6, [.ref sea, .ref pas, .ref fl, .ref fc, .int xlf, .int xhr, .int xho, .int xga, .int xsg, .int xpr, .int xfa, .long xls]))]) hP [] rfl
          have hKc := hK.sub (tys' := [(cO, .object "java/lang/Object")]) [0] rfl
          obtain ⟨k8_20, hk8_20⟩ : ∃ k : Nat, (([] : va_W) ++ va_pl L f)[k]? = some (fl, .inr (0, [.int mc_2, .ref ar_3, .int (nI n)])) := pl_at hm_4 hv_5
          refine va_callFq (va_runF (va_atK hKc (ci := 0) rfl) (As := [.int ik]) (rest := []) ⟨hx, hb, hml, hown, hts⟩ (c_Jx4a65c_get_915e3 l dC dI H.size L f te fl n sa cO ik (by omega) (by omega) hlf_1) (va_cwF 1 hts gX5_theFirst_Jx4a65c_get_915e3_f175Jx4a65c rfl rfl rfl hN.fGet (by decide +kernel) ⟨Nat.le_of_ble_eq_true rfl, Nat.le_of_ble_eq_true rfl⟩) ⟨fun a U g mk q => by obtain ⟨q0, q1, qP, qK, qN⟩ := q; exact ⟨q0, q1, qP, va_K.moved (u := U) (U := U.calling g mk a) (Vm.Alike.refl U.vm) qK, NW.same (u := U) (U := U.calling g mk a) rfl qN⟩, va_recv hKc hPc (ci := 0) (q0 := k8_20) rfl hk8_20, fun U hU hW => ⟨rfl, by rw [hU], by rw [hU]; exact hPc, va_K.moved hW.alike hKc, NW.warm hW hN⟩⟩ rfl rfl hl.1 rfl (lv_room (Nat.le_of_ble_eq_true rfl)) dX5_theFirst_22 ⟨(Nat.zero_le _), (Nat.zero_le _)⟩) hS (fun q _ h => ro_A hS hA q h) (ro_A hS hA) (fun r_21 u t H1 locs ht hvm k_22 hB hz1 hk1 hS => ?_)
          have hP := ro_P hk1 hP
          generalize H1 = H at hP hS ⊢
          try dsimp only at k_22
          obtain rfl : r_21 = some (sa ik.toNatClampNeg) := k_22
          refine W.eq (g2 := F0 m 27 ls [.ref (sa ik.toNatClampNeg)]) rfl ?_
          have hsp_23 := inv.2.2.2.2.2 ik.toNatClampNeg (tn_lt (by omega) (by omega))
          obtain ⟨k9_24, hk9_24⟩ : ∃ k : Nat, (([(h0, .inr (6, [.ref sea, .ref pas, .ref fl, .ref fc, .int xlf, .int xhr, .int xho, .int xga, .int xsg, .int xpr, .int xfa, .long xls]))] : va_W) ++ va_pl L f)[k]? = some ((sa ik.toNatClampNeg), .inr (4, [.int (V ik.toNatClampNeg 0), .int (V ik.toNatClampNeg 1), .int (V ik.toNatClampNeg 2), .ref (oa ik.toNatClampNeg), .ref (ia ik.toNatClampNeg), .int (V ik.toNatClampNeg 3), .int (V ik.toNatClampNeg 4), .int (V ik.toNatClampNeg 5), .int (V ik.toNatClampNeg 6), .int (V ik.toNatClampNeg 7), .int (V ik.toNatClampNeg 8), .int (V ik.toNatClampNeg 9), .int (V ik.toNatClampNeg 10), .int (V ik.toNatClampNeg 11)])) := pl_at hsp_23.1 hsp_23.2.1
          refine va_castS hx hb hown (hts (.classLink RX5 113 "TeaRace$Ship") (by decide +kernel)) (va_atK hK (ci := 4) rfl) (va_recv hK hP (ci := 4) (q0 := k9_24) rfl hk9_24) dX5_theFirst_27 ?_
          refine lv_astore_n (lv' := [(3, .ref (sa ik.toNatClampNeg)), (2, .int ik), (1, .null), (0, .ref h0)]) hx hb dX5_theFirst_30 rfl hl (by decide) rfl (fun ls hl => ?_)
          refine lv_aload_n hx hb dX5_theFirst_31 rfl (lv_at hl 0 rfl) ?_
          have hPc : va_P (dC, dI) vwCl (([] : va_W) ++ va_pl L f) H := va_P.part (X := [(h0, .inr (6, [.ref sea, .ref pas, .ref fl, .ref fc, .int xlf, .int xhr, .int xho, .int xga, .int xsg, .int xpr, .int xfa, .long xls]))]) hP [] rfl
          have hKc := hK.sub (tys' := []) [] rfl
          obtain ⟨k8_25, hk8_25⟩ : ∃ k : Nat, (([] : va_W) ++ va_pl L f)[k]? = some ((sa ik.toNatClampNeg), .inr (4, [.int (V ik.toNatClampNeg 0), .int (V ik.toNatClampNeg 1), .int (V ik.toNatClampNeg 2), .ref (oa ik.toNatClampNeg), .ref (ia ik.toNatClampNeg), .int (V ik.toNatClampNeg 3), .int (V ik.toNatClampNeg 4), .int (V ik.toNatClampNeg 5), .int (V ik.toNatClampNeg 6), .int (V ik.toNatClampNeg 7), .int (V ik.toNatClampNeg 8), .int (V ik.toNatClampNeg 9), .int (V ik.toNatClampNeg 10), .int (V ik.toNatClampNeg 11)])) := pl_at hsp_23.1 hsp_23.2.1
          refine va_calli (va_runV (As := []) (rest := []) ⟨hx, hb, hml, hown, hts⟩ (c_X3_isHome l dC dI H.size L f (sa ik.toNatClampNeg) (oa ik.toNatClampNeg) (ia ik.toNatClampNeg) (V ik.toNatClampNeg) ⟨hsp_23.1, hsp_23.2.1⟩) (cwV 0 hts gX5_theFirst_X3_isHome rfl rfl rfl (by decide +kernel) ⟨Nat.le_of_ble_eq_true rfl, Nat.le_of_ble_eq_true rfl⟩) ⟨fun a U g mk q => by obtain ⟨q0, q1, qP, qK, qN⟩ := q; exact ⟨q0, q1, qP, va_K.moved (u := U) (U := U.calling g mk a) (Vm.Alike.refl U.vm) qK, NW.same (u := U) (U := U.calling g mk a) rfl qN⟩, va_recv hKc hPc (ci := 4) (q0 := k8_25) rfl hk8_25, fun U hU hW => ⟨rfl, by rw [hU], by rw [hU]; exact hPc, va_K.moved hW.alike hKc, NW.warm hW hN⟩⟩ rfl rfl hl.1 rfl (lv_room (Nat.le_of_ble_eq_true rfl)) dX5_theFirst_32 ⟨(Nat.zero_le _), (Nat.zero_le _)⟩) hS (fun q _ h => ro_A hS hA q h) (ro_A hS hA) (fun r_26 u t H1 locs ht hvm k_27 hB hz1 hk1 hS => ?_)
          have hP := ro_P hk1 hP
          generalize H1 = H at hP hS ⊢
          try dsimp only at k_27
          obtain ⟨k_27, k_28⟩ := k_27
          refine lv_if_eq (tgt := 52) hx hb dX5_theFirst_35 (by decide) (fun c_29 => ?_) (fun c_29 => ?_)
          · skip
            have b_30 := b01z k_27 c_29
            (try simp only [Int32.lt_iff_toInt_lt, Int32.le_iff_toInt_le, ← Int32.toInt_inj, Int32.reduceToInt, zl1, zl2, zl3, zl4, zl9] at b_30)
            (try simp only [Int32.reduceToInt] at b_30)
            obtain ⟨x_31, ex_31⟩ : ∃ y : Int32, y = ik + 1 := ⟨_, rfl⟩
            have tx_31 : x_31.toInt = ik.toInt + 1 := ad_k ex_31 rfl (by decide) (by omega) (by omega)
            refine lv_iinc (v := x_31) (lv' := [(2, .int x_31), (3, .ref (sa ik.toNatClampNeg)), (1, .null), (0, .ref h0)]) hx hb dX5_theFirst_52 hl (k := 1) rfl (by rw [ex_31]; rfl) (by decide) rfl (fun ls hl => ?_)
            refine lv_goto (tgt := 4) hx hb dX5_theFirst_55 (by decide) ?_
            exact ih4 x_31 none H locs ls ⟨(by first | omega | (simp only [Int32.reduceToInt]; omega)), (by first | omega | (simp only [Int32.reduceToInt]; omega))⟩ (fun x hx => by cases hx) (fun _ => by rw [(tn_next (i := ik) (j := x_31) (by omega) tx_31), firstF_skip (by show (V ik.toNatClampNeg 8).toInt = -9; omega)]; exact hl09) (by first | omega | (simp only [Int32.reduceToInt]; omega)) (by first | omega | (simp only [Int32.reduceToInt]; omega)) hP hS (lv_sub hl [0, 2, 3] rfl)
          · skip
            have b_32 := b01n k_27 c_29
            (try simp only [Int32.lt_iff_toInt_lt, Int32.le_iff_toInt_le, ← Int32.toInt_inj, Int32.reduceToInt, zl1, zl2, zl3, zl4, zl9] at b_32)
            (try simp only [Int32.reduceToInt] at b_32)
            refine lv_aload_nN hx hb dX5_theFirst_38 rfl (lv_at hl 2 rfl) ?_
            refine lv_ifnullN (tgt := 50) hx hb dX5_theFirst_39 (by decide) ?_
            refine lv_aload_n hx hb dX5_theFirst_50 rfl (lv_at hl 0 rfl) ?_
            refine lv_astore_n (lv' := [(1, .ref (sa ik.toNatClampNeg)), (3, .ref (sa ik.toNatClampNeg)), (2, .int ik), (0, .ref h0)]) hx hb dX5_theFirst_51 rfl hl (by decide) rfl (fun ls hl => ?_)
            obtain ⟨x_33, ex_33⟩ : ∃ y : Int32, y = ik + 1 := ⟨_, rfl⟩
            have tx_33 : x_33.toInt = ik.toInt + 1 := ad_k ex_33 rfl (by decide) (by omega) (by omega)
            refine lv_iinc (v := x_33) (lv' := [(2, .int x_33), (1, .ref (sa ik.toNatClampNeg)), (3, .ref (sa ik.toNatClampNeg)), (0, .ref h0)]) hx hb dX5_theFirst_52 hl (k := 2) rfl (by rw [ex_33]; rfl) (by decide) rfl (fun ls hl => ?_)
            refine lv_goto (tgt := 4) hx hb dX5_theFirst_55 (by decide) ?_
            exact ih4 x_33 (some (sa ik.toNatClampNeg)) H locs ls ⟨(by first | omega | (simp only [Int32.reduceToInt]; omega)), (by first | omega | (simp only [Int32.reduceToInt]; omega))⟩ (fun x hx => by cases hx; exact ⟨ik.toNatClampNeg, (tn_lt (by omega) (by omega)), rfl, by rw [(tn_next (i := ik) (j := x_33) (by omega) tx_33)]; exact firstF_new hl09 (by show ¬ (V ik.toNatClampNeg 8).toInt = -9; omega)⟩) (fun hx => by cases hx) (by first | omega | (simp only [Int32.reduceToInt]; omega)) (by first | omega | (simp only [Int32.reduceToInt]; omega)) hP hS (lv_sub hl [0, 1, 3] rfl)
        · skip
          obtain ⟨j_34, hj_35, rfl, hf_36⟩ := hlo q_19 rfl
          have hsp_37 := inv.2.2.2.2.2 j_34 hj_35
          have njj_34 := hnm j_34 hj_35
          have ljj_34 := (firstF_lt hf_36).1
          have hl : lv_has ls 4 [(2, .int ik), (1, .ref (sa j_34)), (0, .ref h0)] := hl
          refine lv_aload_n hx hb dX5_theFirst_17 rfl (lv_at hl 2 rfl) ?_
          refine va_get (D := (dC, dI)) (ci := 6) (v := .ref fl) (C := RX5) (T := TX5) (N := 12) hx hb hts iw_X5_theFirst_X5 hown hK hP 0 rfl rfl 2 (by decide) (hts (.fieldLink RX5 26 "TeaRace" "fleet" "Ljava/util/List;") (by decide +kernel)) (fun _ h9 => h9) rfl dX5_theFirst_18 ?_
          refine lv_iload_n hx hb dX5_theFirst_21 rfl (lv_at hl 0 rfl) ?_
          have hPc : va_P (dC, dI) vwCl (([] : va_W) ++ va_pl L f) H := va_P.part (X := [(h0, .inr (6, [.ref sea, .ref pas, .ref fl, .ref fc, .int xlf, .int xhr, .int xho, .int xga, .int xsg, .int xpr, .int xfa, .long xls]))]) hP [] rfl
          have hKc := hK.sub (tys' := [(cO, .object "java/lang/Object")]) [0] rfl
          obtain ⟨k8_38, hk8_38⟩ : ∃ k : Nat, (([] : va_W) ++ va_pl L f)[k]? = some (fl, .inr (0, [.int mc_2, .ref ar_3, .int (nI n)])) := pl_at hm_4 hv_5
          refine va_callFq (va_runF (va_atK hKc (ci := 0) rfl) (As := [.int ik]) (rest := []) ⟨hx, hb, hml, hown, hts⟩ (c_Jx4a65c_get_915e3 l dC dI H.size L f te fl n sa cO ik (by omega) (by omega) hlf_1) (va_cwF 1 hts gX5_theFirst_Jx4a65c_get_915e3_f175Jx4a65c rfl rfl rfl hN.fGet (by decide +kernel) ⟨Nat.le_of_ble_eq_true rfl, Nat.le_of_ble_eq_true rfl⟩) ⟨fun a U g mk q => by obtain ⟨q0, q1, qP, qK, qN⟩ := q; exact ⟨q0, q1, qP, va_K.moved (u := U) (U := U.calling g mk a) (Vm.Alike.refl U.vm) qK, NW.same (u := U) (U := U.calling g mk a) rfl qN⟩, va_recv hKc hPc (ci := 0) (q0 := k8_38) rfl hk8_38, fun U hU hW => ⟨rfl, by rw [hU], by rw [hU]; exact hPc, va_K.moved hW.alike hKc, NW.warm hW hN⟩⟩ rfl rfl hl.1 rfl (lv_room (Nat.le_of_ble_eq_true rfl)) dX5_theFirst_22 ⟨(Nat.zero_le _), (Nat.zero_le _)⟩) hS (fun q _ h => ro_A hS hA q h) (ro_A hS hA) (fun r_39 u t H1 locs ht hvm k_40 hB hz1 hk1 hS => ?_)
          have hP := ro_P hk1 hP
          generalize H1 = H at hP hS ⊢
          try dsimp only at k_40
          obtain rfl : r_39 = some (sa ik.toNatClampNeg) := k_40
          refine W.eq (g2 := F0 m 27 ls [.ref (sa ik.toNatClampNeg)]) rfl ?_
          have hsp_41 := inv.2.2.2.2.2 ik.toNatClampNeg (tn_lt (by omega) (by omega))
          obtain ⟨k9_42, hk9_42⟩ : ∃ k : Nat, (([(h0, .inr (6, [.ref sea, .ref pas, .ref fl, .ref fc, .int xlf, .int xhr, .int xho, .int xga, .int xsg, .int xpr, .int xfa, .long xls]))] : va_W) ++ va_pl L f)[k]? = some ((sa ik.toNatClampNeg), .inr (4, [.int (V ik.toNatClampNeg 0), .int (V ik.toNatClampNeg 1), .int (V ik.toNatClampNeg 2), .ref (oa ik.toNatClampNeg), .ref (ia ik.toNatClampNeg), .int (V ik.toNatClampNeg 3), .int (V ik.toNatClampNeg 4), .int (V ik.toNatClampNeg 5), .int (V ik.toNatClampNeg 6), .int (V ik.toNatClampNeg 7), .int (V ik.toNatClampNeg 8), .int (V ik.toNatClampNeg 9), .int (V ik.toNatClampNeg 10), .int (V ik.toNatClampNeg 11)])) := pl_at hsp_41.1 hsp_41.2.1
          refine va_castS hx hb hown (hts (.classLink RX5 113 "TeaRace$Ship") (by decide +kernel)) (va_atK hK (ci := 4) rfl) (va_recv hK hP (ci := 4) (q0 := k9_42) rfl hk9_42) dX5_theFirst_27 ?_
          refine lv_astore_n (lv' := [(3, .ref (sa ik.toNatClampNeg)), (2, .int ik), (1, .ref (sa j_34)), (0, .ref h0)]) hx hb dX5_theFirst_30 rfl hl (by decide) rfl (fun ls hl => ?_)
          refine lv_aload_n hx hb dX5_theFirst_31 rfl (lv_at hl 0 rfl) ?_
          have hPc : va_P (dC, dI) vwCl (([] : va_W) ++ va_pl L f) H := va_P.part (X := [(h0, .inr (6, [.ref sea, .ref pas, .ref fl, .ref fc, .int xlf, .int xhr, .int xho, .int xga, .int xsg, .int xpr, .int xfa, .long xls]))]) hP [] rfl
          have hKc := hK.sub (tys' := []) [] rfl
          obtain ⟨k8_43, hk8_43⟩ : ∃ k : Nat, (([] : va_W) ++ va_pl L f)[k]? = some ((sa ik.toNatClampNeg), .inr (4, [.int (V ik.toNatClampNeg 0), .int (V ik.toNatClampNeg 1), .int (V ik.toNatClampNeg 2), .ref (oa ik.toNatClampNeg), .ref (ia ik.toNatClampNeg), .int (V ik.toNatClampNeg 3), .int (V ik.toNatClampNeg 4), .int (V ik.toNatClampNeg 5), .int (V ik.toNatClampNeg 6), .int (V ik.toNatClampNeg 7), .int (V ik.toNatClampNeg 8), .int (V ik.toNatClampNeg 9), .int (V ik.toNatClampNeg 10), .int (V ik.toNatClampNeg 11)])) := pl_at hsp_41.1 hsp_41.2.1
          refine va_calli (va_runV (As := []) (rest := []) ⟨hx, hb, hml, hown, hts⟩ (c_X3_isHome l dC dI H.size L f (sa ik.toNatClampNeg) (oa ik.toNatClampNeg) (ia ik.toNatClampNeg) (V ik.toNatClampNeg) ⟨hsp_41.1, hsp_41.2.1⟩) (cwV 0 hts gX5_theFirst_X3_isHome rfl rfl rfl (by decide +kernel) ⟨Nat.le_of_ble_eq_true rfl, Nat.le_of_ble_eq_true rfl⟩) ⟨fun a U g mk q => by obtain ⟨q0, q1, qP, qK, qN⟩ := q; exact ⟨q0, q1, qP, va_K.moved (u := U) (U := U.calling g mk a) (Vm.Alike.refl U.vm) qK, NW.same (u := U) (U := U.calling g mk a) rfl qN⟩, va_recv hKc hPc (ci := 4) (q0 := k8_43) rfl hk8_43, fun U hU hW => ⟨rfl, by rw [hU], by rw [hU]; exact hPc, va_K.moved hW.alike hKc, NW.warm hW hN⟩⟩ rfl rfl hl.1 rfl (lv_room (Nat.le_of_ble_eq_true rfl)) dX5_theFirst_32 ⟨(Nat.zero_le _), (Nat.zero_le _)⟩) hS (fun q _ h => ro_A hS hA q h) (ro_A hS hA) (fun r_44 u t H1 locs ht hvm k_45 hB hz1 hk1 hS => ?_)
          have hP := ro_P hk1 hP
          generalize H1 = H at hP hS ⊢
          try dsimp only at k_45
          obtain ⟨k_45, k_46⟩ := k_45
          refine lv_if_eq (tgt := 52) hx hb dX5_theFirst_35 (by decide) (fun c_47 => ?_) (fun c_47 => ?_)
          · skip
            have b_48 := b01z k_45 c_47
            (try simp only [Int32.lt_iff_toInt_lt, Int32.le_iff_toInt_le, ← Int32.toInt_inj, Int32.reduceToInt, zl1, zl2, zl3, zl4, zl9] at b_48)
            (try simp only [Int32.reduceToInt] at b_48)
            obtain ⟨x_49, ex_49⟩ : ∃ y : Int32, y = ik + 1 := ⟨_, rfl⟩
            have tx_49 : x_49.toInt = ik.toInt + 1 := ad_k ex_49 rfl (by decide) (by omega) (by omega)
            refine lv_iinc (v := x_49) (lv' := [(2, .int x_49), (3, .ref (sa ik.toNatClampNeg)), (1, .ref (sa j_34)), (0, .ref h0)]) hx hb dX5_theFirst_52 hl (k := 1) rfl (by rw [ex_49]; rfl) (by decide) rfl (fun ls hl => ?_)
            refine lv_goto (tgt := 4) hx hb dX5_theFirst_55 (by decide) ?_
            exact ih4 x_49 (some (sa j_34)) H locs ls ⟨(by first | omega | (simp only [Int32.reduceToInt]; omega)), (by first | omega | (simp only [Int32.reduceToInt]; omega))⟩ (fun x hx => by cases hx; exact ⟨j_34, hj_35, rfl, by rw [(tn_next (i := ik) (j := x_49) (by omega) tx_49), firstF_skip (by show (V ik.toNatClampNeg 8).toInt = -9; omega)]; exact hf_36⟩) (fun hx => by cases hx) (by first | omega | (simp only [Int32.reduceToInt]; omega)) (by first | omega | (simp only [Int32.reduceToInt]; omega)) hP hS (lv_sub hl [0, 2, 3] rfl)
          · skip
            have b_50 := b01n k_45 c_47
            (try simp only [Int32.lt_iff_toInt_lt, Int32.le_iff_toInt_le, ← Int32.toInt_inj, Int32.reduceToInt, zl1, zl2, zl3, zl4, zl9] at b_50)
            (try simp only [Int32.reduceToInt] at b_50)
            refine lv_aload_n hx hb dX5_theFirst_38 rfl (lv_at hl 2 rfl) ?_
            refine lv_ifnull hx hb dX5_theFirst_39 ?_
            refine lv_aload_n hx hb dX5_theFirst_42 rfl (lv_at hl 0 rfl) ?_
            refine lv_aload_n hx hb dX5_theFirst_43 rfl (lv_at hl 2 rfl) ?_
            have hPc : va_P (dC, dI) vwCl (([] : va_W) ++ va_pl L f) H := va_P.part (X := [(h0, .inr (6, [.ref sea, .ref pas, .ref fl, .ref fc, .int xlf, .int xhr, .int xho, .int xga, .int xsg, .int xpr, .int xfa, .long xls]))]) hP [] rfl
            have hKc := hK.sub (tys' := []) [] rfl
            obtain ⟨k8_51, hk8_51⟩ : ∃ k : Nat, (([] : va_W) ++ va_pl L f)[k]? = some ((sa ik.toNatClampNeg), .inr (4, [.int (V ik.toNatClampNeg 0), .int (V ik.toNatClampNeg 1), .int (V ik.toNatClampNeg 2), .ref (oa ik.toNatClampNeg), .ref (ia ik.toNatClampNeg), .int (V ik.toNatClampNeg 3), .int (V ik.toNatClampNeg 4), .int (V ik.toNatClampNeg 5), .int (V ik.toNatClampNeg 6), .int (V ik.toNatClampNeg 7), .int (V ik.toNatClampNeg 8), .int (V ik.toNatClampNeg 9), .int (V ik.toNatClampNeg 10), .int (V ik.toNatClampNeg 11)])) := pl_at hsp_41.1 hsp_41.2.1
            refine va_calli (va_runV (As := [.ref (sa j_34)]) (rest := []) ⟨hx, hb, hml, hown, hts⟩ (c_X3_beats l dC dI H.size L f (sa ik.toNatClampNeg) (oa ik.toNatClampNeg) (ia ik.toNatClampNeg) (V ik.toNatClampNeg) (sa j_34) (oa j_34) (ia j_34) (V j_34) ⟨hsp_41.1, hsp_41.2.1⟩ ⟨hsp_37.1, hsp_37.2.1⟩) (cwV 1 hts gX5_theFirst_X3_beats rfl rfl rfl (by decide +kernel) ⟨Nat.le_of_ble_eq_true rfl, Nat.le_of_ble_eq_true rfl⟩) ⟨fun a U g mk q => by obtain ⟨q0, q1, qP, qK, qN⟩ := q; exact ⟨q0, q1, qP, va_K.moved (u := U) (U := U.calling g mk a) (Vm.Alike.refl U.vm) qK, NW.same (u := U) (U := U.calling g mk a) rfl qN⟩, va_recv hKc hPc (ci := 4) (q0 := k8_51) rfl hk8_51, fun U hU hW => ⟨rfl, by rw [hU], by rw [hU]; exact hPc, va_K.moved hW.alike hKc, NW.warm hW hN⟩⟩ rfl rfl hl.1 rfl (lv_room (Nat.le_of_ble_eq_true rfl)) dX5_theFirst_44 ⟨(Nat.zero_le _), (Nat.zero_le _)⟩) hS (fun q _ h => ro_A hS hA q h) (ro_A hS hA) (fun r_52 u t H1 locs ht hvm k_53 hB hz1 hk1 hS => ?_)
            have hP := ro_P hk1 hP
            generalize H1 = H at hP hS ⊢
            try dsimp only at k_53
            obtain ⟨k_53, k_54, k_55⟩ := k_53
            refine lv_if_eq (tgt := 52) hx hb dX5_theFirst_47 (by decide) (fun c_56 => ?_) (fun c_56 => ?_)
            · skip
              have qc_56 : r_52.toInt = 0 := eq_k rfl (by decide) c_56
              obtain ⟨x_57, ex_57⟩ : ∃ y : Int32, y = ik + 1 := ⟨_, rfl⟩
              have tx_57 : x_57.toInt = ik.toInt + 1 := ad_k ex_57 rfl (by decide) (by omega) (by omega)
              refine lv_iinc (v := x_57) (lv' := [(2, .int x_57), (3, .ref (sa ik.toNatClampNeg)), (1, .ref (sa j_34)), (0, .ref h0)]) hx hb dX5_theFirst_52 hl (k := 1) rfl (by rw [ex_57]; rfl) (by decide) rfl (fun ls hl => ?_)
              refine lv_goto (tgt := 4) hx hb dX5_theFirst_55 (by decide) ?_
              exact ih4 x_57 (some (sa j_34)) H locs ls ⟨(by first | omega | (simp only [Int32.reduceToInt]; omega)), (by first | omega | (simp only [Int32.reduceToInt]; omega))⟩ (fun x hx => by cases hx; exact ⟨j_34, hj_35, rfl, by rw [(tn_next (i := ik) (j := x_57) (by omega) tx_57)]; exact firstF_no hf_36 (fun z => by have n1 := hnm ik.toNatClampNeg (tn_lt (by omega) (by omega)); (try dsimp only at z); omega)⟩) (fun hx => by cases hx) (by first | omega | (simp only [Int32.reduceToInt]; omega)) (by first | omega | (simp only [Int32.reduceToInt]; omega)) hP hS (lv_sub hl [0, 2, 3] rfl)
            · skip
              have qc_56 : r_52.toInt ≠ 0 := ne_k rfl (by decide) c_56
              refine lv_aload_n hx hb dX5_theFirst_50 rfl (lv_at hl 0 rfl) ?_
              refine lv_astore_n (lv' := [(1, .ref (sa ik.toNatClampNeg)), (3, .ref (sa ik.toNatClampNeg)), (2, .int ik), (0, .ref h0)]) hx hb dX5_theFirst_51 rfl hl (by decide) rfl (fun ls hl => ?_)
              obtain ⟨x_58, ex_58⟩ : ∃ y : Int32, y = ik + 1 := ⟨_, rfl⟩
              have tx_58 : x_58.toInt = ik.toInt + 1 := ad_k ex_58 rfl (by decide) (by omega) (by omega)
              refine lv_iinc (v := x_58) (lv' := [(2, .int x_58), (1, .ref (sa ik.toNatClampNeg)), (3, .ref (sa ik.toNatClampNeg)), (0, .ref h0)]) hx hb dX5_theFirst_52 hl (k := 2) rfl (by rw [ex_58]; rfl) (by decide) rfl (fun ls hl => ?_)
              refine lv_goto (tgt := 4) hx hb dX5_theFirst_55 (by decide) ?_
              exact ih4 x_58 (some (sa ik.toNatClampNeg)) H locs ls ⟨(by first | omega | (simp only [Int32.reduceToInt]; omega)), (by first | omega | (simp only [Int32.reduceToInt]; omega))⟩ (fun x hx => by cases hx; exact ⟨ik.toNatClampNeg, (tn_lt (by omega) (by omega)), rfl, by rw [(tn_next (i := ik) (j := x_58) (by omega) tx_58)]; exact firstF_yes hf_36 ⟨(by show ¬ (V ik.toNatClampNeg 8).toInt = -9; omega), by have n1 := hnm ik.toNatClampNeg (tn_lt (by omega) (by omega)); (try dsimp only); omega⟩⟩) (fun hx => by cases hx) (by first | omega | (simp only [Int32.reduceToInt]; omega)) (by first | omega | (simp only [Int32.reduceToInt]; omega)) hP hS (lv_sub hl [0, 1, 3] rfl)
  exact key4 101 0 none _ _ ls (by decide) (fun x hx => by cases hx) (fun _ => rfl) (by (try simp only [Int32.reduceToInt]); omega) (by (try simp only [Int32.reduceToInt]); omega) hP hS (lv_sub hl [0, 1, 2] rfl)
set_option maxRecDepth 20000 in
theorem iw_X5_first_X3 : ∀ w ∈ wsX30, w ∈ wsX5_first := fun w h => (List.mem_cons_of_mem _ (List.mem_append_left _ (List.mem_append_left _ (List.mem_append_right _ h))))
set_option maxHeartbeats 4000000 in
set_option maxRecDepth 100000 in
/-- first -/
theorem c_X5_first (l : Launch) (dC : Nat → ClassId) (dI : Nat → Nat → Nat) (sz : Nat) (L : List Nat) (f : Nat → va_E) (h0 : Nat) (sea : Nat) (pas : Nat) (fl : Nat) (fc : Nat) (xlf : Int32) (xhr : Int32) (xho : Int32) (xga : Int32) (xsg : Int32) (xpr : Int32) (xfa : Int32) (xls : Int64) (cB : ClassId) (own : Nat → Nat) (te : Nat) (cO : ClassId) (rr : Nat → Nat) (cw : Nat → Nat → Int32) (n : Nat) (sa : Nat → Nat) (V : Nat → Nat → Int32) (oa : Nat → Nat) (ia : Nat → Nat) (nO : Nat → Nat) (OW : Nat → Nat → Nat → Int32) (nS : Nat → Nat) (SW : Nat → Nat → Nat → Int32) (hnm : ∀ i : Nat, i < n → (V i 0).toInt = (i : Int)) (inv : Inv L f own te cO cB rr cw fl n sa V oa ia nO OW nS SW) : Met l yX5_first wsX5_first ({ frames := 4, cells := 0, slots := 0, locals := 87 }) (va_Pc [.ref h0] (fun U => U.heap.size = sz ∧ va_P (dC, dI) vwCl (([(h0, .inr (6, [.ref sea, .ref pas, .ref fl, .ref fc, .int xlf, .int xhr, .int xho, .int xga, .int xsg, .int xpr, .int xfa, .long xls]))] : va_W) ++ va_pl L f) U.heap ∧ va_K (dC, dI) vwCl [(cO, .object "java/lang/Object")] U ∧ NW U)) (va_Qi (fun (r : Int32) (_ : Unit) => (r.toInt = optI (firstF (fun i => (V i 9).toInt) (fun i => (V i 8).toInt) n))) (fun _ _ => True) (va_A [] sz)) 0 0 (va_A [] sz) := by
  refine Met.ofW (cc := cX5_first) (maxL := 2) (ret := (some .int)) (by decide) rfl ?_
  intro p e s m args below meth c s₁ B hml hv
  obtain ⟨rfl, hsz, hP, hK, hN⟩ := hv
  have hx := B.exec
  have hb := B.bytes
  have hr := B.returns
  have hts := atoms_spec (ws := wsX5_first) B.pre
  have hown : s.vm.findClass RX5 = some m.cls := findClass_of_methodNamed B.named
  have hlocks := B.notSynchronized
  subst hsz
  generalize hAe : va_A [] s.heap.size = A at ⊢
  have hA : ∀ q : Nat, s.heap.size ≤ q → A q := fun q h => by rw [← hAe]; exact Or.inr h
  have hS : va_S A s.heap s.heap [] := va_S.rf
  have hP : va_P (dC, dI) vwCl (([(h0, .inr (6, [.ref sea, .ref pas, .ref fl, .ref fc, .int xlf, .int xhr, .int xho, .int xga, .int xsg, .int xpr, .int xfa, .long xls]))] : va_W) ++ va_pl L f) s.heap := hP
  have hl := lv_entry ([.ref h0]) (n := 2) (Nat.le_of_ble_eq_true rfl)
  rw [lg_entry_eq]
  generalize (lg_sl ([.ref h0]) ++ List.replicate (2 - (lg_sl ([.ref h0])).length) Slot.unset).toArray = ls at hl ⊢
  have hl : lv_has ls 2 [(0, .ref h0)] := hl
  refine lv_aload_n hx hb dX5_first_0 rfl (lv_at hl 0 rfl) ?_
  have hPc : va_P (dC, dI) vwCl (([(h0, .inr (6, [.ref sea, .ref pas, .ref fl, .ref fc, .int xlf, .int xhr, .int xho, .int xga, .int xsg, .int xpr, .int xfa, .long xls]))] : va_W) ++ va_pl L f) s.heap := va_P.part (X := [(h0, .inr (6, [.ref sea, .ref pas, .ref fl, .ref fc, .int xlf, .int xhr, .int xho, .int xga, .int xsg, .int xpr, .int xfa, .long xls]))]) hP [0] rfl
  have hKc := hK.sub (tys' := [(cO, .object "java/lang/Object")]) [0] rfl
  refine va_callq (va_runV (As := []) (rest := []) ⟨hx, hb, hml, hown, hts⟩ (c_X5_theFirst l dC dI s.heap.size L f h0 sea pas fl fc xlf xhr xho xga xsg xpr xfa xls cB own te cO rr cw n sa V oa ia nO OW nS SW hnm inv) (cwV 0 hts gX5_first_X5_theFirst rfl rfl rfl (by decide +kernel) ⟨Nat.le_of_ble_eq_true rfl, Nat.le_of_ble_eq_true rfl⟩) ⟨fun a U g mk q => by obtain ⟨q0, q1, qP, qK, qN⟩ := q; exact ⟨q0, q1, qP, va_K.moved (u := U) (U := U.calling g mk a) (Vm.Alike.refl U.vm) qK, NW.same (u := U) (U := U.calling g mk a) rfl qN⟩, va_recv hKc hPc (ci := 6) (q0 := 0) rfl rfl, fun U hU hW => ⟨rfl, by rw [hU], by rw [hU]; exact hPc, va_K.moved hW.alike hKc, NW.warm hW hN⟩⟩ rfl rfl hl.1 rfl (lv_room (Nat.le_of_ble_eq_true rfl)) dX5_first_1 ⟨(Nat.zero_le _), (Nat.zero_le _)⟩) hS (fun q _ h => ro_A hS hA q h) (ro_A hS hA) (fun r_1 u t H1 locs ht hvm k_2 hB hz1 hk1 hS => ?_)
  have hP := ro_P hk1 hP
  generalize H1 = H at hP hS ⊢
  try dsimp only at k_2
  obtain ⟨k_2, k_3⟩ := k_2
  rcases r_1 with _ | q_4
  · skip
    have hno1 := k_3 rfl
    refine W.eq (g2 := F0 m 4 ls [.null]) rfl ?_
    refine lv_astore_nN (lv' := [(1, .null), (0, .ref h0)]) hx hb dX5_first_4 rfl hl (by decide) rfl (fun ls hl => ?_)
    refine lv_aload_nN hx hb dX5_first_5 rfl (lv_at hl 0 rfl) ?_
    refine lv_ifnonnullN hx hb dX5_first_6 ?_
    refine lv_bipush (v := (-9)) hx hb dX5_first_9 (by decide) ?_
    refine lv_goto (tgt := 18) hx hb dX5_first_11 (by decide) ?_
    have hv9 : (-9 : Int32).toInt = (-9) := by decide
    exact W.iret (v := (-9)) hx hb hr (fun t ht hW => ⟨⟨(-9), (), rfl, (by rw [hno1]; rfl), trivial⟩, hS.F ht⟩) hS.2.2 dX5_first_18
  · skip
    obtain ⟨j_5, hj_6, rfl, hf_7⟩ := k_2 q_4 rfl
    have hsp_8 := inv.2.2.2.2.2 j_5 hj_6
    refine W.eq (g2 := F0 m 4 ls [.ref (sa j_5)]) rfl ?_
    refine lv_astore_n (lv' := [(1, .ref (sa j_5)), (0, .ref h0)]) hx hb dX5_first_4 rfl hl (by decide) rfl (fun ls hl => ?_)
    refine lv_aload_n hx hb dX5_first_5 rfl (lv_at hl 0 rfl) ?_
    refine lv_ifnonnull (tgt := 14) hx hb dX5_first_6 (by decide) ?_
    refine lv_aload_n hx hb dX5_first_14 rfl (lv_at hl 0 rfl) ?_
    obtain ⟨k9_9, hk9_9⟩ : ∃ k : Nat, (([(h0, .inr (6, [.ref sea, .ref pas, .ref fl, .ref fc, .int xlf, .int xhr, .int xho, .int xga, .int xsg, .int xpr, .int xfa, .long xls]))] : va_W) ++ va_pl L f)[k]? = some ((sa j_5), .inr (4, [.int (V j_5 0), .int (V j_5 1), .int (V j_5 2), .ref (oa j_5), .ref (ia j_5), .int (V j_5 3), .int (V j_5 4), .int (V j_5 5), .int (V j_5 6), .int (V j_5 7), .int (V j_5 8), .int (V j_5 9), .int (V j_5 10), .int (V j_5 11)])) := pl_at hsp_8.1 hsp_8.2.1
    refine va_get (D := (dC, dI)) (ci := 4) (v := .int (V j_5 0)) (C := RX3) (T := TX3) (N := 14) hx hb hts iw_X5_first_X3 hown hK hP k9_9 hk9_9 rfl 0 (by decide) (hts (.fieldLink RX5 187 "TeaRace$Ship" "number" "I") (by decide +kernel)) (fun _ h9 => h9) rfl dX5_first_15 ?_
    exact W.iret (v := (V j_5 0)) hx hb hr (fun t ht hW => ⟨⟨(V j_5 0), (), rfl, (by rw [hf_7]; exact hnm j_5 hj_6), trivial⟩, hS.F ht⟩) hS.2.2 dX5_first_18
set_option maxRecDepth 20000 in
theorem iw_X5_priceAtEntry_X5 : ∀ w ∈ wsX50, w ∈ wsX5_priceAtEntry := fun w h => (List.mem_cons_of_mem _ (List.mem_append_left _ (List.mem_append_left _ (List.mem_append_right _ h))))
set_option maxRecDepth 20000 in
theorem iw_X5_priceAtEntry_X3 : ∀ w ∈ wsX30, w ∈ wsX5_priceAtEntry := fun w h => (List.mem_cons_of_mem _ (List.mem_append_left _ (List.mem_append_right _ h)))
set_option maxHeartbeats 4000000 in
set_option maxRecDepth 100000 in
/-- priceAtEntry -/
theorem c_X5_priceAtEntry (l : Launch) (dC : Nat → ClassId) (dI : Nat → Nat → Nat) (sz : Nat) (L : List Nat) (f : Nat → va_E) (h0 : Nat) (sea : Nat) (pas : Nat) (fl : Nat) (fc : Nat) (xlf : Int32) (xhr : Int32) (xho : Int32) (xga : Int32) (xsg : Int32) (xpr : Int32) (xfa : Int32) (xls : Int64) (cB : ClassId) (own : Nat → Nat) (te : Nat) (cO : ClassId) (rr : Nat → Nat) (cw : Nat → Nat → Int32) (n : Nat) (sa : Nat → Nat) (V : Nat → Nat → Int32) (oa : Nat → Nat) (ia : Nat → Nat) (nO : Nat → Nat) (OW : Nat → Nat → Nat → Int32) (nS : Nat → Nat) (SW : Nat → Nat → Nat → Int32) (a : Nat) (oa1 : Nat) (ia1 : Nat) (v : Nat → Int32) (i_xpr : 1 ≤ xpr.toInt ∧ xpr.toInt ≤ 10000) (i_xfa : 0 ≤ xfa.toInt ∧ xfa.toInt ≤ 1000) (hch : ∀ i : Nat, i < n → 0 ≤ (V i 2).toInt ∧ (V i 2).toInt ≤ 20000) (hsh : a ∈ L ∧ f a = .inr (4, [.int (v 0), .int (v 1), .int (v 2), .ref oa1, .ref ia1, .int (v 3), .int (v 4), .int (v 5), .int (v 6), .int (v 7), .int (v 8), .int (v 9), .int (v 10), .int (v 11)])) (inv : Inv L f own te cO cB rr cw fl n sa V oa ia nO OW nS SW) : Met l yX5_priceAtEntry wsX5_priceAtEntry ({ frames := 3, cells := 0, slots := 0, locals := 64 }) (va_Pc [.ref h0, .ref a] (fun U => U.heap.size = sz ∧ va_P (dC, dI) vwCl (([(h0, .inr (6, [.ref sea, .ref pas, .ref fl, .ref fc, .int xlf, .int xhr, .int xho, .int xga, .int xsg, .int xpr, .int xfa, .long xls]))] : va_W) ++ va_pl L f) U.heap ∧ va_K (dC, dI) vwCl [(cO, .object "java/lang/Object")] U ∧ NW U)) (va_Qi (fun (r : Int32) (_ : Unit) => (r.toInt = priceF xpr.toInt xfa.toInt (befG (fun i => (V i 9).toInt) (fun i => (V i 8).toInt) (fun i => (V i 2).toInt) (fun i => (V i 0).toInt) (v 9).toInt (v 0).toInt n)) ∧ (1 ≤ r.toInt ∧ r.toInt ≤ 10000)) (fun _ _ => True) (va_A [] sz)) 0 0 (va_A [] sz) := by
  refine Met.ofW (cc := cX5_priceAtEntry) (maxL := 5) (ret := (some .int)) (by decide) rfl ?_
  intro p e s m args below meth c s₁ B hml hv
  obtain ⟨rfl, hsz, hP, hK, hN⟩ := hv
  have hx := B.exec
  have hb := B.bytes
  have hr := B.returns
  have hts := atoms_spec (ws := wsX5_priceAtEntry) B.pre
  have hown : s.vm.findClass RX5 = some m.cls := findClass_of_methodNamed B.named
  have hlocks := B.notSynchronized
  subst hsz
  generalize hAe : va_A [] s.heap.size = A at ⊢
  have hA : ∀ q : Nat, s.heap.size ≤ q → A q := fun q h => by rw [← hAe]; exact Or.inr h
  have hS : va_S A s.heap s.heap [] := va_S.rf
  have hP : va_P (dC, dI) vwCl (([(h0, .inr (6, [.ref sea, .ref pas, .ref fl, .ref fc, .int xlf, .int xhr, .int xho, .int xga, .int xsg, .int xpr, .int xfa, .long xls]))] : va_W) ++ va_pl L f) s.heap := hP
  have hl := lv_entry ([.ref h0, .ref a]) (n := 5) (Nat.le_of_ble_eq_true rfl)
  rw [lg_entry_eq]
  generalize (lg_sl ([.ref h0, .ref a]) ++ List.replicate (5 - (lg_sl ([.ref h0, .ref a])).length) Slot.unset).toArray = ls at hl ⊢
  have hl : lv_has ls 5 [(0, .ref h0), (1, .ref a)] := hl
  have hn8 := inv.2.2.2.2.1
  refine lv_iconst (v := 0) hx hb dX5_priceAtEntry_0 (by decide) ?_
  refine lv_istore_n (lv' := [(2, .int 0), (0, .ref h0), (1, .ref a)]) hx hb dX5_priceAtEntry_1 rfl hl (by decide) rfl (fun ls hl => ?_)
  refine lv_iconst (v := 0) hx hb dX5_priceAtEntry_2 (by decide) ?_
  refine lv_istore_n (lv' := [(3, .int 0), (2, .int 0), (0, .ref h0), (1, .ref a)]) hx hb dX5_priceAtEntry_3 rfl hl (by decide) rfl (fun ls hl => ?_)
  have key4 : ∀ (n4 : Nat) (bf : Int32) (ik : Int32) (H : Heap) (locs : List Loc) (ls : Array Slot), (0 ≤ bf.toInt ∧ bf.toInt ≤ 160000) → (0 ≤ ik.toInt ∧ ik.toInt ≤ 100) → (ik.toInt ≤ (n : Int)) → (bf.toInt ≤ 20000 * ik.toInt) → (bf.toInt = befG (fun i => (V i 9).toInt) (fun i => (V i 8).toInt) (fun i => (V i 2).toInt) (fun i => (V i 0).toInt) (v 9).toInt (v 0).toInt ik.toNatClampNeg) → 100 - ik.toInt < (n4 : Int) → va_P (dC, dI) vwCl (([(h0, .inr (6, [.ref sea, .ref pas, .ref fl, .ref fc, .int xlf, .int xhr, .int xho, .int xga, .int xsg, .int xpr, .int xfa, .long xls]))] : va_W) ++ va_pl L f) H → va_S A s.heap H locs → lv_has ls 5 [(3, .int ik), (2, .int bf), (0, .ref h0), (1, .ref a)] → W p l e ({ frames := 3, cells := 0, slots := 0, locals := 64 } : Room) s m ([.ref h0, .ref a] : List Value).toArray below meth c H locs 0 0 (MQ below (va_Qi (fun (r : Int32) (_ : Unit) => (r.toInt = priceF xpr.toInt xfa.toInt (befG (fun i => (V i 9).toInt) (fun i => (V i 8).toInt) (fun i => (V i 2).toInt) (fun i => (V i 0).toInt) (v 9).toInt (v 0).toInt n)) ∧ (1 ≤ r.toInt ∧ r.toInt ≤ 10000)) (fun _ _ => True) A) ([.ref h0, .ref a] : List Value).toArray s 0 0 A) (F0 m 4 ls []) := by
    intro n4
    induction n4 with
    | zero =>
      intro bf ik H locs ls i_bf i_ik hle hbr hbf hm4
      exact absurd hm4 (by omega)
    | succ n4 ih4 =>
      intro bf ik H locs ls i_bf i_ik hle hbr hbf hm4 hP hS hl
      refine lv_iload_n hx hb dX5_priceAtEntry_4 rfl (lv_at hl 0 rfl) ?_
      refine lv_aload_n hx hb dX5_priceAtEntry_5 rfl (lv_at hl 2 rfl) ?_
      refine va_get (D := (dC, dI)) (ci := 6) (v := .ref fl) (C := RX5) (T := TX5) (N := 12) hx hb hts iw_X5_priceAtEntry_X5 hown hK hP 0 rfl rfl 2 (by decide) (hts (.fieldLink RX5 26 "TeaRace" "fleet" "Ljava/util/List;") (by decide +kernel)) (fun _ h9 => h9) rfl dX5_priceAtEntry_6 ?_
      have hlf_1 := inv.2.1
      have hPc : va_P (dC, dI) vwCl (([] : va_W) ++ va_pl L f) H := va_P.part (X := [(h0, .inr (6, [.ref sea, .ref pas, .ref fl, .ref fc, .int xlf, .int xhr, .int xho, .int xga, .int xsg, .int xpr, .int xfa, .long xls]))]) hP [] rfl
      have hKc := hK.sub (tys' := []) [] rfl
      obtain ⟨mc_2, ar_3, hm_4, hv_5, hn_6, hb_7⟩ := LstAt.obj hlf_1
      obtain ⟨k8_8, hk8_8⟩ : ∃ k : Nat, (([] : va_W) ++ va_pl L f)[k]? = some (fl, .inr (0, [.int mc_2, .ref ar_3, .int (nI n)])) := pl_at hm_4 hv_5
      refine va_callFi (va_runF (va_atK hKc (ci := 0) rfl) (As := []) (rest := [.int ik]) ⟨hx, hb, hml, hown, hts⟩ (c_Jx4a65c_size_8abf5 l dC dI H.size L f te fl n sa cO hlf_1) (va_cwF 0 hts gX5_priceAtEntry_Jx4a65c_size_8abf5_f107Jx4a65c rfl rfl rfl hN.fSize (by decide +kernel) ⟨Nat.le_of_ble_eq_true rfl, Nat.le_of_ble_eq_true rfl⟩) ⟨fun a U g mk q => by obtain ⟨q0, q1, qP, qK, qN⟩ := q; exact ⟨q0, q1, qP, va_K.moved (u := U) (U := U.calling g mk a) (Vm.Alike.refl U.vm) qK, NW.same (u := U) (U := U.calling g mk a) rfl qN⟩, va_recv hKc hPc (ci := 0) (q0 := k8_8) rfl hk8_8, fun U hU hW => ⟨rfl, by rw [hU], by rw [hU]; exact hPc, va_K.moved hW.alike hKc, NW.warm hW hN⟩⟩ rfl rfl hl.1 rfl (lv_room (Nat.le_of_ble_eq_true rfl)) dX5_priceAtEntry_9 ⟨(Nat.zero_le _), (Nat.zero_le _)⟩) hS (fun q _ h => ro_A hS hA q h) (ro_A hS hA) (fun r_9 u t H1 locs ht hvm k_10 hB hz1 hk1 hS => ?_)
      have hP := ro_P hk1 hP
      generalize H1 = H at hP hS ⊢
      try dsimp only at k_10
      obtain ⟨k_10, k_11, k_12⟩ := k_10
      refine lv_icmp_ge (tgt := 63) hx hb dX5_priceAtEntry_14 (by decide) (fun c_13 => ?_) (fun c_13 => ?_)
      · skip
        have qc_13 : r_9.toInt ≤ ik.toInt := le_k rfl rfl c_13
        refine lv_iload_n hx hb dX5_priceAtEntry_63 rfl (lv_at hl 1 rfl) ?_
        refine lv_bipush (v := 100) hx hb dX5_priceAtEntry_64 (by decide) ?_
        refine lv_iadd hx hb dX5_priceAtEntry_66 ?_
        refine lv_topi (fun x_14 ex_14 => ?_)
        have tx_14 : x_14.toInt = bf.toInt + 100 := ad_k ex_14 rfl (by decide) (by omega) (by omega)
        refine lv_iconst (v := 1) hx hb dX5_priceAtEntry_67 (by decide) ?_
        refine lv_isub hx hb dX5_priceAtEntry_68 ?_
        refine lv_topi (fun x_15 ex_15 => ?_)
        have tx_15 : x_15.toInt = x_14.toInt - 1 := su_k ex_15 rfl (by decide) (by omega) (by omega)
        refine lv_bipush (v := 100) hx hb dX5_priceAtEntry_69 (by decide) ?_
        refine lv_idiv hx hb dX5_priceAtEntry_71 (by decide) ?_
        refine lv_topi (fun x_16 ex_16 => ?_)
        have tx_16 : x_16.toInt = x_15.toInt / 100 := dv_k ex_16 rfl (by decide) (by omega) (by omega)
        refine lv_istore_n (lv' := [(3, .int x_16), (2, .int bf), (0, .ref h0), (1, .ref a)]) hx hb dX5_priceAtEntry_72 rfl hl (by decide) rfl (fun ls hl => ?_)
        refine lv_iconst (v := 1) hx hb dX5_priceAtEntry_73 (by decide) ?_
        refine lv_aload_n hx hb dX5_priceAtEntry_74 rfl (lv_at hl 2 rfl) ?_
        refine va_get (D := (dC, dI)) (ci := 6) (v := .int xpr) (C := RX5) (T := TX5) (N := 12) hx hb hts iw_X5_priceAtEntry_X5 hown hK hP 0 rfl rfl 9 (by decide) (hts (.fieldLink RX5 50 "TeaRace" "priceAtFirst" "I") (by decide +kernel)) (fun _ h9 => h9) rfl dX5_priceAtEntry_75 ?_
        refine lv_aload_n hx hb dX5_priceAtEntry_78 rfl (lv_at hl 2 rfl) ?_
        refine va_get (D := (dC, dI)) (ci := 6) (v := .int xfa) (C := RX5) (T := TX5) (N := 12) hx hb hts iw_X5_priceAtEntry_X5 hown hK hP 0 rfl rfl 10 (by decide) (hts (.fieldLink RX5 53 "TeaRace" "fallOfPrice" "I") (by decide +kernel)) (fun _ h9 => h9) rfl dX5_priceAtEntry_79 ?_
        refine lv_iload_n hx hb dX5_priceAtEntry_82 rfl (lv_at hl 0 rfl) ?_
        refine lv_imul hx hb dX5_priceAtEntry_83 ?_
        refine lv_topi (fun x_17 ex_17 => ?_)
        have tx_17 : 0 ≤ x_17.toInt ∧ x_17.toInt ≤ 1600000 := mu_b ex_17 (by omega) (p := 1000) (by omega) (by omega) (q := 1600) (by omega) (by decide)
        refine lv_isub hx hb dX5_priceAtEntry_84 ?_
        refine lv_topi (fun x_18 ex_18 => ?_)
        have tx_18 : x_18.toInt = xpr.toInt - x_17.toInt := su_k ex_18 rfl rfl (by omega) (by omega)
        refine va_mmax hx hb (hml.trans hl.1.symm) hown (hts (.methodLink RX5 288 Lib.Math.max.name) (by decide +kernel)) (hts (.static Lib.Math.max.name) (by decide +kernel)) (hts (.initialized "java/lang/Math") (by decide +kernel)) (hts (.code Lib.Math.max.name Lib.Math.max.code 2 (some .int)) (by decide +kernel)) (Nat.le_of_ble_eq_true rfl) (Nat.le_of_ble_eq_true rfl) (Nat.le_of_ble_eq_true rfl) (Nat.le_of_ble_eq_true rfl) dX5_priceAtEntry_85 ?_
        refine lv_topi (fun x_19 ex_19 => ?_)
        have tx_19 : x_19.toInt = max 1 x_18.toInt := mx_k ex_19 (by decide) rfl
        exact W.iret (v := x_19) hx hb hr (fun t ht hW => ⟨⟨x_19, (), rfl, ⟨(by rw [(show n = ik.toNatClampNeg from by have := tn_k (i := ik) rfl (by omega); omega), ← hbf]; have hm := mul_rng9 (x := xfa.toInt) (y := x_16.toInt) (A := 1000) (B := 1601) (by omega) (by omega); have h1 : x_17.toInt = xfa.toInt * x_16.toInt := mu_k ex_17 rfl rfl (by omega) (by omega); unfold priceF; rw [show (bf.toInt + 99) / 100 = x_16.toInt from (by omega), ← h1]; (repeat' split) <;> omega), ⟨by omega, by omega⟩⟩, trivial⟩, hS.F ht⟩) hS.2.2 dX5_priceAtEntry_88
      · skip
        have qc_13 : ik.toInt < r_9.toInt := nle_k rfl rfl c_13
        refine lv_aload_n hx hb dX5_priceAtEntry_17 rfl (lv_at hl 2 rfl) ?_
        refine va_get (D := (dC, dI)) (ci := 6) (v := .ref fl) (C := RX5) (T := TX5) (N := 12) hx hb hts iw_X5_priceAtEntry_X5 hown hK hP 0 rfl rfl 2 (by decide) (hts (.fieldLink RX5 26 "TeaRace" "fleet" "Ljava/util/List;") (by decide +kernel)) (fun _ h9 => h9) rfl dX5_priceAtEntry_18 ?_
        refine lv_iload_n hx hb dX5_priceAtEntry_21 rfl (lv_at hl 0 rfl) ?_
        have hPc : va_P (dC, dI) vwCl (([] : va_W) ++ va_pl L f) H := va_P.part (X := [(h0, .inr (6, [.ref sea, .ref pas, .ref fl, .ref fc, .int xlf, .int xhr, .int xho, .int xga, .int xsg, .int xpr, .int xfa, .long xls]))]) hP [] rfl
        have hKc := hK.sub (tys' := [(cO, .object "java/lang/Object")]) [0] rfl
        obtain ⟨k8_20, hk8_20⟩ : ∃ k : Nat, (([] : va_W) ++ va_pl L f)[k]? = some (fl, .inr (0, [.int mc_2, .ref ar_3, .int (nI n)])) := pl_at hm_4 hv_5
        refine va_callFq (va_runF (va_atK hKc (ci := 0) rfl) (As := [.int ik]) (rest := []) ⟨hx, hb, hml, hown, hts⟩ (c_Jx4a65c_get_915e3 l dC dI H.size L f te fl n sa cO ik (by omega) (by omega) hlf_1) (va_cwF 1 hts gX5_priceAtEntry_Jx4a65c_get_915e3_f175Jx4a65c rfl rfl rfl hN.fGet (by decide +kernel) ⟨Nat.le_of_ble_eq_true rfl, Nat.le_of_ble_eq_true rfl⟩) ⟨fun a U g mk q => by obtain ⟨q0, q1, qP, qK, qN⟩ := q; exact ⟨q0, q1, qP, va_K.moved (u := U) (U := U.calling g mk a) (Vm.Alike.refl U.vm) qK, NW.same (u := U) (U := U.calling g mk a) rfl qN⟩, va_recv hKc hPc (ci := 0) (q0 := k8_20) rfl hk8_20, fun U hU hW => ⟨rfl, by rw [hU], by rw [hU]; exact hPc, va_K.moved hW.alike hKc, NW.warm hW hN⟩⟩ rfl rfl hl.1 rfl (lv_room (Nat.le_of_ble_eq_true rfl)) dX5_priceAtEntry_22 ⟨(Nat.zero_le _), (Nat.zero_le _)⟩) hS (fun q _ h => ro_A hS hA q h) (ro_A hS hA) (fun r_21 u t H1 locs ht hvm k_22 hB hz1 hk1 hS => ?_)
        have hP := ro_P hk1 hP
        generalize H1 = H at hP hS ⊢
        try dsimp only at k_22
        obtain rfl : r_21 = some (sa ik.toNatClampNeg) := k_22
        refine W.eq (g2 := F0 m 27 ls [.ref (sa ik.toNatClampNeg)]) rfl ?_
        have hsp_23 := inv.2.2.2.2.2 ik.toNatClampNeg (tn_lt (by omega) (by omega))
        obtain ⟨k9_24, hk9_24⟩ : ∃ k : Nat, (([(h0, .inr (6, [.ref sea, .ref pas, .ref fl, .ref fc, .int xlf, .int xhr, .int xho, .int xga, .int xsg, .int xpr, .int xfa, .long xls]))] : va_W) ++ va_pl L f)[k]? = some ((sa ik.toNatClampNeg), .inr (4, [.int (V ik.toNatClampNeg 0), .int (V ik.toNatClampNeg 1), .int (V ik.toNatClampNeg 2), .ref (oa ik.toNatClampNeg), .ref (ia ik.toNatClampNeg), .int (V ik.toNatClampNeg 3), .int (V ik.toNatClampNeg 4), .int (V ik.toNatClampNeg 5), .int (V ik.toNatClampNeg 6), .int (V ik.toNatClampNeg 7), .int (V ik.toNatClampNeg 8), .int (V ik.toNatClampNeg 9), .int (V ik.toNatClampNeg 10), .int (V ik.toNatClampNeg 11)])) := pl_at hsp_23.1 hsp_23.2.1
        refine va_castS hx hb hown (hts (.classLink RX5 113 "TeaRace$Ship") (by decide +kernel)) (va_atK hK (ci := 4) rfl) (va_recv hK hP (ci := 4) (q0 := k9_24) rfl hk9_24) dX5_priceAtEntry_27 ?_
        refine lv_astore (lv' := [(4, .ref (sa ik.toNatClampNeg)), (3, .int ik), (2, .int bf), (0, .ref h0), (1, .ref a)]) hx hb dX5_priceAtEntry_30 hl (by decide) rfl (fun ls hl => ?_)
        refine lv_aload hx hb dX5_priceAtEntry_32 (lv_at hl 0 rfl) ?_
        have hPc : va_P (dC, dI) vwCl (([] : va_W) ++ va_pl L f) H := va_P.part (X := [(h0, .inr (6, [.ref sea, .ref pas, .ref fl, .ref fc, .int xlf, .int xhr, .int xho, .int xga, .int xsg, .int xpr, .int xfa, .long xls]))]) hP [] rfl
        have hKc := hK.sub (tys' := []) [] rfl
        obtain ⟨k8_25, hk8_25⟩ : ∃ k : Nat, (([] : va_W) ++ va_pl L f)[k]? = some ((sa ik.toNatClampNeg), .inr (4, [.int (V ik.toNatClampNeg 0), .int (V ik.toNatClampNeg 1), .int (V ik.toNatClampNeg 2), .ref (oa ik.toNatClampNeg), .ref (ia ik.toNatClampNeg), .int (V ik.toNatClampNeg 3), .int (V ik.toNatClampNeg 4), .int (V ik.toNatClampNeg 5), .int (V ik.toNatClampNeg 6), .int (V ik.toNatClampNeg 7), .int (V ik.toNatClampNeg 8), .int (V ik.toNatClampNeg 9), .int (V ik.toNatClampNeg 10), .int (V ik.toNatClampNeg 11)])) := pl_at hsp_23.1 hsp_23.2.1
        refine va_calli (va_runV (As := []) (rest := []) ⟨hx, hb, hml, hown, hts⟩ (c_X3_isHome l dC dI H.size L f (sa ik.toNatClampNeg) (oa ik.toNatClampNeg) (ia ik.toNatClampNeg) (V ik.toNatClampNeg) ⟨hsp_23.1, hsp_23.2.1⟩) (cwV 0 hts gX5_priceAtEntry_X3_isHome rfl rfl rfl (by decide +kernel) ⟨Nat.le_of_ble_eq_true rfl, Nat.le_of_ble_eq_true rfl⟩) ⟨fun a U g mk q => by obtain ⟨q0, q1, qP, qK, qN⟩ := q; exact ⟨q0, q1, qP, va_K.moved (u := U) (U := U.calling g mk a) (Vm.Alike.refl U.vm) qK, NW.same (u := U) (U := U.calling g mk a) rfl qN⟩, va_recv hKc hPc (ci := 4) (q0 := k8_25) rfl hk8_25, fun U hU hW => ⟨rfl, by rw [hU], by rw [hU]; exact hPc, va_K.moved hW.alike hKc, NW.warm hW hN⟩⟩ rfl rfl hl.1 rfl (lv_room (Nat.le_of_ble_eq_true rfl)) dX5_priceAtEntry_34 ⟨(Nat.zero_le _), (Nat.zero_le _)⟩) hS (fun q _ h => ro_A hS hA q h) (ro_A hS hA) (fun r_26 u t H1 locs ht hvm k_27 hB hz1 hk1 hS => ?_)
        have hP := ro_P hk1 hP
        generalize H1 = H at hP hS ⊢
        try dsimp only at k_27
        obtain ⟨k_27, k_28⟩ := k_27
        refine lv_if_eq (tgt := 57) hx hb dX5_priceAtEntry_37 (by decide) (fun c_29 => ?_) (fun c_29 => ?_)
        · skip
          have b_30 := b01z k_27 c_29
          (try simp only [Int32.lt_iff_toInt_lt, Int32.le_iff_toInt_le, ← Int32.toInt_inj, Int32.reduceToInt, zl1, zl2, zl3, zl4, zl9] at b_30)
          (try simp only [Int32.reduceToInt] at b_30)
          obtain ⟨x_31, ex_31⟩ : ∃ y : Int32, y = ik + 1 := ⟨_, rfl⟩
          have tx_31 : x_31.toInt = ik.toInt + 1 := ad_k ex_31 rfl (by decide) (by omega) (by omega)
          refine lv_iinc (v := x_31) (lv' := [(3, .int x_31), (4, .ref (sa ik.toNatClampNeg)), (2, .int bf), (0, .ref h0), (1, .ref a)]) hx hb dX5_priceAtEntry_57 hl (k := 1) rfl (by rw [ex_31]; rfl) (by decide) rfl (fun ls hl => ?_)
          refine lv_goto (tgt := 4) hx hb dX5_priceAtEntry_60 (by decide) ?_
          exact ih4 bf x_31  H locs ls ⟨(by first | omega | (simp only [Int32.reduceToInt]; omega)), (by first | omega | (simp only [Int32.reduceToInt]; omega))⟩ ⟨(by first | omega | (simp only [Int32.reduceToInt]; omega)), (by first | omega | (simp only [Int32.reduceToInt]; omega))⟩ (by first | omega | (simp only [Int32.reduceToInt]; omega)) (by first | omega | (simp only [Int32.reduceToInt]; omega)) (bef_step (x := bf) (y := bf) hbf (by omega) tx_31 (by (try dsimp only); (repeat' split) <;> omega)) (by first | omega | (simp only [Int32.reduceToInt]; omega)) hP hS (lv_sub hl [0, 2, 3, 4] rfl)
        · skip
          have b_32 := b01n k_27 c_29
          (try simp only [Int32.lt_iff_toInt_lt, Int32.le_iff_toInt_le, ← Int32.toInt_inj, Int32.reduceToInt, zl1, zl2, zl3, zl4, zl9] at b_32)
          (try simp only [Int32.reduceToInt] at b_32)
          refine lv_aload hx hb dX5_priceAtEntry_40 (lv_at hl 0 rfl) ?_
          refine lv_aload_n hx hb dX5_priceAtEntry_42 rfl (lv_at hl 4 rfl) ?_
          have hPc : va_P (dC, dI) vwCl (([] : va_W) ++ va_pl L f) H := va_P.part (X := [(h0, .inr (6, [.ref sea, .ref pas, .ref fl, .ref fc, .int xlf, .int xhr, .int xho, .int xga, .int xsg, .int xpr, .int xfa, .long xls]))]) hP [] rfl
          have hKc := hK.sub (tys' := []) [] rfl
          obtain ⟨k8_33, hk8_33⟩ : ∃ k : Nat, (([] : va_W) ++ va_pl L f)[k]? = some ((sa ik.toNatClampNeg), .inr (4, [.int (V ik.toNatClampNeg 0), .int (V ik.toNatClampNeg 1), .int (V ik.toNatClampNeg 2), .ref (oa ik.toNatClampNeg), .ref (ia ik.toNatClampNeg), .int (V ik.toNatClampNeg 3), .int (V ik.toNatClampNeg 4), .int (V ik.toNatClampNeg 5), .int (V ik.toNatClampNeg 6), .int (V ik.toNatClampNeg 7), .int (V ik.toNatClampNeg 8), .int (V ik.toNatClampNeg 9), .int (V ik.toNatClampNeg 10), .int (V ik.toNatClampNeg 11)])) := pl_at hsp_23.1 hsp_23.2.1
          refine va_calli (va_runV (As := [.ref a]) (rest := []) ⟨hx, hb, hml, hown, hts⟩ (c_X3_entersBefore l dC dI H.size L f (sa ik.toNatClampNeg) (oa ik.toNatClampNeg) (ia ik.toNatClampNeg) (V ik.toNatClampNeg) a oa1 ia1 v ⟨hsp_23.1, hsp_23.2.1⟩ ⟨hsh.1, hsh.2⟩) (cwV 1 hts gX5_priceAtEntry_X3_entersBefore rfl rfl rfl (by decide +kernel) ⟨Nat.le_of_ble_eq_true rfl, Nat.le_of_ble_eq_true rfl⟩) ⟨fun a U g mk q => by obtain ⟨q0, q1, qP, qK, qN⟩ := q; exact ⟨q0, q1, qP, va_K.moved (u := U) (U := U.calling g mk a) (Vm.Alike.refl U.vm) qK, NW.same (u := U) (U := U.calling g mk a) rfl qN⟩, va_recv hKc hPc (ci := 4) (q0 := k8_33) rfl hk8_33, fun U hU hW => ⟨rfl, by rw [hU], by rw [hU]; exact hPc, va_K.moved hW.alike hKc, NW.warm hW hN⟩⟩ rfl rfl hl.1 rfl (lv_room (Nat.le_of_ble_eq_true rfl)) dX5_priceAtEntry_43 ⟨(Nat.zero_le _), (Nat.zero_le _)⟩) hS (fun q _ h => ro_A hS hA q h) (ro_A hS hA) (fun r_34 u t H1 locs ht hvm k_35 hB hz1 hk1 hS => ?_)
          have hP := ro_P hk1 hP
          generalize H1 = H at hP hS ⊢
          try dsimp only at k_35
          obtain ⟨k_35, k_36, k_37⟩ := k_35
          refine lv_if_eq (tgt := 57) hx hb dX5_priceAtEntry_46 (by decide) (fun c_38 => ?_) (fun c_38 => ?_)
          · skip
            have qc_38 : r_34.toInt = 0 := eq_k rfl (by decide) c_38
            obtain ⟨x_39, ex_39⟩ : ∃ y : Int32, y = ik + 1 := ⟨_, rfl⟩
            have tx_39 : x_39.toInt = ik.toInt + 1 := ad_k ex_39 rfl (by decide) (by omega) (by omega)
            refine lv_iinc (v := x_39) (lv' := [(3, .int x_39), (4, .ref (sa ik.toNatClampNeg)), (2, .int bf), (0, .ref h0), (1, .ref a)]) hx hb dX5_priceAtEntry_57 hl (k := 1) rfl (by rw [ex_39]; rfl) (by decide) rfl (fun ls hl => ?_)
            refine lv_goto (tgt := 4) hx hb dX5_priceAtEntry_60 (by decide) ?_
            exact ih4 bf x_39  H locs ls ⟨(by first | omega | (simp only [Int32.reduceToInt]; omega)), (by first | omega | (simp only [Int32.reduceToInt]; omega))⟩ ⟨(by first | omega | (simp only [Int32.reduceToInt]; omega)), (by first | omega | (simp only [Int32.reduceToInt]; omega))⟩ (by first | omega | (simp only [Int32.reduceToInt]; omega)) (by first | omega | (simp only [Int32.reduceToInt]; omega)) (bef_step (x := bf) (y := bf) hbf (by omega) tx_39 (by (try dsimp only); (repeat' split) <;> omega)) (by first | omega | (simp only [Int32.reduceToInt]; omega)) hP hS (lv_sub hl [0, 2, 3, 4] rfl)
          · skip
            have qc_38 : r_34.toInt ≠ 0 := ne_k rfl (by decide) c_38
            refine lv_iload_n hx hb dX5_priceAtEntry_49 rfl (lv_at hl 2 rfl) ?_
            refine lv_aload hx hb dX5_priceAtEntry_50 (lv_at hl 0 rfl) ?_
            obtain ⟨k9_40, hk9_40⟩ : ∃ k : Nat, (([(h0, .inr (6, [.ref sea, .ref pas, .ref fl, .ref fc, .int xlf, .int xhr, .int xho, .int xga, .int xsg, .int xpr, .int xfa, .long xls]))] : va_W) ++ va_pl L f)[k]? = some ((sa ik.toNatClampNeg), .inr (4, [.int (V ik.toNatClampNeg 0), .int (V ik.toNatClampNeg 1), .int (V ik.toNatClampNeg 2), .ref (oa ik.toNatClampNeg), .ref (ia ik.toNatClampNeg), .int (V ik.toNatClampNeg 3), .int (V ik.toNatClampNeg 4), .int (V ik.toNatClampNeg 5), .int (V ik.toNatClampNeg 6), .int (V ik.toNatClampNeg 7), .int (V ik.toNatClampNeg 8), .int (V ik.toNatClampNeg 9), .int (V ik.toNatClampNeg 10), .int (V ik.toNatClampNeg 11)])) := pl_at hsp_23.1 hsp_23.2.1
            refine va_get (D := (dC, dI)) (ci := 4) (v := .int (V ik.toNatClampNeg 2)) (C := RX3) (T := TX3) (N := 14) hx hb hts iw_X5_priceAtEntry_X3 hown hK hP k9_40 hk9_40 rfl 2 (by decide) (hts (.fieldLink RX5 147 "TeaRace$Ship" "chests" "I") (by decide +kernel)) (fun _ h9 => h9) rfl dX5_priceAtEntry_52 ?_
            have hc_41 := hch ik.toNatClampNeg (tn_lt (by omega) (by omega))
            refine lv_iadd hx hb dX5_priceAtEntry_55 ?_
            refine lv_topi (fun x_42 ex_42 => ?_)
            have tx_42 : x_42.toInt = bf.toInt + (V ik.toNatClampNeg 2).toInt := ad_k ex_42 rfl rfl (by omega) (by omega)
            refine lv_istore_n (lv' := [(2, .int x_42), (4, .ref (sa ik.toNatClampNeg)), (3, .int ik), (0, .ref h0), (1, .ref a)]) hx hb dX5_priceAtEntry_56 rfl hl (by decide) rfl (fun ls hl => ?_)
            obtain ⟨x_43, ex_43⟩ : ∃ y : Int32, y = ik + 1 := ⟨_, rfl⟩
            have tx_43 : x_43.toInt = ik.toInt + 1 := ad_k ex_43 rfl (by decide) (by omega) (by omega)
            refine lv_iinc (v := x_43) (lv' := [(3, .int x_43), (2, .int x_42), (4, .ref (sa ik.toNatClampNeg)), (0, .ref h0), (1, .ref a)]) hx hb dX5_priceAtEntry_57 hl (k := 2) rfl (by rw [ex_43]; rfl) (by decide) rfl (fun ls hl => ?_)
            refine lv_goto (tgt := 4) hx hb dX5_priceAtEntry_60 (by decide) ?_
            exact ih4 x_42 x_43  H locs ls ⟨(by first | omega | (simp only [Int32.reduceToInt]; omega)), (by first | omega | (simp only [Int32.reduceToInt]; omega))⟩ ⟨(by first | omega | (simp only [Int32.reduceToInt]; omega)), (by first | omega | (simp only [Int32.reduceToInt]; omega))⟩ (by first | omega | (simp only [Int32.reduceToInt]; omega)) (by first | omega | (simp only [Int32.reduceToInt]; omega)) (bef_step (x := bf) (y := x_42) hbf (by omega) tx_43 (by (try dsimp only); (repeat' split) <;> omega)) (by first | omega | (simp only [Int32.reduceToInt]; omega)) hP hS (lv_sub hl [0, 1, 3, 4] rfl)
  exact key4 101 0 0  _ _ ls (by decide) (by decide) (by (try simp only [Int32.reduceToInt]); omega) (by (try simp only [Int32.reduceToInt]); omega) rfl (by (try simp only [Int32.reduceToInt]); omega) hP hS hl
set_option maxRecDepth 20000 in
theorem iw_X5_takings_X3 : ∀ w ∈ wsX30, w ∈ wsX5_takings := fun w h => (List.mem_cons_of_mem _ (List.mem_append_left _ (List.mem_append_left _ (List.mem_append_right _ h))))
set_option maxHeartbeats 4000000 in
set_option maxRecDepth 100000 in
/-- takings -/
theorem c_X5_takings (l : Launch) (dC : Nat → ClassId) (dI : Nat → Nat → Nat) (sz : Nat) (L : List Nat) (f : Nat → va_E) (h0 : Nat) (sea : Nat) (pas : Nat) (fl : Nat) (fc : Nat) (xlf : Int32) (xhr : Int32) (xho : Int32) (xga : Int32) (xsg : Int32) (xpr : Int32) (xfa : Int32) (xls : Int64) (cB : ClassId) (own : Nat → Nat) (te : Nat) (cO : ClassId) (rr : Nat → Nat) (cw : Nat → Nat → Int32) (n : Nat) (sa : Nat → Nat) (V : Nat → Nat → Int32) (oa : Nat → Nat) (ia : Nat → Nat) (nO : Nat → Nat) (OW : Nat → Nat → Nat → Int32) (nS : Nat → Nat) (SW : Nat → Nat → Nat → Int32) (a : Nat) (oa1 : Nat) (ia1 : Nat) (v : Nat → Int32) (i_xpr : 1 ≤ xpr.toInt ∧ xpr.toInt ≤ 10000) (i_xfa : 0 ≤ xfa.toInt ∧ xfa.toInt ≤ 1000) (hch : ∀ i : Nat, i < n → 0 ≤ (V i 2).toInt ∧ (V i 2).toInt ≤ 20000) (hsh : a ∈ L ∧ f a = .inr (4, [.int (v 0), .int (v 1), .int (v 2), .ref oa1, .ref ia1, .int (v 3), .int (v 4), .int (v 5), .int (v 6), .int (v 7), .int (v 8), .int (v 9), .int (v 10), .int (v 11)])) (inv : Inv L f own te cO cB rr cw fl n sa V oa ia nO OW nS SW) : Met l yX5_takings wsX5_takings ({ frames := 4, cells := 0, slots := 0, locals := 88 }) (va_Pc [.ref h0, .ref a] (fun U => U.heap.size = sz ∧ va_P (dC, dI) vwCl (([(h0, .inr (6, [.ref sea, .ref pas, .ref fl, .ref fc, .int xlf, .int xhr, .int xho, .int xga, .int xsg, .int xpr, .int xfa, .long xls]))] : va_W) ++ va_pl L f) U.heap ∧ va_K (dC, dI) vwCl [(cO, .object "java/lang/Object")] U ∧ NW U)) (va_Ql (fun (r : Int64) (_ : Unit) => (r = Int64.ofInt ((v 2).toInt * priceF xpr.toInt xfa.toInt (befG (fun i => (V i 9).toInt) (fun i => (V i 8).toInt) (fun i => (V i 2).toInt) (fun i => (V i 0).toInt) (v 9).toInt (v 0).toInt n)))) (fun _ _ => True) (va_A [] sz)) 0 0 (va_A [] sz) := by
  refine Met.ofW (cc := cX5_takings) (maxL := 2) (ret := (some .long)) (by decide) rfl ?_
  intro p e s m args below meth c s₁ B hml hv
  obtain ⟨rfl, hsz, hP, hK, hN⟩ := hv
  have hx := B.exec
  have hb := B.bytes
  have hr := B.returns
  have hts := atoms_spec (ws := wsX5_takings) B.pre
  have hown : s.vm.findClass RX5 = some m.cls := findClass_of_methodNamed B.named
  have hlocks := B.notSynchronized
  subst hsz
  generalize hAe : va_A [] s.heap.size = A at ⊢
  have hA : ∀ q : Nat, s.heap.size ≤ q → A q := fun q h => by rw [← hAe]; exact Or.inr h
  have hS : va_S A s.heap s.heap [] := va_S.rf
  have hP : va_P (dC, dI) vwCl (([(h0, .inr (6, [.ref sea, .ref pas, .ref fl, .ref fc, .int xlf, .int xhr, .int xho, .int xga, .int xsg, .int xpr, .int xfa, .long xls]))] : va_W) ++ va_pl L f) s.heap := hP
  have hl := lv_entry ([.ref h0, .ref a]) (n := 2) (Nat.le_of_ble_eq_true rfl)
  rw [lg_entry_eq]
  generalize (lg_sl ([.ref h0, .ref a]) ++ List.replicate (2 - (lg_sl ([.ref h0, .ref a])).length) Slot.unset).toArray = ls at hl ⊢
  have hl : lv_has ls 2 [(0, .ref h0), (1, .ref a)] := hl
  refine lv_aload_n hx hb dX5_takings_0 rfl (lv_at hl 1 rfl) ?_
  obtain ⟨k9_1, hk9_1⟩ : ∃ k : Nat, (([(h0, .inr (6, [.ref sea, .ref pas, .ref fl, .ref fc, .int xlf, .int xhr, .int xho, .int xga, .int xsg, .int xpr, .int xfa, .long xls]))] : va_W) ++ va_pl L f)[k]? = some (a, .inr (4, [.int (v 0), .int (v 1), .int (v 2), .ref oa1, .ref ia1, .int (v 3), .int (v 4), .int (v 5), .int (v 6), .int (v 7), .int (v 8), .int (v 9), .int (v 10), .int (v 11)])) := pl_at hsh.1 hsh.2
  refine va_get (D := (dC, dI)) (ci := 4) (v := .int (v 2)) (C := RX3) (T := TX3) (N := 14) hx hb hts iw_X5_takings_X3 hown hK hP k9_1 hk9_1 rfl 2 (by decide) (hts (.fieldLink RX5 147 "TeaRace$Ship" "chests" "I") (by decide +kernel)) (fun _ h9 => h9) rfl dX5_takings_1 ?_
  refine lv_i2l (v := (v 2).toInt64) hx hb dX5_takings_4 rfl ?_
  refine lv_aload_n hx hb dX5_takings_5 rfl (lv_at hl 0 rfl) ?_
  refine lv_aload_n hx hb dX5_takings_6 rfl (lv_at hl 1 rfl) ?_
  have hPc : va_P (dC, dI) vwCl (([(h0, .inr (6, [.ref sea, .ref pas, .ref fl, .ref fc, .int xlf, .int xhr, .int xho, .int xga, .int xsg, .int xpr, .int xfa, .long xls]))] : va_W) ++ va_pl L f) s.heap := va_P.part (X := [(h0, .inr (6, [.ref sea, .ref pas, .ref fl, .ref fc, .int xlf, .int xhr, .int xho, .int xga, .int xsg, .int xpr, .int xfa, .long xls]))]) hP [0] rfl
  have hKc := hK.sub (tys' := [(cO, .object "java/lang/Object")]) [0] rfl
  refine va_calli (va_runV (As := [.ref a]) (rest := [.long ((v 2).toInt64)]) ⟨hx, hb, hml, hown, hts⟩ (c_X5_priceAtEntry l dC dI s.heap.size L f h0 sea pas fl fc xlf xhr xho xga xsg xpr xfa xls cB own te cO rr cw n sa V oa ia nO OW nS SW a oa1 ia1 v ⟨(by omega), (by omega)⟩ ⟨(by omega), (by omega)⟩ hch ⟨hsh.1, hsh.2⟩ inv) (cwV 1 hts gX5_takings_X5_priceAtEntry rfl rfl rfl (by decide +kernel) ⟨Nat.le_of_ble_eq_true rfl, Nat.le_of_ble_eq_true rfl⟩) ⟨fun a U g mk q => by obtain ⟨q0, q1, qP, qK, qN⟩ := q; exact ⟨q0, q1, qP, va_K.moved (u := U) (U := U.calling g mk a) (Vm.Alike.refl U.vm) qK, NW.same (u := U) (U := U.calling g mk a) rfl qN⟩, va_recv hKc hPc (ci := 6) (q0 := 0) rfl rfl, fun U hU hW => ⟨rfl, by rw [hU], by rw [hU]; exact hPc, va_K.moved hW.alike hKc, NW.warm hW hN⟩⟩ rfl rfl hl.1 rfl (lv_room (Nat.le_of_ble_eq_true rfl)) dX5_takings_7 ⟨(Nat.zero_le _), (Nat.zero_le _)⟩) hS (fun q _ h => ro_A hS hA q h) (ro_A hS hA) (fun r_2 u t H1 locs ht hvm k_3 hB hz1 hk1 hS => ?_)
  have hP := ro_P hk1 hP
  generalize H1 = H at hP hS ⊢
  try dsimp only at k_3
  obtain ⟨k_3, k_4⟩ := k_3
  refine lv_i2l (v := r_2.toInt64) hx hb dX5_takings_10 rfl ?_
  refine lv_lmul hx hb dX5_takings_11 ?_
  refine lv_topl (fun w_5 ew_5 => ?_)
  exact W.lret (v := w_5) hx hb hr (fun t ht hW => ⟨⟨w_5, (), rfl, (by rw [← k_3, ew_5, lm64]), trivial⟩, hS.F ht⟩) hS.2.2 dX5_takings_12
set_option maxRecDepth 20000 in
theorem iw_X5_distanceFromHome_X5 : ∀ w ∈ wsX50, w ∈ wsX5_distanceFromHome := fun w h => (List.mem_cons_of_mem _ (List.mem_append_right _ h))
set_option maxHeartbeats 4000000 in
set_option maxRecDepth 100000 in
/-- distanceFromHome -/
theorem c_X5_distanceFromHome (l : Launch) (dC : Nat → ClassId) (dI : Nat → Nat → Nat) (sz : Nat) (h0 : Nat) (sea : Nat) (pas : Nat) (fl : Nat) (fc : Nat) (xlf : Int32) (xhr : Int32) (xho : Int32) (xga : Int32) (xsg : Int32) (xpr : Int32) (xfa : Int32) (xls : Int64) (a0 : Int32)  : Met l yX5_distanceFromHome wsX5_distanceFromHome ({ frames := 1, cells := 0, slots := 0, locals := 21 }) (va_Pc [.ref h0, .int a0] (fun U => U.heap.size = sz ∧ va_P (dC, dI) vwCl [(h0, .inr (6, [.ref sea, .ref pas, .ref fl, .ref fc, .int xlf, .int xhr, .int xho, .int xga, .int xsg, .int xpr, .int xfa, .long xls]))] U.heap ∧ va_K (dC, dI) vwCl [] U ∧ NW U)) (va_Qi (fun (r : Int32) (_ : Unit) => ((0 ≤ a0.toInt ∧ a0.toInt ≤ 159) ∧ (0 ≤ xho.toInt ∧ xho.toInt ≤ 159) → r.toInt = farI a0.toInt xho.toInt)) (fun _ _ => True) (va_A [] sz)) 0 0 (va_A [] sz) := by
  refine Met.ofW (cc := cX5_distanceFromHome) (maxL := 4) (ret := (some .int)) (by decide) rfl ?_
  intro p e s m args below meth c s₁ B hml hv
  obtain ⟨rfl, hsz, hP, hK, hN⟩ := hv
  have hx := B.exec
  have hb := B.bytes
  have hr := B.returns
  have hts := atoms_spec (ws := wsX5_distanceFromHome) B.pre
  have hown : s.vm.findClass RX5 = some m.cls := findClass_of_methodNamed B.named
  have hlocks := B.notSynchronized
  subst hsz
  generalize hAe : va_A [] s.heap.size = A at ⊢
  have hA : ∀ q : Nat, s.heap.size ≤ q → A q := fun q h => by rw [← hAe]; exact Or.inr h
  have hS : va_S A s.heap s.heap [] := va_S.rf
  have hP : va_P (dC, dI) vwCl [(h0, .inr (6, [.ref sea, .ref pas, .ref fl, .ref fc, .int xlf, .int xhr, .int xho, .int xga, .int xsg, .int xpr, .int xfa, .long xls]))] s.heap := hP
  have hl := lv_entry ([.ref h0, .int a0]) (n := 4) (Nat.le_of_ble_eq_true rfl)
  rw [lg_entry_eq]
  generalize (lg_sl ([.ref h0, .int a0]) ++ List.replicate (4 - (lg_sl ([.ref h0, .int a0])).length) Slot.unset).toArray = ls at hl ⊢
  have hl : lv_has ls 4 [(0, .ref h0), (1, .int a0)] := hl
  refine lv_iload_n hx hb dX5_distanceFromHome_0 rfl (lv_at hl 1 rfl) ?_
  refine lv_bipush (v := 16) hx hb dX5_distanceFromHome_1 (by decide) ?_
  refine lv_irem hx hb dX5_distanceFromHome_3 (by decide) ?_
  refine lv_topi (fun x_1 ex_1 => ?_)
  have tx_1 := fb_rng x_1
  refine lv_aload_n hx hb dX5_distanceFromHome_4 rfl (lv_at hl 0 rfl) ?_
  refine va_get (D := (dC, dI)) (ci := 6) (v := .int xho) (C := RX5) (T := TX5) (N := 12) hx hb hts iw_X5_distanceFromHome_X5 hown hK hP 0 rfl rfl 6 (by decide) (hts (.fieldLink RX5 41 "TeaRace" "homeCell" "I") (by decide +kernel)) (fun _ h9 => h9) rfl dX5_distanceFromHome_5 ?_
  refine lv_bipush (v := 16) hx hb dX5_distanceFromHome_8 (by decide) ?_
  refine lv_irem hx hb dX5_distanceFromHome_10 (by decide) ?_
  refine lv_topi (fun x_2 ex_2 => ?_)
  have tx_2 := fb_rng x_2
  refine lv_isub hx hb dX5_distanceFromHome_11 ?_
  refine lv_topi (fun x_3 ex_3 => ?_)
  refine va_mabs hx hb (hml.trans hl.1.symm) hown (hts (.methodLink RX5 251 Lib.Math.abs.name) (by decide +kernel)) (hts (.static Lib.Math.abs.name) (by decide +kernel)) (hts (.initialized "java/lang/Math") (by decide +kernel)) (hts (.code Lib.Math.abs.name Lib.Math.abs.code 1 (some .int)) (by decide +kernel)) (Nat.le_of_ble_eq_true rfl) (Nat.le_of_ble_eq_true rfl) (Nat.le_of_ble_eq_true rfl) (Nat.le_of_ble_eq_true rfl) dX5_distanceFromHome_12 ?_
  refine lv_topi (fun x_4 ex_4 => ?_)
  refine lv_istore_n (lv' := [(2, .int x_4), (0, .ref h0), (1, .int a0)]) hx hb dX5_distanceFromHome_15 rfl hl (by decide) rfl (fun ls hl => ?_)
  refine lv_iload_n hx hb dX5_distanceFromHome_16 rfl (lv_at hl 2 rfl) ?_
  refine lv_bipush (v := 16) hx hb dX5_distanceFromHome_17 (by decide) ?_
  refine lv_idiv hx hb dX5_distanceFromHome_19 (by decide) ?_
  refine lv_topi (fun x_5 ex_5 => ?_)
  have tx_5 := fb_rng x_5
  refine lv_aload_n hx hb dX5_distanceFromHome_20 rfl (lv_at hl 1 rfl) ?_
  refine va_get (D := (dC, dI)) (ci := 6) (v := .int xho) (C := RX5) (T := TX5) (N := 12) hx hb hts iw_X5_distanceFromHome_X5 hown hK hP 0 rfl rfl 6 (by decide) (hts (.fieldLink RX5 41 "TeaRace" "homeCell" "I") (by decide +kernel)) (fun _ h9 => h9) rfl dX5_distanceFromHome_21 ?_
  refine lv_bipush (v := 16) hx hb dX5_distanceFromHome_24 (by decide) ?_
  refine lv_idiv hx hb dX5_distanceFromHome_26 (by decide) ?_
  refine lv_topi (fun x_6 ex_6 => ?_)
  have tx_6 := fb_rng x_6
  refine lv_isub hx hb dX5_distanceFromHome_27 ?_
  refine lv_topi (fun x_7 ex_7 => ?_)
  refine va_mabs hx hb (hml.trans hl.1.symm) hown (hts (.methodLink RX5 251 Lib.Math.abs.name) (by decide +kernel)) (hts (.static Lib.Math.abs.name) (by decide +kernel)) (hts (.initialized "java/lang/Math") (by decide +kernel)) (hts (.code Lib.Math.abs.name Lib.Math.abs.code 1 (some .int)) (by decide +kernel)) (Nat.le_of_ble_eq_true rfl) (Nat.le_of_ble_eq_true rfl) (Nat.le_of_ble_eq_true rfl) (Nat.le_of_ble_eq_true rfl) dX5_distanceFromHome_28 ?_
  refine lv_topi (fun x_8 ex_8 => ?_)
  refine lv_istore_n (lv' := [(3, .int x_8), (2, .int x_4), (0, .ref h0), (1, .int a0)]) hx hb dX5_distanceFromHome_31 rfl hl (by decide) rfl (fun ls hl => ?_)
  refine lv_iload_n hx hb dX5_distanceFromHome_32 rfl (lv_at hl 1 rfl) ?_
  refine lv_iload_n hx hb dX5_distanceFromHome_33 rfl (lv_at hl 0 rfl) ?_
  refine va_mmax hx hb (hml.trans hl.1.symm) hown (hts (.methodLink RX5 288 Lib.Math.max.name) (by decide +kernel)) (hts (.static Lib.Math.max.name) (by decide +kernel)) (hts (.initialized "java/lang/Math") (by decide +kernel)) (hts (.code Lib.Math.max.name Lib.Math.max.code 2 (some .int)) (by decide +kernel)) (Nat.le_of_ble_eq_true rfl) (Nat.le_of_ble_eq_true rfl) (Nat.le_of_ble_eq_true rfl) (Nat.le_of_ble_eq_true rfl) dX5_distanceFromHome_34 ?_
  refine lv_topi (fun x_9 ex_9 => ?_)
  exact W.iret (v := x_9) hx hb hr (fun t ht hW => ⟨⟨x_9, (), rfl, (fun h => by have h1 : x_1.toInt = a0.toInt % 16 := rm_k ex_1 rfl (by decide) (by omega) (by omega); have h2 : x_2.toInt = xho.toInt % 16 := rm_k ex_2 rfl (by decide) (by omega) (by omega); have h3 : x_3.toInt = x_1.toInt - x_2.toInt := su_k ex_3 rfl rfl (by omega) (by omega); have h4 : x_4.toInt = absI x_3.toInt := ab_k ex_4 (by omega); have h5 : x_5.toInt = a0.toInt / 16 := dv_k ex_5 rfl (by decide) (by omega) (by omega); have h6 : x_6.toInt = xho.toInt / 16 := dv_k ex_6 rfl (by decide) (by omega) (by omega); have h7 : x_7.toInt = x_5.toInt - x_6.toInt := su_k ex_7 rfl rfl (by omega) (by omega); have h8 : x_8.toInt = absI x_7.toInt := ab_k ex_8 (by omega); have h9 := ma_k ex_9; rw [h9, h4, h8, h3, h7, h1, h2, h5, h6]; rfl), trivial⟩, hS.F ht⟩) hS.2.2 dX5_distanceFromHome_37
set_option maxRecDepth 20000 in
theorem iw_X5_leastDistance_X4 : ∀ w ∈ wsX40, w ∈ wsX5_leastDistance := fun w h => (List.mem_cons_of_mem _ (List.mem_append_left _ (List.mem_append_left _ (List.mem_append_left _ (List.mem_append_right _ h)))))
set_option maxHeartbeats 4000000 in
set_option maxRecDepth 100000 in
/-- leastDistance -/
theorem c_X5_leastDistance (l : Launch) (dC : Nat → ClassId) (dI : Nat → Nat → Nat) (sz : Nat) (L : List Nat) (f : Nat → va_E) (h0 : Nat) (sea : Nat) (pas : Nat) (fl : Nat) (fc : Nat) (xlf : Int32) (xhr : Int32) (xho : Int32) (xga : Int32) (xsg : Int32) (xpr : Int32) (xfa : Int32) (xls : Int64) (a : Nat) (oa1 : Nat) (ia1 : Nat) (v : Nat → Int32) (nS1 : Nat) (SW1 : Nat → Nat → Int32) (te : Nat) (cO : ClassId) (a0 : Int32) (hsh : a ∈ L ∧ f a = .inr (4, [.int (v 0), .int (v 1), .int (v 2), .ref oa1, .ref ia1, .int (v 3), .int (v 4), .int (v 5), .int (v 6), .int (v 7), .int (v 8), .int (v 9), .int (v 10), .int (v 11)])) (hsig : Sigs L f te cO ia1 nS1 SW1) : Met l yX5_leastDistance wsX5_leastDistance ({ frames := 4, cells := 0, slots := 0, locals := 88 }) (va_Pc [.ref h0, .ref a, .int a0] (fun U => U.heap.size = sz ∧ va_P (dC, dI) vwCl (([(h0, .inr (6, [.ref sea, .ref pas, .ref fl, .ref fc, .int xlf, .int xhr, .int xho, .int xga, .int xsg, .int xpr, .int xfa, .long xls]))] : va_W) ++ va_pl L f) U.heap ∧ va_K (dC, dI) vwCl [(cO, .object "java/lang/Object")] U ∧ NW U)) (va_Qi (fun (r : Int32) (_ : Unit) => (NoBef SW1 nS1 a0.toInt ∨ NoBeh SW1 nS1 a0.toInt → r = (-9)) ∧ (SWR SW1 nS1 ∧ (0 ≤ a0.toInt ∧ a0.toInt ≤ 100000) ∧ (0 ≤ xho.toInt ∧ xho.toInt ≤ 159) → ∀ k k', BefK SW1 nS1 a0.toInt k → BehK SW1 nS1 a0.toInt k' → r.toInt = leastV (farI (SW1 k 0).toInt xho.toInt) (farI (SW1 k' 0).toInt xho.toInt) (SW1 k 1).toInt (SW1 k' 1).toInt a0.toInt)) (fun _ _ => True) (va_A [] sz)) 0 0 (va_A [] sz) := by
  refine Met.ofW (cc := cX5_leastDistance) (maxL := 7) (ret := (some .int)) (by decide) rfl ?_
  intro p e s m args below meth c s₁ B hml hv
  obtain ⟨rfl, hsz, hP, hK, hN⟩ := hv
  have hx := B.exec
  have hb := B.bytes
  have hr := B.returns
  have hts := atoms_spec (ws := wsX5_leastDistance) B.pre
  have hown : s.vm.findClass RX5 = some m.cls := findClass_of_methodNamed B.named
  have hlocks := B.notSynchronized
  subst hsz
  generalize hAe : va_A [] s.heap.size = A at ⊢
  have hA : ∀ q : Nat, s.heap.size ≤ q → A q := fun q h => by rw [← hAe]; exact Or.inr h
  have hS : va_S A s.heap s.heap [] := va_S.rf
  have hP : va_P (dC, dI) vwCl (([(h0, .inr (6, [.ref sea, .ref pas, .ref fl, .ref fc, .int xlf, .int xhr, .int xho, .int xga, .int xsg, .int xpr, .int xfa, .long xls]))] : va_W) ++ va_pl L f) s.heap := hP
  have hl := lv_entry ([.ref h0, .ref a, .int a0]) (n := 7) (Nat.le_of_ble_eq_true rfl)
  rw [lg_entry_eq]
  generalize (lg_sl ([.ref h0, .ref a, .int a0]) ++ List.replicate (7 - (lg_sl ([.ref h0, .ref a, .int a0])).length) Slot.unset).toArray = ls at hl ⊢
  have hl : lv_has ls 7 [(0, .ref h0), (1, .ref a), (2, .int a0)] := hl
  refine lv_aload_n hx hb dX5_leastDistance_0 rfl (lv_at hl 1 rfl) ?_
  refine lv_iload_n hx hb dX5_leastDistance_1 rfl (lv_at hl 2 rfl) ?_
  have hPc : va_P (dC, dI) vwCl (([] : va_W) ++ va_pl L f) s.heap := va_P.part (X := [(h0, .inr (6, [.ref sea, .ref pas, .ref fl, .ref fc, .int xlf, .int xhr, .int xho, .int xga, .int xsg, .int xpr, .int xfa, .long xls]))]) hP [] rfl
  have hKc := hK.sub (tys' := [(cO, .object "java/lang/Object")]) [0] rfl
  obtain ⟨k8_1, hk8_1⟩ : ∃ k : Nat, (([] : va_W) ++ va_pl L f)[k]? = some (a, .inr (4, [.int (v 0), .int (v 1), .int (v 2), .ref oa1, .ref ia1, .int (v 3), .int (v 4), .int (v 5), .int (v 6), .int (v 7), .int (v 8), .int (v 9), .int (v 10), .int (v 11)])) := pl_at hsh.1 hsh.2
  refine va_callq (va_runV (As := [.int a0]) (rest := []) ⟨hx, hb, hml, hown, hts⟩ (c_X3_lastSightBy l dC dI s.heap.size L f a oa1 ia1 v te cO nS1 SW1 a0 ⟨hsh.1, hsh.2⟩ hsig) (cwV 1 hts gX5_leastDistance_X3_lastSightBy rfl rfl rfl (by decide +kernel) ⟨Nat.le_of_ble_eq_true rfl, Nat.le_of_ble_eq_true rfl⟩) ⟨fun a U g mk q => by obtain ⟨q0, q1, qP, qK, qN⟩ := q; exact ⟨q0, q1, qP, va_K.moved (u := U) (U := U.calling g mk a) (Vm.Alike.refl U.vm) qK, NW.same (u := U) (U := U.calling g mk a) rfl qN⟩, va_recv hKc hPc (ci := 4) (q0 := k8_1) rfl hk8_1, fun U hU hW => ⟨rfl, by rw [hU], by rw [hU]; exact hPc, va_K.moved hW.alike hKc, NW.warm hW hN⟩⟩ rfl rfl hl.1 rfl (lv_room (Nat.le_of_ble_eq_true rfl)) dX5_leastDistance_2 ⟨(Nat.zero_le _), (Nat.zero_le _)⟩) hS (fun q _ h => ro_A hS hA q h) (ro_A hS hA) (fun r_2 u t H1 locs ht hvm k_3 hB hz1 hk1 hS => ?_)
  have hP := ro_P hk1 hP
  generalize H1 = H at hP hS ⊢
  try dsimp only at k_3
  obtain ⟨k_3, k_4⟩ := k_3
  rcases r_2 with _ | q_5
  · skip
    refine W.eq (g2 := F0 m 5 ls [.null]) rfl ?_
    have hno_6 := k_4 rfl
    refine lv_astore_nN (lv' := [(3, .null), (0, .ref h0), (1, .ref a), (2, .int a0)]) hx hb dX5_leastDistance_5 rfl hl (by decide) rfl (fun ls hl => ?_)
    refine lv_aload_n hx hb dX5_leastDistance_6 rfl (lv_at hl 2 rfl) ?_
    refine lv_iload_n hx hb dX5_leastDistance_7 rfl (lv_at hl 3 rfl) ?_
    have hPc : va_P (dC, dI) vwCl (([] : va_W) ++ va_pl L f) H := va_P.part (X := [(h0, .inr (6, [.ref sea, .ref pas, .ref fl, .ref fc, .int xlf, .int xhr, .int xho, .int xga, .int xsg, .int xpr, .int xfa, .long xls]))]) hP [] rfl
    have hKc := hK.sub (tys' := [(cO, .object "java/lang/Object")]) [0] rfl
    obtain ⟨k8_7, hk8_7⟩ : ∃ k : Nat, (([] : va_W) ++ va_pl L f)[k]? = some (a, .inr (4, [.int (v 0), .int (v 1), .int (v 2), .ref oa1, .ref ia1, .int (v 3), .int (v 4), .int (v 5), .int (v 6), .int (v 7), .int (v 8), .int (v 9), .int (v 10), .int (v 11)])) := pl_at hsh.1 hsh.2
    refine va_callq (va_runV (As := [.int a0]) (rest := []) ⟨hx, hb, hml, hown, hts⟩ (c_X3_firstSightFrom l dC dI H.size L f a oa1 ia1 v te cO nS1 SW1 a0 ⟨hsh.1, hsh.2⟩ hsig) (cwV 1 hts gX5_leastDistance_X3_firstSightFrom rfl rfl rfl (by decide +kernel) ⟨Nat.le_of_ble_eq_true rfl, Nat.le_of_ble_eq_true rfl⟩) ⟨fun a U g mk q => by obtain ⟨q0, q1, qP, qK, qN⟩ := q; exact ⟨q0, q1, qP, va_K.moved (u := U) (U := U.calling g mk a) (Vm.Alike.refl U.vm) qK, NW.same (u := U) (U := U.calling g mk a) rfl qN⟩, va_recv hKc hPc (ci := 4) (q0 := k8_7) rfl hk8_7, fun U hU hW => ⟨rfl, by rw [hU], by rw [hU]; exact hPc, va_K.moved hW.alike hKc, NW.warm hW hN⟩⟩ rfl rfl hl.1 rfl (lv_room (Nat.le_of_ble_eq_true rfl)) dX5_leastDistance_8 ⟨(Nat.zero_le _), (Nat.zero_le _)⟩) hS (fun q _ h => ro_A hS hA q h) (ro_A hS hA) (fun r_8 u t H1 locs ht hvm k_9 hB hz1 hk1 hS => ?_)
    have hP := ro_P hk1 hP
    generalize H1 = H at hP hS ⊢
    try dsimp only at k_9
    obtain ⟨k_9, k_10⟩ := k_9
    rcases r_8 with _ | q_11
    · skip
      refine W.eq (g2 := F0 m 11 ls [.null]) rfl ?_
      have hno_12 := k_10 rfl
      refine lv_astoreN (lv' := [(4, .null), (3, .null), (0, .ref h0), (1, .ref a), (2, .int a0)]) hx hb dX5_leastDistance_11 hl (by decide) rfl (fun ls hl => ?_)
      refine lv_aload_nN hx hb dX5_leastDistance_13 rfl (lv_at hl 1 rfl) ?_
      refine lv_ifnullN (tgt := 22) hx hb dX5_leastDistance_14 (by decide) ?_
      refine lv_bipush (v := (-9)) hx hb dX5_leastDistance_22 (by decide) ?_
      have hv9 : (-9 : Int32).toInt = (-9) := by decide
      exact W.iret (v := (-9)) hx hb hr (fun t ht hW => ⟨⟨(-9), (), rfl, ⟨(fun _ => rfl), (fun _ k k' h1 h2 => absurd trivial (fun _ => by have := hno_6 k h1.1; have := h1.2.1; omega))⟩, trivial⟩, hS.F ht⟩) hS.2.2 dX5_leastDistance_24
    · skip
      refine W.eq (g2 := F0 m 11 ls [.ref q_11]) rfl ?_
      obtain ⟨hm_15, k9_13, hz_14, hb_16⟩ := k_9 q_11 rfl
      refine lv_astore (lv' := [(4, .ref q_11), (3, .null), (0, .ref h0), (1, .ref a), (2, .int a0)]) hx hb dX5_leastDistance_11 hl (by decide) rfl (fun ls hl => ?_)
      refine lv_aload_nN hx hb dX5_leastDistance_13 rfl (lv_at hl 1 rfl) ?_
      refine lv_ifnullN (tgt := 22) hx hb dX5_leastDistance_14 (by decide) ?_
      refine lv_bipush (v := (-9)) hx hb dX5_leastDistance_22 (by decide) ?_
      have hv9 : (-9 : Int32).toInt = (-9) := by decide
      exact W.iret (v := (-9)) hx hb hr (fun t ht hW => ⟨⟨(-9), (), rfl, ⟨(fun _ => rfl), (fun _ k k' h1 h2 => absurd trivial (fun _ => by have := hno_6 k h1.1; have := h1.2.1; omega))⟩, trivial⟩, hS.F ht⟩) hS.2.2 dX5_leastDistance_24
  · skip
    refine W.eq (g2 := F0 m 5 ls [.ref q_5]) rfl ?_
    obtain ⟨hm_19, k9_17, hz_18, hb_20⟩ := k_3 q_5 rfl
    refine lv_astore_n (lv' := [(3, .ref q_5), (0, .ref h0), (1, .ref a), (2, .int a0)]) hx hb dX5_leastDistance_5 rfl hl (by decide) rfl (fun ls hl => ?_)
    refine lv_aload_n hx hb dX5_leastDistance_6 rfl (lv_at hl 2 rfl) ?_
    refine lv_iload_n hx hb dX5_leastDistance_7 rfl (lv_at hl 3 rfl) ?_
    have hPc : va_P (dC, dI) vwCl (([] : va_W) ++ va_pl L f) H := va_P.part (X := [(h0, .inr (6, [.ref sea, .ref pas, .ref fl, .ref fc, .int xlf, .int xhr, .int xho, .int xga, .int xsg, .int xpr, .int xfa, .long xls]))]) hP [] rfl
    have hKc := hK.sub (tys' := [(cO, .object "java/lang/Object")]) [0] rfl
    obtain ⟨k8_21, hk8_21⟩ : ∃ k : Nat, (([] : va_W) ++ va_pl L f)[k]? = some (a, .inr (4, [.int (v 0), .int (v 1), .int (v 2), .ref oa1, .ref ia1, .int (v 3), .int (v 4), .int (v 5), .int (v 6), .int (v 7), .int (v 8), .int (v 9), .int (v 10), .int (v 11)])) := pl_at hsh.1 hsh.2
    refine va_callq (va_runV (As := [.int a0]) (rest := []) ⟨hx, hb, hml, hown, hts⟩ (c_X3_firstSightFrom l dC dI H.size L f a oa1 ia1 v te cO nS1 SW1 a0 ⟨hsh.1, hsh.2⟩ hsig) (cwV 1 hts gX5_leastDistance_X3_firstSightFrom rfl rfl rfl (by decide +kernel) ⟨Nat.le_of_ble_eq_true rfl, Nat.le_of_ble_eq_true rfl⟩) ⟨fun a U g mk q => by obtain ⟨q0, q1, qP, qK, qN⟩ := q; exact ⟨q0, q1, qP, va_K.moved (u := U) (U := U.calling g mk a) (Vm.Alike.refl U.vm) qK, NW.same (u := U) (U := U.calling g mk a) rfl qN⟩, va_recv hKc hPc (ci := 4) (q0 := k8_21) rfl hk8_21, fun U hU hW => ⟨rfl, by rw [hU], by rw [hU]; exact hPc, va_K.moved hW.alike hKc, NW.warm hW hN⟩⟩ rfl rfl hl.1 rfl (lv_room (Nat.le_of_ble_eq_true rfl)) dX5_leastDistance_8 ⟨(Nat.zero_le _), (Nat.zero_le _)⟩) hS (fun q _ h => ro_A hS hA q h) (ro_A hS hA) (fun r_22 u t H1 locs ht hvm k_23 hB hz1 hk1 hS => ?_)
    have hP := ro_P hk1 hP
    generalize H1 = H at hP hS ⊢
    try dsimp only at k_23
    obtain ⟨k_23, k_24⟩ := k_23
    rcases r_22 with _ | q_25
    · skip
      refine W.eq (g2 := F0 m 11 ls [.null]) rfl ?_
      have hno_26 := k_24 rfl
      refine lv_astoreN (lv' := [(4, .null), (3, .ref q_5), (0, .ref h0), (1, .ref a), (2, .int a0)]) hx hb dX5_leastDistance_11 hl (by decide) rfl (fun ls hl => ?_)
      refine lv_aload_n hx hb dX5_leastDistance_13 rfl (lv_at hl 1 rfl) ?_
      refine lv_ifnull hx hb dX5_leastDistance_14 ?_
      refine lv_aloadN hx hb dX5_leastDistance_17 (lv_at hl 0 rfl) ?_
      refine lv_ifnonnullN hx hb dX5_leastDistance_19 ?_
      refine lv_bipush (v := (-9)) hx hb dX5_leastDistance_22 (by decide) ?_
      have hv9 : (-9 : Int32).toInt = (-9) := by decide
      exact W.iret (v := (-9)) hx hb hr (fun t ht hW => ⟨⟨(-9), (), rfl, ⟨(fun _ => rfl), (fun _ k k' h1 h2 => absurd trivial (fun _ => by have := hno_26 k' h2.1; have := h2.2.1; omega))⟩, trivial⟩, hS.F ht⟩) hS.2.2 dX5_leastDistance_24
    · skip
      refine W.eq (g2 := F0 m 11 ls [.ref q_25]) rfl ?_
      obtain ⟨hm_29, k9_27, hz_28, hb_30⟩ := k_23 q_25 rfl
      refine lv_astore (lv' := [(4, .ref q_25), (3, .ref q_5), (0, .ref h0), (1, .ref a), (2, .int a0)]) hx hb dX5_leastDistance_11 hl (by decide) rfl (fun ls hl => ?_)
      refine lv_aload_n hx hb dX5_leastDistance_13 rfl (lv_at hl 1 rfl) ?_
      refine lv_ifnull hx hb dX5_leastDistance_14 ?_
      refine lv_aload hx hb dX5_leastDistance_17 (lv_at hl 0 rfl) ?_
      refine lv_ifnonnull (tgt := 25) hx hb dX5_leastDistance_19 (by decide) ?_
      refine lv_aload_n hx hb dX5_leastDistance_25 rfl (lv_at hl 2 rfl) ?_
      refine lv_aload_n hx hb dX5_leastDistance_26 rfl (lv_at hl 1 rfl) ?_
      obtain ⟨k9_31, hk9_31⟩ : ∃ k : Nat, (([(h0, .inr (6, [.ref sea, .ref pas, .ref fl, .ref fc, .int xlf, .int xhr, .int xho, .int xga, .int xsg, .int xpr, .int xfa, .long xls]))] : va_W) ++ va_pl L f)[k]? = some (q_5, .inr (5, [.int (SW1 k9_17 0), .int (SW1 k9_17 1)])) := pl_at hm_19 hz_18
      refine va_get (D := (dC, dI)) (ci := 5) (v := .int (SW1 k9_17 0)) (C := RX4) (T := TX4) (N := 2) hx hb hts iw_X5_leastDistance_X4 hown hK hP k9_31 hk9_31 rfl 0 (by decide) (hts (.fieldLink RX5 298 "TeaRace$Sight" "cell" "I") (by decide +kernel)) (fun _ h9 => h9) rfl dX5_leastDistance_27 ?_
      have hPc := hP.sub (ws' := [(h0, .inr (6, [.ref sea, .ref pas, .ref fl, .ref fc, .int xlf, .int xhr, .int xho, .int xga, .int xsg, .int xpr, .int xfa, .long xls]))]) [0] rfl
      have hKc := hK.sub (tys' := []) [] rfl
      refine va_calli (va_runV (As := [.int (SW1 k9_17 0)]) (rest := []) ⟨hx, hb, hml, hown, hts⟩ (c_X5_distanceFromHome l dC dI H.size h0 sea pas fl fc xlf xhr xho xga xsg xpr xfa xls (SW1 k9_17 0) ) (cwV 1 hts gX5_leastDistance_X5_distanceFromHome rfl rfl rfl (by decide +kernel) ⟨Nat.le_of_ble_eq_true rfl, Nat.le_of_ble_eq_true rfl⟩) ⟨fun a U g mk q => by obtain ⟨q0, q1, qP, qK, qN⟩ := q; exact ⟨q0, q1, qP, va_K.moved (u := U) (U := U.calling g mk a) (Vm.Alike.refl U.vm) qK, NW.same (u := U) (U := U.calling g mk a) rfl qN⟩, va_recv hKc hPc (ci := 6) (q0 := 0) rfl rfl, fun U hU hW => ⟨rfl, by rw [hU], by rw [hU]; exact hPc, va_K.moved hW.alike hKc, NW.warm hW hN⟩⟩ rfl rfl hl.1 rfl (lv_room (Nat.le_of_ble_eq_true rfl)) dX5_leastDistance_30 ⟨(Nat.zero_le _), (Nat.zero_le _)⟩) hS (fun q _ h => ro_A hS hA q h) (ro_A hS hA) (fun r_32 u t H1 locs ht hvm k_33 hB hz1 hk1 hS => ?_)
      have hP := ro_P hk1 hP
      generalize H1 = H at hP hS ⊢
      try dsimp only at k_33
      refine lv_iload_n hx hb dX5_leastDistance_33 rfl (lv_at hl 4 rfl) ?_
      refine lv_aload_n hx hb dX5_leastDistance_34 rfl (lv_at hl 1 rfl) ?_
      obtain ⟨k9_34, hk9_34⟩ : ∃ k : Nat, (([(h0, .inr (6, [.ref sea, .ref pas, .ref fl, .ref fc, .int xlf, .int xhr, .int xho, .int xga, .int xsg, .int xpr, .int xfa, .long xls]))] : va_W) ++ va_pl L f)[k]? = some (q_5, .inr (5, [.int (SW1 k9_17 0), .int (SW1 k9_17 1)])) := pl_at hm_19 hz_18
      refine va_get (D := (dC, dI)) (ci := 5) (v := .int (SW1 k9_17 1)) (C := RX4) (T := TX4) (N := 2) hx hb hts iw_X5_leastDistance_X4 hown hK hP k9_34 hk9_34 rfl 1 (by decide) (hts (.fieldLink RX5 302 "TeaRace$Sight" "hour" "I") (by decide +kernel)) (fun _ h9 => h9) rfl dX5_leastDistance_35 ?_
      refine lv_isub hx hb dX5_leastDistance_38 ?_
      refine lv_topi (fun x_35 ex_35 => ?_)
      refine lv_isub hx hb dX5_leastDistance_39 ?_
      refine lv_topi (fun x_36 ex_36 => ?_)
      refine lv_istore (lv' := [(5, .int x_36), (4, .ref q_25), (3, .ref q_5), (0, .ref h0), (1, .ref a), (2, .int a0)]) hx hb dX5_leastDistance_40 hl (by decide) rfl (fun ls hl => ?_)
      refine lv_aload_n hx hb dX5_leastDistance_42 rfl (lv_at hl 3 rfl) ?_
      refine lv_aload hx hb dX5_leastDistance_43 (lv_at hl 1 rfl) ?_
      obtain ⟨k9_37, hk9_37⟩ : ∃ k : Nat, (([(h0, .inr (6, [.ref sea, .ref pas, .ref fl, .ref fc, .int xlf, .int xhr, .int xho, .int xga, .int xsg, .int xpr, .int xfa, .long xls]))] : va_W) ++ va_pl L f)[k]? = some (q_25, .inr (5, [.int (SW1 k9_27 0), .int (SW1 k9_27 1)])) := pl_at hm_29 hz_28
      refine va_get (D := (dC, dI)) (ci := 5) (v := .int (SW1 k9_27 0)) (C := RX4) (T := TX4) (N := 2) hx hb hts iw_X5_leastDistance_X4 hown hK hP k9_37 hk9_37 rfl 0 (by decide) (hts (.fieldLink RX5 298 "TeaRace$Sight" "cell" "I") (by decide +kernel)) (fun _ h9 => h9) rfl dX5_leastDistance_45 ?_
      have hPc := hP.sub (ws' := [(h0, .inr (6, [.ref sea, .ref pas, .ref fl, .ref fc, .int xlf, .int xhr, .int xho, .int xga, .int xsg, .int xpr, .int xfa, .long xls]))]) [0] rfl
      have hKc := hK.sub (tys' := []) [] rfl
      refine va_calli (va_runV (As := [.int (SW1 k9_27 0)]) (rest := []) ⟨hx, hb, hml, hown, hts⟩ (c_X5_distanceFromHome l dC dI H.size h0 sea pas fl fc xlf xhr xho xga xsg xpr xfa xls (SW1 k9_27 0) ) (cwV 1 hts gX5_leastDistance_X5_distanceFromHome rfl rfl rfl (by decide +kernel) ⟨Nat.le_of_ble_eq_true rfl, Nat.le_of_ble_eq_true rfl⟩) ⟨fun a U g mk q => by obtain ⟨q0, q1, qP, qK, qN⟩ := q; exact ⟨q0, q1, qP, va_K.moved (u := U) (U := U.calling g mk a) (Vm.Alike.refl U.vm) qK, NW.same (u := U) (U := U.calling g mk a) rfl qN⟩, va_recv hKc hPc (ci := 6) (q0 := 0) rfl rfl, fun U hU hW => ⟨rfl, by rw [hU], by rw [hU]; exact hPc, va_K.moved hW.alike hKc, NW.warm hW hN⟩⟩ rfl rfl hl.1 rfl (lv_room (Nat.le_of_ble_eq_true rfl)) dX5_leastDistance_48 ⟨(Nat.zero_le _), (Nat.zero_le _)⟩) hS (fun q _ h => ro_A hS hA q h) (ro_A hS hA) (fun r_38 u t H1 locs ht hvm k_39 hB hz1 hk1 hS => ?_)
      have hP := ro_P hk1 hP
      generalize H1 = H at hP hS ⊢
      try dsimp only at k_39
      refine lv_aload hx hb dX5_leastDistance_51 (lv_at hl 1 rfl) ?_
      obtain ⟨k9_40, hk9_40⟩ : ∃ k : Nat, (([(h0, .inr (6, [.ref sea, .ref pas, .ref fl, .ref fc, .int xlf, .int xhr, .int xho, .int xga, .int xsg, .int xpr, .int xfa, .long xls]))] : va_W) ++ va_pl L f)[k]? = some (q_25, .inr (5, [.int (SW1 k9_27 0), .int (SW1 k9_27 1)])) := pl_at hm_29 hz_28
      refine va_get (D := (dC, dI)) (ci := 5) (v := .int (SW1 k9_27 1)) (C := RX4) (T := TX4) (N := 2) hx hb hts iw_X5_leastDistance_X4 hown hK hP k9_40 hk9_40 rfl 1 (by decide) (hts (.fieldLink RX5 302 "TeaRace$Sight" "hour" "I") (by decide +kernel)) (fun _ h9 => h9) rfl dX5_leastDistance_53 ?_
      refine lv_iload_n hx hb dX5_leastDistance_56 rfl (lv_at hl 5 rfl) ?_
      refine lv_isub hx hb dX5_leastDistance_57 ?_
      refine lv_topi (fun x_41 ex_41 => ?_)
      refine lv_isub hx hb dX5_leastDistance_58 ?_
      refine lv_topi (fun x_42 ex_42 => ?_)
      refine lv_istore (lv' := [(6, .int x_42), (5, .int x_36), (4, .ref q_25), (3, .ref q_5), (0, .ref h0), (1, .ref a), (2, .int a0)]) hx hb dX5_leastDistance_59 hl (by decide) rfl (fun ls hl => ?_)
      refine lv_iconst (v := 0) hx hb dX5_leastDistance_61 (by decide) ?_
      refine lv_iload hx hb dX5_leastDistance_62 (lv_at hl 1 rfl) ?_
      refine lv_iload hx hb dX5_leastDistance_64 (lv_at hl 0 rfl) ?_
      refine va_mmax hx hb (hml.trans hl.1.symm) hown (hts (.methodLink RX5 288 Lib.Math.max.name) (by decide +kernel)) (hts (.static Lib.Math.max.name) (by decide +kernel)) (hts (.initialized "java/lang/Math") (by decide +kernel)) (hts (.code Lib.Math.max.name Lib.Math.max.code 2 (some .int)) (by decide +kernel)) (Nat.le_of_ble_eq_true rfl) (Nat.le_of_ble_eq_true rfl) (Nat.le_of_ble_eq_true rfl) (Nat.le_of_ble_eq_true rfl) dX5_leastDistance_66 ?_
      refine lv_topi (fun x_43 ex_43 => ?_)
      refine va_mmax hx hb (hml.trans hl.1.symm) hown (hts (.methodLink RX5 288 Lib.Math.max.name) (by decide +kernel)) (hts (.static Lib.Math.max.name) (by decide +kernel)) (hts (.initialized "java/lang/Math") (by decide +kernel)) (hts (.code Lib.Math.max.name Lib.Math.max.code 2 (some .int)) (by decide +kernel)) (Nat.le_of_ble_eq_true rfl) (Nat.le_of_ble_eq_true rfl) (Nat.le_of_ble_eq_true rfl) (Nat.le_of_ble_eq_true rfl) dX5_leastDistance_69 ?_
      refine lv_topi (fun x_44 ex_44 => ?_)
      exact W.iret (v := x_44) hx hb hr (fun t ht hW => ⟨⟨x_44, (), rfl, ⟨(fun h => absurd trivial (fun _ => by rcases h with h | h; (have := h k9_17 hb_20.1; have := hb_20.2.1; omega); (have := h k9_27 hb_30.1; have := hb_30.2.1; omega))), (fun g k k' h1 h2 => by obtain rfl : k = k9_17 := BefK.uniq h1 hb_20; obtain rfl : k' = k9_27 := BehK.uniq h2 hb_30; obtain ⟨g1, g2, g3⟩ := g; have i1 := g1 _ h1.1; have i2 := g1 _ h2.1; have i3 := h1.2.1; have i4 := h2.2.1; have d1 := k_33 ⟨i1.1, g3⟩; have d2 := k_39 ⟨i2.1, g3⟩; have f1 := farI_rng i1.1 g3; have f2 := farI_rng i2.1 g3; have e1 : x_35.toInt = a0.toInt - (SW1 k 1).toInt := su_k ex_35 rfl rfl (by omega) (by omega); have e2 : x_36.toInt = r_32.toInt - x_35.toInt := su_k ex_36 rfl rfl (by omega) (by omega); have e3 : x_41.toInt = (SW1 k' 1).toInt - a0.toInt := su_k ex_41 rfl rfl (by omega) (by omega); have e4 : x_42.toInt = r_38.toInt - x_41.toInt := su_k ex_42 rfl rfl (by omega) (by omega); have e5 := ma_k ex_43; have e6 := ma_k ex_44; (try simp only [Int32.reduceToInt] at e6); rewrite [d1] at e2; rewrite [d2] at e4; exact least_of e1 e2 e3 e4 e5 e6)⟩, trivial⟩, hS.F ht⟩) hS.2.2 dX5_leastDistance_72
set_option maxRecDepth 20000 in
theorem iw_X5_mostDistance_X4 : ∀ w ∈ wsX40, w ∈ wsX5_mostDistance := fun w h => (List.mem_cons_of_mem _ (List.mem_append_left _ (List.mem_append_left _ (List.mem_append_left _ (List.mem_append_right _ h)))))
set_option maxHeartbeats 4000000 in
set_option maxRecDepth 100000 in
/-- mostDistance -/
theorem c_X5_mostDistance (l : Launch) (dC : Nat → ClassId) (dI : Nat → Nat → Nat) (sz : Nat) (L : List Nat) (f : Nat → va_E) (h0 : Nat) (sea : Nat) (pas : Nat) (fl : Nat) (fc : Nat) (xlf : Int32) (xhr : Int32) (xho : Int32) (xga : Int32) (xsg : Int32) (xpr : Int32) (xfa : Int32) (xls : Int64) (a : Nat) (oa1 : Nat) (ia1 : Nat) (v : Nat → Int32) (nS1 : Nat) (SW1 : Nat → Nat → Int32) (te : Nat) (cO : ClassId) (a0 : Int32) (hsh : a ∈ L ∧ f a = .inr (4, [.int (v 0), .int (v 1), .int (v 2), .ref oa1, .ref ia1, .int (v 3), .int (v 4), .int (v 5), .int (v 6), .int (v 7), .int (v 8), .int (v 9), .int (v 10), .int (v 11)])) (hsig : Sigs L f te cO ia1 nS1 SW1) : Met l yX5_mostDistance wsX5_mostDistance ({ frames := 4, cells := 0, slots := 0, locals := 88 }) (va_Pc [.ref h0, .ref a, .int a0] (fun U => U.heap.size = sz ∧ va_P (dC, dI) vwCl (([(h0, .inr (6, [.ref sea, .ref pas, .ref fl, .ref fc, .int xlf, .int xhr, .int xho, .int xga, .int xsg, .int xpr, .int xfa, .long xls]))] : va_W) ++ va_pl L f) U.heap ∧ va_K (dC, dI) vwCl [(cO, .object "java/lang/Object")] U ∧ NW U)) (va_Qi (fun (r : Int32) (_ : Unit) => (NoBef SW1 nS1 a0.toInt ∨ NoBeh SW1 nS1 a0.toInt → r = (-9)) ∧ (SWR SW1 nS1 ∧ (0 ≤ a0.toInt ∧ a0.toInt ≤ 100000) ∧ (0 ≤ xho.toInt ∧ xho.toInt ≤ 159) → ∀ k k', BefK SW1 nS1 a0.toInt k → BehK SW1 nS1 a0.toInt k' → r.toInt = mostV (farI (SW1 k 0).toInt xho.toInt) (farI (SW1 k' 0).toInt xho.toInt) (SW1 k 1).toInt (SW1 k' 1).toInt a0.toInt)) (fun _ _ => True) (va_A [] sz)) 0 0 (va_A [] sz) := by
  refine Met.ofW (cc := cX5_mostDistance) (maxL := 7) (ret := (some .int)) (by decide) rfl ?_
  intro p e s m args below meth c s₁ B hml hv
  obtain ⟨rfl, hsz, hP, hK, hN⟩ := hv
  have hx := B.exec
  have hb := B.bytes
  have hr := B.returns
  have hts := atoms_spec (ws := wsX5_mostDistance) B.pre
  have hown : s.vm.findClass RX5 = some m.cls := findClass_of_methodNamed B.named
  have hlocks := B.notSynchronized
  subst hsz
  generalize hAe : va_A [] s.heap.size = A at ⊢
  have hA : ∀ q : Nat, s.heap.size ≤ q → A q := fun q h => by rw [← hAe]; exact Or.inr h
  have hS : va_S A s.heap s.heap [] := va_S.rf
  have hP : va_P (dC, dI) vwCl (([(h0, .inr (6, [.ref sea, .ref pas, .ref fl, .ref fc, .int xlf, .int xhr, .int xho, .int xga, .int xsg, .int xpr, .int xfa, .long xls]))] : va_W) ++ va_pl L f) s.heap := hP
  have hl := lv_entry ([.ref h0, .ref a, .int a0]) (n := 7) (Nat.le_of_ble_eq_true rfl)
  rw [lg_entry_eq]
  generalize (lg_sl ([.ref h0, .ref a, .int a0]) ++ List.replicate (7 - (lg_sl ([.ref h0, .ref a, .int a0])).length) Slot.unset).toArray = ls at hl ⊢
  have hl : lv_has ls 7 [(0, .ref h0), (1, .ref a), (2, .int a0)] := hl
  refine lv_aload_n hx hb dX5_mostDistance_0 rfl (lv_at hl 1 rfl) ?_
  refine lv_iload_n hx hb dX5_mostDistance_1 rfl (lv_at hl 2 rfl) ?_
  have hPc : va_P (dC, dI) vwCl (([] : va_W) ++ va_pl L f) s.heap := va_P.part (X := [(h0, .inr (6, [.ref sea, .ref pas, .ref fl, .ref fc, .int xlf, .int xhr, .int xho, .int xga, .int xsg, .int xpr, .int xfa, .long xls]))]) hP [] rfl
  have hKc := hK.sub (tys' := [(cO, .object "java/lang/Object")]) [0] rfl
  obtain ⟨k8_1, hk8_1⟩ : ∃ k : Nat, (([] : va_W) ++ va_pl L f)[k]? = some (a, .inr (4, [.int (v 0), .int (v 1), .int (v 2), .ref oa1, .ref ia1, .int (v 3), .int (v 4), .int (v 5), .int (v 6), .int (v 7), .int (v 8), .int (v 9), .int (v 10), .int (v 11)])) := pl_at hsh.1 hsh.2
  refine va_callq (va_runV (As := [.int a0]) (rest := []) ⟨hx, hb, hml, hown, hts⟩ (c_X3_lastSightBy l dC dI s.heap.size L f a oa1 ia1 v te cO nS1 SW1 a0 ⟨hsh.1, hsh.2⟩ hsig) (cwV 1 hts gX5_mostDistance_X3_lastSightBy rfl rfl rfl (by decide +kernel) ⟨Nat.le_of_ble_eq_true rfl, Nat.le_of_ble_eq_true rfl⟩) ⟨fun a U g mk q => by obtain ⟨q0, q1, qP, qK, qN⟩ := q; exact ⟨q0, q1, qP, va_K.moved (u := U) (U := U.calling g mk a) (Vm.Alike.refl U.vm) qK, NW.same (u := U) (U := U.calling g mk a) rfl qN⟩, va_recv hKc hPc (ci := 4) (q0 := k8_1) rfl hk8_1, fun U hU hW => ⟨rfl, by rw [hU], by rw [hU]; exact hPc, va_K.moved hW.alike hKc, NW.warm hW hN⟩⟩ rfl rfl hl.1 rfl (lv_room (Nat.le_of_ble_eq_true rfl)) dX5_mostDistance_2 ⟨(Nat.zero_le _), (Nat.zero_le _)⟩) hS (fun q _ h => ro_A hS hA q h) (ro_A hS hA) (fun r_2 u t H1 locs ht hvm k_3 hB hz1 hk1 hS => ?_)
  have hP := ro_P hk1 hP
  generalize H1 = H at hP hS ⊢
  try dsimp only at k_3
  obtain ⟨k_3, k_4⟩ := k_3
  rcases r_2 with _ | q_5
  · skip
    refine W.eq (g2 := F0 m 5 ls [.null]) rfl ?_
    have hno_6 := k_4 rfl
    refine lv_astore_nN (lv' := [(3, .null), (0, .ref h0), (1, .ref a), (2, .int a0)]) hx hb dX5_mostDistance_5 rfl hl (by decide) rfl (fun ls hl => ?_)
    refine lv_aload_n hx hb dX5_mostDistance_6 rfl (lv_at hl 2 rfl) ?_
    refine lv_iload_n hx hb dX5_mostDistance_7 rfl (lv_at hl 3 rfl) ?_
    have hPc : va_P (dC, dI) vwCl (([] : va_W) ++ va_pl L f) H := va_P.part (X := [(h0, .inr (6, [.ref sea, .ref pas, .ref fl, .ref fc, .int xlf, .int xhr, .int xho, .int xga, .int xsg, .int xpr, .int xfa, .long xls]))]) hP [] rfl
    have hKc := hK.sub (tys' := [(cO, .object "java/lang/Object")]) [0] rfl
    obtain ⟨k8_7, hk8_7⟩ : ∃ k : Nat, (([] : va_W) ++ va_pl L f)[k]? = some (a, .inr (4, [.int (v 0), .int (v 1), .int (v 2), .ref oa1, .ref ia1, .int (v 3), .int (v 4), .int (v 5), .int (v 6), .int (v 7), .int (v 8), .int (v 9), .int (v 10), .int (v 11)])) := pl_at hsh.1 hsh.2
    refine va_callq (va_runV (As := [.int a0]) (rest := []) ⟨hx, hb, hml, hown, hts⟩ (c_X3_firstSightFrom l dC dI H.size L f a oa1 ia1 v te cO nS1 SW1 a0 ⟨hsh.1, hsh.2⟩ hsig) (cwV 1 hts gX5_mostDistance_X3_firstSightFrom rfl rfl rfl (by decide +kernel) ⟨Nat.le_of_ble_eq_true rfl, Nat.le_of_ble_eq_true rfl⟩) ⟨fun a U g mk q => by obtain ⟨q0, q1, qP, qK, qN⟩ := q; exact ⟨q0, q1, qP, va_K.moved (u := U) (U := U.calling g mk a) (Vm.Alike.refl U.vm) qK, NW.same (u := U) (U := U.calling g mk a) rfl qN⟩, va_recv hKc hPc (ci := 4) (q0 := k8_7) rfl hk8_7, fun U hU hW => ⟨rfl, by rw [hU], by rw [hU]; exact hPc, va_K.moved hW.alike hKc, NW.warm hW hN⟩⟩ rfl rfl hl.1 rfl (lv_room (Nat.le_of_ble_eq_true rfl)) dX5_mostDistance_8 ⟨(Nat.zero_le _), (Nat.zero_le _)⟩) hS (fun q _ h => ro_A hS hA q h) (ro_A hS hA) (fun r_8 u t H1 locs ht hvm k_9 hB hz1 hk1 hS => ?_)
    have hP := ro_P hk1 hP
    generalize H1 = H at hP hS ⊢
    try dsimp only at k_9
    obtain ⟨k_9, k_10⟩ := k_9
    rcases r_8 with _ | q_11
    · skip
      refine W.eq (g2 := F0 m 11 ls [.null]) rfl ?_
      have hno_12 := k_10 rfl
      refine lv_astoreN (lv' := [(4, .null), (3, .null), (0, .ref h0), (1, .ref a), (2, .int a0)]) hx hb dX5_mostDistance_11 hl (by decide) rfl (fun ls hl => ?_)
      refine lv_aload_nN hx hb dX5_mostDistance_13 rfl (lv_at hl 1 rfl) ?_
      refine lv_ifnullN (tgt := 22) hx hb dX5_mostDistance_14 (by decide) ?_
      refine lv_bipush (v := (-9)) hx hb dX5_mostDistance_22 (by decide) ?_
      have hv9 : (-9 : Int32).toInt = (-9) := by decide
      exact W.iret (v := (-9)) hx hb hr (fun t ht hW => ⟨⟨(-9), (), rfl, ⟨(fun _ => rfl), (fun _ k k' h1 h2 => absurd trivial (fun _ => by have := hno_6 k h1.1; have := h1.2.1; omega))⟩, trivial⟩, hS.F ht⟩) hS.2.2 dX5_mostDistance_24
    · skip
      refine W.eq (g2 := F0 m 11 ls [.ref q_11]) rfl ?_
      obtain ⟨hm_15, k9_13, hz_14, hb_16⟩ := k_9 q_11 rfl
      refine lv_astore (lv' := [(4, .ref q_11), (3, .null), (0, .ref h0), (1, .ref a), (2, .int a0)]) hx hb dX5_mostDistance_11 hl (by decide) rfl (fun ls hl => ?_)
      refine lv_aload_nN hx hb dX5_mostDistance_13 rfl (lv_at hl 1 rfl) ?_
      refine lv_ifnullN (tgt := 22) hx hb dX5_mostDistance_14 (by decide) ?_
      refine lv_bipush (v := (-9)) hx hb dX5_mostDistance_22 (by decide) ?_
      have hv9 : (-9 : Int32).toInt = (-9) := by decide
      exact W.iret (v := (-9)) hx hb hr (fun t ht hW => ⟨⟨(-9), (), rfl, ⟨(fun _ => rfl), (fun _ k k' h1 h2 => absurd trivial (fun _ => by have := hno_6 k h1.1; have := h1.2.1; omega))⟩, trivial⟩, hS.F ht⟩) hS.2.2 dX5_mostDistance_24
  · skip
    refine W.eq (g2 := F0 m 5 ls [.ref q_5]) rfl ?_
    obtain ⟨hm_19, k9_17, hz_18, hb_20⟩ := k_3 q_5 rfl
    refine lv_astore_n (lv' := [(3, .ref q_5), (0, .ref h0), (1, .ref a), (2, .int a0)]) hx hb dX5_mostDistance_5 rfl hl (by decide) rfl (fun ls hl => ?_)
    refine lv_aload_n hx hb dX5_mostDistance_6 rfl (lv_at hl 2 rfl) ?_
    refine lv_iload_n hx hb dX5_mostDistance_7 rfl (lv_at hl 3 rfl) ?_
    have hPc : va_P (dC, dI) vwCl (([] : va_W) ++ va_pl L f) H := va_P.part (X := [(h0, .inr (6, [.ref sea, .ref pas, .ref fl, .ref fc, .int xlf, .int xhr, .int xho, .int xga, .int xsg, .int xpr, .int xfa, .long xls]))]) hP [] rfl
    have hKc := hK.sub (tys' := [(cO, .object "java/lang/Object")]) [0] rfl
    obtain ⟨k8_21, hk8_21⟩ : ∃ k : Nat, (([] : va_W) ++ va_pl L f)[k]? = some (a, .inr (4, [.int (v 0), .int (v 1), .int (v 2), .ref oa1, .ref ia1, .int (v 3), .int (v 4), .int (v 5), .int (v 6), .int (v 7), .int (v 8), .int (v 9), .int (v 10), .int (v 11)])) := pl_at hsh.1 hsh.2
    refine va_callq (va_runV (As := [.int a0]) (rest := []) ⟨hx, hb, hml, hown, hts⟩ (c_X3_firstSightFrom l dC dI H.size L f a oa1 ia1 v te cO nS1 SW1 a0 ⟨hsh.1, hsh.2⟩ hsig) (cwV 1 hts gX5_mostDistance_X3_firstSightFrom rfl rfl rfl (by decide +kernel) ⟨Nat.le_of_ble_eq_true rfl, Nat.le_of_ble_eq_true rfl⟩) ⟨fun a U g mk q => by obtain ⟨q0, q1, qP, qK, qN⟩ := q; exact ⟨q0, q1, qP, va_K.moved (u := U) (U := U.calling g mk a) (Vm.Alike.refl U.vm) qK, NW.same (u := U) (U := U.calling g mk a) rfl qN⟩, va_recv hKc hPc (ci := 4) (q0 := k8_21) rfl hk8_21, fun U hU hW => ⟨rfl, by rw [hU], by rw [hU]; exact hPc, va_K.moved hW.alike hKc, NW.warm hW hN⟩⟩ rfl rfl hl.1 rfl (lv_room (Nat.le_of_ble_eq_true rfl)) dX5_mostDistance_8 ⟨(Nat.zero_le _), (Nat.zero_le _)⟩) hS (fun q _ h => ro_A hS hA q h) (ro_A hS hA) (fun r_22 u t H1 locs ht hvm k_23 hB hz1 hk1 hS => ?_)
    have hP := ro_P hk1 hP
    generalize H1 = H at hP hS ⊢
    try dsimp only at k_23
    obtain ⟨k_23, k_24⟩ := k_23
    rcases r_22 with _ | q_25
    · skip
      refine W.eq (g2 := F0 m 11 ls [.null]) rfl ?_
      have hno_26 := k_24 rfl
      refine lv_astoreN (lv' := [(4, .null), (3, .ref q_5), (0, .ref h0), (1, .ref a), (2, .int a0)]) hx hb dX5_mostDistance_11 hl (by decide) rfl (fun ls hl => ?_)
      refine lv_aload_n hx hb dX5_mostDistance_13 rfl (lv_at hl 1 rfl) ?_
      refine lv_ifnull hx hb dX5_mostDistance_14 ?_
      refine lv_aloadN hx hb dX5_mostDistance_17 (lv_at hl 0 rfl) ?_
      refine lv_ifnonnullN hx hb dX5_mostDistance_19 ?_
      refine lv_bipush (v := (-9)) hx hb dX5_mostDistance_22 (by decide) ?_
      have hv9 : (-9 : Int32).toInt = (-9) := by decide
      exact W.iret (v := (-9)) hx hb hr (fun t ht hW => ⟨⟨(-9), (), rfl, ⟨(fun _ => rfl), (fun _ k k' h1 h2 => absurd trivial (fun _ => by have := hno_26 k' h2.1; have := h2.2.1; omega))⟩, trivial⟩, hS.F ht⟩) hS.2.2 dX5_mostDistance_24
    · skip
      refine W.eq (g2 := F0 m 11 ls [.ref q_25]) rfl ?_
      obtain ⟨hm_29, k9_27, hz_28, hb_30⟩ := k_23 q_25 rfl
      refine lv_astore (lv' := [(4, .ref q_25), (3, .ref q_5), (0, .ref h0), (1, .ref a), (2, .int a0)]) hx hb dX5_mostDistance_11 hl (by decide) rfl (fun ls hl => ?_)
      refine lv_aload_n hx hb dX5_mostDistance_13 rfl (lv_at hl 1 rfl) ?_
      refine lv_ifnull hx hb dX5_mostDistance_14 ?_
      refine lv_aload hx hb dX5_mostDistance_17 (lv_at hl 0 rfl) ?_
      refine lv_ifnonnull (tgt := 25) hx hb dX5_mostDistance_19 (by decide) ?_
      refine lv_aload_n hx hb dX5_mostDistance_25 rfl (lv_at hl 2 rfl) ?_
      refine lv_aload_n hx hb dX5_mostDistance_26 rfl (lv_at hl 1 rfl) ?_
      obtain ⟨k9_31, hk9_31⟩ : ∃ k : Nat, (([(h0, .inr (6, [.ref sea, .ref pas, .ref fl, .ref fc, .int xlf, .int xhr, .int xho, .int xga, .int xsg, .int xpr, .int xfa, .long xls]))] : va_W) ++ va_pl L f)[k]? = some (q_5, .inr (5, [.int (SW1 k9_17 0), .int (SW1 k9_17 1)])) := pl_at hm_19 hz_18
      refine va_get (D := (dC, dI)) (ci := 5) (v := .int (SW1 k9_17 0)) (C := RX4) (T := TX4) (N := 2) hx hb hts iw_X5_mostDistance_X4 hown hK hP k9_31 hk9_31 rfl 0 (by decide) (hts (.fieldLink RX5 298 "TeaRace$Sight" "cell" "I") (by decide +kernel)) (fun _ h9 => h9) rfl dX5_mostDistance_27 ?_
      have hPc := hP.sub (ws' := [(h0, .inr (6, [.ref sea, .ref pas, .ref fl, .ref fc, .int xlf, .int xhr, .int xho, .int xga, .int xsg, .int xpr, .int xfa, .long xls]))]) [0] rfl
      have hKc := hK.sub (tys' := []) [] rfl
      refine va_calli (va_runV (As := [.int (SW1 k9_17 0)]) (rest := []) ⟨hx, hb, hml, hown, hts⟩ (c_X5_distanceFromHome l dC dI H.size h0 sea pas fl fc xlf xhr xho xga xsg xpr xfa xls (SW1 k9_17 0) ) (cwV 1 hts gX5_mostDistance_X5_distanceFromHome rfl rfl rfl (by decide +kernel) ⟨Nat.le_of_ble_eq_true rfl, Nat.le_of_ble_eq_true rfl⟩) ⟨fun a U g mk q => by obtain ⟨q0, q1, qP, qK, qN⟩ := q; exact ⟨q0, q1, qP, va_K.moved (u := U) (U := U.calling g mk a) (Vm.Alike.refl U.vm) qK, NW.same (u := U) (U := U.calling g mk a) rfl qN⟩, va_recv hKc hPc (ci := 6) (q0 := 0) rfl rfl, fun U hU hW => ⟨rfl, by rw [hU], by rw [hU]; exact hPc, va_K.moved hW.alike hKc, NW.warm hW hN⟩⟩ rfl rfl hl.1 rfl (lv_room (Nat.le_of_ble_eq_true rfl)) dX5_mostDistance_30 ⟨(Nat.zero_le _), (Nat.zero_le _)⟩) hS (fun q _ h => ro_A hS hA q h) (ro_A hS hA) (fun r_32 u t H1 locs ht hvm k_33 hB hz1 hk1 hS => ?_)
      have hP := ro_P hk1 hP
      generalize H1 = H at hP hS ⊢
      try dsimp only at k_33
      refine lv_iload_n hx hb dX5_mostDistance_33 rfl (lv_at hl 4 rfl) ?_
      refine lv_aload_n hx hb dX5_mostDistance_34 rfl (lv_at hl 1 rfl) ?_
      obtain ⟨k9_34, hk9_34⟩ : ∃ k : Nat, (([(h0, .inr (6, [.ref sea, .ref pas, .ref fl, .ref fc, .int xlf, .int xhr, .int xho, .int xga, .int xsg, .int xpr, .int xfa, .long xls]))] : va_W) ++ va_pl L f)[k]? = some (q_5, .inr (5, [.int (SW1 k9_17 0), .int (SW1 k9_17 1)])) := pl_at hm_19 hz_18
      refine va_get (D := (dC, dI)) (ci := 5) (v := .int (SW1 k9_17 1)) (C := RX4) (T := TX4) (N := 2) hx hb hts iw_X5_mostDistance_X4 hown hK hP k9_34 hk9_34 rfl 1 (by decide) (hts (.fieldLink RX5 302 "TeaRace$Sight" "hour" "I") (by decide +kernel)) (fun _ h9 => h9) rfl dX5_mostDistance_35 ?_
      refine lv_isub hx hb dX5_mostDistance_38 ?_
      refine lv_topi (fun x_35 ex_35 => ?_)
      refine lv_iadd hx hb dX5_mostDistance_39 ?_
      refine lv_topi (fun x_36 ex_36 => ?_)
      refine lv_istore (lv' := [(5, .int x_36), (4, .ref q_25), (3, .ref q_5), (0, .ref h0), (1, .ref a), (2, .int a0)]) hx hb dX5_mostDistance_40 hl (by decide) rfl (fun ls hl => ?_)
      refine lv_aload_n hx hb dX5_mostDistance_42 rfl (lv_at hl 3 rfl) ?_
      refine lv_aload hx hb dX5_mostDistance_43 (lv_at hl 1 rfl) ?_
      obtain ⟨k9_37, hk9_37⟩ : ∃ k : Nat, (([(h0, .inr (6, [.ref sea, .ref pas, .ref fl, .ref fc, .int xlf, .int xhr, .int xho, .int xga, .int xsg, .int xpr, .int xfa, .long xls]))] : va_W) ++ va_pl L f)[k]? = some (q_25, .inr (5, [.int (SW1 k9_27 0), .int (SW1 k9_27 1)])) := pl_at hm_29 hz_28
      refine va_get (D := (dC, dI)) (ci := 5) (v := .int (SW1 k9_27 0)) (C := RX4) (T := TX4) (N := 2) hx hb hts iw_X5_mostDistance_X4 hown hK hP k9_37 hk9_37 rfl 0 (by decide) (hts (.fieldLink RX5 298 "TeaRace$Sight" "cell" "I") (by decide +kernel)) (fun _ h9 => h9) rfl dX5_mostDistance_45 ?_
      have hPc := hP.sub (ws' := [(h0, .inr (6, [.ref sea, .ref pas, .ref fl, .ref fc, .int xlf, .int xhr, .int xho, .int xga, .int xsg, .int xpr, .int xfa, .long xls]))]) [0] rfl
      have hKc := hK.sub (tys' := []) [] rfl
      refine va_calli (va_runV (As := [.int (SW1 k9_27 0)]) (rest := []) ⟨hx, hb, hml, hown, hts⟩ (c_X5_distanceFromHome l dC dI H.size h0 sea pas fl fc xlf xhr xho xga xsg xpr xfa xls (SW1 k9_27 0) ) (cwV 1 hts gX5_mostDistance_X5_distanceFromHome rfl rfl rfl (by decide +kernel) ⟨Nat.le_of_ble_eq_true rfl, Nat.le_of_ble_eq_true rfl⟩) ⟨fun a U g mk q => by obtain ⟨q0, q1, qP, qK, qN⟩ := q; exact ⟨q0, q1, qP, va_K.moved (u := U) (U := U.calling g mk a) (Vm.Alike.refl U.vm) qK, NW.same (u := U) (U := U.calling g mk a) rfl qN⟩, va_recv hKc hPc (ci := 6) (q0 := 0) rfl rfl, fun U hU hW => ⟨rfl, by rw [hU], by rw [hU]; exact hPc, va_K.moved hW.alike hKc, NW.warm hW hN⟩⟩ rfl rfl hl.1 rfl (lv_room (Nat.le_of_ble_eq_true rfl)) dX5_mostDistance_48 ⟨(Nat.zero_le _), (Nat.zero_le _)⟩) hS (fun q _ h => ro_A hS hA q h) (ro_A hS hA) (fun r_38 u t H1 locs ht hvm k_39 hB hz1 hk1 hS => ?_)
      have hP := ro_P hk1 hP
      generalize H1 = H at hP hS ⊢
      try dsimp only at k_39
      refine lv_aload hx hb dX5_mostDistance_51 (lv_at hl 1 rfl) ?_
      obtain ⟨k9_40, hk9_40⟩ : ∃ k : Nat, (([(h0, .inr (6, [.ref sea, .ref pas, .ref fl, .ref fc, .int xlf, .int xhr, .int xho, .int xga, .int xsg, .int xpr, .int xfa, .long xls]))] : va_W) ++ va_pl L f)[k]? = some (q_25, .inr (5, [.int (SW1 k9_27 0), .int (SW1 k9_27 1)])) := pl_at hm_29 hz_28
      refine va_get (D := (dC, dI)) (ci := 5) (v := .int (SW1 k9_27 1)) (C := RX4) (T := TX4) (N := 2) hx hb hts iw_X5_mostDistance_X4 hown hK hP k9_40 hk9_40 rfl 1 (by decide) (hts (.fieldLink RX5 302 "TeaRace$Sight" "hour" "I") (by decide +kernel)) (fun _ h9 => h9) rfl dX5_mostDistance_53 ?_
      refine lv_iload_n hx hb dX5_mostDistance_56 rfl (lv_at hl 5 rfl) ?_
      refine lv_isub hx hb dX5_mostDistance_57 ?_
      refine lv_topi (fun x_41 ex_41 => ?_)
      refine lv_iadd hx hb dX5_mostDistance_58 ?_
      refine lv_topi (fun x_42 ex_42 => ?_)
      refine lv_istore (lv' := [(6, .int x_42), (5, .int x_36), (4, .ref q_25), (3, .ref q_5), (0, .ref h0), (1, .ref a), (2, .int a0)]) hx hb dX5_mostDistance_59 hl (by decide) rfl (fun ls hl => ?_)
      refine lv_iload hx hb dX5_mostDistance_61 (lv_at hl 1 rfl) ?_
      refine lv_iload hx hb dX5_mostDistance_63 (lv_at hl 0 rfl) ?_
      refine va_mmin hx hb (hml.trans hl.1.symm) hown (hts (.methodLink RX5 256 Lib.Math.min.name) (by decide +kernel)) (hts (.static Lib.Math.min.name) (by decide +kernel)) (hts (.initialized "java/lang/Math") (by decide +kernel)) (hts (.code Lib.Math.min.name Lib.Math.min.code 2 (some .int)) (by decide +kernel)) (Nat.le_of_ble_eq_true rfl) (Nat.le_of_ble_eq_true rfl) (Nat.le_of_ble_eq_true rfl) (Nat.le_of_ble_eq_true rfl) dX5_mostDistance_65 ?_
      refine lv_topi (fun x_43 ex_43 => ?_)
      exact W.iret (v := x_43) hx hb hr (fun t ht hW => ⟨⟨x_43, (), rfl, ⟨(fun h => absurd trivial (fun _ => by rcases h with h | h; (have := h k9_17 hb_20.1; have := hb_20.2.1; omega); (have := h k9_27 hb_30.1; have := hb_30.2.1; omega))), (fun g k k' h1 h2 => by obtain rfl : k = k9_17 := BefK.uniq h1 hb_20; obtain rfl : k' = k9_27 := BehK.uniq h2 hb_30; obtain ⟨g1, g2, g3⟩ := g; have i1 := g1 _ h1.1; have i2 := g1 _ h2.1; have i3 := h1.2.1; have i4 := h2.2.1; have d1 := k_33 ⟨i1.1, g3⟩; have d2 := k_39 ⟨i2.1, g3⟩; have f1 := farI_rng i1.1 g3; have f2 := farI_rng i2.1 g3; have e1 : x_35.toInt = a0.toInt - (SW1 k 1).toInt := su_k ex_35 rfl rfl (by omega) (by omega); have e2 : x_36.toInt = r_32.toInt + x_35.toInt := ad_k ex_36 rfl rfl (by omega) (by omega); have e3 : x_41.toInt = (SW1 k' 1).toInt - a0.toInt := su_k ex_41 rfl rfl (by omega) (by omega); have e4 : x_42.toInt = r_38.toInt + x_41.toInt := ad_k ex_42 rfl rfl (by omega) (by omega); have e5 := mi_k ex_43; rewrite [d1] at e2; rewrite [d2] at e4; exact most_of e1 e2 e3 e4 e5)⟩, trivial⟩, hS.F ht⟩) hS.2.2 dX5_mostDistance_68
set_option maxHeartbeats 4000000 in
set_option maxRecDepth 100000 in
/-- distance -/
theorem c_X5_distance (l : Launch) (dC : Nat → ClassId) (dI : Nat → Nat → Nat) (sz : Nat) (L : List Nat) (f : Nat → va_E) (h0 : Nat) (sea : Nat) (pas : Nat) (fl : Nat) (fc : Nat) (xlf : Int32) (xhr : Int32) (xho : Int32) (xga : Int32) (xsg : Int32) (xpr : Int32) (xfa : Int32) (xls : Int64) (cB : ClassId) (own : Nat → Nat) (te : Nat) (cO : ClassId) (rr : Nat → Nat) (cw : Nat → Nat → Int32) (n : Nat) (sa : Nat → Nat) (V : Nat → Nat → Int32) (oa : Nat → Nat) (ia : Nat → Nat) (nO : Nat → Nat) (OW : Nat → Nat → Nat → Int32) (nS : Nat → Nat) (SW : Nat → Nat → Nat → Int32) (a0 : Int32) (a1 : Int32) (a2 : Int32) (inv : Inv L f own te cO cB rr cw fl n sa V oa ia nO OW nS SW) : Met l yX5_distance wsX5_distance ({ frames := 5, cells := 0, slots := 0, locals := 114 }) (va_Pc [.ref h0, .int a0, .int a1, .int a2] (fun U => U.heap.size = sz ∧ va_P (dC, dI) vwCl (([(h0, .inr (6, [.ref sea, .ref pas, .ref fl, .ref fc, .int xlf, .int xhr, .int xho, .int xga, .int xsg, .int xpr, .int xfa, .long xls]))] : va_W) ++ va_pl L f) U.heap ∧ va_K (dC, dI) vwCl [(cO, .object "java/lang/Object")] U ∧ NW U)) (va_Qi (fun (r : Int32) (_ : Unit) => (¬ ((0 ≤ a0.toInt ∧ a0.toInt < (n : Int)) ∧ (0 ≤ a1.toInt ∧ a1.toInt ≤ 100000)) → r = (-1)) ∧ (((0 ≤ a0.toInt ∧ a0.toInt < (n : Int)) ∧ (0 ≤ a1.toInt ∧ a1.toInt ≤ 100000)) → NoBef (SW a0.toNatClampNeg) (nS a0.toNatClampNeg) a1.toInt ∨ NoBeh (SW a0.toNatClampNeg) (nS a0.toNatClampNeg) a1.toInt → r = (-9)) ∧ (((0 ≤ a0.toInt ∧ a0.toInt < (n : Int)) ∧ (0 ≤ a1.toInt ∧ a1.toInt ≤ 100000)) → SWR (SW a0.toNatClampNeg) (nS a0.toNatClampNeg) ∧ (0 ≤ xho.toInt ∧ xho.toInt ≤ 159) → ∀ k k', BefK (SW a0.toNatClampNeg) (nS a0.toNatClampNeg) a1.toInt k → BehK (SW a0.toNatClampNeg) (nS a0.toNatClampNeg) a1.toInt k' → r.toInt = if a2.toInt = 0 then leastV (farI (SW a0.toNatClampNeg k 0).toInt xho.toInt) (farI (SW a0.toNatClampNeg k' 0).toInt xho.toInt) (SW a0.toNatClampNeg k 1).toInt (SW a0.toNatClampNeg k' 1).toInt a1.toInt else mostV (farI (SW a0.toNatClampNeg k 0).toInt xho.toInt) (farI (SW a0.toNatClampNeg k' 0).toInt xho.toInt) (SW a0.toNatClampNeg k 1).toInt (SW a0.toNatClampNeg k' 1).toInt a1.toInt)) (fun _ _ => True) (va_A [] sz)) 0 0 (va_A [] sz) := by
  refine Met.ofW (cc := cX5_distance) (maxL := 5) (ret := (some .int)) (by decide) rfl ?_
  intro p e s m args below meth c s₁ B hml hv
  obtain ⟨rfl, hsz, hP, hK, hN⟩ := hv
  have hx := B.exec
  have hb := B.bytes
  have hr := B.returns
  have hts := atoms_spec (ws := wsX5_distance) B.pre
  have hown : s.vm.findClass RX5 = some m.cls := findClass_of_methodNamed B.named
  have hlocks := B.notSynchronized
  subst hsz
  generalize hAe : va_A [] s.heap.size = A at ⊢
  have hA : ∀ q : Nat, s.heap.size ≤ q → A q := fun q h => by rw [← hAe]; exact Or.inr h
  have hS : va_S A s.heap s.heap [] := va_S.rf
  have hP : va_P (dC, dI) vwCl (([(h0, .inr (6, [.ref sea, .ref pas, .ref fl, .ref fc, .int xlf, .int xhr, .int xho, .int xga, .int xsg, .int xpr, .int xfa, .long xls]))] : va_W) ++ va_pl L f) s.heap := hP
  have hl := lv_entry ([.ref h0, .int a0, .int a1, .int a2]) (n := 5) (Nat.le_of_ble_eq_true rfl)
  rw [lg_entry_eq]
  generalize (lg_sl ([.ref h0, .int a0, .int a1, .int a2]) ++ List.replicate (5 - (lg_sl ([.ref h0, .int a0, .int a1, .int a2])).length) Slot.unset).toArray = ls at hl ⊢
  have hl : lv_has ls 5 [(0, .ref h0), (1, .int a0), (2, .int a1), (3, .int a2)] := hl
  refine lv_aload_n hx hb dX5_distance_0 rfl (lv_at hl 0 rfl) ?_
  refine lv_iload_n hx hb dX5_distance_1 rfl (lv_at hl 1 rfl) ?_
  have hPc : va_P (dC, dI) vwCl (([(h0, .inr (6, [.ref sea, .ref pas, .ref fl, .ref fc, .int xlf, .int xhr, .int xho, .int xga, .int xsg, .int xpr, .int xfa, .long xls]))] : va_W) ++ va_pl L f) s.heap := va_P.part (X := [(h0, .inr (6, [.ref sea, .ref pas, .ref fl, .ref fc, .int xlf, .int xhr, .int xho, .int xga, .int xsg, .int xpr, .int xfa, .long xls]))]) hP [0] rfl
  have hKc := hK.sub (tys' := [(cO, .object "java/lang/Object")]) [0] rfl
  refine va_callq (va_runV (As := [.int a0]) (rest := []) ⟨hx, hb, hml, hown, hts⟩ (c_X5_shipOf l dC dI s.heap.size L f h0 sea pas fl fc xlf xhr xho xga xsg xpr xfa xls cB own te cO rr cw n sa V oa ia nO OW nS SW a0 inv) (cwV 1 hts gX5_distance_X5_shipOf rfl rfl rfl (by decide +kernel) ⟨Nat.le_of_ble_eq_true rfl, Nat.le_of_ble_eq_true rfl⟩) ⟨fun a U g mk q => by obtain ⟨q0, q1, qP, qK, qN⟩ := q; exact ⟨q0, q1, qP, va_K.moved (u := U) (U := U.calling g mk a) (Vm.Alike.refl U.vm) qK, NW.same (u := U) (U := U.calling g mk a) rfl qN⟩, va_recv hKc hPc (ci := 6) (q0 := 0) rfl rfl, fun U hU hW => ⟨rfl, by rw [hU], by rw [hU]; exact hPc, va_K.moved hW.alike hKc, NW.warm hW hN⟩⟩ rfl rfl hl.1 rfl (lv_room (Nat.le_of_ble_eq_true rfl)) dX5_distance_2 ⟨(Nat.zero_le _), (Nat.zero_le _)⟩) hS (fun q _ h => ro_A hS hA q h) (ro_A hS hA) (fun r_1 u t H1 locs ht hvm k_2 hB hz1 hk1 hS => ?_)
  have hP := ro_P hk1 hP
  generalize H1 = H at hP hS ⊢
  try dsimp only at k_2
  obtain ⟨k_2, k_3⟩ := k_2
  rcases r_1 with _ | q_4
  · skip
    have hno := k_3 rfl
    refine W.eq (g2 := F0 m 5 ls [.null]) rfl ?_
    refine lv_astoreN (lv' := [(4, .null), (0, .ref h0), (1, .int a0), (2, .int a1), (3, .int a2)]) hx hb dX5_distance_5 hl (by decide) rfl (fun ls hl => ?_)
    refine lv_aloadN hx hb dX5_distance_7 (lv_at hl 0 rfl) ?_
    refine lv_ifnullN (tgt := 21) hx hb dX5_distance_9 (by decide) ?_
    refine lv_iconst (v := (-1)) hx hb dX5_distance_21 (by decide) ?_
    have hv9 : (-1 : Int32).toInt = (-1) := by decide
    exact W.iret (v := (-1)) hx hb hr (fun t ht hW => ⟨⟨(-1), (), rfl, ⟨(fun _ => rfl), (fun h => absurd h (by omega)), (fun h => absurd h (by omega))⟩, trivial⟩, hS.F ht⟩) hS.2.2 dX5_distance_22
  · skip
    obtain ⟨hi_5, hi_6, rfl⟩ := k_2 q_4 rfl
    refine W.eq (g2 := F0 m 5 ls [.ref (sa a0.toNatClampNeg)]) rfl ?_
    have hn8 := inv.2.2.2.2.1
    have hsp_7 := inv.2.2.2.2.2 a0.toNatClampNeg (tn_lt (by omega) (by omega))
    refine lv_astore (lv' := [(4, .ref (sa a0.toNatClampNeg)), (0, .ref h0), (1, .int a0), (2, .int a1), (3, .int a2)]) hx hb dX5_distance_5 hl (by decide) rfl (fun ls hl => ?_)
    refine lv_aload hx hb dX5_distance_7 (lv_at hl 0 rfl) ?_
    refine lv_ifnull hx hb dX5_distance_9 ?_
    refine lv_iload_n hx hb dX5_distance_12 rfl (lv_at hl 3 rfl) ?_
    refine lv_ldc (v := (100000)) hx hb hown (hts (.constant RX5 171 (100000)) (by decide +kernel)) dX5_distance_13 ?_
    refine va_calli (va_runS (As := [.int a1, .int (100000)]) (rest := []) ⟨hx, hb, hml, hown, hts⟩ (c_X5_outside l H.size a1 (100000) ) (va_cwS 2 hts gX5_distance_X5_outside rfl rfl rfl (by decide +kernel) ⟨Nat.le_of_ble_eq_true rfl, Nat.le_of_ble_eq_true rfl⟩) ⟨fun a U g mk q => by obtain ⟨q0, q1⟩ := q; exact ⟨q0, q1⟩, fun U hU hW => ⟨rfl, congrArg Array.size hU⟩⟩ rfl rfl hl.1 rfl (lv_room (Nat.le_of_ble_eq_true rfl)) dX5_distance_15 ⟨(Nat.zero_le _), (Nat.zero_le _)⟩) hS (fun q _ h => ro_A hS hA q h) (ro_A hS hA) (fun r_8 u t H1 locs ht hvm k_9 hB hz1 hk1 hS => ?_)
    have hP := ro_P hk1 hP
    generalize H1 = H at hP hS ⊢
    try dsimp only at k_9
    obtain ⟨k_9, k_10⟩ := k_9
    refine lv_if_eq (tgt := 23) hx hb dX5_distance_18 (by decide) (fun c_11 => ?_) (fun c_11 => ?_)
    · skip
      have b_12 := b01z k_9 c_11
      (try simp only [Int32.lt_iff_toInt_lt, Int32.le_iff_toInt_le, ← Int32.toInt_inj, Int32.reduceToInt, zl1, zl2, zl3, zl4, zl9] at b_12)
      (try simp only [Int32.reduceToInt] at b_12)
      refine lv_iload_n hx hb dX5_distance_23 rfl (lv_at hl 4 rfl) ?_
      refine lv_if_eq (tgt := 37) hx hb dX5_distance_24 (by decide) (fun c_13 => ?_) (fun c_13 => ?_)
      · skip
        have qc_13 : a2.toInt = 0 := eq_k rfl (by decide) c_13
        refine lv_aload_n hx hb dX5_distance_37 rfl (lv_at hl 1 rfl) ?_
        refine lv_aload hx hb dX5_distance_38 (lv_at hl 0 rfl) ?_
        refine lv_iload_n hx hb dX5_distance_40 rfl (lv_at hl 3 rfl) ?_
        have hPc : va_P (dC, dI) vwCl (([(h0, .inr (6, [.ref sea, .ref pas, .ref fl, .ref fc, .int xlf, .int xhr, .int xho, .int xga, .int xsg, .int xpr, .int xfa, .long xls]))] : va_W) ++ va_pl L f) H := va_P.part (X := [(h0, .inr (6, [.ref sea, .ref pas, .ref fl, .ref fc, .int xlf, .int xhr, .int xho, .int xga, .int xsg, .int xpr, .int xfa, .long xls]))]) hP [0] rfl
        have hKc := hK.sub (tys' := [(cO, .object "java/lang/Object")]) [0] rfl
        refine va_calli (va_runV (As := [.ref (sa a0.toNatClampNeg), .int a1]) (rest := []) ⟨hx, hb, hml, hown, hts⟩ (c_X5_leastDistance l dC dI H.size L f h0 sea pas fl fc xlf xhr xho xga xsg xpr xfa xls (sa a0.toNatClampNeg) (oa a0.toNatClampNeg) (ia a0.toNatClampNeg) (V a0.toNatClampNeg) (nS a0.toNatClampNeg) (SW a0.toNatClampNeg) te cO a1 ⟨hsp_7.1, hsp_7.2.1⟩ hsp_7.2.2.2.2.2.2.1) (cwV 2 hts gX5_distance_X5_leastDistance rfl rfl rfl (by decide +kernel) ⟨Nat.le_of_ble_eq_true rfl, Nat.le_of_ble_eq_true rfl⟩) ⟨fun a U g mk q => by obtain ⟨q0, q1, qP, qK, qN⟩ := q; exact ⟨q0, q1, qP, va_K.moved (u := U) (U := U.calling g mk a) (Vm.Alike.refl U.vm) qK, NW.same (u := U) (U := U.calling g mk a) rfl qN⟩, va_recv hKc hPc (ci := 6) (q0 := 0) rfl rfl, fun U hU hW => ⟨rfl, by rw [hU], by rw [hU]; exact hPc, va_K.moved hW.alike hKc, NW.warm hW hN⟩⟩ rfl rfl hl.1 rfl (lv_room (Nat.le_of_ble_eq_true rfl)) dX5_distance_41 ⟨(Nat.zero_le _), (Nat.zero_le _)⟩) hS (fun q _ h => ro_A hS hA q h) (ro_A hS hA) (fun r_14 u t H1 locs ht hvm k_15 hB hz1 hk1 hS => ?_)
        have hP := ro_P hk1 hP
        generalize H1 = H at hP hS ⊢
        try dsimp only at k_15
        obtain ⟨k_15, k_16⟩ := k_15
        exact W.iret (v := r_14) hx hb hr (fun t ht hW => ⟨⟨r_14, (), rfl, ⟨(fun h => absurd ⟨⟨by omega, by omega⟩, by omega, by omega⟩ h), (fun _ h => k_15 h), (fun _ g k k' h1 h2 => by rw [if_pos (by omega)]; exact k_16 ⟨g.1, ⟨by omega, by omega⟩, g.2⟩ k k' h1 h2)⟩, trivial⟩, hS.F ht⟩) hS.2.2 dX5_distance_44
      · skip
        have qc_13 : a2.toInt ≠ 0 := ne_k rfl (by decide) c_13
        refine lv_aload_n hx hb dX5_distance_27 rfl (lv_at hl 1 rfl) ?_
        refine lv_aload hx hb dX5_distance_28 (lv_at hl 0 rfl) ?_
        refine lv_iload_n hx hb dX5_distance_30 rfl (lv_at hl 3 rfl) ?_
        have hPc : va_P (dC, dI) vwCl (([(h0, .inr (6, [.ref sea, .ref pas, .ref fl, .ref fc, .int xlf, .int xhr, .int xho, .int xga, .int xsg, .int xpr, .int xfa, .long xls]))] : va_W) ++ va_pl L f) H := va_P.part (X := [(h0, .inr (6, [.ref sea, .ref pas, .ref fl, .ref fc, .int xlf, .int xhr, .int xho, .int xga, .int xsg, .int xpr, .int xfa, .long xls]))]) hP [0] rfl
        have hKc := hK.sub (tys' := [(cO, .object "java/lang/Object")]) [0] rfl
        refine va_calli (va_runV (As := [.ref (sa a0.toNatClampNeg), .int a1]) (rest := []) ⟨hx, hb, hml, hown, hts⟩ (c_X5_mostDistance l dC dI H.size L f h0 sea pas fl fc xlf xhr xho xga xsg xpr xfa xls (sa a0.toNatClampNeg) (oa a0.toNatClampNeg) (ia a0.toNatClampNeg) (V a0.toNatClampNeg) (nS a0.toNatClampNeg) (SW a0.toNatClampNeg) te cO a1 ⟨hsp_7.1, hsp_7.2.1⟩ hsp_7.2.2.2.2.2.2.1) (cwV 2 hts gX5_distance_X5_mostDistance rfl rfl rfl (by decide +kernel) ⟨Nat.le_of_ble_eq_true rfl, Nat.le_of_ble_eq_true rfl⟩) ⟨fun a U g mk q => by obtain ⟨q0, q1, qP, qK, qN⟩ := q; exact ⟨q0, q1, qP, va_K.moved (u := U) (U := U.calling g mk a) (Vm.Alike.refl U.vm) qK, NW.same (u := U) (U := U.calling g mk a) rfl qN⟩, va_recv hKc hPc (ci := 6) (q0 := 0) rfl rfl, fun U hU hW => ⟨rfl, by rw [hU], by rw [hU]; exact hPc, va_K.moved hW.alike hKc, NW.warm hW hN⟩⟩ rfl rfl hl.1 rfl (lv_room (Nat.le_of_ble_eq_true rfl)) dX5_distance_31 ⟨(Nat.zero_le _), (Nat.zero_le _)⟩) hS (fun q _ h => ro_A hS hA q h) (ro_A hS hA) (fun r_17 u t H1 locs ht hvm k_18 hB hz1 hk1 hS => ?_)
        have hP := ro_P hk1 hP
        generalize H1 = H at hP hS ⊢
        try dsimp only at k_18
        obtain ⟨k_18, k_19⟩ := k_18
        refine lv_goto (tgt := 44) hx hb dX5_distance_34 (by decide) ?_
        exact W.iret (v := r_17) hx hb hr (fun t ht hW => ⟨⟨r_17, (), rfl, ⟨(fun h => absurd ⟨⟨by omega, by omega⟩, by omega, by omega⟩ h), (fun _ h => k_18 h), (fun _ g k k' h1 h2 => by rw [if_neg (by omega)]; exact k_19 ⟨g.1, ⟨by omega, by omega⟩, g.2⟩ k k' h1 h2)⟩, trivial⟩, hS.F ht⟩) hS.2.2 dX5_distance_44
    · skip
      have b_20 := b01n k_9 c_11
      (try simp only [Int32.lt_iff_toInt_lt, Int32.le_iff_toInt_le, ← Int32.toInt_inj, Int32.reduceToInt, zl1, zl2, zl3, zl4, zl9] at b_20)
      (try simp only [Int32.reduceToInt] at b_20)
      refine lv_iconst (v := (-1)) hx hb dX5_distance_21 (by decide) ?_
      have hv9 : (-1 : Int32).toInt = (-1) := by decide
      exact W.iret (v := (-1)) hx hb hr (fun t ht hW => ⟨⟨(-1), (), rfl, ⟨(fun _ => rfl), (fun h => absurd h (by omega)), (fun h => absurd h (by omega))⟩, trivial⟩, hS.F ht⟩) hS.2.2 dX5_distance_22
set_option maxHeartbeats 4000000 in
set_option maxRecDepth 100000 in
/-- ahead -/
theorem c_X5_ahead (l : Launch) (dC : Nat → ClassId) (dI : Nat → Nat → Nat) (sz : Nat) (L : List Nat) (f : Nat → va_E) (h0 : Nat) (sea : Nat) (pas : Nat) (fl : Nat) (fc : Nat) (xlf : Int32) (xhr : Int32) (xho : Int32) (xga : Int32) (xsg : Int32) (xpr : Int32) (xfa : Int32) (xls : Int64) (cB : ClassId) (own : Nat → Nat) (te : Nat) (cO : ClassId) (rr : Nat → Nat) (cw : Nat → Nat → Int32) (n : Nat) (sa : Nat → Nat) (V : Nat → Nat → Int32) (oa : Nat → Nat) (ia : Nat → Nat) (nO : Nat → Nat) (OW : Nat → Nat → Nat → Int32) (nS : Nat → Nat) (SW : Nat → Nat → Nat → Int32) (a0 : Int32) (a1 : Int32) (a2 : Int32) (inv : Inv L f own te cO cB rr cw fl n sa V oa ia nO OW nS SW) : Met l yX5_ahead wsX5_ahead ({ frames := 5, cells := 0, slots := 0, locals := 114 }) (va_Pc [.ref h0, .int a0, .int a1, .int a2] (fun U => U.heap.size = sz ∧ va_P (dC, dI) vwCl (([(h0, .inr (6, [.ref sea, .ref pas, .ref fl, .ref fc, .int xlf, .int xhr, .int xho, .int xga, .int xsg, .int xpr, .int xfa, .long xls]))] : va_W) ++ va_pl L f) U.heap ∧ va_K (dC, dI) vwCl [(cO, .object "java/lang/Object")] U ∧ NW U)) (va_Qi (fun (r : Int32) (_ : Unit) => (¬ ((0 ≤ a0.toInt ∧ a0.toInt < (n : Int)) ∧ (0 ≤ a1.toInt ∧ a1.toInt < (n : Int)) ∧ a0.toInt ≠ a1.toInt ∧ (0 ≤ a2.toInt ∧ a2.toInt ≤ 100000)) → r = (-1)) ∧ (((0 ≤ a0.toInt ∧ a0.toInt < (n : Int)) ∧ (0 ≤ a1.toInt ∧ a1.toInt < (n : Int)) ∧ a0.toInt ≠ a1.toInt ∧ (0 ≤ a2.toInt ∧ a2.toInt ≤ 100000)) → (NoBef (SW a0.toNatClampNeg) (nS a0.toNatClampNeg) a2.toInt ∨ NoBeh (SW a0.toNatClampNeg) (nS a0.toNatClampNeg) a2.toInt) ∨ (NoBef (SW a1.toNatClampNeg) (nS a1.toNatClampNeg) a2.toInt ∨ NoBeh (SW a1.toNatClampNeg) (nS a1.toNatClampNeg) a2.toInt) → r = (-9)) ∧ (((0 ≤ a0.toInt ∧ a0.toInt < (n : Int)) ∧ (0 ≤ a1.toInt ∧ a1.toInt < (n : Int)) ∧ a0.toInt ≠ a1.toInt ∧ (0 ≤ a2.toInt ∧ a2.toInt ≤ 100000)) → SWR (SW a0.toNatClampNeg) (nS a0.toNatClampNeg) ∧ SWR (SW a1.toNatClampNeg) (nS a1.toNatClampNeg) ∧ (0 ≤ xho.toInt ∧ xho.toInt ≤ 159) → ∀ k k' j j', BefK (SW a0.toNatClampNeg) (nS a0.toNatClampNeg) a2.toInt k → BehK (SW a0.toNatClampNeg) (nS a0.toNatClampNeg) a2.toInt k' → BefK (SW a1.toNatClampNeg) (nS a1.toNatClampNeg) a2.toInt j → BehK (SW a1.toNatClampNeg) (nS a1.toNatClampNeg) a2.toInt j' → r.toInt = aheadV (mostV (farI (SW a0.toNatClampNeg k 0).toInt xho.toInt) (farI (SW a0.toNatClampNeg k' 0).toInt xho.toInt) (SW a0.toNatClampNeg k 1).toInt (SW a0.toNatClampNeg k' 1).toInt a2.toInt) (leastV (farI (SW a1.toNatClampNeg j 0).toInt xho.toInt) (farI (SW a1.toNatClampNeg j' 0).toInt xho.toInt) (SW a1.toNatClampNeg j 1).toInt (SW a1.toNatClampNeg j' 1).toInt a2.toInt) (mostV (farI (SW a1.toNatClampNeg j 0).toInt xho.toInt) (farI (SW a1.toNatClampNeg j' 0).toInt xho.toInt) (SW a1.toNatClampNeg j 1).toInt (SW a1.toNatClampNeg j' 1).toInt a2.toInt) (leastV (farI (SW a0.toNatClampNeg k 0).toInt xho.toInt) (farI (SW a0.toNatClampNeg k' 0).toInt xho.toInt) (SW a0.toNatClampNeg k 1).toInt (SW a0.toNatClampNeg k' 1).toInt a2.toInt))) (fun _ _ => True) (va_A [] sz)) 0 0 (va_A [] sz) := by
  refine Met.ofW (cc := cX5_ahead) (maxL := 6) (ret := (some .int)) (by decide) rfl ?_
  intro p e s m args below meth c s₁ B hml hv
  obtain ⟨rfl, hsz, hP, hK, hN⟩ := hv
  have hx := B.exec
  have hb := B.bytes
  have hr := B.returns
  have hts := atoms_spec (ws := wsX5_ahead) B.pre
  have hown : s.vm.findClass RX5 = some m.cls := findClass_of_methodNamed B.named
  have hlocks := B.notSynchronized
  subst hsz
  generalize hAe : va_A [] s.heap.size = A at ⊢
  have hA : ∀ q : Nat, s.heap.size ≤ q → A q := fun q h => by rw [← hAe]; exact Or.inr h
  have hS : va_S A s.heap s.heap [] := va_S.rf
  have hP : va_P (dC, dI) vwCl (([(h0, .inr (6, [.ref sea, .ref pas, .ref fl, .ref fc, .int xlf, .int xhr, .int xho, .int xga, .int xsg, .int xpr, .int xfa, .long xls]))] : va_W) ++ va_pl L f) s.heap := hP
  have hl := lv_entry ([.ref h0, .int a0, .int a1, .int a2]) (n := 6) (Nat.le_of_ble_eq_true rfl)
  rw [lg_entry_eq]
  generalize (lg_sl ([.ref h0, .int a0, .int a1, .int a2]) ++ List.replicate (6 - (lg_sl ([.ref h0, .int a0, .int a1, .int a2])).length) Slot.unset).toArray = ls at hl ⊢
  have hl : lv_has ls 6 [(0, .ref h0), (1, .int a0), (2, .int a1), (3, .int a2)] := hl
  refine lv_aload_n hx hb dX5_ahead_0 rfl (lv_at hl 0 rfl) ?_
  refine lv_iload_n hx hb dX5_ahead_1 rfl (lv_at hl 1 rfl) ?_
  have hPc : va_P (dC, dI) vwCl (([(h0, .inr (6, [.ref sea, .ref pas, .ref fl, .ref fc, .int xlf, .int xhr, .int xho, .int xga, .int xsg, .int xpr, .int xfa, .long xls]))] : va_W) ++ va_pl L f) s.heap := va_P.part (X := [(h0, .inr (6, [.ref sea, .ref pas, .ref fl, .ref fc, .int xlf, .int xhr, .int xho, .int xga, .int xsg, .int xpr, .int xfa, .long xls]))]) hP [0] rfl
  have hKc := hK.sub (tys' := [(cO, .object "java/lang/Object")]) [0] rfl
  refine va_callq (va_runV (As := [.int a0]) (rest := []) ⟨hx, hb, hml, hown, hts⟩ (c_X5_shipOf l dC dI s.heap.size L f h0 sea pas fl fc xlf xhr xho xga xsg xpr xfa xls cB own te cO rr cw n sa V oa ia nO OW nS SW a0 inv) (cwV 1 hts gX5_ahead_X5_shipOf rfl rfl rfl (by decide +kernel) ⟨Nat.le_of_ble_eq_true rfl, Nat.le_of_ble_eq_true rfl⟩) ⟨fun a U g mk q => by obtain ⟨q0, q1, qP, qK, qN⟩ := q; exact ⟨q0, q1, qP, va_K.moved (u := U) (U := U.calling g mk a) (Vm.Alike.refl U.vm) qK, NW.same (u := U) (U := U.calling g mk a) rfl qN⟩, va_recv hKc hPc (ci := 6) (q0 := 0) rfl rfl, fun U hU hW => ⟨rfl, by rw [hU], by rw [hU]; exact hPc, va_K.moved hW.alike hKc, NW.warm hW hN⟩⟩ rfl rfl hl.1 rfl (lv_room (Nat.le_of_ble_eq_true rfl)) dX5_ahead_2 ⟨(Nat.zero_le _), (Nat.zero_le _)⟩) hS (fun q _ h => ro_A hS hA q h) (ro_A hS hA) (fun r_1 u t H1 locs ht hvm k_2 hB hz1 hk1 hS => ?_)
  have hP := ro_P hk1 hP
  generalize H1 = H at hP hS ⊢
  try dsimp only at k_2
  obtain ⟨k_2, k_3⟩ := k_2
  rcases r_1 with _ | q_4
  · skip
    have hno := k_3 rfl
    refine W.eq (g2 := F0 m 5 ls [.null]) rfl ?_
    refine lv_astoreN (lv' := [(4, .null), (0, .ref h0), (1, .int a0), (2, .int a1), (3, .int a2)]) hx hb dX5_ahead_5 hl (by decide) rfl (fun ls hl => ?_)
    refine lv_aload_n hx hb dX5_ahead_7 rfl (lv_at hl 1 rfl) ?_
    refine lv_iload_n hx hb dX5_ahead_8 rfl (lv_at hl 3 rfl) ?_
    have hPc : va_P (dC, dI) vwCl (([(h0, .inr (6, [.ref sea, .ref pas, .ref fl, .ref fc, .int xlf, .int xhr, .int xho, .int xga, .int xsg, .int xpr, .int xfa, .long xls]))] : va_W) ++ va_pl L f) H := va_P.part (X := [(h0, .inr (6, [.ref sea, .ref pas, .ref fl, .ref fc, .int xlf, .int xhr, .int xho, .int xga, .int xsg, .int xpr, .int xfa, .long xls]))]) hP [0] rfl
    have hKc := hK.sub (tys' := [(cO, .object "java/lang/Object")]) [0] rfl
    refine va_callq (va_runV (As := [.int a1]) (rest := []) ⟨hx, hb, hml, hown, hts⟩ (c_X5_shipOf l dC dI H.size L f h0 sea pas fl fc xlf xhr xho xga xsg xpr xfa xls cB own te cO rr cw n sa V oa ia nO OW nS SW a1 inv) (cwV 1 hts gX5_ahead_X5_shipOf rfl rfl rfl (by decide +kernel) ⟨Nat.le_of_ble_eq_true rfl, Nat.le_of_ble_eq_true rfl⟩) ⟨fun a U g mk q => by obtain ⟨q0, q1, qP, qK, qN⟩ := q; exact ⟨q0, q1, qP, va_K.moved (u := U) (U := U.calling g mk a) (Vm.Alike.refl U.vm) qK, NW.same (u := U) (U := U.calling g mk a) rfl qN⟩, va_recv hKc hPc (ci := 6) (q0 := 0) rfl rfl, fun U hU hW => ⟨rfl, by rw [hU], by rw [hU]; exact hPc, va_K.moved hW.alike hKc, NW.warm hW hN⟩⟩ rfl rfl hl.1 rfl (lv_room (Nat.le_of_ble_eq_true rfl)) dX5_ahead_9 ⟨(Nat.zero_le _), (Nat.zero_le _)⟩) hS (fun q _ h => ro_A hS hA q h) (ro_A hS hA) (fun r_5 u t H1 locs ht hvm k_6 hB hz1 hk1 hS => ?_)
    have hP := ro_P hk1 hP
    generalize H1 = H at hP hS ⊢
    try dsimp only at k_6
    obtain ⟨k_6, k_7⟩ := k_6
    rcases r_5 with _ | q_8
    · skip
      have hno := k_7 rfl
      refine W.eq (g2 := F0 m 12 ls [.null]) rfl ?_
      refine lv_astoreN (lv' := [(5, .null), (4, .null), (0, .ref h0), (1, .int a0), (2, .int a1), (3, .int a2)]) hx hb dX5_ahead_12 hl (by decide) rfl (fun ls hl => ?_)
      refine lv_aloadN hx hb dX5_ahead_14 (lv_at hl 1 rfl) ?_
      refine lv_ifnullN (tgt := 38) hx hb dX5_ahead_16 (by decide) ?_
      refine lv_iconst (v := (-1)) hx hb dX5_ahead_38 (by decide) ?_
      have hv9 : (-1 : Int32).toInt = (-1) := by decide
      exact W.iret (v := (-1)) hx hb hr (fun t ht hW => ⟨⟨(-1), (), rfl, ⟨(fun _ => rfl), (fun h => absurd h (by omega)), (fun h => absurd h (by omega))⟩, trivial⟩, hS.F ht⟩) hS.2.2 dX5_ahead_39
    · skip
      obtain ⟨hi_9, hi_10, rfl⟩ := k_6 q_8 rfl
      refine W.eq (g2 := F0 m 12 ls [.ref (sa a1.toNatClampNeg)]) rfl ?_
      have hn8 := inv.2.2.2.2.1
      have hsp_11 := inv.2.2.2.2.2 a1.toNatClampNeg (tn_lt (by omega) (by omega))
      refine lv_astore (lv' := [(5, .ref (sa a1.toNatClampNeg)), (4, .null), (0, .ref h0), (1, .int a0), (2, .int a1), (3, .int a2)]) hx hb dX5_ahead_12 hl (by decide) rfl (fun ls hl => ?_)
      refine lv_aloadN hx hb dX5_ahead_14 (lv_at hl 1 rfl) ?_
      refine lv_ifnullN (tgt := 38) hx hb dX5_ahead_16 (by decide) ?_
      refine lv_iconst (v := (-1)) hx hb dX5_ahead_38 (by decide) ?_
      have hv9 : (-1 : Int32).toInt = (-1) := by decide
      exact W.iret (v := (-1)) hx hb hr (fun t ht hW => ⟨⟨(-1), (), rfl, ⟨(fun _ => rfl), (fun h => absurd h (by omega)), (fun h => absurd h (by omega))⟩, trivial⟩, hS.F ht⟩) hS.2.2 dX5_ahead_39
  · skip
    obtain ⟨hi_12, hi_13, rfl⟩ := k_2 q_4 rfl
    refine W.eq (g2 := F0 m 5 ls [.ref (sa a0.toNatClampNeg)]) rfl ?_
    have hn8 := inv.2.2.2.2.1
    have hsp_14 := inv.2.2.2.2.2 a0.toNatClampNeg (tn_lt (by omega) (by omega))
    refine lv_astore (lv' := [(4, .ref (sa a0.toNatClampNeg)), (0, .ref h0), (1, .int a0), (2, .int a1), (3, .int a2)]) hx hb dX5_ahead_5 hl (by decide) rfl (fun ls hl => ?_)
    refine lv_aload_n hx hb dX5_ahead_7 rfl (lv_at hl 1 rfl) ?_
    refine lv_iload_n hx hb dX5_ahead_8 rfl (lv_at hl 3 rfl) ?_
    have hPc : va_P (dC, dI) vwCl (([(h0, .inr (6, [.ref sea, .ref pas, .ref fl, .ref fc, .int xlf, .int xhr, .int xho, .int xga, .int xsg, .int xpr, .int xfa, .long xls]))] : va_W) ++ va_pl L f) H := va_P.part (X := [(h0, .inr (6, [.ref sea, .ref pas, .ref fl, .ref fc, .int xlf, .int xhr, .int xho, .int xga, .int xsg, .int xpr, .int xfa, .long xls]))]) hP [0] rfl
    have hKc := hK.sub (tys' := [(cO, .object "java/lang/Object")]) [0] rfl
    refine va_callq (va_runV (As := [.int a1]) (rest := []) ⟨hx, hb, hml, hown, hts⟩ (c_X5_shipOf l dC dI H.size L f h0 sea pas fl fc xlf xhr xho xga xsg xpr xfa xls cB own te cO rr cw n sa V oa ia nO OW nS SW a1 inv) (cwV 1 hts gX5_ahead_X5_shipOf rfl rfl rfl (by decide +kernel) ⟨Nat.le_of_ble_eq_true rfl, Nat.le_of_ble_eq_true rfl⟩) ⟨fun a U g mk q => by obtain ⟨q0, q1, qP, qK, qN⟩ := q; exact ⟨q0, q1, qP, va_K.moved (u := U) (U := U.calling g mk a) (Vm.Alike.refl U.vm) qK, NW.same (u := U) (U := U.calling g mk a) rfl qN⟩, va_recv hKc hPc (ci := 6) (q0 := 0) rfl rfl, fun U hU hW => ⟨rfl, by rw [hU], by rw [hU]; exact hPc, va_K.moved hW.alike hKc, NW.warm hW hN⟩⟩ rfl rfl hl.1 rfl (lv_room (Nat.le_of_ble_eq_true rfl)) dX5_ahead_9 ⟨(Nat.zero_le _), (Nat.zero_le _)⟩) hS (fun q _ h => ro_A hS hA q h) (ro_A hS hA) (fun r_15 u t H1 locs ht hvm k_16 hB hz1 hk1 hS => ?_)
    have hP := ro_P hk1 hP
    generalize H1 = H at hP hS ⊢
    try dsimp only at k_16
    obtain ⟨k_16, k_17⟩ := k_16
    rcases r_15 with _ | q_18
    · skip
      have hno := k_17 rfl
      refine W.eq (g2 := F0 m 12 ls [.null]) rfl ?_
      refine lv_astoreN (lv' := [(5, .null), (4, .ref (sa a0.toNatClampNeg)), (0, .ref h0), (1, .int a0), (2, .int a1), (3, .int a2)]) hx hb dX5_ahead_12 hl (by decide) rfl (fun ls hl => ?_)
      refine lv_aload hx hb dX5_ahead_14 (lv_at hl 1 rfl) ?_
      refine lv_ifnull hx hb dX5_ahead_16 ?_
      refine lv_aloadN hx hb dX5_ahead_19 (lv_at hl 0 rfl) ?_
      refine lv_ifnullN (tgt := 38) hx hb dX5_ahead_21 (by decide) ?_
      refine lv_iconst (v := (-1)) hx hb dX5_ahead_38 (by decide) ?_
      have hv9 : (-1 : Int32).toInt = (-1) := by decide
      exact W.iret (v := (-1)) hx hb hr (fun t ht hW => ⟨⟨(-1), (), rfl, ⟨(fun _ => rfl), (fun h => absurd h (by omega)), (fun h => absurd h (by omega))⟩, trivial⟩, hS.F ht⟩) hS.2.2 dX5_ahead_39
    · skip
      obtain ⟨hi_19, hi_20, rfl⟩ := k_16 q_18 rfl
      refine W.eq (g2 := F0 m 12 ls [.ref (sa a1.toNatClampNeg)]) rfl ?_
      have hn8 := inv.2.2.2.2.1
      have hsp_21 := inv.2.2.2.2.2 a1.toNatClampNeg (tn_lt (by omega) (by omega))
      refine lv_astore (lv' := [(5, .ref (sa a1.toNatClampNeg)), (4, .ref (sa a0.toNatClampNeg)), (0, .ref h0), (1, .int a0), (2, .int a1), (3, .int a2)]) hx hb dX5_ahead_12 hl (by decide) rfl (fun ls hl => ?_)
      refine lv_aload hx hb dX5_ahead_14 (lv_at hl 1 rfl) ?_
      refine lv_ifnull hx hb dX5_ahead_16 ?_
      refine lv_aload hx hb dX5_ahead_19 (lv_at hl 0 rfl) ?_
      refine lv_ifnull hx hb dX5_ahead_21 ?_
      refine lv_iload_n hx hb dX5_ahead_24 rfl (lv_at hl 3 rfl) ?_
      refine lv_iload_n hx hb dX5_ahead_25 rfl (lv_at hl 4 rfl) ?_
      refine lv_icmp_eq (tgt := 38) hx hb dX5_ahead_26 (by decide) (fun c_22 => ?_) (fun c_22 => ?_)
      · skip
        have qc_22 : a0.toInt = a1.toInt := eq_k rfl rfl c_22
        refine lv_iconst (v := (-1)) hx hb dX5_ahead_38 (by decide) ?_
        have hv9 : (-1 : Int32).toInt = (-1) := by decide
        exact W.iret (v := (-1)) hx hb hr (fun t ht hW => ⟨⟨(-1), (), rfl, ⟨(fun _ => rfl), (fun h => absurd h (by omega)), (fun h => absurd h (by omega))⟩, trivial⟩, hS.F ht⟩) hS.2.2 dX5_ahead_39
      · skip
        have qc_22 : a0.toInt ≠ a1.toInt := ne_k rfl rfl c_22
        refine lv_iload_n hx hb dX5_ahead_29 rfl (lv_at hl 5 rfl) ?_
        refine lv_ldc (v := (100000)) hx hb hown (hts (.constant RX5 171 (100000)) (by decide +kernel)) dX5_ahead_30 ?_
        refine va_calli (va_runS (As := [.int a2, .int (100000)]) (rest := []) ⟨hx, hb, hml, hown, hts⟩ (c_X5_outside l H.size a2 (100000) ) (va_cwS 2 hts gX5_ahead_X5_outside rfl rfl rfl (by decide +kernel) ⟨Nat.le_of_ble_eq_true rfl, Nat.le_of_ble_eq_true rfl⟩) ⟨fun a U g mk q => by obtain ⟨q0, q1⟩ := q; exact ⟨q0, q1⟩, fun U hU hW => ⟨rfl, congrArg Array.size hU⟩⟩ rfl rfl hl.1 rfl (lv_room (Nat.le_of_ble_eq_true rfl)) dX5_ahead_32 ⟨(Nat.zero_le _), (Nat.zero_le _)⟩) hS (fun q _ h => ro_A hS hA q h) (ro_A hS hA) (fun r_23 u t H1 locs ht hvm k_24 hB hz1 hk1 hS => ?_)
        have hP := ro_P hk1 hP
        generalize H1 = H at hP hS ⊢
        try dsimp only at k_24
        obtain ⟨k_24, k_25⟩ := k_24
        refine lv_if_eq (tgt := 40) hx hb dX5_ahead_35 (by decide) (fun c_26 => ?_) (fun c_26 => ?_)
        · skip
          have b_27 := b01z k_24 c_26
          (try simp only [Int32.lt_iff_toInt_lt, Int32.le_iff_toInt_le, ← Int32.toInt_inj, Int32.reduceToInt, zl1, zl2, zl3, zl4, zl9] at b_27)
          (try simp only [Int32.reduceToInt] at b_27)
          refine lv_aload hx hb dX5_ahead_40 (lv_at hl 1 rfl) ?_
          refine lv_iload_n hx hb dX5_ahead_42 rfl (lv_at hl 5 rfl) ?_
          have hPc : va_P (dC, dI) vwCl (([] : va_W) ++ va_pl L f) H := va_P.part (X := [(h0, .inr (6, [.ref sea, .ref pas, .ref fl, .ref fc, .int xlf, .int xhr, .int xho, .int xga, .int xsg, .int xpr, .int xfa, .long xls]))]) hP [] rfl
          have hKc := hK.sub (tys' := [(cO, .object "java/lang/Object")]) [0] rfl
          obtain ⟨k8_28, hk8_28⟩ : ∃ k : Nat, (([] : va_W) ++ va_pl L f)[k]? = some ((sa a0.toNatClampNeg), .inr (4, [.int (V a0.toNatClampNeg 0), .int (V a0.toNatClampNeg 1), .int (V a0.toNatClampNeg 2), .ref (oa a0.toNatClampNeg), .ref (ia a0.toNatClampNeg), .int (V a0.toNatClampNeg 3), .int (V a0.toNatClampNeg 4), .int (V a0.toNatClampNeg 5), .int (V a0.toNatClampNeg 6), .int (V a0.toNatClampNeg 7), .int (V a0.toNatClampNeg 8), .int (V a0.toNatClampNeg 9), .int (V a0.toNatClampNeg 10), .int (V a0.toNatClampNeg 11)])) := pl_at hsp_14.1 hsp_14.2.1
          refine va_calli (va_runV (As := [.int a2]) (rest := []) ⟨hx, hb, hml, hown, hts⟩ (c_X3_isSeenAround l dC dI H.size L f (sa a0.toNatClampNeg) (oa a0.toNatClampNeg) (ia a0.toNatClampNeg) (V a0.toNatClampNeg) te cO (nS a0.toNatClampNeg) (SW a0.toNatClampNeg) a2 ⟨hsp_14.1, hsp_14.2.1⟩ hsp_14.2.2.2.2.2.2.1) (cwV 1 hts gX5_ahead_X3_isSeenAround rfl rfl rfl (by decide +kernel) ⟨Nat.le_of_ble_eq_true rfl, Nat.le_of_ble_eq_true rfl⟩) ⟨fun a U g mk q => by obtain ⟨q0, q1, qP, qK, qN⟩ := q; exact ⟨q0, q1, qP, va_K.moved (u := U) (U := U.calling g mk a) (Vm.Alike.refl U.vm) qK, NW.same (u := U) (U := U.calling g mk a) rfl qN⟩, va_recv hKc hPc (ci := 4) (q0 := k8_28) rfl hk8_28, fun U hU hW => ⟨rfl, by rw [hU], by rw [hU]; exact hPc, va_K.moved hW.alike hKc, NW.warm hW hN⟩⟩ rfl rfl hl.1 rfl (lv_room (Nat.le_of_ble_eq_true rfl)) dX5_ahead_43 ⟨(Nat.zero_le _), (Nat.zero_le _)⟩) hS (fun q _ h => ro_A hS hA q h) (ro_A hS hA) (fun r_29 u t H1 locs ht hvm k_30 hB hz1 hk1 hS => ?_)
          have hP := ro_P hk1 hP
          generalize H1 = H at hP hS ⊢
          try dsimp only at k_30
          obtain ⟨k_30, k_31, k_32⟩ := k_30
          have hid_33 := Hid.mk k_30
          clear k_30
          refine lv_if_eq (tgt := 58) hx hb dX5_ahead_46 (by decide) (fun c_34 => ?_) (fun c_34 => ?_)
          · skip
            have qc_34 : r_29.toInt = 0 := eq_k rfl (by decide) c_34
            refine lv_bipush (v := (-9)) hx hb dX5_ahead_58 (by decide) ?_
            have hv9 : (-9 : Int32).toInt = (-9) := by decide
            exact W.iret (v := (-9)) hx hb hr (fun t ht hW => ⟨⟨(-9), (), rfl, ⟨(fun h => absurd ⟨⟨by omega, by omega⟩, ⟨by omega, by omega⟩, by omega, by omega, by omega⟩ h), (fun _ _ => rfl), (fun _ _ k k' j j' h1 h2 h3 h4 => absurd trivial (fun _ => by rcases k_31 (by omega) with h | h; (have := h k h1.1; have := h1.2.1; omega); (have := h k' h2.1; have := h2.2.1; omega)))⟩, trivial⟩, hS.F ht⟩) hS.2.2 dX5_ahead_60
          · skip
            have qc_34 : r_29.toInt ≠ 0 := ne_k rfl (by decide) c_34
            refine lv_aload hx hb dX5_ahead_49 (lv_at hl 0 rfl) ?_
            refine lv_iload_n hx hb dX5_ahead_51 rfl (lv_at hl 5 rfl) ?_
            have hPc : va_P (dC, dI) vwCl (([] : va_W) ++ va_pl L f) H := va_P.part (X := [(h0, .inr (6, [.ref sea, .ref pas, .ref fl, .ref fc, .int xlf, .int xhr, .int xho, .int xga, .int xsg, .int xpr, .int xfa, .long xls]))]) hP [] rfl
            have hKc := hK.sub (tys' := [(cO, .object "java/lang/Object")]) [0] rfl
            obtain ⟨k8_35, hk8_35⟩ : ∃ k : Nat, (([] : va_W) ++ va_pl L f)[k]? = some ((sa a1.toNatClampNeg), .inr (4, [.int (V a1.toNatClampNeg 0), .int (V a1.toNatClampNeg 1), .int (V a1.toNatClampNeg 2), .ref (oa a1.toNatClampNeg), .ref (ia a1.toNatClampNeg), .int (V a1.toNatClampNeg 3), .int (V a1.toNatClampNeg 4), .int (V a1.toNatClampNeg 5), .int (V a1.toNatClampNeg 6), .int (V a1.toNatClampNeg 7), .int (V a1.toNatClampNeg 8), .int (V a1.toNatClampNeg 9), .int (V a1.toNatClampNeg 10), .int (V a1.toNatClampNeg 11)])) := pl_at hsp_21.1 hsp_21.2.1
            refine va_calli (va_runV (As := [.int a2]) (rest := []) ⟨hx, hb, hml, hown, hts⟩ (c_X3_isSeenAround l dC dI H.size L f (sa a1.toNatClampNeg) (oa a1.toNatClampNeg) (ia a1.toNatClampNeg) (V a1.toNatClampNeg) te cO (nS a1.toNatClampNeg) (SW a1.toNatClampNeg) a2 ⟨hsp_21.1, hsp_21.2.1⟩ hsp_21.2.2.2.2.2.2.1) (cwV 1 hts gX5_ahead_X3_isSeenAround rfl rfl rfl (by decide +kernel) ⟨Nat.le_of_ble_eq_true rfl, Nat.le_of_ble_eq_true rfl⟩) ⟨fun a U g mk q => by obtain ⟨q0, q1, qP, qK, qN⟩ := q; exact ⟨q0, q1, qP, va_K.moved (u := U) (U := U.calling g mk a) (Vm.Alike.refl U.vm) qK, NW.same (u := U) (U := U.calling g mk a) rfl qN⟩, va_recv hKc hPc (ci := 4) (q0 := k8_35) rfl hk8_35, fun U hU hW => ⟨rfl, by rw [hU], by rw [hU]; exact hPc, va_K.moved hW.alike hKc, NW.warm hW hN⟩⟩ rfl rfl hl.1 rfl (lv_room (Nat.le_of_ble_eq_true rfl)) dX5_ahead_52 ⟨(Nat.zero_le _), (Nat.zero_le _)⟩) hS (fun q _ h => ro_A hS hA q h) (ro_A hS hA) (fun r_36 u t H1 locs ht hvm k_37 hB hz1 hk1 hS => ?_)
            have hP := ro_P hk1 hP
            generalize H1 = H at hP hS ⊢
            try dsimp only at k_37
            obtain ⟨k_37, k_38, k_39⟩ := k_37
            have hid_40 := Hid.mk k_37
            clear k_37
            refine lv_if_ne (tgt := 61) hx hb dX5_ahead_55 (by decide) (fun c_41 => ?_) (fun c_41 => ?_)
            · skip
              have qc_41 : r_36.toInt ≠ 0 := ne_k rfl (by decide) c_41
              refine lv_aload_n hx hb dX5_ahead_61 rfl (lv_at hl 2 rfl) ?_
              refine lv_aload hx hb dX5_ahead_62 (lv_at hl 1 rfl) ?_
              refine lv_iload_n hx hb dX5_ahead_64 rfl (lv_at hl 5 rfl) ?_
              have hPc : va_P (dC, dI) vwCl (([(h0, .inr (6, [.ref sea, .ref pas, .ref fl, .ref fc, .int xlf, .int xhr, .int xho, .int xga, .int xsg, .int xpr, .int xfa, .long xls]))] : va_W) ++ va_pl L f) H := va_P.part (X := [(h0, .inr (6, [.ref sea, .ref pas, .ref fl, .ref fc, .int xlf, .int xhr, .int xho, .int xga, .int xsg, .int xpr, .int xfa, .long xls]))]) hP [0] rfl
              have hKc := hK.sub (tys' := [(cO, .object "java/lang/Object")]) [0] rfl
              refine va_calli (va_runV (As := [.ref (sa a0.toNatClampNeg), .int a2]) (rest := []) ⟨hx, hb, hml, hown, hts⟩ (c_X5_mostDistance l dC dI H.size L f h0 sea pas fl fc xlf xhr xho xga xsg xpr xfa xls (sa a0.toNatClampNeg) (oa a0.toNatClampNeg) (ia a0.toNatClampNeg) (V a0.toNatClampNeg) (nS a0.toNatClampNeg) (SW a0.toNatClampNeg) te cO a2 ⟨hsp_14.1, hsp_14.2.1⟩ hsp_14.2.2.2.2.2.2.1) (cwV 2 hts gX5_ahead_X5_mostDistance rfl rfl rfl (by decide +kernel) ⟨Nat.le_of_ble_eq_true rfl, Nat.le_of_ble_eq_true rfl⟩) ⟨fun a U g mk q => by obtain ⟨q0, q1, qP, qK, qN⟩ := q; exact ⟨q0, q1, qP, va_K.moved (u := U) (U := U.calling g mk a) (Vm.Alike.refl U.vm) qK, NW.same (u := U) (U := U.calling g mk a) rfl qN⟩, va_recv hKc hPc (ci := 6) (q0 := 0) rfl rfl, fun U hU hW => ⟨rfl, by rw [hU], by rw [hU]; exact hPc, va_K.moved hW.alike hKc, NW.warm hW hN⟩⟩ rfl rfl hl.1 rfl (lv_room (Nat.le_of_ble_eq_true rfl)) dX5_ahead_65 ⟨(Nat.zero_le _), (Nat.zero_le _)⟩) hS (fun q _ h => ro_A hS hA q h) (ro_A hS hA) (fun r_42 u t H1 locs ht hvm k_43 hB hz1 hk1 hS => ?_)
              have hP := ro_P hk1 hP
              generalize H1 = H at hP hS ⊢
              try dsimp only at k_43
              obtain ⟨k_43, k_44⟩ := k_43
              refine lv_aload_n hx hb dX5_ahead_68 rfl (lv_at hl 2 rfl) ?_
              refine lv_aload hx hb dX5_ahead_69 (lv_at hl 0 rfl) ?_
              refine lv_iload_n hx hb dX5_ahead_71 rfl (lv_at hl 5 rfl) ?_
              have hPc : va_P (dC, dI) vwCl (([(h0, .inr (6, [.ref sea, .ref pas, .ref fl, .ref fc, .int xlf, .int xhr, .int xho, .int xga, .int xsg, .int xpr, .int xfa, .long xls]))] : va_W) ++ va_pl L f) H := va_P.part (X := [(h0, .inr (6, [.ref sea, .ref pas, .ref fl, .ref fc, .int xlf, .int xhr, .int xho, .int xga, .int xsg, .int xpr, .int xfa, .long xls]))]) hP [0] rfl
              have hKc := hK.sub (tys' := [(cO, .object "java/lang/Object")]) [0] rfl
              refine va_calli (va_runV (As := [.ref (sa a1.toNatClampNeg), .int a2]) (rest := [.int r_42]) ⟨hx, hb, hml, hown, hts⟩ (c_X5_leastDistance l dC dI H.size L f h0 sea pas fl fc xlf xhr xho xga xsg xpr xfa xls (sa a1.toNatClampNeg) (oa a1.toNatClampNeg) (ia a1.toNatClampNeg) (V a1.toNatClampNeg) (nS a1.toNatClampNeg) (SW a1.toNatClampNeg) te cO a2 ⟨hsp_21.1, hsp_21.2.1⟩ hsp_21.2.2.2.2.2.2.1) (cwV 2 hts gX5_ahead_X5_leastDistance rfl rfl rfl (by decide +kernel) ⟨Nat.le_of_ble_eq_true rfl, Nat.le_of_ble_eq_true rfl⟩) ⟨fun a U g mk q => by obtain ⟨q0, q1, qP, qK, qN⟩ := q; exact ⟨q0, q1, qP, va_K.moved (u := U) (U := U.calling g mk a) (Vm.Alike.refl U.vm) qK, NW.same (u := U) (U := U.calling g mk a) rfl qN⟩, va_recv hKc hPc (ci := 6) (q0 := 0) rfl rfl, fun U hU hW => ⟨rfl, by rw [hU], by rw [hU]; exact hPc, va_K.moved hW.alike hKc, NW.warm hW hN⟩⟩ rfl rfl hl.1 rfl (lv_room (Nat.le_of_ble_eq_true rfl)) dX5_ahead_72 ⟨(Nat.zero_le _), (Nat.zero_le _)⟩) hS (fun q _ h => ro_A hS hA q h) (ro_A hS hA) (fun r_45 u t H1 locs ht hvm k_46 hB hz1 hk1 hS => ?_)
              have hP := ro_P hk1 hP
              generalize H1 = H at hP hS ⊢
              try dsimp only at k_46
              obtain ⟨k_46, k_47⟩ := k_46
              refine lv_icmp_ge (tgt := 80) hx hb dX5_ahead_75 (by decide) (fun c_48 => ?_) (fun c_48 => ?_)
              · skip
                have qc_48 : r_45.toInt ≤ r_42.toInt := le_k rfl rfl c_48
                refine lv_aload_n hx hb dX5_ahead_80 rfl (lv_at hl 2 rfl) ?_
                refine lv_aload hx hb dX5_ahead_81 (lv_at hl 0 rfl) ?_
                refine lv_iload_n hx hb dX5_ahead_83 rfl (lv_at hl 5 rfl) ?_
                have hPc : va_P (dC, dI) vwCl (([(h0, .inr (6, [.ref sea, .ref pas, .ref fl, .ref fc, .int xlf, .int xhr, .int xho, .int xga, .int xsg, .int xpr, .int xfa, .long xls]))] : va_W) ++ va_pl L f) H := va_P.part (X := [(h0, .inr (6, [.ref sea, .ref pas, .ref fl, .ref fc, .int xlf, .int xhr, .int xho, .int xga, .int xsg, .int xpr, .int xfa, .long xls]))]) hP [0] rfl
                have hKc := hK.sub (tys' := [(cO, .object "java/lang/Object")]) [0] rfl
                refine va_calli (va_runV (As := [.ref (sa a1.toNatClampNeg), .int a2]) (rest := []) ⟨hx, hb, hml, hown, hts⟩ (c_X5_mostDistance l dC dI H.size L f h0 sea pas fl fc xlf xhr xho xga xsg xpr xfa xls (sa a1.toNatClampNeg) (oa a1.toNatClampNeg) (ia a1.toNatClampNeg) (V a1.toNatClampNeg) (nS a1.toNatClampNeg) (SW a1.toNatClampNeg) te cO a2 ⟨hsp_21.1, hsp_21.2.1⟩ hsp_21.2.2.2.2.2.2.1) (cwV 2 hts gX5_ahead_X5_mostDistance rfl rfl rfl (by decide +kernel) ⟨Nat.le_of_ble_eq_true rfl, Nat.le_of_ble_eq_true rfl⟩) ⟨fun a U g mk q => by obtain ⟨q0, q1, qP, qK, qN⟩ := q; exact ⟨q0, q1, qP, va_K.moved (u := U) (U := U.calling g mk a) (Vm.Alike.refl U.vm) qK, NW.same (u := U) (U := U.calling g mk a) rfl qN⟩, va_recv hKc hPc (ci := 6) (q0 := 0) rfl rfl, fun U hU hW => ⟨rfl, by rw [hU], by rw [hU]; exact hPc, va_K.moved hW.alike hKc, NW.warm hW hN⟩⟩ rfl rfl hl.1 rfl (lv_room (Nat.le_of_ble_eq_true rfl)) dX5_ahead_84 ⟨(Nat.zero_le _), (Nat.zero_le _)⟩) hS (fun q _ h => ro_A hS hA q h) (ro_A hS hA) (fun r_49 u t H1 locs ht hvm k_50 hB hz1 hk1 hS => ?_)
                have hP := ro_P hk1 hP
                generalize H1 = H at hP hS ⊢
                try dsimp only at k_50
                obtain ⟨k_50, k_51⟩ := k_50
                refine lv_aload_n hx hb dX5_ahead_87 rfl (lv_at hl 2 rfl) ?_
                refine lv_aload hx hb dX5_ahead_88 (lv_at hl 1 rfl) ?_
                refine lv_iload_n hx hb dX5_ahead_90 rfl (lv_at hl 5 rfl) ?_
                have hPc : va_P (dC, dI) vwCl (([(h0, .inr (6, [.ref sea, .ref pas, .ref fl, .ref fc, .int xlf, .int xhr, .int xho, .int xga, .int xsg, .int xpr, .int xfa, .long xls]))] : va_W) ++ va_pl L f) H := va_P.part (X := [(h0, .inr (6, [.ref sea, .ref pas, .ref fl, .ref fc, .int xlf, .int xhr, .int xho, .int xga, .int xsg, .int xpr, .int xfa, .long xls]))]) hP [0] rfl
                have hKc := hK.sub (tys' := [(cO, .object "java/lang/Object")]) [0] rfl
                refine va_calli (va_runV (As := [.ref (sa a0.toNatClampNeg), .int a2]) (rest := [.int r_49]) ⟨hx, hb, hml, hown, hts⟩ (c_X5_leastDistance l dC dI H.size L f h0 sea pas fl fc xlf xhr xho xga xsg xpr xfa xls (sa a0.toNatClampNeg) (oa a0.toNatClampNeg) (ia a0.toNatClampNeg) (V a0.toNatClampNeg) (nS a0.toNatClampNeg) (SW a0.toNatClampNeg) te cO a2 ⟨hsp_14.1, hsp_14.2.1⟩ hsp_14.2.2.2.2.2.2.1) (cwV 2 hts gX5_ahead_X5_leastDistance rfl rfl rfl (by decide +kernel) ⟨Nat.le_of_ble_eq_true rfl, Nat.le_of_ble_eq_true rfl⟩) ⟨fun a U g mk q => by obtain ⟨q0, q1, qP, qK, qN⟩ := q; exact ⟨q0, q1, qP, va_K.moved (u := U) (U := U.calling g mk a) (Vm.Alike.refl U.vm) qK, NW.same (u := U) (U := U.calling g mk a) rfl qN⟩, va_recv hKc hPc (ci := 6) (q0 := 0) rfl rfl, fun U hU hW => ⟨rfl, by rw [hU], by rw [hU]; exact hPc, va_K.moved hW.alike hKc, NW.warm hW hN⟩⟩ rfl rfl hl.1 rfl (lv_room (Nat.le_of_ble_eq_true rfl)) dX5_ahead_91 ⟨(Nat.zero_le _), (Nat.zero_le _)⟩) hS (fun q _ h => ro_A hS hA q h) (ro_A hS hA) (fun r_52 u t H1 locs ht hvm k_53 hB hz1 hk1 hS => ?_)
                have hP := ro_P hk1 hP
                generalize H1 = H at hP hS ⊢
                try dsimp only at k_53
                obtain ⟨k_53, k_54⟩ := k_53
                refine lv_icmp_ge (tgt := 101) hx hb dX5_ahead_94 (by decide) (fun c_55 => ?_) (fun c_55 => ?_)
                · skip
                  have qc_55 : r_52.toInt ≤ r_49.toInt := le_k rfl rfl c_55
                  refine lv_iconst (v := 2) hx hb dX5_ahead_101 (by decide) ?_
                  have hv9 : (2 : Int32).toInt = 2 := by decide
                  exact W.iret (v := 2) hx hb hr (fun t ht hW => ⟨⟨2, (), rfl, ⟨(fun h => absurd ⟨⟨by omega, by omega⟩, ⟨by omega, by omega⟩, by omega, by omega, by omega⟩ h), (fun _ h => absurd trivial (fun _ => by obtain ⟨⟨p1, q1⟩, ⟨p2, q2⟩⟩ := (hid_33.out) (by omega); obtain ⟨⟨p3, q3⟩, ⟨p4, q4⟩⟩ := (hid_40.out) (by omega); rcases h with (h | h) | (h | h); (have := h p1 q1.1; have := q1.2.1; omega); (have := h p2 q2.1; have := q2.2.1; omega); (have := h p3 q3.1; have := q3.2.1; omega); (have := h p4 q4.1; have := q4.2.1; omega))), (fun _ g k k' j j' h1 h2 h3 h4 => by have d0 := k_44 ⟨g.1, ⟨by omega, by omega⟩, g.2.2⟩ k k' h1 h2; have d1 := k_47 ⟨g.2.1, ⟨by omega, by omega⟩, g.2.2⟩ j j' h3 h4; have d2 := k_51 ⟨g.2.1, ⟨by omega, by omega⟩, g.2.2⟩ j j' h3 h4; have d3 := k_54 ⟨g.1, ⟨by omega, by omega⟩, g.2.2⟩ k k' h1 h2; unfold aheadV; rw [if_neg (by rw [← d0, ← d1]; omega), if_neg (by rw [← d2, ← d3]; omega)]; rfl)⟩, trivial⟩, hS.F ht⟩) hS.2.2 dX5_ahead_102
                · skip
                  have qc_55 : r_49.toInt < r_52.toInt := nle_k rfl rfl c_55
                  refine lv_iconst (v := 1) hx hb dX5_ahead_97 (by decide) ?_
                  refine lv_goto (tgt := 102) hx hb dX5_ahead_98 (by decide) ?_
                  have hv9 : (1 : Int32).toInt = 1 := by decide
                  exact W.iret (v := 1) hx hb hr (fun t ht hW => ⟨⟨1, (), rfl, ⟨(fun h => absurd ⟨⟨by omega, by omega⟩, ⟨by omega, by omega⟩, by omega, by omega, by omega⟩ h), (fun _ h => absurd trivial (fun _ => by obtain ⟨⟨p1, q1⟩, ⟨p2, q2⟩⟩ := (hid_33.out) (by omega); obtain ⟨⟨p3, q3⟩, ⟨p4, q4⟩⟩ := (hid_40.out) (by omega); rcases h with (h | h) | (h | h); (have := h p1 q1.1; have := q1.2.1; omega); (have := h p2 q2.1; have := q2.2.1; omega); (have := h p3 q3.1; have := q3.2.1; omega); (have := h p4 q4.1; have := q4.2.1; omega))), (fun _ g k k' j j' h1 h2 h3 h4 => by have d0 := k_44 ⟨g.1, ⟨by omega, by omega⟩, g.2.2⟩ k k' h1 h2; have d1 := k_47 ⟨g.2.1, ⟨by omega, by omega⟩, g.2.2⟩ j j' h3 h4; have d2 := k_51 ⟨g.2.1, ⟨by omega, by omega⟩, g.2.2⟩ j j' h3 h4; have d3 := k_54 ⟨g.1, ⟨by omega, by omega⟩, g.2.2⟩ k k' h1 h2; unfold aheadV; rw [if_neg (by rw [← d0, ← d1]; omega), if_pos (by rw [← d2, ← d3]; omega)]; rfl)⟩, trivial⟩, hS.F ht⟩) hS.2.2 dX5_ahead_102
              · skip
                have qc_48 : r_42.toInt < r_45.toInt := nle_k rfl rfl c_48
                refine lv_iconst (v := 0) hx hb dX5_ahead_78 (by decide) ?_
                have hv9 : (0 : Int32).toInt = 0 := by decide
                exact W.iret (v := 0) hx hb hr (fun t ht hW => ⟨⟨0, (), rfl, ⟨(fun h => absurd ⟨⟨by omega, by omega⟩, ⟨by omega, by omega⟩, by omega, by omega, by omega⟩ h), (fun _ h => absurd trivial (fun _ => by obtain ⟨⟨p1, q1⟩, ⟨p2, q2⟩⟩ := (hid_33.out) (by omega); obtain ⟨⟨p3, q3⟩, ⟨p4, q4⟩⟩ := (hid_40.out) (by omega); rcases h with (h | h) | (h | h); (have := h p1 q1.1; have := q1.2.1; omega); (have := h p2 q2.1; have := q2.2.1; omega); (have := h p3 q3.1; have := q3.2.1; omega); (have := h p4 q4.1; have := q4.2.1; omega))), (fun _ g k k' j j' h1 h2 h3 h4 => by have d0 := k_44 ⟨g.1, ⟨by omega, by omega⟩, g.2.2⟩ k k' h1 h2; have d1 := k_47 ⟨g.2.1, ⟨by omega, by omega⟩, g.2.2⟩ j j' h3 h4; unfold aheadV; rw [if_pos (by rw [← d0, ← d1]; omega)]; rfl)⟩, trivial⟩, hS.F ht⟩) hS.2.2 dX5_ahead_79
            · skip
              have qc_41 : r_36.toInt = 0 := eq_k rfl (by decide) c_41
              refine lv_bipush (v := (-9)) hx hb dX5_ahead_58 (by decide) ?_
              have hv9 : (-9 : Int32).toInt = (-9) := by decide
              exact W.iret (v := (-9)) hx hb hr (fun t ht hW => ⟨⟨(-9), (), rfl, ⟨(fun h => absurd ⟨⟨by omega, by omega⟩, ⟨by omega, by omega⟩, by omega, by omega, by omega⟩ h), (fun _ _ => rfl), (fun _ _ k k' j j' h1 h2 h3 h4 => absurd trivial (fun _ => by rcases k_38 (by omega) with h | h; (have := h j h3.1; have := h3.2.1; omega); (have := h j' h4.1; have := h4.2.1; omega)))⟩, trivial⟩, hS.F ht⟩) hS.2.2 dX5_ahead_60
        · skip
          have b_56 := b01n k_24 c_26
          (try simp only [Int32.lt_iff_toInt_lt, Int32.le_iff_toInt_le, ← Int32.toInt_inj, Int32.reduceToInt, zl1, zl2, zl3, zl4, zl9] at b_56)
          (try simp only [Int32.reduceToInt] at b_56)
          refine lv_iconst (v := (-1)) hx hb dX5_ahead_38 (by decide) ?_
          have hv9 : (-1 : Int32).toInt = (-1) := by decide
          exact W.iret (v := (-1)) hx hb hr (fun t ht hW => ⟨⟨(-1), (), rfl, ⟨(fun _ => rfl), (fun h => absurd h (by omega)), (fun h => absurd h (by omega))⟩, trivial⟩, hS.F ht⟩) hS.2.2 dX5_ahead_39
set_option maxRecDepth 20000 in
theorem iw_X5_freight_X3 : ∀ w ∈ wsX30, w ∈ wsX5_freight := fun w h => (List.mem_cons_of_mem _ (List.mem_append_left _ (List.mem_append_left _ (List.mem_append_right _ h))))
set_option maxHeartbeats 4000000 in
set_option maxRecDepth 100000 in
/-- freight -/
theorem c_X5_freight (l : Launch) (dC : Nat → ClassId) (dI : Nat → Nat → Nat) (sz : Nat) (L : List Nat) (f : Nat → va_E) (h0 : Nat) (sea : Nat) (pas : Nat) (fl : Nat) (fc : Nat) (xlf : Int32) (xhr : Int32) (xho : Int32) (xga : Int32) (xsg : Int32) (xpr : Int32) (xfa : Int32) (xls : Int64) (cB : ClassId) (own : Nat → Nat) (te : Nat) (cO : ClassId) (rr : Nat → Nat) (cw : Nat → Nat → Int32) (n : Nat) (sa : Nat → Nat) (V : Nat → Nat → Int32) (oa : Nat → Nat) (ia : Nat → Nat) (nO : Nat → Nat) (OW : Nat → Nat → Nat → Int32) (nS : Nat → Nat) (SW : Nat → Nat → Nat → Int32) (a0 : Int32) (hnm : ∀ i : Nat, i < n → (V i 0).toInt = (i : Int)) (inv : Inv L f own te cO cB rr cw fl n sa V oa ia nO OW nS SW) : Met l yX5_freight wsX5_freight ({ frames := 4, cells := 0, slots := 0, locals := 87 }) (va_Pc [.ref h0, .int a0] (fun U => U.heap.size = sz ∧ va_P (dC, dI) vwCl (([(h0, .inr (6, [.ref sea, .ref pas, .ref fl, .ref fc, .int xlf, .int xhr, .int xho, .int xga, .int xsg, .int xpr, .int xfa, .long xls]))] : va_W) ++ va_pl L f) U.heap ∧ va_K (dC, dI) vwCl [(cO, .object "java/lang/Object")] U ∧ NW U)) (va_Qi (fun (r : Int32) (_ : Unit) => (r = if (0 ≤ a0.toInt ∧ a0.toInt < (n : Int)) then (if V a0.toNatClampNeg 8 = (-9) then (-4) else V a0.toNatClampNeg 2 * V a0.toNatClampNeg 10 + (if firstF (fun i => (V i 9).toInt) (fun i => (V i 8).toInt) n = some a0.toNatClampNeg then V a0.toNatClampNeg 11 else 0)) else (-1))) (fun _ _ => True) (va_A [] sz)) 0 0 (va_A [] sz) := by
  refine Met.ofW (cc := cX5_freight) (maxL := 4) (ret := (some .int)) (by decide) rfl ?_
  intro p e s m args below meth c s₁ B hml hv
  obtain ⟨rfl, hsz, hP, hK, hN⟩ := hv
  have hx := B.exec
  have hb := B.bytes
  have hr := B.returns
  have hts := atoms_spec (ws := wsX5_freight) B.pre
  have hown : s.vm.findClass RX5 = some m.cls := findClass_of_methodNamed B.named
  have hlocks := B.notSynchronized
  subst hsz
  generalize hAe : va_A [] s.heap.size = A at ⊢
  have hA : ∀ q : Nat, s.heap.size ≤ q → A q := fun q h => by rw [← hAe]; exact Or.inr h
  have hS : va_S A s.heap s.heap [] := va_S.rf
  have hP : va_P (dC, dI) vwCl (([(h0, .inr (6, [.ref sea, .ref pas, .ref fl, .ref fc, .int xlf, .int xhr, .int xho, .int xga, .int xsg, .int xpr, .int xfa, .long xls]))] : va_W) ++ va_pl L f) s.heap := hP
  have hl := lv_entry ([.ref h0, .int a0]) (n := 4) (Nat.le_of_ble_eq_true rfl)
  rw [lg_entry_eq]
  generalize (lg_sl ([.ref h0, .int a0]) ++ List.replicate (4 - (lg_sl ([.ref h0, .int a0])).length) Slot.unset).toArray = ls at hl ⊢
  have hl : lv_has ls 4 [(0, .ref h0), (1, .int a0)] := hl
  refine lv_aload_n hx hb dX5_freight_0 rfl (lv_at hl 0 rfl) ?_
  refine lv_iload_n hx hb dX5_freight_1 rfl (lv_at hl 1 rfl) ?_
  have hPc : va_P (dC, dI) vwCl (([(h0, .inr (6, [.ref sea, .ref pas, .ref fl, .ref fc, .int xlf, .int xhr, .int xho, .int xga, .int xsg, .int xpr, .int xfa, .long xls]))] : va_W) ++ va_pl L f) s.heap := va_P.part (X := [(h0, .inr (6, [.ref sea, .ref pas, .ref fl, .ref fc, .int xlf, .int xhr, .int xho, .int xga, .int xsg, .int xpr, .int xfa, .long xls]))]) hP [0] rfl
  have hKc := hK.sub (tys' := [(cO, .object "java/lang/Object")]) [0] rfl
  refine va_callq (va_runV (As := [.int a0]) (rest := []) ⟨hx, hb, hml, hown, hts⟩ (c_X5_shipOf l dC dI s.heap.size L f h0 sea pas fl fc xlf xhr xho xga xsg xpr xfa xls cB own te cO rr cw n sa V oa ia nO OW nS SW a0 inv) (cwV 1 hts gX5_freight_X5_shipOf rfl rfl rfl (by decide +kernel) ⟨Nat.le_of_ble_eq_true rfl, Nat.le_of_ble_eq_true rfl⟩) ⟨fun a U g mk q => by obtain ⟨q0, q1, qP, qK, qN⟩ := q; exact ⟨q0, q1, qP, va_K.moved (u := U) (U := U.calling g mk a) (Vm.Alike.refl U.vm) qK, NW.same (u := U) (U := U.calling g mk a) rfl qN⟩, va_recv hKc hPc (ci := 6) (q0 := 0) rfl rfl, fun U hU hW => ⟨rfl, by rw [hU], by rw [hU]; exact hPc, va_K.moved hW.alike hKc, NW.warm hW hN⟩⟩ rfl rfl hl.1 rfl (lv_room (Nat.le_of_ble_eq_true rfl)) dX5_freight_2 ⟨(Nat.zero_le _), (Nat.zero_le _)⟩) hS (fun q _ h => ro_A hS hA q h) (ro_A hS hA) (fun r_1 u t H1 locs ht hvm k_2 hB hz1 hk1 hS => ?_)
  have hP := ro_P hk1 hP
  generalize H1 = H at hP hS ⊢
  try dsimp only at k_2
  obtain ⟨k_2, k_3⟩ := k_2
  rcases r_1 with _ | q_4
  · skip
    have hno := k_3 rfl
    refine W.eq (g2 := F0 m 5 ls [.null]) rfl ?_
    refine lv_astore_nN (lv' := [(2, .null), (0, .ref h0), (1, .int a0)]) hx hb dX5_freight_5 rfl hl (by decide) rfl (fun ls hl => ?_)
    refine lv_aload_nN hx hb dX5_freight_6 rfl (lv_at hl 0 rfl) ?_
    refine lv_ifnonnullN hx hb dX5_freight_7 ?_
    refine lv_iconst (v := (-1)) hx hb dX5_freight_10 (by decide) ?_
    have hv9 : (-1 : Int32).toInt = (-1) := by decide
    exact W.iret (v := (-1)) hx hb hr (fun t ht hW => ⟨⟨(-1), (), rfl, (by rw [if_neg (by omega)]), trivial⟩, hS.F ht⟩) hS.2.2 dX5_freight_11
  · skip
    obtain ⟨hi_5, hi_6, rfl⟩ := k_2 q_4 rfl
    refine W.eq (g2 := F0 m 5 ls [.ref (sa a0.toNatClampNeg)]) rfl ?_
    have hn8 := inv.2.2.2.2.1
    have hsp_7 := inv.2.2.2.2.2 a0.toNatClampNeg (tn_lt (by omega) (by omega))
    refine lv_astore_n (lv' := [(2, .ref (sa a0.toNatClampNeg)), (0, .ref h0), (1, .int a0)]) hx hb dX5_freight_5 rfl hl (by decide) rfl (fun ls hl => ?_)
    refine lv_aload_n hx hb dX5_freight_6 rfl (lv_at hl 0 rfl) ?_
    refine lv_ifnonnull (tgt := 12) hx hb dX5_freight_7 (by decide) ?_
    refine lv_aload_n hx hb dX5_freight_12 rfl (lv_at hl 0 rfl) ?_
    have hPc : va_P (dC, dI) vwCl (([] : va_W) ++ va_pl L f) H := va_P.part (X := [(h0, .inr (6, [.ref sea, .ref pas, .ref fl, .ref fc, .int xlf, .int xhr, .int xho, .int xga, .int xsg, .int xpr, .int xfa, .long xls]))]) hP [] rfl
    have hKc := hK.sub (tys' := []) [] rfl
    obtain ⟨k8_8, hk8_8⟩ : ∃ k : Nat, (([] : va_W) ++ va_pl L f)[k]? = some ((sa a0.toNatClampNeg), .inr (4, [.int (V a0.toNatClampNeg 0), .int (V a0.toNatClampNeg 1), .int (V a0.toNatClampNeg 2), .ref (oa a0.toNatClampNeg), .ref (ia a0.toNatClampNeg), .int (V a0.toNatClampNeg 3), .int (V a0.toNatClampNeg 4), .int (V a0.toNatClampNeg 5), .int (V a0.toNatClampNeg 6), .int (V a0.toNatClampNeg 7), .int (V a0.toNatClampNeg 8), .int (V a0.toNatClampNeg 9), .int (V a0.toNatClampNeg 10), .int (V a0.toNatClampNeg 11)])) := pl_at hsp_7.1 hsp_7.2.1
    refine va_calli (va_runV (As := []) (rest := []) ⟨hx, hb, hml, hown, hts⟩ (c_X3_isHome l dC dI H.size L f (sa a0.toNatClampNeg) (oa a0.toNatClampNeg) (ia a0.toNatClampNeg) (V a0.toNatClampNeg) ⟨hsp_7.1, hsp_7.2.1⟩) (cwV 0 hts gX5_freight_X3_isHome rfl rfl rfl (by decide +kernel) ⟨Nat.le_of_ble_eq_true rfl, Nat.le_of_ble_eq_true rfl⟩) ⟨fun a U g mk q => by obtain ⟨q0, q1, qP, qK, qN⟩ := q; exact ⟨q0, q1, qP, va_K.moved (u := U) (U := U.calling g mk a) (Vm.Alike.refl U.vm) qK, NW.same (u := U) (U := U.calling g mk a) rfl qN⟩, va_recv hKc hPc (ci := 4) (q0 := k8_8) rfl hk8_8, fun U hU hW => ⟨rfl, by rw [hU], by rw [hU]; exact hPc, va_K.moved hW.alike hKc, NW.warm hW hN⟩⟩ rfl rfl hl.1 rfl (lv_room (Nat.le_of_ble_eq_true rfl)) dX5_freight_13 ⟨(Nat.zero_le _), (Nat.zero_le _)⟩) hS (fun q _ h => ro_A hS hA q h) (ro_A hS hA) (fun r_9 u t H1 locs ht hvm k_10 hB hz1 hk1 hS => ?_)
    have hP := ro_P hk1 hP
    generalize H1 = H at hP hS ⊢
    try dsimp only at k_10
    obtain ⟨k_10, k_11⟩ := k_10
    refine lv_if_ne (tgt := 22) hx hb dX5_freight_16 (by decide) (fun c_12 => ?_) (fun c_12 => ?_)
    · skip
      have b_13 := b01n k_10 c_12
      (try simp only [Int32.lt_iff_toInt_lt, Int32.le_iff_toInt_le, ← Int32.toInt_inj, Int32.reduceToInt, zl1, zl2, zl3, zl4, zl9] at b_13)
      (try simp only [Int32.reduceToInt] at b_13)
      refine lv_aload_n hx hb dX5_freight_22 rfl (lv_at hl 0 rfl) ?_
      refine lv_aload_n hx hb dX5_freight_23 rfl (lv_at hl 1 rfl) ?_
      have hPc : va_P (dC, dI) vwCl (([(h0, .inr (6, [.ref sea, .ref pas, .ref fl, .ref fc, .int xlf, .int xhr, .int xho, .int xga, .int xsg, .int xpr, .int xfa, .long xls]))] : va_W) ++ va_pl L f) H := va_P.part (X := [(h0, .inr (6, [.ref sea, .ref pas, .ref fl, .ref fc, .int xlf, .int xhr, .int xho, .int xga, .int xsg, .int xpr, .int xfa, .long xls]))]) hP [0] rfl
      have hKc := hK.sub (tys' := [(cO, .object "java/lang/Object")]) [0] rfl
      refine va_callq (va_runV (As := []) (rest := [.ref (sa a0.toNatClampNeg)]) ⟨hx, hb, hml, hown, hts⟩ (c_X5_theFirst l dC dI H.size L f h0 sea pas fl fc xlf xhr xho xga xsg xpr xfa xls cB own te cO rr cw n sa V oa ia nO OW nS SW hnm inv) (cwV 0 hts gX5_freight_X5_theFirst rfl rfl rfl (by decide +kernel) ⟨Nat.le_of_ble_eq_true rfl, Nat.le_of_ble_eq_true rfl⟩) ⟨fun a U g mk q => by obtain ⟨q0, q1, qP, qK, qN⟩ := q; exact ⟨q0, q1, qP, va_K.moved (u := U) (U := U.calling g mk a) (Vm.Alike.refl U.vm) qK, NW.same (u := U) (U := U.calling g mk a) rfl qN⟩, va_recv hKc hPc (ci := 6) (q0 := 0) rfl rfl, fun U hU hW => ⟨rfl, by rw [hU], by rw [hU]; exact hPc, va_K.moved hW.alike hKc, NW.warm hW hN⟩⟩ rfl rfl hl.1 rfl (lv_room (Nat.le_of_ble_eq_true rfl)) dX5_freight_24 ⟨(Nat.zero_le _), (Nat.zero_le _)⟩) hS (fun q _ h => ro_A hS hA q h) (ro_A hS hA) (fun r_14 u t H1 locs ht hvm k_15 hB hz1 hk1 hS => ?_)
      have hP := ro_P hk1 hP
      generalize H1 = H at hP hS ⊢
      try dsimp only at k_15
      obtain ⟨k_15, k_16⟩ := k_15
      rcases r_14 with _ | q_17
      · skip
        have hno1 := k_16 rfl
        refine W.eq (g2 := F0 m 27 ls [.null, .ref (sa a0.toNatClampNeg)]) rfl ?_
        refine W.eq (g2 := F0 m 27 ls (va_rf none :: va_rf (some (sa a0.toNatClampNeg)) :: [])) rfl ?_
        refine lv_acmp_ne (tgt := 37) hx hb dX5_freight_27 (by decide) (fun c_18 => ?_) (fun c_18 => ?_)
        · skip
          refine lv_iconst (v := 0) hx hb dX5_freight_37 (by decide) ?_
          refine lv_istore_n (lv' := [(3, .int 0), (2, .ref (sa a0.toNatClampNeg)), (0, .ref h0), (1, .int a0)]) hx hb dX5_freight_38 rfl hl (by decide) rfl (fun ls hl => ?_)
          refine lv_aload_n hx hb dX5_freight_39 rfl (lv_at hl 1 rfl) ?_
          obtain ⟨k9_19, hk9_19⟩ : ∃ k : Nat, (([(h0, .inr (6, [.ref sea, .ref pas, .ref fl, .ref fc, .int xlf, .int xhr, .int xho, .int xga, .int xsg, .int xpr, .int xfa, .long xls]))] : va_W) ++ va_pl L f)[k]? = some ((sa a0.toNatClampNeg), .inr (4, [.int (V a0.toNatClampNeg 0), .int (V a0.toNatClampNeg 1), .int (V a0.toNatClampNeg 2), .ref (oa a0.toNatClampNeg), .ref (ia a0.toNatClampNeg), .int (V a0.toNatClampNeg 3), .int (V a0.toNatClampNeg 4), .int (V a0.toNatClampNeg 5), .int (V a0.toNatClampNeg 6), .int (V a0.toNatClampNeg 7), .int (V a0.toNatClampNeg 8), .int (V a0.toNatClampNeg 9), .int (V a0.toNatClampNeg 10), .int (V a0.toNatClampNeg 11)])) := pl_at hsp_7.1 hsp_7.2.1
          refine va_get (D := (dC, dI)) (ci := 4) (v := .int (V a0.toNatClampNeg 2)) (C := RX3) (T := TX3) (N := 14) hx hb hts iw_X5_freight_X3 hown hK hP k9_19 hk9_19 rfl 2 (by decide) (hts (.fieldLink RX5 147 "TeaRace$Ship" "chests" "I") (by decide +kernel)) (fun _ h9 => h9) rfl dX5_freight_40 ?_
          refine lv_aload_n hx hb dX5_freight_43 rfl (lv_at hl 1 rfl) ?_
          obtain ⟨k9_20, hk9_20⟩ : ∃ k : Nat, (([(h0, .inr (6, [.ref sea, .ref pas, .ref fl, .ref fc, .int xlf, .int xhr, .int xho, .int xga, .int xsg, .int xpr, .int xfa, .long xls]))] : va_W) ++ va_pl L f)[k]? = some ((sa a0.toNatClampNeg), .inr (4, [.int (V a0.toNatClampNeg 0), .int (V a0.toNatClampNeg 1), .int (V a0.toNatClampNeg 2), .ref (oa a0.toNatClampNeg), .ref (ia a0.toNatClampNeg), .int (V a0.toNatClampNeg 3), .int (V a0.toNatClampNeg 4), .int (V a0.toNatClampNeg 5), .int (V a0.toNatClampNeg 6), .int (V a0.toNatClampNeg 7), .int (V a0.toNatClampNeg 8), .int (V a0.toNatClampNeg 9), .int (V a0.toNatClampNeg 10), .int (V a0.toNatClampNeg 11)])) := pl_at hsp_7.1 hsp_7.2.1
          refine va_get (D := (dC, dI)) (ci := 4) (v := .int (V a0.toNatClampNeg 10)) (C := RX3) (T := TX3) (N := 14) hx hb hts iw_X5_freight_X3 hown hK hP k9_20 hk9_20 rfl 12 (by decide) (hts (.fieldLink RX5 216 "TeaRace$Ship" "rate" "I") (by decide +kernel)) (fun _ h9 => h9) rfl dX5_freight_44 ?_
          refine lv_imul hx hb dX5_freight_47 ?_
          refine lv_topi (fun x_21 ex_21 => ?_)
          refine lv_iload_n hx hb dX5_freight_48 rfl (lv_at hl 0 rfl) ?_
          refine lv_iadd hx hb dX5_freight_49 ?_
          refine lv_topi (fun x_22 ex_22 => ?_)
          exact W.iret (v := x_22) hx hb hr (fun t ht hW => ⟨⟨x_22, (), rfl, (by rw [if_pos (by omega), if_neg (by (first | omega | ((try simp only [Int32.lt_iff_toInt_lt, Int32.le_iff_toInt_le, ← Int32.toInt_inj, Int32.reduceToInt, zl1, zl2, zl3, zl4, zl9]); (try simp only [Int32.reduceToInt]); omega) | (subst_vars; assumption) | (refine ⟨?_, ?_⟩ <;> first | omega | (simp only [Int32.lt_iff_toInt_lt, Int32.le_iff_toInt_le, ← Int32.toInt_inj, Int32.reduceToInt, zl1, zl2, zl3, zl4, zl9]; omega) | (subst_vars; assumption)))), if_neg (by rw [hno1]; exact fun z => by cases z), ex_22, ex_21]), trivial⟩, hS.F ht⟩) hS.2.2 dX5_freight_50
        · skip
          refine lv_aload_n hx hb dX5_freight_30 rfl (lv_at hl 0 rfl) ?_
          obtain ⟨k9_23, hk9_23⟩ : ∃ k : Nat, (([(h0, .inr (6, [.ref sea, .ref pas, .ref fl, .ref fc, .int xlf, .int xhr, .int xho, .int xga, .int xsg, .int xpr, .int xfa, .long xls]))] : va_W) ++ va_pl L f)[k]? = some ((sa a0.toNatClampNeg), .inr (4, [.int (V a0.toNatClampNeg 0), .int (V a0.toNatClampNeg 1), .int (V a0.toNatClampNeg 2), .ref (oa a0.toNatClampNeg), .ref (ia a0.toNatClampNeg), .int (V a0.toNatClampNeg 3), .int (V a0.toNatClampNeg 4), .int (V a0.toNatClampNeg 5), .int (V a0.toNatClampNeg 6), .int (V a0.toNatClampNeg 7), .int (V a0.toNatClampNeg 8), .int (V a0.toNatClampNeg 9), .int (V a0.toNatClampNeg 10), .int (V a0.toNatClampNeg 11)])) := pl_at hsp_7.1 hsp_7.2.1
          refine va_get (D := (dC, dI)) (ci := 4) (v := .int (V a0.toNatClampNeg 11)) (C := RX3) (T := TX3) (N := 14) hx hb hts iw_X5_freight_X3 hown hK hP k9_23 hk9_23 rfl 13 (by decide) (hts (.fieldLink RX5 219 "TeaRace$Ship" "premium" "I") (by decide +kernel)) (fun _ h9 => h9) rfl dX5_freight_31 ?_
          refine lv_goto (tgt := 38) hx hb dX5_freight_34 (by decide) ?_
          refine lv_istore_n (lv' := [(3, .int (V a0.toNatClampNeg 11)), (2, .ref (sa a0.toNatClampNeg)), (0, .ref h0), (1, .int a0)]) hx hb dX5_freight_38 rfl hl (by decide) rfl (fun ls hl => ?_)
          refine lv_aload_n hx hb dX5_freight_39 rfl (lv_at hl 1 rfl) ?_
          obtain ⟨k9_24, hk9_24⟩ : ∃ k : Nat, (([(h0, .inr (6, [.ref sea, .ref pas, .ref fl, .ref fc, .int xlf, .int xhr, .int xho, .int xga, .int xsg, .int xpr, .int xfa, .long xls]))] : va_W) ++ va_pl L f)[k]? = some ((sa a0.toNatClampNeg), .inr (4, [.int (V a0.toNatClampNeg 0), .int (V a0.toNatClampNeg 1), .int (V a0.toNatClampNeg 2), .ref (oa a0.toNatClampNeg), .ref (ia a0.toNatClampNeg), .int (V a0.toNatClampNeg 3), .int (V a0.toNatClampNeg 4), .int (V a0.toNatClampNeg 5), .int (V a0.toNatClampNeg 6), .int (V a0.toNatClampNeg 7), .int (V a0.toNatClampNeg 8), .int (V a0.toNatClampNeg 9), .int (V a0.toNatClampNeg 10), .int (V a0.toNatClampNeg 11)])) := pl_at hsp_7.1 hsp_7.2.1
          refine va_get (D := (dC, dI)) (ci := 4) (v := .int (V a0.toNatClampNeg 2)) (C := RX3) (T := TX3) (N := 14) hx hb hts iw_X5_freight_X3 hown hK hP k9_24 hk9_24 rfl 2 (by decide) (hts (.fieldLink RX5 147 "TeaRace$Ship" "chests" "I") (by decide +kernel)) (fun _ h9 => h9) rfl dX5_freight_40 ?_
          refine lv_aload_n hx hb dX5_freight_43 rfl (lv_at hl 1 rfl) ?_
          obtain ⟨k9_25, hk9_25⟩ : ∃ k : Nat, (([(h0, .inr (6, [.ref sea, .ref pas, .ref fl, .ref fc, .int xlf, .int xhr, .int xho, .int xga, .int xsg, .int xpr, .int xfa, .long xls]))] : va_W) ++ va_pl L f)[k]? = some ((sa a0.toNatClampNeg), .inr (4, [.int (V a0.toNatClampNeg 0), .int (V a0.toNatClampNeg 1), .int (V a0.toNatClampNeg 2), .ref (oa a0.toNatClampNeg), .ref (ia a0.toNatClampNeg), .int (V a0.toNatClampNeg 3), .int (V a0.toNatClampNeg 4), .int (V a0.toNatClampNeg 5), .int (V a0.toNatClampNeg 6), .int (V a0.toNatClampNeg 7), .int (V a0.toNatClampNeg 8), .int (V a0.toNatClampNeg 9), .int (V a0.toNatClampNeg 10), .int (V a0.toNatClampNeg 11)])) := pl_at hsp_7.1 hsp_7.2.1
          refine va_get (D := (dC, dI)) (ci := 4) (v := .int (V a0.toNatClampNeg 10)) (C := RX3) (T := TX3) (N := 14) hx hb hts iw_X5_freight_X3 hown hK hP k9_25 hk9_25 rfl 12 (by decide) (hts (.fieldLink RX5 216 "TeaRace$Ship" "rate" "I") (by decide +kernel)) (fun _ h9 => h9) rfl dX5_freight_44 ?_
          refine lv_imul hx hb dX5_freight_47 ?_
          refine lv_topi (fun x_26 ex_26 => ?_)
          refine lv_iload_n hx hb dX5_freight_48 rfl (lv_at hl 0 rfl) ?_
          refine lv_iadd hx hb dX5_freight_49 ?_
          refine lv_topi (fun x_27 ex_27 => ?_)
          exact W.iret (v := x_27) hx hb hr (fun t ht hW => ⟨⟨x_27, (), rfl, (absurd c_18 (fun z => by cases z)), trivial⟩, hS.F ht⟩) hS.2.2 dX5_freight_50
      · skip
        obtain ⟨j_28, hj_29, rfl, hf_30⟩ := k_15 q_17 rfl
        have hsp_31 := inv.2.2.2.2.2 j_28 hj_29
        refine W.eq (g2 := F0 m 27 ls [.ref (sa j_28), .ref (sa a0.toNatClampNeg)]) rfl ?_
        refine W.eq (g2 := F0 m 27 ls (va_rf (some (sa j_28)) :: va_rf (some (sa a0.toNatClampNeg)) :: [])) rfl ?_
        refine lv_acmp_ne (tgt := 37) hx hb dX5_freight_27 (by decide) (fun c_32 => ?_) (fun c_32 => ?_)
        · skip
          refine lv_iconst (v := 0) hx hb dX5_freight_37 (by decide) ?_
          refine lv_istore_n (lv' := [(3, .int 0), (2, .ref (sa a0.toNatClampNeg)), (0, .ref h0), (1, .int a0)]) hx hb dX5_freight_38 rfl hl (by decide) rfl (fun ls hl => ?_)
          refine lv_aload_n hx hb dX5_freight_39 rfl (lv_at hl 1 rfl) ?_
          obtain ⟨k9_33, hk9_33⟩ : ∃ k : Nat, (([(h0, .inr (6, [.ref sea, .ref pas, .ref fl, .ref fc, .int xlf, .int xhr, .int xho, .int xga, .int xsg, .int xpr, .int xfa, .long xls]))] : va_W) ++ va_pl L f)[k]? = some ((sa a0.toNatClampNeg), .inr (4, [.int (V a0.toNatClampNeg 0), .int (V a0.toNatClampNeg 1), .int (V a0.toNatClampNeg 2), .ref (oa a0.toNatClampNeg), .ref (ia a0.toNatClampNeg), .int (V a0.toNatClampNeg 3), .int (V a0.toNatClampNeg 4), .int (V a0.toNatClampNeg 5), .int (V a0.toNatClampNeg 6), .int (V a0.toNatClampNeg 7), .int (V a0.toNatClampNeg 8), .int (V a0.toNatClampNeg 9), .int (V a0.toNatClampNeg 10), .int (V a0.toNatClampNeg 11)])) := pl_at hsp_7.1 hsp_7.2.1
          refine va_get (D := (dC, dI)) (ci := 4) (v := .int (V a0.toNatClampNeg 2)) (C := RX3) (T := TX3) (N := 14) hx hb hts iw_X5_freight_X3 hown hK hP k9_33 hk9_33 rfl 2 (by decide) (hts (.fieldLink RX5 147 "TeaRace$Ship" "chests" "I") (by decide +kernel)) (fun _ h9 => h9) rfl dX5_freight_40 ?_
          refine lv_aload_n hx hb dX5_freight_43 rfl (lv_at hl 1 rfl) ?_
          obtain ⟨k9_34, hk9_34⟩ : ∃ k : Nat, (([(h0, .inr (6, [.ref sea, .ref pas, .ref fl, .ref fc, .int xlf, .int xhr, .int xho, .int xga, .int xsg, .int xpr, .int xfa, .long xls]))] : va_W) ++ va_pl L f)[k]? = some ((sa a0.toNatClampNeg), .inr (4, [.int (V a0.toNatClampNeg 0), .int (V a0.toNatClampNeg 1), .int (V a0.toNatClampNeg 2), .ref (oa a0.toNatClampNeg), .ref (ia a0.toNatClampNeg), .int (V a0.toNatClampNeg 3), .int (V a0.toNatClampNeg 4), .int (V a0.toNatClampNeg 5), .int (V a0.toNatClampNeg 6), .int (V a0.toNatClampNeg 7), .int (V a0.toNatClampNeg 8), .int (V a0.toNatClampNeg 9), .int (V a0.toNatClampNeg 10), .int (V a0.toNatClampNeg 11)])) := pl_at hsp_7.1 hsp_7.2.1
          refine va_get (D := (dC, dI)) (ci := 4) (v := .int (V a0.toNatClampNeg 10)) (C := RX3) (T := TX3) (N := 14) hx hb hts iw_X5_freight_X3 hown hK hP k9_34 hk9_34 rfl 12 (by decide) (hts (.fieldLink RX5 216 "TeaRace$Ship" "rate" "I") (by decide +kernel)) (fun _ h9 => h9) rfl dX5_freight_44 ?_
          refine lv_imul hx hb dX5_freight_47 ?_
          refine lv_topi (fun x_35 ex_35 => ?_)
          refine lv_iload_n hx hb dX5_freight_48 rfl (lv_at hl 0 rfl) ?_
          refine lv_iadd hx hb dX5_freight_49 ?_
          refine lv_topi (fun x_36 ex_36 => ?_)
          exact W.iret (v := x_36) hx hb hr (fun t ht hW => ⟨⟨x_36, (), rfl, (by rw [if_pos (by omega), if_neg (by (first | omega | ((try simp only [Int32.lt_iff_toInt_lt, Int32.le_iff_toInt_le, ← Int32.toInt_inj, Int32.reduceToInt, zl1, zl2, zl3, zl4, zl9]); (try simp only [Int32.reduceToInt]); omega) | (subst_vars; assumption) | (refine ⟨?_, ?_⟩ <;> first | omega | (simp only [Int32.lt_iff_toInt_lt, Int32.le_iff_toInt_le, ← Int32.toInt_inj, Int32.reduceToInt, zl1, zl2, zl3, zl4, zl9]; omega) | (subst_vars; assumption)))), if_neg (by rw [hf_30]; exact fun z => c_32 (by rw [Option.some.inj z])), ex_36, ex_35]), trivial⟩, hS.F ht⟩) hS.2.2 dX5_freight_50
        · skip
          refine lv_aload_n hx hb dX5_freight_30 rfl (lv_at hl 0 rfl) ?_
          obtain ⟨k9_37, hk9_37⟩ : ∃ k : Nat, (([(h0, .inr (6, [.ref sea, .ref pas, .ref fl, .ref fc, .int xlf, .int xhr, .int xho, .int xga, .int xsg, .int xpr, .int xfa, .long xls]))] : va_W) ++ va_pl L f)[k]? = some ((sa a0.toNatClampNeg), .inr (4, [.int (V a0.toNatClampNeg 0), .int (V a0.toNatClampNeg 1), .int (V a0.toNatClampNeg 2), .ref (oa a0.toNatClampNeg), .ref (ia a0.toNatClampNeg), .int (V a0.toNatClampNeg 3), .int (V a0.toNatClampNeg 4), .int (V a0.toNatClampNeg 5), .int (V a0.toNatClampNeg 6), .int (V a0.toNatClampNeg 7), .int (V a0.toNatClampNeg 8), .int (V a0.toNatClampNeg 9), .int (V a0.toNatClampNeg 10), .int (V a0.toNatClampNeg 11)])) := pl_at hsp_7.1 hsp_7.2.1
          refine va_get (D := (dC, dI)) (ci := 4) (v := .int (V a0.toNatClampNeg 11)) (C := RX3) (T := TX3) (N := 14) hx hb hts iw_X5_freight_X3 hown hK hP k9_37 hk9_37 rfl 13 (by decide) (hts (.fieldLink RX5 219 "TeaRace$Ship" "premium" "I") (by decide +kernel)) (fun _ h9 => h9) rfl dX5_freight_31 ?_
          refine lv_goto (tgt := 38) hx hb dX5_freight_34 (by decide) ?_
          refine lv_istore_n (lv' := [(3, .int (V a0.toNatClampNeg 11)), (2, .ref (sa a0.toNatClampNeg)), (0, .ref h0), (1, .int a0)]) hx hb dX5_freight_38 rfl hl (by decide) rfl (fun ls hl => ?_)
          refine lv_aload_n hx hb dX5_freight_39 rfl (lv_at hl 1 rfl) ?_
          obtain ⟨k9_38, hk9_38⟩ : ∃ k : Nat, (([(h0, .inr (6, [.ref sea, .ref pas, .ref fl, .ref fc, .int xlf, .int xhr, .int xho, .int xga, .int xsg, .int xpr, .int xfa, .long xls]))] : va_W) ++ va_pl L f)[k]? = some ((sa a0.toNatClampNeg), .inr (4, [.int (V a0.toNatClampNeg 0), .int (V a0.toNatClampNeg 1), .int (V a0.toNatClampNeg 2), .ref (oa a0.toNatClampNeg), .ref (ia a0.toNatClampNeg), .int (V a0.toNatClampNeg 3), .int (V a0.toNatClampNeg 4), .int (V a0.toNatClampNeg 5), .int (V a0.toNatClampNeg 6), .int (V a0.toNatClampNeg 7), .int (V a0.toNatClampNeg 8), .int (V a0.toNatClampNeg 9), .int (V a0.toNatClampNeg 10), .int (V a0.toNatClampNeg 11)])) := pl_at hsp_7.1 hsp_7.2.1
          refine va_get (D := (dC, dI)) (ci := 4) (v := .int (V a0.toNatClampNeg 2)) (C := RX3) (T := TX3) (N := 14) hx hb hts iw_X5_freight_X3 hown hK hP k9_38 hk9_38 rfl 2 (by decide) (hts (.fieldLink RX5 147 "TeaRace$Ship" "chests" "I") (by decide +kernel)) (fun _ h9 => h9) rfl dX5_freight_40 ?_
          refine lv_aload_n hx hb dX5_freight_43 rfl (lv_at hl 1 rfl) ?_
          obtain ⟨k9_39, hk9_39⟩ : ∃ k : Nat, (([(h0, .inr (6, [.ref sea, .ref pas, .ref fl, .ref fc, .int xlf, .int xhr, .int xho, .int xga, .int xsg, .int xpr, .int xfa, .long xls]))] : va_W) ++ va_pl L f)[k]? = some ((sa a0.toNatClampNeg), .inr (4, [.int (V a0.toNatClampNeg 0), .int (V a0.toNatClampNeg 1), .int (V a0.toNatClampNeg 2), .ref (oa a0.toNatClampNeg), .ref (ia a0.toNatClampNeg), .int (V a0.toNatClampNeg 3), .int (V a0.toNatClampNeg 4), .int (V a0.toNatClampNeg 5), .int (V a0.toNatClampNeg 6), .int (V a0.toNatClampNeg 7), .int (V a0.toNatClampNeg 8), .int (V a0.toNatClampNeg 9), .int (V a0.toNatClampNeg 10), .int (V a0.toNatClampNeg 11)])) := pl_at hsp_7.1 hsp_7.2.1
          refine va_get (D := (dC, dI)) (ci := 4) (v := .int (V a0.toNatClampNeg 10)) (C := RX3) (T := TX3) (N := 14) hx hb hts iw_X5_freight_X3 hown hK hP k9_39 hk9_39 rfl 12 (by decide) (hts (.fieldLink RX5 216 "TeaRace$Ship" "rate" "I") (by decide +kernel)) (fun _ h9 => h9) rfl dX5_freight_44 ?_
          refine lv_imul hx hb dX5_freight_47 ?_
          refine lv_topi (fun x_40 ex_40 => ?_)
          refine lv_iload_n hx hb dX5_freight_48 rfl (lv_at hl 0 rfl) ?_
          refine lv_iadd hx hb dX5_freight_49 ?_
          refine lv_topi (fun x_41 ex_41 => ?_)
          exact W.iret (v := x_41) hx hb hr (fun t ht hW => ⟨⟨x_41, (), rfl, (by rw [if_pos (by omega), if_neg (by (first | omega | ((try simp only [Int32.lt_iff_toInt_lt, Int32.le_iff_toInt_le, ← Int32.toInt_inj, Int32.reduceToInt, zl1, zl2, zl3, zl4, zl9]); (try simp only [Int32.reduceToInt]); omega) | (subst_vars; assumption) | (refine ⟨?_, ?_⟩ <;> first | omega | (simp only [Int32.lt_iff_toInt_lt, Int32.le_iff_toInt_le, ← Int32.toInt_inj, Int32.reduceToInt, zl1, zl2, zl3, zl4, zl9]; omega) | (subst_vars; assumption)))), if_pos (by rw [hf_30]; exact congrArg some (((inv.2.2.2.2.2 j_28 hj_29).2.2.1.symm.trans (congrArg own (Option.some.inj c_32).symm)).trans (inv.2.2.2.2.2 a0.toNatClampNeg (tn_lt (by omega) (by omega))).2.2.1)), ex_41, ex_40]), trivial⟩, hS.F ht⟩) hS.2.2 dX5_freight_50
    · skip
      have b_42 := b01z k_10 c_12
      (try simp only [Int32.lt_iff_toInt_lt, Int32.le_iff_toInt_le, ← Int32.toInt_inj, Int32.reduceToInt, zl1, zl2, zl3, zl4, zl9] at b_42)
      (try simp only [Int32.reduceToInt] at b_42)
      refine lv_bipush (v := (-4)) hx hb dX5_freight_19 (by decide) ?_
      have hv9 : (-4 : Int32).toInt = (-4) := by decide
      exact W.iret (v := (-4)) hx hb hr (fun t ht hW => ⟨⟨(-4), (), rfl, (by rw [if_pos (by omega), if_pos (by (first | omega | ((try simp only [Int32.lt_iff_toInt_lt, Int32.le_iff_toInt_le, ← Int32.toInt_inj, Int32.reduceToInt, zl1, zl2, zl3, zl4, zl9]); (try simp only [Int32.reduceToInt]); omega) | (subst_vars; assumption) | (refine ⟨?_, ?_⟩ <;> first | omega | (simp only [Int32.lt_iff_toInt_lt, Int32.le_iff_toInt_le, ← Int32.toInt_inj, Int32.reduceToInt, zl1, zl2, zl3, zl4, zl9]; omega) | (subst_vars; assumption))))]), trivial⟩, hS.F ht⟩) hS.2.2 dX5_freight_21
set_option maxRecDepth 20000 in
theorem iw_X5_sale_X5 : ∀ w ∈ wsX50, w ∈ wsX5_sale := fun w h => (List.mem_cons_of_mem _ (List.mem_append_left _ (List.mem_append_left _ (List.mem_append_right _ h))))
set_option maxHeartbeats 4000000 in
set_option maxRecDepth 100000 in
/-- sale -/
theorem c_X5_sale (l : Launch) (dC : Nat → ClassId) (dI : Nat → Nat → Nat) (sz : Nat) (L : List Nat) (f : Nat → va_E) (h0 : Nat) (sea : Nat) (pas : Nat) (fl : Nat) (fc : Nat) (xlf : Int32) (xhr : Int32) (xho : Int32) (xga : Int32) (xsg : Int32) (xpr : Int32) (xfa : Int32) (xls : Int64) (cB : ClassId) (own : Nat → Nat) (te : Nat) (cO : ClassId) (rr : Nat → Nat) (cw : Nat → Nat → Int32) (n : Nat) (sa : Nat → Nat) (V : Nat → Nat → Int32) (oa : Nat → Nat) (ia : Nat → Nat) (nO : Nat → Nat) (OW : Nat → Nat → Nat → Int32) (nS : Nat → Nat) (SW : Nat → Nat → Nat → Int32) (a0 : Int32) (i_xpr : 1 ≤ xpr.toInt ∧ xpr.toInt ≤ 10000) (i_xfa : 0 ≤ xfa.toInt ∧ xfa.toInt ≤ 1000) (hch : ∀ i : Nat, i < n → 0 ≤ (V i 2).toInt ∧ (V i 2).toInt ≤ 20000) (inv : Inv L f own te cO cB rr cw fl n sa V oa ia nO OW nS SW) : Met l yX5_sale wsX5_sale ({ frames := 5, cells := 0, slots := 0, locals := 109 }) (va_Pc [.ref h0, .int a0] (fun U => U.heap.size = sz ∧ va_P (dC, dI) vwCl (([(h0, .inr (6, [.ref sea, .ref pas, .ref fl, .ref fc, .int xlf, .int xhr, .int xho, .int xga, .int xsg, .int xpr, .int xfa, .long xls]))] : va_W) ++ va_pl L f) U.heap ∧ va_K (dC, dI) vwCl [(cO, .object "java/lang/Object")] U ∧ NW U ∧ va_D (fun _ => True) (([(h0, .inr (6, [.ref sea, .ref pas, .ref fl, .ref fc, .int xlf, .int xhr, .int xho, .int xga, .int xsg, .int xpr, .int xfa, .long xls]))] : va_W) ++ va_pl L f))) (va_Qi (fun (r : Int32) (u : Int64) => (r.toInt = if (0 ≤ a0.toInt ∧ a0.toInt < (n : Int)) then (if V a0.toNatClampNeg 8 = (-9) then -4 else priceF xpr.toInt xfa.toInt (befG (fun i => (V i 9).toInt) (fun i => (V i 8).toInt) (fun i => (V i 2).toInt) (fun i => (V i 0).toInt) (V a0.toNatClampNeg 9).toInt (V a0.toNatClampNeg 0).toInt n)) else -1) ∧ (u = if (0 ≤ a0.toInt ∧ a0.toInt < (n : Int)) then (if V a0.toNatClampNeg 8 = (-9) then xls else Int64.ofInt ((V a0.toNatClampNeg 2).toInt * priceF xpr.toInt xfa.toInt (befG (fun i => (V i 9).toInt) (fun i => (V i 8).toInt) (fun i => (V i 2).toInt) (fun i => (V i 0).toInt) (V a0.toNatClampNeg 9).toInt (V a0.toNatClampNeg 0).toInt n))) else xls)) (fun u t => va_P (dC, dI) vwCl (([(h0, .inr (6, [.ref sea, .ref pas, .ref fl, .ref fc, .int xlf, .int xhr, .int xho, .int xga, .int xsg, .int xpr, .int xfa, .long u]))] : va_W) ++ va_pl L f) t.heap ∧ va_K (dC, dI) vwCl [(cO, .object "java/lang/Object")] t ∧ va_D (va_A (([(h0, .inr (6, [.ref sea, .ref pas, .ref fl, .ref fc, .int xlf, .int xhr, .int xho, .int xga, .int xsg, .int xpr, .int xfa, .long xls]))] : va_W) ++ va_pl L f) sz) (([(h0, .inr (6, [.ref sea, .ref pas, .ref fl, .ref fc, .int xlf, .int xhr, .int xho, .int xga, .int xsg, .int xpr, .int xfa, .long u]))] : va_W) ++ va_pl L f)) (va_A (([(h0, .inr (6, [.ref sea, .ref pas, .ref fl, .ref fc, .int xlf, .int xhr, .int xho, .int xga, .int xsg, .int xpr, .int xfa, .long xls]))] : va_W) ++ va_pl L f) sz)) 0 0 (va_A (([(h0, .inr (6, [.ref sea, .ref pas, .ref fl, .ref fc, .int xlf, .int xhr, .int xho, .int xga, .int xsg, .int xpr, .int xfa, .long xls]))] : va_W) ++ va_pl L f) sz) := by
  refine Met.ofW (cc := cX5_sale) (maxL := 3) (ret := (some .int)) (by decide) rfl ?_
  intro p e s m args below meth c s₁ B hml hv
  obtain ⟨rfl, hsz, hP, hK, hN, hD0⟩ := hv
  have hx := B.exec
  have hb := B.bytes
  have hr := B.returns
  have hts := atoms_spec (ws := wsX5_sale) B.pre
  have hown : s.vm.findClass RX5 = some m.cls := findClass_of_methodNamed B.named
  have hlocks := B.notSynchronized
  subst hsz
  have hD := hD0.self (sz := s.heap.size)
  generalize hAe : va_A (([(h0, .inr (6, [.ref sea, .ref pas, .ref fl, .ref fc, .int xlf, .int xhr, .int xho, .int xga, .int xsg, .int xpr, .int xfa, .long xls]))] : va_W) ++ va_pl L f) s.heap.size = A at hD ⊢
  have hA : ∀ q : Nat, s.heap.size ≤ q → A q := fun q h => by rw [← hAe]; exact Or.inr h
  have hS : va_S A s.heap s.heap [] := va_S.rf
  have hP : va_P (dC, dI) vwCl (([(h0, .inr (6, [.ref sea, .ref pas, .ref fl, .ref fc, .int xlf, .int xhr, .int xho, .int xga, .int xsg, .int xpr, .int xfa, .long xls]))] : va_W) ++ va_pl L f) s.heap := hP
  have hl := lv_entry ([.ref h0, .int a0]) (n := 3) (Nat.le_of_ble_eq_true rfl)
  rw [lg_entry_eq]
  generalize (lg_sl ([.ref h0, .int a0]) ++ List.replicate (3 - (lg_sl ([.ref h0, .int a0])).length) Slot.unset).toArray = ls at hl ⊢
  have hl : lv_has ls 3 [(0, .ref h0), (1, .int a0)] := hl
  refine lv_aload_n hx hb dX5_sale_0 rfl (lv_at hl 0 rfl) ?_
  refine lv_iload_n hx hb dX5_sale_1 rfl (lv_at hl 1 rfl) ?_
  have hPc : va_P (dC, dI) vwCl (([(h0, .inr (6, [.ref sea, .ref pas, .ref fl, .ref fc, .int xlf, .int xhr, .int xho, .int xga, .int xsg, .int xpr, .int xfa, .long xls]))] : va_W) ++ va_pl L f) s.heap := va_P.part (X := [(h0, .inr (6, [.ref sea, .ref pas, .ref fl, .ref fc, .int xlf, .int xhr, .int xho, .int xga, .int xsg, .int xpr, .int xfa, .long xls]))]) hP [0] rfl
  have hKc := hK.sub (tys' := [(cO, .object "java/lang/Object")]) [0] rfl
  refine va_callq (va_runV (As := [.int a0]) (rest := []) ⟨hx, hb, hml, hown, hts⟩ (c_X5_shipOf l dC dI s.heap.size L f h0 sea pas fl fc xlf xhr xho xga xsg xpr xfa xls cB own te cO rr cw n sa V oa ia nO OW nS SW a0 inv) (cwV 1 hts gX5_sale_X5_shipOf rfl rfl rfl (by decide +kernel) ⟨Nat.le_of_ble_eq_true rfl, Nat.le_of_ble_eq_true rfl⟩) ⟨fun a U g mk q => by obtain ⟨q0, q1, qP, qK, qN⟩ := q; exact ⟨q0, q1, qP, va_K.moved (u := U) (U := U.calling g mk a) (Vm.Alike.refl U.vm) qK, NW.same (u := U) (U := U.calling g mk a) rfl qN⟩, va_recv hKc hPc (ci := 6) (q0 := 0) rfl rfl, fun U hU hW => ⟨rfl, by rw [hU], by rw [hU]; exact hPc, va_K.moved hW.alike hKc, NW.warm hW hN⟩⟩ rfl rfl hl.1 rfl (lv_room (Nat.le_of_ble_eq_true rfl)) dX5_sale_2 ⟨(Nat.zero_le _), (Nat.zero_le _)⟩) hS (fun q _ h => ro_A hS hA q h) (ro_A hS hA) (fun r_1 u t H1 locs ht hvm k_2 hB hz1 hk1 hS => ?_)
  have hP := ro_P hk1 hP
  generalize H1 = H at hP hS ⊢
  try dsimp only at k_2
  obtain ⟨k_2, k_3⟩ := k_2
  rcases r_1 with _ | q_4
  · skip
    have hno := k_3 rfl
    refine W.eq (g2 := F0 m 5 ls [.null]) rfl ?_
    refine lv_astore_nN (lv' := [(2, .null), (0, .ref h0), (1, .int a0)]) hx hb dX5_sale_5 rfl hl (by decide) rfl (fun ls hl => ?_)
    refine lv_aload_nN hx hb dX5_sale_6 rfl (lv_at hl 0 rfl) ?_
    refine lv_ifnonnullN hx hb dX5_sale_7 ?_
    refine lv_iconst (v := (-1)) hx hb dX5_sale_10 (by decide) ?_
    have hP9 : va_P (dC, dI) vwCl (([(h0, .inr (6, [.ref sea, .ref pas, .ref fl, .ref fc, .int xlf, .int xhr, .int xho, .int xga, .int xsg, .int xpr, .int xfa, .long xls]))] : va_W) ++ va_pl L f) H := va_P.part (X := [(h0, .inr (6, [.ref sea, .ref pas, .ref fl, .ref fc, .int xlf, .int xhr, .int xho, .int xga, .int xsg, .int xpr, .int xfa, .long xls]))]) hP [0] rfl
    have hD9 : va_D A (([(h0, .inr (6, [.ref sea, .ref pas, .ref fl, .ref fc, .int xlf, .int xhr, .int xho, .int xga, .int xsg, .int xpr, .int xfa, .long xls]))] : va_W) ++ va_pl L f) := va_D.part (X := [(h0, .inr (6, [.ref sea, .ref pas, .ref fl, .ref fc, .int xlf, .int xhr, .int xho, .int xga, .int xsg, .int xpr, .int xfa, .long xls]))]) hD [0] (by decide) rfl
    have hK9 := hK.sub (tys' := [(cO, .object "java/lang/Object")]) [0] rfl
    have hv9 : (-1 : Int32).toInt = (-1) := by decide
    exact W.iret (v := (-1)) hx hb hr (fun t ht hW => ⟨⟨(-1), xls, rfl, ⟨(by (try dsimp only); rw [if_neg (by omega)]; decide), (by (try dsimp only); rw [if_neg (by omega)])⟩, ⟨by rw [ht]; exact hP9, va_K.moved hW.alike hK9, hD9⟩⟩, hS.F ht⟩) hS.2.2 dX5_sale_11
  · skip
    obtain ⟨hi_5, hi_6, rfl⟩ := k_2 q_4 rfl
    refine W.eq (g2 := F0 m 5 ls [.ref (sa a0.toNatClampNeg)]) rfl ?_
    have hn8 := inv.2.2.2.2.1
    have hsp_7 := inv.2.2.2.2.2 a0.toNatClampNeg (tn_lt (by omega) (by omega))
    refine lv_astore_n (lv' := [(2, .ref (sa a0.toNatClampNeg)), (0, .ref h0), (1, .int a0)]) hx hb dX5_sale_5 rfl hl (by decide) rfl (fun ls hl => ?_)
    refine lv_aload_n hx hb dX5_sale_6 rfl (lv_at hl 0 rfl) ?_
    refine lv_ifnonnull (tgt := 12) hx hb dX5_sale_7 (by decide) ?_
    refine lv_aload_n hx hb dX5_sale_12 rfl (lv_at hl 0 rfl) ?_
    have hPc : va_P (dC, dI) vwCl (([] : va_W) ++ va_pl L f) H := va_P.part (X := [(h0, .inr (6, [.ref sea, .ref pas, .ref fl, .ref fc, .int xlf, .int xhr, .int xho, .int xga, .int xsg, .int xpr, .int xfa, .long xls]))]) hP [] rfl
    have hKc := hK.sub (tys' := []) [] rfl
    obtain ⟨k8_8, hk8_8⟩ : ∃ k : Nat, (([] : va_W) ++ va_pl L f)[k]? = some ((sa a0.toNatClampNeg), .inr (4, [.int (V a0.toNatClampNeg 0), .int (V a0.toNatClampNeg 1), .int (V a0.toNatClampNeg 2), .ref (oa a0.toNatClampNeg), .ref (ia a0.toNatClampNeg), .int (V a0.toNatClampNeg 3), .int (V a0.toNatClampNeg 4), .int (V a0.toNatClampNeg 5), .int (V a0.toNatClampNeg 6), .int (V a0.toNatClampNeg 7), .int (V a0.toNatClampNeg 8), .int (V a0.toNatClampNeg 9), .int (V a0.toNatClampNeg 10), .int (V a0.toNatClampNeg 11)])) := pl_at hsp_7.1 hsp_7.2.1
    refine va_calli (va_runV (As := []) (rest := []) ⟨hx, hb, hml, hown, hts⟩ (c_X3_isHome l dC dI H.size L f (sa a0.toNatClampNeg) (oa a0.toNatClampNeg) (ia a0.toNatClampNeg) (V a0.toNatClampNeg) ⟨hsp_7.1, hsp_7.2.1⟩) (cwV 0 hts gX5_sale_X3_isHome rfl rfl rfl (by decide +kernel) ⟨Nat.le_of_ble_eq_true rfl, Nat.le_of_ble_eq_true rfl⟩) ⟨fun a U g mk q => by obtain ⟨q0, q1, qP, qK, qN⟩ := q; exact ⟨q0, q1, qP, va_K.moved (u := U) (U := U.calling g mk a) (Vm.Alike.refl U.vm) qK, NW.same (u := U) (U := U.calling g mk a) rfl qN⟩, va_recv hKc hPc (ci := 4) (q0 := k8_8) rfl hk8_8, fun U hU hW => ⟨rfl, by rw [hU], by rw [hU]; exact hPc, va_K.moved hW.alike hKc, NW.warm hW hN⟩⟩ rfl rfl hl.1 rfl (lv_room (Nat.le_of_ble_eq_true rfl)) dX5_sale_13 ⟨(Nat.zero_le _), (Nat.zero_le _)⟩) hS (fun q _ h => ro_A hS hA q h) (ro_A hS hA) (fun r_9 u t H1 locs ht hvm k_10 hB hz1 hk1 hS => ?_)
    have hP := ro_P hk1 hP
    generalize H1 = H at hP hS ⊢
    try dsimp only at k_10
    obtain ⟨k_10, k_11⟩ := k_10
    refine lv_if_ne (tgt := 22) hx hb dX5_sale_16 (by decide) (fun c_12 => ?_) (fun c_12 => ?_)
    · skip
      have b_13 := b01n k_10 c_12
      (try simp only [Int32.lt_iff_toInt_lt, Int32.le_iff_toInt_le, ← Int32.toInt_inj, Int32.reduceToInt, zl1, zl2, zl3, zl4, zl9] at b_13)
      (try simp only [Int32.reduceToInt] at b_13)
      refine lv_aload_n hx hb dX5_sale_22 rfl (lv_at hl 1 rfl) ?_
      refine lv_aload_n hx hb dX5_sale_23 rfl (lv_at hl 1 rfl) ?_
      refine lv_aload_n hx hb dX5_sale_24 rfl (lv_at hl 0 rfl) ?_
      have hPc : va_P (dC, dI) vwCl (([(h0, .inr (6, [.ref sea, .ref pas, .ref fl, .ref fc, .int xlf, .int xhr, .int xho, .int xga, .int xsg, .int xpr, .int xfa, .long xls]))] : va_W) ++ va_pl L f) H := va_P.part (X := [(h0, .inr (6, [.ref sea, .ref pas, .ref fl, .ref fc, .int xlf, .int xhr, .int xho, .int xga, .int xsg, .int xpr, .int xfa, .long xls]))]) hP [0] rfl
      have hKc := hK.sub (tys' := [(cO, .object "java/lang/Object")]) [0] rfl
      refine va_calll (va_runV (As := [.ref (sa a0.toNatClampNeg)]) (rest := [.ref h0]) ⟨hx, hb, hml, hown, hts⟩ (c_X5_takings l dC dI H.size L f h0 sea pas fl fc xlf xhr xho xga xsg xpr xfa xls cB own te cO rr cw n sa V oa ia nO OW nS SW (sa a0.toNatClampNeg) (oa a0.toNatClampNeg) (ia a0.toNatClampNeg) (V a0.toNatClampNeg) ⟨(by omega), (by omega)⟩ ⟨(by omega), (by omega)⟩ hch ⟨hsp_7.1, hsp_7.2.1⟩ inv) (cwV 1 hts gX5_sale_X5_takings rfl rfl rfl (by decide +kernel) ⟨Nat.le_of_ble_eq_true rfl, Nat.le_of_ble_eq_true rfl⟩) ⟨fun a U g mk q => by obtain ⟨q0, q1, qP, qK, qN⟩ := q; exact ⟨q0, q1, qP, va_K.moved (u := U) (U := U.calling g mk a) (Vm.Alike.refl U.vm) qK, NW.same (u := U) (U := U.calling g mk a) rfl qN⟩, va_recv hKc hPc (ci := 6) (q0 := 0) rfl rfl, fun U hU hW => ⟨rfl, by rw [hU], by rw [hU]; exact hPc, va_K.moved hW.alike hKc, NW.warm hW hN⟩⟩ rfl rfl hl.1 rfl (lv_room (Nat.le_of_ble_eq_true rfl)) dX5_sale_25 ⟨(Nat.zero_le _), (Nat.zero_le _)⟩) hS (fun q _ h => ro_A hS hA q h) (ro_A hS hA) (fun r_14 u t H1 locs ht hvm k_15 hB hz1 hk1 hS => ?_)
      have hP := ro_P hk1 hP
      generalize H1 = H at hP hS ⊢
      try dsimp only at k_15
      refine va_put (D := (dC, dI)) (ci := 6) (v := .long r_14) (ty := .long) (C := RX5) (T := TX5) (N := 12) hx hb hts iw_X5_sale_X5 tyX5 tyX5_ok nmX5 hown hK hP hD hS 0 rfl rfl 11 (by decide) (hts (.fieldLink RX5 56 "TeaRace" "latestSale" "J") (by decide +kernel)) (fun _ h9 => h9) rfl (by decide +kernel) rfl rfl (Nat.le_of_ble_eq_true rfl) dX5_sale_28 (fun H locs hP hD hS => ?_)
      have hP : va_P (dC, dI) vwCl (([(h0, .inr (6, [.ref sea, .ref pas, .ref fl, .ref fc, .int xlf, .int xhr, .int xho, .int xga, .int xsg, .int xpr, .int xfa, .long r_14]))] : va_W) ++ va_pl L f) H := hP
      have hD : va_D A (([(h0, .inr (6, [.ref sea, .ref pas, .ref fl, .ref fc, .int xlf, .int xhr, .int xho, .int xga, .int xsg, .int xpr, .int xfa, .long r_14]))] : va_W) ++ va_pl L f) := hD
      refine lv_aload_n hx hb dX5_sale_31 rfl (lv_at hl 1 rfl) ?_
      refine lv_aload_n hx hb dX5_sale_32 rfl (lv_at hl 0 rfl) ?_
      have hPc : va_P (dC, dI) vwCl (([(h0, .inr (6, [.ref sea, .ref pas, .ref fl, .ref fc, .int xlf, .int xhr, .int xho, .int xga, .int xsg, .int xpr, .int xfa, .long r_14]))] : va_W) ++ va_pl L f) H := va_P.part (X := [(h0, .inr (6, [.ref sea, .ref pas, .ref fl, .ref fc, .int xlf, .int xhr, .int xho, .int xga, .int xsg, .int xpr, .int xfa, .long r_14]))]) hP [0] rfl
      have hKc := hK.sub (tys' := [(cO, .object "java/lang/Object")]) [0] rfl
      refine va_calli (va_runV (As := [.ref (sa a0.toNatClampNeg)]) (rest := []) ⟨hx, hb, hml, hown, hts⟩ (c_X5_priceAtEntry l dC dI H.size L f h0 sea pas fl fc xlf xhr xho xga xsg xpr xfa r_14 cB own te cO rr cw n sa V oa ia nO OW nS SW (sa a0.toNatClampNeg) (oa a0.toNatClampNeg) (ia a0.toNatClampNeg) (V a0.toNatClampNeg) ⟨(by omega), (by omega)⟩ ⟨(by omega), (by omega)⟩ hch ⟨hsp_7.1, hsp_7.2.1⟩ inv) (cwV 1 hts gX5_sale_X5_priceAtEntry rfl rfl rfl (by decide +kernel) ⟨Nat.le_of_ble_eq_true rfl, Nat.le_of_ble_eq_true rfl⟩) ⟨fun a U g mk q => by obtain ⟨q0, q1, qP, qK, qN⟩ := q; exact ⟨q0, q1, qP, va_K.moved (u := U) (U := U.calling g mk a) (Vm.Alike.refl U.vm) qK, NW.same (u := U) (U := U.calling g mk a) rfl qN⟩, va_recv hKc hPc (ci := 6) (q0 := 0) rfl rfl, fun U hU hW => ⟨rfl, by rw [hU], by rw [hU]; exact hPc, va_K.moved hW.alike hKc, NW.warm hW hN⟩⟩ rfl rfl hl.1 rfl (lv_room (Nat.le_of_ble_eq_true rfl)) dX5_sale_33 ⟨(Nat.zero_le _), (Nat.zero_le _)⟩) hS (fun q _ h => ro_A hS hA q h) (ro_A hS hA) (fun r_16 u t H1 locs ht hvm k_17 hB hz1 hk1 hS => ?_)
      have hP := ro_P hk1 hP
      generalize H1 = H at hP hS ⊢
      try dsimp only at k_17
      obtain ⟨k_17, k_18⟩ := k_17
      have hP9 : va_P (dC, dI) vwCl (([(h0, .inr (6, [.ref sea, .ref pas, .ref fl, .ref fc, .int xlf, .int xhr, .int xho, .int xga, .int xsg, .int xpr, .int xfa, .long r_14]))] : va_W) ++ va_pl L f) H := va_P.part (X := [(h0, .inr (6, [.ref sea, .ref pas, .ref fl, .ref fc, .int xlf, .int xhr, .int xho, .int xga, .int xsg, .int xpr, .int xfa, .long r_14]))]) hP [0] rfl
      have hD9 : va_D A (([(h0, .inr (6, [.ref sea, .ref pas, .ref fl, .ref fc, .int xlf, .int xhr, .int xho, .int xga, .int xsg, .int xpr, .int xfa, .long r_14]))] : va_W) ++ va_pl L f) := va_D.part (X := [(h0, .inr (6, [.ref sea, .ref pas, .ref fl, .ref fc, .int xlf, .int xhr, .int xho, .int xga, .int xsg, .int xpr, .int xfa, .long r_14]))]) hD [0] (by decide) rfl
      have hK9 := hK.sub (tys' := [(cO, .object "java/lang/Object")]) [0] rfl
      exact W.iret (v := r_16) hx hb hr (fun t ht hW => ⟨⟨r_16, r_14, rfl, ⟨(by (try dsimp only); rw [if_pos (by omega), if_neg (by (first | omega | ((try simp only [Int32.lt_iff_toInt_lt, Int32.le_iff_toInt_le, ← Int32.toInt_inj, Int32.reduceToInt, zl1, zl2, zl3, zl4, zl9]); (try simp only [Int32.reduceToInt]); omega) | (subst_vars; assumption) | (refine ⟨?_, ?_⟩ <;> first | omega | (simp only [Int32.lt_iff_toInt_lt, Int32.le_iff_toInt_le, ← Int32.toInt_inj, Int32.reduceToInt, zl1, zl2, zl3, zl4, zl9]; omega) | (subst_vars; assumption))))]; exact k_17), (by (try dsimp only); rw [if_pos (by omega), if_neg (by (first | omega | ((try simp only [Int32.lt_iff_toInt_lt, Int32.le_iff_toInt_le, ← Int32.toInt_inj, Int32.reduceToInt, zl1, zl2, zl3, zl4, zl9]); (try simp only [Int32.reduceToInt]); omega) | (subst_vars; assumption) | (refine ⟨?_, ?_⟩ <;> first | omega | (simp only [Int32.lt_iff_toInt_lt, Int32.le_iff_toInt_le, ← Int32.toInt_inj, Int32.reduceToInt, zl1, zl2, zl3, zl4, zl9]; omega) | (subst_vars; assumption))))]; exact k_15)⟩, ⟨by rw [ht]; exact hP9, va_K.moved hW.alike hK9, hD9⟩⟩, hS.F ht⟩) hS.2.2 dX5_sale_36
    · skip
      have b_19 := b01z k_10 c_12
      (try simp only [Int32.lt_iff_toInt_lt, Int32.le_iff_toInt_le, ← Int32.toInt_inj, Int32.reduceToInt, zl1, zl2, zl3, zl4, zl9] at b_19)
      (try simp only [Int32.reduceToInt] at b_19)
      refine lv_bipush (v := (-4)) hx hb dX5_sale_19 (by decide) ?_
      have hP9 : va_P (dC, dI) vwCl (([(h0, .inr (6, [.ref sea, .ref pas, .ref fl, .ref fc, .int xlf, .int xhr, .int xho, .int xga, .int xsg, .int xpr, .int xfa, .long xls]))] : va_W) ++ va_pl L f) H := va_P.part (X := [(h0, .inr (6, [.ref sea, .ref pas, .ref fl, .ref fc, .int xlf, .int xhr, .int xho, .int xga, .int xsg, .int xpr, .int xfa, .long xls]))]) hP [0] rfl
      have hD9 : va_D A (([(h0, .inr (6, [.ref sea, .ref pas, .ref fl, .ref fc, .int xlf, .int xhr, .int xho, .int xga, .int xsg, .int xpr, .int xfa, .long xls]))] : va_W) ++ va_pl L f) := va_D.part (X := [(h0, .inr (6, [.ref sea, .ref pas, .ref fl, .ref fc, .int xlf, .int xhr, .int xho, .int xga, .int xsg, .int xpr, .int xfa, .long xls]))]) hD [0] (by decide) rfl
      have hK9 := hK.sub (tys' := [(cO, .object "java/lang/Object")]) [0] rfl
      have hv9 : (-4 : Int32).toInt = (-4) := by decide
      exact W.iret (v := (-4)) hx hb hr (fun t ht hW => ⟨⟨(-4), xls, rfl, ⟨(by (try dsimp only); rw [if_pos (by omega), if_pos (by (first | omega | ((try simp only [Int32.lt_iff_toInt_lt, Int32.le_iff_toInt_le, ← Int32.toInt_inj, Int32.reduceToInt, zl1, zl2, zl3, zl4, zl9]); (try simp only [Int32.reduceToInt]); omega) | (subst_vars; assumption) | (refine ⟨?_, ?_⟩ <;> first | omega | (simp only [Int32.lt_iff_toInt_lt, Int32.le_iff_toInt_le, ← Int32.toInt_inj, Int32.reduceToInt, zl1, zl2, zl3, zl4, zl9]; omega) | (subst_vars; assumption))))]; decide), (by (try dsimp only); rw [if_pos (by omega), if_pos (by (first | omega | ((try simp only [Int32.lt_iff_toInt_lt, Int32.le_iff_toInt_le, ← Int32.toInt_inj, Int32.reduceToInt, zl1, zl2, zl3, zl4, zl9]); (try simp only [Int32.reduceToInt]); omega) | (subst_vars; assumption) | (refine ⟨?_, ?_⟩ <;> first | omega | (simp only [Int32.lt_iff_toInt_lt, Int32.le_iff_toInt_le, ← Int32.toInt_inj, Int32.reduceToInt, zl1, zl2, zl3, zl4, zl9]; omega) | (subst_vars; assumption))))])⟩, ⟨by rw [ht]; exact hP9, va_K.moved hW.alike hK9, hD9⟩⟩, hS.F ht⟩) hS.2.2 dX5_sale_21
set_option maxRecDepth 20000 in
theorem iw_X5_meanPrice_X5 : ∀ w ∈ wsX50, w ∈ wsX5_meanPrice := fun w h => (List.mem_cons_of_mem _ (List.mem_append_left _ (List.mem_append_left _ (List.mem_append_right _ h))))
set_option maxRecDepth 20000 in
theorem iw_X5_meanPrice_X3 : ∀ w ∈ wsX30, w ∈ wsX5_meanPrice := fun w h => (List.mem_cons_of_mem _ (List.mem_append_left _ (List.mem_append_right _ h)))
set_option maxHeartbeats 4000000 in
set_option maxRecDepth 100000 in
/-- meanPrice -/
theorem c_X5_meanPrice (l : Launch) (dC : Nat → ClassId) (dI : Nat → Nat → Nat) (sz : Nat) (L : List Nat) (f : Nat → va_E) (h0 : Nat) (sea : Nat) (pas : Nat) (fl : Nat) (fc : Nat) (xlf : Int32) (xhr : Int32) (xho : Int32) (xga : Int32) (xsg : Int32) (xpr : Int32) (xfa : Int32) (xls : Int64) (cB : ClassId) (own : Nat → Nat) (te : Nat) (cO : ClassId) (rr : Nat → Nat) (cw : Nat → Nat → Int32) (n : Nat) (sa : Nat → Nat) (V : Nat → Nat → Int32) (oa : Nat → Nat) (ia : Nat → Nat) (nO : Nat → Nat) (OW : Nat → Nat → Nat → Int32) (nS : Nat → Nat) (SW : Nat → Nat → Nat → Int32) (Kf : Nat → Int32) (cI : ClassId) (i_xpr : 1 ≤ xpr.toInt ∧ xpr.toInt ≤ 10000) (i_xfa : 0 ≤ xfa.toInt ∧ xfa.toInt ≤ 1000) (hch : ∀ i : Nat, i < n → 0 ≤ (V i 2).toInt ∧ (V i 2).toInt ≤ 20000) (inv : Inv L f own te cO cB rr cw fl n sa V oa ia nO OW nS SW) : Met l yX5_meanPrice wsX5_meanPrice ({ frames := 5, cells := 0, slots := 0, locals := 109 }) (va_Pc [.ref h0] (fun U => U.heap.size = sz ∧ va_P (dC, dI) vwCl (([(h0, .inr (6, [.ref sea, .ref pas, .ref fl, .ref fc, .int xlf, .int xhr, .int xho, .int xga, .int xsg, .int xpr, .int xfa, .long xls])), (fc, .inl (cI, 6, .inl Kf))] : va_W) ++ va_pl L f) U.heap ∧ va_K (dC, dI) vwCl [(cO, .object "java/lang/Object"), (cI, .int)] U ∧ NW U ∧ va_D (fun _ => True) (([(h0, .inr (6, [.ref sea, .ref pas, .ref fl, .ref fc, .int xlf, .int xhr, .int xho, .int xga, .int xsg, .int xpr, .int xfa, .long xls])), (fc, .inl (cI, 6, .inl Kf))] : va_W) ++ va_pl L f))) (va_Qi (fun (r : Int32) (u : Int32 × (Nat → Int32)) => (r = if sumL (fun i => (V i 8).toInt) (fun i => Int64.ofInt (V i 2).toInt) n = 0 then (-3) else (sumL (fun i => (V i 8).toInt) (fun k => Int64.ofInt ((V k 2).toInt * priceF xpr.toInt xfa.toInt (befG (fun i => (V i 9).toInt) (fun i => (V i 8).toInt) (fun i => (V i 2).toInt) (fun i => (V i 0).toInt) (V k 9).toInt (V k 0).toInt n))) n / sumL (fun i => (V i 8).toInt) (fun i => Int64.ofInt (V i 2).toInt) n).toInt32) ∧ (u.1 = fndL (if sumL (fun i => (V i 8).toInt) (fun i => Int64.ofInt (V i 2).toInt) n = 0 then (4 : Int32) else 0) xlf) ∧ (u.2 = fndK (if sumL (fun i => (V i 8).toInt) (fun i => Int64.ofInt (V i 2).toInt) n = 0 then (4 : Int32) else 0) Kf)) (fun u t => va_P (dC, dI) vwCl (([(h0, .inr (6, [.ref sea, .ref pas, .ref fl, .ref fc, .int u.1, .int xhr, .int xho, .int xga, .int xsg, .int xpr, .int xfa, .long xls])), (fc, .inl (cI, 6, .inl u.2))] : va_W) ++ va_pl L f) t.heap ∧ va_K (dC, dI) vwCl [(cO, .object "java/lang/Object"), (cI, .int)] t ∧ va_D (va_A (([(h0, .inr (6, [.ref sea, .ref pas, .ref fl, .ref fc, .int xlf, .int xhr, .int xho, .int xga, .int xsg, .int xpr, .int xfa, .long xls])), (fc, .inl (cI, 6, .inl Kf))] : va_W) ++ va_pl L f) sz) (([(h0, .inr (6, [.ref sea, .ref pas, .ref fl, .ref fc, .int u.1, .int xhr, .int xho, .int xga, .int xsg, .int xpr, .int xfa, .long xls])), (fc, .inl (cI, 6, .inl u.2))] : va_W) ++ va_pl L f)) (va_A (([(h0, .inr (6, [.ref sea, .ref pas, .ref fl, .ref fc, .int xlf, .int xhr, .int xho, .int xga, .int xsg, .int xpr, .int xfa, .long xls])), (fc, .inl (cI, 6, .inl Kf))] : va_W) ++ va_pl L f) sz)) 0 0 (va_A (([(h0, .inr (6, [.ref sea, .ref pas, .ref fl, .ref fc, .int xlf, .int xhr, .int xho, .int xga, .int xsg, .int xpr, .int xfa, .long xls])), (fc, .inl (cI, 6, .inl Kf))] : va_W) ++ va_pl L f) sz) := by
  refine Met.ofW (cc := cX5_meanPrice) (maxL := 7) (ret := (some .int)) (by decide) rfl ?_
  intro p e s m args below meth c s₁ B hml hv
  obtain ⟨rfl, hsz, hP, hK, hN, hD0⟩ := hv
  have hx := B.exec
  have hb := B.bytes
  have hr := B.returns
  have hts := atoms_spec (ws := wsX5_meanPrice) B.pre
  have hown : s.vm.findClass RX5 = some m.cls := findClass_of_methodNamed B.named
  have hlocks := B.notSynchronized
  subst hsz
  have hD := hD0.self (sz := s.heap.size)
  generalize hAe : va_A (([(h0, .inr (6, [.ref sea, .ref pas, .ref fl, .ref fc, .int xlf, .int xhr, .int xho, .int xga, .int xsg, .int xpr, .int xfa, .long xls])), (fc, .inl (cI, 6, .inl Kf))] : va_W) ++ va_pl L f) s.heap.size = A at hD ⊢
  have hA : ∀ q : Nat, s.heap.size ≤ q → A q := fun q h => by rw [← hAe]; exact Or.inr h
  have hS : va_S A s.heap s.heap [] := va_S.rf
  have hP : va_P (dC, dI) vwCl (([(h0, .inr (6, [.ref sea, .ref pas, .ref fl, .ref fc, .int xlf, .int xhr, .int xho, .int xga, .int xsg, .int xpr, .int xfa, .long xls])), (fc, .inl (cI, 6, .inl Kf))] : va_W) ++ va_pl L f) s.heap := hP
  have hl := lv_entry ([.ref h0]) (n := 7) (Nat.le_of_ble_eq_true rfl)
  rw [lg_entry_eq]
  generalize (lg_sl ([.ref h0]) ++ List.replicate (7 - (lg_sl ([.ref h0])).length) Slot.unset).toArray = ls at hl ⊢
  have hl : lv_has ls 7 [(0, .ref h0)] := hl
  refine lv_lconst (v := 0) hx hb dX5_meanPrice_0 (by decide) ?_
  refine lv_lstore_n (lv' := [(1, .long 0), (0, .ref h0)]) hx hb dX5_meanPrice_1 rfl hl (by decide) rfl (fun ls hl => ?_)
  refine lv_lconst (v := 0) hx hb dX5_meanPrice_2 (by decide) ?_
  refine lv_lstore_n (lv' := [(3, .long 0), (1, .long 0), (0, .ref h0)]) hx hb dX5_meanPrice_3 rfl hl (by decide) rfl (fun ls hl => ?_)
  refine lv_iconst (v := 0) hx hb dX5_meanPrice_4 (by decide) ?_
  refine lv_istore (lv' := [(5, .int 0), (3, .long 0), (1, .long 0), (0, .ref h0)]) hx hb dX5_meanPrice_5 hl (by decide) rfl (fun ls hl => ?_)
  have key7 : ∀ (n7 : Nat) (sm : Int64) (mn : Int64) (ik : Int32) (H : Heap) (locs : List Loc) (ls : Array Slot), (0 ≤ ik.toInt ∧ ik.toInt ≤ 100) → (ik.toInt ≤ (n : Int)) → (sm = sumL (fun i => (V i 8).toInt) (fun k => Int64.ofInt ((V k 2).toInt * priceF xpr.toInt xfa.toInt (befG (fun i => (V i 9).toInt) (fun i => (V i 8).toInt) (fun i => (V i 2).toInt) (fun i => (V i 0).toInt) (V k 9).toInt (V k 0).toInt n))) ik.toNatClampNeg) → (mn = sumL (fun i => (V i 8).toInt) (fun i => Int64.ofInt (V i 2).toInt) ik.toNatClampNeg) → 100 - ik.toInt < (n7 : Int) → va_P (dC, dI) vwCl (([(h0, .inr (6, [.ref sea, .ref pas, .ref fl, .ref fc, .int xlf, .int xhr, .int xho, .int xga, .int xsg, .int xpr, .int xfa, .long xls])), (fc, .inl (cI, 6, .inl Kf))] : va_W) ++ va_pl L f) H → va_D A (([(h0, .inr (6, [.ref sea, .ref pas, .ref fl, .ref fc, .int xlf, .int xhr, .int xho, .int xga, .int xsg, .int xpr, .int xfa, .long xls])), (fc, .inl (cI, 6, .inl Kf))] : va_W) ++ va_pl L f) → va_S A s.heap H locs → lv_has ls 7 [(5, .int ik), (3, .long mn), (1, .long sm), (0, .ref h0)] → W p l e ({ frames := 5, cells := 0, slots := 0, locals := 109 } : Room) s m ([.ref h0] : List Value).toArray below meth c H locs 0 0 (MQ below (va_Qi (fun (r : Int32) (u : Int32 × (Nat → Int32)) => (r = if sumL (fun i => (V i 8).toInt) (fun i => Int64.ofInt (V i 2).toInt) n = 0 then (-3) else (sumL (fun i => (V i 8).toInt) (fun k => Int64.ofInt ((V k 2).toInt * priceF xpr.toInt xfa.toInt (befG (fun i => (V i 9).toInt) (fun i => (V i 8).toInt) (fun i => (V i 2).toInt) (fun i => (V i 0).toInt) (V k 9).toInt (V k 0).toInt n))) n / sumL (fun i => (V i 8).toInt) (fun i => Int64.ofInt (V i 2).toInt) n).toInt32) ∧ (u.1 = fndL (if sumL (fun i => (V i 8).toInt) (fun i => Int64.ofInt (V i 2).toInt) n = 0 then (4 : Int32) else 0) xlf) ∧ (u.2 = fndK (if sumL (fun i => (V i 8).toInt) (fun i => Int64.ofInt (V i 2).toInt) n = 0 then (4 : Int32) else 0) Kf)) (fun u t => va_P (dC, dI) vwCl (([(h0, .inr (6, [.ref sea, .ref pas, .ref fl, .ref fc, .int u.1, .int xhr, .int xho, .int xga, .int xsg, .int xpr, .int xfa, .long xls])), (fc, .inl (cI, 6, .inl u.2))] : va_W) ++ va_pl L f) t.heap ∧ va_K (dC, dI) vwCl [(cO, .object "java/lang/Object"), (cI, .int)] t ∧ va_D A (([(h0, .inr (6, [.ref sea, .ref pas, .ref fl, .ref fc, .int u.1, .int xhr, .int xho, .int xga, .int xsg, .int xpr, .int xfa, .long xls])), (fc, .inl (cI, 6, .inl u.2))] : va_W) ++ va_pl L f)) A) ([.ref h0] : List Value).toArray s 0 0 A) (F0 m 7 ls []) := by
    intro n7
    induction n7 with
    | zero =>
      intro sm mn ik H locs ls i_ik hle hsm hmn hm7
      exact absurd hm7 (by omega)
    | succ n7 ih7 =>
      intro sm mn ik H locs ls i_ik hle hsm hmn hm7 hP hD hS hl
      refine lv_iload hx hb dX5_meanPrice_7 (lv_at hl 0 rfl) ?_
      refine lv_aload_n hx hb dX5_meanPrice_9 rfl (lv_at hl 3 rfl) ?_
      refine va_get (D := (dC, dI)) (ci := 6) (v := .ref fl) (C := RX5) (T := TX5) (N := 12) hx hb hts iw_X5_meanPrice_X5 hown hK hP 0 rfl rfl 2 (by decide) (hts (.fieldLink RX5 26 "TeaRace" "fleet" "Ljava/util/List;") (by decide +kernel)) (fun _ h9 => h9) rfl dX5_meanPrice_10 ?_
      have hlf_1 := inv.2.1
      have hPc : va_P (dC, dI) vwCl (([] : va_W) ++ va_pl L f) H := va_P.part (X := [(h0, .inr (6, [.ref sea, .ref pas, .ref fl, .ref fc, .int xlf, .int xhr, .int xho, .int xga, .int xsg, .int xpr, .int xfa, .long xls])), (fc, .inl (cI, 6, .inl Kf))]) hP [] rfl
      have hKc := hK.sub (tys' := []) [] rfl
      obtain ⟨mc_2, ar_3, hm_4, hv_5, hn_6, hb_7⟩ := LstAt.obj hlf_1
      obtain ⟨k8_8, hk8_8⟩ : ∃ k : Nat, (([] : va_W) ++ va_pl L f)[k]? = some (fl, .inr (0, [.int mc_2, .ref ar_3, .int (nI n)])) := pl_at hm_4 hv_5
      refine va_callFi (va_runF (va_atK hKc (ci := 0) rfl) (As := []) (rest := [.int ik]) ⟨hx, hb, hml, hown, hts⟩ (c_Jx4a65c_size_8abf5 l dC dI H.size L f te fl n sa cO hlf_1) (va_cwF 0 hts gX5_meanPrice_Jx4a65c_size_8abf5_f107Jx4a65c rfl rfl rfl hN.fSize (by decide +kernel) ⟨Nat.le_of_ble_eq_true rfl, Nat.le_of_ble_eq_true rfl⟩) ⟨fun a U g mk q => by obtain ⟨q0, q1, qP, qK, qN⟩ := q; exact ⟨q0, q1, qP, va_K.moved (u := U) (U := U.calling g mk a) (Vm.Alike.refl U.vm) qK, NW.same (u := U) (U := U.calling g mk a) rfl qN⟩, va_recv hKc hPc (ci := 0) (q0 := k8_8) rfl hk8_8, fun U hU hW => ⟨rfl, by rw [hU], by rw [hU]; exact hPc, va_K.moved hW.alike hKc, NW.warm hW hN⟩⟩ rfl rfl hl.1 rfl (lv_room (Nat.le_of_ble_eq_true rfl)) dX5_meanPrice_13 ⟨(Nat.zero_le _), (Nat.zero_le _)⟩) hS (fun q _ h => ro_A hS hA q h) (ro_A hS hA) (fun r_9 u t H1 locs ht hvm k_10 hB hz1 hk1 hS => ?_)
      have hP := ro_P hk1 hP
      generalize H1 = H at hP hS ⊢
      try dsimp only at k_10
      obtain ⟨k_10, k_11, k_12⟩ := k_10
      refine lv_icmp_ge (tgt := 69) hx hb dX5_meanPrice_18 (by decide) (fun c_13 => ?_) (fun c_13 => ?_)
      · skip
        have qc_13 : r_9.toInt ≤ ik.toInt := le_k rfl rfl c_13
        refine lv_lload_n hx hb dX5_meanPrice_69 rfl (lv_at hl 1 rfl) ?_
        refine lv_lconst (v := 0) hx hb dX5_meanPrice_70 (by decide) ?_
        refine W.lcmp hx hb dX5_meanPrice_71 ?_
        refine lv_topi (fun x_14 ex_14 => ?_)
        refine lv_if_ne (tgt := 81) hx hb dX5_meanPrice_72 (by decide) (fun c_15 => ?_) (fun c_15 => ?_)
        · skip
          have lc_15 := lcmp_ne ex_14 c_15
          refine lv_lload_n hx hb dX5_meanPrice_81 rfl (lv_at hl 2 rfl) ?_
          refine lv_lload_n hx hb dX5_meanPrice_82 rfl (lv_at hl 1 rfl) ?_
          refine lv_ldiv hx hb dX5_meanPrice_83 lc_15 ?_
          refine lv_topl (fun w_16 ew_16 => ?_)
          refine lv_l2i (v := w_16.toInt32) hx hb dX5_meanPrice_84 rfl ?_
          refine lv_topi (fun x_17 ex_17 => ?_)
          have hP9 : va_P (dC, dI) vwCl (([(h0, .inr (6, [.ref sea, .ref pas, .ref fl, .ref fc, .int xlf, .int xhr, .int xho, .int xga, .int xsg, .int xpr, .int xfa, .long xls])), (fc, .inl (cI, 6, .inl Kf))] : va_W) ++ va_pl L f) H := va_P.part (X := [(h0, .inr (6, [.ref sea, .ref pas, .ref fl, .ref fc, .int xlf, .int xhr, .int xho, .int xga, .int xsg, .int xpr, .int xfa, .long xls])), (fc, .inl (cI, 6, .inl Kf))]) hP [0, 1] rfl
          have hD9 : va_D A (([(h0, .inr (6, [.ref sea, .ref pas, .ref fl, .ref fc, .int xlf, .int xhr, .int xho, .int xga, .int xsg, .int xpr, .int xfa, .long xls])), (fc, .inl (cI, 6, .inl Kf))] : va_W) ++ va_pl L f) := va_D.part (X := [(h0, .inr (6, [.ref sea, .ref pas, .ref fl, .ref fc, .int xlf, .int xhr, .int xho, .int xga, .int xsg, .int xpr, .int xfa, .long xls])), (fc, .inl (cI, 6, .inl Kf))]) hD [0, 1] (by decide) rfl
          have hK9 := hK.sub (tys' := [(cO, .object "java/lang/Object"), (cI, .int)]) [0, 1] rfl
          exact W.iret (v := x_17) hx hb hr (fun t ht hW => ⟨⟨x_17, (xlf, Kf), rfl, ⟨(by (try dsimp only); have e9 : ik.toNatClampNeg = n := (by have := tn_k (i := ik) rfl (by omega); omega); rewrite [e9] at hsm hmn; rw [← hmn, ← hsm, if_neg lc_15, ex_17, ew_16]), (by (try dsimp only); have e9 : ik.toNatClampNeg = n := (by have := tn_k (i := ik) rfl (by omega); omega); rewrite [e9] at hsm hmn; rw [← hmn, if_neg lc_15]; exact (fndL_0 _).symm), (by (try dsimp only); have e9 : ik.toNatClampNeg = n := (by have := tn_k (i := ik) rfl (by omega); omega); rewrite [e9] at hsm hmn; rw [← hmn, if_neg lc_15]; exact (fndK_0 _).symm)⟩, ⟨by rw [ht]; exact hP9, va_K.moved hW.alike hK9, hD9⟩⟩, hS.F ht⟩) hS.2.2 dX5_meanPrice_85
        · skip
          have zc_15 := lcmp_z ex_14 c_15
          refine lv_aload_n hx hb dX5_meanPrice_75 rfl (lv_at hl 3 rfl) ?_
          refine lv_iconst (v := 4) hx hb dX5_meanPrice_76 (by decide) ?_
          have hPc := hP.sub (ws' := [(h0, .inr (6, [.ref sea, .ref pas, .ref fl, .ref fc, .int xlf, .int xhr, .int xho, .int xga, .int xsg, .int xpr, .int xfa, .long xls])), (fc, .inl (cI, 6, .inl Kf))]) [0, 1] rfl
          have hDc := hD.sub (ws' := [(h0, .inr (6, [.ref sea, .ref pas, .ref fl, .ref fc, .int xlf, .int xhr, .int xho, .int xga, .int xsg, .int xpr, .int xfa, .long xls])), (fc, .inl (cI, 6, .inl Kf))]) [0, 1] (by decide) rfl
          have hKc := hK.sub (tys' := [(cI, .int)]) [1] rfl
          have hFc := va_free (wc := [(h0, .inr (6, [.ref sea, .ref pas, .ref fl, .ref fc, .int xlf, .int xhr, .int xho, .int xga, .int xsg, .int xpr, .int xfa, .long xls])), (fc, .inl (cI, 6, .inl Kf))]) hD hS hA [0, 1] rfl
          refine va_calli (va_runV (As := [.int 4]) (rest := []) ⟨hx, hb, hml, hown, hts⟩ (c_X5_found l dC dI H.size h0 sea pas fl fc xlf xhr xho xga xsg xpr xfa xls Kf cI 4 (by decide)) (cwV 1 hts gX5_meanPrice_X5_found rfl rfl rfl (by decide +kernel) ⟨Nat.le_of_ble_eq_true rfl, Nat.le_of_ble_eq_true rfl⟩) ⟨fun a U g mk q => by obtain ⟨q0, q1, qP, qK, qN, qD⟩ := q; exact ⟨q0, q1, qP, va_K.moved (u := U) (U := U.calling g mk a) (Vm.Alike.refl U.vm) qK, NW.same (u := U) (U := U.calling g mk a) rfl qN, qD⟩, va_recv hKc hPc (ci := 6) (q0 := 0) rfl rfl, fun U hU hW => ⟨rfl, by rw [hU], by rw [hU]; exact hPc, va_K.moved hW.alike hKc, NW.warm hW hN, hDc.weaken (fun _ _ _ _ => trivial)⟩⟩ rfl rfl hl.1 rfl (lv_room (Nat.le_of_ble_eq_true rfl)) dX5_meanPrice_77 ⟨(Nat.zero_le _), (Nat.zero_le _)⟩) hS (fun q _ h => hFc q h) hFc (fun r_18 u t H1 locs ht hvm k_19 hB hz1 hk1 hS => ?_)
          obtain ⟨u_20, eu_20⟩ : ∃ z, z = u := ⟨_, rfl⟩
          subst eu_20
          obtain ⟨hP1, hK1, hD1⟩ := hB
          rw [ht] at hP1
          have hK1 := va_K.moved hvm.symm hK1
          obtain ⟨hP, hD⟩ := va_joinQ (X := [(h0, .inr (6, [.ref sea, .ref pas, .ref fl, .ref fc, .int xlf, .int xhr, .int xho, .int xga, .int xsg, .int xpr, .int xfa, .long xls])), (fc, .inl (cI, 6, .inl Kf))]) (cx := [(h0, .inr (6, [.ref sea, .ref pas, .ref fl, .ref fc, .int xlf, .int xhr, .int xho, .int xga, .int xsg, .int xpr, .int xfa, .long xls])), (fc, .inl (cI, 6, .inl Kf))]) (wr := []) (w1 := [(h0, .inr (6, [.ref sea, .ref pas, .ref fl, .ref fc, .int 4, .int xhr, .int xho, .int xga, .int xsg, .int xpr, .int xfa, .long xls])), (fc, .inl (cI, 6, .inl u_20))]) hP hD [0, 1] [] rfl rfl (by decide) (by decide) hk1 hFc hP1 hD1
          generalize H1 = H at hP hS ⊢
          have hP : va_P (dC, dI) vwCl (([(h0, .inr (6, [.ref sea, .ref pas, .ref fl, .ref fc, .int 4, .int xhr, .int xho, .int xga, .int xsg, .int xpr, .int xfa, .long xls])), (fc, .inl (cI, 6, .inl u_20))] : va_W) ++ va_pl L f) H := hP
          have hD : va_D A (([(h0, .inr (6, [.ref sea, .ref pas, .ref fl, .ref fc, .int 4, .int xhr, .int xho, .int xga, .int xsg, .int xpr, .int xfa, .long xls])), (fc, .inl (cI, 6, .inl u_20))] : va_W) ++ va_pl L f) := hD
          try dsimp only at k_19
          obtain ⟨k_19, k_21⟩ := k_19
          obtain rfl : r_18 = (-3) := k_19
          have hP9 : va_P (dC, dI) vwCl (([(h0, .inr (6, [.ref sea, .ref pas, .ref fl, .ref fc, .int 4, .int xhr, .int xho, .int xga, .int xsg, .int xpr, .int xfa, .long xls])), (fc, .inl (cI, 6, .inl u_20))] : va_W) ++ va_pl L f) H := va_P.part (X := [(h0, .inr (6, [.ref sea, .ref pas, .ref fl, .ref fc, .int 4, .int xhr, .int xho, .int xga, .int xsg, .int xpr, .int xfa, .long xls])), (fc, .inl (cI, 6, .inl u_20))]) hP [0, 1] rfl
          have hD9 : va_D A (([(h0, .inr (6, [.ref sea, .ref pas, .ref fl, .ref fc, .int 4, .int xhr, .int xho, .int xga, .int xsg, .int xpr, .int xfa, .long xls])), (fc, .inl (cI, 6, .inl u_20))] : va_W) ++ va_pl L f) := va_D.part (X := [(h0, .inr (6, [.ref sea, .ref pas, .ref fl, .ref fc, .int 4, .int xhr, .int xho, .int xga, .int xsg, .int xpr, .int xfa, .long xls])), (fc, .inl (cI, 6, .inl u_20))]) hD [0, 1] (by decide) rfl
          have hK9 := hK.sub (tys' := [(cO, .object "java/lang/Object"), (cI, .int)]) [0, 1] rfl
          have hv9 : (-3 : Int32).toInt = (-3) := by decide
          exact W.iret (v := (-3)) hx hb hr (fun t ht hW => ⟨⟨(-3), (4, u_20), rfl, ⟨(by (try dsimp only); have e9 : ik.toNatClampNeg = n := (by have := tn_k (i := ik) rfl (by omega); omega); rewrite [e9] at hsm hmn; rw [← hmn, if_pos zc_15]), (by (try dsimp only); have e9 : ik.toNatClampNeg = n := (by have := tn_k (i := ik) rfl (by omega); omega); rewrite [e9] at hsm hmn; rw [← hmn, if_pos zc_15]; exact (fndL_c (by decide)).symm), (by (try dsimp only); have e9 : ik.toNatClampNeg = n := (by have := tn_k (i := ik) rfl (by omega); omega); rewrite [e9] at hsm hmn; rw [← hmn, if_pos zc_15, fndK_c (by decide)]; exact k_21)⟩, ⟨by rw [ht]; exact hP9, va_K.moved hW.alike hK9, hD9⟩⟩, hS.F ht⟩) hS.2.2 dX5_meanPrice_80
      · skip
        have qc_13 : ik.toInt < r_9.toInt := nle_k rfl rfl c_13
        refine lv_aload_n hx hb dX5_meanPrice_21 rfl (lv_at hl 3 rfl) ?_
        refine va_get (D := (dC, dI)) (ci := 6) (v := .ref fl) (C := RX5) (T := TX5) (N := 12) hx hb hts iw_X5_meanPrice_X5 hown hK hP 0 rfl rfl 2 (by decide) (hts (.fieldLink RX5 26 "TeaRace" "fleet" "Ljava/util/List;") (by decide +kernel)) (fun _ h9 => h9) rfl dX5_meanPrice_22 ?_
        refine lv_iload hx hb dX5_meanPrice_25 (lv_at hl 0 rfl) ?_
        have hPc : va_P (dC, dI) vwCl (([] : va_W) ++ va_pl L f) H := va_P.part (X := [(h0, .inr (6, [.ref sea, .ref pas, .ref fl, .ref fc, .int xlf, .int xhr, .int xho, .int xga, .int xsg, .int xpr, .int xfa, .long xls])), (fc, .inl (cI, 6, .inl Kf))]) hP [] rfl
        have hKc := hK.sub (tys' := [(cO, .object "java/lang/Object")]) [0] rfl
        obtain ⟨k8_22, hk8_22⟩ : ∃ k : Nat, (([] : va_W) ++ va_pl L f)[k]? = some (fl, .inr (0, [.int mc_2, .ref ar_3, .int (nI n)])) := pl_at hm_4 hv_5
        refine va_callFq (va_runF (va_atK hKc (ci := 0) rfl) (As := [.int ik]) (rest := []) ⟨hx, hb, hml, hown, hts⟩ (c_Jx4a65c_get_915e3 l dC dI H.size L f te fl n sa cO ik (by omega) (by omega) hlf_1) (va_cwF 1 hts gX5_meanPrice_Jx4a65c_get_915e3_f175Jx4a65c rfl rfl rfl hN.fGet (by decide +kernel) ⟨Nat.le_of_ble_eq_true rfl, Nat.le_of_ble_eq_true rfl⟩) ⟨fun a U g mk q => by obtain ⟨q0, q1, qP, qK, qN⟩ := q; exact ⟨q0, q1, qP, va_K.moved (u := U) (U := U.calling g mk a) (Vm.Alike.refl U.vm) qK, NW.same (u := U) (U := U.calling g mk a) rfl qN⟩, va_recv hKc hPc (ci := 0) (q0 := k8_22) rfl hk8_22, fun U hU hW => ⟨rfl, by rw [hU], by rw [hU]; exact hPc, va_K.moved hW.alike hKc, NW.warm hW hN⟩⟩ rfl rfl hl.1 rfl (lv_room (Nat.le_of_ble_eq_true rfl)) dX5_meanPrice_27 ⟨(Nat.zero_le _), (Nat.zero_le _)⟩) hS (fun q _ h => ro_A hS hA q h) (ro_A hS hA) (fun r_23 u t H1 locs ht hvm k_24 hB hz1 hk1 hS => ?_)
        have hP := ro_P hk1 hP
        generalize H1 = H at hP hS ⊢
        try dsimp only at k_24
        obtain rfl : r_23 = some (sa ik.toNatClampNeg) := k_24
        refine W.eq (g2 := F0 m 32 ls [.ref (sa ik.toNatClampNeg)]) rfl ?_
        have hsp_25 := inv.2.2.2.2.2 ik.toNatClampNeg (tn_lt (by omega) (by omega))
        obtain ⟨k9_26, hk9_26⟩ : ∃ k : Nat, (([(h0, .inr (6, [.ref sea, .ref pas, .ref fl, .ref fc, .int xlf, .int xhr, .int xho, .int xga, .int xsg, .int xpr, .int xfa, .long xls])), (fc, .inl (cI, 6, .inl Kf))] : va_W) ++ va_pl L f)[k]? = some ((sa ik.toNatClampNeg), .inr (4, [.int (V ik.toNatClampNeg 0), .int (V ik.toNatClampNeg 1), .int (V ik.toNatClampNeg 2), .ref (oa ik.toNatClampNeg), .ref (ia ik.toNatClampNeg), .int (V ik.toNatClampNeg 3), .int (V ik.toNatClampNeg 4), .int (V ik.toNatClampNeg 5), .int (V ik.toNatClampNeg 6), .int (V ik.toNatClampNeg 7), .int (V ik.toNatClampNeg 8), .int (V ik.toNatClampNeg 9), .int (V ik.toNatClampNeg 10), .int (V ik.toNatClampNeg 11)])) := pl_at hsp_25.1 hsp_25.2.1
        refine va_castS hx hb hown (hts (.classLink RX5 113 "TeaRace$Ship") (by decide +kernel)) (va_atK hK (ci := 4) rfl) (va_recv hK hP (ci := 4) (q0 := k9_26) rfl hk9_26) dX5_meanPrice_32 ?_
        refine lv_astore (lv' := [(6, .ref (sa ik.toNatClampNeg)), (5, .int ik), (3, .long mn), (1, .long sm), (0, .ref h0)]) hx hb dX5_meanPrice_35 hl (by decide) rfl (fun ls hl => ?_)
        refine lv_aload hx hb dX5_meanPrice_37 (lv_at hl 0 rfl) ?_
        have hPc : va_P (dC, dI) vwCl (([] : va_W) ++ va_pl L f) H := va_P.part (X := [(h0, .inr (6, [.ref sea, .ref pas, .ref fl, .ref fc, .int xlf, .int xhr, .int xho, .int xga, .int xsg, .int xpr, .int xfa, .long xls])), (fc, .inl (cI, 6, .inl Kf))]) hP [] rfl
        have hKc := hK.sub (tys' := []) [] rfl
        obtain ⟨k8_27, hk8_27⟩ : ∃ k : Nat, (([] : va_W) ++ va_pl L f)[k]? = some ((sa ik.toNatClampNeg), .inr (4, [.int (V ik.toNatClampNeg 0), .int (V ik.toNatClampNeg 1), .int (V ik.toNatClampNeg 2), .ref (oa ik.toNatClampNeg), .ref (ia ik.toNatClampNeg), .int (V ik.toNatClampNeg 3), .int (V ik.toNatClampNeg 4), .int (V ik.toNatClampNeg 5), .int (V ik.toNatClampNeg 6), .int (V ik.toNatClampNeg 7), .int (V ik.toNatClampNeg 8), .int (V ik.toNatClampNeg 9), .int (V ik.toNatClampNeg 10), .int (V ik.toNatClampNeg 11)])) := pl_at hsp_25.1 hsp_25.2.1
        refine va_calli (va_runV (As := []) (rest := []) ⟨hx, hb, hml, hown, hts⟩ (c_X3_isHome l dC dI H.size L f (sa ik.toNatClampNeg) (oa ik.toNatClampNeg) (ia ik.toNatClampNeg) (V ik.toNatClampNeg) ⟨hsp_25.1, hsp_25.2.1⟩) (cwV 0 hts gX5_meanPrice_X3_isHome rfl rfl rfl (by decide +kernel) ⟨Nat.le_of_ble_eq_true rfl, Nat.le_of_ble_eq_true rfl⟩) ⟨fun a U g mk q => by obtain ⟨q0, q1, qP, qK, qN⟩ := q; exact ⟨q0, q1, qP, va_K.moved (u := U) (U := U.calling g mk a) (Vm.Alike.refl U.vm) qK, NW.same (u := U) (U := U.calling g mk a) rfl qN⟩, va_recv hKc hPc (ci := 4) (q0 := k8_27) rfl hk8_27, fun U hU hW => ⟨rfl, by rw [hU], by rw [hU]; exact hPc, va_K.moved hW.alike hKc, NW.warm hW hN⟩⟩ rfl rfl hl.1 rfl (lv_room (Nat.le_of_ble_eq_true rfl)) dX5_meanPrice_39 ⟨(Nat.zero_le _), (Nat.zero_le _)⟩) hS (fun q _ h => ro_A hS hA q h) (ro_A hS hA) (fun r_28 u t H1 locs ht hvm k_29 hB hz1 hk1 hS => ?_)
        have hP := ro_P hk1 hP
        generalize H1 = H at hP hS ⊢
        try dsimp only at k_29
        obtain ⟨k_29, k_30⟩ := k_29
        refine lv_if_eq (tgt := 63) hx hb dX5_meanPrice_42 (by decide) (fun c_31 => ?_) (fun c_31 => ?_)
        · skip
          have b_32 := b01z k_29 c_31
          (try simp only [Int32.lt_iff_toInt_lt, Int32.le_iff_toInt_le, ← Int32.toInt_inj, Int32.reduceToInt, zl1, zl2, zl3, zl4, zl9] at b_32)
          (try simp only [Int32.reduceToInt] at b_32)
          obtain ⟨x_33, ex_33⟩ : ∃ y : Int32, y = ik + 1 := ⟨_, rfl⟩
          have tx_33 : x_33.toInt = ik.toInt + 1 := ad_k ex_33 rfl (by decide) (by omega) (by omega)
          refine lv_iinc (v := x_33) (lv' := [(5, .int x_33), (6, .ref (sa ik.toNatClampNeg)), (3, .long mn), (1, .long sm), (0, .ref h0)]) hx hb dX5_meanPrice_63 hl (k := 1) rfl (by rw [ex_33]; rfl) (by decide) rfl (fun ls hl => ?_)
          refine lv_goto (tgt := 7) hx hb dX5_meanPrice_66 (by decide) ?_
          exact ih7 sm mn x_33  H locs ls ⟨(by first | omega | (simp only [Int32.reduceToInt]; omega)), (by first | omega | (simp only [Int32.reduceToInt]; omega))⟩ (by first | omega | (simp only [Int32.reduceToInt]; omega)) (sumL_skip hsm (by omega) tx_33 (by show (V ik.toNatClampNeg 8).toInt = -9; omega)) (sumL_skip hmn (by omega) tx_33 (by show (V ik.toNatClampNeg 8).toInt = -9; omega)) (by first | omega | (simp only [Int32.reduceToInt]; omega)) hP hD hS (lv_sub hl [0, 2, 3, 4] rfl)
        · skip
          have b_34 := b01n k_29 c_31
          (try simp only [Int32.lt_iff_toInt_lt, Int32.le_iff_toInt_le, ← Int32.toInt_inj, Int32.reduceToInt, zl1, zl2, zl3, zl4, zl9] at b_34)
          (try simp only [Int32.reduceToInt] at b_34)
          refine lv_lload_n hx hb dX5_meanPrice_45 rfl (lv_at hl 3 rfl) ?_
          refine lv_aload_n hx hb dX5_meanPrice_46 rfl (lv_at hl 4 rfl) ?_
          refine lv_aload hx hb dX5_meanPrice_47 (lv_at hl 0 rfl) ?_
          have hPc : va_P (dC, dI) vwCl (([(h0, .inr (6, [.ref sea, .ref pas, .ref fl, .ref fc, .int xlf, .int xhr, .int xho, .int xga, .int xsg, .int xpr, .int xfa, .long xls]))] : va_W) ++ va_pl L f) H := va_P.part (X := [(h0, .inr (6, [.ref sea, .ref pas, .ref fl, .ref fc, .int xlf, .int xhr, .int xho, .int xga, .int xsg, .int xpr, .int xfa, .long xls])), (fc, .inl (cI, 6, .inl Kf))]) hP [0] rfl
          have hKc := hK.sub (tys' := [(cO, .object "java/lang/Object")]) [0] rfl
          refine va_calll (va_runV (As := [.ref (sa ik.toNatClampNeg)]) (rest := [.long sm]) ⟨hx, hb, hml, hown, hts⟩ (c_X5_takings l dC dI H.size L f h0 sea pas fl fc xlf xhr xho xga xsg xpr xfa xls cB own te cO rr cw n sa V oa ia nO OW nS SW (sa ik.toNatClampNeg) (oa ik.toNatClampNeg) (ia ik.toNatClampNeg) (V ik.toNatClampNeg) ⟨(by omega), (by omega)⟩ ⟨(by omega), (by omega)⟩ hch ⟨hsp_25.1, hsp_25.2.1⟩ inv) (cwV 1 hts gX5_meanPrice_X5_takings rfl rfl rfl (by decide +kernel) ⟨Nat.le_of_ble_eq_true rfl, Nat.le_of_ble_eq_true rfl⟩) ⟨fun a U g mk q => by obtain ⟨q0, q1, qP, qK, qN⟩ := q; exact ⟨q0, q1, qP, va_K.moved (u := U) (U := U.calling g mk a) (Vm.Alike.refl U.vm) qK, NW.same (u := U) (U := U.calling g mk a) rfl qN⟩, va_recv hKc hPc (ci := 6) (q0 := 0) rfl rfl, fun U hU hW => ⟨rfl, by rw [hU], by rw [hU]; exact hPc, va_K.moved hW.alike hKc, NW.warm hW hN⟩⟩ rfl rfl hl.1 rfl (lv_room (Nat.le_of_ble_eq_true rfl)) dX5_meanPrice_49 ⟨(Nat.zero_le _), (Nat.zero_le _)⟩) hS (fun q _ h => ro_A hS hA q h) (ro_A hS hA) (fun r_35 u t H1 locs ht hvm k_36 hB hz1 hk1 hS => ?_)
          have hP := ro_P hk1 hP
          generalize H1 = H at hP hS ⊢
          try dsimp only at k_36
          refine lv_ladd hx hb dX5_meanPrice_52 ?_
          refine lv_topl (fun w_37 ew_37 => ?_)
          refine lv_lstore_n (lv' := [(1, .long w_37), (6, .ref (sa ik.toNatClampNeg)), (5, .int ik), (3, .long mn), (0, .ref h0)]) hx hb dX5_meanPrice_53 rfl hl (by decide) rfl (fun ls hl => ?_)
          refine lv_lload_n hx hb dX5_meanPrice_54 rfl (lv_at hl 3 rfl) ?_
          refine lv_aload hx hb dX5_meanPrice_55 (lv_at hl 1 rfl) ?_
          obtain ⟨k9_38, hk9_38⟩ : ∃ k : Nat, (([(h0, .inr (6, [.ref sea, .ref pas, .ref fl, .ref fc, .int xlf, .int xhr, .int xho, .int xga, .int xsg, .int xpr, .int xfa, .long xls])), (fc, .inl (cI, 6, .inl Kf))] : va_W) ++ va_pl L f)[k]? = some ((sa ik.toNatClampNeg), .inr (4, [.int (V ik.toNatClampNeg 0), .int (V ik.toNatClampNeg 1), .int (V ik.toNatClampNeg 2), .ref (oa ik.toNatClampNeg), .ref (ia ik.toNatClampNeg), .int (V ik.toNatClampNeg 3), .int (V ik.toNatClampNeg 4), .int (V ik.toNatClampNeg 5), .int (V ik.toNatClampNeg 6), .int (V ik.toNatClampNeg 7), .int (V ik.toNatClampNeg 8), .int (V ik.toNatClampNeg 9), .int (V ik.toNatClampNeg 10), .int (V ik.toNatClampNeg 11)])) := pl_at hsp_25.1 hsp_25.2.1
          refine va_get (D := (dC, dI)) (ci := 4) (v := .int (V ik.toNatClampNeg 2)) (C := RX3) (T := TX3) (N := 14) hx hb hts iw_X5_meanPrice_X3 hown hK hP k9_38 hk9_38 rfl 2 (by decide) (hts (.fieldLink RX5 147 "TeaRace$Ship" "chests" "I") (by decide +kernel)) (fun _ h9 => h9) rfl dX5_meanPrice_57 ?_
          have hc_39 := hch ik.toNatClampNeg (tn_lt (by omega) (by omega))
          refine lv_i2l (v := (V ik.toNatClampNeg 2).toInt64) hx hb dX5_meanPrice_60 rfl ?_
          refine lv_ladd hx hb dX5_meanPrice_61 ?_
          refine lv_topl (fun w_40 ew_40 => ?_)
          refine lv_lstore_n (lv' := [(3, .long w_40), (1, .long w_37), (6, .ref (sa ik.toNatClampNeg)), (5, .int ik), (0, .ref h0)]) hx hb dX5_meanPrice_62 rfl hl (by decide) rfl (fun ls hl => ?_)
          obtain ⟨x_41, ex_41⟩ : ∃ y : Int32, y = ik + 1 := ⟨_, rfl⟩
          have tx_41 : x_41.toInt = ik.toInt + 1 := ad_k ex_41 rfl (by decide) (by omega) (by omega)
          refine lv_iinc (v := x_41) (lv' := [(5, .int x_41), (3, .long w_40), (1, .long w_37), (6, .ref (sa ik.toNatClampNeg)), (0, .ref h0)]) hx hb dX5_meanPrice_63 hl (k := 3) rfl (by rw [ex_41]; rfl) (by decide) rfl (fun ls hl => ?_)
          refine lv_goto (tgt := 7) hx hb dX5_meanPrice_66 (by decide) ?_
          exact ih7 w_37 w_40 x_41  H locs ls ⟨(by first | omega | (simp only [Int32.reduceToInt]; omega)), (by first | omega | (simp only [Int32.reduceToInt]; omega))⟩ (by first | omega | (simp only [Int32.reduceToInt]; omega)) (sumL_take hsm (by omega) tx_41 (by show ¬ (V ik.toNatClampNeg 8).toInt = -9; omega) k_36 ew_37) (sumL_take hmn (by omega) tx_41 (by show ¬ (V ik.toNatClampNeg 8).toInt = -9; omega) (Int64.ofInt_int32ToInt _).symm ew_40) (by first | omega | (simp only [Int32.reduceToInt]; omega)) hP hD hS (lv_sub hl [0, 1, 2, 4] rfl)
  exact key7 101 0 0 0  _ _ ls (by decide) (by (try simp only [Int32.reduceToInt]); omega) rfl rfl (by (try simp only [Int32.reduceToInt]); omega) hP hD hS hl
set_option maxRecDepth 20000 in
theorem iw_X5_mark_X3 : ∀ w ∈ wsX30, w ∈ wsX5_mark := fun w h => (List.mem_cons_of_mem _ (List.mem_append_left _ (List.mem_append_left _ (List.mem_append_right _ h))))
set_option maxHeartbeats 4000000 in
set_option maxRecDepth 100000 in
/-- mark -/
theorem c_X5_mark (l : Launch) (dC : Nat → ClassId) (dI : Nat → Nat → Nat) (sz : Nat) (L : List Nat) (f : Nat → va_E) (h0 : Nat) (sea : Nat) (pas : Nat) (fl : Nat) (fc : Nat) (xlf : Int32) (xhr : Int32) (xho : Int32) (xga : Int32) (xsg : Int32) (xpr : Int32) (xfa : Int32) (xls : Int64) (cB : ClassId) (own : Nat → Nat) (te : Nat) (cO : ClassId) (rr : Nat → Nat) (cw : Nat → Nat → Int32) (n : Nat) (sa : Nat → Nat) (V : Nat → Nat → Int32) (oa : Nat → Nat) (ia : Nat → Nat) (nO : Nat → Nat) (OW : Nat → Nat → Nat → Int32) (nS : Nat → Nat) (SW : Nat → Nat → Nat → Int32) (Kf : Nat → Int32) (cI : ClassId) (a0 : Int32) (a1 : Int32) (inv : Inv L f own te cO cB rr cw fl n sa V oa ia nO OW nS SW) : Met l yX5_mark wsX5_mark ({ frames := 4, cells := 0, slots := 0, locals := 85 }) (va_Pc [.ref h0, .int a0, .int a1] (fun U => U.heap.size = sz ∧ va_P (dC, dI) vwCl (([(h0, .inr (6, [.ref sea, .ref pas, .ref fl, .ref fc, .int xlf, .int xhr, .int xho, .int xga, .int xsg, .int xpr, .int xfa, .long xls])), (fc, .inl (cI, 6, .inl Kf))] : va_W) ++ va_pl L f) U.heap ∧ va_K (dC, dI) vwCl [(cO, .object "java/lang/Object"), (cI, .int)] U ∧ NW U ∧ va_D (fun _ => True) (([(h0, .inr (6, [.ref sea, .ref pas, .ref fl, .ref fc, .int xlf, .int xhr, .int xho, .int xga, .int xsg, .int xpr, .int xfa, .long xls])), (fc, .inl (cI, 6, .inl Kf))] : va_W) ++ va_pl L f))) (va_Qi (fun (r : Int32) (u : Int32 × (Nat → Int32)) => (((0 ≤ a0.toInt ∧ a0.toInt < (n : Int)) → (0 ≤ (V a0.toNatClampNeg 5).toInt ∧ (V a0.toNatClampNeg 5).toInt ≤ 7) ∧ (0 ≤ (V a0.toNatClampNeg 6).toInt ∧ (V a0.toNatClampNeg 6).toInt ≤ 9)) → r.toInt = if ((0 ≤ a0.toInt ∧ a0.toInt < (n : Int)) ∧ (1 ≤ a1.toInt ∧ a1.toInt ≤ 3)) then (if ((V a0.toNatClampNeg 1).toInt = a1.toInt ∨ ((V a0.toNatClampNeg 1).toInt = 3 ∧ a1.toInt = 1)) then (if a1.toInt = 1 then (nO a0.toNatClampNeg : Int) else if a1.toInt = 2 then spd 2 (V a0.toNatClampNeg 6).toInt 0 0 0 else (V a0.toNatClampNeg 7).toInt) else -3) else -1) ∧ (u.1 = fndL (if (((0 ≤ a0.toInt ∧ a0.toInt < (n : Int)) ∧ (1 ≤ a1.toInt ∧ a1.toInt ≤ 3)) ∧ ¬ ((V a0.toNatClampNeg 1).toInt = a1.toInt ∨ ((V a0.toNatClampNeg 1).toInt = 3 ∧ a1.toInt = 1))) then (3 : Int32) else 0) xlf) ∧ (u.2 = fndK (if (((0 ≤ a0.toInt ∧ a0.toInt < (n : Int)) ∧ (1 ≤ a1.toInt ∧ a1.toInt ≤ 3)) ∧ ¬ ((V a0.toNatClampNeg 1).toInt = a1.toInt ∨ ((V a0.toNatClampNeg 1).toInt = 3 ∧ a1.toInt = 1))) then (3 : Int32) else 0) Kf)) (fun u t => va_P (dC, dI) vwCl (([(h0, .inr (6, [.ref sea, .ref pas, .ref fl, .ref fc, .int u.1, .int xhr, .int xho, .int xga, .int xsg, .int xpr, .int xfa, .long xls])), (fc, .inl (cI, 6, .inl u.2))] : va_W) ++ va_pl L f) t.heap ∧ va_K (dC, dI) vwCl [(cO, .object "java/lang/Object"), (cI, .int)] t ∧ va_D (va_A (([(h0, .inr (6, [.ref sea, .ref pas, .ref fl, .ref fc, .int xlf, .int xhr, .int xho, .int xga, .int xsg, .int xpr, .int xfa, .long xls])), (fc, .inl (cI, 6, .inl Kf))] : va_W) ++ va_pl L f) sz) (([(h0, .inr (6, [.ref sea, .ref pas, .ref fl, .ref fc, .int u.1, .int xhr, .int xho, .int xga, .int xsg, .int xpr, .int xfa, .long xls])), (fc, .inl (cI, 6, .inl u.2))] : va_W) ++ va_pl L f)) (va_A (([(h0, .inr (6, [.ref sea, .ref pas, .ref fl, .ref fc, .int xlf, .int xhr, .int xho, .int xga, .int xsg, .int xpr, .int xfa, .long xls])), (fc, .inl (cI, 6, .inl Kf))] : va_W) ++ va_pl L f) sz)) 0 0 (va_A (([(h0, .inr (6, [.ref sea, .ref pas, .ref fl, .ref fc, .int xlf, .int xhr, .int xho, .int xga, .int xsg, .int xpr, .int xfa, .long xls])), (fc, .inl (cI, 6, .inl Kf))] : va_W) ++ va_pl L f) sz) := by
  refine Met.ofW (cc := cX5_mark) (maxL := 4) (ret := (some .int)) (by decide) rfl ?_
  intro p e s m args below meth c s₁ B hml hv
  obtain ⟨rfl, hsz, hP, hK, hN, hD0⟩ := hv
  have hx := B.exec
  have hb := B.bytes
  have hr := B.returns
  have hts := atoms_spec (ws := wsX5_mark) B.pre
  have hown : s.vm.findClass RX5 = some m.cls := findClass_of_methodNamed B.named
  have hlocks := B.notSynchronized
  subst hsz
  have hD := hD0.self (sz := s.heap.size)
  generalize hAe : va_A (([(h0, .inr (6, [.ref sea, .ref pas, .ref fl, .ref fc, .int xlf, .int xhr, .int xho, .int xga, .int xsg, .int xpr, .int xfa, .long xls])), (fc, .inl (cI, 6, .inl Kf))] : va_W) ++ va_pl L f) s.heap.size = A at hD ⊢
  have hA : ∀ q : Nat, s.heap.size ≤ q → A q := fun q h => by rw [← hAe]; exact Or.inr h
  have hS : va_S A s.heap s.heap [] := va_S.rf
  have hP : va_P (dC, dI) vwCl (([(h0, .inr (6, [.ref sea, .ref pas, .ref fl, .ref fc, .int xlf, .int xhr, .int xho, .int xga, .int xsg, .int xpr, .int xfa, .long xls])), (fc, .inl (cI, 6, .inl Kf))] : va_W) ++ va_pl L f) s.heap := hP
  have hl := lv_entry ([.ref h0, .int a0, .int a1]) (n := 4) (Nat.le_of_ble_eq_true rfl)
  rw [lg_entry_eq]
  generalize (lg_sl ([.ref h0, .int a0, .int a1]) ++ List.replicate (4 - (lg_sl ([.ref h0, .int a0, .int a1])).length) Slot.unset).toArray = ls at hl ⊢
  have hl : lv_has ls 4 [(0, .ref h0), (1, .int a0), (2, .int a1)] := hl
  refine lv_aload_n hx hb dX5_mark_0 rfl (lv_at hl 0 rfl) ?_
  refine lv_iload_n hx hb dX5_mark_1 rfl (lv_at hl 1 rfl) ?_
  have hPc : va_P (dC, dI) vwCl (([(h0, .inr (6, [.ref sea, .ref pas, .ref fl, .ref fc, .int xlf, .int xhr, .int xho, .int xga, .int xsg, .int xpr, .int xfa, .long xls]))] : va_W) ++ va_pl L f) s.heap := va_P.part (X := [(h0, .inr (6, [.ref sea, .ref pas, .ref fl, .ref fc, .int xlf, .int xhr, .int xho, .int xga, .int xsg, .int xpr, .int xfa, .long xls])), (fc, .inl (cI, 6, .inl Kf))]) hP [0] rfl
  have hKc := hK.sub (tys' := [(cO, .object "java/lang/Object")]) [0] rfl
  refine va_callq (va_runV (As := [.int a0]) (rest := []) ⟨hx, hb, hml, hown, hts⟩ (c_X5_shipOf l dC dI s.heap.size L f h0 sea pas fl fc xlf xhr xho xga xsg xpr xfa xls cB own te cO rr cw n sa V oa ia nO OW nS SW a0 inv) (cwV 1 hts gX5_mark_X5_shipOf rfl rfl rfl (by decide +kernel) ⟨Nat.le_of_ble_eq_true rfl, Nat.le_of_ble_eq_true rfl⟩) ⟨fun a U g mk q => by obtain ⟨q0, q1, qP, qK, qN⟩ := q; exact ⟨q0, q1, qP, va_K.moved (u := U) (U := U.calling g mk a) (Vm.Alike.refl U.vm) qK, NW.same (u := U) (U := U.calling g mk a) rfl qN⟩, va_recv hKc hPc (ci := 6) (q0 := 0) rfl rfl, fun U hU hW => ⟨rfl, by rw [hU], by rw [hU]; exact hPc, va_K.moved hW.alike hKc, NW.warm hW hN⟩⟩ rfl rfl hl.1 rfl (lv_room (Nat.le_of_ble_eq_true rfl)) dX5_mark_2 ⟨(Nat.zero_le _), (Nat.zero_le _)⟩) hS (fun q _ h => ro_A hS hA q h) (ro_A hS hA) (fun r_1 u t H1 locs ht hvm k_2 hB hz1 hk1 hS => ?_)
  have hP := ro_P hk1 hP
  generalize H1 = H at hP hS ⊢
  try dsimp only at k_2
  obtain ⟨k_2, k_3⟩ := k_2
  rcases r_1 with _ | q_4
  · skip
    have hno := k_3 rfl
    refine W.eq (g2 := F0 m 5 ls [.null]) rfl ?_
    refine lv_astore_nN (lv' := [(3, .null), (0, .ref h0), (1, .int a0), (2, .int a1)]) hx hb dX5_mark_5 rfl hl (by decide) rfl (fun ls hl => ?_)
    refine lv_aload_nN hx hb dX5_mark_6 rfl (lv_at hl 0 rfl) ?_
    refine lv_ifnullN (tgt := 20) hx hb dX5_mark_7 (by decide) ?_
    refine lv_iconst (v := (-1)) hx hb dX5_mark_20 (by decide) ?_
    have hP9 : va_P (dC, dI) vwCl (([(h0, .inr (6, [.ref sea, .ref pas, .ref fl, .ref fc, .int xlf, .int xhr, .int xho, .int xga, .int xsg, .int xpr, .int xfa, .long xls])), (fc, .inl (cI, 6, .inl Kf))] : va_W) ++ va_pl L f) H := va_P.part (X := [(h0, .inr (6, [.ref sea, .ref pas, .ref fl, .ref fc, .int xlf, .int xhr, .int xho, .int xga, .int xsg, .int xpr, .int xfa, .long xls])), (fc, .inl (cI, 6, .inl Kf))]) hP [0, 1] rfl
    have hD9 : va_D A (([(h0, .inr (6, [.ref sea, .ref pas, .ref fl, .ref fc, .int xlf, .int xhr, .int xho, .int xga, .int xsg, .int xpr, .int xfa, .long xls])), (fc, .inl (cI, 6, .inl Kf))] : va_W) ++ va_pl L f) := va_D.part (X := [(h0, .inr (6, [.ref sea, .ref pas, .ref fl, .ref fc, .int xlf, .int xhr, .int xho, .int xga, .int xsg, .int xpr, .int xfa, .long xls])), (fc, .inl (cI, 6, .inl Kf))]) hD [0, 1] (by decide) rfl
    have hK9 := hK.sub (tys' := [(cO, .object "java/lang/Object"), (cI, .int)]) [0, 1] rfl
    have hv9 : (-1 : Int32).toInt = (-1) := by decide
    exact W.iret (v := (-1)) hx hb hr (fun t ht hW => ⟨⟨(-1), (xlf, Kf), rfl, ⟨(fun h => by (try simp only [Int32.reduceToInt]); (repeat' split) <;> omega), (by (try dsimp only); (all_goals ((repeat' split) <;> first | rfl | exact (fndL_0 _).symm | exact (fndL_c (by decide)).symm | exact (fndK_0 _).symm | exact (fndK_c (by decide)).symm | (rw [fndK_0]; exact (fndK_c (by decide)).symm) | (exfalso; omega)))), (by (try dsimp only); (all_goals ((repeat' split) <;> first | rfl | exact (fndL_0 _).symm | exact (fndL_c (by decide)).symm | exact (fndK_0 _).symm | exact (fndK_c (by decide)).symm | (rw [fndK_0]; exact (fndK_c (by decide)).symm) | (exfalso; omega))))⟩, ⟨by rw [ht]; exact hP9, va_K.moved hW.alike hK9, hD9⟩⟩, hS.F ht⟩) hS.2.2 dX5_mark_21
  · skip
    obtain ⟨hi_5, hi_6, rfl⟩ := k_2 q_4 rfl
    refine W.eq (g2 := F0 m 5 ls [.ref (sa a0.toNatClampNeg)]) rfl ?_
    have hn8 := inv.2.2.2.2.1
    have hsp_7 := inv.2.2.2.2.2 a0.toNatClampNeg (tn_lt (by omega) (by omega))
    refine lv_astore_n (lv' := [(3, .ref (sa a0.toNatClampNeg)), (0, .ref h0), (1, .int a0), (2, .int a1)]) hx hb dX5_mark_5 rfl hl (by decide) rfl (fun ls hl => ?_)
    refine lv_aload_n hx hb dX5_mark_6 rfl (lv_at hl 0 rfl) ?_
    refine lv_ifnull hx hb dX5_mark_7 ?_
    refine lv_iload_n hx hb dX5_mark_10 rfl (lv_at hl 3 rfl) ?_
    refine lv_iconst (v := 1) hx hb dX5_mark_11 (by decide) ?_
    refine lv_icmp_lt (tgt := 20) hx hb dX5_mark_12 (by decide) (fun c_8 => ?_) (fun c_8 => ?_)
    · skip
      have qc_8 : a1.toInt < 1 := lt_k rfl (by decide) c_8
      refine lv_iconst (v := (-1)) hx hb dX5_mark_20 (by decide) ?_
      have hP9 : va_P (dC, dI) vwCl (([(h0, .inr (6, [.ref sea, .ref pas, .ref fl, .ref fc, .int xlf, .int xhr, .int xho, .int xga, .int xsg, .int xpr, .int xfa, .long xls])), (fc, .inl (cI, 6, .inl Kf))] : va_W) ++ va_pl L f) H := va_P.part (X := [(h0, .inr (6, [.ref sea, .ref pas, .ref fl, .ref fc, .int xlf, .int xhr, .int xho, .int xga, .int xsg, .int xpr, .int xfa, .long xls])), (fc, .inl (cI, 6, .inl Kf))]) hP [0, 1] rfl
      have hD9 : va_D A (([(h0, .inr (6, [.ref sea, .ref pas, .ref fl, .ref fc, .int xlf, .int xhr, .int xho, .int xga, .int xsg, .int xpr, .int xfa, .long xls])), (fc, .inl (cI, 6, .inl Kf))] : va_W) ++ va_pl L f) := va_D.part (X := [(h0, .inr (6, [.ref sea, .ref pas, .ref fl, .ref fc, .int xlf, .int xhr, .int xho, .int xga, .int xsg, .int xpr, .int xfa, .long xls])), (fc, .inl (cI, 6, .inl Kf))]) hD [0, 1] (by decide) rfl
      have hK9 := hK.sub (tys' := [(cO, .object "java/lang/Object"), (cI, .int)]) [0, 1] rfl
      have hv9 : (-1 : Int32).toInt = (-1) := by decide
      exact W.iret (v := (-1)) hx hb hr (fun t ht hW => ⟨⟨(-1), (xlf, Kf), rfl, ⟨(fun h => by (try simp only [Int32.reduceToInt]); (repeat' split) <;> omega), (by (try dsimp only); (all_goals ((repeat' split) <;> first | rfl | exact (fndL_0 _).symm | exact (fndL_c (by decide)).symm | exact (fndK_0 _).symm | exact (fndK_c (by decide)).symm | (rw [fndK_0]; exact (fndK_c (by decide)).symm) | (exfalso; omega)))), (by (try dsimp only); (all_goals ((repeat' split) <;> first | rfl | exact (fndL_0 _).symm | exact (fndL_c (by decide)).symm | exact (fndK_0 _).symm | exact (fndK_c (by decide)).symm | (rw [fndK_0]; exact (fndK_c (by decide)).symm) | (exfalso; omega))))⟩, ⟨by rw [ht]; exact hP9, va_K.moved hW.alike hK9, hD9⟩⟩, hS.F ht⟩) hS.2.2 dX5_mark_21
    · skip
      have qc_8 : 1 ≤ a1.toInt := nlt_k rfl (by decide) c_8
      refine lv_iload_n hx hb dX5_mark_15 rfl (lv_at hl 3 rfl) ?_
      refine lv_iconst (v := 3) hx hb dX5_mark_16 (by decide) ?_
      refine lv_icmp_le (tgt := 22) hx hb dX5_mark_17 (by decide) (fun c_9 => ?_) (fun c_9 => ?_)
      · skip
        have qc_9 : a1.toInt ≤ 3 := le_k rfl (by decide) c_9
        refine lv_aload_n hx hb dX5_mark_22 rfl (lv_at hl 0 rfl) ?_
        refine lv_iload_n hx hb dX5_mark_23 rfl (lv_at hl 3 rfl) ?_
        have hPc : va_P (dC, dI) vwCl (([] : va_W) ++ va_pl L f) H := va_P.part (X := [(h0, .inr (6, [.ref sea, .ref pas, .ref fl, .ref fc, .int xlf, .int xhr, .int xho, .int xga, .int xsg, .int xpr, .int xfa, .long xls])), (fc, .inl (cI, 6, .inl Kf))]) hP [] rfl
        have hKc := hK.sub (tys' := []) [] rfl
        obtain ⟨k8_10, hk8_10⟩ : ∃ k : Nat, (([] : va_W) ++ va_pl L f)[k]? = some ((sa a0.toNatClampNeg), .inr (4, [.int (V a0.toNatClampNeg 0), .int (V a0.toNatClampNeg 1), .int (V a0.toNatClampNeg 2), .ref (oa a0.toNatClampNeg), .ref (ia a0.toNatClampNeg), .int (V a0.toNatClampNeg 3), .int (V a0.toNatClampNeg 4), .int (V a0.toNatClampNeg 5), .int (V a0.toNatClampNeg 6), .int (V a0.toNatClampNeg 7), .int (V a0.toNatClampNeg 8), .int (V a0.toNatClampNeg 9), .int (V a0.toNatClampNeg 10), .int (V a0.toNatClampNeg 11)])) := pl_at hsp_7.1 hsp_7.2.1
        refine va_calli (va_runV (As := [.int a1]) (rest := []) ⟨hx, hb, hml, hown, hts⟩ (c_X3_isOf l dC dI H.size L f (sa a0.toNatClampNeg) (oa a0.toNatClampNeg) (ia a0.toNatClampNeg) (V a0.toNatClampNeg) a1 ⟨hsp_7.1, hsp_7.2.1⟩) (cwV 1 hts gX5_mark_X3_isOf rfl rfl rfl (by decide +kernel) ⟨Nat.le_of_ble_eq_true rfl, Nat.le_of_ble_eq_true rfl⟩) ⟨fun a U g mk q => by obtain ⟨q0, q1, qP, qK, qN⟩ := q; exact ⟨q0, q1, qP, va_K.moved (u := U) (U := U.calling g mk a) (Vm.Alike.refl U.vm) qK, NW.same (u := U) (U := U.calling g mk a) rfl qN⟩, va_recv hKc hPc (ci := 4) (q0 := k8_10) rfl hk8_10, fun U hU hW => ⟨rfl, by rw [hU], by rw [hU]; exact hPc, va_K.moved hW.alike hKc, NW.warm hW hN⟩⟩ rfl rfl hl.1 rfl (lv_room (Nat.le_of_ble_eq_true rfl)) dX5_mark_24 ⟨(Nat.zero_le _), (Nat.zero_le _)⟩) hS (fun q _ h => ro_A hS hA q h) (ro_A hS hA) (fun r_11 u t H1 locs ht hvm k_12 hB hz1 hk1 hS => ?_)
        have hP := ro_P hk1 hP
        generalize H1 = H at hP hS ⊢
        try dsimp only at k_12
        obtain ⟨k_12, k_13, k_14⟩ := k_12
        refine lv_if_ne (tgt := 36) hx hb dX5_mark_27 (by decide) (fun c_15 => ?_) (fun c_15 => ?_)
        · skip
          have qc_15 : r_11.toInt ≠ 0 := ne_k rfl (by decide) c_15
          refine lv_iload_n hx hb dX5_mark_36 rfl (lv_at hl 3 rfl) ?_
          have v_16 : a1 = 1 ∨ a1 = 2 ∨ a1 = 3 := by
            simp only [← Int32.toInt_inj, Int32.reduceToInt]
            omega
          rcases v_16 with h_v_16 | h_v_16 | h_v_16
          · skip
            have qv_16 : a1.toInt = 1 := by rw [h_v_16]; decide
            refine lv_lookup (off := 27) (tgt := 64) hx hb dX5_mark_37 (by decide) (by rw [qv_16]; decide) (by decide) ?_
            refine lv_aload_n hx hb dX5_mark_64 rfl (lv_at hl 0 rfl) ?_
            obtain ⟨k9_17, hk9_17⟩ : ∃ k : Nat, (([(h0, .inr (6, [.ref sea, .ref pas, .ref fl, .ref fc, .int xlf, .int xhr, .int xho, .int xga, .int xsg, .int xpr, .int xfa, .long xls])), (fc, .inl (cI, 6, .inl Kf))] : va_W) ++ va_pl L f)[k]? = some ((sa a0.toNatClampNeg), .inr (4, [.int (V a0.toNatClampNeg 0), .int (V a0.toNatClampNeg 1), .int (V a0.toNatClampNeg 2), .ref (oa a0.toNatClampNeg), .ref (ia a0.toNatClampNeg), .int (V a0.toNatClampNeg 3), .int (V a0.toNatClampNeg 4), .int (V a0.toNatClampNeg 5), .int (V a0.toNatClampNeg 6), .int (V a0.toNatClampNeg 7), .int (V a0.toNatClampNeg 8), .int (V a0.toNatClampNeg 9), .int (V a0.toNatClampNeg 10), .int (V a0.toNatClampNeg 11)])) := pl_at hsp_7.1 hsp_7.2.1
            refine va_get (D := (dC, dI)) (ci := 4) (v := .ref (oa a0.toNatClampNeg)) (C := RX3) (T := TX3) (N := 14) hx hb hts iw_X5_mark_X3 hown hK hP k9_17 hk9_17 rfl 3 (by decide) (hts (.fieldLink RX5 153 "TeaRace$Ship" "orders" "Ljava/util/List;") (by decide +kernel)) (fun _ h9 => h9) rfl dX5_mark_65 ?_
            obtain ⟨g_18, hlst_19, hels_20⟩ := id hsp_7.2.2.2.1
            have hPc : va_P (dC, dI) vwCl (([] : va_W) ++ va_pl L f) H := va_P.part (X := [(h0, .inr (6, [.ref sea, .ref pas, .ref fl, .ref fc, .int xlf, .int xhr, .int xho, .int xga, .int xsg, .int xpr, .int xfa, .long xls])), (fc, .inl (cI, 6, .inl Kf))]) hP [] rfl
            have hKc := hK.sub (tys' := []) [] rfl
            obtain ⟨mc_21, ar_22, hm_23, hv_24, hn_25, hb_26⟩ := LstAt.obj hlst_19
            obtain ⟨k8_27, hk8_27⟩ : ∃ k : Nat, (([] : va_W) ++ va_pl L f)[k]? = some ((oa a0.toNatClampNeg), .inr (0, [.int mc_21, .ref ar_22, .int (nI (nO a0.toNatClampNeg))])) := pl_at hm_23 hv_24
            refine va_callFi (va_runF (va_atK hKc (ci := 0) rfl) (As := []) (rest := []) ⟨hx, hb, hml, hown, hts⟩ (c_Jx4a65c_size_8abf5 l dC dI H.size L f te (oa a0.toNatClampNeg) (nO a0.toNatClampNeg) g_18 cO hlst_19) (va_cwF 0 hts gX5_mark_Jx4a65c_size_8abf5_f107Jx4a65c rfl rfl rfl hN.fSize (by decide +kernel) ⟨Nat.le_of_ble_eq_true rfl, Nat.le_of_ble_eq_true rfl⟩) ⟨fun a U g mk q => by obtain ⟨q0, q1, qP, qK, qN⟩ := q; exact ⟨q0, q1, qP, va_K.moved (u := U) (U := U.calling g mk a) (Vm.Alike.refl U.vm) qK, NW.same (u := U) (U := U.calling g mk a) rfl qN⟩, va_recv hKc hPc (ci := 0) (q0 := k8_27) rfl hk8_27, fun U hU hW => ⟨rfl, by rw [hU], by rw [hU]; exact hPc, va_K.moved hW.alike hKc, NW.warm hW hN⟩⟩ rfl rfl hl.1 rfl (lv_room (Nat.le_of_ble_eq_true rfl)) dX5_mark_68 ⟨(Nat.zero_le _), (Nat.zero_le _)⟩) hS (fun q _ h => ro_A hS hA q h) (ro_A hS hA) (fun r_28 u t H1 locs ht hvm k_29 hB hz1 hk1 hS => ?_)
            have hP := ro_P hk1 hP
            generalize H1 = H at hP hS ⊢
            try dsimp only at k_29
            obtain ⟨k_29, k_30, k_31⟩ := k_29
            have hP9 : va_P (dC, dI) vwCl (([(h0, .inr (6, [.ref sea, .ref pas, .ref fl, .ref fc, .int xlf, .int xhr, .int xho, .int xga, .int xsg, .int xpr, .int xfa, .long xls])), (fc, .inl (cI, 6, .inl Kf))] : va_W) ++ va_pl L f) H := va_P.part (X := [(h0, .inr (6, [.ref sea, .ref pas, .ref fl, .ref fc, .int xlf, .int xhr, .int xho, .int xga, .int xsg, .int xpr, .int xfa, .long xls])), (fc, .inl (cI, 6, .inl Kf))]) hP [0, 1] rfl
            have hD9 : va_D A (([(h0, .inr (6, [.ref sea, .ref pas, .ref fl, .ref fc, .int xlf, .int xhr, .int xho, .int xga, .int xsg, .int xpr, .int xfa, .long xls])), (fc, .inl (cI, 6, .inl Kf))] : va_W) ++ va_pl L f) := va_D.part (X := [(h0, .inr (6, [.ref sea, .ref pas, .ref fl, .ref fc, .int xlf, .int xhr, .int xho, .int xga, .int xsg, .int xpr, .int xfa, .long xls])), (fc, .inl (cI, 6, .inl Kf))]) hD [0, 1] (by decide) rfl
            have hK9 := hK.sub (tys' := [(cO, .object "java/lang/Object"), (cI, .int)]) [0, 1] rfl
            exact W.iret (v := r_28) hx hb hr (fun t ht hW => ⟨⟨r_28, (xlf, Kf), rfl, ⟨(fun h => by have i0 := k_12; have i1 := k_13; (try simp only [Int32.reduceToInt]); (repeat' split) <;> omega), (by (try dsimp only); (all_goals ((repeat' split) <;> first | rfl | exact (fndL_0 _).symm | exact (fndL_c (by decide)).symm | exact (fndK_0 _).symm | exact (fndK_c (by decide)).symm | (rw [fndK_0]; exact (fndK_c (by decide)).symm) | (exfalso; omega)))), (by (try dsimp only); (all_goals ((repeat' split) <;> first | rfl | exact (fndL_0 _).symm | exact (fndL_c (by decide)).symm | exact (fndK_0 _).symm | exact (fndK_c (by decide)).symm | (rw [fndK_0]; exact (fndK_c (by decide)).symm) | (exfalso; omega))))⟩, ⟨by rw [ht]; exact hP9, va_K.moved hW.alike hK9, hD9⟩⟩, hS.F ht⟩) hS.2.2 dX5_mark_73
          · skip
            have qv_16 : a1.toInt = 2 := by rw [h_v_16]; decide
            refine lv_lookup (off := 37) (tgt := 74) hx hb dX5_mark_37 (by decide) (by rw [qv_16]; decide) (by decide) ?_
            refine lv_aload_n hx hb dX5_mark_74 rfl (lv_at hl 0 rfl) ?_
            refine lv_aload_n hx hb dX5_mark_75 rfl (lv_at hl 0 rfl) ?_
            obtain ⟨k9_32, hk9_32⟩ : ∃ k : Nat, (([(h0, .inr (6, [.ref sea, .ref pas, .ref fl, .ref fc, .int xlf, .int xhr, .int xho, .int xga, .int xsg, .int xpr, .int xfa, .long xls])), (fc, .inl (cI, 6, .inl Kf))] : va_W) ++ va_pl L f)[k]? = some ((sa a0.toNatClampNeg), .inr (4, [.int (V a0.toNatClampNeg 0), .int (V a0.toNatClampNeg 1), .int (V a0.toNatClampNeg 2), .ref (oa a0.toNatClampNeg), .ref (ia a0.toNatClampNeg), .int (V a0.toNatClampNeg 3), .int (V a0.toNatClampNeg 4), .int (V a0.toNatClampNeg 5), .int (V a0.toNatClampNeg 6), .int (V a0.toNatClampNeg 7), .int (V a0.toNatClampNeg 8), .int (V a0.toNatClampNeg 9), .int (V a0.toNatClampNeg 10), .int (V a0.toNatClampNeg 11)])) := pl_at hsp_7.1 hsp_7.2.1
            refine va_get (D := (dC, dI)) (ci := 4) (v := .int (V a0.toNatClampNeg 5)) (C := RX3) (T := TX3) (N := 14) hx hb hts iw_X5_mark_X3 hown hK hP k9_32 hk9_32 rfl 7 (by decide) (hts (.fieldLink RX5 138 "TeaRace$Ship" "way" "I") (by decide +kernel)) (fun _ h9 => h9) rfl dX5_mark_76 ?_
            refine lv_iconst (v := 0) hx hb dX5_mark_79 (by decide) ?_
            have hPc : va_P (dC, dI) vwCl (([] : va_W) ++ va_pl L f) H := va_P.part (X := [(h0, .inr (6, [.ref sea, .ref pas, .ref fl, .ref fc, .int xlf, .int xhr, .int xho, .int xga, .int xsg, .int xpr, .int xfa, .long xls])), (fc, .inl (cI, 6, .inl Kf))]) hP [] rfl
            have hKc := hK.sub (tys' := []) [] rfl
            obtain ⟨k8_33, hk8_33⟩ : ∃ k : Nat, (([] : va_W) ++ va_pl L f)[k]? = some ((sa a0.toNatClampNeg), .inr (4, [.int (V a0.toNatClampNeg 0), .int (V a0.toNatClampNeg 1), .int (V a0.toNatClampNeg 2), .ref (oa a0.toNatClampNeg), .ref (ia a0.toNatClampNeg), .int (V a0.toNatClampNeg 3), .int (V a0.toNatClampNeg 4), .int (V a0.toNatClampNeg 5), .int (V a0.toNatClampNeg 6), .int (V a0.toNatClampNeg 7), .int (V a0.toNatClampNeg 8), .int (V a0.toNatClampNeg 9), .int (V a0.toNatClampNeg 10), .int (V a0.toNatClampNeg 11)])) := pl_at hsp_7.1 hsp_7.2.1
            refine va_calli (va_runV (As := [.int (V a0.toNatClampNeg 5), .int 0]) (rest := []) ⟨hx, hb, hml, hown, hts⟩ (c_X3_speedIn l dC dI H.size L f (sa a0.toNatClampNeg) (oa a0.toNatClampNeg) (ia a0.toNatClampNeg) (V a0.toNatClampNeg) (V a0.toNatClampNeg 5) 0 ⟨hsp_7.1, hsp_7.2.1⟩) (cwV 2 hts gX5_mark_X3_speedIn rfl rfl rfl (by decide +kernel) ⟨Nat.le_of_ble_eq_true rfl, Nat.le_of_ble_eq_true rfl⟩) ⟨fun a U g mk q => by obtain ⟨q0, q1, qP, qK, qN⟩ := q; exact ⟨q0, q1, qP, va_K.moved (u := U) (U := U.calling g mk a) (Vm.Alike.refl U.vm) qK, NW.same (u := U) (U := U.calling g mk a) rfl qN⟩, va_recv hKc hPc (ci := 4) (q0 := k8_33) rfl hk8_33, fun U hU hW => ⟨rfl, by rw [hU], by rw [hU]; exact hPc, va_K.moved hW.alike hKc, NW.warm hW hN⟩⟩ rfl rfl hl.1 rfl (lv_room (Nat.le_of_ble_eq_true rfl)) dX5_mark_80 ⟨(Nat.zero_le _), (Nat.zero_le _)⟩) hS (fun q _ h => ro_A hS hA q h) (ro_A hS hA) (fun r_34 u t H1 locs ht hvm k_35 hB hz1 hk1 hS => ?_)
            have hP := ro_P hk1 hP
            generalize H1 = H at hP hS ⊢
            try dsimp only at k_35
            have hP9 : va_P (dC, dI) vwCl (([(h0, .inr (6, [.ref sea, .ref pas, .ref fl, .ref fc, .int xlf, .int xhr, .int xho, .int xga, .int xsg, .int xpr, .int xfa, .long xls])), (fc, .inl (cI, 6, .inl Kf))] : va_W) ++ va_pl L f) H := va_P.part (X := [(h0, .inr (6, [.ref sea, .ref pas, .ref fl, .ref fc, .int xlf, .int xhr, .int xho, .int xga, .int xsg, .int xpr, .int xfa, .long xls])), (fc, .inl (cI, 6, .inl Kf))]) hP [0, 1] rfl
            have hD9 : va_D A (([(h0, .inr (6, [.ref sea, .ref pas, .ref fl, .ref fc, .int xlf, .int xhr, .int xho, .int xga, .int xsg, .int xpr, .int xfa, .long xls])), (fc, .inl (cI, 6, .inl Kf))] : va_W) ++ va_pl L f) := va_D.part (X := [(h0, .inr (6, [.ref sea, .ref pas, .ref fl, .ref fc, .int xlf, .int xhr, .int xho, .int xga, .int xsg, .int xpr, .int xfa, .long xls])), (fc, .inl (cI, 6, .inl Kf))]) hD [0, 1] (by decide) rfl
            have hK9 := hK.sub (tys' := [(cO, .object "java/lang/Object"), (cI, .int)]) [0, 1] rfl
            exact W.iret (v := r_34) hx hb hr (fun t ht hW => ⟨⟨r_34, (xlf, Kf), rfl, ⟨(fun h => by have i0 := k_12; have i1 := k_13; have z2 : (V a0.toNatClampNeg 1).toInt = 2 := (by omega); have h9 := h (by omega); have z1 := k_35 ⟨h9.1, ⟨by decide, by decide⟩, h9.2⟩; rewrite [z2] at z1; unfold spd at z1; rewrite [if_pos rfl] at z1; unfold spd; rw [if_pos (rfl : (2 : Int) = 2)]; (try simp only [Int32.reduceToInt]); (repeat' split) <;> (try split at z1) <;> omega), (by (try dsimp only); (all_goals ((repeat' split) <;> first | rfl | exact (fndL_0 _).symm | exact (fndL_c (by decide)).symm | exact (fndK_0 _).symm | exact (fndK_c (by decide)).symm | (rw [fndK_0]; exact (fndK_c (by decide)).symm) | (exfalso; omega)))), (by (try dsimp only); (all_goals ((repeat' split) <;> first | rfl | exact (fndL_0 _).symm | exact (fndL_c (by decide)).symm | exact (fndK_0 _).symm | exact (fndK_c (by decide)).symm | (rw [fndK_0]; exact (fndK_c (by decide)).symm) | (exfalso; omega))))⟩, ⟨by rw [ht]; exact hP9, va_K.moved hW.alike hK9, hD9⟩⟩, hS.F ht⟩) hS.2.2 dX5_mark_83
          · skip
            have qv_16 : a1.toInt = 3 := by rw [h_v_16]; decide
            refine lv_lookup (off := 47) (tgt := 84) hx hb dX5_mark_37 (by decide) (by rw [qv_16]; decide) (by decide) ?_
            refine lv_aload_n hx hb dX5_mark_84 rfl (lv_at hl 0 rfl) ?_
            obtain ⟨k9_36, hk9_36⟩ : ∃ k : Nat, (([(h0, .inr (6, [.ref sea, .ref pas, .ref fl, .ref fc, .int xlf, .int xhr, .int xho, .int xga, .int xsg, .int xpr, .int xfa, .long xls])), (fc, .inl (cI, 6, .inl Kf))] : va_W) ++ va_pl L f)[k]? = some ((sa a0.toNatClampNeg), .inr (4, [.int (V a0.toNatClampNeg 0), .int (V a0.toNatClampNeg 1), .int (V a0.toNatClampNeg 2), .ref (oa a0.toNatClampNeg), .ref (ia a0.toNatClampNeg), .int (V a0.toNatClampNeg 3), .int (V a0.toNatClampNeg 4), .int (V a0.toNatClampNeg 5), .int (V a0.toNatClampNeg 6), .int (V a0.toNatClampNeg 7), .int (V a0.toNatClampNeg 8), .int (V a0.toNatClampNeg 9), .int (V a0.toNatClampNeg 10), .int (V a0.toNatClampNeg 11)])) := pl_at hsp_7.1 hsp_7.2.1
            refine va_get (D := (dC, dI)) (ci := 4) (v := .int (V a0.toNatClampNeg 7)) (C := RX3) (T := TX3) (N := 14) hx hb hts iw_X5_mark_X3 hown hK hP k9_36 hk9_36 rfl 9 (by decide) (hts (.fieldLink RX5 159 "TeaRace$Ship" "cellsComeTo" "I") (by decide +kernel)) (fun _ h9 => h9) rfl dX5_mark_85 ?_
            have hP9 : va_P (dC, dI) vwCl (([(h0, .inr (6, [.ref sea, .ref pas, .ref fl, .ref fc, .int xlf, .int xhr, .int xho, .int xga, .int xsg, .int xpr, .int xfa, .long xls])), (fc, .inl (cI, 6, .inl Kf))] : va_W) ++ va_pl L f) H := va_P.part (X := [(h0, .inr (6, [.ref sea, .ref pas, .ref fl, .ref fc, .int xlf, .int xhr, .int xho, .int xga, .int xsg, .int xpr, .int xfa, .long xls])), (fc, .inl (cI, 6, .inl Kf))]) hP [0, 1] rfl
            have hD9 : va_D A (([(h0, .inr (6, [.ref sea, .ref pas, .ref fl, .ref fc, .int xlf, .int xhr, .int xho, .int xga, .int xsg, .int xpr, .int xfa, .long xls])), (fc, .inl (cI, 6, .inl Kf))] : va_W) ++ va_pl L f) := va_D.part (X := [(h0, .inr (6, [.ref sea, .ref pas, .ref fl, .ref fc, .int xlf, .int xhr, .int xho, .int xga, .int xsg, .int xpr, .int xfa, .long xls])), (fc, .inl (cI, 6, .inl Kf))]) hD [0, 1] (by decide) rfl
            have hK9 := hK.sub (tys' := [(cO, .object "java/lang/Object"), (cI, .int)]) [0, 1] rfl
            exact W.iret (v := (V a0.toNatClampNeg 7)) hx hb hr (fun t ht hW => ⟨⟨(V a0.toNatClampNeg 7), (xlf, Kf), rfl, ⟨(fun h => by have i0 := k_12; have i1 := k_13; (try simp only [Int32.reduceToInt]); (repeat' split) <;> omega), (by (try dsimp only); (all_goals ((repeat' split) <;> first | rfl | exact (fndL_0 _).symm | exact (fndL_c (by decide)).symm | exact (fndK_0 _).symm | exact (fndK_c (by decide)).symm | (rw [fndK_0]; exact (fndK_c (by decide)).symm) | (exfalso; omega)))), (by (try dsimp only); (all_goals ((repeat' split) <;> first | rfl | exact (fndL_0 _).symm | exact (fndL_c (by decide)).symm | exact (fndK_0 _).symm | exact (fndK_c (by decide)).symm | (rw [fndK_0]; exact (fndK_c (by decide)).symm) | (exfalso; omega))))⟩, ⟨by rw [ht]; exact hP9, va_K.moved hW.alike hK9, hD9⟩⟩, hS.F ht⟩) hS.2.2 dX5_mark_88
        · skip
          have qc_15 : r_11.toInt = 0 := eq_k rfl (by decide) c_15
          refine lv_aload_n hx hb dX5_mark_30 rfl (lv_at hl 1 rfl) ?_
          refine lv_iconst (v := 3) hx hb dX5_mark_31 (by decide) ?_
          have hPc := hP.sub (ws' := [(h0, .inr (6, [.ref sea, .ref pas, .ref fl, .ref fc, .int xlf, .int xhr, .int xho, .int xga, .int xsg, .int xpr, .int xfa, .long xls])), (fc, .inl (cI, 6, .inl Kf))]) [0, 1] rfl
          have hDc := hD.sub (ws' := [(h0, .inr (6, [.ref sea, .ref pas, .ref fl, .ref fc, .int xlf, .int xhr, .int xho, .int xga, .int xsg, .int xpr, .int xfa, .long xls])), (fc, .inl (cI, 6, .inl Kf))]) [0, 1] (by decide) rfl
          have hKc := hK.sub (tys' := [(cI, .int)]) [1] rfl
          have hFc := va_free (wc := [(h0, .inr (6, [.ref sea, .ref pas, .ref fl, .ref fc, .int xlf, .int xhr, .int xho, .int xga, .int xsg, .int xpr, .int xfa, .long xls])), (fc, .inl (cI, 6, .inl Kf))]) hD hS hA [0, 1] rfl
          refine va_calli (va_runV (As := [.int 3]) (rest := []) ⟨hx, hb, hml, hown, hts⟩ (c_X5_found l dC dI H.size h0 sea pas fl fc xlf xhr xho xga xsg xpr xfa xls Kf cI 3 (by decide)) (cwV 1 hts gX5_mark_X5_found rfl rfl rfl (by decide +kernel) ⟨Nat.le_of_ble_eq_true rfl, Nat.le_of_ble_eq_true rfl⟩) ⟨fun a U g mk q => by obtain ⟨q0, q1, qP, qK, qN, qD⟩ := q; exact ⟨q0, q1, qP, va_K.moved (u := U) (U := U.calling g mk a) (Vm.Alike.refl U.vm) qK, NW.same (u := U) (U := U.calling g mk a) rfl qN, qD⟩, va_recv hKc hPc (ci := 6) (q0 := 0) rfl rfl, fun U hU hW => ⟨rfl, by rw [hU], by rw [hU]; exact hPc, va_K.moved hW.alike hKc, NW.warm hW hN, hDc.weaken (fun _ _ _ _ => trivial)⟩⟩ rfl rfl hl.1 rfl (lv_room (Nat.le_of_ble_eq_true rfl)) dX5_mark_32 ⟨(Nat.zero_le _), (Nat.zero_le _)⟩) hS (fun q _ h => hFc q h) hFc (fun r_37 u t H1 locs ht hvm k_38 hB hz1 hk1 hS => ?_)
          obtain ⟨u_39, eu_39⟩ : ∃ z, z = u := ⟨_, rfl⟩
          subst eu_39
          obtain ⟨hP1, hK1, hD1⟩ := hB
          rw [ht] at hP1
          have hK1 := va_K.moved hvm.symm hK1
          obtain ⟨hP, hD⟩ := va_joinQ (X := [(h0, .inr (6, [.ref sea, .ref pas, .ref fl, .ref fc, .int xlf, .int xhr, .int xho, .int xga, .int xsg, .int xpr, .int xfa, .long xls])), (fc, .inl (cI, 6, .inl Kf))]) (cx := [(h0, .inr (6, [.ref sea, .ref pas, .ref fl, .ref fc, .int xlf, .int xhr, .int xho, .int xga, .int xsg, .int xpr, .int xfa, .long xls])), (fc, .inl (cI, 6, .inl Kf))]) (wr := []) (w1 := [(h0, .inr (6, [.ref sea, .ref pas, .ref fl, .ref fc, .int 3, .int xhr, .int xho, .int xga, .int xsg, .int xpr, .int xfa, .long xls])), (fc, .inl (cI, 6, .inl u_39))]) hP hD [0, 1] [] rfl rfl (by decide) (by decide) hk1 hFc hP1 hD1
          generalize H1 = H at hP hS ⊢
          have hP : va_P (dC, dI) vwCl (([(h0, .inr (6, [.ref sea, .ref pas, .ref fl, .ref fc, .int 3, .int xhr, .int xho, .int xga, .int xsg, .int xpr, .int xfa, .long xls])), (fc, .inl (cI, 6, .inl u_39))] : va_W) ++ va_pl L f) H := hP
          have hD : va_D A (([(h0, .inr (6, [.ref sea, .ref pas, .ref fl, .ref fc, .int 3, .int xhr, .int xho, .int xga, .int xsg, .int xpr, .int xfa, .long xls])), (fc, .inl (cI, 6, .inl u_39))] : va_W) ++ va_pl L f) := hD
          try dsimp only at k_38
          obtain ⟨k_38, k_40⟩ := k_38
          obtain rfl : r_37 = (-3) := k_38
          have hP9 : va_P (dC, dI) vwCl (([(h0, .inr (6, [.ref sea, .ref pas, .ref fl, .ref fc, .int 3, .int xhr, .int xho, .int xga, .int xsg, .int xpr, .int xfa, .long xls])), (fc, .inl (cI, 6, .inl u_39))] : va_W) ++ va_pl L f) H := va_P.part (X := [(h0, .inr (6, [.ref sea, .ref pas, .ref fl, .ref fc, .int 3, .int xhr, .int xho, .int xga, .int xsg, .int xpr, .int xfa, .long xls])), (fc, .inl (cI, 6, .inl u_39))]) hP [0, 1] rfl
          have hD9 : va_D A (([(h0, .inr (6, [.ref sea, .ref pas, .ref fl, .ref fc, .int 3, .int xhr, .int xho, .int xga, .int xsg, .int xpr, .int xfa, .long xls])), (fc, .inl (cI, 6, .inl u_39))] : va_W) ++ va_pl L f) := va_D.part (X := [(h0, .inr (6, [.ref sea, .ref pas, .ref fl, .ref fc, .int 3, .int xhr, .int xho, .int xga, .int xsg, .int xpr, .int xfa, .long xls])), (fc, .inl (cI, 6, .inl u_39))]) hD [0, 1] (by decide) rfl
          have hK9 := hK.sub (tys' := [(cO, .object "java/lang/Object"), (cI, .int)]) [0, 1] rfl
          have hv9 : (-3 : Int32).toInt = (-3) := by decide
          exact W.iret (v := (-3)) hx hb hr (fun t ht hW => ⟨⟨(-3), (3, u_39), rfl, ⟨(fun h => by have i0 := k_12; have i1 := k_13; (try simp only [Int32.reduceToInt]); (repeat' split) <;> omega), (by (try dsimp only); (all_goals ((repeat' split) <;> first | rfl | exact (fndL_0 _).symm | exact (fndL_c (by decide)).symm | exact (fndK_0 _).symm | exact (fndK_c (by decide)).symm | (rw [fndK_0]; exact (fndK_c (by decide)).symm) | (exfalso; omega)))), (by (try dsimp only); have y2 := k_40; (try rw [y2]); (all_goals ((repeat' split) <;> first | rfl | exact (fndL_0 _).symm | exact (fndL_c (by decide)).symm | exact (fndK_0 _).symm | exact (fndK_c (by decide)).symm | (rw [fndK_0]; exact (fndK_c (by decide)).symm) | (exfalso; omega))))⟩, ⟨by rw [ht]; exact hP9, va_K.moved hW.alike hK9, hD9⟩⟩, hS.F ht⟩) hS.2.2 dX5_mark_35
      · skip
        have qc_9 : 3 < a1.toInt := nle_k rfl (by decide) c_9
        refine lv_iconst (v := (-1)) hx hb dX5_mark_20 (by decide) ?_
        have hP9 : va_P (dC, dI) vwCl (([(h0, .inr (6, [.ref sea, .ref pas, .ref fl, .ref fc, .int xlf, .int xhr, .int xho, .int xga, .int xsg, .int xpr, .int xfa, .long xls])), (fc, .inl (cI, 6, .inl Kf))] : va_W) ++ va_pl L f) H := va_P.part (X := [(h0, .inr (6, [.ref sea, .ref pas, .ref fl, .ref fc, .int xlf, .int xhr, .int xho, .int xga, .int xsg, .int xpr, .int xfa, .long xls])), (fc, .inl (cI, 6, .inl Kf))]) hP [0, 1] rfl
        have hD9 : va_D A (([(h0, .inr (6, [.ref sea, .ref pas, .ref fl, .ref fc, .int xlf, .int xhr, .int xho, .int xga, .int xsg, .int xpr, .int xfa, .long xls])), (fc, .inl (cI, 6, .inl Kf))] : va_W) ++ va_pl L f) := va_D.part (X := [(h0, .inr (6, [.ref sea, .ref pas, .ref fl, .ref fc, .int xlf, .int xhr, .int xho, .int xga, .int xsg, .int xpr, .int xfa, .long xls])), (fc, .inl (cI, 6, .inl Kf))]) hD [0, 1] (by decide) rfl
        have hK9 := hK.sub (tys' := [(cO, .object "java/lang/Object"), (cI, .int)]) [0, 1] rfl
        have hv9 : (-1 : Int32).toInt = (-1) := by decide
        exact W.iret (v := (-1)) hx hb hr (fun t ht hW => ⟨⟨(-1), (xlf, Kf), rfl, ⟨(fun h => by (try simp only [Int32.reduceToInt]); (repeat' split) <;> omega), (by (try dsimp only); (all_goals ((repeat' split) <;> first | rfl | exact (fndL_0 _).symm | exact (fndL_c (by decide)).symm | exact (fndK_0 _).symm | exact (fndK_c (by decide)).symm | (rw [fndK_0]; exact (fndK_c (by decide)).symm) | (exfalso; omega)))), (by (try dsimp only); (all_goals ((repeat' split) <;> first | rfl | exact (fndL_0 _).symm | exact (fndL_c (by decide)).symm | exact (fndK_0 _).symm | exact (fndK_c (by decide)).symm | (rw [fndK_0]; exact (fndK_c (by decide)).symm) | (exfalso; omega))))⟩, ⟨by rw [ht]; exact hP9, va_K.moved hW.alike hK9, hD9⟩⟩, hS.F ht⟩) hS.2.2 dX5_mark_21
