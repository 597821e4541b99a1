set_option maxRecDepth 20000 in
theorem iw_X5_count_X5 : ∀ w ∈ wsX50, w ∈ wsX5_count := fun w h => (List.mem_cons_of_mem _ (List.mem_append_left _ (List.mem_append_left _ (List.mem_append_left _ (List.mem_append_right _ h)))))
set_option maxHeartbeats 4000000 in
set_option maxRecDepth 100000 in
/-- count -/
theorem c_X5_count (l : Launch) (dC : Nat → ClassId) (dI : Nat → Nat → Nat) (sz : Nat) (L : List Nat) (f : Nat → va_E) (h0 : Nat) (sea : Nat) (pas : Nat) (fl : Nat) (fc : Nat) (xlf : Int32) (xhr : Int32) (xho : Int32) (xga : Int32) (xsg : Int32) (xpr : Int32) (xfa : Int32) (xls : Int64) (lc : Nat) (ct : Nat) (ch : Nat) (Ct : Nat → Int32) (cZ : ClassId) (cB : ClassId) (cV : ClassId) (own : Nat → Nat) (te : Nat) (cO : ClassId) (rr : Nat → Nat) (cw : Nat → Nat → Int32) (n : Nat) (sa : Nat → Nat) (V : Nat → Nat → Int32) (oa : Nat → Nat) (ia : Nat → Nat) (nO : Nat → Nat) (OW : Nat → Nat → Nat → Int32) (nS : Nat → Nat) (SW : Nat → Nat → Nat → Int32) (a0 : Int32) (inv : Inv L f own te cO cB rr cw fl n sa V oa ia nO OW nS SW) : Met l yX5_count wsX5_count ({ frames := 4, cells := 0, slots := 0, locals := 86 }) (va_Pc [.ref h0, .int a0] (fun U => U.heap.size = sz ∧ va_P (dC, dI) vwCl (([(h0, .inr (6, [.ref sea, .ref pas, .ref fl, .ref fc, .int xlf, .int xhr, .int xho, .int xga, .int xsg, .int xpr, .int xfa, .long xls])), (sea, .inr (3, [.ref lc, .ref ct, .ref ch])), (ct, .inl (cZ, 12, .inl Ct))] : va_W) ++ va_pl L f) U.heap ∧ va_K (dC, dI) vwCl [(cZ, .boolean), (cO, .object "java/lang/Object")] U ∧ NW U)) (va_Qi (fun (r : Int32) (_ : Unit) => (r.toInt = if (0 ≤ a0.toInt ∧ a0.toInt ≤ 4) then (if a0.toInt = 0 then (n : Int) else if a0.toInt = 1 then xhr.toInt else if a0.toInt = 2 then chartsF Ct 12 else if a0.toInt = 3 then xsg.toInt else homesM (fun i => V i 8) n) else -1)) (fun _ _ => True) (va_A [] sz)) 0 0 (va_A [] sz) := by
  refine Met.ofW (cc := cX5_count) (maxL := 2) (ret := (some .int)) (by decide) rfl ?_
  intro p e s m args below meth c s₁ B hml hv
  obtain ⟨rfl, hsz, hP, hK, hN⟩ := hv
  have hx := B.exec
  have hb := B.bytes
  have hr := B.returns
  have hts := atoms_spec (ws := wsX5_count) B.pre
  have hown : s.vm.findClass RX5 = some m.cls := findClass_of_methodNamed B.named
  have hlocks := B.notSynchronized
  subst hsz
  generalize hAe : va_A [] s.heap.size = A at ⊢
  have hA : ∀ q : Nat, s.heap.size ≤ q → A q := fun q h => by rw [← hAe]; exact Or.inr h
  have hS : va_S A s.heap s.heap [] := va_S.rf
  have hP : va_P (dC, dI) vwCl (([(h0, .inr (6, [.ref sea, .ref pas, .ref fl, .ref fc, .int xlf, .int xhr, .int xho, .int xga, .int xsg, .int xpr, .int xfa, .long xls])), (sea, .inr (3, [.ref lc, .ref ct, .ref ch])), (ct, .inl (cZ, 12, .inl Ct))] : va_W) ++ va_pl L f) s.heap := hP
  have hl := lv_entry ([.ref h0, .int a0]) (n := 2) (Nat.le_of_ble_eq_true rfl)
  rw [lg_entry_eq]
  generalize (lg_sl ([.ref h0, .int a0]) ++ List.replicate (2 - (lg_sl ([.ref h0, .int a0])).length) Slot.unset).toArray = ls at hl ⊢
  have hl : lv_has ls 2 [(0, .ref h0), (1, .int a0)] := hl
  refine lv_iload_n hx hb dX5_count_0 rfl (lv_at hl 1 rfl) ?_
  by_cases t_1 : a0.toInt < 0 ∨ 4 < a0.toInt
  · skip
    refine lv_tableOut (tgt := 69) hx hb dX5_count_1 t_1 (by decide) ?_
    refine lv_iconst (v := (-1)) hx hb dX5_count_69 (by decide) ?_
    have hv9 : (-1 : Int32).toInt = (-1) := by decide
    exact W.iret (v := (-1)) hx hb hr (fun t ht hW => ⟨⟨(-1), (), rfl, (by (try simp only [Int32.reduceToInt]); (repeat' split) <;> omega), trivial⟩, hS.F ht⟩) hS.2.2 dX5_count_70
  · skip
    have v_2 : a0 = 0 ∨ a0 = 1 ∨ a0 = 2 ∨ a0 = 3 ∨ a0 = 4 := by
      simp only [← Int32.toInt_inj, Int32.reduceToInt]
      omega
    clear t_1
    rcases v_2 with h_v_2 | h_v_2 | h_v_2 | h_v_2 | h_v_2
    · skip
      have qv_2 : a0.toInt = 0 := by rw [h_v_2]; decide
      refine lv_tableIn (off := 35) (tgt := 36) hx hb dX5_count_1 (by omega) (by omega) (by rw [qv_2]; decide) (by decide) ?_
      refine lv_aload_n hx hb dX5_count_36 rfl (lv_at hl 0 rfl) ?_
      refine va_get (D := (dC, dI)) (ci := 6) (v := .ref fl) (C := RX5) (T := TX5) (N := 12) hx hb hts iw_X5_count_X5 hown hK hP 0 rfl rfl 2 (by decide) (hts (.fieldLink RX5 26 "TeaRace" "fleet" "Ljava/util/List;") (by decide +kernel)) (fun _ h9 => h9) rfl dX5_count_37 ?_
      have hlf_3 := inv.2.1
      have hPc : va_P (dC, dI) vwCl (([] : va_W) ++ va_pl L f) s.heap := va_P.part (X := [(h0, .inr (6, [.ref sea, .ref pas, .ref fl, .ref fc, .int xlf, .int xhr, .int xho, .int xga, .int xsg, .int xpr, .int xfa, .long xls])), (sea, .inr (3, [.ref lc, .ref ct, .ref ch])), (ct, .inl (cZ, 12, .inl Ct))]) hP [] rfl
      have hKc := hK.sub (tys' := []) [] rfl
      obtain ⟨mc_4, ar_5, hm_6, hv_7, hn_8, hb_9⟩ := LstAt.obj hlf_3
      obtain ⟨k8_10, hk8_10⟩ : ∃ k : Nat, (([] : va_W) ++ va_pl L f)[k]? = some (fl, .inr (0, [.int mc_4, .ref ar_5, .int (nI n)])) := pl_at hm_6 hv_7
      refine va_callFi (va_runF (va_atK hKc (ci := 0) rfl) (As := []) (rest := []) ⟨hx, hb, hml, hown, hts⟩ (c_Jx4a65c_size_8abf5 l dC dI s.heap.size L f te fl n sa cO hlf_3) (va_cwF 0 hts gX5_count_Jx4a65c_size_8abf5_f107Jx4a65c rfl rfl rfl hN.fSize (by decide +kernel) ⟨Nat.le_of_ble_eq_true rfl, Nat.le_of_ble_eq_true rfl⟩) ⟨fun a U g mk q => by obtain ⟨q0, q1, qP, qK, qN⟩ := q; exact ⟨q0, q1, qP, va_K.moved (u := U) (U := U.calling g mk a) (Vm.Alike.refl U.vm) qK, NW.same (u := U) (U := U.calling g mk a) rfl qN⟩, va_recv hKc hPc (ci := 0) (q0 := k8_10) rfl hk8_10, fun U hU hW => ⟨rfl, by rw [hU], by rw [hU]; exact hPc, va_K.moved hW.alike hKc, NW.warm hW hN⟩⟩ rfl rfl hl.1 rfl (lv_room (Nat.le_of_ble_eq_true rfl)) dX5_count_40 ⟨(Nat.zero_le _), (Nat.zero_le _)⟩) hS (fun q _ h => ro_A hS hA q h) (ro_A hS hA) (fun r_11 u t H1 locs ht hvm k_12 hB hz1 hk1 hS => ?_)
      have hP := ro_P hk1 hP
      generalize H1 = H at hP hS ⊢
      try dsimp only at k_12
      obtain ⟨k_12, k_13, k_14⟩ := k_12
      exact W.iret (v := r_11) hx hb hr (fun t ht hW => ⟨⟨r_11, (), rfl, (by (try simp only [Int32.reduceToInt]); (repeat' split) <;> omega), trivial⟩, hS.F ht⟩) hS.2.2 dX5_count_45
    · skip
      have qv_2 : a0.toInt = 1 := by rw [h_v_2]; decide
      refine lv_tableIn (off := 45) (tgt := 46) hx hb dX5_count_1 (by omega) (by omega) (by rw [qv_2]; decide) (by decide) ?_
      refine lv_aload_n hx hb dX5_count_46 rfl (lv_at hl 0 rfl) ?_
      refine va_get (D := (dC, dI)) (ci := 6) (v := .int xhr) (C := RX5) (T := TX5) (N := 12) hx hb hts iw_X5_count_X5 hown hK hP 0 rfl rfl 5 (by decide) (hts (.fieldLink RX5 38 "TeaRace" "hour" "I") (by decide +kernel)) (fun _ h9 => h9) rfl dX5_count_47 ?_
      exact W.iret (v := xhr) hx hb hr (fun t ht hW => ⟨⟨xhr, (), rfl, (by (try simp only [Int32.reduceToInt]); (repeat' split) <;> omega), trivial⟩, hS.F ht⟩) hS.2.2 dX5_count_50
    · skip
      have qv_2 : a0.toInt = 2 := by rw [h_v_2]; decide
      refine lv_tableIn (off := 50) (tgt := 51) hx hb dX5_count_1 (by omega) (by omega) (by rw [qv_2]; decide) (by decide) ?_
      refine lv_aload_n hx hb dX5_count_51 rfl (lv_at hl 0 rfl) ?_
      refine va_get (D := (dC, dI)) (ci := 6) (v := .ref sea) (C := RX5) (T := TX5) (N := 12) hx hb hts iw_X5_count_X5 hown hK hP 0 rfl rfl 0 (by decide) (hts (.fieldLink RX5 10 "TeaRace" "sea" "LTeaRace$Sea;") (by decide +kernel)) (fun _ h9 => h9) rfl dX5_count_52 ?_
      have hPc := hP.sub (ws' := [(sea, .inr (3, [.ref lc, .ref ct, .ref ch])), (ct, .inl (cZ, 12, .inl Ct))]) [1, 2] rfl
      have hKc := hK.sub (tys' := [(cZ, .boolean)]) [0] rfl
      refine va_calli (va_runV (As := []) (rest := []) ⟨hx, hb, hml, hown, hts⟩ (c_X2_chartsThere l dC dI s.heap.size sea lc ct ch Ct cZ ) (cwV 0 hts gX5_count_X2_chartsThere rfl rfl rfl (by decide +kernel) ⟨Nat.le_of_ble_eq_true rfl, Nat.le_of_ble_eq_true rfl⟩) ⟨fun a U g mk q => by obtain ⟨q0, q1, qP, qK, qN⟩ := q; exact ⟨q0, q1, qP, va_K.moved (u := U) (U := U.calling g mk a) (Vm.Alike.refl U.vm) qK, NW.same (u := U) (U := U.calling g mk a) rfl qN⟩, va_recv hKc hPc (ci := 3) (q0 := 0) rfl rfl, fun U hU hW => ⟨rfl, by rw [hU], by rw [hU]; exact hPc, va_K.moved hW.alike hKc, NW.warm hW hN⟩⟩ rfl rfl hl.1 rfl (lv_room (Nat.le_of_ble_eq_true rfl)) dX5_count_55 ⟨(Nat.zero_le _), (Nat.zero_le _)⟩) hS (fun q _ h => ro_A hS hA q h) (ro_A hS hA) (fun r_15 u t H1 locs ht hvm k_16 hB hz1 hk1 hS => ?_)
      have hP := ro_P hk1 hP
      generalize H1 = H at hP hS ⊢
      try dsimp only at k_16
      exact W.iret (v := r_15) hx hb hr (fun t ht hW => ⟨⟨r_15, (), rfl, (by (try simp only [Int32.reduceToInt]); (repeat' split) <;> omega), trivial⟩, hS.F ht⟩) hS.2.2 dX5_count_58
    · skip
      have qv_2 : a0.toInt = 3 := by rw [h_v_2]; decide
      refine lv_tableIn (off := 58) (tgt := 59) hx hb dX5_count_1 (by omega) (by omega) (by rw [qv_2]; decide) (by decide) ?_
      refine lv_aload_n hx hb dX5_count_59 rfl (lv_at hl 0 rfl) ?_
      refine va_get (D := (dC, dI)) (ci := 6) (v := .int xsg) (C := RX5) (T := TX5) (N := 12) hx hb hts iw_X5_count_X5 hown hK hP 0 rfl rfl 8 (by decide) (hts (.fieldLink RX5 47 "TeaRace" "sightCount" "I") (by decide +kernel)) (fun _ h9 => h9) rfl dX5_count_60 ?_
      exact W.iret (v := xsg) hx hb hr (fun t ht hW => ⟨⟨xsg, (), rfl, (by (try simp only [Int32.reduceToInt]); (repeat' split) <;> omega), trivial⟩, hS.F ht⟩) hS.2.2 dX5_count_63
    · skip
      have qv_2 : a0.toInt = 4 := by rw [h_v_2]; decide
      refine lv_tableIn (off := 63) (tgt := 64) hx hb dX5_count_1 (by omega) (by omega) (by rw [qv_2]; decide) (by decide) ?_
      refine lv_aload_n hx hb dX5_count_64 rfl (lv_at hl 0 rfl) ?_
      have hPc : va_P (dC, dI) vwCl (([(h0, .inr (6, [.ref sea, .ref pas, .ref fl, .ref fc, .int xlf, .int xhr, .int xho, .int xga, .int xsg, .int xpr, .int xfa, .long xls]))] : va_W) ++ va_pl L f) s.heap := va_P.part (X := [(h0, .inr (6, [.ref sea, .ref pas, .ref fl, .ref fc, .int xlf, .int xhr, .int xho, .int xga, .int xsg, .int xpr, .int xfa, .long xls])), (sea, .inr (3, [.ref lc, .ref ct, .ref ch])), (ct, .inl (cZ, 12, .inl Ct))]) hP [0] rfl
      have hKc := hK.sub (tys' := [(cO, .object "java/lang/Object")]) [1] rfl
      refine va_calli (va_runV (As := []) (rest := []) ⟨hx, hb, hml, hown, hts⟩ (c_X5_shipsHome l dC dI s.heap.size L f h0 sea pas fl fc xlf xhr xho xga xsg xpr xfa xls cB own te cO rr cw n sa V oa ia nO OW nS SW inv) (cwV 0 hts gX5_count_X5_shipsHome rfl rfl rfl (by decide +kernel) ⟨Nat.le_of_ble_eq_true rfl, Nat.le_of_ble_eq_true rfl⟩) ⟨fun a U g mk q => by obtain ⟨q0, q1, qP, qK, qN⟩ := q; exact ⟨q0, q1, qP, va_K.moved (u := U) (U := U.calling g mk a) (Vm.Alike.refl U.vm) qK, NW.same (u := U) (U := U.calling g mk a) rfl qN⟩, va_recv hKc hPc (ci := 6) (q0 := 0) rfl rfl, fun U hU hW => ⟨rfl, by rw [hU], by rw [hU]; exact hPc, va_K.moved hW.alike hKc, NW.warm hW hN⟩⟩ rfl rfl hl.1 rfl (lv_room (Nat.le_of_ble_eq_true rfl)) dX5_count_65 ⟨(Nat.zero_le _), (Nat.zero_le _)⟩) hS (fun q _ h => ro_A hS hA q h) (ro_A hS hA) (fun r_17 u t H1 locs ht hvm k_18 hB hz1 hk1 hS => ?_)
      have hP := ro_P hk1 hP
      generalize H1 = H at hP hS ⊢
      try dsimp only at k_18
      exact W.iret (v := r_17) hx hb hr (fun t ht hW => ⟨⟨r_17, (), rfl, (by (try simp only [Int32.reduceToInt]); (repeat' split) <;> omega), trivial⟩, hS.F ht⟩) hS.2.2 dX5_count_68
set_option maxRecDepth 20000 in
theorem iw_X5_digest_X5 : ∀ w ∈ wsX50, w ∈ wsX5_digest := fun w h => (List.mem_cons_of_mem _ (List.mem_append_left _ (List.mem_append_left _ (List.mem_append_left _ (List.mem_append_right _ h)))))
set_option maxHeartbeats 4000000 in
set_option maxRecDepth 100000 in
/-- digest -/
theorem c_X5_digest (l : Launch) (dC : Nat → ClassId) (dI : Nat → Nat → Nat) (sz : Nat) (L : List Nat) (f : Nat → va_E) (h0 : Nat) (sea : Nat) (pas : Nat) (fl : Nat) (fc : Nat) (xlf : Int32) (xhr : Int32) (xho : Int32) (xga : Int32) (xsg : Int32) (xpr : Int32) (xfa : Int32) (xls : Int64) (lc : Nat) (ct : Nat) (ch : Nat) (Ct : Nat → Int32) (cZ : ClassId) (cB : ClassId) (cV : ClassId) (own : Nat → Nat) (te : Nat) (cO : ClassId) (rr : Nat → Nat) (cw : Nat → Nat → Int32) (n : Nat) (sa : Nat → Nat) (V : Nat → Nat → Int32) (oa : Nat → Nat) (ia : Nat → Nat) (nO : Nat → Nat) (OW : Nat → Nat → Nat → Int32) (nS : Nat → Nat) (SW : Nat → Nat → Nat → Int32) (inv : Inv L f own te cO cB rr cw fl n sa V oa ia nO OW nS SW) : Met l yX5_digest wsX5_digest ({ frames := 5, cells := 0, slots := 0, locals := 108 }) (va_Pc [.ref h0] (fun U => U.heap.size = sz ∧ va_P (dC, dI) vwCl (([(h0, .inr (6, [.ref sea, .ref pas, .ref fl, .ref fc, .int xlf, .int xhr, .int xho, .int xga, .int xsg, .int xpr, .int xfa, .long xls])), (sea, .inr (3, [.ref lc, .ref ct, .ref ch])), (ct, .inl (cZ, 12, .inl Ct)), (ch, .inl (cV, 12, .inr (.inr (.inr (.inr (fun i => if i < 12 then some (rr i) else none))))))] : va_W) ++ va_pl L f) U.heap ∧ va_K (dC, dI) vwCl [(cZ, .boolean), (cB, .byte), (cV, .array .byte), (cO, .object "java/lang/Object")] U ∧ NW U)) (va_Ql (fun (r : Int64) (_ : Unit) => True) (fun _ _ => True) (va_A [] sz)) 0 0 (va_A [] sz) := by
  refine Met.ofW (cc := cX5_digest) (maxL := 5) (ret := (some .long)) (by decide) rfl ?_
  intro p e s m args below meth c s₁ B hml hv
  obtain ⟨rfl, hsz, hP, hK, hN⟩ := hv
  have hx := B.exec
  have hb := B.bytes
  have hr := B.returns
  have hts := atoms_spec (ws := wsX5_digest) B.pre
  have hown : s.vm.findClass RX5 = some m.cls := findClass_of_methodNamed B.named
  have hlocks := B.notSynchronized
  subst hsz
  generalize hAe : va_A [] s.heap.size = A at ⊢
  have hA : ∀ q : Nat, s.heap.size ≤ q → A q := fun q h => by rw [← hAe]; exact Or.inr h
  have hS : va_S A s.heap s.heap [] := va_S.rf
  have hP : va_P (dC, dI) vwCl (([(h0, .inr (6, [.ref sea, .ref pas, .ref fl, .ref fc, .int xlf, .int xhr, .int xho, .int xga, .int xsg, .int xpr, .int xfa, .long xls])), (sea, .inr (3, [.ref lc, .ref ct, .ref ch])), (ct, .inl (cZ, 12, .inl Ct)), (ch, .inl (cV, 12, .inr (.inr (.inr (.inr (fun i => if i < 12 then some (rr i) else none))))))] : va_W) ++ va_pl L f) s.heap := hP
  have hl := lv_entry ([.ref h0]) (n := 5) (Nat.le_of_ble_eq_true rfl)
  rw [lg_entry_eq]
  generalize (lg_sl ([.ref h0]) ++ List.replicate (5 - (lg_sl ([.ref h0])).length) Slot.unset).toArray = ls at hl ⊢
  have hl : lv_has ls 5 [(0, .ref h0)] := hl
  have hrows := inv.1
  refine lv_ldc2 (v := (17)) hx hb hown (hts (.constantLong RX5 237 (17)) (by decide +kernel)) dX5_digest_0 ?_
  refine lv_lstore_n (lv' := [(1, .long (17)), (0, .ref h0)]) hx hb dX5_digest_3 rfl hl (by decide) rfl (fun ls hl => ?_)
  refine lv_iconst (v := 0) hx hb dX5_digest_4 (by decide) ?_
  refine lv_istore_n (lv' := [(3, .int 0), (1, .long (17)), (0, .ref h0)]) hx hb dX5_digest_5 rfl hl (by decide) rfl (fun ls hl => ?_)
  have key6 : ∀ (n6 : Nat) (h1 : Int64) (iw : Int32) (H : Heap) (locs : List Loc) (ls : Array Slot), (0 ≤ iw.toInt ∧ iw.toInt ≤ 5) → 5 - iw.toInt < (n6 : Int) → va_P (dC, dI) vwCl (([(h0, .inr (6, [.ref sea, .ref pas, .ref fl, .ref fc, .int xlf, .int xhr, .int xho, .int xga, .int xsg, .int xpr, .int xfa, .long xls])), (sea, .inr (3, [.ref lc, .ref ct, .ref ch])), (ct, .inl (cZ, 12, .inl Ct)), (ch, .inl (cV, 12, .inr (.inr (.inr (.inr (fun i => if i < 12 then some (rr i) else none))))))] : va_W) ++ va_pl L f) H → va_S A s.heap H locs → lv_has ls 5 [(3, .int iw), (1, .long h1), (0, .ref h0)] → W p l e ({ frames := 5, cells := 0, slots := 0, locals := 108 } : Room) s m ([.ref h0] : List Value).toArray below meth c H locs 0 0 (MQ below (va_Ql (fun (r : Int64) (_ : Unit) => True) (fun _ _ => True) A) ([.ref h0] : List Value).toArray s 0 0 A) (F0 m 6 ls []) := by
    intro n6
    induction n6 with
    | zero =>
      intro h1 iw H locs ls i_iw hm6
      exact absurd hm6 (by omega)
    | succ n6 ih6 =>
      intro h1 iw H locs ls i_iw hm6 hP hS hl
      refine lv_iload_n hx hb dX5_digest_6 rfl (lv_at hl 0 rfl) ?_
      refine lv_iconst (v := 4) hx hb dX5_digest_7 (by decide) ?_
      refine lv_icmp_gt (tgt := 30) hx hb dX5_digest_8 (by decide) (fun c_1 => ?_) (fun c_1 => ?_)
      · skip
        have qc_1 : 4 < iw.toInt := lt_k (by decide) rfl c_1
        refine lv_iconst (v := 0) hx hb dX5_digest_30 (by decide) ?_
        refine lv_istore_n (lv' := [(3, .int 0), (1, .long h1), (0, .ref h0)]) hx hb dX5_digest_31 rfl hl (by decide) rfl (fun ls hl => ?_)
        have key32 : ∀ (n32 : Nat) (h2 : Int64) (ik : Int32) (H : Heap) (locs : List Loc) (ls : Array Slot), (0 ≤ ik.toInt ∧ ik.toInt ≤ 100) → 100 - ik.toInt < (n32 : Int) → va_P (dC, dI) vwCl (([(h0, .inr (6, [.ref sea, .ref pas, .ref fl, .ref fc, .int xlf, .int xhr, .int xho, .int xga, .int xsg, .int xpr, .int xfa, .long xls])), (sea, .inr (3, [.ref lc, .ref ct, .ref ch])), (ct, .inl (cZ, 12, .inl Ct)), (ch, .inl (cV, 12, .inr (.inr (.inr (.inr (fun i => if i < 12 then some (rr i) else none))))))] : va_W) ++ va_pl L f) H → va_S A s.heap H locs → lv_has ls 5 [(3, .int ik), (1, .long h2), (0, .ref h0)] → W p l e ({ frames := 5, cells := 0, slots := 0, locals := 108 } : Room) s m ([.ref h0] : List Value).toArray below meth c H locs 0 0 (MQ below (va_Ql (fun (r : Int64) (_ : Unit) => True) (fun _ _ => True) A) ([.ref h0] : List Value).toArray s 0 0 A) (F0 m 32 ls []) := by
          intro n32
          induction n32 with
          | zero =>
            intro h2 ik H locs ls i_ik hm32
            exact absurd hm32 (by omega)
          | succ n32 ih32 =>
            intro h2 ik H locs ls i_ik hm32 hP hS hl
            refine lv_iload_n hx hb dX5_digest_32 rfl (lv_at hl 0 rfl) ?_
            refine lv_aload_n hx hb dX5_digest_33 rfl (lv_at hl 2 rfl) ?_
            refine va_get (D := (dC, dI)) (ci := 6) (v := .ref fl) (C := RX5) (T := TX5) (N := 12) hx hb hts iw_X5_digest_X5 hown hK hP 0 rfl rfl 2 (by decide) (hts (.fieldLink RX5 26 "TeaRace" "fleet" "Ljava/util/List;") (by decide +kernel)) (fun _ h9 => h9) rfl dX5_digest_34 ?_
            have hlf_2 := inv.2.1
            have hPc : va_P (dC, dI) vwCl (([] : va_W) ++ va_pl L f) H := va_P.part (X := [(h0, .inr (6, [.ref sea, .ref pas, .ref fl, .ref fc, .int xlf, .int xhr, .int xho, .int xga, .int xsg, .int xpr, .int xfa, .long xls])), (sea, .inr (3, [.ref lc, .ref ct, .ref ch])), (ct, .inl (cZ, 12, .inl Ct)), (ch, .inl (cV, 12, .inr (.inr (.inr (.inr (fun i => if i < 12 then some (rr i) else none))))))]) hP [] rfl
            have hKc := hK.sub (tys' := []) [] rfl
            obtain ⟨mc_3, ar_4, hm_5, hv_6, hn_7, hb_8⟩ := LstAt.obj hlf_2
            obtain ⟨k8_9, hk8_9⟩ : ∃ k : Nat, (([] : va_W) ++ va_pl L f)[k]? = some (fl, .inr (0, [.int mc_3, .ref ar_4, .int (nI n)])) := pl_at hm_5 hv_6
            refine va_callFi (va_runF (va_atK hKc (ci := 0) rfl) (As := []) (rest := [.int ik]) ⟨hx, hb, hml, hown, hts⟩ (c_Jx4a65c_size_8abf5 l dC dI H.size L f te fl n sa cO hlf_2) (va_cwF 0 hts gX5_digest_Jx4a65c_size_8abf5_f107Jx4a65c rfl rfl rfl hN.fSize (by decide +kernel) ⟨Nat.le_of_ble_eq_true rfl, Nat.le_of_ble_eq_true rfl⟩) ⟨fun a U g mk q => by obtain ⟨q0, q1, qP, qK, qN⟩ := q; exact ⟨q0, q1, qP, va_K.moved (u := U) (U := U.calling g mk a) (Vm.Alike.refl U.vm) qK, NW.same (u := U) (U := U.calling g mk a) rfl qN⟩, va_recv hKc hPc (ci := 0) (q0 := k8_9) rfl hk8_9, fun U hU hW => ⟨rfl, by rw [hU], by rw [hU]; exact hPc, va_K.moved hW.alike hKc, NW.warm hW hN⟩⟩ rfl rfl hl.1 rfl (lv_room (Nat.le_of_ble_eq_true rfl)) dX5_digest_37 ⟨(Nat.zero_le _), (Nat.zero_le _)⟩) hS (fun q _ h => ro_A hS hA q h) (ro_A hS hA) (fun r_10 u t H1 locs ht hvm k_11 hB hz1 hk1 hS => ?_)
            have hP := ro_P hk1 hP
            generalize H1 = H at hP hS ⊢
            try dsimp only at k_11
            obtain ⟨k_11, k_12, k_13⟩ := k_11
            refine lv_icmp_ge (tgt := 82) hx hb dX5_digest_42 (by decide) (fun c_14 => ?_) (fun c_14 => ?_)
            · skip
              have qc_14 : r_10.toInt ≤ ik.toInt := le_k rfl rfl c_14
              refine lv_iconst (v := 0) hx hb dX5_digest_82 (by decide) ?_
              refine lv_istore_n (lv' := [(3, .int 0), (1, .long h2), (0, .ref h0)]) hx hb dX5_digest_83 rfl hl (by decide) rfl (fun ls hl => ?_)
              have key84 : ∀ (n84 : Nat) (h4 : Int64) (im : Int32) (H : Heap) (locs : List Loc) (ls : Array Slot), (0 ≤ im.toInt ∧ im.toInt ≤ 12) → 12 - im.toInt < (n84 : Int) → va_P (dC, dI) vwCl (([(h0, .inr (6, [.ref sea, .ref pas, .ref fl, .ref fc, .int xlf, .int xhr, .int xho, .int xga, .int xsg, .int xpr, .int xfa, .long xls])), (sea, .inr (3, [.ref lc, .ref ct, .ref ch])), (ct, .inl (cZ, 12, .inl Ct)), (ch, .inl (cV, 12, .inr (.inr (.inr (.inr (fun i => if i < 12 then some (rr i) else none))))))] : va_W) ++ va_pl L f) H → va_S A s.heap H locs → lv_has ls 5 [(3, .int im), (1, .long h4), (0, .ref h0)] → W p l e ({ frames := 5, cells := 0, slots := 0, locals := 108 } : Room) s m ([.ref h0] : List Value).toArray below meth c H locs 0 0 (MQ below (va_Ql (fun (r : Int64) (_ : Unit) => True) (fun _ _ => True) A) ([.ref h0] : List Value).toArray s 0 0 A) (F0 m 84 ls []) := by
                intro n84
                induction n84 with
                | zero =>
                  intro h4 im H locs ls i_im hm84
                  exact absurd hm84 (by omega)
                | succ n84 ih84 =>
                  intro h4 im H locs ls i_im hm84 hP hS hl
                  refine lv_iload_n hx hb dX5_digest_84 rfl (lv_at hl 0 rfl) ?_
                  refine lv_bipush (v := 12) hx hb dX5_digest_85 (by decide) ?_
                  refine lv_icmp_ge (tgt := 106) hx hb dX5_digest_87 (by decide) (fun c_15 => ?_) (fun c_15 => ?_)
                  · skip
                    have qc_15 : 12 ≤ im.toInt := le_k (by decide) rfl c_15
                    refine lv_lload_n hx hb dX5_digest_106 rfl (lv_at hl 1 rfl) ?_
                    exact W.lret (v := h4) hx hb hr (fun t ht hW => ⟨⟨h4, (), rfl, trivial, trivial⟩, hS.F ht⟩) hS.2.2 dX5_digest_107
                  · skip
                    have qc_15 : im.toInt < 12 := nle_k (by decide) rfl c_15
                    refine lv_aload_n hx hb dX5_digest_90 rfl (lv_at hl 2 rfl) ?_
                    refine va_get (D := (dC, dI)) (ci := 6) (v := .ref sea) (C := RX5) (T := TX5) (N := 12) hx hb hts iw_X5_digest_X5 hown hK hP 0 rfl rfl 0 (by decide) (hts (.fieldLink RX5 10 "TeaRace" "sea" "LTeaRace$Sea;") (by decide +kernel)) (fun _ h9 => h9) rfl dX5_digest_91 ?_
                    refine lv_iload_n hx hb dX5_digest_94 rfl (lv_at hl 0 rfl) ?_
                    refine lv_lload_n hx hb dX5_digest_95 rfl (lv_at hl 1 rfl) ?_
                    have hPc : va_P (dC, dI) vwCl (([(sea, .inr (3, [.ref lc, .ref ct, .ref ch])), (ct, .inl (cZ, 12, .inl Ct)), (ch, .inl (cV, 12, .inr (.inr (.inr (.inr (fun i => if i < 12 then some (rr i) else none))))))] : va_W) ++ va_pl L f) H := va_P.part (X := [(h0, .inr (6, [.ref sea, .ref pas, .ref fl, .ref fc, .int xlf, .int xhr, .int xho, .int xga, .int xsg, .int xpr, .int xfa, .long xls])), (sea, .inr (3, [.ref lc, .ref ct, .ref ch])), (ct, .inl (cZ, 12, .inl Ct)), (ch, .inl (cV, 12, .inr (.inr (.inr (.inr (fun i => if i < 12 then some (rr i) else none))))))]) hP [1, 2, 3] rfl
                    have hKc := hK.sub (tys' := [(cZ, .boolean), (cB, .byte), (cV, .array .byte)]) [0, 1, 2] rfl
                    refine va_calll (va_runV (As := [.int im, .long h4]) (rest := []) ⟨hx, hb, hml, hown, hts⟩ (c_X2_digestChart l dC dI H.size L f sea lc ct ch rr cw Ct cZ cB cV im h4 hrows) (cwV 2 hts gX5_digest_X2_digestChart rfl rfl rfl (by decide +kernel) ⟨Nat.le_of_ble_eq_true rfl, Nat.le_of_ble_eq_true rfl⟩) ⟨fun a U g mk q => by obtain ⟨q0, q1, qP, qK, qN⟩ := q; exact ⟨q0, q1, qP, va_K.moved (u := U) (U := U.calling g mk a) (Vm.Alike.refl U.vm) qK, NW.same (u := U) (U := U.calling g mk a) rfl qN⟩, va_recv hKc hPc (ci := 3) (q0 := 0) rfl rfl, fun U hU hW => ⟨rfl, by rw [hU], by rw [hU]; exact hPc, va_K.moved hW.alike hKc, NW.warm hW hN⟩⟩ rfl rfl hl.1 rfl (lv_room (Nat.le_of_ble_eq_true rfl)) dX5_digest_96 ⟨(Nat.zero_le _), (Nat.zero_le _)⟩) hS (fun q _ h => ro_A hS hA q h) (ro_A hS hA) (fun r_16 u t H1 locs ht hvm k_17 hB hz1 hk1 hS => ?_)
                    have hP := ro_P hk1 hP
                    generalize H1 = H at hP hS ⊢
                    try dsimp only at k_17
                    refine lv_lstore_n (lv' := [(1, .long r_16), (3, .int im), (0, .ref h0)]) hx hb dX5_digest_99 rfl hl (by decide) rfl (fun ls hl => ?_)
                    obtain ⟨x_18, ex_18⟩ : ∃ y : Int32, y = im + 1 := ⟨_, rfl⟩
                    have tx_18 : x_18.toInt = im.toInt + 1 := ad_k ex_18 rfl (by decide) (by omega) (by omega)
                    refine lv_iinc (v := x_18) (lv' := [(3, .int x_18), (1, .long r_16), (0, .ref h0)]) hx hb dX5_digest_100 hl (k := 1) rfl (by rw [ex_18]; rfl) (by decide) rfl (fun ls hl => ?_)
                    refine lv_goto (tgt := 84) hx hb dX5_digest_103 (by decide) ?_
                    exact ih84 r_16 x_18  H locs ls ⟨(by first | omega | (simp only [Int32.reduceToInt]; omega)), (by first | omega | (simp only [Int32.reduceToInt]; omega))⟩ (by first | omega | (simp only [Int32.reduceToInt]; omega)) hP hS (lv_sub hl [0, 1, 2] rfl)
              exact key84 13 h2 0  _ _ ls (by decide) (by (try simp only [Int32.reduceToInt]); omega) hP hS hl
            · skip
              have qc_14 : ik.toInt < r_10.toInt := nle_k rfl rfl c_14
              refine lv_iconst (v := 0) hx hb dX5_digest_45 (by decide) ?_
              refine lv_istore (lv' := [(4, .int 0), (3, .int ik), (1, .long h2), (0, .ref h0)]) hx hb dX5_digest_46 hl (by decide) rfl (fun ls hl => ?_)
              have key48 : ∀ (n48 : Nat) (h3 : Int64) (il : Int32) (H : Heap) (locs : List Loc) (ls : Array Slot), (0 ≤ il.toInt ∧ il.toInt ≤ 7) → 7 - il.toInt < (n48 : Int) → va_P (dC, dI) vwCl (([(h0, .inr (6, [.ref sea, .ref pas, .ref fl, .ref fc, .int xlf, .int xhr, .int xho, .int xga, .int xsg, .int xpr, .int xfa, .long xls])), (sea, .inr (3, [.ref lc, .ref ct, .ref ch])), (ct, .inl (cZ, 12, .inl Ct)), (ch, .inl (cV, 12, .inr (.inr (.inr (.inr (fun i => if i < 12 then some (rr i) else none))))))] : va_W) ++ va_pl L f) H → va_S A s.heap H locs → lv_has ls 5 [(4, .int il), (3, .int ik), (1, .long h3), (0, .ref h0)] → W p l e ({ frames := 5, cells := 0, slots := 0, locals := 108 } : Room) s m ([.ref h0] : List Value).toArray below meth c H locs 0 0 (MQ below (va_Ql (fun (r : Int64) (_ : Unit) => True) (fun _ _ => True) A) ([.ref h0] : List Value).toArray s 0 0 A) (F0 m 48 ls []) := by
                intro n48
                induction n48 with
                | zero =>
                  intro h3 il H locs ls i_il hm48
                  exact absurd hm48 (by omega)
                | succ n48 ih48 =>
                  intro h3 il H locs ls i_il hm48 hP hS hl
                  refine lv_iload hx hb dX5_digest_48 (lv_at hl 0 rfl) ?_
                  refine lv_bipush (v := 6) hx hb dX5_digest_50 (by decide) ?_
                  refine lv_icmp_gt (tgt := 76) hx hb dX5_digest_52 (by decide) (fun c_19 => ?_) (fun c_19 => ?_)
                  · skip
                    have qc_19 : 6 < il.toInt := lt_k (by decide) rfl c_19
                    obtain ⟨x_20, ex_20⟩ : ∃ y : Int32, y = ik + 1 := ⟨_, rfl⟩
                    have tx_20 : x_20.toInt = ik.toInt + 1 := ad_k ex_20 rfl (by decide) (by omega) (by omega)
                    refine lv_iinc (v := x_20) (lv' := [(3, .int x_20), (4, .int il), (1, .long h3), (0, .ref h0)]) hx hb dX5_digest_76 hl (k := 1) rfl (by rw [ex_20]; rfl) (by decide) rfl (fun ls hl => ?_)
                    refine lv_goto (tgt := 32) hx hb dX5_digest_79 (by decide) ?_
                    exact ih32 h3 x_20  H locs ls ⟨(by first | omega | (simp only [Int32.reduceToInt]; omega)), (by first | omega | (simp only [Int32.reduceToInt]; omega))⟩ (by first | omega | (simp only [Int32.reduceToInt]; omega)) hP hS (lv_sub hl [0, 2, 3] rfl)
                  · skip
                    have qc_19 : il.toInt ≤ 6 := nlt_k (by decide) rfl c_19
                    refine lv_ldc2 (v := (31)) hx hb hown (hts (.constantLong RX5 239 (31)) (by decide +kernel)) dX5_digest_55 ?_
                    refine lv_lload_n hx hb dX5_digest_58 rfl (lv_at hl 2 rfl) ?_
                    refine lv_lmul hx hb dX5_digest_59 ?_
                    refine lv_topl (fun w_21 ew_21 => ?_)
                    refine lv_aload_n hx hb dX5_digest_60 rfl (lv_at hl 3 rfl) ?_
                    refine lv_iload_n hx hb dX5_digest_61 rfl (lv_at hl 1 rfl) ?_
                    refine lv_iload hx hb dX5_digest_62 (lv_at hl 0 rfl) ?_
                    have hPc : va_P (dC, dI) vwCl (([(h0, .inr (6, [.ref sea, .ref pas, .ref fl, .ref fc, .int xlf, .int xhr, .int xho, .int xga, .int xsg, .int xpr, .int xfa, .long xls]))] : va_W) ++ va_pl L f) H := va_P.part (X := [(h0, .inr (6, [.ref sea, .ref pas, .ref fl, .ref fc, .int xlf, .int xhr, .int xho, .int xga, .int xsg, .int xpr, .int xfa, .long xls])), (sea, .inr (3, [.ref lc, .ref ct, .ref ch])), (ct, .inl (cZ, 12, .inl Ct)), (ch, .inl (cV, 12, .inr (.inr (.inr (.inr (fun i => if i < 12 then some (rr i) else none))))))]) hP [0] rfl
                    have hKc := hK.sub (tys' := [(cO, .object "java/lang/Object")]) [3] rfl
                    refine va_calli (va_runV (As := [.int ik, .int il]) (rest := [.long w_21]) ⟨hx, hb, hml, hown, hts⟩ (c_X5_told l dC dI H.size L f h0 sea pas fl fc xlf xhr xho xga xsg xpr xfa xls cB own te cO rr cw n sa V oa ia nO OW nS SW ik il inv) (cwV 2 hts gX5_digest_X5_told rfl rfl rfl (by decide +kernel) ⟨Nat.le_of_ble_eq_true rfl, Nat.le_of_ble_eq_true rfl⟩) ⟨fun a U g mk q => by obtain ⟨q0, q1, qP, qK, qN⟩ := q; exact ⟨q0, q1, qP, va_K.moved (u := U) (U := U.calling g mk a) (Vm.Alike.refl U.vm) qK, NW.same (u := U) (U := U.calling g mk a) rfl qN⟩, va_recv hKc hPc (ci := 6) (q0 := 0) rfl rfl, fun U hU hW => ⟨rfl, by rw [hU], by rw [hU]; exact hPc, va_K.moved hW.alike hKc, NW.warm hW hN⟩⟩ rfl rfl hl.1 rfl (lv_room (Nat.le_of_ble_eq_true rfl)) dX5_digest_64 ⟨(Nat.zero_le _), (Nat.zero_le _)⟩) hS (fun q _ h => ro_A hS hA q h) (ro_A hS hA) (fun r_22 u t H1 locs ht hvm k_23 hB hz1 hk1 hS => ?_)
                    have hP := ro_P hk1 hP
                    generalize H1 = H at hP hS ⊢
                    try dsimp only at k_23
                    refine lv_i2l (v := r_22.toInt64) hx hb dX5_digest_67 rfl ?_
                    refine lv_ladd hx hb dX5_digest_68 ?_
                    refine lv_topl (fun w_24 ew_24 => ?_)
                    refine lv_lstore_n (lv' := [(1, .long w_24), (4, .int il), (3, .int ik), (0, .ref h0)]) hx hb dX5_digest_69 rfl hl (by decide) rfl (fun ls hl => ?_)
                    obtain ⟨x_25, ex_25⟩ : ∃ y : Int32, y = il + 1 := ⟨_, rfl⟩
                    have tx_25 : x_25.toInt = il.toInt + 1 := ad_k ex_25 rfl (by decide) (by omega) (by omega)
                    refine lv_iinc (v := x_25) (lv' := [(4, .int x_25), (1, .long w_24), (3, .int ik), (0, .ref h0)]) hx hb dX5_digest_70 hl (k := 1) rfl (by rw [ex_25]; rfl) (by decide) rfl (fun ls hl => ?_)
                    refine lv_goto (tgt := 48) hx hb dX5_digest_73 (by decide) ?_
                    exact ih48 w_24 x_25  H locs ls ⟨(by first | omega | (simp only [Int32.reduceToInt]; omega)), (by first | omega | (simp only [Int32.reduceToInt]; omega))⟩ (by first | omega | (simp only [Int32.reduceToInt]; omega)) hP hS (lv_sub hl [0, 2, 1, 3] rfl)
              exact key48 8 h2 0  _ _ ls (by decide) (by (try simp only [Int32.reduceToInt]); omega) hP hS hl
        exact key32 101 h1 0  _ _ ls (by decide) (by (try simp only [Int32.reduceToInt]); omega) hP hS hl
      · skip
        have qc_1 : iw.toInt ≤ 4 := nlt_k (by decide) rfl c_1
        refine lv_ldc2 (v := (31)) hx hb hown (hts (.constantLong RX5 239 (31)) (by decide +kernel)) dX5_digest_11 ?_
        refine lv_lload_n hx hb dX5_digest_14 rfl (lv_at hl 1 rfl) ?_
        refine lv_lmul hx hb dX5_digest_15 ?_
        refine lv_topl (fun w_26 ew_26 => ?_)
        refine lv_aload_n hx hb dX5_digest_16 rfl (lv_at hl 2 rfl) ?_
        refine lv_iload_n hx hb dX5_digest_17 rfl (lv_at hl 0 rfl) ?_
        have hPc : va_P (dC, dI) vwCl (([(h0, .inr (6, [.ref sea, .ref pas, .ref fl, .ref fc, .int xlf, .int xhr, .int xho, .int xga, .int xsg, .int xpr, .int xfa, .long xls])), (sea, .inr (3, [.ref lc, .ref ct, .ref ch])), (ct, .inl (cZ, 12, .inl Ct))] : va_W) ++ va_pl L f) H := va_P.part (X := [(h0, .inr (6, [.ref sea, .ref pas, .ref fl, .ref fc, .int xlf, .int xhr, .int xho, .int xga, .int xsg, .int xpr, .int xfa, .long xls])), (sea, .inr (3, [.ref lc, .ref ct, .ref ch])), (ct, .inl (cZ, 12, .inl Ct)), (ch, .inl (cV, 12, .inr (.inr (.inr (.inr (fun i => if i < 12 then some (rr i) else none))))))]) hP [0, 1, 2] rfl
        have hKc := hK.sub (tys' := [(cZ, .boolean), (cO, .object "java/lang/Object")]) [0, 3] rfl
        refine va_calli (va_runV (As := [.int iw]) (rest := [.long w_26]) ⟨hx, hb, hml, hown, hts⟩ (c_X5_count l dC dI H.size L f h0 sea pas fl fc xlf xhr xho xga xsg xpr xfa xls lc ct ch Ct cZ cB cV own te cO rr cw n sa V oa ia nO OW nS SW iw inv) (cwV 1 hts gX5_digest_X5_count rfl rfl rfl (by decide +kernel) ⟨Nat.le_of_ble_eq_true rfl, Nat.le_of_ble_eq_true rfl⟩) ⟨fun a U g mk q => by obtain ⟨q0, q1, qP, qK, qN⟩ := q; exact ⟨q0, q1, qP, va_K.moved (u := U) (U := U.calling g mk a) (Vm.Alike.refl U.vm) qK, NW.same (u := U) (U := U.calling g mk a) rfl qN⟩, va_recv hKc hPc (ci := 6) (q0 := 0) rfl rfl, fun U hU hW => ⟨rfl, by rw [hU], by rw [hU]; exact hPc, va_K.moved hW.alike hKc, NW.warm hW hN⟩⟩ rfl rfl hl.1 rfl (lv_room (Nat.le_of_ble_eq_true rfl)) dX5_digest_18 ⟨(Nat.zero_le _), (Nat.zero_le _)⟩) hS (fun q _ h => ro_A hS hA q h) (ro_A hS hA) (fun r_27 u t H1 locs ht hvm k_28 hB hz1 hk1 hS => ?_)
        have hP := ro_P hk1 hP
        generalize H1 = H at hP hS ⊢
        try dsimp only at k_28
        refine lv_i2l (v := r_27.toInt64) hx hb dX5_digest_21 rfl ?_
        refine lv_ladd hx hb dX5_digest_22 ?_
        refine lv_topl (fun w_29 ew_29 => ?_)
        refine lv_lstore_n (lv' := [(1, .long w_29), (3, .int iw), (0, .ref h0)]) hx hb dX5_digest_23 rfl hl (by decide) rfl (fun ls hl => ?_)
        obtain ⟨x_30, ex_30⟩ : ∃ y : Int32, y = iw + 1 := ⟨_, rfl⟩
        have tx_30 : x_30.toInt = iw.toInt + 1 := ad_k ex_30 rfl (by decide) (by omega) (by omega)
        refine lv_iinc (v := x_30) (lv' := [(3, .int x_30), (1, .long w_29), (0, .ref h0)]) hx hb dX5_digest_24 hl (k := 1) rfl (by rw [ex_30]; rfl) (by decide) rfl (fun ls hl => ?_)
        refine lv_goto (tgt := 6) hx hb dX5_digest_27 (by decide) ?_
        exact ih6 w_29 x_30  H locs ls ⟨(by first | omega | (simp only [Int32.reduceToInt]; omega)), (by first | omega | (simp only [Int32.reduceToInt]; omega))⟩ (by first | omega | (simp only [Int32.reduceToInt]; omega)) hP hS (lv_sub hl [0, 1, 2] rfl)
  exact key6 6 (17) 0  _ _ ls (by decide) (by (try simp only [Int32.reduceToInt]); omega) hP hS hl
set_option maxRecDepth 20000 in
theorem iw_X5_least_X5 : ∀ w ∈ wsX50, w ∈ wsX5_least := fun w h => (List.mem_cons_of_mem _ (List.mem_append_left _ (List.mem_append_left _ (List.mem_append_left _ (List.mem_append_left _ (List.mem_append_right _ h))))))
set_option maxHeartbeats 4000000 in
set_option maxRecDepth 100000 in
/-- least -/
theorem c_X5_least (l : Launch) (dC : Nat → ClassId) (dI : Nat → Nat → Nat) (sz : Nat) (te : Nat) (ea : Nat) (so : Nat) (mi : Nat) (L : List Nat) (f : Nat → va_E) (h0 : Nat) (sea : Nat) (pas : Nat) (fl : Nat) (fc : Nat) (xlf : Int32) (xhr : Int32) (xho : Int32) (xga : Int32) (xsg : Int32) (xpr : Int32) (xfa : Int32) (xls : Int64) (lc : Nat) (ct : Nat) (ch : Nat) (Ct : Nat → Int32) (cZ : ClassId) (cB : ClassId) (cV : ClassId) (own : Nat → Nat) (cO : ClassId) (rr : Nat → Nat) (cw : Nat → Nat → Int32) (n : Nat) (sa : Nat → Nat) (V : Nat → Nat → Int32) (oa : Nat → Nat) (ia : Nat → Nat) (nO : Nat → Nat) (OW : Nat → Nat → Nat → Int32) (nS : Nat → Nat) (SW : Nat → Nat → Nat → Int32) (hot : Nat) (dp : Nat) (Kh : Nat → Int32) (Kd : Nat → Int32) (Lc : Nat → Int32) (cI : ClassId) (a0 : Int32) (a1 : Int32) (a2 : Int32) (a3 : Int32) (hfv : ∀ i : Nat, i < n → 0 ≤ (V i 6).toInt ∧ (V i 6).toInt ≤ 9) (inv : Inv L f own te cO cB rr cw fl n sa V oa ia nO OW nS SW) : Met l yX5_least wsX5_least ({ frames := 6, cells := 0, slots := 0, locals := 150 }) (va_Pc [.ref h0, .int a0, .int a1, .int a2, .int a3] (fun U => U.heap.size = sz ∧ va_P (dC, dI) vwCl (([(h0, .inr (6, [.ref sea, .ref pas, .ref fl, .ref fc, .int xlf, .int xhr, .int xho, .int xga, .int xsg, .int xpr, .int xfa, .long xls])), (pas, .inr (2, [.ref hot, .ref dp])), (hot, .inl (cI, 160, .inl Kh)), (dp, .inl (cZ, 160, .inl Kd)), (sea, .inr (3, [.ref lc, .ref ct, .ref ch])), (ct, .inl (cZ, 12, .inl Ct)), (ch, .inl (cV, 12, .inr (.inr (.inr (.inr (fun i => if i < 12 then some (rr i) else none)))))), (lc, .inl (cZ, 160, .inl Lc))] : va_W) ++ va_pl L f) U.heap ∧ va_K (dC, dI) vwCl [(cZ, .boolean), (cB, .byte), (cI, .int), (cV, .array .byte), (cO, .object "java/lang/Object")] U ∧ NW U ∧ va_D (fun _ => True) (([(h0, .inr (6, [.ref sea, .ref pas, .ref fl, .ref fc, .int xlf, .int xhr, .int xho, .int xga, .int xsg, .int xpr, .int xfa, .long xls])), (pas, .inr (2, [.ref hot, .ref dp])), (hot, .inl (cI, 160, .inl Kh)), (dp, .inl (cZ, 160, .inl Kd)), (sea, .inr (3, [.ref lc, .ref ct, .ref ch])), (ct, .inl (cZ, 12, .inl Ct)), (ch, .inl (cV, 12, .inr (.inr (.inr (.inr (fun i => if i < 12 then some (rr i) else none)))))), (lc, .inl (cZ, 160, .inl Lc))] : va_W) ++ va_pl L f) ∧ Zs te ea so mi (va_A (([(h0, .inr (6, [.ref sea, .ref pas, .ref fl, .ref fc, .int xlf, .int xhr, .int xho, .int xga, .int xsg, .int xpr, .int xfa, .long xls])), (pas, .inr (2, [.ref hot, .ref dp])), (hot, .inl (cI, 160, .inl Kh)), (dp, .inl (cZ, 160, .inl Kd)), (sea, .inr (3, [.ref lc, .ref ct, .ref ch])), (ct, .inl (cZ, 12, .inl Ct)), (ch, .inl (cV, 12, .inr (.inr (.inr (.inr (fun i => if i < 12 then some (rr i) else none)))))), (lc, .inl (cZ, 160, .inl Lc))] : va_W) ++ va_pl L f) sz) U U.heap)) (va_Qi (fun (r : Int32) (u : (Nat → Int32) × (Nat → Int32)) => (r.toInt = if ((0 ≤ a0.toInt ∧ a0.toInt < (n : Int)) ∧ ((0 ≤ a1 ∧ a1 ≤ 159) ∧ Lc a1.toNatClampNeg = 0) ∧ ((0 ≤ a2 ∧ a2 ≤ 159) ∧ Lc a2.toNatClampNeg = 0) ∧ (0 ≤ a3.toInt ∧ a3.toInt ≤ 98000)) then lstF (runC (nextF Lc) (FFo (spF (V a0.toNatClampNeg 1).toInt (V a0.toNatClampNeg 6).toInt Ct cw) a3.toInt) a2.toInt 160 (h00 a1.toInt) (fun _ => 0)) a2.toInt else -1)) (fun u t => va_P (dC, dI) vwCl (([(h0, .inr (6, [.ref sea, .ref pas, .ref fl, .ref fc, .int xlf, .int xhr, .int xho, .int xga, .int xsg, .int xpr, .int xfa, .long xls])), (pas, .inr (2, [.ref hot, .ref dp])), (hot, .inl (cI, 160, .inl u.1)), (dp, .inl (cZ, 160, .inl u.2)), (sea, .inr (3, [.ref lc, .ref ct, .ref ch])), (ct, .inl (cZ, 12, .inl Ct)), (ch, .inl (cV, 12, .inr (.inr (.inr (.inr (fun i => if i < 12 then some (rr i) else none)))))), (lc, .inl (cZ, 160, .inl Lc))] : va_W) ++ va_pl L f) t.heap ∧ va_K (dC, dI) vwCl [(cZ, .boolean), (cB, .byte), (cI, .int), (cV, .array .byte), (cO, .object "java/lang/Object")] t ∧ va_D (va_A (([(h0, .inr (6, [.ref sea, .ref pas, .ref fl, .ref fc, .int xlf, .int xhr, .int xho, .int xga, .int xsg, .int xpr, .int xfa, .long xls])), (pas, .inr (2, [.ref hot, .ref dp])), (hot, .inl (cI, 160, .inl Kh)), (dp, .inl (cZ, 160, .inl Kd)), (sea, .inr (3, [.ref lc, .ref ct, .ref ch])), (ct, .inl (cZ, 12, .inl Ct)), (ch, .inl (cV, 12, .inr (.inr (.inr (.inr (fun i => if i < 12 then some (rr i) else none)))))), (lc, .inl (cZ, 160, .inl Lc))] : va_W) ++ va_pl L f) sz) (([(h0, .inr (6, [.ref sea, .ref pas, .ref fl, .ref fc, .int xlf, .int xhr, .int xho, .int xga, .int xsg, .int xpr, .int xfa, .long xls])), (pas, .inr (2, [.ref hot, .ref dp])), (hot, .inl (cI, 160, .inl u.1)), (dp, .inl (cZ, 160, .inl u.2)), (sea, .inr (3, [.ref lc, .ref ct, .ref ch])), (ct, .inl (cZ, 12, .inl Ct)), (ch, .inl (cV, 12, .inr (.inr (.inr (.inr (fun i => if i < 12 then some (rr i) else none)))))), (lc, .inl (cZ, 160, .inl Lc))] : va_W) ++ va_pl L f)) (va_A (([(h0, .inr (6, [.ref sea, .ref pas, .ref fl, .ref fc, .int xlf, .int xhr, .int xho, .int xga, .int xsg, .int xpr, .int xfa, .long xls])), (pas, .inr (2, [.ref hot, .ref dp])), (hot, .inl (cI, 160, .inl Kh)), (dp, .inl (cZ, 160, .inl Kd)), (sea, .inr (3, [.ref lc, .ref ct, .ref ch])), (ct, .inl (cZ, 12, .inl Ct)), (ch, .inl (cV, 12, .inr (.inr (.inr (.inr (fun i => if i < 12 then some (rr i) else none)))))), (lc, .inl (cZ, 160, .inl Lc))] : va_W) ++ va_pl L f) sz)) 0 0 (va_A (([(h0, .inr (6, [.ref sea, .ref pas, .ref fl, .ref fc, .int xlf, .int xhr, .int xho, .int xga, .int xsg, .int xpr, .int xfa, .long xls])), (pas, .inr (2, [.ref hot, .ref dp])), (hot, .inl (cI, 160, .inl Kh)), (dp, .inl (cZ, 160, .inl Kd)), (sea, .inr (3, [.ref lc, .ref ct, .ref ch])), (ct, .inl (cZ, 12, .inl Ct)), (ch, .inl (cV, 12, .inr (.inr (.inr (.inr (fun i => if i < 12 then some (rr i) else none)))))), (lc, .inl (cZ, 160, .inl Lc))] : va_W) ++ va_pl L f) sz) := by
  refine Met.ofW (cc := cX5_least) (maxL := 6) (ret := (some .int)) (by decide) rfl ?_
  intro p e s m args below meth c s₁ B hml hv
  obtain ⟨rfl, hsz, hP, hK, hN, hD0, hZ⟩ := hv
  have hx := B.exec
  have hb := B.bytes
  have hr := B.returns
  have hts := atoms_spec (ws := wsX5_least) B.pre
  have hown : s.vm.findClass RX5 = some m.cls := findClass_of_methodNamed B.named
  have hlocks := B.notSynchronized
  subst hsz
  have hD := hD0.self (sz := s.heap.size)
  generalize hAe : va_A (([(h0, .inr (6, [.ref sea, .ref pas, .ref fl, .ref fc, .int xlf, .int xhr, .int xho, .int xga, .int xsg, .int xpr, .int xfa, .long xls])), (pas, .inr (2, [.ref hot, .ref dp])), (hot, .inl (cI, 160, .inl Kh)), (dp, .inl (cZ, 160, .inl Kd)), (sea, .inr (3, [.ref lc, .ref ct, .ref ch])), (ct, .inl (cZ, 12, .inl Ct)), (ch, .inl (cV, 12, .inr (.inr (.inr (.inr (fun i => if i < 12 then some (rr i) else none)))))), (lc, .inl (cZ, 160, .inl Lc))] : va_W) ++ va_pl L f) s.heap.size = A at hD hZ ⊢
  have hA : ∀ q : Nat, s.heap.size ≤ q → A q := fun q h => by rw [← hAe]; exact Or.inr h
  have hS : va_S A s.heap s.heap [] := va_S.rf
  have hP : va_P (dC, dI) vwCl (([(h0, .inr (6, [.ref sea, .ref pas, .ref fl, .ref fc, .int xlf, .int xhr, .int xho, .int xga, .int xsg, .int xpr, .int xfa, .long xls])), (pas, .inr (2, [.ref hot, .ref dp])), (hot, .inl (cI, 160, .inl Kh)), (dp, .inl (cZ, 160, .inl Kd)), (sea, .inr (3, [.ref lc, .ref ct, .ref ch])), (ct, .inl (cZ, 12, .inl Ct)), (ch, .inl (cV, 12, .inr (.inr (.inr (.inr (fun i => if i < 12 then some (rr i) else none)))))), (lc, .inl (cZ, 160, .inl Lc))] : va_W) ++ va_pl L f) s.heap := hP
  have hl := lv_entry ([.ref h0, .int a0, .int a1, .int a2, .int a3]) (n := 6) (Nat.le_of_ble_eq_true rfl)
  rw [lg_entry_eq]
  generalize (lg_sl ([.ref h0, .int a0, .int a1, .int a2, .int a3]) ++ List.replicate (6 - (lg_sl ([.ref h0, .int a0, .int a1, .int a2, .int a3])).length) Slot.unset).toArray = ls at hl ⊢
  have hl : lv_has ls 6 [(0, .ref h0), (1, .int a0), (2, .int a1), (3, .int a2), (4, .int a3)] := hl
  have hrows := inv.1
  refine lv_aload_n hx hb dX5_least_0 rfl (lv_at hl 0 rfl) ?_
  refine lv_iload_n hx hb dX5_least_1 rfl (lv_at hl 1 rfl) ?_
  have hPc : va_P (dC, dI) vwCl (([(h0, .inr (6, [.ref sea, .ref pas, .ref fl, .ref fc, .int xlf, .int xhr, .int xho, .int xga, .int xsg, .int xpr, .int xfa, .long xls]))] : va_W) ++ va_pl L f) s.heap := va_P.part (X := [(h0, .inr (6, [.ref sea, .ref pas, .ref fl, .ref fc, .int xlf, .int xhr, .int xho, .int xga, .int xsg, .int xpr, .int xfa, .long xls])), (pas, .inr (2, [.ref hot, .ref dp])), (hot, .inl (cI, 160, .inl Kh)), (dp, .inl (cZ, 160, .inl Kd)), (sea, .inr (3, [.ref lc, .ref ct, .ref ch])), (ct, .inl (cZ, 12, .inl Ct)), (ch, .inl (cV, 12, .inr (.inr (.inr (.inr (fun i => if i < 12 then some (rr i) else none)))))), (lc, .inl (cZ, 160, .inl Lc))]) hP [0] rfl
  have hKc := hK.sub (tys' := [(cO, .object "java/lang/Object")]) [4] rfl
  refine va_callq (va_runV (As := [.int a0]) (rest := []) ⟨hx, hb, hml, hown, hts⟩ (c_X5_shipOf l dC dI s.heap.size L f h0 sea pas fl fc xlf xhr xho xga xsg xpr xfa xls cB own te cO rr cw n sa V oa ia nO OW nS SW a0 inv) (cwV 1 hts gX5_least_X5_shipOf rfl rfl rfl (by decide +kernel) ⟨Nat.le_of_ble_eq_true rfl, Nat.le_of_ble_eq_true rfl⟩) ⟨fun a U g mk q => by obtain ⟨q0, q1, qP, qK, qN⟩ := q; exact ⟨q0, q1, qP, va_K.moved (u := U) (U := U.calling g mk a) (Vm.Alike.refl U.vm) qK, NW.same (u := U) (U := U.calling g mk a) rfl qN⟩, va_recv hKc hPc (ci := 6) (q0 := 0) rfl rfl, fun U hU hW => ⟨rfl, by rw [hU], by rw [hU]; exact hPc, va_K.moved hW.alike hKc, NW.warm hW hN⟩⟩ rfl rfl hl.1 rfl (lv_room (Nat.le_of_ble_eq_true rfl)) dX5_least_2 ⟨(Nat.zero_le _), (Nat.zero_le _)⟩) hS (fun q _ h => ro_A hS hA q h) (ro_A hS hA) (fun r_1 u t H1 locs ht hvm k_2 hB hz1 hk1 hS => ?_)
  have hP := ro_P hk1 hP
  generalize H1 = H at hP hS ⊢
  try dsimp only at k_2
  obtain ⟨k_2, k_3⟩ := k_2
  rcases r_1 with _ | q_4
  · skip
    have hno := k_3 rfl
    refine W.eq (g2 := F0 m 5 ls [.null]) rfl ?_
    refine lv_astoreN (lv' := [(5, .null), (0, .ref h0), (1, .int a0), (2, .int a1), (3, .int a2), (4, .int a3)]) hx hb dX5_least_5 hl (by decide) rfl (fun ls hl => ?_)
    refine lv_aloadN hx hb dX5_least_7 (lv_at hl 0 rfl) ?_
    refine lv_ifnullN (tgt := 38) hx hb dX5_least_9 (by decide) ?_
    refine lv_iconst (v := (-1)) hx hb dX5_least_38 (by decide) ?_
    have hP9 : va_P (dC, dI) vwCl (([(h0, .inr (6, [.ref sea, .ref pas, .ref fl, .ref fc, .int xlf, .int xhr, .int xho, .int xga, .int xsg, .int xpr, .int xfa, .long xls])), (pas, .inr (2, [.ref hot, .ref dp])), (hot, .inl (cI, 160, .inl Kh)), (dp, .inl (cZ, 160, .inl Kd)), (sea, .inr (3, [.ref lc, .ref ct, .ref ch])), (ct, .inl (cZ, 12, .inl Ct)), (ch, .inl (cV, 12, .inr (.inr (.inr (.inr (fun i => if i < 12 then some (rr i) else none)))))), (lc, .inl (cZ, 160, .inl Lc))] : va_W) ++ va_pl L f) H := va_P.part (X := [(h0, .inr (6, [.ref sea, .ref pas, .ref fl, .ref fc, .int xlf, .int xhr, .int xho, .int xga, .int xsg, .int xpr, .int xfa, .long xls])), (pas, .inr (2, [.ref hot, .ref dp])), (hot, .inl (cI, 160, .inl Kh)), (dp, .inl (cZ, 160, .inl Kd)), (sea, .inr (3, [.ref lc, .ref ct, .ref ch])), (ct, .inl (cZ, 12, .inl Ct)), (ch, .inl (cV, 12, .inr (.inr (.inr (.inr (fun i => if i < 12 then some (rr i) else none)))))), (lc, .inl (cZ, 160, .inl Lc))]) hP [0, 1, 2, 3, 4, 5, 6, 7] rfl
    have hD9 : va_D A (([(h0, .inr (6, [.ref sea, .ref pas, .ref fl, .ref fc, .int xlf, .int xhr, .int xho, .int xga, .int xsg, .int xpr, .int xfa, .long xls])), (pas, .inr (2, [.ref hot, .ref dp])), (hot, .inl (cI, 160, .inl Kh)), (dp, .inl (cZ, 160, .inl Kd)), (sea, .inr (3, [.ref lc, .ref ct, .ref ch])), (ct, .inl (cZ, 12, .inl Ct)), (ch, .inl (cV, 12, .inr (.inr (.inr (.inr (fun i => if i < 12 then some (rr i) else none)))))), (lc, .inl (cZ, 160, .inl Lc))] : va_W) ++ va_pl L f) := va_D.part (X := [(h0, .inr (6, [.ref sea, .ref pas, .ref fl, .ref fc, .int xlf, .int xhr, .int xho, .int xga, .int xsg, .int xpr, .int xfa, .long xls])), (pas, .inr (2, [.ref hot, .ref dp])), (hot, .inl (cI, 160, .inl Kh)), (dp, .inl (cZ, 160, .inl Kd)), (sea, .inr (3, [.ref lc, .ref ct, .ref ch])), (ct, .inl (cZ, 12, .inl Ct)), (ch, .inl (cV, 12, .inr (.inr (.inr (.inr (fun i => if i < 12 then some (rr i) else none)))))), (lc, .inl (cZ, 160, .inl Lc))]) hD [0, 1, 2, 3, 4, 5, 6, 7] (by decide) rfl
    have hK9 := hK.sub (tys' := [(cZ, .boolean), (cB, .byte), (cI, .int), (cV, .array .byte), (cO, .object "java/lang/Object")]) [0, 1, 2, 3, 4] rfl
    have hv9 : (-1 : Int32).toInt = (-1) := by decide
    exact W.iret (v := (-1)) hx hb hr (fun t ht hW => ⟨⟨(-1), (Kh, Kd), rfl, (by (try dsimp only); rw [if_neg (by (first | omega | ((try simp only [Int32.lt_iff_toInt_lt, Int32.le_iff_toInt_le, ← Int32.toInt_inj, Int32.reduceToInt, zl1, zl2, zl3, zl4, zl9]); (try simp only [Int32.reduceToInt]); omega) | (subst_vars; assumption) | (refine ⟨?_, ?_⟩ <;> first | omega | (simp only [Int32.lt_iff_toInt_lt, Int32.le_iff_toInt_le, ← Int32.toInt_inj, Int32.reduceToInt, zl1, zl2, zl3, zl4, zl9]; omega) | (subst_vars; assumption))))]; decide), ⟨by rw [ht]; exact hP9, va_K.moved hW.alike hK9, hD9⟩⟩, hS.F ht⟩) hS.2.2 dX5_least_39
  · skip
    obtain ⟨hi_5, hi_6, rfl⟩ := k_2 q_4 rfl
    refine W.eq (g2 := F0 m 5 ls [.ref (sa a0.toNatClampNeg)]) rfl ?_
    have hn8 := inv.2.2.2.2.1
    have hsp_7 := inv.2.2.2.2.2 a0.toNatClampNeg (tn_lt (by omega) (by omega))
    refine lv_astore (lv' := [(5, .ref (sa a0.toNatClampNeg)), (0, .ref h0), (1, .int a0), (2, .int a1), (3, .int a2), (4, .int a3)]) hx hb dX5_least_5 hl (by decide) rfl (fun ls hl => ?_)
    refine lv_aload hx hb dX5_least_7 (lv_at hl 0 rfl) ?_
    refine lv_ifnull hx hb dX5_least_9 ?_
    refine lv_aload_n hx hb dX5_least_12 rfl (lv_at hl 1 rfl) ?_
    refine lv_iload_n hx hb dX5_least_13 rfl (lv_at hl 3 rfl) ?_
    have hPc := hP.sub (ws' := [(h0, .inr (6, [.ref sea, .ref pas, .ref fl, .ref fc, .int xlf, .int xhr, .int xho, .int xga, .int xsg, .int xpr, .int xfa, .long xls])), (sea, .inr (3, [.ref lc, .ref ct, .ref ch])), (lc, .inl (cZ, 160, .inl Lc))]) [0, 4, 7] rfl
    have hKc := hK.sub (tys' := [(cZ, .boolean)]) [0] rfl
    refine va_calli (va_runV (As := [.int a1]) (rest := []) ⟨hx, hb, hml, hown, hts⟩ (c_X5_isNoWater l dC dI H.size h0 sea pas fl fc xlf xhr xho xga xsg xpr xfa xls lc ct ch Lc cZ a1 ) (cwV 1 hts gX5_least_X5_isNoWater rfl rfl rfl (by decide +kernel) ⟨Nat.le_of_ble_eq_true rfl, Nat.le_of_ble_eq_true rfl⟩) ⟨fun a U g mk q => by obtain ⟨q0, q1, qP, qK, qN⟩ := q; exact ⟨q0, q1, qP, va_K.moved (u := U) (U := U.calling g mk a) (Vm.Alike.refl U.vm) qK, NW.same (u := U) (U := U.calling g mk a) rfl qN⟩, va_recv hKc hPc (ci := 6) (q0 := 0) rfl rfl, fun U hU hW => ⟨rfl, by rw [hU], by rw [hU]; exact hPc, va_K.moved hW.alike hKc, NW.warm hW hN⟩⟩ rfl rfl hl.1 rfl (lv_room (Nat.le_of_ble_eq_true rfl)) dX5_least_14 ⟨(Nat.zero_le _), (Nat.zero_le _)⟩) hS (fun q _ h => ro_A hS hA q h) (ro_A hS hA) (fun r_8 u t H1 locs ht hvm k_9 hB hz1 hk1 hS => ?_)
    have hP := ro_P hk1 hP
    generalize H1 = H at hP hS ⊢
    try dsimp only at k_9
    obtain ⟨k_9, k_10⟩ := k_9
    refine lv_if_ne (tgt := 38) hx hb dX5_least_17 (by decide) (fun c_11 => ?_) (fun c_11 => ?_)
    · skip
      have b_12 := b01n k_9 c_11
      (try simp only [Int32.lt_iff_toInt_lt, Int32.le_iff_toInt_le, ← Int32.toInt_inj, Int32.reduceToInt, zl1, zl2, zl3, zl4, zl9] at b_12)
      (try simp only [Int32.reduceToInt] at b_12)
      refine lv_iconst (v := (-1)) hx hb dX5_least_38 (by decide) ?_
      have hP9 : va_P (dC, dI) vwCl (([(h0, .inr (6, [.ref sea, .ref pas, .ref fl, .ref fc, .int xlf, .int xhr, .int xho, .int xga, .int xsg, .int xpr, .int xfa, .long xls])), (pas, .inr (2, [.ref hot, .ref dp])), (hot, .inl (cI, 160, .inl Kh)), (dp, .inl (cZ, 160, .inl Kd)), (sea, .inr (3, [.ref lc, .ref ct, .ref ch])), (ct, .inl (cZ, 12, .inl Ct)), (ch, .inl (cV, 12, .inr (.inr (.inr (.inr (fun i => if i < 12 then some (rr i) else none)))))), (lc, .inl (cZ, 160, .inl Lc))] : va_W) ++ va_pl L f) H := va_P.part (X := [(h0, .inr (6, [.ref sea, .ref pas, .ref fl, .ref fc, .int xlf, .int xhr, .int xho, .int xga, .int xsg, .int xpr, .int xfa, .long xls])), (pas, .inr (2, [.ref hot, .ref dp])), (hot, .inl (cI, 160, .inl Kh)), (dp, .inl (cZ, 160, .inl Kd)), (sea, .inr (3, [.ref lc, .ref ct, .ref ch])), (ct, .inl (cZ, 12, .inl Ct)), (ch, .inl (cV, 12, .inr (.inr (.inr (.inr (fun i => if i < 12 then some (rr i) else none)))))), (lc, .inl (cZ, 160, .inl Lc))]) hP [0, 1, 2, 3, 4, 5, 6, 7] rfl
      have hD9 : va_D A (([(h0, .inr (6, [.ref sea, .ref pas, .ref fl, .ref fc, .int xlf, .int xhr, .int xho, .int xga, .int xsg, .int xpr, .int xfa, .long xls])), (pas, .inr (2, [.ref hot, .ref dp])), (hot, .inl (cI, 160, .inl Kh)), (dp, .inl (cZ, 160, .inl Kd)), (sea, .inr (3, [.ref lc, .ref ct, .ref ch])), (ct, .inl (cZ, 12, .inl Ct)), (ch, .inl (cV, 12, .inr (.inr (.inr (.inr (fun i => if i < 12 then some (rr i) else none)))))), (lc, .inl (cZ, 160, .inl Lc))] : va_W) ++ va_pl L f) := va_D.part (X := [(h0, .inr (6, [.ref sea, .ref pas, .ref fl, .ref fc, .int xlf, .int xhr, .int xho, .int xga, .int xsg, .int xpr, .int xfa, .long xls])), (pas, .inr (2, [.ref hot, .ref dp])), (hot, .inl (cI, 160, .inl Kh)), (dp, .inl (cZ, 160, .inl Kd)), (sea, .inr (3, [.ref lc, .ref ct, .ref ch])), (ct, .inl (cZ, 12, .inl Ct)), (ch, .inl (cV, 12, .inr (.inr (.inr (.inr (fun i => if i < 12 then some (rr i) else none)))))), (lc, .inl (cZ, 160, .inl Lc))]) hD [0, 1, 2, 3, 4, 5, 6, 7] (by decide) rfl
      have hK9 := hK.sub (tys' := [(cZ, .boolean), (cB, .byte), (cI, .int), (cV, .array .byte), (cO, .object "java/lang/Object")]) [0, 1, 2, 3, 4] rfl
      have hv9 : (-1 : Int32).toInt = (-1) := by decide
      exact W.iret (v := (-1)) hx hb hr (fun t ht hW => ⟨⟨(-1), (Kh, Kd), rfl, (by (try dsimp only); rw [if_neg (by (first | omega | ((try simp only [Int32.lt_iff_toInt_lt, Int32.le_iff_toInt_le, ← Int32.toInt_inj, Int32.reduceToInt, zl1, zl2, zl3, zl4, zl9]); (try simp only [Int32.reduceToInt]); omega) | (subst_vars; assumption) | (refine ⟨?_, ?_⟩ <;> first | omega | (simp only [Int32.lt_iff_toInt_lt, Int32.le_iff_toInt_le, ← Int32.toInt_inj, Int32.reduceToInt, zl1, zl2, zl3, zl4, zl9]; omega) | (subst_vars; assumption))))]; decide), ⟨by rw [ht]; exact hP9, va_K.moved hW.alike hK9, hD9⟩⟩, hS.F ht⟩) hS.2.2 dX5_least_39
    · skip
      have b_13 := b01z k_9 c_11
      (try simp only [Int32.lt_iff_toInt_lt, Int32.le_iff_toInt_le, ← Int32.toInt_inj, Int32.reduceToInt, zl1, zl2, zl3, zl4, zl9] at b_13)
      (try simp only [Int32.reduceToInt] at b_13)
      refine lv_aload_n hx hb dX5_least_20 rfl (lv_at hl 1 rfl) ?_
      refine lv_iload_n hx hb dX5_least_21 rfl (lv_at hl 4 rfl) ?_
      have hPc := hP.sub (ws' := [(h0, .inr (6, [.ref sea, .ref pas, .ref fl, .ref fc, .int xlf, .int xhr, .int xho, .int xga, .int xsg, .int xpr, .int xfa, .long xls])), (sea, .inr (3, [.ref lc, .ref ct, .ref ch])), (lc, .inl (cZ, 160, .inl Lc))]) [0, 4, 7] rfl
      have hKc := hK.sub (tys' := [(cZ, .boolean)]) [0] rfl
      refine va_calli (va_runV (As := [.int a2]) (rest := []) ⟨hx, hb, hml, hown, hts⟩ (c_X5_isNoWater l dC dI H.size h0 sea pas fl fc xlf xhr xho xga xsg xpr xfa xls lc ct ch Lc cZ a2 ) (cwV 1 hts gX5_least_X5_isNoWater rfl rfl rfl (by decide +kernel) ⟨Nat.le_of_ble_eq_true rfl, Nat.le_of_ble_eq_true rfl⟩) ⟨fun a U g mk q => by obtain ⟨q0, q1, qP, qK, qN⟩ := q; exact ⟨q0, q1, qP, va_K.moved (u := U) (U := U.calling g mk a) (Vm.Alike.refl U.vm) qK, NW.same (u := U) (U := U.calling g mk a) rfl qN⟩, va_recv hKc hPc (ci := 6) (q0 := 0) rfl rfl, fun U hU hW => ⟨rfl, by rw [hU], by rw [hU]; exact hPc, va_K.moved hW.alike hKc, NW.warm hW hN⟩⟩ rfl rfl hl.1 rfl (lv_room (Nat.le_of_ble_eq_true rfl)) dX5_least_22 ⟨(Nat.zero_le _), (Nat.zero_le _)⟩) hS (fun q _ h => ro_A hS hA q h) (ro_A hS hA) (fun r_14 u t H1 locs ht hvm k_15 hB hz1 hk1 hS => ?_)
      have hP := ro_P hk1 hP
      generalize H1 = H at hP hS ⊢
      try dsimp only at k_15
      obtain ⟨k_15, k_16⟩ := k_15
      refine lv_if_ne (tgt := 38) hx hb dX5_least_25 (by decide) (fun c_17 => ?_) (fun c_17 => ?_)
      · skip
        have b_18 := b01n k_15 c_17
        (try simp only [Int32.lt_iff_toInt_lt, Int32.le_iff_toInt_le, ← Int32.toInt_inj, Int32.reduceToInt, zl1, zl2, zl3, zl4, zl9] at b_18)
        (try simp only [Int32.reduceToInt] at b_18)
        refine lv_iconst (v := (-1)) hx hb dX5_least_38 (by decide) ?_
        have hP9 : va_P (dC, dI) vwCl (([(h0, .inr (6, [.ref sea, .ref pas, .ref fl, .ref fc, .int xlf, .int xhr, .int xho, .int xga, .int xsg, .int xpr, .int xfa, .long xls])), (pas, .inr (2, [.ref hot, .ref dp])), (hot, .inl (cI, 160, .inl Kh)), (dp, .inl (cZ, 160, .inl Kd)), (sea, .inr (3, [.ref lc, .ref ct, .ref ch])), (ct, .inl (cZ, 12, .inl Ct)), (ch, .inl (cV, 12, .inr (.inr (.inr (.inr (fun i => if i < 12 then some (rr i) else none)))))), (lc, .inl (cZ, 160, .inl Lc))] : va_W) ++ va_pl L f) H := va_P.part (X := [(h0, .inr (6, [.ref sea, .ref pas, .ref fl, .ref fc, .int xlf, .int xhr, .int xho, .int xga, .int xsg, .int xpr, .int xfa, .long xls])), (pas, .inr (2, [.ref hot, .ref dp])), (hot, .inl (cI, 160, .inl Kh)), (dp, .inl (cZ, 160, .inl Kd)), (sea, .inr (3, [.ref lc, .ref ct, .ref ch])), (ct, .inl (cZ, 12, .inl Ct)), (ch, .inl (cV, 12, .inr (.inr (.inr (.inr (fun i => if i < 12 then some (rr i) else none)))))), (lc, .inl (cZ, 160, .inl Lc))]) hP [0, 1, 2, 3, 4, 5, 6, 7] rfl
        have hD9 : va_D A (([(h0, .inr (6, [.ref sea, .ref pas, .ref fl, .ref fc, .int xlf, .int xhr, .int xho, .int xga, .int xsg, .int xpr, .int xfa, .long xls])), (pas, .inr (2, [.ref hot, .ref dp])), (hot, .inl (cI, 160, .inl Kh)), (dp, .inl (cZ, 160, .inl Kd)), (sea, .inr (3, [.ref lc, .ref ct, .ref ch])), (ct, .inl (cZ, 12, .inl Ct)), (ch, .inl (cV, 12, .inr (.inr (.inr (.inr (fun i => if i < 12 then some (rr i) else none)))))), (lc, .inl (cZ, 160, .inl Lc))] : va_W) ++ va_pl L f) := va_D.part (X := [(h0, .inr (6, [.ref sea, .ref pas, .ref fl, .ref fc, .int xlf, .int xhr, .int xho, .int xga, .int xsg, .int xpr, .int xfa, .long xls])), (pas, .inr (2, [.ref hot, .ref dp])), (hot, .inl (cI, 160, .inl Kh)), (dp, .inl (cZ, 160, .inl Kd)), (sea, .inr (3, [.ref lc, .ref ct, .ref ch])), (ct, .inl (cZ, 12, .inl Ct)), (ch, .inl (cV, 12, .inr (.inr (.inr (.inr (fun i => if i < 12 then some (rr i) else none)))))), (lc, .inl (cZ, 160, .inl Lc))]) hD [0, 1, 2, 3, 4, 5, 6, 7] (by decide) rfl
        have hK9 := hK.sub (tys' := [(cZ, .boolean), (cB, .byte), (cI, .int), (cV, .array .byte), (cO, .object "java/lang/Object")]) [0, 1, 2, 3, 4] rfl
        have hv9 : (-1 : Int32).toInt = (-1) := by decide
        exact W.iret (v := (-1)) hx hb hr (fun t ht hW => ⟨⟨(-1), (Kh, Kd), rfl, (by (try dsimp only); rw [if_neg (by (first | omega | ((try simp only [Int32.lt_iff_toInt_lt, Int32.le_iff_toInt_le, ← Int32.toInt_inj, Int32.reduceToInt, zl1, zl2, zl3, zl4, zl9]); (try simp only [Int32.reduceToInt]); omega) | (subst_vars; assumption) | (refine ⟨?_, ?_⟩ <;> first | omega | (simp only [Int32.lt_iff_toInt_lt, Int32.le_iff_toInt_le, ← Int32.toInt_inj, Int32.reduceToInt, zl1, zl2, zl3, zl4, zl9]; omega) | (subst_vars; assumption))))]; decide), ⟨by rw [ht]; exact hP9, va_K.moved hW.alike hK9, hD9⟩⟩, hS.F ht⟩) hS.2.2 dX5_least_39
      · skip
        have b_19 := b01z k_15 c_17
        (try simp only [Int32.lt_iff_toInt_lt, Int32.le_iff_toInt_le, ← Int32.toInt_inj, Int32.reduceToInt, zl1, zl2, zl3, zl4, zl9] at b_19)
        (try simp only [Int32.reduceToInt] at b_19)
        refine lv_iload hx hb dX5_least_28 (lv_at hl 5 rfl) ?_
        refine lv_ldc (v := (98000)) hx hb hown (hts (.constant RX5 190 (98000)) (by decide +kernel)) dX5_least_30 ?_
        refine va_calli (va_runS (As := [.int a3, .int (98000)]) (rest := []) ⟨hx, hb, hml, hown, hts⟩ (c_X5_outside l H.size a3 (98000) ) (va_cwS 2 hts gX5_least_X5_outside rfl rfl rfl (by decide +kernel) ⟨Nat.le_of_ble_eq_true rfl, Nat.le_of_ble_eq_true rfl⟩) ⟨fun a U g mk q => by obtain ⟨q0, q1⟩ := q; exact ⟨q0, q1⟩, fun U hU hW => ⟨rfl, congrArg Array.size hU⟩⟩ rfl rfl hl.1 rfl (lv_room (Nat.le_of_ble_eq_true rfl)) dX5_least_32 ⟨(Nat.zero_le _), (Nat.zero_le _)⟩) hS (fun q _ h => ro_A hS hA q h) (ro_A hS hA) (fun r_20 u t H1 locs ht hvm k_21 hB hz1 hk1 hS => ?_)
        have hP := ro_P hk1 hP
        generalize H1 = H at hP hS ⊢
        try dsimp only at k_21
        obtain ⟨k_21, k_22⟩ := k_21
        refine lv_if_eq (tgt := 40) hx hb dX5_least_35 (by decide) (fun c_23 => ?_) (fun c_23 => ?_)
        · skip
          have b_24 := b01z k_21 c_23
          (try simp only [Int32.lt_iff_toInt_lt, Int32.le_iff_toInt_le, ← Int32.toInt_inj, Int32.reduceToInt, zl1, zl2, zl3, zl4, zl9] at b_24)
          (try simp only [Int32.reduceToInt] at b_24)
          have hf6 := hfv a0.toNatClampNeg (tn_lt (by omega) (by omega))
          refine lv_aload_n hx hb dX5_least_40 rfl (lv_at hl 1 rfl) ?_
          refine va_get (D := (dC, dI)) (ci := 6) (v := .ref pas) (C := RX5) (T := TX5) (N := 12) hx hb hts iw_X5_least_X5 hown hK hP 0 rfl rfl 1 (by decide) (hts (.fieldLink RX5 19 "TeaRace" "passage" "LTeaRace$Passage;") (by decide +kernel)) (fun _ h9 => h9) rfl dX5_least_41 ?_
          refine lv_aload_n hx hb dX5_least_44 rfl (lv_at hl 1 rfl) ?_
          refine va_get (D := (dC, dI)) (ci := 6) (v := .ref sea) (C := RX5) (T := TX5) (N := 12) hx hb hts iw_X5_least_X5 hown hK hP 0 rfl rfl 0 (by decide) (hts (.fieldLink RX5 10 "TeaRace" "sea" "LTeaRace$Sea;") (by decide +kernel)) (fun _ h9 => h9) rfl dX5_least_45 ?_
          refine lv_aload hx hb dX5_least_48 (lv_at hl 0 rfl) ?_
          refine lv_iload_n hx hb dX5_least_50 rfl (lv_at hl 3 rfl) ?_
          refine lv_iload_n hx hb dX5_least_51 rfl (lv_at hl 4 rfl) ?_
          refine lv_iload hx hb dX5_least_52 (lv_at hl 5 rfl) ?_
          have hPc : va_P (dC, dI) vwCl (([(pas, .inr (2, [.ref hot, .ref dp])), (hot, .inl (cI, 160, .inl Kh)), (dp, .inl (cZ, 160, .inl Kd)), (sea, .inr (3, [.ref lc, .ref ct, .ref ch])), (ct, .inl (cZ, 12, .inl Ct)), (ch, .inl (cV, 12, .inr (.inr (.inr (.inr (fun i => if i < 12 then some (rr i) else none)))))), (lc, .inl (cZ, 160, .inl Lc))] : va_W) ++ va_pl L f) H := va_P.part (X := [(h0, .inr (6, [.ref sea, .ref pas, .ref fl, .ref fc, .int xlf, .int xhr, .int xho, .int xga, .int xsg, .int xpr, .int xfa, .long xls])), (pas, .inr (2, [.ref hot, .ref dp])), (hot, .inl (cI, 160, .inl Kh)), (dp, .inl (cZ, 160, .inl Kd)), (sea, .inr (3, [.ref lc, .ref ct, .ref ch])), (ct, .inl (cZ, 12, .inl Ct)), (ch, .inl (cV, 12, .inr (.inr (.inr (.inr (fun i => if i < 12 then some (rr i) else none)))))), (lc, .inl (cZ, 160, .inl Lc))]) hP [1, 2, 3, 4, 5, 6, 7] rfl
          have hDc : va_D A (([(pas, .inr (2, [.ref hot, .ref dp])), (hot, .inl (cI, 160, .inl Kh)), (dp, .inl (cZ, 160, .inl Kd)), (sea, .inr (3, [.ref lc, .ref ct, .ref ch])), (ct, .inl (cZ, 12, .inl Ct)), (ch, .inl (cV, 12, .inr (.inr (.inr (.inr (fun i => if i < 12 then some (rr i) else none)))))), (lc, .inl (cZ, 160, .inl Lc))] : va_W) ++ va_pl L f) := va_D.part (X := [(h0, .inr (6, [.ref sea, .ref pas, .ref fl, .ref fc, .int xlf, .int xhr, .int xho, .int xga, .int xsg, .int xpr, .int xfa, .long xls])), (pas, .inr (2, [.ref hot, .ref dp])), (hot, .inl (cI, 160, .inl Kh)), (dp, .inl (cZ, 160, .inl Kd)), (sea, .inr (3, [.ref lc, .ref ct, .ref ch])), (ct, .inl (cZ, 12, .inl Ct)), (ch, .inl (cV, 12, .inr (.inr (.inr (.inr (fun i => if i < 12 then some (rr i) else none)))))), (lc, .inl (cZ, 160, .inl Lc))]) hD [1, 2, 3, 4, 5, 6, 7] (by decide) rfl
          have hKc := hK.sub (tys' := [(cI, .int), (cZ, .boolean), (cB, .byte), (cV, .array .byte)]) [2, 0, 1, 3] rfl
          have hFc := va_freeP (X := [(h0, .inr (6, [.ref sea, .ref pas, .ref fl, .ref fc, .int xlf, .int xhr, .int xho, .int xga, .int xsg, .int xpr, .int xfa, .long xls])), (pas, .inr (2, [.ref hot, .ref dp])), (hot, .inl (cI, 160, .inl Kh)), (dp, .inl (cZ, 160, .inl Kd)), (sea, .inr (3, [.ref lc, .ref ct, .ref ch])), (ct, .inl (cZ, 12, .inl Ct)), (ch, .inl (cV, 12, .inr (.inr (.inr (.inr (fun i => if i < 12 then some (rr i) else none)))))), (lc, .inl (cZ, 160, .inl Lc))]) (cx := [(pas, .inr (2, [.ref hot, .ref dp])), (hot, .inl (cI, 160, .inl Kh)), (dp, .inl (cZ, 160, .inl Kd)), (sea, .inr (3, [.ref lc, .ref ct, .ref ch])), (ct, .inl (cZ, 12, .inl Ct)), (ch, .inl (cV, 12, .inr (.inr (.inr (.inr (fun i => if i < 12 then some (rr i) else none)))))), (lc, .inl (cZ, 160, .inl Lc))]) hD hS hA [1, 2, 3, 4, 5, 6, 7] rfl
          refine va_calli (va_runV (As := [.ref sea, .ref (sa a0.toNatClampNeg), .int a1, .int a2, .int a3]) (rest := []) ⟨hx, hb, hml, hown, hts⟩ (c_X1_leastHours l dC dI H.size te ea so mi L f pas hot dp Kh Kd Lc cI sea lc ct ch rr cw Ct cZ cB cV (sa a0.toNatClampNeg) (oa a0.toNatClampNeg) (ia a0.toNatClampNeg) (V a0.toNatClampNeg) a1 a2 a3 ⟨(by omega), (by omega)⟩ ⟨(by omega), (by omega)⟩ ⟨(by omega), (by omega)⟩ (by omega) ⟨hsp_7.1, hsp_7.2.1⟩ hrows) (cwV 5 hts gX5_least_X1_leastHours rfl rfl rfl (by decide +kernel) ⟨Nat.le_of_ble_eq_true rfl, Nat.le_of_ble_eq_true rfl⟩) ⟨fun a U g mk q => by obtain ⟨q0, q1, qP, qK, qN, qD, qZ⟩ := q; exact ⟨q0, q1, qP, va_K.moved (u := U) (U := U.calling g mk a) (Vm.Alike.refl U.vm) qK, NW.same (u := U) (U := U.calling g mk a) rfl qN, qD, Zs.moved (u := U) (U := U.calling g mk a) (Vm.Alike.refl U.vm) qZ⟩, va_recv hKc hPc (ci := 2) (q0 := 0) rfl rfl, fun U hU hW => ⟨rfl, by rw [hU], by rw [hU]; exact hPc, va_K.moved hW.alike hKc, NW.warm hW hN, hDc.weaken (fun _ _ _ _ => trivial), by rw [hU]; exact Zs.pass hZ hS.2.1 hFc hW.alike⟩⟩ rfl rfl hl.1 rfl (lv_room (Nat.le_of_ble_eq_true rfl)) dX5_least_54 ⟨(Nat.zero_le _), (Nat.zero_le _)⟩) hS (fun q _ h => hFc q h) hFc (fun r_25 u t H1 locs ht hvm k_26 hB hz1 hk1 hS => ?_)
          obtain ⟨u_27, u_28⟩ := u
          obtain ⟨hP1, hK1, hD1⟩ := hB
          rw [ht] at hP1
          have hK1 := va_K.moved hvm.symm hK1
          obtain ⟨hP, hD⟩ := va_joinP (X := [(h0, .inr (6, [.ref sea, .ref pas, .ref fl, .ref fc, .int xlf, .int xhr, .int xho, .int xga, .int xsg, .int xpr, .int xfa, .long xls])), (pas, .inr (2, [.ref hot, .ref dp])), (hot, .inl (cI, 160, .inl Kh)), (dp, .inl (cZ, 160, .inl Kd)), (sea, .inr (3, [.ref lc, .ref ct, .ref ch])), (ct, .inl (cZ, 12, .inl Ct)), (ch, .inl (cV, 12, .inr (.inr (.inr (.inr (fun i => if i < 12 then some (rr i) else none)))))), (lc, .inl (cZ, 160, .inl Lc))]) (cx := [(pas, .inr (2, [.ref hot, .ref dp])), (hot, .inl (cI, 160, .inl Kh)), (dp, .inl (cZ, 160, .inl Kd)), (sea, .inr (3, [.ref lc, .ref ct, .ref ch])), (ct, .inl (cZ, 12, .inl Ct)), (ch, .inl (cV, 12, .inr (.inr (.inr (.inr (fun i => if i < 12 then some (rr i) else none)))))), (lc, .inl (cZ, 160, .inl Lc))]) (wr := [(h0, .inr (6, [.ref sea, .ref pas, .ref fl, .ref fc, .int xlf, .int xhr, .int xho, .int xga, .int xsg, .int xpr, .int xfa, .long xls]))]) (rx := [(pas, .inr (2, [.ref hot, .ref dp])), (hot, .inl (cI, 160, .inl u_27)), (dp, .inl (cZ, 160, .inl u_28)), (sea, .inr (3, [.ref lc, .ref ct, .ref ch])), (ct, .inl (cZ, 12, .inl Ct)), (ch, .inl (cV, 12, .inr (.inr (.inr (.inr (fun i => if i < 12 then some (rr i) else none)))))), (lc, .inl (cZ, 160, .inl Lc))]) hP hD [1, 2, 3, 4, 5, 6, 7] [0] rfl rfl (by decide) (by decide) hk1 hFc hP1 hD1
          generalize H1 = H at hP hS ⊢
          have hP : va_P (dC, dI) vwCl (([(h0, .inr (6, [.ref sea, .ref pas, .ref fl, .ref fc, .int xlf, .int xhr, .int xho, .int xga, .int xsg, .int xpr, .int xfa, .long xls])), (pas, .inr (2, [.ref hot, .ref dp])), (hot, .inl (cI, 160, .inl u_27)), (dp, .inl (cZ, 160, .inl u_28)), (sea, .inr (3, [.ref lc, .ref ct, .ref ch])), (ct, .inl (cZ, 12, .inl Ct)), (ch, .inl (cV, 12, .inr (.inr (.inr (.inr (fun i => if i < 12 then some (rr i) else none)))))), (lc, .inl (cZ, 160, .inl Lc))] : va_W) ++ va_pl L f) H := hP
          have hD : va_D A (([(h0, .inr (6, [.ref sea, .ref pas, .ref fl, .ref fc, .int xlf, .int xhr, .int xho, .int xga, .int xsg, .int xpr, .int xfa, .long xls])), (pas, .inr (2, [.ref hot, .ref dp])), (hot, .inl (cI, 160, .inl u_27)), (dp, .inl (cZ, 160, .inl u_28)), (sea, .inr (3, [.ref lc, .ref ct, .ref ch])), (ct, .inl (cZ, 12, .inl Ct)), (ch, .inl (cV, 12, .inr (.inr (.inr (.inr (fun i => if i < 12 then some (rr i) else none)))))), (lc, .inl (cZ, 160, .inl Lc))] : va_W) ++ va_pl L f) := hD
          try dsimp only at k_26
          have hP9 : va_P (dC, dI) vwCl (([(h0, .inr (6, [.ref sea, .ref pas, .ref fl, .ref fc, .int xlf, .int xhr, .int xho, .int xga, .int xsg, .int xpr, .int xfa, .long xls])), (pas, .inr (2, [.ref hot, .ref dp])), (hot, .inl (cI, 160, .inl u_27)), (dp, .inl (cZ, 160, .inl u_28)), (sea, .inr (3, [.ref lc, .ref ct, .ref ch])), (ct, .inl (cZ, 12, .inl Ct)), (ch, .inl (cV, 12, .inr (.inr (.inr (.inr (fun i => if i < 12 then some (rr i) else none)))))), (lc, .inl (cZ, 160, .inl Lc))] : va_W) ++ va_pl L f) H := va_P.part (X := [(h0, .inr (6, [.ref sea, .ref pas, .ref fl, .ref fc, .int xlf, .int xhr, .int xho, .int xga, .int xsg, .int xpr, .int xfa, .long xls])), (pas, .inr (2, [.ref hot, .ref dp])), (hot, .inl (cI, 160, .inl u_27)), (dp, .inl (cZ, 160, .inl u_28)), (sea, .inr (3, [.ref lc, .ref ct, .ref ch])), (ct, .inl (cZ, 12, .inl Ct)), (ch, .inl (cV, 12, .inr (.inr (.inr (.inr (fun i => if i < 12 then some (rr i) else none)))))), (lc, .inl (cZ, 160, .inl Lc))]) hP [0, 1, 2, 3, 4, 5, 6, 7] rfl
          have hD9 : va_D A (([(h0, .inr (6, [.ref sea, .ref pas, .ref fl, .ref fc, .int xlf, .int xhr, .int xho, .int xga, .int xsg, .int xpr, .int xfa, .long xls])), (pas, .inr (2, [.ref hot, .ref dp])), (hot, .inl (cI, 160, .inl u_27)), (dp, .inl (cZ, 160, .inl u_28)), (sea, .inr (3, [.ref lc, .ref ct, .ref ch])), (ct, .inl (cZ, 12, .inl Ct)), (ch, .inl (cV, 12, .inr (.inr (.inr (.inr (fun i => if i < 12 then some (rr i) else none)))))), (lc, .inl (cZ, 160, .inl Lc))] : va_W) ++ va_pl L f) := va_D.part (X := [(h0, .inr (6, [.ref sea, .ref pas, .ref fl, .ref fc, .int xlf, .int xhr, .int xho, .int xga, .int xsg, .int xpr, .int xfa, .long xls])), (pas, .inr (2, [.ref hot, .ref dp])), (hot, .inl (cI, 160, .inl u_27)), (dp, .inl (cZ, 160, .inl u_28)), (sea, .inr (3, [.ref lc, .ref ct, .ref ch])), (ct, .inl (cZ, 12, .inl Ct)), (ch, .inl (cV, 12, .inr (.inr (.inr (.inr (fun i => if i < 12 then some (rr i) else none)))))), (lc, .inl (cZ, 160, .inl Lc))]) hD [0, 1, 2, 3, 4, 5, 6, 7] (by decide) rfl
          have hK9 := hK.sub (tys' := [(cZ, .boolean), (cB, .byte), (cI, .int), (cV, .array .byte), (cO, .object "java/lang/Object")]) [0, 1, 2, 3, 4] rfl
          exact W.iret (v := r_25) hx hb hr (fun t ht hW => ⟨⟨r_25, (u_27, u_28), rfl, (by (try dsimp only); rw [if_pos (by (first | omega | ((try simp only [Int32.lt_iff_toInt_lt, Int32.le_iff_toInt_le, ← Int32.toInt_inj, Int32.reduceToInt, zl1, zl2, zl3, zl4, zl9]); (try simp only [Int32.reduceToInt]); omega) | (subst_vars; assumption) | (refine ⟨?_, ?_⟩ <;> first | omega | (simp only [Int32.lt_iff_toInt_lt, Int32.le_iff_toInt_le, ← Int32.toInt_inj, Int32.reduceToInt, zl1, zl2, zl3, zl4, zl9]; omega) | (subst_vars; assumption))))]; exact k_26), ⟨by rw [ht]; exact hP9, va_K.moved hW.alike hK9, hD9⟩⟩, hS.F ht⟩) hS.2.2 dX5_least_57
        · skip
          have b_29 := b01n k_21 c_23
          (try simp only [Int32.lt_iff_toInt_lt, Int32.le_iff_toInt_le, ← Int32.toInt_inj, Int32.reduceToInt, zl1, zl2, zl3, zl4, zl9] at b_29)
          (try simp only [Int32.reduceToInt] at b_29)
          refine lv_iconst (v := (-1)) hx hb dX5_least_38 (by decide) ?_
          have hP9 : va_P (dC, dI) vwCl (([(h0, .inr (6, [.ref sea, .ref pas, .ref fl, .ref fc, .int xlf, .int xhr, .int xho, .int xga, .int xsg, .int xpr, .int xfa, .long xls])), (pas, .inr (2, [.ref hot, .ref dp])), (hot, .inl (cI, 160, .inl Kh)), (dp, .inl (cZ, 160, .inl Kd)), (sea, .inr (3, [.ref lc, .ref ct, .ref ch])), (ct, .inl (cZ, 12, .inl Ct)), (ch, .inl (cV, 12, .inr (.inr (.inr (.inr (fun i => if i < 12 then some (rr i) else none)))))), (lc, .inl (cZ, 160, .inl Lc))] : va_W) ++ va_pl L f) H := va_P.part (X := [(h0, .inr (6, [.ref sea, .ref pas, .ref fl, .ref fc, .int xlf, .int xhr, .int xho, .int xga, .int xsg, .int xpr, .int xfa, .long xls])), (pas, .inr (2, [.ref hot, .ref dp])), (hot, .inl (cI, 160, .inl Kh)), (dp, .inl (cZ, 160, .inl Kd)), (sea, .inr (3, [.ref lc, .ref ct, .ref ch])), (ct, .inl (cZ, 12, .inl Ct)), (ch, .inl (cV, 12, .inr (.inr (.inr (.inr (fun i => if i < 12 then some (rr i) else none)))))), (lc, .inl (cZ, 160, .inl Lc))]) hP [0, 1, 2, 3, 4, 5, 6, 7] rfl
          have hD9 : va_D A (([(h0, .inr (6, [.ref sea, .ref pas, .ref fl, .ref fc, .int xlf, .int xhr, .int xho, .int xga, .int xsg, .int xpr, .int xfa, .long xls])), (pas, .inr (2, [.ref hot, .ref dp])), (hot, .inl (cI, 160, .inl Kh)), (dp, .inl (cZ, 160, .inl Kd)), (sea, .inr (3, [.ref lc, .ref ct, .ref ch])), (ct, .inl (cZ, 12, .inl Ct)), (ch, .inl (cV, 12, .inr (.inr (.inr (.inr (fun i => if i < 12 then some (rr i) else none)))))), (lc, .inl (cZ, 160, .inl Lc))] : va_W) ++ va_pl L f) := va_D.part (X := [(h0, .inr (6, [.ref sea, .ref pas, .ref fl, .ref fc, .int xlf, .int xhr, .int xho, .int xga, .int xsg, .int xpr, .int xfa, .long xls])), (pas, .inr (2, [.ref hot, .ref dp])), (hot, .inl (cI, 160, .inl Kh)), (dp, .inl (cZ, 160, .inl Kd)), (sea, .inr (3, [.ref lc, .ref ct, .ref ch])), (ct, .inl (cZ, 12, .inl Ct)), (ch, .inl (cV, 12, .inr (.inr (.inr (.inr (fun i => if i < 12 then some (rr i) else none)))))), (lc, .inl (cZ, 160, .inl Lc))]) hD [0, 1, 2, 3, 4, 5, 6, 7] (by decide) rfl
          have hK9 := hK.sub (tys' := [(cZ, .boolean), (cB, .byte), (cI, .int), (cV, .array .byte), (cO, .object "java/lang/Object")]) [0, 1, 2, 3, 4] rfl
          have hv9 : (-1 : Int32).toInt = (-1) := by decide
          exact W.iret (v := (-1)) hx hb hr (fun t ht hW => ⟨⟨(-1), (Kh, Kd), rfl, (by (try dsimp only); rw [if_neg (by (first | omega | ((try simp only [Int32.lt_iff_toInt_lt, Int32.le_iff_toInt_le, ← Int32.toInt_inj, Int32.reduceToInt, zl1, zl2, zl3, zl4, zl9]); (try simp only [Int32.reduceToInt]); omega) | (subst_vars; assumption) | (refine ⟨?_, ?_⟩ <;> first | omega | (simp only [Int32.lt_iff_toInt_lt, Int32.le_iff_toInt_le, ← Int32.toInt_inj, Int32.reduceToInt, zl1, zl2, zl3, zl4, zl9]; omega) | (subst_vars; assumption))))]; decide), ⟨by rw [ht]; exact hP9, va_K.moved hW.alike hK9, hD9⟩⟩, hS.F ht⟩) hS.2.2 dX5_least_39
