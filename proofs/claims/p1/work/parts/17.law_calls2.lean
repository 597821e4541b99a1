set_option maxHeartbeats 4000000 in
set_option maxRecDepth 100000 in
/-- the law's call 15: least -/
theorem law_least {p : Program} {e : Env} {s : State} {m : MethodId} {below : List Frame} {meth : Method} {c : Code} (l : Launch) {b : Nat} {xs : Nat → Int32} (C0 : lw_At p s m meth c b 8 xs) {A : Nat → Prop} (hA : ∀ q, s.heap.size ≤ q → A q) (hAb : ∀ q, A q → s.heap.size ≤ q) {dC : Nat → ClassId} {dI : Nat → Nat → Nat} {h0 sea pas fl fc lc ct ch hot dp m0 mfi mil mic mwi mmo mki mce mgo mwa mha mch mfo mca mor mro mra mpr mho mis mss msc msh te : Nat} {rr : Nat → Nat} {cZ cB cI cV : ClassId} {H : Heap} {locs : List Loc} (hK : va_K (dC, dI) vwCl [(cZ, .boolean), (cB, .byte), (cI, .int), (cV, .array .byte)] s) (hN : NW s) (hZ : Zd te A s s.heap) (hP : va_P (dC, dI) vwCl [(h0, .inr (6, [.ref sea, .ref pas, .ref fl, .ref fc, .int 0, .int 0, .int 0, .int 0, .int 0, .int 100, .int 1, .long 0])), (sea, .inr (3, [.ref lc, .ref ct, .ref ch])), (lc, .inl (cZ, 160, .inl (fun _ => 0))), (ct, .inl (cZ, 12, .inl (fun _ => 0))), (ch, .inl (cV, 12, .inr (.inr (.inr (.inr (fun i => if i < 12 then some (rr i) else none)))))), ((rr 0), .inl (cB, 160, .inl (fun _ => 0))), ((rr 1), .inl (cB, 160, .inl (fun _ => 0))), ((rr 2), .inl (cB, 160, .inl (fun _ => 0))), ((rr 3), .inl (cB, 160, .inl (fun _ => 0))), ((rr 4), .inl (cB, 160, .inl (fun _ => 0))), ((rr 5), .inl (cB, 160, .inl (fun _ => 0))), ((rr 6), .inl (cB, 160, .inl (fun _ => 0))), ((rr 7), .inl (cB, 160, .inl (fun _ => 0))), ((rr 8), .inl (cB, 160, .inl (fun _ => 0))), ((rr 9), .inl (cB, 160, .inl (fun _ => 0))), ((rr 10), .inl (cB, 160, .inl (fun _ => 0))), ((rr 11), .inl (cB, 160, .inl (fun _ => 0))), (pas, .inr (2, [.ref hot, .ref dp])), (hot, .inl (cI, 160, .inl (fun _ => 0))), (dp, .inl (cZ, 160, .inl (fun _ => 0))), (fl, .inr (0, [.int 0, .ref te, .int 0])), (fc, .inl (cI, 6, .inl (fun _ => 0))), (m0, .inr (7, [.int 0, .ref mfi, .long 0, .int 0, .ref mil, .ref mic, .ref mwi, .int 0, .int 0, .ref mmo, .int 0, .ref mki, .ref mce, .ref mgo, .ref mwa, .ref mha, .ref mch, .ref mfo, .ref mca, .ref mor, .ref mro, .ref mra, .ref mpr, .ref mho, .ref mis, .int 0, .ref mss, .ref msc, .ref msh, .int 100, .int 1])), (mfi, .inl (cI, 6, .inl (fun _ => 0))), (mil, .inl (cZ, 160, .inl (fun _ => 0))), (mic, .inl (cZ, 12, .inl (fun _ => 0))), (mwi, .inl (cI, 1920, .inl (fun _ => 0))), (mmo, .inl (cI, 160, .inl (fun _ => 0))), (mki, .inl (cI, 8, .inl (fun _ => 0))), (mce, .inl (cI, 8, .inl (fun _ => 0))), (mgo, .inl (cI, 8, .inl (fun _ => 0))), (mwa, .inl (cI, 8, .inl (fun _ => 0))), (mha, .inl (cI, 8, .inl (fun _ => 0))), (mch, .inl (cI, 8, .inl (fun _ => 0))), (mfo, .inl (cI, 8, .inl (fun _ => 0))), (mca, .inl (cI, 8, .inl (fun _ => 0))), (mor, .inl (cI, 8, .inl (fun _ => 0))), (mro, .inl (cI, 960, .inl (fun _ => 0))), (mra, .inl (cI, 8, .inl (fun _ => 0))), (mpr, .inl (cI, 8, .inl (fun _ => 0))), (mho, .inl (cI, 160, .inl (fun _ => 0))), (mis, .inl (cZ, 160, .inl (fun _ => 0))), (mss, .inl (cI, 60, .inl (fun _ => 0))), (msc, .inl (cI, 60, .inl (fun _ => 0))), (msh, .inl (cI, 60, .inl (fun _ => 0)))] H) (hD : va_D A [(h0, .inr (6, [.ref sea, .ref pas, .ref fl, .ref fc, .int 0, .int 0, .int 0, .int 0, .int 0, .int 100, .int 1, .long 0])), (sea, .inr (3, [.ref lc, .ref ct, .ref ch])), (lc, .inl (cZ, 160, .inl (fun _ => 0))), (ct, .inl (cZ, 12, .inl (fun _ => 0))), (ch, .inl (cV, 12, .inr (.inr (.inr (.inr (fun i => if i < 12 then some (rr i) else none)))))), ((rr 0), .inl (cB, 160, .inl (fun _ => 0))), ((rr 1), .inl (cB, 160, .inl (fun _ => 0))), ((rr 2), .inl (cB, 160, .inl (fun _ => 0))), ((rr 3), .inl (cB, 160, .inl (fun _ => 0))), ((rr 4), .inl (cB, 160, .inl (fun _ => 0))), ((rr 5), .inl (cB, 160, .inl (fun _ => 0))), ((rr 6), .inl (cB, 160, .inl (fun _ => 0))), ((rr 7), .inl (cB, 160, .inl (fun _ => 0))), ((rr 8), .inl (cB, 160, .inl (fun _ => 0))), ((rr 9), .inl (cB, 160, .inl (fun _ => 0))), ((rr 10), .inl (cB, 160, .inl (fun _ => 0))), ((rr 11), .inl (cB, 160, .inl (fun _ => 0))), (pas, .inr (2, [.ref hot, .ref dp])), (hot, .inl (cI, 160, .inl (fun _ => 0))), (dp, .inl (cZ, 160, .inl (fun _ => 0))), (fl, .inr (0, [.int 0, .ref te, .int 0])), (fc, .inl (cI, 6, .inl (fun _ => 0))), (m0, .inr (7, [.int 0, .ref mfi, .long 0, .int 0, .ref mil, .ref mic, .ref mwi, .int 0, .int 0, .ref mmo, .int 0, .ref mki, .ref mce, .ref mgo, .ref mwa, .ref mha, .ref mch, .ref mfo, .ref mca, .ref mor, .ref mro, .ref mra, .ref mpr, .ref mho, .ref mis, .int 0, .ref mss, .ref msc, .ref msh, .int 100, .int 1])), (mfi, .inl (cI, 6, .inl (fun _ => 0))), (mil, .inl (cZ, 160, .inl (fun _ => 0))), (mic, .inl (cZ, 12, .inl (fun _ => 0))), (mwi, .inl (cI, 1920, .inl (fun _ => 0))), (mmo, .inl (cI, 160, .inl (fun _ => 0))), (mki, .inl (cI, 8, .inl (fun _ => 0))), (mce, .inl (cI, 8, .inl (fun _ => 0))), (mgo, .inl (cI, 8, .inl (fun _ => 0))), (mwa, .inl (cI, 8, .inl (fun _ => 0))), (mha, .inl (cI, 8, .inl (fun _ => 0))), (mch, .inl (cI, 8, .inl (fun _ => 0))), (mfo, .inl (cI, 8, .inl (fun _ => 0))), (mca, .inl (cI, 8, .inl (fun _ => 0))), (mor, .inl (cI, 8, .inl (fun _ => 0))), (mro, .inl (cI, 960, .inl (fun _ => 0))), (mra, .inl (cI, 8, .inl (fun _ => 0))), (mpr, .inl (cI, 8, .inl (fun _ => 0))), (mho, .inl (cI, 160, .inl (fun _ => 0))), (mis, .inl (cZ, 160, .inl (fun _ => 0))), (mss, .inl (cI, 60, .inl (fun _ => 0))), (msc, .inl (cI, 60, .inl (fun _ => 0))), (msh, .inl (cI, 60, .inl (fun _ => 0)))]) (hS : va_S A s.heap H locs) (ls : Array Slot) (hl : lv_has ls 4 [(3, .int 0), (2, .ref m0), (1, .ref h0), (0, .ref b)]) : W p l e room_1 s m #[Value.ref b] below meth c H locs 45 6287 (lw_Z below #[Value.ref b] s) (F0 m 739 ls []) := by
  obtain ⟨hx, hb, hr, hml, hown, hts0, hX, hbl, hlocks, hgv⟩ := id C0
  have hb : c.code = cL_law := hb
  have hown : s.vm.findClass RL = some m.cls := hown
  have hts : ∀ w ∈ wsL_law, w.before #[Value.ref b] s = true := fun w hw => hts0 w (wsL_law_in w hw)
  have hbA : ¬ A b := fun h => Nat.not_le.mpr hbl (hAb b h)
  refine lv_aload_n hx hb dL_law_739 rfl (lv_at hl 2 rfl) ?_
  refine lv_aload_n hx hb dL_law_740 rfl (lv_at hl 3 rfl) ?_
  refine lv_iload_n hx hb dL_law_741 rfl (lv_at hl 0 rfl) ?_
  refine lv_iconst (v := 1) hx hb dL_law_742 (by decide) ?_
  refine lv_iadd hx hb dL_law_743 ?_
  refine lv_topi (fun x_1 ex_1 => ?_)
  obtain rfl : x_1 = 1 := ex_1.trans (by decide +kernel)
  refine va_sld hx hb hX hbl hbA hS (vp_in_iff.mpr (by decide +kernel)) dL_law_744 ?_
  refine lv_topi (fun y1_2 ey1_2 => ?_)
  refine lv_aload_n hx hb dL_law_745 rfl (lv_at hl 3 rfl) ?_
  refine lv_iload_n hx hb dL_law_746 rfl (lv_at hl 0 rfl) ?_
  refine lv_iconst (v := 2) hx hb dL_law_747 (by decide) ?_
  refine lv_iadd hx hb dL_law_748 ?_
  refine lv_topi (fun x_3 ex_3 => ?_)
  obtain rfl : x_3 = 2 := ex_3.trans (by decide +kernel)
  refine va_sld hx hb hX hbl hbA hS (vp_in_iff.mpr (by decide +kernel)) dL_law_749 ?_
  refine lv_topi (fun y2_4 ey2_4 => ?_)
  refine lv_aload_n hx hb dL_law_750 rfl (lv_at hl 3 rfl) ?_
  refine lv_iload_n hx hb dL_law_751 rfl (lv_at hl 0 rfl) ?_
  refine lv_iconst (v := 3) hx hb dL_law_752 (by decide) ?_
  refine lv_iadd hx hb dL_law_753 ?_
  refine lv_topi (fun x_5 ex_5 => ?_)
  obtain rfl : x_5 = 3 := ex_5.trans (by decide +kernel)
  refine va_sld hx hb hX hbl hbA hS (vp_in_iff.mpr (by decide +kernel)) dL_law_754 ?_
  refine lv_topi (fun y3_6 ey3_6 => ?_)
  refine lv_aload_n hx hb dL_law_755 rfl (lv_at hl 3 rfl) ?_
  refine lv_iload_n hx hb dL_law_756 rfl (lv_at hl 0 rfl) ?_
  refine lv_iconst (v := 4) hx hb dL_law_757 (by decide) ?_
  refine lv_iadd hx hb dL_law_758 ?_
  refine lv_topi (fun x_7 ex_7 => ?_)
  obtain rfl : x_7 = 4 := ex_7.trans (by decide +kernel)
  refine va_sld hx hb hX hbl hbA hS (vp_in_iff.mpr (by decide +kernel)) dL_law_759 ?_
  refine lv_topi (fun y4_8 ey4_8 => ?_)
  have hPc := hP.sub (ws' := [(h0, .inr (6, [.ref sea, .ref pas, .ref fl, .ref fc, .int 0, .int 0, .int 0, .int 0, .int 0, .int 100, .int 1, .long 0])), (fl, .inr (0, [.int 0, .ref te, .int 0]))]) [0, 20] rfl
  have hKc := hK.sub (tys' := []) [] rfl
  refine va_calli (va_runV (As := [.int y1_2, .int y2_4, .int y3_6, .int y4_8]) (rest := []) ⟨hx, hb, hml, hown, hts⟩ (c_X5_least l dC dI H.size h0 sea pas fl fc te y1_2 y2_4 y3_6 y4_8 ) (cwV 4 hts gL_law_X5_least rfl rfl rfl (by decide +kernel) ⟨Nat.le_of_ble_eq_true rfl, Nat.le_of_ble_eq_true rfl⟩) ⟨fun a U g mk q => by obtain ⟨q0, q1, qP, qK, qN⟩ := q; exact ⟨q0, q1, qP, va_K.moved (u := U) (U := U.calling g mk a) (Vm.Alike.refl U.vm) qK, NW.same (u := U) (U := U.calling g mk a) rfl qN⟩, va_recv hKc hPc (ci := 6) (q0 := 0) rfl rfl, fun U hU hW => ⟨rfl, by rw [hU], by rw [hU]; exact hPc, va_K.moved hW.alike hKc, NW.warm hW hN⟩⟩ rfl rfl hl.1 rfl (lv_room (Nat.le_of_ble_eq_true rfl)) dL_law_760 ⟨Nat.le_of_ble_eq_true rfl, Nat.le_of_ble_eq_true rfl⟩) hS (fun q _ h => ro_A hS hA q h) (ro_A hS hA) (fun r_9 u t H1 locs ht hvm k_10 hB hz1 hk1 hS => ?_)
  have hP := ro_P hk1 hP
  generalize H1 = H at hP hS ⊢
  try dsimp only at k_10
  obtain rfl : r_9 = (-1) := k_10
  refine lv_aload_n hx hb dL_law_763 rfl (lv_at hl 1 rfl) ?_
  refine lv_aload_n hx hb dL_law_764 rfl (lv_at hl 3 rfl) ?_
  refine lv_iload_n hx hb dL_law_765 rfl (lv_at hl 0 rfl) ?_
  refine lv_iconst (v := 1) hx hb dL_law_766 (by decide) ?_
  refine lv_iadd hx hb dL_law_767 ?_
  refine lv_topi (fun x_11 ex_11 => ?_)
  obtain rfl : x_11 = 1 := ex_11.trans (by decide +kernel)
  refine va_sld hx hb hX hbl hbA hS (vp_in_iff.mpr (by decide +kernel)) dL_law_768 ?_
  refine lv_topi (fun y1_12 ey1_12 => ?_)
  obtain rfl : y1_2 = y1_12 := ey1_2.trans ey1_12.symm
  refine lv_aload_n hx hb dL_law_769 rfl (lv_at hl 3 rfl) ?_
  refine lv_iload_n hx hb dL_law_770 rfl (lv_at hl 0 rfl) ?_
  refine lv_iconst (v := 2) hx hb dL_law_771 (by decide) ?_
  refine lv_iadd hx hb dL_law_772 ?_
  refine lv_topi (fun x_13 ex_13 => ?_)
  obtain rfl : x_13 = 2 := ex_13.trans (by decide +kernel)
  refine va_sld hx hb hX hbl hbA hS (vp_in_iff.mpr (by decide +kernel)) dL_law_773 ?_
  refine lv_topi (fun y2_14 ey2_14 => ?_)
  obtain rfl : y2_4 = y2_14 := ey2_4.trans ey2_14.symm
  refine lv_aload_n hx hb dL_law_774 rfl (lv_at hl 3 rfl) ?_
  refine lv_iload_n hx hb dL_law_775 rfl (lv_at hl 0 rfl) ?_
  refine lv_iconst (v := 3) hx hb dL_law_776 (by decide) ?_
  refine lv_iadd hx hb dL_law_777 ?_
  refine lv_topi (fun x_15 ex_15 => ?_)
  obtain rfl : x_15 = 3 := ex_15.trans (by decide +kernel)
  refine va_sld hx hb hX hbl hbA hS (vp_in_iff.mpr (by decide +kernel)) dL_law_778 ?_
  refine lv_topi (fun y3_16 ey3_16 => ?_)
  obtain rfl : y3_6 = y3_16 := ey3_6.trans ey3_16.symm
  refine lv_aload_n hx hb dL_law_779 rfl (lv_at hl 3 rfl) ?_
  refine lv_iload_n hx hb dL_law_780 rfl (lv_at hl 0 rfl) ?_
  refine lv_iconst (v := 4) hx hb dL_law_781 (by decide) ?_
  refine lv_iadd hx hb dL_law_782 ?_
  refine lv_topi (fun x_17 ex_17 => ?_)
  obtain rfl : x_17 = 4 := ex_17.trans (by decide +kernel)
  refine va_sld hx hb hX hbl hbA hS (vp_in_iff.mpr (by decide +kernel)) dL_law_783 ?_
  refine lv_topi (fun y4_18 ey4_18 => ?_)
  obtain rfl : y4_8 = y4_18 := ey4_8.trans ey4_18.symm
  have hPc := hP.sub (ws' := [(m0, .inr (7, [.int 0, .ref mfi, .long 0, .int 0, .ref mil, .ref mic, .ref mwi, .int 0, .int 0, .ref mmo, .int 0, .ref mki, .ref mce, .ref mgo, .ref mwa, .ref mha, .ref mch, .ref mfo, .ref mca, .ref mor, .ref mro, .ref mra, .ref mpr, .ref mho, .ref mis, .int 0, .ref mss, .ref msc, .ref msh, .int 100, .int 1]))]) [22] rfl
  have hKc := hK.sub (tys' := []) [] rfl
  refine va_calli (va_runV (As := [.int y1_2, .int y2_4, .int y3_6, .int y4_8]) (rest := [.int (-1)]) ⟨hx, hb, hml, hown, hts⟩ (c_X6_least l dC dI H.size m0 mfi mil mic mwi mmo mki mce mgo mwa mha mch mfo mca mor mro mra mpr mho mis mss msc msh y1_2 y2_4 y3_6 y4_8 ) (cwV 4 hts gL_law_X6_least rfl rfl rfl (by decide +kernel) ⟨Nat.le_of_ble_eq_true rfl, Nat.le_of_ble_eq_true rfl⟩) ⟨fun a U g mk q => by obtain ⟨q0, q1, qP, qK, qN⟩ := q; exact ⟨q0, q1, qP, va_K.moved (u := U) (U := U.calling g mk a) (Vm.Alike.refl U.vm) qK, NW.same (u := U) (U := U.calling g mk a) rfl qN⟩, va_recv hKc hPc (ci := 7) (q0 := 0) rfl rfl, fun U hU hW => ⟨rfl, by rw [hU], by rw [hU]; exact hPc, va_K.moved hW.alike hKc, NW.warm hW hN⟩⟩ rfl rfl hl.1 rfl (lv_room (Nat.le_of_ble_eq_true rfl)) dL_law_784 ⟨Nat.le_of_ble_eq_true rfl, Nat.le_of_ble_eq_true rfl⟩) hS (fun q _ h => ro_A hS hA q h) (ro_A hS hA) (fun r_19 u t H1 locs ht hvm k_20 hB hz1 hk1 hS => ?_)
  have hP := ro_P hk1 hP
  generalize H1 = H at hP hS ⊢
  try dsimp only at k_20
  obtain rfl : r_19 = (-1) := k_20
  refine lv_icmp_eq (tgt := 1159) hx hb dL_law_787 (by decide) (fun c_21 => ?_) (fun c_21 => ?_)
  · skip
    exact law_end l C0 hAb (Nat.le_of_ble_eq_true rfl) (Nat.le_of_ble_eq_true rfl) hS ls (lv_sub hl [0, 3, 2, 1] rfl)
  · skip
    exact absurd (by decide) c_21
set_option maxHeartbeats 4000000 in
set_option maxRecDepth 100000 in
/-- the law's call 16: sight -/
theorem law_sight {p : Program} {e : Env} {s : State} {m : MethodId} {below : List Frame} {meth : Method} {c : Code} (l : Launch) {b : Nat} {xs : Nat → Int32} (C0 : lw_At p s m meth c b 8 xs) {A : Nat → Prop} (hA : ∀ q, s.heap.size ≤ q → A q) (hAb : ∀ q, A q → s.heap.size ≤ q) {dC : Nat → ClassId} {dI : Nat → Nat → Nat} {h0 sea pas fl fc lc ct ch hot dp m0 mfi mil mic mwi mmo mki mce mgo mwa mha mch mfo mca mor mro mra mpr mho mis mss msc msh te : Nat} {rr : Nat → Nat} {cZ cB cI cV : ClassId} {H : Heap} {locs : List Loc} (hK : va_K (dC, dI) vwCl [(cZ, .boolean), (cB, .byte), (cI, .int), (cV, .array .byte)] s) (hN : NW s) (hZ : Zd te A s s.heap) (hP : va_P (dC, dI) vwCl [(h0, .inr (6, [.ref sea, .ref pas, .ref fl, .ref fc, .int 0, .int 0, .int 0, .int 0, .int 0, .int 100, .int 1, .long 0])), (sea, .inr (3, [.ref lc, .ref ct, .ref ch])), (lc, .inl (cZ, 160, .inl (fun _ => 0))), (ct, .inl (cZ, 12, .inl (fun _ => 0))), (ch, .inl (cV, 12, .inr (.inr (.inr (.inr (fun i => if i < 12 then some (rr i) else none)))))), ((rr 0), .inl (cB, 160, .inl (fun _ => 0))), ((rr 1), .inl (cB, 160, .inl (fun _ => 0))), ((rr 2), .inl (cB, 160, .inl (fun _ => 0))), ((rr 3), .inl (cB, 160, .inl (fun _ => 0))), ((rr 4), .inl (cB, 160, .inl (fun _ => 0))), ((rr 5), .inl (cB, 160, .inl (fun _ => 0))), ((rr 6), .inl (cB, 160, .inl (fun _ => 0))), ((rr 7), .inl (cB, 160, .inl (fun _ => 0))), ((rr 8), .inl (cB, 160, .inl (fun _ => 0))), ((rr 9), .inl (cB, 160, .inl (fun _ => 0))), ((rr 10), .inl (cB, 160, .inl (fun _ => 0))), ((rr 11), .inl (cB, 160, .inl (fun _ => 0))), (pas, .inr (2, [.ref hot, .ref dp])), (hot, .inl (cI, 160, .inl (fun _ => 0))), (dp, .inl (cZ, 160, .inl (fun _ => 0))), (fl, .inr (0, [.int 0, .ref te, .int 0])), (fc, .inl (cI, 6, .inl (fun _ => 0))), (m0, .inr (7, [.int 0, .ref mfi, .long 0, .int 0, .ref mil, .ref mic, .ref mwi, .int 0, .int 0, .ref mmo, .int 0, .ref mki, .ref mce, .ref mgo, .ref mwa, .ref mha, .ref mch, .ref mfo, .ref mca, .ref mor, .ref mro, .ref mra, .ref mpr, .ref mho, .ref mis, .int 0, .ref mss, .ref msc, .ref msh, .int 100, .int 1])), (mfi, .inl (cI, 6, .inl (fun _ => 0))), (mil, .inl (cZ, 160, .inl (fun _ => 0))), (mic, .inl (cZ, 12, .inl (fun _ => 0))), (mwi, .inl (cI, 1920, .inl (fun _ => 0))), (mmo, .inl (cI, 160, .inl (fun _ => 0))), (mki, .inl (cI, 8, .inl (fun _ => 0))), (mce, .inl (cI, 8, .inl (fun _ => 0))), (mgo, .inl (cI, 8, .inl (fun _ => 0))), (mwa, .inl (cI, 8, .inl (fun _ => 0))), (mha, .inl (cI, 8, .inl (fun _ => 0))), (mch, .inl (cI, 8, .inl (fun _ => 0))), (mfo, .inl (cI, 8, .inl (fun _ => 0))), (mca, .inl (cI, 8, .inl (fun _ => 0))), (mor, .inl (cI, 8, .inl (fun _ => 0))), (mro, .inl (cI, 960, .inl (fun _ => 0))), (mra, .inl (cI, 8, .inl (fun _ => 0))), (mpr, .inl (cI, 8, .inl (fun _ => 0))), (mho, .inl (cI, 160, .inl (fun _ => 0))), (mis, .inl (cZ, 160, .inl (fun _ => 0))), (mss, .inl (cI, 60, .inl (fun _ => 0))), (msc, .inl (cI, 60, .inl (fun _ => 0))), (msh, .inl (cI, 60, .inl (fun _ => 0)))] H) (hD : va_D A [(h0, .inr (6, [.ref sea, .ref pas, .ref fl, .ref fc, .int 0, .int 0, .int 0, .int 0, .int 0, .int 100, .int 1, .long 0])), (sea, .inr (3, [.ref lc, .ref ct, .ref ch])), (lc, .inl (cZ, 160, .inl (fun _ => 0))), (ct, .inl (cZ, 12, .inl (fun _ => 0))), (ch, .inl (cV, 12, .inr (.inr (.inr (.inr (fun i => if i < 12 then some (rr i) else none)))))), ((rr 0), .inl (cB, 160, .inl (fun _ => 0))), ((rr 1), .inl (cB, 160, .inl (fun _ => 0))), ((rr 2), .inl (cB, 160, .inl (fun _ => 0))), ((rr 3), .inl (cB, 160, .inl (fun _ => 0))), ((rr 4), .inl (cB, 160, .inl (fun _ => 0))), ((rr 5), .inl (cB, 160, .inl (fun _ => 0))), ((rr 6), .inl (cB, 160, .inl (fun _ => 0))), ((rr 7), .inl (cB, 160, .inl (fun _ => 0))), ((rr 8), .inl (cB, 160, .inl (fun _ => 0))), ((rr 9), .inl (cB, 160, .inl (fun _ => 0))), ((rr 10), .inl (cB, 160, .inl (fun _ => 0))), ((rr 11), .inl (cB, 160, .inl (fun _ => 0))), (pas, .inr (2, [.ref hot, .ref dp])), (hot, .inl (cI, 160, .inl (fun _ => 0))), (dp, .inl (cZ, 160, .inl (fun _ => 0))), (fl, .inr (0, [.int 0, .ref te, .int 0])), (fc, .inl (cI, 6, .inl (fun _ => 0))), (m0, .inr (7, [.int 0, .ref mfi, .long 0, .int 0, .ref mil, .ref mic, .ref mwi, .int 0, .int 0, .ref mmo, .int 0, .ref mki, .ref mce, .ref mgo, .ref mwa, .ref mha, .ref mch, .ref mfo, .ref mca, .ref mor, .ref mro, .ref mra, .ref mpr, .ref mho, .ref mis, .int 0, .ref mss, .ref msc, .ref msh, .int 100, .int 1])), (mfi, .inl (cI, 6, .inl (fun _ => 0))), (mil, .inl (cZ, 160, .inl (fun _ => 0))), (mic, .inl (cZ, 12, .inl (fun _ => 0))), (mwi, .inl (cI, 1920, .inl (fun _ => 0))), (mmo, .inl (cI, 160, .inl (fun _ => 0))), (mki, .inl (cI, 8, .inl (fun _ => 0))), (mce, .inl (cI, 8, .inl (fun _ => 0))), (mgo, .inl (cI, 8, .inl (fun _ => 0))), (mwa, .inl (cI, 8, .inl (fun _ => 0))), (mha, .inl (cI, 8, .inl (fun _ => 0))), (mch, .inl (cI, 8, .inl (fun _ => 0))), (mfo, .inl (cI, 8, .inl (fun _ => 0))), (mca, .inl (cI, 8, .inl (fun _ => 0))), (mor, .inl (cI, 8, .inl (fun _ => 0))), (mro, .inl (cI, 960, .inl (fun _ => 0))), (mra, .inl (cI, 8, .inl (fun _ => 0))), (mpr, .inl (cI, 8, .inl (fun _ => 0))), (mho, .inl (cI, 160, .inl (fun _ => 0))), (mis, .inl (cZ, 160, .inl (fun _ => 0))), (mss, .inl (cI, 60, .inl (fun _ => 0))), (msc, .inl (cI, 60, .inl (fun _ => 0))), (msh, .inl (cI, 60, .inl (fun _ => 0)))]) (hS : va_S A s.heap H locs) (ls : Array Slot) (hl : lv_has ls 4 [(3, .int 0), (2, .ref m0), (1, .ref h0), (0, .ref b)]) : W p l e room_1 s m #[Value.ref b] below meth c H locs 45 6287 (lw_Z below #[Value.ref b] s) (F0 m 792 ls []) := by
  obtain ⟨hx, hb, hr, hml, hown, hts0, hX, hbl, hlocks, hgv⟩ := id C0
  have hb : c.code = cL_law := hb
  have hown : s.vm.findClass RL = some m.cls := hown
  have hts : ∀ w ∈ wsL_law, w.before #[Value.ref b] s = true := fun w hw => hts0 w (wsL_law_in w hw)
  have hbA : ¬ A b := fun h => Nat.not_le.mpr hbl (hAb b h)
  refine lv_aload_n hx hb dL_law_792 rfl (lv_at hl 2 rfl) ?_
  refine lv_aload_n hx hb dL_law_793 rfl (lv_at hl 3 rfl) ?_
  refine lv_iload_n hx hb dL_law_794 rfl (lv_at hl 0 rfl) ?_
  refine lv_iconst (v := 1) hx hb dL_law_795 (by decide) ?_
  refine lv_iadd hx hb dL_law_796 ?_
  refine lv_topi (fun x_1 ex_1 => ?_)
  obtain rfl : x_1 = 1 := ex_1.trans (by decide +kernel)
  refine va_sld hx hb hX hbl hbA hS (vp_in_iff.mpr (by decide +kernel)) dL_law_797 ?_
  refine lv_topi (fun y1_2 ey1_2 => ?_)
  refine lv_aload_n hx hb dL_law_798 rfl (lv_at hl 3 rfl) ?_
  refine lv_iload_n hx hb dL_law_799 rfl (lv_at hl 0 rfl) ?_
  refine lv_iconst (v := 2) hx hb dL_law_800 (by decide) ?_
  refine lv_iadd hx hb dL_law_801 ?_
  refine lv_topi (fun x_3 ex_3 => ?_)
  obtain rfl : x_3 = 2 := ex_3.trans (by decide +kernel)
  refine va_sld hx hb hX hbl hbA hS (vp_in_iff.mpr (by decide +kernel)) dL_law_802 ?_
  refine lv_topi (fun y2_4 ey2_4 => ?_)
  refine lv_aload_n hx hb dL_law_803 rfl (lv_at hl 3 rfl) ?_
  refine lv_iload_n hx hb dL_law_804 rfl (lv_at hl 0 rfl) ?_
  refine lv_iconst (v := 3) hx hb dL_law_805 (by decide) ?_
  refine lv_iadd hx hb dL_law_806 ?_
  refine lv_topi (fun x_5 ex_5 => ?_)
  obtain rfl : x_5 = 3 := ex_5.trans (by decide +kernel)
  refine va_sld hx hb hX hbl hbA hS (vp_in_iff.mpr (by decide +kernel)) dL_law_807 ?_
  refine lv_topi (fun y3_6 ey3_6 => ?_)
  have hPc := hP.sub (ws' := [(h0, .inr (6, [.ref sea, .ref pas, .ref fl, .ref fc, .int 0, .int 0, .int 0, .int 0, .int 0, .int 100, .int 1, .long 0])), (fl, .inr (0, [.int 0, .ref te, .int 0]))]) [0, 20] rfl
  have hKc := hK.sub (tys' := []) [] rfl
  refine va_calli (va_runV (As := [.int y1_2, .int y2_4, .int y3_6]) (rest := []) ⟨hx, hb, hml, hown, hts⟩ (c_X5_sight l dC dI H.size h0 sea pas fl fc te y1_2 y2_4 y3_6 ) (cwV 3 hts gL_law_X5_sight rfl rfl rfl (by decide +kernel) ⟨Nat.le_of_ble_eq_true rfl, Nat.le_of_ble_eq_true rfl⟩) ⟨fun a U g mk q => by obtain ⟨q0, q1, qP, qK, qN⟩ := q; exact ⟨q0, q1, qP, va_K.moved (u := U) (U := U.calling g mk a) (Vm.Alike.refl U.vm) qK, NW.same (u := U) (U := U.calling g mk a) rfl qN⟩, va_recv hKc hPc (ci := 6) (q0 := 0) rfl rfl, fun U hU hW => ⟨rfl, by rw [hU], by rw [hU]; exact hPc, va_K.moved hW.alike hKc, NW.warm hW hN⟩⟩ rfl rfl hl.1 rfl (lv_room (Nat.le_of_ble_eq_true rfl)) dL_law_808 ⟨Nat.le_of_ble_eq_true rfl, Nat.le_of_ble_eq_true rfl⟩) hS (fun q _ h => ro_A hS hA q h) (ro_A hS hA) (fun r_7 u t H1 locs ht hvm k_8 hB hz1 hk1 hS => ?_)
  have hP := ro_P hk1 hP
  generalize H1 = H at hP hS ⊢
  try dsimp only at k_8
  obtain rfl : r_7 = (-1) := k_8
  refine lv_aload_n hx hb dL_law_811 rfl (lv_at hl 1 rfl) ?_
  refine lv_aload_n hx hb dL_law_812 rfl (lv_at hl 3 rfl) ?_
  refine lv_iload_n hx hb dL_law_813 rfl (lv_at hl 0 rfl) ?_
  refine lv_iconst (v := 1) hx hb dL_law_814 (by decide) ?_
  refine lv_iadd hx hb dL_law_815 ?_
  refine lv_topi (fun x_9 ex_9 => ?_)
  obtain rfl : x_9 = 1 := ex_9.trans (by decide +kernel)
  refine va_sld hx hb hX hbl hbA hS (vp_in_iff.mpr (by decide +kernel)) dL_law_816 ?_
  refine lv_topi (fun y1_10 ey1_10 => ?_)
  obtain rfl : y1_2 = y1_10 := ey1_2.trans ey1_10.symm
  refine lv_aload_n hx hb dL_law_817 rfl (lv_at hl 3 rfl) ?_
  refine lv_iload_n hx hb dL_law_818 rfl (lv_at hl 0 rfl) ?_
  refine lv_iconst (v := 2) hx hb dL_law_819 (by decide) ?_
  refine lv_iadd hx hb dL_law_820 ?_
  refine lv_topi (fun x_11 ex_11 => ?_)
  obtain rfl : x_11 = 2 := ex_11.trans (by decide +kernel)
  refine va_sld hx hb hX hbl hbA hS (vp_in_iff.mpr (by decide +kernel)) dL_law_821 ?_
  refine lv_topi (fun y2_12 ey2_12 => ?_)
  obtain rfl : y2_4 = y2_12 := ey2_4.trans ey2_12.symm
  refine lv_aload_n hx hb dL_law_822 rfl (lv_at hl 3 rfl) ?_
  refine lv_iload_n hx hb dL_law_823 rfl (lv_at hl 0 rfl) ?_
  refine lv_iconst (v := 3) hx hb dL_law_824 (by decide) ?_
  refine lv_iadd hx hb dL_law_825 ?_
  refine lv_topi (fun x_13 ex_13 => ?_)
  obtain rfl : x_13 = 3 := ex_13.trans (by decide +kernel)
  refine va_sld hx hb hX hbl hbA hS (vp_in_iff.mpr (by decide +kernel)) dL_law_826 ?_
  refine lv_topi (fun y3_14 ey3_14 => ?_)
  obtain rfl : y3_6 = y3_14 := ey3_6.trans ey3_14.symm
  have hPc := hP.sub (ws' := [(m0, .inr (7, [.int 0, .ref mfi, .long 0, .int 0, .ref mil, .ref mic, .ref mwi, .int 0, .int 0, .ref mmo, .int 0, .ref mki, .ref mce, .ref mgo, .ref mwa, .ref mha, .ref mch, .ref mfo, .ref mca, .ref mor, .ref mro, .ref mra, .ref mpr, .ref mho, .ref mis, .int 0, .ref mss, .ref msc, .ref msh, .int 100, .int 1]))]) [22] rfl
  have hKc := hK.sub (tys' := []) [] rfl
  refine va_calli (va_runV (As := [.int y1_2, .int y2_4, .int y3_6]) (rest := [.int (-1)]) ⟨hx, hb, hml, hown, hts⟩ (c_X6_sight l dC dI H.size m0 mfi mil mic mwi mmo mki mce mgo mwa mha mch mfo mca mor mro mra mpr mho mis mss msc msh y1_2 y2_4 y3_6 ) (cwV 3 hts gL_law_X6_sight rfl rfl rfl (by decide +kernel) ⟨Nat.le_of_ble_eq_true rfl, Nat.le_of_ble_eq_true rfl⟩) ⟨fun a U g mk q => by obtain ⟨q0, q1, qP, qK, qN⟩ := q; exact ⟨q0, q1, qP, va_K.moved (u := U) (U := U.calling g mk a) (Vm.Alike.refl U.vm) qK, NW.same (u := U) (U := U.calling g mk a) rfl qN⟩, va_recv hKc hPc (ci := 7) (q0 := 0) rfl rfl, fun U hU hW => ⟨rfl, by rw [hU], by rw [hU]; exact hPc, va_K.moved hW.alike hKc, NW.warm hW hN⟩⟩ rfl rfl hl.1 rfl (lv_room (Nat.le_of_ble_eq_true rfl)) dL_law_827 ⟨Nat.le_of_ble_eq_true rfl, Nat.le_of_ble_eq_true rfl⟩) hS (fun q _ h => ro_A hS hA q h) (ro_A hS hA) (fun r_15 u t H1 locs ht hvm k_16 hB hz1 hk1 hS => ?_)
  have hP := ro_P hk1 hP
  generalize H1 = H at hP hS ⊢
  try dsimp only at k_16
  obtain rfl : r_15 = (-1) := k_16
  refine lv_icmp_eq (tgt := 1159) hx hb dL_law_830 (by decide) (fun c_17 => ?_) (fun c_17 => ?_)
  · skip
    exact law_end l C0 hAb (Nat.le_of_ble_eq_true rfl) (Nat.le_of_ble_eq_true rfl) hS ls (lv_sub hl [0, 3, 2, 1] rfl)
  · skip
    exact absurd (by decide) c_17
set_option maxHeartbeats 4000000 in
set_option maxRecDepth 100000 in
/-- the law's call 17: distance -/
theorem law_distance {p : Program} {e : Env} {s : State} {m : MethodId} {below : List Frame} {meth : Method} {c : Code} (l : Launch) {b : Nat} {xs : Nat → Int32} (C0 : lw_At p s m meth c b 8 xs) {A : Nat → Prop} (hA : ∀ q, s.heap.size ≤ q → A q) (hAb : ∀ q, A q → s.heap.size ≤ q) {dC : Nat → ClassId} {dI : Nat → Nat → Nat} {h0 sea pas fl fc lc ct ch hot dp m0 mfi mil mic mwi mmo mki mce mgo mwa mha mch mfo mca mor mro mra mpr mho mis mss msc msh te : Nat} {rr : Nat → Nat} {cZ cB cI cV : ClassId} {H : Heap} {locs : List Loc} (hK : va_K (dC, dI) vwCl [(cZ, .boolean), (cB, .byte), (cI, .int), (cV, .array .byte)] s) (hN : NW s) (hZ : Zd te A s s.heap) (hP : va_P (dC, dI) vwCl [(h0, .inr (6, [.ref sea, .ref pas, .ref fl, .ref fc, .int 0, .int 0, .int 0, .int 0, .int 0, .int 100, .int 1, .long 0])), (sea, .inr (3, [.ref lc, .ref ct, .ref ch])), (lc, .inl (cZ, 160, .inl (fun _ => 0))), (ct, .inl (cZ, 12, .inl (fun _ => 0))), (ch, .inl (cV, 12, .inr (.inr (.inr (.inr (fun i => if i < 12 then some (rr i) else none)))))), ((rr 0), .inl (cB, 160, .inl (fun _ => 0))), ((rr 1), .inl (cB, 160, .inl (fun _ => 0))), ((rr 2), .inl (cB, 160, .inl (fun _ => 0))), ((rr 3), .inl (cB, 160, .inl (fun _ => 0))), ((rr 4), .inl (cB, 160, .inl (fun _ => 0))), ((rr 5), .inl (cB, 160, .inl (fun _ => 0))), ((rr 6), .inl (cB, 160, .inl (fun _ => 0))), ((rr 7), .inl (cB, 160, .inl (fun _ => 0))), ((rr 8), .inl (cB, 160, .inl (fun _ => 0))), ((rr 9), .inl (cB, 160, .inl (fun _ => 0))), ((rr 10), .inl (cB, 160, .inl (fun _ => 0))), ((rr 11), .inl (cB, 160, .inl (fun _ => 0))), (pas, .inr (2, [.ref hot, .ref dp])), (hot, .inl (cI, 160, .inl (fun _ => 0))), (dp, .inl (cZ, 160, .inl (fun _ => 0))), (fl, .inr (0, [.int 0, .ref te, .int 0])), (fc, .inl (cI, 6, .inl (fun _ => 0))), (m0, .inr (7, [.int 0, .ref mfi, .long 0, .int 0, .ref mil, .ref mic, .ref mwi, .int 0, .int 0, .ref mmo, .int 0, .ref mki, .ref mce, .ref mgo, .ref mwa, .ref mha, .ref mch, .ref mfo, .ref mca, .ref mor, .ref mro, .ref mra, .ref mpr, .ref mho, .ref mis, .int 0, .ref mss, .ref msc, .ref msh, .int 100, .int 1])), (mfi, .inl (cI, 6, .inl (fun _ => 0))), (mil, .inl (cZ, 160, .inl (fun _ => 0))), (mic, .inl (cZ, 12, .inl (fun _ => 0))), (mwi, .inl (cI, 1920, .inl (fun _ => 0))), (mmo, .inl (cI, 160, .inl (fun _ => 0))), (mki, .inl (cI, 8, .inl (fun _ => 0))), (mce, .inl (cI, 8, .inl (fun _ => 0))), (mgo, .inl (cI, 8, .inl (fun _ => 0))), (mwa, .inl (cI, 8, .inl (fun _ => 0))), (mha, .inl (cI, 8, .inl (fun _ => 0))), (mch, .inl (cI, 8, .inl (fun _ => 0))), (mfo, .inl (cI, 8, .inl (fun _ => 0))), (mca, .inl (cI, 8, .inl (fun _ => 0))), (mor, .inl (cI, 8, .inl (fun _ => 0))), (mro, .inl (cI, 960, .inl (fun _ => 0))), (mra, .inl (cI, 8, .inl (fun _ => 0))), (mpr, .inl (cI, 8, .inl (fun _ => 0))), (mho, .inl (cI, 160, .inl (fun _ => 0))), (mis, .inl (cZ, 160, .inl (fun _ => 0))), (mss, .inl (cI, 60, .inl (fun _ => 0))), (msc, .inl (cI, 60, .inl (fun _ => 0))), (msh, .inl (cI, 60, .inl (fun _ => 0)))] H) (hD : va_D A [(h0, .inr (6, [.ref sea, .ref pas, .ref fl, .ref fc, .int 0, .int 0, .int 0, .int 0, .int 0, .int 100, .int 1, .long 0])), (sea, .inr (3, [.ref lc, .ref ct, .ref ch])), (lc, .inl (cZ, 160, .inl (fun _ => 0))), (ct, .inl (cZ, 12, .inl (fun _ => 0))), (ch, .inl (cV, 12, .inr (.inr (.inr (.inr (fun i => if i < 12 then some (rr i) else none)))))), ((rr 0), .inl (cB, 160, .inl (fun _ => 0))), ((rr 1), .inl (cB, 160, .inl (fun _ => 0))), ((rr 2), .inl (cB, 160, .inl (fun _ => 0))), ((rr 3), .inl (cB, 160, .inl (fun _ => 0))), ((rr 4), .inl (cB, 160, .inl (fun _ => 0))), ((rr 5), .inl (cB, 160, .inl (fun _ => 0))), ((rr 6), .inl (cB, 160, .inl (fun _ => 0))), ((rr 7), .inl (cB, 160, .inl (fun _ => 0))), ((rr 8), .inl (cB, 160, .inl (fun _ => 0))), ((rr 9), .inl (cB, 160, .inl (fun _ => 0))), ((rr 10), .inl (cB, 160, .inl (fun _ => 0))), ((rr 11), .inl (cB, 160, .inl (fun _ => 0))), (pas, .inr (2, [.ref hot, .ref dp])), (hot, .inl (cI, 160, .inl (fun _ => 0))), (dp, .inl (cZ, 160, .inl (fun _ => 0))), (fl, .inr (0, [.int 0, .ref te, .int 0])), (fc, .inl (cI, 6, .inl (fun _ => 0))), (m0, .inr (7, [.int 0, .ref mfi, .long 0, .int 0, .ref mil, .ref mic, .ref mwi, .int 0, .int 0, .ref mmo, .int 0, .ref mki, .ref mce, .ref mgo, .ref mwa, .ref mha, .ref mch, .ref mfo, .ref mca, .ref mor, .ref mro, .ref mra, .ref mpr, .ref mho, .ref mis, .int 0, .ref mss, .ref msc, .ref msh, .int 100, .int 1])), (mfi, .inl (cI, 6, .inl (fun _ => 0))), (mil, .inl (cZ, 160, .inl (fun _ => 0))), (mic, .inl (cZ, 12, .inl (fun _ => 0))), (mwi, .inl (cI, 1920, .inl (fun _ => 0))), (mmo, .inl (cI, 160, .inl (fun _ => 0))), (mki, .inl (cI, 8, .inl (fun _ => 0))), (mce, .inl (cI, 8, .inl (fun _ => 0))), (mgo, .inl (cI, 8, .inl (fun _ => 0))), (mwa, .inl (cI, 8, .inl (fun _ => 0))), (mha, .inl (cI, 8, .inl (fun _ => 0))), (mch, .inl (cI, 8, .inl (fun _ => 0))), (mfo, .inl (cI, 8, .inl (fun _ => 0))), (mca, .inl (cI, 8, .inl (fun _ => 0))), (mor, .inl (cI, 8, .inl (fun _ => 0))), (mro, .inl (cI, 960, .inl (fun _ => 0))), (mra, .inl (cI, 8, .inl (fun _ => 0))), (mpr, .inl (cI, 8, .inl (fun _ => 0))), (mho, .inl (cI, 160, .inl (fun _ => 0))), (mis, .inl (cZ, 160, .inl (fun _ => 0))), (mss, .inl (cI, 60, .inl (fun _ => 0))), (msc, .inl (cI, 60, .inl (fun _ => 0))), (msh, .inl (cI, 60, .inl (fun _ => 0)))]) (hS : va_S A s.heap H locs) (ls : Array Slot) (hl : lv_has ls 4 [(3, .int 0), (2, .ref m0), (1, .ref h0), (0, .ref b)]) : W p l e room_1 s m #[Value.ref b] below meth c H locs 45 6287 (lw_Z below #[Value.ref b] s) (F0 m 835 ls []) := by
  obtain ⟨hx, hb, hr, hml, hown, hts0, hX, hbl, hlocks, hgv⟩ := id C0
  have hb : c.code = cL_law := hb
  have hown : s.vm.findClass RL = some m.cls := hown
  have hts : ∀ w ∈ wsL_law, w.before #[Value.ref b] s = true := fun w hw => hts0 w (wsL_law_in w hw)
  have hbA : ¬ A b := fun h => Nat.not_le.mpr hbl (hAb b h)
  refine lv_aload_n hx hb dL_law_835 rfl (lv_at hl 2 rfl) ?_
  refine lv_aload_n hx hb dL_law_836 rfl (lv_at hl 3 rfl) ?_
  refine lv_iload_n hx hb dL_law_837 rfl (lv_at hl 0 rfl) ?_
  refine lv_iconst (v := 1) hx hb dL_law_838 (by decide) ?_
  refine lv_iadd hx hb dL_law_839 ?_
  refine lv_topi (fun x_1 ex_1 => ?_)
  obtain rfl : x_1 = 1 := ex_1.trans (by decide +kernel)
  refine va_sld hx hb hX hbl hbA hS (vp_in_iff.mpr (by decide +kernel)) dL_law_840 ?_
  refine lv_topi (fun y1_2 ey1_2 => ?_)
  refine lv_aload_n hx hb dL_law_841 rfl (lv_at hl 3 rfl) ?_
  refine lv_iload_n hx hb dL_law_842 rfl (lv_at hl 0 rfl) ?_
  refine lv_iconst (v := 2) hx hb dL_law_843 (by decide) ?_
  refine lv_iadd hx hb dL_law_844 ?_
  refine lv_topi (fun x_3 ex_3 => ?_)
  obtain rfl : x_3 = 2 := ex_3.trans (by decide +kernel)
  refine va_sld hx hb hX hbl hbA hS (vp_in_iff.mpr (by decide +kernel)) dL_law_845 ?_
  refine lv_topi (fun y2_4 ey2_4 => ?_)
  refine lv_aload_n hx hb dL_law_846 rfl (lv_at hl 3 rfl) ?_
  refine lv_iload_n hx hb dL_law_847 rfl (lv_at hl 0 rfl) ?_
  refine lv_iconst (v := 3) hx hb dL_law_848 (by decide) ?_
  refine lv_iadd hx hb dL_law_849 ?_
  refine lv_topi (fun x_5 ex_5 => ?_)
  obtain rfl : x_5 = 3 := ex_5.trans (by decide +kernel)
  refine va_sld hx hb hX hbl hbA hS (vp_in_iff.mpr (by decide +kernel)) dL_law_850 ?_
  refine lv_topi (fun y3_6 ey3_6 => ?_)
  refine lv_if_eq (tgt := 858) hx hb dL_law_851 (by decide) (fun c_7 => ?_) (fun c_7 => ?_)
  · skip
    refine lv_iconst (v := 0) hx hb dL_law_858 (by decide) ?_
    have hPc := hP.sub (ws' := [(h0, .inr (6, [.ref sea, .ref pas, .ref fl, .ref fc, .int 0, .int 0, .int 0, .int 0, .int 0, .int 100, .int 1, .long 0])), (fl, .inr (0, [.int 0, .ref te, .int 0]))]) [0, 20] rfl
    have hKc := hK.sub (tys' := []) [] rfl
    refine va_calli (va_runV (As := [.int y1_2, .int y2_4, .int 0]) (rest := []) ⟨hx, hb, hml, hown, hts⟩ (c_X5_distance l dC dI H.size h0 sea pas fl fc te y1_2 y2_4 0 ) (cwV 3 hts gL_law_X5_distance rfl rfl rfl (by decide +kernel) ⟨Nat.le_of_ble_eq_true rfl, Nat.le_of_ble_eq_true rfl⟩) ⟨fun a U g mk q => by obtain ⟨q0, q1, qP, qK, qN⟩ := q; exact ⟨q0, q1, qP, va_K.moved (u := U) (U := U.calling g mk a) (Vm.Alike.refl U.vm) qK, NW.same (u := U) (U := U.calling g mk a) rfl qN⟩, va_recv hKc hPc (ci := 6) (q0 := 0) rfl rfl, fun U hU hW => ⟨rfl, by rw [hU], by rw [hU]; exact hPc, va_K.moved hW.alike hKc, NW.warm hW hN⟩⟩ rfl rfl hl.1 rfl (lv_room (Nat.le_of_ble_eq_true rfl)) dL_law_859 ⟨Nat.le_of_ble_eq_true rfl, Nat.le_of_ble_eq_true rfl⟩) hS (fun q _ h => ro_A hS hA q h) (ro_A hS hA) (fun r_8 u t H1 locs ht hvm k_9 hB hz1 hk1 hS => ?_)
    have hP := ro_P hk1 hP
    generalize H1 = H at hP hS ⊢
    try dsimp only at k_9
    obtain rfl : r_8 = (-1) := k_9
    refine lv_aload_n hx hb dL_law_862 rfl (lv_at hl 1 rfl) ?_
    refine lv_aload_n hx hb dL_law_863 rfl (lv_at hl 3 rfl) ?_
    refine lv_iload_n hx hb dL_law_864 rfl (lv_at hl 0 rfl) ?_
    refine lv_iconst (v := 1) hx hb dL_law_865 (by decide) ?_
    refine lv_iadd hx hb dL_law_866 ?_
    refine lv_topi (fun x_10 ex_10 => ?_)
    obtain rfl : x_10 = 1 := ex_10.trans (by decide +kernel)
    refine va_sld hx hb hX hbl hbA hS (vp_in_iff.mpr (by decide +kernel)) dL_law_867 ?_
    refine lv_topi (fun y1_11 ey1_11 => ?_)
    obtain rfl : y1_2 = y1_11 := ey1_2.trans ey1_11.symm
    refine lv_aload_n hx hb dL_law_868 rfl (lv_at hl 3 rfl) ?_
    refine lv_iload_n hx hb dL_law_869 rfl (lv_at hl 0 rfl) ?_
    refine lv_iconst (v := 2) hx hb dL_law_870 (by decide) ?_
    refine lv_iadd hx hb dL_law_871 ?_
    refine lv_topi (fun x_12 ex_12 => ?_)
    obtain rfl : x_12 = 2 := ex_12.trans (by decide +kernel)
    refine va_sld hx hb hX hbl hbA hS (vp_in_iff.mpr (by decide +kernel)) dL_law_872 ?_
    refine lv_topi (fun y2_13 ey2_13 => ?_)
    obtain rfl : y2_4 = y2_13 := ey2_4.trans ey2_13.symm
    refine lv_aload_n hx hb dL_law_873 rfl (lv_at hl 3 rfl) ?_
    refine lv_iload_n hx hb dL_law_874 rfl (lv_at hl 0 rfl) ?_
    refine lv_iconst (v := 3) hx hb dL_law_875 (by decide) ?_
    refine lv_iadd hx hb dL_law_876 ?_
    refine lv_topi (fun x_14 ex_14 => ?_)
    obtain rfl : x_14 = 3 := ex_14.trans (by decide +kernel)
    refine va_sld hx hb hX hbl hbA hS (vp_in_iff.mpr (by decide +kernel)) dL_law_877 ?_
    refine lv_topi (fun y3_15 ey3_15 => ?_)
    obtain rfl : y3_6 = y3_15 := ey3_6.trans ey3_15.symm
    refine lv_if_eq (tgt := 885) hx hb dL_law_878 (by decide) (fun c_16 => ?_) (fun c_16 => ?_)
    · skip
      refine lv_iconst (v := 0) hx hb dL_law_885 (by decide) ?_
      have hPc := hP.sub (ws' := [(m0, .inr (7, [.int 0, .ref mfi, .long 0, .int 0, .ref mil, .ref mic, .ref mwi, .int 0, .int 0, .ref mmo, .int 0, .ref mki, .ref mce, .ref mgo, .ref mwa, .ref mha, .ref mch, .ref mfo, .ref mca, .ref mor, .ref mro, .ref mra, .ref mpr, .ref mho, .ref mis, .int 0, .ref mss, .ref msc, .ref msh, .int 100, .int 1]))]) [22] rfl
      have hKc := hK.sub (tys' := []) [] rfl
      refine va_calli (va_runV (As := [.int y1_2, .int y2_4, .int 0]) (rest := [.int (-1)]) ⟨hx, hb, hml, hown, hts⟩ (c_X6_distance l dC dI H.size m0 mfi mil mic mwi mmo mki mce mgo mwa mha mch mfo mca mor mro mra mpr mho mis mss msc msh y1_2 y2_4 0 ) (cwV 3 hts gL_law_X6_distance rfl rfl rfl (by decide +kernel) ⟨Nat.le_of_ble_eq_true rfl, Nat.le_of_ble_eq_true rfl⟩) ⟨fun a U g mk q => by obtain ⟨q0, q1, qP, qK, qN⟩ := q; exact ⟨q0, q1, qP, va_K.moved (u := U) (U := U.calling g mk a) (Vm.Alike.refl U.vm) qK, NW.same (u := U) (U := U.calling g mk a) rfl qN⟩, va_recv hKc hPc (ci := 7) (q0 := 0) rfl rfl, fun U hU hW => ⟨rfl, by rw [hU], by rw [hU]; exact hPc, va_K.moved hW.alike hKc, NW.warm hW hN⟩⟩ rfl rfl hl.1 rfl (lv_room (Nat.le_of_ble_eq_true rfl)) dL_law_886 ⟨Nat.le_of_ble_eq_true rfl, Nat.le_of_ble_eq_true rfl⟩) hS (fun q _ h => ro_A hS hA q h) (ro_A hS hA) (fun r_17 u t H1 locs ht hvm k_18 hB hz1 hk1 hS => ?_)
      have hP := ro_P hk1 hP
      generalize H1 = H at hP hS ⊢
      try dsimp only at k_18
      obtain rfl : r_17 = (-1) := k_18
      refine lv_icmp_eq (tgt := 1159) hx hb dL_law_889 (by decide) (fun c_19 => ?_) (fun c_19 => ?_)
      · skip
        exact law_end l C0 hAb (Nat.le_of_ble_eq_true rfl) (Nat.le_of_ble_eq_true rfl) hS ls (lv_sub hl [0, 3, 2, 1] rfl)
      · skip
        exact absurd (by decide) c_19
    · skip
      refine lv_iconst (v := 1) hx hb dL_law_881 (by decide) ?_
      refine lv_goto (tgt := 886) hx hb dL_law_882 (by decide) ?_
      have hPc := hP.sub (ws' := [(m0, .inr (7, [.int 0, .ref mfi, .long 0, .int 0, .ref mil, .ref mic, .ref mwi, .int 0, .int 0, .ref mmo, .int 0, .ref mki, .ref mce, .ref mgo, .ref mwa, .ref mha, .ref mch, .ref mfo, .ref mca, .ref mor, .ref mro, .ref mra, .ref mpr, .ref mho, .ref mis, .int 0, .ref mss, .ref msc, .ref msh, .int 100, .int 1]))]) [22] rfl
      have hKc := hK.sub (tys' := []) [] rfl
      refine va_calli (va_runV (As := [.int y1_2, .int y2_4, .int 1]) (rest := [.int (-1)]) ⟨hx, hb, hml, hown, hts⟩ (c_X6_distance l dC dI H.size m0 mfi mil mic mwi mmo mki mce mgo mwa mha mch mfo mca mor mro mra mpr mho mis mss msc msh y1_2 y2_4 1 ) (cwV 3 hts gL_law_X6_distance rfl rfl rfl (by decide +kernel) ⟨Nat.le_of_ble_eq_true rfl, Nat.le_of_ble_eq_true rfl⟩) ⟨fun a U g mk q => by obtain ⟨q0, q1, qP, qK, qN⟩ := q; exact ⟨q0, q1, qP, va_K.moved (u := U) (U := U.calling g mk a) (Vm.Alike.refl U.vm) qK, NW.same (u := U) (U := U.calling g mk a) rfl qN⟩, va_recv hKc hPc (ci := 7) (q0 := 0) rfl rfl, fun U hU hW => ⟨rfl, by rw [hU], by rw [hU]; exact hPc, va_K.moved hW.alike hKc, NW.warm hW hN⟩⟩ rfl rfl hl.1 rfl (lv_room (Nat.le_of_ble_eq_true rfl)) dL_law_886 ⟨Nat.le_of_ble_eq_true rfl, Nat.le_of_ble_eq_true rfl⟩) hS (fun q _ h => ro_A hS hA q h) (ro_A hS hA) (fun r_20 u t H1 locs ht hvm k_21 hB hz1 hk1 hS => ?_)
      have hP := ro_P hk1 hP
      generalize H1 = H at hP hS ⊢
      try dsimp only at k_21
      obtain rfl : r_20 = (-1) := k_21
      refine lv_icmp_eq (tgt := 1159) hx hb dL_law_889 (by decide) (fun c_22 => ?_) (fun c_22 => ?_)
      · skip
        exact law_end l C0 hAb (Nat.le_of_ble_eq_true rfl) (Nat.le_of_ble_eq_true rfl) hS ls (lv_sub hl [0, 3, 2, 1] rfl)
      · skip
        exact absurd (by decide) c_22
  · skip
    refine lv_iconst (v := 1) hx hb dL_law_854 (by decide) ?_
    refine lv_goto (tgt := 859) hx hb dL_law_855 (by decide) ?_
    have hPc := hP.sub (ws' := [(h0, .inr (6, [.ref sea, .ref pas, .ref fl, .ref fc, .int 0, .int 0, .int 0, .int 0, .int 0, .int 100, .int 1, .long 0])), (fl, .inr (0, [.int 0, .ref te, .int 0]))]) [0, 20] rfl
    have hKc := hK.sub (tys' := []) [] rfl
    refine va_calli (va_runV (As := [.int y1_2, .int y2_4, .int 1]) (rest := []) ⟨hx, hb, hml, hown, hts⟩ (c_X5_distance l dC dI H.size h0 sea pas fl fc te y1_2 y2_4 1 ) (cwV 3 hts gL_law_X5_distance rfl rfl rfl (by decide +kernel) ⟨Nat.le_of_ble_eq_true rfl, Nat.le_of_ble_eq_true rfl⟩) ⟨fun a U g mk q => by obtain ⟨q0, q1, qP, qK, qN⟩ := q; exact ⟨q0, q1, qP, va_K.moved (u := U) (U := U.calling g mk a) (Vm.Alike.refl U.vm) qK, NW.same (u := U) (U := U.calling g mk a) rfl qN⟩, va_recv hKc hPc (ci := 6) (q0 := 0) rfl rfl, fun U hU hW => ⟨rfl, by rw [hU], by rw [hU]; exact hPc, va_K.moved hW.alike hKc, NW.warm hW hN⟩⟩ rfl rfl hl.1 rfl (lv_room (Nat.le_of_ble_eq_true rfl)) dL_law_859 ⟨Nat.le_of_ble_eq_true rfl, Nat.le_of_ble_eq_true rfl⟩) hS (fun q _ h => ro_A hS hA q h) (ro_A hS hA) (fun r_23 u t H1 locs ht hvm k_24 hB hz1 hk1 hS => ?_)
    have hP := ro_P hk1 hP
    generalize H1 = H at hP hS ⊢
    try dsimp only at k_24
    obtain rfl : r_23 = (-1) := k_24
    refine lv_aload_n hx hb dL_law_862 rfl (lv_at hl 1 rfl) ?_
    refine lv_aload_n hx hb dL_law_863 rfl (lv_at hl 3 rfl) ?_
    refine lv_iload_n hx hb dL_law_864 rfl (lv_at hl 0 rfl) ?_
    refine lv_iconst (v := 1) hx hb dL_law_865 (by decide) ?_
    refine lv_iadd hx hb dL_law_866 ?_
    refine lv_topi (fun x_25 ex_25 => ?_)
    obtain rfl : x_25 = 1 := ex_25.trans (by decide +kernel)
    refine va_sld hx hb hX hbl hbA hS (vp_in_iff.mpr (by decide +kernel)) dL_law_867 ?_
    refine lv_topi (fun y1_26 ey1_26 => ?_)
    obtain rfl : y1_2 = y1_26 := ey1_2.trans ey1_26.symm
    refine lv_aload_n hx hb dL_law_868 rfl (lv_at hl 3 rfl) ?_
    refine lv_iload_n hx hb dL_law_869 rfl (lv_at hl 0 rfl) ?_
    refine lv_iconst (v := 2) hx hb dL_law_870 (by decide) ?_
    refine lv_iadd hx hb dL_law_871 ?_
    refine lv_topi (fun x_27 ex_27 => ?_)
    obtain rfl : x_27 = 2 := ex_27.trans (by decide +kernel)
    refine va_sld hx hb hX hbl hbA hS (vp_in_iff.mpr (by decide +kernel)) dL_law_872 ?_
    refine lv_topi (fun y2_28 ey2_28 => ?_)
    obtain rfl : y2_4 = y2_28 := ey2_4.trans ey2_28.symm
    refine lv_aload_n hx hb dL_law_873 rfl (lv_at hl 3 rfl) ?_
    refine lv_iload_n hx hb dL_law_874 rfl (lv_at hl 0 rfl) ?_
    refine lv_iconst (v := 3) hx hb dL_law_875 (by decide) ?_
    refine lv_iadd hx hb dL_law_876 ?_
    refine lv_topi (fun x_29 ex_29 => ?_)
    obtain rfl : x_29 = 3 := ex_29.trans (by decide +kernel)
    refine va_sld hx hb hX hbl hbA hS (vp_in_iff.mpr (by decide +kernel)) dL_law_877 ?_
    refine lv_topi (fun y3_30 ey3_30 => ?_)
    obtain rfl : y3_6 = y3_30 := ey3_6.trans ey3_30.symm
    refine lv_if_eq (tgt := 885) hx hb dL_law_878 (by decide) (fun c_31 => ?_) (fun c_31 => ?_)
    · skip
      refine lv_iconst (v := 0) hx hb dL_law_885 (by decide) ?_
      have hPc := hP.sub (ws' := [(m0, .inr (7, [.int 0, .ref mfi, .long 0, .int 0, .ref mil, .ref mic, .ref mwi, .int 0, .int 0, .ref mmo, .int 0, .ref mki, .ref mce, .ref mgo, .ref mwa, .ref mha, .ref mch, .ref mfo, .ref mca, .ref mor, .ref mro, .ref mra, .ref mpr, .ref mho, .ref mis, .int 0, .ref mss, .ref msc, .ref msh, .int 100, .int 1]))]) [22] rfl
      have hKc := hK.sub (tys' := []) [] rfl
      refine va_calli (va_runV (As := [.int y1_2, .int y2_4, .int 0]) (rest := [.int (-1)]) ⟨hx, hb, hml, hown, hts⟩ (c_X6_distance l dC dI H.size m0 mfi mil mic mwi mmo mki mce mgo mwa mha mch mfo mca mor mro mra mpr mho mis mss msc msh y1_2 y2_4 0 ) (cwV 3 hts gL_law_X6_distance rfl rfl rfl (by decide +kernel) ⟨Nat.le_of_ble_eq_true rfl, Nat.le_of_ble_eq_true rfl⟩) ⟨fun a U g mk q => by obtain ⟨q0, q1, qP, qK, qN⟩ := q; exact ⟨q0, q1, qP, va_K.moved (u := U) (U := U.calling g mk a) (Vm.Alike.refl U.vm) qK, NW.same (u := U) (U := U.calling g mk a) rfl qN⟩, va_recv hKc hPc (ci := 7) (q0 := 0) rfl rfl, fun U hU hW => ⟨rfl, by rw [hU], by rw [hU]; exact hPc, va_K.moved hW.alike hKc, NW.warm hW hN⟩⟩ rfl rfl hl.1 rfl (lv_room (Nat.le_of_ble_eq_true rfl)) dL_law_886 ⟨Nat.le_of_ble_eq_true rfl, Nat.le_of_ble_eq_true rfl⟩) hS (fun q _ h => ro_A hS hA q h) (ro_A hS hA) (fun r_32 u t H1 locs ht hvm k_33 hB hz1 hk1 hS => ?_)
      have hP := ro_P hk1 hP
      generalize H1 = H at hP hS ⊢
      try dsimp only at k_33
      obtain rfl : r_32 = (-1) := k_33
      refine lv_icmp_eq (tgt := 1159) hx hb dL_law_889 (by decide) (fun c_34 => ?_) (fun c_34 => ?_)
      · skip
        exact law_end l C0 hAb (Nat.le_of_ble_eq_true rfl) (Nat.le_of_ble_eq_true rfl) hS ls (lv_sub hl [0, 3, 2, 1] rfl)
      · skip
        exact absurd (by decide) c_34
    · skip
      refine lv_iconst (v := 1) hx hb dL_law_881 (by decide) ?_
      refine lv_goto (tgt := 886) hx hb dL_law_882 (by decide) ?_
      have hPc := hP.sub (ws' := [(m0, .inr (7, [.int 0, .ref mfi, .long 0, .int 0, .ref mil, .ref mic, .ref mwi, .int 0, .int 0, .ref mmo, .int 0, .ref mki, .ref mce, .ref mgo, .ref mwa, .ref mha, .ref mch, .ref mfo, .ref mca, .ref mor, .ref mro, .ref mra, .ref mpr, .ref mho, .ref mis, .int 0, .ref mss, .ref msc, .ref msh, .int 100, .int 1]))]) [22] rfl
      have hKc := hK.sub (tys' := []) [] rfl
      refine va_calli (va_runV (As := [.int y1_2, .int y2_4, .int 1]) (rest := [.int (-1)]) ⟨hx, hb, hml, hown, hts⟩ (c_X6_distance l dC dI H.size m0 mfi mil mic mwi mmo mki mce mgo mwa mha mch mfo mca mor mro mra mpr mho mis mss msc msh y1_2 y2_4 1 ) (cwV 3 hts gL_law_X6_distance rfl rfl rfl (by decide +kernel) ⟨Nat.le_of_ble_eq_true rfl, Nat.le_of_ble_eq_true rfl⟩) ⟨fun a U g mk q => by obtain ⟨q0, q1, qP, qK, qN⟩ := q; exact ⟨q0, q1, qP, va_K.moved (u := U) (U := U.calling g mk a) (Vm.Alike.refl U.vm) qK, NW.same (u := U) (U := U.calling g mk a) rfl qN⟩, va_recv hKc hPc (ci := 7) (q0 := 0) rfl rfl, fun U hU hW => ⟨rfl, by rw [hU], by rw [hU]; exact hPc, va_K.moved hW.alike hKc, NW.warm hW hN⟩⟩ rfl rfl hl.1 rfl (lv_room (Nat.le_of_ble_eq_true rfl)) dL_law_886 ⟨Nat.le_of_ble_eq_true rfl, Nat.le_of_ble_eq_true rfl⟩) hS (fun q _ h => ro_A hS hA q h) (ro_A hS hA) (fun r_35 u t H1 locs ht hvm k_36 hB hz1 hk1 hS => ?_)
      have hP := ro_P hk1 hP
      generalize H1 = H at hP hS ⊢
      try dsimp only at k_36
      obtain rfl : r_35 = (-1) := k_36
      refine lv_icmp_eq (tgt := 1159) hx hb dL_law_889 (by decide) (fun c_37 => ?_) (fun c_37 => ?_)
      · skip
        exact law_end l C0 hAb (Nat.le_of_ble_eq_true rfl) (Nat.le_of_ble_eq_true rfl) hS ls (lv_sub hl [0, 3, 2, 1] rfl)
      · skip
        exact absurd (by decide) c_37
set_option maxHeartbeats 4000000 in
set_option maxRecDepth 100000 in
/-- the law's call 18: ahead -/
theorem law_ahead {p : Program} {e : Env} {s : State} {m : MethodId} {below : List Frame} {meth : Method} {c : Code} (l : Launch) {b : Nat} {xs : Nat → Int32} (C0 : lw_At p s m meth c b 8 xs) {A : Nat → Prop} (hA : ∀ q, s.heap.size ≤ q → A q) (hAb : ∀ q, A q → s.heap.size ≤ q) {dC : Nat → ClassId} {dI : Nat → Nat → Nat} {h0 sea pas fl fc lc ct ch hot dp m0 mfi mil mic mwi mmo mki mce mgo mwa mha mch mfo mca mor mro mra mpr mho mis mss msc msh te : Nat} {rr : Nat → Nat} {cZ cB cI cV : ClassId} {H : Heap} {locs : List Loc} (hK : va_K (dC, dI) vwCl [(cZ, .boolean), (cB, .byte), (cI, .int), (cV, .array .byte)] s) (hN : NW s) (hZ : Zd te A s s.heap) (hP : va_P (dC, dI) vwCl [(h0, .inr (6, [.ref sea, .ref pas, .ref fl, .ref fc, .int 0, .int 0, .int 0, .int 0, .int 0, .int 100, .int 1, .long 0])), (sea, .inr (3, [.ref lc, .ref ct, .ref ch])), (lc, .inl (cZ, 160, .inl (fun _ => 0))), (ct, .inl (cZ, 12, .inl (fun _ => 0))), (ch, .inl (cV, 12, .inr (.inr (.inr (.inr (fun i => if i < 12 then some (rr i) else none)))))), ((rr 0), .inl (cB, 160, .inl (fun _ => 0))), ((rr 1), .inl (cB, 160, .inl (fun _ => 0))), ((rr 2), .inl (cB, 160, .inl (fun _ => 0))), ((rr 3), .inl (cB, 160, .inl (fun _ => 0))), ((rr 4), .inl (cB, 160, .inl (fun _ => 0))), ((rr 5), .inl (cB, 160, .inl (fun _ => 0))), ((rr 6), .inl (cB, 160, .inl (fun _ => 0))), ((rr 7), .inl (cB, 160, .inl (fun _ => 0))), ((rr 8), .inl (cB, 160, .inl (fun _ => 0))), ((rr 9), .inl (cB, 160, .inl (fun _ => 0))), ((rr 10), .inl (cB, 160, .inl (fun _ => 0))), ((rr 11), .inl (cB, 160, .inl (fun _ => 0))), (pas, .inr (2, [.ref hot, .ref dp])), (hot, .inl (cI, 160, .inl (fun _ => 0))), (dp, .inl (cZ, 160, .inl (fun _ => 0))), (fl, .inr (0, [.int 0, .ref te, .int 0])), (fc, .inl (cI, 6, .inl (fun _ => 0))), (m0, .inr (7, [.int 0, .ref mfi, .long 0, .int 0, .ref mil, .ref mic, .ref mwi, .int 0, .int 0, .ref mmo, .int 0, .ref mki, .ref mce, .ref mgo, .ref mwa, .ref mha, .ref mch, .ref mfo, .ref mca, .ref mor, .ref mro, .ref mra, .ref mpr, .ref mho, .ref mis, .int 0, .ref mss, .ref msc, .ref msh, .int 100, .int 1])), (mfi, .inl (cI, 6, .inl (fun _ => 0))), (mil, .inl (cZ, 160, .inl (fun _ => 0))), (mic, .inl (cZ, 12, .inl (fun _ => 0))), (mwi, .inl (cI, 1920, .inl (fun _ => 0))), (mmo, .inl (cI, 160, .inl (fun _ => 0))), (mki, .inl (cI, 8, .inl (fun _ => 0))), (mce, .inl (cI, 8, .inl (fun _ => 0))), (mgo, .inl (cI, 8, .inl (fun _ => 0))), (mwa, .inl (cI, 8, .inl (fun _ => 0))), (mha, .inl (cI, 8, .inl (fun _ => 0))), (mch, .inl (cI, 8, .inl (fun _ => 0))), (mfo, .inl (cI, 8, .inl (fun _ => 0))), (mca, .inl (cI, 8, .inl (fun _ => 0))), (mor, .inl (cI, 8, .inl (fun _ => 0))), (mro, .inl (cI, 960, .inl (fun _ => 0))), (mra, .inl (cI, 8, .inl (fun _ => 0))), (mpr, .inl (cI, 8, .inl (fun _ => 0))), (mho, .inl (cI, 160, .inl (fun _ => 0))), (mis, .inl (cZ, 160, .inl (fun _ => 0))), (mss, .inl (cI, 60, .inl (fun _ => 0))), (msc, .inl (cI, 60, .inl (fun _ => 0))), (msh, .inl (cI, 60, .inl (fun _ => 0)))] H) (hD : va_D A [(h0, .inr (6, [.ref sea, .ref pas, .ref fl, .ref fc, .int 0, .int 0, .int 0, .int 0, .int 0, .int 100, .int 1, .long 0])), (sea, .inr (3, [.ref lc, .ref ct, .ref ch])), (lc, .inl (cZ, 160, .inl (fun _ => 0))), (ct, .inl (cZ, 12, .inl (fun _ => 0))), (ch, .inl (cV, 12, .inr (.inr (.inr (.inr (fun i => if i < 12 then some (rr i) else none)))))), ((rr 0), .inl (cB, 160, .inl (fun _ => 0))), ((rr 1), .inl (cB, 160, .inl (fun _ => 0))), ((rr 2), .inl (cB, 160, .inl (fun _ => 0))), ((rr 3), .inl (cB, 160, .inl (fun _ => 0))), ((rr 4), .inl (cB, 160, .inl (fun _ => 0))), ((rr 5), .inl (cB, 160, .inl (fun _ => 0))), ((rr 6), .inl (cB, 160, .inl (fun _ => 0))), ((rr 7), .inl (cB, 160, .inl (fun _ => 0))), ((rr 8), .inl (cB, 160, .inl (fun _ => 0))), ((rr 9), .inl (cB, 160, .inl (fun _ => 0))), ((rr 10), .inl (cB, 160, .inl (fun _ => 0))), ((rr 11), .inl (cB, 160, .inl (fun _ => 0))), (pas, .inr (2, [.ref hot, .ref dp])), (hot, .inl (cI, 160, .inl (fun _ => 0))), (dp, .inl (cZ, 160, .inl (fun _ => 0))), (fl, .inr (0, [.int 0, .ref te, .int 0])), (fc, .inl (cI, 6, .inl (fun _ => 0))), (m0, .inr (7, [.int 0, .ref mfi, .long 0, .int 0, .ref mil, .ref mic, .ref mwi, .int 0, .int 0, .ref mmo, .int 0, .ref mki, .ref mce, .ref mgo, .ref mwa, .ref mha, .ref mch, .ref mfo, .ref mca, .ref mor, .ref mro, .ref mra, .ref mpr, .ref mho, .ref mis, .int 0, .ref mss, .ref msc, .ref msh, .int 100, .int 1])), (mfi, .inl (cI, 6, .inl (fun _ => 0))), (mil, .inl (cZ, 160, .inl (fun _ => 0))), (mic, .inl (cZ, 12, .inl (fun _ => 0))), (mwi, .inl (cI, 1920, .inl (fun _ => 0))), (mmo, .inl (cI, 160, .inl (fun _ => 0))), (mki, .inl (cI, 8, .inl (fun _ => 0))), (mce, .inl (cI, 8, .inl (fun _ => 0))), (mgo, .inl (cI, 8, .inl (fun _ => 0))), (mwa, .inl (cI, 8, .inl (fun _ => 0))), (mha, .inl (cI, 8, .inl (fun _ => 0))), (mch, .inl (cI, 8, .inl (fun _ => 0))), (mfo, .inl (cI, 8, .inl (fun _ => 0))), (mca, .inl (cI, 8, .inl (fun _ => 0))), (mor, .inl (cI, 8, .inl (fun _ => 0))), (mro, .inl (cI, 960, .inl (fun _ => 0))), (mra, .inl (cI, 8, .inl (fun _ => 0))), (mpr, .inl (cI, 8, .inl (fun _ => 0))), (mho, .inl (cI, 160, .inl (fun _ => 0))), (mis, .inl (cZ, 160, .inl (fun _ => 0))), (mss, .inl (cI, 60, .inl (fun _ => 0))), (msc, .inl (cI, 60, .inl (fun _ => 0))), (msh, .inl (cI, 60, .inl (fun _ => 0)))]) (hS : va_S A s.heap H locs) (ls : Array Slot) (hl : lv_has ls 4 [(3, .int 0), (2, .ref m0), (1, .ref h0), (0, .ref b)]) : W p l e room_1 s m #[Value.ref b] below meth c H locs 45 6287 (lw_Z below #[Value.ref b] s) (F0 m 894 ls []) := by
  obtain ⟨hx, hb, hr, hml, hown, hts0, hX, hbl, hlocks, hgv⟩ := id C0
  have hb : c.code = cL_law := hb
  have hown : s.vm.findClass RL = some m.cls := hown
  have hts : ∀ w ∈ wsL_law, w.before #[Value.ref b] s = true := fun w hw => hts0 w (wsL_law_in w hw)
  have hbA : ¬ A b := fun h => Nat.not_le.mpr hbl (hAb b h)
  refine lv_aload_n hx hb dL_law_894 rfl (lv_at hl 2 rfl) ?_
  refine lv_aload_n hx hb dL_law_895 rfl (lv_at hl 3 rfl) ?_
  refine lv_iload_n hx hb dL_law_896 rfl (lv_at hl 0 rfl) ?_
  refine lv_iconst (v := 1) hx hb dL_law_897 (by decide) ?_
  refine lv_iadd hx hb dL_law_898 ?_
  refine lv_topi (fun x_1 ex_1 => ?_)
  obtain rfl : x_1 = 1 := ex_1.trans (by decide +kernel)
  refine va_sld hx hb hX hbl hbA hS (vp_in_iff.mpr (by decide +kernel)) dL_law_899 ?_
  refine lv_topi (fun y1_2 ey1_2 => ?_)
  refine lv_aload_n hx hb dL_law_900 rfl (lv_at hl 3 rfl) ?_
  refine lv_iload_n hx hb dL_law_901 rfl (lv_at hl 0 rfl) ?_
  refine lv_iconst (v := 2) hx hb dL_law_902 (by decide) ?_
  refine lv_iadd hx hb dL_law_903 ?_
  refine lv_topi (fun x_3 ex_3 => ?_)
  obtain rfl : x_3 = 2 := ex_3.trans (by decide +kernel)
  refine va_sld hx hb hX hbl hbA hS (vp_in_iff.mpr (by decide +kernel)) dL_law_904 ?_
  refine lv_topi (fun y2_4 ey2_4 => ?_)
  refine lv_aload_n hx hb dL_law_905 rfl (lv_at hl 3 rfl) ?_
  refine lv_iload_n hx hb dL_law_906 rfl (lv_at hl 0 rfl) ?_
  refine lv_iconst (v := 3) hx hb dL_law_907 (by decide) ?_
  refine lv_iadd hx hb dL_law_908 ?_
  refine lv_topi (fun x_5 ex_5 => ?_)
  obtain rfl : x_5 = 3 := ex_5.trans (by decide +kernel)
  refine va_sld hx hb hX hbl hbA hS (vp_in_iff.mpr (by decide +kernel)) dL_law_909 ?_
  refine lv_topi (fun y3_6 ey3_6 => ?_)
  have hPc := hP.sub (ws' := [(h0, .inr (6, [.ref sea, .ref pas, .ref fl, .ref fc, .int 0, .int 0, .int 0, .int 0, .int 0, .int 100, .int 1, .long 0])), (fl, .inr (0, [.int 0, .ref te, .int 0]))]) [0, 20] rfl
  have hKc := hK.sub (tys' := []) [] rfl
  refine va_calli (va_runV (As := [.int y1_2, .int y2_4, .int y3_6]) (rest := []) ⟨hx, hb, hml, hown, hts⟩ (c_X5_ahead l dC dI H.size h0 sea pas fl fc te y1_2 y2_4 y3_6 ) (cwV 3 hts gL_law_X5_ahead rfl rfl rfl (by decide +kernel) ⟨Nat.le_of_ble_eq_true rfl, Nat.le_of_ble_eq_true rfl⟩) ⟨fun a U g mk q => by obtain ⟨q0, q1, qP, qK, qN⟩ := q; exact ⟨q0, q1, qP, va_K.moved (u := U) (U := U.calling g mk a) (Vm.Alike.refl U.vm) qK, NW.same (u := U) (U := U.calling g mk a) rfl qN⟩, va_recv hKc hPc (ci := 6) (q0 := 0) rfl rfl, fun U hU hW => ⟨rfl, by rw [hU], by rw [hU]; exact hPc, va_K.moved hW.alike hKc, NW.warm hW hN⟩⟩ rfl rfl hl.1 rfl (lv_room (Nat.le_of_ble_eq_true rfl)) dL_law_910 ⟨Nat.le_of_ble_eq_true rfl, Nat.le_of_ble_eq_true rfl⟩) hS (fun q _ h => ro_A hS hA q h) (ro_A hS hA) (fun r_7 u t H1 locs ht hvm k_8 hB hz1 hk1 hS => ?_)
  have hP := ro_P hk1 hP
  generalize H1 = H at hP hS ⊢
  try dsimp only at k_8
  obtain rfl : r_7 = (-1) := k_8
  refine lv_aload_n hx hb dL_law_913 rfl (lv_at hl 1 rfl) ?_
  refine lv_aload_n hx hb dL_law_914 rfl (lv_at hl 3 rfl) ?_
  refine lv_iload_n hx hb dL_law_915 rfl (lv_at hl 0 rfl) ?_
  refine lv_iconst (v := 1) hx hb dL_law_916 (by decide) ?_
  refine lv_iadd hx hb dL_law_917 ?_
  refine lv_topi (fun x_9 ex_9 => ?_)
  obtain rfl : x_9 = 1 := ex_9.trans (by decide +kernel)
  refine va_sld hx hb hX hbl hbA hS (vp_in_iff.mpr (by decide +kernel)) dL_law_918 ?_
  refine lv_topi (fun y1_10 ey1_10 => ?_)
  obtain rfl : y1_2 = y1_10 := ey1_2.trans ey1_10.symm
  refine lv_aload_n hx hb dL_law_919 rfl (lv_at hl 3 rfl) ?_
  refine lv_iload_n hx hb dL_law_920 rfl (lv_at hl 0 rfl) ?_
  refine lv_iconst (v := 2) hx hb dL_law_921 (by decide) ?_
  refine lv_iadd hx hb dL_law_922 ?_
  refine lv_topi (fun x_11 ex_11 => ?_)
  obtain rfl : x_11 = 2 := ex_11.trans (by decide +kernel)
  refine va_sld hx hb hX hbl hbA hS (vp_in_iff.mpr (by decide +kernel)) dL_law_923 ?_
  refine lv_topi (fun y2_12 ey2_12 => ?_)
  obtain rfl : y2_4 = y2_12 := ey2_4.trans ey2_12.symm
  refine lv_aload_n hx hb dL_law_924 rfl (lv_at hl 3 rfl) ?_
  refine lv_iload_n hx hb dL_law_925 rfl (lv_at hl 0 rfl) ?_
  refine lv_iconst (v := 3) hx hb dL_law_926 (by decide) ?_
  refine lv_iadd hx hb dL_law_927 ?_
  refine lv_topi (fun x_13 ex_13 => ?_)
  obtain rfl : x_13 = 3 := ex_13.trans (by decide +kernel)
  refine va_sld hx hb hX hbl hbA hS (vp_in_iff.mpr (by decide +kernel)) dL_law_928 ?_
  refine lv_topi (fun y3_14 ey3_14 => ?_)
  obtain rfl : y3_6 = y3_14 := ey3_6.trans ey3_14.symm
  have hPc := hP.sub (ws' := [(m0, .inr (7, [.int 0, .ref mfi, .long 0, .int 0, .ref mil, .ref mic, .ref mwi, .int 0, .int 0, .ref mmo, .int 0, .ref mki, .ref mce, .ref mgo, .ref mwa, .ref mha, .ref mch, .ref mfo, .ref mca, .ref mor, .ref mro, .ref mra, .ref mpr, .ref mho, .ref mis, .int 0, .ref mss, .ref msc, .ref msh, .int 100, .int 1]))]) [22] rfl
  have hKc := hK.sub (tys' := []) [] rfl
  refine va_calli (va_runV (As := [.int y1_2, .int y2_4, .int y3_6]) (rest := [.int (-1)]) ⟨hx, hb, hml, hown, hts⟩ (c_X6_ahead l dC dI H.size m0 mfi mil mic mwi mmo mki mce mgo mwa mha mch mfo mca mor mro mra mpr mho mis mss msc msh y1_2 y2_4 y3_6 ) (cwV 3 hts gL_law_X6_ahead rfl rfl rfl (by decide +kernel) ⟨Nat.le_of_ble_eq_true rfl, Nat.le_of_ble_eq_true rfl⟩) ⟨fun a U g mk q => by obtain ⟨q0, q1, qP, qK, qN⟩ := q; exact ⟨q0, q1, qP, va_K.moved (u := U) (U := U.calling g mk a) (Vm.Alike.refl U.vm) qK, NW.same (u := U) (U := U.calling g mk a) rfl qN⟩, va_recv hKc hPc (ci := 7) (q0 := 0) rfl rfl, fun U hU hW => ⟨rfl, by rw [hU], by rw [hU]; exact hPc, va_K.moved hW.alike hKc, NW.warm hW hN⟩⟩ rfl rfl hl.1 rfl (lv_room (Nat.le_of_ble_eq_true rfl)) dL_law_929 ⟨Nat.le_of_ble_eq_true rfl, Nat.le_of_ble_eq_true rfl⟩) hS (fun q _ h => ro_A hS hA q h) (ro_A hS hA) (fun r_15 u t H1 locs ht hvm k_16 hB hz1 hk1 hS => ?_)
  have hP := ro_P hk1 hP
  generalize H1 = H at hP hS ⊢
  try dsimp only at k_16
  obtain rfl : r_15 = (-1) := k_16
  refine lv_icmp_eq (tgt := 1159) hx hb dL_law_932 (by decide) (fun c_17 => ?_) (fun c_17 => ?_)
  · skip
    exact law_end l C0 hAb (Nat.le_of_ble_eq_true rfl) (Nat.le_of_ble_eq_true rfl) hS ls (lv_sub hl [0, 3, 2, 1] rfl)
  · skip
    exact absurd (by decide) c_17
set_option maxHeartbeats 4000000 in
set_option maxRecDepth 100000 in
/-- the law's call 19: charter -/
theorem law_charter {p : Program} {e : Env} {s : State} {m : MethodId} {below : List Frame} {meth : Method} {c : Code} (l : Launch) {b : Nat} {xs : Nat → Int32} (C0 : lw_At p s m meth c b 8 xs) {A : Nat → Prop} (hA : ∀ q, s.heap.size ≤ q → A q) (hAb : ∀ q, A q → s.heap.size ≤ q) {dC : Nat → ClassId} {dI : Nat → Nat → Nat} {h0 sea pas fl fc lc ct ch hot dp m0 mfi mil mic mwi mmo mki mce mgo mwa mha mch mfo mca mor mro mra mpr mho mis mss msc msh te : Nat} {rr : Nat → Nat} {cZ cB cI cV : ClassId} {H : Heap} {locs : List Loc} (hK : va_K (dC, dI) vwCl [(cZ, .boolean), (cB, .byte), (cI, .int), (cV, .array .byte)] s) (hN : NW s) (hZ : Zd te A s s.heap) (hP : va_P (dC, dI) vwCl [(h0, .inr (6, [.ref sea, .ref pas, .ref fl, .ref fc, .int 0, .int 0, .int 0, .int 0, .int 0, .int 100, .int 1, .long 0])), (sea, .inr (3, [.ref lc, .ref ct, .ref ch])), (lc, .inl (cZ, 160, .inl (fun _ => 0))), (ct, .inl (cZ, 12, .inl (fun _ => 0))), (ch, .inl (cV, 12, .inr (.inr (.inr (.inr (fun i => if i < 12 then some (rr i) else none)))))), ((rr 0), .inl (cB, 160, .inl (fun _ => 0))), ((rr 1), .inl (cB, 160, .inl (fun _ => 0))), ((rr 2), .inl (cB, 160, .inl (fun _ => 0))), ((rr 3), .inl (cB, 160, .inl (fun _ => 0))), ((rr 4), .inl (cB, 160, .inl (fun _ => 0))), ((rr 5), .inl (cB, 160, .inl (fun _ => 0))), ((rr 6), .inl (cB, 160, .inl (fun _ => 0))), ((rr 7), .inl (cB, 160, .inl (fun _ => 0))), ((rr 8), .inl (cB, 160, .inl (fun _ => 0))), ((rr 9), .inl (cB, 160, .inl (fun _ => 0))), ((rr 10), .inl (cB, 160, .inl (fun _ => 0))), ((rr 11), .inl (cB, 160, .inl (fun _ => 0))), (pas, .inr (2, [.ref hot, .ref dp])), (hot, .inl (cI, 160, .inl (fun _ => 0))), (dp, .inl (cZ, 160, .inl (fun _ => 0))), (fl, .inr (0, [.int 0, .ref te, .int 0])), (fc, .inl (cI, 6, .inl (fun _ => 0))), (m0, .inr (7, [.int 0, .ref mfi, .long 0, .int 0, .ref mil, .ref mic, .ref mwi, .int 0, .int 0, .ref mmo, .int 0, .ref mki, .ref mce, .ref mgo, .ref mwa, .ref mha, .ref mch, .ref mfo, .ref mca, .ref mor, .ref mro, .ref mra, .ref mpr, .ref mho, .ref mis, .int 0, .ref mss, .ref msc, .ref msh, .int 100, .int 1])), (mfi, .inl (cI, 6, .inl (fun _ => 0))), (mil, .inl (cZ, 160, .inl (fun _ => 0))), (mic, .inl (cZ, 12, .inl (fun _ => 0))), (mwi, .inl (cI, 1920, .inl (fun _ => 0))), (mmo, .inl (cI, 160, .inl (fun _ => 0))), (mki, .inl (cI, 8, .inl (fun _ => 0))), (mce, .inl (cI, 8, .inl (fun _ => 0))), (mgo, .inl (cI, 8, .inl (fun _ => 0))), (mwa, .inl (cI, 8, .inl (fun _ => 0))), (mha, .inl (cI, 8, .inl (fun _ => 0))), (mch, .inl (cI, 8, .inl (fun _ => 0))), (mfo, .inl (cI, 8, .inl (fun _ => 0))), (mca, .inl (cI, 8, .inl (fun _ => 0))), (mor, .inl (cI, 8, .inl (fun _ => 0))), (mro, .inl (cI, 960, .inl (fun _ => 0))), (mra, .inl (cI, 8, .inl (fun _ => 0))), (mpr, .inl (cI, 8, .inl (fun _ => 0))), (mho, .inl (cI, 160, .inl (fun _ => 0))), (mis, .inl (cZ, 160, .inl (fun _ => 0))), (mss, .inl (cI, 60, .inl (fun _ => 0))), (msc, .inl (cI, 60, .inl (fun _ => 0))), (msh, .inl (cI, 60, .inl (fun _ => 0)))] H) (hD : va_D A [(h0, .inr (6, [.ref sea, .ref pas, .ref fl, .ref fc, .int 0, .int 0, .int 0, .int 0, .int 0, .int 100, .int 1, .long 0])), (sea, .inr (3, [.ref lc, .ref ct, .ref ch])), (lc, .inl (cZ, 160, .inl (fun _ => 0))), (ct, .inl (cZ, 12, .inl (fun _ => 0))), (ch, .inl (cV, 12, .inr (.inr (.inr (.inr (fun i => if i < 12 then some (rr i) else none)))))), ((rr 0), .inl (cB, 160, .inl (fun _ => 0))), ((rr 1), .inl (cB, 160, .inl (fun _ => 0))), ((rr 2), .inl (cB, 160, .inl (fun _ => 0))), ((rr 3), .inl (cB, 160, .inl (fun _ => 0))), ((rr 4), .inl (cB, 160, .inl (fun _ => 0))), ((rr 5), .inl (cB, 160, .inl (fun _ => 0))), ((rr 6), .inl (cB, 160, .inl (fun _ => 0))), ((rr 7), .inl (cB, 160, .inl (fun _ => 0))), ((rr 8), .inl (cB, 160, .inl (fun _ => 0))), ((rr 9), .inl (cB, 160, .inl (fun _ => 0))), ((rr 10), .inl (cB, 160, .inl (fun _ => 0))), ((rr 11), .inl (cB, 160, .inl (fun _ => 0))), (pas, .inr (2, [.ref hot, .ref dp])), (hot, .inl (cI, 160, .inl (fun _ => 0))), (dp, .inl (cZ, 160, .inl (fun _ => 0))), (fl, .inr (0, [.int 0, .ref te, .int 0])), (fc, .inl (cI, 6, .inl (fun _ => 0))), (m0, .inr (7, [.int 0, .ref mfi, .long 0, .int 0, .ref mil, .ref mic, .ref mwi, .int 0, .int 0, .ref mmo, .int 0, .ref mki, .ref mce, .ref mgo, .ref mwa, .ref mha, .ref mch, .ref mfo, .ref mca, .ref mor, .ref mro, .ref mra, .ref mpr, .ref mho, .ref mis, .int 0, .ref mss, .ref msc, .ref msh, .int 100, .int 1])), (mfi, .inl (cI, 6, .inl (fun _ => 0))), (mil, .inl (cZ, 160, .inl (fun _ => 0))), (mic, .inl (cZ, 12, .inl (fun _ => 0))), (mwi, .inl (cI, 1920, .inl (fun _ => 0))), (mmo, .inl (cI, 160, .inl (fun _ => 0))), (mki, .inl (cI, 8, .inl (fun _ => 0))), (mce, .inl (cI, 8, .inl (fun _ => 0))), (mgo, .inl (cI, 8, .inl (fun _ => 0))), (mwa, .inl (cI, 8, .inl (fun _ => 0))), (mha, .inl (cI, 8, .inl (fun _ => 0))), (mch, .inl (cI, 8, .inl (fun _ => 0))), (mfo, .inl (cI, 8, .inl (fun _ => 0))), (mca, .inl (cI, 8, .inl (fun _ => 0))), (mor, .inl (cI, 8, .inl (fun _ => 0))), (mro, .inl (cI, 960, .inl (fun _ => 0))), (mra, .inl (cI, 8, .inl (fun _ => 0))), (mpr, .inl (cI, 8, .inl (fun _ => 0))), (mho, .inl (cI, 160, .inl (fun _ => 0))), (mis, .inl (cZ, 160, .inl (fun _ => 0))), (mss, .inl (cI, 60, .inl (fun _ => 0))), (msc, .inl (cI, 60, .inl (fun _ => 0))), (msh, .inl (cI, 60, .inl (fun _ => 0)))]) (hS : va_S A s.heap H locs) (ls : Array Slot) (hl : lv_has ls 4 [(3, .int 0), (2, .ref m0), (1, .ref h0), (0, .ref b)]) : W p l e room_1 s m #[Value.ref b] below meth c H locs 45 6287 (lw_Z below #[Value.ref b] s) (F0 m 937 ls []) := by
  obtain ⟨hx, hb, hr, hml, hown, hts0, hX, hbl, hlocks, hgv⟩ := id C0
  have hb : c.code = cL_law := hb
  have hown : s.vm.findClass RL = some m.cls := hown
  have hts : ∀ w ∈ wsL_law, w.before #[Value.ref b] s = true := fun w hw => hts0 w (wsL_law_in w hw)
  have hbA : ¬ A b := fun h => Nat.not_le.mpr hbl (hAb b h)
  refine lv_aload_n hx hb dL_law_937 rfl (lv_at hl 2 rfl) ?_
  refine lv_aload_n hx hb dL_law_938 rfl (lv_at hl 3 rfl) ?_
  refine lv_iload_n hx hb dL_law_939 rfl (lv_at hl 0 rfl) ?_
  refine lv_iconst (v := 1) hx hb dL_law_940 (by decide) ?_
  refine lv_iadd hx hb dL_law_941 ?_
  refine lv_topi (fun x_1 ex_1 => ?_)
  obtain rfl : x_1 = 1 := ex_1.trans (by decide +kernel)
  refine va_sld hx hb hX hbl hbA hS (vp_in_iff.mpr (by decide +kernel)) dL_law_942 ?_
  refine lv_topi (fun y1_2 ey1_2 => ?_)
  refine lv_aload_n hx hb dL_law_943 rfl (lv_at hl 3 rfl) ?_
  refine lv_iload_n hx hb dL_law_944 rfl (lv_at hl 0 rfl) ?_
  refine lv_iconst (v := 2) hx hb dL_law_945 (by decide) ?_
  refine lv_iadd hx hb dL_law_946 ?_
  refine lv_topi (fun x_3 ex_3 => ?_)
  obtain rfl : x_3 = 2 := ex_3.trans (by decide +kernel)
  refine va_sld hx hb hX hbl hbA hS (vp_in_iff.mpr (by decide +kernel)) dL_law_947 ?_
  refine lv_topi (fun y2_4 ey2_4 => ?_)
  refine lv_aload_n hx hb dL_law_948 rfl (lv_at hl 3 rfl) ?_
  refine lv_iload_n hx hb dL_law_949 rfl (lv_at hl 0 rfl) ?_
  refine lv_iconst (v := 3) hx hb dL_law_950 (by decide) ?_
  refine lv_iadd hx hb dL_law_951 ?_
  refine lv_topi (fun x_5 ex_5 => ?_)
  obtain rfl : x_5 = 3 := ex_5.trans (by decide +kernel)
  refine va_sld hx hb hX hbl hbA hS (vp_in_iff.mpr (by decide +kernel)) dL_law_952 ?_
  refine lv_topi (fun y3_6 ey3_6 => ?_)
  have hPc := hP.sub (ws' := [(h0, .inr (6, [.ref sea, .ref pas, .ref fl, .ref fc, .int 0, .int 0, .int 0, .int 0, .int 0, .int 100, .int 1, .long 0])), (fl, .inr (0, [.int 0, .ref te, .int 0]))]) [0, 20] rfl
  have hKc := hK.sub (tys' := []) [] rfl
  refine va_calli (va_runV (As := [.int y1_2, .int y2_4, .int y3_6]) (rest := []) ⟨hx, hb, hml, hown, hts⟩ (c_X5_charter l dC dI H.size h0 sea pas fl fc te y1_2 y2_4 y3_6 ) (cwV 3 hts gL_law_X5_charter rfl rfl rfl (by decide +kernel) ⟨Nat.le_of_ble_eq_true rfl, Nat.le_of_ble_eq_true rfl⟩) ⟨fun a U g mk q => by obtain ⟨q0, q1, qP, qK, qN⟩ := q; exact ⟨q0, q1, qP, va_K.moved (u := U) (U := U.calling g mk a) (Vm.Alike.refl U.vm) qK, NW.same (u := U) (U := U.calling g mk a) rfl qN⟩, va_recv hKc hPc (ci := 6) (q0 := 0) rfl rfl, fun U hU hW => ⟨rfl, by rw [hU], by rw [hU]; exact hPc, va_K.moved hW.alike hKc, NW.warm hW hN⟩⟩ rfl rfl hl.1 rfl (lv_room (Nat.le_of_ble_eq_true rfl)) dL_law_953 ⟨Nat.le_of_ble_eq_true rfl, Nat.le_of_ble_eq_true rfl⟩) hS (fun q _ h => ro_A hS hA q h) (ro_A hS hA) (fun r_7 u t H1 locs ht hvm k_8 hB hz1 hk1 hS => ?_)
  have hP := ro_P hk1 hP
  generalize H1 = H at hP hS ⊢
  try dsimp only at k_8
  obtain rfl : r_7 = (-1) := k_8
  refine lv_aload_n hx hb dL_law_956 rfl (lv_at hl 1 rfl) ?_
  refine lv_aload_n hx hb dL_law_957 rfl (lv_at hl 3 rfl) ?_
  refine lv_iload_n hx hb dL_law_958 rfl (lv_at hl 0 rfl) ?_
  refine lv_iconst (v := 1) hx hb dL_law_959 (by decide) ?_
  refine lv_iadd hx hb dL_law_960 ?_
  refine lv_topi (fun x_9 ex_9 => ?_)
  obtain rfl : x_9 = 1 := ex_9.trans (by decide +kernel)
  refine va_sld hx hb hX hbl hbA hS (vp_in_iff.mpr (by decide +kernel)) dL_law_961 ?_
  refine lv_topi (fun y1_10 ey1_10 => ?_)
  obtain rfl : y1_2 = y1_10 := ey1_2.trans ey1_10.symm
  refine lv_aload_n hx hb dL_law_962 rfl (lv_at hl 3 rfl) ?_
  refine lv_iload_n hx hb dL_law_963 rfl (lv_at hl 0 rfl) ?_
  refine lv_iconst (v := 2) hx hb dL_law_964 (by decide) ?_
  refine lv_iadd hx hb dL_law_965 ?_
  refine lv_topi (fun x_11 ex_11 => ?_)
  obtain rfl : x_11 = 2 := ex_11.trans (by decide +kernel)
  refine va_sld hx hb hX hbl hbA hS (vp_in_iff.mpr (by decide +kernel)) dL_law_966 ?_
  refine lv_topi (fun y2_12 ey2_12 => ?_)
  obtain rfl : y2_4 = y2_12 := ey2_4.trans ey2_12.symm
  refine lv_aload_n hx hb dL_law_967 rfl (lv_at hl 3 rfl) ?_
  refine lv_iload_n hx hb dL_law_968 rfl (lv_at hl 0 rfl) ?_
  refine lv_iconst (v := 3) hx hb dL_law_969 (by decide) ?_
  refine lv_iadd hx hb dL_law_970 ?_
  refine lv_topi (fun x_13 ex_13 => ?_)
  obtain rfl : x_13 = 3 := ex_13.trans (by decide +kernel)
  refine va_sld hx hb hX hbl hbA hS (vp_in_iff.mpr (by decide +kernel)) dL_law_971 ?_
  refine lv_topi (fun y3_14 ey3_14 => ?_)
  obtain rfl : y3_6 = y3_14 := ey3_6.trans ey3_14.symm
  have hPc := hP.sub (ws' := [(m0, .inr (7, [.int 0, .ref mfi, .long 0, .int 0, .ref mil, .ref mic, .ref mwi, .int 0, .int 0, .ref mmo, .int 0, .ref mki, .ref mce, .ref mgo, .ref mwa, .ref mha, .ref mch, .ref mfo, .ref mca, .ref mor, .ref mro, .ref mra, .ref mpr, .ref mho, .ref mis, .int 0, .ref mss, .ref msc, .ref msh, .int 100, .int 1]))]) [22] rfl
  have hKc := hK.sub (tys' := []) [] rfl
  refine va_calli (va_runV (As := [.int y1_2, .int y2_4, .int y3_6]) (rest := [.int (-1)]) ⟨hx, hb, hml, hown, hts⟩ (c_X6_charter l dC dI H.size m0 mfi mil mic mwi mmo mki mce mgo mwa mha mch mfo mca mor mro mra mpr mho mis mss msc msh y1_2 y2_4 y3_6 ) (cwV 3 hts gL_law_X6_charter rfl rfl rfl (by decide +kernel) ⟨Nat.le_of_ble_eq_true rfl, Nat.le_of_ble_eq_true rfl⟩) ⟨fun a U g mk q => by obtain ⟨q0, q1, qP, qK, qN⟩ := q; exact ⟨q0, q1, qP, va_K.moved (u := U) (U := U.calling g mk a) (Vm.Alike.refl U.vm) qK, NW.same (u := U) (U := U.calling g mk a) rfl qN⟩, va_recv hKc hPc (ci := 7) (q0 := 0) rfl rfl, fun U hU hW => ⟨rfl, by rw [hU], by rw [hU]; exact hPc, va_K.moved hW.alike hKc, NW.warm hW hN⟩⟩ rfl rfl hl.1 rfl (lv_room (Nat.le_of_ble_eq_true rfl)) dL_law_972 ⟨Nat.le_of_ble_eq_true rfl, Nat.le_of_ble_eq_true rfl⟩) hS (fun q _ h => ro_A hS hA q h) (ro_A hS hA) (fun r_15 u t H1 locs ht hvm k_16 hB hz1 hk1 hS => ?_)
  have hP := ro_P hk1 hP
  generalize H1 = H at hP hS ⊢
  try dsimp only at k_16
  obtain rfl : r_15 = (-1) := k_16
  refine lv_icmp_eq (tgt := 1159) hx hb dL_law_975 (by decide) (fun c_17 => ?_) (fun c_17 => ?_)
  · skip
    exact law_end l C0 hAb (Nat.le_of_ble_eq_true rfl) (Nat.le_of_ble_eq_true rfl) hS ls (lv_sub hl [0, 3, 2, 1] rfl)
  · skip
    exact absurd (by decide) c_17
set_option maxHeartbeats 4000000 in
set_option maxRecDepth 100000 in
/-- the law's call 20: freight -/
theorem law_freight {p : Program} {e : Env} {s : State} {m : MethodId} {below : List Frame} {meth : Method} {c : Code} (l : Launch) {b : Nat} {xs : Nat → Int32} (C0 : lw_At p s m meth c b 8 xs) {A : Nat → Prop} (hA : ∀ q, s.heap.size ≤ q → A q) (hAb : ∀ q, A q → s.heap.size ≤ q) {dC : Nat → ClassId} {dI : Nat → Nat → Nat} {h0 sea pas fl fc lc ct ch hot dp m0 mfi mil mic mwi mmo mki mce mgo mwa mha mch mfo mca mor mro mra mpr mho mis mss msc msh te : Nat} {rr : Nat → Nat} {cZ cB cI cV : ClassId} {H : Heap} {locs : List Loc} (hK : va_K (dC, dI) vwCl [(cZ, .boolean), (cB, .byte), (cI, .int), (cV, .array .byte)] s) (hN : NW s) (hZ : Zd te A s s.heap) (hP : va_P (dC, dI) vwCl [(h0, .inr (6, [.ref sea, .ref pas, .ref fl, .ref fc, .int 0, .int 0, .int 0, .int 0, .int 0, .int 100, .int 1, .long 0])), (sea, .inr (3, [.ref lc, .ref ct, .ref ch])), (lc, .inl (cZ, 160, .inl (fun _ => 0))), (ct, .inl (cZ, 12, .inl (fun _ => 0))), (ch, .inl (cV, 12, .inr (.inr (.inr (.inr (fun i => if i < 12 then some (rr i) else none)))))), ((rr 0), .inl (cB, 160, .inl (fun _ => 0))), ((rr 1), .inl (cB, 160, .inl (fun _ => 0))), ((rr 2), .inl (cB, 160, .inl (fun _ => 0))), ((rr 3), .inl (cB, 160, .inl (fun _ => 0))), ((rr 4), .inl (cB, 160, .inl (fun _ => 0))), ((rr 5), .inl (cB, 160, .inl (fun _ => 0))), ((rr 6), .inl (cB, 160, .inl (fun _ => 0))), ((rr 7), .inl (cB, 160, .inl (fun _ => 0))), ((rr 8), .inl (cB, 160, .inl (fun _ => 0))), ((rr 9), .inl (cB, 160, .inl (fun _ => 0))), ((rr 10), .inl (cB, 160, .inl (fun _ => 0))), ((rr 11), .inl (cB, 160, .inl (fun _ => 0))), (pas, .inr (2, [.ref hot, .ref dp])), (hot, .inl (cI, 160, .inl (fun _ => 0))), (dp, .inl (cZ, 160, .inl (fun _ => 0))), (fl, .inr (0, [.int 0, .ref te, .int 0])), (fc, .inl (cI, 6, .inl (fun _ => 0))), (m0, .inr (7, [.int 0, .ref mfi, .long 0, .int 0, .ref mil, .ref mic, .ref mwi, .int 0, .int 0, .ref mmo, .int 0, .ref mki, .ref mce, .ref mgo, .ref mwa, .ref mha, .ref mch, .ref mfo, .ref mca, .ref mor, .ref mro, .ref mra, .ref mpr, .ref mho, .ref mis, .int 0, .ref mss, .ref msc, .ref msh, .int 100, .int 1])), (mfi, .inl (cI, 6, .inl (fun _ => 0))), (mil, .inl (cZ, 160, .inl (fun _ => 0))), (mic, .inl (cZ, 12, .inl (fun _ => 0))), (mwi, .inl (cI, 1920, .inl (fun _ => 0))), (mmo, .inl (cI, 160, .inl (fun _ => 0))), (mki, .inl (cI, 8, .inl (fun _ => 0))), (mce, .inl (cI, 8, .inl (fun _ => 0))), (mgo, .inl (cI, 8, .inl (fun _ => 0))), (mwa, .inl (cI, 8, .inl (fun _ => 0))), (mha, .inl (cI, 8, .inl (fun _ => 0))), (mch, .inl (cI, 8, .inl (fun _ => 0))), (mfo, .inl (cI, 8, .inl (fun _ => 0))), (mca, .inl (cI, 8, .inl (fun _ => 0))), (mor, .inl (cI, 8, .inl (fun _ => 0))), (mro, .inl (cI, 960, .inl (fun _ => 0))), (mra, .inl (cI, 8, .inl (fun _ => 0))), (mpr, .inl (cI, 8, .inl (fun _ => 0))), (mho, .inl (cI, 160, .inl (fun _ => 0))), (mis, .inl (cZ, 160, .inl (fun _ => 0))), (mss, .inl (cI, 60, .inl (fun _ => 0))), (msc, .inl (cI, 60, .inl (fun _ => 0))), (msh, .inl (cI, 60, .inl (fun _ => 0)))] H) (hD : va_D A [(h0, .inr (6, [.ref sea, .ref pas, .ref fl, .ref fc, .int 0, .int 0, .int 0, .int 0, .int 0, .int 100, .int 1, .long 0])), (sea, .inr (3, [.ref lc, .ref ct, .ref ch])), (lc, .inl (cZ, 160, .inl (fun _ => 0))), (ct, .inl (cZ, 12, .inl (fun _ => 0))), (ch, .inl (cV, 12, .inr (.inr (.inr (.inr (fun i => if i < 12 then some (rr i) else none)))))), ((rr 0), .inl (cB, 160, .inl (fun _ => 0))), ((rr 1), .inl (cB, 160, .inl (fun _ => 0))), ((rr 2), .inl (cB, 160, .inl (fun _ => 0))), ((rr 3), .inl (cB, 160, .inl (fun _ => 0))), ((rr 4), .inl (cB, 160, .inl (fun _ => 0))), ((rr 5), .inl (cB, 160, .inl (fun _ => 0))), ((rr 6), .inl (cB, 160, .inl (fun _ => 0))), ((rr 7), .inl (cB, 160, .inl (fun _ => 0))), ((rr 8), .inl (cB, 160, .inl (fun _ => 0))), ((rr 9), .inl (cB, 160, .inl (fun _ => 0))), ((rr 10), .inl (cB, 160, .inl (fun _ => 0))), ((rr 11), .inl (cB, 160, .inl (fun _ => 0))), (pas, .inr (2, [.ref hot, .ref dp])), (hot, .inl (cI, 160, .inl (fun _ => 0))), (dp, .inl (cZ, 160, .inl (fun _ => 0))), (fl, .inr (0, [.int 0, .ref te, .int 0])), (fc, .inl (cI, 6, .inl (fun _ => 0))), (m0, .inr (7, [.int 0, .ref mfi, .long 0, .int 0, .ref mil, .ref mic, .ref mwi, .int 0, .int 0, .ref mmo, .int 0, .ref mki, .ref mce, .ref mgo, .ref mwa, .ref mha, .ref mch, .ref mfo, .ref mca, .ref mor, .ref mro, .ref mra, .ref mpr, .ref mho, .ref mis, .int 0, .ref mss, .ref msc, .ref msh, .int 100, .int 1])), (mfi, .inl (cI, 6, .inl (fun _ => 0))), (mil, .inl (cZ, 160, .inl (fun _ => 0))), (mic, .inl (cZ, 12, .inl (fun _ => 0))), (mwi, .inl (cI, 1920, .inl (fun _ => 0))), (mmo, .inl (cI, 160, .inl (fun _ => 0))), (mki, .inl (cI, 8, .inl (fun _ => 0))), (mce, .inl (cI, 8, .inl (fun _ => 0))), (mgo, .inl (cI, 8, .inl (fun _ => 0))), (mwa, .inl (cI, 8, .inl (fun _ => 0))), (mha, .inl (cI, 8, .inl (fun _ => 0))), (mch, .inl (cI, 8, .inl (fun _ => 0))), (mfo, .inl (cI, 8, .inl (fun _ => 0))), (mca, .inl (cI, 8, .inl (fun _ => 0))), (mor, .inl (cI, 8, .inl (fun _ => 0))), (mro, .inl (cI, 960, .inl (fun _ => 0))), (mra, .inl (cI, 8, .inl (fun _ => 0))), (mpr, .inl (cI, 8, .inl (fun _ => 0))), (mho, .inl (cI, 160, .inl (fun _ => 0))), (mis, .inl (cZ, 160, .inl (fun _ => 0))), (mss, .inl (cI, 60, .inl (fun _ => 0))), (msc, .inl (cI, 60, .inl (fun _ => 0))), (msh, .inl (cI, 60, .inl (fun _ => 0)))]) (hS : va_S A s.heap H locs) (ls : Array Slot) (hl : lv_has ls 4 [(3, .int 0), (2, .ref m0), (1, .ref h0), (0, .ref b)]) : W p l e room_1 s m #[Value.ref b] below meth c H locs 45 6287 (lw_Z below #[Value.ref b] s) (F0 m 980 ls []) := by
  obtain ⟨hx, hb, hr, hml, hown, hts0, hX, hbl, hlocks, hgv⟩ := id C0
  have hb : c.code = cL_law := hb
  have hown : s.vm.findClass RL = some m.cls := hown
  have hts : ∀ w ∈ wsL_law, w.before #[Value.ref b] s = true := fun w hw => hts0 w (wsL_law_in w hw)
  have hbA : ¬ A b := fun h => Nat.not_le.mpr hbl (hAb b h)
  refine lv_aload_n hx hb dL_law_980 rfl (lv_at hl 2 rfl) ?_
  refine lv_aload_n hx hb dL_law_981 rfl (lv_at hl 3 rfl) ?_
  refine lv_iload_n hx hb dL_law_982 rfl (lv_at hl 0 rfl) ?_
  refine lv_iconst (v := 1) hx hb dL_law_983 (by decide) ?_
  refine lv_iadd hx hb dL_law_984 ?_
  refine lv_topi (fun x_1 ex_1 => ?_)
  obtain rfl : x_1 = 1 := ex_1.trans (by decide +kernel)
  refine va_sld hx hb hX hbl hbA hS (vp_in_iff.mpr (by decide +kernel)) dL_law_985 ?_
  refine lv_topi (fun y1_2 ey1_2 => ?_)
  have hPc := hP.sub (ws' := [(h0, .inr (6, [.ref sea, .ref pas, .ref fl, .ref fc, .int 0, .int 0, .int 0, .int 0, .int 0, .int 100, .int 1, .long 0])), (fl, .inr (0, [.int 0, .ref te, .int 0]))]) [0, 20] rfl
  have hKc := hK.sub (tys' := []) [] rfl
  refine va_calli (va_runV (As := [.int y1_2]) (rest := []) ⟨hx, hb, hml, hown, hts⟩ (c_X5_freight l dC dI H.size h0 sea pas fl fc te y1_2 ) (cwV 1 hts gL_law_X5_freight rfl rfl rfl (by decide +kernel) ⟨Nat.le_of_ble_eq_true rfl, Nat.le_of_ble_eq_true rfl⟩) ⟨fun a U g mk q => by obtain ⟨q0, q1, qP, qK, qN⟩ := q; exact ⟨q0, q1, qP, va_K.moved (u := U) (U := U.calling g mk a) (Vm.Alike.refl U.vm) qK, NW.same (u := U) (U := U.calling g mk a) rfl qN⟩, va_recv hKc hPc (ci := 6) (q0 := 0) rfl rfl, fun U hU hW => ⟨rfl, by rw [hU], by rw [hU]; exact hPc, va_K.moved hW.alike hKc, NW.warm hW hN⟩⟩ rfl rfl hl.1 rfl (lv_room (Nat.le_of_ble_eq_true rfl)) dL_law_986 ⟨Nat.le_of_ble_eq_true rfl, Nat.le_of_ble_eq_true rfl⟩) hS (fun q _ h => ro_A hS hA q h) (ro_A hS hA) (fun r_3 u t H1 locs ht hvm k_4 hB hz1 hk1 hS => ?_)
  have hP := ro_P hk1 hP
  generalize H1 = H at hP hS ⊢
  try dsimp only at k_4
  obtain rfl : r_3 = (-1) := k_4
  refine lv_aload_n hx hb dL_law_989 rfl (lv_at hl 1 rfl) ?_
  refine lv_aload_n hx hb dL_law_990 rfl (lv_at hl 3 rfl) ?_
  refine lv_iload_n hx hb dL_law_991 rfl (lv_at hl 0 rfl) ?_
  refine lv_iconst (v := 1) hx hb dL_law_992 (by decide) ?_
  refine lv_iadd hx hb dL_law_993 ?_
  refine lv_topi (fun x_5 ex_5 => ?_)
  obtain rfl : x_5 = 1 := ex_5.trans (by decide +kernel)
  refine va_sld hx hb hX hbl hbA hS (vp_in_iff.mpr (by decide +kernel)) dL_law_994 ?_
  refine lv_topi (fun y1_6 ey1_6 => ?_)
  obtain rfl : y1_2 = y1_6 := ey1_2.trans ey1_6.symm
  have hPc := hP.sub (ws' := [(m0, .inr (7, [.int 0, .ref mfi, .long 0, .int 0, .ref mil, .ref mic, .ref mwi, .int 0, .int 0, .ref mmo, .int 0, .ref mki, .ref mce, .ref mgo, .ref mwa, .ref mha, .ref mch, .ref mfo, .ref mca, .ref mor, .ref mro, .ref mra, .ref mpr, .ref mho, .ref mis, .int 0, .ref mss, .ref msc, .ref msh, .int 100, .int 1]))]) [22] rfl
  have hKc := hK.sub (tys' := []) [] rfl
  refine va_calli (va_runV (As := [.int y1_2]) (rest := [.int (-1)]) ⟨hx, hb, hml, hown, hts⟩ (c_X6_freight l dC dI H.size m0 mfi mil mic mwi mmo mki mce mgo mwa mha mch mfo mca mor mro mra mpr mho mis mss msc msh y1_2 ) (cwV 1 hts gL_law_X6_freight rfl rfl rfl (by decide +kernel) ⟨Nat.le_of_ble_eq_true rfl, Nat.le_of_ble_eq_true rfl⟩) ⟨fun a U g mk q => by obtain ⟨q0, q1, qP, qK, qN⟩ := q; exact ⟨q0, q1, qP, va_K.moved (u := U) (U := U.calling g mk a) (Vm.Alike.refl U.vm) qK, NW.same (u := U) (U := U.calling g mk a) rfl qN⟩, va_recv hKc hPc (ci := 7) (q0 := 0) rfl rfl, fun U hU hW => ⟨rfl, by rw [hU], by rw [hU]; exact hPc, va_K.moved hW.alike hKc, NW.warm hW hN⟩⟩ rfl rfl hl.1 rfl (lv_room (Nat.le_of_ble_eq_true rfl)) dL_law_995 ⟨Nat.le_of_ble_eq_true rfl, Nat.le_of_ble_eq_true rfl⟩) hS (fun q _ h => ro_A hS hA q h) (ro_A hS hA) (fun r_7 u t H1 locs ht hvm k_8 hB hz1 hk1 hS => ?_)
  have hP := ro_P hk1 hP
  generalize H1 = H at hP hS ⊢
  try dsimp only at k_8
  obtain rfl : r_7 = (-1) := k_8
  refine lv_icmp_eq (tgt := 1159) hx hb dL_law_998 (by decide) (fun c_9 => ?_) (fun c_9 => ?_)
  · skip
    exact law_end l C0 hAb (Nat.le_of_ble_eq_true rfl) (Nat.le_of_ble_eq_true rfl) hS ls (lv_sub hl [0, 3, 2, 1] rfl)
  · skip
    exact absurd (by decide) c_9
set_option maxHeartbeats 4000000 in
set_option maxRecDepth 100000 in
/-- the law's call 21: market -/
theorem law_market {p : Program} {e : Env} {s : State} {m : MethodId} {below : List Frame} {meth : Method} {c : Code} (l : Launch) {b : Nat} {xs : Nat → Int32} (C0 : lw_At p s m meth c b 8 xs) {A : Nat → Prop} (hA : ∀ q, s.heap.size ≤ q → A q) (hAb : ∀ q, A q → s.heap.size ≤ q) {dC : Nat → ClassId} {dI : Nat → Nat → Nat} {h0 sea pas fl fc lc ct ch hot dp m0 mfi mil mic mwi mmo mki mce mgo mwa mha mch mfo mca mor mro mra mpr mho mis mss msc msh te : Nat} {rr : Nat → Nat} {cZ cB cI cV : ClassId} {H : Heap} {locs : List Loc} (hK : va_K (dC, dI) vwCl [(cZ, .boolean), (cB, .byte), (cI, .int), (cV, .array .byte)] s) (hN : NW s) (hZ : Zd te A s s.heap) (hP : va_P (dC, dI) vwCl [(h0, .inr (6, [.ref sea, .ref pas, .ref fl, .ref fc, .int 0, .int 0, .int 0, .int 0, .int 0, .int 100, .int 1, .long 0])), (sea, .inr (3, [.ref lc, .ref ct, .ref ch])), (lc, .inl (cZ, 160, .inl (fun _ => 0))), (ct, .inl (cZ, 12, .inl (fun _ => 0))), (ch, .inl (cV, 12, .inr (.inr (.inr (.inr (fun i => if i < 12 then some (rr i) else none)))))), ((rr 0), .inl (cB, 160, .inl (fun _ => 0))), ((rr 1), .inl (cB, 160, .inl (fun _ => 0))), ((rr 2), .inl (cB, 160, .inl (fun _ => 0))), ((rr 3), .inl (cB, 160, .inl (fun _ => 0))), ((rr 4), .inl (cB, 160, .inl (fun _ => 0))), ((rr 5), .inl (cB, 160, .inl (fun _ => 0))), ((rr 6), .inl (cB, 160, .inl (fun _ => 0))), ((rr 7), .inl (cB, 160, .inl (fun _ => 0))), ((rr 8), .inl (cB, 160, .inl (fun _ => 0))), ((rr 9), .inl (cB, 160, .inl (fun _ => 0))), ((rr 10), .inl (cB, 160, .inl (fun _ => 0))), ((rr 11), .inl (cB, 160, .inl (fun _ => 0))), (pas, .inr (2, [.ref hot, .ref dp])), (hot, .inl (cI, 160, .inl (fun _ => 0))), (dp, .inl (cZ, 160, .inl (fun _ => 0))), (fl, .inr (0, [.int 0, .ref te, .int 0])), (fc, .inl (cI, 6, .inl (fun _ => 0))), (m0, .inr (7, [.int 0, .ref mfi, .long 0, .int 0, .ref mil, .ref mic, .ref mwi, .int 0, .int 0, .ref mmo, .int 0, .ref mki, .ref mce, .ref mgo, .ref mwa, .ref mha, .ref mch, .ref mfo, .ref mca, .ref mor, .ref mro, .ref mra, .ref mpr, .ref mho, .ref mis, .int 0, .ref mss, .ref msc, .ref msh, .int 100, .int 1])), (mfi, .inl (cI, 6, .inl (fun _ => 0))), (mil, .inl (cZ, 160, .inl (fun _ => 0))), (mic, .inl (cZ, 12, .inl (fun _ => 0))), (mwi, .inl (cI, 1920, .inl (fun _ => 0))), (mmo, .inl (cI, 160, .inl (fun _ => 0))), (mki, .inl (cI, 8, .inl (fun _ => 0))), (mce, .inl (cI, 8, .inl (fun _ => 0))), (mgo, .inl (cI, 8, .inl (fun _ => 0))), (mwa, .inl (cI, 8, .inl (fun _ => 0))), (mha, .inl (cI, 8, .inl (fun _ => 0))), (mch, .inl (cI, 8, .inl (fun _ => 0))), (mfo, .inl (cI, 8, .inl (fun _ => 0))), (mca, .inl (cI, 8, .inl (fun _ => 0))), (mor, .inl (cI, 8, .inl (fun _ => 0))), (mro, .inl (cI, 960, .inl (fun _ => 0))), (mra, .inl (cI, 8, .inl (fun _ => 0))), (mpr, .inl (cI, 8, .inl (fun _ => 0))), (mho, .inl (cI, 160, .inl (fun _ => 0))), (mis, .inl (cZ, 160, .inl (fun _ => 0))), (mss, .inl (cI, 60, .inl (fun _ => 0))), (msc, .inl (cI, 60, .inl (fun _ => 0))), (msh, .inl (cI, 60, .inl (fun _ => 0)))] H) (hD : va_D A [(h0, .inr (6, [.ref sea, .ref pas, .ref fl, .ref fc, .int 0, .int 0, .int 0, .int 0, .int 0, .int 100, .int 1, .long 0])), (sea, .inr (3, [.ref lc, .ref ct, .ref ch])), (lc, .inl (cZ, 160, .inl (fun _ => 0))), (ct, .inl (cZ, 12, .inl (fun _ => 0))), (ch, .inl (cV, 12, .inr (.inr (.inr (.inr (fun i => if i < 12 then some (rr i) else none)))))), ((rr 0), .inl (cB, 160, .inl (fun _ => 0))), ((rr 1), .inl (cB, 160, .inl (fun _ => 0))), ((rr 2), .inl (cB, 160, .inl (fun _ => 0))), ((rr 3), .inl (cB, 160, .inl (fun _ => 0))), ((rr 4), .inl (cB, 160, .inl (fun _ => 0))), ((rr 5), .inl (cB, 160, .inl (fun _ => 0))), ((rr 6), .inl (cB, 160, .inl (fun _ => 0))), ((rr 7), .inl (cB, 160, .inl (fun _ => 0))), ((rr 8), .inl (cB, 160, .inl (fun _ => 0))), ((rr 9), .inl (cB, 160, .inl (fun _ => 0))), ((rr 10), .inl (cB, 160, .inl (fun _ => 0))), ((rr 11), .inl (cB, 160, .inl (fun _ => 0))), (pas, .inr (2, [.ref hot, .ref dp])), (hot, .inl (cI, 160, .inl (fun _ => 0))), (dp, .inl (cZ, 160, .inl (fun _ => 0))), (fl, .inr (0, [.int 0, .ref te, .int 0])), (fc, .inl (cI, 6, .inl (fun _ => 0))), (m0, .inr (7, [.int 0, .ref mfi, .long 0, .int 0, .ref mil, .ref mic, .ref mwi, .int 0, .int 0, .ref mmo, .int 0, .ref mki, .ref mce, .ref mgo, .ref mwa, .ref mha, .ref mch, .ref mfo, .ref mca, .ref mor, .ref mro, .ref mra, .ref mpr, .ref mho, .ref mis, .int 0, .ref mss, .ref msc, .ref msh, .int 100, .int 1])), (mfi, .inl (cI, 6, .inl (fun _ => 0))), (mil, .inl (cZ, 160, .inl (fun _ => 0))), (mic, .inl (cZ, 12, .inl (fun _ => 0))), (mwi, .inl (cI, 1920, .inl (fun _ => 0))), (mmo, .inl (cI, 160, .inl (fun _ => 0))), (mki, .inl (cI, 8, .inl (fun _ => 0))), (mce, .inl (cI, 8, .inl (fun _ => 0))), (mgo, .inl (cI, 8, .inl (fun _ => 0))), (mwa, .inl (cI, 8, .inl (fun _ => 0))), (mha, .inl (cI, 8, .inl (fun _ => 0))), (mch, .inl (cI, 8, .inl (fun _ => 0))), (mfo, .inl (cI, 8, .inl (fun _ => 0))), (mca, .inl (cI, 8, .inl (fun _ => 0))), (mor, .inl (cI, 8, .inl (fun _ => 0))), (mro, .inl (cI, 960, .inl (fun _ => 0))), (mra, .inl (cI, 8, .inl (fun _ => 0))), (mpr, .inl (cI, 8, .inl (fun _ => 0))), (mho, .inl (cI, 160, .inl (fun _ => 0))), (mis, .inl (cZ, 160, .inl (fun _ => 0))), (mss, .inl (cI, 60, .inl (fun _ => 0))), (msc, .inl (cI, 60, .inl (fun _ => 0))), (msh, .inl (cI, 60, .inl (fun _ => 0)))]) (hS : va_S A s.heap H locs) (ls : Array Slot) (hl : lv_has ls 4 [(3, .int 0), (2, .ref m0), (1, .ref h0), (0, .ref b)]) : W p l e room_1 s m #[Value.ref b] below meth c H locs 45 6287 (lw_Z below #[Value.ref b] s) (F0 m 1003 ls []) := by
  obtain ⟨hx, hb, hr, hml, hown, hts0, hX, hbl, hlocks, hgv⟩ := id C0
  have hb : c.code = cL_law := hb
  have hown : s.vm.findClass RL = some m.cls := hown
  have hts : ∀ w ∈ wsL_law, w.before #[Value.ref b] s = true := fun w hw => hts0 w (wsL_law_in w hw)
  have hbA : ¬ A b := fun h => Nat.not_le.mpr hbl (hAb b h)
  refine lv_aload_n hx hb dL_law_1003 rfl (lv_at hl 2 rfl) ?_
  refine lv_aload_n hx hb dL_law_1004 rfl (lv_at hl 3 rfl) ?_
  refine lv_iload_n hx hb dL_law_1005 rfl (lv_at hl 0 rfl) ?_
  refine lv_iconst (v := 1) hx hb dL_law_1006 (by decide) ?_
  refine lv_iadd hx hb dL_law_1007 ?_
  refine lv_topi (fun x_1 ex_1 => ?_)
  obtain rfl : x_1 = 1 := ex_1.trans (by decide +kernel)
  refine va_sld hx hb hX hbl hbA hS (vp_in_iff.mpr (by decide +kernel)) dL_law_1008 ?_
  refine lv_topi (fun y1_2 ey1_2 => ?_)
  refine lv_aload_n hx hb dL_law_1009 rfl (lv_at hl 3 rfl) ?_
  refine lv_iload_n hx hb dL_law_1010 rfl (lv_at hl 0 rfl) ?_
  refine lv_iconst (v := 2) hx hb dL_law_1011 (by decide) ?_
  refine lv_iadd hx hb dL_law_1012 ?_
  refine lv_topi (fun x_3 ex_3 => ?_)
  obtain rfl : x_3 = 2 := ex_3.trans (by decide +kernel)
  refine va_sld hx hb hX hbl hbA hS (vp_in_iff.mpr (by decide +kernel)) dL_law_1013 ?_
  refine lv_topi (fun y2_4 ey2_4 => ?_)
  have hPc := hP.sub (ws' := [(h0, .inr (6, [.ref sea, .ref pas, .ref fl, .ref fc, .int 0, .int 0, .int 0, .int 0, .int 0, .int 100, .int 1, .long 0]))]) [0] rfl
  have hDc := hD.sub (ws' := [(h0, .inr (6, [.ref sea, .ref pas, .ref fl, .ref fc, .int 0, .int 0, .int 0, .int 0, .int 0, .int 100, .int 1, .long 0]))]) [0] (by decide) rfl
  have hKc := hK.sub (tys' := []) [] rfl
  have hFc := va_free (wc := [(h0, .inr (6, [.ref sea, .ref pas, .ref fl, .ref fc, .int 0, .int 0, .int 0, .int 0, .int 0, .int 100, .int 1, .long 0]))]) hD hS hA [0] rfl
  refine va_calli (va_runV (As := [.int y1_2, .int y2_4]) (rest := []) ⟨hx, hb, hml, hown, hts⟩ (c_X5_market l dC dI H.size h0 sea pas fl fc y1_2 y2_4 ) (cwV 2 hts gL_law_X5_market rfl rfl rfl (by decide +kernel) ⟨Nat.le_of_ble_eq_true rfl, Nat.le_of_ble_eq_true rfl⟩) ⟨fun a U g mk q => by obtain ⟨q0, q1, qP, qK, qN, qD⟩ := q; exact ⟨q0, q1, qP, va_K.moved (u := U) (U := U.calling g mk a) (Vm.Alike.refl U.vm) qK, NW.same (u := U) (U := U.calling g mk a) rfl qN, qD⟩, va_recv hKc hPc (ci := 6) (q0 := 0) rfl rfl, fun U hU hW => ⟨rfl, by rw [hU], by rw [hU]; exact hPc, va_K.moved hW.alike hKc, NW.warm hW hN, hDc.weaken (fun _ _ _ _ => trivial)⟩⟩ rfl rfl hl.1 rfl (lv_room (Nat.le_of_ble_eq_true rfl)) dL_law_1014 ⟨Nat.le_of_ble_eq_true rfl, Nat.le_of_ble_eq_true rfl⟩) hS (fun q _ h => hFc q h) hFc (fun r_5 u t H1 locs ht hvm k_6 hB hz1 hk1 hS => ?_)
  have hPr := hP.sub (ws' := [(sea, .inr (3, [.ref lc, .ref ct, .ref ch])), (lc, .inl (cZ, 160, .inl (fun _ => 0))), (ct, .inl (cZ, 12, .inl (fun _ => 0))), (ch, .inl (cV, 12, .inr (.inr (.inr (.inr (fun i => if i < 12 then some (rr i) else none)))))), ((rr 0), .inl (cB, 160, .inl (fun _ => 0))), ((rr 1), .inl (cB, 160, .inl (fun _ => 0))), ((rr 2), .inl (cB, 160, .inl (fun _ => 0))), ((rr 3), .inl (cB, 160, .inl (fun _ => 0))), ((rr 4), .inl (cB, 160, .inl (fun _ => 0))), ((rr 5), .inl (cB, 160, .inl (fun _ => 0))), ((rr 6), .inl (cB, 160, .inl (fun _ => 0))), ((rr 7), .inl (cB, 160, .inl (fun _ => 0))), ((rr 8), .inl (cB, 160, .inl (fun _ => 0))), ((rr 9), .inl (cB, 160, .inl (fun _ => 0))), ((rr 10), .inl (cB, 160, .inl (fun _ => 0))), ((rr 11), .inl (cB, 160, .inl (fun _ => 0))), (pas, .inr (2, [.ref hot, .ref dp])), (hot, .inl (cI, 160, .inl (fun _ => 0))), (dp, .inl (cZ, 160, .inl (fun _ => 0))), (fl, .inr (0, [.int 0, .ref te, .int 0])), (fc, .inl (cI, 6, .inl (fun _ => 0))), (m0, .inr (7, [.int 0, .ref mfi, .long 0, .int 0, .ref mil, .ref mic, .ref mwi, .int 0, .int 0, .ref mmo, .int 0, .ref mki, .ref mce, .ref mgo, .ref mwa, .ref mha, .ref mch, .ref mfo, .ref mca, .ref mor, .ref mro, .ref mra, .ref mpr, .ref mho, .ref mis, .int 0, .ref mss, .ref msc, .ref msh, .int 100, .int 1])), (mfi, .inl (cI, 6, .inl (fun _ => 0))), (mil, .inl (cZ, 160, .inl (fun _ => 0))), (mic, .inl (cZ, 12, .inl (fun _ => 0))), (mwi, .inl (cI, 1920, .inl (fun _ => 0))), (mmo, .inl (cI, 160, .inl (fun _ => 0))), (mki, .inl (cI, 8, .inl (fun _ => 0))), (mce, .inl (cI, 8, .inl (fun _ => 0))), (mgo, .inl (cI, 8, .inl (fun _ => 0))), (mwa, .inl (cI, 8, .inl (fun _ => 0))), (mha, .inl (cI, 8, .inl (fun _ => 0))), (mch, .inl (cI, 8, .inl (fun _ => 0))), (mfo, .inl (cI, 8, .inl (fun _ => 0))), (mca, .inl (cI, 8, .inl (fun _ => 0))), (mor, .inl (cI, 8, .inl (fun _ => 0))), (mro, .inl (cI, 960, .inl (fun _ => 0))), (mra, .inl (cI, 8, .inl (fun _ => 0))), (mpr, .inl (cI, 8, .inl (fun _ => 0))), (mho, .inl (cI, 160, .inl (fun _ => 0))), (mis, .inl (cZ, 160, .inl (fun _ => 0))), (mss, .inl (cI, 60, .inl (fun _ => 0))), (msc, .inl (cI, 60, .inl (fun _ => 0))), (msh, .inl (cI, 60, .inl (fun _ => 0)))]) [1, 2, 3, 4, 5, 6, 7, 8, 9, 10, 11, 12, 13, 14, 15, 16, 17, 18, 19, 20, 21, 22, 23, 24, 25, 26, 27, 28, 29, 30, 31, 32, 33, 34, 35, 36, 37, 38, 39, 40, 41, 42, 43, 44] rfl
  have hDr := hD.sub (ws' := [(sea, .inr (3, [.ref lc, .ref ct, .ref ch])), (lc, .inl (cZ, 160, .inl (fun _ => 0))), (ct, .inl (cZ, 12, .inl (fun _ => 0))), (ch, .inl (cV, 12, .inr (.inr (.inr (.inr (fun i => if i < 12 then some (rr i) else none)))))), ((rr 0), .inl (cB, 160, .inl (fun _ => 0))), ((rr 1), .inl (cB, 160, .inl (fun _ => 0))), ((rr 2), .inl (cB, 160, .inl (fun _ => 0))), ((rr 3), .inl (cB, 160, .inl (fun _ => 0))), ((rr 4), .inl (cB, 160, .inl (fun _ => 0))), ((rr 5), .inl (cB, 160, .inl (fun _ => 0))), ((rr 6), .inl (cB, 160, .inl (fun _ => 0))), ((rr 7), .inl (cB, 160, .inl (fun _ => 0))), ((rr 8), .inl (cB, 160, .inl (fun _ => 0))), ((rr 9), .inl (cB, 160, .inl (fun _ => 0))), ((rr 10), .inl (cB, 160, .inl (fun _ => 0))), ((rr 11), .inl (cB, 160, .inl (fun _ => 0))), (pas, .inr (2, [.ref hot, .ref dp])), (hot, .inl (cI, 160, .inl (fun _ => 0))), (dp, .inl (cZ, 160, .inl (fun _ => 0))), (fl, .inr (0, [.int 0, .ref te, .int 0])), (fc, .inl (cI, 6, .inl (fun _ => 0))), (m0, .inr (7, [.int 0, .ref mfi, .long 0, .int 0, .ref mil, .ref mic, .ref mwi, .int 0, .int 0, .ref mmo, .int 0, .ref mki, .ref mce, .ref mgo, .ref mwa, .ref mha, .ref mch, .ref mfo, .ref mca, .ref mor, .ref mro, .ref mra, .ref mpr, .ref mho, .ref mis, .int 0, .ref mss, .ref msc, .ref msh, .int 100, .int 1])), (mfi, .inl (cI, 6, .inl (fun _ => 0))), (mil, .inl (cZ, 160, .inl (fun _ => 0))), (mic, .inl (cZ, 12, .inl (fun _ => 0))), (mwi, .inl (cI, 1920, .inl (fun _ => 0))), (mmo, .inl (cI, 160, .inl (fun _ => 0))), (mki, .inl (cI, 8, .inl (fun _ => 0))), (mce, .inl (cI, 8, .inl (fun _ => 0))), (mgo, .inl (cI, 8, .inl (fun _ => 0))), (mwa, .inl (cI, 8, .inl (fun _ => 0))), (mha, .inl (cI, 8, .inl (fun _ => 0))), (mch, .inl (cI, 8, .inl (fun _ => 0))), (mfo, .inl (cI, 8, .inl (fun _ => 0))), (mca, .inl (cI, 8, .inl (fun _ => 0))), (mor, .inl (cI, 8, .inl (fun _ => 0))), (mro, .inl (cI, 960, .inl (fun _ => 0))), (mra, .inl (cI, 8, .inl (fun _ => 0))), (mpr, .inl (cI, 8, .inl (fun _ => 0))), (mho, .inl (cI, 160, .inl (fun _ => 0))), (mis, .inl (cZ, 160, .inl (fun _ => 0))), (mss, .inl (cI, 60, .inl (fun _ => 0))), (msc, .inl (cI, 60, .inl (fun _ => 0))), (msh, .inl (cI, 60, .inl (fun _ => 0)))]) [1, 2, 3, 4, 5, 6, 7, 8, 9, 10, 11, 12, 13, 14, 15, 16, 17, 18, 19, 20, 21, 22, 23, 24, 25, 26, 27, 28, 29, 30, 31, 32, 33, 34, 35, 36, 37, 38, 39, 40, 41, 42, 43, 44] (by decide) rfl
  have hP := wr_P hk1 hPr (va_apartR hD [0] [1, 2, 3, 4, 5, 6, 7, 8, 9, 10, 11, 12, 13, 14, 15, 16, 17, 18, 19, 20, 21, 22, 23, 24, 25, 26, 27, 28, 29, 30, 31, 32, 33, 34, 35, 36, 37, 38, 39, 40, 41, 42, 43, 44] rfl rfl (by decide))
  have hD := hDr
  generalize H1 = H at hP hS ⊢
  have hP : va_P (dC, dI) vwCl [(sea, .inr (3, [.ref lc, .ref ct, .ref ch])), (lc, .inl (cZ, 160, .inl (fun _ => 0))), (ct, .inl (cZ, 12, .inl (fun _ => 0))), (ch, .inl (cV, 12, .inr (.inr (.inr (.inr (fun i => if i < 12 then some (rr i) else none)))))), ((rr 0), .inl (cB, 160, .inl (fun _ => 0))), ((rr 1), .inl (cB, 160, .inl (fun _ => 0))), ((rr 2), .inl (cB, 160, .inl (fun _ => 0))), ((rr 3), .inl (cB, 160, .inl (fun _ => 0))), ((rr 4), .inl (cB, 160, .inl (fun _ => 0))), ((rr 5), .inl (cB, 160, .inl (fun _ => 0))), ((rr 6), .inl (cB, 160, .inl (fun _ => 0))), ((rr 7), .inl (cB, 160, .inl (fun _ => 0))), ((rr 8), .inl (cB, 160, .inl (fun _ => 0))), ((rr 9), .inl (cB, 160, .inl (fun _ => 0))), ((rr 10), .inl (cB, 160, .inl (fun _ => 0))), ((rr 11), .inl (cB, 160, .inl (fun _ => 0))), (pas, .inr (2, [.ref hot, .ref dp])), (hot, .inl (cI, 160, .inl (fun _ => 0))), (dp, .inl (cZ, 160, .inl (fun _ => 0))), (fl, .inr (0, [.int 0, .ref te, .int 0])), (fc, .inl (cI, 6, .inl (fun _ => 0))), (m0, .inr (7, [.int 0, .ref mfi, .long 0, .int 0, .ref mil, .ref mic, .ref mwi, .int 0, .int 0, .ref mmo, .int 0, .ref mki, .ref mce, .ref mgo, .ref mwa, .ref mha, .ref mch, .ref mfo, .ref mca, .ref mor, .ref mro, .ref mra, .ref mpr, .ref mho, .ref mis, .int 0, .ref mss, .ref msc, .ref msh, .int 100, .int 1])), (mfi, .inl (cI, 6, .inl (fun _ => 0))), (mil, .inl (cZ, 160, .inl (fun _ => 0))), (mic, .inl (cZ, 12, .inl (fun _ => 0))), (mwi, .inl (cI, 1920, .inl (fun _ => 0))), (mmo, .inl (cI, 160, .inl (fun _ => 0))), (mki, .inl (cI, 8, .inl (fun _ => 0))), (mce, .inl (cI, 8, .inl (fun _ => 0))), (mgo, .inl (cI, 8, .inl (fun _ => 0))), (mwa, .inl (cI, 8, .inl (fun _ => 0))), (mha, .inl (cI, 8, .inl (fun _ => 0))), (mch, .inl (cI, 8, .inl (fun _ => 0))), (mfo, .inl (cI, 8, .inl (fun _ => 0))), (mca, .inl (cI, 8, .inl (fun _ => 0))), (mor, .inl (cI, 8, .inl (fun _ => 0))), (mro, .inl (cI, 960, .inl (fun _ => 0))), (mra, .inl (cI, 8, .inl (fun _ => 0))), (mpr, .inl (cI, 8, .inl (fun _ => 0))), (mho, .inl (cI, 160, .inl (fun _ => 0))), (mis, .inl (cZ, 160, .inl (fun _ => 0))), (mss, .inl (cI, 60, .inl (fun _ => 0))), (msc, .inl (cI, 60, .inl (fun _ => 0))), (msh, .inl (cI, 60, .inl (fun _ => 0)))] H := hP
  have hD : va_D A [(sea, .inr (3, [.ref lc, .ref ct, .ref ch])), (lc, .inl (cZ, 160, .inl (fun _ => 0))), (ct, .inl (cZ, 12, .inl (fun _ => 0))), (ch, .inl (cV, 12, .inr (.inr (.inr (.inr (fun i => if i < 12 then some (rr i) else none)))))), ((rr 0), .inl (cB, 160, .inl (fun _ => 0))), ((rr 1), .inl (cB, 160, .inl (fun _ => 0))), ((rr 2), .inl (cB, 160, .inl (fun _ => 0))), ((rr 3), .inl (cB, 160, .inl (fun _ => 0))), ((rr 4), .inl (cB, 160, .inl (fun _ => 0))), ((rr 5), .inl (cB, 160, .inl (fun _ => 0))), ((rr 6), .inl (cB, 160, .inl (fun _ => 0))), ((rr 7), .inl (cB, 160, .inl (fun _ => 0))), ((rr 8), .inl (cB, 160, .inl (fun _ => 0))), ((rr 9), .inl (cB, 160, .inl (fun _ => 0))), ((rr 10), .inl (cB, 160, .inl (fun _ => 0))), ((rr 11), .inl (cB, 160, .inl (fun _ => 0))), (pas, .inr (2, [.ref hot, .ref dp])), (hot, .inl (cI, 160, .inl (fun _ => 0))), (dp, .inl (cZ, 160, .inl (fun _ => 0))), (fl, .inr (0, [.int 0, .ref te, .int 0])), (fc, .inl (cI, 6, .inl (fun _ => 0))), (m0, .inr (7, [.int 0, .ref mfi, .long 0, .int 0, .ref mil, .ref mic, .ref mwi, .int 0, .int 0, .ref mmo, .int 0, .ref mki, .ref mce, .ref mgo, .ref mwa, .ref mha, .ref mch, .ref mfo, .ref mca, .ref mor, .ref mro, .ref mra, .ref mpr, .ref mho, .ref mis, .int 0, .ref mss, .ref msc, .ref msh, .int 100, .int 1])), (mfi, .inl (cI, 6, .inl (fun _ => 0))), (mil, .inl (cZ, 160, .inl (fun _ => 0))), (mic, .inl (cZ, 12, .inl (fun _ => 0))), (mwi, .inl (cI, 1920, .inl (fun _ => 0))), (mmo, .inl (cI, 160, .inl (fun _ => 0))), (mki, .inl (cI, 8, .inl (fun _ => 0))), (mce, .inl (cI, 8, .inl (fun _ => 0))), (mgo, .inl (cI, 8, .inl (fun _ => 0))), (mwa, .inl (cI, 8, .inl (fun _ => 0))), (mha, .inl (cI, 8, .inl (fun _ => 0))), (mch, .inl (cI, 8, .inl (fun _ => 0))), (mfo, .inl (cI, 8, .inl (fun _ => 0))), (mca, .inl (cI, 8, .inl (fun _ => 0))), (mor, .inl (cI, 8, .inl (fun _ => 0))), (mro, .inl (cI, 960, .inl (fun _ => 0))), (mra, .inl (cI, 8, .inl (fun _ => 0))), (mpr, .inl (cI, 8, .inl (fun _ => 0))), (mho, .inl (cI, 160, .inl (fun _ => 0))), (mis, .inl (cZ, 160, .inl (fun _ => 0))), (mss, .inl (cI, 60, .inl (fun _ => 0))), (msc, .inl (cI, 60, .inl (fun _ => 0))), (msh, .inl (cI, 60, .inl (fun _ => 0)))] := hD
  try dsimp only at k_6
  refine lv_aload_n hx hb dL_law_1017 rfl (lv_at hl 1 rfl) ?_
  refine lv_aload_n hx hb dL_law_1018 rfl (lv_at hl 3 rfl) ?_
  refine lv_iload_n hx hb dL_law_1019 rfl (lv_at hl 0 rfl) ?_
  refine lv_iconst (v := 1) hx hb dL_law_1020 (by decide) ?_
  refine lv_iadd hx hb dL_law_1021 ?_
  refine lv_topi (fun x_7 ex_7 => ?_)
  obtain rfl : x_7 = 1 := ex_7.trans (by decide +kernel)
  refine va_sld hx hb hX hbl hbA hS (vp_in_iff.mpr (by decide +kernel)) dL_law_1022 ?_
  refine lv_topi (fun y1_8 ey1_8 => ?_)
  obtain rfl : y1_2 = y1_8 := ey1_2.trans ey1_8.symm
  refine lv_aload_n hx hb dL_law_1023 rfl (lv_at hl 3 rfl) ?_
  refine lv_iload_n hx hb dL_law_1024 rfl (lv_at hl 0 rfl) ?_
  refine lv_iconst (v := 2) hx hb dL_law_1025 (by decide) ?_
  refine lv_iadd hx hb dL_law_1026 ?_
  refine lv_topi (fun x_9 ex_9 => ?_)
  obtain rfl : x_9 = 2 := ex_9.trans (by decide +kernel)
  refine va_sld hx hb hX hbl hbA hS (vp_in_iff.mpr (by decide +kernel)) dL_law_1027 ?_
  refine lv_topi (fun y2_10 ey2_10 => ?_)
  obtain rfl : y2_4 = y2_10 := ey2_4.trans ey2_10.symm
  have hPc := hP.sub (ws' := [(m0, .inr (7, [.int 0, .ref mfi, .long 0, .int 0, .ref mil, .ref mic, .ref mwi, .int 0, .int 0, .ref mmo, .int 0, .ref mki, .ref mce, .ref mgo, .ref mwa, .ref mha, .ref mch, .ref mfo, .ref mca, .ref mor, .ref mro, .ref mra, .ref mpr, .ref mho, .ref mis, .int 0, .ref mss, .ref msc, .ref msh, .int 100, .int 1]))]) [21] rfl
  have hDc := hD.sub (ws' := [(m0, .inr (7, [.int 0, .ref mfi, .long 0, .int 0, .ref mil, .ref mic, .ref mwi, .int 0, .int 0, .ref mmo, .int 0, .ref mki, .ref mce, .ref mgo, .ref mwa, .ref mha, .ref mch, .ref mfo, .ref mca, .ref mor, .ref mro, .ref mra, .ref mpr, .ref mho, .ref mis, .int 0, .ref mss, .ref msc, .ref msh, .int 100, .int 1]))]) [21] (by decide) rfl
  have hKc := hK.sub (tys' := []) [] rfl
  have hFc := va_free (wc := [(m0, .inr (7, [.int 0, .ref mfi, .long 0, .int 0, .ref mil, .ref mic, .ref mwi, .int 0, .int 0, .ref mmo, .int 0, .ref mki, .ref mce, .ref mgo, .ref mwa, .ref mha, .ref mch, .ref mfo, .ref mca, .ref mor, .ref mro, .ref mra, .ref mpr, .ref mho, .ref mis, .int 0, .ref mss, .ref msc, .ref msh, .int 100, .int 1]))]) hD hS hA [21] rfl
  refine va_calli (va_runV (As := [.int y1_2, .int y2_4]) (rest := [.int r_5]) ⟨hx, hb, hml, hown, hts⟩ (c_X6_market l dC dI H.size m0 mfi mil mic mwi mmo mki mce mgo mwa mha mch mfo mca mor mro mra mpr mho mis mss msc msh y1_2 y2_4 ) (cwV 2 hts gL_law_X6_market rfl rfl rfl (by decide +kernel) ⟨Nat.le_of_ble_eq_true rfl, Nat.le_of_ble_eq_true rfl⟩) ⟨fun a U g mk q => by obtain ⟨q0, q1, qP, qK, qN, qD⟩ := q; exact ⟨q0, q1, qP, va_K.moved (u := U) (U := U.calling g mk a) (Vm.Alike.refl U.vm) qK, NW.same (u := U) (U := U.calling g mk a) rfl qN, qD⟩, va_recv hKc hPc (ci := 7) (q0 := 0) rfl rfl, fun U hU hW => ⟨rfl, by rw [hU], by rw [hU]; exact hPc, va_K.moved hW.alike hKc, NW.warm hW hN, hDc.weaken (fun _ _ _ _ => trivial)⟩⟩ rfl rfl hl.1 rfl (lv_room (Nat.le_of_ble_eq_true rfl)) dL_law_1028 ⟨Nat.le_of_ble_eq_true rfl, Nat.le_of_ble_eq_true rfl⟩) hS (fun q _ h => hFc q h) hFc (fun r_11 u t H1 locs ht hvm k_12 hB hz1 hk1 hS => ?_)
  have hPr := hP.sub (ws' := [(sea, .inr (3, [.ref lc, .ref ct, .ref ch])), (lc, .inl (cZ, 160, .inl (fun _ => 0))), (ct, .inl (cZ, 12, .inl (fun _ => 0))), (ch, .inl (cV, 12, .inr (.inr (.inr (.inr (fun i => if i < 12 then some (rr i) else none)))))), ((rr 0), .inl (cB, 160, .inl (fun _ => 0))), ((rr 1), .inl (cB, 160, .inl (fun _ => 0))), ((rr 2), .inl (cB, 160, .inl (fun _ => 0))), ((rr 3), .inl (cB, 160, .inl (fun _ => 0))), ((rr 4), .inl (cB, 160, .inl (fun _ => 0))), ((rr 5), .inl (cB, 160, .inl (fun _ => 0))), ((rr 6), .inl (cB, 160, .inl (fun _ => 0))), ((rr 7), .inl (cB, 160, .inl (fun _ => 0))), ((rr 8), .inl (cB, 160, .inl (fun _ => 0))), ((rr 9), .inl (cB, 160, .inl (fun _ => 0))), ((rr 10), .inl (cB, 160, .inl (fun _ => 0))), ((rr 11), .inl (cB, 160, .inl (fun _ => 0))), (pas, .inr (2, [.ref hot, .ref dp])), (hot, .inl (cI, 160, .inl (fun _ => 0))), (dp, .inl (cZ, 160, .inl (fun _ => 0))), (fl, .inr (0, [.int 0, .ref te, .int 0])), (fc, .inl (cI, 6, .inl (fun _ => 0))), (mfi, .inl (cI, 6, .inl (fun _ => 0))), (mil, .inl (cZ, 160, .inl (fun _ => 0))), (mic, .inl (cZ, 12, .inl (fun _ => 0))), (mwi, .inl (cI, 1920, .inl (fun _ => 0))), (mmo, .inl (cI, 160, .inl (fun _ => 0))), (mki, .inl (cI, 8, .inl (fun _ => 0))), (mce, .inl (cI, 8, .inl (fun _ => 0))), (mgo, .inl (cI, 8, .inl (fun _ => 0))), (mwa, .inl (cI, 8, .inl (fun _ => 0))), (mha, .inl (cI, 8, .inl (fun _ => 0))), (mch, .inl (cI, 8, .inl (fun _ => 0))), (mfo, .inl (cI, 8, .inl (fun _ => 0))), (mca, .inl (cI, 8, .inl (fun _ => 0))), (mor, .inl (cI, 8, .inl (fun _ => 0))), (mro, .inl (cI, 960, .inl (fun _ => 0))), (mra, .inl (cI, 8, .inl (fun _ => 0))), (mpr, .inl (cI, 8, .inl (fun _ => 0))), (mho, .inl (cI, 160, .inl (fun _ => 0))), (mis, .inl (cZ, 160, .inl (fun _ => 0))), (mss, .inl (cI, 60, .inl (fun _ => 0))), (msc, .inl (cI, 60, .inl (fun _ => 0))), (msh, .inl (cI, 60, .inl (fun _ => 0)))]) [0, 1, 2, 3, 4, 5, 6, 7, 8, 9, 10, 11, 12, 13, 14, 15, 16, 17, 18, 19, 20, 22, 23, 24, 25, 26, 27, 28, 29, 30, 31, 32, 33, 34, 35, 36, 37, 38, 39, 40, 41, 42, 43] rfl
  have hDr := hD.sub (ws' := [(sea, .inr (3, [.ref lc, .ref ct, .ref ch])), (lc, .inl (cZ, 160, .inl (fun _ => 0))), (ct, .inl (cZ, 12, .inl (fun _ => 0))), (ch, .inl (cV, 12, .inr (.inr (.inr (.inr (fun i => if i < 12 then some (rr i) else none)))))), ((rr 0), .inl (cB, 160, .inl (fun _ => 0))), ((rr 1), .inl (cB, 160, .inl (fun _ => 0))), ((rr 2), .inl (cB, 160, .inl (fun _ => 0))), ((rr 3), .inl (cB, 160, .inl (fun _ => 0))), ((rr 4), .inl (cB, 160, .inl (fun _ => 0))), ((rr 5), .inl (cB, 160, .inl (fun _ => 0))), ((rr 6), .inl (cB, 160, .inl (fun _ => 0))), ((rr 7), .inl (cB, 160, .inl (fun _ => 0))), ((rr 8), .inl (cB, 160, .inl (fun _ => 0))), ((rr 9), .inl (cB, 160, .inl (fun _ => 0))), ((rr 10), .inl (cB, 160, .inl (fun _ => 0))), ((rr 11), .inl (cB, 160, .inl (fun _ => 0))), (pas, .inr (2, [.ref hot, .ref dp])), (hot, .inl (cI, 160, .inl (fun _ => 0))), (dp, .inl (cZ, 160, .inl (fun _ => 0))), (fl, .inr (0, [.int 0, .ref te, .int 0])), (fc, .inl (cI, 6, .inl (fun _ => 0))), (mfi, .inl (cI, 6, .inl (fun _ => 0))), (mil, .inl (cZ, 160, .inl (fun _ => 0))), (mic, .inl (cZ, 12, .inl (fun _ => 0))), (mwi, .inl (cI, 1920, .inl (fun _ => 0))), (mmo, .inl (cI, 160, .inl (fun _ => 0))), (mki, .inl (cI, 8, .inl (fun _ => 0))), (mce, .inl (cI, 8, .inl (fun _ => 0))), (mgo, .inl (cI, 8, .inl (fun _ => 0))), (mwa, .inl (cI, 8, .inl (fun _ => 0))), (mha, .inl (cI, 8, .inl (fun _ => 0))), (mch, .inl (cI, 8, .inl (fun _ => 0))), (mfo, .inl (cI, 8, .inl (fun _ => 0))), (mca, .inl (cI, 8, .inl (fun _ => 0))), (mor, .inl (cI, 8, .inl (fun _ => 0))), (mro, .inl (cI, 960, .inl (fun _ => 0))), (mra, .inl (cI, 8, .inl (fun _ => 0))), (mpr, .inl (cI, 8, .inl (fun _ => 0))), (mho, .inl (cI, 160, .inl (fun _ => 0))), (mis, .inl (cZ, 160, .inl (fun _ => 0))), (mss, .inl (cI, 60, .inl (fun _ => 0))), (msc, .inl (cI, 60, .inl (fun _ => 0))), (msh, .inl (cI, 60, .inl (fun _ => 0)))]) [0, 1, 2, 3, 4, 5, 6, 7, 8, 9, 10, 11, 12, 13, 14, 15, 16, 17, 18, 19, 20, 22, 23, 24, 25, 26, 27, 28, 29, 30, 31, 32, 33, 34, 35, 36, 37, 38, 39, 40, 41, 42, 43] (by decide) rfl
  have hP := wr_P hk1 hPr (va_apartR hD [21] [0, 1, 2, 3, 4, 5, 6, 7, 8, 9, 10, 11, 12, 13, 14, 15, 16, 17, 18, 19, 20, 22, 23, 24, 25, 26, 27, 28, 29, 30, 31, 32, 33, 34, 35, 36, 37, 38, 39, 40, 41, 42, 43] rfl rfl (by decide))
  have hD := hDr
  generalize H1 = H at hP hS ⊢
  have hP : va_P (dC, dI) vwCl [(sea, .inr (3, [.ref lc, .ref ct, .ref ch])), (lc, .inl (cZ, 160, .inl (fun _ => 0))), (ct, .inl (cZ, 12, .inl (fun _ => 0))), (ch, .inl (cV, 12, .inr (.inr (.inr (.inr (fun i => if i < 12 then some (rr i) else none)))))), ((rr 0), .inl (cB, 160, .inl (fun _ => 0))), ((rr 1), .inl (cB, 160, .inl (fun _ => 0))), ((rr 2), .inl (cB, 160, .inl (fun _ => 0))), ((rr 3), .inl (cB, 160, .inl (fun _ => 0))), ((rr 4), .inl (cB, 160, .inl (fun _ => 0))), ((rr 5), .inl (cB, 160, .inl (fun _ => 0))), ((rr 6), .inl (cB, 160, .inl (fun _ => 0))), ((rr 7), .inl (cB, 160, .inl (fun _ => 0))), ((rr 8), .inl (cB, 160, .inl (fun _ => 0))), ((rr 9), .inl (cB, 160, .inl (fun _ => 0))), ((rr 10), .inl (cB, 160, .inl (fun _ => 0))), ((rr 11), .inl (cB, 160, .inl (fun _ => 0))), (pas, .inr (2, [.ref hot, .ref dp])), (hot, .inl (cI, 160, .inl (fun _ => 0))), (dp, .inl (cZ, 160, .inl (fun _ => 0))), (fl, .inr (0, [.int 0, .ref te, .int 0])), (fc, .inl (cI, 6, .inl (fun _ => 0))), (mfi, .inl (cI, 6, .inl (fun _ => 0))), (mil, .inl (cZ, 160, .inl (fun _ => 0))), (mic, .inl (cZ, 12, .inl (fun _ => 0))), (mwi, .inl (cI, 1920, .inl (fun _ => 0))), (mmo, .inl (cI, 160, .inl (fun _ => 0))), (mki, .inl (cI, 8, .inl (fun _ => 0))), (mce, .inl (cI, 8, .inl (fun _ => 0))), (mgo, .inl (cI, 8, .inl (fun _ => 0))), (mwa, .inl (cI, 8, .inl (fun _ => 0))), (mha, .inl (cI, 8, .inl (fun _ => 0))), (mch, .inl (cI, 8, .inl (fun _ => 0))), (mfo, .inl (cI, 8, .inl (fun _ => 0))), (mca, .inl (cI, 8, .inl (fun _ => 0))), (mor, .inl (cI, 8, .inl (fun _ => 0))), (mro, .inl (cI, 960, .inl (fun _ => 0))), (mra, .inl (cI, 8, .inl (fun _ => 0))), (mpr, .inl (cI, 8, .inl (fun _ => 0))), (mho, .inl (cI, 160, .inl (fun _ => 0))), (mis, .inl (cZ, 160, .inl (fun _ => 0))), (mss, .inl (cI, 60, .inl (fun _ => 0))), (msc, .inl (cI, 60, .inl (fun _ => 0))), (msh, .inl (cI, 60, .inl (fun _ => 0)))] H := hP
  have hD : va_D A [(sea, .inr (3, [.ref lc, .ref ct, .ref ch])), (lc, .inl (cZ, 160, .inl (fun _ => 0))), (ct, .inl (cZ, 12, .inl (fun _ => 0))), (ch, .inl (cV, 12, .inr (.inr (.inr (.inr (fun i => if i < 12 then some (rr i) else none)))))), ((rr 0), .inl (cB, 160, .inl (fun _ => 0))), ((rr 1), .inl (cB, 160, .inl (fun _ => 0))), ((rr 2), .inl (cB, 160, .inl (fun _ => 0))), ((rr 3), .inl (cB, 160, .inl (fun _ => 0))), ((rr 4), .inl (cB, 160, .inl (fun _ => 0))), ((rr 5), .inl (cB, 160, .inl (fun _ => 0))), ((rr 6), .inl (cB, 160, .inl (fun _ => 0))), ((rr 7), .inl (cB, 160, .inl (fun _ => 0))), ((rr 8), .inl (cB, 160, .inl (fun _ => 0))), ((rr 9), .inl (cB, 160, .inl (fun _ => 0))), ((rr 10), .inl (cB, 160, .inl (fun _ => 0))), ((rr 11), .inl (cB, 160, .inl (fun _ => 0))), (pas, .inr (2, [.ref hot, .ref dp])), (hot, .inl (cI, 160, .inl (fun _ => 0))), (dp, .inl (cZ, 160, .inl (fun _ => 0))), (fl, .inr (0, [.int 0, .ref te, .int 0])), (fc, .inl (cI, 6, .inl (fun _ => 0))), (mfi, .inl (cI, 6, .inl (fun _ => 0))), (mil, .inl (cZ, 160, .inl (fun _ => 0))), (mic, .inl (cZ, 12, .inl (fun _ => 0))), (mwi, .inl (cI, 1920, .inl (fun _ => 0))), (mmo, .inl (cI, 160, .inl (fun _ => 0))), (mki, .inl (cI, 8, .inl (fun _ => 0))), (mce, .inl (cI, 8, .inl (fun _ => 0))), (mgo, .inl (cI, 8, .inl (fun _ => 0))), (mwa, .inl (cI, 8, .inl (fun _ => 0))), (mha, .inl (cI, 8, .inl (fun _ => 0))), (mch, .inl (cI, 8, .inl (fun _ => 0))), (mfo, .inl (cI, 8, .inl (fun _ => 0))), (mca, .inl (cI, 8, .inl (fun _ => 0))), (mor, .inl (cI, 8, .inl (fun _ => 0))), (mro, .inl (cI, 960, .inl (fun _ => 0))), (mra, .inl (cI, 8, .inl (fun _ => 0))), (mpr, .inl (cI, 8, .inl (fun _ => 0))), (mho, .inl (cI, 160, .inl (fun _ => 0))), (mis, .inl (cZ, 160, .inl (fun _ => 0))), (mss, .inl (cI, 60, .inl (fun _ => 0))), (msc, .inl (cI, 60, .inl (fun _ => 0))), (msh, .inl (cI, 60, .inl (fun _ => 0)))] := hD
  try dsimp only at k_12
  refine lv_icmp_eq (tgt := 1159) hx hb dL_law_1031 (by decide) (fun c_13 => ?_) (fun c_13 => absurd (by rw [k_6, k_12]) c_13)
  exact law_end l C0 hAb (Nat.le_of_ble_eq_true rfl) (Nat.le_of_ble_eq_true rfl) hS ls (lv_sub hl [0, 3, 2, 1] rfl)
