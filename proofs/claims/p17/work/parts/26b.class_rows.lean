set_option maxHeartbeats 4000000 in
set_option maxRecDepth 100000 in
/-- Arrays.fill -/
theorem c_J7_fill_031fb (l : Launch) (dC : Nat → ClassId) (dI : Nat → Nat → Nat) (sz : Nat) (o : Nat) (Kb : Nat → Int32) (cB : ClassId) (b0 : Int32)  : Met l yJ7_fill_031fb wsJ7_fill_031fb ({ frames := 0, cells := 0, slots := 0, locals := 0 }) (va_Pc [.ref o, .int b0] (fun U => U.heap.size = sz ∧ va_P (dC, dI) vwCl [(o, .inl (cB, 160, .inl Kb))] U.heap ∧ va_K (dC, dI) vwCl [(cB, .byte)] U ∧ NW U ∧ va_D (fun _ => True) [(o, .inl (cB, 160, .inl Kb))])) (va_Qv (fun (u : (Nat → Int32)) => (∀ j : Nat, j < 160 → u j = vp_nar .byte b0) ∧ (ByteRow Kb → ByteRow u)) (fun u t => va_P (dC, dI) vwCl [(o, .inl (cB, 160, .inl u))] t.heap ∧ va_K (dC, dI) vwCl [(cB, .byte)] t ∧ va_D (va_A [(o, .inl (cB, 160, .inl Kb))] sz) [(o, .inl (cB, 160, .inl u))]) (va_A [(o, .inl (cB, 160, .inl Kb))] sz)) 0 0 (va_A [(o, .inl (cB, 160, .inl Kb))] sz) := by
  refine Met.ofW (cc := cJ7_fill_031fb) (maxL := 4) (ret := none) (by decide) rfl ?_
  intro p e s m args below meth c s₁ B hml hv
  obtain ⟨rfl, hsz, hP, hK, hN, hD0⟩ := hv
  have hx := B.exec
  have hb := B.bytes
  have hr := B.returns
  have hts := atoms_spec (ws := wsJ7_fill_031fb) B.pre
  have hown : s.vm.findClass RJ7 = some m.cls := findClass_of_methodNamed B.named
  have hlocks := B.notSynchronized
  subst hsz
  have hD := hD0.self (sz := s.heap.size)
  generalize hAe : va_A [(o, .inl (cB, 160, .inl Kb))] s.heap.size = A at hD ⊢
  have hA : ∀ q : Nat, s.heap.size ≤ q → A q := fun q h => by rw [← hAe]; exact Or.inr h
  have hS : va_S A s.heap s.heap [] := va_S.rf
  have hP : va_P (dC, dI) vwCl [(o, .inl (cB, 160, .inl Kb))] s.heap := hP
  have hl := lv_entry ([.ref o, .int b0]) (n := 4) (Nat.le_of_ble_eq_true rfl)
  rw [lg_entry_eq]
  generalize (lg_sl ([.ref o, .int b0]) ++ List.replicate (4 - (lg_sl ([.ref o, .int b0])).length) Slot.unset).toArray = ls at hl ⊢
  have hl : lv_has ls 4 [(0, .ref o), (1, .int b0)] := hl
  refine lv_iconst (v := 0) hx hb dJ7_fill_031fb_0 (by decide) ?_
  refine lv_istore_n (lv' := [(2, .int 0), (0, .ref o), (1, .int b0)]) hx hb dJ7_fill_031fb_1 rfl hl (by decide) rfl (fun ls hl => ?_)
  refine lv_aload_n hx hb dJ7_fill_031fb_2 rfl (lv_at hl 1 rfl) ?_
  refine va_alen (v := 160) hx hb hK hP 0 0 rfl rfl (by rfl) dJ7_fill_031fb_3 ?_
  refine lv_istore_n (lv' := [(3, .int 160), (2, .int 0), (0, .ref o), (1, .int b0)]) hx hb dJ7_fill_031fb_4 rfl hl (by decide) rfl (fun ls hl => ?_)
  have key5 : ∀ (n5 : Nat) (ik : Int32) (wf : Nat → Int32) (H : Heap) (locs : List Loc) (ls : Array Slot), (0 ≤ ik.toInt ∧ ik.toInt ≤ 160) → (∀ j : Nat, (j : Int) < ik.toInt → wf j = vp_nar .byte b0) → (ByteRow Kb → ByteRow wf) → 160 - ik.toInt < (n5 : Int) → va_P (dC, dI) vwCl [(o, .inl (cB, 160, .inl wf))] H → va_D A [(o, .inl (cB, 160, .inl wf))] → va_S A s.heap H locs → lv_has ls 4 [(3, .int 160), (2, .int ik), (0, .ref o), (1, .int b0)] → W p l e ({ frames := 0, cells := 0, slots := 0, locals := 0 } : Room) s m ([.ref o, .int b0] : List Value).toArray below meth c H locs 0 0 (MQ below (va_Qv (fun (u : (Nat → Int32)) => (∀ j : Nat, j < 160 → u j = vp_nar .byte b0) ∧ (ByteRow Kb → ByteRow u)) (fun u t => va_P (dC, dI) vwCl [(o, .inl (cB, 160, .inl u))] t.heap ∧ va_K (dC, dI) vwCl [(cB, .byte)] t ∧ va_D A [(o, .inl (cB, 160, .inl u))]) A) ([.ref o, .int b0] : List Value).toArray s 0 0 A) (F0 m 5 ls []) := by
    intro n5
    induction n5 with
    | zero =>
      intro ik wf H locs ls i_ik hc hby hm5
      exact absurd hm5 (by omega)
    | succ n5 ih5 =>
      intro ik wf H locs ls i_ik hc hby hm5 hP hD hS hl
      refine lv_iload_n hx hb dJ7_fill_031fb_5 rfl (lv_at hl 1 rfl) ?_
      refine lv_iload_n hx hb dJ7_fill_031fb_6 rfl (lv_at hl 0 rfl) ?_
      refine lv_icmp_ge (tgt := 20) hx hb dJ7_fill_031fb_7 (by decide) (fun c_1 => ?_) (fun c_1 => ?_)
      · skip
        have qc_1 : 160 ≤ ik.toInt := le_k (by decide) rfl c_1
        have hP9 := hP.sub (ws' := [(o, .inl (cB, 160, .inl wf))]) [0] rfl
        have hD9 := hD.sub (ws' := [(o, .inl (cB, 160, .inl wf))]) [0] (by decide) rfl
        have hK9 := hK.sub (tys' := [(cB, .byte)]) [0] rfl
        exact W.vret hx hb hr (fun t ht hW => ⟨⟨wf, rfl, ⟨(fun j hj => hc j (by omega)), hby⟩, ⟨by rw [ht]; exact hP9, va_K.moved hW.alike hK9, hD9⟩⟩, hS.F ht⟩) hS.2.2 dJ7_fill_031fb_20
      · skip
        have qc_1 : ik.toInt < 160 := nle_k (by decide) rfl c_1
        refine lv_aload_n hx hb dJ7_fill_031fb_10 rfl (lv_at hl 2 rfl) ?_
        refine lv_iload_n hx hb dJ7_fill_031fb_11 rfl (lv_at hl 1 rfl) ?_
        refine lv_iload_n hx hb dJ7_fill_031fb_12 rfl (lv_at hl 3 rfl) ?_
        refine va_bast hx hb hK hP hD hS 0 0 rfl rfl (in_k rfl (by omega) (by omega)) dJ7_fill_031fb_13 (fun H locs hP hD hS => ?_)
        have hP : va_P (dC, dI) vwCl [(o, .inl (cB, 160, .inl (upd wf ik.toNatClampNeg (vp_nar .byte b0))))] H := hP
        have hD : va_D A [(o, .inl (cB, 160, .inl (upd wf ik.toNatClampNeg (vp_nar .byte b0))))] := hD
        have zs_2 : (upd wf ik.toNatClampNeg (vp_nar .byte b0) ik.toNatClampNeg).toInt = (vp_nar .byte b0).toInt := congrArg Int32.toInt (upd_at (wf) ik.toNatClampNeg (vp_nar .byte b0))
        obtain ⟨x_3, ex_3⟩ : ∃ y : Int32, y = ik + 1 := ⟨_, rfl⟩
        have tx_3 : x_3.toInt = ik.toInt + 1 := ad_k ex_3 rfl (by decide) (by omega) (by omega)
        refine lv_iinc (v := x_3) (lv' := [(2, .int x_3), (3, .int 160), (0, .ref o), (1, .int b0)]) hx hb dJ7_fill_031fb_14 hl (k := 1) rfl (by rw [ex_3]; rfl) (by decide) rfl (fun ls hl => ?_)
        refine lv_goto (tgt := 5) hx hb dJ7_fill_031fb_17 (by decide) ?_
        exact ih5 x_3 (upd wf ik.toNatClampNeg (vp_nar .byte b0)) H locs ls ⟨(by first | omega | (simp only [Int32.reduceToInt]; omega)), (by first | omega | (simp only [Int32.reduceToInt]; omega))⟩ (const_step hc rfl rfl (by omega)) (fun h9 => (hby h9).up _ _) (by first | omega | (simp only [Int32.reduceToInt]; omega)) hP hD hS (lv_sub hl [1, 0, 2, 3] rfl)
  exact key5 161 0 Kb _ _ ls (by decide) (fun j h => absurd h (by simp only [Int32.reduceToInt]; omega)) (fun h9 => h9) (by (try simp only [Int32.reduceToInt]); omega) hP hD hS hl
set_option maxRecDepth 20000 in
theorem iw_X2_drawCalm_X2 : ∀ w ∈ wsX20, w ∈ wsX2_drawCalm := fun w h => (List.mem_cons_of_mem _ (List.mem_append_right _ h))
set_option maxHeartbeats 4000000 in
set_option maxRecDepth 100000 in
/-- Sea.drawCalm -/
theorem c_X2_drawCalm (l : Launch) (dC : Nat → ClassId) (dI : Nat → Nat → Nat) (sz : Nat) (L : List Nat) (f : Nat → va_E) (sea : Nat) (lc : Nat) (ct : Nat) (ch : Nat) (rr : Nat → Nat) (cw : Nat → Nat → Int32) (Ct : Nat → Int32) (cZ : ClassId) (cB : ClassId) (cV : ClassId) (a0 : Int32) (i_a0 : 0 ≤ a0.toInt ∧ a0.toInt ≤ 11) (hrows : Rows L f rr cB cw) : Met l yX2_drawCalm wsX2_drawCalm ({ frames := 1, cells := 0, slots := 0, locals := 23 }) (va_Pc [.ref sea, .int a0] (fun U => U.heap.size = sz ∧ va_P (dC, dI) vwCl (([(sea, .inr (3, [.ref lc, .ref ct, .ref ch])), (ct, .inl (cZ, 12, .inl Ct)), (ch, .inl (cV, 12, .inr (.inr (.inr (.inr (fun i => if i < 12 then some (rr i) else none))))))] : va_W) ++ va_pl L f) U.heap ∧ va_K (dC, dI) vwCl [(cZ, .boolean), (cB, .byte), (cV, .array .byte)] U ∧ NW U ∧ va_D (fun _ => True) (([(sea, .inr (3, [.ref lc, .ref ct, .ref ch])), (ct, .inl (cZ, 12, .inl Ct)), (ch, .inl (cV, 12, .inr (.inr (.inr (.inr (fun i => if i < 12 then some (rr i) else none))))))] : va_W) ++ va_pl L f))) (va_Qv (fun (u : (Nat → va_E) × (Nat → Int32) × (Nat → Int32)) => (u.1 = va_up f (rr a0.toNatClampNeg) (.inl (cB, 160, .inl u.2.2))) ∧ (u.2.1 = upd Ct a0.toNatClampNeg (vp_nar .boolean (1 : Int32))) ∧ (∀ j : Nat, j < 160 → u.2.2 j = vp_nar .byte (0 : Int32)) ∧ (ByteRow u.2.2)) (fun u t => va_P (dC, dI) vwCl (([(sea, .inr (3, [.ref lc, .ref ct, .ref ch])), (ct, .inl (cZ, 12, .inl u.2.1)), (ch, .inl (cV, 12, .inr (.inr (.inr (.inr (fun i => if i < 12 then some (rr i) else none))))))] : va_W) ++ va_pl L u.1) t.heap ∧ va_K (dC, dI) vwCl [(cZ, .boolean), (cB, .byte), (cV, .array .byte)] t ∧ va_D (va_A (([(sea, .inr (3, [.ref lc, .ref ct, .ref ch])), (ct, .inl (cZ, 12, .inl Ct)), (ch, .inl (cV, 12, .inr (.inr (.inr (.inr (fun i => if i < 12 then some (rr i) else none))))))] : va_W) ++ va_pl L f) sz) (([(sea, .inr (3, [.ref lc, .ref ct, .ref ch])), (ct, .inl (cZ, 12, .inl u.2.1)), (ch, .inl (cV, 12, .inr (.inr (.inr (.inr (fun i => if i < 12 then some (rr i) else none))))))] : va_W) ++ va_pl L u.1)) (va_A (([(sea, .inr (3, [.ref lc, .ref ct, .ref ch])), (ct, .inl (cZ, 12, .inl Ct)), (ch, .inl (cV, 12, .inr (.inr (.inr (.inr (fun i => if i < 12 then some (rr i) else none))))))] : va_W) ++ va_pl L f) sz)) 0 0 (va_A (([(sea, .inr (3, [.ref lc, .ref ct, .ref ch])), (ct, .inl (cZ, 12, .inl Ct)), (ch, .inl (cV, 12, .inr (.inr (.inr (.inr (fun i => if i < 12 then some (rr i) else none))))))] : va_W) ++ va_pl L f) sz) := by
  refine Met.ofW (cc := cX2_drawCalm) (maxL := 2) (ret := none) (by decide) rfl ?_
  intro p e s m args below meth c s₁ B hml hv
  obtain ⟨rfl, hsz, hP, hK, hN, hD0⟩ := hv
  have hx := B.exec
  have hb := B.bytes
  have hr := B.returns
  have hts := atoms_spec (ws := wsX2_drawCalm) B.pre
  have hown : s.vm.findClass RX2 = some m.cls := findClass_of_methodNamed B.named
  have hlocks := B.notSynchronized
  subst hsz
  have hD := hD0.self (sz := s.heap.size)
  generalize hAe : va_A (([(sea, .inr (3, [.ref lc, .ref ct, .ref ch])), (ct, .inl (cZ, 12, .inl Ct)), (ch, .inl (cV, 12, .inr (.inr (.inr (.inr (fun i => if i < 12 then some (rr i) else none))))))] : va_W) ++ va_pl L f) s.heap.size = A at hD ⊢
  have hA : ∀ q : Nat, s.heap.size ≤ q → A q := fun q h => by rw [← hAe]; exact Or.inr h
  have hS : va_S A s.heap s.heap [] := va_S.rf
  have hP : va_P (dC, dI) vwCl (([(sea, .inr (3, [.ref lc, .ref ct, .ref ch])), (ct, .inl (cZ, 12, .inl Ct)), (ch, .inl (cV, 12, .inr (.inr (.inr (.inr (fun i => if i < 12 then some (rr i) else none))))))] : va_W) ++ va_pl L f) s.heap := hP
  have hl := lv_entry ([.ref sea, .int a0]) (n := 2) (Nat.le_of_ble_eq_true rfl)
  rw [lg_entry_eq]
  generalize (lg_sl ([.ref sea, .int a0]) ++ List.replicate (2 - (lg_sl ([.ref sea, .int a0])).length) Slot.unset).toArray = ls at hl ⊢
  have hl : lv_has ls 2 [(0, .ref sea), (1, .int a0)] := hl
  refine lv_iload_n hx hb dX2_drawCalm_0 rfl (lv_at hl 1 rfl) ?_
  refine lv_bipush (v := 11) hx hb dX2_drawCalm_1 (by decide) ?_
  refine va_calli (va_runSN (As := [.int a0, .int 11]) (rest := []) ⟨hx, hb, hml, hown, hts⟩ (c_X5_outside l s.heap.size a0 11 ) ⟨va_cnB 2 hts gX2_drawCalm_X5_outside_n23 rfl rfl rfl hN.nX2_23 (hts (.initialized RX5) (by decide +kernel)) (by decide +kernel) ⟨Nat.le_of_ble_eq_true rfl, Nat.le_of_ble_eq_true rfl⟩, hts (.static yX5_outside) (by decide +kernel), trivial⟩ ⟨fun a U g mk q => by obtain ⟨q0, q1⟩ := q; exact ⟨q0, q1⟩, fun U hU hW => ⟨rfl, congrArg Array.size hU⟩⟩ rfl rfl hl.1 rfl (lv_room (Nat.le_of_ble_eq_true rfl)) dX2_drawCalm_3 ⟨(Nat.zero_le _), (Nat.zero_le _)⟩) hS (fun q _ h => ro_A hS hA q h) (ro_A hS hA) (fun r_1 u t H1 locs ht hvm k_2 hB hz1 hk1 hS => ?_)
  have hP := ro_P hk1 hP
  generalize H1 = H at hP hS ⊢
  try dsimp only at k_2
  obtain ⟨k_2, k_3⟩ := k_2
  refine lv_if_ne (tgt := 26) hx hb dX2_drawCalm_6 (by decide) (fun c_4 => ?_) (fun c_4 => ?_)
  · skip
    have b_5 := b01n k_2 c_4
    (try simp only [Int32.lt_iff_toInt_lt, Int32.le_iff_toInt_le, ← Int32.toInt_inj, Int32.reduceToInt, zl1, zl2, zl3, zl4, zl9] at b_5)
    (try simp only [Int32.reduceToInt] at b_5)
    exfalso
    omega
  · skip
    have b_6 := b01z k_2 c_4
    (try simp only [Int32.lt_iff_toInt_lt, Int32.le_iff_toInt_le, ← Int32.toInt_inj, Int32.reduceToInt, zl1, zl2, zl3, zl4, zl9] at b_6)
    (try simp only [Int32.reduceToInt] at b_6)
    refine lv_aload_n hx hb dX2_drawCalm_9 rfl (lv_at hl 0 rfl) ?_
    refine va_get (D := (dC, dI)) (ci := 3) (v := .ref ct) (C := RX2) (T := TX2) (N := 3) hx hb hts iw_X2_drawCalm_X2 hown hK hP 0 rfl rfl 1 (by decide) (hts (.fieldLink RX2 15 "TeaRace$Sea" "chartThere" "[Z") (by decide +kernel)) (fun _ h9 => h9) rfl dX2_drawCalm_10 ?_
    refine lv_iload_n hx hb dX2_drawCalm_13 rfl (lv_at hl 1 rfl) ?_
    refine lv_iconst (v := 1) hx hb dX2_drawCalm_14 (by decide) ?_
    refine va_zast hx hb hK hP hD hS 1 0 rfl rfl (in_k rfl (by omega) (by omega)) dX2_drawCalm_15 (fun H locs hP hD hS => ?_)
    have hP : va_P (dC, dI) vwCl (([(sea, .inr (3, [.ref lc, .ref ct, .ref ch])), (ct, .inl (cZ, 12, .inl (upd Ct a0.toNatClampNeg (vp_nar .boolean (1 : Int32))))), (ch, .inl (cV, 12, .inr (.inr (.inr (.inr (fun i => if i < 12 then some (rr i) else none))))))] : va_W) ++ va_pl L f) H := hP
    have hD : va_D A (([(sea, .inr (3, [.ref lc, .ref ct, .ref ch])), (ct, .inl (cZ, 12, .inl (upd Ct a0.toNatClampNeg (vp_nar .boolean (1 : Int32))))), (ch, .inl (cV, 12, .inr (.inr (.inr (.inr (fun i => if i < 12 then some (rr i) else none))))))] : va_W) ++ va_pl L f) := hD
    have zs_7 : (upd Ct a0.toNatClampNeg (vp_nar .boolean (1 : Int32)) a0.toNatClampNeg).toInt = (vp_nar .boolean (1 : Int32)).toInt := congrArg Int32.toInt (upd_at (Ct) a0.toNatClampNeg (vp_nar .boolean (1 : Int32)))
    refine lv_aload_n hx hb dX2_drawCalm_16 rfl (lv_at hl 0 rfl) ?_
    refine va_get (D := (dC, dI)) (ci := 3) (v := .ref ch) (C := RX2) (T := TX2) (N := 3) hx hb hts iw_X2_drawCalm_X2 hown hK hP 0 rfl rfl 2 (by decide) (hts (.fieldLink RX2 20 "TeaRace$Sea" "charts" "[[B") (by decide +kernel)) (fun _ h9 => h9) rfl dX2_drawCalm_17 ?_
    refine lv_iload_n hx hb dX2_drawCalm_20 rfl (lv_at hl 1 rfl) ?_
    refine va_alda hx hb hK hP 2 2 rfl rfl (in_k rfl (by omega) (by omega)) dX2_drawCalm_21 ?_
    refine W.eq (g2 := F0 m 22 ls [.ref (rr a0.toNatClampNeg)]) (by rw [rr_at (by have := tn_k (i := a0) rfl (by omega); omega)]; rfl) ?_
    have hr_8 := hrows a0.toNatClampNeg (by have := tn_k (i := a0) rfl (by omega); omega)
    refine lv_iconst (v := 0) hx hb dX2_drawCalm_22 (by decide) ?_
    have hPc := pl_one hP hr_8.1 hr_8.2.1
    have hDc := pl_oneD hD hr_8.1 hr_8.2.1
    have hFc := pl_oneF hD hS hA hr_8.1 hr_8.2.1
    have hKc := hK.sub (tys' := [(cB, .byte)]) [1] rfl
    refine va_callv (va_runS (As := [.ref (rr a0.toNatClampNeg), .int 0]) (rest := []) ⟨hx, hb, hml, hown, hts⟩ (c_J7_fill_031fb l dC dI H.size (rr a0.toNatClampNeg) (cw a0.toNatClampNeg) cB 0 ) (va_cwS 2 hts gX2_drawCalm_J7_fill_031fb rfl rfl rfl (by decide +kernel) ⟨Nat.le_of_ble_eq_true rfl, Nat.le_of_ble_eq_true rfl⟩) ⟨fun a U g mk q => by obtain ⟨q0, q1, qP, qK, qN, qD⟩ := q; exact ⟨q0, q1, qP, va_K.moved (u := U) (U := U.calling g mk a) (Vm.Alike.refl U.vm) qK, NW.same (u := U) (U := U.calling g mk a) rfl qN, qD⟩, fun U hU hW => ⟨rfl, by rw [hU], by rw [hU]; exact hPc, va_K.moved hW.alike hKc, NW.warm hW hN, hDc.weaken (fun _ _ _ _ => trivial)⟩⟩ rfl rfl hl.1 rfl (lv_room (Nat.le_of_ble_eq_true rfl)) dX2_drawCalm_23 ⟨(Nat.zero_le _), (Nat.zero_le _)⟩) hS (fun q _ h => hFc q h) hFc (fun u t H1 locs ht hvm k_10 hB hz1 hk1 hS => ?_)
    obtain ⟨u_11, eu_11⟩ : ∃ z, z = u := ⟨_, rfl⟩
    subst eu_11
    obtain ⟨hP1, hK1, hD1⟩ := hB
    rw [ht] at hP1
    obtain ⟨hP, hD⟩ := pl_join1 (e' := .inl (cB, 160, .inl u_11)) hP hD hr_8.1 hr_8.2.1 hk1 hP1
    obtain ⟨f_12, ef_12⟩ : ∃ z : Nat → va_E, z = va_up f (rr a0.toNatClampNeg) (.inl (cB, 160, .inl u_11)) := ⟨_, rfl⟩
    rw [← ef_12] at hP hD
    have ho_13 : f_12 (rr a0.toNatClampNeg) = .inl (cB, 160, .inl u_11) := by rw [ef_12, va_up_self]
    generalize H1 = H at hP hS ⊢
    have hP : va_P (dC, dI) vwCl (([(sea, .inr (3, [.ref lc, .ref ct, .ref ch])), (ct, .inl (cZ, 12, .inl (upd Ct a0.toNatClampNeg (vp_nar .boolean (1 : Int32))))), (ch, .inl (cV, 12, .inr (.inr (.inr (.inr (fun i => if i < 12 then some (rr i) else none))))))] : va_W) ++ va_pl L f_12) H := hP
    have hD : va_D A (([(sea, .inr (3, [.ref lc, .ref ct, .ref ch])), (ct, .inl (cZ, 12, .inl (upd Ct a0.toNatClampNeg (vp_nar .boolean (1 : Int32))))), (ch, .inl (cV, 12, .inr (.inr (.inr (.inr (fun i => if i < 12 then some (rr i) else none))))))] : va_W) ++ va_pl L f_12) := hD
    try dsimp only at k_10
    obtain ⟨k_10, k_14⟩ := k_10
    have hP9 : va_P (dC, dI) vwCl (([(sea, .inr (3, [.ref lc, .ref ct, .ref ch])), (ct, .inl (cZ, 12, .inl (upd Ct a0.toNatClampNeg (vp_nar .boolean (1 : Int32))))), (ch, .inl (cV, 12, .inr (.inr (.inr (.inr (fun i => if i < 12 then some (rr i) else none))))))] : va_W) ++ va_pl L f_12) H := va_P.part (X := [(sea, .inr (3, [.ref lc, .ref ct, .ref ch])), (ct, .inl (cZ, 12, .inl (upd Ct a0.toNatClampNeg (vp_nar .boolean (1 : Int32))))), (ch, .inl (cV, 12, .inr (.inr (.inr (.inr (fun i => if i < 12 then some (rr i) else none))))))]) hP [0, 1, 2] rfl
    have hD9 : va_D A (([(sea, .inr (3, [.ref lc, .ref ct, .ref ch])), (ct, .inl (cZ, 12, .inl (upd Ct a0.toNatClampNeg (vp_nar .boolean (1 : Int32))))), (ch, .inl (cV, 12, .inr (.inr (.inr (.inr (fun i => if i < 12 then some (rr i) else none))))))] : va_W) ++ va_pl L f_12) := va_D.part (X := [(sea, .inr (3, [.ref lc, .ref ct, .ref ch])), (ct, .inl (cZ, 12, .inl (upd Ct a0.toNatClampNeg (vp_nar .boolean (1 : Int32))))), (ch, .inl (cV, 12, .inr (.inr (.inr (.inr (fun i => if i < 12 then some (rr i) else none))))))]) hD [0, 1, 2] (by decide) rfl
    have hK9 := hK.sub (tys' := [(cZ, .boolean), (cB, .byte), (cV, .array .byte)]) [0, 1, 2] rfl
    exact W.vret hx hb hr (fun t ht hW => ⟨⟨(f_12, upd Ct a0.toNatClampNeg (vp_nar .boolean (1 : Int32)), u_11), rfl, ⟨ef_12, (by (try dsimp only) <;> (first | (first | rfl | assumption | omega | exact Int32.toInt_inj.mp (by omega) | (simp only [Int32.reduceToInt, zl1, zl2, zl3, zl4, zl9]; omega) | ((rw [if_pos (by (first | omega | ((try simp only [Int32.lt_iff_toInt_lt, Int32.le_iff_toInt_le, ← Int32.toInt_inj, Int32.reduceToInt, zl1, zl2, zl3, zl4, zl9]); (try simp only [Int32.reduceToInt]); omega) | (subst_vars; assumption) | (refine ⟨?_, ?_⟩ <;> first | omega | (simp only [Int32.lt_iff_toInt_lt, Int32.le_iff_toInt_le, ← Int32.toInt_inj, Int32.reduceToInt, zl1, zl2, zl3, zl4, zl9]; omega) | (subst_vars; assumption))))]) <;> (first | rfl | assumption | omega | exact Int32.toInt_inj.mp (by omega) | (simp only [Int32.reduceToInt, zl1, zl2, zl3, zl4, zl9]; omega) | ((rw [if_pos (by (first | omega | ((try simp only [Int32.lt_iff_toInt_lt, Int32.le_iff_toInt_le, ← Int32.toInt_inj, Int32.reduceToInt, zl1, zl2, zl3, zl4, zl9]); (try simp only [Int32.reduceToInt]); omega) | (subst_vars; assumption) | (refine ⟨?_, ?_⟩ <;> first | omega | (simp only [Int32.lt_iff_toInt_lt, Int32.le_iff_toInt_le, ← Int32.toInt_inj, Int32.reduceToInt, zl1, zl2, zl3, zl4, zl9]; omega) | (subst_vars; assumption))))]) <;> (first | rfl | assumption | omega | exact Int32.toInt_inj.mp (by omega) | (simp only [Int32.reduceToInt, zl1, zl2, zl3, zl4, zl9]; omega))) | ((rw [if_neg (by (first | omega | ((try simp only [Int32.lt_iff_toInt_lt, Int32.le_iff_toInt_le, ← Int32.toInt_inj, Int32.reduceToInt, zl1, zl2, zl3, zl4, zl9]); (try simp only [Int32.reduceToInt]); omega) | (subst_vars; assumption) | (refine ⟨?_, ?_⟩ <;> first | omega | (simp only [Int32.lt_iff_toInt_lt, Int32.le_iff_toInt_le, ← Int32.toInt_inj, Int32.reduceToInt, zl1, zl2, zl3, zl4, zl9]; omega) | (subst_vars; assumption))))]) <;> (first | rfl | assumption | omega | exact Int32.toInt_inj.mp (by omega) | (simp only [Int32.reduceToInt, zl1, zl2, zl3, zl4, zl9]; omega))))) | ((rw [if_neg (by (first | omega | ((try simp only [Int32.lt_iff_toInt_lt, Int32.le_iff_toInt_le, ← Int32.toInt_inj, Int32.reduceToInt, zl1, zl2, zl3, zl4, zl9]); (try simp only [Int32.reduceToInt]); omega) | (subst_vars; assumption) | (refine ⟨?_, ?_⟩ <;> first | omega | (simp only [Int32.lt_iff_toInt_lt, Int32.le_iff_toInt_le, ← Int32.toInt_inj, Int32.reduceToInt, zl1, zl2, zl3, zl4, zl9]; omega) | (subst_vars; assumption))))]) <;> (first | rfl | assumption | omega | exact Int32.toInt_inj.mp (by omega) | (simp only [Int32.reduceToInt, zl1, zl2, zl3, zl4, zl9]; omega) | ((rw [if_pos (by (first | omega | ((try simp only [Int32.lt_iff_toInt_lt, Int32.le_iff_toInt_le, ← Int32.toInt_inj, Int32.reduceToInt, zl1, zl2, zl3, zl4, zl9]); (try simp only [Int32.reduceToInt]); omega) | (subst_vars; assumption) | (refine ⟨?_, ?_⟩ <;> first | omega | (simp only [Int32.lt_iff_toInt_lt, Int32.le_iff_toInt_le, ← Int32.toInt_inj, Int32.reduceToInt, zl1, zl2, zl3, zl4, zl9]; omega) | (subst_vars; assumption))))]) <;> (first | rfl | assumption | omega | exact Int32.toInt_inj.mp (by omega) | (simp only [Int32.reduceToInt, zl1, zl2, zl3, zl4, zl9]; omega))) | ((rw [if_neg (by (first | omega | ((try simp only [Int32.lt_iff_toInt_lt, Int32.le_iff_toInt_le, ← Int32.toInt_inj, Int32.reduceToInt, zl1, zl2, zl3, zl4, zl9]); (try simp only [Int32.reduceToInt]); omega) | (subst_vars; assumption) | (refine ⟨?_, ?_⟩ <;> first | omega | (simp only [Int32.lt_iff_toInt_lt, Int32.le_iff_toInt_le, ← Int32.toInt_inj, Int32.reduceToInt, zl1, zl2, zl3, zl4, zl9]; omega) | (subst_vars; assumption))))]) <;> (first | rfl | assumption | omega | exact Int32.toInt_inj.mp (by omega) | (simp only [Int32.reduceToInt, zl1, zl2, zl3, zl4, zl9]; omega)))))) | ((try simp only [Int32.lt_iff_toInt_lt, Int32.le_iff_toInt_le, ← Int32.toInt_inj, Int32.reduceToInt, zl1, zl2, zl3, zl4, zl9]); (repeat' split) <;> first | rfl | omega | (simp only [Int32.lt_iff_toInt_lt, Int32.le_iff_toInt_le, ← Int32.toInt_inj, Int32.reduceToInt, zl1, zl2, zl3, zl4, zl9]; omega)))), k_10, (k_14 hr_8.2.2.2)⟩, ⟨by rw [ht]; exact hP9, va_K.moved hW.alike hK9, hD9⟩⟩, hS.F ht⟩) hS.2.2 dX2_drawCalm_26
set_option maxRecDepth 20000 in
theorem iw_X2_drawAt_X2 : ∀ w ∈ wsX20, w ∈ wsX2_drawAt := fun w h => (List.mem_cons_of_mem _ (List.mem_append_right _ h))
set_option maxHeartbeats 4000000 in
set_option maxRecDepth 100000 in
/-- Sea.drawAt -/
theorem c_X2_drawAt (l : Launch) (dC : Nat → ClassId) (dI : Nat → Nat → Nat) (sz : Nat) (L : List Nat) (f : Nat → va_E) (sea : Nat) (lc : Nat) (ct : Nat) (ch : Nat) (rr : Nat → Nat) (cw : Nat → Nat → Int32) (Ct : Nat → Int32) (cZ : ClassId) (cB : ClassId) (cV : ClassId) (a0 : Int32) (a1 : Int32) (a2 : Int32) (i_a0 : 0 ≤ a0.toInt ∧ a0.toInt ≤ 11) (i_a1 : 0 ≤ a1.toInt ∧ a1.toInt ≤ 159) (hct : (Ct a0.toNatClampNeg).toInt ≠ 0) (hrows : Rows L f rr cB cw) : Met l yX2_drawAt wsX2_drawAt ({ frames := 2, cells := 0, slots := 0, locals := 42 }) (va_Pc [.ref sea, .int a0, .int a1, .int a2] (fun U => U.heap.size = sz ∧ va_P (dC, dI) vwCl (([(sea, .inr (3, [.ref lc, .ref ct, .ref ch])), (ct, .inl (cZ, 12, .inl Ct)), (ch, .inl (cV, 12, .inr (.inr (.inr (.inr (fun i => if i < 12 then some (rr i) else none))))))] : va_W) ++ va_pl L f) U.heap ∧ va_K (dC, dI) vwCl [(cZ, .boolean), (cB, .byte), (cV, .array .byte)] U ∧ NW U ∧ va_D (fun _ => True) (([(sea, .inr (3, [.ref lc, .ref ct, .ref ch])), (ct, .inl (cZ, 12, .inl Ct)), (ch, .inl (cV, 12, .inr (.inr (.inr (.inr (fun i => if i < 12 then some (rr i) else none))))))] : va_W) ++ va_pl L f))) (va_Qv (fun (u : (Nat → va_E)) => (u = va_up f (rr a0.toNatClampNeg) (.inl (cB, 160, .inl (upd (cw a0.toNatClampNeg) a1.toNatClampNeg (vp_nar .byte a2)))))) (fun u t => va_P (dC, dI) vwCl (([(sea, .inr (3, [.ref lc, .ref ct, .ref ch])), (ct, .inl (cZ, 12, .inl Ct)), (ch, .inl (cV, 12, .inr (.inr (.inr (.inr (fun i => if i < 12 then some (rr i) else none))))))] : va_W) ++ va_pl L u) t.heap ∧ va_K (dC, dI) vwCl [(cZ, .boolean), (cB, .byte), (cV, .array .byte)] t ∧ va_D (va_A (([(sea, .inr (3, [.ref lc, .ref ct, .ref ch])), (ct, .inl (cZ, 12, .inl Ct)), (ch, .inl (cV, 12, .inr (.inr (.inr (.inr (fun i => if i < 12 then some (rr i) else none))))))] : va_W) ++ va_pl L f) sz) (([(sea, .inr (3, [.ref lc, .ref ct, .ref ch])), (ct, .inl (cZ, 12, .inl Ct)), (ch, .inl (cV, 12, .inr (.inr (.inr (.inr (fun i => if i < 12 then some (rr i) else none))))))] : va_W) ++ va_pl L u)) (va_A (([(sea, .inr (3, [.ref lc, .ref ct, .ref ch])), (ct, .inl (cZ, 12, .inl Ct)), (ch, .inl (cV, 12, .inr (.inr (.inr (.inr (fun i => if i < 12 then some (rr i) else none))))))] : va_W) ++ va_pl L f) sz)) 0 0 (va_A (([(sea, .inr (3, [.ref lc, .ref ct, .ref ch])), (ct, .inl (cZ, 12, .inl Ct)), (ch, .inl (cV, 12, .inr (.inr (.inr (.inr (fun i => if i < 12 then some (rr i) else none))))))] : va_W) ++ va_pl L f) sz) := by
  refine Met.ofW (cc := cX2_drawAt) (maxL := 4) (ret := none) (by decide) rfl ?_
  intro p e s m args below meth c s₁ B hml hv
  obtain ⟨rfl, hsz, hP, hK, hN, hD0⟩ := hv
  have hx := B.exec
  have hb := B.bytes
  have hr := B.returns
  have hts := atoms_spec (ws := wsX2_drawAt) B.pre
  have hown : s.vm.findClass RX2 = some m.cls := findClass_of_methodNamed B.named
  have hlocks := B.notSynchronized
  subst hsz
  have hD := hD0.self (sz := s.heap.size)
  generalize hAe : va_A (([(sea, .inr (3, [.ref lc, .ref ct, .ref ch])), (ct, .inl (cZ, 12, .inl Ct)), (ch, .inl (cV, 12, .inr (.inr (.inr (.inr (fun i => if i < 12 then some (rr i) else none))))))] : va_W) ++ va_pl L f) s.heap.size = A at hD ⊢
  have hA : ∀ q : Nat, s.heap.size ≤ q → A q := fun q h => by rw [← hAe]; exact Or.inr h
  have hS : va_S A s.heap s.heap [] := va_S.rf
  have hP : va_P (dC, dI) vwCl (([(sea, .inr (3, [.ref lc, .ref ct, .ref ch])), (ct, .inl (cZ, 12, .inl Ct)), (ch, .inl (cV, 12, .inr (.inr (.inr (.inr (fun i => if i < 12 then some (rr i) else none))))))] : va_W) ++ va_pl L f) s.heap := hP
  have hl := lv_entry ([.ref sea, .int a0, .int a1, .int a2]) (n := 4) (Nat.le_of_ble_eq_true rfl)
  rw [lg_entry_eq]
  generalize (lg_sl ([.ref sea, .int a0, .int a1, .int a2]) ++ List.replicate (4 - (lg_sl ([.ref sea, .int a0, .int a1, .int a2])).length) Slot.unset).toArray = ls at hl ⊢
  have hl : lv_has ls 4 [(0, .ref sea), (1, .int a0), (2, .int a1), (3, .int a2)] := hl
  refine lv_aload_n hx hb dX2_drawAt_0 rfl (lv_at hl 0 rfl) ?_
  refine lv_iload_n hx hb dX2_drawAt_1 rfl (lv_at hl 1 rfl) ?_
  have hPc := hP.sub (ws' := [(sea, .inr (3, [.ref lc, .ref ct, .ref ch])), (ct, .inl (cZ, 12, .inl Ct))]) [0, 1] rfl
  have hKc := hK.sub (tys' := [(cZ, .boolean)]) [0] rfl
  refine va_calli (va_runV (As := [.int a0]) (rest := []) ⟨hx, hb, hml, hown, hts⟩ (c_X2_hasChart l dC dI s.heap.size sea lc ct ch Ct cZ a0 ) (cwV 1 hts gX2_drawAt_X2_hasChart rfl rfl rfl (by decide +kernel) ⟨Nat.le_of_ble_eq_true rfl, Nat.le_of_ble_eq_true rfl⟩) ⟨fun a U g mk q => by obtain ⟨q0, q1, qP, qK, qN⟩ := q; exact ⟨q0, q1, qP, va_K.moved (u := U) (U := U.calling g mk a) (Vm.Alike.refl U.vm) qK, NW.same (u := U) (U := U.calling g mk a) rfl qN⟩, va_recv hKc hPc (ci := 3) (q0 := 0) rfl rfl, fun U hU hW => ⟨rfl, by rw [hU], by rw [hU]; exact hPc, va_K.moved hW.alike hKc, NW.warm hW hN⟩⟩ rfl rfl hl.1 rfl (lv_room (Nat.le_of_ble_eq_true rfl)) dX2_drawAt_2 ⟨(Nat.zero_le _), (Nat.zero_le _)⟩) hS (fun q _ h => ro_A hS hA q h) (ro_A hS hA) (fun r_1 u t H1 locs ht hvm k_2 hB hz1 hk1 hS => ?_)
  have hP := ro_P hk1 hP
  generalize H1 = H at hP hS ⊢
  try dsimp only at k_2
  obtain ⟨k_2, k_3⟩ := k_2
  refine lv_if_eq (tgt := 27) hx hb dX2_drawAt_5 (by decide) (fun c_4 => ?_) (fun c_4 => ?_)
  · skip
    have b_5 := b01z k_2 c_4
    (try simp only [Int32.lt_iff_toInt_lt, Int32.le_iff_toInt_le, ← Int32.toInt_inj, Int32.reduceToInt, zl1, zl2, zl3, zl4, zl9] at b_5)
    (try simp only [Int32.reduceToInt] at b_5)
    exfalso
    omega
  · skip
    have b_6 := b01n k_2 c_4
    (try simp only [Int32.lt_iff_toInt_lt, Int32.le_iff_toInt_le, ← Int32.toInt_inj, Int32.reduceToInt, zl1, zl2, zl3, zl4, zl9] at b_6)
    (try simp only [Int32.reduceToInt] at b_6)
    refine lv_iload_n hx hb dX2_drawAt_8 rfl (lv_at hl 2 rfl) ?_
    refine lv_sipush (v := 159) hx hb dX2_drawAt_9 (by decide) ?_
    refine va_calli (va_runSN (As := [.int a1, .int 159]) (rest := []) ⟨hx, hb, hml, hown, hts⟩ (c_X5_outside l H.size a1 159 ) ⟨va_cnB 2 hts gX2_drawAt_X5_outside_n23 rfl rfl rfl hN.nX2_23 (hts (.initialized RX5) (by decide +kernel)) (by decide +kernel) ⟨Nat.le_of_ble_eq_true rfl, Nat.le_of_ble_eq_true rfl⟩, hts (.static yX5_outside) (by decide +kernel), trivial⟩ ⟨fun a U g mk q => by obtain ⟨q0, q1⟩ := q; exact ⟨q0, q1⟩, fun U hU hW => ⟨rfl, congrArg Array.size hU⟩⟩ rfl rfl hl.1 rfl (lv_room (Nat.le_of_ble_eq_true rfl)) dX2_drawAt_12 ⟨(Nat.zero_le _), (Nat.zero_le _)⟩) hS (fun q _ h => ro_A hS hA q h) (ro_A hS hA) (fun r_7 u t H1 locs ht hvm k_8 hB hz1 hk1 hS => ?_)
    have hP := ro_P hk1 hP
    generalize H1 = H at hP hS ⊢
    try dsimp only at k_8
    obtain ⟨k_8, k_9⟩ := k_8
    refine lv_if_ne (tgt := 27) hx hb dX2_drawAt_15 (by decide) (fun c_10 => ?_) (fun c_10 => ?_)
    · skip
      have b_11 := b01n k_8 c_10
      (try simp only [Int32.lt_iff_toInt_lt, Int32.le_iff_toInt_le, ← Int32.toInt_inj, Int32.reduceToInt, zl1, zl2, zl3, zl4, zl9] at b_11)
      (try simp only [Int32.reduceToInt] at b_11)
      exfalso
      omega
    · skip
      have b_12 := b01z k_8 c_10
      (try simp only [Int32.lt_iff_toInt_lt, Int32.le_iff_toInt_le, ← Int32.toInt_inj, Int32.reduceToInt, zl1, zl2, zl3, zl4, zl9] at b_12)
      (try simp only [Int32.reduceToInt] at b_12)
      refine lv_aload_n hx hb dX2_drawAt_18 rfl (lv_at hl 0 rfl) ?_
      refine va_get (D := (dC, dI)) (ci := 3) (v := .ref ch) (C := RX2) (T := TX2) (N := 3) hx hb hts iw_X2_drawAt_X2 hown hK hP 0 rfl rfl 2 (by decide) (hts (.fieldLink RX2 20 "TeaRace$Sea" "charts" "[[B") (by decide +kernel)) (fun _ h9 => h9) rfl dX2_drawAt_19 ?_
      refine lv_iload_n hx hb dX2_drawAt_22 rfl (lv_at hl 1 rfl) ?_
      refine va_alda hx hb hK hP 2 2 rfl rfl (in_k rfl (by omega) (by omega)) dX2_drawAt_23 ?_
      refine W.eq (g2 := F0 m 24 ls [.ref (rr a0.toNatClampNeg)]) (by rw [rr_at (by have := tn_k (i := a0) rfl (by omega); omega)]; rfl) ?_
      have hr_13 := hrows a0.toNatClampNeg (by have := tn_k (i := a0) rfl (by omega); omega)
      refine lv_iload_n hx hb dX2_drawAt_24 rfl (lv_at hl 2 rfl) ?_
      refine lv_iload_n hx hb dX2_drawAt_25 rfl (lv_at hl 3 rfl) ?_
      obtain ⟨k9_14, hk9_14⟩ : ∃ k : Nat, (([(sea, .inr (3, [.ref lc, .ref ct, .ref ch])), (ct, .inl (cZ, 12, .inl Ct)), (ch, .inl (cV, 12, .inr (.inr (.inr (.inr (fun i => if i < 12 then some (rr i) else none))))))] : va_W) ++ va_pl L f)[k]? = some ((rr a0.toNatClampNeg), .inl (cB, 160, .inl (cw a0.toNatClampNeg))) := pl_at hr_13.1 hr_13.2.1
      have hDo_15 := hD
      refine va_bast hx hb hK hP hD hS k9_14 1 hk9_14 rfl (in_k rfl (by omega) (by omega)) dX2_drawAt_26 (fun H locs hP hD hS => ?_)
      have hP : va_P (dC, dI) vwCl (List.set (([(sea, .inr (3, [.ref lc, .ref ct, .ref ch])), (ct, .inl (cZ, 12, .inl Ct)), (ch, .inl (cV, 12, .inr (.inr (.inr (.inr (fun i => if i < 12 then some (rr i) else none))))))] : va_W) ++ va_pl L f) k9_14 ((rr a0.toNatClampNeg), .inl (cB, 160, .inl (upd (cw a0.toNatClampNeg) a1.toNatClampNeg (vp_nar .byte a2))))) H := hP
      have hD : va_D A (List.set (([(sea, .inr (3, [.ref lc, .ref ct, .ref ch])), (ct, .inl (cZ, 12, .inl Ct)), (ch, .inl (cV, 12, .inr (.inr (.inr (.inr (fun i => if i < 12 then some (rr i) else none))))))] : va_W) ++ va_pl L f) k9_14 ((rr a0.toNatClampNeg), .inl (cB, 160, .inl (upd (cw a0.toNatClampNeg) a1.toNatClampNeg (vp_nar .byte a2))))) := hD
      rw [pl_set hDo_15 hr_13.1 hr_13.2.1 hk9_14] at hP hD
      obtain ⟨f_16, ef_16⟩ : ∃ z : Nat → va_E, z = va_up f (rr a0.toNatClampNeg) (.inl (cB, 160, .inl (upd (cw a0.toNatClampNeg) a1.toNatClampNeg (vp_nar .byte a2)))) := ⟨_, rfl⟩
      rw [← ef_16] at hP hD
      have ho_17 : f_16 (rr a0.toNatClampNeg) = .inl (cB, 160, .inl (upd (cw a0.toNatClampNeg) a1.toNatClampNeg (vp_nar .byte a2))) := by rw [ef_16, va_up_self]
      have hP : va_P (dC, dI) vwCl (([(sea, .inr (3, [.ref lc, .ref ct, .ref ch])), (ct, .inl (cZ, 12, .inl Ct)), (ch, .inl (cV, 12, .inr (.inr (.inr (.inr (fun i => if i < 12 then some (rr i) else none))))))] : va_W) ++ va_pl L f_16) H := hP
      have hD : va_D A (([(sea, .inr (3, [.ref lc, .ref ct, .ref ch])), (ct, .inl (cZ, 12, .inl Ct)), (ch, .inl (cV, 12, .inr (.inr (.inr (.inr (fun i => if i < 12 then some (rr i) else none))))))] : va_W) ++ va_pl L f_16) := hD
      have hP9 : va_P (dC, dI) vwCl (([(sea, .inr (3, [.ref lc, .ref ct, .ref ch])), (ct, .inl (cZ, 12, .inl Ct)), (ch, .inl (cV, 12, .inr (.inr (.inr (.inr (fun i => if i < 12 then some (rr i) else none))))))] : va_W) ++ va_pl L f_16) H := va_P.part (X := [(sea, .inr (3, [.ref lc, .ref ct, .ref ch])), (ct, .inl (cZ, 12, .inl Ct)), (ch, .inl (cV, 12, .inr (.inr (.inr (.inr (fun i => if i < 12 then some (rr i) else none))))))]) hP [0, 1, 2] rfl
      have hD9 : va_D A (([(sea, .inr (3, [.ref lc, .ref ct, .ref ch])), (ct, .inl (cZ, 12, .inl Ct)), (ch, .inl (cV, 12, .inr (.inr (.inr (.inr (fun i => if i < 12 then some (rr i) else none))))))] : va_W) ++ va_pl L f_16) := va_D.part (X := [(sea, .inr (3, [.ref lc, .ref ct, .ref ch])), (ct, .inl (cZ, 12, .inl Ct)), (ch, .inl (cV, 12, .inr (.inr (.inr (.inr (fun i => if i < 12 then some (rr i) else none))))))]) hD [0, 1, 2] (by decide) rfl
      have hK9 := hK.sub (tys' := [(cZ, .boolean), (cB, .byte), (cV, .array .byte)]) [0, 1, 2] rfl
      exact W.vret hx hb hr (fun t ht hW => ⟨⟨f_16, rfl, ef_16, ⟨by rw [ht]; exact hP9, va_K.moved hW.alike hK9, hD9⟩⟩, hS.F ht⟩) hS.2.2 dX2_drawAt_27
set_option maxRecDepth 20000 in
theorem iw_X2_copyChart_X2 : ∀ w ∈ wsX20, w ∈ wsX2_copyChart := fun w h => (List.mem_cons_of_mem _ (List.mem_append_right _ h))
set_option maxHeartbeats 4000000 in
set_option maxRecDepth 100000 in
/-- Sea.copyChart -/
theorem c_X2_copyChart (l : Launch) (dC : Nat → ClassId) (dI : Nat → Nat → Nat) (sz : Nat) (L : List Nat) (f : Nat → va_E) (sea : Nat) (lc : Nat) (ct : Nat) (ch : Nat) (rr : Nat → Nat) (cw : Nat → Nat → Int32) (Ct : Nat → Int32) (cZ : ClassId) (cB : ClassId) (cV : ClassId) (a0 : Int32) (a1 : Int32) (a2 : Int32) (a3 : Int32) (a4 : Int32) (i_a0 : 0 ≤ a0.toInt ∧ a0.toInt ≤ 11) (i_a2 : 0 ≤ a2.toInt ∧ a2.toInt ≤ 11) (i_a1 : 0 ≤ a1.toInt ∧ a1.toInt ≤ 160) (i_a3 : 0 ≤ a3.toInt ∧ a3.toInt ≤ 160) (i_a4 : 0 ≤ a4.toInt ∧ a4.toInt ≤ 160) (hct : (Ct a0.toNatClampNeg).toInt ≠ 0) (hct2 : (Ct a2.toNatClampNeg).toInt ≠ 0) (hs1 : a1.toInt + a4.toInt ≤ 160) (hs2 : a3.toInt + a4.toInt ≤ 160) (hrows : Rows L f rr cB cw) : Met l yX2_copyChart wsX2_copyChart ({ frames := 2, cells := 0, slots := 0, locals := 60 }) (va_Pc [.ref sea, .int a0, .int a1, .int a2, .int a3, .int a4] (fun U => U.heap.size = sz ∧ va_P (dC, dI) vwCl (([(sea, .inr (3, [.ref lc, .ref ct, .ref ch])), (ct, .inl (cZ, 12, .inl Ct)), (ch, .inl (cV, 12, .inr (.inr (.inr (.inr (fun i => if i < 12 then some (rr i) else none))))))] : va_W) ++ va_pl L f) U.heap ∧ va_K (dC, dI) vwCl [(cZ, .boolean), (cB, .byte), (cV, .array .byte)] U ∧ NW U ∧ va_D (fun _ => True) (([(sea, .inr (3, [.ref lc, .ref ct, .ref ch])), (ct, .inl (cZ, 12, .inl Ct)), (ch, .inl (cV, 12, .inr (.inr (.inr (.inr (fun i => if i < 12 then some (rr i) else none))))))] : va_W) ++ va_pl L f))) (va_Qv (fun (u : (Nat → va_E)) => (u = va_up f (rr a2.toNatClampNeg) (.inl (cB, 160, .inl (va_cpy (cw a0.toNatClampNeg) (cw a2.toNatClampNeg) a1.toNatClampNeg a3.toNatClampNeg a4.toNatClampNeg))))) (fun u t => va_P (dC, dI) vwCl (([(sea, .inr (3, [.ref lc, .ref ct, .ref ch])), (ct, .inl (cZ, 12, .inl Ct)), (ch, .inl (cV, 12, .inr (.inr (.inr (.inr (fun i => if i < 12 then some (rr i) else none))))))] : va_W) ++ va_pl L u) t.heap ∧ va_K (dC, dI) vwCl [(cZ, .boolean), (cB, .byte), (cV, .array .byte)] t ∧ va_D (va_A (([(sea, .inr (3, [.ref lc, .ref ct, .ref ch])), (ct, .inl (cZ, 12, .inl Ct)), (ch, .inl (cV, 12, .inr (.inr (.inr (.inr (fun i => if i < 12 then some (rr i) else none))))))] : va_W) ++ va_pl L f) sz) (([(sea, .inr (3, [.ref lc, .ref ct, .ref ch])), (ct, .inl (cZ, 12, .inl Ct)), (ch, .inl (cV, 12, .inr (.inr (.inr (.inr (fun i => if i < 12 then some (rr i) else none))))))] : va_W) ++ va_pl L u)) (va_A (([(sea, .inr (3, [.ref lc, .ref ct, .ref ch])), (ct, .inl (cZ, 12, .inl Ct)), (ch, .inl (cV, 12, .inr (.inr (.inr (.inr (fun i => if i < 12 then some (rr i) else none))))))] : va_W) ++ va_pl L f) sz)) 0 0 (va_A (([(sea, .inr (3, [.ref lc, .ref ct, .ref ch])), (ct, .inl (cZ, 12, .inl Ct)), (ch, .inl (cV, 12, .inr (.inr (.inr (.inr (fun i => if i < 12 then some (rr i) else none))))))] : va_W) ++ va_pl L f) sz) := by
  refine Met.ofW (cc := cX2_copyChart) (maxL := 6) (ret := none) (by decide) rfl ?_
  intro p e s m args below meth c s₁ B hml hv
  obtain ⟨rfl, hsz, hP, hK, hN, hD0⟩ := hv
  have hx := B.exec
  have hb := B.bytes
  have hr := B.returns
  have hts := atoms_spec (ws := wsX2_copyChart) B.pre
  have hown : s.vm.findClass RX2 = some m.cls := findClass_of_methodNamed B.named
  have hlocks := B.notSynchronized
  subst hsz
  have hD := hD0.self (sz := s.heap.size)
  generalize hAe : va_A (([(sea, .inr (3, [.ref lc, .ref ct, .ref ch])), (ct, .inl (cZ, 12, .inl Ct)), (ch, .inl (cV, 12, .inr (.inr (.inr (.inr (fun i => if i < 12 then some (rr i) else none))))))] : va_W) ++ va_pl L f) s.heap.size = A at hD ⊢
  have hA : ∀ q : Nat, s.heap.size ≤ q → A q := fun q h => by rw [← hAe]; exact Or.inr h
  have hS : va_S A s.heap s.heap [] := va_S.rf
  have hP : va_P (dC, dI) vwCl (([(sea, .inr (3, [.ref lc, .ref ct, .ref ch])), (ct, .inl (cZ, 12, .inl Ct)), (ch, .inl (cV, 12, .inr (.inr (.inr (.inr (fun i => if i < 12 then some (rr i) else none))))))] : va_W) ++ va_pl L f) s.heap := hP
  have hl := lv_entry ([.ref sea, .int a0, .int a1, .int a2, .int a3, .int a4]) (n := 6) (Nat.le_of_ble_eq_true rfl)
  rw [lg_entry_eq]
  generalize (lg_sl ([.ref sea, .int a0, .int a1, .int a2, .int a3, .int a4]) ++ List.replicate (6 - (lg_sl ([.ref sea, .int a0, .int a1, .int a2, .int a3, .int a4])).length) Slot.unset).toArray = ls at hl ⊢
  have hl : lv_has ls 6 [(0, .ref sea), (1, .int a0), (2, .int a1), (3, .int a2), (4, .int a3), (5, .int a4)] := hl
  refine lv_aload_n hx hb dX2_copyChart_0 rfl (lv_at hl 0 rfl) ?_
  refine lv_iload_n hx hb dX2_copyChart_1 rfl (lv_at hl 1 rfl) ?_
  have hPc := hP.sub (ws' := [(sea, .inr (3, [.ref lc, .ref ct, .ref ch])), (ct, .inl (cZ, 12, .inl Ct))]) [0, 1] rfl
  have hKc := hK.sub (tys' := [(cZ, .boolean)]) [0] rfl
  refine va_calli (va_runV (As := [.int a0]) (rest := []) ⟨hx, hb, hml, hown, hts⟩ (c_X2_hasChart l dC dI s.heap.size sea lc ct ch Ct cZ a0 ) (cwV 1 hts gX2_copyChart_X2_hasChart rfl rfl rfl (by decide +kernel) ⟨Nat.le_of_ble_eq_true rfl, Nat.le_of_ble_eq_true rfl⟩) ⟨fun a U g mk q => by obtain ⟨q0, q1, qP, qK, qN⟩ := q; exact ⟨q0, q1, qP, va_K.moved (u := U) (U := U.calling g mk a) (Vm.Alike.refl U.vm) qK, NW.same (u := U) (U := U.calling g mk a) rfl qN⟩, va_recv hKc hPc (ci := 3) (q0 := 0) rfl rfl, fun U hU hW => ⟨rfl, by rw [hU], by rw [hU]; exact hPc, va_K.moved hW.alike hKc, NW.warm hW hN⟩⟩ rfl rfl hl.1 rfl (lv_room (Nat.le_of_ble_eq_true rfl)) dX2_copyChart_2 ⟨(Nat.zero_le _), (Nat.zero_le _)⟩) hS (fun q _ h => ro_A hS hA q h) (ro_A hS hA) (fun r_1 u t H1 locs ht hvm k_2 hB hz1 hk1 hS => ?_)
  have hP := ro_P hk1 hP
  generalize H1 = H at hP hS ⊢
  try dsimp only at k_2
  obtain ⟨k_2, k_3⟩ := k_2
  refine lv_if_eq (tgt := 21) hx hb dX2_copyChart_5 (by decide) (fun c_4 => ?_) (fun c_4 => ?_)
  · skip
    have b_5 := b01z k_2 c_4
    (try simp only [Int32.lt_iff_toInt_lt, Int32.le_iff_toInt_le, ← Int32.toInt_inj, Int32.reduceToInt, zl1, zl2, zl3, zl4, zl9] at b_5)
    (try simp only [Int32.reduceToInt] at b_5)
    exfalso
    omega
  · skip
    have b_6 := b01n k_2 c_4
    (try simp only [Int32.lt_iff_toInt_lt, Int32.le_iff_toInt_le, ← Int32.toInt_inj, Int32.reduceToInt, zl1, zl2, zl3, zl4, zl9] at b_6)
    (try simp only [Int32.reduceToInt] at b_6)
    refine lv_aload_n hx hb dX2_copyChart_8 rfl (lv_at hl 0 rfl) ?_
    refine lv_iload_n hx hb dX2_copyChart_9 rfl (lv_at hl 3 rfl) ?_
    have hPc := hP.sub (ws' := [(sea, .inr (3, [.ref lc, .ref ct, .ref ch])), (ct, .inl (cZ, 12, .inl Ct))]) [0, 1] rfl
    have hKc := hK.sub (tys' := [(cZ, .boolean)]) [0] rfl
    refine va_calli (va_runV (As := [.int a2]) (rest := []) ⟨hx, hb, hml, hown, hts⟩ (c_X2_hasChart l dC dI H.size sea lc ct ch Ct cZ a2 ) (cwV 1 hts gX2_copyChart_X2_hasChart rfl rfl rfl (by decide +kernel) ⟨Nat.le_of_ble_eq_true rfl, Nat.le_of_ble_eq_true rfl⟩) ⟨fun a U g mk q => by obtain ⟨q0, q1, qP, qK, qN⟩ := q; exact ⟨q0, q1, qP, va_K.moved (u := U) (U := U.calling g mk a) (Vm.Alike.refl U.vm) qK, NW.same (u := U) (U := U.calling g mk a) rfl qN⟩, va_recv hKc hPc (ci := 3) (q0 := 0) rfl rfl, fun U hU hW => ⟨rfl, by rw [hU], by rw [hU]; exact hPc, va_K.moved hW.alike hKc, NW.warm hW hN⟩⟩ rfl rfl hl.1 rfl (lv_room (Nat.le_of_ble_eq_true rfl)) dX2_copyChart_10 ⟨(Nat.zero_le _), (Nat.zero_le _)⟩) hS (fun q _ h => ro_A hS hA q h) (ro_A hS hA) (fun r_7 u t H1 locs ht hvm k_8 hB hz1 hk1 hS => ?_)
    have hP := ro_P hk1 hP
    generalize H1 = H at hP hS ⊢
    try dsimp only at k_8
    obtain ⟨k_8, k_9⟩ := k_8
    refine lv_if_eq (tgt := 21) hx hb dX2_copyChart_13 (by decide) (fun c_10 => ?_) (fun c_10 => ?_)
    · skip
      have b_11 := b01z k_8 c_10
      (try simp only [Int32.lt_iff_toInt_lt, Int32.le_iff_toInt_le, ← Int32.toInt_inj, Int32.reduceToInt, zl1, zl2, zl3, zl4, zl9] at b_11)
      (try simp only [Int32.reduceToInt] at b_11)
      exfalso
      omega
    · skip
      have b_12 := b01n k_8 c_10
      (try simp only [Int32.lt_iff_toInt_lt, Int32.le_iff_toInt_le, ← Int32.toInt_inj, Int32.reduceToInt, zl1, zl2, zl3, zl4, zl9] at b_12)
      (try simp only [Int32.reduceToInt] at b_12)
      refine lv_iload hx hb dX2_copyChart_16 (lv_at hl 5 rfl) ?_
      refine lv_if_ge (tgt := 22) hx hb dX2_copyChart_18 (by decide) (fun c_13 => ?_) (fun c_13 => ?_)
      · skip
        have qc_13 : 0 ≤ a4.toInt := le_k (by decide) rfl c_13
        refine lv_iload_n hx hb dX2_copyChart_22 rfl (lv_at hl 2 rfl) ?_
        refine lv_sipush (v := 160) hx hb dX2_copyChart_23 (by decide) ?_
        refine lv_iload hx hb dX2_copyChart_26 (lv_at hl 5 rfl) ?_
        refine lv_isub hx hb dX2_copyChart_28 ?_
        refine lv_topi (fun x_14 ex_14 => ?_)
        have tx_14 : x_14.toInt = 160 - a4.toInt := su_k ex_14 (by decide) rfl (by omega) (by omega)
        refine va_calli (va_runSN (As := [.int a1, .int x_14]) (rest := []) ⟨hx, hb, hml, hown, hts⟩ (c_X5_outside l H.size a1 x_14 ) ⟨va_cnB 2 hts gX2_copyChart_X5_outside_n23 rfl rfl rfl hN.nX2_23 (hts (.initialized RX5) (by decide +kernel)) (by decide +kernel) ⟨Nat.le_of_ble_eq_true rfl, Nat.le_of_ble_eq_true rfl⟩, hts (.static yX5_outside) (by decide +kernel), trivial⟩ ⟨fun a U g mk q => by obtain ⟨q0, q1⟩ := q; exact ⟨q0, q1⟩, fun U hU hW => ⟨rfl, congrArg Array.size hU⟩⟩ rfl rfl hl.1 rfl (lv_room (Nat.le_of_ble_eq_true rfl)) dX2_copyChart_29 ⟨(Nat.zero_le _), (Nat.zero_le _)⟩) hS (fun q _ h => ro_A hS hA q h) (ro_A hS hA) (fun r_15 u t H1 locs ht hvm k_16 hB hz1 hk1 hS => ?_)
        have hP := ro_P hk1 hP
        generalize H1 = H at hP hS ⊢
        try dsimp only at k_16
        obtain ⟨k_16, k_17⟩ := k_16
        refine lv_if_ne (tgt := 69) hx hb dX2_copyChart_32 (by decide) (fun c_18 => ?_) (fun c_18 => ?_)
        · skip
          have b_19 := b01n k_16 c_18
          (try simp only [Int32.lt_iff_toInt_lt, Int32.le_iff_toInt_le, ← Int32.toInt_inj, Int32.reduceToInt, zl1, zl2, zl3, zl4, zl9] at b_19)
          (try simp only [Int32.reduceToInt] at b_19)
          exfalso
          omega
        · skip
          have b_20 := b01z k_16 c_18
          (try simp only [Int32.lt_iff_toInt_lt, Int32.le_iff_toInt_le, ← Int32.toInt_inj, Int32.reduceToInt, zl1, zl2, zl3, zl4, zl9] at b_20)
          (try simp only [Int32.reduceToInt] at b_20)
          refine lv_iload hx hb dX2_copyChart_35 (lv_at hl 4 rfl) ?_
          refine lv_sipush (v := 160) hx hb dX2_copyChart_37 (by decide) ?_
          refine lv_iload hx hb dX2_copyChart_40 (lv_at hl 5 rfl) ?_
          refine lv_isub hx hb dX2_copyChart_42 ?_
          refine lv_topi (fun x_21 ex_21 => ?_)
          have tx_21 : x_21.toInt = 160 - a4.toInt := su_k ex_21 (by decide) rfl (by omega) (by omega)
          refine va_calli (va_runSN (As := [.int a3, .int x_21]) (rest := []) ⟨hx, hb, hml, hown, hts⟩ (c_X5_outside l H.size a3 x_21 ) ⟨va_cnB 2 hts gX2_copyChart_X5_outside_n23 rfl rfl rfl hN.nX2_23 (hts (.initialized RX5) (by decide +kernel)) (by decide +kernel) ⟨Nat.le_of_ble_eq_true rfl, Nat.le_of_ble_eq_true rfl⟩, hts (.static yX5_outside) (by decide +kernel), trivial⟩ ⟨fun a U g mk q => by obtain ⟨q0, q1⟩ := q; exact ⟨q0, q1⟩, fun U hU hW => ⟨rfl, congrArg Array.size hU⟩⟩ rfl rfl hl.1 rfl (lv_room (Nat.le_of_ble_eq_true rfl)) dX2_copyChart_43 ⟨(Nat.zero_le _), (Nat.zero_le _)⟩) hS (fun q _ h => ro_A hS hA q h) (ro_A hS hA) (fun r_22 u t H1 locs ht hvm k_23 hB hz1 hk1 hS => ?_)
          have hP := ro_P hk1 hP
          generalize H1 = H at hP hS ⊢
          try dsimp only at k_23
          obtain ⟨k_23, k_24⟩ := k_23
          refine lv_if_ne (tgt := 69) hx hb dX2_copyChart_46 (by decide) (fun c_25 => ?_) (fun c_25 => ?_)
          · skip
            have b_26 := b01n k_23 c_25
            (try simp only [Int32.lt_iff_toInt_lt, Int32.le_iff_toInt_le, ← Int32.toInt_inj, Int32.reduceToInt, zl1, zl2, zl3, zl4, zl9] at b_26)
            (try simp only [Int32.reduceToInt] at b_26)
            exfalso
            omega
          · skip
            have b_27 := b01z k_23 c_25
            (try simp only [Int32.lt_iff_toInt_lt, Int32.le_iff_toInt_le, ← Int32.toInt_inj, Int32.reduceToInt, zl1, zl2, zl3, zl4, zl9] at b_27)
            (try simp only [Int32.reduceToInt] at b_27)
            refine lv_aload_n hx hb dX2_copyChart_49 rfl (lv_at hl 0 rfl) ?_
            refine va_get (D := (dC, dI)) (ci := 3) (v := .ref ch) (C := RX2) (T := TX2) (N := 3) hx hb hts iw_X2_copyChart_X2 hown hK hP 0 rfl rfl 2 (by decide) (hts (.fieldLink RX2 20 "TeaRace$Sea" "charts" "[[B") (by decide +kernel)) (fun _ h9 => h9) rfl dX2_copyChart_50 ?_
            refine lv_iload_n hx hb dX2_copyChart_53 rfl (lv_at hl 1 rfl) ?_
            refine va_alda hx hb hK hP 2 2 rfl rfl (in_k rfl (by omega) (by omega)) dX2_copyChart_54 ?_
            refine W.eq (g2 := F0 m 55 ls [.ref (rr a0.toNatClampNeg)]) (by rw [rr_at (by have := tn_k (i := a0) rfl (by omega); omega)]; rfl) ?_
            have hr_28 := hrows a0.toNatClampNeg (by have := tn_k (i := a0) rfl (by omega); omega)
            refine lv_iload_n hx hb dX2_copyChart_55 rfl (lv_at hl 2 rfl) ?_
            refine lv_aload_n hx hb dX2_copyChart_56 rfl (lv_at hl 0 rfl) ?_
            refine va_get (D := (dC, dI)) (ci := 3) (v := .ref ch) (C := RX2) (T := TX2) (N := 3) hx hb hts iw_X2_copyChart_X2 hown hK hP 0 rfl rfl 2 (by decide) (hts (.fieldLink RX2 20 "TeaRace$Sea" "charts" "[[B") (by decide +kernel)) (fun _ h9 => h9) rfl dX2_copyChart_57 ?_
            refine lv_iload_n hx hb dX2_copyChart_60 rfl (lv_at hl 3 rfl) ?_
            refine va_alda hx hb hK hP 2 2 rfl rfl (in_k rfl (by omega) (by omega)) dX2_copyChart_61 ?_
            refine W.eq (g2 := F0 m 62 ls [.ref (rr a2.toNatClampNeg), .int a1, .ref (rr a0.toNatClampNeg)]) (by rw [rr_at (by have := tn_k (i := a2) rfl (by omega); omega)]; rfl) ?_
            have hr_29 := hrows a2.toNatClampNeg (by have := tn_k (i := a2) rfl (by omega); omega)
            refine lv_iload hx hb dX2_copyChart_62 (lv_at hl 4 rfl) ?_
            refine lv_iload hx hb dX2_copyChart_64 (lv_at hl 5 rfl) ?_
            obtain ⟨k9_30, hk9_30⟩ : ∃ k : Nat, (([(sea, .inr (3, [.ref lc, .ref ct, .ref ch])), (ct, .inl (cZ, 12, .inl Ct)), (ch, .inl (cV, 12, .inr (.inr (.inr (.inr (fun i => if i < 12 then some (rr i) else none))))))] : va_W) ++ va_pl L f)[k]? = some ((rr a0.toNatClampNeg), .inl (cB, 160, .inl (cw a0.toNatClampNeg))) := pl_at hr_28.1 hr_28.2.1
            obtain ⟨k9_31, hk9_31⟩ : ∃ k : Nat, (([(sea, .inr (3, [.ref lc, .ref ct, .ref ch])), (ct, .inl (cZ, 12, .inl Ct)), (ch, .inl (cV, 12, .inr (.inr (.inr (.inr (fun i => if i < 12 then some (rr i) else none))))))] : va_W) ++ va_pl L f)[k]? = some ((rr a2.toNatClampNeg), .inl (cB, 160, .inl (cw a2.toNatClampNeg))) := pl_at hr_29.1 hr_29.2.1
            have hDo_32 := hD
            refine va_copyi hx hb (hml.trans hl.1.symm) hown (hts (.methodLink RX2 37 arraycopyName) (by decide +kernel)) (hts (.native arraycopyName) (by decide +kernel)) (hts (.static arraycopyName) (by decide +kernel)) (hts (.initialized "java/lang/System") (by decide +kernel)) hK hP hD hS k9_30 k9_31 1 1 hk9_30 hk9_31 rfl rfl rfl (fun z => by have := lt_k (q := 0) rfl (by decide) z; omega) (fun z => by have := lt_k (q := 0) rfl (by decide) z; omega) (fun z => by have := lt_k (q := 0) rfl (by decide) z; omega) (by have := tn_k (i := a1) rfl (by omega); have := tn_k (i := a4) rfl (by omega); omega) (by have := tn_k (i := a3) rfl (by omega); have := tn_k (i := a4) rfl (by omega); omega) (fun i _ => hr_28.2.2.2 _) (Nat.le_of_ble_eq_true rfl) (by decide) dX2_copyChart_66 (fun H locs hP hD hS => ?_)
            have hP : va_P (dC, dI) vwCl (List.set (([(sea, .inr (3, [.ref lc, .ref ct, .ref ch])), (ct, .inl (cZ, 12, .inl Ct)), (ch, .inl (cV, 12, .inr (.inr (.inr (.inr (fun i => if i < 12 then some (rr i) else none))))))] : va_W) ++ va_pl L f) k9_31 ((rr a2.toNatClampNeg), .inl (cB, 160, .inl (va_cpy (cw a0.toNatClampNeg) (cw a2.toNatClampNeg) a1.toNatClampNeg a3.toNatClampNeg a4.toNatClampNeg)))) H := hP
            have hD : va_D A (List.set (([(sea, .inr (3, [.ref lc, .ref ct, .ref ch])), (ct, .inl (cZ, 12, .inl Ct)), (ch, .inl (cV, 12, .inr (.inr (.inr (.inr (fun i => if i < 12 then some (rr i) else none))))))] : va_W) ++ va_pl L f) k9_31 ((rr a2.toNatClampNeg), .inl (cB, 160, .inl (va_cpy (cw a0.toNatClampNeg) (cw a2.toNatClampNeg) a1.toNatClampNeg a3.toNatClampNeg a4.toNatClampNeg)))) := hD
            rw [pl_set hDo_32 hr_29.1 hr_29.2.1 hk9_31] at hP hD
            obtain ⟨f_33, ef_33⟩ : ∃ z : Nat → va_E, z = va_up f (rr a2.toNatClampNeg) (.inl (cB, 160, .inl (va_cpy (cw a0.toNatClampNeg) (cw a2.toNatClampNeg) a1.toNatClampNeg a3.toNatClampNeg a4.toNatClampNeg))) := ⟨_, rfl⟩
            rw [← ef_33] at hP hD
            have ho_34 : f_33 (rr a2.toNatClampNeg) = .inl (cB, 160, .inl (va_cpy (cw a0.toNatClampNeg) (cw a2.toNatClampNeg) a1.toNatClampNeg a3.toNatClampNeg a4.toNatClampNeg)) := by rw [ef_33, va_up_self]
            have hP : va_P (dC, dI) vwCl (([(sea, .inr (3, [.ref lc, .ref ct, .ref ch])), (ct, .inl (cZ, 12, .inl Ct)), (ch, .inl (cV, 12, .inr (.inr (.inr (.inr (fun i => if i < 12 then some (rr i) else none))))))] : va_W) ++ va_pl L f_33) H := hP
            have hD : va_D A (([(sea, .inr (3, [.ref lc, .ref ct, .ref ch])), (ct, .inl (cZ, 12, .inl Ct)), (ch, .inl (cV, 12, .inr (.inr (.inr (.inr (fun i => if i < 12 then some (rr i) else none))))))] : va_W) ++ va_pl L f_33) := hD
            have hP9 : va_P (dC, dI) vwCl (([(sea, .inr (3, [.ref lc, .ref ct, .ref ch])), (ct, .inl (cZ, 12, .inl Ct)), (ch, .inl (cV, 12, .inr (.inr (.inr (.inr (fun i => if i < 12 then some (rr i) else none))))))] : va_W) ++ va_pl L f_33) H := va_P.part (X := [(sea, .inr (3, [.ref lc, .ref ct, .ref ch])), (ct, .inl (cZ, 12, .inl Ct)), (ch, .inl (cV, 12, .inr (.inr (.inr (.inr (fun i => if i < 12 then some (rr i) else none))))))]) hP [0, 1, 2] rfl
            have hD9 : va_D A (([(sea, .inr (3, [.ref lc, .ref ct, .ref ch])), (ct, .inl (cZ, 12, .inl Ct)), (ch, .inl (cV, 12, .inr (.inr (.inr (.inr (fun i => if i < 12 then some (rr i) else none))))))] : va_W) ++ va_pl L f_33) := va_D.part (X := [(sea, .inr (3, [.ref lc, .ref ct, .ref ch])), (ct, .inl (cZ, 12, .inl Ct)), (ch, .inl (cV, 12, .inr (.inr (.inr (.inr (fun i => if i < 12 then some (rr i) else none))))))]) hD [0, 1, 2] (by decide) rfl
            have hK9 := hK.sub (tys' := [(cZ, .boolean), (cB, .byte), (cV, .array .byte)]) [0, 1, 2] rfl
            exact W.vret hx hb hr (fun t ht hW => ⟨⟨f_33, rfl, ef_33, ⟨by rw [ht]; exact hP9, va_K.moved hW.alike hK9, hD9⟩⟩, hS.F ht⟩) hS.2.2 dX2_copyChart_69
      · skip
        have qc_13 : a4.toInt < 0 := nle_k (by decide) rfl c_13
        exfalso
        omega
