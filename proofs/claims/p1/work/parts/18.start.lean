set_option maxHeartbeats 4000000 in
set_option maxRecDepth 100000 in
/-- YOUR PART: from the entry, for every script of at most 8 ints, the law comes to its end with true ('hflags': the launch's flags, for a law that throws: no stack traces) -/
theorem whole_start {p : Program} {e : Env} {s : State} {m : MethodId} {below : List Frame} {meth : Method} {c : Code} (l : Launch) (hflags : l.flags = flags0) {b L : Nat} {xs : Nat → Int32} (hL : L ≤ 8) (C0 : lw_At p s m meth c b L xs) : W p l e room_1 s m #[Value.ref b] below meth c s.heap [] 0 0 (lw_Z below #[Value.ref b] s) (entryFrame m ([Value.ref b] : List Value).toArray 4) := by
  obtain ⟨hx, hb, hr, hml, hown, hts0, hX, hbl, hlocks, hgv⟩ := id C0
  have hb : c.code = cL_law := hb
  have hown : s.vm.findClass RL = some m.cls := hown
  have hts : ∀ w ∈ wsL_law, w.before #[Value.ref b] s = true := fun w hw => hts0 w (wsL_law_in w hw)
  obtain ⟨A, hAe⟩ : ∃ A : Nat → Prop, A = fun q : Nat => s.heap.size ≤ q := ⟨_, rfl⟩
  have hA : ∀ q, s.heap.size ≤ q → A q := fun q h => by rw [hAe]; exact h
  have hAb : ∀ q, A q → s.heap.size ≤ q := fun q h => by rw [hAe] at h; exact h
  have hAn : ∀ a : Nat, a < s.heap.size → ¬ A a := fun a h q => Nat.not_le.mpr h (hAb a q)
  obtain ⟨c0, iS0, hKn0⟩ := u_known (C := RJx4a65c) (T := TJx4a65c) (N := 3) (n := 3) hts inlJx4a65c (hts0 (.instantiable RJx4a65c 3) (List.mem_of_getElem? (i := 99) (by decide +kernel)))
  obtain ⟨c1, iS1, hKn1⟩ := u_known (C := RX0) (T := TX0) (N := 6) (n := 6) hts inlX0 (hts0 (.instantiable RX0 6) (List.mem_of_getElem? (i := 452) (by decide +kernel)))
  obtain ⟨c2, iS2, hKn2⟩ := u_known (C := RX1) (T := TX1) (N := 2) (n := 2) hts inlX1 (hts0 (.instantiable RX1 2) (List.mem_of_getElem? (i := 85) (by decide +kernel)))
  obtain ⟨c3, iS3, hKn3⟩ := u_known (C := RX2) (T := TX2) (N := 3) (n := 3) hts inlX2 (hts0 (.instantiable RX2 3) (List.mem_of_getElem? (i := 65) (by decide +kernel)))
  obtain ⟨c4, iS4, hKn4⟩ := u_known (C := RX3) (T := TX3) (N := 14) (n := 14) hts inlX3 (hts0 (.instantiable RX3 14) (List.mem_of_getElem? (i := 258) (by decide +kernel)))
  obtain ⟨c5, iS5, hKn5⟩ := u_known (C := RX4) (T := TX4) (N := 2) (n := 2) hts inlX4 (hts0 (.instantiable RX4 2) (List.mem_of_getElem? (i := 601) (by decide +kernel)))
  obtain ⟨c6, iS6, hKn6⟩ := u_known (C := RX5) (T := TX5) (N := 12) (n := 12) hts inlX5 (hts0 (.instantiable RX5 12) (List.mem_of_getElem? (i := 57) (by decide +kernel)))
  obtain ⟨c7, iS7, hKn7⟩ := u_known (C := RX6) (T := TX6) (N := 31) (n := 31) hts inlX6 (hts0 (.instantiable RX6 31) (List.mem_of_getElem? (i := 714) (by decide +kernel)))
  obtain ⟨dC, dI, hKc⟩ : ∃ (dC : Nat → ClassId) (dI : Nat → Nat → Nat), ∀ (k : Nat) (q : vw_C), vwCl[k]? = some q → u_Kn s q.1 q.2.1 q.2.2 (dC k) (dI k) := by
    refine ⟨fun k => if k = 0 then c0 else if k = 1 then c1 else if k = 2 then c2 else if k = 3 then c3 else if k = 4 then c4 else if k = 5 then c5 else if k = 6 then c6 else c7, fun k => if k = 0 then iS0 else if k = 1 then iS1 else if k = 2 then iS2 else if k = 3 then iS3 else if k = 4 then iS4 else if k = 5 then iS5 else if k = 6 then iS6 else iS7, ?_⟩
    intro k q hq
    match k, hq with
    | 0, hq => cases hq; exact hKn0
    | 1, hq => cases hq; exact hKn1
    | 2, hq => cases hq; exact hKn2
    | 3, hq => cases hq; exact hKn3
    | 4, hq => cases hq; exact hKn4
    | 5, hq => cases hq; exact hKn5
    | 6, hq => cases hq; exact hKn6
    | 7, hq => cases hq; exact hKn7
    | k + 8, hq => simp [vwCl] at hq
  obtain ⟨cZ, ncZ, acZ⟩ := ac_K (hts0 (.arrayClass .boolean) (List.mem_of_getElem? (i := 82) (by decide +kernel)))
  obtain ⟨cB, ncB, acB⟩ := ac_K (hts0 (.arrayClass .byte) (List.mem_of_getElem? (i := 83) (by decide +kernel)))
  obtain ⟨cI, ncI, acI⟩ := ac_K (hts0 (.arrayClass .int) (List.mem_of_getElem? (i := 97) (by decide +kernel)))
  have hK : va_K (dC, dI) vwCl [(cZ, .boolean), (cB, .byte), (cI, .int)] s := by
    refine ⟨hKc, fun k q h => ?_⟩
    match k, h with
    | 0, h => cases h; exact ⟨acZ, ncZ⟩
    | 1, h => cases h; exact ⟨acB, ncB⟩
    | 2, h => cases h; exact ⟨acI, ncI⟩
    | k + 3, h => simp at h
  have hN : NW s := ⟨va_Nw.of rfl (hts0 (.methodLinkNest RX5 9 yX2_init RX5) (List.mem_of_getElem? (i := 66) (by decide +kernel))), va_Nw.of rfl (hts0 (.methodLinkNest RX5 18 yX1_init RX5) (List.mem_of_getElem? (i := 86) (by decide +kernel))), va_Nw.of rfl (hts0 (.methodLinkNest RX2 23 yX5_outside RX5) (List.mem_of_getElem? (i := 172) (by decide +kernel))), va_Nw.of rfl (hts0 (.methodLinkNest RX3 58 yX5_eighthsBetween RX5) (List.mem_of_getElem? (i := 423) (by decide +kernel))), va_Nw.of rfl (hts0 (.methodLinkNest RX3 62 yX5_strengthOf RX5) (List.mem_of_getElem? (i := 430) (by decide +kernel))), va_Nw.of rfl (hts0 (.methodLinkNest RX1 19 yX5_outside RX5) (List.mem_of_getElem? (i := 562) (by decide +kernel))), va_Nw.of rfl (hts0 (.methodLinkNest RX1 45 yX5_needOf RX5) (List.mem_of_getElem? (i := 575) (by decide +kernel))), va_Nw.of rfl (hts0 (.methodLinkNest RX1 54 yX5_monthOf RX5) (List.mem_of_getElem? (i := 577) (by decide +kernel))), va_Nw.of rfl (hts0 (.fieldLinkNest RX2 43 "TeaRace" "EAST_BY_WAY" "[I" RX5) (List.mem_of_getElem? (i := 528) (by decide +kernel))), va_Nw.of rfl (hts0 (.fieldLinkNest RX2 47 "TeaRace" "SOUTH_BY_WAY" "[I" RX5) (List.mem_of_getElem? (i := 530) (by decide +kernel))), va_Nw.of rfl (hts0 (.castable RX3 "java/lang/Object") (List.mem_of_getElem? (i := 1028) (by decide +kernel))), va_Nw.of rfl (hts0 (.castable RX0 "java/lang/Object") (List.mem_of_getElem? (i := 1029) (by decide +kernel))), va_Nw.of rfl (hts0 (.castable RX4 "java/lang/Object") (List.mem_of_getElem? (i := 1030) (by decide +kernel))), va_Fw.of (hts0 (.declares ⟨"java/util/List", "size", "()I"⟩) (List.mem_of_getElem? (i := 250) (by decide +kernel))) (hts0 (.interfaceMethod "java/util/List" "java/util/List" "size" "()I") (List.mem_of_getElem? (i := 249) (by decide +kernel))) (hts0 (.publicMethod yJx4a65c_size_8abf5) (List.mem_of_getElem? (i := 255) (by decide +kernel))) (hts0 (.unhidden RJx4a65c "size" "()I") (List.mem_of_getElem? (i := 253) (by decide +kernel))) (hts0 (.castable RJx4a65c "java/util/List") (List.mem_of_getElem? (i := 251) (by decide +kernel))), va_Fw.of (hts0 (.declares ⟨"java/util/List", "add", "(Ljava/lang/Object;)Z"⟩) (List.mem_of_getElem? (i := 325) (by decide +kernel))) (hts0 (.interfaceMethod "java/util/List" "java/util/List" "add" "(Ljava/lang/Object;)Z") (List.mem_of_getElem? (i := 324) (by decide +kernel))) (hts0 (.publicMethod yJx4a65c_add_9ea2d) (List.mem_of_getElem? (i := 329) (by decide +kernel))) (hts0 (.unhidden RJx4a65c "add" "(Ljava/lang/Object;)Z") (List.mem_of_getElem? (i := 327) (by decide +kernel))) (hts0 (.castable RJx4a65c "java/util/List") (List.mem_of_getElem? (i := 251) (by decide +kernel))), va_Fw.of (hts0 (.declares ⟨"java/util/List", "get", "(I)Ljava/lang/Object;"⟩) (List.mem_of_getElem? (i := 391) (by decide +kernel))) (hts0 (.interfaceMethod "java/util/List" "java/util/List" "get" "(I)Ljava/lang/Object;") (List.mem_of_getElem? (i := 390) (by decide +kernel))) (hts0 (.publicMethod yJx4a65c_get_915e3) (List.mem_of_getElem? (i := 395) (by decide +kernel))) (hts0 (.unhidden RJx4a65c "get" "(I)Ljava/lang/Object;") (List.mem_of_getElem? (i := 393) (by decide +kernel))) (hts0 (.castable RJx4a65c "java/util/List") (List.mem_of_getElem? (i := 251) (by decide +kernel))), va_AO.of (hts0 (.arrayOver (.object "java/lang/Object")) (List.mem_of_getElem? (i := 372) (by decide +kernel))), va_AOA.of (hts0 (.arrayOver (.array .byte)) (List.mem_of_getElem? (i := 71) (by decide +kernel)))⟩
  have hgf := flat_of_before _ hgv
  obtain ⟨te, hte, hTe⟩ := va_Tof (tm := (.static "java/util/ArrayList" "DEFAULTCAPACITY_EMPTY_ELEMENTDATA" "[Ljava/lang/Object;")) (ty := .object "java/lang/Object") (N := 0) (f := fun _ => .null) (A := A) (by decide) (hgf (.arrayOf (.static "java/util/ArrayList" "DEFAULTCAPACITY_EMPTY_ELEMENTDATA" "[Ljava/lang/Object;") (.object "java/lang/Object")) (by decide +kernel)) (va_eqt (hgf (.eq (.length (.static "java/util/ArrayList" "DEFAULTCAPACITY_EMPTY_ELEMENTDATA" "[Ljava/lang/Object;")) (.int 0)) (by decide +kernel))) (fun j h => absurd h (Nat.not_lt_zero j)) hAn
  have hZ : Zd te A s s.heap := ⟨va_Zof (hts0 (.laysStatic "java/util/ArrayList" "DEFAULTCAPACITY_EMPTY_ELEMENTDATA" "[Ljava/lang/Object;") (List.mem_of_getElem? (i := 111) (by decide +kernel))) (hts0 (.initialized "java/util/ArrayList") (List.mem_of_getElem? (i := 45) (by decide +kernel))) hte hAn, hTe⟩
  have hS : va_S A s.heap s.heap [] := va_S.rf
  have hP : va_P (dC, dI) vwCl [] s.heap := fun k q h => by simp at h
  have hD : va_D A [] := ⟨fun i j p q h => by simp at h, fun k q h => by simp at h⟩
  have hl := lv_entry ([.ref b]) (n := 4) (Nat.le_of_ble_eq_true rfl)
  rw [lg_entry_eq]
  generalize (lg_sl ([.ref b]) ++ List.replicate (4 - (lg_sl ([.ref b])).length) Slot.unset).toArray = ls at hl ⊢
  have hl : lv_has ls 4 [(0, .ref b)] := hl
  refine va_new (ci := 6) (fs := [.null, .null, .null, .null, .int 0, .int 0, .int 0, .int 0, .int 0, .int 0, .int 0, .long 0]) (C := RX5) (T := TX5) (N := 12) hx hb hts inlX5 tyX5 tyX5_ok hown (hts0 (.classLink RL 7 RX5) (List.mem_of_getElem? (i := 56) (by decide +kernel))) (hts0 (.instantiable RX5 12) (List.mem_of_getElem? (i := 57) (by decide +kernel))) (hts0 (.initialized RX5) (List.mem_of_getElem? (i := 40) (by decide +kernel))) hK hP hD hS hA rfl (fun j hj => by rcases (show j = 0 ∨ j = 1 ∨ j = 2 ∨ j = 3 ∨ j = 4 ∨ j = 5 ∨ j = 6 ∨ j = 7 ∨ j = 8 ∨ j = 9 ∨ j = 10 ∨ j = 11 by omega) with rfl | rfl | rfl | rfl | rfl | rfl | rfl | rfl | rfl | rfl | rfl | rfl <;> rfl) (Nat.le_of_ble_eq_true rfl) (Nat.le_of_ble_eq_true rfl) dL_law_0 (fun q_1 H hP hD hS => ?_)
  have hP : va_P (dC, dI) vwCl [(q_1, .inr (6, [.null, .null, .null, .null, .int 0, .int 0, .int 0, .int 0, .int 0, .int 0, .int 0, .long 0]))] H := hP
  have hD : va_D A [(q_1, .inr (6, [.null, .null, .null, .null, .int 0, .int 0, .int 0, .int 0, .int 0, .int 0, .int 0, .long 0]))] := hD
  refine W.widen (k := 1) (n := 12) (Nat.le_of_ble_eq_true rfl) (Nat.le_of_ble_eq_true rfl) ?_
  refine lv_dup hx hb dL_law_3 rfl ?_
  have hPc := hP.sub (ws' := [(q_1, .inr (6, [.null, .null, .null, .null, .int 0, .int 0, .int 0, .int 0, .int 0, .int 0, .int 0, .long 0]))]) [0] rfl
  have hDc := hD.sub (ws' := [(q_1, .inr (6, [.null, .null, .null, .null, .int 0, .int 0, .int 0, .int 0, .int 0, .int 0, .int 0, .long 0]))]) [0] (by decide) rfl
  have hKc := hK.sub (tys' := [(cZ, .boolean), (cB, .byte), (cI, .int)]) [0, 1, 2] rfl
  have hFc := va_free (wc := [(q_1, .inr (6, [.null, .null, .null, .null, .int 0, .int 0, .int 0, .int 0, .int 0, .int 0, .int 0, .long 0]))]) hD hS hA [0] rfl
  refine va_callv (va_runI (As := []) (rest := [.ref q_1]) ⟨hx, hb, hml, hown, hts⟩ (c_X5_init l dC dI H.size q_1 te cZ cB cI ) (cwI 0 hts gL_law_X5_init rfl rfl rfl (hts0 (.initialized RX5) (List.mem_of_getElem? (i := 40) (by decide +kernel))) (hts0 (.methodLink RL 9 yX5_init) (List.mem_of_getElem? (i := 58) (by decide +kernel))) (hts0 (.instanceMethod yX5_init) (List.mem_of_getElem? (i := 59) (by decide +kernel))) rfl (by decide +kernel) ⟨Nat.le_of_ble_eq_true rfl, Nat.le_of_ble_eq_true rfl⟩) ⟨fun a U g mk q => by obtain ⟨q0, q1, qP, qK, qN, qD, qZ⟩ := q; exact ⟨q0, q1, qP, va_K.moved (u := U) (U := U.calling g mk a) (Vm.Alike.refl U.vm) qK, NW.same (u := U) (U := U.calling g mk a) rfl qN, qD, Zd.moved (u := U) (U := U.calling g mk a) (Vm.Alike.refl U.vm) qZ⟩, fun U hU hW => ⟨rfl, by rw [hU], by rw [hU]; exact hPc, va_K.moved hW.alike hKc, NW.warm hW hN, hDc.weaken (fun _ _ _ _ => trivial), by rw [hU]; exact Zd.pass hZ hS.2.1 hFc hW.alike⟩⟩ rfl rfl hl.1 rfl (lv_room (Nat.le_of_ble_eq_true rfl)) dL_law_4 ⟨Nat.le_of_ble_eq_true rfl, Nat.le_of_ble_eq_true rfl⟩) hS (fun q _ h => hFc q h) hFc (fun u t H1 locs ht hvm k_3 hB hz1 hk1 hS => ?_)
  obtain ⟨sea, pas, fl, fc, lc, ct, ch, hot, dp, rr, cV, hP1, hK1, hD1⟩ := hB
  rw [ht] at hP1
  have hK1 := va_K.moved hvm.symm hK1
  obtain ⟨hP, hD⟩ := va_join (wr := []) (w1 := [(q_1, .inr (6, [.ref sea, .ref pas, .ref fl, .ref fc, .int 0, .int 0, .int 0, .int 0, .int 0, .int 100, .int 1, .long 0])), (sea, .inr (3, [.ref lc, .ref ct, .ref ch])), (lc, .inl (cZ, 160, .inl (fun _ => 0))), (ct, .inl (cZ, 12, .inl (fun _ => 0))), (ch, .inl (cV, 12, .inr (.inr (.inr (.inr (fun i => if i < 12 then some (rr i) else none)))))), ((rr 0), .inl (cB, 160, .inl (fun _ => 0))), ((rr 1), .inl (cB, 160, .inl (fun _ => 0))), ((rr 2), .inl (cB, 160, .inl (fun _ => 0))), ((rr 3), .inl (cB, 160, .inl (fun _ => 0))), ((rr 4), .inl (cB, 160, .inl (fun _ => 0))), ((rr 5), .inl (cB, 160, .inl (fun _ => 0))), ((rr 6), .inl (cB, 160, .inl (fun _ => 0))), ((rr 7), .inl (cB, 160, .inl (fun _ => 0))), ((rr 8), .inl (cB, 160, .inl (fun _ => 0))), ((rr 9), .inl (cB, 160, .inl (fun _ => 0))), ((rr 10), .inl (cB, 160, .inl (fun _ => 0))), ((rr 11), .inl (cB, 160, .inl (fun _ => 0))), (pas, .inr (2, [.ref hot, .ref dp])), (hot, .inl (cI, 160, .inl (fun _ => 0))), (dp, .inl (cZ, 160, .inl (fun _ => 0))), (fl, .inr (0, [.int 0, .ref te, .int 0])), (fc, .inl (cI, 6, .inl (fun _ => 0)))]) hP hD [0] [] rfl rfl (by decide) (by decide) hk1 hFc hP1 hD1
  have hK := hK.app hK1
  have hK := hK.sub (tys' := [(cZ, .boolean), (cB, .byte), (cI, .int), (cV, .array .byte)]) [0, 1, 2, 6] rfl
  generalize H1 = H at hP hS ⊢
  have hP : va_P (dC, dI) vwCl [(q_1, .inr (6, [.ref sea, .ref pas, .ref fl, .ref fc, .int 0, .int 0, .int 0, .int 0, .int 0, .int 100, .int 1, .long 0])), (sea, .inr (3, [.ref lc, .ref ct, .ref ch])), (lc, .inl (cZ, 160, .inl (fun _ => 0))), (ct, .inl (cZ, 12, .inl (fun _ => 0))), (ch, .inl (cV, 12, .inr (.inr (.inr (.inr (fun i => if i < 12 then some (rr i) else none)))))), ((rr 0), .inl (cB, 160, .inl (fun _ => 0))), ((rr 1), .inl (cB, 160, .inl (fun _ => 0))), ((rr 2), .inl (cB, 160, .inl (fun _ => 0))), ((rr 3), .inl (cB, 160, .inl (fun _ => 0))), ((rr 4), .inl (cB, 160, .inl (fun _ => 0))), ((rr 5), .inl (cB, 160, .inl (fun _ => 0))), ((rr 6), .inl (cB, 160, .inl (fun _ => 0))), ((rr 7), .inl (cB, 160, .inl (fun _ => 0))), ((rr 8), .inl (cB, 160, .inl (fun _ => 0))), ((rr 9), .inl (cB, 160, .inl (fun _ => 0))), ((rr 10), .inl (cB, 160, .inl (fun _ => 0))), ((rr 11), .inl (cB, 160, .inl (fun _ => 0))), (pas, .inr (2, [.ref hot, .ref dp])), (hot, .inl (cI, 160, .inl (fun _ => 0))), (dp, .inl (cZ, 160, .inl (fun _ => 0))), (fl, .inr (0, [.int 0, .ref te, .int 0])), (fc, .inl (cI, 6, .inl (fun _ => 0)))] H := hP
  have hD : va_D A [(q_1, .inr (6, [.ref sea, .ref pas, .ref fl, .ref fc, .int 0, .int 0, .int 0, .int 0, .int 0, .int 100, .int 1, .long 0])), (sea, .inr (3, [.ref lc, .ref ct, .ref ch])), (lc, .inl (cZ, 160, .inl (fun _ => 0))), (ct, .inl (cZ, 12, .inl (fun _ => 0))), (ch, .inl (cV, 12, .inr (.inr (.inr (.inr (fun i => if i < 12 then some (rr i) else none)))))), ((rr 0), .inl (cB, 160, .inl (fun _ => 0))), ((rr 1), .inl (cB, 160, .inl (fun _ => 0))), ((rr 2), .inl (cB, 160, .inl (fun _ => 0))), ((rr 3), .inl (cB, 160, .inl (fun _ => 0))), ((rr 4), .inl (cB, 160, .inl (fun _ => 0))), ((rr 5), .inl (cB, 160, .inl (fun _ => 0))), ((rr 6), .inl (cB, 160, .inl (fun _ => 0))), ((rr 7), .inl (cB, 160, .inl (fun _ => 0))), ((rr 8), .inl (cB, 160, .inl (fun _ => 0))), ((rr 9), .inl (cB, 160, .inl (fun _ => 0))), ((rr 10), .inl (cB, 160, .inl (fun _ => 0))), ((rr 11), .inl (cB, 160, .inl (fun _ => 0))), (pas, .inr (2, [.ref hot, .ref dp])), (hot, .inl (cI, 160, .inl (fun _ => 0))), (dp, .inl (cZ, 160, .inl (fun _ => 0))), (fl, .inr (0, [.int 0, .ref te, .int 0])), (fc, .inl (cI, 6, .inl (fun _ => 0)))] := hD
  try dsimp only at k_3
  refine W.widen (k := 22) (n := 2450) (Nat.le_of_ble_eq_true rfl) (Nat.le_of_ble_eq_true rfl) ?_
  refine lv_astore_n (lv' := [(1, .ref q_1), (0, .ref b)]) hx hb dL_law_7 rfl hl (by decide) rfl (fun ls hl => ?_)
  refine va_new (ci := 7) (fs := [.int 0, .null, .long 0, .int 0, .null, .null, .null, .int 0, .int 0, .null, .int 0, .null, .null, .null, .null, .null, .null, .null, .null, .null, .null, .null, .null, .null, .null, .int 0, .null, .null, .null, .int 0, .int 0]) (C := RX6) (T := TX6) (N := 31) hx hb hts inlX6 tyX6 tyX6_ok hown (hts0 (.classLink RL 10 RX6) (List.mem_of_getElem? (i := 713) (by decide +kernel))) (hts0 (.instantiable RX6 31) (List.mem_of_getElem? (i := 714) (by decide +kernel))) (hts0 (.initialized RX6) (List.mem_of_getElem? (i := 46) (by decide +kernel))) hK hP hD hS hA rfl (fun j hj => by rcases (show j = 0 ∨ j = 1 ∨ j = 2 ∨ j = 3 ∨ j = 4 ∨ j = 5 ∨ j = 6 ∨ j = 7 ∨ j = 8 ∨ j = 9 ∨ j = 10 ∨ j = 11 ∨ j = 12 ∨ j = 13 ∨ j = 14 ∨ j = 15 ∨ j = 16 ∨ j = 17 ∨ j = 18 ∨ j = 19 ∨ j = 20 ∨ j = 21 ∨ j = 22 ∨ j = 23 ∨ j = 24 ∨ j = 25 ∨ j = 26 ∨ j = 27 ∨ j = 28 ∨ j = 29 ∨ j = 30 by omega) with rfl | rfl | rfl | rfl | rfl | rfl | rfl | rfl | rfl | rfl | rfl | rfl | rfl | rfl | rfl | rfl | rfl | rfl | rfl | rfl | rfl | rfl | rfl | rfl | rfl | rfl | rfl | rfl | rfl | rfl | rfl <;> rfl) (Nat.le_of_ble_eq_true rfl) (Nat.le_of_ble_eq_true rfl) dL_law_8 (fun q_4 H hP hD hS => ?_)
  have hP : va_P (dC, dI) vwCl [(q_1, .inr (6, [.ref sea, .ref pas, .ref fl, .ref fc, .int 0, .int 0, .int 0, .int 0, .int 0, .int 100, .int 1, .long 0])), (sea, .inr (3, [.ref lc, .ref ct, .ref ch])), (lc, .inl (cZ, 160, .inl (fun _ => 0))), (ct, .inl (cZ, 12, .inl (fun _ => 0))), (ch, .inl (cV, 12, .inr (.inr (.inr (.inr (fun i => if i < 12 then some (rr i) else none)))))), ((rr 0), .inl (cB, 160, .inl (fun _ => 0))), ((rr 1), .inl (cB, 160, .inl (fun _ => 0))), ((rr 2), .inl (cB, 160, .inl (fun _ => 0))), ((rr 3), .inl (cB, 160, .inl (fun _ => 0))), ((rr 4), .inl (cB, 160, .inl (fun _ => 0))), ((rr 5), .inl (cB, 160, .inl (fun _ => 0))), ((rr 6), .inl (cB, 160, .inl (fun _ => 0))), ((rr 7), .inl (cB, 160, .inl (fun _ => 0))), ((rr 8), .inl (cB, 160, .inl (fun _ => 0))), ((rr 9), .inl (cB, 160, .inl (fun _ => 0))), ((rr 10), .inl (cB, 160, .inl (fun _ => 0))), ((rr 11), .inl (cB, 160, .inl (fun _ => 0))), (pas, .inr (2, [.ref hot, .ref dp])), (hot, .inl (cI, 160, .inl (fun _ => 0))), (dp, .inl (cZ, 160, .inl (fun _ => 0))), (fl, .inr (0, [.int 0, .ref te, .int 0])), (fc, .inl (cI, 6, .inl (fun _ => 0))), (q_4, .inr (7, [.int 0, .null, .long 0, .int 0, .null, .null, .null, .int 0, .int 0, .null, .int 0, .null, .null, .null, .null, .null, .null, .null, .null, .null, .null, .null, .null, .null, .null, .int 0, .null, .null, .null, .int 0, .int 0]))] H := hP
  have hD : va_D A [(q_1, .inr (6, [.ref sea, .ref pas, .ref fl, .ref fc, .int 0, .int 0, .int 0, .int 0, .int 0, .int 100, .int 1, .long 0])), (sea, .inr (3, [.ref lc, .ref ct, .ref ch])), (lc, .inl (cZ, 160, .inl (fun _ => 0))), (ct, .inl (cZ, 12, .inl (fun _ => 0))), (ch, .inl (cV, 12, .inr (.inr (.inr (.inr (fun i => if i < 12 then some (rr i) else none)))))), ((rr 0), .inl (cB, 160, .inl (fun _ => 0))), ((rr 1), .inl (cB, 160, .inl (fun _ => 0))), ((rr 2), .inl (cB, 160, .inl (fun _ => 0))), ((rr 3), .inl (cB, 160, .inl (fun _ => 0))), ((rr 4), .inl (cB, 160, .inl (fun _ => 0))), ((rr 5), .inl (cB, 160, .inl (fun _ => 0))), ((rr 6), .inl (cB, 160, .inl (fun _ => 0))), ((rr 7), .inl (cB, 160, .inl (fun _ => 0))), ((rr 8), .inl (cB, 160, .inl (fun _ => 0))), ((rr 9), .inl (cB, 160, .inl (fun _ => 0))), ((rr 10), .inl (cB, 160, .inl (fun _ => 0))), ((rr 11), .inl (cB, 160, .inl (fun _ => 0))), (pas, .inr (2, [.ref hot, .ref dp])), (hot, .inl (cI, 160, .inl (fun _ => 0))), (dp, .inl (cZ, 160, .inl (fun _ => 0))), (fl, .inr (0, [.int 0, .ref te, .int 0])), (fc, .inl (cI, 6, .inl (fun _ => 0))), (q_4, .inr (7, [.int 0, .null, .long 0, .int 0, .null, .null, .null, .int 0, .int 0, .null, .int 0, .null, .null, .null, .null, .null, .null, .null, .null, .null, .null, .null, .null, .null, .null, .int 0, .null, .null, .null, .int 0, .int 0]))] := hD
  refine W.widen (k := 23) (n := 2481) (Nat.le_of_ble_eq_true rfl) (Nat.le_of_ble_eq_true rfl) ?_
  refine lv_dup hx hb dL_law_11 rfl ?_
  have hPc := hP.sub (ws' := [(q_4, .inr (7, [.int 0, .null, .long 0, .int 0, .null, .null, .null, .int 0, .int 0, .null, .int 0, .null, .null, .null, .null, .null, .null, .null, .null, .null, .null, .null, .null, .null, .null, .int 0, .null, .null, .null, .int 0, .int 0]))]) [22] rfl
  have hDc := hD.sub (ws' := [(q_4, .inr (7, [.int 0, .null, .long 0, .int 0, .null, .null, .null, .int 0, .int 0, .null, .int 0, .null, .null, .null, .null, .null, .null, .null, .null, .null, .null, .null, .null, .null, .null, .int 0, .null, .null, .null, .int 0, .int 0]))]) [22] (by decide) rfl
  have hKc := hK.sub (tys' := [(cZ, .boolean), (cI, .int)]) [0, 2] rfl
  have hFc := va_free (wc := [(q_4, .inr (7, [.int 0, .null, .long 0, .int 0, .null, .null, .null, .int 0, .int 0, .null, .int 0, .null, .null, .null, .null, .null, .null, .null, .null, .null, .null, .null, .null, .null, .null, .int 0, .null, .null, .null, .int 0, .int 0]))]) hD hS hA [22] rfl
  refine va_callv (va_runI (As := []) (rest := [.ref q_4]) ⟨hx, hb, hml, hown, hts⟩ (c_X6_init l dC dI H.size q_4 cZ cI ) (cwI 0 hts gL_law_X6_init rfl rfl rfl (hts0 (.initialized RX6) (List.mem_of_getElem? (i := 46) (by decide +kernel))) (hts0 (.methodLink RL 12 yX6_init) (List.mem_of_getElem? (i := 715) (by decide +kernel))) (hts0 (.instanceMethod yX6_init) (List.mem_of_getElem? (i := 716) (by decide +kernel))) rfl (by decide +kernel) ⟨Nat.le_of_ble_eq_true rfl, Nat.le_of_ble_eq_true rfl⟩) ⟨fun a U g mk q => by obtain ⟨q0, q1, qP, qK, qN, qD⟩ := q; exact ⟨q0, q1, qP, va_K.moved (u := U) (U := U.calling g mk a) (Vm.Alike.refl U.vm) qK, NW.same (u := U) (U := U.calling g mk a) rfl qN, qD⟩, fun U hU hW => ⟨rfl, by rw [hU], by rw [hU]; exact hPc, va_K.moved hW.alike hKc, NW.warm hW hN, hDc.weaken (fun _ _ _ _ => trivial)⟩⟩ rfl rfl hl.1 rfl (lv_room (Nat.le_of_ble_eq_true rfl)) dL_law_12 ⟨Nat.le_of_ble_eq_true rfl, Nat.le_of_ble_eq_true rfl⟩) hS (fun q _ h => hFc q h) hFc (fun u t H1 locs ht hvm k_6 hB hz1 hk1 hS => ?_)
  obtain ⟨mfi, mil, mic, mwi, mmo, mki, mce, mgo, mwa, mha, mch, mfo, mca, mor, mro, mra, mpr, mho, mis, mss, msc, msh, hP1, hK1, hD1⟩ := hB
  rw [ht] at hP1
  have hK1 := va_K.moved hvm.symm hK1
  obtain ⟨hP, hD⟩ := va_join (wr := [(q_1, .inr (6, [.ref sea, .ref pas, .ref fl, .ref fc, .int 0, .int 0, .int 0, .int 0, .int 0, .int 100, .int 1, .long 0])), (sea, .inr (3, [.ref lc, .ref ct, .ref ch])), (lc, .inl (cZ, 160, .inl (fun _ => 0))), (ct, .inl (cZ, 12, .inl (fun _ => 0))), (ch, .inl (cV, 12, .inr (.inr (.inr (.inr (fun i => if i < 12 then some (rr i) else none)))))), ((rr 0), .inl (cB, 160, .inl (fun _ => 0))), ((rr 1), .inl (cB, 160, .inl (fun _ => 0))), ((rr 2), .inl (cB, 160, .inl (fun _ => 0))), ((rr 3), .inl (cB, 160, .inl (fun _ => 0))), ((rr 4), .inl (cB, 160, .inl (fun _ => 0))), ((rr 5), .inl (cB, 160, .inl (fun _ => 0))), ((rr 6), .inl (cB, 160, .inl (fun _ => 0))), ((rr 7), .inl (cB, 160, .inl (fun _ => 0))), ((rr 8), .inl (cB, 160, .inl (fun _ => 0))), ((rr 9), .inl (cB, 160, .inl (fun _ => 0))), ((rr 10), .inl (cB, 160, .inl (fun _ => 0))), ((rr 11), .inl (cB, 160, .inl (fun _ => 0))), (pas, .inr (2, [.ref hot, .ref dp])), (hot, .inl (cI, 160, .inl (fun _ => 0))), (dp, .inl (cZ, 160, .inl (fun _ => 0))), (fl, .inr (0, [.int 0, .ref te, .int 0])), (fc, .inl (cI, 6, .inl (fun _ => 0)))]) (w1 := [(q_4, .inr (7, [.int 0, .ref mfi, .long 0, .int 0, .ref mil, .ref mic, .ref mwi, .int 0, .int 0, .ref mmo, .int 0, .ref mki, .ref mce, .ref mgo, .ref mwa, .ref mha, .ref mch, .ref mfo, .ref mca, .ref mor, .ref mro, .ref mra, .ref mpr, .ref mho, .ref mis, .int 0, .ref mss, .ref msc, .ref msh, .int 100, .int 1])), (mfi, .inl (cI, 6, .inl (fun _ => 0))), (mil, .inl (cZ, 160, .inl (fun _ => 0))), (mic, .inl (cZ, 12, .inl (fun _ => 0))), (mwi, .inl (cI, 1920, .inl (fun _ => 0))), (mmo, .inl (cI, 160, .inl (fun _ => 0))), (mki, .inl (cI, 8, .inl (fun _ => 0))), (mce, .inl (cI, 8, .inl (fun _ => 0))), (mgo, .inl (cI, 8, .inl (fun _ => 0))), (mwa, .inl (cI, 8, .inl (fun _ => 0))), (mha, .inl (cI, 8, .inl (fun _ => 0))), (mch, .inl (cI, 8, .inl (fun _ => 0))), (mfo, .inl (cI, 8, .inl (fun _ => 0))), (mca, .inl (cI, 8, .inl (fun _ => 0))), (mor, .inl (cI, 8, .inl (fun _ => 0))), (mro, .inl (cI, 960, .inl (fun _ => 0))), (mra, .inl (cI, 8, .inl (fun _ => 0))), (mpr, .inl (cI, 8, .inl (fun _ => 0))), (mho, .inl (cI, 160, .inl (fun _ => 0))), (mis, .inl (cZ, 160, .inl (fun _ => 0))), (mss, .inl (cI, 60, .inl (fun _ => 0))), (msc, .inl (cI, 60, .inl (fun _ => 0))), (msh, .inl (cI, 60, .inl (fun _ => 0)))]) hP hD [22] [0, 1, 2, 3, 4, 5, 6, 7, 8, 9, 10, 11, 12, 13, 14, 15, 16, 17, 18, 19, 20, 21] rfl rfl (by decide) (by decide) hk1 hFc hP1 hD1
  generalize H1 = H at hP hS ⊢
  have hP : va_P (dC, dI) vwCl [(q_1, .inr (6, [.ref sea, .ref pas, .ref fl, .ref fc, .int 0, .int 0, .int 0, .int 0, .int 0, .int 100, .int 1, .long 0])), (sea, .inr (3, [.ref lc, .ref ct, .ref ch])), (lc, .inl (cZ, 160, .inl (fun _ => 0))), (ct, .inl (cZ, 12, .inl (fun _ => 0))), (ch, .inl (cV, 12, .inr (.inr (.inr (.inr (fun i => if i < 12 then some (rr i) else none)))))), ((rr 0), .inl (cB, 160, .inl (fun _ => 0))), ((rr 1), .inl (cB, 160, .inl (fun _ => 0))), ((rr 2), .inl (cB, 160, .inl (fun _ => 0))), ((rr 3), .inl (cB, 160, .inl (fun _ => 0))), ((rr 4), .inl (cB, 160, .inl (fun _ => 0))), ((rr 5), .inl (cB, 160, .inl (fun _ => 0))), ((rr 6), .inl (cB, 160, .inl (fun _ => 0))), ((rr 7), .inl (cB, 160, .inl (fun _ => 0))), ((rr 8), .inl (cB, 160, .inl (fun _ => 0))), ((rr 9), .inl (cB, 160, .inl (fun _ => 0))), ((rr 10), .inl (cB, 160, .inl (fun _ => 0))), ((rr 11), .inl (cB, 160, .inl (fun _ => 0))), (pas, .inr (2, [.ref hot, .ref dp])), (hot, .inl (cI, 160, .inl (fun _ => 0))), (dp, .inl (cZ, 160, .inl (fun _ => 0))), (fl, .inr (0, [.int 0, .ref te, .int 0])), (fc, .inl (cI, 6, .inl (fun _ => 0))), (q_4, .inr (7, [.int 0, .ref mfi, .long 0, .int 0, .ref mil, .ref mic, .ref mwi, .int 0, .int 0, .ref mmo, .int 0, .ref mki, .ref mce, .ref mgo, .ref mwa, .ref mha, .ref mch, .ref mfo, .ref mca, .ref mor, .ref mro, .ref mra, .ref mpr, .ref mho, .ref mis, .int 0, .ref mss, .ref msc, .ref msh, .int 100, .int 1])), (mfi, .inl (cI, 6, .inl (fun _ => 0))), (mil, .inl (cZ, 160, .inl (fun _ => 0))), (mic, .inl (cZ, 12, .inl (fun _ => 0))), (mwi, .inl (cI, 1920, .inl (fun _ => 0))), (mmo, .inl (cI, 160, .inl (fun _ => 0))), (mki, .inl (cI, 8, .inl (fun _ => 0))), (mce, .inl (cI, 8, .inl (fun _ => 0))), (mgo, .inl (cI, 8, .inl (fun _ => 0))), (mwa, .inl (cI, 8, .inl (fun _ => 0))), (mha, .inl (cI, 8, .inl (fun _ => 0))), (mch, .inl (cI, 8, .inl (fun _ => 0))), (mfo, .inl (cI, 8, .inl (fun _ => 0))), (mca, .inl (cI, 8, .inl (fun _ => 0))), (mor, .inl (cI, 8, .inl (fun _ => 0))), (mro, .inl (cI, 960, .inl (fun _ => 0))), (mra, .inl (cI, 8, .inl (fun _ => 0))), (mpr, .inl (cI, 8, .inl (fun _ => 0))), (mho, .inl (cI, 160, .inl (fun _ => 0))), (mis, .inl (cZ, 160, .inl (fun _ => 0))), (mss, .inl (cI, 60, .inl (fun _ => 0))), (msc, .inl (cI, 60, .inl (fun _ => 0))), (msh, .inl (cI, 60, .inl (fun _ => 0)))] H := hP
  have hD : va_D A [(q_1, .inr (6, [.ref sea, .ref pas, .ref fl, .ref fc, .int 0, .int 0, .int 0, .int 0, .int 0, .int 100, .int 1, .long 0])), (sea, .inr (3, [.ref lc, .ref ct, .ref ch])), (lc, .inl (cZ, 160, .inl (fun _ => 0))), (ct, .inl (cZ, 12, .inl (fun _ => 0))), (ch, .inl (cV, 12, .inr (.inr (.inr (.inr (fun i => if i < 12 then some (rr i) else none)))))), ((rr 0), .inl (cB, 160, .inl (fun _ => 0))), ((rr 1), .inl (cB, 160, .inl (fun _ => 0))), ((rr 2), .inl (cB, 160, .inl (fun _ => 0))), ((rr 3), .inl (cB, 160, .inl (fun _ => 0))), ((rr 4), .inl (cB, 160, .inl (fun _ => 0))), ((rr 5), .inl (cB, 160, .inl (fun _ => 0))), ((rr 6), .inl (cB, 160, .inl (fun _ => 0))), ((rr 7), .inl (cB, 160, .inl (fun _ => 0))), ((rr 8), .inl (cB, 160, .inl (fun _ => 0))), ((rr 9), .inl (cB, 160, .inl (fun _ => 0))), ((rr 10), .inl (cB, 160, .inl (fun _ => 0))), ((rr 11), .inl (cB, 160, .inl (fun _ => 0))), (pas, .inr (2, [.ref hot, .ref dp])), (hot, .inl (cI, 160, .inl (fun _ => 0))), (dp, .inl (cZ, 160, .inl (fun _ => 0))), (fl, .inr (0, [.int 0, .ref te, .int 0])), (fc, .inl (cI, 6, .inl (fun _ => 0))), (q_4, .inr (7, [.int 0, .ref mfi, .long 0, .int 0, .ref mil, .ref mic, .ref mwi, .int 0, .int 0, .ref mmo, .int 0, .ref mki, .ref mce, .ref mgo, .ref mwa, .ref mha, .ref mch, .ref mfo, .ref mca, .ref mor, .ref mro, .ref mra, .ref mpr, .ref mho, .ref mis, .int 0, .ref mss, .ref msc, .ref msh, .int 100, .int 1])), (mfi, .inl (cI, 6, .inl (fun _ => 0))), (mil, .inl (cZ, 160, .inl (fun _ => 0))), (mic, .inl (cZ, 12, .inl (fun _ => 0))), (mwi, .inl (cI, 1920, .inl (fun _ => 0))), (mmo, .inl (cI, 160, .inl (fun _ => 0))), (mki, .inl (cI, 8, .inl (fun _ => 0))), (mce, .inl (cI, 8, .inl (fun _ => 0))), (mgo, .inl (cI, 8, .inl (fun _ => 0))), (mwa, .inl (cI, 8, .inl (fun _ => 0))), (mha, .inl (cI, 8, .inl (fun _ => 0))), (mch, .inl (cI, 8, .inl (fun _ => 0))), (mfo, .inl (cI, 8, .inl (fun _ => 0))), (mca, .inl (cI, 8, .inl (fun _ => 0))), (mor, .inl (cI, 8, .inl (fun _ => 0))), (mro, .inl (cI, 960, .inl (fun _ => 0))), (mra, .inl (cI, 8, .inl (fun _ => 0))), (mpr, .inl (cI, 8, .inl (fun _ => 0))), (mho, .inl (cI, 160, .inl (fun _ => 0))), (mis, .inl (cZ, 160, .inl (fun _ => 0))), (mss, .inl (cI, 60, .inl (fun _ => 0))), (msc, .inl (cI, 60, .inl (fun _ => 0))), (msh, .inl (cI, 60, .inl (fun _ => 0)))] := hD
  try dsimp only at k_6
  refine W.widen (k := 45) (n := 6287) (Nat.le_of_ble_eq_true rfl) (Nat.le_of_ble_eq_true rfl) ?_
  refine lv_astore_n (lv' := [(2, .ref q_4), (1, .ref q_1), (0, .ref b)]) hx hb dL_law_15 rfl hl (by decide) rfl (fun ls hl => ?_)
  refine lv_iconst (v := 0) hx hb dL_law_16 (by decide) ?_
  refine lv_istore_n (lv' := [(3, .int 0), (2, .ref q_4), (1, .ref q_1), (0, .ref b)]) hx hb dL_law_17 rfl hl (by decide) rfl (fun ls hl => ?_)
  by_cases hL8 : L = 8
  · subst hL8
    have hP := hP.sub (ws' := [(q_1, .inr (6, [.ref sea, .ref pas, .ref fl, .ref fc, .int 0, .int 0, .int 0, .int 0, .int 0, .int 100, .int 1, .long 0])), (sea, .inr (3, [.ref lc, .ref ct, .ref ch])), (lc, .inl (cZ, 160, .inl (fun _ => 0))), (ct, .inl (cZ, 12, .inl (fun _ => 0))), (ch, .inl (cV, 12, .inr (.inr (.inr (.inr (fun i => if i < 12 then some (rr i) else none)))))), ((rr 0), .inl (cB, 160, .inl (fun _ => 0))), ((rr 1), .inl (cB, 160, .inl (fun _ => 0))), ((rr 2), .inl (cB, 160, .inl (fun _ => 0))), ((rr 3), .inl (cB, 160, .inl (fun _ => 0))), ((rr 4), .inl (cB, 160, .inl (fun _ => 0))), ((rr 5), .inl (cB, 160, .inl (fun _ => 0))), ((rr 6), .inl (cB, 160, .inl (fun _ => 0))), ((rr 7), .inl (cB, 160, .inl (fun _ => 0))), ((rr 8), .inl (cB, 160, .inl (fun _ => 0))), ((rr 9), .inl (cB, 160, .inl (fun _ => 0))), ((rr 10), .inl (cB, 160, .inl (fun _ => 0))), ((rr 11), .inl (cB, 160, .inl (fun _ => 0))), (pas, .inr (2, [.ref hot, .ref dp])), (hot, .inl (cI, 160, .inl (fun _ => 0))), (dp, .inl (cZ, 160, .inl (fun _ => 0))), (fl, .inr (0, [.int 0, .ref te, .int 0])), (fc, .inl (cI, 6, .inl (fun _ => 0))), (q_4, .inr (7, [.int 0, .ref mfi, .long 0, .int 0, .ref mil, .ref mic, .ref mwi, .int 0, .int 0, .ref mmo, .int 0, .ref mki, .ref mce, .ref mgo, .ref mwa, .ref mha, .ref mch, .ref mfo, .ref mca, .ref mor, .ref mro, .ref mra, .ref mpr, .ref mho, .ref mis, .int 0, .ref mss, .ref msc, .ref msh, .int 100, .int 1])), (mfi, .inl (cI, 6, .inl (fun _ => 0))), (mil, .inl (cZ, 160, .inl (fun _ => 0))), (mic, .inl (cZ, 12, .inl (fun _ => 0))), (mwi, .inl (cI, 1920, .inl (fun _ => 0))), (mmo, .inl (cI, 160, .inl (fun _ => 0))), (mki, .inl (cI, 8, .inl (fun _ => 0))), (mce, .inl (cI, 8, .inl (fun _ => 0))), (mgo, .inl (cI, 8, .inl (fun _ => 0))), (mwa, .inl (cI, 8, .inl (fun _ => 0))), (mha, .inl (cI, 8, .inl (fun _ => 0))), (mch, .inl (cI, 8, .inl (fun _ => 0))), (mfo, .inl (cI, 8, .inl (fun _ => 0))), (mca, .inl (cI, 8, .inl (fun _ => 0))), (mor, .inl (cI, 8, .inl (fun _ => 0))), (mro, .inl (cI, 960, .inl (fun _ => 0))), (mra, .inl (cI, 8, .inl (fun _ => 0))), (mpr, .inl (cI, 8, .inl (fun _ => 0))), (mho, .inl (cI, 160, .inl (fun _ => 0))), (mis, .inl (cZ, 160, .inl (fun _ => 0))), (mss, .inl (cI, 60, .inl (fun _ => 0))), (msc, .inl (cI, 60, .inl (fun _ => 0))), (msh, .inl (cI, 60, .inl (fun _ => 0)))]) [0, 1, 2, 3, 4, 5, 6, 7, 8, 9, 10, 11, 12, 13, 14, 15, 16, 17, 18, 19, 20, 21, 22, 23, 24, 25, 26, 27, 28, 29, 30, 31, 32, 33, 34, 35, 36, 37, 38, 39, 40, 41, 42, 43, 44] rfl
    have hD := hD.sub (ws' := [(q_1, .inr (6, [.ref sea, .ref pas, .ref fl, .ref fc, .int 0, .int 0, .int 0, .int 0, .int 0, .int 100, .int 1, .long 0])), (sea, .inr (3, [.ref lc, .ref ct, .ref ch])), (lc, .inl (cZ, 160, .inl (fun _ => 0))), (ct, .inl (cZ, 12, .inl (fun _ => 0))), (ch, .inl (cV, 12, .inr (.inr (.inr (.inr (fun i => if i < 12 then some (rr i) else none)))))), ((rr 0), .inl (cB, 160, .inl (fun _ => 0))), ((rr 1), .inl (cB, 160, .inl (fun _ => 0))), ((rr 2), .inl (cB, 160, .inl (fun _ => 0))), ((rr 3), .inl (cB, 160, .inl (fun _ => 0))), ((rr 4), .inl (cB, 160, .inl (fun _ => 0))), ((rr 5), .inl (cB, 160, .inl (fun _ => 0))), ((rr 6), .inl (cB, 160, .inl (fun _ => 0))), ((rr 7), .inl (cB, 160, .inl (fun _ => 0))), ((rr 8), .inl (cB, 160, .inl (fun _ => 0))), ((rr 9), .inl (cB, 160, .inl (fun _ => 0))), ((rr 10), .inl (cB, 160, .inl (fun _ => 0))), ((rr 11), .inl (cB, 160, .inl (fun _ => 0))), (pas, .inr (2, [.ref hot, .ref dp])), (hot, .inl (cI, 160, .inl (fun _ => 0))), (dp, .inl (cZ, 160, .inl (fun _ => 0))), (fl, .inr (0, [.int 0, .ref te, .int 0])), (fc, .inl (cI, 6, .inl (fun _ => 0))), (q_4, .inr (7, [.int 0, .ref mfi, .long 0, .int 0, .ref mil, .ref mic, .ref mwi, .int 0, .int 0, .ref mmo, .int 0, .ref mki, .ref mce, .ref mgo, .ref mwa, .ref mha, .ref mch, .ref mfo, .ref mca, .ref mor, .ref mro, .ref mra, .ref mpr, .ref mho, .ref mis, .int 0, .ref mss, .ref msc, .ref msh, .int 100, .int 1])), (mfi, .inl (cI, 6, .inl (fun _ => 0))), (mil, .inl (cZ, 160, .inl (fun _ => 0))), (mic, .inl (cZ, 12, .inl (fun _ => 0))), (mwi, .inl (cI, 1920, .inl (fun _ => 0))), (mmo, .inl (cI, 160, .inl (fun _ => 0))), (mki, .inl (cI, 8, .inl (fun _ => 0))), (mce, .inl (cI, 8, .inl (fun _ => 0))), (mgo, .inl (cI, 8, .inl (fun _ => 0))), (mwa, .inl (cI, 8, .inl (fun _ => 0))), (mha, .inl (cI, 8, .inl (fun _ => 0))), (mch, .inl (cI, 8, .inl (fun _ => 0))), (mfo, .inl (cI, 8, .inl (fun _ => 0))), (mca, .inl (cI, 8, .inl (fun _ => 0))), (mor, .inl (cI, 8, .inl (fun _ => 0))), (mro, .inl (cI, 960, .inl (fun _ => 0))), (mra, .inl (cI, 8, .inl (fun _ => 0))), (mpr, .inl (cI, 8, .inl (fun _ => 0))), (mho, .inl (cI, 160, .inl (fun _ => 0))), (mis, .inl (cZ, 160, .inl (fun _ => 0))), (mss, .inl (cI, 60, .inl (fun _ => 0))), (msc, .inl (cI, 60, .inl (fun _ => 0))), (msh, .inl (cI, 60, .inl (fun _ => 0)))]) [0, 1, 2, 3, 4, 5, 6, 7, 8, 9, 10, 11, 12, 13, 14, 15, 16, 17, 18, 19, 20, 21, 22, 23, 24, 25, 26, 27, 28, 29, 30, 31, 32, 33, 34, 35, 36, 37, 38, 39, 40, 41, 42, 43, 44] (by decide) rfl
    have hK := hK.sub (tys' := [(cZ, .boolean), (cB, .byte), (cI, .int), (cV, .array .byte)]) [0, 1, 2, 3] rfl
    have hbA : ¬ A b := fun h => Nat.not_le.mpr hbl (hAb b h)
    refine lv_iload_n hx hb dL_law_18 rfl (lv_at hl 0 rfl) ?_
    refine lv_aload_n hx hb dL_law_19 rfl (lv_at hl 3 rfl) ?_
    refine va_slen hx hb hX hbl hbA hS dL_law_20 ?_
    refine lv_topi (fun x_L ex_L => ?_)
    obtain rfl : x_L = 8 := ex_L.trans (by decide +kernel)
    refine lv_bipush (v := 8) hx hb dL_law_21 (by decide) ?_
    refine lv_isub hx hb dL_law_23 ?_
    refine lv_topi (fun x_7 ex_7 => ?_)
    obtain rfl : x_7 = 0 := ex_7.trans (by decide +kernel)
    refine lv_icmp_gt (tgt := 1165) hx hb dL_law_24 (by decide) (fun c_8 => ?_) (fun c_8 => ?_)
    · skip
      exact absurd c_8 (by decide)
    · skip
      refine lv_aload_n hx hb dL_law_27 rfl (lv_at hl 3 rfl) ?_
      refine lv_iload_n hx hb dL_law_28 rfl (lv_at hl 0 rfl) ?_
      refine va_sld hx hb hX hbl hbA hS (vp_in_iff.mpr (by decide +kernel)) dL_law_29 ?_
      refine lv_topi (fun y0_9 ey0_9 => ?_)
      refine lv_bipush (v := 31) hx hb dL_law_30 (by decide) ?_
      refine lv_iand hx hb dL_law_32 ?_
      refine lv_topi (fun x_10 ex_10 => ?_)
      by_cases t_11 : x_10.toInt < 0 ∨ 28 < x_10.toInt
      · skip
        refine lv_tableOut (tgt := 1159) hx hb dL_law_33 t_11 (by decide) ?_
        exact law_end l C0 hAb (Nat.le_of_ble_eq_true rfl) (Nat.le_of_ble_eq_true rfl) hS ls (lv_sub hl [0, 3, 2, 1] rfl)
      · skip
        have v_12 : x_10 = 0 ∨ x_10 = 1 ∨ x_10 = 2 ∨ x_10 = 3 ∨ x_10 = 4 ∨ x_10 = 5 ∨ x_10 = 6 ∨ x_10 = 7 ∨ x_10 = 8 ∨ x_10 = 9 ∨ x_10 = 10 ∨ x_10 = 11 ∨ x_10 = 12 ∨ x_10 = 13 ∨ x_10 = 14 ∨ x_10 = 15 ∨ x_10 = 16 ∨ x_10 = 17 ∨ x_10 = 18 ∨ x_10 = 19 ∨ x_10 = 20 ∨ x_10 = 21 ∨ x_10 = 22 ∨ x_10 = 23 ∨ x_10 = 24 ∨ x_10 = 25 ∨ x_10 = 26 ∨ x_10 = 27 ∨ x_10 = 28 := by
          simp only [← Int32.toInt_inj, Int32.reduceToInt] at t_11 ⊢
          omega
        clear t_11
        rcases v_12 with rfl | rfl | rfl | rfl | rfl | rfl | rfl | rfl | rfl | rfl | rfl | rfl | rfl | rfl | rfl | rfl | rfl | rfl | rfl | rfl | rfl | rfl | rfl | rfl | rfl | rfl | rfl | rfl | rfl
        · skip
          refine lv_tableIn (off := 131) (tgt := 164) hx hb dL_law_33 (by decide) (by decide) (by decide) (by decide) ?_
          exact law_land l C0 hA hAb hK hN hZ hP hD hS ls (lv_sub hl [0, 1, 2, 3] rfl)
        · skip
          refine lv_tableIn (off := 180) (tgt := 213) hx hb dL_law_33 (by decide) (by decide) (by decide) (by decide) ?_
          exact law_chart l C0 hA hAb hK hN hZ hP hD hS ls (lv_sub hl [0, 1, 2, 3] rfl)
        · skip
          refine lv_tableIn (off := 203) (tgt := 236) hx hb dL_law_33 (by decide) (by decide) (by decide) (by decide) ?_
          exact law_wind l C0 hA hAb hK hN hZ hP hD hS ls (lv_sub hl [0, 1, 2, 3] rfl)
        · skip
          refine lv_tableIn (off := 246) (tgt := 279) hx hb dL_law_33 (by decide) (by decide) (by decide) (by decide) ?_
          exact law_tear l C0 hA hAb hK hN hZ hP hD hS ls (lv_sub hl [0, 1, 2, 3] rfl)
        · skip
          refine lv_tableIn (off := 269) (tgt := 302) hx hb dL_law_33 (by decide) (by decide) (by decide) (by decide) ?_
          exact law_copy l C0 hA hAb hK hN hZ hP hD hS ls (lv_sub hl [0, 1, 2, 3] rfl)
        · skip
          refine lv_tableIn (off := 332) (tgt := 365) hx hb dL_law_33 (by decide) (by decide) (by decide) (by decide) ?_
          exact law_mean l C0 hA hAb hK hN hZ hP hD hS ls (lv_sub hl [0, 1, 2, 3] rfl)
        · skip
          refine lv_tableIn (off := 355) (tgt := 388) hx hb dL_law_33 (by decide) (by decide) (by decide) (by decide) ?_
          exact law_ship l C0 hA hAb hK hN hZ hP hD hS ls (lv_sub hl [0, 1, 2, 3] rfl)
        · skip
          refine lv_tableIn (off := 398) (tgt := 431) hx hb dL_law_33 (by decide) (by decide) (by decide) (by decide) ?_
          exact law_foul l C0 hA hAb hK hN hZ hP hD hS ls (lv_sub hl [0, 1, 2, 3] rfl)
        · skip
          refine lv_tableIn (off := 431) (tgt := 464) hx hb dL_law_33 (by decide) (by decide) (by decide) (by decide) ?_
          exact law_told l C0 hA hAb hK hN hZ hP hD hS ls (lv_sub hl [0, 1, 2, 3] rfl)
        · skip
          refine lv_tableIn (off := 464) (tgt := 497) hx hb dL_law_33 (by decide) (by decide) (by decide) (by decide) ?_
          exact law_mark l C0 hA hAb hK hN hZ hP hD hS ls (lv_sub hl [0, 1, 2, 3] rfl)
        · skip
          refine lv_tableIn (off := 497) (tgt := 530) hx hb dL_law_33 (by decide) (by decide) (by decide) (by decide) ?_
          exact law_speed l C0 hA hAb hK hN hZ hP hD hS ls (lv_sub hl [0, 1, 2, 3] rfl)
        · skip
          refine lv_tableIn (off := 550) (tgt := 583) hx hb dL_law_33 (by decide) (by decide) (by decide) (by decide) ?_
          exact law_order l C0 hA hAb hK hN hZ hP hD hS ls (lv_sub hl [0, 1, 2, 3] rfl)
        · skip
          refine lv_tableIn (off := 637) (tgt := 670) hx hb dL_law_33 (by decide) (by decide) (by decide) (by decide) ?_
          exact law_home l C0 hA hAb hK hN hZ hP hD hS ls (lv_sub hl [0, 1, 2, 3] rfl)
        · skip
          refine lv_tableIn (off := 670) (tgt := 703) hx hb dL_law_33 (by decide) (by decide) (by decide) (by decide) ?_
          exact law_run l C0 hA hAb hK hN hZ hP hD hS ls (lv_sub hl [0, 1, 2, 3] rfl)
        · skip
          refine lv_tableIn (off := 693) (tgt := 726) hx hb dL_law_33 (by decide) (by decide) (by decide) (by decide) ?_
          exact law_first l C0 hA hAb hK hN hZ hP hD hS ls (lv_sub hl [0, 1, 2, 3] rfl)
        · skip
          refine lv_tableIn (off := 706) (tgt := 739) hx hb dL_law_33 (by decide) (by decide) (by decide) (by decide) ?_
          exact law_least l C0 hA hAb hK hN hZ hP hD hS ls (lv_sub hl [0, 1, 2, 3] rfl)
        · skip
          refine lv_tableIn (off := 759) (tgt := 792) hx hb dL_law_33 (by decide) (by decide) (by decide) (by decide) ?_
          exact law_sight l C0 hA hAb hK hN hZ hP hD hS ls (lv_sub hl [0, 1, 2, 3] rfl)
        · skip
          refine lv_tableIn (off := 802) (tgt := 835) hx hb dL_law_33 (by decide) (by decide) (by decide) (by decide) ?_
          exact law_distance l C0 hA hAb hK hN hZ hP hD hS ls (lv_sub hl [0, 1, 2, 3] rfl)
        · skip
          refine lv_tableIn (off := 861) (tgt := 894) hx hb dL_law_33 (by decide) (by decide) (by decide) (by decide) ?_
          exact law_ahead l C0 hA hAb hK hN hZ hP hD hS ls (lv_sub hl [0, 1, 2, 3] rfl)
        · skip
          refine lv_tableIn (off := 904) (tgt := 937) hx hb dL_law_33 (by decide) (by decide) (by decide) (by decide) ?_
          exact law_charter l C0 hA hAb hK hN hZ hP hD hS ls (lv_sub hl [0, 1, 2, 3] rfl)
        · skip
          refine lv_tableIn (off := 947) (tgt := 980) hx hb dL_law_33 (by decide) (by decide) (by decide) (by decide) ?_
          exact law_freight l C0 hA hAb hK hN hZ hP hD hS ls (lv_sub hl [0, 1, 2, 3] rfl)
        · skip
          refine lv_tableIn (off := 970) (tgt := 1003) hx hb dL_law_33 (by decide) (by decide) (by decide) (by decide) ?_
          exact law_market l C0 hA hAb hK hN hZ hP hD hS ls (lv_sub hl [0, 1, 2, 3] rfl)
        · skip
          refine lv_tableIn (off := 1003) (tgt := 1036) hx hb dL_law_33 (by decide) (by decide) (by decide) (by decide) ?_
          exact law_sale l C0 hA hAb hK hN hZ hP hD hS ls (lv_sub hl [0, 1, 2, 3] rfl)
        · skip
          refine lv_tableIn (off := 1026) (tgt := 1059) hx hb dL_law_33 (by decide) (by decide) (by decide) (by decide) ?_
          exact law_meanPrice l C0 hA hAb hK hN hZ hP hD hS ls (lv_sub hl [0, 1, 2, 3] rfl)
        · skip
          refine lv_tableIn (off := 1039) (tgt := 1072) hx hb dL_law_33 (by decide) (by decide) (by decide) (by decide) ?_
          exact law_asked l C0 hA hAb hK hN hZ hP hD hS ls (lv_sub hl [0, 1, 2, 3] rfl)
        · skip
          refine lv_tableIn (off := 1053) (tgt := 1086) hx hb dL_law_33 (by decide) (by decide) (by decide) (by decide) ?_
          exact law_count l C0 hA hAb hK hN hZ hP hD hS ls (lv_sub hl [0, 1, 2, 3] rfl)
        · skip
          refine lv_tableIn (off := 1076) (tgt := 1109) hx hb dL_law_33 (by decide) (by decide) (by decide) (by decide) ?_
          exact law_finding l C0 hA hAb hK hN hZ hP hD hS ls (lv_sub hl [0, 1, 2, 3] rfl)
        · skip
          refine lv_tableIn (off := 1089) (tgt := 1122) hx hb dL_law_33 (by decide) (by decide) (by decide) (by decide) ?_
          exact law_findings l C0 hA hAb hK hN hZ hP hD hS ls (lv_sub hl [0, 1, 2, 3] rfl)
        · skip
          refine lv_tableIn (off := 1112) (tgt := 1145) hx hb dL_law_33 (by decide) (by decide) (by decide) (by decide) ?_
          exact law_digest l C0 hA hAb hK hN hZ hP hD hS ls (lv_sub hl [0, 1, 2, 3] rfl)
  · exact law_short l (by omega) C0 hAb (Nat.le_of_ble_eq_true rfl) (Nat.le_of_ble_eq_true rfl) hS ls (lv_sub hl [0, 1, 2, 3] rfl)
set_option maxHeartbeats 4000000 in
theorem lw_walk (l : Launch) (hflags : l.flags = flags0) (b : Addr) (xs : List Int32) : MetFree l x (headSpec (Jvm.Cond.code x code maxLocals ret :: tables_1) room_1) (lw_P b xs) (fun _ _ _ _ _ => True) lw_Q := by
  refine MetFree.of_bodyS (code := code) (maxLocals := maxLocals) (ret := ret) (by decide) ?_ ?_
  · intro args s m h hn
    obtain ⟨meth, c, h1, h2, h3, h4, h5, h6, -, -⟩ := Cond.code_spec hn (atoms_spec (ws := Jvm.Cond.code x code maxLocals ret :: tables_1) h _ List.mem_cons_self)
    exact ⟨meth, c, h1, h2, h3, h4, h5, h6⟩
  · intro p e s m args below meth c s₁ B hml0 hP _
    obtain ⟨rfl, hx, hbd, hgv⟩ := hP
    obtain ⟨scr, harrAt, hlist, hof, hsmall⟩ := hx
    obtain ⟨hcb, hkn, -, -⟩ := State.arrayAt?_spec harrAt
    have hown : s.vm.findClass R_law = some m.cls := findClass_of_methodNamed B.named
    have hts0 : ∀ c ∈ (Jvm.Cond.code x code maxLocals ret :: tables_1), c.before #[Value.ref b] s = true := atoms_spec (ws := Jvm.Cond.code x code maxLocals ret :: tables_1) B.pre
    have hts : ∀ w ∈ lw_tbl, w.before #[Value.ref b] s = true := k2_hts_sels lw_privs (fun w hw => hts0 w (List.mem_cons_of_mem _ hw)) lw_privs_ok
    have hml : c.maxLocals = 4 := B.maxLocals_eq (hts0 _ List.mem_cons_self)
    have X₀ : Stand p l e room_1 s m #[Value.ref b] below meth c s₁ [] 0 0 := Stand.of_body B
    have hh0 : s₁.heap = s.heap := by rw [B.state]; rfl
    have hsz : scr.slots.size = xs.length := by rw [← Array.length_toList, hlist, List.length_map]
    have hval : ∀ j : Nat, j < xs.length → scr.slots[j]? = some (.int (xs.getD j 0)) := fun j hj => by
      rw [← Array.getElem?_toList, hlist]
      simp [hj]
    have hbl : b < s.heap.size := (Array.getElem?_eq_some_iff.mp hcb).1
    have hX : va_X b xs.length (fun j => xs.getD j 0) s s.heap := ⟨scr, hcb, hof, hkn, hsz, hval⟩
    have K : W p l e room_1 s m #[Value.ref b] below meth c s₁.heap [] 0 0 (lw_Z below #[Value.ref b] s) (entryFrame m ([Value.ref b] : List Value).toArray 4) := by
      rw [hh0]
      exact whole_start l hflags hbd ⟨B.exec, B.bytes, B.returns, hml, hown, hts, hX, hbl, B.notSynchronized, hgv⟩
    obtain ⟨t, a1, o, b1, b2, b3⟩ := K s₁ rfl X₀
    exact ⟨t, o, a1, b1, b2, b3⟩
theorem lw_pre_spec {args : Array Value} {s : State} (h : (Jvm.Cond.and given_1 narrow_1).before args s = true) (hr : rest_1_c.before args s = true) : ∃ (b : Addr) (xs : List Int32), lw_P b xs args s := by
  have hs := flat_of_before _ h
  have hq := flat_of_before _ hr
  have hc : (Cond.count 1).before args s = true := hs _ (by decide +kernel)
  have harr : (Cond.arrayOf (.arg 0) .int).before args s = true := hs _ (by decide +kernel)
  have hle : (Cond.le (.length (.arg 0)) (.int 8)).before args s = true := hs _ (by decide +kernel)
  have hlen : (Cond.isInt (.length (.arg 0))).before args s = true := hq _ (by decide +kernel)
  have hall : (Cond.all (.arg 0) (.isInt (.elem (.arg 0) (.index 0)))).before args s = true := hq _ (by decide +kernel)
  obtain ⟨b, xs, hb, hx⟩ := State.ints_of_pre rfl harr hlen hall
  have hsm : xs.length < 2 ^ 31 := hx.choose_spec.2.2.2
  have hev : (Term.length (.arg 0)).eval args s none [] s = some (.int xs.length.toInt32) := hx.length_eval hb
  have hv := Cond.le_ints hev (show (Term.int 8).eval args s none [] s = some (.int 8) from rfl)
  have hd : xs.length.toInt32 ≤ 8 := by
    simpa [Cond.before, Cond.holds, hv] using hle
  have hN : xs.length ≤ 8 := (Int32.ofNat_le_ofNat hsm (by decide)).mp (show Int32.ofNat xs.length ≤ Int32.ofNat 8 from hd)
  exact ⟨b, xs, Cond.one_arg hc (show args[0]? = some (.ref b) from hb), hx, hN, h⟩
theorem lw_comes (l : Launch) (hflags : l.flags = flags0) : Comes l x (Jvm.Cond.code x code maxLocals ret :: tables_1) room_1 (fun tb e args s => Calls_1 tb e args s ∧ rest_1 tb e args s ∧ Pre_1 tb e args s)
    (fun _ _ args s o t => lw_Q args s o t) := by
  intro p e ha hc hk s m args below hf hfit hheap happ hpre
  obtain ⟨b, xs, hP⟩ := lw_pre_spec hpre.2.2 hpre.2.1
  obtain ⟨k, o, h1, h2, h3, hQ⟩ := lw_walk l hflags b xs p e ha hc hk s m args below hf ((Spec.applies_iff_loose hf).mp happ).1 hP trivial
  exact ⟨k, o, h1, h2, h3, hQ⟩
theorem lw_frame {s t : State} {o : Outcome} {args : Array Value} (h : Framed s o t [] 600000 7302250) :
    Framed s o t (fieldLocs frame_1_writes args s ++ arrayLocs frame_1_arrays args s ++ staticLocs frame_1_statics s) 600000 7302250 := h
theorem lw_limb (L : Cond) (hL : ∀ (args : Array Value) (s t : State), L.after args s (.returned (some (.int 1))) t = true) :
    ArmFor flags0 classFile x code maxLocals ret World_1 tables_1 room_1 Calls_1 rest_1 Pre_1
      (fun tb e a s o t => postC L tb e a s o t ∧ Framed s o t (fieldLocs frame_1_writes a s ++ arrayLocs frame_1_arrays a s ++ staticLocs frame_1_statics s) 600000 7302250) := by
  intro l hflags _ _ p e ha hc hk s m args below hf hfit hheap happ hpre
  obtain ⟨k, o, h1, h2, h3, rfl, hF⟩ := lw_comes l hflags p e ha hc hk s m args below hf hfit hheap happ hpre
  exact ⟨k, _, h1, h2, h3, hL args s _, lw_frame hF⟩
theorem i_vc : Claimed_1_1 ∧ Claimed_1_2 := ⟨lw_limb limb_1_1 (fun args s t => by simp [limb_1_1, Cond.after, Cond.holds, Cond.value]), lw_limb limb_1_2 (fun args s t => Cond.after_iff.mpr (by
  first | (rw [show limb_1_2 = Cond.eq .result (.int 1) from rfl, Cond.eq_ints (x := 1) (y := 1) rfl rfl]; simp; done) | (simp [limb_1_2, Cond.value, Term.eval]; done)))⟩
