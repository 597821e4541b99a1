set_option maxRecDepth 20000 in
theorem iw_Jx4a65c_add_9ea2d_Jx4a65c : ∀ w ∈ wsJx4a65c0, w ∈ wsJx4a65c_add_9ea2d := fun w h => (List.mem_cons_of_mem _ (List.mem_append_right _ h))
set_option maxHeartbeats 4000000 in
set_option maxRecDepth 100000 in
/-- ArrayList.add -/
theorem c_Jx4a65c_add_9ea2d (l : Launch) (dC : Nat → ClassId) (dI : Nat → Nat → Nat) (sz : Nat) (te : Nat) (ea : Nat) (so : Nat) (mi : Nat) (L : List Nat) (f : Nat → va_E) (o : Nat) (n : Nat) (g : Nat → Nat) (x : Nat) (ci : Nat) (lx : List Value) (cO : ClassId) (hn99 : n ≤ 99) (hlst : LstAt L f te cO o n g) (hgel : Elg L f n g) (hob : Ob L f x ci lx) : Met l yJx4a65c_add_9ea2d wsJx4a65c_add_9ea2d ({ frames := 6, cells := 1, slots := 200, locals := 170 }) (va_Pc [.ref o, .ref x] (fun U => U.heap.size = sz ∧ va_P (dC, dI) vwCl (([] : va_W) ++ va_pl L f) U.heap ∧ va_K (dC, dI) vwCl [(cO, .object "java/lang/Object")] U ∧ NW U ∧ va_D (fun _ => True) (([] : va_W) ++ va_pl L f) ∧ Zs te ea so mi (va_A (([] : va_W) ++ va_pl L f) sz) U U.heap)) (va_Qi (fun (r : Int32) (u : List Nat × (Nat → va_E) × Nat × Nat) => (LstAt u.1 u.2.1 te cO o (n + 1) (fun k => if k = n then x else g k)) ∧ (∀ b, b ∈ L → b ∈ u.1) ∧ (∀ b, b ∈ L → b ≠ o → b ≠ u.2.2.2 → u.2.1 b = f b) ∧ (∃ (mc k : Int32), f o = lstE mc u.2.2.2 k) ∧ (∃ (mc k : Int32), u.2.1 o = lstE mc u.2.2.1 k) ∧ (u.2.2.1 = u.2.2.2 ∨ u.2.2.1 ∉ L) ∧ (1 ≤ r.toInt ∧ r.toInt ≤ 1)) (fun u t => va_P (dC, dI) vwCl (([] : va_W) ++ va_pl u.1 u.2.1) t.heap ∧ va_K (dC, dI) vwCl [(cO, .object "java/lang/Object")] t ∧ va_D (va_A (([] : va_W) ++ va_pl L f) sz) (([] : va_W) ++ va_pl u.1 u.2.1)) (va_A (([] : va_W) ++ va_pl L f) sz)) 1 200 (va_A (([] : va_W) ++ va_pl L f) sz) := by
  refine Met.ofW (cc := cJx4a65c_add_9ea2d) (maxL := 2) (ret := (some .boolean)) (by decide) rfl ?_
  intro p e s m args below meth c s₁ B hml hv
  obtain ⟨rfl, hsz, hP, hK, hN, hD0, hZ⟩ := hv
  have hx := B.exec
  have hb := B.bytes
  have hr := B.returns
  have hts := atoms_spec (ws := wsJx4a65c_add_9ea2d) B.pre
  have hown : s.vm.findClass RJx4a65c = some m.cls := findClass_of_methodNamed B.named
  have hlocks := B.notSynchronized
  subst hsz
  have hD := hD0.self (sz := s.heap.size)
  generalize hAe : va_A (([] : va_W) ++ va_pl L f) s.heap.size = A at hD hZ ⊢
  have hA : ∀ q : Nat, s.heap.size ≤ q → A q := fun q h => by rw [← hAe]; exact Or.inr h
  have hS : va_S A s.heap s.heap [] := va_S.rf
  have hP : va_P (dC, dI) vwCl (([] : va_W) ++ va_pl L f) s.heap := hP
  have hl := lv_entry ([.ref o, .ref x]) (n := 2) (Nat.le_of_ble_eq_true rfl)
  rw [lg_entry_eq]
  generalize (lg_sl ([.ref o, .ref x]) ++ List.replicate (2 - (lg_sl ([.ref o, .ref x])).length) Slot.unset).toArray = ls at hl ⊢
  have hl : lv_has ls 2 [(0, .ref o), (1, .ref x)] := hl
  obtain ⟨ho1, hn2, mc, ar, hlo, hcase⟩ := id hlst
  have hnI : (nI n).toInt = (n : Int) := nI_toInt (by omega)
  rcases hcase with ⟨hz, har⟩ | ⟨N, r, hm2, hr2, hnN, hN2, hall, hn0⟩
  · skip
    have hlo : f o = lstE mc te (nI n) := by rw [← har]; exact hlo
    have hold : ∀ k, k < n → (fun _ => (none : Option Nat)) k = some (g k) := fun k hk => absurd hk (by omega)
    refine lv_aload_n hx hb dJx4a65c_add_9ea2d_0 rfl (lv_at hl 0 rfl) ?_
    refine lv_dup hx hb dJx4a65c_add_9ea2d_1 rfl ?_
    obtain ⟨k9_1, hk9_1⟩ : ∃ k : Nat, (([] : va_W) ++ va_pl L f)[k]? = some (o, .inr (0, [.int mc, .ref te, .int (nI n)])) := pl_at ho1 hlo
    refine va_get (D := (dC, dI)) (ci := 0) (v := .int mc) (C := RJx4a65c) (T := TJx4a65c) (N := 3) hx hb hts iw_Jx4a65c_add_9ea2d_Jx4a65c hown hK hP k9_1 hk9_1 rfl 0 (by decide) (hts (.fieldLink RJx4a65c 63 "java/util/ArrayList" "modCount" "I") (by decide +kernel)) (fun x9 h9 => u_same (hts (.sameField "java/util/ArrayList" "java/util/AbstractList" "modCount" "I") (by decide +kernel)) x9 h9) rfl dJx4a65c_add_9ea2d_2 ?_
    refine lv_iconst (v := 1) hx hb dJx4a65c_add_9ea2d_5 (by decide) ?_
    refine lv_iadd hx hb dJx4a65c_add_9ea2d_6 ?_
    refine lv_topi (fun x_2 ex_2 => ?_)
    obtain ⟨k9_3, hk9_3⟩ : ∃ k : Nat, (([] : va_W) ++ va_pl L f)[k]? = some (o, .inr (0, [.int mc, .ref te, .int (nI n)])) := pl_at ho1 hlo
    have hDo_4 := hD
    refine va_put (D := (dC, dI)) (ci := 0) (v := .int x_2) (ty := .int) (C := RJx4a65c) (T := TJx4a65c) (N := 3) hx hb hts iw_Jx4a65c_add_9ea2d_Jx4a65c tyJx4a65c tyJx4a65c_ok nmJx4a65c hown hK hP hD hS k9_3 hk9_3 rfl 0 (by decide) (hts (.fieldLink RJx4a65c 63 "java/util/ArrayList" "modCount" "I") (by decide +kernel)) (fun x9 h9 => u_same (hts (.sameField "java/util/ArrayList" "java/util/AbstractList" "modCount" "I") (by decide +kernel)) x9 h9) rfl (by decide +kernel) rfl rfl (Nat.le_of_ble_eq_true rfl) dJx4a65c_add_9ea2d_7 (fun H locs hP hD hS => ?_)
    have hP : va_P (dC, dI) vwCl (List.set (([] : va_W) ++ va_pl L f) k9_3 (o, .inr (0, [.int x_2, .ref te, .int (nI n)]))) H := hP
    have hD : va_D A (List.set (([] : va_W) ++ va_pl L f) k9_3 (o, .inr (0, [.int x_2, .ref te, .int (nI n)]))) := hD
    rw [pl_set hDo_4 ho1 hlo hk9_3] at hP hD
    obtain ⟨f_5, ef_5⟩ : ∃ z : Nat → va_E, z = va_up f o (.inr (0, [.int x_2, .ref te, .int (nI n)])) := ⟨_, rfl⟩
    rw [← ef_5] at hP hD
    have ho_6 : f_5 o = .inr (0, [.int x_2, .ref te, .int (nI n)]) := by rw [ef_5, va_up_self]
    have hq_7 : Ob L f_5 x ci lx := Ob.lst hob ef_5 (hlo)
    have hP : va_P (dC, dI) vwCl (([] : va_W) ++ va_pl L f_5) H := hP
    have hD : va_D A (([] : va_W) ++ va_pl L f_5) := hD
    refine lv_aload_n hx hb dJx4a65c_add_9ea2d_10 rfl (lv_at hl 0 rfl) ?_
    refine lv_aload_n hx hb dJx4a65c_add_9ea2d_11 rfl (lv_at hl 1 rfl) ?_
    refine lv_aload_n hx hb dJx4a65c_add_9ea2d_12 rfl (lv_at hl 0 rfl) ?_
    obtain ⟨k9_8, hk9_8⟩ : ∃ k : Nat, (([] : va_W) ++ va_pl L f_5)[k]? = some (o, .inr (0, [.int x_2, .ref te, .int (nI n)])) := pl_at ho1 ho_6
    refine va_get (D := (dC, dI)) (ci := 0) (v := .ref te) (C := RJx4a65c) (T := TJx4a65c) (N := 3) hx hb hts iw_Jx4a65c_add_9ea2d_Jx4a65c hown hK hP k9_8 hk9_8 rfl 1 (by decide) (hts (.fieldLink RJx4a65c 9 "java/util/ArrayList" "elementData" "[Ljava/lang/Object;") (by decide +kernel)) (fun _ h9 => h9) rfl dJx4a65c_add_9ea2d_13 ?_
    refine lv_aload_n hx hb dJx4a65c_add_9ea2d_16 rfl (lv_at hl 0 rfl) ?_
    obtain ⟨k9_9, hk9_9⟩ : ∃ k : Nat, (([] : va_W) ++ va_pl L f_5)[k]? = some (o, .inr (0, [.int x_2, .ref te, .int (nI n)])) := pl_at ho1 ho_6
    refine va_get (D := (dC, dI)) (ci := 0) (v := .int (nI n)) (C := RJx4a65c) (T := TJx4a65c) (N := 3) hx hb hts iw_Jx4a65c_add_9ea2d_Jx4a65c hown hK hP k9_9 hk9_9 rfl 2 (by decide) (hts (.fieldLink RJx4a65c 48 "java/util/ArrayList" "size" "I") (by decide +kernel)) (fun _ h9 => h9) rfl dJx4a65c_add_9ea2d_17 ?_
    have hPc : va_P (dC, dI) vwCl (([] : va_W) ++ va_pl L f_5) H := va_P.part (X := []) hP [] rfl
    have hDc : va_D A (([] : va_W) ++ va_pl L f_5) := va_D.part (X := []) hD [] (by decide) rfl
    have hKc := hK.sub (tys' := [(cO, .object "java/lang/Object")]) [0] rfl
    have hFc := va_freeP (X := []) (cx := []) hD hS hA [] rfl
    obtain ⟨k8_10, hk8_10⟩ : ∃ k : Nat, (([] : va_W) ++ va_pl L f_5)[k]? = some (o, .inr (0, [.int x_2, .ref te, .int (nI n)])) := pl_at ho1 ho_6
    refine va_callv (va_runV (As := [.ref x, .ref te, .int (nI n)]) (rest := []) ⟨hx, hb, hml, hown, hts⟩ (c_Jx4a65c_add_72be8_f l dC dI H.size te ea so mi L f_5 o n x_2 (nI n) (nI n) x ci lx cO ⟨(by omega), (by omega)⟩ ⟨(by omega), (by omega)⟩ (by omega) ⟨ho1, ho_6⟩ hq_7) (cwV 3 hts gJx4a65c_add_9ea2d_Jx4a65c_add_72be8 rfl rfl rfl (by decide +kernel) ⟨Nat.le_of_ble_eq_true rfl, Nat.le_of_ble_eq_true rfl⟩) ⟨fun a U g mk q => by obtain ⟨q0, q1, qP, qK, qN, qD, qZ⟩ := q; exact ⟨q0, q1, qP, va_K.moved (u := U) (U := U.calling g mk a) (Vm.Alike.refl U.vm) qK, NW.same (u := U) (U := U.calling g mk a) rfl qN, qD, Zs.moved (u := U) (U := U.calling g mk a) (Vm.Alike.refl U.vm) qZ⟩, va_recv hKc hPc (ci := 0) (q0 := k8_10) rfl hk8_10, fun U hU hW => ⟨rfl, by rw [hU], by rw [hU]; exact hPc, va_K.moved hW.alike hKc, NW.warm hW hN, hDc.weaken (fun _ _ _ _ => trivial), by rw [hU]; exact Zs.pass hZ hS.2.1 hFc hW.alike⟩⟩ rfl rfl hl.1 rfl (lv_room (Nat.le_of_ble_eq_true rfl)) dJx4a65c_add_9ea2d_20 ⟨Nat.le_of_ble_eq_true rfl, Nat.le_of_ble_eq_true rfl⟩) hS (fun q _ h => hFc q h) hFc (fun u t H1 locs ht hvm k_12 hB hz1 hk1 hS => ?_)
    obtain ⟨u_13, u_14, u_15, u_16, u_17, u_18, u_19⟩ := u
    obtain ⟨hP1, hK1, hD1⟩ := hB
    rw [ht] at hP1
    have hK1 := va_K.moved hvm.symm hK1
    obtain ⟨hP, hD⟩ := va_joinP (X := []) (cx := []) (wr := []) (rx := []) hP hD [] [] rfl rfl (by decide) (by decide) hk1 hFc hP1 hD1
    generalize H1 = H at hP hS ⊢
    have hP : va_P (dC, dI) vwCl (([] : va_W) ++ va_pl u_13 u_14) H := hP
    have hD : va_D A (([] : va_W) ++ va_pl u_13 u_14) := hD
    try dsimp only at k_12
    obtain ⟨k_12, k_20, k_21, k_22, k_23, k_24, k_25, k_26⟩ := k_12
    refine W.widen (k := 1) (n := 200) (Nat.le_of_ble_eq_true rfl) (Nat.le_of_ble_eq_true rfl) ?_
    refine lv_iconst (v := 1) hx hb dJx4a65c_add_9ea2d_23 (by decide) ?_
    have hP9 : va_P (dC, dI) vwCl (([] : va_W) ++ va_pl u_13 u_14) H := va_P.part (X := ([] : va_W)) hP [] rfl
    have hD9 : va_D A (([] : va_W) ++ va_pl u_13 u_14) := va_D.part (X := ([] : va_W)) hD [] (by decide) rfl
    have hK9 := hK.sub (tys' := [(cO, .object "java/lang/Object")]) [0] rfl
    refine W.widen (k := 1) (n := 200) (Nat.le_of_ble_eq_true rfl) (Nat.le_of_ble_eq_true rfl) ?_
    have hv9 : (1 : Int32).toInt = 1 := by decide
    exact W.zret (v := 1) hx hb hr rfl (fun t ht hW => ⟨⟨1, (u_13, u_14, u_15, te), rfl, ⟨(put_lst (k_12 o ho1) (by omega) k_20 k_24 k_21.1 k_21.2 k_25.1 k_25.2 (fun k hk => absurd hk (by omega)) k_26), k_12, (fun b hb h1 h2 => (k_22 b hb h1 h2).trans (by rw [ef_5, va_up_ne _ _ h1])), ⟨mc, nI n, hlo⟩, ⟨_, _, k_20⟩, k_23, (by decide)⟩, ⟨by rw [ht]; exact hP9, va_K.moved hW.alike hK9, hD9⟩⟩, hS.F ht⟩) hS.2.2 dJx4a65c_add_9ea2d_24
  · skip
    have hels : Els L f n r := Elg.els hgel hall
    refine lv_aload_n hx hb dJx4a65c_add_9ea2d_0 rfl (lv_at hl 0 rfl) ?_
    refine lv_dup hx hb dJx4a65c_add_9ea2d_1 rfl ?_
    obtain ⟨k9_27, hk9_27⟩ : ∃ k : Nat, (([] : va_W) ++ va_pl L f)[k]? = some (o, .inr (0, [.int mc, .ref ar, .int (nI n)])) := pl_at ho1 hlo
    refine va_get (D := (dC, dI)) (ci := 0) (v := .int mc) (C := RJx4a65c) (T := TJx4a65c) (N := 3) hx hb hts iw_Jx4a65c_add_9ea2d_Jx4a65c hown hK hP k9_27 hk9_27 rfl 0 (by decide) (hts (.fieldLink RJx4a65c 63 "java/util/ArrayList" "modCount" "I") (by decide +kernel)) (fun x9 h9 => u_same (hts (.sameField "java/util/ArrayList" "java/util/AbstractList" "modCount" "I") (by decide +kernel)) x9 h9) rfl dJx4a65c_add_9ea2d_2 ?_
    refine lv_iconst (v := 1) hx hb dJx4a65c_add_9ea2d_5 (by decide) ?_
    refine lv_iadd hx hb dJx4a65c_add_9ea2d_6 ?_
    refine lv_topi (fun x_28 ex_28 => ?_)
    obtain ⟨k9_29, hk9_29⟩ : ∃ k : Nat, (([] : va_W) ++ va_pl L f)[k]? = some (o, .inr (0, [.int mc, .ref ar, .int (nI n)])) := pl_at ho1 hlo
    have hDo_30 := hD
    refine va_put (D := (dC, dI)) (ci := 0) (v := .int x_28) (ty := .int) (C := RJx4a65c) (T := TJx4a65c) (N := 3) hx hb hts iw_Jx4a65c_add_9ea2d_Jx4a65c tyJx4a65c tyJx4a65c_ok nmJx4a65c hown hK hP hD hS k9_29 hk9_29 rfl 0 (by decide) (hts (.fieldLink RJx4a65c 63 "java/util/ArrayList" "modCount" "I") (by decide +kernel)) (fun x9 h9 => u_same (hts (.sameField "java/util/ArrayList" "java/util/AbstractList" "modCount" "I") (by decide +kernel)) x9 h9) rfl (by decide +kernel) rfl rfl (Nat.le_of_ble_eq_true rfl) dJx4a65c_add_9ea2d_7 (fun H locs hP hD hS => ?_)
    have hP : va_P (dC, dI) vwCl (List.set (([] : va_W) ++ va_pl L f) k9_29 (o, .inr (0, [.int x_28, .ref ar, .int (nI n)]))) H := hP
    have hD : va_D A (List.set (([] : va_W) ++ va_pl L f) k9_29 (o, .inr (0, [.int x_28, .ref ar, .int (nI n)]))) := hD
    rw [pl_set hDo_30 ho1 hlo hk9_29] at hP hD
    obtain ⟨f_31, ef_31⟩ : ∃ z : Nat → va_E, z = va_up f o (.inr (0, [.int x_28, .ref ar, .int (nI n)])) := ⟨_, rfl⟩
    rw [← ef_31] at hP hD
    have ho_32 : f_31 o = .inr (0, [.int x_28, .ref ar, .int (nI n)]) := by rw [ef_31, va_up_self]
    have ho_33 : f_31 ar = .inl (cO, N, .inr (.inr (.inr (.inr r)))) := by rw [ef_31, va_up_ne _ _ (pl_ne (hr2) (hlo) (fun z => by cases z))]; exact hr2
    have hq_34 : Ob L f_31 x ci lx := Ob.lst hob ef_31 (hlo)
    have hq_35 : Els L f_31 n r := Els.lst hels ef_31 (hlo)
    have hP : va_P (dC, dI) vwCl (([] : va_W) ++ va_pl L f_31) H := hP
    have hD : va_D A (([] : va_W) ++ va_pl L f_31) := hD
    refine lv_aload_n hx hb dJx4a65c_add_9ea2d_10 rfl (lv_at hl 0 rfl) ?_
    refine lv_aload_n hx hb dJx4a65c_add_9ea2d_11 rfl (lv_at hl 1 rfl) ?_
    refine lv_aload_n hx hb dJx4a65c_add_9ea2d_12 rfl (lv_at hl 0 rfl) ?_
    obtain ⟨k9_36, hk9_36⟩ : ∃ k : Nat, (([] : va_W) ++ va_pl L f_31)[k]? = some (o, .inr (0, [.int x_28, .ref ar, .int (nI n)])) := pl_at ho1 ho_32
    refine va_get (D := (dC, dI)) (ci := 0) (v := .ref ar) (C := RJx4a65c) (T := TJx4a65c) (N := 3) hx hb hts iw_Jx4a65c_add_9ea2d_Jx4a65c hown hK hP k9_36 hk9_36 rfl 1 (by decide) (hts (.fieldLink RJx4a65c 9 "java/util/ArrayList" "elementData" "[Ljava/lang/Object;") (by decide +kernel)) (fun _ h9 => h9) rfl dJx4a65c_add_9ea2d_13 ?_
    refine lv_aload_n hx hb dJx4a65c_add_9ea2d_16 rfl (lv_at hl 0 rfl) ?_
    obtain ⟨k9_37, hk9_37⟩ : ∃ k : Nat, (([] : va_W) ++ va_pl L f_31)[k]? = some (o, .inr (0, [.int x_28, .ref ar, .int (nI n)])) := pl_at ho1 ho_32
    refine va_get (D := (dC, dI)) (ci := 0) (v := .int (nI n)) (C := RJx4a65c) (T := TJx4a65c) (N := 3) hx hb hts iw_Jx4a65c_add_9ea2d_Jx4a65c hown hK hP k9_37 hk9_37 rfl 2 (by decide) (hts (.fieldLink RJx4a65c 48 "java/util/ArrayList" "size" "I") (by decide +kernel)) (fun _ h9 => h9) rfl dJx4a65c_add_9ea2d_17 ?_
    have hPc : va_P (dC, dI) vwCl (([] : va_W) ++ va_pl L f_31) H := va_P.part (X := []) hP [] rfl
    have hDc : va_D A (([] : va_W) ++ va_pl L f_31) := va_D.part (X := []) hD [] (by decide) rfl
    have hKc := hK.sub (tys' := [(cO, .object "java/lang/Object")]) [0] rfl
    have hFc := va_freeP (X := []) (cx := []) hD hS hA [] rfl
    obtain ⟨k8_38, hk8_38⟩ : ∃ k : Nat, (([] : va_W) ++ va_pl L f_31)[k]? = some (o, .inr (0, [.int x_28, .ref ar, .int (nI n)])) := pl_at ho1 ho_32
    refine va_callv (va_runV (As := [.ref x, .ref ar, .int (nI n)]) (rest := []) ⟨hx, hb, hml, hown, hts⟩ (c_Jx4a65c_add_72be8_a l dC dI H.size te ea so mi L f_31 o n x_28 (nI n) (nI n) x ci lx ar N r cO ⟨(by omega), (by omega)⟩ ⟨(by omega), (by omega)⟩ (by omega) (by omega) (by omega) (by omega) ⟨ho1, ho_32⟩ ⟨hm2, ho_33⟩ hq_34 hq_35) (cwV 3 hts gJx4a65c_add_9ea2d_Jx4a65c_add_72be8 rfl rfl rfl (by decide +kernel) ⟨Nat.le_of_ble_eq_true rfl, Nat.le_of_ble_eq_true rfl⟩) ⟨fun a U g mk q => by obtain ⟨q0, q1, qP, qK, qN, qD, qZ⟩ := q; exact ⟨q0, q1, qP, va_K.moved (u := U) (U := U.calling g mk a) (Vm.Alike.refl U.vm) qK, NW.same (u := U) (U := U.calling g mk a) rfl qN, qD, Zs.moved (u := U) (U := U.calling g mk a) (Vm.Alike.refl U.vm) qZ⟩, va_recv hKc hPc (ci := 0) (q0 := k8_38) rfl hk8_38, fun U hU hW => ⟨rfl, by rw [hU], by rw [hU]; exact hPc, va_K.moved hW.alike hKc, NW.warm hW hN, hDc.weaken (fun _ _ _ _ => trivial), by rw [hU]; exact Zs.pass hZ hS.2.1 hFc hW.alike⟩⟩ rfl rfl hl.1 rfl (lv_room (Nat.le_of_ble_eq_true rfl)) dJx4a65c_add_9ea2d_20 ⟨Nat.le_of_ble_eq_true rfl, Nat.le_of_ble_eq_true rfl⟩) hS (fun q _ h => hFc q h) hFc (fun u t H1 locs ht hvm k_40 hB hz1 hk1 hS => ?_)
    obtain ⟨u_41, u_42, u_43, u_44, u_45, u_46, u_47⟩ := u
    obtain ⟨hP1, hK1, hD1⟩ := hB
    rw [ht] at hP1
    have hK1 := va_K.moved hvm.symm hK1
    obtain ⟨hP, hD⟩ := va_joinP (X := []) (cx := []) (wr := []) (rx := []) hP hD [] [] rfl rfl (by decide) (by decide) hk1 hFc hP1 hD1
    generalize H1 = H at hP hS ⊢
    have hP : va_P (dC, dI) vwCl (([] : va_W) ++ va_pl u_41 u_42) H := hP
    have hD : va_D A (([] : va_W) ++ va_pl u_41 u_42) := hD
    try dsimp only at k_40
    obtain ⟨k_40, k_48, k_49, k_50, k_51, k_52, k_53, k_54, k_55⟩ := k_40
    refine W.widen (k := 1) (n := 200) (Nat.le_of_ble_eq_true rfl) (Nat.le_of_ble_eq_true rfl) ?_
    refine lv_iconst (v := 1) hx hb dJx4a65c_add_9ea2d_23 (by decide) ?_
    have hP9 : va_P (dC, dI) vwCl (([] : va_W) ++ va_pl u_41 u_42) H := va_P.part (X := ([] : va_W)) hP [] rfl
    have hD9 : va_D A (([] : va_W) ++ va_pl u_41 u_42) := va_D.part (X := ([] : va_W)) hD [] (by decide) rfl
    have hK9 := hK.sub (tys' := [(cO, .object "java/lang/Object")]) [0] rfl
    refine W.widen (k := 1) (n := 200) (Nat.le_of_ble_eq_true rfl) (Nat.le_of_ble_eq_true rfl) ?_
    have hv9 : (1 : Int32).toInt = 1 := by decide
    exact W.zret (v := 1) hx hb hr rfl (fun t ht hW => ⟨⟨1, (u_41, u_42, u_43, ar), rfl, ⟨(put_lst (k_40 o ho1) (by omega) k_48 k_52 k_49.1 k_49.2 k_53.1 k_53.2 (fun k hk => (k_55 k hk).trans (hall k hk)) k_54), k_40, (fun b hb h1 h2 => (k_50 b hb h1 h2).trans (by rw [ef_31, va_up_ne _ _ h1])), ⟨mc, nI n, hlo⟩, ⟨_, _, k_48⟩, k_51, (by decide)⟩, ⟨by rw [ht]; exact hP9, va_K.moved hW.alike hK9, hD9⟩⟩, hS.F ht⟩) hS.2.2 dJx4a65c_add_9ea2d_24
