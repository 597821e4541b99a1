set_option maxRecDepth 20000 in
theorem iw_Jx4a65c_add_72be8_Jx4a65c : ∀ w ∈ wsJx4a65c0, w ∈ wsJx4a65c_add_72be8 := fun w h => (List.mem_cons_of_mem _ (List.mem_append_right _ h))
set_option maxHeartbeats 4000000 in
set_option maxRecDepth 100000 in
/-- add(e, row, n) on a fresh list -/
theorem c_Jx4a65c_add_72be8_f (l : Launch) (dC : Nat → ClassId) (dI : Nat → Nat → Nat) (sz : Nat) (te : Nat) (ea : Nat) (so : Nat) (mi : Nat) (L : List Nat) (f : Nat → va_E) (o : Nat) (n : Nat) (mc : Int32) (nz : Int32) (a0 : Int32) (x : Nat) (ci : Nat) (lx : List Value) (cO : ClassId) (i_nz : 0 ≤ nz.toInt ∧ nz.toInt ≤ 0) (i_a0 : 0 ≤ a0.toInt ∧ a0.toInt ≤ 0) (hn0 : n = 0) (hlo : o ∈ L ∧ f o = .inr (0, [.int mc, .ref te, .int nz])) (hob : Ob L f x ci lx) : Met l yJx4a65c_add_72be8 wsJx4a65c_add_72be8 ({ frames := 3, cells := 1, slots := 200, locals := 64 }) (va_Pc [.ref o, .ref x, .ref te, .int a0] (fun U => U.heap.size = sz ∧ va_P (dC, dI) vwCl (([] : va_W) ++ va_pl L f) U.heap ∧ va_K (dC, dI) vwCl [(cO, .object "java/lang/Object")] U ∧ NW U ∧ va_D (fun _ => True) (([] : va_W) ++ va_pl L f) ∧ Zs te ea so mi (va_A (([] : va_W) ++ va_pl L f) sz) U U.heap)) (va_Qv (fun (u : List Nat × (Nat → va_E) × Nat × Nat × (Nat → Option Nat) × Int32 × Int32) => (∀ b, b ∈ L → b ∈ u.1) ∧ (u.2.1 o = lstE u.2.2.2.2.2.1 u.2.2.1 u.2.2.2.2.2.2) ∧ (u.2.2.1 ∈ u.1 ∧ u.2.1 u.2.2.1 = rowE cO u.2.2.2.1 u.2.2.2.2.1) ∧ (∀ b, b ∈ L → b ≠ o → b ≠ te → u.2.1 b = f b) ∧ (u.2.2.1 = te ∨ u.2.2.1 ∉ L) ∧ (u.2.2.2.2.2.2.toInt = (n : Int) + 1) ∧ (n + 1 ≤ u.2.2.2.1 ∧ u.2.2.2.1 ≤ 200) ∧ (u.2.2.2.2.1 n = some x)) (fun u t => va_P (dC, dI) vwCl (([] : va_W) ++ va_pl u.1 u.2.1) t.heap ∧ va_K (dC, dI) vwCl [(cO, .object "java/lang/Object")] t ∧ va_D (va_A (([] : va_W) ++ va_pl L f) sz) (([] : va_W) ++ va_pl u.1 u.2.1)) (va_A (([] : va_W) ++ va_pl L f) sz)) 1 200 (va_A (([] : va_W) ++ va_pl L f) sz) := by
  refine Met.ofW (cc := cJx4a65c_add_72be8) (maxL := 4) (ret := none) (by decide) rfl ?_
  intro p e s m args below meth c s₁ B hml hv
  obtain ⟨rfl, hsz, hP, hK, hN, hD0, hZ⟩ := hv
  have hx := B.exec
  have hb := B.bytes
  have hr := B.returns
  have hts := atoms_spec (ws := wsJx4a65c_add_72be8) B.pre
  have hown : s.vm.findClass RJx4a65c = some m.cls := findClass_of_methodNamed B.named
  have hlocks := B.notSynchronized
  subst hsz
  have hD := hD0.self (sz := s.heap.size)
  generalize hAe : va_A (([] : va_W) ++ va_pl L f) s.heap.size = A at hD hZ ⊢
  have hA : ∀ q : Nat, s.heap.size ≤ q → A q := fun q h => by rw [← hAe]; exact Or.inr h
  have hS : va_S A s.heap s.heap [] := va_S.rf
  have hP : va_P (dC, dI) vwCl (([] : va_W) ++ va_pl L f) s.heap := hP
  have hl := lv_entry ([.ref o, .ref x, .ref te, .int a0]) (n := 4) (Nat.le_of_ble_eq_true rfl)
  rw [lg_entry_eq]
  generalize (lg_sl ([.ref o, .ref x, .ref te, .int a0]) ++ List.replicate (4 - (lg_sl ([.ref o, .ref x, .ref te, .int a0])).length) Slot.unset).toArray = ls at hl ⊢
  have hl : lv_has ls 4 [(0, .ref o), (1, .ref x), (2, .ref te), (3, .int a0)] := hl
  refine lv_iload_n hx hb dJx4a65c_add_72be8_0 rfl (lv_at hl 3 rfl) ?_
  refine lv_aload_n hx hb dJx4a65c_add_72be8_1 rfl (lv_at hl 2 rfl) ?_
  refine va_tlen (v := 0) hx hb hZ.zd.2 hS (by rfl) dJx4a65c_add_72be8_2 ?_
  refine lv_icmp_ne (tgt := 11) hx hb dJx4a65c_add_72be8_3 (by decide) (fun c_1 => ?_) (fun c_1 => ?_)
  · skip
    have qc_1 : a0.toInt ≠ 0 := ne_k rfl (by decide) c_1
    exfalso
    omega
  · skip
    have qc_1 : a0.toInt = 0 := eq_k rfl (by decide) c_1
    refine lv_aload_n hx hb dJx4a65c_add_72be8_6 rfl (lv_at hl 0 rfl) ?_
    have hPc : va_P (dC, dI) vwCl (([] : va_W) ++ va_pl L f) s.heap := va_P.part (X := []) hP [] rfl
    have hDc : va_D A (([] : va_W) ++ va_pl L f) := va_D.part (X := []) hD [] (by decide) rfl
    have hKc := hK.sub (tys' := [(cO, .object "java/lang/Object")]) [0] rfl
    have hFc := va_freeP (X := []) (cx := []) hD hS hA [] rfl
    obtain ⟨k8_2, hk8_2⟩ : ∃ k : Nat, (([] : va_W) ++ va_pl L f)[k]? = some (o, .inr (0, [.int mc, .ref te, .int nz])) := pl_at hlo.1 hlo.2
    refine va_callr (va_runV (As := []) (rest := []) ⟨hx, hb, hml, hown, hts⟩ (c_Jx4a65c_grow_d5877_f l dC dI s.heap.size te ea so mi L f o mc nz cO ⟨(by omega), (by omega)⟩ ⟨hlo.1, hlo.2⟩) (cwV 0 hts gJx4a65c_add_72be8_Jx4a65c_grow_d5877 rfl rfl rfl (by decide +kernel) ⟨Nat.le_of_ble_eq_true rfl, Nat.le_of_ble_eq_true rfl⟩) ⟨fun a U g mk q => by obtain ⟨q0, q1, qP, qK, qN, qD, qZ⟩ := q; exact ⟨q0, q1, qP, va_K.moved (u := U) (U := U.calling g mk a) (Vm.Alike.refl U.vm) qK, NW.same (u := U) (U := U.calling g mk a) rfl qN, qD, Zs.moved (u := U) (U := U.calling g mk a) (Vm.Alike.refl U.vm) qZ⟩, va_recv hKc hPc (ci := 0) (q0 := k8_2) rfl hk8_2, fun U hU hW => ⟨rfl, by rw [hU], by rw [hU]; exact hPc, va_K.moved hW.alike hKc, NW.warm hW hN, hDc.weaken (fun _ _ _ _ => trivial), by rw [hU]; exact Zs.pass hZ hS.2.1 hFc hW.alike⟩⟩ rfl rfl hl.1 rfl (lv_room (Nat.le_of_ble_eq_true rfl)) dJx4a65c_add_72be8_7 ⟨Nat.le_of_ble_eq_true rfl, Nat.le_of_ble_eq_true rfl⟩) hS (fun q _ h => hFc q h) hFc (fun u r_3 t H1 locs ht hvm k_4 hB hz1 hk1 hS => ?_)
    obtain ⟨u_5, u_6⟩ := u
    obtain ⟨hP1, hK1, hD1⟩ := hB
    rw [ht] at hP1
    have hK1 := va_K.moved hvm.symm hK1
    obtain ⟨hP, hD⟩ := va_joinP (X := []) (cx := []) (wr := []) (rx := []) hP hD [] [] rfl rfl (by decide) (by decide) hk1 hFc hP1 hD1
    generalize H1 = H at hP hS ⊢
    have hP : va_P (dC, dI) vwCl (([] : va_W) ++ va_pl (L ++ [r_3]) (va_up (va_up f r_3 (rowE cO u_5 u_6)) o (lstE mc r_3 nz))) H := hP
    have hD : va_D A (([] : va_W) ++ va_pl (L ++ [r_3]) (va_up (va_up f r_3 (rowE cO u_5 u_6)) o (lstE mc r_3 nz))) := hD
    have hnew_7 := pl_fresh (X := ([] : va_W)) hD
    obtain ⟨f_8, ef_8⟩ : ∃ z : Nat → va_E, z = va_up f r_3 (.inl (cO, u_5, .inr (.inr (.inr (.inr u_6))))) := ⟨_, rfl⟩
    obtain ⟨L_10, eL_10⟩ : ∃ z : List Nat, z = L ++ [r_3] := ⟨_, rfl⟩
    obtain ⟨f_9, ef_9⟩ : ∃ z : Nat → va_E, z = va_up f_8 o (.inr (0, [.int mc, .ref r_3, .int nz])) := ⟨_, rfl⟩
    have hP : va_P (dC, dI) vwCl (([] : va_W) ++ va_pl (L ++ [r_3]) (va_up (va_up f r_3 (.inl (cO, u_5, .inr (.inr (.inr (.inr u_6)))))) o (.inr (0, [.int mc, .ref r_3, .int nz])))) H := hP
    have hD : va_D A (([] : va_W) ++ va_pl (L ++ [r_3]) (va_up (va_up f r_3 (.inl (cO, u_5, .inr (.inr (.inr (.inr u_6)))))) o (.inr (0, [.int mc, .ref r_3, .int nz])))) := hD
    rw [← ef_8, ← ef_9, ← eL_10] at hP hD
    have hm_11 : o ∈ L_10 := by rw [eL_10]; exact mem_l hlo.1
    have ho_12 : f_9 o = .inr (0, [.int mc, .ref r_3, .int nz]) := by rw [ef_9, va_up_self]
    have hm_13 : r_3 ∈ L_10 := by rw [eL_10]; exact mem_r
    have ho_14 : f_9 r_3 = .inl (cO, u_5, .inr (.inr (.inr (.inr u_6)))) := by rw [ef_9, va_up_ne _ _ (fun z => ne_of_in hlo.1 hnew_7 z.symm), ef_8, va_up_self]
    have hP : va_P (dC, dI) vwCl (([] : va_W) ++ va_pl L_10 f_9) H := hP
    have hD : va_D A (([] : va_W) ++ va_pl L_10 f_9) := hD
    have hq_15 : Ob L_10 f_9 x ci lx := by rw [ef_9, eL_10, ef_8]; exact Ob.lst (Ob.push hob hnew_7) rfl (by rw [va_up_ne _ _ (ne_of_in hlo.1 hnew_7)]; exact hlo.2)
    try dsimp only at k_4
    refine W.widen (k := 1) (n := 200) (Nat.le_of_ble_eq_true rfl) (Nat.le_of_ble_eq_true rfl) ?_
    refine lv_astore_n (lv' := [(2, .ref r_3), (0, .ref o), (1, .ref x), (3, .int a0)]) hx hb dJx4a65c_add_72be8_10 rfl hl (by decide) rfl (fun ls hl => ?_)
    refine lv_aload_n hx hb dJx4a65c_add_72be8_11 rfl (lv_at hl 0 rfl) ?_
    refine lv_iload_n hx hb dJx4a65c_add_72be8_12 rfl (lv_at hl 3 rfl) ?_
    refine lv_aload_n hx hb dJx4a65c_add_72be8_13 rfl (lv_at hl 2 rfl) ?_
    obtain ⟨k9_16, hk9_16⟩ : ∃ k : Nat, (([] : va_W) ++ va_pl L_10 f_9)[k]? = some (r_3, .inl (cO, u_5, .inr (.inr (.inr (.inr u_6))))) := pl_at hm_13 ho_14
    have hDo_17 := hD
    refine va_astqM hx hb hK hP hD hS k9_16 0 hk9_16 rfl (any_pool hK hP hN hq_15.1 hq_15.2.1 hq_15.2.2) (in_k rfl (by omega) (by omega)) dJx4a65c_add_72be8_14 (fun H locs hP hD hS => ?_)
    have hP : va_P (dC, dI) vwCl (List.set (([] : va_W) ++ va_pl L_10 f_9) k9_16 (r_3, .inl (cO, u_5, .inr (.inr (.inr (.inr (va_up u_6 a0.toNatClampNeg (some x)))))))) H := hP
    have hD : va_D A (List.set (([] : va_W) ++ va_pl L_10 f_9) k9_16 (r_3, .inl (cO, u_5, .inr (.inr (.inr (.inr (va_up u_6 a0.toNatClampNeg (some x)))))))) := hD
    rw [pl_set hDo_17 hm_13 ho_14 hk9_16] at hP hD
    obtain ⟨f_18, ef_18⟩ : ∃ z : Nat → va_E, z = va_up f_9 r_3 (.inl (cO, u_5, .inr (.inr (.inr (.inr (va_up u_6 a0.toNatClampNeg (some x))))))) := ⟨_, rfl⟩
    rw [← ef_18] at hP hD
    have ho_19 : f_18 r_3 = .inl (cO, u_5, .inr (.inr (.inr (.inr (va_up u_6 a0.toNatClampNeg (some x)))))) := by rw [ef_18, va_up_self]
    have ho_20 : f_18 o = .inr (0, [.int mc, .ref r_3, .int nz]) := by rw [ef_18, va_up_ne _ _ (pl_ne (ho_12) (ho_14) (fun z => by cases z))]; exact ho_12
    have hq_21 : Ob L_10 f_18 x ci lx := Ob.arr hq_15 ef_18 (ho_14)
    have hP : va_P (dC, dI) vwCl (([] : va_W) ++ va_pl L_10 f_18) H := hP
    have hD : va_D A (([] : va_W) ++ va_pl L_10 f_18) := hD
    refine lv_aload_n hx hb dJx4a65c_add_72be8_15 rfl (lv_at hl 1 rfl) ?_
    refine lv_iload_n hx hb dJx4a65c_add_72be8_16 rfl (lv_at hl 3 rfl) ?_
    refine lv_iconst (v := 1) hx hb dJx4a65c_add_72be8_17 (by decide) ?_
    refine lv_iadd hx hb dJx4a65c_add_72be8_18 ?_
    refine lv_topi (fun x_22 ex_22 => ?_)
    have tx_22 : x_22.toInt = a0.toInt + 1 := ad_k ex_22 rfl (by decide) (by omega) (by omega)
    obtain ⟨k9_23, hk9_23⟩ : ∃ k : Nat, (([] : va_W) ++ va_pl L_10 f_18)[k]? = some (o, .inr (0, [.int mc, .ref r_3, .int nz])) := pl_at hm_11 ho_20
    have hDo_24 := hD
    refine va_put (D := (dC, dI)) (ci := 0) (v := .int x_22) (ty := .int) (C := RJx4a65c) (T := TJx4a65c) (N := 3) hx hb hts iw_Jx4a65c_add_72be8_Jx4a65c tyJx4a65c tyJx4a65c_ok nmJx4a65c hown hK hP hD hS k9_23 hk9_23 rfl 2 (by decide) (hts (.fieldLink RJx4a65c 48 "java/util/ArrayList" "size" "I") (by decide +kernel)) (fun _ h9 => h9) rfl (by decide +kernel) rfl rfl (Nat.le_of_ble_eq_true rfl) dJx4a65c_add_72be8_19 (fun H locs hP hD hS => ?_)
    have hP : va_P (dC, dI) vwCl (List.set (([] : va_W) ++ va_pl L_10 f_18) k9_23 (o, .inr (0, [.int mc, .ref r_3, .int x_22]))) H := hP
    have hD : va_D A (List.set (([] : va_W) ++ va_pl L_10 f_18) k9_23 (o, .inr (0, [.int mc, .ref r_3, .int x_22]))) := hD
    rw [pl_set hDo_24 hm_11 ho_20 hk9_23] at hP hD
    obtain ⟨f_25, ef_25⟩ : ∃ z : Nat → va_E, z = va_up f_18 o (.inr (0, [.int mc, .ref r_3, .int x_22])) := ⟨_, rfl⟩
    rw [← ef_25] at hP hD
    have ho_26 : f_25 o = .inr (0, [.int mc, .ref r_3, .int x_22]) := by rw [ef_25, va_up_self]
    have ho_27 : f_25 r_3 = .inl (cO, u_5, .inr (.inr (.inr (.inr (va_up u_6 a0.toNatClampNeg (some x)))))) := by rw [ef_25, va_up_ne _ _ (pl_ne (ho_19) (ho_20) (fun z => by cases z))]; exact ho_19
    have hq_28 : Ob L_10 f_25 x ci lx := Ob.lst hq_21 ef_25 (ho_20)
    have hP : va_P (dC, dI) vwCl (([] : va_W) ++ va_pl L_10 f_25) H := hP
    have hD : va_D A (([] : va_W) ++ va_pl L_10 f_25) := hD
    have hP9 : va_P (dC, dI) vwCl (([] : va_W) ++ va_pl L_10 f_25) H := va_P.part (X := ([] : va_W)) hP [] rfl
    have hD9 : va_D A (([] : va_W) ++ va_pl L_10 f_25) := va_D.part (X := ([] : va_W)) hD [] (by decide) rfl
    have hK9 := hK.sub (tys' := [(cO, .object "java/lang/Object")]) [0] rfl
    refine W.widen (k := 1) (n := 200) (Nat.le_of_ble_eq_true rfl) (Nat.le_of_ble_eq_true rfl) ?_
    exact W.vret hx hb hr (fun t ht hW => ⟨⟨(L_10, f_25, r_3, u_5, (va_up u_6 a0.toNatClampNeg (some x)), mc, x_22), rfl, ⟨(fun b hb => by (try dsimp only); rw [eL_10]; exact mem_l hb), ho_26, ⟨hm_13, ho_27⟩, (fun b hb h1 h2 => by (try dsimp only); rw [ef_25, va_up_ne _ _ h1, ef_18, va_up_ne _ _ (ne_of_in hb hnew_7), ef_9, va_up_ne _ _ h1, ef_8, va_up_ne _ _ (ne_of_in hb hnew_7)]), (Or.inr hnew_7), (by (try dsimp only); omega), (by (try dsimp only); omega), (by (try dsimp only); rw [show n = a0.toNatClampNeg from (by have := tn_k (i := a0) rfl (by omega); omega), va_up_self])⟩, ⟨by rw [ht]; exact hP9, va_K.moved hW.alike hK9, hD9⟩⟩, hS.F ht⟩) hS.2.2 dJx4a65c_add_72be8_22
set_option maxHeartbeats 4000000 in
set_option maxRecDepth 100000 in
/-- add(e, row, n) -/
theorem c_Jx4a65c_add_72be8_a (l : Launch) (dC : Nat → ClassId) (dI : Nat → Nat → Nat) (sz : Nat) (te : Nat) (ea : Nat) (so : Nat) (mi : Nat) (L : List Nat) (f : Nat → va_E) (o : Nat) (n : Nat) (mc : Int32) (nz : Int32) (a0 : Int32) (x : Nat) (ci : Nat) (lx : List Value) (ar : Nat) (N : Nat) (r : Nat → Option Nat) (cO : ClassId) (i_nz : 1 ≤ nz.toInt ∧ nz.toInt ≤ 99) (i_a0 : 1 ≤ a0.toInt ∧ a0.toInt ≤ 99) (hnz : nz.toInt = (n : Int)) (ha0 : a0.toInt = (n : Int)) (hnN : n ≤ N) (hN2 : N ≤ 200) (hlo : o ∈ L ∧ f o = .inr (0, [.int mc, .ref ar, .int nz])) (harr : ar ∈ L ∧ f ar = .inl (cO, N, .inr (.inr (.inr (.inr r))))) (hob : Ob L f x ci lx) (hels : Els L f n r) : Met l yJx4a65c_add_72be8 wsJx4a65c_add_72be8 ({ frames := 5, cells := 1, slots := 200, locals := 147 }) (va_Pc [.ref o, .ref x, .ref ar, .int a0] (fun U => U.heap.size = sz ∧ va_P (dC, dI) vwCl (([] : va_W) ++ va_pl L f) U.heap ∧ va_K (dC, dI) vwCl [(cO, .object "java/lang/Object")] U ∧ NW U ∧ va_D (fun _ => True) (([] : va_W) ++ va_pl L f) ∧ Zs te ea so mi (va_A (([] : va_W) ++ va_pl L f) sz) U U.heap)) (va_Qv (fun (u : List Nat × (Nat → va_E) × Nat × Nat × (Nat → Option Nat) × Int32 × Int32) => (∀ b, b ∈ L → b ∈ u.1) ∧ (u.2.1 o = lstE u.2.2.2.2.2.1 u.2.2.1 u.2.2.2.2.2.2) ∧ (u.2.2.1 ∈ u.1 ∧ u.2.1 u.2.2.1 = rowE cO u.2.2.2.1 u.2.2.2.2.1) ∧ (∀ b, b ∈ L → b ≠ o → b ≠ ar → u.2.1 b = f b) ∧ (u.2.2.1 = ar ∨ u.2.2.1 ∉ L) ∧ (u.2.2.2.2.2.2.toInt = (n : Int) + 1) ∧ (n + 1 ≤ u.2.2.2.1 ∧ u.2.2.2.1 ≤ 200) ∧ (u.2.2.2.2.1 n = some x) ∧ (∀ k, k < n → u.2.2.2.2.1 k = r k)) (fun u t => va_P (dC, dI) vwCl (([] : va_W) ++ va_pl u.1 u.2.1) t.heap ∧ va_K (dC, dI) vwCl [(cO, .object "java/lang/Object")] t ∧ va_D (va_A (([] : va_W) ++ va_pl L f) sz) (([] : va_W) ++ va_pl u.1 u.2.1)) (va_A (([] : va_W) ++ va_pl L f) sz)) 1 200 (va_A (([] : va_W) ++ va_pl L f) sz) := by
  refine Met.ofW (cc := cJx4a65c_add_72be8) (maxL := 4) (ret := none) (by decide) rfl ?_
  intro p e s m args below meth c s₁ B hml hv
  obtain ⟨rfl, hsz, hP, hK, hN, hD0, hZ⟩ := hv
  have hx := B.exec
  have hb := B.bytes
  have hr := B.returns
  have hts := atoms_spec (ws := wsJx4a65c_add_72be8) B.pre
  have hown : s.vm.findClass RJx4a65c = some m.cls := findClass_of_methodNamed B.named
  have hlocks := B.notSynchronized
  subst hsz
  have hD := hD0.self (sz := s.heap.size)
  generalize hAe : va_A (([] : va_W) ++ va_pl L f) s.heap.size = A at hD hZ ⊢
  have hA : ∀ q : Nat, s.heap.size ≤ q → A q := fun q h => by rw [← hAe]; exact Or.inr h
  have hS : va_S A s.heap s.heap [] := va_S.rf
  have hP : va_P (dC, dI) vwCl (([] : va_W) ++ va_pl L f) s.heap := hP
  have hl := lv_entry ([.ref o, .ref x, .ref ar, .int a0]) (n := 4) (Nat.le_of_ble_eq_true rfl)
  rw [lg_entry_eq]
  generalize (lg_sl ([.ref o, .ref x, .ref ar, .int a0]) ++ List.replicate (4 - (lg_sl ([.ref o, .ref x, .ref ar, .int a0])).length) Slot.unset).toArray = ls at hl ⊢
  have hl : lv_has ls 4 [(0, .ref o), (1, .ref x), (2, .ref ar), (3, .int a0)] := hl
  refine lv_iload_n hx hb dJx4a65c_add_72be8_0 rfl (lv_at hl 3 rfl) ?_
  refine lv_aload_n hx hb dJx4a65c_add_72be8_1 rfl (lv_at hl 2 rfl) ?_
  obtain ⟨k9_1, hk9_1⟩ : ∃ k : Nat, (([] : va_W) ++ va_pl L f)[k]? = some (ar, .inl (cO, N, .inr (.inr (.inr (.inr r))))) := pl_at harr.1 harr.2
  refine va_alen (v := (nI N)) hx hb hK hP k9_1 0 hk9_1 rfl (by rfl) dJx4a65c_add_72be8_2 ?_
  refine lv_topi (fun x_2 ex_2 => ?_)
  have tx_2 : x_2.toInt = (N : Int) := by rw [ex_2]; exact nI_toInt (by omega)
  refine lv_icmp_ne (tgt := 11) hx hb dJx4a65c_add_72be8_3 (by decide) (fun c_3 => ?_) (fun c_3 => ?_)
  · skip
    have qc_3 : a0.toInt ≠ x_2.toInt := ne_k rfl rfl c_3
    refine lv_aload_n hx hb dJx4a65c_add_72be8_11 rfl (lv_at hl 2 rfl) ?_
    refine lv_iload_n hx hb dJx4a65c_add_72be8_12 rfl (lv_at hl 3 rfl) ?_
    refine lv_aload_n hx hb dJx4a65c_add_72be8_13 rfl (lv_at hl 1 rfl) ?_
    obtain ⟨k9_4, hk9_4⟩ : ∃ k : Nat, (([] : va_W) ++ va_pl L f)[k]? = some (ar, .inl (cO, N, .inr (.inr (.inr (.inr r))))) := pl_at harr.1 harr.2
    have hDo_5 := hD
    refine va_astqM hx hb hK hP hD hS k9_4 0 hk9_4 rfl (any_pool hK hP hN hob.1 hob.2.1 hob.2.2) (in_k rfl (by omega) (by omega)) dJx4a65c_add_72be8_14 (fun H locs hP hD hS => ?_)
    have hP : va_P (dC, dI) vwCl (List.set (([] : va_W) ++ va_pl L f) k9_4 (ar, .inl (cO, N, .inr (.inr (.inr (.inr (va_up r a0.toNatClampNeg (some x)))))))) H := hP
    have hD : va_D A (List.set (([] : va_W) ++ va_pl L f) k9_4 (ar, .inl (cO, N, .inr (.inr (.inr (.inr (va_up r a0.toNatClampNeg (some x)))))))) := hD
    rw [pl_set hDo_5 harr.1 harr.2 hk9_4] at hP hD
    obtain ⟨f_6, ef_6⟩ : ∃ z : Nat → va_E, z = va_up f ar (.inl (cO, N, .inr (.inr (.inr (.inr (va_up r a0.toNatClampNeg (some x))))))) := ⟨_, rfl⟩
    rw [← ef_6] at hP hD
    have ho_7 : f_6 ar = .inl (cO, N, .inr (.inr (.inr (.inr (va_up r a0.toNatClampNeg (some x)))))) := by rw [ef_6, va_up_self]
    have ho_8 : f_6 o = .inr (0, [.int mc, .ref ar, .int nz]) := by rw [ef_6, va_up_ne _ _ (pl_ne (hlo.2) (harr.2) (fun z => by cases z))]; exact hlo.2
    have hq_9 : Ob L f_6 x ci lx := Ob.arr hob ef_6 (harr.2)
    have hP : va_P (dC, dI) vwCl (([] : va_W) ++ va_pl L f_6) H := hP
    have hD : va_D A (([] : va_W) ++ va_pl L f_6) := hD
    refine lv_aload_n hx hb dJx4a65c_add_72be8_15 rfl (lv_at hl 0 rfl) ?_
    refine lv_iload_n hx hb dJx4a65c_add_72be8_16 rfl (lv_at hl 3 rfl) ?_
    refine lv_iconst (v := 1) hx hb dJx4a65c_add_72be8_17 (by decide) ?_
    refine lv_iadd hx hb dJx4a65c_add_72be8_18 ?_
    refine lv_topi (fun x_11 ex_11 => ?_)
    have tx_11 : x_11.toInt = a0.toInt + 1 := ad_k ex_11 rfl (by decide) (by omega) (by omega)
    obtain ⟨k9_12, hk9_12⟩ : ∃ k : Nat, (([] : va_W) ++ va_pl L f_6)[k]? = some (o, .inr (0, [.int mc, .ref ar, .int nz])) := pl_at hlo.1 ho_8
    have hDo_13 := hD
    refine va_put (D := (dC, dI)) (ci := 0) (v := .int x_11) (ty := .int) (C := RJx4a65c) (T := TJx4a65c) (N := 3) hx hb hts iw_Jx4a65c_add_72be8_Jx4a65c tyJx4a65c tyJx4a65c_ok nmJx4a65c hown hK hP hD hS k9_12 hk9_12 rfl 2 (by decide) (hts (.fieldLink RJx4a65c 48 "java/util/ArrayList" "size" "I") (by decide +kernel)) (fun _ h9 => h9) rfl (by decide +kernel) rfl rfl (Nat.le_of_ble_eq_true rfl) dJx4a65c_add_72be8_19 (fun H locs hP hD hS => ?_)
    have hP : va_P (dC, dI) vwCl (List.set (([] : va_W) ++ va_pl L f_6) k9_12 (o, .inr (0, [.int mc, .ref ar, .int x_11]))) H := hP
    have hD : va_D A (List.set (([] : va_W) ++ va_pl L f_6) k9_12 (o, .inr (0, [.int mc, .ref ar, .int x_11]))) := hD
    rw [pl_set hDo_13 hlo.1 ho_8 hk9_12] at hP hD
    obtain ⟨f_14, ef_14⟩ : ∃ z : Nat → va_E, z = va_up f_6 o (.inr (0, [.int mc, .ref ar, .int x_11])) := ⟨_, rfl⟩
    rw [← ef_14] at hP hD
    have ho_15 : f_14 o = .inr (0, [.int mc, .ref ar, .int x_11]) := by rw [ef_14, va_up_self]
    have ho_16 : f_14 ar = .inl (cO, N, .inr (.inr (.inr (.inr (va_up r a0.toNatClampNeg (some x)))))) := by rw [ef_14, va_up_ne _ _ (pl_ne (ho_7) (ho_8) (fun z => by cases z))]; exact ho_7
    have hq_17 : Ob L f_14 x ci lx := Ob.lst hq_9 ef_14 (ho_8)
    have hP : va_P (dC, dI) vwCl (([] : va_W) ++ va_pl L f_14) H := hP
    have hD : va_D A (([] : va_W) ++ va_pl L f_14) := hD
    have hP9 : va_P (dC, dI) vwCl (([] : va_W) ++ va_pl L f_14) H := va_P.part (X := ([] : va_W)) hP [] rfl
    have hD9 : va_D A (([] : va_W) ++ va_pl L f_14) := va_D.part (X := ([] : va_W)) hD [] (by decide) rfl
    have hK9 := hK.sub (tys' := [(cO, .object "java/lang/Object")]) [0] rfl
    refine W.widen (k := 1) (n := 200) (Nat.le_of_ble_eq_true rfl) (Nat.le_of_ble_eq_true rfl) ?_
    exact W.vret hx hb hr (fun t ht hW => ⟨⟨(L, f_14, ar, N, (va_up r a0.toNatClampNeg (some x)), mc, x_11), rfl, ⟨(fun b hb => by (try dsimp only); exact hb), ho_15, ⟨harr.1, ho_16⟩, (fun b hb h1 h2 => by (try dsimp only); rw [ef_14, va_up_ne _ _ h1, ef_6, va_up_ne _ _ h2]), (Or.inl rfl), (by (try dsimp only); omega), (by (try dsimp only); omega), (by (try dsimp only); rw [show n = a0.toNatClampNeg from (by have := tn_k (i := a0) rfl (by omega); omega), va_up_self]), (fun k hk => by (try dsimp only); exact (va_up_ne _ _ (by have := tn_k (i := a0) rfl (by omega); omega)).trans (rfl))⟩, ⟨by rw [ht]; exact hP9, va_K.moved hW.alike hK9, hD9⟩⟩, hS.F ht⟩) hS.2.2 dJx4a65c_add_72be8_22
  · skip
    have qc_3 : a0.toInt = x_2.toInt := eq_k rfl rfl c_3
    have hels_18 : Els L f N r := by rw [show N = n from by omega]; exact hels
    refine lv_aload_n hx hb dJx4a65c_add_72be8_6 rfl (lv_at hl 0 rfl) ?_
    have hPc : va_P (dC, dI) vwCl (([] : va_W) ++ va_pl L f) s.heap := va_P.part (X := []) hP [] rfl
    have hDc : va_D A (([] : va_W) ++ va_pl L f) := va_D.part (X := []) hD [] (by decide) rfl
    have hKc := hK.sub (tys' := [(cO, .object "java/lang/Object")]) [0] rfl
    have hFc := va_freeP (X := []) (cx := []) hD hS hA [] rfl
    obtain ⟨k8_19, hk8_19⟩ : ∃ k : Nat, (([] : va_W) ++ va_pl L f)[k]? = some (o, .inr (0, [.int mc, .ref ar, .int nz])) := pl_at hlo.1 hlo.2
    refine va_callr (va_runV (As := []) (rest := []) ⟨hx, hb, hml, hown, hts⟩ (c_Jx4a65c_grow_d5877_a l dC dI s.heap.size te ea so mi L f o mc nz ar N r cO ⟨(by omega), (by omega)⟩ (by omega) (by omega) (by omega) ⟨hlo.1, hlo.2⟩ ⟨harr.1, harr.2⟩ hels_18) (cwV 0 hts gJx4a65c_add_72be8_Jx4a65c_grow_d5877 rfl rfl rfl (by decide +kernel) ⟨Nat.le_of_ble_eq_true rfl, Nat.le_of_ble_eq_true rfl⟩) ⟨fun a U g mk q => by obtain ⟨q0, q1, qP, qK, qN, qD, qZ⟩ := q; exact ⟨q0, q1, qP, va_K.moved (u := U) (U := U.calling g mk a) (Vm.Alike.refl U.vm) qK, NW.same (u := U) (U := U.calling g mk a) rfl qN, qD, Zs.moved (u := U) (U := U.calling g mk a) (Vm.Alike.refl U.vm) qZ⟩, va_recv hKc hPc (ci := 0) (q0 := k8_19) rfl hk8_19, fun U hU hW => ⟨rfl, by rw [hU], by rw [hU]; exact hPc, va_K.moved hW.alike hKc, NW.warm hW hN, hDc.weaken (fun _ _ _ _ => trivial), by rw [hU]; exact Zs.pass hZ hS.2.1 hFc hW.alike⟩⟩ rfl rfl hl.1 rfl (lv_room (Nat.le_of_ble_eq_true rfl)) dJx4a65c_add_72be8_7 ⟨Nat.le_of_ble_eq_true rfl, Nat.le_of_ble_eq_true rfl⟩) hS (fun q _ h => hFc q h) hFc (fun u r_20 t H1 locs ht hvm k_21 hB hz1 hk1 hS => ?_)
    obtain ⟨u_22, u_23⟩ := u
    obtain ⟨hP1, hK1, hD1⟩ := hB
    rw [ht] at hP1
    have hK1 := va_K.moved hvm.symm hK1
    obtain ⟨hP, hD⟩ := va_joinP (X := []) (cx := []) (wr := []) (rx := []) hP hD [] [] rfl rfl (by decide) (by decide) hk1 hFc hP1 hD1
    generalize H1 = H at hP hS ⊢
    have hP : va_P (dC, dI) vwCl (([] : va_W) ++ va_pl (L ++ [r_20]) (va_up (va_up f r_20 (rowE cO u_22 u_23)) o (lstE mc r_20 nz))) H := hP
    have hD : va_D A (([] : va_W) ++ va_pl (L ++ [r_20]) (va_up (va_up f r_20 (rowE cO u_22 u_23)) o (lstE mc r_20 nz))) := hD
    have hnew_24 := pl_fresh (X := ([] : va_W)) hD
    obtain ⟨f_25, ef_25⟩ : ∃ z : Nat → va_E, z = va_up f r_20 (.inl (cO, u_22, .inr (.inr (.inr (.inr u_23))))) := ⟨_, rfl⟩
    obtain ⟨L_27, eL_27⟩ : ∃ z : List Nat, z = L ++ [r_20] := ⟨_, rfl⟩
    obtain ⟨f_26, ef_26⟩ : ∃ z : Nat → va_E, z = va_up f_25 o (.inr (0, [.int mc, .ref r_20, .int nz])) := ⟨_, rfl⟩
    have hP : va_P (dC, dI) vwCl (([] : va_W) ++ va_pl (L ++ [r_20]) (va_up (va_up f r_20 (.inl (cO, u_22, .inr (.inr (.inr (.inr u_23)))))) o (.inr (0, [.int mc, .ref r_20, .int nz])))) H := hP
    have hD : va_D A (([] : va_W) ++ va_pl (L ++ [r_20]) (va_up (va_up f r_20 (.inl (cO, u_22, .inr (.inr (.inr (.inr u_23)))))) o (.inr (0, [.int mc, .ref r_20, .int nz])))) := hD
    rw [← ef_25, ← ef_26, ← eL_27] at hP hD
    have hm_28 : o ∈ L_27 := by rw [eL_27]; exact mem_l hlo.1
    have ho_29 : f_26 o = .inr (0, [.int mc, .ref r_20, .int nz]) := by rw [ef_26, va_up_self]
    have hm_30 : ar ∈ L_27 := by rw [eL_27]; exact mem_l harr.1
    have ho_31 : f_26 ar = .inl (cO, N, .inr (.inr (.inr (.inr r)))) := by rw [ef_26, va_up_ne _ _ (pl_ne (harr.2) (hlo.2) (fun z => by cases z)), ef_25, va_up_ne _ _ (ne_of_in harr.1 hnew_24)]; exact harr.2
    have hm_32 : r_20 ∈ L_27 := by rw [eL_27]; exact mem_r
    have ho_33 : f_26 r_20 = .inl (cO, u_22, .inr (.inr (.inr (.inr u_23)))) := by rw [ef_26, va_up_ne _ _ (fun z => ne_of_in hlo.1 hnew_24 z.symm), ef_25, va_up_self]
    have hP : va_P (dC, dI) vwCl (([] : va_W) ++ va_pl L_27 f_26) H := hP
    have hD : va_D A (([] : va_W) ++ va_pl L_27 f_26) := hD
    have hq_34 : Ob L_27 f_26 x ci lx := by rw [ef_26, eL_27, ef_25]; exact Ob.lst (Ob.push hob hnew_24) rfl (by rw [va_up_ne _ _ (ne_of_in hlo.1 hnew_24)]; exact hlo.2)
    try dsimp only at k_21
    obtain ⟨k_21, k_35⟩ := k_21
    refine W.widen (k := 1) (n := 200) (Nat.le_of_ble_eq_true rfl) (Nat.le_of_ble_eq_true rfl) ?_
    refine lv_astore_n (lv' := [(2, .ref r_20), (0, .ref o), (1, .ref x), (3, .int a0)]) hx hb dJx4a65c_add_72be8_10 rfl hl (by decide) rfl (fun ls hl => ?_)
    refine lv_aload_n hx hb dJx4a65c_add_72be8_11 rfl (lv_at hl 0 rfl) ?_
    refine lv_iload_n hx hb dJx4a65c_add_72be8_12 rfl (lv_at hl 3 rfl) ?_
    refine lv_aload_n hx hb dJx4a65c_add_72be8_13 rfl (lv_at hl 2 rfl) ?_
    obtain ⟨k9_36, hk9_36⟩ : ∃ k : Nat, (([] : va_W) ++ va_pl L_27 f_26)[k]? = some (r_20, .inl (cO, u_22, .inr (.inr (.inr (.inr u_23))))) := pl_at hm_32 ho_33
    have hDo_37 := hD
    refine va_astqM hx hb hK hP hD hS k9_36 0 hk9_36 rfl (any_pool hK hP hN hq_34.1 hq_34.2.1 hq_34.2.2) (in_k rfl (by omega) (by omega)) dJx4a65c_add_72be8_14 (fun H locs hP hD hS => ?_)
    have hP : va_P (dC, dI) vwCl (List.set (([] : va_W) ++ va_pl L_27 f_26) k9_36 (r_20, .inl (cO, u_22, .inr (.inr (.inr (.inr (va_up u_23 a0.toNatClampNeg (some x)))))))) H := hP
    have hD : va_D A (List.set (([] : va_W) ++ va_pl L_27 f_26) k9_36 (r_20, .inl (cO, u_22, .inr (.inr (.inr (.inr (va_up u_23 a0.toNatClampNeg (some x)))))))) := hD
    rw [pl_set hDo_37 hm_32 ho_33 hk9_36] at hP hD
    obtain ⟨f_38, ef_38⟩ : ∃ z : Nat → va_E, z = va_up f_26 r_20 (.inl (cO, u_22, .inr (.inr (.inr (.inr (va_up u_23 a0.toNatClampNeg (some x))))))) := ⟨_, rfl⟩
    rw [← ef_38] at hP hD
    have ho_39 : f_38 r_20 = .inl (cO, u_22, .inr (.inr (.inr (.inr (va_up u_23 a0.toNatClampNeg (some x)))))) := by rw [ef_38, va_up_self]
    have ho_40 : f_38 o = .inr (0, [.int mc, .ref r_20, .int nz]) := by rw [ef_38, va_up_ne _ _ (pl_ne (ho_29) (ho_33) (fun z => by cases z))]; exact ho_29
    have hq_41 : Ob L_27 f_38 x ci lx := Ob.arr hq_34 ef_38 (ho_33)
    have hP : va_P (dC, dI) vwCl (([] : va_W) ++ va_pl L_27 f_38) H := hP
    have hD : va_D A (([] : va_W) ++ va_pl L_27 f_38) := hD
    refine lv_aload_n hx hb dJx4a65c_add_72be8_15 rfl (lv_at hl 1 rfl) ?_
    refine lv_iload_n hx hb dJx4a65c_add_72be8_16 rfl (lv_at hl 3 rfl) ?_
    refine lv_iconst (v := 1) hx hb dJx4a65c_add_72be8_17 (by decide) ?_
    refine lv_iadd hx hb dJx4a65c_add_72be8_18 ?_
    refine lv_topi (fun x_42 ex_42 => ?_)
    have tx_42 : x_42.toInt = a0.toInt + 1 := ad_k ex_42 rfl (by decide) (by omega) (by omega)
    obtain ⟨k9_43, hk9_43⟩ : ∃ k : Nat, (([] : va_W) ++ va_pl L_27 f_38)[k]? = some (o, .inr (0, [.int mc, .ref r_20, .int nz])) := pl_at hm_28 ho_40
    have hDo_44 := hD
    refine va_put (D := (dC, dI)) (ci := 0) (v := .int x_42) (ty := .int) (C := RJx4a65c) (T := TJx4a65c) (N := 3) hx hb hts iw_Jx4a65c_add_72be8_Jx4a65c tyJx4a65c tyJx4a65c_ok nmJx4a65c hown hK hP hD hS k9_43 hk9_43 rfl 2 (by decide) (hts (.fieldLink RJx4a65c 48 "java/util/ArrayList" "size" "I") (by decide +kernel)) (fun _ h9 => h9) rfl (by decide +kernel) rfl rfl (Nat.le_of_ble_eq_true rfl) dJx4a65c_add_72be8_19 (fun H locs hP hD hS => ?_)
    have hP : va_P (dC, dI) vwCl (List.set (([] : va_W) ++ va_pl L_27 f_38) k9_43 (o, .inr (0, [.int mc, .ref r_20, .int x_42]))) H := hP
    have hD : va_D A (List.set (([] : va_W) ++ va_pl L_27 f_38) k9_43 (o, .inr (0, [.int mc, .ref r_20, .int x_42]))) := hD
    rw [pl_set hDo_44 hm_28 ho_40 hk9_43] at hP hD
    obtain ⟨f_45, ef_45⟩ : ∃ z : Nat → va_E, z = va_up f_38 o (.inr (0, [.int mc, .ref r_20, .int x_42])) := ⟨_, rfl⟩
    rw [← ef_45] at hP hD
    have ho_46 : f_45 o = .inr (0, [.int mc, .ref r_20, .int x_42]) := by rw [ef_45, va_up_self]
    have ho_47 : f_45 r_20 = .inl (cO, u_22, .inr (.inr (.inr (.inr (va_up u_23 a0.toNatClampNeg (some x)))))) := by rw [ef_45, va_up_ne _ _ (pl_ne (ho_39) (ho_40) (fun z => by cases z))]; exact ho_39
    have hq_48 : Ob L_27 f_45 x ci lx := Ob.lst hq_41 ef_45 (ho_40)
    have hP : va_P (dC, dI) vwCl (([] : va_W) ++ va_pl L_27 f_45) H := hP
    have hD : va_D A (([] : va_W) ++ va_pl L_27 f_45) := hD
    have hP9 : va_P (dC, dI) vwCl (([] : va_W) ++ va_pl L_27 f_45) H := va_P.part (X := ([] : va_W)) hP [] rfl
    have hD9 : va_D A (([] : va_W) ++ va_pl L_27 f_45) := va_D.part (X := ([] : va_W)) hD [] (by decide) rfl
    have hK9 := hK.sub (tys' := [(cO, .object "java/lang/Object")]) [0] rfl
    refine W.widen (k := 1) (n := 200) (Nat.le_of_ble_eq_true rfl) (Nat.le_of_ble_eq_true rfl) ?_
    exact W.vret hx hb hr (fun t ht hW => ⟨⟨(L_27, f_45, r_20, u_22, (va_up u_23 a0.toNatClampNeg (some x)), mc, x_42), rfl, ⟨(fun b hb => by (try dsimp only); rw [eL_27]; exact mem_l hb), ho_46, ⟨hm_32, ho_47⟩, (fun b hb h1 h2 => by (try dsimp only); rw [ef_45, va_up_ne _ _ h1, ef_38, va_up_ne _ _ (ne_of_in hb hnew_24), ef_26, va_up_ne _ _ h1, ef_25, va_up_ne _ _ (ne_of_in hb hnew_24)]), (Or.inr hnew_24), (by (try dsimp only); omega), (by (try dsimp only); omega), (by (try dsimp only); rw [show n = a0.toNatClampNeg from (by have := tn_k (i := a0) rfl (by omega); omega), va_up_self]), (fun k hk => by (try dsimp only); exact (va_up_ne _ _ (by have := tn_k (i := a0) rfl (by omega); omega)).trans (k_35 k (by omega)))⟩, ⟨by rw [ht]; exact hP9, va_K.moved hW.alike hK9, hD9⟩⟩, hS.F ht⟩) hS.2.2 dJx4a65c_add_72be8_22
