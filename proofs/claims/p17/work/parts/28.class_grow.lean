set_option maxRecDepth 20000 in
theorem iw_Jx4a65c_grow_92f84_Jx4a65c : ∀ w ∈ wsJx4a65c0, w ∈ wsJx4a65c_grow_92f84 := fun w h => (List.mem_cons_of_mem _ (List.mem_append_right _ h))
set_option maxHeartbeats 4000000 in
set_option maxRecDepth 100000 in
/-- ArrayList.grow(int) of a fresh list -/
theorem c_Jx4a65c_grow_92f84_f (l : Launch) (dC : Nat → ClassId) (dI : Nat → Nat → Nat) (sz : Nat) (te : Nat) (ea : Nat) (so : Nat) (mi : Nat) (L : List Nat) (f : Nat → va_E) (o : Nat) (mc : Int32) (nz : Int32) (cO : ClassId) (b0 : Int32) (i_b0 : 1 ≤ b0.toInt ∧ b0.toInt ≤ 10) (hlo : o ∈ L ∧ f o = .inr (0, [.int mc, .ref te, .int nz])) : Met l yJx4a65c_grow_92f84 wsJx4a65c_grow_92f84 ({ frames := 1, cells := 1, slots := 200, locals := 21 }) (va_Pc [.ref o, .int b0] (fun U => U.heap.size = sz ∧ va_P (dC, dI) vwCl (([] : va_W) ++ va_pl L f) U.heap ∧ va_K (dC, dI) vwCl [(cO, .object "java/lang/Object")] U ∧ NW U ∧ va_D (fun _ => True) (([] : va_W) ++ va_pl L f) ∧ Zs te ea so mi (va_A (([] : va_W) ++ va_pl L f) sz) U U.heap)) (va_Qr (fun (u : Nat × (Nat → Option Nat)) => (u.1 = 10)) (fun u ra t => va_P (dC, dI) vwCl (([] : va_W) ++ va_pl (L ++ [ra]) (va_up (va_up f ra (rowE cO u.1 u.2)) o (lstE mc ra nz))) t.heap ∧ va_K (dC, dI) vwCl [(cO, .object "java/lang/Object")] t ∧ va_D (va_A (([] : va_W) ++ va_pl L f) sz) (([] : va_W) ++ va_pl (L ++ [ra]) (va_up (va_up f ra (rowE cO u.1 u.2)) o (lstE mc ra nz)))) (va_A (([] : va_W) ++ va_pl L f) sz)) 1 200 (va_A (([] : va_W) ++ va_pl L f) sz) := by
  refine Met.ofW (cc := cJx4a65c_grow_92f84) (maxL := 4) (ret := (some (.array (.object "java/lang/Object")))) (by decide) rfl ?_
  intro p e s m args below meth c s₁ B hml hv
  obtain ⟨rfl, hsz, hP, hK, hN, hD0, hZ⟩ := hv
  have hx := B.exec
  have hb := B.bytes
  have hr := B.returns
  have hts := atoms_spec (ws := wsJx4a65c_grow_92f84) B.pre
  have hown : s.vm.findClass RJx4a65c = some m.cls := findClass_of_methodNamed B.named
  have hlocks := B.notSynchronized
  subst hsz
  have hD := hD0.self (sz := s.heap.size)
  generalize hAe : va_A (([] : va_W) ++ va_pl L f) s.heap.size = A at hD hZ ⊢
  have hA : ∀ q : Nat, s.heap.size ≤ q → A q := fun q h => by rw [← hAe]; exact Or.inr h
  have hS : va_S A s.heap s.heap [] := va_S.rf
  have hP : va_P (dC, dI) vwCl (([] : va_W) ++ va_pl L f) s.heap := hP
  have hl := lv_entry ([.ref o, .int b0]) (n := 4) (Nat.le_of_ble_eq_true rfl)
  rw [lg_entry_eq]
  generalize (lg_sl ([.ref o, .int b0]) ++ List.replicate (4 - (lg_sl ([.ref o, .int b0])).length) Slot.unset).toArray = ls at hl ⊢
  have hl : lv_has ls 4 [(0, .ref o), (1, .int b0)] := hl
  refine lv_aload_n hx hb dJx4a65c_grow_92f84_0 rfl (lv_at hl 0 rfl) ?_
  obtain ⟨k9_1, hk9_1⟩ : ∃ k : Nat, (([] : va_W) ++ va_pl L f)[k]? = some (o, .inr (0, [.int mc, .ref te, .int nz])) := pl_at hlo.1 hlo.2
  refine va_get (D := (dC, dI)) (ci := 0) (v := .ref te) (C := RJx4a65c) (T := TJx4a65c) (N := 3) hx hb hts iw_Jx4a65c_grow_92f84_Jx4a65c hown hK hP k9_1 hk9_1 rfl 1 (by decide) (hts (.fieldLink RJx4a65c 9 "java/util/ArrayList" "elementData" "[Ljava/lang/Object;") (by decide +kernel)) (fun _ h9 => h9) rfl dJx4a65c_grow_92f84_1 ?_
  refine va_tlen (v := 0) hx hb hZ.zd.2 hS (by rfl) dJx4a65c_grow_92f84_4 ?_
  refine lv_istore_n (lv' := [(2, .int 0), (0, .ref o), (1, .int b0)]) hx hb dJx4a65c_grow_92f84_5 rfl hl (by decide) rfl (fun ls hl => ?_)
  refine lv_iload_n hx hb dJx4a65c_grow_92f84_6 rfl (lv_at hl 0 rfl) ?_
  refine lv_if_gt (tgt := 20) hx hb dJx4a65c_grow_92f84_7 (by decide) (fun c_2 => ?_) (fun c_2 => ?_)
  · skip
    exact absurd c_2 (by decide)
  · skip
    refine lv_aload_n hx hb dJx4a65c_grow_92f84_10 rfl (lv_at hl 1 rfl) ?_
    obtain ⟨k9_3, hk9_3⟩ : ∃ k : Nat, (([] : va_W) ++ va_pl L f)[k]? = some (o, .inr (0, [.int mc, .ref te, .int nz])) := pl_at hlo.1 hlo.2
    refine va_get (D := (dC, dI)) (ci := 0) (v := .ref te) (C := RJx4a65c) (T := TJx4a65c) (N := 3) hx hb hts iw_Jx4a65c_grow_92f84_Jx4a65c hown hK hP k9_3 hk9_3 rfl 1 (by decide) (hts (.fieldLink RJx4a65c 9 "java/util/ArrayList" "elementData" "[Ljava/lang/Object;") (by decide +kernel)) (fun _ h9 => h9) rfl dJx4a65c_grow_92f84_11 ?_
    refine va_gets hx hb hZ.zd.1 hS hown (hts (.fieldLink RJx4a65c 39 "java/util/ArrayList" "DEFAULTCAPACITY_EMPTY_ELEMENTDATA" "[Ljava/lang/Object;") (by decide +kernel)) (fun _ h9 => h9) dJx4a65c_grow_92f84_14 ?_
    refine W.eq (g2 := F0 m 17 ls (va_rf (some te) :: va_rf (some te) :: [])) rfl ?_
    refine lv_acmp_eq (tgt := 45) hx hb dJx4a65c_grow_92f84_17 (by decide) (fun c_4 => ?_) (fun c_4 => absurd rfl c_4)
    refine lv_aload_n hx hb dJx4a65c_grow_92f84_45 rfl (lv_at hl 1 rfl) ?_
    refine lv_bipush (v := 10) hx hb dJx4a65c_grow_92f84_46 (by decide) ?_
    refine lv_iload_n hx hb dJx4a65c_grow_92f84_48 rfl (lv_at hl 2 rfl) ?_
    refine va_mmax hx hb (hml.trans hl.1.symm) hown (hts (.methodLink RJx4a65c 79 Lib.Math.max.name) (by decide +kernel)) (hts (.static Lib.Math.max.name) (by decide +kernel)) (hts (.initialized "java/lang/Math") (by decide +kernel)) (hts (.code Lib.Math.max.name Lib.Math.max.code 2 (some .int)) (by decide +kernel)) (Nat.le_of_ble_eq_true rfl) (Nat.le_of_ble_eq_true rfl) (Nat.le_of_ble_eq_true rfl) (Nat.le_of_ble_eq_true rfl) dJx4a65c_grow_92f84_49 ?_
    refine lv_topi (fun x_5 ex_5 => ?_)
    have tx_5 : x_5.toInt = max 10 b0.toInt := mx_k ex_5 (by decide) rfl
    obtain ⟨N2_8, eN2_8⟩ : ∃ z : Nat, x_5.toNatClampNeg = z := ⟨_, rfl⟩
    have tN2_8 : (N2_8 : Int) = x_5.toInt := by rw [← eN2_8]; exact tn_k rfl (by omega)
    refine va_newq (N' := N2_8) hx hb hown (hts (.classLink RJx4a65c 7 "java/lang/Object") (by decide +kernel)) hN.aO hK hP hD hS hA (fun z => by have := lt_k (q := 0) rfl (by decide) z; omega) eN2_8 (by omega) (Nat.le_of_ble_eq_true rfl) (by show _ ≤ 200; omega) dJx4a65c_grow_92f84_52 (fun q_6 cA_7 H hK hP hD hS => ?_)
    obtain rfl : cO = cA_7 := va_uniq hK 0 1 rfl rfl
    have hK := hK.sub (tys' := [(cO, .object "java/lang/Object")]) [0] rfl
    obtain ⟨hnew_9, hP, hD⟩ := pl_push (X := ([] : va_W)) hP hD
    obtain ⟨f_11, ef_11⟩ : ∃ z : Nat → va_E, z = va_up f q_6 (.inl (cO, N2_8, .inr (.inr (.inr (.inr (fun _ => none)))))) := ⟨_, rfl⟩
    obtain ⟨L_10, eL_10⟩ : ∃ z : List Nat, z = L ++ [q_6] := ⟨_, rfl⟩
    have hP : va_P (dC, dI) vwCl (([] : va_W) ++ va_pl (L ++ [q_6]) (va_up f q_6 (.inl (cO, N2_8, .inr (.inr (.inr (.inr (fun _ => none)))))))) H := hP
    have hD : va_D A (([] : va_W) ++ va_pl (L ++ [q_6]) (va_up f q_6 (.inl (cO, N2_8, .inr (.inr (.inr (.inr (fun _ => none)))))))) := hD
    rw [← ef_11, ← eL_10] at hP hD
    have hm_12 : o ∈ L_10 := by rw [eL_10]; exact mem_l hlo.1
    have ho_13 : f_11 o = .inr (0, [.int mc, .ref te, .int nz]) := by rw [ef_11, va_up_ne _ _ (ne_of_in hlo.1 hnew_9)]; exact hlo.2
    have hm_14 : q_6 ∈ L_10 := by rw [eL_10]; exact mem_r
    have ho_15 : f_11 q_6 = .inl (cO, N2_8, .inr (.inr (.inr (.inr (fun _ => none))))) := by rw [ef_11, va_up_self]
    have hP : va_P (dC, dI) vwCl (([] : va_W) ++ va_pl L_10 f_11) H := hP
    have hD : va_D A (([] : va_W) ++ va_pl L_10 f_11) := hD
    refine W.widen (k := 1) (n := 200) (Nat.le_of_ble_eq_true rfl) (by omega) ?_
    refine lv_dup_x1 hx hb dJx4a65c_grow_92f84_55 rfl rfl ?_
    obtain ⟨k9_16, hk9_16⟩ : ∃ k : Nat, (([] : va_W) ++ va_pl L_10 f_11)[k]? = some (o, .inr (0, [.int mc, .ref te, .int nz])) := pl_at hm_12 ho_13
    have hDo_17 := hD
    refine va_put (D := (dC, dI)) (ci := 0) (v := .ref q_6) (ty := .array (.object "java/lang/Object")) (C := RJx4a65c) (T := TJx4a65c) (N := 3) hx hb hts iw_Jx4a65c_grow_92f84_Jx4a65c tyJx4a65c tyJx4a65c_ok nmJx4a65c hown hK hP hD hS k9_16 hk9_16 rfl 1 (by decide) (hts (.fieldLink RJx4a65c 9 "java/util/ArrayList" "elementData" "[Ljava/lang/Object;") (by decide +kernel)) (fun _ h9 => h9) rfl (by decide +kernel) rfl rfl (Nat.le_of_ble_eq_true rfl) dJx4a65c_grow_92f84_56 (fun H locs hP hD hS => ?_)
    have hP : va_P (dC, dI) vwCl (List.set (([] : va_W) ++ va_pl L_10 f_11) k9_16 (o, .inr (0, [.int mc, .ref q_6, .int nz]))) H := hP
    have hD : va_D A (List.set (([] : va_W) ++ va_pl L_10 f_11) k9_16 (o, .inr (0, [.int mc, .ref q_6, .int nz]))) := hD
    rw [pl_set hDo_17 hm_12 ho_13 hk9_16] at hP hD
    obtain ⟨f_18, ef_18⟩ : ∃ z : Nat → va_E, z = va_up f_11 o (.inr (0, [.int mc, .ref q_6, .int nz])) := ⟨_, rfl⟩
    rw [← ef_18] at hP hD
    have ho_19 : f_18 o = .inr (0, [.int mc, .ref q_6, .int nz]) := by rw [ef_18, va_up_self]
    have ho_20 : f_18 q_6 = .inl (cO, N2_8, .inr (.inr (.inr (.inr (fun _ => none))))) := by rw [ef_18, va_up_ne _ _ (pl_ne (ho_15) (ho_13) (fun z => by cases z))]; exact ho_15
    have hP : va_P (dC, dI) vwCl (([] : va_W) ++ va_pl L_10 f_18) H := hP
    have hD : va_D A (([] : va_W) ++ va_pl L_10 f_18) := hD
    subst ef_18
    subst eL_10
    subst ef_11
    try simp only [va_up_up] at hP hD
    have hP9 : va_P (dC, dI) vwCl (([] : va_W) ++ va_pl (L ++ [q_6]) (va_up (va_up f q_6 (rowE cO N2_8 (fun _ => none))) o (lstE mc q_6 nz))) H := va_P.part (X := ([] : va_W)) hP [] rfl
    have hD9 : va_D A (([] : va_W) ++ va_pl (L ++ [q_6]) (va_up (va_up f q_6 (rowE cO N2_8 (fun _ => none))) o (lstE mc q_6 nz))) := va_D.part (X := ([] : va_W)) hD [] (by decide) rfl
    have hK9 := hK.sub (tys' := [(cO, .object "java/lang/Object")]) [0] rfl
    refine W.widen (k := 1) (n := 200) (Nat.le_of_ble_eq_true rfl) (Nat.le_of_ble_eq_true rfl) ?_
    exact W.aret (v := .ref q_6) hx hb hr (Or.inr ⟨_, rfl⟩) (Or.inr ⟨_, rfl⟩) (fun t ht hW => ⟨⟨(N2_8, (fun _ => none)), q_6, rfl, (by (try dsimp only); omega), ⟨by rw [ht]; exact hP9, va_K.moved hW.alike hK9, hD9⟩⟩, hS.F ht⟩) hS.2.2 dJx4a65c_grow_92f84_59
set_option maxHeartbeats 4000000 in
set_option maxRecDepth 100000 in
/-- ArrayList.grow(int) -/
theorem c_Jx4a65c_grow_92f84_a (l : Launch) (dC : Nat → ClassId) (dI : Nat → Nat → Nat) (sz : Nat) (te : Nat) (ea : Nat) (so : Nat) (mi : Nat) (L : List Nat) (f : Nat → va_E) (o : Nat) (mc : Int32) (nz : Int32) (ar : Nat) (N : Nat) (r : Nat → Option Nat) (cO : ClassId) (b0 : Int32) (i_b0 : 2 ≤ b0.toInt ∧ b0.toInt ≤ 101) (hN0 : 1 ≤ N) (hN1 : N ≤ 100) (hb0 : b0.toInt = (N : Int) + 1) (hlo : o ∈ L ∧ f o = .inr (0, [.int mc, .ref ar, .int nz])) (harr : ar ∈ L ∧ f ar = .inl (cO, N, .inr (.inr (.inr (.inr r))))) (hels : Els L f N r) : Met l yJx4a65c_grow_92f84 wsJx4a65c_grow_92f84 ({ frames := 3, cells := 1, slots := 200, locals := 104 }) (va_Pc [.ref o, .int b0] (fun U => U.heap.size = sz ∧ va_P (dC, dI) vwCl (([] : va_W) ++ va_pl L f) U.heap ∧ va_K (dC, dI) vwCl [(cO, .object "java/lang/Object")] U ∧ NW U ∧ va_D (fun _ => True) (([] : va_W) ++ va_pl L f) ∧ Zs te ea so mi (va_A (([] : va_W) ++ va_pl L f) sz) U U.heap)) (va_Qr (fun (u : Nat × (Nat → Option Nat)) => (N + 1 ≤ u.1 ∧ u.1 ≤ 200) ∧ (∀ k, k < N → u.2 k = r k)) (fun u ra t => va_P (dC, dI) vwCl (([] : va_W) ++ va_pl (L ++ [ra]) (va_up (va_up f ra (rowE cO u.1 u.2)) o (lstE mc ra nz))) t.heap ∧ va_K (dC, dI) vwCl [(cO, .object "java/lang/Object")] t ∧ va_D (va_A (([] : va_W) ++ va_pl L f) sz) (([] : va_W) ++ va_pl (L ++ [ra]) (va_up (va_up f ra (rowE cO u.1 u.2)) o (lstE mc ra nz)))) (va_A (([] : va_W) ++ va_pl L f) sz)) 1 200 (va_A (([] : va_W) ++ va_pl L f) sz) := by
  refine Met.ofW (cc := cJx4a65c_grow_92f84) (maxL := 4) (ret := (some (.array (.object "java/lang/Object")))) (by decide) rfl ?_
  intro p e s m args below meth c s₁ B hml hv
  obtain ⟨rfl, hsz, hP, hK, hN, hD0, hZ⟩ := hv
  have hx := B.exec
  have hb := B.bytes
  have hr := B.returns
  have hts := atoms_spec (ws := wsJx4a65c_grow_92f84) B.pre
  have hown : s.vm.findClass RJx4a65c = some m.cls := findClass_of_methodNamed B.named
  have hlocks := B.notSynchronized
  subst hsz
  have hD := hD0.self (sz := s.heap.size)
  generalize hAe : va_A (([] : va_W) ++ va_pl L f) s.heap.size = A at hD hZ ⊢
  have hA : ∀ q : Nat, s.heap.size ≤ q → A q := fun q h => by rw [← hAe]; exact Or.inr h
  have hS : va_S A s.heap s.heap [] := va_S.rf
  have hP : va_P (dC, dI) vwCl (([] : va_W) ++ va_pl L f) s.heap := hP
  have hl := lv_entry ([.ref o, .int b0]) (n := 4) (Nat.le_of_ble_eq_true rfl)
  rw [lg_entry_eq]
  generalize (lg_sl ([.ref o, .int b0]) ++ List.replicate (4 - (lg_sl ([.ref o, .int b0])).length) Slot.unset).toArray = ls at hl ⊢
  have hl : lv_has ls 4 [(0, .ref o), (1, .int b0)] := hl
  refine lv_aload_n hx hb dJx4a65c_grow_92f84_0 rfl (lv_at hl 0 rfl) ?_
  obtain ⟨k9_1, hk9_1⟩ : ∃ k : Nat, (([] : va_W) ++ va_pl L f)[k]? = some (o, .inr (0, [.int mc, .ref ar, .int nz])) := pl_at hlo.1 hlo.2
  refine va_get (D := (dC, dI)) (ci := 0) (v := .ref ar) (C := RJx4a65c) (T := TJx4a65c) (N := 3) hx hb hts iw_Jx4a65c_grow_92f84_Jx4a65c hown hK hP k9_1 hk9_1 rfl 1 (by decide) (hts (.fieldLink RJx4a65c 9 "java/util/ArrayList" "elementData" "[Ljava/lang/Object;") (by decide +kernel)) (fun _ h9 => h9) rfl dJx4a65c_grow_92f84_1 ?_
  obtain ⟨k9_2, hk9_2⟩ : ∃ k : Nat, (([] : va_W) ++ va_pl L f)[k]? = some (ar, .inl (cO, N, .inr (.inr (.inr (.inr r))))) := pl_at harr.1 harr.2
  refine va_alen (v := (nI N)) hx hb hK hP k9_2 0 hk9_2 rfl (by rfl) dJx4a65c_grow_92f84_4 ?_
  refine lv_topi (fun x_3 ex_3 => ?_)
  have tx_3 : x_3.toInt = (N : Int) := by rw [ex_3]; exact nI_toInt (by omega)
  refine lv_istore_n (lv' := [(2, .int x_3), (0, .ref o), (1, .int b0)]) hx hb dJx4a65c_grow_92f84_5 rfl hl (by decide) rfl (fun ls hl => ?_)
  refine lv_iload_n hx hb dJx4a65c_grow_92f84_6 rfl (lv_at hl 0 rfl) ?_
  refine lv_if_gt (tgt := 20) hx hb dJx4a65c_grow_92f84_7 (by decide) (fun c_4 => ?_) (fun c_4 => ?_)
  · skip
    have qc_4 : 0 < x_3.toInt := lt_k (by decide) rfl c_4
    refine lv_iload_n hx hb dJx4a65c_grow_92f84_20 rfl (lv_at hl 0 rfl) ?_
    refine lv_iload_n hx hb dJx4a65c_grow_92f84_21 rfl (lv_at hl 2 rfl) ?_
    refine lv_iload_n hx hb dJx4a65c_grow_92f84_22 rfl (lv_at hl 0 rfl) ?_
    refine lv_isub hx hb dJx4a65c_grow_92f84_23 ?_
    refine lv_topi (fun x_5 ex_5 => ?_)
    have tx_5 : x_5.toInt = b0.toInt - x_3.toInt := su_k ex_5 rfl rfl (by omega) (by omega)
    refine lv_iload_n hx hb dJx4a65c_grow_92f84_24 rfl (lv_at hl 0 rfl) ?_
    refine lv_iconst (v := 1) hx hb dJx4a65c_grow_92f84_25 (by decide) ?_
    refine lv_ishr hx hb dJx4a65c_grow_92f84_26 ?_
    refine lv_topi (fun x_6 ex_6 => ?_)
    have tx_6 : x_6.toInt = x_3.toInt / 2 := shr1_k ex_6 (by omega) (by omega)
    refine va_calli (va_runS (As := [.int x_3, .int x_5, .int x_6]) (rest := []) ⟨hx, hb, hml, hown, hts⟩ (c_J8_newLength_cabcc l s.heap.size x_3 x_5 x_6 ⟨(by omega), (by omega)⟩ ⟨(by omega), (by omega)⟩ ⟨(by omega), (by omega)⟩) (va_cwS 3 hts gJx4a65c_grow_92f84_J8_newLength_cabcc rfl rfl rfl (by decide +kernel) ⟨Nat.le_of_ble_eq_true rfl, Nat.le_of_ble_eq_true rfl⟩) ⟨fun a U g mk q => by obtain ⟨q0, q1⟩ := q; exact ⟨q0, q1⟩, fun U hU hW => ⟨rfl, congrArg Array.size hU⟩⟩ rfl rfl hl.1 rfl (lv_room (Nat.le_of_ble_eq_true rfl)) dJx4a65c_grow_92f84_27 ⟨(Nat.zero_le _), (Nat.zero_le _)⟩) hS (fun q _ h => ro_A hS hA q h) (ro_A hS hA) (fun r_7 u t H1 locs ht hvm k_8 hB hz1 hk1 hS => ?_)
    have hP := ro_P hk1 hP
    generalize H1 = H at hP hS ⊢
    try dsimp only at k_8
    obtain ⟨k_8, k_9⟩ := k_8
    refine lv_istore_n (lv' := [(3, .int r_7), (2, .int x_3), (0, .ref o), (1, .int b0)]) hx hb dJx4a65c_grow_92f84_30 rfl hl (by decide) rfl (fun ls hl => ?_)
    refine lv_aload_n hx hb dJx4a65c_grow_92f84_31 rfl (lv_at hl 2 rfl) ?_
    refine lv_aload_n hx hb dJx4a65c_grow_92f84_32 rfl (lv_at hl 2 rfl) ?_
    obtain ⟨k9_10, hk9_10⟩ : ∃ k : Nat, (([] : va_W) ++ va_pl L f)[k]? = some (o, .inr (0, [.int mc, .ref ar, .int nz])) := pl_at hlo.1 hlo.2
    refine va_get (D := (dC, dI)) (ci := 0) (v := .ref ar) (C := RJx4a65c) (T := TJx4a65c) (N := 3) hx hb hts iw_Jx4a65c_grow_92f84_Jx4a65c hown hK hP k9_10 hk9_10 rfl 1 (by decide) (hts (.fieldLink RJx4a65c 9 "java/util/ArrayList" "elementData" "[Ljava/lang/Object;") (by decide +kernel)) (fun _ h9 => h9) rfl dJx4a65c_grow_92f84_33 ?_
    refine lv_iload_n hx hb dJx4a65c_grow_92f84_36 rfl (lv_at hl 0 rfl) ?_
    have hPc : va_P (dC, dI) vwCl (([] : va_W) ++ va_pl L f) H := va_P.part (X := []) hP [] rfl
    have hDc : va_D A (([] : va_W) ++ va_pl L f) := va_D.part (X := []) hD [] (by decide) rfl
    have hKc := hK.sub (tys' := [(cO, .object "java/lang/Object")]) [0] rfl
    have hFc := va_freeP (X := []) (cx := []) hD hS hA [] rfl
    refine va_callr (va_runS (As := [.ref ar, .int r_7]) (rest := [.ref o]) ⟨hx, hb, hml, hown, hts⟩ (c_J7_copyOf_1904c l dC dI H.size te ea so mi L f ar N r cO r_7 ⟨(by omega), (by omega)⟩ (by omega) (by omega) ⟨harr.1, harr.2⟩ hels) (va_cwS 2 hts gJx4a65c_grow_92f84_J7_copyOf_1904c rfl rfl rfl (by decide +kernel) ⟨Nat.le_of_ble_eq_true rfl, Nat.le_of_ble_eq_true rfl⟩) ⟨fun a U g mk q => by obtain ⟨q0, q1, qP, qK, qN, qD, qZ⟩ := q; exact ⟨q0, q1, qP, va_K.moved (u := U) (U := U.calling g mk a) (Vm.Alike.refl U.vm) qK, NW.same (u := U) (U := U.calling g mk a) rfl qN, qD, Zs.moved (u := U) (U := U.calling g mk a) (Vm.Alike.refl U.vm) qZ⟩, fun U hU hW => ⟨rfl, by rw [hU], by rw [hU]; exact hPc, va_K.moved hW.alike hKc, NW.warm hW hN, hDc.weaken (fun _ _ _ _ => trivial), by rw [hU]; exact Zs.pass hZ hS.2.1 hFc hW.alike⟩⟩ rfl rfl hl.1 rfl (lv_room (Nat.le_of_ble_eq_true rfl)) dJx4a65c_grow_92f84_37 ⟨Nat.le_of_ble_eq_true rfl, Nat.le_of_ble_eq_true rfl⟩) hS (fun q _ h => hFc q h) hFc (fun u r_11 t H1 locs ht hvm k_12 hB hz1 hk1 hS => ?_)
    obtain ⟨u_13, u_14⟩ := u
    obtain ⟨hP1, hK1, hD1⟩ := hB
    rw [ht] at hP1
    have hK1 := va_K.moved hvm.symm hK1
    obtain ⟨hP, hD⟩ := va_joinP (X := []) (cx := []) (wr := []) (rx := []) hP hD [] [] rfl rfl (by decide) (by decide) hk1 hFc hP1 hD1
    generalize H1 = H at hP hS ⊢
    have hP : va_P (dC, dI) vwCl (([] : va_W) ++ va_pl (L ++ [r_11]) (va_up f r_11 (rowE cO u_13 u_14))) H := hP
    have hD : va_D A (([] : va_W) ++ va_pl (L ++ [r_11]) (va_up f r_11 (rowE cO u_13 u_14))) := hD
    have hnew_15 := pl_fresh (X := ([] : va_W)) hD
    obtain ⟨f_17, ef_17⟩ : ∃ z : Nat → va_E, z = va_up f r_11 (.inl (cO, u_13, .inr (.inr (.inr (.inr u_14))))) := ⟨_, rfl⟩
    obtain ⟨L_16, eL_16⟩ : ∃ z : List Nat, z = L ++ [r_11] := ⟨_, rfl⟩
    have hP : va_P (dC, dI) vwCl (([] : va_W) ++ va_pl (L ++ [r_11]) (va_up f r_11 (.inl (cO, u_13, .inr (.inr (.inr (.inr u_14))))))) H := hP
    have hD : va_D A (([] : va_W) ++ va_pl (L ++ [r_11]) (va_up f r_11 (.inl (cO, u_13, .inr (.inr (.inr (.inr u_14))))))) := hD
    rw [← ef_17, ← eL_16] at hP hD
    have hm_18 : o ∈ L_16 := by rw [eL_16]; exact mem_l hlo.1
    have ho_19 : f_17 o = .inr (0, [.int mc, .ref ar, .int nz]) := by rw [ef_17, va_up_ne _ _ (ne_of_in hlo.1 hnew_15)]; exact hlo.2
    have hm_20 : ar ∈ L_16 := by rw [eL_16]; exact mem_l harr.1
    have ho_21 : f_17 ar = .inl (cO, N, .inr (.inr (.inr (.inr r)))) := by rw [ef_17, va_up_ne _ _ (ne_of_in harr.1 hnew_15)]; exact harr.2
    have hm_22 : r_11 ∈ L_16 := by rw [eL_16]; exact mem_r
    have ho_23 : f_17 r_11 = .inl (cO, u_13, .inr (.inr (.inr (.inr u_14)))) := by rw [ef_17, va_up_self]
    have hq_24 : Els L_16 f_17 N r := by rw [eL_16, ef_17]; exact Els.push hels hnew_15
    have hP : va_P (dC, dI) vwCl (([] : va_W) ++ va_pl L_16 f_17) H := hP
    have hD : va_D A (([] : va_W) ++ va_pl L_16 f_17) := hD
    try dsimp only at k_12
    obtain ⟨k_12, k_25⟩ := k_12
    refine W.widen (k := 1) (n := 200) (Nat.le_of_ble_eq_true rfl) (Nat.le_of_ble_eq_true rfl) ?_
    refine lv_dup_x1 hx hb dJx4a65c_grow_92f84_40 rfl rfl ?_
    obtain ⟨k9_26, hk9_26⟩ : ∃ k : Nat, (([] : va_W) ++ va_pl L_16 f_17)[k]? = some (o, .inr (0, [.int mc, .ref ar, .int nz])) := pl_at hm_18 ho_19
    have hDo_27 := hD
    refine va_put (D := (dC, dI)) (ci := 0) (v := .ref r_11) (ty := .array (.object "java/lang/Object")) (C := RJx4a65c) (T := TJx4a65c) (N := 3) hx hb hts iw_Jx4a65c_grow_92f84_Jx4a65c tyJx4a65c tyJx4a65c_ok nmJx4a65c hown hK hP hD hS k9_26 hk9_26 rfl 1 (by decide) (hts (.fieldLink RJx4a65c 9 "java/util/ArrayList" "elementData" "[Ljava/lang/Object;") (by decide +kernel)) (fun _ h9 => h9) rfl (by decide +kernel) rfl rfl (Nat.le_of_ble_eq_true rfl) dJx4a65c_grow_92f84_41 (fun H locs hP hD hS => ?_)
    have hP : va_P (dC, dI) vwCl (List.set (([] : va_W) ++ va_pl L_16 f_17) k9_26 (o, .inr (0, [.int mc, .ref r_11, .int nz]))) H := hP
    have hD : va_D A (List.set (([] : va_W) ++ va_pl L_16 f_17) k9_26 (o, .inr (0, [.int mc, .ref r_11, .int nz]))) := hD
    rw [pl_set hDo_27 hm_18 ho_19 hk9_26] at hP hD
    obtain ⟨f_28, ef_28⟩ : ∃ z : Nat → va_E, z = va_up f_17 o (.inr (0, [.int mc, .ref r_11, .int nz])) := ⟨_, rfl⟩
    rw [← ef_28] at hP hD
    have ho_29 : f_28 o = .inr (0, [.int mc, .ref r_11, .int nz]) := by rw [ef_28, va_up_self]
    have ho_30 : f_28 ar = .inl (cO, N, .inr (.inr (.inr (.inr r)))) := by rw [ef_28, va_up_ne _ _ (pl_ne (ho_21) (ho_19) (fun z => by cases z))]; exact ho_21
    have ho_31 : f_28 r_11 = .inl (cO, u_13, .inr (.inr (.inr (.inr u_14)))) := by rw [ef_28, va_up_ne _ _ (pl_ne (ho_23) (ho_19) (fun z => by cases z))]; exact ho_23
    have hP : va_P (dC, dI) vwCl (([] : va_W) ++ va_pl L_16 f_28) H := hP
    have hD : va_D A (([] : va_W) ++ va_pl L_16 f_28) := hD
    subst ef_28
    subst eL_16
    subst ef_17
    try simp only [va_up_up] at hP hD
    have hP9 : va_P (dC, dI) vwCl (([] : va_W) ++ va_pl (L ++ [r_11]) (va_up (va_up f r_11 (rowE cO u_13 u_14)) o (lstE mc r_11 nz))) H := va_P.part (X := ([] : va_W)) hP [] rfl
    have hD9 : va_D A (([] : va_W) ++ va_pl (L ++ [r_11]) (va_up (va_up f r_11 (rowE cO u_13 u_14)) o (lstE mc r_11 nz))) := va_D.part (X := ([] : va_W)) hD [] (by decide) rfl
    have hK9 := hK.sub (tys' := [(cO, .object "java/lang/Object")]) [0] rfl
    refine W.widen (k := 1) (n := 200) (Nat.le_of_ble_eq_true rfl) (Nat.le_of_ble_eq_true rfl) ?_
    exact W.aret (v := .ref r_11) hx hb hr (Or.inr ⟨_, rfl⟩) (Or.inr ⟨_, rfl⟩) (fun t ht hW => ⟨⟨(u_13, u_14), r_11, rfl, ⟨(by (try dsimp only); omega), k_25⟩, ⟨by rw [ht]; exact hP9, va_K.moved hW.alike hK9, hD9⟩⟩, hS.F ht⟩) hS.2.2 dJx4a65c_grow_92f84_44
  · skip
    have qc_4 : x_3.toInt ≤ 0 := nlt_k (by decide) rfl c_4
    exfalso
    omega
set_option maxRecDepth 20000 in
theorem iw_Jx4a65c_grow_d5877_Jx4a65c : ∀ w ∈ wsJx4a65c0, w ∈ wsJx4a65c_grow_d5877 := fun w h => (List.mem_cons_of_mem _ (List.mem_append_right _ h))
set_option maxHeartbeats 4000000 in
set_option maxRecDepth 100000 in
/-- ArrayList.grow() of a fresh list -/
theorem c_Jx4a65c_grow_d5877_f (l : Launch) (dC : Nat → ClassId) (dI : Nat → Nat → Nat) (sz : Nat) (te : Nat) (ea : Nat) (so : Nat) (mi : Nat) (L : List Nat) (f : Nat → va_E) (o : Nat) (mc : Int32) (nz : Int32) (cO : ClassId) (i_nz : 0 ≤ nz.toInt ∧ nz.toInt ≤ 0) (hlo : o ∈ L ∧ f o = .inr (0, [.int mc, .ref te, .int nz])) : Met l yJx4a65c_grow_d5877 wsJx4a65c_grow_d5877 ({ frames := 2, cells := 1, slots := 200, locals := 44 }) (va_Pc [.ref o] (fun U => U.heap.size = sz ∧ va_P (dC, dI) vwCl (([] : va_W) ++ va_pl L f) U.heap ∧ va_K (dC, dI) vwCl [(cO, .object "java/lang/Object")] U ∧ NW U ∧ va_D (fun _ => True) (([] : va_W) ++ va_pl L f) ∧ Zs te ea so mi (va_A (([] : va_W) ++ va_pl L f) sz) U U.heap)) (va_Qr (fun (u : Nat × (Nat → Option Nat)) => (u.1 = 10)) (fun u ra t => va_P (dC, dI) vwCl (([] : va_W) ++ va_pl (L ++ [ra]) (va_up (va_up f ra (rowE cO u.1 u.2)) o (lstE mc ra nz))) t.heap ∧ va_K (dC, dI) vwCl [(cO, .object "java/lang/Object")] t ∧ va_D (va_A (([] : va_W) ++ va_pl L f) sz) (([] : va_W) ++ va_pl (L ++ [ra]) (va_up (va_up f ra (rowE cO u.1 u.2)) o (lstE mc ra nz)))) (va_A (([] : va_W) ++ va_pl L f) sz)) 1 200 (va_A (([] : va_W) ++ va_pl L f) sz) := by
  refine Met.ofW (cc := cJx4a65c_grow_d5877) (maxL := 1) (ret := (some (.array (.object "java/lang/Object")))) (by decide) rfl ?_
  intro p e s m args below meth c s₁ B hml hv
  obtain ⟨rfl, hsz, hP, hK, hN, hD0, hZ⟩ := hv
  have hx := B.exec
  have hb := B.bytes
  have hr := B.returns
  have hts := atoms_spec (ws := wsJx4a65c_grow_d5877) B.pre
  have hown : s.vm.findClass RJx4a65c = some m.cls := findClass_of_methodNamed B.named
  have hlocks := B.notSynchronized
  subst hsz
  have hD := hD0.self (sz := s.heap.size)
  generalize hAe : va_A (([] : va_W) ++ va_pl L f) s.heap.size = A at hD hZ ⊢
  have hA : ∀ q : Nat, s.heap.size ≤ q → A q := fun q h => by rw [← hAe]; exact Or.inr h
  have hS : va_S A s.heap s.heap [] := va_S.rf
  have hP : va_P (dC, dI) vwCl (([] : va_W) ++ va_pl L f) s.heap := hP
  have hl := lv_entry ([.ref o]) (n := 1) (Nat.le_of_ble_eq_true rfl)
  rw [lg_entry_eq]
  generalize (lg_sl ([.ref o]) ++ List.replicate (1 - (lg_sl ([.ref o])).length) Slot.unset).toArray = ls at hl ⊢
  have hl : lv_has ls 1 [(0, .ref o)] := hl
  refine lv_aload_n hx hb dJx4a65c_grow_d5877_0 rfl (lv_at hl 0 rfl) ?_
  refine lv_aload_n hx hb dJx4a65c_grow_d5877_1 rfl (lv_at hl 0 rfl) ?_
  obtain ⟨k9_1, hk9_1⟩ : ∃ k : Nat, (([] : va_W) ++ va_pl L f)[k]? = some (o, .inr (0, [.int mc, .ref te, .int nz])) := pl_at hlo.1 hlo.2
  refine va_get (D := (dC, dI)) (ci := 0) (v := .int nz) (C := RJx4a65c) (T := TJx4a65c) (N := 3) hx hb hts iw_Jx4a65c_grow_d5877_Jx4a65c hown hK hP k9_1 hk9_1 rfl 2 (by decide) (hts (.fieldLink RJx4a65c 48 "java/util/ArrayList" "size" "I") (by decide +kernel)) (fun _ h9 => h9) rfl dJx4a65c_grow_d5877_2 ?_
  refine lv_iconst (v := 1) hx hb dJx4a65c_grow_d5877_5 (by decide) ?_
  refine lv_iadd hx hb dJx4a65c_grow_d5877_6 ?_
  refine lv_topi (fun x_2 ex_2 => ?_)
  have tx_2 : x_2.toInt = nz.toInt + 1 := ad_k ex_2 rfl (by decide) (by omega) (by omega)
  have hPc : va_P (dC, dI) vwCl (([] : va_W) ++ va_pl L f) s.heap := va_P.part (X := []) hP [] rfl
  have hDc : va_D A (([] : va_W) ++ va_pl L f) := va_D.part (X := []) hD [] (by decide) rfl
  have hKc := hK.sub (tys' := [(cO, .object "java/lang/Object")]) [0] rfl
  have hFc := va_freeP (X := []) (cx := []) hD hS hA [] rfl
  obtain ⟨k8_3, hk8_3⟩ : ∃ k : Nat, (([] : va_W) ++ va_pl L f)[k]? = some (o, .inr (0, [.int mc, .ref te, .int nz])) := pl_at hlo.1 hlo.2
  refine va_callr (va_runV (As := [.int x_2]) (rest := []) ⟨hx, hb, hml, hown, hts⟩ (c_Jx4a65c_grow_92f84_f l dC dI s.heap.size te ea so mi L f o mc nz cO x_2 ⟨(by omega), (by omega)⟩ ⟨hlo.1, hlo.2⟩) (cwV 1 hts gJx4a65c_grow_d5877_Jx4a65c_grow_92f84 rfl rfl rfl (by decide +kernel) ⟨Nat.le_of_ble_eq_true rfl, Nat.le_of_ble_eq_true rfl⟩) ⟨fun a U g mk q => by obtain ⟨q0, q1, qP, qK, qN, qD, qZ⟩ := q; exact ⟨q0, q1, qP, va_K.moved (u := U) (U := U.calling g mk a) (Vm.Alike.refl U.vm) qK, NW.same (u := U) (U := U.calling g mk a) rfl qN, qD, Zs.moved (u := U) (U := U.calling g mk a) (Vm.Alike.refl U.vm) qZ⟩, va_recv hKc hPc (ci := 0) (q0 := k8_3) rfl hk8_3, fun U hU hW => ⟨rfl, by rw [hU], by rw [hU]; exact hPc, va_K.moved hW.alike hKc, NW.warm hW hN, hDc.weaken (fun _ _ _ _ => trivial), by rw [hU]; exact Zs.pass hZ hS.2.1 hFc hW.alike⟩⟩ rfl rfl hl.1 rfl (lv_room (Nat.le_of_ble_eq_true rfl)) dJx4a65c_grow_d5877_7 ⟨Nat.le_of_ble_eq_true rfl, Nat.le_of_ble_eq_true rfl⟩) hS (fun q _ h => hFc q h) hFc (fun u r_4 t H1 locs ht hvm k_5 hB hz1 hk1 hS => ?_)
  obtain ⟨u_6, u_7⟩ := u
  obtain ⟨hP1, hK1, hD1⟩ := hB
  rw [ht] at hP1
  have hK1 := va_K.moved hvm.symm hK1
  obtain ⟨hP, hD⟩ := va_joinP (X := []) (cx := []) (wr := []) (rx := []) hP hD [] [] rfl rfl (by decide) (by decide) hk1 hFc hP1 hD1
  generalize H1 = H at hP hS ⊢
  have hP : va_P (dC, dI) vwCl (([] : va_W) ++ va_pl (L ++ [r_4]) (va_up (va_up f r_4 (rowE cO u_6 u_7)) o (lstE mc r_4 nz))) H := hP
  have hD : va_D A (([] : va_W) ++ va_pl (L ++ [r_4]) (va_up (va_up f r_4 (rowE cO u_6 u_7)) o (lstE mc r_4 nz))) := hD
  have hnew_8 := pl_fresh (X := ([] : va_W)) hD
  obtain ⟨f_9, ef_9⟩ : ∃ z : Nat → va_E, z = va_up f r_4 (.inl (cO, u_6, .inr (.inr (.inr (.inr u_7))))) := ⟨_, rfl⟩
  obtain ⟨L_11, eL_11⟩ : ∃ z : List Nat, z = L ++ [r_4] := ⟨_, rfl⟩
  obtain ⟨f_10, ef_10⟩ : ∃ z : Nat → va_E, z = va_up f_9 o (.inr (0, [.int mc, .ref r_4, .int nz])) := ⟨_, rfl⟩
  have hP : va_P (dC, dI) vwCl (([] : va_W) ++ va_pl (L ++ [r_4]) (va_up (va_up f r_4 (.inl (cO, u_6, .inr (.inr (.inr (.inr u_7)))))) o (.inr (0, [.int mc, .ref r_4, .int nz])))) H := hP
  have hD : va_D A (([] : va_W) ++ va_pl (L ++ [r_4]) (va_up (va_up f r_4 (.inl (cO, u_6, .inr (.inr (.inr (.inr u_7)))))) o (.inr (0, [.int mc, .ref r_4, .int nz])))) := hD
  rw [← ef_9, ← ef_10, ← eL_11] at hP hD
  have hm_12 : o ∈ L_11 := by rw [eL_11]; exact mem_l hlo.1
  have ho_13 : f_10 o = .inr (0, [.int mc, .ref r_4, .int nz]) := by rw [ef_10, va_up_self]
  have hm_14 : r_4 ∈ L_11 := by rw [eL_11]; exact mem_r
  have ho_15 : f_10 r_4 = .inl (cO, u_6, .inr (.inr (.inr (.inr u_7)))) := by rw [ef_10, va_up_ne _ _ (fun z => ne_of_in hlo.1 hnew_8 z.symm), ef_9, va_up_self]
  have hP : va_P (dC, dI) vwCl (([] : va_W) ++ va_pl L_11 f_10) H := hP
  have hD : va_D A (([] : va_W) ++ va_pl L_11 f_10) := hD
  try dsimp only at k_5
  refine W.widen (k := 1) (n := 200) (Nat.le_of_ble_eq_true rfl) (Nat.le_of_ble_eq_true rfl) ?_
  subst ef_10
  subst eL_11
  subst ef_9
  try simp only [va_up_up] at hP hD
  have hP9 : va_P (dC, dI) vwCl (([] : va_W) ++ va_pl (L ++ [r_4]) (va_up (va_up f r_4 (rowE cO u_6 u_7)) o (lstE mc r_4 nz))) H := va_P.part (X := ([] : va_W)) hP [] rfl
  have hD9 : va_D A (([] : va_W) ++ va_pl (L ++ [r_4]) (va_up (va_up f r_4 (rowE cO u_6 u_7)) o (lstE mc r_4 nz))) := va_D.part (X := ([] : va_W)) hD [] (by decide) rfl
  have hK9 := hK.sub (tys' := [(cO, .object "java/lang/Object")]) [0] rfl
  refine W.widen (k := 1) (n := 200) (Nat.le_of_ble_eq_true rfl) (Nat.le_of_ble_eq_true rfl) ?_
  exact W.aret (v := .ref r_4) hx hb hr (Or.inr ⟨_, rfl⟩) (Or.inr ⟨_, rfl⟩) (fun t ht hW => ⟨⟨(u_6, u_7), r_4, rfl, (by (try dsimp only); omega), ⟨by rw [ht]; exact hP9, va_K.moved hW.alike hK9, hD9⟩⟩, hS.F ht⟩) hS.2.2 dJx4a65c_grow_d5877_10
set_option maxHeartbeats 4000000 in
set_option maxRecDepth 100000 in
/-- ArrayList.grow() -/
theorem c_Jx4a65c_grow_d5877_a (l : Launch) (dC : Nat → ClassId) (dI : Nat → Nat → Nat) (sz : Nat) (te : Nat) (ea : Nat) (so : Nat) (mi : Nat) (L : List Nat) (f : Nat → va_E) (o : Nat) (mc : Int32) (nz : Int32) (ar : Nat) (N : Nat) (r : Nat → Option Nat) (cO : ClassId) (i_nz : 1 ≤ nz.toInt ∧ nz.toInt ≤ 100) (hN0 : 1 ≤ N) (hN1 : N ≤ 100) (hsz : nz.toInt = (N : Int)) (hlo : o ∈ L ∧ f o = .inr (0, [.int mc, .ref ar, .int nz])) (harr : ar ∈ L ∧ f ar = .inl (cO, N, .inr (.inr (.inr (.inr r))))) (hels : Els L f N r) : Met l yJx4a65c_grow_d5877 wsJx4a65c_grow_d5877 ({ frames := 4, cells := 1, slots := 200, locals := 127 }) (va_Pc [.ref o] (fun U => U.heap.size = sz ∧ va_P (dC, dI) vwCl (([] : va_W) ++ va_pl L f) U.heap ∧ va_K (dC, dI) vwCl [(cO, .object "java/lang/Object")] U ∧ NW U ∧ va_D (fun _ => True) (([] : va_W) ++ va_pl L f) ∧ Zs te ea so mi (va_A (([] : va_W) ++ va_pl L f) sz) U U.heap)) (va_Qr (fun (u : Nat × (Nat → Option Nat)) => (N + 1 ≤ u.1 ∧ u.1 ≤ 200) ∧ (∀ k, k < N → u.2 k = r k)) (fun u ra t => va_P (dC, dI) vwCl (([] : va_W) ++ va_pl (L ++ [ra]) (va_up (va_up f ra (rowE cO u.1 u.2)) o (lstE mc ra nz))) t.heap ∧ va_K (dC, dI) vwCl [(cO, .object "java/lang/Object")] t ∧ va_D (va_A (([] : va_W) ++ va_pl L f) sz) (([] : va_W) ++ va_pl (L ++ [ra]) (va_up (va_up f ra (rowE cO u.1 u.2)) o (lstE mc ra nz)))) (va_A (([] : va_W) ++ va_pl L f) sz)) 1 200 (va_A (([] : va_W) ++ va_pl L f) sz) := by
  refine Met.ofW (cc := cJx4a65c_grow_d5877) (maxL := 1) (ret := (some (.array (.object "java/lang/Object")))) (by decide) rfl ?_
  intro p e s m args below meth c s₁ B hml hv
  obtain ⟨rfl, hsz, hP, hK, hN, hD0, hZ⟩ := hv
  have hx := B.exec
  have hb := B.bytes
  have hr := B.returns
  have hts := atoms_spec (ws := wsJx4a65c_grow_d5877) B.pre
  have hown : s.vm.findClass RJx4a65c = some m.cls := findClass_of_methodNamed B.named
  have hlocks := B.notSynchronized
  subst hsz
  have hD := hD0.self (sz := s.heap.size)
  generalize hAe : va_A (([] : va_W) ++ va_pl L f) s.heap.size = A at hD hZ ⊢
  have hA : ∀ q : Nat, s.heap.size ≤ q → A q := fun q h => by rw [← hAe]; exact Or.inr h
  have hS : va_S A s.heap s.heap [] := va_S.rf
  have hP : va_P (dC, dI) vwCl (([] : va_W) ++ va_pl L f) s.heap := hP
  have hl := lv_entry ([.ref o]) (n := 1) (Nat.le_of_ble_eq_true rfl)
  rw [lg_entry_eq]
  generalize (lg_sl ([.ref o]) ++ List.replicate (1 - (lg_sl ([.ref o])).length) Slot.unset).toArray = ls at hl ⊢
  have hl : lv_has ls 1 [(0, .ref o)] := hl
  refine lv_aload_n hx hb dJx4a65c_grow_d5877_0 rfl (lv_at hl 0 rfl) ?_
  refine lv_aload_n hx hb dJx4a65c_grow_d5877_1 rfl (lv_at hl 0 rfl) ?_
  obtain ⟨k9_1, hk9_1⟩ : ∃ k : Nat, (([] : va_W) ++ va_pl L f)[k]? = some (o, .inr (0, [.int mc, .ref ar, .int nz])) := pl_at hlo.1 hlo.2
  refine va_get (D := (dC, dI)) (ci := 0) (v := .int nz) (C := RJx4a65c) (T := TJx4a65c) (N := 3) hx hb hts iw_Jx4a65c_grow_d5877_Jx4a65c hown hK hP k9_1 hk9_1 rfl 2 (by decide) (hts (.fieldLink RJx4a65c 48 "java/util/ArrayList" "size" "I") (by decide +kernel)) (fun _ h9 => h9) rfl dJx4a65c_grow_d5877_2 ?_
  refine lv_iconst (v := 1) hx hb dJx4a65c_grow_d5877_5 (by decide) ?_
  refine lv_iadd hx hb dJx4a65c_grow_d5877_6 ?_
  refine lv_topi (fun x_2 ex_2 => ?_)
  have tx_2 : x_2.toInt = nz.toInt + 1 := ad_k ex_2 rfl (by decide) (by omega) (by omega)
  have hPc : va_P (dC, dI) vwCl (([] : va_W) ++ va_pl L f) s.heap := va_P.part (X := []) hP [] rfl
  have hDc : va_D A (([] : va_W) ++ va_pl L f) := va_D.part (X := []) hD [] (by decide) rfl
  have hKc := hK.sub (tys' := [(cO, .object "java/lang/Object")]) [0] rfl
  have hFc := va_freeP (X := []) (cx := []) hD hS hA [] rfl
  obtain ⟨k8_3, hk8_3⟩ : ∃ k : Nat, (([] : va_W) ++ va_pl L f)[k]? = some (o, .inr (0, [.int mc, .ref ar, .int nz])) := pl_at hlo.1 hlo.2
  refine va_callr (va_runV (As := [.int x_2]) (rest := []) ⟨hx, hb, hml, hown, hts⟩ (c_Jx4a65c_grow_92f84_a l dC dI s.heap.size te ea so mi L f o mc nz ar N r cO x_2 ⟨(by omega), (by omega)⟩ (by omega) (by omega) (by omega) ⟨hlo.1, hlo.2⟩ ⟨harr.1, harr.2⟩ hels) (cwV 1 hts gJx4a65c_grow_d5877_Jx4a65c_grow_92f84 rfl rfl rfl (by decide +kernel) ⟨Nat.le_of_ble_eq_true rfl, Nat.le_of_ble_eq_true rfl⟩) ⟨fun a U g mk q => by obtain ⟨q0, q1, qP, qK, qN, qD, qZ⟩ := q; exact ⟨q0, q1, qP, va_K.moved (u := U) (U := U.calling g mk a) (Vm.Alike.refl U.vm) qK, NW.same (u := U) (U := U.calling g mk a) rfl qN, qD, Zs.moved (u := U) (U := U.calling g mk a) (Vm.Alike.refl U.vm) qZ⟩, va_recv hKc hPc (ci := 0) (q0 := k8_3) rfl hk8_3, fun U hU hW => ⟨rfl, by rw [hU], by rw [hU]; exact hPc, va_K.moved hW.alike hKc, NW.warm hW hN, hDc.weaken (fun _ _ _ _ => trivial), by rw [hU]; exact Zs.pass hZ hS.2.1 hFc hW.alike⟩⟩ rfl rfl hl.1 rfl (lv_room (Nat.le_of_ble_eq_true rfl)) dJx4a65c_grow_d5877_7 ⟨Nat.le_of_ble_eq_true rfl, Nat.le_of_ble_eq_true rfl⟩) hS (fun q _ h => hFc q h) hFc (fun u r_4 t H1 locs ht hvm k_5 hB hz1 hk1 hS => ?_)
  obtain ⟨u_6, u_7⟩ := u
  obtain ⟨hP1, hK1, hD1⟩ := hB
  rw [ht] at hP1
  have hK1 := va_K.moved hvm.symm hK1
  obtain ⟨hP, hD⟩ := va_joinP (X := []) (cx := []) (wr := []) (rx := []) hP hD [] [] rfl rfl (by decide) (by decide) hk1 hFc hP1 hD1
  generalize H1 = H at hP hS ⊢
  have hP : va_P (dC, dI) vwCl (([] : va_W) ++ va_pl (L ++ [r_4]) (va_up (va_up f r_4 (rowE cO u_6 u_7)) o (lstE mc r_4 nz))) H := hP
  have hD : va_D A (([] : va_W) ++ va_pl (L ++ [r_4]) (va_up (va_up f r_4 (rowE cO u_6 u_7)) o (lstE mc r_4 nz))) := hD
  have hnew_8 := pl_fresh (X := ([] : va_W)) hD
  obtain ⟨f_9, ef_9⟩ : ∃ z : Nat → va_E, z = va_up f r_4 (.inl (cO, u_6, .inr (.inr (.inr (.inr u_7))))) := ⟨_, rfl⟩
  obtain ⟨L_11, eL_11⟩ : ∃ z : List Nat, z = L ++ [r_4] := ⟨_, rfl⟩
  obtain ⟨f_10, ef_10⟩ : ∃ z : Nat → va_E, z = va_up f_9 o (.inr (0, [.int mc, .ref r_4, .int nz])) := ⟨_, rfl⟩
  have hP : va_P (dC, dI) vwCl (([] : va_W) ++ va_pl (L ++ [r_4]) (va_up (va_up f r_4 (.inl (cO, u_6, .inr (.inr (.inr (.inr u_7)))))) o (.inr (0, [.int mc, .ref r_4, .int nz])))) H := hP
  have hD : va_D A (([] : va_W) ++ va_pl (L ++ [r_4]) (va_up (va_up f r_4 (.inl (cO, u_6, .inr (.inr (.inr (.inr u_7)))))) o (.inr (0, [.int mc, .ref r_4, .int nz])))) := hD
  rw [← ef_9, ← ef_10, ← eL_11] at hP hD
  have hm_12 : o ∈ L_11 := by rw [eL_11]; exact mem_l hlo.1
  have ho_13 : f_10 o = .inr (0, [.int mc, .ref r_4, .int nz]) := by rw [ef_10, va_up_self]
  have hm_14 : ar ∈ L_11 := by rw [eL_11]; exact mem_l harr.1
  have ho_15 : f_10 ar = .inl (cO, N, .inr (.inr (.inr (.inr r)))) := by rw [ef_10, va_up_ne _ _ (pl_ne (harr.2) (hlo.2) (fun z => by cases z)), ef_9, va_up_ne _ _ (ne_of_in harr.1 hnew_8)]; exact harr.2
  have hm_16 : r_4 ∈ L_11 := by rw [eL_11]; exact mem_r
  have ho_17 : f_10 r_4 = .inl (cO, u_6, .inr (.inr (.inr (.inr u_7)))) := by rw [ef_10, va_up_ne _ _ (fun z => ne_of_in hlo.1 hnew_8 z.symm), ef_9, va_up_self]
  have hP : va_P (dC, dI) vwCl (([] : va_W) ++ va_pl L_11 f_10) H := hP
  have hD : va_D A (([] : va_W) ++ va_pl L_11 f_10) := hD
  try dsimp only at k_5
  obtain ⟨k_5, k_18⟩ := k_5
  refine W.widen (k := 1) (n := 200) (Nat.le_of_ble_eq_true rfl) (Nat.le_of_ble_eq_true rfl) ?_
  subst ef_10
  subst eL_11
  subst ef_9
  try simp only [va_up_up] at hP hD
  have hP9 : va_P (dC, dI) vwCl (([] : va_W) ++ va_pl (L ++ [r_4]) (va_up (va_up f r_4 (rowE cO u_6 u_7)) o (lstE mc r_4 nz))) H := va_P.part (X := ([] : va_W)) hP [] rfl
  have hD9 : va_D A (([] : va_W) ++ va_pl (L ++ [r_4]) (va_up (va_up f r_4 (rowE cO u_6 u_7)) o (lstE mc r_4 nz))) := va_D.part (X := ([] : va_W)) hD [] (by decide) rfl
  have hK9 := hK.sub (tys' := [(cO, .object "java/lang/Object")]) [0] rfl
  refine W.widen (k := 1) (n := 200) (Nat.le_of_ble_eq_true rfl) (Nat.le_of_ble_eq_true rfl) ?_
  exact W.aret (v := .ref r_4) hx hb hr (Or.inr ⟨_, rfl⟩) (Or.inr ⟨_, rfl⟩) (fun t ht hW => ⟨⟨(u_6, u_7), r_4, rfl, ⟨(by (try dsimp only); omega), k_18⟩, ⟨by rw [ht]; exact hP9, va_K.moved hW.alike hK9, hD9⟩⟩, hS.F ht⟩) hS.2.2 dJx4a65c_grow_d5877_10
