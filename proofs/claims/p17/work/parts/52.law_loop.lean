set_option maxHeartbeats 4000000 in
set_option maxRecDepth 100000 in
/-- the law's loop, with as many calls as the script has left: it comes to its end with true -/
theorem law_loop {p : Program} {e : Env} {s : State} {m : MethodId} {below : List Frame} {meth : Method} {c : Code} (l : Launch) {b Ls : Nat} {xs : Nat → Int32} (hLs : Ls ≤ 4096) (C0 : lw_At p s m meth c b Ls xs) {A : Nat → Prop} (hA : ∀ q, s.heap.size ≤ q → A q) (hAb : ∀ q, A q → s.heap.size ≤ q) {dC : Nat → ClassId} {dI : Nat → Nat → Nat} {h0 sea pas fl fc lc ct ch hot dp m0 mfi mil mic mwi mmo mki mce mgo mwa mha mch mfo mca mor mro mra mpr mho mis mss msc msh te : Nat} {rr : Nat → Nat} {cZ cB cI cV cO : ClassId} {ea so mi : Nat} (hK : va_K (dC, dI) vwCl [(cZ, .boolean), (cB, .byte), (cI, .int), (cV, .array .byte), (cO, .object "java/lang/Object")] s) (hN : NW s) (hZ : Zs te ea so mi A s s.heap) : ∀ (t : Nat) (ii : Int32) (ck cn : Nat) (H : Heap) (locs : List Loc) (ls : Array Slot), 0 ≤ ii.toInt → ii.toInt ≤ 4096 → (Ls : Int) - ii.toInt ≤ 8 * (t : Int) → ck + 4 * t ≤ 10000 → cn + 220 * t ≤ 1000000 → Wor dC dI A h0 sea pas fl fc lc ct ch hot dp m0 mfi mil mic mwi mmo mki mce mgo mwa mha mch mfo mca mor mro mra mpr mho mis mss msc msh te rr cZ cB cI cV cO H → va_S A s.heap H locs → lv_has ls 4 [(3, .int ii), (2, .ref m0), (1, .ref h0), (0, .ref b)] → W p l e room_1 s m #[Value.ref b] below meth c H locs ck cn (lw_Z below #[Value.ref b] s) (F0 m 18 ls []) := by
  obtain ⟨hx, hb, hr, hml, hown, hts0, hX, hbl, hlocks, hgv⟩ := id C0
  have hb : c.code = cL_law := hb
  have hown : s.vm.findClass RL = some m.cls := hown
  have hts : ∀ w ∈ wsL_law, w.before #[Value.ref b] s = true := fun w hw => hts0 w (wsL_law_in w hw)
  have hbA : ¬ A b := fun h => Nat.not_le.mpr hbl (hAb b h)
  intro t
  induction t with
  | zero =>
    intro ii ck cn H locs ls hi0 hi9 hm hck hcn hW hS hl
    refine lv_iload_n hx hb dL_law_18 rfl (lv_at hl 0 rfl) ?_
    refine lv_aload_n hx hb dL_law_19 rfl (lv_at hl 3 rfl) ?_
    refine va_slen hx hb hX hbl hbA hS dL_law_20 ?_
    refine lv_topi (fun x_L ex_L => ?_)
    have tx_L : x_L.toInt = (Ls : Int) := by rw [ex_L]; exact nI_toInt (by omega)
    refine lv_bipush (v := 8) hx hb dL_law_21 (by decide) ?_
    refine lv_isub hx hb dL_law_23 ?_
    refine lv_topi (fun x_1 ex_1 => ?_)
    have tx_1 : x_1.toInt = x_L.toInt - 8 := su_k ex_1 rfl (by decide) (by omega) (by omega)
    refine lv_icmp_gt (tgt := 1163) hx hb dL_law_24 (by decide) (fun c_2 => ?_) (fun c_2 => ?_)
    · skip
      have qc_2 : x_1.toInt < ii.toInt := lt_k rfl rfl c_2
      refine lv_iconst (v := 1) hx hb dL_law_1163 (by decide) ?_
      refine va_forget (fun q hq => hAb _ (hS.2.2 q hq)) ?_
      refine W.widen (k := 600000) (n := 7302250) (by omega) (by omega) ?_
      exact lw_ret hx hb hr hlocks dL_law_1164
    · skip
      have qc_2 : ii.toInt ≤ x_1.toInt := nlt_k rfl rfl c_2
      exfalso
      omega
  | succ t ih =>
    intro ii ck cn H locs ls hi0 hi9 hm hck hcn hW hS hl
    have hW0 := hW
    refine hW _ (fun L f own cw n sa V oa ia nO OW nS SW xlf xhr xho xga xsg xpr xfa xls Kf Ct Lc Kh Kd vns vak Kwi Kmo Kki Kce Kgo Kwa Kha Kch Kfo Kca Kor Kro Kra Kpr Kho Kis Kss Ksc Ksh inv hns i_xhr i_xsg i_xho i_xga i_xpr i_xfa i_vns R_Kwi R_Kki R_Kce R_Kgo R_Kwa R_Kha R_Kch R_Kfo R_Kor R_Kro R_Kra R_Kpr R_Kss R_Ksc R_Ksh Wro c_n c_sh c_nw c_wi c_sg c_ss c_gs c_or c_h0 c_ng c_ak c_ch c_nm hP hD => ?_)
    refine lv_iload_n hx hb dL_law_18 rfl (lv_at hl 0 rfl) ?_
    refine lv_aload_n hx hb dL_law_19 rfl (lv_at hl 3 rfl) ?_
    refine va_slen hx hb hX hbl hbA hS dL_law_20 ?_
    refine lv_topi (fun x_L ex_L => ?_)
    have tx_L : x_L.toInt = (Ls : Int) := by rw [ex_L]; exact nI_toInt (by omega)
    refine lv_bipush (v := 8) hx hb dL_law_21 (by decide) ?_
    refine lv_isub hx hb dL_law_23 ?_
    refine lv_topi (fun x_3 ex_3 => ?_)
    have tx_3 : x_3.toInt = x_L.toInt - 8 := su_k ex_3 rfl (by decide) (by omega) (by omega)
    refine lv_icmp_gt (tgt := 1163) hx hb dL_law_24 (by decide) (fun c_4 => ?_) (fun c_4 => ?_)
    · skip
      have qc_4 : x_3.toInt < ii.toInt := lt_k rfl rfl c_4
      refine lv_iconst (v := 1) hx hb dL_law_1163 (by decide) ?_
      refine va_forget (fun q hq => hAb _ (hS.2.2 q hq)) ?_
      refine W.widen (k := 600000) (n := 7302250) (by omega) (by omega) ?_
      exact lw_ret hx hb hr hlocks dL_law_1164
    · skip
      have qc_4 : ii.toInt ≤ x_3.toInt := nlt_k rfl rfl c_4
      have hi1 : ii.toInt + 8 ≤ (Ls : Int) := by omega
      have hend : ∀ (H : Heap) (locs : List Loc) (ls : Array Slot), Wor dC dI A h0 sea pas fl fc lc ct ch hot dp m0 mfi mil mic mwi mmo mki mce mgo mwa mha mch mfo mca mor mro mra mpr mho mis mss msc msh te rr cZ cB cI cV cO H → va_S A s.heap H locs → lv_has ls 4 [(3, .int ii), (2, .ref m0), (1, .ref h0), (0, .ref b)] → W p l e room_1 s m #[Value.ref b] below meth c H locs (ck + 4) (cn + 220) (lw_Z below #[Value.ref b] s) (F0 m 1157 ls []) := by
        intro H locs ls hW hS hl
        obtain ⟨x_5, ex_5⟩ : ∃ y : Int32, y = ii + 8 := ⟨_, rfl⟩
        have tx_5 : x_5.toInt = ii.toInt + 8 := ad_k ex_5 rfl (by decide) (by omega) (by omega)
        refine lv_iinc (v := x_5) (lv' := [(3, .int x_5), (2, .ref m0), (1, .ref h0), (0, .ref b)]) hx hb dL_law_1157 hl (k := 0) rfl (by rw [ex_5]; rfl) (by decide) rfl (fun ls hl => ?_)
        refine lv_goto (tgt := 18) hx hb dL_law_1160 (by decide) ?_
        exact ih x_5 (ck + 4) (cn + 220) H locs ls (by omega) (by omega) (by omega) (by omega) (by omega) hW hS (lv_sub hl [0, 1, 2, 3] rfl)
      refine lv_aload_n hx hb dL_law_27 rfl (lv_at hl 3 rfl) ?_
      refine lv_iload_n hx hb dL_law_28 rfl (lv_at hl 0 rfl) ?_
      refine va_sld hx hb hX hbl hbA hS (in_k rfl (by omega) (by omega)) dL_law_29 ?_
      refine lv_topi (fun y_6 ey_6 => ?_)
      refine lv_bipush (v := 31) hx hb dL_law_30 (by decide) ?_
      refine lv_iand hx hb dL_law_32 ?_
      refine lv_topi (fun x_7 ex_7 => ?_)
      by_cases t_8 : x_7.toInt < 0 ∨ 28 < x_7.toInt
      · skip
        refine lv_tableOut (tgt := 1157) hx hb dL_law_33 t_8 (by decide) ?_
        refine W.widen (k := ck + 4) (n := cn + 220) (by omega) (by omega) ?_
        exact hend H locs ls hW0 hS (lv_sub hl [0, 1, 2, 3] rfl)
      · skip
        have v_9 : x_7 = 0 ∨ x_7 = 1 ∨ x_7 = 2 ∨ x_7 = 3 ∨ x_7 = 4 ∨ x_7 = 5 ∨ x_7 = 6 ∨ x_7 = 7 ∨ x_7 = 8 ∨ x_7 = 9 ∨ x_7 = 10 ∨ x_7 = 11 ∨ x_7 = 12 ∨ x_7 = 13 ∨ x_7 = 14 ∨ x_7 = 15 ∨ x_7 = 16 ∨ x_7 = 17 ∨ x_7 = 18 ∨ x_7 = 19 ∨ x_7 = 20 ∨ x_7 = 21 ∨ x_7 = 22 ∨ x_7 = 23 ∨ x_7 = 24 ∨ x_7 = 25 ∨ x_7 = 26 ∨ x_7 = 27 ∨ x_7 = 28 := by
          simp only [← Int32.toInt_inj, Int32.reduceToInt]
          omega
        clear t_8
        rcases v_9 with h_v_9 | h_v_9 | h_v_9 | h_v_9 | h_v_9 | h_v_9 | h_v_9 | h_v_9 | h_v_9 | h_v_9 | h_v_9 | h_v_9 | h_v_9 | h_v_9 | h_v_9 | h_v_9 | h_v_9 | h_v_9 | h_v_9 | h_v_9 | h_v_9 | h_v_9 | h_v_9 | h_v_9 | h_v_9 | h_v_9 | h_v_9 | h_v_9 | h_v_9
        · skip
          have qv_9 : x_7.toInt = 0 := by rw [h_v_9]; decide
          refine lv_tableIn (off := 131) (tgt := 164) hx hb dL_law_33 (by omega) (by omega) (by rw [qv_9]; decide) (by decide) ?_
          exact law_land l hLs C0 hA hAb hK hN hZ inv hns i_xhr i_xsg i_xho i_xga i_xpr i_xfa i_vns R_Kwi R_Kki R_Kce R_Kgo R_Kwa R_Kha R_Kch R_Kfo R_Kor R_Kro R_Kra R_Kpr R_Kss R_Ksc R_Ksh Wro c_n c_sh c_nw c_wi c_sg c_ss c_gs c_or c_h0 c_ng c_ak c_ch c_nm hP hD hS hi0 (by omega) (by omega) (by omega) ls (lv_sub hl [0, 1, 2, 3] rfl) hend
        · skip
          have qv_9 : x_7.toInt = 1 := by rw [h_v_9]; decide
          refine lv_tableIn (off := 180) (tgt := 213) hx hb dL_law_33 (by omega) (by omega) (by rw [qv_9]; decide) (by decide) ?_
          exact law_chart l hLs C0 hA hAb hK hN hZ inv hns i_xhr i_xsg i_xho i_xga i_xpr i_xfa i_vns R_Kwi R_Kki R_Kce R_Kgo R_Kwa R_Kha R_Kch R_Kfo R_Kor R_Kro R_Kra R_Kpr R_Kss R_Ksc R_Ksh Wro c_n c_sh c_nw c_wi c_sg c_ss c_gs c_or c_h0 c_ng c_ak c_ch c_nm hP hD hS hi0 (by omega) (by omega) (by omega) ls (lv_sub hl [0, 1, 2, 3] rfl) hend
        · skip
          have qv_9 : x_7.toInt = 2 := by rw [h_v_9]; decide
          refine lv_tableIn (off := 203) (tgt := 236) hx hb dL_law_33 (by omega) (by omega) (by rw [qv_9]; decide) (by decide) ?_
          exact law_wind l hLs C0 hA hAb hK hN hZ inv hns i_xhr i_xsg i_xho i_xga i_xpr i_xfa i_vns R_Kwi R_Kki R_Kce R_Kgo R_Kwa R_Kha R_Kch R_Kfo R_Kor R_Kro R_Kra R_Kpr R_Kss R_Ksc R_Ksh Wro c_n c_sh c_nw c_wi c_sg c_ss c_gs c_or c_h0 c_ng c_ak c_ch c_nm hP hD hS hi0 (by omega) (by omega) (by omega) ls (lv_sub hl [0, 1, 2, 3] rfl) hend
        · skip
          have qv_9 : x_7.toInt = 3 := by rw [h_v_9]; decide
          refine lv_tableIn (off := 246) (tgt := 279) hx hb dL_law_33 (by omega) (by omega) (by rw [qv_9]; decide) (by decide) ?_
          exact law_tear l hLs C0 hA hAb hK hN hZ inv hns i_xhr i_xsg i_xho i_xga i_xpr i_xfa i_vns R_Kwi R_Kki R_Kce R_Kgo R_Kwa R_Kha R_Kch R_Kfo R_Kor R_Kro R_Kra R_Kpr R_Kss R_Ksc R_Ksh Wro c_n c_sh c_nw c_wi c_sg c_ss c_gs c_or c_h0 c_ng c_ak c_ch c_nm hP hD hS hi0 (by omega) (by omega) (by omega) ls (lv_sub hl [0, 1, 2, 3] rfl) hend
        · skip
          have qv_9 : x_7.toInt = 4 := by rw [h_v_9]; decide
          refine lv_tableIn (off := 269) (tgt := 302) hx hb dL_law_33 (by omega) (by omega) (by rw [qv_9]; decide) (by decide) ?_
          exact law_copy l hLs C0 hA hAb hK hN hZ inv hns i_xhr i_xsg i_xho i_xga i_xpr i_xfa i_vns R_Kwi R_Kki R_Kce R_Kgo R_Kwa R_Kha R_Kch R_Kfo R_Kor R_Kro R_Kra R_Kpr R_Kss R_Ksc R_Ksh Wro c_n c_sh c_nw c_wi c_sg c_ss c_gs c_or c_h0 c_ng c_ak c_ch c_nm hP hD hS hi0 (by omega) (by omega) (by omega) ls (lv_sub hl [0, 1, 2, 3] rfl) hend
        · skip
          have qv_9 : x_7.toInt = 5 := by rw [h_v_9]; decide
          refine lv_tableIn (off := 332) (tgt := 365) hx hb dL_law_33 (by omega) (by omega) (by rw [qv_9]; decide) (by decide) ?_
          exact law_mean l hLs C0 hA hAb hK hN hZ inv hns i_xhr i_xsg i_xho i_xga i_xpr i_xfa i_vns R_Kwi R_Kki R_Kce R_Kgo R_Kwa R_Kha R_Kch R_Kfo R_Kor R_Kro R_Kra R_Kpr R_Kss R_Ksc R_Ksh Wro c_n c_sh c_nw c_wi c_sg c_ss c_gs c_or c_h0 c_ng c_ak c_ch c_nm hP hD hS hi0 (by omega) (by omega) (by omega) ls (lv_sub hl [0, 1, 2, 3] rfl) hend
        · skip
          have qv_9 : x_7.toInt = 6 := by rw [h_v_9]; decide
          refine lv_tableIn (off := 355) (tgt := 388) hx hb dL_law_33 (by omega) (by omega) (by rw [qv_9]; decide) (by decide) ?_
          exact law_ship l hLs C0 hA hAb hK hN hZ inv hns i_xhr i_xsg i_xho i_xga i_xpr i_xfa i_vns R_Kwi R_Kki R_Kce R_Kgo R_Kwa R_Kha R_Kch R_Kfo R_Kor R_Kro R_Kra R_Kpr R_Kss R_Ksc R_Ksh Wro c_n c_sh c_nw c_wi c_sg c_ss c_gs c_or c_h0 c_ng c_ak c_ch c_nm hP hD hS hi0 (by omega) (by omega) (by omega) ls (lv_sub hl [0, 1, 2, 3] rfl) hend
        · skip
          have qv_9 : x_7.toInt = 7 := by rw [h_v_9]; decide
          refine lv_tableIn (off := 398) (tgt := 431) hx hb dL_law_33 (by omega) (by omega) (by rw [qv_9]; decide) (by decide) ?_
          exact law_foul l hLs C0 hA hAb hK hN hZ inv hns i_xhr i_xsg i_xho i_xga i_xpr i_xfa i_vns R_Kwi R_Kki R_Kce R_Kgo R_Kwa R_Kha R_Kch R_Kfo R_Kor R_Kro R_Kra R_Kpr R_Kss R_Ksc R_Ksh Wro c_n c_sh c_nw c_wi c_sg c_ss c_gs c_or c_h0 c_ng c_ak c_ch c_nm hP hD hS hi0 (by omega) (by omega) (by omega) ls (lv_sub hl [0, 1, 2, 3] rfl) hend
        · skip
          have qv_9 : x_7.toInt = 8 := by rw [h_v_9]; decide
          refine lv_tableIn (off := 431) (tgt := 464) hx hb dL_law_33 (by omega) (by omega) (by rw [qv_9]; decide) (by decide) ?_
          exact law_told l hLs C0 hA hAb hK hN hZ inv hns i_xhr i_xsg i_xho i_xga i_xpr i_xfa i_vns R_Kwi R_Kki R_Kce R_Kgo R_Kwa R_Kha R_Kch R_Kfo R_Kor R_Kro R_Kra R_Kpr R_Kss R_Ksc R_Ksh Wro c_n c_sh c_nw c_wi c_sg c_ss c_gs c_or c_h0 c_ng c_ak c_ch c_nm hP hD hS hi0 (by omega) (by omega) (by omega) ls (lv_sub hl [0, 1, 2, 3] rfl) hend
        · skip
          have qv_9 : x_7.toInt = 9 := by rw [h_v_9]; decide
          refine lv_tableIn (off := 464) (tgt := 497) hx hb dL_law_33 (by omega) (by omega) (by rw [qv_9]; decide) (by decide) ?_
          exact law_mark l hLs C0 hA hAb hK hN hZ inv hns i_xhr i_xsg i_xho i_xga i_xpr i_xfa i_vns R_Kwi R_Kki R_Kce R_Kgo R_Kwa R_Kha R_Kch R_Kfo R_Kor R_Kro R_Kra R_Kpr R_Kss R_Ksc R_Ksh Wro c_n c_sh c_nw c_wi c_sg c_ss c_gs c_or c_h0 c_ng c_ak c_ch c_nm hP hD hS hi0 (by omega) (by omega) (by omega) ls (lv_sub hl [0, 1, 2, 3] rfl) hend
        · skip
          have qv_9 : x_7.toInt = 10 := by rw [h_v_9]; decide
          refine lv_tableIn (off := 497) (tgt := 530) hx hb dL_law_33 (by omega) (by omega) (by rw [qv_9]; decide) (by decide) ?_
          exact law_speed l hLs C0 hA hAb hK hN hZ inv hns i_xhr i_xsg i_xho i_xga i_xpr i_xfa i_vns R_Kwi R_Kki R_Kce R_Kgo R_Kwa R_Kha R_Kch R_Kfo R_Kor R_Kro R_Kra R_Kpr R_Kss R_Ksc R_Ksh Wro c_n c_sh c_nw c_wi c_sg c_ss c_gs c_or c_h0 c_ng c_ak c_ch c_nm hP hD hS hi0 (by omega) (by omega) (by omega) ls (lv_sub hl [0, 1, 2, 3] rfl) hend
        · skip
          have qv_9 : x_7.toInt = 11 := by rw [h_v_9]; decide
          refine lv_tableIn (off := 550) (tgt := 583) hx hb dL_law_33 (by omega) (by omega) (by rw [qv_9]; decide) (by decide) ?_
          exact law_order l hLs C0 hA hAb hK hN hZ inv hns i_xhr i_xsg i_xho i_xga i_xpr i_xfa i_vns R_Kwi R_Kki R_Kce R_Kgo R_Kwa R_Kha R_Kch R_Kfo R_Kor R_Kro R_Kra R_Kpr R_Kss R_Ksc R_Ksh Wro c_n c_sh c_nw c_wi c_sg c_ss c_gs c_or c_h0 c_ng c_ak c_ch c_nm hP hD hS hi0 (by omega) (by omega) (by omega) ls (lv_sub hl [0, 1, 2, 3] rfl) hend
        · skip
          have qv_9 : x_7.toInt = 12 := by rw [h_v_9]; decide
          refine lv_tableIn (off := 637) (tgt := 670) hx hb dL_law_33 (by omega) (by omega) (by rw [qv_9]; decide) (by decide) ?_
          exact law_home l hLs C0 hA hAb hK hN hZ inv hns i_xhr i_xsg i_xho i_xga i_xpr i_xfa i_vns R_Kwi R_Kki R_Kce R_Kgo R_Kwa R_Kha R_Kch R_Kfo R_Kor R_Kro R_Kra R_Kpr R_Kss R_Ksc R_Ksh Wro c_n c_sh c_nw c_wi c_sg c_ss c_gs c_or c_h0 c_ng c_ak c_ch c_nm hP hD hS hi0 (by omega) (by omega) (by omega) ls (lv_sub hl [0, 1, 2, 3] rfl) hend
        · skip
          have qv_9 : x_7.toInt = 13 := by rw [h_v_9]; decide
          refine lv_tableIn (off := 670) (tgt := 703) hx hb dL_law_33 (by omega) (by omega) (by rw [qv_9]; decide) (by decide) ?_
          exact law_run l hLs C0 hA hAb hK hN hZ inv hns i_xhr i_xsg i_xho i_xga i_xpr i_xfa i_vns R_Kwi R_Kki R_Kce R_Kgo R_Kwa R_Kha R_Kch R_Kfo R_Kor R_Kro R_Kra R_Kpr R_Kss R_Ksc R_Ksh Wro c_n c_sh c_nw c_wi c_sg c_ss c_gs c_or c_h0 c_ng c_ak c_ch c_nm hP hD hS hi0 (by omega) (by omega) (by omega) ls (lv_sub hl [0, 1, 2, 3] rfl) hend
        · skip
          have qv_9 : x_7.toInt = 14 := by rw [h_v_9]; decide
          refine lv_tableIn (off := 693) (tgt := 726) hx hb dL_law_33 (by omega) (by omega) (by rw [qv_9]; decide) (by decide) ?_
          exact law_first l hLs C0 hA hAb hK hN hZ inv hns i_xhr i_xsg i_xho i_xga i_xpr i_xfa i_vns R_Kwi R_Kki R_Kce R_Kgo R_Kwa R_Kha R_Kch R_Kfo R_Kor R_Kro R_Kra R_Kpr R_Kss R_Ksc R_Ksh Wro c_n c_sh c_nw c_wi c_sg c_ss c_gs c_or c_h0 c_ng c_ak c_ch c_nm hP hD hS hi0 (by omega) (by omega) (by omega) ls (lv_sub hl [0, 1, 2, 3] rfl) hend
        · skip
          have qv_9 : x_7.toInt = 15 := by rw [h_v_9]; decide
          refine lv_tableIn (off := 706) (tgt := 739) hx hb dL_law_33 (by omega) (by omega) (by rw [qv_9]; decide) (by decide) ?_
          exact law_least l hLs C0 hA hAb hK hN hZ inv hns i_xhr i_xsg i_xho i_xga i_xpr i_xfa i_vns R_Kwi R_Kki R_Kce R_Kgo R_Kwa R_Kha R_Kch R_Kfo R_Kor R_Kro R_Kra R_Kpr R_Kss R_Ksc R_Ksh Wro c_n c_sh c_nw c_wi c_sg c_ss c_gs c_or c_h0 c_ng c_ak c_ch c_nm hP hD hS hi0 (by omega) (by omega) (by omega) ls (lv_sub hl [0, 1, 2, 3] rfl) hend
        · skip
          have qv_9 : x_7.toInt = 16 := by rw [h_v_9]; decide
          refine lv_tableIn (off := 759) (tgt := 792) hx hb dL_law_33 (by omega) (by omega) (by rw [qv_9]; decide) (by decide) ?_
          exact law_sight l hLs C0 hA hAb hK hN hZ inv hns i_xhr i_xsg i_xho i_xga i_xpr i_xfa i_vns R_Kwi R_Kki R_Kce R_Kgo R_Kwa R_Kha R_Kch R_Kfo R_Kor R_Kro R_Kra R_Kpr R_Kss R_Ksc R_Ksh Wro c_n c_sh c_nw c_wi c_sg c_ss c_gs c_or c_h0 c_ng c_ak c_ch c_nm hP hD hS hi0 (by omega) (by omega) (by omega) ls (lv_sub hl [0, 1, 2, 3] rfl) hend
        · skip
          have qv_9 : x_7.toInt = 17 := by rw [h_v_9]; decide
          refine lv_tableIn (off := 802) (tgt := 835) hx hb dL_law_33 (by omega) (by omega) (by rw [qv_9]; decide) (by decide) ?_
          exact law_distance l hLs C0 hA hAb hK hN hZ inv hns i_xhr i_xsg i_xho i_xga i_xpr i_xfa i_vns R_Kwi R_Kki R_Kce R_Kgo R_Kwa R_Kha R_Kch R_Kfo R_Kor R_Kro R_Kra R_Kpr R_Kss R_Ksc R_Ksh Wro c_n c_sh c_nw c_wi c_sg c_ss c_gs c_or c_h0 c_ng c_ak c_ch c_nm hP hD hS hi0 (by omega) (by omega) (by omega) ls (lv_sub hl [0, 1, 2, 3] rfl) hend
        · skip
          have qv_9 : x_7.toInt = 18 := by rw [h_v_9]; decide
          refine lv_tableIn (off := 861) (tgt := 894) hx hb dL_law_33 (by omega) (by omega) (by rw [qv_9]; decide) (by decide) ?_
          exact law_ahead l hLs C0 hA hAb hK hN hZ inv hns i_xhr i_xsg i_xho i_xga i_xpr i_xfa i_vns R_Kwi R_Kki R_Kce R_Kgo R_Kwa R_Kha R_Kch R_Kfo R_Kor R_Kro R_Kra R_Kpr R_Kss R_Ksc R_Ksh Wro c_n c_sh c_nw c_wi c_sg c_ss c_gs c_or c_h0 c_ng c_ak c_ch c_nm hP hD hS hi0 (by omega) (by omega) (by omega) ls (lv_sub hl [0, 1, 2, 3] rfl) hend
        · skip
          have qv_9 : x_7.toInt = 19 := by rw [h_v_9]; decide
          refine lv_tableIn (off := 904) (tgt := 937) hx hb dL_law_33 (by omega) (by omega) (by rw [qv_9]; decide) (by decide) ?_
          exact law_charter l hLs C0 hA hAb hK hN hZ inv hns i_xhr i_xsg i_xho i_xga i_xpr i_xfa i_vns R_Kwi R_Kki R_Kce R_Kgo R_Kwa R_Kha R_Kch R_Kfo R_Kor R_Kro R_Kra R_Kpr R_Kss R_Ksc R_Ksh Wro c_n c_sh c_nw c_wi c_sg c_ss c_gs c_or c_h0 c_ng c_ak c_ch c_nm hP hD hS hi0 (by omega) (by omega) (by omega) ls (lv_sub hl [0, 1, 2, 3] rfl) hend
        · skip
          have qv_9 : x_7.toInt = 20 := by rw [h_v_9]; decide
          refine lv_tableIn (off := 947) (tgt := 980) hx hb dL_law_33 (by omega) (by omega) (by rw [qv_9]; decide) (by decide) ?_
          exact law_freight l hLs C0 hA hAb hK hN hZ inv hns i_xhr i_xsg i_xho i_xga i_xpr i_xfa i_vns R_Kwi R_Kki R_Kce R_Kgo R_Kwa R_Kha R_Kch R_Kfo R_Kor R_Kro R_Kra R_Kpr R_Kss R_Ksc R_Ksh Wro c_n c_sh c_nw c_wi c_sg c_ss c_gs c_or c_h0 c_ng c_ak c_ch c_nm hP hD hS hi0 (by omega) (by omega) (by omega) ls (lv_sub hl [0, 1, 2, 3] rfl) hend
        · skip
          have qv_9 : x_7.toInt = 21 := by rw [h_v_9]; decide
          refine lv_tableIn (off := 970) (tgt := 1003) hx hb dL_law_33 (by omega) (by omega) (by rw [qv_9]; decide) (by decide) ?_
          exact law_market l hLs C0 hA hAb hK hN hZ inv hns i_xhr i_xsg i_xho i_xga i_xpr i_xfa i_vns R_Kwi R_Kki R_Kce R_Kgo R_Kwa R_Kha R_Kch R_Kfo R_Kor R_Kro R_Kra R_Kpr R_Kss R_Ksc R_Ksh Wro c_n c_sh c_nw c_wi c_sg c_ss c_gs c_or c_h0 c_ng c_ak c_ch c_nm hP hD hS hi0 (by omega) (by omega) (by omega) ls (lv_sub hl [0, 1, 2, 3] rfl) hend
        · skip
          have qv_9 : x_7.toInt = 22 := by rw [h_v_9]; decide
          refine lv_tableIn (off := 1003) (tgt := 1036) hx hb dL_law_33 (by omega) (by omega) (by rw [qv_9]; decide) (by decide) ?_
          exact law_sale l hLs C0 hA hAb hK hN hZ inv hns i_xhr i_xsg i_xho i_xga i_xpr i_xfa i_vns R_Kwi R_Kki R_Kce R_Kgo R_Kwa R_Kha R_Kch R_Kfo R_Kor R_Kro R_Kra R_Kpr R_Kss R_Ksc R_Ksh Wro c_n c_sh c_nw c_wi c_sg c_ss c_gs c_or c_h0 c_ng c_ak c_ch c_nm hP hD hS hi0 (by omega) (by omega) (by omega) ls (lv_sub hl [0, 1, 2, 3] rfl) hend
        · skip
          have qv_9 : x_7.toInt = 23 := by rw [h_v_9]; decide
          refine lv_tableIn (off := 1026) (tgt := 1059) hx hb dL_law_33 (by omega) (by omega) (by rw [qv_9]; decide) (by decide) ?_
          exact law_meanPrice l hLs C0 hA hAb hK hN hZ inv hns i_xhr i_xsg i_xho i_xga i_xpr i_xfa i_vns R_Kwi R_Kki R_Kce R_Kgo R_Kwa R_Kha R_Kch R_Kfo R_Kor R_Kro R_Kra R_Kpr R_Kss R_Ksc R_Ksh Wro c_n c_sh c_nw c_wi c_sg c_ss c_gs c_or c_h0 c_ng c_ak c_ch c_nm hP hD hS hi0 (by omega) (by omega) (by omega) ls (lv_sub hl [0, 1, 2, 3] rfl) hend
        · skip
          have qv_9 : x_7.toInt = 24 := by rw [h_v_9]; decide
          refine lv_tableIn (off := 1039) (tgt := 1072) hx hb dL_law_33 (by omega) (by omega) (by rw [qv_9]; decide) (by decide) ?_
          exact law_asked l hLs C0 hA hAb hK hN hZ inv hns i_xhr i_xsg i_xho i_xga i_xpr i_xfa i_vns R_Kwi R_Kki R_Kce R_Kgo R_Kwa R_Kha R_Kch R_Kfo R_Kor R_Kro R_Kra R_Kpr R_Kss R_Ksc R_Ksh Wro c_n c_sh c_nw c_wi c_sg c_ss c_gs c_or c_h0 c_ng c_ak c_ch c_nm hP hD hS hi0 (by omega) (by omega) (by omega) ls (lv_sub hl [0, 1, 2, 3] rfl) hend
        · skip
          have qv_9 : x_7.toInt = 25 := by rw [h_v_9]; decide
          refine lv_tableIn (off := 1052) (tgt := 1085) hx hb dL_law_33 (by omega) (by omega) (by rw [qv_9]; decide) (by decide) ?_
          exact law_count l hLs C0 hA hAb hK hN hZ inv hns i_xhr i_xsg i_xho i_xga i_xpr i_xfa i_vns R_Kwi R_Kki R_Kce R_Kgo R_Kwa R_Kha R_Kch R_Kfo R_Kor R_Kro R_Kra R_Kpr R_Kss R_Ksc R_Ksh Wro c_n c_sh c_nw c_wi c_sg c_ss c_gs c_or c_h0 c_ng c_ak c_ch c_nm hP hD hS hi0 (by omega) (by omega) (by omega) ls (lv_sub hl [0, 1, 2, 3] rfl) hend
        · skip
          have qv_9 : x_7.toInt = 26 := by rw [h_v_9]; decide
          refine lv_tableIn (off := 1075) (tgt := 1108) hx hb dL_law_33 (by omega) (by omega) (by rw [qv_9]; decide) (by decide) ?_
          exact law_finding l hLs C0 hA hAb hK hN hZ inv hns i_xhr i_xsg i_xho i_xga i_xpr i_xfa i_vns R_Kwi R_Kki R_Kce R_Kgo R_Kwa R_Kha R_Kch R_Kfo R_Kor R_Kro R_Kra R_Kpr R_Kss R_Ksc R_Ksh Wro c_n c_sh c_nw c_wi c_sg c_ss c_gs c_or c_h0 c_ng c_ak c_ch c_nm hP hD hS hi0 (by omega) (by omega) (by omega) ls (lv_sub hl [0, 1, 2, 3] rfl) hend
        · skip
          have qv_9 : x_7.toInt = 27 := by rw [h_v_9]; decide
          refine lv_tableIn (off := 1088) (tgt := 1121) hx hb dL_law_33 (by omega) (by omega) (by rw [qv_9]; decide) (by decide) ?_
          exact law_findings l hLs C0 hA hAb hK hN hZ inv hns i_xhr i_xsg i_xho i_xga i_xpr i_xfa i_vns R_Kwi R_Kki R_Kce R_Kgo R_Kwa R_Kha R_Kch R_Kfo R_Kor R_Kro R_Kra R_Kpr R_Kss R_Ksc R_Ksh Wro c_n c_sh c_nw c_wi c_sg c_ss c_gs c_or c_h0 c_ng c_ak c_ch c_nm hP hD hS hi0 (by omega) (by omega) (by omega) ls (lv_sub hl [0, 1, 2, 3] rfl) hend
        · skip
          have qv_9 : x_7.toInt = 28 := by rw [h_v_9]; decide
          refine lv_tableIn (off := 1111) (tgt := 1144) hx hb dL_law_33 (by omega) (by omega) (by rw [qv_9]; decide) (by decide) ?_
          exact law_digest l hLs C0 hA hAb hK hN hZ inv hns i_xhr i_xsg i_xho i_xga i_xpr i_xfa i_vns R_Kwi R_Kki R_Kce R_Kgo R_Kwa R_Kha R_Kch R_Kfo R_Kor R_Kro R_Kra R_Kpr R_Kss R_Ksc R_Ksh Wro c_n c_sh c_nw c_wi c_sg c_ss c_gs c_or c_h0 c_ng c_ak c_ch c_nm hP hD hS hi0 (by omega) (by omega) (by omega) ls (lv_sub hl [0, 1, 2, 3] rfl) hend
