/-! ===== BEGIN words of one list among another's, by their places ===== -/
theorem goodIn_r {big : List Cond} (ws : List Cond) (ps : List Nat) (hp : ws = ps.filterMap (fun i => big[i]?)) (h : ws.all goodWord = true) : GoodIn big ws := by
  intro w hw
  have h1 := List.all_eq_true.mp h w hw
  rw [hp] at hw
  obtain ⟨i, -, hi⟩ := List.mem_filterMap.mp hw
  have hm : w ∈ big := by first | exact List.mem_of_getElem? hi | exact List.getElem?_mem hi
  exact ⟨hm, good_of_word h1⟩
theorem goodIn_app {big a b : List Cond} (ha : GoodIn big a) (hb : GoodIn big b) : GoodIn big (a ++ b) := fun w h => (List.mem_append.mp h).elim (ha w) (hb w)
theorem goodIn_ca {big a b : List Cond} {c : Cond} (ha : GoodIn big (c :: a)) (hb : GoodIn big b) : GoodIn big (c :: (a ++ b)) := fun w h => (List.mem_cons.mp h).elim (fun e => ha w (List.mem_cons.mpr (Or.inl e))) (fun h => (List.mem_append.mp h).elim (fun h => ha w (List.mem_cons.mpr (Or.inr h))) (hb w))
theorem goodIn_sub {big ws : List Cond} (hm : ∀ w ∈ ws, w ∈ big) (h : ws.all goodWord = true) : GoodIn big ws := fun w hw => ⟨hm w hw, good_of_word (List.all_eq_true.mp h w hw)⟩
/-! ===== END ===== -/

/-! ===== BEGIN new T[n][m]: the outer array a place, the inner ones among the pooled ===== -/
/-- f, but v at every address of l -/
def vr_up {α : Type} (f : Nat → α) (l : List Nat) (v : α) : Nat → α := fun a => if a ∈ l then v else f a
theorem vr_up_in {α : Type} {f : Nat → α} {l : List Nat} {v : α} {a : Nat} (h : a ∈ l) : vr_up f l v a = v := if_pos h
theorem vr_up_ne {α : Type} {f : Nat → α} {l : List Nat} {v : α} {a : Nat} (h : a ∉ l) : vr_up f l v a = f a := if_neg h
theorem vr_rows {L l : List Nat} {f : Nat → va_E} {e : va_E} (h : ∀ a, a ∈ l → a ∉ L) : va_pl L f ++ l.map (fun a => (a, e)) = va_pl (L ++ l) (vr_up f l e) := by
  unfold va_pl
  rw [List.map_append]
  congr 1
  · apply List.map_congr_left
    intro a ha
    rw [vr_up_ne (fun q => h a q ha)]
  · apply List.map_congr_left
    intro a ha
    rw [vr_up_in ha]
theorem vr_lay {X rows : va_W} {x : Nat × va_E} {pl : va_W} {D : va_G} {cl : List vw_C} {H : Heap} (hP : va_P D cl (((X ++ pl) ++ [x]) ++ rows) H) : va_P D cl ((X ++ [x]) ++ (pl ++ rows)) H := by
  rw [List.append_assoc (X ++ pl)] at hP
  have h := va_P.swap hP
  rw [← List.append_assoc X] at h
  have h2 := va_P.swap h
  rw [List.append_assoc (X ++ [x])] at h2
  exact h2
theorem vr_layD {X rows : va_W} {x : Nat × va_E} {pl : va_W} {A : Nat → Prop} (hD : va_D A (((X ++ pl) ++ [x]) ++ rows)) : va_D A ((X ++ [x]) ++ (pl ++ rows)) := by
  rw [List.append_assoc (X ++ pl)] at hD
  have h := va_D.swap hD
  rw [← List.append_assoc X] at h
  have h2 := va_D.swap h
  rw [List.append_assoc (X ++ [x])] at h2
  exact h2
theorem vr_outer (c : ClassId) (N h0 : Nat) : ∀ i : Nat, Jvm.Free.Multi.outerC c N h0 i = arrV c N (fun j => va_rf (if j < i then some (h0 + 1 + j) else none))
  | 0 => by
    show ({ cls := c, slots := Array.replicate N .null, vm := .none } : Cell) = _
    rw [arrV_new]
    refine congrArg (arrV c N) (funext fun j => ?_)
    simp [va_rf]
  | i + 1 => by
    show (Jvm.Free.Multi.outerC c N h0 i).setSlot i (.ref (h0 + 1 + i)) = _
    rw [vr_outer c N h0 i, arrV_store]
    refine congrArg (arrV c N) (funext fun j => ?_)
    by_cases e : j = i
    · subst e
      simp [updV, va_rf]
    · by_cases h : j < i
      · simp [updV, e, h, Nat.lt_succ_of_lt h]
      · simp [updV, e, h, show ¬ j < i + 1 by omega]
section VGM
variable {p : Program} {l : Launch} {e : Env} {R : Room} {s : State} {m : MethodId} {args : Array Value} {below : List Frame} {meth : Method} {c : Code} {H : Heap} {locs : List Loc} {cells slots : Nat} {Q : State → Prop}
variable {cc : ByteArray} {pc : Nat} {ls : Array Slot} {rest : List Value} {D : va_G} {cl : List vw_C} {A : Nat → Prop} {a : Nat} {tys : List (ClassId × FieldType)} {ws : va_W} {H0 : Heap}
theorem va_mna {X : va_W} {L : List Nat} {f : Nat → va_E} {cc : ByteArray} (hexec : p.tables.exec = Jvm.exec) (hb : c.code = cc) {own : String} {index : Nat} {ty : FieldType} {cy : ClassId} (hown : s.vm.findClass own = some m.cls) (hclink : (Cond.classLink own index ("[" ++ (FieldType.array ty).toString)).before args s = true) (hover : va_AOA ty s) (harr : (Cond.arrayClass ty).before args s = true) (hcy : s.vm.findClass (FieldType.array ty).toString = some cy)
    (hK : va_K D cl tys s) (hP : va_P D cl (X ++ va_pl L f) H) (hD : va_D A (X ++ va_pl L f)) (hS : va_S A H0 H locs) (hA : ∀ q, H0.size ≤ q → A q) {n k : Int32} {N' K' : Nat} {z : vp_A} (hn : ¬ n < 0) (hk : ¬ k < 0) (hN : n.toNatClampNeg = N') (hM : k.toNatClampNeg = K')
    (hb1 : N' * 4 ≤ 536870912) (hb2 : K' * componentBytes ty ≤ 536870912) (hb3 : K' ≤ 536870912) (hdf : fits ty (defaultValue ty) = true) (hdd : (defaultValue ty).isDefault = true) (hcells : cells + (1 + N') ≤ R.cells) (hslots : slots + (N' + N' * K') ≤ R.slots) (hz : ∀ c : ClassId, Jvm.Free.Multi.innerC c K' (defaultValue ty) = vp_cell c z) (hdg : decode cc pc = .ok (.multianewarray index 2, 4))
    (kk : ∀ (q : Nat) (r : Nat → Nat) (cA : ClassId) (H1 : Heap), (∀ i j : Nat, i < N' → j < N' → r i = r j → i = j) → (∀ i : Nat, i < N' → r i ∉ L) → va_K D cl (tys ++ [(cA, .array ty)]) s →
      va_P D cl ((X ++ [(q, .inl (cA, N', .inr (.inr (.inr (.inr (fun i => if i < N' then some (r i) else none))))))]) ++ va_pl (L ++ (List.range N').map r) (vr_up f ((List.range N').map r) (.inl (cy, z)))) H1 → va_D A ((X ++ [(q, .inl (cA, N', .inr (.inr (.inr (.inr (fun i => if i < N' then some (r i) else none))))))]) ++ va_pl (L ++ (List.range N').map r) (vr_up f ((List.range N').map r) (.inl (cy, z)))) → va_S A H0 H1 locs →
      W p l e R s m args below meth c H1 locs (cells + 1 + N') (slots + N' + N' * K') Q (F0 m (pc + 4) ls (.ref q :: rest))) : W p l e R s m args below meth c H locs cells slots Q (F0 m pc ls (.int k :: .int n :: rest)) := by
  subst hN
  subst hM
  intro T hT Xs
  obtain ⟨vm₁, cA, comp, -, fA, fC, hO, -, X', step⟩ := Xs.multianewarray2F hexec hown hclink (va_AOA.use hover) harr (g := F0 m pc ls (.int k :: .int n :: rest)) rfl (by rw [hb]; exact hdg) rfl hn hk hb1 hb2 hb3 hdf hdd hcells hslots
  have ec : some cy = some comp := hcy.symm.trans fC
  cases ec
  generalize hF : Jvm.Free.Multi.fill (T.setVm vm₁) cA cy n.toNatClampNeg k.toNatClampNeg (defaultValue ty) n.toNatClampNeg = F at X' step
  have hTh : (T.setVm vm₁).heap = H := hT
  obtain ⟨f1, f2, -, -⟩ := Jvm.Free.Multi.fill_facts (T.setVm vm₁) cA cy n.toNatClampNeg k.toNatClampNeg (defaultValue ty) n.toNatClampNeg
  rw [hF, hTh] at f1 f2
  have hold : ∀ x : Nat, x < H.size → F.heap[x]? = H[x]? := fun x hx => by
    have := Jvm.Free.Multi.fill_old (T.setVm vm₁) cA cy n.toNatClampNeg k.toNatClampNeg (defaultValue ty) (a := x) (by rw [hTh]; exact hx) n.toNatClampNeg
    rw [hF, hTh] at this
    exact this
  have hrow : ∀ j : Nat, j < n.toNatClampNeg → F.heap[H.size + 1 + j]? = some (vp_cell cy z) := fun j hj => by
    have := Jvm.Free.Multi.fill_inner (T.setVm vm₁) cA cy n.toNatClampNeg k.toNatClampNeg (defaultValue ty) n.toNatClampNeg j hj
    rw [hF, hTh, hz] at this
    exact this
  have hout : Jvm.Free.Multi.outerC cA n.toNatClampNeg H.size n.toNatClampNeg = vp_cell cA (n.toNatClampNeg, .inr (.inr (.inr (.inr (fun i => if i < n.toNatClampNeg then some (H.size + 1 + i) else none))))) := by
    rw [vp_cell_q]
    exact vr_outer cA n.toNatClampNeg H.size n.toNatClampNeg
  rw [hout] at f2
  have hlt : ∀ a, a ∈ L → a < H.size := fun a ha => by
    obtain ⟨k9, hk9⟩ := va_pl_get (X := X) (f := f) ha
    exact (hP k9 _ hk9).lt
  have hnl : ∀ i : Nat, i < n.toNatClampNeg → H.size + 1 + i ∉ L := fun i _ h => by
    have := hlt _ h
    omega
  have hnm : ∀ a, a ∈ (List.range n.toNatClampNeg).map (fun i => H.size + 1 + i) → a ∉ L := fun a ha h => by
    obtain ⟨i, -, rfl⟩ := List.mem_map.mp ha
    have := hlt _ h
    omega
  have hP0 : va_P D cl (X ++ va_pl L f) F.heap := hP.kept (fun k9 x hx => hold x.1 ((hP k9 x hx).lt))
  have hP1 : va_P D cl ((X ++ va_pl L f) ++ [(H.size, .inl (cA, n.toNatClampNeg, .inr (.inr (.inr (.inr (fun i => if i < n.toNatClampNeg then some (H.size + 1 + i) else none))))))]) F.heap := hP0.app (fun k9 x hx => by
    have h0 : k9 < 1 := (List.getElem?_eq_some_iff.mp hx).1
    rw [show k9 = 0 by omega] at hx
    cases hx
    exact f2)
  have hP2 : va_P D cl (((X ++ va_pl L f) ++ [(H.size, .inl (cA, n.toNatClampNeg, .inr (.inr (.inr (.inr (fun i => if i < n.toNatClampNeg then some (H.size + 1 + i) else none))))))]) ++ ((List.range n.toNatClampNeg).map (fun i => H.size + 1 + i)).map (fun a => (a, .inl (cy, z)))) F.heap := hP1.app (fun k9 x hx => by
    obtain ⟨a, ha, rfl⟩ := List.mem_map.mp (List.mem_of_getElem? hx)
    obtain ⟨i, hi, rfl⟩ := List.mem_map.mp ha
    exact hrow i (List.mem_range.mp hi))
  have hD2 : va_D A (((X ++ va_pl L f) ++ [(H.size, .inl (cA, n.toNatClampNeg, .inr (.inr (.inr (.inr (fun i => if i < n.toNatClampNeg then some (H.size + 1 + i) else none))))))]) ++ ((List.range n.toNatClampNeg).map (fun i => H.size + 1 + i)).map (fun a => (a, .inl (cy, z)))) := by
    have hD1 := hD.push (e := .inl (cA, n.toNatClampNeg, .inr (.inr (.inr (.inr (fun i => if i < n.toNatClampNeg then some (H.size + 1 + i) else none)))))) hP rfl (hA _ hS.1)
    generalize hW1 : (X ++ va_pl L f) ++ [(H.size, .inl (cA, n.toNatClampNeg, .inr (.inr (.inr (.inr (fun i => if i < n.toNatClampNeg then some (H.size + 1 + i) else none))))))] = W1 at hD1 hP1 ⊢
    have hle : ∀ (k9 : Nat) (x : Nat × va_E), W1[k9]? = some x → x.1 ≤ H.size := fun k9 x hx => by
      rw [← hW1] at hx
      by_cases hl : k9 < (X ++ va_pl L f).length
      · rw [List.getElem?_append_left hl] at hx
        exact Nat.le_of_lt ((hP k9 x hx).lt)
      · rw [List.getElem?_append_right (by omega)] at hx
        have h0 : k9 - (X ++ va_pl L f).length < 1 := (List.getElem?_eq_some_iff.mp hx).1
        rw [show k9 - (X ++ va_pl L f).length = 0 by omega] at hx
        cases hx
        exact Nat.le_refl _
    have hr : ∀ (k9 : Nat) (x : Nat × va_E), (((List.range n.toNatClampNeg).map (fun i => H.size + 1 + i)).map (fun a => ((a, .inl (cy, z)) : Nat × va_E)))[k9]? = some x → x.1 = H.size + 1 + k9 := fun k9 x hx => by
      rw [List.getElem?_map, List.getElem?_map] at hx
      by_cases h9 : k9 < n.toNatClampNeg
      · rw [List.getElem?_range h9] at hx
        cases hx
        rfl
      · have hn0 : (List.range n.toNatClampNeg)[k9]? = none := List.getElem?_eq_none (by rw [List.length_range]; omega)
        rw [hn0] at hx
        cases hx
    refine ⟨fun i j x y hi hj hxy => ?_, fun k9 x hx => ?_⟩
    · by_cases h1 : i < W1.length <;> by_cases h2 : j < W1.length
      · rw [List.getElem?_append_left h1] at hi
        rw [List.getElem?_append_left h2] at hj
        exact hD1.1 i j x y hi hj hxy
      · rw [List.getElem?_append_left h1] at hi
        rw [List.getElem?_append_right (by omega)] at hj
        have := hle _ _ hi
        have := hr _ _ hj
        omega
      · rw [List.getElem?_append_right (by omega)] at hi
        rw [List.getElem?_append_left h2] at hj
        have := hle _ _ hj
        have := hr _ _ hi
        omega
      · rw [List.getElem?_append_right (by omega)] at hi hj
        have := hr _ _ hi
        have := hr _ _ hj
        omega
    · by_cases h1 : k9 < W1.length
      · rw [List.getElem?_append_left h1] at hx
        exact hD1.2 k9 x hx
      · rw [List.getElem?_append_right (by omega)] at hx
        have := hr _ _ hx
        exact hA _ (by have := hS.1; omega)
  have hAr : ArrOfT s cA (.array ty) := fun N9 z9 => by
    obtain ⟨-, k9, hk9, cm9, hkk9⟩ := (hO 0 0 0).1
    exact ⟨(fun q hq => by cases hq), k9, hk9, cm9, hkk9⟩
  have hK2 : va_K D cl (tys ++ [(cA, .array ty)]) s := ⟨hK.1, fun k9 x hx => by
    by_cases hl : k9 < tys.length
    · rw [List.getElem?_append_left hl] at hx
      exact hK.2 k9 x hx
    · rw [List.getElem?_append_right (by omega)] at hx
      have h0 : k9 - tys.length < 1 := (List.getElem?_eq_some_iff.mp hx).1
      rw [show k9 - tys.length = 0 by omega] at hx
      cases hx
      exact ⟨hAr, fA⟩⟩
  obtain ⟨t, a1, b1⟩ := kk H.size (fun i => H.size + 1 + i) cA F.heap (fun i j _ _ h => by have h9 : H.size + 1 + i = H.size + 1 + j := h; omega) hnl hK2 (by rw [← vr_rows hnm]; exact vr_lay hP2) (by rw [← vr_rows hnm]; exact vr_layD hD2) ⟨by rw [f1]; have := hS.1; omega, fun x h1 h2 => (hold x (Nat.lt_of_lt_of_le h1 hS.1)).trans (hS.2.1 x h1 h2), hS.2.2⟩ F rfl X'
  refine ⟨t, step t ?_, b1⟩
  have e : T.heap.size = H.size := by rw [hT]
  rw [e]
  exact a1
end VGM
/-! ===== END ===== -/

/-! ===== BEGIN printed: names, fields, word lists, decode rows ===== -/
def RX0 : String := "TeaRace$Order"
def TX0 : u_T := fun k => match k with
  | 0 => ("TeaRace$Order", "way", "I", true)
  | 1 => ("TeaRace$Order", "west", "I", true)
  | 2 => ("TeaRace$Order", "east", "I", true)
  | 3 => ("TeaRace$Order", "north", "I", true)
  | 4 => ("TeaRace$Order", "south", "I", true)
  | _ => ("TeaRace$Order", "strength", "I", true)
def tyX0 : Nat → FieldType := fun k => match k with
  | 0 => .int
  | 1 => .int
  | 2 => .int
  | 3 => .int
  | 4 => .int
  | _ => .int
abbrev wsX00 : List Cond := u_ws RX0 TX0 6
theorem nmX0 : ∀ a, a < 6 → ∀ b, b < 6 → a ≠ b → (TX0 a).2.1 ≠ (TX0 b).2.1 := by decide +kernel
theorem tyX0_ok : ∀ k, k < 6 → parseFieldDescriptor (TX0 k).2.2.1 = some (tyX0 k) := by decide +kernel
abbrev cX0_init : ByteArray := prog_2_method_1_code
def yX0_init : MethodName := ⟨RX0, "<init>", "(IIIIII)V"⟩
abbrev cX0_fits : ByteArray := prog_2_method_2_code
def yX0_fits : MethodName := ⟨RX0, "fits", "(II)Z"⟩
def RX1 : String := "TeaRace$Passage"
def TX1 : u_T := fun k => match k with
  | 0 => ("TeaRace$Passage", "hoursTo", "[I", true)
  | _ => ("TeaRace$Passage", "departed", "[Z", true)
def tyX1 : Nat → FieldType := fun k => match k with
  | 0 => .array .int
  | _ => .array .boolean
abbrev wsX10 : List Cond := u_ws RX1 TX1 2
theorem nmX1 : ∀ a, a < 2 → ∀ b, b < 2 → a ≠ b → (TX1 a).2.1 ≠ (TX1 b).2.1 := by decide +kernel
theorem tyX1_ok : ∀ k, k < 2 → parseFieldDescriptor (TX1 k).2.2.1 = some (tyX1 k) := by decide +kernel
abbrev cX1_init : ByteArray := prog_3_method_1_code
def yX1_init : MethodName := ⟨RX1, "<init>", "()V"⟩
abbrev cX1_leastHours : ByteArray := prog_3_method_2_code
def yX1_leastHours : MethodName := ⟨RX1, "leastHours", "(LTeaRace$Sea;LTeaRace$Ship;III)I"⟩
abbrev cX1_leave : ByteArray := prog_3_method_3_code
def yX1_leave : MethodName := ⟨RX1, "leave", "(LTeaRace$Sea;LTeaRace$Ship;II)V"⟩
abbrev cX1_comingHour : ByteArray := prog_3_method_4_code
def yX1_comingHour : MethodName := ⟨RX1, "comingHour", "(LTeaRace$Sea;LTeaRace$Ship;IIII)I"⟩
abbrev cX1_hoursFor : ByteArray := prog_3_method_5_code
def yX1_hoursFor : MethodName := ⟨RX1, "hoursFor", "(II)I"⟩
abbrev cX1_reach : ByteArray := prog_3_method_6_code
def yX1_reach : MethodName := ⟨RX1, "reach", "(II)V"⟩
abbrev cX1_earliestCell : ByteArray := prog_3_method_7_code
def yX1_earliestCell : MethodName := ⟨RX1, "earliestCell", "()I"⟩
def RX2 : String := "TeaRace$Sea"
def TX2 : u_T := fun k => match k with
  | 0 => ("TeaRace$Sea", "landCells", "[Z", true)
  | 1 => ("TeaRace$Sea", "chartThere", "[Z", true)
  | _ => ("TeaRace$Sea", "charts", "[[B", true)
def tyX2 : Nat → FieldType := fun k => match k with
  | 0 => .array .boolean
  | 1 => .array .boolean
  | _ => .array (.array .byte)
abbrev wsX20 : List Cond := u_ws RX2 TX2 3
theorem nmX2 : ∀ a, a < 3 → ∀ b, b < 3 → a ≠ b → (TX2 a).2.1 ≠ (TX2 b).2.1 := by decide +kernel
theorem tyX2_ok : ∀ k, k < 3 → parseFieldDescriptor (TX2 k).2.2.1 = some (tyX2 k) := by decide +kernel
abbrev cX2_init : ByteArray := prog_4_method_1_code
def yX2_init : MethodName := ⟨RX2, "<init>", "()V"⟩
abbrev cX2_isLand : ByteArray := prog_4_method_2_code
def yX2_isLand : MethodName := ⟨RX2, "isLand", "(I)Z"⟩
abbrev cX2_setLand : ByteArray := prog_4_method_3_code
def yX2_setLand : MethodName := ⟨RX2, "setLand", "(IZ)V"⟩
abbrev cX2_hasChart : ByteArray := prog_4_method_4_code
def yX2_hasChart : MethodName := ⟨RX2, "hasChart", "(I)Z"⟩
abbrev cX2_chartsThere : ByteArray := prog_4_method_5_code
def yX2_chartsThere : MethodName := ⟨RX2, "chartsThere", "()I"⟩
abbrev cX2_drawCalm : ByteArray := prog_4_method_6_code
def yX2_drawCalm : MethodName := ⟨RX2, "drawCalm", "(I)V"⟩
abbrev cX2_loseChart : ByteArray := prog_4_method_7_code
def yX2_loseChart : MethodName := ⟨RX2, "loseChart", "(I)V"⟩
abbrev cX2_drawnAt : ByteArray := prog_4_method_8_code
def yX2_drawnAt : MethodName := ⟨RX2, "drawnAt", "(II)I"⟩
abbrev cX2_drawAt : ByteArray := prog_4_method_9_code
def yX2_drawAt : MethodName := ⟨RX2, "drawAt", "(IIB)V"⟩
abbrev cX2_copyChart : ByteArray := prog_4_method_10_code
def yX2_copyChart : MethodName := ⟨RX2, "copyChart", "(IIIII)V"⟩
abbrev cX2_windIn : ByteArray := prog_4_method_11_code
def yX2_windIn : MethodName := ⟨RX2, "windIn", "(II)I"⟩
abbrev cX2_nextCell : ByteArray := prog_4_method_12_code
def yX2_nextCell : MethodName := ⟨RX2, "nextCell", "(II)I"⟩
abbrev cX2_digestChart : ByteArray := prog_4_method_13_code
def yX2_digestChart : MethodName := ⟨RX2, "digestChart", "(IJ)J"⟩
def RX3 : String := "TeaRace$Ship"
def TX3 : u_T := fun k => match k with
  | 0 => ("TeaRace$Ship", "number", "I", true)
  | 1 => ("TeaRace$Ship", "kind", "I", true)
  | 2 => ("TeaRace$Ship", "chests", "I", true)
  | 3 => ("TeaRace$Ship", "orders", "Ljava/util/List;", true)
  | 4 => ("TeaRace$Ship", "sights", "Ljava/util/List;", true)
  | 5 => ("TeaRace$Ship", "cell", "I", false)
  | 6 => ("TeaRace$Ship", "gone", "I", false)
  | 7 => ("TeaRace$Ship", "way", "I", false)
  | 8 => ("TeaRace$Ship", "foulness", "I", false)
  | 9 => ("TeaRace$Ship", "cellsComeTo", "I", false)
  | 10 => ("TeaRace$Ship", "homeHour", "I", false)
  | 11 => ("TeaRace$Ship", "entry", "I", false)
  | 12 => ("TeaRace$Ship", "rate", "I", false)
  | _ => ("TeaRace$Ship", "premium", "I", false)
def tyX3 : Nat → FieldType := fun k => match k with
  | 0 => .int
  | 1 => .int
  | 2 => .int
  | 3 => .object "java/util/List"
  | 4 => .object "java/util/List"
  | 5 => .int
  | 6 => .int
  | 7 => .int
  | 8 => .int
  | 9 => .int
  | 10 => .int
  | 11 => .int
  | 12 => .int
  | _ => .int
abbrev wsX30 : List Cond := u_ws RX3 TX3 14
theorem nmX3 : ∀ a, a < 14 → ∀ b, b < 14 → a ≠ b → (TX3 a).2.1 ≠ (TX3 b).2.1 := by decide +kernel
theorem tyX3_ok : ∀ k, k < 14 → parseFieldDescriptor (TX3 k).2.2.1 = some (tyX3 k) := by decide +kernel
abbrev cX3_init : ByteArray := prog_5_method_1_code
def yX3_init : MethodName := ⟨RX3, "<init>", "(IIII)V"⟩
abbrev cX3_isHome : ByteArray := prog_5_method_2_code
def yX3_isHome : MethodName := ⟨RX3, "isHome", "()Z"⟩
abbrev cX3_isOf : ByteArray := prog_5_method_3_code
def yX3_isOf : MethodName := ⟨RX3, "isOf", "(I)Z"⟩
abbrev cX3_speedIn : ByteArray := prog_5_method_4_code
def yX3_speedIn : MethodName := ⟨RX3, "speedIn", "(II)I"⟩
abbrev cX3_sailSpeed : ByteArray := prog_5_method_5_code
def yX3_sailSpeed : MethodName := ⟨RX3, "sailSpeed", "(II)I"⟩
abbrev cX3_moreAcrossTheWind : ByteArray := prog_5_method_6_code
def yX3_moreAcrossTheWind : MethodName := ⟨RX3, "moreAcrossTheWind", "()I"⟩
abbrev cX3_askWay : ByteArray := prog_5_method_7_code
def yX3_askWay : MethodName := ⟨RX3, "askWay", "(I)V"⟩
abbrev cX3_beats : ByteArray := prog_5_method_8_code
def yX3_beats : MethodName := ⟨RX3, "beats", "(LTeaRace$Ship;)Z"⟩
abbrev cX3_entersBefore : ByteArray := prog_5_method_9_code
def yX3_entersBefore : MethodName := ⟨RX3, "entersBefore", "(LTeaRace$Ship;)Z"⟩
abbrev cX3_isUnseenFrom : ByteArray := prog_5_method_10_code
def yX3_isUnseenFrom : MethodName := ⟨RX3, "isUnseenFrom", "(I)Z"⟩
abbrev cX3_isSeenAround : ByteArray := prog_5_method_11_code
def yX3_isSeenAround : MethodName := ⟨RX3, "isSeenAround", "(I)Z"⟩
abbrev cX3_lastSightBy : ByteArray := prog_5_method_12_code
def yX3_lastSightBy : MethodName := ⟨RX3, "lastSightBy", "(I)LTeaRace$Sight;"⟩
abbrev cX3_firstSightFrom : ByteArray := prog_5_method_13_code
def yX3_firstSightFrom : MethodName := ⟨RX3, "firstSightFrom", "(I)LTeaRace$Sight;"⟩
def RX4 : String := "TeaRace$Sight"
def TX4 : u_T := fun k => match k with
  | 0 => ("TeaRace$Sight", "cell", "I", true)
  | _ => ("TeaRace$Sight", "hour", "I", true)
def tyX4 : Nat → FieldType := fun k => match k with
  | 0 => .int
  | _ => .int
abbrev wsX40 : List Cond := u_ws RX4 TX4 2
theorem nmX4 : ∀ a, a < 2 → ∀ b, b < 2 → a ≠ b → (TX4 a).2.1 ≠ (TX4 b).2.1 := by decide +kernel
theorem tyX4_ok : ∀ k, k < 2 → parseFieldDescriptor (TX4 k).2.2.1 = some (tyX4 k) := by decide +kernel
abbrev cX4_init : ByteArray := prog_6_method_1_code
def yX4_init : MethodName := ⟨RX4, "<init>", "(II)V"⟩
def RX5 : String := "TeaRace"
def TX5 : u_T := fun k => match k with
  | 0 => ("TeaRace", "sea", "LTeaRace$Sea;", true)
  | 1 => ("TeaRace", "passage", "LTeaRace$Passage;", true)
  | 2 => ("TeaRace", "fleet", "Ljava/util/List;", true)
  | 3 => ("TeaRace", "findingCounts", "[I", true)
  | 4 => ("TeaRace", "latestFinding", "I", false)
  | 5 => ("TeaRace", "hour", "I", false)
  | 6 => ("TeaRace", "homeCell", "I", false)
  | 7 => ("TeaRace", "gateHour", "I", false)
  | 8 => ("TeaRace", "sightCount", "I", false)
  | 9 => ("TeaRace", "priceAtFirst", "I", false)
  | 10 => ("TeaRace", "fallOfPrice", "I", false)
  | _ => ("TeaRace", "latestSale", "J", false)
def tyX5 : Nat → FieldType := fun k => match k with
  | 0 => .object "TeaRace$Sea"
  | 1 => .object "TeaRace$Passage"
  | 2 => .object "java/util/List"
  | 3 => .array .int
  | 4 => .int
  | 5 => .int
  | 6 => .int
  | 7 => .int
  | 8 => .int
  | 9 => .int
  | 10 => .int
  | _ => .long
abbrev wsX50 : List Cond := u_ws RX5 TX5 12
theorem nmX5 : ∀ a, a < 12 → ∀ b, b < 12 → a ≠ b → (TX5 a).2.1 ≠ (TX5 b).2.1 := by decide +kernel
theorem tyX5_ok : ∀ k, k < 12 → parseFieldDescriptor (TX5 k).2.2.1 = some (tyX5 k) := by decide +kernel
abbrev cX5_init : ByteArray := prog_1_method_1_code
def yX5_init : MethodName := ⟨RX5, "<init>", "()V"⟩
abbrev cX5_land : ByteArray := prog_1_method_2_code
def yX5_land : MethodName := ⟨RX5, "land", "(IZ)I"⟩
abbrev cX5_chart : ByteArray := prog_1_method_3_code
def yX5_chart : MethodName := ⟨RX5, "chart", "(I)I"⟩
abbrev cX5_wind : ByteArray := prog_1_method_4_code
def yX5_wind : MethodName := ⟨RX5, "wind", "(III)I"⟩
abbrev cX5_tear : ByteArray := prog_1_method_5_code
def yX5_tear : MethodName := ⟨RX5, "tear", "(I)I"⟩
abbrev cX5_copy : ByteArray := prog_1_method_6_code
def yX5_copy : MethodName := ⟨RX5, "copy", "(IIIII)I"⟩
abbrev cX5_mean : ByteArray := prog_1_method_7_code
def yX5_mean : MethodName := ⟨RX5, "mean", "(I)I"⟩
abbrev cX5_ship : ByteArray := prog_1_method_8_code
def yX5_ship : MethodName := ⟨RX5, "ship", "(III)I"⟩
abbrev cX5_foul : ByteArray := prog_1_method_9_code
def yX5_foul : MethodName := ⟨RX5, "foul", "(II)I"⟩
abbrev cX5_told : ByteArray := prog_1_method_10_code
def yX5_told : MethodName := ⟨RX5, "told", "(II)I"⟩
abbrev cX5_mark : ByteArray := prog_1_method_11_code
def yX5_mark : MethodName := ⟨RX5, "mark", "(II)I"⟩
abbrev cX5_speed : ByteArray := prog_1_method_12_code
def yX5_speed : MethodName := ⟨RX5, "speed", "(IIII)I"⟩
abbrev cX5_order : ByteArray := prog_1_method_13_code
def yX5_order : MethodName := ⟨RX5, "order", "(IIIIIII)I"⟩
abbrev cX5_home : ByteArray := prog_1_method_14_code
def yX5_home : MethodName := ⟨RX5, "home", "(II)I"⟩
abbrev cX5_run : ByteArray := prog_1_method_15_code
def yX5_run : MethodName := ⟨RX5, "run", "(I)I"⟩
abbrev cX5_first : ByteArray := prog_1_method_16_code
def yX5_first : MethodName := ⟨RX5, "first", "()I"⟩
abbrev cX5_least : ByteArray := prog_1_method_17_code
def yX5_least : MethodName := ⟨RX5, "least", "(IIII)I"⟩
abbrev cX5_sight : ByteArray := prog_1_method_18_code
def yX5_sight : MethodName := ⟨RX5, "sight", "(III)I"⟩
abbrev cX5_distance : ByteArray := prog_1_method_19_code
def yX5_distance : MethodName := ⟨RX5, "distance", "(IIZ)I"⟩
abbrev cX5_ahead : ByteArray := prog_1_method_20_code
def yX5_ahead : MethodName := ⟨RX5, "ahead", "(III)I"⟩
abbrev cX5_charter : ByteArray := prog_1_method_21_code
def yX5_charter : MethodName := ⟨RX5, "charter", "(III)I"⟩
abbrev cX5_freight : ByteArray := prog_1_method_22_code
def yX5_freight : MethodName := ⟨RX5, "freight", "(I)I"⟩
abbrev cX5_market : ByteArray := prog_1_method_23_code
def yX5_market : MethodName := ⟨RX5, "market", "(II)I"⟩
abbrev cX5_sale : ByteArray := prog_1_method_24_code
def yX5_sale : MethodName := ⟨RX5, "sale", "(I)I"⟩
abbrev cX5_meanPrice : ByteArray := prog_1_method_25_code
def yX5_meanPrice : MethodName := ⟨RX5, "meanPrice", "()I"⟩
abbrev cX5_asked : ByteArray := prog_1_method_26_code
def yX5_asked : MethodName := ⟨RX5, "asked", "()J"⟩
abbrev cX5_count : ByteArray := prog_1_method_27_code
def yX5_count : MethodName := ⟨RX5, "count", "(I)I"⟩
abbrev cX5_finding : ByteArray := prog_1_method_28_code
def yX5_finding : MethodName := ⟨RX5, "finding", "()I"⟩
abbrev cX5_findings : ByteArray := prog_1_method_29_code
def yX5_findings : MethodName := ⟨RX5, "findings", "(I)I"⟩
abbrev cX5_digest : ByteArray := prog_1_method_30_code
def yX5_digest : MethodName := ⟨RX5, "digest", "()J"⟩
abbrev cX5_outside : ByteArray := prog_1_method_31_code
def yX5_outside : MethodName := ⟨RX5, "outside", "(II)Z"⟩
abbrev cX5_isNoSpan : ByteArray := prog_1_method_32_code
def yX5_isNoSpan : MethodName := ⟨RX5, "isNoSpan", "(III)Z"⟩
abbrev cX5_isNoWater : ByteArray := prog_1_method_33_code
def yX5_isNoWater : MethodName := ⟨RX5, "isNoWater", "(I)Z"⟩
abbrev cX5_shipOf : ByteArray := prog_1_method_34_code
def yX5_shipOf : MethodName := ⟨RX5, "shipOf", "(I)LTeaRace$Ship;"⟩
abbrev cX5_found : ByteArray := prog_1_method_35_code
def yX5_found : MethodName := ⟨RX5, "found", "(I)I"⟩
abbrev cX5_strengthOf : ByteArray := prog_1_method_36_code
def yX5_strengthOf : MethodName := ⟨RX5, "strengthOf", "(I)I"⟩
abbrev cX5_eighthsBetween : ByteArray := prog_1_method_37_code
def yX5_eighthsBetween : MethodName := ⟨RX5, "eighthsBetween", "(II)I"⟩
abbrev cX5_needOf : ByteArray := prog_1_method_38_code
def yX5_needOf : MethodName := ⟨RX5, "needOf", "(I)I"⟩
abbrev cX5_monthOf : ByteArray := prog_1_method_39_code
def yX5_monthOf : MethodName := ⟨RX5, "monthOf", "(I)I"⟩
abbrev cX5_entryFrom : ByteArray := prog_1_method_40_code
def yX5_entryFrom : MethodName := ⟨RX5, "entryFrom", "(I)I"⟩
abbrev cX5_sail : ByteArray := prog_1_method_41_code
def yX5_sail : MethodName := ⟨RX5, "sail", "(LTeaRace$Ship;I)V"⟩
abbrev cX5_moveOn : ByteArray := prog_1_method_42_code
def yX5_moveOn : MethodName := ⟨RX5, "moveOn", "(LTeaRace$Ship;I)V"⟩
abbrev cX5_comeTo : ByteArray := prog_1_method_43_code
def yX5_comeTo : MethodName := ⟨RX5, "comeTo", "(LTeaRace$Ship;II)V"⟩
abbrev cX5_shipsHome : ByteArray := prog_1_method_44_code
def yX5_shipsHome : MethodName := ⟨RX5, "shipsHome", "()I"⟩
abbrev cX5_theFirst : ByteArray := prog_1_method_45_code
def yX5_theFirst : MethodName := ⟨RX5, "theFirst", "()LTeaRace$Ship;"⟩
abbrev cX5_distanceFromHome : ByteArray := prog_1_method_46_code
def yX5_distanceFromHome : MethodName := ⟨RX5, "distanceFromHome", "(I)I"⟩
abbrev cX5_leastDistance : ByteArray := prog_1_method_47_code
def yX5_leastDistance : MethodName := ⟨RX5, "leastDistance", "(LTeaRace$Ship;I)I"⟩
abbrev cX5_mostDistance : ByteArray := prog_1_method_48_code
def yX5_mostDistance : MethodName := ⟨RX5, "mostDistance", "(LTeaRace$Ship;I)I"⟩
abbrev cX5_priceAtEntry : ByteArray := prog_1_method_49_code
def yX5_priceAtEntry : MethodName := ⟨RX5, "priceAtEntry", "(LTeaRace$Ship;)I"⟩
abbrev cX5_takings : ByteArray := prog_1_method_50_code
def yX5_takings : MethodName := ⟨RX5, "takings", "(LTeaRace$Ship;)J"⟩
def RX6 : String := "TeaRaceModel"
def TX6 : u_T := fun k => match k with
  | 0 => ("TeaRaceModel", "finding", "I", false)
  | 1 => ("TeaRaceModel", "findings", "[I", true)
  | 2 => ("TeaRaceModel", "asked", "J", false)
  | 3 => ("TeaRaceModel", "hour", "I", false)
  | 4 => ("TeaRaceModel", "isLand", "[Z", true)
  | 5 => ("TeaRaceModel", "isChart", "[Z", true)
  | 6 => ("TeaRaceModel", "winds", "[I", true)
  | 7 => ("TeaRaceModel", "home", "I", false)
  | 8 => ("TeaRaceModel", "gate", "I", false)
  | 9 => ("TeaRaceModel", "moving", "[I", true)
  | 10 => ("TeaRaceModel", "ships", "I", false)
  | 11 => ("TeaRaceModel", "kinds", "[I", true)
  | 12 => ("TeaRaceModel", "cells", "[I", true)
  | 13 => ("TeaRaceModel", "gone", "[I", true)
  | 14 => ("TeaRaceModel", "ways", "[I", true)
  | 15 => ("TeaRaceModel", "homeAt", "[I", true)
  | 16 => ("TeaRaceModel", "chests", "[I", true)
  | 17 => ("TeaRaceModel", "foulness", "[I", true)
  | 18 => ("TeaRaceModel", "came", "[I", true)
  | 19 => ("TeaRaceModel", "orders", "[I", true)
  | 20 => ("TeaRaceModel", "orderRows", "[I", true)
  | 21 => ("TeaRaceModel", "rates", "[I", true)
  | 22 => ("TeaRaceModel", "premiums", "[I", true)
  | 23 => ("TeaRaceModel", "hours", "[I", true)
  | 24 => ("TeaRaceModel", "isSettled", "[Z", true)
  | 25 => ("TeaRaceModel", "sights", "I", false)
  | 26 => ("TeaRaceModel", "sightShip", "[I", true)
  | 27 => ("TeaRaceModel", "sightCell", "[I", true)
  | 28 => ("TeaRaceModel", "sightHour", "[I", true)
  | 29 => ("TeaRaceModel", "price", "I", false)
  | _ => ("TeaRaceModel", "fall", "I", false)
def tyX6 : Nat → FieldType := fun k => match k with
  | 0 => .int
  | 1 => .array .int
  | 2 => .long
  | 3 => .int
  | 4 => .array .boolean
  | 5 => .array .boolean
  | 6 => .array .int
  | 7 => .int
  | 8 => .int
  | 9 => .array .int
  | 10 => .int
  | 11 => .array .int
  | 12 => .array .int
  | 13 => .array .int
  | 14 => .array .int
  | 15 => .array .int
  | 16 => .array .int
  | 17 => .array .int
  | 18 => .array .int
  | 19 => .array .int
  | 20 => .array .int
  | 21 => .array .int
  | 22 => .array .int
  | 23 => .array .int
  | 24 => .array .boolean
  | 25 => .int
  | 26 => .array .int
  | 27 => .array .int
  | 28 => .array .int
  | 29 => .int
  | _ => .int
abbrev wsX60 : List Cond := u_ws RX6 TX6 31
theorem nmX6 : ∀ a, a < 31 → ∀ b, b < 31 → a ≠ b → (TX6 a).2.1 ≠ (TX6 b).2.1 := by decide +kernel
theorem tyX6_ok : ∀ k, k < 31 → parseFieldDescriptor (TX6 k).2.2.1 = some (tyX6 k) := by decide +kernel
abbrev cX6_init : ByteArray := prog_8_method_1_code
def yX6_init : MethodName := ⟨RX6, "<init>", "()V"⟩
abbrev cX6_in : ByteArray := prog_8_method_3_code
def yX6_in : MethodName := ⟨RX6, "in", "(III)Z"⟩
abbrev cX6_meets : ByteArray := prog_8_method_4_code
def yX6_meets : MethodName := ⟨RX6, "meets", "(I)I"⟩
abbrev cX6_isCell : ByteArray := prog_8_method_5_code
def yX6_isCell : MethodName := ⟨RX6, "isCell", "(I)Z"⟩
abbrev cX6_isMonth : ByteArray := prog_8_method_6_code
def yX6_isMonth : MethodName := ⟨RX6, "isMonth", "(I)Z"⟩
abbrev cX6_land : ByteArray := prog_8_method_7_code
def yX6_land : MethodName := ⟨RX6, "land", "(IZ)I"⟩
abbrev cX6_looked : ByteArray := prog_8_method_8_code
def yX6_looked : MethodName := ⟨RX6, "looked", "(I)I"⟩
abbrev cX6_chart : ByteArray := prog_8_method_9_code
def yX6_chart : MethodName := ⟨RX6, "chart", "(I)I"⟩
abbrev cX6_wind : ByteArray := prog_8_method_10_code
def yX6_wind : MethodName := ⟨RX6, "wind", "(III)I"⟩
abbrev cX6_tear : ByteArray := prog_8_method_11_code
def yX6_tear : MethodName := ⟨RX6, "tear", "(I)I"⟩
abbrev cX6_copy : ByteArray := prog_8_method_12_code
def yX6_copy : MethodName := ⟨RX6, "copy", "(IIIII)I"⟩
abbrev cX6_strength : ByteArray := prog_8_method_13_code
def yX6_strength : MethodName := ⟨RX6, "strength", "(I)I"⟩
abbrev cX6_mean : ByteArray := prog_8_method_14_code
def yX6_mean : MethodName := ⟨RX6, "mean", "(I)I"⟩
abbrev cX6_windAt : ByteArray := prog_8_method_15_code
def yX6_windAt : MethodName := ⟨RX6, "windAt", "(II)I"⟩
abbrev cX6_nextCell : ByteArray := prog_8_method_16_code
def yX6_nextCell : MethodName := ⟨RX6, "nextCell", "(II)I"⟩
abbrev cX6_need : ByteArray := prog_8_method_17_code
def yX6_need : MethodName := ⟨RX6, "need", "(I)I"⟩
abbrev cX6_isShip : ByteArray := prog_8_method_18_code
def yX6_isShip : MethodName := ⟨RX6, "isShip", "(I)Z"⟩
abbrev cX6_ship : ByteArray := prog_8_method_19_code
def yX6_ship : MethodName := ⟨RX6, "ship", "(III)I"⟩
abbrev cX6_foul : ByteArray := prog_8_method_20_code
def yX6_foul : MethodName := ⟨RX6, "foul", "(II)I"⟩
abbrev cX6_entryOf : ByteArray := prog_8_method_21_code
def yX6_entryOf : MethodName := ⟨RX6, "entryOf", "(I)I"⟩
abbrev cX6_tells : ByteArray := prog_8_method_22_code
def yX6_tells : MethodName := ⟨RX6, "tells", "(II)I"⟩
abbrev cX6_told : ByteArray := prog_8_method_23_code
def yX6_told : MethodName := ⟨RX6, "told", "(II)I"⟩
abbrev cX6_speedOf : ByteArray := prog_8_method_24_code
def yX6_speedOf : MethodName := ⟨RX6, "speedOf", "(IIII)I"⟩
abbrev cX6_mark : ByteArray := prog_8_method_25_code
def yX6_mark : MethodName := ⟨RX6, "mark", "(II)I"⟩
abbrev cX6_isWay : ByteArray := prog_8_method_26_code
def yX6_isWay : MethodName := ⟨RX6, "isWay", "(I)Z"⟩
abbrev cX6_speed : ByteArray := prog_8_method_27_code
def yX6_speed : MethodName := ⟨RX6, "speed", "(IIII)I"⟩
abbrev cX6_order : ByteArray := prog_8_method_28_code
def yX6_order : MethodName := ⟨RX6, "order", "(IIIIIII)I"⟩
abbrev cX6_home : ByteArray := prog_8_method_29_code
def yX6_home : MethodName := ⟨RX6, "home", "(II)I"⟩
abbrev cX6_ask : ByteArray := prog_8_method_30_code
def yX6_ask : MethodName := ⟨RX6, "ask", "(I)V"⟩
abbrev cX6_go : ByteArray := prog_8_method_31_code
def yX6_go : MethodName := ⟨RX6, "go", "(I)V"⟩
abbrev cX6_atHome : ByteArray := prog_8_method_32_code
def yX6_atHome : MethodName := ⟨RX6, "atHome", "()I"⟩
abbrev cX6_run : ByteArray := prog_8_method_33_code
def yX6_run : MethodName := ⟨RX6, "run", "(I)I"⟩
abbrev cX6_firstShip : ByteArray := prog_8_method_34_code
def yX6_firstShip : MethodName := ⟨RX6, "firstShip", "()I"⟩
abbrev cX6_first : ByteArray := prog_8_method_35_code
def yX6_first : MethodName := ⟨RX6, "first", "()I"⟩
abbrev cX6_crossing : ByteArray := prog_8_method_36_code
def yX6_crossing : MethodName := ⟨RX6, "crossing", "(IIIII)I"⟩
abbrev cX6_least : ByteArray := prog_8_method_37_code
def yX6_least : MethodName := ⟨RX6, "least", "(IIII)I"⟩
abbrev cX6_sight : ByteArray := prog_8_method_38_code
def yX6_sight : MethodName := ⟨RX6, "sight", "(III)I"⟩
abbrev cX6_apart : ByteArray := prog_8_method_39_code
def yX6_apart : MethodName := ⟨RX6, "apart", "(II)I"⟩
abbrev cX6_farOf : ByteArray := prog_8_method_40_code
def yX6_farOf : MethodName := ⟨RX6, "farOf", "(I)I"⟩
abbrev cX6_distanceOf : ByteArray := prog_8_method_41_code
def yX6_distanceOf : MethodName := ⟨RX6, "distanceOf", "(IIZ)I"⟩
abbrev cX6_distance : ByteArray := prog_8_method_42_code
def yX6_distance : MethodName := ⟨RX6, "distance", "(IIZ)I"⟩
abbrev cX6_ahead : ByteArray := prog_8_method_43_code
def yX6_ahead : MethodName := ⟨RX6, "ahead", "(III)I"⟩
abbrev cX6_charter : ByteArray := prog_8_method_44_code
def yX6_charter : MethodName := ⟨RX6, "charter", "(III)I"⟩
abbrev cX6_freight : ByteArray := prog_8_method_45_code
def yX6_freight : MethodName := ⟨RX6, "freight", "(I)I"⟩
abbrev cX6_market : ByteArray := prog_8_method_46_code
def yX6_market : MethodName := ⟨RX6, "market", "(II)I"⟩
abbrev cX6_priceFor : ByteArray := prog_8_method_47_code
def yX6_priceFor : MethodName := ⟨RX6, "priceFor", "(I)I"⟩
abbrev cX6_sale : ByteArray := prog_8_method_48_code
def yX6_sale : MethodName := ⟨RX6, "sale", "(I)I"⟩
abbrev cX6_meanPrice : ByteArray := prog_8_method_49_code
def yX6_meanPrice : MethodName := ⟨RX6, "meanPrice", "()I"⟩
abbrev cX6_asked : ByteArray := prog_8_method_50_code
def yX6_asked : MethodName := ⟨RX6, "asked", "()J"⟩
abbrev cX6_tellsCount : ByteArray := prog_8_method_51_code
def yX6_tellsCount : MethodName := ⟨RX6, "tellsCount", "(I)I"⟩
abbrev cX6_count : ByteArray := prog_8_method_52_code
def yX6_count : MethodName := ⟨RX6, "count", "(I)I"⟩
abbrev cX6_finding : ByteArray := prog_8_method_53_code
def yX6_finding : MethodName := ⟨RX6, "finding", "()I"⟩
abbrev cX6_findings : ByteArray := prog_8_method_54_code
def yX6_findings : MethodName := ⟨RX6, "findings", "(I)I"⟩
abbrev cX6_digest : ByteArray := prog_8_method_55_code
def yX6_digest : MethodName := ⟨RX6, "digest", "()J"⟩
def RJx145de : String := "java/io/Serializable"
def TJx145de : u_T := fun k => match k with
  | _ => ("", "", "", false)
def tyJx145de : Nat → FieldType := fun k => match k with
  | _ => .int
abbrev wsJx145de0 : List Cond := u_ws RJx145de TJx145de 0
theorem nmJx145de : ∀ a, a < 0 → ∀ b, b < 0 → a ≠ b → (TJx145de a).2.1 ≠ (TJx145de b).2.1 := by decide +kernel
theorem tyJx145de_ok : ∀ k, k < 0 → parseFieldDescriptor (TJx145de k).2.2.1 = some (tyJx145de k) := by decide +kernel
def RJx8e188 : String := "java/lang/Cloneable"
def TJx8e188 : u_T := fun k => match k with
  | _ => ("", "", "", false)
def tyJx8e188 : Nat → FieldType := fun k => match k with
  | _ => .int
abbrev wsJx8e1880 : List Cond := u_ws RJx8e188 TJx8e188 0
theorem nmJx8e188 : ∀ a, a < 0 → ∀ b, b < 0 → a ≠ b → (TJx8e188 a).2.1 ≠ (TJx8e188 b).2.1 := by decide +kernel
theorem tyJx8e188_ok : ∀ k, k < 0 → parseFieldDescriptor (TJx8e188 k).2.2.1 = some (tyJx8e188 k) := by decide +kernel
def RJxab1ab : String := "java/lang/Iterable"
def TJxab1ab : u_T := fun k => match k with
  | _ => ("", "", "", false)
def tyJxab1ab : Nat → FieldType := fun k => match k with
  | _ => .int
abbrev wsJxab1ab0 : List Cond := u_ws RJxab1ab TJxab1ab 0
theorem nmJxab1ab : ∀ a, a < 0 → ∀ b, b < 0 → a ≠ b → (TJxab1ab a).2.1 ≠ (TJxab1ab b).2.1 := by decide +kernel
theorem tyJxab1ab_ok : ∀ k, k < 0 → parseFieldDescriptor (TJxab1ab k).2.2.1 = some (tyJxab1ab k) := by decide +kernel
def RJ9 : String := "java/lang/Math"
def TJ9 : u_T := fun k => match k with
  | _ => ("", "", "", false)
def tyJ9 : Nat → FieldType := fun k => match k with
  | _ => .int
abbrev wsJ90 : List Cond := u_ws RJ9 TJ9 0
theorem nmJ9 : ∀ a, a < 0 → ∀ b, b < 0 → a ≠ b → (TJ9 a).2.1 ≠ (TJ9 b).2.1 := by decide +kernel
theorem tyJ9_ok : ∀ k, k < 0 → parseFieldDescriptor (TJ9 k).2.2.1 = some (tyJ9 k) := by decide +kernel
abbrev cJ9_floorMod_7cf53 : ByteArray := prog_12_method_50_code
def yJ9_floorMod_7cf53 : MethodName := ⟨RJ9, "floorMod", "(II)I"⟩
abbrev cJ9_abs_0f7a4 : ByteArray := prog_12_method_59_code
def yJ9_abs_0f7a4 : MethodName := ⟨RJ9, "abs", "(I)I"⟩
abbrev cJ9_max_7cf53 : ByteArray := prog_12_method_65_code
def yJ9_max_7cf53 : MethodName := ⟨RJ9, "max", "(II)I"⟩
abbrev cJ9_min_7cf53 : ByteArray := prog_12_method_69_code
def yJ9_min_7cf53 : MethodName := ⟨RJ9, "min", "(II)I"⟩
def RJ10 : String := "java/lang/System"
def TJ10 : u_T := fun k => match k with
  | _ => ("", "", "", false)
def tyJ10 : Nat → FieldType := fun k => match k with
  | _ => .int
abbrev wsJ100 : List Cond := u_ws RJ10 TJ10 0
theorem nmJ10 : ∀ a, a < 0 → ∀ b, b < 0 → a ≠ b → (TJ10 a).2.1 ≠ (TJ10 b).2.1 := by decide +kernel
theorem tyJ10_ok : ∀ k, k < 0 → parseFieldDescriptor (TJ10 k).2.2.1 = some (tyJ10 k) := by decide +kernel
def RJxa1e45 : String := "java/util/AbstractCollection"
def TJxa1e45 : u_T := fun k => match k with
  | _ => ("", "", "", false)
def tyJxa1e45 : Nat → FieldType := fun k => match k with
  | _ => .int
abbrev wsJxa1e450 : List Cond := u_ws RJxa1e45 TJxa1e45 0
theorem nmJxa1e45 : ∀ a, a < 0 → ∀ b, b < 0 → a ≠ b → (TJxa1e45 a).2.1 ≠ (TJxa1e45 b).2.1 := by decide +kernel
theorem tyJxa1e45_ok : ∀ k, k < 0 → parseFieldDescriptor (TJxa1e45 k).2.2.1 = some (tyJxa1e45 k) := by decide +kernel
abbrev cJxa1e45_init_da8c8 : ByteArray := prog_14_method_1_code
def yJxa1e45_init_da8c8 : MethodName := ⟨RJxa1e45, "<init>", "()V"⟩
def RJxc12de : String := "java/util/AbstractList"
def TJxc12de : u_T := fun k => match k with
  | _ => ("", "", "", false)
def tyJxc12de : Nat → FieldType := fun k => match k with
  | _ => .int
abbrev wsJxc12de0 : List Cond := u_ws RJxc12de TJxc12de 0
theorem nmJxc12de : ∀ a, a < 0 → ∀ b, b < 0 → a ≠ b → (TJxc12de a).2.1 ≠ (TJxc12de b).2.1 := by decide +kernel
theorem tyJxc12de_ok : ∀ k, k < 0 → parseFieldDescriptor (TJxc12de k).2.2.1 = some (tyJxc12de k) := by decide +kernel
abbrev cJxc12de_init_da8c8 : ByteArray := prog_15_method_1_code
def yJxc12de_init_da8c8 : MethodName := ⟨RJxc12de, "<init>", "()V"⟩
def RJx4a65c : String := "java/util/ArrayList"
def TJx4a65c : u_T := fun k => match k with
  | 0 => ("java/util/AbstractList", "modCount", "I", false)
  | 1 => ("java/util/ArrayList", "elementData", "[Ljava/lang/Object;", false)
  | _ => ("java/util/ArrayList", "size", "I", false)
def tyJx4a65c : Nat → FieldType := fun k => match k with
  | 0 => .int
  | 1 => .array (.object "java/lang/Object")
  | _ => .int
abbrev wsJx4a65c0 : List Cond := u_ws RJx4a65c TJx4a65c 3
theorem nmJx4a65c : ∀ a, a < 3 → ∀ b, b < 3 → a ≠ b → (TJx4a65c a).2.1 ≠ (TJx4a65c b).2.1 := by decide +kernel
theorem tyJx4a65c_ok : ∀ k, k < 3 → parseFieldDescriptor (TJx4a65c k).2.2.1 = some (tyJx4a65c k) := by decide +kernel
abbrev cJx4a65c_init_da8c8 : ByteArray := prog_16_method_2_code
def yJx4a65c_init_da8c8 : MethodName := ⟨RJx4a65c, "<init>", "()V"⟩
abbrev cJx4a65c_grow_92f84 : ByteArray := prog_16_method_6_code
def yJx4a65c_grow_92f84 : MethodName := ⟨RJx4a65c, "grow", "(I)[Ljava/lang/Object;"⟩
abbrev cJx4a65c_grow_d5877 : ByteArray := prog_16_method_7_code
def yJx4a65c_grow_d5877 : MethodName := ⟨RJx4a65c, "grow", "()[Ljava/lang/Object;"⟩
abbrev cJx4a65c_size_8abf5 : ByteArray := prog_16_method_8_code
def yJx4a65c_size_8abf5 : MethodName := ⟨RJx4a65c, "size", "()I"⟩
abbrev cJx4a65c_elementData_915e3 : ByteArray := prog_16_method_18_code
def yJx4a65c_elementData_915e3 : MethodName := ⟨RJx4a65c, "elementData", "(I)Ljava/lang/Object;"⟩
abbrev cJx4a65c_get_915e3 : ByteArray := prog_16_method_20_code
def yJx4a65c_get_915e3 : MethodName := ⟨RJx4a65c, "get", "(I)Ljava/lang/Object;"⟩
abbrev cJx4a65c_add_72be8 : ByteArray := prog_16_method_24_code
def yJx4a65c_add_72be8 : MethodName := ⟨RJx4a65c, "add", "(Ljava/lang/Object;[Ljava/lang/Object;I)V"⟩
abbrev cJx4a65c_add_9ea2d : ByteArray := prog_16_method_25_code
def yJx4a65c_add_9ea2d : MethodName := ⟨RJx4a65c, "add", "(Ljava/lang/Object;)Z"⟩
def RJ7 : String := "java/util/Arrays"
def TJ7 : u_T := fun k => match k with
  | _ => ("", "", "", false)
def tyJ7 : Nat → FieldType := fun k => match k with
  | _ => .int
abbrev wsJ70 : List Cond := u_ws RJ7 TJ7 0
theorem nmJ7 : ∀ a, a < 0 → ∀ b, b < 0 → a ≠ b → (TJ7 a).2.1 ≠ (TJ7 b).2.1 := by decide +kernel
theorem tyJ7_ok : ∀ k, k < 0 → parseFieldDescriptor (TJ7 k).2.2.1 = some (tyJ7 k) := by decide +kernel
abbrev cJ7_fill_031fb : ByteArray := prog_17_method_109_code
def yJ7_fill_031fb : MethodName := ⟨RJ7, "fill", "([BB)V"⟩
abbrev cJ7_copyOf_1904c : ByteArray := prog_17_method_119_code
def yJ7_copyOf_1904c : MethodName := ⟨RJ7, "copyOf", "([Ljava/lang/Object;I)[Ljava/lang/Object;"⟩
abbrev cJ7_copyOf_6403c : ByteArray := prog_17_method_120_code
def yJ7_copyOf_6403c : MethodName := ⟨RJ7, "copyOf", "([Ljava/lang/Object;ILjava/lang/Class;)[Ljava/lang/Object;"⟩
def RJx5ef63 : String := "java/util/Collection"
def TJx5ef63 : u_T := fun k => match k with
  | _ => ("", "", "", false)
def tyJx5ef63 : Nat → FieldType := fun k => match k with
  | _ => .int
abbrev wsJx5ef630 : List Cond := u_ws RJx5ef63 TJx5ef63 0
theorem nmJx5ef63 : ∀ a, a < 0 → ∀ b, b < 0 → a ≠ b → (TJx5ef63 a).2.1 ≠ (TJx5ef63 b).2.1 := by decide +kernel
theorem tyJx5ef63_ok : ∀ k, k < 0 → parseFieldDescriptor (TJx5ef63 k).2.2.1 = some (tyJx5ef63 k) := by decide +kernel
def RJxbd725 : String := "java/util/List"
def TJxbd725 : u_T := fun k => match k with
  | _ => ("", "", "", false)
def tyJxbd725 : Nat → FieldType := fun k => match k with
  | _ => .int
abbrev wsJxbd7250 : List Cond := u_ws RJxbd725 TJxbd725 0
theorem nmJxbd725 : ∀ a, a < 0 → ∀ b, b < 0 → a ≠ b → (TJxbd725 a).2.1 ≠ (TJxbd725 b).2.1 := by decide +kernel
theorem tyJxbd725_ok : ∀ k, k < 0 → parseFieldDescriptor (TJxbd725 k).2.2.1 = some (tyJxbd725 k) := by decide +kernel
def RJ15 : String := "java/util/Objects"
def TJ15 : u_T := fun k => match k with
  | _ => ("", "", "", false)
def tyJ15 : Nat → FieldType := fun k => match k with
  | _ => .int
abbrev wsJ150 : List Cond := u_ws RJ15 TJ15 0
theorem nmJ15 : ∀ a, a < 0 → ∀ b, b < 0 → a ≠ b → (TJ15 a).2.1 ≠ (TJ15 b).2.1 := by decide +kernel
theorem tyJ15_ok : ∀ k, k < 0 → parseFieldDescriptor (TJ15 k).2.2.1 = some (tyJ15 k) := by decide +kernel
abbrev cJ15_checkIndex_7cf53 : ByteArray := prog_20_method_17_code
def yJ15_checkIndex_7cf53 : MethodName := ⟨RJ15, "checkIndex", "(II)I"⟩
def RJxf0a74 : String := "java/util/RandomAccess"
def TJxf0a74 : u_T := fun k => match k with
  | _ => ("", "", "", false)
def tyJxf0a74 : Nat → FieldType := fun k => match k with
  | _ => .int
abbrev wsJxf0a740 : List Cond := u_ws RJxf0a74 TJxf0a74 0
theorem nmJxf0a74 : ∀ a, a < 0 → ∀ b, b < 0 → a ≠ b → (TJxf0a74 a).2.1 ≠ (TJxf0a74 b).2.1 := by decide +kernel
theorem tyJxf0a74_ok : ∀ k, k < 0 → parseFieldDescriptor (TJxf0a74 k).2.2.1 = some (tyJxf0a74 k) := by decide +kernel
def RJxa66e6 : String := "java/util/SequencedCollection"
def TJxa66e6 : u_T := fun k => match k with
  | _ => ("", "", "", false)
def tyJxa66e6 : Nat → FieldType := fun k => match k with
  | _ => .int
abbrev wsJxa66e60 : List Cond := u_ws RJxa66e6 TJxa66e6 0
theorem nmJxa66e6 : ∀ a, a < 0 → ∀ b, b < 0 → a ≠ b → (TJxa66e6 a).2.1 ≠ (TJxa66e6 b).2.1 := by decide +kernel
theorem tyJxa66e6_ok : ∀ k, k < 0 → parseFieldDescriptor (TJxa66e6 k).2.2.1 = some (tyJxa66e6 k) := by decide +kernel
def RJ8 : String := "jdk/internal/util/ArraysSupport"
def TJ8 : u_T := fun k => match k with
  | _ => ("", "", "", false)
def tyJ8 : Nat → FieldType := fun k => match k with
  | _ => .int
abbrev wsJ80 : List Cond := u_ws RJ8 TJ8 0
theorem nmJ8 : ∀ a, a < 0 → ∀ b, b < 0 → a ≠ b → (TJ8 a).2.1 ≠ (TJ8 b).2.1 := by decide +kernel
theorem tyJ8_ok : ∀ k, k < 0 → parseFieldDescriptor (TJ8 k).2.2.1 = some (tyJ8 k) := by decide +kernel
abbrev cJ8_newLength_cabcc : ByteArray := prog_23_method_27_code
def yJ8_newLength_cabcc : MethodName := ⟨RJ8, "newLength", "(III)I"⟩
abbrev cJ8_hugeLength_7cf53 : ByteArray := prog_23_method_28_code
def yJ8_hugeLength_7cf53 : MethodName := ⟨RJ8, "hugeLength", "(II)I"⟩
def RJ3 : String := "jdk/internal/util/Preconditions"
def TJ3 : u_T := fun k => match k with
  | _ => ("", "", "", false)
def tyJ3 : Nat → FieldType := fun k => match k with
  | _ => .int
abbrev wsJ30 : List Cond := u_ws RJ3 TJ3 0
theorem nmJ3 : ∀ a, a < 0 → ∀ b, b < 0 → a ≠ b → (TJ3 a).2.1 ≠ (TJ3 b).2.1 := by decide +kernel
theorem tyJ3_ok : ∀ k, k < 0 → parseFieldDescriptor (TJ3 k).2.2.1 = some (tyJ3 k) := by decide +kernel
abbrev cJ3_checkIndex_8e157 : ByteArray := prog_24_method_11_code
def yJ3_checkIndex_8e157 : MethodName := ⟨RJ3, "checkIndex", "(IILjava/util/function/BiFunction;)I"⟩
def RL : String := "TeaRaceLaw"
abbrev cL_law : ByteArray := code
def yL_law : MethodName := ⟨RL, "law", "([I)Z"⟩
def wsX0_init : List Cond := .code yX0_init cX0_init 7 none :: ([.methodLink RX0 3 objectInit, .instanceMethod objectInit, .code objectInit ⟨#[0xb1]⟩ 1 none, .fieldLink RX0 9 "TeaRace$Order" "west" "I", .fieldLink RX0 15 "TeaRace$Order" "east" "I", .fieldLink RX0 18 "TeaRace$Order" "north" "I", .fieldLink RX0 21 "TeaRace$Order" "south" "I", .fieldLink RX0 24 "TeaRace$Order" "strength" "I", .fieldLink RX0 27 "TeaRace$Order" "way" "I"] ++ wsX00)
def wsX0_fits : List Cond := .code yX0_fits cX0_fits 5 (some .boolean) :: ([.fieldLink RX0 9 "TeaRace$Order" "west" "I", .fieldLink RX0 15 "TeaRace$Order" "east" "I", .fieldLink RX0 18 "TeaRace$Order" "north" "I", .fieldLink RX0 21 "TeaRace$Order" "south" "I", .fieldLink RX0 24 "TeaRace$Order" "strength" "I"] ++ wsX00)
def wsX1_init : List Cond := .code yX1_init cX1_init 1 none :: ([.methodLink RX1 3 objectInit, .instanceMethod objectInit, .code objectInit ⟨#[0xb1]⟩ 1 none, .arrayClass .int, .fieldLink RX1 9 "TeaRace$Passage" "hoursTo" "[I", .arrayClass .boolean, .fieldLink RX1 15 "TeaRace$Passage" "departed" "[Z"] ++ wsX10)
def wsX5_outside : List Cond := .code yX5_outside cX5_outside 2 (some .boolean) :: ([])
def wsX1_earliestCell : List Cond := .code yX1_earliestCell cX1_earliestCell 4 (some .int) :: ([.fieldLink RX1 15 "TeaRace$Passage" "departed" "[Z", .fieldLink RX1 9 "TeaRace$Passage" "hoursTo" "[I"] ++ wsX10)
def wsX2_isLand : List Cond := .code yX2_isLand cX2_isLand 2 (some .boolean) :: ([.fieldLink RX2 9 "TeaRace$Sea" "landCells" "[Z", .static yX5_outside, .initialized RX5, .code yX5_outside cX5_outside 2 (some .boolean)] ++ wsX20)
def wsX2_nextCell : List Cond := .code yX2_nextCell cX2_nextCell 6 (some .int) :: ([.static yX5_outside, .initialized RX5, .code yX5_outside cX5_outside 2 (some .boolean), .methodLink RX2 50 yX2_isLand, .instanceMethod yX2_isLand, .selects RX2 yX2_isLand yX2_isLand, .initialized RX2, .code yX2_isLand cX2_isLand 2 (some .boolean), .fieldLink RX2 9 "TeaRace$Sea" "landCells" "[Z"] ++ wsX20)
def wsX5_needOf : List Cond := .code yX5_needOf cX5_needOf 1 (some .int) :: ([])
def wsJ9_floorMod_7cf53 : List Cond := .code yJ9_floorMod_7cf53 cJ9_floorMod_7cf53 3 (some .int) :: ([])
def wsX5_monthOf : List Cond := .code yX5_monthOf cX5_monthOf 1 (some .int) :: ([.methodLink RX5 259 yJ9_floorMod_7cf53, .static yJ9_floorMod_7cf53, .initialized RJ9, .code yJ9_floorMod_7cf53 cJ9_floorMod_7cf53 3 (some .int)])
def wsX2_windIn : List Cond := .code yX2_windIn cX2_windIn 4 (some .int) :: ([.fieldLink RX2 15 "TeaRace$Sea" "chartThere" "[Z", .fieldLink RX2 20 "TeaRace$Sea" "charts" "[[B", .static yX5_outside, .initialized RX5, .code yX5_outside cX5_outside 2 (some .boolean)] ++ wsX20)
def wsX5_eighthsBetween : List Cond := .code yX5_eighthsBetween cX5_eighthsBetween 3 (some .int) :: ([.methodLink RX5 251 Lib.Math.abs.name, .static Lib.Math.abs.name, .initialized "java/lang/Math", .code Lib.Math.abs.name Lib.Math.abs.code 1 (some .int), .methodLink RX5 256 Lib.Math.min.name, .static Lib.Math.min.name, .code Lib.Math.min.name Lib.Math.min.code 2 (some .int)])
def wsX5_strengthOf : List Cond := .code yX5_strengthOf cX5_strengthOf 1 (some .int) :: ([])
def wsX3_moreAcrossTheWind : List Cond := .code yX3_moreAcrossTheWind cX3_moreAcrossTheWind 1 (some .int) :: ([.fieldLink RX3 49 "TeaRace$Ship" "kind" "I"] ++ wsX30)
def wsX3_sailSpeed : List Cond := .code yX3_sailSpeed cX3_sailSpeed 3 (some .int) :: ([.methodLink RX3 74 yX3_moreAcrossTheWind, .instanceMethod yX3_moreAcrossTheWind, .selects RX3 yX3_moreAcrossTheWind yX3_moreAcrossTheWind, .initialized RX3, .code yX3_moreAcrossTheWind cX3_moreAcrossTheWind 1 (some .int), .fieldLink RX3 49 "TeaRace$Ship" "kind" "I"] ++ wsX30)
def wsX3_speedIn_r1 : List Cond := [Cond.fieldLink RX3 49 "TeaRace$Ship" "kind" "I", Cond.fieldLink RX3 28 "TeaRace$Ship" "foulness" "I", Cond.methodLink RX3 69 Lib.Math.max.name, Cond.static Lib.Math.max.name, Cond.initialized "java/lang/Math", Cond.code Lib.Math.max.name Lib.Math.max.code 2 (some .int), Cond.static yX5_eighthsBetween, Cond.initialized RX5, Cond.code yX5_eighthsBetween cX5_eighthsBetween 3 (some .int), Cond.methodLink RX5 251 Lib.Math.abs.name, Cond.static Lib.Math.abs.name, Cond.code Lib.Math.abs.name Lib.Math.abs.code 1 (some .int), Cond.methodLink RX5 256 Lib.Math.min.name, Cond.static Lib.Math.min.name, Cond.code Lib.Math.min.name Lib.Math.min.code 2 (some .int), Cond.static yX5_strengthOf, Cond.code yX5_strengthOf cX5_strengthOf 1 (some .int), Cond.methodLink RX3 66 yX3_sailSpeed, Cond.instanceMethod yX3_sailSpeed, Cond.selects RX3 yX3_sailSpeed yX3_sailSpeed, Cond.initialized RX3, Cond.code yX3_sailSpeed cX3_sailSpeed 3 (some .int), Cond.methodLink RX3 74 yX3_moreAcrossTheWind, Cond.instanceMethod yX3_moreAcrossTheWind]
def wsX3_speedIn_r2 : List Cond := [Cond.selects RX3 yX3_moreAcrossTheWind yX3_moreAcrossTheWind, Cond.code yX3_moreAcrossTheWind cX3_moreAcrossTheWind 1 (some .int)]
def wsX3_speedIn : List Cond := .code yX3_speedIn cX3_speedIn 4 (some .int) :: ((wsX3_speedIn_r1 ++ wsX3_speedIn_r2) ++ wsX30)
def wsX1_hoursFor : List Cond := .code yX1_hoursFor cX1_hoursFor 2 (some .int) :: ([])
def wsX1_comingHour_r1 : List Cond := [Cond.methodLink RX1 49 Lib.Math.max.name, Cond.static Lib.Math.max.name, Cond.initialized "java/lang/Math", Cond.code Lib.Math.max.name Lib.Math.max.code 2 (some .int), Cond.static yX5_needOf, Cond.initialized RX5, Cond.code yX5_needOf cX5_needOf 1 (some .int), Cond.static yX5_monthOf, Cond.code yX5_monthOf cX5_monthOf 1 (some .int), Cond.methodLink RX5 259 yJ9_floorMod_7cf53, Cond.static yJ9_floorMod_7cf53, Cond.initialized RJ9, Cond.code yJ9_floorMod_7cf53 cJ9_floorMod_7cf53 3 (some .int), Cond.methodLink RX1 57 yX2_windIn, Cond.instanceMethod yX2_windIn, Cond.selects RX2 yX2_windIn yX2_windIn, Cond.initialized RX2, Cond.code yX2_windIn cX2_windIn 4 (some .int), Cond.fieldLink RX2 15 "TeaRace$Sea" "chartThere" "[Z", Cond.fieldLink RX2 20 "TeaRace$Sea" "charts" "[[B", Cond.static yX5_outside, Cond.code yX5_outside cX5_outside 2 (some .boolean), Cond.methodLink RX1 60 yX3_speedIn, Cond.instanceMethod yX3_speedIn]
def wsX1_comingHour_r2 : List Cond := [Cond.selects RX3 yX3_speedIn yX3_speedIn, Cond.initialized RX3, Cond.code yX3_speedIn cX3_speedIn 4 (some .int), Cond.fieldLink RX3 49 "TeaRace$Ship" "kind" "I", Cond.fieldLink RX3 28 "TeaRace$Ship" "foulness" "I", Cond.methodLink RX3 69 Lib.Math.max.name, Cond.static yX5_eighthsBetween, Cond.code yX5_eighthsBetween cX5_eighthsBetween 3 (some .int), Cond.methodLink RX5 251 Lib.Math.abs.name, Cond.static Lib.Math.abs.name, Cond.code Lib.Math.abs.name Lib.Math.abs.code 1 (some .int), Cond.methodLink RX5 256 Lib.Math.min.name, Cond.static Lib.Math.min.name, Cond.code Lib.Math.min.name Lib.Math.min.code 2 (some .int), Cond.static yX5_strengthOf, Cond.code yX5_strengthOf cX5_strengthOf 1 (some .int), Cond.methodLink RX3 66 yX3_sailSpeed, Cond.instanceMethod yX3_sailSpeed, Cond.selects RX3 yX3_sailSpeed yX3_sailSpeed, Cond.code yX3_sailSpeed cX3_sailSpeed 3 (some .int), Cond.methodLink RX3 74 yX3_moreAcrossTheWind, Cond.instanceMethod yX3_moreAcrossTheWind, Cond.selects RX3 yX3_moreAcrossTheWind yX3_moreAcrossTheWind, Cond.code yX3_moreAcrossTheWind cX3_moreAcrossTheWind 1 (some .int)]
def wsX1_comingHour_r3 : List Cond := [Cond.methodLink RX1 65 yX1_hoursFor, Cond.static yX1_hoursFor, Cond.initialized RX1, Cond.code yX1_hoursFor cX1_hoursFor 2 (some .int)]
def wsX1_comingHour : List Cond := .code yX1_comingHour cX1_comingHour 11 (some .int) :: ((wsX1_comingHour_r1 ++ (wsX1_comingHour_r2 ++ wsX1_comingHour_r3)) ++ wsX20 ++ wsX30)
def wsX1_reach : List Cond := .code yX1_reach cX1_reach 3 none :: ([.fieldLink RX1 9 "TeaRace$Passage" "hoursTo" "[I", .static yX5_outside, .initialized RX5, .code yX5_outside cX5_outside 2 (some .boolean)] ++ wsX10)
def wsX1_leave_r1 : List Cond := [Cond.fieldLink RX1 15 "TeaRace$Passage" "departed" "[Z", Cond.fieldLink RX1 9 "TeaRace$Passage" "hoursTo" "[I", Cond.static yX5_outside, Cond.initialized RX5, Cond.code yX5_outside cX5_outside 2 (some .boolean), Cond.methodLink RX1 31 yX2_nextCell, Cond.instanceMethod yX2_nextCell, Cond.selects RX2 yX2_nextCell yX2_nextCell, Cond.initialized RX2, Cond.code yX2_nextCell cX2_nextCell 6 (some .int), Cond.methodLink RX2 50 yX2_isLand, Cond.instanceMethod yX2_isLand, Cond.selects RX2 yX2_isLand yX2_isLand, Cond.code yX2_isLand cX2_isLand 2 (some .boolean), Cond.fieldLink RX2 9 "TeaRace$Sea" "landCells" "[Z", Cond.methodLink RX1 37 yX1_comingHour, Cond.static yX1_comingHour, Cond.initialized RX1, Cond.code yX1_comingHour cX1_comingHour 11 (some .int), Cond.methodLink RX1 49 Lib.Math.max.name, Cond.static Lib.Math.max.name, Cond.initialized "java/lang/Math", Cond.code Lib.Math.max.name Lib.Math.max.code 2 (some .int), Cond.static yX5_needOf]
def wsX1_leave_r2 : List Cond := [Cond.code yX5_needOf cX5_needOf 1 (some .int), Cond.static yX5_monthOf, Cond.code yX5_monthOf cX5_monthOf 1 (some .int), Cond.methodLink RX5 259 yJ9_floorMod_7cf53, Cond.static yJ9_floorMod_7cf53, Cond.initialized RJ9, Cond.code yJ9_floorMod_7cf53 cJ9_floorMod_7cf53 3 (some .int), Cond.methodLink RX1 57 yX2_windIn, Cond.instanceMethod yX2_windIn, Cond.selects RX2 yX2_windIn yX2_windIn, Cond.code yX2_windIn cX2_windIn 4 (some .int), Cond.fieldLink RX2 15 "TeaRace$Sea" "chartThere" "[Z", Cond.fieldLink RX2 20 "TeaRace$Sea" "charts" "[[B", Cond.methodLink RX1 60 yX3_speedIn, Cond.instanceMethod yX3_speedIn, Cond.selects RX3 yX3_speedIn yX3_speedIn, Cond.initialized RX3, Cond.code yX3_speedIn cX3_speedIn 4 (some .int), Cond.fieldLink RX3 49 "TeaRace$Ship" "kind" "I", Cond.fieldLink RX3 28 "TeaRace$Ship" "foulness" "I", Cond.methodLink RX3 69 Lib.Math.max.name, Cond.static yX5_eighthsBetween, Cond.code yX5_eighthsBetween cX5_eighthsBetween 3 (some .int), Cond.methodLink RX5 251 Lib.Math.abs.name]
def wsX1_leave_r3 : List Cond := [Cond.static Lib.Math.abs.name, Cond.code Lib.Math.abs.name Lib.Math.abs.code 1 (some .int), Cond.methodLink RX5 256 Lib.Math.min.name, Cond.static Lib.Math.min.name, Cond.code Lib.Math.min.name Lib.Math.min.code 2 (some .int), Cond.static yX5_strengthOf, Cond.code yX5_strengthOf cX5_strengthOf 1 (some .int), Cond.methodLink RX3 66 yX3_sailSpeed, Cond.instanceMethod yX3_sailSpeed, Cond.selects RX3 yX3_sailSpeed yX3_sailSpeed, Cond.code yX3_sailSpeed cX3_sailSpeed 3 (some .int), Cond.methodLink RX3 74 yX3_moreAcrossTheWind, Cond.instanceMethod yX3_moreAcrossTheWind, Cond.selects RX3 yX3_moreAcrossTheWind yX3_moreAcrossTheWind, Cond.code yX3_moreAcrossTheWind cX3_moreAcrossTheWind 1 (some .int), Cond.methodLink RX1 65 yX1_hoursFor, Cond.static yX1_hoursFor, Cond.code yX1_hoursFor cX1_hoursFor 2 (some .int), Cond.methodLink RX1 41 yX1_reach, Cond.instanceMethod yX1_reach, Cond.selects RX1 yX1_reach yX1_reach, Cond.code yX1_reach cX1_reach 3 none]
def wsX1_leave : List Cond := .code yX1_leave cX1_leave 8 none :: ((wsX1_leave_r1 ++ (wsX1_leave_r2 ++ wsX1_leave_r3)) ++ wsX10 ++ wsX20 ++ wsX30)
def wsX1_leastHours_r1 : List Cond := [Cond.fieldLink RX1 9 "TeaRace$Passage" "hoursTo" "[I", Cond.fieldLink RX1 15 "TeaRace$Passage" "departed" "[Z", Cond.static yX5_outside, Cond.initialized RX5, Cond.code yX5_outside cX5_outside 2 (some .boolean), Cond.methodLink RX1 23 yX1_earliestCell, Cond.instanceMethod yX1_earliestCell, Cond.selects RX1 yX1_earliestCell yX1_earliestCell, Cond.initialized RX1, Cond.code yX1_earliestCell cX1_earliestCell 4 (some .int), Cond.methodLink RX1 27 yX1_leave, Cond.instanceMethod yX1_leave, Cond.selects RX1 yX1_leave yX1_leave, Cond.code yX1_leave cX1_leave 8 none, Cond.methodLink RX1 31 yX2_nextCell, Cond.instanceMethod yX2_nextCell, Cond.selects RX2 yX2_nextCell yX2_nextCell, Cond.initialized RX2, Cond.code yX2_nextCell cX2_nextCell 6 (some .int), Cond.methodLink RX2 50 yX2_isLand, Cond.instanceMethod yX2_isLand, Cond.selects RX2 yX2_isLand yX2_isLand, Cond.code yX2_isLand cX2_isLand 2 (some .boolean), Cond.fieldLink RX2 9 "TeaRace$Sea" "landCells" "[Z"]
def wsX1_leastHours_r2 : List Cond := [Cond.methodLink RX1 37 yX1_comingHour, Cond.static yX1_comingHour, Cond.code yX1_comingHour cX1_comingHour 11 (some .int), Cond.methodLink RX1 49 Lib.Math.max.name, Cond.static Lib.Math.max.name, Cond.initialized "java/lang/Math", Cond.code Lib.Math.max.name Lib.Math.max.code 2 (some .int), Cond.static yX5_needOf, Cond.code yX5_needOf cX5_needOf 1 (some .int), Cond.static yX5_monthOf, Cond.code yX5_monthOf cX5_monthOf 1 (some .int), Cond.methodLink RX5 259 yJ9_floorMod_7cf53, Cond.static yJ9_floorMod_7cf53, Cond.initialized RJ9, Cond.code yJ9_floorMod_7cf53 cJ9_floorMod_7cf53 3 (some .int), Cond.methodLink RX1 57 yX2_windIn, Cond.instanceMethod yX2_windIn, Cond.selects RX2 yX2_windIn yX2_windIn, Cond.code yX2_windIn cX2_windIn 4 (some .int), Cond.fieldLink RX2 15 "TeaRace$Sea" "chartThere" "[Z", Cond.fieldLink RX2 20 "TeaRace$Sea" "charts" "[[B", Cond.methodLink RX1 60 yX3_speedIn, Cond.instanceMethod yX3_speedIn, Cond.selects RX3 yX3_speedIn yX3_speedIn]
def wsX1_leastHours_r3 : List Cond := [Cond.initialized RX3, Cond.code yX3_speedIn cX3_speedIn 4 (some .int), Cond.fieldLink RX3 49 "TeaRace$Ship" "kind" "I", Cond.fieldLink RX3 28 "TeaRace$Ship" "foulness" "I", Cond.methodLink RX3 69 Lib.Math.max.name, Cond.static yX5_eighthsBetween, Cond.code yX5_eighthsBetween cX5_eighthsBetween 3 (some .int), Cond.methodLink RX5 251 Lib.Math.abs.name, Cond.static Lib.Math.abs.name, Cond.code Lib.Math.abs.name Lib.Math.abs.code 1 (some .int), Cond.methodLink RX5 256 Lib.Math.min.name, Cond.static Lib.Math.min.name, Cond.code Lib.Math.min.name Lib.Math.min.code 2 (some .int), Cond.static yX5_strengthOf, Cond.code yX5_strengthOf cX5_strengthOf 1 (some .int), Cond.methodLink RX3 66 yX3_sailSpeed, Cond.instanceMethod yX3_sailSpeed, Cond.selects RX3 yX3_sailSpeed yX3_sailSpeed, Cond.code yX3_sailSpeed cX3_sailSpeed 3 (some .int), Cond.methodLink RX3 74 yX3_moreAcrossTheWind, Cond.instanceMethod yX3_moreAcrossTheWind, Cond.selects RX3 yX3_moreAcrossTheWind yX3_moreAcrossTheWind, Cond.code yX3_moreAcrossTheWind cX3_moreAcrossTheWind 1 (some .int), Cond.methodLink RX1 65 yX1_hoursFor]
def wsX1_leastHours_r4 : List Cond := [Cond.static yX1_hoursFor, Cond.code yX1_hoursFor cX1_hoursFor 2 (some .int), Cond.methodLink RX1 41 yX1_reach, Cond.instanceMethod yX1_reach, Cond.selects RX1 yX1_reach yX1_reach, Cond.code yX1_reach cX1_reach 3 none]
def wsX1_leastHours : List Cond := .code yX1_leastHours cX1_leastHours 8 (some .int) :: ((wsX1_leastHours_r1 ++ (wsX1_leastHours_r2 ++ (wsX1_leastHours_r3 ++ wsX1_leastHours_r4))) ++ wsX10 ++ wsX20 ++ wsX30)
def wsX2_init : List Cond := .code yX2_init cX2_init 1 none :: ([.methodLink RX2 3 objectInit, .instanceMethod objectInit, .code objectInit ⟨#[0xb1]⟩ 1 none, .arrayClass .boolean, .fieldLink RX2 9 "TeaRace$Sea" "landCells" "[Z", .fieldLink RX2 15 "TeaRace$Sea" "chartThere" "[Z", .classLink RX2 18 "[[B", .arrayClass .byte, .fieldLink RX2 20 "TeaRace$Sea" "charts" "[[B"] ++ wsX20)
def wsX2_setLand : List Cond := .code yX2_setLand cX2_setLand 3 none :: ([.fieldLink RX2 9 "TeaRace$Sea" "landCells" "[Z", .static yX5_outside, .initialized RX5, .code yX5_outside cX5_outside 2 (some .boolean)] ++ wsX20)
def wsX2_hasChart : List Cond := .code yX2_hasChart cX2_hasChart 2 (some .boolean) :: ([.fieldLink RX2 15 "TeaRace$Sea" "chartThere" "[Z", .static yX5_outside, .initialized RX5, .code yX5_outside cX5_outside 2 (some .boolean)] ++ wsX20)
def wsX2_chartsThere : List Cond := .code yX2_chartsThere cX2_chartsThere 3 (some .int) :: ([.fieldLink RX2 15 "TeaRace$Sea" "chartThere" "[Z"] ++ wsX20)
def wsJ7_fill_031fb : List Cond := .code yJ7_fill_031fb cJ7_fill_031fb 4 none :: ([])
def wsX2_drawCalm : List Cond := .code yX2_drawCalm cX2_drawCalm 2 none :: ([.fieldLink RX2 15 "TeaRace$Sea" "chartThere" "[Z", .fieldLink RX2 20 "TeaRace$Sea" "charts" "[[B", .static yX5_outside, .initialized RX5, .code yX5_outside cX5_outside 2 (some .boolean), .methodLink RX2 27 yJ7_fill_031fb, .static yJ7_fill_031fb, .initialized RJ7, .code yJ7_fill_031fb cJ7_fill_031fb 4 none] ++ wsX20)
def wsX2_loseChart : List Cond := .code yX2_loseChart cX2_loseChart 2 none :: ([.fieldLink RX2 15 "TeaRace$Sea" "chartThere" "[Z", .static yX5_outside, .initialized RX5, .code yX5_outside cX5_outside 2 (some .boolean)] ++ wsX20)
def wsX2_drawnAt : List Cond := .code yX2_drawnAt cX2_drawnAt 3 (some .int) :: ([.fieldLink RX2 20 "TeaRace$Sea" "charts" "[[B", .methodLink RX2 33 yX2_hasChart, .instanceMethod yX2_hasChart, .selects RX2 yX2_hasChart yX2_hasChart, .initialized RX2, .code yX2_hasChart cX2_hasChart 2 (some .boolean), .fieldLink RX2 15 "TeaRace$Sea" "chartThere" "[Z", .static yX5_outside, .initialized RX5, .code yX5_outside cX5_outside 2 (some .boolean)] ++ wsX20)
def wsX2_drawAt : List Cond := .code yX2_drawAt cX2_drawAt 4 none :: ([.fieldLink RX2 20 "TeaRace$Sea" "charts" "[[B", .methodLink RX2 33 yX2_hasChart, .instanceMethod yX2_hasChart, .selects RX2 yX2_hasChart yX2_hasChart, .initialized RX2, .code yX2_hasChart cX2_hasChart 2 (some .boolean), .fieldLink RX2 15 "TeaRace$Sea" "chartThere" "[Z", .static yX5_outside, .initialized RX5, .code yX5_outside cX5_outside 2 (some .boolean)] ++ wsX20)
def wsX2_copyChart : List Cond := .code yX2_copyChart cX2_copyChart 6 none :: ([.fieldLink RX2 20 "TeaRace$Sea" "charts" "[[B", .methodLink RX2 37 arraycopyName, .native arraycopyName, .static arraycopyName, .initialized "java/lang/System", .methodLink RX2 33 yX2_hasChart, .instanceMethod yX2_hasChart, .selects RX2 yX2_hasChart yX2_hasChart, .initialized RX2, .code yX2_hasChart cX2_hasChart 2 (some .boolean), .fieldLink RX2 15 "TeaRace$Sea" "chartThere" "[Z", .static yX5_outside, .initialized RX5, .code yX5_outside cX5_outside 2 (some .boolean)] ++ wsX20)
def wsX2_digestChart : List Cond := .code yX2_digestChart cX2_digestChart 7 (some .long) :: ([.constantLong RX2 53 (31), .methodLink RX2 33 yX2_hasChart, .instanceMethod yX2_hasChart, .selects RX2 yX2_hasChart yX2_hasChart, .initialized RX2, .code yX2_hasChart cX2_hasChart 2 (some .boolean), .fieldLink RX2 15 "TeaRace$Sea" "chartThere" "[Z", .static yX5_outside, .initialized RX5, .code yX5_outside cX5_outside 2 (some .boolean), .methodLink RX2 55 yX2_drawnAt, .instanceMethod yX2_drawnAt, .selects RX2 yX2_drawnAt yX2_drawnAt, .code yX2_drawnAt cX2_drawnAt 3 (some .int), .fieldLink RX2 20 "TeaRace$Sea" "charts" "[[B"] ++ wsX20)
def wsJxa1e45_init_da8c8 : List Cond := .code yJxa1e45_init_da8c8 cJxa1e45_init_da8c8 1 none :: ([.methodLink RJxa1e45 1 objectInit, .instanceMethod objectInit, .code objectInit ⟨#[0xb1]⟩ 1 none])
def wsJxc12de_init_da8c8 : List Cond := .code yJxc12de_init_da8c8 cJxc12de_init_da8c8 1 none :: ([.fieldLink RJxc12de 7 "java/util/AbstractList" "modCount" "I", .methodLink RJxc12de 1 yJxa1e45_init_da8c8, .instanceMethod yJxa1e45_init_da8c8, .initialized RJxa1e45, .code yJxa1e45_init_da8c8 cJxa1e45_init_da8c8 1 none, .methodLink RJxa1e45 1 objectInit, .instanceMethod objectInit, .code objectInit ⟨#[0xb1]⟩ 1 none] ++ wsJx4a65c0)
def wsJx4a65c_init_da8c8 : List Cond := .code yJx4a65c_init_da8c8 cJx4a65c_init_da8c8 1 none :: ([.fieldLink RJx4a65c 39 "java/util/ArrayList" "DEFAULTCAPACITY_EMPTY_ELEMENTDATA" "[Ljava/lang/Object;", .fieldLink RJx4a65c 9 "java/util/ArrayList" "elementData" "[Ljava/lang/Object;", .methodLink RJx4a65c 1 yJxc12de_init_da8c8, .instanceMethod yJxc12de_init_da8c8, .initialized RJxc12de, .code yJxc12de_init_da8c8 cJxc12de_init_da8c8 1 none, .fieldLink RJxc12de 7 "java/util/AbstractList" "modCount" "I", .methodLink RJxc12de 1 yJxa1e45_init_da8c8, .instanceMethod yJxa1e45_init_da8c8, .initialized RJxa1e45, .code yJxa1e45_init_da8c8 cJxa1e45_init_da8c8 1 none, .methodLink RJxa1e45 1 objectInit, .instanceMethod objectInit, .code objectInit ⟨#[0xb1]⟩ 1 none] ++ wsJx4a65c0)
def wsX3_init_r1 : List Cond := [Cond.methodLink RX3 3 objectInit, Cond.instanceMethod objectInit, Cond.code objectInit ⟨#[0xb1]⟩ 1 none, Cond.classLink RX3 9 RJx4a65c, Cond.instantiable RJx4a65c 3, Cond.initialized RJx4a65c, Cond.fieldLink RX3 12 "TeaRace$Ship" "orders" "Ljava/util/List;", Cond.fieldLink RX3 18 "TeaRace$Ship" "sights" "Ljava/util/List;", Cond.fieldLink RX3 21 "TeaRace$Ship" "gone" "I", Cond.fieldLink RX3 25 "TeaRace$Ship" "way" "I", Cond.fieldLink RX3 28 "TeaRace$Ship" "foulness" "I", Cond.fieldLink RX3 31 "TeaRace$Ship" "cellsComeTo" "I", Cond.fieldLink RX3 34 "TeaRace$Ship" "homeHour" "I", Cond.fieldLink RX3 37 "TeaRace$Ship" "entry" "I", Cond.fieldLink RX3 40 "TeaRace$Ship" "rate" "I", Cond.fieldLink RX3 43 "TeaRace$Ship" "premium" "I", Cond.fieldLink RX3 46 "TeaRace$Ship" "number" "I", Cond.fieldLink RX3 49 "TeaRace$Ship" "kind" "I", Cond.fieldLink RX3 52 "TeaRace$Ship" "cell" "I", Cond.fieldLink RX3 55 "TeaRace$Ship" "chests" "I", Cond.methodLink RX3 11 yJx4a65c_init_da8c8, Cond.instanceMethod yJx4a65c_init_da8c8, Cond.code yJx4a65c_init_da8c8 cJx4a65c_init_da8c8 1 none, Cond.fieldLink RJx4a65c 39 "java/util/ArrayList" "DEFAULTCAPACITY_EMPTY_ELEMENTDATA" "[Ljava/lang/Object;"]
def wsX3_init_r2 : List Cond := [Cond.fieldLink RJx4a65c 9 "java/util/ArrayList" "elementData" "[Ljava/lang/Object;", Cond.methodLink RJx4a65c 1 yJxc12de_init_da8c8, Cond.instanceMethod yJxc12de_init_da8c8, Cond.initialized RJxc12de, Cond.code yJxc12de_init_da8c8 cJxc12de_init_da8c8 1 none, Cond.fieldLink RJxc12de 7 "java/util/AbstractList" "modCount" "I", Cond.methodLink RJxc12de 1 yJxa1e45_init_da8c8, Cond.instanceMethod yJxa1e45_init_da8c8, Cond.initialized RJxa1e45, Cond.code yJxa1e45_init_da8c8 cJxa1e45_init_da8c8 1 none, Cond.methodLink RJxa1e45 1 objectInit]
def wsX3_init : List Cond := .code yX3_init cX3_init 5 none :: ((wsX3_init_r1 ++ wsX3_init_r2) ++ wsJx4a65c0 ++ wsX30)
def wsX3_isHome : List Cond := .code yX3_isHome cX3_isHome 1 (some .boolean) :: ([.fieldLink RX3 34 "TeaRace$Ship" "homeHour" "I"] ++ wsX30)
def wsX3_isOf : List Cond := .code yX3_isOf cX3_isOf 2 (some .boolean) :: ([.fieldLink RX3 49 "TeaRace$Ship" "kind" "I"] ++ wsX30)
def wsJx4a65c_size_8abf5 : List Cond := .code yJx4a65c_size_8abf5 cJx4a65c_size_8abf5 1 (some .int) :: ([.fieldLink RJx4a65c 48 "java/util/ArrayList" "size" "I"] ++ wsJx4a65c0)
def wsJ3_checkIndex_8e157 : List Cond := .code yJ3_checkIndex_8e157 cJ3_checkIndex_8e157 3 (some .int) :: ([])
def wsJ15_checkIndex_7cf53 : List Cond := .code yJ15_checkIndex_7cf53 cJ15_checkIndex_7cf53 2 (some .int) :: ([.methodLink RJ15 105 yJ3_checkIndex_8e157, .static yJ3_checkIndex_8e157, .initialized RJ3, .code yJ3_checkIndex_8e157 cJ3_checkIndex_8e157 3 (some .int)])
def wsJx4a65c_elementData_915e3 : List Cond := .code yJx4a65c_elementData_915e3 cJx4a65c_elementData_915e3 2 (some (.object "java/lang/Object")) :: ([.fieldLink RJx4a65c 9 "java/util/ArrayList" "elementData" "[Ljava/lang/Object;"] ++ wsJx4a65c0)
def wsJx4a65c_get_915e3 : List Cond := .code yJx4a65c_get_915e3 cJx4a65c_get_915e3 2 (some (.object "java/lang/Object")) :: ([.fieldLink RJx4a65c 48 "java/util/ArrayList" "size" "I", .methodLink RJx4a65c 118 yJ15_checkIndex_7cf53, .static yJ15_checkIndex_7cf53, .initialized RJ15, .code yJ15_checkIndex_7cf53 cJ15_checkIndex_7cf53 2 (some .int), .methodLink RJ15 105 yJ3_checkIndex_8e157, .static yJ3_checkIndex_8e157, .initialized RJ3, .code yJ3_checkIndex_8e157 cJ3_checkIndex_8e157 3 (some .int), .methodLink RJx4a65c 123 yJx4a65c_elementData_915e3, .instanceMethod yJx4a65c_elementData_915e3, .selects RJx4a65c yJx4a65c_elementData_915e3 yJx4a65c_elementData_915e3, .initialized RJx4a65c, .code yJx4a65c_elementData_915e3 cJx4a65c_elementData_915e3 2 (some (.object "java/lang/Object")), .fieldLink RJx4a65c 9 "java/util/ArrayList" "elementData" "[Ljava/lang/Object;"] ++ wsJx4a65c0)
def wsX3_askWay_r1 : List Cond := [Cond.fieldLink RX3 12 "TeaRace$Ship" "orders" "Ljava/util/List;", Cond.classLink RX3 87 "TeaRace$Order", Cond.fieldLink RX3 52 "TeaRace$Ship" "cell" "I", Cond.fieldLink RX3 93 "TeaRace$Order" "way" "I", Cond.fieldLink RX3 25 "TeaRace$Ship" "way" "I", Cond.methodLink RX3 78 ⟨"java/util/List", "size", "()I"⟩, Cond.selects RJx4a65c ⟨"java/util/List", "size", "()I"⟩ yJx4a65c_size_8abf5, Cond.instanceMethod yJx4a65c_size_8abf5, Cond.initialized RJx4a65c, Cond.code yJx4a65c_size_8abf5 cJx4a65c_size_8abf5 1 (some .int), Cond.fieldLink RJx4a65c 48 "java/util/ArrayList" "size" "I", Cond.methodLink RX3 83 ⟨"java/util/List", "get", "(I)Ljava/lang/Object;"⟩, Cond.selects RJx4a65c ⟨"java/util/List", "get", "(I)Ljava/lang/Object;"⟩ yJx4a65c_get_915e3, Cond.instanceMethod yJx4a65c_get_915e3, Cond.code yJx4a65c_get_915e3 cJx4a65c_get_915e3 2 (some (.object "java/lang/Object")), Cond.methodLink RJx4a65c 118 yJ15_checkIndex_7cf53, Cond.static yJ15_checkIndex_7cf53, Cond.initialized RJ15, Cond.code yJ15_checkIndex_7cf53 cJ15_checkIndex_7cf53 2 (some .int), Cond.methodLink RJ15 105 yJ3_checkIndex_8e157, Cond.static yJ3_checkIndex_8e157, Cond.initialized RJ3, Cond.code yJ3_checkIndex_8e157 cJ3_checkIndex_8e157 3 (some .int), Cond.methodLink RJx4a65c 123 yJx4a65c_elementData_915e3]
def wsX3_askWay_r2 : List Cond := [Cond.instanceMethod yJx4a65c_elementData_915e3, Cond.selects RJx4a65c yJx4a65c_elementData_915e3 yJx4a65c_elementData_915e3, Cond.code yJx4a65c_elementData_915e3 cJx4a65c_elementData_915e3 2 (some (.object "java/lang/Object")), Cond.fieldLink RJx4a65c 9 "java/util/ArrayList" "elementData" "[Ljava/lang/Object;", Cond.static yX5_strengthOf, Cond.initialized RX5, Cond.code yX5_strengthOf cX5_strengthOf 1 (some .int), Cond.methodLink RX3 89 yX0_fits, Cond.instanceMethod yX0_fits, Cond.selects RX0 yX0_fits yX0_fits, Cond.initialized RX0, Cond.code yX0_fits cX0_fits 5 (some .boolean), Cond.fieldLink RX0 9 "TeaRace$Order" "west" "I", Cond.fieldLink RX0 15 "TeaRace$Order" "east" "I", Cond.fieldLink RX0 18 "TeaRace$Order" "north" "I", Cond.fieldLink RX0 21 "TeaRace$Order" "south" "I", Cond.fieldLink RX0 24 "TeaRace$Order" "strength" "I"]
def wsX3_askWay : List Cond := .code yX3_askWay cX3_askWay 4 none :: ((wsX3_askWay_r1 ++ wsX3_askWay_r2) ++ wsX30 ++ wsX00 ++ wsJx4a65c0)
def wsX3_beats : List Cond := .code yX3_beats cX3_beats 2 (some .boolean) :: ([.fieldLink RX3 37 "TeaRace$Ship" "entry" "I", .fieldLink RX3 34 "TeaRace$Ship" "homeHour" "I", .fieldLink RX3 46 "TeaRace$Ship" "number" "I"] ++ wsX30)
def wsX3_entersBefore : List Cond := .code yX3_entersBefore cX3_entersBefore 2 (some .boolean) :: ([.fieldLink RX3 37 "TeaRace$Ship" "entry" "I", .fieldLink RX3 46 "TeaRace$Ship" "number" "I"] ++ wsX30)
def wsX3_firstSightFrom_r1 : List Cond := [Cond.fieldLink RX3 18 "TeaRace$Ship" "sights" "Ljava/util/List;", Cond.classLink RX3 101 "TeaRace$Sight", Cond.fieldLink RX3 103 "TeaRace$Sight" "hour" "I", Cond.methodLink RX3 78 ⟨"java/util/List", "size", "()I"⟩, Cond.selects RJx4a65c ⟨"java/util/List", "size", "()I"⟩ yJx4a65c_size_8abf5, Cond.instanceMethod yJx4a65c_size_8abf5, Cond.initialized RJx4a65c, Cond.code yJx4a65c_size_8abf5 cJx4a65c_size_8abf5 1 (some .int), Cond.fieldLink RJx4a65c 48 "java/util/ArrayList" "size" "I", Cond.methodLink RX3 83 ⟨"java/util/List", "get", "(I)Ljava/lang/Object;"⟩, Cond.selects RJx4a65c ⟨"java/util/List", "get", "(I)Ljava/lang/Object;"⟩ yJx4a65c_get_915e3, Cond.instanceMethod yJx4a65c_get_915e3, Cond.code yJx4a65c_get_915e3 cJx4a65c_get_915e3 2 (some (.object "java/lang/Object")), Cond.methodLink RJx4a65c 118 yJ15_checkIndex_7cf53, Cond.static yJ15_checkIndex_7cf53, Cond.initialized RJ15, Cond.code yJ15_checkIndex_7cf53 cJ15_checkIndex_7cf53 2 (some .int), Cond.methodLink RJ15 105 yJ3_checkIndex_8e157, Cond.static yJ3_checkIndex_8e157, Cond.initialized RJ3, Cond.code yJ3_checkIndex_8e157 cJ3_checkIndex_8e157 3 (some .int), Cond.methodLink RJx4a65c 123 yJx4a65c_elementData_915e3, Cond.instanceMethod yJx4a65c_elementData_915e3, Cond.selects RJx4a65c yJx4a65c_elementData_915e3 yJx4a65c_elementData_915e3]
def wsX3_firstSightFrom_r2 : List Cond := [Cond.code yJx4a65c_elementData_915e3 cJx4a65c_elementData_915e3 2 (some (.object "java/lang/Object")), Cond.fieldLink RJx4a65c 9 "java/util/ArrayList" "elementData" "[Ljava/lang/Object;"]
def wsX3_firstSightFrom : List Cond := .code yX3_firstSightFrom cX3_firstSightFrom 4 (some (.object "TeaRace$Sight")) :: ((wsX3_firstSightFrom_r1 ++ wsX3_firstSightFrom_r2) ++ wsX30 ++ wsX40 ++ wsJx4a65c0)
def wsX3_isUnseenFrom_r1 : List Cond := [Cond.methodLink RX3 94 yX3_firstSightFrom, Cond.instanceMethod yX3_firstSightFrom, Cond.selects RX3 yX3_firstSightFrom yX3_firstSightFrom, Cond.initialized RX3, Cond.code yX3_firstSightFrom cX3_firstSightFrom 4 (some (.object "TeaRace$Sight")), Cond.fieldLink RX3 18 "TeaRace$Ship" "sights" "Ljava/util/List;", Cond.classLink RX3 101 "TeaRace$Sight", Cond.fieldLink RX3 103 "TeaRace$Sight" "hour" "I", Cond.methodLink RX3 78 ⟨"java/util/List", "size", "()I"⟩, Cond.selects RJx4a65c ⟨"java/util/List", "size", "()I"⟩ yJx4a65c_size_8abf5, Cond.instanceMethod yJx4a65c_size_8abf5, Cond.initialized RJx4a65c, Cond.code yJx4a65c_size_8abf5 cJx4a65c_size_8abf5 1 (some .int), Cond.fieldLink RJx4a65c 48 "java/util/ArrayList" "size" "I", Cond.methodLink RX3 83 ⟨"java/util/List", "get", "(I)Ljava/lang/Object;"⟩, Cond.selects RJx4a65c ⟨"java/util/List", "get", "(I)Ljava/lang/Object;"⟩ yJx4a65c_get_915e3, Cond.instanceMethod yJx4a65c_get_915e3, Cond.code yJx4a65c_get_915e3 cJx4a65c_get_915e3 2 (some (.object "java/lang/Object")), Cond.methodLink RJx4a65c 118 yJ15_checkIndex_7cf53, Cond.static yJ15_checkIndex_7cf53, Cond.initialized RJ15, Cond.code yJ15_checkIndex_7cf53 cJ15_checkIndex_7cf53 2 (some .int), Cond.methodLink RJ15 105 yJ3_checkIndex_8e157, Cond.static yJ3_checkIndex_8e157]
def wsX3_isUnseenFrom_r2 : List Cond := [Cond.initialized RJ3, Cond.code yJ3_checkIndex_8e157 cJ3_checkIndex_8e157 3 (some .int), Cond.methodLink RJx4a65c 123 yJx4a65c_elementData_915e3, Cond.instanceMethod yJx4a65c_elementData_915e3, Cond.selects RJx4a65c yJx4a65c_elementData_915e3 yJx4a65c_elementData_915e3, Cond.code yJx4a65c_elementData_915e3 cJx4a65c_elementData_915e3 2 (some (.object "java/lang/Object")), Cond.fieldLink RJx4a65c 9 "java/util/ArrayList" "elementData" "[Ljava/lang/Object;"]
def wsX3_isUnseenFrom : List Cond := .code yX3_isUnseenFrom cX3_isUnseenFrom 2 (some .boolean) :: ((wsX3_isUnseenFrom_r1 ++ wsX3_isUnseenFrom_r2) ++ wsX30 ++ wsX40 ++ wsJx4a65c0)
def wsX3_lastSightBy_r1 : List Cond := [Cond.fieldLink RX3 18 "TeaRace$Ship" "sights" "Ljava/util/List;", Cond.classLink RX3 101 "TeaRace$Sight", Cond.fieldLink RX3 103 "TeaRace$Sight" "hour" "I", Cond.methodLink RX3 78 ⟨"java/util/List", "size", "()I"⟩, Cond.selects RJx4a65c ⟨"java/util/List", "size", "()I"⟩ yJx4a65c_size_8abf5, Cond.instanceMethod yJx4a65c_size_8abf5, Cond.initialized RJx4a65c, Cond.code yJx4a65c_size_8abf5 cJx4a65c_size_8abf5 1 (some .int), Cond.fieldLink RJx4a65c 48 "java/util/ArrayList" "size" "I", Cond.methodLink RX3 83 ⟨"java/util/List", "get", "(I)Ljava/lang/Object;"⟩, Cond.selects RJx4a65c ⟨"java/util/List", "get", "(I)Ljava/lang/Object;"⟩ yJx4a65c_get_915e3, Cond.instanceMethod yJx4a65c_get_915e3, Cond.code yJx4a65c_get_915e3 cJx4a65c_get_915e3 2 (some (.object "java/lang/Object")), Cond.methodLink RJx4a65c 118 yJ15_checkIndex_7cf53, Cond.static yJ15_checkIndex_7cf53, Cond.initialized RJ15, Cond.code yJ15_checkIndex_7cf53 cJ15_checkIndex_7cf53 2 (some .int), Cond.methodLink RJ15 105 yJ3_checkIndex_8e157, Cond.static yJ3_checkIndex_8e157, Cond.initialized RJ3, Cond.code yJ3_checkIndex_8e157 cJ3_checkIndex_8e157 3 (some .int), Cond.methodLink RJx4a65c 123 yJx4a65c_elementData_915e3, Cond.instanceMethod yJx4a65c_elementData_915e3, Cond.selects RJx4a65c yJx4a65c_elementData_915e3 yJx4a65c_elementData_915e3]
def wsX3_lastSightBy_r2 : List Cond := [Cond.code yJx4a65c_elementData_915e3 cJx4a65c_elementData_915e3 2 (some (.object "java/lang/Object")), Cond.fieldLink RJx4a65c 9 "java/util/ArrayList" "elementData" "[Ljava/lang/Object;"]
def wsX3_lastSightBy : List Cond := .code yX3_lastSightBy cX3_lastSightBy 5 (some (.object "TeaRace$Sight")) :: ((wsX3_lastSightBy_r1 ++ wsX3_lastSightBy_r2) ++ wsX30 ++ wsX40 ++ wsJx4a65c0)
def wsX3_isSeenAround_r1 : List Cond := [Cond.methodLink RX3 98 yX3_lastSightBy, Cond.instanceMethod yX3_lastSightBy, Cond.selects RX3 yX3_lastSightBy yX3_lastSightBy, Cond.initialized RX3, Cond.code yX3_lastSightBy cX3_lastSightBy 5 (some (.object "TeaRace$Sight")), Cond.fieldLink RX3 18 "TeaRace$Ship" "sights" "Ljava/util/List;", Cond.classLink RX3 101 "TeaRace$Sight", Cond.fieldLink RX3 103 "TeaRace$Sight" "hour" "I", Cond.methodLink RX3 78 ⟨"java/util/List", "size", "()I"⟩, Cond.selects RJx4a65c ⟨"java/util/List", "size", "()I"⟩ yJx4a65c_size_8abf5, Cond.instanceMethod yJx4a65c_size_8abf5, Cond.initialized RJx4a65c, Cond.code yJx4a65c_size_8abf5 cJx4a65c_size_8abf5 1 (some .int), Cond.fieldLink RJx4a65c 48 "java/util/ArrayList" "size" "I", Cond.methodLink RX3 83 ⟨"java/util/List", "get", "(I)Ljava/lang/Object;"⟩, Cond.selects RJx4a65c ⟨"java/util/List", "get", "(I)Ljava/lang/Object;"⟩ yJx4a65c_get_915e3, Cond.instanceMethod yJx4a65c_get_915e3, Cond.code yJx4a65c_get_915e3 cJx4a65c_get_915e3 2 (some (.object "java/lang/Object")), Cond.methodLink RJx4a65c 118 yJ15_checkIndex_7cf53, Cond.static yJ15_checkIndex_7cf53, Cond.initialized RJ15, Cond.code yJ15_checkIndex_7cf53 cJ15_checkIndex_7cf53 2 (some .int), Cond.methodLink RJ15 105 yJ3_checkIndex_8e157, Cond.static yJ3_checkIndex_8e157]
def wsX3_isSeenAround_r2 : List Cond := [Cond.initialized RJ3, Cond.code yJ3_checkIndex_8e157 cJ3_checkIndex_8e157 3 (some .int), Cond.methodLink RJx4a65c 123 yJx4a65c_elementData_915e3, Cond.instanceMethod yJx4a65c_elementData_915e3, Cond.selects RJx4a65c yJx4a65c_elementData_915e3 yJx4a65c_elementData_915e3, Cond.code yJx4a65c_elementData_915e3 cJx4a65c_elementData_915e3 2 (some (.object "java/lang/Object")), Cond.fieldLink RJx4a65c 9 "java/util/ArrayList" "elementData" "[Ljava/lang/Object;", Cond.methodLink RX3 94 yX3_firstSightFrom, Cond.instanceMethod yX3_firstSightFrom, Cond.selects RX3 yX3_firstSightFrom yX3_firstSightFrom, Cond.code yX3_firstSightFrom cX3_firstSightFrom 4 (some (.object "TeaRace$Sight"))]
def wsX3_isSeenAround : List Cond := .code yX3_isSeenAround cX3_isSeenAround 2 (some .boolean) :: ((wsX3_isSeenAround_r1 ++ wsX3_isSeenAround_r2) ++ wsX30 ++ wsX40 ++ wsJx4a65c0)
def wsX4_init : List Cond := .code yX4_init cX4_init 3 none :: ([.methodLink RX4 1 objectInit, .instanceMethod objectInit, .code objectInit ⟨#[0xb1]⟩ 1 none, .fieldLink RX4 7 "TeaRace$Sight" "cell" "I", .fieldLink RX4 13 "TeaRace$Sight" "hour" "I"] ++ wsX40)
def wsX5_init_r1 : List Cond := [Cond.methodLink RX5 1 objectInit, Cond.instanceMethod objectInit, Cond.code objectInit ⟨#[0xb1]⟩ 1 none, Cond.classLink RX5 7 RX2, Cond.instantiable RX2 3, Cond.initialized RX2, Cond.fieldLink RX5 10 "TeaRace" "sea" "LTeaRace$Sea;", Cond.classLink RX5 16 RX1, Cond.instantiable RX1 2, Cond.initialized RX1, Cond.fieldLink RX5 19 "TeaRace" "passage" "LTeaRace$Passage;", Cond.classLink RX5 23 RJx4a65c, Cond.instantiable RJx4a65c 3, Cond.initialized RJx4a65c, Cond.fieldLink RX5 26 "TeaRace" "fleet" "Ljava/util/List;", Cond.arrayClass .int, Cond.fieldLink RX5 30 "TeaRace" "findingCounts" "[I", Cond.fieldLink RX5 34 "TeaRace" "latestFinding" "I", Cond.fieldLink RX5 38 "TeaRace" "hour" "I", Cond.fieldLink RX5 41 "TeaRace" "homeCell" "I", Cond.fieldLink RX5 44 "TeaRace" "gateHour" "I", Cond.fieldLink RX5 47 "TeaRace" "sightCount" "I", Cond.fieldLink RX5 50 "TeaRace" "priceAtFirst" "I", Cond.fieldLink RX5 53 "TeaRace" "fallOfPrice" "I"]
def wsX5_init_r2 : List Cond := [Cond.fieldLink RX5 56 "TeaRace" "latestSale" "J", Cond.instanceMethod yX2_init, Cond.code yX2_init cX2_init 1 none, Cond.methodLink RX2 3 objectInit, Cond.arrayClass .boolean, Cond.fieldLink RX2 9 "TeaRace$Sea" "landCells" "[Z", Cond.fieldLink RX2 15 "TeaRace$Sea" "chartThere" "[Z", Cond.classLink RX2 18 "[[B", Cond.arrayClass .byte, Cond.fieldLink RX2 20 "TeaRace$Sea" "charts" "[[B", Cond.instanceMethod yX1_init, Cond.code yX1_init cX1_init 1 none, Cond.methodLink RX1 3 objectInit, Cond.fieldLink RX1 9 "TeaRace$Passage" "hoursTo" "[I", Cond.fieldLink RX1 15 "TeaRace$Passage" "departed" "[Z", Cond.methodLink RX5 25 yJx4a65c_init_da8c8, Cond.instanceMethod yJx4a65c_init_da8c8, Cond.code yJx4a65c_init_da8c8 cJx4a65c_init_da8c8 1 none, Cond.fieldLink RJx4a65c 39 "java/util/ArrayList" "DEFAULTCAPACITY_EMPTY_ELEMENTDATA" "[Ljava/lang/Object;", Cond.fieldLink RJx4a65c 9 "java/util/ArrayList" "elementData" "[Ljava/lang/Object;", Cond.methodLink RJx4a65c 1 yJxc12de_init_da8c8, Cond.instanceMethod yJxc12de_init_da8c8, Cond.initialized RJxc12de, Cond.code yJxc12de_init_da8c8 cJxc12de_init_da8c8 1 none]
def wsX5_init_r3 : List Cond := [Cond.fieldLink RJxc12de 7 "java/util/AbstractList" "modCount" "I", Cond.methodLink RJxc12de 1 yJxa1e45_init_da8c8, Cond.instanceMethod yJxa1e45_init_da8c8, Cond.initialized RJxa1e45, Cond.code yJxa1e45_init_da8c8 cJxa1e45_init_da8c8 1 none, Cond.methodLink RJxa1e45 1 objectInit]
def wsX5_init : List Cond := .code yX5_init cX5_init 1 none :: ((wsX5_init_r1 ++ (wsX5_init_r2 ++ wsX5_init_r3)) ++ wsX20 ++ wsX50 ++ wsX10 ++ wsJx4a65c0)
def wsX5_land : List Cond := .code yX5_land cX5_land 4 (some .int) :: ([.fieldLink RX5 10 "TeaRace" "sea" "LTeaRace$Sea;", .methodLink RX5 60 yX5_outside, .static yX5_outside, .initialized RX5, .code yX5_outside cX5_outside 2 (some .boolean), .methodLink RX5 64 yX2_isLand, .instanceMethod yX2_isLand, .selects RX2 yX2_isLand yX2_isLand, .initialized RX2, .code yX2_isLand cX2_isLand 2 (some .boolean), .fieldLink RX2 9 "TeaRace$Sea" "landCells" "[Z", .methodLink RX5 68 yX2_setLand, .instanceMethod yX2_setLand, .selects RX2 yX2_setLand yX2_setLand, .code yX2_setLand cX2_setLand 3 none] ++ wsX50 ++ wsX20)
def wsX5_chart : List Cond := .code yX5_chart cX5_chart 3 (some .int) :: ([.fieldLink RX5 10 "TeaRace" "sea" "LTeaRace$Sea;", .methodLink RX5 60 yX5_outside, .static yX5_outside, .initialized RX5, .code yX5_outside cX5_outside 2 (some .boolean), .methodLink RX5 72 yX2_hasChart, .instanceMethod yX2_hasChart, .selects RX2 yX2_hasChart yX2_hasChart, .initialized RX2, .code yX2_hasChart cX2_hasChart 2 (some .boolean), .fieldLink RX2 15 "TeaRace$Sea" "chartThere" "[Z", .methodLink RX5 75 yX2_drawCalm, .instanceMethod yX2_drawCalm, .selects RX2 yX2_drawCalm yX2_drawCalm, .code yX2_drawCalm cX2_drawCalm 2 none, .fieldLink RX2 20 "TeaRace$Sea" "charts" "[[B", .methodLink RX2 27 yJ7_fill_031fb, .static yJ7_fill_031fb, .initialized RJ7, .code yJ7_fill_031fb cJ7_fill_031fb 4 none] ++ wsX50 ++ wsX20)
def wsX5_found : List Cond := .code yX5_found cX5_found 2 (some .int) :: ([.fieldLink RX5 34 "TeaRace" "latestFinding" "I", .fieldLink RX5 30 "TeaRace" "findingCounts" "[I"] ++ wsX50)
def wsX5_wind_r1 : List Cond := [Cond.fieldLink RX5 10 "TeaRace" "sea" "LTeaRace$Sea;", Cond.methodLink RX5 60 yX5_outside, Cond.static yX5_outside, Cond.initialized RX5, Cond.code yX5_outside cX5_outside 2 (some .boolean), Cond.methodLink RX5 72 yX2_hasChart, Cond.instanceMethod yX2_hasChart, Cond.selects RX2 yX2_hasChart yX2_hasChart, Cond.initialized RX2, Cond.code yX2_hasChart cX2_hasChart 2 (some .boolean), Cond.fieldLink RX2 15 "TeaRace$Sea" "chartThere" "[Z", Cond.methodLink RX5 79 yX5_found, Cond.instanceMethod yX5_found, Cond.selects RX5 yX5_found yX5_found, Cond.code yX5_found cX5_found 2 (some .int), Cond.fieldLink RX5 34 "TeaRace" "latestFinding" "I", Cond.fieldLink RX5 30 "TeaRace" "findingCounts" "[I", Cond.methodLink RX5 83 yX2_drawnAt, Cond.instanceMethod yX2_drawnAt, Cond.selects RX2 yX2_drawnAt yX2_drawnAt, Cond.code yX2_drawnAt cX2_drawnAt 3 (some .int), Cond.fieldLink RX2 20 "TeaRace$Sea" "charts" "[[B", Cond.methodLink RX2 33 yX2_hasChart, Cond.methodLink RX5 87 yX2_drawAt]
def wsX5_wind_r2 : List Cond := [Cond.instanceMethod yX2_drawAt, Cond.selects RX2 yX2_drawAt yX2_drawAt, Cond.code yX2_drawAt cX2_drawAt 4 none]
def wsX5_wind : List Cond := .code yX5_wind cX5_wind 5 (some .int) :: ((wsX5_wind_r1 ++ wsX5_wind_r2) ++ wsX50 ++ wsX20)
def wsX5_tear : List Cond := .code yX5_tear cX5_tear 2 (some .int) :: ([.fieldLink RX5 10 "TeaRace" "sea" "LTeaRace$Sea;", .methodLink RX5 60 yX5_outside, .static yX5_outside, .initialized RX5, .code yX5_outside cX5_outside 2 (some .boolean), .methodLink RX5 72 yX2_hasChart, .instanceMethod yX2_hasChart, .selects RX2 yX2_hasChart yX2_hasChart, .initialized RX2, .code yX2_hasChart cX2_hasChart 2 (some .boolean), .fieldLink RX2 15 "TeaRace$Sea" "chartThere" "[Z", .methodLink RX5 79 yX5_found, .instanceMethod yX5_found, .selects RX5 yX5_found yX5_found, .code yX5_found cX5_found 2 (some .int), .fieldLink RX5 34 "TeaRace" "latestFinding" "I", .fieldLink RX5 30 "TeaRace" "findingCounts" "[I", .methodLink RX5 91 yX2_loseChart, .instanceMethod yX2_loseChart, .selects RX2 yX2_loseChart yX2_loseChart, .code yX2_loseChart cX2_loseChart 2 none] ++ wsX50 ++ wsX20)
def wsX5_copy_r1 : List Cond := [Cond.fieldLink RX5 10 "TeaRace" "sea" "LTeaRace$Sea;", Cond.methodLink RX5 60 yX5_outside, Cond.static yX5_outside, Cond.initialized RX5, Cond.code yX5_outside cX5_outside 2 (some .boolean), Cond.methodLink RX5 79 yX5_found, Cond.instanceMethod yX5_found, Cond.selects RX5 yX5_found yX5_found, Cond.code yX5_found cX5_found 2 (some .int), Cond.fieldLink RX5 34 "TeaRace" "latestFinding" "I", Cond.fieldLink RX5 30 "TeaRace" "findingCounts" "[I", Cond.methodLink RX5 72 yX2_hasChart, Cond.instanceMethod yX2_hasChart, Cond.selects RX2 yX2_hasChart yX2_hasChart, Cond.initialized RX2, Cond.code yX2_hasChart cX2_hasChart 2 (some .boolean), Cond.fieldLink RX2 15 "TeaRace$Sea" "chartThere" "[Z", Cond.methodLink RX5 94 yX2_copyChart, Cond.instanceMethod yX2_copyChart, Cond.selects RX2 yX2_copyChart yX2_copyChart, Cond.code yX2_copyChart cX2_copyChart 6 none, Cond.fieldLink RX2 20 "TeaRace$Sea" "charts" "[[B", Cond.methodLink RX2 37 arraycopyName, Cond.native arraycopyName]
def wsX5_copy_r2 : List Cond := [Cond.static arraycopyName, Cond.initialized "java/lang/System", Cond.methodLink RX2 33 yX2_hasChart]
def wsX5_copy : List Cond := .code yX5_copy cX5_copy 6 (some .int) :: ((wsX5_copy_r1 ++ wsX5_copy_r2) ++ wsX50 ++ wsX20)
def wsX5_mean_r1 : List Cond := [Cond.fieldLink RX5 10 "TeaRace" "sea" "LTeaRace$Sea;", Cond.methodLink RX5 60 yX5_outside, Cond.static yX5_outside, Cond.initialized RX5, Cond.code yX5_outside cX5_outside 2 (some .boolean), Cond.methodLink RX5 72 yX2_hasChart, Cond.instanceMethod yX2_hasChart, Cond.selects RX2 yX2_hasChart yX2_hasChart, Cond.initialized RX2, Cond.code yX2_hasChart cX2_hasChart 2 (some .boolean), Cond.fieldLink RX2 15 "TeaRace$Sea" "chartThere" "[Z", Cond.methodLink RX5 79 yX5_found, Cond.instanceMethod yX5_found, Cond.selects RX5 yX5_found yX5_found, Cond.code yX5_found cX5_found 2 (some .int), Cond.fieldLink RX5 34 "TeaRace" "latestFinding" "I", Cond.fieldLink RX5 30 "TeaRace" "findingCounts" "[I", Cond.methodLink RX5 98 yX2_windIn, Cond.instanceMethod yX2_windIn, Cond.selects RX2 yX2_windIn yX2_windIn, Cond.code yX2_windIn cX2_windIn 4 (some .int), Cond.fieldLink RX2 20 "TeaRace$Sea" "charts" "[[B", Cond.methodLink RX5 101 yX5_strengthOf, Cond.static yX5_strengthOf]
def wsX5_mean_r2 : List Cond := [Cond.code yX5_strengthOf cX5_strengthOf 1 (some .int)]
def wsX5_mean : List Cond := .code yX5_mean cX5_mean 4 (some .int) :: ((wsX5_mean_r1 ++ wsX5_mean_r2) ++ wsX50 ++ wsX20)
def wsX5_isNoWater : List Cond := .code yX5_isNoWater cX5_isNoWater 2 (some .boolean) :: ([.fieldLink RX5 10 "TeaRace" "sea" "LTeaRace$Sea;", .methodLink RX5 60 yX5_outside, .static yX5_outside, .initialized RX5, .code yX5_outside cX5_outside 2 (some .boolean), .methodLink RX5 64 yX2_isLand, .instanceMethod yX2_isLand, .selects RX2 yX2_isLand yX2_isLand, .initialized RX2, .code yX2_isLand cX2_isLand 2 (some .boolean), .fieldLink RX2 9 "TeaRace$Sea" "landCells" "[Z"] ++ wsX50 ++ wsX20)
def wsJ8_hugeLength_7cf53 : List Cond := .code yJ8_hugeLength_7cf53 cJ8_hugeLength_7cf53 3 (some .int) :: ([.constant RJ8 200 (2147483639)])
def wsJ8_newLength_cabcc : List Cond := .code yJ8_newLength_cabcc cJ8_newLength_cabcc 4 (some .int) :: ([.methodLink RJ8 194 Lib.Math.max.name, .static Lib.Math.max.name, .initialized "java/lang/Math", .code Lib.Math.max.name Lib.Math.max.code 2 (some .int), .constant RJ8 200 (2147483639), .methodLink RJ8 201 yJ8_hugeLength_7cf53, .static yJ8_hugeLength_7cf53, .initialized RJ8, .code yJ8_hugeLength_7cf53 cJ8_hugeLength_7cf53 3 (some .int)])
def wsJ7_copyOf_6403c : List Cond := .code yJ7_copyOf_6403c cJ7_copyOf_6403c 4 (some (.array (.object "java/lang/Object"))) :: ([.classLink RJ7 110 "[Ljava/lang/Object;", .classLink RJ7 2 "java/lang/Object", .methodLink RJ7 304 Lib.Math.min.name, .static Lib.Math.min.name, .initialized "java/lang/Math", .code Lib.Math.min.name Lib.Math.min.code 2 (some .int), .methodLink RJ7 150 arraycopyName, .native arraycopyName, .static arraycopyName, .initialized "java/lang/System"])
def wsJ7_copyOf_1904c : List Cond := .code yJ7_copyOf_1904c cJ7_copyOf_1904c 2 (some (.array (.object "java/lang/Object"))) :: ([.methodLink RJ7 86 ⟨"java/lang/Object", "getClass", "()Ljava/lang/Class;"⟩, .selects "[Ljava/lang/Object;" ⟨"java/lang/Object", "getClass", "()Ljava/lang/Class;"⟩ ⟨"java/lang/Object", "getClass", "()Ljava/lang/Class;"⟩, .instanceMethod ⟨"java/lang/Object", "getClass", "()Ljava/lang/Class;"⟩, .native ⟨"java/lang/Object", "getClass", "()Ljava/lang/Class;"⟩, .methodLink RJ7 300 yJ7_copyOf_6403c, .static yJ7_copyOf_6403c, .initialized RJ7, .code yJ7_copyOf_6403c cJ7_copyOf_6403c 4 (some (.array (.object "java/lang/Object"))), .classLink RJ7 110 "[Ljava/lang/Object;", .classLink RJ7 2 "java/lang/Object", .methodLink RJ7 304 Lib.Math.min.name, .static Lib.Math.min.name, .initialized "java/lang/Math", .code Lib.Math.min.name Lib.Math.min.code 2 (some .int), .methodLink RJ7 150 arraycopyName, .native arraycopyName, .static arraycopyName, .initialized "java/lang/System"])
def wsJx4a65c_grow_92f84_r1 : List Cond := [Cond.fieldLink RJx4a65c 9 "java/util/ArrayList" "elementData" "[Ljava/lang/Object;", Cond.fieldLink RJx4a65c 39 "java/util/ArrayList" "DEFAULTCAPACITY_EMPTY_ELEMENTDATA" "[Ljava/lang/Object;", Cond.methodLink RJx4a65c 79 Lib.Math.max.name, Cond.static Lib.Math.max.name, Cond.initialized "java/lang/Math", Cond.code Lib.Math.max.name Lib.Math.max.code 2 (some .int), Cond.classLink RJx4a65c 7 "java/lang/Object", Cond.methodLink RJx4a65c 73 yJ8_newLength_cabcc, Cond.static yJ8_newLength_cabcc, Cond.initialized RJ8, Cond.code yJ8_newLength_cabcc cJ8_newLength_cabcc 4 (some .int), Cond.methodLink RJ8 194 Lib.Math.max.name, Cond.constant RJ8 200 (2147483639), Cond.methodLink RJ8 201 yJ8_hugeLength_7cf53, Cond.static yJ8_hugeLength_7cf53, Cond.code yJ8_hugeLength_7cf53 cJ8_hugeLength_7cf53 3 (some .int), Cond.methodLink RJx4a65c 66 yJ7_copyOf_1904c, Cond.static yJ7_copyOf_1904c, Cond.initialized RJ7, Cond.code yJ7_copyOf_1904c cJ7_copyOf_1904c 2 (some (.array (.object "java/lang/Object"))), Cond.methodLink RJ7 86 ⟨"java/lang/Object", "getClass", "()Ljava/lang/Class;"⟩, Cond.selects "[Ljava/lang/Object;" ⟨"java/lang/Object", "getClass", "()Ljava/lang/Class;"⟩ ⟨"java/lang/Object", "getClass", "()Ljava/lang/Class;"⟩, Cond.instanceMethod ⟨"java/lang/Object", "getClass", "()Ljava/lang/Class;"⟩, Cond.native ⟨"java/lang/Object", "getClass", "()Ljava/lang/Class;"⟩]
def wsJx4a65c_grow_92f84_r2 : List Cond := [Cond.methodLink RJ7 300 yJ7_copyOf_6403c, Cond.static yJ7_copyOf_6403c, Cond.code yJ7_copyOf_6403c cJ7_copyOf_6403c 4 (some (.array (.object "java/lang/Object"))), Cond.classLink RJ7 110 "[Ljava/lang/Object;", Cond.classLink RJ7 2 "java/lang/Object", Cond.methodLink RJ7 304 Lib.Math.min.name, Cond.static Lib.Math.min.name, Cond.code Lib.Math.min.name Lib.Math.min.code 2 (some .int), Cond.methodLink RJ7 150 arraycopyName, Cond.native arraycopyName, Cond.static arraycopyName, Cond.initialized "java/lang/System"]
def wsJx4a65c_grow_92f84 : List Cond := .code yJx4a65c_grow_92f84 cJx4a65c_grow_92f84 4 (some (.array (.object "java/lang/Object"))) :: ((wsJx4a65c_grow_92f84_r1 ++ wsJx4a65c_grow_92f84_r2) ++ wsJx4a65c0)
def wsJx4a65c_grow_d5877_r1 : List Cond := [Cond.fieldLink RJx4a65c 48 "java/util/ArrayList" "size" "I", Cond.methodLink RJx4a65c 69 yJx4a65c_grow_92f84, Cond.instanceMethod yJx4a65c_grow_92f84, Cond.selects RJx4a65c yJx4a65c_grow_92f84 yJx4a65c_grow_92f84, Cond.initialized RJx4a65c, Cond.code yJx4a65c_grow_92f84 cJx4a65c_grow_92f84 4 (some (.array (.object "java/lang/Object"))), Cond.fieldLink RJx4a65c 9 "java/util/ArrayList" "elementData" "[Ljava/lang/Object;", Cond.fieldLink RJx4a65c 39 "java/util/ArrayList" "DEFAULTCAPACITY_EMPTY_ELEMENTDATA" "[Ljava/lang/Object;", Cond.methodLink RJx4a65c 79 Lib.Math.max.name, Cond.static Lib.Math.max.name, Cond.initialized "java/lang/Math", Cond.code Lib.Math.max.name Lib.Math.max.code 2 (some .int), Cond.classLink RJx4a65c 7 "java/lang/Object", Cond.methodLink RJx4a65c 73 yJ8_newLength_cabcc, Cond.static yJ8_newLength_cabcc, Cond.initialized RJ8, Cond.code yJ8_newLength_cabcc cJ8_newLength_cabcc 4 (some .int), Cond.methodLink RJ8 194 Lib.Math.max.name, Cond.constant RJ8 200 (2147483639), Cond.methodLink RJ8 201 yJ8_hugeLength_7cf53, Cond.static yJ8_hugeLength_7cf53, Cond.code yJ8_hugeLength_7cf53 cJ8_hugeLength_7cf53 3 (some .int), Cond.methodLink RJx4a65c 66 yJ7_copyOf_1904c, Cond.static yJ7_copyOf_1904c]
def wsJx4a65c_grow_d5877_r2 : List Cond := [Cond.initialized RJ7, Cond.code yJ7_copyOf_1904c cJ7_copyOf_1904c 2 (some (.array (.object "java/lang/Object"))), Cond.methodLink RJ7 86 ⟨"java/lang/Object", "getClass", "()Ljava/lang/Class;"⟩, Cond.selects "[Ljava/lang/Object;" ⟨"java/lang/Object", "getClass", "()Ljava/lang/Class;"⟩ ⟨"java/lang/Object", "getClass", "()Ljava/lang/Class;"⟩, Cond.instanceMethod ⟨"java/lang/Object", "getClass", "()Ljava/lang/Class;"⟩, Cond.native ⟨"java/lang/Object", "getClass", "()Ljava/lang/Class;"⟩, Cond.methodLink RJ7 300 yJ7_copyOf_6403c, Cond.static yJ7_copyOf_6403c, Cond.code yJ7_copyOf_6403c cJ7_copyOf_6403c 4 (some (.array (.object "java/lang/Object"))), Cond.classLink RJ7 110 "[Ljava/lang/Object;", Cond.classLink RJ7 2 "java/lang/Object", Cond.methodLink RJ7 304 Lib.Math.min.name, Cond.static Lib.Math.min.name, Cond.code Lib.Math.min.name Lib.Math.min.code 2 (some .int), Cond.methodLink RJ7 150 arraycopyName, Cond.native arraycopyName, Cond.static arraycopyName, Cond.initialized "java/lang/System"]
def wsJx4a65c_grow_d5877 : List Cond := .code yJx4a65c_grow_d5877 cJx4a65c_grow_d5877 1 (some (.array (.object "java/lang/Object"))) :: ((wsJx4a65c_grow_d5877_r1 ++ wsJx4a65c_grow_d5877_r2) ++ wsJx4a65c0)
def wsJx4a65c_add_72be8_r1 : List Cond := [Cond.fieldLink RJx4a65c 48 "java/util/ArrayList" "size" "I", Cond.methodLink RJx4a65c 129 yJx4a65c_grow_d5877, Cond.instanceMethod yJx4a65c_grow_d5877, Cond.selects RJx4a65c yJx4a65c_grow_d5877 yJx4a65c_grow_d5877, Cond.initialized RJx4a65c, Cond.code yJx4a65c_grow_d5877 cJx4a65c_grow_d5877 1 (some (.array (.object "java/lang/Object"))), Cond.methodLink RJx4a65c 69 yJx4a65c_grow_92f84, Cond.instanceMethod yJx4a65c_grow_92f84, Cond.selects RJx4a65c yJx4a65c_grow_92f84 yJx4a65c_grow_92f84, Cond.code yJx4a65c_grow_92f84 cJx4a65c_grow_92f84 4 (some (.array (.object "java/lang/Object"))), Cond.fieldLink RJx4a65c 9 "java/util/ArrayList" "elementData" "[Ljava/lang/Object;", Cond.fieldLink RJx4a65c 39 "java/util/ArrayList" "DEFAULTCAPACITY_EMPTY_ELEMENTDATA" "[Ljava/lang/Object;", Cond.methodLink RJx4a65c 79 Lib.Math.max.name, Cond.static Lib.Math.max.name, Cond.initialized "java/lang/Math", Cond.code Lib.Math.max.name Lib.Math.max.code 2 (some .int), Cond.classLink RJx4a65c 7 "java/lang/Object", Cond.methodLink RJx4a65c 73 yJ8_newLength_cabcc, Cond.static yJ8_newLength_cabcc, Cond.initialized RJ8, Cond.code yJ8_newLength_cabcc cJ8_newLength_cabcc 4 (some .int), Cond.methodLink RJ8 194 Lib.Math.max.name, Cond.constant RJ8 200 (2147483639), Cond.methodLink RJ8 201 yJ8_hugeLength_7cf53]
def wsJx4a65c_add_72be8_r2 : List Cond := [Cond.static yJ8_hugeLength_7cf53, Cond.code yJ8_hugeLength_7cf53 cJ8_hugeLength_7cf53 3 (some .int), Cond.methodLink RJx4a65c 66 yJ7_copyOf_1904c, Cond.static yJ7_copyOf_1904c, Cond.initialized RJ7, Cond.code yJ7_copyOf_1904c cJ7_copyOf_1904c 2 (some (.array (.object "java/lang/Object"))), Cond.methodLink RJ7 86 ⟨"java/lang/Object", "getClass", "()Ljava/lang/Class;"⟩, Cond.selects "[Ljava/lang/Object;" ⟨"java/lang/Object", "getClass", "()Ljava/lang/Class;"⟩ ⟨"java/lang/Object", "getClass", "()Ljava/lang/Class;"⟩, Cond.instanceMethod ⟨"java/lang/Object", "getClass", "()Ljava/lang/Class;"⟩, Cond.native ⟨"java/lang/Object", "getClass", "()Ljava/lang/Class;"⟩, Cond.methodLink RJ7 300 yJ7_copyOf_6403c, Cond.static yJ7_copyOf_6403c, Cond.code yJ7_copyOf_6403c cJ7_copyOf_6403c 4 (some (.array (.object "java/lang/Object"))), Cond.classLink RJ7 110 "[Ljava/lang/Object;", Cond.classLink RJ7 2 "java/lang/Object", Cond.methodLink RJ7 304 Lib.Math.min.name, Cond.static Lib.Math.min.name, Cond.code Lib.Math.min.name Lib.Math.min.code 2 (some .int), Cond.methodLink RJ7 150 arraycopyName, Cond.native arraycopyName, Cond.static arraycopyName, Cond.initialized "java/lang/System"]
def wsJx4a65c_add_72be8 : List Cond := .code yJx4a65c_add_72be8 cJx4a65c_add_72be8 4 none :: ((wsJx4a65c_add_72be8_r1 ++ wsJx4a65c_add_72be8_r2) ++ wsJx4a65c0)
def wsJx4a65c_add_9ea2d_r1 : List Cond := [Cond.fieldLink RJx4a65c 63 "java/util/ArrayList" "modCount" "I", Cond.sameField "java/util/ArrayList" "java/util/AbstractList" "modCount" "I", Cond.fieldLink RJx4a65c 9 "java/util/ArrayList" "elementData" "[Ljava/lang/Object;", Cond.fieldLink RJx4a65c 48 "java/util/ArrayList" "size" "I", Cond.methodLink RJx4a65c 131 yJx4a65c_add_72be8, Cond.instanceMethod yJx4a65c_add_72be8, Cond.selects RJx4a65c yJx4a65c_add_72be8 yJx4a65c_add_72be8, Cond.initialized RJx4a65c, Cond.code yJx4a65c_add_72be8 cJx4a65c_add_72be8 4 none, Cond.methodLink RJx4a65c 129 yJx4a65c_grow_d5877, Cond.instanceMethod yJx4a65c_grow_d5877, Cond.selects RJx4a65c yJx4a65c_grow_d5877 yJx4a65c_grow_d5877, Cond.code yJx4a65c_grow_d5877 cJx4a65c_grow_d5877 1 (some (.array (.object "java/lang/Object"))), Cond.methodLink RJx4a65c 69 yJx4a65c_grow_92f84, Cond.instanceMethod yJx4a65c_grow_92f84, Cond.selects RJx4a65c yJx4a65c_grow_92f84 yJx4a65c_grow_92f84, Cond.code yJx4a65c_grow_92f84 cJx4a65c_grow_92f84 4 (some (.array (.object "java/lang/Object"))), Cond.fieldLink RJx4a65c 39 "java/util/ArrayList" "DEFAULTCAPACITY_EMPTY_ELEMENTDATA" "[Ljava/lang/Object;", Cond.methodLink RJx4a65c 79 Lib.Math.max.name, Cond.static Lib.Math.max.name, Cond.initialized "java/lang/Math", Cond.code Lib.Math.max.name Lib.Math.max.code 2 (some .int), Cond.classLink RJx4a65c 7 "java/lang/Object", Cond.methodLink RJx4a65c 73 yJ8_newLength_cabcc]
def wsJx4a65c_add_9ea2d_r2 : List Cond := [Cond.static yJ8_newLength_cabcc, Cond.initialized RJ8, Cond.code yJ8_newLength_cabcc cJ8_newLength_cabcc 4 (some .int), Cond.methodLink RJ8 194 Lib.Math.max.name, Cond.constant RJ8 200 (2147483639), Cond.methodLink RJ8 201 yJ8_hugeLength_7cf53, Cond.static yJ8_hugeLength_7cf53, Cond.code yJ8_hugeLength_7cf53 cJ8_hugeLength_7cf53 3 (some .int), Cond.methodLink RJx4a65c 66 yJ7_copyOf_1904c, Cond.static yJ7_copyOf_1904c, Cond.initialized RJ7, Cond.code yJ7_copyOf_1904c cJ7_copyOf_1904c 2 (some (.array (.object "java/lang/Object"))), Cond.methodLink RJ7 86 ⟨"java/lang/Object", "getClass", "()Ljava/lang/Class;"⟩, Cond.selects "[Ljava/lang/Object;" ⟨"java/lang/Object", "getClass", "()Ljava/lang/Class;"⟩ ⟨"java/lang/Object", "getClass", "()Ljava/lang/Class;"⟩, Cond.instanceMethod ⟨"java/lang/Object", "getClass", "()Ljava/lang/Class;"⟩, Cond.native ⟨"java/lang/Object", "getClass", "()Ljava/lang/Class;"⟩, Cond.methodLink RJ7 300 yJ7_copyOf_6403c, Cond.static yJ7_copyOf_6403c, Cond.code yJ7_copyOf_6403c cJ7_copyOf_6403c 4 (some (.array (.object "java/lang/Object"))), Cond.classLink RJ7 110 "[Ljava/lang/Object;", Cond.classLink RJ7 2 "java/lang/Object", Cond.methodLink RJ7 304 Lib.Math.min.name, Cond.static Lib.Math.min.name, Cond.code Lib.Math.min.name Lib.Math.min.code 2 (some .int)]
def wsJx4a65c_add_9ea2d_r3 : List Cond := [Cond.methodLink RJ7 150 arraycopyName, Cond.native arraycopyName, Cond.static arraycopyName, Cond.initialized "java/lang/System"]
def wsJx4a65c_add_9ea2d : List Cond := .code yJx4a65c_add_9ea2d cJx4a65c_add_9ea2d 2 (some .boolean) :: ((wsJx4a65c_add_9ea2d_r1 ++ (wsJx4a65c_add_9ea2d_r2 ++ wsJx4a65c_add_9ea2d_r3)) ++ wsJx4a65c0)
def wsX5_ship_r1 : List Cond := [Cond.fieldLink RX5 26 "TeaRace" "fleet" "Ljava/util/List;", Cond.fieldLink RX5 38 "TeaRace" "hour" "I", Cond.classLink RX5 113 RX3, Cond.instantiable RX3 14, Cond.initialized RX3, Cond.methodLink RX5 60 yX5_outside, Cond.static yX5_outside, Cond.initialized RX5, Cond.code yX5_outside cX5_outside 2 (some .boolean), Cond.methodLink RX5 104 yX5_isNoWater, Cond.instanceMethod yX5_isNoWater, Cond.selects RX5 yX5_isNoWater yX5_isNoWater, Cond.code yX5_isNoWater cX5_isNoWater 2 (some .boolean), Cond.fieldLink RX5 10 "TeaRace" "sea" "LTeaRace$Sea;", Cond.methodLink RX5 64 yX2_isLand, Cond.instanceMethod yX2_isLand, Cond.selects RX2 yX2_isLand yX2_isLand, Cond.initialized RX2, Cond.code yX2_isLand cX2_isLand 2 (some .boolean), Cond.fieldLink RX2 9 "TeaRace$Sea" "landCells" "[Z", Cond.methodLink RX5 107 ⟨"java/util/List", "size", "()I"⟩, Cond.selects RJx4a65c ⟨"java/util/List", "size", "()I"⟩ yJx4a65c_size_8abf5, Cond.instanceMethod yJx4a65c_size_8abf5, Cond.initialized RJx4a65c]
def wsX5_ship_r2 : List Cond := [Cond.code yJx4a65c_size_8abf5 cJx4a65c_size_8abf5 1 (some .int), Cond.fieldLink RJx4a65c 48 "java/util/ArrayList" "size" "I", Cond.methodLink RX5 115 yX3_init, Cond.instanceMethod yX3_init, Cond.code yX3_init cX3_init 5 none, Cond.methodLink RX3 3 objectInit, Cond.instanceMethod objectInit, Cond.code objectInit ⟨#[0xb1]⟩ 1 none, Cond.classLink RX3 9 RJx4a65c, Cond.instantiable RJx4a65c 3, Cond.fieldLink RX3 12 "TeaRace$Ship" "orders" "Ljava/util/List;", Cond.fieldLink RX3 18 "TeaRace$Ship" "sights" "Ljava/util/List;", Cond.fieldLink RX3 21 "TeaRace$Ship" "gone" "I", Cond.fieldLink RX3 25 "TeaRace$Ship" "way" "I", Cond.fieldLink RX3 28 "TeaRace$Ship" "foulness" "I", Cond.fieldLink RX3 31 "TeaRace$Ship" "cellsComeTo" "I", Cond.fieldLink RX3 34 "TeaRace$Ship" "homeHour" "I", Cond.fieldLink RX3 37 "TeaRace$Ship" "entry" "I", Cond.fieldLink RX3 40 "TeaRace$Ship" "rate" "I", Cond.fieldLink RX3 43 "TeaRace$Ship" "premium" "I", Cond.fieldLink RX3 46 "TeaRace$Ship" "number" "I", Cond.fieldLink RX3 49 "TeaRace$Ship" "kind" "I", Cond.fieldLink RX3 52 "TeaRace$Ship" "cell" "I", Cond.fieldLink RX3 55 "TeaRace$Ship" "chests" "I"]
def wsX5_ship_r3 : List Cond := [Cond.methodLink RX3 11 yJx4a65c_init_da8c8, Cond.instanceMethod yJx4a65c_init_da8c8, Cond.code yJx4a65c_init_da8c8 cJx4a65c_init_da8c8 1 none, Cond.fieldLink RJx4a65c 39 "java/util/ArrayList" "DEFAULTCAPACITY_EMPTY_ELEMENTDATA" "[Ljava/lang/Object;", Cond.fieldLink RJx4a65c 9 "java/util/ArrayList" "elementData" "[Ljava/lang/Object;", Cond.methodLink RJx4a65c 1 yJxc12de_init_da8c8, Cond.instanceMethod yJxc12de_init_da8c8, Cond.initialized RJxc12de, Cond.code yJxc12de_init_da8c8 cJxc12de_init_da8c8 1 none, Cond.fieldLink RJxc12de 7 "java/util/AbstractList" "modCount" "I", Cond.methodLink RJxc12de 1 yJxa1e45_init_da8c8, Cond.instanceMethod yJxa1e45_init_da8c8, Cond.initialized RJxa1e45, Cond.code yJxa1e45_init_da8c8 cJxa1e45_init_da8c8 1 none, Cond.methodLink RJxa1e45 1 objectInit, Cond.methodLink RX5 118 ⟨"java/util/List", "add", "(Ljava/lang/Object;)Z"⟩, Cond.selects RJx4a65c ⟨"java/util/List", "add", "(Ljava/lang/Object;)Z"⟩ yJx4a65c_add_9ea2d, Cond.instanceMethod yJx4a65c_add_9ea2d, Cond.code yJx4a65c_add_9ea2d cJx4a65c_add_9ea2d 2 (some .boolean), Cond.fieldLink RJx4a65c 63 "java/util/ArrayList" "modCount" "I", Cond.sameField "java/util/ArrayList" "java/util/AbstractList" "modCount" "I", Cond.methodLink RJx4a65c 131 yJx4a65c_add_72be8, Cond.instanceMethod yJx4a65c_add_72be8, Cond.selects RJx4a65c yJx4a65c_add_72be8 yJx4a65c_add_72be8]
def wsX5_ship_r4 : List Cond := [Cond.code yJx4a65c_add_72be8 cJx4a65c_add_72be8 4 none, Cond.methodLink RJx4a65c 129 yJx4a65c_grow_d5877, Cond.instanceMethod yJx4a65c_grow_d5877, Cond.selects RJx4a65c yJx4a65c_grow_d5877 yJx4a65c_grow_d5877, Cond.code yJx4a65c_grow_d5877 cJx4a65c_grow_d5877 1 (some (.array (.object "java/lang/Object"))), Cond.methodLink RJx4a65c 69 yJx4a65c_grow_92f84, Cond.instanceMethod yJx4a65c_grow_92f84, Cond.selects RJx4a65c yJx4a65c_grow_92f84 yJx4a65c_grow_92f84, Cond.code yJx4a65c_grow_92f84 cJx4a65c_grow_92f84 4 (some (.array (.object "java/lang/Object"))), Cond.methodLink RJx4a65c 79 Lib.Math.max.name, Cond.static Lib.Math.max.name, Cond.initialized "java/lang/Math", Cond.code Lib.Math.max.name Lib.Math.max.code 2 (some .int), Cond.classLink RJx4a65c 7 "java/lang/Object", Cond.methodLink RJx4a65c 73 yJ8_newLength_cabcc, Cond.static yJ8_newLength_cabcc, Cond.initialized RJ8, Cond.code yJ8_newLength_cabcc cJ8_newLength_cabcc 4 (some .int), Cond.methodLink RJ8 194 Lib.Math.max.name, Cond.constant RJ8 200 (2147483639), Cond.methodLink RJ8 201 yJ8_hugeLength_7cf53, Cond.static yJ8_hugeLength_7cf53, Cond.code yJ8_hugeLength_7cf53 cJ8_hugeLength_7cf53 3 (some .int), Cond.methodLink RJx4a65c 66 yJ7_copyOf_1904c]
def wsX5_ship_r5 : List Cond := [Cond.static yJ7_copyOf_1904c, Cond.initialized RJ7, Cond.code yJ7_copyOf_1904c cJ7_copyOf_1904c 2 (some (.array (.object "java/lang/Object"))), Cond.methodLink RJ7 86 ⟨"java/lang/Object", "getClass", "()Ljava/lang/Class;"⟩, Cond.selects "[Ljava/lang/Object;" ⟨"java/lang/Object", "getClass", "()Ljava/lang/Class;"⟩ ⟨"java/lang/Object", "getClass", "()Ljava/lang/Class;"⟩, Cond.instanceMethod ⟨"java/lang/Object", "getClass", "()Ljava/lang/Class;"⟩, Cond.native ⟨"java/lang/Object", "getClass", "()Ljava/lang/Class;"⟩, Cond.methodLink RJ7 300 yJ7_copyOf_6403c, Cond.static yJ7_copyOf_6403c, Cond.code yJ7_copyOf_6403c cJ7_copyOf_6403c 4 (some (.array (.object "java/lang/Object"))), Cond.classLink RJ7 110 "[Ljava/lang/Object;", Cond.classLink RJ7 2 "java/lang/Object", Cond.methodLink RJ7 304 Lib.Math.min.name, Cond.static Lib.Math.min.name, Cond.code Lib.Math.min.name Lib.Math.min.code 2 (some .int), Cond.methodLink RJ7 150 arraycopyName, Cond.native arraycopyName, Cond.static arraycopyName, Cond.initialized "java/lang/System"]
def wsX5_ship : List Cond := .code yX5_ship cX5_ship 5 (some .int) :: ((wsX5_ship_r1 ++ (wsX5_ship_r2 ++ (wsX5_ship_r3 ++ (wsX5_ship_r4 ++ wsX5_ship_r5)))) ++ wsX50 ++ wsX30 ++ wsX20 ++ wsJx4a65c0)
def wsX5_shipOf_r1 : List Cond := [Cond.fieldLink RX5 26 "TeaRace" "fleet" "Ljava/util/List;", Cond.classLink RX5 113 "TeaRace$Ship", Cond.methodLink RX5 107 ⟨"java/util/List", "size", "()I"⟩, Cond.selects RJx4a65c ⟨"java/util/List", "size", "()I"⟩ yJx4a65c_size_8abf5, Cond.instanceMethod yJx4a65c_size_8abf5, Cond.initialized RJx4a65c, Cond.code yJx4a65c_size_8abf5 cJx4a65c_size_8abf5 1 (some .int), Cond.fieldLink RJx4a65c 48 "java/util/ArrayList" "size" "I", Cond.methodLink RX5 175 ⟨"java/util/List", "get", "(I)Ljava/lang/Object;"⟩, Cond.selects RJx4a65c ⟨"java/util/List", "get", "(I)Ljava/lang/Object;"⟩ yJx4a65c_get_915e3, Cond.instanceMethod yJx4a65c_get_915e3, Cond.code yJx4a65c_get_915e3 cJx4a65c_get_915e3 2 (some (.object "java/lang/Object")), Cond.methodLink RJx4a65c 118 yJ15_checkIndex_7cf53, Cond.static yJ15_checkIndex_7cf53, Cond.initialized RJ15, Cond.code yJ15_checkIndex_7cf53 cJ15_checkIndex_7cf53 2 (some .int), Cond.methodLink RJ15 105 yJ3_checkIndex_8e157, Cond.static yJ3_checkIndex_8e157, Cond.initialized RJ3, Cond.code yJ3_checkIndex_8e157 cJ3_checkIndex_8e157 3 (some .int), Cond.methodLink RJx4a65c 123 yJx4a65c_elementData_915e3, Cond.instanceMethod yJx4a65c_elementData_915e3, Cond.selects RJx4a65c yJx4a65c_elementData_915e3 yJx4a65c_elementData_915e3, Cond.code yJx4a65c_elementData_915e3 cJx4a65c_elementData_915e3 2 (some (.object "java/lang/Object"))]
def wsX5_shipOf_r2 : List Cond := [Cond.fieldLink RJx4a65c 9 "java/util/ArrayList" "elementData" "[Ljava/lang/Object;"]
def wsX5_shipOf : List Cond := .code yX5_shipOf cX5_shipOf 2 (some (.object "TeaRace$Ship")) :: ((wsX5_shipOf_r1 ++ wsX5_shipOf_r2) ++ wsX50 ++ wsJx4a65c0)
def wsX5_foul_r1 : List Cond := [Cond.fieldLink RX5 126 "TeaRace$Ship" "foulness" "I", Cond.methodLink RX5 122 yX5_shipOf, Cond.instanceMethod yX5_shipOf, Cond.selects RX5 yX5_shipOf yX5_shipOf, Cond.initialized RX5, Cond.code yX5_shipOf cX5_shipOf 2 (some (.object "TeaRace$Ship")), Cond.fieldLink RX5 26 "TeaRace" "fleet" "Ljava/util/List;", Cond.classLink RX5 113 "TeaRace$Ship", Cond.methodLink RX5 107 ⟨"java/util/List", "size", "()I"⟩, Cond.selects RJx4a65c ⟨"java/util/List", "size", "()I"⟩ yJx4a65c_size_8abf5, Cond.instanceMethod yJx4a65c_size_8abf5, Cond.initialized RJx4a65c, Cond.code yJx4a65c_size_8abf5 cJx4a65c_size_8abf5 1 (some .int), Cond.fieldLink RJx4a65c 48 "java/util/ArrayList" "size" "I", Cond.methodLink RX5 175 ⟨"java/util/List", "get", "(I)Ljava/lang/Object;"⟩, Cond.selects RJx4a65c ⟨"java/util/List", "get", "(I)Ljava/lang/Object;"⟩ yJx4a65c_get_915e3, Cond.instanceMethod yJx4a65c_get_915e3, Cond.code yJx4a65c_get_915e3 cJx4a65c_get_915e3 2 (some (.object "java/lang/Object")), Cond.methodLink RJx4a65c 118 yJ15_checkIndex_7cf53, Cond.static yJ15_checkIndex_7cf53, Cond.initialized RJ15, Cond.code yJ15_checkIndex_7cf53 cJ15_checkIndex_7cf53 2 (some .int), Cond.methodLink RJ15 105 yJ3_checkIndex_8e157, Cond.static yJ3_checkIndex_8e157]
def wsX5_foul_r2 : List Cond := [Cond.initialized RJ3, Cond.code yJ3_checkIndex_8e157 cJ3_checkIndex_8e157 3 (some .int), Cond.methodLink RJx4a65c 123 yJx4a65c_elementData_915e3, Cond.instanceMethod yJx4a65c_elementData_915e3, Cond.selects RJx4a65c yJx4a65c_elementData_915e3 yJx4a65c_elementData_915e3, Cond.code yJx4a65c_elementData_915e3 cJx4a65c_elementData_915e3 2 (some (.object "java/lang/Object")), Cond.fieldLink RJx4a65c 9 "java/util/ArrayList" "elementData" "[Ljava/lang/Object;", Cond.methodLink RX5 60 yX5_outside, Cond.static yX5_outside, Cond.code yX5_outside cX5_outside 2 (some .boolean)]
def wsX5_foul : List Cond := .code yX5_foul cX5_foul 5 (some .int) :: ((wsX5_foul_r1 ++ wsX5_foul_r2) ++ wsX30 ++ wsX50 ++ wsJx4a65c0)
def wsX5_told_r1 : List Cond := [Cond.fieldLink RX5 129 "TeaRace$Ship" "kind" "I", Cond.fieldLink RX5 132 "TeaRace$Ship" "cell" "I", Cond.fieldLink RX5 135 "TeaRace$Ship" "gone" "I", Cond.fieldLink RX5 138 "TeaRace$Ship" "way" "I", Cond.fieldLink RX5 141 "TeaRace$Ship" "homeHour" "I", Cond.fieldLink RX5 144 "TeaRace$Ship" "entry" "I", Cond.fieldLink RX5 147 "TeaRace$Ship" "chests" "I", Cond.methodLink RX5 122 yX5_shipOf, Cond.instanceMethod yX5_shipOf, Cond.selects RX5 yX5_shipOf yX5_shipOf, Cond.initialized RX5, Cond.code yX5_shipOf cX5_shipOf 2 (some (.object "TeaRace$Ship")), Cond.fieldLink RX5 26 "TeaRace" "fleet" "Ljava/util/List;", Cond.classLink RX5 113 "TeaRace$Ship", Cond.methodLink RX5 107 ⟨"java/util/List", "size", "()I"⟩, Cond.selects RJx4a65c ⟨"java/util/List", "size", "()I"⟩ yJx4a65c_size_8abf5, Cond.instanceMethod yJx4a65c_size_8abf5, Cond.initialized RJx4a65c, Cond.code yJx4a65c_size_8abf5 cJx4a65c_size_8abf5 1 (some .int), Cond.fieldLink RJx4a65c 48 "java/util/ArrayList" "size" "I", Cond.methodLink RX5 175 ⟨"java/util/List", "get", "(I)Ljava/lang/Object;"⟩, Cond.selects RJx4a65c ⟨"java/util/List", "get", "(I)Ljava/lang/Object;"⟩ yJx4a65c_get_915e3, Cond.instanceMethod yJx4a65c_get_915e3, Cond.code yJx4a65c_get_915e3 cJx4a65c_get_915e3 2 (some (.object "java/lang/Object"))]
def wsX5_told_r2 : List Cond := [Cond.methodLink RJx4a65c 118 yJ15_checkIndex_7cf53, Cond.static yJ15_checkIndex_7cf53, Cond.initialized RJ15, Cond.code yJ15_checkIndex_7cf53 cJ15_checkIndex_7cf53 2 (some .int), Cond.methodLink RJ15 105 yJ3_checkIndex_8e157, Cond.static yJ3_checkIndex_8e157, Cond.initialized RJ3, Cond.code yJ3_checkIndex_8e157 cJ3_checkIndex_8e157 3 (some .int), Cond.methodLink RJx4a65c 123 yJx4a65c_elementData_915e3, Cond.instanceMethod yJx4a65c_elementData_915e3, Cond.selects RJx4a65c yJx4a65c_elementData_915e3 yJx4a65c_elementData_915e3, Cond.code yJx4a65c_elementData_915e3 cJx4a65c_elementData_915e3 2 (some (.object "java/lang/Object")), Cond.fieldLink RJx4a65c 9 "java/util/ArrayList" "elementData" "[Ljava/lang/Object;"]
def wsX5_told : List Cond := .code yX5_told cX5_told 4 (some .int) :: ((wsX5_told_r1 ++ wsX5_told_r2) ++ wsX30 ++ wsX50 ++ wsJx4a65c0)
def wsX5_mark_r1 : List Cond := [Cond.fieldLink RX5 153 "TeaRace$Ship" "orders" "Ljava/util/List;", Cond.fieldLink RX5 138 "TeaRace$Ship" "way" "I", Cond.fieldLink RX5 159 "TeaRace$Ship" "cellsComeTo" "I", Cond.methodLink RX5 122 yX5_shipOf, Cond.instanceMethod yX5_shipOf, Cond.selects RX5 yX5_shipOf yX5_shipOf, Cond.initialized RX5, Cond.code yX5_shipOf cX5_shipOf 2 (some (.object "TeaRace$Ship")), Cond.fieldLink RX5 26 "TeaRace" "fleet" "Ljava/util/List;", Cond.classLink RX5 113 "TeaRace$Ship", Cond.methodLink RX5 107 ⟨"java/util/List", "size", "()I"⟩, Cond.selects RJx4a65c ⟨"java/util/List", "size", "()I"⟩ yJx4a65c_size_8abf5, Cond.instanceMethod yJx4a65c_size_8abf5, Cond.initialized RJx4a65c, Cond.code yJx4a65c_size_8abf5 cJx4a65c_size_8abf5 1 (some .int), Cond.fieldLink RJx4a65c 48 "java/util/ArrayList" "size" "I", Cond.methodLink RX5 175 ⟨"java/util/List", "get", "(I)Ljava/lang/Object;"⟩, Cond.selects RJx4a65c ⟨"java/util/List", "get", "(I)Ljava/lang/Object;"⟩ yJx4a65c_get_915e3, Cond.instanceMethod yJx4a65c_get_915e3, Cond.code yJx4a65c_get_915e3 cJx4a65c_get_915e3 2 (some (.object "java/lang/Object")), Cond.methodLink RJx4a65c 118 yJ15_checkIndex_7cf53, Cond.static yJ15_checkIndex_7cf53, Cond.initialized RJ15, Cond.code yJ15_checkIndex_7cf53 cJ15_checkIndex_7cf53 2 (some .int)]
def wsX5_mark_r2 : List Cond := [Cond.methodLink RJ15 105 yJ3_checkIndex_8e157, Cond.static yJ3_checkIndex_8e157, Cond.initialized RJ3, Cond.code yJ3_checkIndex_8e157 cJ3_checkIndex_8e157 3 (some .int), Cond.methodLink RJx4a65c 123 yJx4a65c_elementData_915e3, Cond.instanceMethod yJx4a65c_elementData_915e3, Cond.selects RJx4a65c yJx4a65c_elementData_915e3 yJx4a65c_elementData_915e3, Cond.code yJx4a65c_elementData_915e3 cJx4a65c_elementData_915e3 2 (some (.object "java/lang/Object")), Cond.fieldLink RJx4a65c 9 "java/util/ArrayList" "elementData" "[Ljava/lang/Object;", Cond.methodLink RX5 150 yX3_isOf, Cond.instanceMethod yX3_isOf, Cond.selects RX3 yX3_isOf yX3_isOf, Cond.initialized RX3, Cond.code yX3_isOf cX3_isOf 2 (some .boolean), Cond.fieldLink RX3 49 "TeaRace$Ship" "kind" "I", Cond.methodLink RX5 79 yX5_found, Cond.instanceMethod yX5_found, Cond.selects RX5 yX5_found yX5_found, Cond.code yX5_found cX5_found 2 (some .int), Cond.fieldLink RX5 34 "TeaRace" "latestFinding" "I", Cond.fieldLink RX5 30 "TeaRace" "findingCounts" "[I", Cond.methodLink RX5 156 yX3_speedIn, Cond.instanceMethod yX3_speedIn, Cond.selects RX3 yX3_speedIn yX3_speedIn]
def wsX5_mark_r3 : List Cond := [Cond.code yX3_speedIn cX3_speedIn 4 (some .int), Cond.fieldLink RX3 28 "TeaRace$Ship" "foulness" "I", Cond.methodLink RX3 69 Lib.Math.max.name, Cond.static Lib.Math.max.name, Cond.initialized "java/lang/Math", Cond.code Lib.Math.max.name Lib.Math.max.code 2 (some .int), Cond.static yX5_eighthsBetween, Cond.code yX5_eighthsBetween cX5_eighthsBetween 3 (some .int), Cond.methodLink RX5 251 Lib.Math.abs.name, Cond.static Lib.Math.abs.name, Cond.code Lib.Math.abs.name Lib.Math.abs.code 1 (some .int), Cond.methodLink RX5 256 Lib.Math.min.name, Cond.static Lib.Math.min.name, Cond.code Lib.Math.min.name Lib.Math.min.code 2 (some .int), Cond.static yX5_strengthOf, Cond.code yX5_strengthOf cX5_strengthOf 1 (some .int), Cond.methodLink RX3 66 yX3_sailSpeed, Cond.instanceMethod yX3_sailSpeed, Cond.selects RX3 yX3_sailSpeed yX3_sailSpeed, Cond.code yX3_sailSpeed cX3_sailSpeed 3 (some .int), Cond.methodLink RX3 74 yX3_moreAcrossTheWind, Cond.instanceMethod yX3_moreAcrossTheWind, Cond.selects RX3 yX3_moreAcrossTheWind yX3_moreAcrossTheWind, Cond.code yX3_moreAcrossTheWind cX3_moreAcrossTheWind 1 (some .int)]
def wsX5_mark : List Cond := .code yX5_mark cX5_mark 4 (some .int) :: ((wsX5_mark_r1 ++ (wsX5_mark_r2 ++ wsX5_mark_r3)) ++ wsX30 ++ wsX50 ++ wsJx4a65c0)
def wsX5_speed_r1 : List Cond := [Cond.methodLink RX5 122 yX5_shipOf, Cond.instanceMethod yX5_shipOf, Cond.selects RX5 yX5_shipOf yX5_shipOf, Cond.initialized RX5, Cond.code yX5_shipOf cX5_shipOf 2 (some (.object "TeaRace$Ship")), Cond.fieldLink RX5 26 "TeaRace" "fleet" "Ljava/util/List;", Cond.classLink RX5 113 "TeaRace$Ship", Cond.methodLink RX5 107 ⟨"java/util/List", "size", "()I"⟩, Cond.selects RJx4a65c ⟨"java/util/List", "size", "()I"⟩ yJx4a65c_size_8abf5, Cond.instanceMethod yJx4a65c_size_8abf5, Cond.initialized RJx4a65c, Cond.code yJx4a65c_size_8abf5 cJx4a65c_size_8abf5 1 (some .int), Cond.fieldLink RJx4a65c 48 "java/util/ArrayList" "size" "I", Cond.methodLink RX5 175 ⟨"java/util/List", "get", "(I)Ljava/lang/Object;"⟩, Cond.selects RJx4a65c ⟨"java/util/List", "get", "(I)Ljava/lang/Object;"⟩ yJx4a65c_get_915e3, Cond.instanceMethod yJx4a65c_get_915e3, Cond.code yJx4a65c_get_915e3 cJx4a65c_get_915e3 2 (some (.object "java/lang/Object")), Cond.methodLink RJx4a65c 118 yJ15_checkIndex_7cf53, Cond.static yJ15_checkIndex_7cf53, Cond.initialized RJ15, Cond.code yJ15_checkIndex_7cf53 cJ15_checkIndex_7cf53 2 (some .int), Cond.methodLink RJ15 105 yJ3_checkIndex_8e157, Cond.static yJ3_checkIndex_8e157, Cond.initialized RJ3]
def wsX5_speed_r2 : List Cond := [Cond.code yJ3_checkIndex_8e157 cJ3_checkIndex_8e157 3 (some .int), Cond.methodLink RJx4a65c 123 yJx4a65c_elementData_915e3, Cond.instanceMethod yJx4a65c_elementData_915e3, Cond.selects RJx4a65c yJx4a65c_elementData_915e3 yJx4a65c_elementData_915e3, Cond.code yJx4a65c_elementData_915e3 cJx4a65c_elementData_915e3 2 (some (.object "java/lang/Object")), Cond.fieldLink RJx4a65c 9 "java/util/ArrayList" "elementData" "[Ljava/lang/Object;", Cond.methodLink RX5 60 yX5_outside, Cond.static yX5_outside, Cond.code yX5_outside cX5_outside 2 (some .boolean), Cond.methodLink RX5 156 yX3_speedIn, Cond.instanceMethod yX3_speedIn, Cond.selects RX3 yX3_speedIn yX3_speedIn, Cond.initialized RX3, Cond.code yX3_speedIn cX3_speedIn 4 (some .int), Cond.fieldLink RX3 49 "TeaRace$Ship" "kind" "I", Cond.fieldLink RX3 28 "TeaRace$Ship" "foulness" "I", Cond.methodLink RX3 69 Lib.Math.max.name, Cond.static Lib.Math.max.name, Cond.initialized "java/lang/Math", Cond.code Lib.Math.max.name Lib.Math.max.code 2 (some .int), Cond.static yX5_eighthsBetween, Cond.code yX5_eighthsBetween cX5_eighthsBetween 3 (some .int), Cond.methodLink RX5 251 Lib.Math.abs.name, Cond.static Lib.Math.abs.name]
def wsX5_speed_r3 : List Cond := [Cond.code Lib.Math.abs.name Lib.Math.abs.code 1 (some .int), Cond.methodLink RX5 256 Lib.Math.min.name, Cond.static Lib.Math.min.name, Cond.code Lib.Math.min.name Lib.Math.min.code 2 (some .int), Cond.static yX5_strengthOf, Cond.code yX5_strengthOf cX5_strengthOf 1 (some .int), Cond.methodLink RX3 66 yX3_sailSpeed, Cond.instanceMethod yX3_sailSpeed, Cond.selects RX3 yX3_sailSpeed yX3_sailSpeed, Cond.code yX3_sailSpeed cX3_sailSpeed 3 (some .int), Cond.methodLink RX3 74 yX3_moreAcrossTheWind, Cond.instanceMethod yX3_moreAcrossTheWind, Cond.selects RX3 yX3_moreAcrossTheWind yX3_moreAcrossTheWind, Cond.code yX3_moreAcrossTheWind cX3_moreAcrossTheWind 1 (some .int)]
def wsX5_speed : List Cond := .code yX5_speed cX5_speed 6 (some .int) :: ((wsX5_speed_r1 ++ (wsX5_speed_r2 ++ wsX5_speed_r3)) ++ wsX50 ++ wsJx4a65c0 ++ wsX30)
def wsX5_isNoSpan : List Cond := .code yX5_isNoSpan cX5_isNoSpan 3 (some .boolean) :: ([.methodLink RX5 60 yX5_outside, .static yX5_outside, .initialized RX5, .code yX5_outside cX5_outside 2 (some .boolean)])
def wsX5_order_r1 : List Cond := [Cond.fieldLink RX5 153 "TeaRace$Ship" "orders" "Ljava/util/List;", Cond.classLink RX5 166 RX0, Cond.instantiable RX0 6, Cond.initialized RX0, Cond.methodLink RX5 122 yX5_shipOf, Cond.instanceMethod yX5_shipOf, Cond.selects RX5 yX5_shipOf yX5_shipOf, Cond.initialized RX5, Cond.code yX5_shipOf cX5_shipOf 2 (some (.object "TeaRace$Ship")), Cond.fieldLink RX5 26 "TeaRace" "fleet" "Ljava/util/List;", Cond.classLink RX5 113 "TeaRace$Ship", Cond.methodLink RX5 107 ⟨"java/util/List", "size", "()I"⟩, Cond.selects RJx4a65c ⟨"java/util/List", "size", "()I"⟩ yJx4a65c_size_8abf5, Cond.instanceMethod yJx4a65c_size_8abf5, Cond.initialized RJx4a65c, Cond.code yJx4a65c_size_8abf5 cJx4a65c_size_8abf5 1 (some .int), Cond.fieldLink RJx4a65c 48 "java/util/ArrayList" "size" "I", Cond.methodLink RX5 175 ⟨"java/util/List", "get", "(I)Ljava/lang/Object;"⟩, Cond.selects RJx4a65c ⟨"java/util/List", "get", "(I)Ljava/lang/Object;"⟩ yJx4a65c_get_915e3, Cond.instanceMethod yJx4a65c_get_915e3, Cond.code yJx4a65c_get_915e3 cJx4a65c_get_915e3 2 (some (.object "java/lang/Object")), Cond.methodLink RJx4a65c 118 yJ15_checkIndex_7cf53, Cond.static yJ15_checkIndex_7cf53, Cond.initialized RJ15]
def wsX5_order_r2 : List Cond := [Cond.code yJ15_checkIndex_7cf53 cJ15_checkIndex_7cf53 2 (some .int), Cond.methodLink RJ15 105 yJ3_checkIndex_8e157, Cond.static yJ3_checkIndex_8e157, Cond.initialized RJ3, Cond.code yJ3_checkIndex_8e157 cJ3_checkIndex_8e157 3 (some .int), Cond.methodLink RJx4a65c 123 yJx4a65c_elementData_915e3, Cond.instanceMethod yJx4a65c_elementData_915e3, Cond.selects RJx4a65c yJx4a65c_elementData_915e3 yJx4a65c_elementData_915e3, Cond.code yJx4a65c_elementData_915e3 cJx4a65c_elementData_915e3 2 (some (.object "java/lang/Object")), Cond.fieldLink RJx4a65c 9 "java/util/ArrayList" "elementData" "[Ljava/lang/Object;", Cond.methodLink RX5 162 yX5_isNoSpan, Cond.static yX5_isNoSpan, Cond.code yX5_isNoSpan cX5_isNoSpan 3 (some .boolean), Cond.methodLink RX5 60 yX5_outside, Cond.static yX5_outside, Cond.code yX5_outside cX5_outside 2 (some .boolean), Cond.methodLink RX5 168 yX0_init, Cond.instanceMethod yX0_init, Cond.code yX0_init cX0_init 7 none, Cond.methodLink RX0 3 objectInit, Cond.instanceMethod objectInit, Cond.code objectInit ⟨#[0xb1]⟩ 1 none, Cond.fieldLink RX0 9 "TeaRace$Order" "west" "I", Cond.fieldLink RX0 15 "TeaRace$Order" "east" "I"]
def wsX5_order_r3 : List Cond := [Cond.fieldLink RX0 18 "TeaRace$Order" "north" "I", Cond.fieldLink RX0 21 "TeaRace$Order" "south" "I", Cond.fieldLink RX0 24 "TeaRace$Order" "strength" "I", Cond.fieldLink RX0 27 "TeaRace$Order" "way" "I", Cond.methodLink RX5 118 ⟨"java/util/List", "add", "(Ljava/lang/Object;)Z"⟩, Cond.selects RJx4a65c ⟨"java/util/List", "add", "(Ljava/lang/Object;)Z"⟩ yJx4a65c_add_9ea2d, Cond.instanceMethod yJx4a65c_add_9ea2d, Cond.code yJx4a65c_add_9ea2d cJx4a65c_add_9ea2d 2 (some .boolean), Cond.fieldLink RJx4a65c 63 "java/util/ArrayList" "modCount" "I", Cond.sameField "java/util/ArrayList" "java/util/AbstractList" "modCount" "I", Cond.methodLink RJx4a65c 131 yJx4a65c_add_72be8, Cond.instanceMethod yJx4a65c_add_72be8, Cond.selects RJx4a65c yJx4a65c_add_72be8 yJx4a65c_add_72be8, Cond.code yJx4a65c_add_72be8 cJx4a65c_add_72be8 4 none, Cond.methodLink RJx4a65c 129 yJx4a65c_grow_d5877, Cond.instanceMethod yJx4a65c_grow_d5877, Cond.selects RJx4a65c yJx4a65c_grow_d5877 yJx4a65c_grow_d5877, Cond.code yJx4a65c_grow_d5877 cJx4a65c_grow_d5877 1 (some (.array (.object "java/lang/Object"))), Cond.methodLink RJx4a65c 69 yJx4a65c_grow_92f84, Cond.instanceMethod yJx4a65c_grow_92f84, Cond.selects RJx4a65c yJx4a65c_grow_92f84 yJx4a65c_grow_92f84, Cond.code yJx4a65c_grow_92f84 cJx4a65c_grow_92f84 4 (some (.array (.object "java/lang/Object"))), Cond.fieldLink RJx4a65c 39 "java/util/ArrayList" "DEFAULTCAPACITY_EMPTY_ELEMENTDATA" "[Ljava/lang/Object;", Cond.methodLink RJx4a65c 79 Lib.Math.max.name]
def wsX5_order_r4 : List Cond := [Cond.static Lib.Math.max.name, Cond.initialized "java/lang/Math", Cond.code Lib.Math.max.name Lib.Math.max.code 2 (some .int), Cond.classLink RJx4a65c 7 "java/lang/Object", Cond.methodLink RJx4a65c 73 yJ8_newLength_cabcc, Cond.static yJ8_newLength_cabcc, Cond.initialized RJ8, Cond.code yJ8_newLength_cabcc cJ8_newLength_cabcc 4 (some .int), Cond.methodLink RJ8 194 Lib.Math.max.name, Cond.constant RJ8 200 (2147483639), Cond.methodLink RJ8 201 yJ8_hugeLength_7cf53, Cond.static yJ8_hugeLength_7cf53, Cond.code yJ8_hugeLength_7cf53 cJ8_hugeLength_7cf53 3 (some .int), Cond.methodLink RJx4a65c 66 yJ7_copyOf_1904c, Cond.static yJ7_copyOf_1904c, Cond.initialized RJ7, Cond.code yJ7_copyOf_1904c cJ7_copyOf_1904c 2 (some (.array (.object "java/lang/Object"))), Cond.methodLink RJ7 86 ⟨"java/lang/Object", "getClass", "()Ljava/lang/Class;"⟩, Cond.selects "[Ljava/lang/Object;" ⟨"java/lang/Object", "getClass", "()Ljava/lang/Class;"⟩ ⟨"java/lang/Object", "getClass", "()Ljava/lang/Class;"⟩, Cond.instanceMethod ⟨"java/lang/Object", "getClass", "()Ljava/lang/Class;"⟩, Cond.native ⟨"java/lang/Object", "getClass", "()Ljava/lang/Class;"⟩, Cond.methodLink RJ7 300 yJ7_copyOf_6403c, Cond.static yJ7_copyOf_6403c, Cond.code yJ7_copyOf_6403c cJ7_copyOf_6403c 4 (some (.array (.object "java/lang/Object")))]
def wsX5_order_r5 : List Cond := [Cond.classLink RJ7 110 "[Ljava/lang/Object;", Cond.classLink RJ7 2 "java/lang/Object", Cond.methodLink RJ7 304 Lib.Math.min.name, Cond.static Lib.Math.min.name, Cond.code Lib.Math.min.name Lib.Math.min.code 2 (some .int), Cond.methodLink RJ7 150 arraycopyName, Cond.native arraycopyName, Cond.static arraycopyName, Cond.initialized "java/lang/System"]
def wsX5_order : List Cond := .code yX5_order cX5_order 9 (some .int) :: ((wsX5_order_r1 ++ (wsX5_order_r2 ++ (wsX5_order_r3 ++ (wsX5_order_r4 ++ wsX5_order_r5)))) ++ wsX30 ++ wsX00 ++ wsX50 ++ wsJx4a65c0)
def wsX5_home : List Cond := .code yX5_home cX5_home 3 (some .int) :: ([.fieldLink RX5 38 "TeaRace" "hour" "I", .fieldLink RX5 41 "TeaRace" "homeCell" "I", .fieldLink RX5 44 "TeaRace" "gateHour" "I", .methodLink RX5 104 yX5_isNoWater, .instanceMethod yX5_isNoWater, .selects RX5 yX5_isNoWater yX5_isNoWater, .initialized RX5, .code yX5_isNoWater cX5_isNoWater 2 (some .boolean), .fieldLink RX5 10 "TeaRace" "sea" "LTeaRace$Sea;", .methodLink RX5 60 yX5_outside, .static yX5_outside, .code yX5_outside cX5_outside 2 (some .boolean), .methodLink RX5 64 yX2_isLand, .instanceMethod yX2_isLand, .selects RX2 yX2_isLand yX2_isLand, .initialized RX2, .code yX2_isLand cX2_isLand 2 (some .boolean), .fieldLink RX2 9 "TeaRace$Sea" "landCells" "[Z"] ++ wsX50 ++ wsX20)
def wsX5_shipsHome_r1 : List Cond := [Cond.fieldLink RX5 26 "TeaRace" "fleet" "Ljava/util/List;", Cond.classLink RX5 113 "TeaRace$Ship", Cond.methodLink RX5 107 ⟨"java/util/List", "size", "()I"⟩, Cond.selects RJx4a65c ⟨"java/util/List", "size", "()I"⟩ yJx4a65c_size_8abf5, Cond.instanceMethod yJx4a65c_size_8abf5, Cond.initialized RJx4a65c, Cond.code yJx4a65c_size_8abf5 cJx4a65c_size_8abf5 1 (some .int), Cond.fieldLink RJx4a65c 48 "java/util/ArrayList" "size" "I", Cond.methodLink RX5 175 ⟨"java/util/List", "get", "(I)Ljava/lang/Object;"⟩, Cond.selects RJx4a65c ⟨"java/util/List", "get", "(I)Ljava/lang/Object;"⟩ yJx4a65c_get_915e3, Cond.instanceMethod yJx4a65c_get_915e3, Cond.code yJx4a65c_get_915e3 cJx4a65c_get_915e3 2 (some (.object "java/lang/Object")), Cond.methodLink RJx4a65c 118 yJ15_checkIndex_7cf53, Cond.static yJ15_checkIndex_7cf53, Cond.initialized RJ15, Cond.code yJ15_checkIndex_7cf53 cJ15_checkIndex_7cf53 2 (some .int), Cond.methodLink RJ15 105 yJ3_checkIndex_8e157, Cond.static yJ3_checkIndex_8e157, Cond.initialized RJ3, Cond.code yJ3_checkIndex_8e157 cJ3_checkIndex_8e157 3 (some .int), Cond.methodLink RJx4a65c 123 yJx4a65c_elementData_915e3, Cond.instanceMethod yJx4a65c_elementData_915e3, Cond.selects RJx4a65c yJx4a65c_elementData_915e3 yJx4a65c_elementData_915e3, Cond.code yJx4a65c_elementData_915e3 cJx4a65c_elementData_915e3 2 (some (.object "java/lang/Object"))]
def wsX5_shipsHome_r2 : List Cond := [Cond.fieldLink RJx4a65c 9 "java/util/ArrayList" "elementData" "[Ljava/lang/Object;", Cond.methodLink RX5 222 yX3_isHome, Cond.instanceMethod yX3_isHome, Cond.selects RX3 yX3_isHome yX3_isHome, Cond.initialized RX3, Cond.code yX3_isHome cX3_isHome 1 (some .boolean), Cond.fieldLink RX3 34 "TeaRace$Ship" "homeHour" "I"]
def wsX5_shipsHome : List Cond := .code yX5_shipsHome cX5_shipsHome 3 (some .int) :: ((wsX5_shipsHome_r1 ++ wsX5_shipsHome_r2) ++ wsX50 ++ wsJx4a65c0 ++ wsX30)
def wsX5_entryFrom : List Cond := .code yX5_entryFrom cX5_entryFrom 3 (some .int) :: ([.fieldLink RX5 44 "TeaRace" "gateHour" "I", .methodLink RX5 259 yJ9_floorMod_7cf53, .static yJ9_floorMod_7cf53, .initialized RJ9, .code yJ9_floorMod_7cf53 cJ9_floorMod_7cf53 3 (some .int)] ++ wsX50)
def wsX5_comeTo_r1 : List Cond := [Cond.fieldLink RX5 132 "TeaRace$Ship" "cell" "I", Cond.fieldLink RX5 159 "TeaRace$Ship" "cellsComeTo" "I", Cond.fieldLink RX5 10 "TeaRace" "sea" "LTeaRace$Sea;", Cond.fieldLink RX5 41 "TeaRace" "homeCell" "I", Cond.fieldLink RX5 141 "TeaRace$Ship" "homeHour" "I", Cond.fieldLink RX5 144 "TeaRace$Ship" "entry" "I", Cond.methodLink RX5 262 yX5_monthOf, Cond.static yX5_monthOf, Cond.initialized RX5, Cond.code yX5_monthOf cX5_monthOf 1 (some .int), Cond.methodLink RX5 259 yJ9_floorMod_7cf53, Cond.static yJ9_floorMod_7cf53, Cond.initialized RJ9, Cond.code yJ9_floorMod_7cf53 cJ9_floorMod_7cf53 3 (some .int), Cond.methodLink RX5 98 yX2_windIn, Cond.instanceMethod yX2_windIn, Cond.selects RX2 yX2_windIn yX2_windIn, Cond.initialized RX2, Cond.code yX2_windIn cX2_windIn 4 (some .int), Cond.fieldLink RX2 15 "TeaRace$Sea" "chartThere" "[Z", Cond.fieldLink RX2 20 "TeaRace$Sea" "charts" "[[B", Cond.static yX5_outside, Cond.code yX5_outside cX5_outside 2 (some .boolean), Cond.methodLink RX5 265 yX3_askWay]
def wsX5_comeTo_r2 : List Cond := [Cond.instanceMethod yX3_askWay, Cond.selects RX3 yX3_askWay yX3_askWay, Cond.initialized RX3, Cond.code yX3_askWay cX3_askWay 4 none, Cond.fieldLink RX3 12 "TeaRace$Ship" "orders" "Ljava/util/List;", Cond.classLink RX3 87 "TeaRace$Order", Cond.fieldLink RX3 52 "TeaRace$Ship" "cell" "I", Cond.fieldLink RX3 93 "TeaRace$Order" "way" "I", Cond.fieldLink RX3 25 "TeaRace$Ship" "way" "I", Cond.methodLink RX3 78 ⟨"java/util/List", "size", "()I"⟩, Cond.selects RJx4a65c ⟨"java/util/List", "size", "()I"⟩ yJx4a65c_size_8abf5, Cond.instanceMethod yJx4a65c_size_8abf5, Cond.initialized RJx4a65c, Cond.code yJx4a65c_size_8abf5 cJx4a65c_size_8abf5 1 (some .int), Cond.fieldLink RJx4a65c 48 "java/util/ArrayList" "size" "I", Cond.methodLink RX3 83 ⟨"java/util/List", "get", "(I)Ljava/lang/Object;"⟩, Cond.selects RJx4a65c ⟨"java/util/List", "get", "(I)Ljava/lang/Object;"⟩ yJx4a65c_get_915e3, Cond.instanceMethod yJx4a65c_get_915e3, Cond.code yJx4a65c_get_915e3 cJx4a65c_get_915e3 2 (some (.object "java/lang/Object")), Cond.methodLink RJx4a65c 118 yJ15_checkIndex_7cf53, Cond.static yJ15_checkIndex_7cf53, Cond.initialized RJ15, Cond.code yJ15_checkIndex_7cf53 cJ15_checkIndex_7cf53 2 (some .int), Cond.methodLink RJ15 105 yJ3_checkIndex_8e157]
def wsX5_comeTo_r3 : List Cond := [Cond.static yJ3_checkIndex_8e157, Cond.initialized RJ3, Cond.code yJ3_checkIndex_8e157 cJ3_checkIndex_8e157 3 (some .int), Cond.methodLink RJx4a65c 123 yJx4a65c_elementData_915e3, Cond.instanceMethod yJx4a65c_elementData_915e3, Cond.selects RJx4a65c yJx4a65c_elementData_915e3 yJx4a65c_elementData_915e3, Cond.code yJx4a65c_elementData_915e3 cJx4a65c_elementData_915e3 2 (some (.object "java/lang/Object")), Cond.fieldLink RJx4a65c 9 "java/util/ArrayList" "elementData" "[Ljava/lang/Object;", Cond.static yX5_strengthOf, Cond.code yX5_strengthOf cX5_strengthOf 1 (some .int), Cond.methodLink RX3 89 yX0_fits, Cond.instanceMethod yX0_fits, Cond.selects RX0 yX0_fits yX0_fits, Cond.initialized RX0, Cond.code yX0_fits cX0_fits 5 (some .boolean), Cond.fieldLink RX0 9 "TeaRace$Order" "west" "I", Cond.fieldLink RX0 15 "TeaRace$Order" "east" "I", Cond.fieldLink RX0 18 "TeaRace$Order" "north" "I", Cond.fieldLink RX0 21 "TeaRace$Order" "south" "I", Cond.fieldLink RX0 24 "TeaRace$Order" "strength" "I", Cond.methodLink RX5 281 yX5_entryFrom, Cond.instanceMethod yX5_entryFrom, Cond.selects RX5 yX5_entryFrom yX5_entryFrom, Cond.code yX5_entryFrom cX5_entryFrom 3 (some .int)]
def wsX5_comeTo_r4 : List Cond := [Cond.fieldLink RX5 44 "TeaRace" "gateHour" "I"]
def wsX5_comeTo : List Cond := .code yX5_comeTo cX5_comeTo 4 none :: ((wsX5_comeTo_r1 ++ (wsX5_comeTo_r2 ++ (wsX5_comeTo_r3 ++ wsX5_comeTo_r4))) ++ wsX30 ++ wsX50 ++ wsX20 ++ wsX00 ++ wsJx4a65c0)
def wsX5_moveOn_r1 : List Cond := [Cond.fieldLink RX5 135 "TeaRace$Ship" "gone" "I", Cond.fieldLink RX5 138 "TeaRace$Ship" "way" "I", Cond.fieldLink RX5 10 "TeaRace" "sea" "LTeaRace$Sea;", Cond.fieldLink RX5 132 "TeaRace$Ship" "cell" "I", Cond.methodLink RX5 268 yX5_needOf, Cond.static yX5_needOf, Cond.initialized RX5, Cond.code yX5_needOf cX5_needOf 1 (some .int), Cond.methodLink RX5 222 yX3_isHome, Cond.instanceMethod yX3_isHome, Cond.selects RX3 yX3_isHome yX3_isHome, Cond.initialized RX3, Cond.code yX3_isHome cX3_isHome 1 (some .boolean), Cond.fieldLink RX3 34 "TeaRace$Ship" "homeHour" "I", Cond.methodLink RX5 274 yX2_nextCell, Cond.instanceMethod yX2_nextCell, Cond.selects RX2 yX2_nextCell yX2_nextCell, Cond.initialized RX2, Cond.code yX2_nextCell cX2_nextCell 6 (some .int), Cond.static yX5_outside, Cond.code yX5_outside cX5_outside 2 (some .boolean), Cond.methodLink RX2 50 yX2_isLand, Cond.instanceMethod yX2_isLand, Cond.selects RX2 yX2_isLand yX2_isLand]
def wsX5_moveOn_r2 : List Cond := [Cond.code yX2_isLand cX2_isLand 2 (some .boolean), Cond.fieldLink RX2 9 "TeaRace$Sea" "landCells" "[Z", Cond.methodLink RX5 277 yX5_comeTo, Cond.instanceMethod yX5_comeTo, Cond.selects RX5 yX5_comeTo yX5_comeTo, Cond.code yX5_comeTo cX5_comeTo 4 none, Cond.fieldLink RX5 159 "TeaRace$Ship" "cellsComeTo" "I", Cond.fieldLink RX5 41 "TeaRace" "homeCell" "I", Cond.fieldLink RX5 141 "TeaRace$Ship" "homeHour" "I", Cond.fieldLink RX5 144 "TeaRace$Ship" "entry" "I", Cond.methodLink RX5 262 yX5_monthOf, Cond.static yX5_monthOf, Cond.code yX5_monthOf cX5_monthOf 1 (some .int), Cond.methodLink RX5 259 yJ9_floorMod_7cf53, Cond.static yJ9_floorMod_7cf53, Cond.initialized RJ9, Cond.code yJ9_floorMod_7cf53 cJ9_floorMod_7cf53 3 (some .int), Cond.methodLink RX5 98 yX2_windIn, Cond.instanceMethod yX2_windIn, Cond.selects RX2 yX2_windIn yX2_windIn, Cond.code yX2_windIn cX2_windIn 4 (some .int), Cond.fieldLink RX2 15 "TeaRace$Sea" "chartThere" "[Z", Cond.fieldLink RX2 20 "TeaRace$Sea" "charts" "[[B", Cond.methodLink RX5 265 yX3_askWay]
def wsX5_moveOn_r3 : List Cond := [Cond.instanceMethod yX3_askWay, Cond.selects RX3 yX3_askWay yX3_askWay, Cond.code yX3_askWay cX3_askWay 4 none, Cond.fieldLink RX3 12 "TeaRace$Ship" "orders" "Ljava/util/List;", Cond.classLink RX3 87 "TeaRace$Order", Cond.fieldLink RX3 52 "TeaRace$Ship" "cell" "I", Cond.fieldLink RX3 93 "TeaRace$Order" "way" "I", Cond.fieldLink RX3 25 "TeaRace$Ship" "way" "I", Cond.methodLink RX3 78 ⟨"java/util/List", "size", "()I"⟩, Cond.selects RJx4a65c ⟨"java/util/List", "size", "()I"⟩ yJx4a65c_size_8abf5, Cond.instanceMethod yJx4a65c_size_8abf5, Cond.initialized RJx4a65c, Cond.code yJx4a65c_size_8abf5 cJx4a65c_size_8abf5 1 (some .int), Cond.fieldLink RJx4a65c 48 "java/util/ArrayList" "size" "I", Cond.methodLink RX3 83 ⟨"java/util/List", "get", "(I)Ljava/lang/Object;"⟩, Cond.selects RJx4a65c ⟨"java/util/List", "get", "(I)Ljava/lang/Object;"⟩ yJx4a65c_get_915e3, Cond.instanceMethod yJx4a65c_get_915e3, Cond.code yJx4a65c_get_915e3 cJx4a65c_get_915e3 2 (some (.object "java/lang/Object")), Cond.methodLink RJx4a65c 118 yJ15_checkIndex_7cf53, Cond.static yJ15_checkIndex_7cf53, Cond.initialized RJ15, Cond.code yJ15_checkIndex_7cf53 cJ15_checkIndex_7cf53 2 (some .int), Cond.methodLink RJ15 105 yJ3_checkIndex_8e157, Cond.static yJ3_checkIndex_8e157]
def wsX5_moveOn_r4 : List Cond := [Cond.initialized RJ3, Cond.code yJ3_checkIndex_8e157 cJ3_checkIndex_8e157 3 (some .int), Cond.methodLink RJx4a65c 123 yJx4a65c_elementData_915e3, Cond.instanceMethod yJx4a65c_elementData_915e3, Cond.selects RJx4a65c yJx4a65c_elementData_915e3 yJx4a65c_elementData_915e3, Cond.code yJx4a65c_elementData_915e3 cJx4a65c_elementData_915e3 2 (some (.object "java/lang/Object")), Cond.fieldLink RJx4a65c 9 "java/util/ArrayList" "elementData" "[Ljava/lang/Object;", Cond.static yX5_strengthOf, Cond.code yX5_strengthOf cX5_strengthOf 1 (some .int), Cond.methodLink RX3 89 yX0_fits, Cond.instanceMethod yX0_fits, Cond.selects RX0 yX0_fits yX0_fits, Cond.initialized RX0, Cond.code yX0_fits cX0_fits 5 (some .boolean), Cond.fieldLink RX0 9 "TeaRace$Order" "west" "I", Cond.fieldLink RX0 15 "TeaRace$Order" "east" "I", Cond.fieldLink RX0 18 "TeaRace$Order" "north" "I", Cond.fieldLink RX0 21 "TeaRace$Order" "south" "I", Cond.fieldLink RX0 24 "TeaRace$Order" "strength" "I", Cond.methodLink RX5 281 yX5_entryFrom, Cond.instanceMethod yX5_entryFrom, Cond.selects RX5 yX5_entryFrom yX5_entryFrom, Cond.code yX5_entryFrom cX5_entryFrom 3 (some .int), Cond.fieldLink RX5 44 "TeaRace" "gateHour" "I"]
def wsX5_moveOn : List Cond := .code yX5_moveOn cX5_moveOn 5 none :: ((wsX5_moveOn_r1 ++ (wsX5_moveOn_r2 ++ (wsX5_moveOn_r3 ++ wsX5_moveOn_r4))) ++ wsX30 ++ wsX50 ++ wsX20 ++ wsX00 ++ wsJx4a65c0)
def wsX5_sail_r1 : List Cond := [Cond.fieldLink RX5 38 "TeaRace" "hour" "I", Cond.fieldLink RX5 10 "TeaRace" "sea" "LTeaRace$Sea;", Cond.fieldLink RX5 132 "TeaRace$Ship" "cell" "I", Cond.fieldLink RX5 138 "TeaRace$Ship" "way" "I", Cond.fieldLink RX5 135 "TeaRace$Ship" "gone" "I", Cond.methodLink RX5 222 yX3_isHome, Cond.instanceMethod yX3_isHome, Cond.selects RX3 yX3_isHome yX3_isHome, Cond.initialized RX3, Cond.code yX3_isHome cX3_isHome 1 (some .boolean), Cond.fieldLink RX3 34 "TeaRace$Ship" "homeHour" "I", Cond.methodLink RX5 262 yX5_monthOf, Cond.static yX5_monthOf, Cond.initialized RX5, Cond.code yX5_monthOf cX5_monthOf 1 (some .int), Cond.methodLink RX5 259 yJ9_floorMod_7cf53, Cond.static yJ9_floorMod_7cf53, Cond.initialized RJ9, Cond.code yJ9_floorMod_7cf53 cJ9_floorMod_7cf53 3 (some .int), Cond.methodLink RX5 98 yX2_windIn, Cond.instanceMethod yX2_windIn, Cond.selects RX2 yX2_windIn yX2_windIn, Cond.initialized RX2, Cond.code yX2_windIn cX2_windIn 4 (some .int)]
def wsX5_sail_r2 : List Cond := [Cond.fieldLink RX2 15 "TeaRace$Sea" "chartThere" "[Z", Cond.fieldLink RX2 20 "TeaRace$Sea" "charts" "[[B", Cond.static yX5_outside, Cond.code yX5_outside cX5_outside 2 (some .boolean), Cond.methodLink RX5 265 yX3_askWay, Cond.instanceMethod yX3_askWay, Cond.selects RX3 yX3_askWay yX3_askWay, Cond.code yX3_askWay cX3_askWay 4 none, Cond.fieldLink RX3 12 "TeaRace$Ship" "orders" "Ljava/util/List;", Cond.classLink RX3 87 "TeaRace$Order", Cond.fieldLink RX3 52 "TeaRace$Ship" "cell" "I", Cond.fieldLink RX3 93 "TeaRace$Order" "way" "I", Cond.fieldLink RX3 25 "TeaRace$Ship" "way" "I", Cond.methodLink RX3 78 ⟨"java/util/List", "size", "()I"⟩, Cond.selects RJx4a65c ⟨"java/util/List", "size", "()I"⟩ yJx4a65c_size_8abf5, Cond.instanceMethod yJx4a65c_size_8abf5, Cond.initialized RJx4a65c, Cond.code yJx4a65c_size_8abf5 cJx4a65c_size_8abf5 1 (some .int), Cond.fieldLink RJx4a65c 48 "java/util/ArrayList" "size" "I", Cond.methodLink RX3 83 ⟨"java/util/List", "get", "(I)Ljava/lang/Object;"⟩, Cond.selects RJx4a65c ⟨"java/util/List", "get", "(I)Ljava/lang/Object;"⟩ yJx4a65c_get_915e3, Cond.instanceMethod yJx4a65c_get_915e3, Cond.code yJx4a65c_get_915e3 cJx4a65c_get_915e3 2 (some (.object "java/lang/Object")), Cond.methodLink RJx4a65c 118 yJ15_checkIndex_7cf53]
def wsX5_sail_r3 : List Cond := [Cond.static yJ15_checkIndex_7cf53, Cond.initialized RJ15, Cond.code yJ15_checkIndex_7cf53 cJ15_checkIndex_7cf53 2 (some .int), Cond.methodLink RJ15 105 yJ3_checkIndex_8e157, Cond.static yJ3_checkIndex_8e157, Cond.initialized RJ3, Cond.code yJ3_checkIndex_8e157 cJ3_checkIndex_8e157 3 (some .int), Cond.methodLink RJx4a65c 123 yJx4a65c_elementData_915e3, Cond.instanceMethod yJx4a65c_elementData_915e3, Cond.selects RJx4a65c yJx4a65c_elementData_915e3 yJx4a65c_elementData_915e3, Cond.code yJx4a65c_elementData_915e3 cJx4a65c_elementData_915e3 2 (some (.object "java/lang/Object")), Cond.fieldLink RJx4a65c 9 "java/util/ArrayList" "elementData" "[Ljava/lang/Object;", Cond.static yX5_strengthOf, Cond.code yX5_strengthOf cX5_strengthOf 1 (some .int), Cond.methodLink RX3 89 yX0_fits, Cond.instanceMethod yX0_fits, Cond.selects RX0 yX0_fits yX0_fits, Cond.initialized RX0, Cond.code yX0_fits cX0_fits 5 (some .boolean), Cond.fieldLink RX0 9 "TeaRace$Order" "west" "I", Cond.fieldLink RX0 15 "TeaRace$Order" "east" "I", Cond.fieldLink RX0 18 "TeaRace$Order" "north" "I", Cond.fieldLink RX0 21 "TeaRace$Order" "south" "I", Cond.fieldLink RX0 24 "TeaRace$Order" "strength" "I"]
def wsX5_sail_r4 : List Cond := [Cond.methodLink RX5 156 yX3_speedIn, Cond.instanceMethod yX3_speedIn, Cond.selects RX3 yX3_speedIn yX3_speedIn, Cond.code yX3_speedIn cX3_speedIn 4 (some .int), Cond.fieldLink RX3 49 "TeaRace$Ship" "kind" "I", Cond.fieldLink RX3 28 "TeaRace$Ship" "foulness" "I", Cond.methodLink RX3 69 Lib.Math.max.name, Cond.static Lib.Math.max.name, Cond.initialized "java/lang/Math", Cond.code Lib.Math.max.name Lib.Math.max.code 2 (some .int), Cond.static yX5_eighthsBetween, Cond.code yX5_eighthsBetween cX5_eighthsBetween 3 (some .int), Cond.methodLink RX5 251 Lib.Math.abs.name, Cond.static Lib.Math.abs.name, Cond.code Lib.Math.abs.name Lib.Math.abs.code 1 (some .int), Cond.methodLink RX5 256 Lib.Math.min.name, Cond.static Lib.Math.min.name, Cond.code Lib.Math.min.name Lib.Math.min.code 2 (some .int), Cond.methodLink RX3 66 yX3_sailSpeed, Cond.instanceMethod yX3_sailSpeed, Cond.selects RX3 yX3_sailSpeed yX3_sailSpeed, Cond.code yX3_sailSpeed cX3_sailSpeed 3 (some .int), Cond.methodLink RX3 74 yX3_moreAcrossTheWind, Cond.instanceMethod yX3_moreAcrossTheWind]
def wsX5_sail_r5 : List Cond := [Cond.selects RX3 yX3_moreAcrossTheWind yX3_moreAcrossTheWind, Cond.code yX3_moreAcrossTheWind cX3_moreAcrossTheWind 1 (some .int), Cond.methodLink RX5 268 yX5_needOf, Cond.static yX5_needOf, Cond.code yX5_needOf cX5_needOf 1 (some .int), Cond.methodLink RX5 271 yX5_moveOn, Cond.instanceMethod yX5_moveOn, Cond.selects RX5 yX5_moveOn yX5_moveOn, Cond.code yX5_moveOn cX5_moveOn 5 none, Cond.methodLink RX5 274 yX2_nextCell, Cond.instanceMethod yX2_nextCell, Cond.selects RX2 yX2_nextCell yX2_nextCell, Cond.code yX2_nextCell cX2_nextCell 6 (some .int), Cond.methodLink RX2 50 yX2_isLand, Cond.instanceMethod yX2_isLand, Cond.selects RX2 yX2_isLand yX2_isLand, Cond.code yX2_isLand cX2_isLand 2 (some .boolean), Cond.fieldLink RX2 9 "TeaRace$Sea" "landCells" "[Z", Cond.methodLink RX5 277 yX5_comeTo, Cond.instanceMethod yX5_comeTo, Cond.selects RX5 yX5_comeTo yX5_comeTo, Cond.code yX5_comeTo cX5_comeTo 4 none, Cond.fieldLink RX5 159 "TeaRace$Ship" "cellsComeTo" "I", Cond.fieldLink RX5 41 "TeaRace" "homeCell" "I"]
def wsX5_sail_r6 : List Cond := [Cond.fieldLink RX5 141 "TeaRace$Ship" "homeHour" "I", Cond.fieldLink RX5 144 "TeaRace$Ship" "entry" "I", Cond.methodLink RX5 281 yX5_entryFrom, Cond.instanceMethod yX5_entryFrom, Cond.selects RX5 yX5_entryFrom yX5_entryFrom, Cond.code yX5_entryFrom cX5_entryFrom 3 (some .int), Cond.fieldLink RX5 44 "TeaRace" "gateHour" "I"]
def wsX5_sail : List Cond := .code yX5_sail cX5_sail 5 none :: ((wsX5_sail_r1 ++ (wsX5_sail_r2 ++ (wsX5_sail_r3 ++ (wsX5_sail_r4 ++ (wsX5_sail_r5 ++ wsX5_sail_r6))))) ++ wsX50 ++ wsX30 ++ wsX20 ++ wsX00 ++ wsJx4a65c0)
def wsX5_run_r1 : List Cond := [Cond.constant RX5 171 (100000), Cond.fieldLink RX5 38 "TeaRace" "hour" "I", Cond.fieldLink RX5 26 "TeaRace" "fleet" "Ljava/util/List;", Cond.classLink RX5 113 "TeaRace$Ship", Cond.methodLink RX5 60 yX5_outside, Cond.static yX5_outside, Cond.initialized RX5, Cond.code yX5_outside cX5_outside 2 (some .boolean), Cond.methodLink RX5 172 yX5_shipsHome, Cond.instanceMethod yX5_shipsHome, Cond.selects RX5 yX5_shipsHome yX5_shipsHome, Cond.code yX5_shipsHome cX5_shipsHome 3 (some .int), Cond.methodLink RX5 107 ⟨"java/util/List", "size", "()I"⟩, Cond.selects RJx4a65c ⟨"java/util/List", "size", "()I"⟩ yJx4a65c_size_8abf5, Cond.instanceMethod yJx4a65c_size_8abf5, Cond.initialized RJx4a65c, Cond.code yJx4a65c_size_8abf5 cJx4a65c_size_8abf5 1 (some .int), Cond.fieldLink RJx4a65c 48 "java/util/ArrayList" "size" "I", Cond.methodLink RX5 175 ⟨"java/util/List", "get", "(I)Ljava/lang/Object;"⟩, Cond.selects RJx4a65c ⟨"java/util/List", "get", "(I)Ljava/lang/Object;"⟩ yJx4a65c_get_915e3, Cond.instanceMethod yJx4a65c_get_915e3, Cond.code yJx4a65c_get_915e3 cJx4a65c_get_915e3 2 (some (.object "java/lang/Object")), Cond.methodLink RJx4a65c 118 yJ15_checkIndex_7cf53, Cond.static yJ15_checkIndex_7cf53]
def wsX5_run_r2 : List Cond := [Cond.initialized RJ15, Cond.code yJ15_checkIndex_7cf53 cJ15_checkIndex_7cf53 2 (some .int), Cond.methodLink RJ15 105 yJ3_checkIndex_8e157, Cond.static yJ3_checkIndex_8e157, Cond.initialized RJ3, Cond.code yJ3_checkIndex_8e157 cJ3_checkIndex_8e157 3 (some .int), Cond.methodLink RJx4a65c 123 yJx4a65c_elementData_915e3, Cond.instanceMethod yJx4a65c_elementData_915e3, Cond.selects RJx4a65c yJx4a65c_elementData_915e3 yJx4a65c_elementData_915e3, Cond.code yJx4a65c_elementData_915e3 cJx4a65c_elementData_915e3 2 (some (.object "java/lang/Object")), Cond.fieldLink RJx4a65c 9 "java/util/ArrayList" "elementData" "[Ljava/lang/Object;", Cond.methodLink RX5 222 yX3_isHome, Cond.instanceMethod yX3_isHome, Cond.selects RX3 yX3_isHome yX3_isHome, Cond.initialized RX3, Cond.code yX3_isHome cX3_isHome 1 (some .boolean), Cond.fieldLink RX3 34 "TeaRace$Ship" "homeHour" "I", Cond.methodLink RX5 179 yX5_sail, Cond.instanceMethod yX5_sail, Cond.selects RX5 yX5_sail yX5_sail, Cond.code yX5_sail cX5_sail 5 none, Cond.fieldLink RX5 10 "TeaRace" "sea" "LTeaRace$Sea;", Cond.fieldLink RX5 132 "TeaRace$Ship" "cell" "I", Cond.fieldLink RX5 138 "TeaRace$Ship" "way" "I"]
def wsX5_run_r3 : List Cond := [Cond.fieldLink RX5 135 "TeaRace$Ship" "gone" "I", Cond.methodLink RX5 262 yX5_monthOf, Cond.static yX5_monthOf, Cond.code yX5_monthOf cX5_monthOf 1 (some .int), Cond.methodLink RX5 259 yJ9_floorMod_7cf53, Cond.static yJ9_floorMod_7cf53, Cond.initialized RJ9, Cond.code yJ9_floorMod_7cf53 cJ9_floorMod_7cf53 3 (some .int), Cond.methodLink RX5 98 yX2_windIn, Cond.instanceMethod yX2_windIn, Cond.selects RX2 yX2_windIn yX2_windIn, Cond.initialized RX2, Cond.code yX2_windIn cX2_windIn 4 (some .int), Cond.fieldLink RX2 15 "TeaRace$Sea" "chartThere" "[Z", Cond.fieldLink RX2 20 "TeaRace$Sea" "charts" "[[B", Cond.methodLink RX5 265 yX3_askWay, Cond.instanceMethod yX3_askWay, Cond.selects RX3 yX3_askWay yX3_askWay, Cond.code yX3_askWay cX3_askWay 4 none, Cond.fieldLink RX3 12 "TeaRace$Ship" "orders" "Ljava/util/List;", Cond.classLink RX3 87 "TeaRace$Order", Cond.fieldLink RX3 52 "TeaRace$Ship" "cell" "I", Cond.fieldLink RX3 93 "TeaRace$Order" "way" "I", Cond.fieldLink RX3 25 "TeaRace$Ship" "way" "I"]
def wsX5_run_r4 : List Cond := [Cond.methodLink RX3 78 ⟨"java/util/List", "size", "()I"⟩, Cond.methodLink RX3 83 ⟨"java/util/List", "get", "(I)Ljava/lang/Object;"⟩, Cond.static yX5_strengthOf, Cond.code yX5_strengthOf cX5_strengthOf 1 (some .int), Cond.methodLink RX3 89 yX0_fits, Cond.instanceMethod yX0_fits, Cond.selects RX0 yX0_fits yX0_fits, Cond.initialized RX0, Cond.code yX0_fits cX0_fits 5 (some .boolean), Cond.fieldLink RX0 9 "TeaRace$Order" "west" "I", Cond.fieldLink RX0 15 "TeaRace$Order" "east" "I", Cond.fieldLink RX0 18 "TeaRace$Order" "north" "I", Cond.fieldLink RX0 21 "TeaRace$Order" "south" "I", Cond.fieldLink RX0 24 "TeaRace$Order" "strength" "I", Cond.methodLink RX5 156 yX3_speedIn, Cond.instanceMethod yX3_speedIn, Cond.selects RX3 yX3_speedIn yX3_speedIn, Cond.code yX3_speedIn cX3_speedIn 4 (some .int), Cond.fieldLink RX3 49 "TeaRace$Ship" "kind" "I", Cond.fieldLink RX3 28 "TeaRace$Ship" "foulness" "I", Cond.methodLink RX3 69 Lib.Math.max.name, Cond.static Lib.Math.max.name, Cond.initialized "java/lang/Math", Cond.code Lib.Math.max.name Lib.Math.max.code 2 (some .int)]
def wsX5_run_r5 : List Cond := [Cond.static yX5_eighthsBetween, Cond.code yX5_eighthsBetween cX5_eighthsBetween 3 (some .int), Cond.methodLink RX5 251 Lib.Math.abs.name, Cond.static Lib.Math.abs.name, Cond.code Lib.Math.abs.name Lib.Math.abs.code 1 (some .int), Cond.methodLink RX5 256 Lib.Math.min.name, Cond.static Lib.Math.min.name, Cond.code Lib.Math.min.name Lib.Math.min.code 2 (some .int), Cond.methodLink RX3 66 yX3_sailSpeed, Cond.instanceMethod yX3_sailSpeed, Cond.selects RX3 yX3_sailSpeed yX3_sailSpeed, Cond.code yX3_sailSpeed cX3_sailSpeed 3 (some .int), Cond.methodLink RX3 74 yX3_moreAcrossTheWind, Cond.instanceMethod yX3_moreAcrossTheWind, Cond.selects RX3 yX3_moreAcrossTheWind yX3_moreAcrossTheWind, Cond.code yX3_moreAcrossTheWind cX3_moreAcrossTheWind 1 (some .int), Cond.methodLink RX5 268 yX5_needOf, Cond.static yX5_needOf, Cond.code yX5_needOf cX5_needOf 1 (some .int), Cond.methodLink RX5 271 yX5_moveOn, Cond.instanceMethod yX5_moveOn, Cond.selects RX5 yX5_moveOn yX5_moveOn, Cond.code yX5_moveOn cX5_moveOn 5 none, Cond.methodLink RX5 274 yX2_nextCell]
def wsX5_run_r6 : List Cond := [Cond.instanceMethod yX2_nextCell, Cond.selects RX2 yX2_nextCell yX2_nextCell, Cond.code yX2_nextCell cX2_nextCell 6 (some .int), Cond.methodLink RX2 50 yX2_isLand, Cond.instanceMethod yX2_isLand, Cond.selects RX2 yX2_isLand yX2_isLand, Cond.code yX2_isLand cX2_isLand 2 (some .boolean), Cond.fieldLink RX2 9 "TeaRace$Sea" "landCells" "[Z", Cond.methodLink RX5 277 yX5_comeTo, Cond.instanceMethod yX5_comeTo, Cond.selects RX5 yX5_comeTo yX5_comeTo, Cond.code yX5_comeTo cX5_comeTo 4 none, Cond.fieldLink RX5 159 "TeaRace$Ship" "cellsComeTo" "I", Cond.fieldLink RX5 41 "TeaRace" "homeCell" "I", Cond.fieldLink RX5 141 "TeaRace$Ship" "homeHour" "I", Cond.fieldLink RX5 144 "TeaRace$Ship" "entry" "I", Cond.methodLink RX5 281 yX5_entryFrom, Cond.instanceMethod yX5_entryFrom, Cond.selects RX5 yX5_entryFrom yX5_entryFrom, Cond.code yX5_entryFrom cX5_entryFrom 3 (some .int), Cond.fieldLink RX5 44 "TeaRace" "gateHour" "I"]
def wsX5_run : List Cond := .code yX5_run cX5_run 4 (some .int) :: ((wsX5_run_r1 ++ (wsX5_run_r2 ++ (wsX5_run_r3 ++ (wsX5_run_r4 ++ (wsX5_run_r5 ++ wsX5_run_r6))))) ++ wsX50 ++ wsJx4a65c0 ++ wsX30 ++ wsX20 ++ wsX00)
def wsX5_theFirst_r1 : List Cond := [Cond.fieldLink RX5 26 "TeaRace" "fleet" "Ljava/util/List;", Cond.classLink RX5 113 "TeaRace$Ship", Cond.methodLink RX5 107 ⟨"java/util/List", "size", "()I"⟩, Cond.selects RJx4a65c ⟨"java/util/List", "size", "()I"⟩ yJx4a65c_size_8abf5, Cond.instanceMethod yJx4a65c_size_8abf5, Cond.initialized RJx4a65c, Cond.code yJx4a65c_size_8abf5 cJx4a65c_size_8abf5 1 (some .int), Cond.fieldLink RJx4a65c 48 "java/util/ArrayList" "size" "I", Cond.methodLink RX5 175 ⟨"java/util/List", "get", "(I)Ljava/lang/Object;"⟩, Cond.selects RJx4a65c ⟨"java/util/List", "get", "(I)Ljava/lang/Object;"⟩ yJx4a65c_get_915e3, Cond.instanceMethod yJx4a65c_get_915e3, Cond.code yJx4a65c_get_915e3 cJx4a65c_get_915e3 2 (some (.object "java/lang/Object")), Cond.methodLink RJx4a65c 118 yJ15_checkIndex_7cf53, Cond.static yJ15_checkIndex_7cf53, Cond.initialized RJ15, Cond.code yJ15_checkIndex_7cf53 cJ15_checkIndex_7cf53 2 (some .int), Cond.methodLink RJ15 105 yJ3_checkIndex_8e157, Cond.static yJ3_checkIndex_8e157, Cond.initialized RJ3, Cond.code yJ3_checkIndex_8e157 cJ3_checkIndex_8e157 3 (some .int), Cond.methodLink RJx4a65c 123 yJx4a65c_elementData_915e3, Cond.instanceMethod yJx4a65c_elementData_915e3, Cond.selects RJx4a65c yJx4a65c_elementData_915e3 yJx4a65c_elementData_915e3, Cond.code yJx4a65c_elementData_915e3 cJx4a65c_elementData_915e3 2 (some (.object "java/lang/Object"))]
def wsX5_theFirst_r2 : List Cond := [Cond.fieldLink RJx4a65c 9 "java/util/ArrayList" "elementData" "[Ljava/lang/Object;", Cond.methodLink RX5 222 yX3_isHome, Cond.instanceMethod yX3_isHome, Cond.selects RX3 yX3_isHome yX3_isHome, Cond.initialized RX3, Cond.code yX3_isHome cX3_isHome 1 (some .boolean), Cond.fieldLink RX3 34 "TeaRace$Ship" "homeHour" "I", Cond.methodLink RX5 284 yX3_beats, Cond.instanceMethod yX3_beats, Cond.selects RX3 yX3_beats yX3_beats, Cond.code yX3_beats cX3_beats 2 (some .boolean), Cond.fieldLink RX3 37 "TeaRace$Ship" "entry" "I", Cond.fieldLink RX3 46 "TeaRace$Ship" "number" "I"]
def wsX5_theFirst : List Cond := .code yX5_theFirst cX5_theFirst 4 (some (.object "TeaRace$Ship")) :: ((wsX5_theFirst_r1 ++ wsX5_theFirst_r2) ++ wsX50 ++ wsJx4a65c0 ++ wsX30)
def wsX5_first_r1 : List Cond := [Cond.fieldLink RX5 187 "TeaRace$Ship" "number" "I", Cond.methodLink RX5 183 yX5_theFirst, Cond.instanceMethod yX5_theFirst, Cond.selects RX5 yX5_theFirst yX5_theFirst, Cond.initialized RX5, Cond.code yX5_theFirst cX5_theFirst 4 (some (.object "TeaRace$Ship")), Cond.fieldLink RX5 26 "TeaRace" "fleet" "Ljava/util/List;", Cond.classLink RX5 113 "TeaRace$Ship", Cond.methodLink RX5 107 ⟨"java/util/List", "size", "()I"⟩, Cond.selects RJx4a65c ⟨"java/util/List", "size", "()I"⟩ yJx4a65c_size_8abf5, Cond.instanceMethod yJx4a65c_size_8abf5, Cond.initialized RJx4a65c, Cond.code yJx4a65c_size_8abf5 cJx4a65c_size_8abf5 1 (some .int), Cond.fieldLink RJx4a65c 48 "java/util/ArrayList" "size" "I", Cond.methodLink RX5 175 ⟨"java/util/List", "get", "(I)Ljava/lang/Object;"⟩, Cond.selects RJx4a65c ⟨"java/util/List", "get", "(I)Ljava/lang/Object;"⟩ yJx4a65c_get_915e3, Cond.instanceMethod yJx4a65c_get_915e3, Cond.code yJx4a65c_get_915e3 cJx4a65c_get_915e3 2 (some (.object "java/lang/Object")), Cond.methodLink RJx4a65c 118 yJ15_checkIndex_7cf53, Cond.static yJ15_checkIndex_7cf53, Cond.initialized RJ15, Cond.code yJ15_checkIndex_7cf53 cJ15_checkIndex_7cf53 2 (some .int), Cond.methodLink RJ15 105 yJ3_checkIndex_8e157, Cond.static yJ3_checkIndex_8e157]
def wsX5_first_r2 : List Cond := [Cond.initialized RJ3, Cond.code yJ3_checkIndex_8e157 cJ3_checkIndex_8e157 3 (some .int), Cond.methodLink RJx4a65c 123 yJx4a65c_elementData_915e3, Cond.instanceMethod yJx4a65c_elementData_915e3, Cond.selects RJx4a65c yJx4a65c_elementData_915e3 yJx4a65c_elementData_915e3, Cond.code yJx4a65c_elementData_915e3 cJx4a65c_elementData_915e3 2 (some (.object "java/lang/Object")), Cond.fieldLink RJx4a65c 9 "java/util/ArrayList" "elementData" "[Ljava/lang/Object;", Cond.methodLink RX5 222 yX3_isHome, Cond.instanceMethod yX3_isHome, Cond.selects RX3 yX3_isHome yX3_isHome, Cond.initialized RX3, Cond.code yX3_isHome cX3_isHome 1 (some .boolean), Cond.fieldLink RX3 34 "TeaRace$Ship" "homeHour" "I", Cond.methodLink RX5 284 yX3_beats, Cond.instanceMethod yX3_beats, Cond.selects RX3 yX3_beats yX3_beats, Cond.code yX3_beats cX3_beats 2 (some .boolean), Cond.fieldLink RX3 37 "TeaRace$Ship" "entry" "I", Cond.fieldLink RX3 46 "TeaRace$Ship" "number" "I"]
def wsX5_first : List Cond := .code yX5_first cX5_first 2 (some .int) :: ((wsX5_first_r1 ++ wsX5_first_r2) ++ wsX30 ++ wsX50 ++ wsJx4a65c0)
def wsX5_least_r1 : List Cond := [Cond.constant RX5 190 (98000), Cond.fieldLink RX5 19 "TeaRace" "passage" "LTeaRace$Passage;", Cond.fieldLink RX5 10 "TeaRace" "sea" "LTeaRace$Sea;", Cond.methodLink RX5 122 yX5_shipOf, Cond.instanceMethod yX5_shipOf, Cond.selects RX5 yX5_shipOf yX5_shipOf, Cond.initialized RX5, Cond.code yX5_shipOf cX5_shipOf 2 (some (.object "TeaRace$Ship")), Cond.fieldLink RX5 26 "TeaRace" "fleet" "Ljava/util/List;", Cond.classLink RX5 113 "TeaRace$Ship", Cond.methodLink RX5 107 ⟨"java/util/List", "size", "()I"⟩, Cond.selects RJx4a65c ⟨"java/util/List", "size", "()I"⟩ yJx4a65c_size_8abf5, Cond.instanceMethod yJx4a65c_size_8abf5, Cond.initialized RJx4a65c, Cond.code yJx4a65c_size_8abf5 cJx4a65c_size_8abf5 1 (some .int), Cond.fieldLink RJx4a65c 48 "java/util/ArrayList" "size" "I", Cond.methodLink RX5 175 ⟨"java/util/List", "get", "(I)Ljava/lang/Object;"⟩, Cond.selects RJx4a65c ⟨"java/util/List", "get", "(I)Ljava/lang/Object;"⟩ yJx4a65c_get_915e3, Cond.instanceMethod yJx4a65c_get_915e3, Cond.code yJx4a65c_get_915e3 cJx4a65c_get_915e3 2 (some (.object "java/lang/Object")), Cond.methodLink RJx4a65c 118 yJ15_checkIndex_7cf53, Cond.static yJ15_checkIndex_7cf53, Cond.initialized RJ15, Cond.code yJ15_checkIndex_7cf53 cJ15_checkIndex_7cf53 2 (some .int)]
def wsX5_least_r2 : List Cond := [Cond.methodLink RJ15 105 yJ3_checkIndex_8e157, Cond.static yJ3_checkIndex_8e157, Cond.initialized RJ3, Cond.code yJ3_checkIndex_8e157 cJ3_checkIndex_8e157 3 (some .int), Cond.methodLink RJx4a65c 123 yJx4a65c_elementData_915e3, Cond.instanceMethod yJx4a65c_elementData_915e3, Cond.selects RJx4a65c yJx4a65c_elementData_915e3 yJx4a65c_elementData_915e3, Cond.code yJx4a65c_elementData_915e3 cJx4a65c_elementData_915e3 2 (some (.object "java/lang/Object")), Cond.fieldLink RJx4a65c 9 "java/util/ArrayList" "elementData" "[Ljava/lang/Object;", Cond.methodLink RX5 104 yX5_isNoWater, Cond.instanceMethod yX5_isNoWater, Cond.selects RX5 yX5_isNoWater yX5_isNoWater, Cond.code yX5_isNoWater cX5_isNoWater 2 (some .boolean), Cond.methodLink RX5 60 yX5_outside, Cond.static yX5_outside, Cond.code yX5_outside cX5_outside 2 (some .boolean), Cond.methodLink RX5 64 yX2_isLand, Cond.instanceMethod yX2_isLand, Cond.selects RX2 yX2_isLand yX2_isLand, Cond.initialized RX2, Cond.code yX2_isLand cX2_isLand 2 (some .boolean), Cond.fieldLink RX2 9 "TeaRace$Sea" "landCells" "[Z", Cond.methodLink RX5 191 yX1_leastHours, Cond.instanceMethod yX1_leastHours]
def wsX5_least_r3 : List Cond := [Cond.selects RX1 yX1_leastHours yX1_leastHours, Cond.initialized RX1, Cond.code yX1_leastHours cX1_leastHours 8 (some .int), Cond.fieldLink RX1 9 "TeaRace$Passage" "hoursTo" "[I", Cond.fieldLink RX1 15 "TeaRace$Passage" "departed" "[Z", Cond.methodLink RX1 23 yX1_earliestCell, Cond.instanceMethod yX1_earliestCell, Cond.selects RX1 yX1_earliestCell yX1_earliestCell, Cond.code yX1_earliestCell cX1_earliestCell 4 (some .int), Cond.methodLink RX1 27 yX1_leave, Cond.instanceMethod yX1_leave, Cond.selects RX1 yX1_leave yX1_leave, Cond.code yX1_leave cX1_leave 8 none, Cond.methodLink RX1 31 yX2_nextCell, Cond.instanceMethod yX2_nextCell, Cond.selects RX2 yX2_nextCell yX2_nextCell, Cond.code yX2_nextCell cX2_nextCell 6 (some .int), Cond.methodLink RX2 50 yX2_isLand, Cond.methodLink RX1 37 yX1_comingHour, Cond.static yX1_comingHour, Cond.code yX1_comingHour cX1_comingHour 11 (some .int), Cond.methodLink RX1 49 Lib.Math.max.name, Cond.static Lib.Math.max.name, Cond.initialized "java/lang/Math"]
def wsX5_least_r4 : List Cond := [Cond.code Lib.Math.max.name Lib.Math.max.code 2 (some .int), Cond.static yX5_needOf, Cond.code yX5_needOf cX5_needOf 1 (some .int), Cond.static yX5_monthOf, Cond.code yX5_monthOf cX5_monthOf 1 (some .int), Cond.methodLink RX5 259 yJ9_floorMod_7cf53, Cond.static yJ9_floorMod_7cf53, Cond.initialized RJ9, Cond.code yJ9_floorMod_7cf53 cJ9_floorMod_7cf53 3 (some .int), Cond.methodLink RX1 57 yX2_windIn, Cond.instanceMethod yX2_windIn, Cond.selects RX2 yX2_windIn yX2_windIn, Cond.code yX2_windIn cX2_windIn 4 (some .int), Cond.fieldLink RX2 15 "TeaRace$Sea" "chartThere" "[Z", Cond.fieldLink RX2 20 "TeaRace$Sea" "charts" "[[B", Cond.methodLink RX1 60 yX3_speedIn, Cond.instanceMethod yX3_speedIn, Cond.selects RX3 yX3_speedIn yX3_speedIn, Cond.initialized RX3, Cond.code yX3_speedIn cX3_speedIn 4 (some .int), Cond.fieldLink RX3 49 "TeaRace$Ship" "kind" "I", Cond.fieldLink RX3 28 "TeaRace$Ship" "foulness" "I", Cond.methodLink RX3 69 Lib.Math.max.name, Cond.static yX5_eighthsBetween]
def wsX5_least_r5 : List Cond := [Cond.code yX5_eighthsBetween cX5_eighthsBetween 3 (some .int), Cond.methodLink RX5 251 Lib.Math.abs.name, Cond.static Lib.Math.abs.name, Cond.code Lib.Math.abs.name Lib.Math.abs.code 1 (some .int), Cond.methodLink RX5 256 Lib.Math.min.name, Cond.static Lib.Math.min.name, Cond.code Lib.Math.min.name Lib.Math.min.code 2 (some .int), Cond.static yX5_strengthOf, Cond.code yX5_strengthOf cX5_strengthOf 1 (some .int), Cond.methodLink RX3 66 yX3_sailSpeed, Cond.instanceMethod yX3_sailSpeed, Cond.selects RX3 yX3_sailSpeed yX3_sailSpeed, Cond.code yX3_sailSpeed cX3_sailSpeed 3 (some .int), Cond.methodLink RX3 74 yX3_moreAcrossTheWind, Cond.instanceMethod yX3_moreAcrossTheWind, Cond.selects RX3 yX3_moreAcrossTheWind yX3_moreAcrossTheWind, Cond.code yX3_moreAcrossTheWind cX3_moreAcrossTheWind 1 (some .int), Cond.methodLink RX1 65 yX1_hoursFor, Cond.static yX1_hoursFor, Cond.code yX1_hoursFor cX1_hoursFor 2 (some .int), Cond.methodLink RX1 41 yX1_reach, Cond.instanceMethod yX1_reach, Cond.selects RX1 yX1_reach yX1_reach, Cond.code yX1_reach cX1_reach 3 none]
def wsX5_least : List Cond := .code yX5_least cX5_least 6 (some .int) :: ((wsX5_least_r1 ++ (wsX5_least_r2 ++ (wsX5_least_r3 ++ (wsX5_least_r4 ++ wsX5_least_r5)))) ++ wsX50 ++ wsJx4a65c0 ++ wsX20 ++ wsX10 ++ wsX30)
def wsX5_sight_r1 : List Cond := [Cond.constant RX5 171 (100000), Cond.fieldLink RX5 47 "TeaRace" "sightCount" "I", Cond.fieldLink RX5 198 "TeaRace$Ship" "sights" "Ljava/util/List;", Cond.classLink RX5 201 RX4, Cond.instantiable RX4 2, Cond.initialized RX4, Cond.methodLink RX5 122 yX5_shipOf, Cond.instanceMethod yX5_shipOf, Cond.selects RX5 yX5_shipOf yX5_shipOf, Cond.initialized RX5, Cond.code yX5_shipOf cX5_shipOf 2 (some (.object "TeaRace$Ship")), Cond.fieldLink RX5 26 "TeaRace" "fleet" "Ljava/util/List;", Cond.classLink RX5 113 "TeaRace$Ship", Cond.methodLink RX5 107 ⟨"java/util/List", "size", "()I"⟩, Cond.selects RJx4a65c ⟨"java/util/List", "size", "()I"⟩ yJx4a65c_size_8abf5, Cond.instanceMethod yJx4a65c_size_8abf5, Cond.initialized RJx4a65c, Cond.code yJx4a65c_size_8abf5 cJx4a65c_size_8abf5 1 (some .int), Cond.fieldLink RJx4a65c 48 "java/util/ArrayList" "size" "I", Cond.methodLink RX5 175 ⟨"java/util/List", "get", "(I)Ljava/lang/Object;"⟩, Cond.selects RJx4a65c ⟨"java/util/List", "get", "(I)Ljava/lang/Object;"⟩ yJx4a65c_get_915e3, Cond.instanceMethod yJx4a65c_get_915e3, Cond.code yJx4a65c_get_915e3 cJx4a65c_get_915e3 2 (some (.object "java/lang/Object")), Cond.methodLink RJx4a65c 118 yJ15_checkIndex_7cf53]
def wsX5_sight_r2 : List Cond := [Cond.static yJ15_checkIndex_7cf53, Cond.initialized RJ15, Cond.code yJ15_checkIndex_7cf53 cJ15_checkIndex_7cf53 2 (some .int), Cond.methodLink RJ15 105 yJ3_checkIndex_8e157, Cond.static yJ3_checkIndex_8e157, Cond.initialized RJ3, Cond.code yJ3_checkIndex_8e157 cJ3_checkIndex_8e157 3 (some .int), Cond.methodLink RJx4a65c 123 yJx4a65c_elementData_915e3, Cond.instanceMethod yJx4a65c_elementData_915e3, Cond.selects RJx4a65c yJx4a65c_elementData_915e3 yJx4a65c_elementData_915e3, Cond.code yJx4a65c_elementData_915e3 cJx4a65c_elementData_915e3 2 (some (.object "java/lang/Object")), Cond.fieldLink RJx4a65c 9 "java/util/ArrayList" "elementData" "[Ljava/lang/Object;", Cond.methodLink RX5 60 yX5_outside, Cond.static yX5_outside, Cond.code yX5_outside cX5_outside 2 (some .boolean), Cond.methodLink RX5 195 yX3_isUnseenFrom, Cond.instanceMethod yX3_isUnseenFrom, Cond.selects RX3 yX3_isUnseenFrom yX3_isUnseenFrom, Cond.initialized RX3, Cond.code yX3_isUnseenFrom cX3_isUnseenFrom 2 (some .boolean), Cond.methodLink RX3 94 yX3_firstSightFrom, Cond.instanceMethod yX3_firstSightFrom, Cond.selects RX3 yX3_firstSightFrom yX3_firstSightFrom, Cond.code yX3_firstSightFrom cX3_firstSightFrom 4 (some (.object "TeaRace$Sight"))]
def wsX5_sight_r3 : List Cond := [Cond.fieldLink RX3 18 "TeaRace$Ship" "sights" "Ljava/util/List;", Cond.classLink RX3 101 "TeaRace$Sight", Cond.fieldLink RX3 103 "TeaRace$Sight" "hour" "I", Cond.methodLink RX3 78 ⟨"java/util/List", "size", "()I"⟩, Cond.methodLink RX3 83 ⟨"java/util/List", "get", "(I)Ljava/lang/Object;"⟩, Cond.methodLink RX5 203 yX4_init, Cond.instanceMethod yX4_init, Cond.code yX4_init cX4_init 3 none, Cond.methodLink RX4 1 objectInit, Cond.instanceMethod objectInit, Cond.code objectInit ⟨#[0xb1]⟩ 1 none, Cond.fieldLink RX4 7 "TeaRace$Sight" "cell" "I", Cond.fieldLink RX4 13 "TeaRace$Sight" "hour" "I", Cond.methodLink RX5 118 ⟨"java/util/List", "add", "(Ljava/lang/Object;)Z"⟩, Cond.selects RJx4a65c ⟨"java/util/List", "add", "(Ljava/lang/Object;)Z"⟩ yJx4a65c_add_9ea2d, Cond.instanceMethod yJx4a65c_add_9ea2d, Cond.code yJx4a65c_add_9ea2d cJx4a65c_add_9ea2d 2 (some .boolean), Cond.fieldLink RJx4a65c 63 "java/util/ArrayList" "modCount" "I", Cond.sameField "java/util/ArrayList" "java/util/AbstractList" "modCount" "I", Cond.methodLink RJx4a65c 131 yJx4a65c_add_72be8, Cond.instanceMethod yJx4a65c_add_72be8, Cond.selects RJx4a65c yJx4a65c_add_72be8 yJx4a65c_add_72be8, Cond.code yJx4a65c_add_72be8 cJx4a65c_add_72be8 4 none, Cond.methodLink RJx4a65c 129 yJx4a65c_grow_d5877]
def wsX5_sight_r4 : List Cond := [Cond.instanceMethod yJx4a65c_grow_d5877, Cond.selects RJx4a65c yJx4a65c_grow_d5877 yJx4a65c_grow_d5877, Cond.code yJx4a65c_grow_d5877 cJx4a65c_grow_d5877 1 (some (.array (.object "java/lang/Object"))), Cond.methodLink RJx4a65c 69 yJx4a65c_grow_92f84, Cond.instanceMethod yJx4a65c_grow_92f84, Cond.selects RJx4a65c yJx4a65c_grow_92f84 yJx4a65c_grow_92f84, Cond.code yJx4a65c_grow_92f84 cJx4a65c_grow_92f84 4 (some (.array (.object "java/lang/Object"))), Cond.fieldLink RJx4a65c 39 "java/util/ArrayList" "DEFAULTCAPACITY_EMPTY_ELEMENTDATA" "[Ljava/lang/Object;", Cond.methodLink RJx4a65c 79 Lib.Math.max.name, Cond.static Lib.Math.max.name, Cond.initialized "java/lang/Math", Cond.code Lib.Math.max.name Lib.Math.max.code 2 (some .int), Cond.classLink RJx4a65c 7 "java/lang/Object", Cond.methodLink RJx4a65c 73 yJ8_newLength_cabcc, Cond.static yJ8_newLength_cabcc, Cond.initialized RJ8, Cond.code yJ8_newLength_cabcc cJ8_newLength_cabcc 4 (some .int), Cond.methodLink RJ8 194 Lib.Math.max.name, Cond.constant RJ8 200 (2147483639), Cond.methodLink RJ8 201 yJ8_hugeLength_7cf53, Cond.static yJ8_hugeLength_7cf53, Cond.code yJ8_hugeLength_7cf53 cJ8_hugeLength_7cf53 3 (some .int), Cond.methodLink RJx4a65c 66 yJ7_copyOf_1904c, Cond.static yJ7_copyOf_1904c]
def wsX5_sight_r5 : List Cond := [Cond.initialized RJ7, Cond.code yJ7_copyOf_1904c cJ7_copyOf_1904c 2 (some (.array (.object "java/lang/Object"))), Cond.methodLink RJ7 86 ⟨"java/lang/Object", "getClass", "()Ljava/lang/Class;"⟩, Cond.selects "[Ljava/lang/Object;" ⟨"java/lang/Object", "getClass", "()Ljava/lang/Class;"⟩ ⟨"java/lang/Object", "getClass", "()Ljava/lang/Class;"⟩, Cond.instanceMethod ⟨"java/lang/Object", "getClass", "()Ljava/lang/Class;"⟩, Cond.native ⟨"java/lang/Object", "getClass", "()Ljava/lang/Class;"⟩, Cond.methodLink RJ7 300 yJ7_copyOf_6403c, Cond.static yJ7_copyOf_6403c, Cond.code yJ7_copyOf_6403c cJ7_copyOf_6403c 4 (some (.array (.object "java/lang/Object"))), Cond.classLink RJ7 110 "[Ljava/lang/Object;", Cond.classLink RJ7 2 "java/lang/Object", Cond.methodLink RJ7 304 Lib.Math.min.name, Cond.static Lib.Math.min.name, Cond.code Lib.Math.min.name Lib.Math.min.code 2 (some .int), Cond.methodLink RJ7 150 arraycopyName, Cond.native arraycopyName, Cond.static arraycopyName, Cond.initialized "java/lang/System"]
def wsX5_sight : List Cond := .code yX5_sight cX5_sight 5 (some .int) :: ((wsX5_sight_r1 ++ (wsX5_sight_r2 ++ (wsX5_sight_r3 ++ (wsX5_sight_r4 ++ wsX5_sight_r5)))) ++ wsX50 ++ wsX30 ++ wsX40 ++ wsJx4a65c0)
def wsX5_distanceFromHome : List Cond := .code yX5_distanceFromHome cX5_distanceFromHome 4 (some .int) :: ([.fieldLink RX5 41 "TeaRace" "homeCell" "I", .methodLink RX5 251 Lib.Math.abs.name, .static Lib.Math.abs.name, .initialized "java/lang/Math", .code Lib.Math.abs.name Lib.Math.abs.code 1 (some .int), .methodLink RX5 288 Lib.Math.max.name, .static Lib.Math.max.name, .code Lib.Math.max.name Lib.Math.max.code 2 (some .int)] ++ wsX50)
def wsX5_mostDistance_r1 : List Cond := [Cond.fieldLink RX5 298 "TeaRace$Sight" "cell" "I", Cond.fieldLink RX5 302 "TeaRace$Sight" "hour" "I", Cond.methodLink RX5 256 Lib.Math.min.name, Cond.static Lib.Math.min.name, Cond.initialized "java/lang/Math", Cond.code Lib.Math.min.name Lib.Math.min.code 2 (some .int), Cond.methodLink RX5 291 yX3_lastSightBy, Cond.instanceMethod yX3_lastSightBy, Cond.selects RX3 yX3_lastSightBy yX3_lastSightBy, Cond.initialized RX3, Cond.code yX3_lastSightBy cX3_lastSightBy 5 (some (.object "TeaRace$Sight")), Cond.fieldLink RX3 18 "TeaRace$Ship" "sights" "Ljava/util/List;", Cond.classLink RX3 101 "TeaRace$Sight", Cond.fieldLink RX3 103 "TeaRace$Sight" "hour" "I", Cond.methodLink RX3 78 ⟨"java/util/List", "size", "()I"⟩, Cond.selects RJx4a65c ⟨"java/util/List", "size", "()I"⟩ yJx4a65c_size_8abf5, Cond.instanceMethod yJx4a65c_size_8abf5, Cond.initialized RJx4a65c, Cond.code yJx4a65c_size_8abf5 cJx4a65c_size_8abf5 1 (some .int), Cond.fieldLink RJx4a65c 48 "java/util/ArrayList" "size" "I", Cond.methodLink RX3 83 ⟨"java/util/List", "get", "(I)Ljava/lang/Object;"⟩, Cond.selects RJx4a65c ⟨"java/util/List", "get", "(I)Ljava/lang/Object;"⟩ yJx4a65c_get_915e3, Cond.instanceMethod yJx4a65c_get_915e3, Cond.code yJx4a65c_get_915e3 cJx4a65c_get_915e3 2 (some (.object "java/lang/Object"))]
def wsX5_mostDistance_r2 : List Cond := [Cond.methodLink RJx4a65c 118 yJ15_checkIndex_7cf53, Cond.static yJ15_checkIndex_7cf53, Cond.initialized RJ15, Cond.code yJ15_checkIndex_7cf53 cJ15_checkIndex_7cf53 2 (some .int), Cond.methodLink RJ15 105 yJ3_checkIndex_8e157, Cond.static yJ3_checkIndex_8e157, Cond.initialized RJ3, Cond.code yJ3_checkIndex_8e157 cJ3_checkIndex_8e157 3 (some .int), Cond.methodLink RJx4a65c 123 yJx4a65c_elementData_915e3, Cond.instanceMethod yJx4a65c_elementData_915e3, Cond.selects RJx4a65c yJx4a65c_elementData_915e3 yJx4a65c_elementData_915e3, Cond.code yJx4a65c_elementData_915e3 cJx4a65c_elementData_915e3 2 (some (.object "java/lang/Object")), Cond.fieldLink RJx4a65c 9 "java/util/ArrayList" "elementData" "[Ljava/lang/Object;", Cond.methodLink RX5 295 yX3_firstSightFrom, Cond.instanceMethod yX3_firstSightFrom, Cond.selects RX3 yX3_firstSightFrom yX3_firstSightFrom, Cond.code yX3_firstSightFrom cX3_firstSightFrom 4 (some (.object "TeaRace$Sight")), Cond.methodLink RX5 299 yX5_distanceFromHome, Cond.instanceMethod yX5_distanceFromHome, Cond.selects RX5 yX5_distanceFromHome yX5_distanceFromHome, Cond.initialized RX5, Cond.code yX5_distanceFromHome cX5_distanceFromHome 4 (some .int), Cond.fieldLink RX5 41 "TeaRace" "homeCell" "I", Cond.methodLink RX5 251 Lib.Math.abs.name]
def wsX5_mostDistance_r3 : List Cond := [Cond.static Lib.Math.abs.name, Cond.code Lib.Math.abs.name Lib.Math.abs.code 1 (some .int), Cond.methodLink RX5 288 Lib.Math.max.name, Cond.static Lib.Math.max.name, Cond.code Lib.Math.max.name Lib.Math.max.code 2 (some .int)]
def wsX5_mostDistance : List Cond := .code yX5_mostDistance cX5_mostDistance 7 (some .int) :: ((wsX5_mostDistance_r1 ++ (wsX5_mostDistance_r2 ++ wsX5_mostDistance_r3)) ++ wsX40 ++ wsX30 ++ wsJx4a65c0 ++ wsX50)
def wsX5_leastDistance_r1 : List Cond := [Cond.fieldLink RX5 298 "TeaRace$Sight" "cell" "I", Cond.fieldLink RX5 302 "TeaRace$Sight" "hour" "I", Cond.methodLink RX5 288 Lib.Math.max.name, Cond.static Lib.Math.max.name, Cond.initialized "java/lang/Math", Cond.code Lib.Math.max.name Lib.Math.max.code 2 (some .int), Cond.methodLink RX5 291 yX3_lastSightBy, Cond.instanceMethod yX3_lastSightBy, Cond.selects RX3 yX3_lastSightBy yX3_lastSightBy, Cond.initialized RX3, Cond.code yX3_lastSightBy cX3_lastSightBy 5 (some (.object "TeaRace$Sight")), Cond.fieldLink RX3 18 "TeaRace$Ship" "sights" "Ljava/util/List;", Cond.classLink RX3 101 "TeaRace$Sight", Cond.fieldLink RX3 103 "TeaRace$Sight" "hour" "I", Cond.methodLink RX3 78 ⟨"java/util/List", "size", "()I"⟩, Cond.selects RJx4a65c ⟨"java/util/List", "size", "()I"⟩ yJx4a65c_size_8abf5, Cond.instanceMethod yJx4a65c_size_8abf5, Cond.initialized RJx4a65c, Cond.code yJx4a65c_size_8abf5 cJx4a65c_size_8abf5 1 (some .int), Cond.fieldLink RJx4a65c 48 "java/util/ArrayList" "size" "I", Cond.methodLink RX3 83 ⟨"java/util/List", "get", "(I)Ljava/lang/Object;"⟩, Cond.selects RJx4a65c ⟨"java/util/List", "get", "(I)Ljava/lang/Object;"⟩ yJx4a65c_get_915e3, Cond.instanceMethod yJx4a65c_get_915e3, Cond.code yJx4a65c_get_915e3 cJx4a65c_get_915e3 2 (some (.object "java/lang/Object"))]
def wsX5_leastDistance_r2 : List Cond := [Cond.methodLink RJx4a65c 118 yJ15_checkIndex_7cf53, Cond.static yJ15_checkIndex_7cf53, Cond.initialized RJ15, Cond.code yJ15_checkIndex_7cf53 cJ15_checkIndex_7cf53 2 (some .int), Cond.methodLink RJ15 105 yJ3_checkIndex_8e157, Cond.static yJ3_checkIndex_8e157, Cond.initialized RJ3, Cond.code yJ3_checkIndex_8e157 cJ3_checkIndex_8e157 3 (some .int), Cond.methodLink RJx4a65c 123 yJx4a65c_elementData_915e3, Cond.instanceMethod yJx4a65c_elementData_915e3, Cond.selects RJx4a65c yJx4a65c_elementData_915e3 yJx4a65c_elementData_915e3, Cond.code yJx4a65c_elementData_915e3 cJx4a65c_elementData_915e3 2 (some (.object "java/lang/Object")), Cond.fieldLink RJx4a65c 9 "java/util/ArrayList" "elementData" "[Ljava/lang/Object;", Cond.methodLink RX5 295 yX3_firstSightFrom, Cond.instanceMethod yX3_firstSightFrom, Cond.selects RX3 yX3_firstSightFrom yX3_firstSightFrom, Cond.code yX3_firstSightFrom cX3_firstSightFrom 4 (some (.object "TeaRace$Sight")), Cond.methodLink RX5 299 yX5_distanceFromHome, Cond.instanceMethod yX5_distanceFromHome, Cond.selects RX5 yX5_distanceFromHome yX5_distanceFromHome, Cond.initialized RX5, Cond.code yX5_distanceFromHome cX5_distanceFromHome 4 (some .int), Cond.fieldLink RX5 41 "TeaRace" "homeCell" "I", Cond.methodLink RX5 251 Lib.Math.abs.name]
def wsX5_leastDistance_r3 : List Cond := [Cond.static Lib.Math.abs.name, Cond.code Lib.Math.abs.name Lib.Math.abs.code 1 (some .int)]
def wsX5_leastDistance : List Cond := .code yX5_leastDistance cX5_leastDistance 7 (some .int) :: ((wsX5_leastDistance_r1 ++ (wsX5_leastDistance_r2 ++ wsX5_leastDistance_r3)) ++ wsX40 ++ wsX30 ++ wsJx4a65c0 ++ wsX50)
def wsX5_distance_r1 : List Cond := [Cond.constant RX5 171 (100000), Cond.methodLink RX5 122 yX5_shipOf, Cond.instanceMethod yX5_shipOf, Cond.selects RX5 yX5_shipOf yX5_shipOf, Cond.initialized RX5, Cond.code yX5_shipOf cX5_shipOf 2 (some (.object "TeaRace$Ship")), Cond.fieldLink RX5 26 "TeaRace" "fleet" "Ljava/util/List;", Cond.classLink RX5 113 "TeaRace$Ship", Cond.methodLink RX5 107 ⟨"java/util/List", "size", "()I"⟩, Cond.selects RJx4a65c ⟨"java/util/List", "size", "()I"⟩ yJx4a65c_size_8abf5, Cond.instanceMethod yJx4a65c_size_8abf5, Cond.initialized RJx4a65c, Cond.code yJx4a65c_size_8abf5 cJx4a65c_size_8abf5 1 (some .int), Cond.fieldLink RJx4a65c 48 "java/util/ArrayList" "size" "I", Cond.methodLink RX5 175 ⟨"java/util/List", "get", "(I)Ljava/lang/Object;"⟩, Cond.selects RJx4a65c ⟨"java/util/List", "get", "(I)Ljava/lang/Object;"⟩ yJx4a65c_get_915e3, Cond.instanceMethod yJx4a65c_get_915e3, Cond.code yJx4a65c_get_915e3 cJx4a65c_get_915e3 2 (some (.object "java/lang/Object")), Cond.methodLink RJx4a65c 118 yJ15_checkIndex_7cf53, Cond.static yJ15_checkIndex_7cf53, Cond.initialized RJ15, Cond.code yJ15_checkIndex_7cf53 cJ15_checkIndex_7cf53 2 (some .int), Cond.methodLink RJ15 105 yJ3_checkIndex_8e157, Cond.static yJ3_checkIndex_8e157]
def wsX5_distance_r2 : List Cond := [Cond.initialized RJ3, Cond.code yJ3_checkIndex_8e157 cJ3_checkIndex_8e157 3 (some .int), Cond.methodLink RJx4a65c 123 yJx4a65c_elementData_915e3, Cond.instanceMethod yJx4a65c_elementData_915e3, Cond.selects RJx4a65c yJx4a65c_elementData_915e3 yJx4a65c_elementData_915e3, Cond.code yJx4a65c_elementData_915e3 cJx4a65c_elementData_915e3 2 (some (.object "java/lang/Object")), Cond.fieldLink RJx4a65c 9 "java/util/ArrayList" "elementData" "[Ljava/lang/Object;", Cond.methodLink RX5 60 yX5_outside, Cond.static yX5_outside, Cond.code yX5_outside cX5_outside 2 (some .boolean), Cond.methodLink RX5 206 yX5_mostDistance, Cond.instanceMethod yX5_mostDistance, Cond.selects RX5 yX5_mostDistance yX5_mostDistance, Cond.code yX5_mostDistance cX5_mostDistance 7 (some .int), Cond.fieldLink RX5 298 "TeaRace$Sight" "cell" "I", Cond.fieldLink RX5 302 "TeaRace$Sight" "hour" "I", Cond.methodLink RX5 256 Lib.Math.min.name, Cond.static Lib.Math.min.name, Cond.initialized "java/lang/Math", Cond.code Lib.Math.min.name Lib.Math.min.code 2 (some .int), Cond.methodLink RX5 291 yX3_lastSightBy, Cond.instanceMethod yX3_lastSightBy, Cond.selects RX3 yX3_lastSightBy yX3_lastSightBy, Cond.initialized RX3]
def wsX5_distance_r3 : List Cond := [Cond.code yX3_lastSightBy cX3_lastSightBy 5 (some (.object "TeaRace$Sight")), Cond.fieldLink RX3 18 "TeaRace$Ship" "sights" "Ljava/util/List;", Cond.classLink RX3 101 "TeaRace$Sight", Cond.fieldLink RX3 103 "TeaRace$Sight" "hour" "I", Cond.methodLink RX3 78 ⟨"java/util/List", "size", "()I"⟩, Cond.methodLink RX3 83 ⟨"java/util/List", "get", "(I)Ljava/lang/Object;"⟩, Cond.methodLink RX5 295 yX3_firstSightFrom, Cond.instanceMethod yX3_firstSightFrom, Cond.selects RX3 yX3_firstSightFrom yX3_firstSightFrom, Cond.code yX3_firstSightFrom cX3_firstSightFrom 4 (some (.object "TeaRace$Sight")), Cond.methodLink RX5 299 yX5_distanceFromHome, Cond.instanceMethod yX5_distanceFromHome, Cond.selects RX5 yX5_distanceFromHome yX5_distanceFromHome, Cond.code yX5_distanceFromHome cX5_distanceFromHome 4 (some .int), Cond.fieldLink RX5 41 "TeaRace" "homeCell" "I", Cond.methodLink RX5 251 Lib.Math.abs.name, Cond.static Lib.Math.abs.name, Cond.code Lib.Math.abs.name Lib.Math.abs.code 1 (some .int), Cond.methodLink RX5 288 Lib.Math.max.name, Cond.static Lib.Math.max.name, Cond.code Lib.Math.max.name Lib.Math.max.code 2 (some .int), Cond.methodLink RX5 210 yX5_leastDistance, Cond.instanceMethod yX5_leastDistance, Cond.selects RX5 yX5_leastDistance yX5_leastDistance]
def wsX5_distance_r4 : List Cond := [Cond.code yX5_leastDistance cX5_leastDistance 7 (some .int)]
def wsX5_distance : List Cond := .code yX5_distance cX5_distance 5 (some .int) :: ((wsX5_distance_r1 ++ (wsX5_distance_r2 ++ (wsX5_distance_r3 ++ wsX5_distance_r4))) ++ wsX50 ++ wsJx4a65c0 ++ wsX40 ++ wsX30)
def wsX5_ahead_r1 : List Cond := [Cond.constant RX5 171 (100000), Cond.methodLink RX5 122 yX5_shipOf, Cond.instanceMethod yX5_shipOf, Cond.selects RX5 yX5_shipOf yX5_shipOf, Cond.initialized RX5, Cond.code yX5_shipOf cX5_shipOf 2 (some (.object "TeaRace$Ship")), Cond.fieldLink RX5 26 "TeaRace" "fleet" "Ljava/util/List;", Cond.classLink RX5 113 "TeaRace$Ship", Cond.methodLink RX5 107 ⟨"java/util/List", "size", "()I"⟩, Cond.selects RJx4a65c ⟨"java/util/List", "size", "()I"⟩ yJx4a65c_size_8abf5, Cond.instanceMethod yJx4a65c_size_8abf5, Cond.initialized RJx4a65c, Cond.code yJx4a65c_size_8abf5 cJx4a65c_size_8abf5 1 (some .int), Cond.fieldLink RJx4a65c 48 "java/util/ArrayList" "size" "I", Cond.methodLink RX5 175 ⟨"java/util/List", "get", "(I)Ljava/lang/Object;"⟩, Cond.selects RJx4a65c ⟨"java/util/List", "get", "(I)Ljava/lang/Object;"⟩ yJx4a65c_get_915e3, Cond.instanceMethod yJx4a65c_get_915e3, Cond.code yJx4a65c_get_915e3 cJx4a65c_get_915e3 2 (some (.object "java/lang/Object")), Cond.methodLink RJx4a65c 118 yJ15_checkIndex_7cf53, Cond.static yJ15_checkIndex_7cf53, Cond.initialized RJ15, Cond.code yJ15_checkIndex_7cf53 cJ15_checkIndex_7cf53 2 (some .int), Cond.methodLink RJ15 105 yJ3_checkIndex_8e157, Cond.static yJ3_checkIndex_8e157]
def wsX5_ahead_r2 : List Cond := [Cond.initialized RJ3, Cond.code yJ3_checkIndex_8e157 cJ3_checkIndex_8e157 3 (some .int), Cond.methodLink RJx4a65c 123 yJx4a65c_elementData_915e3, Cond.instanceMethod yJx4a65c_elementData_915e3, Cond.selects RJx4a65c yJx4a65c_elementData_915e3 yJx4a65c_elementData_915e3, Cond.code yJx4a65c_elementData_915e3 cJx4a65c_elementData_915e3 2 (some (.object "java/lang/Object")), Cond.fieldLink RJx4a65c 9 "java/util/ArrayList" "elementData" "[Ljava/lang/Object;", Cond.methodLink RX5 60 yX5_outside, Cond.static yX5_outside, Cond.code yX5_outside cX5_outside 2 (some .boolean), Cond.methodLink RX5 213 yX3_isSeenAround, Cond.instanceMethod yX3_isSeenAround, Cond.selects RX3 yX3_isSeenAround yX3_isSeenAround, Cond.initialized RX3, Cond.code yX3_isSeenAround cX3_isSeenAround 2 (some .boolean), Cond.methodLink RX3 98 yX3_lastSightBy, Cond.instanceMethod yX3_lastSightBy, Cond.selects RX3 yX3_lastSightBy yX3_lastSightBy, Cond.code yX3_lastSightBy cX3_lastSightBy 5 (some (.object "TeaRace$Sight")), Cond.fieldLink RX3 18 "TeaRace$Ship" "sights" "Ljava/util/List;", Cond.classLink RX3 101 "TeaRace$Sight", Cond.fieldLink RX3 103 "TeaRace$Sight" "hour" "I", Cond.methodLink RX3 78 ⟨"java/util/List", "size", "()I"⟩, Cond.methodLink RX3 83 ⟨"java/util/List", "get", "(I)Ljava/lang/Object;"⟩]
def wsX5_ahead_r3 : List Cond := [Cond.methodLink RX3 94 yX3_firstSightFrom, Cond.instanceMethod yX3_firstSightFrom, Cond.selects RX3 yX3_firstSightFrom yX3_firstSightFrom, Cond.code yX3_firstSightFrom cX3_firstSightFrom 4 (some (.object "TeaRace$Sight")), Cond.methodLink RX5 206 yX5_mostDistance, Cond.instanceMethod yX5_mostDistance, Cond.selects RX5 yX5_mostDistance yX5_mostDistance, Cond.code yX5_mostDistance cX5_mostDistance 7 (some .int), Cond.fieldLink RX5 298 "TeaRace$Sight" "cell" "I", Cond.fieldLink RX5 302 "TeaRace$Sight" "hour" "I", Cond.methodLink RX5 256 Lib.Math.min.name, Cond.static Lib.Math.min.name, Cond.initialized "java/lang/Math", Cond.code Lib.Math.min.name Lib.Math.min.code 2 (some .int), Cond.methodLink RX5 291 yX3_lastSightBy, Cond.methodLink RX5 295 yX3_firstSightFrom, Cond.methodLink RX5 299 yX5_distanceFromHome, Cond.instanceMethod yX5_distanceFromHome, Cond.selects RX5 yX5_distanceFromHome yX5_distanceFromHome, Cond.code yX5_distanceFromHome cX5_distanceFromHome 4 (some .int), Cond.fieldLink RX5 41 "TeaRace" "homeCell" "I", Cond.methodLink RX5 251 Lib.Math.abs.name, Cond.static Lib.Math.abs.name, Cond.code Lib.Math.abs.name Lib.Math.abs.code 1 (some .int)]
def wsX5_ahead_r4 : List Cond := [Cond.methodLink RX5 288 Lib.Math.max.name, Cond.static Lib.Math.max.name, Cond.code Lib.Math.max.name Lib.Math.max.code 2 (some .int), Cond.methodLink RX5 210 yX5_leastDistance, Cond.instanceMethod yX5_leastDistance, Cond.selects RX5 yX5_leastDistance yX5_leastDistance, Cond.code yX5_leastDistance cX5_leastDistance 7 (some .int)]
def wsX5_ahead : List Cond := .code yX5_ahead cX5_ahead 6 (some .int) :: ((wsX5_ahead_r1 ++ (wsX5_ahead_r2 ++ (wsX5_ahead_r3 ++ wsX5_ahead_r4))) ++ wsX50 ++ wsJx4a65c0 ++ wsX30 ++ wsX40)
def wsX5_charter_r1 : List Cond := [Cond.constant RX5 171 (100000), Cond.fieldLink RX5 216 "TeaRace$Ship" "rate" "I", Cond.fieldLink RX5 219 "TeaRace$Ship" "premium" "I", Cond.methodLink RX5 122 yX5_shipOf, Cond.instanceMethod yX5_shipOf, Cond.selects RX5 yX5_shipOf yX5_shipOf, Cond.initialized RX5, Cond.code yX5_shipOf cX5_shipOf 2 (some (.object "TeaRace$Ship")), Cond.fieldLink RX5 26 "TeaRace" "fleet" "Ljava/util/List;", Cond.classLink RX5 113 "TeaRace$Ship", Cond.methodLink RX5 107 ⟨"java/util/List", "size", "()I"⟩, Cond.selects RJx4a65c ⟨"java/util/List", "size", "()I"⟩ yJx4a65c_size_8abf5, Cond.instanceMethod yJx4a65c_size_8abf5, Cond.initialized RJx4a65c, Cond.code yJx4a65c_size_8abf5 cJx4a65c_size_8abf5 1 (some .int), Cond.fieldLink RJx4a65c 48 "java/util/ArrayList" "size" "I", Cond.methodLink RX5 175 ⟨"java/util/List", "get", "(I)Ljava/lang/Object;"⟩, Cond.selects RJx4a65c ⟨"java/util/List", "get", "(I)Ljava/lang/Object;"⟩ yJx4a65c_get_915e3, Cond.instanceMethod yJx4a65c_get_915e3, Cond.code yJx4a65c_get_915e3 cJx4a65c_get_915e3 2 (some (.object "java/lang/Object")), Cond.methodLink RJx4a65c 118 yJ15_checkIndex_7cf53, Cond.static yJ15_checkIndex_7cf53, Cond.initialized RJ15, Cond.code yJ15_checkIndex_7cf53 cJ15_checkIndex_7cf53 2 (some .int)]
def wsX5_charter_r2 : List Cond := [Cond.methodLink RJ15 105 yJ3_checkIndex_8e157, Cond.static yJ3_checkIndex_8e157, Cond.initialized RJ3, Cond.code yJ3_checkIndex_8e157 cJ3_checkIndex_8e157 3 (some .int), Cond.methodLink RJx4a65c 123 yJx4a65c_elementData_915e3, Cond.instanceMethod yJx4a65c_elementData_915e3, Cond.selects RJx4a65c yJx4a65c_elementData_915e3 yJx4a65c_elementData_915e3, Cond.code yJx4a65c_elementData_915e3 cJx4a65c_elementData_915e3 2 (some (.object "java/lang/Object")), Cond.fieldLink RJx4a65c 9 "java/util/ArrayList" "elementData" "[Ljava/lang/Object;", Cond.methodLink RX5 60 yX5_outside, Cond.static yX5_outside, Cond.code yX5_outside cX5_outside 2 (some .boolean)]
def wsX5_charter : List Cond := .code yX5_charter cX5_charter 5 (some .int) :: ((wsX5_charter_r1 ++ wsX5_charter_r2) ++ wsX30 ++ wsX50 ++ wsJx4a65c0)
def wsX5_freight_r1 : List Cond := [Cond.fieldLink RX5 219 "TeaRace$Ship" "premium" "I", Cond.fieldLink RX5 147 "TeaRace$Ship" "chests" "I", Cond.fieldLink RX5 216 "TeaRace$Ship" "rate" "I", Cond.methodLink RX5 122 yX5_shipOf, Cond.instanceMethod yX5_shipOf, Cond.selects RX5 yX5_shipOf yX5_shipOf, Cond.initialized RX5, Cond.code yX5_shipOf cX5_shipOf 2 (some (.object "TeaRace$Ship")), Cond.fieldLink RX5 26 "TeaRace" "fleet" "Ljava/util/List;", Cond.classLink RX5 113 "TeaRace$Ship", Cond.methodLink RX5 107 ⟨"java/util/List", "size", "()I"⟩, Cond.selects RJx4a65c ⟨"java/util/List", "size", "()I"⟩ yJx4a65c_size_8abf5, Cond.instanceMethod yJx4a65c_size_8abf5, Cond.initialized RJx4a65c, Cond.code yJx4a65c_size_8abf5 cJx4a65c_size_8abf5 1 (some .int), Cond.fieldLink RJx4a65c 48 "java/util/ArrayList" "size" "I", Cond.methodLink RX5 175 ⟨"java/util/List", "get", "(I)Ljava/lang/Object;"⟩, Cond.selects RJx4a65c ⟨"java/util/List", "get", "(I)Ljava/lang/Object;"⟩ yJx4a65c_get_915e3, Cond.instanceMethod yJx4a65c_get_915e3, Cond.code yJx4a65c_get_915e3 cJx4a65c_get_915e3 2 (some (.object "java/lang/Object")), Cond.methodLink RJx4a65c 118 yJ15_checkIndex_7cf53, Cond.static yJ15_checkIndex_7cf53, Cond.initialized RJ15, Cond.code yJ15_checkIndex_7cf53 cJ15_checkIndex_7cf53 2 (some .int)]
def wsX5_freight_r2 : List Cond := [Cond.methodLink RJ15 105 yJ3_checkIndex_8e157, Cond.static yJ3_checkIndex_8e157, Cond.initialized RJ3, Cond.code yJ3_checkIndex_8e157 cJ3_checkIndex_8e157 3 (some .int), Cond.methodLink RJx4a65c 123 yJx4a65c_elementData_915e3, Cond.instanceMethod yJx4a65c_elementData_915e3, Cond.selects RJx4a65c yJx4a65c_elementData_915e3 yJx4a65c_elementData_915e3, Cond.code yJx4a65c_elementData_915e3 cJx4a65c_elementData_915e3 2 (some (.object "java/lang/Object")), Cond.fieldLink RJx4a65c 9 "java/util/ArrayList" "elementData" "[Ljava/lang/Object;", Cond.methodLink RX5 222 yX3_isHome, Cond.instanceMethod yX3_isHome, Cond.selects RX3 yX3_isHome yX3_isHome, Cond.initialized RX3, Cond.code yX3_isHome cX3_isHome 1 (some .boolean), Cond.fieldLink RX3 34 "TeaRace$Ship" "homeHour" "I", Cond.methodLink RX5 183 yX5_theFirst, Cond.instanceMethod yX5_theFirst, Cond.selects RX5 yX5_theFirst yX5_theFirst, Cond.code yX5_theFirst cX5_theFirst 4 (some (.object "TeaRace$Ship")), Cond.methodLink RX5 284 yX3_beats, Cond.instanceMethod yX3_beats, Cond.selects RX3 yX3_beats yX3_beats, Cond.code yX3_beats cX3_beats 2 (some .boolean), Cond.fieldLink RX3 37 "TeaRace$Ship" "entry" "I"]
def wsX5_freight_r3 : List Cond := [Cond.fieldLink RX3 46 "TeaRace$Ship" "number" "I"]
def wsX5_freight : List Cond := .code yX5_freight cX5_freight 4 (some .int) :: ((wsX5_freight_r1 ++ (wsX5_freight_r2 ++ wsX5_freight_r3)) ++ wsX30 ++ wsX50 ++ wsJx4a65c0)
def wsX5_market : List Cond := .code yX5_market cX5_market 3 (some .int) :: ([.fieldLink RX5 50 "TeaRace" "priceAtFirst" "I", .fieldLink RX5 53 "TeaRace" "fallOfPrice" "I", .methodLink RX5 60 yX5_outside, .static yX5_outside, .initialized RX5, .code yX5_outside cX5_outside 2 (some .boolean)] ++ wsX50)
def wsX5_priceAtEntry_r1 : List Cond := [Cond.fieldLink RX5 26 "TeaRace" "fleet" "Ljava/util/List;", Cond.classLink RX5 113 "TeaRace$Ship", Cond.fieldLink RX5 147 "TeaRace$Ship" "chests" "I", Cond.fieldLink RX5 50 "TeaRace" "priceAtFirst" "I", Cond.fieldLink RX5 53 "TeaRace" "fallOfPrice" "I", Cond.methodLink RX5 288 Lib.Math.max.name, Cond.static Lib.Math.max.name, Cond.initialized "java/lang/Math", Cond.code Lib.Math.max.name Lib.Math.max.code 2 (some .int), Cond.methodLink RX5 107 ⟨"java/util/List", "size", "()I"⟩, Cond.selects RJx4a65c ⟨"java/util/List", "size", "()I"⟩ yJx4a65c_size_8abf5, Cond.instanceMethod yJx4a65c_size_8abf5, Cond.initialized RJx4a65c, Cond.code yJx4a65c_size_8abf5 cJx4a65c_size_8abf5 1 (some .int), Cond.fieldLink RJx4a65c 48 "java/util/ArrayList" "size" "I", Cond.methodLink RX5 175 ⟨"java/util/List", "get", "(I)Ljava/lang/Object;"⟩, Cond.selects RJx4a65c ⟨"java/util/List", "get", "(I)Ljava/lang/Object;"⟩ yJx4a65c_get_915e3, Cond.instanceMethod yJx4a65c_get_915e3, Cond.code yJx4a65c_get_915e3 cJx4a65c_get_915e3 2 (some (.object "java/lang/Object")), Cond.methodLink RJx4a65c 118 yJ15_checkIndex_7cf53, Cond.static yJ15_checkIndex_7cf53, Cond.initialized RJ15, Cond.code yJ15_checkIndex_7cf53 cJ15_checkIndex_7cf53 2 (some .int), Cond.methodLink RJ15 105 yJ3_checkIndex_8e157]
def wsX5_priceAtEntry_r2 : List Cond := [Cond.static yJ3_checkIndex_8e157, Cond.initialized RJ3, Cond.code yJ3_checkIndex_8e157 cJ3_checkIndex_8e157 3 (some .int), Cond.methodLink RJx4a65c 123 yJx4a65c_elementData_915e3, Cond.instanceMethod yJx4a65c_elementData_915e3, Cond.selects RJx4a65c yJx4a65c_elementData_915e3 yJx4a65c_elementData_915e3, Cond.code yJx4a65c_elementData_915e3 cJx4a65c_elementData_915e3 2 (some (.object "java/lang/Object")), Cond.fieldLink RJx4a65c 9 "java/util/ArrayList" "elementData" "[Ljava/lang/Object;", Cond.methodLink RX5 222 yX3_isHome, Cond.instanceMethod yX3_isHome, Cond.selects RX3 yX3_isHome yX3_isHome, Cond.initialized RX3, Cond.code yX3_isHome cX3_isHome 1 (some .boolean), Cond.fieldLink RX3 34 "TeaRace$Ship" "homeHour" "I", Cond.methodLink RX5 303 yX3_entersBefore, Cond.instanceMethod yX3_entersBefore, Cond.selects RX3 yX3_entersBefore yX3_entersBefore, Cond.code yX3_entersBefore cX3_entersBefore 2 (some .boolean), Cond.fieldLink RX3 37 "TeaRace$Ship" "entry" "I", Cond.fieldLink RX3 46 "TeaRace$Ship" "number" "I"]
def wsX5_priceAtEntry : List Cond := .code yX5_priceAtEntry cX5_priceAtEntry 5 (some .int) :: ((wsX5_priceAtEntry_r1 ++ wsX5_priceAtEntry_r2) ++ wsX50 ++ wsX30 ++ wsJx4a65c0)
def wsX5_takings_r1 : List Cond := [Cond.fieldLink RX5 147 "TeaRace$Ship" "chests" "I", Cond.methodLink RX5 230 yX5_priceAtEntry, Cond.instanceMethod yX5_priceAtEntry, Cond.selects RX5 yX5_priceAtEntry yX5_priceAtEntry, Cond.initialized RX5, Cond.code yX5_priceAtEntry cX5_priceAtEntry 5 (some .int), Cond.fieldLink RX5 26 "TeaRace" "fleet" "Ljava/util/List;", Cond.classLink RX5 113 "TeaRace$Ship", Cond.fieldLink RX5 50 "TeaRace" "priceAtFirst" "I", Cond.fieldLink RX5 53 "TeaRace" "fallOfPrice" "I", Cond.methodLink RX5 288 Lib.Math.max.name, Cond.static Lib.Math.max.name, Cond.initialized "java/lang/Math", Cond.code Lib.Math.max.name Lib.Math.max.code 2 (some .int), Cond.methodLink RX5 107 ⟨"java/util/List", "size", "()I"⟩, Cond.selects RJx4a65c ⟨"java/util/List", "size", "()I"⟩ yJx4a65c_size_8abf5, Cond.instanceMethod yJx4a65c_size_8abf5, Cond.initialized RJx4a65c, Cond.code yJx4a65c_size_8abf5 cJx4a65c_size_8abf5 1 (some .int), Cond.fieldLink RJx4a65c 48 "java/util/ArrayList" "size" "I", Cond.methodLink RX5 175 ⟨"java/util/List", "get", "(I)Ljava/lang/Object;"⟩, Cond.selects RJx4a65c ⟨"java/util/List", "get", "(I)Ljava/lang/Object;"⟩ yJx4a65c_get_915e3, Cond.instanceMethod yJx4a65c_get_915e3, Cond.code yJx4a65c_get_915e3 cJx4a65c_get_915e3 2 (some (.object "java/lang/Object"))]
def wsX5_takings_r2 : List Cond := [Cond.methodLink RJx4a65c 118 yJ15_checkIndex_7cf53, Cond.static yJ15_checkIndex_7cf53, Cond.initialized RJ15, Cond.code yJ15_checkIndex_7cf53 cJ15_checkIndex_7cf53 2 (some .int), Cond.methodLink RJ15 105 yJ3_checkIndex_8e157, Cond.static yJ3_checkIndex_8e157, Cond.initialized RJ3, Cond.code yJ3_checkIndex_8e157 cJ3_checkIndex_8e157 3 (some .int), Cond.methodLink RJx4a65c 123 yJx4a65c_elementData_915e3, Cond.instanceMethod yJx4a65c_elementData_915e3, Cond.selects RJx4a65c yJx4a65c_elementData_915e3 yJx4a65c_elementData_915e3, Cond.code yJx4a65c_elementData_915e3 cJx4a65c_elementData_915e3 2 (some (.object "java/lang/Object")), Cond.fieldLink RJx4a65c 9 "java/util/ArrayList" "elementData" "[Ljava/lang/Object;", Cond.methodLink RX5 222 yX3_isHome, Cond.instanceMethod yX3_isHome, Cond.selects RX3 yX3_isHome yX3_isHome, Cond.initialized RX3, Cond.code yX3_isHome cX3_isHome 1 (some .boolean), Cond.fieldLink RX3 34 "TeaRace$Ship" "homeHour" "I", Cond.methodLink RX5 303 yX3_entersBefore, Cond.instanceMethod yX3_entersBefore, Cond.selects RX3 yX3_entersBefore yX3_entersBefore, Cond.code yX3_entersBefore cX3_entersBefore 2 (some .boolean), Cond.fieldLink RX3 37 "TeaRace$Ship" "entry" "I"]
def wsX5_takings_r3 : List Cond := [Cond.fieldLink RX3 46 "TeaRace$Ship" "number" "I"]
def wsX5_takings : List Cond := .code yX5_takings cX5_takings 2 (some .long) :: ((wsX5_takings_r1 ++ (wsX5_takings_r2 ++ wsX5_takings_r3)) ++ wsX30 ++ wsX50 ++ wsJx4a65c0)
def wsX5_sale_r1 : List Cond := [Cond.fieldLink RX5 56 "TeaRace" "latestSale" "J", Cond.methodLink RX5 122 yX5_shipOf, Cond.instanceMethod yX5_shipOf, Cond.selects RX5 yX5_shipOf yX5_shipOf, Cond.initialized RX5, Cond.code yX5_shipOf cX5_shipOf 2 (some (.object "TeaRace$Ship")), Cond.fieldLink RX5 26 "TeaRace" "fleet" "Ljava/util/List;", Cond.classLink RX5 113 "TeaRace$Ship", Cond.methodLink RX5 107 ⟨"java/util/List", "size", "()I"⟩, Cond.selects RJx4a65c ⟨"java/util/List", "size", "()I"⟩ yJx4a65c_size_8abf5, Cond.instanceMethod yJx4a65c_size_8abf5, Cond.initialized RJx4a65c, Cond.code yJx4a65c_size_8abf5 cJx4a65c_size_8abf5 1 (some .int), Cond.fieldLink RJx4a65c 48 "java/util/ArrayList" "size" "I", Cond.methodLink RX5 175 ⟨"java/util/List", "get", "(I)Ljava/lang/Object;"⟩, Cond.selects RJx4a65c ⟨"java/util/List", "get", "(I)Ljava/lang/Object;"⟩ yJx4a65c_get_915e3, Cond.instanceMethod yJx4a65c_get_915e3, Cond.code yJx4a65c_get_915e3 cJx4a65c_get_915e3 2 (some (.object "java/lang/Object")), Cond.methodLink RJx4a65c 118 yJ15_checkIndex_7cf53, Cond.static yJ15_checkIndex_7cf53, Cond.initialized RJ15, Cond.code yJ15_checkIndex_7cf53 cJ15_checkIndex_7cf53 2 (some .int), Cond.methodLink RJ15 105 yJ3_checkIndex_8e157, Cond.static yJ3_checkIndex_8e157]
def wsX5_sale_r2 : List Cond := [Cond.initialized RJ3, Cond.code yJ3_checkIndex_8e157 cJ3_checkIndex_8e157 3 (some .int), Cond.methodLink RJx4a65c 123 yJx4a65c_elementData_915e3, Cond.instanceMethod yJx4a65c_elementData_915e3, Cond.selects RJx4a65c yJx4a65c_elementData_915e3 yJx4a65c_elementData_915e3, Cond.code yJx4a65c_elementData_915e3 cJx4a65c_elementData_915e3 2 (some (.object "java/lang/Object")), Cond.fieldLink RJx4a65c 9 "java/util/ArrayList" "elementData" "[Ljava/lang/Object;", Cond.methodLink RX5 222 yX3_isHome, Cond.instanceMethod yX3_isHome, Cond.selects RX3 yX3_isHome yX3_isHome, Cond.initialized RX3, Cond.code yX3_isHome cX3_isHome 1 (some .boolean), Cond.fieldLink RX3 34 "TeaRace$Ship" "homeHour" "I", Cond.methodLink RX5 226 yX5_takings, Cond.instanceMethod yX5_takings, Cond.selects RX5 yX5_takings yX5_takings, Cond.code yX5_takings cX5_takings 2 (some .long), Cond.fieldLink RX5 147 "TeaRace$Ship" "chests" "I", Cond.methodLink RX5 230 yX5_priceAtEntry, Cond.instanceMethod yX5_priceAtEntry, Cond.selects RX5 yX5_priceAtEntry yX5_priceAtEntry, Cond.code yX5_priceAtEntry cX5_priceAtEntry 5 (some .int), Cond.fieldLink RX5 50 "TeaRace" "priceAtFirst" "I", Cond.fieldLink RX5 53 "TeaRace" "fallOfPrice" "I"]
def wsX5_sale_r3 : List Cond := [Cond.methodLink RX5 288 Lib.Math.max.name, Cond.static Lib.Math.max.name, Cond.initialized "java/lang/Math", Cond.code Lib.Math.max.name Lib.Math.max.code 2 (some .int), Cond.methodLink RX5 303 yX3_entersBefore, Cond.instanceMethod yX3_entersBefore, Cond.selects RX3 yX3_entersBefore yX3_entersBefore, Cond.code yX3_entersBefore cX3_entersBefore 2 (some .boolean), Cond.fieldLink RX3 37 "TeaRace$Ship" "entry" "I", Cond.fieldLink RX3 46 "TeaRace$Ship" "number" "I"]
def wsX5_sale : List Cond := .code yX5_sale cX5_sale 3 (some .int) :: ((wsX5_sale_r1 ++ (wsX5_sale_r2 ++ wsX5_sale_r3)) ++ wsX50 ++ wsJx4a65c0 ++ wsX30)
def wsX5_meanPrice_r1 : List Cond := [Cond.fieldLink RX5 26 "TeaRace" "fleet" "Ljava/util/List;", Cond.classLink RX5 113 "TeaRace$Ship", Cond.fieldLink RX5 147 "TeaRace$Ship" "chests" "I", Cond.methodLink RX5 107 ⟨"java/util/List", "size", "()I"⟩, Cond.selects RJx4a65c ⟨"java/util/List", "size", "()I"⟩ yJx4a65c_size_8abf5, Cond.instanceMethod yJx4a65c_size_8abf5, Cond.initialized RJx4a65c, Cond.code yJx4a65c_size_8abf5 cJx4a65c_size_8abf5 1 (some .int), Cond.fieldLink RJx4a65c 48 "java/util/ArrayList" "size" "I", Cond.methodLink RX5 175 ⟨"java/util/List", "get", "(I)Ljava/lang/Object;"⟩, Cond.selects RJx4a65c ⟨"java/util/List", "get", "(I)Ljava/lang/Object;"⟩ yJx4a65c_get_915e3, Cond.instanceMethod yJx4a65c_get_915e3, Cond.code yJx4a65c_get_915e3 cJx4a65c_get_915e3 2 (some (.object "java/lang/Object")), Cond.methodLink RJx4a65c 118 yJ15_checkIndex_7cf53, Cond.static yJ15_checkIndex_7cf53, Cond.initialized RJ15, Cond.code yJ15_checkIndex_7cf53 cJ15_checkIndex_7cf53 2 (some .int), Cond.methodLink RJ15 105 yJ3_checkIndex_8e157, Cond.static yJ3_checkIndex_8e157, Cond.initialized RJ3, Cond.code yJ3_checkIndex_8e157 cJ3_checkIndex_8e157 3 (some .int), Cond.methodLink RJx4a65c 123 yJx4a65c_elementData_915e3, Cond.instanceMethod yJx4a65c_elementData_915e3, Cond.selects RJx4a65c yJx4a65c_elementData_915e3 yJx4a65c_elementData_915e3]
def wsX5_meanPrice_r2 : List Cond := [Cond.code yJx4a65c_elementData_915e3 cJx4a65c_elementData_915e3 2 (some (.object "java/lang/Object")), Cond.fieldLink RJx4a65c 9 "java/util/ArrayList" "elementData" "[Ljava/lang/Object;", Cond.methodLink RX5 222 yX3_isHome, Cond.instanceMethod yX3_isHome, Cond.selects RX3 yX3_isHome yX3_isHome, Cond.initialized RX3, Cond.code yX3_isHome cX3_isHome 1 (some .boolean), Cond.fieldLink RX3 34 "TeaRace$Ship" "homeHour" "I", Cond.methodLink RX5 226 yX5_takings, Cond.instanceMethod yX5_takings, Cond.selects RX5 yX5_takings yX5_takings, Cond.initialized RX5, Cond.code yX5_takings cX5_takings 2 (some .long), Cond.methodLink RX5 230 yX5_priceAtEntry, Cond.instanceMethod yX5_priceAtEntry, Cond.selects RX5 yX5_priceAtEntry yX5_priceAtEntry, Cond.code yX5_priceAtEntry cX5_priceAtEntry 5 (some .int), Cond.fieldLink RX5 50 "TeaRace" "priceAtFirst" "I", Cond.fieldLink RX5 53 "TeaRace" "fallOfPrice" "I", Cond.methodLink RX5 288 Lib.Math.max.name, Cond.static Lib.Math.max.name, Cond.initialized "java/lang/Math", Cond.code Lib.Math.max.name Lib.Math.max.code 2 (some .int), Cond.methodLink RX5 303 yX3_entersBefore]
def wsX5_meanPrice_r3 : List Cond := [Cond.instanceMethod yX3_entersBefore, Cond.selects RX3 yX3_entersBefore yX3_entersBefore, Cond.code yX3_entersBefore cX3_entersBefore 2 (some .boolean), Cond.fieldLink RX3 37 "TeaRace$Ship" "entry" "I", Cond.fieldLink RX3 46 "TeaRace$Ship" "number" "I", Cond.methodLink RX5 79 yX5_found, Cond.instanceMethod yX5_found, Cond.selects RX5 yX5_found yX5_found, Cond.code yX5_found cX5_found 2 (some .int), Cond.fieldLink RX5 34 "TeaRace" "latestFinding" "I", Cond.fieldLink RX5 30 "TeaRace" "findingCounts" "[I"]
def wsX5_meanPrice : List Cond := .code yX5_meanPrice cX5_meanPrice 7 (some .int) :: ((wsX5_meanPrice_r1 ++ (wsX5_meanPrice_r2 ++ wsX5_meanPrice_r3)) ++ wsX50 ++ wsX30 ++ wsJx4a65c0)
def wsX5_asked : List Cond := .code yX5_asked cX5_asked 1 (some .long) :: ([.fieldLink RX5 56 "TeaRace" "latestSale" "J"] ++ wsX50)
def wsX5_count_r1 : List Cond := [Cond.fieldLink RX5 26 "TeaRace" "fleet" "Ljava/util/List;", Cond.fieldLink RX5 38 "TeaRace" "hour" "I", Cond.fieldLink RX5 10 "TeaRace" "sea" "LTeaRace$Sea;", Cond.fieldLink RX5 47 "TeaRace" "sightCount" "I", Cond.methodLink RX5 107 ⟨"java/util/List", "size", "()I"⟩, Cond.selects RJx4a65c ⟨"java/util/List", "size", "()I"⟩ yJx4a65c_size_8abf5, Cond.instanceMethod yJx4a65c_size_8abf5, Cond.initialized RJx4a65c, Cond.code yJx4a65c_size_8abf5 cJx4a65c_size_8abf5 1 (some .int), Cond.fieldLink RJx4a65c 48 "java/util/ArrayList" "size" "I", Cond.methodLink RX5 234 yX2_chartsThere, Cond.instanceMethod yX2_chartsThere, Cond.selects RX2 yX2_chartsThere yX2_chartsThere, Cond.initialized RX2, Cond.code yX2_chartsThere cX2_chartsThere 3 (some .int), Cond.fieldLink RX2 15 "TeaRace$Sea" "chartThere" "[Z", Cond.methodLink RX5 172 yX5_shipsHome, Cond.instanceMethod yX5_shipsHome, Cond.selects RX5 yX5_shipsHome yX5_shipsHome, Cond.initialized RX5, Cond.code yX5_shipsHome cX5_shipsHome 3 (some .int), Cond.classLink RX5 113 "TeaRace$Ship", Cond.methodLink RX5 175 ⟨"java/util/List", "get", "(I)Ljava/lang/Object;"⟩, Cond.selects RJx4a65c ⟨"java/util/List", "get", "(I)Ljava/lang/Object;"⟩ yJx4a65c_get_915e3]
def wsX5_count_r2 : List Cond := [Cond.instanceMethod yJx4a65c_get_915e3, Cond.code yJx4a65c_get_915e3 cJx4a65c_get_915e3 2 (some (.object "java/lang/Object")), Cond.methodLink RJx4a65c 118 yJ15_checkIndex_7cf53, Cond.static yJ15_checkIndex_7cf53, Cond.initialized RJ15, Cond.code yJ15_checkIndex_7cf53 cJ15_checkIndex_7cf53 2 (some .int), Cond.methodLink RJ15 105 yJ3_checkIndex_8e157, Cond.static yJ3_checkIndex_8e157, Cond.initialized RJ3, Cond.code yJ3_checkIndex_8e157 cJ3_checkIndex_8e157 3 (some .int), Cond.methodLink RJx4a65c 123 yJx4a65c_elementData_915e3, Cond.instanceMethod yJx4a65c_elementData_915e3, Cond.selects RJx4a65c yJx4a65c_elementData_915e3 yJx4a65c_elementData_915e3, Cond.code yJx4a65c_elementData_915e3 cJx4a65c_elementData_915e3 2 (some (.object "java/lang/Object")), Cond.fieldLink RJx4a65c 9 "java/util/ArrayList" "elementData" "[Ljava/lang/Object;", Cond.methodLink RX5 222 yX3_isHome, Cond.instanceMethod yX3_isHome, Cond.selects RX3 yX3_isHome yX3_isHome, Cond.initialized RX3, Cond.code yX3_isHome cX3_isHome 1 (some .boolean), Cond.fieldLink RX3 34 "TeaRace$Ship" "homeHour" "I"]
def wsX5_count : List Cond := .code yX5_count cX5_count 2 (some .int) :: ((wsX5_count_r1 ++ wsX5_count_r2) ++ wsX50 ++ wsJx4a65c0 ++ wsX20 ++ wsX30)
def wsX5_finding : List Cond := .code yX5_finding cX5_finding 1 (some .int) :: ([.fieldLink RX5 34 "TeaRace" "latestFinding" "I"] ++ wsX50)
def wsX5_findings : List Cond := .code yX5_findings cX5_findings 2 (some .int) :: ([.fieldLink RX5 30 "TeaRace" "findingCounts" "[I"] ++ wsX50)
def wsX5_digest_r1 : List Cond := [Cond.constantLong RX5 237 (17), Cond.constantLong RX5 239 (31), Cond.fieldLink RX5 26 "TeaRace" "fleet" "Ljava/util/List;", Cond.fieldLink RX5 10 "TeaRace" "sea" "LTeaRace$Sea;", Cond.methodLink RX5 241 yX5_count, Cond.instanceMethod yX5_count, Cond.selects RX5 yX5_count yX5_count, Cond.initialized RX5, Cond.code yX5_count cX5_count 2 (some .int), Cond.fieldLink RX5 38 "TeaRace" "hour" "I", Cond.fieldLink RX5 47 "TeaRace" "sightCount" "I", Cond.methodLink RX5 107 ⟨"java/util/List", "size", "()I"⟩, Cond.selects RJx4a65c ⟨"java/util/List", "size", "()I"⟩ yJx4a65c_size_8abf5, Cond.instanceMethod yJx4a65c_size_8abf5, Cond.initialized RJx4a65c, Cond.code yJx4a65c_size_8abf5 cJx4a65c_size_8abf5 1 (some .int), Cond.fieldLink RJx4a65c 48 "java/util/ArrayList" "size" "I", Cond.methodLink RX5 234 yX2_chartsThere, Cond.instanceMethod yX2_chartsThere, Cond.selects RX2 yX2_chartsThere yX2_chartsThere, Cond.initialized RX2, Cond.code yX2_chartsThere cX2_chartsThere 3 (some .int), Cond.fieldLink RX2 15 "TeaRace$Sea" "chartThere" "[Z", Cond.methodLink RX5 172 yX5_shipsHome]
def wsX5_digest_r2 : List Cond := [Cond.instanceMethod yX5_shipsHome, Cond.selects RX5 yX5_shipsHome yX5_shipsHome, Cond.code yX5_shipsHome cX5_shipsHome 3 (some .int), Cond.classLink RX5 113 "TeaRace$Ship", Cond.methodLink RX5 175 ⟨"java/util/List", "get", "(I)Ljava/lang/Object;"⟩, Cond.selects RJx4a65c ⟨"java/util/List", "get", "(I)Ljava/lang/Object;"⟩ yJx4a65c_get_915e3, Cond.instanceMethod yJx4a65c_get_915e3, Cond.code yJx4a65c_get_915e3 cJx4a65c_get_915e3 2 (some (.object "java/lang/Object")), Cond.methodLink RJx4a65c 118 yJ15_checkIndex_7cf53, Cond.static yJ15_checkIndex_7cf53, Cond.initialized RJ15, Cond.code yJ15_checkIndex_7cf53 cJ15_checkIndex_7cf53 2 (some .int), Cond.methodLink RJ15 105 yJ3_checkIndex_8e157, Cond.static yJ3_checkIndex_8e157, Cond.initialized RJ3, Cond.code yJ3_checkIndex_8e157 cJ3_checkIndex_8e157 3 (some .int), Cond.methodLink RJx4a65c 123 yJx4a65c_elementData_915e3, Cond.instanceMethod yJx4a65c_elementData_915e3, Cond.selects RJx4a65c yJx4a65c_elementData_915e3 yJx4a65c_elementData_915e3, Cond.code yJx4a65c_elementData_915e3 cJx4a65c_elementData_915e3 2 (some (.object "java/lang/Object")), Cond.fieldLink RJx4a65c 9 "java/util/ArrayList" "elementData" "[Ljava/lang/Object;", Cond.methodLink RX5 222 yX3_isHome, Cond.instanceMethod yX3_isHome, Cond.selects RX3 yX3_isHome yX3_isHome]
def wsX5_digest_r3 : List Cond := [Cond.initialized RX3, Cond.code yX3_isHome cX3_isHome 1 (some .boolean), Cond.fieldLink RX3 34 "TeaRace$Ship" "homeHour" "I", Cond.methodLink RX5 244 yX5_told, Cond.instanceMethod yX5_told, Cond.selects RX5 yX5_told yX5_told, Cond.code yX5_told cX5_told 4 (some .int), Cond.fieldLink RX5 129 "TeaRace$Ship" "kind" "I", Cond.fieldLink RX5 132 "TeaRace$Ship" "cell" "I", Cond.fieldLink RX5 135 "TeaRace$Ship" "gone" "I", Cond.fieldLink RX5 138 "TeaRace$Ship" "way" "I", Cond.fieldLink RX5 141 "TeaRace$Ship" "homeHour" "I", Cond.fieldLink RX5 144 "TeaRace$Ship" "entry" "I", Cond.fieldLink RX5 147 "TeaRace$Ship" "chests" "I", Cond.methodLink RX5 122 yX5_shipOf, Cond.instanceMethod yX5_shipOf, Cond.selects RX5 yX5_shipOf yX5_shipOf, Cond.code yX5_shipOf cX5_shipOf 2 (some (.object "TeaRace$Ship")), Cond.methodLink RX5 247 yX2_digestChart, Cond.instanceMethod yX2_digestChart, Cond.selects RX2 yX2_digestChart yX2_digestChart, Cond.code yX2_digestChart cX2_digestChart 7 (some .long), Cond.constantLong RX2 53 (31), Cond.methodLink RX2 33 yX2_hasChart]
def wsX5_digest_r4 : List Cond := [Cond.instanceMethod yX2_hasChart, Cond.selects RX2 yX2_hasChart yX2_hasChart, Cond.code yX2_hasChart cX2_hasChart 2 (some .boolean), Cond.static yX5_outside, Cond.code yX5_outside cX5_outside 2 (some .boolean), Cond.methodLink RX2 55 yX2_drawnAt, Cond.instanceMethod yX2_drawnAt, Cond.selects RX2 yX2_drawnAt yX2_drawnAt, Cond.code yX2_drawnAt cX2_drawnAt 3 (some .int), Cond.fieldLink RX2 20 "TeaRace$Sea" "charts" "[[B"]
def wsX5_digest : List Cond := .code yX5_digest cX5_digest 5 (some .long) :: ((wsX5_digest_r1 ++ (wsX5_digest_r2 ++ (wsX5_digest_r3 ++ wsX5_digest_r4))) ++ wsX50 ++ wsJx4a65c0 ++ wsX20 ++ wsX30)
def wsX6_init_r1 : List Cond := [Cond.methodLink RX6 1 objectInit, Cond.instanceMethod objectInit, Cond.code objectInit ⟨#[0xb1]⟩ 1 none, Cond.arrayClass .int, Cond.fieldLink RX6 7 "TeaRaceModel" "findings" "[I", Cond.arrayClass .boolean, Cond.fieldLink RX6 13 "TeaRaceModel" "isLand" "[Z", Cond.fieldLink RX6 17 "TeaRaceModel" "isChart" "[Z", Cond.fieldLink RX6 20 "TeaRaceModel" "winds" "[I", Cond.fieldLink RX6 23 "TeaRaceModel" "moving" "[I", Cond.fieldLink RX6 26 "TeaRaceModel" "kinds" "[I", Cond.fieldLink RX6 29 "TeaRaceModel" "cells" "[I", Cond.fieldLink RX6 32 "TeaRaceModel" "gone" "[I", Cond.fieldLink RX6 35 "TeaRaceModel" "ways" "[I", Cond.fieldLink RX6 38 "TeaRaceModel" "homeAt" "[I", Cond.fieldLink RX6 41 "TeaRaceModel" "chests" "[I", Cond.fieldLink RX6 44 "TeaRaceModel" "foulness" "[I", Cond.fieldLink RX6 47 "TeaRaceModel" "came" "[I", Cond.fieldLink RX6 50 "TeaRaceModel" "orders" "[I", Cond.fieldLink RX6 53 "TeaRaceModel" "orderRows" "[I", Cond.fieldLink RX6 56 "TeaRaceModel" "rates" "[I", Cond.fieldLink RX6 59 "TeaRaceModel" "premiums" "[I", Cond.fieldLink RX6 62 "TeaRaceModel" "hours" "[I", Cond.fieldLink RX6 65 "TeaRaceModel" "isSettled" "[Z"]
def wsX6_init_r2 : List Cond := [Cond.fieldLink RX6 68 "TeaRaceModel" "sightShip" "[I", Cond.fieldLink RX6 71 "TeaRaceModel" "sightCell" "[I", Cond.fieldLink RX6 74 "TeaRaceModel" "sightHour" "[I", Cond.fieldLink RX6 77 "TeaRaceModel" "price" "I", Cond.fieldLink RX6 81 "TeaRaceModel" "fall" "I"]
def wsX6_init : List Cond := .code yX6_init cX6_init 1 none :: ((wsX6_init_r1 ++ wsX6_init_r2) ++ wsX60)
def wsX6_in : List Cond := .code yX6_in cX6_in 3 (some .boolean) :: ([])
def wsX6_meets : List Cond := .code yX6_meets cX6_meets 2 (some .int) :: ([.fieldLink RX6 84 "TeaRaceModel" "finding" "I", .fieldLink RX6 7 "TeaRaceModel" "findings" "[I"] ++ wsX60)
def wsX6_isCell : List Cond := .code yX6_isCell cX6_isCell 1 (some .boolean) :: ([.methodLink RX6 87 yX6_in, .static yX6_in, .initialized RX6, .code yX6_in cX6_in 3 (some .boolean)])
def wsX6_isMonth : List Cond := .code yX6_isMonth cX6_isMonth 1 (some .boolean) :: ([.methodLink RX6 87 yX6_in, .static yX6_in, .initialized RX6, .code yX6_in cX6_in 3 (some .boolean)])
def wsX6_land : List Cond := .code yX6_land cX6_land 4 (some .int) :: ([.fieldLink RX6 13 "TeaRaceModel" "isLand" "[Z", .methodLink RX6 91 yX6_isCell, .static yX6_isCell, .initialized RX6, .code yX6_isCell cX6_isCell 1 (some .boolean), .methodLink RX6 87 yX6_in, .static yX6_in, .code yX6_in cX6_in 3 (some .boolean)] ++ wsX60)
def wsX6_looked : List Cond := .code yX6_looked cX6_looked 2 (some .int) :: ([.fieldLink RX6 17 "TeaRaceModel" "isChart" "[Z", .methodLink RX6 95 yX6_isMonth, .static yX6_isMonth, .initialized RX6, .code yX6_isMonth cX6_isMonth 1 (some .boolean), .methodLink RX6 87 yX6_in, .static yX6_in, .code yX6_in cX6_in 3 (some .boolean), .methodLink RX6 98 yX6_meets, .instanceMethod yX6_meets, .selects RX6 yX6_meets yX6_meets, .code yX6_meets cX6_meets 2 (some .int), .fieldLink RX6 84 "TeaRaceModel" "finding" "I", .fieldLink RX6 7 "TeaRaceModel" "findings" "[I"] ++ wsX60)
def wsX6_chart : List Cond := .code yX6_chart cX6_chart 4 (some .int) :: ([.fieldLink RX6 17 "TeaRaceModel" "isChart" "[Z", .fieldLink RX6 20 "TeaRaceModel" "winds" "[I", .methodLink RX6 95 yX6_isMonth, .static yX6_isMonth, .initialized RX6, .code yX6_isMonth cX6_isMonth 1 (some .boolean), .methodLink RX6 87 yX6_in, .static yX6_in, .code yX6_in cX6_in 3 (some .boolean)] ++ wsX60)
def wsX6_wind : List Cond := .code yX6_wind cX6_wind 6 (some .int) :: ([.fieldLink RX6 20 "TeaRaceModel" "winds" "[I", .methodLink RX6 102 yX6_looked, .instanceMethod yX6_looked, .selects RX6 yX6_looked yX6_looked, .initialized RX6, .code yX6_looked cX6_looked 2 (some .int), .fieldLink RX6 17 "TeaRaceModel" "isChart" "[Z", .methodLink RX6 95 yX6_isMonth, .static yX6_isMonth, .code yX6_isMonth cX6_isMonth 1 (some .boolean), .methodLink RX6 87 yX6_in, .static yX6_in, .code yX6_in cX6_in 3 (some .boolean), .methodLink RX6 98 yX6_meets, .instanceMethod yX6_meets, .selects RX6 yX6_meets yX6_meets, .code yX6_meets cX6_meets 2 (some .int), .fieldLink RX6 84 "TeaRaceModel" "finding" "I", .fieldLink RX6 7 "TeaRaceModel" "findings" "[I", .methodLink RX6 91 yX6_isCell, .static yX6_isCell, .code yX6_isCell cX6_isCell 1 (some .boolean)] ++ wsX60)
def wsX6_tear : List Cond := .code yX6_tear cX6_tear 3 (some .int) :: ([.fieldLink RX6 17 "TeaRaceModel" "isChart" "[Z", .methodLink RX6 102 yX6_looked, .instanceMethod yX6_looked, .selects RX6 yX6_looked yX6_looked, .initialized RX6, .code yX6_looked cX6_looked 2 (some .int), .methodLink RX6 95 yX6_isMonth, .static yX6_isMonth, .code yX6_isMonth cX6_isMonth 1 (some .boolean), .methodLink RX6 87 yX6_in, .static yX6_in, .code yX6_in cX6_in 3 (some .boolean), .methodLink RX6 98 yX6_meets, .instanceMethod yX6_meets, .selects RX6 yX6_meets yX6_meets, .code yX6_meets cX6_meets 2 (some .int), .fieldLink RX6 84 "TeaRaceModel" "finding" "I", .fieldLink RX6 7 "TeaRaceModel" "findings" "[I"] ++ wsX60)
def wsX6_copy : List Cond := .code yX6_copy cX6_copy 7 (some .int) :: ([.fieldLink RX6 17 "TeaRaceModel" "isChart" "[Z", .constantLong RX6 105 (160), .fieldLink RX6 23 "TeaRaceModel" "moving" "[I", .fieldLink RX6 20 "TeaRaceModel" "winds" "[I", .methodLink RX6 95 yX6_isMonth, .static yX6_isMonth, .initialized RX6, .code yX6_isMonth cX6_isMonth 1 (some .boolean), .methodLink RX6 87 yX6_in, .static yX6_in, .code yX6_in cX6_in 3 (some .boolean), .methodLink RX6 98 yX6_meets, .instanceMethod yX6_meets, .selects RX6 yX6_meets yX6_meets, .code yX6_meets cX6_meets 2 (some .int), .fieldLink RX6 84 "TeaRaceModel" "finding" "I", .fieldLink RX6 7 "TeaRaceModel" "findings" "[I"] ++ wsX60)
def wsX6_strength : List Cond := .code yX6_strength cX6_strength 1 (some .int) :: ([.methodLink RX6 87 yX6_in, .static yX6_in, .initialized RX6, .code yX6_in cX6_in 3 (some .boolean)])
def wsX6_mean : List Cond := .code yX6_mean cX6_mean 5 (some .int) :: ([.fieldLink RX6 20 "TeaRaceModel" "winds" "[I", .methodLink RX6 102 yX6_looked, .instanceMethod yX6_looked, .selects RX6 yX6_looked yX6_looked, .initialized RX6, .code yX6_looked cX6_looked 2 (some .int), .fieldLink RX6 17 "TeaRaceModel" "isChart" "[Z", .methodLink RX6 95 yX6_isMonth, .static yX6_isMonth, .code yX6_isMonth cX6_isMonth 1 (some .boolean), .methodLink RX6 87 yX6_in, .static yX6_in, .code yX6_in cX6_in 3 (some .boolean), .methodLink RX6 98 yX6_meets, .instanceMethod yX6_meets, .selects RX6 yX6_meets yX6_meets, .code yX6_meets cX6_meets 2 (some .int), .fieldLink RX6 84 "TeaRaceModel" "finding" "I", .fieldLink RX6 7 "TeaRaceModel" "findings" "[I", .methodLink RX6 107 yX6_strength, .static yX6_strength, .code yX6_strength cX6_strength 1 (some .int)] ++ wsX60)
def wsX6_windAt : List Cond := .code yX6_windAt cX6_windAt 5 (some .int) :: ([.fieldLink RX6 17 "TeaRaceModel" "isChart" "[Z", .fieldLink RX6 20 "TeaRaceModel" "winds" "[I", .methodLink RX6 87 yX6_in, .static yX6_in, .initialized RX6, .code yX6_in cX6_in 3 (some .boolean)] ++ wsX60)
def wsX6_nextCell : List Cond := .code yX6_nextCell cX6_nextCell 5 (some .int) :: ([.fieldLink RX6 13 "TeaRaceModel" "isLand" "[Z", .methodLink RX6 87 yX6_in, .static yX6_in, .initialized RX6, .code yX6_in cX6_in 3 (some .boolean)] ++ wsX60)
def wsX6_need : List Cond := .code yX6_need cX6_need 1 (some .int) :: ([])
def wsX6_isShip : List Cond := .code yX6_isShip cX6_isShip 2 (some .boolean) :: ([.fieldLink RX6 110 "TeaRaceModel" "ships" "I", .methodLink RX6 87 yX6_in, .static yX6_in, .initialized RX6, .code yX6_in cX6_in 3 (some .boolean)] ++ wsX60)
def wsX6_ship : List Cond := .code yX6_ship cX6_ship 4 (some .int) :: ([.fieldLink RX6 13 "TeaRaceModel" "isLand" "[Z", .fieldLink RX6 110 "TeaRaceModel" "ships" "I", .fieldLink RX6 113 "TeaRaceModel" "hour" "I", .fieldLink RX6 26 "TeaRaceModel" "kinds" "[I", .fieldLink RX6 29 "TeaRaceModel" "cells" "[I", .fieldLink RX6 41 "TeaRaceModel" "chests" "[I", .fieldLink RX6 38 "TeaRaceModel" "homeAt" "[I", .methodLink RX6 87 yX6_in, .static yX6_in, .initialized RX6, .code yX6_in cX6_in 3 (some .boolean), .methodLink RX6 91 yX6_isCell, .static yX6_isCell, .code yX6_isCell cX6_isCell 1 (some .boolean)] ++ wsX60)
def wsX6_foul : List Cond := .code yX6_foul cX6_foul 4 (some .int) :: ([.fieldLink RX6 44 "TeaRaceModel" "foulness" "[I", .methodLink RX6 116 yX6_isShip, .instanceMethod yX6_isShip, .selects RX6 yX6_isShip yX6_isShip, .initialized RX6, .code yX6_isShip cX6_isShip 2 (some .boolean), .fieldLink RX6 110 "TeaRaceModel" "ships" "I", .methodLink RX6 87 yX6_in, .static yX6_in, .code yX6_in cX6_in 3 (some .boolean)] ++ wsX60)
def wsX6_entryOf : List Cond := .code yX6_entryOf cX6_entryOf 3 (some .int) :: ([.fieldLink RX6 38 "TeaRaceModel" "homeAt" "[I", .fieldLink RX6 119 "TeaRaceModel" "gate" "I"] ++ wsX60)
def wsX6_tells : List Cond := .code yX6_tells cX6_tells 3 (some .int) :: ([.fieldLink RX6 26 "TeaRaceModel" "kinds" "[I", .fieldLink RX6 29 "TeaRaceModel" "cells" "[I", .fieldLink RX6 32 "TeaRaceModel" "gone" "[I", .fieldLink RX6 35 "TeaRaceModel" "ways" "[I", .fieldLink RX6 38 "TeaRaceModel" "homeAt" "[I", .fieldLink RX6 41 "TeaRaceModel" "chests" "[I", .methodLink RX6 122 yX6_entryOf, .instanceMethod yX6_entryOf, .selects RX6 yX6_entryOf yX6_entryOf, .initialized RX6, .code yX6_entryOf cX6_entryOf 3 (some .int), .fieldLink RX6 119 "TeaRaceModel" "gate" "I"] ++ wsX60)
def wsX6_told : List Cond := .code yX6_told cX6_told 3 (some .int) :: ([.methodLink RX6 116 yX6_isShip, .instanceMethod yX6_isShip, .selects RX6 yX6_isShip yX6_isShip, .initialized RX6, .code yX6_isShip cX6_isShip 2 (some .boolean), .fieldLink RX6 110 "TeaRaceModel" "ships" "I", .methodLink RX6 87 yX6_in, .static yX6_in, .code yX6_in cX6_in 3 (some .boolean), .methodLink RX6 125 yX6_tells, .instanceMethod yX6_tells, .selects RX6 yX6_tells yX6_tells, .code yX6_tells cX6_tells 3 (some .int), .fieldLink RX6 26 "TeaRaceModel" "kinds" "[I", .fieldLink RX6 29 "TeaRaceModel" "cells" "[I", .fieldLink RX6 32 "TeaRaceModel" "gone" "[I", .fieldLink RX6 35 "TeaRaceModel" "ways" "[I", .fieldLink RX6 38 "TeaRaceModel" "homeAt" "[I", .fieldLink RX6 41 "TeaRaceModel" "chests" "[I", .methodLink RX6 122 yX6_entryOf, .instanceMethod yX6_entryOf, .selects RX6 yX6_entryOf yX6_entryOf, .code yX6_entryOf cX6_entryOf 3 (some .int), .fieldLink RX6 119 "TeaRaceModel" "gate" "I"] ++ wsX60)
def wsX6_speedOf : List Cond := .code yX6_speedOf cX6_speedOf 8 (some .int) :: ([.fieldLink RX6 26 "TeaRaceModel" "kinds" "[I", .fieldLink RX6 44 "TeaRaceModel" "foulness" "[I"] ++ wsX60)
def wsX6_mark : List Cond := .code yX6_mark cX6_mark 4 (some .int) :: ([.fieldLink RX6 26 "TeaRaceModel" "kinds" "[I", .fieldLink RX6 50 "TeaRaceModel" "orders" "[I", .fieldLink RX6 47 "TeaRaceModel" "came" "[I", .methodLink RX6 116 yX6_isShip, .instanceMethod yX6_isShip, .selects RX6 yX6_isShip yX6_isShip, .initialized RX6, .code yX6_isShip cX6_isShip 2 (some .boolean), .fieldLink RX6 110 "TeaRaceModel" "ships" "I", .methodLink RX6 87 yX6_in, .static yX6_in, .code yX6_in cX6_in 3 (some .boolean), .methodLink RX6 98 yX6_meets, .instanceMethod yX6_meets, .selects RX6 yX6_meets yX6_meets, .code yX6_meets cX6_meets 2 (some .int), .fieldLink RX6 84 "TeaRaceModel" "finding" "I", .fieldLink RX6 7 "TeaRaceModel" "findings" "[I", .methodLink RX6 129 yX6_speedOf, .instanceMethod yX6_speedOf, .selects RX6 yX6_speedOf yX6_speedOf, .code yX6_speedOf cX6_speedOf 8 (some .int), .fieldLink RX6 44 "TeaRaceModel" "foulness" "[I"] ++ wsX60)
def wsX6_isWay : List Cond := .code yX6_isWay cX6_isWay 1 (some .boolean) :: ([.methodLink RX6 87 yX6_in, .static yX6_in, .initialized RX6, .code yX6_in cX6_in 3 (some .boolean)])
def wsX6_speed : List Cond := .code yX6_speed cX6_speed 5 (some .int) :: ([.methodLink RX6 116 yX6_isShip, .instanceMethod yX6_isShip, .selects RX6 yX6_isShip yX6_isShip, .initialized RX6, .code yX6_isShip cX6_isShip 2 (some .boolean), .fieldLink RX6 110 "TeaRaceModel" "ships" "I", .methodLink RX6 87 yX6_in, .static yX6_in, .code yX6_in cX6_in 3 (some .boolean), .methodLink RX6 133 yX6_isWay, .static yX6_isWay, .code yX6_isWay cX6_isWay 1 (some .boolean), .methodLink RX6 129 yX6_speedOf, .instanceMethod yX6_speedOf, .selects RX6 yX6_speedOf yX6_speedOf, .code yX6_speedOf cX6_speedOf 8 (some .int), .fieldLink RX6 26 "TeaRaceModel" "kinds" "[I", .fieldLink RX6 44 "TeaRaceModel" "foulness" "[I"] ++ wsX60)
def wsX6_order : List Cond := .code yX6_order cX6_order 9 (some .int) :: ([.fieldLink RX6 50 "TeaRaceModel" "orders" "[I", .fieldLink RX6 53 "TeaRaceModel" "orderRows" "[I", .methodLink RX6 116 yX6_isShip, .instanceMethod yX6_isShip, .selects RX6 yX6_isShip yX6_isShip, .initialized RX6, .code yX6_isShip cX6_isShip 2 (some .boolean), .fieldLink RX6 110 "TeaRaceModel" "ships" "I", .methodLink RX6 87 yX6_in, .static yX6_in, .code yX6_in cX6_in 3 (some .boolean), .methodLink RX6 133 yX6_isWay, .static yX6_isWay, .code yX6_isWay cX6_isWay 1 (some .boolean)] ++ wsX60)
def wsX6_home : List Cond := .code yX6_home cX6_home 3 (some .int) :: ([.fieldLink RX6 13 "TeaRaceModel" "isLand" "[Z", .fieldLink RX6 113 "TeaRaceModel" "hour" "I", .fieldLink RX6 136 "TeaRaceModel" "home" "I", .fieldLink RX6 119 "TeaRaceModel" "gate" "I", .methodLink RX6 91 yX6_isCell, .static yX6_isCell, .initialized RX6, .code yX6_isCell cX6_isCell 1 (some .boolean), .methodLink RX6 87 yX6_in, .static yX6_in, .code yX6_in cX6_in 3 (some .boolean)] ++ wsX60)
def wsX6_ask : List Cond := .code yX6_ask cX6_ask 5 none :: ([.fieldLink RX6 29 "TeaRaceModel" "cells" "[I", .fieldLink RX6 113 "TeaRaceModel" "hour" "I", .fieldLink RX6 50 "TeaRaceModel" "orders" "[I", .fieldLink RX6 53 "TeaRaceModel" "orderRows" "[I", .fieldLink RX6 35 "TeaRaceModel" "ways" "[I", .methodLink RX6 139 yX6_windAt, .instanceMethod yX6_windAt, .selects RX6 yX6_windAt yX6_windAt, .initialized RX6, .code yX6_windAt cX6_windAt 5 (some .int), .fieldLink RX6 17 "TeaRaceModel" "isChart" "[Z", .fieldLink RX6 20 "TeaRaceModel" "winds" "[I", .methodLink RX6 87 yX6_in, .static yX6_in, .code yX6_in cX6_in 3 (some .boolean)] ++ wsX60)
def wsX6_go_r1 : List Cond := [Cond.fieldLink RX6 29 "TeaRaceModel" "cells" "[I", Cond.fieldLink RX6 113 "TeaRaceModel" "hour" "I", Cond.fieldLink RX6 32 "TeaRaceModel" "gone" "[I", Cond.fieldLink RX6 35 "TeaRaceModel" "ways" "[I", Cond.fieldLink RX6 38 "TeaRaceModel" "homeAt" "[I", Cond.fieldLink RX6 47 "TeaRaceModel" "came" "[I", Cond.fieldLink RX6 136 "TeaRaceModel" "home" "I", Cond.methodLink RX6 142 yX6_ask, Cond.instanceMethod yX6_ask, Cond.selects RX6 yX6_ask yX6_ask, Cond.initialized RX6, Cond.code yX6_ask cX6_ask 5 none, Cond.fieldLink RX6 50 "TeaRaceModel" "orders" "[I", Cond.fieldLink RX6 53 "TeaRaceModel" "orderRows" "[I", Cond.methodLink RX6 139 yX6_windAt, Cond.instanceMethod yX6_windAt, Cond.selects RX6 yX6_windAt yX6_windAt, Cond.code yX6_windAt cX6_windAt 5 (some .int), Cond.fieldLink RX6 17 "TeaRaceModel" "isChart" "[Z", Cond.fieldLink RX6 20 "TeaRaceModel" "winds" "[I", Cond.methodLink RX6 87 yX6_in, Cond.static yX6_in, Cond.code yX6_in cX6_in 3 (some .boolean), Cond.methodLink RX6 129 yX6_speedOf]
def wsX6_go_r2 : List Cond := [Cond.instanceMethod yX6_speedOf, Cond.selects RX6 yX6_speedOf yX6_speedOf, Cond.code yX6_speedOf cX6_speedOf 8 (some .int), Cond.fieldLink RX6 26 "TeaRaceModel" "kinds" "[I", Cond.fieldLink RX6 44 "TeaRaceModel" "foulness" "[I", Cond.methodLink RX6 146 yX6_need, Cond.static yX6_need, Cond.code yX6_need cX6_need 1 (some .int), Cond.methodLink RX6 149 yX6_nextCell, Cond.instanceMethod yX6_nextCell, Cond.selects RX6 yX6_nextCell yX6_nextCell, Cond.code yX6_nextCell cX6_nextCell 5 (some .int), Cond.fieldLink RX6 13 "TeaRaceModel" "isLand" "[Z"]
def wsX6_go : List Cond := .code yX6_go cX6_go 4 none :: ((wsX6_go_r1 ++ wsX6_go_r2) ++ wsX60)
def wsX6_atHome : List Cond := .code yX6_atHome cX6_atHome 3 (some .int) :: ([.fieldLink RX6 110 "TeaRaceModel" "ships" "I", .fieldLink RX6 38 "TeaRaceModel" "homeAt" "[I"] ++ wsX60)
def wsX6_run_r1 : List Cond := [Cond.fieldLink RX6 113 "TeaRaceModel" "hour" "I", Cond.constant RX6 152 (100000), Cond.fieldLink RX6 110 "TeaRaceModel" "ships" "I", Cond.fieldLink RX6 38 "TeaRaceModel" "homeAt" "[I", Cond.methodLink RX6 87 yX6_in, Cond.static yX6_in, Cond.initialized RX6, Cond.code yX6_in cX6_in 3 (some .boolean), Cond.methodLink RX6 153 yX6_atHome, Cond.instanceMethod yX6_atHome, Cond.selects RX6 yX6_atHome yX6_atHome, Cond.code yX6_atHome cX6_atHome 3 (some .int), Cond.methodLink RX6 157 yX6_go, Cond.instanceMethod yX6_go, Cond.selects RX6 yX6_go yX6_go, Cond.code yX6_go cX6_go 4 none, Cond.fieldLink RX6 29 "TeaRaceModel" "cells" "[I", Cond.fieldLink RX6 32 "TeaRaceModel" "gone" "[I", Cond.fieldLink RX6 35 "TeaRaceModel" "ways" "[I", Cond.fieldLink RX6 47 "TeaRaceModel" "came" "[I", Cond.fieldLink RX6 136 "TeaRaceModel" "home" "I", Cond.methodLink RX6 142 yX6_ask, Cond.instanceMethod yX6_ask, Cond.selects RX6 yX6_ask yX6_ask]
def wsX6_run_r2 : List Cond := [Cond.code yX6_ask cX6_ask 5 none, Cond.fieldLink RX6 50 "TeaRaceModel" "orders" "[I", Cond.fieldLink RX6 53 "TeaRaceModel" "orderRows" "[I", Cond.methodLink RX6 139 yX6_windAt, Cond.instanceMethod yX6_windAt, Cond.selects RX6 yX6_windAt yX6_windAt, Cond.code yX6_windAt cX6_windAt 5 (some .int), Cond.fieldLink RX6 17 "TeaRaceModel" "isChart" "[Z", Cond.fieldLink RX6 20 "TeaRaceModel" "winds" "[I", Cond.methodLink RX6 129 yX6_speedOf, Cond.instanceMethod yX6_speedOf, Cond.selects RX6 yX6_speedOf yX6_speedOf, Cond.code yX6_speedOf cX6_speedOf 8 (some .int), Cond.fieldLink RX6 26 "TeaRaceModel" "kinds" "[I", Cond.fieldLink RX6 44 "TeaRaceModel" "foulness" "[I", Cond.methodLink RX6 146 yX6_need, Cond.static yX6_need, Cond.code yX6_need cX6_need 1 (some .int), Cond.methodLink RX6 149 yX6_nextCell, Cond.instanceMethod yX6_nextCell, Cond.selects RX6 yX6_nextCell yX6_nextCell, Cond.code yX6_nextCell cX6_nextCell 5 (some .int), Cond.fieldLink RX6 13 "TeaRaceModel" "isLand" "[Z"]
def wsX6_run : List Cond := .code yX6_run cX6_run 5 (some .int) :: ((wsX6_run_r1 ++ wsX6_run_r2) ++ wsX60)
def wsX6_firstShip : List Cond := .code yX6_firstShip cX6_firstShip 4 (some .int) :: ([.fieldLink RX6 110 "TeaRaceModel" "ships" "I", .fieldLink RX6 38 "TeaRaceModel" "homeAt" "[I", .methodLink RX6 122 yX6_entryOf, .instanceMethod yX6_entryOf, .selects RX6 yX6_entryOf yX6_entryOf, .initialized RX6, .code yX6_entryOf cX6_entryOf 3 (some .int), .fieldLink RX6 119 "TeaRaceModel" "gate" "I"] ++ wsX60)
def wsX6_first : List Cond := .code yX6_first cX6_first 1 (some .int) :: ([.methodLink RX6 160 yX6_firstShip, .instanceMethod yX6_firstShip, .selects RX6 yX6_firstShip yX6_firstShip, .initialized RX6, .code yX6_firstShip cX6_firstShip 4 (some .int), .fieldLink RX6 110 "TeaRaceModel" "ships" "I", .fieldLink RX6 38 "TeaRaceModel" "homeAt" "[I", .methodLink RX6 122 yX6_entryOf, .instanceMethod yX6_entryOf, .selects RX6 yX6_entryOf yX6_entryOf, .code yX6_entryOf cX6_entryOf 3 (some .int), .fieldLink RX6 119 "TeaRaceModel" "gate" "I"] ++ wsX60)
def wsX6_crossing : List Cond := .code yX6_crossing cX6_crossing 9 (some .int) :: ([.methodLink RX6 146 yX6_need, .static yX6_need, .initialized RX6, .code yX6_need cX6_need 1 (some .int), .methodLink RX6 139 yX6_windAt, .instanceMethod yX6_windAt, .selects RX6 yX6_windAt yX6_windAt, .code yX6_windAt cX6_windAt 5 (some .int), .fieldLink RX6 17 "TeaRaceModel" "isChart" "[Z", .fieldLink RX6 20 "TeaRaceModel" "winds" "[I", .methodLink RX6 87 yX6_in, .static yX6_in, .code yX6_in cX6_in 3 (some .boolean), .methodLink RX6 129 yX6_speedOf, .instanceMethod yX6_speedOf, .selects RX6 yX6_speedOf yX6_speedOf, .code yX6_speedOf cX6_speedOf 8 (some .int), .fieldLink RX6 26 "TeaRaceModel" "kinds" "[I", .fieldLink RX6 44 "TeaRaceModel" "foulness" "[I"] ++ wsX60)
def wsX6_least_r1 : List Cond := [Cond.fieldLink RX6 13 "TeaRaceModel" "isLand" "[Z", Cond.constant RX6 163 (98000), Cond.fieldLink RX6 62 "TeaRaceModel" "hours" "[I", Cond.fieldLink RX6 65 "TeaRaceModel" "isSettled" "[Z", Cond.methodLink RX6 116 yX6_isShip, Cond.instanceMethod yX6_isShip, Cond.selects RX6 yX6_isShip yX6_isShip, Cond.initialized RX6, Cond.code yX6_isShip cX6_isShip 2 (some .boolean), Cond.fieldLink RX6 110 "TeaRaceModel" "ships" "I", Cond.methodLink RX6 87 yX6_in, Cond.static yX6_in, Cond.code yX6_in cX6_in 3 (some .boolean), Cond.methodLink RX6 91 yX6_isCell, Cond.static yX6_isCell, Cond.code yX6_isCell cX6_isCell 1 (some .boolean), Cond.methodLink RX6 149 yX6_nextCell, Cond.instanceMethod yX6_nextCell, Cond.selects RX6 yX6_nextCell yX6_nextCell, Cond.code yX6_nextCell cX6_nextCell 5 (some .int), Cond.methodLink RX6 164 yX6_crossing, Cond.instanceMethod yX6_crossing, Cond.selects RX6 yX6_crossing yX6_crossing, Cond.code yX6_crossing cX6_crossing 9 (some .int)]
def wsX6_least_r2 : List Cond := [Cond.methodLink RX6 146 yX6_need, Cond.static yX6_need, Cond.code yX6_need cX6_need 1 (some .int), Cond.methodLink RX6 139 yX6_windAt, Cond.instanceMethod yX6_windAt, Cond.selects RX6 yX6_windAt yX6_windAt, Cond.code yX6_windAt cX6_windAt 5 (some .int), Cond.fieldLink RX6 17 "TeaRaceModel" "isChart" "[Z", Cond.fieldLink RX6 20 "TeaRaceModel" "winds" "[I", Cond.methodLink RX6 129 yX6_speedOf, Cond.instanceMethod yX6_speedOf, Cond.selects RX6 yX6_speedOf yX6_speedOf, Cond.code yX6_speedOf cX6_speedOf 8 (some .int), Cond.fieldLink RX6 26 "TeaRaceModel" "kinds" "[I", Cond.fieldLink RX6 44 "TeaRaceModel" "foulness" "[I"]
def wsX6_least : List Cond := .code yX6_least cX6_least 9 (some .int) :: ((wsX6_least_r1 ++ wsX6_least_r2) ++ wsX60)
def wsX6_sight : List Cond := .code yX6_sight cX6_sight 6 (some .int) :: ([.constant RX6 152 (100000), .fieldLink RX6 168 "TeaRaceModel" "sights" "I", .fieldLink RX6 68 "TeaRaceModel" "sightShip" "[I", .fieldLink RX6 74 "TeaRaceModel" "sightHour" "[I", .fieldLink RX6 71 "TeaRaceModel" "sightCell" "[I", .methodLink RX6 116 yX6_isShip, .instanceMethod yX6_isShip, .selects RX6 yX6_isShip yX6_isShip, .initialized RX6, .code yX6_isShip cX6_isShip 2 (some .boolean), .fieldLink RX6 110 "TeaRaceModel" "ships" "I", .methodLink RX6 87 yX6_in, .static yX6_in, .code yX6_in cX6_in 3 (some .boolean), .methodLink RX6 91 yX6_isCell, .static yX6_isCell, .code yX6_isCell cX6_isCell 1 (some .boolean)] ++ wsX60)
def wsX6_apart : List Cond := .code yX6_apart cX6_apart 2 (some .int) :: ([])
def wsX6_farOf : List Cond := .code yX6_farOf cX6_farOf 4 (some .int) :: ([.fieldLink RX6 136 "TeaRaceModel" "home" "I", .methodLink RX6 171 yX6_apart, .static yX6_apart, .initialized RX6, .code yX6_apart cX6_apart 2 (some .int)] ++ wsX60)
def wsX6_distanceOf : List Cond := .code yX6_distanceOf cX6_distanceOf 11 (some .int) :: ([.fieldLink RX6 168 "TeaRaceModel" "sights" "I", .fieldLink RX6 68 "TeaRaceModel" "sightShip" "[I", .fieldLink RX6 74 "TeaRaceModel" "sightHour" "[I", .fieldLink RX6 71 "TeaRaceModel" "sightCell" "[I", .methodLink RX6 174 yX6_farOf, .instanceMethod yX6_farOf, .selects RX6 yX6_farOf yX6_farOf, .initialized RX6, .code yX6_farOf cX6_farOf 4 (some .int), .fieldLink RX6 136 "TeaRaceModel" "home" "I", .methodLink RX6 171 yX6_apart, .static yX6_apart, .code yX6_apart cX6_apart 2 (some .int)] ++ wsX60)
def wsX6_distance_r1 : List Cond := [Cond.constant RX6 152 (100000), Cond.methodLink RX6 116 yX6_isShip, Cond.instanceMethod yX6_isShip, Cond.selects RX6 yX6_isShip yX6_isShip, Cond.initialized RX6, Cond.code yX6_isShip cX6_isShip 2 (some .boolean), Cond.fieldLink RX6 110 "TeaRaceModel" "ships" "I", Cond.methodLink RX6 87 yX6_in, Cond.static yX6_in, Cond.code yX6_in cX6_in 3 (some .boolean), Cond.methodLink RX6 177 yX6_distanceOf, Cond.instanceMethod yX6_distanceOf, Cond.selects RX6 yX6_distanceOf yX6_distanceOf, Cond.code yX6_distanceOf cX6_distanceOf 11 (some .int), Cond.fieldLink RX6 168 "TeaRaceModel" "sights" "I", Cond.fieldLink RX6 68 "TeaRaceModel" "sightShip" "[I", Cond.fieldLink RX6 74 "TeaRaceModel" "sightHour" "[I", Cond.fieldLink RX6 71 "TeaRaceModel" "sightCell" "[I", Cond.methodLink RX6 174 yX6_farOf, Cond.instanceMethod yX6_farOf, Cond.selects RX6 yX6_farOf yX6_farOf, Cond.code yX6_farOf cX6_farOf 4 (some .int), Cond.fieldLink RX6 136 "TeaRaceModel" "home" "I", Cond.methodLink RX6 171 yX6_apart]
def wsX6_distance_r2 : List Cond := [Cond.static yX6_apart, Cond.code yX6_apart cX6_apart 2 (some .int)]
def wsX6_distance : List Cond := .code yX6_distance cX6_distance 4 (some .int) :: ((wsX6_distance_r1 ++ wsX6_distance_r2) ++ wsX60)
def wsX6_ahead_r1 : List Cond := [Cond.constant RX6 152 (100000), Cond.methodLink RX6 116 yX6_isShip, Cond.instanceMethod yX6_isShip, Cond.selects RX6 yX6_isShip yX6_isShip, Cond.initialized RX6, Cond.code yX6_isShip cX6_isShip 2 (some .boolean), Cond.fieldLink RX6 110 "TeaRaceModel" "ships" "I", Cond.methodLink RX6 87 yX6_in, Cond.static yX6_in, Cond.code yX6_in cX6_in 3 (some .boolean), Cond.methodLink RX6 177 yX6_distanceOf, Cond.instanceMethod yX6_distanceOf, Cond.selects RX6 yX6_distanceOf yX6_distanceOf, Cond.code yX6_distanceOf cX6_distanceOf 11 (some .int), Cond.fieldLink RX6 168 "TeaRaceModel" "sights" "I", Cond.fieldLink RX6 68 "TeaRaceModel" "sightShip" "[I", Cond.fieldLink RX6 74 "TeaRaceModel" "sightHour" "[I", Cond.fieldLink RX6 71 "TeaRaceModel" "sightCell" "[I", Cond.methodLink RX6 174 yX6_farOf, Cond.instanceMethod yX6_farOf, Cond.selects RX6 yX6_farOf yX6_farOf, Cond.code yX6_farOf cX6_farOf 4 (some .int), Cond.fieldLink RX6 136 "TeaRaceModel" "home" "I", Cond.methodLink RX6 171 yX6_apart]
def wsX6_ahead_r2 : List Cond := [Cond.static yX6_apart, Cond.code yX6_apart cX6_apart 2 (some .int)]
def wsX6_ahead : List Cond := .code yX6_ahead cX6_ahead 6 (some .int) :: ((wsX6_ahead_r1 ++ wsX6_ahead_r2) ++ wsX60)
def wsX6_charter : List Cond := .code yX6_charter cX6_charter 4 (some .int) :: ([.constant RX6 152 (100000), .fieldLink RX6 56 "TeaRaceModel" "rates" "[I", .fieldLink RX6 59 "TeaRaceModel" "premiums" "[I", .methodLink RX6 116 yX6_isShip, .instanceMethod yX6_isShip, .selects RX6 yX6_isShip yX6_isShip, .initialized RX6, .code yX6_isShip cX6_isShip 2 (some .boolean), .fieldLink RX6 110 "TeaRaceModel" "ships" "I", .methodLink RX6 87 yX6_in, .static yX6_in, .code yX6_in cX6_in 3 (some .boolean)] ++ wsX60)
def wsX6_freight : List Cond := .code yX6_freight cX6_freight 2 (some .int) :: ([.fieldLink RX6 38 "TeaRaceModel" "homeAt" "[I", .fieldLink RX6 41 "TeaRaceModel" "chests" "[I", .fieldLink RX6 56 "TeaRaceModel" "rates" "[I", .fieldLink RX6 59 "TeaRaceModel" "premiums" "[I", .methodLink RX6 116 yX6_isShip, .instanceMethod yX6_isShip, .selects RX6 yX6_isShip yX6_isShip, .initialized RX6, .code yX6_isShip cX6_isShip 2 (some .boolean), .fieldLink RX6 110 "TeaRaceModel" "ships" "I", .methodLink RX6 87 yX6_in, .static yX6_in, .code yX6_in cX6_in 3 (some .boolean), .methodLink RX6 160 yX6_firstShip, .instanceMethod yX6_firstShip, .selects RX6 yX6_firstShip yX6_firstShip, .code yX6_firstShip cX6_firstShip 4 (some .int), .methodLink RX6 122 yX6_entryOf, .instanceMethod yX6_entryOf, .selects RX6 yX6_entryOf yX6_entryOf, .code yX6_entryOf cX6_entryOf 3 (some .int), .fieldLink RX6 119 "TeaRaceModel" "gate" "I"] ++ wsX60)
def wsX6_market : List Cond := .code yX6_market cX6_market 3 (some .int) :: ([.fieldLink RX6 77 "TeaRaceModel" "price" "I", .fieldLink RX6 81 "TeaRaceModel" "fall" "I", .methodLink RX6 87 yX6_in, .static yX6_in, .initialized RX6, .code yX6_in cX6_in 3 (some .boolean)] ++ wsX60)
def wsX6_priceFor : List Cond := .code yX6_priceFor cX6_priceFor 5 (some .int) :: ([.fieldLink RX6 110 "TeaRaceModel" "ships" "I", .fieldLink RX6 38 "TeaRaceModel" "homeAt" "[I", .fieldLink RX6 41 "TeaRaceModel" "chests" "[I", .fieldLink RX6 77 "TeaRaceModel" "price" "I", .fieldLink RX6 81 "TeaRaceModel" "fall" "I", .methodLink RX6 122 yX6_entryOf, .instanceMethod yX6_entryOf, .selects RX6 yX6_entryOf yX6_entryOf, .initialized RX6, .code yX6_entryOf cX6_entryOf 3 (some .int), .fieldLink RX6 119 "TeaRaceModel" "gate" "I"] ++ wsX60)
def wsX6_sale : List Cond := .code yX6_sale cX6_sale 3 (some .int) :: ([.fieldLink RX6 38 "TeaRaceModel" "homeAt" "[I", .fieldLink RX6 41 "TeaRaceModel" "chests" "[I", .fieldLink RX6 184 "TeaRaceModel" "asked" "J", .methodLink RX6 116 yX6_isShip, .instanceMethod yX6_isShip, .selects RX6 yX6_isShip yX6_isShip, .initialized RX6, .code yX6_isShip cX6_isShip 2 (some .boolean), .fieldLink RX6 110 "TeaRaceModel" "ships" "I", .methodLink RX6 87 yX6_in, .static yX6_in, .code yX6_in cX6_in 3 (some .boolean), .methodLink RX6 181 yX6_priceFor, .instanceMethod yX6_priceFor, .selects RX6 yX6_priceFor yX6_priceFor, .code yX6_priceFor cX6_priceFor 5 (some .int), .fieldLink RX6 77 "TeaRaceModel" "price" "I", .fieldLink RX6 81 "TeaRaceModel" "fall" "I", .methodLink RX6 122 yX6_entryOf, .instanceMethod yX6_entryOf, .selects RX6 yX6_entryOf yX6_entryOf, .code yX6_entryOf cX6_entryOf 3 (some .int), .fieldLink RX6 119 "TeaRaceModel" "gate" "I"] ++ wsX60)
def wsX6_meanPrice : List Cond := .code yX6_meanPrice cX6_meanPrice 6 (some .int) :: ([.fieldLink RX6 110 "TeaRaceModel" "ships" "I", .fieldLink RX6 38 "TeaRaceModel" "homeAt" "[I", .fieldLink RX6 41 "TeaRaceModel" "chests" "[I", .methodLink RX6 181 yX6_priceFor, .instanceMethod yX6_priceFor, .selects RX6 yX6_priceFor yX6_priceFor, .initialized RX6, .code yX6_priceFor cX6_priceFor 5 (some .int), .fieldLink RX6 77 "TeaRaceModel" "price" "I", .fieldLink RX6 81 "TeaRaceModel" "fall" "I", .methodLink RX6 122 yX6_entryOf, .instanceMethod yX6_entryOf, .selects RX6 yX6_entryOf yX6_entryOf, .code yX6_entryOf cX6_entryOf 3 (some .int), .fieldLink RX6 119 "TeaRaceModel" "gate" "I", .methodLink RX6 98 yX6_meets, .instanceMethod yX6_meets, .selects RX6 yX6_meets yX6_meets, .code yX6_meets cX6_meets 2 (some .int), .fieldLink RX6 84 "TeaRaceModel" "finding" "I", .fieldLink RX6 7 "TeaRaceModel" "findings" "[I"] ++ wsX60)
def wsX6_asked : List Cond := .code yX6_asked cX6_asked 1 (some .long) :: ([.fieldLink RX6 184 "TeaRaceModel" "asked" "J"] ++ wsX60)
def wsX6_tellsCount : List Cond := .code yX6_tellsCount cX6_tellsCount 4 (some .int) :: ([.fieldLink RX6 17 "TeaRaceModel" "isChart" "[Z", .fieldLink RX6 110 "TeaRaceModel" "ships" "I", .fieldLink RX6 113 "TeaRaceModel" "hour" "I", .fieldLink RX6 168 "TeaRaceModel" "sights" "I", .methodLink RX6 153 yX6_atHome, .instanceMethod yX6_atHome, .selects RX6 yX6_atHome yX6_atHome, .initialized RX6, .code yX6_atHome cX6_atHome 3 (some .int), .fieldLink RX6 38 "TeaRaceModel" "homeAt" "[I"] ++ wsX60)
def wsX6_count : List Cond := .code yX6_count cX6_count 2 (some .int) :: ([.methodLink RX6 87 yX6_in, .static yX6_in, .initialized RX6, .code yX6_in cX6_in 3 (some .boolean), .methodLink RX6 188 yX6_tellsCount, .instanceMethod yX6_tellsCount, .selects RX6 yX6_tellsCount yX6_tellsCount, .code yX6_tellsCount cX6_tellsCount 4 (some .int), .fieldLink RX6 17 "TeaRaceModel" "isChart" "[Z", .fieldLink RX6 110 "TeaRaceModel" "ships" "I", .fieldLink RX6 113 "TeaRaceModel" "hour" "I", .fieldLink RX6 168 "TeaRaceModel" "sights" "I", .methodLink RX6 153 yX6_atHome, .instanceMethod yX6_atHome, .selects RX6 yX6_atHome yX6_atHome, .code yX6_atHome cX6_atHome 3 (some .int), .fieldLink RX6 38 "TeaRaceModel" "homeAt" "[I"] ++ wsX60)
def wsX6_finding : List Cond := .code yX6_finding cX6_finding 1 (some .int) :: ([.fieldLink RX6 84 "TeaRaceModel" "finding" "I"] ++ wsX60)
def wsX6_findings : List Cond := .code yX6_findings cX6_findings 2 (some .int) :: ([.fieldLink RX6 7 "TeaRaceModel" "findings" "[I", .methodLink RX6 87 yX6_in, .static yX6_in, .initialized RX6, .code yX6_in cX6_in 3 (some .boolean)] ++ wsX60)
def wsX6_digest_r1 : List Cond := [Cond.constantLong RX6 191 (17), Cond.constantLong RX6 193 (31), Cond.fieldLink RX6 110 "TeaRaceModel" "ships" "I", Cond.fieldLink RX6 17 "TeaRaceModel" "isChart" "[Z", Cond.fieldLink RX6 20 "TeaRaceModel" "winds" "[I", Cond.methodLink RX6 188 yX6_tellsCount, Cond.instanceMethod yX6_tellsCount, Cond.selects RX6 yX6_tellsCount yX6_tellsCount, Cond.initialized RX6, Cond.code yX6_tellsCount cX6_tellsCount 4 (some .int), Cond.fieldLink RX6 113 "TeaRaceModel" "hour" "I", Cond.fieldLink RX6 168 "TeaRaceModel" "sights" "I", Cond.methodLink RX6 153 yX6_atHome, Cond.instanceMethod yX6_atHome, Cond.selects RX6 yX6_atHome yX6_atHome, Cond.code yX6_atHome cX6_atHome 3 (some .int), Cond.fieldLink RX6 38 "TeaRaceModel" "homeAt" "[I", Cond.methodLink RX6 125 yX6_tells, Cond.instanceMethod yX6_tells, Cond.selects RX6 yX6_tells yX6_tells, Cond.code yX6_tells cX6_tells 3 (some .int), Cond.fieldLink RX6 26 "TeaRaceModel" "kinds" "[I", Cond.fieldLink RX6 29 "TeaRaceModel" "cells" "[I", Cond.fieldLink RX6 32 "TeaRaceModel" "gone" "[I"]
def wsX6_digest_r2 : List Cond := [Cond.fieldLink RX6 35 "TeaRaceModel" "ways" "[I", Cond.fieldLink RX6 41 "TeaRaceModel" "chests" "[I", Cond.methodLink RX6 122 yX6_entryOf, Cond.instanceMethod yX6_entryOf, Cond.selects RX6 yX6_entryOf yX6_entryOf, Cond.code yX6_entryOf cX6_entryOf 3 (some .int), Cond.fieldLink RX6 119 "TeaRaceModel" "gate" "I"]
def wsX6_digest : List Cond := .code yX6_digest cX6_digest 5 (some .long) :: ((wsX6_digest_r1 ++ wsX6_digest_r2) ++ wsX60)
def wsJ9_abs_0f7a4 : List Cond := .code yJ9_abs_0f7a4 cJ9_abs_0f7a4 1 (some .int) :: ([])
def wsJ9_max_7cf53 : List Cond := .code yJ9_max_7cf53 cJ9_max_7cf53 2 (some .int) :: ([])
def wsJ9_min_7cf53 : List Cond := .code yJ9_min_7cf53 cJ9_min_7cf53 2 (some .int) :: ([])
def wsL_law_r1 : List Cond := [Cond.classLink RL 7 RX5, Cond.instantiable RX5 12, Cond.initialized RX5, Cond.classLink RL 10 RX6, Cond.instantiable RX6 31, Cond.initialized RX6, Cond.methodLink RL 9 yX5_init, Cond.instanceMethod yX5_init, Cond.code yX5_init cX5_init 1 none, Cond.methodLink RX5 1 objectInit, Cond.instanceMethod objectInit, Cond.code objectInit ⟨#[0xb1]⟩ 1 none, Cond.classLink RX5 7 RX2, Cond.instantiable RX2 3, Cond.initialized RX2, Cond.fieldLink RX5 10 "TeaRace" "sea" "LTeaRace$Sea;", Cond.classLink RX5 16 RX1, Cond.instantiable RX1 2, Cond.initialized RX1, Cond.fieldLink RX5 19 "TeaRace" "passage" "LTeaRace$Passage;", Cond.classLink RX5 23 RJx4a65c, Cond.instantiable RJx4a65c 3, Cond.initialized RJx4a65c, Cond.fieldLink RX5 26 "TeaRace" "fleet" "Ljava/util/List;"]
def wsL_law_r2 : List Cond := [Cond.arrayClass .int, Cond.fieldLink RX5 30 "TeaRace" "findingCounts" "[I", Cond.fieldLink RX5 34 "TeaRace" "latestFinding" "I", Cond.fieldLink RX5 38 "TeaRace" "hour" "I", Cond.fieldLink RX5 41 "TeaRace" "homeCell" "I", Cond.fieldLink RX5 44 "TeaRace" "gateHour" "I", Cond.fieldLink RX5 47 "TeaRace" "sightCount" "I", Cond.fieldLink RX5 50 "TeaRace" "priceAtFirst" "I", Cond.fieldLink RX5 53 "TeaRace" "fallOfPrice" "I", Cond.fieldLink RX5 56 "TeaRace" "latestSale" "J", Cond.instanceMethod yX2_init, Cond.code yX2_init cX2_init 1 none, Cond.methodLink RX2 3 objectInit, Cond.arrayClass .boolean, Cond.fieldLink RX2 9 "TeaRace$Sea" "landCells" "[Z", Cond.fieldLink RX2 15 "TeaRace$Sea" "chartThere" "[Z", Cond.classLink RX2 18 "[[B", Cond.arrayClass .byte, Cond.fieldLink RX2 20 "TeaRace$Sea" "charts" "[[B", Cond.instanceMethod yX1_init, Cond.code yX1_init cX1_init 1 none, Cond.methodLink RX1 3 objectInit, Cond.fieldLink RX1 9 "TeaRace$Passage" "hoursTo" "[I", Cond.fieldLink RX1 15 "TeaRace$Passage" "departed" "[Z"]
def wsL_law_r3 : List Cond := [Cond.methodLink RX5 25 yJx4a65c_init_da8c8, Cond.instanceMethod yJx4a65c_init_da8c8, Cond.code yJx4a65c_init_da8c8 cJx4a65c_init_da8c8 1 none, Cond.fieldLink RJx4a65c 39 "java/util/ArrayList" "DEFAULTCAPACITY_EMPTY_ELEMENTDATA" "[Ljava/lang/Object;", Cond.fieldLink RJx4a65c 9 "java/util/ArrayList" "elementData" "[Ljava/lang/Object;", Cond.methodLink RJx4a65c 1 yJxc12de_init_da8c8, Cond.instanceMethod yJxc12de_init_da8c8, Cond.initialized RJxc12de, Cond.code yJxc12de_init_da8c8 cJxc12de_init_da8c8 1 none, Cond.fieldLink RJxc12de 7 "java/util/AbstractList" "modCount" "I", Cond.methodLink RJxc12de 1 yJxa1e45_init_da8c8, Cond.instanceMethod yJxa1e45_init_da8c8, Cond.initialized RJxa1e45, Cond.code yJxa1e45_init_da8c8 cJxa1e45_init_da8c8 1 none, Cond.methodLink RJxa1e45 1 objectInit, Cond.methodLink RL 12 yX6_init, Cond.instanceMethod yX6_init, Cond.code yX6_init cX6_init 1 none, Cond.methodLink RX6 1 objectInit, Cond.fieldLink RX6 7 "TeaRaceModel" "findings" "[I", Cond.fieldLink RX6 13 "TeaRaceModel" "isLand" "[Z", Cond.fieldLink RX6 17 "TeaRaceModel" "isChart" "[Z", Cond.fieldLink RX6 20 "TeaRaceModel" "winds" "[I", Cond.fieldLink RX6 23 "TeaRaceModel" "moving" "[I"]
def wsL_law_r4 : List Cond := [Cond.fieldLink RX6 26 "TeaRaceModel" "kinds" "[I", Cond.fieldLink RX6 29 "TeaRaceModel" "cells" "[I", Cond.fieldLink RX6 32 "TeaRaceModel" "gone" "[I", Cond.fieldLink RX6 35 "TeaRaceModel" "ways" "[I", Cond.fieldLink RX6 38 "TeaRaceModel" "homeAt" "[I", Cond.fieldLink RX6 41 "TeaRaceModel" "chests" "[I", Cond.fieldLink RX6 44 "TeaRaceModel" "foulness" "[I", Cond.fieldLink RX6 47 "TeaRaceModel" "came" "[I", Cond.fieldLink RX6 50 "TeaRaceModel" "orders" "[I", Cond.fieldLink RX6 53 "TeaRaceModel" "orderRows" "[I", Cond.fieldLink RX6 56 "TeaRaceModel" "rates" "[I", Cond.fieldLink RX6 59 "TeaRaceModel" "premiums" "[I", Cond.fieldLink RX6 62 "TeaRaceModel" "hours" "[I", Cond.fieldLink RX6 65 "TeaRaceModel" "isSettled" "[Z", Cond.fieldLink RX6 68 "TeaRaceModel" "sightShip" "[I", Cond.fieldLink RX6 71 "TeaRaceModel" "sightCell" "[I", Cond.fieldLink RX6 74 "TeaRaceModel" "sightHour" "[I", Cond.fieldLink RX6 77 "TeaRaceModel" "price" "I", Cond.fieldLink RX6 81 "TeaRaceModel" "fall" "I", Cond.methodLink RL 13 yX5_land, Cond.instanceMethod yX5_land, Cond.selects RX5 yX5_land yX5_land, Cond.code yX5_land cX5_land 4 (some .int), Cond.methodLink RX5 60 yX5_outside]
def wsL_law_r5 : List Cond := [Cond.static yX5_outside, Cond.code yX5_outside cX5_outside 2 (some .boolean), Cond.methodLink RX5 64 yX2_isLand, Cond.instanceMethod yX2_isLand, Cond.selects RX2 yX2_isLand yX2_isLand, Cond.code yX2_isLand cX2_isLand 2 (some .boolean), Cond.methodLink RX5 68 yX2_setLand, Cond.instanceMethod yX2_setLand, Cond.selects RX2 yX2_setLand yX2_setLand, Cond.code yX2_setLand cX2_setLand 3 none, Cond.methodLink RL 17 yX6_land, Cond.instanceMethod yX6_land, Cond.selects RX6 yX6_land yX6_land, Cond.code yX6_land cX6_land 4 (some .int), Cond.methodLink RX6 91 yX6_isCell, Cond.static yX6_isCell, Cond.code yX6_isCell cX6_isCell 1 (some .boolean), Cond.methodLink RX6 87 yX6_in, Cond.static yX6_in, Cond.code yX6_in cX6_in 3 (some .boolean), Cond.methodLink RL 18 yX5_chart, Cond.instanceMethod yX5_chart, Cond.selects RX5 yX5_chart yX5_chart, Cond.code yX5_chart cX5_chart 3 (some .int)]
def wsL_law_r6 : List Cond := [Cond.methodLink RX5 72 yX2_hasChart, Cond.instanceMethod yX2_hasChart, Cond.selects RX2 yX2_hasChart yX2_hasChart, Cond.code yX2_hasChart cX2_hasChart 2 (some .boolean), Cond.methodLink RX5 75 yX2_drawCalm, Cond.instanceMethod yX2_drawCalm, Cond.selects RX2 yX2_drawCalm yX2_drawCalm, Cond.code yX2_drawCalm cX2_drawCalm 2 none, Cond.methodLink RX2 27 yJ7_fill_031fb, Cond.static yJ7_fill_031fb, Cond.initialized RJ7, Cond.code yJ7_fill_031fb cJ7_fill_031fb 4 none, Cond.methodLink RL 22 yX6_chart, Cond.instanceMethod yX6_chart, Cond.selects RX6 yX6_chart yX6_chart, Cond.code yX6_chart cX6_chart 4 (some .int), Cond.methodLink RX6 95 yX6_isMonth, Cond.static yX6_isMonth, Cond.code yX6_isMonth cX6_isMonth 1 (some .boolean), Cond.methodLink RL 23 yX5_wind, Cond.instanceMethod yX5_wind, Cond.selects RX5 yX5_wind yX5_wind, Cond.code yX5_wind cX5_wind 5 (some .int), Cond.methodLink RX5 79 yX5_found]
def wsL_law_r7 : List Cond := [Cond.instanceMethod yX5_found, Cond.selects RX5 yX5_found yX5_found, Cond.code yX5_found cX5_found 2 (some .int), Cond.methodLink RX5 83 yX2_drawnAt, Cond.instanceMethod yX2_drawnAt, Cond.selects RX2 yX2_drawnAt yX2_drawnAt, Cond.code yX2_drawnAt cX2_drawnAt 3 (some .int), Cond.methodLink RX2 33 yX2_hasChart, Cond.methodLink RX5 87 yX2_drawAt, Cond.instanceMethod yX2_drawAt, Cond.selects RX2 yX2_drawAt yX2_drawAt, Cond.code yX2_drawAt cX2_drawAt 4 none, Cond.methodLink RL 27 yX6_wind, Cond.instanceMethod yX6_wind, Cond.selects RX6 yX6_wind yX6_wind, Cond.code yX6_wind cX6_wind 6 (some .int), Cond.methodLink RX6 102 yX6_looked, Cond.instanceMethod yX6_looked, Cond.selects RX6 yX6_looked yX6_looked, Cond.code yX6_looked cX6_looked 2 (some .int), Cond.methodLink RX6 98 yX6_meets, Cond.instanceMethod yX6_meets, Cond.selects RX6 yX6_meets yX6_meets, Cond.code yX6_meets cX6_meets 2 (some .int)]
def wsL_law_r8 : List Cond := [Cond.fieldLink RX6 84 "TeaRaceModel" "finding" "I", Cond.methodLink RL 28 yX5_tear, Cond.instanceMethod yX5_tear, Cond.selects RX5 yX5_tear yX5_tear, Cond.code yX5_tear cX5_tear 2 (some .int), Cond.methodLink RX5 91 yX2_loseChart, Cond.instanceMethod yX2_loseChart, Cond.selects RX2 yX2_loseChart yX2_loseChart, Cond.code yX2_loseChart cX2_loseChart 2 none, Cond.methodLink RL 31 yX6_tear, Cond.instanceMethod yX6_tear, Cond.selects RX6 yX6_tear yX6_tear, Cond.code yX6_tear cX6_tear 3 (some .int), Cond.methodLink RL 32 yX5_copy, Cond.instanceMethod yX5_copy, Cond.selects RX5 yX5_copy yX5_copy, Cond.code yX5_copy cX5_copy 6 (some .int), Cond.methodLink RX5 94 yX2_copyChart, Cond.instanceMethod yX2_copyChart, Cond.selects RX2 yX2_copyChart yX2_copyChart, Cond.code yX2_copyChart cX2_copyChart 6 none, Cond.methodLink RX2 37 arraycopyName, Cond.native arraycopyName, Cond.static arraycopyName]
def wsL_law_r9 : List Cond := [Cond.initialized "java/lang/System", Cond.methodLink RL 36 yX6_copy, Cond.instanceMethod yX6_copy, Cond.selects RX6 yX6_copy yX6_copy, Cond.code yX6_copy cX6_copy 7 (some .int), Cond.constantLong RX6 105 (160), Cond.methodLink RL 37 yX5_mean, Cond.instanceMethod yX5_mean, Cond.selects RX5 yX5_mean yX5_mean, Cond.code yX5_mean cX5_mean 4 (some .int), Cond.methodLink RX5 98 yX2_windIn, Cond.instanceMethod yX2_windIn, Cond.selects RX2 yX2_windIn yX2_windIn, Cond.code yX2_windIn cX2_windIn 4 (some .int), Cond.methodLink RX5 101 yX5_strengthOf, Cond.static yX5_strengthOf, Cond.code yX5_strengthOf cX5_strengthOf 1 (some .int), Cond.methodLink RL 40 yX6_mean, Cond.instanceMethod yX6_mean, Cond.selects RX6 yX6_mean yX6_mean, Cond.code yX6_mean cX6_mean 5 (some .int), Cond.methodLink RX6 107 yX6_strength, Cond.static yX6_strength, Cond.code yX6_strength cX6_strength 1 (some .int)]
def wsL_law_r10 : List Cond := [Cond.methodLink RL 41 yX5_ship, Cond.instanceMethod yX5_ship, Cond.selects RX5 yX5_ship yX5_ship, Cond.code yX5_ship cX5_ship 5 (some .int), Cond.classLink RX5 113 RX3, Cond.instantiable RX3 14, Cond.initialized RX3, Cond.methodLink RX5 104 yX5_isNoWater, Cond.instanceMethod yX5_isNoWater, Cond.selects RX5 yX5_isNoWater yX5_isNoWater, Cond.code yX5_isNoWater cX5_isNoWater 2 (some .boolean), Cond.methodLink RX5 107 ⟨"java/util/List", "size", "()I"⟩, Cond.selects RJx4a65c ⟨"java/util/List", "size", "()I"⟩ yJx4a65c_size_8abf5, Cond.instanceMethod yJx4a65c_size_8abf5, Cond.code yJx4a65c_size_8abf5 cJx4a65c_size_8abf5 1 (some .int), Cond.fieldLink RJx4a65c 48 "java/util/ArrayList" "size" "I", Cond.methodLink RX5 115 yX3_init, Cond.instanceMethod yX3_init, Cond.code yX3_init cX3_init 5 none, Cond.methodLink RX3 3 objectInit, Cond.classLink RX3 9 RJx4a65c, Cond.fieldLink RX3 12 "TeaRace$Ship" "orders" "Ljava/util/List;", Cond.fieldLink RX3 18 "TeaRace$Ship" "sights" "Ljava/util/List;", Cond.fieldLink RX3 21 "TeaRace$Ship" "gone" "I"]
def wsL_law_r11 : List Cond := [Cond.fieldLink RX3 25 "TeaRace$Ship" "way" "I", Cond.fieldLink RX3 28 "TeaRace$Ship" "foulness" "I", Cond.fieldLink RX3 31 "TeaRace$Ship" "cellsComeTo" "I", Cond.fieldLink RX3 34 "TeaRace$Ship" "homeHour" "I", Cond.fieldLink RX3 37 "TeaRace$Ship" "entry" "I", Cond.fieldLink RX3 40 "TeaRace$Ship" "rate" "I", Cond.fieldLink RX3 43 "TeaRace$Ship" "premium" "I", Cond.fieldLink RX3 46 "TeaRace$Ship" "number" "I", Cond.fieldLink RX3 49 "TeaRace$Ship" "kind" "I", Cond.fieldLink RX3 52 "TeaRace$Ship" "cell" "I", Cond.fieldLink RX3 55 "TeaRace$Ship" "chests" "I", Cond.methodLink RX3 11 yJx4a65c_init_da8c8, Cond.methodLink RX5 118 ⟨"java/util/List", "add", "(Ljava/lang/Object;)Z"⟩, Cond.selects RJx4a65c ⟨"java/util/List", "add", "(Ljava/lang/Object;)Z"⟩ yJx4a65c_add_9ea2d, Cond.instanceMethod yJx4a65c_add_9ea2d, Cond.code yJx4a65c_add_9ea2d cJx4a65c_add_9ea2d 2 (some .boolean), Cond.fieldLink RJx4a65c 63 "java/util/ArrayList" "modCount" "I", Cond.sameField "java/util/ArrayList" "java/util/AbstractList" "modCount" "I", Cond.methodLink RJx4a65c 131 yJx4a65c_add_72be8, Cond.instanceMethod yJx4a65c_add_72be8, Cond.selects RJx4a65c yJx4a65c_add_72be8 yJx4a65c_add_72be8, Cond.code yJx4a65c_add_72be8 cJx4a65c_add_72be8 4 none, Cond.methodLink RJx4a65c 129 yJx4a65c_grow_d5877, Cond.instanceMethod yJx4a65c_grow_d5877]
def wsL_law_r12 : List Cond := [Cond.selects RJx4a65c yJx4a65c_grow_d5877 yJx4a65c_grow_d5877, Cond.code yJx4a65c_grow_d5877 cJx4a65c_grow_d5877 1 (some (.array (.object "java/lang/Object"))), Cond.methodLink RJx4a65c 69 yJx4a65c_grow_92f84, Cond.instanceMethod yJx4a65c_grow_92f84, Cond.selects RJx4a65c yJx4a65c_grow_92f84 yJx4a65c_grow_92f84, Cond.code yJx4a65c_grow_92f84 cJx4a65c_grow_92f84 4 (some (.array (.object "java/lang/Object"))), Cond.methodLink RJx4a65c 79 Lib.Math.max.name, Cond.static Lib.Math.max.name, Cond.initialized "java/lang/Math", Cond.code Lib.Math.max.name Lib.Math.max.code 2 (some .int), Cond.classLink RJx4a65c 7 "java/lang/Object", Cond.methodLink RJx4a65c 73 yJ8_newLength_cabcc, Cond.static yJ8_newLength_cabcc, Cond.initialized RJ8, Cond.code yJ8_newLength_cabcc cJ8_newLength_cabcc 4 (some .int), Cond.methodLink RJ8 194 Lib.Math.max.name, Cond.constant RJ8 200 (2147483639), Cond.methodLink RJ8 201 yJ8_hugeLength_7cf53, Cond.static yJ8_hugeLength_7cf53, Cond.code yJ8_hugeLength_7cf53 cJ8_hugeLength_7cf53 3 (some .int), Cond.methodLink RJx4a65c 66 yJ7_copyOf_1904c, Cond.static yJ7_copyOf_1904c, Cond.code yJ7_copyOf_1904c cJ7_copyOf_1904c 2 (some (.array (.object "java/lang/Object"))), Cond.methodLink RJ7 86 ⟨"java/lang/Object", "getClass", "()Ljava/lang/Class;"⟩]
def wsL_law_r13 : List Cond := [Cond.selects "[Ljava/lang/Object;" ⟨"java/lang/Object", "getClass", "()Ljava/lang/Class;"⟩ ⟨"java/lang/Object", "getClass", "()Ljava/lang/Class;"⟩, Cond.instanceMethod ⟨"java/lang/Object", "getClass", "()Ljava/lang/Class;"⟩, Cond.native ⟨"java/lang/Object", "getClass", "()Ljava/lang/Class;"⟩, Cond.methodLink RJ7 300 yJ7_copyOf_6403c, Cond.static yJ7_copyOf_6403c, Cond.code yJ7_copyOf_6403c cJ7_copyOf_6403c 4 (some (.array (.object "java/lang/Object"))), Cond.classLink RJ7 110 "[Ljava/lang/Object;", Cond.classLink RJ7 2 "java/lang/Object", Cond.methodLink RJ7 304 Lib.Math.min.name, Cond.static Lib.Math.min.name, Cond.code Lib.Math.min.name Lib.Math.min.code 2 (some .int), Cond.methodLink RJ7 150 arraycopyName, Cond.methodLink RL 44 yX6_ship, Cond.instanceMethod yX6_ship, Cond.selects RX6 yX6_ship yX6_ship, Cond.code yX6_ship cX6_ship 4 (some .int), Cond.fieldLink RX6 110 "TeaRaceModel" "ships" "I", Cond.fieldLink RX6 113 "TeaRaceModel" "hour" "I", Cond.methodLink RL 45 yX5_foul, Cond.instanceMethod yX5_foul, Cond.selects RX5 yX5_foul yX5_foul, Cond.code yX5_foul cX5_foul 5 (some .int), Cond.fieldLink RX5 126 "TeaRace$Ship" "foulness" "I", Cond.methodLink RX5 122 yX5_shipOf]
def wsL_law_r14 : List Cond := [Cond.instanceMethod yX5_shipOf, Cond.selects RX5 yX5_shipOf yX5_shipOf, Cond.code yX5_shipOf cX5_shipOf 2 (some (.object "TeaRace$Ship")), Cond.classLink RX5 113 "TeaRace$Ship", Cond.methodLink RX5 175 ⟨"java/util/List", "get", "(I)Ljava/lang/Object;"⟩, Cond.selects RJx4a65c ⟨"java/util/List", "get", "(I)Ljava/lang/Object;"⟩ yJx4a65c_get_915e3, Cond.instanceMethod yJx4a65c_get_915e3, Cond.code yJx4a65c_get_915e3 cJx4a65c_get_915e3 2 (some (.object "java/lang/Object")), Cond.methodLink RJx4a65c 118 yJ15_checkIndex_7cf53, Cond.static yJ15_checkIndex_7cf53, Cond.initialized RJ15, Cond.code yJ15_checkIndex_7cf53 cJ15_checkIndex_7cf53 2 (some .int), Cond.methodLink RJ15 105 yJ3_checkIndex_8e157, Cond.static yJ3_checkIndex_8e157, Cond.initialized RJ3, Cond.code yJ3_checkIndex_8e157 cJ3_checkIndex_8e157 3 (some .int), Cond.methodLink RJx4a65c 123 yJx4a65c_elementData_915e3, Cond.instanceMethod yJx4a65c_elementData_915e3, Cond.selects RJx4a65c yJx4a65c_elementData_915e3 yJx4a65c_elementData_915e3, Cond.code yJx4a65c_elementData_915e3 cJx4a65c_elementData_915e3 2 (some (.object "java/lang/Object")), Cond.methodLink RL 49 yX6_foul, Cond.instanceMethod yX6_foul, Cond.selects RX6 yX6_foul yX6_foul, Cond.code yX6_foul cX6_foul 4 (some .int)]
def wsL_law_r15 : List Cond := [Cond.methodLink RX6 116 yX6_isShip, Cond.instanceMethod yX6_isShip, Cond.selects RX6 yX6_isShip yX6_isShip, Cond.code yX6_isShip cX6_isShip 2 (some .boolean), Cond.methodLink RL 50 yX5_told, Cond.instanceMethod yX5_told, Cond.selects RX5 yX5_told yX5_told, Cond.code yX5_told cX5_told 4 (some .int), Cond.fieldLink RX5 129 "TeaRace$Ship" "kind" "I", Cond.fieldLink RX5 132 "TeaRace$Ship" "cell" "I", Cond.fieldLink RX5 135 "TeaRace$Ship" "gone" "I", Cond.fieldLink RX5 138 "TeaRace$Ship" "way" "I", Cond.fieldLink RX5 141 "TeaRace$Ship" "homeHour" "I", Cond.fieldLink RX5 144 "TeaRace$Ship" "entry" "I", Cond.fieldLink RX5 147 "TeaRace$Ship" "chests" "I", Cond.methodLink RL 53 yX6_told, Cond.instanceMethod yX6_told, Cond.selects RX6 yX6_told yX6_told, Cond.code yX6_told cX6_told 3 (some .int), Cond.methodLink RX6 125 yX6_tells, Cond.instanceMethod yX6_tells, Cond.selects RX6 yX6_tells yX6_tells, Cond.code yX6_tells cX6_tells 3 (some .int), Cond.methodLink RX6 122 yX6_entryOf]
def wsL_law_r16 : List Cond := [Cond.instanceMethod yX6_entryOf, Cond.selects RX6 yX6_entryOf yX6_entryOf, Cond.code yX6_entryOf cX6_entryOf 3 (some .int), Cond.fieldLink RX6 119 "TeaRaceModel" "gate" "I", Cond.methodLink RL 54 yX5_mark, Cond.instanceMethod yX5_mark, Cond.selects RX5 yX5_mark yX5_mark, Cond.code yX5_mark cX5_mark 4 (some .int), Cond.fieldLink RX5 153 "TeaRace$Ship" "orders" "Ljava/util/List;", Cond.fieldLink RX5 159 "TeaRace$Ship" "cellsComeTo" "I", Cond.methodLink RX5 150 yX3_isOf, Cond.instanceMethod yX3_isOf, Cond.selects RX3 yX3_isOf yX3_isOf, Cond.code yX3_isOf cX3_isOf 2 (some .boolean), Cond.methodLink RX5 156 yX3_speedIn, Cond.instanceMethod yX3_speedIn, Cond.selects RX3 yX3_speedIn yX3_speedIn, Cond.code yX3_speedIn cX3_speedIn 4 (some .int), Cond.methodLink RX3 69 Lib.Math.max.name, Cond.static yX5_eighthsBetween, Cond.code yX5_eighthsBetween cX5_eighthsBetween 3 (some .int), Cond.methodLink RX5 251 Lib.Math.abs.name, Cond.static Lib.Math.abs.name, Cond.code Lib.Math.abs.name Lib.Math.abs.code 1 (some .int)]
def wsL_law_r17 : List Cond := [Cond.methodLink RX5 256 Lib.Math.min.name, Cond.methodLink RX3 66 yX3_sailSpeed, Cond.instanceMethod yX3_sailSpeed, Cond.selects RX3 yX3_sailSpeed yX3_sailSpeed, Cond.code yX3_sailSpeed cX3_sailSpeed 3 (some .int), Cond.methodLink RX3 74 yX3_moreAcrossTheWind, Cond.instanceMethod yX3_moreAcrossTheWind, Cond.selects RX3 yX3_moreAcrossTheWind yX3_moreAcrossTheWind, Cond.code yX3_moreAcrossTheWind cX3_moreAcrossTheWind 1 (some .int), Cond.methodLink RL 57 yX6_mark, Cond.instanceMethod yX6_mark, Cond.selects RX6 yX6_mark yX6_mark, Cond.code yX6_mark cX6_mark 4 (some .int), Cond.methodLink RX6 129 yX6_speedOf, Cond.instanceMethod yX6_speedOf, Cond.selects RX6 yX6_speedOf yX6_speedOf, Cond.code yX6_speedOf cX6_speedOf 8 (some .int), Cond.methodLink RL 58 yX5_speed, Cond.instanceMethod yX5_speed, Cond.selects RX5 yX5_speed yX5_speed, Cond.code yX5_speed cX5_speed 6 (some .int), Cond.methodLink RL 62 yX6_speed, Cond.instanceMethod yX6_speed, Cond.selects RX6 yX6_speed yX6_speed]
def wsL_law_r18 : List Cond := [Cond.code yX6_speed cX6_speed 5 (some .int), Cond.methodLink RX6 133 yX6_isWay, Cond.static yX6_isWay, Cond.code yX6_isWay cX6_isWay 1 (some .boolean), Cond.methodLink RL 63 yX5_order, Cond.instanceMethod yX5_order, Cond.selects RX5 yX5_order yX5_order, Cond.code yX5_order cX5_order 9 (some .int), Cond.classLink RX5 166 RX0, Cond.instantiable RX0 6, Cond.initialized RX0, Cond.methodLink RX5 162 yX5_isNoSpan, Cond.static yX5_isNoSpan, Cond.code yX5_isNoSpan cX5_isNoSpan 3 (some .boolean), Cond.methodLink RX5 168 yX0_init, Cond.instanceMethod yX0_init, Cond.code yX0_init cX0_init 7 none, Cond.methodLink RX0 3 objectInit, Cond.fieldLink RX0 9 "TeaRace$Order" "west" "I", Cond.fieldLink RX0 15 "TeaRace$Order" "east" "I", Cond.fieldLink RX0 18 "TeaRace$Order" "north" "I", Cond.fieldLink RX0 21 "TeaRace$Order" "south" "I", Cond.fieldLink RX0 24 "TeaRace$Order" "strength" "I", Cond.fieldLink RX0 27 "TeaRace$Order" "way" "I"]
def wsL_law_r19 : List Cond := [Cond.methodLink RL 67 yX6_order, Cond.instanceMethod yX6_order, Cond.selects RX6 yX6_order yX6_order, Cond.code yX6_order cX6_order 9 (some .int), Cond.methodLink RL 68 yX5_home, Cond.instanceMethod yX5_home, Cond.selects RX5 yX5_home yX5_home, Cond.code yX5_home cX5_home 3 (some .int), Cond.methodLink RL 71 yX6_home, Cond.instanceMethod yX6_home, Cond.selects RX6 yX6_home yX6_home, Cond.code yX6_home cX6_home 3 (some .int), Cond.fieldLink RX6 136 "TeaRaceModel" "home" "I", Cond.methodLink RL 72 yX5_run, Cond.instanceMethod yX5_run, Cond.selects RX5 yX5_run yX5_run, Cond.code yX5_run cX5_run 4 (some .int), Cond.constant RX5 171 (100000), Cond.methodLink RX5 172 yX5_shipsHome, Cond.instanceMethod yX5_shipsHome, Cond.selects RX5 yX5_shipsHome yX5_shipsHome, Cond.code yX5_shipsHome cX5_shipsHome 3 (some .int), Cond.methodLink RX5 222 yX3_isHome, Cond.instanceMethod yX3_isHome]
def wsL_law_r20 : List Cond := [Cond.selects RX3 yX3_isHome yX3_isHome, Cond.code yX3_isHome cX3_isHome 1 (some .boolean), Cond.methodLink RX5 179 yX5_sail, Cond.instanceMethod yX5_sail, Cond.selects RX5 yX5_sail yX5_sail, Cond.code yX5_sail cX5_sail 5 none, Cond.methodLink RX5 262 yX5_monthOf, Cond.static yX5_monthOf, Cond.code yX5_monthOf cX5_monthOf 1 (some .int), Cond.methodLink RX5 259 yJ9_floorMod_7cf53, Cond.static yJ9_floorMod_7cf53, Cond.initialized RJ9, Cond.code yJ9_floorMod_7cf53 cJ9_floorMod_7cf53 3 (some .int), Cond.methodLink RX5 265 yX3_askWay, Cond.instanceMethod yX3_askWay, Cond.selects RX3 yX3_askWay yX3_askWay, Cond.code yX3_askWay cX3_askWay 4 none, Cond.classLink RX3 87 "TeaRace$Order", Cond.fieldLink RX3 93 "TeaRace$Order" "way" "I", Cond.methodLink RX3 78 ⟨"java/util/List", "size", "()I"⟩, Cond.methodLink RX3 83 ⟨"java/util/List", "get", "(I)Ljava/lang/Object;"⟩, Cond.methodLink RX3 89 yX0_fits, Cond.instanceMethod yX0_fits, Cond.selects RX0 yX0_fits yX0_fits]
def wsL_law_r21 : List Cond := [Cond.code yX0_fits cX0_fits 5 (some .boolean), Cond.methodLink RX5 268 yX5_needOf, Cond.static yX5_needOf, Cond.code yX5_needOf cX5_needOf 1 (some .int), Cond.methodLink RX5 271 yX5_moveOn, Cond.instanceMethod yX5_moveOn, Cond.selects RX5 yX5_moveOn yX5_moveOn, Cond.code yX5_moveOn cX5_moveOn 5 none, Cond.methodLink RX5 274 yX2_nextCell, Cond.instanceMethod yX2_nextCell, Cond.selects RX2 yX2_nextCell yX2_nextCell, Cond.code yX2_nextCell cX2_nextCell 6 (some .int), Cond.methodLink RX2 50 yX2_isLand, Cond.methodLink RX5 277 yX5_comeTo, Cond.instanceMethod yX5_comeTo, Cond.selects RX5 yX5_comeTo yX5_comeTo, Cond.code yX5_comeTo cX5_comeTo 4 none, Cond.methodLink RX5 281 yX5_entryFrom, Cond.instanceMethod yX5_entryFrom, Cond.selects RX5 yX5_entryFrom yX5_entryFrom, Cond.code yX5_entryFrom cX5_entryFrom 3 (some .int), Cond.methodLink RL 75 yX6_run, Cond.instanceMethod yX6_run, Cond.selects RX6 yX6_run yX6_run]
def wsL_law_r22 : List Cond := [Cond.code yX6_run cX6_run 5 (some .int), Cond.constant RX6 152 (100000), Cond.methodLink RX6 153 yX6_atHome, Cond.instanceMethod yX6_atHome, Cond.selects RX6 yX6_atHome yX6_atHome, Cond.code yX6_atHome cX6_atHome 3 (some .int), Cond.methodLink RX6 157 yX6_go, Cond.instanceMethod yX6_go, Cond.selects RX6 yX6_go yX6_go, Cond.code yX6_go cX6_go 4 none, Cond.methodLink RX6 142 yX6_ask, Cond.instanceMethod yX6_ask, Cond.selects RX6 yX6_ask yX6_ask, Cond.code yX6_ask cX6_ask 5 none, Cond.methodLink RX6 139 yX6_windAt, Cond.instanceMethod yX6_windAt, Cond.selects RX6 yX6_windAt yX6_windAt, Cond.code yX6_windAt cX6_windAt 5 (some .int), Cond.methodLink RX6 146 yX6_need, Cond.static yX6_need, Cond.code yX6_need cX6_need 1 (some .int), Cond.methodLink RX6 149 yX6_nextCell, Cond.instanceMethod yX6_nextCell, Cond.selects RX6 yX6_nextCell yX6_nextCell]
def wsL_law_r23 : List Cond := [Cond.code yX6_nextCell cX6_nextCell 5 (some .int), Cond.methodLink RL 76 yX5_first, Cond.instanceMethod yX5_first, Cond.selects RX5 yX5_first yX5_first, Cond.code yX5_first cX5_first 2 (some .int), Cond.fieldLink RX5 187 "TeaRace$Ship" "number" "I", Cond.methodLink RX5 183 yX5_theFirst, Cond.instanceMethod yX5_theFirst, Cond.selects RX5 yX5_theFirst yX5_theFirst, Cond.code yX5_theFirst cX5_theFirst 4 (some (.object "TeaRace$Ship")), Cond.methodLink RX5 284 yX3_beats, Cond.instanceMethod yX3_beats, Cond.selects RX3 yX3_beats yX3_beats, Cond.code yX3_beats cX3_beats 2 (some .boolean), Cond.methodLink RL 80 yX6_first, Cond.instanceMethod yX6_first, Cond.selects RX6 yX6_first yX6_first, Cond.code yX6_first cX6_first 1 (some .int), Cond.methodLink RX6 160 yX6_firstShip, Cond.instanceMethod yX6_firstShip, Cond.selects RX6 yX6_firstShip yX6_firstShip, Cond.code yX6_firstShip cX6_firstShip 4 (some .int), Cond.methodLink RL 81 yX5_least, Cond.instanceMethod yX5_least]
def wsL_law_r24 : List Cond := [Cond.selects RX5 yX5_least yX5_least, Cond.code yX5_least cX5_least 6 (some .int), Cond.constant RX5 190 (98000), Cond.methodLink RX5 191 yX1_leastHours, Cond.instanceMethod yX1_leastHours, Cond.selects RX1 yX1_leastHours yX1_leastHours, Cond.code yX1_leastHours cX1_leastHours 8 (some .int), Cond.methodLink RX1 23 yX1_earliestCell, Cond.instanceMethod yX1_earliestCell, Cond.selects RX1 yX1_earliestCell yX1_earliestCell, Cond.code yX1_earliestCell cX1_earliestCell 4 (some .int), Cond.methodLink RX1 27 yX1_leave, Cond.instanceMethod yX1_leave, Cond.selects RX1 yX1_leave yX1_leave, Cond.code yX1_leave cX1_leave 8 none, Cond.methodLink RX1 31 yX2_nextCell, Cond.methodLink RX1 37 yX1_comingHour, Cond.static yX1_comingHour, Cond.code yX1_comingHour cX1_comingHour 11 (some .int), Cond.methodLink RX1 49 Lib.Math.max.name, Cond.methodLink RX1 57 yX2_windIn, Cond.methodLink RX1 60 yX3_speedIn, Cond.methodLink RX1 65 yX1_hoursFor, Cond.static yX1_hoursFor]
def wsL_law_r25 : List Cond := [Cond.code yX1_hoursFor cX1_hoursFor 2 (some .int), Cond.methodLink RX1 41 yX1_reach, Cond.instanceMethod yX1_reach, Cond.selects RX1 yX1_reach yX1_reach, Cond.code yX1_reach cX1_reach 3 none, Cond.methodLink RL 84 yX6_least, Cond.instanceMethod yX6_least, Cond.selects RX6 yX6_least yX6_least, Cond.code yX6_least cX6_least 9 (some .int), Cond.constant RX6 163 (98000), Cond.methodLink RX6 164 yX6_crossing, Cond.instanceMethod yX6_crossing, Cond.selects RX6 yX6_crossing yX6_crossing, Cond.code yX6_crossing cX6_crossing 9 (some .int), Cond.methodLink RL 85 yX5_sight, Cond.instanceMethod yX5_sight, Cond.selects RX5 yX5_sight yX5_sight, Cond.code yX5_sight cX5_sight 5 (some .int), Cond.fieldLink RX5 198 "TeaRace$Ship" "sights" "Ljava/util/List;", Cond.classLink RX5 201 RX4, Cond.instantiable RX4 2, Cond.initialized RX4, Cond.methodLink RX5 195 yX3_isUnseenFrom, Cond.instanceMethod yX3_isUnseenFrom]
def wsL_law_r26 : List Cond := [Cond.selects RX3 yX3_isUnseenFrom yX3_isUnseenFrom, Cond.code yX3_isUnseenFrom cX3_isUnseenFrom 2 (some .boolean), Cond.methodLink RX3 94 yX3_firstSightFrom, Cond.instanceMethod yX3_firstSightFrom, Cond.selects RX3 yX3_firstSightFrom yX3_firstSightFrom, Cond.code yX3_firstSightFrom cX3_firstSightFrom 4 (some (.object "TeaRace$Sight")), Cond.classLink RX3 101 "TeaRace$Sight", Cond.fieldLink RX3 103 "TeaRace$Sight" "hour" "I", Cond.methodLink RX5 203 yX4_init, Cond.instanceMethod yX4_init, Cond.code yX4_init cX4_init 3 none, Cond.methodLink RX4 1 objectInit, Cond.fieldLink RX4 7 "TeaRace$Sight" "cell" "I", Cond.fieldLink RX4 13 "TeaRace$Sight" "hour" "I", Cond.methodLink RL 88 yX6_sight, Cond.instanceMethod yX6_sight, Cond.selects RX6 yX6_sight yX6_sight, Cond.code yX6_sight cX6_sight 6 (some .int), Cond.fieldLink RX6 168 "TeaRaceModel" "sights" "I", Cond.methodLink RL 89 yX5_distance, Cond.instanceMethod yX5_distance, Cond.selects RX5 yX5_distance yX5_distance, Cond.code yX5_distance cX5_distance 5 (some .int), Cond.methodLink RX5 206 yX5_mostDistance]
def wsL_law_r27 : List Cond := [Cond.instanceMethod yX5_mostDistance, Cond.selects RX5 yX5_mostDistance yX5_mostDistance, Cond.code yX5_mostDistance cX5_mostDistance 7 (some .int), Cond.fieldLink RX5 298 "TeaRace$Sight" "cell" "I", Cond.fieldLink RX5 302 "TeaRace$Sight" "hour" "I", Cond.methodLink RX5 291 yX3_lastSightBy, Cond.instanceMethod yX3_lastSightBy, Cond.selects RX3 yX3_lastSightBy yX3_lastSightBy, Cond.code yX3_lastSightBy cX3_lastSightBy 5 (some (.object "TeaRace$Sight")), Cond.methodLink RX5 295 yX3_firstSightFrom, Cond.methodLink RX5 299 yX5_distanceFromHome, Cond.instanceMethod yX5_distanceFromHome, Cond.selects RX5 yX5_distanceFromHome yX5_distanceFromHome, Cond.code yX5_distanceFromHome cX5_distanceFromHome 4 (some .int), Cond.methodLink RX5 288 Lib.Math.max.name, Cond.methodLink RX5 210 yX5_leastDistance, Cond.instanceMethod yX5_leastDistance, Cond.selects RX5 yX5_leastDistance yX5_leastDistance, Cond.code yX5_leastDistance cX5_leastDistance 7 (some .int), Cond.methodLink RL 93 yX6_distance, Cond.instanceMethod yX6_distance, Cond.selects RX6 yX6_distance yX6_distance, Cond.code yX6_distance cX6_distance 4 (some .int), Cond.methodLink RX6 177 yX6_distanceOf]
def wsL_law_r28 : List Cond := [Cond.instanceMethod yX6_distanceOf, Cond.selects RX6 yX6_distanceOf yX6_distanceOf, Cond.code yX6_distanceOf cX6_distanceOf 11 (some .int), Cond.methodLink RX6 174 yX6_farOf, Cond.instanceMethod yX6_farOf, Cond.selects RX6 yX6_farOf yX6_farOf, Cond.code yX6_farOf cX6_farOf 4 (some .int), Cond.methodLink RX6 171 yX6_apart, Cond.static yX6_apart, Cond.code yX6_apart cX6_apart 2 (some .int), Cond.methodLink RL 94 yX5_ahead, Cond.instanceMethod yX5_ahead, Cond.selects RX5 yX5_ahead yX5_ahead, Cond.code yX5_ahead cX5_ahead 6 (some .int), Cond.methodLink RX5 213 yX3_isSeenAround, Cond.instanceMethod yX3_isSeenAround, Cond.selects RX3 yX3_isSeenAround yX3_isSeenAround, Cond.code yX3_isSeenAround cX3_isSeenAround 2 (some .boolean), Cond.methodLink RX3 98 yX3_lastSightBy, Cond.methodLink RL 97 yX6_ahead, Cond.instanceMethod yX6_ahead, Cond.selects RX6 yX6_ahead yX6_ahead, Cond.code yX6_ahead cX6_ahead 6 (some .int), Cond.methodLink RL 98 yX5_charter]
def wsL_law_r29 : List Cond := [Cond.instanceMethod yX5_charter, Cond.selects RX5 yX5_charter yX5_charter, Cond.code yX5_charter cX5_charter 5 (some .int), Cond.fieldLink RX5 216 "TeaRace$Ship" "rate" "I", Cond.fieldLink RX5 219 "TeaRace$Ship" "premium" "I", Cond.methodLink RL 101 yX6_charter, Cond.instanceMethod yX6_charter, Cond.selects RX6 yX6_charter yX6_charter, Cond.code yX6_charter cX6_charter 4 (some .int), Cond.methodLink RL 102 yX5_freight, Cond.instanceMethod yX5_freight, Cond.selects RX5 yX5_freight yX5_freight, Cond.code yX5_freight cX5_freight 4 (some .int), Cond.methodLink RL 105 yX6_freight, Cond.instanceMethod yX6_freight, Cond.selects RX6 yX6_freight yX6_freight, Cond.code yX6_freight cX6_freight 2 (some .int), Cond.methodLink RL 106 yX5_market, Cond.instanceMethod yX5_market, Cond.selects RX5 yX5_market yX5_market, Cond.code yX5_market cX5_market 3 (some .int), Cond.methodLink RL 109 yX6_market, Cond.instanceMethod yX6_market, Cond.selects RX6 yX6_market yX6_market]
def wsL_law_r30 : List Cond := [Cond.code yX6_market cX6_market 3 (some .int), Cond.methodLink RL 110 yX5_sale, Cond.instanceMethod yX5_sale, Cond.selects RX5 yX5_sale yX5_sale, Cond.code yX5_sale cX5_sale 3 (some .int), Cond.methodLink RX5 226 yX5_takings, Cond.instanceMethod yX5_takings, Cond.selects RX5 yX5_takings yX5_takings, Cond.code yX5_takings cX5_takings 2 (some .long), Cond.methodLink RX5 230 yX5_priceAtEntry, Cond.instanceMethod yX5_priceAtEntry, Cond.selects RX5 yX5_priceAtEntry yX5_priceAtEntry, Cond.code yX5_priceAtEntry cX5_priceAtEntry 5 (some .int), Cond.methodLink RX5 303 yX3_entersBefore, Cond.instanceMethod yX3_entersBefore, Cond.selects RX3 yX3_entersBefore yX3_entersBefore, Cond.code yX3_entersBefore cX3_entersBefore 2 (some .boolean), Cond.methodLink RL 113 yX6_sale, Cond.instanceMethod yX6_sale, Cond.selects RX6 yX6_sale yX6_sale, Cond.code yX6_sale cX6_sale 3 (some .int), Cond.fieldLink RX6 184 "TeaRaceModel" "asked" "J", Cond.methodLink RX6 181 yX6_priceFor, Cond.instanceMethod yX6_priceFor]
def wsL_law_r31 : List Cond := [Cond.selects RX6 yX6_priceFor yX6_priceFor, Cond.code yX6_priceFor cX6_priceFor 5 (some .int), Cond.methodLink RL 114 yX5_meanPrice, Cond.instanceMethod yX5_meanPrice, Cond.selects RX5 yX5_meanPrice yX5_meanPrice, Cond.code yX5_meanPrice cX5_meanPrice 7 (some .int), Cond.methodLink RL 117 yX6_meanPrice, Cond.instanceMethod yX6_meanPrice, Cond.selects RX6 yX6_meanPrice yX6_meanPrice, Cond.code yX6_meanPrice cX6_meanPrice 6 (some .int), Cond.methodLink RL 118 yX5_asked, Cond.instanceMethod yX5_asked, Cond.selects RX5 yX5_asked yX5_asked, Cond.code yX5_asked cX5_asked 1 (some .long), Cond.methodLink RL 122 yX6_asked, Cond.instanceMethod yX6_asked, Cond.selects RX6 yX6_asked yX6_asked, Cond.code yX6_asked cX6_asked 1 (some .long), Cond.methodLink RL 123 yX5_count, Cond.instanceMethod yX5_count, Cond.selects RX5 yX5_count yX5_count, Cond.code yX5_count cX5_count 2 (some .int), Cond.methodLink RX5 234 yX2_chartsThere, Cond.instanceMethod yX2_chartsThere]
def wsL_law_r32 : List Cond := [Cond.selects RX2 yX2_chartsThere yX2_chartsThere, Cond.code yX2_chartsThere cX2_chartsThere 3 (some .int), Cond.methodLink RL 126 yX6_count, Cond.instanceMethod yX6_count, Cond.selects RX6 yX6_count yX6_count, Cond.code yX6_count cX6_count 2 (some .int), Cond.methodLink RX6 188 yX6_tellsCount, Cond.instanceMethod yX6_tellsCount, Cond.selects RX6 yX6_tellsCount yX6_tellsCount, Cond.code yX6_tellsCount cX6_tellsCount 4 (some .int), Cond.methodLink RL 127 yX5_finding, Cond.instanceMethod yX5_finding, Cond.selects RX5 yX5_finding yX5_finding, Cond.code yX5_finding cX5_finding 1 (some .int), Cond.methodLink RL 130 yX6_finding, Cond.instanceMethod yX6_finding, Cond.selects RX6 yX6_finding yX6_finding, Cond.code yX6_finding cX6_finding 1 (some .int), Cond.methodLink RL 131 yX5_findings, Cond.instanceMethod yX5_findings, Cond.selects RX5 yX5_findings yX5_findings, Cond.code yX5_findings cX5_findings 2 (some .int), Cond.methodLink RL 134 yX6_findings, Cond.instanceMethod yX6_findings]
def wsL_law_r33 : List Cond := [Cond.selects RX6 yX6_findings yX6_findings, Cond.code yX6_findings cX6_findings 2 (some .int), Cond.methodLink RL 135 yX5_digest, Cond.instanceMethod yX5_digest, Cond.selects RX5 yX5_digest yX5_digest, Cond.code yX5_digest cX5_digest 5 (some .long), Cond.constantLong RX5 237 (17), Cond.constantLong RX5 239 (31), Cond.methodLink RX5 241 yX5_count, Cond.methodLink RX5 244 yX5_told, Cond.methodLink RX5 247 yX2_digestChart, Cond.instanceMethod yX2_digestChart, Cond.selects RX2 yX2_digestChart yX2_digestChart, Cond.code yX2_digestChart cX2_digestChart 7 (some .long), Cond.constantLong RX2 53 (31), Cond.methodLink RX2 55 yX2_drawnAt, Cond.methodLink RL 138 yX6_digest, Cond.instanceMethod yX6_digest, Cond.selects RX6 yX6_digest yX6_digest, Cond.code yX6_digest cX6_digest 5 (some .long), Cond.constantLong RX6 191 (17), Cond.constantLong RX6 193 (31)]
def wsL_law : List Cond := (wsL_law_r1 ++ (wsL_law_r2 ++ (wsL_law_r3 ++ (wsL_law_r4 ++ (wsL_law_r5 ++ (wsL_law_r6 ++ (wsL_law_r7 ++ (wsL_law_r8 ++ (wsL_law_r9 ++ (wsL_law_r10 ++ (wsL_law_r11 ++ (wsL_law_r12 ++ (wsL_law_r13 ++ (wsL_law_r14 ++ (wsL_law_r15 ++ (wsL_law_r16 ++ (wsL_law_r17 ++ (wsL_law_r18 ++ (wsL_law_r19 ++ (wsL_law_r20 ++ (wsL_law_r21 ++ (wsL_law_r22 ++ (wsL_law_r23 ++ (wsL_law_r24 ++ (wsL_law_r25 ++ (wsL_law_r26 ++ (wsL_law_r27 ++ (wsL_law_r28 ++ (wsL_law_r29 ++ (wsL_law_r30 ++ (wsL_law_r31 ++ (wsL_law_r32 ++ wsL_law_r33)))))))))))))))))))))))))))))))) ++ wsX50 ++ wsX60 ++ wsX20 ++ wsX10 ++ wsJx4a65c0 ++ wsX30 ++ wsX00 ++ wsX40 ++ ([] : List Cond)
set_option maxRecDepth 20000 in
theorem wsL_law_in : ∀ w ∈ wsL_law, w ∈ lw_tbl := fun w h => (goodIn_p wsL_law [60, 63, 68, 88, 102, 105, 108, 717, 164, 167, 171, 176, 816, 819, 822, 180, 184, 188, 191, 826, 829, 195, 199, 203, 208, 833, 837, 841, 212, 216, 845, 220, 224, 849, 231, 235, 238, 854, 857, 242, 246, 256, 261, 330, 334, 338, 342, 348, 345, 352, 355, 370, 376, 861, 383, 387, 396, 399, 402, 406, 865, 869, 410, 873, 877, 881, 414, 418, 422, 425, 428, 434, 438, 885, 889, 443, 893, 896, 447, 450, 455, 900, 480, 904, 484, 489, 493, 497, 500, 503, 507, 516, 519, 523, 527, 536, 540, 908, 913, 917, 921, 925, 928, 932, 544, 548, 552, 936, 940, 556, 561, 566, 570, 574, 582, 586, 944, 949, 590, 594, 598, 604, 953, 619, 623, 627, 632, 637, 957, 961, 965, 968, 641, 645, 972, 650, 976, 654, 980, 658, 984, 662, 666, 670, 674, 988, 992, 678, 996, 682, 1000, 686, 690, 1004, 1008, 694, 1012, 698, 1016, 702, 710, 1020] (by decide +kernel) (by decide +kernel) w h).1
theorem inlX0 : ∀ w ∈ wsX00, w ∈ wsL_law := fun _ h => List.mem_append_left _ (List.mem_append_left _ (List.mem_append_right _ h))
theorem inX0 : ∀ w ∈ wsX00, w ∈ lw_tbl := fun w h => wsL_law_in w (inlX0 w h)
theorem inlX1 : ∀ w ∈ wsX10, w ∈ wsL_law := fun _ h => List.mem_append_left _ (List.mem_append_left _ (List.mem_append_left _ (List.mem_append_left _ (List.mem_append_left _ (List.mem_append_right _ h)))))
theorem inX1 : ∀ w ∈ wsX10, w ∈ lw_tbl := fun w h => wsL_law_in w (inlX1 w h)
theorem inlX2 : ∀ w ∈ wsX20, w ∈ wsL_law := fun _ h => List.mem_append_left _ (List.mem_append_left _ (List.mem_append_left _ (List.mem_append_left _ (List.mem_append_left _ (List.mem_append_left _ (List.mem_append_right _ h))))))
theorem inX2 : ∀ w ∈ wsX20, w ∈ lw_tbl := fun w h => wsL_law_in w (inlX2 w h)
theorem inlX3 : ∀ w ∈ wsX30, w ∈ wsL_law := fun _ h => List.mem_append_left _ (List.mem_append_left _ (List.mem_append_left _ (List.mem_append_right _ h)))
theorem inX3 : ∀ w ∈ wsX30, w ∈ lw_tbl := fun w h => wsL_law_in w (inlX3 w h)
theorem inlX4 : ∀ w ∈ wsX40, w ∈ wsL_law := fun _ h => List.mem_append_left _ (List.mem_append_right _ h)
theorem inX4 : ∀ w ∈ wsX40, w ∈ lw_tbl := fun w h => wsL_law_in w (inlX4 w h)
theorem inlX5 : ∀ w ∈ wsX50, w ∈ wsL_law := fun _ h => List.mem_append_left _ (List.mem_append_left _ (List.mem_append_left _ (List.mem_append_left _ (List.mem_append_left _ (List.mem_append_left _ (List.mem_append_left _ (List.mem_append_left _ (List.mem_append_right _ h))))))))
theorem inX5 : ∀ w ∈ wsX50, w ∈ lw_tbl := fun w h => wsL_law_in w (inlX5 w h)
theorem inlX6 : ∀ w ∈ wsX60, w ∈ wsL_law := fun _ h => List.mem_append_left _ (List.mem_append_left _ (List.mem_append_left _ (List.mem_append_left _ (List.mem_append_left _ (List.mem_append_left _ (List.mem_append_left _ (List.mem_append_right _ h)))))))
theorem inX6 : ∀ w ∈ wsX60, w ∈ lw_tbl := fun w h => wsL_law_in w (inlX6 w h)
theorem inJx145de : ∀ w ∈ wsJx145de0, w ∈ lw_tbl := by decide +kernel
theorem inJx8e188 : ∀ w ∈ wsJx8e1880, w ∈ lw_tbl := by decide +kernel
theorem inJxab1ab : ∀ w ∈ wsJxab1ab0, w ∈ lw_tbl := by decide +kernel
theorem inJ9 : ∀ w ∈ wsJ90, w ∈ lw_tbl := by decide +kernel
theorem inJ10 : ∀ w ∈ wsJ100, w ∈ lw_tbl := by decide +kernel
theorem inJxa1e45 : ∀ w ∈ wsJxa1e450, w ∈ lw_tbl := by decide +kernel
theorem inJxc12de : ∀ w ∈ wsJxc12de0, w ∈ lw_tbl := by decide +kernel
theorem inlJx4a65c : ∀ w ∈ wsJx4a65c0, w ∈ wsL_law := fun _ h => List.mem_append_left _ (List.mem_append_left _ (List.mem_append_left _ (List.mem_append_left _ (List.mem_append_right _ h))))
theorem inJx4a65c : ∀ w ∈ wsJx4a65c0, w ∈ lw_tbl := fun w h => wsL_law_in w (inlJx4a65c w h)
theorem inJ7 : ∀ w ∈ wsJ70, w ∈ lw_tbl := by decide +kernel
theorem inJx5ef63 : ∀ w ∈ wsJx5ef630, w ∈ lw_tbl := by decide +kernel
theorem inJxbd725 : ∀ w ∈ wsJxbd7250, w ∈ lw_tbl := by decide +kernel
theorem inJ15 : ∀ w ∈ wsJ150, w ∈ lw_tbl := by decide +kernel
theorem inJxf0a74 : ∀ w ∈ wsJxf0a740, w ∈ lw_tbl := by decide +kernel
theorem inJxa66e6 : ∀ w ∈ wsJxa66e60, w ∈ lw_tbl := by decide +kernel
theorem inJ8 : ∀ w ∈ wsJ80, w ∈ lw_tbl := by decide +kernel
theorem inJ3 : ∀ w ∈ wsJ30, w ∈ lw_tbl := by decide +kernel
theorem dX0_init_0 : decode cX0_init 0 = .ok (.aload_n 0, 1) := by decide +kernel
theorem dX0_init_1 : decode cX0_init 1 = .ok (.invokespecial 3, 3) := by decide +kernel
theorem dX0_init_4 : decode cX0_init 4 = .ok (.aload_n 0, 1) := by decide +kernel
theorem dX0_init_5 : decode cX0_init 5 = .ok (.iload_n 1, 1) := by decide +kernel
theorem dX0_init_6 : decode cX0_init 6 = .ok (.putfield 9, 3) := by decide +kernel
theorem dX0_init_9 : decode cX0_init 9 = .ok (.aload_n 0, 1) := by decide +kernel
theorem dX0_init_10 : decode cX0_init 10 = .ok (.iload_n 2, 1) := by decide +kernel
theorem dX0_init_11 : decode cX0_init 11 = .ok (.putfield 15, 3) := by decide +kernel
theorem dX0_init_14 : decode cX0_init 14 = .ok (.aload_n 0, 1) := by decide +kernel
theorem dX0_init_15 : decode cX0_init 15 = .ok (.iload_n 3, 1) := by decide +kernel
theorem dX0_init_16 : decode cX0_init 16 = .ok (.putfield 18, 3) := by decide +kernel
theorem dX0_init_19 : decode cX0_init 19 = .ok (.aload_n 0, 1) := by decide +kernel
theorem dX0_init_20 : decode cX0_init 20 = .ok (.iload 4, 2) := by decide +kernel
theorem dX0_init_22 : decode cX0_init 22 = .ok (.putfield 21, 3) := by decide +kernel
theorem dX0_init_25 : decode cX0_init 25 = .ok (.aload_n 0, 1) := by decide +kernel
theorem dX0_init_26 : decode cX0_init 26 = .ok (.iload 5, 2) := by decide +kernel
theorem dX0_init_28 : decode cX0_init 28 = .ok (.putfield 24, 3) := by decide +kernel
theorem dX0_init_31 : decode cX0_init 31 = .ok (.aload_n 0, 1) := by decide +kernel
theorem dX0_init_32 : decode cX0_init 32 = .ok (.iload 6, 2) := by decide +kernel
theorem dX0_init_34 : decode cX0_init 34 = .ok (.putfield 27, 3) := by decide +kernel
theorem dX0_init_37 : decode cX0_init 37 = .ok (.return_, 1) := by decide +kernel
theorem dX0_fits_0 : decode cX0_fits 0 = .ok (.iload_n 1, 1) := by decide +kernel
theorem dX0_fits_1 : decode cX0_fits 1 = .ok (.bipush 16, 2) := by decide +kernel
theorem dX0_fits_3 : decode cX0_fits 3 = .ok (.irem, 1) := by decide +kernel
theorem dX0_fits_4 : decode cX0_fits 4 = .ok (.istore_n 3, 1) := by decide +kernel
theorem dX0_fits_5 : decode cX0_fits 5 = .ok (.iload_n 1, 1) := by decide +kernel
theorem dX0_fits_6 : decode cX0_fits 6 = .ok (.bipush 16, 2) := by decide +kernel
theorem dX0_fits_8 : decode cX0_fits 8 = .ok (.idiv, 1) := by decide +kernel
theorem dX0_fits_9 : decode cX0_fits 9 = .ok (.istore 4, 2) := by decide +kernel
theorem dX0_fits_11 : decode cX0_fits 11 = .ok (.iload_n 3, 1) := by decide +kernel
theorem dX0_fits_12 : decode cX0_fits 12 = .ok (.aload_n 0, 1) := by decide +kernel
theorem dX0_fits_13 : decode cX0_fits 13 = .ok (.getfield 9, 3) := by decide +kernel
theorem dX0_fits_16 : decode cX0_fits 16 = .ok (.if_icmp .lt 41, 3) := by decide +kernel
theorem dX0_fits_19 : decode cX0_fits 19 = .ok (.iload_n 3, 1) := by decide +kernel
theorem dX0_fits_20 : decode cX0_fits 20 = .ok (.aload_n 0, 1) := by decide +kernel
theorem dX0_fits_21 : decode cX0_fits 21 = .ok (.getfield 15, 3) := by decide +kernel
theorem dX0_fits_24 : decode cX0_fits 24 = .ok (.if_icmp .gt 33, 3) := by decide +kernel
theorem dX0_fits_27 : decode cX0_fits 27 = .ok (.iload 4, 2) := by decide +kernel
theorem dX0_fits_29 : decode cX0_fits 29 = .ok (.aload_n 0, 1) := by decide +kernel
theorem dX0_fits_30 : decode cX0_fits 30 = .ok (.getfield 18, 3) := by decide +kernel
theorem dX0_fits_33 : decode cX0_fits 33 = .ok (.if_icmp .lt 24, 3) := by decide +kernel
theorem dX0_fits_36 : decode cX0_fits 36 = .ok (.iload 4, 2) := by decide +kernel
theorem dX0_fits_38 : decode cX0_fits 38 = .ok (.aload_n 0, 1) := by decide +kernel
theorem dX0_fits_39 : decode cX0_fits 39 = .ok (.getfield 21, 3) := by decide +kernel
theorem dX0_fits_42 : decode cX0_fits 42 = .ok (.if_icmp .gt 15, 3) := by decide +kernel
theorem dX0_fits_45 : decode cX0_fits 45 = .ok (.iload_n 2, 1) := by decide +kernel
theorem dX0_fits_46 : decode cX0_fits 46 = .ok (.aload_n 0, 1) := by decide +kernel
theorem dX0_fits_47 : decode cX0_fits 47 = .ok (.getfield 24, 3) := by decide +kernel
theorem dX0_fits_50 : decode cX0_fits 50 = .ok (.if_icmp .lt 7, 3) := by decide +kernel
theorem dX0_fits_53 : decode cX0_fits 53 = .ok (.iconst 1, 1) := by decide +kernel
theorem dX0_fits_54 : decode cX0_fits 54 = .ok (.goto 4, 3) := by decide +kernel
theorem dX0_fits_57 : decode cX0_fits 57 = .ok (.iconst 0, 1) := by decide +kernel
theorem dX0_fits_58 : decode cX0_fits 58 = .ok (.ireturn, 1) := by decide +kernel
theorem dX1_init_0 : decode cX1_init 0 = .ok (.aload_n 0, 1) := by decide +kernel
theorem dX1_init_1 : decode cX1_init 1 = .ok (.invokespecial 3, 3) := by decide +kernel
theorem dX1_init_4 : decode cX1_init 4 = .ok (.aload_n 0, 1) := by decide +kernel
theorem dX1_init_5 : decode cX1_init 5 = .ok (.sipush 160, 3) := by decide +kernel
theorem dX1_init_8 : decode cX1_init 8 = .ok (.newarray .int, 2) := by decide +kernel
theorem dX1_init_10 : decode cX1_init 10 = .ok (.putfield 9, 3) := by decide +kernel
theorem dX1_init_13 : decode cX1_init 13 = .ok (.aload_n 0, 1) := by decide +kernel
theorem dX1_init_14 : decode cX1_init 14 = .ok (.sipush 160, 3) := by decide +kernel
theorem dX1_init_17 : decode cX1_init 17 = .ok (.newarray .boolean, 2) := by decide +kernel
theorem dX1_init_19 : decode cX1_init 19 = .ok (.putfield 15, 3) := by decide +kernel
theorem dX1_init_22 : decode cX1_init 22 = .ok (.return_, 1) := by decide +kernel
set_option maxRecDepth 20000 in
theorem ggX1_leastHours_X5_outside : GoodIn wsX1_leastHours wsX5_outside := goodIn_r _ [5] (by decide +kernel) (by decide +kernel)
set_option maxRecDepth 20000 in
theorem gX1_leastHours_X5_outside_n19 : GoodIn wsX1_leastHours (wsX5_outside) := ggX1_leastHours_X5_outside
set_option maxRecDepth 20000 in
theorem ggX1_leastHours_X1_earliestCell : GoodIn wsX1_leastHours wsX1_earliestCell := goodIn_r _ [10, 2, 1, 79, 80] (by decide +kernel) (by decide +kernel)
set_option maxRecDepth 20000 in
theorem gX1_leastHours_X1_earliestCell : GoodIn wsX1_leastHours (wsV RX1 23 RX1 yX1_earliestCell wsX1_earliestCell) := goodIn_app (goodIn_of _ (by decide +kernel)) ggX1_leastHours_X1_earliestCell
set_option maxRecDepth 20000 in
theorem ggX1_leastHours_X1_leave : GoodIn wsX1_leastHours wsX1_leave := goodIn_r _ [14, 2, 1, 3, 4, 5, 15, 16, 17, 18, 19, 20, 21, 22, 23, 24, 25, 26, 9, 27, 28, 29, 30, 31, 32, 33, 34, 35, 36, 37, 38, 39, 40, 41, 42, 43, 44, 45, 46, 47, 48, 49, 50, 51, 52, 53, 54, 55, 56, 57, 58, 59, 60, 61, 62, 63, 64, 65, 66, 67, 68, 69, 70, 71, 72, 73, 74, 75, 76, 77, 78, 79, 80, 81, 82, 83, 84, 85, 86, 87, 88, 89, 90, 91, 92, 93, 94, 95, 96, 97] (by decide +kernel) (by decide +kernel)
set_option maxRecDepth 20000 in
theorem gX1_leastHours_X1_leave : GoodIn wsX1_leastHours (wsV RX1 27 RX1 yX1_leave wsX1_leave) := goodIn_app (goodIn_of _ (by decide +kernel)) ggX1_leastHours_X1_leave
theorem dX1_leastHours_0 : decode cX1_leastHours 0 = .ok (.iload_n 3, 1) := by decide +kernel
theorem dX1_leastHours_1 : decode cX1_leastHours 1 = .ok (.sipush 159, 3) := by decide +kernel
theorem dX1_leastHours_4 : decode cX1_leastHours 4 = .ok (.invokestatic 19, 3) := by decide +kernel
theorem dX1_leastHours_7 : decode cX1_leastHours 7 = .ok (.ifCond .ne 14, 3) := by decide +kernel
theorem dX1_leastHours_10 : decode cX1_leastHours 10 = .ok (.iload 4, 2) := by decide +kernel
theorem dX1_leastHours_12 : decode cX1_leastHours 12 = .ok (.sipush 159, 3) := by decide +kernel
theorem dX1_leastHours_15 : decode cX1_leastHours 15 = .ok (.invokestatic 19, 3) := by decide +kernel
theorem dX1_leastHours_18 : decode cX1_leastHours 18 = .ok (.ifCond .eq 6, 3) := by decide +kernel
theorem dX1_leastHours_21 : decode cX1_leastHours 21 = .ok (.bipush (-9), 2) := by decide +kernel
theorem dX1_leastHours_23 : decode cX1_leastHours 23 = .ok (.ireturn, 1) := by decide +kernel
theorem dX1_leastHours_24 : decode cX1_leastHours 24 = .ok (.iconst 0, 1) := by decide +kernel
theorem dX1_leastHours_25 : decode cX1_leastHours 25 = .ok (.istore 6, 2) := by decide +kernel
theorem dX1_leastHours_27 : decode cX1_leastHours 27 = .ok (.iload 6, 2) := by decide +kernel
theorem dX1_leastHours_29 : decode cX1_leastHours 29 = .ok (.sipush 160, 3) := by decide +kernel
theorem dX1_leastHours_32 : decode cX1_leastHours 32 = .ok (.if_icmp .ge 37, 3) := by decide +kernel
theorem dX1_leastHours_35 : decode cX1_leastHours 35 = .ok (.aload_n 0, 1) := by decide +kernel
theorem dX1_leastHours_36 : decode cX1_leastHours 36 = .ok (.getfield 9, 3) := by decide +kernel
theorem dX1_leastHours_39 : decode cX1_leastHours 39 = .ok (.iload 6, 2) := by decide +kernel
theorem dX1_leastHours_41 : decode cX1_leastHours 41 = .ok (.iload 6, 2) := by decide +kernel
theorem dX1_leastHours_43 : decode cX1_leastHours 43 = .ok (.iload_n 3, 1) := by decide +kernel
theorem dX1_leastHours_44 : decode cX1_leastHours 44 = .ok (.if_icmp .ne 7, 3) := by decide +kernel
theorem dX1_leastHours_47 : decode cX1_leastHours 47 = .ok (.iconst 0, 1) := by decide +kernel
theorem dX1_leastHours_48 : decode cX1_leastHours 48 = .ok (.goto 6, 3) := by decide +kernel
theorem dX1_leastHours_51 : decode cX1_leastHours 51 = .ok (.sipush 2001, 3) := by decide +kernel
theorem dX1_leastHours_54 : decode cX1_leastHours 54 = .ok (.iastore, 1) := by decide +kernel
theorem dX1_leastHours_55 : decode cX1_leastHours 55 = .ok (.aload_n 0, 1) := by decide +kernel
theorem dX1_leastHours_56 : decode cX1_leastHours 56 = .ok (.getfield 15, 3) := by decide +kernel
theorem dX1_leastHours_59 : decode cX1_leastHours 59 = .ok (.iload 6, 2) := by decide +kernel
theorem dX1_leastHours_61 : decode cX1_leastHours 61 = .ok (.iconst 0, 1) := by decide +kernel
theorem dX1_leastHours_62 : decode cX1_leastHours 62 = .ok (.bastore, 1) := by decide +kernel
theorem dX1_leastHours_63 : decode cX1_leastHours 63 = .ok (.iinc 6 1, 3) := by decide +kernel
theorem dX1_leastHours_66 : decode cX1_leastHours 66 = .ok (.goto (-39), 3) := by decide +kernel
theorem dX1_leastHours_69 : decode cX1_leastHours 69 = .ok (.iconst 0, 1) := by decide +kernel
theorem dX1_leastHours_70 : decode cX1_leastHours 70 = .ok (.istore 6, 2) := by decide +kernel
theorem dX1_leastHours_72 : decode cX1_leastHours 72 = .ok (.iload 6, 2) := by decide +kernel
theorem dX1_leastHours_74 : decode cX1_leastHours 74 = .ok (.sipush 160, 3) := by decide +kernel
theorem dX1_leastHours_77 : decode cX1_leastHours 77 = .ok (.if_icmp .ge 42, 3) := by decide +kernel
theorem dX1_leastHours_80 : decode cX1_leastHours 80 = .ok (.aload_n 0, 1) := by decide +kernel
theorem dX1_leastHours_81 : decode cX1_leastHours 81 = .ok (.invokevirtual 23, 3) := by decide +kernel
theorem dX1_leastHours_84 : decode cX1_leastHours 84 = .ok (.istore 7, 2) := by decide +kernel
theorem dX1_leastHours_86 : decode cX1_leastHours 86 = .ok (.iload 7, 2) := by decide +kernel
theorem dX1_leastHours_88 : decode cX1_leastHours 88 = .ok (.bipush (-9), 2) := by decide +kernel
theorem dX1_leastHours_90 : decode cX1_leastHours 90 = .ok (.if_icmp .eq 29, 3) := by decide +kernel
theorem dX1_leastHours_93 : decode cX1_leastHours 93 = .ok (.iload 7, 2) := by decide +kernel
theorem dX1_leastHours_95 : decode cX1_leastHours 95 = .ok (.iload 4, 2) := by decide +kernel
theorem dX1_leastHours_97 : decode cX1_leastHours 97 = .ok (.if_icmp .ne 6, 3) := by decide +kernel
theorem dX1_leastHours_100 : decode cX1_leastHours 100 = .ok (.goto 19, 3) := by decide +kernel
theorem dX1_leastHours_103 : decode cX1_leastHours 103 = .ok (.aload_n 0, 1) := by decide +kernel
theorem dX1_leastHours_104 : decode cX1_leastHours 104 = .ok (.aload_n 1, 1) := by decide +kernel
theorem dX1_leastHours_105 : decode cX1_leastHours 105 = .ok (.aload_n 2, 1) := by decide +kernel
theorem dX1_leastHours_106 : decode cX1_leastHours 106 = .ok (.iload 7, 2) := by decide +kernel
theorem dX1_leastHours_108 : decode cX1_leastHours 108 = .ok (.iload 5, 2) := by decide +kernel
theorem dX1_leastHours_110 : decode cX1_leastHours 110 = .ok (.invokevirtual 27, 3) := by decide +kernel
theorem dX1_leastHours_113 : decode cX1_leastHours 113 = .ok (.iinc 6 1, 3) := by decide +kernel
theorem dX1_leastHours_116 : decode cX1_leastHours 116 = .ok (.goto (-44), 3) := by decide +kernel
theorem dX1_leastHours_119 : decode cX1_leastHours 119 = .ok (.aload_n 0, 1) := by decide +kernel
theorem dX1_leastHours_120 : decode cX1_leastHours 120 = .ok (.getfield 9, 3) := by decide +kernel
theorem dX1_leastHours_123 : decode cX1_leastHours 123 = .ok (.iload 4, 2) := by decide +kernel
theorem dX1_leastHours_125 : decode cX1_leastHours 125 = .ok (.iaload, 1) := by decide +kernel
theorem dX1_leastHours_126 : decode cX1_leastHours 126 = .ok (.sipush 2001, 3) := by decide +kernel
theorem dX1_leastHours_129 : decode cX1_leastHours 129 = .ok (.if_icmp .ne 8, 3) := by decide +kernel
theorem dX1_leastHours_132 : decode cX1_leastHours 132 = .ok (.bipush (-9), 2) := by decide +kernel
theorem dX1_leastHours_134 : decode cX1_leastHours 134 = .ok (.goto 10, 3) := by decide +kernel
theorem dX1_leastHours_137 : decode cX1_leastHours 137 = .ok (.aload_n 0, 1) := by decide +kernel
theorem dX1_leastHours_138 : decode cX1_leastHours 138 = .ok (.getfield 9, 3) := by decide +kernel
theorem dX1_leastHours_141 : decode cX1_leastHours 141 = .ok (.iload 4, 2) := by decide +kernel
theorem dX1_leastHours_143 : decode cX1_leastHours 143 = .ok (.iaload, 1) := by decide +kernel
theorem dX1_leastHours_144 : decode cX1_leastHours 144 = .ok (.ireturn, 1) := by decide +kernel
set_option maxRecDepth 20000 in
theorem ggX1_leave_X5_outside : GoodIn wsX1_leave wsX5_outside := goodIn_r _ [5] (by decide +kernel) (by decide +kernel)
set_option maxRecDepth 20000 in
theorem gX1_leave_X5_outside_n19 : GoodIn wsX1_leave (wsX5_outside) := ggX1_leave_X5_outside
set_option maxRecDepth 20000 in
theorem ggX1_leave_X2_nextCell : GoodIn wsX1_leave wsX2_nextCell := goodIn_r _ [10, 3, 4, 5, 11, 12, 13, 9, 14, 15, 73, 74, 75] (by decide +kernel) (by decide +kernel)
set_option maxRecDepth 20000 in
theorem gX1_leave_X2_nextCell : GoodIn wsX1_leave (wsV RX1 31 RX2 yX2_nextCell wsX2_nextCell) := goodIn_app (goodIn_of _ (by decide +kernel)) ggX1_leave_X2_nextCell
set_option maxRecDepth 20000 in
theorem ggX1_leave_X1_comingHour : GoodIn wsX1_leave wsX1_comingHour := goodIn_r _ [19, 20, 21, 22, 23, 24, 4, 25, 26, 27, 28, 29, 30, 31, 32, 33, 34, 9, 35, 36, 37, 3, 5, 38, 39, 40, 41, 42, 43, 44, 45, 46, 47, 48, 49, 50, 51, 52, 53, 54, 55, 56, 57, 58, 59, 60, 61, 62, 63, 64, 65, 18, 66, 73, 74, 75, 76, 77, 78, 79, 80, 81, 82, 83, 84, 85, 86, 87, 88, 89] (by decide +kernel) (by decide +kernel)
set_option maxRecDepth 20000 in
theorem gX1_leave_X1_comingHour : GoodIn wsX1_leave (va_wsS RX1 37 yX1_comingHour wsX1_comingHour) := goodIn_app (goodIn_of _ (by decide +kernel)) ggX1_leave_X1_comingHour
set_option maxRecDepth 20000 in
theorem ggX1_leave_X1_reach : GoodIn wsX1_leave wsX1_reach := goodIn_r _ [70, 2, 3, 4, 5, 71, 72] (by decide +kernel) (by decide +kernel)
set_option maxRecDepth 20000 in
theorem gX1_leave_X1_reach : GoodIn wsX1_leave (wsV RX1 41 RX1 yX1_reach wsX1_reach) := goodIn_app (goodIn_of _ (by decide +kernel)) ggX1_leave_X1_reach
theorem dX1_leave_0 : decode cX1_leave 0 = .ok (.iload_n 3, 1) := by decide +kernel
theorem dX1_leave_1 : decode cX1_leave 1 = .ok (.sipush 159, 3) := by decide +kernel
theorem dX1_leave_4 : decode cX1_leave 4 = .ok (.invokestatic 19, 3) := by decide +kernel
theorem dX1_leave_7 : decode cX1_leave 7 = .ok (.ifCond .eq 4, 3) := by decide +kernel
theorem dX1_leave_10 : decode cX1_leave 10 = .ok (.return_, 1) := by decide +kernel
theorem dX1_leave_11 : decode cX1_leave 11 = .ok (.aload_n 0, 1) := by decide +kernel
theorem dX1_leave_12 : decode cX1_leave 12 = .ok (.getfield 15, 3) := by decide +kernel
theorem dX1_leave_15 : decode cX1_leave 15 = .ok (.iload_n 3, 1) := by decide +kernel
theorem dX1_leave_16 : decode cX1_leave 16 = .ok (.iconst 1, 1) := by decide +kernel
theorem dX1_leave_17 : decode cX1_leave 17 = .ok (.bastore, 1) := by decide +kernel
theorem dX1_leave_18 : decode cX1_leave 18 = .ok (.iconst 0, 1) := by decide +kernel
theorem dX1_leave_19 : decode cX1_leave 19 = .ok (.istore 5, 2) := by decide +kernel
theorem dX1_leave_21 : decode cX1_leave 21 = .ok (.iload 5, 2) := by decide +kernel
theorem dX1_leave_23 : decode cX1_leave 23 = .ok (.bipush 8, 2) := by decide +kernel
theorem dX1_leave_25 : decode cX1_leave 25 = .ok (.if_icmp .ge 61, 3) := by decide +kernel
theorem dX1_leave_28 : decode cX1_leave 28 = .ok (.aload_n 1, 1) := by decide +kernel
theorem dX1_leave_29 : decode cX1_leave 29 = .ok (.iload_n 3, 1) := by decide +kernel
theorem dX1_leave_30 : decode cX1_leave 30 = .ok (.iload 5, 2) := by decide +kernel
theorem dX1_leave_32 : decode cX1_leave 32 = .ok (.invokevirtual 31, 3) := by decide +kernel
theorem dX1_leave_35 : decode cX1_leave 35 = .ok (.istore 6, 2) := by decide +kernel
theorem dX1_leave_37 : decode cX1_leave 37 = .ok (.iload 6, 2) := by decide +kernel
theorem dX1_leave_39 : decode cX1_leave 39 = .ok (.bipush (-9), 2) := by decide +kernel
theorem dX1_leave_41 : decode cX1_leave 41 = .ok (.if_icmp .eq 39, 3) := by decide +kernel
theorem dX1_leave_44 : decode cX1_leave 44 = .ok (.aload_n 1, 1) := by decide +kernel
theorem dX1_leave_45 : decode cX1_leave 45 = .ok (.aload_n 2, 1) := by decide +kernel
theorem dX1_leave_46 : decode cX1_leave 46 = .ok (.iload_n 3, 1) := by decide +kernel
theorem dX1_leave_47 : decode cX1_leave 47 = .ok (.iload 5, 2) := by decide +kernel
theorem dX1_leave_49 : decode cX1_leave 49 = .ok (.iload 4, 2) := by decide +kernel
theorem dX1_leave_51 : decode cX1_leave 51 = .ok (.aload_n 0, 1) := by decide +kernel
theorem dX1_leave_52 : decode cX1_leave 52 = .ok (.getfield 9, 3) := by decide +kernel
theorem dX1_leave_55 : decode cX1_leave 55 = .ok (.iload_n 3, 1) := by decide +kernel
theorem dX1_leave_56 : decode cX1_leave 56 = .ok (.iaload, 1) := by decide +kernel
theorem dX1_leave_57 : decode cX1_leave 57 = .ok (.iadd, 1) := by decide +kernel
theorem dX1_leave_58 : decode cX1_leave 58 = .ok (.iload 4, 2) := by decide +kernel
theorem dX1_leave_60 : decode cX1_leave 60 = .ok (.sipush 2000, 3) := by decide +kernel
theorem dX1_leave_63 : decode cX1_leave 63 = .ok (.iadd, 1) := by decide +kernel
theorem dX1_leave_64 : decode cX1_leave 64 = .ok (.invokestatic 37, 3) := by decide +kernel
theorem dX1_leave_67 : decode cX1_leave 67 = .ok (.istore 7, 2) := by decide +kernel
theorem dX1_leave_69 : decode cX1_leave 69 = .ok (.aload_n 0, 1) := by decide +kernel
theorem dX1_leave_70 : decode cX1_leave 70 = .ok (.iload 6, 2) := by decide +kernel
theorem dX1_leave_72 : decode cX1_leave 72 = .ok (.iload 7, 2) := by decide +kernel
theorem dX1_leave_74 : decode cX1_leave 74 = .ok (.iload 4, 2) := by decide +kernel
theorem dX1_leave_76 : decode cX1_leave 76 = .ok (.isub, 1) := by decide +kernel
theorem dX1_leave_77 : decode cX1_leave 77 = .ok (.invokevirtual 41, 3) := by decide +kernel
theorem dX1_leave_80 : decode cX1_leave 80 = .ok (.iinc 5 1, 3) := by decide +kernel
theorem dX1_leave_83 : decode cX1_leave 83 = .ok (.goto (-62), 3) := by decide +kernel
theorem dX1_leave_86 : decode cX1_leave 86 = .ok (.return_, 1) := by decide +kernel
set_option maxRecDepth 20000 in
theorem ggX1_comingHour_X5_needOf : GoodIn wsX1_comingHour wsX5_needOf := goodIn_r _ [7] (by decide +kernel) (by decide +kernel)
set_option maxRecDepth 20000 in
theorem gX1_comingHour_X5_needOf_n45 : GoodIn wsX1_comingHour (wsX5_needOf) := ggX1_comingHour_X5_needOf
set_option maxRecDepth 20000 in
theorem ggX1_comingHour_X5_monthOf : GoodIn wsX1_comingHour wsX5_monthOf := goodIn_r _ [9, 10, 11, 12, 13] (by decide +kernel) (by decide +kernel)
set_option maxRecDepth 20000 in
theorem gX1_comingHour_X5_monthOf_n54 : GoodIn wsX1_comingHour (wsX5_monthOf) := ggX1_comingHour_X5_monthOf
set_option maxRecDepth 20000 in
theorem ggX1_comingHour_X2_windIn : GoodIn wsX1_comingHour wsX2_windIn := goodIn_r _ [18, 19, 20, 21, 6, 22, 53, 54, 55] (by decide +kernel) (by decide +kernel)
set_option maxRecDepth 20000 in
theorem gX1_comingHour_X2_windIn : GoodIn wsX1_comingHour (wsV RX1 57 RX2 yX2_windIn wsX2_windIn) := goodIn_app (goodIn_of _ (by decide +kernel)) ggX1_comingHour_X2_windIn
set_option maxRecDepth 20000 in
theorem ggX1_comingHour_X3_speedIn : GoodIn wsX1_comingHour wsX3_speedIn := goodIn_r _ [27, 28, 29, 30, 2, 3, 4, 31, 6, 32, 33, 34, 35, 36, 37, 38, 39, 40, 41, 42, 43, 26, 44, 45, 46, 47, 48, 56, 57, 58, 59, 60, 61, 62, 63, 64, 65, 66, 67, 68, 69] (by decide +kernel) (by decide +kernel)
set_option maxRecDepth 20000 in
theorem gX1_comingHour_X3_speedIn : GoodIn wsX1_comingHour (wsV RX1 60 RX3 yX3_speedIn wsX3_speedIn) := goodIn_app (goodIn_of _ (by decide +kernel)) ggX1_comingHour_X3_speedIn
set_option maxRecDepth 20000 in
theorem ggX1_comingHour_X1_hoursFor : GoodIn wsX1_comingHour wsX1_hoursFor := goodIn_r _ [52] (by decide +kernel) (by decide +kernel)
set_option maxRecDepth 20000 in
theorem gX1_comingHour_X1_hoursFor : GoodIn wsX1_comingHour (va_wsS RX1 65 yX1_hoursFor wsX1_hoursFor) := goodIn_app (goodIn_of _ (by decide +kernel)) ggX1_comingHour_X1_hoursFor
theorem dX1_comingHour_0 : decode cX1_comingHour 0 = .ok (.iload_n 3, 1) := by decide +kernel
theorem dX1_comingHour_1 : decode cX1_comingHour 1 = .ok (.invokestatic 45, 3) := by decide +kernel
theorem dX1_comingHour_4 : decode cX1_comingHour 4 = .ok (.istore 6, 2) := by decide +kernel
theorem dX1_comingHour_6 : decode cX1_comingHour 6 = .ok (.iload 4, 2) := by decide +kernel
theorem dX1_comingHour_8 : decode cX1_comingHour 8 = .ok (.sipush 720, 3) := by decide +kernel
theorem dX1_comingHour_11 : decode cX1_comingHour 11 = .ok (.idiv, 1) := by decide +kernel
theorem dX1_comingHour_12 : decode cX1_comingHour 12 = .ok (.istore 7, 2) := by decide +kernel
theorem dX1_comingHour_14 : decode cX1_comingHour 14 = .ok (.iload 7, 2) := by decide +kernel
theorem dX1_comingHour_16 : decode cX1_comingHour 16 = .ok (.iload 5, 2) := by decide +kernel
theorem dX1_comingHour_18 : decode cX1_comingHour 18 = .ok (.sipush 720, 3) := by decide +kernel
theorem dX1_comingHour_21 : decode cX1_comingHour 21 = .ok (.idiv, 1) := by decide +kernel
theorem dX1_comingHour_22 : decode cX1_comingHour 22 = .ok (.if_icmp .gt 83, 3) := by decide +kernel
theorem dX1_comingHour_25 : decode cX1_comingHour 25 = .ok (.iload 4, 2) := by decide +kernel
theorem dX1_comingHour_27 : decode cX1_comingHour 27 = .ok (.iload 7, 2) := by decide +kernel
theorem dX1_comingHour_29 : decode cX1_comingHour 29 = .ok (.sipush 720, 3) := by decide +kernel
theorem dX1_comingHour_32 : decode cX1_comingHour 32 = .ok (.imul, 1) := by decide +kernel
theorem dX1_comingHour_33 : decode cX1_comingHour 33 = .ok (.invokestatic 49, 3) := by decide +kernel
theorem dX1_comingHour_36 : decode cX1_comingHour 36 = .ok (.istore 8, 2) := by decide +kernel
theorem dX1_comingHour_38 : decode cX1_comingHour 38 = .ok (.iload 7, 2) := by decide +kernel
theorem dX1_comingHour_40 : decode cX1_comingHour 40 = .ok (.iconst 1, 1) := by decide +kernel
theorem dX1_comingHour_41 : decode cX1_comingHour 41 = .ok (.iadd, 1) := by decide +kernel
theorem dX1_comingHour_42 : decode cX1_comingHour 42 = .ok (.sipush 720, 3) := by decide +kernel
theorem dX1_comingHour_45 : decode cX1_comingHour 45 = .ok (.imul, 1) := by decide +kernel
theorem dX1_comingHour_46 : decode cX1_comingHour 46 = .ok (.iload 8, 2) := by decide +kernel
theorem dX1_comingHour_48 : decode cX1_comingHour 48 = .ok (.isub, 1) := by decide +kernel
theorem dX1_comingHour_49 : decode cX1_comingHour 49 = .ok (.istore 9, 2) := by decide +kernel
theorem dX1_comingHour_51 : decode cX1_comingHour 51 = .ok (.aload_n 1, 1) := by decide +kernel
theorem dX1_comingHour_52 : decode cX1_comingHour 52 = .ok (.iload_n 3, 1) := by decide +kernel
theorem dX1_comingHour_53 : decode cX1_comingHour 53 = .ok (.aload_n 0, 1) := by decide +kernel
theorem dX1_comingHour_54 : decode cX1_comingHour 54 = .ok (.iload 8, 2) := by decide +kernel
theorem dX1_comingHour_56 : decode cX1_comingHour 56 = .ok (.invokestatic 54, 3) := by decide +kernel
theorem dX1_comingHour_59 : decode cX1_comingHour 59 = .ok (.iload_n 2, 1) := by decide +kernel
theorem dX1_comingHour_60 : decode cX1_comingHour 60 = .ok (.invokevirtual 57, 3) := by decide +kernel
theorem dX1_comingHour_63 : decode cX1_comingHour 63 = .ok (.invokevirtual 60, 3) := by decide +kernel
theorem dX1_comingHour_66 : decode cX1_comingHour 66 = .ok (.istore 10, 2) := by decide +kernel
theorem dX1_comingHour_68 : decode cX1_comingHour 68 = .ok (.iload 10, 2) := by decide +kernel
theorem dX1_comingHour_70 : decode cX1_comingHour 70 = .ok (.iload 9, 2) := by decide +kernel
theorem dX1_comingHour_72 : decode cX1_comingHour 72 = .ok (.imul, 1) := by decide +kernel
theorem dX1_comingHour_73 : decode cX1_comingHour 73 = .ok (.iload 6, 2) := by decide +kernel
theorem dX1_comingHour_75 : decode cX1_comingHour 75 = .ok (.if_icmp .lt 14, 3) := by decide +kernel
theorem dX1_comingHour_78 : decode cX1_comingHour 78 = .ok (.iload 8, 2) := by decide +kernel
theorem dX1_comingHour_80 : decode cX1_comingHour 80 = .ok (.iload 6, 2) := by decide +kernel
theorem dX1_comingHour_82 : decode cX1_comingHour 82 = .ok (.iload 10, 2) := by decide +kernel
theorem dX1_comingHour_84 : decode cX1_comingHour 84 = .ok (.invokestatic 65, 3) := by decide +kernel
theorem dX1_comingHour_87 : decode cX1_comingHour 87 = .ok (.iadd, 1) := by decide +kernel
theorem dX1_comingHour_88 : decode cX1_comingHour 88 = .ok (.ireturn, 1) := by decide +kernel
theorem dX1_comingHour_89 : decode cX1_comingHour 89 = .ok (.iload 6, 2) := by decide +kernel
theorem dX1_comingHour_91 : decode cX1_comingHour 91 = .ok (.iload 10, 2) := by decide +kernel
theorem dX1_comingHour_93 : decode cX1_comingHour 93 = .ok (.iload 9, 2) := by decide +kernel
theorem dX1_comingHour_95 : decode cX1_comingHour 95 = .ok (.imul, 1) := by decide +kernel
theorem dX1_comingHour_96 : decode cX1_comingHour 96 = .ok (.isub, 1) := by decide +kernel
theorem dX1_comingHour_97 : decode cX1_comingHour 97 = .ok (.istore 6, 2) := by decide +kernel
theorem dX1_comingHour_99 : decode cX1_comingHour 99 = .ok (.iinc 7 1, 3) := by decide +kernel
theorem dX1_comingHour_102 : decode cX1_comingHour 102 = .ok (.goto (-88), 3) := by decide +kernel
theorem dX1_comingHour_105 : decode cX1_comingHour 105 = .ok (.iload 5, 2) := by decide +kernel
theorem dX1_comingHour_107 : decode cX1_comingHour 107 = .ok (.iconst 1, 1) := by decide +kernel
theorem dX1_comingHour_108 : decode cX1_comingHour 108 = .ok (.iadd, 1) := by decide +kernel
theorem dX1_comingHour_109 : decode cX1_comingHour 109 = .ok (.ireturn, 1) := by decide +kernel
theorem dX1_hoursFor_0 : decode cX1_hoursFor 0 = .ok (.iload_n 1, 1) := by decide +kernel
theorem dX1_hoursFor_1 : decode cX1_hoursFor 1 = .ok (.ifCond .gt 9, 3) := by decide +kernel
theorem dX1_hoursFor_4 : decode cX1_hoursFor 4 = .ok (.sipush 2001, 3) := by decide +kernel
theorem dX1_hoursFor_7 : decode cX1_hoursFor 7 = .ok (.goto 10, 3) := by decide +kernel
theorem dX1_hoursFor_10 : decode cX1_hoursFor 10 = .ok (.iload_n 0, 1) := by decide +kernel
theorem dX1_hoursFor_11 : decode cX1_hoursFor 11 = .ok (.iload_n 1, 1) := by decide +kernel
theorem dX1_hoursFor_12 : decode cX1_hoursFor 12 = .ok (.iadd, 1) := by decide +kernel
theorem dX1_hoursFor_13 : decode cX1_hoursFor 13 = .ok (.iconst 1, 1) := by decide +kernel
theorem dX1_hoursFor_14 : decode cX1_hoursFor 14 = .ok (.isub, 1) := by decide +kernel
theorem dX1_hoursFor_15 : decode cX1_hoursFor 15 = .ok (.iload_n 1, 1) := by decide +kernel
theorem dX1_hoursFor_16 : decode cX1_hoursFor 16 = .ok (.idiv, 1) := by decide +kernel
theorem dX1_hoursFor_17 : decode cX1_hoursFor 17 = .ok (.ireturn, 1) := by decide +kernel
set_option maxRecDepth 20000 in
theorem ggX1_reach_X5_outside : GoodIn wsX1_reach wsX5_outside := goodIn_r _ [4] (by decide +kernel) (by decide +kernel)
set_option maxRecDepth 20000 in
theorem gX1_reach_X5_outside_n19 : GoodIn wsX1_reach (wsX5_outside) := ggX1_reach_X5_outside
theorem dX1_reach_0 : decode cX1_reach 0 = .ok (.iload_n 1, 1) := by decide +kernel
theorem dX1_reach_1 : decode cX1_reach 1 = .ok (.sipush 159, 3) := by decide +kernel
theorem dX1_reach_4 : decode cX1_reach 4 = .ok (.invokestatic 19, 3) := by decide +kernel
theorem dX1_reach_7 : decode cX1_reach 7 = .ok (.ifCond .ne 20, 3) := by decide +kernel
theorem dX1_reach_10 : decode cX1_reach 10 = .ok (.iload_n 2, 1) := by decide +kernel
theorem dX1_reach_11 : decode cX1_reach 11 = .ok (.aload_n 0, 1) := by decide +kernel
theorem dX1_reach_12 : decode cX1_reach 12 = .ok (.getfield 9, 3) := by decide +kernel
theorem dX1_reach_15 : decode cX1_reach 15 = .ok (.iload_n 1, 1) := by decide +kernel
theorem dX1_reach_16 : decode cX1_reach 16 = .ok (.iaload, 1) := by decide +kernel
theorem dX1_reach_17 : decode cX1_reach 17 = .ok (.if_icmp .ge 10, 3) := by decide +kernel
theorem dX1_reach_20 : decode cX1_reach 20 = .ok (.aload_n 0, 1) := by decide +kernel
theorem dX1_reach_21 : decode cX1_reach 21 = .ok (.getfield 9, 3) := by decide +kernel
theorem dX1_reach_24 : decode cX1_reach 24 = .ok (.iload_n 1, 1) := by decide +kernel
theorem dX1_reach_25 : decode cX1_reach 25 = .ok (.iload_n 2, 1) := by decide +kernel
theorem dX1_reach_26 : decode cX1_reach 26 = .ok (.iastore, 1) := by decide +kernel
theorem dX1_reach_27 : decode cX1_reach 27 = .ok (.return_, 1) := by decide +kernel
theorem dX1_earliestCell_0 : decode cX1_earliestCell 0 = .ok (.bipush (-9), 2) := by decide +kernel
theorem dX1_earliestCell_2 : decode cX1_earliestCell 2 = .ok (.istore_n 1, 1) := by decide +kernel
theorem dX1_earliestCell_3 : decode cX1_earliestCell 3 = .ok (.sipush 2001, 3) := by decide +kernel
theorem dX1_earliestCell_6 : decode cX1_earliestCell 6 = .ok (.istore_n 2, 1) := by decide +kernel
theorem dX1_earliestCell_7 : decode cX1_earliestCell 7 = .ok (.iconst 0, 1) := by decide +kernel
theorem dX1_earliestCell_8 : decode cX1_earliestCell 8 = .ok (.istore_n 3, 1) := by decide +kernel
theorem dX1_earliestCell_9 : decode cX1_earliestCell 9 = .ok (.iload_n 3, 1) := by decide +kernel
theorem dX1_earliestCell_10 : decode cX1_earliestCell 10 = .ok (.sipush 160, 3) := by decide +kernel
theorem dX1_earliestCell_13 : decode cX1_earliestCell 13 = .ok (.if_icmp .ge 37, 3) := by decide +kernel
theorem dX1_earliestCell_16 : decode cX1_earliestCell 16 = .ok (.aload_n 0, 1) := by decide +kernel
theorem dX1_earliestCell_17 : decode cX1_earliestCell 17 = .ok (.getfield 15, 3) := by decide +kernel
theorem dX1_earliestCell_20 : decode cX1_earliestCell 20 = .ok (.iload_n 3, 1) := by decide +kernel
theorem dX1_earliestCell_21 : decode cX1_earliestCell 21 = .ok (.baload, 1) := by decide +kernel
theorem dX1_earliestCell_22 : decode cX1_earliestCell 22 = .ok (.ifCond .ne 22, 3) := by decide +kernel
theorem dX1_earliestCell_25 : decode cX1_earliestCell 25 = .ok (.aload_n 0, 1) := by decide +kernel
theorem dX1_earliestCell_26 : decode cX1_earliestCell 26 = .ok (.getfield 9, 3) := by decide +kernel
theorem dX1_earliestCell_29 : decode cX1_earliestCell 29 = .ok (.iload_n 3, 1) := by decide +kernel
theorem dX1_earliestCell_30 : decode cX1_earliestCell 30 = .ok (.iaload, 1) := by decide +kernel
theorem dX1_earliestCell_31 : decode cX1_earliestCell 31 = .ok (.iload_n 2, 1) := by decide +kernel
theorem dX1_earliestCell_32 : decode cX1_earliestCell 32 = .ok (.if_icmp .ge 12, 3) := by decide +kernel
theorem dX1_earliestCell_35 : decode cX1_earliestCell 35 = .ok (.iload_n 3, 1) := by decide +kernel
theorem dX1_earliestCell_36 : decode cX1_earliestCell 36 = .ok (.istore_n 1, 1) := by decide +kernel
theorem dX1_earliestCell_37 : decode cX1_earliestCell 37 = .ok (.aload_n 0, 1) := by decide +kernel
theorem dX1_earliestCell_38 : decode cX1_earliestCell 38 = .ok (.getfield 9, 3) := by decide +kernel
theorem dX1_earliestCell_41 : decode cX1_earliestCell 41 = .ok (.iload_n 3, 1) := by decide +kernel
theorem dX1_earliestCell_42 : decode cX1_earliestCell 42 = .ok (.iaload, 1) := by decide +kernel
theorem dX1_earliestCell_43 : decode cX1_earliestCell 43 = .ok (.istore_n 2, 1) := by decide +kernel
theorem dX1_earliestCell_44 : decode cX1_earliestCell 44 = .ok (.iinc 3 1, 3) := by decide +kernel
theorem dX1_earliestCell_47 : decode cX1_earliestCell 47 = .ok (.goto (-38), 3) := by decide +kernel
theorem dX1_earliestCell_50 : decode cX1_earliestCell 50 = .ok (.iload_n 1, 1) := by decide +kernel
theorem dX1_earliestCell_51 : decode cX1_earliestCell 51 = .ok (.ireturn, 1) := by decide +kernel
theorem dX2_init_0 : decode cX2_init 0 = .ok (.aload_n 0, 1) := by decide +kernel
theorem dX2_init_1 : decode cX2_init 1 = .ok (.invokespecial 3, 3) := by decide +kernel
theorem dX2_init_4 : decode cX2_init 4 = .ok (.aload_n 0, 1) := by decide +kernel
theorem dX2_init_5 : decode cX2_init 5 = .ok (.sipush 160, 3) := by decide +kernel
theorem dX2_init_8 : decode cX2_init 8 = .ok (.newarray .boolean, 2) := by decide +kernel
theorem dX2_init_10 : decode cX2_init 10 = .ok (.putfield 9, 3) := by decide +kernel
theorem dX2_init_13 : decode cX2_init 13 = .ok (.aload_n 0, 1) := by decide +kernel
theorem dX2_init_14 : decode cX2_init 14 = .ok (.bipush 12, 2) := by decide +kernel
theorem dX2_init_16 : decode cX2_init 16 = .ok (.newarray .boolean, 2) := by decide +kernel
theorem dX2_init_18 : decode cX2_init 18 = .ok (.putfield 15, 3) := by decide +kernel
theorem dX2_init_21 : decode cX2_init 21 = .ok (.aload_n 0, 1) := by decide +kernel
theorem dX2_init_22 : decode cX2_init 22 = .ok (.bipush 12, 2) := by decide +kernel
theorem dX2_init_24 : decode cX2_init 24 = .ok (.sipush 160, 3) := by decide +kernel
theorem dX2_init_27 : decode cX2_init 27 = .ok (.multianewarray 18 2, 4) := by decide +kernel
theorem dX2_init_31 : decode cX2_init 31 = .ok (.putfield 20, 3) := by decide +kernel
theorem dX2_init_34 : decode cX2_init 34 = .ok (.return_, 1) := by decide +kernel
set_option maxRecDepth 20000 in
theorem ggX2_isLand_X5_outside : GoodIn wsX2_isLand wsX5_outside := goodIn_r _ [4] (by decide +kernel) (by decide +kernel)
set_option maxRecDepth 20000 in
theorem gX2_isLand_X5_outside_n23 : GoodIn wsX2_isLand (wsX5_outside) := ggX2_isLand_X5_outside
theorem dX2_isLand_0 : decode cX2_isLand 0 = .ok (.iload_n 1, 1) := by decide +kernel
theorem dX2_isLand_1 : decode cX2_isLand 1 = .ok (.sipush 159, 3) := by decide +kernel
theorem dX2_isLand_4 : decode cX2_isLand 4 = .ok (.invokestatic 23, 3) := by decide +kernel
theorem dX2_isLand_7 : decode cX2_isLand 7 = .ok (.ifCond .ne 16, 3) := by decide +kernel
theorem dX2_isLand_10 : decode cX2_isLand 10 = .ok (.aload_n 0, 1) := by decide +kernel
theorem dX2_isLand_11 : decode cX2_isLand 11 = .ok (.getfield 9, 3) := by decide +kernel
theorem dX2_isLand_14 : decode cX2_isLand 14 = .ok (.iload_n 1, 1) := by decide +kernel
theorem dX2_isLand_15 : decode cX2_isLand 15 = .ok (.baload, 1) := by decide +kernel
theorem dX2_isLand_16 : decode cX2_isLand 16 = .ok (.ifCond .eq 7, 3) := by decide +kernel
theorem dX2_isLand_19 : decode cX2_isLand 19 = .ok (.iconst 1, 1) := by decide +kernel
theorem dX2_isLand_20 : decode cX2_isLand 20 = .ok (.goto 4, 3) := by decide +kernel
theorem dX2_isLand_23 : decode cX2_isLand 23 = .ok (.iconst 0, 1) := by decide +kernel
theorem dX2_isLand_24 : decode cX2_isLand 24 = .ok (.ireturn, 1) := by decide +kernel
set_option maxRecDepth 20000 in
theorem ggX2_setLand_X5_outside : GoodIn wsX2_setLand wsX5_outside := goodIn_r _ [4] (by decide +kernel) (by decide +kernel)
set_option maxRecDepth 20000 in
theorem gX2_setLand_X5_outside_n23 : GoodIn wsX2_setLand (wsX5_outside) := ggX2_setLand_X5_outside
theorem dX2_setLand_0 : decode cX2_setLand 0 = .ok (.iload_n 1, 1) := by decide +kernel
theorem dX2_setLand_1 : decode cX2_setLand 1 = .ok (.sipush 159, 3) := by decide +kernel
theorem dX2_setLand_4 : decode cX2_setLand 4 = .ok (.invokestatic 23, 3) := by decide +kernel
theorem dX2_setLand_7 : decode cX2_setLand 7 = .ok (.ifCond .ne 10, 3) := by decide +kernel
theorem dX2_setLand_10 : decode cX2_setLand 10 = .ok (.aload_n 0, 1) := by decide +kernel
theorem dX2_setLand_11 : decode cX2_setLand 11 = .ok (.getfield 9, 3) := by decide +kernel
theorem dX2_setLand_14 : decode cX2_setLand 14 = .ok (.iload_n 1, 1) := by decide +kernel
theorem dX2_setLand_15 : decode cX2_setLand 15 = .ok (.iload_n 2, 1) := by decide +kernel
theorem dX2_setLand_16 : decode cX2_setLand 16 = .ok (.bastore, 1) := by decide +kernel
theorem dX2_setLand_17 : decode cX2_setLand 17 = .ok (.return_, 1) := by decide +kernel
set_option maxRecDepth 20000 in
theorem ggX2_hasChart_X5_outside : GoodIn wsX2_hasChart wsX5_outside := goodIn_r _ [4] (by decide +kernel) (by decide +kernel)
set_option maxRecDepth 20000 in
theorem gX2_hasChart_X5_outside_n23 : GoodIn wsX2_hasChart (wsX5_outside) := ggX2_hasChart_X5_outside
theorem dX2_hasChart_0 : decode cX2_hasChart 0 = .ok (.iload_n 1, 1) := by decide +kernel
theorem dX2_hasChart_1 : decode cX2_hasChart 1 = .ok (.bipush 11, 2) := by decide +kernel
theorem dX2_hasChart_3 : decode cX2_hasChart 3 = .ok (.invokestatic 23, 3) := by decide +kernel
theorem dX2_hasChart_6 : decode cX2_hasChart 6 = .ok (.ifCond .ne 16, 3) := by decide +kernel
theorem dX2_hasChart_9 : decode cX2_hasChart 9 = .ok (.aload_n 0, 1) := by decide +kernel
theorem dX2_hasChart_10 : decode cX2_hasChart 10 = .ok (.getfield 15, 3) := by decide +kernel
theorem dX2_hasChart_13 : decode cX2_hasChart 13 = .ok (.iload_n 1, 1) := by decide +kernel
theorem dX2_hasChart_14 : decode cX2_hasChart 14 = .ok (.baload, 1) := by decide +kernel
theorem dX2_hasChart_15 : decode cX2_hasChart 15 = .ok (.ifCond .eq 7, 3) := by decide +kernel
theorem dX2_hasChart_18 : decode cX2_hasChart 18 = .ok (.iconst 1, 1) := by decide +kernel
theorem dX2_hasChart_19 : decode cX2_hasChart 19 = .ok (.goto 4, 3) := by decide +kernel
theorem dX2_hasChart_22 : decode cX2_hasChart 22 = .ok (.iconst 0, 1) := by decide +kernel
theorem dX2_hasChart_23 : decode cX2_hasChart 23 = .ok (.ireturn, 1) := by decide +kernel
theorem dX2_chartsThere_0 : decode cX2_chartsThere 0 = .ok (.iconst 0, 1) := by decide +kernel
theorem dX2_chartsThere_1 : decode cX2_chartsThere 1 = .ok (.istore_n 1, 1) := by decide +kernel
theorem dX2_chartsThere_2 : decode cX2_chartsThere 2 = .ok (.iconst 0, 1) := by decide +kernel
theorem dX2_chartsThere_3 : decode cX2_chartsThere 3 = .ok (.istore_n 2, 1) := by decide +kernel
theorem dX2_chartsThere_4 : decode cX2_chartsThere 4 = .ok (.iload_n 2, 1) := by decide +kernel
theorem dX2_chartsThere_5 : decode cX2_chartsThere 5 = .ok (.bipush 12, 2) := by decide +kernel
theorem dX2_chartsThere_7 : decode cX2_chartsThere 7 = .ok (.if_icmp .ge 21, 3) := by decide +kernel
theorem dX2_chartsThere_10 : decode cX2_chartsThere 10 = .ok (.aload_n 0, 1) := by decide +kernel
theorem dX2_chartsThere_11 : decode cX2_chartsThere 11 = .ok (.getfield 15, 3) := by decide +kernel
theorem dX2_chartsThere_14 : decode cX2_chartsThere 14 = .ok (.iload_n 2, 1) := by decide +kernel
theorem dX2_chartsThere_15 : decode cX2_chartsThere 15 = .ok (.baload, 1) := by decide +kernel
theorem dX2_chartsThere_16 : decode cX2_chartsThere 16 = .ok (.ifCond .eq 6, 3) := by decide +kernel
theorem dX2_chartsThere_19 : decode cX2_chartsThere 19 = .ok (.iinc 1 1, 3) := by decide +kernel
theorem dX2_chartsThere_22 : decode cX2_chartsThere 22 = .ok (.iinc 2 1, 3) := by decide +kernel
theorem dX2_chartsThere_25 : decode cX2_chartsThere 25 = .ok (.goto (-21), 3) := by decide +kernel
theorem dX2_chartsThere_28 : decode cX2_chartsThere 28 = .ok (.iload_n 1, 1) := by decide +kernel
theorem dX2_chartsThere_29 : decode cX2_chartsThere 29 = .ok (.ireturn, 1) := by decide +kernel
set_option maxRecDepth 20000 in
theorem ggX2_drawCalm_X5_outside : GoodIn wsX2_drawCalm wsX5_outside := goodIn_r _ [5] (by decide +kernel) (by decide +kernel)
set_option maxRecDepth 20000 in
theorem gX2_drawCalm_X5_outside_n23 : GoodIn wsX2_drawCalm (wsX5_outside) := ggX2_drawCalm_X5_outside
set_option maxRecDepth 20000 in
theorem ggX2_drawCalm_J7_fill_031fb : GoodIn wsX2_drawCalm wsJ7_fill_031fb := goodIn_r _ [9] (by decide +kernel) (by decide +kernel)
set_option maxRecDepth 20000 in
theorem gX2_drawCalm_J7_fill_031fb : GoodIn wsX2_drawCalm (va_wsS RX2 27 yJ7_fill_031fb wsJ7_fill_031fb) := goodIn_app (goodIn_of _ (by decide +kernel)) ggX2_drawCalm_J7_fill_031fb
theorem dX2_drawCalm_0 : decode cX2_drawCalm 0 = .ok (.iload_n 1, 1) := by decide +kernel
theorem dX2_drawCalm_1 : decode cX2_drawCalm 1 = .ok (.bipush 11, 2) := by decide +kernel
theorem dX2_drawCalm_3 : decode cX2_drawCalm 3 = .ok (.invokestatic 23, 3) := by decide +kernel
theorem dX2_drawCalm_6 : decode cX2_drawCalm 6 = .ok (.ifCond .ne 20, 3) := by decide +kernel
theorem dX2_drawCalm_9 : decode cX2_drawCalm 9 = .ok (.aload_n 0, 1) := by decide +kernel
theorem dX2_drawCalm_10 : decode cX2_drawCalm 10 = .ok (.getfield 15, 3) := by decide +kernel
theorem dX2_drawCalm_13 : decode cX2_drawCalm 13 = .ok (.iload_n 1, 1) := by decide +kernel
theorem dX2_drawCalm_14 : decode cX2_drawCalm 14 = .ok (.iconst 1, 1) := by decide +kernel
theorem dX2_drawCalm_15 : decode cX2_drawCalm 15 = .ok (.bastore, 1) := by decide +kernel
theorem dX2_drawCalm_16 : decode cX2_drawCalm 16 = .ok (.aload_n 0, 1) := by decide +kernel
theorem dX2_drawCalm_17 : decode cX2_drawCalm 17 = .ok (.getfield 20, 3) := by decide +kernel
theorem dX2_drawCalm_20 : decode cX2_drawCalm 20 = .ok (.iload_n 1, 1) := by decide +kernel
theorem dX2_drawCalm_21 : decode cX2_drawCalm 21 = .ok (.aaload, 1) := by decide +kernel
theorem dX2_drawCalm_22 : decode cX2_drawCalm 22 = .ok (.iconst 0, 1) := by decide +kernel
theorem dX2_drawCalm_23 : decode cX2_drawCalm 23 = .ok (.invokestatic 27, 3) := by decide +kernel
theorem dX2_drawCalm_26 : decode cX2_drawCalm 26 = .ok (.return_, 1) := by decide +kernel
set_option maxRecDepth 20000 in
theorem ggX2_loseChart_X5_outside : GoodIn wsX2_loseChart wsX5_outside := goodIn_r _ [4] (by decide +kernel) (by decide +kernel)
set_option maxRecDepth 20000 in
theorem gX2_loseChart_X5_outside_n23 : GoodIn wsX2_loseChart (wsX5_outside) := ggX2_loseChart_X5_outside
theorem dX2_loseChart_0 : decode cX2_loseChart 0 = .ok (.iload_n 1, 1) := by decide +kernel
theorem dX2_loseChart_1 : decode cX2_loseChart 1 = .ok (.bipush 11, 2) := by decide +kernel
theorem dX2_loseChart_3 : decode cX2_loseChart 3 = .ok (.invokestatic 23, 3) := by decide +kernel
theorem dX2_loseChart_6 : decode cX2_loseChart 6 = .ok (.ifCond .ne 10, 3) := by decide +kernel
theorem dX2_loseChart_9 : decode cX2_loseChart 9 = .ok (.aload_n 0, 1) := by decide +kernel
theorem dX2_loseChart_10 : decode cX2_loseChart 10 = .ok (.getfield 15, 3) := by decide +kernel
theorem dX2_loseChart_13 : decode cX2_loseChart 13 = .ok (.iload_n 1, 1) := by decide +kernel
theorem dX2_loseChart_14 : decode cX2_loseChart 14 = .ok (.iconst 0, 1) := by decide +kernel
theorem dX2_loseChart_15 : decode cX2_loseChart 15 = .ok (.bastore, 1) := by decide +kernel
theorem dX2_loseChart_16 : decode cX2_loseChart 16 = .ok (.return_, 1) := by decide +kernel
set_option maxRecDepth 20000 in
theorem ggX2_drawnAt_X2_hasChart : GoodIn wsX2_drawnAt wsX2_hasChart := goodIn_r _ [6, 7, 8, 9, 10, 11, 12, 13] (by decide +kernel) (by decide +kernel)
set_option maxRecDepth 20000 in
theorem gX2_drawnAt_X2_hasChart : GoodIn wsX2_drawnAt (wsV RX2 33 RX2 yX2_hasChart wsX2_hasChart) := goodIn_app (goodIn_of _ (by decide +kernel)) ggX2_drawnAt_X2_hasChart
set_option maxRecDepth 20000 in
theorem ggX2_drawnAt_X5_outside : GoodIn wsX2_drawnAt wsX5_outside := goodIn_r _ [10] (by decide +kernel) (by decide +kernel)
set_option maxRecDepth 20000 in
theorem gX2_drawnAt_X5_outside_n23 : GoodIn wsX2_drawnAt (wsX5_outside) := ggX2_drawnAt_X5_outside
theorem dX2_drawnAt_0 : decode cX2_drawnAt 0 = .ok (.aload_n 0, 1) := by decide +kernel
theorem dX2_drawnAt_1 : decode cX2_drawnAt 1 = .ok (.iload_n 1, 1) := by decide +kernel
theorem dX2_drawnAt_2 : decode cX2_drawnAt 2 = .ok (.invokevirtual 33, 3) := by decide +kernel
theorem dX2_drawnAt_5 : decode cX2_drawnAt 5 = .ok (.ifCond .eq 24, 3) := by decide +kernel
theorem dX2_drawnAt_8 : decode cX2_drawnAt 8 = .ok (.iload_n 2, 1) := by decide +kernel
theorem dX2_drawnAt_9 : decode cX2_drawnAt 9 = .ok (.sipush 159, 3) := by decide +kernel
theorem dX2_drawnAt_12 : decode cX2_drawnAt 12 = .ok (.invokestatic 23, 3) := by decide +kernel
theorem dX2_drawnAt_15 : decode cX2_drawnAt 15 = .ok (.ifCond .ne 14, 3) := by decide +kernel
theorem dX2_drawnAt_18 : decode cX2_drawnAt 18 = .ok (.aload_n 0, 1) := by decide +kernel
theorem dX2_drawnAt_19 : decode cX2_drawnAt 19 = .ok (.getfield 20, 3) := by decide +kernel
theorem dX2_drawnAt_22 : decode cX2_drawnAt 22 = .ok (.iload_n 1, 1) := by decide +kernel
theorem dX2_drawnAt_23 : decode cX2_drawnAt 23 = .ok (.aaload, 1) := by decide +kernel
theorem dX2_drawnAt_24 : decode cX2_drawnAt 24 = .ok (.iload_n 2, 1) := by decide +kernel
theorem dX2_drawnAt_25 : decode cX2_drawnAt 25 = .ok (.baload, 1) := by decide +kernel
theorem dX2_drawnAt_26 : decode cX2_drawnAt 26 = .ok (.goto 4, 3) := by decide +kernel
theorem dX2_drawnAt_29 : decode cX2_drawnAt 29 = .ok (.iconst 0, 1) := by decide +kernel
theorem dX2_drawnAt_30 : decode cX2_drawnAt 30 = .ok (.ireturn, 1) := by decide +kernel
set_option maxRecDepth 20000 in
theorem ggX2_drawAt_X2_hasChart : GoodIn wsX2_drawAt wsX2_hasChart := goodIn_r _ [6, 7, 8, 9, 10, 11, 12, 13] (by decide +kernel) (by decide +kernel)
set_option maxRecDepth 20000 in
theorem gX2_drawAt_X2_hasChart : GoodIn wsX2_drawAt (wsV RX2 33 RX2 yX2_hasChart wsX2_hasChart) := goodIn_app (goodIn_of _ (by decide +kernel)) ggX2_drawAt_X2_hasChart
set_option maxRecDepth 20000 in
theorem ggX2_drawAt_X5_outside : GoodIn wsX2_drawAt wsX5_outside := goodIn_r _ [10] (by decide +kernel) (by decide +kernel)
set_option maxRecDepth 20000 in
theorem gX2_drawAt_X5_outside_n23 : GoodIn wsX2_drawAt (wsX5_outside) := ggX2_drawAt_X5_outside
theorem dX2_drawAt_0 : decode cX2_drawAt 0 = .ok (.aload_n 0, 1) := by decide +kernel
theorem dX2_drawAt_1 : decode cX2_drawAt 1 = .ok (.iload_n 1, 1) := by decide +kernel
theorem dX2_drawAt_2 : decode cX2_drawAt 2 = .ok (.invokevirtual 33, 3) := by decide +kernel
theorem dX2_drawAt_5 : decode cX2_drawAt 5 = .ok (.ifCond .eq 22, 3) := by decide +kernel
theorem dX2_drawAt_8 : decode cX2_drawAt 8 = .ok (.iload_n 2, 1) := by decide +kernel
theorem dX2_drawAt_9 : decode cX2_drawAt 9 = .ok (.sipush 159, 3) := by decide +kernel
theorem dX2_drawAt_12 : decode cX2_drawAt 12 = .ok (.invokestatic 23, 3) := by decide +kernel
theorem dX2_drawAt_15 : decode cX2_drawAt 15 = .ok (.ifCond .ne 12, 3) := by decide +kernel
theorem dX2_drawAt_18 : decode cX2_drawAt 18 = .ok (.aload_n 0, 1) := by decide +kernel
theorem dX2_drawAt_19 : decode cX2_drawAt 19 = .ok (.getfield 20, 3) := by decide +kernel
theorem dX2_drawAt_22 : decode cX2_drawAt 22 = .ok (.iload_n 1, 1) := by decide +kernel
theorem dX2_drawAt_23 : decode cX2_drawAt 23 = .ok (.aaload, 1) := by decide +kernel
theorem dX2_drawAt_24 : decode cX2_drawAt 24 = .ok (.iload_n 2, 1) := by decide +kernel
theorem dX2_drawAt_25 : decode cX2_drawAt 25 = .ok (.iload_n 3, 1) := by decide +kernel
theorem dX2_drawAt_26 : decode cX2_drawAt 26 = .ok (.bastore, 1) := by decide +kernel
theorem dX2_drawAt_27 : decode cX2_drawAt 27 = .ok (.return_, 1) := by decide +kernel
set_option maxRecDepth 20000 in
theorem ggX2_copyChart_X2_hasChart : GoodIn wsX2_copyChart wsX2_hasChart := goodIn_r _ [10, 11, 12, 13, 14, 15, 16, 17] (by decide +kernel) (by decide +kernel)
set_option maxRecDepth 20000 in
theorem gX2_copyChart_X2_hasChart : GoodIn wsX2_copyChart (wsV RX2 33 RX2 yX2_hasChart wsX2_hasChart) := goodIn_app (goodIn_of _ (by decide +kernel)) ggX2_copyChart_X2_hasChart
set_option maxRecDepth 20000 in
theorem ggX2_copyChart_X5_outside : GoodIn wsX2_copyChart wsX5_outside := goodIn_r _ [14] (by decide +kernel) (by decide +kernel)
set_option maxRecDepth 20000 in
theorem gX2_copyChart_X5_outside_n23 : GoodIn wsX2_copyChart (wsX5_outside) := ggX2_copyChart_X5_outside
theorem dX2_copyChart_0 : decode cX2_copyChart 0 = .ok (.aload_n 0, 1) := by decide +kernel
theorem dX2_copyChart_1 : decode cX2_copyChart 1 = .ok (.iload_n 1, 1) := by decide +kernel
theorem dX2_copyChart_2 : decode cX2_copyChart 2 = .ok (.invokevirtual 33, 3) := by decide +kernel
theorem dX2_copyChart_5 : decode cX2_copyChart 5 = .ok (.ifCond .eq 16, 3) := by decide +kernel
theorem dX2_copyChart_8 : decode cX2_copyChart 8 = .ok (.aload_n 0, 1) := by decide +kernel
theorem dX2_copyChart_9 : decode cX2_copyChart 9 = .ok (.iload_n 3, 1) := by decide +kernel
theorem dX2_copyChart_10 : decode cX2_copyChart 10 = .ok (.invokevirtual 33, 3) := by decide +kernel
theorem dX2_copyChart_13 : decode cX2_copyChart 13 = .ok (.ifCond .eq 8, 3) := by decide +kernel
theorem dX2_copyChart_16 : decode cX2_copyChart 16 = .ok (.iload 5, 2) := by decide +kernel
theorem dX2_copyChart_18 : decode cX2_copyChart 18 = .ok (.ifCond .ge 4, 3) := by decide +kernel
theorem dX2_copyChart_21 : decode cX2_copyChart 21 = .ok (.return_, 1) := by decide +kernel
theorem dX2_copyChart_22 : decode cX2_copyChart 22 = .ok (.iload_n 2, 1) := by decide +kernel
theorem dX2_copyChart_23 : decode cX2_copyChart 23 = .ok (.sipush 160, 3) := by decide +kernel
theorem dX2_copyChart_26 : decode cX2_copyChart 26 = .ok (.iload 5, 2) := by decide +kernel
theorem dX2_copyChart_28 : decode cX2_copyChart 28 = .ok (.isub, 1) := by decide +kernel
theorem dX2_copyChart_29 : decode cX2_copyChart 29 = .ok (.invokestatic 23, 3) := by decide +kernel
theorem dX2_copyChart_32 : decode cX2_copyChart 32 = .ok (.ifCond .ne 37, 3) := by decide +kernel
theorem dX2_copyChart_35 : decode cX2_copyChart 35 = .ok (.iload 4, 2) := by decide +kernel
theorem dX2_copyChart_37 : decode cX2_copyChart 37 = .ok (.sipush 160, 3) := by decide +kernel
theorem dX2_copyChart_40 : decode cX2_copyChart 40 = .ok (.iload 5, 2) := by decide +kernel
theorem dX2_copyChart_42 : decode cX2_copyChart 42 = .ok (.isub, 1) := by decide +kernel
theorem dX2_copyChart_43 : decode cX2_copyChart 43 = .ok (.invokestatic 23, 3) := by decide +kernel
theorem dX2_copyChart_46 : decode cX2_copyChart 46 = .ok (.ifCond .ne 23, 3) := by decide +kernel
theorem dX2_copyChart_49 : decode cX2_copyChart 49 = .ok (.aload_n 0, 1) := by decide +kernel
theorem dX2_copyChart_50 : decode cX2_copyChart 50 = .ok (.getfield 20, 3) := by decide +kernel
theorem dX2_copyChart_53 : decode cX2_copyChart 53 = .ok (.iload_n 1, 1) := by decide +kernel
theorem dX2_copyChart_54 : decode cX2_copyChart 54 = .ok (.aaload, 1) := by decide +kernel
theorem dX2_copyChart_55 : decode cX2_copyChart 55 = .ok (.iload_n 2, 1) := by decide +kernel
theorem dX2_copyChart_56 : decode cX2_copyChart 56 = .ok (.aload_n 0, 1) := by decide +kernel
theorem dX2_copyChart_57 : decode cX2_copyChart 57 = .ok (.getfield 20, 3) := by decide +kernel
theorem dX2_copyChart_60 : decode cX2_copyChart 60 = .ok (.iload_n 3, 1) := by decide +kernel
theorem dX2_copyChart_61 : decode cX2_copyChart 61 = .ok (.aaload, 1) := by decide +kernel
theorem dX2_copyChart_62 : decode cX2_copyChart 62 = .ok (.iload 4, 2) := by decide +kernel
theorem dX2_copyChart_64 : decode cX2_copyChart 64 = .ok (.iload 5, 2) := by decide +kernel
theorem dX2_copyChart_66 : decode cX2_copyChart 66 = .ok (.invokestatic 37, 3) := by decide +kernel
theorem dX2_copyChart_69 : decode cX2_copyChart 69 = .ok (.return_, 1) := by decide +kernel
set_option maxRecDepth 20000 in
theorem ggX2_windIn_X5_outside : GoodIn wsX2_windIn wsX5_outside := goodIn_r _ [5] (by decide +kernel) (by decide +kernel)
set_option maxRecDepth 20000 in
theorem gX2_windIn_X5_outside_n23 : GoodIn wsX2_windIn (wsX5_outside) := ggX2_windIn_X5_outside
theorem dX2_windIn_0 : decode cX2_windIn 0 = .ok (.iload_n 1, 1) := by decide +kernel
theorem dX2_windIn_1 : decode cX2_windIn 1 = .ok (.bipush 11, 2) := by decide +kernel
theorem dX2_windIn_3 : decode cX2_windIn 3 = .ok (.invokestatic 23, 3) := by decide +kernel
theorem dX2_windIn_6 : decode cX2_windIn 6 = .ok (.ifCond .ne 22, 3) := by decide +kernel
theorem dX2_windIn_9 : decode cX2_windIn 9 = .ok (.iload_n 2, 1) := by decide +kernel
theorem dX2_windIn_10 : decode cX2_windIn 10 = .ok (.sipush 159, 3) := by decide +kernel
theorem dX2_windIn_13 : decode cX2_windIn 13 = .ok (.invokestatic 23, 3) := by decide +kernel
theorem dX2_windIn_16 : decode cX2_windIn 16 = .ok (.ifCond .ne 12, 3) := by decide +kernel
theorem dX2_windIn_19 : decode cX2_windIn 19 = .ok (.aload_n 0, 1) := by decide +kernel
theorem dX2_windIn_20 : decode cX2_windIn 20 = .ok (.getfield 15, 3) := by decide +kernel
theorem dX2_windIn_23 : decode cX2_windIn 23 = .ok (.iload_n 1, 1) := by decide +kernel
theorem dX2_windIn_24 : decode cX2_windIn 24 = .ok (.baload, 1) := by decide +kernel
theorem dX2_windIn_25 : decode cX2_windIn 25 = .ok (.ifCond .ne 5, 3) := by decide +kernel
theorem dX2_windIn_28 : decode cX2_windIn 28 = .ok (.iconst 0, 1) := by decide +kernel
theorem dX2_windIn_29 : decode cX2_windIn 29 = .ok (.ireturn, 1) := by decide +kernel
theorem dX2_windIn_30 : decode cX2_windIn 30 = .ok (.aload_n 0, 1) := by decide +kernel
theorem dX2_windIn_31 : decode cX2_windIn 31 = .ok (.getfield 20, 3) := by decide +kernel
theorem dX2_windIn_34 : decode cX2_windIn 34 = .ok (.iload_n 1, 1) := by decide +kernel
theorem dX2_windIn_35 : decode cX2_windIn 35 = .ok (.aaload, 1) := by decide +kernel
theorem dX2_windIn_36 : decode cX2_windIn 36 = .ok (.iload_n 2, 1) := by decide +kernel
theorem dX2_windIn_37 : decode cX2_windIn 37 = .ok (.baload, 1) := by decide +kernel
theorem dX2_windIn_38 : decode cX2_windIn 38 = .ok (.istore_n 3, 1) := by decide +kernel
theorem dX2_windIn_39 : decode cX2_windIn 39 = .ok (.iload_n 3, 1) := by decide +kernel
theorem dX2_windIn_40 : decode cX2_windIn 40 = .ok (.bipush 79, 2) := by decide +kernel
theorem dX2_windIn_42 : decode cX2_windIn 42 = .ok (.invokestatic 23, 3) := by decide +kernel
theorem dX2_windIn_45 : decode cX2_windIn 45 = .ok (.ifCond .eq 7, 3) := by decide +kernel
theorem dX2_windIn_48 : decode cX2_windIn 48 = .ok (.iconst 0, 1) := by decide +kernel
theorem dX2_windIn_49 : decode cX2_windIn 49 = .ok (.goto 4, 3) := by decide +kernel
theorem dX2_windIn_52 : decode cX2_windIn 52 = .ok (.iload_n 3, 1) := by decide +kernel
theorem dX2_windIn_53 : decode cX2_windIn 53 = .ok (.ireturn, 1) := by decide +kernel
set_option maxRecDepth 20000 in
theorem ggX2_nextCell_X5_outside : GoodIn wsX2_nextCell wsX5_outside := goodIn_r _ [3] (by decide +kernel) (by decide +kernel)
set_option maxRecDepth 20000 in
theorem gX2_nextCell_X5_outside_n23 : GoodIn wsX2_nextCell (wsX5_outside) := ggX2_nextCell_X5_outside
set_option maxRecDepth 20000 in
theorem ggX2_nextCell_X2_isLand : GoodIn wsX2_nextCell wsX2_isLand := goodIn_r _ [8, 9, 1, 2, 3, 10, 11, 12] (by decide +kernel) (by decide +kernel)
set_option maxRecDepth 20000 in
theorem gX2_nextCell_X2_isLand : GoodIn wsX2_nextCell (wsV RX2 50 RX2 yX2_isLand wsX2_isLand) := goodIn_app (goodIn_of _ (by decide +kernel)) ggX2_nextCell_X2_isLand
theorem dX2_nextCell_0 : decode cX2_nextCell 0 = .ok (.iload_n 1, 1) := by decide +kernel
theorem dX2_nextCell_1 : decode cX2_nextCell 1 = .ok (.sipush 159, 3) := by decide +kernel
theorem dX2_nextCell_4 : decode cX2_nextCell 4 = .ok (.invokestatic 23, 3) := by decide +kernel
theorem dX2_nextCell_7 : decode cX2_nextCell 7 = .ok (.ifCond .ne 12, 3) := by decide +kernel
theorem dX2_nextCell_10 : decode cX2_nextCell 10 = .ok (.iload_n 2, 1) := by decide +kernel
theorem dX2_nextCell_11 : decode cX2_nextCell 11 = .ok (.bipush 7, 2) := by decide +kernel
theorem dX2_nextCell_13 : decode cX2_nextCell 13 = .ok (.invokestatic 23, 3) := by decide +kernel
theorem dX2_nextCell_16 : decode cX2_nextCell 16 = .ok (.ifCond .eq 6, 3) := by decide +kernel
theorem dX2_nextCell_19 : decode cX2_nextCell 19 = .ok (.bipush (-9), 2) := by decide +kernel
theorem dX2_nextCell_21 : decode cX2_nextCell 21 = .ok (.ireturn, 1) := by decide +kernel
theorem dX2_nextCell_22 : decode cX2_nextCell 22 = .ok (.iload_n 1, 1) := by decide +kernel
theorem dX2_nextCell_23 : decode cX2_nextCell 23 = .ok (.bipush 16, 2) := by decide +kernel
theorem dX2_nextCell_25 : decode cX2_nextCell 25 = .ok (.irem, 1) := by decide +kernel
theorem dX2_nextCell_26 : decode cX2_nextCell 26 = .ok (.getstatic 43, 3) := by decide +kernel
theorem dX2_nextCell_29 : decode cX2_nextCell 29 = .ok (.iload_n 2, 1) := by decide +kernel
theorem dX2_nextCell_30 : decode cX2_nextCell 30 = .ok (.iaload, 1) := by decide +kernel
theorem dX2_nextCell_31 : decode cX2_nextCell 31 = .ok (.iadd, 1) := by decide +kernel
theorem dX2_nextCell_32 : decode cX2_nextCell 32 = .ok (.istore_n 3, 1) := by decide +kernel
theorem dX2_nextCell_33 : decode cX2_nextCell 33 = .ok (.iload_n 1, 1) := by decide +kernel
theorem dX2_nextCell_34 : decode cX2_nextCell 34 = .ok (.bipush 16, 2) := by decide +kernel
theorem dX2_nextCell_36 : decode cX2_nextCell 36 = .ok (.idiv, 1) := by decide +kernel
theorem dX2_nextCell_37 : decode cX2_nextCell 37 = .ok (.getstatic 47, 3) := by decide +kernel
theorem dX2_nextCell_40 : decode cX2_nextCell 40 = .ok (.iload_n 2, 1) := by decide +kernel
theorem dX2_nextCell_41 : decode cX2_nextCell 41 = .ok (.iaload, 1) := by decide +kernel
theorem dX2_nextCell_42 : decode cX2_nextCell 42 = .ok (.iadd, 1) := by decide +kernel
theorem dX2_nextCell_43 : decode cX2_nextCell 43 = .ok (.istore 4, 2) := by decide +kernel
theorem dX2_nextCell_45 : decode cX2_nextCell 45 = .ok (.iload_n 3, 1) := by decide +kernel
theorem dX2_nextCell_46 : decode cX2_nextCell 46 = .ok (.bipush 15, 2) := by decide +kernel
theorem dX2_nextCell_48 : decode cX2_nextCell 48 = .ok (.invokestatic 23, 3) := by decide +kernel
theorem dX2_nextCell_51 : decode cX2_nextCell 51 = .ok (.ifCond .ne 13, 3) := by decide +kernel
theorem dX2_nextCell_54 : decode cX2_nextCell 54 = .ok (.iload 4, 2) := by decide +kernel
theorem dX2_nextCell_56 : decode cX2_nextCell 56 = .ok (.bipush 9, 2) := by decide +kernel
theorem dX2_nextCell_58 : decode cX2_nextCell 58 = .ok (.invokestatic 23, 3) := by decide +kernel
theorem dX2_nextCell_61 : decode cX2_nextCell 61 = .ok (.ifCond .eq 6, 3) := by decide +kernel
theorem dX2_nextCell_64 : decode cX2_nextCell 64 = .ok (.bipush (-9), 2) := by decide +kernel
theorem dX2_nextCell_66 : decode cX2_nextCell 66 = .ok (.ireturn, 1) := by decide +kernel
theorem dX2_nextCell_67 : decode cX2_nextCell 67 = .ok (.bipush 16, 2) := by decide +kernel
theorem dX2_nextCell_69 : decode cX2_nextCell 69 = .ok (.iload 4, 2) := by decide +kernel
theorem dX2_nextCell_71 : decode cX2_nextCell 71 = .ok (.imul, 1) := by decide +kernel
theorem dX2_nextCell_72 : decode cX2_nextCell 72 = .ok (.iload_n 3, 1) := by decide +kernel
theorem dX2_nextCell_73 : decode cX2_nextCell 73 = .ok (.iadd, 1) := by decide +kernel
theorem dX2_nextCell_74 : decode cX2_nextCell 74 = .ok (.istore 5, 2) := by decide +kernel
theorem dX2_nextCell_76 : decode cX2_nextCell 76 = .ok (.aload_n 0, 1) := by decide +kernel
theorem dX2_nextCell_77 : decode cX2_nextCell 77 = .ok (.iload 5, 2) := by decide +kernel
theorem dX2_nextCell_79 : decode cX2_nextCell 79 = .ok (.invokevirtual 50, 3) := by decide +kernel
theorem dX2_nextCell_82 : decode cX2_nextCell 82 = .ok (.ifCond .eq 8, 3) := by decide +kernel
theorem dX2_nextCell_85 : decode cX2_nextCell 85 = .ok (.bipush (-9), 2) := by decide +kernel
theorem dX2_nextCell_87 : decode cX2_nextCell 87 = .ok (.goto 5, 3) := by decide +kernel
theorem dX2_nextCell_90 : decode cX2_nextCell 90 = .ok (.iload 5, 2) := by decide +kernel
theorem dX2_nextCell_92 : decode cX2_nextCell 92 = .ok (.ireturn, 1) := by decide +kernel
set_option maxRecDepth 20000 in
theorem ggX2_digestChart_X2_hasChart : GoodIn wsX2_digestChart wsX2_hasChart := goodIn_r _ [6, 7, 8, 9, 10, 16, 17, 18] (by decide +kernel) (by decide +kernel)
set_option maxRecDepth 20000 in
theorem gX2_digestChart_X2_hasChart : GoodIn wsX2_digestChart (wsV RX2 33 RX2 yX2_hasChart wsX2_hasChart) := goodIn_app (goodIn_of _ (by decide +kernel)) ggX2_digestChart_X2_hasChart
set_option maxRecDepth 20000 in
theorem ggX2_digestChart_X2_drawnAt : GoodIn wsX2_digestChart wsX2_drawnAt := goodIn_r _ [14, 15, 2, 3, 4, 5, 6, 7, 8, 9, 10, 16, 17, 18] (by decide +kernel) (by decide +kernel)
set_option maxRecDepth 20000 in
theorem gX2_digestChart_X2_drawnAt : GoodIn wsX2_digestChart (wsV RX2 55 RX2 yX2_drawnAt wsX2_drawnAt) := goodIn_app (goodIn_of _ (by decide +kernel)) ggX2_digestChart_X2_drawnAt
theorem dX2_digestChart_0 : decode cX2_digestChart 0 = .ok (.aload_n 0, 1) := by decide +kernel
theorem dX2_digestChart_1 : decode cX2_digestChart 1 = .ok (.iload_n 1, 1) := by decide +kernel
theorem dX2_digestChart_2 : decode cX2_digestChart 2 = .ok (.invokevirtual 33, 3) := by decide +kernel
theorem dX2_digestChart_5 : decode cX2_digestChart 5 = .ok (.ifCond .ne 11, 3) := by decide +kernel
theorem dX2_digestChart_8 : decode cX2_digestChart 8 = .ok (.ldc2_w 53, 3) := by decide +kernel
theorem dX2_digestChart_11 : decode cX2_digestChart 11 = .ok (.lload_n 2, 1) := by decide +kernel
theorem dX2_digestChart_12 : decode cX2_digestChart 12 = .ok (.lmul, 1) := by decide +kernel
theorem dX2_digestChart_13 : decode cX2_digestChart 13 = .ok (.lconst 1, 1) := by decide +kernel
theorem dX2_digestChart_14 : decode cX2_digestChart 14 = .ok (.lsub, 1) := by decide +kernel
theorem dX2_digestChart_15 : decode cX2_digestChart 15 = .ok (.lreturn, 1) := by decide +kernel
theorem dX2_digestChart_16 : decode cX2_digestChart 16 = .ok (.lload_n 2, 1) := by decide +kernel
theorem dX2_digestChart_17 : decode cX2_digestChart 17 = .ok (.lstore 4, 2) := by decide +kernel
theorem dX2_digestChart_19 : decode cX2_digestChart 19 = .ok (.iconst 0, 1) := by decide +kernel
theorem dX2_digestChart_20 : decode cX2_digestChart 20 = .ok (.istore 6, 2) := by decide +kernel
theorem dX2_digestChart_22 : decode cX2_digestChart 22 = .ok (.iload 6, 2) := by decide +kernel
theorem dX2_digestChart_24 : decode cX2_digestChart 24 = .ok (.sipush 160, 3) := by decide +kernel
theorem dX2_digestChart_27 : decode cX2_digestChart 27 = .ok (.if_icmp .ge 26, 3) := by decide +kernel
theorem dX2_digestChart_30 : decode cX2_digestChart 30 = .ok (.ldc2_w 53, 3) := by decide +kernel
theorem dX2_digestChart_33 : decode cX2_digestChart 33 = .ok (.lload 4, 2) := by decide +kernel
theorem dX2_digestChart_35 : decode cX2_digestChart 35 = .ok (.lmul, 1) := by decide +kernel
theorem dX2_digestChart_36 : decode cX2_digestChart 36 = .ok (.aload_n 0, 1) := by decide +kernel
theorem dX2_digestChart_37 : decode cX2_digestChart 37 = .ok (.iload_n 1, 1) := by decide +kernel
theorem dX2_digestChart_38 : decode cX2_digestChart 38 = .ok (.iload 6, 2) := by decide +kernel
theorem dX2_digestChart_40 : decode cX2_digestChart 40 = .ok (.invokevirtual 55, 3) := by decide +kernel
theorem dX2_digestChart_43 : decode cX2_digestChart 43 = .ok (.i2l, 1) := by decide +kernel
theorem dX2_digestChart_44 : decode cX2_digestChart 44 = .ok (.ladd, 1) := by decide +kernel
theorem dX2_digestChart_45 : decode cX2_digestChart 45 = .ok (.lstore 4, 2) := by decide +kernel
theorem dX2_digestChart_47 : decode cX2_digestChart 47 = .ok (.iinc 6 1, 3) := by decide +kernel
theorem dX2_digestChart_50 : decode cX2_digestChart 50 = .ok (.goto (-28), 3) := by decide +kernel
theorem dX2_digestChart_53 : decode cX2_digestChart 53 = .ok (.lload 4, 2) := by decide +kernel
theorem dX2_digestChart_55 : decode cX2_digestChart 55 = .ok (.lreturn, 1) := by decide +kernel
set_option maxRecDepth 20000 in
theorem ggX3_init_Jx4a65c_init_da8c8 : GoodIn wsX3_init wsJx4a65c_init_da8c8 := goodIn_r _ [23, 24, 25, 26, 27, 28, 29, 30, 31, 32, 33, 34, 35, 2, 3, 36, 37, 38] (by decide +kernel) (by decide +kernel)
set_option maxRecDepth 20000 in
theorem gX3_init_Jx4a65c_init_da8c8 : GoodIn wsX3_init (wsJx4a65c_init_da8c8) := ggX3_init_Jx4a65c_init_da8c8
theorem dX3_init_0 : decode cX3_init 0 = .ok (.aload_n 0, 1) := by decide +kernel
theorem dX3_init_1 : decode cX3_init 1 = .ok (.invokespecial 3, 3) := by decide +kernel
theorem dX3_init_4 : decode cX3_init 4 = .ok (.aload_n 0, 1) := by decide +kernel
theorem dX3_init_5 : decode cX3_init 5 = .ok (.new 9, 3) := by decide +kernel
theorem dX3_init_8 : decode cX3_init 8 = .ok (.dup, 1) := by decide +kernel
theorem dX3_init_9 : decode cX3_init 9 = .ok (.invokespecial 11, 3) := by decide +kernel
theorem dX3_init_12 : decode cX3_init 12 = .ok (.putfield 12, 3) := by decide +kernel
theorem dX3_init_15 : decode cX3_init 15 = .ok (.aload_n 0, 1) := by decide +kernel
theorem dX3_init_16 : decode cX3_init 16 = .ok (.new 9, 3) := by decide +kernel
theorem dX3_init_19 : decode cX3_init 19 = .ok (.dup, 1) := by decide +kernel
theorem dX3_init_20 : decode cX3_init 20 = .ok (.invokespecial 11, 3) := by decide +kernel
theorem dX3_init_23 : decode cX3_init 23 = .ok (.putfield 18, 3) := by decide +kernel
theorem dX3_init_26 : decode cX3_init 26 = .ok (.aload_n 0, 1) := by decide +kernel
theorem dX3_init_27 : decode cX3_init 27 = .ok (.iconst 0, 1) := by decide +kernel
theorem dX3_init_28 : decode cX3_init 28 = .ok (.putfield 21, 3) := by decide +kernel
theorem dX3_init_31 : decode cX3_init 31 = .ok (.aload_n 0, 1) := by decide +kernel
theorem dX3_init_32 : decode cX3_init 32 = .ok (.iconst 0, 1) := by decide +kernel
theorem dX3_init_33 : decode cX3_init 33 = .ok (.putfield 25, 3) := by decide +kernel
theorem dX3_init_36 : decode cX3_init 36 = .ok (.aload_n 0, 1) := by decide +kernel
theorem dX3_init_37 : decode cX3_init 37 = .ok (.iconst 0, 1) := by decide +kernel
theorem dX3_init_38 : decode cX3_init 38 = .ok (.putfield 28, 3) := by decide +kernel
theorem dX3_init_41 : decode cX3_init 41 = .ok (.aload_n 0, 1) := by decide +kernel
theorem dX3_init_42 : decode cX3_init 42 = .ok (.iconst 0, 1) := by decide +kernel
theorem dX3_init_43 : decode cX3_init 43 = .ok (.putfield 31, 3) := by decide +kernel
theorem dX3_init_46 : decode cX3_init 46 = .ok (.aload_n 0, 1) := by decide +kernel
theorem dX3_init_47 : decode cX3_init 47 = .ok (.bipush (-9), 2) := by decide +kernel
theorem dX3_init_49 : decode cX3_init 49 = .ok (.putfield 34, 3) := by decide +kernel
theorem dX3_init_52 : decode cX3_init 52 = .ok (.aload_n 0, 1) := by decide +kernel
theorem dX3_init_53 : decode cX3_init 53 = .ok (.bipush (-9), 2) := by decide +kernel
theorem dX3_init_55 : decode cX3_init 55 = .ok (.putfield 37, 3) := by decide +kernel
theorem dX3_init_58 : decode cX3_init 58 = .ok (.aload_n 0, 1) := by decide +kernel
theorem dX3_init_59 : decode cX3_init 59 = .ok (.iconst 0, 1) := by decide +kernel
theorem dX3_init_60 : decode cX3_init 60 = .ok (.putfield 40, 3) := by decide +kernel
theorem dX3_init_63 : decode cX3_init 63 = .ok (.aload_n 0, 1) := by decide +kernel
theorem dX3_init_64 : decode cX3_init 64 = .ok (.iconst 0, 1) := by decide +kernel
theorem dX3_init_65 : decode cX3_init 65 = .ok (.putfield 43, 3) := by decide +kernel
theorem dX3_init_68 : decode cX3_init 68 = .ok (.aload_n 0, 1) := by decide +kernel
theorem dX3_init_69 : decode cX3_init 69 = .ok (.iload_n 1, 1) := by decide +kernel
theorem dX3_init_70 : decode cX3_init 70 = .ok (.putfield 46, 3) := by decide +kernel
theorem dX3_init_73 : decode cX3_init 73 = .ok (.aload_n 0, 1) := by decide +kernel
theorem dX3_init_74 : decode cX3_init 74 = .ok (.iload_n 2, 1) := by decide +kernel
theorem dX3_init_75 : decode cX3_init 75 = .ok (.putfield 49, 3) := by decide +kernel
theorem dX3_init_78 : decode cX3_init 78 = .ok (.aload_n 0, 1) := by decide +kernel
theorem dX3_init_79 : decode cX3_init 79 = .ok (.iload_n 3, 1) := by decide +kernel
theorem dX3_init_80 : decode cX3_init 80 = .ok (.putfield 52, 3) := by decide +kernel
theorem dX3_init_83 : decode cX3_init 83 = .ok (.aload_n 0, 1) := by decide +kernel
theorem dX3_init_84 : decode cX3_init 84 = .ok (.iload 4, 2) := by decide +kernel
theorem dX3_init_86 : decode cX3_init 86 = .ok (.putfield 55, 3) := by decide +kernel
theorem dX3_init_89 : decode cX3_init 89 = .ok (.return_, 1) := by decide +kernel
theorem dX3_isHome_0 : decode cX3_isHome 0 = .ok (.aload_n 0, 1) := by decide +kernel
theorem dX3_isHome_1 : decode cX3_isHome 1 = .ok (.getfield 34, 3) := by decide +kernel
theorem dX3_isHome_4 : decode cX3_isHome 4 = .ok (.bipush (-9), 2) := by decide +kernel
theorem dX3_isHome_6 : decode cX3_isHome 6 = .ok (.if_icmp .eq 7, 3) := by decide +kernel
theorem dX3_isHome_9 : decode cX3_isHome 9 = .ok (.iconst 1, 1) := by decide +kernel
theorem dX3_isHome_10 : decode cX3_isHome 10 = .ok (.goto 4, 3) := by decide +kernel
theorem dX3_isHome_13 : decode cX3_isHome 13 = .ok (.iconst 0, 1) := by decide +kernel
theorem dX3_isHome_14 : decode cX3_isHome 14 = .ok (.ireturn, 1) := by decide +kernel
theorem dX3_isOf_0 : decode cX3_isOf 0 = .ok (.aload_n 0, 1) := by decide +kernel
theorem dX3_isOf_1 : decode cX3_isOf 1 = .ok (.getfield 49, 3) := by decide +kernel
theorem dX3_isOf_4 : decode cX3_isOf 4 = .ok (.iload_n 1, 1) := by decide +kernel
theorem dX3_isOf_5 : decode cX3_isOf 5 = .ok (.if_icmp .eq 16, 3) := by decide +kernel
theorem dX3_isOf_8 : decode cX3_isOf 8 = .ok (.aload_n 0, 1) := by decide +kernel
theorem dX3_isOf_9 : decode cX3_isOf 9 = .ok (.getfield 49, 3) := by decide +kernel
theorem dX3_isOf_12 : decode cX3_isOf 12 = .ok (.iconst 3, 1) := by decide +kernel
theorem dX3_isOf_13 : decode cX3_isOf 13 = .ok (.if_icmp .ne 12, 3) := by decide +kernel
theorem dX3_isOf_16 : decode cX3_isOf 16 = .ok (.iload_n 1, 1) := by decide +kernel
theorem dX3_isOf_17 : decode cX3_isOf 17 = .ok (.iconst 1, 1) := by decide +kernel
theorem dX3_isOf_18 : decode cX3_isOf 18 = .ok (.if_icmp .ne 7, 3) := by decide +kernel
theorem dX3_isOf_21 : decode cX3_isOf 21 = .ok (.iconst 1, 1) := by decide +kernel
theorem dX3_isOf_22 : decode cX3_isOf 22 = .ok (.goto 4, 3) := by decide +kernel
theorem dX3_isOf_25 : decode cX3_isOf 25 = .ok (.iconst 0, 1) := by decide +kernel
theorem dX3_isOf_26 : decode cX3_isOf 26 = .ok (.ireturn, 1) := by decide +kernel
set_option maxRecDepth 20000 in
theorem ggX3_speedIn_X5_eighthsBetween : GoodIn wsX3_speedIn wsX5_eighthsBetween := goodIn_r _ [9, 10, 11, 5, 12, 13, 14, 15] (by decide +kernel) (by decide +kernel)
set_option maxRecDepth 20000 in
theorem gX3_speedIn_X5_eighthsBetween_n58 : GoodIn wsX3_speedIn (wsX5_eighthsBetween) := ggX3_speedIn_X5_eighthsBetween
set_option maxRecDepth 20000 in
theorem ggX3_speedIn_X5_strengthOf : GoodIn wsX3_speedIn wsX5_strengthOf := goodIn_r _ [17] (by decide +kernel) (by decide +kernel)
set_option maxRecDepth 20000 in
theorem gX3_speedIn_X5_strengthOf_n62 : GoodIn wsX3_speedIn (wsX5_strengthOf) := ggX3_speedIn_X5_strengthOf
set_option maxRecDepth 20000 in
theorem ggX3_speedIn_X3_sailSpeed : GoodIn wsX3_speedIn wsX3_sailSpeed := goodIn_r _ [22, 23, 24, 25, 21, 26, 1, 27, 28, 29, 30, 31, 32, 33, 34, 35, 36, 37, 38, 39, 40] (by decide +kernel) (by decide +kernel)
set_option maxRecDepth 20000 in
theorem gX3_speedIn_X3_sailSpeed : GoodIn wsX3_speedIn (wsV RX3 66 RX3 yX3_sailSpeed wsX3_sailSpeed) := goodIn_app (goodIn_of _ (by decide +kernel)) ggX3_speedIn_X3_sailSpeed
theorem dX3_speedIn_0 : decode cX3_speedIn 0 = .ok (.aload_n 0, 1) := by decide +kernel
theorem dX3_speedIn_1 : decode cX3_speedIn 1 = .ok (.getfield 49, 3) := by decide +kernel
theorem dX3_speedIn_4 : decode cX3_speedIn 4 = .ok (.iconst 2, 1) := by decide +kernel
theorem dX3_speedIn_5 : decode cX3_speedIn 5 = .ok (.if_icmp .ne 8, 3) := by decide +kernel
theorem dX3_speedIn_8 : decode cX3_speedIn 8 = .ok (.bipush 8, 2) := by decide +kernel
theorem dX3_speedIn_10 : decode cX3_speedIn 10 = .ok (.goto 19, 3) := by decide +kernel
theorem dX3_speedIn_13 : decode cX3_speedIn 13 = .ok (.aload_n 0, 1) := by decide +kernel
theorem dX3_speedIn_14 : decode cX3_speedIn 14 = .ok (.iload_n 1, 1) := by decide +kernel
theorem dX3_speedIn_15 : decode cX3_speedIn 15 = .ok (.iload_n 2, 1) := by decide +kernel
theorem dX3_speedIn_16 : decode cX3_speedIn 16 = .ok (.bipush 10, 2) := by decide +kernel
theorem dX3_speedIn_18 : decode cX3_speedIn 18 = .ok (.idiv, 1) := by decide +kernel
theorem dX3_speedIn_19 : decode cX3_speedIn 19 = .ok (.invokestatic 58, 3) := by decide +kernel
theorem dX3_speedIn_22 : decode cX3_speedIn 22 = .ok (.iload_n 2, 1) := by decide +kernel
theorem dX3_speedIn_23 : decode cX3_speedIn 23 = .ok (.invokestatic 62, 3) := by decide +kernel
theorem dX3_speedIn_26 : decode cX3_speedIn 26 = .ok (.invokevirtual 66, 3) := by decide +kernel
theorem dX3_speedIn_29 : decode cX3_speedIn 29 = .ok (.istore_n 3, 1) := by decide +kernel
theorem dX3_speedIn_30 : decode cX3_speedIn 30 = .ok (.iconst 0, 1) := by decide +kernel
theorem dX3_speedIn_31 : decode cX3_speedIn 31 = .ok (.iload_n 3, 1) := by decide +kernel
theorem dX3_speedIn_32 : decode cX3_speedIn 32 = .ok (.aload_n 0, 1) := by decide +kernel
theorem dX3_speedIn_33 : decode cX3_speedIn 33 = .ok (.getfield 28, 3) := by decide +kernel
theorem dX3_speedIn_36 : decode cX3_speedIn 36 = .ok (.isub, 1) := by decide +kernel
theorem dX3_speedIn_37 : decode cX3_speedIn 37 = .ok (.invokestatic 69, 3) := by decide +kernel
theorem dX3_speedIn_40 : decode cX3_speedIn 40 = .ok (.ireturn, 1) := by decide +kernel
set_option maxRecDepth 20000 in
theorem ggX3_sailSpeed_X3_moreAcrossTheWind : GoodIn wsX3_sailSpeed wsX3_moreAcrossTheWind := goodIn_r _ [5, 6, 7, 8, 9, 10, 11, 12, 13, 14, 15, 16, 17, 18, 19, 20] (by decide +kernel) (by decide +kernel)
set_option maxRecDepth 20000 in
theorem gX3_sailSpeed_X3_moreAcrossTheWind : GoodIn wsX3_sailSpeed (wsV RX3 74 RX3 yX3_moreAcrossTheWind wsX3_moreAcrossTheWind) := goodIn_app (goodIn_of _ (by decide +kernel)) ggX3_sailSpeed_X3_moreAcrossTheWind
theorem dX3_sailSpeed_0 : decode cX3_sailSpeed 0 = .ok (.iload_n 1, 1) := by decide +kernel
theorem dX3_sailSpeed_1 : decode cX3_sailSpeed 1 = .ok (.tableswitch 55 1 4 #[31, 33, 42, 51], 31) := by decide +kernel
theorem dX3_sailSpeed_32 : decode cX3_sailSpeed 32 = .ok (.iload_n 2, 1) := by decide +kernel
theorem dX3_sailSpeed_33 : decode cX3_sailSpeed 33 = .ok (.ireturn, 1) := by decide +kernel
theorem dX3_sailSpeed_34 : decode cX3_sailSpeed 34 = .ok (.iconst 2, 1) := by decide +kernel
theorem dX3_sailSpeed_35 : decode cX3_sailSpeed 35 = .ok (.aload_n 0, 1) := by decide +kernel
theorem dX3_sailSpeed_36 : decode cX3_sailSpeed 36 = .ok (.invokevirtual 74, 3) := by decide +kernel
theorem dX3_sailSpeed_39 : decode cX3_sailSpeed 39 = .ok (.iadd, 1) := by decide +kernel
theorem dX3_sailSpeed_40 : decode cX3_sailSpeed 40 = .ok (.iload_n 2, 1) := by decide +kernel
theorem dX3_sailSpeed_41 : decode cX3_sailSpeed 41 = .ok (.imul, 1) := by decide +kernel
theorem dX3_sailSpeed_42 : decode cX3_sailSpeed 42 = .ok (.ireturn, 1) := by decide +kernel
theorem dX3_sailSpeed_43 : decode cX3_sailSpeed 43 = .ok (.iconst 3, 1) := by decide +kernel
theorem dX3_sailSpeed_44 : decode cX3_sailSpeed 44 = .ok (.aload_n 0, 1) := by decide +kernel
theorem dX3_sailSpeed_45 : decode cX3_sailSpeed 45 = .ok (.invokevirtual 74, 3) := by decide +kernel
theorem dX3_sailSpeed_48 : decode cX3_sailSpeed 48 = .ok (.iadd, 1) := by decide +kernel
theorem dX3_sailSpeed_49 : decode cX3_sailSpeed 49 = .ok (.iload_n 2, 1) := by decide +kernel
theorem dX3_sailSpeed_50 : decode cX3_sailSpeed 50 = .ok (.imul, 1) := by decide +kernel
theorem dX3_sailSpeed_51 : decode cX3_sailSpeed 51 = .ok (.ireturn, 1) := by decide +kernel
theorem dX3_sailSpeed_52 : decode cX3_sailSpeed 52 = .ok (.iconst 2, 1) := by decide +kernel
theorem dX3_sailSpeed_53 : decode cX3_sailSpeed 53 = .ok (.iload_n 2, 1) := by decide +kernel
theorem dX3_sailSpeed_54 : decode cX3_sailSpeed 54 = .ok (.imul, 1) := by decide +kernel
theorem dX3_sailSpeed_55 : decode cX3_sailSpeed 55 = .ok (.ireturn, 1) := by decide +kernel
theorem dX3_sailSpeed_56 : decode cX3_sailSpeed 56 = .ok (.iconst 0, 1) := by decide +kernel
theorem dX3_sailSpeed_57 : decode cX3_sailSpeed 57 = .ok (.ireturn, 1) := by decide +kernel
theorem dX3_moreAcrossTheWind_0 : decode cX3_moreAcrossTheWind 0 = .ok (.aload_n 0, 1) := by decide +kernel
theorem dX3_moreAcrossTheWind_1 : decode cX3_moreAcrossTheWind 1 = .ok (.getfield 49, 3) := by decide +kernel
theorem dX3_moreAcrossTheWind_4 : decode cX3_moreAcrossTheWind 4 = .ok (.iconst 3, 1) := by decide +kernel
theorem dX3_moreAcrossTheWind_5 : decode cX3_moreAcrossTheWind 5 = .ok (.if_icmp .ne 5, 3) := by decide +kernel
theorem dX3_moreAcrossTheWind_8 : decode cX3_moreAcrossTheWind 8 = .ok (.iconst 2, 1) := by decide +kernel
theorem dX3_moreAcrossTheWind_9 : decode cX3_moreAcrossTheWind 9 = .ok (.ireturn, 1) := by decide +kernel
theorem dX3_moreAcrossTheWind_10 : decode cX3_moreAcrossTheWind 10 = .ok (.aload_n 0, 1) := by decide +kernel
theorem dX3_moreAcrossTheWind_11 : decode cX3_moreAcrossTheWind 11 = .ok (.getfield 49, 3) := by decide +kernel
theorem dX3_moreAcrossTheWind_14 : decode cX3_moreAcrossTheWind 14 = .ok (.iconst 1, 1) := by decide +kernel
theorem dX3_moreAcrossTheWind_15 : decode cX3_moreAcrossTheWind 15 = .ok (.if_icmp .ne 7, 3) := by decide +kernel
theorem dX3_moreAcrossTheWind_18 : decode cX3_moreAcrossTheWind 18 = .ok (.iconst 1, 1) := by decide +kernel
theorem dX3_moreAcrossTheWind_19 : decode cX3_moreAcrossTheWind 19 = .ok (.goto 4, 3) := by decide +kernel
theorem dX3_moreAcrossTheWind_22 : decode cX3_moreAcrossTheWind 22 = .ok (.iconst 0, 1) := by decide +kernel
theorem dX3_moreAcrossTheWind_23 : decode cX3_moreAcrossTheWind 23 = .ok (.ireturn, 1) := by decide +kernel
set_option maxRecDepth 20000 in
theorem ggX3_askWay_Jx4a65c_size_8abf5 : GoodIn wsX3_askWay wsJx4a65c_size_8abf5 := goodIn_r _ [10, 11, 62, 63, 64] (by decide +kernel) (by decide +kernel)
set_option maxRecDepth 20000 in
theorem gX3_askWay_Jx4a65c_size_8abf5_f78Jx4a65c : GoodIn wsX3_askWay (va_wsF RX3 78 RJx4a65c ⟨"java/util/List", "size", "()I"⟩ yJx4a65c_size_8abf5 wsJx4a65c_size_8abf5) := goodIn_app (goodIn_of _ (by decide +kernel)) ggX3_askWay_Jx4a65c_size_8abf5
set_option maxRecDepth 20000 in
theorem ggX3_askWay_Jx4a65c_get_915e3 : GoodIn wsX3_askWay wsJx4a65c_get_915e3 := goodIn_r _ [15, 11, 16, 17, 18, 19, 20, 21, 22, 23, 24, 25, 26, 9, 27, 28, 62, 63, 64] (by decide +kernel) (by decide +kernel)
set_option maxRecDepth 20000 in
theorem gX3_askWay_Jx4a65c_get_915e3_f83Jx4a65c : GoodIn wsX3_askWay (va_wsF RX3 83 RJx4a65c ⟨"java/util/List", "get", "(I)Ljava/lang/Object;"⟩ yJx4a65c_get_915e3 wsJx4a65c_get_915e3) := goodIn_app (goodIn_of _ (by decide +kernel)) ggX3_askWay_Jx4a65c_get_915e3
set_option maxRecDepth 20000 in
theorem ggX3_askWay_X5_strengthOf : GoodIn wsX3_askWay wsX5_strengthOf := goodIn_r _ [31] (by decide +kernel) (by decide +kernel)
set_option maxRecDepth 20000 in
theorem gX3_askWay_X5_strengthOf_n62 : GoodIn wsX3_askWay (wsX5_strengthOf) := ggX3_askWay_X5_strengthOf
set_option maxRecDepth 20000 in
theorem ggX3_askWay_X0_fits : GoodIn wsX3_askWay wsX0_fits := goodIn_r _ [36, 37, 38, 39, 40, 41, 56, 57, 58, 59, 60, 61] (by decide +kernel) (by decide +kernel)
set_option maxRecDepth 20000 in
theorem gX3_askWay_X0_fits : GoodIn wsX3_askWay (wsV RX3 89 RX0 yX0_fits wsX0_fits) := goodIn_app (goodIn_of _ (by decide +kernel)) ggX3_askWay_X0_fits
theorem dX3_askWay_0 : decode cX3_askWay 0 = .ok (.iconst 0, 1) := by decide +kernel
theorem dX3_askWay_1 : decode cX3_askWay 1 = .ok (.istore_n 2, 1) := by decide +kernel
theorem dX3_askWay_2 : decode cX3_askWay 2 = .ok (.iload_n 2, 1) := by decide +kernel
theorem dX3_askWay_3 : decode cX3_askWay 3 = .ok (.aload_n 0, 1) := by decide +kernel
theorem dX3_askWay_4 : decode cX3_askWay 4 = .ok (.getfield 12, 3) := by decide +kernel
theorem dX3_askWay_7 : decode cX3_askWay 7 = .ok (.invokeinterface 78 1, 5) := by decide +kernel
theorem dX3_askWay_12 : decode cX3_askWay 12 = .ok (.if_icmp .ge 47, 3) := by decide +kernel
theorem dX3_askWay_15 : decode cX3_askWay 15 = .ok (.aload_n 0, 1) := by decide +kernel
theorem dX3_askWay_16 : decode cX3_askWay 16 = .ok (.getfield 12, 3) := by decide +kernel
theorem dX3_askWay_19 : decode cX3_askWay 19 = .ok (.iload_n 2, 1) := by decide +kernel
theorem dX3_askWay_20 : decode cX3_askWay 20 = .ok (.invokeinterface 83 2, 5) := by decide +kernel
theorem dX3_askWay_25 : decode cX3_askWay 25 = .ok (.checkcast 87, 3) := by decide +kernel
theorem dX3_askWay_28 : decode cX3_askWay 28 = .ok (.astore_n 3, 1) := by decide +kernel
theorem dX3_askWay_29 : decode cX3_askWay 29 = .ok (.aload_n 3, 1) := by decide +kernel
theorem dX3_askWay_30 : decode cX3_askWay 30 = .ok (.aload_n 0, 1) := by decide +kernel
theorem dX3_askWay_31 : decode cX3_askWay 31 = .ok (.getfield 52, 3) := by decide +kernel
theorem dX3_askWay_34 : decode cX3_askWay 34 = .ok (.iload_n 1, 1) := by decide +kernel
theorem dX3_askWay_35 : decode cX3_askWay 35 = .ok (.invokestatic 62, 3) := by decide +kernel
theorem dX3_askWay_38 : decode cX3_askWay 38 = .ok (.invokevirtual 89, 3) := by decide +kernel
theorem dX3_askWay_41 : decode cX3_askWay 41 = .ok (.ifCond .eq 12, 3) := by decide +kernel
theorem dX3_askWay_44 : decode cX3_askWay 44 = .ok (.aload_n 0, 1) := by decide +kernel
theorem dX3_askWay_45 : decode cX3_askWay 45 = .ok (.aload_n 3, 1) := by decide +kernel
theorem dX3_askWay_46 : decode cX3_askWay 46 = .ok (.getfield 93, 3) := by decide +kernel
theorem dX3_askWay_49 : decode cX3_askWay 49 = .ok (.putfield 25, 3) := by decide +kernel
theorem dX3_askWay_52 : decode cX3_askWay 52 = .ok (.return_, 1) := by decide +kernel
theorem dX3_askWay_53 : decode cX3_askWay 53 = .ok (.iinc 2 1, 3) := by decide +kernel
theorem dX3_askWay_56 : decode cX3_askWay 56 = .ok (.goto (-54), 3) := by decide +kernel
theorem dX3_askWay_59 : decode cX3_askWay 59 = .ok (.return_, 1) := by decide +kernel
theorem dX3_beats_0 : decode cX3_beats 0 = .ok (.aload_n 0, 1) := by decide +kernel
theorem dX3_beats_1 : decode cX3_beats 1 = .ok (.getfield 37, 3) := by decide +kernel
theorem dX3_beats_4 : decode cX3_beats 4 = .ok (.aload_n 1, 1) := by decide +kernel
theorem dX3_beats_5 : decode cX3_beats 5 = .ok (.getfield 37, 3) := by decide +kernel
theorem dX3_beats_8 : decode cX3_beats 8 = .ok (.if_icmp .eq 20, 3) := by decide +kernel
theorem dX3_beats_11 : decode cX3_beats 11 = .ok (.aload_n 0, 1) := by decide +kernel
theorem dX3_beats_12 : decode cX3_beats 12 = .ok (.getfield 37, 3) := by decide +kernel
theorem dX3_beats_15 : decode cX3_beats 15 = .ok (.aload_n 1, 1) := by decide +kernel
theorem dX3_beats_16 : decode cX3_beats 16 = .ok (.getfield 37, 3) := by decide +kernel
theorem dX3_beats_19 : decode cX3_beats 19 = .ok (.if_icmp .ge 7, 3) := by decide +kernel
theorem dX3_beats_22 : decode cX3_beats 22 = .ok (.iconst 1, 1) := by decide +kernel
theorem dX3_beats_23 : decode cX3_beats 23 = .ok (.goto 4, 3) := by decide +kernel
theorem dX3_beats_26 : decode cX3_beats 26 = .ok (.iconst 0, 1) := by decide +kernel
theorem dX3_beats_27 : decode cX3_beats 27 = .ok (.ireturn, 1) := by decide +kernel
theorem dX3_beats_28 : decode cX3_beats 28 = .ok (.aload_n 0, 1) := by decide +kernel
theorem dX3_beats_29 : decode cX3_beats 29 = .ok (.getfield 34, 3) := by decide +kernel
theorem dX3_beats_32 : decode cX3_beats 32 = .ok (.aload_n 1, 1) := by decide +kernel
theorem dX3_beats_33 : decode cX3_beats 33 = .ok (.getfield 34, 3) := by decide +kernel
theorem dX3_beats_36 : decode cX3_beats 36 = .ok (.if_icmp .eq 20, 3) := by decide +kernel
theorem dX3_beats_39 : decode cX3_beats 39 = .ok (.aload_n 0, 1) := by decide +kernel
theorem dX3_beats_40 : decode cX3_beats 40 = .ok (.getfield 34, 3) := by decide +kernel
theorem dX3_beats_43 : decode cX3_beats 43 = .ok (.aload_n 1, 1) := by decide +kernel
theorem dX3_beats_44 : decode cX3_beats 44 = .ok (.getfield 34, 3) := by decide +kernel
theorem dX3_beats_47 : decode cX3_beats 47 = .ok (.if_icmp .ge 7, 3) := by decide +kernel
theorem dX3_beats_50 : decode cX3_beats 50 = .ok (.iconst 1, 1) := by decide +kernel
theorem dX3_beats_51 : decode cX3_beats 51 = .ok (.goto 4, 3) := by decide +kernel
theorem dX3_beats_54 : decode cX3_beats 54 = .ok (.iconst 0, 1) := by decide +kernel
theorem dX3_beats_55 : decode cX3_beats 55 = .ok (.ireturn, 1) := by decide +kernel
theorem dX3_beats_56 : decode cX3_beats 56 = .ok (.aload_n 0, 1) := by decide +kernel
theorem dX3_beats_57 : decode cX3_beats 57 = .ok (.getfield 46, 3) := by decide +kernel
theorem dX3_beats_60 : decode cX3_beats 60 = .ok (.aload_n 1, 1) := by decide +kernel
theorem dX3_beats_61 : decode cX3_beats 61 = .ok (.getfield 46, 3) := by decide +kernel
theorem dX3_beats_64 : decode cX3_beats 64 = .ok (.if_icmp .ge 7, 3) := by decide +kernel
theorem dX3_beats_67 : decode cX3_beats 67 = .ok (.iconst 1, 1) := by decide +kernel
theorem dX3_beats_68 : decode cX3_beats 68 = .ok (.goto 4, 3) := by decide +kernel
theorem dX3_beats_71 : decode cX3_beats 71 = .ok (.iconst 0, 1) := by decide +kernel
theorem dX3_beats_72 : decode cX3_beats 72 = .ok (.ireturn, 1) := by decide +kernel
theorem dX3_entersBefore_0 : decode cX3_entersBefore 0 = .ok (.aload_n 0, 1) := by decide +kernel
theorem dX3_entersBefore_1 : decode cX3_entersBefore 1 = .ok (.getfield 37, 3) := by decide +kernel
theorem dX3_entersBefore_4 : decode cX3_entersBefore 4 = .ok (.aload_n 1, 1) := by decide +kernel
theorem dX3_entersBefore_5 : decode cX3_entersBefore 5 = .ok (.getfield 37, 3) := by decide +kernel
theorem dX3_entersBefore_8 : decode cX3_entersBefore 8 = .ok (.if_icmp .lt 25, 3) := by decide +kernel
theorem dX3_entersBefore_11 : decode cX3_entersBefore 11 = .ok (.aload_n 0, 1) := by decide +kernel
theorem dX3_entersBefore_12 : decode cX3_entersBefore 12 = .ok (.getfield 37, 3) := by decide +kernel
theorem dX3_entersBefore_15 : decode cX3_entersBefore 15 = .ok (.aload_n 1, 1) := by decide +kernel
theorem dX3_entersBefore_16 : decode cX3_entersBefore 16 = .ok (.getfield 37, 3) := by decide +kernel
theorem dX3_entersBefore_19 : decode cX3_entersBefore 19 = .ok (.if_icmp .ne 18, 3) := by decide +kernel
theorem dX3_entersBefore_22 : decode cX3_entersBefore 22 = .ok (.aload_n 0, 1) := by decide +kernel
theorem dX3_entersBefore_23 : decode cX3_entersBefore 23 = .ok (.getfield 46, 3) := by decide +kernel
theorem dX3_entersBefore_26 : decode cX3_entersBefore 26 = .ok (.aload_n 1, 1) := by decide +kernel
theorem dX3_entersBefore_27 : decode cX3_entersBefore 27 = .ok (.getfield 46, 3) := by decide +kernel
theorem dX3_entersBefore_30 : decode cX3_entersBefore 30 = .ok (.if_icmp .ge 7, 3) := by decide +kernel
theorem dX3_entersBefore_33 : decode cX3_entersBefore 33 = .ok (.iconst 1, 1) := by decide +kernel
theorem dX3_entersBefore_34 : decode cX3_entersBefore 34 = .ok (.goto 4, 3) := by decide +kernel
theorem dX3_entersBefore_37 : decode cX3_entersBefore 37 = .ok (.iconst 0, 1) := by decide +kernel
theorem dX3_entersBefore_38 : decode cX3_entersBefore 38 = .ok (.ireturn, 1) := by decide +kernel
set_option maxRecDepth 20000 in
theorem ggX3_isUnseenFrom_X3_firstSightFrom : GoodIn wsX3_isUnseenFrom wsX3_firstSightFrom := goodIn_r _ [5, 6, 7, 8, 9, 10, 11, 12, 13, 14, 15, 16, 17, 18, 19, 20, 21, 22, 23, 24, 25, 26, 27, 28, 29, 30, 31, 32, 33, 34, 35, 36, 37, 38, 39, 40, 41, 42, 43, 44, 45, 46, 47, 48, 49, 50] (by decide +kernel) (by decide +kernel)
set_option maxRecDepth 20000 in
theorem gX3_isUnseenFrom_X3_firstSightFrom : GoodIn wsX3_isUnseenFrom (wsV RX3 94 RX3 yX3_firstSightFrom wsX3_firstSightFrom) := goodIn_app (goodIn_of _ (by decide +kernel)) ggX3_isUnseenFrom_X3_firstSightFrom
theorem dX3_isUnseenFrom_0 : decode cX3_isUnseenFrom 0 = .ok (.aload_n 0, 1) := by decide +kernel
theorem dX3_isUnseenFrom_1 : decode cX3_isUnseenFrom 1 = .ok (.iload_n 1, 1) := by decide +kernel
theorem dX3_isUnseenFrom_2 : decode cX3_isUnseenFrom 2 = .ok (.invokevirtual 94, 3) := by decide +kernel
theorem dX3_isUnseenFrom_5 : decode cX3_isUnseenFrom 5 = .ok (.ifnonnull 7, 3) := by decide +kernel
theorem dX3_isUnseenFrom_8 : decode cX3_isUnseenFrom 8 = .ok (.iconst 1, 1) := by decide +kernel
theorem dX3_isUnseenFrom_9 : decode cX3_isUnseenFrom 9 = .ok (.goto 4, 3) := by decide +kernel
theorem dX3_isUnseenFrom_12 : decode cX3_isUnseenFrom 12 = .ok (.iconst 0, 1) := by decide +kernel
theorem dX3_isUnseenFrom_13 : decode cX3_isUnseenFrom 13 = .ok (.ireturn, 1) := by decide +kernel
set_option maxRecDepth 20000 in
theorem ggX3_isSeenAround_X3_lastSightBy : GoodIn wsX3_isSeenAround wsX3_lastSightBy := goodIn_r _ [5, 6, 7, 8, 9, 10, 11, 12, 13, 14, 15, 16, 17, 18, 19, 20, 21, 22, 23, 24, 25, 26, 27, 28, 29, 30, 31, 36, 37, 38, 39, 40, 41, 42, 43, 44, 45, 46, 47, 48, 49, 50, 51, 52, 53, 54] (by decide +kernel) (by decide +kernel)
set_option maxRecDepth 20000 in
theorem gX3_isSeenAround_X3_lastSightBy : GoodIn wsX3_isSeenAround (wsV RX3 98 RX3 yX3_lastSightBy wsX3_lastSightBy) := goodIn_app (goodIn_of _ (by decide +kernel)) ggX3_isSeenAround_X3_lastSightBy
set_option maxRecDepth 20000 in
theorem ggX3_isSeenAround_X3_firstSightFrom : GoodIn wsX3_isSeenAround wsX3_firstSightFrom := goodIn_r _ [35, 6, 7, 8, 9, 10, 11, 12, 13, 14, 15, 16, 17, 18, 19, 20, 21, 22, 23, 24, 25, 26, 27, 28, 29, 30, 31, 36, 37, 38, 39, 40, 41, 42, 43, 44, 45, 46, 47, 48, 49, 50, 51, 52, 53, 54] (by decide +kernel) (by decide +kernel)
set_option maxRecDepth 20000 in
theorem gX3_isSeenAround_X3_firstSightFrom : GoodIn wsX3_isSeenAround (wsV RX3 94 RX3 yX3_firstSightFrom wsX3_firstSightFrom) := goodIn_app (goodIn_of _ (by decide +kernel)) ggX3_isSeenAround_X3_firstSightFrom
theorem dX3_isSeenAround_0 : decode cX3_isSeenAround 0 = .ok (.aload_n 0, 1) := by decide +kernel
theorem dX3_isSeenAround_1 : decode cX3_isSeenAround 1 = .ok (.iload_n 1, 1) := by decide +kernel
theorem dX3_isSeenAround_2 : decode cX3_isSeenAround 2 = .ok (.invokevirtual 98, 3) := by decide +kernel
theorem dX3_isSeenAround_5 : decode cX3_isSeenAround 5 = .ok (.ifnull 15, 3) := by decide +kernel
theorem dX3_isSeenAround_8 : decode cX3_isSeenAround 8 = .ok (.aload_n 0, 1) := by decide +kernel
theorem dX3_isSeenAround_9 : decode cX3_isSeenAround 9 = .ok (.iload_n 1, 1) := by decide +kernel
theorem dX3_isSeenAround_10 : decode cX3_isSeenAround 10 = .ok (.invokevirtual 94, 3) := by decide +kernel
theorem dX3_isSeenAround_13 : decode cX3_isSeenAround 13 = .ok (.ifnull 7, 3) := by decide +kernel
theorem dX3_isSeenAround_16 : decode cX3_isSeenAround 16 = .ok (.iconst 1, 1) := by decide +kernel
theorem dX3_isSeenAround_17 : decode cX3_isSeenAround 17 = .ok (.goto 4, 3) := by decide +kernel
theorem dX3_isSeenAround_20 : decode cX3_isSeenAround 20 = .ok (.iconst 0, 1) := by decide +kernel
theorem dX3_isSeenAround_21 : decode cX3_isSeenAround 21 = .ok (.ireturn, 1) := by decide +kernel
set_option maxRecDepth 20000 in
theorem ggX3_lastSightBy_Jx4a65c_size_8abf5 : GoodIn wsX3_lastSightBy wsJx4a65c_size_8abf5 := goodIn_r _ [8, 9, 43, 44, 45] (by decide +kernel) (by decide +kernel)
set_option maxRecDepth 20000 in
theorem gX3_lastSightBy_Jx4a65c_size_8abf5_f78Jx4a65c : GoodIn wsX3_lastSightBy (va_wsF RX3 78 RJx4a65c ⟨"java/util/List", "size", "()I"⟩ yJx4a65c_size_8abf5 wsJx4a65c_size_8abf5) := goodIn_app (goodIn_of _ (by decide +kernel)) ggX3_lastSightBy_Jx4a65c_size_8abf5
set_option maxRecDepth 20000 in
theorem ggX3_lastSightBy_Jx4a65c_get_915e3 : GoodIn wsX3_lastSightBy wsJx4a65c_get_915e3 := goodIn_r _ [13, 9, 14, 15, 16, 17, 18, 19, 20, 21, 22, 23, 24, 7, 25, 26, 43, 44, 45] (by decide +kernel) (by decide +kernel)
set_option maxRecDepth 20000 in
theorem gX3_lastSightBy_Jx4a65c_get_915e3_f83Jx4a65c : GoodIn wsX3_lastSightBy (va_wsF RX3 83 RJx4a65c ⟨"java/util/List", "get", "(I)Ljava/lang/Object;"⟩ yJx4a65c_get_915e3 wsJx4a65c_get_915e3) := goodIn_app (goodIn_of _ (by decide +kernel)) ggX3_lastSightBy_Jx4a65c_get_915e3
theorem dX3_lastSightBy_0 : decode cX3_lastSightBy 0 = .ok (.aconst_null, 1) := by decide +kernel
theorem dX3_lastSightBy_1 : decode cX3_lastSightBy 1 = .ok (.astore_n 2, 1) := by decide +kernel
theorem dX3_lastSightBy_2 : decode cX3_lastSightBy 2 = .ok (.iconst 0, 1) := by decide +kernel
theorem dX3_lastSightBy_3 : decode cX3_lastSightBy 3 = .ok (.istore_n 3, 1) := by decide +kernel
theorem dX3_lastSightBy_4 : decode cX3_lastSightBy 4 = .ok (.iload_n 3, 1) := by decide +kernel
theorem dX3_lastSightBy_5 : decode cX3_lastSightBy 5 = .ok (.aload_n 0, 1) := by decide +kernel
theorem dX3_lastSightBy_6 : decode cX3_lastSightBy 6 = .ok (.getfield 18, 3) := by decide +kernel
theorem dX3_lastSightBy_9 : decode cX3_lastSightBy 9 = .ok (.invokeinterface 78 1, 5) := by decide +kernel
theorem dX3_lastSightBy_14 : decode cX3_lastSightBy 14 = .ok (.if_icmp .ge 36, 3) := by decide +kernel
theorem dX3_lastSightBy_17 : decode cX3_lastSightBy 17 = .ok (.aload_n 0, 1) := by decide +kernel
theorem dX3_lastSightBy_18 : decode cX3_lastSightBy 18 = .ok (.getfield 18, 3) := by decide +kernel
theorem dX3_lastSightBy_21 : decode cX3_lastSightBy 21 = .ok (.iload_n 3, 1) := by decide +kernel
theorem dX3_lastSightBy_22 : decode cX3_lastSightBy 22 = .ok (.invokeinterface 83 2, 5) := by decide +kernel
theorem dX3_lastSightBy_27 : decode cX3_lastSightBy 27 = .ok (.checkcast 101, 3) := by decide +kernel
theorem dX3_lastSightBy_30 : decode cX3_lastSightBy 30 = .ok (.astore 4, 2) := by decide +kernel
theorem dX3_lastSightBy_32 : decode cX3_lastSightBy 32 = .ok (.aload 4, 2) := by decide +kernel
theorem dX3_lastSightBy_34 : decode cX3_lastSightBy 34 = .ok (.getfield 103, 3) := by decide +kernel
theorem dX3_lastSightBy_37 : decode cX3_lastSightBy 37 = .ok (.iload_n 1, 1) := by decide +kernel
theorem dX3_lastSightBy_38 : decode cX3_lastSightBy 38 = .ok (.if_icmp .gt 6, 3) := by decide +kernel
theorem dX3_lastSightBy_41 : decode cX3_lastSightBy 41 = .ok (.aload 4, 2) := by decide +kernel
theorem dX3_lastSightBy_43 : decode cX3_lastSightBy 43 = .ok (.astore_n 2, 1) := by decide +kernel
theorem dX3_lastSightBy_44 : decode cX3_lastSightBy 44 = .ok (.iinc 3 1, 3) := by decide +kernel
theorem dX3_lastSightBy_47 : decode cX3_lastSightBy 47 = .ok (.goto (-43), 3) := by decide +kernel
theorem dX3_lastSightBy_50 : decode cX3_lastSightBy 50 = .ok (.aload_n 2, 1) := by decide +kernel
theorem dX3_lastSightBy_51 : decode cX3_lastSightBy 51 = .ok (.areturn, 1) := by decide +kernel
set_option maxRecDepth 20000 in
theorem ggX3_firstSightFrom_Jx4a65c_size_8abf5 : GoodIn wsX3_firstSightFrom wsJx4a65c_size_8abf5 := goodIn_r _ [8, 9, 43, 44, 45] (by decide +kernel) (by decide +kernel)
set_option maxRecDepth 20000 in
theorem gX3_firstSightFrom_Jx4a65c_size_8abf5_f78Jx4a65c : GoodIn wsX3_firstSightFrom (va_wsF RX3 78 RJx4a65c ⟨"java/util/List", "size", "()I"⟩ yJx4a65c_size_8abf5 wsJx4a65c_size_8abf5) := goodIn_app (goodIn_of _ (by decide +kernel)) ggX3_firstSightFrom_Jx4a65c_size_8abf5
set_option maxRecDepth 20000 in
theorem ggX3_firstSightFrom_Jx4a65c_get_915e3 : GoodIn wsX3_firstSightFrom wsJx4a65c_get_915e3 := goodIn_r _ [13, 9, 14, 15, 16, 17, 18, 19, 20, 21, 22, 23, 24, 7, 25, 26, 43, 44, 45] (by decide +kernel) (by decide +kernel)
set_option maxRecDepth 20000 in
theorem gX3_firstSightFrom_Jx4a65c_get_915e3_f83Jx4a65c : GoodIn wsX3_firstSightFrom (va_wsF RX3 83 RJx4a65c ⟨"java/util/List", "get", "(I)Ljava/lang/Object;"⟩ yJx4a65c_get_915e3 wsJx4a65c_get_915e3) := goodIn_app (goodIn_of _ (by decide +kernel)) ggX3_firstSightFrom_Jx4a65c_get_915e3
theorem dX3_firstSightFrom_0 : decode cX3_firstSightFrom 0 = .ok (.iconst 0, 1) := by decide +kernel
theorem dX3_firstSightFrom_1 : decode cX3_firstSightFrom 1 = .ok (.istore_n 2, 1) := by decide +kernel
theorem dX3_firstSightFrom_2 : decode cX3_firstSightFrom 2 = .ok (.iload_n 2, 1) := by decide +kernel
theorem dX3_firstSightFrom_3 : decode cX3_firstSightFrom 3 = .ok (.aload_n 0, 1) := by decide +kernel
theorem dX3_firstSightFrom_4 : decode cX3_firstSightFrom 4 = .ok (.getfield 18, 3) := by decide +kernel
theorem dX3_firstSightFrom_7 : decode cX3_firstSightFrom 7 = .ok (.invokeinterface 78 1, 5) := by decide +kernel
theorem dX3_firstSightFrom_12 : decode cX3_firstSightFrom 12 = .ok (.if_icmp .ge 33, 3) := by decide +kernel
theorem dX3_firstSightFrom_15 : decode cX3_firstSightFrom 15 = .ok (.aload_n 0, 1) := by decide +kernel
theorem dX3_firstSightFrom_16 : decode cX3_firstSightFrom 16 = .ok (.getfield 18, 3) := by decide +kernel
theorem dX3_firstSightFrom_19 : decode cX3_firstSightFrom 19 = .ok (.iload_n 2, 1) := by decide +kernel
theorem dX3_firstSightFrom_20 : decode cX3_firstSightFrom 20 = .ok (.invokeinterface 83 2, 5) := by decide +kernel
theorem dX3_firstSightFrom_25 : decode cX3_firstSightFrom 25 = .ok (.checkcast 101, 3) := by decide +kernel
theorem dX3_firstSightFrom_28 : decode cX3_firstSightFrom 28 = .ok (.astore_n 3, 1) := by decide +kernel
theorem dX3_firstSightFrom_29 : decode cX3_firstSightFrom 29 = .ok (.aload_n 3, 1) := by decide +kernel
theorem dX3_firstSightFrom_30 : decode cX3_firstSightFrom 30 = .ok (.getfield 103, 3) := by decide +kernel
theorem dX3_firstSightFrom_33 : decode cX3_firstSightFrom 33 = .ok (.iload_n 1, 1) := by decide +kernel
theorem dX3_firstSightFrom_34 : decode cX3_firstSightFrom 34 = .ok (.if_icmp .lt 5, 3) := by decide +kernel
theorem dX3_firstSightFrom_37 : decode cX3_firstSightFrom 37 = .ok (.aload_n 3, 1) := by decide +kernel
theorem dX3_firstSightFrom_38 : decode cX3_firstSightFrom 38 = .ok (.areturn, 1) := by decide +kernel
theorem dX3_firstSightFrom_39 : decode cX3_firstSightFrom 39 = .ok (.iinc 2 1, 3) := by decide +kernel
theorem dX3_firstSightFrom_42 : decode cX3_firstSightFrom 42 = .ok (.goto (-40), 3) := by decide +kernel
theorem dX3_firstSightFrom_45 : decode cX3_firstSightFrom 45 = .ok (.aconst_null, 1) := by decide +kernel
theorem dX3_firstSightFrom_46 : decode cX3_firstSightFrom 46 = .ok (.areturn, 1) := by decide +kernel
theorem dX4_init_0 : decode cX4_init 0 = .ok (.aload_n 0, 1) := by decide +kernel
theorem dX4_init_1 : decode cX4_init 1 = .ok (.invokespecial 1, 3) := by decide +kernel
theorem dX4_init_4 : decode cX4_init 4 = .ok (.aload_n 0, 1) := by decide +kernel
theorem dX4_init_5 : decode cX4_init 5 = .ok (.iload_n 1, 1) := by decide +kernel
theorem dX4_init_6 : decode cX4_init 6 = .ok (.putfield 7, 3) := by decide +kernel
theorem dX4_init_9 : decode cX4_init 9 = .ok (.aload_n 0, 1) := by decide +kernel
theorem dX4_init_10 : decode cX4_init 10 = .ok (.iload_n 2, 1) := by decide +kernel
theorem dX4_init_11 : decode cX4_init 11 = .ok (.putfield 13, 3) := by decide +kernel
theorem dX4_init_14 : decode cX4_init 14 = .ok (.return_, 1) := by decide +kernel
set_option maxRecDepth 20000 in
theorem ggX5_init_X2_init : GoodIn wsX5_init wsX2_init := goodIn_r _ [27, 28, 2, 3, 29, 30, 31, 32, 33, 34, 55, 56, 57] (by decide +kernel) (by decide +kernel)
set_option maxRecDepth 20000 in
theorem gX5_init_X2_init_n9 : GoodIn wsX5_init (wsX2_init) := ggX5_init_X2_init
set_option maxRecDepth 20000 in
theorem ggX5_init_X1_init : GoodIn wsX5_init wsX1_init := goodIn_r _ [36, 37, 2, 3, 16, 38, 29, 39, 70, 71] (by decide +kernel) (by decide +kernel)
set_option maxRecDepth 20000 in
theorem gX5_init_X1_init_n18 : GoodIn wsX5_init (wsX1_init) := ggX5_init_X1_init
set_option maxRecDepth 20000 in
theorem ggX5_init_Jx4a65c_init_da8c8 : GoodIn wsX5_init wsJx4a65c_init_da8c8 := goodIn_r _ [42, 43, 44, 45, 46, 47, 48, 49, 50, 51, 52, 53, 54, 2, 3, 72, 73, 74] (by decide +kernel) (by decide +kernel)
set_option maxRecDepth 20000 in
theorem gX5_init_Jx4a65c_init_da8c8 : GoodIn wsX5_init (wsJx4a65c_init_da8c8) := ggX5_init_Jx4a65c_init_da8c8
theorem dX5_init_0 : decode cX5_init 0 = .ok (.aload_n 0, 1) := by decide +kernel
theorem dX5_init_1 : decode cX5_init 1 = .ok (.invokespecial 1, 3) := by decide +kernel
theorem dX5_init_4 : decode cX5_init 4 = .ok (.aload_n 0, 1) := by decide +kernel
theorem dX5_init_5 : decode cX5_init 5 = .ok (.new 7, 3) := by decide +kernel
theorem dX5_init_8 : decode cX5_init 8 = .ok (.dup, 1) := by decide +kernel
theorem dX5_init_9 : decode cX5_init 9 = .ok (.invokespecial 9, 3) := by decide +kernel
theorem dX5_init_12 : decode cX5_init 12 = .ok (.putfield 10, 3) := by decide +kernel
theorem dX5_init_15 : decode cX5_init 15 = .ok (.aload_n 0, 1) := by decide +kernel
theorem dX5_init_16 : decode cX5_init 16 = .ok (.new 16, 3) := by decide +kernel
theorem dX5_init_19 : decode cX5_init 19 = .ok (.dup, 1) := by decide +kernel
theorem dX5_init_20 : decode cX5_init 20 = .ok (.invokespecial 18, 3) := by decide +kernel
theorem dX5_init_23 : decode cX5_init 23 = .ok (.putfield 19, 3) := by decide +kernel
theorem dX5_init_26 : decode cX5_init 26 = .ok (.aload_n 0, 1) := by decide +kernel
theorem dX5_init_27 : decode cX5_init 27 = .ok (.new 23, 3) := by decide +kernel
theorem dX5_init_30 : decode cX5_init 30 = .ok (.dup, 1) := by decide +kernel
theorem dX5_init_31 : decode cX5_init 31 = .ok (.invokespecial 25, 3) := by decide +kernel
theorem dX5_init_34 : decode cX5_init 34 = .ok (.putfield 26, 3) := by decide +kernel
theorem dX5_init_37 : decode cX5_init 37 = .ok (.aload_n 0, 1) := by decide +kernel
theorem dX5_init_38 : decode cX5_init 38 = .ok (.bipush 6, 2) := by decide +kernel
theorem dX5_init_40 : decode cX5_init 40 = .ok (.newarray .int, 2) := by decide +kernel
theorem dX5_init_42 : decode cX5_init 42 = .ok (.putfield 30, 3) := by decide +kernel
theorem dX5_init_45 : decode cX5_init 45 = .ok (.aload_n 0, 1) := by decide +kernel
theorem dX5_init_46 : decode cX5_init 46 = .ok (.iconst 0, 1) := by decide +kernel
theorem dX5_init_47 : decode cX5_init 47 = .ok (.putfield 34, 3) := by decide +kernel
theorem dX5_init_50 : decode cX5_init 50 = .ok (.aload_n 0, 1) := by decide +kernel
theorem dX5_init_51 : decode cX5_init 51 = .ok (.iconst 0, 1) := by decide +kernel
theorem dX5_init_52 : decode cX5_init 52 = .ok (.putfield 38, 3) := by decide +kernel
theorem dX5_init_55 : decode cX5_init 55 = .ok (.aload_n 0, 1) := by decide +kernel
theorem dX5_init_56 : decode cX5_init 56 = .ok (.iconst 0, 1) := by decide +kernel
theorem dX5_init_57 : decode cX5_init 57 = .ok (.putfield 41, 3) := by decide +kernel
theorem dX5_init_60 : decode cX5_init 60 = .ok (.aload_n 0, 1) := by decide +kernel
theorem dX5_init_61 : decode cX5_init 61 = .ok (.iconst 0, 1) := by decide +kernel
theorem dX5_init_62 : decode cX5_init 62 = .ok (.putfield 44, 3) := by decide +kernel
theorem dX5_init_65 : decode cX5_init 65 = .ok (.aload_n 0, 1) := by decide +kernel
theorem dX5_init_66 : decode cX5_init 66 = .ok (.iconst 0, 1) := by decide +kernel
theorem dX5_init_67 : decode cX5_init 67 = .ok (.putfield 47, 3) := by decide +kernel
theorem dX5_init_70 : decode cX5_init 70 = .ok (.aload_n 0, 1) := by decide +kernel
theorem dX5_init_71 : decode cX5_init 71 = .ok (.bipush 100, 2) := by decide +kernel
theorem dX5_init_73 : decode cX5_init 73 = .ok (.putfield 50, 3) := by decide +kernel
theorem dX5_init_76 : decode cX5_init 76 = .ok (.aload_n 0, 1) := by decide +kernel
theorem dX5_init_77 : decode cX5_init 77 = .ok (.iconst 1, 1) := by decide +kernel
theorem dX5_init_78 : decode cX5_init 78 = .ok (.putfield 53, 3) := by decide +kernel
theorem dX5_init_81 : decode cX5_init 81 = .ok (.aload_n 0, 1) := by decide +kernel
theorem dX5_init_82 : decode cX5_init 82 = .ok (.lconst 0, 1) := by decide +kernel
theorem dX5_init_83 : decode cX5_init 83 = .ok (.putfield 56, 3) := by decide +kernel
