/-! ===== BEGIN words of one list among another's, by their places ===== -/
theorem goodIn_r {big : List Cond} (ws : List Cond) (ps : List Nat) (hp : ws = ps.filterMap (fun i => big[i]?)) (h : ws.all goodWord = true) : GoodIn big ws := by
  intro w hw
  have h1 := List.all_eq_true.mp h w hw
  rw [hp] at hw
  obtain ⟨i, -, hi⟩ := List.mem_filterMap.mp hw
  have hm : w ∈ big := by first | exact List.mem_of_getElem? hi | exact List.getElem?_mem hi
  exact ⟨hm, good_of_word h1⟩
theorem goodIn_app {big a b : List Cond} (ha : GoodIn big a) (hb : GoodIn big b) : GoodIn big (a ++ b) := fun w h => (List.mem_append.mp h).elim (ha w) (hb w)
theorem goodIn_ca {big a b : List Cond} {c : Cond} (ha : GoodIn big (c :: a)) (hb : GoodIn big b) : GoodIn big (c :: (a ++ b)) := fun w h => (List.mem_cons.mp h).elim (fun e => ha w (List.mem_cons.mpr (Or.inl e))) (fun h => (List.mem_append.mp h).elim (fun h => ha w (List.mem_cons.mpr (Or.inr h))) (hb w))
theorem goodIn_sub {big ws : List Cond} (hm : ∀ w ∈ ws, w ∈ big) (h : ws.all goodWord = true) : GoodIn big ws := fun w hw => ⟨hm w hw, good_of_word (List.all_eq_true.mp h w hw)⟩
/-! ===== END ===== -/

/-! ===== BEGIN new T[n][m]: the outer array a place, the inner ones among the pooled ===== -/
/-- f, but v at every address of l -/
def vr_up {α : Type} (f : Nat → α) (l : List Nat) (v : α) : Nat → α := fun a => if a ∈ l then v else f a
theorem vr_up_in {α : Type} {f : Nat → α} {l : List Nat} {v : α} {a : Nat} (h : a ∈ l) : vr_up f l v a = v := if_pos h
theorem vr_up_ne {α : Type} {f : Nat → α} {l : List Nat} {v : α} {a : Nat} (h : a ∉ l) : vr_up f l v a = f a := if_neg h
theorem vr_rows {L l : List Nat} {f : Nat → va_E} {e : va_E} (h : ∀ a, a ∈ l → a ∉ L) : va_pl L f ++ l.map (fun a => (a, e)) = va_pl (L ++ l) (vr_up f l e) := by
  unfold va_pl
  rw [List.map_append]
  congr 1
  · apply List.map_congr_left
    intro a ha
    rw [vr_up_ne (fun q => h a q ha)]
  · apply List.map_congr_left
    intro a ha
    rw [vr_up_in ha]
theorem vr_lay {X rows : va_W} {x : Nat × va_E} {pl : va_W} {D : va_G} {cl : List vw_C} {H : Heap} (hP : va_P D cl (((X ++ pl) ++ [x]) ++ rows) H) : va_P D cl ((X ++ [x]) ++ (pl ++ rows)) H := by
  rw [List.append_assoc (X ++ pl)] at hP
  have h := va_P.swap hP
  rw [← List.append_assoc X] at h
  have h2 := va_P.swap h
  rw [List.append_assoc (X ++ [x])] at h2
  exact h2
theorem vr_layD {X rows : va_W} {x : Nat × va_E} {pl : va_W} {A : Nat → Prop} (hD : va_D A (((X ++ pl) ++ [x]) ++ rows)) : va_D A ((X ++ [x]) ++ (pl ++ rows)) := by
  rw [List.append_assoc (X ++ pl)] at hD
  have h := va_D.swap hD
  rw [← List.append_assoc X] at h
  have h2 := va_D.swap h
  rw [List.append_assoc (X ++ [x])] at h2
  exact h2
theorem vr_outer (c : ClassId) (N h0 : Nat) : ∀ i : Nat, Jvm.Free.Multi.outerC c N h0 i = arrV c N (fun j => va_rf (if j < i then some (h0 + 1 + j) else none))
  | 0 => by
    show ({ cls := c, slots := Array.replicate N .null, vm := .none } : Cell) = _
    rw [arrV_new]
    refine congrArg (arrV c N) (funext fun j => ?_)
    simp [va_rf]
  | i + 1 => by
    show (Jvm.Free.Multi.outerC c N h0 i).setSlot i (.ref (h0 + 1 + i)) = _
    rw [vr_outer c N h0 i, arrV_store]
    refine congrArg (arrV c N) (funext fun j => ?_)
    by_cases e : j = i
    · subst e
      simp [updV, va_rf]
    · by_cases h : j < i
      · simp [updV, e, h, Nat.lt_succ_of_lt h]
      · simp [updV, e, h, show ¬ j < i + 1 by omega]
section VGM
variable {p : Program} {l : Launch} {e : Env} {R : Room} {s : State} {m : MethodId} {args : Array Value} {below : List Frame} {meth : Method} {c : Code} {H : Heap} {locs : List Loc} {cells slots : Nat} {Q : State → Prop}
variable {cc : ByteArray} {pc : Nat} {ls : Array Slot} {rest : List Value} {D : va_G} {cl : List vw_C} {A : Nat → Prop} {a : Nat} {tys : List (ClassId × FieldType)} {ws : va_W} {H0 : Heap}
theorem va_mna {X : va_W} {L : List Nat} {f : Nat → va_E} {cc : ByteArray} (hexec : p.tables.exec = Jvm.exec) (hb : c.code = cc) {own : String} {index : Nat} {ty : FieldType} {cy : ClassId} (hown : s.vm.findClass own = some m.cls) (hclink : (Cond.classLink own index ("[" ++ (FieldType.array ty).toString)).before args s = true) (hover : va_AOA ty s) (harr : (Cond.arrayClass ty).before args s = true) (hcy : s.vm.findClass (FieldType.array ty).toString = some cy)
    (hK : va_K D cl tys s) (hP : va_P D cl (X ++ va_pl L f) H) (hD : va_D A (X ++ va_pl L f)) (hS : va_S A H0 H locs) (hA : ∀ q, H0.size ≤ q → A q) {n k : Int32} {N' K' : Nat} {z : vp_A} (hn : ¬ n < 0) (hk : ¬ k < 0) (hN : n.toNatClampNeg = N') (hM : k.toNatClampNeg = K')
    (hb1 : N' * 4 ≤ 536870912) (hb2 : K' * componentBytes ty ≤ 536870912) (hb3 : K' ≤ 536870912) (hdf : fits ty (defaultValue ty) = true) (hdd : (defaultValue ty).isDefault = true) (hcells : cells + (1 + N') ≤ R.cells) (hslots : slots + (N' + N' * K') ≤ R.slots) (hz : ∀ c : ClassId, Jvm.Free.Multi.innerC c K' (defaultValue ty) = vp_cell c z) (hdg : decode cc pc = .ok (.multianewarray index 2, 4))
    (kk : ∀ (q : Nat) (r : Nat → Nat) (cA : ClassId) (H1 : Heap), (∀ i j : Nat, i < N' → j < N' → r i = r j → i = j) → (∀ i : Nat, i < N' → r i ∉ L) → va_K D cl (tys ++ [(cA, .array ty)]) s →
      va_P D cl ((X ++ [(q, .inl (cA, N', .inr (.inr (.inr (.inr (fun i => if i < N' then some (r i) else none))))))]) ++ va_pl (L ++ (List.range N').map r) (vr_up f ((List.range N').map r) (.inl (cy, z)))) H1 → va_D A ((X ++ [(q, .inl (cA, N', .inr (.inr (.inr (.inr (fun i => if i < N' then some (r i) else none))))))]) ++ va_pl (L ++ (List.range N').map r) (vr_up f ((List.range N').map r) (.inl (cy, z)))) → va_S A H0 H1 locs →
      W p l e R s m args below meth c H1 locs (cells + 1 + N') (slots + N' + N' * K') Q (F0 m (pc + 4) ls (.ref q :: rest))) : W p l e R s m args below meth c H locs cells slots Q (F0 m pc ls (.int k :: .int n :: rest)) := by
  subst hN
  subst hM
  intro T hT Xs
  obtain ⟨vm₁, cA, comp, -, fA, fC, hO, -, X', step⟩ := Xs.multianewarray2F hexec hown hclink (va_AOA.use hover) harr (g := F0 m pc ls (.int k :: .int n :: rest)) rfl (by rw [hb]; exact hdg) rfl hn hk hb1 hb2 hb3 hdf hdd hcells hslots
  have ec : some cy = some comp := hcy.symm.trans fC
  cases ec
  generalize hF : Jvm.Free.Multi.fill (T.setVm vm₁) cA cy n.toNatClampNeg k.toNatClampNeg (defaultValue ty) n.toNatClampNeg = F at X' step
  have hTh : (T.setVm vm₁).heap = H := hT
  obtain ⟨f1, f2, -, -⟩ := Jvm.Free.Multi.fill_facts (T.setVm vm₁) cA cy n.toNatClampNeg k.toNatClampNeg (defaultValue ty) n.toNatClampNeg
  rw [hF, hTh] at f1 f2
  have hold : ∀ x : Nat, x < H.size → F.heap[x]? = H[x]? := fun x hx => by
    have := Jvm.Free.Multi.fill_old (T.setVm vm₁) cA cy n.toNatClampNeg k.toNatClampNeg (defaultValue ty) (a := x) (by rw [hTh]; exact hx) n.toNatClampNeg
    rw [hF, hTh] at this
    exact this
  have hrow : ∀ j : Nat, j < n.toNatClampNeg → F.heap[H.size + 1 + j]? = some (vp_cell cy z) := fun j hj => by
    have := Jvm.Free.Multi.fill_inner (T.setVm vm₁) cA cy n.toNatClampNeg k.toNatClampNeg (defaultValue ty) n.toNatClampNeg j hj
    rw [hF, hTh, hz] at this
    exact this
  have hout : Jvm.Free.Multi.outerC cA n.toNatClampNeg H.size n.toNatClampNeg = vp_cell cA (n.toNatClampNeg, .inr (.inr (.inr (.inr (fun i => if i < n.toNatClampNeg then some (H.size + 1 + i) else none))))) := by
    rw [vp_cell_q]
    exact vr_outer cA n.toNatClampNeg H.size n.toNatClampNeg
  rw [hout] at f2
  have hlt : ∀ a, a ∈ L → a < H.size := fun a ha => by
    obtain ⟨k9, hk9⟩ := va_pl_get (X := X) (f := f) ha
    exact (hP k9 _ hk9).lt
  have hnl : ∀ i : Nat, i < n.toNatClampNeg → H.size + 1 + i ∉ L := fun i _ h => by
    have := hlt _ h
    omega
  have hnm : ∀ a, a ∈ (List.range n.toNatClampNeg).map (fun i => H.size + 1 + i) → a ∉ L := fun a ha h => by
    obtain ⟨i, -, rfl⟩ := List.mem_map.mp ha
    have := hlt _ h
    omega
  have hP0 : va_P D cl (X ++ va_pl L f) F.heap := hP.kept (fun k9 x hx => hold x.1 ((hP k9 x hx).lt))
  have hP1 : va_P D cl ((X ++ va_pl L f) ++ [(H.size, .inl (cA, n.toNatClampNeg, .inr (.inr (.inr (.inr (fun i => if i < n.toNatClampNeg then some (H.size + 1 + i) else none))))))]) F.heap := hP0.app (fun k9 x hx => by
    have h0 : k9 < 1 := (List.getElem?_eq_some_iff.mp hx).1
    rw [show k9 = 0 by omega] at hx
    cases hx
    exact f2)
  have hP2 : va_P D cl (((X ++ va_pl L f) ++ [(H.size, .inl (cA, n.toNatClampNeg, .inr (.inr (.inr (.inr (fun i => if i < n.toNatClampNeg then some (H.size + 1 + i) else none))))))]) ++ ((List.range n.toNatClampNeg).map (fun i => H.size + 1 + i)).map (fun a => (a, .inl (cy, z)))) F.heap := hP1.app (fun k9 x hx => by
    obtain ⟨a, ha, rfl⟩ := List.mem_map.mp (List.mem_of_getElem? hx)
    obtain ⟨i, hi, rfl⟩ := List.mem_map.mp ha
    exact hrow i (List.mem_range.mp hi))
  have hD2 : va_D A (((X ++ va_pl L f) ++ [(H.size, .inl (cA, n.toNatClampNeg, .inr (.inr (.inr (.inr (fun i => if i < n.toNatClampNeg then some (H.size + 1 + i) else none))))))]) ++ ((List.range n.toNatClampNeg).map (fun i => H.size + 1 + i)).map (fun a => (a, .inl (cy, z)))) := by
    have hD1 := hD.push (e := .inl (cA, n.toNatClampNeg, .inr (.inr (.inr (.inr (fun i => if i < n.toNatClampNeg then some (H.size + 1 + i) else none)))))) hP rfl (hA _ hS.1)
    generalize hW1 : (X ++ va_pl L f) ++ [(H.size, .inl (cA, n.toNatClampNeg, .inr (.inr (.inr (.inr (fun i => if i < n.toNatClampNeg then some (H.size + 1 + i) else none))))))] = W1 at hD1 hP1 ⊢
    have hle : ∀ (k9 : Nat) (x : Nat × va_E), W1[k9]? = some x → x.1 ≤ H.size := fun k9 x hx => by
      rw [← hW1] at hx
      by_cases hl : k9 < (X ++ va_pl L f).length
      · rw [List.getElem?_append_left hl] at hx
        exact Nat.le_of_lt ((hP k9 x hx).lt)
      · rw [List.getElem?_append_right (by omega)] at hx
        have h0 : k9 - (X ++ va_pl L f).length < 1 := (List.getElem?_eq_some_iff.mp hx).1
        rw [show k9 - (X ++ va_pl L f).length = 0 by omega] at hx
        cases hx
        exact Nat.le_refl _
    have hr : ∀ (k9 : Nat) (x : Nat × va_E), (((List.range n.toNatClampNeg).map (fun i => H.size + 1 + i)).map (fun a => ((a, .inl (cy, z)) : Nat × va_E)))[k9]? = some x → x.1 = H.size + 1 + k9 := fun k9 x hx => by
      rw [List.getElem?_map, List.getElem?_map] at hx
      by_cases h9 : k9 < n.toNatClampNeg
      · rw [List.getElem?_range h9] at hx
        cases hx
        rfl
      · have hn0 : (List.range n.toNatClampNeg)[k9]? = none := List.getElem?_eq_none (by rw [List.length_range]; omega)
        rw [hn0] at hx
        cases hx
    refine ⟨fun i j x y hi hj hxy => ?_, fun k9 x hx => ?_⟩
    · by_cases h1 : i < W1.length <;> by_cases h2 : j < W1.length
      · rw [List.getElem?_append_left h1] at hi
        rw [List.getElem?_append_left h2] at hj
        exact hD1.1 i j x y hi hj hxy
      · rw [List.getElem?_append_left h1] at hi
        rw [List.getElem?_append_right (by omega)] at hj
        have := hle _ _ hi
        have := hr _ _ hj
        omega
      · rw [List.getElem?_append_right (by omega)] at hi
        rw [List.getElem?_append_left h2] at hj
        have := hle _ _ hj
        have := hr _ _ hi
        omega
      · rw [List.getElem?_append_right (by omega)] at hi hj
        have := hr _ _ hi
        have := hr _ _ hj
        omega
    · by_cases h1 : k9 < W1.length
      · rw [List.getElem?_append_left h1] at hx
        exact hD1.2 k9 x hx
      · rw [List.getElem?_append_right (by omega)] at hx
        have := hr _ _ hx
        exact hA _ (by have := hS.1; omega)
  have hAr : ArrOfT s cA (.array ty) := fun N9 z9 => by
    obtain ⟨-, k9, hk9, cm9, hkk9⟩ := (hO 0 0 0).1
    exact ⟨(fun q hq => by cases hq), k9, hk9, cm9, hkk9⟩
  have hK2 : va_K D cl (tys ++ [(cA, .array ty)]) s := ⟨hK.1, fun k9 x hx => by
    by_cases hl : k9 < tys.length
    · rw [List.getElem?_append_left hl] at hx
      exact hK.2 k9 x hx
    · rw [List.getElem?_append_right (by omega)] at hx
      have h0 : k9 - tys.length < 1 := (List.getElem?_eq_some_iff.mp hx).1
      rw [show k9 - tys.length = 0 by omega] at hx
      cases hx
      exact ⟨hAr, fA⟩⟩
  obtain ⟨t, a1, b1⟩ := kk H.size (fun i => H.size + 1 + i) cA F.heap (fun i j _ _ h => by have h9 : H.size + 1 + i = H.size + 1 + j := h; omega) hnl hK2 (by rw [← vr_rows hnm]; exact vr_lay hP2) (by rw [← vr_rows hnm]; exact vr_layD hD2) ⟨by rw [f1]; have := hS.1; omega, fun x h1 h2 => (hold x (Nat.lt_of_lt_of_le h1 hS.1)).trans (hS.2.1 x h1 h2), hS.2.2⟩ F rfl X'
  refine ⟨t, step t ?_, b1⟩
  have e : T.heap.size = H.size := by rw [hT]
  rw [e]
  exact a1
end VGM
/-! ===== END ===== -/

/-! ===== BEGIN printed: names, fields, word lists, decode rows ===== -/
def RX0 : String := "TeaRace$Order"
def TX0 : u_T := fun k => match k with
  | 0 => ("TeaRace$Order", "way", "I", true)
  | 1 => ("TeaRace$Order", "west", "I", true)
  | 2 => ("TeaRace$Order", "east", "I", true)
  | 3 => ("TeaRace$Order", "north", "I", true)
  | 4 => ("TeaRace$Order", "south", "I", true)
  | _ => ("TeaRace$Order", "strength", "I", true)
def tyX0 : Nat → FieldType := fun k => match k with
  | 0 => .int
  | 1 => .int
  | 2 => .int
  | 3 => .int
  | 4 => .int
  | _ => .int
abbrev wsX00 : List Cond := u_ws RX0 TX0 6
theorem nmX0 : ∀ a, a < 6 → ∀ b, b < 6 → a ≠ b → (TX0 a).2.1 ≠ (TX0 b).2.1 := by decide +kernel
theorem tyX0_ok : ∀ k, k < 6 → parseFieldDescriptor (TX0 k).2.2.1 = some (tyX0 k) := by decide +kernel
abbrev cX0_init : ByteArray := prog_2_method_1_code
def yX0_init : MethodName := ⟨RX0, "<init>", "(IIIIII)V"⟩
abbrev cX0_fits : ByteArray := prog_2_method_2_code
def yX0_fits : MethodName := ⟨RX0, "fits", "(II)Z"⟩
def RX1 : String := "TeaRace$Passage"
def TX1 : u_T := fun k => match k with
  | 0 => ("TeaRace$Passage", "hoursTo", "[I", true)
  | _ => ("TeaRace$Passage", "departed", "[Z", true)
def tyX1 : Nat → FieldType := fun k => match k with
  | 0 => .array .int
  | _ => .array .boolean
abbrev wsX10 : List Cond := u_ws RX1 TX1 2
theorem nmX1 : ∀ a, a < 2 → ∀ b, b < 2 → a ≠ b → (TX1 a).2.1 ≠ (TX1 b).2.1 := by decide +kernel
theorem tyX1_ok : ∀ k, k < 2 → parseFieldDescriptor (TX1 k).2.2.1 = some (tyX1 k) := by decide +kernel
abbrev cX1_init : ByteArray := prog_3_method_1_code
def yX1_init : MethodName := ⟨RX1, "<init>", "()V"⟩
abbrev cX1_leastHours : ByteArray := prog_3_method_2_code
def yX1_leastHours : MethodName := ⟨RX1, "leastHours", "(LTeaRace$Sea;LTeaRace$Ship;III)I"⟩
abbrev cX1_leave : ByteArray := prog_3_method_3_code
def yX1_leave : MethodName := ⟨RX1, "leave", "(LTeaRace$Sea;LTeaRace$Ship;II)V"⟩
abbrev cX1_comingHour : ByteArray := prog_3_method_4_code
def yX1_comingHour : MethodName := ⟨RX1, "comingHour", "(LTeaRace$Sea;LTeaRace$Ship;IIII)I"⟩
abbrev cX1_hoursFor : ByteArray := prog_3_method_5_code
def yX1_hoursFor : MethodName := ⟨RX1, "hoursFor", "(II)I"⟩
abbrev cX1_reach : ByteArray := prog_3_method_6_code
def yX1_reach : MethodName := ⟨RX1, "reach", "(II)V"⟩
abbrev cX1_earliestCell : ByteArray := prog_3_method_7_code
def yX1_earliestCell : MethodName := ⟨RX1, "earliestCell", "()I"⟩
def RX2 : String := "TeaRace$Sea"
def TX2 : u_T := fun k => match k with
  | 0 => ("TeaRace$Sea", "landCells", "[Z", true)
  | 1 => ("TeaRace$Sea", "chartThere", "[Z", true)
  | _ => ("TeaRace$Sea", "charts", "[[B", true)
def tyX2 : Nat → FieldType := fun k => match k with
  | 0 => .array .boolean
  | 1 => .array .boolean
  | _ => .array (.array .byte)
abbrev wsX20 : List Cond := u_ws RX2 TX2 3
theorem nmX2 : ∀ a, a < 3 → ∀ b, b < 3 → a ≠ b → (TX2 a).2.1 ≠ (TX2 b).2.1 := by decide +kernel
theorem tyX2_ok : ∀ k, k < 3 → parseFieldDescriptor (TX2 k).2.2.1 = some (tyX2 k) := by decide +kernel
abbrev cX2_init : ByteArray := prog_4_method_1_code
def yX2_init : MethodName := ⟨RX2, "<init>", "()V"⟩
abbrev cX2_isLand : ByteArray := prog_4_method_2_code
def yX2_isLand : MethodName := ⟨RX2, "isLand", "(I)Z"⟩
abbrev cX2_setLand : ByteArray := prog_4_method_3_code
def yX2_setLand : MethodName := ⟨RX2, "setLand", "(IZ)V"⟩
abbrev cX2_hasChart : ByteArray := prog_4_method_4_code
def yX2_hasChart : MethodName := ⟨RX2, "hasChart", "(I)Z"⟩
abbrev cX2_chartsThere : ByteArray := prog_4_method_5_code
def yX2_chartsThere : MethodName := ⟨RX2, "chartsThere", "()I"⟩
abbrev cX2_drawCalm : ByteArray := prog_4_method_6_code
def yX2_drawCalm : MethodName := ⟨RX2, "drawCalm", "(I)V"⟩
abbrev cX2_loseChart : ByteArray := prog_4_method_7_code
def yX2_loseChart : MethodName := ⟨RX2, "loseChart", "(I)V"⟩
abbrev cX2_drawnAt : ByteArray := prog_4_method_8_code
def yX2_drawnAt : MethodName := ⟨RX2, "drawnAt", "(II)I"⟩
abbrev cX2_drawAt : ByteArray := prog_4_method_9_code
def yX2_drawAt : MethodName := ⟨RX2, "drawAt", "(IIB)V"⟩
abbrev cX2_copyChart : ByteArray := prog_4_method_10_code
def yX2_copyChart : MethodName := ⟨RX2, "copyChart", "(IIIII)V"⟩
abbrev cX2_windIn : ByteArray := prog_4_method_11_code
def yX2_windIn : MethodName := ⟨RX2, "windIn", "(II)I"⟩
abbrev cX2_nextCell : ByteArray := prog_4_method_12_code
def yX2_nextCell : MethodName := ⟨RX2, "nextCell", "(II)I"⟩
abbrev cX2_digestChart : ByteArray := prog_4_method_13_code
def yX2_digestChart : MethodName := ⟨RX2, "digestChart", "(IJ)J"⟩
def RX3 : String := "TeaRace$Ship"
def TX3 : u_T := fun k => match k with
  | 0 => ("TeaRace$Ship", "number", "I", true)
  | 1 => ("TeaRace$Ship", "kind", "I", true)
  | 2 => ("TeaRace$Ship", "chests", "I", true)
  | 3 => ("TeaRace$Ship", "orders", "Ljava/util/List;", true)
  | 4 => ("TeaRace$Ship", "sights", "Ljava/util/List;", true)
  | 5 => ("TeaRace$Ship", "cell", "I", false)
  | 6 => ("TeaRace$Ship", "gone", "I", false)
  | 7 => ("TeaRace$Ship", "way", "I", false)
  | 8 => ("TeaRace$Ship", "foulness", "I", false)
  | 9 => ("TeaRace$Ship", "cellsComeTo", "I", false)
  | 10 => ("TeaRace$Ship", "homeHour", "I", false)
  | 11 => ("TeaRace$Ship", "entry", "I", false)
  | 12 => ("TeaRace$Ship", "rate", "I", false)
  | _ => ("TeaRace$Ship", "premium", "I", false)
def tyX3 : Nat → FieldType := fun k => match k with
  | 0 => .int
  | 1 => .int
  | 2 => .int
  | 3 => .object "java/util/List"
  | 4 => .object "java/util/List"
  | 5 => .int
  | 6 => .int
  | 7 => .int
  | 8 => .int
  | 9 => .int
  | 10 => .int
  | 11 => .int
  | 12 => .int
  | _ => .int
abbrev wsX30 : List Cond := u_ws RX3 TX3 14
theorem nmX3 : ∀ a, a < 14 → ∀ b, b < 14 → a ≠ b → (TX3 a).2.1 ≠ (TX3 b).2.1 := by decide +kernel
theorem tyX3_ok : ∀ k, k < 14 → parseFieldDescriptor (TX3 k).2.2.1 = some (tyX3 k) := by decide +kernel
abbrev cX3_init : ByteArray := prog_5_method_1_code
def yX3_init : MethodName := ⟨RX3, "<init>", "(IIII)V"⟩
abbrev cX3_isHome : ByteArray := prog_5_method_2_code
def yX3_isHome : MethodName := ⟨RX3, "isHome", "()Z"⟩
abbrev cX3_isOf : ByteArray := prog_5_method_3_code
def yX3_isOf : MethodName := ⟨RX3, "isOf", "(I)Z"⟩
abbrev cX3_speedIn : ByteArray := prog_5_method_4_code
def yX3_speedIn : MethodName := ⟨RX3, "speedIn", "(II)I"⟩
abbrev cX3_sailSpeed : ByteArray := prog_5_method_5_code
def yX3_sailSpeed : MethodName := ⟨RX3, "sailSpeed", "(II)I"⟩
abbrev cX3_moreAcrossTheWind : ByteArray := prog_5_method_6_code
def yX3_moreAcrossTheWind : MethodName := ⟨RX3, "moreAcrossTheWind", "()I"⟩
abbrev cX3_askWay : ByteArray := prog_5_method_7_code
def yX3_askWay : MethodName := ⟨RX3, "askWay", "(I)V"⟩
abbrev cX3_beats : ByteArray := prog_5_method_8_code
def yX3_beats : MethodName := ⟨RX3, "beats", "(LTeaRace$Ship;)Z"⟩
abbrev cX3_entersBefore : ByteArray := prog_5_method_9_code
def yX3_entersBefore : MethodName := ⟨RX3, "entersBefore", "(LTeaRace$Ship;)Z"⟩
abbrev cX3_isUnseenFrom : ByteArray := prog_5_method_10_code
def yX3_isUnseenFrom : MethodName := ⟨RX3, "isUnseenFrom", "(I)Z"⟩
abbrev cX3_isSeenAround : ByteArray := prog_5_method_11_code
def yX3_isSeenAround : MethodName := ⟨RX3, "isSeenAround", "(I)Z"⟩
abbrev cX3_lastSightBy : ByteArray := prog_5_method_12_code
def yX3_lastSightBy : MethodName := ⟨RX3, "lastSightBy", "(I)LTeaRace$Sight;"⟩
abbrev cX3_firstSightFrom : ByteArray := prog_5_method_13_code
def yX3_firstSightFrom : MethodName := ⟨RX3, "firstSightFrom", "(I)LTeaRace$Sight;"⟩
def RX4 : String := "TeaRace$Sight"
def TX4 : u_T := fun k => match k with
  | 0 => ("TeaRace$Sight", "cell", "I", true)
  | _ => ("TeaRace$Sight", "hour", "I", true)
def tyX4 : Nat → FieldType := fun k => match k with
  | 0 => .int
  | _ => .int
abbrev wsX40 : List Cond := u_ws RX4 TX4 2
theorem nmX4 : ∀ a, a < 2 → ∀ b, b < 2 → a ≠ b → (TX4 a).2.1 ≠ (TX4 b).2.1 := by decide +kernel
theorem tyX4_ok : ∀ k, k < 2 → parseFieldDescriptor (TX4 k).2.2.1 = some (tyX4 k) := by decide +kernel
abbrev cX4_init : ByteArray := prog_6_method_1_code
def yX4_init : MethodName := ⟨RX4, "<init>", "(II)V"⟩
def RX5 : String := "TeaRace"
def TX5 : u_T := fun k => match k with
  | 0 => ("TeaRace", "sea", "LTeaRace$Sea;", true)
  | 1 => ("TeaRace", "passage", "LTeaRace$Passage;", true)
  | 2 => ("TeaRace", "fleet", "Ljava/util/List;", true)
  | 3 => ("TeaRace", "findingCounts", "[I", true)
  | 4 => ("TeaRace", "latestFinding", "I", false)
  | 5 => ("TeaRace", "hour", "I", false)
  | 6 => ("TeaRace", "homeCell", "I", false)
  | 7 => ("TeaRace", "gateHour", "I", false)
  | 8 => ("TeaRace", "sightCount", "I", false)
  | 9 => ("TeaRace", "priceAtFirst", "I", false)
  | 10 => ("TeaRace", "fallOfPrice", "I", false)
  | _ => ("TeaRace", "latestSale", "J", false)
def tyX5 : Nat → FieldType := fun k => match k with
  | 0 => .object "TeaRace$Sea"
  | 1 => .object "TeaRace$Passage"
  | 2 => .object "java/util/List"
  | 3 => .array .int
  | 4 => .int
  | 5 => .int
  | 6 => .int
  | 7 => .int
  | 8 => .int
  | 9 => .int
  | 10 => .int
  | _ => .long
abbrev wsX50 : List Cond := u_ws RX5 TX5 12
theorem nmX5 : ∀ a, a < 12 → ∀ b, b < 12 → a ≠ b → (TX5 a).2.1 ≠ (TX5 b).2.1 := by decide +kernel
theorem tyX5_ok : ∀ k, k < 12 → parseFieldDescriptor (TX5 k).2.2.1 = some (tyX5 k) := by decide +kernel
abbrev cX5_init : ByteArray := prog_1_method_1_code
def yX5_init : MethodName := ⟨RX5, "<init>", "()V"⟩
abbrev cX5_land : ByteArray := prog_1_method_2_code
def yX5_land : MethodName := ⟨RX5, "land", "(IZ)I"⟩
abbrev cX5_chart : ByteArray := prog_1_method_3_code
def yX5_chart : MethodName := ⟨RX5, "chart", "(I)I"⟩
abbrev cX5_wind : ByteArray := prog_1_method_4_code
def yX5_wind : MethodName := ⟨RX5, "wind", "(III)I"⟩
abbrev cX5_tear : ByteArray := prog_1_method_5_code
def yX5_tear : MethodName := ⟨RX5, "tear", "(I)I"⟩
abbrev cX5_copy : ByteArray := prog_1_method_6_code
def yX5_copy : MethodName := ⟨RX5, "copy", "(IIIII)I"⟩
abbrev cX5_mean : ByteArray := prog_1_method_7_code
def yX5_mean : MethodName := ⟨RX5, "mean", "(I)I"⟩
abbrev cX5_ship : ByteArray := prog_1_method_8_code
def yX5_ship : MethodName := ⟨RX5, "ship", "(III)I"⟩
abbrev cX5_foul : ByteArray := prog_1_method_9_code
def yX5_foul : MethodName := ⟨RX5, "foul", "(II)I"⟩
abbrev cX5_told : ByteArray := prog_1_method_10_code
def yX5_told : MethodName := ⟨RX5, "told", "(II)I"⟩
abbrev cX5_mark : ByteArray := prog_1_method_11_code
def yX5_mark : MethodName := ⟨RX5, "mark", "(II)I"⟩
abbrev cX5_speed : ByteArray := prog_1_method_12_code
def yX5_speed : MethodName := ⟨RX5, "speed", "(IIII)I"⟩
abbrev cX5_order : ByteArray := prog_1_method_13_code
def yX5_order : MethodName := ⟨RX5, "order", "(IIIIIII)I"⟩
abbrev cX5_home : ByteArray := prog_1_method_14_code
def yX5_home : MethodName := ⟨RX5, "home", "(II)I"⟩
abbrev cX5_run : ByteArray := prog_1_method_15_code
def yX5_run : MethodName := ⟨RX5, "run", "(I)I"⟩
abbrev cX5_first : ByteArray := prog_1_method_16_code
def yX5_first : MethodName := ⟨RX5, "first", "()I"⟩
abbrev cX5_least : ByteArray := prog_1_method_17_code
def yX5_least : MethodName := ⟨RX5, "least", "(IIII)I"⟩
abbrev cX5_sight : ByteArray := prog_1_method_18_code
def yX5_sight : MethodName := ⟨RX5, "sight", "(III)I"⟩
abbrev cX5_distance : ByteArray := prog_1_method_19_code
def yX5_distance : MethodName := ⟨RX5, "distance", "(IIZ)I"⟩
abbrev cX5_ahead : ByteArray := prog_1_method_20_code
def yX5_ahead : MethodName := ⟨RX5, "ahead", "(III)I"⟩
abbrev cX5_charter : ByteArray := prog_1_method_21_code
def yX5_charter : MethodName := ⟨RX5, "charter", "(III)I"⟩
abbrev cX5_freight : ByteArray := prog_1_method_22_code
def yX5_freight : MethodName := ⟨RX5, "freight", "(I)I"⟩
abbrev cX5_market : ByteArray := prog_1_method_23_code
def yX5_market : MethodName := ⟨RX5, "market", "(II)I"⟩
abbrev cX5_sale : ByteArray := prog_1_method_24_code
def yX5_sale : MethodName := ⟨RX5, "sale", "(I)I"⟩
abbrev cX5_meanPrice : ByteArray := prog_1_method_25_code
def yX5_meanPrice : MethodName := ⟨RX5, "meanPrice", "()I"⟩
abbrev cX5_asked : ByteArray := prog_1_method_26_code
def yX5_asked : MethodName := ⟨RX5, "asked", "()J"⟩
abbrev cX5_count : ByteArray := prog_1_method_27_code
def yX5_count : MethodName := ⟨RX5, "count", "(I)I"⟩
abbrev cX5_finding : ByteArray := prog_1_method_28_code
def yX5_finding : MethodName := ⟨RX5, "finding", "()I"⟩
abbrev cX5_findings : ByteArray := prog_1_method_29_code
def yX5_findings : MethodName := ⟨RX5, "findings", "(I)I"⟩
abbrev cX5_digest : ByteArray := prog_1_method_30_code
def yX5_digest : MethodName := ⟨RX5, "digest", "()J"⟩
abbrev cX5_outside : ByteArray := prog_1_method_31_code
def yX5_outside : MethodName := ⟨RX5, "outside", "(II)Z"⟩
abbrev cX5_isNoSpan : ByteArray := prog_1_method_32_code
def yX5_isNoSpan : MethodName := ⟨RX5, "isNoSpan", "(III)Z"⟩
abbrev cX5_isNoWater : ByteArray := prog_1_method_33_code
def yX5_isNoWater : MethodName := ⟨RX5, "isNoWater", "(I)Z"⟩
abbrev cX5_shipOf : ByteArray := prog_1_method_34_code
def yX5_shipOf : MethodName := ⟨RX5, "shipOf", "(I)LTeaRace$Ship;"⟩
abbrev cX5_found : ByteArray := prog_1_method_35_code
def yX5_found : MethodName := ⟨RX5, "found", "(I)I"⟩
abbrev cX5_strengthOf : ByteArray := prog_1_method_36_code
def yX5_strengthOf : MethodName := ⟨RX5, "strengthOf", "(I)I"⟩
abbrev cX5_eighthsBetween : ByteArray := prog_1_method_37_code
def yX5_eighthsBetween : MethodName := ⟨RX5, "eighthsBetween", "(II)I"⟩
abbrev cX5_needOf : ByteArray := prog_1_method_38_code
def yX5_needOf : MethodName := ⟨RX5, "needOf", "(I)I"⟩
abbrev cX5_monthOf : ByteArray := prog_1_method_39_code
def yX5_monthOf : MethodName := ⟨RX5, "monthOf", "(I)I"⟩
abbrev cX5_entryFrom : ByteArray := prog_1_method_40_code
def yX5_entryFrom : MethodName := ⟨RX5, "entryFrom", "(I)I"⟩
abbrev cX5_sail : ByteArray := prog_1_method_41_code
def yX5_sail : MethodName := ⟨RX5, "sail", "(LTeaRace$Ship;I)V"⟩
abbrev cX5_moveOn : ByteArray := prog_1_method_42_code
def yX5_moveOn : MethodName := ⟨RX5, "moveOn", "(LTeaRace$Ship;I)V"⟩
abbrev cX5_comeTo : ByteArray := prog_1_method_43_code
def yX5_comeTo : MethodName := ⟨RX5, "comeTo", "(LTeaRace$Ship;II)V"⟩
abbrev cX5_shipsHome : ByteArray := prog_1_method_44_code
def yX5_shipsHome : MethodName := ⟨RX5, "shipsHome", "()I"⟩
abbrev cX5_theFirst : ByteArray := prog_1_method_45_code
def yX5_theFirst : MethodName := ⟨RX5, "theFirst", "()LTeaRace$Ship;"⟩
abbrev cX5_distanceFromHome : ByteArray := prog_1_method_46_code
def yX5_distanceFromHome : MethodName := ⟨RX5, "distanceFromHome", "(I)I"⟩
abbrev cX5_leastDistance : ByteArray := prog_1_method_47_code
def yX5_leastDistance : MethodName := ⟨RX5, "leastDistance", "(LTeaRace$Ship;I)I"⟩
abbrev cX5_mostDistance : ByteArray := prog_1_method_48_code
def yX5_mostDistance : MethodName := ⟨RX5, "mostDistance", "(LTeaRace$Ship;I)I"⟩
abbrev cX5_priceAtEntry : ByteArray := prog_1_method_49_code
def yX5_priceAtEntry : MethodName := ⟨RX5, "priceAtEntry", "(LTeaRace$Ship;)I"⟩
abbrev cX5_takings : ByteArray := prog_1_method_50_code
def yX5_takings : MethodName := ⟨RX5, "takings", "(LTeaRace$Ship;)J"⟩
def RX6 : String := "TeaRaceModel"
def TX6 : u_T := fun k => match k with
  | 0 => ("TeaRaceModel", "finding", "I", false)
  | 1 => ("TeaRaceModel", "findings", "[I", true)
  | 2 => ("TeaRaceModel", "asked", "J", false)
  | 3 => ("TeaRaceModel", "hour", "I", false)
  | 4 => ("TeaRaceModel", "isLand", "[Z", true)
  | 5 => ("TeaRaceModel", "isChart", "[Z", true)
  | 6 => ("TeaRaceModel", "winds", "[I", true)
  | 7 => ("TeaRaceModel", "home", "I", false)
  | 8 => ("TeaRaceModel", "gate", "I", false)
  | 9 => ("TeaRaceModel", "moving", "[I", true)
  | 10 => ("TeaRaceModel", "ships", "I", false)
  | 11 => ("TeaRaceModel", "kinds", "[I", true)
  | 12 => ("TeaRaceModel", "cells", "[I", true)
  | 13 => ("TeaRaceModel", "gone", "[I", true)
  | 14 => ("TeaRaceModel", "ways", "[I", true)
  | 15 => ("TeaRaceModel", "homeAt", "[I", true)
  | 16 => ("TeaRaceModel", "chests", "[I", true)
  | 17 => ("TeaRaceModel", "foulness", "[I", true)
  | 18 => ("TeaRaceModel", "came", "[I", true)
  | 19 => ("TeaRaceModel", "orders", "[I", true)
  | 20 => ("TeaRaceModel", "orderRows", "[I", true)
  | 21 => ("TeaRaceModel", "rates", "[I", true)
  | 22 => ("TeaRaceModel", "premiums", "[I", true)
  | 23 => ("TeaRaceModel", "hours", "[I", true)
  | 24 => ("TeaRaceModel", "isSettled", "[Z", true)
  | 25 => ("TeaRaceModel", "sights", "I", false)
  | 26 => ("TeaRaceModel", "sightShip", "[I", true)
  | 27 => ("TeaRaceModel", "sightCell", "[I", true)
  | 28 => ("TeaRaceModel", "sightHour", "[I", true)
  | 29 => ("TeaRaceModel", "price", "I", false)
  | _ => ("TeaRaceModel", "fall", "I", false)
def tyX6 : Nat → FieldType := fun k => match k with
  | 0 => .int
  | 1 => .array .int
  | 2 => .long
  | 3 => .int
  | 4 => .array .boolean
  | 5 => .array .boolean
  | 6 => .array .int
  | 7 => .int
  | 8 => .int
  | 9 => .array .int
  | 10 => .int
  | 11 => .array .int
  | 12 => .array .int
  | 13 => .array .int
  | 14 => .array .int
  | 15 => .array .int
  | 16 => .array .int
  | 17 => .array .int
  | 18 => .array .int
  | 19 => .array .int
  | 20 => .array .int
  | 21 => .array .int
  | 22 => .array .int
  | 23 => .array .int
  | 24 => .array .boolean
  | 25 => .int
  | 26 => .array .int
  | 27 => .array .int
  | 28 => .array .int
  | 29 => .int
  | _ => .int
