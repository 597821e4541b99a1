/-- the list's shared empty row: a static, an array of length 0, never written -/
def Zd (te : Nat) (A : Nat → Prop) (U : State) (H : Heap) : Prop := va_Z "java/util/ArrayList" "DEFAULTCAPACITY_EMPTY_ELEMENTDATA" "[Ljava/lang/Object;" (.ref te) A U H ∧ va_T (.object "java/lang/Object") te 0 (fun _ => .null) A U H
theorem Zd.moved {te : Nat} {A : Nat → Prop} {u U : State} {H : Heap} (hvm : u.vm.Alike U.vm) (h : Zd te A u H) : Zd te A U H := ⟨h.1.moved hvm, h.2.moved hvm⟩
theorem Zd.pass {te : Nat} {A0 A1 : Nat → Prop} {s U : State} {H : Heap} (h : Zd te A0 s s.heap) (hq : ∀ a : Nat, a < s.heap.size → ¬ A0 a → H[a]? = s.heap[a]?) (hAB : ∀ q, A1 q → A0 q) (hal : s.vm.Alike U.vm) : Zd te A1 U H := ⟨((h.1.kept hq).narrow hAB).moved hal, ((h.2.kept hq).narrow hAB).moved hal⟩
theorem va_uniq {D : va_G} {cl : List vw_C} {tys : List (ClassId × FieldType)} {U : State} (hK : va_K D cl tys U) (i j : Nat) {c1 c2 : ClassId} {ty : FieldType} (hi : tys[i]? = some (c1, ty)) (hj : tys[j]? = some (c2, ty)) : c1 = c2 := by
  have a := (hK.2 i _ hi).2
  have b := (hK.2 j _ hj).2
  cases ty with
  | object C =>
    obtain ⟨_, _, _, _, _, a⟩ := a
    obtain ⟨_, _, _, _, _, b⟩ := b
    exact Option.some.inj (a.symm.trans b)
  | _ => exact Option.some.inj (a.symm.trans b)
theorem ac_K {args : Array Value} {s : State} {ty : FieldType} (h : (Cond.arrayClass ty).before args s = true) : ∃ c : ClassId, s.vm.findClass ("[" ++ ty.toString) = some c ∧ ArrOfT s c ty := by
  obtain ⟨c, k, comp, h1, h2, h3⟩ := Cond.arrayClass_spec h
  exact ⟨c, h1, fun N z => ⟨(fun q hq => by cases hq), k, h2, comp, h3⟩⟩
theorem rows12 {X : va_W} {r : Nat → Nat} {f : Nat → va_E} {e : va_E} : X ++ va_pl ([] ++ (List.range 12).map r) (vr_up f ((List.range 12).map r) e) = X ++ [(r 0, e), (r 1, e), (r 2, e), (r 3, e), (r 4, e), (r 5, e), (r 6, e), (r 7, e), (r 8, e), (r 9, e), (r 10, e), (r 11, e)] := by
  congr 1
  unfold va_pl
  rw [List.nil_append]
  have h : ((List.range 12).map r).map (fun a => (a, vr_up f ((List.range 12).map r) e a)) = ((List.range 12).map r).map (fun a => (a, e)) := List.map_congr_left (fun a ha => by rw [vr_up_in ha])
  rw [h]
  rfl
section ALDA
variable {p : Program} {l : Launch} {e : Env} {R : Room} {s : State} {m : MethodId} {args : Array Value} {below : List Frame} {meth : Method} {c : Code} {H : Heap} {locs : List Loc} {cells slots : Nat} {Q : State → Prop}
variable {cc : ByteArray} {pc : Nat} {ls : Array Slot} {rest : List Value} {D : va_G} {cl : List vw_C} {a : Nat} {tys : List (ClassId × FieldType)} {ws : va_W}
/-- a row read out of an array of arrays -/
theorem va_alda (hexec : p.tables.exec = Jvm.exec) (hb : c.code = cc) (hK : va_K D cl tys s) (hP : va_P D cl ws H) (q0 t0 : Nat) {cA : ClassId} {ty : FieldType} {n : Nat} {f : Nat → Option Nat} (ha : ws[q0]? = some (a, .inl (cA, n, .inr (.inr (.inr (.inr f)))))) (ht : tys[t0]? = some (cA, .array ty)) {i : Int32} (hin : vp_in i n) (hdg : decode cc pc = .ok (.aaload, 1))
    (kk : W p l e R s m args below meth c H locs cells slots Q (F0 m (pc + 1) ls (va_rf (f i.toNatClampNeg) :: rest))) : W p l e R s m args below meth c H locs cells slots Q (F0 m pc ls (.int i :: .ref a :: rest)) := by
  have hlt : i.toNatClampNeg < n := Nat.not_le.mp fun q => hin (Or.inr q)
  exact W.aald (v := va_rf (f i.toNatClampNeg)) (ty := .array ty) hexec hb (hP q0 _ ha) ((hK.2 t0 _ ht).1 n (fun j => va_rf (f j))) rfl (fun q => by cases q) (by show ¬ (i < 0 ∨ (arrV _ _ _).slots.size ≤ _); rw [arrV_size]; exact hin) (by show (arrV _ _ _).slots[_]? = _; rw [arrV_read _ _ hlt]) rfl rfl hdg kk
end ALDA
/-! the pool behind the literal cells: an address of it, a write into it -/
theorem pl_at {X : va_W} {L : List Nat} {f : Nat → va_E} {a : Nat} {e : va_E} (hm : a ∈ L) (hv : f a = e) : ∃ k : Nat, (X ++ va_pl L f)[k]? = some (a, e) := by
  obtain ⟨k, hk⟩ := va_pl_get (X := X) (f := f) hm
  exact ⟨k, by rw [hk, hv]⟩
theorem pl_set {A : Nat → Prop} {X : va_W} {L : List Nat} {f : Nat → va_E} {a k : Nat} {e e' : va_E} (hD : va_D A (X ++ va_pl L f)) (hm : a ∈ L) (hv : f a = e) (hk : (X ++ va_pl L f)[k]? = some (a, e)) : (X ++ va_pl L f).set k (a, e') = X ++ va_pl L (va_up f a e') := va_pl_set hD hm (by rw [hv]; exact hk)
theorem pl_ne {f : Nat → va_E} {a b : Nat} {e e' : va_E} (ha : f a = e) (hb : f b = e') (h : e = e' → False) : a ≠ b := fun z => h (by rw [← ha, ← hb, z])
theorem va_up_up {α : Type} (f : Nat → α) (a : Nat) (x y : α) : va_up (va_up f a x) a y = va_up f a y := by
  funext j
  by_cases h : j = a
  · subst h; simp [va_up]
  · simp [va_up, h]
/-- a row of bytes -/
def ByteRow (w : Nat → Int32) : Prop := ∀ j : Nat, fits .byte (.int (w j)) = true
/-- the twelve rows of winds lie in the pool -/
def Rows (L : List Nat) (f : Nat → va_E) (rr : Nat → Nat) (cB : ClassId) (cw : Nat → Nat → Int32) : Prop := ∀ m : Nat, m < 12 → rr m ∈ L ∧ f (rr m) = .inl (cB, 160, .inl (cw m)) ∧ (∀ k : Nat, k < 12 → rr k = rr m → k = m) ∧ ByteRow (cw m)
theorem rr_at {rr : Nat → Nat} {m : Nat} (h : m < 12) : (if m < 12 then some (rr m) else none) = some (rr m) := if_pos h
/-- a ship's write leaves the rows -/
theorem Rows.ship {L : List Nat} {f f2 : Nat → va_E} {rr : Nat → Nat} {cB : ClassId} {cw : Nat → Nat → Int32} {a : Nat} {e : va_E} {l : List Value} (h : Rows L f rr cB cw) (e2 : f2 = va_up f a e) (hv : f a = .inr (4, l)) : Rows L f2 rr cB cw := fun m hm => by
  obtain ⟨h1, h2, h3⟩ := h m hm
  refine ⟨h1, ?_, h3⟩
  rw [e2, va_up_ne _ _ (pl_ne h2 hv (fun z => by cases z))]
  exact h2
/-- the tables of ways -/
def eastOf (k : Nat) : Int32 := match k with | 1 => 1 | 2 => 1 | 3 => 1 | 5 => -1 | 6 => -1 | 7 => -1 | _ => 0
def southOf (k : Nat) : Int32 := match k with | 0 => -1 | 1 => -1 | 3 => 1 | 4 => 1 | 5 => 1 | 7 => -1 | _ => 0
theorem eastOf_rng {x : Int32} {k : Nat} (h : x = eastOf k) : -1 ≤ x.toInt ∧ x.toInt ≤ 1 := by
  rw [h]; unfold eastOf; split <;> decide
theorem southOf_rng {x : Int32} {k : Nat} (h : x = southOf k) : -1 ≤ x.toInt ∧ x.toInt ≤ 1 := by
  rw [h]; unfold southOf; split <;> decide
/-- the statics: the list's empty row, the two tables of ways -/
def Zs (te ea so mi : Nat) (A : Nat → Prop) (U : State) (H : Heap) : Prop := Zd te A U H ∧ (va_Z "TeaRace" "EAST_BY_WAY" "[I" (.ref ea) A U H ∧ va_T .int ea 8 (fun j => .int (eastOf j)) A U H) ∧ (va_Z "TeaRace" "SOUTH_BY_WAY" "[I" (.ref so) A U H ∧ va_T .int so 8 (fun j => .int (southOf j)) A U H) ∧ va_Mi "[Ljava/lang/Object;" mi U ∧ va_Dc U
theorem Zs.zd {te ea so mi : Nat} {A : Nat → Prop} {U : State} {H : Heap} (h : Zs te ea so mi A U H) : Zd te A U H := h.1
theorem Zs.eastZ {te ea so mi : Nat} {A : Nat → Prop} {U : State} {H : Heap} (h : Zs te ea so mi A U H) : va_Z "TeaRace" "EAST_BY_WAY" "[I" (.ref ea) A U H := h.2.1.1
theorem Zs.east {te ea so mi : Nat} {A : Nat → Prop} {U : State} {H : Heap} (h : Zs te ea so mi A U H) : va_T .int ea 8 (fun j => .int (eastOf j)) A U H := h.2.1.2
theorem Zs.southZ {te ea so mi : Nat} {A : Nat → Prop} {U : State} {H : Heap} (h : Zs te ea so mi A U H) : va_Z "TeaRace" "SOUTH_BY_WAY" "[I" (.ref so) A U H := h.2.2.1.1
theorem Zs.south {te ea so mi : Nat} {A : Nat → Prop} {U : State} {H : Heap} (h : Zs te ea so mi A U H) : va_T .int so 8 (fun j => .int (southOf j)) A U H := h.2.2.1.2
theorem Zs.mir {te ea so mi : Nat} {A : Nat → Prop} {U : State} {H : Heap} (h : Zs te ea so mi A U H) : va_Mi "[Ljava/lang/Object;" mi U := h.2.2.2.1
theorem Zs.dcl {te ea so mi : Nat} {A : Nat → Prop} {U : State} {H : Heap} (h : Zs te ea so mi A U H) : va_Dc U := h.2.2.2.2
theorem Zs.moved {te ea so mi : Nat} {A : Nat → Prop} {u U : State} {H : Heap} (hvm : u.vm.Alike U.vm) (h : Zs te ea so mi A u H) : Zs te ea so mi A U H := ⟨h.1.moved hvm, ⟨h.2.1.1.moved hvm, h.2.1.2.moved hvm⟩, ⟨h.2.2.1.1.moved hvm, h.2.2.1.2.moved hvm⟩, h.mir.moved hvm, h.dcl.moved hvm⟩
theorem Zs.pass {te ea so mi : Nat} {A0 A1 : Nat → Prop} {s U : State} {H : Heap} (h : Zs te ea so mi A0 s s.heap) (hq : ∀ a : Nat, a < s.heap.size → ¬ A0 a → H[a]? = s.heap[a]?) (hAB : ∀ q, A1 q → A0 q) (hal : s.vm.Alike U.vm) : Zs te ea so mi A1 U H := ⟨h.1.pass hq hAB hal, ⟨((h.2.1.1.kept hq).narrow hAB).moved hal, ((h.2.1.2.kept hq).narrow hAB).moved hal⟩, ⟨((h.2.2.1.1.kept hq).narrow hAB).moved hal, ((h.2.2.1.2.kept hq).narrow hAB).moved hal⟩, h.mir.moved hal, h.dcl.moved hal⟩
/-! a method of Math that is no row of the machine's own: its bytes are walked as any other's -/
theorem mt_rows : (Jvm.natives.all fun r => r.cls != "java/lang/Math" || r.desc != "(II)I") = true := by decide +kernel
theorem mt_plain : plainFor yJ9_floorMod_7cf53 = true := by
  unfold plainFor
  rw [Bool.or_eq_true]
  right
  rw [Option.isNone_iff_eq_none, NativeRow.find?, List.find?_eq_none]
  intro r hr h
  have h0 := List.all_eq_true.mp mt_rows r hr
  simp only [Bool.and_eq_true, beq_iff_eq] at h
  rw [h.1.2, h.2] at h0
  revert h0
  decide +kernel
theorem Met.ofWF {l : Launch} {y : MethodName} {ws ws' : List Cond} {rm : Room} {Pc : Array Value → State → Prop} {Qc : Array Value → State → Outcome → State → Prop} {mc ms : Nat} {free : Addr → Prop} {cc : ByteArray} {maxL : Nat} {ret : Option FieldType}
    (hy : plainFor y = true) (hw : ws = Cond.code y cc maxL ret :: ws')
    (body : ∀ p e s m args below meth c s₁, BodyLoose p l y (headSpec ws rm) cc maxL ret e s m args below meth c s₁ → c.maxLocals = maxL → Pc args s →
      W p l e (headSpec ws rm).room s m args below meth c s.heap [] 0 0 (MQ below Qc args s mc ms free) (entryFrame m args maxL)) : Met l y ws rm Pc Qc mc ms free := by
  refine MetFree.of_bodySF (code := cc) (maxLocals := maxL) (ret := ret) hy ?_ ?_
  · intro args s m h hn
    obtain ⟨meth, c, h1, h2, h3, h4, h5, h6, -, -⟩ := Cond.code_spec hn (atoms_spec (ws := ws) h _ (by rw [hw]; exact List.mem_cons_self))
    exact ⟨meth, c, h1, h2, h3, h4, h5, h6⟩
  · intro p e s m args below meth c s₁ B hml hP _
    have hh0 : s₁.heap = s.heap := by rw [B.state]; rfl
    obtain ⟨t, a1, o, b1, b2, b3⟩ := body p e s m args below meth c s₁ B hml hP s₁ hh0 (Stand.of_body B)
    exact ⟨t, o, a1, b1, b2, ⟨b3.1, b3.2⟩⟩
theorem east_ew {x i : Int32} (h : x = eastOf i.toNatClampNeg) (hi : 0 ≤ i.toInt ∧ i.toInt ≤ 7) : x.toInt = ewF i.toInt := by
  have hk : (i.toNatClampNeg : Int) = i.toInt := Int.toNat_of_nonneg hi.1
  rw [h, ← hk]
  rcases (show i.toNatClampNeg = 0 ∨ i.toNatClampNeg = 1 ∨ i.toNatClampNeg = 2 ∨ i.toNatClampNeg = 3 ∨ i.toNatClampNeg = 4 ∨ i.toNatClampNeg = 5 ∨ i.toNatClampNeg = 6 ∨ i.toNatClampNeg = 7 by omega) with e | e | e | e | e | e | e | e <;> rw [e] <;> decide
theorem south_sn {x i : Int32} (h : x = southOf i.toNatClampNeg) (hi : 0 ≤ i.toInt ∧ i.toInt ≤ 7) : x.toInt = snF i.toInt := by
  have hk : (i.toNatClampNeg : Int) = i.toInt := Int.toNat_of_nonneg hi.1
  rw [h, ← hk]
  rcases (show i.toNatClampNeg = 0 ∨ i.toNatClampNeg = 1 ∨ i.toNatClampNeg = 2 ∨ i.toNatClampNeg = 3 ∨ i.toNatClampNeg = 4 ∨ i.toNatClampNeg = 5 ∨ i.toNatClampNeg = 6 ∨ i.toNatClampNeg = 7 by omega) with e | e | e | e | e | e | e | e <;> rw [e] <;> decide
/-- what omega is not to look into -/
def Hid (P : Prop) : Prop := P
theorem Hid.mk {P : Prop} (h : P) : Hid P := h
theorem Hid.out {P : Prop} (h : Hid P) : P := h
