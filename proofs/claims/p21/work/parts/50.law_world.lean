/-! THE CLAIM OUT OF ONE WALK OF THE LAW'S BODY. Your part is whole_start (and what it stands on); all else here is the same for every law, but numbers. -/
def R_law : String := "TeaRaceLaw"
def lw_P (b : Addr) (xs : List Int32) (args : Array Value) (s : State) : Prop := args = #[.ref b] ∧ s.IntsAt b xs ∧ xs.length ≤ 4096 ∧ (Jvm.Cond.and given_1 narrow_1).before args s = true
def lw_Q (_ : Array Value) (s : State) (o : Outcome) (t : State) : Prop := o = .returned (some (.int 1)) ∧ Framed s o t [] 600000 7302250
def lw_Z (below : List Frame) (a : Array Value) (s : State) : State → Prop := fun t => ∃ o, t.status = .running ∧ Ended t below o ∧ lw_Q a s o t
/-- the law's own end, with 1 on the stack, nothing written that was there before, its room as the claim has it -/
theorem lw_ret {p : Program} {l : Launch} {e : Env} {s : State} {m : MethodId} {below : List Frame} {meth : Method} {c : Code} {b : Nat} (hx : p.tables.exec = Jvm.exec) (hb : c.code = code) (hr : meth.sig.returnType = ret) (hlocks : meth.locks = false) {pc : Nat} {H : Heap} {ls : Array Slot} (hdg : decode code pc = .ok (.ireturn, 1)) : W p l e room_1 s m #[Value.ref b] below meth c H [] 600000 7302250 (lw_Z below #[Value.ref b] s) (F0 m pc ls [.int 1]) := by
  intro T hT X
  obtain ⟨fs, hret, hrun, hended, hW, hframe⟩ := X.leave (v := some (.int 1)) (hlocks := hlocks) (fun h => by rw [hr] at h; cases h)
  have hmeth' : T.vm.method? m = some meth := X.method'
  refine ⟨T.setFrames fs, ?_, .returned (some (.int 1)), hrun, hended, rfl, ⟨_, rfl⟩, hW, hframe⟩
  jvm_step X.here [X.here.top, hx, hb, hdg, hmeth', hr, ret, narrow_b1]
  (try refine ⟨rfl, ?_⟩); (try refine ⟨rfl, ?_⟩)
  first | (intro acts; rw [hret _ acts rfl rfl rfl]) | rw [hret _ _ rfl rfl rfl]
  exact Steps.refl _
/-- what holds at the law's entry: the machine, the code, the tables' words (any of lw_tbl by 'hts w (by decide +kernel)'), the script of L ints xs at the cell b, what the Statement gives of the start (any of its parts by flat_of_before) -/
def lw_At (p : Program) (s : State) (m : MethodId) (meth : Method) (c : Code) (b L : Nat) (xs : Nat → Int32) : Prop :=
  p.tables.exec = Jvm.exec ∧ c.code = code ∧ meth.sig.returnType = ret ∧ c.maxLocals = 4 ∧ s.vm.findClass R_law = some m.cls ∧ (∀ w ∈ lw_tbl, w.before #[Value.ref b] s = true) ∧ va_X b L xs s s.heap ∧ b < s.heap.size ∧ meth.locks = false ∧ (Jvm.Cond.and given_1 narrow_1).before #[Value.ref b] s = true
/-! what the class's ships and the reference's rows have in common -/
def CSH (n : Nat) (V : Nat → Nat → Int32) (nO : Nat → Nat) (Kki Kch Kfo Kor : Nat → Int32) : Prop := ∀ i, i < n → V i 1 = Kki i ∧ V i 2 = Kch i ∧ V i 6 = Kfo i ∧ (Kor i).toInt = (nO i : Int)
/-- rows that no ship has had yet -/
def CNW (n : Nat) (Kfo Kor : Nat → Int32) : Prop := ∀ j : Nat, n ≤ j → Kfo j = 0 ∧ (Kor j).toInt = 0
theorem CSH.kept {n : Nat} {V U : Nat → Nat → Int32} {nO : Nat → Nat} {Kki Kch Kfo Kor : Nat → Int32} (h : CSH n V nO Kki Kch Kfo Kor) (k : Kept V U) : CSH n U nO Kki Kch Kfo Kor := fun i hi => by
  obtain ⟨h1, h2, h3, h4⟩ := h i hi
  obtain ⟨-, k1, k2, k3⟩ := k i
  exact ⟨k1.trans h1, k2.trans h2, k3.trans h3, h4⟩
theorem tn_eq {i : Int32} {n : Nat} (h : i.toInt = (n : Int)) : i.toNatClampNeg = n := by
  show i.toInt.toNat = n
  omega
theorem cp_ship {P : Prop} [Decidable P] {n un : Nat} {vns : Int32} {V uV : Nat → Nat → Int32} {nO unO : Nat → Nat} {Kki Kch Kfo Kor uki uch : Nat → Int32} {a0 a2 : Int32} (c : CSH n V nO Kki Kch Kfo Kor) (cn : CNW n Kfo Kor) (hv : vns.toInt = (n : Int)) (hn : un = if P then n + 1 else n) (hold : ∀ i, i < n → uV i = V i ∧ unO i = nO i) (hnew : P → uV n 1 = a0 ∧ uV n 2 = a2 ∧ uV n 6 = 0 ∧ unO n = 0) (hki : uki = if P then upd Kki vns.toNatClampNeg a0 else Kki) (hch : uch = if P then upd Kch vns.toNatClampNeg a2 else Kch) : CSH un uV unO uki uch Kfo Kor := fun i hi => by
  rw [tn_eq hv] at hki hch
  by_cases hP : P
  · rw [if_pos hP] at hn hki hch
    subst hn hki hch
    by_cases e : i = n
    · subst e
      obtain ⟨h1, h2, h3, h4⟩ := hnew hP
      obtain ⟨g1, g2⟩ := cn i (Nat.le_refl _)
      rw [upd_at, upd_at, h1, h2, h3, h4, g1]
      exact ⟨rfl, rfl, rfl, g2⟩
    · rw [upd_off _ _ e, upd_off _ _ e, (hold i (by omega)).1, (hold i (by omega)).2]
      exact c i (by omega)
  · rw [if_neg hP] at hn hki hch
    subst hn hki hch
    rw [(hold i hi).1, (hold i hi).2]
    exact c i hi
theorem cp_ship_nw {P : Prop} [Decidable P] {n un : Nat} {Kfo Kor : Nat → Int32} (c : CNW n Kfo Kor) (hn : un = if P then n + 1 else n) : CNW un Kfo Kor := fun j hj => c j (by
  by_cases hP : P
  · rw [if_pos hP] at hn; omega
  · rw [if_neg hP] at hn; omega)
theorem cp_ship_n {P : Prop} [Decidable P] {n un : Nat} {vns wns : Int32} (hv : vns.toInt = (n : Int)) (hn : un = if P then n + 1 else n) (hw : wns.toInt = if P then vns.toInt + 1 else vns.toInt) : wns.toInt = (un : Int) := by
  by_cases hP : P
  · rw [if_pos hP] at hn hw; omega
  · rw [if_neg hP] at hn hw; omega
theorem cp_foul {P : Prop} [Decidable P] {n k : Nat} {V uV : Nat → Nat → Int32} {nO : Nat → Nat} {Kki Kch Kfo Kor ufo : Nat → Int32} {x : Int32} (c : CSH n V nO Kki Kch Kfo Kor) (hV : uV = if P then va_up V k (upd (V k) 6 x) else V) (hf : ufo = if P then upd Kfo k x else Kfo) : CSH n uV nO Kki Kch ufo Kor := fun i hi => by
  obtain ⟨h1, h2, h3, h4⟩ := c i hi
  by_cases hP : P
  · rw [if_pos hP] at hV hf
    subst hV hf
    by_cases e : i = k
    · subst e
      rw [va_up_self, upd_at, upd_at, upd_off _ _ (by omega), upd_off _ _ (by omega)]
      exact ⟨h1, h2, rfl, h4⟩
    · rw [va_up_ne _ _ e, upd_off _ _ e]
      exact ⟨h1, h2, h3, h4⟩
  · rw [if_neg hP] at hV hf
    subst hV hf
    exact ⟨h1, h2, h3, h4⟩
theorem cp_foul_nw {P : Prop} [Decidable P] {n k : Nat} {Kfo Kor ufo : Nat → Int32} {x : Int32} (c : CNW n Kfo Kor) (hf : ufo = if P then upd Kfo k x else Kfo) (hk : P → k < n) : CNW n ufo Kor := fun j hj => by
  by_cases hP : P
  · have := hk hP
    rw [if_pos hP] at hf
    rw [hf, upd_off _ _ (by omega)]
    exact c j hj
  · rw [if_neg hP] at hf
    rw [hf]
    exact c j hj
theorem cp_foul_r {P : Prop} [Decidable P] {n k : Nat} {V : Nat → Nat → Int32} {nO : Nat → Nat} {Kki Kch Kfo Kor : Nat → Int32} {r q : Int32} (c : CSH n V nO Kki Kch Kfo Kor) (hk : P → k < n) (hr : r = if P then V k 6 else (-1)) (hq : q = if P then Kfo k else (-1)) : r = q := by
  by_cases hP : P
  · rw [if_pos hP] at hr hq
    rw [hr, hq]
    exact (c k (hk hP)).2.2.1
  · rw [if_neg hP] at hr hq
    rw [hr, hq]
theorem cp_order {P : Prop} [Decidable P] {n k : Nat} {V : Nat → Nat → Int32} {nO unO : Nat → Nat} {Kki Kch Kfo Kor uor : Nat → Int32} (c : CSH n V nO Kki Kch Kfo Kor) (hk : P → k < n) (hO : unO = if (P ∧ nO k < 20) then va_up nO k (nO k + 1) else nO) (hm : ∀ j : Nat, (uor j).toInt = if (P ∧ (Kor k).toInt < 20 ∧ j = k) then (Kor k).toInt + 1 else (Kor j).toInt) : CSH n V unO Kki Kch Kfo uor := fun i hi => by
  obtain ⟨h1, h2, h3, h4⟩ := c i hi
  refine ⟨h1, h2, h3, ?_⟩
  rw [hm i]
  by_cases hP : P
  · have hc := (c k (hk hP)).2.2.2
    by_cases h20 : nO k < 20
    · rw [if_pos ⟨hP, h20⟩] at hO
      subst hO
      by_cases e : i = k
      · subst e
        rw [if_pos ⟨hP, by omega, rfl⟩, va_up_self]
        omega
      · rw [if_neg (fun z => e z.2.2), va_up_ne _ _ e]
        exact h4
    · rw [if_neg (fun z => h20 z.2)] at hO
      subst hO
      rw [if_neg (fun z => h20 (by have := z.2.1; omega))]
      exact h4
  · rw [if_neg (fun z => hP z.1)] at hO
    subst hO
    rw [if_neg (fun z => hP z.1)]
    exact h4
theorem cp_order_nw {P : Prop} [Decidable P] {n k : Nat} {Kfo Kor uor : Nat → Int32} (c : CNW n Kfo Kor) (hm : ∀ j : Nat, (uor j).toInt = if (P ∧ (Kor k).toInt < 20 ∧ j = k) then (Kor k).toInt + 1 else (Kor j).toInt) (hk : P → k < n) : CNW n Kfo uor := fun j hj => by
  refine ⟨(c j hj).1, ?_⟩
  rw [hm j, if_neg (fun z => by have := hk z.1; omega)]
  exact (c j hj).2
theorem cp_order_r {P : Prop} [Decidable P] {n k : Nat} {V : Nat → Nat → Int32} {nO : Nat → Nat} {Kki Kch Kfo Kor : Nat → Int32} {r q : Int32} (c : CSH n V nO Kki Kch Kfo Kor) (hk : P → k < n) (hr : r.toInt = if P then (if nO k < 20 then (nO k : Int) + 1 else -2) else -1) (hq : q.toInt = if P then (if (Kor k).toInt < 20 then (Kor k).toInt + 1 else -2) else -1) : r = q := Int32.toInt_inj.mp (by
  rw [hr, hq]
  by_cases hP : P
  · have hc := (c k (hk hP)).2.2.2
    rw [if_pos hP, if_pos hP, hc]
    by_cases h : nO k < 20
    · rw [if_pos h, if_pos (by omega)]
    · rw [if_neg h, if_neg (by omega)]
  · rw [if_neg hP, if_neg hP])
theorem cp_speed_r {P : Prop} [Decidable P] {n k : Nat} {V : Nat → Nat → Int32} {nO : Nat → Nat} {Kki Kch Kfo Kor : Nat → Int32} {r q : Int32} {x y z : Int} (c : CSH n V nO Kki Kch Kfo Kor) (hk : P → k < n) (h8 : n ≤ 8) (hR : Rg 8 0 9 Kfo) (hr : (P → 0 ≤ (V k 6).toInt ∧ (V k 6).toInt ≤ 9) → r.toInt = if P then spd (V k 1).toInt (V k 6).toInt x y z else -1) (hq : q.toInt = if P then spd (Kki k).toInt (Kfo k).toInt x y z else -1) : r = q := Int32.toInt_inj.mp (by
  rw [hr (fun hP => by rw [(c k (hk hP)).2.2.1]; exact hR k (by have := hk hP; omega)), hq]
  by_cases hP : P
  · obtain ⟨h1, -, h6, -⟩ := c k (hk hP)
    rw [if_pos hP, if_pos hP, h1, h6]
  · rw [if_neg hP, if_neg hP])
/-- the world of both objects between two calls: what every reachable state keeps -/
def Wor (dC : Nat → ClassId) (dI : Nat → Nat → Nat) (A : Nat → Prop) (h0 sea pas fl fc lc ct ch hot dp m0 mfi mil mic mwi mmo mki mce mgo mwa mha mch mfo mca mor mro mra mpr mho mis mss msc msh te : Nat) (rr : Nat → Nat) (cZ cB cI cV cO : ClassId) (H : Heap) : Prop := ∃ (L : List Nat) (f : Nat → va_E) (own : Nat → Nat) (cw : Nat → Nat → Int32) (n : Nat) (sa : Nat → Nat) (V : Nat → Nat → Int32) (oa ia nO : Nat → Nat) (OW : Nat → Nat → Nat → Int32) (nS : Nat → Nat) (SW : Nat → Nat → Nat → Int32) (xlf xhr xho xga xsg xpr xfa : Int32) (xls : Int64) (Kf Ct Lc Kh Kd : Nat → Int32) (vfi vns vsg vpr vfa : Int32) (vak : Int64) (Kfi Kwi Kmo Kki Kce Kgo Kwa Kha Kch Kfo Kca Kor Kro Kra Kpr Kho Kis Kss Ksc Ksh : Nat → Int32), (Inv L f own te cO cB rr cw fl n sa V oa ia nO OW nS SW) ∧ (∀ i, i < n → (nS i : Int) ≤ xsg.toInt) ∧ (0 ≤ xhr.toInt ∧ xhr.toInt ≤ 100000) ∧ (0 ≤ xsg.toInt ∧ xsg.toInt ≤ 60) ∧ (0 ≤ xho.toInt ∧ xho.toInt ≤ 159) ∧ (0 ≤ xga.toInt ∧ xga.toInt ≤ 23) ∧ (0 ≤ vns.toInt ∧ vns.toInt ≤ 8) ∧ (0 ≤ vsg.toInt ∧ vsg.toInt ≤ 60) ∧ (1 ≤ vpr.toInt ∧ vpr.toInt ≤ 10000) ∧ (0 ≤ vfa.toInt ∧ vfa.toInt ≤ 1000) ∧ (Rg 1920 (-128) 127 Kwi) ∧ (Rg 8 0 3 Kki) ∧ (Rg 8 0 159 Kce) ∧ (Rg 8 0 84 Kgo) ∧ (Rg 8 0 7 Kwa) ∧ (Rn 8 0 100000 Kha) ∧ (Rg 8 0 20000 Kch) ∧ (Rg 8 0 9 Kfo) ∧ (Rg 8 0 20 Kor) ∧ (Rg 960 0 15 Kro) ∧ (Rg 8 0 1000 Kra) ∧ (Rg 8 0 100000 Kpr) ∧ (Rg 60 0 7 Kss) ∧ (Rg 60 0 159 Ksc) ∧ (Rg 60 0 100000 Ksh) ∧ (∀ j : Nat, j < 960 → j % 6 = 5 → 0 ≤ (Kro j).toInt ∧ (Kro j).toInt ≤ 7) ∧ (vns.toInt = (n : Int)) ∧ (CSH n V nO Kki Kch Kfo Kor) ∧ (CNW n Kfo Kor) ∧ (va_P (dC, dI) vwCl ([(h0, .inr (6, [.ref sea, .ref pas, .ref fl, .ref fc, .int xlf, .int xhr, .int xho, .int xga, .int xsg, .int xpr, .int xfa, .long xls])), (sea, .inr (3, [.ref lc, .ref ct, .ref ch])), (lc, .inl (cZ, 160, .inl Lc)), (ct, .inl (cZ, 12, .inl Ct)), (ch, .inl (cV, 12, .inr (.inr (.inr (.inr (fun i => if i < 12 then some (rr i) else none)))))), (pas, .inr (2, [.ref hot, .ref dp])), (hot, .inl (cI, 160, .inl Kh)), (dp, .inl (cZ, 160, .inl Kd)), (fc, .inl (cI, 6, .inl Kf)), (m0, .inr (7, [.int vfi, .ref mfi, .long vak, .int xhr, .ref mil, .ref mic, .ref mwi, .int xho, .int xga, .ref mmo, .int vns, .ref mki, .ref mce, .ref mgo, .ref mwa, .ref mha, .ref mch, .ref mfo, .ref mca, .ref mor, .ref mro, .ref mra, .ref mpr, .ref mho, .ref mis, .int vsg, .ref mss, .ref msc, .ref msh, .int vpr, .int vfa])), (mfi, .inl (cI, 6, .inl Kfi)), (mil, .inl (cZ, 160, .inl Lc)), (mic, .inl (cZ, 12, .inl Ct)), (mwi, .inl (cI, 1920, .inl Kwi)), (mmo, .inl (cI, 160, .inl Kmo)), (mki, .inl (cI, 8, .inl Kki)), (mce, .inl (cI, 8, .inl Kce)), (mgo, .inl (cI, 8, .inl Kgo)), (mwa, .inl (cI, 8, .inl Kwa)), (mha, .inl (cI, 8, .inl Kha)), (mch, .inl (cI, 8, .inl Kch)), (mfo, .inl (cI, 8, .inl Kfo)), (mca, .inl (cI, 8, .inl Kca)), (mor, .inl (cI, 8, .inl Kor)), (mro, .inl (cI, 960, .inl Kro)), (mra, .inl (cI, 8, .inl Kra)), (mpr, .inl (cI, 8, .inl Kpr)), (mho, .inl (cI, 160, .inl Kho)), (mis, .inl (cZ, 160, .inl Kis)), (mss, .inl (cI, 60, .inl Kss)), (msc, .inl (cI, 60, .inl Ksc)), (msh, .inl (cI, 60, .inl Ksh))] ++ va_pl L f) H) ∧ (va_D A ([(h0, .inr (6, [.ref sea, .ref pas, .ref fl, .ref fc, .int xlf, .int xhr, .int xho, .int xga, .int xsg, .int xpr, .int xfa, .long xls])), (sea, .inr (3, [.ref lc, .ref ct, .ref ch])), (lc, .inl (cZ, 160, .inl Lc)), (ct, .inl (cZ, 12, .inl Ct)), (ch, .inl (cV, 12, .inr (.inr (.inr (.inr (fun i => if i < 12 then some (rr i) else none)))))), (pas, .inr (2, [.ref hot, .ref dp])), (hot, .inl (cI, 160, .inl Kh)), (dp, .inl (cZ, 160, .inl Kd)), (fc, .inl (cI, 6, .inl Kf)), (m0, .inr (7, [.int vfi, .ref mfi, .long vak, .int xhr, .ref mil, .ref mic, .ref mwi, .int xho, .int xga, .ref mmo, .int vns, .ref mki, .ref mce, .ref mgo, .ref mwa, .ref mha, .ref mch, .ref mfo, .ref mca, .ref mor, .ref mro, .ref mra, .ref mpr, .ref mho, .ref mis, .int vsg, .ref mss, .ref msc, .ref msh, .int vpr, .int vfa])), (mfi, .inl (cI, 6, .inl Kfi)), (mil, .inl (cZ, 160, .inl Lc)), (mic, .inl (cZ, 12, .inl Ct)), (mwi, .inl (cI, 1920, .inl Kwi)), (mmo, .inl (cI, 160, .inl Kmo)), (mki, .inl (cI, 8, .inl Kki)), (mce, .inl (cI, 8, .inl Kce)), (mgo, .inl (cI, 8, .inl Kgo)), (mwa, .inl (cI, 8, .inl Kwa)), (mha, .inl (cI, 8, .inl Kha)), (mch, .inl (cI, 8, .inl Kch)), (mfo, .inl (cI, 8, .inl Kfo)), (mca, .inl (cI, 8, .inl Kca)), (mor, .inl (cI, 8, .inl Kor)), (mro, .inl (cI, 960, .inl Kro)), (mra, .inl (cI, 8, .inl Kra)), (mpr, .inl (cI, 8, .inl Kpr)), (mho, .inl (cI, 160, .inl Kho)), (mis, .inl (cZ, 160, .inl Kis)), (mss, .inl (cI, 60, .inl Kss)), (msc, .inl (cI, 60, .inl Ksc)), (msh, .inl (cI, 60, .inl Ksh))] ++ va_pl L f))
theorem Wor.mk {dC : Nat → ClassId} {dI : Nat → Nat → Nat} {A : Nat → Prop} {h0 sea pas fl fc lc ct ch hot dp m0 mfi mil mic mwi mmo mki mce mgo mwa mha mch mfo mca mor mro mra mpr mho mis mss msc msh te : Nat} {rr : Nat → Nat} {cZ cB cI cV cO : ClassId} {H : Heap} {L : List Nat} {f : Nat → va_E} {own : Nat → Nat} {cw : Nat → Nat → Int32} {n : Nat} {sa : Nat → Nat} {V : Nat → Nat → Int32} {oa ia nO : Nat → Nat} {OW : Nat → Nat → Nat → Int32} {nS : Nat → Nat} {SW : Nat → Nat → Nat → Int32} {xlf xhr xho xga xsg xpr xfa : Int32} {xls : Int64} {Kf Ct Lc Kh Kd : Nat → Int32} {vfi vns vsg vpr vfa : Int32} {vak : Int64} {Kfi Kwi Kmo Kki Kce Kgo Kwa Kha Kch Kfo Kca Kor Kro Kra Kpr Kho Kis Kss Ksc Ksh : Nat → Int32} (inv : Inv L f own te cO cB rr cw fl n sa V oa ia nO OW nS SW) (hns : ∀ i, i < n → (nS i : Int) ≤ xsg.toInt) (i_xhr : 0 ≤ xhr.toInt ∧ xhr.toInt ≤ 100000) (i_xsg : 0 ≤ xsg.toInt ∧ xsg.toInt ≤ 60) (i_xho : 0 ≤ xho.toInt ∧ xho.toInt ≤ 159) (i_xga : 0 ≤ xga.toInt ∧ xga.toInt ≤ 23) (i_vns : 0 ≤ vns.toInt ∧ vns.toInt ≤ 8) (i_vsg : 0 ≤ vsg.toInt ∧ vsg.toInt ≤ 60) (i_vpr : 1 ≤ vpr.toInt ∧ vpr.toInt ≤ 10000) (i_vfa : 0 ≤ vfa.toInt ∧ vfa.toInt ≤ 1000) (R_Kwi : Rg 1920 (-128) 127 Kwi) (R_Kki : Rg 8 0 3 Kki) (R_Kce : Rg 8 0 159 Kce) (R_Kgo : Rg 8 0 84 Kgo) (R_Kwa : Rg 8 0 7 Kwa) (R_Kha : Rn 8 0 100000 Kha) (R_Kch : Rg 8 0 20000 Kch) (R_Kfo : Rg 8 0 9 Kfo) (R_Kor : Rg 8 0 20 Kor) (R_Kro : Rg 960 0 15 Kro) (R_Kra : Rg 8 0 1000 Kra) (R_Kpr : Rg 8 0 100000 Kpr) (R_Kss : Rg 60 0 7 Kss) (R_Ksc : Rg 60 0 159 Ksc) (R_Ksh : Rg 60 0 100000 Ksh) (Wro : ∀ j : Nat, j < 960 → j % 6 = 5 → 0 ≤ (Kro j).toInt ∧ (Kro j).toInt ≤ 7) (c_n : vns.toInt = (n : Int)) (c_sh : CSH n V nO Kki Kch Kfo Kor) (c_nw : CNW n Kfo Kor) (hP : va_P (dC, dI) vwCl ([(h0, .inr (6, [.ref sea, .ref pas, .ref fl, .ref fc, .int xlf, .int xhr, .int xho, .int xga, .int xsg, .int xpr, .int xfa, .long xls])), (sea, .inr (3, [.ref lc, .ref ct, .ref ch])), (lc, .inl (cZ, 160, .inl Lc)), (ct, .inl (cZ, 12, .inl Ct)), (ch, .inl (cV, 12, .inr (.inr (.inr (.inr (fun i => if i < 12 then some (rr i) else none)))))), (pas, .inr (2, [.ref hot, .ref dp])), (hot, .inl (cI, 160, .inl Kh)), (dp, .inl (cZ, 160, .inl Kd)), (fc, .inl (cI, 6, .inl Kf)), (m0, .inr (7, [.int vfi, .ref mfi, .long vak, .int xhr, .ref mil, .ref mic, .ref mwi, .int xho, .int xga, .ref mmo, .int vns, .ref mki, .ref mce, .ref mgo, .ref mwa, .ref mha, .ref mch, .ref mfo, .ref mca, .ref mor, .ref mro, .ref mra, .ref mpr, .ref mho, .ref mis, .int vsg, .ref mss, .ref msc, .ref msh, .int vpr, .int vfa])), (mfi, .inl (cI, 6, .inl Kfi)), (mil, .inl (cZ, 160, .inl Lc)), (mic, .inl (cZ, 12, .inl Ct)), (mwi, .inl (cI, 1920, .inl Kwi)), (mmo, .inl (cI, 160, .inl Kmo)), (mki, .inl (cI, 8, .inl Kki)), (mce, .inl (cI, 8, .inl Kce)), (mgo, .inl (cI, 8, .inl Kgo)), (mwa, .inl (cI, 8, .inl Kwa)), (mha, .inl (cI, 8, .inl Kha)), (mch, .inl (cI, 8, .inl Kch)), (mfo, .inl (cI, 8, .inl Kfo)), (mca, .inl (cI, 8, .inl Kca)), (mor, .inl (cI, 8, .inl Kor)), (mro, .inl (cI, 960, .inl Kro)), (mra, .inl (cI, 8, .inl Kra)), (mpr, .inl (cI, 8, .inl Kpr)), (mho, .inl (cI, 160, .inl Kho)), (mis, .inl (cZ, 160, .inl Kis)), (mss, .inl (cI, 60, .inl Kss)), (msc, .inl (cI, 60, .inl Ksc)), (msh, .inl (cI, 60, .inl Ksh))] ++ va_pl L f) H) (hD : va_D A ([(h0, .inr (6, [.ref sea, .ref pas, .ref fl, .ref fc, .int xlf, .int xhr, .int xho, .int xga, .int xsg, .int xpr, .int xfa, .long xls])), (sea, .inr (3, [.ref lc, .ref ct, .ref ch])), (lc, .inl (cZ, 160, .inl Lc)), (ct, .inl (cZ, 12, .inl Ct)), (ch, .inl (cV, 12, .inr (.inr (.inr (.inr (fun i => if i < 12 then some (rr i) else none)))))), (pas, .inr (2, [.ref hot, .ref dp])), (hot, .inl (cI, 160, .inl Kh)), (dp, .inl (cZ, 160, .inl Kd)), (fc, .inl (cI, 6, .inl Kf)), (m0, .inr (7, [.int vfi, .ref mfi, .long vak, .int xhr, .ref mil, .ref mic, .ref mwi, .int xho, .int xga, .ref mmo, .int vns, .ref mki, .ref mce, .ref mgo, .ref mwa, .ref mha, .ref mch, .ref mfo, .ref mca, .ref mor, .ref mro, .ref mra, .ref mpr, .ref mho, .ref mis, .int vsg, .ref mss, .ref msc, .ref msh, .int vpr, .int vfa])), (mfi, .inl (cI, 6, .inl Kfi)), (mil, .inl (cZ, 160, .inl Lc)), (mic, .inl (cZ, 12, .inl Ct)), (mwi, .inl (cI, 1920, .inl Kwi)), (mmo, .inl (cI, 160, .inl Kmo)), (mki, .inl (cI, 8, .inl Kki)), (mce, .inl (cI, 8, .inl Kce)), (mgo, .inl (cI, 8, .inl Kgo)), (mwa, .inl (cI, 8, .inl Kwa)), (mha, .inl (cI, 8, .inl Kha)), (mch, .inl (cI, 8, .inl Kch)), (mfo, .inl (cI, 8, .inl Kfo)), (mca, .inl (cI, 8, .inl Kca)), (mor, .inl (cI, 8, .inl Kor)), (mro, .inl (cI, 960, .inl Kro)), (mra, .inl (cI, 8, .inl Kra)), (mpr, .inl (cI, 8, .inl Kpr)), (mho, .inl (cI, 160, .inl Kho)), (mis, .inl (cZ, 160, .inl Kis)), (mss, .inl (cI, 60, .inl Kss)), (msc, .inl (cI, 60, .inl Ksc)), (msh, .inl (cI, 60, .inl Ksh))] ++ va_pl L f)) : Wor dC dI A h0 sea pas fl fc lc ct ch hot dp m0 mfi mil mic mwi mmo mki mce mgo mwa mha mch mfo mca mor mro mra mpr mho mis mss msc msh te rr cZ cB cI cV cO H := ⟨L, f, own, cw, n, sa, V, oa, ia, nO, OW, nS, SW, xlf, xhr, xho, xga, xsg, xpr, xfa, xls, Kf, Ct, Lc, Kh, Kd, vfi, vns, vsg, vpr, vfa, vak, Kfi, Kwi, Kmo, Kki, Kce, Kgo, Kwa, Kha, Kch, Kfo, Kca, Kor, Kro, Kra, Kpr, Kho, Kis, Kss, Ksc, Ksh, inv, hns, i_xhr, i_xsg, i_xho, i_xga, i_vns, i_vsg, i_vpr, i_vfa, R_Kwi, R_Kki, R_Kce, R_Kgo, R_Kwa, R_Kha, R_Kch, R_Kfo, R_Kor, R_Kro, R_Kra, R_Kpr, R_Kss, R_Ksc, R_Ksh, Wro, c_n, c_sh, c_nw, hP, hD⟩
