/-! THE CLAIM OUT OF ONE WALK OF THE LAW'S BODY. Your part is whole_start (and what it stands on); all else here is the same for every law, but numbers. -/
def R_law : String := "TeaRaceLaw"
def lw_P (b : Addr) (xs : List Int32) (args : Array Value) (s : State) : Prop := args = #[.ref b] ∧ s.IntsAt b xs ∧ xs.length ≤ 4096 ∧ (Jvm.Cond.and given_1 narrow_1).before args s = true
def lw_Q (_ : Array Value) (s : State) (o : Outcome) (t : State) : Prop := o = .returned (some (.int 1)) ∧ Framed s o t [] 600000 7302250
def lw_Z (below : List Frame) (a : Array Value) (s : State) : State → Prop := fun t => ∃ o, t.status = .running ∧ Ended t below o ∧ lw_Q a s o t
/-- the law's own end, with 1 on the stack, nothing written that was there before, its room as the claim has it -/
theorem lw_ret {p : Program} {l : Launch} {e : Env} {s : State} {m : MethodId} {below : List Frame} {meth : Method} {c : Code} {b : Nat} (hx : p.tables.exec = Jvm.exec) (hb : c.code = code) (hr : meth.sig.returnType = ret) (hlocks : meth.locks = false) {pc : Nat} {H : Heap} {ls : Array Slot} (hdg : decode code pc = .ok (.ireturn, 1)) : W p l e room_1 s m #[Value.ref b] below meth c H [] 600000 7302250 (lw_Z below #[Value.ref b] s) (F0 m pc ls [.int 1]) := by
  intro T hT X
  obtain ⟨fs, hret, hrun, hended, hW, hframe⟩ := X.leave (v := some (.int 1)) (hlocks := hlocks) (fun h => by rw [hr] at h; cases h)
  have hmeth' : T.vm.method? m = some meth := X.method'
  refine ⟨T.setFrames fs, ?_, .returned (some (.int 1)), hrun, hended, rfl, ⟨_, rfl⟩, hW, hframe⟩
  jvm_step X.here [X.here.top, hx, hb, hdg, hmeth', hr, ret, narrow_b1]
  (try refine ⟨rfl, ?_⟩); (try refine ⟨rfl, ?_⟩)
  first | (intro acts; rw [hret _ acts rfl rfl rfl]) | rw [hret _ _ rfl rfl rfl]
  exact Steps.refl _
/-- what holds at the law's entry: the machine, the code, the tables' words (any of lw_tbl by 'hts w (by decide +kernel)'), the script of L ints xs at the cell b, what the Statement gives of the start (any of its parts by flat_of_before) -/
def lw_At (p : Program) (s : State) (m : MethodId) (meth : Method) (c : Code) (b L : Nat) (xs : Nat → Int32) : Prop :=
  p.tables.exec = Jvm.exec ∧ c.code = code ∧ meth.sig.returnType = ret ∧ c.maxLocals = 4 ∧ s.vm.findClass R_law = some m.cls ∧ (∀ w ∈ lw_tbl, w.before #[Value.ref b] s = true) ∧ va_X b L xs s s.heap ∧ b < s.heap.size ∧ meth.locks = false ∧ (Jvm.Cond.and given_1 narrow_1).before #[Value.ref b] s = true
/-! what the class's ships and the reference's rows have in common -/
def CSH (n : Nat) (V : Nat → Nat → Int32) (nO : Nat → Nat) (Kki Kch Kfo Kor : Nat → Int32) : Prop := ∀ i, i < n → V i 1 = Kki i ∧ V i 2 = Kch i ∧ V i 6 = Kfo i ∧ (Kor i).toInt = (nO i : Int)
/-- rows that no ship has had yet -/
def CNW (n : Nat) (Kfo Kor : Nat → Int32) : Prop := ∀ j : Nat, n ≤ j → Kfo j = 0 ∧ (Kor j).toInt = 0
theorem CSH.kept {n : Nat} {V U : Nat → Nat → Int32} {nO : Nat → Nat} {Kki Kch Kfo Kor : Nat → Int32} (h : CSH n V nO Kki Kch Kfo Kor) (k : Kept V U) : CSH n U nO Kki Kch Kfo Kor := fun i hi => by
  obtain ⟨h1, h2, h3, h4⟩ := h i hi
  obtain ⟨-, k1, k2, k3⟩ := k i
  exact ⟨k1.trans h1, k2.trans h2, k3.trans h3, h4⟩
theorem tn_eq {i : Int32} {n : Nat} (h : i.toInt = (n : Int)) : i.toNatClampNeg = n := by
  show i.toInt.toNat = n
  omega
theorem cp_ship {P : Prop} [Decidable P] {nS unS : Nat → Nat} {SW uSW : Nat → Nat → Nat → Int32} {n un : Nat} {vns : Int32} {V uV : Nat → Nat → Int32} {nO unO : Nat → Nat} {Kki Kch Kfo Kor uki uch : Nat → Int32} {a0 a2 : Int32} (c : CSH n V nO Kki Kch Kfo Kor) (cn : CNW n Kfo Kor) (hv : vns.toInt = (n : Int)) (hn : un = if P then n + 1 else n) (hold : ∀ i, i < n → uV i = V i ∧ unO i = nO i ∧ unS i = nS i ∧ uSW i = SW i) (hnew : P → uV n 1 = a0 ∧ uV n 2 = a2 ∧ uV n 6 = 0 ∧ unO n = 0) (hki : uki = if P then upd Kki vns.toNatClampNeg a0 else Kki) (hch : uch = if P then upd Kch vns.toNatClampNeg a2 else Kch) : CSH un uV unO uki uch Kfo Kor := fun i hi => by
  rw [tn_eq hv] at hki hch
  by_cases hP : P
  · rw [if_pos hP] at hn hki hch
    subst hn hki hch
    by_cases e : i = n
    · subst e
      obtain ⟨h1, h2, h3, h4⟩ := hnew hP
      obtain ⟨g1, g2⟩ := cn i (Nat.le_refl _)
      rw [upd_at, upd_at, h1, h2, h3, h4, g1]
      exact ⟨rfl, rfl, rfl, g2⟩
    · rw [upd_off _ _ e, upd_off _ _ e, (hold i (by omega)).1, (hold i (by omega)).2.1]
      exact c i (by omega)
  · rw [if_neg hP] at hn hki hch
    subst hn hki hch
    rw [(hold i hi).1, (hold i hi).2.1]
    exact c i hi
theorem cp_ship_nw {P : Prop} [Decidable P] {n un : Nat} {Kfo Kor : Nat → Int32} (c : CNW n Kfo Kor) (hn : un = if P then n + 1 else n) : CNW un Kfo Kor := fun j hj => c j (by
  by_cases hP : P
  · rw [if_pos hP] at hn; omega
  · rw [if_neg hP] at hn; omega)
theorem cp_ship_n {P : Prop} [Decidable P] {n un : Nat} {vns wns : Int32} (hv : vns.toInt = (n : Int)) (hn : un = if P then n + 1 else n) (hw : wns.toInt = if P then vns.toInt + 1 else vns.toInt) : wns.toInt = (un : Int) := by
  by_cases hP : P
  · rw [if_pos hP] at hn hw; omega
  · rw [if_neg hP] at hn hw; omega
theorem cp_foul {P : Prop} [Decidable P] {n k : Nat} {V uV : Nat → Nat → Int32} {nO : Nat → Nat} {Kki Kch Kfo Kor ufo : Nat → Int32} {x : Int32} (c : CSH n V nO Kki Kch Kfo Kor) (hV : uV = if P then va_up V k (upd (V k) 6 x) else V) (hf : ufo = if P then upd Kfo k x else Kfo) : CSH n uV nO Kki Kch ufo Kor := fun i hi => by
  obtain ⟨h1, h2, h3, h4⟩ := c i hi
  by_cases hP : P
  · rw [if_pos hP] at hV hf
    subst hV hf
    by_cases e : i = k
    · subst e
      rw [va_up_self, upd_at, upd_at, upd_off _ _ (by omega), upd_off _ _ (by omega)]
      exact ⟨h1, h2, rfl, h4⟩
    · rw [va_up_ne _ _ e, upd_off _ _ e]
      exact ⟨h1, h2, h3, h4⟩
  · rw [if_neg hP] at hV hf
    subst hV hf
    exact ⟨h1, h2, h3, h4⟩
theorem cp_foul_nw {P : Prop} [Decidable P] {n k : Nat} {Kfo Kor ufo : Nat → Int32} {x : Int32} (c : CNW n Kfo Kor) (hf : ufo = if P then upd Kfo k x else Kfo) (hk : P → k < n) : CNW n ufo Kor := fun j hj => by
  by_cases hP : P
  · have := hk hP
    rw [if_pos hP] at hf
    rw [hf, upd_off _ _ (by omega)]
    exact c j hj
  · rw [if_neg hP] at hf
    rw [hf]
    exact c j hj
theorem cp_foul_r {P : Prop} [Decidable P] {n k : Nat} {V : Nat → Nat → Int32} {nO : Nat → Nat} {Kki Kch Kfo Kor : Nat → Int32} {r q : Int32} (c : CSH n V nO Kki Kch Kfo Kor) (hk : P → k < n) (hr : r = if P then V k 6 else (-1)) (hq : q = if P then Kfo k else (-1)) : r = q := by
  by_cases hP : P
  · rw [if_pos hP] at hr hq
    rw [hr, hq]
    exact (c k (hk hP)).2.2.1
  · rw [if_neg hP] at hr hq
    rw [hr, hq]
theorem cp_order {P : Prop} [Decidable P] {n k : Nat} {V : Nat → Nat → Int32} {nO unO : Nat → Nat} {Kki Kch Kfo Kor uor : Nat → Int32} (c : CSH n V nO Kki Kch Kfo Kor) (hk : P → k < n) (hO : unO = if (P ∧ nO k < 20) then va_up nO k (nO k + 1) else nO) (hm : ∀ j : Nat, (uor j).toInt = if (P ∧ (Kor k).toInt < 20 ∧ j = k) then (Kor k).toInt + 1 else (Kor j).toInt) : CSH n V unO Kki Kch Kfo uor := fun i hi => by
  obtain ⟨h1, h2, h3, h4⟩ := c i hi
  refine ⟨h1, h2, h3, ?_⟩
  rw [hm i]
  by_cases hP : P
  · have hc := (c k (hk hP)).2.2.2
    by_cases h20 : nO k < 20
    · rw [if_pos ⟨hP, h20⟩] at hO
      subst hO
      by_cases e : i = k
      · subst e
        rw [if_pos ⟨hP, by omega, rfl⟩, va_up_self]
        omega
      · rw [if_neg (fun z => e z.2.2), va_up_ne _ _ e]
        exact h4
    · rw [if_neg (fun z => h20 z.2)] at hO
      subst hO
      rw [if_neg (fun z => h20 (by have := z.2.1; omega))]
      exact h4
  · rw [if_neg (fun z => hP z.1)] at hO
    subst hO
    rw [if_neg (fun z => hP z.1)]
    exact h4
theorem cp_order_nw {P : Prop} [Decidable P] {n k : Nat} {Kfo Kor uor : Nat → Int32} (c : CNW n Kfo Kor) (hm : ∀ j : Nat, (uor j).toInt = if (P ∧ (Kor k).toInt < 20 ∧ j = k) then (Kor k).toInt + 1 else (Kor j).toInt) (hk : P → k < n) : CNW n Kfo uor := fun j hj => by
  refine ⟨(c j hj).1, ?_⟩
  rw [hm j, if_neg (fun z => by have := hk z.1; omega)]
  exact (c j hj).2
theorem cp_order_r {P : Prop} [Decidable P] {n k : Nat} {V : Nat → Nat → Int32} {nO : Nat → Nat} {Kki Kch Kfo Kor : Nat → Int32} {r q : Int32} (c : CSH n V nO Kki Kch Kfo Kor) (hk : P → k < n) (hr : r.toInt = if P then (if nO k < 20 then (nO k : Int) + 1 else -2) else -1) (hq : q.toInt = if P then (if (Kor k).toInt < 20 then (Kor k).toInt + 1 else -2) else -1) : r = q := Int32.toInt_inj.mp (by
  rw [hr, hq]
  by_cases hP : P
  · have hc := (c k (hk hP)).2.2.2
    rw [if_pos hP, if_pos hP, hc]
    by_cases h : nO k < 20
    · rw [if_pos h, if_pos (by omega)]
    · rw [if_neg h, if_neg (by omega)]
  · rw [if_neg hP, if_neg hP])
theorem cp_speed_r {P : Prop} [Decidable P] {n k : Nat} {V : Nat → Nat → Int32} {nO : Nat → Nat} {Kki Kch Kfo Kor : Nat → Int32} {r q : Int32} {x y z : Int} (c : CSH n V nO Kki Kch Kfo Kor) (hk : P → k < n) (h8 : n ≤ 8) (hR : Rg 8 0 9 Kfo) (hr : (P → 0 ≤ (V k 6).toInt ∧ (V k 6).toInt ≤ 9) → r.toInt = if P then spd (V k 1).toInt (V k 6).toInt x y z else -1) (hq : q.toInt = if P then spd (Kki k).toInt (Kfo k).toInt x y z else -1) : r = q := Int32.toInt_inj.mp (by
  rw [hr (fun hP => by rw [(c k (hk hP)).2.2.1]; exact hR k (by have := hk hP; omega)), hq]
  by_cases hP : P
  · obtain ⟨h1, -, h6, -⟩ := c k (hk hP)
    rw [if_pos hP, if_pos hP, h1, h6]
  · rw [if_neg hP, if_neg hP])
/-! winds -/
def CWI (cw : Nat → Nat → Int32) (Kwi : Nat → Int32) : Prop := ∀ m j : Nat, m < 12 → j < 160 → cw m j = Kwi (160 * m + j)
theorem cp_chart {P : Prop} [Decidable P] {a0 : Int32} {cw ucw : Nat → Nat → Int32} {Kwi uwi : Nat → Int32} (c : CWI cw Kwi) (hP : P ↔ 0 ≤ a0.toInt ∧ a0.toInt ≤ 11) (hc : ∀ m j : Nat, m < 12 → j < 160 → ucw m j = if (P ∧ m = a0.toNatClampNeg) then 0 else cw m j) (hm : ∀ j : Nat, uwi j = if (0 ≤ a0.toInt ∧ a0.toInt ≤ 11 ∧ 160 * a0.toInt ≤ (j : Int) ∧ (j : Int) < 160 * a0.toInt + 160) then 0 else Kwi j) : CWI ucw uwi := fun m j h1 h2 => by
  rw [hc m j h1 h2, hm, c m j h1 h2]
  by_cases q : P ∧ m = a0.toNatClampNeg
  · have q1 := hP.mp q.1
    have q2 : (a0.toNatClampNeg : Int) = a0.toInt := Int.toNat_of_nonneg q1.1
    have q3 := q.2
    rw [if_pos q, if_pos ⟨q1.1, q1.2, by omega, by omega⟩]
  · rw [if_neg q, if_neg (fun z => q ⟨hP.mpr ⟨z.1, z.2.1⟩, by
      have q2 : (a0.toNatClampNeg : Int) = a0.toInt := Int.toNat_of_nonneg z.1
      omega⟩)]
theorem cp_wind {P : Prop} [Decidable P] {k q : Nat} {z : Int32} {cw ucw : Nat → Nat → Int32} {Kwi uwi : Nat → Int32} (c : CWI cw Kwi) (hP : P → k < 12 ∧ q < 160) (hc : ucw = if P then va_up cw k (upd (cw k) q (vp_nar .byte z.toInt8.toInt32)) else cw) (hm : ∀ j : Nat, uwi j = if (P ∧ j = 160 * k + q) then z.toInt8.toInt32 else Kwi j) : CWI ucw uwi := fun m j h1 h2 => by
  rw [hm]
  by_cases p : P
  · rw [if_pos p] at hc
    have hk := hP p
    rw [hc]
    by_cases e : m = k
    · subst e
      rw [va_up_self]
      by_cases e2 : j = q
      · subst e2; rw [upd_at, if_pos ⟨p, rfl⟩, nar_b]
      · rw [upd_off _ _ e2, if_neg (fun w => e2 (by omega))]; exact c m j h1 h2
    · rw [va_up_ne _ _ e, if_neg (fun w => e (by omega))]; exact c m j h1 h2
  · rw [if_neg p] at hc
    rw [hc, if_neg (fun w => p w.1)]
    exact c m j h1 h2
theorem cp_copy {P : Prop} [Decidable P] {k k2 i j0 : Nat} {n : Int32} {cw ucw : Nat → Nat → Int32} {Kwi uwi : Nat → Int32} (c : CWI cw Kwi) (hP : P → k < 12 ∧ k2 < 12 ∧ 0 ≤ n.toInt ∧ (i : Int) + n.toInt ≤ 160 ∧ (j0 : Int) + n.toInt ≤ 160) (hc : ucw = if P then va_up cw k2 (va_cpy (cw k) (cw k2) i j0 n.toNatClampNeg) else cw) (hm : ∀ t : Nat, uwi t = if (P ∧ 160 * k2 + j0 ≤ t ∧ (t : Int) < ((160 * k2 + j0 : Nat) : Int) + n.toInt) then Kwi (160 * k + i + (t - (160 * k2 + j0))) else Kwi t) : CWI ucw uwi := fun m j h1 h2 => by
  rw [hm]
  by_cases p : P
  · rw [if_pos p] at hc
    obtain ⟨g1, g2, g3, g4, g5⟩ := hP p
    have hn : (n.toNatClampNeg : Int) = n.toInt := Int.toNat_of_nonneg g3
    rw [hc]
    by_cases e : m = k2
    · subst e
      rw [va_up_self]
      show (if j0 ≤ j ∧ j < j0 + n.toNatClampNeg then cw k (i + (j - j0)) else cw m j) = _
      by_cases e2 : j0 ≤ j ∧ j < j0 + n.toNatClampNeg
      · rw [if_pos e2, if_pos ⟨p, by omega, by omega⟩, c k _ g1 (by omega), show 160 * k + (i + (j - j0)) = 160 * k + i + (160 * m + j - (160 * m + j0)) by omega]
      · rw [if_neg e2, if_neg (fun w => e2 ⟨by omega, by omega⟩)]; exact c m j h1 h2
    · rw [va_up_ne _ _ e, if_neg (fun w => e (by omega))]; exact c m j h1 h2
  · rw [if_neg p] at hc
    rw [hc, if_neg (fun w => p w.1)]
    exact c m j h1 h2
theorem cp_wind_r {P Q : Prop} [Decidable P] [Decidable Q] {k q : Nat} {cw : Nat → Nat → Int32} {Kwi : Nat → Int32} {x y : Int32} (c : CWI cw Kwi) (hP : P → Q → k < 12 ∧ q < 160) (hx : x.toInt = if P then (if Q then (cw k q).toInt + 1000 else -3) else -1) (hy : y.toInt = if P then (if Q then (Kwi (160 * k + q)).toInt + 1000 else -3) else -1) : x = y := Int32.toInt_inj.mp (by
  rw [hx, hy]
  by_cases p : P
  · by_cases q' : Q
    · rw [if_pos p, if_pos p, if_pos q', if_pos q', c k q (hP p q').1 (hP p q').2]
    · rw [if_pos p, if_pos p, if_neg q', if_neg q']
  · rw [if_neg p, if_neg p])
theorem cp_mean_r {P Q : Prop} [Decidable P] [Decidable Q] {k : Nat} {cw : Nat → Nat → Int32} {Kwi : Nat → Int32} {x y : Int32} (c : CWI cw Kwi) (hP : P → k < 12) (hx : x.toInt = if P then (if Q then wsum (fun j => windB (cw k j) % 10) 160 / 160 else -3) else -1) (hy : y.toInt = if P then (if Q then wsum (fun j => windB (Kwi (160 * k + j)) % 10) 160 / 160 else -3) else -1) : x = y := Int32.toInt_inj.mp (by
  rw [hx, hy]
  by_cases p : P
  · rw [if_pos p, if_pos p, wsum_eq (g := fun j => windB (Kwi (160 * k + j)) % 10) (fun j hj => by rw [c k j (hP p) hj])]
  · rw [if_neg p, if_neg p])
/-! sights: a ship's own, in order, are its rows among all -/
def CSG (n : Nat) (xsg : Int32) (nS : Nat → Nat) (SW : Nat → Nat → Nat → Int32) (Kss Ksc Ksh : Nat → Int32) : Prop := ∀ i, i < n → ∃ pos : Nat → Nat, (∀ k, k < nS i → ((pos k : Nat) : Int) < xsg.toInt ∧ (Kss (pos k)).toInt = (i : Int) ∧ SW i k 0 = Ksc (pos k) ∧ SW i k 1 = Ksh (pos k)) ∧ (∀ k k' : Nat, k < k' → k' < nS i → pos k < pos k') ∧ ∀ r : Nat, (r : Int) < xsg.toInt → (Kss r).toInt = (i : Int) → ∃ k, k < nS i ∧ pos k = r
def CSS (n : Nat) (xsg : Int32) (Kss : Nat → Int32) : Prop := ∀ r : Nat, (r : Int) < xsg.toInt → (Kss r).toInt < (n : Int)
theorem CSG.noBeh {n : Nat} {xsg : Int32} {nS : Nat → Nat} {SW : Nat → Nat → Nat → Int32} {Kss Ksc Ksh : Nat → Int32} (c : CSG n xsg nS SW Kss Ksc Ksh) {i : Nat} (hi : i < n) {h : Int} : NoBeh (SW i) (nS i) h ↔ ∀ k : Nat, (k : Int) < xsg.toInt → (Kss k).toInt = (i : Int) → (Ksh k).toInt < h := by
  obtain ⟨pos, p1, p2, p3⟩ := c i hi
  constructor
  · intro g r h1 h2
    obtain ⟨k, hk, rfl⟩ := p3 r h1 h2
    have := g k hk
    rw [(p1 k hk).2.2.2] at this
    exact this
  · intro g k hk
    obtain ⟨q1, q2, q3, q4⟩ := p1 k hk
    rw [q4]
    exact g _ q1 q2
theorem csg_add {n I : Nat} {xsg usg a0 a1 a2 : Int32} {nS : Nat → Nat} {SW : Nat → Nat → Nat → Int32} {Kss Ksc Ksh : Nat → Int32} (c : CSG n xsg nS SW Kss Ksc Ksh) (hx0 : 0 ≤ xsg.toInt) (hu : usg.toInt = xsg.toInt + 1) (hI : a0.toInt = (I : Int)) : CSG n usg (va_up nS I (nS I + 1)) (va_up SW I (va_up (SW I) (nS I) (fun j => ([a1, a2] : List Int32).getD j 0))) (upd Kss xsg.toNatClampNeg a0) (upd Ksc xsg.toNatClampNeg a1) (upd Ksh xsg.toNatClampNeg a2) := fun i hi => by
  have hk : (xsg.toNatClampNeg : Int) = xsg.toInt := Int.toNat_of_nonneg hx0
  obtain ⟨pos, p1, p2, p3⟩ := c i hi
  by_cases e : i = I
  · subst e
    rw [va_up_self, va_up_self]
    refine ⟨va_up pos (nS i) xsg.toNatClampNeg, fun k hk' => ?_, fun k k' h1 h2 => ?_, fun r h1 h2 => ?_⟩
    · by_cases e2 : k = nS i
      · rw [e2, va_up_self, va_up_self, upd_at, upd_at, upd_at]
        exact ⟨by omega, hI, rfl, rfl⟩
      · obtain ⟨g1, g2, g3, g4⟩ := p1 k (by omega)
        have hne : pos k ≠ xsg.toNatClampNeg := by omega
        rw [va_up_ne _ _ e2, va_up_ne _ _ e2, upd_off _ _ hne, upd_off _ _ hne, upd_off _ _ hne]
        exact ⟨by omega, g2, g3, g4⟩
    · by_cases e2 : k' = nS i
      · rw [e2, va_up_self, va_up_ne _ _ (by omega)]
        have := (p1 k (by omega)).1
        omega
      · rw [va_up_ne _ _ e2, va_up_ne _ _ (by omega)]
        exact p2 k k' h1 (by omega)
    · by_cases e2 : r = xsg.toNatClampNeg
      · exact ⟨nS i, by omega, by rw [va_up_self, e2]⟩
      · rw [upd_off _ _ e2] at h2
        obtain ⟨k, h3, h4⟩ := p3 r (by omega) h2
        exact ⟨k, by omega, by rw [va_up_ne _ _ (by omega)]; exact h4⟩
  · rw [va_up_ne _ _ e, va_up_ne _ _ e]
    refine ⟨pos, fun k hk' => ?_, p2, fun r h1 h2 => ?_⟩
    · obtain ⟨g1, g2, g3, g4⟩ := p1 k hk'
      have hne : pos k ≠ xsg.toNatClampNeg := by omega
      rw [upd_off _ _ hne, upd_off _ _ hne, upd_off _ _ hne]
      exact ⟨by omega, g2, g3, g4⟩
    · have hr : r ≠ xsg.toNatClampNeg := fun z => by
        rw [z, upd_at] at h2
        omega
      rw [upd_off _ _ hr] at h2
      exact p3 r (by omega) h2
theorem css_add {n : Nat} {xsg usg a0 : Int32} {Kss : Nat → Int32} (c : CSS n xsg Kss) (hx0 : 0 ≤ xsg.toInt) (hu : usg.toInt = xsg.toInt + 1) (hI : a0.toInt < (n : Int)) : CSS n usg (upd Kss xsg.toNatClampNeg a0) := fun r h => by
  have hk : (xsg.toNatClampNeg : Int) = xsg.toInt := Int.toNat_of_nonneg hx0
  by_cases e : r = xsg.toNatClampNeg
  · rw [e, upd_at]; exact hI
  · rw [upd_off _ _ e]; exact c r (by omega)
theorem csg_ship {P : Prop} [Decidable P] {n un : Nat} {xsg : Int32} {V uV : Nat → Nat → Int32} {nO unO nS unS : Nat → Nat} {SW uSW : Nat → Nat → Nat → Int32} {Kss Ksc Ksh : Nat → Int32} (c : CSG n xsg nS SW Kss Ksc Ksh) (cs : CSS n xsg Kss) (hn : un = if P then n + 1 else n) (hold : ∀ i, i < n → uV i = V i ∧ unO i = nO i ∧ unS i = nS i ∧ uSW i = SW i) (hnew : P → unS n = 0) : CSG un xsg unS uSW Kss Ksc Ksh := fun i hi => by
  by_cases e : i < n
  · obtain ⟨-, -, h1, h2⟩ := hold i e
    rw [h1, h2]
    exact c i e
  · by_cases hP : P
    · rw [if_pos hP] at hn
      have hin : i = n := by omega
      subst hin
      rw [hnew hP]
      exact ⟨fun _ => 0, fun k hk => absurd hk (Nat.not_lt_zero k), fun k k' _ hk => absurd hk (Nat.not_lt_zero k'), fun r h1 h2 => absurd (cs r h1) (by omega)⟩
    · rw [if_neg hP] at hn
      omega
theorem css_ship {P : Prop} [Decidable P] {n un : Nat} {xsg : Int32} {Kss : Nat → Int32} (cs : CSS n xsg Kss) (hn : un = if P then n + 1 else n) : CSS un xsg Kss := fun r h => by
  have := cs r h
  by_cases hP : P
  · rw [if_pos hP] at hn; omega
  · rw [if_neg hP] at hn; omega
theorem cp_sight {n : Nat} {xsg usg wsg a0 a1 a2 r q : Int32} {nS unS : Nat → Nat} {SW uSW : Nat → Nat → Nat → Int32} {Kss Ksc Ksh uss usc ush : Nat → Int32} (c : CSG n xsg nS SW Kss Ksc Ksh) (cs : CSS n xsg Kss) (hx0 : 0 ≤ xsg.toInt)
    (t1 : ((0 ≤ a0.toInt ∧ a0.toInt < (n : Int)) ∧ (0 ≤ a1.toInt ∧ a1.toInt ≤ 159) ∧ (0 ≤ a2.toInt ∧ a2.toInt ≤ 100000)) → NoBeh (SW a0.toNatClampNeg) (nS a0.toNatClampNeg) a2.toInt → xsg.toInt < 60 → r.toInt = xsg.toInt + 1 ∧ usg.toInt = xsg.toInt + 1 ∧ unS = va_up nS a0.toNatClampNeg (nS a0.toNatClampNeg + 1) ∧ uSW = va_up SW a0.toNatClampNeg (va_up (SW a0.toNatClampNeg) (nS a0.toNatClampNeg) (fun j => ([a1, a2] : List Int32).getD j 0)))
    (t2 : ¬ (((0 ≤ a0.toInt ∧ a0.toInt < (n : Int)) ∧ (0 ≤ a1.toInt ∧ a1.toInt ≤ 159) ∧ (0 ≤ a2.toInt ∧ a2.toInt ≤ 100000)) ∧ NoBeh (SW a0.toNatClampNeg) (nS a0.toNatClampNeg) a2.toInt ∧ xsg.toInt < 60) → usg = xsg ∧ unS = nS ∧ uSW = SW)
    (t3 : ((0 ≤ a0.toInt ∧ a0.toInt < (n : Int)) ∧ (0 ≤ a1.toInt ∧ a1.toInt ≤ 159) ∧ (0 ≤ a2.toInt ∧ a2.toInt ≤ 100000)) → NoBeh (SW a0.toNatClampNeg) (nS a0.toNatClampNeg) a2.toInt → ¬ xsg.toInt < 60 → r = (-2))
    (t4 : ¬ (((0 ≤ a0.toInt ∧ a0.toInt < (n : Int)) ∧ (0 ≤ a1.toInt ∧ a1.toInt ≤ 159) ∧ (0 ≤ a2.toInt ∧ a2.toInt ≤ 100000)) ∧ NoBeh (SW a0.toNatClampNeg) (nS a0.toNatClampNeg) a2.toInt) → r = (-1))
    (s1 : (0 ≤ a0.toInt ∧ a0.toInt < (n : Int) ∧ 0 ≤ a1.toInt ∧ a1.toInt ≤ 159 ∧ 0 ≤ a2.toInt ∧ a2.toInt ≤ 100000) → (∀ k : Nat, (k : Int) < xsg.toInt → (Kss k).toInt = a0.toInt → (Ksh k).toInt < a2.toInt) → xsg.toInt < 60 → q.toInt = xsg.toInt + 1 ∧ wsg.toInt = xsg.toInt + 1 ∧ uss = upd Kss xsg.toNatClampNeg a0 ∧ usc = upd Ksc xsg.toNatClampNeg a1 ∧ ush = upd Ksh xsg.toNatClampNeg a2)
    (s2 : ¬ ((0 ≤ a0.toInt ∧ a0.toInt < (n : Int) ∧ 0 ≤ a1.toInt ∧ a1.toInt ≤ 159 ∧ 0 ≤ a2.toInt ∧ a2.toInt ≤ 100000) ∧ (∀ k : Nat, (k : Int) < xsg.toInt → (Kss k).toInt = a0.toInt → (Ksh k).toInt < a2.toInt) ∧ xsg.toInt < 60) → wsg = xsg ∧ uss = Kss ∧ usc = Ksc ∧ ush = Ksh)
    (s3 : (0 ≤ a0.toInt ∧ a0.toInt < (n : Int) ∧ 0 ≤ a1.toInt ∧ a1.toInt ≤ 159 ∧ 0 ≤ a2.toInt ∧ a2.toInt ≤ 100000) → (∀ k : Nat, (k : Int) < xsg.toInt → (Kss k).toInt = a0.toInt → (Ksh k).toInt < a2.toInt) → ¬ xsg.toInt < 60 → q = (-2))
    (s4 : ¬ ((0 ≤ a0.toInt ∧ a0.toInt < (n : Int) ∧ 0 ≤ a1.toInt ∧ a1.toInt ≤ 159 ∧ 0 ≤ a2.toInt ∧ a2.toInt ≤ 100000) ∧ (∀ k : Nat, (k : Int) < xsg.toInt → (Kss k).toInt = a0.toInt → (Ksh k).toInt < a2.toInt)) → q = (-1)) :
    usg = wsg ∧ r = q ∧ CSG n usg unS uSW uss usc ush ∧ CSS n usg uss := by
  have same : ∀ (e1 : usg = xsg ∧ unS = nS ∧ uSW = SW) (e2 : wsg = xsg ∧ uss = Kss ∧ usc = Ksc ∧ ush = Ksh) (e3 : r = q), usg = wsg ∧ r = q ∧ CSG n usg unS uSW uss usc ush ∧ CSS n usg uss := by
    rintro ⟨rfl, rfl, rfl⟩ ⟨rfl, rfl, rfl, rfl⟩ e3
    exact ⟨rfl, e3, c, cs⟩
  by_cases hP : (0 ≤ a0.toInt ∧ a0.toInt < (n : Int)) ∧ (0 ≤ a1.toInt ∧ a1.toInt ≤ 159) ∧ (0 ≤ a2.toInt ∧ a2.toInt ≤ 100000)
  · have hi := tn_lt hP.1.1 hP.1.2
    have hk : (a0.toNatClampNeg : Int) = a0.toInt := Int.toNat_of_nonneg hP.1.1
    have hO : 0 ≤ a0.toInt ∧ a0.toInt < (n : Int) ∧ 0 ≤ a1.toInt ∧ a1.toInt ≤ 159 ∧ 0 ≤ a2.toInt ∧ a2.toInt ≤ 100000 := by omega
    have hiff := CSG.noBeh c hi (h := a2.toInt)
    rw [hk] at hiff
    by_cases hN : NoBeh (SW a0.toNatClampNeg) (nS a0.toNatClampNeg) a2.toInt
    · have hU := hiff.mp hN
      by_cases h60 : xsg.toInt < 60
      · obtain ⟨e1, e2, e3, e4⟩ := t1 hP hN h60
        obtain ⟨f1, f2, f3, f4, f5⟩ := s1 hO hU h60
        refine ⟨Int32.toInt_inj.mp (by omega), Int32.toInt_inj.mp (by omega), ?_, ?_⟩
        · rw [e3, e4, f3, f4, f5]; exact csg_add c hx0 e2 hk.symm
        · rw [f3]; exact css_add cs hx0 e2 hP.1.2
      · exact same (t2 (fun z => h60 z.2.2)) (s2 (fun z => h60 z.2.2)) ((t3 hP hN h60).trans (s3 hO hU h60).symm)
    · exact same (t2 (fun z => hN z.2.1)) (s2 (fun z => hN (hiff.mpr z.2.1))) ((t4 (fun z => hN z.2)).trans (s4 (fun z => hN (hiff.mpr z.2))).symm)
  · have hO : ¬ (0 ≤ a0.toInt ∧ a0.toInt < (n : Int) ∧ 0 ≤ a1.toInt ∧ a1.toInt ≤ 159 ∧ 0 ≤ a2.toInt ∧ a2.toInt ≤ 100000) := by omega
    exact same (t2 (fun z => hP z.1)) (s2 (fun z => hO z.1)) ((t4 (fun z => hP z.1)).trans (s4 (fun z => hO z.1)).symm)
theorem CSG.tr {n : Nat} {xsg : Int32} {nS : Nat → Nat} {SW : Nat → Nat → Nat → Int32} {Kss Ksc Ksh : Nat → Int32} (c : CSG n xsg nS SW Kss Ksc Ksh) {a : Int32} (h0 : 0 ≤ a.toInt) (h1 : a.toInt < (n : Int)) (h : Int) : ∃ pos : Nat → Nat, (∀ k, BefK (SW a.toNatClampNeg) (nS a.toNatClampNeg) h k → BefM Kss Ksh xsg a.toInt h (pos k)) ∧ (∀ k, BehK (SW a.toNatClampNeg) (nS a.toNatClampNeg) h k → BehM Kss Ksh xsg a.toInt h (pos k)) ∧ (NoBef (SW a.toNatClampNeg) (nS a.toNatClampNeg) h → NoBefM Kss Ksh xsg a.toInt h) ∧ (NoBeh (SW a.toNatClampNeg) (nS a.toNatClampNeg) h → NoBehM Kss Ksh xsg a.toInt h) ∧ ∀ k, k < nS a.toNatClampNeg → SW a.toNatClampNeg k 0 = Ksc (pos k) ∧ SW a.toNatClampNeg k 1 = Ksh (pos k) ∧ ((pos k : Nat) : Int) < xsg.toInt := by
  have hk : (a.toNatClampNeg : Int) = a.toInt := Int.toNat_of_nonneg h0
  obtain ⟨pos, p1, p2, p3⟩ := c a.toNatClampNeg (tn_lt h0 h1)
  rw [hk] at p1 p3
  refine ⟨pos, fun k hb => ?_, fun k hb => ?_, fun hb r g1 g2 => ?_, fun hb r g1 g2 => ?_, fun k hk' => ⟨(p1 k hk').2.2.1, (p1 k hk').2.2.2, (p1 k hk').1⟩⟩
  · obtain ⟨q1, q2, q3, q4⟩ := p1 k hb.1
    refine ⟨q1, q2, by rw [← q4]; exact hb.2.1, fun j g1 g2 g3 => ?_⟩
    obtain ⟨k2, r1, r2⟩ := p3 j g2 g3
    rw [← r2, ← (p1 k2 r1).2.2.2]
    refine hb.2.2 k2 ?_ r1
    rcases Nat.lt_trichotomy k k2 with z | z | z
    · exact z
    · subst z; omega
    · have := p2 k2 k z hb.1; omega
  · obtain ⟨q1, q2, q3, q4⟩ := p1 k hb.1
    refine ⟨q1, q2, by rw [← q4]; exact hb.2.1, fun j g1 g3 => ?_⟩
    obtain ⟨k2, r1, r2⟩ := p3 j (by omega) g3
    rw [← r2, ← (p1 k2 r1).2.2.2]
    refine hb.2.2 k2 ?_
    rcases Nat.lt_trichotomy k k2 with z | z | z
    · have := p2 k k2 z r1; omega
    · subst z; omega
    · exact z
  · obtain ⟨k2, r1, r2⟩ := p3 r g1 g2
    rw [← r2, ← (p1 k2 r1).2.2.2]
    exact hb k2 r1
  · obtain ⟨k2, r1, r2⟩ := p3 r g1 g2
    rw [← r2, ← (p1 k2 r1).2.2.2]
    exact hb k2 r1
theorem swr_of {S : Nat → Nat → Int32} {m : Nat} {xsg : Int32} {Ksc Ksh : Nat → Int32} {pos : Nat → Nat} (h60 : xsg.toInt ≤ 60) (rc : Rg 60 0 159 Ksc) (rh : Rg 60 0 100000 Ksh) (p : ∀ k, k < m → S k 0 = Ksc (pos k) ∧ S k 1 = Ksh (pos k) ∧ ((pos k : Nat) : Int) < xsg.toInt) : SWR S m := fun k hk => by
  obtain ⟨p1, p2, p3⟩ := p k hk
  rw [p1, p2]
  exact ⟨rc _ (by omega), rh _ (by omega)⟩
theorem cp_distance {n : Nat} {xsg xho a0 a1 a2 r q : Int32} {nS : Nat → Nat} {SW : Nat → Nat → Nat → Int32} {Kss Ksc Ksh : Nat → Int32} (c : CSG n xsg nS SW Kss Ksc Ksh) (h60 : xsg.toInt ≤ 60) (hho : 0 ≤ xho.toInt ∧ xho.toInt ≤ 159) (rc : Rg 60 0 159 Ksc) (rh : Rg 60 0 100000 Ksh)
    (d0 : ¬ ((0 ≤ a0.toInt ∧ a0.toInt < (n : Int)) ∧ (0 ≤ a1.toInt ∧ a1.toInt ≤ 100000)) → r = (-1))
    (d1 : ((0 ≤ a0.toInt ∧ a0.toInt < (n : Int)) ∧ (0 ≤ a1.toInt ∧ a1.toInt ≤ 100000)) → NoBef (SW a0.toNatClampNeg) (nS a0.toNatClampNeg) a1.toInt ∨ NoBeh (SW a0.toNatClampNeg) (nS a0.toNatClampNeg) a1.toInt → r = (-9))
    (d2 : ((0 ≤ a0.toInt ∧ a0.toInt < (n : Int)) ∧ (0 ≤ a1.toInt ∧ a1.toInt ≤ 100000)) → SWR (SW a0.toNatClampNeg) (nS a0.toNatClampNeg) ∧ (0 ≤ xho.toInt ∧ xho.toInt ≤ 159) → ∀ k k', BefK (SW a0.toNatClampNeg) (nS a0.toNatClampNeg) a1.toInt k → BehK (SW a0.toNatClampNeg) (nS a0.toNatClampNeg) a1.toInt k' → r.toInt = if a2.toInt = 0 then leastV (farI (SW a0.toNatClampNeg k 0).toInt xho.toInt) (farI (SW a0.toNatClampNeg k' 0).toInt xho.toInt) (SW a0.toNatClampNeg k 1).toInt (SW a0.toNatClampNeg k' 1).toInt a1.toInt else mostV (farI (SW a0.toNatClampNeg k 0).toInt xho.toInt) (farI (SW a0.toNatClampNeg k' 0).toInt xho.toInt) (SW a0.toNatClampNeg k 1).toInt (SW a0.toNatClampNeg k' 1).toInt a1.toInt)
    (m0 : ¬ ((0 ≤ a0.toInt ∧ a0.toInt < (n : Int)) ∧ (0 ≤ a1.toInt ∧ a1.toInt ≤ 100000)) → q = (-1))
    (m1 : ((0 ≤ a0.toInt ∧ a0.toInt < (n : Int)) ∧ (0 ≤ a1.toInt ∧ a1.toInt ≤ 100000)) → NoBefM Kss Ksh xsg a0.toInt a1.toInt ∨ NoBehM Kss Ksh xsg a0.toInt a1.toInt → q = (-9))
    (m2 : ((0 ≤ a0.toInt ∧ a0.toInt < (n : Int)) ∧ (0 ≤ a1.toInt ∧ a1.toInt ≤ 100000)) → ∀ b b' : Nat, BefM Kss Ksh xsg a0.toInt a1.toInt b → BehM Kss Ksh xsg a0.toInt a1.toInt b' → q.toInt = if a2.toInt = 0 then leastV (farI (Ksc b).toInt xho.toInt) (farI (Ksc b').toInt xho.toInt) (Ksh b).toInt (Ksh b').toInt a1.toInt else mostV (farI (Ksc b).toInt xho.toInt) (farI (Ksc b').toInt xho.toInt) (Ksh b).toInt (Ksh b').toInt a1.toInt) : r = q := by
  by_cases hP : (0 ≤ a0.toInt ∧ a0.toInt < (n : Int)) ∧ (0 ≤ a1.toInt ∧ a1.toInt ≤ 100000)
  · obtain ⟨pos, t1, t2, t3, t4, t5⟩ := CSG.tr c hP.1.1 hP.1.2 a1.toInt
    rcases bef_or (SW a0.toNatClampNeg) (nS a0.toNatClampNeg) a1.toInt with hb | ⟨k, hb⟩
    · rw [d1 hP (Or.inl hb), m1 hP (Or.inl (t3 hb))]
    · rcases beh_or (SW a0.toNatClampNeg) (nS a0.toNatClampNeg) a1.toInt with hf | ⟨k', hf⟩
      · rw [d1 hP (Or.inr hf), m1 hP (Or.inr (t4 hf))]
      · refine Int32.toInt_inj.mp ?_
        rw [d2 hP ⟨swr_of h60 rc rh t5, hho⟩ k k' hb hf, m2 hP (pos k) (pos k') (t1 k hb) (t2 k' hf), (t5 k hb.1).1, (t5 k hb.1).2.1, (t5 k' hf.1).1, (t5 k' hf.1).2.1]
  · rw [d0 hP, m0 hP]
theorem cp_ahead {n : Nat} {xsg xho a0 a1 a2 r q : Int32} {nS : Nat → Nat} {SW : Nat → Nat → Nat → Int32} {Kss Ksc Ksh : Nat → Int32} (c : CSG n xsg nS SW Kss Ksc Ksh) (h60 : xsg.toInt ≤ 60) (hho : 0 ≤ xho.toInt ∧ xho.toInt ≤ 159) (rc : Rg 60 0 159 Ksc) (rh : Rg 60 0 100000 Ksh)
    (d0 : ¬ ((0 ≤ a0.toInt ∧ a0.toInt < (n : Int)) ∧ (0 ≤ a1.toInt ∧ a1.toInt < (n : Int)) ∧ a0.toInt ≠ a1.toInt ∧ (0 ≤ a2.toInt ∧ a2.toInt ≤ 100000)) → r = (-1))
    (d1 : ((0 ≤ a0.toInt ∧ a0.toInt < (n : Int)) ∧ (0 ≤ a1.toInt ∧ a1.toInt < (n : Int)) ∧ a0.toInt ≠ a1.toInt ∧ (0 ≤ a2.toInt ∧ a2.toInt ≤ 100000)) → (NoBef (SW a0.toNatClampNeg) (nS a0.toNatClampNeg) a2.toInt ∨ NoBeh (SW a0.toNatClampNeg) (nS a0.toNatClampNeg) a2.toInt) ∨ (NoBef (SW a1.toNatClampNeg) (nS a1.toNatClampNeg) a2.toInt ∨ NoBeh (SW a1.toNatClampNeg) (nS a1.toNatClampNeg) a2.toInt) → r = (-9))
    (d2 : ((0 ≤ a0.toInt ∧ a0.toInt < (n : Int)) ∧ (0 ≤ a1.toInt ∧ a1.toInt < (n : Int)) ∧ a0.toInt ≠ a1.toInt ∧ (0 ≤ a2.toInt ∧ a2.toInt ≤ 100000)) → SWR (SW a0.toNatClampNeg) (nS a0.toNatClampNeg) ∧ SWR (SW a1.toNatClampNeg) (nS a1.toNatClampNeg) ∧ (0 ≤ xho.toInt ∧ xho.toInt ≤ 159) → ∀ k k' j j', BefK (SW a0.toNatClampNeg) (nS a0.toNatClampNeg) a2.toInt k → BehK (SW a0.toNatClampNeg) (nS a0.toNatClampNeg) a2.toInt k' → BefK (SW a1.toNatClampNeg) (nS a1.toNatClampNeg) a2.toInt j → BehK (SW a1.toNatClampNeg) (nS a1.toNatClampNeg) a2.toInt j' → r.toInt = aheadV (mostV (farI (SW a0.toNatClampNeg k 0).toInt xho.toInt) (farI (SW a0.toNatClampNeg k' 0).toInt xho.toInt) (SW a0.toNatClampNeg k 1).toInt (SW a0.toNatClampNeg k' 1).toInt a2.toInt) (leastV (farI (SW a1.toNatClampNeg j 0).toInt xho.toInt) (farI (SW a1.toNatClampNeg j' 0).toInt xho.toInt) (SW a1.toNatClampNeg j 1).toInt (SW a1.toNatClampNeg j' 1).toInt a2.toInt) (mostV (farI (SW a1.toNatClampNeg j 0).toInt xho.toInt) (farI (SW a1.toNatClampNeg j' 0).toInt xho.toInt) (SW a1.toNatClampNeg j 1).toInt (SW a1.toNatClampNeg j' 1).toInt a2.toInt) (leastV (farI (SW a0.toNatClampNeg k 0).toInt xho.toInt) (farI (SW a0.toNatClampNeg k' 0).toInt xho.toInt) (SW a0.toNatClampNeg k 1).toInt (SW a0.toNatClampNeg k' 1).toInt a2.toInt))
    (m0 : ¬ ((0 ≤ a0.toInt ∧ a0.toInt < (n : Int)) ∧ (0 ≤ a1.toInt ∧ a1.toInt < (n : Int)) ∧ a0.toInt ≠ a1.toInt ∧ (0 ≤ a2.toInt ∧ a2.toInt ≤ 100000)) → q = (-1))
    (m1 : ((0 ≤ a0.toInt ∧ a0.toInt < (n : Int)) ∧ (0 ≤ a1.toInt ∧ a1.toInt < (n : Int)) ∧ a0.toInt ≠ a1.toInt ∧ (0 ≤ a2.toInt ∧ a2.toInt ≤ 100000)) → (NoBefM Kss Ksh xsg a0.toInt a2.toInt ∨ NoBehM Kss Ksh xsg a0.toInt a2.toInt) ∨ (NoBefM Kss Ksh xsg a1.toInt a2.toInt ∨ NoBehM Kss Ksh xsg a1.toInt a2.toInt) → q = (-9))
    (m2 : ((0 ≤ a0.toInt ∧ a0.toInt < (n : Int)) ∧ (0 ≤ a1.toInt ∧ a1.toInt < (n : Int)) ∧ a0.toInt ≠ a1.toInt ∧ (0 ≤ a2.toInt ∧ a2.toInt ≤ 100000)) → ∀ b b' c c' : Nat, BefM Kss Ksh xsg a0.toInt a2.toInt b → BehM Kss Ksh xsg a0.toInt a2.toInt b' → BefM Kss Ksh xsg a1.toInt a2.toInt c → BehM Kss Ksh xsg a1.toInt a2.toInt c' → q.toInt = aheadV (mostV (farI (Ksc b).toInt xho.toInt) (farI (Ksc b').toInt xho.toInt) (Ksh b).toInt (Ksh b').toInt a2.toInt) (leastV (farI (Ksc c).toInt xho.toInt) (farI (Ksc c').toInt xho.toInt) (Ksh c).toInt (Ksh c').toInt a2.toInt) (mostV (farI (Ksc c).toInt xho.toInt) (farI (Ksc c').toInt xho.toInt) (Ksh c).toInt (Ksh c').toInt a2.toInt) (leastV (farI (Ksc b).toInt xho.toInt) (farI (Ksc b').toInt xho.toInt) (Ksh b).toInt (Ksh b').toInt a2.toInt)) : r = q := by
  by_cases hP : (0 ≤ a0.toInt ∧ a0.toInt < (n : Int)) ∧ (0 ≤ a1.toInt ∧ a1.toInt < (n : Int)) ∧ a0.toInt ≠ a1.toInt ∧ (0 ≤ a2.toInt ∧ a2.toInt ≤ 100000)
  · obtain ⟨pos, t1, t2, t3, t4, t5⟩ := CSG.tr c hP.1.1 hP.1.2 a2.toInt
    obtain ⟨pos2, u1, u2, u3, u4, u5⟩ := CSG.tr c hP.2.1.1 hP.2.1.2 a2.toInt
    rcases bef_or (SW a0.toNatClampNeg) (nS a0.toNatClampNeg) a2.toInt with hb | ⟨k, hb⟩
    · rw [d1 hP (Or.inl (Or.inl hb)), m1 hP (Or.inl (Or.inl (t3 hb)))]
    · rcases beh_or (SW a0.toNatClampNeg) (nS a0.toNatClampNeg) a2.toInt with hf | ⟨k', hf⟩
      · rw [d1 hP (Or.inl (Or.inr hf)), m1 hP (Or.inl (Or.inr (t4 hf)))]
      · rcases bef_or (SW a1.toNatClampNeg) (nS a1.toNatClampNeg) a2.toInt with gb | ⟨j, gb⟩
        · rw [d1 hP (Or.inr (Or.inl gb)), m1 hP (Or.inr (Or.inl (u3 gb)))]
        · rcases beh_or (SW a1.toNatClampNeg) (nS a1.toNatClampNeg) a2.toInt with gf | ⟨j', gf⟩
          · rw [d1 hP (Or.inr (Or.inr gf)), m1 hP (Or.inr (Or.inr (u4 gf)))]
          · refine Int32.toInt_inj.mp ?_
            rw [d2 hP ⟨swr_of h60 rc rh t5, swr_of h60 rc rh u5, hho⟩ k k' j j' hb hf gb gf, m2 hP (pos k) (pos k') (pos2 j) (pos2 j') (t1 k hb) (t2 k' hf) (u1 j gb) (u2 j' gf), (t5 k hb.1).1, (t5 k hb.1).2.1, (t5 k' hf.1).1, (t5 k' hf.1).2.1, (u5 j gb.1).1, (u5 j gb.1).2.1, (u5 j' gf.1).1, (u5 j' gf.1).2.1]
  · rw [d0 hP, m0 hP]
/-- the world of both objects between two calls: what every reachable state keeps -/
def Wor (dC : Nat → ClassId) (dI : Nat → Nat → Nat) (A : Nat → Prop) (h0 sea pas fl fc lc ct ch hot dp m0 mfi mil mic mwi mmo mki mce mgo mwa mha mch mfo mca mor mro mra mpr mho mis mss msc msh te : Nat) (rr : Nat → Nat) (cZ cB cI cV cO : ClassId) (H : Heap) : Prop := ∃ (L : List Nat) (f : Nat → va_E) (own : Nat → Nat) (cw : Nat → Nat → Int32) (n : Nat) (sa : Nat → Nat) (V : Nat → Nat → Int32) (oa ia nO : Nat → Nat) (OW : Nat → Nat → Nat → Int32) (nS : Nat → Nat) (SW : Nat → Nat → Nat → Int32) (xlf xhr xho xga xsg xpr xfa : Int32) (xls : Int64) (Kf Ct Lc Kh Kd : Nat → Int32) (vfi vns vpr vfa : Int32) (vak : Int64) (Kfi Kwi Kmo Kki Kce Kgo Kwa Kha Kch Kfo Kca Kor Kro Kra Kpr Kho Kis Kss Ksc Ksh : Nat → Int32), (Inv L f own te cO cB rr cw fl n sa V oa ia nO OW nS SW) ∧ (∀ i, i < n → (nS i : Int) ≤ xsg.toInt) ∧ (0 ≤ xhr.toInt ∧ xhr.toInt ≤ 100000) ∧ (0 ≤ xsg.toInt ∧ xsg.toInt ≤ 60) ∧ (0 ≤ xho.toInt ∧ xho.toInt ≤ 159) ∧ (0 ≤ xga.toInt ∧ xga.toInt ≤ 23) ∧ (0 ≤ vns.toInt ∧ vns.toInt ≤ 8) ∧ (1 ≤ vpr.toInt ∧ vpr.toInt ≤ 10000) ∧ (0 ≤ vfa.toInt ∧ vfa.toInt ≤ 1000) ∧ (Rg 1920 (-128) 127 Kwi) ∧ (Rg 8 0 3 Kki) ∧ (Rg 8 0 159 Kce) ∧ (Rg 8 0 84 Kgo) ∧ (Rg 8 0 7 Kwa) ∧ (Rn 8 0 100000 Kha) ∧ (Rg 8 0 20000 Kch) ∧ (Rg 8 0 9 Kfo) ∧ (Rg 8 0 20 Kor) ∧ (Rg 960 0 15 Kro) ∧ (Rg 8 0 1000 Kra) ∧ (Rg 8 0 100000 Kpr) ∧ (Rg 60 0 7 Kss) ∧ (Rg 60 0 159 Ksc) ∧ (Rg 60 0 100000 Ksh) ∧ (∀ j : Nat, j < 960 → j % 6 = 5 → 0 ≤ (Kro j).toInt ∧ (Kro j).toInt ≤ 7) ∧ (vns.toInt = (n : Int)) ∧ (CSH n V nO Kki Kch Kfo Kor) ∧ (CNW n Kfo Kor) ∧ (CWI cw Kwi) ∧ (CSG n xsg nS SW Kss Ksc Ksh) ∧ (CSS n xsg Kss) ∧ (va_P (dC, dI) vwCl ([(h0, .inr (6, [.ref sea, .ref pas, .ref fl, .ref fc, .int xlf, .int xhr, .int xho, .int xga, .int xsg, .int xpr, .int xfa, .long xls])), (sea, .inr (3, [.ref lc, .ref ct, .ref ch])), (lc, .inl (cZ, 160, .inl Lc)), (ct, .inl (cZ, 12, .inl Ct)), (ch, .inl (cV, 12, .inr (.inr (.inr (.inr (fun i => if i < 12 then some (rr i) else none)))))), (pas, .inr (2, [.ref hot, .ref dp])), (hot, .inl (cI, 160, .inl Kh)), (dp, .inl (cZ, 160, .inl Kd)), (fc, .inl (cI, 6, .inl Kf)), (m0, .inr (7, [.int vfi, .ref mfi, .long vak, .int xhr, .ref mil, .ref mic, .ref mwi, .int xho, .int xga, .ref mmo, .int vns, .ref mki, .ref mce, .ref mgo, .ref mwa, .ref mha, .ref mch, .ref mfo, .ref mca, .ref mor, .ref mro, .ref mra, .ref mpr, .ref mho, .ref mis, .int xsg, .ref mss, .ref msc, .ref msh, .int vpr, .int vfa])), (mfi, .inl (cI, 6, .inl Kfi)), (mil, .inl (cZ, 160, .inl Lc)), (mic, .inl (cZ, 12, .inl Ct)), (mwi, .inl (cI, 1920, .inl Kwi)), (mmo, .inl (cI, 160, .inl Kmo)), (mki, .inl (cI, 8, .inl Kki)), (mce, .inl (cI, 8, .inl Kce)), (mgo, .inl (cI, 8, .inl Kgo)), (mwa, .inl (cI, 8, .inl Kwa)), (mha, .inl (cI, 8, .inl Kha)), (mch, .inl (cI, 8, .inl Kch)), (mfo, .inl (cI, 8, .inl Kfo)), (mca, .inl (cI, 8, .inl Kca)), (mor, .inl (cI, 8, .inl Kor)), (mro, .inl (cI, 960, .inl Kro)), (mra, .inl (cI, 8, .inl Kra)), (mpr, .inl (cI, 8, .inl Kpr)), (mho, .inl (cI, 160, .inl Kho)), (mis, .inl (cZ, 160, .inl Kis)), (mss, .inl (cI, 60, .inl Kss)), (msc, .inl (cI, 60, .inl Ksc)), (msh, .inl (cI, 60, .inl Ksh))] ++ va_pl L f) H) ∧ (va_D A ([(h0, .inr (6, [.ref sea, .ref pas, .ref fl, .ref fc, .int xlf, .int xhr, .int xho, .int xga, .int xsg, .int xpr, .int xfa, .long xls])), (sea, .inr (3, [.ref lc, .ref ct, .ref ch])), (lc, .inl (cZ, 160, .inl Lc)), (ct, .inl (cZ, 12, .inl Ct)), (ch, .inl (cV, 12, .inr (.inr (.inr (.inr (fun i => if i < 12 then some (rr i) else none)))))), (pas, .inr (2, [.ref hot, .ref dp])), (hot, .inl (cI, 160, .inl Kh)), (dp, .inl (cZ, 160, .inl Kd)), (fc, .inl (cI, 6, .inl Kf)), (m0, .inr (7, [.int vfi, .ref mfi, .long vak, .int xhr, .ref mil, .ref mic, .ref mwi, .int xho, .int xga, .ref mmo, .int vns, .ref mki, .ref mce, .ref mgo, .ref mwa, .ref mha, .ref mch, .ref mfo, .ref mca, .ref mor, .ref mro, .ref mra, .ref mpr, .ref mho, .ref mis, .int xsg, .ref mss, .ref msc, .ref msh, .int vpr, .int vfa])), (mfi, .inl (cI, 6, .inl Kfi)), (mil, .inl (cZ, 160, .inl Lc)), (mic, .inl (cZ, 12, .inl Ct)), (mwi, .inl (cI, 1920, .inl Kwi)), (mmo, .inl (cI, 160, .inl Kmo)), (mki, .inl (cI, 8, .inl Kki)), (mce, .inl (cI, 8, .inl Kce)), (mgo, .inl (cI, 8, .inl Kgo)), (mwa, .inl (cI, 8, .inl Kwa)), (mha, .inl (cI, 8, .inl Kha)), (mch, .inl (cI, 8, .inl Kch)), (mfo, .inl (cI, 8, .inl Kfo)), (mca, .inl (cI, 8, .inl Kca)), (mor, .inl (cI, 8, .inl Kor)), (mro, .inl (cI, 960, .inl Kro)), (mra, .inl (cI, 8, .inl Kra)), (mpr, .inl (cI, 8, .inl Kpr)), (mho, .inl (cI, 160, .inl Kho)), (mis, .inl (cZ, 160, .inl Kis)), (mss, .inl (cI, 60, .inl Kss)), (msc, .inl (cI, 60, .inl Ksc)), (msh, .inl (cI, 60, .inl Ksh))] ++ va_pl L f))
theorem Wor.mk {dC : Nat → ClassId} {dI : Nat → Nat → Nat} {A : Nat → Prop} {h0 sea pas fl fc lc ct ch hot dp m0 mfi mil mic mwi mmo mki mce mgo mwa mha mch mfo mca mor mro mra mpr mho mis mss msc msh te : Nat} {rr : Nat → Nat} {cZ cB cI cV cO : ClassId} {H : Heap} {L : List Nat} {f : Nat → va_E} {own : Nat → Nat} {cw : Nat → Nat → Int32} {n : Nat} {sa : Nat → Nat} {V : Nat → Nat → Int32} {oa ia nO : Nat → Nat} {OW : Nat → Nat → Nat → Int32} {nS : Nat → Nat} {SW : Nat → Nat → Nat → Int32} {xlf xhr xho xga xsg xpr xfa : Int32} {xls : Int64} {Kf Ct Lc Kh Kd : Nat → Int32} {vfi vns vpr vfa : Int32} {vak : Int64} {Kfi Kwi Kmo Kki Kce Kgo Kwa Kha Kch Kfo Kca Kor Kro Kra Kpr Kho Kis Kss Ksc Ksh : Nat → Int32} (inv : Inv L f own te cO cB rr cw fl n sa V oa ia nO OW nS SW) (hns : ∀ i, i < n → (nS i : Int) ≤ xsg.toInt) (i_xhr : 0 ≤ xhr.toInt ∧ xhr.toInt ≤ 100000) (i_xsg : 0 ≤ xsg.toInt ∧ xsg.toInt ≤ 60) (i_xho : 0 ≤ xho.toInt ∧ xho.toInt ≤ 159) (i_xga : 0 ≤ xga.toInt ∧ xga.toInt ≤ 23) (i_vns : 0 ≤ vns.toInt ∧ vns.toInt ≤ 8) (i_vpr : 1 ≤ vpr.toInt ∧ vpr.toInt ≤ 10000) (i_vfa : 0 ≤ vfa.toInt ∧ vfa.toInt ≤ 1000) (R_Kwi : Rg 1920 (-128) 127 Kwi) (R_Kki : Rg 8 0 3 Kki) (R_Kce : Rg 8 0 159 Kce) (R_Kgo : Rg 8 0 84 Kgo) (R_Kwa : Rg 8 0 7 Kwa) (R_Kha : Rn 8 0 100000 Kha) (R_Kch : Rg 8 0 20000 Kch) (R_Kfo : Rg 8 0 9 Kfo) (R_Kor : Rg 8 0 20 Kor) (R_Kro : Rg 960 0 15 Kro) (R_Kra : Rg 8 0 1000 Kra) (R_Kpr : Rg 8 0 100000 Kpr) (R_Kss : Rg 60 0 7 Kss) (R_Ksc : Rg 60 0 159 Ksc) (R_Ksh : Rg 60 0 100000 Ksh) (Wro : ∀ j : Nat, j < 960 → j % 6 = 5 → 0 ≤ (Kro j).toInt ∧ (Kro j).toInt ≤ 7) (c_n : vns.toInt = (n : Int)) (c_sh : CSH n V nO Kki Kch Kfo Kor) (c_nw : CNW n Kfo Kor) (c_wi : CWI cw Kwi) (c_sg : CSG n xsg nS SW Kss Ksc Ksh) (c_ss : CSS n xsg Kss) (hP : va_P (dC, dI) vwCl ([(h0, .inr (6, [.ref sea, .ref pas, .ref fl, .ref fc, .int xlf, .int xhr, .int xho, .int xga, .int xsg, .int xpr, .int xfa, .long xls])), (sea, .inr (3, [.ref lc, .ref ct, .ref ch])), (lc, .inl (cZ, 160, .inl Lc)), (ct, .inl (cZ, 12, .inl Ct)), (ch, .inl (cV, 12, .inr (.inr (.inr (.inr (fun i => if i < 12 then some (rr i) else none)))))), (pas, .inr (2, [.ref hot, .ref dp])), (hot, .inl (cI, 160, .inl Kh)), (dp, .inl (cZ, 160, .inl Kd)), (fc, .inl (cI, 6, .inl Kf)), (m0, .inr (7, [.int vfi, .ref mfi, .long vak, .int xhr, .ref mil, .ref mic, .ref mwi, .int xho, .int xga, .ref mmo, .int vns, .ref mki, .ref mce, .ref mgo, .ref mwa, .ref mha, .ref mch, .ref mfo, .ref mca, .ref mor, .ref mro, .ref mra, .ref mpr, .ref mho, .ref mis, .int xsg, .ref mss, .ref msc, .ref msh, .int vpr, .int vfa])), (mfi, .inl (cI, 6, .inl Kfi)), (mil, .inl (cZ, 160, .inl Lc)), (mic, .inl (cZ, 12, .inl Ct)), (mwi, .inl (cI, 1920, .inl Kwi)), (mmo, .inl (cI, 160, .inl Kmo)), (mki, .inl (cI, 8, .inl Kki)), (mce, .inl (cI, 8, .inl Kce)), (mgo, .inl (cI, 8, .inl Kgo)), (mwa, .inl (cI, 8, .inl Kwa)), (mha, .inl (cI, 8, .inl Kha)), (mch, .inl (cI, 8, .inl Kch)), (mfo, .inl (cI, 8, .inl Kfo)), (mca, .inl (cI, 8, .inl Kca)), (mor, .inl (cI, 8, .inl Kor)), (mro, .inl (cI, 960, .inl Kro)), (mra, .inl (cI, 8, .inl Kra)), (mpr, .inl (cI, 8, .inl Kpr)), (mho, .inl (cI, 160, .inl Kho)), (mis, .inl (cZ, 160, .inl Kis)), (mss, .inl (cI, 60, .inl Kss)), (msc, .inl (cI, 60, .inl Ksc)), (msh, .inl (cI, 60, .inl Ksh))] ++ va_pl L f) H) (hD : va_D A ([(h0, .inr (6, [.ref sea, .ref pas, .ref fl, .ref fc, .int xlf, .int xhr, .int xho, .int xga, .int xsg, .int xpr, .int xfa, .long xls])), (sea, .inr (3, [.ref lc, .ref ct, .ref ch])), (lc, .inl (cZ, 160, .inl Lc)), (ct, .inl (cZ, 12, .inl Ct)), (ch, .inl (cV, 12, .inr (.inr (.inr (.inr (fun i => if i < 12 then some (rr i) else none)))))), (pas, .inr (2, [.ref hot, .ref dp])), (hot, .inl (cI, 160, .inl Kh)), (dp, .inl (cZ, 160, .inl Kd)), (fc, .inl (cI, 6, .inl Kf)), (m0, .inr (7, [.int vfi, .ref mfi, .long vak, .int xhr, .ref mil, .ref mic, .ref mwi, .int xho, .int xga, .ref mmo, .int vns, .ref mki, .ref mce, .ref mgo, .ref mwa, .ref mha, .ref mch, .ref mfo, .ref mca, .ref mor, .ref mro, .ref mra, .ref mpr, .ref mho, .ref mis, .int xsg, .ref mss, .ref msc, .ref msh, .int vpr, .int vfa])), (mfi, .inl (cI, 6, .inl Kfi)), (mil, .inl (cZ, 160, .inl Lc)), (mic, .inl (cZ, 12, .inl Ct)), (mwi, .inl (cI, 1920, .inl Kwi)), (mmo, .inl (cI, 160, .inl Kmo)), (mki, .inl (cI, 8, .inl Kki)), (mce, .inl (cI, 8, .inl Kce)), (mgo, .inl (cI, 8, .inl Kgo)), (mwa, .inl (cI, 8, .inl Kwa)), (mha, .inl (cI, 8, .inl Kha)), (mch, .inl (cI, 8, .inl Kch)), (mfo, .inl (cI, 8, .inl Kfo)), (mca, .inl (cI, 8, .inl Kca)), (mor, .inl (cI, 8, .inl Kor)), (mro, .inl (cI, 960, .inl Kro)), (mra, .inl (cI, 8, .inl Kra)), (mpr, .inl (cI, 8, .inl Kpr)), (mho, .inl (cI, 160, .inl Kho)), (mis, .inl (cZ, 160, .inl Kis)), (mss, .inl (cI, 60, .inl Kss)), (msc, .inl (cI, 60, .inl Ksc)), (msh, .inl (cI, 60, .inl Ksh))] ++ va_pl L f)) : Wor dC dI A h0 sea pas fl fc lc ct ch hot dp m0 mfi mil mic mwi mmo mki mce mgo mwa mha mch mfo mca mor mro mra mpr mho mis mss msc msh te rr cZ cB cI cV cO H := ⟨L, f, own, cw, n, sa, V, oa, ia, nO, OW, nS, SW, xlf, xhr, xho, xga, xsg, xpr, xfa, xls, Kf, Ct, Lc, Kh, Kd, vfi, vns, vpr, vfa, vak, Kfi, Kwi, Kmo, Kki, Kce, Kgo, Kwa, Kha, Kch, Kfo, Kca, Kor, Kro, Kra, Kpr, Kho, Kis, Kss, Ksc, Ksh, inv, hns, i_xhr, i_xsg, i_xho, i_xga, i_vns, i_vpr, i_vfa, R_Kwi, R_Kki, R_Kce, R_Kgo, R_Kwa, R_Kha, R_Kch, R_Kfo, R_Kor, R_Kro, R_Kra, R_Kpr, R_Kss, R_Ksc, R_Ksh, Wro, c_n, c_sh, c_nw, c_wi, c_sg, c_ss, hP, hD⟩
