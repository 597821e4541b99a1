/-! what the class's ships and the reference's rows have in common -/
def CSH (n : Nat) (V : Nat → Nat → Int32) (nO : Nat → Nat) (Kki Kch Kfo Kor : Nat → Int32) : Prop := ∀ i, i < n → V i 1 = Kki i ∧ V i 2 = Kch i ∧ V i 6 = Kfo i ∧ (Kor i).toInt = (nO i : Int)
/-- rows that no ship has had yet -/
def CNW (n : Nat) (Kfo Kor : Nat → Int32) : Prop := ∀ j : Nat, n ≤ j → Kfo j = 0 ∧ (Kor j).toInt = 0
theorem CSH.kept {n : Nat} {V U : Nat → Nat → Int32} {nO : Nat → Nat} {Kki Kch Kfo Kor : Nat → Int32} (h : CSH n V nO Kki Kch Kfo Kor) (k : Kept V U) : CSH n U nO Kki Kch Kfo Kor := fun i hi => by
  obtain ⟨h1, h2, h3, h4⟩ := h i hi
  obtain ⟨-, k1, k2, k3, -, -⟩ := k i
  exact ⟨k1.trans h1, k2.trans h2, k3.trans h3, h4⟩
theorem tn_eq {i : Int32} {n : Nat} (h : i.toInt = (n : Int)) : i.toNatClampNeg = n := by
  show i.toInt.toNat = n
  omega
theorem cp_ship {P : Prop} [Decidable P] {nS unS : Nat → Nat} {SW uSW : Nat → Nat → Nat → Int32} {n un : Nat} {vns : Int32} {V uV : Nat → Nat → Int32} {nO unO : Nat → Nat} {Kki Kch Kfo Kor uki uch : Nat → Int32} {a0 a2 : Int32} (c : CSH n V nO Kki Kch Kfo Kor) (cn : CNW n Kfo Kor) (hv : vns.toInt = (n : Int)) (hn : un = if P then n + 1 else n) (hold : ∀ i, i < n → uV i = V i ∧ unO i = nO i ∧ unS i = nS i ∧ uSW i = SW i) (hnew : P → uV n 1 = a0 ∧ uV n 2 = a2 ∧ uV n 6 = 0 ∧ unO n = 0) (hki : uki = if P then upd Kki vns.toNatClampNeg a0 else Kki) (hch : uch = if P then upd Kch vns.toNatClampNeg a2 else Kch) : CSH un uV unO uki uch Kfo Kor := fun i hi => by
  rw [tn_eq hv] at hki hch
  by_cases hP : P
  · rw [if_pos hP] at hn hki hch
    subst hn hki hch
    by_cases e : i = n
    · subst e
      obtain ⟨h1, h2, h3, h4⟩ := hnew hP
      obtain ⟨g1, g2⟩ := cn i (Nat.le_refl _)
      rw [upd_at, upd_at, h1, h2, h3, h4, g1]
      exact ⟨rfl, rfl, rfl, g2⟩
    · rw [upd_off _ _ e, upd_off _ _ e, (hold i (by omega)).1, (hold i (by omega)).2.1]
      exact c i (by omega)
  · rw [if_neg hP] at hn hki hch
    subst hn hki hch
    rw [(hold i hi).1, (hold i hi).2.1]
    exact c i hi
theorem cp_ship_nw {P : Prop} [Decidable P] {n un : Nat} {Kfo Kor : Nat → Int32} (c : CNW n Kfo Kor) (hn : un = if P then n + 1 else n) : CNW un Kfo Kor := fun j hj => c j (by
  by_cases hP : P
  · rewrite [if_pos hP] at hn; omega
  · rewrite [if_neg hP] at hn; omega)
theorem cp_ship_n {P : Prop} [Decidable P] {n un : Nat} {vns wns : Int32} (hv : vns.toInt = (n : Int)) (hn : un = if P then n + 1 else n) (hw : wns.toInt = if P then vns.toInt + 1 else vns.toInt) : wns.toInt = (un : Int) := by
  by_cases hP : P
  · rewrite [if_pos hP] at hn hw; omega
  · rewrite [if_neg hP] at hn hw; omega
theorem cp_foul {P : Prop} [Decidable P] {n k : Nat} {V uV : Nat → Nat → Int32} {nO : Nat → Nat} {Kki Kch Kfo Kor ufo : Nat → Int32} {x : Int32} (c : CSH n V nO Kki Kch Kfo Kor) (hV : uV = if P then va_up V k (upd (V k) 6 x) else V) (hf : ufo = if P then upd Kfo k x else Kfo) : CSH n uV nO Kki Kch ufo Kor := fun i hi => by
  obtain ⟨h1, h2, h3, h4⟩ := c i hi
  by_cases hP : P
  · rw [if_pos hP] at hV hf
    subst hV hf
    by_cases e : i = k
    · subst e
      rw [va_up_self, upd_at, upd_at, upd_off _ _ (by omega), upd_off _ _ (by omega)]
      exact ⟨h1, h2, rfl, h4⟩
    · rw [va_up_ne _ _ e, upd_off _ _ e]
      exact ⟨h1, h2, h3, h4⟩
  · rw [if_neg hP] at hV hf
    subst hV hf
    exact ⟨h1, h2, h3, h4⟩
theorem cp_foul_nw {P : Prop} [Decidable P] {n k : Nat} {Kfo Kor ufo : Nat → Int32} {x : Int32} (c : CNW n Kfo Kor) (hf : ufo = if P then upd Kfo k x else Kfo) (hk : P → k < n) : CNW n ufo Kor := fun j hj => by
  by_cases hP : P
  · have := hk hP
    rw [if_pos hP] at hf
    rw [hf, upd_off _ _ (by omega)]
    exact c j hj
  · rw [if_neg hP] at hf
    rw [hf]
    exact c j hj
theorem cp_foul_r {P : Prop} [Decidable P] {n k : Nat} {V : Nat → Nat → Int32} {nO : Nat → Nat} {Kki Kch Kfo Kor : Nat → Int32} {r q : Int32} (c : CSH n V nO Kki Kch Kfo Kor) (hk : P → k < n) (hr : r = if P then V k 6 else (-1)) (hq : q = if P then Kfo k else (-1)) : r = q := by
  by_cases hP : P
  · rw [if_pos hP] at hr hq
    rw [hr, hq]
    exact (c k (hk hP)).2.2.1
  · rw [if_neg hP] at hr hq
    rw [hr, hq]
theorem cp_order {P : Prop} [Decidable P] {n k : Nat} {V : Nat → Nat → Int32} {nO unO : Nat → Nat} {Kki Kch Kfo Kor uor : Nat → Int32} (c : CSH n V nO Kki Kch Kfo Kor) (hk : P → k < n) (hO : unO = if (P ∧ nO k < 20) then va_up nO k (nO k + 1) else nO) (hm : ∀ j : Nat, (uor j).toInt = if (P ∧ (Kor k).toInt < 20 ∧ j = k) then (Kor k).toInt + 1 else (Kor j).toInt) : CSH n V unO Kki Kch Kfo uor := fun i hi => by
  obtain ⟨h1, h2, h3, h4⟩ := c i hi
  refine ⟨h1, h2, h3, ?_⟩
  rw [hm i]
  by_cases hP : P
  · have hc := (c k (hk hP)).2.2.2
    by_cases h20 : nO k < 20
    · rw [if_pos ⟨hP, h20⟩] at hO
      subst hO
      by_cases e : i = k
      · subst e
        rw [if_pos ⟨hP, by omega, rfl⟩, va_up_self]
        omega
      · rw [if_neg (fun z => e z.2.2), va_up_ne _ _ e]
        exact h4
    · rw [if_neg (fun z => h20 z.2)] at hO
      subst hO
      rw [if_neg (fun z => h20 (by have := z.2.1; omega))]
      exact h4
  · rw [if_neg (fun z => hP z.1)] at hO
    subst hO
    rw [if_neg (fun z => hP z.1)]
    exact h4
theorem cp_order_nw {P : Prop} [Decidable P] {n k : Nat} {Kfo Kor uor : Nat → Int32} (c : CNW n Kfo Kor) (hm : ∀ j : Nat, (uor j).toInt = if (P ∧ (Kor k).toInt < 20 ∧ j = k) then (Kor k).toInt + 1 else (Kor j).toInt) (hk : P → k < n) : CNW n Kfo uor := fun j hj => by
  refine ⟨(c j hj).1, ?_⟩
  rw [hm j, if_neg (fun z => by have := hk z.1; omega)]
  exact (c j hj).2
theorem cp_order_r {P : Prop} [Decidable P] {n k : Nat} {V : Nat → Nat → Int32} {nO : Nat → Nat} {Kki Kch Kfo Kor : Nat → Int32} {r q : Int32} (c : CSH n V nO Kki Kch Kfo Kor) (hk : P → k < n) (hr : r.toInt = if P then (if nO k < 20 then (nO k : Int) + 1 else -2) else -1) (hq : q.toInt = if P then (if (Kor k).toInt < 20 then (Kor k).toInt + 1 else -2) else -1) : r = q := Int32.toInt_inj.mp (by
  rw [hr, hq]
  by_cases hP : P
  · have hc := (c k (hk hP)).2.2.2
    rw [if_pos hP, if_pos hP, hc]
    by_cases h : nO k < 20
    · rw [if_pos h, if_pos (by omega)]
    · rw [if_neg h, if_neg (by omega)]
  · rw [if_neg hP, if_neg hP])
theorem cp_speed_r {P : Prop} [Decidable P] {n k : Nat} {V : Nat → Nat → Int32} {nO : Nat → Nat} {Kki Kch Kfo Kor : Nat → Int32} {r q : Int32} {x y z : Int} (c : CSH n V nO Kki Kch Kfo Kor) (hk : P → k < n) (h8 : n ≤ 8) (hR : Rg 8 0 9 Kfo) (hr : (P → 0 ≤ (V k 6).toInt ∧ (V k 6).toInt ≤ 9) → r.toInt = if P then spd (V k 1).toInt (V k 6).toInt x y z else -1) (hq : q.toInt = if P then spd (Kki k).toInt (Kfo k).toInt x y z else -1) : r = q := Int32.toInt_inj.mp (by
  rw [hr (fun hP => by rw [(c k (hk hP)).2.2.1]; exact hR k (by have := hk hP; omega)), hq]
  by_cases hP : P
  · obtain ⟨h1, -, h6, -⟩ := c k (hk hP)
    rw [if_pos hP, if_pos hP, h1, h6]
  · rw [if_neg hP, if_neg hP])
/-! winds -/
def CWI (cw : Nat → Nat → Int32) (Kwi : Nat → Int32) : Prop := ∀ m j : Nat, m < 12 → j < 160 → cw m j = Kwi (160 * m + j)
theorem cp_chart {P : Prop} [Decidable P] {a0 : Int32} {cw ucw : Nat → Nat → Int32} {Kwi uwi : Nat → Int32} (c : CWI cw Kwi) (hP : P ↔ 0 ≤ a0.toInt ∧ a0.toInt ≤ 11) (hc : ∀ m j : Nat, m < 12 → j < 160 → ucw m j = if (P ∧ m = a0.toNatClampNeg) then 0 else cw m j) (hm : ∀ j : Nat, uwi j = if (0 ≤ a0.toInt ∧ a0.toInt ≤ 11 ∧ 160 * a0.toInt ≤ (j : Int) ∧ (j : Int) < 160 * a0.toInt + 160) then 0 else Kwi j) : CWI ucw uwi := fun m j h1 h2 => by
  rw [hc m j h1 h2, hm, c m j h1 h2]
  by_cases q : P ∧ m = a0.toNatClampNeg
  · have q1 := hP.mp q.1
    have q2 : (a0.toNatClampNeg : Int) = a0.toInt := Int.toNat_of_nonneg q1.1
    have q3 := q.2
    rw [if_pos q, if_pos ⟨q1.1, q1.2, by omega, by omega⟩]
  · rw [if_neg q, if_neg (fun z => q ⟨hP.mpr ⟨z.1, z.2.1⟩, by
      have q2 : (a0.toNatClampNeg : Int) = a0.toInt := Int.toNat_of_nonneg z.1
      omega⟩)]
theorem cp_wind {P : Prop} [Decidable P] {k q : Nat} {z : Int32} {cw ucw : Nat → Nat → Int32} {Kwi uwi : Nat → Int32} (c : CWI cw Kwi) (hP : P → k < 12 ∧ q < 160) (hc : ucw = if P then va_up cw k (upd (cw k) q (vp_nar .byte z.toInt8.toInt32)) else cw) (hm : ∀ j : Nat, uwi j = if (P ∧ j = 160 * k + q) then z.toInt8.toInt32 else Kwi j) : CWI ucw uwi := fun m j h1 h2 => by
  rw [hm]
  by_cases p : P
  · rw [if_pos p] at hc
    have hk := hP p
    rw [hc]
    by_cases e : m = k
    · subst e
      rw [va_up_self]
      by_cases e2 : j = q
      · subst e2; rw [upd_at, if_pos ⟨p, rfl⟩, nar_b]
      · rw [upd_off _ _ e2, if_neg (fun w => e2 (by omega))]; exact c m j h1 h2
    · rw [va_up_ne _ _ e, if_neg (fun w => e (by omega))]; exact c m j h1 h2
  · rw [if_neg p] at hc
    rw [hc, if_neg (fun w => p w.1)]
    exact c m j h1 h2
theorem cp_copy {P : Prop} [Decidable P] {k k2 i j0 : Nat} {n : Int32} {cw ucw : Nat → Nat → Int32} {Kwi uwi : Nat → Int32} (c : CWI cw Kwi) (hP : P → k < 12 ∧ k2 < 12 ∧ 0 ≤ n.toInt ∧ (i : Int) + n.toInt ≤ 160 ∧ (j0 : Int) + n.toInt ≤ 160) (hc : ucw = if P then va_up cw k2 (va_cpy (cw k) (cw k2) i j0 n.toNatClampNeg) else cw) (hm : ∀ t : Nat, uwi t = if (P ∧ 160 * k2 + j0 ≤ t ∧ (t : Int) < ((160 * k2 + j0 : Nat) : Int) + n.toInt) then Kwi (160 * k + i + (t - (160 * k2 + j0))) else Kwi t) : CWI ucw uwi := fun m j h1 h2 => by
  rw [hm]
  by_cases p : P
  · rw [if_pos p] at hc
    obtain ⟨g1, g2, g3, g4, g5⟩ := hP p
    have hn : (n.toNatClampNeg : Int) = n.toInt := Int.toNat_of_nonneg g3
    rw [hc]
    by_cases e : m = k2
    · subst e
      rw [va_up_self]
      show (if j0 ≤ j ∧ j < j0 + n.toNatClampNeg then cw k (i + (j - j0)) else cw m j) = _
      by_cases e2 : j0 ≤ j ∧ j < j0 + n.toNatClampNeg
      · rw [if_pos e2, if_pos ⟨p, by omega, by omega⟩, c k _ g1 (by omega), show 160 * k + (i + (j - j0)) = 160 * k + i + (160 * m + j - (160 * m + j0)) by omega]
      · rw [if_neg e2, if_neg (fun w => e2 ⟨by omega, by omega⟩)]; exact c m j h1 h2
    · rw [va_up_ne _ _ e, if_neg (fun w => e (by omega))]; exact c m j h1 h2
  · rw [if_neg p] at hc
    rw [hc, if_neg (fun w => p w.1)]
    exact c m j h1 h2
theorem cp_wind_r {P Q : Prop} [Decidable P] [Decidable Q] {k q : Nat} {cw : Nat → Nat → Int32} {Kwi : Nat → Int32} {x y : Int32} (c : CWI cw Kwi) (hP : P → Q → k < 12 ∧ q < 160) (hx : x.toInt = if P then (if Q then (cw k q).toInt + 1000 else -3) else -1) (hy : y.toInt = if P then (if Q then (Kwi (160 * k + q)).toInt + 1000 else -3) else -1) : x = y := Int32.toInt_inj.mp (by
  rw [hx, hy]
  by_cases p : P
  · by_cases q' : Q
    · rw [if_pos p, if_pos p, if_pos q', if_pos q', c k q (hP p q').1 (hP p q').2]
    · rw [if_pos p, if_pos p, if_neg q', if_neg q']
  · rw [if_neg p, if_neg p])
theorem cp_mean_r {P Q : Prop} [Decidable P] [Decidable Q] {k : Nat} {cw : Nat → Nat → Int32} {Kwi : Nat → Int32} {x y : Int32} (c : CWI cw Kwi) (hP : P → k < 12) (hx : x.toInt = if P then (if Q then wsum (fun j => windB (cw k j) % 10) 160 / 160 else -3) else -1) (hy : y.toInt = if P then (if Q then wsum (fun j => windB (Kwi (160 * k + j)) % 10) 160 / 160 else -3) else -1) : x = y := Int32.toInt_inj.mp (by
  rw [hx, hy]
  by_cases p : P
  · rw [if_pos p, if_pos p, wsum_eq (g := fun j => windB (Kwi (160 * k + j)) % 10) (fun j hj => by rw [c k j (hP p) hj])]
  · rw [if_neg p, if_neg p])
/-! sights: a ship's own, in order, are its rows among all -/
def CSG (n : Nat) (xsg : Int32) (nS : Nat → Nat) (SW : Nat → Nat → Nat → Int32) (Kss Ksc Ksh : Nat → Int32) : Prop := ∀ i, i < n → ∃ pos : Nat → Nat, (∀ k, k < nS i → ((pos k : Nat) : Int) < xsg.toInt ∧ (Kss (pos k)).toInt = (i : Int) ∧ SW i k 0 = Ksc (pos k) ∧ SW i k 1 = Ksh (pos k)) ∧ (∀ k k' : Nat, k < k' → k' < nS i → pos k < pos k') ∧ ∀ r : Nat, (r : Int) < xsg.toInt → (Kss r).toInt = (i : Int) → ∃ k, k < nS i ∧ pos k = r
def CSS (n : Nat) (xsg : Int32) (Kss : Nat → Int32) : Prop := ∀ r : Nat, (r : Int) < xsg.toInt → (Kss r).toInt < (n : Int)
theorem CSG.noBeh {n : Nat} {xsg : Int32} {nS : Nat → Nat} {SW : Nat → Nat → Nat → Int32} {Kss Ksc Ksh : Nat → Int32} (c : CSG n xsg nS SW Kss Ksc Ksh) {i : Nat} (hi : i < n) {h : Int} : NoBeh (SW i) (nS i) h ↔ ∀ k : Nat, (k : Int) < xsg.toInt → (Kss k).toInt = (i : Int) → (Ksh k).toInt < h := by
  obtain ⟨pos, p1, p2, p3⟩ := c i hi
  constructor
  · intro g r h1 h2
    obtain ⟨k, hk, rfl⟩ := p3 r h1 h2
    have := g k hk
    rw [(p1 k hk).2.2.2] at this
    exact this
  · intro g k hk
    obtain ⟨q1, q2, q3, q4⟩ := p1 k hk
    rw [q4]
    exact g _ q1 q2
theorem csg_add {n I : Nat} {xsg usg a0 a1 a2 : Int32} {nS : Nat → Nat} {SW : Nat → Nat → Nat → Int32} {Kss Ksc Ksh : Nat → Int32} (c : CSG n xsg nS SW Kss Ksc Ksh) (hx0 : 0 ≤ xsg.toInt) (hu : usg.toInt = xsg.toInt + 1) (hI : a0.toInt = (I : Int)) : CSG n usg (va_up nS I (nS I + 1)) (va_up SW I (va_up (SW I) (nS I) (fun j => ([a1, a2] : List Int32).getD j 0))) (upd Kss xsg.toNatClampNeg a0) (upd Ksc xsg.toNatClampNeg a1) (upd Ksh xsg.toNatClampNeg a2) := fun i hi => by
  have hk : (xsg.toNatClampNeg : Int) = xsg.toInt := Int.toNat_of_nonneg hx0
  obtain ⟨pos, p1, p2, p3⟩ := c i hi
  by_cases e : i = I
  · subst e
    rw [va_up_self, va_up_self]
    refine ⟨va_up pos (nS i) xsg.toNatClampNeg, fun k hk' => ?_, fun k k' h1 h2 => ?_, fun r h1 h2 => ?_⟩
    · by_cases e2 : k = nS i
      · rw [e2, va_up_self, va_up_self, upd_at, upd_at, upd_at]
        exact ⟨by omega, hI, rfl, rfl⟩
      · obtain ⟨g1, g2, g3, g4⟩ := p1 k (by omega)
        have hne : pos k ≠ xsg.toNatClampNeg := by omega
        rw [va_up_ne _ _ e2, va_up_ne _ _ e2, upd_off _ _ hne, upd_off _ _ hne, upd_off _ _ hne]
        exact ⟨by omega, g2, g3, g4⟩
    · by_cases e2 : k' = nS i
      · rw [e2, va_up_self, va_up_ne _ _ (by omega)]
        have := (p1 k (by omega)).1
        omega
      · rw [va_up_ne _ _ e2, va_up_ne _ _ (by omega)]
        exact p2 k k' h1 (by omega)
    · by_cases e2 : r = xsg.toNatClampNeg
      · exact ⟨nS i, by omega, by rw [va_up_self, e2]⟩
      · rw [upd_off _ _ e2] at h2
        obtain ⟨k, h3, h4⟩ := p3 r (by omega) h2
        exact ⟨k, by omega, by rw [va_up_ne _ _ (by omega)]; exact h4⟩
  · rw [va_up_ne _ _ e, va_up_ne _ _ e]
    refine ⟨pos, fun k hk' => ?_, p2, fun r h1 h2 => ?_⟩
    · obtain ⟨g1, g2, g3, g4⟩ := p1 k hk'
      have hne : pos k ≠ xsg.toNatClampNeg := by omega
      rw [upd_off _ _ hne, upd_off _ _ hne, upd_off _ _ hne]
      exact ⟨by omega, g2, g3, g4⟩
    · have hr : r ≠ xsg.toNatClampNeg := fun z => by
        rw [z, upd_at] at h2
        omega
      rw [upd_off _ _ hr] at h2
      exact p3 r (by omega) h2
theorem css_add {n : Nat} {xsg usg a0 : Int32} {Kss : Nat → Int32} (c : CSS n xsg Kss) (hx0 : 0 ≤ xsg.toInt) (hu : usg.toInt = xsg.toInt + 1) (hI : a0.toInt < (n : Int)) : CSS n usg (upd Kss xsg.toNatClampNeg a0) := fun r h => by
  have hk : (xsg.toNatClampNeg : Int) = xsg.toInt := Int.toNat_of_nonneg hx0
  by_cases e : r = xsg.toNatClampNeg
  · rw [e, upd_at]; exact hI
  · rw [upd_off _ _ e]; exact c r (by omega)
theorem csg_ship {P : Prop} [Decidable P] {n un : Nat} {xsg : Int32} {V uV : Nat → Nat → Int32} {nO unO nS unS : Nat → Nat} {SW uSW : Nat → Nat → Nat → Int32} {Kss Ksc Ksh : Nat → Int32} (c : CSG n xsg nS SW Kss Ksc Ksh) (cs : CSS n xsg Kss) (hn : un = if P then n + 1 else n) (hold : ∀ i, i < n → uV i = V i ∧ unO i = nO i ∧ unS i = nS i ∧ uSW i = SW i) (hnew : P → unS n = 0) : CSG un xsg unS uSW Kss Ksc Ksh := fun i hi => by
  by_cases e : i < n
  · obtain ⟨-, -, h1, h2⟩ := hold i e
    rw [h1, h2]
    exact c i e
  · by_cases hP : P
    · rw [if_pos hP] at hn
      have hin : i = n := by omega
      subst hin
      rw [hnew hP]
      exact ⟨fun _ => 0, fun k hk => absurd hk (Nat.not_lt_zero k), fun k k' _ hk => absurd hk (Nat.not_lt_zero k'), fun r h1 h2 => absurd (cs r h1) (by omega)⟩
    · rw [if_neg hP] at hn
      omega
theorem css_ship {P : Prop} [Decidable P] {n un : Nat} {xsg : Int32} {Kss : Nat → Int32} (cs : CSS n xsg Kss) (hn : un = if P then n + 1 else n) : CSS un xsg Kss := fun r h => by
  have := cs r h
  by_cases hP : P
  · rewrite [if_pos hP] at hn; omega
  · rewrite [if_neg hP] at hn; omega
theorem cp_sight {n : Nat} {xsg usg wsg a0 a1 a2 r q : Int32} {nS unS : Nat → Nat} {SW uSW : Nat → Nat → Nat → Int32} {Kss Ksc Ksh uss usc ush : Nat → Int32} (c : CSG n xsg nS SW Kss Ksc Ksh) (cs : CSS n xsg Kss) (hx0 : 0 ≤ xsg.toInt)
    (t1 : ((0 ≤ a0.toInt ∧ a0.toInt < (n : Int)) ∧ (0 ≤ a1.toInt ∧ a1.toInt ≤ 159) ∧ (0 ≤ a2.toInt ∧ a2.toInt ≤ 100000)) → NoBeh (SW a0.toNatClampNeg) (nS a0.toNatClampNeg) a2.toInt → xsg.toInt < 60 → r.toInt = xsg.toInt + 1 ∧ usg.toInt = xsg.toInt + 1 ∧ unS = va_up nS a0.toNatClampNeg (nS a0.toNatClampNeg + 1) ∧ uSW = va_up SW a0.toNatClampNeg (va_up (SW a0.toNatClampNeg) (nS a0.toNatClampNeg) (fun j => ([a1, a2] : List Int32).getD j 0)))
    (t2 : ¬ (((0 ≤ a0.toInt ∧ a0.toInt < (n : Int)) ∧ (0 ≤ a1.toInt ∧ a1.toInt ≤ 159) ∧ (0 ≤ a2.toInt ∧ a2.toInt ≤ 100000)) ∧ NoBeh (SW a0.toNatClampNeg) (nS a0.toNatClampNeg) a2.toInt ∧ xsg.toInt < 60) → usg = xsg ∧ unS = nS ∧ uSW = SW)
    (t3 : ((0 ≤ a0.toInt ∧ a0.toInt < (n : Int)) ∧ (0 ≤ a1.toInt ∧ a1.toInt ≤ 159) ∧ (0 ≤ a2.toInt ∧ a2.toInt ≤ 100000)) → NoBeh (SW a0.toNatClampNeg) (nS a0.toNatClampNeg) a2.toInt → ¬ xsg.toInt < 60 → r = (-2))
    (t4 : ¬ (((0 ≤ a0.toInt ∧ a0.toInt < (n : Int)) ∧ (0 ≤ a1.toInt ∧ a1.toInt ≤ 159) ∧ (0 ≤ a2.toInt ∧ a2.toInt ≤ 100000)) ∧ NoBeh (SW a0.toNatClampNeg) (nS a0.toNatClampNeg) a2.toInt) → r = (-1))
    (s1 : (0 ≤ a0.toInt ∧ a0.toInt < (n : Int) ∧ 0 ≤ a1.toInt ∧ a1.toInt ≤ 159 ∧ 0 ≤ a2.toInt ∧ a2.toInt ≤ 100000) → (∀ k : Nat, (k : Int) < xsg.toInt → (Kss k).toInt = a0.toInt → (Ksh k).toInt < a2.toInt) → xsg.toInt < 60 → q.toInt = xsg.toInt + 1 ∧ wsg.toInt = xsg.toInt + 1 ∧ uss = upd Kss xsg.toNatClampNeg a0 ∧ usc = upd Ksc xsg.toNatClampNeg a1 ∧ ush = upd Ksh xsg.toNatClampNeg a2)
    (s2 : ¬ ((0 ≤ a0.toInt ∧ a0.toInt < (n : Int) ∧ 0 ≤ a1.toInt ∧ a1.toInt ≤ 159 ∧ 0 ≤ a2.toInt ∧ a2.toInt ≤ 100000) ∧ (∀ k : Nat, (k : Int) < xsg.toInt → (Kss k).toInt = a0.toInt → (Ksh k).toInt < a2.toInt) ∧ xsg.toInt < 60) → wsg = xsg ∧ uss = Kss ∧ usc = Ksc ∧ ush = Ksh)
    (s3 : (0 ≤ a0.toInt ∧ a0.toInt < (n : Int) ∧ 0 ≤ a1.toInt ∧ a1.toInt ≤ 159 ∧ 0 ≤ a2.toInt ∧ a2.toInt ≤ 100000) → (∀ k : Nat, (k : Int) < xsg.toInt → (Kss k).toInt = a0.toInt → (Ksh k).toInt < a2.toInt) → ¬ xsg.toInt < 60 → q = (-2))
    (s4 : ¬ ((0 ≤ a0.toInt ∧ a0.toInt < (n : Int) ∧ 0 ≤ a1.toInt ∧ a1.toInt ≤ 159 ∧ 0 ≤ a2.toInt ∧ a2.toInt ≤ 100000) ∧ (∀ k : Nat, (k : Int) < xsg.toInt → (Kss k).toInt = a0.toInt → (Ksh k).toInt < a2.toInt)) → q = (-1)) :
    usg = wsg ∧ r = q ∧ CSG n usg unS uSW uss usc ush ∧ CSS n usg uss := by
  have same : ∀ (e1 : usg = xsg ∧ unS = nS ∧ uSW = SW) (e2 : wsg = xsg ∧ uss = Kss ∧ usc = Ksc ∧ ush = Ksh) (e3 : r = q), usg = wsg ∧ r = q ∧ CSG n usg unS uSW uss usc ush ∧ CSS n usg uss := by
    rintro ⟨rfl, rfl, rfl⟩ ⟨rfl, rfl, rfl, rfl⟩ e3
    exact ⟨rfl, e3, c, cs⟩
  by_cases hP : (0 ≤ a0.toInt ∧ a0.toInt < (n : Int)) ∧ (0 ≤ a1.toInt ∧ a1.toInt ≤ 159) ∧ (0 ≤ a2.toInt ∧ a2.toInt ≤ 100000)
  · have hi := tn_lt hP.1.1 hP.1.2
    have hk : (a0.toNatClampNeg : Int) = a0.toInt := Int.toNat_of_nonneg hP.1.1
    have hO : 0 ≤ a0.toInt ∧ a0.toInt < (n : Int) ∧ 0 ≤ a1.toInt ∧ a1.toInt ≤ 159 ∧ 0 ≤ a2.toInt ∧ a2.toInt ≤ 100000 := by omega
    have hiff := CSG.noBeh c hi (h := a2.toInt)
    rw [hk] at hiff
    by_cases hN : NoBeh (SW a0.toNatClampNeg) (nS a0.toNatClampNeg) a2.toInt
    · have hU := hiff.mp hN
      by_cases h60 : xsg.toInt < 60
      · obtain ⟨e1, e2, e3, e4⟩ := t1 hP hN h60
        obtain ⟨f1, f2, f3, f4, f5⟩ := s1 hO hU h60
        refine ⟨Int32.toInt_inj.mp (by omega), Int32.toInt_inj.mp (by omega), ?_, ?_⟩
        · rw [e3, e4, f3, f4, f5]; exact csg_add c hx0 e2 hk.symm
        · rw [f3]; exact css_add cs hx0 e2 hP.1.2
      · exact same (t2 (fun z => h60 z.2.2)) (s2 (fun z => h60 z.2.2)) ((t3 hP hN h60).trans (s3 hO hU h60).symm)
    · exact same (t2 (fun z => hN z.2.1)) (s2 (fun z => hN (hiff.mpr z.2.1))) ((t4 (fun z => hN z.2)).trans (s4 (fun z => hN (hiff.mpr z.2))).symm)
  · have hO : ¬ (0 ≤ a0.toInt ∧ a0.toInt < (n : Int) ∧ 0 ≤ a1.toInt ∧ a1.toInt ≤ 159 ∧ 0 ≤ a2.toInt ∧ a2.toInt ≤ 100000) := by omega
    exact same (t2 (fun z => hP z.1)) (s2 (fun z => hO z.1)) ((t4 (fun z => hP z.1)).trans (s4 (fun z => hO z.1)).symm)
theorem CSG.tr {n : Nat} {xsg : Int32} {nS : Nat → Nat} {SW : Nat → Nat → Nat → Int32} {Kss Ksc Ksh : Nat → Int32} (c : CSG n xsg nS SW Kss Ksc Ksh) {a : Int32} (h0 : 0 ≤ a.toInt) (h1 : a.toInt < (n : Int)) (h : Int) : ∃ pos : Nat → Nat, (∀ k, BefK (SW a.toNatClampNeg) (nS a.toNatClampNeg) h k → BefM Kss Ksh xsg a.toInt h (pos k)) ∧ (∀ k, BehK (SW a.toNatClampNeg) (nS a.toNatClampNeg) h k → BehM Kss Ksh xsg a.toInt h (pos k)) ∧ (NoBef (SW a.toNatClampNeg) (nS a.toNatClampNeg) h → NoBefM Kss Ksh xsg a.toInt h) ∧ (NoBeh (SW a.toNatClampNeg) (nS a.toNatClampNeg) h → NoBehM Kss Ksh xsg a.toInt h) ∧ ∀ k, k < nS a.toNatClampNeg → SW a.toNatClampNeg k 0 = Ksc (pos k) ∧ SW a.toNatClampNeg k 1 = Ksh (pos k) ∧ ((pos k : Nat) : Int) < xsg.toInt := by
  have hk : (a.toNatClampNeg : Int) = a.toInt := Int.toNat_of_nonneg h0
  obtain ⟨pos, p1, p2, p3⟩ := c a.toNatClampNeg (tn_lt h0 h1)
  rw [hk] at p1 p3
  refine ⟨pos, fun k hb => ?_, fun k hb => ?_, fun hb r g1 g2 => ?_, fun hb r g1 g2 => ?_, fun k hk' => ⟨(p1 k hk').2.2.1, (p1 k hk').2.2.2, (p1 k hk').1⟩⟩
  · obtain ⟨q1, q2, q3, q4⟩ := p1 k hb.1
    refine ⟨q1, q2, by rw [← q4]; exact hb.2.1, fun j g1 g2 g3 => ?_⟩
    obtain ⟨k2, r1, r2⟩ := p3 j g2 g3
    rw [← r2, ← (p1 k2 r1).2.2.2]
    refine hb.2.2 k2 ?_ r1
    rcases Nat.lt_trichotomy k k2 with z | z | z
    · exact z
    · subst z; omega
    · have := p2 k2 k z hb.1; omega
  · obtain ⟨q1, q2, q3, q4⟩ := p1 k hb.1
    refine ⟨q1, q2, by rw [← q4]; exact hb.2.1, fun j g1 g3 => ?_⟩
    obtain ⟨k2, r1, r2⟩ := p3 j (by omega) g3
    rw [← r2, ← (p1 k2 r1).2.2.2]
    refine hb.2.2 k2 ?_
    rcases Nat.lt_trichotomy k k2 with z | z | z
    · have := p2 k k2 z r1; omega
    · subst z; omega
    · exact z
  · obtain ⟨k2, r1, r2⟩ := p3 r g1 g2
    rw [← r2, ← (p1 k2 r1).2.2.2]
    exact hb k2 r1
  · obtain ⟨k2, r1, r2⟩ := p3 r g1 g2
    rw [← r2, ← (p1 k2 r1).2.2.2]
    exact hb k2 r1
theorem swr_of {S : Nat → Nat → Int32} {m : Nat} {xsg : Int32} {Ksc Ksh : Nat → Int32} {pos : Nat → Nat} (h60 : xsg.toInt ≤ 60) (rc : Rg 60 0 159 Ksc) (rh : Rg 60 0 100000 Ksh) (p : ∀ k, k < m → S k 0 = Ksc (pos k) ∧ S k 1 = Ksh (pos k) ∧ ((pos k : Nat) : Int) < xsg.toInt) : SWR S m := fun k hk => by
  obtain ⟨p1, p2, p3⟩ := p k hk
  rw [p1, p2]
  exact ⟨rc _ (by omega), rh _ (by omega)⟩
theorem cp_distance {n : Nat} {xsg xho a0 a1 a2 r q : Int32} {nS : Nat → Nat} {SW : Nat → Nat → Nat → Int32} {Kss Ksc Ksh : Nat → Int32} (c : CSG n xsg nS SW Kss Ksc Ksh) (h60 : xsg.toInt ≤ 60) (hho : 0 ≤ xho.toInt ∧ xho.toInt ≤ 159) (rc : Rg 60 0 159 Ksc) (rh : Rg 60 0 100000 Ksh)
    (d0 : ¬ ((0 ≤ a0.toInt ∧ a0.toInt < (n : Int)) ∧ (0 ≤ a1.toInt ∧ a1.toInt ≤ 100000)) → r = (-1))
    (d1 : ((0 ≤ a0.toInt ∧ a0.toInt < (n : Int)) ∧ (0 ≤ a1.toInt ∧ a1.toInt ≤ 100000)) → NoBef (SW a0.toNatClampNeg) (nS a0.toNatClampNeg) a1.toInt ∨ NoBeh (SW a0.toNatClampNeg) (nS a0.toNatClampNeg) a1.toInt → r = (-9))
    (d2 : ((0 ≤ a0.toInt ∧ a0.toInt < (n : Int)) ∧ (0 ≤ a1.toInt ∧ a1.toInt ≤ 100000)) → SWR (SW a0.toNatClampNeg) (nS a0.toNatClampNeg) ∧ (0 ≤ xho.toInt ∧ xho.toInt ≤ 159) → ∀ k k', BefK (SW a0.toNatClampNeg) (nS a0.toNatClampNeg) a1.toInt k → BehK (SW a0.toNatClampNeg) (nS a0.toNatClampNeg) a1.toInt k' → r.toInt = if a2.toInt = 0 then leastV (farI (SW a0.toNatClampNeg k 0).toInt xho.toInt) (farI (SW a0.toNatClampNeg k' 0).toInt xho.toInt) (SW a0.toNatClampNeg k 1).toInt (SW a0.toNatClampNeg k' 1).toInt a1.toInt else mostV (farI (SW a0.toNatClampNeg k 0).toInt xho.toInt) (farI (SW a0.toNatClampNeg k' 0).toInt xho.toInt) (SW a0.toNatClampNeg k 1).toInt (SW a0.toNatClampNeg k' 1).toInt a1.toInt)
    (m0 : ¬ ((0 ≤ a0.toInt ∧ a0.toInt < (n : Int)) ∧ (0 ≤ a1.toInt ∧ a1.toInt ≤ 100000)) → q = (-1))
    (m1 : ((0 ≤ a0.toInt ∧ a0.toInt < (n : Int)) ∧ (0 ≤ a1.toInt ∧ a1.toInt ≤ 100000)) → NoBefM Kss Ksh xsg a0.toInt a1.toInt ∨ NoBehM Kss Ksh xsg a0.toInt a1.toInt → q = (-9))
    (m2 : ((0 ≤ a0.toInt ∧ a0.toInt < (n : Int)) ∧ (0 ≤ a1.toInt ∧ a1.toInt ≤ 100000)) → ∀ b b' : Nat, BefM Kss Ksh xsg a0.toInt a1.toInt b → BehM Kss Ksh xsg a0.toInt a1.toInt b' → q.toInt = if a2.toInt = 0 then leastV (farI (Ksc b).toInt xho.toInt) (farI (Ksc b').toInt xho.toInt) (Ksh b).toInt (Ksh b').toInt a1.toInt else mostV (farI (Ksc b).toInt xho.toInt) (farI (Ksc b').toInt xho.toInt) (Ksh b).toInt (Ksh b').toInt a1.toInt) : r = q := by
  by_cases hP : (0 ≤ a0.toInt ∧ a0.toInt < (n : Int)) ∧ (0 ≤ a1.toInt ∧ a1.toInt ≤ 100000)
  · obtain ⟨pos, t1, t2, t3, t4, t5⟩ := CSG.tr c hP.1.1 hP.1.2 a1.toInt
    rcases bef_or (SW a0.toNatClampNeg) (nS a0.toNatClampNeg) a1.toInt with hb | ⟨k, hb⟩
    · rw [d1 hP (Or.inl hb), m1 hP (Or.inl (t3 hb))]
    · rcases beh_or (SW a0.toNatClampNeg) (nS a0.toNatClampNeg) a1.toInt with hf | ⟨k', hf⟩
      · rw [d1 hP (Or.inr hf), m1 hP (Or.inr (t4 hf))]
      · refine Int32.toInt_inj.mp ?_
        rw [d2 hP ⟨swr_of h60 rc rh t5, hho⟩ k k' hb hf, m2 hP (pos k) (pos k') (t1 k hb) (t2 k' hf), (t5 k hb.1).1, (t5 k hb.1).2.1, (t5 k' hf.1).1, (t5 k' hf.1).2.1]
  · rw [d0 hP, m0 hP]
theorem cp_ahead {n : Nat} {xsg xho a0 a1 a2 r q : Int32} {nS : Nat → Nat} {SW : Nat → Nat → Nat → Int32} {Kss Ksc Ksh : Nat → Int32} (c : CSG n xsg nS SW Kss Ksc Ksh) (h60 : xsg.toInt ≤ 60) (hho : 0 ≤ xho.toInt ∧ xho.toInt ≤ 159) (rc : Rg 60 0 159 Ksc) (rh : Rg 60 0 100000 Ksh)
    (d0 : ¬ ((0 ≤ a0.toInt ∧ a0.toInt < (n : Int)) ∧ (0 ≤ a1.toInt ∧ a1.toInt < (n : Int)) ∧ a0.toInt ≠ a1.toInt ∧ (0 ≤ a2.toInt ∧ a2.toInt ≤ 100000)) → r = (-1))
    (d1 : ((0 ≤ a0.toInt ∧ a0.toInt < (n : Int)) ∧ (0 ≤ a1.toInt ∧ a1.toInt < (n : Int)) ∧ a0.toInt ≠ a1.toInt ∧ (0 ≤ a2.toInt ∧ a2.toInt ≤ 100000)) → (NoBef (SW a0.toNatClampNeg) (nS a0.toNatClampNeg) a2.toInt ∨ NoBeh (SW a0.toNatClampNeg) (nS a0.toNatClampNeg) a2.toInt) ∨ (NoBef (SW a1.toNatClampNeg) (nS a1.toNatClampNeg) a2.toInt ∨ NoBeh (SW a1.toNatClampNeg) (nS a1.toNatClampNeg) a2.toInt) → r = (-9))
    (d2 : ((0 ≤ a0.toInt ∧ a0.toInt < (n : Int)) ∧ (0 ≤ a1.toInt ∧ a1.toInt < (n : Int)) ∧ a0.toInt ≠ a1.toInt ∧ (0 ≤ a2.toInt ∧ a2.toInt ≤ 100000)) → SWR (SW a0.toNatClampNeg) (nS a0.toNatClampNeg) ∧ SWR (SW a1.toNatClampNeg) (nS a1.toNatClampNeg) ∧ (0 ≤ xho.toInt ∧ xho.toInt ≤ 159) → ∀ k k' j j', BefK (SW a0.toNatClampNeg) (nS a0.toNatClampNeg) a2.toInt k → BehK (SW a0.toNatClampNeg) (nS a0.toNatClampNeg) a2.toInt k' → BefK (SW a1.toNatClampNeg) (nS a1.toNatClampNeg) a2.toInt j → BehK (SW a1.toNatClampNeg) (nS a1.toNatClampNeg) a2.toInt j' → r.toInt = aheadV (mostV (farI (SW a0.toNatClampNeg k 0).toInt xho.toInt) (farI (SW a0.toNatClampNeg k' 0).toInt xho.toInt) (SW a0.toNatClampNeg k 1).toInt (SW a0.toNatClampNeg k' 1).toInt a2.toInt) (leastV (farI (SW a1.toNatClampNeg j 0).toInt xho.toInt) (farI (SW a1.toNatClampNeg j' 0).toInt xho.toInt) (SW a1.toNatClampNeg j 1).toInt (SW a1.toNatClampNeg j' 1).toInt a2.toInt) (mostV (farI (SW a1.toNatClampNeg j 0).toInt xho.toInt) (farI (SW a1.toNatClampNeg j' 0).toInt xho.toInt) (SW a1.toNatClampNeg j 1).toInt (SW a1.toNatClampNeg j' 1).toInt a2.toInt) (leastV (farI (SW a0.toNatClampNeg k 0).toInt xho.toInt) (farI (SW a0.toNatClampNeg k' 0).toInt xho.toInt) (SW a0.toNatClampNeg k 1).toInt (SW a0.toNatClampNeg k' 1).toInt a2.toInt))
    (m0 : ¬ ((0 ≤ a0.toInt ∧ a0.toInt < (n : Int)) ∧ (0 ≤ a1.toInt ∧ a1.toInt < (n : Int)) ∧ a0.toInt ≠ a1.toInt ∧ (0 ≤ a2.toInt ∧ a2.toInt ≤ 100000)) → q = (-1))
    (m1 : ((0 ≤ a0.toInt ∧ a0.toInt < (n : Int)) ∧ (0 ≤ a1.toInt ∧ a1.toInt < (n : Int)) ∧ a0.toInt ≠ a1.toInt ∧ (0 ≤ a2.toInt ∧ a2.toInt ≤ 100000)) → (NoBefM Kss Ksh xsg a0.toInt a2.toInt ∨ NoBehM Kss Ksh xsg a0.toInt a2.toInt) ∨ (NoBefM Kss Ksh xsg a1.toInt a2.toInt ∨ NoBehM Kss Ksh xsg a1.toInt a2.toInt) → q = (-9))
    (m2 : ((0 ≤ a0.toInt ∧ a0.toInt < (n : Int)) ∧ (0 ≤ a1.toInt ∧ a1.toInt < (n : Int)) ∧ a0.toInt ≠ a1.toInt ∧ (0 ≤ a2.toInt ∧ a2.toInt ≤ 100000)) → ∀ b b' c c' : Nat, BefM Kss Ksh xsg a0.toInt a2.toInt b → BehM Kss Ksh xsg a0.toInt a2.toInt b' → BefM Kss Ksh xsg a1.toInt a2.toInt c → BehM Kss Ksh xsg a1.toInt a2.toInt c' → q.toInt = aheadV (mostV (farI (Ksc b).toInt xho.toInt) (farI (Ksc b').toInt xho.toInt) (Ksh b).toInt (Ksh b').toInt a2.toInt) (leastV (farI (Ksc c).toInt xho.toInt) (farI (Ksc c').toInt xho.toInt) (Ksh c).toInt (Ksh c').toInt a2.toInt) (mostV (farI (Ksc c).toInt xho.toInt) (farI (Ksc c').toInt xho.toInt) (Ksh c).toInt (Ksh c').toInt a2.toInt) (leastV (farI (Ksc b).toInt xho.toInt) (farI (Ksc b').toInt xho.toInt) (Ksh b).toInt (Ksh b').toInt a2.toInt)) : r = q := by
  by_cases hP : (0 ≤ a0.toInt ∧ a0.toInt < (n : Int)) ∧ (0 ≤ a1.toInt ∧ a1.toInt < (n : Int)) ∧ a0.toInt ≠ a1.toInt ∧ (0 ≤ a2.toInt ∧ a2.toInt ≤ 100000)
  · obtain ⟨pos, t1, t2, t3, t4, t5⟩ := CSG.tr c hP.1.1 hP.1.2 a2.toInt
    obtain ⟨pos2, u1, u2, u3, u4, u5⟩ := CSG.tr c hP.2.1.1 hP.2.1.2 a2.toInt
    rcases bef_or (SW a0.toNatClampNeg) (nS a0.toNatClampNeg) a2.toInt with hb | ⟨k, hb⟩
    · rw [d1 hP (Or.inl (Or.inl hb)), m1 hP (Or.inl (Or.inl (t3 hb)))]
    · rcases beh_or (SW a0.toNatClampNeg) (nS a0.toNatClampNeg) a2.toInt with hf | ⟨k', hf⟩
      · rw [d1 hP (Or.inl (Or.inr hf)), m1 hP (Or.inl (Or.inr (t4 hf)))]
      · rcases bef_or (SW a1.toNatClampNeg) (nS a1.toNatClampNeg) a2.toInt with gb | ⟨j, gb⟩
        · rw [d1 hP (Or.inr (Or.inl gb)), m1 hP (Or.inr (Or.inl (u3 gb)))]
        · rcases beh_or (SW a1.toNatClampNeg) (nS a1.toNatClampNeg) a2.toInt with gf | ⟨j', gf⟩
          · rw [d1 hP (Or.inr (Or.inr gf)), m1 hP (Or.inr (Or.inr (u4 gf)))]
          · refine Int32.toInt_inj.mp ?_
            rw [d2 hP ⟨swr_of h60 rc rh t5, swr_of h60 rc rh u5, hho⟩ k k' j j' hb hf gb gf, m2 hP (pos k) (pos k') (pos2 j) (pos2 j') (t1 k hb) (t2 k' hf) (u1 j gb) (u2 j' gf), (t5 k hb.1).1, (t5 k hb.1).2.1, (t5 k' hf.1).1, (t5 k' hf.1).2.1, (u5 j gb.1).1, (u5 j gb.1).2.1, (u5 j' gf.1).1, (u5 j' gf.1).2.1]
  · rw [d0 hP, m0 hP]
/-! where the ships are: the class's and the reference's -/
def CGS (n : Nat) (V : Nat → Nat → Int32) (ga : Int32) (Kce Kgo Kwa Kca Kha : Nat → Int32) : Prop := ∀ i, i < n → EqS (gs (V i)) (gsM Kce Kgo Kwa Kca Kha i) ∧ Rgs (V i) 84 ∧ EntOK ga.toInt (V i)
/-- rows that no ship has had yet -/
def CNG (n : Nat) (Kgo Kwa Kca : Nat → Int32) : Prop := ∀ j : Nat, n ≤ j → (Kgo j).toInt = 0 ∧ (Kwa j).toInt = 0 ∧ Kca j = 0
/-- in the hour 0 nobody is HOME -/
def CH0 (hr : Int32) (n : Nat) (V : Nat → Nat → Int32) : Prop := hr.toInt = 0 → ∀ i, i < n → (V i 8).toInt = -9
/-- the orders -/
def COR (n : Nat) (nO : Nat → Nat) (OW : Nat → Nat → Nat → Int32) (Kro : Nat → Int32) : Prop := ∀ i, i < n → nO i ≤ 20 ∧ ∀ k j : Nat, k < nO i → j < 6 → ordC (OW i) k j = ordM Kro i k j
def SameG (V U : Nat → Nat → Int32) : Prop := ∀ i j : Nat, 3 ≤ j → j ≤ 9 → j ≠ 6 → U i j = V i j
theorem SameG.gs {V U : Nat → Nat → Int32} (h : SameG V U) (i : Nat) : gs (U i) = gs (V i) := by
  show ((U i 3).toInt, (U i 4).toInt, (U i 5).toInt, U i 7, (U i 8).toInt) = ((V i 3).toInt, (V i 4).toInt, (V i 5).toInt, V i 7, (V i 8).toInt)
  rw [h i 3 (by decide) (by decide) (by decide), h i 4 (by decide) (by decide) (by decide), h i 5 (by decide) (by decide) (by decide), h i 7 (by decide) (by decide) (by decide), h i 8 (by decide) (by decide) (by decide)]
theorem CGS.same {n : Nat} {V U : Nat → Nat → Int32} {ga : Int32} {Kce Kgo Kwa Kca Kha : Nat → Int32} (c : CGS n V ga Kce Kgo Kwa Kca Kha) (h : SameG V U) : CGS n U ga Kce Kgo Kwa Kca Kha := fun i hi => by
  obtain ⟨c1, c2, c3⟩ := c i hi
  refine ⟨by rw [h.gs i]; exact c1, ?_, ?_⟩
  · unfold Rgs
    rw [h i 3 (by decide) (by decide) (by decide), h i 4 (by decide) (by decide) (by decide), h i 5 (by decide) (by decide) (by decide)]
    exact c2
  · unfold EntOK
    rw [h i 8 (by decide) (by decide) (by decide), h i 9 (by decide) (by decide) (by decide)]
    exact c3
theorem CH0.same {hr : Int32} {n : Nat} {V U : Nat → Nat → Int32} (c : CH0 hr n V) (h : SameG V U) : CH0 hr n U := fun z i hi => by
  rw [h i 8 (by decide) (by decide) (by decide)]
  exact c z i hi
theorem same_foul {P : Prop} [Decidable P] {V uV : Nat → Nat → Int32} {k : Nat} {x : Int32} (h : uV = if P then va_up V k (upd (V k) 6 x) else V) : SameG V uV := by
  intro i j h3 h9 h6
  subst h
  split
  · by_cases e : i = k
    · subst e
      rw [va_up_self, upd_off _ _ h6]
    · rw [va_up_ne _ _ e]
  · rfl
theorem same_charter {P : Prop} [Decidable P] {V uV : Nat → Nat → Int32} {k : Nat} {x y : Int32} (h : uV = if P then va_up V k (upd (upd (V k) 10 x) 11 y) else V) : SameG V uV := by
  intro i j h3 h9 h6
  subst h
  split
  · by_cases e : i = k
    · subst e
      rw [va_up_self, upd_off _ _ (by omega), upd_off _ _ (by omega)]
    · rw [va_up_ne _ _ e]
  · rfl
theorem cgs_home {P : Prop} [Decidable P] {n : Nat} {V : Nat → Nat → Int32} {ga uga a1 hr : Int32} {Kce Kgo Kwa Kca Kha : Nat → Int32} (c : CGS n V ga Kce Kgo Kwa Kca Kha) (h0 : CH0 hr n V) (hg : uga = if (P ∧ hr = 0) then a1 else ga) : CGS n V uga Kce Kgo Kwa Kca Kha := fun i hi => by
  obtain ⟨c1, c2, c3⟩ := c i hi
  subst hg
  split
  · rename_i z
    exact ⟨c1, c2, fun y => absurd (h0 (by rw [z.2]; rfl) i hi) y⟩
  · exact ⟨c1, c2, c3⟩
theorem cgs_ship {P : Prop} [Decidable P] {nS unS nO unO : Nat → Nat} {SW uSW : Nat → Nat → Nat → Int32} {n un : Nat} {vns a1 ga : Int32} {V uV : Nat → Nat → Int32} {Kce Kgo Kwa Kca Kha uce uha : Nat → Int32} (c : CGS n V ga Kce Kgo Kwa Kca Kha) (cg : CNG n Kgo Kwa Kca) (hv : vns.toInt = (n : Int)) (hn : un = if P then n + 1 else n) (hold : ∀ i, i < n → uV i = V i ∧ unO i = nO i ∧ unS i = nS i ∧ uSW i = SW i) (hnew : P → uV n 3 = a1 ∧ uV n 4 = 0 ∧ uV n 5 = 0 ∧ uV n 7 = 0 ∧ uV n 8 = (-9)) (hr : P → 0 ≤ a1.toInt ∧ a1.toInt ≤ 159) (hce : uce = if P then upd Kce vns.toNatClampNeg a1 else Kce) (hha : uha = if P then upd Kha vns.toNatClampNeg (-9) else Kha) : CGS un uV ga uce Kgo Kwa Kca uha := fun i hi => by
  rw [tn_eq hv] at hce hha
  by_cases hP : P
  · rw [if_pos hP] at hn hce hha
    subst hn hce hha
    by_cases e : i = n
    · subst e
      obtain ⟨h3, h4, h5, h7, h8⟩ := hnew hP
      obtain ⟨g1, g2, g3⟩ := cg i (Nat.le_refl _)
      have r1 := hr hP
      refine ⟨?_, ?_, ?_⟩
      · show EqS ((uV i 3).toInt, (uV i 4).toInt, (uV i 5).toInt, uV i 7, (uV i 8).toInt) ((upd Kce i a1 i).toInt, (Kgo i).toInt, (Kwa i).toInt, Kca i, (upd Kha i (-9) i).toInt)
        rw [h3, h4, h5, h7, h8, upd_at, upd_at, g1, g2, g3]
        exact EqS.rf _
      · unfold Rgs
        rw [h3, h4, h5]
        exact ⟨r1, by decide, by decide⟩
      · intro z
        rw [h8] at z
        exact absurd (by decide) z
    · obtain ⟨c1, c2, c3⟩ := c i (by omega)
      rw [(hold i (by omega)).1]
      refine ⟨?_, c2, c3⟩
      rw [gsM_congr (ce := Kce) (go := Kgo) (wa := Kwa) (ca := Kca) (ha := Kha) (upd_off _ _ e) rfl rfl rfl (upd_off _ _ e)]
      exact c1
  · rw [if_neg hP] at hn hce hha
    subst hn hce hha
    rw [(hold i hi).1]
    exact c i hi
theorem ch0_ship {P : Prop} [Decidable P] {nS unS nO unO : Nat → Nat} {SW uSW : Nat → Nat → Nat → Int32} {n un : Nat} {hr : Int32} {V uV : Nat → Nat → Int32} (c : CH0 hr n V) (hn : un = if P then n + 1 else n) (hold : ∀ i, i < n → uV i = V i ∧ unO i = nO i ∧ unS i = nS i ∧ uSW i = SW i) (hnew : P → uV n 8 = (-9)) : CH0 hr un uV := fun z i hi => by
  by_cases hP : P
  · rw [if_pos hP] at hn
    subst hn
    by_cases e : i = n
    · subst e
      rw [hnew hP]
      rfl
    · rw [(hold i (by omega)).1]
      exact c z i (by omega)
  · rw [if_neg hP] at hn
    subst hn
    rw [(hold i hi).1]
    exact c z i hi
theorem cng_ship {P : Prop} [Decidable P] {n un : Nat} {Kgo Kwa Kca : Nat → Int32} (c : CNG n Kgo Kwa Kca) (hn : un = if P then n + 1 else n) : CNG un Kgo Kwa Kca := fun j hj => c j (by
  by_cases hP : P
  · rewrite [if_pos hP] at hn; omega
  · rewrite [if_neg hP] at hn; omega)
theorem cor_ship {P : Prop} [Decidable P] {nS unS nO unO : Nat → Nat} {SW uSW OW uOW : Nat → Nat → Nat → Int32} {V uV : Nat → Nat → Int32} {n un : Nat} {Kro : Nat → Int32} (c : COR n nO OW Kro) (hn : un = if P then n + 1 else n) (hold : ∀ i, i < n → uV i = V i ∧ unO i = nO i ∧ unS i = nS i ∧ uSW i = SW i) (hW : ∀ i, i < n → uOW i = OW i) (hnew : P → unO n = 0) : COR un unO uOW Kro := fun i hi => by
  by_cases hP : P
  · rw [if_pos hP] at hn
    subst hn
    by_cases e : i = n
    · subst e
      rw [hnew hP]
      exact ⟨by omega, fun k j hk => absurd hk (by omega)⟩
    · rw [(hold i (by omega)).2.1, hW i (by omega)]
      exact c i (by omega)
  · rw [if_neg hP] at hn
    subst hn
    rw [(hold i hi).2.1, hW i hi]
    exact c i hi
theorem cor_order {P : Prop} [Decidable P] {n k : Nat} {nO unO : Nat → Nat} {OW uOW : Nat → Nat → Nat → Int32} {V : Nat → Nat → Int32} {Kki Kch Kfo Kor Kro uro : Nat → Int32} {a1 a2 a3 a4 a5 a6 : Int32} (c : COR n nO OW Kro) (cs : CSH n V nO Kki Kch Kfo Kor) (hk : P → k < n) (hO : unO = if (P ∧ nO k < 20) then va_up nO k (nO k + 1) else nO) (hW : uOW = if (P ∧ nO k < 20) then va_up OW k (va_up (OW k) (nO k) (fun j => ([a6, a1, a2, a3, a4, a5] : List Int32).getD j 0)) else OW) (hm : ∀ j : Nat, uro j = if ((P ∧ (Kor k).toInt < 20) ∧ 120 * k + 6 * (Kor k).toInt.toNat ≤ j ∧ j < 120 * k + 6 * (Kor k).toInt.toNat + 6) then ([a1, a2, a3, a4, a5, a6] : List Int32).getD (j - (120 * k + 6 * (Kor k).toInt.toNat)) 0 else Kro j) : COR n unO uOW uro := fun i hi => by
  obtain ⟨h20, hc⟩ := c i hi
  by_cases hP : P ∧ nO k < 20
  · have hkn := hk hP.1
    have hq := (cs k hkn).2.2.2
    have e0 : (Kor k).toInt.toNat = nO k := by omega
    rw [if_pos hP] at hO hW
    subst hO hW
    by_cases e : i = k
    · subst e
      rw [va_up_self, va_up_self]
      refine ⟨by omega, fun q j h1 h2 => ?_⟩
      unfold ordM
      rw [hm, e0]
      by_cases e2 : q = nO i
      · subst e2
        rw [if_pos ⟨⟨hP.1, by omega⟩, by omega, by omega⟩, show 120 * i + 6 * nO i + j - (120 * i + 6 * nO i) = j by omega]
        unfold ordC
        rw [va_up_self]
        rcases (show j = 0 ∨ j = 1 ∨ j = 2 ∨ j = 3 ∨ j = 4 ∨ j = 5 by omega) with r | r | r | r | r | r <;> subst r <;> rfl
      · rw [if_neg (fun z => by have := z.2.1; have := z.2.2; omega)]
        have h9 := hc q j (by omega) h2
        unfold ordC at h9 ⊢
        rw [va_up_ne _ _ e2]
        exact h9
    · rw [va_up_ne _ _ e, va_up_ne _ _ e]
      refine ⟨h20, fun q j h1 h2 => ?_⟩
      rw [hc q j h1 h2]
      unfold ordM
      rw [hm, e0, if_neg (fun z => by have := z.2.1; have := z.2.2; omega)]
  · rw [if_neg hP] at hO hW
    subst hO hW
    refine ⟨h20, fun q j h1 h2 => ?_⟩
    rw [hc q j h1 h2]
    unfold ordM
    rw [hm, if_neg (fun z => hP ⟨z.1.1, by have := (cs k (hk z.1.1)).2.2.2; have := z.1.2; omega⟩)]
theorem way_of {n i : Nat} {nO : Nat → Nat} {OW : Nat → Nat → Nat → Int32} {Kro : Nat → Int32} (c : COR n nO OW Kro) (hi : i < n) (h8 : n ≤ 8) (W : ∀ j : Nat, j < 960 → j % 6 = 5 → 0 ≤ (Kro j).toInt ∧ (Kro j).toInt ≤ 7) : ∀ k : Nat, k < nO i → 0 ≤ ordC (OW i) k 5 ∧ ordC (OW i) k 5 ≤ 7 := fun k hk => by
  obtain ⟨h20, hc⟩ := c i hi
  rw [hc k 5 hk (by decide)]
  exact W _ (by omega) (by omega)
theorem spre_of {n i : Nat} {V : Nat → Nat → Int32} {nO : Nat → Nat} {OW : Nat → Nat → Nat → Int32} {ga : Int32} {Kce Kgo Kwa Kca Kha Kki Kch Kfo Kor Kro : Nat → Int32} (c : CGS n V ga Kce Kgo Kwa Kca Kha) (co : COR n nO OW Kro) (cs : CSH n V nO Kki Kch Kfo Kor) (h8 : n ≤ 8) (hR : Rg 8 0 9 Kfo) (W : ∀ j : Nat, j < 960 → j % 6 = 5 → 0 ≤ (Kro j).toInt ∧ (Kro j).toInt ≤ 7) (hga : 0 ≤ ga.toInt ∧ ga.toInt ≤ 23) (hi : i < n) : SPre (ordC (OW i)) (nO i) ga.toInt (V i) := by
  obtain ⟨c1, c2, c3⟩ := c i hi
  refine ⟨c2, c3, way_of co hi h8 W, ?_, hga⟩
  rw [(cs i hi).2.2.1]
  exact hR i (by omega)
theorem cgs_run {n N M : Nat} {V uV : Nat → Nat → Int32} {nO : Nat → Nat} {OW : Nat → Nat → Nat → Int32} {cw : Nat → Nat → Int32} {Lc Ct Kwi : Nat → Int32} {ga ho hr vns : Int32} {Kce Kgo Kwa Kca Kha uce ugo uwa uca uha Kki Kch Kfo Kor Kro : Nat → Int32} (c : CGS n V ga Kce Kgo Kwa Kca Kha) (co : COR n nO OW Kro) (cs : CSH n V nO Kki Kch Kfo Kor) (cwi : CWI cw Kwi) (h8 : n ≤ 8) (hR : Rg 8 0 9 Kfo) (W : ∀ j : Nat, j < 960 → j % 6 = 5 → 0 ≤ (Kro j).toInt ∧ (Kro j).toInt ≤ 7) (hga : 0 ≤ ga.toInt ∧ ga.toInt ≤ 23) (hv : vns.toInt = (n : Int)) (hN : N = M)
    (h : ∀ i : Nat, i < n → RunsTo (nextF Lc) (fun i => ordC (OW i)) nO Ct cw ho.toInt hr.toInt ga.toInt N i (V i) (uV i)) (m : ∀ i : Nat, (i : Int) < vns.toInt → gsM uce ugo uwa uca uha i = runF (nextF Lc) (fun h => akF (ordM Kro i) (Kor i).toInt.toNat Ct (fun m9 j9 => Kwi (160 * m9 + j9)) h) (fun h => spF (Kki i).toInt (Kfo i).toInt Ct (fun m9 j9 => Kwi (160 * m9 + j9)) h) ho.toInt hr.toInt M (gsM Kce Kgo Kwa Kca Kha i)) : CGS n uV ga uce ugo uwa uca uha := fun i hi => by
  obtain ⟨c1, c2, c3⟩ := c i hi
  obtain ⟨f1, f2, f3⟩ := h i hi (spre_of c co cs h8 hR W hga hi)
  refine ⟨?_, f2, f3⟩
  rw [m i (by omega), ← hN]
  refine f1.tr ?_
  obtain ⟨k1, -, k6, ko⟩ := cs i hi
  have e0 : (Kor i).toInt.toNat = nO i := by omega
  rw [k1, k6, e0]
  have hc := (co i hi).2
  have hw : ∀ h c : Int, 0 ≤ c ∧ c ≤ 159 → windH Ct cw c h = windH Ct (fun m9 j9 => Kwi (160 * m9 + j9)) c h := fun h c hc => windH_congr hc cwi
  have hr1 := runF_congr (nx := nextF Lc) (ho := ho.toInt) (h0 := hr.toInt) (fun c w => nextF_rng (Lc := Lc) (c := c) (w := w)) N (ak := akF (ordC (OW i)) (nO i) Ct cw) (ak' := fun h => akF (ordM Kro i) (nO i) Ct (fun m9 j9 => Kwi (160 * m9 + j9)) h) (sp := spF (Kki i).toInt (Kfo i).toInt Ct cw) (sp' := fun h => spF (Kki i).toInt (Kfo i).toInt Ct (fun m9 j9 => Kwi (160 * m9 + j9)) h) (fun h c w hc9 => by unfold akF; rw [hw h c hc9]; exact askF_congr hc) (fun h c w hc9 => by unfold spF; rw [hw h c hc9]) (gs (V i)) c2.1
  rw [hr1.1]
  exact EqS.run c1 N
theorem ch0_run {n N : Nat} {V uV : Nat → Nat → Int32} {nO : Nat → Nat} {OW : Nat → Nat → Nat → Int32} {cw : Nat → Nat → Int32} {Lc Ct : Nat → Int32} {ga ho hr uhr : Int32} {Kce Kgo Kwa Kca Kha Kki Kch Kfo Kor Kro : Nat → Int32} (c0 : CH0 hr n V) (c : CGS n V ga Kce Kgo Kwa Kca Kha) (co : COR n nO OW Kro) (cs : CSH n V nO Kki Kch Kfo Kor) (h8 : n ≤ 8) (hR : Rg 8 0 9 Kfo) (W : ∀ j : Nat, j < 960 → j % 6 = 5 → 0 ≤ (Kro j).toInt ∧ (Kro j).toInt ≤ 7) (hga : 0 ≤ ga.toInt ∧ ga.toInt ≤ 23) (hz : uhr.toInt = 0 → hr.toInt = 0 ∧ N = 0)
    (h : ∀ i : Nat, i < n → RunsTo (nextF Lc) (fun i => ordC (OW i)) nO Ct cw ho.toInt hr.toInt ga.toInt N i (V i) (uV i)) : CH0 uhr n uV := fun z i hi => by
  obtain ⟨z1, z2⟩ := hz z
  subst z2
  obtain ⟨f1, -, -⟩ := h i hi (spre_of c co cs h8 hR W hga hi)
  exact f1.2.2.2.1.trans (c0 z1 i hi)
theorem cng_run {n : Nat} {vns : Int32} {Kce Kgo Kwa Kca Kha uce ugo uwa uca uha : Nat → Int32} (c : CNG n Kgo Kwa Kca) (hv : vns.toInt = (n : Int)) (m : ∀ i : Nat, vns.toInt ≤ (i : Int) → gsM uce ugo uwa uca uha i = gsM Kce Kgo Kwa Kca Kha i) : CNG n ugo uwa uca := fun j hj => by
  obtain ⟨g1, g2, g3⟩ := c j hj
  have h := m j (by omega)
  have h2 : (ugo j).toInt = (Kgo j).toInt := congrArg (fun s : GS => s.2.1) h
  have h3 : (uwa j).toInt = (Kwa j).toInt := congrArg (fun s : GS => s.2.2.1) h
  have h4 : uca j = Kca j := congrArg (fun s : GS => s.2.2.2.1) h
  exact ⟨h2.trans g1, h3.trans g2, h4.trans g3⟩
theorem homes_eq {n : Nat} {V : Nat → Nat → Int32} {ga vns : Int32} {Kce Kgo Kwa Kca Kha : Nat → Int32} (c : CGS n V ga Kce Kgo Kwa Kca Kha) (hv : vns.toInt = (n : Int)) : homesM (fun i => V i 8) n = homesM Kha vns.toInt.toNat := by
  rw [show vns.toInt.toNat = n by omega]
  exact homesM_congr (fun i hi => (c i hi).1.2.2.2.1)
/-! charters, numbers of ships -/
def CCH (n : Nat) (V : Nat → Nat → Int32) (Kra Kpr : Nat → Int32) : Prop := (∀ i, i < n → V i 10 = Kra i ∧ V i 11 = Kpr i) ∧ ∀ j : Nat, n ≤ j → Kra j = 0 ∧ Kpr j = 0
def CNM (n : Nat) (V : Nat → Nat → Int32) : Prop := ∀ i : Nat, i < n → (V i 0).toInt = (i : Int)
theorem CCH.kept {n : Nat} {V U : Nat → Nat → Int32} {Kra Kpr : Nat → Int32} (h : CCH n V Kra Kpr) (k : Kept V U) : CCH n U Kra Kpr := ⟨fun i hi => by
  obtain ⟨-, -, -, -, k5, k6⟩ := k i
  exact ⟨k5.trans (h.1 i hi).1, k6.trans (h.1 i hi).2⟩, h.2⟩
theorem CNM.kept {n : Nat} {V U : Nat → Nat → Int32} (h : CNM n V) (k : Kept V U) : CNM n U := fun i hi => by
  rw [(k i).1]
  exact h i hi
theorem foul_off {P : Prop} [Decidable P] {V uV : Nat → Nat → Int32} {k : Nat} {x : Int32} (h : uV = if P then va_up V k (upd (V k) 6 x) else V) (i : Nat) {j : Nat} (hj : j ≠ 6) : uV i j = V i j := by
  subst h
  split
  · by_cases e : i = k
    · subst e
      rw [va_up_self, upd_off _ _ hj]
    · rw [va_up_ne _ _ e]
  · rfl
theorem charter_off {P : Prop} [Decidable P] {V uV : Nat → Nat → Int32} {k : Nat} {x y : Int32} (h : uV = if P then va_up V k (upd (upd (V k) 10 x) 11 y) else V) (i : Nat) {j : Nat} (hj : j ≠ 10) (hj2 : j ≠ 11) : uV i j = V i j := by
  subst h
  split
  · by_cases e : i = k
    · subst e
      rw [va_up_self, upd_off _ _ hj2, upd_off _ _ hj]
    · rw [va_up_ne _ _ e]
  · rfl
theorem cp_charter {P : Prop} [Decidable P] {n k : Nat} {V uV : Nat → Nat → Int32} {nO : Nat → Nat} {Kki Kch Kfo Kor : Nat → Int32} {x y : Int32} (c : CSH n V nO Kki Kch Kfo Kor) (h : uV = if P then va_up V k (upd (upd (V k) 10 x) 11 y) else V) : CSH n uV nO Kki Kch Kfo Kor := fun i hi => by
  rw [charter_off h i (by decide) (by decide), charter_off h i (by decide) (by decide), charter_off h i (by decide) (by decide)]
  exact c i hi
theorem cch_foul {P : Prop} [Decidable P] {n k : Nat} {V uV : Nat → Nat → Int32} {Kra Kpr : Nat → Int32} {x : Int32} (c : CCH n V Kra Kpr) (h : uV = if P then va_up V k (upd (V k) 6 x) else V) : CCH n uV Kra Kpr := ⟨fun i hi => by
  rw [foul_off h i (by decide), foul_off h i (by decide)]
  exact c.1 i hi, c.2⟩
theorem cnm_foul {P : Prop} [Decidable P] {n k : Nat} {V uV : Nat → Nat → Int32} {x : Int32} (c : CNM n V) (h : uV = if P then va_up V k (upd (V k) 6 x) else V) : CNM n uV := fun i hi => by
  rw [foul_off h i (by decide)]
  exact c i hi
theorem cnm_charter {P : Prop} [Decidable P] {n k : Nat} {V uV : Nat → Nat → Int32} {x y : Int32} (c : CNM n V) (h : uV = if P then va_up V k (upd (upd (V k) 10 x) 11 y) else V) : CNM n uV := fun i hi => by
  rw [charter_off h i (by decide) (by decide)]
  exact c i hi
theorem cch_charter {P : Prop} [Decidable P] {n k : Nat} {V uV : Nat → Nat → Int32} {Kra Kpr ura upr : Nat → Int32} {x y : Int32} (c : CCH n V Kra Kpr) (hk : P → k < n) (h : uV = if P then va_up V k (upd (upd (V k) 10 x) 11 y) else V) (hra : ura = if P then upd Kra k x else Kra) (hpr : upr = if P then upd Kpr k y else Kpr) : CCH n uV ura upr := by
  by_cases hP : P
  · have hkn := hk hP
    rw [if_pos hP] at h hra hpr
    subst h hra hpr
    refine ⟨fun i hi => ?_, fun j hj => ?_⟩
    · by_cases e : i = k
      · subst e
        rw [va_up_self, upd_at, upd_at, upd_at, upd_off _ _ (by decide), upd_at]
        exact ⟨rfl, rfl⟩
      · rw [va_up_ne _ _ e, upd_off _ _ e, upd_off _ _ e]
        exact c.1 i hi
    · rw [upd_off _ _ (by omega), upd_off _ _ (by omega)]
      exact c.2 j hj
  · rw [if_neg hP] at h hra hpr
    subst h hra hpr
    exact c
theorem cch_ship {P : Prop} [Decidable P] {nS unS nO unO : Nat → Nat} {SW uSW : Nat → Nat → Nat → Int32} {n un : Nat} {V uV : Nat → Nat → Int32} {Kra Kpr : Nat → Int32} (c : CCH n V Kra Kpr) (hn : un = if P then n + 1 else n) (hold : ∀ i, i < n → uV i = V i ∧ unO i = nO i ∧ unS i = nS i ∧ uSW i = SW i) (hnew : ∀ _z : P, uV n 10 = 0 ∧ uV n 11 = 0) : CCH un uV Kra Kpr := by
  by_cases hP : P
  · rw [if_pos hP] at hn
    subst hn
    refine ⟨fun i hi => ?_, fun j hj => c.2 j (by omega)⟩
    by_cases e : i = n
    · subst e
      obtain ⟨h1, h2⟩ := hnew hP
      obtain ⟨g1, g2⟩ := c.2 i (Nat.le_refl _)
      rw [h1, h2, g1, g2]
      exact ⟨rfl, rfl⟩
    · rw [(hold i (by omega)).1]
      exact c.1 i (by omega)
  · rw [if_neg hP] at hn
    subst hn
    refine ⟨fun i hi => ?_, c.2⟩
    rw [(hold i hi).1]
    exact c.1 i hi
theorem cnm_ship {P : Prop} [Decidable P] {nS unS nO unO : Nat → Nat} {SW uSW : Nat → Nat → Nat → Int32} {n un : Nat} {V uV : Nat → Nat → Int32} (c : CNM n V) (hn : un = if P then n + 1 else n) (hold : ∀ i, i < n → uV i = V i ∧ unO i = nO i ∧ unS i = nS i ∧ uSW i = SW i) (hnew : P → (uV n 0).toInt = (n : Int)) : CNM un uV := fun i hi => by
  by_cases hP : P
  · rw [if_pos hP] at hn
    subst hn
    by_cases e : i = n
    · subst e
      exact hnew hP
    · rw [(hold i (by omega)).1]
      exact c i (by omega)
  · rw [if_neg hP] at hn
    subst hn
    rw [(hold i hi).1]
    exact c i hi
/-! marks -/
theorem cp_ways {n k : Nat} {V : Nat → Nat → Int32} {nO : Nat → Nat} {ga : Int32} {Kce Kgo Kwa Kca Kha Kki Kch Kfo Kor : Nat → Int32} (c : CGS n V ga Kce Kgo Kwa Kca Kha) (cs : CSH n V nO Kki Kch Kfo Kor) (h8 : n ≤ 8) (hR : Rg 8 0 9 Kfo) (hk : k < n) : (0 ≤ (V k 5).toInt ∧ (V k 5).toInt ≤ 7) ∧ (0 ≤ (V k 6).toInt ∧ (V k 6).toInt ≤ 9) := by
  refine ⟨(c k hk).2.1.2.2, ?_⟩
  rw [(cs k hk).2.2.1]
  exact hR k (by omega)
theorem cp_mark_c {P Q : Prop} [Decidable P] [Decidable Q] {n k : Nat} {V : Nat → Nat → Int32} {nO : Nat → Nat} {Kki Kch Kfo Kor : Nat → Int32} {x : Int} (cs : CSH n V nO Kki Kch Kfo Kor) (hk : P → k < n) : (if ((P ∧ Q) ∧ ¬ ((V k 1).toInt = x ∨ ((V k 1).toInt = 3 ∧ x = 1))) then (3 : Int32) else 0) = (if ((P ∧ Q) ∧ ¬ ((Kki k).toInt = x ∨ ((Kki k).toInt = 3 ∧ x = 1))) then (3 : Int32) else 0) := by
  by_cases hP : P
  · rw [(cs k (hk hP)).1]
  · rw [if_neg (fun z => hP z.1.1), if_neg (fun z => hP z.1.1)]
theorem cp_mark_r {P Q : Prop} [Decidable P] [Decidable Q] {n k : Nat} {V : Nat → Nat → Int32} {nO : Nat → Nat} {ga : Int32} {Kce Kgo Kwa Kca Kha Kki Kch Kfo Kor : Nat → Int32} {x : Int} (cs : CSH n V nO Kki Kch Kfo Kor) (cg : CGS n V ga Kce Kgo Kwa Kca Kha) (hk : P → k < n) : (if (P ∧ Q) then (if ((V k 1).toInt = x ∨ ((V k 1).toInt = 3 ∧ x = 1)) then (if x = 1 then (nO k : Int) else if x = 2 then spd 2 (V k 6).toInt 0 0 0 else (V k 7).toInt) else -3) else -1) = (if (P ∧ Q) then (if ((Kki k).toInt = x ∨ ((Kki k).toInt = 3 ∧ x = 1)) then (if x = 1 then (Kor k).toInt else if x = 2 then spd 2 (Kfo k).toInt 0 0 0 else (Kca k).toInt) else -3) else -1) := by
  by_cases hP : P
  · obtain ⟨h1, -, h6, ho⟩ := cs k (hk hP)
    have h7 : V k 7 = Kca k := (cg k (hk hP)).1.2.2.1
    rw [h1, h6, ho, h7]
  · rw [if_neg (fun z => hP z.1), if_neg (fun z => hP z.1)]
/-! who was first, freights, prices -/
abbrev clE (V : Nat → Nat → Int32) : Nat → Int := fun i => (V i 9).toInt
abbrev clH (V : Nat → Nat → Int32) : Nat → Int := fun i => (V i 8).toInt
theorem cgs_H {n i : Nat} {V : Nat → Nat → Int32} {ga : Int32} {Kce Kgo Kwa Kca Kha : Nat → Int32} (c : CGS n V ga Kce Kgo Kwa Kca Kha) (hi : i < n) : (V i 8).toInt = (Kha i).toInt := (c i hi).1.2.2.2.1
theorem cgs_H32 {n i : Nat} {V : Nat → Nat → Int32} {ga : Int32} {Kce Kgo Kwa Kca Kha : Nat → Int32} (c : CGS n V ga Kce Kgo Kwa Kca Kha) (hi : i < n) : V i 8 = Kha i := Int32.toInt_inj.mp (cgs_H c hi)
theorem cgs_E {n i : Nat} {V : Nat → Nat → Int32} {ga : Int32} {Kce Kgo Kwa Kca Kha : Nat → Int32} (c : CGS n V ga Kce Kgo Kwa Kca Kha) (hi : i < n) (hh : (V i 8).toInt ≠ -9) : (V i 9).toInt = entM Kha ga.toInt i := by
  unfold entM
  rw [if_neg (by rw [← cgs_H c hi]; exact hh), ← cgs_H c hi]
  exact (c i hi).2.2 hh
theorem first_eq {n : Nat} {V : Nat → Nat → Int32} {ga vns : Int32} {Kce Kgo Kwa Kca Kha : Nat → Int32} (c : CGS n V ga Kce Kgo Kwa Kca Kha) (hv : vns.toInt = (n : Int)) : firstF (fun i => (V i 9).toInt) (fun i => (V i 8).toInt) n = firstF (entM Kha ga.toInt) (fun i => (Kha i).toInt) vns.toNatClampNeg := by
  rw [tn_eq hv]
  exact firstF_congr (fun i hi => cgs_H c hi) (fun i hi hh => cgs_E c hi hh)
theorem bef_eq {n : Nat} {V : Nat → Nat → Int32} {nO : Nat → Nat} {ga vns : Int32} {Kce Kgo Kwa Kca Kha Kki Kch Kfo Kor : Nat → Int32} {e s : Int} (c : CGS n V ga Kce Kgo Kwa Kca Kha) (cs : CSH n V nO Kki Kch Kfo Kor) (cn : CNM n V) (hv : vns.toInt = (n : Int)) : befG (fun i => (V i 9).toInt) (fun i => (V i 8).toInt) (fun i => (V i 2).toInt) (fun i => (V i 0).toInt) e s n = befG (entM Kha ga.toInt) (fun i => (Kha i).toInt) (fun i => (Kch i).toInt) (fun i => (i : Int)) e s vns.toNatClampNeg := by
  rw [tn_eq hv]
  exact befG_congr (fun i hi => cgs_H c hi) (fun i hi hh => cgs_E c hi hh) (fun i hi => by show (V i 2).toInt = (Kch i).toInt; rw [(cs i hi).2.1]) (fun i hi => cn i hi)
theorem hch_of {n : Nat} {V : Nat → Nat → Int32} {nO : Nat → Nat} {Kki Kch Kfo Kor : Nat → Int32} (cs : CSH n V nO Kki Kch Kfo Kor) (hR : Rg 8 0 20000 Kch) (h8 : n ≤ 8) : ∀ i : Nat, i < n → 0 ≤ (V i 2).toInt ∧ (V i 2).toInt ≤ 20000 := fun i hi => by
  rw [(cs i hi).2.1]
  exact hR i (by omega)
theorem cp_first {n : Nat} {V : Nat → Nat → Int32} {ga vns r q : Int32} {Kce Kgo Kwa Kca Kha : Nat → Int32} (c : CGS n V ga Kce Kgo Kwa Kca Kha) (hv : vns.toInt = (n : Int)) (hr : r.toInt = optI (firstF (fun i => (V i 9).toInt) (fun i => (V i 8).toInt) n)) (hq : q.toInt = optI (firstF (entM Kha ga.toInt) (fun i => (Kha i).toInt) vns.toNatClampNeg)) : r = q := Int32.toInt_inj.mp (by rw [hr, hq, first_eq c hv])
theorem cp_freight {P : Prop} [Decidable P] {n k : Nat} {V : Nat → Nat → Int32} {nO : Nat → Nat} {ga vns r q : Int32} {Kce Kgo Kwa Kca Kha Kki Kch Kfo Kor Kra Kpr : Nat → Int32} (c : CGS n V ga Kce Kgo Kwa Kca Kha) (cs : CSH n V nO Kki Kch Kfo Kor) (cc : CCH n V Kra Kpr) (hv : vns.toInt = (n : Int)) (hk : P → k < n) (hr : r = if P then (if V k 8 = (-9) then (-4) else V k 2 * V k 10 + (if firstF (fun i => (V i 9).toInt) (fun i => (V i 8).toInt) n = some k then V k 11 else 0)) else (-1)) (hq : q = if P then (if Kha k = (-9) then (-4) else Kch k * Kra k + (if firstF (entM Kha ga.toInt) (fun i => (Kha i).toInt) vns.toNatClampNeg = some k then Kpr k else 0)) else (-1)) : r = q := by
  rw [hr, hq]
  by_cases hP : P
  · rw [if_pos hP, if_pos hP, first_eq c hv, cgs_H32 c (hk hP), (cs k (hk hP)).2.1, (cc.1 k (hk hP)).1, (cc.1 k (hk hP)).2]
  · rw [if_neg hP, if_neg hP]
theorem price_eq {n k : Nat} {V : Nat → Nat → Int32} {nO : Nat → Nat} {ga vns : Int32} {Kce Kgo Kwa Kca Kha Kki Kch Kfo Kor : Nat → Int32} {pr fa : Int} (c : CGS n V ga Kce Kgo Kwa Kca Kha) (cs : CSH n V nO Kki Kch Kfo Kor) (cn : CNM n V) (hv : vns.toInt = (n : Int)) (hk : k < n) (hh : (V k 8).toInt ≠ -9) : priceF pr fa (befG (fun i => (V i 9).toInt) (fun i => (V i 8).toInt) (fun i => (V i 2).toInt) (fun i => (V i 0).toInt) (V k 9).toInt (V k 0).toInt n) = priceF pr fa (befG (entM Kha ga.toInt) (fun i => (Kha i).toInt) (fun i => (Kch i).toInt) (fun i => (i : Int)) (entM Kha ga.toInt k) (k : Int) vns.toNatClampNeg) := by
  rw [bef_eq c cs cn hv, cgs_E c hk hh, cn k hk]
theorem cp_sale_r {P : Prop} [Decidable P] {n k : Nat} {V : Nat → Nat → Int32} {nO : Nat → Nat} {ga vns r q : Int32} {Kce Kgo Kwa Kca Kha Kki Kch Kfo Kor : Nat → Int32} {pr fa : Int} (c : CGS n V ga Kce Kgo Kwa Kca Kha) (cs : CSH n V nO Kki Kch Kfo Kor) (cn : CNM n V) (hv : vns.toInt = (n : Int)) (hk : P → k < n) (hr : r.toInt = if P then (if V k 8 = (-9) then -4 else priceF pr fa (befG (fun i => (V i 9).toInt) (fun i => (V i 8).toInt) (fun i => (V i 2).toInt) (fun i => (V i 0).toInt) (V k 9).toInt (V k 0).toInt n)) else -1) (hq : q.toInt = if P then (if Kha k = (-9) then -4 else priceF pr fa (befG (entM Kha ga.toInt) (fun i => (Kha i).toInt) (fun i => (Kch i).toInt) (fun i => (i : Int)) (entM Kha ga.toInt k) (k : Int) vns.toNatClampNeg)) else -1) : r = q := Int32.toInt_inj.mp (by
  rw [hr, hq]
  by_cases hP : P
  · rw [if_pos hP, if_pos hP, cgs_H32 c (hk hP)]
    by_cases z : Kha k = (-9)
    · rw [if_pos z, if_pos z]
    · rw [if_neg z, if_neg z, price_eq c cs cn hv (hk hP) (fun y => z (Int32.toInt_inj.mp (by rw [← cgs_H c (hk hP), y]; rfl)))]
  · rw [if_neg hP, if_neg hP])
theorem cp_sale_l {P : Prop} [Decidable P] {n k : Nat} {V : Nat → Nat → Int32} {nO : Nat → Nat} {ga vns : Int32} {ls ak uls wak : Int64} {Kce Kgo Kwa Kca Kha Kki Kch Kfo Kor : Nat → Int32} {pr fa : Int} (c : CGS n V ga Kce Kgo Kwa Kca Kha) (cs : CSH n V nO Kki Kch Kfo Kor) (cn : CNM n V) (hv : vns.toInt = (n : Int)) (hk : P → k < n) (h0 : ak = ls) (hr : uls = if P then (if V k 8 = (-9) then ls else Int64.ofInt ((V k 2).toInt * priceF pr fa (befG (fun i => (V i 9).toInt) (fun i => (V i 8).toInt) (fun i => (V i 2).toInt) (fun i => (V i 0).toInt) (V k 9).toInt (V k 0).toInt n))) else ls) (hq : wak = if P then (if Kha k = (-9) then ak else Int64.ofInt ((Kch k).toInt * priceF pr fa (befG (entM Kha ga.toInt) (fun i => (Kha i).toInt) (fun i => (Kch i).toInt) (fun i => (i : Int)) (entM Kha ga.toInt k) (k : Int) vns.toNatClampNeg))) else ak) : wak = uls := by
  rw [hr, hq, h0]
  by_cases hP : P
  · rw [if_pos hP, if_pos hP, cgs_H32 c (hk hP), (cs k (hk hP)).2.1]
    by_cases z : Kha k = (-9)
    · rw [if_pos z, if_pos z]
    · rw [if_neg z, if_neg z, price_eq c cs cn hv (hk hP) (fun y => z (Int32.toInt_inj.mp (by rw [← cgs_H c (hk hP), y]; rfl)))]
  · rw [if_neg hP, if_neg hP]
/-! the mean price: two sums -/
theorem sumC_eq {n : Nat} {V : Nat → Nat → Int32} {nO : Nat → Nat} {ga vns : Int32} {Kce Kgo Kwa Kca Kha Kki Kch Kfo Kor : Nat → Int32} (c : CGS n V ga Kce Kgo Kwa Kca Kha) (cs : CSH n V nO Kki Kch Kfo Kor) (hv : vns.toInt = (n : Int)) : sumL (fun i => (V i 8).toInt) (fun i => Int64.ofInt (V i 2).toInt) n = sumL (fun i => (Kha i).toInt) (fun i => Int64.ofInt (Kch i).toInt) vns.toNatClampNeg := by
  rw [tn_eq hv]
  exact sumL_congr (fun i hi => cgs_H c hi) (fun i hi hh => by show Int64.ofInt (V i 2).toInt = Int64.ofInt (Kch i).toInt; rw [(cs i hi).2.1])
theorem sumT_eq {n : Nat} {V : Nat → Nat → Int32} {nO : Nat → Nat} {ga vns : Int32} {Kce Kgo Kwa Kca Kha Kki Kch Kfo Kor : Nat → Int32} {pr fa : Int} (c : CGS n V ga Kce Kgo Kwa Kca Kha) (cs : CSH n V nO Kki Kch Kfo Kor) (cn : CNM n V) (hv : vns.toInt = (n : Int)) : sumL (fun i => (V i 8).toInt) (fun k => Int64.ofInt ((V k 2).toInt * priceF pr fa (befG (fun i => (V i 9).toInt) (fun i => (V i 8).toInt) (fun i => (V i 2).toInt) (fun i => (V i 0).toInt) (V k 9).toInt (V k 0).toInt n))) n = sumL (fun i => (Kha i).toInt) (fun k => Int64.ofInt ((Kch k).toInt * priceF pr fa (befG (entM Kha ga.toInt) (fun i => (Kha i).toInt) (fun i => (Kch i).toInt) (fun i => (i : Int)) (entM Kha ga.toInt k) (k : Int) vns.toNatClampNeg))) vns.toNatClampNeg := by
  have h : ∀ m : Nat, m = vns.toNatClampNeg → m = n → sumL (fun i => (V i 8).toInt) (fun k => Int64.ofInt ((V k 2).toInt * priceF pr fa (befG (fun i => (V i 9).toInt) (fun i => (V i 8).toInt) (fun i => (V i 2).toInt) (fun i => (V i 0).toInt) (V k 9).toInt (V k 0).toInt n))) m = sumL (fun i => (Kha i).toInt) (fun k => Int64.ofInt ((Kch k).toInt * priceF pr fa (befG (entM Kha ga.toInt) (fun i => (Kha i).toInt) (fun i => (Kch i).toInt) (fun i => (i : Int)) (entM Kha ga.toInt k) (k : Int) vns.toNatClampNeg))) m := by
    intro m _ hm
    refine sumL_congr (fun i hi => cgs_H c (by omega)) (fun i hi hh => ?_)
    show Int64.ofInt ((V i 2).toInt * priceF pr fa (befG (fun i => (V i 9).toInt) (fun i => (V i 8).toInt) (fun i => (V i 2).toInt) (fun i => (V i 0).toInt) (V i 9).toInt (V i 0).toInt n)) = _
    rw [price_eq c cs cn hv (by omega) hh, (cs i (by omega)).2.1]
  have e := tn_eq hv
  rw [e] at h ⊢
  exact h n rfl rfl
theorem hm_lg {a : Int64} : lg_cmp a a = 0 := by
  unfold lg_cmp
  rw [if_neg Int64.lt_irrefl, if_pos rfl]
/-! the least hours of both -/
theorem hfv_of {n : Nat} {V : Nat → Nat → Int32} {nO : Nat → Nat} {Kki Kch Kfo Kor : Nat → Int32} (cs : CSH n V nO Kki Kch Kfo Kor) (hR : Rg 8 0 9 Kfo) (h8 : n ≤ 8) : ∀ i : Nat, i < n → 0 ≤ (V i 6).toInt ∧ (V i 6).toInt ≤ 9 := fun i hi => by
  rw [(cs i hi).2.2.1]
  exact hR i (by omega)
theorem FFo_congr {ki fo st c w t : Int} {Ct : Nat → Int32} {WN WM : Nat → Nat → Int32} (hc : 0 ≤ c ∧ c ≤ 159) (hw : ∀ m j : Nat, m < 12 → j < 160 → WN m j = WM m j) : FFo (spF ki fo Ct WN) st c w t = FFo (spF ki fo Ct WM) st c w t := by
  have h : (fun h => spF ki fo Ct WN h c w) = (fun h => spF ki fo Ct WM h c w) := funext fun h => by
    unfold spF
    rw [windH_congr hc hw]
  unfold FFo
  rw [h]
theorem cp_least {P Q : Prop} [Decidable P] [Decidable Q] {n k : Nat} {V : Nat → Nat → Int32} {nO : Nat → Nat} {cw : Nat → Nat → Int32} {Lc Ct Kwi : Nat → Int32} {r q : Int32} {st to fr : Int} {Kki Kch Kfo Kor : Nat → Int32} (cs : CSH n V nO Kki Kch Kfo Kor) (cwi : CWI cw Kwi) (hk : Q → k < n) (hr : r.toInt = if P then lstF (runC (nextF Lc) (FFo (spF (V k 1).toInt (V k 6).toInt Ct cw) st) to 160 (h00 fr) (fun _ => 0)) to else -1) (hq : q.toInt = if Q then lstF (runR (nextF Lc) (FFo (spF (Kki k).toInt (Kfo k).toInt Ct (fun m9 j9 => Kwi (160 * m9 + j9))) st) to 160 (h00 fr) (fun _ => 0)) to else -1) (hPQ : P ↔ Q) : r = q := Int32.toInt_inj.mp (by
  rw [hr, hq]
  by_cases hQ : Q
  · rw [if_pos (hPQ.mpr hQ), if_pos hQ, (cs k (hk hQ)).1, (cs k (hk hQ)).2.2.1]
    rw [runC_congr (FF2 := FFo (spF (Kki k).toInt (Kfo k).toInt Ct (fun m9 j9 => Kwi (160 * m9 + j9))) st) (fun c w t hc => FFo_congr hc cwi)]
    rw [run_same (fun c w => nextF_rng) (fun c w t h0 h1 => FFo_rng h0 h1) 160 _ _ DI_start]
  · rw [if_neg (fun z => hQ (hPQ.mp z)), if_neg hQ])
