/-! what is told of all: charts, findings, who was first, prices -/
def chartsF (Ct : Nat → Int32) : Nat → Int
  | 0 => 0
  | n + 1 => chartsF Ct n + (if (Ct n).toInt = 0 then 0 else 1)
def fndL (c x : Int32) : Int32 := if c = 0 then x else c
def fndK (c : Int32) (K : Nat → Int32) : Nat → Int32 := if c = 0 then K else upd K c.toNatClampNeg (K c.toNatClampNeg + 1)
theorem fndL_0 (x : Int32) : fndL 0 x = x := if_pos rfl
theorem fndL_c {c x : Int32} (h : c ≠ 0) : fndL c x = c := if_neg h
theorem fndK_0 (K : Nat → Int32) : fndK 0 K = K := if_pos rfl
theorem fndK_c {c : Int32} {K : Nat → Int32} (h : c ≠ 0) : fndK c K = upd K c.toNatClampNeg (K c.toNatClampNeg + 1) := if_neg h
def optI : Option Nat → Int
  | none => -9
  | some b => b
/-- who enters first of those that are HOME -/
def firstF (E H : Nat → Int) : Nat → Option Nat
  | 0 => none
  | k + 1 => match firstF E H k with
    | none => if H k = -9 then none else some k
    | some b => if H k ≠ -9 ∧ (E k < E b ∨ (E k = E b ∧ H k < H b)) then some k else some b
theorem firstF_lt {E H : Nat → Int} {n b : Nat} (h : firstF E H n = some b) : b < n ∧ H b ≠ -9 := by
  induction n generalizing b with
  | zero => cases h
  | succ n ih =>
    have h : (match firstF E H n with | none => if H n = -9 then none else some n | some b => if H n ≠ -9 ∧ (E n < E b ∨ (E n = E b ∧ H n < H b)) then some n else some b) = some b := h
    cases hq : firstF E H n with
    | none =>
      rw [hq] at h
      by_cases z : H n = -9
      · have h : (if H n = -9 then none else some n) = some b := h
        rewrite [if_pos z] at h; cases h
      · have h : (if H n = -9 then none else some n) = some b := h
        rewrite [if_neg z] at h; cases h; exact ⟨by omega, z⟩
    | some d =>
      rw [hq] at h
      have h : (if H n ≠ -9 ∧ (E n < E d ∨ (E n = E d ∧ H n < H d)) then some n else some d) = some b := h
      by_cases z : H n ≠ -9 ∧ (E n < E d ∨ (E n = E d ∧ H n < H d))
      · rewrite [if_pos z] at h; cases h; exact ⟨by omega, z.1⟩
      · rewrite [if_neg z] at h; cases h
        have := ih hq
        exact ⟨by omega, this.2⟩
theorem firstF_none {E H : Nat → Int} {k : Nat} (h : firstF E H k = none) (z : H k = -9) : firstF E H (k + 1) = none := by
  show (match firstF E H k with | none => if H k = -9 then none else some k | some b => if H k ≠ -9 ∧ (E k < E b ∨ (E k = E b ∧ H k < H b)) then some k else some b) = _
  rw [h]
  exact if_pos z
theorem firstF_new {E H : Nat → Int} {k : Nat} (h : firstF E H k = none) (z : H k ≠ -9) : firstF E H (k + 1) = some k := by
  show (match firstF E H k with | none => if H k = -9 then none else some k | some b => if H k ≠ -9 ∧ (E k < E b ∨ (E k = E b ∧ H k < H b)) then some k else some b) = _
  rw [h]
  exact if_neg z
theorem firstF_yes {E H : Nat → Int} {k b : Nat} (h : firstF E H k = some b) (z : H k ≠ -9 ∧ (E k < E b ∨ (E k = E b ∧ H k < H b))) : firstF E H (k + 1) = some k := by
  show (match firstF E H k with | none => if H k = -9 then none else some k | some b => if H k ≠ -9 ∧ (E k < E b ∨ (E k = E b ∧ H k < H b)) then some k else some b) = _
  rw [h]
  exact if_pos z
theorem firstF_no {E H : Nat → Int} {k b : Nat} (h : firstF E H k = some b) (z : ¬ (H k ≠ -9 ∧ (E k < E b ∨ (E k = E b ∧ H k < H b)))) : firstF E H (k + 1) = some b := by
  show (match firstF E H k with | none => if H k = -9 then none else some k | some b => if H k ≠ -9 ∧ (E k < E b ∨ (E k = E b ∧ H k < H b)) then some k else some b) = _
  rw [h]
  exact if_neg z
theorem firstF_congr {E H E' H' : Nat → Int} {n : Nat} (hH : ∀ i : Nat, i < n → H i = H' i) (hE : ∀ i : Nat, i < n → H i ≠ -9 → E i = E' i) : firstF E H n = firstF E' H' n := by
  induction n with
  | zero => rfl
  | succ n ih =>
    have h := ih (fun i hi => hH i (by omega)) (fun i hi => hE i (by omega))
    have hn := hH n (by omega)
    cases hq : firstF E H n with
    | none =>
      rw [hq] at h
      by_cases z : H n = -9
      · rw [firstF_none hq z, firstF_none h.symm (by rw [← hn]; exact z)]
      · rw [firstF_new hq z, firstF_new h.symm (by rw [← hn]; exact z)]
    | some b =>
      rw [hq] at h
      obtain ⟨b1, b2⟩ := firstF_lt hq
      have hb := hH b (by omega)
      have eb := hE b (by omega) b2
      by_cases z : H n ≠ -9 ∧ (E n < E b ∨ (E n = E b ∧ H n < H b))
      · have en := hE n (by omega) z.1
        rw [firstF_yes hq z, firstF_yes h.symm (by rw [← hn, ← hb, ← eb, ← en]; exact z)]
      · rw [firstF_no hq z, firstF_no h.symm (fun y => z (by
          have y1 : H n ≠ -9 := by rw [hn]; exact y.1
          have en := hE n (by omega) y1
          rw [hn, hb, eb, en]; exact y))]
/-- chests that enter before one that enters at e with the number s -/
def befG (E H C N : Nat → Int) (e s : Int) : Nat → Int
  | 0 => 0
  | k + 1 => befG E H C N e s k + (if H k ≠ -9 ∧ (E k < e ∨ (E k = e ∧ N k < s)) then C k else 0)
theorem befG_rng {E H C N : Nat → Int} {e s B : Int} {n : Nat} (h : ∀ i : Nat, i < n → 0 ≤ C i ∧ C i ≤ B) (hB : 0 ≤ B) : 0 ≤ befG E H C N e s n ∧ befG E H C N e s n ≤ B * n := by
  induction n with
  | zero => exact ⟨Int.le_refl 0, by show (0 : Int) ≤ B * ((0 : Nat) : Int); omega⟩
  | succ n ih =>
    have := ih (fun i hi => h i (by omega))
    have hn := h n (by omega)
    show 0 ≤ befG E H C N e s n + _ ∧ befG E H C N e s n + _ ≤ B * ((n + 1 : Nat) : Int)
    rw [show ((n + 1 : Nat) : Int) = (n : Int) + 1 by omega, Int.mul_add, Int.mul_one]
    split <;> omega
theorem befG_congr {E H C N E' H' C' N' : Nat → Int} {e s : Int} {n : Nat} (hH : ∀ i : Nat, i < n → H i = H' i) (hE : ∀ i : Nat, i < n → H i ≠ -9 → E i = E' i) (hC : ∀ i : Nat, i < n → C i = C' i) (hN : ∀ i : Nat, i < n → N i = N' i) : befG E H C N e s n = befG E' H' C' N' e s n := by
  induction n with
  | zero => rfl
  | succ n ih =>
    have h := ih (fun i hi => hH i (by omega)) (fun i hi => hE i (by omega)) (fun i hi => hC i (by omega)) (fun i hi => hN i (by omega))
    show befG E H C N e s n + _ = befG E' H' C' N' e s n + _
    rw [h, ← hH n (by omega), ← hC n (by omega), ← hN n (by omega)]
    by_cases z : H n = -9
    · rw [if_neg (fun y => y.1 z), if_neg (fun y => y.1 z)]
    · rw [← hE n (by omega) z]
def priceF (pr fa b : Int) : Int := if pr - fa * ((b + 99) / 100) < 1 then 1 else pr - fa * ((b + 99) / 100)
theorem hund_rng {b : Int} (h : 0 ≤ b ∧ b ≤ 160000) : 0 ≤ (b + 99) / 100 ∧ (b + 99) / 100 ≤ 1601 := by omega
theorem mul_rng9 {x y A B : Int} (hx : 0 ≤ x ∧ x ≤ A) (hy : 0 ≤ y ∧ y ≤ B) : 0 ≤ x * y ∧ x * y ≤ A * B := ⟨Int.mul_nonneg hx.1 hy.1, Int.mul_le_mul hx.2 hy.2 hy.1 (by omega)⟩
/-- sums over those that are HOME -/
def sumL (H : Nat → Int) (g : Nat → Int64) : Nat → Int64
  | 0 => 0
  | n + 1 => if H n = -9 then sumL H g n else sumL H g n + g n
theorem sumL_congr {H H' : Nat → Int} {g g' : Nat → Int64} {n : Nat} (hH : ∀ i : Nat, i < n → H i = H' i) (hg : ∀ i : Nat, i < n → H i ≠ -9 → g i = g' i) : sumL H g n = sumL H' g' n := by
  induction n with
  | zero => rfl
  | succ n ih =>
    have h := ih (fun i hi => hH i (by omega)) (fun i hi => hg i (by omega))
    show (if H n = -9 then sumL H g n else sumL H g n + g n) = (if H' n = -9 then sumL H' g' n else sumL H' g' n + g' n)
    rw [h, ← hH n (by omega)]
    by_cases z : H n = -9
    · rw [if_pos z, if_pos z]
    · rw [if_neg z, if_neg z, hg n (by omega) z]
