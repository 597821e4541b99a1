/-- the entry of one that is HOME, by the reference's row -/
def entM (Kha : Nat → Int32) (ga : Int) (i : Nat) : Int := if (Kha i).toInt = -9 then -9 else entryH ga (Kha i).toInt
theorem firstF_skip {E H : Nat → Int} {k : Nat} (z : H k = -9) : firstF E H (k + 1) = firstF E H k := by
  cases hq : firstF E H k with
  | none => exact firstF_none hq z
  | some b => exact firstF_no hq (fun y => y.1 z)
theorem tn_next {i j : Int32} (h0 : 0 ≤ i.toInt) (hj : j.toInt = i.toInt + 1) : j.toNatClampNeg = i.toNatClampNeg + 1 := by
  show j.toInt.toNat = i.toInt.toNat + 1
  omega
theorem first_step {E H : Nat → Int} {i j be bn : Int32} (h : be.toInt = optI (firstF E H i.toNatClampNeg)) (h0 : 0 ≤ i.toInt) (hj : j.toInt = i.toInt + 1) (hn : bn.toInt = if H i.toNatClampNeg = -9 then be.toInt else if be.toInt < 0 then i.toInt else if (E i.toNatClampNeg < E be.toNatClampNeg ∨ (E i.toNatClampNeg = E be.toNatClampNeg ∧ H i.toNatClampNeg < H be.toNatClampNeg)) then i.toInt else be.toInt) : bn.toInt = optI (firstF E H j.toNatClampNeg) := by
  have hi : (i.toNatClampNeg : Int) = i.toInt := Int.toNat_of_nonneg h0
  rw [tn_next h0 hj]
  by_cases z : H i.toNatClampNeg = -9
  · rw [if_pos z] at hn
    rw [firstF_skip z, hn, h]
  · rw [if_neg z] at hn
    cases hq : firstF E H i.toNatClampNeg with
    | none =>
      rw [hq] at h
      have h : be.toInt = -9 := h
      rw [firstF_new hq z, hn, if_pos (by omega)]
      exact hi.symm
    | some b =>
      rw [hq] at h
      have h : be.toInt = (b : Int) := h
      have e : be.toNatClampNeg = b := by
        show be.toInt.toNat = b
        omega
      rw [if_neg (by omega), e] at hn
      by_cases y : E i.toNatClampNeg < E b ∨ (E i.toNatClampNeg = E b ∧ H i.toNatClampNeg < H b)
      · rw [if_pos y] at hn
        rw [firstF_yes hq ⟨z, y⟩, hn]
        exact hi.symm
      · rw [if_neg y] at hn
        rw [firstF_no hq (fun w => y w.2), hn, h]
        rfl
theorem first_rng {E H : Nat → Int} {n : Nat} {be : Int32} (h : be.toInt = optI (firstF E H n)) : be.toInt = -9 ∨ (0 ≤ be.toInt ∧ be.toInt < (n : Int) ∧ H be.toNatClampNeg ≠ -9) := by
  cases hq : firstF E H n with
  | none =>
    rw [hq] at h
    exact Or.inl h
  | some b =>
    rw [hq] at h
    have h : be.toInt = (b : Int) := h
    obtain ⟨b1, b2⟩ := firstF_lt hq
    have e : be.toNatClampNeg = b := by
      show be.toInt.toNat = b
      omega
    rw [e]
    exact Or.inr ⟨by omega, by omega, b2⟩
theorem optI_pos {o : Option Nat} {x : Int32} {i : Int32} (h : x.toInt = optI o) (h0 : 0 ≤ i.toInt) (e : x.toInt = i.toInt) : o = some i.toNatClampNeg := by
  cases o with
  | none =>
    have h : x.toInt = -9 := h
    omega
  | some b =>
    have h : x.toInt = (b : Int) := h
    have e : i.toNatClampNeg = b := by
      show i.toInt.toNat = b
      omega
    rw [e]
theorem optI_neg {o : Option Nat} {x : Int32} {i : Int32} (h : x.toInt = optI o) (h0 : 0 ≤ i.toInt) (e : x.toInt ≠ i.toInt) : ¬ o = some i.toNatClampNeg := by
  intro z
  subst z
  have h : x.toInt = (i.toNatClampNeg : Int) := h
  have hi : (i.toNatClampNeg : Int) = i.toInt := Int.toNat_of_nonneg h0
  omega
theorem bef_step {E H C N : Nat → Int} {e s : Int} {i j x y : Int32} (h : x.toInt = befG E H C N e s i.toNatClampNeg) (h0 : 0 ≤ i.toInt) (hj : j.toInt = i.toInt + 1) (hn : y.toInt = x.toInt + (if H i.toNatClampNeg ≠ -9 ∧ (E i.toNatClampNeg < e ∨ (E i.toNatClampNeg = e ∧ N i.toNatClampNeg < s)) then C i.toNatClampNeg else 0)) : y.toInt = befG E H C N e s j.toNatClampNeg := by
  rw [tn_next h0 hj, hn, h]
  rfl
theorem sumL_skip {H : Nat → Int} {g : Nat → Int64} {i j : Int32} {x : Int64} (h : x = sumL H g i.toNatClampNeg) (h0 : 0 ≤ i.toInt) (hj : j.toInt = i.toInt + 1) (z : H i.toNatClampNeg = -9) : x = sumL H g j.toNatClampNeg := by
  rw [tn_next h0 hj, h]
  exact (if_pos z).symm
theorem sumL_take {H : Nat → Int} {g : Nat → Int64} {i j : Int32} {x y r : Int64} (h : x = sumL H g i.toNatClampNeg) (h0 : 0 ≤ i.toInt) (hj : j.toInt = i.toInt + 1) (z : ¬ H i.toNatClampNeg = -9) (hr : r = g i.toNatClampNeg) (hy : y = x + r) : y = sumL H g j.toNatClampNeg := by
  rw [tn_next h0 hj, hy, h, hr]
  exact (if_neg z).symm
theorem lm64 {a b : Int32} : a.toInt64 * b.toInt64 = Int64.ofInt (a.toInt * b.toInt) := by
  rw [Int64.ofInt_mul, Int64.ofInt_int32ToInt, Int64.ofInt_int32ToInt]
theorem lcmp_z {a : Int64} {x : Int32} (h : x = lg_cmp a 0) (hz : x = 0) : a = 0 := by
  subst h
  unfold lg_cmp at hz
  by_cases g : a > 0
  · rewrite [if_pos g] at hz; exact absurd hz (by decide)
  · rw [if_neg g] at hz
    by_cases e : a = 0
    · exact e
    · rewrite [if_neg e] at hz; exact absurd hz (by decide)
