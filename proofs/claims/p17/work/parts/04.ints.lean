theorem fb_rng (x : Int32) : -2147483648 ≤ x.toInt ∧ x.toInt < 2147483648 := by
  have h1 := Int32.le_toInt x
  have h2 := Int32.toInt_lt x
  omega
theorem fb_bmod {z : Int} (h1 : -2147483648 ≤ z) (h2 : z < 2147483648) : z.bmod (2 ^ 32) = z := by
  rw [Int.bmod_eq_of_le (by omega) (by omega)]
theorem fb_addI {x y : Int32} (h1 : -2147483648 ≤ x.toInt + y.toInt) (h2 : x.toInt + y.toInt < 2147483648) : (x + y).toInt = x.toInt + y.toInt := by
  rw [Int32.toInt_add, fb_bmod h1 h2]
theorem fb_subI {x y : Int32} (h1 : -2147483648 ≤ x.toInt - y.toInt) (h2 : x.toInt - y.toInt < 2147483648) : (x - y).toInt = x.toInt - y.toInt := by
  rw [Int32.toInt_sub, fb_bmod h1 h2]
theorem fb_mulI {x y : Int32} (h1 : -2147483648 ≤ x.toInt * y.toInt) (h2 : x.toInt * y.toInt < 2147483648) : (x * y).toInt = x.toInt * y.toInt := by
  rw [Int32.toInt_mul, fb_bmod h1 h2]
theorem fb_negI {x : Int32} (h : -2147483648 < x.toInt) : (-x).toInt = -x.toInt := by
  have := fb_rng x
  rw [Int32.toInt_neg, fb_bmod (by omega) (by omega)]
/-! numbers of the machine as integers: an instruction, a row -/
theorem ad_k {x a b : Int32} {p q : Int} (h : x = a + b) (ha : a.toInt = p) (hb : b.toInt = q) (l : -2147483648 ≤ p + q) (u : p + q < 2147483648) : x.toInt = p + q := by
  subst ha; subst hb; rw [h, fb_addI l u]
theorem su_k {x a b : Int32} {p q : Int} (h : x = a - b) (ha : a.toInt = p) (hb : b.toInt = q) (l : -2147483648 ≤ p - q) (u : p - q < 2147483648) : x.toInt = p - q := by
  subst ha; subst hb; rw [h, fb_subI l u]
theorem mu_k {x a b : Int32} {p q : Int} (h : x = a * b) (ha : a.toInt = p) (hb : b.toInt = q) (l : -2147483648 ≤ p * q) (u : p * q < 2147483648) : x.toInt = p * q := by
  subst ha; subst hb; rw [h, fb_mulI l u]
theorem ng_k {x a : Int32} {p : Int} (h : x = -a) (ha : a.toInt = p) (l : -2147483648 < p) : x.toInt = -p := by
  subst ha; rw [h, fb_negI l]
theorem dv_ne {b : Int32} {k : Int} (hb : b.toInt = k) (hk : 0 < k) : b ≠ -1 := by
  intro e
  rw [e] at hb
  have : (-1 : Int32).toInt = -1 := by decide
  omega
theorem dv_k {x a b : Int32} {p k : Int} (h : x = a / b) (ha : a.toInt = p) (hb : b.toInt = k) (hk : 0 < k) (l : 0 ≤ p) : x.toInt = p / k := by
  subst ha
  rw [h, Int32.toInt_div_of_ne_right _ _ (dv_ne hb hk), hb, Int.tdiv_eq_ediv_of_nonneg l]
theorem rm_k {x a b : Int32} {p k : Int} (h : x = a - a / b * b) (ha : a.toInt = p) (hb : b.toInt = k) (hk : 0 < k) (l : 0 ≤ p) : x.toInt = p % k := by
  have hd : (a / b).toInt = p / k := dv_k rfl ha hb hk l
  have h1 : p / k * k + p % k = p := by
    have := Int.mul_ediv_add_emod p k
    rw [Int.mul_comm] at this
    exact this
  have h2 : 0 ≤ p % k := Int.emod_nonneg _ (by omega)
  have h3 : 0 ≤ p / k * k := Int.mul_nonneg (Int.ediv_nonneg l (by omega)) (by omega)
  have hr := fb_rng a
  have hm : (a / b * b).toInt = p / k * k := by
    rw [fb_mulI (by rw [hd, hb]; omega) (by rw [hd, hb]; omega), hd, hb]
  rw [h, fb_subI (by rw [hm]; omega) (by rw [hm]; omega), hm]
  omega
theorem lt_k {a b : Int32} {p q : Int} (ha : a.toInt = p) (hb : b.toInt = q) (h : a < b) : p < q := by
  subst ha; subst hb; exact Int32.lt_iff_toInt_lt.mp h
theorem nlt_k {a b : Int32} {p q : Int} (ha : a.toInt = p) (hb : b.toInt = q) (h : ¬ a < b) : q ≤ p := by
  subst ha; subst hb; exact Int.not_lt.mp (fun z => h (Int32.lt_iff_toInt_lt.mpr z))
theorem le_k {a b : Int32} {p q : Int} (ha : a.toInt = p) (hb : b.toInt = q) (h : a ≤ b) : p ≤ q := by
  subst ha; subst hb; exact Int32.le_iff_toInt_le.mp h
theorem nle_k {a b : Int32} {p q : Int} (ha : a.toInt = p) (hb : b.toInt = q) (h : ¬ a ≤ b) : q < p := by
  subst ha; subst hb; exact Int.not_le.mp (fun z => h (Int32.le_iff_toInt_le.mpr z))
theorem eq_k {a b : Int32} {p q : Int} (ha : a.toInt = p) (hb : b.toInt = q) (h : a = b) : p = q := by
  subst ha; subst hb; rw [h]
theorem ne_k {a b : Int32} {p q : Int} (ha : a.toInt = p) (hb : b.toInt = q) (h : ¬ a = b) : p ≠ q := by
  subst ha; subst hb; exact fun z => h (Int32.toInt_inj.mp z)
/-- a row of numbers that all lie between two bounds -/
def Rg (n : Nat) (lo hi : Int) (f : Nat → Int32) : Prop := ∀ j, j < n → lo ≤ (f j).toInt ∧ (f j).toInt ≤ hi
theorem Rg.at {n : Nat} {lo hi : Int} {f : Nat → Int32} (h : Rg n lo hi f) {i : Int32} {p : Int} (hi' : i.toInt = p) (l : 0 ≤ p) (u : p < n) {x : Int32} (hx : x = f i.toNatClampNeg) : lo ≤ x.toInt ∧ x.toInt ≤ hi := by
  subst hi'
  rw [hx]
  exact h _ (by show i.toInt.toNat < n; omega)
theorem Rg.st {n : Nat} {lo hi : Int} {f : Nat → Int32} (h : Rg n lo hi f) {k : Nat} {v : Int32} {p : Int} (hv : v.toInt = p) (l : lo ≤ p) (u : p ≤ hi) : Rg n lo hi (upd f k v) := by
  intro j hj
  unfold upd
  split
  · rw [hv]; exact ⟨l, u⟩
  · exact h j hj
theorem Rg.mono {n n' : Nat} {lo hi lo' hi' : Int} {f : Nat → Int32} (h : Rg n lo hi f) (hn : n' ≤ n) (h1 : lo' ≤ lo) (h2 : hi ≤ hi') : Rg n' lo' hi' f := fun j hj => by
  have := h j (by omega)
  omega
theorem Rg.zero {n : Nat} {lo hi : Int} (h1 : lo ≤ 0) (h2 : 0 ≤ hi) : Rg n lo hi (fun _ => 0) := fun j _ => by
  show lo ≤ (0 : Int32).toInt ∧ (0 : Int32).toInt ≤ hi
  have : (0 : Int32).toInt = 0 := by decide
  omega
theorem tn_k {i : Int32} {p : Int} (h : i.toInt = p) (l : 0 ≤ p) : (i.toNatClampNeg : Int) = p := by
  subst h
  show ((i.toInt.toNat : Nat) : Int) = _
  omega
theorem in_k {i : Int32} {n : Nat} {p : Int} (h : i.toInt = p) (l : 0 ≤ p) (u : p < n) : vp_in i n := vp_in_iff.mpr (by rw [h]; exact ⟨l, u⟩)
theorem mu_b {x a b : Int32} {p q : Int} (h : x = a * b) (a0 : 0 ≤ a.toInt) (a1 : a.toInt ≤ p) (b0 : 0 ≤ b.toInt) (b1 : b.toInt ≤ q) (u : p * q < 2147483648) : 0 ≤ x.toInt ∧ x.toInt ≤ p * q := by
  have h0 : 0 ≤ a.toInt * b.toInt := Int.mul_nonneg a0 b0
  have h1 : a.toInt * b.toInt ≤ p * q := Int.mul_le_mul a1 b1 b0 (by omega)
  rw [h, fb_mulI (by omega) (by omega)]
  exact ⟨h0, h1⟩
theorem fill_step {w K : Nat → Int32} {lo k : Int} {v x : Int32} {k' : Int} (h : ∀ j : Nat, w j = if (lo ≤ (j : Int) ∧ (j : Int) < lo + k) then v else K j) (hlo : 0 ≤ lo) (hk : 0 ≤ k) (hx : x.toInt = lo + k) (hk' : k' = k + 1) : ∀ j : Nat, upd w x.toNatClampNeg v j = if (lo ≤ (j : Int) ∧ (j : Int) < lo + k') then v else K j := by
  intro j
  have hn : (x.toNatClampNeg : Int) = lo + k := tn_k hx (by omega)
  unfold upd
  by_cases e : j = x.toNatClampNeg
  · rw [if_pos e, if_pos (by omega)]
  · rw [if_neg e, h j]
    by_cases e2 : lo ≤ (j : Int) ∧ (j : Int) < lo + k
    · rw [if_pos e2, if_pos (by omega)]
    · rw [if_neg e2, if_neg (by omega)]
/-- the same, with -9 (none) beside the bounds -/
def Rn (n : Nat) (lo hi : Int) (f : Nat → Int32) : Prop := ∀ j, j < n → (f j).toInt = -9 ∨ (lo ≤ (f j).toInt ∧ (f j).toInt ≤ hi)
theorem Rn.at {n : Nat} {lo hi : Int} {f : Nat → Int32} (h : Rn n lo hi f) {i : Int32} {p : Int} (hi' : i.toInt = p) (l : 0 ≤ p) (u : p < n) {x : Int32} (hx : x = f i.toNatClampNeg) : x.toInt = -9 ∨ (lo ≤ x.toInt ∧ x.toInt ≤ hi) := by
  subst hi'
  rw [hx]
  exact h _ (by show i.toInt.toNat < n; omega)
theorem Rn.st {n : Nat} {lo hi : Int} {f : Nat → Int32} (h : Rn n lo hi f) {k : Nat} {v : Int32} {p : Int} (hv : v.toInt = p) (l : p = -9 ∨ (lo ≤ p ∧ p ≤ hi)) : Rn n lo hi (upd f k v) := by
  intro j hj
  unfold upd
  split
  · rw [hv]; exact l
  · exact h j hj
theorem Rn.mono {n n' : Nat} {lo hi lo' hi' : Int} {f : Nat → Int32} (h : Rn n lo hi f) (hn : n' ≤ n) (h1 : lo' ≤ lo) (h2 : hi ≤ hi') : Rn n' lo' hi' f := fun j hj => by
  have := h j (by omega)
  omega
theorem upd_at (f : Nat → Int32) (k : Nat) (v : Int32) : upd f k v k = v := by simp [upd]
theorem upd_off (f : Nat → Int32) {k j : Nat} (v : Int32) (h : j ≠ k) : upd f k v j = f j := by simp [upd, h]
theorem Rg.of1 {n : Nat} {lo hi : Int} {w K : Nat → Int32} {i : Nat} (h : Rg n lo hi K) (ho : ∀ j : Nat, j ≠ i → w j = K j) (l : lo ≤ (w i).toInt) (u : (w i).toInt ≤ hi) : Rg n lo hi w := fun j hj => by
  by_cases e : j = i
  · subst e; exact ⟨l, u⟩
  · rw [ho j e]; exact h j hj
theorem off_step {w K : Nat → Int32} {i : Nat} {v : Int32} (ho : ∀ j : Nat, j ≠ i → w j = K j) : ∀ j : Nat, j ≠ i → upd w i v j = K j := fun j hj => by rw [upd_off w v hj]; exact ho j hj
theorem lcmp_ne {a b : Int64} {x : Int32} (h : x = lg_cmp a b) (hn : ¬ x = 0) : ¬ a = b := by
  intro e
  subst e
  apply hn
  rw [h]
  simp [lg_cmp]
/-- how many of the first n are 0 -/
def unset (f : Nat → Int32) : Nat → Nat
  | 0 => 0
  | n + 1 => unset f n + (if f n = 0 then 1 else 0)
theorem unset_le (f : Nat → Int32) (n : Nat) : unset f n ≤ n := by
  induction n with
  | zero => exact Nat.le_refl 0
  | succ n ih => unfold unset; split <;> omega
theorem unset_off {f g : Nat → Int32} {n : Nat} (h : ∀ j, j < n → g j = f j) : unset g n = unset f n := by
  induction n with
  | zero => rfl
  | succ n ih => unfold unset; rw [ih (fun j hj => h j (by omega)), h n (by omega)]
theorem unset_upd {f : Nat → Int32} {k n : Nat} {v : Int32} (hk : k < n) (h0 : f k = 0) (hv : ¬ v = 0) : unset (upd f k v) n + 1 = unset f n := by
  induction n with
  | zero => omega
  | succ n ih =>
    unfold unset
    by_cases e : k = n
    · subst e
      rw [upd_at, if_neg hv, if_pos h0, unset_off (fun j hj => upd_off f v (by omega))]
    · rw [upd_off f v (fun z => e z.symm)]
      have := ih (by omega)
      omega
theorem wro6 {K : Nat → Int32} {i0 i1 i2 i3 i4 i5 : Nat} {v0 v1 v2 v3 v4 v5 : Int32} {b : Int} (h : ∀ j : Nat, j < 960 → j % 6 = 5 → 0 ≤ (K j).toInt ∧ (K j).toInt ≤ 7) (e0 : (i0 : Int) = b + 0) (e1 : (i1 : Int) = b + 1) (e2 : (i2 : Int) = b + 2) (e3 : (i3 : Int) = b + 3) (e4 : (i4 : Int) = b + 4) (e5 : (i5 : Int) = b + 5) (hb : b % 6 = 0) (l : 0 ≤ v5.toInt) (u : v5.toInt ≤ 7) : ∀ j : Nat, j < 960 → j % 6 = 5 → 0 ≤ (upd (upd (upd (upd (upd (upd K i0 v0) i1 v1) i2 v2) i3 v3) i4 v4) i5 v5 j).toInt ∧ (upd (upd (upd (upd (upd (upd K i0 v0) i1 v1) i2 v2) i3 v3) i4 v4) i5 v5 j).toInt ≤ 7 := by
  intro j hj hm
  by_cases c : j = i5
  · rw [c, upd_at]; exact ⟨l, u⟩
  · rw [upd_off _ _ c, upd_off _ _ (by omega), upd_off _ _ (by omega), upd_off _ _ (by omega), upd_off _ _ (by omega), upd_off _ _ (by omega)]
    exact h j hj hm
theorem zero_step {w : Nat → Int32} {k k' : Int} {x v : Int32} (h : ∀ j : Nat, (j : Int) < k → w j = 0) (hx : x.toInt = k) (hv : v = 0) (hk : k' = k + 1) : ∀ j : Nat, (j : Int) < k' → upd w x.toNatClampNeg v j = 0 := by
  intro j hj
  by_cases e : j = x.toNatClampNeg
  · rw [e, upd_at, hv]
  · rw [upd_off _ _ e]
    have hn : ((x.toNatClampNeg : Nat) : Int) = max x.toInt 0 := by
      show ((x.toInt.toNat : Nat) : Int) = _
      omega
    exact h j (by omega)
theorem rng_step {w : Nat → Int32} {k k' lo hi : Int} {x v : Int32} (h : ∀ j : Nat, (j : Int) < k → lo ≤ (w j).toInt ∧ (w j).toInt ≤ hi) (hx : x.toInt = k) (hk : k' = k + 1) (l : lo ≤ v.toInt) (u : v.toInt ≤ hi) : ∀ j : Nat, (j : Int) < k' → lo ≤ (upd w x.toNatClampNeg v j).toInt ∧ (upd w x.toNatClampNeg v j).toInt ≤ hi := by
  intro j hj
  by_cases e : j = x.toNatClampNeg
  · rw [e, upd_at]; exact ⟨l, u⟩
  · rw [upd_off _ _ e]
    have hn : ((x.toNatClampNeg : Nat) : Int) = max x.toInt 0 := by
      show ((x.toInt.toNat : Nat) : Int) = _
      omega
    exact h j (by omega)
theorem upd_le {w : Nat → Int32} {k i : Nat} {v : Int32} {B : Int} (h : (w i).toInt ≤ B) (hv : v.toInt ≤ (w k).toInt) : (upd w k v i).toInt ≤ B := by
  by_cases e : i = k
  · subst e; rw [upd_at]; omega
  · rw [upd_off _ _ e]; exact h
theorem i8_rng {x a : Int32} (h : x = a.toInt8.toInt32) : -128 ≤ x.toInt ∧ x.toInt ≤ 127 := by
  have h1 := Int8.le_toInt a.toInt8
  have h2 := Int8.toInt_lt a.toInt8
  rw [h, Int8.toInt_toInt32]
  omega
theorem zl1 : (-1 : Int32).toInt = -1 := by decide
theorem zl2 : (-2 : Int32).toInt = -2 := by decide
theorem zl3 : (-3 : Int32).toInt = -3 := by decide
theorem zl4 : (-4 : Int32).toInt = -4 := by decide
theorem zl9 : (-9 : Int32).toInt = -9 := by decide
/-- what a ship needs to the next cell in a way -/
def mNeed (w : Int32) : Int32 := if w - w / 2 * 2 = 0 then 60 else 85
def windB (x : Int32) : Int := if 0 ≤ x.toInt ∧ x.toInt ≤ 79 then x.toInt else 0
def absI (x : Int) : Int := if x < 0 then -x else x
theorem xor_nn {x y z : Int32} (e : z = x ^^^ y) (hx : 0 ≤ x.toInt) (hy : 0 ≤ y.toInt) : 0 ≤ z.toInt := by
  have h1 : x.toBitVec.msb = false := by
    rw [BitVec.msb_eq_toInt]
    exact decide_eq_false (by show ¬ x.toInt < 0; omega)
  have h2 : y.toBitVec.msb = false := by
    rw [BitVec.msb_eq_toInt]
    exact decide_eq_false (by show ¬ y.toInt < 0; omega)
  have h3 : z.toBitVec.msb = false := by
    subst e
    rw [Int32.toBitVec_xor, BitVec.msb_xor, h1, h2]
    rfl
  rw [BitVec.msb_eq_toInt] at h3
  have h4 := of_decide_eq_false h3
  show 0 ≤ z.toBitVec.toInt
  omega
theorem xor_ng {x y z : Int32} (e : z = x ^^^ y) (hx : x.toInt < 0) (hy : 0 ≤ y.toInt) : z.toInt < 0 := by
  have h1 : x.toBitVec.msb = true := by
    rw [BitVec.msb_eq_toInt]
    exact decide_eq_true (by show x.toInt < 0; omega)
  have h2 : y.toBitVec.msb = false := by
    rw [BitVec.msb_eq_toInt]
    exact decide_eq_false (by show ¬ y.toInt < 0; omega)
  have h3 : z.toBitVec.msb = true := by
    subst e
    rw [Int32.toBitVec_xor, BitVec.msb_xor, h1, h2]
    rfl
  rw [BitVec.msb_eq_toInt] at h3
  have h4 := of_decide_eq_true h3
  show z.toBitVec.toInt < 0
  omega
theorem rm_neg {x a b : Int32} (h : x = a - a / b * b) (hb : 0 < b.toInt) (l : a.toInt < 0) : -b.toInt < x.toInt ∧ x.toInt ≤ 0 ∧ ∃ q : Int, a.toInt = x.toInt + b.toInt * q := by
  have hr := fb_rng a
  have hd : (a / b).toInt = -((-a.toInt) / b.toInt) := by
    rw [Int32.toInt_div_of_ne_right _ _ (dv_ne rfl hb)]
    generalize ha : -a.toInt = n
    have h5 : a.toInt = -n := by omega
    rw [h5, Int.neg_tdiv, Int.tdiv_eq_ediv_of_nonneg (by omega)]
  have hm : (a / b * b).toInt = -((-a.toInt) / b.toInt * b.toInt) := by
    have h1 : (-a.toInt) / b.toInt * b.toInt + (-a.toInt) % b.toInt = -a.toInt := by
      have := Int.mul_ediv_add_emod (-a.toInt) b.toInt
      rw [Int.mul_comm] at this
      exact this
    have h2 : 0 ≤ (-a.toInt) % b.toInt := Int.emod_nonneg _ (by omega)
    have h3 : 0 ≤ (-a.toInt) / b.toInt * b.toInt := Int.mul_nonneg (Int.ediv_nonneg (by omega) (by omega)) (by omega)
    rw [fb_mulI (by rw [hd, Int.neg_mul]; omega) (by rw [hd, Int.neg_mul]; omega), hd, Int.neg_mul]
  have h1 : (-a.toInt) / b.toInt * b.toInt + (-a.toInt) % b.toInt = -a.toInt := by
    have := Int.mul_ediv_add_emod (-a.toInt) b.toInt
    rw [Int.mul_comm] at this
    exact this
  have h2 : 0 ≤ (-a.toInt) % b.toInt := Int.emod_nonneg _ (by omega)
  have h4 : (-a.toInt) % b.toInt < b.toInt := Int.emod_lt_of_pos _ hb
  have h3 : 0 ≤ (-a.toInt) / b.toInt * b.toInt := Int.mul_nonneg (Int.ediv_nonneg (by omega) (by omega)) (by omega)
  have hx : x.toInt = a.toInt - (-((-a.toInt) / b.toInt * b.toInt)) := by
    rw [h, fb_subI (by rw [hm]; omega) (by rw [hm]; omega), hm]
  refine ⟨by omega, by omega, -((-a.toInt) / b.toInt), ?_⟩
  rw [Int.mul_neg, Int.mul_comm]
  omega
theorem fm_of {a b r q : Int} (h : a = r + b * q) (h0 : 0 ≤ r) (h1 : r < b) : r = a % b := by
  rw [h, Int.add_mul_emod_self_left, Int.emod_eq_of_lt h0 h1]
/-- Math.floorMod: nothing added -/
theorem fm_a {x a b z : Int32} (h : x = a - a / b * b) (hb : 0 < b.toInt) (ez : z = a ^^^ b) (hz : 0 ≤ z.toInt ∨ x.toInt = 0) : x.toInt = a.toInt % b.toInt := by
  by_cases l : 0 ≤ a.toInt
  · exact rm_k h rfl rfl hb l
  · obtain ⟨h1, h2, q, h3⟩ := rm_neg h hb (by omega)
    have h4 := xor_ng ez (by omega) (by omega)
    exact fm_of h3 (by omega) (by omega)
/-- Math.floorMod: the modulus added -/
theorem fm_b {x a b z r : Int32} (h : x = a - a / b * b) (hb : 0 < b.toInt) (ez : z = a ^^^ b) (hz : z.toInt < 0) (hx : x.toInt ≠ 0) (er : r = x + b) : r.toInt = a.toInt % b.toInt := by
  by_cases l : 0 ≤ a.toInt
  · have := xor_nn ez l (by omega)
    omega
  · obtain ⟨h1, h2, q, h3⟩ := rm_neg h hb (by omega)
    have hb2 := fb_rng b
    have h5 : r.toInt = x.toInt + b.toInt := ad_k er rfl rfl (by omega) (by omega)
    refine fm_of (q := q - 1) ?_ (by omega) (by omega)
    rw [Int.mul_sub, h5]
    omega
def ewF (w : Int) : Int := if 1 ≤ w ∧ w ≤ 3 then 1 else if 5 ≤ w ∧ w ≤ 7 then -1 else 0
def snF (w : Int) : Int := if 3 ≤ w ∧ w ≤ 5 then 1 else if w = 0 ∨ w = 1 ∨ w = 7 then -1 else 0
/-- the cell that lies next in a way; -9: land, or beyond -/
def nextF (Lc : Nat → Int32) (c w : Int) : Int := if (0 ≤ c % 16 + ewF w ∧ c % 16 + ewF w ≤ 15) ∧ (0 ≤ c / 16 + snF w ∧ c / 16 + snF w ≤ 9) ∧ (Lc (16 * (c / 16 + snF w) + (c % 16 + ewF w)).toNat).toInt = 0 then 16 * (c / 16 + snF w) + (c % 16 + ewF w) else -9
theorem six_upd {K : Nat → Int32} {i0 i1 i2 i3 i4 i5 : Nat} {v0 v1 v2 v3 v4 v5 : Int32} {b : Int} {c : Nat} (e0 : (i0 : Int) = b + 0) (e1 : (i1 : Int) = b + 1) (e2 : (i2 : Int) = b + 2) (e3 : (i3 : Int) = b + 3) (e4 : (i4 : Int) = b + 4) (e5 : (i5 : Int) = b + 5) (hc : (c : Int) = b) : ∀ j : Nat, upd (upd (upd (upd (upd (upd K i0 v0) i1 v1) i2 v2) i3 v3) i4 v4) i5 v5 j = if c ≤ j ∧ j < c + 6 then ([v0, v1, v2, v3, v4, v5] : List Int32).getD (j - c) 0 else K j := by
  intro j
  by_cases z : c ≤ j ∧ j < c + 6
  · rw [if_pos z]
    obtain ⟨d, rfl⟩ : ∃ d, j = c + d := ⟨j - c, by omega⟩
    have h0 : i0 = c := by omega
    have h1 : i1 = c + 1 := by omega
    have h2 : i2 = c + 2 := by omega
    have h3 : i3 = c + 3 := by omega
    have h4 : i4 = c + 4 := by omega
    have h5 : i5 = c + 5 := by omega
    subst h0 h1 h2 h3 h4 h5
    rw [show i0 + d - i0 = d by omega]
    rcases (show d = 0 ∨ d = 1 ∨ d = 2 ∨ d = 3 ∨ d = 4 ∨ d = 5 by omega) with r | r | r | r | r | r <;> subst r <;> simp [upd]
  · rw [if_neg z, upd_off _ _ (by omega), upd_off _ _ (by omega), upd_off _ _ (by omega), upd_off _ _ (by omega), upd_off _ _ (by omega), upd_off _ _ (by omega)]
