theorem fb_rng (x : Int32) : -2147483648 ≤ x.toInt ∧ x.toInt < 2147483648 := by
  have h1 := Int32.le_toInt x
  have h2 := Int32.toInt_lt x
  omega
theorem fb_bmod {z : Int} (h1 : -2147483648 ≤ z) (h2 : z < 2147483648) : z.bmod (2 ^ 32) = z := by
  rw [Int.bmod_eq_of_le (by omega) (by omega)]
theorem fb_addI {x y : Int32} (h1 : -2147483648 ≤ x.toInt + y.toInt) (h2 : x.toInt + y.toInt < 2147483648) : (x + y).toInt = x.toInt + y.toInt := by
  rw [Int32.toInt_add, fb_bmod h1 h2]
theorem fb_subI {x y : Int32} (h1 : -2147483648 ≤ x.toInt - y.toInt) (h2 : x.toInt - y.toInt < 2147483648) : (x - y).toInt = x.toInt - y.toInt := by
  rw [Int32.toInt_sub, fb_bmod h1 h2]
theorem fb_mulI {x y : Int32} (h1 : -2147483648 ≤ x.toInt * y.toInt) (h2 : x.toInt * y.toInt < 2147483648) : (x * y).toInt = x.toInt * y.toInt := by
  rw [Int32.toInt_mul, fb_bmod h1 h2]
theorem ad_i {x a b : Int32} (h : x = a + b) (l : -2147483648 ≤ a.toInt + b.toInt) (u : a.toInt + b.toInt < 2147483648) : x.toInt = a.toInt + b.toInt := by rw [h, fb_addI l u]
theorem su_i {x a b : Int32} (h : x = a - b) (l : -2147483648 ≤ a.toInt - b.toInt) (u : a.toInt - b.toInt < 2147483648) : x.toInt = a.toInt - b.toInt := by rw [h, fb_subI l u]
theorem mu_i {x a b : Int32} (h : x = a * b) (l : -2147483648 ≤ a.toInt * b.toInt) (u : a.toInt * b.toInt < 2147483648) : x.toInt = a.toInt * b.toInt := by rw [h, fb_mulI l u]
