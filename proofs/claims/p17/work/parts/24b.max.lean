theorem mx_k {x a b : Int32} {p q : Int} (h : x = if a < b then b else a) (ha : a.toInt = p) (hb : b.toInt = q) : x.toInt = max p q := by
  subst ha; subst hb
  rw [h]
  split
  · rename_i hc
    have := Int32.lt_iff_toInt_lt.mp hc
    omega
  · rename_i hc
    have : ¬ a.toInt < b.toInt := fun z => hc (Int32.lt_iff_toInt_lt.mpr z)
    omega
theorem mn_k {x a b : Int32} {p q : Int} (h : x = if b < a then b else a) (ha : a.toInt = p) (hb : b.toInt = q) : x.toInt = min p q := by
  subst ha; subst hb
  rw [h]
  split
  · rename_i hc
    have := Int32.lt_iff_toInt_lt.mp hc
    omega
  · rename_i hc
    have : ¬ b.toInt < a.toInt := fun z => hc (Int32.lt_iff_toInt_lt.mpr z)
    omega
