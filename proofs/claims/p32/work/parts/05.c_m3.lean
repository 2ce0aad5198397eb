theorem npos {a c : Nat} (ha : a ≤ 12) (hc : c ≤ 12) (h : a ≤ c) : ¬ 0 < nI a - nI c := by
  intro h2
  have e1 := pk_sub_toInt (a := a) (b := c) (by omega) (by omega)
  have e2 := Int32.lt_iff_toInt_lt.mp h2
  rw [e1, Int32.toInt_zero] at e2
  omega
