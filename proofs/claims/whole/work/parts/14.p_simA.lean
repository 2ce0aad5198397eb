/-- a simulation's answer, of the class and of the reference -/
theorem Rel.simA {c s : Nat → Int32} {T k : Nat} (r : Rel c s) (h : Inv T s) (hl : 1 ≤ tn (s 1)) (x : Int64) (hk : T + k ≤ 1000000) : nI (1000 * simCN c x k) + (if simC c x k 5 - c 5 < nI 999 then simC c x k 5 - c 5 else nI 999) = simI s x k := by
  obtain ⟨r1, r2⟩ := Rel.simE r h hl x (k := k) hk
  have e5 : simC c x k 5 = simS s x k 5 := r1.h (by omega)
  have e6 : c 5 = s 5 := r.h (by omega)
  unfold simI
  rw [r2, e5, e6]
  generalize simS s x k 5 - s 5 = d
  by_cases h1 : d < nI 999
  · rw [if_pos h1, if_neg (fun z => Int32.not_le.mpr z (Int32.le_of_lt h1))]
  · rw [if_neg h1]
    by_cases h2 : nI 999 < d
    · rw [if_pos h2]
    · rw [if_neg h2, Int32.le_antisymm (Int32.not_lt.mp h2) (Int32.not_lt.mp h1)]
