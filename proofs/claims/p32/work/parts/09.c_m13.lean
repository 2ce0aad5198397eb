noncomputable def partStep (s : Nat → Int32) (p k : Nat) (r : Int32 × Int32) : Int32 × Int32 := ic (exchFl s (nI p) (nI k) = 0) (ic (r.1 = -1 ∨ r.2 < gainI s p k) (nI k, gainI s p k) r) r
noncomputable def partB (s : Nat → Int32) (p : Nat) : Nat → Int32 × Int32 | 0 => (-1, nI 0) | k + 1 => partStep s p k (partB s p k)
