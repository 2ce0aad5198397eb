theorem merge_ok {T : Nat} {s : Nat → Int32} (hI : Inv T s) {y o : Nat} (hy : y < 2 ^ 31) (ho : o < 2 ^ 31) (h : mergeFl s (nI y) (nI o) = 0) : y < tn (s 1) ∧ o < tn (s 1) ∧ y ≠ o ∧ tn (s (13 + y)) + tn (s (13 + o)) ≤ 12 := by
  have hf := mergeFl_0.mp h
  have h1 := hI.nl3
  rw [tn_nI hy, tn_nI ho] at hf
  exact ⟨(Rg_nI hy (by omega)).mp hf.1.1, (Rg_nI ho (by omega)).mp hf.1.2, fun e => hf.2.1 (congrArg nI e), hf.2.2⟩
/-- after w minutes, and not before, one who stood stands no more -/
def Turns (s : Nat → Int32) (p w : Nat) : Prop := (∀ k, k < w → goByS s k (58 + 10 * p + 5) = 0) ∧ ¬ goByS s w (58 + 10 * p + 5) = 0 ∧ ∀ k, k < w → ∃ T, Inv T (goByS s k)
