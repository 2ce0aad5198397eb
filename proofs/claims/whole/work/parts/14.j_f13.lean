/-- k paces one after another, until one is wrong: the position, and whether all are right -/
noncomputable def pacR (t : Nat → Int32) (lz q : Nat) : Nat → Nat × Prop | 0 => (q, True) | k + 1 => ic (pacR t lz q k).2 (paceN t lz (pacR t lz q k).1, paceB t lz (pacR t lz q k).1) (pacR t lz q k)
theorem paceN_le (t : Nat → Int32) (lz p : Nat) : paceN t lz p ≤ p + 2 := by
  have h1 := tkN_le t lz (loP t lz p) (hiP t lz p) (p + 1)
  unfold paceN
  by_cases h : tkB t lz (nI 48) (nI 50) p
  · rw [ic_t h]; omega
  · rw [ic_f h]; omega
theorem pacR_le (t : Nat → Int32) (lz q : Nat) : ∀ k, (pacR t lz q k).1 ≤ q + 2 * k
  | 0 => Nat.le_refl _
  | k + 1 => by
    have ih := pacR_le t lz q k
    have h1 := paceN_le t lz (pacR t lz q k).1
    show (ic (pacR t lz q k).2 (paceN t lz (pacR t lz q k).1, paceB t lz (pacR t lz q k).1) (pacR t lz q k)).1 ≤ _
    by_cases h : (pacR t lz q k).2
    · rw [ic_t h]; show paceN t lz (pacR t lz q k).1 ≤ _; omega
    · rw [ic_f h]; omega
theorem pacR_stay {t : Nat → Int32} {lz q : Nat} : ∀ {k j : Nat}, k ≤ j → ¬ (pacR t lz q k).2 → pacR t lz q j = pacR t lz q k
  | k, 0, h, hn => by obtain rfl : k = 0 := by omega
                      rfl
  | k, j + 1, h, hn => by
    by_cases e : k = j + 1
    · rw [e]
    · have ih := pacR_stay (k := k) (j := j) (by omega) hn
      show ic (pacR t lz q j).2 (paceN t lz (pacR t lz q j).1, paceB t lz (pacR t lz q j).1) (pacR t lz q j) = _
      rw [ih, ic_f hn]