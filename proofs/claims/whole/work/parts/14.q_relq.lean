/-! THE QUERIES' ANSWERS ARE ALIKE -/
section RELQ
variable {c s : Nat → Int32} {T : Nat}
theorem Rel.waitE (r : Rel c s) (h : Inv T s) {p : Nat} (hp : p < tn (s 2)) (hq : s (58 + 10 * p + 5) = 0) : waitN c p = waitN s p := by
  obtain ⟨h1, -⟩ := h.plcs hp hq
  unfold waitN
  rw [r.li hp, r.plcE h hp hq, (r.L h1).1, (r.L h1).2.2.1]
theorem Rel.payQ (r : Rel c s) (h : Inv T s) {n p : Nat} (hp : p < tn (s 2)) : payN c n p = payN s n p := by
  unfold payN
  rw [r.P hp (j := 5) (by omega), r.h (by omega : 6 < 10), r.P hp (j := 2) (by omega)]
  by_cases q : s (58 + 10 * p + 5) = 0
  · rw [ic_t q, ic_t q, r.waitE h hp q]
  · rw [ic_f q, ic_f q]
theorem Rel.willE (r : Rel c s) (h : Inv T s) {n : Nat} : nI (sumN (payN c n) (tn (c 2))) * c 7 = nI (sumN (payN s n) (tn (s 2))) * s 7 := by
  rw [r.h (by omega : 2 < 10), r.h (by omega : 7 < 10), sumN_congr (fun i hi => r.payQ h hi)]
theorem Rel.longE (r : Rel c s) (h : Inv T s) : ∀ {n : Nat}, n ≤ tn (s 2) → longB c n = longB s n
  | 0, _ => rfl
  | n + 1, hn => by
    have ih := Rel.longE r h (n := n) (by omega)
    show longStep c n (longB c n) = longStep s n (longB s n)
    rw [ih]
    unfold longStep
    rw [r.P (p := n) (by omega) (j := 5) (by omega), r.P (p := n) (by omega) (j := 2) (by omega)]
    by_cases q : s (58 + 10 * n + 5) = 0
    · rw [ic_t q, ic_t q, r.waitE h (by omega) q]
    · rw [ic_f q, ic_f q]
theorem Rel.lineWE (r : Rel c s) {l : Nat} (hl : l < tn (s 1)) : lineW c l = lineW s l := by
  unfold lineW
  rw [(r.L hl).2.1, (r.L hl).1, (r.L hl).2.2.1]
theorem Rel.savedE (r : Rel c s) {l o : Nat} (hl : l < tn (s 1)) (ho : o < tn (s 1)) : savedI c l o = savedI s l o := by
  unfold savedI
  rw [r.lineWE hl, r.lineWE ho, (r.L hl).2.1, (r.L ho).2.1, (r.L hl).1, (r.L hl).2.2.1]
end RELQ
