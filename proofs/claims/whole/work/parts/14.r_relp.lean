section RELP
variable {c s : Nat → Int32} {T : Nat}
theorem Rel.gainE (r : Rel c s) (h : Inv T s) {p q : Nat} (hp : p < tn (s 2)) (hq : q < tn (s 2)) (hm : MayX s p q) : gainI c p q = gainI s p q := by
  have h3 := h.nl3
  obtain ⟨a1, -, a3, -⟩ := h.plcs hp hm.1
  have hl12 := h.len12 a1
  have hlt := hm.2.2.2.1
  have r1 := r.exch h hp hq hm.1 hm.2.1
  have i1 := h.exch hp hq hm
  have e2 : exchS s p q 2 = s 2 := by unfold exchS; rw [exchF_row 2 (by omega) (by omega), if_neg (by omega), if_neg (by omega)]
  have e5 : exchS s p q (58 + 10 * p + 5) = 0 := by unfold exchS; rw [exchF_p (by omega) (by omega) (by omega) (by omega) (by omega)]; exact hm.1
  unfold gainI
  rw [r.waitE h hp hm.1, r1.waitE i1 (by rw [e2]; exact hp) e5, r.plcE h hp hm.1, r.plcE h hq hm.2.1, r.h (by omega : 8 < 10)]
theorem Rel.partE (r : Rel c s) (h : Inv T s) {p : Nat} (hp : p < tn (s 2)) : ∀ {n : Nat}, n ≤ tn (s 2) → partB c p n = partB s p n
  | 0, _ => rfl
  | n + 1, hn => by
    have h30 := h.np30
    have ih := Rel.partE r h hp (n := n) (by omega)
    show partStep c p n (partB c p n) = partStep s p n (partB s p n)
    rw [ih]
    unfold partStep
    rw [r.exchE h]
    by_cases q : exchFl s (nI p) (nI n) = 0
    · have hk := exch_ok h (by omega) (by omega) q
      rw [ic_t q, ic_t q, r.gainE h hk.1 hk.2.1 hk.2.2]
    · rw [ic_f q, ic_f q]
end RELP
