theorem Rel.bestE {c s : Nat → Int32} {T : Nat} (r : Rel c s) (h : Inv T s) : ∀ {n : Nat}, n ≤ tn (s 1) → bestB c n = bestB s n
  | 0, _ => rfl
  | n + 1, hn => by
    have h3 := h.nl3
    have ih := Rel.bestE r h (n := n) (by omega)
    show bestStep c n (bestB c n) = bestStep s n (bestB s n)
    rw [ih]
    unfold bestStep
    rw [r.come h]
    by_cases q : comeFl s (nI n) (nI 0) = 0
    · have hk := come_ok h (by omega) q
      have hL := r.L hk.1
      have e2 : c 2 = s 2 := r.h (by omega)
      have e1 : c 1 = s 1 := r.h (by omega)
      have ew : waitN (comesS c n 0) (tn (c 2)) = waitN (comesS s n 0) (tn (s 2)) := by
        rw [(r.inv h).waitC (by rw [e1]; exact hk.1) (by rw [e2]; exact hk.2.1) (by rw [hL.2.1]; exact hk.2.2), h.waitC hk.1 hk.2.1 hk.2.2, hL.1, hL.2.1, hL.2.2.1]
      rw [ic_t q, ic_t q, ew]
    · rw [ic_f q, ic_f q]
