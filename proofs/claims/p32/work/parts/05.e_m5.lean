theorem jst_out {t : Nat → Int32} {a m p i : Nat} (h : i < 58) (h5 : i ≠ 5) (hm : i ≠ a + m) : jst t a m p i = t i := by
  simp only [jst]
  by_cases hc : upd (upd (upd t (a + m) (nI (tn (t (a + m - 1))))) (58 + 10 * tn (t (a + m - 1)) + 3) (upd t (a + m) (nI (tn (t (a + m - 1)))) (58 + 10 * tn (t (a + m - 1)) + 3) + upd t (a + m) (nI (tn (t (a + m - 1)))) 8)) (58 + 10 * tn (t (a + m - 1)) + 7) (upd (upd t (a + m) (nI (tn (t (a + m - 1))))) (58 + 10 * tn (t (a + m - 1)) + 3) (upd t (a + m) (nI (tn (t (a + m - 1)))) (58 + 10 * tn (t (a + m - 1)) + 3) + upd t (a + m) (nI (tn (t (a + m - 1)))) 8) (58 + 10 * tn (t (a + m - 1)) + 7) + nI 1) (58 + 10 * p + 0) = nI 1
  · rw [ic_t hc]; simp only [upd_ap]; rw [if_neg h5, if_neg (by omega), if_neg (by omega), if_neg (by omega), if_neg hm]
  · rw [ic_f hc]; simp only [upd_ap]; rw [if_neg (by omega), if_neg (by omega), if_neg (by omega), if_neg hm]
theorem jTo_out {s : Nat → Int32} {a m p i : Nat} (h : i < 58) (h5 : i ≠ 5) : ∀ {k : Nat}, (∀ j, j < k → i ≠ a + (m - j)) → jTo s a m p k i = s i
  | 0, _ => rfl
  | k + 1, hk => by
    simp only [jTo]
    rw [jst_out h h5 (hk k (by omega)), jTo_out h h5 (fun j hj => hk j (by omega))]
