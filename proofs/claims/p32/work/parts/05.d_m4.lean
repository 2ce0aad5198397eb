theorem min1_out {s : Nat → Int32} {i : Nat} (h0 : i ≠ 0) (h : ∀ p, p < tn (s 2) → i ≠ 58 + 10 * p + 2) : min1 s i = s i := by
  unfold min1
  rw [certTo_out h, upd_ap, if_neg h0]
theorem wm {T : Nat} {s : Nat → Int32} (hI : Inv T s) {l i : Nat} (hl : l ≤ tn (s 1)) (h : Lc l i) (h0 : i ≠ 0) : workTo (min1 s) l i = s i := by
  have h3 := hI.nl3
  have e : ∀ j, j < 58 → j ≠ 0 → min1 s j = s j := fun j hj h0 => min1_out h0 (fun p _ => by omega)
  rw [workTo_out (by omega) h (fun k hk => by rw [e (13 + k) (by omega) (by omega)]; exact hI.len12 (by omega))]
  exact e i (by unfold Lc at h; omega) h0
