/-! LINES THAT ARE NOT THERE YET STAY EMPTY -/
section ZL
variable {s : Nat → Int32} {T : Nat}
theorem Zl.keep {u : Nat → Int32} (hz : Zl s) (e1 : u 1 = s 1) (e : ∀ x y, tn (s 1) ≤ y → y < 3 → x = 13 + y ∨ x = 16 + y ∨ x = 19 + y → u x = s x) : Zl u := by
  intro y h1 h2
  rw [e1] at h1
  obtain ⟨a, b, d⟩ := hz y h1 h2
  exact ⟨(e _ y h1 h2 (Or.inl rfl)).trans a, (e _ y h1 h2 (Or.inr (Or.inl rfl))).trans b, (e _ y h1 h2 (Or.inr (Or.inr rfl))).trans d⟩
theorem Zl.comes (hz : Zl s) (h : Inv T s) {l k0 : Nat} (hl : l < tn (s 1)) : Zl (comesS s l k0) := by
  have h3 := h.nl3
  have e : ∀ x, x < 22 → x ≠ 2 → x ≠ 13 + l → comesS s l k0 x = s x := fun x h1 h2 h4 => by unfold comesS; rw [comesF_lo (by omega), if_neg h2, if_neg h4, if_neg (by omega)]
  exact hz.keep (e 1 (by omega) (by omega) (by omega)) (fun x y h1 h2 hx => e x (by omega) (by omega) (by omega))
theorem Zl.goes (hz : Zl s) (h : Inv T s) {p : Nat} (hp : p < tn (s 2)) (hq : s (58 + 10 * p + 5) = 0) : Zl (goesS s p) := by
  have h3 := h.nl3
  obtain ⟨a1, -, -, -⟩ := h.plcs hp hq
  refine hz.keep ?_ (fun x y h1 h2 hx => ?_)
  · unfold goesS; rw [lvF_h (by omega)]
  · unfold goesS
    rcases hx with hx | hx | hx
    · rw [hx, lvF_13 (by omega) h2, if_neg (by omega)]
    · rw [hx, lvF_16 (by omega) (by omega) (by omega)]
    · rw [hx, lvF_16 (by omega) (by omega) (by omega)]
theorem Zl.exch (hz : Zl s) (h : Inv T s) {p q : Nat} (hp : p < tn (s 2)) (hm : MayX s p q) : Zl (exchS s p q) := by
  have h3 := h.nl3
  obtain ⟨a1, -, a3, -⟩ := h.plcs hp hm.1
  have a12 := h.len12 a1
  refine hz.keep (exchS_1 h hp hm.1) (fun x y h1 h2 hx => ?_)
  unfold exchS
  rw [exchF_row x (by omega) (by omega), if_neg (by omega), if_neg (by omega)]
theorem Zl.jumps (hz : Zl s) (h : Inv T s) {p : Nat} (hp : p < tn (s 2)) (hq : s (58 + 10 * p + 5) = 0) : Zl (jumpsS s p) := by
  obtain ⟨h1, h2, h3, h4, -⟩ := h.plcs hp hq
  have hst : jsteps s p ≤ plc s p := Nat.min_le_left _ _
  have hn3 := h.nl3
  refine hz.keep (jumpsS_1 h hp hq) (fun x y z1 z2 hx => ?_)
  have hj : jmp s (22 + 12 * liN s p) (plc s p) p (jsteps s p) x = s x := by
    unfold jmp
    rw [upd_ap, if_neg (by omega), jTo_out (by omega) (by omega) (fun j hj9 => by omega)]
  have e : 22 + 12 * liN s p + plc s p - jsteps s p = 22 + 12 * liN s p + (plc s p - jsteps s p) := by omega
  unfold jumpsS jumpsF
  rw [e]
  show upd (upd (upd (jmp s (22 + 12 * liN s p) (plc s p) p (jsteps s p)) (58 + 10 * p + 7) _) (58 + 10 * p + 8) _) 4 _ x = _
  rw [upd_ap, if_neg (by omega), upd_ap, if_neg (by omega), upd_ap, if_neg (by omega)]
  exact hj
theorem Zl.merges (hz : Zl s) (h : Inv T s) {l o : Nat} (hl : l < tn (s 1)) (ho : o < tn (s 1)) (hlo : l ≠ o) (hab : tn (s (13 + l)) + tn (s (13 + o)) ≤ 12) : Zl (mergesF s l o) := by
  have h3 := h.nl3
  have e : ∀ x, x < 22 → x ≠ 16 + o → x ≠ 13 + o → x ≠ 13 + l → mergesF s l o x = s x := fun x h1 h2 h4 h5 => by rw [h.merges_h hl ho hlo hab h1, if_neg h2, if_neg h4, if_neg h5]
  exact hz.keep (e 1 (by omega) (by omega) (by omega) (by omega)) (fun x y h1 h2 hx => e x (by omega) (by omega) (by omega) (by omega))
theorem Inv.work_z {s : Nat → Int32} {T x y : Nat} (h : Inv T s) (hy : tn (s 1) ≤ y) (hy3 : y < 3) (hx : x = 13 + y ∨ x = 16 + y ∨ x = 19 + y) : ∀ {n : Nat}, n ≤ tn (s 1) → workTo s n x = s x
  | 0, _ => rfl
  | n + 1, h2 => by
    obtain ⟨i1, i2⟩ := h.workK (n := n) (by omega)
    exact (i1.wk_oth (y := n) (by rw [i2]; omega) (by omega) (by omega) (by omega) (by omega) (by omega)).trans (Inv.work_z h hy hy3 hx (by omega))
theorem Zl.minute (hz : Zl s) (h : Inv T s) (hT : T + 1 ≤ 1000000) : Zl (minuteS s) := by
  have e1 : min1 s 1 = s 1 := min1_nf (by omega) (by omega)
  refine hz.keep (h.min_h hT (by omega) (by omega) (by omega)) (fun x y h1 h2 hx => ?_)
  show payTo (workTo (min1 s) (tn (s 1))) _ x = _
  rw [payTo_out (fun p _ => by omega) (by omega), (h.cert hT).work_z (y := y) (by rw [e1]; exact h1) h2 hx (by rw [e1]; exact Nat.le_refl _), min1_nf (by omega) (by omega)]
theorem Zl.goBy (hz : Zl s) (h : Inv T s) : ∀ {n : Nat}, T + n ≤ 1000000 → Zl (goByS s n)
  | 0, _ => hz
  | n + 1, hn => (Zl.goBy hz h (n := n) (by omega)).minute (h.goBy (n := n) (by omega)) (by omega)
theorem Zl.addLine (hz : Zl s) (hl3 : tn (s 1) < 3) (x : Int32) : Zl (upd (upd s (10 + tn (s 1)) x) 1 (nI (tn (s 1) + 1))) := by
  intro y h1 h2
  rw [upd_ap, if_pos rfl, tn_nI (by omega)] at h1
  obtain ⟨a, b, d⟩ := hz y (by omega) h2
  refine ⟨?_, ?_, ?_⟩
  · rw [upd_ap, if_neg (by omega), upd_ap, if_neg (by omega)]; exact a
  · rw [upd_ap, if_neg (by omega), upd_ap, if_neg (by omega)]; exact b
  · rw [upd_ap, if_neg (by omega), upd_ap, if_neg (by omega)]; exact d
theorem Zl.setV (hz : Zl s) {k : Nat} (hk : k < 4) (v : Int32) : Zl (upd s (6 + k) v) := by
  refine hz.keep (by rw [upd_ap, if_neg (by omega)]) (fun x y h1 h2 hx => by rw [upd_ap, if_neg (by omega)])
end ZL
