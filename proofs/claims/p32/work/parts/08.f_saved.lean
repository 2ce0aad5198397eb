/-! WHAT A MERGING SAVES: the sum over those who stand is the sum over the lines -/
theorem Inv.merges_h {T : Nat} {s : Nat → Int32} {l o : Nat} (h : Inv T s) (hl : l < tn (s 1)) (ho : o < tn (s 1)) (hlo : l ≠ o) (hab : tn (s (13 + l)) + tn (s (13 + o)) ≤ 12) {i : Nat} (hi : i < 22) : mergesF s l o i = if i = 16 + o then nI 0 else if i = 13 + o then nI 0 else if i = 13 + l then nI (tn (s (13 + l)) + tn (s (13 + o))) else s i := by
  have hnl3 := h.nl3
  rw [h.merges_eq hl ho hlo hab]
  unfold srtS
  rw [rwF_out (by omega), mid_h h hl ho hlo hab (by omega)]
  split
  · rfl
  · split
    · rfl
    · split
      · rfl
      · rw [if_neg (by omega)]
