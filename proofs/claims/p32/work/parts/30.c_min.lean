/-! MINUTES keep the sums -/
section EXC
variable {B : Int} {x : Int32} {T : Nat} {c : Nat → Int32}
theorem pay_ex {t : Nat → Int32} {p : Nat} (h : Ex B x t) (h7 : Bd 50 (t 7)) (hp : p < tn (t 2)) : Ex (B + 50) x (payF t p) ∧ payF t p 7 = t 7 ∧ payF t p 2 = t 2 ∧ payF t p 0 = t 0 ∧ ∀ r, payF t p (58 + 10 * r + 8) = t (58 + 10 * r + 8) := by
  by_cases hd : Due t p
  · have e : payF t p = upd (upd (upd t (58 + 10 * p + 3) (t (58 + 10 * p + 3) + t 7)) (58 + 10 * p + 4) (t (58 + 10 * p + 4) + t 7)) 5 (t 5 + t 7) := by
      unfold payF
      rw [ic_t hd]
      simp only [payU, upd_ap, if_neg (show ¬ ((7 : Nat) = 58 + 10 * p + 3) by omega), if_neg (show ¬ ((7 : Nat) = 58 + 10 * p + 4) by omega), if_neg (show ¬ (58 + 10 * p + 4 = 58 + 10 * p + 3) by omega), if_neg (show ¬ ((5 : Nat) = 58 + 10 * p + 3) by omega), if_neg (show ¬ ((5 : Nat) = 58 + 10 * p + 4) by omega)]
    rw [e]
    have kh : ∀ i, i < 22 → i ≠ 5 → upd (upd (upd t (58 + 10 * p + 3) (t (58 + 10 * p + 3) + t 7)) (58 + 10 * p + 4) (t (58 + 10 * p + 4) + t 7)) 5 (t 5 + t 7) i = t i := fun i hi h5 => by
      simp only [upd_ap]
      rw [if_neg h5, if_neg (by omega), if_neg (by omega)]
    have k5h : upd (upd (upd t (58 + 10 * p + 3) (t (58 + 10 * p + 3) + t 7)) (58 + 10 * p + 4) (t (58 + 10 * p + 4) + t 7)) 5 (t 5 + t 7) 5 = t 5 + t 7 := by rw [upd_ap, if_pos rfl]
    have k3 : ∀ r, upd (upd (upd t (58 + 10 * p + 3) (t (58 + 10 * p + 3) + t 7)) (58 + 10 * p + 4) (t (58 + 10 * p + 4) + t 7)) 5 (t 5 + t 7) (58 + 10 * r + 3) = if r = p then t (58 + 10 * p + 3) + t 7 else t (58 + 10 * r + 3) := fun r => by
      simp only [upd_ap]
      rw [if_neg (by omega), if_neg (by omega)]
      by_cases z : r = p
      · rw [if_pos (by omega), if_pos z]
      · rw [if_neg (by omega), if_neg z]
    have k58 : ∀ r j, j = 5 ∨ j = 8 ∨ j = 7 → upd (upd (upd t (58 + 10 * p + 3) (t (58 + 10 * p + 3) + t 7)) (58 + 10 * p + 4) (t (58 + 10 * p + 4) + t 7)) 5 (t 5 + t 7) (58 + 10 * r + j) = t (58 + 10 * r + j) := fun r j hj => by
      simp only [upd_ap]
      rw [if_neg (by omega), if_neg (by omega), if_neg (by omega)]
    generalize upd (upd (upd t (58 + 10 * p + 3) (t (58 + 10 * p + 3) + t 7)) (58 + 10 * p + 4) (t (58 + 10 * p + 4) + t 7)) 5 (t 5 + t 7) = u at kh k5h k3 k58 ⊢
    obtain ⟨h1, h2, h3, h4, h5⟩ := h
    have s3 := sumI_1 (f := fun r => u (58 + 10 * r + 3)) (g := fun r => t (58 + 10 * r + 3)) (a := p) (n := tn (t 2)) (d := t 7) hp (fun r _ r1 => by show u (58 + 10 * r + 3) = t (58 + 10 * r + 3); rw [k3, if_neg r1]) (by show u (58 + 10 * p + 3) = t (58 + 10 * p + 3) + t 7; rw [k3, if_pos rfl])
    have s7 := sumI_congr (f := fun r => u (58 + 10 * r + 7)) (g := fun r => t (58 + 10 * r + 7)) (n := tn (t 2)) (fun r _ => k58 r 7 (Or.inr (Or.inr rfl)))
    refine ⟨?_, kh 7 (by omega) (by omega), kh 2 (by omega) (by omega), kh 0 (by omega) (by omega), fun r => k58 r 8 (Or.inr (Or.inl rfl))⟩
    unfold Ex
    rw [kh 1 (by omega) (by omega), kh 2 (by omega) (by omega), k5h, s3, s7, h3, h4]
    refine ⟨h1, fun r hr => by rw [k58 r 5 (Or.inl rfl)]; exact h2 r hr, rfl, rfl, fun r hr => ?_⟩
    rw [k3]
    by_cases z : r = p
    · rw [if_pos z]; exact (h5 p hp).add h7
    · rw [if_neg z]; exact (h5 r hr).mono (by omega)
  · have e : payF t p = t := by unfold payF; exact ic_f hd
    rw [e]
    exact ⟨h.mono (by omega), rfl, rfl, rfl, fun _ => rfl⟩
theorem payTo_ex {t : Nat → Int32} (h : Ex B x t) (h7 : Bd 50 (t 7)) : ∀ {k : Nat}, k ≤ tn (t 2) → Ex (B + 50 * (k : Int)) x (payTo t k) ∧ payTo t k 7 = t 7 ∧ payTo t k 2 = t 2 ∧ payTo t k 0 = t 0 ∧ ∀ r, payTo t k (58 + 10 * r + 8) = t (58 + 10 * r + 8)
  | 0, _ => ⟨h.mono (by omega), rfl, rfl, rfl, fun _ => rfl⟩
  | k + 1, hk => by
    obtain ⟨i1, i2, i3, i4, i5⟩ := payTo_ex h h7 (k := k) (by omega)
    obtain ⟨g1, g2, g3, g4, g5⟩ := pay_ex (p := k) i1 (by rw [i2]; exact h7) (by rw [i3]; omega)
    exact ⟨g1.mono (by omega), g2.trans i2, g3.trans i3, g4.trans i4, fun r => (g5 r).trans (i5 r)⟩
theorem Ex.minute (h : Ex B x c) (hI : Inv T c) (hT : T + 1 ≤ 1000000) : Ex (B + 1500) x (minuteS c) ∧ minuteS c 2 = c 2 ∧ minuteS c 0 = nI (tn (c 0) + 1) ∧ ∀ r, minuteS c (58 + 10 * r + 8) = c (58 + 10 * r + 8) := by
  have e1 : min1 c 1 = c 1 := min1_nf (by omega) (by omega)
  have hc := hI.cert hT
  have h30 := hI.np30
  have kh : ∀ i, i < 10 → min2 c i = min1 c i := fun i hi => hc.work_h hi (by rw [e1]; exact Nat.le_refl _)
  have kp : ∀ r j, j < 10 → j ≠ 1 → j ≠ 5 → min2 c (58 + 10 * r + j) = min1 c (58 + 10 * r + j) := fun r j hj h1 h5 => hc.work_pj hj h1 h5 (by rw [e1]; exact Nat.le_refl _)
  have k2 : min2 c 2 = c 2 := (kh 2 (by omega)).trans (min1_nf (by omega) (by omega))
  have hm : Ex B x (min2 c) := h.same (by rw [kh 1 (by omega), e1]; exact h.1) k2 ((kh 5 (by omega)).trans (min1_nf (by omega) (by omega))) (fun p hp => by
    rcases hc.work_st (q := p) (m := 0) (n := tn (c 1)) (Nat.zero_le _) (by rw [e1]; exact Nat.le_refl _) with q | q
    · exact Or.inl (q.trans (min1_nf (by omega) (by omega)))
    · exact Or.inr (Or.inl q)) (fun p hp => ⟨(kp p 3 (by omega) (by omega) (by omega)).trans (min1_nf (by omega) (by omega)), (kp p 7 (by omega) (by omega) (by omega)).trans (min1_nf (by omega) (by omega))⟩)
  have k7 : min2 c 7 = c 7 := (kh 7 (by omega)).trans (min1_nf (by omega) (by omega))
  have h50 := hI.fee50
  have b7 : Bd 50 (min2 c 7) := by rw [k7, hI.fee]; exact (Bd.n (by omega)).mono (by omega)
  obtain ⟨g1, g2, g3, g4, g5⟩ := payTo_ex hm b7 (k := tn (c 2)) (by rw [k2]; exact Nat.le_refl _)
  refine ⟨g1.mono (by omega), g3.trans k2, ?_, fun r => (g5 r).trans ((kp r 8 (by omega) (by omega) (by omega)).trans (min1_nf (by omega) (by omega)))⟩
  show payTo (min2 c) (tn (c 2)) 0 = _
  rw [g4, kh 0 (by omega), min1_0]
  have e0 := hI.now
  generalize tn (c 0) = w at e0 ⊢
  rw [e0, nI_add]
theorem Ex.goBy (h : Ex B x c) (hI : Inv T c) : ∀ {n : Nat}, T + n ≤ 1000000 → Ex (B + 1500 * (n : Int)) x (goByS c n) ∧ goByS c n 2 = c 2 ∧ goByS c n 0 = nI (tn (c 0) + n) ∧ ∀ r, goByS c n (58 + 10 * r + 8) = c (58 + 10 * r + 8)
  | 0, _ => ⟨h.mono (by omega), rfl, hI.now, fun _ => rfl⟩
  | n + 1, hT => by
    obtain ⟨i1, i2, i3, i4⟩ := Ex.goBy h hI (n := n) (by omega)
    obtain ⟨g1, g2, g3, g4⟩ := i1.minute (hI.goBy (n := n) (by omega)) (by omega)
    have hn := hI.nowT
    refine ⟨g1.mono (by omega), g2.trans i2, ?_, fun r => (g4 r).trans (i4 r)⟩
    show minuteS (goByS c n) 0 = _
    rw [g3, i3, tn_nI (by omega)]; rfl
end EXC
