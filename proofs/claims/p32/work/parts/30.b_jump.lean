/-! A JUMP keeps the sums -/
section EXB
variable {B : Int} {x : Int32} {T : Nat} {c : Nat → Int32}
theorem jst_cases {t : Nat → Int32} {a m p q : Nat} (ha : 22 ≤ a) (hm : a + m < 58) (hpq : p ≠ q) (e : tn (t (a + m - 1)) = q) :
    jst t a m p = ic (t (58 + 10 * p + 0) = nI 1) (upd (upd (upd (upd (upd t (a + m) (nI q)) (58 + 10 * q + 3) (t (58 + 10 * q + 3) + t 8)) (58 + 10 * q + 7) (t (58 + 10 * q + 7) + nI 1)) (58 + 10 * q + 4) (t (58 + 10 * q + 4) + t 8)) 5 (t 5 + t 8))
      (upd (upd (upd (upd t (a + m) (nI q)) (58 + 10 * q + 3) (t (58 + 10 * q + 3) + t 8)) (58 + 10 * q + 7) (t (58 + 10 * q + 7) + nI 1)) (58 + 10 * p + 3) (t (58 + 10 * p + 3) - t 8)) := by
  simp only [jst, e, upd_ap, if_neg (show ¬ (58 + 10 * q + 3 = a + m) by omega), if_neg (show ¬ ((8 : Nat) = a + m) by omega), if_neg (show ¬ ((8 : Nat) = 58 + 10 * q + 3) by omega), if_neg (show ¬ ((8 : Nat) = 58 + 10 * q + 7) by omega), if_neg (show ¬ ((8 : Nat) = 58 + 10 * q + 4) by omega), if_neg (show ¬ (58 + 10 * q + 7 = 58 + 10 * q + 3) by omega), if_neg (show ¬ (58 + 10 * q + 7 = a + m) by omega),
    if_neg (show ¬ (58 + 10 * q + 4 = 58 + 10 * q + 7) by omega), if_neg (show ¬ (58 + 10 * q + 4 = 58 + 10 * q + 3) by omega), if_neg (show ¬ (58 + 10 * q + 4 = a + m) by omega), if_neg (show ¬ ((5 : Nat) = 58 + 10 * q + 4) by omega), if_neg (show ¬ ((5 : Nat) = 58 + 10 * q + 7) by omega), if_neg (show ¬ ((5 : Nat) = 58 + 10 * q + 3) by omega), if_neg (show ¬ ((5 : Nat) = a + m) by omega),
    if_neg (show ¬ (58 + 10 * p + 0 = 58 + 10 * q + 7) by omega), if_neg (show ¬ (58 + 10 * p + 0 = 58 + 10 * q + 3) by omega), if_neg (show ¬ (58 + 10 * p + 0 = a + m) by omega), if_neg (show ¬ (58 + 10 * p + 3 = 58 + 10 * q + 7) by omega), if_neg (show ¬ (58 + 10 * p + 3 = 58 + 10 * q + 3) by omega), if_neg (show ¬ (58 + 10 * p + 3 = a + m) by omega)]
theorem jst_ex {t : Nat → Int32} {a m p q : Nat} (h : Ex B x t) (h8 : Bd 9 (t 8)) (ha : 22 ≤ a) (hm : a + m < 58) (hp : p < tn (t 2)) (hq : q < tn (t 2)) (hpq : p ≠ q) (e : tn (t (a + m - 1)) = q) : Ex (B + 9) (x + nI 1) (jst t a m p) ∧ jst t a m p 8 = t 8 ∧ jst t a m p 2 = t 2 ∧ jst t a m p 0 = t 0 ∧ ∀ r, jst t a m p (58 + 10 * r + 8) = t (58 + 10 * r + 8) := by
  rw [jst_cases ha hm hpq e]
  obtain ⟨h1, h2, h3, h4, h5⟩ := h
  by_cases hk : t (58 + 10 * p + 0) = nI 1
  · rw [ic_t hk]
    have kh : ∀ i, i < 22 → i ≠ 5 → upd (upd (upd (upd (upd t (a + m) (nI q)) (58 + 10 * q + 3) (t (58 + 10 * q + 3) + t 8)) (58 + 10 * q + 7) (t (58 + 10 * q + 7) + nI 1)) (58 + 10 * q + 4) (t (58 + 10 * q + 4) + t 8)) 5 (t 5 + t 8) i = t i := fun i hi h5 => by
      simp only [upd_ap]
      rw [if_neg h5, if_neg (by omega), if_neg (by omega), if_neg (by omega), if_neg (by omega)]
    have k5h : upd (upd (upd (upd (upd t (a + m) (nI q)) (58 + 10 * q + 3) (t (58 + 10 * q + 3) + t 8)) (58 + 10 * q + 7) (t (58 + 10 * q + 7) + nI 1)) (58 + 10 * q + 4) (t (58 + 10 * q + 4) + t 8)) 5 (t 5 + t 8) 5 = t 5 + t 8 := by rw [upd_ap, if_pos rfl]
    have k3 : ∀ r, upd (upd (upd (upd (upd t (a + m) (nI q)) (58 + 10 * q + 3) (t (58 + 10 * q + 3) + t 8)) (58 + 10 * q + 7) (t (58 + 10 * q + 7) + nI 1)) (58 + 10 * q + 4) (t (58 + 10 * q + 4) + t 8)) 5 (t 5 + t 8) (58 + 10 * r + 3) = if r = q then t (58 + 10 * q + 3) + t 8 else t (58 + 10 * r + 3) := fun r => by
      simp only [upd_ap]
      rw [if_neg (by omega), if_neg (by omega), if_neg (by omega)]
      by_cases z : r = q
      · rw [if_pos (by omega), if_pos z]
      · rw [if_neg (by omega), if_neg z, if_neg (by omega)]
    have k7 : ∀ r, upd (upd (upd (upd (upd t (a + m) (nI q)) (58 + 10 * q + 3) (t (58 + 10 * q + 3) + t 8)) (58 + 10 * q + 7) (t (58 + 10 * q + 7) + nI 1)) (58 + 10 * q + 4) (t (58 + 10 * q + 4) + t 8)) 5 (t 5 + t 8) (58 + 10 * r + 7) = if r = q then t (58 + 10 * q + 7) + nI 1 else t (58 + 10 * r + 7) := fun r => by
      simp only [upd_ap]
      rw [if_neg (by omega), if_neg (by omega)]
      by_cases z : r = q
      · rw [if_pos (by omega), if_pos z]
      · rw [if_neg (by omega), if_neg z, if_neg (by omega), if_neg (by omega)]
    have k58 : ∀ r j, j = 5 ∨ j = 8 → upd (upd (upd (upd (upd t (a + m) (nI q)) (58 + 10 * q + 3) (t (58 + 10 * q + 3) + t 8)) (58 + 10 * q + 7) (t (58 + 10 * q + 7) + nI 1)) (58 + 10 * q + 4) (t (58 + 10 * q + 4) + t 8)) 5 (t 5 + t 8) (58 + 10 * r + j) = t (58 + 10 * r + j) := fun r j hj => by
      simp only [upd_ap]
      rw [if_neg (by omega), if_neg (by omega), if_neg (by omega), if_neg (by omega), if_neg (by omega)]
    generalize upd (upd (upd (upd (upd t (a + m) (nI q)) (58 + 10 * q + 3) (t (58 + 10 * q + 3) + t 8)) (58 + 10 * q + 7) (t (58 + 10 * q + 7) + nI 1)) (58 + 10 * q + 4) (t (58 + 10 * q + 4) + t 8)) 5 (t 5 + t 8) = u at kh k5h k3 k7 k58 ⊢
    have s3 := sumI_1 (f := fun r => u (58 + 10 * r + 3)) (g := fun r => t (58 + 10 * r + 3)) (a := q) (n := tn (t 2)) (d := t 8) hq (fun r _ r1 => by show u (58 + 10 * r + 3) = t (58 + 10 * r + 3); rw [k3, if_neg r1]) (by show u (58 + 10 * q + 3) = t (58 + 10 * q + 3) + t 8; rw [k3, if_pos rfl])
    have s7 := sumI_1 (f := fun r => u (58 + 10 * r + 7)) (g := fun r => t (58 + 10 * r + 7)) (a := q) (n := tn (t 2)) (d := nI 1) hq (fun r _ r1 => by show u (58 + 10 * r + 7) = t (58 + 10 * r + 7); rw [k7, if_neg r1]) (by show u (58 + 10 * q + 7) = t (58 + 10 * q + 7) + nI 1; rw [k7, if_pos rfl])
    refine ⟨?_, kh 8 (by omega) (by omega), kh 2 (by omega) (by omega), kh 0 (by omega) (by omega), fun r => k58 r 8 (Or.inr rfl)⟩
    unfold Ex
    rw [kh 1 (by omega) (by omega), kh 2 (by omega) (by omega), k5h, s3, s7, h3, h4]
    refine ⟨h1, fun r hr => by rw [k58 r 5 (Or.inl rfl)]; exact h2 r hr, rfl, rfl, fun r hr => ?_⟩
    rw [k3]
    by_cases z : r = q
    · rw [if_pos z]; exact (h5 q hq).add h8
    · rw [if_neg z]; exact (h5 r hr).mono (by omega)
  · rw [ic_f hk]
    have kh : ∀ i, i < 22 → upd (upd (upd (upd t (a + m) (nI q)) (58 + 10 * q + 3) (t (58 + 10 * q + 3) + t 8)) (58 + 10 * q + 7) (t (58 + 10 * q + 7) + nI 1)) (58 + 10 * p + 3) (t (58 + 10 * p + 3) - t 8) i = t i := fun i hi => by
      simp only [upd_ap]
      rw [if_neg (by omega), if_neg (by omega), if_neg (by omega), if_neg (by omega)]
    have k3 : ∀ r, upd (upd (upd (upd t (a + m) (nI q)) (58 + 10 * q + 3) (t (58 + 10 * q + 3) + t 8)) (58 + 10 * q + 7) (t (58 + 10 * q + 7) + nI 1)) (58 + 10 * p + 3) (t (58 + 10 * p + 3) - t 8) (58 + 10 * r + 3) = if r = p then t (58 + 10 * p + 3) - t 8 else if r = q then t (58 + 10 * q + 3) + t 8 else t (58 + 10 * r + 3) := fun r => by
      simp only [upd_ap]
      by_cases y : r = p
      · rw [if_pos (by omega), if_pos y]
      · rw [if_neg (by omega), if_neg y, if_neg (by omega)]
        by_cases z : r = q
        · rw [if_pos (by omega), if_pos z]
        · rw [if_neg (by omega), if_neg z, if_neg (by omega)]
    have k7 : ∀ r, upd (upd (upd (upd t (a + m) (nI q)) (58 + 10 * q + 3) (t (58 + 10 * q + 3) + t 8)) (58 + 10 * q + 7) (t (58 + 10 * q + 7) + nI 1)) (58 + 10 * p + 3) (t (58 + 10 * p + 3) - t 8) (58 + 10 * r + 7) = if r = q then t (58 + 10 * q + 7) + nI 1 else t (58 + 10 * r + 7) := fun r => by
      simp only [upd_ap]
      rw [if_neg (by omega)]
      by_cases z : r = q
      · rw [if_pos (by omega), if_pos z]
      · rw [if_neg (by omega), if_neg z, if_neg (by omega), if_neg (by omega)]
    have k58 : ∀ r j, j = 5 ∨ j = 8 → upd (upd (upd (upd t (a + m) (nI q)) (58 + 10 * q + 3) (t (58 + 10 * q + 3) + t 8)) (58 + 10 * q + 7) (t (58 + 10 * q + 7) + nI 1)) (58 + 10 * p + 3) (t (58 + 10 * p + 3) - t 8) (58 + 10 * r + j) = t (58 + 10 * r + j) := fun r j hj => by
      simp only [upd_ap]
      rw [if_neg (by omega), if_neg (by omega), if_neg (by omega), if_neg (by omega)]
    generalize upd (upd (upd (upd t (a + m) (nI q)) (58 + 10 * q + 3) (t (58 + 10 * q + 3) + t 8)) (58 + 10 * q + 7) (t (58 + 10 * q + 7) + nI 1)) (58 + 10 * p + 3) (t (58 + 10 * p + 3) - t 8) = u at kh k3 k7 k58 ⊢
    have s3 := sumI_2 (f := fun r => u (58 + 10 * r + 3)) (g := fun r => t (58 + 10 * r + 3)) (a := p) (b := q) (n := tn (t 2)) (d := -(t 8)) (e := t 8) hp hq hpq (fun r _ r1 r2 => by show u (58 + 10 * r + 3) = t (58 + 10 * r + 3); rw [k3, if_neg r1, if_neg r2]) (by show u (58 + 10 * p + 3) = t (58 + 10 * p + 3) + -(t 8); rw [k3, if_pos rfl]; grind) (by show u (58 + 10 * q + 3) = t (58 + 10 * q + 3) + t 8; rw [k3, if_neg (fun z => hpq z.symm), if_pos rfl])
    have s7 := sumI_1 (f := fun r => u (58 + 10 * r + 7)) (g := fun r => t (58 + 10 * r + 7)) (a := q) (n := tn (t 2)) (d := nI 1) hq (fun r _ r1 => by show u (58 + 10 * r + 7) = t (58 + 10 * r + 7); rw [k7, if_neg r1]) (by show u (58 + 10 * q + 7) = t (58 + 10 * q + 7) + nI 1; rw [k7, if_pos rfl])
    refine ⟨?_, kh 8 (by omega), kh 2 (by omega), kh 0 (by omega), fun r => k58 r 8 (Or.inr rfl)⟩
    unfold Ex
    rw [kh 1 (by omega), kh 2 (by omega), kh 5 (by omega), s3, s7, h3, h4]
    refine ⟨h1, fun r hr => by rw [k58 r 5 (Or.inl rfl)]; exact h2 r hr, rfl, by grind, fun r hr => ?_⟩
    rw [k3]
    by_cases y : r = p
    · rw [if_pos y]; exact (h5 p hp).sub h8
    · rw [if_neg y]
      by_cases z : r = q
      · rw [if_pos z]; exact (h5 q hq).add h8
      · rw [if_neg z]; exact (h5 r hr).mono (by omega)
theorem jTo_ex {l m p : Nat} (h : Ex B x c) (hI : Inv T c) (hl : l < tn (c 1)) (hm : m < tn (c (13 + l))) (hr : c (22 + 12 * l + m) = nI p) (hp : p < tn (c 2)) : ∀ {k : Nat}, k ≤ m → Ex (B + 9 * (k : Int)) (x + nI k) (jTo c (22 + 12 * l) m p k) ∧ jTo c (22 + 12 * l) m p k 8 = c 8 ∧ jTo c (22 + 12 * l) m p k 2 = c 2 ∧ jTo c (22 + 12 * l) m p k 0 = c 0 ∧ ∀ r, jTo c (22 + 12 * l) m p k (58 + 10 * r + 8) = c (58 + 10 * r + 8)
  | 0, _ => by
    have e0 : x + nI 0 = x := by rw [nI_z]; grind
    rw [e0]
    exact ⟨h.mono (by omega), rfl, rfl, rfl, fun _ => rfl⟩
  | k + 1, hk => by
    obtain ⟨i1, i2, i3, i4, i5⟩ := jTo_ex h hI hl hm hr hp (k := k) (by omega)
    obtain ⟨j1, j2⟩ := hI.jmpK hl hm hr (k := k) (by omega)
    have hnl3 := hI.nl3
    have h12 := hI.len12 hl
    have hp30 := hI.np30
    have e1 : jmp c (22 + 12 * l) m p k 1 = c 1 := j2 1 (by unfold FreeC; omega) (by omega)
    have e2 : jmp c (22 + 12 * l) m p k 2 = c 2 := j2 2 (by unfold FreeC; omega) (by omega)
    have e13 : jmp c (22 + 12 * l) m p k (13 + l) = c (13 + l) := j2 (13 + l) (by unfold FreeC; omega) (by omega)
    have hl' : l < tn (jmp c (22 + 12 * l) m p k 1) := by rw [e1]; exact hl
    have hi' : m - k - 1 < tn (jmp c (22 + 12 * l) m p k (13 + l)) := by rw [e13]; omega
    have hj' : m - k < tn (jmp c (22 + 12 * l) m p k (13 + l)) := by rw [e13]; omega
    have hjt : jmp c (22 + 12 * l) m p k (22 + 12 * l + (m - k - 1)) = jTo c (22 + 12 * l) m p k (22 + 12 * l + (m - k) - 1) := by
      unfold jmp; rw [upd_ap, if_neg (by omega), show 22 + 12 * l + (m - k) - 1 = 22 + 12 * l + (m - k - 1) by omega]
    have hjp : jmp c (22 + 12 * l) m p k (22 + 12 * l + (m - k)) = nI p := by unfold jmp; rw [upd_ap, if_pos rfl]
    have hrow := j1.row hl' hi'
    have hrp := j1.rowP hl' hi'
    rw [hjt] at hrow hrp
    rw [e2] at hrp
    have hne : p ≠ tn (jTo c (22 + 12 * l) m p k (22 + 12 * l + (m - k) - 1)) := fun z => by
      have := j1.D hl' hi' hj' (by rw [hjt, hjp, hrow, ← z])
      omega
    have h9 := hI.price9
    have h8 : Bd 9 (jTo c (22 + 12 * l) m p k 8) := by
      rw [i2, hI.price]
      exact (Bd.n (by omega)).mono (by omega)
    obtain ⟨g1, g2, g3, g4, g5⟩ := jst_ex (a := 22 + 12 * l) (m := m - k) (p := p) i1 h8 (by omega) (by omega) (by rw [i3]; exact hp) (by rw [i3]; exact hrp) hne rfl
    have en : x + nI k + nI 1 = x + nI (k + 1) := by rw [nI_succ k, nI_o]; grind
    rw [en] at g1
    exact ⟨g1.mono (by omega), g2.trans i2, g3.trans i3, g4.trans i4, fun r => (g5 r).trans (i5 r)⟩
theorem jumpsF_eq {a m p st : Nat} (h1 : 22 ≤ a + m - st) (h2 : a + m - st < 58) : jumpsF c a m p st = upd (upd (upd (upd (jTo c a m p st) (a + m - st) (nI p)) (58 + 10 * p + 7) (jTo c a m p st (58 + 10 * p + 7) - nI st)) (58 + 10 * p + 8) (jTo c a m p st 0)) 4 (jTo c a m p st 4 + nI 1) := by
  unfold jumpsF
  generalize jTo c a m p st = t
  generalize a + m - st = w at h1 h2 ⊢
  simp only [upd_ap, if_neg (show ¬ ((0 : Nat) = 58 + 10 * p + 7) by omega), if_neg (show ¬ ((0 : Nat) = w) by omega), if_neg (show ¬ (58 + 10 * p + 7 = w) by omega), if_neg (show ¬ ((4 : Nat) = 58 + 10 * p + 8) by omega), if_neg (show ¬ ((4 : Nat) = 58 + 10 * p + 7) by omega), if_neg (show ¬ ((4 : Nat) = w) by omega)]
theorem Ex.jumps {p : Nat} (h : Ex B 0 c) (hI : Inv T c) (hp : p < tn (c 2)) (hs9 : c (58 + 10 * p + 5) = 0) : Ex (B + 45) 0 (jumpsS c p) ∧ jumpsS c p 0 = c 0 ∧ jumpsS c p 2 = c 2 ∧ ∀ r, jumpsS c p (58 + 10 * r + 8) = if r = p then c 0 else c (58 + 10 * r + 8) := by
  obtain ⟨a1, -, a3, a4, -⟩ := hI.plcs hp hs9
  have hl3 := Nat.lt_of_lt_of_le a1 hI.nl3
  have h12 := hI.len12 a1
  have hst : jsteps c p ≤ plc c p := Nat.min_le_left _ _
  have hs5 : jsteps c p ≤ 5 := Nat.le_trans (Nat.min_le_right _ _) hI.jump5
  obtain ⟨i1, i2, i3, i4, i5⟩ := jTo_ex h hI a1 a3 a4 hp (k := jsteps c p) hst
  have hw : 22 ≤ 22 + 12 * liN c p + plc c p - jsteps c p ∧ 22 + 12 * liN c p + plc c p - jsteps c p < 58 := by omega
  unfold jumpsS
  rw [jumpsF_eq hw.1 hw.2]
  generalize jTo c (22 + 12 * liN c p) (plc c p) p (jsteps c p) = t at i1 i2 i3 i4 i5 ⊢
  generalize 22 + 12 * liN c p + plc c p - jsteps c p = w at hw ⊢
  generalize jsteps c p = st at i1 hs5 ⊢
  have kh : ∀ i, i < 22 → i ≠ 4 → upd (upd (upd (upd t w (nI p)) (58 + 10 * p + 7) (t (58 + 10 * p + 7) - nI st)) (58 + 10 * p + 8) (t 0)) 4 (t 4 + nI 1) i = t i := fun i hi h4 => by
    simp only [upd_ap]
    rw [if_neg h4, if_neg (by omega), if_neg (by omega), if_neg (by omega)]
  have k3 : ∀ r j, j = 3 ∨ j = 5 → upd (upd (upd (upd t w (nI p)) (58 + 10 * p + 7) (t (58 + 10 * p + 7) - nI st)) (58 + 10 * p + 8) (t 0)) 4 (t 4 + nI 1) (58 + 10 * r + j) = t (58 + 10 * r + j) := fun r j hj => by
    simp only [upd_ap]
    rw [if_neg (by omega), if_neg (by omega), if_neg (by omega), if_neg (by omega)]
  have k7 : ∀ r, upd (upd (upd (upd t w (nI p)) (58 + 10 * p + 7) (t (58 + 10 * p + 7) - nI st)) (58 + 10 * p + 8) (t 0)) 4 (t 4 + nI 1) (58 + 10 * r + 7) = if r = p then t (58 + 10 * p + 7) - nI st else t (58 + 10 * r + 7) := fun r => by
    simp only [upd_ap]
    rw [if_neg (by omega), if_neg (by omega)]
    by_cases z : r = p
    · rw [if_pos (by omega), if_pos z]
    · rw [if_neg (by omega), if_neg z, if_neg (by omega)]
  have k8 : ∀ r, upd (upd (upd (upd t w (nI p)) (58 + 10 * p + 7) (t (58 + 10 * p + 7) - nI st)) (58 + 10 * p + 8) (t 0)) 4 (t 4 + nI 1) (58 + 10 * r + 8) = if r = p then t 0 else t (58 + 10 * r + 8) := fun r => by
    simp only [upd_ap]
    rw [if_neg (by omega)]
    by_cases z : r = p
    · rw [if_pos (by omega), if_pos z]
    · rw [if_neg (by omega), if_neg z, if_neg (by omega), if_neg (by omega)]
  generalize upd (upd (upd (upd t w (nI p)) (58 + 10 * p + 7) (t (58 + 10 * p + 7) - nI st)) (58 + 10 * p + 8) (t 0)) 4 (t 4 + nI 1) = u at kh k3 k7 k8 ⊢
  obtain ⟨h1, h2, h3, h4, h5⟩ := i1
  have s3 := sumI_congr (f := fun r => u (58 + 10 * r + 3)) (g := fun r => t (58 + 10 * r + 3)) (n := tn (t 2)) (fun r _ => k3 r 3 (Or.inl rfl))
  have s7 := sumI_1 (f := fun r => u (58 + 10 * r + 7)) (g := fun r => t (58 + 10 * r + 7)) (a := p) (n := tn (t 2)) (d := -(nI st)) (by rw [i3]; exact hp) (fun r _ r1 => by show u (58 + 10 * r + 7) = t (58 + 10 * r + 7); rw [k7, if_neg r1]) (by show u (58 + 10 * p + 7) = t (58 + 10 * p + 7) + -(nI st); rw [k7, if_pos rfl]; grind)
  refine ⟨?_, (kh 0 (by omega) (by omega)).trans i4, (kh 2 (by omega) (by omega)).trans i3, fun r => by rw [k8, i4, i5]⟩
  unfold Ex
  rw [kh 1 (by omega) (by omega), kh 2 (by omega) (by omega), kh 5 (by omega) (by omega), s3, s7, h3, h4]
  exact ⟨h1, fun r hr => by rw [k3 r 5 (Or.inr rfl)]; exact h2 r hr, by grind, rfl, fun r hr => by rw [k3 r 3 (Or.inl rfl)]; exact (h5 r hr).mono (by omega)⟩
end EXB
