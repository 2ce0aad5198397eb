/-! WHOSE TURN COMES WHEN, and what the house will pay -/
theorem Inv.at {T : Nat} {s : Nat → Int32} {l k p : Nat} (h : Inv T s) (hl : l < tn (s 1)) (hk : k < tn (s (13 + l))) (hr : s (22 + 12 * l + k) = nI p) (hp : p < 30) : p < tn (s 2) ∧ s (58 + 10 * p + 5) = 0 ∧ liN s p = l ∧ plc s p = k := by
  have hnl3 := h.nl3
  have hR := h.R hl hk
  unfold InvR at hR
  rw [hr, tn_nI (by omega)] at hR
  have e1 : liN s p = l := by show tn _ = l; rw [hR.2.2.2]; exact tn_nI (by omega)
  obtain ⟨q1, q2, q3, q4, -⟩ := h.plcs hR.2.1 hR.2.2.1
  rw [e1] at q3 q4
  exact ⟨hR.2.1, hR.2.2.1, e1, h.D hl q3 hk (q4.trans hr.symm)⟩
theorem Inv.wk_oth {T : Nat} {s : Nat → Int32} {y x : Nat} (h : Inv T s) (hy : y < tn (s 1)) (hx : x < 58) (h1 : x ≠ 13 + y) (h2 : x ≠ 16 + y) (h3 : x ≠ 19 + y) (h4 : x < 22 + 12 * y ∨ 22 + 12 * y + 12 ≤ x) : wkF s y x = s x := by
  have hnl3 := h.nl3
  have h12 := h.len12 hy
  rcases h.wk hy with ⟨_, e, _⟩ | ⟨_, _, e, _⟩ | ⟨_, _, e, _⟩ <;> rw [e]
  · rw [upd_ap, if_neg h2]
  · unfold srvF
    rw [upd_ap, if_neg h3, upd_ap, if_neg h2, leavesF_out h1 (by omega) (by omega) (by omega)]
theorem Inv.wk_pj {T : Nat} {s : Nat → Int32} {y q j : Nat} (h : Inv T s) (hy : y < tn (s 1)) (hj : j < 10) (h1 : j ≠ 1) (h5 : j ≠ 5) : wkF s y (58 + 10 * q + j) = s (58 + 10 * q + j) := by
  have hnl3 := h.nl3
  have h12 := h.len12 hy
  rcases h.wk hy with ⟨_, e, _⟩ | ⟨_, _, e, _⟩ | ⟨_, _, e, _⟩ <;> rw [e]
  · rw [upd_ap, if_neg (by omega)]
  · unfold srvF
    rw [upd_ap, if_neg (by omega), upd_ap, if_neg (by omega), lvF_pj (by omega) h12 hj h1 h5]
theorem Inv.wk_st {T : Nat} {s : Nat → Int32} {y q : Nat} (h : Inv T s) (hy : y < tn (s 1)) : wkF s y (58 + 10 * q + 5) = s (58 + 10 * q + 5) ∨ wkF s y (58 + 10 * q + 5) = nI 1 := by
  have hnl3 := h.nl3
  have h12 := h.len12 hy
  rcases h.wk hy with ⟨_, e, _⟩ | ⟨_, _, e, _⟩ | ⟨_, _, e, _⟩ <;> rw [e]
  · exact Or.inl rfl
  · left; rw [upd_ap, if_neg (by omega)]
  · unfold srvF
    rw [upd_ap, if_neg (by omega), upd_ap, if_neg (by omega), lvF_p5 (by omega) h12]
    split
    · exact Or.inr rfl
    · exact Or.inl rfl
def LineE (u t : Nat → Int32) (l : Nat) : Prop := u (10 + l) = t (10 + l) ∧ u (13 + l) = t (13 + l) ∧ u (16 + l) = t (16 + l) ∧ ∀ j, j < 12 → u (22 + 12 * l + j) = t (22 + 12 * l + j)
theorem LineE.tr {u t v : Nat → Int32} {l : Nat} (a : LineE u t l) (b : LineE t v l) : LineE u v l := ⟨a.1.trans b.1, a.2.1.trans b.2.1, a.2.2.1.trans b.2.2.1, fun j hj => (a.2.2.2 j hj).trans (b.2.2.2 j hj)⟩
theorem LineE.rf {u : Nat → Int32} {l : Nat} : LineE u u l := ⟨rfl, rfl, rfl, fun _ _ => rfl⟩
theorem Inv.wk_line {T : Nat} {s : Nat → Int32} {y l : Nat} (h : Inv T s) (hy : y < tn (s 1)) (hl : l < 3) (hyl : l ≠ y) : LineE (wkF s y) s l := by
  have hnl3 := h.nl3
  exact ⟨h.wk_oth hy (by omega) (by omega) (by omega) (by omega) (by omega), h.wk_oth hy (by omega) (by omega) (by omega) (by omega) (by omega), h.wk_oth hy (by omega) (by omega) (by omega) (by omega) (by omega), fun j hj => h.wk_oth hy (by omega) (by omega) (by omega) (by omega) (by omega)⟩
theorem Inv.work_below {T : Nat} {s : Nat → Int32} {l : Nat} (h : Inv T s) (hl : l < 3) : ∀ {n : Nat}, n ≤ l → n ≤ tn (s 1) → LineE (workTo s n) s l
  | 0, _, _ => LineE.rf
  | n + 1, h1, h2 => by
    obtain ⟨i1, i2⟩ := h.workK (n := n) (by omega)
    exact (i1.wk_line (y := n) (by rw [i2]; omega) hl (by omega)).tr (Inv.work_below h hl (n := n) (by omega) (by omega))
theorem Inv.work_above {T : Nat} {s : Nat → Int32} {l : Nat} (h : Inv T s) (hl : l < 3) : ∀ {n : Nat}, l < n → n ≤ tn (s 1) → LineE (workTo s n) (workTo s (l + 1)) l
  | 0, h1, _ => absurd h1 (Nat.not_lt_zero l)
  | n + 1, h1, h2 => by
    by_cases e : n = l
    · subst e; exact LineE.rf
    · obtain ⟨i1, i2⟩ := h.workK (n := n) (by omega)
      exact (i1.wk_line (y := n) (by rw [i2]; omega) hl (by omega)).tr (Inv.work_above h hl (n := n) (by omega) (by omega))
theorem Inv.work_pj {T : Nat} {s : Nat → Int32} {q j : Nat} (h : Inv T s) (hj : j < 10) (h1 : j ≠ 1) (h5 : j ≠ 5) : ∀ {n : Nat}, n ≤ tn (s 1) → workTo s n (58 + 10 * q + j) = s (58 + 10 * q + j)
  | 0, _ => rfl
  | n + 1, h2 => by
    obtain ⟨i1, i2⟩ := h.workK (n := n) (by omega)
    exact (i1.wk_pj (y := n) (by rw [i2]; omega) hj h1 h5).trans (Inv.work_pj h hj h1 h5 (by omega))
theorem Inv.work_st {T : Nat} {s : Nat → Int32} {q m : Nat} (h : Inv T s) : ∀ {n : Nat}, m ≤ n → n ≤ tn (s 1) → workTo s n (58 + 10 * q + 5) = workTo s m (58 + 10 * q + 5) ∨ workTo s n (58 + 10 * q + 5) = nI 1
  | 0, h1, _ => by
    obtain rfl : m = 0 := by omega
    exact Or.inl rfl
  | n + 1, h1, h2 => by
    by_cases e : m = n + 1
    · subst e; exact Or.inl rfl
    · obtain ⟨i1, i2⟩ := h.workK (n := n) (by omega)
      have ih := Inv.work_st h (q := q) (n := n) (m := m) (by omega) (by omega)
      rcases i1.wk_st (y := n) (q := q) (by rw [i2]; omega) with e2 | e2
      · rcases ih with e3 | e3
        · exact Or.inl (e2.trans e3)
        · exact Or.inr (e2.trans e3)
      · exact Or.inr e2
theorem Inv.work_h {T : Nat} {s : Nat → Int32} {x : Nat} (h : Inv T s) (hx : x < 10) : ∀ {n : Nat}, n ≤ tn (s 1) → workTo s n x = s x
  | 0, _ => rfl
  | n + 1, h2 => by
    obtain ⟨i1, i2⟩ := h.workK (n := n) (by omega)
    exact (i1.wk_oth (y := n) (by rw [i2]; omega) (by omega) (by omega) (by omega) (by omega) (by omega)).trans (Inv.work_h h hx (by omega))
theorem min1_nf {s : Nat → Int32} {x : Nat} (h0 : x ≠ 0) (h : x < 58 ∨ (x - 58) % 10 ≠ 2) : min1 s x = s x := min1_out h0 (fun p _ => by omega)
theorem min1_line {s : Nat → Int32} {l : Nat} (hl : l < 3) : LineE (min1 s) s l := ⟨min1_nf (by omega) (by omega), min1_nf (by omega) (by omega), min1_nf (by omega) (by omega), fun _ _ => min1_nf (by omega) (by omega)⟩
theorem payTo_line {s : Nat → Int32} {l n : Nat} (hl : l < 3) : LineE (payTo s n) s l := ⟨payTo_nf (by unfold FreeC; omega), payTo_nf (by unfold FreeC; omega), payTo_nf (by unfold FreeC; omega), fun _ _ => payTo_nf (by unfold FreeC; omega)⟩
/-- a line through a minute -/
theorem Inv.min_line {T : Nat} {s : Nat → Int32} {l : Nat} (h : Inv T s) (hT : T + 1 ≤ 1000000) (hl : l < tn (s 1)) : minuteS s (10 + l) = s (10 + l) ∧ ((tn (s (13 + l)) = 0 ∧ minuteS s (13 + l) = s (13 + l) ∧ minuteS s (16 + l) = s (16 + l)) ∨
    (0 < tn (s (13 + l)) ∧ tn (s (16 + l)) + 1 < tn (s (10 + l)) ∧ minuteS s (13 + l) = s (13 + l) ∧ minuteS s (16 + l) = nI (tn (s (16 + l)) + 1) ∧ ∀ j, j < 12 → minuteS s (22 + 12 * l + j) = s (22 + 12 * l + j)) ∨
    (0 < tn (s (13 + l)) ∧ tn (s (16 + l)) + 1 = tn (s (10 + l)) ∧ minuteS s (13 + l) = nI (tn (s (13 + l)) - 1) ∧ minuteS s (16 + l) = nI 0 ∧ (∀ j, j + 1 < tn (s (13 + l)) → minuteS s (22 + 12 * l + j) = s (22 + 12 * l + (j + 1))) ∧ minuteS s (58 + 10 * tn (s (22 + 12 * l + 0)) + 5) = nI 1)) := by
  have hnl3 := h.nl3
  have hc := h.cert hT
  have e1 : min1 s 1 = s 1 := min1_nf (by omega) (by omega)
  have hl1 : l < tn (min1 s 1) := by rw [e1]; exact hl
  obtain ⟨i1, i2⟩ := hc.workK (n := l) (by omega)
  have hlw : l < tn (workTo (min1 s) l 1) := by rw [i2]; exact hl1
  obtain ⟨b1, b2, b3, b4⟩ := (hc.work_below (l := l) (by omega) (n := l) (Nat.le_refl _) (by omega)).tr (min1_line (s := s) (l := l) (by omega))
  have hab : LineE (minuteS s) (wkF (workTo (min1 s) l) l) l := (payTo_line (by omega)).tr (hc.work_above (by omega) (n := tn (s 1)) hl (by rw [e1]; exact Nat.le_refl _))
  obtain ⟨a1, a2, a3, a4⟩ := hab
  have hst : ∀ q, wkF (workTo (min1 s) l) l (58 + 10 * q + 5) = nI 1 → minuteS s (58 + 10 * q + 5) = nI 1 := by
    intro q hq
    show payTo (workTo (min1 s) (tn (s 1))) _ _ = _
    rw [payTo_nf (by unfold FreeC; omega)]
    rcases hc.work_st (q := q) (m := l + 1) (n := tn (s 1)) (by omega) (by rw [e1]; exact Nat.le_refl _) with e | e
    · rw [e]; exact hq
    · exact e
  have h12 := h.len12 hl
  have hw := i1.wk hlw
  rw [b2, b3, b1] at hw
  refine ⟨?_, ?_⟩
  · rw [a1, i1.wk_oth hlw (by omega) (by omega) (by omega) (by omega) (by omega), b1]
  · rcases hw with ⟨w1, e, _⟩ | ⟨w1, w2, e, _⟩ | ⟨w1, w2, e, _⟩ <;> rw [e] at a2 a3 a4 hst
    · exact Or.inl ⟨w1, a2.trans b2, a3.trans b3⟩
    · refine Or.inr (Or.inl ⟨w1, w2, ?_, ?_, fun j hj => ?_⟩)
      · rw [a2, upd_ap, if_neg (by omega), b2]
      · rw [a3, upd_ap, if_pos rfl]
      · rw [a4 j hj, upd_ap, if_neg (by omega), b4 j hj]
    · refine Or.inr (Or.inr ⟨w1, w2, ?_, ?_, fun j hj => ?_, ?_⟩)
      · rw [a2]; unfold srvF
        rw [upd_ap, if_neg (by omega), upd_ap, if_neg (by omega), lvF_13 (by omega) (by omega), if_pos rfl, b2]
      · rw [a3]; unfold srvF
        rw [upd_ap, if_neg (by omega), upd_ap, if_pos rfl]
      · rw [a4 j (by omega)]; unfold srvF
        rw [upd_ap, if_neg (by omega), upd_ap, if_neg (by omega), b2, lvF_r (by omega) (by omega) (by omega) h12, if_pos ⟨rfl, Nat.zero_le _, hj⟩, b4 (j + 1) (by omega)]
      · refine hst _ ?_
        unfold srvF
        rw [upd_ap, if_neg (by omega), upd_ap, if_neg (by omega), b2, lvF_p5 (by omega) h12, b4 0 (by omega), if_pos rfl]
theorem Inv.min_h {T : Nat} {s : Nat → Int32} {x : Nat} (h : Inv T s) (hT : T + 1 ≤ 1000000) (hx : x < 10) (h0 : x ≠ 0) (h5 : x ≠ 5) : minuteS s x = s x := by
  have e1 : min1 s 1 = s 1 := min1_nf (by omega) (by omega)
  show payTo (workTo (min1 s) (tn (s 1))) _ x = _
  rw [payTo_out (fun p _ => by omega) h5, (h.cert hT).work_h hx (by rw [e1]; exact Nat.le_refl _), min1_nf h0 (by omega)]
theorem Inv.wait1 {T : Nat} {s : Nat → Int32} {p : Nat} (h : Inv T s) (hp : p < tn (s 2)) (hs : s (58 + 10 * p + 5) = 0) : 1 ≤ waitN s p ∧ waitN s p ≤ 240 := by
  obtain ⟨h1, -, h3, -, -⟩ := h.plcs hp hs
  have h20 := h.pace20 h1
  have h12 := h.len12 h1
  have hw := h.workedP h1
  unfold waitN
  have e : tn (s (10 + liN s p)) * (plc s p + 1) = tn (s (10 + liN s p)) * plc s p + tn (s (10 + liN s p)) := Nat.mul_succ _ _
  have e2 : tn (s (10 + liN s p)) * (plc s p + 1) ≤ 20 * 12 := Nat.mul_le_mul h20 (by omega)
  omega
/-- one who stands, through a minute -/
theorem Inv.min_wait {T : Nat} {s : Nat → Int32} {p : Nat} (h : Inv T s) (hT : T + 1 ≤ 1000000) (hp : p < tn (s 2)) (hs : s (58 + 10 * p + 5) = 0) :
    (waitN s p = 1 ∧ minuteS s (58 + 10 * p + 5) = nI 1) ∨ (1 < waitN s p ∧ minuteS s (58 + 10 * p + 5) = 0 ∧ waitN (minuteS s) p + 1 = waitN s p) := by
  obtain ⟨h1, h2, h3, h4, -⟩ := h.plcs hp hs
  obtain ⟨l, hl⟩ : ∃ l, liN s p = l := ⟨_, rfl⟩
  obtain ⟨k, hk⟩ : ∃ k, plc s p = k := ⟨_, rfl⟩
  have hp30 := Nat.lt_of_lt_of_le hp h.np30
  have hw : waitN s p = tn (s (10 + l)) * (k + 1) - tn (s (16 + l)) := by unfold waitN; rw [hl, hk]
  rw [hl] at h1 h3 h4
  rw [hk] at h3 h4
  have hnl3 := h.nl3
  have h20 := h.pace20 h1
  have h12 := h.len12 h1
  have hwp := h.workedP h1
  have hm := h.minute hT
  have m1 : minuteS s 1 = s 1 := h.min_h hT (by omega) (by omega) (by omega)
  have em : tn (s (10 + l)) * (k + 1) = tn (s (10 + l)) * k + tn (s (10 + l)) := Nat.mul_succ _ _
  obtain ⟨c10, c | ⟨c1, c2, c3, c4, c5⟩ | ⟨c1, c2, c3, c4, c5, c6⟩⟩ := h.min_line hT h1
  · omega
  · have ha := hm.at (l := l) (k := k) (p := p) (by rw [m1]; exact h1) (by rw [c3]; exact h3) (by rw [c5 k (by omega)]; exact h4) hp30
    have hw2 : waitN (minuteS s) p = tn (s (10 + l)) * (k + 1) - (tn (s (16 + l)) + 1) := by
      unfold waitN; rw [ha.2.2.1, ha.2.2.2, c10, c4, tn_nI (by omega)]
    exact Or.inr ⟨by omega, ha.2.1, by omega⟩
  · by_cases hk0 : k = 0
    · subst hk0
      have e9 : tn (s (22 + 12 * l + 0)) = p := by rw [h4]; exact tn_nI (by omega)
      rw [e9] at c6
      exact Or.inl ⟨by rw [hw]; omega, c6⟩
    · have ha := hm.at (l := l) (k := k - 1) (p := p) (by rw [m1]; exact h1) (by rw [c3, tn_nI (by omega)]; omega) (by rw [c5 (k - 1) (by omega), show k - 1 + 1 = k by omega]; exact h4) hp30
      have hw2 : waitN (minuteS s) p = tn (s (10 + l)) * k := by
        unfold waitN; rw [ha.2.2.1, ha.2.2.2, c10, c4, tn_nI (by omega), show k - 1 + 1 = k by omega]; rfl
      have : 1 ≤ tn (s (10 + l)) * k := Nat.mul_pos (by omega) (by omega)
      exact Or.inr ⟨by omega, ha.2.1, by omega⟩
theorem goBy_sh (s : Nat → Int32) : ∀ n, goByS s (n + 1) = goByS (minuteS s) n
  | 0 => rfl
  | n + 1 => by
    show minuteS (goByS s (n + 1)) = minuteS (goByS (minuteS s) n)
    rw [goBy_sh s n]
theorem Inv.turns {p : Nat} : ∀ {w T : Nat} {s : Nat → Int32}, Inv T s → T + w ≤ 1000000 → p < tn (s 2) → s (58 + 10 * p + 5) = 0 → waitN s p = w → Turns s p w
  | 0, T, s, h, _, hp, hs, hw => by have := (h.wait1 hp hs).1; omega
  | w + 1, T, s, h, hT, hp, hs, hw => by
    rcases h.min_wait (by omega) hp hs with ⟨a1, a2⟩ | ⟨a1, a2, a3⟩
    · obtain rfl : w = 0 := by omega
      refine ⟨fun k hk => ?_, ?_, fun k hk => ?_⟩
      · obtain rfl : k = 0 := by omega
        exact hs
      · show ¬ minuteS s (58 + 10 * p + 5) = 0
        rw [a2]; decide +kernel
      · obtain rfl : k = 0 := by omega
        exact ⟨T, h⟩
    · have m2 : minuteS s 2 = s 2 := h.min_h (by omega) (by omega) (by omega) (by omega)
      obtain ⟨t1, t2, t3⟩ := Inv.turns (p := p) (w := w) (h.minute (by omega)) (by omega) (by rw [m2]; exact hp) a2 (by omega)
      refine ⟨fun k hk => ?_, by rw [goBy_sh]; exact t2, fun k hk => ?_⟩
      · cases k with
        | zero => exact hs
        | succ k => rw [goBy_sh]; exact t1 k (by omega)
      · cases k with
        | zero => exact ⟨T, h⟩
        | succ k => rw [goBy_sh]; exact t3 k (by omega)
theorem Inv.allT {T : Nat} {s : Nat → Int32} (h : Inv T s) (hT : T ≤ 999000) : AllT s := fun p hp hs => Inv.turns h (by have := (h.wait1 hp hs).2; omega) hp hs rfl
/-! sums -/
def sumN (f : Nat → Nat) : Nat → Nat | 0 => 0 | n + 1 => sumN f n + f n
theorem sumN_congr {f g : Nat → Nat} : ∀ {n : Nat}, (∀ i, i < n → f i = g i) → sumN f n = sumN g n
  | 0, _ => rfl
  | n + 1, h => by simp only [sumN]; rw [sumN_congr (fun i hi => h i (by omega)), h n (by omega)]
theorem sumN_add {f g : Nat → Nat} : ∀ {n : Nat}, sumN (fun i => f i + g i) n = sumN f n + sumN g n
  | 0 => rfl
  | n + 1 => by simp only [sumN]; rw [sumN_add (f := f) (g := g)]; omega
theorem sumN_0 {f : Nat → Nat} : ∀ {n : Nat}, (∀ i, i < n → f i = 0) → sumN f n = 0
  | 0, _ => rfl
  | n + 1, h => by simp only [sumN]; rw [sumN_0 (fun i hi => h i (by omega)), h n (by omega)]
theorem sumN_1 {f : Nat → Nat} {a : Nat} : ∀ {n : Nat}, a < n → (∀ i, i < n → i ≠ a → f i = 0) → sumN f n = f a
  | 0, h, _ => absurd h (Nat.not_lt_zero a)
  | n + 1, h, h0 => by
    simp only [sumN]
    by_cases e : a = n
    · subst e; rw [sumN_0 (fun i hi => h0 i (by omega) (by omega))]; omega
    · rw [sumN_1 (a := a) (by omega) (fun i hi hne => h0 i (by omega) hne), h0 n (by omega) (by omega)]; rfl
theorem sumN_swap {f : Nat → Nat → Nat} {m : Nat} : ∀ {n : Nat}, sumN (fun p => sumN (fun l => f p l) m) n = sumN (fun l => sumN (fun p => f p l) n) m
  | 0 => (sumN_0 (fun _ _ => rfl)).symm
  | n + 1 => by
    simp only [sumN]
    rw [sumN_swap (n := n), ← sumN_add]
/-- how many fees are due up to so many minutes stood -/
def feeF (lim x : Nat) : Nat := if x < lim then 0 else (x - lim) / 10 + 1
noncomputable def payN (s : Nat → Int32) (n p : Nat) : Nat := ic (s (58 + 10 * p + 5) = 0) (feeF (tn (s 6)) (tn (s (58 + 10 * p + 2)) + min n (waitN s p - 1)) - feeF (tn (s 6)) (tn (s (58 + 10 * p + 2)))) 0
theorem due_pay {t : Nat → Int32} {n p : Nat} : Due (payTo t n) p ↔ Due t p := by
  unfold Due overI
  rw [payTo_nf (by unfold FreeC; omega), payTo_nf (by unfold FreeC; omega), payTo_nf (by unfold FreeC; omega)]
theorem payTo_5 {t : Nat → Int32} : ∀ {n : Nat}, payTo t n 5 = t 5 + nI (sumN (fun p => ic (Due t p) 1 0) n) * t 7
  | 0 => by
    show t 5 = t 5 + nI 0 * t 7
    rw [nI_z]; grind
  | n + 1 => by
    have ih := payTo_5 (t := t) (n := n)
    have e7 : payTo t n 7 = t 7 := payTo_nf (by unfold FreeC; omega)
    simp only [payTo, payF, sumN]
    by_cases c : Due t n
    · rw [ic_t (due_pay.mpr c), ic_t c, nI_succ]
      have e : payU (payTo t n) n 5 = payTo t n 5 + payTo t n 7 := by
        simp only [payU, upd_ap, if_true, if_neg (show ¬ ((5 : Nat) = 58 + 10 * n + 4) by omega), if_neg (show ¬ ((5 : Nat) = 58 + 10 * n + 3) by omega), if_neg (show ¬ ((7 : Nat) = 58 + 10 * n + 4) by omega), if_neg (show ¬ ((7 : Nat) = 58 + 10 * n + 3) by omega)]
      rw [e, ih, e7]
      grind
    · rw [ic_f (fun z => c (due_pay.mp z)), ic_f c, ih]; rfl
theorem Inv.due {T : Nat} {s : Nat → Int32} {p : Nat} (h : Inv T s) (hT : T + 1 ≤ 1000000) (hp : p < tn (s 2)) : Due (min2 s) p ↔ (minuteS s (58 + 10 * p + 5) = 0 ∧ tn (s 6) ≤ tn (s (58 + 10 * p + 2)) + 1 ∧ (tn (s (58 + 10 * p + 2)) + 1 - tn (s 6)) % 10 = 0 ∧ s (58 + 10 * p + 5) = 0) ∨ (minuteS s (58 + 10 * p + 5) = 0 ∧ ¬ s (58 + 10 * p + 5) = 0 ∧ Due (min2 s) p) := by
  have e1 : min1 s 1 = s 1 := min1_nf (by omega) (by omega)
  have h99 := h.limit99
  have hst := h.stoodT hp
  have hno := h.nowT
  have est : minuteS s (58 + 10 * p + 5) = min2 s (58 + 10 * p + 5) := payTo_nf (by unfold FreeC; omega)
  have e6 : min2 s 6 = s 6 := by
    show workTo (min1 s) (tn (s 1)) 6 = _
    rw [(h.cert hT).work_h (by omega) (by rw [e1]; exact Nat.le_refl _), min1_nf (by omega) (by omega)]
  have e2 : min2 s (58 + 10 * p + 2) = nI (tn (s (58 + 10 * p + 2)) + ic (s (58 + 10 * p + 5) = 0) 1 0) := by
    show workTo (min1 s) (tn (s 1)) _ = _
    rw [(h.cert hT).work_pj (by omega) (by omega) (by omega) (by rw [e1]; exact Nat.le_refl _), min1_p2N h hp]
  by_cases c : s (58 + 10 * p + 5) = 0
  · rw [ic_t c] at e2
    have hd : Due (min2 s) p ↔ minuteS s (58 + 10 * p + 5) = 0 ∧ tn (s 6) ≤ tn (s (58 + 10 * p + 2)) + 1 ∧ (tn (s (58 + 10 * p + 2)) + 1 - tn (s 6)) % 10 = 0 := by
      unfold Due overI
      rw [e6, e2, ← est, h.limit, tn_nI (by omega)]
      have et := pk_sub_toInt (a := tn (s (58 + 10 * p + 2)) + 1) (b := tn (s 6)) (by omega) (by omega)
      constructor
      · rintro ⟨d1, d2, d3⟩
        have d2' := Int32.le_iff_toInt_le.mp d2
        rw [et, Int32.toInt_zero] at d2'
        have hle : tn (s 6) ≤ tn (s (58 + 10 * p + 2)) + 1 := by omega
        rw [pk_sub hle, pk_rem (by omega) (by omega) (by omega)] at d3
        exact ⟨d1, hle, (nI_eq (by omega) (by omega)).mp (d3.trans nI_z.symm)⟩
      · rintro ⟨d1, d2, d3⟩
        refine ⟨d1, ?_, ?_⟩
        · rw [pk_sub d2]; exact nI_pos' (by omega)
        · rw [pk_sub d2, pk_rem (by omega) (by omega) (by omega), d3, nI_z]
    rw [hd]
    constructor
    · rintro ⟨d1, d2, d3⟩; exact Or.inl ⟨d1, d2, d3, c⟩
    · rintro (⟨d1, d2, d3, _⟩ | ⟨_, d2, _⟩)
      · exact ⟨d1, d2, d3⟩
      · exact absurd c d2
  · constructor
    · intro d
      exact Or.inr ⟨by rw [est]; exact d.1, c, d⟩
    · rintro (⟨_, _, _, d⟩ | ⟨_, _, d⟩)
      · exact absurd d c
      · exact d
/-- who doesn't stand won't -/
theorem Inv.min_ns {T : Nat} {s : Nat → Int32} {p : Nat} (h : Inv T s) (hT : T + 1 ≤ 1000000) (hs : ¬ s (58 + 10 * p + 5) = 0) : ¬ minuteS s (58 + 10 * p + 5) = 0 := by
  have e1 : min1 s 1 = s 1 := min1_nf (by omega) (by omega)
  show ¬ payTo (workTo (min1 s) (tn (s 1))) _ _ = 0
  rw [payTo_nf (by unfold FreeC; omega)]
  rcases (h.cert hT).work_st (q := p) (m := 0) (n := tn (s 1)) (Nat.zero_le _) (by rw [e1]; exact Nat.le_refl _) with e | e
  · rw [e]
    show ¬ min1 s _ = 0
    rw [min1_nf (by omega) (by omega)]; exact hs
  · rw [e]; decide +kernel
theorem feeF_1 (lim x : Nat) : feeF lim (x + 1) = feeF lim x + if lim ≤ x + 1 ∧ (x + 1 - lim) % 10 = 0 then 1 else 0 := by
  unfold feeF
  split <;> split <;> split <;> omega
theorem feeF_le (lim x y : Nat) : feeF lim x ≤ feeF lim (x + y) := by
  unfold feeF
  split <;> split <;> omega
theorem Inv.pay1 {T : Nat} {s : Nat → Int32} {p n : Nat} (h : Inv T s) (hT : T + 1 ≤ 1000000) (hp : p < tn (s 2)) : ic (Due (min2 s) p) 1 0 + payN (minuteS s) n p = payN s (n + 1) p := by
  by_cases c : s (58 + 10 * p + 5) = 0
  · have e6 : minuteS s 6 = s 6 := h.min_h hT (by omega) (by omega) (by omega)
    rcases h.min_wait hT hp c with ⟨a1, a2⟩ | ⟨a1, a2, a3⟩
    · have hn : ¬ minuteS s (58 + 10 * p + 5) = 0 := by rw [a2]; decide +kernel
      unfold payN
      rw [ic_f (fun d => by rcases (h.due hT hp).mp d with ⟨d, _⟩ | ⟨d, _⟩ <;> exact hn d), ic_f hn, ic_t c, a1]
      simp
    · have e1 : min1 s 1 = s 1 := min1_nf (by omega) (by omega)
      have hst := h.stoodT hp
      have hno := h.nowT
      have e2 : minuteS s (58 + 10 * p + 2) = nI (tn (s (58 + 10 * p + 2)) + 1) := by
        show payTo (workTo (min1 s) (tn (s 1))) _ _ = _
        rw [payTo_nf (by unfold FreeC; omega), (h.cert hT).work_pj (by omega) (by omega) (by omega) (by rw [e1]; exact Nat.le_refl _), min1_p2N h hp, ic_t c]
      unfold payN
      rw [ic_t a2, ic_t c, e6, e2, tn_nI (by omega)]
      have hd : ic (Due (min2 s) p) 1 0 = if tn (s 6) ≤ tn (s (58 + 10 * p + 2)) + 1 ∧ (tn (s (58 + 10 * p + 2)) + 1 - tn (s 6)) % 10 = 0 then 1 else 0 := by
        by_cases d : tn (s 6) ≤ tn (s (58 + 10 * p + 2)) + 1 ∧ (tn (s (58 + 10 * p + 2)) + 1 - tn (s 6)) % 10 = 0
        · rw [if_pos d, ic_t ((h.due hT hp).mpr (Or.inl ⟨a2, d.1, d.2, c⟩))]
        · rw [if_neg d, ic_f (fun z => by
            rcases (h.due hT hp).mp z with ⟨_, z2, z3, _⟩ | ⟨_, z2, _⟩
            · exact d ⟨z2, z3⟩
            · exact z2 c)]
      rw [hd]
      have f1 := feeF_1 (tn (s 6)) (tn (s (58 + 10 * p + 2)))
      have ea : tn (s (58 + 10 * p + 2)) + 1 + min n (waitN (minuteS s) p - 1) = tn (s (58 + 10 * p + 2)) + min (n + 1) (waitN s p - 1) := by omega
      rw [ea]
      have f2 := feeF_le (tn (s 6)) (tn (s (58 + 10 * p + 2)) + 1) (min n (waitN (minuteS s) p - 1))
      rw [ea] at f2
      omega
  · have hn := h.min_ns hT c
    unfold payN
    rw [ic_f (fun d => by rcases (h.due hT hp).mp d with ⟨d, _⟩ | ⟨d, _⟩ <;> exact hn d), ic_f hn, ic_f c]
/-- what the house has paid after n minutes -/
theorem Inv.house : ∀ {n T : Nat} {s : Nat → Int32}, Inv T s → T + n ≤ 1000000 → goByS s n 5 = s 5 + nI (sumN (payN s n) (tn (s 2))) * s 7
  | 0, T, s, h, _ => by
    have e : sumN (payN s 0) (tn (s 2)) = 0 := sumN_0 (fun p _ => by
      unfold payN ic
      split
      · simp
      · rfl)
    rw [e, nI_z]
    show s 5 = _
    grind
  | n + 1, T, s, h, hT => by
    have m2 : minuteS s 2 = s 2 := h.min_h (by omega) (by omega) (by omega) (by omega)
    have m7 : minuteS s 7 = s 7 := h.min_h (by omega) (by omega) (by omega) (by omega)
    have e1 : min1 s 1 = s 1 := min1_nf (by omega) (by omega)
    rw [goBy_sh, Inv.house (h.minute (by omega)) (by omega), m2, m7]
    have e5 : min2 s 5 = s 5 := by
      show workTo (min1 s) (tn (s 1)) 5 = _
      rw [(h.cert (by omega)).work_h (by omega) (by rw [e1]; exact Nat.le_refl _), min1_nf (by omega) (by omega)]
    have e7 : min2 s 7 = s 7 := by
      show workTo (min1 s) (tn (s 1)) 7 = _
      rw [(h.cert (by omega)).work_h (by omega) (by rw [e1]; exact Nat.le_refl _), min1_nf (by omega) (by omega)]
    have em : minuteS s 5 = s 5 + nI (sumN (fun p => ic (Due (min2 s) p) 1 0) (tn (s 2))) * s 7 := by
      show payTo (min2 s) (tn (s 2)) 5 = _
      rw [payTo_5, e5, e7]
    have es : sumN (payN s (n + 1)) (tn (s 2)) = sumN (fun p => ic (Due (min2 s) p) 1 0) (tn (s 2)) + sumN (payN (minuteS s) n) (tn (s 2)) := by
      rw [← sumN_add]
      exact sumN_congr (fun p hp => (h.pay1 (by omega) hp).symm)
    rw [em, es, ← nI_add]
    grind
