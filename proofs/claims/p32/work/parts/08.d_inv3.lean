/-! one comes; a minute -/
theorem comesF_lo {s : Nat → Int32} {p l len k0 x : Nat} (hx : x < 58) : comesF s p l len k0 x = if x = 2 then nI (p + 1) else if x = 13 + l then nI (len + 1) else if x = 22 + 12 * l + len then nI p else s x := by
  simp only [comesF, upd_ap]
  by_cases c1 : x = 2
  · rw [if_pos c1, if_pos c1]
  · rw [if_neg c1, if_neg c1]
    by_cases c2 : x = 13 + l
    · rw [if_pos c2, if_pos c2]
    · rw [if_neg c2, if_neg c2]
      by_cases c3 : x = 22 + 12 * l + len
      · rw [if_pos c3, if_pos c3]
      · rw [if_neg c3, if_neg c3, if_neg (by omega), if_neg (by omega), if_neg (by omega), if_neg (by omega)]
        unfold zeroF; rw [if_neg (by omega)]
theorem comesF_q {s : Nat → Int32} {p l len k0 q j : Nat} (hl : 22 + 12 * l + len < 58) (hj : j < 10) (hq : q ≠ p) : comesF s p l len k0 (58 + 10 * q + j) = s (58 + 10 * q + j) := by
  simp only [comesF, upd_ap]
  rw [if_neg (by omega), if_neg (by omega), if_neg (by omega), if_neg (by omega), if_neg (by omega), if_neg (by omega), if_neg (by omega)]
  unfold zeroF; rw [if_neg (by omega)]
theorem comesF_p {s : Nat → Int32} {p l len k0 j : Nat} (hl : 22 + 12 * l + len < 58) (hj : j < 10) : comesF s p l len k0 (58 + 10 * p + j) = if j = 8 then -9 else if j = 6 then s 0 else if j = 1 then nI l else if j = 0 then nI k0 else 0 := by
  simp only [comesF, upd_ap]
  rw [if_neg (by omega), if_neg (by omega), if_neg (by omega)]
  by_cases c1 : j = 8
  · subst c1; rw [if_pos rfl, if_pos rfl]
  · rw [if_neg (by omega), if_neg c1]
    by_cases c2 : j = 6
    · subst c2; rw [if_pos rfl, if_pos rfl]; try (unfold zeroF; rw [if_neg (by omega)])
    · rw [if_neg (by omega), if_neg c2]
      by_cases c3 : j = 1
      · subst c3; rw [if_pos rfl, if_pos rfl]
      · rw [if_neg (by omega), if_neg c3]
        by_cases c4 : j = 0
        · subst c4; rw [if_pos rfl, if_pos rfl]
        · rw [if_neg (by omega), if_neg c4]; unfold zeroF; rw [if_pos (by omega)]
/-- any step by which one, the next, comes to the end of the line l -/
theorem Inv.comeG {T : Nat} {s u : Nat → Int32} {l : Nat} (h : Inv T s) (hl : l < tn (s 1)) (hp : tn (s 2) < 30) (hlen : tn (s (13 + l)) < 12)
    (e : ∀ x, ¬ FreeC x → x < 58 → u x = if x = 2 then nI (tn (s 2) + 1) else if x = 13 + l then nI (tn (s (13 + l)) + 1) else if x = 22 + 12 * l + tn (s (13 + l)) then nI (tn (s 2)) else s x)
    (eq : ∀ q j, q < tn (s 2) → j < 10 → ¬ FreeC (58 + 10 * q + j) → u (58 + 10 * q + j) = s (58 + 10 * q + j))
    (e1 : u (58 + 10 * tn (s 2) + 1) = nI l) (e5 : u (58 + 10 * tn (s 2) + 5) = 0) (e2 : u (58 + 10 * tn (s 2) + 2) = nI 0) (e6 : u (58 + 10 * tn (s 2) + 6) = s 0) : Inv T u := by
  have hnl3 := h.nl3
  have hnow := h.now
  have f1 : u 1 = s 1 := by rw [e 1 (by unfold FreeC; omega) (by omega), if_neg (by omega), if_neg (by omega), if_neg (by omega)]
  have f0 : u 0 = s 0 := by rw [e 0 (by unfold FreeC; omega) (by omega), if_neg (by omega), if_neg (by omega), if_neg (by omega)]
  have fs : ∀ x, 6 ≤ x → x < 10 → u x = s x := fun x h1 h2 => by rw [e x (by unfold FreeC; omega) (by omega), if_neg (by omega), if_neg (by omega), if_neg (by omega)]
  have f2 : u 2 = nI (tn (s 2) + 1) := by rw [e 2 (by unfold FreeC; omega) (by omega), if_pos rfl]
  have f2t : tn (u 2) = tn (s 2) + 1 := by rw [f2]; exact tn_nI (by omega)
  have flt : ∀ y, y < 3 → u (13 + y) = if y = l then nI (tn (s (13 + l)) + 1) else s (13 + y) := fun y hy => by
    rw [e _ (by unfold FreeC; omega) (by omega), if_neg (by omega)]
    by_cases c : y = l
    · rw [if_pos (by omega), if_pos c]
    · rw [if_neg (by omega), if_neg c, if_neg (by omega)]
  have frow : ∀ y j, y < 3 → j < 12 → ¬ (y = l ∧ j = tn (s (13 + l))) → u (22 + 12 * y + j) = s (22 + 12 * y + j) := fun y j hy hj hn => by
    rw [e _ (by unfold FreeC; omega) (by omega), if_neg (by omega), if_neg (by omega), if_neg (by omega)]
  have fnew : u (22 + 12 * l + tn (s (13 + l))) = nI (tn (s 2)) := by
    rw [e _ (by unfold FreeC; omega) (by omega), if_neg (by omega), if_neg (by omega), if_pos rfl]
  have fl : tn (u (13 + l)) = tn (s (13 + l)) + 1 := by rw [flt l (by omega), if_pos rfl]; exact tn_nI (by omega)
  have fq : ∀ q, q < tn (s 2) → u (58 + 10 * q + 1) = s (58 + 10 * q + 1) ∧ u (58 + 10 * q + 2) = s (58 + 10 * q + 2) ∧ u (58 + 10 * q + 5) = s (58 + 10 * q + 5) ∧ u (58 + 10 * q + 6) = s (58 + 10 * q + 6) := fun q hq => ⟨eq q 1 hq (by omega) (by unfold FreeC; omega), eq q 2 hq (by omega) (by unfold FreeC; omega), eq q 5 hq (by omega) (by unfold FreeC; omega), eq q 6 hq (by omega) (by unfold FreeC; omega)⟩
  -- old places
  have old : ∀ y j, y < tn (s 1) → j < tn (u (13 + y)) → ¬ (y = l ∧ j = tn (s (13 + l))) → j < tn (s (13 + y)) ∧ u (22 + 12 * y + j) = s (22 + 12 * y + j) := by
    intro y j hy hj hn
    have hj' : j < tn (s (13 + y)) := by
      rw [flt y (by omega)] at hj
      by_cases c : y = l
      · subst c; rw [if_pos rfl, tn_nI (by omega)] at hj; omega
      · rw [if_neg c] at hj; exact hj
    have := h.len12 hy
    exact ⟨hj', frow y j (by omega) (by omega) hn⟩
  refine ⟨h.1, by rw [f1]; exact h.2.1, by rw [f2]; exact isN_nI (by omega), by rw [f0]; exact h.2.2.2.1, ?_, ?_, ?_, ?_, ?_⟩
  · intro y hy
    rw [f1] at hy
    have hL := h.L hy
    unfold InvL at hL ⊢
    rw [e (10 + y) (by unfold FreeC; omega) (by omega), if_neg (by omega), if_neg (by omega), if_neg (by omega), e (16 + y) (by unfold FreeC; omega) (by omega), if_neg (by omega), if_neg (by omega), if_neg (by omega), flt y (by omega)]
    by_cases c : y = l
    · rw [if_pos c]; exact ⟨hL.1, isN_nI (by omega), hL.2.2⟩
    · rw [if_neg c]; exact hL
  · intro y j hy hj
    rw [f1] at hy
    by_cases c : y = l ∧ j = tn (s (13 + l))
    · obtain ⟨rfl, rfl⟩ := c
      unfold InvR
      rw [fnew, f2t, tn_nI (by omega), e1, e5]
      exact ⟨isN_nI (by omega), by omega, rfl, rfl⟩
    · obtain ⟨hj', er⟩ := old y j hy hj c
      have hr := h.R hy hj'
      unfold InvR at hr ⊢
      obtain ⟨r1, r2, r3, r4⟩ := hr
      rw [er, f2t, (fq _ r2).1, (fq _ r2).2.2.1]
      exact ⟨r1, by omega, r3, r4⟩
  · intro y j k hy hj hk ejk
    rw [f1] at hy
    have nw : ∀ j, j < tn (s (13 + y)) → s (22 + 12 * y + j) ≠ nI (tn (s 2)) := fun j hj ej => by
      have := h.rowP hy hj
      rw [ej, tn_nI (by omega)] at this
      omega
    by_cases c1 : y = l ∧ j = tn (s (13 + l))
    · by_cases c2 : y = l ∧ k = tn (s (13 + l))
      · omega
      · exfalso
        obtain ⟨hk', er⟩ := old y k hy hk c2
        obtain ⟨rfl, rfl⟩ := c1
        rw [fnew, er] at ejk
        exact nw k hk' ejk.symm
    · obtain ⟨hj', er1⟩ := old y j hy hj c1
      by_cases c2 : y = l ∧ k = tn (s (13 + l))
      · exfalso
        obtain ⟨rfl, rfl⟩ := c2
        rw [fnew, er1] at ejk
        exact nw j hj' ejk
      · obtain ⟨hk', er2⟩ := old y k hy hk c2
        rw [er1, er2] at ejk
        exact h.D hy hj' hk' ejk
  · intro q hq
    rw [f2t] at hq
    by_cases c : q = tn (s 2)
    · subst c
      unfold InvP
      rw [e5, e1, e2, e6, f0, f1]
      exact ⟨fun _ => ⟨l, hl, rfl, tn (s (13 + l)), by rw [fl]; omega, fnew⟩, fun z => absurd rfl z, isN_nI (by omega), ⟨tn (s 0), Nat.le_refl _, hnow⟩⟩
    · have hq' : q < tn (s 2) := by omega
      have hP := h.P hq'
      obtain ⟨g1, g2, g5, g6⟩ := fq q hq'
      unfold InvP at hP ⊢
      rw [g1, g2, g5, g6, f0, f1]
      refine ⟨fun z => ?_, hP.2.1, hP.2.2.1, hP.2.2.2⟩
      obtain ⟨y, hy, h3, k, hk, h4⟩ := hP.1 z
      have := h.len12 hy
      refine ⟨y, hy, h3, k, ?_, ?_⟩
      · rw [flt y (by omega)]
        by_cases c2 : y = l
        · rw [if_pos c2, tn_nI (by omega), ← c2]; omega
        · rw [if_neg c2]; exact hk
      · rw [frow y k (by omega) (by omega) (fun z => by obtain ⟨rfl, rfl⟩ := z; omega)]
        exact h4
  · have := h.S
    unfold InvS at this ⊢
    rw [fs 6 (by omega) (by omega), fs 7 (by omega) (by omega), fs 8 (by omega) (by omega), fs 9 (by omega) (by omega)]
    exact this
theorem Inv.comes {T : Nat} {s : Nat → Int32} {l k0 : Nat} (h : Inv T s) (hl : l < tn (s 1)) (hp : tn (s 2) < 30) (hlen : tn (s (13 + l)) < 12) : Inv T (comesS s l k0) := by
  have hnl3 := h.nl3
  refine h.comeG hl hp hlen (fun x _ hx => comesF_lo hx) (fun q j hq hj _ => comesF_q (by omega) hj (by omega)) ?_ ?_ ?_ ?_ <;> unfold comesS <;> rw [comesF_p (by omega) (by omega)]
  · rw [if_neg (by omega), if_neg (by omega), if_pos rfl]
  · rw [if_neg (by omega), if_neg (by omega), if_neg (by omega), if_neg (by omega)]
  · rw [if_neg (by omega), if_neg (by omega), if_neg (by omega), if_neg (by omega), nI_z]
  · rw [if_neg (by omega), if_pos rfl]
theorem Inv.setW {T : Nat} {s : Nat → Int32} {l w : Nat} (h : Inv T s) (hl : l < tn (s 1)) (hw : w < tn (s (10 + l))) : Inv T (upd s (16 + l) (nI w)) := by
  have hnl3 := h.nl3
  have hp20 := h.pace20 hl
  have e : ∀ x, x ≠ 16 + l → upd s (16 + l) (nI w) x = s x := fun x hx => by rw [upd_ap, if_neg hx]
  have e0 := e 1 (by omega)
  refine ⟨h.1, by rw [e 1 (by omega)]; exact h.2.1, by rw [e 2 (by omega)]; exact h.2.2.1, by rw [e 0 (by omega)]; exact h.2.2.2.1, ?_, ?_, ?_, ?_, ?_⟩
  · intro y hy
    rw [e0] at hy
    have hL := h.L hy
    unfold InvL at hL ⊢
    rw [e (10 + y) (by omega), e (13 + y) (by omega)]
    by_cases c : y = l
    · subst c; rw [upd_ap, if_pos rfl, tn_nI (by omega)]; exact ⟨hL.1, hL.2.1, isN_nI (by omega), hw⟩
    · rw [e (16 + y) (by omega)]; exact hL
  · intro y j hy hj
    rw [e0] at hy; rw [e (13 + y) (by omega)] at hj
    have hr := h.R hy hj
    have := h.len12 hy
    unfold InvR at hr ⊢
    rw [e (22 + 12 * y + j) (by omega), e 2 (by omega), e (58 + 10 * _ + 5) (by omega), e (58 + 10 * _ + 1) (by omega)]; exact hr
  · intro y j k hy hj hk ejk
    rw [e0] at hy; rw [e (13 + y) (by omega)] at hj hk
    have := h.len12 hy
    rw [e (22 + 12 * y + j) (by omega), e (22 + 12 * y + k) (by omega)] at ejk
    exact h.D hy hj hk ejk
  · intro q hq
    rw [e 2 (by omega)] at hq
    have hP := h.P hq
    unfold InvP at hP ⊢
    rw [e (58 + 10 * q + 5) (by omega), e (58 + 10 * q + 1) (by omega), e (58 + 10 * q + 2) (by omega), e (58 + 10 * q + 6) (by omega), e 0 (by omega), e0]
    refine ⟨fun z => ?_, hP.2.1, hP.2.2.1, hP.2.2.2⟩
    obtain ⟨y, hy, h3, k, hk, h4⟩ := hP.1 z
    have := h.len12 hy
    exact ⟨y, hy, h3, k, by rw [e (13 + y) (by omega)]; exact hk, by rw [e (22 + 12 * y + k) (by omega)]; exact h4⟩
  · have := h.S
    unfold InvS at this ⊢
    rw [e 6 (by omega), e 7 (by omega), e 8 (by omega), e 9 (by omega)]
    exact this
theorem leavesF_16 (s : Nat → Int32) {l k len p i : Nat} {st x v : Int32} (hl : l < 3) (hi : 16 ≤ i) (hi2 : i < 22) : upd (leavesF (upd s i x) l k len p st) i v = upd (leavesF s l k len p st) i v := by
  funext j
  simp only [leavesF, shF, upd_ap]
  by_cases c : j = i
  · rw [if_pos c, if_pos c]
  · simp only [if_neg c]
    by_cases c1 : j = 58 + 10 * p + 5
    · rw [if_pos c1, if_pos c1]
    · rw [if_neg c1, if_neg c1]
      by_cases c2 : j = 58 + 10 * p + 1
      · rw [if_pos c2, if_pos c2]
      · rw [if_neg c2, if_neg c2]
        by_cases c3 : j = 13 + l
        · rw [if_pos c3, if_pos c3]
        · rw [if_neg c3, if_neg c3]
          by_cases c4 : 22 + 12 * l + k ≤ j ∧ j < 22 + 12 * l + (len - 1)
          · rw [if_pos c4, if_pos c4, if_neg (by omega)]
          · rw [if_neg c4, if_neg c4]
/-- the first of the line l, q, is served -/
def srvF (s : Nat → Int32) (l : Nat) : Nat → Int32 := upd (upd (leavesF s l 0 (tn (s (13 + l))) (tn (s (22 + 12 * l + 0))) (nI 1)) (16 + l) (nI 0)) (19 + l) (s (19 + l) + nI 1)
theorem wk2_srv {s : Nat → Int32} {l : Nat} (hl : l < 3) (h12 : tn (s (13 + l)) ≤ 12) : wk2 (wk1 s l) l = srvF s l := by
  unfold wk2 srvF wk1
  simp only
  have e1 : upd s (16 + l) (s (16 + l) + nI 1) (13 + l) = s (13 + l) := by rw [upd_ap, if_neg (by omega)]
  have e2 : upd s (16 + l) (s (16 + l) + nI 1) (22 + 12 * l + 0) = s (22 + 12 * l + 0) := by rw [upd_ap, if_neg (by omega)]
  rw [e1, e2, leavesF_16 s hl (by omega) (by omega)]
  congr 1
  rw [upd_ap, if_neg (by omega), lvF_16 (by omega) (by omega) hl]
/-- what the counter of the line l does in a minute, in three cases -/
theorem Inv.wk {T : Nat} {s : Nat → Int32} {l : Nat} (h : Inv T s) (hl : l < tn (s 1)) : (tn (s (13 + l)) = 0 ∧ wkF s l = s ∧ wkN s l = 0) ∨ (0 < tn (s (13 + l)) ∧ tn (s (16 + l)) + 1 < tn (s (10 + l)) ∧ wkF s l = upd s (16 + l) (nI (tn (s (16 + l)) + 1)) ∧ wkN s l = 0) ∨ (0 < tn (s (13 + l)) ∧ tn (s (16 + l)) + 1 = tn (s (10 + l)) ∧ wkF s l = srvF s l ∧ wkN s l = 1) := by
  have hnl3 := h.nl3
  have hw := h.workedP hl
  have hp20 := h.pace20 hl
  have e16 : wk1 s l (16 + l) = nI (tn (s (16 + l)) + 1) := by unfold wk1; rw [upd_ap, if_pos rfl, h.worked hl, nI_add, tn_nI (by omega)]
  have e10 : wk1 s l (10 + l) = nI (tn (s (10 + l))) := by unfold wk1; rw [upd_ap, if_neg (by omega)]; exact h.pace hl
  by_cases c0 : 0 < tn (s (13 + l))
  · by_cases c1 : tn (s (16 + l)) + 1 < tn (s (10 + l))
    · have hc : wk1 s l (16 + l) < wk1 s l (10 + l) := by rw [e16, e10]; exact (nI_ltI (by omega) (by omega)).mpr c1
      refine Or.inr (Or.inl ⟨c0, c1, ?_, by unfold wkN; rw [ic_t c0, ic_t hc]⟩)
      unfold wkF
      rw [ic_t c0, ic_t hc]
      unfold wk1
      rw [h.worked hl, nI_add, tn_nI (by omega)]
    · have hc : ¬ wk1 s l (16 + l) < wk1 s l (10 + l) := by rw [e16, e10]; exact fun z => c1 ((nI_ltI (by omega) (by omega)).mp z)
      refine Or.inr (Or.inr ⟨c0, by omega, ?_, by unfold wkN; rw [ic_t c0, ic_f hc]⟩)
      unfold wkF
      rw [ic_t c0, ic_f hc]
      exact wk2_srv (by omega) (h.len12 hl)
  · exact Or.inl ⟨by omega, by unfold wkF; rw [ic_f c0], by unfold wkN; rw [ic_f c0]⟩
theorem Inv.srv {T : Nat} {s : Nat → Int32} {l : Nat} (h : Inv T s) (hl : l < tn (s 1)) (h0 : 0 < tn (s (13 + l))) : Inv T (srvF s l) := by
  have hnl3 := h.nl3
  have hq := Nat.lt_of_lt_of_le (h.rowP hl h0) h.np30
  have h1 : Inv T (leavesF s l 0 (tn (s (13 + l))) (tn (s (22 + 12 * l + 0))) (nI 1)) := h.leaves hl h0 (h.row hl h0) hq (by decide +kernel)
  have hw := h.workedP hl
  refine Inv.free (h1.setW (by rw [lvF_h (by omega)]; exact hl) (by rw [lvF_h (by omega)]; omega)) (by unfold FreeC; omega) _
theorem Inv.wkI {T : Nat} {s : Nat → Int32} {l : Nat} (h : Inv T s) (hl : l < tn (s 1)) : Inv T (wkF s l) := by
  rcases h.wk hl with ⟨_, e, _⟩ | ⟨_, h2, e, _⟩ | ⟨h1, _, e, _⟩ <;> rw [e]
  · exact h
  · exact h.setW hl h2
  · exact h.srv hl h1
theorem wkF_1 {s : Nat → Int32} {l : Nat} (hl : l < 3) (h12 : tn (s (13 + l)) ≤ 12) : wkF s l 1 = s 1 := wkF_out hl (by unfold Lc; omega) h12
theorem Inv.workK {T : Nat} {s : Nat → Int32} (h : Inv T s) : ∀ {n : Nat}, n ≤ tn (s 1) → Inv T (workTo s n) ∧ workTo s n 1 = s 1
  | 0, _ => ⟨h, rfl⟩
  | n + 1, hn => by
    obtain ⟨i1, i2⟩ := Inv.workK h (n := n) (by omega)
    have hnl3 := h.nl3
    have hl' : n < tn (workTo s n 1) := by rw [i2]; omega
    exact ⟨i1.wkI hl', (wkF_1 (by omega) (i1.len12 hl')).trans i2⟩
/-- certificates: everyone who stands, one minute more -/
theorem min1_p2 {s : Nat → Int32} {p : Nat} (hp : p < tn (s 2)) : min1 s (58 + 10 * p + 2) = s (58 + 10 * p + 2) + ic (s (58 + 10 * p + 5) = 0) (nI 1) (nI 0) := by
  unfold min1
  rw [certTo_in hp, upd_ap, if_neg (by omega), upd_ap, if_neg (by omega)]
theorem min1_0 {s : Nat → Int32} : min1 s 0 = s 0 + nI 1 := by
  unfold min1
  rw [certTo_out (fun p _ => by omega), upd_ap, if_pos rfl]
theorem min1_p2N {T : Nat} {s : Nat → Int32} (h : Inv T s) {p : Nat} (hp : p < tn (s 2)) : min1 s (58 + 10 * p + 2) = nI (tn (s (58 + 10 * p + 2)) + ic (s (58 + 10 * p + 5) = 0) 1 0) := by
  have h1 := h.stoodT hp; have h2 := h.nowT; have h3 := h.T6
  rw [min1_p2 hp, h.stood hp, tn_nI (by omega)]
  by_cases c : s (58 + 10 * p + 5) = 0
  · rw [ic_t c, ic_t c, nI_add]
  · rw [ic_f c, ic_f c, nI_add]
theorem Inv.cert {T : Nat} {s : Nat → Int32} (h : Inv T s) (hT : T + 1 ≤ 1000000) : Inv (T + 1) (min1 s) := by
  have hnl3 := h.nl3
  have hnow := h.nowT
  have e : ∀ x, x ≠ 0 → (∀ p, p < tn (s 2) → x ≠ 58 + 10 * p + 2) → min1 s x = s x := fun x h0 hx => min1_out h0 hx
  have e0 : min1 s 0 = nI (tn (s 0) + 1) := by rw [min1_0, h.now, nI_add, tn_nI (by omega)]
  have e0t : tn (min1 s 0) = tn (s 0) + 1 := by rw [e0]; exact tn_nI (by omega)
  have e1 := e 1 (by omega) (fun p _ => by omega)
  have e2 := e 2 (by omega) (fun p _ => by omega)
  have h12 : ∀ {y : Nat}, y < tn (s 1) → tn (s (13 + y)) ≤ 12 := fun hy => h.len12 hy
  refine ⟨hT, by rw [e1]; exact h.2.1, by rw [e2]; exact h.2.2.1, by rw [e0]; exact isN_nI (by omega), ?_, ?_, ?_, ?_, ?_⟩
  · intro y hy
    rw [e1] at hy
    have hL := h.L hy
    unfold InvL at hL ⊢
    rw [e (10 + y) (by omega) (fun p _ => by omega), e (13 + y) (by omega) (fun p _ => by omega), e (16 + y) (by omega) (fun p _ => by omega)]; exact hL
  · intro y j hy hj
    rw [e1] at hy; rw [e (13 + y) (by omega) (fun p _ => by omega)] at hj
    have hr := h.R hy hj
    have := h12 hy
    unfold InvR at hr ⊢
    rw [e (22 + 12 * y + j) (by omega) (fun p _ => by omega), e2, e (58 + 10 * _ + 5) (by omega) (fun p _ => by omega), e (58 + 10 * _ + 1) (by omega) (fun p _ => by omega)]; exact hr
  · intro y j k hy hj hk ejk
    rw [e1] at hy; rw [e (13 + y) (by omega) (fun p _ => by omega)] at hj hk
    have := h12 hy
    rw [e (22 + 12 * y + j) (by omega) (fun p _ => by omega), e (22 + 12 * y + k) (by omega) (fun p _ => by omega)] at ejk
    exact h.D hy hj hk ejk
  · intro q hq
    rw [e2] at hq
    have hP := h.P hq
    have hst := h.stoodT hq
    unfold InvP at hP ⊢
    rw [e (58 + 10 * q + 5) (by omega) (fun p _ => by omega), e (58 + 10 * q + 1) (by omega) (fun p _ => by omega), min1_p2N h hq, e (58 + 10 * q + 6) (by omega) (fun p _ => by omega), e0t, e1]
    refine ⟨fun z => ?_, hP.2.1, isN_nI ?_, hP.2.2.2.mono (by omega)⟩
    · obtain ⟨y, hy, h3, k, hk, h4⟩ := hP.1 z
      have := h12 hy
      exact ⟨y, hy, h3, k, by rw [e (13 + y) (by omega) (fun p _ => by omega)]; exact hk, by rw [e (22 + 12 * y + k) (by omega) (fun p _ => by omega)]; exact h4⟩
    · by_cases c : s (58 + 10 * q + 5) = 0
      · rw [ic_t c]; omega
      · rw [ic_f c]; omega
  · have := h.S
    unfold InvS at this ⊢
    rw [e 6 (by omega) (fun p _ => by omega), e 7 (by omega) (fun p _ => by omega), e 8 (by omega) (fun p _ => by omega), e 9 (by omega) (fun p _ => by omega)]
    exact this
theorem payTo_nf {t : Nat → Int32} {n x : Nat} (hx : ¬ FreeC x) : payTo t n x = t x := payTo_out (fun p _ => ⟨fun e => hx (by unfold FreeC; omega), fun e => hx (by unfold FreeC; omega)⟩) (fun e => hx (by unfold FreeC; omega))
theorem Inv.pay {T : Nat} {s : Nat → Int32} (h : Inv T s) (n : Nat) : Inv T (payTo s n) := h.freeF (fun _ hx => payTo_nf hx)
theorem Inv.min2K {T : Nat} {s : Nat → Int32} (h : Inv T s) (hT : T + 1 ≤ 1000000) : Inv (T + 1) (min2 s) := by
  have e1 : min1 s 1 = s 1 := min1_out (by omega) (fun p _ => by omega)
  exact ((h.cert hT).workK (by rw [e1]; exact Nat.le_refl _)).1
theorem Inv.minute {T : Nat} {s : Nat → Int32} (h : Inv T s) (hT : T + 1 ≤ 1000000) : Inv (T + 1) (minuteS s) := (h.min2K hT).pay _
theorem Inv.goBy {T : Nat} {s : Nat → Int32} (h : Inv T s) : ∀ {n : Nat}, T + n ≤ 1000000 → Inv (T + n) (goByS s n)
  | 0, _ => h
  | n + 1, hn => (Inv.goBy h (n := n) (by omega)).minute (by omega)
