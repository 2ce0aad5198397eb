/-! THE INVARIANT IS KEPT -/
def SameP (u s : Nat → Int32) : Prop := ∀ p, p < tn (s 2) → u (58 + 10 * p + 1) = s (58 + 10 * p + 1) ∧ u (58 + 10 * p + 2) = s (58 + 10 * p + 2) ∧ u (58 + 10 * p + 5) = s (58 + 10 * p + 5) ∧ u (58 + 10 * p + 6) = s (58 + 10 * p + 6)
def SameH (u s : Nat → Int32) : Prop := ∀ i, i < 10 → i ≠ 3 → i ≠ 4 → i ≠ 5 → u i = s i
def SameL (u s : Nat → Int32) : Prop := ∀ y, y < tn (s 1) → u (10 + y) = s (10 + y) ∧ u (13 + y) = s (13 + y) ∧ u (16 + y) = s (16 + y)
def SameR (u s : Nat → Int32) : Prop := ∀ y k, y < tn (s 1) → k < tn (s (13 + y)) → u (22 + 12 * y + k) = s (22 + 12 * y + k)
/-- rows rearranged within the line l alone -/
theorem Inv.perm {T : Nat} {s u : Nat → Int32} {l : Nat} (h : Inv T s) (hl : l < tn (s 1)) (e0 : SameH u s) (eL : SameL u s) (eP : SameP u s)
    (eR : ∀ y k, y < tn (s 1) → y ≠ l → k < tn (s (13 + y)) → u (22 + 12 * y + k) = s (22 + 12 * y + k))
    (f1 : ∀ k, k < tn (s (13 + l)) → ∃ i, i < tn (s (13 + l)) ∧ u (22 + 12 * l + k) = s (22 + 12 * l + i))
    (f2 : ∀ k, k < tn (s (13 + l)) → ∃ i, i < tn (s (13 + l)) ∧ u (22 + 12 * l + i) = s (22 + 12 * l + k))
    (f3 : ∀ i k, i < tn (s (13 + l)) → k < tn (s (13 + l)) → u (22 + 12 * l + i) = u (22 + 12 * l + k) → i = k) : Inv T u := by
  have e1 := e0 1 (by omega) (by omega) (by omega) (by omega)
  have e2 := e0 2 (by omega) (by omega) (by omega) (by omega)
  have e00 := e0 0 (by omega) (by omega) (by omega) (by omega)
  have e6 := e0 6 (by omega) (by omega) (by omega) (by omega)
  have e7 := e0 7 (by omega) (by omega) (by omega) (by omega)
  have e8 := e0 8 (by omega) (by omega) (by omega) (by omega)
  have e9 := e0 9 (by omega) (by omega) (by omega) (by omega)
  have rows : ∀ y k, y < tn (s 1) → k < tn (s (13 + y)) → ∃ i, i < tn (s (13 + y)) ∧ u (22 + 12 * y + k) = s (22 + 12 * y + i) := by
    intro y k hy hk
    by_cases hyl : y = l
    · subst hyl; exact f1 k hk
    · exact ⟨k, hk, eR y k hy hyl hk⟩
  have rows2 : ∀ y k, y < tn (s 1) → k < tn (s (13 + y)) → ∃ i, i < tn (s (13 + y)) ∧ u (22 + 12 * y + i) = s (22 + 12 * y + k) := by
    intro y k hy hk
    by_cases hyl : y = l
    · subst hyl; exact f2 k hk
    · exact ⟨k, hk, eR y k hy hyl hk⟩
  obtain ⟨hT, h1, h2, h0, hL, hR, hD, hP, hS⟩ := h
  refine ⟨hT, by rw [e1]; exact h1, by rw [e2]; exact h2, by rw [e00]; exact h0, ?_, ?_, ?_, ?_, ?_⟩
  · intro y hy; rw [e1] at hy
    obtain ⟨a, b, c⟩ := eL y hy
    have := hL y hy
    unfold InvL at this ⊢
    rw [a, b, c]; exact this
  · intro y k hy hk; rw [e1] at hy
    rw [(eL y hy).2.1] at hk
    obtain ⟨i, hi, ei⟩ := rows y k hy hk
    have hr := hR y i hy hi
    unfold InvR at hr ⊢
    obtain ⟨r1, r2, r3, r4⟩ := hr
    have ep := eP _ r2
    rw [ei, e2, ep.2.2.1, ep.1]
    exact ⟨r1, r2, r3, r4⟩
  · intro y j k hy hj hk he
    rw [e1] at hy; rw [(eL y hy).2.1] at hj hk
    by_cases hyl : y = l
    · subst hyl; exact f3 j k hj hk he
    · rw [eR y j hy hyl hj, eR y k hy hyl hk] at he
      exact hD y j k hy hj hk he
  · intro p hp; rw [e2] at hp
    have ep := eP p hp
    have := hP p hp
    unfold InvP at this ⊢
    rw [ep.1, ep.2.1, ep.2.2.1, ep.2.2.2, e00, e1]
    refine ⟨fun q => ?_, this.2.1, this.2.2.1, this.2.2.2⟩
    obtain ⟨y, hy, h3, k, hk, h4⟩ := this.1 q
    obtain ⟨i, hi, ei⟩ := rows2 y k hy hk
    exact ⟨y, hy, h3, i, by rw [(eL y hy).2.1]; exact hi, by rw [ei]; exact h4⟩
  · unfold InvS at hS ⊢; rw [e6, e7, e8, e9]; exact hS
theorem Inv.same {T : Nat} {s u : Nat → Int32} (h : Inv T s) (e0 : SameH u s) (eL : SameL u s) (eR : SameR u s) (eP : SameP u s) : Inv T u := by
  by_cases hz : 0 < tn (s 1)
  · refine h.perm hz e0 eL eP (fun y k hy _ hk => eR y k hy hk) (fun k hk => ⟨k, hk, eR 0 k hz hk⟩) (fun k hk => ⟨k, hk, eR 0 k hz hk⟩) (fun i k hi hk e => ?_)
    rw [eR 0 i hz hi, eR 0 k hz hk] at e
    exact h.D hz hi hk e
  · have e1 := e0 1 (by omega) (by omega) (by omega) (by omega)
    have e2 := e0 2 (by omega) (by omega) (by omega) (by omega)
    have e00 := e0 0 (by omega) (by omega) (by omega) (by omega)
    have e6 := e0 6 (by omega) (by omega) (by omega) (by omega)
    have e7 := e0 7 (by omega) (by omega) (by omega) (by omega)
    have e8 := e0 8 (by omega) (by omega) (by omega) (by omega)
    have e9 := e0 9 (by omega) (by omega) (by omega) (by omega)
    obtain ⟨hT, h1, h2, h0, hL, hR, hD, hP, hS⟩ := h
    refine ⟨hT, by rw [e1]; exact h1, by rw [e2]; exact h2, by rw [e00]; exact h0, fun y hy => by rw [e1] at hy; omega, fun y k hy => by rw [e1] at hy; omega, fun y j k hy => by rw [e1] at hy; omega, ?_, ?_⟩
    · intro p hp; rw [e2] at hp
      have ep := eP p hp
      have := hP p hp
      unfold InvP at this ⊢
      rw [ep.1, ep.2.1, ep.2.2.1, ep.2.2.2, e00, e1]
      exact ⟨fun q => by obtain ⟨y, hy, -⟩ := this.1 q; omega, this.2.1, this.2.2.1, this.2.2.2⟩
    · unfold InvS at hS ⊢; rw [e6, e7, e8, e9]; exact hS
/-- cells of which the invariant says nothing -/
def FreeC (i : Nat) : Prop := i = 3 ∨ i = 4 ∨ i = 5 ∨ (19 ≤ i ∧ i < 22) ∨ (58 ≤ i ∧ ((i - 58) % 10 = 0 ∨ (i - 58) % 10 = 3 ∨ (i - 58) % 10 = 4 ∨ 7 ≤ (i - 58) % 10))
theorem Inv.freeF {T : Nat} {s u : Nat → Int32} (h : Inv T s) (e : ∀ i, ¬ FreeC i → u i = s i) : Inv T u := by
  refine h.same (fun i h1 h2 h3 h4 => e i (by unfold FreeC; omega)) (fun y hy => ?_) (fun y k hy hk => ?_) (fun p hp => ?_)
  · have := h.nl3
    exact ⟨e _ (by unfold FreeC; omega), e _ (by unfold FreeC; omega), e _ (by unfold FreeC; omega)⟩
  · have := h.nl3
    have := h.len12 hy
    exact e _ (by unfold FreeC; omega)
  · exact ⟨e _ (by unfold FreeC; omega), e _ (by unfold FreeC; omega), e _ (by unfold FreeC; omega), e _ (by unfold FreeC; omega)⟩
theorem Inv.free {T : Nat} {s : Nat → Int32} (h : Inv T s) {i : Nat} (hi : FreeC i) (v : Int32) : Inv T (upd s i v) :=
  h.freeF (fun j hj => by rw [upd_ap, if_neg (fun e : j = i => hj (e ▸ hi))])
section LVF
variable {s : Nat → Int32} {l k len p : Nat} {st : Int32}
theorem lvF_h {i : Nat} (h : i < 13) : leavesF s l k len p st i = s i := leavesF_out (by omega) (by omega) (by omega) (Or.inl (by omega))
theorem lvF_16 {i : Nat} (h : 16 ≤ i) (h2 : i < 22) (hl : l < 3) : leavesF s l k len p st i = s i := leavesF_out (by omega) (by omega) (by omega) (Or.inl (by omega))
theorem lvF_13 {y : Nat} (hl : l < 3) (hy : y < 3) : leavesF s l k len p st (13 + y) = if y = l then nI (len - 1) else s (13 + y) := by
  simp only [leavesF, upd_ap]
  rw [if_neg (by omega), if_neg (by omega)]
  by_cases e : y = l
  · subst e; rw [if_pos rfl, if_pos rfl]
  · rw [if_neg (by omega), if_neg e, shF_out _ (by omega)]
theorem lvF_r {y j : Nat} (hl : l < 3) (hy : y < 3) (hj : j < 12) (h12 : len ≤ 12) : leavesF s l k len p st (22 + 12 * y + j) = if y = l ∧ k ≤ j ∧ j + 1 < len then s (22 + 12 * y + (j + 1)) else s (22 + 12 * y + j) := by
  simp only [leavesF, upd_ap]
  rw [if_neg (by omega), if_neg (by omega), if_neg (by omega)]
  unfold shF
  by_cases e : y = l ∧ k ≤ j ∧ j + 1 < len
  · rw [if_pos e, if_pos (by obtain ⟨rfl, _, _⟩ := e; omega)]; rfl
  · rw [if_neg e, if_neg (by intro z; exact e (by omega))]
theorem lvF_p1 {q : Nat} (hl : l < 3) (h12 : len ≤ 12) : leavesF s l k len p st (58 + 10 * q + 1) = if q = p then -1 else s (58 + 10 * q + 1) := by
  simp only [leavesF, upd_ap]
  rw [if_neg (by omega)]
  by_cases e : q = p
  · subst e; rw [if_pos rfl, if_pos rfl]
  · rw [if_neg (by omega), if_neg e, if_neg (by omega), shF_out _ (by omega)]
theorem lvF_p5 {q : Nat} (hl : l < 3) (h12 : len ≤ 12) : leavesF s l k len p st (58 + 10 * q + 5) = if q = p then st else s (58 + 10 * q + 5) := by
  simp only [leavesF, upd_ap]
  by_cases e : q = p
  · subst e; rw [if_pos rfl, if_pos rfl]
  · rw [if_neg (by omega), if_neg e, if_neg (by omega), if_neg (by omega), shF_out _ (by omega)]
theorem lvF_pj {q j : Nat} (hl : l < 3) (h12 : len ≤ 12) (h10 : j < 10) (h1 : j ≠ 1) (h5 : j ≠ 5) : leavesF s l k len p st (58 + 10 * q + j) = s (58 + 10 * q + j) := leavesF_out (by omega) (by omega) (by omega) (Or.inr (by omega))
end LVF
theorem Inv.leaves {T : Nat} {s : Nat → Int32} {l k p : Nat} {st : Int32} (h : Inv T s) (hl : l < tn (s 1)) (hk : k < tn (s (13 + l))) (hp : s (22 + 12 * l + k) = nI p) (hp30 : p < 30) (hst : st ≠ 0) : Inv T (leavesF s l k (tn (s (13 + l))) p st) := by
  have hnl3 := h.nl3
  have hl3 := Nat.lt_of_lt_of_le hl h.nl3
  have h12 := h.len12 hl
  have hpp : tn (s (22 + 12 * l + k)) = p := by rw [hp]; exact tn_nI (by omega)
  have hr := h.R hl hk
  unfold InvR at hr
  rw [hpp] at hr
  obtain ⟨-, hpn, hps, hpl⟩ := hr
  obtain ⟨u, hu⟩ : ∃ u, u = leavesF s l k (tn (s (13 + l))) p st := ⟨_, rfl⟩
  rw [← hu]
  have eh : ∀ i, i < 13 → u i = s i := fun i hi => by rw [hu]; exact lvF_h hi
  have e16 : ∀ y, y < 3 → u (16 + y) = s (16 + y) := fun y hy => by rw [hu]; exact lvF_16 (by omega) (by omega) hl3
  have e13 : ∀ y, y < 3 → u (13 + y) = if y = l then nI (tn (s (13 + l)) - 1) else s (13 + y) := fun y hy => by rw [hu]; exact lvF_13 hl3 hy
  have er : ∀ y j, y < 3 → j < 12 → u (22 + 12 * y + j) = if y = l ∧ k ≤ j ∧ j + 1 < tn (s (13 + l)) then s (22 + 12 * y + (j + 1)) else s (22 + 12 * y + j) := fun y j hy hj => by rw [hu]; exact lvF_r hl3 hy hj h12
  have e1 : ∀ q, u (58 + 10 * q + 1) = if q = p then -1 else s (58 + 10 * q + 1) := fun q => by rw [hu]; exact lvF_p1 hl3 h12
  have e5 : ∀ q, u (58 + 10 * q + 5) = if q = p then st else s (58 + 10 * q + 5) := fun q => by rw [hu]; exact lvF_p5 hl3 h12
  have ej : ∀ q, u (58 + 10 * q + 2) = s (58 + 10 * q + 2) ∧ u (58 + 10 * q + 6) = s (58 + 10 * q + 6) := fun q => by rw [hu]; exact ⟨lvF_pj hl3 h12 (by omega) (by omega) (by omega), lvF_pj hl3 h12 (by omega) (by omega) (by omega)⟩
  clear hu
  have elen : u (13 + l) = nI (tn (s (13 + l)) - 1) := by rw [e13 l hl3, if_pos rfl]
  have elen2 : tn (u (13 + l)) = tn (s (13 + l)) - 1 := by rw [elen]; exact tn_nI (by omega)
  -- where the rows of u come from
  have src : ∀ y j, y < tn (s 1) → j < tn (u (13 + y)) → ∃ i, i < tn (s (13 + y)) ∧ (y = l → i ≠ k) ∧ (y = l → i = if k ≤ j then j + 1 else j) ∧ (y ≠ l → i = j) ∧ u (22 + 12 * y + j) = s (22 + 12 * y + i) := by
    intro y j hy hj
    by_cases hyl : y = l
    · subst hyl
      rw [elen2] at hj
      rw [er y j hl3 (by omega)]
      by_cases hkj : k ≤ j
      · exact ⟨j + 1, by omega, fun _ => by omega, fun _ => by rw [if_pos hkj], fun q => absurd rfl q, by rw [if_pos ⟨rfl, hkj, by omega⟩]⟩
      · exact ⟨j, by omega, fun _ => by omega, fun _ => by rw [if_neg hkj], fun q => absurd rfl q, by rw [if_neg (fun z => hkj z.2.1)]⟩
    · rw [e13 y (by omega), if_neg hyl] at hj
      have := h.len12 hy
      exact ⟨j, hj, fun q => absurd q hyl, fun q => absurd q hyl, fun _ => rfl, by rw [er y j (by omega) (by omega), if_neg (fun z => hyl z.1)]⟩
  have other : ∀ y i, y < tn (s 1) → i < tn (s (13 + y)) → (y = l → i ≠ k) → tn (s (22 + 12 * y + i)) ≠ p := by
    intro y i hy hi hne e
    have hr := h.R hy hi
    unfold InvR at hr
    rw [e, hpl] at hr
    have hyl : l = y := (nI_eq (by omega) (by omega)).mp hr.2.2.2
    subst hyl
    exact hne rfl (h.D hl hi hk (by rw [h.row hl hi, e, hp]))
  refine ⟨h.1, by rw [eh 1 (by omega)]; exact h.2.1, by rw [eh 2 (by omega)]; exact h.2.2.1, by rw [eh 0 (by omega)]; exact h.2.2.2.1, ?_, ?_, ?_, ?_, ?_⟩
  · intro y hy
    rw [eh 1 (by omega)] at hy
    have := h.L hy
    unfold InvL at this ⊢
    rw [eh (10 + y) (by omega), e16 y (by omega), e13 y (by omega)]
    by_cases hyl : y = l
    · rw [if_pos hyl]; exact ⟨this.1, isN_nI (by omega), this.2.2⟩
    · rw [if_neg hyl]; exact this
  · intro y j hy hj
    rw [eh 1 (by omega)] at hy
    obtain ⟨i, hi, hik, -, -, e⟩ := src y j hy hj
    have hr := h.R hy hi
    have ho := other y i hy hi hik
    unfold InvR at hr ⊢
    rw [e, eh 2 (by omega), e5, e1, if_neg ho, if_neg ho]
    exact hr
  · intro y j j2 hy hj hj2 e
    rw [eh 1 (by omega)] at hy
    obtain ⟨i, hi, -, a1, a2, ei⟩ := src y j hy hj
    obtain ⟨i2, hi2, -, b1, b2, ei2⟩ := src y j2 hy hj2
    rw [ei, ei2] at e
    have := h.D hy hi hi2 e
    by_cases hyl : y = l
    · have a := a1 hyl; have b := b1 hyl
      split at a <;> split at b <;> omega
    · have a := a2 hyl; have b := b2 hyl; omega
  · intro q hq
    rw [eh 2 (by omega)] at hq
    have hP := h.P hq
    unfold InvP at hP ⊢
    rw [eh 0 (by omega), (ej q).1, (ej q).2, e5, e1, eh 1 (by omega)]
    by_cases hqp : q = p
    · rw [if_pos hqp, if_pos hqp]
      exact ⟨fun z => absurd z hst, fun _ => rfl, hP.2.2.1, hP.2.2.2⟩
    · rw [if_neg hqp, if_neg hqp]
      refine ⟨fun z => ?_, hP.2.1, hP.2.2.1, hP.2.2.2⟩
      obtain ⟨y, hy, h3, i, hi, h4⟩ := hP.1 z
      refine ⟨y, hy, h3, ?_⟩
      by_cases hyl : y = l
      · subst hyl
        have hik : i ≠ k := fun e => by
          rw [e, hp] at h4
          have hq30 := Nat.lt_of_lt_of_le hq h.np30
          exact hqp ((nI_eq (by omega) (by omega)).mp h4).symm
        by_cases hki : k < i
        · refine ⟨i - 1, by rw [elen2]; omega, ?_⟩
          rw [er y (i - 1) hl3 (by omega), if_pos ⟨rfl, by omega, by omega⟩, ← h4]
          congr 1; omega
        · refine ⟨i, by rw [elen2]; omega, ?_⟩
          rw [er y i hl3 (by omega), if_neg (fun z => by omega)]
          exact h4
      · refine ⟨i, by rw [e13 y (by omega), if_neg hyl]; exact hi, ?_⟩
        have := h.len12 hy
        rw [er y i (by omega) (by omega), if_neg (fun z => hyl z.1)]
        exact h4
  · have := h.S
    unfold InvS at this ⊢
    rw [eh 6 (by omega), eh 7 (by omega), eh 8 (by omega), eh 9 (by omega)]
    exact this
theorem Inv.goes {T : Nat} {s : Nat → Int32} {p : Nat} (h : Inv T s) (hp : p < tn (s 2)) (hs : s (58 + 10 * p + 5) = 0) : Inv T (goesS s p) := by
  obtain ⟨h1, h2, h3, h4, -⟩ := h.plcs hp hs
  exact h.leaves h1 h3 h4 (Nat.lt_of_lt_of_le hp h.np30) (by decide +kernel)
/-- two places of the line l change what they hold; what else changes is nobody's matter here -/
theorem Inv.swap {T : Nat} {s u : Nat → Int32} {l i j : Nat} (h : Inv T s) (hl : l < tn (s 1)) (hi : i < tn (s (13 + l))) (hj : j < tn (s (13 + l))) (hij : i ≠ j)
    (ei : u (22 + 12 * l + i) = s (22 + 12 * l + j)) (ejj : u (22 + 12 * l + j) = s (22 + 12 * l + i)) (e : ∀ x, ¬ FreeC x → x ≠ 22 + 12 * l + i → x ≠ 22 + 12 * l + j → u x = s x) : Inv T u := by
  have hnl3 := h.nl3
  have h12 := h.len12 hl
  have er : ∀ x, x < tn (s (13 + l)) → x ≠ i → x ≠ j → u (22 + 12 * l + x) = s (22 + 12 * l + x) := fun x hx h1 h2 => e _ (by unfold FreeC; omega) (by omega) (by omega)
  refine h.perm hl (fun x h1 h2 h3 h4 => e x (by unfold FreeC; omega) (by omega) (by omega)) (fun y hy => ⟨e _ (by unfold FreeC; omega) (by omega) (by omega), e _ (by unfold FreeC; omega) (by omega) (by omega), e _ (by unfold FreeC; omega) (by omega) (by omega)⟩)
    (fun p hp => ⟨e _ (by unfold FreeC; omega) (by omega) (by omega), e _ (by unfold FreeC; omega) (by omega) (by omega), e _ (by unfold FreeC; omega) (by omega) (by omega), e _ (by unfold FreeC; omega) (by omega) (by omega)⟩)
    (fun y k hy hyl hk => by have := h.len12 hy; exact e _ (by unfold FreeC; omega) (by omega) (by omega)) ?_ ?_ ?_
  · intro k hk
    by_cases h1 : k = i
    · subst h1; exact ⟨j, hj, ei⟩
    · by_cases h2 : k = j
      · subst h2; exact ⟨i, hi, ejj⟩
      · exact ⟨k, hk, er k hk h1 h2⟩
  · intro k hk
    by_cases h1 : k = i
    · subst h1; exact ⟨j, hj, ejj⟩
    · by_cases h2 : k = j
      · subst h2; exact ⟨i, hi, ei⟩
      · exact ⟨k, hk, er k hk h1 h2⟩
  · have key : ∀ x, x < tn (s (13 + l)) → ∃ y, y < tn (s (13 + l)) ∧ u (22 + 12 * l + x) = s (22 + 12 * l + y) ∧ (x = i → y = j) ∧ (x = j → y = i) ∧ (x ≠ i → x ≠ j → y = x) := by
      intro k hk
      by_cases h1 : k = i
      · subst h1; exact ⟨j, hj, ei, fun _ => rfl, fun q => absurd q hij, fun q => absurd rfl q⟩
      · by_cases h2 : k = j
        · subst h2; exact ⟨i, hi, ejj, fun q => absurd q h1, fun _ => rfl, fun _ q => absurd rfl q⟩
        · exact ⟨k, hk, er k hk h1 h2, fun q => absurd q h1, fun q => absurd q h2, fun _ _ => rfl⟩
    intro a b ha hb eab
    obtain ⟨a', ha', ea, a1, a2, a3⟩ := key a ha
    obtain ⟨b', hb', eb, b1, b2, b3⟩ := key b hb
    rw [ea, eb] at eab
    have := h.D hl ha' hb' eab
    by_cases p1 : a = i <;> by_cases p2 : a = j <;> by_cases p3 : b = i <;> by_cases p4 : b = j <;> omega
theorem exchF_row {s : Nat → Int32} {p q l i j : Nat} {pay : Int32} : ∀ x, x < 58 → x ≠ 3 → exchF s p q l i j pay x = if x = 22 + 12 * l + j then nI p else if x = 22 + 12 * l + i then nI q else s x := by
  intro x hx h3
  simp only [exchF, upd_ap]
  rw [if_neg h3, if_neg (by omega), if_neg (by omega), if_neg (by omega), if_neg (by omega)]
theorem exchF_p {s : Nat → Int32} {p q l i j : Nat} {pay : Int32} (h1 : 22 + 12 * l + i < 58) (h2 : 22 + 12 * l + j < 58) {x : Nat} (hx : 58 ≤ x) (h3 : (x - 58) % 10 ≠ 3) (h7 : (x - 58) % 10 ≠ 7) : exchF s p q l i j pay x = s x := by
  simp only [exchF, upd_ap]
  rw [if_neg (by omega), if_neg (by omega), if_neg (by omega), if_neg (by omega), if_neg (by omega), if_neg (by omega), if_neg (by omega)]
theorem Inv.exch {T : Nat} {s : Nat → Int32} {p q : Nat} (h : Inv T s) (hp : p < tn (s 2)) (hq : q < tn (s 2)) (hm : MayX s p q) : Inv T (exchS s p q) := by
  obtain ⟨m1, m2, m3, m4, -⟩ := hm
  obtain ⟨a1, a2, a3, a4, -⟩ := h.plcs hp m1
  obtain ⟨b1, b2, b3, b4, -⟩ := h.plcs hq m2
  have hli : liN s q = liN s p := by show tn _ = tn _; rw [m3]
  rw [hli] at b3 b4
  have hl3 := Nat.lt_of_lt_of_le a1 h.nl3
  have h12 := h.len12 a1
  refine h.swap a1 a3 b3 (by omega) ?_ ?_ (fun x hx h1 h2 => ?_)
  · unfold exchS
    rw [exchF_row _ (by omega) (by omega), if_neg (by omega), if_pos rfl, b4]
  · unfold exchS
    rw [exchF_row _ (by omega) (by omega), if_pos rfl, a4]
  · unfold exchS
    by_cases hx58 : x < 58
    · rw [exchF_row _ hx58 (fun z => hx (Or.inl z)), if_neg h2, if_neg h1]
    · refine exchF_p (by omega) (by omega) (by omega) (fun z => hx ?_) (fun z => hx ?_) <;> unfold FreeC <;> omega
