/-! jumps, merges, comes -/
theorem jst_nf {t : Nat → Int32} {a m p x : Nat} (hx : ¬ FreeC x) : jst t a m p x = if x = a + m then nI (tn (t (a + m - 1))) else t x := by
  have h5 : x ≠ 5 := fun e => hx (by unfold FreeC; omega)
  have h3 : ∀ q, x ≠ 58 + 10 * q + 3 := fun q e => hx (by unfold FreeC; omega)
  have h7 : ∀ q, x ≠ 58 + 10 * q + 7 := fun q e => hx (by unfold FreeC; omega)
  have h4 : ∀ q, x ≠ 58 + 10 * q + 4 := fun q e => hx (by unfold FreeC; omega)
  simp only [jst, ic]
  split
  · simp only [upd_ap]
    rw [if_neg h5, if_neg (h4 _), if_neg (h7 _), if_neg (h3 _)]
  · simp only [upd_ap]
    rw [if_neg (h3 _), if_neg (h7 _), if_neg (h3 _)]
/-- the state after k have been passed, with the jumper standing ahead of them -/
noncomputable def jmp (s : Nat → Int32) (a m p k : Nat) : Nat → Int32 := upd (jTo s a m p k) (a + (m - k)) (nI p)
theorem Inv.jmpK {T : Nat} {s : Nat → Int32} {l m p : Nat} (h : Inv T s) (hl : l < tn (s 1)) (hm : m < tn (s (13 + l))) (hp : s (22 + 12 * l + m) = nI p) : ∀ {k : Nat}, k ≤ m → Inv T (jmp s (22 + 12 * l) m p k) ∧ ∀ x, ¬ FreeC x → (x < 22 + 12 * l ∨ 22 + 12 * l + 12 ≤ x) → jmp s (22 + 12 * l) m p k x = s x
  | 0, _ => by
    have e0 : jmp s (22 + 12 * l) m p 0 = s := by
      unfold jmp jTo
      funext x
      simp only [upd_ap, Nat.sub_zero]
      split
      · rename_i hx; rw [hx, hp]
      · rfl
    rw [e0]; exact ⟨h, fun _ _ _ => rfl⟩
  | k + 1, hk => by
    obtain ⟨ih, io⟩ := Inv.jmpK h hl hm hp (k := k) (by omega)
    have hnl3 := h.nl3
    have h12 := h.len12 hl
    have e1 : jmp s (22 + 12 * l) m p k 1 = s 1 := io 1 (by unfold FreeC; omega) (by omega)
    have e13 : jmp s (22 + 12 * l) m p k (13 + l) = s (13 + l) := io (13 + l) (by unfold FreeC; omega) (by omega)
    have hl' : l < tn (jmp s (22 + 12 * l) m p k 1) := by rw [e1]; exact hl
    have hi' : m - k - 1 < tn (jmp s (22 + 12 * l) m p k (13 + l)) := by rw [e13]; omega
    have hj' : m - k < tn (jmp s (22 + 12 * l) m p k (13 + l)) := by rw [e13]; omega
    have hrow := ih.row hl' hi'
    have hjt : ∀ x, x ≠ 22 + 12 * l + (m - k) → jmp s (22 + 12 * l) m p k x = jTo s (22 + 12 * l) m p k x := fun x hx => by unfold jmp; rw [upd_ap, if_neg hx]
    have key : ∀ x, ¬ FreeC x → jmp s (22 + 12 * l) m p (k + 1) x = if x = 22 + 12 * l + (m - k - 1) then nI p else if x = 22 + 12 * l + (m - k) then jmp s (22 + 12 * l) m p k (22 + 12 * l + (m - k - 1)) else jmp s (22 + 12 * l) m p k x := by
      intro x hx
      have e9 : m - (k + 1) = m - k - 1 := by omega
      show upd (jst (jTo s (22 + 12 * l) m p k) (22 + 12 * l) (m - k) p) (22 + 12 * l + (m - (k + 1))) (nI p) x = _
      rw [upd_ap, e9]
      by_cases c1 : x = 22 + 12 * l + (m - k - 1)
      · rw [if_pos c1, if_pos c1]
      · rw [if_neg c1, if_neg c1, jst_nf hx]
        by_cases c2 : x = 22 + 12 * l + (m - k)
        · rw [if_pos c2, if_pos c2, show 22 + 12 * l + (m - k) - 1 = 22 + 12 * l + (m - k - 1) by omega, ← hjt _ (by omega)]
          exact hrow.symm
        · rw [if_neg c2, if_neg c2, hjt x c2]
    refine ⟨ih.swap hl' hi' hj' (by omega) ?_ ?_ ?_, fun x hx ho => ?_⟩
    · rw [key _ (by unfold FreeC; omega), if_pos rfl]
      unfold jmp; rw [upd_ap, if_pos rfl]
    · rw [key _ (by unfold FreeC; omega), if_neg (by omega), if_pos rfl]
    · intro x hx c1 c2
      rw [key x hx, if_neg c1, if_neg c2]
    · rw [key x hx, if_neg (by omega), if_neg (by omega)]
      exact io x hx ho
theorem Inv.jumps {T : Nat} {s : Nat → Int32} {p : Nat} (h : Inv T s) (hp : p < tn (s 2)) (hs : s (58 + 10 * p + 5) = 0) : Inv T (jumpsS s p) := by
  obtain ⟨h1, h2, h3, h4, -⟩ := h.plcs hp hs
  have hst : jsteps s p ≤ plc s p := Nat.min_le_left _ _
  have hj := (h.jmpK h1 h3 h4 hst).1
  have e : 22 + 12 * liN s p + plc s p - jsteps s p = 22 + 12 * liN s p + (plc s p - jsteps s p) := by omega
  unfold jumpsS jumpsF
  rw [e]
  show Inv T (upd (upd (upd (jmp s (22 + 12 * liN s p) (plc s p) p (jsteps s p)) (58 + 10 * p + 7) _) (58 + 10 * p + 8) _) 4 _)
  exact ((hj.free (by unfold FreeC; omega) _).free (by unfold FreeC; omega) _).free (by unfold FreeC; omega) _
section MV
variable {s : Nat → Int32} {l o n : Nat}
theorem mvTo_h (hl : l < 3) (ho : o < 3) (hlo : l ≠ o) : ∀ {k : Nat}, n + k ≤ 12 → ∀ i, i < 58 → mvTo s l o n k i = if i = 13 + l ∧ 0 < k then nI (n + k) else if 22 + 12 * l + n ≤ i ∧ i < 22 + 12 * l + n + k then nI (tn (s (22 + 12 * o + (i - (22 + 12 * l + n))))) else s i
  | 0, _, i, hi => by
    simp only [mvTo]
    rw [if_neg (by omega), if_neg (by omega)]
  | k + 1, hk, i, hi => by
    have ih := mvTo_h hl ho hlo (k := k) (by omega)
    have eo : mvTo s l o n k (22 + 12 * o + k) = s (22 + 12 * o + k) := by
      rw [ih _ (by omega), if_neg (by omega), if_neg (by omega)]
    simp only [mvTo, mvF, upd_ap]
    rw [eo]
    by_cases c1 : i = 13 + l
    · rw [if_pos c1, if_pos ⟨c1, by omega⟩, Nat.add_assoc]
    · rw [if_neg c1, if_neg (fun z : i = 13 + l ∧ 0 < k + 1 => c1 z.1)]
      by_cases c2 : i = 22 + 12 * l + (n + k)
      · rw [if_pos c2, if_pos (by omega), show i - (22 + 12 * l + n) = k by omega]
      · rw [if_neg c2, if_neg (by omega), ih i hi, if_neg (fun z : i = 13 + l ∧ 0 < k => c1 z.1)]
        by_cases c3 : 22 + 12 * l + n ≤ i ∧ i < 22 + 12 * l + n + k
        · rw [if_pos c3, if_pos (by omega)]
        · rw [if_neg c3, if_neg (by omega)]
theorem mvTo_o (hl : l < 3) (ho : o < 3) (hlo : l ≠ o) {k : Nat} (hk : n + k ≤ 12) {j : Nat} (hj : j < 12) : mvTo s l o n k (22 + 12 * o + j) = s (22 + 12 * o + j) := by
  rw [mvTo_h hl ho hlo hk _ (by omega), if_neg (by omega), if_neg (by omega)]
theorem mvTo_pj (hl : l < 3) (ho : o < 3) (hlo : l ≠ o) : ∀ {k : Nat}, n + k ≤ 12 → ∀ p j, j < 10 → j ≠ 1 → mvTo s l o n k (58 + 10 * p + j) = s (58 + 10 * p + j)
  | 0, _, p, j, _, _ => rfl
  | k + 1, hk, p, j, hj, h1 => by
    simp only [mvTo, mvF, upd_ap]
    rw [if_neg (by omega), if_neg (by omega), if_neg (by omega)]
    exact mvTo_pj hl ho hlo (by omega) p j hj h1
theorem mvTo_p1 (hl : l < 3) (ho : o < 3) (hlo : l ≠ o) : ∀ {k : Nat}, n + k ≤ 12 → ∀ p, ((∃ j, j < k ∧ tn (s (22 + 12 * o + j)) = p) → mvTo s l o n k (58 + 10 * p + 1) = nI l) ∧ ((∀ j, j < k → tn (s (22 + 12 * o + j)) ≠ p) → mvTo s l o n k (58 + 10 * p + 1) = s (58 + 10 * p + 1))
  | 0, _, p => ⟨fun ⟨j, hj, _⟩ => by omega, fun _ => rfl⟩
  | k + 1, hk, p => by
    have ih := mvTo_p1 hl ho hlo (k := k) (by omega) p
    simp only [mvTo, mvF, upd_ap]
    rw [if_neg (by omega), if_neg (by omega), mvTo_o hl ho hlo (by omega) (by omega)]
    constructor
    · rintro ⟨j, hj, e⟩
      by_cases c : tn (s (22 + 12 * o + k)) = p
      · rw [if_pos (by rw [c])]
      · rw [if_neg (by omega)]
        exact ih.1 ⟨j, by rcases Nat.lt_or_eq_of_le (Nat.le_of_lt_succ hj) with h | h; exact h; exact absurd (h ▸ e) c, e⟩
    · intro h
      have := h k (by omega)
      rw [if_neg (by omega)]
      exact ih.2 (fun j hj => h j (by omega))
end MV
/-- two lines made one, before the sorting -/
def mid (s : Nat → Int32) (l o : Nat) : Nat → Int32 := upd (upd (mvTo s l o (tn (s (13 + l))) (tn (s (13 + o)))) (13 + o) (nI 0)) (16 + o) (nI 0)
section MID
variable {T : Nat} {s : Nat → Int32} {l o : Nat}
theorem mid_h (h : Inv T s) (hl : l < tn (s 1)) (ho : o < tn (s 1)) (hlo : l ≠ o) (hab : tn (s (13 + l)) + tn (s (13 + o)) ≤ 12) {i : Nat} (hi : i < 58) : mid s l o i = if i = 16 + o then nI 0 else if i = 13 + o then nI 0 else if i = 13 + l then nI (tn (s (13 + l)) + tn (s (13 + o))) else if 22 + 12 * l + tn (s (13 + l)) ≤ i ∧ i < 22 + 12 * l + tn (s (13 + l)) + tn (s (13 + o)) then s (22 + 12 * o + (i - (22 + 12 * l + tn (s (13 + l))))) else s i := by
  have hnl3 := h.nl3
  unfold mid
  simp only [upd_ap]
  by_cases c1 : i = 16 + o
  · rw [if_pos c1, if_pos c1]
  · rw [if_neg c1, if_neg c1]
    by_cases c2 : i = 13 + o
    · rw [if_pos c2, if_pos c2]
    · rw [if_neg c2, if_neg c2, mvTo_h (by omega) (by omega) hlo hab _ hi]
      by_cases c3 : i = 13 + l
      · rw [if_pos c3]
        by_cases c4 : 0 < tn (s (13 + o))
        · rw [if_pos ⟨c3, c4⟩]
        · rw [if_neg (fun z => c4 z.2), if_neg (by omega), c3, h.len hl, tn_nI (by have := h.len12 hl; omega)]
          congr 1; omega
      · rw [if_neg c3, if_neg (fun z => c3 z.1)]
        by_cases c4 : 22 + 12 * l + tn (s (13 + l)) ≤ i ∧ i < 22 + 12 * l + tn (s (13 + l)) + tn (s (13 + o))
        · rw [if_pos c4, if_pos c4]
          exact (h.row ho (by omega)).symm
        · rw [if_neg c4, if_neg c4]
theorem mid_pj (h : Inv T s) (hl : l < tn (s 1)) (ho : o < tn (s 1)) (hlo : l ≠ o) (hab : tn (s (13 + l)) + tn (s (13 + o)) ≤ 12) {p j : Nat} (hj : j < 10) (h1 : j ≠ 1) : mid s l o (58 + 10 * p + j) = s (58 + 10 * p + j) := by
  have hnl3 := h.nl3
  unfold mid
  simp only [upd_ap]
  rw [if_neg (by omega), if_neg (by omega), mvTo_pj (by omega) (by omega) hlo hab _ _ hj h1]
theorem mid_p1 (h : Inv T s) (hl : l < tn (s 1)) (ho : o < tn (s 1)) (hlo : l ≠ o) (hab : tn (s (13 + l)) + tn (s (13 + o)) ≤ 12) (p : Nat) : ((∃ j, j < tn (s (13 + o)) ∧ tn (s (22 + 12 * o + j)) = p) → mid s l o (58 + 10 * p + 1) = nI l) ∧ ((∀ j, j < tn (s (13 + o)) → tn (s (22 + 12 * o + j)) ≠ p) → mid s l o (58 + 10 * p + 1) = s (58 + 10 * p + 1)) := by
  have hnl3 := h.nl3
  unfold mid
  simp only [upd_ap]
  rw [if_neg (by omega), if_neg (by omega)]
  exact mvTo_p1 (by omega) (by omega) hlo hab p
theorem Inv.midK (h : Inv T s) (hl : l < tn (s 1)) (ho : o < tn (s 1)) (hlo : l ≠ o) (hab : tn (s (13 + l)) + tn (s (13 + o)) ≤ 12) : Inv T (mid s l o) := by
  have hnl3 := h.nl3
  obtain ⟨u, hu⟩ : ∃ u, u = mid s l o := ⟨_, rfl⟩
  obtain ⟨a, ha⟩ : ∃ a, tn (s (13 + l)) = a := ⟨_, rfl⟩
  obtain ⟨b, hb⟩ : ∃ b, tn (s (13 + o)) = b := ⟨_, rfl⟩
  have e : ∀ i, i < 58 → u i = if i = 16 + o then nI 0 else if i = 13 + o then nI 0 else if i = 13 + l then nI (a + b) else if 22 + 12 * l + a ≤ i ∧ i < 22 + 12 * l + a + b then s (22 + 12 * o + (i - (22 + 12 * l + a))) else s i := fun i hi => by rw [hu, mid_h h hl ho hlo hab hi, ha, hb]
  have ej : ∀ p j, j < 10 → j ≠ 1 → u (58 + 10 * p + j) = s (58 + 10 * p + j) := fun p j h1 h2 => by rw [hu]; exact mid_pj h hl ho hlo hab h1 h2
  have e1 : ∀ p, ((∃ j, j < b ∧ tn (s (22 + 12 * o + j)) = p) → u (58 + 10 * p + 1) = nI l) ∧ ((∀ j, j < b → tn (s (22 + 12 * o + j)) ≠ p) → u (58 + 10 * p + 1) = s (58 + 10 * p + 1)) := fun p => by rw [hu, ← hb]; exact mid_p1 h hl ho hlo hab p
  rw [← hu]
  clear hu
  rw [ha, hb] at hab
  have eh : ∀ i, i < 13 → u i = s i := fun i hi => by rw [e i (by omega), if_neg (by omega), if_neg (by omega), if_neg (by omega), if_neg (by omega)]
  have e13l : tn (u (13 + l)) = a + b := by rw [e _ (by omega), if_neg (by omega), if_neg (by omega), if_pos rfl]; exact tn_nI (by omega)
  have e13o : tn (u (13 + o)) = 0 := by rw [e _ (by omega), if_neg (by omega), if_pos rfl]; exact tn_nI (by omega)
  have e13 : ∀ y, y < 3 → y ≠ l → y ≠ o → u (13 + y) = s (13 + y) := fun y hy h1 h2 => by rw [e _ (by omega), if_neg (by omega), if_neg (by omega), if_neg (by omega), if_neg (by omega)]
  have erl : ∀ j, j < a → u (22 + 12 * l + j) = s (22 + 12 * l + j) := fun j hj => by rw [e _ (by omega), if_neg (by omega), if_neg (by omega), if_neg (by omega), if_neg (by omega)]
  have ero : ∀ j, j < b → u (22 + 12 * l + (a + j)) = s (22 + 12 * o + j) := fun j hj => by rw [e _ (by omega), if_neg (by omega), if_neg (by omega), if_neg (by omega), if_pos (by omega)]; congr 1; omega
  have er : ∀ y j, y < 3 → j < 12 → y ≠ l → u (22 + 12 * y + j) = s (22 + 12 * y + j) := fun y j hy hj h1 => by rw [e _ (by omega), if_neg (by omega), if_neg (by omega), if_neg (by omega), if_neg (by omega)]
  -- one of a row of s, and whether it was moved
  have stay : ∀ y j, y < tn (s 1) → j < tn (s (13 + y)) → y ≠ o → u (58 + 10 * tn (s (22 + 12 * y + j)) + 1) = nI y := by
    intro y j hy hj hyo
    have hr := h.R hy hj
    unfold InvR at hr
    rw [(e1 _).2 (fun i hi ei => ?_)]
    · exact hr.2.2.2
    · have hr2 := h.R ho (by rw [hb]; exact hi)
      unfold InvR at hr2
      rw [ei, hr.2.2.2] at hr2
      exact hyo ((nI_eq (by omega) (by omega)).mp hr2.2.2.2)
  -- where each row comes from
  have src : ∀ y j, y < tn (s 1) → j < tn (u (13 + y)) → ∃ z i, z < tn (s 1) ∧ i < tn (s (13 + z)) ∧ u (22 + 12 * y + j) = s (22 + 12 * z + i) ∧ u (58 + 10 * tn (s (22 + 12 * z + i)) + 1) = nI y ∧ (y ≠ l → z = y ∧ i = j) ∧ (y = l → (j < a ∧ z = l ∧ i = j) ∨ (a ≤ j ∧ z = o ∧ i = j - a)) := by
    intro y j hy hj
    by_cases hyl : y = l
    · subst hyl
      rw [e13l] at hj
      by_cases hja : j < a
      · exact ⟨y, j, hy, by rw [ha]; exact hja, erl j hja, stay y j hy (by rw [ha]; exact hja) hlo, fun q => absurd rfl q, fun _ => Or.inl ⟨hja, rfl, rfl⟩⟩
      · have ej2 := ero (j - a) (by omega)
        rw [show a + (j - a) = j by omega] at ej2
        exact ⟨o, j - a, ho, by rw [hb]; omega, ej2, (e1 _).1 ⟨j - a, by omega, rfl⟩, fun q => absurd rfl q, fun _ => Or.inr ⟨by omega, rfl, rfl⟩⟩
    · by_cases hyo : y = o
      · subst hyo; rw [e13o] at hj; omega
      · rw [e13 y (by omega) hyl hyo] at hj
        have := h.len12 hy
        exact ⟨y, j, hy, hj, er y j (by omega) (by omega) hyl, stay y j hy hj hyo, fun _ => ⟨rfl, rfl⟩, fun q => absurd q hyl⟩
  refine ⟨h.1, by rw [eh 1 (by omega)]; exact h.2.1, by rw [eh 2 (by omega)]; exact h.2.2.1, by rw [eh 0 (by omega)]; exact h.2.2.2.1, ?_, ?_, ?_, ?_, ?_⟩
  · intro y hy
    rw [eh 1 (by omega)] at hy
    have hL := h.L hy
    unfold InvL at hL ⊢
    rw [eh (10 + y) (by omega)]
    by_cases hyo : y = o
    · subst hyo
      rw [e (16 + y) (by omega), if_pos rfl, e (13 + y) (by omega), if_neg (by omega), if_pos rfl, tn_nI (by omega)]
      exact ⟨hL.1, isN_nI (by omega), isN_nI (by omega), by omega⟩
    · rw [e (16 + y) (by omega), if_neg (by omega), if_neg (by omega), if_neg (by omega), if_neg (by omega)]
      by_cases hyl : y = l
      · subst hyl
        rw [e (13 + y) (by omega), if_neg (by omega), if_neg (by omega), if_pos rfl]
        exact ⟨hL.1, isN_nI hab, hL.2.2⟩
      · rw [e13 y (by omega) hyl hyo]; exact hL
  · intro y j hy hj
    rw [eh 1 (by omega)] at hy
    obtain ⟨z, i, hz, hi, e9, e8, -, -⟩ := src y j hy hj
    have hr := h.R hz hi
    unfold InvR at hr ⊢
    rw [e9, eh 2 (by omega), ej _ 5 (by omega) (by omega), e8]
    exact ⟨hr.1, hr.2.1, hr.2.2.1, rfl⟩
  · intro y j j2 hy hj hj2 e9
    rw [eh 1 (by omega)] at hy
    obtain ⟨z, i, hz, hi, e7, -, c1, c2⟩ := src y j hy hj
    obtain ⟨z2, i2, hz2, hi2, e8, -, d1, d2⟩ := src y j2 hy hj2
    rw [e7, e8] at e9
    by_cases hyl : y = l
    · rcases c2 hyl with ⟨p1, rfl, rfl⟩ | ⟨p1, rfl, rfl⟩ <;> rcases d2 hyl with ⟨p2, rfl, rfl⟩ | ⟨p2, rfl, rfl⟩
      · exact h.D hz hi hi2 e9
      · exfalso
        have r1 := h.R hz hi; have r2 := h.R hz2 hi2
        unfold InvR at r1 r2
        rw [e9, r2.2.2.2] at r1
        exact hlo ((nI_eq (by omega) (by omega)).mp r1.2.2.2).symm
      · exfalso
        have r1 := h.R hz hi; have r2 := h.R hz2 hi2
        unfold InvR at r1 r2
        rw [e9, r2.2.2.2] at r1
        exact hlo ((nI_eq (by omega) (by omega)).mp r1.2.2.2)
      · have := h.D hz hi hi2 e9
        omega
    · obtain ⟨rfl, rfl⟩ := c1 hyl
      obtain ⟨e6, rfl⟩ := d1 hyl
      exact h.D hy hi (e6 ▸ hi2) (by rw [e6] at e9; exact e9)
  · intro q hq
    rw [eh 2 (by omega)] at hq
    have hP := h.P hq
    unfold InvP at hP ⊢
    rw [eh 0 (by omega), ej q 2 (by omega) (by omega), ej q 6 (by omega) (by omega), ej q 5 (by omega) (by omega), eh 1 (by omega)]
    refine ⟨fun z => ?_, fun z => ?_, hP.2.2.1, hP.2.2.2⟩
    · obtain ⟨y, hy, h3, i, hi, h4⟩ := hP.1 z
      have hq30 := Nat.lt_of_lt_of_le hq h.np30
      by_cases hyo : y = o
      · subst hyo
        refine ⟨l, hl, (e1 q).1 ⟨i, by rw [← hb]; exact hi, by rw [h4]; exact tn_nI (by omega)⟩, a + i, by rw [e13l]; omega, ?_⟩
        rw [ero i (by omega)]; exact h4
      · refine ⟨y, hy, ?_, i, ?_, ?_⟩
        · have := stay y i hy hi hyo
          rw [h4, tn_nI (by omega)] at this
          exact this
        · by_cases hyl : y = l
          · subst hyl; rw [e13l]; omega
          · rw [e13 y (by omega) hyl hyo]; exact hi
        · by_cases hyl : y = l
          · subst hyl; rw [erl i (by omega)]; exact h4
          · have := h.len12 hy
            rw [er y i (by omega) (by omega) hyl]; exact h4
    · rw [(e1 q).2 (fun j hj ej2 => ?_)]
      · exact hP.2.1 z
      · have hr := h.R ho (by rw [hb]; exact hj)
        unfold InvR at hr
        rw [ej2] at hr
        exact z hr.2.2.1
  · have := h.S
    unfold InvS at this ⊢
    rw [eh 6 (by omega), eh 7 (by omega), eh 8 (by omega), eh 9 (by omega)]
    exact this
end MID
/-- the row from a on holds f -/
def rwF (t : Nat → Int32) (a M : Nat) (f : Nat → Nat) : Nat → Int32 := fun i => if a ≤ i ∧ i < a + M then nI (f (i - a)) else t i
theorem rwF_in {t : Nat → Int32} {a M : Nat} {f : Nat → Nat} {k : Nat} (h : k < M) : rwF t a M f (a + k) = nI (f k) := by
  unfold rwF; rw [if_pos (by omega)]; congr 2; omega
theorem rwF_out {t : Nat → Int32} {a M : Nat} {f : Nat → Nat} {i : Nat} (h : i < a ∨ a + M ≤ i) : rwF t a M f i = t i := by
  unfold rwF; rw [if_neg (by omega)]
theorem rwF_sw {t : Nat → Int32} {a M : Nat} {f : Nat → Nat} {k : Nat} (h : k + 1 < M) : upd (upd (rwF t a M f) (a + k) (nI (f (k + 1)))) (a + k + 1) (nI (f k)) = rwF t a M (sw f k) := by
  funext i
  simp only [upd_ap]
  by_cases c1 : i = a + k + 1
  · subst c1; rw [if_pos rfl, Nat.add_assoc, rwF_in h, sw_k1]
  · rw [if_neg c1]
    by_cases c2 : i = a + k
    · subst c2; rw [if_pos rfl, rwF_in (by omega), sw_k]
    · rw [if_neg c2]
      unfold rwF
      by_cases c3 : a ≤ i ∧ i < a + M
      · rw [if_pos c3, if_pos c3, sw_o (by omega) (by omega)]
      · rw [if_neg c3, if_neg c3]
theorem rwF_id {t : Nat → Int32} {a M : Nat} {f : Nat → Nat} (h : ∀ k, k < M → t (a + k) = nI (f k)) : rwF t a M f = t := by
  funext i
  unfold rwF
  by_cases c3 : a ≤ i ∧ i < a + M
  · rw [if_pos c3, ← h (i - a) (by omega)]; congr 1; omega
  · rw [if_neg c3]
theorem ahead_k {t : Nat → Int32} {p q : Nat} {key : Nat → Nat} (hp : t (58 + 10 * p + 2) = nI (key p)) (hq : t (58 + 10 * q + 2) = nI (key q)) (kp : key p < 2 ^ 30) (kq : key q < 2 ^ 30) : Ahead t p q ↔ kR key p q := by
  unfold Ahead kR
  rw [hp, hq]
  have e1 := pk_sub_toInt kp kq
  have e2 : (0 < nI (key p) - nI (key q)) ↔ key q < key p := by
    rw [Int32.lt_iff_toInt_lt, e1, Int32.toInt_zero]; omega
  have e3 : (nI (key p) - nI (key q) = 0) ↔ key p = key q := by
    rw [← Int32.toInt_inj, e1, Int32.toInt_zero]; omega
  rw [e2, e3]
/-- who is in the row has a key, of which t knows -/
def KeyOK (t : Nat → Int32) (key : Nat → Nat) (M : Nat) (f : Nat → Nat) : Prop := ∀ k, k < M → f k < 30 ∧ t (58 + 10 * f k + 2) = nI (key (f k)) ∧ key (f k) < 2 ^ 30
theorem KeyOK.set {t : Nat → Int32} {key : Nat → Nat} {M : Nat} {f g : Nat → Nat} (h : KeyOK t key M f) (e : SetE M g f) : KeyOK t key M g := by
  intro k hk
  obtain ⟨i, hi, ei⟩ := (e (g k)).mp ⟨k, hk, rfl⟩
  rw [← ei]; exact h i hi
theorem bst_sst {t : Nat → Int32} {a M : Nat} {key : Nat → Nat} {f : Nat → Nat} {k : Nat} (hM : a + M ≤ 58) (h : KeyOK t key M f) (hk : k + 1 < M) : bstF (rwF t a M f) a k = rwF t a M (sst key f k) := by
  obtain ⟨f1, f2, f3⟩ := h k (by omega)
  obtain ⟨g1, g2, g3⟩ := h (k + 1) hk
  unfold bstF
  rw [rwF_in (by omega), Nat.add_assoc, rwF_in hk, tn_nI (by omega), tn_nI (by omega)]
  have hA : Ahead (rwF t a M f) (f k) (f (k + 1)) ↔ kR key (f k) (f (k + 1)) := ahead_k (by rw [rwF_out (by omega)]; exact f2) (by rw [rwF_out (by omega)]; exact g2) f3 g3
  rcases sst_or key f k with ⟨hr, e⟩ | ⟨hr, e⟩
  · rw [e, ic_t (hA.mpr hr), ic_t (hA.mpr hr)]
    funext i
    simp only [upd_ap]
    by_cases c1 : i = a + (k + 1)
    · subst c1; rw [if_pos rfl, rwF_in hk]
    · rw [if_neg c1]
      by_cases c2 : i = a + k
      · subst c2; rw [if_pos rfl, rwF_in (by omega)]
      · rw [if_neg c2]
  · rw [e, ic_f (fun z => hr (hA.mp z)), ic_f (fun z => hr (hA.mp z))]
    exact rwF_sw hk
theorem sst_set {key : Nat → Nat} {f : Nat → Nat} {k M : Nat} (hk : k + 1 < M) : SetE M (sst key f k) f := by
  rcases sst_or key f k with ⟨-, e⟩ | ⟨-, e⟩ <;> rw [e]
  · exact SetE.rf
  · exact sw_set hk
theorem spass_set {key : Nat → Nat} {f : Nat → Nat} {M : Nat} : ∀ {m : Nat}, m < M → SetE M (spass key f m) f
  | 0, _ => SetE.rf
  | m + 1, h => (sst_set h).tr (spass_set (by omega))
theorem bpass_spass {t : Nat → Int32} {a M : Nat} {key : Nat → Nat} {f : Nat → Nat} (hM : a + M ≤ 58) (h : KeyOK t key M f) : ∀ {m : Nat}, m < M → bpass (rwF t a M f) a m = rwF t a M (spass key f m)
  | 0, _ => rfl
  | m + 1, hm => by
    simp only [bpass, spass]
    rw [bpass_spass hM h (by omega)]
    exact bst_sst hM (h.set (spass_set (by omega))) hm
theorem bsort_ssort {t : Nat → Int32} {a M : Nat} {key : Nat → Nat} (hM : a + M ≤ 58) : ∀ {m : Nat} {f : Nat → Nat}, m ≤ M → KeyOK t key M f → bsort a m (rwF t a M f) = rwF t a M (ssort key m f)
  | 0, _, _, _ => rfl
  | 1, _, _, _ => rfl
  | m + 2, f, hm, h => by
    simp only [bsort, ssort]
    rw [bpass_spass hM h (by omega)]
    exact bsort_ssort hM (by omega) (h.set (spass_set (by omega)))
/-- the row of the line l, as numbers -/
def rowN (t : Nat → Int32) (l : Nat) : Nat → Nat := fun k => tn (t (22 + 12 * l + k))
def keyN (t : Nat → Int32) : Nat → Nat := fun p => tn (t (58 + 10 * p + 2))
theorem Inv.keys {T : Nat} {s : Nat → Int32} {l : Nat} (h : Inv T s) (hl : l < tn (s 1)) : KeyOK s (keyN s) (tn (s (13 + l))) (rowN s l) := by
  intro k hk
  have hq := h.rowP hl hk
  refine ⟨Nat.lt_of_lt_of_le hq h.np30, h.stood hq, ?_⟩
  show tn (s (58 + 10 * tn (s (22 + 12 * l + k)) + 2)) < 2 ^ 30
  have := h.stoodT hq; have := h.nowT; have := h.T6
  omega
theorem Inv.rowInj {T : Nat} {s : Nat → Int32} {l : Nat} (h : Inv T s) (hl : l < tn (s 1)) : InjM (tn (s (13 + l))) (rowN s l) := by
  intro i j hi hj e
  exact h.D hl hi hj (by rw [h.row hl hi, h.row hl hj]; exact congrArg nI e)
theorem Inv.rowRw {T : Nat} {s : Nat → Int32} {l : Nat} (h : Inv T s) (hl : l < tn (s 1)) : rwF s (22 + 12 * l) (tn (s (13 + l))) (rowN s l) = s := rwF_id (fun k hk => h.row hl hk)
/-- the line l, sorted -/
noncomputable def srtS (s : Nat → Int32) (l : Nat) : Nat → Int32 := rwF s (22 + 12 * l) (tn (s (13 + l))) (ssort (keyN s) (tn (s (13 + l))) (rowN s l))
theorem Inv.srt {T : Nat} {s : Nat → Int32} {l : Nat} (h : Inv T s) (hl : l < tn (s 1)) : Inv T (srtS s l) := by
  have hnl3 := h.nl3
  have h12 := h.len12 hl
  obtain ⟨a1, a2, -⟩ := ssort_ok (key := keyN s) (M := tn (s (13 + l))) (m := tn (s (13 + l))) (f := rowN s l) (Nat.le_refl _) (h.rowInj hl) (fun i j h1 h2 h3 => by omega)
  have eo : ∀ x, x < 22 + 12 * l ∨ 22 + 12 * l + 12 ≤ x → srtS s l x = s x := fun x hx => by unfold srtS; rw [rwF_out (by omega)]
  have ei : ∀ k, k < tn (s (13 + l)) → srtS s l (22 + 12 * l + k) = nI (ssort (keyN s) (tn (s (13 + l))) (rowN s l) k) := fun k hk => by unfold srtS; rw [rwF_in hk]
  refine h.perm hl (fun x h1 _ _ _ => eo x (by omega)) (fun y hy => ⟨eo _ (by omega), eo _ (by omega), eo _ (by omega)⟩) (fun p _ => ⟨eo _ (by omega), eo _ (by omega), eo _ (by omega), eo _ (by omega)⟩) (fun y k hy hyl hk => by have := h.len12 hy; exact eo _ (by omega)) ?_ ?_ ?_
  · intro k hk
    obtain ⟨i, hi, e⟩ := (a2 _).mp ⟨k, hk, rfl⟩
    exact ⟨i, hi, by rw [ei k hk, ← e]; exact (h.row hl hi).symm⟩
  · intro k hk
    obtain ⟨i, hi, e⟩ := (a2 _).mpr ⟨k, hk, rfl⟩
    exact ⟨i, hi, by rw [ei i hi, e]; exact (h.row hl hk).symm⟩
  · intro i k hi hk e
    rw [ei i hi, ei k hk] at e
    have key := (h.keys hl).set a2
    have e := (nI_eq (by have := (key i hi).1; omega) (by have := (key k hk).1; omega)).mp e
    rcases Nat.lt_trichotomy i k with q | q | q
    · have := a1 i k q hk; rw [e] at this; exact absurd this (fun z => kR_as z z)
    · exact q
    · have := a1 k i q hi; rw [e] at this; exact absurd this (fun z => kR_as z z)
theorem Inv.merges_eq {T : Nat} {s : Nat → Int32} {l o : Nat} (h : Inv T s) (hl : l < tn (s 1)) (ho : o < tn (s 1)) (hlo : l ≠ o) (hab : tn (s (13 + l)) + tn (s (13 + o)) ≤ 12) : mergesF s l o = srtS (mid s l o) l := by
  have hm := h.midK hl ho hlo hab
  have hnl3 := h.nl3
  have e1 : mid s l o 1 = s 1 := by rw [mid_h h hl ho hlo hab (by omega), if_neg (by omega), if_neg (by omega), if_neg (by omega), if_neg (by omega)]
  have hl' : l < tn (mid s l o 1) := by rw [e1]; exact hl
  have e13 : tn (mid s l o (13 + l)) = tn (s (13 + l)) + tn (s (13 + o)) := by
    rw [mid_h h hl ho hlo hab (by omega), if_neg (by omega), if_neg (by omega), if_pos rfl]; exact tn_nI (by omega)
  show bsort (22 + 12 * l) (tn (s (13 + l)) + tn (s (13 + o))) (mid s l o) = _
  have hk := hm.keys hl'
  have hr := hm.rowRw hl'
  unfold srtS
  rw [e13] at hk hr ⊢
  have := bsort_ssort (t := mid s l o) (a := 22 + 12 * l) (M := tn (s (13 + l)) + tn (s (13 + o))) (key := keyN (mid s l o)) (by omega) (m := tn (s (13 + l)) + tn (s (13 + o))) (f := rowN (mid s l o) l) (Nat.le_refl _) hk
  rw [hr] at this
  exact this
theorem Inv.merges {T : Nat} {s : Nat → Int32} {l o : Nat} (h : Inv T s) (hl : l < tn (s 1)) (ho : o < tn (s 1)) (hlo : l ≠ o) (hab : tn (s (13 + l)) + tn (s (13 + o)) ≤ 12) : Inv T (mergesF s l o) := by
  rw [h.merges_eq hl ho hlo hab]
  have hnl3 := h.nl3
  refine (h.midK hl ho hlo hab).srt ?_
  rw [mid_h h hl ho hlo hab (by omega), if_neg (by omega), if_neg (by omega), if_neg (by omega), if_neg (by omega)]
  exact hl
