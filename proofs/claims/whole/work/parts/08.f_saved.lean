/-! WHAT A MERGING SAVES: the sum over those who stand is the sum over the lines -/
def lineW (s : Nat → Int32) (l : Nat) : Nat := sumN (fun k => tn (s (10 + l)) * (k + 1) - tn (s (16 + l))) (tn (s (13 + l)))
theorem turnsN_sum (s : Nat → Int32) : ∀ n, turnsN s n = sumN (fun p => ic (s (58 + 10 * p + 5) = 0) (waitN s p) 0) n
  | 0 => rfl
  | n + 1 => by simp only [turnsN, sumN]; rw [turnsN_sum s n]
def cellW (s : Nat → Int32) (p l k : Nat) : Nat := if s (22 + 12 * l + k) = nI p then tn (s (10 + l)) * (k + 1) - tn (s (16 + l)) else 0
theorem Inv.wait_sum {T : Nat} {s : Nat → Int32} (h : Inv T s) {p : Nat} (hp : p < tn (s 2)) : ic (s (58 + 10 * p + 5) = 0) (waitN s p) 0 = sumN (fun l => sumN (cellW s p l) (tn (s (13 + l)))) (tn (s 1)) := by
  have hp30 := Nat.lt_of_lt_of_le hp h.np30
  by_cases c : s (58 + 10 * p + 5) = 0
  · obtain ⟨h1, h2, h3, h4, -⟩ := h.plcs hp c
    rw [ic_t c, sumN_1 (a := liN s p) h1 (fun l hl hne => sumN_0 (fun k hk => by
      unfold cellW
      rw [if_neg (fun e => hne (h.at hl hk e hp30).2.2.1.symm)])),
      sumN_1 (a := plc s p) h3 (fun k hk hne => by
      unfold cellW
      rw [if_neg (fun e => hne (h.at h1 hk e hp30).2.2.2.symm)])]
    unfold cellW
    rw [if_pos h4]; rfl
  · rw [ic_f c, sumN_0 (fun l hl => sumN_0 (fun k hk => by
      unfold cellW
      rw [if_neg (fun e => c (h.at hl hk e hp30).2.1)]))]
theorem Inv.turns_sum {T : Nat} {s : Nat → Int32} (h : Inv T s) : turnsN s (tn (s 2)) = sumN (lineW s) (tn (s 1)) := by
  rw [turnsN_sum, sumN_congr (fun p hp => h.wait_sum hp), sumN_swap (f := fun p l => sumN (cellW s p l) (tn (s (13 + l))))]
  refine sumN_congr (fun l hl => ?_)
  rw [sumN_swap (f := fun p k => cellW s p l k)]
  unfold lineW
  refine sumN_congr (fun k hk => ?_)
  have hr := h.row hl hk
  have hr2 := h.rowP hl hk
  have hr3 := h.np30
  rw [sumN_1 (a := tn (s (22 + 12 * l + k))) hr2 (fun p hp hne => by
    unfold cellW
    rw [if_neg (fun e => hne (by rw [e]; exact (tn_nI (by omega)).symm))])]
  unfold cellW
  rw [if_pos hr]
theorem sumN_upd {f g : Nat → Nat} {a : Nat} : ∀ {n : Nat}, a < n → (∀ i, i < n → i ≠ a → f i = g i) → sumN f n + g a = sumN g n + f a
  | 0, h, _ => absurd h (Nat.not_lt_zero a)
  | n + 1, h, h0 => by
    simp only [sumN]
    by_cases e : a = n
    · subst e; rw [sumN_congr (fun i hi => h0 i (by omega) (by omega))]; omega
    · have := sumN_upd (f := f) (g := g) (a := a) (n := n) (by omega) (fun i hi hne => h0 i (by omega) hne)
      rw [h0 n (by omega) (by omega)]; omega
theorem sumN_upd2 {f g : Nat → Nat} {a b n : Nat} (ha : a < n) (hb : b < n) (hab : a ≠ b) (h : ∀ i, i < n → i ≠ a → i ≠ b → f i = g i) : sumN f n + g a + g b = sumN g n + f a + f b := by
  have e1 := sumN_upd (f := f) (g := fun i => if i = a then g a else f i) ha (fun i _ hne => by rw [if_neg hne])
  have e2 := sumN_upd (f := fun i => if i = a then g a else f i) (g := g) hb (fun i hi hne => by
    by_cases c : i = a
    · rw [if_pos c, c]
    · rw [if_neg c]; exact h i hi c hne)
  simp only [if_true] at e1 e2
  rw [if_neg (fun e => hab e.symm)] at e2
  omega
theorem Inv.merges_h {T : Nat} {s : Nat → Int32} {l o : Nat} (h : Inv T s) (hl : l < tn (s 1)) (ho : o < tn (s 1)) (hlo : l ≠ o) (hab : tn (s (13 + l)) + tn (s (13 + o)) ≤ 12) {i : Nat} (hi : i < 22) : mergesF s l o i = if i = 16 + o then nI 0 else if i = 13 + o then nI 0 else if i = 13 + l then nI (tn (s (13 + l)) + tn (s (13 + o))) else s i := by
  have hnl3 := h.nl3
  rw [h.merges_eq hl ho hlo hab]
  unfold srtS
  rw [rwF_out (by omega), mid_h h hl ho hlo hab (by omega)]
  split
  · rfl
  · split
    · rfl
    · split
      · rfl
      · rw [if_neg (by omega)]
theorem Inv.saved {T : Nat} {s : Nat → Int32} {l o : Nat} (h : Inv T s) (hl : l < tn (s 1)) (ho : o < tn (s 1)) (hlo : l ≠ o) (hab : tn (s (13 + l)) + tn (s (13 + o)) ≤ 12) : turnsN s (tn (s 2)) + sumN (fun k => tn (s (10 + l)) * (k + 1) - tn (s (16 + l))) (tn (s (13 + l)) + tn (s (13 + o))) = turnsN (mergesF s l o) (tn (mergesF s l o 2)) + lineW s l + lineW s o := by
  have hnl3 := h.nl3
  have hm := h.merges hl ho hlo hab
  have e : ∀ i, i < 22 → i ≠ 16 + o → i ≠ 13 + o → i ≠ 13 + l → mergesF s l o i = s i := fun i h1 h2 h3 h4 => by rw [h.merges_h hl ho hlo hab h1, if_neg h2, if_neg h3, if_neg h4]
  rw [h.turns_sum, hm.turns_sum, e 1 (by omega) (by omega) (by omega) (by omega)]
  have e1 : lineW (mergesF s l o) l = sumN (fun k => tn (s (10 + l)) * (k + 1) - tn (s (16 + l))) (tn (s (13 + l)) + tn (s (13 + o))) := by
    unfold lineW
    rw [e (10 + l) (by omega) (by omega) (by omega) (by omega), e (16 + l) (by omega) (by omega) (by omega) (by omega), h.merges_h hl ho hlo hab (by omega), if_neg (by omega), if_neg (by omega), if_pos rfl, tn_nI (by omega)]
  have e2 : lineW (mergesF s l o) o = 0 := by
    unfold lineW
    rw [h.merges_h hl ho hlo hab (i := 13 + o) (by omega), if_neg (by omega), if_pos rfl, tn_nI (by omega)]
    rfl
  have := sumN_upd2 (f := lineW s) (g := lineW (mergesF s l o)) hl ho hlo (fun i hi h1 h2 => by
    unfold lineW
    rw [e (10 + i) (by omega) (by omega) (by omega) (by omega), e (16 + i) (by omega) (by omega) (by omega) (by omega), e (13 + i) (by omega) (by omega) (by omega) (by omega)])
  rw [e1, e2] at this
  omega
theorem wait_form {P W : Nat} (h : W ≤ P) : ∀ k, 2 * sumN (fun j => P * (j + 1) - W) k + 2 * (W * k) = P * k * (k + 1)
  | 0 => by simp [sumN]
  | k + 1 => by
    have ih := wait_form h k
    simp only [sumN]
    have e1 : P * k * (k + 1) = P * (k + 1) * k := Nat.mul_right_comm _ _ _
    have e2 : P * (k + 1) * (k + 1 + 1) = P * (k + 1) * k + P * (k + 1) + P * (k + 1) := by rw [Nat.mul_succ, Nat.mul_succ]
    have e3 : W * (k + 1) = W * k + W := Nat.mul_succ _ _
    have e4 : P * (k + 1) = P * k + P := Nat.mul_succ _ _
    have e5 : W ≤ P * (k + 1) := by rw [e4]; omega
    rw [e2]
    rw [e1] at ih
    omega
/-- what the class computes of a line for so many who stand in it -/
theorem Inv.waitAll {T : Nat} {s : Nat → Int32} {l k : Nat} (h : Inv T s) (hl : l < tn (s 1)) (hk : k ≤ 24) : s (10 + l) * nI k * nI (k + 1) / nI 2 - s (16 + l) * nI k = nI (sumN (fun j => tn (s (10 + l)) * (j + 1) - tn (s (16 + l))) k) := by
  have h20 := h.pace20 hl
  have hw := h.workedP hl
  have hf := wait_form (P := tn (s (10 + l))) (W := tn (s (16 + l))) (by omega) k
  have hb : tn (s (10 + l)) * k * (k + 1) ≤ 20 * 24 * 25 := Nat.mul_le_mul (Nat.mul_le_mul h20 hk) (by omega)
  rw [h.pace hl, h.worked hl, pk_mul, pk_mul, pk_mul, pk_div (by omega) (by omega) (by omega), pk_sub (by omega), tn_nI (by omega), tn_nI (by omega)]
  congr 1
  omega
