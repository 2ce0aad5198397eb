/-! THE CLASS'S STATE c AND THE REFERENCE'S s: alike in all that lives -/
/-- when p jumped last: -9 in s for never; in c so long ago that it doesn't matter -/
def JR (c s : Nat → Int32) (p : Nat) : Prop := (s (58 + 10 * p + 8) = -9 ∧ c (58 + 10 * p + 8) = c (58 + 10 * p + 6) - nI 5) ∨ (c (58 + 10 * p + 8) = s (58 + 10 * p + 8) ∧ ¬ s (58 + 10 * p + 8) = -9)
def Rel (c s : Nat → Int32) : Prop := (∀ i, i < 10 → c i = s i) ∧ (∀ y, y < tn (s 1) → c (10 + y) = s (10 + y) ∧ c (13 + y) = s (13 + y) ∧ c (16 + y) = s (16 + y) ∧ c (19 + y) = s (19 + y)) ∧ SameR c s ∧ ∀ p, p < tn (s 2) → (∀ j, j < 8 → c (58 + 10 * p + j) = s (58 + 10 * p + j)) ∧ JR c s p
section REL
variable {c s : Nat → Int32} {T : Nat}
theorem Rel.h (r : Rel c s) {i : Nat} (hi : i < 10) : c i = s i := r.1 i hi
theorem Rel.L (r : Rel c s) {y : Nat} (hy : y < tn (s 1)) : c (10 + y) = s (10 + y) ∧ c (13 + y) = s (13 + y) ∧ c (16 + y) = s (16 + y) ∧ c (19 + y) = s (19 + y) := r.2.1 y hy
theorem Rel.R (r : Rel c s) {y k : Nat} (hy : y < tn (s 1)) (hk : k < tn (s (13 + y))) : c (22 + 12 * y + k) = s (22 + 12 * y + k) := r.2.2.1 y k hy hk
theorem Rel.P (r : Rel c s) {p j : Nat} (hp : p < tn (s 2)) (hj : j < 8) : c (58 + 10 * p + j) = s (58 + 10 * p + j) := (r.2.2.2 p hp).1 j hj
theorem Rel.P0 (r : Rel c s) {p : Nat} (hp : p < tn (s 2)) : c (58 + 10 * p) = s (58 + 10 * p) := r.P hp (j := 0) (by omega)
theorem Rel.inv (r : Rel c s) (h : Inv T s) : Inv T c := h.same (fun i h1 _ _ _ => r.h h1) (fun y hy => ⟨(r.L hy).1, (r.L hy).2.1, (r.L hy).2.2.1⟩) r.2.2.1 (fun p hp => ⟨r.P hp (by omega), r.P hp (by omega), r.P hp (by omega), r.P hp (by omega)⟩)
theorem Rel.li (r : Rel c s) {p : Nat} (hp : p < tn (s 2)) : liN c p = liN s p := by show tn _ = tn _; rw [r.P hp (by omega)]
theorem Rel.plcE (r : Rel c s) (h : Inv T s) {p : Nat} (hp : p < tn (s 2)) (hs : s (58 + 10 * p + 5) = 0) : plc c p = plc s p := by
  obtain ⟨h1, h2, h3, h4, -⟩ := h.plcs hp hs
  have hc := r.inv h
  have hp30 := Nat.lt_of_lt_of_le hp h.np30
  have := hc.at (l := liN s p) (k := plc s p) (p := p) (by rw [r.h (by omega)]; exact h1) (by rw [(r.L h1).2.1]; exact h3) (by rw [r.R h1 h3]; exact h4) hp30
  exact this.2.2.2
theorem Rel.come (r : Rel c s) (h : Inv T s) {x y : Int32} : comeFl c x y = comeFl s x y := by
  unfold comeFl
  rw [r.h (i := 1) (by omega), r.h (i := 2) (by omega)]
  by_cases q : Rg (tn (s 1)) x
  · have nq : ¬ ¬ Rg (tn (s 1)) x := fun z => z q
    simp only [ic_f nq]
    obtain ⟨j, hj, rfl⟩ := q
    have := h.nl3
    rw [tn_nI (by omega), (r.L hj).2.1]
  · rw [ic_t q, ic_t q]
theorem Rel.go (r : Rel c s) (h : Inv T s) {x : Int32} : goFl c x = goFl s x := by
  unfold goFl
  rw [r.h (i := 2) (by omega)]
  by_cases q : Rg (tn (s 2)) x
  · have nq : ¬ ¬ Rg (tn (s 2)) x := fun z => z q
    simp only [ic_f nq]
    obtain ⟨j, hj, rfl⟩ := q
    have := h.np30
    rw [tn_nI (by omega), r.P hj (by omega)]
  · rw [ic_t q, ic_t q]
theorem Rel.mayX (r : Rel c s) (h : Inv T s) {p q : Nat} (hp : p < tn (s 2)) (hq : q < tn (s 2)) : MayX c p q ↔ MayX s p q := by
  unfold MayX
  rw [r.P hp (j := 5) (by omega), r.P hq (j := 5) (by omega), r.P hp (j := 1) (by omega), r.P hq (j := 1) (by omega), r.P hp (j := 3) (by omega), r.P hp (j := 2) (by omega), r.h (i := 8) (by omega)]
  constructor
  · rintro ⟨a, b, d, e, f⟩
    rw [r.plcE h hp a, r.plcE h hq b] at e f
    exact ⟨a, b, d, e, f⟩
  · rintro ⟨a, b, d, e, f⟩
    refine ⟨a, b, d, ?_, ?_⟩ <;> rw [r.plcE h hp a, r.plcE h hq b] <;> assumption
theorem Rel.exchE (r : Rel c s) (h : Inv T s) {x y : Int32} : exchFl c x y = exchFl s x y := by
  unfold exchFl
  rw [r.h (i := 2) (by omega)]
  by_cases q : Rg (tn (s 2)) x ∧ Rg (tn (s 2)) y
  · have nq : ¬ (¬ Rg (tn (s 2)) x ∨ ¬ Rg (tn (s 2)) y) := fun z => z.elim (fun z => z q.1) (fun z => z q.2)
    simp only [ic_f nq]
    obtain ⟨⟨j, hj, rfl⟩, k, hk, rfl⟩ := q
    have := h.np30
    rw [tn_nI (by omega), tn_nI (by omega)]
    by_cases m : MayX s j k
    · rw [ic_t m, ic_t ((r.mayX h hj hk).mpr m)]
    · rw [ic_f m, ic_f (fun z => m ((r.mayX h hj hk).mp z))]
  · have q' : ¬ Rg (tn (s 2)) x ∨ ¬ Rg (tn (s 2)) y := by
      by_cases z : Rg (tn (s 2)) x
      · exact Or.inr (fun w => q ⟨z, w⟩)
      · exact Or.inl z
    rw [ic_t q', ic_t q']
theorem Rel.mayJ (r : Rel c s) (h : Inv T s) {p : Nat} (hp : p < tn (s 2)) : MayC c p ↔ MayJ s p := by
  have h5 : (5 : Int32) = nI 5 := by decide +kernel
  have hnow := h.nowT
  have hT := h.T6
  unfold MayC MayJ
  rw [r.P hp (j := 5) (by omega), r.P0 hp, r.h (i := 0) (by omega)]
  have key : (nI 5 ≤ s 0 - c (58 + 10 * p + 8)) ↔ (s (58 + 10 * p + 8) = -9 ∨ 5 ≤ s 0 - s (58 + 10 * p + 8)) := by
    rcases (r.2.2.2 p hp).2 with ⟨a, b⟩ | ⟨a, b⟩
    · refine ⟨fun _ => Or.inl a, fun _ => ?_⟩
      have hcame := (h.P hp).2.2.2
      have ec := hcame.eq (by omega)
      have el := hcame.le (by omega)
      rw [b, r.P hp (by omega), ec, h.now]
      have e : nI (tn (s 0)) - (nI (tn (s (58 + 10 * p + 6))) - nI 5) = nI (tn (s 0) - tn (s (58 + 10 * p + 6)) + 5) := by
        rw [← nI_add, ← pk_sub el]; grind
      rw [e]
      exact (nI_leI (by omega) (by omega)).mpr (by omega)
    · rw [a, h5]
      exact ⟨fun z => Or.inr z, fun z => z.elim (fun z => absurd z b) id⟩
  rw [key]
  constructor
  · rintro ⟨a, b, d, e⟩
    rw [r.plcE h hp a] at d
    exact ⟨a, b, d, e⟩
  · rintro ⟨a, b, d, e⟩
    exact ⟨a, b, by rw [r.plcE h hp a]; exact d, e⟩
theorem Rel.mergeE (r : Rel c s) (h : Inv T s) {x y : Int32} : mergeFl c x y = mergeFl s x y := by
  unfold mergeFl
  rw [r.h (i := 1) (by omega)]
  by_cases q : Rg (tn (s 1)) x ∧ Rg (tn (s 1)) y
  · have nq : ¬ (¬ Rg (tn (s 1)) x ∨ ¬ Rg (tn (s 1)) y) := fun z => z.elim (fun z => z q.1) (fun z => z q.2)
    simp only [ic_f nq]
    obtain ⟨⟨j, hj, rfl⟩, k, hk, rfl⟩ := q
    have := h.nl3
    rw [tn_nI (by omega), tn_nI (by omega), (r.L hj).2.1, (r.L hk).2.1]
  · have q' : ¬ Rg (tn (s 1)) x ∨ ¬ Rg (tn (s 1)) y := by
      by_cases z : Rg (tn (s 1)) x
      · exact Or.inr (fun w => q ⟨z, w⟩)
      · exact Or.inl z
    rw [ic_t q', ic_t q']
theorem Rel.standE (r : Rel c s) {x : Int32} : ∀ {n : Nat}, n ≤ tn (s 2) → standN c x n = standN s x n
  | 0, _ => rfl
  | n + 1, hn => by
    simp only [standN]
    rw [Rel.standE r (by omega), r.P (by omega) (by omega)]
theorem Rel.accE (r : Rel c s) : ∀ {n : Nat}, n ≤ tn (s 2) → accN c n = accN s n
  | 0, _ => rfl
  | n + 1, hn => by
    simp only [accN]
    rw [Rel.accE r (by omega), r.P (by omega) (by omega)]
theorem Rel.stoodE (r : Rel c s) (h : Inv T s) {l : Nat} (hl : l < tn (s 1)) : ∀ {n : Nat}, n ≤ tn (s (13 + l)) → stoodN c l n = stoodN s l n
  | 0, _ => rfl
  | n + 1, hn => by
    simp only [stoodN]
    rw [Rel.stoodE r h hl (by omega), r.R hl (by omega), r.P (h.rowP hl (by omega)) (by omega)]
/-- one cell that says nothing of who is where -/
theorem Rel.updv (r : Rel c s) (h : Inv T s) {i : Nat} {v w : Int32} (e : v = w) (h1 : i ≠ 1) (h2 : i ≠ 2) (h13 : i < 13 ∨ 16 ≤ i) (h6 : 58 ≤ i → (i - 58) % 10 ≠ 6 ∧ (i - 58) % 10 ≠ 8) : Rel (upd c i v) (upd s i w) := by
  subst e
  have hnl3 := h.nl3
  have k : ∀ x, x ≠ i → upd c i v x = c x ∧ upd s i v x = s x := fun x hx => ⟨by rw [upd_ap, if_neg hx], by rw [upd_ap, if_neg hx]⟩
  have kk : ∀ x, c x = s x → upd c i v x = upd s i v x := fun x hx => by
    simp only [upd_ap]; split
    · rfl
    · exact hx
  have e1 : upd s i v 1 = s 1 := (k 1 (fun z => h1 z.symm)).2
  have e2 : upd s i v 2 = s 2 := (k 2 (fun z => h2 z.symm)).2
  refine ⟨fun x hx => kk x (r.h hx), fun y hy => ?_, fun y j hy hj => ?_, fun p hp => ?_⟩
  · rw [e1] at hy
    exact ⟨kk _ (r.L hy).1, kk _ (r.L hy).2.1, kk _ (r.L hy).2.2.1, kk _ (r.L hy).2.2.2⟩
  · rw [e1] at hy
    rw [(k (13 + y) (by omega)).2] at hj
    exact kk _ (r.R hy hj)
  · rw [e2] at hp
    refine ⟨fun j hj => kk _ (r.P hp hj), ?_⟩
    have := (r.2.2.2 p hp).2
    unfold JR at this ⊢
    rw [(k (58 + 10 * p + 8) (by omega)).1, (k (58 + 10 * p + 8) (by omega)).2, (k (58 + 10 * p + 6) (by omega)).1]
    exact this
/-- the same, if the invariant doesn't hold between -/
theorem Rel.updw (r : Rel c s) (hnl3 : tn (s 1) ≤ 3) {i : Nat} {v w : Int32} (e : v = w) (h1 : i ≠ 1) (h2 : i ≠ 2) (h13 : i < 13 ∨ 16 ≤ i) (h6 : 58 ≤ i → (i - 58) % 10 ≠ 6 ∧ (i - 58) % 10 ≠ 8) : Rel (upd c i v) (upd s i w) := by
  subst e
  have k : ∀ x, x ≠ i → upd c i v x = c x ∧ upd s i v x = s x := fun x hx => ⟨by rw [upd_ap, if_neg hx], by rw [upd_ap, if_neg hx]⟩
  have kk : ∀ x, c x = s x → upd c i v x = upd s i v x := fun x hx => by
    simp only [upd_ap]; split
    · rfl
    · exact hx
  have e1 : upd s i v 1 = s 1 := (k 1 (fun z => h1 z.symm)).2
  have e2 : upd s i v 2 = s 2 := (k 2 (fun z => h2 z.symm)).2
  refine ⟨fun x hx => kk x (r.h hx), fun y hy => ?_, fun y j hy hj => ?_, fun p hp => ?_⟩
  · rw [e1] at hy
    exact ⟨kk _ (r.L hy).1, kk _ (r.L hy).2.1, kk _ (r.L hy).2.2.1, kk _ (r.L hy).2.2.2⟩
  · rw [e1] at hy
    rw [(k (13 + y) (by omega)).2] at hj
    exact kk _ (r.R hy hj)
  · rw [e2] at hp
    refine ⟨fun j hj => kk _ (r.P hp hj), ?_⟩
    have := (r.2.2.2 p hp).2
    unfold JR at this ⊢
    rw [(k (58 + 10 * p + 8) (by omega)).1, (k (58 + 10 * p + 8) (by omega)).2, (k (58 + 10 * p + 6) (by omega)).1]
    exact this
theorem Rel.leaves (r : Rel c s) (h : Inv T s) {l k p : Nat} {st : Int32} (hl : l < tn (s 1)) : Rel (leavesF c l k (tn (s (13 + l))) p st) (leavesF s l k (tn (s (13 + l))) p st) := by
  have hnl3 := h.nl3
  have h12 := h.len12 hl
  refine ⟨fun x hx => by rw [lvF_h (by omega), lvF_h (by omega)]; exact r.h hx, fun y hy => ?_, fun y j hy hj => ?_, fun q hq => ?_⟩
  · rw [lvF_h (by omega)] at hy
    obtain ⟨a, b, d, e⟩ := r.L hy
    rw [lvF_h (by omega), lvF_h (by omega), lvF_13 (by omega) (by omega), lvF_13 (by omega) (by omega), lvF_16 (by omega) (by omega) (by omega), lvF_16 (by omega) (by omega) (by omega), lvF_16 (by omega) (by omega) (by omega), lvF_16 (by omega) (by omega) (by omega), b]
    exact ⟨a, rfl, d, e⟩
  · rw [lvF_h (by omega)] at hy
    rw [lvF_13 (by omega) (by omega)] at hj
    have hy12 := h.len12 hy
    have hj' : j < tn (s (13 + y)) := by
      by_cases q : y = l
      · rw [if_pos q, tn_nI (by omega)] at hj; rw [q]; omega
      · rw [if_neg q] at hj; exact hj
    rw [lvF_r (by omega) (by omega) (by omega) h12, lvF_r (by omega) (by omega) (by omega) h12]
    by_cases q : y = l ∧ k ≤ j ∧ j + 1 < tn (s (13 + l))
    · rw [if_pos q, if_pos q]
      exact r.R hy (by rw [q.1]; exact q.2.2)
    · rw [if_neg q, if_neg q]
      exact r.R hy hj'
  · rw [lvF_h (by omega)] at hq
    refine ⟨fun j hj => ?_, ?_⟩
    · have e := r.P hq hj
      by_cases q1 : j = 1
      · subst q1; rw [lvF_p1 (by omega) h12, lvF_p1 (by omega) h12, e]
      · by_cases q5 : j = 5
        · subst q5; rw [lvF_p5 (by omega) h12, lvF_p5 (by omega) h12, e]
        · rw [lvF_pj (by omega) h12 (by omega) q1 q5, lvF_pj (by omega) h12 (by omega) q1 q5]; exact e
    · have := (r.2.2.2 q hq).2
      unfold JR at this ⊢
      rw [lvF_pj (by omega) h12 (by omega) (by omega) (by omega), lvF_pj (by omega) h12 (by omega) (by omega) (by omega), lvF_pj (by omega) h12 (by omega) (by omega) (by omega)]
      exact this
theorem Rel.goes (r : Rel c s) (h : Inv T s) {p : Nat} (hp : p < tn (s 2)) (hs : s (58 + 10 * p + 5) = 0) : Rel (goesS c p) (goesS s p) := by
  obtain ⟨h1, -⟩ := h.plcs hp hs
  unfold goesS
  rw [r.li hp, r.plcE h hp hs, (r.L h1).2.1]
  exact r.leaves h h1
theorem Rel.exch (r : Rel c s) (h : Inv T s) {p q : Nat} (hp : p < tn (s 2)) (hq : q < tn (s 2)) (hs : s (58 + 10 * p + 5) = 0) (hs2 : s (58 + 10 * q + 5) = 0) : Rel (exchS c p q) (exchS s p q) := by
  obtain ⟨h1, -, h3, -⟩ := h.plcs hp hs
  obtain ⟨g1, -, g3, -⟩ := h.plcs hq hs2
  have h12 := h.len12 h1
  have g12 := h.len12 g1
  have hnl3 := h.nl3
  have hp30 := h.np30
  unfold exchS
  rw [r.li hp, r.plcE h hp hs, r.plcE h hq hs2, r.h (i := 8) (by omega)]
  unfold exchF
  simp only
  have r1 := (r.updw hnl3 (i := 22 + 12 * liN s p + plc s p) (v := nI q) rfl (by omega) (by omega) (by omega) (by omega)).updw (by rw [upd_ap, if_neg (by omega)]; exact hnl3) (i := 22 + 12 * liN s p + plc s q) (v := nI p) rfl (by omega) (by omega) (by omega) (by omega)
  have n1 : ∀ (t : Nat → Int32) (i : Nat) (v : Int32), i ≠ 1 → tn (t 1) ≤ 3 → tn (upd t i v 1) ≤ 3 := fun t i v hi ht => by rw [upd_ap, if_neg (fun z => hi z.symm)]; exact ht
  have m1 := n1 _ (22 + 12 * liN s p + plc s q) (nI p) (by omega) (n1 s (22 + 12 * liN s p + plc s p) (nI q) (by omega) hnl3)
  have p2 : ∀ (t : Nat → Int32) (i : Nat) (v : Int32) (x : Nat), i ≠ 2 → x < tn (t 2) → x < tn (upd t i v 2) := fun t i v x hi ht => by rw [upd_ap, if_neg (fun z => hi z.symm)]; exact ht
  have pp := p2 _ (22 + 12 * liN s p + plc s q) (nI p) p (by omega) (p2 s (22 + 12 * liN s p + plc s p) (nI q) p (by omega) hp)
  have qq := p2 _ (22 + 12 * liN s p + plc s q) (nI p) q (by omega) (p2 s (22 + 12 * liN s p + plc s p) (nI q) q (by omega) hq)
  generalize upd (upd c (22 + 12 * liN s p + plc s p) (nI q)) (22 + 12 * liN s p + plc s q) (nI p) = c1 at r1 ⊢
  generalize upd (upd s (22 + 12 * liN s p + plc s p) (nI q)) (22 + 12 * liN s p + plc s q) (nI p) = s1 at r1 m1 pp qq ⊢
  have r2 := r1.updw m1 (i := 58 + 10 * p + 3) (v := c1 (58 + 10 * p + 3) - nI (plc s p - plc s q) * s 8) (w := s1 (58 + 10 * p + 3) - nI (plc s p - plc s q) * s 8) (by rw [r1.P pp (by omega)]) (by omega) (by omega) (by omega) (by omega)
  have m2 := n1 _ (58 + 10 * p + 3) (s1 (58 + 10 * p + 3) - nI (plc s p - plc s q) * s 8) (by omega) m1
  have pp := p2 _ (58 + 10 * p + 3) (s1 (58 + 10 * p + 3) - nI (plc s p - plc s q) * s 8) p (by omega) pp
  have qq := p2 _ (58 + 10 * p + 3) (s1 (58 + 10 * p + 3) - nI (plc s p - plc s q) * s 8) q (by omega) qq
  generalize upd c1 (58 + 10 * p + 3) (c1 (58 + 10 * p + 3) - nI (plc s p - plc s q) * s 8) = c2 at r2 ⊢
  generalize upd s1 (58 + 10 * p + 3) (s1 (58 + 10 * p + 3) - nI (plc s p - plc s q) * s 8) = s2 at r2 m2 pp qq ⊢
  have r3 := r2.updw m2 (i := 58 + 10 * q + 3) (v := c2 (58 + 10 * q + 3) + nI (plc s p - plc s q) * s 8) (w := s2 (58 + 10 * q + 3) + nI (plc s p - plc s q) * s 8) (by rw [r2.P qq (by omega)]) (by omega) (by omega) (by omega) (by omega)
  have m3 := n1 _ (58 + 10 * q + 3) (s2 (58 + 10 * q + 3) + nI (plc s p - plc s q) * s 8) (by omega) m2
  have pp := p2 _ (58 + 10 * q + 3) (s2 (58 + 10 * q + 3) + nI (plc s p - plc s q) * s 8) p (by omega) pp
  have qq := p2 _ (58 + 10 * q + 3) (s2 (58 + 10 * q + 3) + nI (plc s p - plc s q) * s 8) q (by omega) qq
  generalize upd c2 (58 + 10 * q + 3) (c2 (58 + 10 * q + 3) + nI (plc s p - plc s q) * s 8) = c3 at r3 ⊢
  generalize upd s2 (58 + 10 * q + 3) (s2 (58 + 10 * q + 3) + nI (plc s p - plc s q) * s 8) = s3 at r3 m3 pp qq ⊢
  have r4 := r3.updw m3 (i := 58 + 10 * p + 7) (v := c3 (58 + 10 * p + 7) - nI (plc s p - plc s q)) (w := s3 (58 + 10 * p + 7) - nI (plc s p - plc s q)) (by rw [r3.P pp (by omega)]) (by omega) (by omega) (by omega) (by omega)
  have m4 := n1 _ (58 + 10 * p + 7) (s3 (58 + 10 * p + 7) - nI (plc s p - plc s q)) (by omega) m3
  have qq := p2 _ (58 + 10 * p + 7) (s3 (58 + 10 * p + 7) - nI (plc s p - plc s q)) q (by omega) qq
  generalize upd c3 (58 + 10 * p + 7) (c3 (58 + 10 * p + 7) - nI (plc s p - plc s q)) = c4 at r4 ⊢
  generalize upd s3 (58 + 10 * p + 7) (s3 (58 + 10 * p + 7) - nI (plc s p - plc s q)) = s4 at r4 m4 qq ⊢
  have r5 := r4.updw m4 (i := 58 + 10 * q + 7) (v := c4 (58 + 10 * q + 7) + nI (plc s p - plc s q)) (w := s4 (58 + 10 * q + 7) + nI (plc s p - plc s q)) (by rw [r4.P qq (by omega)]) (by omega) (by omega) (by omega) (by omega)
  have m5 := n1 _ (58 + 10 * q + 7) (s4 (58 + 10 * q + 7) + nI (plc s p - plc s q)) (by omega) m4
  generalize upd c4 (58 + 10 * q + 7) (c4 (58 + 10 * q + 7) + nI (plc s p - plc s q)) = c5 at r5 ⊢
  generalize upd s4 (58 + 10 * q + 7) (s4 (58 + 10 * q + 7) + nI (plc s p - plc s q)) = s5 at r5 m5 ⊢
  exact r5.updw m5 (by rw [r5.h (by omega)]) (by omega) (by omega) (by omega) (by omega)
end REL
